/-! the class reads the law's text -/
theorem zadd (p : Nat) : (0 : Int32) + nI p = nI p := Int32.zero_add (nI p)
theorem sub48 {d : Nat} : nI (48 + d) - (48 : Int32) = nI d := by
  have : nI (48 + d) - nI 48 = nI (48 + d - 48) := nI_sub (Nat.le_add_right 48 d)
  rw [show 48 + d - 48 = d by omega] at this
  exact this
theorem letL {x : Int32} (h : x = 0 ∨ x = 1 ∨ x = 2) : f_X3_kindOfLetter (ltr x) = some x := by
  rcases h with rfl | rfl | rfl <;> decide +kernel
theorem x9 {x : Int32} (h : x = 0 ∨ x = 1 ∨ x = 2) : ¬ x = -9 := by
  rcases h with rfl | rfl | rfl <;> decide
theorem l35 {x : Int32} (h : x = 0 ∨ x = 1 ∨ x = 2) : ¬ ltr x = (35 : Int32) := by
  rcases h with rfl | rfl | rfl <;> decide +kernel
section Rd
variable {m n : Nat} {ce : Nat → Int32}
theorem hdL (hn : n ≤ 60) (hm : m ≤ n) {p lo hi v : Nat} (hp : p < m) (h4 : p < 4) (hlo : sLE p = nI lo) (hhi : sMO p = nI hi) (hv : ce p = nI v) (h1 : lo ≤ v) (h2 : v ≤ hi) (h3 : hi < 1000) (k15 k49 k58) (st kn sb : Int32) (N : Nat) : f_X3_readHead_L3 (nI n) ce 0 (nI m) k15 k49 k58 (N + 1) (nI p) st kn sb = f_X3_readHead_L3 (nI n) ce 0 (nI m) k15 k49 k58 N (nI (p + 1)) st kn sb := by
  have cl : (nI p).toNatClampNeg = p := nI_clamp (by omega)
  rw [f_X3_readHead_L3, ie' (show ¬ (4 : Int32) ≤ nI p from nI_ge (b := 4) h4 (by omega)), it' (nI_lt hp (by omega)), zadd, atL hn (by omega), obind, gxN h4 (by omega), cl, hlo, hhi, hv, ie' (nI_nlt h1 (by omega)), gxN h4 (by omega), it' (nI_le h2 (by omega)), nI_1]
theorem headL {c s k b : Nat} {B : Nat → Bool} {kd tk : Nat → Int32} (hn : n ≤ 60) (hm : m ≤ n) (h4 : 4 ≤ m) (hs : 1 ≤ s ∧ s ≤ 4) (hk : 1 ≤ k ∧ k ≤ 3) (hb : b ≤ 2) (h : TX B s k b kd tk ce c) (st kn sb : Int32) : f_X3_readHead st kn sb (nI n) ce 0 (nI m) = some (-9, nI s, nI k, nI b) := by
  obtain ⟨⟨t0, t1, t2, t3⟩, -⟩ := h
  have a1 : f_X1_at (nI n) ce ((0 : Int32) + (1 : Int32)) = some (nI (48 + s)) := (atL (i := 1) hn (by omega) ce).trans (congrArg some t1)
  have a2 : f_X1_at (nI n) ce ((0 : Int32) + (2 : Int32)) = some (nI (48 + k)) := (atL (i := 2) hn (by omega) ce).trans (congrArg some t2)
  have a3 : f_X1_at (nI n) ce ((0 : Int32) + (3 : Int32)) = some (nI (48 + b)) := (atL (i := 3) hn (by omega) ce).trans (congrArg some t3)
  rw [f_X3_readHead, a1, a2, a3]
  refine (hdL (p := 0) (lo := 115) (hi := 115) hn hm (by omega) (by omega) rfl rfl t0 (by omega) (by omega) (by omega) _ _ _ st kn sb 99).trans ?_
  refine (hdL (p := 1) (lo := 49) (hi := 52) hn hm (by omega) (by omega) rfl rfl t1 (by omega) (by omega) (by omega) _ _ _ st kn sb 98).trans ?_
  refine (hdL (p := 2) (lo := 49) (hi := 51) hn hm (by omega) (by omega) rfl rfl t2 (by omega) (by omega) (by omega) _ _ _ st kn sb 97).trans ?_
  refine (hdL (p := 3) (lo := 48) (hi := 50) hn hm (by omega) (by omega) rfl rfl t3 (by omega) (by omega) (by omega) _ _ _ st kn sb 96).trans ?_
  rw [f_X3_readHead_L3, it' (by decide), obind, obind, obind, sub48, sub48, sub48]
theorem flagL (hn : n ≤ 60) (hm : m ≤ n) {p f t : Nat} {x : Int32} (hp : p + 2 ≤ m) (hf : f < 10) (hx : x = 0 ∨ x = 1 ∨ x = 2) (ht : t ≤ 4) (e1 : ce p = ltr x) (e2 : ce (p + 1) = nI (48 + t)) (kd tk gr : Nat → Int32) : f_X3_readFlag (nI f) (nI n) kd tk gr ce 0 (nI m) (nI p) = some (-9, nI (f + 1), upd kd f x, upd tk f (nI t), upd gr f 0) := by
  have cf : (nI f).toNatClampNeg = f := nI_clamp (by omega)
  have gf : ∀ {α : Type} (x : Option α), gx (nI f) 10 x = x := fun x => gxN hf (by omega)
  rw [f_X3_readFlag, zadd, nI_1, nI_1, atL hn (show p < n by omega), obind, e1, letL hx, obind, ie' (x9 hx), it' (show nI f < (10 : Int32) from nI_lt (b := 10) hf (by omega)), it' (nI_lt (show p + 1 < m by omega) (by omega)), atL hn (show p + 1 < n by omega), obind, e2, ie' (show ¬ nI (48 + t) < (48 : Int32) from nI_nlt (b := 48) (by omega) (by omega)), it' (show nI (48 + t) ≤ (52 : Int32) from nI_le (b := 52) (by omega) (by omega)), gf, gf, gf, cf, sub48]
theorem textLoop {c s k b : Nat} {B : Nat → Bool} {kd tk : Nat → Int32} (hn : n ≤ 60) (hm : psN B c ≤ n) (hc2 : 2 ≤ c) (hc : c ≤ 10) (h : TX B s k b kd tk ce c) (hv : ∀ j, j < c → (kd j = 0 ∨ kd j = 1 ∨ kd j = 2) ∧ ∃ t, t ≤ 4 ∧ tk j = nI t) (st kn sb : Int32) : ∀ (d N f : Nat) (ku tu gu : Nat → Int32), f + d = c → d + 1 < N → (∀ j, j < f → ku j = kd j ∧ tu j = tk j ∧ gu j = if B j = true then 1 else 0) → ∃ (kd' tk' gr' : Nat → Int32), f_X3_readText_L20 (nI n) ce 0 (nI (psN B c)) (fun x4 x5 cn st kn sb kd tk gr => f_X3_readText_97 (nI (psN B c)) x4 x5 cn st kn sb kd tk gr) N (-9) (nI (psN B f)) (nI f) (nI f) st kn sb ku tu gu = some (-9, nI c, st, kn, sb, kd', tk', gr') ∧ ∀ j, j < c → kd' j = kd j ∧ tk' j = tk j ∧ gr' j = if B j = true then 1 else 0 := by
  intro d
  induction d with
  | zero =>
    intro N f ku tu gu hf hN hI
    obtain ⟨N, rfl⟩ : ∃ t, N = t + 1 := ⟨N - 1, by omega⟩
    obtain rfl : f = c := by omega
    have hp := psN_le B f
    have e97 : f_X3_readText_97 (nI (psN B f)) (-9) (nI (psN B f)) (nI f) st kn sb ku tu gu = some (-9, nI f, st, kn, sb, ku, tu, gu) := by
      rw [f_X3_readText_97, it' rfl, it' (nI_le (Nat.le_refl _) (by omega)), it' (show (2 : Int32) ≤ nI f from nI_le (a := 2) hc2 (by omega))]
    refine ⟨ku, tu, gu, ?_, hI⟩
    rw [f_X3_readText_L20]
    by_cases q : f = 10
    · rw [it' (show (10 : Int32) ≤ nI f from nI_le (a := 10) (by omega) (by omega)), e97]
    · rw [ie' (show ¬ (10 : Int32) ≤ nI f from nI_ge (b := 10) (by omega) (by omega)), it' rfl, it' (nI_le (Nat.le_refl _) (by omega)), e97]
  | succ d ih =>
    intro N f ku tu gu hf hN hI
    obtain ⟨N, rfl⟩ : ∃ t, N = t + 1 := ⟨N - 1, by omega⟩
    have hfc : f < c := by omega
    obtain ⟨t0, hT⟩ := id h
    obtain ⟨w1, w2, w3⟩ := hT f hfc
    obtain ⟨hx, t, ht, et⟩ := hv f hfc
    have hin := psN_in (B := B) hfc
    have hp := psN_le B c
    have cf : (nI f).toNatClampNeg = f := nI_clamp (by omega)
    have fl := flagL (m := psN B c) hn hm (p := psN B f) (f := f) (t := t) (by omega) (by omega) hx ht w1 (w2 t et) ku tu gu
    have hI2 : ∀ gu' : Nat → Int32, (gu' f = if B f = true then 1 else 0) → (∀ j, j < f → gu' j = gu j) → ∀ j, j < f + 1 → upd ku f (kd f) j = kd j ∧ upd tu f (nI t) j = tk j ∧ gu' j = if B j = true then 1 else 0 := by
      intro gu' h1 h2 j hj
      by_cases z : j = f
      · rw [z, pk_us, pk_us]; exact ⟨rfl, et.symm, h1⟩
      · rw [pk_un z, pk_un z, h2 j (by omega)]; exact hI j (by omega)
    have two : nI (psN B f) + (2 : Int32) = nI (psN B f + 2) := nI_add _ 2
    rw [f_X3_readText_L20, ie' (show ¬ (10 : Int32) ≤ nI f from nI_ge (b := 10) (by omega) (by omega)), it' rfl, ie' (nI_ge (show psN B f < psN B c by omega) (by omega)), fl, obind, it' rfl, two, nI_1]
    by_cases q : B f = true
    · rw [if_pos q] at hin
      rw [ie' (nI_ge (show psN B f + 2 < psN B c by omega) (by omega)), zadd, atL hn (by omega), obind, it' (w3 q), gxN (show f < 10 by omega) (by omega), cf, nI_1]
      have e : psN B (f + 1) = psN B f + 2 + 1 := by rw [psN, if_pos q]
      obtain ⟨kd', tk', gr', i1, i2⟩ := ih N (f + 1) (upd ku f (kd f)) (upd tu f (nI t)) (upd (upd gu f 0) f 1) (by omega) (by omega) (hI2 _ (by rw [pk_us, if_pos q]) (fun j hj => by rw [pk_un (by omega), pk_un (by omega)]))
      rw [e] at i1
      exact ⟨kd', tk', gr', i1, i2⟩
    · have e : psN B (f + 1) = psN B f + 2 := by rw [psN, if_neg q]
      obtain ⟨kd', tk', gr', i1, i2⟩ := ih N (f + 1) (upd ku f (kd f)) (upd tu f (nI t)) (upd gu f 0) (by omega) (by omega) (hI2 _ (by rw [pk_us, if_neg q]) (fun j hj => by rw [pk_un (by omega)]))
      rw [e] at i1
      refine ⟨kd', tk', gr', ?_, i2⟩
      by_cases q2 : f + 1 = c
      · rw [it' (nI_le (show psN B c ≤ psN B f + 2 by rw [← q2, e]; exact Nat.le_refl _) (by omega))]
        exact i1
      · have hf1 : f + 1 < c := by omega
        have hin1 := psN_in (B := B) hf1
        rw [e] at hin1
        obtain ⟨y1, -, -⟩ := hT (f + 1) hf1
        rw [e] at y1
        rw [ie' (nI_ge (show psN B f + 2 < psN B c by omega) (by omega)), zadd, atL hn (by omega), obind, ie' (by rw [y1]; exact l35 (hv (f + 1) hf1).1)]
        exact i1
end Rd
theorem streetL {c s k b : Nat} {gg ce : Nat → Int32} (hc2 : 2 ≤ c) (hc : c ≤ 10) (hs : 1 ≤ s ∧ s ≤ 4) (hk : 1 ≤ k ∧ k ≤ 3) (hb : b ≤ 2) (h : IV c s k b c gg ce) (ab au : Nat) (rc cnu stu knu sbu : Int32) (kdu tku gru : Nat → Int32) : ∃ (kd tk gr : Nat → Int32), f_X4_street ab au rc cnu stu knu sbu 1 0 (nI 60) kdu tku gru ce 0 0 0 (nI (psN (bt (gg 24)) c)) 0 = some (nI c, au, ab, 0, 0, nI c, nI s, nI k, nI b, kd, tk, gr) ∧ RD c s k b kd tk gr ∧ GG c s k b kd tk gr gg := by
  obtain ⟨h0, hv, hb2, hT⟩ := id h
  have hp := psN_le (bt (gg 24)) c
  have e1 : f_X1_isUnlike 1 0 0 = some 0 := by decide +kernel
  have e2 : f_X1_holds (nI 60) (0 : Int32) (nI (psN (bt (gg 24)) c)) = some 1 := holdsL (i := 0) (by omega) (by omega)
  obtain ⟨kd', tk', gr', i1, i2⟩ := textLoop (n := 60) (by omega) (by omega) hc2 hc hT hv (nI s) (nI k) (nI b) c 100 0 kdu tku gru (by omega) (by omega) (fun j hj => absurd hj (Nat.not_lt_zero j))
  have e3 : f_X3_readText cnu stu knu sbu (nI 60) kdu tku gru ce 0 (nI (psN (bt (gg 24)) c)) = some (-9, nI c, nI s, nI k, nI b, kd', tk', gr') := by
    rw [f_X3_readText, headL (n := 60) (by omega) (by omega) (by omega) hs hk hb hT, obind]
    exact i1
  refine ⟨kd', tk', gr', ?_, ⟨⟨hc2, hs.1, hs.2, hk.1, hk.2, hb⟩, hc, fun j hj => ?_⟩, h0, fun j hj => ?_⟩
  · rw [f_X4_street, iS0, obind, ie' n10, iL0, obind, ie' n10, g4_0, gdi cl_0, e1, obind, it' z00, ie' n10, it' (nI_pos' (by omega)), e2, obind, ie' n10, e3, obind, it' rfl]
  · obtain ⟨a1, a2, a3⟩ := i2 j hj
    obtain ⟨o1, o2⟩ := hv j hj
    rw [a1, a2, a3]
    refine ⟨o1, o2, ?_⟩
    split
    · exact Or.inr rfl
    · exact Or.inl rfl
  · obtain ⟨a1, a2, a3⟩ := i2 j hj
    exact ⟨a1.symm, a2.symm, a3⟩
