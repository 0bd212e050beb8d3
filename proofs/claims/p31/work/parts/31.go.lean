/-! the law's own step, over its row of numbers -/
def GG (c s k b : Nat) (kd tk gr gg : Nat → Int32) : Prop := (gg 0 = nI c ∧ gg 1 = nI s ∧ gg 2 = nI k ∧ gg 3 = nI b) ∧ ∀ f, f < c → gg (4 + f) = kd f ∧ gg (14 + f) = tk f ∧ gr f = (if bt (gg 24) f = true then 1 else 0)
def RD (c s k b : Nat) (kd tk gr : Nat → Int32) : Prop := (2 ≤ c ∧ 1 ≤ s ∧ s ≤ 4 ∧ 1 ≤ k ∧ k ≤ 3 ∧ b ≤ 2) ∧ okF c kd tk gr
def enc (x : P4) : Nat := 84 * x.1 + 12 * x.2.1 + 3 * x.2.2.1 + x.2.2.2
theorem g25_0 {α : Type} (k : Option α) : gx (0 : Int32) 25 k = k := gxi (by decide)
theorem g25_1 {α : Type} (k : Option α) : gx (1 : Int32) 25 k = k := gxi (by decide)
theorem g25_2 {α : Type} (k : Option α) : gx (2 : Int32) 25 k = k := gxi (by decide)
theorem g25_3 {α : Type} (k : Option α) : gx (3 : Int32) 25 k = k := gxi (by decide)
theorem g25_24 {α : Type} (k : Option α) : gx (24 : Int32) 25 k = k := gxi (by decide)
theorem cl_0 : (0 : Int32).toNatClampNeg = 0 := by decide +kernel
theorem cl_1 : (1 : Int32).toNatClampNeg = 1 := by decide +kernel
theorem cl_2 : (2 : Int32).toNatClampNeg = 2 := by decide +kernel
theorem cl_3 : (3 : Int32).toNatClampNeg = 3 := by decide +kernel
theorem cl_24 : (24 : Int32).toNatClampNeg = 24 := by decide +kernel
theorem ad14 (f : Nat) : (14 : Int32) + nI f = nI (14 + f) := nI_add 14 f
theorem ad4 (f : Nat) : (4 : Int32) + nI f = nI (4 + f) := nI_add 4 f
theorem sm2 : ∀ n, n < 7 → nI n + (-2 : Int32) = if 2 ≤ n then nI (n - 2) else if n = 1 then -1 else -2 := by decide +kernel
theorem m1sub : ∀ t, t < 6 → ¬ (0 : Int32) ≤ (-1 : Int32) - nI t := by decide +kernel
theorem encE (f p t o : Nat) : ((((84 : Int32) * nI f) + ((12 : Int32) * nI p)) + ((3 : Int32) * nI t)) + nI o = nI (enc (f, p, t, o)) := by
  show ((nI 84 * nI f + nI 12 * nI p) + nI 3 * nI t) + nI o = _
  rw [pk_mul, pk_mul, pk_mul, nI_add, nI_add, nI_add]
  rfl
section Go
variable {c s k b : Nat} {kd tk gr gg : Nat → Int32}
theorem dragL (ok : okF c kd tk gr) (h : GG c s k b kd tk gr gg) {f : Nat} (hf : f < c) : f_L_drag gg (nI f) = some (nI (dgN kd tk f)) := by
  have hc := ok.1
  obtain ⟨-, ⟨t, ht, e⟩, -⟩ := ok.2 f hf
  obtain ⟨h1, h2, -⟩ := h.2 f hf
  have ht2 : (nI t).toNatClampNeg = t := nI_clamp (by omega)
  have c1 : (nI (14 + f)).toNatClampNeg = 14 + f := nI_clamp (by omega)
  have c2 : (nI (4 + f)).toNatClampNeg = 4 + f := nI_clamp (by omega)
  have gA : ∀ {α : Type} (x : Option α), gx (nI (14 + f)) 25 x = x := fun x => gxN (by omega) (by omega)
  have gB : ∀ {α : Type} (x : Option α), gx (nI (4 + f)) 25 x = x := fun x => gxN (by omega) (by omega)
  rw [f_L_drag, ad14, ad4, gA, gB, gB, c1, c2, h1, h2, dgN, e, ht2]
  by_cases q1 : kd f = 1
  · rw [it' q1, it' q1, nI_1]
  · rw [ie' q1, ie' q1]
    by_cases q2 : kd f = 2
    · rw [it' q2, it' q2, nI_half (by omega)]
    · rw [ie' q2, ie' q2]
theorem goLoop (hc : c ≤ 10) (h : GG c s k b kd tk gr gg) (x3 x4 : Int32) (K : Int32 → Int32 → Int32 → Int32 → Option Int32) (p : Nat) (hp : p ≤ 6) : ∀ (d n f : Nat), d < n → d ≤ 3 → f ≤ c → f_L_go_L174 gg K n x3 x4 (nI p) (nI f) (nI d) = K x3 x4 (nI (rlN c gr d f p).2) (nI (rlN c gr d f p).1) := by
  intro d
  induction d with
  | zero =>
    intro n f hn _ hf
    obtain ⟨n, rfl⟩ : ∃ z, n = z + 1 := ⟨n - 1, by omega⟩
    rw [f_L_go_L174, it' (show nI 0 ≤ (0 : Int32) by decide)]
    rfl
  | succ d ih =>
    intro n f hn hd hf
    obtain ⟨n, rfl⟩ : ∃ z, n = z + 1 := ⟨n - 1, by omega⟩
    have d0 : ¬ nI (d + 1) ≤ (0 : Int32) := nI_nle (by omega) (by omega)
    have blk : ∀ y, f_L_go_174_225 (f_L_go_L174 gg K n) x3 x4 (nI y) (nI (f + 1)) (nI (d + 1)) = f_L_go_L174 gg K n x3 x4 (nI y) (nI (f + 1)) (nI d) := fun y => by
      rw [f_L_go_174_225, pk_m1]
    rw [f_L_go_L174, ie' d0, g25_0, g25_0, g25_24, cl_0, cl_24, h.1.1, nI_1, rlN]
    by_cases h1 : c ≤ f
    · rw [it' (nI_le h1 (by omega)), if_pos h1]
    · rw [ie' (nI_ge (by omega) (by omega)), if_neg h1]
      by_cases h2 : f + 1 = c
      · rw [it' (show nI (f + 1) = nI c by rw [h2]), blk, if_neg (by omega)]
        exact ih n (f + 1) (by omega) (by omega) (by omega)
      · rw [ie' (fun q => h2 ((nI_eq (by omega) (by omega)).mp q))]
        by_cases h3 : p < 4
        · rw [it' (show nI p < (4 : Int32) from nI_lt (b := 4) h3 (by omega)), blk, if_neg (by omega)]
          exact ih n (f + 1) (by omega) (by omega) (by omega)
        · rw [ie' (show ¬ nI p < (4 : Int32) from nI_nlt (b := 4) (by omega) (by omega)), bitv _ (by omega)]
          have e := (h.2 (f + 1) (by omega)).2.2
          by_cases h4 : bt (gg 24) (f + 1) = true
          · rw [if_pos h4] at e
            rw [if_pos h4, ie' n10, if_pos ⟨by omega, by omega, by rw [e]; decide⟩, f_L_go_174_225]
            have n1 : ∃ z, n = z + 1 := ⟨n - 1, by omega⟩
            obtain ⟨n, rfl⟩ := n1
            rw [f_L_go_L174, it' (by decide)]
            rfl
          · rw [if_neg h4] at e
            rw [if_neg h4, it' z00, blk, if_neg (fun q => q.2.2 e)]
            exact ih n (f + 1) (by omega) (by omega) (by omega)
theorem go168 (hc : c ≤ 10) (h : GG c s k b kd tk gr gg) (x3 x4 : Int32) {p f : Nat} (hp : p ≤ 6) (hf : f ≤ c) : f_L_go_168 gg x3 x4 (nI p) (nI f) = f_L_go_231 x3 x4 (nI (rlN c gr (p / 2) f p).2) (nI (rlN c gr (p / 2) f p).1) := by
  rw [f_L_go_168, nI_half (by omega)]
  exact goLoop hc h x3 x4 _ p hp (p / 2) 100 f (by omega) (by omega) hf
theorem go149 (ok : okF c kd tk gr) (h : GG c s k b kd tk gr gg) (x3 x4 : Int32) {x5 : Int32} {q f : Nat} (hq : q ≤ 6) (hf : f < c) (h5 : x5 = nI q ∨ (x5 = -1 ∧ q = 0)) : f_L_go_149 gg x3 x4 x5 (nI f) = f_L_go_231 x3 x4 (nI (roN c kd tk gr f q).2) (nI (roN c kd tk gr f q).1) := by
  have hd := dgN_le ok hf
  have hc := ok.1
  rw [f_L_go_149, dragL ok h hf, obind]
  unfold roN
  have z : ∀ y : Nat, y = 0 → f_L_go_168 gg x3 x4 (0 : Int32) (nI f) = f_L_go_231 x3 x4 (nI (rlN c gr (y / 2) f y).2) (nI (rlN c gr (y / 2) f y).1) := by
    intro y hy
    subst hy
    exact go168 (p := 0) hc h x3 x4 (by omega) (by omega)
  rcases h5 with rfl | ⟨rfl, rfl⟩
  · by_cases h1 : dgN kd tk f ≤ q
    · rw [nI_sub h1, it' (nI_pos' (by omega)), go168 hc h x3 x4 (by omega) (by omega)]
    · rw [ie' (nle (pk_sneg (by omega) (by omega)))]
      exact z _ (by omega)
  · rw [ie' (m1sub _ (by omega))]
    exact z _ (by omega)
/-- behind the act's own change of pace -/
theorem go138 (ok : okF c kd tk gr) (h : GG c s k b kd tk gr gg) (t o : Nat) {x5 : Int32} {q f : Nat} (hf : f < c) (h5 : x5 = nI q ∨ (x5 = -1 ∧ q = 0)) (hq : q < 20) : f_L_go_138 gg (nI o) (nI t) x5 (nI f) = some (nI (enc ((roN c kd tk gr f (min 6 q)).1, (roN c kd tk gr f (min 6 q)).2, t, o))) := by
  rw [f_L_go_138]
  have fin : ∀ {y : Int32} {r : Nat}, r ≤ 6 → (y = nI r ∨ (y = -1 ∧ r = 0)) → f_L_go_149 gg (nI o) (nI t) y (nI f) = some (nI (enc ((roN c kd tk gr f r).1, (roN c kd tk gr f r).2, t, o))) := by
    intro y r hr hy
    rw [go149 ok h _ _ hr hf hy, f_L_go_231, encE]
  rcases h5 with rfl | ⟨rfl, rfl⟩
  · by_cases h1 : q ≤ 6
    · rw [it' (show nI q ≤ (6 : Int32) from nI_le (b := 6) h1 (by omega)), fin h1 (Or.inl rfl), show min 6 q = q by omega]
    · rw [ie' (show ¬ nI q ≤ (6 : Int32) from nI_ge (a := 6) (by omega) (by omega)), fin (y := (6 : Int32)) (r := 6) (by omega) (Or.inl rfl), show min 6 q = 6 by omega]
  · rw [it' (by decide), fin (r := 0) (by omega) (Or.inr ⟨rfl, rfl⟩)]
    rfl
def goR : Option P4 → Int32
  | none => -9
  | some y => nI (enc y)
theorem goL (h : GG c s k b kd tk gr gg) (r : RD c s k b kd tk gr) {a : Nat} {x : P4} (hx : okP c x) (ht : x.2.2.1 ≤ k) (ha : a ≤ 4) : f_L_go gg (nI (enc x)) (nI a) = some (goR (stN c s k kd tk gr a x)) := by
  obtain ⟨⟨r1, r2, r3, r4, r5, r6⟩, ok⟩ := r
  have hc := ok.1
  obtain ⟨h1, h2, h3, h4⟩ := hx
  have hE : enc x < 2 ^ 31 := by unfold enc; omega
  have e84 : nI (enc x) / (84 : Int32) = nI x.1 := (pk_div (d := 84) hE (by omega) (by omega)).trans (congrArg nI (by unfold enc; omega))
  have e3 : nI (enc x) - nI (enc x) / (3 : Int32) * (3 : Int32) = nI x.2.2.2 := (pk_rem (d := 3) hE (by omega) (by omega)).trans (congrArg nI (by unfold enc; omega))
  have e12 : nI (enc x) / (12 : Int32) - nI (enc x) / (12 : Int32) / (7 : Int32) * (7 : Int32) = nI x.2.1 := by
    rw [show nI (enc x) / (12 : Int32) = nI (enc x / 12) from pk_div (d := 12) hE (by omega) (by omega)]
    exact (pk_rem (d := 7) (by omega) (by omega) (by omega)).trans (congrArg nI (by unfold enc; omega))
  have e4 : nI (enc x) / (3 : Int32) - nI (enc x) / (3 : Int32) / (4 : Int32) * (4 : Int32) = nI x.2.2.1 := by
    rw [show nI (enc x) / (3 : Int32) = nI (enc x / 3) from pk_div (d := 3) hE (by omega) (by omega)]
    exact (pk_rem (d := 4) (by omega) (by omega) (by omega)).trans (congrArg nI (by unfold enc; omega))
  rw [f_L_go, e84, e3, e12, e4, g25_0, g25_2, cl_0, cl_2, h.1.1, h.1.2.2.1]
  by_cases hf : x.1 = c
  · rw [it' (show nI x.1 = nI c by rw [hf])]
    have e : stN c s k kd tk gr a x = none := by unfold stN; rw [if_pos (by omega)]
    rw [e]; rfl
  have hf' : ¬ c ≤ x.1 := by omega
  rw [ie' (fun q => hf ((nI_eq (by omega) (by omega)).mp q))]
  rcases a5 ha with rfl | rfl | rfl | rfl | rfl
  · rw [it' (by decide), stN_0 hf']
    by_cases q1 : x.2.2.1 = k
    · rw [it' (show nI x.2.2.1 = nI k by rw [q1]), if_neg (by omega)]; rfl
    · rw [ie' (fun q => q1 ((nI_eq (by omega) (by omega)).mp q))]
      by_cases q2 : x.2.1 = 6
      · rw [it' (show nI x.2.1 = (6 : Int32) by rw [q2]; rfl), if_neg (by omega)]; rfl
      · rw [ie' (show ¬ nI x.2.1 = (6 : Int32) from fun q => q2 ((nI_eq (b := 6) (by omega) (by omega)).mp q)), if_pos ⟨by omega, by omega⟩, f_L_go_53, ie' (by decide), f_L_go_63, ie' (by decide), f_L_go_80, ie' (by decide), it' (by decide), g25_1, cl_1, h.1.2.1, nI_add, f_L_go_107, it' (by decide), nI_1, f_L_go_114, ie' (by decide), f_L_go_122, ie' (by decide), f_L_go_130, ie' (by decide), go138 ok h _ _ (by omega) (Or.inl rfl) (by omega)]
        rfl
  · rw [ie' (by decide), stN_1 hf', f_L_go_53, ie' (by decide), f_L_go_63, ie' (by decide), f_L_go_80, ie' (by decide), ie' (by decide), f_L_go_107, ie' (by decide), f_L_go_114, it' (by decide), f_L_go_122, ie' (by decide), f_L_go_130, ie' (by decide), show (0 : Int32) = nI 0 from rfl, go138 ok h _ _ (by omega) (Or.inl rfl) (by omega), show min 6 x.2.1 = x.2.1 by omega]
    rfl
  · rw [ie' (by decide), stN_2 hf', f_L_go_53, it' (by decide)]
    by_cases q1 : x.2.1 = 0
    · rw [it' (show nI x.2.1 = (0 : Int32) by rw [q1]; rfl), if_neg (by omega)]; rfl
    · rw [ie' (nI_ne0 (by omega) (by omega)), if_pos (by omega), f_L_go_63, ie' (by decide), f_L_go_80, ie' (by decide), ie' (by decide), f_L_go_107, ie' (by decide), f_L_go_114, ie' (by decide), f_L_go_122, ie' (by decide), f_L_go_130, ie' (by decide), go138 ok h _ _ (by omega) (Or.inl rfl) (by omega), show min 6 x.2.1 = x.2.1 by omega]
      rfl
  · rw [ie' (by decide), stN_3 hf', f_L_go_53, ie' (by decide), f_L_go_63, it' (by decide)]
    by_cases q1 : x.2.1 = 0
    · rw [it' (show nI x.2.1 = (0 : Int32) by rw [q1]; rfl), if_neg (by omega)]; rfl
    · rw [ie' (nI_ne0 (by omega) (by omega))]
      by_cases q2 : x.2.2.2 = 0
      · rw [it' (show nI x.2.2.2 = (0 : Int32) by rw [q2]; rfl), if_neg (by omega)]; rfl
      · have eo : nI x.2.2.2 + (-1 : Int32) = nI (x.2.2.2 - 1) := by
          rw [show x.2.2.2 = (x.2.2.2 - 1) + 1 by omega, pk_m1, Nat.add_sub_cancel]
        have e5 : nI x.2.1 + (-2 : Int32) = nI (x.2.1 - 2) ∨ (nI x.2.1 + (-2 : Int32) = -1 ∧ x.2.1 - 2 = 0) := by
          rw [sm2 _ (by omega)]
          by_cases q3 : 2 ≤ x.2.1
          · exact Or.inl (if_pos q3)
          · exact Or.inr ⟨by rw [if_neg q3, if_pos (by omega)], by omega⟩
        rw [ie' (nI_ne0 (by omega) (by omega)), if_pos ⟨by omega, by omega⟩, f_L_go_80, ie' (by decide), ie' (by decide), f_L_go_107, ie' (by decide), f_L_go_114, ie' (by decide), f_L_go_122, it' (by decide), f_L_go_130, it' (by decide), eo, go138 ok h _ _ (by omega) e5 (by omega), show min 6 (x.2.1 - 2) = x.2.1 - 2 by omega]
        rfl
  · rw [ie' (by decide), stN_4 hf', f_L_go_53, ie' (by decide), f_L_go_63, ie' (by decide), f_L_go_80, it' (by decide), nI_1]
    show some (nI 84 * nI (x.1 + 1) + nI x.2.2.2) = _
    rw [pk_mul, nI_add]
    rfl
theorem stN_t {c s k : Nat} {kd tk gr : Nat → Int32} {a : Nat} {x y : P4} (ht : x.2.2.1 ≤ k) (h : stN c s k kd tk gr a x = some y) : y.2.2.1 ≤ k := by
  unfold stN at h
  by_cases hc : c ≤ x.1
  · rw [if_pos hc] at h; cases h
  rw [if_neg hc] at h
  by_cases a0 : a = 0
  · rw [if_pos a0] at h
    by_cases q : x.2.2.1 < k ∧ x.2.1 < 6
    · rw [if_pos q] at h; cases h
      show x.2.2.1 + 1 ≤ k
      omega
    · rw [if_neg q] at h; cases h
  rw [if_neg a0] at h
  by_cases a1 : a = 1
  · rw [if_pos a1] at h; cases h
    exact Nat.zero_le _
  rw [if_neg a1] at h
  by_cases a2 : a = 2
  · rw [if_pos a2] at h
    by_cases q : 0 < x.2.1
    · rw [if_pos q] at h; cases h
      exact ht
    · rw [if_neg q] at h; cases h
  rw [if_neg a2] at h
  by_cases a3 : a = 3
  · rw [if_pos a3] at h
    by_cases q : 0 < x.2.1 ∧ 0 < x.2.2.2
    · rw [if_pos q] at h; cases h
      exact ht
    · rw [if_neg q] at h; cases h
  rw [if_neg a3] at h
  by_cases a4 : a = 4
  · rw [if_pos a4] at h; cases h
    exact Nat.zero_le _
  · rw [if_neg a4] at h; cases h
end Go
