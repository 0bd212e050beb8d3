/-! the odds, both sides -/
section Od
def upO (o : Nat → Nat) (e f : Nat) : Nat → Nat := fun j => if j = e then f else o j
variable {c s k b e n : Nat} {kd tk gr kdu tku gru vk vt vg vp ve of : Nat → Int32} {o : Nat → Nat}
/-- the open flags -/
theorem openL (h : St c s k b kd tk gr vk vt vg) (y : ZM) : ∀ KK, ∀ (d N L f e : Nat) (o : Nat → Nat) (of vp ve : Nat → Int32), f + d = c → d < N → d < L → e ≤ f → (∀ j, j < e → o j < c ∧ ve j = nI (o j) ∧ (j < 4 → of j = nI (o j))) → (∀ j, j < f → vp j = vk j) → ∃ (e' : Nat) (o' : Nat → Nat) (of' vp' ve' : Nat → Int32), f_X4_findOpenFlags_L4 (nI c) kd (fun (x1 : Int32) (of : Nat → Int32) => some (x1, of)) N (nI e) (nI f) of = some (nI e', of') ∧ f_X5_odds_L35 (nI c) KK L (nI e) (nI f) y.1 y.2.1 y.2.2.1 y.2.2.2.1 y.2.2.2.2.1 y.2.2.2.2.2.1 y.2.2.2.2.2.2.1 y.2.2.2.2.2.2.2.1 y.2.2.2.2.2.2.2.2.1 vk y.2.2.2.2.2.2.2.2.2 vp ve = KK (nI e') y.1 y.2.1 y.2.2.1 y.2.2.2.1 y.2.2.2.2.1 y.2.2.2.2.2.1 y.2.2.2.2.2.2.1 y.2.2.2.2.2.2.2.1 y.2.2.2.2.2.2.2.2.1 vk y.2.2.2.2.2.2.2.2.2 vp' ve' ∧ e' ≤ c ∧ (∀ j, j < e' → o' j < c ∧ ve' j = nI (o' j) ∧ (j < 4 → of' j = nI (o' j))) ∧ ∀ j, j < c → vp' j = vk j := by
  have hc := h.c10
  intro KK d
  induction d with
  | zero =>
    intro N L f e o of vp ve hf hN hL he ho hv
    obtain ⟨N, rfl⟩ : ∃ t, N = t + 1 := ⟨N - 1, by omega⟩
    obtain ⟨L, rfl⟩ : ∃ t, L = t + 1 := ⟨L - 1, by omega⟩
    obtain rfl : f = c := by omega
    refine ⟨e, o, of, vp, ve, ?_, ?_, he, ho, hv⟩
    · rw [f_X4_findOpenFlags_L4, it' (nI_le (Nat.le_refl f) (by omega))]
    · rw [f_X5_odds_L35, it' (nI_le (Nat.le_refl f) (by omega))]
  | succ d ih =>
    intro N L f e o of vp ve hf hN hL he ho hv
    obtain ⟨N, rfl⟩ : ∃ t, N = t + 1 := ⟨N - 1, by omega⟩
    obtain ⟨L, rfl⟩ : ∃ t, L = t + 1 := ⟨L - 1, by omega⟩
    have gf : ∀ {α : Type} (x : Option α), gx (nI f) 10 x = x := fun x => gxN (by omega) (by omega)
    have ge : ∀ {α : Type} (x : Option α), gx (nI e) 10 x = x := fun x => gxN (by omega) (by omega)
    have cf : (nI f).toNatClampNeg = f := nI_clamp (by omega)
    have ce : (nI e).toNatClampNeg = e := nI_clamp (by omega)
    have hkf := (h.2.2.1 f (by omega)).1
    have hv' : ∀ j, j < f + 1 → upd vp f (vk f) j = vk j := by
      intro j hj
      by_cases z : j = f
      · rw [z, pk_us]
      · rw [pk_un z]; exact hv j (by omega)
    by_cases q : kd f = 1
    · have ho' : ∀ j, j < e → o j < c ∧ upd ve e (nI f) j = nI (o j) ∧ (j < 4 → of j = nI (o j)) := fun j hj => by
        obtain ⟨a1, a2, a3⟩ := ho j hj
        exact ⟨a1, by rw [pk_un (by omega)]; exact a2, a3⟩
      obtain ⟨e', o', of', vp', ve', i1, i2, i3, i4, i5⟩ := ih N L (f + 1) e o of (upd vp f (vk f)) (upd ve e (nI f)) (by omega) (by omega) (by omega) (by omega) ho' hv'
      refine ⟨e', o', of', vp', ve', ?_, ?_, i3, i4, i5⟩
      · rw [f_X4_findOpenFlags_L4, ie' (nI_ge (by omega) (by omega)), gf, cf, it' q, nI_1]
        exact i1
      · rw [f_X5_odds_L35, ie' (nI_ge (by omega) (by omega)), gf, gf, ge, gf, cf, ce, hkf, it' q, add0, nI_1, ← hkf]
        exact i2
    · have ho' : ∀ of', (e < 4 → of' = upd of e (nI f)) → (¬ e < 4 → of' = of) → ∀ j, j < e + 1 → upO o e f j < c ∧ upd ve e (nI f) j = nI (upO o e f j) ∧ (j < 4 → of' j = nI (upO o e f j)) := fun of' h1 h2 j hj => by
        unfold upO
        by_cases z : j = e
        · rw [if_pos z, z, pk_us]
          exact ⟨by omega, rfl, fun h4 => by rw [h1 h4, pk_us]⟩
        · obtain ⟨a1, a2, a3⟩ := ho j (by omega)
          rw [if_neg z, pk_un z]
          refine ⟨a1, a2, fun h4 => ?_⟩
          by_cases z4 : e < 4
          · rw [h1 z4, pk_un z]; exact a3 h4
          · rw [h2 z4]; exact a3 h4
      by_cases q4 : e < 4
      · obtain ⟨e', o', of', vp', ve', i1, i2, i3, i4, i5⟩ := ih N L (f + 1) (e + 1) (upO o e f) (upd of e (nI f)) (upd vp f (vk f)) (upd ve e (nI f)) (by omega) (by omega) (by omega) (by omega) (ho' _ (fun _ => rfl) (fun z => absurd q4 z)) hv'
        refine ⟨e', o', of', vp', ve', ?_, ?_, i3, i4, i5⟩
        · rw [f_X4_findOpenFlags_L4, ie' (nI_ge (by omega) (by omega)), gf, cf, ie' q, ie' (show ¬ (4 : Int32) ≤ nI e from nI_ge (b := 4) q4 (by omega)), gxN q4 (by omega), ce, nI_1, nI_1]
          exact i1
        · rw [f_X5_odds_L35, ie' (nI_ge (by omega) (by omega)), gf, gf, ge, gf, cf, ce, hkf, ie' q, nI_1, nI_1, ← hkf]
          exact i2
      · obtain ⟨e', o', of', vp', ve', i1, i2, i3, i4, i5⟩ := ih N L (f + 1) (e + 1) (upO o e f) of (upd vp f (vk f)) (upd ve e (nI f)) (by omega) (by omega) (by omega) (by omega) (ho' _ (fun z => absurd z q4) (fun _ => rfl)) hv'
        refine ⟨e', o', of', vp', ve', ?_, ?_, i3, i4, i5⟩
        · rw [f_X4_findOpenFlags_L4, ie' (nI_ge (by omega) (by omega)), gf, cf, ie' q, it' (show (4 : Int32) ≤ nI e from nI_le (a := 4) (by omega) (by omega)), nI_1, nI_1]
          exact i1
        · rw [f_X5_odds_L35, ie' (nI_ge (by omega) (by omega)), gf, gf, ge, gf, cf, ce, hkf, ie' q, nI_1, nI_1, ← hkf]
          exact i2
/-- the open flags made wet or dry -/
theorem setP (he : e ≤ 4) (ho : ∀ j, j < e → o j < c ∧ ve j = nI (o j) ∧ (j < 4 → of j = nI (o j))) (x : Int32) (a : Int32) (a' : Int32) (z : ZX) (y : ZM) : ∀ (d j : Nat) (kdu vk : Nat → Int32), j + d = e → St c s k b kdu tku gru vk vt vg → ∃ kdu' vk', St c s k b kdu' tku gru vk' vt vg ∧ (∀ K1 N, d < N → f_X4_waysWithin_L16 of (nI e) K1 N a x (nI j) z.1 z.2.1 z.2.2.1 z.2.2.2.1 z.2.2.2.2.1 z.2.2.2.2.2.1 z.2.2.2.2.2.2.1 z.2.2.2.2.2.2.2.1 z.2.2.2.2.2.2.2.2.1 z.2.2.2.2.2.2.2.2.2.1 z.2.2.2.2.2.2.2.2.2.2.1 z.2.2.2.2.2.2.2.2.2.2.2.1 z.2.2.2.2.2.2.2.2.2.2.2.2.1 z.2.2.2.2.2.2.2.2.2.2.2.2.2 kdu = K1 a x z.1 z.2.1 z.2.2.1 z.2.2.2.1 z.2.2.2.2.1 z.2.2.2.2.2.1 z.2.2.2.2.2.2.1 z.2.2.2.2.2.2.2.1 z.2.2.2.2.2.2.2.2.1 z.2.2.2.2.2.2.2.2.2.1 z.2.2.2.2.2.2.2.2.2.2.1 z.2.2.2.2.2.2.2.2.2.2.2.1 z.2.2.2.2.2.2.2.2.2.2.2.2.1 z.2.2.2.2.2.2.2.2.2.2.2.2.2 kdu') ∧ (∀ K2 L, d < L → f_X5_odds_L117 K2 L (nI e) a' x (nI j) y.1 y.2.1 y.2.2.1 y.2.2.2.1 y.2.2.2.2.1 y.2.2.2.2.2.1 y.2.2.2.2.2.2.1 y.2.2.2.2.2.2.2.1 y.2.2.2.2.2.2.2.2.1 vk y.2.2.2.2.2.2.2.2.2 vp ve = K2 (nI e) a' x y.1 y.2.1 y.2.2.1 y.2.2.2.1 y.2.2.2.2.1 y.2.2.2.2.2.1 y.2.2.2.2.2.2.1 y.2.2.2.2.2.2.2.1 y.2.2.2.2.2.2.2.2.1 vk' y.2.2.2.2.2.2.2.2.2 vp ve) := by
  intro d
  induction d with
  | zero =>
    intro j kdu vk hj h
    obtain rfl : j = e := by omega
    refine ⟨kdu, vk, h, fun K1 N hN => ?_, fun K2 L hL => ?_⟩
    · obtain ⟨N, rfl⟩ : ∃ t, N = t + 1 := ⟨N - 1, by omega⟩
      rw [f_X4_waysWithin_L16, it' (nI_le (Nat.le_refl j) (by omega))]
    · obtain ⟨L, rfl⟩ : ∃ t, L = t + 1 := ⟨L - 1, by omega⟩
      rw [f_X5_odds_L117, it' (nI_le (Nat.le_refl j) (by omega))]
  | succ d ih =>
    intro j kdu vk hj h
    have hc := h.c10
    obtain ⟨o1, o2, o3⟩ := ho j (by omega)
    have o4 := o3 (by omega)
    have cj : (nI j).toNatClampNeg = j := nI_clamp (by omega)
    have co : (nI (o j)).toNatClampNeg = o j := nI_clamp (by omega)
    have go : ∀ {α : Type} (x : Option α), gx (nI (o j)) 10 x = x := fun x => gxN (by omega) (by omega)
    have hx : ∃ t : Int32, (t = 0 ∨ t = 1 ∨ t = 2) ∧ ∀ {α : Type} (f : Int32 → Option α), (if (x >>> (nI j &&& 31)) &&& (1 : Int32) = 1 then f 2 else f 0) = f t := by
      by_cases q : (x >>> (nI j &&& 31)) &&& (1 : Int32) = 1
      · exact ⟨2, Or.inr (Or.inr rfl), fun f => if_pos q⟩
      · exact ⟨0, Or.inl rfl, fun f => if_neg q⟩
    obtain ⟨t, ht, hf⟩ := hx
    obtain ⟨kdu', vk', i3, i1, i2⟩ := ih (j + 1) _ _ (by omega) (h.upK (o j) (x := t) ht)
    refine ⟨kdu', vk', i3, fun K1 N hN => ?_, fun K2 L hL => ?_⟩
    · obtain ⟨N, rfl⟩ : ∃ t, N = t + 1 := ⟨N - 1, by omega⟩
      rw [f_X4_waysWithin_L16, ie' (nI_ge (by omega) (by omega)), gxN (by omega) (by omega), cj, o4]
      simp only [go, co, nI_1]
      exact (hf (fun t => f_X4_waysWithin_L16 of (nI e) K1 N a x (nI (j + 1)) z.1 z.2.1 z.2.2.1 z.2.2.2.1 z.2.2.2.2.1 z.2.2.2.2.2.1 z.2.2.2.2.2.2.1 z.2.2.2.2.2.2.2.1 z.2.2.2.2.2.2.2.2.1 z.2.2.2.2.2.2.2.2.2.1 z.2.2.2.2.2.2.2.2.2.2.1 z.2.2.2.2.2.2.2.2.2.2.2.1 z.2.2.2.2.2.2.2.2.2.2.2.2.1 z.2.2.2.2.2.2.2.2.2.2.2.2.2 (upd kdu (o j) t))).trans (i1 K1 N (by omega))
    · obtain ⟨L, rfl⟩ : ∃ t, L = t + 1 := ⟨L - 1, by omega⟩
      rw [f_X5_odds_L117, ie' (nI_ge (by omega) (by omega)), gxN (by omega) (by omega), cj, o2]
      simp only [go, co, nI_1]
      exact (hf (fun t => f_X5_odds_L117 K2 L (nI e) a' x (nI (j + 1)) y.1 y.2.1 y.2.2.1 y.2.2.2.1 y.2.2.2.2.1 y.2.2.2.2.2.1 y.2.2.2.2.2.2.1 y.2.2.2.2.2.2.2.1 y.2.2.2.2.2.2.2.2.1 (upd vk (o j) t) y.2.2.2.2.2.2.2.2.2 vp ve)).trans (i2 K2 L (by omega))
theorem pw2 : ∀ e, e ≤ 4 → (1 : Int32) <<< (nI e &&& 31) = nI (2 ^ e) := by decide +kernel
theorem pw16 : ∀ e, e ≤ 4 → 2 ^ e ≤ 16 := by decide
/-- within n seconds: by the class's search, by the reference's -/
theorem inP {st : Nat → P4 → Option P4} {x0 : P4} {r q : Int32} (hn : n ≤ 24) (h1 : isB st x0 c n (fun t _ => t) r) (h2 : isB st x0 c 24 (fun t _ => t) q) : (r = -9 ∧ (q = -9 ∨ ¬ q = -9 ∧ nI n < q)) ∨ (¬ r = -9 ∧ ¬ q = -9 ∧ ¬ nI n < q) := by
  rcases h1 with ⟨rfl, h1⟩ | ⟨b, rfl, b1, ⟨t, w, x, a1, a2, a3, a4⟩, h1⟩
  · refine Or.inl ⟨rfl, ?_⟩
    rcases h2 with ⟨rfl, -⟩ | ⟨b2, rfl, b3, ⟨t, w, x, a1, a2, a3, a4⟩, h2⟩
    · exact Or.inl rfl
    · have a5 : t = b2 := a4
      refine Or.inr ⟨nI_m9 (by omega), nI_lt (Nat.lt_of_not_le (fun z => h1 t w x a1 a2 (by omega))) (by omega)⟩
  · refine Or.inr ⟨nI_m9 (by omega), ?_⟩
    rcases h2 with ⟨rfl, h2⟩ | ⟨b2, rfl, b3, -, h2⟩
    · exact (h2 t w x a1 a2 (by omega)).elim
    · have : b2 ≤ t := h2 t w x a1 a2 (by omega)
      exact ⟨nI_m9 (by omega), nI_nlt (by omega) (by omega)⟩
theorem waysP (he : e ≤ 4) (hn : n ≤ 24) (hc0 : 0 < c) (ho : ∀ j, j < e → o j < c ∧ ve j = nI (o j) ∧ (j < 4 → of j = nI (o j))) : ∀ K1 K2, ∀ (d N L x w : Nat) (z : ZX) (y : ZM) (kdu vk : Nat → Int32), x + d = 2 ^ e → d < N → d < L → w ≤ x → ScX z → St c s k b kdu tku gru vk vt vg → ∃ (w' : Nat) (z' : ZX) (y' : ZM) (kdu' vk' : Nat → Int32), f_X4_waysWithin_L5 (nI c) (nI s) (nI k) (nI b) tku gru of (nI e) (nI n) K1 N (nI w) (nI x) z.1 z.2.1 z.2.2.1 z.2.2.2.1 z.2.2.2.2.1 z.2.2.2.2.2.1 z.2.2.2.2.2.2.1 z.2.2.2.2.2.2.2.1 z.2.2.2.2.2.2.2.2.1 z.2.2.2.2.2.2.2.2.2.1 z.2.2.2.2.2.2.2.2.2.2.1 z.2.2.2.2.2.2.2.2.2.2.2.1 z.2.2.2.2.2.2.2.2.2.2.2.2.1 z.2.2.2.2.2.2.2.2.2.2.2.2.2 kdu = K1 (nI w') z'.1 z'.2.1 z'.2.2.1 z'.2.2.2.1 z'.2.2.2.2.1 z'.2.2.2.2.2.1 z'.2.2.2.2.2.2.1 z'.2.2.2.2.2.2.2.1 z'.2.2.2.2.2.2.2.2.1 z'.2.2.2.2.2.2.2.2.2.1 z'.2.2.2.2.2.2.2.2.2.2.1 z'.2.2.2.2.2.2.2.2.2.2.2.1 z'.2.2.2.2.2.2.2.2.2.2.2.2.1 z'.2.2.2.2.2.2.2.2.2.2.2.2.2 kdu' ∧ f_X5_odds_L106 (nI c) (nI s) (nI k) (nI b) vt vg (nI n) K2 L (nI e) (nI w) (nI x) y.1 y.2.1 y.2.2.1 y.2.2.2.1 y.2.2.2.2.1 y.2.2.2.2.2.1 y.2.2.2.2.2.2.1 y.2.2.2.2.2.2.2.1 y.2.2.2.2.2.2.2.2.1 vk y.2.2.2.2.2.2.2.2.2 vp ve = K2 (nI e) (nI w') y'.1 y'.2.1 y'.2.2.1 y'.2.2.2.1 y'.2.2.2.2.1 y'.2.2.2.2.2.1 y'.2.2.2.2.2.2.1 y'.2.2.2.2.2.2.2.1 y'.2.2.2.2.2.2.2.2.1 vk' y'.2.2.2.2.2.2.2.2.2 vp ve ∧ w' ≤ 2 ^ e ∧ ScX z' ∧ St c s k b kdu' tku gru vk' vt vg := by
  have h16 := pw16 e he
  intro K1 K2 d
  induction d with
  | zero =>
    intro N L x w z y kdu vk hx hN hL hw hz h
    obtain ⟨N, rfl⟩ : ∃ t, N = t + 1 := ⟨N - 1, by omega⟩
    obtain ⟨L, rfl⟩ : ∃ t, L = t + 1 := ⟨L - 1, by omega⟩
    refine ⟨w, z, y, kdu, vk, ?_, ?_, by omega, hz, h⟩
    · rw [f_X4_waysWithin_L5, pw2 e he, it' (nI_le (by omega) (by omega))]
    · rw [f_X5_odds_L106, pw2 e he, it' (nI_le (by omega) (by omega))]
  | succ d ih =>
    intro N L x w z y kdu vk hx hN hL hw hz h
    obtain ⟨N, rfl⟩ : ∃ t, N = t + 1 := ⟨N - 1, by omega⟩
    obtain ⟨L, rfl⟩ : ∃ t, L = t + 1 := ⟨L - 1, by omega⟩
    have hx2 : ¬ nI (2 ^ e) ≤ nI x := nI_ge (by omega) (by omega)
    obtain ⟨hs, hk, hb⟩ := h.1
    obtain ⟨kdu', vk', h', s1', s2'⟩ := setP (tku := tku) (gru := gru) he ho (nI x) (nI w) (nI w) z y e 0 kdu vk (by omega) h
    have s1 : ∀ K1, f_X4_waysWithin_L16 of (nI e) K1 100 (nI w) (nI x) 0 z.1 z.2.1 z.2.2.1 z.2.2.2.1 z.2.2.2.2.1 z.2.2.2.2.2.1 z.2.2.2.2.2.2.1 z.2.2.2.2.2.2.2.1 z.2.2.2.2.2.2.2.2.1 z.2.2.2.2.2.2.2.2.2.1 z.2.2.2.2.2.2.2.2.2.2.1 z.2.2.2.2.2.2.2.2.2.2.2.1 z.2.2.2.2.2.2.2.2.2.2.2.2.1 z.2.2.2.2.2.2.2.2.2.2.2.2.2 kdu = K1 (nI w) (nI x) z.1 z.2.1 z.2.2.1 z.2.2.2.1 z.2.2.2.2.1 z.2.2.2.2.2.1 z.2.2.2.2.2.2.1 z.2.2.2.2.2.2.2.1 z.2.2.2.2.2.2.2.2.1 z.2.2.2.2.2.2.2.2.2.1 z.2.2.2.2.2.2.2.2.2.2.1 z.2.2.2.2.2.2.2.2.2.2.2.1 z.2.2.2.2.2.2.2.2.2.2.2.2.1 z.2.2.2.2.2.2.2.2.2.2.2.2.2 kdu' := fun K1 => s1' K1 100 (by omega)
    have s2 : ∀ K2, f_X5_odds_L117 K2 100 (nI e) (nI w) (nI x) 0 y.1 y.2.1 y.2.2.1 y.2.2.2.1 y.2.2.2.2.1 y.2.2.2.2.2.1 y.2.2.2.2.2.2.1 y.2.2.2.2.2.2.2.1 y.2.2.2.2.2.2.2.2.1 vk y.2.2.2.2.2.2.2.2.2 vp ve = K2 (nI e) (nI w) (nI x) y.1 y.2.1 y.2.2.1 y.2.2.2.1 y.2.2.2.2.1 y.2.2.2.2.2.1 y.2.2.2.2.2.2.1 y.2.2.2.2.2.2.2.1 y.2.2.2.2.2.2.2.2.1 vk' y.2.2.2.2.2.2.2.2.2 vp ve := fun K2 => s2' K2 100 (by omega)
    obtain ⟨r, z', e1, b1, hz'⟩ := lsX (U := n) (q := 0) h'.2.1 hs hk hb hc0 hn (by omega) z hz
    obtain ⟨r2, y', e2, b2⟩ := nowM h'.okm hs hk hb hc0 y
    rw [h'.cg] at b2
    have x1 : ∀ {β : Type} (F : Int32 × ZX → Option β), (f_X2_least z.1 z.2.1 z.2.2.1 z.2.2.2.1 z.2.2.2.2.1 z.2.2.2.2.2.1 z.2.2.2.2.2.2.1 z.2.2.2.2.2.2.2.1 z.2.2.2.2.2.2.2.2.1 z.2.2.2.2.2.2.2.2.2.1 (nI c) (nI s) (nI k) (nI b) z.2.2.2.2.2.2.2.2.2.2.1 z.2.2.2.2.2.2.2.2.2.2.2.1 z.2.2.2.2.2.2.2.2.2.2.2.2.1 z.2.2.2.2.2.2.2.2.2.2.2.2.2 kdu' tku gru (nI n) (0 : Int32)).bind F = F (r, z') := fun F => congrArg (fun o => Option.bind o F) e1
    have m1 : ∀ {β : Type} (F : Int32 × ZM → Option β), (f_X5_quickestNow (nI c) (nI s) (nI k) (nI b) y.1 y.2.1 y.2.2.1 y.2.2.2.1 y.2.2.2.2.1 y.2.2.2.2.2.1 y.2.2.2.2.2.2.1 y.2.2.2.2.2.2.2.1 y.2.2.2.2.2.2.2.2.1 vk' vt vg y.2.2.2.2.2.2.2.2.2).bind F = F (r2, y') := fun F => congrArg (fun o => Option.bind o F) e2
    rcases inP hn b1 b2 with ⟨r9, q⟩ | ⟨r9, q1, q2⟩
    · obtain ⟨w', z2, y2, kdu2, vk2, i1, i2, i3, i4, i5⟩ := ih N L (x + 1) w z' y' kdu' vk' (by omega) (by omega) (by omega) (by omega) hz' h'
      refine ⟨w', z2, y2, kdu2, vk2, ?_, ?_, i3, i4, i5⟩
      · rw [f_X4_waysWithin_L5, pw2 e he, ie' hx2, s1, x1, it' r9, nI_1]
        exact i1
      · rw [f_X5_odds_L106, pw2 e he, ie' hx2, s2, m1, nI_1]
        simp only [add0]
        rcases q with q | ⟨q1, q2⟩
        · rw [it' q]; exact i2
        · rw [ie' q1, it' q2]; exact i2
    · obtain ⟨w', z2, y2, kdu2, vk2, i1, i2, i3, i4, i5⟩ := ih N L (x + 1) (w + 1) z' y' kdu' vk' (by omega) (by omega) (by omega) (by omega) hz' h'
      refine ⟨w', z2, y2, kdu2, vk2, ?_, ?_, i3, i4, i5⟩
      · rw [f_X4_waysWithin_L5, pw2 e he, ie' hx2, s1, x1, ie' r9, nI_1, nI_1]
        exact i1
      · rw [f_X5_odds_L106, pw2 e he, ie' hx2, s2, m1, nI_1, nI_1, ie' q1, ie' q2]
        exact i2
/-- the kinds put back -/
theorem backL (hc : c ≤ 10) (x3 x4 : Int32) (y : ZM) : ∀ KK, ∀ (d N x : Nat) (vk : Nat → Int32), x + d = c → d < N → ∃ vk', f_X5_odds_L195 (nI c) KK N x3 x4 (nI x) y.1 y.2.1 y.2.2.1 y.2.2.2.1 y.2.2.2.2.1 y.2.2.2.2.2.1 y.2.2.2.2.2.2.1 y.2.2.2.2.2.2.2.1 y.2.2.2.2.2.2.2.2.1 vk y.2.2.2.2.2.2.2.2.2 vp ve = KK x3 x4 y.1 y.2.1 y.2.2.1 y.2.2.2.1 y.2.2.2.2.1 y.2.2.2.2.2.1 y.2.2.2.2.2.2.1 y.2.2.2.2.2.2.2.1 y.2.2.2.2.2.2.2.2.1 vk' y.2.2.2.2.2.2.2.2.2 vp ve ∧ (∀ i, i < x → vk' i = vk i) ∧ ∀ i, x ≤ i → i < c → vk' i = vp i := by
  intro KK d
  induction d with
  | zero =>
    intro N x vk hx hN
    obtain ⟨N, rfl⟩ : ∃ t, N = t + 1 := ⟨N - 1, by omega⟩
    exact ⟨vk, by rw [f_X5_odds_L195, it' (nI_le (by omega) (by omega))], fun i _ => rfl, fun i h1 h2 => absurd h2 (by omega)⟩
  | succ d ih =>
    intro N x vk hx hN
    obtain ⟨N, rfl⟩ : ∃ t, N = t + 1 := ⟨N - 1, by omega⟩
    obtain ⟨vk', i1, i2, i3⟩ := ih N (x + 1) (upd vk x (vp x)) (by omega) (by omega)
    refine ⟨vk', ?_, fun i hi => ?_, fun i h1 h2 => ?_⟩
    · rw [f_X5_odds_L195, ie' (nI_ge (by omega) (by omega)), gxN (by omega) (by omega), gxN (by omega) (by omega), nI_clamp (by omega), nI_1]
      exact i1
    · rw [i2 i (by omega), pk_un (by omega)]
    · rcases Nat.eq_or_lt_of_le h1 with z | z
      · rw [i2 i (by omega), ← z, pk_us]
      · exact i3 i z h2
/-- the class's halving, alone -/
def hv : Nat → Int32 → Int32 → Int32 → Int32 → Option (Int32 × Int32)
  | 0, _, _, _, _ => none
  | n + 1, x3, x4, x5, x6 => if x3 ≤ x6 then some (x4, x5) else (if (x4 - x4 / (2 : Int32) * (2 : Int32)) = 0 then hv n x3 (x4 / (2 : Int32)) (x5 / (2 : Int32)) (x6 + (1 : Int32)) else some (x4, x5))
theorem hvL (z : ZX) (g1 g2 g3 g4 : Int32) (kdu tku gru of : Nat → Int32) : ∀ KK, ∀ (N : Nat) (x3 x4 x5 x6 : Int32) (r : Int32 × Int32), hv N x3 x4 x5 x6 = some r → f_X4_odds_L78 KK N x3 x4 x5 x6 z.1 z.2.1 z.2.2.1 z.2.2.2.1 z.2.2.2.2.1 z.2.2.2.2.2.1 z.2.2.2.2.2.2.1 z.2.2.2.2.2.2.2.1 z.2.2.2.2.2.2.2.2.1 z.2.2.2.2.2.2.2.2.2.1 z.2.2.2.2.2.2.2.2.2.2.1 z.2.2.2.2.2.2.2.2.2.2.2.1 z.2.2.2.2.2.2.2.2.2.2.2.2.1 z.2.2.2.2.2.2.2.2.2.2.2.2.2 g1 g2 g3 g4 kdu tku gru of = KK r.1 r.2 z.1 z.2.1 z.2.2.1 z.2.2.2.1 z.2.2.2.2.1 z.2.2.2.2.2.1 z.2.2.2.2.2.2.1 z.2.2.2.2.2.2.2.1 z.2.2.2.2.2.2.2.2.1 z.2.2.2.2.2.2.2.2.2.1 z.2.2.2.2.2.2.2.2.2.2.1 z.2.2.2.2.2.2.2.2.2.2.2.1 z.2.2.2.2.2.2.2.2.2.2.2.2.1 z.2.2.2.2.2.2.2.2.2.2.2.2.2 g1 g2 g3 g4 kdu tku gru of := by
  intro KK N
  induction N with
  | zero => intro x3 x4 x5 x6 r h; cases h
  | succ N ih =>
    intro x3 x4 x5 x6 r h
    rw [hv] at h
    rw [f_X4_odds_L78]
    by_cases q : x3 ≤ x6
    · rw [if_pos q] at h ⊢; cases h; rfl
    · rw [if_neg q] at h ⊢
      by_cases q2 : (x4 - x4 / (2 : Int32) * (2 : Int32)) = 0
      · rw [if_pos q2] at h ⊢; exact ih _ _ _ _ _ h
      · rw [if_neg q2] at h ⊢; cases h; rfl
theorem hvAll : ∀ e, e < 5 → ∀ w, w < 17 → w ≤ 2 ^ e → (hv 100 (nI e) (nI w) (nI (2 ^ e)) 0).isSome = true ∧ (hv 100 (nI e) (nI w) (nI (2 ^ e)) 0).map (fun p => p.1.toInt64) = f_X5_inLeastTerms (nI w).toInt64 ((1 : Int64) <<< ((nI e).toInt64 &&& 63)) 0 ∧ (hv 100 (nI e) (nI w) (nI (2 ^ e)) 0).map (fun p => p.2.toInt64) = f_X5_inLeastTerms (nI w).toInt64 ((1 : Int64) <<< ((nI e).toInt64 &&& 63)) 1 := by decide +kernel

theorem pr_odds (h : St c s k b kd tk gr vk vt vg) (z : ZX) (hz : ScX z) (y : ZM) (cnu stu knu sbu zn zv : Int32) (hu : b01 gru) (of vp ve : Nat → Int32) : ∃ (x : Int64) (z' : ZX) (y' : ZM) (cnu' stu' knu' sbu' : Int32) (kdu' tku' gru' of' vk' vp' ve' : Nat → Int32), f_X4_odds z.1 z.2.1 z.2.2.1 z.2.2.2.1 z.2.2.2.2.1 z.2.2.2.2.2.1 z.2.2.2.2.2.2.1 z.2.2.2.2.2.2.2.1 z.2.2.2.2.2.2.2.2.1 z.2.2.2.2.2.2.2.2.2.1 (nI c) (nI s) (nI k) (nI b) cnu stu knu sbu z.2.2.2.2.2.2.2.2.2.2.1 z.2.2.2.2.2.2.2.2.2.2.2.1 z.2.2.2.2.2.2.2.2.2.2.2.2.1 z.2.2.2.2.2.2.2.2.2.2.2.2.2 kd tk gr kdu tku gru of zn zv = some (x, z'.1, z'.2.1, z'.2.2.1, z'.2.2.2.1, z'.2.2.2.2.1, z'.2.2.2.2.2.1, z'.2.2.2.2.2.2.1, z'.2.2.2.2.2.2.2.1, z'.2.2.2.2.2.2.2.2.1, z'.2.2.2.2.2.2.2.2.2.1, z'.2.2.2.2.2.2.2.2.2.2.1, z'.2.2.2.2.2.2.2.2.2.2.2.1, z'.2.2.2.2.2.2.2.2.2.2.2.2.1, z'.2.2.2.2.2.2.2.2.2.2.2.2.2, cnu', stu', knu', sbu', kdu', tku', gru', of') ∧ f_X5_odds (nI c) (nI s) (nI k) (nI b) y.1 y.2.1 y.2.2.1 y.2.2.2.1 y.2.2.2.2.1 y.2.2.2.2.2.1 y.2.2.2.2.2.2.1 y.2.2.2.2.2.2.2.1 y.2.2.2.2.2.2.2.2.1 vk vt vg y.2.2.2.2.2.2.2.2.2 vp ve zn zv = some (x, y'.1, y'.2.1, y'.2.2.1, y'.2.2.2.1, y'.2.2.2.2.1, y'.2.2.2.2.2.1, y'.2.2.2.2.2.2.1, y'.2.2.2.2.2.2.2.1, y'.2.2.2.2.2.2.2.2.1, vk', y'.2.2.2.2.2.2.2.2.2, vp', ve') ∧ ScX z' ∧ b01 gru' ∧ St c s k b kd tk gr vk' vt vg := by
  have hc := h.c10
  rw [f_X4_odds, f_X5_odds]
  have lost : ∃ x : Int64, x = -9223372036854775808 := ⟨_, rfl⟩
  rcases wiZ' (A := 0) (B := 24) (a := 0) (b := 24) rfl rfl (by omega) (by omega) zn with ⟨e, q⟩ | ⟨n, n1, hn, rfl, e, a1, a2, a3⟩
  · refine ⟨_, z, y, cnu, stu, knu, sbu, kdu, tku, gru, of, vk, vp, ve, ?_, by rw [e]; rfl, hz, hu, h⟩
    rcases q with q | ⟨q1, q2, q3⟩
    · rw [it' q]
    · rw [ie' q1, it' q2]
  rw [e, obind, ie' n10, ie' a1, ie' a3]
  rcases wiZ' (A := 0) (B := 1) (a := 0) (b := 1) rfl rfl (by omega) (by omega) zv with ⟨e, q⟩ | ⟨v, v1, hv1, rfl, e, w1, w2, w3⟩
  · refine ⟨_, z, y, cnu, stu, knu, sbu, kdu, tku, gru, of, vk, vp, ve, ?_, by rw [e]; rfl, hz, hu, h⟩
    rcases q with q | ⟨q1, q2, q3⟩
    · rw [it' q]
    · rw [ie' q1, ie' q3]
  rw [e, obind, ie' n10, ie' w1, it' w2]
  rcases noZ hc with ⟨z1, z2, -⟩ | ⟨z1, z2, hc0⟩
  · exact ⟨_, z, y, cnu, stu, knu, sbu, kdu, tku, gru, of, vk, vp, ve, by rw [z1]; rfl, it' z2, hz, hu, h⟩
  rw [z1, obind, it' z00, ie' z2, f_X4_findOpenFlags]
  have O := fun KK => openL h y KK c 100 100 0 0 (fun _ => 0) of vp ve (by omega) (by omega) (by omega) (by omega) (fun j hj => absurd hj (Nat.not_lt_zero j)) (fun j hj => absurd hj (Nat.not_lt_zero j))
  obtain ⟨e', o', of', vp', ve', i1, i2, i3, i4, i5⟩ := O (fun (x3 : Int32) (qg : Int32) (qp : Int32) (qu : Int32) (ql : Int32) (qe : Int32) (qb : Int32) (qw : Int32) (qi : Int32) (qj : Int32) (vk : Nat → Int32) (vf : Nat → Int32) (vp : Nat → Int32) (ve : Nat → Int32) => if x3 ≤ (4 : Int32) then (f_X5_odds_L106 (nI c) (nI s) (nI k) (nI b) vt vg (nI n) (fun (x3 : Int32) (x4 : Int32) (qg : Int32) (qp : Int32) (qu : Int32) (ql : Int32) (qe : Int32) (qb : Int32) (qw : Int32) (qi : Int32) (qj : Int32) (vk : Nat → Int32) (vf : Nat → Int32) (vp : Nat → Int32) (ve : Nat → Int32) => f_X5_odds_L195 (nI c) (fun (x3 : Int32) (x4 : Int32) (qg : Int32) (qp : Int32) (qu : Int32) (ql : Int32) (qe : Int32) (qb : Int32) (qw : Int32) (qi : Int32) (qj : Int32) (vk : Nat → Int32) (vf : Nat → Int32) (vp : Nat → Int32) (ve : Nat → Int32) => (f_X5_inLeastTerms ((x4).toInt64) ((1 : Int64) <<< ((x3).toInt64 &&& 63)) (nI v)).bind (fun o28 => some (o28, qg, qp, qu, ql, qe, qb, qw, qi, qj, vk, vf, vp, ve))) 100 x3 x4 (0 : Int32) qg qp qu ql qe qb qw qi qj vk vf vp ve) 100 x3 (0 : Int32) (0 : Int32) qg qp qu ql qe qb qw qi qj vk vf vp ve) else (some ((-9223372036854775808 : Int64), qg, qp, qu, ql, qe, qb, qw, qi, qj, vk, vf, vp, ve)))
  rw [show (0 : Int32) = nI 0 from rfl] at *
  rw [i1, obind, i2]
  by_cases q4 : 4 < e'
  · rw [ie' (show ¬ nI e' ≤ (4 : Int32) from nI_ge (a := 4) q4 (by omega)), ie' (show ¬ nI e' ≤ (4 : Int32) from nI_ge (a := 4) q4 (by omega))]
    exact ⟨_, z, y, cnu, stu, knu, sbu, kdu, tku, gru, of', vk, vp', ve', rfl, rfl, hz, hu, h⟩
  have he : e' ≤ 4 := by omega
  rw [it' (show nI e' ≤ (4 : Int32) from nI_le (b := 4) he (by omega)), it' (show nI e' ≤ (4 : Int32) from nI_le (b := 4) he (by omega))]
  obtain ⟨kdu', tku', gru', g1, g2⟩ := bLike (kdu := kdu) (tku := tku) (gru := gru) h
  rw [g1, obind, f_X4_waysWithin]
  have h16 := pw16 e' he
  obtain ⟨w', z', y', kdu2, vk2, j1, j2, j3, j4, j5⟩ := waysP he hn hc0 i4 (fun (x3 : Int32) (cp : Int32) (li : Int32) (be : Int32) (fl : Int32) (pc : Int32) (ft : Int32) (ti : Int32) (so : Int32) (se : Int32) (pu : Int32) (fw : Nat → Int32) (wt : Nat → Int32) (wp : Nat → Int32) (wc : Nat → Int32) (kdu : Nat → Int32) => some (x3, cp, li, be, fl, pc, ft, ti, so, se, pu, fw, wt, wp, wc, kdu)) (fun (x3 : Int32) (x4 : Int32) (qg : Int32) (qp : Int32) (qu : Int32) (ql : Int32) (qe : Int32) (qb : Int32) (qw : Int32) (qi : Int32) (qj : Int32) (vk : Nat → Int32) (vf : Nat → Int32) (vp : Nat → Int32) (ve : Nat → Int32) => f_X5_odds_L195 (nI c) (fun (x3 : Int32) (x4 : Int32) (qg : Int32) (qp : Int32) (qu : Int32) (ql : Int32) (qe : Int32) (qb : Int32) (qw : Int32) (qi : Int32) (qj : Int32) (vk : Nat → Int32) (vf : Nat → Int32) (vp : Nat → Int32) (ve : Nat → Int32) => (f_X5_inLeastTerms ((x4).toInt64) ((1 : Int64) <<< ((x3).toInt64 &&& 63)) (nI v)).bind (fun o28 => some (o28, qg, qp, qu, ql, qe, qb, qw, qi, qj, vk, vf, vp, ve))) 100 x3 x4 (nI 0) qg qp qu ql qe qb qw qi qj vk vf vp ve) (vp := vp') (2 ^ e') 100 100 0 0 z y kdu' vk (by omega) (by omega) (by omega) (by omega) hz g2
  obtain ⟨vk3, t1, -, t3⟩ := backL (vp := vp') (ve := ve') hc (nI e') (nI w') y' (fun (x3 : Int32) (x4 : Int32) (qg : Int32) (qp : Int32) (qu : Int32) (ql : Int32) (qe : Int32) (qb : Int32) (qw : Int32) (qi : Int32) (qj : Int32) (vk : Nat → Int32) (vf : Nat → Int32) (vp : Nat → Int32) (ve : Nat → Int32) => (f_X5_inLeastTerms ((x4).toInt64) ((1 : Int64) <<< ((x3).toInt64 &&& 63)) (nI v)).bind (fun o28 => some (o28, qg, qp, qu, ql, qe, qb, qw, qi, qj, vk, vf, vp, ve))) c 100 0 vk2 (by omega) (by omega)
  obtain ⟨d1, d2, d3⟩ := hvAll e' (by omega) w' (by omega) j3
  cases hq : hv 100 (nI e') (nI w') (nI (2 ^ e')) 0 with
  | none => rw [hq] at d1; exact absurd d1 (by decide)
  | some p =>
  rw [hq] at d2 d3
  have eX : ∀ F : (Int32 × ZX × (Nat → Int32)) → Option (Int64 × Int32 × Int32 × Int32 × Int32 × Int32 × Int32 × Int32 × Int32 × Int32 × Int32 × (Nat → Int32) × (Nat → Int32) × (Nat → Int32) × (Nat → Int32) × Int32 × Int32 × Int32 × Int32 × (Nat → Int32) × (Nat → Int32) × (Nat → Int32) × (Nat → Int32)), True := fun _ => trivial
  refine ⟨if v = 0 then p.1.toInt64 else p.2.toInt64, z', y', nI c, nI s, nI k, nI b, kdu2, tku', gru', of', vk3, vp', ve', ?_, ?_, j4, j5.2.2.2.1, h.of (fun i hi => ⟨rfl, rfl, rfl⟩) (fun i hi => ⟨(t3 i (Nat.zero_le i) hi).trans (i5 i hi), rfl, rfl⟩) h.2.2.2.1 h.2.2.2.2⟩
  · refine (congrArg (fun o => Option.bind o _) j1).trans ?_
    rw [obind, pw2 e' he]
    refine (hvL z' (nI c) (nI s) (nI k) (nI b) kdu2 tku' gru' of' _ 100 (nI e') (nI w') (nI (2 ^ e')) 0 p hq).trans ?_
    have v2 : v = 0 ∨ v = 1 := by omega
    rcases v2 with rfl | rfl
    · rfl
    · rfl
  · refine j2.trans (t1.trans ?_)
    have v2 : v = 0 ∨ v = 1 := by omega
    rcases v2 with rfl | rfl
    · refine (congrArg (fun o => Option.bind o _) d2.symm).trans ?_
      rfl
    · refine (congrArg (fun o => Option.bind o _) d3.symm).trans ?_
      rfl
end Od
