/-! a street read, both sides -/
theorem nI_add_2 {a : Nat} : nI a + (2 : Int32) = nI (a + 2) := nI_add a 2
theorem nI_add_3 {a : Nat} : nI a + (3 : Int32) = nI (a + 3) := nI_add a 3
theorem sub48 {d : Nat} : nI (48 + d) - (48 : Int32) = nI d := by
  have : nI (48 + d) - nI 48 = nI (48 + d - 48) := nI_sub (Nat.le_add_right 48 d)
  rw [show 48 + d - 48 = d by omega] at this
  exact this
section Rd
variable {i B m n : Nat} {ce vc T : Nat → Int32}
/-- what both sides read -/
def Txt (i B m n : Nat) (ce vc T : Nat → Int32) : Prop := B + m ≤ 240 ∧ m ≤ 60 ∧ i ≤ 60 ∧ (∀ p, p < m → f_X1_at (nI n) ce (nI (i + p)) = some (T p)) ∧ ∀ p, p < m → vc (B + p) = T p
theorem dgM (h : Txt i B m n ce vc T) {p a b : Nat} (hp : p ≤ m) (hb : b ≤ 4) (ha : a ≤ 4) : (p < m ∧ (∃ d, a ≤ d ∧ d ≤ b ∧ T p = nI (48 + d) ∧ f_X5_digit (nI (B + p)) vc (nI (B + m)) (nI a) (nI b) = some (nI d, nI (B + (p + 1)))) ∧ ¬ T p < nI (48 + a) ∧ T p ≤ nI (48 + b)) ∨ (f_X5_digit (nI (B + p)) vc (nI (B + m)) (nI a) (nI b) = some (-9, nI (B + p)) ∧ (p < m → T p < nI (48 + a) ∨ ¬ T p < nI (48 + a) ∧ ¬ T p ≤ nI (48 + b))) := by
  obtain ⟨h1, h2, h3, h4, h5⟩ := h
  rw [f_X5_digit]
  by_cases q : p < m
  · have cl : (nI (B + p)).toNatClampNeg = B + p := nI_clamp (by omega)
    rw [ie' (nI_ge (a := B + p) (b := B + m) (by omega) (by omega)), gxN (by omega) (by omega), show (48 : Int32) = nI 48 from rfl, nI_add, nI_add, cl, h5 p q]
    rcases wiZ' (A := nI (48 + a)) (B := nI (48 + b)) rfl rfl (by omega) (by omega) (T p) with ⟨e, g⟩ | ⟨d, g1, g2, e3, e, e1, e2, -⟩
    · refine Or.inr ⟨by rw [e]; rfl, fun _ => g.imp_right (fun z => ⟨z.1, z.2.2⟩)⟩
    · refine Or.inl ⟨q, ⟨d - 48, by omega, by omega, by rw [e3, show 48 + (d - 48) = d by omega], ?_⟩, e1, e2⟩
      rw [e, obind, ie' n10, nI_1, nI_pred, gxN (by omega) (by omega), cl, h5 p q, e3, nI_sub (by omega), show B + p + 1 = B + (p + 1) by omega]
  · exact Or.inr ⟨it' (nI_le (by omega) (by omega)), fun z => absurd z q⟩
/-- one place of the head -/
theorem hdX (h : Txt i B m n ce vc T) (k15 k49 k58) {p lo hi : Nat} (hp : p ≤ m) (h4 : p < 4) (hlo : sLE p = nI lo) (hhi : sMO p = nI hi) (st kn sb : Int32) (N : Nat) : (p < m → ¬ T p < nI lo → T p ≤ nI hi → f_X3_readHead_L3 (nI n) ce (nI i) (nI m) k15 k49 k58 (N + 1) (nI p) st kn sb = f_X3_readHead_L3 (nI n) ce (nI i) (nI m) k15 k49 k58 N (nI (p + 1)) st kn sb) ∧ (p < m → (T p < nI lo ∨ ¬ T p < nI lo ∧ ¬ T p ≤ nI hi) → f_X3_readHead_L3 (nI n) ce (nI i) (nI m) k15 k49 k58 (N + 1) (nI p) st kn sb = k49 (nI p) st kn sb) ∧ (¬ p < m → f_X3_readHead_L3 (nI n) ce (nI i) (nI m) k15 k49 k58 (N + 1) (nI p) st kn sb = k15 st kn sb) := by
  obtain ⟨h1, h2, h3, h5, h6⟩ := h
  have e4 : ¬ (4 : Int32) ≤ nI p := nI_ge (b := 4) (by omega) (by omega)
  have cl : (nI p).toNatClampNeg = p := nI_clamp (by omega)
  refine ⟨fun q a1 a2 => ?_, fun q a => ?_, fun q => ?_⟩
  · rw [f_X3_readHead_L3, ie' e4, it' (nI_lt q (by omega)), nI_add, h5 p q, obind, gxN h4 (by omega), cl, hlo, hhi, ie' a1, gxN h4 (by omega), it' a2, nI_1]
  · rw [f_X3_readHead_L3, ie' e4, it' (nI_lt q (by omega)), nI_add, h5 p q, obind, gxN h4 (by omega), cl, hlo, hhi]
    rcases a with a | ⟨a1, a2⟩
    · rw [it' a]
    · rw [ie' a1, gxN h4 (by omega), ie' a2]
  · rw [f_X3_readHead_L3, ie' e4, ie' (nI_nlt (by omega) (by omega))]
theorem headP (h : Txt i B m n ce vc T) (st kn sb : Int32) (qm : Int32) (vh vrk vrt vrg : Nat → Int32) : ∃ vh', (∃ w, w ≤ m ∧ f_X3_readHead st kn sb (nI n) ce (nI i) (nI m) = some (nI w, st, kn, sb) ∧ f_X5_readStreet (nI B) qm vc vh vrk vrt vrg (nI (B + m)) = some (0, nI (B + w), 0, vh', vrk, vrt, vrg)) ∨ (4 ≤ m ∧ ∃ s k b, s ≤ 4 ∧ k ≤ 3 ∧ b ≤ 2 ∧ f_X3_readHead st kn sb (nI n) ce (nI i) (nI m) = some (-9, nI s, nI k, nI b) ∧ vh' 0 = nI s ∧ vh' 1 = nI k ∧ vh' 2 = nI b ∧ f_X5_readStreet (nI B) qm vc vh vrk vrt vrg (nI (B + m)) = f_X5_readStreet_L82 vc (nI (B + m)) (fun qa qm vh vrk vrt vrg => some ((0 : Int32), qa, qm, vh, vrk, vrt, vrg)) (fun qa qm vh vrk vrt vrg => if qa = nI (B + m) then (some ((1 : Int32), qa, qm, vh, vrk, vrt, vrg)) else (some ((0 : Int32), qa, qm, vh, vrk, vrt, vrg))) 100 (nI (B + 4)) (nI 0) vh' vrk vrt vrg) := by
  have hh := h
  obtain ⟨h1, h2, h3, h4, h5⟩ := hh
  have c0 : (nI 0).toNatClampNeg = 0 := rfl
  have c1 : (nI 1).toNatClampNeg = 1 := rfl
  have c2 : (nI 2).toNatClampNeg = 2 := rfl
  have g0 : ∀ {α : Type} (x : Option α), gx (nI 0) 3 x = x := fun x => gxN (by omega) (by omega)
  have g1 : ∀ {α : Type} (x : Option α), gx (nI 1) 3 x = x := fun x => gxN (by omega) (by omega)
  have g2 : ∀ {α : Type} (x : Option α), gx (nI 2) 3 x = x := fun x => gxN (by omega) (by omega)
  rw [f_X3_readHead, nI_1, nI_add_2, nI_add_3, f_X5_readStreet, f_X5_isSign]
  have X0 := fun K1 K2 K3 => hdX h K1 K2 K3 (p := 0) (lo := 115) (hi := 115) (by omega) (by omega) rfl rfl st kn sb 99
  -- the sign
  by_cases q0 : 0 < m
  · rw [ie' (show ¬ nI (B + m) ≤ nI B from nI_ge (by omega) (by omega)), gxN (by omega) (by omega), nI_clamp (by omega), show vc B = T 0 from h5 0 q0]
    by_cases s0 : T 0 = 115
    · rw [it' s0, obind, ie' n10, nI_1]
      have Y0 := fun K1 K2 K3 => (X0 K1 K2 K3).1 q0 (by rw [s0]; decide) (by rw [s0]; decide)
      rw [show (0 : Int32) = nI 0 from rfl, Y0]
      rw [f_X5_readStreet_L19, ie' (show ¬ (3 : Int32) ≤ nI 0 by decide), ie' (show ¬ nI 0 = (2 : Int32) by decide), it' nI_0, c0]
      simp only [g0]
      have X1 := fun K1 K2 K3 => hdX h K1 K2 K3 (p := 1) (lo := 49) (hi := 52) (by omega) (by omega) rfl rfl st kn sb 98
      rcases dgM h (p := 1) (a := 1) (b := 4) (by omega) (by omega) (by omega) with ⟨q1, ⟨s, s1, s2, s3, s4⟩, s5, s6⟩ | ⟨s4, s5⟩
      · have Y1 := fun K1 K2 K3 => (X1 K1 K2 K3).1 q1 s5 s6
        rw [Y1]
        refine (fun {P : Prop} (x : P) => x) ?_
        have e1 : f_X5_digit (nI (B + 1)) vc (nI (B + m)) (1 : Int32) (4 : Int32) = some (nI s, nI (B + (1 + 1))) := s4
        rw [e1, obind, upd_s, ie' (nI_m9 (by omega)), nI_1]
        rw [f_X5_readStreet_L19, ie' (show ¬ (3 : Int32) ≤ nI 1 by decide), ie' (show ¬ nI 1 = (2 : Int32) by decide), ie' (show ¬ nI 1 = 0 by decide), it' (show nI 1 = (1 : Int32) from rfl), c1]
        simp only [g1]
        have X2 := fun K1 K2 K3 => hdX h K1 K2 K3 (p := 2) (lo := 49) (hi := 51) (by omega) (by omega) rfl rfl st kn sb 97
        rcases dgM h (p := 2) (a := 1) (b := 3) (by omega) (by omega) (by omega) with ⟨q2, ⟨k, k1, k2, k3, k4⟩, k5, k6⟩ | ⟨k4, k5⟩
        · have Y2 := fun K1 K2 K3 => (X2 K1 K2 K3).1 q2 k5 k6
          rw [Y2]
          have e2 : f_X5_digit (nI (B + (1 + 1))) vc (nI (B + m)) (1 : Int32) (3 : Int32) = some (nI k, nI (B + (2 + 1))) := k4
          rw [e2, obind, upd_s, ie' (nI_m9 (by omega)), nI_1]
          rw [f_X5_readStreet_L19, ie' (show ¬ (3 : Int32) ≤ nI 2 by decide), it' (show nI 2 = (2 : Int32) from rfl), ie' (show ¬ nI 2 = 0 by decide), ie' (show ¬ nI 2 = (1 : Int32) by decide), c2]
          simp only [g2]
          have X3 := fun K1 K2 K3 => hdX h K1 K2 K3 (p := 3) (lo := 48) (hi := 50) (by omega) (by omega) rfl rfl st kn sb 96
          rcases dgM h (p := 3) (a := 0) (b := 2) (by omega) (by omega) (by omega) with ⟨q3, ⟨b, b1, b2, b3, b4⟩, b5, b6⟩ | ⟨b4, b5⟩
          · have Y3 := fun K1 K2 K3 => (X3 K1 K2 K3).1 q3 b5 b6
            have e3 : f_X5_digit (nI (B + (2 + 1))) vc (nI (B + m)) (0 : Int32) (2 : Int32) = some (nI b, nI (B + (3 + 1))) := b4
            refine ⟨upd (upd (upd vh 0 (nI s)) 1 (nI k)) 2 (nI b), Or.inr ⟨by omega, s, k, b, s2, k2, b2, ?_, ?_, ?_, ?_, ?_⟩⟩
            · rw [Y3, f_X3_readHead_L3, it' (show (4 : Int32) ≤ nI (3 + 1) by decide), h4 1 q1, h4 2 q2, h4 3 q3, obind, obind, obind, s3, k3, b3]
              rw [sub48, sub48, sub48]
            · rfl
            · rfl
            · rfl
            · rw [e3, obind, upd_s, ie' (nI_m9 (by omega)), nI_1, f_X5_readStreet_L19, it' (show (3 : Int32) ≤ nI (2 + 1) by decide)]
          · have e3 : f_X5_digit (nI (B + (2 + 1))) vc (nI (B + m)) (0 : Int32) (2 : Int32) = some (-9, nI (B + 3)) := b4
            refine ⟨upd (upd (upd vh 0 (nI s)) 1 (nI k)) 2 (-9), Or.inl ⟨3, by omega, ?_, ?_⟩⟩
            · by_cases q3 : 3 < m
              · exact (X3 _ _ _).2.1 q3 (b5 q3)
              · obtain rfl : m = 3 := by omega
                exact (X3 _ _ _).2.2 (by omega)
            · rw [e3, obind, upd_s, it' rfl]
        · have e2 : f_X5_digit (nI (B + (1 + 1))) vc (nI (B + m)) (1 : Int32) (3 : Int32) = some (-9, nI (B + 2)) := k4
          refine ⟨upd (upd vh 0 (nI s)) 1 (-9), Or.inl ⟨2, by omega, ?_, ?_⟩⟩
          · by_cases q3 : 2 < m
            · exact (X2 _ _ _).2.1 q3 (k5 q3)
            · obtain rfl : m = 2 := by omega
              exact (X2 _ _ _).2.2 (by omega)
          · rw [e2, obind, upd_s, it' rfl]
      · have e1 : f_X5_digit (nI (B + 1)) vc (nI (B + m)) (1 : Int32) (4 : Int32) = some (-9, nI (B + 1)) := s4
        refine ⟨upd vh 0 (-9), Or.inl ⟨1, by omega, ?_, ?_⟩⟩
        · by_cases q3 : 1 < m
          · exact (X1 _ _ _).2.1 q3 (s5 q3)
          · obtain rfl : m = 1 := by omega
            exact (X1 _ _ _).2.2 (by omega)
        · rw [e1, obind, upd_s, it' rfl]
    · rw [ie' s0]
      refine ⟨vh, Or.inl ⟨0, by omega, ?_, rfl⟩⟩
      refine (X0 _ _ _).2.1 q0 ?_
      by_cases z : T 0 < nI 115
      · exact Or.inl z
      · refine Or.inr ⟨z, fun y => s0 ?_⟩
        exact Int32.le_antisymm y (Int32.not_lt.mp z)
  · have : m = 0 := by omega
    subst this
    rw [it' (show nI (B + 0) ≤ nI B from nI_le (Nat.le_refl _) (by omega))]
    exact ⟨vh, Or.inl ⟨0, by omega, (X0 _ _ _).2.2 (by omega), rfl⟩⟩
/-- a letter -/
theorem letZ (v : Int32) : f_X3_kindOfLetter v = some (-9) ∧ ¬ v = 102 ∧ ¬ v = 104 ∧ ¬ v = 119 ∨ ∃ x, (x = 0 ∨ x = 1 ∨ x = 2) ∧ f_X3_kindOfLetter v = some x ∧ ∀ (vc : Nat → Int32) (ze qm qa : Int32) (vrk vrt vrg : Nat → Int32), f_X5_readFlag_21 vc ze v qa qm vrk vrt vrg = f_X5_readFlag_62 vc ze qm x qa qm vrk vrt vrg := by
  rw [f_X3_kindOfLetter]
  by_cases h1 : v = 102
  · exact Or.inr ⟨0, Or.inl rfl, it' h1, fun vc ze qm qa vrk vrt vrg => by rw [f_X5_readFlag_21, it' h1]⟩
  rw [ie' h1]
  by_cases h2 : v = 104
  · exact Or.inr ⟨1, Or.inr (Or.inl rfl), it' h2, fun vc ze qm qa vrk vrt vrg => by rw [f_X5_readFlag_21, ie' h1, it' h2]⟩
  rw [ie' h2]
  by_cases h3 : v = 119
  · exact Or.inr ⟨2, Or.inr (Or.inr rfl), it' h3, fun vc ze qm qa vrk vrt vrg => by rw [f_X5_readFlag_21, ie' h1, ie' h2, it' h3]⟩
  · exact Or.inl ⟨ie' h3, h1, h2, h3⟩
theorem no21 {v : Int32} (h1 : ¬ v = 102) (h2 : ¬ v = 104) (h3 : ¬ v = 119) {f : Nat} (hf : f < 10) (vc : Nat → Int32) (ze qa : Int32) (vrk vrt vrg : Nat → Int32) : ∃ vrk', f_X5_readFlag_21 vc ze v qa (nI f) vrk vrt vrg = some (0, qa, nI f, vrk', vrt, vrg) := by
  rw [f_X5_readFlag_21, ie' h1, ie' h2, ie' h3, f_X5_readFlag_62, gxN (by omega) (by omega), gxN (by omega) (by omega), upd_s, it' rfl]
  exact ⟨_, rfl⟩
theorem x9 {x : Int32} (h : x = 0 ∨ x = 1 ∨ x = 2) : ¬ x = -9 := by
  rcases h with rfl | rfl | rfl <;> decide
/-- one flag, both sides -/
theorem flagP (h : Txt i B m n ce vc T) {p f : Nat} (hp : p < m) (hf : f < 10) (kd tk gr vrk vrt vrg : Nat → Int32) : (∃ w vrk' vrt', w ≤ m ∧ f_X3_readFlag (nI f) (nI n) kd tk gr ce (nI i) (nI m) (nI p) = some (nI w, nI f, kd, tk, gr) ∧ f_X5_readFlag (nI (B + p)) (nI f) vc vrk vrt vrg (nI (B + m)) = some (0, nI (B + w), nI f, vrk', vrt', vrg)) ∨ ∃ x d g p', (x = 0 ∨ x = 1 ∨ x = 2) ∧ d ≤ 4 ∧ (g = 0 ∨ g = 1) ∧ p + 2 ≤ m ∧ p' ≤ m ∧ f_X3_readFlag (nI f) (nI n) kd tk gr ce (nI i) (nI m) (nI p) = some (-9, nI (f + 1), upd kd f x, upd tk f (nI d), upd gr f 0) ∧ f_X5_readFlag (nI (B + p)) (nI f) vc vrk vrt vrg (nI (B + m)) = some (1, nI (B + p'), nI (f + 1), upd vrk f x, upd vrt f (nI d), upd vrg f g) ∧ ((m ≤ p + 2 ∧ p' = p + 2 ∧ g = 0) ∨ (p + 2 < m ∧ T (p + 2) = 35 ∧ p' = p + 3 ∧ g = 1) ∨ (p + 2 < m ∧ ¬ T (p + 2) = 35 ∧ p' = p + 2 ∧ g = 0)) := by
  have hh := h
  obtain ⟨h1, h2, h3, h4, h5⟩ := hh
  have cf : (nI f).toNatClampNeg = f := nI_clamp (by omega)
  have gf : ∀ {α : Type} (x : Option α), gx (nI f) 10 x = x := fun x => gxN hf (by omega)
  rw [f_X3_readFlag, nI_add, nI_1, nI_1, h4 p hp, obind, f_X5_readFlag, ie' (show ¬ nI (B + m) ≤ nI (B + p) from nI_ge (by omega) (by omega)), gxN (by omega) (by omega), nI_clamp (n := B + p) (by omega), h5 p hp]
  rcases letZ (T p) with ⟨e, z1, z2, z3⟩ | ⟨x, hx, e, eM⟩
  · obtain ⟨vrk', eM⟩ := no21 z1 z2 z3 hf vc (nI (B + m)) (nI (B + p)) vrk vrt vrg
    exact Or.inl ⟨p, vrk', vrt, by omega, by rw [e]; rfl, eM⟩
  rw [e, obind, ie' (x9 hx), it' (show nI f < (10 : Int32) from nI_lt (b := 10) hf (by omega)), eM, f_X5_readFlag_62, cf]
  simp only [gf]
  rw [upd_s, ie' (x9 hx), nI_1, nI_1]
  have hd := dgM h (p := p + 1) (a := 0) (b := 4) (by omega) (by omega) (by omega)
  have eB : B + (p + 1) = B + p + 1 := by omega
  rw [eB] at hd
  rcases hd with ⟨q1, ⟨d, d1, d2, d3, d4⟩, d5, d6⟩ | ⟨d4, d5⟩
  · have e4 : f_X5_digit (nI (B + p + 1)) vc (nI (B + m)) (0 : Int32) (4 : Int32) = some (nI d, nI (B + (p + 1 + 1))) := d4
    rw [it' (nI_lt q1 (by omega)), show i + p + 1 = i + (p + 1) by omega, h4 _ q1, obind, ie' (show ¬ T (p + 1) < (48 : Int32) from d5), it' (show T (p + 1) ≤ (52 : Int32) from d6), d3, sub48, e4, obind, upd_s, ie' (nI_m9 (by omega)), f_X5_isSign]
    by_cases q2 : m ≤ p + 2
    · rw [it' (show nI (B + m) ≤ nI (B + (p + 1 + 1)) from nI_le (by omega) (by omega)), obind, gdi (Or.inl rfl)]
      exact Or.inr ⟨x, d, 0, p + 2, hx, d2, Or.inl rfl, by omega, by omega, rfl, rfl, Or.inl ⟨q2, rfl, rfl⟩⟩
    · rw [ie' (show ¬ nI (B + m) ≤ nI (B + (p + 1 + 1)) from nI_ge (by omega) (by omega)), gxN (by omega) (by omega), nI_clamp (by omega), h5 _ (by omega)]
      by_cases q3 : T (p + 2) = 35
      · rw [it' (show T (p + 1 + 1) = 35 from q3), obind, gdi (Or.inr rfl), nI_1]
        exact Or.inr ⟨x, d, 1, p + 3, hx, d2, Or.inr rfl, by omega, by omega, rfl, rfl, Or.inr (Or.inl ⟨by omega, q3, rfl, rfl⟩)⟩
      · rw [ie' (show ¬ T (p + 1 + 1) = 35 from q3), obind, gdi (Or.inl rfl)]
        exact Or.inr ⟨x, d, 0, p + 2, hx, d2, Or.inl rfl, by omega, by omega, rfl, rfl, Or.inr (Or.inr ⟨by omega, q3, rfl, rfl⟩)⟩
  · have e4 : f_X5_digit (nI (B + p + 1)) vc (nI (B + m)) (0 : Int32) (4 : Int32) = some (-9, nI (B + p + 1)) := d4
    refine Or.inl ⟨p + 1, upd vrk f x, upd vrt f (-9), by omega, ?_, ?_⟩
    · by_cases q1 : p + 1 < m
      · rw [it' (nI_lt q1 (by omega)), show i + p + 1 = i + (p + 1) by omega, h4 _ q1, obind]
        rcases d5 q1 with z | ⟨z1, z2⟩
        · rw [it' (show T (p + 1) < (48 : Int32) from z)]
        · rw [ie' (show ¬ T (p + 1) < (48 : Int32) from z1), ie' (show ¬ T (p + 1) ≤ (52 : Int32) from z2)]
      · rw [ie' (nI_nlt (by omega) (by omega)), show m = p + 1 by omega]
    · rw [e4, obind, upd_s, it' rfl, eB]
/-- the flags, both sides -/
def Fl (f : Nat) (kd tk gr vrk vrt vrg : Nat → Int32) : Prop := ∀ j, j < f → (kd j = 0 ∨ kd j = 1 ∨ kd j = 2) ∧ (∃ t, t ≤ 4 ∧ tk j = nI t) ∧ (gr j = 0 ∨ gr j = 1) ∧ vrk j = kd j ∧ vrt j = tk j ∧ vrg j = gr j
theorem flagsP (h : Txt i B m n ce vc T) (st kn sb : Int32) (vh : Nat → Int32) : ∀ (d N M f p : Nat) (kd tk gr vrk vrt vrg : Nat → Int32), f + d = 10 → d + 1 < N → d < M → p ≤ m → 0 < m → b01 gr → Fl f kd tk gr vrk vrt vrg → ∃ (vh' vrk' vrt' vrg' kd' tk' gr' : Nat → Int32), b01 gr' ∧ ((∃ w cn' qm', w ≤ m ∧ f_X3_readText_L20 (nI n) ce (nI i) (nI m) (fun x4 x5 cn st kn sb kd tk gr => f_X3_readText_97 (nI m) x4 x5 cn st kn sb kd tk gr) N (-9) (nI p) (nI f) (nI f) st kn sb kd tk gr = some (nI w, cn', st, kn, sb, kd', tk', gr') ∧ f_X5_readStreet_L82 vc (nI (B + m)) (fun qa qm vh vrk vrt vrg => some ((0 : Int32), qa, qm, vh, vrk, vrt, vrg)) (fun qa qm vh vrk vrt vrg => if qa = nI (B + m) then (some ((1 : Int32), qa, qm, vh, vrk, vrt, vrg)) else (some ((0 : Int32), qa, qm, vh, vrk, vrt, vrg))) M (nI (B + p)) (nI f) vh vrk vrt vrg = some (0, nI (B + w), qm', vh', vrk', vrt', vrg')) ∨ ∃ f' qa', 2 ≤ f' ∧ f' ≤ 10 ∧ Fl f' kd' tk' gr' vrk' vrt' vrg' ∧ f_X3_readText_L20 (nI n) ce (nI i) (nI m) (fun x4 x5 cn st kn sb kd tk gr => f_X3_readText_97 (nI m) x4 x5 cn st kn sb kd tk gr) N (-9) (nI p) (nI f) (nI f) st kn sb kd tk gr = some (-9, nI f', st, kn, sb, kd', tk', gr') ∧ f_X5_readStreet_L82 vc (nI (B + m)) (fun qa qm vh vrk vrt vrg => some ((0 : Int32), qa, qm, vh, vrk, vrt, vrg)) (fun qa qm vh vrk vrt vrg => if qa = nI (B + m) then (some ((1 : Int32), qa, qm, vh, vrk, vrt, vrg)) else (some ((0 : Int32), qa, qm, vh, vrk, vrt, vrg))) M (nI (B + p)) (nI f) vh vrk vrt vrg = some (1, qa', nI f', vh, vrk', vrt', vrg')) := by
  have hh := h
  obtain ⟨h1, h2, h3, h4, h5⟩ := hh
  have m9 : ∀ w, w ≤ 60 → ¬ nI w = -9 := fun w hw => nI_m9 (by omega)
  intro d
  induction d with
  | zero =>
    intro N M f p kd tk gr vrk vrt vrg hf hN hM hp hm hb hF
    obtain ⟨N, rfl⟩ : ∃ t, N = t + 1 := ⟨N - 1, by omega⟩
    obtain ⟨M, rfl⟩ : ∃ t, M = t + 1 := ⟨M - 1, by omega⟩
    obtain rfl : f = 10 := by omega
    rw [f_X3_readText_L20, it' (show (10 : Int32) ≤ nI 10 by decide), f_X3_readText_97, it' rfl, f_X5_readStreet_L82, ie' (show ¬ nI 10 < (2 : Int32) by decide), it' (show (10 : Int32) ≤ nI 10 by decide)]
    refine ⟨vh, vrk, vrt, vrg, kd, tk, gr, hb, ?_⟩
    by_cases q : m ≤ p
    · obtain rfl : p = m := by omega
      rw [it' (nI_le q (by omega)), it' (show (2 : Int32) ≤ nI 10 by decide), it' rfl]
      exact Or.inr ⟨10, _, by omega, by omega, hF, rfl, rfl⟩
    · rw [ie' (nI_ge (by omega) (by omega)), ie' (show ¬ nI (B + p) = nI (B + m) from fun z => by have := (nI_eq (by omega) (by omega)).mp z; omega)]
      exact Or.inl ⟨p, _, _, hp, rfl, rfl⟩
  | succ d ih =>
    intro N M f p kd tk gr vrk vrt vrg hf hN hM hp hm hb hF
    obtain ⟨N, rfl⟩ : ∃ t, N = t + 2 := ⟨N - 2, by omega⟩
    obtain ⟨M, rfl⟩ : ∃ t, M = t + 1 := ⟨M - 1, by omega⟩
    have f10 : ¬ (10 : Int32) ≤ nI f := nI_ge (b := 10) (by omega) (by omega)
    by_cases q : m ≤ p
    · obtain rfl : p = m := by omega
      by_cases q2 : f < 2
      · have e : ∃ vrk', f_X5_readFlag (nI (B + p)) (nI f) vc vrk vrt vrg (nI (B + p)) = some (0, nI (B + p), nI f, vrk', vrt, vrg) := by
          rw [f_X5_readFlag, it' (nI_le (Nat.le_refl _) (by omega))]
          exact no21 (by decide) (by decide) (by decide) (by omega) _ _ _ _ _ _
        obtain ⟨vrk', e⟩ := e
        refine ⟨vh, vrk', vrt, vrg, kd, tk, gr, hb, Or.inl ⟨p, nI f, nI f, hp, ?_, ?_⟩⟩
        · rw [f_X3_readText_L20, ie' f10, it' rfl, it' (nI_le q (by omega)), f_X3_readText_97, it' rfl, it' (nI_le q (by omega)), ie' (show ¬ (2 : Int32) ≤ nI f from nI_ge (b := 2) q2 (by omega))]
        · rw [f_X5_readStreet_L82, it' (show nI f < (2 : Int32) from nI_lt (b := 2) q2 (by omega)), e, obind, it' z00]
      · refine ⟨vh, vrk, vrt, vrg, kd, tk, gr, hb, Or.inr ⟨f, nI (B + p), by omega, by omega, hF, ?_, ?_⟩⟩
        · rw [f_X3_readText_L20, ie' f10, it' rfl, it' (nI_le q (by omega)), f_X3_readText_97, it' rfl, it' (nI_le q (by omega)), it' (show (2 : Int32) ≤ nI f from nI_le (a := 2) (by omega) (by omega))]
        · rw [f_X5_readStreet_L82, ie' (show ¬ nI f < (2 : Int32) from nI_nlt (b := 2) (by omega) (by omega)), ie' f10, it' (nI_le (Nat.le_refl _) (by omega)), it' rfl]
    · -- the reference reads a flag, whichever way
      have eM : ∀ R, (∀ F : Int32 × Int32 × Int32 × (Nat → Int32) × (Nat → Int32) × (Nat → Int32) → Option (Int32 × Int32 × Int32 × (Nat → Int32) × (Nat → Int32) × (Nat → Int32) × (Nat → Int32)), (f_X5_readFlag (nI (B + p)) (nI f) vc vrk vrt vrg (nI (B + m))).bind F = F R) → ∀ K1 K2, f_X5_readStreet_L82 vc (nI (B + m)) K1 K2 (M + 1) (nI (B + p)) (nI f) vh vrk vrt vrg = (if R.1 = 0 then K1 R.2.1 R.2.2.1 vh R.2.2.2.1 R.2.2.2.2.1 R.2.2.2.2.2 else f_X5_readStreet_L82 vc (nI (B + m)) K1 K2 M R.2.1 R.2.2.1 vh R.2.2.2.1 R.2.2.2.2.1 R.2.2.2.2.2) := by
        intro R hR K1 K2
        rw [f_X5_readStreet_L82, ie' f10, ie' (show ¬ nI (B + m) ≤ nI (B + p) from nI_ge (by omega) (by omega)), hR]
        split <;> rfl
      rcases flagP h (p := p) (f := f) (by omega) (by omega) kd tk gr vrk vrt vrg with ⟨w, vrk', vrt', hw, e1, e2⟩ | ⟨x, dd, g, p', hx, hd, hg, hp2, hp', e1, e2, hc⟩
      · refine ⟨vh, vrk', vrt', vrg, kd, tk, gr, hb, Or.inl ⟨w, nI f, nI f, hw, ?_, ?_⟩⟩
        · rw [f_X3_readText_L20, ie' f10, it' rfl, ie' (nI_ge (by omega) (by omega)), e1, obind, ie' (m9 w (by omega)), f_X3_readText_L20, ie' (m9 w (by omega)), f_X3_readText_97, ie' (m9 w (by omega))]
          split <;> rfl
        · rw [eM (0, nI (B + w), nI f, vrk', vrt', vrg) (fun F => by rw [e2]; rfl), it' z00]
      · have e3 : ∀ gr', upd (upd gr f 0) f g = gr' → f_X3_readText_L20 (nI n) ce (nI i) (nI m) (fun x4 x5 cn st kn sb kd tk gr => f_X3_readText_97 (nI m) x4 x5 cn st kn sb kd tk gr) (N + 2) (-9) (nI p) (nI f) (nI f) st kn sb kd tk gr = f_X3_readText_L20 (nI n) ce (nI i) (nI m) (fun x4 x5 cn st kn sb kd tk gr => f_X3_readText_97 (nI m) x4 x5 cn st kn sb kd tk gr) (N + 1) (-9) (nI p') (nI (f + 1)) (nI (f + 1)) st kn sb (upd kd f x) (upd tk f (nI dd)) gr' := by
          intro gr' hgr
          have cf : (nI f).toNatClampNeg = f := nI_clamp (by omega)
          have same : upd (upd gr f 0) f 0 = upd gr f 0 := by
            funext j
            by_cases z : j = f
            · rw [z, pk_us, pk_us]
            · rw [pk_un z]
          rw [f_X3_readText_L20, ie' f10, it' rfl, ie' (nI_ge (by omega) (by omega)), e1, obind, it' rfl, nI_add_2, nI_1]
          rcases hc with ⟨c1, c2, c3⟩ | ⟨c1, c2, c3, c4⟩ | ⟨c1, c2, c3, c4⟩
          · rw [it' (nI_le c1 (by omega)), c2, ← hgr, c3, same]
          · rw [ie' (nI_ge (by omega) (by omega)), nI_add, show i + (p + 2) = i + (p + 2) from rfl, h4 _ c1, obind, it' c2, gxN (by omega) (by omega), cf, nI_1, c3, ← hgr, c4]
          · rw [ie' (nI_ge (by omega) (by omega)), nI_add, h4 _ c1, obind, ie' c2, c3, ← hgr, c4, same]
        have hF' : Fl (f + 1) (upd kd f x) (upd tk f (nI dd)) (upd (upd gr f 0) f g) (upd vrk f x) (upd vrt f (nI dd)) (upd vrg f g) := by
          intro j hj
          by_cases z : j = f
          · rw [z, pk_us, pk_us, pk_us, pk_us, pk_us, pk_us]
            exact ⟨hx, ⟨dd, hd, rfl⟩, hg, rfl, rfl, rfl⟩
          · rw [pk_un z, pk_un z, pk_un z, pk_un z, pk_un z, pk_un z, pk_un z]
            exact hF j (by omega)
        obtain ⟨vh', vrk2, vrt2, vrg2, kd', tk', gr', hb', hr⟩ := ih (N + 1) M (f + 1) p' _ _ _ _ _ _ (by omega) (by omega) (by omega) hp' hm (b01_up (b01_up hb f (Or.inl rfl)) f hg) hF'
        refine ⟨vh', vrk2, vrt2, vrg2, kd', tk', gr', hb', ?_⟩
        rw [e3 _ rfl, eM (1, nI (B + p'), nI (f + 1), upd vrk f x, upd vrt f (nI dd), upd vrg f g) (fun F => by rw [e2]; rfl), ie' n10]
        exact hr
/-- the reference takes over what it read -/
theorem takeL {f : Nat} (hf : f ≤ 10) (qs qk qo qa qm qr : Int32) (vh vrk vrt vrg : Nat → Int32) (hg : ∀ j, j < f → vrg j = 0 ∨ vrg j = 1) : ∀ KK, ∀ (d N x : Nat) (qf : Int32) (vk vt vg : Nat → Int32), x + d = f → d < N → b01 vg → ∃ vk' vt' vg', f_X5_street_L125 KK N (nI x) qf (nI f) qs qk qo qa qm qr vk vt vg vh vrk vrt vrg = KK qf (nI f) qs qk qo qa qm qr vk' vt' vg' vh vrk vrt vrg ∧ b01 vg' ∧ (∀ j, j < x → vk' j = vk j ∧ vt' j = vt j ∧ vg' j = vg j) ∧ ∀ j, x ≤ j → j < f → vk' j = vrk j ∧ vt' j = vrt j ∧ vg' j = vrg j := by
  intro KK d
  induction d with
  | zero =>
    intro N x qf vk vt vg hx hN hb
    obtain ⟨N, rfl⟩ : ∃ t, N = t + 1 := ⟨N - 1, by omega⟩
    obtain rfl : x = f := by omega
    rw [f_X5_street_L125, it' (nI_le (Nat.le_refl x) (by omega))]
    exact ⟨vk, vt, vg, rfl, hb, fun j _ => ⟨rfl, rfl, rfl⟩, fun j h1 h2 => absurd h2 (by omega)⟩
  | succ d ih =>
    intro N x qf vk vt vg hx hN hb
    obtain ⟨N, rfl⟩ : ∃ t, N = t + 1 := ⟨N - 1, by omega⟩
    have gf : ∀ {α : Type} (o : Option α), gx (nI x) 10 o = o := fun o => gxN (by omega) (by omega)
    have cx : (nI x).toNatClampNeg = x := nI_clamp (by omega)
    have h01 := hg x (by omega)
    obtain ⟨vk', vt', vg', e, h1, h2, h3⟩ := ih N (x + 1) qf (upd vk x (vrk x)) (upd vt x (vrt x)) (upd vg x (vrg x)) (by omega) (by omega) (b01_up hb x h01)
    refine ⟨vk', vt', vg', ?_, h1, fun j hj => ?_, fun j hj1 hj2 => ?_⟩
    · rw [f_X5_street_L125, ie' (nI_ge (by omega) (by omega))]
      simp only [gf, cx]
      rw [gdi h01, nI_1]
      exact e
    · obtain ⟨a1, a2, a3⟩ := h2 j (by omega)
      rw [a1, a2, a3, pk_un (by omega), pk_un (by omega), pk_un (by omega)]
      exact ⟨rfl, rfl, rfl⟩
    · rcases Nat.eq_or_lt_of_le hj1 with z | z
      · obtain ⟨a1, a2, a3⟩ := h2 j (by omega)
        rw [a1, a2, a3, ← z, pk_us, pk_us, pk_us]
        exact ⟨rfl, rfl, rfl⟩
      · exact h3 j z hj2
theorem textP (h : Txt i B m n ce vc T) (cn st kn sb qm : Int32) (kd tk gr vh vrk vrt vrg : Nat → Int32) (hb : b01 gr) : ∃ (vh' vrk' vrt' vrg' kd' tk' gr' : Nat → Int32), b01 gr' ∧ ((∃ w cn' st' kn' sb' qm', w ≤ m ∧ f_X3_readText cn st kn sb (nI n) kd tk gr ce (nI i) (nI m) = some (nI w, cn', st', kn', sb', kd', tk', gr') ∧ f_X5_readStreet (nI B) qm vc vh vrk vrt vrg (nI (B + m)) = some (0, nI (B + w), qm', vh', vrk', vrt', vrg')) ∨ ∃ f s k b qa', 2 ≤ f ∧ f ≤ 10 ∧ s ≤ 4 ∧ k ≤ 3 ∧ b ≤ 2 ∧ Fl f kd' tk' gr' vrk' vrt' vrg' ∧ f_X3_readText cn st kn sb (nI n) kd tk gr ce (nI i) (nI m) = some (-9, nI f, nI s, nI k, nI b, kd', tk', gr') ∧ f_X5_readStreet (nI B) qm vc vh vrk vrt vrg (nI (B + m)) = some (1, qa', nI f, vh', vrk', vrt', vrg') ∧ vh' 0 = nI s ∧ vh' 1 = nI k ∧ vh' 2 = nI b) := by
  obtain ⟨vh', ⟨w, hw, e1, e2⟩ | ⟨hm, s, k, b, hs, hk, hb', e1, v0, v1, v2, e2⟩⟩ := headP h st kn sb qm vh vrk vrt vrg
  · have hw6 : ¬ nI w = -9 := nI_m9 (by have := h.2.1; omega)
    refine ⟨vh', vrk, vrt, vrg, kd, tk, gr, hb, Or.inl ⟨w, 0, st, kn, sb, 0, hw, ?_, e2⟩⟩
    rw [f_X3_readText, e1, obind, f_X3_readText_L20, ie' (show ¬ (10 : Int32) ≤ 0 by decide), ie' hw6, f_X3_readText_97, ie' hw6]
  · obtain ⟨vh2, vrk', vrt', vrg', kd', tk', gr', hbb, hr⟩ := flagsP h (nI s) (nI k) (nI b) vh' 10 100 100 0 4 kd tk gr vrk vrt vrg (by omega) (by omega) (by omega) hm (by omega) hb (fun j hj => absurd hj (Nat.not_lt_zero j))
    have eX : f_X3_readText cn st kn sb (nI n) kd tk gr ce (nI i) (nI m) = f_X3_readText_L20 (nI n) ce (nI i) (nI m) (fun x4 x5 cn st kn sb kd tk gr => f_X3_readText_97 (nI m) x4 x5 cn st kn sb kd tk gr) 100 (-9) (nI 4) (nI 0) (nI 0) (nI s) (nI k) (nI b) kd tk gr := by
      rw [f_X3_readText, e1, obind]
      rfl
    rcases hr with ⟨w, cn', qm', hw, g1, g2⟩ | ⟨f, qa', f2, f10, hF, g1, g2⟩
    · exact ⟨vh2, vrk', vrt', vrg', kd', tk', gr', hbb, Or.inl ⟨w, cn', _, _, _, qm', hw, eX.trans g1, e2.trans g2⟩⟩
    · exact ⟨vh', vrk', vrt', vrg', kd', tk', gr', hbb, Or.inr ⟨f, s, k, b, qa', f2, f10, hs, hk, hb', hF, eX.trans g1, e2.trans g2, v0, v1, v2⟩⟩
end Rd
section Stp
variable {c s k b r : Nat} {kd tk gr vk vt vg rg vq : Nat → Int32} {th ln le : Nat → Int32} {ce : Nat → Nat → Int32} {vs vl vc : Nat → Int32}
/-- what stands against a take, both sides -/
theorem agP (hS : Sh th ln le ce vs vl vc) {w : Nat} (hw : w < 4) {a : Nat} (ha : a < 3) (zi zn : Int32) : (th w = 0 ∧ f_X1_isUnlike (th w) (ln w) (nI a) = some 0 ∧ f_X5_against vs vl (nI w) (nI a) zi zn = some 1) ∨ (¬ th w = 0 ∧ ∃ n, n ≤ 60 ∧ le w = nI n ∧ (∀ i, i < 60 → ce w i = vc (60 * w + i)) ∧ ((f_X1_isUnlike (th w) (ln w) (nI a) = some 1 ∧ f_X5_against vs vl (nI w) (nI a) zi zn = some 2) ∨ (f_X1_isUnlike (th w) (ln w) (nI a) = some 0 ∧ ((zn < 0 ∧ ¬ 0 ≤ zn ∧ f_X5_against vs vl (nI w) (nI a) zi zn = some 4) ∨ (0 ≤ zn ∧ ((f_X1_holds (nI n) zi zn = some 0 ∧ f_X5_against vs vl (nI w) (nI a) zi zn = some 3) ∨ ∃ i m, zi = nI i ∧ zn = nI m ∧ i + m ≤ n ∧ f_X1_holds (nI n) zi zn = some 1 ∧ f_X5_against vs vl (nI w) (nI a) zi zn = some 0)))))) := by
  rw [f_X5_against, f_X5_against_23, f_X1_isUnlike]
  simp only [gx4 hw, kcl hw]
  obtain ⟨n, hn, en, ⟨q1, q2⟩ | ⟨q1, ⟨b, hb, q2, q3⟩, q4, q5⟩⟩ := hS w hw
  · exact Or.inl ⟨q1, it' q1, by rw [it' q2, it' q2]⟩
  have t0 : ¬ th w = 0 := by rw [q1]; decide
  have v9 : ¬ vs w = -9 := by rw [q3]; exact na9 hb
  refine Or.inr ⟨t0, n, hn, en, q5, ?_⟩
  rw [ie' t0, ie' v9, ie' v9, q2, q3, q4]
  by_cases z : nI b = nI a
  · rw [it' z, it' z]
    refine Or.inr ⟨rfl, ?_⟩
    rcases Iz zn with g | ⟨m, hm, rfl⟩
    · exact Or.inl ⟨g, nle g, ie' (nle g)⟩
    · refine Or.inr ⟨nI_pos' hm, ?_⟩
      rw [it' (nI_pos' hm)]
      rcases holdsZ hn zi (nI m) with ⟨e, hno⟩ | ⟨i, m', rfl, e2, h3, e⟩
      · refine Or.inl ⟨e, ?_⟩
        rcases Iz zi with g | ⟨i, hi, rfl⟩
        · rw [it' g]
        · rw [ie' (nI_pos hi)]
          by_cases z1 : n < i
          · rw [it' (nI_lt z1 hi)]
          · rw [ie' (nI_nlt (by omega) (by omega)), nI_sub (by omega)]
            have : ¬ m ≤ n - i := fun q => hno ⟨i, m, rfl, rfl, by omega⟩
            rw [ie' (nI_ge (by omega) hm)]
      · have hmm := (nI_eq hm (by omega)).mp e2
        subst hmm
        refine Or.inr ⟨i, m, rfl, rfl, h3, e, ?_⟩
        rw [ie' (nI_pos (by omega)), ie' (nI_nlt (by omega) (by omega)), nI_sub (by omega), it' (nI_le (by omega) (by omega))]
  · rw [ie' z, ie' z]
    exact Or.inl ⟨rfl, rfl⟩
theorem atP {n i : Nat} {ce : Nat → Int32} (hn : n ≤ 60) (hi : i < n) : f_X1_at (nI n) ce (nI i) = some (ce i) := by
  rw [f_X1_at, ie' (nI_pos (by omega)), ie' (nI_ge hi (by omega)), gxN (by omega) (by omega), nI_clamp (by omega)]
theorem txtOf {w i m n : Nat} {ce vc : Nat → Int32} (hw : w < 4) (hn : n ≤ 60) (h : i + m ≤ n) (hc : ∀ j, j < 60 → ce j = vc (60 * w + j)) : Txt i (60 * w + i) m n ce vc (fun p => ce (i + p)) :=
  ⟨by omega, by omega, by omega, fun p hp => atP hn (by omega), fun p hp => by rw [Nat.add_assoc]; exact (hc _ (by omega)).symm⟩
theorem pr_street (h : St c s k b kd tk gr vk vt vg) (hS : Sh th ln le ce vs vl vc) (ab au : Nat) (qf cnu stu knu sbu qa qm zs zl zi zn : Int32) (kdu tku gru vh vrk vrt vrg : Nat → Int32) (hu : b01 gru) : ∃ w, w < 4 ∧ ∃ (x lf' cnu' stu' knu' sbu' qa' qm' : Int32) (kdu' tku' gru' vh' vrk' vrt' vrg' : Nat → Int32), (f_X4_street ab au (nI r) cnu stu knu sbu (th w) (ln w) (le w) kdu tku gru (ce w) zs zl zi zn w = some (x, ab, au, nI r, lf', cnu', stu', knu', sbu', kdu', tku', gru') ∧ f_X5_street qf (nI c) (nI s) (nI k) (nI b) qa qm (nI r) vs vl vc vk vt vg vh vrk vrt vrg zs zl zi zn = some (x, lf', nI c, nI s, nI k, nI b, qa', qm', nI r, vk, vt, vg, vh', vrk', vrt', vrg') ∧ b01 gru') ∨ ∃ (c' s' k' b' : Nat) (vk' vt' vg' : Nat → Int32), f_X4_street ab au (nI r) cnu stu knu sbu (th w) (ln w) (le w) kdu tku gru (ce w) zs zl zi zn w = some (x, au, ab, 0, lf', nI c', nI s', nI k', nI b', kdu', tku', gru') ∧ f_X5_street qf (nI c) (nI s) (nI k) (nI b) qa qm (nI r) vs vl vc vk vt vg vh vrk vrt vrg zs zl zi zn = some (x, lf', nI c', nI s', nI k', nI b', qa', qm', 0, vk', vt', vg', vh', vrk', vrt', vrg') ∧ St c' s' k' b' kdu' tku' gru' vk' vt' vg' := by
  rcases shZ zs with ⟨e1, e2⟩ | ⟨w, hw, rfl, e1, e2⟩
  · refine ⟨0, by omega, -1, 0, cnu, stu, knu, sbu, qa, qm, kdu, tku, gru, vh, vrk, vrt, vrg, Or.inl ⟨?_, ?_, hu⟩⟩
    · rw [f_X4_street, e1]; rfl
    · rw [f_X5_street, e2]; rfl
  refine ⟨w, hw, ?_⟩
  rw [f_X4_street, f_X5_street, e1, e2, obind, obind, ie' n10, ie' n10]
  rcases laZ zl with ⟨e3, e4⟩ | ⟨a, ha, rfl, e3, e4⟩
  · exact ⟨-2, 0, cnu, stu, knu, sbu, qa, qm, kdu, tku, gru, vh, vrk, vrt, vrg, Or.inl ⟨by rw [e3]; rfl, by rw [e4]; rfl, hu⟩⟩
  rw [e3, e4, obind, obind, ie' n10, ie' n10, gx4 hw, gdi (kcl hw)]
  rcases agP hS hw ha zi zn with ⟨t, u, v⟩ | ⟨t, n, hn, en, hc, ⟨u, v⟩ | ⟨u, ⟨-, g, v⟩ | ⟨g, ⟨g2, v⟩ | ⟨i, m, rfl, rfl, him, g2, v⟩⟩⟩⟩
  · exact ⟨-11, 1, cnu, stu, knu, sbu, qa, qm, kdu, tku, gru, vh, vrk, vrt, vrg, Or.inl ⟨by rw [u, obind, it' z00, it' t]; rfl, by rw [v]; rfl, hu⟩⟩
  · exact ⟨-12, 2, cnu, stu, knu, sbu, qa, qm, kdu, tku, gru, vh, vrk, vrt, vrg, Or.inl ⟨by rw [u]; rfl, by rw [v]; rfl, hu⟩⟩
  · exact ⟨-14, 4, cnu, stu, knu, sbu, qa, qm, kdu, tku, gru, vh, vrk, vrt, vrg, Or.inl ⟨by rw [u, obind, it' z00, ie' t, ie' g]; rfl, by rw [v]; rfl, hu⟩⟩
  · exact ⟨-13, 3, cnu, stu, knu, sbu, qa, qm, kdu, tku, gru, vh, vrk, vrt, vrg, Or.inl ⟨by rw [u, obind, it' z00, ie' t, it' g, en, g2]; rfl, by rw [v]; rfl, hu⟩⟩
  · obtain ⟨vh', vrk', vrt', vrg', kd', tk', gr', hb, hr⟩ := textP (txtOf hw hn him hc) cnu stu knu sbu qm kdu tku gru vh vrk vrt vrg hu
    rw [u, obind, it' z00, ie' t, it' g, en, g2, obind, ie' n10, v, obind, it' z00, m60 w hw, nI_add, nI_add]
    rcases hr with ⟨x, cn', st', kn', sb', qm', hx, a1, a2⟩ | ⟨f, s', k', b', qa', f2, f10, hs, hk, hb', hF, a1, a2, v0, v1, v2⟩
    · rw [a1, a2]
      refine ⟨-100 - nI x, 0, cn', st', kn', sb', nI (60 * w + i + x), qm', kd', tk', gr', vh', vrk', vrt', vrg', Or.inl ⟨?_, ?_, hb⟩⟩
      · rw [obind, ie' (nI_m9 (by omega))]
      · rw [obind, it' z00, nI_sub (by omega), show 60 * w + i + x - (60 * w + i) = x by omega]
    · rw [a1, a2]
      obtain ⟨vk', vt', vg', t1, t2, -, t4⟩ := takeL f10 (nI s') (nI k') (nI b') qa' (nI f) (nI r) vh' vrk' vrt' vrg' (fun j hj => by obtain ⟨-, -, z1, -, -, z2⟩ := hF j hj; rw [z2]; exact z1) (fun (qf : Int32) (qn : Int32) (qs : Int32) (qk : Int32) (qo : Int32) (qa : Int32) (qm : Int32) (qr : Int32) (vk : Nat → Int32) (vt : Nat → Int32) (vg : Nat → Int32) (vh : Nat → Int32) (vrk : Nat → Int32) (vrt : Nat → Int32) (vrg : Nat → Int32) => some (qn, qf, qn, qs, qk, qo, qa, qm, (0 : Int32), vk, vt, vg, vh, vrk, vrt, vrg)) f 100 0 0 vk vt vg (by omega) (by omega) h.2.2.2.2
      refine ⟨nI f, 0, nI f, nI s', nI k', nI b', qa', nI f, kd', tk', gr', vh', vrk', vrt', vrg', Or.inr ⟨f, s', k', b', vk', vt', vg', ?_, ?_, ?_⟩⟩
      · rw [obind, it' rfl]
      · rw [obind, ie' n10]
        show gx (nI 0) 3 (gx (nI 1) 3 (gx (nI 2) 3 (f_X5_street_L125 _ 100 0 0 (nI f) (vh' 0) (vh' 1) (vh' 2) qa' (nI f) (nI r) vk vt vg vh' vrk' vrt' vrg'))) = _
        rw [gxN (by omega) (by omega), gxN (by omega) (by omega), gxN (by omega) (by omega), v0, v1, v2]
        exact t1
      · refine ⟨⟨hs, hk, hb'⟩, ⟨f10, fun j hj => ?_⟩, fun j hj => ?_, hb, t2⟩
        · obtain ⟨z1, z2, z3, -⟩ := hF j hj
          exact ⟨z1, z2, z3⟩
        · obtain ⟨z1, z2, z3⟩ := t4 j (Nat.zero_le j) hj
          obtain ⟨-, -, -, y1, y2, y3⟩ := hF j hj
          exact ⟨z1.trans y1, z2.trans y2, z3.trans y3⟩
end Stp
