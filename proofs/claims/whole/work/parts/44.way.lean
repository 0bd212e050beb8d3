/-! a way gone, both sides -/
section Wy
variable {i B m n c s k b : Nat} {ce vc T kd tk gr vk vt vg : Nat → Int32}
theorem actsX (h : Txt i B m n ce vc T) (k27 k35 : Option Int32) : ∀ (d N p : Nat), p + d = m → d < N → (f_X4_areActs_L2 (nI n) ce (nI i) (nI m) k27 k35 N (nI p) = k35 ∧ ∀ j, p ≤ j → j < m → ∃ a, a ≤ 4 ∧ T j = nI a) ∨ (f_X4_areActs_L2 (nI n) ce (nI i) (nI m) k27 k35 N (nI p) = k27 ∧ ∃ j, p ≤ j ∧ j < m ∧ f_X5_within (T j) 0 4 = some 0) := by
  obtain ⟨h1, h2, h3, h4, h5⟩ := h
  intro d
  induction d with
  | zero =>
    intro N p hp hN
    obtain ⟨N, rfl⟩ : ∃ t, N = t + 1 := ⟨N - 1, by omega⟩
    exact Or.inl ⟨by rw [f_X4_areActs_L2, it' (nI_le (by omega) (by omega))], fun j a1 a2 => absurd a2 (by omega)⟩
  | succ d ih =>
    intro N p hp hN
    obtain ⟨N, rfl⟩ : ∃ t, N = t + 1 := ⟨N - 1, by omega⟩
    rw [f_X4_areActs_L2, ie' (nI_ge (by omega) (by omega)), nI_add, h4 p (by omega), obind, nI_1]
    rcases wiZ' (A := 0) (B := 4) (a := 0) (b := 4) rfl rfl (by omega) (by omega) (T p) with ⟨e, q⟩ | ⟨a, a1, a2, e3, e, q1, q2, q3⟩
    · refine Or.inr ⟨?_, p, Nat.le_refl p, by omega, e⟩
      rcases q with q | ⟨q1, q2, q3⟩
      · rw [it' q]
      · rw [ie' q1]
        rcases Iz (T p) with g | ⟨t, ht, g⟩
        · exact absurd g q1
        · rw [g] at q3 ⊢
          rw [ie' (show ¬ nI t < (5 : Int32) from nI_nlt (b := 5) (Nat.lt_of_not_le (fun z => q3 (nI_le (b := 4) z (by omega)))) ht)]
    · rw [ie' q1, e3, it' (show nI a < (5 : Int32) from nI_lt (b := 5) (by omega) (by omega))]
      rcases ih N (p + 1) (by omega) (by omega) with ⟨g1, g2⟩ | ⟨g1, j, j1, j2, g2⟩
      · refine Or.inl ⟨g1, fun j j1 j2 => ?_⟩
        rcases Nat.eq_or_lt_of_le j1 with z | z
        · exact ⟨a, a2, by rw [← z]; exact e3⟩
        · exact g2 j z j2
      · exact Or.inr ⟨g1, j, by omega, j2, g2⟩
theorem actsM (h : Txt i B m n ce vc T) : ∀ K1 K2, ∀ (d N p : Nat) (qf qg qp qu ql qe qb qw : Int32), p + d = m → d < N → ((∀ j, p ≤ j → j < m → ∃ a, a ≤ 4 ∧ T j = nI a) → f_X5_way_L90 vc (nI m) K1 K2 N (nI B) (nI p) qf qg qp qu ql qe qb qw = K2 (nI B) qf qg qp qu ql qe qb qw) ∧ ((∃ j, p ≤ j ∧ j < m ∧ f_X5_within (T j) 0 4 = some 0) → f_X5_way_L90 vc (nI m) K1 K2 N (nI B) (nI p) qf qg qp qu ql qe qb qw = K1 qf qg qp qu ql qe qb qw) := by
  obtain ⟨h1, h2, h3, h4, h5⟩ := h
  intro K1 K2 d
  induction d with
  | zero =>
    intro N p qf qg qp qu ql qe qb qw hp hN
    obtain ⟨N, rfl⟩ : ∃ t, N = t + 1 := ⟨N - 1, by omega⟩
    refine ⟨fun _ => by rw [f_X5_way_L90, it' (nI_le (by omega) (by omega))], fun ⟨j, j1, j2, _⟩ => absurd j2 (by omega)⟩
  | succ d ih =>
    intro N p qf qg qp qu ql qe qb qw hp hN
    obtain ⟨N, rfl⟩ : ∃ t, N = t + 1 := ⟨N - 1, by omega⟩
    rw [f_X5_way_L90, ie' (nI_ge (by omega) (by omega)), nI_add, gxN (by omega) (by omega), nI_clamp (by omega), h5 p (by omega), nI_1]
    obtain ⟨i1, i2⟩ := ih N (p + 1) qf qg qp qu ql qe qb qw (by omega) (by omega)
    rcases wiZ' (A := 0) (B := 4) (a := 0) (b := 4) rfl rfl (by omega) (by omega) (T p) with ⟨e, q⟩ | ⟨a, a1, a2, e3, e, q1, q2, q3⟩
    · rw [e, obind, it' z00]
      refine ⟨fun hall => ?_, fun _ => rfl⟩
      obtain ⟨a, ha, g⟩ := hall p (Nat.le_refl p) (by omega)
      rw [g] at q
      rcases q with q | ⟨q1, q2, q3⟩
      · exact absurd q (nI_pos (by omega))
      · exact absurd (show nI a ≤ (4 : Int32) from nI_le (b := 4) ha (by omega)) q3
    · rw [e, obind, ie' n10]
      refine ⟨fun hall => i1 (fun j j1 j2 => hall j (by omega) j2), fun ⟨j, j1, j2, j3⟩ => ?_⟩
      rcases Nat.eq_or_lt_of_le j1 with z | z
      · rw [← z, e] at j3
        exact absurd j3 (by decide)
      · exact i2 ⟨j, z, j2, j3⟩
theorem add0 (x : Int32) : x + (0 : Int32) = x := Int32.add_zero x
theorem rideP (h : Txt i B m n ce vc T) (hS : St c s k b kd tk gr vk vt vg) (hA : ∀ j, j < m → ∃ a, a ≤ 4 ∧ T j = nI a) : ∀ (d N p : Nat) (x : P4) (ft se pu : Int32), okP c x → p + d = m → d < N → ∃ (r : Int32) (x' : P4) (ft' se' pu' : Int32), (r = -9 ∨ ∃ w, w ≤ 60 ∧ r = nI w) ∧ f_X4_ride_L14 (nI c) (nI s) (nI k) (nI n) kd tk gr ce (nI i) (nI m) (fun (x4 : Int32) (flx : Int32) (pcx : Int32) (ftx : Int32) (tix : Int32) (sox : Int32) (sex : Int32) (pux : Int32) => some (x4, flx, pcx, ftx, tix, sox, sex, pux)) (fun (flx : Int32) (pcx : Int32) (ftx : Int32) (tix : Int32) (sox : Int32) (sex : Int32) (pux : Int32) => some ((-9 : Int32), flx, pcx, ftx, tix, sox, sex, pux)) N (nI p) (nI x.1) (nI x.2.1) ft (nI x.2.2.1) (nI x.2.2.2) se pu = some (r, nI x'.1, nI x'.2.1, ft', nI x'.2.2.1, nI x'.2.2.2, se', pu') ∧ f_X5_goWay_L6 (nI c) (nI s) (nI k) vc vk vt vg (nI B) (nI m) (fun (x3 : Int32) (qg : Int32) (qp : Int32) (qu : Int32) (ql : Int32) (qe : Int32) (qb : Int32) (qw : Int32) => some (x3, qg, qp, qu, ql, qe, qb, qw)) (fun (qg : Int32) (qp : Int32) (qu : Int32) (ql : Int32) (qe : Int32) (qb : Int32) (qw : Int32) => some ((-9 : Int32), qg, qp, qu, ql, qe, qb, qw)) N (nI p) (nI x.1) (nI x.2.1) (nI x.2.2.1) (nI x.2.2.2) se ft pu = some (r, nI x'.1, nI x'.2.1, nI x'.2.2.1, nI x'.2.2.2, se', ft', pu') := by
  obtain ⟨h1, h2, h3, h4, h5⟩ := h
  obtain ⟨hs, hk, -⟩ := hS.1
  have hc := hS.c10
  intro d
  induction d with
  | zero =>
    intro N p x ft se pu hx hp hN
    obtain ⟨N, rfl⟩ : ∃ t, N = t + 1 := ⟨N - 1, by omega⟩
    refine ⟨-9, x, ft, se, pu, Or.inl rfl, ?_, ?_⟩
    · rw [f_X4_ride_L14, it' (nI_le (by omega) (by omega))]
    · rw [f_X5_goWay_L6, it' (nI_le (by omega) (by omega))]
  | succ d ih =>
    intro N p x ft se pu hx hp hN
    obtain ⟨N, rfl⟩ : ∃ t, N = t + 1 := ⟨N - 1, by omega⟩
    obtain ⟨a, ha, eT⟩ := hA p (by omega)
    have eX := canX (s := s) (kd := kd) (tk := tk) (gr := gr) hc hk hx ha
    have eM := mayM (s := s) (kd := vk) (tk := vt) (gr := vg) hc hk hx ha
    rw [hS.cg] at eM
    have uX : ∀ K1 K2, f_X4_ride_L14 (nI c) (nI s) (nI k) (nI n) kd tk gr ce (nI i) (nI m) K1 K2 (N + 1) (nI p) (nI x.1) (nI x.2.1) ft (nI x.2.2.1) (nI x.2.2.2) se pu = if (if (stN c s k kd tk gr a x).isSome then (1 : Int32) else 0) = 0 then K1 (nI p) (nI x.1) (nI x.2.1) ft (nI x.2.2.1) (nI x.2.2.2) se pu else (f_X0_goBy (nI x.1) (nI x.2.1) ft (nI x.2.2.1) (nI x.2.2.2) se pu (nI c) (nI s) kd tk gr (nI a)).bind (fun o9 => f_X4_ride_L14 (nI c) (nI s) (nI k) (nI n) kd tk gr ce (nI i) (nI m) K1 K2 N (nI (p + 1)) o9.1 o9.2.1 o9.2.2.1 o9.2.2.2.1 o9.2.2.2.2.1 o9.2.2.2.2.2.1 o9.2.2.2.2.2.2) := by
      intro K1 K2
      rw [f_X4_ride_L14, ie' (nI_ge (by omega) (by omega)), nI_add, h4 p (by omega), obind, eT, eX, obind, nI_1]
    have eV : vc (nI B + nI p).toNatClampNeg = nI a := by
      rw [nI_add, nI_clamp (by omega), h5 p (by omega), eT]
    have gV : ∀ {α : Type} (o : Option α), gx (nI B + nI p) 240 o = o := fun o => by
      rw [nI_add]; exact gxN (by omega) (by omega)
    cases hst : stN c s k kd tk gr a x with
    | none =>
      refine ⟨nI p, x, ft, se, pu, Or.inr ⟨p, by omega, rfl⟩, ?_, ?_⟩
      · rw [uX, hst]; rfl
      · rw [f_X5_goWay_L6, ie' (nI_ge (by omega) (by omega)), gV, eV, eM, hst]; rfl
    | some y =>
      have hy := stN_ok hk hx hst
      have gX := goByX hS.2.1 hs hx ha hst ft se pu
      have gM := actM hS.okm hs hx ha (by rw [hS.cg]; exact hst)
      obtain ⟨r, x', ft', se', pu', hr, i1, i2⟩ := ih N (p + 1) y (if a = 1 then 1 - ft else ft) (se + nI (dtN a)) (if a = 0 then pu + 1 else pu) hy (by omega) (by omega)
      refine ⟨r, x', ft', se', pu', hr, ?_, ?_⟩
      · rw [uX, hst, gX]
        exact i1
      · rw [f_X5_goWay_L6, ie' (nI_ge (by omega) (by omega)), gV, eV, eM, hst, obind, ie' (show ¬ (if (some y).isSome = true then (1 : Int32) else 0) = 0 from n10), gM, obind, nI_1]
        refine Eq.trans ?_ i2
        rcases a5 ha with rfl | rfl | rfl | rfl | rfl
        · rw [ie' (show ¬ nI 0 = (4 : Int32) by decide), ie' (show ¬ nI 0 = (1 : Int32) by decide), it' nI_0]
          rfl
        · rw [ie' (show ¬ nI 1 = (4 : Int32) by decide), it' (show nI 1 = (1 : Int32) from rfl), ie' (show ¬ nI 1 = (0 : Int32) by decide), add0]
          rfl
        · rw [ie' (show ¬ nI 2 = (4 : Int32) by decide), ie' (show ¬ nI 2 = (1 : Int32) by decide), ie' (show ¬ nI 2 = (0 : Int32) by decide), add0]
          rfl
        · rw [ie' (show ¬ nI 3 = (4 : Int32) by decide), ie' (show ¬ nI 3 = (1 : Int32) by decide), ie' (show ¬ nI 3 = (0 : Int32) by decide), add0]
          rfl
        · rw [it' (show nI 4 = (4 : Int32) from rfl), ie' (show ¬ nI 4 = (1 : Int32) by decide), ie' (show ¬ nI 4 = (0 : Int32) by decide), add0]
          rfl
theorem tellsP (f p t u l e w v : Int32) : f_X4_riderTells f p t u l e w v = f_X5_tellWay f p u l e t w v := rfl
end Wy
section Wz
variable {c s k b : Nat} {kd tk gr vk vt vg : Nat → Int32} {th ln le : Nat → Int32} {ce : Nat → Nat → Int32} {vs vl vc : Nat → Int32}
theorem pr_way (h : St c s k b kd tk gr vk vt vg) (hS : Sh th ln le ce vs vl vc) (f1 f2 f3 f4 f5 f6 f7 q1 q2 q3 q4 q5 q6 q7 qf zs zl zi zn zv : Int32) : ∃ w, w < 4 ∧ ∃ (x lf' g1 g2 g3 g4 g5 g6 g7 p1 p2 p3 p4 p5 p6 p7 : Int32), f_X4_way f1 f2 f3 f4 f5 f6 f7 (nI c) (nI s) (nI k) (nI b) (th w) (ln w) (le w) kd tk gr (ce w) zs zl zi zn zv w = some (x, lf', g1, g2, g3, g4, g5, g6, g7) ∧ f_X5_way qf (nI c) (nI s) (nI k) (nI b) q1 q2 q3 q4 q5 q6 q7 vs vl vc vk vt vg zs zl zi zn zv = some (x, lf', p1, p2, p3, p4, p5, p6, p7) := by
  rcases shZ zs with ⟨e1, e2⟩ | ⟨w, hw, rfl, e1, e2⟩
  · refine ⟨0, by omega, -1, 0, f1, f2, f3, f4, f5, f6, f7, q1, q2, q3, q4, q5, q6, q7, ?_, ?_⟩
    · rw [f_X4_way, e1]; rfl
    · rw [f_X5_way, e2]; rfl
  refine ⟨w, hw, ?_⟩
  rw [f_X4_way, f_X5_way, e1, e2, obind, obind, ie' n10, ie' n10]
  rcases laZ zl with ⟨e3, e4⟩ | ⟨a, ha, rfl, e3, e4⟩
  · exact ⟨-2, 0, f1, f2, f3, f4, f5, f6, f7, q1, q2, q3, q4, q5, q6, q7, by rw [e3]; rfl, by rw [e4]; rfl⟩
  rw [e3, e4, obind, obind, ie' n10, ie' n10]
  rcases wiZ' (A := 0) (B := 24) (a := 0) (b := 24) rfl rfl (by omega) (by omega) zn with ⟨e, q⟩ | ⟨m, m1, m2, rfl, e, y1, y2, y3⟩
  · refine ⟨-2, 0, f1, f2, f3, f4, f5, f6, f7, q1, q2, q3, q4, q5, q6, q7, ?_, by rw [e]; rfl⟩
    rcases q with q | ⟨q1, q2, q3⟩
    · rw [it' q]
    · rw [ie' q1, it' q2]
  rw [e, obind, ie' n10, ie' y1, ie' y3]
  rcases wiZ' (A := 0) (B := 7) (a := 0) (b := 7) rfl rfl (by omega) (by omega) zv with ⟨e, q⟩ | ⟨vv, v1, v2, rfl, e, w1, w2, w3⟩
  · refine ⟨-2, 0, f1, f2, f3, f4, f5, f6, f7, q1, q2, q3, q4, q5, q6, q7, ?_, by rw [e]; rfl⟩
    rcases q with q | ⟨q1, q2, q3⟩
    · rw [it' q]
    · rw [ie' q1, ie' q3]
  rw [e, obind, ie' n10, ie' w1, it' w2, gx4 hw, gdi (kcl hw)]
  rcases agP hS hw ha zi (nI m) with ⟨t, u, v⟩ | ⟨t, n, hn, en, hc, ⟨u, v⟩ | ⟨u, ⟨g, -, v⟩ | ⟨g, ⟨g2, v⟩ | ⟨i, m', rfl, em, him, g2, v⟩⟩⟩⟩
  · exact ⟨-11, 1, f1, f2, f3, f4, f5, f6, f7, q1, q2, q3, q4, q5, q6, q7, by rw [u, obind, it' z00, it' t]; rfl, by rw [v]; rfl⟩
  · exact ⟨-12, 2, f1, f2, f3, f4, f5, f6, f7, q1, q2, q3, q4, q5, q6, q7, by rw [u]; rfl, by rw [v]; rfl⟩
  · exact absurd g (nI_pos (by omega))
  · exact ⟨-13, 3, f1, f2, f3, f4, f5, f6, f7, q1, q2, q3, q4, q5, q6, q7, by rw [u, obind, it' z00, ie' t, en, g2]; rfl, by rw [v]; rfl⟩
  obtain rfl : m = m' := (nI_eq (by omega) (by omega)).mp em
  rw [u, obind, it' z00, ie' t, en, g2, obind, ie' n10, v, obind, it' z00]
  have hT := txtOf hw hn him hc
  rcases noZ h.c10 with ⟨z1, z2, -⟩ | ⟨z1, z2, hc0⟩
  · exact ⟨-3, 0, f1, f2, f3, f4, f5, f6, f7, q1, q2, q3, q4, q5, q6, q7, by rw [z1]; rfl, by rw [it' z2]⟩
  rw [z1, obind, it' z00, ie' z2, f_X4_areActs, m60 w hw, nI_add]
  rcases actsX hT (some 0) (some 1) m 100 0 (by omega) (by omega) with ⟨a1, a2⟩ | ⟨a1, a2⟩
  · rw [show (0 : Int32) = nI 0 from rfl] at *
    rw [a1, obind, ie' (show ¬ (1 : Int32) = nI 0 from n10)]
    obtain ⟨r, x', ft', se', pu', hr, i1, i2⟩ := rideP hT h (fun j hj => a2 j (Nat.zero_le j) hj) m 100 0 (0, 0, 0, b) 0 0 0 ⟨Nat.zero_le _, Nat.zero_le _, Nat.zero_le _, h.1.2.2⟩ (by omega) (by omega)
    have eR : f_X4_ride f1 f2 f3 f4 f5 f6 f7 (nI c) (nI s) (nI k) (nI b) (nI n) kd tk gr (ce w) (nI i) (nI m) = some (r, nI x'.1, nI x'.2.1, ft', nI x'.2.2.1, nI x'.2.2.2, se', pu') := by
      rw [f_X4_ride, f_X0_begin, obind]
      exact i1
    have eG : ∀ a1 a2 a3 a4 a5 a6 a7, f_X5_goWay (nI c) (nI s) (nI k) (nI b) a1 a2 a3 a4 a5 a6 a7 vc vk vt vg (nI (60 * w + i)) (nI m) = some (r, nI x'.1, nI x'.2.1, nI x'.2.2.1, nI x'.2.2.2, se', ft', pu') := by
      intro a1 a2 a3 a4 a5 a6 a7
      rw [f_X5_goWay, f_X5_begin, obind]
      exact i2
    rw [eR, obind, (actsM hT _ _ m 100 0 _ _ _ _ _ _ _ _ (by omega) (by omega)).1 a2, eG, obind]
    by_cases v1 : nI vv = 1
    · rw [it' v1, it' v1]
      exact ⟨_, _, _, _, _, _, _, _, _, _, _, _, _, _, _, _, rfl, rfl⟩
    rw [ie' v1, ie' v1]
    by_cases r9 : r = -9
    · rw [it' r9, it' r9, tellsP]
      cases hv : f_X5_tellWay (nI x'.1) (nI x'.2.1) (nI x'.2.2.1) (nI x'.2.2.2) se' ft' pu' (nI vv) with
      | none =>
        exfalso
        rw [f_X5_tellWay] at hv
        repeat (first | (split at hv) | (cases hv))
      | some o => exact ⟨_, _, _, _, _, _, _, _, _, _, _, _, _, _, _, _, rfl, rfl⟩
    · rw [ie' r9, ie' r9]
      exact ⟨_, _, _, _, _, _, _, _, _, _, _, _, _, _, _, _, rfl, rfl⟩
  · refine ⟨-2, 0, f1, f2, f3, f4, f5, f6, f7, q1, q2, q3, q4, q5, q6, q7, ?_, ?_⟩
    · refine (congrArg (fun o => Option.bind o _) a1).trans rfl
    · exact (actsM hT _ _ m 100 0 _ _ _ _ _ _ _ _ (by omega) (by omega)).2 a2
end Wz
