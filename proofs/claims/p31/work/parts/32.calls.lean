/-! the class's plain calls, at what the law asks -/
theorem noL {c : Nat} (h0 : 2 ≤ c) (hc : c ≤ 10) : f_X3_isNone (nI c) = some 0 := by
  rw [f_X3_isNone, ie' (nI_ne0 (by omega) (by omega))]
theorem strongL {c s v : Nat} (h0 : 2 ≤ c) (hc : c ≤ 10) (h1 : 1 ≤ v) (h4 : v ≤ 4) : f_X4_strong (nI c) (nI s) (nI v) = some (nI s, nI v) := by
  rw [f_X4_strong, ie' (show ¬ nI v < (1 : Int32) from nI_nlt (b := 1) h1 (by omega)), it' (show nI v ≤ (4 : Int32) from nI_le (b := 4) h4 (by omega)), noL h0 hc, obind, it' z00]
theorem kneeL {c s v : Nat} (h0 : 2 ≤ c) (hc : c ≤ 10) (h1 : 1 ≤ v) (h4 : v ≤ 3) : f_X4_knee (nI c) (nI s) (nI v) = some (nI s, nI v) := by
  rw [f_X4_knee, ie' (show ¬ nI v < (1 : Int32) from nI_nlt (b := 1) h1 (by omega)), it' (show nI v ≤ (3 : Int32) from nI_le (b := 3) h4 (by omega)), noL h0 hc, obind, it' z00]
theorem soleL {c s v : Nat} (h0 : 2 ≤ c) (hc : c ≤ 10) (h4 : v ≤ 2) : f_X4_sole (nI c) (nI s) (nI v) = some (nI s, nI v) := by
  rw [f_X4_sole, ie' (nI_pos (by omega)), it' (show nI v ≤ (2 : Int32) from nI_le (b := 2) h4 (by omega)), noL h0 hc, obind, it' z00]
theorem hasL {c f : Nat} (hc : c ≤ 10) (hf : f < c) : f_X3_has (nI c) (nI f) = some 1 := by rw [hasN (by omega) (by omega), if_pos hf]
theorem gratL {c f : Nat} (hc : c ≤ 10) (hf : f < c) (gr : Nat → Int32) {v : Int32} (hv : v = 0 ∨ v = 1) : f_X4_grating (nI c) gr (nI f) v = if gr f = v then some (0, gr) else some (1, upd gr f v) := by
  rw [f_X4_grating, hasL hc hf, obind, ie' n10, gxF hf hc, gxF hf hc, nI_clamp (by omega), gdi hv]
section Ch
variable {c s k b : Nat} {kd tk gr gg : Nat → Int32}
theorem ofL0 (hc : c ≤ 10) {f : Nat} (hf : f < c) : f_X4_ofFlag (nI c) kd tk gr (nI f) 0 = some (kd f) := by
  rw [f_X4_ofFlag, hasL hc hf, obind, ie' n10, it' z00, gxF hf hc, nI_clamp (by omega)]
theorem ofL1 (hc : c ≤ 10) {f : Nat} (hf : f < c) : f_X4_ofFlag (nI c) kd tk gr (nI f) 1 = some (tk f) := by
  rw [f_X4_ofFlag, hasL hc hf, obind, ie' n10, ie' n10, it' rfl, gxF hf hc, nI_clamp (by omega)]
theorem ofL2 (ok : okF c kd tk gr) {f : Nat} (hf : f < c) : f_X4_ofFlag (nI c) kd tk gr (nI f) 2 = some (nI (dgN kd tk f)) := by
  rw [f_X4_ofFlag, hasL ok.1 hf, obind, ie' n10, ie' (by decide), ie' (by decide), it' rfl, dragX ok hf, obind]
theorem ofL3 (ok : okF c kd tk gr) {f : Nat} (hf : f < c) : f_X4_ofFlag (nI c) kd tk gr (nI f) 3 = some (gr f) := by
  rw [f_X4_ofFlag, hasL ok.1 hf, obind, ie' n10, ie' (by decide), ie' (by decide), ie' (by decide), it' rfl, gxF hf ok.1, nI_clamp (by have := ok.1; omega)]
  rcases (ok.2 f hf).2.2 with e | e
  · rw [it' e, e]
  · rw [ie' (by rw [e]; decide), e]
theorem ofLn (hc : c ≤ 10) (v : Int32) : f_X4_ofFlag (nI c) kd tk gr (nI c) v = some (-1) := by
  rw [f_X4_ofFlag, hasN (by omega) (by omega), if_neg (Nat.lt_irrefl c), obind, it' z00]
theorem ofLo (h0 : 2 ≤ c) (hc : c ≤ 10) {v : Int32} (h1 : ¬ v = 0) (h2 : ¬ v = 1) (h3 : ¬ v = 2) (h4 : ¬ v = 3) : f_X4_ofFlag (nI c) kd tk gr (0 : Int32) v = some (-2) := by
  have e : f_X3_has (nI c) (0 : Int32) = some 1 := hasL (f := 0) hc (by omega)
  rw [f_X4_ofFlag, e, obind, ie' n10, ie' h1, ie' h2, ie' h3, ie' h4]
/-- the end of a change -/
theorem chg129 {f : Nat} (hf : f < 32) (x3 x4 x5 : Int32) {v : Int32} (y st kn sb : Int32) (gr gg : Nat → Int32) (hv : v = 0 ∨ v = 1) : ∃ gg', f_L_change_129 x3 x4 x5 (nI f) v y y st kn sb gr gg = some (1, st, kn, sb, gr, gg') ∧ gg' 0 = gg 0 ∧ gg' 1 = x3 ∧ gg' 2 = x4 ∧ gg' 3 = x5 ∧ (∀ j, 4 ≤ j → j < 24 → gg' j = gg j) ∧ ∀ i, i < 32 → bt (gg' 24) i = if i = f then decide (v = 1) else bt (gg 24) i := by
  rw [f_L_change_129, it' rfl]
  simp only [g25_1, g25_2, g25_3, g25_24, cl_1, cl_2, cl_3, cl_24]
  have e24 : upd (upd (upd gg 1 x3) 2 x4) 3 x5 24 = gg 24 := by rw [pk_un (by decide), pk_un (by decide), pk_un (by decide)]
  rw [e24]
  have rest : ∀ w : Int32, (upd (upd (upd (upd gg 1 x3) 2 x4) 3 x5) 24 w) 0 = gg 0 ∧ (upd (upd (upd (upd gg 1 x3) 2 x4) 3 x5) 24 w) 1 = x3 ∧ (upd (upd (upd (upd gg 1 x3) 2 x4) 3 x5) 24 w) 2 = x4 ∧ (upd (upd (upd (upd gg 1 x3) 2 x4) 3 x5) 24 w) 3 = x5 ∧ (∀ j, 4 ≤ j → j < 24 → (upd (upd (upd (upd gg 1 x3) 2 x4) 3 x5) 24 w) j = gg j) := by
    intro w
    refine ⟨?_, ?_, ?_, ?_, fun j h1 h2 => ?_⟩
    · rw [pk_un (by decide), pk_un (by decide), pk_un (by decide), pk_un (by decide)]
    · rw [pk_un (by decide), pk_un (by decide), pk_un (by decide), pk_us]
    · rw [pk_un (by decide), pk_un (by decide), pk_us]
    · rw [pk_un (by decide), pk_us]
    · rw [pk_un (by omega), pk_un (by omega), pk_un (by omega), pk_un (by omega)]
  rcases hv with rfl | rfl
  · rw [it' z00]
    obtain ⟨a1, a2, a3, a4, a5⟩ := rest (gg 24 &&& (((1 : Int32) <<< (nI f &&& 31)) ^^^ (-1 : Int32)))
    refine ⟨_, rfl, a1, a2, a3, a4, a5, fun i hi => ?_⟩
    rw [pk_us, b_clr _ hf hi]
    rfl
  · rw [ie' n10]
    obtain ⟨a1, a2, a3, a4, a5⟩ := rest (gg 24 ||| ((1 : Int32) <<< (nI f &&& 31)))
    refine ⟨_, rfl, a1, a2, a3, a4, a5, fun i hi => ?_⟩
    rw [pk_us, b_set _ hf hi]
    rfl
theorem chg56 (h : GG c s k b kd tk gr gg) (r : RD c s k b kd tk gr) {s' k' b' f : Nat} (hs : 1 ≤ s' ∧ s' ≤ 4) (hk : 1 ≤ k' ∧ k' ≤ 3) (hb : b' ≤ 2) (hf : f < c) {v : Int32} (hv : v = 0 ∨ v = 1) : ∃ gr' gg', f_L_change_56 (nI c) (nI s') (nI k') (nI b') (nI f) v (nI s) (nI k) (nI b) gr gg = some (1, nI s', nI k', nI b', gr', gg') ∧ RD c s' k' b' kd tk gr' ∧ GG c s' k' b' kd tk gr' gg' := by
  obtain ⟨⟨r1, r2, r3, r4, r5, r6⟩, hc, ok⟩ := r
  obtain ⟨⟨g0, g1, g2, g3⟩, hg⟩ := h
  have egr := (hg f hf).2.2
  rw [f_L_change_56, strongL r1 hc hs.1 hs.2, obind, g25_1, cl_1, it' g1.symm, kneeL r1 hc hk.1 hk.2, obind, g25_2, cl_2, it' g2.symm, soleL r1 hc hb, obind, g25_3, cl_3, it' g3.symm, gratL hc hf gr hv]
  -- what comes of it, whichever way the bit was
  have key : ∀ (y : Int32) (gr' : Nat → Int32), (∀ i, gr' i = if i = f then v else gr i) → ∃ gr'' gg', f_L_change_129 (nI s') (nI k') (nI b') (nI f) v y y (nI s') (nI k') (nI b') gr' gg = some (1, nI s', nI k', nI b', gr'', gg') ∧ RD c s' k' b' kd tk gr'' ∧ GG c s' k' b' kd tk gr'' gg' := by
    intro y gr' hgr
    obtain ⟨gg', e, a0, a1, a2, a3, a4, a5⟩ := chg129 (f := f) (by omega) (nI s') (nI k') (nI b') y (nI s') (nI k') (nI b') gr' gg hv
    refine ⟨gr', gg', e, ⟨⟨r1, hs.1, hs.2, hk.1, hk.2, hb⟩, hc, fun i hi => ?_⟩, ⟨a0.trans g0, a1, a2, a3⟩, fun i hi => ?_⟩
    · obtain ⟨o1, o2, o3⟩ := ok i hi
      refine ⟨o1, o2, ?_⟩
      rw [hgr]
      by_cases z : i = f
      · rw [if_pos z]; exact hv
      · rw [if_neg z]; exact o3
    · obtain ⟨o1, o2, o3⟩ := hg i hi
      refine ⟨(a4 _ (by omega) (by omega)).trans o1, (a4 _ (by omega) (by omega)).trans o2, ?_⟩
      rw [hgr, a5 i (by omega)]
      by_cases z : i = f
      · rw [if_pos z, if_pos z]
        rcases hv with rfl | rfl <;> rfl
      · rw [if_neg z, if_neg z]; exact o3
  have gu : ∀ i, upd gr f v i = if i = f then v else gr i := fun i => rfl
  have gs : gr f = v → ∀ i, gr i = if i = f then v else gr i := fun e i => by
    by_cases z : i = f
    · rw [if_pos z, z, e]
    · rw [if_neg z]
  have f32 : f < 32 := by omega
  by_cases q : bt (gg 24) f = true
  · rw [if_pos q] at egr
    rcases hv with rfl | rfl
    · rw [ie' (show ¬ gr f = 0 by rw [egr]; decide), obind, g25_24, cl_24, bitv _ f32, if_pos q, it' (show (1 : Int32) = 1 from rfl), f_L_change_119, ie' n10]
      exact key 1 _ gu
    · rw [it' egr, obind, g25_24, cl_24, bitv _ f32, if_pos q, it' (show (1 : Int32) = 1 from rfl), f_L_change_119, it' rfl]
      exact key 0 _ (gs egr)
  · rw [if_neg q] at egr
    rcases hv with rfl | rfl
    · rw [it' egr, obind, g25_24, cl_24, bitv _ f32, if_neg q, ie' (show ¬ (0 : Int32) = 1 by decide), f_L_change_119, it' rfl]
      exact key 0 _ (gs egr)
    · rw [ie' (show ¬ gr f = 1 by rw [egr]; decide), obind, g25_24, cl_24, bitv _ f32, if_neg q, ie' (show ¬ (0 : Int32) = 1 by decide), f_L_change_119, ie' (show ¬ (0 : Int32) = 1 by decide)]
      exact key 1 _ gu
theorem changeL (h : GG c s k b kd tk gr gg) (r : RD c s k b kd tk gr) (zx : Int32) : ∃ s' k' b' gr' gg', f_L_change (nI c) (nI s) (nI k) (nI b) gr gg zx = some (1, nI s', nI k', nI b', gr', gg') ∧ RD c s' k' b' kd tk gr' ∧ GG c s' k' b' kd tk gr' gg' := by
  obtain ⟨⟨r1, r2, r3, r4, r5, r6⟩, hc, ok⟩ := id r
  obtain ⟨a1, q1, e1⟩ := someL zx (d := 4) (by omega) (by omega)
  obtain ⟨a2, q2, e2⟩ := someL (zx >>> ((2 : Int32) &&& 31)) (d := 3) (by omega) (by omega)
  obtain ⟨a3, q3, e3⟩ := someL (zx >>> ((4 : Int32) &&& 31)) (d := 3) (by omega) (by omega)
  obtain ⟨a4, q4, e4⟩ := someL (zx >>> ((6 : Int32) &&& 31)) (d := c) (by omega) (by omega)
  obtain ⟨a5, q5, e5⟩ := someL (zx >>> ((9 : Int32) &&& 31)) (d := 3) (by omega) (by omega)
  have e1' : f_L_some zx (4 : Int32) = some (nI a1) := e1
  have e2' : f_L_some (zx >>> ((2 : Int32) &&& 31)) (3 : Int32) = some (nI a2) := e2
  have e3' : f_L_some (zx >>> ((4 : Int32) &&& 31)) (3 : Int32) = some (nI a3) := e3
  have e5' : f_L_some (zx >>> ((9 : Int32) &&& 31)) (3 : Int32) = some (nI a5) := e5
  have s1 : (1 : Int32) + nI a1 = nI (1 + a1) := nI_add 1 a1
  have s2 : (1 : Int32) + nI a2 = nI (1 + a2) := nI_add 1 a2
  rw [f_L_change, e1', obind, e2', obind, e3', obind, g25_0, cl_0, h.1.1, e4, obind, e5', obind, s1, s2]
  have go : ∀ v : Int32, (v = 0 ∨ v = 1) → ∃ s' k' b' gr' gg', f_L_change_56 (nI c) (nI (1 + a1)) (nI (1 + a2)) (nI a3) (nI a4) v (nI s) (nI k) (nI b) gr gg = some (1, nI s', nI k', nI b', gr', gg') ∧ RD c s' k' b' kd tk gr' ∧ GG c s' k' b' kd tk gr' gg' := by
    intro v hv
    obtain ⟨gr', gg', e, x, y⟩ := chg56 (s' := 1 + a1) (k' := 1 + a2) (b' := a3) (f := a4) h r ⟨by omega, by omega⟩ ⟨by omega, by omega⟩ (by omega) q4 hv
    exact ⟨1 + a1, 1 + a2, a3, gr', gg', e, x, y⟩
  by_cases z : nI a5 = 0
  · rw [it' z]; exact go 1 (Or.inr rfl)
  · rw [ie' z]; exact go 0 (Or.inl rfl)
end Ch
