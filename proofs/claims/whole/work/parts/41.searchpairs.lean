/-! the calls that search, both sides -/
theorem z00 : (0 : Int32) = 0 := rfl
theorem k3 : ∀ x, x < 3 → nI x = 0 ∨ nI x = 1 ∨ nI x = 2 := by decide +kernel
abbrev ZX := Int32 × Int32 × Int32 × Int32 × Int32 × Int32 × Int32 × Int32 × Int32 × Int32 × (Nat → Int32) × (Nat → Int32) × (Nat → Int32) × (Nat → Int32)
abbrev ZM := Int32 × Int32 × Int32 × Int32 × Int32 × Int32 × Int32 × Int32 × Int32 × (Nat → Int32)
def ScX (z : ZX) : Prop := (∀ j, j < 3360 → z.2.2.2.2.2.2.2.2.2.2.2.2.1 j = 1000) ∧ ∀ o, o < 4 → z.2.2.2.2.2.2.2.2.2.2.2.2.2 o = 0
section Sp
variable {c s k b r : Nat} {kd tk gr kdu tku gru vk vt vg rg vq : Nat → Int32}
theorem lsX {U q : Nat} (ok : okF c kd tk gr) (hs : s ≤ 4) (hk : k ≤ 3) (hb : b ≤ 2) (hc0 : 0 < c) (hU : U ≤ 24) (hq : q ≤ 1) (z : ZX) (hz : ScX z) : ∃ (r : Int32) (z' : ZX), f_X2_least z.1 z.2.1 z.2.2.1 z.2.2.2.1 z.2.2.2.2.1 z.2.2.2.2.2.1 z.2.2.2.2.2.2.1 z.2.2.2.2.2.2.2.1 z.2.2.2.2.2.2.2.2.1 z.2.2.2.2.2.2.2.2.2.1 (nI c) (nI s) (nI k) (nI b) z.2.2.2.2.2.2.2.2.2.2.1 z.2.2.2.2.2.2.2.2.2.2.2.1 z.2.2.2.2.2.2.2.2.2.2.2.2.1 z.2.2.2.2.2.2.2.2.2.2.2.2.2 kd tk gr (nI U) (nI q) = some (r, z') ∧ isB (stN c s k kd tk gr) (0, 0, 0, b) c U (fun t w => if q = 0 then t else w) r ∧ ScX z' := by
  obtain ⟨r, cp', li', be', fl', pc', ft', ti', so', se', pu', fw', wt', wp', wc', e, h1, h2, h3⟩ := leastX ok hs hk hb hc0 hU hq (z.1) (z.2.1) (z.2.2.1) (z.2.2.2.1) (z.2.2.2.2.1) (z.2.2.2.2.2.1) (z.2.2.2.2.2.2.1) (z.2.2.2.2.2.2.2.1) (z.2.2.2.2.2.2.2.2.1) (z.2.2.2.2.2.2.2.2.2.1) (z.2.2.2.2.2.2.2.2.2.2.1) (z.2.2.2.2.2.2.2.2.2.2.2.1) (z.2.2.2.2.2.2.2.2.2.2.2.2.1) (z.2.2.2.2.2.2.2.2.2.2.2.2.2) hz.1 hz.2
  exact ⟨r, (cp', li', be', fl', pc', ft', ti', so', se', pu', fw', wt', wp', wc'), e, h1, h2, h3⟩
theorem lsM {U : Nat} (ok : okF c vk vt vg) (hs : s ≤ 4) (hk : k ≤ 3) (hb : b ≤ 2) (hc0 : 0 < c) (hU : U ≤ 24) (y : ZM) : ∃ (a1 a2 a3 a4 a5 a6 a7 ri rj : Int32) (vf' : Nat → Int32), f_X5_search (nI c) (nI s) (nI k) (nI b) y.1 y.2.1 y.2.2.1 y.2.2.2.1 y.2.2.2.2.1 y.2.2.2.2.2.1 y.2.2.2.2.2.2.1 y.2.2.2.2.2.2.2.1 y.2.2.2.2.2.2.2.2.1 vk vt vg y.2.2.2.2.2.2.2.2.2 (nI U) = some (a1, a2, a3, a4, a5, a6, a7, ri, rj, vf') ∧ isB (stN c s k vk vt vg) (0, 0, 0, b) c U (fun t _ => t) ri ∧ isB (stN c s k vk vt vg) (0, 0, 0, b) c U (fun _ w => w) rj :=
  searchM ok hs hk hb hc0 hU (y.1) (y.2.1) (y.2.2.1) (y.2.2.2.1) (y.2.2.2.2.1) (y.2.2.2.2.2.1) (y.2.2.2.2.2.2.1) (y.2.2.2.2.2.2.2.1) (y.2.2.2.2.2.2.2.2.1) (y.2.2.2.2.2.2.2.2.2)
theorem nowM (ok : okF c vk vt vg) (hs : s ≤ 4) (hk : k ≤ 3) (hb : b ≤ 2) (hc0 : 0 < c) (y : ZM) : ∃ (r : Int32) (y' : ZM), f_X5_quickestNow (nI c) (nI s) (nI k) (nI b) y.1 y.2.1 y.2.2.1 y.2.2.2.1 y.2.2.2.2.1 y.2.2.2.2.2.1 y.2.2.2.2.2.2.1 y.2.2.2.2.2.2.2.1 y.2.2.2.2.2.2.2.2.1 vk vt vg y.2.2.2.2.2.2.2.2.2 = some (r, y') ∧ isB (stN c s k vk vt vg) (0, 0, 0, b) c 24 (fun t _ => t) r := by
  obtain ⟨a1, a2, a3, a4, a5, a6, a7, ri, rj, vf', e, h1, -⟩ := lsM ok hs hk hb hc0 (U := 24) (by omega) y
  refine ⟨ri, (a1, a2, a3, a4, a5, a6, a7, ri, rj, vf'), ?_, h1⟩
  rw [f_X5_quickestNow]
  refine (congrArg (fun o => Option.bind o _) e).trans ?_
  rfl
/-- the quickest, both sides -/
theorem qkP (h : St c s k b kd tk gr vk vt vg) (hc0 : 0 < c) (z : ZX) (hz : ScX z) (y : ZM) : ∃ (r : Int32) (z' : ZX) (y' : ZM), f_X2_least z.1 z.2.1 z.2.2.1 z.2.2.2.1 z.2.2.2.2.1 z.2.2.2.2.2.1 z.2.2.2.2.2.2.1 z.2.2.2.2.2.2.2.1 z.2.2.2.2.2.2.2.2.1 z.2.2.2.2.2.2.2.2.2.1 (nI c) (nI s) (nI k) (nI b) z.2.2.2.2.2.2.2.2.2.2.1 z.2.2.2.2.2.2.2.2.2.2.2.1 z.2.2.2.2.2.2.2.2.2.2.2.2.1 z.2.2.2.2.2.2.2.2.2.2.2.2.2 kd tk gr 24 0 = some (r, z') ∧ f_X5_quickestNow (nI c) (nI s) (nI k) (nI b) y.1 y.2.1 y.2.2.1 y.2.2.2.1 y.2.2.2.2.1 y.2.2.2.2.2.1 y.2.2.2.2.2.2.1 y.2.2.2.2.2.2.2.1 y.2.2.2.2.2.2.2.2.1 vk vt vg y.2.2.2.2.2.2.2.2.2 = some (r, y') ∧ ScX z' ∧ isB (stN c s k kd tk gr) (0, 0, 0, b) c 24 (fun t _ => t) r := by
  obtain ⟨hs, hk, hb⟩ := h.1
  obtain ⟨r, z', e1, h1, h2⟩ := lsX (U := 24) (q := 0) h.2.1 hs hk hb hc0 (by omega) (by omega) z hz
  obtain ⟨r2, y', e2, h3⟩ := nowM h.okm hs hk hb hc0 y
  rw [h.cg] at h3
  obtain rfl : r = r2 := isB.one (v := fun t _ => t) h1 h3
  exact ⟨r, z', y', e1, e2, h2, h3⟩
theorem pr_quickest (h : St c s k b kd tk gr vk vt vg) (z : ZX) (hz : ScX z) (y : ZM) : ∃ (r : Int32) (z' : ZX) (y' : ZM), f_X4_quickest z.1 z.2.1 z.2.2.1 z.2.2.2.1 z.2.2.2.2.1 z.2.2.2.2.2.1 z.2.2.2.2.2.2.1 z.2.2.2.2.2.2.2.1 z.2.2.2.2.2.2.2.2.1 z.2.2.2.2.2.2.2.2.2.1 (nI c) (nI s) (nI k) (nI b) z.2.2.2.2.2.2.2.2.2.2.1 z.2.2.2.2.2.2.2.2.2.2.2.1 z.2.2.2.2.2.2.2.2.2.2.2.2.1 z.2.2.2.2.2.2.2.2.2.2.2.2.2 kd tk gr = some (r, z') ∧ f_X5_quickest (nI c) (nI s) (nI k) (nI b) y.1 y.2.1 y.2.2.1 y.2.2.2.1 y.2.2.2.2.1 y.2.2.2.2.2.1 y.2.2.2.2.2.2.1 y.2.2.2.2.2.2.2.1 y.2.2.2.2.2.2.2.2.1 vk vt vg y.2.2.2.2.2.2.2.2.2 = some (r, y') ∧ ScX z' := by
  rw [f_X4_quickest, f_X5_quickest]
  rcases noZ h.c10 with ⟨e1, e2, -⟩ | ⟨e1, e2, hc0⟩
  · exact ⟨-3, z, y, by rw [e1]; rfl, it' e2, hz⟩
  · obtain ⟨r, z', y', g1, g2, g3, -⟩ := qkP h hc0 z hz y
    refine ⟨r, z', y', ?_, ?_, g3⟩
    · rw [e1, obind, it' z00]
      exact (congrArg (fun o => Option.bind o _) g1).trans rfl
    · rw [ie' e2]
      exact (congrArg (fun o => Option.bind o _) g2).trans rfl
theorem pr_lightest (h : St c s k b kd tk gr vk vt vg) (z : ZX) (hz : ScX z) (y : ZM) (v : Int32) : ∃ (r : Int32) (z' : ZX) (y' : ZM), f_X4_lightest z.1 z.2.1 z.2.2.1 z.2.2.2.1 z.2.2.2.2.1 z.2.2.2.2.2.1 z.2.2.2.2.2.2.1 z.2.2.2.2.2.2.2.1 z.2.2.2.2.2.2.2.2.1 z.2.2.2.2.2.2.2.2.2.1 (nI c) (nI s) (nI k) (nI b) z.2.2.2.2.2.2.2.2.2.2.1 z.2.2.2.2.2.2.2.2.2.2.2.1 z.2.2.2.2.2.2.2.2.2.2.2.2.1 z.2.2.2.2.2.2.2.2.2.2.2.2.2 kd tk gr v = some (r, z') ∧ f_X5_lightest (nI c) (nI s) (nI k) (nI b) y.1 y.2.1 y.2.2.1 y.2.2.2.1 y.2.2.2.2.1 y.2.2.2.2.2.1 y.2.2.2.2.2.2.1 y.2.2.2.2.2.2.2.1 y.2.2.2.2.2.2.2.2.1 vk vt vg y.2.2.2.2.2.2.2.2.2 v = some (r, y') ∧ ScX z' := by
  rw [f_X4_lightest, f_X5_lightest]
  rcases wiZ' (A := 0) (B := 24) (a := 0) (b := 24) rfl rfl (by omega) (by omega) v with ⟨e, q⟩ | ⟨n, h1, h2, rfl, e, q1, q2, q3⟩
  · refine ⟨-2, z, y, ?_, by rw [e]; rfl, hz⟩
    rcases q with q | ⟨q1, q2, q3⟩
    · exact it' q
    · rw [ie' q1, ie' q3]
  · rcases noZ h.c10 with ⟨e1, e2, -⟩ | ⟨e1, e2, hc0⟩
    · exact ⟨-3, z, y, by rw [ie' q1, it' q2, e1]; rfl, by rw [e, obind, ie' n10, it' e2], hz⟩
    · obtain ⟨hs, hk, hb⟩ := h.1
      obtain ⟨r, z', g1, g2, g3⟩ := lsX (U := n) (q := 1) h.2.1 hs hk hb hc0 h2 (by omega) z hz
      obtain ⟨a1, a2, a3, a4, a5, a6, a7, ri, rj, vf', f1, -, f2⟩ := lsM (U := n) h.okm hs hk hb hc0 h2 y
      rw [h.cg] at f2
      obtain rfl : r = rj := isB.one (v := fun _ w => w) g2 f2
      refine ⟨r, z', (a1, a2, a3, a4, a5, a6, a7, ri, r, vf'), ?_, ?_, g3⟩
      · rw [ie' q1, it' q2, e1, obind, it' z00]
        exact (congrArg (fun o => Option.bind o _) g1).trans rfl
      · rw [e, obind, ie' n10, ie' e2]
        exact (congrArg (fun o => Option.bind o _) f1).trans rfl
/-- the readings looked through -/
theorem fitL (hr : r ≤ 8) (v : Int32) : ∀ (d n i : Nat) (z : ZX), i + d = r → d < n → ∃ o, f_X4_draftFitsReadings_L26 (nI r) rg (fun (cp : Int32) (li : Int32) (be : Int32) (fl : Int32) (pc : Int32) (ft : Int32) (ti : Int32) (so : Int32) (se : Int32) (pu : Int32) (fw : Nat → Int32) (wt : Nat → Int32) (wp : Nat → Int32) (wc : Nat → Int32) => some ((0 : Int32), cp, li, be, fl, pc, ft, ti, so, se, pu, fw, wt, wp, wc)) (fun (cp : Int32) (li : Int32) (be : Int32) (fl : Int32) (pc : Int32) (ft : Int32) (ti : Int32) (so : Int32) (se : Int32) (pu : Int32) (fw : Nat → Int32) (wt : Nat → Int32) (wp : Nat → Int32) (wc : Nat → Int32) => some ((1 : Int32), cp, li, be, fl, pc, ft, ti, so, se, pu, fw, wt, wp, wc)) n v (nI i) z.1 z.2.1 z.2.2.1 z.2.2.2.1 z.2.2.2.2.1 z.2.2.2.2.2.1 z.2.2.2.2.2.2.1 z.2.2.2.2.2.2.2.1 z.2.2.2.2.2.2.2.2.1 z.2.2.2.2.2.2.2.2.2.1 z.2.2.2.2.2.2.2.2.2.2.1 z.2.2.2.2.2.2.2.2.2.2.2.1 z.2.2.2.2.2.2.2.2.2.2.2.2.1 z.2.2.2.2.2.2.2.2.2.2.2.2.2 = some (o, z) ∧ (o = 0 ∨ o = 1) ∧ (o = 1 ↔ ∀ j, i ≤ j → j < r → rg j = v) := by
  intro d
  induction d with
  | zero =>
    intro n i z hi hn
    obtain ⟨n, rfl⟩ : ∃ t, n = t + 1 := ⟨n - 1, by omega⟩
    obtain rfl : i = r := by omega
    refine ⟨1, ?_, Or.inr rfl, fun _ j h1 h2 => absurd h2 (by omega), fun _ => rfl⟩
    rw [f_X4_draftFitsReadings_L26, it' (nI_le (Nat.le_refl i) (by omega))]
  | succ d ih =>
    intro n i z hi hn
    obtain ⟨n, rfl⟩ : ∃ t, n = t + 1 := ⟨n - 1, by omega⟩
    have ci : (nI i).toNatClampNeg = i := nI_clamp (by omega)
    rw [f_X4_draftFitsReadings_L26, ie' (nI_ge (a := i) (b := r) (by omega) (by omega)), gxN (by omega) (by omega), ci]
    by_cases q : rg i = v
    · rw [it' q, nI_1]
      obtain ⟨o, e, h1, h2⟩ := ih n (i + 1) z (by omega) (by omega)
      refine ⟨o, e, h1, h2.trans ⟨fun h j a1 a2 => ?_, fun h j a1 a2 => h j (by omega) a2⟩⟩
      rcases Nat.eq_or_lt_of_le a1 with t | t
      · rw [← t]; exact q
      · exact h j t a2
    · rw [ie' q]
      exact ⟨0, rfl, Or.inl rfl, fun h => absurd h (by decide), fun h => absurd (h i (Nat.le_refl i) (by omega)) q⟩
theorem fitM (hr : r ≤ 8) (v : Int32) : ∀ (d n i : Nat) (y : ZM), i + d = r → d < n → ∃ o, f_X5_areSo_L7 (nI r) vq (fun (qg : Int32) (qp : Int32) (qu : Int32) (ql : Int32) (qe : Int32) (qb : Int32) (qw : Int32) (qi : Int32) (qj : Int32) (vf : Nat → Int32) => some ((0 : Int32), qg, qp, qu, ql, qe, qb, qw, qi, qj, vf)) (fun (qg : Int32) (qp : Int32) (qu : Int32) (ql : Int32) (qe : Int32) (qb : Int32) (qw : Int32) (qi : Int32) (qj : Int32) (vf : Nat → Int32) => some ((1 : Int32), qg, qp, qu, ql, qe, qb, qw, qi, qj, vf)) n v (nI i) y.1 y.2.1 y.2.2.1 y.2.2.2.1 y.2.2.2.2.1 y.2.2.2.2.2.1 y.2.2.2.2.2.2.1 y.2.2.2.2.2.2.2.1 y.2.2.2.2.2.2.2.2.1 y.2.2.2.2.2.2.2.2.2 = some (o, y) ∧ (o = 0 ∨ o = 1) ∧ (o = 1 ↔ ∀ j, i ≤ j → j < r → vq j = v) := by
  intro d
  induction d with
  | zero =>
    intro n i z hi hn
    obtain ⟨n, rfl⟩ : ∃ t, n = t + 1 := ⟨n - 1, by omega⟩
    obtain rfl : i = r := by omega
    refine ⟨1, ?_, Or.inr rfl, fun _ j h1 h2 => absurd h2 (by omega), fun _ => rfl⟩
    rw [f_X5_areSo_L7, it' (nI_le (Nat.le_refl i) (by omega))]
  | succ d ih =>
    intro n i z hi hn
    obtain ⟨n, rfl⟩ : ∃ t, n = t + 1 := ⟨n - 1, by omega⟩
    have ci : (nI i).toNatClampNeg = i := nI_clamp (by omega)
    rw [f_X5_areSo_L7, ie' (nI_ge (a := i) (b := r) (by omega) (by omega)), gxN (by omega) (by omega), ci]
    by_cases q : vq i = v
    · rw [it' q, nI_1]
      obtain ⟨o, e, h1, h2⟩ := ih n (i + 1) z (by omega) (by omega)
      refine ⟨o, e, h1, h2.trans ⟨fun h j a1 a2 => ?_, fun h j a1 a2 => h j (by omega) a2⟩⟩
      rcases Nat.eq_or_lt_of_le a1 with t | t
      · rw [← t]; exact q
      · exact h j t a2
    · rw [ie' q]
      exact ⟨0, rfl, Or.inl rfl, fun h => absurd h (by decide), fun h => absurd (h i (Nat.le_refl i) (by omega)) q⟩
theorem fitP (h : St c s k b kdu tku gru vk vt vg) (hc0 : 0 < c) (hr : Rg r rg vq) (z : ZX) (hz : ScX z) (y : ZM) : ∃ (o : Int32) (z' : ZX) (y' : ZM), f_X4_draftFitsReadings (nI r) z.1 z.2.1 z.2.2.1 z.2.2.2.1 z.2.2.2.2.1 z.2.2.2.2.2.1 z.2.2.2.2.2.2.1 z.2.2.2.2.2.2.2.1 z.2.2.2.2.2.2.2.2.1 z.2.2.2.2.2.2.2.2.2.1 (nI c) (nI s) (nI k) (nI b) z.2.2.2.2.2.2.2.2.2.2.1 z.2.2.2.2.2.2.2.2.2.2.2.1 z.2.2.2.2.2.2.2.2.2.2.2.2.1 z.2.2.2.2.2.2.2.2.2.2.2.2.2 kdu tku gru rg = some (o, z') ∧ f_X5_areSo (nI c) (nI s) (nI k) (nI b) y.1 y.2.1 y.2.2.1 y.2.2.2.1 y.2.2.2.2.1 y.2.2.2.2.2.1 y.2.2.2.2.2.2.1 y.2.2.2.2.2.2.2.1 y.2.2.2.2.2.2.2.2.1 (nI r) vk vt vg y.2.2.2.2.2.2.2.2.2 vq = some (o, y') ∧ ScX z' ∧ (o = 0 ∨ o = 1) := by
  obtain ⟨v, z', y', e1, e2, h2, -⟩ := qkP h hc0 z hz y
  obtain ⟨o2, g2, g3, g4⟩ := fitM (vq := vq) hr.1 v r 100 0 y' (by omega) (by have := hr.1; omega)
  rw [f_X5_areSo]
  have em : f_X5_areSo (nI c) (nI s) (nI k) (nI b) y.1 y.2.1 y.2.2.1 y.2.2.2.1 y.2.2.2.2.1 y.2.2.2.2.2.1 y.2.2.2.2.2.2.1 y.2.2.2.2.2.2.2.1 y.2.2.2.2.2.2.2.2.1 (nI r) vk vt vg y.2.2.2.2.2.2.2.2.2 vq = some (o2, y') := by
    rw [f_X5_areSo]
    exact (congrArg (fun o => Option.bind o _) e2).trans g2
  rw [f_X5_areSo] at em
  rw [f_X4_draftFitsReadings]
  by_cases q : r = 0
  · subst q
    have : o2 = 1 := g4.mpr (fun j _ h => absurd h (Nat.not_lt_zero j))
    subst this
    exact ⟨1, z, y', if_pos nI_0, em, hz, Or.inr rfl⟩
  · obtain ⟨o1, f2, f3, f4⟩ := fitL (rg := rg) hr.1 v r 100 0 z' (by omega) (by have := hr.1; omega)
    have : o1 = o2 := by
      have hh : o1 = 1 ↔ o2 = 1 := f4.trans ⟨fun t j a1 a2 => (hr.2 j a2).symm.trans (t j a1 a2), fun t j a1 a2 => (hr.2 j a2).trans (t j a1 a2)⟩ |>.trans g4.symm
      rcases f3 with t | t
      · rcases g3 with t2 | t2
        · rw [t, t2]
        · exact absurd (hh.mpr t2) (by rw [t]; decide)
      · rw [t, hh.mp t]
    subst this
    refine ⟨o1, z', y', ?_, em, h2, f3⟩
    rw [ie' (show ¬ nI r = 0 from nI_ne0 (by omega) (by have := hr.1; omega))]
    exact (congrArg (fun o => Option.bind o _) e1).trans f2
/-! the draft becomes like the road -/
theorem cpy10 {f g : Nat → Int32} {i : Nat} (hi : i < 10) : va_cpy f g (0 : Int32).toNatClampNeg (0 : Int32).toNatClampNeg (10 : Int32).toNatClampNeg i = f i := by
  show va_cpy f g 0 0 10 i = f i
  unfold va_cpy
  rw [if_pos (by omega)]
  congr 1
  omega
theorem bLike (h : St c s k b kd tk gr vk vt vg) : ∃ kdu' tku' gru', (∀ cn st kn sb, f_X3_becomeLike cn st kn sb kdu tku gru kd tk gr = some (cn, st, kn, sb, kdu', tku', gru')) ∧ St c s k b kdu' tku' gru' vk vt vg := by
  refine ⟨va_cpy kd kdu (0 : Int32).toNatClampNeg (0 : Int32).toNatClampNeg (10 : Int32).toNatClampNeg, va_cpy tk tku (0 : Int32).toNatClampNeg (0 : Int32).toNatClampNeg (10 : Int32).toNatClampNeg, va_cpy gr gru (0 : Int32).toNatClampNeg (0 : Int32).toNatClampNeg (10 : Int32).toNatClampNeg, fun cn st kn sb => ?_, h.of (fun i hi => ⟨cpy10 ?_, cpy10 ?_, cpy10 ?_⟩) (fun i hi => ⟨rfl, rfl, rfl⟩) (fun i hi => by rw [cpy10 hi]; exact h.2.2.2.1 i hi) h.2.2.2.2⟩
  · rw [f_X3_becomeLike, gdi (by decide), gdi (by decide), gdi (by decide), gdi (zbi h.2.2.2.1)]
  all_goals (have := h.c10; omega)

theorem smoothL {f : Nat} (hf : f < c) (hr : Rg r rg vq) (x2 : Int32) : ∀ KX KM, ∀ (d n x : Nat) (S : Int32) (z : ZX) (y : ZM) (tku vt : Nat → Int32), x + d = 5 → d < n → ScX z → St c s k b kdu tku gru vk vt vg → ∃ (S' : Int32) (z' : ZX) (y' : ZM) (a' v' : Nat → Int32), f_X4_smooth_L28 (nI r) rg (nI f) KX n S (nI x) z.1 z.2.1 z.2.2.1 z.2.2.2.1 z.2.2.2.2.1 z.2.2.2.2.2.1 z.2.2.2.2.2.2.1 z.2.2.2.2.2.2.2.1 z.2.2.2.2.2.2.2.2.1 z.2.2.2.2.2.2.2.2.2.1 z.2.2.2.2.2.2.2.2.2.2.1 z.2.2.2.2.2.2.2.2.2.2.2.1 z.2.2.2.2.2.2.2.2.2.2.2.2.1 z.2.2.2.2.2.2.2.2.2.2.2.2.2 (nI c) (nI s) (nI k) (nI b) kdu tku gru = KX S' z'.1 z'.2.1 z'.2.2.1 z'.2.2.2.1 z'.2.2.2.2.1 z'.2.2.2.2.2.1 z'.2.2.2.2.2.2.1 z'.2.2.2.2.2.2.2.1 z'.2.2.2.2.2.2.2.2.1 z'.2.2.2.2.2.2.2.2.2.1 z'.2.2.2.2.2.2.2.2.2.2.1 z'.2.2.2.2.2.2.2.2.2.2.2.1 z'.2.2.2.2.2.2.2.2.2.2.2.2.1 z'.2.2.2.2.2.2.2.2.2.2.2.2.2 (nI c) (nI s) (nI k) (nI b) kdu a' gru ∧ f_X5_smooth_L22 (nI c) (nI s) (nI k) (nI b) (nI r) vk vg vq (nI f) KM n x2 S (nI x) y.1 y.2.1 y.2.2.1 y.2.2.2.1 y.2.2.2.2.1 y.2.2.2.2.2.1 y.2.2.2.2.2.2.1 y.2.2.2.2.2.2.2.1 y.2.2.2.2.2.2.2.2.1 vt y.2.2.2.2.2.2.2.2.2 = KM x2 S' y'.1 y'.2.1 y'.2.2.1 y'.2.2.2.1 y'.2.2.2.2.1 y'.2.2.2.2.2.1 y'.2.2.2.2.2.2.1 y'.2.2.2.2.2.2.2.1 y'.2.2.2.2.2.2.2.2.1 v' y'.2.2.2.2.2.2.2.2.2 ∧ ScX z' ∧ ∀ i, i ≠ f → v' i = vt i := by
  intro KX KM d
  induction d with
  | zero =>
    intro n x S z y tku vt hx hn hz h
    obtain ⟨n, rfl⟩ : ∃ t, n = t + 1 := ⟨n - 1, by omega⟩
    obtain rfl : x = 5 := by omega
    refine ⟨S, z, y, tku, vt, ?_, ?_, hz, fun i hi => rfl⟩
    · rw [f_X4_smooth_L28, it' (by decide)]
    · rw [f_X5_smooth_L22, it' (by decide)]
  | succ d ih =>
    intro n x S z y tku vt hx hn hz h
    obtain ⟨n, rfl⟩ : ∃ t, n = t + 1 := ⟨n - 1, by omega⟩
    have hc := h.c10
    have cl := fcl hf hc
    have h' := h.upT f (x := x) (by omega)
    obtain ⟨o, z1, y1, e1, e2, h1, ho⟩ := fitP h' (by omega) hr z hz y
    have hc1 : ¬ (4 : Int32) < nI x := nI_nlt (a := 4) (by omega) (by omega)
    rcases ho with rfl | rfl
    · obtain ⟨S', z', y', a', v', g1, g2, g3, g4⟩ := ih n (x + 1) S z1 y1 (upd tku f (nI x)) (upd vt f (nI x)) (by omega) (by omega) h1 h'
      refine ⟨S', z', y', a', v', ?_, ?_, g3, fun i hi => (g4 i hi).trans (pk_un hi)⟩
      · rw [f_X4_smooth_L28, ie' hc1, gxF hf hc, cl]
        refine (congrArg (fun o => Option.bind o _) e1).trans ?_
        rw [obind, it' z00, nI_1]
        exact g1
      · rw [f_X5_smooth_L22, ie' hc1, gxF hf hc, cl]
        refine (congrArg (fun o => Option.bind o _) e2).trans ?_
        rw [obind, it' z00, nI_1, Int32.or_zero]
        exact g2
    · obtain ⟨S', z', y', a', v', g1, g2, g3, g4⟩ := ih n (x + 1) (S ||| ((1 : Int32) <<< (nI x &&& 31))) z1 y1 (upd tku f (nI x)) (upd vt f (nI x)) (by omega) (by omega) h1 h'
      refine ⟨S', z', y', a', v', ?_, ?_, g3, fun i hi => (g4 i hi).trans (pk_un hi)⟩
      · rw [f_X4_smooth_L28, ie' hc1, gxF hf hc, cl]
        refine (congrArg (fun o => Option.bind o _) e1).trans ?_
        rw [obind, ie' n10, nI_1]
        exact g1
      · rw [f_X5_smooth_L22, ie' hc1, gxF hf hc, cl]
        refine (congrArg (fun o => Option.bind o _) e2).trans ?_
        rw [obind, ie' n10, nI_1]
        exact g2
theorem pr_smooth (h : St c s k b kd tk gr vk vt vg) (hr : Rg r rg vq) (z : ZX) (hz : ScX z) (y : ZM) (cnu stu knu sbu v : Int32) (hu : b01 gru) : ∃ (x : Int32) (z' : ZX) (y' : ZM) (cnu' stu' knu' sbu' : Int32) (kdu' tku' gru' vt' : Nat → Int32), f_X4_smooth (nI r) z.1 z.2.1 z.2.2.1 z.2.2.2.1 z.2.2.2.2.1 z.2.2.2.2.2.1 z.2.2.2.2.2.2.1 z.2.2.2.2.2.2.2.1 z.2.2.2.2.2.2.2.2.1 z.2.2.2.2.2.2.2.2.2.1 (nI c) (nI s) (nI k) (nI b) cnu stu knu sbu z.2.2.2.2.2.2.2.2.2.2.1 z.2.2.2.2.2.2.2.2.2.2.2.1 z.2.2.2.2.2.2.2.2.2.2.2.2.1 z.2.2.2.2.2.2.2.2.2.2.2.2.2 kd tk gr kdu tku gru rg v = some (x, z'.1, z'.2.1, z'.2.2.1, z'.2.2.2.1, z'.2.2.2.2.1, z'.2.2.2.2.2.1, z'.2.2.2.2.2.2.1, z'.2.2.2.2.2.2.2.1, z'.2.2.2.2.2.2.2.2.1, z'.2.2.2.2.2.2.2.2.2.1, z'.2.2.2.2.2.2.2.2.2.2.1, z'.2.2.2.2.2.2.2.2.2.2.2.1, z'.2.2.2.2.2.2.2.2.2.2.2.2.1, z'.2.2.2.2.2.2.2.2.2.2.2.2.2, cnu', stu', knu', sbu', kdu', tku', gru') ∧ f_X5_smooth (nI c) (nI s) (nI k) (nI b) y.1 y.2.1 y.2.2.1 y.2.2.2.1 y.2.2.2.2.1 y.2.2.2.2.2.1 y.2.2.2.2.2.2.1 y.2.2.2.2.2.2.2.1 y.2.2.2.2.2.2.2.2.1 (nI r) vk vt vg y.2.2.2.2.2.2.2.2.2 vq v = some (x, y'.1, y'.2.1, y'.2.2.1, y'.2.2.2.1, y'.2.2.2.2.1, y'.2.2.2.2.2.1, y'.2.2.2.2.2.2.1, y'.2.2.2.2.2.2.2.1, y'.2.2.2.2.2.2.2.2.1, vt', y'.2.2.2.2.2.2.2.2.2) ∧ ScX z' ∧ b01 gru' ∧ St c s k b kd tk gr vk vt' vg := by
  have hc := h.c10
  rw [f_X4_smooth, f_X5_smooth]
  rcases flZ hc v with ⟨e1, e2⟩ | ⟨f, hf, rfl, e1, e2⟩
  · rw [e1, e2]
    exact ⟨-1, z, y, cnu, stu, knu, sbu, kdu, tku, gru, vt, rfl, rfl, hz, hu, h⟩
  · obtain ⟨kdu', tku', gru', g1, g2⟩ := bLike (kdu := kdu) (tku := tku) (gru := gru) h
    obtain ⟨S', z', y', a', v', f1, f2, f3, f4⟩ := smoothL hf hr (vt f) (fun (x2 : Int32) (cp : Int32) (li : Int32) (be : Int32) (fl : Int32) (pc : Int32) (ft : Int32) (ti : Int32) (so : Int32) (se : Int32) (pu : Int32) (fw : Nat → Int32) (wt : Nat → Int32) (wp : Nat → Int32) (wc : Nat → Int32) (cnu : Int32) (stu : Int32) (knu : Int32) (sbu : Int32) (kdu : Nat → Int32) (tku : Nat → Int32) (gru : Nat → Int32) => some (x2, cp, li, be, fl, pc, ft, ti, so, se, pu, fw, wt, wp, wc, cnu, stu, knu, sbu, kdu, tku, gru)) (fun (x2 : Int32) (x3 : Int32) (qg : Int32) (qp : Int32) (qu : Int32) (ql : Int32) (qe : Int32) (qb : Int32) (qw : Int32) (qi : Int32) (qj : Int32) (vt : Nat → Int32) (vf : Nat → Int32) => gx (nI f) 10 (some (x3, qg, qp, qu, ql, qe, qb, qw, qi, qj, (upd vt f x2), vf))) 5 100 0 (0 : Int32) z y tku' vt (by omega) (by omega) hz g2
    refine ⟨S', z', y', nI c, nI s, nI k, nI b, kdu', a', gru', upd v' f (vt f), ?_, ?_, f3, g2.2.2.2.1, h.of (fun i hi => ⟨rfl, rfl, rfl⟩) (fun i hi => ?_) h.2.2.2.1 h.2.2.2.2⟩
    · rw [e1, obind, ie' n10, g1, obind]
      exact f1
    · rw [e2, obind, ie' n10, gxF hf hc, fcl hf hc]
      refine Eq.trans f2 ?_
      show gx (nI f) 10 (some (S', y'.1, y'.2.1, y'.2.2.1, y'.2.2.2.1, y'.2.2.2.2.1, y'.2.2.2.2.2.1, y'.2.2.2.2.2.2.1, y'.2.2.2.2.2.2.2.1, y'.2.2.2.2.2.2.2.2.1, upd v' f (vt f), y'.2.2.2.2.2.2.2.2.2)) = _
      rw [gxF hf hc]
    · have : upd v' f (vt f) i = vt i := by
        by_cases t : i = f
        · rw [t, pk_us]
        · rw [pk_un t]; exact f4 i t
      exact ⟨rfl, this, rfl⟩

theorem kindsL {f : Nat} (hf : f < c) (hr : Rg r rg vq) (x2 : Int32) : ∀ KX KM, ∀ (d n x : Nat) (S : Int32) (z : ZX) (y : ZM) (kdu vk : Nat → Int32), x + d = 3 → d < n → ScX z → St c s k b kdu tku gru vk vt vg → ∃ (S' : Int32) (z' : ZX) (y' : ZM) (a' v' : Nat → Int32), f_X4_kinds_L28 (nI r) rg (nI f) KX n S (nI x) z.1 z.2.1 z.2.2.1 z.2.2.2.1 z.2.2.2.2.1 z.2.2.2.2.2.1 z.2.2.2.2.2.2.1 z.2.2.2.2.2.2.2.1 z.2.2.2.2.2.2.2.2.1 z.2.2.2.2.2.2.2.2.2.1 z.2.2.2.2.2.2.2.2.2.2.1 z.2.2.2.2.2.2.2.2.2.2.2.1 z.2.2.2.2.2.2.2.2.2.2.2.2.1 z.2.2.2.2.2.2.2.2.2.2.2.2.2 (nI c) (nI s) (nI k) (nI b) kdu tku gru = KX S' z'.1 z'.2.1 z'.2.2.1 z'.2.2.2.1 z'.2.2.2.2.1 z'.2.2.2.2.2.1 z'.2.2.2.2.2.2.1 z'.2.2.2.2.2.2.2.1 z'.2.2.2.2.2.2.2.2.1 z'.2.2.2.2.2.2.2.2.2.1 z'.2.2.2.2.2.2.2.2.2.2.1 z'.2.2.2.2.2.2.2.2.2.2.2.1 z'.2.2.2.2.2.2.2.2.2.2.2.2.1 z'.2.2.2.2.2.2.2.2.2.2.2.2.2 (nI c) (nI s) (nI k) (nI b) a' tku gru ∧ f_X5_kinds_L22 (nI c) (nI s) (nI k) (nI b) (nI r) vt vg vq (nI f) KM n x2 S (nI x) y.1 y.2.1 y.2.2.1 y.2.2.2.1 y.2.2.2.2.1 y.2.2.2.2.2.1 y.2.2.2.2.2.2.1 y.2.2.2.2.2.2.2.1 y.2.2.2.2.2.2.2.2.1 vk y.2.2.2.2.2.2.2.2.2 = KM x2 S' y'.1 y'.2.1 y'.2.2.1 y'.2.2.2.1 y'.2.2.2.2.1 y'.2.2.2.2.2.1 y'.2.2.2.2.2.2.1 y'.2.2.2.2.2.2.2.1 y'.2.2.2.2.2.2.2.2.1 v' y'.2.2.2.2.2.2.2.2.2 ∧ ScX z' ∧ ∀ i, i ≠ f → v' i = vk i := by
  intro KX KM d
  induction d with
  | zero =>
    intro n x S z y kdu vk hx hn hz h
    obtain ⟨n, rfl⟩ : ∃ t, n = t + 1 := ⟨n - 1, by omega⟩
    obtain rfl : x = 3 := by omega
    refine ⟨S, z, y, kdu, vk, ?_, ?_, hz, fun i hi => rfl⟩
    · rw [f_X4_kinds_L28, it' (by decide)]
    · rw [f_X5_kinds_L22, it' (by decide)]
  | succ d ih =>
    intro n x S z y kdu vk hx hn hz h
    obtain ⟨n, rfl⟩ : ∃ t, n = t + 1 := ⟨n - 1, by omega⟩
    have hc := h.c10
    have cl := fcl hf hc
    have h' := h.upK f (x := nI x) (k3 x (by omega))
    obtain ⟨o, z1, y1, e1, e2, h1, ho⟩ := fitP h' (by omega) hr z hz y
    have hc1 : ¬ (3 : Int32) ≤ nI x := nI_ge (b := 3) (by omega) (by omega)
    rcases ho with rfl | rfl
    · obtain ⟨S', z', y', a', v', g1, g2, g3, g4⟩ := ih n (x + 1) S z1 y1 (upd kdu f (nI x)) (upd vk f (nI x)) (by omega) (by omega) h1 h'
      refine ⟨S', z', y', a', v', ?_, ?_, g3, fun i hi => (g4 i hi).trans (pk_un hi)⟩
      · rw [f_X4_kinds_L28, ie' hc1, gxF hf hc, cl]
        refine (congrArg (fun o => Option.bind o _) e1).trans ?_
        rw [obind, it' z00, nI_1]
        exact g1
      · rw [f_X5_kinds_L22, ie' hc1, gxF hf hc, cl]
        refine (congrArg (fun o => Option.bind o _) e2).trans ?_
        rw [obind, it' z00, nI_1, Int32.or_zero]
        exact g2
    · obtain ⟨S', z', y', a', v', g1, g2, g3, g4⟩ := ih n (x + 1) (S ||| ((1 : Int32) <<< (nI x &&& 31))) z1 y1 (upd kdu f (nI x)) (upd vk f (nI x)) (by omega) (by omega) h1 h'
      refine ⟨S', z', y', a', v', ?_, ?_, g3, fun i hi => (g4 i hi).trans (pk_un hi)⟩
      · rw [f_X4_kinds_L28, ie' hc1, gxF hf hc, cl]
        refine (congrArg (fun o => Option.bind o _) e1).trans ?_
        rw [obind, ie' n10, nI_1]
        exact g1
      · rw [f_X5_kinds_L22, ie' hc1, gxF hf hc, cl]
        refine (congrArg (fun o => Option.bind o _) e2).trans ?_
        rw [obind, ie' n10, nI_1]
        exact g2
theorem pr_kinds (h : St c s k b kd tk gr vk vt vg) (hr : Rg r rg vq) (z : ZX) (hz : ScX z) (y : ZM) (cnu stu knu sbu v : Int32) (hu : b01 gru) : ∃ (x : Int32) (z' : ZX) (y' : ZM) (cnu' stu' knu' sbu' : Int32) (kdu' tku' gru' vk' : Nat → Int32), f_X4_kinds (nI r) z.1 z.2.1 z.2.2.1 z.2.2.2.1 z.2.2.2.2.1 z.2.2.2.2.2.1 z.2.2.2.2.2.2.1 z.2.2.2.2.2.2.2.1 z.2.2.2.2.2.2.2.2.1 z.2.2.2.2.2.2.2.2.2.1 (nI c) (nI s) (nI k) (nI b) cnu stu knu sbu z.2.2.2.2.2.2.2.2.2.2.1 z.2.2.2.2.2.2.2.2.2.2.2.1 z.2.2.2.2.2.2.2.2.2.2.2.2.1 z.2.2.2.2.2.2.2.2.2.2.2.2.2 kd tk gr kdu tku gru rg v = some (x, z'.1, z'.2.1, z'.2.2.1, z'.2.2.2.1, z'.2.2.2.2.1, z'.2.2.2.2.2.1, z'.2.2.2.2.2.2.1, z'.2.2.2.2.2.2.2.1, z'.2.2.2.2.2.2.2.2.1, z'.2.2.2.2.2.2.2.2.2.1, z'.2.2.2.2.2.2.2.2.2.2.1, z'.2.2.2.2.2.2.2.2.2.2.2.1, z'.2.2.2.2.2.2.2.2.2.2.2.2.1, z'.2.2.2.2.2.2.2.2.2.2.2.2.2, cnu', stu', knu', sbu', kdu', tku', gru') ∧ f_X5_kinds (nI c) (nI s) (nI k) (nI b) y.1 y.2.1 y.2.2.1 y.2.2.2.1 y.2.2.2.2.1 y.2.2.2.2.2.1 y.2.2.2.2.2.2.1 y.2.2.2.2.2.2.2.1 y.2.2.2.2.2.2.2.2.1 (nI r) vk vt vg y.2.2.2.2.2.2.2.2.2 vq v = some (x, y'.1, y'.2.1, y'.2.2.1, y'.2.2.2.1, y'.2.2.2.2.1, y'.2.2.2.2.2.1, y'.2.2.2.2.2.2.1, y'.2.2.2.2.2.2.2.1, y'.2.2.2.2.2.2.2.2.1, vk', y'.2.2.2.2.2.2.2.2.2) ∧ ScX z' ∧ b01 gru' ∧ St c s k b kd tk gr vk' vt vg := by
  have hc := h.c10
  rw [f_X4_kinds, f_X5_kinds]
  rcases flZ hc v with ⟨e1, e2⟩ | ⟨f, hf, rfl, e1, e2⟩
  · rw [e1, e2]
    exact ⟨-1, z, y, cnu, stu, knu, sbu, kdu, tku, gru, vk, rfl, rfl, hz, hu, h⟩
  · obtain ⟨kdu', tku', gru', g1, g2⟩ := bLike (kdu := kdu) (tku := tku) (gru := gru) h
    obtain ⟨S', z', y', a', v', f1, f2, f3, f4⟩ := kindsL hf hr (vk f) (fun (x2 : Int32) (cp : Int32) (li : Int32) (be : Int32) (fl : Int32) (pc : Int32) (ft : Int32) (ti : Int32) (so : Int32) (se : Int32) (pu : Int32) (fw : Nat → Int32) (wt : Nat → Int32) (wp : Nat → Int32) (wc : Nat → Int32) (cnu : Int32) (stu : Int32) (knu : Int32) (sbu : Int32) (kdu : Nat → Int32) (tku : Nat → Int32) (gru : Nat → Int32) => some (x2, cp, li, be, fl, pc, ft, ti, so, se, pu, fw, wt, wp, wc, cnu, stu, knu, sbu, kdu, tku, gru)) (fun (x2 : Int32) (x3 : Int32) (qg : Int32) (qp : Int32) (qu : Int32) (ql : Int32) (qe : Int32) (qb : Int32) (qw : Int32) (qi : Int32) (qj : Int32) (vk : Nat → Int32) (vf : Nat → Int32) => gx (nI f) 10 (some (x3, qg, qp, qu, ql, qe, qb, qw, qi, qj, (upd vk f x2), vf))) 3 100 0 (0 : Int32) z y kdu' vk (by omega) (by omega) hz g2
    refine ⟨S', z', y', nI c, nI s, nI k, nI b, a', tku', gru', upd v' f (vk f), ?_, ?_, f3, g2.2.2.2.1, h.of (fun i hi => ⟨rfl, rfl, rfl⟩) (fun i hi => ?_) h.2.2.2.1 h.2.2.2.2⟩
    · rw [e1, obind, ie' n10, g1, obind]
      exact f1
    · rw [e2, obind, ie' n10, gxF hf hc, fcl hf hc]
      refine Eq.trans f2 ?_
      show gx (nI f) 10 (some (S', y'.1, y'.2.1, y'.2.2.1, y'.2.2.2.1, y'.2.2.2.2.1, y'.2.2.2.2.2.1, y'.2.2.2.2.2.2.1, y'.2.2.2.2.2.2.2.1, y'.2.2.2.2.2.2.2.2.1, upd v' f (vk f), y'.2.2.2.2.2.2.2.2.2)) = _
      rw [gxF hf hc]
    · have : upd v' f (vk f) i = vk i := by
        by_cases t : i = f
        · rw [t, pk_us]
        · rw [pk_un t]; exact f4 i t
      exact ⟨this, rfl, rfl⟩

theorem strengthsL (hc0 : 0 < c) (hr : Rg r rg vq) (x1 : Int32) : ∀ KX KM, ∀ (d n x t : Nat) (S : Int32) (z : ZX) (y : ZM), 0 < x → x + d = 5 → d < n → ScX z → St c t k b kdu tku gru vk vt vg → ∃ (S' : Int32) (z' : ZX) (y' : ZM) (t' : Nat), f_X4_strengths_L28 (nI r) rg KX n S (nI x) z.1 z.2.1 z.2.2.1 z.2.2.2.1 z.2.2.2.2.1 z.2.2.2.2.2.1 z.2.2.2.2.2.2.1 z.2.2.2.2.2.2.2.1 z.2.2.2.2.2.2.2.2.1 z.2.2.2.2.2.2.2.2.2.1 z.2.2.2.2.2.2.2.2.2.2.1 z.2.2.2.2.2.2.2.2.2.2.2.1 z.2.2.2.2.2.2.2.2.2.2.2.2.1 z.2.2.2.2.2.2.2.2.2.2.2.2.2 (nI c) (nI t) (nI k) (nI b) kdu tku gru = KX S' z'.1 z'.2.1 z'.2.2.1 z'.2.2.2.1 z'.2.2.2.2.1 z'.2.2.2.2.2.1 z'.2.2.2.2.2.2.1 z'.2.2.2.2.2.2.2.1 z'.2.2.2.2.2.2.2.2.1 z'.2.2.2.2.2.2.2.2.2.1 z'.2.2.2.2.2.2.2.2.2.2.1 z'.2.2.2.2.2.2.2.2.2.2.2.1 z'.2.2.2.2.2.2.2.2.2.2.2.2.1 z'.2.2.2.2.2.2.2.2.2.2.2.2.2 (nI c) (nI t') (nI k) (nI b) kdu tku gru ∧ f_X5_strengths_L19 (nI c) (nI k) (nI b) (nI r) vk vt vg vq KM n x1 S (nI x) (nI t) y.1 y.2.1 y.2.2.1 y.2.2.2.1 y.2.2.2.2.1 y.2.2.2.2.2.1 y.2.2.2.2.2.2.1 y.2.2.2.2.2.2.2.1 y.2.2.2.2.2.2.2.2.1 y.2.2.2.2.2.2.2.2.2 = KM x1 S' (nI t') y'.1 y'.2.1 y'.2.2.1 y'.2.2.2.1 y'.2.2.2.2.1 y'.2.2.2.2.2.1 y'.2.2.2.2.2.2.1 y'.2.2.2.2.2.2.2.1 y'.2.2.2.2.2.2.2.2.1 y'.2.2.2.2.2.2.2.2.2 ∧ ScX z' := by
  intro KX KM d
  induction d with
  | zero =>
    intro n x t S z y hx0 hx hn hz h
    obtain ⟨n, rfl⟩ : ∃ t, n = t + 1 := ⟨n - 1, by omega⟩
    obtain rfl : x = 5 := by omega
    refine ⟨S, z, y, t, ?_, ?_, hz⟩
    · rw [f_X4_strengths_L28, it' (by decide)]
    · rw [f_X5_strengths_L19, it' (by decide)]
  | succ d ih =>
    intro n x t S z y hx0 hx hn hz h
    obtain ⟨n, rfl⟩ : ∃ t, n = t + 1 := ⟨n - 1, by omega⟩
    have hc := h.c10
    have h' : St c x k b kdu tku gru vk vt vg := ⟨⟨by omega, h.1.2.1, h.1.2.2⟩, h.2⟩
    obtain ⟨o, z1, y1, e1, e2, h1, ho⟩ := fitP h' hc0 hr z hz y
    have hc1 : ¬ (4 : Int32) < nI x := nI_nlt (a := 4) (by omega) (by omega)
    rcases ho with rfl | rfl
    · obtain ⟨S', z', y', t', g1, g2, g3⟩ := ih n (x + 1) x S z1 y1 (by omega) (by omega) (by omega) h1 h'
      refine ⟨S', z', y', t', ?_, ?_, g3⟩
      · rw [f_X4_strengths_L28, ie' hc1]
        refine (congrArg (fun o => Option.bind o _) e1).trans ?_
        rw [obind, it' z00, nI_1]
        exact g1
      · rw [f_X5_strengths_L19, ie' hc1]
        refine (congrArg (fun o => Option.bind o _) e2).trans ?_
        rw [obind, it' z00, nI_1, Int32.or_zero]
        exact g2
    · obtain ⟨S', z', y', t', g1, g2, g3⟩ := ih n (x + 1) x (S ||| ((1 : Int32) <<< (nI x &&& 31))) z1 y1 (by omega) (by omega) (by omega) h1 h'
      refine ⟨S', z', y', t', ?_, ?_, g3⟩
      · rw [f_X4_strengths_L28, ie' hc1]
        refine (congrArg (fun o => Option.bind o _) e1).trans ?_
        rw [obind, ie' n10, nI_1]
        exact g1
      · rw [f_X5_strengths_L19, ie' hc1]
        refine (congrArg (fun o => Option.bind o _) e2).trans ?_
        rw [obind, ie' n10, nI_1]
        exact g2
theorem pr_strengths (h : St c s k b kd tk gr vk vt vg) (hr : Rg r rg vq) (z : ZX) (hz : ScX z) (y : ZM) (cnu stu knu sbu : Int32) (hu : b01 gru) : ∃ (x : Int32) (z' : ZX) (y' : ZM) (cnu' stu' knu' sbu' : Int32) (kdu' tku' gru' : Nat → Int32), f_X4_strengths (nI r) z.1 z.2.1 z.2.2.1 z.2.2.2.1 z.2.2.2.2.1 z.2.2.2.2.2.1 z.2.2.2.2.2.2.1 z.2.2.2.2.2.2.2.1 z.2.2.2.2.2.2.2.2.1 z.2.2.2.2.2.2.2.2.2.1 (nI c) (nI s) (nI k) (nI b) cnu stu knu sbu z.2.2.2.2.2.2.2.2.2.2.1 z.2.2.2.2.2.2.2.2.2.2.2.1 z.2.2.2.2.2.2.2.2.2.2.2.2.1 z.2.2.2.2.2.2.2.2.2.2.2.2.2 kd tk gr kdu tku gru rg = some (x, z'.1, z'.2.1, z'.2.2.1, z'.2.2.2.1, z'.2.2.2.2.1, z'.2.2.2.2.2.1, z'.2.2.2.2.2.2.1, z'.2.2.2.2.2.2.2.1, z'.2.2.2.2.2.2.2.2.1, z'.2.2.2.2.2.2.2.2.2.1, z'.2.2.2.2.2.2.2.2.2.2.1, z'.2.2.2.2.2.2.2.2.2.2.2.1, z'.2.2.2.2.2.2.2.2.2.2.2.2.1, z'.2.2.2.2.2.2.2.2.2.2.2.2.2, cnu', stu', knu', sbu', kdu', tku', gru') ∧ f_X5_strengths (nI c) (nI s) (nI k) (nI b) y.1 y.2.1 y.2.2.1 y.2.2.2.1 y.2.2.2.2.1 y.2.2.2.2.2.1 y.2.2.2.2.2.2.1 y.2.2.2.2.2.2.2.1 y.2.2.2.2.2.2.2.2.1 (nI r) vk vt vg y.2.2.2.2.2.2.2.2.2 vq = some (x, nI s, y'.1, y'.2.1, y'.2.2.1, y'.2.2.2.1, y'.2.2.2.2.1, y'.2.2.2.2.2.1, y'.2.2.2.2.2.2.1, y'.2.2.2.2.2.2.2.1, y'.2.2.2.2.2.2.2.2.1, y'.2.2.2.2.2.2.2.2.2) ∧ ScX z' ∧ b01 gru' := by
  have hc := h.c10
  rw [f_X4_strengths, f_X5_strengths]
  rcases noZ hc with ⟨e1, e2, -⟩ | ⟨e1, e2, hc0⟩
  · exact ⟨-3, z, y, cnu, stu, knu, sbu, kdu, tku, gru, by rw [e1]; rfl, it' e2, hz, hu⟩
  · obtain ⟨kdu', tku', gru', g1, g2⟩ := bLike (kdu := kdu) (tku := tku) (gru := gru) h
    obtain ⟨S', z', y', t', f1, f2, f3⟩ := strengthsL hc0 hr (nI s) (fun (x1 : Int32) (cp : Int32) (li : Int32) (be : Int32) (fl : Int32) (pc : Int32) (ft : Int32) (ti : Int32) (so : Int32) (se : Int32) (pu : Int32) (fw : Nat → Int32) (wt : Nat → Int32) (wp : Nat → Int32) (wc : Nat → Int32) (cnu : Int32) (stu : Int32) (knu : Int32) (sbu : Int32) (kdu : Nat → Int32) (tku : Nat → Int32) (gru : Nat → Int32) => some (x1, cp, li, be, fl, pc, ft, ti, so, se, pu, fw, wt, wp, wc, cnu, stu, knu, sbu, kdu, tku, gru)) (fun (x1 : Int32) (x2 : Int32) (qs : Int32) (qg : Int32) (qp : Int32) (qu : Int32) (ql : Int32) (qe : Int32) (qb : Int32) (qw : Int32) (qi : Int32) (qj : Int32) (vf : Nat → Int32) => some (x2, x1, qg, qp, qu, ql, qe, qb, qw, qi, qj, vf)) 4 100 1 s (0 : Int32) z y (by omega) (by omega) (by omega) hz g2
    refine ⟨S', z', y', nI c, nI t', nI k, nI b, kdu', tku', gru', ?_, ?_, f3, g2.2.2.2.1⟩
    · rw [e1, obind, it' z00, g1, obind]
      exact f1
    · rw [ie' e2]
      exact f2

theorem kneesL (hc0 : 0 < c) (hr : Rg r rg vq) (x1 : Int32) : ∀ KX KM, ∀ (d n x t : Nat) (S : Int32) (z : ZX) (y : ZM), 0 < x → x + d = 4 → d < n → ScX z → St c s t b kdu tku gru vk vt vg → ∃ (S' : Int32) (z' : ZX) (y' : ZM) (t' : Nat), f_X4_knees_L28 (nI r) rg KX n S (nI x) z.1 z.2.1 z.2.2.1 z.2.2.2.1 z.2.2.2.2.1 z.2.2.2.2.2.1 z.2.2.2.2.2.2.1 z.2.2.2.2.2.2.2.1 z.2.2.2.2.2.2.2.2.1 z.2.2.2.2.2.2.2.2.2.1 z.2.2.2.2.2.2.2.2.2.2.1 z.2.2.2.2.2.2.2.2.2.2.2.1 z.2.2.2.2.2.2.2.2.2.2.2.2.1 z.2.2.2.2.2.2.2.2.2.2.2.2.2 (nI c) (nI s) (nI t) (nI b) kdu tku gru = KX S' z'.1 z'.2.1 z'.2.2.1 z'.2.2.2.1 z'.2.2.2.2.1 z'.2.2.2.2.2.1 z'.2.2.2.2.2.2.1 z'.2.2.2.2.2.2.2.1 z'.2.2.2.2.2.2.2.2.1 z'.2.2.2.2.2.2.2.2.2.1 z'.2.2.2.2.2.2.2.2.2.2.1 z'.2.2.2.2.2.2.2.2.2.2.2.1 z'.2.2.2.2.2.2.2.2.2.2.2.2.1 z'.2.2.2.2.2.2.2.2.2.2.2.2.2 (nI c) (nI s) (nI t') (nI b) kdu tku gru ∧ f_X5_knees_L19 (nI c) (nI s) (nI b) (nI r) vk vt vg vq KM n x1 S (nI x) (nI t) y.1 y.2.1 y.2.2.1 y.2.2.2.1 y.2.2.2.2.1 y.2.2.2.2.2.1 y.2.2.2.2.2.2.1 y.2.2.2.2.2.2.2.1 y.2.2.2.2.2.2.2.2.1 y.2.2.2.2.2.2.2.2.2 = KM x1 S' (nI t') y'.1 y'.2.1 y'.2.2.1 y'.2.2.2.1 y'.2.2.2.2.1 y'.2.2.2.2.2.1 y'.2.2.2.2.2.2.1 y'.2.2.2.2.2.2.2.1 y'.2.2.2.2.2.2.2.2.1 y'.2.2.2.2.2.2.2.2.2 ∧ ScX z' := by
  intro KX KM d
  induction d with
  | zero =>
    intro n x t S z y hx0 hx hn hz h
    obtain ⟨n, rfl⟩ : ∃ t, n = t + 1 := ⟨n - 1, by omega⟩
    obtain rfl : x = 4 := by omega
    refine ⟨S, z, y, t, ?_, ?_, hz⟩
    · rw [f_X4_knees_L28, it' (by decide)]
    · rw [f_X5_knees_L19, it' (by decide)]
  | succ d ih =>
    intro n x t S z y hx0 hx hn hz h
    obtain ⟨n, rfl⟩ : ∃ t, n = t + 1 := ⟨n - 1, by omega⟩
    have hc := h.c10
    have h' : St c s x b kdu tku gru vk vt vg := ⟨⟨h.1.1, by omega, h.1.2.2⟩, h.2⟩
    obtain ⟨o, z1, y1, e1, e2, h1, ho⟩ := fitP h' hc0 hr z hz y
    have hc1 : ¬ (3 : Int32) < nI x := nI_nlt (a := 3) (by omega) (by omega)
    rcases ho with rfl | rfl
    · obtain ⟨S', z', y', t', g1, g2, g3⟩ := ih n (x + 1) x S z1 y1 (by omega) (by omega) (by omega) h1 h'
      refine ⟨S', z', y', t', ?_, ?_, g3⟩
      · rw [f_X4_knees_L28, ie' hc1]
        refine (congrArg (fun o => Option.bind o _) e1).trans ?_
        rw [obind, it' z00, nI_1]
        exact g1
      · rw [f_X5_knees_L19, ie' hc1]
        refine (congrArg (fun o => Option.bind o _) e2).trans ?_
        rw [obind, it' z00, nI_1, Int32.or_zero]
        exact g2
    · obtain ⟨S', z', y', t', g1, g2, g3⟩ := ih n (x + 1) x (S ||| ((1 : Int32) <<< (nI x &&& 31))) z1 y1 (by omega) (by omega) (by omega) h1 h'
      refine ⟨S', z', y', t', ?_, ?_, g3⟩
      · rw [f_X4_knees_L28, ie' hc1]
        refine (congrArg (fun o => Option.bind o _) e1).trans ?_
        rw [obind, ie' n10, nI_1]
        exact g1
      · rw [f_X5_knees_L19, ie' hc1]
        refine (congrArg (fun o => Option.bind o _) e2).trans ?_
        rw [obind, ie' n10, nI_1]
        exact g2
theorem pr_knees (h : St c s k b kd tk gr vk vt vg) (hr : Rg r rg vq) (z : ZX) (hz : ScX z) (y : ZM) (cnu stu knu sbu : Int32) (hu : b01 gru) : ∃ (x : Int32) (z' : ZX) (y' : ZM) (cnu' stu' knu' sbu' : Int32) (kdu' tku' gru' : Nat → Int32), f_X4_knees (nI r) z.1 z.2.1 z.2.2.1 z.2.2.2.1 z.2.2.2.2.1 z.2.2.2.2.2.1 z.2.2.2.2.2.2.1 z.2.2.2.2.2.2.2.1 z.2.2.2.2.2.2.2.2.1 z.2.2.2.2.2.2.2.2.2.1 (nI c) (nI s) (nI k) (nI b) cnu stu knu sbu z.2.2.2.2.2.2.2.2.2.2.1 z.2.2.2.2.2.2.2.2.2.2.2.1 z.2.2.2.2.2.2.2.2.2.2.2.2.1 z.2.2.2.2.2.2.2.2.2.2.2.2.2 kd tk gr kdu tku gru rg = some (x, z'.1, z'.2.1, z'.2.2.1, z'.2.2.2.1, z'.2.2.2.2.1, z'.2.2.2.2.2.1, z'.2.2.2.2.2.2.1, z'.2.2.2.2.2.2.2.1, z'.2.2.2.2.2.2.2.2.1, z'.2.2.2.2.2.2.2.2.2.1, z'.2.2.2.2.2.2.2.2.2.2.1, z'.2.2.2.2.2.2.2.2.2.2.2.1, z'.2.2.2.2.2.2.2.2.2.2.2.2.1, z'.2.2.2.2.2.2.2.2.2.2.2.2.2, cnu', stu', knu', sbu', kdu', tku', gru') ∧ f_X5_knees (nI c) (nI s) (nI k) (nI b) y.1 y.2.1 y.2.2.1 y.2.2.2.1 y.2.2.2.2.1 y.2.2.2.2.2.1 y.2.2.2.2.2.2.1 y.2.2.2.2.2.2.2.1 y.2.2.2.2.2.2.2.2.1 (nI r) vk vt vg y.2.2.2.2.2.2.2.2.2 vq = some (x, nI k, y'.1, y'.2.1, y'.2.2.1, y'.2.2.2.1, y'.2.2.2.2.1, y'.2.2.2.2.2.1, y'.2.2.2.2.2.2.1, y'.2.2.2.2.2.2.2.1, y'.2.2.2.2.2.2.2.2.1, y'.2.2.2.2.2.2.2.2.2) ∧ ScX z' ∧ b01 gru' := by
  have hc := h.c10
  rw [f_X4_knees, f_X5_knees]
  rcases noZ hc with ⟨e1, e2, -⟩ | ⟨e1, e2, hc0⟩
  · exact ⟨-3, z, y, cnu, stu, knu, sbu, kdu, tku, gru, by rw [e1]; rfl, it' e2, hz, hu⟩
  · obtain ⟨kdu', tku', gru', g1, g2⟩ := bLike (kdu := kdu) (tku := tku) (gru := gru) h
    obtain ⟨S', z', y', t', f1, f2, f3⟩ := kneesL hc0 hr (nI k) (fun (x1 : Int32) (cp : Int32) (li : Int32) (be : Int32) (fl : Int32) (pc : Int32) (ft : Int32) (ti : Int32) (so : Int32) (se : Int32) (pu : Int32) (fw : Nat → Int32) (wt : Nat → Int32) (wp : Nat → Int32) (wc : Nat → Int32) (cnu : Int32) (stu : Int32) (knu : Int32) (sbu : Int32) (kdu : Nat → Int32) (tku : Nat → Int32) (gru : Nat → Int32) => some (x1, cp, li, be, fl, pc, ft, ti, so, se, pu, fw, wt, wp, wc, cnu, stu, knu, sbu, kdu, tku, gru)) (fun (x1 : Int32) (x2 : Int32) (qk : Int32) (qg : Int32) (qp : Int32) (qu : Int32) (ql : Int32) (qe : Int32) (qb : Int32) (qw : Int32) (qi : Int32) (qj : Int32) (vf : Nat → Int32) => some (x2, x1, qg, qp, qu, ql, qe, qb, qw, qi, qj, vf)) 3 100 1 k (0 : Int32) z y (by omega) (by omega) (by omega) hz g2
    refine ⟨S', z', y', nI c, nI s, nI t', nI b, kdu', tku', gru', ?_, ?_, f3, g2.2.2.2.1⟩
    · rw [e1, obind, it' z00, g1, obind]
      exact f1
    · rw [ie' e2]
      exact f2

theorem pr_cost (h : St c s k b kd tk gr vk vt vg) (z : ZX) (hz : ScX z) (y : ZM) (cnu stu knu sbu v : Int32) (hu : b01 gru) : ∃ (x : Int32) (z' : ZX) (y' : ZM) (cnu' stu' knu' sbu' : Int32) (kdu' tku' gru' vt' vg' : Nat → Int32), f_X4_cost z.1 z.2.1 z.2.2.1 z.2.2.2.1 z.2.2.2.2.1 z.2.2.2.2.2.1 z.2.2.2.2.2.2.1 z.2.2.2.2.2.2.2.1 z.2.2.2.2.2.2.2.2.1 z.2.2.2.2.2.2.2.2.2.1 (nI c) (nI s) (nI k) (nI b) cnu stu knu sbu z.2.2.2.2.2.2.2.2.2.2.1 z.2.2.2.2.2.2.2.2.2.2.2.1 z.2.2.2.2.2.2.2.2.2.2.2.2.1 z.2.2.2.2.2.2.2.2.2.2.2.2.2 kd tk gr kdu tku gru v = some (x, z'.1, z'.2.1, z'.2.2.1, z'.2.2.2.1, z'.2.2.2.2.1, z'.2.2.2.2.2.1, z'.2.2.2.2.2.2.1, z'.2.2.2.2.2.2.2.1, z'.2.2.2.2.2.2.2.2.1, z'.2.2.2.2.2.2.2.2.2.1, z'.2.2.2.2.2.2.2.2.2.2.1, z'.2.2.2.2.2.2.2.2.2.2.2.1, z'.2.2.2.2.2.2.2.2.2.2.2.2.1, z'.2.2.2.2.2.2.2.2.2.2.2.2.2, cnu', stu', knu', sbu', kdu', tku', gru') ∧ f_X5_cost (nI c) (nI s) (nI k) (nI b) y.1 y.2.1 y.2.2.1 y.2.2.2.1 y.2.2.2.2.1 y.2.2.2.2.2.1 y.2.2.2.2.2.2.1 y.2.2.2.2.2.2.2.1 y.2.2.2.2.2.2.2.2.1 vk vt vg y.2.2.2.2.2.2.2.2.2 v = some (x, y'.1, y'.2.1, y'.2.2.1, y'.2.2.2.1, y'.2.2.2.2.1, y'.2.2.2.2.2.1, y'.2.2.2.2.2.2.1, y'.2.2.2.2.2.2.2.1, y'.2.2.2.2.2.2.2.2.1, vt', vg', y'.2.2.2.2.2.2.2.2.2) ∧ ScX z' ∧ b01 gru' ∧ St c s k b kd tk gr vk vt' vg' := by
  have hc := h.c10
  rw [f_X4_cost, f_X5_cost]
  rcases flZ hc v with ⟨e1, e2⟩ | ⟨f, hf, rfl, e1, e2⟩
  · rw [e1, e2]
    exact ⟨-1, z, y, cnu, stu, knu, sbu, kdu, tku, gru, vt, vg, rfl, rfl, hz, hu, h⟩
  · have hc0 : 0 < c := by omega
    obtain ⟨kdu', tku', gru', g1, g2⟩ := bLike (kdu := kdu) (tku := tku) (gru := gru) h
    obtain ⟨q1, z1, y1, a1, a2, a3, -⟩ := qkP h hc0 z hz y
    have h' := (g2.upT f (x := 0) (by omega)).upG f (x := 0) (Or.inl rfl)
    have back : St c s k b kd tk gr vk (upd (upd vt f 0) f (vt f)) (upd (upd vg f 0) f (vg f)) := by
      have bb : ∀ (a : Nat → Int32) i, upd (upd a f 0) f (a f) i = a i := by
        intro a i
        by_cases t : i = f
        · rw [t, pk_us]
        · rw [pk_un t, pk_un t]
      refine h.of (fun i hi => ⟨rfl, rfl, rfl⟩) (fun i hi => ⟨rfl, bb vt i, bb vg i⟩) h.2.2.2.1 (fun i hi => ?_)
      rw [bb]; exact h.2.2.2.2 i hi
    have hgf : vg f = 0 ∨ vg f = 1 := h.2.2.2.2 f (by omega)
    obtain ⟨q2, z2, y2, b1, b2, b3, -⟩ := qkP h' hc0 z1 a3 y1
    obtain ⟨-, -, y3, -, c2, -, -⟩ := qkP h' hc0 z1 a3 y1
    rw [e1, e2, obind, obind, ie' n10, ie' n10, g1]
    have m1 : ∀ {β : Type} (F : Int32 × ZM → Option β), (f_X5_quickestNow (nI c) (nI s) (nI k) (nI b) y.1 y.2.1 y.2.2.1 y.2.2.2.1 y.2.2.2.2.1 y.2.2.2.2.2.1 y.2.2.2.2.2.2.1 y.2.2.2.2.2.2.2.1 y.2.2.2.2.2.2.2.2.1 vk vt vg y.2.2.2.2.2.2.2.2.2).bind F = F (q1, y1) := fun F => congrArg (fun o => Option.bind o F) a2
    have x1 : ∀ {β : Type} (F : Int32 × ZX → Option β), (f_X2_least z.1 z.2.1 z.2.2.1 z.2.2.2.1 z.2.2.2.2.1 z.2.2.2.2.2.1 z.2.2.2.2.2.2.1 z.2.2.2.2.2.2.2.1 z.2.2.2.2.2.2.2.2.1 z.2.2.2.2.2.2.2.2.2.1 (nI c) (nI s) (nI k) (nI b) z.2.2.2.2.2.2.2.2.2.2.1 z.2.2.2.2.2.2.2.2.2.2.2.1 z.2.2.2.2.2.2.2.2.2.2.2.2.1 z.2.2.2.2.2.2.2.2.2.2.2.2.2 kd tk gr 24 0).bind F = F (q1, z1) := fun F => congrArg (fun o => Option.bind o F) a1
    have m2 : ∀ {β : Type} (F : Int32 × ZM → Option β), (f_X5_quickestNow (nI c) (nI s) (nI k) (nI b) y1.1 y1.2.1 y1.2.2.1 y1.2.2.2.1 y1.2.2.2.2.1 y1.2.2.2.2.2.1 y1.2.2.2.2.2.2.1 y1.2.2.2.2.2.2.2.1 y1.2.2.2.2.2.2.2.2.1 vk (upd vt f 0) (upd vg f 0) y1.2.2.2.2.2.2.2.2.2).bind F = F (q2, y2) := fun F => congrArg (fun o => Option.bind o F) b2
    have x2 : ∀ {β : Type} (F : Int32 × ZX → Option β), (f_X2_least z1.1 z1.2.1 z1.2.2.1 z1.2.2.2.1 z1.2.2.2.2.1 z1.2.2.2.2.2.1 z1.2.2.2.2.2.2.1 z1.2.2.2.2.2.2.2.1 z1.2.2.2.2.2.2.2.2.1 z1.2.2.2.2.2.2.2.2.2.1 (nI c) (nI s) (nI k) (nI b) z1.2.2.2.2.2.2.2.2.2.2.1 z1.2.2.2.2.2.2.2.2.2.2.2.1 z1.2.2.2.2.2.2.2.2.2.2.2.2.1 z1.2.2.2.2.2.2.2.2.2.2.2.2.2 kdu' (upd tku' f 0) (upd gru' f 0) 24 0).bind F = F (q2, z2) := fun F => congrArg (fun o => Option.bind o F) b1
    rw [m1, x1]
    simp only [gxF hf hc, fcl hf hc, obind]
    rw [m2, gdi hgf]
    by_cases t1 : q1 = -9
    · rw [it' t1, it' t1]
      exact ⟨-9, z1, y2, cnu, stu, knu, sbu, kdu, tku, gru, _, _, rfl, rfl, a3, hu, back⟩
    · rw [ie' t1, ie' t1, x2]
      by_cases t2 : q2 = -9
      · rw [it' t2, it' t2]
        exact ⟨-9, z2, y2, _, _, _, _, _, _, _, _, _, rfl, rfl, b3, h'.2.2.2.1, back⟩
      · rw [ie' t2, ie' t2]
        exact ⟨_, z2, y2, _, _, _, _, _, _, _, _, _, rfl, rfl, b3, h'.2.2.2.1, back⟩
end Sp
