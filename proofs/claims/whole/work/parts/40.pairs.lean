/-! the calls, both sides: numbers asked about -/
theorem n10 : ¬ (1 : Int32) = 0 := by decide
theorem gxF {c f : Nat} (hf : f < c) (hc : c ≤ 10) {α : Type} (k : Option α) : gx (nI f) 10 k = k := gxN (by omega) (by omega)
theorem Iz (z : Int32) : z < 0 ∨ ∃ n, n < 2 ^ 31 ∧ z = nI n := by
  by_cases h : z < 0
  · exact Or.inl h
  · exact Or.inr (nI_of h)
theorem ngT {z : Int32} (h : z < 0) {n : Nat} (hn : n < 2 ^ 31) : z < nI n := by
  have e := nI_toInt hn
  have := Int32.lt_iff_toInt_lt.mp h
  have z0 : (0 : Int32).toInt = 0 := rfl
  refine Int32.lt_iff_toInt_lt.mpr ?_
  omega
theorem ngL {z : Int32} (h : z < 0) {n : Nat} (hn : n < 2 ^ 31) : ¬ nI n ≤ z := by
  intro q
  exact Int32.lt_irrefl (Int32.lt_of_lt_of_le (ngT h hn) q)
theorem ngE {z : Int32} (h : z < 0) {n : Nat} (hn : n < 2 ^ 31) : ¬ z = nI n := by
  rintro rfl
  exact nI_pos hn h
theorem wiZ {A B : Int32} {a b : Nat} (hA : A = nI a) (hB : B = nI b) (hb : b < 2 ^ 31) (ha : a < 2 ^ 31) (z : Int32) : (f_X5_within z A B = some 0 ∧ (z < A ∨ ¬ z < A ∧ B < z)) ∨ ∃ n, a ≤ n ∧ n ≤ b ∧ z = nI n ∧ f_X5_within z A B = some 1 ∧ ¬ z < A ∧ z ≤ B ∧ ¬ B < z := by
  subst hA hB
  rw [f_X5_within]
  rcases Iz z with h | ⟨n, hn, rfl⟩
  · exact Or.inl ⟨it' (ngT h ha), Or.inl (ngT h ha)⟩
  · by_cases h1 : n < a
    · exact Or.inl ⟨it' (nI_lt h1 ha), Or.inl (nI_lt h1 ha)⟩
    · have g1 : ¬ nI n < nI a := nI_nlt (by omega) hn
      by_cases h2 : b < n
      · exact Or.inl ⟨by rw [ie' g1, it' (nI_lt h2 hn)], Or.inr ⟨g1, nI_lt h2 hn⟩⟩
      · have g2 : ¬ nI b < nI n := nI_nlt (by omega) hb
        exact Or.inr ⟨n, by omega, by omega, rfl, by rw [ie' g1, ie' g2], g1, nI_le (by omega) hb, g2⟩
theorem nle {a b : Int32} (h : a < b) : ¬ b ≤ a := fun q => Int32.lt_irrefl (Int32.lt_of_lt_of_le h q)
theorem wiZ' {A B : Int32} {a b : Nat} (hA : A = nI a) (hB : B = nI b) (hb : b < 2 ^ 31) (ha : a < 2 ^ 31) (z : Int32) : (f_X5_within z A B = some 0 ∧ (z < A ∨ ¬ z < A ∧ B < z ∧ ¬ z ≤ B)) ∨ ∃ n, a ≤ n ∧ n ≤ b ∧ z = nI n ∧ f_X5_within z A B = some 1 ∧ ¬ z < A ∧ z ≤ B ∧ ¬ B < z := by
  rcases wiZ hA hB hb ha z with ⟨e, h⟩ | h
  · exact Or.inl ⟨e, h.imp_right (fun q => ⟨q.1, q.2, nle q.2⟩)⟩
  · exact Or.inr h
theorem shZ (z : Int32) : (f_X4_isSheet z = some 0 ∧ f_X5_isSheet z = some 0) ∨ ∃ k, k < 4 ∧ z = nI k ∧ f_X4_isSheet z = some 1 ∧ f_X5_isSheet z = some 1 := by
  rw [f_X4_isSheet, f_X5_isSheet]
  rcases wiZ' (A := 0) (B := 3) (a := 0) (b := 3) rfl rfl (by omega) (by omega) z with ⟨e, h⟩ | ⟨n, h1, h2, rfl, e, g1, g2, g3⟩
  · refine Or.inl ⟨?_, by rw [e]; rfl⟩
    rcases h with h | ⟨h1, h2, h3⟩
    · rw [it' h]
    · rw [ie' h1]
      rcases Iz z with h | ⟨n, hn, rfl⟩
      · exact absurd h h1
      · rw [it' (show (4 : Int32) ≤ nI n from nI_le (a := 4) (Nat.lt_of_not_le (fun q => h3 (nI_le (b := 3) q (by omega)))) hn)]
  · exact Or.inr ⟨n, by omega, rfl, by rw [ie' g1, ie' (show ¬ (4 : Int32) ≤ nI n from nI_ge (b := 4) (by omega) (by omega))], by rw [e]; rfl⟩
theorem laZ (z : Int32) : (f_X4_isLane z = some 0 ∧ f_X5_isSort z = some 0) ∨ ∃ k, k < 3 ∧ z = nI k ∧ f_X4_isLane z = some 1 ∧ f_X5_isSort z = some 1 := by
  rw [f_X4_isLane, f_X5_isSort]
  rcases wiZ' (A := 0) (B := 2) (a := 0) (b := 2) rfl rfl (by omega) (by omega) z with ⟨e, h⟩ | ⟨n, h1, h2, rfl, e, g1, g2, g3⟩
  · refine Or.inl ⟨?_, by rw [e]; rfl⟩
    rcases h with h | ⟨h1, h2, h3⟩
    · rw [it' h]
    · rw [ie' h1]
      rcases Iz z with h | ⟨n, hn, rfl⟩
      · exact absurd h h1
      · rw [it' (show (3 : Int32) ≤ nI n from nI_le (a := 3) (Nat.lt_of_not_le (fun q => h3 (nI_le (b := 2) q (by omega)))) hn)]
  · exact Or.inr ⟨n, by omega, rfl, by rw [ie' g1, ie' (show ¬ (3 : Int32) ≤ nI n from nI_ge (b := 3) (by omega) (by omega))], by rw [e]; rfl⟩
theorem flZ {c : Nat} (hc : c ≤ 10) (z : Int32) : (f_X3_has (nI c) z = some 0 ∧ f_X5_isFlag (nI c) z = some 0) ∨ ∃ f, f < c ∧ z = nI f ∧ f_X3_has (nI c) z = some 1 ∧ f_X5_isFlag (nI c) z = some 1 := by
  rw [f_X3_has, f_X5_isFlag]
  rcases Iz z with h | ⟨f, hf, rfl⟩
  · exact Or.inl ⟨it' h, it' h⟩
  · by_cases h : f < c
    · have g := nI_ge h (by omega : c < 2 ^ 31)
      exact Or.inr ⟨f, h, rfl, by rw [ie' (nI_pos hf), ie' g], by rw [ie' (nI_pos hf), ie' g]⟩
    · have g := nI_le (Nat.le_of_not_lt h) hf
      exact Or.inl ⟨by rw [ie' (nI_pos hf), it' g], by rw [ie' (nI_pos hf), it' g]⟩
theorem noZ {c : Nat} (hc : c ≤ 10) : (f_X3_isNone (nI c) = some 1 ∧ nI c = 0 ∧ c = 0) ∨ (f_X3_isNone (nI c) = some 0 ∧ ¬ nI c = 0 ∧ 0 < c) := by
  rw [f_X3_isNone]
  rcases Nat.eq_zero_or_pos c with h | h
  · subst h
    exact Or.inl ⟨by decide, rfl, rfl⟩
  · have := nI_ne0 h (by omega : c < 2 ^ 31)
    exact Or.inr ⟨by rw [ie' this], this, h⟩
/-! the street of both sides -/
def b01 (g : Nat → Int32) : Prop := ∀ i, i < 10 → g i = 0 ∨ g i = 1
def St (c s k b : Nat) (kd tk gr vk vt vg : Nat → Int32) : Prop := (s ≤ 4 ∧ k ≤ 3 ∧ b ≤ 2) ∧ okF c kd tk gr ∧ (∀ i, i < c → vk i = kd i ∧ vt i = tk i ∧ vg i = gr i) ∧ b01 gr ∧ b01 vg
theorem rlN_cg {c : Nat} {gr vg : Nat → Int32} (h : ∀ i, i < c → vg i = gr i) : ∀ (n f p : Nat), rlN c vg n f p = rlN c gr n f p
  | 0, _, _ => rfl
  | n + 1, f, p => by
    rw [rlN, rlN, rlN_cg h n (f + 1) p]
    by_cases h1 : f + 1 < c
    · rw [h _ h1]
    · rw [if_neg (c := 4 ≤ p ∧ f + 1 < c ∧ ¬ vg (f + 1) = 0) (fun q => h1 q.2.1), if_neg (c := 4 ≤ p ∧ f + 1 < c ∧ ¬ gr (f + 1) = 0) (fun q => h1 q.2.1)]
theorem stN_cg {c s k : Nat} {kd tk gr vk vt vg : Nat → Int32} (h : ∀ i, i < c → vk i = kd i ∧ vt i = tk i ∧ vg i = gr i) : stN c s k vk vt vg = stN c s k kd tk gr := by
  funext a x
  unfold stN
  by_cases h1 : c ≤ x.1
  · rw [if_pos h1, if_pos h1]
  · have hx := h x.1 (by omega)
    have e : ∀ p, roN c vk vt vg x.1 p = roN c kd tk gr x.1 p := by
      intro p
      unfold roN dgN
      rw [hx.1, hx.2.1, rlN_cg (fun i hi => (h i hi).2.2)]
    rw [if_neg h1, if_neg h1]
    simp only [e]
section St
variable {c s k b : Nat} {kd tk gr vk vt vg : Nat → Int32}
theorem St.okm (h : St c s k b kd tk gr vk vt vg) : okF c vk vt vg := by
  obtain ⟨-, ⟨hc, ok⟩, hg, -, -⟩ := h
  refine ⟨hc, fun i hi => ?_⟩
  obtain ⟨e1, e2, e3⟩ := hg i hi
  rw [e1, e2, e3]
  exact ok i hi
theorem St.cg (h : St c s k b kd tk gr vk vt vg) : stN c s k vk vt vg = stN c s k kd tk gr := stN_cg h.2.2.1
theorem St.c10 (h : St c s k b kd tk gr vk vt vg) : c ≤ 10 := h.2.1.1
theorem upd_s {f : Nat → Int32} {i : Nat} {v : Int32} : upd f i v i = v := pk_us
theorem St.upT (h : St c s k b kd tk gr vk vt vg) (f : Nat) {x : Nat} (hx : x ≤ 4) : St c s k b kd (upd tk f (nI x)) gr vk (upd vt f (nI x)) vg := by
  obtain ⟨h0, ⟨hc, ok⟩, hg, h1, h2⟩ := h
  refine ⟨h0, ⟨hc, fun i hi => ?_⟩, fun i hi => ?_, h1, h2⟩
  · obtain ⟨a1, a2, a3⟩ := ok i hi
    refine ⟨a1, ?_, a3⟩
    by_cases e : i = f
    · exact ⟨x, hx, by rw [e, pk_us]⟩
    · rw [pk_un e]; exact a2
  · obtain ⟨a1, a2, a3⟩ := hg i hi
    refine ⟨a1, ?_, a3⟩
    by_cases e : i = f
    · rw [e, pk_us, pk_us]
    · rw [pk_un e, pk_un e]; exact a2
theorem St.upK (h : St c s k b kd tk gr vk vt vg) (f : Nat) {x : Int32} (hx : x = 0 ∨ x = 1 ∨ x = 2) : St c s k b (upd kd f x) tk gr (upd vk f x) vt vg := by
  obtain ⟨h0, ⟨hc, ok⟩, hg, h1, h2⟩ := h
  refine ⟨h0, ⟨hc, fun i hi => ?_⟩, fun i hi => ?_, h1, h2⟩
  · obtain ⟨a1, a2, a3⟩ := ok i hi
    refine ⟨?_, a2, a3⟩
    by_cases e : i = f
    · rw [e, pk_us]; exact hx
    · rw [pk_un e]; exact a1
  · obtain ⟨a1, a2, a3⟩ := hg i hi
    refine ⟨?_, a2, a3⟩
    by_cases e : i = f
    · rw [e, pk_us, pk_us]
    · rw [pk_un e, pk_un e]; exact a1
theorem b01_up {g : Nat → Int32} (h : b01 g) (f : Nat) {x : Int32} (hx : x = 0 ∨ x = 1) : b01 (upd g f x) := by
  intro i hi
  by_cases e : i = f
  · rw [e, pk_us]; exact hx
  · rw [pk_un e]; exact h i hi
theorem St.upG (h : St c s k b kd tk gr vk vt vg) (f : Nat) {x : Int32} (hx : x = 0 ∨ x = 1) : St c s k b kd tk (upd gr f x) vk vt (upd vg f x) := by
  obtain ⟨h0, ⟨hc, ok⟩, hg, h1, h2⟩ := h
  refine ⟨h0, ⟨hc, fun i hi => ?_⟩, fun i hi => ?_, b01_up h1 f hx, b01_up h2 f hx⟩
  · obtain ⟨a1, a2, a3⟩ := ok i hi
    refine ⟨a1, a2, ?_⟩
    by_cases e : i = f
    · rw [e, pk_us]; exact hx
    · rw [pk_un e]; exact a3
  · obtain ⟨a1, a2, a3⟩ := hg i hi
    refine ⟨a1, a2, ?_⟩
    by_cases e : i = f
    · rw [e, pk_us, pk_us]
    · rw [pk_un e, pk_un e]; exact a3
/-- the same rows, told otherwise -/
theorem St.of (h : St c s k b kd tk gr vk vt vg) {kd' tk' gr' vk' vt' vg' : Nat → Int32} (hx : ∀ i, i < c → kd' i = kd i ∧ tk' i = tk i ∧ gr' i = gr i) (hm : ∀ i, i < c → vk' i = vk i ∧ vt' i = vt i ∧ vg' i = vg i) (h1 : b01 gr') (h2 : b01 vg') : St c s k b kd' tk' gr' vk' vt' vg' := by
  obtain ⟨h0, ⟨hc, ok⟩, hg, -, -⟩ := h
  refine ⟨h0, ⟨hc, fun i hi => ?_⟩, fun i hi => ?_, h1, h2⟩
  · obtain ⟨e1, e2, e3⟩ := hx i hi
    rw [e1, e2, e3]; exact ok i hi
  · obtain ⟨e1, e2, e3⟩ := hx i hi
    obtain ⟨g1, g2, g3⟩ := hm i hi
    obtain ⟨a1, a2, a3⟩ := hg i hi
    exact ⟨(g1.trans a1).trans e1.symm, (g2.trans a2).trans e2.symm, (g3.trans a3).trans e3.symm⟩
/-! the plain calls -/
theorem pr_strong (hc : c ≤ 10) (hs : s ≤ 4) (v : Int32) : ∃ r s', s' ≤ 4 ∧ f_X4_strong (nI c) (nI s) v = some (r, nI s') ∧ f_X5_strong (nI c) (nI s) v = some (r, nI s') := by
  rw [f_X4_strong, f_X5_strong]
  rcases wiZ' (A := 1) (B := 4) (a := 1) (b := 4) rfl rfl (by omega) (by omega) v with ⟨e, h⟩ | ⟨n, h1, h2, rfl, e, g1, g2, g3⟩
  · refine ⟨-2, s, hs, ?_, by rw [e]; rfl⟩
    rcases h with h | ⟨h1, h2, h3⟩
    · rw [it' h]
    · rw [ie' h1, ie' h3]
  · rw [ie' g1, it' g2, e, obind, ie' n10]
    rcases noZ hc with ⟨e1, e2, -⟩ | ⟨e1, e2, -⟩
    · exact ⟨-3, s, hs, by rw [e1]; rfl, it' e2⟩
    · exact ⟨nI s, n, h2, by rw [e1]; rfl, ie' e2⟩
theorem pr_knee (hc : c ≤ 10) (hs : k ≤ 3) (v : Int32) : ∃ r s', s' ≤ 3 ∧ f_X4_knee (nI c) (nI k) v = some (r, nI s') ∧ f_X5_knee (nI c) (nI k) v = some (r, nI s') := by
  rw [f_X4_knee, f_X5_knee]
  rcases wiZ' (A := 1) (B := 3) (a := 1) (b := 3) rfl rfl (by omega) (by omega) v with ⟨e, h⟩ | ⟨n, h1, h2, rfl, e, g1, g2, g3⟩
  · refine ⟨-2, k, hs, ?_, by rw [e]; rfl⟩
    rcases h with h | ⟨h1, h2, h3⟩
    · rw [it' h]
    · rw [ie' h1, ie' h3]
  · rw [ie' g1, it' g2, e, obind, ie' n10]
    rcases noZ hc with ⟨e1, e2, -⟩ | ⟨e1, e2, -⟩
    · exact ⟨-3, k, hs, by rw [e1]; rfl, it' e2⟩
    · exact ⟨nI k, n, h2, by rw [e1]; rfl, ie' e2⟩
theorem pr_sole (hc : c ≤ 10) (hs : b ≤ 2) (v : Int32) : ∃ r s', s' ≤ 2 ∧ f_X4_sole (nI c) (nI b) v = some (r, nI s') ∧ f_X5_sole (nI c) (nI b) v = some (r, nI s') := by
  rw [f_X4_sole, f_X5_sole]
  rcases wiZ' (A := 0) (B := 2) (a := 0) (b := 2) rfl rfl (by omega) (by omega) v with ⟨e, h⟩ | ⟨n, h1, h2, rfl, e, g1, g2, g3⟩
  · refine ⟨-2, b, hs, ?_, by rw [e]; rfl⟩
    rcases h with h | ⟨h1, h2, h3⟩
    · rw [it' h]
    · rw [ie' h1, ie' h3]
  · rw [ie' g1, it' g2, e, obind, ie' n10]
    rcases noZ hc with ⟨e1, e2, -⟩ | ⟨e1, e2, -⟩
    · exact ⟨-3, b, hs, by rw [e1]; rfl, it' e2⟩
    · exact ⟨nI b, n, h2, by rw [e1]; rfl, ie' e2⟩
theorem fcl {f : Nat} (hf : f < c) (hc : c ≤ 10) : (nI f).toNatClampNeg = f := nI_clamp (by omega)
theorem pr_grating (h : St c s k b kd tk gr vk vt vg) (z v : Int32) (hv : v = 0 ∨ v = 1) : ∃ r gr' vg', f_X4_grating (nI c) gr z v = some (r, gr') ∧ f_X5_grating (nI c) vg z v = some (r, vg') ∧ St c s k b kd tk gr' vk vt vg' := by
  have hc := h.c10
  rw [f_X4_grating, f_X5_grating]
  rcases flZ hc z with ⟨e1, e2⟩ | ⟨f, hf, rfl, e1, e2⟩
  · rw [e1, e2]
    exact ⟨-1, gr, vg, rfl, rfl, h⟩
  · rw [e1, e2, obind, obind, ie' n10, ie' n10]
    simp only [gxF hf hc]
    rw [fcl hf hc, gdi hv, gdi hv, (h.2.2.1 f hf).2.2]
    by_cases q : gr f = v
    · rw [it' q, it' q]
      refine ⟨0, gr, upd vg f v, rfl, rfl, h.of (fun i hi => ⟨rfl, rfl, rfl⟩) (fun i hi => ⟨rfl, rfl, ?_⟩) h.2.2.2.1 (b01_up h.2.2.2.2 f hv)⟩
      by_cases e : i = f
      · rw [e, pk_us, (h.2.2.1 f hf).2.2, q]
      · rw [pk_un e]
    · rw [ie' q, ie' q]
      exact ⟨1, _, _, rfl, rfl, h.upG f hv⟩
theorem dragQ (ok : okF c kd tk gr) {f : Nat} (hf : f < c) : f_X3_dragOf (nI c) kd tk (nI f) = f_X5_dragOf kd tk (nI f) := (dragX ok hf).trans (dragM ok hf).symm
theorem pr_ofFlag (h : St c s k b kd tk gr vk vt vg) (z v : Int32) : ∃ r, f_X4_ofFlag (nI c) kd tk gr z v = some r ∧ f_X5_ofFlag (nI c) vk vt vg z v = some r := by
  have hc := h.c10
  rw [f_X4_ofFlag, f_X5_ofFlag]
  rcases flZ hc z with ⟨e1, e2⟩ | ⟨f, hf, rfl, e1, e2⟩
  · rw [e1, e2]
    exact ⟨-1, rfl, rfl⟩
  · obtain ⟨g1, g2, g3⟩ := h.2.2.1 f hf
    rw [e1, e2, obind, obind, ie' n10, ie' n10]
    simp only [gxF hf hc]
    rw [fcl hf hc, g1, g2, g3]
    rw [dragX h.2.1 hf, dragM h.okm hf, show dgN vk vt f = dgN kd tk f by unfold dgN; rw [g1, g2], obind]
    by_cases v0 : v = 0
    · rw [it' v0]; exact ⟨_, rfl, rfl⟩
    rw [ie' v0]
    by_cases v1 : v = 1
    · rw [it' v1]; exact ⟨_, rfl, rfl⟩
    rw [ie' v1]
    by_cases v2 : v = 2
    · rw [it' v2]; exact ⟨_, rfl, rfl⟩
    rw [ie' v2]
    by_cases v3 : v = 3
    · rw [it' v3]
      by_cases q : gr f = 0
      · rw [it' q]; exact ⟨_, rfl, rfl⟩
      · rw [ie' q]; exact ⟨_, rfl, rfl⟩
    rw [ie' v3]
    exact ⟨_, rfl, rfl⟩
theorem pr_tell (h : St c s k b kd tk gr vk vt vg) (tc z : Int32) : ∃ r, f_X4_tell tc (nI c) kd tk z = some r ∧ f_X5_tell tc (nI c) vk vt z = some r := by
  have hc := h.c10
  rw [f_X4_tell, f_X5_tell]
  rcases flZ hc z with ⟨e1, e2⟩ | ⟨f, hf, rfl, e1, e2⟩
  · rw [e1, e2]
    exact ⟨_, rfl, rfl⟩
  · obtain ⟨g1, g2, g3⟩ := h.2.2.1 f hf
    have ht : ∀ t, f_X4_flagTold t (nI c) tk (nI f) = some (tk f, 31 * t + 1) := by
      intro t
      rw [f_X4_flagTold, f_X4_leaveTrace, obind, e1, obind, ie' (by decide), gxN (by omega) (by omega), fcl hf hc]
    have hh : ∀ t, f_X4_hillTold t (nI c) tk (nI f) = some (tk f + 100, 31 * (31 * t + 2) + 1) := by
      intro t
      rw [f_X4_hillTold, f_X4_leaveTrace, obind, ht, obind]
    have hw : f_X4_wetTold tc (nI c) tk (nI f) = some (tk f + 100 + tk f, 31 * (31 * (31 * (31 * tc + 3) + 2) + 1) + 1) := by
      rw [f_X4_wetTold, f_X4_leaveTrace, obind, hh, obind, ht, obind]
    rw [e1, e2, obind, obind, ie' n10, ie' n10]
    simp only [gxF hf hc]
    rw [fcl hf hc, g1, g2, ht, hh, hw, obind, obind, obind]
    rcases (h.2.1.2 f hf).1 with q | q | q
    · rw [q]; exact ⟨_, rfl, rfl⟩
    · rw [q]; exact ⟨_, rfl, rfl⟩
    · rw [q]
      refine ⟨_, rfl, ?_⟩
      obtain ⟨t, ht, e⟩ := (h.2.1.2 f hf).2.1
      rw [e]
      have : ∀ t, t ≤ 4 → (2 : Int32) * nI t + 100 = nI t + 100 + nI t := by decide +kernel
      show some ((2 : Int32) * nI t + 100, _) = _
      rw [this t ht]
theorem pr_rattle (h : St c s k b kd tk gr vk vt vg) (tc z : Int32) : ∃ r, f_X4_rattle tc (nI c) kd z = some r ∧ f_X5_rattle tc (nI c) vk z = some r := by
  have hc := h.c10
  rw [f_X4_rattle, f_X5_rattle]
  rcases flZ hc z with ⟨e1, e2⟩ | ⟨f, hf, rfl, e1, e2⟩
  · rw [e1, e2]
    exact ⟨_, rfl, rfl⟩
  · obtain ⟨g1, g2, g3⟩ := h.2.2.1 f hf
    rw [e1, e2, obind, obind, ie' n10, ie' n10, f_X5_rattle_26, f_X5_rattle_26, f_X5_begins, f_X5_begins, obind, obind, f_X4_leaveTrace, f_X4_leaveTrace, obind, obind]
    simp only [gxF hf hc]
    rw [fcl hf hc, g1]
    by_cases q : kd f = 2
    · rw [it' q, it' q, it' q]; exact ⟨_, rfl, rfl⟩
    · rw [ie' q, ie' q, ie' q]; exact ⟨_, rfl, rfl⟩
theorem pr_as (h : St c s k b kd tk gr vk vt vg) (z v : Int32) : ∃ r, f_X4_as (nI c) kd z v = some r ∧ f_X5_as (nI c) vk z v = some r := by
  have hc := h.c10
  rw [f_X4_as, f_X5_as]
  rcases flZ hc z with ⟨e1, e2⟩ | ⟨f, hf, rfl, e1, e2⟩
  · rw [e1, e2]
    exact ⟨_, rfl, rfl⟩
  · obtain ⟨g1, g2, g3⟩ := h.2.2.1 f hf
    rw [e1, e2, obind, obind, ie' n10, ie' n10]
    rcases wiZ' (A := 0) (B := 2) (a := 0) (b := 2) rfl rfl (by omega) (by omega) v with ⟨e, q⟩ | ⟨n, h1, h2, rfl, e, q1, q2, q3⟩
    · refine ⟨(-2, 0), ?_, by rw [e]; rfl⟩
      rcases q with q | ⟨q1, q2, q3⟩
      · rw [it' q]
      · rw [ie' q1]
        rcases Iz v with q | ⟨n, hn, rfl⟩
        · exact absurd q q1
        · rw [ie' (show ¬ nI n < (3 : Int32) from nI_nlt (b := 3) (Nat.lt_of_not_le (fun q => q3 (nI_le (b := 2) q (by omega)))) hn)]
    · rw [ie' q1, it' (show nI n < (3 : Int32) from nI_lt (b := 3) (by omega) (by omega)), e, obind, ie' n10]
      simp only [gxF hf hc]
      rw [fcl hf hc, g1]
      by_cases q : kd f < nI n
      · rw [it' q, it' q]; exact ⟨_, rfl, rfl⟩
      · rw [ie' q, ie' q]; exact ⟨_, rfl, rfl⟩
theorem pr_many (rc cn st kn sb v : Int32) : ∃ r, f_X4_many rc cn st kn sb v = some r ∧ f_X5_many cn st kn sb rc v = some r := by
  rw [f_X4_many, f_X5_many]
  by_cases v0 : v = 0
  · rw [it' v0]; exact ⟨_, rfl, rfl⟩
  rw [ie' v0]
  by_cases v1 : v = 1
  · rw [it' v1]; exact ⟨_, rfl, rfl⟩
  rw [ie' v1]
  by_cases v2 : v = 2
  · rw [it' v2]; exact ⟨_, rfl, rfl⟩
  rw [ie' v2]
  by_cases v3 : v = 3
  · rw [it' v3]; exact ⟨_, rfl, rfl⟩
  rw [ie' v3]
  by_cases v4 : v = 4
  · rw [it' v4]; exact ⟨_, rfl, rfl⟩
  rw [ie' v4]
  exact ⟨_, rfl, rfl⟩
end St
/-! what was seen -/
def Rg (r : Nat) (rg vq : Nat → Int32) : Prop := r ≤ 8 ∧ ∀ i, i < r → rg i = vq i
theorem pr_reading {c r : Nat} {rg vq : Nat → Int32} (hc : c ≤ 10) (h : Rg r rg vq) (v : Int32) : ∃ x r' rg' vq', f_X4_reading (nI r) (nI c) rg v = some (x, nI r', rg') ∧ f_X5_reading (nI c) (nI r) vq v = some (x, nI r', vq') ∧ Rg r' rg' vq' := by
  have e19 : ∃ x r' rg' vq', f_X4_reading_19 (nI c) v (nI r) rg = some (x, nI r', rg') ∧ f_X5_reading_19 (nI c) v (nI r) vq = some (x, nI r', vq') ∧ Rg r' rg' vq' := by
    obtain ⟨h8, hg⟩ := h
    rw [f_X4_reading_19, f_X5_reading_19]
    rcases noZ hc with ⟨e1, e2, -⟩ | ⟨e1, e2, -⟩
    · exact ⟨-3, r, rg, vq, by rw [e1]; rfl, it' e2, h8, hg⟩
    · rw [e1, obind, it' (by decide), ie' e2]
      by_cases q : r = 8
      · subst q
        exact ⟨-4, 8, rg, vq, rfl, rfl, h8, hg⟩
      · have cl : (nI r).toNatClampNeg = r := nI_clamp (by omega)
        rw [it' (show nI r < (8 : Int32) from nI_lt (b := 8) (by omega) (by omega)), ie' (show ¬ nI r = 8 from fun z => q ((nI_eq (b := 8) (by omega) (by omega)).mp z)), gxN (by omega) (by omega), gxN (by omega) (by omega), cl, nI_1]
        refine ⟨_, r + 1, _, _, rfl, rfl, by omega, fun i hi => ?_⟩
        by_cases z : i = r
        · rw [z, pk_us, pk_us]
        · rw [pk_un z, pk_un z]; exact hg i (by omega)
  rw [f_X4_reading, f_X5_reading]
  by_cases q : v = -9
  · rw [it' q, it' q]; exact e19
  · rw [ie' q, ie' q]
    rcases wiZ' (A := 0) (B := 24) (a := 0) (b := 24) rfl rfl (by omega) (by omega) v with ⟨e, q⟩ | ⟨n, h1, h2, rfl, e, q1, q2, q3⟩
    · refine ⟨-2, r, rg, vq, ?_, by rw [e]; rfl, h⟩
      rcases q with q | ⟨q1, q2, q3⟩
      · rw [it' q]
      · rw [ie' q1, ie' q3]
    · rw [ie' q1, it' q2, e, obind, ie' n10]; exact e19
theorem pr_back {r : Nat} {rg vq : Nat → Int32} (h : Rg r rg vq) (v : Int32) : ∃ x r', f_X4_back (nI r) v = some (x, nI r') ∧ f_X5_back (nI r) v = some (x, nI r') ∧ Rg r' rg vq := by
  obtain ⟨h8, hg⟩ := h
  rw [f_X4_back, f_X5_back]
  rcases wiZ' (A := 0) (B := nI r) (a := 0) (b := r) rfl rfl (by omega) (by omega) v with ⟨e, q⟩ | ⟨n, h1, h2, rfl, e, q1, q2, q3⟩
  · refine ⟨-2, r, ?_, by rw [e]; rfl, h8, hg⟩
    rcases q with q | ⟨q1, q2, q3⟩
    · rw [it' q]
    · rw [ie' q1, ie' q3]
  · rw [ie' q1, it' q2, e, obind, ie' n10, nI_sub h2]
    exact ⟨_, r - n, rfl, rfl, by omega, fun i hi => hg i (by omega)⟩
