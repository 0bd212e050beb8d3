/-! sheets, both sides -/
def up2 {α : Type} (f : Nat → α) (k : Nat) (v : α) : Nat → α := fun j => if j = k then v else f j
theorem up2_s {α : Type} {f : Nat → α} {k : Nat} {v : α} : up2 f k v k = v := if_pos rfl
theorem up2_n {α : Type} {f : Nat → α} {j k : Nat} {v : α} (h : j ≠ k) : up2 f k v j = f j := if_neg h
def Sh1 (th ln le : Int32) (ce : Nat → Int32) (j : Nat) (vs vl vc : Nat → Int32) : Prop := ∃ n, n ≤ 60 ∧ le = nI n ∧ ((th = 0 ∧ vs j = -9) ∨ (th = 1 ∧ (∃ a, a < 3 ∧ ln = nI a ∧ vs j = nI a) ∧ vl j = nI n ∧ ∀ i, i < 60 → ce i = vc (60 * j + i)))
def Sh (th ln le : Nat → Int32) (ce : Nat → Nat → Int32) (vs vl vc : Nat → Int32) : Prop := ∀ j, j < 4 → Sh1 (th j) (ln j) (le j) (ce j) j vs vl vc
section Sh
variable {th ln le : Nat → Int32} {ce : Nat → Nat → Int32} {vs vl vc : Nat → Int32}
theorem Sh.up (h : Sh th ln le ce vs vl vc) {k : Nat} {th' ln' le' : Int32} {ce' vs' vl' vc' : Nat → Int32} (h1 : Sh1 th' ln' le' ce' k vs' vl' vc') (hf : ∀ j, j < 4 → j ≠ k → vs' j = vs j ∧ vl' j = vl j ∧ ∀ i, i < 60 → vc' (60 * j + i) = vc (60 * j + i)) : Sh (up2 th k th') (up2 ln k ln') (up2 le k le') (up2 ce k ce') vs' vl' vc' := by
  intro j hj
  by_cases e : j = k
  · subst e
    rw [up2_s, up2_s, up2_s, up2_s]
    exact h1
  · rw [up2_n e, up2_n e, up2_n e, up2_n e]
    obtain ⟨a, b, c⟩ := hf j hj e
    obtain ⟨n, hn, e1, h⟩ := h j hj
    refine ⟨n, hn, e1, ?_⟩
    rw [a, b]
    rcases h with h | ⟨q1, q2, q3, q4⟩
    · exact Or.inl h
    · exact Or.inr ⟨q1, q2, q3, fun i hi => (q4 i hi).trans (c i hi).symm⟩
theorem Sh.same (h : Sh th ln le ce vs vl vc) {k : Nat} : Sh (up2 th k (th k)) (up2 ln k (ln k)) (up2 le k (le k)) (up2 ce k (ce k)) vs vl vc := by
  have e : ∀ {α : Type} (f : Nat → α), up2 f k (f k) = f := by
    intro α f
    funext j
    by_cases q : j = k
    · rw [q, up2_s]
    · rw [up2_n q]
  rw [e, e, e, e]
  exact h
theorem m60 : ∀ k, k < 4 → (60 : Int32) * nI k = nI (60 * k) := by decide +kernel
theorem kcl {k : Nat} (hk : k < 4) : (nI k).toNatClampNeg = k := nI_clamp (by omega)
theorem gx4 {k : Nat} (hk : k < 4) {α : Type} (x : Option α) : gx (nI k) 4 x = x := gxN hk (by omega)
theorem na9 {a : Nat} (h : a < 3) : ¬ nI a = -9 := nI_m9 (by omega)
theorem fillL {α : Type} (k : Nat) (hk : k < 4) (qf : Int32) (vs vl : Nat → Int32) : ∀ KK, ∀ (d n x : Nat) (vc : Nat → Int32), x + d = 60 → d < n → f_X5_sheet_L57 (nI k) KK n (nI x) qf vs vl vc = KK qf vs vl (fun j => if 60 * k + x ≤ j ∧ j < 60 * k + 60 then 0 else vc j) := by
  intro KK d
  induction d with
  | zero =>
    intro n x vc hx hn
    obtain ⟨n, rfl⟩ : ∃ t, n = t + 1 := ⟨n - 1, by omega⟩
    obtain rfl : x = 60 := by omega
    rw [f_X5_sheet_L57, it' (by decide)]
    congr 1
    funext j
    rw [if_neg (by omega)]
  | succ d ih =>
    intro n x vc hx hn
    obtain ⟨n, rfl⟩ : ∃ t, n = t + 1 := ⟨n - 1, by omega⟩
    rw [f_X5_sheet_L57, ie' (show ¬ (60 : Int32) ≤ nI x from nI_ge (b := 60) (by omega) (by omega)), m60 k hk, nI_add, gxN (by omega) (by omega), nI_clamp (by omega), nI_1, ih n (x + 1) _ (by omega) (by omega)]
    congr 1
    funext j
    by_cases q : j = 60 * k + x
    · rw [q, if_neg (by omega), pk_us, if_pos (by omega)]
    · rw [pk_un q]
      by_cases q2 : 60 * k + x ≤ j ∧ j < 60 * k + 60
      · rw [if_pos (by omega), if_pos q2]
      · rw [if_neg (by omega), if_neg q2]
theorem pr_sheet (h : Sh th ln le ce vs vl vc) (zs zl zn qf : Int32) : ∃ k, k < 4 ∧ ∃ (r lf' th' ln' le' : Int32) (ce' vs' vl' vc' : Nat → Int32), f_X4_sheet (th k) (ln k) (le k) (ce k) zs zl zn k = some (r, lf', th', ln', le', ce') ∧ f_X5_sheet qf vs vl vc zs zl zn = some (r, lf', vs', vl', vc') ∧ Sh (up2 th k th') (up2 ln k ln') (up2 le k le') (up2 ce k ce') vs' vl' vc' := by
  rcases shZ zs with ⟨e1, e2⟩ | ⟨k, hk, rfl, e1, e2⟩
  · refine ⟨0, by omega, ?_⟩
    rw [f_X4_sheet, f_X5_sheet, e1, e2]
    exact ⟨-1, 0, _, _, _, _, _, _, _, rfl, rfl, h.same⟩
  refine ⟨k, hk, ?_⟩
  rw [f_X4_sheet, f_X5_sheet, e1, e2, obind, obind, ie' n10, ie' n10]
  rcases laZ zl with ⟨e3, e4⟩ | ⟨a, ha, rfl, e3, e4⟩
  · rw [e3, e4]
    exact ⟨-2, 0, _, _, _, _, _, _, _, rfl, rfl, h.same⟩
  rw [e3, e4, obind, obind, ie' n10, ie' n10]
  by_cases q : zn ≤ 60
  · rw [it' q, it' q]
    rcases Iz zn with g | ⟨n, hn, rfl⟩
    · have g' : ¬ (0 : Int32) ≤ zn := nle g
      rw [ie' g', ie' g']
      exact ⟨_, _, _, _, _, _, _, _, _, rfl, rfl, h.same⟩
    · have hn6 : n ≤ 60 := (nI_leI (b := 60) hn (by omega)).mp q
      rw [it' (nI_pos' hn), it' (nI_pos' hn), gx4 hk, gx4 hk, gx4 hk, gdi (kcl hk), kcl hk, f_X1_becomeNew, fillEq _ _ _ (by omega), obind]
      have ef := fillL (α := Int32) k hk 0 (upd vs k (nI a)) (upd vl k (nI n)) (fun (qf : Int32) (vs : Nat → Int32) (vl : Nat → Int32) (vc : Nat → Int32) => some ((1 : Int32), qf, vs, vl, vc)) 60 100 0 vc (by omega) (by omega)
      have el : (if (0 : Int32) < (if (60 : Int32) < nI n then (60 : Int32) else nI n) then (if (60 : Int32) < nI n then (60 : Int32) else nI n) else (0 : Int32)) = nI n := by
        rw [ie' (show ¬ (60 : Int32) < nI n from nI_nlt (a := 60) hn6 (by omega))]
        rcases Nat.eq_zero_or_pos n with z | z
        · rw [z]; rfl
        · rw [it' (show (0 : Int32) < nI n from nI_lt (a := 0) z hn)]
      rw [el, obind]
      refine ⟨1, 0, 1, nI a, nI n, _, _, _, _, rfl, ef, h.up ⟨n, hn6, rfl, Or.inr ⟨rfl, ⟨a, ha, rfl, pk_us⟩, pk_us, fun i hi => ?_⟩⟩ (fun j hj e => ⟨pk_un e, pk_un e, fun i hi => if_neg (by omega)⟩)⟩
      exact (if_pos hi).trans (if_pos (by omega)).symm
  · rw [ie' q, ie' q]
    exact ⟨-2, 0, _, _, _, _, _, _, _, rfl, rfl, h.same⟩
theorem pr_lose (h : Sh th ln le ce vs vl vc) (zs : Int32) : ∃ k, k < 4 ∧ ∃ (r th' : Int32) (vs' : Nat → Int32), f_X4_lose (th k) zs k = some (r, th') ∧ f_X5_lose vs zs = some (r, vs') ∧ Sh (up2 th k th') ln le ce vs' vl vc := by
  have e : ∀ {α : Type} (f : Nat → α) (k : Nat), up2 f k (f k) = f := by
    intro α f k
    funext j
    by_cases q : j = k
    · rw [q, up2_s]
    · rw [up2_n q]
  rcases shZ zs with ⟨e1, e2⟩ | ⟨k, hk, rfl, e1, e2⟩
  · refine ⟨0, by omega, ?_⟩
    rw [f_X4_lose, f_X5_lose, e1, e2]
    exact ⟨-1, _, _, rfl, rfl, by rw [e]; exact h⟩
  refine ⟨k, hk, ?_⟩
  rw [f_X4_lose, f_X5_lose, e1, e2, obind, obind, ie' n10, ie' n10]
  simp only [gx4 hk, gdi (kcl hk), kcl hk]
  obtain ⟨n, hn, en, q⟩ := h k hk
  have key : ∀ th', th' = 0 → Sh (up2 th k th') ln le ce (upd vs k (-9)) vl vc := by
    intro th' ht
    have := h.up (k := k) (th' := th') (ln' := ln k) (le' := le k) (ce' := ce k) (vs' := upd vs k (-9)) (vl' := vl) (vc' := vc) ⟨n, hn, en, Or.inl ⟨ht, pk_us⟩⟩ (fun j hj e => ⟨pk_un e, rfl, fun i hi => rfl⟩)
    rw [e, e, e] at this
    exact this
  rcases q with ⟨q1, q2⟩ | ⟨q1, ⟨a, ha, -, q2⟩, -, -⟩
  · rw [it' q1, it' q2]
    exact ⟨0, _, _, rfl, rfl, key _ q1⟩
  · rw [ie' (show ¬ th k = 0 by rw [q1]; decide), ie' (show ¬ vs k = -9 by rw [q2]; exact na9 ha)]
    exact ⟨1, _, _, rfl, rfl, key _ rfl⟩
theorem holdsZ {n : Nat} (hn : n ≤ 60) (zi zn : Int32) : (f_X1_holds (nI n) zi zn = some 0 ∧ ¬ ∃ i m, zi = nI i ∧ zn = nI m ∧ i + m ≤ n) ∨ ∃ i m, zi = nI i ∧ zn = nI m ∧ i + m ≤ n ∧ f_X1_holds (nI n) zi zn = some 1 := by
  rw [f_X1_holds]
  rcases Iz zi with g | ⟨i, hi, rfl⟩
  · exact Or.inl ⟨it' g, fun ⟨i, m, e, _, h⟩ => ngE g (by omega : i < 2 ^ 31) e⟩
  rw [ie' (nI_pos hi)]
  rcases Iz zn with g | ⟨m, hm, rfl⟩
  · exact Or.inl ⟨it' g, fun ⟨i, m, _, e, h⟩ => ngE g (by omega : m < 2 ^ 31) e⟩
  rw [ie' (nI_pos hm)]
  by_cases q : n < m
  · refine Or.inl ⟨it' (nI_lt q hm), fun ⟨i', m', e1, e2, h⟩ => ?_⟩
    have := (nI_eq hm (by omega)).mp e2
    omega
  rw [ie' (nI_nlt (by omega) (by omega)), nI_sub (by omega)]
  by_cases q2 : n - m < i
  · refine Or.inl ⟨it' (nI_lt q2 hi), fun ⟨i', m', e1, e2, h⟩ => ?_⟩
    have := (nI_eq hm (by omega)).mp e2
    have := (nI_eq hi (by omega)).mp e1
    omega
  · exact Or.inr ⟨i, m, rfl, rfl, by omega, ie' (nI_nlt (by omega) (by omega))⟩
theorem holds1 {n : Nat} (hn : n ≤ 60) (zi : Int32) : (f_X1_holds (nI n) zi 1 = some 0 ∧ f_X5_within zi 0 (nI n - 1) = some 0) ∨ ∃ i, i < n ∧ zi = nI i ∧ f_X1_holds (nI n) zi 1 = some 1 ∧ f_X5_within zi 0 (nI n - 1) = some 1 := by
  rcases holdsZ hn zi 1 with ⟨e, h⟩ | ⟨i, m, rfl, e2, h, e⟩
  · refine Or.inl ⟨e, ?_⟩
    rw [f_X5_within]
    rcases Iz zi with g | ⟨i, hi, rfl⟩
    · exact it' g
    · rw [ie' (nI_pos hi)]
      have hin : n ≤ i := by
        rcases Nat.lt_or_ge i n with z | z
        · exact absurd ⟨i, 1, rfl, rfl, z⟩ h
        · exact z
      rcases Nat.eq_zero_or_pos n with z | z
      · subst z
        rw [it' (show (nI 0 - 1 : Int32) < nI i from ngT (by decide) hi)]
      · rw [sub1N z, it' (nI_lt (by omega) hi)]
  · have hm : m = 1 := by
      rcases Nat.lt_or_ge m (2 ^ 31) with z | z
      · exact ((nI_eq (a := 1) (by omega) z).mp e2).symm
      · omega
    subst hm
    refine Or.inr ⟨i, by omega, rfl, e, ?_⟩
    rw [f_X5_within, ie' (nI_pos (by omega)), sub1N (by omega), ie' (nI_nlt (by omega) (by omega))]
theorem ixv {k i : Nat} (hk : k < 4) (hi : i < 60) {α : Type} (x : Option α) : gx ((60 : Int32) * nI k + nI i) 240 x = x := by
  rw [m60 k hk, nI_add]
  exact gxN (by omega) (by omega)
theorem ixc {k i : Nat} (hk : k < 4) (hi : i < 60) : ((60 : Int32) * nI k + nI i).toNatClampNeg = 60 * k + i := by
  rw [m60 k hk, nI_add]
  exact nI_clamp (by omega)
theorem Sh.cell (h : Sh th ln le ce vs vl vc) {k : Nat} (hk : k < 4) {x : Int32} {i : Nat} (hi : i < 60) : Sh th ln le (up2 ce k (upd (ce k) i x)) vs vl (upd vc (60 * k + i) x) := by
  have e : ∀ {α : Type} (f : Nat → α) (k : Nat), up2 f k (f k) = f := by
    intro α f k
    funext j
    by_cases q : j = k
    · rw [q, up2_s]
    · rw [up2_n q]
  obtain ⟨n, hn, en, q⟩ := h k hk
  have := h.up (k := k) (th' := th k) (ln' := ln k) (le' := le k) (ce' := upd (ce k) i x) (vs' := vs) (vl' := vl) (vc' := upd vc (60 * k + i) x) ⟨n, hn, en, ?_⟩ (fun j hj e => ⟨rfl, rfl, fun i' hi' => pk_un (by omega)⟩)
  · rw [e, e, e] at this
    exact this
  · rcases q with q | ⟨q1, q2, q3, q4⟩
    · exact Or.inl q
    · refine Or.inr ⟨q1, q2, q3, fun i' hi' => ?_⟩
      by_cases z : i' = i
      · rw [z, pk_us, pk_us]
      · rw [pk_un z, pk_un (by omega)]; exact q4 i' hi'
theorem pr_put (h : Sh th ln le ce vs vl vc) (zs zi zv : Int32) : ∃ k, k < 4 ∧ ∃ (r lf' : Int32) (ce' vc' : Nat → Int32), f_X4_put (th k) (ln k) (le k) (ce k) zs zi zv k = some (r, lf', ce') ∧ f_X5_put vs vl vc zs zi zv = some (r, lf', vc') ∧ Sh th ln le (up2 ce k ce') vs vl vc' := by
  have e : ∀ {α : Type} (f : Nat → α) (k : Nat), up2 f k (f k) = f := by
    intro α f k
    funext j
    by_cases q : j = k
    · rw [q, up2_s]
    · rw [up2_n q]
  rcases shZ zs with ⟨e1, e2⟩ | ⟨k, hk, rfl, e1, e2⟩
  · refine ⟨0, by omega, ?_⟩
    rw [f_X4_put, f_X5_put, e1, e2]
    exact ⟨-1, _, _, _, rfl, rfl, by rw [e]; exact h⟩
  refine ⟨k, hk, ?_⟩
  rw [f_X4_put, f_X5_put, e1, e2, obind, obind, ie' n10, ie' n10]
  simp only [gx4 hk, gdi (kcl hk), kcl hk]
  obtain ⟨n, hn, en, q⟩ := h k hk
  rcases q with ⟨q1, q2⟩ | ⟨q1, ⟨a, ha, q2, q3⟩, q4, q5⟩
  · rw [it' q1, it' q2]
    exact ⟨_, _, _, _, rfl, rfl, by rw [e]; exact h⟩
  rw [ie' (show ¬ th k = 0 by rw [q1]; decide), ie' (show ¬ vs k = -9 by rw [q3]; exact na9 ha), en, q4]
  rcases holds1 hn zi with ⟨g1, g2⟩ | ⟨i, hi, rfl, g1, g2⟩
  · rw [g1, g2]
    exact ⟨_, _, _, _, rfl, rfl, by rw [e]; exact h⟩
  rw [g1, g2, obind, obind, ie' n10, ie' n10, f_X1_keep, ie' (nI_pos (by omega)), ie' (nI_ge hi (by omega)), f_X1_cut, q2, q3]
  simp only [ixv hk (show i < 60 by omega), ixc hk (show i < 60 by omega)]
  have hc : (nI i).toNatClampNeg = i := nI_clamp (by omega)
  have hg : ∀ {α : Type} (x : Option α), gx (nI i) 60 x = x := fun x => gxN (by omega) (by omega)
  have a3 : a = 0 ∨ a = 1 ∨ a = 2 := by omega
  rcases a3 with rfl | rfl | rfl
  · rw [it' nI_0, it' nI_0, obind, hg, hc]
    exact ⟨_, _, _, _, rfl, rfl, Sh.cell h hk (by omega)⟩
  · rw [ie' (show ¬ nI 1 = 0 by decide), ie' (show ¬ nI 1 = 0 by decide), it' (show nI 1 = 1 from rfl), it' (show nI 1 = 1 from rfl), obind, hg, hc]
    exact ⟨_, _, _, _, rfl, rfl, Sh.cell h hk (by omega)⟩
  · rw [ie' (show ¬ nI 2 = 0 by decide), ie' (show ¬ nI 2 = 0 by decide), ie' (show ¬ nI 2 = 1 by decide), ie' (show ¬ nI 2 = 1 by decide), obind, hg, hc]
    exact ⟨_, _, _, _, rfl, rfl, Sh.cell h hk (by omega)⟩
theorem pr_cell (h : Sh th ln le ce vs vl vc) (zs zi zl : Int32) : ∃ k, k < 4 ∧ ∃ r, f_X4_cell (th k) (ln k) (le k) (ce k) zs zi zl k = some r ∧ f_X5_cell vs vl vc zs zi zl = some r := by
  rcases shZ zs with ⟨e1, e2⟩ | ⟨k, hk, rfl, e1, e2⟩
  · refine ⟨0, by omega, ?_⟩
    rw [f_X4_cell, f_X5_cell, e1, e2]
    exact ⟨_, rfl, rfl⟩
  refine ⟨k, hk, ?_⟩
  rw [f_X4_cell, f_X5_cell, e1, e2, obind, obind, ie' n10, ie' n10]
  rcases laZ zl with ⟨e3, e4⟩ | ⟨b, hb, rfl, e3, e4⟩
  · rw [e3, e4]
    exact ⟨_, rfl, rfl⟩
  rw [e3, e4, obind, obind, ie' n10, ie' n10, f_X5_cell_50]
  simp only [gx4 hk, gdi (kcl hk), kcl hk]
  obtain ⟨n, hn, en, q⟩ := h k hk
  rw [f_X1_isUnlike]
  rcases q with ⟨q1, q2⟩ | ⟨q1, ⟨a, ha, q2, q3⟩, q4, q5⟩
  · rw [it' q1, it' q2, it' q2, it' q1]
    exact ⟨_, rfl, rfl⟩
  have t0 : ¬ th k = 0 := by rw [q1]; decide
  have v9 : ¬ vs k = -9 := by rw [q3]; exact na9 ha
  rw [ie' t0, ie' v9, ie' v9, ie' t0, en, q4, q2, q3]
  by_cases z : nI a = nI b
  · rw [it' z, it' z, obind, it' z00]
    rcases holds1 hn zi with ⟨g1, g2⟩ | ⟨i, hi, rfl, g1, g2⟩
    · rw [g1, g2]
      exact ⟨_, rfl, rfl⟩
    rw [g1, g2, obind, obind, ie' n10, ie' n10, f_X1_at, ie' (nI_pos (by omega)), ie' (nI_ge hi (by omega)), gxN (by omega) (by omega), nI_clamp (by omega), ixv hk (by omega), ixc hk (by omega), q5 i (by omega)]
    exact ⟨_, rfl, rfl⟩
  · rw [ie' z, ie' z]
    exact ⟨_, rfl, rfl⟩
/-! a part of a sheet to another -/
theorem copyF {k j i q m : Nat} (hk : k < 4) (hj : j < 4) (hi : i + m ≤ 60) (hq : q + m ≤ 60) (hd : 60 * j + q ≤ 60 * k + i ∨ 60 * k + i + m ≤ 60 * j + q) : ∀ KK, ∀ (d n x : Nat) (qf : Int32) (vc v0 : Nat → Int32), x + d = m → d < n → (∀ p, vc p = if 60 * j + q ≤ p ∧ p < 60 * j + q + x then v0 (60 * k + i + (p - (60 * j + q))) else v0 p) → f_X5_copy_L166 (nI k) (nI i) (nI j) (nI q) (nI m) KK n 0 (nI x) qf vc = KK qf (va_cpy v0 v0 (60 * k + i) (60 * j + q) m) := by
  intro KK d
  induction d with
  | zero =>
    intro n x qf vc v0 hx hn hv
    obtain ⟨n, rfl⟩ : ∃ t, n = t + 1 := ⟨n - 1, by omega⟩
    obtain rfl : x = m := by omega
    rw [f_X5_copy_L166, it' (nI_le (Nat.le_refl x) (by omega))]
    congr 1
    funext p
    exact hv p
  | succ d ih =>
    intro n x qf vc v0 hx hn hv
    obtain ⟨n, rfl⟩ : ∃ t, n = t + 1 := ⟨n - 1, by omega⟩
    rw [f_X5_copy_L166, ie' (nI_ge (a := x) (b := m) (by omega) (by omega)), it' z00]
    rw [m60 k hk, m60 j hj, nI_add, nI_add, nI_add, nI_add, gxN (by omega) (by omega), gxN (by omega) (by omega), nI_clamp (by omega), nI_clamp (by omega), nI_1]
    refine ih n (x + 1) qf _ v0 (by omega) (by omega) (fun p => ?_)
    by_cases z : p = 60 * j + q + x
    · rw [z, pk_us, if_pos (by omega), hv, if_neg (by omega)]
      congr 1
      omega
    · rw [pk_un z, hv]
      by_cases z2 : 60 * j + q ≤ p ∧ p < 60 * j + q + x
      · rw [if_pos z2, if_pos (by omega)]
      · rw [if_neg z2, if_neg (by omega)]
theorem copyB {k j i q m : Nat} (hk : k < 4) (hj : j < 4) (hi : i + m ≤ 60) (hq : q + m ≤ 60) (hd : 60 * k + i ≤ 60 * j + q ∨ 60 * j + q + m ≤ 60 * k + i) : ∀ KK, ∀ (d n x : Nat) (qf : Int32) (vc v0 : Nat → Int32), x + d = m → d < n → (∀ p, vc p = if 60 * j + q + (m - x) ≤ p ∧ p < 60 * j + q + m then v0 (60 * k + i + (p - (60 * j + q))) else v0 p) → f_X5_copy_L166 (nI k) (nI i) (nI j) (nI q) (nI m) KK n 1 (nI x) qf vc = KK qf (va_cpy v0 v0 (60 * k + i) (60 * j + q) m) := by
  intro KK d
  induction d with
  | zero =>
    intro n x qf vc v0 hx hn hv
    obtain ⟨n, rfl⟩ : ∃ t, n = t + 1 := ⟨n - 1, by omega⟩
    obtain rfl : x = m := by omega
    rw [f_X5_copy_L166, it' (nI_le (Nat.le_refl x) (by omega))]
    congr 1
    funext p
    rw [hv p]
    unfold va_cpy
    rw [Nat.sub_self, Nat.add_zero]
  | succ d ih =>
    intro n x qf vc v0 hx hn hv
    obtain ⟨n, rfl⟩ : ∃ t, n = t + 1 := ⟨n - 1, by omega⟩
    rw [f_X5_copy_L166, ie' (nI_ge (a := x) (b := m) (by omega) (by omega)), ie' n10]
    rw [m60 k hk, m60 j hj, sub1N (by omega), nI_sub (by omega), nI_add, nI_add, nI_add, nI_add, gxN (by omega) (by omega), gxN (by omega) (by omega), nI_clamp (by omega), nI_clamp (by omega), nI_1]
    refine ih n (x + 1) qf _ v0 (by omega) (by omega) (fun p => ?_)
    by_cases z : p = 60 * j + q + (m - 1 - x)
    · rw [z, pk_us, if_pos (by omega), hv, if_neg (by omega)]
      congr 1
      omega
    · rw [pk_un z, hv]
      by_cases z2 : 60 * j + q + (m - x) ≤ p ∧ p < 60 * j + q + m
      · rw [if_pos z2, if_pos (by omega)]
      · rw [if_neg z2, if_neg (by omega)]
/-- the reference, behind the sorts -/
theorem copyM {k j nk nj : Nat} (hk : k < 4) (hj : j < 4) (hnk : nk ≤ 60) (hnj : nj ≤ 60) (ek : vl k = nI nk) (ej : vl j = nI nj) (a : Int32) (evk : vs k = a) (evj : vs j = a) (a9 : ¬ a = -9) (zi zq zn : Int32) : (f_X5_copy vs vl vc (nI k) zi (nI j) zq zn = some (-13, 3, vc) ∧ ((¬ ∃ i m, zi = nI i ∧ zn = nI m ∧ i + m ≤ nk) ∨ ¬ ∃ i m, zq = nI i ∧ zn = nI m ∧ i + m ≤ nj)) ∨ ∃ i q m, zi = nI i ∧ zq = nI q ∧ zn = nI m ∧ i + m ≤ nk ∧ q + m ≤ nj ∧ f_X5_copy vs vl vc (nI k) zi (nI j) zq zn = some (zn, 0, va_cpy vc vc (60 * k + i) (60 * j + q) m) := by
  have s1 : f_X5_isSheet (nI k) = some 1 := by
    rcases shZ (nI k) with ⟨_, e⟩ | ⟨_, _, _, _, e⟩
    · exact absurd e ((show ∀ k, k < 4 → ¬ f_X5_isSheet (nI k) = some 0 by decide +kernel) k hk)
    · exact e
  have s2 : f_X5_isSheet (nI j) = some 1 := by
    rcases shZ (nI j) with ⟨_, e⟩ | ⟨_, _, _, _, e⟩
    · exact absurd e ((show ∀ k, k < 4 → ¬ f_X5_isSheet (nI k) = some 0 by decide +kernel) j hj)
    · exact e
  have f9 : ∀ qf, f_X5_copy_109 vl (nI k) zi (nI j) zq zn qf vc = some (-13, 3, vc) := by
    intro qf
    rw [f_X5_copy_109, f_X5_copy_110, it' z00]
    rfl
  rw [f_X5_copy, s1, s2, obind, obind, ie' n10, ie' n10]
  simp only [gx4 hk, gx4 hj, kcl hk, kcl hj, evk, evj]
  rw [ie' a9, ie' a9, it' trivial]
  simp only [f9]
  rcases Iz zi with g | ⟨i, hi, rfl⟩
  · exact Or.inl ⟨it' g, Or.inl (fun ⟨i, m, e, _, h⟩ => ngE g (by omega : i < 2 ^ 31) e)⟩
  rw [ie' (nI_pos hi)]
  rcases Iz zq with g | ⟨q, hq, rfl⟩
  · exact Or.inl ⟨it' g, Or.inr (fun ⟨i, m, e, _, h⟩ => ngE g (by omega : i < 2 ^ 31) e)⟩
  rw [ie' (nI_pos hq)]
  rcases Iz zn with g | ⟨m, hm, rfl⟩
  · exact Or.inl ⟨it' g, Or.inl (fun ⟨i, m, _, e, h⟩ => ngE g (by omega : m < 2 ^ 31) e)⟩
  have nok : nk < i + m → ¬ ∃ i' m', nI i = nI i' ∧ nI m = nI m' ∧ i' + m' ≤ nk := by
    rintro z ⟨i', m', e1, e2, h⟩
    have := (nI_eq hi (by omega)).mp e1
    have := (nI_eq hm (by omega)).mp e2
    omega
  have noj : nj < q + m → ¬ ∃ i' m', nI q = nI i' ∧ nI m = nI m' ∧ i' + m' ≤ nj := by
    rintro z ⟨i', m', e1, e2, h⟩
    have := (nI_eq hq (by omega)).mp e1
    have := (nI_eq hm (by omega)).mp e2
    omega
  rw [ie' (nI_pos hm), ek, ej, f_X5_copy_110, ie' n10, kcl hk, kcl hj, gx4 hk, gx4 hj, ek, ej]
  by_cases c1 : nk < i
  · exact Or.inl ⟨it' (nI_lt c1 hi), Or.inl (nok (by omega))⟩
  rw [ie' (nI_nlt (by omega) (by omega))]
  by_cases c2 : nj < q
  · exact Or.inl ⟨it' (nI_lt c2 hq), Or.inr (noj (by omega))⟩
  rw [ie' (nI_nlt (by omega) (by omega)), nI_sub (by omega), nI_sub (by omega)]
  by_cases c3 : nk - i < m
  · exact Or.inl ⟨it' (nI_lt c3 hm), Or.inl (nok (by omega))⟩
  rw [ie' (nI_nlt (by omega) (by omega))]
  by_cases c4 : nj - q < m
  · exact Or.inl ⟨ie' (nI_ge c4 hm), Or.inr (noj (by omega))⟩
  rw [it' (nI_le (by omega) (by omega))]
  refine Or.inr ⟨i, q, m, rfl, rfl, rfl, by omega, by omega, ?_⟩
  by_cases c5 : q ≤ i
  · rw [it' (nI_le c5 hi), f_X5_copy_161]
    by_cases c6 : k < j
    · exact copyF (i := i) (q := q) (m := m) hk hj (by omega) (by omega) (by omega) _ m 100 0 0 vc vc (by omega) (by omega) (fun p => by rw [if_neg (by omega)])
    · exact copyF (i := i) (q := q) (m := m) hk hj (by omega) (by omega) (by omega) _ m 100 0 0 vc vc (by omega) (by omega) (fun p => by rw [if_neg (by omega)])
  · rw [ie' (nI_ge (by omega) (by omega)), f_X5_copy_161]
    by_cases c6 : j < k
    · exact copyB (i := i) (q := q) (m := m) hk hj (by omega) (by omega) (by omega) _ m 100 0 0 vc vc (by omega) (by omega) (fun p => by rw [if_neg (by omega)])
    · exact copyB (i := i) (q := q) (m := m) hk hj (by omega) (by omega) (by omega) _ m 100 0 0 vc vc (by omega) (by omega) (fun p => by rw [if_neg (by omega)])
theorem Sh.cpy (h : Sh th ln le ce vs vl vc) {k j i q m nk nj : Nat} (hk : k < 4) (hj : j < 4) (hi : i + m ≤ 60) (hq : q + m ≤ 60) (hck : ∀ p, p < 60 → ce k p = vc (60 * k + p)) : Sh th ln le (up2 ce j (va_cpy (ce k) (ce j) i q m)) vs vl (va_cpy vc vc (60 * k + i) (60 * j + q) m) := by
  have e : ∀ {α : Type} (f : Nat → α) (k : Nat), up2 f k (f k) = f := by
    intro α f k
    funext j
    by_cases q : j = k
    · rw [q, up2_s]
    · rw [up2_n q]
  obtain ⟨n, hn, en, w⟩ := h j hj
  have := h.up (k := j) (th' := th j) (ln' := ln j) (le' := le j) (ce' := va_cpy (ce k) (ce j) i q m) (vs' := vs) (vl' := vl) (vc' := va_cpy vc vc (60 * k + i) (60 * j + q) m) ⟨n, hn, en, ?_⟩ (fun j' hj' e => ⟨rfl, rfl, fun i' hi' => if_neg (by omega)⟩)
  · rw [e, e, e] at this
    exact this
  · rcases w with w | ⟨q1, q2, q3, q4⟩
    · exact Or.inl w
    · refine Or.inr ⟨q1, q2, q3, fun p hp => ?_⟩
      unfold va_cpy
      by_cases z : q ≤ p ∧ p < q + m
      · rw [if_pos z, if_pos (by omega), hck _ (by omega)]
        congr 1
        omega
      · rw [if_neg z, if_neg (by omega)]; exact q4 p hp
theorem pr_copy (h : Sh th ln le ce vs vl vc) (zs zi zt zq zn : Int32) : ∃ k j, k < 4 ∧ j < 4 ∧ ∃ (r lf' : Int32) (ce' vc' : Nat → Int32), (k ≠ j → f_X4_copyD (th k) (ln k) (le k) (th j) (ln j) (le j) (ce k) (ce j) zs zi zt zq zn k j = some (r, lf', ce')) ∧ (k = j → f_X4_copyS (th k) (ln k) (le k) (ce k) zs zi zt zq zn k = some (r, lf', ce')) ∧ f_X5_copy vs vl vc zs zi zt zq zn = some (r, lf', vc') ∧ Sh th ln le (up2 ce j ce') vs vl vc' := by
  have e : ∀ {α : Type} (f : Nat → α) (k : Nat), up2 f k (f k) = f := by
    intro α f k
    funext j
    by_cases q : j = k
    · rw [q, up2_s]
    · rw [up2_n q]
  rcases shZ zs with ⟨e1, e2⟩ | ⟨k, hk, rfl, e1, e2⟩
  · refine ⟨0, 1, by omega, by omega, -1, 0, ce 1, vc, fun _ => ?_, fun z => absurd z (by decide), ?_, by rw [e]; exact h⟩
    · rw [f_X4_copyD, e1]; rfl
    · rw [f_X5_copy, e2]; rfl
  rcases shZ zt with ⟨e3, e4⟩ | ⟨j, hj, rfl, e3, e4⟩
  · refine ⟨0, 1, by omega, by omega, -1, 0, ce 1, vc, fun _ => ?_, fun z => absurd z (by decide), ?_, by rw [e]; exact h⟩
    · rw [f_X4_copyD, e1, obind, ie' n10, e3]; rfl
    · rw [f_X5_copy, e2, obind, ie' n10, e4]; rfl
  refine ⟨k, j, hk, hj, ?_⟩
  -- the class, both ways alike
  have key : ∀ (r lf' : Int32) (ce' : Nat → Int32), (if th k = 0 then (f_X4_failed 1).bind (fun o => some (o.1, o.2, ce j)) else if th j = 0 then (f_X4_failed 1).bind (fun o => some (o.1, o.2, ce j)) else (f_X1_isUnlike (th j) (ln j) (ln k)).bind (fun o15 => if o15 = 0 then ((f_X1_holds (le k) zi zn).bind (fun o18 => if o18 = 0 then ((f_X4_failed (3 : Int32)).bind (fun o21 => some (o21.1, o21.2, ce j))) else ((f_X1_holds (le j) zq zn).bind (fun o23 => if o23 = 0 then ((f_X4_failed (3 : Int32)).bind (fun o30 => some (o30.1, o30.2, ce j))) else (gd (¬ zi < 0 ∧ ¬ zq < 0 ∧ ¬ zn < 0 ∧ zi.toNatClampNeg + zn.toNatClampNeg ≤ 60 ∧ zq.toNatClampNeg + zn.toNatClampNeg ≤ 60) (some (zn, (0 : Int32), (va_cpy (ce k) (ce j) zi.toNatClampNeg zq.toNatClampNeg zn.toNatClampNeg)))))))) else ((f_X4_failed (2 : Int32)).bind (fun o32 => some (o32.1, o32.2, ce j))))) = some (r, lf', ce') → (k ≠ j → f_X4_copyD (th k) (ln k) (le k) (th j) (ln j) (le j) (ce k) (ce j) (nI k) zi (nI j) zq zn k j = some (r, lf', ce')) ∧ (k = j → f_X4_copyS (th k) (ln k) (le k) (ce k) (nI k) zi (nI j) zq zn k = some (r, lf', ce')) := by
    intro r lf' ce' hh
    constructor
    · intro _
      rw [f_X4_copyD, e1, e3, obind, obind, ie' n10, ie' n10, gx4 hk, gx4 hj, gdi (kcl hk), gdi (kcl hj)]
      exact hh
    · intro z
      subst z
      rw [f_X4_copyS, e1, obind, ie' n10, obind, ie' n10, gx4 hk, gdi (kcl hk), gx4 hk, gdi (kcl hk)]
      exact hh
  obtain ⟨nk, hnk, enk, qk⟩ := h k hk
  obtain ⟨nj, hnj, enj, qj⟩ := h j hj
  have m9 : ∀ w, vs w = -9 → ∀ {α : Type} (x y : Option α), (if vs w = -9 then x else y) = x := fun w hw α x y => if_pos hw
  rcases qk with ⟨k1, k2⟩ | ⟨k1, ⟨a, ha, k2, k3⟩, k4, k5⟩
  · obtain ⟨g1, g2⟩ := key (-11) 1 (ce j) (by rw [it' k1]; rfl)
    refine ⟨-11, 1, ce j, vc, g1, g2, ?_, by rw [e]; exact h⟩
    rw [f_X5_copy, e2, e4, obind, obind, ie' n10, ie' n10, gx4 hk, kcl hk, it' k2]
    rfl
  have t0 : ¬ th k = 0 := by rw [k1]; decide
  have v9 : ¬ vs k = -9 := by rw [k3]; exact na9 ha
  rcases qj with ⟨j1, j2⟩ | ⟨j1, ⟨b, hb, j2, j3⟩, j4, j5⟩
  · obtain ⟨g1, g2⟩ := key (-11) 1 (ce j) (by rw [ie' t0, it' j1]; rfl)
    refine ⟨-11, 1, ce j, vc, g1, g2, ?_, by rw [e]; exact h⟩
    rw [f_X5_copy, e2, e4, obind, obind, ie' n10, ie' n10, gx4 hk, kcl hk, ie' v9, gx4 hj, kcl hj, it' j2]
    rfl
  have t1 : ¬ th j = 0 := by rw [j1]; decide
  have w9 : ¬ vs j = -9 := by rw [j3]; exact na9 hb
  by_cases z : b = a
  · subst z
    have pre : ∀ R : Option (Int32 × Int32 × (Nat → Int32)), ((f_X1_holds (le k) zi zn).bind (fun o18 => if o18 = 0 then ((f_X4_failed (3 : Int32)).bind (fun o21 => some (o21.1, o21.2, ce j))) else ((f_X1_holds (le j) zq zn).bind (fun o23 => if o23 = 0 then ((f_X4_failed (3 : Int32)).bind (fun o30 => some (o30.1, o30.2, ce j))) else (gd (¬ zi < 0 ∧ ¬ zq < 0 ∧ ¬ zn < 0 ∧ zi.toNatClampNeg + zn.toNatClampNeg ≤ 60 ∧ zq.toNatClampNeg + zn.toNatClampNeg ≤ 60) (some (zn, (0 : Int32), (va_cpy (ce k) (ce j) zi.toNatClampNeg zq.toNatClampNeg zn.toNatClampNeg)))))))) = R → (if th k = 0 then (f_X4_failed 1).bind (fun o => some (o.1, o.2, ce j)) else if th j = 0 then (f_X4_failed 1).bind (fun o => some (o.1, o.2, ce j)) else (f_X1_isUnlike (th j) (ln j) (ln k)).bind (fun o15 => if o15 = 0 then ((f_X1_holds (le k) zi zn).bind (fun o18 => if o18 = 0 then ((f_X4_failed (3 : Int32)).bind (fun o21 => some (o21.1, o21.2, ce j))) else ((f_X1_holds (le j) zq zn).bind (fun o23 => if o23 = 0 then ((f_X4_failed (3 : Int32)).bind (fun o30 => some (o30.1, o30.2, ce j))) else (gd (¬ zi < 0 ∧ ¬ zq < 0 ∧ ¬ zn < 0 ∧ zi.toNatClampNeg + zn.toNatClampNeg ≤ 60 ∧ zq.toNatClampNeg + zn.toNatClampNeg ≤ 60) (some (zn, (0 : Int32), (va_cpy (ce k) (ce j) zi.toNatClampNeg zq.toNatClampNeg zn.toNatClampNeg)))))))) else ((f_X4_failed (2 : Int32)).bind (fun o32 => some (o32.1, o32.2, ce j))))) = R := by
      intro R hR
      rw [ie' t0, ie' t1, f_X1_isUnlike, ie' t1, j2, k2, it' rfl, obind, it' z00]
      exact hR
    rcases copyM (vc := vc) hk hj hnk hnj k4 j4 (nI b) k3 j3 (na9 hb) zi zq zn with ⟨em, hno⟩ | ⟨i, q, m, rfl, rfl, rfl, hi, hq, em⟩
    · obtain ⟨g1, g2⟩ := key (-13) 3 (ce j) (pre _ (by
        rw [enk, enj]
        rcases holdsZ hnk zi zn with ⟨x1, -⟩ | ⟨i, m, x2, x3, x4, x1⟩
        · rw [x1]; rfl
        · rcases holdsZ hnj zq zn with ⟨y1, -⟩ | ⟨i', m', y2, y3, y4, y1⟩
          · rw [x1, obind, ie' n10, y1]; rfl
          · rcases hno with hno | hno
            · exact absurd ⟨i, m, x2, x3, x4⟩ hno
            · exact absurd ⟨i', m', y2, y3, y4⟩ hno))
      exact ⟨-13, 3, ce j, vc, g1, g2, em, by rw [e]; exact h⟩
    · obtain ⟨g1, g2⟩ := key (nI m) 0 (va_cpy (ce k) (ce j) i q m) (pre _ (by
        rw [enk, enj]
        rcases holdsZ hnk (nI i) (nI m) with ⟨x1, x⟩ | ⟨i', m', x2, x3, x4, x1⟩
        · exact absurd ⟨i, m, rfl, rfl, hi⟩ x
        · rcases holdsZ hnj (nI q) (nI m) with ⟨y1, y⟩ | ⟨q', m2, y2, y3, y4, y1⟩
          · exact absurd ⟨q, m, rfl, rfl, hq⟩ y
          · rw [x1, obind, ie' n10, y1, obind, ie' n10, nI_clamp (by omega), nI_clamp (by omega), nI_clamp (by omega), gdi ⟨nI_pos (by omega), nI_pos (by omega), nI_pos (by omega), by omega, by omega⟩]))
      exact ⟨nI m, 0, _, _, g1, g2, em, h.cpy (nk := nk) (nj := nj) hk hj (by omega) (by omega) k5⟩
  · have nz : ¬ nI b = nI a := fun q => z ((nI_eq (by omega) (by omega)).mp q)
    obtain ⟨g1, g2⟩ := key (-12) 2 (ce j) (by rw [ie' t0, ie' t1, f_X1_isUnlike, ie' t1, j2, k2, ie' nz, obind, ie' n10]; rfl)
    refine ⟨-12, 2, ce j, vc, g1, g2, ?_, by rw [e]; exact h⟩
    rw [f_X5_copy, e2, e4, obind, obind, ie' n10, ie' n10]
    simp only [gx4 hk, gx4 hj, kcl hk, kcl hj]
    rw [ie' v9, ie' w9, k3, j3, ie' (fun q => nz q.symm)]
    rfl
end Sh
