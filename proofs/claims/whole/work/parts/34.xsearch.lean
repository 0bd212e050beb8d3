/-! the class's search: its rows, over numbers of our own -/
def plN (x : P4) : Nat := ((x.1 * 7 + x.2.1) * 4 + x.2.2.1) * 3 + x.2.2.2
theorem plN_lt {c : Nat} {x : P4} (hc : c ≤ 10) (hx : okP c x) (hf : x.1 < c) : plN x < 840 := by
  obtain ⟨h1, h2, h3, h4⟩ := hx
  unfold plN
  omega
theorem plN_inj {c : Nat} {x y : P4} (hx : okP c x) (hy : okP c y) (h : plN x = plN y) : x = y := by
  obtain ⟨a, b, d, e⟩ := x
  obtain ⟨a', b', d', e'⟩ := y
  obtain ⟨h1, h2, h3, h4⟩ := hx
  obtain ⟨g1, g2, g3, g4⟩ := hy
  unfold plN at h
  dsimp only at *
  have e2 : a = a' := by omega
  have e3 : b = b' := by omega
  have e4 : d = d' := by omega
  have e5 : e = e' := by omega
  subst e2 e3 e4 e5
  rfl
/-- the four rows hold these numbers -/
def AR4 (fw wt wp wc : Nat → Int32) (F : Nat → Nat) (P L : Nat → Nat → Nat) (C : Nat → Nat) : Prop :=
  (∀ p, p < 840 → fw p = nI (F p) ∧ F p ≤ 1000) ∧ (∀ o p, o < 4 → p < 840 → wp (o * 840 + p) = nI (P o p) ∧ P o p ≤ 1000) ∧ (∀ o, o < 4 → wc o = nI (C o) ∧ C o ≤ 840) ∧ ∀ o k, o < 4 → k < C o → wt (o * 840 + k) = nI (L o k) ∧ L o k < 840
/-- each slot's list has its places once; those from lo on are they that wait -/
def LSx (lo : Nat → Nat) (P L : Nat → Nat → Nat) (C : Nat → Nat) : Prop := ∀ o, o < 4 → (∀ k k', k < k' → k' < C o → L o k ≠ L o k') ∧ ∀ p, p < 840 → (P o p ≠ 1000 ↔ ∃ k, lo o ≤ k ∧ k < C o ∧ L o k = p)
theorem holes : ∀ (m n : Nat) (f : Nat → Nat), (∀ i, i < n → f i < m) → (∀ i j, i < j → j < n → f i ≠ f j) → n ≤ m
  | 0, n, f, h, _ => by
    rcases Nat.eq_zero_or_pos n with q | q
    · omega
    · exact absurd (h 0 q) (Nat.not_lt_zero _)
  | m + 1, n, f, h, hd => by
    rcases Nat.eq_zero_or_pos n with q | q
    · omega
    by_cases hm : ∃ i, i < n ∧ f i = m
    · obtain ⟨i, hi, e⟩ := hm
      have := holes m (n - 1) (fun j => if j < i then f j else f (j + 1)) (fun j hj => by
        by_cases c : j < i
        · rw [if_pos c]
          have h1 := h j (by omega)
          have h2 := hd j i c hi
          omega
        · rw [if_neg c]
          have h1 := h (j + 1) (by omega)
          have h2 := hd i (j + 1) (by omega) (by omega)
          omega) (fun a b hab hb => by
        by_cases c1 : a < i
        · rw [if_pos c1]
          by_cases c2 : b < i
          · rw [if_pos c2]; exact hd a b hab (by omega)
          · rw [if_neg c2]; exact hd a (b + 1) (by omega) (by omega)
        · rw [if_neg c1, if_neg (by omega)]; exact hd (a + 1) (b + 1) (by omega) (by omega))
      omega
    · have := holes m n f (fun i hi => by
        have h1 := h i hi
        have h2 : f i ≠ m := fun q => hm ⟨i, hi, q⟩
        omega) hd
      omega
def upP (P : Nat → Nat → Nat) (o p v : Nat) : Nat → Nat → Nat := fun o' p' => if o' = o ∧ p' = p then v else P o' p'
theorem upP_s {P : Nat → Nat → Nat} {o p v : Nat} : upP P o p v o p = v := if_pos ⟨rfl, rfl⟩
theorem upP_n {P : Nat → Nat → Nat} {o p v o' p' : Nat} (h : ¬ (o' = o ∧ p' = p)) : upP P o p v o' p' = P o' p' := if_neg h
def upC (C : Nat → Nat) (o v : Nat) : Nat → Nat := fun o' => if o' = o then v else C o'
theorem mul840 (o : Nat) : nI o * (840 : Int32) = nI (o * 840) := pk_mul o 840
section OF
variable {fw wt wp wc : Nat → Int32} {F : Nat → Nat} {P L : Nat → Nat → Nat} {C lo : Nat → Nat}
/-- the list of a slot has room for a place that doesn't wait in it -/
theorem LSx.room (h : LSx lo P L C) (hA : AR4 fw wt wp wc F P L C) {o p : Nat} (ho : o < 4) (hp : p < 840) (hlo : lo o = 0) (h1 : P o p = 1000) : C o < 840 := by
  obtain ⟨hd, hi⟩ := h o ho
  have hn : ∀ k, k < C o → L o k ≠ p := fun k hk e => absurd h1 ((hi p hp).mpr ⟨k, by omega, hk, e⟩)
  have := holes 840 (C o + 1) (fun k => if k = C o then p else L o k) (fun k hk => by
    by_cases c : k = C o
    · rw [if_pos c]; exact hp
    · rw [if_neg c]; exact (hA.2.2.2 o k ho (by omega)).2) (fun a b hab hb => by
    rw [if_neg (by omega)]
    by_cases c : b = C o
    · rw [if_pos c]; exact hn a (by omega)
    · rw [if_neg c]; exact hd a b hab (by omega))
  omega
theorem wp_up (hA : AR4 fw wt wp wc F P L C) {o p v : Nat} (ho : o < 4) (hp : p < 840) (hv : v ≤ 1000) : AR4 fw wt (upd wp (o * 840 + p) (nI v)) wc F (upP P o p v) L C := by
  refine ⟨hA.1, fun o' p' ho' hp' => ?_, hA.2.2.1, hA.2.2.2⟩
  by_cases q : o' = o ∧ p' = p
  · obtain ⟨rfl, rfl⟩ := q
    rw [pk_us, upP_s]
    exact ⟨rfl, hv⟩
  · rw [pk_un (by omega), upP_n q]
    exact hA.2.1 o' p' ho' hp'
theorem LSx.keep (h : LSx lo P L C) {o p v : Nat} (h1 : P o p ≠ 1000) (hv : v ≠ 1000) : LSx lo (upP P o p v) L C := by
  intro o' ho'
  obtain ⟨hd, hi⟩ := h o' ho'
  refine ⟨hd, fun p' hp' => ?_⟩
  by_cases q : o' = o ∧ p' = p
  · obtain ⟨rfl, rfl⟩ := q
    rw [upP_s]
    exact ⟨fun _ => (hi p' hp').mp h1, fun _ => hv⟩
  · rw [upP_n q]
    exact hi p' hp'
theorem LSx.add (h : LSx lo P L C) {o p v : Nat} (hlo : lo o = 0) (h1 : P o p = 1000) (hv : v ≠ 1000) (hp : p < 840) : LSx lo (upP P o p v) (upP L o (C o) p) (upC C o (C o + 1)) := by
  intro o' ho'
  obtain ⟨hd, hi⟩ := h o' ho'
  by_cases qo : o' = o
  · subst qo
    have hC : upC C o' (C o' + 1) o' = C o' + 1 := if_pos rfl
    have hn : ∀ k, k < C o' → L o' k ≠ p := fun k hk e => absurd h1 ((hi p hp).mpr ⟨k, by omega, hk, e⟩)
    have hL : ∀ k, k < C o' → upP L o' (C o') p o' k = L o' k := fun k hk => upP_n (fun z => by omega)
    rw [hC]
    refine ⟨fun k k' hk hk' => ?_, fun p' hp' => ?_⟩
    · rw [hL k (by omega)]
      by_cases c : k' = C o'
      · rw [c, upP_s]; exact hn k (by omega)
      · rw [hL k' (by omega)]; exact hd k k' hk (by omega)
    · by_cases q : p' = p
      · subst q
        rw [upP_s]
        exact ⟨fun _ => ⟨C o', by omega, by omega, upP_s⟩, fun _ => hv⟩
      · rw [upP_n (fun z => q z.2), hi p' hp']
        constructor
        · rintro ⟨k, a1, a2, a3⟩
          exact ⟨k, a1, by omega, by rw [hL k a2]; exact a3⟩
        · rintro ⟨k, a1, a2, a3⟩
          by_cases c : k = C o'
          · rw [c, upP_s] at a3; exact absurd a3.symm q
          · rw [hL k (by omega)] at a3
            exact ⟨k, a1, by omega, a3⟩
  · have hC : upC C o (C o + 1) o' = C o' := if_neg qo
    have hL : ∀ k, upP L o (C o) p o' k = L o' k := fun k => upP_n (fun z => qo z.1)
    rw [hC]
    refine ⟨fun k k' hk hk' => by rw [hL, hL]; exact hd k k' hk hk', fun p' hp' => ?_⟩
    rw [upP_n (fun z => qo z.1), hi p' hp']
    simp only [hL]
theorem AR4.add (hA : AR4 fw wt wp wc F P L C) {o p : Nat} (ho : o < 4) (hp : p < 840) (hC : C o < 840) : AR4 fw (upd wt (o * 840 + C o) (nI p)) wp (upd wc o (nI (C o) + 1)) F P (upP L o (C o) p) (upC C o (C o + 1)) := by
  refine ⟨hA.1, hA.2.1, fun o' ho' => ?_, fun o' k ho' hk => ?_⟩
  · by_cases q : o' = o
    · subst q
      rw [pk_us, show upC C o' (C o' + 1) o' = C o' + 1 from if_pos rfl, nI_1]
      exact ⟨rfl, by omega⟩
    · rw [pk_un q, show upC C o (C o + 1) o' = C o' from if_neg q]
      exact hA.2.2.1 o' ho'
  · by_cases q : o' = o
    · subst q
      rw [show upC C o' (C o' + 1) o' = C o' + 1 from if_pos rfl] at hk
      by_cases c : k = C o'
      · subst c
        rw [pk_us, upP_s]
        exact ⟨rfl, hp⟩
      · rw [pk_un (by omega), upP_n (fun z => c z.2)]
        exact hA.2.2.2 o' k ho' (by omega)
    · rw [show upC C o (C o + 1) o' = C o' from if_neg q] at hk
      have hb := (hA.2.2.1 o' ho').2
      rw [pk_un (by omega), upP_n (fun z => q z.1)]
      exact hA.2.2.2 o' k ho' hk
/-- the end of an offer: the pushes are written down -/
theorem off192 (hA : AR4 fw wt wp wc F P L C) {o p v : Nat} (ho : o < 4) (hp : p < 840) (hv : v ≤ 1000) (li be : Int32) : f_X2_offerRider_192 (nI v) (nI (o * 840 + p)) li be wt wp wc = some (li, be, wt, upd wp (o * 840 + p) (nI (if v < P o p then v else P o p)), wc) := by
  obtain ⟨e, hb⟩ := hA.2.1 o p ho hp
  rw [f_X2_offerRider_192, gxN (by omega) (by omega), gxN (by omega) (by omega), nI_clamp (by omega), e]
  congr 5
  by_cases c : v < P o p
  · rw [if_pos c, if_pos (nI_lt c (by omega))]
  · rw [if_neg c, if_neg (nI_nlt (by omega) (by omega))]
/-- an offer at a place, of v pushes, into a slot -/
theorem off18 {c : Nat} {x : P4} (hc : c ≤ 10) (hx : okP c x) (hf : x.1 < c) (hA : AR4 fw wt wp wc F P L C) (hL : LSx lo P L C) {t l v : Nat} (ht : t ≤ 100) (hl : l ≤ 24) (htl : t < l) (hlo : lo (t % 4) = 0) (hv : v < 1000) (cp be : Int32) : ∃ (wt' wp' wc' : Nat → Int32) (P' L' : Nat → Nat → Nat) (C' : Nat → Nat), f_X2_offerRider_18 cp (nI x.1) (nI x.2.1) (nI x.2.2.1) (nI x.2.2.2) (nI t) (nI c) fw (nI v) (nI l) be wt wp wc = some (nI l, be, wt', wp', wc') ∧ AR4 fw wt' wp' wc' F P' L' C' ∧ LSx lo P' L' C' ∧ (∀ o k, o ≠ t % 4 → L' o k = L o k) ∧ (∀ o, o ≠ t % 4 → C' o = C o) ∧ P' = (if v < F (plN x) then upP P (t % 4) (plN x) (if v < P (t % 4) (plN x) then v else P (t % 4) (plN x)) else P) := by
  have hp := plN_lt hc hx hf
  have hx1 := hx.1
  have ho : t % 4 < 4 := by omega
  have epl : (((((nI x.1 * (7 : Int32)) + nI x.2.1) * (4 : Int32)) + nI x.2.2.1) * (3 : Int32)) + nI x.2.2.2 = nI (plN x) := by
    show ((((((nI x.1 * nI 7) + nI x.2.1) * nI 4) + nI x.2.2.1) * nI 3) + nI x.2.2.2) = _
    simp only [pk_mul, nI_add]
    rfl
  have esl : nI t - nI t / (4 : Int32) * (4 : Int32) = nI (t % 4) := pk_rem (a := t) (d := 4) (by omega) (by omega) (by omega)
  have eat : nI (t % 4) * (840 : Int32) + nI (plN x) = nI (t % 4 * 840 + plN x) := by rw [mul840, nI_add]
  obtain ⟨eF, bF⟩ := hA.1 (plN x) hp
  obtain ⟨eP, bP⟩ := hA.2.1 (t % 4) (plN x) ho hp
  obtain ⟨eC, bC⟩ := hA.2.2.1 (t % 4) ho
  have c1 : (nI (plN x)).toNatClampNeg = plN x := nI_clamp (by omega)
  have c2 : (nI (t % 4 * 840 + plN x)).toNatClampNeg = t % 4 * 840 + plN x := nI_clamp (by omega)
  have c3 : (nI (t % 4)).toNatClampNeg = t % 4 := nI_clamp (by omega)
  rw [f_X2_offerRider_18, hasN (by omega) (by omega), obind, if_pos hf, ie' (by decide), ie' (nI_ge htl (by omega)), epl, esl, eat, ie' (nI_pos (by omega)), ie' (show ¬ (840 : Int32) ≤ nI (plN x) from nI_ge (b := 840) hp (by omega)), gxN (by omega) (by omega), c1, eF]
  by_cases h1 : v < F (plN x)
  · rw [it' (nI_lt h1 (by omega)), gxN (by omega) (by omega), c2, eP, c3, eC, if_pos h1]
    by_cases h2 : P (t % 4) (plN x) = 1000
    · have hC := hL.room hA ho hp hlo h2
      have c4 : (nI (t % 4) * (840 : Int32) + nI (C (t % 4))).toNatClampNeg = t % 4 * 840 + C (t % 4) := by rw [mul840, nI_add, nI_clamp (by omega)]
      rw [it' (by rw [h2]; rfl), gxN (by omega) (by omega), ie' (show ¬ (840 : Int32) ≤ nI (C (t % 4)) from nI_ge (b := 840) hC (by omega))]
      simp only [gxN ho (by omega : 4 < 2 ^ 31)]
      rw [c4, show nI (t % 4) * (840 : Int32) + nI (C (t % 4)) = nI (t % 4 * 840 + C (t % 4)) by rw [mul840, nI_add], gxN (by omega) (by omega)]
      have hA2 := hA.add ho hp hC
      rw [off192 hA2 ho hp (by omega)]
      refine ⟨_, _, _, _, _, _, rfl, wp_up hA2 ho hp (by split <;> omega), hL.add hlo h2 (by rw [h2, if_pos (by omega)]; omega) hp, fun o k hne => upP_n (fun z => hne z.1), fun o hne => if_neg hne, rfl⟩
    · rw [ie' (show ¬ nI (P (t % 4) (plN x)) = 1000 from fun q => h2 ((nI_eq (b := 1000) (by omega) (by omega)).mp q)), off192 hA ho hp (by omega)]
      refine ⟨_, _, _, _, L, C, rfl, wp_up hA ho hp (by split <;> omega), hL.keep h2 (by split <;> omega), fun _ _ _ => rfl, fun _ _ => rfl, rfl⟩
  · rw [ie' (nI_nlt (by omega) (by omega)), if_neg h1]
    exact ⟨wt, wp, wc, P, L, C, rfl, hA, hL, fun _ _ _ => rfl, fun _ _ => rfl, rfl⟩
end OF
