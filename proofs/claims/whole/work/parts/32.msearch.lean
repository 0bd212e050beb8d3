/-! the reference's search -/
def spN (t : Nat) (x : P4) : Nat := (((t * 10 + x.1) * 7 + x.2.1) * 4 + x.2.2.1) * 3 + x.2.2.2
theorem spotM (t : Nat) (x : P4) : f_X5_spot (nI t) (nI x.1) (nI x.2.1) (nI x.2.2.1) (nI x.2.2.2) = some (nI (spN t x)) := by
  rw [f_X5_spot]
  show some ((((((((nI t * nI 10) + nI x.1) * nI 7) + nI x.2.1) * nI 4) + nI x.2.2.1) * nI 3) + nI x.2.2.2) = _
  simp only [pk_mul, nI_add]
  rfl
theorem spN_lt {c t : Nat} {x : P4} (hc : c ≤ 10) (hx : okP c x) (hf : x.1 < c) : spN t x < 840 * (t + 1) ∧ 840 * t ≤ spN t x := by
  obtain ⟨h1, h2, h3, h4⟩ := hx
  unfold spN
  omega
theorem spN_inj {c t t' : Nat} {x x' : P4} (hc : c ≤ 10) (hx : okP c x) (hf : x.1 < c) (hx' : okP c x') (hf' : x'.1 < c) (h : spN t x = spN t' x') : t = t' ∧ x = x' := by
  obtain ⟨a, b, d, e⟩ := x
  obtain ⟨a', b', d', e'⟩ := x'
  obtain ⟨h1, h2, h3, h4⟩ := hx
  obtain ⟨g1, g2, g3, g4⟩ := hx'
  unfold spN at h
  dsimp only at *
  have e1 : t = t' := by omega
  have e2 : a = a' := by omega
  have e3 : b = b' := by omega
  have e4 : d = d' := by omega
  have e5 : e = e' := by omega
  subst e1 e2 e3 e4 e5
  exact ⟨rfl, rfl⟩
abbrev Z3 : Type := Int32 × Int32 × (Nat → Int32)
def comN (U c t w : Nat) (x : P4) (z : Z3) : Z3 := if U < t then z else if x.1 = c then (mnI z.1 t, mnI z.2.1 w, z.2.2) else (z.1, z.2.1, upd z.2.2 (spN t x) (mnI (z.2.2 (spN t x)) w))
theorem comM {U c t w : Nat} {x : P4} {z : Z3} (hU : U ≤ 24) (hc : c ≤ 10) (hx : okP c x) (ht : t ≤ 100) (hw : w ≤ 100) : f_X5_comes (nI c) (nI x.1) (nI x.2.1) (nI x.2.2.1) (nI x.2.2.2) z.1 z.2.1 z.2.2 (nI t) (nI w) (nI U) = some (comN U c t w x z) := by
  rw [f_X5_comes, comN]
  by_cases h : U < t
  · rw [ie' (nI_ge h (by omega)), if_pos h]
  · rw [it' (nI_le (by omega) (by omega)), if_neg h]
    have hx1 := hx.1
    by_cases h2 : x.1 = c
    · rw [it' (by rw [h2]), if_pos h2]
      have k43 : ∀ y1 q, f_X5_comes_43 (nI w) y1 q z.2.1 z.2.2 = some (y1, mnI z.2.1 w, z.2.2) := by
        intro y1 q
        rw [f_X5_comes_43, mnI]
        by_cases e : z.2.1 = -9
        · rw [it' e, if_pos e]
        · rw [ie' e, if_neg e]
          by_cases e2 : z.2.1 ≤ nI w
          · rw [it' e2, if_pos e2]
          · rw [ie' e2, if_neg e2]
      rw [f_X5_comes_35, k43, k43, show mnI z.1 t = if z.1 = -9 then nI t else if z.1 ≤ nI t then z.1 else nI t from rfl]
      by_cases e : z.1 = -9
      · rw [it' e, if_pos e]
      · rw [ie' e, if_neg e]
        by_cases e2 : z.1 ≤ nI t
        · rw [it' e2, if_pos e2]
        · rw [ie' e2, if_neg e2]
    · have hs := (spN_lt (t := t) hc hx (by omega)).1
      have hs2 : spN t x < 21000 := by omega
      rw [ie' (fun q => h2 ((nI_eq (by omega) (by omega)).mp q)), if_neg h2, spotM, obind, nI_clamp (by omega)]
      simp only [gxN hs2 (by omega : (21000 : Nat) < 2 ^ 31)]
      rw [mnI]
      by_cases e : z.2.2 (spN t x) = -9
      · rw [it' e, if_pos e]
      · rw [ie' e, if_neg e]
        by_cases e2 : z.2.2 (spN t x) ≤ nI w
        · rw [it' e2, if_pos e2]
        · rw [ie' e2, if_neg e2]
/-- it is written down: x in t seconds by w pushes, or better -/
def Rec (c t w : Nat) (x : P4) (z : Z3) : Prop := (x.1 < c → ∃ v, v ≤ w ∧ z.2.2 (spN t x) = nI v) ∧ (c ≤ x.1 → (∃ v, v ≤ t ∧ z.1 = nI v) ∧ ∃ v, v ≤ w ∧ z.2.1 = nI v)
/-- what is written down is so -/
def Snd (st : Nat → P4 → Option P4) (x0 : P4) (c U : Nat) (z : Z3) : Prop :=
  (∀ k, k < 21000 → z.2.2 k = -9 ∨ ∃ t w x, k = spN t x ∧ t ≤ U ∧ RK st x0 t w x ∧ x.1 < c ∧ z.2.2 k = nI w) ∧
  (z.1 = -9 ∨ ∃ t w x, RK st x0 t w x ∧ c ≤ x.1 ∧ t ≤ U ∧ z.1 = nI t) ∧ (z.2.1 = -9 ∨ ∃ t w x, RK st x0 t w x ∧ c ≤ x.1 ∧ t ≤ U ∧ z.2.1 = nI w)
theorem Snd.num {st : Nat → P4 → Option P4} {x0 : P4} {c U : Nat} {z : Z3} (hU : U ≤ 24) (h : Snd st x0 c U z) : (∀ k, k < 21000 → z.2.2 k = -9 ∨ ∃ v, v < 2 ^ 31 ∧ z.2.2 k = nI v) ∧ (z.1 = -9 ∨ ∃ v, v < 2 ^ 31 ∧ z.1 = nI v) ∧ (z.2.1 = -9 ∨ ∃ v, v < 2 ^ 31 ∧ z.2.1 = nI v) := by
  obtain ⟨h1, h2, h3⟩ := h
  refine ⟨fun k hk => ?_, ?_, ?_⟩
  · rcases h1 k hk with h | ⟨t, w, x, -, ht, hr, -, h⟩
    · exact Or.inl h
    · have := hr.w
      exact Or.inr ⟨w, by omega, h⟩
  · rcases h2 with h | ⟨t, w, x, hr, -, ht, h⟩
    · exact Or.inl h
    · exact Or.inr ⟨t, by omega, h⟩
  · rcases h3 with h | ⟨t, w, x, hr, -, ht, h⟩
    · exact Or.inl h
    · have := hr.w
      exact Or.inr ⟨w, by omega, h⟩
section MS
variable {st : Nat → P4 → Option P4} {x0 : P4} {c U : Nat}
theorem comN_rec {t w : Nat} {x : P4} {z : Z3} (hU : U ≤ 24) (hc : c ≤ 10) (hx : okP c x) (hS : Snd st x0 c U z) (ht : t ≤ U) (hw : w ≤ 100) : Rec c t w x (comN U c t w x z) := by
  obtain ⟨n1, n2, n3⟩ := hS.num hU
  have hx1 := hx.1
  rw [comN, if_neg (by omega)]
  by_cases h2 : x.1 = c
  · rw [if_pos h2]
    exact ⟨fun q => by omega, fun _ => ⟨mn_rec n2 (by omega), mn_rec n3 (by omega)⟩⟩
  · rw [if_neg h2]
    have hs := (spN_lt (t := t) hc hx (by omega)).1
    refine ⟨fun _ => ?_, fun q => by omega⟩
    show ∃ v, v ≤ w ∧ upd _ _ _ _ = _
    rw [pk_us]
    exact mn_rec (n1 _ (by omega)) (by omega)
theorem comN_mono {t w t' w' : Nat} {x x' : P4} {z : Z3} (hw : w ≤ 100) (ht : t ≤ 100) (hw' : w' ≤ 100) (ht' : t' ≤ 100) (h : Rec c t' w' x' z) : Rec c t' w' x' (comN U c t w x z) := by
  rw [comN]
  by_cases h1 : U < t
  · rw [if_pos h1]; exact h
  · rw [if_neg h1]
    by_cases h2 : x.1 = c
    · rw [if_pos h2]
      exact ⟨h.1, fun q => ⟨mn_mono (by omega) (by omega) (h.2 q).1, mn_mono (by omega) (by omega) (h.2 q).2⟩⟩
    · rw [if_neg h2]
      refine ⟨fun q => ?_, h.2⟩
      show ∃ v, v ≤ w' ∧ upd _ _ _ _ = _
      by_cases e : spN t' x' = spN t x
      · rw [e, pk_us]
        have := h.1 q
        rw [e] at this
        exact mn_mono (by omega) (by omega) this
      · rw [pk_un e]
        exact h.1 q
theorem comN_snd {t w : Nat} {x : P4} {z : Z3} (hS : Snd st x0 c U z) (hx : okP c x) (hr : RK st x0 t w x) : Snd st x0 c U (comN U c t w x z) := by
  have hx1 := hx.1
  rw [comN]
  by_cases h1 : U < t
  · rw [if_pos h1]; exact hS
  · rw [if_neg h1]
    by_cases h2 : x.1 = c
    · rw [if_pos h2]
      refine ⟨hS.1, ?_, ?_⟩
      · show mnI z.1 t = _ ∨ _
        rcases mn_or z.1 t with e | e
        · exact Or.inr ⟨t, w, x, hr, by omega, by omega, e⟩
        · rw [e]; exact hS.2.1
      · show mnI z.2.1 w = _ ∨ _
        rcases mn_or z.2.1 w with e | e
        · exact Or.inr ⟨t, w, x, hr, by omega, by omega, e⟩
        · rw [e]; exact hS.2.2
    · rw [if_neg h2]
      refine ⟨fun k hk => ?_, hS.2⟩
      show upd _ _ _ k = _ ∨ ∃ t w x, _ ∧ _ ∧ _ ∧ _ ∧ upd _ _ _ k = _
      by_cases e : k = spN t x
      · subst e
        rw [pk_us]
        rcases mn_or (z.2.2 (spN t x)) w with e | e
        · exact Or.inr ⟨t, w, x, rfl, by omega, hr, by omega, e⟩
        · rw [e]; exact hS.1 _ hk
      · rw [pk_un e]
        exact hS.1 k hk
theorem comN_keep {t w k : Nat} {x : P4} {z : Z3} (h : k ≠ spN t x) : (comN U c t w x z).2.2 k = z.2.2 k := by
  rw [comN]
  by_cases h1 : U < t
  · rw [if_pos h1]
  · rw [if_neg h1]
    by_cases h2 : x.1 = c
    · rw [if_pos h2]
    · rw [if_neg h2]
      exact pk_un h
end MS
