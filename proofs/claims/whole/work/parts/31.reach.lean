/-! what can be come to: in t seconds, by w pushes -/
abbrev P4 : Type := Nat × Nat × Nat × Nat
def rkN (st : Nat → P4 → Option P4) (x0 : P4) : Nat → Nat → Nat → P4 → Prop
  | 0, t, w, x => t = 0 ∧ w = 0 ∧ x = x0
  | n + 1, t, w, x => ∃ (a : Nat) (y : P4) (t' w' : Nat), a ≤ 4 ∧ rkN st x0 n t' w' y ∧ st a y = some x ∧ t = t' + dtN a ∧ w = w' + dpN a
def RK (st : Nat → P4 → Option P4) (x0 : P4) (t w : Nat) (x : P4) : Prop := ∃ n, rkN st x0 n t w x
theorem dt_pos (a : Nat) : 1 ≤ dtN a := by unfold dtN; split <;> omega
theorem dt_le (a : Nat) : dtN a ≤ 3 := by unfold dtN; split <;> omega
theorem dp_dt (a : Nat) : dpN a ≤ dtN a := by unfold dpN dtN; split <;> split <;> omega
theorem dp_le (a : Nat) : dpN a ≤ 1 := by unfold dpN; split <;> omega
section RKs
variable {st : Nat → P4 → Option P4} {x0 : P4}
theorem RK.zero : RK st x0 0 0 x0 := ⟨0, rfl, rfl, rfl⟩
theorem RK.step {t w a : Nat} {y x : P4} (h : RK st x0 t w y) (ha : a ≤ 4) (hs : st a y = some x) : RK st x0 (t + dtN a) (w + dpN a) x := by
  obtain ⟨n, h⟩ := h
  exact ⟨n + 1, a, y, t, w, ha, h, hs, rfl, rfl⟩
theorem RK.inv {t w : Nat} {x : P4} (h : RK st x0 t w x) : (t = 0 ∧ w = 0 ∧ x = x0) ∨ ∃ (a : Nat) (y : P4) (t' w' : Nat), a ≤ 4 ∧ RK st x0 t' w' y ∧ st a y = some x ∧ t = t' + dtN a ∧ w = w' + dpN a := by
  obtain ⟨n, h⟩ := h
  cases n with
  | zero => exact Or.inl h
  | succ n =>
    obtain ⟨a, y, t', w', h1, h2, h3, h4, h5⟩ := h
    exact Or.inr ⟨a, y, t', w', h1, ⟨n, h2⟩, h3, h4, h5⟩
theorem rkN_w : ∀ (n t w : Nat) (x : P4), rkN st x0 n t w x → w ≤ t
  | 0, t, w, x, h => by obtain ⟨h1, h2, -⟩ := h; omega
  | n + 1, t, w, x, h => by
    obtain ⟨a, y, t', w', -, h2, -, h4, h5⟩ := h
    have := rkN_w n t' w' y h2
    have := dp_dt a
    omega
theorem RK.w {t w : Nat} {x : P4} (h : RK st x0 t w x) : w ≤ t := by
  obtain ⟨n, h⟩ := h
  exact rkN_w n t w x h
theorem rkN_ok {G : P4 → Prop} (h0 : G x0) (hs : ∀ a y x, G y → st a y = some x → G x) : ∀ (n t w : Nat) (x : P4), rkN st x0 n t w x → G x
  | 0, t, w, x, h => by obtain ⟨-, -, rfl⟩ := h; exact h0
  | n + 1, t, w, x, h => by
    obtain ⟨a, y, t', w', -, h2, h3, -, -⟩ := h
    exact hs a y x (rkN_ok h0 hs n t' w' y h2) h3
theorem RK.ok {G : P4 → Prop} (h0 : G x0) (hs : ∀ a y x, G y → st a y = some x → G x) {t w : Nat} {x : P4} (h : RK st x0 t w x) : G x := by
  obtain ⟨n, h⟩ := h
  exact rkN_ok h0 hs n t w x h
end RKs
/-- the least of a measure among the arrivals in no more than U seconds; -9: there is none -/
def isB (st : Nat → P4 → Option P4) (x0 : P4) (c U : Nat) (v : Nat → Nat → Nat) (r : Int32) : Prop :=
  (r = -9 ∧ ∀ t w x, RK st x0 t w x → c ≤ x.1 → t ≤ U → False) ∨ ∃ b, r = nI b ∧ b ≤ 100 ∧ (∃ t w x, RK st x0 t w x ∧ c ≤ x.1 ∧ t ≤ U ∧ v t w = b) ∧ ∀ t w x, RK st x0 t w x → c ≤ x.1 → t ≤ U → b ≤ v t w
theorem nI_m9 {v : Nat} (h : v < 2 ^ 31) : nI v ≠ -9 := by
  intro q
  have := nI_pos h
  rw [q] at this
  exact this (by decide)
theorem isB.one {st : Nat → P4 → Option P4} {x0 : P4} {c U : Nat} {v : Nat → Nat → Nat} {r r2 : Int32} (h : isB st x0 c U v r) (h2 : isB st x0 c U v r2) : r = r2 := by
  rcases h with ⟨rfl, h⟩ | ⟨b, rfl, -, ⟨t, w, x, a1, a2, a3, a4⟩, h⟩
  · rcases h2 with ⟨rfl, -⟩ | ⟨b2, -, -, ⟨t, w, x, a1, a2, a3, -⟩, -⟩
    · rfl
    · exact (h t w x a1 a2 a3).elim
  · rcases h2 with ⟨-, h2⟩ | ⟨b2, rfl, -, ⟨t2, w2, x2, e1, e2, e3, e4⟩, h2⟩
    · exact (h2 t w x a1 a2 a3).elim
    · have g1 := h t2 w2 x2 e1 e2 e3
      have g2 := h2 t w x a1 a2 a3
      rw [show b = b2 by omega]
/-- the reference's least so far -/
def mnI (q : Int32) (t : Nat) : Int32 := if q = -9 then nI t else if q ≤ nI t then q else nI t
theorem mn_rec {q : Int32} {t : Nat} (hq : q = -9 ∨ ∃ v, v < 2 ^ 31 ∧ q = nI v) (ht : t < 2 ^ 31) : ∃ v, v ≤ t ∧ mnI q t = nI v := by
  unfold mnI
  by_cases h : q = -9
  · rw [if_pos h]; exact ⟨t, Nat.le_refl t, rfl⟩
  · rw [if_neg h]
    rcases hq with hq | ⟨v, hv, rfl⟩
    · exact absurd hq h
    · by_cases h2 : v ≤ t
      · rw [if_pos (nI_le h2 ht)]; exact ⟨v, h2, rfl⟩
      · rw [if_neg (nI_ge (by omega) hv)]; exact ⟨t, Nat.le_refl t, rfl⟩
theorem mn_mono {q : Int32} {t b : Nat} (hb : b < 2 ^ 31) (ht : t < 2 ^ 31) (hq : ∃ v, v ≤ b ∧ q = nI v) : ∃ v, v ≤ b ∧ mnI q t = nI v := by
  obtain ⟨v, hv, rfl⟩ := hq
  unfold mnI
  rw [if_neg (nI_m9 (by omega))]
  by_cases h2 : v ≤ t
  · rw [if_pos (nI_le h2 ht)]; exact ⟨v, hv, rfl⟩
  · rw [if_neg (nI_ge (by omega) (by omega))]; exact ⟨t, by omega, rfl⟩
theorem mn_or (q : Int32) (t : Nat) : mnI q t = nI t ∨ mnI q t = q := by
  unfold mnI
  split
  · exact Or.inl rfl
  · split
    · exact Or.inr rfl
    · exact Or.inl rfl
