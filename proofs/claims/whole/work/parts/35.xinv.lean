/-! the class's search: what holds second by second -/
section XI
variable (st : Nat → P4 → Option P4) (x0 : P4) (c U q : Nat)
/-- an arrival (t seconds, w pushes) is accounted for -/
def Rcd (be : Int32) (t w : Nat) : Prop := ∃ b, be = nI b ∧ b ≤ 100 ∧ b ≤ (if q = 0 then t else w)
/-- what is in be, and the limit -/
def BEs (l : Nat) (be : Int32) : Prop := (be = -9 ∧ l = U ∨ ∃ b, be = nI b ∧ (q = 0 → b = l + 1 ∧ b ≤ U) ∧ (q ≠ 0 → l = U)) ∧ (be = -9 ∨ ∃ t w x, RK st x0 t w x ∧ c ≤ x.1 ∧ t ≤ U ∧ be = nI (if q = 0 then t else w))
/-- a place is held: come to by v, or waits with so much, by second t2 -/
def Cov (F : Nat → Nat) (P : Nat → Nat → Nat) (t : Nat) (x : P4) (t2 v : Nat) : Prop := F (plN x) ≤ v ∨ ∃ u, t ≤ u ∧ u ≤ t2 ∧ P (u % 4) (plN x) ≤ v
/-- a step from y (second e, cost v, pushes w) is held -/
def Hld (F : Nat → Nat) (P : Nat → Nat → Nat) (l : Nat) (be : Int32) (t e v w : Nat) (a : Nat) (x : P4) : Prop := (x.1 < c → e + dtN a < l → Cov F P t x (e + dtN a) (v + q * dpN a)) ∧ (c ≤ x.1 → e + dtN a ≤ U → Rcd q be (e + dtN a) (w + dpN a))
/-- the steps from a place that was gone on from -/
def Eat (F : Nat → Nat) (P : Nat → Nat → Nat) (l : Nat) (be : Int32) (t : Nat) (y : P4) : Prop := F (plN y) < 1000 → ∃ e, e ≤ t ∧ ∀ a x, a ≤ 4 → st a y = some x → Hld c U q F P l be t e (F (plN y)) (F (plN y)) a x
def J0s (F : Nat → Nat) (P : Nat → Nat → Nat) (l t : Nat) : Prop := 0 < l → Cov F P t x0 0 0
def JTs (F : Nat → Nat) (P : Nat → Nat → Nat) (l : Nat) (be : Int32) (t : Nat) : Prop := ∀ (t' w' : Nat) (y : P4) (a : Nat) (x : P4), RK st x0 t' w' y → y.1 < c → t' < t → a ≤ 4 → st a y = some x → Hld c U q F P l be t t' (q * w') w' a x
/-- what waits is so -/
def SPs (P : Nat → Nat → Nat) (t : Nat) : Prop := ∀ u p, t ≤ u → u < t + 4 → p < 840 → P (u % 4) p < 1000 → u < U ∧ ∃ y w, plN y = p ∧ y.1 < c ∧ RK st x0 u w y ∧ q * w = P (u % 4) p
/-- all of it, but the steps from the place y0 -/
def InX (F : Nat → Nat) (P : Nat → Nat → Nat) (l : Nat) (be : Int32) (t : Nat) (y0 : Option P4) : Prop := J0s x0 F P l t ∧ JTs st x0 c U q F P l be t ∧ (∀ y, okP c y → y.1 < c → y0 ≠ some y → Eat st c U q F P l be t y) ∧ SPs st x0 c U q P t ∧ BEs st x0 c U q l be
end XI
section XJ
variable {st : Nat → P4 → Option P4} {x0 : P4} {c U q : Nat} {F F' : Nat → Nat} {P P' : Nat → Nat → Nat} {l l' : Nat} {be be' : Int32} {t : Nat}
theorem Cov.mono {x : P4} {t2 v t3 v3 : Nat} (h : Cov F P t x t2 v) (hF : ∀ p, F' p ≤ F p) (hP : ∀ o p, P' o p ≤ P o p) (ht : t2 ≤ t3) (hv : v ≤ v3) : Cov F' P' t x t3 v3 := by
  rcases h with h | ⟨u, h1, h2, h3⟩
  · exact Or.inl (Nat.le_trans (hF _) (by omega))
  · exact Or.inr ⟨u, h1, by omega, Nat.le_trans (hP _ _) (by omega)⟩
theorem Hld.mono {e v w a : Nat} {x : P4} (h : Hld c U q F P l be t e v w a x) (hF : ∀ p, F' p ≤ F p) (hP : ∀ o p, P' o p ≤ P o p) (hl : l' ≤ l) (hR : ∀ t w, Rcd q be t w → Rcd q be' t w) : Hld c U q F' P' l' be' t e v w a x :=
  ⟨fun a1 a2 => (h.1 a1 (by omega)).mono hF hP (Nat.le_refl _) (Nat.le_refl _), fun a1 a2 => hR _ _ (h.2 a1 a2)⟩
theorem Rcd.weak {t w t2 w2 : Nat} (h : Rcd q be t w) (ht : t ≤ t2) (hw : w ≤ w2) : Rcd q be t2 w2 := by
  obtain ⟨b, h1, h0, h2⟩ := h
  refine ⟨b, h1, h0, ?_⟩
  by_cases e : q = 0
  · rw [if_pos e] at h2 ⊢; omega
  · rw [if_neg e] at h2 ⊢; omega
/-- offers: P falls, the limit too, be is as good -/
theorem InX.off {y0 : Option P4} (h : InX st x0 c U q F P l be t y0) (hP : ∀ o p, P' o p ≤ P o p) (hl : l' ≤ l) (hR : ∀ t w, Rcd q be t w → Rcd q be' t w) (hS : SPs st x0 c U q P' t) (hB : BEs st x0 c U q l' be') : InX st x0 c U q F P' l' be' t y0 := by
  obtain ⟨h1, h2, h3, -, -⟩ := h
  refine ⟨fun z => (h1 (by omega)).mono (fun _ => Nat.le_refl _) hP (Nat.le_refl _) (Nat.le_refl _), fun t' w' y a x b1 b2 b3 b4 b5 => (h2 t' w' y a x b1 b2 b3 b4 b5).mono (fun _ => Nat.le_refl _) hP hl hR, fun y b1 b2 b3 b4 => ?_, hS, hB⟩
  obtain ⟨e, e1, e2⟩ := h3 y b1 b2 b3 b4
  exact ⟨e, e1, fun a x a1 a2 => (e2 a x a1 a2).mono (fun _ => Nat.le_refl _) hP hl hR⟩
/-- a waiting place's turn, the limit past: it is dropped -/
theorem InX.drop {p : Nat} (h : InX st x0 c U q F P l be t none) (hl : l ≤ t) (hPp : P (t % 4) p ≤ 1000) : InX st x0 c U q F (upP P (t % 4) p 1000) l be t none := by
  obtain ⟨h1, h2, h3, h4, h5⟩ := h
  have key : ∀ x t2 v, t2 < l → Cov F P t x t2 v → Cov F (upP P (t % 4) p 1000) t x t2 v := by
    intro x t2 v ht2 h
    rcases h with h | ⟨u, a1, a2, a3⟩
    · exact Or.inl h
    · omega
  refine ⟨fun z => key _ _ _ z (h1 z), fun t' w' y a x b1 b2 b3 b4 b5 => ⟨fun a1 a2 => key _ _ _ a2 ((h2 t' w' y a x b1 b2 b3 b4 b5).1 a1 a2), (h2 t' w' y a x b1 b2 b3 b4 b5).2⟩, fun y b1 b2 b3 b4 => ?_, ?_, h5⟩
  · obtain ⟨e, e1, e2⟩ := h3 y b1 b2 b3 b4
    exact ⟨e, e1, fun a x a1 a2 => ⟨fun g1 g2 => key _ _ _ g2 ((e2 a x a1 a2).1 g1 g2), (e2 a x a1 a2).2⟩⟩
  · intro u p' g1 g2 g3 g4
    by_cases z : u % 4 = t % 4 ∧ p' = p
    · rw [z.1, z.2, upP_s] at g4; omega
    · rw [upP_n z] at g4 ⊢; exact h4 u p' g1 g2 g3 g4
/-- a waiting place's turn, come to before by as few -/
theorem InX.skip {p : Nat} (h : InX st x0 c U q F P l be t none) (hF : F p ≤ P (t % 4) p) (hF2 : F p ≤ 1000) : InX st x0 c U q F (upP P (t % 4) p 1000) l be t none := by
  obtain ⟨h1, h2, h3, h4, h5⟩ := h
  have key : ∀ x t2 v, Cov F P t x t2 v → Cov F (upP P (t % 4) p 1000) t x t2 v := by
    intro x t2 v h
    rcases h with h | ⟨u, a1, a2, a3⟩
    · exact Or.inl h
    · by_cases z : u % 4 = t % 4 ∧ plN x = p
      · rw [z.1, z.2] at a3
        exact Or.inl (by rw [z.2]; omega)
      · exact Or.inr ⟨u, a1, a2, by rw [upP_n z]; exact a3⟩
  refine ⟨fun z => key _ _ _ (h1 z), fun t' w' y a x b1 b2 b3 b4 b5 => ⟨fun a1 a2 => key _ _ _ ((h2 t' w' y a x b1 b2 b3 b4 b5).1 a1 a2), (h2 t' w' y a x b1 b2 b3 b4 b5).2⟩, fun y b1 b2 b3 b4 => ?_, ?_, h5⟩
  · obtain ⟨e, e1, e2⟩ := h3 y b1 b2 b3 b4
    exact ⟨e, e1, fun a x a1 a2 => ⟨fun g1 g2 => key _ _ _ ((e2 a x a1 a2).1 g1 g2), (e2 a x a1 a2).2⟩⟩
  · intro u p' g1 g2 g3 g4
    by_cases z : u % 4 = t % 4 ∧ p' = p
    · rw [z.1, z.2, upP_s] at g4; omega
    · rw [upP_n z] at g4 ⊢; exact h4 u p' g1 g2 g3 g4
def upF (F : Nat → Nat) (p v : Nat) : Nat → Nat := fun p' => if p' = p then v else F p'
/-- a waiting place's turn, it is gone on from: its own steps are still to be held -/
theorem InX.take {y : P4} (hy : okP c y) (h : InX st x0 c U q F P l be t none) (hF : P (t % 4) (plN y) < F (plN y)) : InX st x0 c U q (upF F (plN y) (P (t % 4) (plN y))) (upP P (t % 4) (plN y) 1000) l be t (some y) := by
  obtain ⟨h1, h2, h3, h4, h5⟩ := h
  have hle : ∀ p, upF F (plN y) (P (t % 4) (plN y)) p ≤ F p := by
    intro p
    unfold upF
    split
    · rename_i e; rw [e]; omega
    · exact Nat.le_refl _
  have key : ∀ x t2 v, Cov F P t x t2 v → Cov (upF F (plN y) (P (t % 4) (plN y))) (upP P (t % 4) (plN y) 1000) t x t2 v := by
    intro x t2 v h
    rcases h with h | ⟨u, a1, a2, a3⟩
    · exact Or.inl (Nat.le_trans (hle _) h)
    · by_cases z : u % 4 = t % 4 ∧ plN x = plN y
      · rw [z.1, z.2] at a3
        refine Or.inl ?_
        rw [z.2, show upF F (plN y) (P (t % 4) (plN y)) (plN y) = P (t % 4) (plN y) from if_pos rfl]
        exact a3
      · exact Or.inr ⟨u, a1, a2, by rw [upP_n z]; exact a3⟩
  refine ⟨fun z => key _ _ _ (h1 z), fun t' w' y a x b1 b2 b3 b4 b5 => ⟨fun a1 a2 => key _ _ _ ((h2 t' w' y a x b1 b2 b3 b4 b5).1 a1 a2), (h2 t' w' y a x b1 b2 b3 b4 b5).2⟩, fun y2 b1 b2 b3 b4 => ?_, ?_, h5⟩
  · have hne : plN y2 ≠ plN y := fun e => b3 (by rw [plN_inj b1 hy e])
    have eF : upF F (plN y) (P (t % 4) (plN y)) (plN y2) = F (plN y2) := if_neg hne
    rw [eF] at b4
    obtain ⟨e, e1, e2⟩ := h3 y2 b1 b2 (fun z => by cases z) b4
    refine ⟨e, e1, fun a x a1 a2 => ?_⟩
    rw [eF]
    exact ⟨fun g1 g2 => key _ _ _ ((e2 a x a1 a2).1 g1 g2), (e2 a x a1 a2).2⟩
  · intro u p' g1 g2 g3 g4
    by_cases z : u % 4 = t % 4 ∧ p' = plN y
    · rw [z.1, z.2, upP_s] at g4; omega
    · rw [upP_n z] at g4 ⊢; exact h4 u p' g1 g2 g3 g4
/-- its steps are held: all holds again -/
theorem InX.done {y : P4} (h : InX st x0 c U q F P l be t (some y)) (he : ∀ a x, a ≤ 4 → st a y = some x → Hld c U q F P l be t t (F (plN y)) (F (plN y)) a x) : InX st x0 c U q F P l be t none := by
  obtain ⟨h1, h2, h3, h4, h5⟩ := h
  refine ⟨h1, h2, fun y2 b1 b2 _ b4 => ?_, h4, h5⟩
  by_cases e : y2 = y
  · subst e
    exact ⟨t, Nat.le_refl t, he⟩
  · exact h3 y2 b1 b2 (fun z => e (Option.some.inj z).symm) b4
/-- a second is over -/
theorem InX.next (hst : ∀ a y x, okP c y → st a y = some x → okP c x) (h0 : okP c x0) (h0c : x0.1 < c) (hG : ∀ t w x, RK st x0 t w x → okP c x) (hlt : ∀ a y x, st a y = some x → y.1 < c) (hU : U ≤ 24) (hq : q ≤ 1) (ht : t ≤ 100) (hF : ∀ p, p < 840 → F p ≤ 1000) (h : InX st x0 c U q F P l be t none) (hemp : ∀ p, p < 840 → 1000 ≤ P (t % 4) p) (hc : c ≤ 10) : InX st x0 c U q F P l be (t + 1) none := by
  obtain ⟨h1, h2, h3, h4, h5⟩ := h
  have hdp := dp_le
  -- what waits at t is nothing
  have key : ∀ x t2 v, okP c x → x.1 < c → Cov F P t x t2 v → Cov F P (t + 1) x t2 v := by
    intro x t2 v hx hxc h
    have hb := plN_lt hc hx hxc
    rcases h with h | ⟨u, a1, a2, a3⟩
    · exact Or.inl h
    · by_cases z : u = t
      · have := hemp _ hb
        have := hF _ hb
        rw [z] at a3
        exact Or.inl (by omega)
      · exact Or.inr ⟨u, by omega, a2, a3⟩
  have qw : ∀ w, q * w ≤ w := by
    intro w
    rcases (show q = 0 ∨ q = 1 by omega) with e | e
    · rw [e, Nat.zero_mul]; exact Nat.zero_le _
    · rw [e, Nat.one_mul]; exact Nat.le_refl _
  have hE : ∀ y, okP c y → y.1 < c → Eat st c U q F P l be (t + 1) y := by
    intro y b1 b2 b4
    obtain ⟨e, e1, e2⟩ := h3 y b1 b2 (fun z => by cases z) b4
    exact ⟨e, by omega, fun a x a1 a2 => ⟨fun g1 g2 => key _ _ _ (hst a y x b1 a2) g1 ((e2 a x a1 a2).1 g1 g2), (e2 a x a1 a2).2⟩⟩
  -- what can be come to in t seconds is come to
  have hFy : ∀ w' y, RK st x0 t w' y → y.1 < c → t < l → F (plN y) ≤ q * w' := by
    intro w' y hr hyc htl
    have hy := hG _ _ _ hr
    have hb := plN_lt hc hy hyc
    have hw := hr.w
    have hqw := qw w'
    have cov : Cov F P t y t (q * w') := by
      rcases hr.inv with ⟨e1, e2, e3⟩ | ⟨a, y2, t2, w2, ha, hy2, e, e1, e2⟩
      · rw [e3, e1, e2, Nat.mul_zero]
        have := h1 (by omega)
        rw [e1] at this
        exact this
      · have := dt_pos a
        have := (h2 t2 w2 y2 a y hy2 (hlt a y2 y e) (by omega) ha e).1 hyc (by omega)
        rw [e2, Nat.mul_add, e1]
        rw [e1] at this
        exact this
    rcases cov with h | ⟨u, a1, a2, a3⟩
    · exact h
    · have z : u = t := by omega
      have := hemp _ hb
      rw [z] at a3
      omega
  refine ⟨fun z => key _ _ _ h0 h0c (h1 z), fun t' w' y a x b1 b2 b3 b4 b5 => ?_, fun y b1 b2 _ => hE y b1 b2, ?_, h5⟩
  · have hx := hst a y x (hG _ _ _ b1) b5
    have hd := dt_pos a
    by_cases z : t' < t
    · have := h2 t' w' y a x b1 b2 z b4 b5
      exact ⟨fun g1 g2 => key _ _ _ hx g1 (this.1 g1 g2), this.2⟩
    · have et : t' = t := by omega
      subst et
      have hw := b1.w
      have hqw := qw w'
      by_cases htl : t' < l
      · have hf := hFy w' y b1 b2 htl
        obtain ⟨e, e1, e2⟩ := h3 y (hG _ _ _ b1) b2 (fun z => by cases z) (by omega)
        refine ⟨fun g1 g2 => key _ _ _ hx g1 (((e2 a x b4 b5).1 g1 (by omega)).mono (fun _ => Nat.le_refl _) (fun _ _ => Nat.le_refl _) (by omega) (by omega)), fun g1 g2 => ((e2 a x b4 b5).2 g1 (by omega)).weak (by omega) (by omega)⟩
      · refine ⟨fun g1 g2 => by omega, fun g1 g2 => ?_⟩
        rcases h5.1 with ⟨-, e⟩ | ⟨b, e0, e1, e2⟩
        · omega
        · by_cases z : q = 0
          · have := e1 z
            exact ⟨b, e0, by omega, by rw [if_pos z]; omega⟩
          · have := e2 z; omega
  · intro u p g1 g2 g3 g4
    by_cases z : u < t + 4
    · exact h4 u p (by omega) z g3 g4
    · have : u % 4 = t % 4 := by omega
      have := hemp p g3
      rw [‹u % 4 = t % 4›] at g4
      omega
end XJ
