/-! the class's search: an offer, and what is gone on from -/
theorem qcases {q : Nat} (hq : q ≤ 1) : q = 0 ∨ q = 1 := by omega
section XO
variable {st : Nat → P4 → Option P4} {x0 : P4} {c U q : Nat} {fw wt wp wc : Nat → Int32} {F : Nat → Nat} {P L : Nat → Nat → Nat} {C lo : Nat → Nat} {l : Nat} {be : Int32} {t : Nat} {y0 : Option P4}
theorem BEs.le (hq : q ≤ 1) (h : BEs st x0 c U q l be) : l ≤ U := by
  rcases h.1 with ⟨-, e⟩ | ⟨b, -, e1, e2⟩
  · omega
  · rcases qcases hq with z | z
    · have := e1 z; omega
    · have := e2 (by omega); omega
theorem arriveX (hq : q ≤ 1) (hU : U ≤ 24) (hB : BEs st x0 c U q l be) {t2 u w : Nat} {x : P4} (ht2 : t2 ≤ 100) (h1 : 1 ≤ t2) (hu : u ≤ 100) (hr : RK st x0 t2 w x) (hx : c ≤ x.1) (hw : q * u = q * w) : ∃ (l' : Nat) (be' : Int32), f_X2_arrive (nI q) (nI l) be (nI t2) (nI (q * u)) = some (nI l', be') ∧ l' ≤ l ∧ BEs st x0 c U q l' be' ∧ (∀ a b, Rcd q be a b → Rcd q be' a b) ∧ (t2 ≤ U → Rcd q be' t2 u) := by
  have hl := hB.le hq
  rw [f_X2_arrive]
  by_cases h : t2 ≤ l
  · rw [it' (nI_le h (by omega))]
    rcases qcases hq with z | z
    · subst z
      rw [it' (by decide)]
      refine ⟨t2 - 1, nI t2, by rw [sub1N (by omega)], by omega, ⟨Or.inr ⟨t2, rfl, fun _ => ⟨by omega, by omega⟩, fun z => absurd rfl z⟩, Or.inr ⟨t2, w, x, hr, hx, by omega, by rw [if_pos rfl]⟩⟩, fun a b hab => ?_, fun _ => ⟨t2, rfl, by omega, by rw [if_pos rfl]; exact Nat.le_refl _⟩⟩
      obtain ⟨b1, e1, e0, e2⟩ := hab
      rw [if_pos rfl] at e2
      rcases hB.1 with ⟨e, -⟩ | ⟨b, e, e3, -⟩
      · exact absurd (e1.symm.trans e) (nI_m9 (by omega))
      · have := e3 rfl
        have := (nI_eq (by omega) (by omega)).mp (e1.symm.trans e)
        exact ⟨t2, rfl, by omega, by rw [if_pos rfl]; omega⟩
    · subst z
      rw [Nat.one_mul] at hw ⊢
      rw [Nat.one_mul] at hw
      subst hw
      have hlU : l = U := by
        rcases hB.1 with ⟨-, e⟩ | ⟨b, -, -, e2⟩
        · exact e
        · exact e2 (by omega)
      rw [ie' (by decide)]
      rcases hB.2 with e | ⟨a1, a2, a3, g1, g2, g3, e⟩
      · rw [it' e]
        refine ⟨l, nI u, rfl, Nat.le_refl _, ⟨Or.inr ⟨u, rfl, fun z => by omega, fun _ => hlU⟩, Or.inr ⟨t2, u, x, hr, hx, by omega, by rw [if_neg (by omega)]⟩⟩, fun a b hab => ?_, fun _ => ⟨u, rfl, hu, by rw [if_neg (by omega)]; exact Nat.le_refl _⟩⟩
        obtain ⟨b1, e1, e0, -⟩ := hab
        exact absurd (e1.symm.trans e) (nI_m9 (by omega))
      · rw [if_neg (by omega)] at e
        have := g1.w
        rw [ie' (by rw [e]; exact nI_m9 (by omega))]
        by_cases h2 : a2 ≤ u
        · rw [it' (by rw [e]; exact nI_le h2 (by omega))]
          exact ⟨l, be, rfl, Nat.le_refl _, hB, fun _ _ h => h, fun _ => ⟨a2, e, by omega, by rw [if_neg (by omega)]; exact h2⟩⟩
        · rw [ie' (by rw [e]; exact nI_ge (by omega) (by omega))]
          refine ⟨l, nI u, rfl, Nat.le_refl _, ⟨Or.inr ⟨u, rfl, fun z => by omega, fun _ => hlU⟩, Or.inr ⟨t2, u, x, hr, hx, by omega, by rw [if_neg (by omega)]⟩⟩, fun a b hab => ?_, fun _ => ⟨u, rfl, hu, by rw [if_neg (by omega)]; exact Nat.le_refl _⟩⟩
          obtain ⟨b1, e1, e0, e2⟩ := hab
          have := (nI_eq (by omega) (by omega)).mp (e1.symm.trans e)
          rw [if_neg (by omega)] at e2
          exact ⟨u, rfl, hu, by rw [if_neg (by omega)]; omega⟩
  · rw [ie' (nI_ge (by omega) (by omega))]
    refine ⟨l, be, rfl, Nat.le_refl _, hB, fun _ _ h => h, fun h2 => ?_⟩
    rcases hB.1 with ⟨-, e⟩ | ⟨b, e, e1, e2⟩
    · omega
    · rcases qcases hq with z | z
      · have := e1 z
        exact ⟨b, e, by omega, by rw [if_pos z]; omega⟩
      · have := e2 (by omega); omega
/-- an offer behind the second t: the rows, and what holds -/
theorem offX (hq : q ≤ 1) (hU : U ≤ 24) (hc : c ≤ 10) (hA : AR4 fw wt wp wc F P L C) (hL : LSx lo P L C) (hlo : ∀ o, o ≠ t % 4 → lo o = 0) (hI : InX st x0 c U q F P l be t y0) {d u w : Nat} {x : P4} (hd : d = 1 ∨ d = 3) (ht : t ≤ 24) (hu : u ≤ 30) (hr : RK st x0 (t + d) w x) (hx : okP c x) (hw : q * u = q * w) : ∃ (l' : Nat) (be' : Int32) (wt' wp' wc' : Nat → Int32) (P' L' : Nat → Nat → Nat) (C' : Nat → Nat), f_X2_offerRider (nI q) (nI l) be (nI x.1) (nI x.2.1) (nI x.2.2.1) (nI x.2.2.2) (nI (t + d)) (nI u) (nI c) fw wt wp wc = some (nI l', be', wt', wp', wc') ∧ AR4 fw wt' wp' wc' F P' L' C' ∧ LSx lo P' L' C' ∧ (∀ k, L' (t % 4) k = L (t % 4) k) ∧ C' (t % 4) = C (t % 4) ∧ (∀ p, P' (t % 4) p = P (t % 4) p) ∧ InX st x0 c U q F P' l' be' t y0 ∧ l' ≤ l ∧ (∀ o p, P' o p ≤ P o p) ∧ (∀ a b, Rcd q be a b → Rcd q be' a b) ∧ (x.1 < c → t + d < l' → Cov F P' t x (t + d) (q * w)) ∧ (c ≤ x.1 → t + d ≤ U → Rcd q be' (t + d) u) := by
  have hB := hI.2.2.2.2
  have hl := hB.le hq
  have ey : (if nI q = 0 then f_X2_offerRider_18 (nI q) (nI x.1) (nI x.2.1) (nI x.2.2.1) (nI x.2.2.2) (nI (t + d)) (nI c) fw (0 : Int32) (nI l) be wt wp wc else f_X2_offerRider_18 (nI q) (nI x.1) (nI x.2.1) (nI x.2.2.1) (nI x.2.2.2) (nI (t + d)) (nI c) fw (nI u) (nI l) be wt wp wc) = f_X2_offerRider_18 (nI q) (nI x.1) (nI x.2.1) (nI x.2.2.1) (nI x.2.2.2) (nI (t + d)) (nI c) fw (nI (q * u)) (nI l) be wt wp wc := by
    rcases qcases hq with z | z
    · subst z; rw [it' (by decide), Nat.zero_mul]; rfl
    · subst z; rw [ie' (by decide), Nat.one_mul]
  have hqu : q * u ≤ u := by
    rcases qcases hq with z | z
    · subst z; rw [Nat.zero_mul]; exact Nat.zero_le _
    · subst z; rw [Nat.one_mul]; exact Nat.le_refl _
  rw [f_X2_offerRider, ey]
  have hx1 := hx.1
  by_cases hf : x.1 < c
  · by_cases htl : t + d < l
    · have hs : (t + d) % 4 ≠ t % 4 := by omega
      obtain ⟨wt', wp', wc', P', L', C', e, a1, a2, a3, a4, a5⟩ := off18 hc hx hf hA hL (t := t + d) (l := l) (v := q * u) (by omega) (by omega) htl (hlo _ hs) (by omega) (nI q) be
      have hp := plN_lt hc hx hf
      have hPle : ∀ o p, P' o p ≤ P o p := by
        intro o p
        rw [a5]
        split
        · by_cases z : o = (t + d) % 4 ∧ p = plN x
          · rw [z.1, z.2, upP_s]; split <;> omega
          · rw [upP_n z]; exact Nat.le_refl _
        · exact Nat.le_refl _
      have hPs : ∀ p, P' (t % 4) p = P (t % 4) p := by
        intro p
        rw [a5]
        split
        · exact upP_n (fun z => hs z.1.symm)
        · rfl
      refine ⟨l, be, wt', wp', wc', P', L', C', e, a1, a2, fun k => a3 _ k (Ne.symm hs), a4 _ (Ne.symm hs), hPs, hI.off hPle (Nat.le_refl _) (fun _ _ h => h) ?_ hB, Nat.le_refl _, hPle, fun _ _ h => h, fun _ _ => ?_, fun z => by omega⟩
      · intro u2 p g1 g2 g3 g4
        have old := hI.2.2.2.1 u2 p g1 g2 g3
        rw [a5] at g4 ⊢
        by_cases hv : q * u < F (plN x)
        · rw [if_pos hv] at g4 ⊢
          by_cases z : u2 % 4 = (t + d) % 4 ∧ p = plN x
          · have eu : u2 = t + d := by omega
            rw [z.1, z.2, upP_s] at g4 ⊢
            by_cases h2 : q * u < P ((t + d) % 4) (plN x)
            · rw [if_pos h2]
              exact ⟨by omega, x, w, rfl, hf, by rw [eu]; exact hr, hw.symm⟩
            · rw [if_neg h2] at g4 ⊢
              rw [z.1, z.2] at old
              exact old g4
          · rw [upP_n z] at g4 ⊢
            exact old g4
        · rw [if_neg hv] at g4 ⊢
          exact old g4
      · rw [← hw]
        by_cases hv : q * u < F (plN x)
        · refine Or.inr ⟨t + d, by omega, Nat.le_refl _, ?_⟩
          rw [a5, if_pos hv, upP_s]
          split <;> omega
        · exact Or.inl (by omega)
    · rw [f_X2_offerRider_18, hasN (by omega) (by omega), obind, if_pos hf, ie' (by decide), it' (nI_le (by omega) (by omega))]
      exact ⟨l, be, wt, wp, wc, P, L, C, rfl, hA, hL, fun _ => rfl, rfl, fun _ => rfl, hI, Nat.le_refl _, fun _ _ => Nat.le_refl _, fun _ _ h => h, fun _ z => by omega, fun z => by omega⟩
  · rw [f_X2_offerRider_18, hasN (by omega) (by omega), obind, if_neg hf, it' (by decide)]
    obtain ⟨l', be', e, b1, b2, b3, b4⟩ := arriveX hq hU hB (t2 := t + d) (u := u) (by omega) (by omega) (by omega) hr (by omega) hw
    rw [e, obind]
    exact ⟨l', be', wt, wp, wc, P, L, C, rfl, hA, hL, fun _ => rfl, rfl, fun _ => rfl, hI.off (fun _ _ => Nat.le_refl _) b1 b3 hI.2.2.2.1 b2, b1, fun _ _ => Nat.le_refl _, b3, fun z => by omega, fun _ z => b4 z⟩
end XO
