/-! the class's search, whole -/
section XW
variable {c s k : Nat} {kd tk gr : Nat → Int32} {x0 : P4} {U q : Nat}
theorem loK0 (t : Nat) : loK t 0 = fun _ => 0 := by
  funext o
  unfold loK
  split <;> rfl
theorem outL (ok : okF c kd tk gr) (hs : s ≤ 4) (hk : k ≤ 3) (h0 : okP c x0) (h0c : x0.1 < c) (hU : U ≤ 24) (hq : q ≤ 1) {kf : Int32 → Int32 → Int32 → Int32 → Int32 → Int32 → Int32 → Int32 → Int32 → Int32 → (Nat → Int32) → (Nat → Int32) → (Nat → Int32) → (Nat → Int32) → Option (Int32 × Int32 × Int32 × Int32 × Int32 × Int32 × Int32 × Int32 × Int32 × Int32 × Int32 × (Nat → Int32) × (Nat → Int32) × (Nat → Int32) × (Nat → Int32))} : ∀ (d n t l : Nat) (be fl pc ft ti so se pu : Int32) (fw wt wp wc : Nat → Int32) (F : Nat → Nat) (P L : Nat → Nat → Nat) (C : Nat → Nat), t + d = 24 → d < n → AR4 fw wt wp wc F P L C → LSx (fun _ => 0) P L C → InX (stN c s k kd tk gr) x0 c U q F P l be t none →
    ∃ (l' : Nat) (be' fl' pc' ft' ti' so' se' pu' : Int32) (fw' wt' wp' wc' : Nat → Int32) (F' : Nat → Nat) (P' L' : Nat → Nat → Nat) (C' : Nat → Nat), f_X2_least_L47 (nI c) (nI s) (nI k) kd tk gr kf n (nI t) (nI q) (nI l) be fl pc ft ti so se pu fw wt wp wc = kf (nI q) (nI l') be' fl' pc' ft' ti' so' se' pu' fw' wt' wp' wc' ∧ AR4 fw' wt' wp' wc' F' P' L' C' ∧ LSx (fun _ => 0) P' L' C' ∧ InX (stN c s k kd tk gr) x0 c U q F' P' l' be' 24 none := by
  have hc := ok.1
  intro d
  induction d with
  | zero =>
    intro n t l be fl pc ft ti so se pu fw wt wp wc F P L C hj hn hA hL hI
    obtain ⟨n, rfl⟩ : ∃ z, n = z + 1 := ⟨n - 1, by omega⟩
    obtain rfl : t = 24 := by omega
    rw [f_X2_least_L47, it' (by decide)]
    exact ⟨l, be, fl, pc, ft, ti, so, se, pu, fw, wt, wp, wc, F, P, L, C, rfl, hA, hL, hI⟩
  | succ d ih =>
    intro n t l be fl pc ft ti so se pu fw wt wp wc F P L C hj hn hA hL hI
    obtain ⟨n, rfl⟩ : ∃ z, n = z + 1 := ⟨n - 1, by omega⟩
    have ho : t % 4 < 4 := by omega
    have esl : nI t - nI t / (4 : Int32) * (4 : Int32) = nI (t % 4) := pk_rem (a := t) (d := 4) (by omega) (by omega) (by omega)
    have c3 : (nI (t % 4)).toNatClampNeg = t % 4 := nI_clamp (by omega)
    obtain ⟨eC, bC⟩ := hA.2.2.1 _ ho
    rw [f_X2_least_L47, ie' (show ¬ (24 : Int32) ≤ nI t from nI_ge (b := 24) (by omega) (by omega)), esl, gxN ho (by omega), c3, eC]
    obtain ⟨l1, be1, fl1, pc1, ft1, ti1, so1, se1, pu1, fw1, wt1, wp1, wc1, F1, P1, L1, C1, e1, a1, a2, a3⟩ := inL (kf := fun x4 x5 cp li be fl pc ft ti so se pu fw wt wp wc => gx x5 4 (f_X2_least_L47 (nI c) (nI s) (nI k) kd tk gr kf n (x4 + (1 : Int32)) cp li be fl pc ft ti so se pu fw wt wp (upd wc x5.toNatClampNeg (0 : Int32)))) ok hs hk h0 hU hq (t := t) (by omega) (C (t % 4)) 1000 0 l be fl pc ft ti so se pu fw wt wp wc F P L C (by omega) (by omega) hA (by rw [loK0]; exact hL) hI
    refine Exists.elim (⟨l1, e1⟩ : ∃ z : Nat, _) (fun _ _ => ?_)
    have e2 := e1
    rw [gxN ho (by omega), c3, nI_1] at e2
    -- the slot is empty
    have hemp : ∀ p, p < 840 → P1 (t % 4) p = 1000 := by
      intro p hp
      obtain ⟨-, hi⟩ := a2 _ ho
      rw [show loK t (C1 (t % 4)) (t % 4) = C1 (t % 4) from if_pos rfl] at hi
      rcases Nat.decEq (P1 (t % 4) p) 1000 with z | z
      · obtain ⟨k', b1, b2, -⟩ := (hi p hp).mp z
        omega
      · exact z
    have hA2 : AR4 fw1 wt1 wp1 (upd wc1 (t % 4) (0 : Int32)) F1 P1 L1 (upC C1 (t % 4) 0) := by
      refine ⟨a1.1, a1.2.1, fun o ho' => ?_, fun o k' ho' hk' => ?_⟩
      · unfold upC
        by_cases z : o = t % 4
        · rw [z, pk_us, if_pos rfl]; exact ⟨rfl, by omega⟩
        · rw [pk_un z, if_neg z]; exact a1.2.2.1 o ho'
      · unfold upC at hk'
        by_cases z : o = t % 4
        · rw [if_pos z] at hk'; omega
        · rw [if_neg z] at hk'; exact a1.2.2.2 o k' ho' hk'
    have hL2 : LSx (fun _ => 0) P1 L1 (upC C1 (t % 4) 0) := by
      intro o ho'
      obtain ⟨hd, hi⟩ := a2 o ho'
      by_cases z : o = t % 4
      · rw [show upC C1 (t % 4) 0 o = 0 from if_pos z]
        refine ⟨fun k1 k2 _ h2 => by omega, fun p hp => ⟨fun h => ?_, fun ⟨k1, _, h2, _⟩ => by omega⟩⟩
        rw [z] at h
        exact absurd (hemp p hp) h
      · rw [show upC C1 (t % 4) 0 o = C1 o from if_neg z]
        rw [show loK t (C1 (t % 4)) o = 0 from if_neg z] at hi
        exact ⟨hd, hi⟩
    have hN := a3.next (fun a y x hy e => stN_ok hk hy e) h0 h0c (fun t w x h => rkOk hk h0 h) (fun a y x e => stN_lt e) hU hq (by omega) (fun p hp => (a1.1 p hp).2) (fun p hp => by rw [hemp p hp]; exact Nat.le_refl _) hc
    obtain ⟨l', be', fl', pc', ft', ti', so', se', pu', fw', wt', wp', wc', F', P', L', C', e3, b1, b2, b3⟩ := ih n (t + 1) l1 be1 fl1 pc1 ft1 ti1 so1 se1 pu1 fw1 wt1 wp1 _ F1 P1 L1 _ (by omega) (by omega) hA2 hL2 hN
    exact ⟨l', be', fl', pc', ft', ti', so', se', pu', fw', wt', wp', wc', F', P', L', C', e2.trans e3, b1, b2, b3⟩
/-- behind the last second -/
theorem InX.fin {F : Nat → Nat} {P : Nat → Nat → Nat} {l : Nat} {be : Int32} (h0c : x0.1 < c) (hU : U ≤ 24) (hq : q ≤ 1) (h : InX (stN c s k kd tk gr) x0 c U q F P l be 24 none) : isB (stN c s k kd tk gr) x0 c U (fun t w => if q = 0 then t else w) be := by
  have key : ∀ t w x, RK (stN c s k kd tk gr) x0 t w x → c ≤ x.1 → t ≤ U → Rcd q be t w := by
    intro t w x hr hx ht
    rcases hr.inv with ⟨-, -, e⟩ | ⟨a, y, t', w', ha, hy, e, e1, e2⟩
    · rw [e] at hx; omega
    · have := dt_pos a
      rw [e1, e2]
      exact (h.2.1 t' w' y a x hy (stN_lt e) (by omega) ha e).2 hx (by omega)
  rcases h.2.2.2.2.2 with e | ⟨t, w, x, hr, hx, ht, e⟩
  · refine Or.inl ⟨e, fun t w x hr hx ht => ?_⟩
    obtain ⟨b, e2, e0, -⟩ := key t w x hr hx ht
    exact nI_m9 (by omega) (e2.symm.trans e)
  · have hw := hr.w
    have hv : (if q = 0 then t else w) ≤ 24 := by split <;> omega
    refine Or.inr ⟨_, e, by omega, ⟨t, w, x, hr, hx, ht, rfl⟩, fun t2 w2 x2 hr2 hx2 ht2 => ?_⟩
    obtain ⟨b, e2, e0, e3⟩ := key t2 w2 x2 hr2 hx2 ht2
    have := (nI_eq (by omega) (by omega)).mp (e2.symm.trans e)
    show (if q = 0 then t else w) ≤ if q = 0 then t2 else w2
    omega
theorem leastX {b : Nat} (ok : okF c kd tk gr) (hs : s ≤ 4) (hk : k ≤ 3) (hb : b ≤ 2) (hc0 : 0 < c) (hU : U ≤ 24) (hq : q ≤ 1) (cp li be fl pc ft ti so se pu : Int32) (fw wt wp wc : Nat → Int32) (hwp : ∀ j, j < 3360 → wp j = 1000) (hwc : ∀ o, o < 4 → wc o = 0) : ∃ (r cp' li' be' fl' pc' ft' ti' so' se' pu' : Int32) (fw' wt' wp' wc' : Nat → Int32), f_X2_least cp li be fl pc ft ti so se pu (nI c) (nI s) (nI k) (nI b) fw wt wp wc kd tk gr (nI U) (nI q) = some (r, cp', li', be', fl', pc', ft', ti', so', se', pu', fw', wt', wp', wc') ∧ isB (stN c s k kd tk gr) (0, 0, 0, b) c U (fun t w => if q = 0 then t else w) r ∧ (∀ j, j < 3360 → wp' j = 1000) ∧ ∀ o, o < 4 → wc' o = 0 := by
  have hc := ok.1
  have h0 : okP c (0, 0, 0, b) := ⟨Nat.zero_le _, Nat.zero_le _, Nat.zero_le _, hb⟩
  have hA0 : AR4 (fun j => if j < 840 then (1000 : Int32) else fw j) wt wp wc (fun _ => 1000) (fun _ _ => 1000) (fun _ _ => 0) (fun _ => 0) :=
    ⟨fun p hp => ⟨if_pos hp, Nat.le_refl _⟩, fun o p ho hp => ⟨hwp _ (by omega), Nat.le_refl _⟩, fun o ho => ⟨hwc o ho, Nat.zero_le _⟩, fun o k' _ hk' => absurd hk' (Nat.not_lt_zero _)⟩
  have hL0 : LSx (fun _ => 0) (fun _ _ => 1000) (fun _ _ => 0) (fun _ => 0) := fun o ho => ⟨fun k1 k2 _ h2 => absurd h2 (Nat.not_lt_zero _), fun p hp => ⟨fun h => absurd rfl h, fun ⟨k1, _, h2, _⟩ => absurd h2 (Nat.not_lt_zero _)⟩⟩
  have hB0 : BEs (stN c s k kd tk gr) (0, 0, 0, b) c U q U (-9) := ⟨Or.inl ⟨rfl, rfl⟩, Or.inl rfl⟩
  -- the first offer
  have first : ∃ (wt1 wp1 wc1 : Nat → Int32) (P1 L1 : Nat → Nat → Nat) (C1 : Nat → Nat), f_X2_offerRider (nI q) (nI U) (-9) (nI 0) (nI 0) (nI 0) (nI b) (nI 0) (nI 0) (nI c) (fun j => if j < 840 then (1000 : Int32) else fw j) wt wp wc = some (nI U, (-9 : Int32), wt1, wp1, wc1) ∧ AR4 (fun j => if j < 840 then (1000 : Int32) else fw j) wt1 wp1 wc1 (fun _ => 1000) P1 L1 C1 ∧ LSx (fun _ => 0) P1 L1 C1 ∧ InX (stN c s k kd tk gr) (0, 0, 0, b) c U q (fun _ => 1000) P1 U (-9) 0 none := by
    have ee : ∀ A : Option (Int32 × Int32 × (Nat → Int32) × (Nat → Int32) × (Nat → Int32)), (if nI q = 0 then A else A) = A := fun A => by split <;> rfl
    rw [f_X2_offerRider]
    by_cases hU0 : U = 0
    · refine ⟨wt, wp, wc, fun _ _ => 1000, fun _ _ => 0, fun _ => 0, ?_, hA0, hL0, fun z => by omega, fun t' w' y a x _ _ z => absurd z (Nat.not_lt_zero _), fun y _ _ _ z => absurd z (Nat.lt_irrefl 1000), fun u p _ _ _ z => absurd z (Nat.lt_irrefl 1000), hB0⟩
      refine (ee _).trans ?_
      show f_X2_offerRider_18 (nI q) (nI 0) (nI 0) (nI 0) (nI b) (nI 0) (nI c) _ (nI 0) (nI U) (-9) wt wp wc = _
      rw [f_X2_offerRider_18, hasN (by omega) (by omega), obind, if_pos hc0, ie' (by decide), it' (nI_le (by omega) (by omega))]
    · obtain ⟨wt', wp', wc', P', L', C', e, a1, a2, -, -, a5⟩ := off18 (x := (0, 0, 0, b)) hc h0 hc0 hA0 hL0 (t := 0) (l := U) (v := 0) (by omega) (by omega) (by omega) rfl (by omega) (nI q) (-9)
      have e5 : P' = upP (fun _ _ => 1000) (0 % 4) (plN (0, 0, 0, b)) 0 := by
        rw [a5, if_pos (by omega), if_pos (by omega)]
      refine ⟨wt', wp', wc', P', L', C', (ee _).trans e, a1, a2, fun _ => Or.inr ⟨0, by omega, by omega, ?_⟩, fun t' w' y a x _ _ z => absurd z (Nat.not_lt_zero _), fun y _ _ _ z => absurd z (Nat.lt_irrefl 1000), fun u p g1 g2 g3 g4 => ?_, hB0⟩
      · rw [e5]; exact Nat.le_of_eq upP_s
      · rw [e5] at g4 ⊢
        by_cases z : u % 4 = 0 % 4 ∧ p = plN (0, 0, 0, b)
        · have : u = 0 := by omega
          rw [z.1, z.2, upP_s]
          exact ⟨by omega, (0, 0, 0, b), 0, rfl, hc0, by rw [this]; exact RK.zero, Nat.mul_zero q⟩
        · rw [upP_n z] at g4; omega
  obtain ⟨wt1, wp1, wc1, P1, L1, C1, e1, a1, a2, a3⟩ := first
  obtain ⟨l', be', fl', pc', ft', ti', so', se', pu', fw', wt', wp', wc', F', P', L', C', e2, b1, b2, b3⟩ := outL (kf := fun cp li be fl pc ft ti so se pu fw wt wp wc => some (be, cp, li, be, fl, pc, ft, ti, so, se, pu, fw, wt, wp, wc)) ok hs hk h0 hc0 hU hq 24 100 0 U (-9) (nI 0) (nI 0) (nI 0) (nI 0) (nI b) (nI 0) (nI 0) _ wt1 wp1 wc1 _ P1 L1 C1 (by omega) (by omega) a1 a2 a3
  have hP : ∀ o p, o < 4 → p < 840 → P' o p = 1000 := by
    intro o p ho hp
    have hb2 := (b1.2.1 o p ho hp).2
    rcases Nat.lt_or_ge (P' o p) 1000 with z | z
    · have := b3.2.2.2.1 (24 + o) p (by omega) (by omega) hp (by rw [show (24 + o) % 4 = o by omega]; exact z)
      omega
    · omega
  refine ⟨be', nI q, nI l', be', fl', pc', ft', ti', so', se', pu', fw', wt', wp', wc', ?_, b3.fin hc0 hU hq, fun j hj => ?_, fun o ho => ?_⟩
  · rw [f_X2_least, gdi (by rcases qcases hq with z | z <;> rw [z] <;> decide), fillEq _ _ _ (by omega), obind, f_X0_begin, obind]
    have em : (if (24 : Int32) < nI U then (24 : Int32) else nI U) = nI U := if_neg (show ¬ (24 : Int32) < nI U from nI_nlt (a := 24) hU (by omega))
    rw [em]
    refine (congrArg (fun o => Option.bind o _) e1).trans ?_
    rw [obind]
    exact e2
  · have := (b1.2.1 (j / 840) (j % 840) (by omega) (by omega)).1
    rw [show j / 840 * 840 + j % 840 = j by omega, hP _ _ (by omega) (by omega)] at this
    exact this
  · have e3 := (b1.2.2.1 o ho).1
    have : C' o = 0 := by
      rcases Nat.eq_zero_or_pos (C' o) with z | z
      · exact z
      · have g := (b1.2.2.2 o 0 ho z).2
        exact absurd (hP o _ ho g) (((b2 o ho).2 _ g).mpr ⟨0, Nat.le_refl 0, z, rfl⟩)
    rw [e3, this]
    rfl
end XW
