/-! the class's search: its loops -/
section XL
variable {c s k : Nat} {kd tk gr : Nat → Int32} {x0 : P4} {U q : Nat} {fw : Nat → Int32} {F : Nat → Nat} {lo : Nat → Nat} {t : Nat} {y : P4} {wy : Nat}
theorem setRiderX {c : Nat} {y : P4} (hc : c ≤ 10) (hy : okP c y) (hyc : y.1 < c) (zs zu : Int32) : f_X2_setRider (nI (plN y)) zs zu = some (nI y.1, nI y.2.1, 0, nI y.2.2.1, nI y.2.2.2, zs, zu) := by
  have hp := plN_lt hc hy hyc
  obtain ⟨h1, h2, h3, h4⟩ := hy
  have eK : plN y = ((y.1 * 7 + y.2.1) * 4 + y.2.2.1) * 3 + y.2.2.2 := rfl
  have d84 : nI (plN y) / (84 : Int32) = nI (plN y / 84) := pk_div (d := 84) (by omega) (by omega) (by omega)
  have d12 : nI (plN y) / (12 : Int32) = nI (plN y / 12) := pk_div (d := 12) (by omega) (by omega) (by omega)
  have d3 : nI (plN y) / (3 : Int32) = nI (plN y / 3) := pk_div (d := 3) (by omega) (by omega) (by omega)
  have r3 : nI (plN y) - nI (plN y) / (3 : Int32) * (3 : Int32) = nI (plN y % 3) := pk_rem (d := 3) (by omega) (by omega) (by omega)
  have r7 : nI (plN y / 12) - nI (plN y / 12) / (7 : Int32) * (7 : Int32) = nI (plN y / 12 % 7) := pk_rem (d := 7) (by omega) (by omega) (by omega)
  have r4 : nI (plN y / 3) - nI (plN y / 3) / (4 : Int32) * (4 : Int32) = nI (plN y / 3 % 4) := pk_rem (d := 4) (by omega) (by omega) (by omega)
  rw [f_X2_setRider, r3, d84, d12, d3, r7, r4, show plN y / 84 = y.1 by omega, show plN y / 12 % 7 = y.2.1 by omega, show plN y / 3 % 4 = y.2.2.1 by omega, show plN y % 3 = y.2.2.2 by omega]
/-- the five acts from a place -/
theorem goL (ok : okF c kd tk gr) (hs : s ≤ 4) (hk : k ≤ 3) (h0 : okP c x0) (hU : U ≤ 24) (hq : q ≤ 1) (hlo : ∀ o, o ≠ t % 4 → lo o = 0) (ht : t ≤ 24) (hy : RK (stN c s k kd tk gr) x0 t wy y) (hyc : y.1 < c) (hwy : q * wy = F (plN y)) : ∀ (d n i l : Nat) (be fl pc ft ti so se pu : Int32) (wt wp wc : Nat → Int32) (P L : Nat → Nat → Nat) (C : Nat → Nat), i + d = 5 → d < n → AR4 fw wt wp wc F P L C → LSx lo P L C → InX (stN c s k kd tk gr) x0 c U q F P l be t (some y) → (∀ a x, a < i → stN c s k kd tk gr a y = some x → Hld c U q F P l be t t (F (plN y)) (F (plN y)) a x) →
    ∃ (l' : Nat) (be' fl' pc' ft' ti' so' se' pu' : Int32) (wt' wp' wc' : Nat → Int32) (P' L' : Nat → Nat → Nat) (C' : Nat → Nat), f_X2_goOnFrom_L3 (nI q) (nI c) (nI s) (nI k) fw kd tk gr (nI (plN y)) (nI t) (nI (F (plN y))) (fun li be fl pc ft ti so se pu wt wp wc => some (li, be, fl, pc, ft, ti, so, se, pu, wt, wp, wc)) n (nI i) (nI l) be fl pc ft ti so se pu wt wp wc = some (nI l', be', fl', pc', ft', ti', so', se', pu', wt', wp', wc') ∧ AR4 fw wt' wp' wc' F P' L' C' ∧ LSx lo P' L' C' ∧ (∀ k, L' (t % 4) k = L (t % 4) k) ∧ C' (t % 4) = C (t % 4) ∧ InX (stN c s k kd tk gr) x0 c U q F P' l' be' t none := by
  have hc := ok.1
  have hyo : okP c y := rkOk hk h0 hy
  have hwt := hy.w
  intro d
  induction d with
  | zero =>
    intro n i l be fl pc ft ti so se pu wt wp wc P L C hi hn hA hL hI hd
    obtain ⟨n, rfl⟩ : ∃ z, n = z + 1 := ⟨n - 1, by omega⟩
    obtain rfl : i = 5 := by omega
    rw [f_X2_goOnFrom_L3, it' (by decide)]
    exact ⟨l, be, fl, pc, ft, ti, so, se, pu, wt, wp, wc, P, L, C, rfl, hA, hL, fun _ => rfl, rfl, hI.done (fun a x ha e => hd a x (by omega) e)⟩
  | succ d ih =>
    intro n i l be fl pc ft ti so se pu wt wp wc P L C hi hn hA hL hI hd
    obtain ⟨n, rfl⟩ : ∃ z, n = z + 1 := ⟨n - 1, by omega⟩
    have hi4 : i ≤ 4 := by omega
    rw [f_X2_goOnFrom_L3, ie' (show ¬ (5 : Int32) ≤ nI i from nI_ge (b := 5) (by omega) (by omega)), setRiderX hc hyo hyc, obind, canX (s := s) (kd := kd) (tk := tk) (gr := gr) hc hk hyo hi4, obind, nI_1]
    cases e : stN c s k kd tk gr i y with
    | none =>
      rw [it' (by decide)]
      refine ih n (i + 1) l be _ _ _ _ _ _ _ wt wp wc P L C (by omega) (by omega) hA hL hI (fun a x ha e2 => ?_)
      by_cases z : a = i
      · rw [z, e] at e2; cases e2
      · exact hd a x (by omega) e2
    | some x =>
      have hx : okP c x := stN_ok hk hyo e
      have hFb : F (plN y) ≤ 24 := by
        rw [← hwy]
        rcases qcases hq with z | z
        · rw [z, Nat.zero_mul]; omega
        · rw [z, Nat.one_mul]; omega
      have epu : (if i = 0 then nI (F (plN y)) + 1 else nI (F (plN y))) = nI (F (plN y) + dpN i) := by
        unfold dpN
        by_cases z : i = 0
        · rw [if_pos z, if_pos z, nI_1]
        · rw [if_neg z, if_neg z]; rfl
      have ese : nI t + nI (dtN i) = nI (t + dtN i) := nI_add t (dtN i)
      rw [show (if (some x).isSome = true then (1 : Int32) else 0) = 1 from rfl, ie' (by decide), goByX (ft := 0) (se := nI t) (pu := nI (F (plN y))) ok hs hyo hi4 e, obind, epu, ese]
      have hdt : dtN i = 1 ∨ dtN i = 3 := by unfold dtN; split <;> omega
      have hdp := dp_le i
      have hw : q * (F (plN y) + dpN i) = q * (wy + dpN i) := by
        rcases qcases hq with z | z
        · rw [z, Nat.zero_mul, Nat.zero_mul]
        · rw [z, Nat.one_mul] at hwy
          rw [hwy]
      obtain ⟨l1, be1, wt1, wp1, wc1, P1, L1, C1, e1, a1, a2, a3, a4, a5, a6, a7, a8, a9, a10, a11⟩ := offX hq hU hc hA hL hlo hI (d := dtN i) (u := F (plN y) + dpN i) (w := wy + dpN i) (x := x) hdt ht (by omega) (hy.step hi4 e) hx hw
      rw [e1, obind]
      obtain ⟨l', be', fl', pc', ft', ti', so', se', pu', wt', wp', wc', P', L', C', e2, b1, b2, b3, b4, b5⟩ := ih n (i + 1) l1 be1 (nI x.1) (nI x.2.1) (if i = 1 then 1 - 0 else 0) (nI x.2.2.1) (nI x.2.2.2) (nI (t + dtN i)) (nI (F (plN y) + dpN i)) wt1 wp1 wc1 P1 L1 C1 (by omega) (by omega) a1 a2 a6 (fun a x2 ha e2 => by
        by_cases z : a = i
        · subst z
          rw [e] at e2
          cases e2
          refine ⟨fun g1 g2 => ?_, fun g1 g2 => a11 g1 g2⟩
          have := a10 g1 g2
          rw [Nat.mul_add, hwy] at this
          exact this
        · exact (hd a x2 (by omega) e2).mono (fun _ => Nat.le_refl _) a8 a7 a9)
      exact ⟨l', be', fl', pc', ft', ti', so', se', pu', wt', wp', wc', P', L', C', e2, b1, b2, fun k => (b3 k).trans (a3 k), b4.trans a4, b5⟩
/-- the list of a second: lo for its slot, nothing for the others -/
def loK (t k : Nat) : Nat → Nat := fun o => if o = t % 4 then k else 0
theorem inL (ok : okF c kd tk gr) (hs : s ≤ 4) (hk : k ≤ 3) (h0 : okP c x0) (hU : U ≤ 24) (hq : q ≤ 1) (ht : t ≤ 24) {kf : Int32 → Int32 → Int32 → Int32 → Int32 → Int32 → Int32 → Int32 → Int32 → Int32 → Int32 → Int32 → (Nat → Int32) → (Nat → Int32) → (Nat → Int32) → (Nat → Int32) → Option (Int32 × Int32 × Int32 × Int32 × Int32 × Int32 × Int32 × Int32 × Int32 × Int32 × Int32 × (Nat → Int32) × (Nat → Int32) × (Nat → Int32) × (Nat → Int32))} : ∀ (d n j l : Nat) (be fl pc ft ti so se pu : Int32) (fw wt wp wc : Nat → Int32) (F : Nat → Nat) (P L : Nat → Nat → Nat) (C : Nat → Nat), j + d = C (t % 4) → d < n → AR4 fw wt wp wc F P L C → LSx (loK t j) P L C → InX (stN c s k kd tk gr) x0 c U q F P l be t none →
    ∃ (l' : Nat) (be' fl' pc' ft' ti' so' se' pu' : Int32) (fw' wt' wp' wc' : Nat → Int32) (F' : Nat → Nat) (P' L' : Nat → Nat → Nat) (C' : Nat → Nat), f_X2_least_L72 (nI c) (nI s) (nI k) kd tk gr kf n (nI t) (nI (t % 4)) (nI (C (t % 4))) (nI j) (nI q) (nI l) be fl pc ft ti so se pu fw wt wp wc = kf (nI t) (nI (t % 4)) (nI q) (nI l') be' fl' pc' ft' ti' so' se' pu' fw' wt' wp' wc' ∧ AR4 fw' wt' wp' wc' F' P' L' C' ∧ LSx (loK t (C' (t % 4))) P' L' C' ∧ InX (stN c s k kd tk gr) x0 c U q F' P' l' be' t none := by
  have hc := ok.1
  have ho : t % 4 < 4 := by omega
  intro d
  induction d with
  | zero =>
    intro n j l be fl pc ft ti so se pu fw wt wp wc F P L C hj hn hA hL hI
    obtain ⟨n, rfl⟩ : ∃ z, n = z + 1 := ⟨n - 1, by omega⟩
    obtain rfl : j = C (t % 4) := by omega
    have hb := (hA.2.2.1 _ ho).2
    rw [f_X2_least_L72, it' (nI_le (Nat.le_refl _) (by omega))]
    exact ⟨l, be, fl, pc, ft, ti, so, se, pu, fw, wt, wp, wc, F, P, L, C, rfl, hA, hL, hI⟩
  | succ d ih =>
    intro n j l be fl pc ft ti so se pu fw wt wp wc F P L C hj hn hA hL hI
    obtain ⟨n, rfl⟩ : ∃ z, n = z + 1 := ⟨n - 1, by omega⟩
    obtain ⟨eC, bC⟩ := hA.2.2.1 _ ho
    obtain ⟨eL, bL⟩ := hA.2.2.2 (t % 4) j ho (by omega)
    obtain ⟨eP, bP⟩ := hA.2.1 (t % 4) (L (t % 4) j) ho bL
    obtain ⟨eF, bF⟩ := hA.1 (L (t % 4) j) bL
    have hlU := hI.2.2.2.2.le hq
    have e1 : nI (t % 4) * (840 : Int32) + nI j = nI (t % 4 * 840 + j) := by rw [mul840, nI_add]
    have e2 : nI (t % 4) * (840 : Int32) + nI (L (t % 4) j) = nI (t % 4 * 840 + L (t % 4) j) := by rw [mul840, nI_add]
    have c1 : (nI (t % 4 * 840 + j)).toNatClampNeg = t % 4 * 840 + j := nI_clamp (by omega)
    have c2 : (nI (t % 4 * 840 + L (t % 4) j)).toNatClampNeg = t % 4 * 840 + L (t % 4) j := nI_clamp (by omega)
    have c3 : (nI (L (t % 4) j)).toNatClampNeg = L (t % 4) j := nI_clamp (by omega)
    -- the place waits
    have hw : P (t % 4) (L (t % 4) j) ≠ 1000 := ((hL _ ho).2 _ bL).mpr ⟨j, by rw [show loK t j (t % 4) = j from if_pos rfl]; exact Nat.le_refl j, by omega, rfl⟩
    obtain ⟨htU, y, wy, ey, hyc, hy, hwy⟩ := hI.2.2.2.1 t (L (t % 4) j) (Nat.le_refl t) (by omega) bL (by omega)
    have hyo : okP c y := rkOk hk h0 hy
    -- the list without it
    have hL2 : LSx (loK t (j + 1)) (upP P (t % 4) (L (t % 4) j) 1000) L C := by
      intro o ho'
      obtain ⟨hd, hi⟩ := hL o ho'
      refine ⟨hd, fun p hp => ?_⟩
      by_cases qo : o = t % 4
      · subst qo
        rw [show loK t (j + 1) (t % 4) = j + 1 from if_pos rfl]
        rw [show loK t j (t % 4) = j from if_pos rfl] at hi
        by_cases z : p = L (t % 4) j
        · rw [z, upP_s]
          refine ⟨fun h => absurd rfl h, fun ⟨k', b1, b2, b3⟩ => absurd b3.symm (hd j k' (by omega) b2)⟩
        · rw [upP_n (fun h => z h.2), hi p hp]
          constructor
          · rintro ⟨k', b1, b2, b3⟩
            refine ⟨k', ?_, b2, b3⟩
            rcases Nat.lt_or_ge j k' with g | g
            · omega
            · have : k' = j := by omega
              rw [this] at b3
              exact absurd b3.symm z
          · rintro ⟨k', b1, b2, b3⟩
            exact ⟨k', by omega, b2, b3⟩
      · rw [show loK t (j + 1) o = 0 from if_neg qo, upP_n (fun h => qo h.1)]
        rw [show loK t j o = 0 from if_neg qo] at hi
        exact hi p hp
    have hA2 : AR4 fw wt (upd wp (t % 4 * 840 + L (t % 4) j) (1000 : Int32)) wc F (upP P (t % 4) (L (t % 4) j) 1000) L C := wp_up (v := 1000) hA ho bL (by omega)
    rw [f_X2_least_L72, ie' (nI_ge (by omega) (by omega)), e1, c1, eL, e2, c2, c3, eP, eF, nI_1, gxN (by omega) (by omega), gxN (by omega) (by omega), gxN (by omega) (by omega), gxN bL (by omega), gxN bL (by omega)]
    by_cases h1 : l ≤ t
    · rw [it' (nI_le h1 (by omega))]
      exact ih n (j + 1) l be fl pc ft ti so se pu fw wt _ wc F _ L C (by omega) (by omega) hA2 hL2 (hI.drop h1 bP)
    · rw [ie' (nI_ge (by omega) (by omega))]
      by_cases h2 : F (L (t % 4) j) ≤ P (t % 4) (L (t % 4) j)
      · rw [it' (nI_le h2 (by omega))]
        exact ih n (j + 1) l be fl pc ft ti so se pu fw wt _ wc F _ L C (by omega) (by omega) hA2 hL2 (hI.skip h2 bF)
      · rw [ie' (nI_ge (by omega) (by omega))]
        -- it is gone on from
        rw [← ey] at h2 hwy hA2 hL2 ⊢
        have hI2 := hI.take hyo (by omega : P (t % 4) (plN y) < F (plN y))
        have hA3 : AR4 (upd fw (plN y) (nI (P (t % 4) (plN y)))) wt (upd wp (t % 4 * 840 + plN y) (1000 : Int32)) wc (upF F (plN y) (P (t % 4) (plN y))) (upP P (t % 4) (plN y) 1000) L C := by
          refine ⟨fun p hp => ?_, hA2.2⟩
          unfold upF
          by_cases z : p = plN y
          · rw [z, pk_us, if_pos rfl]
            rw [← ey] at bP
            exact ⟨rfl, bP⟩
          · rw [pk_un z, if_neg z]
            exact hA.1 p hp
        have eFy : upF F (plN y) (P (t % 4) (plN y)) (plN y) = P (t % 4) (plN y) := if_pos rfl
        obtain ⟨l1, be1, fl1, pc1, ft1, ti1, so1, se1, pu1, wt1, wp1, wc1, P1, L1, C1, e3, b1, b2, b3, b4, b5⟩ := goL (F := upF F (plN y) (P (t % 4) (plN y))) (lo := loK t (j + 1)) ok hs hk h0 hU hq (fun o z => if_neg z) ht hy hyc (by rw [eFy]; exact hwy) 5 100 0 l be fl pc ft ti so se pu wt _ wc _ L C (by omega) (by omega) hA3 hL2 hI2 (fun a x ha => absurd ha (Nat.not_lt_zero a))
        rw [eFy] at e3
        have e4 : f_X2_goOnFrom (nI q) (nI l) be fl pc ft ti so se pu (nI c) (nI s) (nI k) (upd fw (plN y) (nI (P (t % 4) (plN y)))) wt (upd wp (t % 4 * 840 + plN y) (1000 : Int32)) wc kd tk gr (nI (plN y)) (nI t) (nI (P (t % 4) (plN y))) = some (nI l1, be1, fl1, pc1, ft1, ti1, so1, se1, pu1, wt1, wp1, wc1) := by
          rw [f_X2_goOnFrom]; exact e3
        rw [e4, obind]
        have := ih n (j + 1) l1 be1 fl1 pc1 ft1 ti1 so1 se1 pu1 (upd fw (plN y) (nI (P (t % 4) (plN y)))) wt1 wp1 wc1 _ P1 L1 C1 (by omega) (by omega) b1 b2 b5
        rw [b4] at this
        exact this
end XL
