def f_X0_begin (sb : Int32) : Option (Int32 × Int32 × Int32 × Int32 × Int32 × Int32 × Int32) :=
  some ((0 : Int32), (0 : Int32), (0 : Int32), (0 : Int32), sb, (0 : Int32), (0 : Int32))
set_option maxHeartbeats 4000000 in
set_option maxRecDepth 100000 in
theorem c_X0_begin (l : Launch) (D : va_G) (cI cZ cR : ClassId) (ar : Nat) (ab : Nat) (abk : Nat) (abt : Nat) (abg : Nat) (fl : Int32) (pc : Int32) (ft : Int32) (ti : Int32) (so : Int32) (se : Int32) (pu : Int32) (cn : Int32) (st : Int32) (kn : Int32) (sb : Int32) (kd : Nat → Int32) (tk : Nat → Int32) (gr : Nat → Int32) {res : Int32 × Int32 × Int32 × Int32 × Int32 × Int32 × Int32} (hg : f_X0_begin sb = some res) : MV l yX0_begin wsX0_begin ({ frames := 0, cells := 0, slots := 0, locals := 0 }) D (T3 cI cZ cR) [(ar, .inr (0, [.int (fl), .int (pc), .int (ft), .int (ti), .int (so), .int (se), .int (pu)])), (ab, .inr (3, [.ref abk, .ref abt, .ref abg, .int (cn), .int (st), .int (kn), .int (sb)])), (abk, .inl (cI, 10, .inl (kd))), (abt, .inl (cI, 10, .inl (tk))), (abg, .inl (cZ, 10, .inl (gr)))] [.ref ar, .ref ab] (fun u => u = [(ar, .inr (0, [.int (res.1), .int (res.2.1), .int (res.2.2.1), .int (res.2.2.2.1), .int (res.2.2.2.2.1), .int (res.2.2.2.2.2.1), .int (res.2.2.2.2.2.2)])), (ab, .inr (3, [.ref abk, .ref abt, .ref abg, .int (cn), .int (st), .int (kn), .int (sb)])), (abk, .inl (cI, 10, .inl (kd))), (abt, .inl (cI, 10, .inl (tk))), (abg, .inl (cZ, 10, .inl (gr)))]) := by
  refine entV (Rn := RX0) (by decide +kernel) rfl rfl (Nat.le_of_ble_eq_true rfl) (fun p e s m args below meth c A Q hx hb hr hml hts hown hlocks hA hP hD hK hS ls hl hQ => ?_)
  have inX0 : ∀ w ∈ u_ws RX0 TX0 7, w ∈ wsX0_begin := by decide +kernel
  have inX3 : ∀ w ∈ u_ws RX3 TX3 7, w ∈ wsX0_begin := by decide +kernel
  have hl : lv_has ls 2 [(0, .ref ar), (1, .ref ab)] := hl
  rw [f_X0_begin] at hg
  refine lv_aload_n hx hb dX0_begin_0 rfl (lv_at hl 0 rfl) ?_
  refine lv_iconst (v := (0 : Int32)) hx hb dX0_begin_1 (by decide) ?_
  refine va_put (D := D) (ci := 0) (v := .int ((0 : Int32))) (ty := .int) (C := RX0) (T := TX0) (N := 7) hx hb hts inX0 tyX0 tyX0_ok nmX0 hown hK hP hD hS 0 rfl rfl 0 (by decide) (hts (.fieldLink RX0 9 "ScooterFlags$Rider" "flag" "I") (by decide +kernel)) (fun _ h9 => h9) rfl (by decide +kernel) rfl rfl (Nat.le_of_ble_eq_true rfl) dX0_begin_2 (fun H locs hP hD hS => ?_)
  have hP : va_P D vwCl [(ar, .inr (0, [.int ((0 : Int32)), .int (pc), .int (ft), .int (ti), .int (so), .int (se), .int (pu)])), (ab, .inr (3, [.ref abk, .ref abt, .ref abg, .int (cn), .int (st), .int (kn), .int (sb)])), (abk, .inl (cI, 10, .inl (kd))), (abt, .inl (cI, 10, .inl (tk))), (abg, .inl (cZ, 10, .inl (gr)))] H := hP
  have hD : va_D A [(ar, .inr (0, [.int ((0 : Int32)), .int (pc), .int (ft), .int (ti), .int (so), .int (se), .int (pu)])), (ab, .inr (3, [.ref abk, .ref abt, .ref abg, .int (cn), .int (st), .int (kn), .int (sb)])), (abk, .inl (cI, 10, .inl (kd))), (abt, .inl (cI, 10, .inl (tk))), (abg, .inl (cZ, 10, .inl (gr)))] := hD
  refine lv_aload_n hx hb dX0_begin_5 rfl (lv_at hl 0 rfl) ?_
  refine lv_iconst (v := (0 : Int32)) hx hb dX0_begin_6 (by decide) ?_
  refine va_put (D := D) (ci := 0) (v := .int ((0 : Int32))) (ty := .int) (C := RX0) (T := TX0) (N := 7) hx hb hts inX0 tyX0 tyX0_ok nmX0 hown hK hP hD hS 0 rfl rfl 1 (by decide) (hts (.fieldLink RX0 15 "ScooterFlags$Rider" "pace" "I") (by decide +kernel)) (fun _ h9 => h9) rfl (by decide +kernel) rfl rfl (Nat.le_of_ble_eq_true rfl) dX0_begin_7 (fun H locs hP hD hS => ?_)
  have hP : va_P D vwCl [(ar, .inr (0, [.int ((0 : Int32)), .int ((0 : Int32)), .int (ft), .int (ti), .int (so), .int (se), .int (pu)])), (ab, .inr (3, [.ref abk, .ref abt, .ref abg, .int (cn), .int (st), .int (kn), .int (sb)])), (abk, .inl (cI, 10, .inl (kd))), (abt, .inl (cI, 10, .inl (tk))), (abg, .inl (cZ, 10, .inl (gr)))] H := hP
  have hD : va_D A [(ar, .inr (0, [.int ((0 : Int32)), .int ((0 : Int32)), .int (ft), .int (ti), .int (so), .int (se), .int (pu)])), (ab, .inr (3, [.ref abk, .ref abt, .ref abg, .int (cn), .int (st), .int (kn), .int (sb)])), (abk, .inl (cI, 10, .inl (kd))), (abt, .inl (cI, 10, .inl (tk))), (abg, .inl (cZ, 10, .inl (gr)))] := hD
  refine lv_aload_n hx hb dX0_begin_10 rfl (lv_at hl 0 rfl) ?_
  refine lv_iconst (v := (0 : Int32)) hx hb dX0_begin_11 (by decide) ?_
  refine va_put (D := D) (ci := 0) (v := .int ((0 : Int32))) (ty := .int) (C := RX0) (T := TX0) (N := 7) hx hb hts inX0 tyX0 tyX0_ok nmX0 hown hK hP hD hS 0 rfl rfl 2 (by decide) (hts (.fieldLink RX0 18 "ScooterFlags$Rider" "foot" "I") (by decide +kernel)) (fun _ h9 => h9) rfl (by decide +kernel) rfl rfl (Nat.le_of_ble_eq_true rfl) dX0_begin_12 (fun H locs hP hD hS => ?_)
  have hP : va_P D vwCl [(ar, .inr (0, [.int ((0 : Int32)), .int ((0 : Int32)), .int ((0 : Int32)), .int (ti), .int (so), .int (se), .int (pu)])), (ab, .inr (3, [.ref abk, .ref abt, .ref abg, .int (cn), .int (st), .int (kn), .int (sb)])), (abk, .inl (cI, 10, .inl (kd))), (abt, .inl (cI, 10, .inl (tk))), (abg, .inl (cZ, 10, .inl (gr)))] H := hP
  have hD : va_D A [(ar, .inr (0, [.int ((0 : Int32)), .int ((0 : Int32)), .int ((0 : Int32)), .int (ti), .int (so), .int (se), .int (pu)])), (ab, .inr (3, [.ref abk, .ref abt, .ref abg, .int (cn), .int (st), .int (kn), .int (sb)])), (abk, .inl (cI, 10, .inl (kd))), (abt, .inl (cI, 10, .inl (tk))), (abg, .inl (cZ, 10, .inl (gr)))] := hD
  refine lv_aload_n hx hb dX0_begin_15 rfl (lv_at hl 0 rfl) ?_
  refine lv_iconst (v := (0 : Int32)) hx hb dX0_begin_16 (by decide) ?_
  refine va_put (D := D) (ci := 0) (v := .int ((0 : Int32))) (ty := .int) (C := RX0) (T := TX0) (N := 7) hx hb hts inX0 tyX0 tyX0_ok nmX0 hown hK hP hD hS 0 rfl rfl 3 (by decide) (hts (.fieldLink RX0 21 "ScooterFlags$Rider" "tired" "I") (by decide +kernel)) (fun _ h9 => h9) rfl (by decide +kernel) rfl rfl (Nat.le_of_ble_eq_true rfl) dX0_begin_17 (fun H locs hP hD hS => ?_)
  have hP : va_P D vwCl [(ar, .inr (0, [.int ((0 : Int32)), .int ((0 : Int32)), .int ((0 : Int32)), .int ((0 : Int32)), .int (so), .int (se), .int (pu)])), (ab, .inr (3, [.ref abk, .ref abt, .ref abg, .int (cn), .int (st), .int (kn), .int (sb)])), (abk, .inl (cI, 10, .inl (kd))), (abt, .inl (cI, 10, .inl (tk))), (abg, .inl (cZ, 10, .inl (gr)))] H := hP
  have hD : va_D A [(ar, .inr (0, [.int ((0 : Int32)), .int ((0 : Int32)), .int ((0 : Int32)), .int ((0 : Int32)), .int (so), .int (se), .int (pu)])), (ab, .inr (3, [.ref abk, .ref abt, .ref abg, .int (cn), .int (st), .int (kn), .int (sb)])), (abk, .inl (cI, 10, .inl (kd))), (abt, .inl (cI, 10, .inl (tk))), (abg, .inl (cZ, 10, .inl (gr)))] := hD
  refine lv_aload_n hx hb dX0_begin_20 rfl (lv_at hl 0 rfl) ?_
  refine lv_aload_n hx hb dX0_begin_21 rfl (lv_at hl 1 rfl) ?_
  refine va_get (D := D) (ci := 3) (v := .int (sb)) (C := RX3) (T := TX3) (N := 7) hx hb hts inX3 hown hK hP 1 rfl rfl 6 (by decide) (hts (.fieldLink RX0 33 "ScooterFlags$Street" "soleBears" "I") (by decide +kernel)) (fun _ h9 => h9) rfl dX0_begin_22 ?_
  refine va_put (D := D) (ci := 0) (v := .int (sb)) (ty := .int) (C := RX0) (T := TX0) (N := 7) hx hb hts inX0 tyX0 tyX0_ok nmX0 hown hK hP hD hS 0 rfl rfl 4 (by decide) (hts (.fieldLink RX0 24 "ScooterFlags$Rider" "soleLeft" "I") (by decide +kernel)) (fun _ h9 => h9) rfl (by decide +kernel) rfl rfl (Nat.le_of_ble_eq_true rfl) dX0_begin_25 (fun H locs hP hD hS => ?_)
  have hP : va_P D vwCl [(ar, .inr (0, [.int ((0 : Int32)), .int ((0 : Int32)), .int ((0 : Int32)), .int ((0 : Int32)), .int (sb), .int (se), .int (pu)])), (ab, .inr (3, [.ref abk, .ref abt, .ref abg, .int (cn), .int (st), .int (kn), .int (sb)])), (abk, .inl (cI, 10, .inl (kd))), (abt, .inl (cI, 10, .inl (tk))), (abg, .inl (cZ, 10, .inl (gr)))] H := hP
  have hD : va_D A [(ar, .inr (0, [.int ((0 : Int32)), .int ((0 : Int32)), .int ((0 : Int32)), .int ((0 : Int32)), .int (sb), .int (se), .int (pu)])), (ab, .inr (3, [.ref abk, .ref abt, .ref abg, .int (cn), .int (st), .int (kn), .int (sb)])), (abk, .inl (cI, 10, .inl (kd))), (abt, .inl (cI, 10, .inl (tk))), (abg, .inl (cZ, 10, .inl (gr)))] := hD
  refine lv_aload_n hx hb dX0_begin_28 rfl (lv_at hl 0 rfl) ?_
  refine lv_iconst (v := (0 : Int32)) hx hb dX0_begin_29 (by decide) ?_
  refine va_put (D := D) (ci := 0) (v := .int ((0 : Int32))) (ty := .int) (C := RX0) (T := TX0) (N := 7) hx hb hts inX0 tyX0 tyX0_ok nmX0 hown hK hP hD hS 0 rfl rfl 5 (by decide) (hts (.fieldLink RX0 27 "ScooterFlags$Rider" "seconds" "I") (by decide +kernel)) (fun _ h9 => h9) rfl (by decide +kernel) rfl rfl (Nat.le_of_ble_eq_true rfl) dX0_begin_30 (fun H locs hP hD hS => ?_)
  have hP : va_P D vwCl [(ar, .inr (0, [.int ((0 : Int32)), .int ((0 : Int32)), .int ((0 : Int32)), .int ((0 : Int32)), .int (sb), .int ((0 : Int32)), .int (pu)])), (ab, .inr (3, [.ref abk, .ref abt, .ref abg, .int (cn), .int (st), .int (kn), .int (sb)])), (abk, .inl (cI, 10, .inl (kd))), (abt, .inl (cI, 10, .inl (tk))), (abg, .inl (cZ, 10, .inl (gr)))] H := hP
  have hD : va_D A [(ar, .inr (0, [.int ((0 : Int32)), .int ((0 : Int32)), .int ((0 : Int32)), .int ((0 : Int32)), .int (sb), .int ((0 : Int32)), .int (pu)])), (ab, .inr (3, [.ref abk, .ref abt, .ref abg, .int (cn), .int (st), .int (kn), .int (sb)])), (abk, .inl (cI, 10, .inl (kd))), (abt, .inl (cI, 10, .inl (tk))), (abg, .inl (cZ, 10, .inl (gr)))] := hD
  refine lv_aload_n hx hb dX0_begin_33 rfl (lv_at hl 0 rfl) ?_
  refine lv_iconst (v := (0 : Int32)) hx hb dX0_begin_34 (by decide) ?_
  refine va_put (D := D) (ci := 0) (v := .int ((0 : Int32))) (ty := .int) (C := RX0) (T := TX0) (N := 7) hx hb hts inX0 tyX0 tyX0_ok nmX0 hown hK hP hD hS 0 rfl rfl 6 (by decide) (hts (.fieldLink RX0 30 "ScooterFlags$Rider" "pushes" "I") (by decide +kernel)) (fun _ h9 => h9) rfl (by decide +kernel) rfl rfl (Nat.le_of_ble_eq_true rfl) dX0_begin_35 (fun H locs hP hD hS => ?_)
  have hP : va_P D vwCl [(ar, .inr (0, [.int ((0 : Int32)), .int ((0 : Int32)), .int ((0 : Int32)), .int ((0 : Int32)), .int (sb), .int ((0 : Int32)), .int ((0 : Int32))])), (ab, .inr (3, [.ref abk, .ref abt, .ref abg, .int (cn), .int (st), .int (kn), .int (sb)])), (abk, .inl (cI, 10, .inl (kd))), (abt, .inl (cI, 10, .inl (tk))), (abg, .inl (cZ, 10, .inl (gr)))] H := hP
  have hD : va_D A [(ar, .inr (0, [.int ((0 : Int32)), .int ((0 : Int32)), .int ((0 : Int32)), .int ((0 : Int32)), .int (sb), .int ((0 : Int32)), .int ((0 : Int32))])), (ab, .inr (3, [.ref abk, .ref abt, .ref abg, .int (cn), .int (st), .int (kn), .int (sb)])), (abk, .inl (cI, 10, .inl (kd))), (abt, .inl (cI, 10, .inl (tk))), (abg, .inl (cZ, 10, .inl (gr)))] := hD
  obtain rfl := Option.some.inj hg
  exact rtv hQ hx hb hr hlocks hK hP hD hS dX0_begin_38 rfl
def f_X0_can (fl : Int32) (pc : Int32) (ti : Int32) (so : Int32) (cn : Int32) (kn : Int32) (za : Int32) : Option (Int32) :=
  (f_X3_has cn fl).bind (fun o1 => if o1 = 0 then (some ((0 : Int32))) else (if za = 0 then (if kn ≤ ti then (some ((0 : Int32))) else (if (6 : Int32) ≤ pc then (some ((0 : Int32))) else (some ((1 : Int32))))) else if za = 1 then (some ((1 : Int32))) else if za = 2 then (if pc ≤ 0 then (some ((0 : Int32))) else (some ((1 : Int32)))) else if za = 3 then (if so ≤ 0 then (some ((0 : Int32))) else (if pc ≤ 0 then (some ((0 : Int32))) else (some ((1 : Int32))))) else (if za = (4 : Int32) then (some ((1 : Int32))) else (some ((0 : Int32))))))
set_option maxHeartbeats 4000000 in
set_option maxRecDepth 100000 in
theorem c_X0_can (l : Launch) (D : va_G) (cI cZ cR : ClassId) (ar : Nat) (ab : Nat) (abk : Nat) (abt : Nat) (abg : Nat) (fl : Int32) (pc : Int32) (ft : Int32) (ti : Int32) (so : Int32) (se : Int32) (pu : Int32) (cn : Int32) (st : Int32) (kn : Int32) (sb : Int32) (kd : Nat → Int32) (tk : Nat → Int32) (gr : Nat → Int32) (za : Int32) {res : Int32} (hg : f_X0_can fl pc ti so cn kn za = some res) : MI l yX0_can wsX0_can ({ frames := 1, cells := 0, slots := 0, locals := 21 }) D (T3 cI cZ cR) [(ar, .inr (0, [.int (fl), .int (pc), .int (ft), .int (ti), .int (so), .int (se), .int (pu)])), (ab, .inr (3, [.ref abk, .ref abt, .ref abg, .int (cn), .int (st), .int (kn), .int (sb)])), (abk, .inl (cI, 10, .inl (kd))), (abt, .inl (cI, 10, .inl (tk))), (abg, .inl (cZ, 10, .inl (gr)))] [.ref ar, .ref ab, .int (za)] (fun r u => res = r ∧ u = [(ar, .inr (0, [.int (fl), .int (pc), .int (ft), .int (ti), .int (so), .int (se), .int (pu)])), (ab, .inr (3, [.ref abk, .ref abt, .ref abg, .int (cn), .int (st), .int (kn), .int (sb)])), (abk, .inl (cI, 10, .inl (kd))), (abt, .inl (cI, 10, .inl (tk))), (abg, .inl (cZ, 10, .inl (gr)))]) := by
  refine entI (Rn := RX0) (by decide +kernel) rfl rfl (Nat.le_of_ble_eq_true rfl) (fun p e s m args below meth c A Q hx hb hr hml hts hown hlocks hA hP hD hK hS ls hl hQ => ?_)
  have inX0 : ∀ w ∈ u_ws RX0 TX0 7, w ∈ wsX0_can := by decide +kernel
  have inX3 : ∀ w ∈ u_ws RX3 TX3 7, w ∈ wsX0_can := by decide +kernel
  have hl : lv_has ls 3 [(0, .ref ar), (1, .ref ab), (2, .int (za))] := hl
  rw [f_X0_can] at hg
  refine lv_aload_n hx hb dX0_can_0 rfl (lv_at hl 1 rfl) ?_
  refine lv_aload_n hx hb dX0_can_1 rfl (lv_at hl 0 rfl) ?_
  refine va_get (D := D) (ci := 0) (v := .int (fl)) (C := RX0) (T := TX0) (N := 7) hx hb hts inX0 hown hK hP 0 rfl rfl 0 (by decide) (hts (.fieldLink RX0 9 "ScooterFlags$Rider" "flag" "I") (by decide +kernel)) (fun _ h9 => h9) rfl dX0_can_2 ?_
  obtain ⟨o1, h2, hg⟩ := bd hg
  refine xcVi (As := [.int (fl)]) (rest := []) (wc := [(ab, .inr (3, [.ref abk, .ref abt, .ref abg, .int (cn), .int (st), .int (kn), .int (sb)])), (abk, .inl (cI, 10, .inl (kd))), (abt, .inl (cI, 10, .inl (tk))), (abg, .inl (cZ, 10, .inl (gr)))]) (wr := [(ar, .inr (0, [.int (fl), .int (pc), .int (ft), .int (ti), .int (so), .int (se), .int (pu)]))]) ⟨hx, hb, hml, hown, hts⟩ (c_X3_has l D cI cZ cR ab abk abt abg cn st kn sb kd tk gr fl h2) (cwV 1 hts gX0_can_X3_has rfl rfl rfl (by decide +kernel) ⟨Nat.le_of_ble_eq_true rfl, Nat.le_of_ble_eq_true rfl⟩) hK hP hD hS hA [1, 2, 3, 4] [0] rfl rfl (by decide) (by decide) (by decide) (va_recv hK hP (ci := 3) (q0 := 1) rfl rfl) rfl rfl hl.1 (lv_room (Nat.le_of_ble_eq_true rfl)) dX0_can_5 ⟨Nat.le_of_ble_eq_true rfl, Nat.le_of_ble_eq_true rfl⟩ (fun r u H locs hu hP hD hS => ?_)
  obtain ⟨rfl, rfl⟩ := hu
  have hP : va_P D vwCl [(ar, .inr (0, [.int (fl), .int (pc), .int (ft), .int (ti), .int (so), .int (se), .int (pu)])), (ab, .inr (3, [.ref abk, .ref abt, .ref abg, .int (cn), .int (st), .int (kn), .int (sb)])), (abk, .inl (cI, 10, .inl (kd))), (abt, .inl (cI, 10, .inl (tk))), (abg, .inl (cZ, 10, .inl (gr)))] H := hP.sub [0, 1, 2, 3, 4] rfl
  have hD : va_D A [(ar, .inr (0, [.int (fl), .int (pc), .int (ft), .int (ti), .int (so), .int (se), .int (pu)])), (ab, .inr (3, [.ref abk, .ref abt, .ref abg, .int (cn), .int (st), .int (kn), .int (sb)])), (abk, .inl (cI, 10, .inl (kd))), (abt, .inl (cI, 10, .inl (tk))), (abg, .inl (cZ, 10, .inl (gr)))] := hD.sub [0, 1, 2, 3, 4] (by decide) rfl
  refine lv_if_ne (tgt := 13) hx hb dX0_can_8 (by decide) (fun c3 => ?_) (fun c3 => ?_)
  · have hg := ie hg c3
    refine lv_iload_n hx hb dX0_can_13 rfl (lv_at hl 2 rfl) ?_
    by_cases c4 : za = 0
    · have hg := it hg c4
      refine lv_tableIn (off := 30) (tgt := 44) hx hb dX0_can_14 (by rw [c4]; decide) (by rw [c4]; decide) (by rw [c4]; rfl) (by decide) ?_
      refine lv_aload_n hx hb dX0_can_44 rfl (lv_at hl 0 rfl) ?_
      refine va_get (D := D) (ci := 0) (v := .int (ti)) (C := RX0) (T := TX0) (N := 7) hx hb hts inX0 hown hK hP 0 rfl rfl 3 (by decide) (hts (.fieldLink RX0 21 "ScooterFlags$Rider" "tired" "I") (by decide +kernel)) (fun _ h9 => h9) rfl dX0_can_45 ?_
      refine lv_aload_n hx hb dX0_can_48 rfl (lv_at hl 1 rfl) ?_
      refine va_get (D := D) (ci := 3) (v := .int (kn)) (C := RX3) (T := TX3) (N := 7) hx hb hts inX3 hown hK hP 1 rfl rfl 5 (by decide) (hts (.fieldLink RX0 42 "ScooterFlags$Street" "kneeBears" "I") (by decide +kernel)) (fun _ h9 => h9) rfl dX0_can_49 ?_
      refine lv_icmp_ge (tgt := 68) hx hb dX0_can_52 (by decide) (fun c5 => ?_) (fun c5 => ?_)
      · have hg := it hg c5
        refine lv_iconst (v := (0 : Int32)) hx hb dX0_can_68 (by decide) ?_
        obtain rfl := Option.some.inj hg
        exact rtz hQ hx hb hr rfl hlocks hK hP hD hS dX0_can_69 ⟨rfl, rfl⟩
      · have hg := ie hg c5
        refine lv_aload_n hx hb dX0_can_55 rfl (lv_at hl 0 rfl) ?_
        refine va_get (D := D) (ci := 0) (v := .int (pc)) (C := RX0) (T := TX0) (N := 7) hx hb hts inX0 hown hK hP 0 rfl rfl 1 (by decide) (hts (.fieldLink RX0 15 "ScooterFlags$Rider" "pace" "I") (by decide +kernel)) (fun _ h9 => h9) rfl dX0_can_56 ?_
        refine lv_bipush (v := (6 : Int32)) hx hb dX0_can_59 (by decide) ?_
        refine lv_icmp_ge (tgt := 68) hx hb dX0_can_61 (by decide) (fun c6 => ?_) (fun c6 => ?_)
        · have hg := it hg c6
          refine lv_iconst (v := (0 : Int32)) hx hb dX0_can_68 (by decide) ?_
          obtain rfl := Option.some.inj hg
          exact rtz hQ hx hb hr rfl hlocks hK hP hD hS dX0_can_69 ⟨rfl, rfl⟩
        · have hg := ie hg c6
          refine lv_iconst (v := (1 : Int32)) hx hb dX0_can_64 (by decide) ?_
          refine lv_goto (tgt := 69) hx hb dX0_can_65 (by decide) ?_
          obtain rfl := Option.some.inj hg
          exact rtz hQ hx hb hr rfl hlocks hK hP hD hS dX0_can_69 ⟨rfl, rfl⟩
    · have hg := ie hg c4
      by_cases c7 : za = 1
      · have hg := it hg c7
        refine lv_tableIn (off := 56) (tgt := 70) hx hb dX0_can_14 (by rw [c7]; decide) (by rw [c7]; decide) (by rw [c7]; rfl) (by decide) ?_
        refine lv_iconst (v := (1 : Int32)) hx hb dX0_can_70 (by decide) ?_
        obtain rfl := Option.some.inj hg
        exact rtz hQ hx hb hr rfl hlocks hK hP hD hS dX0_can_71 ⟨rfl, rfl⟩
      · have hg := ie hg c7
        by_cases c8 : za = 2
        · have hg := it hg c8
          refine lv_tableIn (off := 58) (tgt := 72) hx hb dX0_can_14 (by rw [c8]; decide) (by rw [c8]; decide) (by rw [c8]; rfl) (by decide) ?_
          refine lv_aload_n hx hb dX0_can_72 rfl (lv_at hl 0 rfl) ?_
          refine va_get (D := D) (ci := 0) (v := .int (pc)) (C := RX0) (T := TX0) (N := 7) hx hb hts inX0 hown hK hP 0 rfl rfl 1 (by decide) (hts (.fieldLink RX0 15 "ScooterFlags$Rider" "pace" "I") (by decide +kernel)) (fun _ h9 => h9) rfl dX0_can_73 ?_
          refine lv_if_le (tgt := 83) hx hb dX0_can_76 (by decide) (fun c9 => ?_) (fun c9 => ?_)
          · have hg := it hg c9
            refine lv_iconst (v := (0 : Int32)) hx hb dX0_can_83 (by decide) ?_
            obtain rfl := Option.some.inj hg
            exact rtz hQ hx hb hr rfl hlocks hK hP hD hS dX0_can_84 ⟨rfl, rfl⟩
          · have hg := ie hg c9
            refine lv_iconst (v := (1 : Int32)) hx hb dX0_can_79 (by decide) ?_
            refine lv_goto (tgt := 84) hx hb dX0_can_80 (by decide) ?_
            obtain rfl := Option.some.inj hg
            exact rtz hQ hx hb hr rfl hlocks hK hP hD hS dX0_can_84 ⟨rfl, rfl⟩
        · have hg := ie hg c8
          by_cases c10 : za = 3
          · have hg := it hg c10
            refine lv_tableIn (off := 71) (tgt := 85) hx hb dX0_can_14 (by rw [c10]; decide) (by rw [c10]; decide) (by rw [c10]; rfl) (by decide) ?_
            refine lv_aload_n hx hb dX0_can_85 rfl (lv_at hl 0 rfl) ?_
            refine va_get (D := D) (ci := 0) (v := .int (so)) (C := RX0) (T := TX0) (N := 7) hx hb hts inX0 hown hK hP 0 rfl rfl 4 (by decide) (hts (.fieldLink RX0 24 "ScooterFlags$Rider" "soleLeft" "I") (by decide +kernel)) (fun _ h9 => h9) rfl dX0_can_86 ?_
            refine lv_if_le (tgt := 103) hx hb dX0_can_89 (by decide) (fun c11 => ?_) (fun c11 => ?_)
            · have hg := it hg c11
              refine lv_iconst (v := (0 : Int32)) hx hb dX0_can_103 (by decide) ?_
              obtain rfl := Option.some.inj hg
              exact rtz hQ hx hb hr rfl hlocks hK hP hD hS dX0_can_104 ⟨rfl, rfl⟩
            · have hg := ie hg c11
              refine lv_aload_n hx hb dX0_can_92 rfl (lv_at hl 0 rfl) ?_
              refine va_get (D := D) (ci := 0) (v := .int (pc)) (C := RX0) (T := TX0) (N := 7) hx hb hts inX0 hown hK hP 0 rfl rfl 1 (by decide) (hts (.fieldLink RX0 15 "ScooterFlags$Rider" "pace" "I") (by decide +kernel)) (fun _ h9 => h9) rfl dX0_can_93 ?_
              refine lv_if_le (tgt := 103) hx hb dX0_can_96 (by decide) (fun c12 => ?_) (fun c12 => ?_)
              · have hg := it hg c12
                refine lv_iconst (v := (0 : Int32)) hx hb dX0_can_103 (by decide) ?_
                obtain rfl := Option.some.inj hg
                exact rtz hQ hx hb hr rfl hlocks hK hP hD hS dX0_can_104 ⟨rfl, rfl⟩
              · have hg := ie hg c12
                refine lv_iconst (v := (1 : Int32)) hx hb dX0_can_99 (by decide) ?_
                refine lv_goto (tgt := 104) hx hb dX0_can_100 (by decide) ?_
                obtain rfl := Option.some.inj hg
                exact rtz hQ hx hb hr rfl hlocks hK hP hD hS dX0_can_104 ⟨rfl, rfl⟩
          · have hg := ie hg c10
            have nc4 := lv_neT c4 (show ((0 : Int32)).toInt = 0 from rfl)
            have nc7 := lv_neT c7 (show ((1 : Int32)).toInt = 1 from rfl)
            have nc8 := lv_neT c8 (show ((2 : Int32)).toInt = 2 from rfl)
            have nc10 := lv_neT c10 (show ((3 : Int32)).toInt = 3 from rfl)
            refine lv_tableOut (tgt := 105) hx hb dX0_can_14 (by omega) (by decide) ?_
            refine lv_iload_n hx hb dX0_can_105 rfl (lv_at hl 2 rfl) ?_
            refine lv_iconst (v := (4 : Int32)) hx hb dX0_can_106 (by decide) ?_
            refine lv_icmp_ne (tgt := 114) hx hb dX0_can_107 (by decide) (fun c13 => ?_) (fun c13 => ?_)
            · have hg := ie hg c13
              refine lv_iconst (v := (0 : Int32)) hx hb dX0_can_114 (by decide) ?_
              obtain rfl := Option.some.inj hg
              exact rtz hQ hx hb hr rfl hlocks hK hP hD hS dX0_can_115 ⟨rfl, rfl⟩
            · have hg := it hg c13
              refine lv_iconst (v := (1 : Int32)) hx hb dX0_can_110 (by decide) ?_
              refine lv_goto (tgt := 115) hx hb dX0_can_111 (by decide) ?_
              obtain rfl := Option.some.inj hg
              exact rtz hQ hx hb hr rfl hlocks hK hP hD hS dX0_can_115 ⟨rfl, rfl⟩
  · have hg := it hg c3
    refine lv_iconst (v := (0 : Int32)) hx hb dX0_can_11 (by decide) ?_
    obtain rfl := Option.some.inj hg
    exact rtz hQ hx hb hr rfl hlocks hK hP hD hS dX0_can_12 ⟨rfl, rfl⟩
def f_X0_roll_L30 (cn : Int32) (gr : Nat → Int32) (k87 : Int32 → Int32 → Option (Int32 × Int32)) (k99 : Int32 → Int32 → Option (Int32 × Int32)) : Nat → Int32 → Int32 → Int32 → Int32 → Option (Int32 × Int32)
  | 0, _, _, _, _ => none
  | n + 1, x2, x3, fl, pc => if x2 ≤ x3 then (k99 fl pc) else ((f_X3_has cn fl).bind (fun o4 => if o4 = 0 then (k99 fl pc) else (if pc < (4 : Int32) then (f_X0_roll_L30 cn gr k87 k99 n x2 (x3 + (1 : Int32)) (fl + (1 : Int32)) pc) else ((f_X3_has cn (fl + (1 : Int32))).bind (fun o8 => if o8 = 0 then (f_X0_roll_L30 cn gr k87 k99 n x2 (x3 + (1 : Int32)) (fl + (1 : Int32)) pc) else (gx (fl + (1 : Int32)) 10 (if (gr (fl + (1 : Int32)).toNatClampNeg) = 0 then (f_X0_roll_L30 cn gr k87 k99 n x2 (x3 + (1 : Int32)) (fl + (1 : Int32)) pc) else (k87 (fl + (1 : Int32)) pc))))))))
def f_X0_roll (fl : Int32) (pc : Int32) (cn : Int32) (kd : Nat → Int32) (tk : Nat → Int32) (gr : Nat → Int32) : Option (Int32 × Int32) :=
  (f_X3_dragOf cn kd tk fl).bind (fun o1 => f_X0_roll_L30 cn gr (fun (fl : Int32) (pc : Int32) => some (fl, (0 : Int32))) (fun (fl : Int32) (pc : Int32) => some (fl, pc)) 100 ((if (0 : Int32) < (pc - o1) then (pc - o1) else (0 : Int32)) / (2 : Int32)) (0 : Int32) fl (if (0 : Int32) < (pc - o1) then (pc - o1) else (0 : Int32)))
set_option maxHeartbeats 4000000 in
set_option maxRecDepth 100000 in
theorem c_X0_roll (l : Launch) (D : va_G) (cI cZ cR : ClassId) (ar : Nat) (ab : Nat) (abk : Nat) (abt : Nat) (abg : Nat) (fl : Int32) (pc : Int32) (ft : Int32) (ti : Int32) (so : Int32) (se : Int32) (pu : Int32) (cn : Int32) (st : Int32) (kn : Int32) (sb : Int32) (kd : Nat → Int32) (tk : Nat → Int32) (gr : Nat → Int32) {res : Int32 × Int32} (hg : f_X0_roll fl pc cn kd tk gr = some res) : MV l yX0_roll wsX0_roll ({ frames := 1, cells := 0, slots := 0, locals := 21 }) D (T3 cI cZ cR) [(ar, .inr (0, [.int (fl), .int (pc), .int (ft), .int (ti), .int (so), .int (se), .int (pu)])), (ab, .inr (3, [.ref abk, .ref abt, .ref abg, .int (cn), .int (st), .int (kn), .int (sb)])), (abk, .inl (cI, 10, .inl (kd))), (abt, .inl (cI, 10, .inl (tk))), (abg, .inl (cZ, 10, .inl (gr)))] [.ref ar, .ref ab] (fun u => u = [(ar, .inr (0, [.int (res.1), .int (res.2), .int (ft), .int (ti), .int (so), .int (se), .int (pu)])), (ab, .inr (3, [.ref abk, .ref abt, .ref abg, .int (cn), .int (st), .int (kn), .int (sb)])), (abk, .inl (cI, 10, .inl (kd))), (abt, .inl (cI, 10, .inl (tk))), (abg, .inl (cZ, 10, .inl (gr)))]) := by
  refine entV (Rn := RX0) (by decide +kernel) rfl rfl (Nat.le_of_ble_eq_true rfl) (fun p e s m args below meth c A Q hx hb hr hml hts hown hlocks hA hP hD hK hS ls hl hQ => ?_)
  have inX0 : ∀ w ∈ u_ws RX0 TX0 7, w ∈ wsX0_roll := by decide +kernel
  have inX3 : ∀ w ∈ u_ws RX3 TX3 7, w ∈ wsX0_roll := by decide +kernel
  have lp_30 : ∀ (k87 : Int32 → Int32 → Option (Int32 × Int32)) (k99 : Int32 → Int32 → Option (Int32 × Int32)) (hk87 : ∀ (fl : Int32) (pc : Int32), k87 fl pc = some res → ∀ (H : Heap) (locs : List Loc), va_P D vwCl [(ar, .inr (0, [.int (fl), .int (pc), .int (ft), .int (ti), .int (so), .int (se), .int (pu)])), (ab, .inr (3, [.ref abk, .ref abt, .ref abg, .int (cn), .int (st), .int (kn), .int (sb)])), (abk, .inl (cI, 10, .inl (kd))), (abt, .inl (cI, 10, .inl (tk))), (abg, .inl (cZ, 10, .inl (gr)))] H → va_D A [(ar, .inr (0, [.int (fl), .int (pc), .int (ft), .int (ti), .int (so), .int (se), .int (pu)])), (ab, .inr (3, [.ref abk, .ref abt, .ref abg, .int (cn), .int (st), .int (kn), .int (sb)])), (abk, .inl (cI, 10, .inl (kd))), (abt, .inl (cI, 10, .inl (tk))), (abg, .inl (cZ, 10, .inl (gr)))] → va_S A s.heap H locs → ∀ (ls : Array Slot), lv_has ls 4 [(0, .ref ar)] → W p l e ({ frames := 1, cells := 0, slots := 0, locals := 21 }) s m args below meth c H locs 0 0 Q (F0 m 87 ls [])) (hk99 : ∀ (fl : Int32) (pc : Int32), k99 fl pc = some res → ∀ (H : Heap) (locs : List Loc), va_P D vwCl [(ar, .inr (0, [.int (fl), .int (pc), .int (ft), .int (ti), .int (so), .int (se), .int (pu)])), (ab, .inr (3, [.ref abk, .ref abt, .ref abg, .int (cn), .int (st), .int (kn), .int (sb)])), (abk, .inl (cI, 10, .inl (kd))), (abt, .inl (cI, 10, .inl (tk))), (abg, .inl (cZ, 10, .inl (gr)))] H → va_D A [(ar, .inr (0, [.int (fl), .int (pc), .int (ft), .int (ti), .int (so), .int (se), .int (pu)])), (ab, .inr (3, [.ref abk, .ref abt, .ref abg, .int (cn), .int (st), .int (kn), .int (sb)])), (abk, .inl (cI, 10, .inl (kd))), (abt, .inl (cI, 10, .inl (tk))), (abg, .inl (cZ, 10, .inl (gr)))] → va_S A s.heap H locs → ∀ (ls : Array Slot), lv_has ls 4 [] → W p l e ({ frames := 1, cells := 0, slots := 0, locals := 21 }) s m args below meth c H locs 0 0 Q (F0 m 99 ls [])) (n : Nat) (x2 : Int32) (x3 : Int32) (fl : Int32) (pc : Int32), f_X0_roll_L30 cn gr k87 k99 n x2 x3 fl pc = some res → ∀ (H : Heap) (locs : List Loc), va_P D vwCl [(ar, .inr (0, [.int (fl), .int (pc), .int (ft), .int (ti), .int (so), .int (se), .int (pu)])), (ab, .inr (3, [.ref abk, .ref abt, .ref abg, .int (cn), .int (st), .int (kn), .int (sb)])), (abk, .inl (cI, 10, .inl (kd))), (abt, .inl (cI, 10, .inl (tk))), (abg, .inl (cZ, 10, .inl (gr)))] H → va_D A [(ar, .inr (0, [.int (fl), .int (pc), .int (ft), .int (ti), .int (so), .int (se), .int (pu)])), (ab, .inr (3, [.ref abk, .ref abt, .ref abg, .int (cn), .int (st), .int (kn), .int (sb)])), (abk, .inl (cI, 10, .inl (kd))), (abt, .inl (cI, 10, .inl (tk))), (abg, .inl (cZ, 10, .inl (gr)))] → va_S A s.heap H locs → ∀ (ls : Array Slot), lv_has ls 4 [(0, .ref ar), (1, .ref ab), (2, .int (x2)), (3, .int (x3))] → W p l e ({ frames := 1, cells := 0, slots := 0, locals := 21 }) s m args below meth c H locs 0 0 Q (F0 m 30 ls []) := by
    intro k87 k99 hk87 hk99 n
    induction n with
    | zero => intro x2 x3 fl pc hg; rw [f_X0_roll_L30] at hg; cases hg
    | succ n ih =>
      intro x2 x3 fl pc hg H locs hP hD hS ls hl
      rw [f_X0_roll_L30] at hg
      refine lv_iload_n hx hb dX0_roll_30 rfl (lv_at hl 3 rfl) ?_
      refine lv_iload_n hx hb dX0_roll_31 rfl (lv_at hl 2 rfl) ?_
      refine lv_icmp_ge (tgt := 99) hx hb dX0_roll_32 (by decide) (fun c3 => ?_) (fun c3 => ?_)
      · have hg := it hg c3
        exact hk99 fl pc hg _ _ hP hD hS _ (lv_sub hl [] rfl)
      · have hg := ie hg c3
        refine lv_aload_n hx hb dX0_roll_35 rfl (lv_at hl 1 rfl) ?_
        refine lv_aload_n hx hb dX0_roll_36 rfl (lv_at hl 0 rfl) ?_
        refine va_get (D := D) (ci := 0) (v := .int (fl)) (C := RX0) (T := TX0) (N := 7) hx hb hts inX0 hown hK hP 0 rfl rfl 0 (by decide) (hts (.fieldLink RX0 9 "ScooterFlags$Rider" "flag" "I") (by decide +kernel)) (fun _ h9 => h9) rfl dX0_roll_37 ?_
        obtain ⟨o4, h5, hg⟩ := bd hg
        refine xcVi (As := [.int (fl)]) (rest := []) (wc := [(ab, .inr (3, [.ref abk, .ref abt, .ref abg, .int (cn), .int (st), .int (kn), .int (sb)])), (abk, .inl (cI, 10, .inl (kd))), (abt, .inl (cI, 10, .inl (tk))), (abg, .inl (cZ, 10, .inl (gr)))]) (wr := [(ar, .inr (0, [.int (fl), .int (pc), .int (ft), .int (ti), .int (so), .int (se), .int (pu)]))]) ⟨hx, hb, hml, hown, hts⟩ (c_X3_has l D cI cZ cR ab abk abt abg cn st kn sb kd tk gr fl h5) (cwV 1 hts gX0_roll_X3_has rfl rfl rfl (by decide +kernel) ⟨Nat.le_of_ble_eq_true rfl, Nat.le_of_ble_eq_true rfl⟩) hK hP hD hS hA [1, 2, 3, 4] [0] rfl rfl (by decide) (by decide) (by decide) (va_recv hK hP (ci := 3) (q0 := 1) rfl rfl) rfl rfl hl.1 (lv_room (Nat.le_of_ble_eq_true rfl)) dX0_roll_40 ⟨Nat.le_of_ble_eq_true rfl, Nat.le_of_ble_eq_true rfl⟩ (fun r u H locs hu hP hD hS => ?_)
        obtain ⟨rfl, rfl⟩ := hu
        have hP : va_P D vwCl [(ar, .inr (0, [.int (fl), .int (pc), .int (ft), .int (ti), .int (so), .int (se), .int (pu)])), (ab, .inr (3, [.ref abk, .ref abt, .ref abg, .int (cn), .int (st), .int (kn), .int (sb)])), (abk, .inl (cI, 10, .inl (kd))), (abt, .inl (cI, 10, .inl (tk))), (abg, .inl (cZ, 10, .inl (gr)))] H := hP.sub [0, 1, 2, 3, 4] rfl
        have hD : va_D A [(ar, .inr (0, [.int (fl), .int (pc), .int (ft), .int (ti), .int (so), .int (se), .int (pu)])), (ab, .inr (3, [.ref abk, .ref abt, .ref abg, .int (cn), .int (st), .int (kn), .int (sb)])), (abk, .inl (cI, 10, .inl (kd))), (abt, .inl (cI, 10, .inl (tk))), (abg, .inl (cZ, 10, .inl (gr)))] := hD.sub [0, 1, 2, 3, 4] (by decide) rfl
        refine lv_if_eq (tgt := 99) hx hb dX0_roll_43 (by decide) (fun c6 => ?_) (fun c6 => ?_)
        · have hg := it hg c6
          exact hk99 fl pc hg _ _ hP hD hS _ (lv_sub hl [] rfl)
        · have hg := ie hg c6
          refine lv_aload_n hx hb dX0_roll_46 rfl (lv_at hl 0 rfl) ?_
          refine lv_dup hx hb dX0_roll_47 rfl ?_
          refine va_get (D := D) (ci := 0) (v := .int (fl)) (C := RX0) (T := TX0) (N := 7) hx hb hts inX0 hown hK hP 0 rfl rfl 0 (by decide) (hts (.fieldLink RX0 9 "ScooterFlags$Rider" "flag" "I") (by decide +kernel)) (fun _ h9 => h9) rfl dX0_roll_48 ?_
          refine lv_iconst (v := (1 : Int32)) hx hb dX0_roll_51 (by decide) ?_
          refine lv_iadd hx hb dX0_roll_52 ?_
          refine va_put (D := D) (ci := 0) (v := .int ((fl + (1 : Int32)))) (ty := .int) (C := RX0) (T := TX0) (N := 7) hx hb hts inX0 tyX0 tyX0_ok nmX0 hown hK hP hD hS 0 rfl rfl 0 (by decide) (hts (.fieldLink RX0 9 "ScooterFlags$Rider" "flag" "I") (by decide +kernel)) (fun _ h9 => h9) rfl (by decide +kernel) rfl rfl (Nat.le_of_ble_eq_true rfl) dX0_roll_53 (fun H locs hP hD hS => ?_)
          have hP : va_P D vwCl [(ar, .inr (0, [.int ((fl + (1 : Int32))), .int (pc), .int (ft), .int (ti), .int (so), .int (se), .int (pu)])), (ab, .inr (3, [.ref abk, .ref abt, .ref abg, .int (cn), .int (st), .int (kn), .int (sb)])), (abk, .inl (cI, 10, .inl (kd))), (abt, .inl (cI, 10, .inl (tk))), (abg, .inl (cZ, 10, .inl (gr)))] H := hP
          have hD : va_D A [(ar, .inr (0, [.int ((fl + (1 : Int32))), .int (pc), .int (ft), .int (ti), .int (so), .int (se), .int (pu)])), (ab, .inr (3, [.ref abk, .ref abt, .ref abg, .int (cn), .int (st), .int (kn), .int (sb)])), (abk, .inl (cI, 10, .inl (kd))), (abt, .inl (cI, 10, .inl (tk))), (abg, .inl (cZ, 10, .inl (gr)))] := hD
          refine lv_aload_n hx hb dX0_roll_56 rfl (lv_at hl 0 rfl) ?_
          refine va_get (D := D) (ci := 0) (v := .int (pc)) (C := RX0) (T := TX0) (N := 7) hx hb hts inX0 hown hK hP 0 rfl rfl 1 (by decide) (hts (.fieldLink RX0 15 "ScooterFlags$Rider" "pace" "I") (by decide +kernel)) (fun _ h9 => h9) rfl dX0_roll_57 ?_
          refine lv_iconst (v := (4 : Int32)) hx hb dX0_roll_60 (by decide) ?_
          refine lv_icmp_lt (tgt := 93) hx hb dX0_roll_61 (by decide) (fun c7 => ?_) (fun c7 => ?_)
          · have hg := it hg c7
            refine lv_iinc (v := (x3 + (1 : Int32))) (lv' := [(3, .int ((x3 + (1 : Int32)))), (0, .ref ar), (1, .ref ab), (2, .int (x2))]) hx hb dX0_roll_93 hl (k := 3) rfl rfl (by decide) rfl (fun ls hl => ?_)
            refine lv_goto (tgt := 30) hx hb dX0_roll_96 (by decide) ?_
            exact ih x2 (x3 + (1 : Int32)) (fl + (1 : Int32)) pc hg _ _ hP hD hS _ (lv_sub hl [1, 2, 3, 0] rfl)
          · have hg := ie hg c7
            refine lv_aload_n hx hb dX0_roll_64 rfl (lv_at hl 1 rfl) ?_
            refine lv_aload_n hx hb dX0_roll_65 rfl (lv_at hl 0 rfl) ?_
            refine va_get (D := D) (ci := 0) (v := .int ((fl + (1 : Int32)))) (C := RX0) (T := TX0) (N := 7) hx hb hts inX0 hown hK hP 0 rfl rfl 0 (by decide) (hts (.fieldLink RX0 9 "ScooterFlags$Rider" "flag" "I") (by decide +kernel)) (fun _ h9 => h9) rfl dX0_roll_66 ?_
            obtain ⟨o8, h9, hg⟩ := bd hg
            refine xcVi (As := [.int ((fl + (1 : Int32)))]) (rest := []) (wc := [(ab, .inr (3, [.ref abk, .ref abt, .ref abg, .int (cn), .int (st), .int (kn), .int (sb)])), (abk, .inl (cI, 10, .inl (kd))), (abt, .inl (cI, 10, .inl (tk))), (abg, .inl (cZ, 10, .inl (gr)))]) (wr := [(ar, .inr (0, [.int ((fl + (1 : Int32))), .int (pc), .int (ft), .int (ti), .int (so), .int (se), .int (pu)]))]) ⟨hx, hb, hml, hown, hts⟩ (c_X3_has l D cI cZ cR ab abk abt abg cn st kn sb kd tk gr (fl + (1 : Int32)) h9) (cwV 1 hts gX0_roll_X3_has rfl rfl rfl (by decide +kernel) ⟨Nat.le_of_ble_eq_true rfl, Nat.le_of_ble_eq_true rfl⟩) hK hP hD hS hA [1, 2, 3, 4] [0] rfl rfl (by decide) (by decide) (by decide) (va_recv hK hP (ci := 3) (q0 := 1) rfl rfl) rfl rfl hl.1 (lv_room (Nat.le_of_ble_eq_true rfl)) dX0_roll_69 ⟨Nat.le_of_ble_eq_true rfl, Nat.le_of_ble_eq_true rfl⟩ (fun r u H locs hu hP hD hS => ?_)
            obtain ⟨rfl, rfl⟩ := hu
            have hP : va_P D vwCl [(ar, .inr (0, [.int ((fl + (1 : Int32))), .int (pc), .int (ft), .int (ti), .int (so), .int (se), .int (pu)])), (ab, .inr (3, [.ref abk, .ref abt, .ref abg, .int (cn), .int (st), .int (kn), .int (sb)])), (abk, .inl (cI, 10, .inl (kd))), (abt, .inl (cI, 10, .inl (tk))), (abg, .inl (cZ, 10, .inl (gr)))] H := hP.sub [0, 1, 2, 3, 4] rfl
            have hD : va_D A [(ar, .inr (0, [.int ((fl + (1 : Int32))), .int (pc), .int (ft), .int (ti), .int (so), .int (se), .int (pu)])), (ab, .inr (3, [.ref abk, .ref abt, .ref abg, .int (cn), .int (st), .int (kn), .int (sb)])), (abk, .inl (cI, 10, .inl (kd))), (abt, .inl (cI, 10, .inl (tk))), (abg, .inl (cZ, 10, .inl (gr)))] := hD.sub [0, 1, 2, 3, 4] (by decide) rfl
            refine lv_if_eq (tgt := 93) hx hb dX0_roll_72 (by decide) (fun c10 => ?_) (fun c10 => ?_)
            · have hg := it hg c10
              refine lv_iinc (v := (x3 + (1 : Int32))) (lv' := [(3, .int ((x3 + (1 : Int32)))), (0, .ref ar), (1, .ref ab), (2, .int (x2))]) hx hb dX0_roll_93 hl (k := 3) rfl rfl (by decide) rfl (fun ls hl => ?_)
              refine lv_goto (tgt := 30) hx hb dX0_roll_96 (by decide) ?_
              exact ih x2 (x3 + (1 : Int32)) (fl + (1 : Int32)) pc hg _ _ hP hD hS _ (lv_sub hl [1, 2, 3, 0] rfl)
            · have hg := ie hg c10
              refine lv_aload_n hx hb dX0_roll_75 rfl (lv_at hl 1 rfl) ?_
              refine va_get (D := D) (ci := 3) (v := .ref abg) (C := RX3) (T := TX3) (N := 7) hx hb hts inX3 hown hK hP 1 rfl rfl 2 (by decide) (hts (.fieldLink RX0 65 "ScooterFlags$Street" "grated" "[Z") (by decide +kernel)) (fun _ h9 => h9) rfl dX0_roll_76 ?_
              refine lv_aload_n hx hb dX0_roll_79 rfl (lv_at hl 0 rfl) ?_
              refine va_get (D := D) (ci := 0) (v := .int ((fl + (1 : Int32)))) (C := RX0) (T := TX0) (N := 7) hx hb hts inX0 hown hK hP 0 rfl rfl 0 (by decide) (hts (.fieldLink RX0 9 "ScooterFlags$Rider" "flag" "I") (by decide +kernel)) (fun _ h9 => h9) rfl dX0_roll_80 ?_
              obtain ⟨g11, hg⟩ := gxo hg
              refine va_zald hx hb hK hP 4 1 rfl rfl g11 dX0_roll_83 ?_
              refine W.eq (g2 := F0 m 84 ls [.int ((gr (fl + (1 : Int32)).toNatClampNeg))]) rfl ?_
              refine lv_if_eq (tgt := 93) hx hb dX0_roll_84 (by decide) (fun c12 => ?_) (fun c12 => ?_)
              · have hg := it hg c12
                refine lv_iinc (v := (x3 + (1 : Int32))) (lv' := [(3, .int ((x3 + (1 : Int32)))), (0, .ref ar), (1, .ref ab), (2, .int (x2))]) hx hb dX0_roll_93 hl (k := 3) rfl rfl (by decide) rfl (fun ls hl => ?_)
                refine lv_goto (tgt := 30) hx hb dX0_roll_96 (by decide) ?_
                exact ih x2 (x3 + (1 : Int32)) (fl + (1 : Int32)) pc hg _ _ hP hD hS _ (lv_sub hl [1, 2, 3, 0] rfl)
              · have hg := ie hg c12
                exact hk87 (fl + (1 : Int32)) pc hg _ _ hP hD hS _ (lv_sub hl [0] rfl)
  have hl : lv_has ls 4 [(0, .ref ar), (1, .ref ab)] := hl
  rw [f_X0_roll] at hg
  refine lv_aload_n hx hb dX0_roll_0 rfl (lv_at hl 0 rfl) ?_
  refine lv_iconst (v := (0 : Int32)) hx hb dX0_roll_1 (by decide) ?_
  refine lv_aload_n hx hb dX0_roll_2 rfl (lv_at hl 0 rfl) ?_
  refine va_get (D := D) (ci := 0) (v := .int (pc)) (C := RX0) (T := TX0) (N := 7) hx hb hts inX0 hown hK hP 0 rfl rfl 1 (by decide) (hts (.fieldLink RX0 15 "ScooterFlags$Rider" "pace" "I") (by decide +kernel)) (fun _ h9 => h9) rfl dX0_roll_3 ?_
  refine lv_aload_n hx hb dX0_roll_6 rfl (lv_at hl 1 rfl) ?_
  refine lv_aload_n hx hb dX0_roll_7 rfl (lv_at hl 0 rfl) ?_
  refine va_get (D := D) (ci := 0) (v := .int (fl)) (C := RX0) (T := TX0) (N := 7) hx hb hts inX0 hown hK hP 0 rfl rfl 0 (by decide) (hts (.fieldLink RX0 9 "ScooterFlags$Rider" "flag" "I") (by decide +kernel)) (fun _ h9 => h9) rfl dX0_roll_8 ?_
  obtain ⟨o1, h2, hg⟩ := bd hg
  refine xcVi (As := [.int (fl)]) (rest := [.int (pc), .int ((0 : Int32)), .ref ar]) (wc := [(ab, .inr (3, [.ref abk, .ref abt, .ref abg, .int (cn), .int (st), .int (kn), .int (sb)])), (abk, .inl (cI, 10, .inl (kd))), (abt, .inl (cI, 10, .inl (tk))), (abg, .inl (cZ, 10, .inl (gr)))]) (wr := [(ar, .inr (0, [.int (fl), .int (pc), .int (ft), .int (ti), .int (so), .int (se), .int (pu)]))]) ⟨hx, hb, hml, hown, hts⟩ (c_X3_dragOf l D cI cZ cR ab abk abt abg cn st kn sb kd tk gr fl h2) (cwV 1 hts gX0_roll_X3_dragOf rfl rfl rfl (by decide +kernel) ⟨Nat.le_of_ble_eq_true rfl, Nat.le_of_ble_eq_true rfl⟩) hK hP hD hS hA [1, 2, 3, 4] [0] rfl rfl (by decide) (by decide) (by decide) (va_recv hK hP (ci := 3) (q0 := 1) rfl rfl) rfl rfl hl.1 (lv_room (Nat.le_of_ble_eq_true rfl)) dX0_roll_11 ⟨Nat.le_of_ble_eq_true rfl, Nat.le_of_ble_eq_true rfl⟩ (fun r u H locs hu hP hD hS => ?_)
  obtain ⟨rfl, rfl⟩ := hu
  have hP : va_P D vwCl [(ar, .inr (0, [.int (fl), .int (pc), .int (ft), .int (ti), .int (so), .int (se), .int (pu)])), (ab, .inr (3, [.ref abk, .ref abt, .ref abg, .int (cn), .int (st), .int (kn), .int (sb)])), (abk, .inl (cI, 10, .inl (kd))), (abt, .inl (cI, 10, .inl (tk))), (abg, .inl (cZ, 10, .inl (gr)))] H := hP.sub [0, 1, 2, 3, 4] rfl
  have hD : va_D A [(ar, .inr (0, [.int (fl), .int (pc), .int (ft), .int (ti), .int (so), .int (se), .int (pu)])), (ab, .inr (3, [.ref abk, .ref abt, .ref abg, .int (cn), .int (st), .int (kn), .int (sb)])), (abk, .inl (cI, 10, .inl (kd))), (abt, .inl (cI, 10, .inl (tk))), (abg, .inl (cZ, 10, .inl (gr)))] := hD.sub [0, 1, 2, 3, 4] (by decide) rfl
  refine lv_isub hx hb dX0_roll_14 ?_
  refine va_mmax hx hb (hml.trans hl.1.symm) hown (hts (.methodLink RX0 54 Lib.Math.max.name) (by decide +kernel)) (hts (.static Lib.Math.max.name) (by decide +kernel)) (hts (.initialized "java/lang/Math") (by decide +kernel)) (hts (.code Lib.Math.max.name Lib.Math.max.code 2 (some .int)) (by decide +kernel)) (Nat.le_of_ble_eq_true rfl) (Nat.le_of_ble_eq_true rfl) (Nat.le_of_ble_eq_true rfl) (Nat.le_of_ble_eq_true rfl) dX0_roll_15 ?_
  refine va_put (D := D) (ci := 0) (v := .int ((if (0 : Int32) < (pc - o1) then (pc - o1) else (0 : Int32)))) (ty := .int) (C := RX0) (T := TX0) (N := 7) hx hb hts inX0 tyX0 tyX0_ok nmX0 hown hK hP hD hS 0 rfl rfl 1 (by decide) (hts (.fieldLink RX0 15 "ScooterFlags$Rider" "pace" "I") (by decide +kernel)) (fun _ h9 => h9) rfl (by decide +kernel) rfl rfl (Nat.le_of_ble_eq_true rfl) dX0_roll_18 (fun H locs hP hD hS => ?_)
  have hP : va_P D vwCl [(ar, .inr (0, [.int (fl), .int ((if (0 : Int32) < (pc - o1) then (pc - o1) else (0 : Int32))), .int (ft), .int (ti), .int (so), .int (se), .int (pu)])), (ab, .inr (3, [.ref abk, .ref abt, .ref abg, .int (cn), .int (st), .int (kn), .int (sb)])), (abk, .inl (cI, 10, .inl (kd))), (abt, .inl (cI, 10, .inl (tk))), (abg, .inl (cZ, 10, .inl (gr)))] H := hP
  have hD : va_D A [(ar, .inr (0, [.int (fl), .int ((if (0 : Int32) < (pc - o1) then (pc - o1) else (0 : Int32))), .int (ft), .int (ti), .int (so), .int (se), .int (pu)])), (ab, .inr (3, [.ref abk, .ref abt, .ref abg, .int (cn), .int (st), .int (kn), .int (sb)])), (abk, .inl (cI, 10, .inl (kd))), (abt, .inl (cI, 10, .inl (tk))), (abg, .inl (cZ, 10, .inl (gr)))] := hD
  refine lv_aload_n hx hb dX0_roll_21 rfl (lv_at hl 0 rfl) ?_
  refine va_get (D := D) (ci := 0) (v := .int ((if (0 : Int32) < (pc - o1) then (pc - o1) else (0 : Int32)))) (C := RX0) (T := TX0) (N := 7) hx hb hts inX0 hown hK hP 0 rfl rfl 1 (by decide) (hts (.fieldLink RX0 15 "ScooterFlags$Rider" "pace" "I") (by decide +kernel)) (fun _ h9 => h9) rfl dX0_roll_22 ?_
  refine lv_iconst (v := (2 : Int32)) hx hb dX0_roll_25 (by decide) ?_
  refine lv_idiv hx hb dX0_roll_26 (by decide) ?_
  refine lv_istore_n (lv' := [(2, .int (((if (0 : Int32) < (pc - o1) then (pc - o1) else (0 : Int32)) / (2 : Int32)))), (0, .ref ar), (1, .ref ab)]) hx hb dX0_roll_27 rfl hl (by decide) rfl (fun ls hl => ?_)
  refine lv_iconst (v := (0 : Int32)) hx hb dX0_roll_28 (by decide) ?_
  refine lv_istore_n (lv' := [(3, .int ((0 : Int32))), (2, .int (((if (0 : Int32) < (pc - o1) then (pc - o1) else (0 : Int32)) / (2 : Int32)))), (0, .ref ar), (1, .ref ab)]) hx hb dX0_roll_29 rfl hl (by decide) rfl (fun ls hl => ?_)
  refine lp_30 _ _ ?_ ?_ 100 ((if (0 : Int32) < (pc - o1) then (pc - o1) else (0 : Int32)) / (2 : Int32)) (0 : Int32) fl (if (0 : Int32) < (pc - o1) then (pc - o1) else (0 : Int32)) hg _ _ hP hD hS _ (lv_sub hl [2, 3, 1, 0] rfl)
  · intro fl pc hg H locs hP hD hS ls hl
    refine lv_aload_n hx hb dX0_roll_87 rfl (lv_at hl 0 rfl) ?_
    refine lv_iconst (v := (0 : Int32)) hx hb dX0_roll_88 (by decide) ?_
    refine va_put (D := D) (ci := 0) (v := .int ((0 : Int32))) (ty := .int) (C := RX0) (T := TX0) (N := 7) hx hb hts inX0 tyX0 tyX0_ok nmX0 hown hK hP hD hS 0 rfl rfl 1 (by decide) (hts (.fieldLink RX0 15 "ScooterFlags$Rider" "pace" "I") (by decide +kernel)) (fun _ h9 => h9) rfl (by decide +kernel) rfl rfl (Nat.le_of_ble_eq_true rfl) dX0_roll_89 (fun H locs hP hD hS => ?_)
    have hP : va_P D vwCl [(ar, .inr (0, [.int (fl), .int ((0 : Int32)), .int (ft), .int (ti), .int (so), .int (se), .int (pu)])), (ab, .inr (3, [.ref abk, .ref abt, .ref abg, .int (cn), .int (st), .int (kn), .int (sb)])), (abk, .inl (cI, 10, .inl (kd))), (abt, .inl (cI, 10, .inl (tk))), (abg, .inl (cZ, 10, .inl (gr)))] H := hP
    have hD : va_D A [(ar, .inr (0, [.int (fl), .int ((0 : Int32)), .int (ft), .int (ti), .int (so), .int (se), .int (pu)])), (ab, .inr (3, [.ref abk, .ref abt, .ref abg, .int (cn), .int (st), .int (kn), .int (sb)])), (abk, .inl (cI, 10, .inl (kd))), (abt, .inl (cI, 10, .inl (tk))), (abg, .inl (cZ, 10, .inl (gr)))] := hD
    obtain rfl := Option.some.inj hg
    exact rtv hQ hx hb hr hlocks hK hP hD hS dX0_roll_92 rfl
  · intro fl pc hg H locs hP hD hS ls hl
    obtain rfl := Option.some.inj hg
    exact rtv hQ hx hb hr hlocks hK hP hD hS dX0_roll_99 rfl
def f_X0_goBy_133 (cn : Int32) (kd : Nat → Int32) (tk : Nat → Int32) (gr : Nat → Int32) (fl : Int32) (pc : Int32) (ft : Int32) (ti : Int32) (so : Int32) (se : Int32) (pu : Int32) : Option (Int32 × Int32 × Int32 × Int32 × Int32 × Int32 × Int32) :=
  (f_X0_roll fl pc cn kd tk gr).bind (fun o5 => some (o5.1, o5.2, ft, ti, so, (se + (1 : Int32)), pu))
def f_X0_goBy (fl : Int32) (pc : Int32) (ft : Int32) (ti : Int32) (so : Int32) (se : Int32) (pu : Int32) (cn : Int32) (st : Int32) (kd : Nat → Int32) (tk : Nat → Int32) (gr : Nat → Int32) (za : Int32) : Option (Int32 × Int32 × Int32 × Int32 × Int32 × Int32 × Int32) :=
  if za = (4 : Int32) then (some ((fl + (1 : Int32)), (0 : Int32), ft, (0 : Int32), so, (se + (3 : Int32)), pu)) else (if za = 0 then (f_X0_goBy_133 cn kd tk gr fl (if (pc + st) < (6 : Int32) then (pc + st) else (6 : Int32)) ft (ti + (1 : Int32)) so se (pu + (1 : Int32))) else (if za = (1 : Int32) then (f_X0_goBy_133 cn kd tk gr fl pc ((1 : Int32) - ft) (0 : Int32) so se pu) else (if za = (3 : Int32) then (f_X0_goBy_133 cn kd tk gr fl (if (0 : Int32) < (pc - (2 : Int32)) then (pc - (2 : Int32)) else (0 : Int32)) ft ti (so - (1 : Int32)) se pu) else (f_X0_goBy_133 cn kd tk gr fl pc ft ti so se pu))))
set_option maxHeartbeats 4000000 in
set_option maxRecDepth 100000 in
theorem c_X0_goBy (l : Launch) (D : va_G) (cI cZ cR : ClassId) (ar : Nat) (ab : Nat) (abk : Nat) (abt : Nat) (abg : Nat) (fl : Int32) (pc : Int32) (ft : Int32) (ti : Int32) (so : Int32) (se : Int32) (pu : Int32) (cn : Int32) (st : Int32) (kn : Int32) (sb : Int32) (kd : Nat → Int32) (tk : Nat → Int32) (gr : Nat → Int32) (za : Int32) {res : Int32 × Int32 × Int32 × Int32 × Int32 × Int32 × Int32} (hg : f_X0_goBy fl pc ft ti so se pu cn st kd tk gr za = some res) : MV l yX0_goBy wsX0_goBy ({ frames := 2, cells := 0, slots := 0, locals := 44 }) D (T3 cI cZ cR) [(ar, .inr (0, [.int (fl), .int (pc), .int (ft), .int (ti), .int (so), .int (se), .int (pu)])), (ab, .inr (3, [.ref abk, .ref abt, .ref abg, .int (cn), .int (st), .int (kn), .int (sb)])), (abk, .inl (cI, 10, .inl (kd))), (abt, .inl (cI, 10, .inl (tk))), (abg, .inl (cZ, 10, .inl (gr)))] [.ref ar, .ref ab, .int (za)] (fun u => u = [(ar, .inr (0, [.int (res.1), .int (res.2.1), .int (res.2.2.1), .int (res.2.2.2.1), .int (res.2.2.2.2.1), .int (res.2.2.2.2.2.1), .int (res.2.2.2.2.2.2)])), (ab, .inr (3, [.ref abk, .ref abt, .ref abg, .int (cn), .int (st), .int (kn), .int (sb)])), (abk, .inl (cI, 10, .inl (kd))), (abt, .inl (cI, 10, .inl (tk))), (abg, .inl (cZ, 10, .inl (gr)))]) := by
  refine entV (Rn := RX0) (by decide +kernel) rfl rfl (Nat.le_of_ble_eq_true rfl) (fun p e s m args below meth c A Q hx hb hr hml hts hown hlocks hA hP hD hK hS ls hl hQ => ?_)
  have inX0 : ∀ w ∈ u_ws RX0 TX0 7, w ∈ wsX0_goBy := by decide +kernel
  have inX3 : ∀ w ∈ u_ws RX3 TX3 7, w ∈ wsX0_goBy := by decide +kernel
  have bk_133 : ∀ (fl : Int32) (pc : Int32) (ft : Int32) (ti : Int32) (so : Int32) (se : Int32) (pu : Int32), f_X0_goBy_133 cn kd tk gr fl pc ft ti so se pu = some res → ∀ (H : Heap) (locs : List Loc), va_P D vwCl [(ar, .inr (0, [.int (fl), .int (pc), .int (ft), .int (ti), .int (so), .int (se), .int (pu)])), (ab, .inr (3, [.ref abk, .ref abt, .ref abg, .int (cn), .int (st), .int (kn), .int (sb)])), (abk, .inl (cI, 10, .inl (kd))), (abt, .inl (cI, 10, .inl (tk))), (abg, .inl (cZ, 10, .inl (gr)))] H → va_D A [(ar, .inr (0, [.int (fl), .int (pc), .int (ft), .int (ti), .int (so), .int (se), .int (pu)])), (ab, .inr (3, [.ref abk, .ref abt, .ref abg, .int (cn), .int (st), .int (kn), .int (sb)])), (abk, .inl (cI, 10, .inl (kd))), (abt, .inl (cI, 10, .inl (tk))), (abg, .inl (cZ, 10, .inl (gr)))] → va_S A s.heap H locs → ∀ (ls : Array Slot), lv_has ls 3 [(0, .ref ar), (1, .ref ab)] → W p l e ({ frames := 2, cells := 0, slots := 0, locals := 44 }) s m args below meth c H locs 0 0 Q (F0 m 133 ls []) := by
    intro fl pc ft ti so se pu hg H locs hP hD hS ls hl
    rw [f_X0_goBy_133] at hg
    refine lv_aload_n hx hb dX0_goBy_133 rfl (lv_at hl 0 rfl) ?_
    refine lv_dup hx hb dX0_goBy_134 rfl ?_
    refine va_get (D := D) (ci := 0) (v := .int (se)) (C := RX0) (T := TX0) (N := 7) hx hb hts inX0 hown hK hP 0 rfl rfl 5 (by decide) (hts (.fieldLink RX0 27 "ScooterFlags$Rider" "seconds" "I") (by decide +kernel)) (fun _ h9 => h9) rfl dX0_goBy_135 ?_
    refine lv_iconst (v := (1 : Int32)) hx hb dX0_goBy_138 (by decide) ?_
    refine lv_iadd hx hb dX0_goBy_139 ?_
    refine va_put (D := D) (ci := 0) (v := .int ((se + (1 : Int32)))) (ty := .int) (C := RX0) (T := TX0) (N := 7) hx hb hts inX0 tyX0 tyX0_ok nmX0 hown hK hP hD hS 0 rfl rfl 5 (by decide) (hts (.fieldLink RX0 27 "ScooterFlags$Rider" "seconds" "I") (by decide +kernel)) (fun _ h9 => h9) rfl (by decide +kernel) rfl rfl (Nat.le_of_ble_eq_true rfl) dX0_goBy_140 (fun H locs hP hD hS => ?_)
    have hP : va_P D vwCl [(ar, .inr (0, [.int (fl), .int (pc), .int (ft), .int (ti), .int (so), .int ((se + (1 : Int32))), .int (pu)])), (ab, .inr (3, [.ref abk, .ref abt, .ref abg, .int (cn), .int (st), .int (kn), .int (sb)])), (abk, .inl (cI, 10, .inl (kd))), (abt, .inl (cI, 10, .inl (tk))), (abg, .inl (cZ, 10, .inl (gr)))] H := hP
    have hD : va_D A [(ar, .inr (0, [.int (fl), .int (pc), .int (ft), .int (ti), .int (so), .int ((se + (1 : Int32))), .int (pu)])), (ab, .inr (3, [.ref abk, .ref abt, .ref abg, .int (cn), .int (st), .int (kn), .int (sb)])), (abk, .inl (cI, 10, .inl (kd))), (abt, .inl (cI, 10, .inl (tk))), (abg, .inl (cZ, 10, .inl (gr)))] := hD
    refine lv_aload_n hx hb dX0_goBy_143 rfl (lv_at hl 0 rfl) ?_
    refine lv_aload_n hx hb dX0_goBy_144 rfl (lv_at hl 1 rfl) ?_
    obtain ⟨o5, h6, hg⟩ := bd hg
    refine xcVv (As := [.ref ab]) (rest := []) (wc := [(ar, .inr (0, [.int (fl), .int (pc), .int (ft), .int (ti), .int (so), .int ((se + (1 : Int32))), .int (pu)])), (ab, .inr (3, [.ref abk, .ref abt, .ref abg, .int (cn), .int (st), .int (kn), .int (sb)])), (abk, .inl (cI, 10, .inl (kd))), (abt, .inl (cI, 10, .inl (tk))), (abg, .inl (cZ, 10, .inl (gr)))]) (wr := []) ⟨hx, hb, hml, hown, hts⟩ (c_X0_roll l D cI cZ cR ar ab abk abt abg fl pc ft ti so (se + (1 : Int32)) pu cn st kn sb kd tk gr h6) (cwV 1 hts gX0_goBy_X0_roll rfl rfl rfl (by decide +kernel) ⟨Nat.le_of_ble_eq_true rfl, Nat.le_of_ble_eq_true rfl⟩) hK hP hD hS hA [0, 1, 2, 3, 4] [] rfl rfl (by decide) (by decide) (by decide) (va_recv hK hP (ci := 0) (q0 := 0) rfl rfl) rfl rfl hl.1 (lv_room (Nat.le_of_ble_eq_true rfl)) dX0_goBy_145 ⟨Nat.le_of_ble_eq_true rfl, Nat.le_of_ble_eq_true rfl⟩ (fun u H locs hu hP hD hS => ?_)
    subst hu
    have hP : va_P D vwCl [(ar, .inr (0, [.int (o5.1), .int (o5.2), .int (ft), .int (ti), .int (so), .int ((se + (1 : Int32))), .int (pu)])), (ab, .inr (3, [.ref abk, .ref abt, .ref abg, .int (cn), .int (st), .int (kn), .int (sb)])), (abk, .inl (cI, 10, .inl (kd))), (abt, .inl (cI, 10, .inl (tk))), (abg, .inl (cZ, 10, .inl (gr)))] H := hP.sub [0, 1, 2, 3, 4] rfl
    have hD : va_D A [(ar, .inr (0, [.int (o5.1), .int (o5.2), .int (ft), .int (ti), .int (so), .int ((se + (1 : Int32))), .int (pu)])), (ab, .inr (3, [.ref abk, .ref abt, .ref abg, .int (cn), .int (st), .int (kn), .int (sb)])), (abk, .inl (cI, 10, .inl (kd))), (abt, .inl (cI, 10, .inl (tk))), (abg, .inl (cZ, 10, .inl (gr)))] := hD.sub [0, 1, 2, 3, 4] (by decide) rfl
    obtain rfl := Option.some.inj hg
    exact rtv hQ hx hb hr hlocks hK hP hD hS dX0_goBy_148 rfl
  have hl : lv_has ls 3 [(0, .ref ar), (1, .ref ab), (2, .int (za))] := hl
  rw [f_X0_goBy] at hg
  refine lv_iload_n hx hb dX0_goBy_0 rfl (lv_at hl 2 rfl) ?_
  refine lv_iconst (v := (4 : Int32)) hx hb dX0_goBy_1 (by decide) ?_
  refine lv_icmp_ne (tgt := 36) hx hb dX0_goBy_2 (by decide) (fun c1 => ?_) (fun c1 => ?_)
  · have hg := ie hg c1
    refine lv_iload_n hx hb dX0_goBy_36 rfl (lv_at hl 2 rfl) ?_
    refine lv_if_ne (tgt := 81) hx hb dX0_goBy_37 (by decide) (fun c2 => ?_) (fun c2 => ?_)
    · have hg := ie hg c2
      refine lv_iload_n hx hb dX0_goBy_81 rfl (lv_at hl 2 rfl) ?_
      refine lv_iconst (v := (1 : Int32)) hx hb dX0_goBy_82 (by decide) ?_
      refine lv_icmp_ne (tgt := 104) hx hb dX0_goBy_83 (by decide) (fun c3 => ?_) (fun c3 => ?_)
      · have hg := ie hg c3
        refine lv_iload_n hx hb dX0_goBy_104 rfl (lv_at hl 2 rfl) ?_
        refine lv_iconst (v := (3 : Int32)) hx hb dX0_goBy_105 (by decide) ?_
        refine lv_icmp_ne (tgt := 133) hx hb dX0_goBy_106 (by decide) (fun c4 => ?_) (fun c4 => ?_)
        · have hg := ie hg c4
          exact bk_133 fl pc ft ti so se pu hg _ _ hP hD hS _ (lv_sub hl [0, 1] rfl)
        · have hg := it hg c4
          refine lv_aload_n hx hb dX0_goBy_109 rfl (lv_at hl 0 rfl) ?_
          refine lv_iconst (v := (0 : Int32)) hx hb dX0_goBy_110 (by decide) ?_
          refine lv_aload_n hx hb dX0_goBy_111 rfl (lv_at hl 0 rfl) ?_
          refine va_get (D := D) (ci := 0) (v := .int (pc)) (C := RX0) (T := TX0) (N := 7) hx hb hts inX0 hown hK hP 0 rfl rfl 1 (by decide) (hts (.fieldLink RX0 15 "ScooterFlags$Rider" "pace" "I") (by decide +kernel)) (fun _ h9 => h9) rfl dX0_goBy_112 ?_
          refine lv_iconst (v := (2 : Int32)) hx hb dX0_goBy_115 (by decide) ?_
          refine lv_isub hx hb dX0_goBy_116 ?_
          refine va_mmax hx hb (hml.trans hl.1.symm) hown (hts (.methodLink RX0 54 Lib.Math.max.name) (by decide +kernel)) (hts (.static Lib.Math.max.name) (by decide +kernel)) (hts (.initialized "java/lang/Math") (by decide +kernel)) (hts (.code Lib.Math.max.name Lib.Math.max.code 2 (some .int)) (by decide +kernel)) (Nat.le_of_ble_eq_true rfl) (Nat.le_of_ble_eq_true rfl) (Nat.le_of_ble_eq_true rfl) (Nat.le_of_ble_eq_true rfl) dX0_goBy_117 ?_
          refine va_put (D := D) (ci := 0) (v := .int ((if (0 : Int32) < (pc - (2 : Int32)) then (pc - (2 : Int32)) else (0 : Int32)))) (ty := .int) (C := RX0) (T := TX0) (N := 7) hx hb hts inX0 tyX0 tyX0_ok nmX0 hown hK hP hD hS 0 rfl rfl 1 (by decide) (hts (.fieldLink RX0 15 "ScooterFlags$Rider" "pace" "I") (by decide +kernel)) (fun _ h9 => h9) rfl (by decide +kernel) rfl rfl (Nat.le_of_ble_eq_true rfl) dX0_goBy_120 (fun H locs hP hD hS => ?_)
          have hP : va_P D vwCl [(ar, .inr (0, [.int (fl), .int ((if (0 : Int32) < (pc - (2 : Int32)) then (pc - (2 : Int32)) else (0 : Int32))), .int (ft), .int (ti), .int (so), .int (se), .int (pu)])), (ab, .inr (3, [.ref abk, .ref abt, .ref abg, .int (cn), .int (st), .int (kn), .int (sb)])), (abk, .inl (cI, 10, .inl (kd))), (abt, .inl (cI, 10, .inl (tk))), (abg, .inl (cZ, 10, .inl (gr)))] H := hP
          have hD : va_D A [(ar, .inr (0, [.int (fl), .int ((if (0 : Int32) < (pc - (2 : Int32)) then (pc - (2 : Int32)) else (0 : Int32))), .int (ft), .int (ti), .int (so), .int (se), .int (pu)])), (ab, .inr (3, [.ref abk, .ref abt, .ref abg, .int (cn), .int (st), .int (kn), .int (sb)])), (abk, .inl (cI, 10, .inl (kd))), (abt, .inl (cI, 10, .inl (tk))), (abg, .inl (cZ, 10, .inl (gr)))] := hD
          refine lv_aload_n hx hb dX0_goBy_123 rfl (lv_at hl 0 rfl) ?_
          refine lv_dup hx hb dX0_goBy_124 rfl ?_
          refine va_get (D := D) (ci := 0) (v := .int (so)) (C := RX0) (T := TX0) (N := 7) hx hb hts inX0 hown hK hP 0 rfl rfl 4 (by decide) (hts (.fieldLink RX0 24 "ScooterFlags$Rider" "soleLeft" "I") (by decide +kernel)) (fun _ h9 => h9) rfl dX0_goBy_125 ?_
          refine lv_iconst (v := (1 : Int32)) hx hb dX0_goBy_128 (by decide) ?_
          refine lv_isub hx hb dX0_goBy_129 ?_
          refine va_put (D := D) (ci := 0) (v := .int ((so - (1 : Int32)))) (ty := .int) (C := RX0) (T := TX0) (N := 7) hx hb hts inX0 tyX0 tyX0_ok nmX0 hown hK hP hD hS 0 rfl rfl 4 (by decide) (hts (.fieldLink RX0 24 "ScooterFlags$Rider" "soleLeft" "I") (by decide +kernel)) (fun _ h9 => h9) rfl (by decide +kernel) rfl rfl (Nat.le_of_ble_eq_true rfl) dX0_goBy_130 (fun H locs hP hD hS => ?_)
          have hP : va_P D vwCl [(ar, .inr (0, [.int (fl), .int ((if (0 : Int32) < (pc - (2 : Int32)) then (pc - (2 : Int32)) else (0 : Int32))), .int (ft), .int (ti), .int ((so - (1 : Int32))), .int (se), .int (pu)])), (ab, .inr (3, [.ref abk, .ref abt, .ref abg, .int (cn), .int (st), .int (kn), .int (sb)])), (abk, .inl (cI, 10, .inl (kd))), (abt, .inl (cI, 10, .inl (tk))), (abg, .inl (cZ, 10, .inl (gr)))] H := hP
          have hD : va_D A [(ar, .inr (0, [.int (fl), .int ((if (0 : Int32) < (pc - (2 : Int32)) then (pc - (2 : Int32)) else (0 : Int32))), .int (ft), .int (ti), .int ((so - (1 : Int32))), .int (se), .int (pu)])), (ab, .inr (3, [.ref abk, .ref abt, .ref abg, .int (cn), .int (st), .int (kn), .int (sb)])), (abk, .inl (cI, 10, .inl (kd))), (abt, .inl (cI, 10, .inl (tk))), (abg, .inl (cZ, 10, .inl (gr)))] := hD
          exact bk_133 fl (if (0 : Int32) < (pc - (2 : Int32)) then (pc - (2 : Int32)) else (0 : Int32)) ft ti (so - (1 : Int32)) se pu hg _ _ hP hD hS _ (lv_sub hl [0, 1] rfl)
      · have hg := it hg c3
        refine lv_aload_n hx hb dX0_goBy_86 rfl (lv_at hl 0 rfl) ?_
        refine lv_iconst (v := (1 : Int32)) hx hb dX0_goBy_87 (by decide) ?_
        refine lv_aload_n hx hb dX0_goBy_88 rfl (lv_at hl 0 rfl) ?_
        refine va_get (D := D) (ci := 0) (v := .int (ft)) (C := RX0) (T := TX0) (N := 7) hx hb hts inX0 hown hK hP 0 rfl rfl 2 (by decide) (hts (.fieldLink RX0 18 "ScooterFlags$Rider" "foot" "I") (by decide +kernel)) (fun _ h9 => h9) rfl dX0_goBy_89 ?_
        refine lv_isub hx hb dX0_goBy_92 ?_
        refine va_put (D := D) (ci := 0) (v := .int (((1 : Int32) - ft))) (ty := .int) (C := RX0) (T := TX0) (N := 7) hx hb hts inX0 tyX0 tyX0_ok nmX0 hown hK hP hD hS 0 rfl rfl 2 (by decide) (hts (.fieldLink RX0 18 "ScooterFlags$Rider" "foot" "I") (by decide +kernel)) (fun _ h9 => h9) rfl (by decide +kernel) rfl rfl (Nat.le_of_ble_eq_true rfl) dX0_goBy_93 (fun H locs hP hD hS => ?_)
        have hP : va_P D vwCl [(ar, .inr (0, [.int (fl), .int (pc), .int (((1 : Int32) - ft)), .int (ti), .int (so), .int (se), .int (pu)])), (ab, .inr (3, [.ref abk, .ref abt, .ref abg, .int (cn), .int (st), .int (kn), .int (sb)])), (abk, .inl (cI, 10, .inl (kd))), (abt, .inl (cI, 10, .inl (tk))), (abg, .inl (cZ, 10, .inl (gr)))] H := hP
        have hD : va_D A [(ar, .inr (0, [.int (fl), .int (pc), .int (((1 : Int32) - ft)), .int (ti), .int (so), .int (se), .int (pu)])), (ab, .inr (3, [.ref abk, .ref abt, .ref abg, .int (cn), .int (st), .int (kn), .int (sb)])), (abk, .inl (cI, 10, .inl (kd))), (abt, .inl (cI, 10, .inl (tk))), (abg, .inl (cZ, 10, .inl (gr)))] := hD
        refine lv_aload_n hx hb dX0_goBy_96 rfl (lv_at hl 0 rfl) ?_
        refine lv_iconst (v := (0 : Int32)) hx hb dX0_goBy_97 (by decide) ?_
        refine va_put (D := D) (ci := 0) (v := .int ((0 : Int32))) (ty := .int) (C := RX0) (T := TX0) (N := 7) hx hb hts inX0 tyX0 tyX0_ok nmX0 hown hK hP hD hS 0 rfl rfl 3 (by decide) (hts (.fieldLink RX0 21 "ScooterFlags$Rider" "tired" "I") (by decide +kernel)) (fun _ h9 => h9) rfl (by decide +kernel) rfl rfl (Nat.le_of_ble_eq_true rfl) dX0_goBy_98 (fun H locs hP hD hS => ?_)
        have hP : va_P D vwCl [(ar, .inr (0, [.int (fl), .int (pc), .int (((1 : Int32) - ft)), .int ((0 : Int32)), .int (so), .int (se), .int (pu)])), (ab, .inr (3, [.ref abk, .ref abt, .ref abg, .int (cn), .int (st), .int (kn), .int (sb)])), (abk, .inl (cI, 10, .inl (kd))), (abt, .inl (cI, 10, .inl (tk))), (abg, .inl (cZ, 10, .inl (gr)))] H := hP
        have hD : va_D A [(ar, .inr (0, [.int (fl), .int (pc), .int (((1 : Int32) - ft)), .int ((0 : Int32)), .int (so), .int (se), .int (pu)])), (ab, .inr (3, [.ref abk, .ref abt, .ref abg, .int (cn), .int (st), .int (kn), .int (sb)])), (abk, .inl (cI, 10, .inl (kd))), (abt, .inl (cI, 10, .inl (tk))), (abg, .inl (cZ, 10, .inl (gr)))] := hD
        refine lv_goto (tgt := 133) hx hb dX0_goBy_101 (by decide) ?_
        exact bk_133 fl pc ((1 : Int32) - ft) (0 : Int32) so se pu hg _ _ hP hD hS _ (lv_sub hl [0, 1] rfl)
    · have hg := it hg c2
      refine lv_aload_n hx hb dX0_goBy_40 rfl (lv_at hl 0 rfl) ?_
      refine lv_bipush (v := (6 : Int32)) hx hb dX0_goBy_41 (by decide) ?_
      refine lv_aload_n hx hb dX0_goBy_43 rfl (lv_at hl 0 rfl) ?_
      refine va_get (D := D) (ci := 0) (v := .int (pc)) (C := RX0) (T := TX0) (N := 7) hx hb hts inX0 hown hK hP 0 rfl rfl 1 (by decide) (hts (.fieldLink RX0 15 "ScooterFlags$Rider" "pace" "I") (by decide +kernel)) (fun _ h9 => h9) rfl dX0_goBy_44 ?_
      refine lv_aload_n hx hb dX0_goBy_47 rfl (lv_at hl 1 rfl) ?_
      refine va_get (D := D) (ci := 3) (v := .int (st)) (C := RX3) (T := TX3) (N := 7) hx hb hts inX3 hown hK hP 1 rfl rfl 4 (by decide) (hts (.fieldLink RX0 45 "ScooterFlags$Street" "strength" "I") (by decide +kernel)) (fun _ h9 => h9) rfl dX0_goBy_48 ?_
      refine lv_iadd hx hb dX0_goBy_51 ?_
      refine va_mmin hx hb (hml.trans hl.1.symm) hown (hts (.methodLink RX0 48 Lib.Math.min.name) (by decide +kernel)) (hts (.static Lib.Math.min.name) (by decide +kernel)) (hts (.initialized "java/lang/Math") (by decide +kernel)) (hts (.code Lib.Math.min.name Lib.Math.min.code 2 (some .int)) (by decide +kernel)) (Nat.le_of_ble_eq_true rfl) (Nat.le_of_ble_eq_true rfl) (Nat.le_of_ble_eq_true rfl) (Nat.le_of_ble_eq_true rfl) dX0_goBy_52 ?_
      refine va_put (D := D) (ci := 0) (v := .int ((if (pc + st) < (6 : Int32) then (pc + st) else (6 : Int32)))) (ty := .int) (C := RX0) (T := TX0) (N := 7) hx hb hts inX0 tyX0 tyX0_ok nmX0 hown hK hP hD hS 0 rfl rfl 1 (by decide) (hts (.fieldLink RX0 15 "ScooterFlags$Rider" "pace" "I") (by decide +kernel)) (fun _ h9 => h9) rfl (by decide +kernel) rfl rfl (Nat.le_of_ble_eq_true rfl) dX0_goBy_55 (fun H locs hP hD hS => ?_)
      have hP : va_P D vwCl [(ar, .inr (0, [.int (fl), .int ((if (pc + st) < (6 : Int32) then (pc + st) else (6 : Int32))), .int (ft), .int (ti), .int (so), .int (se), .int (pu)])), (ab, .inr (3, [.ref abk, .ref abt, .ref abg, .int (cn), .int (st), .int (kn), .int (sb)])), (abk, .inl (cI, 10, .inl (kd))), (abt, .inl (cI, 10, .inl (tk))), (abg, .inl (cZ, 10, .inl (gr)))] H := hP
      have hD : va_D A [(ar, .inr (0, [.int (fl), .int ((if (pc + st) < (6 : Int32) then (pc + st) else (6 : Int32))), .int (ft), .int (ti), .int (so), .int (se), .int (pu)])), (ab, .inr (3, [.ref abk, .ref abt, .ref abg, .int (cn), .int (st), .int (kn), .int (sb)])), (abk, .inl (cI, 10, .inl (kd))), (abt, .inl (cI, 10, .inl (tk))), (abg, .inl (cZ, 10, .inl (gr)))] := hD
      refine lv_aload_n hx hb dX0_goBy_58 rfl (lv_at hl 0 rfl) ?_
      refine lv_dup hx hb dX0_goBy_59 rfl ?_
      refine va_get (D := D) (ci := 0) (v := .int (ti)) (C := RX0) (T := TX0) (N := 7) hx hb hts inX0 hown hK hP 0 rfl rfl 3 (by decide) (hts (.fieldLink RX0 21 "ScooterFlags$Rider" "tired" "I") (by decide +kernel)) (fun _ h9 => h9) rfl dX0_goBy_60 ?_
      refine lv_iconst (v := (1 : Int32)) hx hb dX0_goBy_63 (by decide) ?_
      refine lv_iadd hx hb dX0_goBy_64 ?_
      refine va_put (D := D) (ci := 0) (v := .int ((ti + (1 : Int32)))) (ty := .int) (C := RX0) (T := TX0) (N := 7) hx hb hts inX0 tyX0 tyX0_ok nmX0 hown hK hP hD hS 0 rfl rfl 3 (by decide) (hts (.fieldLink RX0 21 "ScooterFlags$Rider" "tired" "I") (by decide +kernel)) (fun _ h9 => h9) rfl (by decide +kernel) rfl rfl (Nat.le_of_ble_eq_true rfl) dX0_goBy_65 (fun H locs hP hD hS => ?_)
      have hP : va_P D vwCl [(ar, .inr (0, [.int (fl), .int ((if (pc + st) < (6 : Int32) then (pc + st) else (6 : Int32))), .int (ft), .int ((ti + (1 : Int32))), .int (so), .int (se), .int (pu)])), (ab, .inr (3, [.ref abk, .ref abt, .ref abg, .int (cn), .int (st), .int (kn), .int (sb)])), (abk, .inl (cI, 10, .inl (kd))), (abt, .inl (cI, 10, .inl (tk))), (abg, .inl (cZ, 10, .inl (gr)))] H := hP
      have hD : va_D A [(ar, .inr (0, [.int (fl), .int ((if (pc + st) < (6 : Int32) then (pc + st) else (6 : Int32))), .int (ft), .int ((ti + (1 : Int32))), .int (so), .int (se), .int (pu)])), (ab, .inr (3, [.ref abk, .ref abt, .ref abg, .int (cn), .int (st), .int (kn), .int (sb)])), (abk, .inl (cI, 10, .inl (kd))), (abt, .inl (cI, 10, .inl (tk))), (abg, .inl (cZ, 10, .inl (gr)))] := hD
      refine lv_aload_n hx hb dX0_goBy_68 rfl (lv_at hl 0 rfl) ?_
      refine lv_dup hx hb dX0_goBy_69 rfl ?_
      refine va_get (D := D) (ci := 0) (v := .int (pu)) (C := RX0) (T := TX0) (N := 7) hx hb hts inX0 hown hK hP 0 rfl rfl 6 (by decide) (hts (.fieldLink RX0 30 "ScooterFlags$Rider" "pushes" "I") (by decide +kernel)) (fun _ h9 => h9) rfl dX0_goBy_70 ?_
      refine lv_iconst (v := (1 : Int32)) hx hb dX0_goBy_73 (by decide) ?_
      refine lv_iadd hx hb dX0_goBy_74 ?_
      refine va_put (D := D) (ci := 0) (v := .int ((pu + (1 : Int32)))) (ty := .int) (C := RX0) (T := TX0) (N := 7) hx hb hts inX0 tyX0 tyX0_ok nmX0 hown hK hP hD hS 0 rfl rfl 6 (by decide) (hts (.fieldLink RX0 30 "ScooterFlags$Rider" "pushes" "I") (by decide +kernel)) (fun _ h9 => h9) rfl (by decide +kernel) rfl rfl (Nat.le_of_ble_eq_true rfl) dX0_goBy_75 (fun H locs hP hD hS => ?_)
      have hP : va_P D vwCl [(ar, .inr (0, [.int (fl), .int ((if (pc + st) < (6 : Int32) then (pc + st) else (6 : Int32))), .int (ft), .int ((ti + (1 : Int32))), .int (so), .int (se), .int ((pu + (1 : Int32)))])), (ab, .inr (3, [.ref abk, .ref abt, .ref abg, .int (cn), .int (st), .int (kn), .int (sb)])), (abk, .inl (cI, 10, .inl (kd))), (abt, .inl (cI, 10, .inl (tk))), (abg, .inl (cZ, 10, .inl (gr)))] H := hP
      have hD : va_D A [(ar, .inr (0, [.int (fl), .int ((if (pc + st) < (6 : Int32) then (pc + st) else (6 : Int32))), .int (ft), .int ((ti + (1 : Int32))), .int (so), .int (se), .int ((pu + (1 : Int32)))])), (ab, .inr (3, [.ref abk, .ref abt, .ref abg, .int (cn), .int (st), .int (kn), .int (sb)])), (abk, .inl (cI, 10, .inl (kd))), (abt, .inl (cI, 10, .inl (tk))), (abg, .inl (cZ, 10, .inl (gr)))] := hD
      refine lv_goto (tgt := 133) hx hb dX0_goBy_78 (by decide) ?_
      exact bk_133 fl (if (pc + st) < (6 : Int32) then (pc + st) else (6 : Int32)) ft (ti + (1 : Int32)) so se (pu + (1 : Int32)) hg _ _ hP hD hS _ (lv_sub hl [0, 1] rfl)
  · have hg := it hg c1
    refine lv_aload_n hx hb dX0_goBy_5 rfl (lv_at hl 0 rfl) ?_
    refine lv_iconst (v := (0 : Int32)) hx hb dX0_goBy_6 (by decide) ?_
    refine va_put (D := D) (ci := 0) (v := .int ((0 : Int32))) (ty := .int) (C := RX0) (T := TX0) (N := 7) hx hb hts inX0 tyX0 tyX0_ok nmX0 hown hK hP hD hS 0 rfl rfl 1 (by decide) (hts (.fieldLink RX0 15 "ScooterFlags$Rider" "pace" "I") (by decide +kernel)) (fun _ h9 => h9) rfl (by decide +kernel) rfl rfl (Nat.le_of_ble_eq_true rfl) dX0_goBy_7 (fun H locs hP hD hS => ?_)
    have hP : va_P D vwCl [(ar, .inr (0, [.int (fl), .int ((0 : Int32)), .int (ft), .int (ti), .int (so), .int (se), .int (pu)])), (ab, .inr (3, [.ref abk, .ref abt, .ref abg, .int (cn), .int (st), .int (kn), .int (sb)])), (abk, .inl (cI, 10, .inl (kd))), (abt, .inl (cI, 10, .inl (tk))), (abg, .inl (cZ, 10, .inl (gr)))] H := hP
    have hD : va_D A [(ar, .inr (0, [.int (fl), .int ((0 : Int32)), .int (ft), .int (ti), .int (so), .int (se), .int (pu)])), (ab, .inr (3, [.ref abk, .ref abt, .ref abg, .int (cn), .int (st), .int (kn), .int (sb)])), (abk, .inl (cI, 10, .inl (kd))), (abt, .inl (cI, 10, .inl (tk))), (abg, .inl (cZ, 10, .inl (gr)))] := hD
    refine lv_aload_n hx hb dX0_goBy_10 rfl (lv_at hl 0 rfl) ?_
    refine lv_iconst (v := (0 : Int32)) hx hb dX0_goBy_11 (by decide) ?_
    refine va_put (D := D) (ci := 0) (v := .int ((0 : Int32))) (ty := .int) (C := RX0) (T := TX0) (N := 7) hx hb hts inX0 tyX0 tyX0_ok nmX0 hown hK hP hD hS 0 rfl rfl 3 (by decide) (hts (.fieldLink RX0 21 "ScooterFlags$Rider" "tired" "I") (by decide +kernel)) (fun _ h9 => h9) rfl (by decide +kernel) rfl rfl (Nat.le_of_ble_eq_true rfl) dX0_goBy_12 (fun H locs hP hD hS => ?_)
    have hP : va_P D vwCl [(ar, .inr (0, [.int (fl), .int ((0 : Int32)), .int (ft), .int ((0 : Int32)), .int (so), .int (se), .int (pu)])), (ab, .inr (3, [.ref abk, .ref abt, .ref abg, .int (cn), .int (st), .int (kn), .int (sb)])), (abk, .inl (cI, 10, .inl (kd))), (abt, .inl (cI, 10, .inl (tk))), (abg, .inl (cZ, 10, .inl (gr)))] H := hP
    have hD : va_D A [(ar, .inr (0, [.int (fl), .int ((0 : Int32)), .int (ft), .int ((0 : Int32)), .int (so), .int (se), .int (pu)])), (ab, .inr (3, [.ref abk, .ref abt, .ref abg, .int (cn), .int (st), .int (kn), .int (sb)])), (abk, .inl (cI, 10, .inl (kd))), (abt, .inl (cI, 10, .inl (tk))), (abg, .inl (cZ, 10, .inl (gr)))] := hD
    refine lv_aload_n hx hb dX0_goBy_15 rfl (lv_at hl 0 rfl) ?_
    refine lv_dup hx hb dX0_goBy_16 rfl ?_
    refine va_get (D := D) (ci := 0) (v := .int (fl)) (C := RX0) (T := TX0) (N := 7) hx hb hts inX0 hown hK hP 0 rfl rfl 0 (by decide) (hts (.fieldLink RX0 9 "ScooterFlags$Rider" "flag" "I") (by decide +kernel)) (fun _ h9 => h9) rfl dX0_goBy_17 ?_
    refine lv_iconst (v := (1 : Int32)) hx hb dX0_goBy_20 (by decide) ?_
    refine lv_iadd hx hb dX0_goBy_21 ?_
    refine va_put (D := D) (ci := 0) (v := .int ((fl + (1 : Int32)))) (ty := .int) (C := RX0) (T := TX0) (N := 7) hx hb hts inX0 tyX0 tyX0_ok nmX0 hown hK hP hD hS 0 rfl rfl 0 (by decide) (hts (.fieldLink RX0 9 "ScooterFlags$Rider" "flag" "I") (by decide +kernel)) (fun _ h9 => h9) rfl (by decide +kernel) rfl rfl (Nat.le_of_ble_eq_true rfl) dX0_goBy_22 (fun H locs hP hD hS => ?_)
    have hP : va_P D vwCl [(ar, .inr (0, [.int ((fl + (1 : Int32))), .int ((0 : Int32)), .int (ft), .int ((0 : Int32)), .int (so), .int (se), .int (pu)])), (ab, .inr (3, [.ref abk, .ref abt, .ref abg, .int (cn), .int (st), .int (kn), .int (sb)])), (abk, .inl (cI, 10, .inl (kd))), (abt, .inl (cI, 10, .inl (tk))), (abg, .inl (cZ, 10, .inl (gr)))] H := hP
    have hD : va_D A [(ar, .inr (0, [.int ((fl + (1 : Int32))), .int ((0 : Int32)), .int (ft), .int ((0 : Int32)), .int (so), .int (se), .int (pu)])), (ab, .inr (3, [.ref abk, .ref abt, .ref abg, .int (cn), .int (st), .int (kn), .int (sb)])), (abk, .inl (cI, 10, .inl (kd))), (abt, .inl (cI, 10, .inl (tk))), (abg, .inl (cZ, 10, .inl (gr)))] := hD
    refine lv_aload_n hx hb dX0_goBy_25 rfl (lv_at hl 0 rfl) ?_
    refine lv_dup hx hb dX0_goBy_26 rfl ?_
    refine va_get (D := D) (ci := 0) (v := .int (se)) (C := RX0) (T := TX0) (N := 7) hx hb hts inX0 hown hK hP 0 rfl rfl 5 (by decide) (hts (.fieldLink RX0 27 "ScooterFlags$Rider" "seconds" "I") (by decide +kernel)) (fun _ h9 => h9) rfl dX0_goBy_27 ?_
    refine lv_iconst (v := (3 : Int32)) hx hb dX0_goBy_30 (by decide) ?_
    refine lv_iadd hx hb dX0_goBy_31 ?_
    refine va_put (D := D) (ci := 0) (v := .int ((se + (3 : Int32)))) (ty := .int) (C := RX0) (T := TX0) (N := 7) hx hb hts inX0 tyX0 tyX0_ok nmX0 hown hK hP hD hS 0 rfl rfl 5 (by decide) (hts (.fieldLink RX0 27 "ScooterFlags$Rider" "seconds" "I") (by decide +kernel)) (fun _ h9 => h9) rfl (by decide +kernel) rfl rfl (Nat.le_of_ble_eq_true rfl) dX0_goBy_32 (fun H locs hP hD hS => ?_)
    have hP : va_P D vwCl [(ar, .inr (0, [.int ((fl + (1 : Int32))), .int ((0 : Int32)), .int (ft), .int ((0 : Int32)), .int (so), .int ((se + (3 : Int32))), .int (pu)])), (ab, .inr (3, [.ref abk, .ref abt, .ref abg, .int (cn), .int (st), .int (kn), .int (sb)])), (abk, .inl (cI, 10, .inl (kd))), (abt, .inl (cI, 10, .inl (tk))), (abg, .inl (cZ, 10, .inl (gr)))] H := hP
    have hD : va_D A [(ar, .inr (0, [.int ((fl + (1 : Int32))), .int ((0 : Int32)), .int (ft), .int ((0 : Int32)), .int (so), .int ((se + (3 : Int32))), .int (pu)])), (ab, .inr (3, [.ref abk, .ref abt, .ref abg, .int (cn), .int (st), .int (kn), .int (sb)])), (abk, .inl (cI, 10, .inl (kd))), (abt, .inl (cI, 10, .inl (tk))), (abg, .inl (cZ, 10, .inl (gr)))] := hD
    obtain rfl := Option.some.inj hg
    exact rtv hQ hx hb hr hlocks hK hP hD hS dX0_goBy_35 rfl
