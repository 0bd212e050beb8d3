def f_X5_reading_19 (qn : Int32) (zv : Int32) (qr : Int32) (vq : Nat → Int32) : Option (Int32 × Int32 × (Nat → Int32)) :=
  if qn = 0 then (some ((-3 : Int32), qr, vq)) else (if qr = (8 : Int32) then (some ((-4 : Int32), qr, vq)) else (gx qr 8 (some (((qr + (1 : Int32)) - (1 : Int32)), (qr + (1 : Int32)), (upd vq qr.toNatClampNeg zv)))))
def f_X5_reading (qn : Int32) (qr : Int32) (vq : Nat → Int32) (zv : Int32) : Option (Int32 × Int32 × (Nat → Int32)) :=
  if zv = (-9 : Int32) then (f_X5_reading_19 qn zv qr vq) else ((f_X5_within zv (0 : Int32) (24 : Int32)).bind (fun o5 => if o5 = 0 then (some ((-2 : Int32), qr, vq)) else (f_X5_reading_19 qn zv qr vq)))
set_option maxHeartbeats 4000000 in
set_option maxRecDepth 100000 in
theorem c_X5_reading (l : Launch) (D : va_G) (cI cZ cR : ClassId) (am : Nat) (mvq : Nat) (mvs : Nat) (mvl : Nat) (mvc : Nat) (mvk : Nat) (mvt : Nat) (mvg : Nat) (mvh : Nat) (mvrk : Nat) (mvrt : Nat) (mvrg : Nat) (mvf : Nat) (mvp : Nat) (mve : Nat) (qf : Int32) (qt : Int32) (qn : Int32) (qs : Int32) (qk : Int32) (qo : Int32) (qa : Int32) (qm : Int32) (qg : Int32) (qp : Int32) (qu : Int32) (ql : Int32) (qe : Int32) (qb : Int32) (qw : Int32) (qi : Int32) (qj : Int32) (qr : Int32) (vq : Nat → Int32) (zv : Int32) {res : Int32 × Int32 × (Nat → Int32)} (hg : f_X5_reading qn qr vq zv = some res) : MI l yX5_reading wsX5_reading ({ frames := 1, cells := 0, slots := 0, locals := 22 }) D (T3 cI cZ cR) [(am, .inr (5, [.int (qf), .int (qt), .ref mvs, .ref mvl, .ref mvc, .int (qn), .int (qs), .int (qk), .int (qo), .ref mvk, .ref mvt, .ref mvg, .int (qa), .int (qm), .ref mvh, .ref mvrk, .ref mvrt, .ref mvrg, .int (qg), .int (qp), .int (qu), .int (ql), .int (qe), .int (qb), .int (qw), .ref mvf, .int (qi), .int (qj), .int (qr), .ref mvq, .ref mvp, .ref mve])), (mvq, .inl (cI, 8, .inl (vq)))] [.ref am, .int (zv)] (fun r u => res.1 = r ∧ u = [(am, .inr (5, [.int (qf), .int (qt), .ref mvs, .ref mvl, .ref mvc, .int (qn), .int (qs), .int (qk), .int (qo), .ref mvk, .ref mvt, .ref mvg, .int (qa), .int (qm), .ref mvh, .ref mvrk, .ref mvrt, .ref mvrg, .int (qg), .int (qp), .int (qu), .int (ql), .int (qe), .int (qb), .int (qw), .ref mvf, .int (qi), .int (qj), .int (res.2.1), .ref mvq, .ref mvp, .ref mve])), (mvq, .inl (cI, 8, .inl (res.2.2)))]) := by
  refine entI (Rn := RX5) (by decide +kernel) rfl rfl (Nat.le_of_ble_eq_true rfl) (fun p e s m args below meth c A Q hx hb hr hml hts hown hlocks hA hP hD hK hS ls hl hQ => ?_)
  have inX5 : ∀ w ∈ u_ws RX5 TX5 32, w ∈ wsX5_reading := by decide +kernel
  have bk_19 : ∀ (qr : Int32) (vq : Nat → Int32), f_X5_reading_19 qn zv qr vq = some res → ∀ (H : Heap) (locs : List Loc), va_P D vwCl [(am, .inr (5, [.int (qf), .int (qt), .ref mvs, .ref mvl, .ref mvc, .int (qn), .int (qs), .int (qk), .int (qo), .ref mvk, .ref mvt, .ref mvg, .int (qa), .int (qm), .ref mvh, .ref mvrk, .ref mvrt, .ref mvrg, .int (qg), .int (qp), .int (qu), .int (ql), .int (qe), .int (qb), .int (qw), .ref mvf, .int (qi), .int (qj), .int (qr), .ref mvq, .ref mvp, .ref mve])), (mvq, .inl (cI, 8, .inl (vq)))] H → va_D A [(am, .inr (5, [.int (qf), .int (qt), .ref mvs, .ref mvl, .ref mvc, .int (qn), .int (qs), .int (qk), .int (qo), .ref mvk, .ref mvt, .ref mvg, .int (qa), .int (qm), .ref mvh, .ref mvrk, .ref mvrt, .ref mvrg, .int (qg), .int (qp), .int (qu), .int (ql), .int (qe), .int (qb), .int (qw), .ref mvf, .int (qi), .int (qj), .int (qr), .ref mvq, .ref mvp, .ref mve])), (mvq, .inl (cI, 8, .inl (vq)))] → va_S A s.heap H locs → ∀ (ls : Array Slot), lv_has ls 2 [(0, .ref am), (1, .int (zv))] → W p l e ({ frames := 1, cells := 0, slots := 0, locals := 22 }) s m args below meth c H locs 0 0 Q (F0 m 19 ls []) := by
    intro qr vq hg H locs hP hD hS ls hl
    rw [f_X5_reading_19] at hg
    refine lv_aload_n hx hb dX5_reading_19 rfl (lv_at hl 0 rfl) ?_
    refine va_get (D := D) (ci := 5) (v := .int (qn)) (C := RX5) (T := TX5) (N := 32) hx hb hts inX5 hown hK hP 0 rfl rfl 5 (by decide) (hts (.fieldLink RX5 63 "ScooterFlagsModel" "flags" "I") (by decide +kernel)) (fun _ h9 => h9) rfl dX5_reading_20 ?_
    refine lv_if_ne (tgt := 29) hx hb dX5_reading_23 (by decide) (fun c2 => ?_) (fun c2 => ?_)
    · have hg := ie hg c2
      refine lv_aload_n hx hb dX5_reading_29 rfl (lv_at hl 0 rfl) ?_
      refine va_get (D := D) (ci := 5) (v := .int (qr)) (C := RX5) (T := TX5) (N := 32) hx hb hts inX5 hown hK hP 0 rfl rfl 28 (by decide) (hts (.fieldLink RX5 99 "ScooterFlagsModel" "readings" "I") (by decide +kernel)) (fun _ h9 => h9) rfl dX5_reading_30 ?_
      refine lv_bipush (v := (8 : Int32)) hx hb dX5_reading_33 (by decide) ?_
      refine lv_icmp_ne (tgt := 41) hx hb dX5_reading_35 (by decide) (fun c3 => ?_) (fun c3 => ?_)
      · have hg := ie hg c3
        refine lv_aload_n hx hb dX5_reading_41 rfl (lv_at hl 0 rfl) ?_
        refine va_get (D := D) (ci := 5) (v := .ref mvq) (C := RX5) (T := TX5) (N := 32) hx hb hts inX5 hown hK hP 0 rfl rfl 29 (by decide) (hts (.fieldLink RX5 44 "ScooterFlagsModel" "readQuickest" "[I") (by decide +kernel)) (fun _ h9 => h9) rfl dX5_reading_42 ?_
        refine lv_aload_n hx hb dX5_reading_45 rfl (lv_at hl 0 rfl) ?_
        refine va_get (D := D) (ci := 5) (v := .int (qr)) (C := RX5) (T := TX5) (N := 32) hx hb hts inX5 hown hK hP 0 rfl rfl 28 (by decide) (hts (.fieldLink RX5 99 "ScooterFlagsModel" "readings" "I") (by decide +kernel)) (fun _ h9 => h9) rfl dX5_reading_46 ?_
        refine lv_iload_n hx hb dX5_reading_49 rfl (lv_at hl 1 rfl) ?_
        obtain ⟨g4, hg⟩ := gxo hg
        refine va_iast hx hb hK hP hD hS 1 0 rfl rfl g4 dX5_reading_50 (fun H locs hP hD hS => ?_)
        have hP : va_P D vwCl [(am, .inr (5, [.int (qf), .int (qt), .ref mvs, .ref mvl, .ref mvc, .int (qn), .int (qs), .int (qk), .int (qo), .ref mvk, .ref mvt, .ref mvg, .int (qa), .int (qm), .ref mvh, .ref mvrk, .ref mvrt, .ref mvrg, .int (qg), .int (qp), .int (qu), .int (ql), .int (qe), .int (qb), .int (qw), .ref mvf, .int (qi), .int (qj), .int (qr), .ref mvq, .ref mvp, .ref mve])), (mvq, .inl (cI, 8, .inl ((upd vq qr.toNatClampNeg zv))))] H := hP
        have hD : va_D A [(am, .inr (5, [.int (qf), .int (qt), .ref mvs, .ref mvl, .ref mvc, .int (qn), .int (qs), .int (qk), .int (qo), .ref mvk, .ref mvt, .ref mvg, .int (qa), .int (qm), .ref mvh, .ref mvrk, .ref mvrt, .ref mvrg, .int (qg), .int (qp), .int (qu), .int (ql), .int (qe), .int (qb), .int (qw), .ref mvf, .int (qi), .int (qj), .int (qr), .ref mvq, .ref mvp, .ref mve])), (mvq, .inl (cI, 8, .inl ((upd vq qr.toNatClampNeg zv))))] := hD
        refine lv_aload_n hx hb dX5_reading_51 rfl (lv_at hl 0 rfl) ?_
        refine lv_dup hx hb dX5_reading_52 rfl ?_
        refine va_get (D := D) (ci := 5) (v := .int (qr)) (C := RX5) (T := TX5) (N := 32) hx hb hts inX5 hown hK hP 0 rfl rfl 28 (by decide) (hts (.fieldLink RX5 99 "ScooterFlagsModel" "readings" "I") (by decide +kernel)) (fun _ h9 => h9) rfl dX5_reading_53 ?_
        refine lv_iconst (v := (1 : Int32)) hx hb dX5_reading_56 (by decide) ?_
        refine lv_iadd hx hb dX5_reading_57 ?_
        refine va_put (D := D) (ci := 5) (v := .int ((qr + (1 : Int32)))) (ty := .int) (C := RX5) (T := TX5) (N := 32) hx hb hts inX5 tyX5 tyX5_ok nmX5 hown hK hP hD hS 0 rfl rfl 28 (by decide) (hts (.fieldLink RX5 99 "ScooterFlagsModel" "readings" "I") (by decide +kernel)) (fun _ h9 => h9) rfl (by decide +kernel) rfl rfl (Nat.le_of_ble_eq_true rfl) dX5_reading_58 (fun H locs hP hD hS => ?_)
        have hP : va_P D vwCl [(am, .inr (5, [.int (qf), .int (qt), .ref mvs, .ref mvl, .ref mvc, .int (qn), .int (qs), .int (qk), .int (qo), .ref mvk, .ref mvt, .ref mvg, .int (qa), .int (qm), .ref mvh, .ref mvrk, .ref mvrt, .ref mvrg, .int (qg), .int (qp), .int (qu), .int (ql), .int (qe), .int (qb), .int (qw), .ref mvf, .int (qi), .int (qj), .int ((qr + (1 : Int32))), .ref mvq, .ref mvp, .ref mve])), (mvq, .inl (cI, 8, .inl ((upd vq qr.toNatClampNeg zv))))] H := hP
        have hD : va_D A [(am, .inr (5, [.int (qf), .int (qt), .ref mvs, .ref mvl, .ref mvc, .int (qn), .int (qs), .int (qk), .int (qo), .ref mvk, .ref mvt, .ref mvg, .int (qa), .int (qm), .ref mvh, .ref mvrk, .ref mvrt, .ref mvrg, .int (qg), .int (qp), .int (qu), .int (ql), .int (qe), .int (qb), .int (qw), .ref mvf, .int (qi), .int (qj), .int ((qr + (1 : Int32))), .ref mvq, .ref mvp, .ref mve])), (mvq, .inl (cI, 8, .inl ((upd vq qr.toNatClampNeg zv))))] := hD
        refine lv_aload_n hx hb dX5_reading_61 rfl (lv_at hl 0 rfl) ?_
        refine va_get (D := D) (ci := 5) (v := .int ((qr + (1 : Int32)))) (C := RX5) (T := TX5) (N := 32) hx hb hts inX5 hown hK hP 0 rfl rfl 28 (by decide) (hts (.fieldLink RX5 99 "ScooterFlagsModel" "readings" "I") (by decide +kernel)) (fun _ h9 => h9) rfl dX5_reading_62 ?_
        refine lv_iconst (v := (1 : Int32)) hx hb dX5_reading_65 (by decide) ?_
        refine lv_isub hx hb dX5_reading_66 ?_
        obtain rfl := Option.some.inj hg
        exact rti hQ hx hb hr hlocks hK hP hD hS dX5_reading_67 ⟨rfl, rfl⟩
      · have hg := it hg c3
        refine lv_bipush (v := (-4 : Int32)) hx hb dX5_reading_38 (by decide) ?_
        obtain rfl := Option.some.inj hg
        exact rti hQ hx hb hr hlocks hK hP hD hS dX5_reading_40 ⟨rfl, rfl⟩
    · have hg := it hg c2
      refine lv_bipush (v := (-3 : Int32)) hx hb dX5_reading_26 (by decide) ?_
      obtain rfl := Option.some.inj hg
      exact rti hQ hx hb hr hlocks hK hP hD hS dX5_reading_28 ⟨rfl, rfl⟩
  have hl : lv_has ls 2 [(0, .ref am), (1, .int (zv))] := hl
  rw [f_X5_reading] at hg
  refine lv_iload_n hx hb dX5_reading_0 rfl (lv_at hl 1 rfl) ?_
  refine lv_bipush (v := (-9 : Int32)) hx hb dX5_reading_1 (by decide) ?_
  refine lv_icmp_eq (tgt := 19) hx hb dX5_reading_3 (by decide) (fun c1 => ?_) (fun c1 => ?_)
  · have hg := it hg c1
    exact bk_19 qr vq hg _ _ hP hD hS _ (lv_sub hl [0, 1] rfl)
  · have hg := ie hg c1
    refine lv_iload_n hx hb dX5_reading_6 rfl (lv_at hl 1 rfl) ?_
    refine lv_iconst (v := (0 : Int32)) hx hb dX5_reading_7 (by decide) ?_
    refine lv_bipush (v := (24 : Int32)) hx hb dX5_reading_8 (by decide) ?_
    obtain ⟨o5, h6, hg⟩ := bd hg
    refine xcSi (As := [.int (zv), .int ((0 : Int32)), .int ((24 : Int32))]) (rest := []) (wc := []) (wr := [(am, .inr (5, [.int (qf), .int (qt), .ref mvs, .ref mvl, .ref mvc, .int (qn), .int (qs), .int (qk), .int (qo), .ref mvk, .ref mvt, .ref mvg, .int (qa), .int (qm), .ref mvh, .ref mvrk, .ref mvrt, .ref mvrg, .int (qg), .int (qp), .int (qu), .int (ql), .int (qe), .int (qb), .int (qw), .ref mvf, .int (qi), .int (qj), .int (qr), .ref mvq, .ref mvp, .ref mve])), (mvq, .inl (cI, 8, .inl (vq)))]) ⟨hx, hb, hml, hown, hts⟩ (c_X5_within l D cI cZ cR zv (0 : Int32) (24 : Int32) h6) (cwS 3 hts gX5_reading_X5_within rfl rfl rfl (by decide +kernel) ⟨Nat.le_of_ble_eq_true rfl, Nat.le_of_ble_eq_true rfl⟩) hK hP hD hS hA [] [0, 1] rfl rfl (by decide) (by decide) (by decide) rfl rfl hl.1 (lv_room (Nat.le_of_ble_eq_true rfl)) dX5_reading_10 ⟨Nat.le_of_ble_eq_true rfl, Nat.le_of_ble_eq_true rfl⟩ (fun r u H locs hu hP hD hS => ?_)
    obtain ⟨rfl, rfl⟩ := hu
    have hP : va_P D vwCl [(am, .inr (5, [.int (qf), .int (qt), .ref mvs, .ref mvl, .ref mvc, .int (qn), .int (qs), .int (qk), .int (qo), .ref mvk, .ref mvt, .ref mvg, .int (qa), .int (qm), .ref mvh, .ref mvrk, .ref mvrt, .ref mvrg, .int (qg), .int (qp), .int (qu), .int (ql), .int (qe), .int (qb), .int (qw), .ref mvf, .int (qi), .int (qj), .int (qr), .ref mvq, .ref mvp, .ref mve])), (mvq, .inl (cI, 8, .inl (vq)))] H := hP.sub [0, 1] rfl
    have hD : va_D A [(am, .inr (5, [.int (qf), .int (qt), .ref mvs, .ref mvl, .ref mvc, .int (qn), .int (qs), .int (qk), .int (qo), .ref mvk, .ref mvt, .ref mvg, .int (qa), .int (qm), .ref mvh, .ref mvrk, .ref mvrt, .ref mvrg, .int (qg), .int (qp), .int (qu), .int (ql), .int (qe), .int (qb), .int (qw), .ref mvf, .int (qi), .int (qj), .int (qr), .ref mvq, .ref mvp, .ref mve])), (mvq, .inl (cI, 8, .inl (vq)))] := hD.sub [0, 1] (by decide) rfl
    refine lv_if_ne (tgt := 19) hx hb dX5_reading_13 (by decide) (fun c7 => ?_) (fun c7 => ?_)
    · have hg := ie hg c7
      exact bk_19 qr vq hg _ _ hP hD hS _ (lv_sub hl [0, 1] rfl)
    · have hg := it hg c7
      refine lv_bipush (v := (-2 : Int32)) hx hb dX5_reading_16 (by decide) ?_
      obtain rfl := Option.some.inj hg
      exact rti hQ hx hb hr hlocks hK hP hD hS dX5_reading_18 ⟨rfl, rfl⟩
def f_X5_back (qr : Int32) (zv : Int32) : Option (Int32 × Int32) :=
  (f_X5_within zv (0 : Int32) qr).bind (fun o1 => if o1 = 0 then (some ((-2 : Int32), qr)) else (some ((qr - zv), (qr - zv))))
set_option maxHeartbeats 4000000 in
set_option maxRecDepth 100000 in
theorem c_X5_back (l : Launch) (D : va_G) (cI cZ cR : ClassId) (am : Nat) (mvs : Nat) (mvl : Nat) (mvc : Nat) (mvk : Nat) (mvt : Nat) (mvg : Nat) (mvh : Nat) (mvrk : Nat) (mvrt : Nat) (mvrg : Nat) (mvf : Nat) (mvq : Nat) (mvp : Nat) (mve : Nat) (qf : Int32) (qt : Int32) (qn : Int32) (qs : Int32) (qk : Int32) (qo : Int32) (qa : Int32) (qm : Int32) (qg : Int32) (qp : Int32) (qu : Int32) (ql : Int32) (qe : Int32) (qb : Int32) (qw : Int32) (qi : Int32) (qj : Int32) (qr : Int32) (zv : Int32) {res : Int32 × Int32} (hg : f_X5_back qr zv = some res) : MI l yX5_back wsX5_back ({ frames := 1, cells := 0, slots := 0, locals := 22 }) D (T3 cI cZ cR) [(am, .inr (5, [.int (qf), .int (qt), .ref mvs, .ref mvl, .ref mvc, .int (qn), .int (qs), .int (qk), .int (qo), .ref mvk, .ref mvt, .ref mvg, .int (qa), .int (qm), .ref mvh, .ref mvrk, .ref mvrt, .ref mvrg, .int (qg), .int (qp), .int (qu), .int (ql), .int (qe), .int (qb), .int (qw), .ref mvf, .int (qi), .int (qj), .int (qr), .ref mvq, .ref mvp, .ref mve]))] [.ref am, .int (zv)] (fun r u => res.1 = r ∧ u = [(am, .inr (5, [.int (qf), .int (qt), .ref mvs, .ref mvl, .ref mvc, .int (qn), .int (qs), .int (qk), .int (qo), .ref mvk, .ref mvt, .ref mvg, .int (qa), .int (qm), .ref mvh, .ref mvrk, .ref mvrt, .ref mvrg, .int (qg), .int (qp), .int (qu), .int (ql), .int (qe), .int (qb), .int (qw), .ref mvf, .int (qi), .int (qj), .int (res.2), .ref mvq, .ref mvp, .ref mve]))]) := by
  refine entI (Rn := RX5) (by decide +kernel) rfl rfl (Nat.le_of_ble_eq_true rfl) (fun p e s m args below meth c A Q hx hb hr hml hts hown hlocks hA hP hD hK hS ls hl hQ => ?_)
  have inX5 : ∀ w ∈ u_ws RX5 TX5 32, w ∈ wsX5_back := by decide +kernel
  have hl : lv_has ls 2 [(0, .ref am), (1, .int (zv))] := hl
  rw [f_X5_back] at hg
  refine lv_iload_n hx hb dX5_back_0 rfl (lv_at hl 1 rfl) ?_
  refine lv_iconst (v := (0 : Int32)) hx hb dX5_back_1 (by decide) ?_
  refine lv_aload_n hx hb dX5_back_2 rfl (lv_at hl 0 rfl) ?_
  refine va_get (D := D) (ci := 5) (v := .int (qr)) (C := RX5) (T := TX5) (N := 32) hx hb hts inX5 hown hK hP 0 rfl rfl 28 (by decide) (hts (.fieldLink RX5 99 "ScooterFlagsModel" "readings" "I") (by decide +kernel)) (fun _ h9 => h9) rfl dX5_back_3 ?_
  obtain ⟨o1, h2, hg⟩ := bd hg
  refine xcSi (As := [.int (zv), .int ((0 : Int32)), .int (qr)]) (rest := []) (wc := []) (wr := [(am, .inr (5, [.int (qf), .int (qt), .ref mvs, .ref mvl, .ref mvc, .int (qn), .int (qs), .int (qk), .int (qo), .ref mvk, .ref mvt, .ref mvg, .int (qa), .int (qm), .ref mvh, .ref mvrk, .ref mvrt, .ref mvrg, .int (qg), .int (qp), .int (qu), .int (ql), .int (qe), .int (qb), .int (qw), .ref mvf, .int (qi), .int (qj), .int (qr), .ref mvq, .ref mvp, .ref mve]))]) ⟨hx, hb, hml, hown, hts⟩ (c_X5_within l D cI cZ cR zv (0 : Int32) qr h2) (cwS 3 hts gX5_back_X5_within rfl rfl rfl (by decide +kernel) ⟨Nat.le_of_ble_eq_true rfl, Nat.le_of_ble_eq_true rfl⟩) hK hP hD hS hA [] [0] rfl rfl (by decide) (by decide) (by decide) rfl rfl hl.1 (lv_room (Nat.le_of_ble_eq_true rfl)) dX5_back_6 ⟨Nat.le_of_ble_eq_true rfl, Nat.le_of_ble_eq_true rfl⟩ (fun r u H locs hu hP hD hS => ?_)
  obtain ⟨rfl, rfl⟩ := hu
  have hP : va_P D vwCl [(am, .inr (5, [.int (qf), .int (qt), .ref mvs, .ref mvl, .ref mvc, .int (qn), .int (qs), .int (qk), .int (qo), .ref mvk, .ref mvt, .ref mvg, .int (qa), .int (qm), .ref mvh, .ref mvrk, .ref mvrt, .ref mvrg, .int (qg), .int (qp), .int (qu), .int (ql), .int (qe), .int (qb), .int (qw), .ref mvf, .int (qi), .int (qj), .int (qr), .ref mvq, .ref mvp, .ref mve]))] H := hP.sub [0] rfl
  have hD : va_D A [(am, .inr (5, [.int (qf), .int (qt), .ref mvs, .ref mvl, .ref mvc, .int (qn), .int (qs), .int (qk), .int (qo), .ref mvk, .ref mvt, .ref mvg, .int (qa), .int (qm), .ref mvh, .ref mvrk, .ref mvrt, .ref mvrg, .int (qg), .int (qp), .int (qu), .int (ql), .int (qe), .int (qb), .int (qw), .ref mvf, .int (qi), .int (qj), .int (qr), .ref mvq, .ref mvp, .ref mve]))] := hD.sub [0] (by decide) rfl
  refine lv_if_ne (tgt := 15) hx hb dX5_back_9 (by decide) (fun c3 => ?_) (fun c3 => ?_)
  · have hg := ie hg c3
    refine lv_aload_n hx hb dX5_back_15 rfl (lv_at hl 0 rfl) ?_
    refine lv_dup hx hb dX5_back_16 rfl ?_
    refine va_get (D := D) (ci := 5) (v := .int (qr)) (C := RX5) (T := TX5) (N := 32) hx hb hts inX5 hown hK hP 0 rfl rfl 28 (by decide) (hts (.fieldLink RX5 99 "ScooterFlagsModel" "readings" "I") (by decide +kernel)) (fun _ h9 => h9) rfl dX5_back_17 ?_
    refine lv_iload_n hx hb dX5_back_20 rfl (lv_at hl 1 rfl) ?_
    refine lv_isub hx hb dX5_back_21 ?_
    refine va_put (D := D) (ci := 5) (v := .int ((qr - zv))) (ty := .int) (C := RX5) (T := TX5) (N := 32) hx hb hts inX5 tyX5 tyX5_ok nmX5 hown hK hP hD hS 0 rfl rfl 28 (by decide) (hts (.fieldLink RX5 99 "ScooterFlagsModel" "readings" "I") (by decide +kernel)) (fun _ h9 => h9) rfl (by decide +kernel) rfl rfl (Nat.le_of_ble_eq_true rfl) dX5_back_22 (fun H locs hP hD hS => ?_)
    have hP : va_P D vwCl [(am, .inr (5, [.int (qf), .int (qt), .ref mvs, .ref mvl, .ref mvc, .int (qn), .int (qs), .int (qk), .int (qo), .ref mvk, .ref mvt, .ref mvg, .int (qa), .int (qm), .ref mvh, .ref mvrk, .ref mvrt, .ref mvrg, .int (qg), .int (qp), .int (qu), .int (ql), .int (qe), .int (qb), .int (qw), .ref mvf, .int (qi), .int (qj), .int ((qr - zv)), .ref mvq, .ref mvp, .ref mve]))] H := hP
    have hD : va_D A [(am, .inr (5, [.int (qf), .int (qt), .ref mvs, .ref mvl, .ref mvc, .int (qn), .int (qs), .int (qk), .int (qo), .ref mvk, .ref mvt, .ref mvg, .int (qa), .int (qm), .ref mvh, .ref mvrk, .ref mvrt, .ref mvrg, .int (qg), .int (qp), .int (qu), .int (ql), .int (qe), .int (qb), .int (qw), .ref mvf, .int (qi), .int (qj), .int ((qr - zv)), .ref mvq, .ref mvp, .ref mve]))] := hD
    refine lv_aload_n hx hb dX5_back_25 rfl (lv_at hl 0 rfl) ?_
    refine va_get (D := D) (ci := 5) (v := .int ((qr - zv))) (C := RX5) (T := TX5) (N := 32) hx hb hts inX5 hown hK hP 0 rfl rfl 28 (by decide) (hts (.fieldLink RX5 99 "ScooterFlagsModel" "readings" "I") (by decide +kernel)) (fun _ h9 => h9) rfl dX5_back_26 ?_
    obtain rfl := Option.some.inj hg
    exact rti hQ hx hb hr hlocks hK hP hD hS dX5_back_29 ⟨rfl, rfl⟩
  · have hg := it hg c3
    refine lv_bipush (v := (-2 : Int32)) hx hb dX5_back_12 (by decide) ?_
    obtain rfl := Option.some.inj hg
    exact rti hQ hx hb hr hlocks hK hP hD hS dX5_back_14 ⟨rfl, rfl⟩
def f_X5_areSo_L7 (qr : Int32) (vq : Nat → Int32) (k25 : Int32 → Int32 → Int32 → Int32 → Int32 → Int32 → Int32 → Int32 → Int32 → (Nat → Int32) → Option (Int32 × Int32 × Int32 × Int32 × Int32 × Int32 × Int32 × Int32 × Int32 × Int32 × (Nat → Int32))) (k33 : Int32 → Int32 → Int32 → Int32 → Int32 → Int32 → Int32 → Int32 → Int32 → (Nat → Int32) → Option (Int32 × Int32 × Int32 × Int32 × Int32 × Int32 × Int32 × Int32 × Int32 × Int32 × (Nat → Int32))) : Nat → Int32 → Int32 → Int32 → Int32 → Int32 → Int32 → Int32 → Int32 → Int32 → Int32 → Int32 → (Nat → Int32) → Option (Int32 × Int32 × Int32 × Int32 × Int32 × Int32 × Int32 × Int32 × Int32 × Int32 × (Nat → Int32))
  | 0, _, _, _, _, _, _, _, _, _, _, _, _ => none
  | n + 1, x1, x2, qg, qp, qu, ql, qe, qb, qw, qi, qj, vf => if qr ≤ x2 then (k33 qg qp qu ql qe qb qw qi qj vf) else (gx x2 8 (if (vq x2.toNatClampNeg) = x1 then (f_X5_areSo_L7 qr vq k25 k33 n x1 (x2 + (1 : Int32)) qg qp qu ql qe qb qw qi qj vf) else (k25 qg qp qu ql qe qb qw qi qj vf)))
def f_X5_areSo (qn : Int32) (qs : Int32) (qk : Int32) (qo : Int32) (qg : Int32) (qp : Int32) (qu : Int32) (ql : Int32) (qe : Int32) (qb : Int32) (qw : Int32) (qi : Int32) (qj : Int32) (qr : Int32) (vk : Nat → Int32) (vt : Nat → Int32) (vg : Nat → Int32) (vf : Nat → Int32) (vq : Nat → Int32) : Option (Int32 × Int32 × Int32 × Int32 × Int32 × Int32 × Int32 × Int32 × Int32 × Int32 × (Nat → Int32)) :=
  (f_X5_quickestNow qn qs qk qo qg qp qu ql qe qb qw qi qj vk vt vg vf).bind (fun o1 => f_X5_areSo_L7 qr vq (fun (qg : Int32) (qp : Int32) (qu : Int32) (ql : Int32) (qe : Int32) (qb : Int32) (qw : Int32) (qi : Int32) (qj : Int32) (vf : Nat → Int32) => some ((0 : Int32), qg, qp, qu, ql, qe, qb, qw, qi, qj, vf)) (fun (qg : Int32) (qp : Int32) (qu : Int32) (ql : Int32) (qe : Int32) (qb : Int32) (qw : Int32) (qi : Int32) (qj : Int32) (vf : Nat → Int32) => some ((1 : Int32), qg, qp, qu, ql, qe, qb, qw, qi, qj, vf)) 100 o1.1 (0 : Int32) o1.2.1 o1.2.2.1 o1.2.2.2.1 o1.2.2.2.2.1 o1.2.2.2.2.2.1 o1.2.2.2.2.2.2.1 o1.2.2.2.2.2.2.2.1 o1.2.2.2.2.2.2.2.2.1 o1.2.2.2.2.2.2.2.2.2.1 o1.2.2.2.2.2.2.2.2.2.2)
set_option maxHeartbeats 4000000 in
set_option maxRecDepth 100000 in
theorem c_X5_areSo (l : Launch) (D : va_G) (cI cZ cR : ClassId) (am : Nat) (mvk : Nat) (mvt : Nat) (mvg : Nat) (mvf : Nat) (mvq : Nat) (mvs : Nat) (mvl : Nat) (mvc : Nat) (mvh : Nat) (mvrk : Nat) (mvrt : Nat) (mvrg : Nat) (mvp : Nat) (mve : Nat) (qf : Int32) (qt : Int32) (qn : Int32) (qs : Int32) (qk : Int32) (qo : Int32) (qa : Int32) (qm : Int32) (qg : Int32) (qp : Int32) (qu : Int32) (ql : Int32) (qe : Int32) (qb : Int32) (qw : Int32) (qi : Int32) (qj : Int32) (qr : Int32) (vk : Nat → Int32) (vt : Nat → Int32) (vg : Nat → Int32) (vf : Nat → Int32) (vq : Nat → Int32) {res : Int32 × Int32 × Int32 × Int32 × Int32 × Int32 × Int32 × Int32 × Int32 × Int32 × (Nat → Int32)} (hg : f_X5_areSo qn qs qk qo qg qp qu ql qe qb qw qi qj qr vk vt vg vf vq = some res) : MI l yX5_areSo wsX5_areSo ({ frames := 6, cells := 0, slots := 0, locals := 133 }) D (T3 cI cZ cR) [(am, .inr (5, [.int (qf), .int (qt), .ref mvs, .ref mvl, .ref mvc, .int (qn), .int (qs), .int (qk), .int (qo), .ref mvk, .ref mvt, .ref mvg, .int (qa), .int (qm), .ref mvh, .ref mvrk, .ref mvrt, .ref mvrg, .int (qg), .int (qp), .int (qu), .int (ql), .int (qe), .int (qb), .int (qw), .ref mvf, .int (qi), .int (qj), .int (qr), .ref mvq, .ref mvp, .ref mve])), (mvk, .inl (cI, 10, .inl (vk))), (mvt, .inl (cI, 10, .inl (vt))), (mvg, .inl (cZ, 10, .inl (vg))), (mvf, .inl (cI, 21000, .inl (vf))), (mvq, .inl (cI, 8, .inl (vq)))] [.ref am] (fun r u => res.1 = r ∧ u = [(am, .inr (5, [.int (qf), .int (qt), .ref mvs, .ref mvl, .ref mvc, .int (qn), .int (qs), .int (qk), .int (qo), .ref mvk, .ref mvt, .ref mvg, .int (qa), .int (qm), .ref mvh, .ref mvrk, .ref mvrt, .ref mvrg, .int (res.2.1), .int (res.2.2.1), .int (res.2.2.2.1), .int (res.2.2.2.2.1), .int (res.2.2.2.2.2.1), .int (res.2.2.2.2.2.2.1), .int (res.2.2.2.2.2.2.2.1), .ref mvf, .int (res.2.2.2.2.2.2.2.2.1), .int (res.2.2.2.2.2.2.2.2.2.1), .int (qr), .ref mvq, .ref mvp, .ref mve])), (mvk, .inl (cI, 10, .inl (vk))), (mvt, .inl (cI, 10, .inl (vt))), (mvg, .inl (cZ, 10, .inl (vg))), (mvf, .inl (cI, 21000, .inl (res.2.2.2.2.2.2.2.2.2.2))), (mvq, .inl (cI, 8, .inl (vq)))]) := by
  refine entI (Rn := RX5) (by decide +kernel) rfl rfl (Nat.le_of_ble_eq_true rfl) (fun p e s m args below meth c A Q hx hb hr hml hts hown hlocks hA hP hD hK hS ls hl hQ => ?_)
  have inX5 : ∀ w ∈ u_ws RX5 TX5 32, w ∈ wsX5_areSo := by decide +kernel
  have lp_7 : ∀ (k25 : Int32 → Int32 → Int32 → Int32 → Int32 → Int32 → Int32 → Int32 → Int32 → (Nat → Int32) → Option (Int32 × Int32 × Int32 × Int32 × Int32 × Int32 × Int32 × Int32 × Int32 × Int32 × (Nat → Int32))) (k33 : Int32 → Int32 → Int32 → Int32 → Int32 → Int32 → Int32 → Int32 → Int32 → (Nat → Int32) → Option (Int32 × Int32 × Int32 × Int32 × Int32 × Int32 × Int32 × Int32 × Int32 × Int32 × (Nat → Int32))) (hk25 : ∀ (qg : Int32) (qp : Int32) (qu : Int32) (ql : Int32) (qe : Int32) (qb : Int32) (qw : Int32) (qi : Int32) (qj : Int32) (vf : Nat → Int32), k25 qg qp qu ql qe qb qw qi qj vf = some res → ∀ (H : Heap) (locs : List Loc), va_P D vwCl [(am, .inr (5, [.int (qf), .int (qt), .ref mvs, .ref mvl, .ref mvc, .int (qn), .int (qs), .int (qk), .int (qo), .ref mvk, .ref mvt, .ref mvg, .int (qa), .int (qm), .ref mvh, .ref mvrk, .ref mvrt, .ref mvrg, .int (qg), .int (qp), .int (qu), .int (ql), .int (qe), .int (qb), .int (qw), .ref mvf, .int (qi), .int (qj), .int (qr), .ref mvq, .ref mvp, .ref mve])), (mvk, .inl (cI, 10, .inl (vk))), (mvt, .inl (cI, 10, .inl (vt))), (mvg, .inl (cZ, 10, .inl (vg))), (mvf, .inl (cI, 21000, .inl (vf))), (mvq, .inl (cI, 8, .inl (vq)))] H → va_D A [(am, .inr (5, [.int (qf), .int (qt), .ref mvs, .ref mvl, .ref mvc, .int (qn), .int (qs), .int (qk), .int (qo), .ref mvk, .ref mvt, .ref mvg, .int (qa), .int (qm), .ref mvh, .ref mvrk, .ref mvrt, .ref mvrg, .int (qg), .int (qp), .int (qu), .int (ql), .int (qe), .int (qb), .int (qw), .ref mvf, .int (qi), .int (qj), .int (qr), .ref mvq, .ref mvp, .ref mve])), (mvk, .inl (cI, 10, .inl (vk))), (mvt, .inl (cI, 10, .inl (vt))), (mvg, .inl (cZ, 10, .inl (vg))), (mvf, .inl (cI, 21000, .inl (vf))), (mvq, .inl (cI, 8, .inl (vq)))] → va_S A s.heap H locs → ∀ (ls : Array Slot), lv_has ls 3 [] → W p l e ({ frames := 6, cells := 0, slots := 0, locals := 133 }) s m args below meth c H locs 0 0 Q (F0 m 25 ls [])) (hk33 : ∀ (qg : Int32) (qp : Int32) (qu : Int32) (ql : Int32) (qe : Int32) (qb : Int32) (qw : Int32) (qi : Int32) (qj : Int32) (vf : Nat → Int32), k33 qg qp qu ql qe qb qw qi qj vf = some res → ∀ (H : Heap) (locs : List Loc), va_P D vwCl [(am, .inr (5, [.int (qf), .int (qt), .ref mvs, .ref mvl, .ref mvc, .int (qn), .int (qs), .int (qk), .int (qo), .ref mvk, .ref mvt, .ref mvg, .int (qa), .int (qm), .ref mvh, .ref mvrk, .ref mvrt, .ref mvrg, .int (qg), .int (qp), .int (qu), .int (ql), .int (qe), .int (qb), .int (qw), .ref mvf, .int (qi), .int (qj), .int (qr), .ref mvq, .ref mvp, .ref mve])), (mvk, .inl (cI, 10, .inl (vk))), (mvt, .inl (cI, 10, .inl (vt))), (mvg, .inl (cZ, 10, .inl (vg))), (mvf, .inl (cI, 21000, .inl (vf))), (mvq, .inl (cI, 8, .inl (vq)))] H → va_D A [(am, .inr (5, [.int (qf), .int (qt), .ref mvs, .ref mvl, .ref mvc, .int (qn), .int (qs), .int (qk), .int (qo), .ref mvk, .ref mvt, .ref mvg, .int (qa), .int (qm), .ref mvh, .ref mvrk, .ref mvrt, .ref mvrg, .int (qg), .int (qp), .int (qu), .int (ql), .int (qe), .int (qb), .int (qw), .ref mvf, .int (qi), .int (qj), .int (qr), .ref mvq, .ref mvp, .ref mve])), (mvk, .inl (cI, 10, .inl (vk))), (mvt, .inl (cI, 10, .inl (vt))), (mvg, .inl (cZ, 10, .inl (vg))), (mvf, .inl (cI, 21000, .inl (vf))), (mvq, .inl (cI, 8, .inl (vq)))] → va_S A s.heap H locs → ∀ (ls : Array Slot), lv_has ls 3 [] → W p l e ({ frames := 6, cells := 0, slots := 0, locals := 133 }) s m args below meth c H locs 0 0 Q (F0 m 33 ls [])) (n : Nat) (x1 : Int32) (x2 : Int32) (qg : Int32) (qp : Int32) (qu : Int32) (ql : Int32) (qe : Int32) (qb : Int32) (qw : Int32) (qi : Int32) (qj : Int32) (vf : Nat → Int32), f_X5_areSo_L7 qr vq k25 k33 n x1 x2 qg qp qu ql qe qb qw qi qj vf = some res → ∀ (H : Heap) (locs : List Loc), va_P D vwCl [(am, .inr (5, [.int (qf), .int (qt), .ref mvs, .ref mvl, .ref mvc, .int (qn), .int (qs), .int (qk), .int (qo), .ref mvk, .ref mvt, .ref mvg, .int (qa), .int (qm), .ref mvh, .ref mvrk, .ref mvrt, .ref mvrg, .int (qg), .int (qp), .int (qu), .int (ql), .int (qe), .int (qb), .int (qw), .ref mvf, .int (qi), .int (qj), .int (qr), .ref mvq, .ref mvp, .ref mve])), (mvk, .inl (cI, 10, .inl (vk))), (mvt, .inl (cI, 10, .inl (vt))), (mvg, .inl (cZ, 10, .inl (vg))), (mvf, .inl (cI, 21000, .inl (vf))), (mvq, .inl (cI, 8, .inl (vq)))] H → va_D A [(am, .inr (5, [.int (qf), .int (qt), .ref mvs, .ref mvl, .ref mvc, .int (qn), .int (qs), .int (qk), .int (qo), .ref mvk, .ref mvt, .ref mvg, .int (qa), .int (qm), .ref mvh, .ref mvrk, .ref mvrt, .ref mvrg, .int (qg), .int (qp), .int (qu), .int (ql), .int (qe), .int (qb), .int (qw), .ref mvf, .int (qi), .int (qj), .int (qr), .ref mvq, .ref mvp, .ref mve])), (mvk, .inl (cI, 10, .inl (vk))), (mvt, .inl (cI, 10, .inl (vt))), (mvg, .inl (cZ, 10, .inl (vg))), (mvf, .inl (cI, 21000, .inl (vf))), (mvq, .inl (cI, 8, .inl (vq)))] → va_S A s.heap H locs → ∀ (ls : Array Slot), lv_has ls 3 [(0, .ref am), (1, .int (x1)), (2, .int (x2))] → W p l e ({ frames := 6, cells := 0, slots := 0, locals := 133 }) s m args below meth c H locs 0 0 Q (F0 m 7 ls []) := by
    intro k25 k33 hk25 hk33 n
    induction n with
    | zero => intro x1 x2 qg qp qu ql qe qb qw qi qj vf hg; rw [f_X5_areSo_L7] at hg; cases hg
    | succ n ih =>
      intro x1 x2 qg qp qu ql qe qb qw qi qj vf hg H locs hP hD hS ls hl
      rw [f_X5_areSo_L7] at hg
      refine lv_iload_n hx hb dX5_areSo_7 rfl (lv_at hl 2 rfl) ?_
      refine lv_aload_n hx hb dX5_areSo_8 rfl (lv_at hl 0 rfl) ?_
      refine va_get (D := D) (ci := 5) (v := .int (qr)) (C := RX5) (T := TX5) (N := 32) hx hb hts inX5 hown hK hP 0 rfl rfl 28 (by decide) (hts (.fieldLink RX5 99 "ScooterFlagsModel" "readings" "I") (by decide +kernel)) (fun _ h9 => h9) rfl dX5_areSo_9 ?_
      refine lv_icmp_ge (tgt := 33) hx hb dX5_areSo_12 (by decide) (fun c3 => ?_) (fun c3 => ?_)
      · have hg := it hg c3
        exact hk33 qg qp qu ql qe qb qw qi qj vf hg _ _ hP hD hS _ (lv_sub hl [] rfl)
      · have hg := ie hg c3
        refine lv_aload_n hx hb dX5_areSo_15 rfl (lv_at hl 0 rfl) ?_
        refine va_get (D := D) (ci := 5) (v := .ref mvq) (C := RX5) (T := TX5) (N := 32) hx hb hts inX5 hown hK hP 0 rfl rfl 29 (by decide) (hts (.fieldLink RX5 44 "ScooterFlagsModel" "readQuickest" "[I") (by decide +kernel)) (fun _ h9 => h9) rfl dX5_areSo_16 ?_
        refine lv_iload_n hx hb dX5_areSo_19 rfl (lv_at hl 2 rfl) ?_
        obtain ⟨g4, hg⟩ := gxo hg
        refine va_iald hx hb hK hP 5 0 rfl rfl g4 dX5_areSo_20 ?_
        refine W.eq (g2 := F0 m 21 ls [.int ((vq x2.toNatClampNeg))]) rfl ?_
        refine lv_iload_n hx hb dX5_areSo_21 rfl (lv_at hl 1 rfl) ?_
        refine lv_icmp_eq (tgt := 27) hx hb dX5_areSo_22 (by decide) (fun c5 => ?_) (fun c5 => ?_)
        · have hg := it hg c5
          refine lv_iinc (v := (x2 + (1 : Int32))) (lv' := [(2, .int ((x2 + (1 : Int32)))), (0, .ref am), (1, .int (x1))]) hx hb dX5_areSo_27 hl (k := 2) rfl rfl (by decide) rfl (fun ls hl => ?_)
          refine lv_goto (tgt := 7) hx hb dX5_areSo_30 (by decide) ?_
          exact ih x1 (x2 + (1 : Int32)) qg qp qu ql qe qb qw qi qj vf hg _ _ hP hD hS _ (lv_sub hl [1, 2, 0] rfl)
        · have hg := ie hg c5
          exact hk25 qg qp qu ql qe qb qw qi qj vf hg _ _ hP hD hS _ (lv_sub hl [] rfl)
  have hl : lv_has ls 3 [(0, .ref am)] := hl
  rw [f_X5_areSo] at hg
  refine lv_aload_n hx hb dX5_areSo_0 rfl (lv_at hl 0 rfl) ?_
  obtain ⟨o1, h2, hg⟩ := bd hg
  refine xcVi (As := []) (rest := []) (wc := [(am, .inr (5, [.int (qf), .int (qt), .ref mvs, .ref mvl, .ref mvc, .int (qn), .int (qs), .int (qk), .int (qo), .ref mvk, .ref mvt, .ref mvg, .int (qa), .int (qm), .ref mvh, .ref mvrk, .ref mvrt, .ref mvrg, .int (qg), .int (qp), .int (qu), .int (ql), .int (qe), .int (qb), .int (qw), .ref mvf, .int (qi), .int (qj), .int (qr), .ref mvq, .ref mvp, .ref mve])), (mvk, .inl (cI, 10, .inl (vk))), (mvt, .inl (cI, 10, .inl (vt))), (mvg, .inl (cZ, 10, .inl (vg))), (mvf, .inl (cI, 21000, .inl (vf)))]) (wr := [(mvq, .inl (cI, 8, .inl (vq)))]) ⟨hx, hb, hml, hown, hts⟩ (c_X5_quickestNow l D cI cZ cR am mvk mvt mvg mvf mvs mvl mvc mvh mvrk mvrt mvrg mvq mvp mve qf qt qn qs qk qo qa qm qg qp qu ql qe qb qw qi qj qr vk vt vg vf h2) (cwV 0 hts gX5_areSo_X5_quickestNow rfl rfl rfl (by decide +kernel) ⟨Nat.le_of_ble_eq_true rfl, Nat.le_of_ble_eq_true rfl⟩) hK hP hD hS hA [0, 1, 2, 3, 4] [5] rfl rfl (by decide) (by decide) (by decide) (va_recv hK hP (ci := 5) (q0 := 0) rfl rfl) rfl rfl hl.1 (lv_room (Nat.le_of_ble_eq_true rfl)) dX5_areSo_1 ⟨Nat.le_of_ble_eq_true rfl, Nat.le_of_ble_eq_true rfl⟩ (fun r u H locs hu hP hD hS => ?_)
  obtain ⟨rfl, rfl⟩ := hu
  have hP : va_P D vwCl [(am, .inr (5, [.int (qf), .int (qt), .ref mvs, .ref mvl, .ref mvc, .int (qn), .int (qs), .int (qk), .int (qo), .ref mvk, .ref mvt, .ref mvg, .int (qa), .int (qm), .ref mvh, .ref mvrk, .ref mvrt, .ref mvrg, .int (o1.2.1), .int (o1.2.2.1), .int (o1.2.2.2.1), .int (o1.2.2.2.2.1), .int (o1.2.2.2.2.2.1), .int (o1.2.2.2.2.2.2.1), .int (o1.2.2.2.2.2.2.2.1), .ref mvf, .int (o1.2.2.2.2.2.2.2.2.1), .int (o1.2.2.2.2.2.2.2.2.2.1), .int (qr), .ref mvq, .ref mvp, .ref mve])), (mvk, .inl (cI, 10, .inl (vk))), (mvt, .inl (cI, 10, .inl (vt))), (mvg, .inl (cZ, 10, .inl (vg))), (mvf, .inl (cI, 21000, .inl (o1.2.2.2.2.2.2.2.2.2.2))), (mvq, .inl (cI, 8, .inl (vq)))] H := hP.sub [1, 2, 3, 4, 5, 0] rfl
  have hD : va_D A [(am, .inr (5, [.int (qf), .int (qt), .ref mvs, .ref mvl, .ref mvc, .int (qn), .int (qs), .int (qk), .int (qo), .ref mvk, .ref mvt, .ref mvg, .int (qa), .int (qm), .ref mvh, .ref mvrk, .ref mvrt, .ref mvrg, .int (o1.2.1), .int (o1.2.2.1), .int (o1.2.2.2.1), .int (o1.2.2.2.2.1), .int (o1.2.2.2.2.2.1), .int (o1.2.2.2.2.2.2.1), .int (o1.2.2.2.2.2.2.2.1), .ref mvf, .int (o1.2.2.2.2.2.2.2.2.1), .int (o1.2.2.2.2.2.2.2.2.2.1), .int (qr), .ref mvq, .ref mvp, .ref mve])), (mvk, .inl (cI, 10, .inl (vk))), (mvt, .inl (cI, 10, .inl (vt))), (mvg, .inl (cZ, 10, .inl (vg))), (mvf, .inl (cI, 21000, .inl (o1.2.2.2.2.2.2.2.2.2.2))), (mvq, .inl (cI, 8, .inl (vq)))] := hD.sub [1, 2, 3, 4, 5, 0] (by decide) rfl
  refine lv_istore_n (lv' := [(1, .int (o1.1)), (0, .ref am)]) hx hb dX5_areSo_4 rfl hl (by decide) rfl (fun ls hl => ?_)
  refine lv_iconst (v := (0 : Int32)) hx hb dX5_areSo_5 (by decide) ?_
  refine lv_istore_n (lv' := [(2, .int ((0 : Int32))), (1, .int (o1.1)), (0, .ref am)]) hx hb dX5_areSo_6 rfl hl (by decide) rfl (fun ls hl => ?_)
  refine lp_7 _ _ ?_ ?_ 100 o1.1 (0 : Int32) o1.2.1 o1.2.2.1 o1.2.2.2.1 o1.2.2.2.2.1 o1.2.2.2.2.2.1 o1.2.2.2.2.2.2.1 o1.2.2.2.2.2.2.2.1 o1.2.2.2.2.2.2.2.2.1 o1.2.2.2.2.2.2.2.2.2.1 o1.2.2.2.2.2.2.2.2.2.2 hg _ _ hP hD hS _ (lv_sub hl [2, 1, 0] rfl)
  · intro qg qp qu ql qe qb qw qi qj vf hg H locs hP hD hS ls hl
    refine lv_iconst (v := (0 : Int32)) hx hb dX5_areSo_25 (by decide) ?_
    obtain rfl := Option.some.inj hg
    exact rtz hQ hx hb hr rfl hlocks hK hP hD hS dX5_areSo_26 ⟨rfl, rfl⟩
  · intro qg qp qu ql qe qb qw qi qj vf hg H locs hP hD hS ls hl
    refine lv_iconst (v := (1 : Int32)) hx hb dX5_areSo_33 (by decide) ?_
    obtain rfl := Option.some.inj hg
    exact rtz hQ hx hb hr rfl hlocks hK hP hD hS dX5_areSo_34 ⟨rfl, rfl⟩
def f_X5_smooth_L22 (qn : Int32) (qs : Int32) (qk : Int32) (qo : Int32) (qr : Int32) (vk : Nat → Int32) (vg : Nat → Int32) (vq : Nat → Int32) (zf : Int32) (k60 : Int32 → Int32 → Int32 → Int32 → Int32 → Int32 → Int32 → Int32 → Int32 → Int32 → Int32 → (Nat → Int32) → (Nat → Int32) → Option (Int32 × Int32 × Int32 × Int32 × Int32 × Int32 × Int32 × Int32 × Int32 × Int32 × (Nat → Int32) × (Nat → Int32))) : Nat → Int32 → Int32 → Int32 → Int32 → Int32 → Int32 → Int32 → Int32 → Int32 → Int32 → Int32 → Int32 → (Nat → Int32) → (Nat → Int32) → Option (Int32 × Int32 × Int32 × Int32 × Int32 × Int32 × Int32 × Int32 × Int32 × Int32 × (Nat → Int32) × (Nat → Int32))
  | 0, _, _, _, _, _, _, _, _, _, _, _, _, _, _ => none
  | n + 1, x2, x3, x4, qg, qp, qu, ql, qe, qb, qw, qi, qj, vt, vf => if (4 : Int32) < x4 then (k60 x2 x3 qg qp qu ql qe qb qw qi qj vt vf) else (gx zf 10 ((f_X5_areSo qn qs qk qo qg qp qu ql qe qb qw qi qj qr vk (upd vt zf.toNatClampNeg x4) vg vf vq).bind (fun o7 => if o7.1 = 0 then (f_X5_smooth_L22 qn qs qk qo qr vk vg vq zf k60 n x2 (x3 ||| (0 : Int32)) (x4 + (1 : Int32)) o7.2.1 o7.2.2.1 o7.2.2.2.1 o7.2.2.2.2.1 o7.2.2.2.2.2.1 o7.2.2.2.2.2.2.1 o7.2.2.2.2.2.2.2.1 o7.2.2.2.2.2.2.2.2.1 o7.2.2.2.2.2.2.2.2.2.1 (upd vt zf.toNatClampNeg x4) o7.2.2.2.2.2.2.2.2.2.2) else (f_X5_smooth_L22 qn qs qk qo qr vk vg vq zf k60 n x2 (x3 ||| ((1 : Int32) <<< (x4 &&& 31))) (x4 + (1 : Int32)) o7.2.1 o7.2.2.1 o7.2.2.2.1 o7.2.2.2.2.1 o7.2.2.2.2.2.1 o7.2.2.2.2.2.2.1 o7.2.2.2.2.2.2.2.1 o7.2.2.2.2.2.2.2.2.1 o7.2.2.2.2.2.2.2.2.2.1 (upd vt zf.toNatClampNeg x4) o7.2.2.2.2.2.2.2.2.2.2))))
def f_X5_smooth (qn : Int32) (qs : Int32) (qk : Int32) (qo : Int32) (qg : Int32) (qp : Int32) (qu : Int32) (ql : Int32) (qe : Int32) (qb : Int32) (qw : Int32) (qi : Int32) (qj : Int32) (qr : Int32) (vk : Nat → Int32) (vt : Nat → Int32) (vg : Nat → Int32) (vf : Nat → Int32) (vq : Nat → Int32) (zf : Int32) : Option (Int32 × Int32 × Int32 × Int32 × Int32 × Int32 × Int32 × Int32 × Int32 × Int32 × (Nat → Int32) × (Nat → Int32)) :=
  (f_X5_isFlag qn zf).bind (fun o1 => if o1 = 0 then (some ((-1 : Int32), qg, qp, qu, ql, qe, qb, qw, qi, qj, vt, vf)) else (gx zf 10 (f_X5_smooth_L22 qn qs qk qo qr vk vg vq zf (fun (x2 : Int32) (x3 : Int32) (qg : Int32) (qp : Int32) (qu : Int32) (ql : Int32) (qe : Int32) (qb : Int32) (qw : Int32) (qi : Int32) (qj : Int32) (vt : Nat → Int32) (vf : Nat → Int32) => gx zf 10 (some (x3, qg, qp, qu, ql, qe, qb, qw, qi, qj, (upd vt zf.toNatClampNeg x2), vf))) 100 (vt zf.toNatClampNeg) (0 : Int32) (0 : Int32) qg qp qu ql qe qb qw qi qj vt vf)))
set_option maxHeartbeats 4000000 in
set_option maxRecDepth 100000 in
theorem c_X5_smooth (l : Launch) (D : va_G) (cI cZ cR : ClassId) (am : Nat) (mvk : Nat) (mvt : Nat) (mvg : Nat) (mvf : Nat) (mvq : Nat) (mvs : Nat) (mvl : Nat) (mvc : Nat) (mvh : Nat) (mvrk : Nat) (mvrt : Nat) (mvrg : Nat) (mvp : Nat) (mve : Nat) (qf : Int32) (qt : Int32) (qn : Int32) (qs : Int32) (qk : Int32) (qo : Int32) (qa : Int32) (qm : Int32) (qg : Int32) (qp : Int32) (qu : Int32) (ql : Int32) (qe : Int32) (qb : Int32) (qw : Int32) (qi : Int32) (qj : Int32) (qr : Int32) (vk : Nat → Int32) (vt : Nat → Int32) (vg : Nat → Int32) (vf : Nat → Int32) (vq : Nat → Int32) (zf : Int32) {res : Int32 × Int32 × Int32 × Int32 × Int32 × Int32 × Int32 × Int32 × Int32 × Int32 × (Nat → Int32) × (Nat → Int32)} (hg : f_X5_smooth qn qs qk qo qg qp qu ql qe qb qw qi qj qr vk vt vg vf vq zf = some res) : MI l yX5_smooth wsX5_smooth ({ frames := 7, cells := 0, slots := 0, locals := 155 }) D (T3 cI cZ cR) [(am, .inr (5, [.int (qf), .int (qt), .ref mvs, .ref mvl, .ref mvc, .int (qn), .int (qs), .int (qk), .int (qo), .ref mvk, .ref mvt, .ref mvg, .int (qa), .int (qm), .ref mvh, .ref mvrk, .ref mvrt, .ref mvrg, .int (qg), .int (qp), .int (qu), .int (ql), .int (qe), .int (qb), .int (qw), .ref mvf, .int (qi), .int (qj), .int (qr), .ref mvq, .ref mvp, .ref mve])), (mvk, .inl (cI, 10, .inl (vk))), (mvt, .inl (cI, 10, .inl (vt))), (mvg, .inl (cZ, 10, .inl (vg))), (mvf, .inl (cI, 21000, .inl (vf))), (mvq, .inl (cI, 8, .inl (vq)))] [.ref am, .int (zf)] (fun r u => res.1 = r ∧ u = [(am, .inr (5, [.int (qf), .int (qt), .ref mvs, .ref mvl, .ref mvc, .int (qn), .int (qs), .int (qk), .int (qo), .ref mvk, .ref mvt, .ref mvg, .int (qa), .int (qm), .ref mvh, .ref mvrk, .ref mvrt, .ref mvrg, .int (res.2.1), .int (res.2.2.1), .int (res.2.2.2.1), .int (res.2.2.2.2.1), .int (res.2.2.2.2.2.1), .int (res.2.2.2.2.2.2.1), .int (res.2.2.2.2.2.2.2.1), .ref mvf, .int (res.2.2.2.2.2.2.2.2.1), .int (res.2.2.2.2.2.2.2.2.2.1), .int (qr), .ref mvq, .ref mvp, .ref mve])), (mvk, .inl (cI, 10, .inl (vk))), (mvt, .inl (cI, 10, .inl (res.2.2.2.2.2.2.2.2.2.2.1))), (mvg, .inl (cZ, 10, .inl (vg))), (mvf, .inl (cI, 21000, .inl (res.2.2.2.2.2.2.2.2.2.2.2))), (mvq, .inl (cI, 8, .inl (vq)))]) := by
  refine entI (Rn := RX5) (by decide +kernel) rfl rfl (Nat.le_of_ble_eq_true rfl) (fun p e s m args below meth c A Q hx hb hr hml hts hown hlocks hA hP hD hK hS ls hl hQ => ?_)
  have inX5 : ∀ w ∈ u_ws RX5 TX5 32, w ∈ wsX5_smooth := by decide +kernel
  have lp_22 : ∀ (k60 : Int32 → Int32 → Int32 → Int32 → Int32 → Int32 → Int32 → Int32 → Int32 → Int32 → Int32 → (Nat → Int32) → (Nat → Int32) → Option (Int32 × Int32 × Int32 × Int32 × Int32 × Int32 × Int32 × Int32 × Int32 × Int32 × (Nat → Int32) × (Nat → Int32))) (hk60 : ∀ (x2 : Int32) (x3 : Int32) (qg : Int32) (qp : Int32) (qu : Int32) (ql : Int32) (qe : Int32) (qb : Int32) (qw : Int32) (qi : Int32) (qj : Int32) (vt : Nat → Int32) (vf : Nat → Int32), k60 x2 x3 qg qp qu ql qe qb qw qi qj vt vf = some res → ∀ (H : Heap) (locs : List Loc), va_P D vwCl [(am, .inr (5, [.int (qf), .int (qt), .ref mvs, .ref mvl, .ref mvc, .int (qn), .int (qs), .int (qk), .int (qo), .ref mvk, .ref mvt, .ref mvg, .int (qa), .int (qm), .ref mvh, .ref mvrk, .ref mvrt, .ref mvrg, .int (qg), .int (qp), .int (qu), .int (ql), .int (qe), .int (qb), .int (qw), .ref mvf, .int (qi), .int (qj), .int (qr), .ref mvq, .ref mvp, .ref mve])), (mvk, .inl (cI, 10, .inl (vk))), (mvt, .inl (cI, 10, .inl (vt))), (mvg, .inl (cZ, 10, .inl (vg))), (mvf, .inl (cI, 21000, .inl (vf))), (mvq, .inl (cI, 8, .inl (vq)))] H → va_D A [(am, .inr (5, [.int (qf), .int (qt), .ref mvs, .ref mvl, .ref mvc, .int (qn), .int (qs), .int (qk), .int (qo), .ref mvk, .ref mvt, .ref mvg, .int (qa), .int (qm), .ref mvh, .ref mvrk, .ref mvrt, .ref mvrg, .int (qg), .int (qp), .int (qu), .int (ql), .int (qe), .int (qb), .int (qw), .ref mvf, .int (qi), .int (qj), .int (qr), .ref mvq, .ref mvp, .ref mve])), (mvk, .inl (cI, 10, .inl (vk))), (mvt, .inl (cI, 10, .inl (vt))), (mvg, .inl (cZ, 10, .inl (vg))), (mvf, .inl (cI, 21000, .inl (vf))), (mvq, .inl (cI, 8, .inl (vq)))] → va_S A s.heap H locs → ∀ (ls : Array Slot), lv_has ls 5 [(0, .ref am), (1, .int (zf)), (2, .int (x2)), (3, .int (x3))] → W p l e ({ frames := 7, cells := 0, slots := 0, locals := 155 }) s m args below meth c H locs 0 0 Q (F0 m 60 ls [])) (n : Nat) (x2 : Int32) (x3 : Int32) (x4 : Int32) (qg : Int32) (qp : Int32) (qu : Int32) (ql : Int32) (qe : Int32) (qb : Int32) (qw : Int32) (qi : Int32) (qj : Int32) (vt : Nat → Int32) (vf : Nat → Int32), f_X5_smooth_L22 qn qs qk qo qr vk vg vq zf k60 n x2 x3 x4 qg qp qu ql qe qb qw qi qj vt vf = some res → ∀ (H : Heap) (locs : List Loc), va_P D vwCl [(am, .inr (5, [.int (qf), .int (qt), .ref mvs, .ref mvl, .ref mvc, .int (qn), .int (qs), .int (qk), .int (qo), .ref mvk, .ref mvt, .ref mvg, .int (qa), .int (qm), .ref mvh, .ref mvrk, .ref mvrt, .ref mvrg, .int (qg), .int (qp), .int (qu), .int (ql), .int (qe), .int (qb), .int (qw), .ref mvf, .int (qi), .int (qj), .int (qr), .ref mvq, .ref mvp, .ref mve])), (mvk, .inl (cI, 10, .inl (vk))), (mvt, .inl (cI, 10, .inl (vt))), (mvg, .inl (cZ, 10, .inl (vg))), (mvf, .inl (cI, 21000, .inl (vf))), (mvq, .inl (cI, 8, .inl (vq)))] H → va_D A [(am, .inr (5, [.int (qf), .int (qt), .ref mvs, .ref mvl, .ref mvc, .int (qn), .int (qs), .int (qk), .int (qo), .ref mvk, .ref mvt, .ref mvg, .int (qa), .int (qm), .ref mvh, .ref mvrk, .ref mvrt, .ref mvrg, .int (qg), .int (qp), .int (qu), .int (ql), .int (qe), .int (qb), .int (qw), .ref mvf, .int (qi), .int (qj), .int (qr), .ref mvq, .ref mvp, .ref mve])), (mvk, .inl (cI, 10, .inl (vk))), (mvt, .inl (cI, 10, .inl (vt))), (mvg, .inl (cZ, 10, .inl (vg))), (mvf, .inl (cI, 21000, .inl (vf))), (mvq, .inl (cI, 8, .inl (vq)))] → va_S A s.heap H locs → ∀ (ls : Array Slot), lv_has ls 5 [(0, .ref am), (1, .int (zf)), (2, .int (x2)), (3, .int (x3)), (4, .int (x4))] → W p l e ({ frames := 7, cells := 0, slots := 0, locals := 155 }) s m args below meth c H locs 0 0 Q (F0 m 22 ls []) := by
    intro k60 hk60 n
    induction n with
    | zero => intro x2 x3 x4 qg qp qu ql qe qb qw qi qj vt vf hg; rw [f_X5_smooth_L22] at hg; cases hg
    | succ n ih =>
      intro x2 x3 x4 qg qp qu ql qe qb qw qi qj vt vf hg H locs hP hD hS ls hl
      rw [f_X5_smooth_L22] at hg
      refine lv_iload hx hb dX5_smooth_22 (lv_at hl 4 rfl) ?_
      refine lv_iconst (v := (4 : Int32)) hx hb dX5_smooth_24 (by decide) ?_
      refine lv_icmp_gt (tgt := 60) hx hb dX5_smooth_25 (by decide) (fun c5 => ?_) (fun c5 => ?_)
      · have hg := it hg c5
        exact hk60 x2 x3 qg qp qu ql qe qb qw qi qj vt vf hg _ _ hP hD hS _ (lv_sub hl [0, 1, 2, 3] rfl)
      · have hg := ie hg c5
        refine lv_aload_n hx hb dX5_smooth_28 rfl (lv_at hl 0 rfl) ?_
        refine va_get (D := D) (ci := 5) (v := .ref mvt) (C := RX5) (T := TX5) (N := 32) hx hb hts inX5 hown hK hP 0 rfl rfl 10 (by decide) (hts (.fieldLink RX5 22 "ScooterFlagsModel" "takes" "[I") (by decide +kernel)) (fun _ h9 => h9) rfl dX5_smooth_29 ?_
        refine lv_iload_n hx hb dX5_smooth_32 rfl (lv_at hl 1 rfl) ?_
        refine lv_iload hx hb dX5_smooth_33 (lv_at hl 4 rfl) ?_
        obtain ⟨g6, hg⟩ := gxo hg
        refine va_iast hx hb hK hP hD hS 2 0 rfl rfl g6 dX5_smooth_35 (fun H locs hP hD hS => ?_)
        have hP : va_P D vwCl [(am, .inr (5, [.int (qf), .int (qt), .ref mvs, .ref mvl, .ref mvc, .int (qn), .int (qs), .int (qk), .int (qo), .ref mvk, .ref mvt, .ref mvg, .int (qa), .int (qm), .ref mvh, .ref mvrk, .ref mvrt, .ref mvrg, .int (qg), .int (qp), .int (qu), .int (ql), .int (qe), .int (qb), .int (qw), .ref mvf, .int (qi), .int (qj), .int (qr), .ref mvq, .ref mvp, .ref mve])), (mvk, .inl (cI, 10, .inl (vk))), (mvt, .inl (cI, 10, .inl ((upd vt zf.toNatClampNeg x4)))), (mvg, .inl (cZ, 10, .inl (vg))), (mvf, .inl (cI, 21000, .inl (vf))), (mvq, .inl (cI, 8, .inl (vq)))] H := hP
        have hD : va_D A [(am, .inr (5, [.int (qf), .int (qt), .ref mvs, .ref mvl, .ref mvc, .int (qn), .int (qs), .int (qk), .int (qo), .ref mvk, .ref mvt, .ref mvg, .int (qa), .int (qm), .ref mvh, .ref mvrk, .ref mvrt, .ref mvrg, .int (qg), .int (qp), .int (qu), .int (ql), .int (qe), .int (qb), .int (qw), .ref mvf, .int (qi), .int (qj), .int (qr), .ref mvq, .ref mvp, .ref mve])), (mvk, .inl (cI, 10, .inl (vk))), (mvt, .inl (cI, 10, .inl ((upd vt zf.toNatClampNeg x4)))), (mvg, .inl (cZ, 10, .inl (vg))), (mvf, .inl (cI, 21000, .inl (vf))), (mvq, .inl (cI, 8, .inl (vq)))] := hD
        refine lv_iload_n hx hb dX5_smooth_36 rfl (lv_at hl 3 rfl) ?_
        refine lv_aload_n hx hb dX5_smooth_37 rfl (lv_at hl 0 rfl) ?_
        obtain ⟨o7, h8, hg⟩ := bd hg
        refine xcVi (As := []) (rest := [.int (x3)]) (wc := [(am, .inr (5, [.int (qf), .int (qt), .ref mvs, .ref mvl, .ref mvc, .int (qn), .int (qs), .int (qk), .int (qo), .ref mvk, .ref mvt, .ref mvg, .int (qa), .int (qm), .ref mvh, .ref mvrk, .ref mvrt, .ref mvrg, .int (qg), .int (qp), .int (qu), .int (ql), .int (qe), .int (qb), .int (qw), .ref mvf, .int (qi), .int (qj), .int (qr), .ref mvq, .ref mvp, .ref mve])), (mvk, .inl (cI, 10, .inl (vk))), (mvt, .inl (cI, 10, .inl ((upd vt zf.toNatClampNeg x4)))), (mvg, .inl (cZ, 10, .inl (vg))), (mvf, .inl (cI, 21000, .inl (vf))), (mvq, .inl (cI, 8, .inl (vq)))]) (wr := []) ⟨hx, hb, hml, hown, hts⟩ (c_X5_areSo l D cI cZ cR am mvk mvt mvg mvf mvq mvs mvl mvc mvh mvrk mvrt mvrg mvp mve qf qt qn qs qk qo qa qm qg qp qu ql qe qb qw qi qj qr vk (upd vt zf.toNatClampNeg x4) vg vf vq h8) (cwV 0 hts gX5_smooth_X5_areSo rfl rfl rfl (by decide +kernel) ⟨Nat.le_of_ble_eq_true rfl, Nat.le_of_ble_eq_true rfl⟩) hK hP hD hS hA [0, 1, 2, 3, 4, 5] [] rfl rfl (by decide) (by decide) (by decide) (va_recv hK hP (ci := 5) (q0 := 0) rfl rfl) rfl rfl hl.1 (lv_room (Nat.le_of_ble_eq_true rfl)) dX5_smooth_38 ⟨Nat.le_of_ble_eq_true rfl, Nat.le_of_ble_eq_true rfl⟩ (fun r u H locs hu hP hD hS => ?_)
        obtain ⟨rfl, rfl⟩ := hu
        have hP : va_P D vwCl [(am, .inr (5, [.int (qf), .int (qt), .ref mvs, .ref mvl, .ref mvc, .int (qn), .int (qs), .int (qk), .int (qo), .ref mvk, .ref mvt, .ref mvg, .int (qa), .int (qm), .ref mvh, .ref mvrk, .ref mvrt, .ref mvrg, .int (o7.2.1), .int (o7.2.2.1), .int (o7.2.2.2.1), .int (o7.2.2.2.2.1), .int (o7.2.2.2.2.2.1), .int (o7.2.2.2.2.2.2.1), .int (o7.2.2.2.2.2.2.2.1), .ref mvf, .int (o7.2.2.2.2.2.2.2.2.1), .int (o7.2.2.2.2.2.2.2.2.2.1), .int (qr), .ref mvq, .ref mvp, .ref mve])), (mvk, .inl (cI, 10, .inl (vk))), (mvt, .inl (cI, 10, .inl ((upd vt zf.toNatClampNeg x4)))), (mvg, .inl (cZ, 10, .inl (vg))), (mvf, .inl (cI, 21000, .inl (o7.2.2.2.2.2.2.2.2.2.2))), (mvq, .inl (cI, 8, .inl (vq)))] H := hP.sub [0, 1, 2, 3, 4, 5] rfl
        have hD : va_D A [(am, .inr (5, [.int (qf), .int (qt), .ref mvs, .ref mvl, .ref mvc, .int (qn), .int (qs), .int (qk), .int (qo), .ref mvk, .ref mvt, .ref mvg, .int (qa), .int (qm), .ref mvh, .ref mvrk, .ref mvrt, .ref mvrg, .int (o7.2.1), .int (o7.2.2.1), .int (o7.2.2.2.1), .int (o7.2.2.2.2.1), .int (o7.2.2.2.2.2.1), .int (o7.2.2.2.2.2.2.1), .int (o7.2.2.2.2.2.2.2.1), .ref mvf, .int (o7.2.2.2.2.2.2.2.2.1), .int (o7.2.2.2.2.2.2.2.2.2.1), .int (qr), .ref mvq, .ref mvp, .ref mve])), (mvk, .inl (cI, 10, .inl (vk))), (mvt, .inl (cI, 10, .inl ((upd vt zf.toNatClampNeg x4)))), (mvg, .inl (cZ, 10, .inl (vg))), (mvf, .inl (cI, 21000, .inl (o7.2.2.2.2.2.2.2.2.2.2))), (mvq, .inl (cI, 8, .inl (vq)))] := hD.sub [0, 1, 2, 3, 4, 5] (by decide) rfl
        refine lv_if_eq (tgt := 51) hx hb dX5_smooth_41 (by decide) (fun c9 => ?_) (fun c9 => ?_)
        · have hg := it hg c9
          refine lv_iconst (v := (0 : Int32)) hx hb dX5_smooth_51 (by decide) ?_
          refine lv_ior hx hb dX5_smooth_52 ?_
          refine lv_istore_n (lv' := [(3, .int ((x3 ||| (0 : Int32)))), (0, .ref am), (1, .int (zf)), (2, .int (x2)), (4, .int (x4))]) hx hb dX5_smooth_53 rfl hl (by decide) rfl (fun ls hl => ?_)
          refine lv_iinc (v := (x4 + (1 : Int32))) (lv' := [(4, .int ((x4 + (1 : Int32)))), (3, .int ((x3 ||| (0 : Int32)))), (0, .ref am), (1, .int (zf)), (2, .int (x2))]) hx hb dX5_smooth_54 hl (k := 4) rfl rfl (by decide) rfl (fun ls hl => ?_)
          refine lv_goto (tgt := 22) hx hb dX5_smooth_57 (by decide) ?_
          exact ih x2 (x3 ||| (0 : Int32)) (x4 + (1 : Int32)) o7.2.1 o7.2.2.1 o7.2.2.2.1 o7.2.2.2.2.1 o7.2.2.2.2.2.1 o7.2.2.2.2.2.2.1 o7.2.2.2.2.2.2.2.1 o7.2.2.2.2.2.2.2.2.1 o7.2.2.2.2.2.2.2.2.2.1 (upd vt zf.toNatClampNeg x4) o7.2.2.2.2.2.2.2.2.2.2 hg _ _ hP hD hS _ (lv_sub hl [2, 3, 4, 1, 0] rfl)
        · have hg := ie hg c9
          refine lv_iconst (v := (1 : Int32)) hx hb dX5_smooth_44 (by decide) ?_
          refine lv_iload hx hb dX5_smooth_45 (lv_at hl 4 rfl) ?_
          refine lv_ishl hx hb dX5_smooth_47 ?_
          refine lv_goto (tgt := 52) hx hb dX5_smooth_48 (by decide) ?_
          refine lv_ior hx hb dX5_smooth_52 ?_
          refine lv_istore_n (lv' := [(3, .int ((x3 ||| ((1 : Int32) <<< (x4 &&& 31))))), (0, .ref am), (1, .int (zf)), (2, .int (x2)), (4, .int (x4))]) hx hb dX5_smooth_53 rfl hl (by decide) rfl (fun ls hl => ?_)
          refine lv_iinc (v := (x4 + (1 : Int32))) (lv' := [(4, .int ((x4 + (1 : Int32)))), (3, .int ((x3 ||| ((1 : Int32) <<< (x4 &&& 31))))), (0, .ref am), (1, .int (zf)), (2, .int (x2))]) hx hb dX5_smooth_54 hl (k := 4) rfl rfl (by decide) rfl (fun ls hl => ?_)
          refine lv_goto (tgt := 22) hx hb dX5_smooth_57 (by decide) ?_
          exact ih x2 (x3 ||| ((1 : Int32) <<< (x4 &&& 31))) (x4 + (1 : Int32)) o7.2.1 o7.2.2.1 o7.2.2.2.1 o7.2.2.2.2.1 o7.2.2.2.2.2.1 o7.2.2.2.2.2.2.1 o7.2.2.2.2.2.2.2.1 o7.2.2.2.2.2.2.2.2.1 o7.2.2.2.2.2.2.2.2.2.1 (upd vt zf.toNatClampNeg x4) o7.2.2.2.2.2.2.2.2.2.2 hg _ _ hP hD hS _ (lv_sub hl [2, 3, 4, 1, 0] rfl)
  have hl : lv_has ls 5 [(0, .ref am), (1, .int (zf))] := hl
  rw [f_X5_smooth] at hg
  refine lv_aload_n hx hb dX5_smooth_0 rfl (lv_at hl 0 rfl) ?_
  refine lv_iload_n hx hb dX5_smooth_1 rfl (lv_at hl 1 rfl) ?_
  obtain ⟨o1, h2, hg⟩ := bd hg
  refine xcVi (As := [.int (zf)]) (rest := []) (wc := [(am, .inr (5, [.int (qf), .int (qt), .ref mvs, .ref mvl, .ref mvc, .int (qn), .int (qs), .int (qk), .int (qo), .ref mvk, .ref mvt, .ref mvg, .int (qa), .int (qm), .ref mvh, .ref mvrk, .ref mvrt, .ref mvrg, .int (qg), .int (qp), .int (qu), .int (ql), .int (qe), .int (qb), .int (qw), .ref mvf, .int (qi), .int (qj), .int (qr), .ref mvq, .ref mvp, .ref mve]))]) (wr := [(mvk, .inl (cI, 10, .inl (vk))), (mvt, .inl (cI, 10, .inl (vt))), (mvg, .inl (cZ, 10, .inl (vg))), (mvf, .inl (cI, 21000, .inl (vf))), (mvq, .inl (cI, 8, .inl (vq)))]) ⟨hx, hb, hml, hown, hts⟩ (c_X5_isFlag l D cI cZ cR am mvs mvl mvc mvk mvt mvg mvh mvrk mvrt mvrg mvf mvq mvp mve qf qt qn qs qk qo qa qm qg qp qu ql qe qb qw qi qj qr zf h2) (cwV 1 hts gX5_smooth_X5_isFlag rfl rfl rfl (by decide +kernel) ⟨Nat.le_of_ble_eq_true rfl, Nat.le_of_ble_eq_true rfl⟩) hK hP hD hS hA [0] [1, 2, 3, 4, 5] rfl rfl (by decide) (by decide) (by decide) (va_recv hK hP (ci := 5) (q0 := 0) rfl rfl) rfl rfl hl.1 (lv_room (Nat.le_of_ble_eq_true rfl)) dX5_smooth_2 ⟨Nat.le_of_ble_eq_true rfl, Nat.le_of_ble_eq_true rfl⟩ (fun r u H locs hu hP hD hS => ?_)
  obtain ⟨rfl, rfl⟩ := hu
  have hP : va_P D vwCl [(am, .inr (5, [.int (qf), .int (qt), .ref mvs, .ref mvl, .ref mvc, .int (qn), .int (qs), .int (qk), .int (qo), .ref mvk, .ref mvt, .ref mvg, .int (qa), .int (qm), .ref mvh, .ref mvrk, .ref mvrt, .ref mvrg, .int (qg), .int (qp), .int (qu), .int (ql), .int (qe), .int (qb), .int (qw), .ref mvf, .int (qi), .int (qj), .int (qr), .ref mvq, .ref mvp, .ref mve])), (mvk, .inl (cI, 10, .inl (vk))), (mvt, .inl (cI, 10, .inl (vt))), (mvg, .inl (cZ, 10, .inl (vg))), (mvf, .inl (cI, 21000, .inl (vf))), (mvq, .inl (cI, 8, .inl (vq)))] H := hP.sub [5, 0, 1, 2, 3, 4] rfl
  have hD : va_D A [(am, .inr (5, [.int (qf), .int (qt), .ref mvs, .ref mvl, .ref mvc, .int (qn), .int (qs), .int (qk), .int (qo), .ref mvk, .ref mvt, .ref mvg, .int (qa), .int (qm), .ref mvh, .ref mvrk, .ref mvrt, .ref mvrg, .int (qg), .int (qp), .int (qu), .int (ql), .int (qe), .int (qb), .int (qw), .ref mvf, .int (qi), .int (qj), .int (qr), .ref mvq, .ref mvp, .ref mve])), (mvk, .inl (cI, 10, .inl (vk))), (mvt, .inl (cI, 10, .inl (vt))), (mvg, .inl (cZ, 10, .inl (vg))), (mvf, .inl (cI, 21000, .inl (vf))), (mvq, .inl (cI, 8, .inl (vq)))] := hD.sub [5, 0, 1, 2, 3, 4] (by decide) rfl
  refine lv_if_ne (tgt := 10) hx hb dX5_smooth_5 (by decide) (fun c3 => ?_) (fun c3 => ?_)
  · have hg := ie hg c3
    refine lv_aload_n hx hb dX5_smooth_10 rfl (lv_at hl 0 rfl) ?_
    refine va_get (D := D) (ci := 5) (v := .ref mvt) (C := RX5) (T := TX5) (N := 32) hx hb hts inX5 hown hK hP 0 rfl rfl 10 (by decide) (hts (.fieldLink RX5 22 "ScooterFlagsModel" "takes" "[I") (by decide +kernel)) (fun _ h9 => h9) rfl dX5_smooth_11 ?_
    refine lv_iload_n hx hb dX5_smooth_14 rfl (lv_at hl 1 rfl) ?_
    obtain ⟨g4, hg⟩ := gxo hg
    refine va_iald hx hb hK hP 2 0 rfl rfl g4 dX5_smooth_15 ?_
    refine W.eq (g2 := F0 m 16 ls [.int ((vt zf.toNatClampNeg))]) rfl ?_
    refine lv_istore_n (lv' := [(2, .int ((vt zf.toNatClampNeg))), (0, .ref am), (1, .int (zf))]) hx hb dX5_smooth_16 rfl hl (by decide) rfl (fun ls hl => ?_)
    refine lv_iconst (v := (0 : Int32)) hx hb dX5_smooth_17 (by decide) ?_
    refine lv_istore_n (lv' := [(3, .int ((0 : Int32))), (2, .int ((vt zf.toNatClampNeg))), (0, .ref am), (1, .int (zf))]) hx hb dX5_smooth_18 rfl hl (by decide) rfl (fun ls hl => ?_)
    refine lv_iconst (v := (0 : Int32)) hx hb dX5_smooth_19 (by decide) ?_
    refine lv_istore (lv' := [(4, .int ((0 : Int32))), (3, .int ((0 : Int32))), (2, .int ((vt zf.toNatClampNeg))), (0, .ref am), (1, .int (zf))]) hx hb dX5_smooth_20 hl (by decide) rfl (fun ls hl => ?_)
    refine lp_22 _ ?_ 100 (vt zf.toNatClampNeg) (0 : Int32) (0 : Int32) qg qp qu ql qe qb qw qi qj vt vf hg _ _ hP hD hS _ (lv_sub hl [3, 4, 2, 1, 0] rfl)
    · intro x2 x3 qg qp qu ql qe qb qw qi qj vt vf hg H locs hP hD hS ls hl
      refine lv_aload_n hx hb dX5_smooth_60 rfl (lv_at hl 0 rfl) ?_
      refine va_get (D := D) (ci := 5) (v := .ref mvt) (C := RX5) (T := TX5) (N := 32) hx hb hts inX5 hown hK hP 0 rfl rfl 10 (by decide) (hts (.fieldLink RX5 22 "ScooterFlagsModel" "takes" "[I") (by decide +kernel)) (fun _ h9 => h9) rfl dX5_smooth_61 ?_
      refine lv_iload_n hx hb dX5_smooth_64 rfl (lv_at hl 1 rfl) ?_
      refine lv_iload_n hx hb dX5_smooth_65 rfl (lv_at hl 2 rfl) ?_
      obtain ⟨g10, hg⟩ := gxo hg
      refine va_iast hx hb hK hP hD hS 2 0 rfl rfl g10 dX5_smooth_66 (fun H locs hP hD hS => ?_)
      have hP : va_P D vwCl [(am, .inr (5, [.int (qf), .int (qt), .ref mvs, .ref mvl, .ref mvc, .int (qn), .int (qs), .int (qk), .int (qo), .ref mvk, .ref mvt, .ref mvg, .int (qa), .int (qm), .ref mvh, .ref mvrk, .ref mvrt, .ref mvrg, .int (qg), .int (qp), .int (qu), .int (ql), .int (qe), .int (qb), .int (qw), .ref mvf, .int (qi), .int (qj), .int (qr), .ref mvq, .ref mvp, .ref mve])), (mvk, .inl (cI, 10, .inl (vk))), (mvt, .inl (cI, 10, .inl ((upd vt zf.toNatClampNeg x2)))), (mvg, .inl (cZ, 10, .inl (vg))), (mvf, .inl (cI, 21000, .inl (vf))), (mvq, .inl (cI, 8, .inl (vq)))] H := hP
      have hD : va_D A [(am, .inr (5, [.int (qf), .int (qt), .ref mvs, .ref mvl, .ref mvc, .int (qn), .int (qs), .int (qk), .int (qo), .ref mvk, .ref mvt, .ref mvg, .int (qa), .int (qm), .ref mvh, .ref mvrk, .ref mvrt, .ref mvrg, .int (qg), .int (qp), .int (qu), .int (ql), .int (qe), .int (qb), .int (qw), .ref mvf, .int (qi), .int (qj), .int (qr), .ref mvq, .ref mvp, .ref mve])), (mvk, .inl (cI, 10, .inl (vk))), (mvt, .inl (cI, 10, .inl ((upd vt zf.toNatClampNeg x2)))), (mvg, .inl (cZ, 10, .inl (vg))), (mvf, .inl (cI, 21000, .inl (vf))), (mvq, .inl (cI, 8, .inl (vq)))] := hD
      refine lv_iload_n hx hb dX5_smooth_67 rfl (lv_at hl 3 rfl) ?_
      obtain rfl := Option.some.inj hg
      exact rti hQ hx hb hr hlocks hK hP hD hS dX5_smooth_68 ⟨rfl, rfl⟩
  · have hg := it hg c3
    refine lv_iconst (v := (-1 : Int32)) hx hb dX5_smooth_8 (by decide) ?_
    obtain rfl := Option.some.inj hg
    exact rti hQ hx hb hr hlocks hK hP hD hS dX5_smooth_9 ⟨rfl, rfl⟩
def f_X5_kinds_L22 (qn : Int32) (qs : Int32) (qk : Int32) (qo : Int32) (qr : Int32) (vt : Nat → Int32) (vg : Nat → Int32) (vq : Nat → Int32) (zf : Int32) (k60 : Int32 → Int32 → Int32 → Int32 → Int32 → Int32 → Int32 → Int32 → Int32 → Int32 → Int32 → (Nat → Int32) → (Nat → Int32) → Option (Int32 × Int32 × Int32 × Int32 × Int32 × Int32 × Int32 × Int32 × Int32 × Int32 × (Nat → Int32) × (Nat → Int32))) : Nat → Int32 → Int32 → Int32 → Int32 → Int32 → Int32 → Int32 → Int32 → Int32 → Int32 → Int32 → Int32 → (Nat → Int32) → (Nat → Int32) → Option (Int32 × Int32 × Int32 × Int32 × Int32 × Int32 × Int32 × Int32 × Int32 × Int32 × (Nat → Int32) × (Nat → Int32))
  | 0, _, _, _, _, _, _, _, _, _, _, _, _, _, _ => none
  | n + 1, x2, x3, x4, qg, qp, qu, ql, qe, qb, qw, qi, qj, vk, vf => if (3 : Int32) ≤ x4 then (k60 x2 x3 qg qp qu ql qe qb qw qi qj vk vf) else (gx zf 10 ((f_X5_areSo qn qs qk qo qg qp qu ql qe qb qw qi qj qr (upd vk zf.toNatClampNeg x4) vt vg vf vq).bind (fun o7 => if o7.1 = 0 then (f_X5_kinds_L22 qn qs qk qo qr vt vg vq zf k60 n x2 (x3 ||| (0 : Int32)) (x4 + (1 : Int32)) o7.2.1 o7.2.2.1 o7.2.2.2.1 o7.2.2.2.2.1 o7.2.2.2.2.2.1 o7.2.2.2.2.2.2.1 o7.2.2.2.2.2.2.2.1 o7.2.2.2.2.2.2.2.2.1 o7.2.2.2.2.2.2.2.2.2.1 (upd vk zf.toNatClampNeg x4) o7.2.2.2.2.2.2.2.2.2.2) else (f_X5_kinds_L22 qn qs qk qo qr vt vg vq zf k60 n x2 (x3 ||| ((1 : Int32) <<< (x4 &&& 31))) (x4 + (1 : Int32)) o7.2.1 o7.2.2.1 o7.2.2.2.1 o7.2.2.2.2.1 o7.2.2.2.2.2.1 o7.2.2.2.2.2.2.1 o7.2.2.2.2.2.2.2.1 o7.2.2.2.2.2.2.2.2.1 o7.2.2.2.2.2.2.2.2.2.1 (upd vk zf.toNatClampNeg x4) o7.2.2.2.2.2.2.2.2.2.2))))
def f_X5_kinds (qn : Int32) (qs : Int32) (qk : Int32) (qo : Int32) (qg : Int32) (qp : Int32) (qu : Int32) (ql : Int32) (qe : Int32) (qb : Int32) (qw : Int32) (qi : Int32) (qj : Int32) (qr : Int32) (vk : Nat → Int32) (vt : Nat → Int32) (vg : Nat → Int32) (vf : Nat → Int32) (vq : Nat → Int32) (zf : Int32) : Option (Int32 × Int32 × Int32 × Int32 × Int32 × Int32 × Int32 × Int32 × Int32 × Int32 × (Nat → Int32) × (Nat → Int32)) :=
  (f_X5_isFlag qn zf).bind (fun o1 => if o1 = 0 then (some ((-1 : Int32), qg, qp, qu, ql, qe, qb, qw, qi, qj, vk, vf)) else (gx zf 10 (f_X5_kinds_L22 qn qs qk qo qr vt vg vq zf (fun (x2 : Int32) (x3 : Int32) (qg : Int32) (qp : Int32) (qu : Int32) (ql : Int32) (qe : Int32) (qb : Int32) (qw : Int32) (qi : Int32) (qj : Int32) (vk : Nat → Int32) (vf : Nat → Int32) => gx zf 10 (some (x3, qg, qp, qu, ql, qe, qb, qw, qi, qj, (upd vk zf.toNatClampNeg x2), vf))) 100 (vk zf.toNatClampNeg) (0 : Int32) (0 : Int32) qg qp qu ql qe qb qw qi qj vk vf)))
set_option maxHeartbeats 4000000 in
set_option maxRecDepth 100000 in
theorem c_X5_kinds (l : Launch) (D : va_G) (cI cZ cR : ClassId) (am : Nat) (mvk : Nat) (mvt : Nat) (mvg : Nat) (mvf : Nat) (mvq : Nat) (mvs : Nat) (mvl : Nat) (mvc : Nat) (mvh : Nat) (mvrk : Nat) (mvrt : Nat) (mvrg : Nat) (mvp : Nat) (mve : Nat) (qf : Int32) (qt : Int32) (qn : Int32) (qs : Int32) (qk : Int32) (qo : Int32) (qa : Int32) (qm : Int32) (qg : Int32) (qp : Int32) (qu : Int32) (ql : Int32) (qe : Int32) (qb : Int32) (qw : Int32) (qi : Int32) (qj : Int32) (qr : Int32) (vk : Nat → Int32) (vt : Nat → Int32) (vg : Nat → Int32) (vf : Nat → Int32) (vq : Nat → Int32) (zf : Int32) {res : Int32 × Int32 × Int32 × Int32 × Int32 × Int32 × Int32 × Int32 × Int32 × Int32 × (Nat → Int32) × (Nat → Int32)} (hg : f_X5_kinds qn qs qk qo qg qp qu ql qe qb qw qi qj qr vk vt vg vf vq zf = some res) : MI l yX5_kinds wsX5_kinds ({ frames := 7, cells := 0, slots := 0, locals := 155 }) D (T3 cI cZ cR) [(am, .inr (5, [.int (qf), .int (qt), .ref mvs, .ref mvl, .ref mvc, .int (qn), .int (qs), .int (qk), .int (qo), .ref mvk, .ref mvt, .ref mvg, .int (qa), .int (qm), .ref mvh, .ref mvrk, .ref mvrt, .ref mvrg, .int (qg), .int (qp), .int (qu), .int (ql), .int (qe), .int (qb), .int (qw), .ref mvf, .int (qi), .int (qj), .int (qr), .ref mvq, .ref mvp, .ref mve])), (mvk, .inl (cI, 10, .inl (vk))), (mvt, .inl (cI, 10, .inl (vt))), (mvg, .inl (cZ, 10, .inl (vg))), (mvf, .inl (cI, 21000, .inl (vf))), (mvq, .inl (cI, 8, .inl (vq)))] [.ref am, .int (zf)] (fun r u => res.1 = r ∧ u = [(am, .inr (5, [.int (qf), .int (qt), .ref mvs, .ref mvl, .ref mvc, .int (qn), .int (qs), .int (qk), .int (qo), .ref mvk, .ref mvt, .ref mvg, .int (qa), .int (qm), .ref mvh, .ref mvrk, .ref mvrt, .ref mvrg, .int (res.2.1), .int (res.2.2.1), .int (res.2.2.2.1), .int (res.2.2.2.2.1), .int (res.2.2.2.2.2.1), .int (res.2.2.2.2.2.2.1), .int (res.2.2.2.2.2.2.2.1), .ref mvf, .int (res.2.2.2.2.2.2.2.2.1), .int (res.2.2.2.2.2.2.2.2.2.1), .int (qr), .ref mvq, .ref mvp, .ref mve])), (mvk, .inl (cI, 10, .inl (res.2.2.2.2.2.2.2.2.2.2.1))), (mvt, .inl (cI, 10, .inl (vt))), (mvg, .inl (cZ, 10, .inl (vg))), (mvf, .inl (cI, 21000, .inl (res.2.2.2.2.2.2.2.2.2.2.2))), (mvq, .inl (cI, 8, .inl (vq)))]) := by
  refine entI (Rn := RX5) (by decide +kernel) rfl rfl (Nat.le_of_ble_eq_true rfl) (fun p e s m args below meth c A Q hx hb hr hml hts hown hlocks hA hP hD hK hS ls hl hQ => ?_)
  have inX5 : ∀ w ∈ u_ws RX5 TX5 32, w ∈ wsX5_kinds := by decide +kernel
  have lp_22 : ∀ (k60 : Int32 → Int32 → Int32 → Int32 → Int32 → Int32 → Int32 → Int32 → Int32 → Int32 → Int32 → (Nat → Int32) → (Nat → Int32) → Option (Int32 × Int32 × Int32 × Int32 × Int32 × Int32 × Int32 × Int32 × Int32 × Int32 × (Nat → Int32) × (Nat → Int32))) (hk60 : ∀ (x2 : Int32) (x3 : Int32) (qg : Int32) (qp : Int32) (qu : Int32) (ql : Int32) (qe : Int32) (qb : Int32) (qw : Int32) (qi : Int32) (qj : Int32) (vk : Nat → Int32) (vf : Nat → Int32), k60 x2 x3 qg qp qu ql qe qb qw qi qj vk vf = some res → ∀ (H : Heap) (locs : List Loc), va_P D vwCl [(am, .inr (5, [.int (qf), .int (qt), .ref mvs, .ref mvl, .ref mvc, .int (qn), .int (qs), .int (qk), .int (qo), .ref mvk, .ref mvt, .ref mvg, .int (qa), .int (qm), .ref mvh, .ref mvrk, .ref mvrt, .ref mvrg, .int (qg), .int (qp), .int (qu), .int (ql), .int (qe), .int (qb), .int (qw), .ref mvf, .int (qi), .int (qj), .int (qr), .ref mvq, .ref mvp, .ref mve])), (mvk, .inl (cI, 10, .inl (vk))), (mvt, .inl (cI, 10, .inl (vt))), (mvg, .inl (cZ, 10, .inl (vg))), (mvf, .inl (cI, 21000, .inl (vf))), (mvq, .inl (cI, 8, .inl (vq)))] H → va_D A [(am, .inr (5, [.int (qf), .int (qt), .ref mvs, .ref mvl, .ref mvc, .int (qn), .int (qs), .int (qk), .int (qo), .ref mvk, .ref mvt, .ref mvg, .int (qa), .int (qm), .ref mvh, .ref mvrk, .ref mvrt, .ref mvrg, .int (qg), .int (qp), .int (qu), .int (ql), .int (qe), .int (qb), .int (qw), .ref mvf, .int (qi), .int (qj), .int (qr), .ref mvq, .ref mvp, .ref mve])), (mvk, .inl (cI, 10, .inl (vk))), (mvt, .inl (cI, 10, .inl (vt))), (mvg, .inl (cZ, 10, .inl (vg))), (mvf, .inl (cI, 21000, .inl (vf))), (mvq, .inl (cI, 8, .inl (vq)))] → va_S A s.heap H locs → ∀ (ls : Array Slot), lv_has ls 5 [(0, .ref am), (1, .int (zf)), (2, .int (x2)), (3, .int (x3))] → W p l e ({ frames := 7, cells := 0, slots := 0, locals := 155 }) s m args below meth c H locs 0 0 Q (F0 m 60 ls [])) (n : Nat) (x2 : Int32) (x3 : Int32) (x4 : Int32) (qg : Int32) (qp : Int32) (qu : Int32) (ql : Int32) (qe : Int32) (qb : Int32) (qw : Int32) (qi : Int32) (qj : Int32) (vk : Nat → Int32) (vf : Nat → Int32), f_X5_kinds_L22 qn qs qk qo qr vt vg vq zf k60 n x2 x3 x4 qg qp qu ql qe qb qw qi qj vk vf = some res → ∀ (H : Heap) (locs : List Loc), va_P D vwCl [(am, .inr (5, [.int (qf), .int (qt), .ref mvs, .ref mvl, .ref mvc, .int (qn), .int (qs), .int (qk), .int (qo), .ref mvk, .ref mvt, .ref mvg, .int (qa), .int (qm), .ref mvh, .ref mvrk, .ref mvrt, .ref mvrg, .int (qg), .int (qp), .int (qu), .int (ql), .int (qe), .int (qb), .int (qw), .ref mvf, .int (qi), .int (qj), .int (qr), .ref mvq, .ref mvp, .ref mve])), (mvk, .inl (cI, 10, .inl (vk))), (mvt, .inl (cI, 10, .inl (vt))), (mvg, .inl (cZ, 10, .inl (vg))), (mvf, .inl (cI, 21000, .inl (vf))), (mvq, .inl (cI, 8, .inl (vq)))] H → va_D A [(am, .inr (5, [.int (qf), .int (qt), .ref mvs, .ref mvl, .ref mvc, .int (qn), .int (qs), .int (qk), .int (qo), .ref mvk, .ref mvt, .ref mvg, .int (qa), .int (qm), .ref mvh, .ref mvrk, .ref mvrt, .ref mvrg, .int (qg), .int (qp), .int (qu), .int (ql), .int (qe), .int (qb), .int (qw), .ref mvf, .int (qi), .int (qj), .int (qr), .ref mvq, .ref mvp, .ref mve])), (mvk, .inl (cI, 10, .inl (vk))), (mvt, .inl (cI, 10, .inl (vt))), (mvg, .inl (cZ, 10, .inl (vg))), (mvf, .inl (cI, 21000, .inl (vf))), (mvq, .inl (cI, 8, .inl (vq)))] → va_S A s.heap H locs → ∀ (ls : Array Slot), lv_has ls 5 [(0, .ref am), (1, .int (zf)), (2, .int (x2)), (3, .int (x3)), (4, .int (x4))] → W p l e ({ frames := 7, cells := 0, slots := 0, locals := 155 }) s m args below meth c H locs 0 0 Q (F0 m 22 ls []) := by
    intro k60 hk60 n
    induction n with
    | zero => intro x2 x3 x4 qg qp qu ql qe qb qw qi qj vk vf hg; rw [f_X5_kinds_L22] at hg; cases hg
    | succ n ih =>
      intro x2 x3 x4 qg qp qu ql qe qb qw qi qj vk vf hg H locs hP hD hS ls hl
      rw [f_X5_kinds_L22] at hg
      refine lv_iload hx hb dX5_kinds_22 (lv_at hl 4 rfl) ?_
      refine lv_iconst (v := (3 : Int32)) hx hb dX5_kinds_24 (by decide) ?_
      refine lv_icmp_ge (tgt := 60) hx hb dX5_kinds_25 (by decide) (fun c5 => ?_) (fun c5 => ?_)
      · have hg := it hg c5
        exact hk60 x2 x3 qg qp qu ql qe qb qw qi qj vk vf hg _ _ hP hD hS _ (lv_sub hl [0, 1, 2, 3] rfl)
      · have hg := ie hg c5
        refine lv_aload_n hx hb dX5_kinds_28 rfl (lv_at hl 0 rfl) ?_
        refine va_get (D := D) (ci := 5) (v := .ref mvk) (C := RX5) (T := TX5) (N := 32) hx hb hts inX5 hown hK hP 0 rfl rfl 9 (by decide) (hts (.fieldLink RX5 19 "ScooterFlagsModel" "kind" "[I") (by decide +kernel)) (fun _ h9 => h9) rfl dX5_kinds_29 ?_
        refine lv_iload_n hx hb dX5_kinds_32 rfl (lv_at hl 1 rfl) ?_
        refine lv_iload hx hb dX5_kinds_33 (lv_at hl 4 rfl) ?_
        obtain ⟨g6, hg⟩ := gxo hg
        refine va_iast hx hb hK hP hD hS 1 0 rfl rfl g6 dX5_kinds_35 (fun H locs hP hD hS => ?_)
        have hP : va_P D vwCl [(am, .inr (5, [.int (qf), .int (qt), .ref mvs, .ref mvl, .ref mvc, .int (qn), .int (qs), .int (qk), .int (qo), .ref mvk, .ref mvt, .ref mvg, .int (qa), .int (qm), .ref mvh, .ref mvrk, .ref mvrt, .ref mvrg, .int (qg), .int (qp), .int (qu), .int (ql), .int (qe), .int (qb), .int (qw), .ref mvf, .int (qi), .int (qj), .int (qr), .ref mvq, .ref mvp, .ref mve])), (mvk, .inl (cI, 10, .inl ((upd vk zf.toNatClampNeg x4)))), (mvt, .inl (cI, 10, .inl (vt))), (mvg, .inl (cZ, 10, .inl (vg))), (mvf, .inl (cI, 21000, .inl (vf))), (mvq, .inl (cI, 8, .inl (vq)))] H := hP
        have hD : va_D A [(am, .inr (5, [.int (qf), .int (qt), .ref mvs, .ref mvl, .ref mvc, .int (qn), .int (qs), .int (qk), .int (qo), .ref mvk, .ref mvt, .ref mvg, .int (qa), .int (qm), .ref mvh, .ref mvrk, .ref mvrt, .ref mvrg, .int (qg), .int (qp), .int (qu), .int (ql), .int (qe), .int (qb), .int (qw), .ref mvf, .int (qi), .int (qj), .int (qr), .ref mvq, .ref mvp, .ref mve])), (mvk, .inl (cI, 10, .inl ((upd vk zf.toNatClampNeg x4)))), (mvt, .inl (cI, 10, .inl (vt))), (mvg, .inl (cZ, 10, .inl (vg))), (mvf, .inl (cI, 21000, .inl (vf))), (mvq, .inl (cI, 8, .inl (vq)))] := hD
        refine lv_iload_n hx hb dX5_kinds_36 rfl (lv_at hl 3 rfl) ?_
        refine lv_aload_n hx hb dX5_kinds_37 rfl (lv_at hl 0 rfl) ?_
        obtain ⟨o7, h8, hg⟩ := bd hg
        refine xcVi (As := []) (rest := [.int (x3)]) (wc := [(am, .inr (5, [.int (qf), .int (qt), .ref mvs, .ref mvl, .ref mvc, .int (qn), .int (qs), .int (qk), .int (qo), .ref mvk, .ref mvt, .ref mvg, .int (qa), .int (qm), .ref mvh, .ref mvrk, .ref mvrt, .ref mvrg, .int (qg), .int (qp), .int (qu), .int (ql), .int (qe), .int (qb), .int (qw), .ref mvf, .int (qi), .int (qj), .int (qr), .ref mvq, .ref mvp, .ref mve])), (mvk, .inl (cI, 10, .inl ((upd vk zf.toNatClampNeg x4)))), (mvt, .inl (cI, 10, .inl (vt))), (mvg, .inl (cZ, 10, .inl (vg))), (mvf, .inl (cI, 21000, .inl (vf))), (mvq, .inl (cI, 8, .inl (vq)))]) (wr := []) ⟨hx, hb, hml, hown, hts⟩ (c_X5_areSo l D cI cZ cR am mvk mvt mvg mvf mvq mvs mvl mvc mvh mvrk mvrt mvrg mvp mve qf qt qn qs qk qo qa qm qg qp qu ql qe qb qw qi qj qr (upd vk zf.toNatClampNeg x4) vt vg vf vq h8) (cwV 0 hts gX5_kinds_X5_areSo rfl rfl rfl (by decide +kernel) ⟨Nat.le_of_ble_eq_true rfl, Nat.le_of_ble_eq_true rfl⟩) hK hP hD hS hA [0, 1, 2, 3, 4, 5] [] rfl rfl (by decide) (by decide) (by decide) (va_recv hK hP (ci := 5) (q0 := 0) rfl rfl) rfl rfl hl.1 (lv_room (Nat.le_of_ble_eq_true rfl)) dX5_kinds_38 ⟨Nat.le_of_ble_eq_true rfl, Nat.le_of_ble_eq_true rfl⟩ (fun r u H locs hu hP hD hS => ?_)
        obtain ⟨rfl, rfl⟩ := hu
        have hP : va_P D vwCl [(am, .inr (5, [.int (qf), .int (qt), .ref mvs, .ref mvl, .ref mvc, .int (qn), .int (qs), .int (qk), .int (qo), .ref mvk, .ref mvt, .ref mvg, .int (qa), .int (qm), .ref mvh, .ref mvrk, .ref mvrt, .ref mvrg, .int (o7.2.1), .int (o7.2.2.1), .int (o7.2.2.2.1), .int (o7.2.2.2.2.1), .int (o7.2.2.2.2.2.1), .int (o7.2.2.2.2.2.2.1), .int (o7.2.2.2.2.2.2.2.1), .ref mvf, .int (o7.2.2.2.2.2.2.2.2.1), .int (o7.2.2.2.2.2.2.2.2.2.1), .int (qr), .ref mvq, .ref mvp, .ref mve])), (mvk, .inl (cI, 10, .inl ((upd vk zf.toNatClampNeg x4)))), (mvt, .inl (cI, 10, .inl (vt))), (mvg, .inl (cZ, 10, .inl (vg))), (mvf, .inl (cI, 21000, .inl (o7.2.2.2.2.2.2.2.2.2.2))), (mvq, .inl (cI, 8, .inl (vq)))] H := hP.sub [0, 1, 2, 3, 4, 5] rfl
        have hD : va_D A [(am, .inr (5, [.int (qf), .int (qt), .ref mvs, .ref mvl, .ref mvc, .int (qn), .int (qs), .int (qk), .int (qo), .ref mvk, .ref mvt, .ref mvg, .int (qa), .int (qm), .ref mvh, .ref mvrk, .ref mvrt, .ref mvrg, .int (o7.2.1), .int (o7.2.2.1), .int (o7.2.2.2.1), .int (o7.2.2.2.2.1), .int (o7.2.2.2.2.2.1), .int (o7.2.2.2.2.2.2.1), .int (o7.2.2.2.2.2.2.2.1), .ref mvf, .int (o7.2.2.2.2.2.2.2.2.1), .int (o7.2.2.2.2.2.2.2.2.2.1), .int (qr), .ref mvq, .ref mvp, .ref mve])), (mvk, .inl (cI, 10, .inl ((upd vk zf.toNatClampNeg x4)))), (mvt, .inl (cI, 10, .inl (vt))), (mvg, .inl (cZ, 10, .inl (vg))), (mvf, .inl (cI, 21000, .inl (o7.2.2.2.2.2.2.2.2.2.2))), (mvq, .inl (cI, 8, .inl (vq)))] := hD.sub [0, 1, 2, 3, 4, 5] (by decide) rfl
        refine lv_if_eq (tgt := 51) hx hb dX5_kinds_41 (by decide) (fun c9 => ?_) (fun c9 => ?_)
        · have hg := it hg c9
          refine lv_iconst (v := (0 : Int32)) hx hb dX5_kinds_51 (by decide) ?_
          refine lv_ior hx hb dX5_kinds_52 ?_
          refine lv_istore_n (lv' := [(3, .int ((x3 ||| (0 : Int32)))), (0, .ref am), (1, .int (zf)), (2, .int (x2)), (4, .int (x4))]) hx hb dX5_kinds_53 rfl hl (by decide) rfl (fun ls hl => ?_)
          refine lv_iinc (v := (x4 + (1 : Int32))) (lv' := [(4, .int ((x4 + (1 : Int32)))), (3, .int ((x3 ||| (0 : Int32)))), (0, .ref am), (1, .int (zf)), (2, .int (x2))]) hx hb dX5_kinds_54 hl (k := 4) rfl rfl (by decide) rfl (fun ls hl => ?_)
          refine lv_goto (tgt := 22) hx hb dX5_kinds_57 (by decide) ?_
          exact ih x2 (x3 ||| (0 : Int32)) (x4 + (1 : Int32)) o7.2.1 o7.2.2.1 o7.2.2.2.1 o7.2.2.2.2.1 o7.2.2.2.2.2.1 o7.2.2.2.2.2.2.1 o7.2.2.2.2.2.2.2.1 o7.2.2.2.2.2.2.2.2.1 o7.2.2.2.2.2.2.2.2.2.1 (upd vk zf.toNatClampNeg x4) o7.2.2.2.2.2.2.2.2.2.2 hg _ _ hP hD hS _ (lv_sub hl [2, 3, 4, 1, 0] rfl)
        · have hg := ie hg c9
          refine lv_iconst (v := (1 : Int32)) hx hb dX5_kinds_44 (by decide) ?_
          refine lv_iload hx hb dX5_kinds_45 (lv_at hl 4 rfl) ?_
          refine lv_ishl hx hb dX5_kinds_47 ?_
          refine lv_goto (tgt := 52) hx hb dX5_kinds_48 (by decide) ?_
          refine lv_ior hx hb dX5_kinds_52 ?_
          refine lv_istore_n (lv' := [(3, .int ((x3 ||| ((1 : Int32) <<< (x4 &&& 31))))), (0, .ref am), (1, .int (zf)), (2, .int (x2)), (4, .int (x4))]) hx hb dX5_kinds_53 rfl hl (by decide) rfl (fun ls hl => ?_)
          refine lv_iinc (v := (x4 + (1 : Int32))) (lv' := [(4, .int ((x4 + (1 : Int32)))), (3, .int ((x3 ||| ((1 : Int32) <<< (x4 &&& 31))))), (0, .ref am), (1, .int (zf)), (2, .int (x2))]) hx hb dX5_kinds_54 hl (k := 4) rfl rfl (by decide) rfl (fun ls hl => ?_)
          refine lv_goto (tgt := 22) hx hb dX5_kinds_57 (by decide) ?_
          exact ih x2 (x3 ||| ((1 : Int32) <<< (x4 &&& 31))) (x4 + (1 : Int32)) o7.2.1 o7.2.2.1 o7.2.2.2.1 o7.2.2.2.2.1 o7.2.2.2.2.2.1 o7.2.2.2.2.2.2.1 o7.2.2.2.2.2.2.2.1 o7.2.2.2.2.2.2.2.2.1 o7.2.2.2.2.2.2.2.2.2.1 (upd vk zf.toNatClampNeg x4) o7.2.2.2.2.2.2.2.2.2.2 hg _ _ hP hD hS _ (lv_sub hl [2, 3, 4, 1, 0] rfl)
  have hl : lv_has ls 5 [(0, .ref am), (1, .int (zf))] := hl
  rw [f_X5_kinds] at hg
  refine lv_aload_n hx hb dX5_kinds_0 rfl (lv_at hl 0 rfl) ?_
  refine lv_iload_n hx hb dX5_kinds_1 rfl (lv_at hl 1 rfl) ?_
  obtain ⟨o1, h2, hg⟩ := bd hg
  refine xcVi (As := [.int (zf)]) (rest := []) (wc := [(am, .inr (5, [.int (qf), .int (qt), .ref mvs, .ref mvl, .ref mvc, .int (qn), .int (qs), .int (qk), .int (qo), .ref mvk, .ref mvt, .ref mvg, .int (qa), .int (qm), .ref mvh, .ref mvrk, .ref mvrt, .ref mvrg, .int (qg), .int (qp), .int (qu), .int (ql), .int (qe), .int (qb), .int (qw), .ref mvf, .int (qi), .int (qj), .int (qr), .ref mvq, .ref mvp, .ref mve]))]) (wr := [(mvk, .inl (cI, 10, .inl (vk))), (mvt, .inl (cI, 10, .inl (vt))), (mvg, .inl (cZ, 10, .inl (vg))), (mvf, .inl (cI, 21000, .inl (vf))), (mvq, .inl (cI, 8, .inl (vq)))]) ⟨hx, hb, hml, hown, hts⟩ (c_X5_isFlag l D cI cZ cR am mvs mvl mvc mvk mvt mvg mvh mvrk mvrt mvrg mvf mvq mvp mve qf qt qn qs qk qo qa qm qg qp qu ql qe qb qw qi qj qr zf h2) (cwV 1 hts gX5_kinds_X5_isFlag rfl rfl rfl (by decide +kernel) ⟨Nat.le_of_ble_eq_true rfl, Nat.le_of_ble_eq_true rfl⟩) hK hP hD hS hA [0] [1, 2, 3, 4, 5] rfl rfl (by decide) (by decide) (by decide) (va_recv hK hP (ci := 5) (q0 := 0) rfl rfl) rfl rfl hl.1 (lv_room (Nat.le_of_ble_eq_true rfl)) dX5_kinds_2 ⟨Nat.le_of_ble_eq_true rfl, Nat.le_of_ble_eq_true rfl⟩ (fun r u H locs hu hP hD hS => ?_)
  obtain ⟨rfl, rfl⟩ := hu
  have hP : va_P D vwCl [(am, .inr (5, [.int (qf), .int (qt), .ref mvs, .ref mvl, .ref mvc, .int (qn), .int (qs), .int (qk), .int (qo), .ref mvk, .ref mvt, .ref mvg, .int (qa), .int (qm), .ref mvh, .ref mvrk, .ref mvrt, .ref mvrg, .int (qg), .int (qp), .int (qu), .int (ql), .int (qe), .int (qb), .int (qw), .ref mvf, .int (qi), .int (qj), .int (qr), .ref mvq, .ref mvp, .ref mve])), (mvk, .inl (cI, 10, .inl (vk))), (mvt, .inl (cI, 10, .inl (vt))), (mvg, .inl (cZ, 10, .inl (vg))), (mvf, .inl (cI, 21000, .inl (vf))), (mvq, .inl (cI, 8, .inl (vq)))] H := hP.sub [5, 0, 1, 2, 3, 4] rfl
  have hD : va_D A [(am, .inr (5, [.int (qf), .int (qt), .ref mvs, .ref mvl, .ref mvc, .int (qn), .int (qs), .int (qk), .int (qo), .ref mvk, .ref mvt, .ref mvg, .int (qa), .int (qm), .ref mvh, .ref mvrk, .ref mvrt, .ref mvrg, .int (qg), .int (qp), .int (qu), .int (ql), .int (qe), .int (qb), .int (qw), .ref mvf, .int (qi), .int (qj), .int (qr), .ref mvq, .ref mvp, .ref mve])), (mvk, .inl (cI, 10, .inl (vk))), (mvt, .inl (cI, 10, .inl (vt))), (mvg, .inl (cZ, 10, .inl (vg))), (mvf, .inl (cI, 21000, .inl (vf))), (mvq, .inl (cI, 8, .inl (vq)))] := hD.sub [5, 0, 1, 2, 3, 4] (by decide) rfl
  refine lv_if_ne (tgt := 10) hx hb dX5_kinds_5 (by decide) (fun c3 => ?_) (fun c3 => ?_)
  · have hg := ie hg c3
    refine lv_aload_n hx hb dX5_kinds_10 rfl (lv_at hl 0 rfl) ?_
    refine va_get (D := D) (ci := 5) (v := .ref mvk) (C := RX5) (T := TX5) (N := 32) hx hb hts inX5 hown hK hP 0 rfl rfl 9 (by decide) (hts (.fieldLink RX5 19 "ScooterFlagsModel" "kind" "[I") (by decide +kernel)) (fun _ h9 => h9) rfl dX5_kinds_11 ?_
    refine lv_iload_n hx hb dX5_kinds_14 rfl (lv_at hl 1 rfl) ?_
    obtain ⟨g4, hg⟩ := gxo hg
    refine va_iald hx hb hK hP 1 0 rfl rfl g4 dX5_kinds_15 ?_
    refine W.eq (g2 := F0 m 16 ls [.int ((vk zf.toNatClampNeg))]) rfl ?_
    refine lv_istore_n (lv' := [(2, .int ((vk zf.toNatClampNeg))), (0, .ref am), (1, .int (zf))]) hx hb dX5_kinds_16 rfl hl (by decide) rfl (fun ls hl => ?_)
    refine lv_iconst (v := (0 : Int32)) hx hb dX5_kinds_17 (by decide) ?_
    refine lv_istore_n (lv' := [(3, .int ((0 : Int32))), (2, .int ((vk zf.toNatClampNeg))), (0, .ref am), (1, .int (zf))]) hx hb dX5_kinds_18 rfl hl (by decide) rfl (fun ls hl => ?_)
    refine lv_iconst (v := (0 : Int32)) hx hb dX5_kinds_19 (by decide) ?_
    refine lv_istore (lv' := [(4, .int ((0 : Int32))), (3, .int ((0 : Int32))), (2, .int ((vk zf.toNatClampNeg))), (0, .ref am), (1, .int (zf))]) hx hb dX5_kinds_20 hl (by decide) rfl (fun ls hl => ?_)
    refine lp_22 _ ?_ 100 (vk zf.toNatClampNeg) (0 : Int32) (0 : Int32) qg qp qu ql qe qb qw qi qj vk vf hg _ _ hP hD hS _ (lv_sub hl [3, 4, 2, 1, 0] rfl)
    · intro x2 x3 qg qp qu ql qe qb qw qi qj vk vf hg H locs hP hD hS ls hl
      refine lv_aload_n hx hb dX5_kinds_60 rfl (lv_at hl 0 rfl) ?_
      refine va_get (D := D) (ci := 5) (v := .ref mvk) (C := RX5) (T := TX5) (N := 32) hx hb hts inX5 hown hK hP 0 rfl rfl 9 (by decide) (hts (.fieldLink RX5 19 "ScooterFlagsModel" "kind" "[I") (by decide +kernel)) (fun _ h9 => h9) rfl dX5_kinds_61 ?_
      refine lv_iload_n hx hb dX5_kinds_64 rfl (lv_at hl 1 rfl) ?_
      refine lv_iload_n hx hb dX5_kinds_65 rfl (lv_at hl 2 rfl) ?_
      obtain ⟨g10, hg⟩ := gxo hg
      refine va_iast hx hb hK hP hD hS 1 0 rfl rfl g10 dX5_kinds_66 (fun H locs hP hD hS => ?_)
      have hP : va_P D vwCl [(am, .inr (5, [.int (qf), .int (qt), .ref mvs, .ref mvl, .ref mvc, .int (qn), .int (qs), .int (qk), .int (qo), .ref mvk, .ref mvt, .ref mvg, .int (qa), .int (qm), .ref mvh, .ref mvrk, .ref mvrt, .ref mvrg, .int (qg), .int (qp), .int (qu), .int (ql), .int (qe), .int (qb), .int (qw), .ref mvf, .int (qi), .int (qj), .int (qr), .ref mvq, .ref mvp, .ref mve])), (mvk, .inl (cI, 10, .inl ((upd vk zf.toNatClampNeg x2)))), (mvt, .inl (cI, 10, .inl (vt))), (mvg, .inl (cZ, 10, .inl (vg))), (mvf, .inl (cI, 21000, .inl (vf))), (mvq, .inl (cI, 8, .inl (vq)))] H := hP
      have hD : va_D A [(am, .inr (5, [.int (qf), .int (qt), .ref mvs, .ref mvl, .ref mvc, .int (qn), .int (qs), .int (qk), .int (qo), .ref mvk, .ref mvt, .ref mvg, .int (qa), .int (qm), .ref mvh, .ref mvrk, .ref mvrt, .ref mvrg, .int (qg), .int (qp), .int (qu), .int (ql), .int (qe), .int (qb), .int (qw), .ref mvf, .int (qi), .int (qj), .int (qr), .ref mvq, .ref mvp, .ref mve])), (mvk, .inl (cI, 10, .inl ((upd vk zf.toNatClampNeg x2)))), (mvt, .inl (cI, 10, .inl (vt))), (mvg, .inl (cZ, 10, .inl (vg))), (mvf, .inl (cI, 21000, .inl (vf))), (mvq, .inl (cI, 8, .inl (vq)))] := hD
      refine lv_iload_n hx hb dX5_kinds_67 rfl (lv_at hl 3 rfl) ?_
      obtain rfl := Option.some.inj hg
      exact rti hQ hx hb hr hlocks hK hP hD hS dX5_kinds_68 ⟨rfl, rfl⟩
  · have hg := it hg c3
    refine lv_iconst (v := (-1 : Int32)) hx hb dX5_kinds_8 (by decide) ?_
    obtain rfl := Option.some.inj hg
    exact rti hQ hx hb hr hlocks hK hP hD hS dX5_kinds_9 ⟨rfl, rfl⟩
def f_X5_strengths_L19 (qn : Int32) (qk : Int32) (qo : Int32) (qr : Int32) (vk : Nat → Int32) (vt : Nat → Int32) (vg : Nat → Int32) (vq : Nat → Int32) (k52 : Int32 → Int32 → Int32 → Int32 → Int32 → Int32 → Int32 → Int32 → Int32 → Int32 → Int32 → Int32 → (Nat → Int32) → Option (Int32 × Int32 × Int32 × Int32 × Int32 × Int32 × Int32 × Int32 × Int32 × Int32 × Int32 × (Nat → Int32))) : Nat → Int32 → Int32 → Int32 → Int32 → Int32 → Int32 → Int32 → Int32 → Int32 → Int32 → Int32 → Int32 → Int32 → (Nat → Int32) → Option (Int32 × Int32 × Int32 × Int32 × Int32 × Int32 × Int32 × Int32 × Int32 × Int32 × Int32 × (Nat → Int32))
  | 0, _, _, _, _, _, _, _, _, _, _, _, _, _, _ => none
  | n + 1, x1, x2, x3, qs, qg, qp, qu, ql, qe, qb, qw, qi, qj, vf => if (4 : Int32) < x3 then (k52 x1 x2 qs qg qp qu ql qe qb qw qi qj vf) else ((f_X5_areSo qn x3 qk qo qg qp qu ql qe qb qw qi qj qr vk vt vg vf vq).bind (fun o3 => if o3.1 = 0 then (f_X5_strengths_L19 qn qk qo qr vk vt vg vq k52 n x1 (x2 ||| (0 : Int32)) (x3 + (1 : Int32)) x3 o3.2.1 o3.2.2.1 o3.2.2.2.1 o3.2.2.2.2.1 o3.2.2.2.2.2.1 o3.2.2.2.2.2.2.1 o3.2.2.2.2.2.2.2.1 o3.2.2.2.2.2.2.2.2.1 o3.2.2.2.2.2.2.2.2.2.1 o3.2.2.2.2.2.2.2.2.2.2) else (f_X5_strengths_L19 qn qk qo qr vk vt vg vq k52 n x1 (x2 ||| ((1 : Int32) <<< (x3 &&& 31))) (x3 + (1 : Int32)) x3 o3.2.1 o3.2.2.1 o3.2.2.2.1 o3.2.2.2.2.1 o3.2.2.2.2.2.1 o3.2.2.2.2.2.2.1 o3.2.2.2.2.2.2.2.1 o3.2.2.2.2.2.2.2.2.1 o3.2.2.2.2.2.2.2.2.2.1 o3.2.2.2.2.2.2.2.2.2.2)))
def f_X5_strengths (qn : Int32) (qs : Int32) (qk : Int32) (qo : Int32) (qg : Int32) (qp : Int32) (qu : Int32) (ql : Int32) (qe : Int32) (qb : Int32) (qw : Int32) (qi : Int32) (qj : Int32) (qr : Int32) (vk : Nat → Int32) (vt : Nat → Int32) (vg : Nat → Int32) (vf : Nat → Int32) (vq : Nat → Int32) : Option (Int32 × Int32 × Int32 × Int32 × Int32 × Int32 × Int32 × Int32 × Int32 × Int32 × Int32 × (Nat → Int32)) :=
  if qn = 0 then (some ((-3 : Int32), qs, qg, qp, qu, ql, qe, qb, qw, qi, qj, vf)) else (f_X5_strengths_L19 qn qk qo qr vk vt vg vq (fun (x1 : Int32) (x2 : Int32) (qs : Int32) (qg : Int32) (qp : Int32) (qu : Int32) (ql : Int32) (qe : Int32) (qb : Int32) (qw : Int32) (qi : Int32) (qj : Int32) (vf : Nat → Int32) => some (x2, x1, qg, qp, qu, ql, qe, qb, qw, qi, qj, vf)) 100 qs (0 : Int32) (1 : Int32) qs qg qp qu ql qe qb qw qi qj vf)
set_option maxHeartbeats 4000000 in
set_option maxRecDepth 100000 in
theorem c_X5_strengths (l : Launch) (D : va_G) (cI cZ cR : ClassId) (am : Nat) (mvk : Nat) (mvt : Nat) (mvg : Nat) (mvf : Nat) (mvq : Nat) (mvs : Nat) (mvl : Nat) (mvc : Nat) (mvh : Nat) (mvrk : Nat) (mvrt : Nat) (mvrg : Nat) (mvp : Nat) (mve : Nat) (qf : Int32) (qt : Int32) (qn : Int32) (qs : Int32) (qk : Int32) (qo : Int32) (qa : Int32) (qm : Int32) (qg : Int32) (qp : Int32) (qu : Int32) (ql : Int32) (qe : Int32) (qb : Int32) (qw : Int32) (qi : Int32) (qj : Int32) (qr : Int32) (vk : Nat → Int32) (vt : Nat → Int32) (vg : Nat → Int32) (vf : Nat → Int32) (vq : Nat → Int32) {res : Int32 × Int32 × Int32 × Int32 × Int32 × Int32 × Int32 × Int32 × Int32 × Int32 × Int32 × (Nat → Int32)} (hg : f_X5_strengths qn qs qk qo qg qp qu ql qe qb qw qi qj qr vk vt vg vf vq = some res) : MI l yX5_strengths wsX5_strengths ({ frames := 7, cells := 0, slots := 0, locals := 155 }) D (T3 cI cZ cR) [(am, .inr (5, [.int (qf), .int (qt), .ref mvs, .ref mvl, .ref mvc, .int (qn), .int (qs), .int (qk), .int (qo), .ref mvk, .ref mvt, .ref mvg, .int (qa), .int (qm), .ref mvh, .ref mvrk, .ref mvrt, .ref mvrg, .int (qg), .int (qp), .int (qu), .int (ql), .int (qe), .int (qb), .int (qw), .ref mvf, .int (qi), .int (qj), .int (qr), .ref mvq, .ref mvp, .ref mve])), (mvk, .inl (cI, 10, .inl (vk))), (mvt, .inl (cI, 10, .inl (vt))), (mvg, .inl (cZ, 10, .inl (vg))), (mvf, .inl (cI, 21000, .inl (vf))), (mvq, .inl (cI, 8, .inl (vq)))] [.ref am] (fun r u => res.1 = r ∧ u = [(am, .inr (5, [.int (qf), .int (qt), .ref mvs, .ref mvl, .ref mvc, .int (qn), .int (res.2.1), .int (qk), .int (qo), .ref mvk, .ref mvt, .ref mvg, .int (qa), .int (qm), .ref mvh, .ref mvrk, .ref mvrt, .ref mvrg, .int (res.2.2.1), .int (res.2.2.2.1), .int (res.2.2.2.2.1), .int (res.2.2.2.2.2.1), .int (res.2.2.2.2.2.2.1), .int (res.2.2.2.2.2.2.2.1), .int (res.2.2.2.2.2.2.2.2.1), .ref mvf, .int (res.2.2.2.2.2.2.2.2.2.1), .int (res.2.2.2.2.2.2.2.2.2.2.1), .int (qr), .ref mvq, .ref mvp, .ref mve])), (mvk, .inl (cI, 10, .inl (vk))), (mvt, .inl (cI, 10, .inl (vt))), (mvg, .inl (cZ, 10, .inl (vg))), (mvf, .inl (cI, 21000, .inl (res.2.2.2.2.2.2.2.2.2.2.2))), (mvq, .inl (cI, 8, .inl (vq)))]) := by
  refine entI (Rn := RX5) (by decide +kernel) rfl rfl (Nat.le_of_ble_eq_true rfl) (fun p e s m args below meth c A Q hx hb hr hml hts hown hlocks hA hP hD hK hS ls hl hQ => ?_)
  have inX5 : ∀ w ∈ u_ws RX5 TX5 32, w ∈ wsX5_strengths := by decide +kernel
  have lp_19 : ∀ (k52 : Int32 → Int32 → Int32 → Int32 → Int32 → Int32 → Int32 → Int32 → Int32 → Int32 → Int32 → Int32 → (Nat → Int32) → Option (Int32 × Int32 × Int32 × Int32 × Int32 × Int32 × Int32 × Int32 × Int32 × Int32 × Int32 × (Nat → Int32))) (hk52 : ∀ (x1 : Int32) (x2 : Int32) (qs : Int32) (qg : Int32) (qp : Int32) (qu : Int32) (ql : Int32) (qe : Int32) (qb : Int32) (qw : Int32) (qi : Int32) (qj : Int32) (vf : Nat → Int32), k52 x1 x2 qs qg qp qu ql qe qb qw qi qj vf = some res → ∀ (H : Heap) (locs : List Loc), va_P D vwCl [(am, .inr (5, [.int (qf), .int (qt), .ref mvs, .ref mvl, .ref mvc, .int (qn), .int (qs), .int (qk), .int (qo), .ref mvk, .ref mvt, .ref mvg, .int (qa), .int (qm), .ref mvh, .ref mvrk, .ref mvrt, .ref mvrg, .int (qg), .int (qp), .int (qu), .int (ql), .int (qe), .int (qb), .int (qw), .ref mvf, .int (qi), .int (qj), .int (qr), .ref mvq, .ref mvp, .ref mve])), (mvk, .inl (cI, 10, .inl (vk))), (mvt, .inl (cI, 10, .inl (vt))), (mvg, .inl (cZ, 10, .inl (vg))), (mvf, .inl (cI, 21000, .inl (vf))), (mvq, .inl (cI, 8, .inl (vq)))] H → va_D A [(am, .inr (5, [.int (qf), .int (qt), .ref mvs, .ref mvl, .ref mvc, .int (qn), .int (qs), .int (qk), .int (qo), .ref mvk, .ref mvt, .ref mvg, .int (qa), .int (qm), .ref mvh, .ref mvrk, .ref mvrt, .ref mvrg, .int (qg), .int (qp), .int (qu), .int (ql), .int (qe), .int (qb), .int (qw), .ref mvf, .int (qi), .int (qj), .int (qr), .ref mvq, .ref mvp, .ref mve])), (mvk, .inl (cI, 10, .inl (vk))), (mvt, .inl (cI, 10, .inl (vt))), (mvg, .inl (cZ, 10, .inl (vg))), (mvf, .inl (cI, 21000, .inl (vf))), (mvq, .inl (cI, 8, .inl (vq)))] → va_S A s.heap H locs → ∀ (ls : Array Slot), lv_has ls 4 [(0, .ref am), (1, .int (x1)), (2, .int (x2))] → W p l e ({ frames := 7, cells := 0, slots := 0, locals := 155 }) s m args below meth c H locs 0 0 Q (F0 m 52 ls [])) (n : Nat) (x1 : Int32) (x2 : Int32) (x3 : Int32) (qs : Int32) (qg : Int32) (qp : Int32) (qu : Int32) (ql : Int32) (qe : Int32) (qb : Int32) (qw : Int32) (qi : Int32) (qj : Int32) (vf : Nat → Int32), f_X5_strengths_L19 qn qk qo qr vk vt vg vq k52 n x1 x2 x3 qs qg qp qu ql qe qb qw qi qj vf = some res → ∀ (H : Heap) (locs : List Loc), va_P D vwCl [(am, .inr (5, [.int (qf), .int (qt), .ref mvs, .ref mvl, .ref mvc, .int (qn), .int (qs), .int (qk), .int (qo), .ref mvk, .ref mvt, .ref mvg, .int (qa), .int (qm), .ref mvh, .ref mvrk, .ref mvrt, .ref mvrg, .int (qg), .int (qp), .int (qu), .int (ql), .int (qe), .int (qb), .int (qw), .ref mvf, .int (qi), .int (qj), .int (qr), .ref mvq, .ref mvp, .ref mve])), (mvk, .inl (cI, 10, .inl (vk))), (mvt, .inl (cI, 10, .inl (vt))), (mvg, .inl (cZ, 10, .inl (vg))), (mvf, .inl (cI, 21000, .inl (vf))), (mvq, .inl (cI, 8, .inl (vq)))] H → va_D A [(am, .inr (5, [.int (qf), .int (qt), .ref mvs, .ref mvl, .ref mvc, .int (qn), .int (qs), .int (qk), .int (qo), .ref mvk, .ref mvt, .ref mvg, .int (qa), .int (qm), .ref mvh, .ref mvrk, .ref mvrt, .ref mvrg, .int (qg), .int (qp), .int (qu), .int (ql), .int (qe), .int (qb), .int (qw), .ref mvf, .int (qi), .int (qj), .int (qr), .ref mvq, .ref mvp, .ref mve])), (mvk, .inl (cI, 10, .inl (vk))), (mvt, .inl (cI, 10, .inl (vt))), (mvg, .inl (cZ, 10, .inl (vg))), (mvf, .inl (cI, 21000, .inl (vf))), (mvq, .inl (cI, 8, .inl (vq)))] → va_S A s.heap H locs → ∀ (ls : Array Slot), lv_has ls 4 [(0, .ref am), (1, .int (x1)), (2, .int (x2)), (3, .int (x3))] → W p l e ({ frames := 7, cells := 0, slots := 0, locals := 155 }) s m args below meth c H locs 0 0 Q (F0 m 19 ls []) := by
    intro k52 hk52 n
    induction n with
    | zero => intro x1 x2 x3 qs qg qp qu ql qe qb qw qi qj vf hg; rw [f_X5_strengths_L19] at hg; cases hg
    | succ n ih =>
      intro x1 x2 x3 qs qg qp qu ql qe qb qw qi qj vf hg H locs hP hD hS ls hl
      rw [f_X5_strengths_L19] at hg
      refine lv_iload_n hx hb dX5_strengths_19 rfl (lv_at hl 3 rfl) ?_
      refine lv_iconst (v := (4 : Int32)) hx hb dX5_strengths_20 (by decide) ?_
      refine lv_icmp_gt (tgt := 52) hx hb dX5_strengths_21 (by decide) (fun c2 => ?_) (fun c2 => ?_)
      · have hg := it hg c2
        exact hk52 x1 x2 qs qg qp qu ql qe qb qw qi qj vf hg _ _ hP hD hS _ (lv_sub hl [0, 1, 2] rfl)
      · have hg := ie hg c2
        refine lv_aload_n hx hb dX5_strengths_24 rfl (lv_at hl 0 rfl) ?_
        refine lv_iload_n hx hb dX5_strengths_25 rfl (lv_at hl 3 rfl) ?_
        refine va_put (D := D) (ci := 5) (v := .int (x3)) (ty := .int) (C := RX5) (T := TX5) (N := 32) hx hb hts inX5 tyX5 tyX5_ok nmX5 hown hK hP hD hS 0 rfl rfl 6 (by decide) (hts (.fieldLink RX5 87 "ScooterFlagsModel" "strong" "I") (by decide +kernel)) (fun _ h9 => h9) rfl (by decide +kernel) rfl rfl (Nat.le_of_ble_eq_true rfl) dX5_strengths_26 (fun H locs hP hD hS => ?_)
        have hP : va_P D vwCl [(am, .inr (5, [.int (qf), .int (qt), .ref mvs, .ref mvl, .ref mvc, .int (qn), .int (x3), .int (qk), .int (qo), .ref mvk, .ref mvt, .ref mvg, .int (qa), .int (qm), .ref mvh, .ref mvrk, .ref mvrt, .ref mvrg, .int (qg), .int (qp), .int (qu), .int (ql), .int (qe), .int (qb), .int (qw), .ref mvf, .int (qi), .int (qj), .int (qr), .ref mvq, .ref mvp, .ref mve])), (mvk, .inl (cI, 10, .inl (vk))), (mvt, .inl (cI, 10, .inl (vt))), (mvg, .inl (cZ, 10, .inl (vg))), (mvf, .inl (cI, 21000, .inl (vf))), (mvq, .inl (cI, 8, .inl (vq)))] H := hP
        have hD : va_D A [(am, .inr (5, [.int (qf), .int (qt), .ref mvs, .ref mvl, .ref mvc, .int (qn), .int (x3), .int (qk), .int (qo), .ref mvk, .ref mvt, .ref mvg, .int (qa), .int (qm), .ref mvh, .ref mvrk, .ref mvrt, .ref mvrg, .int (qg), .int (qp), .int (qu), .int (ql), .int (qe), .int (qb), .int (qw), .ref mvf, .int (qi), .int (qj), .int (qr), .ref mvq, .ref mvp, .ref mve])), (mvk, .inl (cI, 10, .inl (vk))), (mvt, .inl (cI, 10, .inl (vt))), (mvg, .inl (cZ, 10, .inl (vg))), (mvf, .inl (cI, 21000, .inl (vf))), (mvq, .inl (cI, 8, .inl (vq)))] := hD
        refine lv_iload_n hx hb dX5_strengths_29 rfl (lv_at hl 2 rfl) ?_
        refine lv_aload_n hx hb dX5_strengths_30 rfl (lv_at hl 0 rfl) ?_
        obtain ⟨o3, h4, hg⟩ := bd hg
        refine xcVi (As := []) (rest := [.int (x2)]) (wc := [(am, .inr (5, [.int (qf), .int (qt), .ref mvs, .ref mvl, .ref mvc, .int (qn), .int (x3), .int (qk), .int (qo), .ref mvk, .ref mvt, .ref mvg, .int (qa), .int (qm), .ref mvh, .ref mvrk, .ref mvrt, .ref mvrg, .int (qg), .int (qp), .int (qu), .int (ql), .int (qe), .int (qb), .int (qw), .ref mvf, .int (qi), .int (qj), .int (qr), .ref mvq, .ref mvp, .ref mve])), (mvk, .inl (cI, 10, .inl (vk))), (mvt, .inl (cI, 10, .inl (vt))), (mvg, .inl (cZ, 10, .inl (vg))), (mvf, .inl (cI, 21000, .inl (vf))), (mvq, .inl (cI, 8, .inl (vq)))]) (wr := []) ⟨hx, hb, hml, hown, hts⟩ (c_X5_areSo l D cI cZ cR am mvk mvt mvg mvf mvq mvs mvl mvc mvh mvrk mvrt mvrg mvp mve qf qt qn x3 qk qo qa qm qg qp qu ql qe qb qw qi qj qr vk vt vg vf vq h4) (cwV 0 hts gX5_strengths_X5_areSo rfl rfl rfl (by decide +kernel) ⟨Nat.le_of_ble_eq_true rfl, Nat.le_of_ble_eq_true rfl⟩) hK hP hD hS hA [0, 1, 2, 3, 4, 5] [] rfl rfl (by decide) (by decide) (by decide) (va_recv hK hP (ci := 5) (q0 := 0) rfl rfl) rfl rfl hl.1 (lv_room (Nat.le_of_ble_eq_true rfl)) dX5_strengths_31 ⟨Nat.le_of_ble_eq_true rfl, Nat.le_of_ble_eq_true rfl⟩ (fun r u H locs hu hP hD hS => ?_)
        obtain ⟨rfl, rfl⟩ := hu
        have hP : va_P D vwCl [(am, .inr (5, [.int (qf), .int (qt), .ref mvs, .ref mvl, .ref mvc, .int (qn), .int (x3), .int (qk), .int (qo), .ref mvk, .ref mvt, .ref mvg, .int (qa), .int (qm), .ref mvh, .ref mvrk, .ref mvrt, .ref mvrg, .int (o3.2.1), .int (o3.2.2.1), .int (o3.2.2.2.1), .int (o3.2.2.2.2.1), .int (o3.2.2.2.2.2.1), .int (o3.2.2.2.2.2.2.1), .int (o3.2.2.2.2.2.2.2.1), .ref mvf, .int (o3.2.2.2.2.2.2.2.2.1), .int (o3.2.2.2.2.2.2.2.2.2.1), .int (qr), .ref mvq, .ref mvp, .ref mve])), (mvk, .inl (cI, 10, .inl (vk))), (mvt, .inl (cI, 10, .inl (vt))), (mvg, .inl (cZ, 10, .inl (vg))), (mvf, .inl (cI, 21000, .inl (o3.2.2.2.2.2.2.2.2.2.2))), (mvq, .inl (cI, 8, .inl (vq)))] H := hP.sub [0, 1, 2, 3, 4, 5] rfl
        have hD : va_D A [(am, .inr (5, [.int (qf), .int (qt), .ref mvs, .ref mvl, .ref mvc, .int (qn), .int (x3), .int (qk), .int (qo), .ref mvk, .ref mvt, .ref mvg, .int (qa), .int (qm), .ref mvh, .ref mvrk, .ref mvrt, .ref mvrg, .int (o3.2.1), .int (o3.2.2.1), .int (o3.2.2.2.1), .int (o3.2.2.2.2.1), .int (o3.2.2.2.2.2.1), .int (o3.2.2.2.2.2.2.1), .int (o3.2.2.2.2.2.2.2.1), .ref mvf, .int (o3.2.2.2.2.2.2.2.2.1), .int (o3.2.2.2.2.2.2.2.2.2.1), .int (qr), .ref mvq, .ref mvp, .ref mve])), (mvk, .inl (cI, 10, .inl (vk))), (mvt, .inl (cI, 10, .inl (vt))), (mvg, .inl (cZ, 10, .inl (vg))), (mvf, .inl (cI, 21000, .inl (o3.2.2.2.2.2.2.2.2.2.2))), (mvq, .inl (cI, 8, .inl (vq)))] := hD.sub [0, 1, 2, 3, 4, 5] (by decide) rfl
        refine lv_if_eq (tgt := 43) hx hb dX5_strengths_34 (by decide) (fun c5 => ?_) (fun c5 => ?_)
        · have hg := it hg c5
          refine lv_iconst (v := (0 : Int32)) hx hb dX5_strengths_43 (by decide) ?_
          refine lv_ior hx hb dX5_strengths_44 ?_
          refine lv_istore_n (lv' := [(2, .int ((x2 ||| (0 : Int32)))), (0, .ref am), (1, .int (x1)), (3, .int (x3))]) hx hb dX5_strengths_45 rfl hl (by decide) rfl (fun ls hl => ?_)
          refine lv_iinc (v := (x3 + (1 : Int32))) (lv' := [(3, .int ((x3 + (1 : Int32)))), (2, .int ((x2 ||| (0 : Int32)))), (0, .ref am), (1, .int (x1))]) hx hb dX5_strengths_46 hl (k := 3) rfl rfl (by decide) rfl (fun ls hl => ?_)
          refine lv_goto (tgt := 19) hx hb dX5_strengths_49 (by decide) ?_
          exact ih x1 (x2 ||| (0 : Int32)) (x3 + (1 : Int32)) x3 o3.2.1 o3.2.2.1 o3.2.2.2.1 o3.2.2.2.2.1 o3.2.2.2.2.2.1 o3.2.2.2.2.2.2.1 o3.2.2.2.2.2.2.2.1 o3.2.2.2.2.2.2.2.2.1 o3.2.2.2.2.2.2.2.2.2.1 o3.2.2.2.2.2.2.2.2.2.2 hg _ _ hP hD hS _ (lv_sub hl [2, 3, 1, 0] rfl)
        · have hg := ie hg c5
          refine lv_iconst (v := (1 : Int32)) hx hb dX5_strengths_37 (by decide) ?_
          refine lv_iload_n hx hb dX5_strengths_38 rfl (lv_at hl 3 rfl) ?_
          refine lv_ishl hx hb dX5_strengths_39 ?_
          refine lv_goto (tgt := 44) hx hb dX5_strengths_40 (by decide) ?_
          refine lv_ior hx hb dX5_strengths_44 ?_
          refine lv_istore_n (lv' := [(2, .int ((x2 ||| ((1 : Int32) <<< (x3 &&& 31))))), (0, .ref am), (1, .int (x1)), (3, .int (x3))]) hx hb dX5_strengths_45 rfl hl (by decide) rfl (fun ls hl => ?_)
          refine lv_iinc (v := (x3 + (1 : Int32))) (lv' := [(3, .int ((x3 + (1 : Int32)))), (2, .int ((x2 ||| ((1 : Int32) <<< (x3 &&& 31))))), (0, .ref am), (1, .int (x1))]) hx hb dX5_strengths_46 hl (k := 3) rfl rfl (by decide) rfl (fun ls hl => ?_)
          refine lv_goto (tgt := 19) hx hb dX5_strengths_49 (by decide) ?_
          exact ih x1 (x2 ||| ((1 : Int32) <<< (x3 &&& 31))) (x3 + (1 : Int32)) x3 o3.2.1 o3.2.2.1 o3.2.2.2.1 o3.2.2.2.2.1 o3.2.2.2.2.2.1 o3.2.2.2.2.2.2.1 o3.2.2.2.2.2.2.2.1 o3.2.2.2.2.2.2.2.2.1 o3.2.2.2.2.2.2.2.2.2.1 o3.2.2.2.2.2.2.2.2.2.2 hg _ _ hP hD hS _ (lv_sub hl [2, 3, 1, 0] rfl)
  have hl : lv_has ls 4 [(0, .ref am)] := hl
  rw [f_X5_strengths] at hg
  refine lv_aload_n hx hb dX5_strengths_0 rfl (lv_at hl 0 rfl) ?_
  refine va_get (D := D) (ci := 5) (v := .int (qn)) (C := RX5) (T := TX5) (N := 32) hx hb hts inX5 hown hK hP 0 rfl rfl 5 (by decide) (hts (.fieldLink RX5 63 "ScooterFlagsModel" "flags" "I") (by decide +kernel)) (fun _ h9 => h9) rfl dX5_strengths_1 ?_
  refine lv_if_ne (tgt := 10) hx hb dX5_strengths_4 (by decide) (fun c1 => ?_) (fun c1 => ?_)
  · have hg := ie hg c1
    refine lv_aload_n hx hb dX5_strengths_10 rfl (lv_at hl 0 rfl) ?_
    refine va_get (D := D) (ci := 5) (v := .int (qs)) (C := RX5) (T := TX5) (N := 32) hx hb hts inX5 hown hK hP 0 rfl rfl 6 (by decide) (hts (.fieldLink RX5 87 "ScooterFlagsModel" "strong" "I") (by decide +kernel)) (fun _ h9 => h9) rfl dX5_strengths_11 ?_
    refine lv_istore_n (lv' := [(1, .int (qs)), (0, .ref am)]) hx hb dX5_strengths_14 rfl hl (by decide) rfl (fun ls hl => ?_)
    refine lv_iconst (v := (0 : Int32)) hx hb dX5_strengths_15 (by decide) ?_
    refine lv_istore_n (lv' := [(2, .int ((0 : Int32))), (1, .int (qs)), (0, .ref am)]) hx hb dX5_strengths_16 rfl hl (by decide) rfl (fun ls hl => ?_)
    refine lv_iconst (v := (1 : Int32)) hx hb dX5_strengths_17 (by decide) ?_
    refine lv_istore_n (lv' := [(3, .int ((1 : Int32))), (2, .int ((0 : Int32))), (1, .int (qs)), (0, .ref am)]) hx hb dX5_strengths_18 rfl hl (by decide) rfl (fun ls hl => ?_)
    refine lp_19 _ ?_ 100 qs (0 : Int32) (1 : Int32) qs qg qp qu ql qe qb qw qi qj vf hg _ _ hP hD hS _ (lv_sub hl [3, 2, 1, 0] rfl)
    · intro x1 x2 qs qg qp qu ql qe qb qw qi qj vf hg H locs hP hD hS ls hl
      refine lv_aload_n hx hb dX5_strengths_52 rfl (lv_at hl 0 rfl) ?_
      refine lv_iload_n hx hb dX5_strengths_53 rfl (lv_at hl 1 rfl) ?_
      refine va_put (D := D) (ci := 5) (v := .int (x1)) (ty := .int) (C := RX5) (T := TX5) (N := 32) hx hb hts inX5 tyX5 tyX5_ok nmX5 hown hK hP hD hS 0 rfl rfl 6 (by decide) (hts (.fieldLink RX5 87 "ScooterFlagsModel" "strong" "I") (by decide +kernel)) (fun _ h9 => h9) rfl (by decide +kernel) rfl rfl (Nat.le_of_ble_eq_true rfl) dX5_strengths_54 (fun H locs hP hD hS => ?_)
      have hP : va_P D vwCl [(am, .inr (5, [.int (qf), .int (qt), .ref mvs, .ref mvl, .ref mvc, .int (qn), .int (x1), .int (qk), .int (qo), .ref mvk, .ref mvt, .ref mvg, .int (qa), .int (qm), .ref mvh, .ref mvrk, .ref mvrt, .ref mvrg, .int (qg), .int (qp), .int (qu), .int (ql), .int (qe), .int (qb), .int (qw), .ref mvf, .int (qi), .int (qj), .int (qr), .ref mvq, .ref mvp, .ref mve])), (mvk, .inl (cI, 10, .inl (vk))), (mvt, .inl (cI, 10, .inl (vt))), (mvg, .inl (cZ, 10, .inl (vg))), (mvf, .inl (cI, 21000, .inl (vf))), (mvq, .inl (cI, 8, .inl (vq)))] H := hP
      have hD : va_D A [(am, .inr (5, [.int (qf), .int (qt), .ref mvs, .ref mvl, .ref mvc, .int (qn), .int (x1), .int (qk), .int (qo), .ref mvk, .ref mvt, .ref mvg, .int (qa), .int (qm), .ref mvh, .ref mvrk, .ref mvrt, .ref mvrg, .int (qg), .int (qp), .int (qu), .int (ql), .int (qe), .int (qb), .int (qw), .ref mvf, .int (qi), .int (qj), .int (qr), .ref mvq, .ref mvp, .ref mve])), (mvk, .inl (cI, 10, .inl (vk))), (mvt, .inl (cI, 10, .inl (vt))), (mvg, .inl (cZ, 10, .inl (vg))), (mvf, .inl (cI, 21000, .inl (vf))), (mvq, .inl (cI, 8, .inl (vq)))] := hD
      refine lv_iload_n hx hb dX5_strengths_57 rfl (lv_at hl 2 rfl) ?_
      obtain rfl := Option.some.inj hg
      exact rti hQ hx hb hr hlocks hK hP hD hS dX5_strengths_58 ⟨rfl, rfl⟩
  · have hg := it hg c1
    refine lv_bipush (v := (-3 : Int32)) hx hb dX5_strengths_7 (by decide) ?_
    obtain rfl := Option.some.inj hg
    exact rti hQ hx hb hr hlocks hK hP hD hS dX5_strengths_9 ⟨rfl, rfl⟩
def f_X5_knees_L19 (qn : Int32) (qs : Int32) (qo : Int32) (qr : Int32) (vk : Nat → Int32) (vt : Nat → Int32) (vg : Nat → Int32) (vq : Nat → Int32) (k52 : Int32 → Int32 → Int32 → Int32 → Int32 → Int32 → Int32 → Int32 → Int32 → Int32 → Int32 → Int32 → (Nat → Int32) → Option (Int32 × Int32 × Int32 × Int32 × Int32 × Int32 × Int32 × Int32 × Int32 × Int32 × Int32 × (Nat → Int32))) : Nat → Int32 → Int32 → Int32 → Int32 → Int32 → Int32 → Int32 → Int32 → Int32 → Int32 → Int32 → Int32 → Int32 → (Nat → Int32) → Option (Int32 × Int32 × Int32 × Int32 × Int32 × Int32 × Int32 × Int32 × Int32 × Int32 × Int32 × (Nat → Int32))
  | 0, _, _, _, _, _, _, _, _, _, _, _, _, _, _ => none
  | n + 1, x1, x2, x3, qk, qg, qp, qu, ql, qe, qb, qw, qi, qj, vf => if (3 : Int32) < x3 then (k52 x1 x2 qk qg qp qu ql qe qb qw qi qj vf) else ((f_X5_areSo qn qs x3 qo qg qp qu ql qe qb qw qi qj qr vk vt vg vf vq).bind (fun o3 => if o3.1 = 0 then (f_X5_knees_L19 qn qs qo qr vk vt vg vq k52 n x1 (x2 ||| (0 : Int32)) (x3 + (1 : Int32)) x3 o3.2.1 o3.2.2.1 o3.2.2.2.1 o3.2.2.2.2.1 o3.2.2.2.2.2.1 o3.2.2.2.2.2.2.1 o3.2.2.2.2.2.2.2.1 o3.2.2.2.2.2.2.2.2.1 o3.2.2.2.2.2.2.2.2.2.1 o3.2.2.2.2.2.2.2.2.2.2) else (f_X5_knees_L19 qn qs qo qr vk vt vg vq k52 n x1 (x2 ||| ((1 : Int32) <<< (x3 &&& 31))) (x3 + (1 : Int32)) x3 o3.2.1 o3.2.2.1 o3.2.2.2.1 o3.2.2.2.2.1 o3.2.2.2.2.2.1 o3.2.2.2.2.2.2.1 o3.2.2.2.2.2.2.2.1 o3.2.2.2.2.2.2.2.2.1 o3.2.2.2.2.2.2.2.2.2.1 o3.2.2.2.2.2.2.2.2.2.2)))
def f_X5_knees (qn : Int32) (qs : Int32) (qk : Int32) (qo : Int32) (qg : Int32) (qp : Int32) (qu : Int32) (ql : Int32) (qe : Int32) (qb : Int32) (qw : Int32) (qi : Int32) (qj : Int32) (qr : Int32) (vk : Nat → Int32) (vt : Nat → Int32) (vg : Nat → Int32) (vf : Nat → Int32) (vq : Nat → Int32) : Option (Int32 × Int32 × Int32 × Int32 × Int32 × Int32 × Int32 × Int32 × Int32 × Int32 × Int32 × (Nat → Int32)) :=
  if qn = 0 then (some ((-3 : Int32), qk, qg, qp, qu, ql, qe, qb, qw, qi, qj, vf)) else (f_X5_knees_L19 qn qs qo qr vk vt vg vq (fun (x1 : Int32) (x2 : Int32) (qk : Int32) (qg : Int32) (qp : Int32) (qu : Int32) (ql : Int32) (qe : Int32) (qb : Int32) (qw : Int32) (qi : Int32) (qj : Int32) (vf : Nat → Int32) => some (x2, x1, qg, qp, qu, ql, qe, qb, qw, qi, qj, vf)) 100 qk (0 : Int32) (1 : Int32) qk qg qp qu ql qe qb qw qi qj vf)
set_option maxHeartbeats 4000000 in
set_option maxRecDepth 100000 in
theorem c_X5_knees (l : Launch) (D : va_G) (cI cZ cR : ClassId) (am : Nat) (mvk : Nat) (mvt : Nat) (mvg : Nat) (mvf : Nat) (mvq : Nat) (mvs : Nat) (mvl : Nat) (mvc : Nat) (mvh : Nat) (mvrk : Nat) (mvrt : Nat) (mvrg : Nat) (mvp : Nat) (mve : Nat) (qf : Int32) (qt : Int32) (qn : Int32) (qs : Int32) (qk : Int32) (qo : Int32) (qa : Int32) (qm : Int32) (qg : Int32) (qp : Int32) (qu : Int32) (ql : Int32) (qe : Int32) (qb : Int32) (qw : Int32) (qi : Int32) (qj : Int32) (qr : Int32) (vk : Nat → Int32) (vt : Nat → Int32) (vg : Nat → Int32) (vf : Nat → Int32) (vq : Nat → Int32) {res : Int32 × Int32 × Int32 × Int32 × Int32 × Int32 × Int32 × Int32 × Int32 × Int32 × Int32 × (Nat → Int32)} (hg : f_X5_knees qn qs qk qo qg qp qu ql qe qb qw qi qj qr vk vt vg vf vq = some res) : MI l yX5_knees wsX5_knees ({ frames := 7, cells := 0, slots := 0, locals := 155 }) D (T3 cI cZ cR) [(am, .inr (5, [.int (qf), .int (qt), .ref mvs, .ref mvl, .ref mvc, .int (qn), .int (qs), .int (qk), .int (qo), .ref mvk, .ref mvt, .ref mvg, .int (qa), .int (qm), .ref mvh, .ref mvrk, .ref mvrt, .ref mvrg, .int (qg), .int (qp), .int (qu), .int (ql), .int (qe), .int (qb), .int (qw), .ref mvf, .int (qi), .int (qj), .int (qr), .ref mvq, .ref mvp, .ref mve])), (mvk, .inl (cI, 10, .inl (vk))), (mvt, .inl (cI, 10, .inl (vt))), (mvg, .inl (cZ, 10, .inl (vg))), (mvf, .inl (cI, 21000, .inl (vf))), (mvq, .inl (cI, 8, .inl (vq)))] [.ref am] (fun r u => res.1 = r ∧ u = [(am, .inr (5, [.int (qf), .int (qt), .ref mvs, .ref mvl, .ref mvc, .int (qn), .int (qs), .int (res.2.1), .int (qo), .ref mvk, .ref mvt, .ref mvg, .int (qa), .int (qm), .ref mvh, .ref mvrk, .ref mvrt, .ref mvrg, .int (res.2.2.1), .int (res.2.2.2.1), .int (res.2.2.2.2.1), .int (res.2.2.2.2.2.1), .int (res.2.2.2.2.2.2.1), .int (res.2.2.2.2.2.2.2.1), .int (res.2.2.2.2.2.2.2.2.1), .ref mvf, .int (res.2.2.2.2.2.2.2.2.2.1), .int (res.2.2.2.2.2.2.2.2.2.2.1), .int (qr), .ref mvq, .ref mvp, .ref mve])), (mvk, .inl (cI, 10, .inl (vk))), (mvt, .inl (cI, 10, .inl (vt))), (mvg, .inl (cZ, 10, .inl (vg))), (mvf, .inl (cI, 21000, .inl (res.2.2.2.2.2.2.2.2.2.2.2))), (mvq, .inl (cI, 8, .inl (vq)))]) := by
  refine entI (Rn := RX5) (by decide +kernel) rfl rfl (Nat.le_of_ble_eq_true rfl) (fun p e s m args below meth c A Q hx hb hr hml hts hown hlocks hA hP hD hK hS ls hl hQ => ?_)
  have inX5 : ∀ w ∈ u_ws RX5 TX5 32, w ∈ wsX5_knees := by decide +kernel
  have lp_19 : ∀ (k52 : Int32 → Int32 → Int32 → Int32 → Int32 → Int32 → Int32 → Int32 → Int32 → Int32 → Int32 → Int32 → (Nat → Int32) → Option (Int32 × Int32 × Int32 × Int32 × Int32 × Int32 × Int32 × Int32 × Int32 × Int32 × Int32 × (Nat → Int32))) (hk52 : ∀ (x1 : Int32) (x2 : Int32) (qk : Int32) (qg : Int32) (qp : Int32) (qu : Int32) (ql : Int32) (qe : Int32) (qb : Int32) (qw : Int32) (qi : Int32) (qj : Int32) (vf : Nat → Int32), k52 x1 x2 qk qg qp qu ql qe qb qw qi qj vf = some res → ∀ (H : Heap) (locs : List Loc), va_P D vwCl [(am, .inr (5, [.int (qf), .int (qt), .ref mvs, .ref mvl, .ref mvc, .int (qn), .int (qs), .int (qk), .int (qo), .ref mvk, .ref mvt, .ref mvg, .int (qa), .int (qm), .ref mvh, .ref mvrk, .ref mvrt, .ref mvrg, .int (qg), .int (qp), .int (qu), .int (ql), .int (qe), .int (qb), .int (qw), .ref mvf, .int (qi), .int (qj), .int (qr), .ref mvq, .ref mvp, .ref mve])), (mvk, .inl (cI, 10, .inl (vk))), (mvt, .inl (cI, 10, .inl (vt))), (mvg, .inl (cZ, 10, .inl (vg))), (mvf, .inl (cI, 21000, .inl (vf))), (mvq, .inl (cI, 8, .inl (vq)))] H → va_D A [(am, .inr (5, [.int (qf), .int (qt), .ref mvs, .ref mvl, .ref mvc, .int (qn), .int (qs), .int (qk), .int (qo), .ref mvk, .ref mvt, .ref mvg, .int (qa), .int (qm), .ref mvh, .ref mvrk, .ref mvrt, .ref mvrg, .int (qg), .int (qp), .int (qu), .int (ql), .int (qe), .int (qb), .int (qw), .ref mvf, .int (qi), .int (qj), .int (qr), .ref mvq, .ref mvp, .ref mve])), (mvk, .inl (cI, 10, .inl (vk))), (mvt, .inl (cI, 10, .inl (vt))), (mvg, .inl (cZ, 10, .inl (vg))), (mvf, .inl (cI, 21000, .inl (vf))), (mvq, .inl (cI, 8, .inl (vq)))] → va_S A s.heap H locs → ∀ (ls : Array Slot), lv_has ls 4 [(0, .ref am), (1, .int (x1)), (2, .int (x2))] → W p l e ({ frames := 7, cells := 0, slots := 0, locals := 155 }) s m args below meth c H locs 0 0 Q (F0 m 52 ls [])) (n : Nat) (x1 : Int32) (x2 : Int32) (x3 : Int32) (qk : Int32) (qg : Int32) (qp : Int32) (qu : Int32) (ql : Int32) (qe : Int32) (qb : Int32) (qw : Int32) (qi : Int32) (qj : Int32) (vf : Nat → Int32), f_X5_knees_L19 qn qs qo qr vk vt vg vq k52 n x1 x2 x3 qk qg qp qu ql qe qb qw qi qj vf = some res → ∀ (H : Heap) (locs : List Loc), va_P D vwCl [(am, .inr (5, [.int (qf), .int (qt), .ref mvs, .ref mvl, .ref mvc, .int (qn), .int (qs), .int (qk), .int (qo), .ref mvk, .ref mvt, .ref mvg, .int (qa), .int (qm), .ref mvh, .ref mvrk, .ref mvrt, .ref mvrg, .int (qg), .int (qp), .int (qu), .int (ql), .int (qe), .int (qb), .int (qw), .ref mvf, .int (qi), .int (qj), .int (qr), .ref mvq, .ref mvp, .ref mve])), (mvk, .inl (cI, 10, .inl (vk))), (mvt, .inl (cI, 10, .inl (vt))), (mvg, .inl (cZ, 10, .inl (vg))), (mvf, .inl (cI, 21000, .inl (vf))), (mvq, .inl (cI, 8, .inl (vq)))] H → va_D A [(am, .inr (5, [.int (qf), .int (qt), .ref mvs, .ref mvl, .ref mvc, .int (qn), .int (qs), .int (qk), .int (qo), .ref mvk, .ref mvt, .ref mvg, .int (qa), .int (qm), .ref mvh, .ref mvrk, .ref mvrt, .ref mvrg, .int (qg), .int (qp), .int (qu), .int (ql), .int (qe), .int (qb), .int (qw), .ref mvf, .int (qi), .int (qj), .int (qr), .ref mvq, .ref mvp, .ref mve])), (mvk, .inl (cI, 10, .inl (vk))), (mvt, .inl (cI, 10, .inl (vt))), (mvg, .inl (cZ, 10, .inl (vg))), (mvf, .inl (cI, 21000, .inl (vf))), (mvq, .inl (cI, 8, .inl (vq)))] → va_S A s.heap H locs → ∀ (ls : Array Slot), lv_has ls 4 [(0, .ref am), (1, .int (x1)), (2, .int (x2)), (3, .int (x3))] → W p l e ({ frames := 7, cells := 0, slots := 0, locals := 155 }) s m args below meth c H locs 0 0 Q (F0 m 19 ls []) := by
    intro k52 hk52 n
    induction n with
    | zero => intro x1 x2 x3 qk qg qp qu ql qe qb qw qi qj vf hg; rw [f_X5_knees_L19] at hg; cases hg
    | succ n ih =>
      intro x1 x2 x3 qk qg qp qu ql qe qb qw qi qj vf hg H locs hP hD hS ls hl
      rw [f_X5_knees_L19] at hg
      refine lv_iload_n hx hb dX5_knees_19 rfl (lv_at hl 3 rfl) ?_
      refine lv_iconst (v := (3 : Int32)) hx hb dX5_knees_20 (by decide) ?_
      refine lv_icmp_gt (tgt := 52) hx hb dX5_knees_21 (by decide) (fun c2 => ?_) (fun c2 => ?_)
      · have hg := it hg c2
        exact hk52 x1 x2 qk qg qp qu ql qe qb qw qi qj vf hg _ _ hP hD hS _ (lv_sub hl [0, 1, 2] rfl)
      · have hg := ie hg c2
        refine lv_aload_n hx hb dX5_knees_24 rfl (lv_at hl 0 rfl) ?_
        refine lv_iload_n hx hb dX5_knees_25 rfl (lv_at hl 3 rfl) ?_
        refine va_put (D := D) (ci := 5) (v := .int (x3)) (ty := .int) (C := RX5) (T := TX5) (N := 32) hx hb hts inX5 tyX5 tyX5_ok nmX5 hown hK hP hD hS 0 rfl rfl 7 (by decide) (hts (.fieldLink RX5 90 "ScooterFlagsModel" "knee" "I") (by decide +kernel)) (fun _ h9 => h9) rfl (by decide +kernel) rfl rfl (Nat.le_of_ble_eq_true rfl) dX5_knees_26 (fun H locs hP hD hS => ?_)
        have hP : va_P D vwCl [(am, .inr (5, [.int (qf), .int (qt), .ref mvs, .ref mvl, .ref mvc, .int (qn), .int (qs), .int (x3), .int (qo), .ref mvk, .ref mvt, .ref mvg, .int (qa), .int (qm), .ref mvh, .ref mvrk, .ref mvrt, .ref mvrg, .int (qg), .int (qp), .int (qu), .int (ql), .int (qe), .int (qb), .int (qw), .ref mvf, .int (qi), .int (qj), .int (qr), .ref mvq, .ref mvp, .ref mve])), (mvk, .inl (cI, 10, .inl (vk))), (mvt, .inl (cI, 10, .inl (vt))), (mvg, .inl (cZ, 10, .inl (vg))), (mvf, .inl (cI, 21000, .inl (vf))), (mvq, .inl (cI, 8, .inl (vq)))] H := hP
        have hD : va_D A [(am, .inr (5, [.int (qf), .int (qt), .ref mvs, .ref mvl, .ref mvc, .int (qn), .int (qs), .int (x3), .int (qo), .ref mvk, .ref mvt, .ref mvg, .int (qa), .int (qm), .ref mvh, .ref mvrk, .ref mvrt, .ref mvrg, .int (qg), .int (qp), .int (qu), .int (ql), .int (qe), .int (qb), .int (qw), .ref mvf, .int (qi), .int (qj), .int (qr), .ref mvq, .ref mvp, .ref mve])), (mvk, .inl (cI, 10, .inl (vk))), (mvt, .inl (cI, 10, .inl (vt))), (mvg, .inl (cZ, 10, .inl (vg))), (mvf, .inl (cI, 21000, .inl (vf))), (mvq, .inl (cI, 8, .inl (vq)))] := hD
        refine lv_iload_n hx hb dX5_knees_29 rfl (lv_at hl 2 rfl) ?_
        refine lv_aload_n hx hb dX5_knees_30 rfl (lv_at hl 0 rfl) ?_
        obtain ⟨o3, h4, hg⟩ := bd hg
        refine xcVi (As := []) (rest := [.int (x2)]) (wc := [(am, .inr (5, [.int (qf), .int (qt), .ref mvs, .ref mvl, .ref mvc, .int (qn), .int (qs), .int (x3), .int (qo), .ref mvk, .ref mvt, .ref mvg, .int (qa), .int (qm), .ref mvh, .ref mvrk, .ref mvrt, .ref mvrg, .int (qg), .int (qp), .int (qu), .int (ql), .int (qe), .int (qb), .int (qw), .ref mvf, .int (qi), .int (qj), .int (qr), .ref mvq, .ref mvp, .ref mve])), (mvk, .inl (cI, 10, .inl (vk))), (mvt, .inl (cI, 10, .inl (vt))), (mvg, .inl (cZ, 10, .inl (vg))), (mvf, .inl (cI, 21000, .inl (vf))), (mvq, .inl (cI, 8, .inl (vq)))]) (wr := []) ⟨hx, hb, hml, hown, hts⟩ (c_X5_areSo l D cI cZ cR am mvk mvt mvg mvf mvq mvs mvl mvc mvh mvrk mvrt mvrg mvp mve qf qt qn qs x3 qo qa qm qg qp qu ql qe qb qw qi qj qr vk vt vg vf vq h4) (cwV 0 hts gX5_knees_X5_areSo rfl rfl rfl (by decide +kernel) ⟨Nat.le_of_ble_eq_true rfl, Nat.le_of_ble_eq_true rfl⟩) hK hP hD hS hA [0, 1, 2, 3, 4, 5] [] rfl rfl (by decide) (by decide) (by decide) (va_recv hK hP (ci := 5) (q0 := 0) rfl rfl) rfl rfl hl.1 (lv_room (Nat.le_of_ble_eq_true rfl)) dX5_knees_31 ⟨Nat.le_of_ble_eq_true rfl, Nat.le_of_ble_eq_true rfl⟩ (fun r u H locs hu hP hD hS => ?_)
        obtain ⟨rfl, rfl⟩ := hu
        have hP : va_P D vwCl [(am, .inr (5, [.int (qf), .int (qt), .ref mvs, .ref mvl, .ref mvc, .int (qn), .int (qs), .int (x3), .int (qo), .ref mvk, .ref mvt, .ref mvg, .int (qa), .int (qm), .ref mvh, .ref mvrk, .ref mvrt, .ref mvrg, .int (o3.2.1), .int (o3.2.2.1), .int (o3.2.2.2.1), .int (o3.2.2.2.2.1), .int (o3.2.2.2.2.2.1), .int (o3.2.2.2.2.2.2.1), .int (o3.2.2.2.2.2.2.2.1), .ref mvf, .int (o3.2.2.2.2.2.2.2.2.1), .int (o3.2.2.2.2.2.2.2.2.2.1), .int (qr), .ref mvq, .ref mvp, .ref mve])), (mvk, .inl (cI, 10, .inl (vk))), (mvt, .inl (cI, 10, .inl (vt))), (mvg, .inl (cZ, 10, .inl (vg))), (mvf, .inl (cI, 21000, .inl (o3.2.2.2.2.2.2.2.2.2.2))), (mvq, .inl (cI, 8, .inl (vq)))] H := hP.sub [0, 1, 2, 3, 4, 5] rfl
        have hD : va_D A [(am, .inr (5, [.int (qf), .int (qt), .ref mvs, .ref mvl, .ref mvc, .int (qn), .int (qs), .int (x3), .int (qo), .ref mvk, .ref mvt, .ref mvg, .int (qa), .int (qm), .ref mvh, .ref mvrk, .ref mvrt, .ref mvrg, .int (o3.2.1), .int (o3.2.2.1), .int (o3.2.2.2.1), .int (o3.2.2.2.2.1), .int (o3.2.2.2.2.2.1), .int (o3.2.2.2.2.2.2.1), .int (o3.2.2.2.2.2.2.2.1), .ref mvf, .int (o3.2.2.2.2.2.2.2.2.1), .int (o3.2.2.2.2.2.2.2.2.2.1), .int (qr), .ref mvq, .ref mvp, .ref mve])), (mvk, .inl (cI, 10, .inl (vk))), (mvt, .inl (cI, 10, .inl (vt))), (mvg, .inl (cZ, 10, .inl (vg))), (mvf, .inl (cI, 21000, .inl (o3.2.2.2.2.2.2.2.2.2.2))), (mvq, .inl (cI, 8, .inl (vq)))] := hD.sub [0, 1, 2, 3, 4, 5] (by decide) rfl
        refine lv_if_eq (tgt := 43) hx hb dX5_knees_34 (by decide) (fun c5 => ?_) (fun c5 => ?_)
        · have hg := it hg c5
          refine lv_iconst (v := (0 : Int32)) hx hb dX5_knees_43 (by decide) ?_
          refine lv_ior hx hb dX5_knees_44 ?_
          refine lv_istore_n (lv' := [(2, .int ((x2 ||| (0 : Int32)))), (0, .ref am), (1, .int (x1)), (3, .int (x3))]) hx hb dX5_knees_45 rfl hl (by decide) rfl (fun ls hl => ?_)
          refine lv_iinc (v := (x3 + (1 : Int32))) (lv' := [(3, .int ((x3 + (1 : Int32)))), (2, .int ((x2 ||| (0 : Int32)))), (0, .ref am), (1, .int (x1))]) hx hb dX5_knees_46 hl (k := 3) rfl rfl (by decide) rfl (fun ls hl => ?_)
          refine lv_goto (tgt := 19) hx hb dX5_knees_49 (by decide) ?_
          exact ih x1 (x2 ||| (0 : Int32)) (x3 + (1 : Int32)) x3 o3.2.1 o3.2.2.1 o3.2.2.2.1 o3.2.2.2.2.1 o3.2.2.2.2.2.1 o3.2.2.2.2.2.2.1 o3.2.2.2.2.2.2.2.1 o3.2.2.2.2.2.2.2.2.1 o3.2.2.2.2.2.2.2.2.2.1 o3.2.2.2.2.2.2.2.2.2.2 hg _ _ hP hD hS _ (lv_sub hl [2, 3, 1, 0] rfl)
        · have hg := ie hg c5
          refine lv_iconst (v := (1 : Int32)) hx hb dX5_knees_37 (by decide) ?_
          refine lv_iload_n hx hb dX5_knees_38 rfl (lv_at hl 3 rfl) ?_
          refine lv_ishl hx hb dX5_knees_39 ?_
          refine lv_goto (tgt := 44) hx hb dX5_knees_40 (by decide) ?_
          refine lv_ior hx hb dX5_knees_44 ?_
          refine lv_istore_n (lv' := [(2, .int ((x2 ||| ((1 : Int32) <<< (x3 &&& 31))))), (0, .ref am), (1, .int (x1)), (3, .int (x3))]) hx hb dX5_knees_45 rfl hl (by decide) rfl (fun ls hl => ?_)
          refine lv_iinc (v := (x3 + (1 : Int32))) (lv' := [(3, .int ((x3 + (1 : Int32)))), (2, .int ((x2 ||| ((1 : Int32) <<< (x3 &&& 31))))), (0, .ref am), (1, .int (x1))]) hx hb dX5_knees_46 hl (k := 3) rfl rfl (by decide) rfl (fun ls hl => ?_)
          refine lv_goto (tgt := 19) hx hb dX5_knees_49 (by decide) ?_
          exact ih x1 (x2 ||| ((1 : Int32) <<< (x3 &&& 31))) (x3 + (1 : Int32)) x3 o3.2.1 o3.2.2.1 o3.2.2.2.1 o3.2.2.2.2.1 o3.2.2.2.2.2.1 o3.2.2.2.2.2.2.1 o3.2.2.2.2.2.2.2.1 o3.2.2.2.2.2.2.2.2.1 o3.2.2.2.2.2.2.2.2.2.1 o3.2.2.2.2.2.2.2.2.2.2 hg _ _ hP hD hS _ (lv_sub hl [2, 3, 1, 0] rfl)
  have hl : lv_has ls 4 [(0, .ref am)] := hl
  rw [f_X5_knees] at hg
  refine lv_aload_n hx hb dX5_knees_0 rfl (lv_at hl 0 rfl) ?_
  refine va_get (D := D) (ci := 5) (v := .int (qn)) (C := RX5) (T := TX5) (N := 32) hx hb hts inX5 hown hK hP 0 rfl rfl 5 (by decide) (hts (.fieldLink RX5 63 "ScooterFlagsModel" "flags" "I") (by decide +kernel)) (fun _ h9 => h9) rfl dX5_knees_1 ?_
  refine lv_if_ne (tgt := 10) hx hb dX5_knees_4 (by decide) (fun c1 => ?_) (fun c1 => ?_)
  · have hg := ie hg c1
    refine lv_aload_n hx hb dX5_knees_10 rfl (lv_at hl 0 rfl) ?_
    refine va_get (D := D) (ci := 5) (v := .int (qk)) (C := RX5) (T := TX5) (N := 32) hx hb hts inX5 hown hK hP 0 rfl rfl 7 (by decide) (hts (.fieldLink RX5 90 "ScooterFlagsModel" "knee" "I") (by decide +kernel)) (fun _ h9 => h9) rfl dX5_knees_11 ?_
    refine lv_istore_n (lv' := [(1, .int (qk)), (0, .ref am)]) hx hb dX5_knees_14 rfl hl (by decide) rfl (fun ls hl => ?_)
    refine lv_iconst (v := (0 : Int32)) hx hb dX5_knees_15 (by decide) ?_
    refine lv_istore_n (lv' := [(2, .int ((0 : Int32))), (1, .int (qk)), (0, .ref am)]) hx hb dX5_knees_16 rfl hl (by decide) rfl (fun ls hl => ?_)
    refine lv_iconst (v := (1 : Int32)) hx hb dX5_knees_17 (by decide) ?_
    refine lv_istore_n (lv' := [(3, .int ((1 : Int32))), (2, .int ((0 : Int32))), (1, .int (qk)), (0, .ref am)]) hx hb dX5_knees_18 rfl hl (by decide) rfl (fun ls hl => ?_)
    refine lp_19 _ ?_ 100 qk (0 : Int32) (1 : Int32) qk qg qp qu ql qe qb qw qi qj vf hg _ _ hP hD hS _ (lv_sub hl [3, 2, 1, 0] rfl)
    · intro x1 x2 qk qg qp qu ql qe qb qw qi qj vf hg H locs hP hD hS ls hl
      refine lv_aload_n hx hb dX5_knees_52 rfl (lv_at hl 0 rfl) ?_
      refine lv_iload_n hx hb dX5_knees_53 rfl (lv_at hl 1 rfl) ?_
      refine va_put (D := D) (ci := 5) (v := .int (x1)) (ty := .int) (C := RX5) (T := TX5) (N := 32) hx hb hts inX5 tyX5 tyX5_ok nmX5 hown hK hP hD hS 0 rfl rfl 7 (by decide) (hts (.fieldLink RX5 90 "ScooterFlagsModel" "knee" "I") (by decide +kernel)) (fun _ h9 => h9) rfl (by decide +kernel) rfl rfl (Nat.le_of_ble_eq_true rfl) dX5_knees_54 (fun H locs hP hD hS => ?_)
      have hP : va_P D vwCl [(am, .inr (5, [.int (qf), .int (qt), .ref mvs, .ref mvl, .ref mvc, .int (qn), .int (qs), .int (x1), .int (qo), .ref mvk, .ref mvt, .ref mvg, .int (qa), .int (qm), .ref mvh, .ref mvrk, .ref mvrt, .ref mvrg, .int (qg), .int (qp), .int (qu), .int (ql), .int (qe), .int (qb), .int (qw), .ref mvf, .int (qi), .int (qj), .int (qr), .ref mvq, .ref mvp, .ref mve])), (mvk, .inl (cI, 10, .inl (vk))), (mvt, .inl (cI, 10, .inl (vt))), (mvg, .inl (cZ, 10, .inl (vg))), (mvf, .inl (cI, 21000, .inl (vf))), (mvq, .inl (cI, 8, .inl (vq)))] H := hP
      have hD : va_D A [(am, .inr (5, [.int (qf), .int (qt), .ref mvs, .ref mvl, .ref mvc, .int (qn), .int (qs), .int (x1), .int (qo), .ref mvk, .ref mvt, .ref mvg, .int (qa), .int (qm), .ref mvh, .ref mvrk, .ref mvrt, .ref mvrg, .int (qg), .int (qp), .int (qu), .int (ql), .int (qe), .int (qb), .int (qw), .ref mvf, .int (qi), .int (qj), .int (qr), .ref mvq, .ref mvp, .ref mve])), (mvk, .inl (cI, 10, .inl (vk))), (mvt, .inl (cI, 10, .inl (vt))), (mvg, .inl (cZ, 10, .inl (vg))), (mvf, .inl (cI, 21000, .inl (vf))), (mvq, .inl (cI, 8, .inl (vq)))] := hD
      refine lv_iload_n hx hb dX5_knees_57 rfl (lv_at hl 2 rfl) ?_
      obtain rfl := Option.some.inj hg
      exact rti hQ hx hb hr hlocks hK hP hD hS dX5_knees_58 ⟨rfl, rfl⟩
  · have hg := it hg c1
    refine lv_bipush (v := (-3 : Int32)) hx hb dX5_knees_7 (by decide) ?_
    obtain rfl := Option.some.inj hg
    exact rti hQ hx hb hr hlocks hK hP hD hS dX5_knees_9 ⟨rfl, rfl⟩
def f_X5_inLeastTerms_L6  (k31 : Int64 → Option (Int64)) : Nat → Int64 → Int64 → Option (Int64)
  | 0, _, _ => none
  | n + 1, x5, x7 => if (lg_cmp x7 (0 : Int64)) = 0 then (k31 x5) else (gd (¬ x7 = 0) (f_X5_inLeastTerms_L6 k31 n x7 (x5 - x5 / x7 * x7)))
def f_X5_inLeastTerms (zu : Int64) (zd : Int64) (zv : Int32) : Option (Int64) :=
  f_X5_inLeastTerms_L6 (fun (x5 : Int64) => if zv = 0 then (gd (¬ x5 = 0) (some ((zu / x5)))) else (gd (¬ x5 = 0) (some ((zd / x5))))) 100 zu zd
set_option maxHeartbeats 4000000 in
set_option maxRecDepth 100000 in
theorem c_X5_inLeastTerms (l : Launch) (D : va_G) (cI cZ cR : ClassId)  (zu : Int64) (zd : Int64) (zv : Int32) {res : Int64} (hg : f_X5_inLeastTerms zu zd zv = some res) : ML l yX5_inLeastTerms wsX5_inLeastTerms ({ frames := 0, cells := 0, slots := 0, locals := 0 }) D (T3 cI cZ cR) [] [.long (zu), .long (zd), .int (zv)] (fun r u => res = r ∧ u = []) := by
  refine entL (Rn := RX5) (by decide +kernel) rfl rfl (Nat.le_of_ble_eq_true rfl) (fun p e s m args below meth c A Q hx hb hr hml hts hown hlocks hA hP hD hK hS ls hl hQ => ?_)
  have lp_6 : ∀ (k31 : Int64 → Option (Int64)) (hk31 : ∀ (x5 : Int64), k31 x5 = some res → ∀ (H : Heap) (locs : List Loc), va_P D vwCl [] H → va_D A [] → va_S A s.heap H locs → ∀ (ls : Array Slot), lv_has ls 11 [(0, .long (zu)), (2, .long (zd)), (4, .int (zv)), (5, .long (x5))] → W p l e ({ frames := 0, cells := 0, slots := 0, locals := 0 }) s m args below meth c H locs 0 0 Q (F0 m 31 ls [])) (n : Nat) (x5 : Int64) (x7 : Int64), f_X5_inLeastTerms_L6 k31 n x5 x7 = some res → ∀ (H : Heap) (locs : List Loc), va_P D vwCl [] H → va_D A [] → va_S A s.heap H locs → ∀ (ls : Array Slot), lv_has ls 11 [(0, .long (zu)), (2, .long (zd)), (4, .int (zv)), (5, .long (x5)), (7, .long (x7))] → W p l e ({ frames := 0, cells := 0, slots := 0, locals := 0 }) s m args below meth c H locs 0 0 Q (F0 m 6 ls []) := by
    intro k31 hk31 n
    induction n with
    | zero => intro x5 x7 hg; rw [f_X5_inLeastTerms_L6] at hg; cases hg
    | succ n ih =>
      intro x5 x7 hg H locs hP hD hS ls hl
      rw [f_X5_inLeastTerms_L6] at hg
      refine lv_lload hx hb dX5_inLeastTerms_6 (lv_at hl 4 rfl) ?_
      refine lv_lconst (v := (0 : Int64)) hx hb dX5_inLeastTerms_8 (by decide) ?_
      refine W.lcmp hx hb dX5_inLeastTerms_9 ?_
      refine lv_if_eq (tgt := 31) hx hb dX5_inLeastTerms_10 (by decide) (fun c1 => ?_) (fun c1 => ?_)
      · have hg := it hg c1
        exact hk31 x5 hg _ _ hP hD hS _ (lv_sub hl [0, 1, 2, 3] rfl)
      · have hg := ie hg c1
        refine lv_lload hx hb dX5_inLeastTerms_13 (lv_at hl 3 rfl) ?_
        refine lv_lload hx hb dX5_inLeastTerms_15 (lv_at hl 4 rfl) ?_
        obtain ⟨g2, hg⟩ := gdo hg
        refine lv_lrem hx hb dX5_inLeastTerms_17 g2 ?_
        refine lv_lstore (lv' := [(9, .long ((x5 - x5 / x7 * x7))), (0, .long (zu)), (2, .long (zd)), (4, .int (zv)), (5, .long (x5)), (7, .long (x7))]) hx hb dX5_inLeastTerms_18 hl (by decide) rfl (fun ls hl => ?_)
        refine lv_lload hx hb dX5_inLeastTerms_20 (lv_at hl 5 rfl) ?_
        refine lv_lstore (lv' := [(5, .long (x7)), (9, .long ((x5 - x5 / x7 * x7))), (0, .long (zu)), (2, .long (zd)), (4, .int (zv)), (7, .long (x7))]) hx hb dX5_inLeastTerms_22 hl (by decide) rfl (fun ls hl => ?_)
        refine lv_lload hx hb dX5_inLeastTerms_24 (lv_at hl 1 rfl) ?_
        refine lv_lstore (lv' := [(7, .long ((x5 - x5 / x7 * x7))), (5, .long (x7)), (9, .long ((x5 - x5 / x7 * x7))), (0, .long (zu)), (2, .long (zd)), (4, .int (zv))]) hx hb dX5_inLeastTerms_26 hl (by decide) rfl (fun ls hl => ?_)
        refine lv_goto (tgt := 6) hx hb dX5_inLeastTerms_28 (by decide) ?_
        exact ih x7 (x5 - x5 / x7 * x7) hg _ _ hP hD hS _ (lv_sub hl [3, 4, 5, 1, 0] rfl)
  have hl : lv_has ls 11 [(0, .long (zu)), (2, .long (zd)), (4, .int (zv))] := hl
  rw [f_X5_inLeastTerms] at hg
  refine lv_lload_n hx hb dX5_inLeastTerms_0 rfl (lv_at hl 0 rfl) ?_
  refine lv_lstore (lv' := [(5, .long (zu)), (0, .long (zu)), (2, .long (zd)), (4, .int (zv))]) hx hb dX5_inLeastTerms_1 hl (by decide) rfl (fun ls hl => ?_)
  refine lv_lload_n hx hb dX5_inLeastTerms_3 rfl (lv_at hl 2 rfl) ?_
  refine lv_lstore (lv' := [(7, .long (zd)), (5, .long (zu)), (0, .long (zu)), (2, .long (zd)), (4, .int (zv))]) hx hb dX5_inLeastTerms_4 hl (by decide) rfl (fun ls hl => ?_)
  refine lp_6 _ ?_ 100 zu zd hg _ _ hP hD hS _ (lv_sub hl [2, 3, 4, 1, 0] rfl)
  · intro x5 hg H locs hP hD hS ls hl
    refine lv_iload hx hb dX5_inLeastTerms_31 (lv_at hl 2 rfl) ?_
    refine lv_if_ne (tgt := 43) hx hb dX5_inLeastTerms_33 (by decide) (fun c3 => ?_) (fun c3 => ?_)
    · have hg := ie hg c3
      refine lv_lload_n hx hb dX5_inLeastTerms_43 rfl (lv_at hl 1 rfl) ?_
      refine lv_lload hx hb dX5_inLeastTerms_44 (lv_at hl 3 rfl) ?_
      obtain ⟨g4, hg⟩ := gdo hg
      refine lv_ldiv hx hb dX5_inLeastTerms_46 g4 ?_
      obtain rfl := Option.some.inj hg
      exact rtl hQ hx hb hr hlocks hK hP hD hS dX5_inLeastTerms_47 ⟨rfl, rfl⟩
    · have hg := it hg c3
      refine lv_lload_n hx hb dX5_inLeastTerms_36 rfl (lv_at hl 0 rfl) ?_
      refine lv_lload hx hb dX5_inLeastTerms_37 (lv_at hl 3 rfl) ?_
      obtain ⟨g5, hg⟩ := gdo hg
      refine lv_ldiv hx hb dX5_inLeastTerms_39 g5 ?_
      refine lv_goto (tgt := 47) hx hb dX5_inLeastTerms_40 (by decide) ?_
      obtain rfl := Option.some.inj hg
      exact rtl hQ hx hb hr hlocks hK hP hD hS dX5_inLeastTerms_47 ⟨rfl, rfl⟩
def f_X5_odds_L35 (qn : Int32) (k91 : Int32 → Int32 → Int32 → Int32 → Int32 → Int32 → Int32 → Int32 → Int32 → Int32 → (Nat → Int32) → (Nat → Int32) → (Nat → Int32) → (Nat → Int32) → Option (Int64 × Int32 × Int32 × Int32 × Int32 × Int32 × Int32 × Int32 × Int32 × Int32 × (Nat → Int32) × (Nat → Int32) × (Nat → Int32) × (Nat → Int32))) : Nat → Int32 → Int32 → Int32 → Int32 → Int32 → Int32 → Int32 → Int32 → Int32 → Int32 → Int32 → (Nat → Int32) → (Nat → Int32) → (Nat → Int32) → (Nat → Int32) → Option (Int64 × Int32 × Int32 × Int32 × Int32 × Int32 × Int32 × Int32 × Int32 × Int32 × (Nat → Int32) × (Nat → Int32) × (Nat → Int32) × (Nat → Int32))
  | 0, _, _, _, _, _, _, _, _, _, _, _, _, _, _, _ => none
  | n + 1, x3, x4, qg, qp, qu, ql, qe, qb, qw, qi, qj, vk, vf, vp, ve => if qn ≤ x4 then (k91 x3 qg qp qu ql qe qb qw qi qj vk vf vp ve) else (gx x4 10 (gx x4 10 (gx x3 10 (gx x4 10 (if (vk x4.toNatClampNeg) = (1 : Int32) then (f_X5_odds_L35 qn k91 n (x3 + (0 : Int32)) (x4 + (1 : Int32)) qg qp qu ql qe qb qw qi qj vk vf (upd vp x4.toNatClampNeg (vk x4.toNatClampNeg)) (upd ve x3.toNatClampNeg x4)) else (f_X5_odds_L35 qn k91 n (x3 + (1 : Int32)) (x4 + (1 : Int32)) qg qp qu ql qe qb qw qi qj vk vf (upd vp x4.toNatClampNeg (vk x4.toNatClampNeg)) (upd ve x3.toNatClampNeg x4)))))))
def f_X5_odds_L117  (k157 : Int32 → Int32 → Int32 → Int32 → Int32 → Int32 → Int32 → Int32 → Int32 → Int32 → Int32 → Int32 → (Nat → Int32) → (Nat → Int32) → (Nat → Int32) → (Nat → Int32) → Option (Int64 × Int32 × Int32 × Int32 × Int32 × Int32 × Int32 × Int32 × Int32 × Int32 × (Nat → Int32) × (Nat → Int32) × (Nat → Int32) × (Nat → Int32))) : Nat → Int32 → Int32 → Int32 → Int32 → Int32 → Int32 → Int32 → Int32 → Int32 → Int32 → Int32 → Int32 → Int32 → (Nat → Int32) → (Nat → Int32) → (Nat → Int32) → (Nat → Int32) → Option (Int64 × Int32 × Int32 × Int32 × Int32 × Int32 × Int32 × Int32 × Int32 × Int32 × (Nat → Int32) × (Nat → Int32) × (Nat → Int32) × (Nat → Int32))
  | 0, _, _, _, _, _, _, _, _, _, _, _, _, _, _, _, _, _ => none
  | n + 1, x3, x4, x5, x6, qg, qp, qu, ql, qe, qb, qw, qi, qj, vk, vf, vp, ve => if x3 ≤ x6 then (k157 x3 x4 x5 qg qp qu ql qe qb qw qi qj vk vf vp ve) else (gx x6 10 (if ((x5 >>> (x6 &&& 31)) &&& (1 : Int32)) = (1 : Int32) then (gx (ve x6.toNatClampNeg) 10 (f_X5_odds_L117 k157 n x3 x4 x5 (x6 + (1 : Int32)) qg qp qu ql qe qb qw qi qj (upd vk (ve x6.toNatClampNeg).toNatClampNeg (2 : Int32)) vf vp ve)) else (gx (ve x6.toNatClampNeg) 10 (f_X5_odds_L117 k157 n x3 x4 x5 (x6 + (1 : Int32)) qg qp qu ql qe qb qw qi qj (upd vk (ve x6.toNatClampNeg).toNatClampNeg (0 : Int32)) vf vp ve))))
def f_X5_odds_L106 (qn : Int32) (qs : Int32) (qk : Int32) (qo : Int32) (vt : Nat → Int32) (vg : Nat → Int32) (zn : Int32) (k192 : Int32 → Int32 → Int32 → Int32 → Int32 → Int32 → Int32 → Int32 → Int32 → Int32 → Int32 → (Nat → Int32) → (Nat → Int32) → (Nat → Int32) → (Nat → Int32) → Option (Int64 × Int32 × Int32 × Int32 × Int32 × Int32 × Int32 × Int32 × Int32 × Int32 × (Nat → Int32) × (Nat → Int32) × (Nat → Int32) × (Nat → Int32))) : Nat → Int32 → Int32 → Int32 → Int32 → Int32 → Int32 → Int32 → Int32 → Int32 → Int32 → Int32 → Int32 → (Nat → Int32) → (Nat → Int32) → (Nat → Int32) → (Nat → Int32) → Option (Int64 × Int32 × Int32 × Int32 × Int32 × Int32 × Int32 × Int32 × Int32 × Int32 × (Nat → Int32) × (Nat → Int32) × (Nat → Int32) × (Nat → Int32))
  | 0, _, _, _, _, _, _, _, _, _, _, _, _, _, _, _, _ => none
  | n + 1, x3, x4, x5, qg, qp, qu, ql, qe, qb, qw, qi, qj, vk, vf, vp, ve => if ((1 : Int32) <<< (x3 &&& 31)) ≤ x5 then (k192 x3 x4 qg qp qu ql qe qb qw qi qj vk vf vp ve) else (f_X5_odds_L117 (fun (x3 : Int32) (x4 : Int32) (x5 : Int32) (qg : Int32) (qp : Int32) (qu : Int32) (ql : Int32) (qe : Int32) (qb : Int32) (qw : Int32) (qi : Int32) (qj : Int32) (vk : Nat → Int32) (vf : Nat → Int32) (vp : Nat → Int32) (ve : Nat → Int32) => (f_X5_quickestNow qn qs qk qo qg qp qu ql qe qb qw qi qj vk vt vg vf).bind (fun o21 => if o21.1 = (-9 : Int32) then (f_X5_odds_L106 qn qs qk qo vt vg zn k192 n x3 (x4 + (0 : Int32)) (x5 + (1 : Int32)) o21.2.1 o21.2.2.1 o21.2.2.2.1 o21.2.2.2.2.1 o21.2.2.2.2.2.1 o21.2.2.2.2.2.2.1 o21.2.2.2.2.2.2.2.1 o21.2.2.2.2.2.2.2.2.1 o21.2.2.2.2.2.2.2.2.2.1 vk o21.2.2.2.2.2.2.2.2.2.2 vp ve) else (if zn < o21.1 then (f_X5_odds_L106 qn qs qk qo vt vg zn k192 n x3 (x4 + (0 : Int32)) (x5 + (1 : Int32)) o21.2.1 o21.2.2.1 o21.2.2.2.1 o21.2.2.2.2.1 o21.2.2.2.2.2.1 o21.2.2.2.2.2.2.1 o21.2.2.2.2.2.2.2.1 o21.2.2.2.2.2.2.2.2.1 o21.2.2.2.2.2.2.2.2.2.1 vk o21.2.2.2.2.2.2.2.2.2.2 vp ve) else (f_X5_odds_L106 qn qs qk qo vt vg zn k192 n x3 (x4 + (1 : Int32)) (x5 + (1 : Int32)) o21.2.1 o21.2.2.1 o21.2.2.2.1 o21.2.2.2.2.1 o21.2.2.2.2.2.1 o21.2.2.2.2.2.2.1 o21.2.2.2.2.2.2.2.1 o21.2.2.2.2.2.2.2.2.1 o21.2.2.2.2.2.2.2.2.2.1 vk o21.2.2.2.2.2.2.2.2.2.2 vp ve)))) 100 x3 x4 x5 (0 : Int32) qg qp qu ql qe qb qw qi qj vk vf vp ve)
def f_X5_odds_L195 (qn : Int32) (k224 : Int32 → Int32 → Int32 → Int32 → Int32 → Int32 → Int32 → Int32 → Int32 → Int32 → Int32 → (Nat → Int32) → (Nat → Int32) → (Nat → Int32) → (Nat → Int32) → Option (Int64 × Int32 × Int32 × Int32 × Int32 × Int32 × Int32 × Int32 × Int32 × Int32 × (Nat → Int32) × (Nat → Int32) × (Nat → Int32) × (Nat → Int32))) : Nat → Int32 → Int32 → Int32 → Int32 → Int32 → Int32 → Int32 → Int32 → Int32 → Int32 → Int32 → Int32 → (Nat → Int32) → (Nat → Int32) → (Nat → Int32) → (Nat → Int32) → Option (Int64 × Int32 × Int32 × Int32 × Int32 × Int32 × Int32 × Int32 × Int32 × Int32 × (Nat → Int32) × (Nat → Int32) × (Nat → Int32) × (Nat → Int32))
  | 0, _, _, _, _, _, _, _, _, _, _, _, _, _, _, _, _ => none
  | n + 1, x3, x4, x5, qg, qp, qu, ql, qe, qb, qw, qi, qj, vk, vf, vp, ve => if qn ≤ x5 then (k224 x3 x4 qg qp qu ql qe qb qw qi qj vk vf vp ve) else (gx x5 10 (gx x5 10 (f_X5_odds_L195 qn k224 n x3 x4 (x5 + (1 : Int32)) qg qp qu ql qe qb qw qi qj (upd vk x5.toNatClampNeg (vp x5.toNatClampNeg)) vf vp ve)))
def f_X5_odds (qn : Int32) (qs : Int32) (qk : Int32) (qo : Int32) (qg : Int32) (qp : Int32) (qu : Int32) (ql : Int32) (qe : Int32) (qb : Int32) (qw : Int32) (qi : Int32) (qj : Int32) (vk : Nat → Int32) (vt : Nat → Int32) (vg : Nat → Int32) (vf : Nat → Int32) (vp : Nat → Int32) (ve : Nat → Int32) (zn : Int32) (zv : Int32) : Option (Int64 × Int32 × Int32 × Int32 × Int32 × Int32 × Int32 × Int32 × Int32 × Int32 × (Nat → Int32) × (Nat → Int32) × (Nat → Int32) × (Nat → Int32)) :=
  (f_X5_within zn (0 : Int32) (24 : Int32)).bind (fun o1 => if o1 = 0 then (some ((-9223372036854775808 : Int64), qg, qp, qu, ql, qe, qb, qw, qi, qj, vk, vf, vp, ve)) else ((f_X5_within zv (0 : Int32) (1 : Int32)).bind (fun o4 => if o4 = 0 then (some ((-9223372036854775808 : Int64), qg, qp, qu, ql, qe, qb, qw, qi, qj, vk, vf, vp, ve)) else (if qn = 0 then (some ((-9223372036854775808 : Int64), qg, qp, qu, ql, qe, qb, qw, qi, qj, vk, vf, vp, ve)) else (f_X5_odds_L35 qn (fun (x3 : Int32) (qg : Int32) (qp : Int32) (qu : Int32) (ql : Int32) (qe : Int32) (qb : Int32) (qw : Int32) (qi : Int32) (qj : Int32) (vk : Nat → Int32) (vf : Nat → Int32) (vp : Nat → Int32) (ve : Nat → Int32) => if x3 ≤ (4 : Int32) then (f_X5_odds_L106 qn qs qk qo vt vg zn (fun (x3 : Int32) (x4 : Int32) (qg : Int32) (qp : Int32) (qu : Int32) (ql : Int32) (qe : Int32) (qb : Int32) (qw : Int32) (qi : Int32) (qj : Int32) (vk : Nat → Int32) (vf : Nat → Int32) (vp : Nat → Int32) (ve : Nat → Int32) => f_X5_odds_L195 qn (fun (x3 : Int32) (x4 : Int32) (qg : Int32) (qp : Int32) (qu : Int32) (ql : Int32) (qe : Int32) (qb : Int32) (qw : Int32) (qi : Int32) (qj : Int32) (vk : Nat → Int32) (vf : Nat → Int32) (vp : Nat → Int32) (ve : Nat → Int32) => (f_X5_inLeastTerms ((x4).toInt64) ((1 : Int64) <<< ((x3).toInt64 &&& 63)) zv).bind (fun o28 => some (o28, qg, qp, qu, ql, qe, qb, qw, qi, qj, vk, vf, vp, ve))) 100 x3 x4 (0 : Int32) qg qp qu ql qe qb qw qi qj vk vf vp ve) 100 x3 (0 : Int32) (0 : Int32) qg qp qu ql qe qb qw qi qj vk vf vp ve) else (some ((-9223372036854775808 : Int64), qg, qp, qu, ql, qe, qb, qw, qi, qj, vk, vf, vp, ve))) 100 (0 : Int32) (0 : Int32) qg qp qu ql qe qb qw qi qj vk vf vp ve)))))
set_option maxHeartbeats 4000000 in
set_option maxRecDepth 100000 in
theorem c_X5_odds (l : Launch) (D : va_G) (cI cZ cR : ClassId) (am : Nat) (mvk : Nat) (mvt : Nat) (mvg : Nat) (mvf : Nat) (mvp : Nat) (mve : Nat) (mvs : Nat) (mvl : Nat) (mvc : Nat) (mvh : Nat) (mvrk : Nat) (mvrt : Nat) (mvrg : Nat) (mvq : Nat) (qf : Int32) (qt : Int32) (qn : Int32) (qs : Int32) (qk : Int32) (qo : Int32) (qa : Int32) (qm : Int32) (qg : Int32) (qp : Int32) (qu : Int32) (ql : Int32) (qe : Int32) (qb : Int32) (qw : Int32) (qi : Int32) (qj : Int32) (qr : Int32) (vk : Nat → Int32) (vt : Nat → Int32) (vg : Nat → Int32) (vf : Nat → Int32) (vp : Nat → Int32) (ve : Nat → Int32) (zn : Int32) (zv : Int32) {res : Int64 × Int32 × Int32 × Int32 × Int32 × Int32 × Int32 × Int32 × Int32 × Int32 × (Nat → Int32) × (Nat → Int32) × (Nat → Int32) × (Nat → Int32)} (hg : f_X5_odds qn qs qk qo qg qp qu ql qe qb qw qi qj vk vt vg vf vp ve zn zv = some res) : ML l yX5_odds wsX5_odds ({ frames := 6, cells := 0, slots := 0, locals := 133 }) D (T3 cI cZ cR) [(am, .inr (5, [.int (qf), .int (qt), .ref mvs, .ref mvl, .ref mvc, .int (qn), .int (qs), .int (qk), .int (qo), .ref mvk, .ref mvt, .ref mvg, .int (qa), .int (qm), .ref mvh, .ref mvrk, .ref mvrt, .ref mvrg, .int (qg), .int (qp), .int (qu), .int (ql), .int (qe), .int (qb), .int (qw), .ref mvf, .int (qi), .int (qj), .int (qr), .ref mvq, .ref mvp, .ref mve])), (mvk, .inl (cI, 10, .inl (vk))), (mvt, .inl (cI, 10, .inl (vt))), (mvg, .inl (cZ, 10, .inl (vg))), (mvf, .inl (cI, 21000, .inl (vf))), (mvp, .inl (cI, 10, .inl (vp))), (mve, .inl (cI, 10, .inl (ve)))] [.ref am, .int (zn), .int (zv)] (fun r u => res.1 = r ∧ u = [(am, .inr (5, [.int (qf), .int (qt), .ref mvs, .ref mvl, .ref mvc, .int (qn), .int (qs), .int (qk), .int (qo), .ref mvk, .ref mvt, .ref mvg, .int (qa), .int (qm), .ref mvh, .ref mvrk, .ref mvrt, .ref mvrg, .int (res.2.1), .int (res.2.2.1), .int (res.2.2.2.1), .int (res.2.2.2.2.1), .int (res.2.2.2.2.2.1), .int (res.2.2.2.2.2.2.1), .int (res.2.2.2.2.2.2.2.1), .ref mvf, .int (res.2.2.2.2.2.2.2.2.1), .int (res.2.2.2.2.2.2.2.2.2.1), .int (qr), .ref mvq, .ref mvp, .ref mve])), (mvk, .inl (cI, 10, .inl (res.2.2.2.2.2.2.2.2.2.2.1))), (mvt, .inl (cI, 10, .inl (vt))), (mvg, .inl (cZ, 10, .inl (vg))), (mvf, .inl (cI, 21000, .inl (res.2.2.2.2.2.2.2.2.2.2.2.1))), (mvp, .inl (cI, 10, .inl (res.2.2.2.2.2.2.2.2.2.2.2.2.1))), (mve, .inl (cI, 10, .inl (res.2.2.2.2.2.2.2.2.2.2.2.2.2)))]) := by
  refine entL (Rn := RX5) (by decide +kernel) rfl rfl (Nat.le_of_ble_eq_true rfl) (fun p e s m args below meth c A Q hx hb hr hml hts hown hlocks hA hP hD hK hS ls hl hQ => ?_)
  have inX5 : ∀ w ∈ u_ws RX5 TX5 32, w ∈ wsX5_odds := by decide +kernel
  have lp_35 : ∀ (k91 : Int32 → Int32 → Int32 → Int32 → Int32 → Int32 → Int32 → Int32 → Int32 → Int32 → (Nat → Int32) → (Nat → Int32) → (Nat → Int32) → (Nat → Int32) → Option (Int64 × Int32 × Int32 × Int32 × Int32 × Int32 × Int32 × Int32 × Int32 × Int32 × (Nat → Int32) × (Nat → Int32) × (Nat → Int32) × (Nat → Int32))) (hk91 : ∀ (x3 : Int32) (qg : Int32) (qp : Int32) (qu : Int32) (ql : Int32) (qe : Int32) (qb : Int32) (qw : Int32) (qi : Int32) (qj : Int32) (vk : Nat → Int32) (vf : Nat → Int32) (vp : Nat → Int32) (ve : Nat → Int32), k91 x3 qg qp qu ql qe qb qw qi qj vk vf vp ve = some res → ∀ (H : Heap) (locs : List Loc), va_P D vwCl [(am, .inr (5, [.int (qf), .int (qt), .ref mvs, .ref mvl, .ref mvc, .int (qn), .int (qs), .int (qk), .int (qo), .ref mvk, .ref mvt, .ref mvg, .int (qa), .int (qm), .ref mvh, .ref mvrk, .ref mvrt, .ref mvrg, .int (qg), .int (qp), .int (qu), .int (ql), .int (qe), .int (qb), .int (qw), .ref mvf, .int (qi), .int (qj), .int (qr), .ref mvq, .ref mvp, .ref mve])), (mvk, .inl (cI, 10, .inl (vk))), (mvt, .inl (cI, 10, .inl (vt))), (mvg, .inl (cZ, 10, .inl (vg))), (mvf, .inl (cI, 21000, .inl (vf))), (mvp, .inl (cI, 10, .inl (vp))), (mve, .inl (cI, 10, .inl (ve)))] H → va_D A [(am, .inr (5, [.int (qf), .int (qt), .ref mvs, .ref mvl, .ref mvc, .int (qn), .int (qs), .int (qk), .int (qo), .ref mvk, .ref mvt, .ref mvg, .int (qa), .int (qm), .ref mvh, .ref mvrk, .ref mvrt, .ref mvrg, .int (qg), .int (qp), .int (qu), .int (ql), .int (qe), .int (qb), .int (qw), .ref mvf, .int (qi), .int (qj), .int (qr), .ref mvq, .ref mvp, .ref mve])), (mvk, .inl (cI, 10, .inl (vk))), (mvt, .inl (cI, 10, .inl (vt))), (mvg, .inl (cZ, 10, .inl (vg))), (mvf, .inl (cI, 21000, .inl (vf))), (mvp, .inl (cI, 10, .inl (vp))), (mve, .inl (cI, 10, .inl (ve)))] → va_S A s.heap H locs → ∀ (ls : Array Slot), lv_has ls 7 [(0, .ref am), (1, .int (zn)), (2, .int (zv)), (3, .int (x3))] → W p l e ({ frames := 6, cells := 0, slots := 0, locals := 133 }) s m args below meth c H locs 0 0 Q (F0 m 91 ls [])) (n : Nat) (x3 : Int32) (x4 : Int32) (qg : Int32) (qp : Int32) (qu : Int32) (ql : Int32) (qe : Int32) (qb : Int32) (qw : Int32) (qi : Int32) (qj : Int32) (vk : Nat → Int32) (vf : Nat → Int32) (vp : Nat → Int32) (ve : Nat → Int32), f_X5_odds_L35 qn k91 n x3 x4 qg qp qu ql qe qb qw qi qj vk vf vp ve = some res → ∀ (H : Heap) (locs : List Loc), va_P D vwCl [(am, .inr (5, [.int (qf), .int (qt), .ref mvs, .ref mvl, .ref mvc, .int (qn), .int (qs), .int (qk), .int (qo), .ref mvk, .ref mvt, .ref mvg, .int (qa), .int (qm), .ref mvh, .ref mvrk, .ref mvrt, .ref mvrg, .int (qg), .int (qp), .int (qu), .int (ql), .int (qe), .int (qb), .int (qw), .ref mvf, .int (qi), .int (qj), .int (qr), .ref mvq, .ref mvp, .ref mve])), (mvk, .inl (cI, 10, .inl (vk))), (mvt, .inl (cI, 10, .inl (vt))), (mvg, .inl (cZ, 10, .inl (vg))), (mvf, .inl (cI, 21000, .inl (vf))), (mvp, .inl (cI, 10, .inl (vp))), (mve, .inl (cI, 10, .inl (ve)))] H → va_D A [(am, .inr (5, [.int (qf), .int (qt), .ref mvs, .ref mvl, .ref mvc, .int (qn), .int (qs), .int (qk), .int (qo), .ref mvk, .ref mvt, .ref mvg, .int (qa), .int (qm), .ref mvh, .ref mvrk, .ref mvrt, .ref mvrg, .int (qg), .int (qp), .int (qu), .int (ql), .int (qe), .int (qb), .int (qw), .ref mvf, .int (qi), .int (qj), .int (qr), .ref mvq, .ref mvp, .ref mve])), (mvk, .inl (cI, 10, .inl (vk))), (mvt, .inl (cI, 10, .inl (vt))), (mvg, .inl (cZ, 10, .inl (vg))), (mvf, .inl (cI, 21000, .inl (vf))), (mvp, .inl (cI, 10, .inl (vp))), (mve, .inl (cI, 10, .inl (ve)))] → va_S A s.heap H locs → ∀ (ls : Array Slot), lv_has ls 7 [(0, .ref am), (1, .int (zn)), (2, .int (zv)), (3, .int (x3)), (4, .int (x4))] → W p l e ({ frames := 6, cells := 0, slots := 0, locals := 133 }) s m args below meth c H locs 0 0 Q (F0 m 35 ls []) := by
    intro k91 hk91 n
    induction n with
    | zero => intro x3 x4 qg qp qu ql qe qb qw qi qj vk vf vp ve hg; rw [f_X5_odds_L35] at hg; cases hg
    | succ n ih =>
      intro x3 x4 qg qp qu ql qe qb qw qi qj vk vf vp ve hg H locs hP hD hS ls hl
      rw [f_X5_odds_L35] at hg
      refine lv_iload hx hb dX5_odds_35 (lv_at hl 4 rfl) ?_
      refine lv_aload_n hx hb dX5_odds_37 rfl (lv_at hl 0 rfl) ?_
      refine va_get (D := D) (ci := 5) (v := .int (qn)) (C := RX5) (T := TX5) (N := 32) hx hb hts inX5 hown hK hP 0 rfl rfl 5 (by decide) (hts (.fieldLink RX5 63 "ScooterFlagsModel" "flags" "I") (by decide +kernel)) (fun _ h9 => h9) rfl dX5_odds_38 ?_
      refine lv_icmp_ge (tgt := 91) hx hb dX5_odds_41 (by decide) (fun c8 => ?_) (fun c8 => ?_)
      · have hg := it hg c8
        exact hk91 x3 qg qp qu ql qe qb qw qi qj vk vf vp ve hg _ _ hP hD hS _ (lv_sub hl [0, 1, 2, 3] rfl)
      · have hg := ie hg c8
        refine lv_aload_n hx hb dX5_odds_44 rfl (lv_at hl 0 rfl) ?_
        refine va_get (D := D) (ci := 5) (v := .ref mvp) (C := RX5) (T := TX5) (N := 32) hx hb hts inX5 hown hK hP 0 rfl rfl 30 (by decide) (hts (.fieldLink RX5 47 "ScooterFlagsModel" "kept" "[I") (by decide +kernel)) (fun _ h9 => h9) rfl dX5_odds_45 ?_
        refine lv_iload hx hb dX5_odds_48 (lv_at hl 4 rfl) ?_
        refine lv_aload_n hx hb dX5_odds_50 rfl (lv_at hl 0 rfl) ?_
        refine va_get (D := D) (ci := 5) (v := .ref mvk) (C := RX5) (T := TX5) (N := 32) hx hb hts inX5 hown hK hP 0 rfl rfl 9 (by decide) (hts (.fieldLink RX5 19 "ScooterFlagsModel" "kind" "[I") (by decide +kernel)) (fun _ h9 => h9) rfl dX5_odds_51 ?_
        refine lv_iload hx hb dX5_odds_54 (lv_at hl 4 rfl) ?_
        obtain ⟨g9, hg⟩ := gxo hg
        refine va_iald hx hb hK hP 1 0 rfl rfl g9 dX5_odds_56 ?_
        refine W.eq (g2 := F0 m 57 ls [.int ((vk x4.toNatClampNeg)), .int (x4), .ref mvp]) rfl ?_
        obtain ⟨g10, hg⟩ := gxo hg
        refine va_iast hx hb hK hP hD hS 5 0 rfl rfl g10 dX5_odds_57 (fun H locs hP hD hS => ?_)
        have hP : va_P D vwCl [(am, .inr (5, [.int (qf), .int (qt), .ref mvs, .ref mvl, .ref mvc, .int (qn), .int (qs), .int (qk), .int (qo), .ref mvk, .ref mvt, .ref mvg, .int (qa), .int (qm), .ref mvh, .ref mvrk, .ref mvrt, .ref mvrg, .int (qg), .int (qp), .int (qu), .int (ql), .int (qe), .int (qb), .int (qw), .ref mvf, .int (qi), .int (qj), .int (qr), .ref mvq, .ref mvp, .ref mve])), (mvk, .inl (cI, 10, .inl (vk))), (mvt, .inl (cI, 10, .inl (vt))), (mvg, .inl (cZ, 10, .inl (vg))), (mvf, .inl (cI, 21000, .inl (vf))), (mvp, .inl (cI, 10, .inl ((upd vp x4.toNatClampNeg (vk x4.toNatClampNeg))))), (mve, .inl (cI, 10, .inl (ve)))] H := hP
        have hD : va_D A [(am, .inr (5, [.int (qf), .int (qt), .ref mvs, .ref mvl, .ref mvc, .int (qn), .int (qs), .int (qk), .int (qo), .ref mvk, .ref mvt, .ref mvg, .int (qa), .int (qm), .ref mvh, .ref mvrk, .ref mvrt, .ref mvrg, .int (qg), .int (qp), .int (qu), .int (ql), .int (qe), .int (qb), .int (qw), .ref mvf, .int (qi), .int (qj), .int (qr), .ref mvq, .ref mvp, .ref mve])), (mvk, .inl (cI, 10, .inl (vk))), (mvt, .inl (cI, 10, .inl (vt))), (mvg, .inl (cZ, 10, .inl (vg))), (mvf, .inl (cI, 21000, .inl (vf))), (mvp, .inl (cI, 10, .inl ((upd vp x4.toNatClampNeg (vk x4.toNatClampNeg))))), (mve, .inl (cI, 10, .inl (ve)))] := hD
        refine lv_aload_n hx hb dX5_odds_58 rfl (lv_at hl 0 rfl) ?_
        refine va_get (D := D) (ci := 5) (v := .ref mve) (C := RX5) (T := TX5) (N := 32) hx hb hts inX5 hown hK hP 0 rfl rfl 31 (by decide) (hts (.fieldLink RX5 50 "ScooterFlagsModel" "even" "[I") (by decide +kernel)) (fun _ h9 => h9) rfl dX5_odds_59 ?_
        refine lv_iload_n hx hb dX5_odds_62 rfl (lv_at hl 3 rfl) ?_
        refine lv_iload hx hb dX5_odds_63 (lv_at hl 4 rfl) ?_
        obtain ⟨g11, hg⟩ := gxo hg
        refine va_iast hx hb hK hP hD hS 6 0 rfl rfl g11 dX5_odds_65 (fun H locs hP hD hS => ?_)
        have hP : va_P D vwCl [(am, .inr (5, [.int (qf), .int (qt), .ref mvs, .ref mvl, .ref mvc, .int (qn), .int (qs), .int (qk), .int (qo), .ref mvk, .ref mvt, .ref mvg, .int (qa), .int (qm), .ref mvh, .ref mvrk, .ref mvrt, .ref mvrg, .int (qg), .int (qp), .int (qu), .int (ql), .int (qe), .int (qb), .int (qw), .ref mvf, .int (qi), .int (qj), .int (qr), .ref mvq, .ref mvp, .ref mve])), (mvk, .inl (cI, 10, .inl (vk))), (mvt, .inl (cI, 10, .inl (vt))), (mvg, .inl (cZ, 10, .inl (vg))), (mvf, .inl (cI, 21000, .inl (vf))), (mvp, .inl (cI, 10, .inl ((upd vp x4.toNatClampNeg (vk x4.toNatClampNeg))))), (mve, .inl (cI, 10, .inl ((upd ve x3.toNatClampNeg x4))))] H := hP
        have hD : va_D A [(am, .inr (5, [.int (qf), .int (qt), .ref mvs, .ref mvl, .ref mvc, .int (qn), .int (qs), .int (qk), .int (qo), .ref mvk, .ref mvt, .ref mvg, .int (qa), .int (qm), .ref mvh, .ref mvrk, .ref mvrt, .ref mvrg, .int (qg), .int (qp), .int (qu), .int (ql), .int (qe), .int (qb), .int (qw), .ref mvf, .int (qi), .int (qj), .int (qr), .ref mvq, .ref mvp, .ref mve])), (mvk, .inl (cI, 10, .inl (vk))), (mvt, .inl (cI, 10, .inl (vt))), (mvg, .inl (cZ, 10, .inl (vg))), (mvf, .inl (cI, 21000, .inl (vf))), (mvp, .inl (cI, 10, .inl ((upd vp x4.toNatClampNeg (vk x4.toNatClampNeg))))), (mve, .inl (cI, 10, .inl ((upd ve x3.toNatClampNeg x4))))] := hD
        refine lv_iload_n hx hb dX5_odds_66 rfl (lv_at hl 3 rfl) ?_
        refine lv_aload_n hx hb dX5_odds_67 rfl (lv_at hl 0 rfl) ?_
        refine va_get (D := D) (ci := 5) (v := .ref mvk) (C := RX5) (T := TX5) (N := 32) hx hb hts inX5 hown hK hP 0 rfl rfl 9 (by decide) (hts (.fieldLink RX5 19 "ScooterFlagsModel" "kind" "[I") (by decide +kernel)) (fun _ h9 => h9) rfl dX5_odds_68 ?_
        refine lv_iload hx hb dX5_odds_71 (lv_at hl 4 rfl) ?_
        obtain ⟨g12, hg⟩ := gxo hg
        refine va_iald hx hb hK hP 1 0 rfl rfl g12 dX5_odds_73 ?_
        refine W.eq (g2 := F0 m 74 ls [.int ((vk x4.toNatClampNeg)), .int (x3)]) rfl ?_
        refine lv_iconst (v := (1 : Int32)) hx hb dX5_odds_74 (by decide) ?_
        refine lv_icmp_ne (tgt := 82) hx hb dX5_odds_75 (by decide) (fun c13 => ?_) (fun c13 => ?_)
        · have hg := ie hg c13
          refine lv_iconst (v := (1 : Int32)) hx hb dX5_odds_82 (by decide) ?_
          refine lv_iadd hx hb dX5_odds_83 ?_
          refine lv_istore_n (lv' := [(3, .int ((x3 + (1 : Int32)))), (0, .ref am), (1, .int (zn)), (2, .int (zv)), (4, .int (x4))]) hx hb dX5_odds_84 rfl hl (by decide) rfl (fun ls hl => ?_)
          refine lv_iinc (v := (x4 + (1 : Int32))) (lv' := [(4, .int ((x4 + (1 : Int32)))), (3, .int ((x3 + (1 : Int32)))), (0, .ref am), (1, .int (zn)), (2, .int (zv))]) hx hb dX5_odds_85 hl (k := 4) rfl rfl (by decide) rfl (fun ls hl => ?_)
          refine lv_goto (tgt := 35) hx hb dX5_odds_88 (by decide) ?_
          exact ih (x3 + (1 : Int32)) (x4 + (1 : Int32)) qg qp qu ql qe qb qw qi qj vk vf (upd vp x4.toNatClampNeg (vk x4.toNatClampNeg)) (upd ve x3.toNatClampNeg x4) hg _ _ hP hD hS _ (lv_sub hl [2, 3, 4, 1, 0] rfl)
        · have hg := it hg c13
          refine lv_iconst (v := (0 : Int32)) hx hb dX5_odds_78 (by decide) ?_
          refine lv_goto (tgt := 83) hx hb dX5_odds_79 (by decide) ?_
          refine lv_iadd hx hb dX5_odds_83 ?_
          refine lv_istore_n (lv' := [(3, .int ((x3 + (0 : Int32)))), (0, .ref am), (1, .int (zn)), (2, .int (zv)), (4, .int (x4))]) hx hb dX5_odds_84 rfl hl (by decide) rfl (fun ls hl => ?_)
          refine lv_iinc (v := (x4 + (1 : Int32))) (lv' := [(4, .int ((x4 + (1 : Int32)))), (3, .int ((x3 + (0 : Int32)))), (0, .ref am), (1, .int (zn)), (2, .int (zv))]) hx hb dX5_odds_85 hl (k := 4) rfl rfl (by decide) rfl (fun ls hl => ?_)
          refine lv_goto (tgt := 35) hx hb dX5_odds_88 (by decide) ?_
          exact ih (x3 + (0 : Int32)) (x4 + (1 : Int32)) qg qp qu ql qe qb qw qi qj vk vf (upd vp x4.toNatClampNeg (vk x4.toNatClampNeg)) (upd ve x3.toNatClampNeg x4) hg _ _ hP hD hS _ (lv_sub hl [2, 3, 4, 1, 0] rfl)
  have lp_117 : ∀ (k157 : Int32 → Int32 → Int32 → Int32 → Int32 → Int32 → Int32 → Int32 → Int32 → Int32 → Int32 → Int32 → (Nat → Int32) → (Nat → Int32) → (Nat → Int32) → (Nat → Int32) → Option (Int64 × Int32 × Int32 × Int32 × Int32 × Int32 × Int32 × Int32 × Int32 × Int32 × (Nat → Int32) × (Nat → Int32) × (Nat → Int32) × (Nat → Int32))) (hk157 : ∀ (x3 : Int32) (x4 : Int32) (x5 : Int32) (qg : Int32) (qp : Int32) (qu : Int32) (ql : Int32) (qe : Int32) (qb : Int32) (qw : Int32) (qi : Int32) (qj : Int32) (vk : Nat → Int32) (vf : Nat → Int32) (vp : Nat → Int32) (ve : Nat → Int32), k157 x3 x4 x5 qg qp qu ql qe qb qw qi qj vk vf vp ve = some res → ∀ (H : Heap) (locs : List Loc), va_P D vwCl [(am, .inr (5, [.int (qf), .int (qt), .ref mvs, .ref mvl, .ref mvc, .int (qn), .int (qs), .int (qk), .int (qo), .ref mvk, .ref mvt, .ref mvg, .int (qa), .int (qm), .ref mvh, .ref mvrk, .ref mvrt, .ref mvrg, .int (qg), .int (qp), .int (qu), .int (ql), .int (qe), .int (qb), .int (qw), .ref mvf, .int (qi), .int (qj), .int (qr), .ref mvq, .ref mvp, .ref mve])), (mvk, .inl (cI, 10, .inl (vk))), (mvt, .inl (cI, 10, .inl (vt))), (mvg, .inl (cZ, 10, .inl (vg))), (mvf, .inl (cI, 21000, .inl (vf))), (mvp, .inl (cI, 10, .inl (vp))), (mve, .inl (cI, 10, .inl (ve)))] H → va_D A [(am, .inr (5, [.int (qf), .int (qt), .ref mvs, .ref mvl, .ref mvc, .int (qn), .int (qs), .int (qk), .int (qo), .ref mvk, .ref mvt, .ref mvg, .int (qa), .int (qm), .ref mvh, .ref mvrk, .ref mvrt, .ref mvrg, .int (qg), .int (qp), .int (qu), .int (ql), .int (qe), .int (qb), .int (qw), .ref mvf, .int (qi), .int (qj), .int (qr), .ref mvq, .ref mvp, .ref mve])), (mvk, .inl (cI, 10, .inl (vk))), (mvt, .inl (cI, 10, .inl (vt))), (mvg, .inl (cZ, 10, .inl (vg))), (mvf, .inl (cI, 21000, .inl (vf))), (mvp, .inl (cI, 10, .inl (vp))), (mve, .inl (cI, 10, .inl (ve)))] → va_S A s.heap H locs → ∀ (ls : Array Slot), lv_has ls 7 [(0, .ref am), (1, .int (zn)), (2, .int (zv)), (3, .int (x3)), (4, .int (x4)), (5, .int (x5))] → W p l e ({ frames := 6, cells := 0, slots := 0, locals := 133 }) s m args below meth c H locs 0 0 Q (F0 m 157 ls [])) (n : Nat) (x3 : Int32) (x4 : Int32) (x5 : Int32) (x6 : Int32) (qg : Int32) (qp : Int32) (qu : Int32) (ql : Int32) (qe : Int32) (qb : Int32) (qw : Int32) (qi : Int32) (qj : Int32) (vk : Nat → Int32) (vf : Nat → Int32) (vp : Nat → Int32) (ve : Nat → Int32), f_X5_odds_L117 k157 n x3 x4 x5 x6 qg qp qu ql qe qb qw qi qj vk vf vp ve = some res → ∀ (H : Heap) (locs : List Loc), va_P D vwCl [(am, .inr (5, [.int (qf), .int (qt), .ref mvs, .ref mvl, .ref mvc, .int (qn), .int (qs), .int (qk), .int (qo), .ref mvk, .ref mvt, .ref mvg, .int (qa), .int (qm), .ref mvh, .ref mvrk, .ref mvrt, .ref mvrg, .int (qg), .int (qp), .int (qu), .int (ql), .int (qe), .int (qb), .int (qw), .ref mvf, .int (qi), .int (qj), .int (qr), .ref mvq, .ref mvp, .ref mve])), (mvk, .inl (cI, 10, .inl (vk))), (mvt, .inl (cI, 10, .inl (vt))), (mvg, .inl (cZ, 10, .inl (vg))), (mvf, .inl (cI, 21000, .inl (vf))), (mvp, .inl (cI, 10, .inl (vp))), (mve, .inl (cI, 10, .inl (ve)))] H → va_D A [(am, .inr (5, [.int (qf), .int (qt), .ref mvs, .ref mvl, .ref mvc, .int (qn), .int (qs), .int (qk), .int (qo), .ref mvk, .ref mvt, .ref mvg, .int (qa), .int (qm), .ref mvh, .ref mvrk, .ref mvrt, .ref mvrg, .int (qg), .int (qp), .int (qu), .int (ql), .int (qe), .int (qb), .int (qw), .ref mvf, .int (qi), .int (qj), .int (qr), .ref mvq, .ref mvp, .ref mve])), (mvk, .inl (cI, 10, .inl (vk))), (mvt, .inl (cI, 10, .inl (vt))), (mvg, .inl (cZ, 10, .inl (vg))), (mvf, .inl (cI, 21000, .inl (vf))), (mvp, .inl (cI, 10, .inl (vp))), (mve, .inl (cI, 10, .inl (ve)))] → va_S A s.heap H locs → ∀ (ls : Array Slot), lv_has ls 7 [(0, .ref am), (1, .int (zn)), (2, .int (zv)), (3, .int (x3)), (4, .int (x4)), (5, .int (x5)), (6, .int (x6))] → W p l e ({ frames := 6, cells := 0, slots := 0, locals := 133 }) s m args below meth c H locs 0 0 Q (F0 m 117 ls []) := by
    intro k157 hk157 n
    induction n with
    | zero => intro x3 x4 x5 x6 qg qp qu ql qe qb qw qi qj vk vf vp ve hg; rw [f_X5_odds_L117] at hg; cases hg
    | succ n ih =>
      intro x3 x4 x5 x6 qg qp qu ql qe qb qw qi qj vk vf vp ve hg H locs hP hD hS ls hl
      rw [f_X5_odds_L117] at hg
      refine lv_iload hx hb dX5_odds_117 (lv_at hl 6 rfl) ?_
      refine lv_iload_n hx hb dX5_odds_119 rfl (lv_at hl 3 rfl) ?_
      refine lv_icmp_ge (tgt := 157) hx hb dX5_odds_120 (by decide) (fun c16 => ?_) (fun c16 => ?_)
      · have hg := it hg c16
        exact hk157 x3 x4 x5 qg qp qu ql qe qb qw qi qj vk vf vp ve hg _ _ hP hD hS _ (lv_sub hl [0, 1, 2, 3, 4, 5] rfl)
      · have hg := ie hg c16
        refine lv_aload_n hx hb dX5_odds_123 rfl (lv_at hl 0 rfl) ?_
        refine va_get (D := D) (ci := 5) (v := .ref mvk) (C := RX5) (T := TX5) (N := 32) hx hb hts inX5 hown hK hP 0 rfl rfl 9 (by decide) (hts (.fieldLink RX5 19 "ScooterFlagsModel" "kind" "[I") (by decide +kernel)) (fun _ h9 => h9) rfl dX5_odds_124 ?_
        refine lv_aload_n hx hb dX5_odds_127 rfl (lv_at hl 0 rfl) ?_
        refine va_get (D := D) (ci := 5) (v := .ref mve) (C := RX5) (T := TX5) (N := 32) hx hb hts inX5 hown hK hP 0 rfl rfl 31 (by decide) (hts (.fieldLink RX5 50 "ScooterFlagsModel" "even" "[I") (by decide +kernel)) (fun _ h9 => h9) rfl dX5_odds_128 ?_
        refine lv_iload hx hb dX5_odds_131 (lv_at hl 6 rfl) ?_
        obtain ⟨g17, hg⟩ := gxo hg
        refine va_iald hx hb hK hP 6 0 rfl rfl g17 dX5_odds_133 ?_
        refine W.eq (g2 := F0 m 134 ls [.int ((ve x6.toNatClampNeg)), .ref mvk]) rfl ?_
        refine lv_iload hx hb dX5_odds_134 (lv_at hl 5 rfl) ?_
        refine lv_iload hx hb dX5_odds_136 (lv_at hl 6 rfl) ?_
        refine lv_ishr hx hb dX5_odds_138 ?_
        refine lv_iconst (v := (1 : Int32)) hx hb dX5_odds_139 (by decide) ?_
        refine lv_iand hx hb dX5_odds_140 ?_
        refine lv_iconst (v := (1 : Int32)) hx hb dX5_odds_141 (by decide) ?_
        refine lv_icmp_ne (tgt := 149) hx hb dX5_odds_142 (by decide) (fun c18 => ?_) (fun c18 => ?_)
        · have hg := ie hg c18
          refine lv_iconst (v := (0 : Int32)) hx hb dX5_odds_149 (by decide) ?_
          obtain ⟨g19, hg⟩ := gxo hg
          refine va_iast hx hb hK hP hD hS 1 0 rfl rfl g19 dX5_odds_150 (fun H locs hP hD hS => ?_)
          have hP : va_P D vwCl [(am, .inr (5, [.int (qf), .int (qt), .ref mvs, .ref mvl, .ref mvc, .int (qn), .int (qs), .int (qk), .int (qo), .ref mvk, .ref mvt, .ref mvg, .int (qa), .int (qm), .ref mvh, .ref mvrk, .ref mvrt, .ref mvrg, .int (qg), .int (qp), .int (qu), .int (ql), .int (qe), .int (qb), .int (qw), .ref mvf, .int (qi), .int (qj), .int (qr), .ref mvq, .ref mvp, .ref mve])), (mvk, .inl (cI, 10, .inl ((upd vk (ve x6.toNatClampNeg).toNatClampNeg (0 : Int32))))), (mvt, .inl (cI, 10, .inl (vt))), (mvg, .inl (cZ, 10, .inl (vg))), (mvf, .inl (cI, 21000, .inl (vf))), (mvp, .inl (cI, 10, .inl (vp))), (mve, .inl (cI, 10, .inl (ve)))] H := hP
          have hD : va_D A [(am, .inr (5, [.int (qf), .int (qt), .ref mvs, .ref mvl, .ref mvc, .int (qn), .int (qs), .int (qk), .int (qo), .ref mvk, .ref mvt, .ref mvg, .int (qa), .int (qm), .ref mvh, .ref mvrk, .ref mvrt, .ref mvrg, .int (qg), .int (qp), .int (qu), .int (ql), .int (qe), .int (qb), .int (qw), .ref mvf, .int (qi), .int (qj), .int (qr), .ref mvq, .ref mvp, .ref mve])), (mvk, .inl (cI, 10, .inl ((upd vk (ve x6.toNatClampNeg).toNatClampNeg (0 : Int32))))), (mvt, .inl (cI, 10, .inl (vt))), (mvg, .inl (cZ, 10, .inl (vg))), (mvf, .inl (cI, 21000, .inl (vf))), (mvp, .inl (cI, 10, .inl (vp))), (mve, .inl (cI, 10, .inl (ve)))] := hD
          refine lv_iinc (v := (x6 + (1 : Int32))) (lv' := [(6, .int ((x6 + (1 : Int32)))), (0, .ref am), (1, .int (zn)), (2, .int (zv)), (3, .int (x3)), (4, .int (x4)), (5, .int (x5))]) hx hb dX5_odds_151 hl (k := 6) rfl rfl (by decide) rfl (fun ls hl => ?_)
          refine lv_goto (tgt := 117) hx hb dX5_odds_154 (by decide) ?_
          exact ih x3 x4 x5 (x6 + (1 : Int32)) qg qp qu ql qe qb qw qi qj (upd vk (ve x6.toNatClampNeg).toNatClampNeg (0 : Int32)) vf vp ve hg _ _ hP hD hS _ (lv_sub hl [1, 2, 3, 4, 5, 6, 0] rfl)
        · have hg := it hg c18
          refine lv_iconst (v := (2 : Int32)) hx hb dX5_odds_145 (by decide) ?_
          refine lv_goto (tgt := 150) hx hb dX5_odds_146 (by decide) ?_
          obtain ⟨g20, hg⟩ := gxo hg
          refine va_iast hx hb hK hP hD hS 1 0 rfl rfl g20 dX5_odds_150 (fun H locs hP hD hS => ?_)
          have hP : va_P D vwCl [(am, .inr (5, [.int (qf), .int (qt), .ref mvs, .ref mvl, .ref mvc, .int (qn), .int (qs), .int (qk), .int (qo), .ref mvk, .ref mvt, .ref mvg, .int (qa), .int (qm), .ref mvh, .ref mvrk, .ref mvrt, .ref mvrg, .int (qg), .int (qp), .int (qu), .int (ql), .int (qe), .int (qb), .int (qw), .ref mvf, .int (qi), .int (qj), .int (qr), .ref mvq, .ref mvp, .ref mve])), (mvk, .inl (cI, 10, .inl ((upd vk (ve x6.toNatClampNeg).toNatClampNeg (2 : Int32))))), (mvt, .inl (cI, 10, .inl (vt))), (mvg, .inl (cZ, 10, .inl (vg))), (mvf, .inl (cI, 21000, .inl (vf))), (mvp, .inl (cI, 10, .inl (vp))), (mve, .inl (cI, 10, .inl (ve)))] H := hP
          have hD : va_D A [(am, .inr (5, [.int (qf), .int (qt), .ref mvs, .ref mvl, .ref mvc, .int (qn), .int (qs), .int (qk), .int (qo), .ref mvk, .ref mvt, .ref mvg, .int (qa), .int (qm), .ref mvh, .ref mvrk, .ref mvrt, .ref mvrg, .int (qg), .int (qp), .int (qu), .int (ql), .int (qe), .int (qb), .int (qw), .ref mvf, .int (qi), .int (qj), .int (qr), .ref mvq, .ref mvp, .ref mve])), (mvk, .inl (cI, 10, .inl ((upd vk (ve x6.toNatClampNeg).toNatClampNeg (2 : Int32))))), (mvt, .inl (cI, 10, .inl (vt))), (mvg, .inl (cZ, 10, .inl (vg))), (mvf, .inl (cI, 21000, .inl (vf))), (mvp, .inl (cI, 10, .inl (vp))), (mve, .inl (cI, 10, .inl (ve)))] := hD
          refine lv_iinc (v := (x6 + (1 : Int32))) (lv' := [(6, .int ((x6 + (1 : Int32)))), (0, .ref am), (1, .int (zn)), (2, .int (zv)), (3, .int (x3)), (4, .int (x4)), (5, .int (x5))]) hx hb dX5_odds_151 hl (k := 6) rfl rfl (by decide) rfl (fun ls hl => ?_)
          refine lv_goto (tgt := 117) hx hb dX5_odds_154 (by decide) ?_
          exact ih x3 x4 x5 (x6 + (1 : Int32)) qg qp qu ql qe qb qw qi qj (upd vk (ve x6.toNatClampNeg).toNatClampNeg (2 : Int32)) vf vp ve hg _ _ hP hD hS _ (lv_sub hl [1, 2, 3, 4, 5, 6, 0] rfl)
  have lp_106 : ∀ (k192 : Int32 → Int32 → Int32 → Int32 → Int32 → Int32 → Int32 → Int32 → Int32 → Int32 → Int32 → (Nat → Int32) → (Nat → Int32) → (Nat → Int32) → (Nat → Int32) → Option (Int64 × Int32 × Int32 × Int32 × Int32 × Int32 × Int32 × Int32 × Int32 × Int32 × (Nat → Int32) × (Nat → Int32) × (Nat → Int32) × (Nat → Int32))) (hk192 : ∀ (x3 : Int32) (x4 : Int32) (qg : Int32) (qp : Int32) (qu : Int32) (ql : Int32) (qe : Int32) (qb : Int32) (qw : Int32) (qi : Int32) (qj : Int32) (vk : Nat → Int32) (vf : Nat → Int32) (vp : Nat → Int32) (ve : Nat → Int32), k192 x3 x4 qg qp qu ql qe qb qw qi qj vk vf vp ve = some res → ∀ (H : Heap) (locs : List Loc), va_P D vwCl [(am, .inr (5, [.int (qf), .int (qt), .ref mvs, .ref mvl, .ref mvc, .int (qn), .int (qs), .int (qk), .int (qo), .ref mvk, .ref mvt, .ref mvg, .int (qa), .int (qm), .ref mvh, .ref mvrk, .ref mvrt, .ref mvrg, .int (qg), .int (qp), .int (qu), .int (ql), .int (qe), .int (qb), .int (qw), .ref mvf, .int (qi), .int (qj), .int (qr), .ref mvq, .ref mvp, .ref mve])), (mvk, .inl (cI, 10, .inl (vk))), (mvt, .inl (cI, 10, .inl (vt))), (mvg, .inl (cZ, 10, .inl (vg))), (mvf, .inl (cI, 21000, .inl (vf))), (mvp, .inl (cI, 10, .inl (vp))), (mve, .inl (cI, 10, .inl (ve)))] H → va_D A [(am, .inr (5, [.int (qf), .int (qt), .ref mvs, .ref mvl, .ref mvc, .int (qn), .int (qs), .int (qk), .int (qo), .ref mvk, .ref mvt, .ref mvg, .int (qa), .int (qm), .ref mvh, .ref mvrk, .ref mvrt, .ref mvrg, .int (qg), .int (qp), .int (qu), .int (ql), .int (qe), .int (qb), .int (qw), .ref mvf, .int (qi), .int (qj), .int (qr), .ref mvq, .ref mvp, .ref mve])), (mvk, .inl (cI, 10, .inl (vk))), (mvt, .inl (cI, 10, .inl (vt))), (mvg, .inl (cZ, 10, .inl (vg))), (mvf, .inl (cI, 21000, .inl (vf))), (mvp, .inl (cI, 10, .inl (vp))), (mve, .inl (cI, 10, .inl (ve)))] → va_S A s.heap H locs → ∀ (ls : Array Slot), lv_has ls 7 [(0, .ref am), (2, .int (zv)), (3, .int (x3)), (4, .int (x4))] → W p l e ({ frames := 6, cells := 0, slots := 0, locals := 133 }) s m args below meth c H locs 0 0 Q (F0 m 192 ls [])) (n : Nat) (x3 : Int32) (x4 : Int32) (x5 : Int32) (qg : Int32) (qp : Int32) (qu : Int32) (ql : Int32) (qe : Int32) (qb : Int32) (qw : Int32) (qi : Int32) (qj : Int32) (vk : Nat → Int32) (vf : Nat → Int32) (vp : Nat → Int32) (ve : Nat → Int32), f_X5_odds_L106 qn qs qk qo vt vg zn k192 n x3 x4 x5 qg qp qu ql qe qb qw qi qj vk vf vp ve = some res → ∀ (H : Heap) (locs : List Loc), va_P D vwCl [(am, .inr (5, [.int (qf), .int (qt), .ref mvs, .ref mvl, .ref mvc, .int (qn), .int (qs), .int (qk), .int (qo), .ref mvk, .ref mvt, .ref mvg, .int (qa), .int (qm), .ref mvh, .ref mvrk, .ref mvrt, .ref mvrg, .int (qg), .int (qp), .int (qu), .int (ql), .int (qe), .int (qb), .int (qw), .ref mvf, .int (qi), .int (qj), .int (qr), .ref mvq, .ref mvp, .ref mve])), (mvk, .inl (cI, 10, .inl (vk))), (mvt, .inl (cI, 10, .inl (vt))), (mvg, .inl (cZ, 10, .inl (vg))), (mvf, .inl (cI, 21000, .inl (vf))), (mvp, .inl (cI, 10, .inl (vp))), (mve, .inl (cI, 10, .inl (ve)))] H → va_D A [(am, .inr (5, [.int (qf), .int (qt), .ref mvs, .ref mvl, .ref mvc, .int (qn), .int (qs), .int (qk), .int (qo), .ref mvk, .ref mvt, .ref mvg, .int (qa), .int (qm), .ref mvh, .ref mvrk, .ref mvrt, .ref mvrg, .int (qg), .int (qp), .int (qu), .int (ql), .int (qe), .int (qb), .int (qw), .ref mvf, .int (qi), .int (qj), .int (qr), .ref mvq, .ref mvp, .ref mve])), (mvk, .inl (cI, 10, .inl (vk))), (mvt, .inl (cI, 10, .inl (vt))), (mvg, .inl (cZ, 10, .inl (vg))), (mvf, .inl (cI, 21000, .inl (vf))), (mvp, .inl (cI, 10, .inl (vp))), (mve, .inl (cI, 10, .inl (ve)))] → va_S A s.heap H locs → ∀ (ls : Array Slot), lv_has ls 7 [(0, .ref am), (1, .int (zn)), (2, .int (zv)), (3, .int (x3)), (4, .int (x4)), (5, .int (x5))] → W p l e ({ frames := 6, cells := 0, slots := 0, locals := 133 }) s m args below meth c H locs 0 0 Q (F0 m 106 ls []) := by
    intro k192 hk192 n
    induction n with
    | zero => intro x3 x4 x5 qg qp qu ql qe qb qw qi qj vk vf vp ve hg; rw [f_X5_odds_L106] at hg; cases hg
    | succ n ih =>
      intro x3 x4 x5 qg qp qu ql qe qb qw qi qj vk vf vp ve hg H locs hP hD hS ls hl
      rw [f_X5_odds_L106] at hg
      refine lv_iload hx hb dX5_odds_106 (lv_at hl 5 rfl) ?_
      refine lv_iconst (v := (1 : Int32)) hx hb dX5_odds_108 (by decide) ?_
      refine lv_iload_n hx hb dX5_odds_109 rfl (lv_at hl 3 rfl) ?_
      refine lv_ishl hx hb dX5_odds_110 ?_
      refine lv_icmp_ge (tgt := 192) hx hb dX5_odds_111 (by decide) (fun c15 => ?_) (fun c15 => ?_)
      · have hg := it hg c15
        exact hk192 x3 x4 qg qp qu ql qe qb qw qi qj vk vf vp ve hg _ _ hP hD hS _ (lv_sub hl [0, 2, 3, 4] rfl)
      · have hg := ie hg c15
        refine lv_iconst (v := (0 : Int32)) hx hb dX5_odds_114 (by decide) ?_
        refine lv_istore (lv' := [(6, .int ((0 : Int32))), (0, .ref am), (1, .int (zn)), (2, .int (zv)), (3, .int (x3)), (4, .int (x4)), (5, .int (x5))]) hx hb dX5_odds_115 hl (by decide) rfl (fun ls hl => ?_)
        refine lp_117 _ ?_ 100 x3 x4 x5 (0 : Int32) qg qp qu ql qe qb qw qi qj vk vf vp ve hg _ _ hP hD hS _ (lv_sub hl [1, 2, 3, 4, 5, 6, 0] rfl)
        · intro x3 x4 x5 qg qp qu ql qe qb qw qi qj vk vf vp ve hg H locs hP hD hS ls hl
          refine lv_aload_n hx hb dX5_odds_157 rfl (lv_at hl 0 rfl) ?_
          obtain ⟨o21, h22, hg⟩ := bd hg
          refine xcVi (As := []) (rest := []) (wc := [(am, .inr (5, [.int (qf), .int (qt), .ref mvs, .ref mvl, .ref mvc, .int (qn), .int (qs), .int (qk), .int (qo), .ref mvk, .ref mvt, .ref mvg, .int (qa), .int (qm), .ref mvh, .ref mvrk, .ref mvrt, .ref mvrg, .int (qg), .int (qp), .int (qu), .int (ql), .int (qe), .int (qb), .int (qw), .ref mvf, .int (qi), .int (qj), .int (qr), .ref mvq, .ref mvp, .ref mve])), (mvk, .inl (cI, 10, .inl (vk))), (mvt, .inl (cI, 10, .inl (vt))), (mvg, .inl (cZ, 10, .inl (vg))), (mvf, .inl (cI, 21000, .inl (vf)))]) (wr := [(mvp, .inl (cI, 10, .inl (vp))), (mve, .inl (cI, 10, .inl (ve)))]) ⟨hx, hb, hml, hown, hts⟩ (c_X5_quickestNow l D cI cZ cR am mvk mvt mvg mvf mvs mvl mvc mvh mvrk mvrt mvrg mvq mvp mve qf qt qn qs qk qo qa qm qg qp qu ql qe qb qw qi qj qr vk vt vg vf h22) (cwV 0 hts gX5_odds_X5_quickestNow rfl rfl rfl (by decide +kernel) ⟨Nat.le_of_ble_eq_true rfl, Nat.le_of_ble_eq_true rfl⟩) hK hP hD hS hA [0, 1, 2, 3, 4] [5, 6] rfl rfl (by decide) (by decide) (by decide) (va_recv hK hP (ci := 5) (q0 := 0) rfl rfl) rfl rfl hl.1 (lv_room (Nat.le_of_ble_eq_true rfl)) dX5_odds_158 ⟨Nat.le_of_ble_eq_true rfl, Nat.le_of_ble_eq_true rfl⟩ (fun r u H locs hu hP hD hS => ?_)
          obtain ⟨rfl, rfl⟩ := hu
          have hP : va_P D vwCl [(am, .inr (5, [.int (qf), .int (qt), .ref mvs, .ref mvl, .ref mvc, .int (qn), .int (qs), .int (qk), .int (qo), .ref mvk, .ref mvt, .ref mvg, .int (qa), .int (qm), .ref mvh, .ref mvrk, .ref mvrt, .ref mvrg, .int (o21.2.1), .int (o21.2.2.1), .int (o21.2.2.2.1), .int (o21.2.2.2.2.1), .int (o21.2.2.2.2.2.1), .int (o21.2.2.2.2.2.2.1), .int (o21.2.2.2.2.2.2.2.1), .ref mvf, .int (o21.2.2.2.2.2.2.2.2.1), .int (o21.2.2.2.2.2.2.2.2.2.1), .int (qr), .ref mvq, .ref mvp, .ref mve])), (mvk, .inl (cI, 10, .inl (vk))), (mvt, .inl (cI, 10, .inl (vt))), (mvg, .inl (cZ, 10, .inl (vg))), (mvf, .inl (cI, 21000, .inl (o21.2.2.2.2.2.2.2.2.2.2))), (mvp, .inl (cI, 10, .inl (vp))), (mve, .inl (cI, 10, .inl (ve)))] H := hP.sub [2, 3, 4, 5, 6, 0, 1] rfl
          have hD : va_D A [(am, .inr (5, [.int (qf), .int (qt), .ref mvs, .ref mvl, .ref mvc, .int (qn), .int (qs), .int (qk), .int (qo), .ref mvk, .ref mvt, .ref mvg, .int (qa), .int (qm), .ref mvh, .ref mvrk, .ref mvrt, .ref mvrg, .int (o21.2.1), .int (o21.2.2.1), .int (o21.2.2.2.1), .int (o21.2.2.2.2.1), .int (o21.2.2.2.2.2.1), .int (o21.2.2.2.2.2.2.1), .int (o21.2.2.2.2.2.2.2.1), .ref mvf, .int (o21.2.2.2.2.2.2.2.2.1), .int (o21.2.2.2.2.2.2.2.2.2.1), .int (qr), .ref mvq, .ref mvp, .ref mve])), (mvk, .inl (cI, 10, .inl (vk))), (mvt, .inl (cI, 10, .inl (vt))), (mvg, .inl (cZ, 10, .inl (vg))), (mvf, .inl (cI, 21000, .inl (o21.2.2.2.2.2.2.2.2.2.2))), (mvp, .inl (cI, 10, .inl (vp))), (mve, .inl (cI, 10, .inl (ve)))] := hD.sub [2, 3, 4, 5, 6, 0, 1] (by decide) rfl
          refine lv_istore (lv' := [(6, .int (o21.1)), (0, .ref am), (1, .int (zn)), (2, .int (zv)), (3, .int (x3)), (4, .int (x4)), (5, .int (x5))]) hx hb dX5_odds_161 hl (by decide) rfl (fun ls hl => ?_)
          refine lv_iload hx hb dX5_odds_163 (lv_at hl 5 rfl) ?_
          refine lv_iload hx hb dX5_odds_165 (lv_at hl 0 rfl) ?_
          refine lv_bipush (v := (-9 : Int32)) hx hb dX5_odds_167 (by decide) ?_
          refine lv_icmp_eq (tgt := 182) hx hb dX5_odds_169 (by decide) (fun c23 => ?_) (fun c23 => ?_)
          · have hg := it hg c23
            refine lv_iconst (v := (0 : Int32)) hx hb dX5_odds_182 (by decide) ?_
            refine lv_iadd hx hb dX5_odds_183 ?_
            refine lv_istore (lv' := [(4, .int ((x4 + (0 : Int32)))), (6, .int (o21.1)), (0, .ref am), (1, .int (zn)), (2, .int (zv)), (3, .int (x3)), (5, .int (x5))]) hx hb dX5_odds_184 hl (by decide) rfl (fun ls hl => ?_)
            refine lv_iinc (v := (x5 + (1 : Int32))) (lv' := [(5, .int ((x5 + (1 : Int32)))), (4, .int ((x4 + (0 : Int32)))), (6, .int (o21.1)), (0, .ref am), (1, .int (zn)), (2, .int (zv)), (3, .int (x3))]) hx hb dX5_odds_186 hl (k := 6) rfl rfl (by decide) rfl (fun ls hl => ?_)
            refine lv_goto (tgt := 106) hx hb dX5_odds_189 (by decide) ?_
            exact ih x3 (x4 + (0 : Int32)) (x5 + (1 : Int32)) o21.2.1 o21.2.2.1 o21.2.2.2.1 o21.2.2.2.2.1 o21.2.2.2.2.2.1 o21.2.2.2.2.2.2.1 o21.2.2.2.2.2.2.2.1 o21.2.2.2.2.2.2.2.2.1 o21.2.2.2.2.2.2.2.2.2.1 vk o21.2.2.2.2.2.2.2.2.2.2 vp ve hg _ _ hP hD hS _ (lv_sub hl [3, 4, 5, 6, 1, 0] rfl)
          · have hg := ie hg c23
            refine lv_iload hx hb dX5_odds_172 (lv_at hl 0 rfl) ?_
            refine lv_iload_n hx hb dX5_odds_174 rfl (lv_at hl 2 rfl) ?_
            refine lv_icmp_gt (tgt := 182) hx hb dX5_odds_175 (by decide) (fun c24 => ?_) (fun c24 => ?_)
            · have hg := it hg c24
              refine lv_iconst (v := (0 : Int32)) hx hb dX5_odds_182 (by decide) ?_
              refine lv_iadd hx hb dX5_odds_183 ?_
              refine lv_istore (lv' := [(4, .int ((x4 + (0 : Int32)))), (6, .int (o21.1)), (0, .ref am), (1, .int (zn)), (2, .int (zv)), (3, .int (x3)), (5, .int (x5))]) hx hb dX5_odds_184 hl (by decide) rfl (fun ls hl => ?_)
              refine lv_iinc (v := (x5 + (1 : Int32))) (lv' := [(5, .int ((x5 + (1 : Int32)))), (4, .int ((x4 + (0 : Int32)))), (6, .int (o21.1)), (0, .ref am), (1, .int (zn)), (2, .int (zv)), (3, .int (x3))]) hx hb dX5_odds_186 hl (k := 6) rfl rfl (by decide) rfl (fun ls hl => ?_)
              refine lv_goto (tgt := 106) hx hb dX5_odds_189 (by decide) ?_
              exact ih x3 (x4 + (0 : Int32)) (x5 + (1 : Int32)) o21.2.1 o21.2.2.1 o21.2.2.2.1 o21.2.2.2.2.1 o21.2.2.2.2.2.1 o21.2.2.2.2.2.2.1 o21.2.2.2.2.2.2.2.1 o21.2.2.2.2.2.2.2.2.1 o21.2.2.2.2.2.2.2.2.2.1 vk o21.2.2.2.2.2.2.2.2.2.2 vp ve hg _ _ hP hD hS _ (lv_sub hl [3, 4, 5, 6, 1, 0] rfl)
            · have hg := ie hg c24
              refine lv_iconst (v := (1 : Int32)) hx hb dX5_odds_178 (by decide) ?_
              refine lv_goto (tgt := 183) hx hb dX5_odds_179 (by decide) ?_
              refine lv_iadd hx hb dX5_odds_183 ?_
              refine lv_istore (lv' := [(4, .int ((x4 + (1 : Int32)))), (6, .int (o21.1)), (0, .ref am), (1, .int (zn)), (2, .int (zv)), (3, .int (x3)), (5, .int (x5))]) hx hb dX5_odds_184 hl (by decide) rfl (fun ls hl => ?_)
              refine lv_iinc (v := (x5 + (1 : Int32))) (lv' := [(5, .int ((x5 + (1 : Int32)))), (4, .int ((x4 + (1 : Int32)))), (6, .int (o21.1)), (0, .ref am), (1, .int (zn)), (2, .int (zv)), (3, .int (x3))]) hx hb dX5_odds_186 hl (k := 6) rfl rfl (by decide) rfl (fun ls hl => ?_)
              refine lv_goto (tgt := 106) hx hb dX5_odds_189 (by decide) ?_
              exact ih x3 (x4 + (1 : Int32)) (x5 + (1 : Int32)) o21.2.1 o21.2.2.1 o21.2.2.2.1 o21.2.2.2.2.1 o21.2.2.2.2.2.1 o21.2.2.2.2.2.2.1 o21.2.2.2.2.2.2.2.1 o21.2.2.2.2.2.2.2.2.1 o21.2.2.2.2.2.2.2.2.2.1 vk o21.2.2.2.2.2.2.2.2.2.2 vp ve hg _ _ hP hD hS _ (lv_sub hl [3, 4, 5, 6, 1, 0] rfl)
  have lp_195 : ∀ (k224 : Int32 → Int32 → Int32 → Int32 → Int32 → Int32 → Int32 → Int32 → Int32 → Int32 → Int32 → (Nat → Int32) → (Nat → Int32) → (Nat → Int32) → (Nat → Int32) → Option (Int64 × Int32 × Int32 × Int32 × Int32 × Int32 × Int32 × Int32 × Int32 × Int32 × (Nat → Int32) × (Nat → Int32) × (Nat → Int32) × (Nat → Int32))) (hk224 : ∀ (x3 : Int32) (x4 : Int32) (qg : Int32) (qp : Int32) (qu : Int32) (ql : Int32) (qe : Int32) (qb : Int32) (qw : Int32) (qi : Int32) (qj : Int32) (vk : Nat → Int32) (vf : Nat → Int32) (vp : Nat → Int32) (ve : Nat → Int32), k224 x3 x4 qg qp qu ql qe qb qw qi qj vk vf vp ve = some res → ∀ (H : Heap) (locs : List Loc), va_P D vwCl [(am, .inr (5, [.int (qf), .int (qt), .ref mvs, .ref mvl, .ref mvc, .int (qn), .int (qs), .int (qk), .int (qo), .ref mvk, .ref mvt, .ref mvg, .int (qa), .int (qm), .ref mvh, .ref mvrk, .ref mvrt, .ref mvrg, .int (qg), .int (qp), .int (qu), .int (ql), .int (qe), .int (qb), .int (qw), .ref mvf, .int (qi), .int (qj), .int (qr), .ref mvq, .ref mvp, .ref mve])), (mvk, .inl (cI, 10, .inl (vk))), (mvt, .inl (cI, 10, .inl (vt))), (mvg, .inl (cZ, 10, .inl (vg))), (mvf, .inl (cI, 21000, .inl (vf))), (mvp, .inl (cI, 10, .inl (vp))), (mve, .inl (cI, 10, .inl (ve)))] H → va_D A [(am, .inr (5, [.int (qf), .int (qt), .ref mvs, .ref mvl, .ref mvc, .int (qn), .int (qs), .int (qk), .int (qo), .ref mvk, .ref mvt, .ref mvg, .int (qa), .int (qm), .ref mvh, .ref mvrk, .ref mvrt, .ref mvrg, .int (qg), .int (qp), .int (qu), .int (ql), .int (qe), .int (qb), .int (qw), .ref mvf, .int (qi), .int (qj), .int (qr), .ref mvq, .ref mvp, .ref mve])), (mvk, .inl (cI, 10, .inl (vk))), (mvt, .inl (cI, 10, .inl (vt))), (mvg, .inl (cZ, 10, .inl (vg))), (mvf, .inl (cI, 21000, .inl (vf))), (mvp, .inl (cI, 10, .inl (vp))), (mve, .inl (cI, 10, .inl (ve)))] → va_S A s.heap H locs → ∀ (ls : Array Slot), lv_has ls 7 [(2, .int (zv)), (3, .int (x3)), (4, .int (x4))] → W p l e ({ frames := 6, cells := 0, slots := 0, locals := 133 }) s m args below meth c H locs 0 0 Q (F0 m 224 ls [])) (n : Nat) (x3 : Int32) (x4 : Int32) (x5 : Int32) (qg : Int32) (qp : Int32) (qu : Int32) (ql : Int32) (qe : Int32) (qb : Int32) (qw : Int32) (qi : Int32) (qj : Int32) (vk : Nat → Int32) (vf : Nat → Int32) (vp : Nat → Int32) (ve : Nat → Int32), f_X5_odds_L195 qn k224 n x3 x4 x5 qg qp qu ql qe qb qw qi qj vk vf vp ve = some res → ∀ (H : Heap) (locs : List Loc), va_P D vwCl [(am, .inr (5, [.int (qf), .int (qt), .ref mvs, .ref mvl, .ref mvc, .int (qn), .int (qs), .int (qk), .int (qo), .ref mvk, .ref mvt, .ref mvg, .int (qa), .int (qm), .ref mvh, .ref mvrk, .ref mvrt, .ref mvrg, .int (qg), .int (qp), .int (qu), .int (ql), .int (qe), .int (qb), .int (qw), .ref mvf, .int (qi), .int (qj), .int (qr), .ref mvq, .ref mvp, .ref mve])), (mvk, .inl (cI, 10, .inl (vk))), (mvt, .inl (cI, 10, .inl (vt))), (mvg, .inl (cZ, 10, .inl (vg))), (mvf, .inl (cI, 21000, .inl (vf))), (mvp, .inl (cI, 10, .inl (vp))), (mve, .inl (cI, 10, .inl (ve)))] H → va_D A [(am, .inr (5, [.int (qf), .int (qt), .ref mvs, .ref mvl, .ref mvc, .int (qn), .int (qs), .int (qk), .int (qo), .ref mvk, .ref mvt, .ref mvg, .int (qa), .int (qm), .ref mvh, .ref mvrk, .ref mvrt, .ref mvrg, .int (qg), .int (qp), .int (qu), .int (ql), .int (qe), .int (qb), .int (qw), .ref mvf, .int (qi), .int (qj), .int (qr), .ref mvq, .ref mvp, .ref mve])), (mvk, .inl (cI, 10, .inl (vk))), (mvt, .inl (cI, 10, .inl (vt))), (mvg, .inl (cZ, 10, .inl (vg))), (mvf, .inl (cI, 21000, .inl (vf))), (mvp, .inl (cI, 10, .inl (vp))), (mve, .inl (cI, 10, .inl (ve)))] → va_S A s.heap H locs → ∀ (ls : Array Slot), lv_has ls 7 [(0, .ref am), (2, .int (zv)), (3, .int (x3)), (4, .int (x4)), (5, .int (x5))] → W p l e ({ frames := 6, cells := 0, slots := 0, locals := 133 }) s m args below meth c H locs 0 0 Q (F0 m 195 ls []) := by
    intro k224 hk224 n
    induction n with
    | zero => intro x3 x4 x5 qg qp qu ql qe qb qw qi qj vk vf vp ve hg; rw [f_X5_odds_L195] at hg; cases hg
    | succ n ih =>
      intro x3 x4 x5 qg qp qu ql qe qb qw qi qj vk vf vp ve hg H locs hP hD hS ls hl
      rw [f_X5_odds_L195] at hg
      refine lv_iload hx hb dX5_odds_195 (lv_at hl 4 rfl) ?_
      refine lv_aload_n hx hb dX5_odds_197 rfl (lv_at hl 0 rfl) ?_
      refine va_get (D := D) (ci := 5) (v := .int (qn)) (C := RX5) (T := TX5) (N := 32) hx hb hts inX5 hown hK hP 0 rfl rfl 5 (by decide) (hts (.fieldLink RX5 63 "ScooterFlagsModel" "flags" "I") (by decide +kernel)) (fun _ h9 => h9) rfl dX5_odds_198 ?_
      refine lv_icmp_ge (tgt := 224) hx hb dX5_odds_201 (by decide) (fun c25 => ?_) (fun c25 => ?_)
      · have hg := it hg c25
        exact hk224 x3 x4 qg qp qu ql qe qb qw qi qj vk vf vp ve hg _ _ hP hD hS _ (lv_sub hl [1, 2, 3] rfl)
      · have hg := ie hg c25
        refine lv_aload_n hx hb dX5_odds_204 rfl (lv_at hl 0 rfl) ?_
        refine va_get (D := D) (ci := 5) (v := .ref mvk) (C := RX5) (T := TX5) (N := 32) hx hb hts inX5 hown hK hP 0 rfl rfl 9 (by decide) (hts (.fieldLink RX5 19 "ScooterFlagsModel" "kind" "[I") (by decide +kernel)) (fun _ h9 => h9) rfl dX5_odds_205 ?_
        refine lv_iload hx hb dX5_odds_208 (lv_at hl 4 rfl) ?_
        refine lv_aload_n hx hb dX5_odds_210 rfl (lv_at hl 0 rfl) ?_
        refine va_get (D := D) (ci := 5) (v := .ref mvp) (C := RX5) (T := TX5) (N := 32) hx hb hts inX5 hown hK hP 0 rfl rfl 30 (by decide) (hts (.fieldLink RX5 47 "ScooterFlagsModel" "kept" "[I") (by decide +kernel)) (fun _ h9 => h9) rfl dX5_odds_211 ?_
        refine lv_iload hx hb dX5_odds_214 (lv_at hl 4 rfl) ?_
        obtain ⟨g26, hg⟩ := gxo hg
        refine va_iald hx hb hK hP 5 0 rfl rfl g26 dX5_odds_216 ?_
        refine W.eq (g2 := F0 m 217 ls [.int ((vp x5.toNatClampNeg)), .int (x5), .ref mvk]) rfl ?_
        obtain ⟨g27, hg⟩ := gxo hg
        refine va_iast hx hb hK hP hD hS 1 0 rfl rfl g27 dX5_odds_217 (fun H locs hP hD hS => ?_)
        have hP : va_P D vwCl [(am, .inr (5, [.int (qf), .int (qt), .ref mvs, .ref mvl, .ref mvc, .int (qn), .int (qs), .int (qk), .int (qo), .ref mvk, .ref mvt, .ref mvg, .int (qa), .int (qm), .ref mvh, .ref mvrk, .ref mvrt, .ref mvrg, .int (qg), .int (qp), .int (qu), .int (ql), .int (qe), .int (qb), .int (qw), .ref mvf, .int (qi), .int (qj), .int (qr), .ref mvq, .ref mvp, .ref mve])), (mvk, .inl (cI, 10, .inl ((upd vk x5.toNatClampNeg (vp x5.toNatClampNeg))))), (mvt, .inl (cI, 10, .inl (vt))), (mvg, .inl (cZ, 10, .inl (vg))), (mvf, .inl (cI, 21000, .inl (vf))), (mvp, .inl (cI, 10, .inl (vp))), (mve, .inl (cI, 10, .inl (ve)))] H := hP
        have hD : va_D A [(am, .inr (5, [.int (qf), .int (qt), .ref mvs, .ref mvl, .ref mvc, .int (qn), .int (qs), .int (qk), .int (qo), .ref mvk, .ref mvt, .ref mvg, .int (qa), .int (qm), .ref mvh, .ref mvrk, .ref mvrt, .ref mvrg, .int (qg), .int (qp), .int (qu), .int (ql), .int (qe), .int (qb), .int (qw), .ref mvf, .int (qi), .int (qj), .int (qr), .ref mvq, .ref mvp, .ref mve])), (mvk, .inl (cI, 10, .inl ((upd vk x5.toNatClampNeg (vp x5.toNatClampNeg))))), (mvt, .inl (cI, 10, .inl (vt))), (mvg, .inl (cZ, 10, .inl (vg))), (mvf, .inl (cI, 21000, .inl (vf))), (mvp, .inl (cI, 10, .inl (vp))), (mve, .inl (cI, 10, .inl (ve)))] := hD
        refine lv_iinc (v := (x5 + (1 : Int32))) (lv' := [(5, .int ((x5 + (1 : Int32)))), (0, .ref am), (2, .int (zv)), (3, .int (x3)), (4, .int (x4))]) hx hb dX5_odds_218 hl (k := 4) rfl rfl (by decide) rfl (fun ls hl => ?_)
        refine lv_goto (tgt := 195) hx hb dX5_odds_221 (by decide) ?_
        exact ih x3 x4 (x5 + (1 : Int32)) qg qp qu ql qe qb qw qi qj (upd vk x5.toNatClampNeg (vp x5.toNatClampNeg)) vf vp ve hg _ _ hP hD hS _ (lv_sub hl [1, 2, 3, 4, 0] rfl)
  have hl : lv_has ls 7 [(0, .ref am), (1, .int (zn)), (2, .int (zv))] := hl
  rw [f_X5_odds] at hg
  refine lv_iload_n hx hb dX5_odds_0 rfl (lv_at hl 1 rfl) ?_
  refine lv_iconst (v := (0 : Int32)) hx hb dX5_odds_1 (by decide) ?_
  refine lv_bipush (v := (24 : Int32)) hx hb dX5_odds_2 (by decide) ?_
  obtain ⟨o1, h2, hg⟩ := bd hg
  refine xcSi (As := [.int (zn), .int ((0 : Int32)), .int ((24 : Int32))]) (rest := []) (wc := []) (wr := [(am, .inr (5, [.int (qf), .int (qt), .ref mvs, .ref mvl, .ref mvc, .int (qn), .int (qs), .int (qk), .int (qo), .ref mvk, .ref mvt, .ref mvg, .int (qa), .int (qm), .ref mvh, .ref mvrk, .ref mvrt, .ref mvrg, .int (qg), .int (qp), .int (qu), .int (ql), .int (qe), .int (qb), .int (qw), .ref mvf, .int (qi), .int (qj), .int (qr), .ref mvq, .ref mvp, .ref mve])), (mvk, .inl (cI, 10, .inl (vk))), (mvt, .inl (cI, 10, .inl (vt))), (mvg, .inl (cZ, 10, .inl (vg))), (mvf, .inl (cI, 21000, .inl (vf))), (mvp, .inl (cI, 10, .inl (vp))), (mve, .inl (cI, 10, .inl (ve)))]) ⟨hx, hb, hml, hown, hts⟩ (c_X5_within l D cI cZ cR zn (0 : Int32) (24 : Int32) h2) (cwS 3 hts gX5_odds_X5_within rfl rfl rfl (by decide +kernel) ⟨Nat.le_of_ble_eq_true rfl, Nat.le_of_ble_eq_true rfl⟩) hK hP hD hS hA [] [0, 1, 2, 3, 4, 5, 6] rfl rfl (by decide) (by decide) (by decide) rfl rfl hl.1 (lv_room (Nat.le_of_ble_eq_true rfl)) dX5_odds_4 ⟨Nat.le_of_ble_eq_true rfl, Nat.le_of_ble_eq_true rfl⟩ (fun r u H locs hu hP hD hS => ?_)
  obtain ⟨rfl, rfl⟩ := hu
  have hP : va_P D vwCl [(am, .inr (5, [.int (qf), .int (qt), .ref mvs, .ref mvl, .ref mvc, .int (qn), .int (qs), .int (qk), .int (qo), .ref mvk, .ref mvt, .ref mvg, .int (qa), .int (qm), .ref mvh, .ref mvrk, .ref mvrt, .ref mvrg, .int (qg), .int (qp), .int (qu), .int (ql), .int (qe), .int (qb), .int (qw), .ref mvf, .int (qi), .int (qj), .int (qr), .ref mvq, .ref mvp, .ref mve])), (mvk, .inl (cI, 10, .inl (vk))), (mvt, .inl (cI, 10, .inl (vt))), (mvg, .inl (cZ, 10, .inl (vg))), (mvf, .inl (cI, 21000, .inl (vf))), (mvp, .inl (cI, 10, .inl (vp))), (mve, .inl (cI, 10, .inl (ve)))] H := hP.sub [0, 1, 2, 3, 4, 5, 6] rfl
  have hD : va_D A [(am, .inr (5, [.int (qf), .int (qt), .ref mvs, .ref mvl, .ref mvc, .int (qn), .int (qs), .int (qk), .int (qo), .ref mvk, .ref mvt, .ref mvg, .int (qa), .int (qm), .ref mvh, .ref mvrk, .ref mvrt, .ref mvrg, .int (qg), .int (qp), .int (qu), .int (ql), .int (qe), .int (qb), .int (qw), .ref mvf, .int (qi), .int (qj), .int (qr), .ref mvq, .ref mvp, .ref mve])), (mvk, .inl (cI, 10, .inl (vk))), (mvt, .inl (cI, 10, .inl (vt))), (mvg, .inl (cZ, 10, .inl (vg))), (mvf, .inl (cI, 21000, .inl (vf))), (mvp, .inl (cI, 10, .inl (vp))), (mve, .inl (cI, 10, .inl (ve)))] := hD.sub [0, 1, 2, 3, 4, 5, 6] (by decide) rfl
  refine lv_if_eq (tgt := 26) hx hb dX5_odds_7 (by decide) (fun c3 => ?_) (fun c3 => ?_)
  · have hg := it hg c3
    refine lv_ldc2 (v := (-9223372036854775808 : Int64)) hx hb hown (hts (.constantLong RX5 57 (-9223372036854775808 : Int64)) (by decide +kernel)) dX5_odds_26 ?_
    obtain rfl := Option.some.inj hg
    exact rtl hQ hx hb hr hlocks hK hP hD hS dX5_odds_29 ⟨rfl, rfl⟩
  · have hg := ie hg c3
    refine lv_iload_n hx hb dX5_odds_10 rfl (lv_at hl 2 rfl) ?_
    refine lv_iconst (v := (0 : Int32)) hx hb dX5_odds_11 (by decide) ?_
    refine lv_iconst (v := (1 : Int32)) hx hb dX5_odds_12 (by decide) ?_
    obtain ⟨o4, h5, hg⟩ := bd hg
    refine xcSi (As := [.int (zv), .int ((0 : Int32)), .int ((1 : Int32))]) (rest := []) (wc := []) (wr := [(am, .inr (5, [.int (qf), .int (qt), .ref mvs, .ref mvl, .ref mvc, .int (qn), .int (qs), .int (qk), .int (qo), .ref mvk, .ref mvt, .ref mvg, .int (qa), .int (qm), .ref mvh, .ref mvrk, .ref mvrt, .ref mvrg, .int (qg), .int (qp), .int (qu), .int (ql), .int (qe), .int (qb), .int (qw), .ref mvf, .int (qi), .int (qj), .int (qr), .ref mvq, .ref mvp, .ref mve])), (mvk, .inl (cI, 10, .inl (vk))), (mvt, .inl (cI, 10, .inl (vt))), (mvg, .inl (cZ, 10, .inl (vg))), (mvf, .inl (cI, 21000, .inl (vf))), (mvp, .inl (cI, 10, .inl (vp))), (mve, .inl (cI, 10, .inl (ve)))]) ⟨hx, hb, hml, hown, hts⟩ (c_X5_within l D cI cZ cR zv (0 : Int32) (1 : Int32) h5) (cwS 3 hts gX5_odds_X5_within rfl rfl rfl (by decide +kernel) ⟨Nat.le_of_ble_eq_true rfl, Nat.le_of_ble_eq_true rfl⟩) hK hP hD hS hA [] [0, 1, 2, 3, 4, 5, 6] rfl rfl (by decide) (by decide) (by decide) rfl rfl hl.1 (lv_room (Nat.le_of_ble_eq_true rfl)) dX5_odds_13 ⟨Nat.le_of_ble_eq_true rfl, Nat.le_of_ble_eq_true rfl⟩ (fun r u H locs hu hP hD hS => ?_)
    obtain ⟨rfl, rfl⟩ := hu
    have hP : va_P D vwCl [(am, .inr (5, [.int (qf), .int (qt), .ref mvs, .ref mvl, .ref mvc, .int (qn), .int (qs), .int (qk), .int (qo), .ref mvk, .ref mvt, .ref mvg, .int (qa), .int (qm), .ref mvh, .ref mvrk, .ref mvrt, .ref mvrg, .int (qg), .int (qp), .int (qu), .int (ql), .int (qe), .int (qb), .int (qw), .ref mvf, .int (qi), .int (qj), .int (qr), .ref mvq, .ref mvp, .ref mve])), (mvk, .inl (cI, 10, .inl (vk))), (mvt, .inl (cI, 10, .inl (vt))), (mvg, .inl (cZ, 10, .inl (vg))), (mvf, .inl (cI, 21000, .inl (vf))), (mvp, .inl (cI, 10, .inl (vp))), (mve, .inl (cI, 10, .inl (ve)))] H := hP.sub [0, 1, 2, 3, 4, 5, 6] rfl
    have hD : va_D A [(am, .inr (5, [.int (qf), .int (qt), .ref mvs, .ref mvl, .ref mvc, .int (qn), .int (qs), .int (qk), .int (qo), .ref mvk, .ref mvt, .ref mvg, .int (qa), .int (qm), .ref mvh, .ref mvrk, .ref mvrt, .ref mvrg, .int (qg), .int (qp), .int (qu), .int (ql), .int (qe), .int (qb), .int (qw), .ref mvf, .int (qi), .int (qj), .int (qr), .ref mvq, .ref mvp, .ref mve])), (mvk, .inl (cI, 10, .inl (vk))), (mvt, .inl (cI, 10, .inl (vt))), (mvg, .inl (cZ, 10, .inl (vg))), (mvf, .inl (cI, 21000, .inl (vf))), (mvp, .inl (cI, 10, .inl (vp))), (mve, .inl (cI, 10, .inl (ve)))] := hD.sub [0, 1, 2, 3, 4, 5, 6] (by decide) rfl
    refine lv_if_eq (tgt := 26) hx hb dX5_odds_16 (by decide) (fun c6 => ?_) (fun c6 => ?_)
    · have hg := it hg c6
      refine lv_ldc2 (v := (-9223372036854775808 : Int64)) hx hb hown (hts (.constantLong RX5 57 (-9223372036854775808 : Int64)) (by decide +kernel)) dX5_odds_26 ?_
      obtain rfl := Option.some.inj hg
      exact rtl hQ hx hb hr hlocks hK hP hD hS dX5_odds_29 ⟨rfl, rfl⟩
    · have hg := ie hg c6
      refine lv_aload_n hx hb dX5_odds_19 rfl (lv_at hl 0 rfl) ?_
      refine va_get (D := D) (ci := 5) (v := .int (qn)) (C := RX5) (T := TX5) (N := 32) hx hb hts inX5 hown hK hP 0 rfl rfl 5 (by decide) (hts (.fieldLink RX5 63 "ScooterFlagsModel" "flags" "I") (by decide +kernel)) (fun _ h9 => h9) rfl dX5_odds_20 ?_
      refine lv_if_ne (tgt := 30) hx hb dX5_odds_23 (by decide) (fun c7 => ?_) (fun c7 => ?_)
      · have hg := ie hg c7
        refine lv_iconst (v := (0 : Int32)) hx hb dX5_odds_30 (by decide) ?_
        refine lv_istore_n (lv' := [(3, .int ((0 : Int32))), (0, .ref am), (1, .int (zn)), (2, .int (zv))]) hx hb dX5_odds_31 rfl hl (by decide) rfl (fun ls hl => ?_)
        refine lv_iconst (v := (0 : Int32)) hx hb dX5_odds_32 (by decide) ?_
        refine lv_istore (lv' := [(4, .int ((0 : Int32))), (3, .int ((0 : Int32))), (0, .ref am), (1, .int (zn)), (2, .int (zv))]) hx hb dX5_odds_33 hl (by decide) rfl (fun ls hl => ?_)
        refine lp_35 _ ?_ 100 (0 : Int32) (0 : Int32) qg qp qu ql qe qb qw qi qj vk vf vp ve hg _ _ hP hD hS _ (lv_sub hl [2, 3, 4, 1, 0] rfl)
        · intro x3 qg qp qu ql qe qb qw qi qj vk vf vp ve hg H locs hP hD hS ls hl
          refine lv_iload_n hx hb dX5_odds_91 rfl (lv_at hl 3 rfl) ?_
          refine lv_iconst (v := (4 : Int32)) hx hb dX5_odds_92 (by decide) ?_
          refine lv_icmp_le (tgt := 100) hx hb dX5_odds_93 (by decide) (fun c14 => ?_) (fun c14 => ?_)
          · have hg := it hg c14
            refine lv_iconst (v := (0 : Int32)) hx hb dX5_odds_100 (by decide) ?_
            refine lv_istore (lv' := [(4, .int ((0 : Int32))), (0, .ref am), (1, .int (zn)), (2, .int (zv)), (3, .int (x3))]) hx hb dX5_odds_101 hl (by decide) rfl (fun ls hl => ?_)
            refine lv_iconst (v := (0 : Int32)) hx hb dX5_odds_103 (by decide) ?_
            refine lv_istore (lv' := [(5, .int ((0 : Int32))), (4, .int ((0 : Int32))), (0, .ref am), (1, .int (zn)), (2, .int (zv)), (3, .int (x3))]) hx hb dX5_odds_104 hl (by decide) rfl (fun ls hl => ?_)
            refine lp_106 _ ?_ 100 x3 (0 : Int32) (0 : Int32) qg qp qu ql qe qb qw qi qj vk vf vp ve hg _ _ hP hD hS _ (lv_sub hl [2, 3, 4, 5, 1, 0] rfl)
            · intro x3 x4 qg qp qu ql qe qb qw qi qj vk vf vp ve hg H locs hP hD hS ls hl
              refine lv_iconst (v := (0 : Int32)) hx hb dX5_odds_192 (by decide) ?_
              refine lv_istore (lv' := [(5, .int ((0 : Int32))), (0, .ref am), (2, .int (zv)), (3, .int (x3)), (4, .int (x4))]) hx hb dX5_odds_193 hl (by decide) rfl (fun ls hl => ?_)
              refine lp_195 _ ?_ 100 x3 x4 (0 : Int32) qg qp qu ql qe qb qw qi qj vk vf vp ve hg _ _ hP hD hS _ (lv_sub hl [1, 2, 3, 4, 0] rfl)
              · intro x3 x4 qg qp qu ql qe qb qw qi qj vk vf vp ve hg H locs hP hD hS ls hl
                refine lv_iload hx hb dX5_odds_224 (lv_at hl 2 rfl) ?_
                refine lv_i2l (v := (x4).toInt64) hx hb dX5_odds_226 rfl ?_
                refine lv_lconst (v := (1 : Int64)) hx hb dX5_odds_227 (by decide) ?_
                refine lv_iload_n hx hb dX5_odds_228 rfl (lv_at hl 1 rfl) ?_
                refine lv_lshl (v := ((1 : Int64) <<< ((x3).toInt64 &&& 63))) hx hb dX5_odds_229 rfl ?_
                refine lv_iload_n hx hb dX5_odds_230 rfl (lv_at hl 0 rfl) ?_
                obtain ⟨o28, h29, hg⟩ := bd hg
                refine xcSl (As := [.long ((x4).toInt64), .long (((1 : Int64) <<< ((x3).toInt64 &&& 63))), .int (zv)]) (rest := []) (wc := []) (wr := [(am, .inr (5, [.int (qf), .int (qt), .ref mvs, .ref mvl, .ref mvc, .int (qn), .int (qs), .int (qk), .int (qo), .ref mvk, .ref mvt, .ref mvg, .int (qa), .int (qm), .ref mvh, .ref mvrk, .ref mvrt, .ref mvrg, .int (qg), .int (qp), .int (qu), .int (ql), .int (qe), .int (qb), .int (qw), .ref mvf, .int (qi), .int (qj), .int (qr), .ref mvq, .ref mvp, .ref mve])), (mvk, .inl (cI, 10, .inl (vk))), (mvt, .inl (cI, 10, .inl (vt))), (mvg, .inl (cZ, 10, .inl (vg))), (mvf, .inl (cI, 21000, .inl (vf))), (mvp, .inl (cI, 10, .inl (vp))), (mve, .inl (cI, 10, .inl (ve)))]) ⟨hx, hb, hml, hown, hts⟩ (c_X5_inLeastTerms l D cI cZ cR ((x4).toInt64) ((1 : Int64) <<< ((x3).toInt64 &&& 63)) zv h29) (cwS 3 hts gX5_odds_X5_inLeastTerms rfl rfl rfl (by decide +kernel) ⟨Nat.le_of_ble_eq_true rfl, Nat.le_of_ble_eq_true rfl⟩) hK hP hD hS hA [] [0, 1, 2, 3, 4, 5, 6] rfl rfl (by decide) (by decide) (by decide) rfl rfl hl.1 (lv_room (Nat.le_of_ble_eq_true rfl)) dX5_odds_231 ⟨Nat.le_of_ble_eq_true rfl, Nat.le_of_ble_eq_true rfl⟩ (fun r u H locs hu hP hD hS => ?_)
                obtain ⟨rfl, rfl⟩ := hu
                have hP : va_P D vwCl [(am, .inr (5, [.int (qf), .int (qt), .ref mvs, .ref mvl, .ref mvc, .int (qn), .int (qs), .int (qk), .int (qo), .ref mvk, .ref mvt, .ref mvg, .int (qa), .int (qm), .ref mvh, .ref mvrk, .ref mvrt, .ref mvrg, .int (qg), .int (qp), .int (qu), .int (ql), .int (qe), .int (qb), .int (qw), .ref mvf, .int (qi), .int (qj), .int (qr), .ref mvq, .ref mvp, .ref mve])), (mvk, .inl (cI, 10, .inl (vk))), (mvt, .inl (cI, 10, .inl (vt))), (mvg, .inl (cZ, 10, .inl (vg))), (mvf, .inl (cI, 21000, .inl (vf))), (mvp, .inl (cI, 10, .inl (vp))), (mve, .inl (cI, 10, .inl (ve)))] H := hP.sub [0, 1, 2, 3, 4, 5, 6] rfl
                have hD : va_D A [(am, .inr (5, [.int (qf), .int (qt), .ref mvs, .ref mvl, .ref mvc, .int (qn), .int (qs), .int (qk), .int (qo), .ref mvk, .ref mvt, .ref mvg, .int (qa), .int (qm), .ref mvh, .ref mvrk, .ref mvrt, .ref mvrg, .int (qg), .int (qp), .int (qu), .int (ql), .int (qe), .int (qb), .int (qw), .ref mvf, .int (qi), .int (qj), .int (qr), .ref mvq, .ref mvp, .ref mve])), (mvk, .inl (cI, 10, .inl (vk))), (mvt, .inl (cI, 10, .inl (vt))), (mvg, .inl (cZ, 10, .inl (vg))), (mvf, .inl (cI, 21000, .inl (vf))), (mvp, .inl (cI, 10, .inl (vp))), (mve, .inl (cI, 10, .inl (ve)))] := hD.sub [0, 1, 2, 3, 4, 5, 6] (by decide) rfl
                obtain rfl := Option.some.inj hg
                exact rtl hQ hx hb hr hlocks hK hP hD hS dX5_odds_234 ⟨rfl, rfl⟩
          · have hg := ie hg c14
            refine lv_ldc2 (v := (-9223372036854775808 : Int64)) hx hb hown (hts (.constantLong RX5 57 (-9223372036854775808 : Int64)) (by decide +kernel)) dX5_odds_96 ?_
            obtain rfl := Option.some.inj hg
            exact rtl hQ hx hb hr hlocks hK hP hD hS dX5_odds_99 ⟨rfl, rfl⟩
      · have hg := it hg c7
        refine lv_ldc2 (v := (-9223372036854775808 : Int64)) hx hb hown (hts (.constantLong RX5 57 (-9223372036854775808 : Int64)) (by decide +kernel)) dX5_odds_26 ?_
        obtain rfl := Option.some.inj hg
        exact rtl hQ hx hb hr hlocks hK hP hD hS dX5_odds_29 ⟨rfl, rfl⟩
def f_X5_sheet_L57 (zs : Int32) (k83 : Int32 → (Nat → Int32) → (Nat → Int32) → (Nat → Int32) → Option (Int32 × Int32 × (Nat → Int32) × (Nat → Int32) × (Nat → Int32))) : Nat → Int32 → Int32 → (Nat → Int32) → (Nat → Int32) → (Nat → Int32) → Option (Int32 × Int32 × (Nat → Int32) × (Nat → Int32) × (Nat → Int32))
  | 0, _, _, _, _, _ => none
  | n + 1, x4, qf, vs, vl, vc => if (60 : Int32) ≤ x4 then (k83 qf vs vl vc) else (gx (((60 : Int32) * zs) + x4) 240 (f_X5_sheet_L57 zs k83 n (x4 + (1 : Int32)) qf vs vl (upd vc (((60 : Int32) * zs) + x4).toNatClampNeg (0 : Int32))))
def f_X5_sheet (qf : Int32) (vs : Nat → Int32) (vl : Nat → Int32) (vc : Nat → Int32) (zs : Int32) (zl : Int32) (zn : Int32) : Option (Int32 × Int32 × (Nat → Int32) × (Nat → Int32) × (Nat → Int32)) :=
  (f_X5_isSheet zs).bind (fun o1 => if o1 = 0 then (some ((-1 : Int32), (0 : Int32), vs, vl, vc)) else ((f_X5_isSort zl).bind (fun o4 => if o4 = 0 then (some ((-2 : Int32), (0 : Int32), vs, vl, vc)) else (if zn ≤ (60 : Int32) then (if 0 ≤ zn then (gx zs 4 (gx zs 4 (f_X5_sheet_L57 zs (fun (qf : Int32) (vs : Nat → Int32) (vl : Nat → Int32) (vc : Nat → Int32) => some ((1 : Int32), qf, vs, vl, vc)) 100 (0 : Int32) (0 : Int32) (upd vs zs.toNatClampNeg zl) (upd vl zs.toNatClampNeg zn) vc))) else ((f_X5_fails (4 : Int32)).bind (fun o13 => some (o13.1, o13.2, vs, vl, vc)))) else (some ((-2 : Int32), (0 : Int32), vs, vl, vc))))))
set_option maxHeartbeats 4000000 in
set_option maxRecDepth 100000 in
theorem c_X5_sheet (l : Launch) (D : va_G) (cI cZ cR : ClassId) (am : Nat) (mvs : Nat) (mvl : Nat) (mvc : Nat) (mvk : Nat) (mvt : Nat) (mvg : Nat) (mvh : Nat) (mvrk : Nat) (mvrt : Nat) (mvrg : Nat) (mvf : Nat) (mvq : Nat) (mvp : Nat) (mve : Nat) (qf : Int32) (qt : Int32) (qn : Int32) (qs : Int32) (qk : Int32) (qo : Int32) (qa : Int32) (qm : Int32) (qg : Int32) (qp : Int32) (qu : Int32) (ql : Int32) (qe : Int32) (qb : Int32) (qw : Int32) (qi : Int32) (qj : Int32) (qr : Int32) (vs : Nat → Int32) (vl : Nat → Int32) (vc : Nat → Int32) (zs : Int32) (zl : Int32) (zn : Int32) {res : Int32 × Int32 × (Nat → Int32) × (Nat → Int32) × (Nat → Int32)} (hg : f_X5_sheet qf vs vl vc zs zl zn = some res) : MI l yX5_sheet wsX5_sheet ({ frames := 2, cells := 0, slots := 0, locals := 42 }) D (T3 cI cZ cR) [(am, .inr (5, [.int (qf), .int (qt), .ref mvs, .ref mvl, .ref mvc, .int (qn), .int (qs), .int (qk), .int (qo), .ref mvk, .ref mvt, .ref mvg, .int (qa), .int (qm), .ref mvh, .ref mvrk, .ref mvrt, .ref mvrg, .int (qg), .int (qp), .int (qu), .int (ql), .int (qe), .int (qb), .int (qw), .ref mvf, .int (qi), .int (qj), .int (qr), .ref mvq, .ref mvp, .ref mve])), (mvs, .inl (cI, 4, .inl (vs))), (mvl, .inl (cI, 4, .inl (vl))), (mvc, .inl (cI, 240, .inl (vc)))] [.ref am, .int (zs), .int (zl), .int (zn)] (fun r u => res.1 = r ∧ u = [(am, .inr (5, [.int (res.2.1), .int (qt), .ref mvs, .ref mvl, .ref mvc, .int (qn), .int (qs), .int (qk), .int (qo), .ref mvk, .ref mvt, .ref mvg, .int (qa), .int (qm), .ref mvh, .ref mvrk, .ref mvrt, .ref mvrg, .int (qg), .int (qp), .int (qu), .int (ql), .int (qe), .int (qb), .int (qw), .ref mvf, .int (qi), .int (qj), .int (qr), .ref mvq, .ref mvp, .ref mve])), (mvs, .inl (cI, 4, .inl (res.2.2.1))), (mvl, .inl (cI, 4, .inl (res.2.2.2.1))), (mvc, .inl (cI, 240, .inl (res.2.2.2.2)))]) := by
  refine entI (Rn := RX5) (by decide +kernel) rfl rfl (Nat.le_of_ble_eq_true rfl) (fun p e s m args below meth c A Q hx hb hr hml hts hown hlocks hA hP hD hK hS ls hl hQ => ?_)
  have inX5 : ∀ w ∈ u_ws RX5 TX5 32, w ∈ wsX5_sheet := by decide +kernel
  have lp_57 : ∀ (k83 : Int32 → (Nat → Int32) → (Nat → Int32) → (Nat → Int32) → Option (Int32 × Int32 × (Nat → Int32) × (Nat → Int32) × (Nat → Int32))) (hk83 : ∀ (qf : Int32) (vs : Nat → Int32) (vl : Nat → Int32) (vc : Nat → Int32), k83 qf vs vl vc = some res → ∀ (H : Heap) (locs : List Loc), va_P D vwCl [(am, .inr (5, [.int (qf), .int (qt), .ref mvs, .ref mvl, .ref mvc, .int (qn), .int (qs), .int (qk), .int (qo), .ref mvk, .ref mvt, .ref mvg, .int (qa), .int (qm), .ref mvh, .ref mvrk, .ref mvrt, .ref mvrg, .int (qg), .int (qp), .int (qu), .int (ql), .int (qe), .int (qb), .int (qw), .ref mvf, .int (qi), .int (qj), .int (qr), .ref mvq, .ref mvp, .ref mve])), (mvs, .inl (cI, 4, .inl (vs))), (mvl, .inl (cI, 4, .inl (vl))), (mvc, .inl (cI, 240, .inl (vc)))] H → va_D A [(am, .inr (5, [.int (qf), .int (qt), .ref mvs, .ref mvl, .ref mvc, .int (qn), .int (qs), .int (qk), .int (qo), .ref mvk, .ref mvt, .ref mvg, .int (qa), .int (qm), .ref mvh, .ref mvrk, .ref mvrt, .ref mvrg, .int (qg), .int (qp), .int (qu), .int (ql), .int (qe), .int (qb), .int (qw), .ref mvf, .int (qi), .int (qj), .int (qr), .ref mvq, .ref mvp, .ref mve])), (mvs, .inl (cI, 4, .inl (vs))), (mvl, .inl (cI, 4, .inl (vl))), (mvc, .inl (cI, 240, .inl (vc)))] → va_S A s.heap H locs → ∀ (ls : Array Slot), lv_has ls 5 [] → W p l e ({ frames := 2, cells := 0, slots := 0, locals := 42 }) s m args below meth c H locs 0 0 Q (F0 m 83 ls [])) (n : Nat) (x4 : Int32) (qf : Int32) (vs : Nat → Int32) (vl : Nat → Int32) (vc : Nat → Int32), f_X5_sheet_L57 zs k83 n x4 qf vs vl vc = some res → ∀ (H : Heap) (locs : List Loc), va_P D vwCl [(am, .inr (5, [.int (qf), .int (qt), .ref mvs, .ref mvl, .ref mvc, .int (qn), .int (qs), .int (qk), .int (qo), .ref mvk, .ref mvt, .ref mvg, .int (qa), .int (qm), .ref mvh, .ref mvrk, .ref mvrt, .ref mvrg, .int (qg), .int (qp), .int (qu), .int (ql), .int (qe), .int (qb), .int (qw), .ref mvf, .int (qi), .int (qj), .int (qr), .ref mvq, .ref mvp, .ref mve])), (mvs, .inl (cI, 4, .inl (vs))), (mvl, .inl (cI, 4, .inl (vl))), (mvc, .inl (cI, 240, .inl (vc)))] H → va_D A [(am, .inr (5, [.int (qf), .int (qt), .ref mvs, .ref mvl, .ref mvc, .int (qn), .int (qs), .int (qk), .int (qo), .ref mvk, .ref mvt, .ref mvg, .int (qa), .int (qm), .ref mvh, .ref mvrk, .ref mvrt, .ref mvrg, .int (qg), .int (qp), .int (qu), .int (ql), .int (qe), .int (qb), .int (qw), .ref mvf, .int (qi), .int (qj), .int (qr), .ref mvq, .ref mvp, .ref mve])), (mvs, .inl (cI, 4, .inl (vs))), (mvl, .inl (cI, 4, .inl (vl))), (mvc, .inl (cI, 240, .inl (vc)))] → va_S A s.heap H locs → ∀ (ls : Array Slot), lv_has ls 5 [(0, .ref am), (1, .int (zs)), (4, .int (x4))] → W p l e ({ frames := 2, cells := 0, slots := 0, locals := 42 }) s m args below meth c H locs 0 0 Q (F0 m 57 ls []) := by
    intro k83 hk83 n
    induction n with
    | zero => intro x4 qf vs vl vc hg; rw [f_X5_sheet_L57] at hg; cases hg
    | succ n ih =>
      intro x4 qf vs vl vc hg H locs hP hD hS ls hl
      rw [f_X5_sheet_L57] at hg
      refine lv_iload hx hb dX5_sheet_57 (lv_at hl 2 rfl) ?_
      refine lv_bipush (v := (60 : Int32)) hx hb dX5_sheet_59 (by decide) ?_
      refine lv_icmp_ge (tgt := 83) hx hb dX5_sheet_61 (by decide) (fun c11 => ?_) (fun c11 => ?_)
      · have hg := it hg c11
        exact hk83 qf vs vl vc hg _ _ hP hD hS _ (lv_sub hl [] rfl)
      · have hg := ie hg c11
        refine lv_aload_n hx hb dX5_sheet_64 rfl (lv_at hl 0 rfl) ?_
        refine va_get (D := D) (ci := 5) (v := .ref mvc) (C := RX5) (T := TX5) (N := 32) hx hb hts inX5 hown hK hP 0 rfl rfl 4 (by decide) (hts (.fieldLink RX5 16 "ScooterFlagsModel" "cells" "[I") (by decide +kernel)) (fun _ h9 => h9) rfl dX5_sheet_65 ?_
        refine lv_bipush (v := (60 : Int32)) hx hb dX5_sheet_68 (by decide) ?_
        refine lv_iload_n hx hb dX5_sheet_70 rfl (lv_at hl 1 rfl) ?_
        refine lv_imul hx hb dX5_sheet_71 ?_
        refine lv_iload hx hb dX5_sheet_72 (lv_at hl 2 rfl) ?_
        refine lv_iadd hx hb dX5_sheet_74 ?_
        refine lv_iconst (v := (0 : Int32)) hx hb dX5_sheet_75 (by decide) ?_
        obtain ⟨g12, hg⟩ := gxo hg
        refine va_iast hx hb hK hP hD hS 3 0 rfl rfl g12 dX5_sheet_76 (fun H locs hP hD hS => ?_)
        have hP : va_P D vwCl [(am, .inr (5, [.int (qf), .int (qt), .ref mvs, .ref mvl, .ref mvc, .int (qn), .int (qs), .int (qk), .int (qo), .ref mvk, .ref mvt, .ref mvg, .int (qa), .int (qm), .ref mvh, .ref mvrk, .ref mvrt, .ref mvrg, .int (qg), .int (qp), .int (qu), .int (ql), .int (qe), .int (qb), .int (qw), .ref mvf, .int (qi), .int (qj), .int (qr), .ref mvq, .ref mvp, .ref mve])), (mvs, .inl (cI, 4, .inl (vs))), (mvl, .inl (cI, 4, .inl (vl))), (mvc, .inl (cI, 240, .inl ((upd vc (((60 : Int32) * zs) + x4).toNatClampNeg (0 : Int32)))))] H := hP
        have hD : va_D A [(am, .inr (5, [.int (qf), .int (qt), .ref mvs, .ref mvl, .ref mvc, .int (qn), .int (qs), .int (qk), .int (qo), .ref mvk, .ref mvt, .ref mvg, .int (qa), .int (qm), .ref mvh, .ref mvrk, .ref mvrt, .ref mvrg, .int (qg), .int (qp), .int (qu), .int (ql), .int (qe), .int (qb), .int (qw), .ref mvf, .int (qi), .int (qj), .int (qr), .ref mvq, .ref mvp, .ref mve])), (mvs, .inl (cI, 4, .inl (vs))), (mvl, .inl (cI, 4, .inl (vl))), (mvc, .inl (cI, 240, .inl ((upd vc (((60 : Int32) * zs) + x4).toNatClampNeg (0 : Int32)))))] := hD
        refine lv_iinc (v := (x4 + (1 : Int32))) (lv' := [(4, .int ((x4 + (1 : Int32)))), (0, .ref am), (1, .int (zs))]) hx hb dX5_sheet_77 hl (k := 2) rfl rfl (by decide) rfl (fun ls hl => ?_)
        refine lv_goto (tgt := 57) hx hb dX5_sheet_80 (by decide) ?_
        exact ih (x4 + (1 : Int32)) qf vs vl (upd vc (((60 : Int32) * zs) + x4).toNatClampNeg (0 : Int32)) hg _ _ hP hD hS _ (lv_sub hl [1, 2, 0] rfl)
  have hl : lv_has ls 5 [(0, .ref am), (1, .int (zs)), (2, .int (zl)), (3, .int (zn))] := hl
  rw [f_X5_sheet] at hg
  refine lv_aload_n hx hb dX5_sheet_0 rfl (lv_at hl 0 rfl) ?_
  refine lv_iconst (v := (0 : Int32)) hx hb dX5_sheet_1 (by decide) ?_
  refine va_put (D := D) (ci := 5) (v := .int ((0 : Int32))) (ty := .int) (C := RX5) (T := TX5) (N := 32) hx hb hts inX5 tyX5 tyX5_ok nmX5 hown hK hP hD hS 0 rfl rfl 0 (by decide) (hts (.fieldLink RX5 53 "ScooterFlagsModel" "fault" "I") (by decide +kernel)) (fun _ h9 => h9) rfl (by decide +kernel) rfl rfl (Nat.le_of_ble_eq_true rfl) dX5_sheet_2 (fun H locs hP hD hS => ?_)
  have hP : va_P D vwCl [(am, .inr (5, [.int ((0 : Int32)), .int (qt), .ref mvs, .ref mvl, .ref mvc, .int (qn), .int (qs), .int (qk), .int (qo), .ref mvk, .ref mvt, .ref mvg, .int (qa), .int (qm), .ref mvh, .ref mvrk, .ref mvrt, .ref mvrg, .int (qg), .int (qp), .int (qu), .int (ql), .int (qe), .int (qb), .int (qw), .ref mvf, .int (qi), .int (qj), .int (qr), .ref mvq, .ref mvp, .ref mve])), (mvs, .inl (cI, 4, .inl (vs))), (mvl, .inl (cI, 4, .inl (vl))), (mvc, .inl (cI, 240, .inl (vc)))] H := hP
  have hD : va_D A [(am, .inr (5, [.int ((0 : Int32)), .int (qt), .ref mvs, .ref mvl, .ref mvc, .int (qn), .int (qs), .int (qk), .int (qo), .ref mvk, .ref mvt, .ref mvg, .int (qa), .int (qm), .ref mvh, .ref mvrk, .ref mvrt, .ref mvrg, .int (qg), .int (qp), .int (qu), .int (ql), .int (qe), .int (qb), .int (qw), .ref mvf, .int (qi), .int (qj), .int (qr), .ref mvq, .ref mvp, .ref mve])), (mvs, .inl (cI, 4, .inl (vs))), (mvl, .inl (cI, 4, .inl (vl))), (mvc, .inl (cI, 240, .inl (vc)))] := hD
  refine lv_iload_n hx hb dX5_sheet_5 rfl (lv_at hl 1 rfl) ?_
  obtain ⟨o1, h2, hg⟩ := bd hg
  refine xcSi (As := [.int (zs)]) (rest := []) (wc := []) (wr := [(am, .inr (5, [.int ((0 : Int32)), .int (qt), .ref mvs, .ref mvl, .ref mvc, .int (qn), .int (qs), .int (qk), .int (qo), .ref mvk, .ref mvt, .ref mvg, .int (qa), .int (qm), .ref mvh, .ref mvrk, .ref mvrt, .ref mvrg, .int (qg), .int (qp), .int (qu), .int (ql), .int (qe), .int (qb), .int (qw), .ref mvf, .int (qi), .int (qj), .int (qr), .ref mvq, .ref mvp, .ref mve])), (mvs, .inl (cI, 4, .inl (vs))), (mvl, .inl (cI, 4, .inl (vl))), (mvc, .inl (cI, 240, .inl (vc)))]) ⟨hx, hb, hml, hown, hts⟩ (c_X5_isSheet l D cI cZ cR zs h2) (cwS 1 hts gX5_sheet_X5_isSheet rfl rfl rfl (by decide +kernel) ⟨Nat.le_of_ble_eq_true rfl, Nat.le_of_ble_eq_true rfl⟩) hK hP hD hS hA [] [0, 1, 2, 3] rfl rfl (by decide) (by decide) (by decide) rfl rfl hl.1 (lv_room (Nat.le_of_ble_eq_true rfl)) dX5_sheet_6 ⟨Nat.le_of_ble_eq_true rfl, Nat.le_of_ble_eq_true rfl⟩ (fun r u H locs hu hP hD hS => ?_)
  obtain ⟨rfl, rfl⟩ := hu
  have hP : va_P D vwCl [(am, .inr (5, [.int ((0 : Int32)), .int (qt), .ref mvs, .ref mvl, .ref mvc, .int (qn), .int (qs), .int (qk), .int (qo), .ref mvk, .ref mvt, .ref mvg, .int (qa), .int (qm), .ref mvh, .ref mvrk, .ref mvrt, .ref mvrg, .int (qg), .int (qp), .int (qu), .int (ql), .int (qe), .int (qb), .int (qw), .ref mvf, .int (qi), .int (qj), .int (qr), .ref mvq, .ref mvp, .ref mve])), (mvs, .inl (cI, 4, .inl (vs))), (mvl, .inl (cI, 4, .inl (vl))), (mvc, .inl (cI, 240, .inl (vc)))] H := hP.sub [0, 1, 2, 3] rfl
  have hD : va_D A [(am, .inr (5, [.int ((0 : Int32)), .int (qt), .ref mvs, .ref mvl, .ref mvc, .int (qn), .int (qs), .int (qk), .int (qo), .ref mvk, .ref mvt, .ref mvg, .int (qa), .int (qm), .ref mvh, .ref mvrk, .ref mvrt, .ref mvrg, .int (qg), .int (qp), .int (qu), .int (ql), .int (qe), .int (qb), .int (qw), .ref mvf, .int (qi), .int (qj), .int (qr), .ref mvq, .ref mvp, .ref mve])), (mvs, .inl (cI, 4, .inl (vs))), (mvl, .inl (cI, 4, .inl (vl))), (mvc, .inl (cI, 240, .inl (vc)))] := hD.sub [0, 1, 2, 3] (by decide) rfl
  refine lv_if_ne (tgt := 14) hx hb dX5_sheet_9 (by decide) (fun c3 => ?_) (fun c3 => ?_)
  · have hg := ie hg c3
    refine lv_iload_n hx hb dX5_sheet_14 rfl (lv_at hl 2 rfl) ?_
    obtain ⟨o4, h5, hg⟩ := bd hg
    refine xcSi (As := [.int (zl)]) (rest := []) (wc := []) (wr := [(am, .inr (5, [.int ((0 : Int32)), .int (qt), .ref mvs, .ref mvl, .ref mvc, .int (qn), .int (qs), .int (qk), .int (qo), .ref mvk, .ref mvt, .ref mvg, .int (qa), .int (qm), .ref mvh, .ref mvrk, .ref mvrt, .ref mvrg, .int (qg), .int (qp), .int (qu), .int (ql), .int (qe), .int (qb), .int (qw), .ref mvf, .int (qi), .int (qj), .int (qr), .ref mvq, .ref mvp, .ref mve])), (mvs, .inl (cI, 4, .inl (vs))), (mvl, .inl (cI, 4, .inl (vl))), (mvc, .inl (cI, 240, .inl (vc)))]) ⟨hx, hb, hml, hown, hts⟩ (c_X5_isSort l D cI cZ cR zl h5) (cwS 1 hts gX5_sheet_X5_isSort rfl rfl rfl (by decide +kernel) ⟨Nat.le_of_ble_eq_true rfl, Nat.le_of_ble_eq_true rfl⟩) hK hP hD hS hA [] [0, 1, 2, 3] rfl rfl (by decide) (by decide) (by decide) rfl rfl hl.1 (lv_room (Nat.le_of_ble_eq_true rfl)) dX5_sheet_15 ⟨Nat.le_of_ble_eq_true rfl, Nat.le_of_ble_eq_true rfl⟩ (fun r u H locs hu hP hD hS => ?_)
    obtain ⟨rfl, rfl⟩ := hu
    have hP : va_P D vwCl [(am, .inr (5, [.int ((0 : Int32)), .int (qt), .ref mvs, .ref mvl, .ref mvc, .int (qn), .int (qs), .int (qk), .int (qo), .ref mvk, .ref mvt, .ref mvg, .int (qa), .int (qm), .ref mvh, .ref mvrk, .ref mvrt, .ref mvrg, .int (qg), .int (qp), .int (qu), .int (ql), .int (qe), .int (qb), .int (qw), .ref mvf, .int (qi), .int (qj), .int (qr), .ref mvq, .ref mvp, .ref mve])), (mvs, .inl (cI, 4, .inl (vs))), (mvl, .inl (cI, 4, .inl (vl))), (mvc, .inl (cI, 240, .inl (vc)))] H := hP.sub [0, 1, 2, 3] rfl
    have hD : va_D A [(am, .inr (5, [.int ((0 : Int32)), .int (qt), .ref mvs, .ref mvl, .ref mvc, .int (qn), .int (qs), .int (qk), .int (qo), .ref mvk, .ref mvt, .ref mvg, .int (qa), .int (qm), .ref mvh, .ref mvrk, .ref mvrt, .ref mvrg, .int (qg), .int (qp), .int (qu), .int (ql), .int (qe), .int (qb), .int (qw), .ref mvf, .int (qi), .int (qj), .int (qr), .ref mvq, .ref mvp, .ref mve])), (mvs, .inl (cI, 4, .inl (vs))), (mvl, .inl (cI, 4, .inl (vl))), (mvc, .inl (cI, 240, .inl (vc)))] := hD.sub [0, 1, 2, 3] (by decide) rfl
    refine lv_if_eq (tgt := 27) hx hb dX5_sheet_18 (by decide) (fun c6 => ?_) (fun c6 => ?_)
    · have hg := it hg c6
      refine lv_bipush (v := (-2 : Int32)) hx hb dX5_sheet_27 (by decide) ?_
      obtain rfl := Option.some.inj hg
      exact rti hQ hx hb hr hlocks hK hP hD hS dX5_sheet_29 ⟨rfl, rfl⟩
    · have hg := ie hg c6
      refine lv_iload_n hx hb dX5_sheet_21 rfl (lv_at hl 3 rfl) ?_
      refine lv_bipush (v := (60 : Int32)) hx hb dX5_sheet_22 (by decide) ?_
      refine lv_icmp_le (tgt := 30) hx hb dX5_sheet_24 (by decide) (fun c7 => ?_) (fun c7 => ?_)
      · have hg := it hg c7
        refine lv_iload_n hx hb dX5_sheet_30 rfl (lv_at hl 3 rfl) ?_
        refine lv_if_ge (tgt := 40) hx hb dX5_sheet_31 (by decide) (fun c8 => ?_) (fun c8 => ?_)
        · have hg := it hg c8
          refine lv_aload_n hx hb dX5_sheet_40 rfl (lv_at hl 0 rfl) ?_
          refine va_get (D := D) (ci := 5) (v := .ref mvs) (C := RX5) (T := TX5) (N := 32) hx hb hts inX5 hown hK hP 0 rfl rfl 2 (by decide) (hts (.fieldLink RX5 9 "ScooterFlagsModel" "sorts" "[I") (by decide +kernel)) (fun _ h9 => h9) rfl dX5_sheet_41 ?_
          refine lv_iload_n hx hb dX5_sheet_44 rfl (lv_at hl 1 rfl) ?_
          refine lv_iload_n hx hb dX5_sheet_45 rfl (lv_at hl 2 rfl) ?_
          obtain ⟨g9, hg⟩ := gxo hg
          refine va_iast hx hb hK hP hD hS 1 0 rfl rfl g9 dX5_sheet_46 (fun H locs hP hD hS => ?_)
          have hP : va_P D vwCl [(am, .inr (5, [.int ((0 : Int32)), .int (qt), .ref mvs, .ref mvl, .ref mvc, .int (qn), .int (qs), .int (qk), .int (qo), .ref mvk, .ref mvt, .ref mvg, .int (qa), .int (qm), .ref mvh, .ref mvrk, .ref mvrt, .ref mvrg, .int (qg), .int (qp), .int (qu), .int (ql), .int (qe), .int (qb), .int (qw), .ref mvf, .int (qi), .int (qj), .int (qr), .ref mvq, .ref mvp, .ref mve])), (mvs, .inl (cI, 4, .inl ((upd vs zs.toNatClampNeg zl)))), (mvl, .inl (cI, 4, .inl (vl))), (mvc, .inl (cI, 240, .inl (vc)))] H := hP
          have hD : va_D A [(am, .inr (5, [.int ((0 : Int32)), .int (qt), .ref mvs, .ref mvl, .ref mvc, .int (qn), .int (qs), .int (qk), .int (qo), .ref mvk, .ref mvt, .ref mvg, .int (qa), .int (qm), .ref mvh, .ref mvrk, .ref mvrt, .ref mvrg, .int (qg), .int (qp), .int (qu), .int (ql), .int (qe), .int (qb), .int (qw), .ref mvf, .int (qi), .int (qj), .int (qr), .ref mvq, .ref mvp, .ref mve])), (mvs, .inl (cI, 4, .inl ((upd vs zs.toNatClampNeg zl)))), (mvl, .inl (cI, 4, .inl (vl))), (mvc, .inl (cI, 240, .inl (vc)))] := hD
          refine lv_aload_n hx hb dX5_sheet_47 rfl (lv_at hl 0 rfl) ?_
          refine va_get (D := D) (ci := 5) (v := .ref mvl) (C := RX5) (T := TX5) (N := 32) hx hb hts inX5 hown hK hP 0 rfl rfl 3 (by decide) (hts (.fieldLink RX5 13 "ScooterFlagsModel" "sheetLong" "[I") (by decide +kernel)) (fun _ h9 => h9) rfl dX5_sheet_48 ?_
          refine lv_iload_n hx hb dX5_sheet_51 rfl (lv_at hl 1 rfl) ?_
          refine lv_iload_n hx hb dX5_sheet_52 rfl (lv_at hl 3 rfl) ?_
          obtain ⟨g10, hg⟩ := gxo hg
          refine va_iast hx hb hK hP hD hS 2 0 rfl rfl g10 dX5_sheet_53 (fun H locs hP hD hS => ?_)
          have hP : va_P D vwCl [(am, .inr (5, [.int ((0 : Int32)), .int (qt), .ref mvs, .ref mvl, .ref mvc, .int (qn), .int (qs), .int (qk), .int (qo), .ref mvk, .ref mvt, .ref mvg, .int (qa), .int (qm), .ref mvh, .ref mvrk, .ref mvrt, .ref mvrg, .int (qg), .int (qp), .int (qu), .int (ql), .int (qe), .int (qb), .int (qw), .ref mvf, .int (qi), .int (qj), .int (qr), .ref mvq, .ref mvp, .ref mve])), (mvs, .inl (cI, 4, .inl ((upd vs zs.toNatClampNeg zl)))), (mvl, .inl (cI, 4, .inl ((upd vl zs.toNatClampNeg zn)))), (mvc, .inl (cI, 240, .inl (vc)))] H := hP
          have hD : va_D A [(am, .inr (5, [.int ((0 : Int32)), .int (qt), .ref mvs, .ref mvl, .ref mvc, .int (qn), .int (qs), .int (qk), .int (qo), .ref mvk, .ref mvt, .ref mvg, .int (qa), .int (qm), .ref mvh, .ref mvrk, .ref mvrt, .ref mvrg, .int (qg), .int (qp), .int (qu), .int (ql), .int (qe), .int (qb), .int (qw), .ref mvf, .int (qi), .int (qj), .int (qr), .ref mvq, .ref mvp, .ref mve])), (mvs, .inl (cI, 4, .inl ((upd vs zs.toNatClampNeg zl)))), (mvl, .inl (cI, 4, .inl ((upd vl zs.toNatClampNeg zn)))), (mvc, .inl (cI, 240, .inl (vc)))] := hD
          refine lv_iconst (v := (0 : Int32)) hx hb dX5_sheet_54 (by decide) ?_
          refine lv_istore (lv' := [(4, .int ((0 : Int32))), (0, .ref am), (1, .int (zs)), (2, .int (zl)), (3, .int (zn))]) hx hb dX5_sheet_55 hl (by decide) rfl (fun ls hl => ?_)
          refine lp_57 _ ?_ 100 (0 : Int32) (0 : Int32) (upd vs zs.toNatClampNeg zl) (upd vl zs.toNatClampNeg zn) vc hg _ _ hP hD hS _ (lv_sub hl [1, 2, 0] rfl)
          · intro qf vs vl vc hg H locs hP hD hS ls hl
            refine lv_iconst (v := (1 : Int32)) hx hb dX5_sheet_83 (by decide) ?_
            obtain rfl := Option.some.inj hg
            exact rti hQ hx hb hr hlocks hK hP hD hS dX5_sheet_84 ⟨rfl, rfl⟩
        · have hg := ie hg c8
          refine lv_aload_n hx hb dX5_sheet_34 rfl (lv_at hl 0 rfl) ?_
          refine lv_iconst (v := (4 : Int32)) hx hb dX5_sheet_35 (by decide) ?_
          obtain ⟨o13, h14, hg⟩ := bd hg
          refine xcVi (As := [.int ((4 : Int32))]) (rest := []) (wc := [(am, .inr (5, [.int ((0 : Int32)), .int (qt), .ref mvs, .ref mvl, .ref mvc, .int (qn), .int (qs), .int (qk), .int (qo), .ref mvk, .ref mvt, .ref mvg, .int (qa), .int (qm), .ref mvh, .ref mvrk, .ref mvrt, .ref mvrg, .int (qg), .int (qp), .int (qu), .int (ql), .int (qe), .int (qb), .int (qw), .ref mvf, .int (qi), .int (qj), .int (qr), .ref mvq, .ref mvp, .ref mve]))]) (wr := [(mvs, .inl (cI, 4, .inl (vs))), (mvl, .inl (cI, 4, .inl (vl))), (mvc, .inl (cI, 240, .inl (vc)))]) ⟨hx, hb, hml, hown, hts⟩ (c_X5_fails l D cI cZ cR am mvs mvl mvc mvk mvt mvg mvh mvrk mvrt mvrg mvf mvq mvp mve (0 : Int32) qt qn qs qk qo qa qm qg qp qu ql qe qb qw qi qj qr (4 : Int32) h14) (cwV 1 hts gX5_sheet_X5_fails rfl rfl rfl (by decide +kernel) ⟨Nat.le_of_ble_eq_true rfl, Nat.le_of_ble_eq_true rfl⟩) hK hP hD hS hA [0] [1, 2, 3] rfl rfl (by decide) (by decide) (by decide) (va_recv hK hP (ci := 5) (q0 := 0) rfl rfl) rfl rfl hl.1 (lv_room (Nat.le_of_ble_eq_true rfl)) dX5_sheet_36 ⟨Nat.le_of_ble_eq_true rfl, Nat.le_of_ble_eq_true rfl⟩ (fun r u H locs hu hP hD hS => ?_)
          obtain ⟨rfl, rfl⟩ := hu
          have hP : va_P D vwCl [(am, .inr (5, [.int (o13.2), .int (qt), .ref mvs, .ref mvl, .ref mvc, .int (qn), .int (qs), .int (qk), .int (qo), .ref mvk, .ref mvt, .ref mvg, .int (qa), .int (qm), .ref mvh, .ref mvrk, .ref mvrt, .ref mvrg, .int (qg), .int (qp), .int (qu), .int (ql), .int (qe), .int (qb), .int (qw), .ref mvf, .int (qi), .int (qj), .int (qr), .ref mvq, .ref mvp, .ref mve])), (mvs, .inl (cI, 4, .inl (vs))), (mvl, .inl (cI, 4, .inl (vl))), (mvc, .inl (cI, 240, .inl (vc)))] H := hP.sub [3, 0, 1, 2] rfl
          have hD : va_D A [(am, .inr (5, [.int (o13.2), .int (qt), .ref mvs, .ref mvl, .ref mvc, .int (qn), .int (qs), .int (qk), .int (qo), .ref mvk, .ref mvt, .ref mvg, .int (qa), .int (qm), .ref mvh, .ref mvrk, .ref mvrt, .ref mvrg, .int (qg), .int (qp), .int (qu), .int (ql), .int (qe), .int (qb), .int (qw), .ref mvf, .int (qi), .int (qj), .int (qr), .ref mvq, .ref mvp, .ref mve])), (mvs, .inl (cI, 4, .inl (vs))), (mvl, .inl (cI, 4, .inl (vl))), (mvc, .inl (cI, 240, .inl (vc)))] := hD.sub [3, 0, 1, 2] (by decide) rfl
          obtain rfl := Option.some.inj hg
          exact rti hQ hx hb hr hlocks hK hP hD hS dX5_sheet_39 ⟨rfl, rfl⟩
      · have hg := ie hg c7
        refine lv_bipush (v := (-2 : Int32)) hx hb dX5_sheet_27 (by decide) ?_
        obtain rfl := Option.some.inj hg
        exact rti hQ hx hb hr hlocks hK hP hD hS dX5_sheet_29 ⟨rfl, rfl⟩
  · have hg := it hg c3
    refine lv_iconst (v := (-1 : Int32)) hx hb dX5_sheet_12 (by decide) ?_
    obtain rfl := Option.some.inj hg
    exact rti hQ hx hb hr hlocks hK hP hD hS dX5_sheet_13 ⟨rfl, rfl⟩
def f_X5_lose (vs : Nat → Int32) (zs : Int32) : Option (Int32 × (Nat → Int32)) :=
  (f_X5_isSheet zs).bind (fun o1 => if o1 = 0 then (some ((-1 : Int32), vs)) else (gx zs 4 (if (vs zs.toNatClampNeg) = (-9 : Int32) then (gx zs 4 (some ((0 : Int32), (upd vs zs.toNatClampNeg (-9 : Int32))))) else (gx zs 4 (some ((1 : Int32), (upd vs zs.toNatClampNeg (-9 : Int32))))))))
set_option maxHeartbeats 4000000 in
set_option maxRecDepth 100000 in
theorem c_X5_lose (l : Launch) (D : va_G) (cI cZ cR : ClassId) (am : Nat) (mvs : Nat) (mvl : Nat) (mvc : Nat) (mvk : Nat) (mvt : Nat) (mvg : Nat) (mvh : Nat) (mvrk : Nat) (mvrt : Nat) (mvrg : Nat) (mvf : Nat) (mvq : Nat) (mvp : Nat) (mve : Nat) (qf : Int32) (qt : Int32) (qn : Int32) (qs : Int32) (qk : Int32) (qo : Int32) (qa : Int32) (qm : Int32) (qg : Int32) (qp : Int32) (qu : Int32) (ql : Int32) (qe : Int32) (qb : Int32) (qw : Int32) (qi : Int32) (qj : Int32) (qr : Int32) (vs : Nat → Int32) (vl : Nat → Int32) (vc : Nat → Int32) (zs : Int32) {res : Int32 × (Nat → Int32)} (hg : f_X5_lose vs zs = some res) : MI l yX5_lose wsX5_lose ({ frames := 2, cells := 0, slots := 0, locals := 42 }) D (T3 cI cZ cR) [(am, .inr (5, [.int (qf), .int (qt), .ref mvs, .ref mvl, .ref mvc, .int (qn), .int (qs), .int (qk), .int (qo), .ref mvk, .ref mvt, .ref mvg, .int (qa), .int (qm), .ref mvh, .ref mvrk, .ref mvrt, .ref mvrg, .int (qg), .int (qp), .int (qu), .int (ql), .int (qe), .int (qb), .int (qw), .ref mvf, .int (qi), .int (qj), .int (qr), .ref mvq, .ref mvp, .ref mve])), (mvs, .inl (cI, 4, .inl (vs))), (mvl, .inl (cI, 4, .inl (vl))), (mvc, .inl (cI, 240, .inl (vc)))] [.ref am, .int (zs)] (fun r u => res.1 = r ∧ u = [(am, .inr (5, [.int (qf), .int (qt), .ref mvs, .ref mvl, .ref mvc, .int (qn), .int (qs), .int (qk), .int (qo), .ref mvk, .ref mvt, .ref mvg, .int (qa), .int (qm), .ref mvh, .ref mvrk, .ref mvrt, .ref mvrg, .int (qg), .int (qp), .int (qu), .int (ql), .int (qe), .int (qb), .int (qw), .ref mvf, .int (qi), .int (qj), .int (qr), .ref mvq, .ref mvp, .ref mve])), (mvs, .inl (cI, 4, .inl (res.2))), (mvl, .inl (cI, 4, .inl (vl))), (mvc, .inl (cI, 240, .inl (vc)))]) := by
  refine entI (Rn := RX5) (by decide +kernel) rfl rfl (Nat.le_of_ble_eq_true rfl) (fun p e s m args below meth c A Q hx hb hr hml hts hown hlocks hA hP hD hK hS ls hl hQ => ?_)
  have inX5 : ∀ w ∈ u_ws RX5 TX5 32, w ∈ wsX5_lose := by decide +kernel
  have hl : lv_has ls 3 [(0, .ref am), (1, .int (zs))] := hl
  rw [f_X5_lose] at hg
  refine lv_iload_n hx hb dX5_lose_0 rfl (lv_at hl 1 rfl) ?_
  obtain ⟨o1, h2, hg⟩ := bd hg
  refine xcSi (As := [.int (zs)]) (rest := []) (wc := []) (wr := [(am, .inr (5, [.int (qf), .int (qt), .ref mvs, .ref mvl, .ref mvc, .int (qn), .int (qs), .int (qk), .int (qo), .ref mvk, .ref mvt, .ref mvg, .int (qa), .int (qm), .ref mvh, .ref mvrk, .ref mvrt, .ref mvrg, .int (qg), .int (qp), .int (qu), .int (ql), .int (qe), .int (qb), .int (qw), .ref mvf, .int (qi), .int (qj), .int (qr), .ref mvq, .ref mvp, .ref mve])), (mvs, .inl (cI, 4, .inl (vs))), (mvl, .inl (cI, 4, .inl (vl))), (mvc, .inl (cI, 240, .inl (vc)))]) ⟨hx, hb, hml, hown, hts⟩ (c_X5_isSheet l D cI cZ cR zs h2) (cwS 1 hts gX5_lose_X5_isSheet rfl rfl rfl (by decide +kernel) ⟨Nat.le_of_ble_eq_true rfl, Nat.le_of_ble_eq_true rfl⟩) hK hP hD hS hA [] [0, 1, 2, 3] rfl rfl (by decide) (by decide) (by decide) rfl rfl hl.1 (lv_room (Nat.le_of_ble_eq_true rfl)) dX5_lose_1 ⟨Nat.le_of_ble_eq_true rfl, Nat.le_of_ble_eq_true rfl⟩ (fun r u H locs hu hP hD hS => ?_)
  obtain ⟨rfl, rfl⟩ := hu
  have hP : va_P D vwCl [(am, .inr (5, [.int (qf), .int (qt), .ref mvs, .ref mvl, .ref mvc, .int (qn), .int (qs), .int (qk), .int (qo), .ref mvk, .ref mvt, .ref mvg, .int (qa), .int (qm), .ref mvh, .ref mvrk, .ref mvrt, .ref mvrg, .int (qg), .int (qp), .int (qu), .int (ql), .int (qe), .int (qb), .int (qw), .ref mvf, .int (qi), .int (qj), .int (qr), .ref mvq, .ref mvp, .ref mve])), (mvs, .inl (cI, 4, .inl (vs))), (mvl, .inl (cI, 4, .inl (vl))), (mvc, .inl (cI, 240, .inl (vc)))] H := hP.sub [0, 1, 2, 3] rfl
  have hD : va_D A [(am, .inr (5, [.int (qf), .int (qt), .ref mvs, .ref mvl, .ref mvc, .int (qn), .int (qs), .int (qk), .int (qo), .ref mvk, .ref mvt, .ref mvg, .int (qa), .int (qm), .ref mvh, .ref mvrk, .ref mvrt, .ref mvrg, .int (qg), .int (qp), .int (qu), .int (ql), .int (qe), .int (qb), .int (qw), .ref mvf, .int (qi), .int (qj), .int (qr), .ref mvq, .ref mvp, .ref mve])), (mvs, .inl (cI, 4, .inl (vs))), (mvl, .inl (cI, 4, .inl (vl))), (mvc, .inl (cI, 240, .inl (vc)))] := hD.sub [0, 1, 2, 3] (by decide) rfl
  refine lv_if_ne (tgt := 9) hx hb dX5_lose_4 (by decide) (fun c3 => ?_) (fun c3 => ?_)
  · have hg := ie hg c3
    refine lv_aload_n hx hb dX5_lose_9 rfl (lv_at hl 0 rfl) ?_
    refine va_get (D := D) (ci := 5) (v := .ref mvs) (C := RX5) (T := TX5) (N := 32) hx hb hts inX5 hown hK hP 0 rfl rfl 2 (by decide) (hts (.fieldLink RX5 9 "ScooterFlagsModel" "sorts" "[I") (by decide +kernel)) (fun _ h9 => h9) rfl dX5_lose_10 ?_
    refine lv_iload_n hx hb dX5_lose_13 rfl (lv_at hl 1 rfl) ?_
    obtain ⟨g4, hg⟩ := gxo hg
    refine va_iald hx hb hK hP 1 0 rfl rfl g4 dX5_lose_14 ?_
    refine W.eq (g2 := F0 m 15 ls [.int ((vs zs.toNatClampNeg))]) rfl ?_
    refine lv_bipush (v := (-9 : Int32)) hx hb dX5_lose_15 (by decide) ?_
    refine lv_icmp_ne (tgt := 24) hx hb dX5_lose_17 (by decide) (fun c5 => ?_) (fun c5 => ?_)
    · have hg := ie hg c5
      refine lv_iconst (v := (1 : Int32)) hx hb dX5_lose_24 (by decide) ?_
      refine lv_istore_n (lv' := [(2, .int ((1 : Int32))), (0, .ref am), (1, .int (zs))]) hx hb dX5_lose_25 rfl hl (by decide) rfl (fun ls hl => ?_)
      refine lv_aload_n hx hb dX5_lose_26 rfl (lv_at hl 1 rfl) ?_
      refine va_get (D := D) (ci := 5) (v := .ref mvs) (C := RX5) (T := TX5) (N := 32) hx hb hts inX5 hown hK hP 0 rfl rfl 2 (by decide) (hts (.fieldLink RX5 9 "ScooterFlagsModel" "sorts" "[I") (by decide +kernel)) (fun _ h9 => h9) rfl dX5_lose_27 ?_
      refine lv_iload_n hx hb dX5_lose_30 rfl (lv_at hl 2 rfl) ?_
      refine lv_bipush (v := (-9 : Int32)) hx hb dX5_lose_31 (by decide) ?_
      obtain ⟨g6, hg⟩ := gxo hg
      refine va_iast hx hb hK hP hD hS 1 0 rfl rfl g6 dX5_lose_33 (fun H locs hP hD hS => ?_)
      have hP : va_P D vwCl [(am, .inr (5, [.int (qf), .int (qt), .ref mvs, .ref mvl, .ref mvc, .int (qn), .int (qs), .int (qk), .int (qo), .ref mvk, .ref mvt, .ref mvg, .int (qa), .int (qm), .ref mvh, .ref mvrk, .ref mvrt, .ref mvrg, .int (qg), .int (qp), .int (qu), .int (ql), .int (qe), .int (qb), .int (qw), .ref mvf, .int (qi), .int (qj), .int (qr), .ref mvq, .ref mvp, .ref mve])), (mvs, .inl (cI, 4, .inl ((upd vs zs.toNatClampNeg (-9 : Int32))))), (mvl, .inl (cI, 4, .inl (vl))), (mvc, .inl (cI, 240, .inl (vc)))] H := hP
      have hD : va_D A [(am, .inr (5, [.int (qf), .int (qt), .ref mvs, .ref mvl, .ref mvc, .int (qn), .int (qs), .int (qk), .int (qo), .ref mvk, .ref mvt, .ref mvg, .int (qa), .int (qm), .ref mvh, .ref mvrk, .ref mvrt, .ref mvrg, .int (qg), .int (qp), .int (qu), .int (ql), .int (qe), .int (qb), .int (qw), .ref mvf, .int (qi), .int (qj), .int (qr), .ref mvq, .ref mvp, .ref mve])), (mvs, .inl (cI, 4, .inl ((upd vs zs.toNatClampNeg (-9 : Int32))))), (mvl, .inl (cI, 4, .inl (vl))), (mvc, .inl (cI, 240, .inl (vc)))] := hD
      refine lv_iload_n hx hb dX5_lose_34 rfl (lv_at hl 0 rfl) ?_
      obtain rfl := Option.some.inj hg
      exact rti hQ hx hb hr hlocks hK hP hD hS dX5_lose_35 ⟨rfl, rfl⟩
    · have hg := it hg c5
      refine lv_iconst (v := (0 : Int32)) hx hb dX5_lose_20 (by decide) ?_
      refine lv_goto (tgt := 25) hx hb dX5_lose_21 (by decide) ?_
      refine lv_istore_n (lv' := [(2, .int ((0 : Int32))), (0, .ref am), (1, .int (zs))]) hx hb dX5_lose_25 rfl hl (by decide) rfl (fun ls hl => ?_)
      refine lv_aload_n hx hb dX5_lose_26 rfl (lv_at hl 1 rfl) ?_
      refine va_get (D := D) (ci := 5) (v := .ref mvs) (C := RX5) (T := TX5) (N := 32) hx hb hts inX5 hown hK hP 0 rfl rfl 2 (by decide) (hts (.fieldLink RX5 9 "ScooterFlagsModel" "sorts" "[I") (by decide +kernel)) (fun _ h9 => h9) rfl dX5_lose_27 ?_
      refine lv_iload_n hx hb dX5_lose_30 rfl (lv_at hl 2 rfl) ?_
      refine lv_bipush (v := (-9 : Int32)) hx hb dX5_lose_31 (by decide) ?_
      obtain ⟨g7, hg⟩ := gxo hg
      refine va_iast hx hb hK hP hD hS 1 0 rfl rfl g7 dX5_lose_33 (fun H locs hP hD hS => ?_)
      have hP : va_P D vwCl [(am, .inr (5, [.int (qf), .int (qt), .ref mvs, .ref mvl, .ref mvc, .int (qn), .int (qs), .int (qk), .int (qo), .ref mvk, .ref mvt, .ref mvg, .int (qa), .int (qm), .ref mvh, .ref mvrk, .ref mvrt, .ref mvrg, .int (qg), .int (qp), .int (qu), .int (ql), .int (qe), .int (qb), .int (qw), .ref mvf, .int (qi), .int (qj), .int (qr), .ref mvq, .ref mvp, .ref mve])), (mvs, .inl (cI, 4, .inl ((upd vs zs.toNatClampNeg (-9 : Int32))))), (mvl, .inl (cI, 4, .inl (vl))), (mvc, .inl (cI, 240, .inl (vc)))] H := hP
      have hD : va_D A [(am, .inr (5, [.int (qf), .int (qt), .ref mvs, .ref mvl, .ref mvc, .int (qn), .int (qs), .int (qk), .int (qo), .ref mvk, .ref mvt, .ref mvg, .int (qa), .int (qm), .ref mvh, .ref mvrk, .ref mvrt, .ref mvrg, .int (qg), .int (qp), .int (qu), .int (ql), .int (qe), .int (qb), .int (qw), .ref mvf, .int (qi), .int (qj), .int (qr), .ref mvq, .ref mvp, .ref mve])), (mvs, .inl (cI, 4, .inl ((upd vs zs.toNatClampNeg (-9 : Int32))))), (mvl, .inl (cI, 4, .inl (vl))), (mvc, .inl (cI, 240, .inl (vc)))] := hD
      refine lv_iload_n hx hb dX5_lose_34 rfl (lv_at hl 0 rfl) ?_
      obtain rfl := Option.some.inj hg
      exact rti hQ hx hb hr hlocks hK hP hD hS dX5_lose_35 ⟨rfl, rfl⟩
  · have hg := it hg c3
    refine lv_iconst (v := (-1 : Int32)) hx hb dX5_lose_7 (by decide) ?_
    obtain rfl := Option.some.inj hg
    exact rti hQ hx hb hr hlocks hK hP hD hS dX5_lose_8 ⟨rfl, rfl⟩
def f_X5_put (vs : Nat → Int32) (vl : Nat → Int32) (vc : Nat → Int32) (zs : Int32) (zi : Int32) (zv : Int32) : Option (Int32 × Int32 × (Nat → Int32)) :=
  (f_X5_isSheet zs).bind (fun o1 => if o1 = 0 then (some ((-1 : Int32), (0 : Int32), vc)) else (gx zs 4 (if (vs zs.toNatClampNeg) = (-9 : Int32) then ((f_X5_fails (1 : Int32)).bind (fun o19 => some (o19.1, o19.2, vc))) else (gx zs 4 ((f_X5_within zi (0 : Int32) ((vl zs.toNatClampNeg) - (1 : Int32))).bind (fun o7 => if o7 = 0 then ((f_X5_fails (3 : Int32)).bind (fun o17 => some (o17.1, o17.2, vc))) else (gx zs 4 (if (vs zs.toNatClampNeg) = 0 then (gx (((60 : Int32) * zs) + zi) 240 (some ((1 : Int32), (0 : Int32), (upd vc (((60 : Int32) * zs) + zi).toNatClampNeg ((zv).toInt8.toInt32))))) else (gx zs 4 (if (vs zs.toNatClampNeg) = (1 : Int32) then (gx (((60 : Int32) * zs) + zi) 240 (some ((1 : Int32), (0 : Int32), (upd vc (((60 : Int32) * zs) + zi).toNatClampNeg ((zv).toInt16.toInt32))))) else (gx (((60 : Int32) * zs) + zi) 240 (some ((1 : Int32), (0 : Int32), (upd vc (((60 : Int32) * zs) + zi).toNatClampNeg zv))))))))))))))
set_option maxHeartbeats 4000000 in
set_option maxRecDepth 100000 in
theorem c_X5_put (l : Launch) (D : va_G) (cI cZ cR : ClassId) (am : Nat) (mvs : Nat) (mvl : Nat) (mvc : Nat) (mvk : Nat) (mvt : Nat) (mvg : Nat) (mvh : Nat) (mvrk : Nat) (mvrt : Nat) (mvrg : Nat) (mvf : Nat) (mvq : Nat) (mvp : Nat) (mve : Nat) (qf : Int32) (qt : Int32) (qn : Int32) (qs : Int32) (qk : Int32) (qo : Int32) (qa : Int32) (qm : Int32) (qg : Int32) (qp : Int32) (qu : Int32) (ql : Int32) (qe : Int32) (qb : Int32) (qw : Int32) (qi : Int32) (qj : Int32) (qr : Int32) (vs : Nat → Int32) (vl : Nat → Int32) (vc : Nat → Int32) (zs : Int32) (zi : Int32) (zv : Int32) {res : Int32 × Int32 × (Nat → Int32)} (hg : f_X5_put vs vl vc zs zi zv = some res) : MI l yX5_put wsX5_put ({ frames := 2, cells := 0, slots := 0, locals := 42 }) D (T3 cI cZ cR) [(am, .inr (5, [.int (qf), .int (qt), .ref mvs, .ref mvl, .ref mvc, .int (qn), .int (qs), .int (qk), .int (qo), .ref mvk, .ref mvt, .ref mvg, .int (qa), .int (qm), .ref mvh, .ref mvrk, .ref mvrt, .ref mvrg, .int (qg), .int (qp), .int (qu), .int (ql), .int (qe), .int (qb), .int (qw), .ref mvf, .int (qi), .int (qj), .int (qr), .ref mvq, .ref mvp, .ref mve])), (mvs, .inl (cI, 4, .inl (vs))), (mvl, .inl (cI, 4, .inl (vl))), (mvc, .inl (cI, 240, .inl (vc)))] [.ref am, .int (zs), .int (zi), .int (zv)] (fun r u => res.1 = r ∧ u = [(am, .inr (5, [.int (res.2.1), .int (qt), .ref mvs, .ref mvl, .ref mvc, .int (qn), .int (qs), .int (qk), .int (qo), .ref mvk, .ref mvt, .ref mvg, .int (qa), .int (qm), .ref mvh, .ref mvrk, .ref mvrt, .ref mvrg, .int (qg), .int (qp), .int (qu), .int (ql), .int (qe), .int (qb), .int (qw), .ref mvf, .int (qi), .int (qj), .int (qr), .ref mvq, .ref mvp, .ref mve])), (mvs, .inl (cI, 4, .inl (vs))), (mvl, .inl (cI, 4, .inl (vl))), (mvc, .inl (cI, 240, .inl (res.2.2)))]) := by
  refine entI (Rn := RX5) (by decide +kernel) rfl rfl (Nat.le_of_ble_eq_true rfl) (fun p e s m args below meth c A Q hx hb hr hml hts hown hlocks hA hP hD hK hS ls hl hQ => ?_)
  have inX5 : ∀ w ∈ u_ws RX5 TX5 32, w ∈ wsX5_put := by decide +kernel
  have hl : lv_has ls 4 [(0, .ref am), (1, .int (zs)), (2, .int (zi)), (3, .int (zv))] := hl
  rw [f_X5_put] at hg
  refine lv_aload_n hx hb dX5_put_0 rfl (lv_at hl 0 rfl) ?_
  refine lv_iconst (v := (0 : Int32)) hx hb dX5_put_1 (by decide) ?_
  refine va_put (D := D) (ci := 5) (v := .int ((0 : Int32))) (ty := .int) (C := RX5) (T := TX5) (N := 32) hx hb hts inX5 tyX5 tyX5_ok nmX5 hown hK hP hD hS 0 rfl rfl 0 (by decide) (hts (.fieldLink RX5 53 "ScooterFlagsModel" "fault" "I") (by decide +kernel)) (fun _ h9 => h9) rfl (by decide +kernel) rfl rfl (Nat.le_of_ble_eq_true rfl) dX5_put_2 (fun H locs hP hD hS => ?_)
  have hP : va_P D vwCl [(am, .inr (5, [.int ((0 : Int32)), .int (qt), .ref mvs, .ref mvl, .ref mvc, .int (qn), .int (qs), .int (qk), .int (qo), .ref mvk, .ref mvt, .ref mvg, .int (qa), .int (qm), .ref mvh, .ref mvrk, .ref mvrt, .ref mvrg, .int (qg), .int (qp), .int (qu), .int (ql), .int (qe), .int (qb), .int (qw), .ref mvf, .int (qi), .int (qj), .int (qr), .ref mvq, .ref mvp, .ref mve])), (mvs, .inl (cI, 4, .inl (vs))), (mvl, .inl (cI, 4, .inl (vl))), (mvc, .inl (cI, 240, .inl (vc)))] H := hP
  have hD : va_D A [(am, .inr (5, [.int ((0 : Int32)), .int (qt), .ref mvs, .ref mvl, .ref mvc, .int (qn), .int (qs), .int (qk), .int (qo), .ref mvk, .ref mvt, .ref mvg, .int (qa), .int (qm), .ref mvh, .ref mvrk, .ref mvrt, .ref mvrg, .int (qg), .int (qp), .int (qu), .int (ql), .int (qe), .int (qb), .int (qw), .ref mvf, .int (qi), .int (qj), .int (qr), .ref mvq, .ref mvp, .ref mve])), (mvs, .inl (cI, 4, .inl (vs))), (mvl, .inl (cI, 4, .inl (vl))), (mvc, .inl (cI, 240, .inl (vc)))] := hD
  refine lv_iload_n hx hb dX5_put_5 rfl (lv_at hl 1 rfl) ?_
  obtain ⟨o1, h2, hg⟩ := bd hg
  refine xcSi (As := [.int (zs)]) (rest := []) (wc := []) (wr := [(am, .inr (5, [.int ((0 : Int32)), .int (qt), .ref mvs, .ref mvl, .ref mvc, .int (qn), .int (qs), .int (qk), .int (qo), .ref mvk, .ref mvt, .ref mvg, .int (qa), .int (qm), .ref mvh, .ref mvrk, .ref mvrt, .ref mvrg, .int (qg), .int (qp), .int (qu), .int (ql), .int (qe), .int (qb), .int (qw), .ref mvf, .int (qi), .int (qj), .int (qr), .ref mvq, .ref mvp, .ref mve])), (mvs, .inl (cI, 4, .inl (vs))), (mvl, .inl (cI, 4, .inl (vl))), (mvc, .inl (cI, 240, .inl (vc)))]) ⟨hx, hb, hml, hown, hts⟩ (c_X5_isSheet l D cI cZ cR zs h2) (cwS 1 hts gX5_put_X5_isSheet rfl rfl rfl (by decide +kernel) ⟨Nat.le_of_ble_eq_true rfl, Nat.le_of_ble_eq_true rfl⟩) hK hP hD hS hA [] [0, 1, 2, 3] rfl rfl (by decide) (by decide) (by decide) rfl rfl hl.1 (lv_room (Nat.le_of_ble_eq_true rfl)) dX5_put_6 ⟨Nat.le_of_ble_eq_true rfl, Nat.le_of_ble_eq_true rfl⟩ (fun r u H locs hu hP hD hS => ?_)
  obtain ⟨rfl, rfl⟩ := hu
  have hP : va_P D vwCl [(am, .inr (5, [.int ((0 : Int32)), .int (qt), .ref mvs, .ref mvl, .ref mvc, .int (qn), .int (qs), .int (qk), .int (qo), .ref mvk, .ref mvt, .ref mvg, .int (qa), .int (qm), .ref mvh, .ref mvrk, .ref mvrt, .ref mvrg, .int (qg), .int (qp), .int (qu), .int (ql), .int (qe), .int (qb), .int (qw), .ref mvf, .int (qi), .int (qj), .int (qr), .ref mvq, .ref mvp, .ref mve])), (mvs, .inl (cI, 4, .inl (vs))), (mvl, .inl (cI, 4, .inl (vl))), (mvc, .inl (cI, 240, .inl (vc)))] H := hP.sub [0, 1, 2, 3] rfl
  have hD : va_D A [(am, .inr (5, [.int ((0 : Int32)), .int (qt), .ref mvs, .ref mvl, .ref mvc, .int (qn), .int (qs), .int (qk), .int (qo), .ref mvk, .ref mvt, .ref mvg, .int (qa), .int (qm), .ref mvh, .ref mvrk, .ref mvrt, .ref mvrg, .int (qg), .int (qp), .int (qu), .int (ql), .int (qe), .int (qb), .int (qw), .ref mvf, .int (qi), .int (qj), .int (qr), .ref mvq, .ref mvp, .ref mve])), (mvs, .inl (cI, 4, .inl (vs))), (mvl, .inl (cI, 4, .inl (vl))), (mvc, .inl (cI, 240, .inl (vc)))] := hD.sub [0, 1, 2, 3] (by decide) rfl
  refine lv_if_ne (tgt := 14) hx hb dX5_put_9 (by decide) (fun c3 => ?_) (fun c3 => ?_)
  · have hg := ie hg c3
    refine lv_aload_n hx hb dX5_put_14 rfl (lv_at hl 0 rfl) ?_
    refine va_get (D := D) (ci := 5) (v := .ref mvs) (C := RX5) (T := TX5) (N := 32) hx hb hts inX5 hown hK hP 0 rfl rfl 2 (by decide) (hts (.fieldLink RX5 9 "ScooterFlagsModel" "sorts" "[I") (by decide +kernel)) (fun _ h9 => h9) rfl dX5_put_15 ?_
    refine lv_iload_n hx hb dX5_put_18 rfl (lv_at hl 1 rfl) ?_
    obtain ⟨g4, hg⟩ := gxo hg
    refine va_iald hx hb hK hP 1 0 rfl rfl g4 dX5_put_19 ?_
    refine W.eq (g2 := F0 m 20 ls [.int ((vs zs.toNatClampNeg))]) rfl ?_
    refine lv_bipush (v := (-9 : Int32)) hx hb dX5_put_20 (by decide) ?_
    refine lv_icmp_ne (tgt := 31) hx hb dX5_put_22 (by decide) (fun c5 => ?_) (fun c5 => ?_)
    · have hg := ie hg c5
      refine lv_iload_n hx hb dX5_put_31 rfl (lv_at hl 2 rfl) ?_
      refine lv_iconst (v := (0 : Int32)) hx hb dX5_put_32 (by decide) ?_
      refine lv_aload_n hx hb dX5_put_33 rfl (lv_at hl 0 rfl) ?_
      refine va_get (D := D) (ci := 5) (v := .ref mvl) (C := RX5) (T := TX5) (N := 32) hx hb hts inX5 hown hK hP 0 rfl rfl 3 (by decide) (hts (.fieldLink RX5 13 "ScooterFlagsModel" "sheetLong" "[I") (by decide +kernel)) (fun _ h9 => h9) rfl dX5_put_34 ?_
      refine lv_iload_n hx hb dX5_put_37 rfl (lv_at hl 1 rfl) ?_
      obtain ⟨g6, hg⟩ := gxo hg
      refine va_iald hx hb hK hP 2 0 rfl rfl g6 dX5_put_38 ?_
      refine W.eq (g2 := F0 m 39 ls [.int ((vl zs.toNatClampNeg)), .int ((0 : Int32)), .int (zi)]) rfl ?_
      refine lv_iconst (v := (1 : Int32)) hx hb dX5_put_39 (by decide) ?_
      refine lv_isub hx hb dX5_put_40 ?_
      obtain ⟨o7, h8, hg⟩ := bd hg
      refine xcSi (As := [.int (zi), .int ((0 : Int32)), .int (((vl zs.toNatClampNeg) - (1 : Int32)))]) (rest := []) (wc := []) (wr := [(am, .inr (5, [.int ((0 : Int32)), .int (qt), .ref mvs, .ref mvl, .ref mvc, .int (qn), .int (qs), .int (qk), .int (qo), .ref mvk, .ref mvt, .ref mvg, .int (qa), .int (qm), .ref mvh, .ref mvrk, .ref mvrt, .ref mvrg, .int (qg), .int (qp), .int (qu), .int (ql), .int (qe), .int (qb), .int (qw), .ref mvf, .int (qi), .int (qj), .int (qr), .ref mvq, .ref mvp, .ref mve])), (mvs, .inl (cI, 4, .inl (vs))), (mvl, .inl (cI, 4, .inl (vl))), (mvc, .inl (cI, 240, .inl (vc)))]) ⟨hx, hb, hml, hown, hts⟩ (c_X5_within l D cI cZ cR zi (0 : Int32) ((vl zs.toNatClampNeg) - (1 : Int32)) h8) (cwS 3 hts gX5_put_X5_within rfl rfl rfl (by decide +kernel) ⟨Nat.le_of_ble_eq_true rfl, Nat.le_of_ble_eq_true rfl⟩) hK hP hD hS hA [] [0, 1, 2, 3] rfl rfl (by decide) (by decide) (by decide) rfl rfl hl.1 (lv_room (Nat.le_of_ble_eq_true rfl)) dX5_put_41 ⟨Nat.le_of_ble_eq_true rfl, Nat.le_of_ble_eq_true rfl⟩ (fun r u H locs hu hP hD hS => ?_)
      obtain ⟨rfl, rfl⟩ := hu
      have hP : va_P D vwCl [(am, .inr (5, [.int ((0 : Int32)), .int (qt), .ref mvs, .ref mvl, .ref mvc, .int (qn), .int (qs), .int (qk), .int (qo), .ref mvk, .ref mvt, .ref mvg, .int (qa), .int (qm), .ref mvh, .ref mvrk, .ref mvrt, .ref mvrg, .int (qg), .int (qp), .int (qu), .int (ql), .int (qe), .int (qb), .int (qw), .ref mvf, .int (qi), .int (qj), .int (qr), .ref mvq, .ref mvp, .ref mve])), (mvs, .inl (cI, 4, .inl (vs))), (mvl, .inl (cI, 4, .inl (vl))), (mvc, .inl (cI, 240, .inl (vc)))] H := hP.sub [0, 1, 2, 3] rfl
      have hD : va_D A [(am, .inr (5, [.int ((0 : Int32)), .int (qt), .ref mvs, .ref mvl, .ref mvc, .int (qn), .int (qs), .int (qk), .int (qo), .ref mvk, .ref mvt, .ref mvg, .int (qa), .int (qm), .ref mvh, .ref mvrk, .ref mvrt, .ref mvrg, .int (qg), .int (qp), .int (qu), .int (ql), .int (qe), .int (qb), .int (qw), .ref mvf, .int (qi), .int (qj), .int (qr), .ref mvq, .ref mvp, .ref mve])), (mvs, .inl (cI, 4, .inl (vs))), (mvl, .inl (cI, 4, .inl (vl))), (mvc, .inl (cI, 240, .inl (vc)))] := hD.sub [0, 1, 2, 3] (by decide) rfl
      refine lv_if_ne (tgt := 53) hx hb dX5_put_44 (by decide) (fun c9 => ?_) (fun c9 => ?_)
      · have hg := ie hg c9
        refine lv_aload_n hx hb dX5_put_53 rfl (lv_at hl 0 rfl) ?_
        refine va_get (D := D) (ci := 5) (v := .ref mvc) (C := RX5) (T := TX5) (N := 32) hx hb hts inX5 hown hK hP 0 rfl rfl 4 (by decide) (hts (.fieldLink RX5 16 "ScooterFlagsModel" "cells" "[I") (by decide +kernel)) (fun _ h9 => h9) rfl dX5_put_54 ?_
        refine lv_bipush (v := (60 : Int32)) hx hb dX5_put_57 (by decide) ?_
        refine lv_iload_n hx hb dX5_put_59 rfl (lv_at hl 1 rfl) ?_
        refine lv_imul hx hb dX5_put_60 ?_
        refine lv_iload_n hx hb dX5_put_61 rfl (lv_at hl 2 rfl) ?_
        refine lv_iadd hx hb dX5_put_62 ?_
        refine lv_aload_n hx hb dX5_put_63 rfl (lv_at hl 0 rfl) ?_
        refine va_get (D := D) (ci := 5) (v := .ref mvs) (C := RX5) (T := TX5) (N := 32) hx hb hts inX5 hown hK hP 0 rfl rfl 2 (by decide) (hts (.fieldLink RX5 9 "ScooterFlagsModel" "sorts" "[I") (by decide +kernel)) (fun _ h9 => h9) rfl dX5_put_64 ?_
        refine lv_iload_n hx hb dX5_put_67 rfl (lv_at hl 1 rfl) ?_
        obtain ⟨g10, hg⟩ := gxo hg
        refine va_iald hx hb hK hP 1 0 rfl rfl g10 dX5_put_68 ?_
        refine W.eq (g2 := F0 m 69 ls [.int ((vs zs.toNatClampNeg)), .int ((((60 : Int32) * zs) + zi)), .ref mvc]) rfl ?_
        refine lv_if_ne (tgt := 77) hx hb dX5_put_69 (by decide) (fun c11 => ?_) (fun c11 => ?_)
        · have hg := ie hg c11
          refine lv_aload_n hx hb dX5_put_77 rfl (lv_at hl 0 rfl) ?_
          refine va_get (D := D) (ci := 5) (v := .ref mvs) (C := RX5) (T := TX5) (N := 32) hx hb hts inX5 hown hK hP 0 rfl rfl 2 (by decide) (hts (.fieldLink RX5 9 "ScooterFlagsModel" "sorts" "[I") (by decide +kernel)) (fun _ h9 => h9) rfl dX5_put_78 ?_
          refine lv_iload_n hx hb dX5_put_81 rfl (lv_at hl 1 rfl) ?_
          obtain ⟨g12, hg⟩ := gxo hg
          refine va_iald hx hb hK hP 1 0 rfl rfl g12 dX5_put_82 ?_
          refine W.eq (g2 := F0 m 83 ls [.int ((vs zs.toNatClampNeg)), .int ((((60 : Int32) * zs) + zi)), .ref mvc]) rfl ?_
          refine lv_iconst (v := (1 : Int32)) hx hb dX5_put_83 (by decide) ?_
          refine lv_icmp_ne (tgt := 92) hx hb dX5_put_84 (by decide) (fun c13 => ?_) (fun c13 => ?_)
          · have hg := ie hg c13
            refine lv_iload_n hx hb dX5_put_92 rfl (lv_at hl 3 rfl) ?_
            obtain ⟨g14, hg⟩ := gxo hg
            refine va_iast hx hb hK hP hD hS 3 0 rfl rfl g14 dX5_put_93 (fun H locs hP hD hS => ?_)
            have hP : va_P D vwCl [(am, .inr (5, [.int ((0 : Int32)), .int (qt), .ref mvs, .ref mvl, .ref mvc, .int (qn), .int (qs), .int (qk), .int (qo), .ref mvk, .ref mvt, .ref mvg, .int (qa), .int (qm), .ref mvh, .ref mvrk, .ref mvrt, .ref mvrg, .int (qg), .int (qp), .int (qu), .int (ql), .int (qe), .int (qb), .int (qw), .ref mvf, .int (qi), .int (qj), .int (qr), .ref mvq, .ref mvp, .ref mve])), (mvs, .inl (cI, 4, .inl (vs))), (mvl, .inl (cI, 4, .inl (vl))), (mvc, .inl (cI, 240, .inl ((upd vc (((60 : Int32) * zs) + zi).toNatClampNeg zv))))] H := hP
            have hD : va_D A [(am, .inr (5, [.int ((0 : Int32)), .int (qt), .ref mvs, .ref mvl, .ref mvc, .int (qn), .int (qs), .int (qk), .int (qo), .ref mvk, .ref mvt, .ref mvg, .int (qa), .int (qm), .ref mvh, .ref mvrk, .ref mvrt, .ref mvrg, .int (qg), .int (qp), .int (qu), .int (ql), .int (qe), .int (qb), .int (qw), .ref mvf, .int (qi), .int (qj), .int (qr), .ref mvq, .ref mvp, .ref mve])), (mvs, .inl (cI, 4, .inl (vs))), (mvl, .inl (cI, 4, .inl (vl))), (mvc, .inl (cI, 240, .inl ((upd vc (((60 : Int32) * zs) + zi).toNatClampNeg zv))))] := hD
            refine lv_iconst (v := (1 : Int32)) hx hb dX5_put_94 (by decide) ?_
            obtain rfl := Option.some.inj hg
            exact rti hQ hx hb hr hlocks hK hP hD hS dX5_put_95 ⟨rfl, rfl⟩
          · have hg := it hg c13
            refine lv_iload_n hx hb dX5_put_87 rfl (lv_at hl 3 rfl) ?_
            refine lv_i2s (v := (zv).toInt16.toInt32) hx hb dX5_put_88 rfl ?_
            refine lv_goto (tgt := 93) hx hb dX5_put_89 (by decide) ?_
            obtain ⟨g15, hg⟩ := gxo hg
            refine va_iast hx hb hK hP hD hS 3 0 rfl rfl g15 dX5_put_93 (fun H locs hP hD hS => ?_)
            have hP : va_P D vwCl [(am, .inr (5, [.int ((0 : Int32)), .int (qt), .ref mvs, .ref mvl, .ref mvc, .int (qn), .int (qs), .int (qk), .int (qo), .ref mvk, .ref mvt, .ref mvg, .int (qa), .int (qm), .ref mvh, .ref mvrk, .ref mvrt, .ref mvrg, .int (qg), .int (qp), .int (qu), .int (ql), .int (qe), .int (qb), .int (qw), .ref mvf, .int (qi), .int (qj), .int (qr), .ref mvq, .ref mvp, .ref mve])), (mvs, .inl (cI, 4, .inl (vs))), (mvl, .inl (cI, 4, .inl (vl))), (mvc, .inl (cI, 240, .inl ((upd vc (((60 : Int32) * zs) + zi).toNatClampNeg ((zv).toInt16.toInt32)))))] H := hP
            have hD : va_D A [(am, .inr (5, [.int ((0 : Int32)), .int (qt), .ref mvs, .ref mvl, .ref mvc, .int (qn), .int (qs), .int (qk), .int (qo), .ref mvk, .ref mvt, .ref mvg, .int (qa), .int (qm), .ref mvh, .ref mvrk, .ref mvrt, .ref mvrg, .int (qg), .int (qp), .int (qu), .int (ql), .int (qe), .int (qb), .int (qw), .ref mvf, .int (qi), .int (qj), .int (qr), .ref mvq, .ref mvp, .ref mve])), (mvs, .inl (cI, 4, .inl (vs))), (mvl, .inl (cI, 4, .inl (vl))), (mvc, .inl (cI, 240, .inl ((upd vc (((60 : Int32) * zs) + zi).toNatClampNeg ((zv).toInt16.toInt32)))))] := hD
            refine lv_iconst (v := (1 : Int32)) hx hb dX5_put_94 (by decide) ?_
            obtain rfl := Option.some.inj hg
            exact rti hQ hx hb hr hlocks hK hP hD hS dX5_put_95 ⟨rfl, rfl⟩
        · have hg := it hg c11
          refine lv_iload_n hx hb dX5_put_72 rfl (lv_at hl 3 rfl) ?_
          refine lv_i2b (v := (zv).toInt8.toInt32) hx hb dX5_put_73 rfl ?_
          refine lv_goto (tgt := 93) hx hb dX5_put_74 (by decide) ?_
          obtain ⟨g16, hg⟩ := gxo hg
          refine va_iast hx hb hK hP hD hS 3 0 rfl rfl g16 dX5_put_93 (fun H locs hP hD hS => ?_)
          have hP : va_P D vwCl [(am, .inr (5, [.int ((0 : Int32)), .int (qt), .ref mvs, .ref mvl, .ref mvc, .int (qn), .int (qs), .int (qk), .int (qo), .ref mvk, .ref mvt, .ref mvg, .int (qa), .int (qm), .ref mvh, .ref mvrk, .ref mvrt, .ref mvrg, .int (qg), .int (qp), .int (qu), .int (ql), .int (qe), .int (qb), .int (qw), .ref mvf, .int (qi), .int (qj), .int (qr), .ref mvq, .ref mvp, .ref mve])), (mvs, .inl (cI, 4, .inl (vs))), (mvl, .inl (cI, 4, .inl (vl))), (mvc, .inl (cI, 240, .inl ((upd vc (((60 : Int32) * zs) + zi).toNatClampNeg ((zv).toInt8.toInt32)))))] H := hP
          have hD : va_D A [(am, .inr (5, [.int ((0 : Int32)), .int (qt), .ref mvs, .ref mvl, .ref mvc, .int (qn), .int (qs), .int (qk), .int (qo), .ref mvk, .ref mvt, .ref mvg, .int (qa), .int (qm), .ref mvh, .ref mvrk, .ref mvrt, .ref mvrg, .int (qg), .int (qp), .int (qu), .int (ql), .int (qe), .int (qb), .int (qw), .ref mvf, .int (qi), .int (qj), .int (qr), .ref mvq, .ref mvp, .ref mve])), (mvs, .inl (cI, 4, .inl (vs))), (mvl, .inl (cI, 4, .inl (vl))), (mvc, .inl (cI, 240, .inl ((upd vc (((60 : Int32) * zs) + zi).toNatClampNeg ((zv).toInt8.toInt32)))))] := hD
          refine lv_iconst (v := (1 : Int32)) hx hb dX5_put_94 (by decide) ?_
          obtain rfl := Option.some.inj hg
          exact rti hQ hx hb hr hlocks hK hP hD hS dX5_put_95 ⟨rfl, rfl⟩
      · have hg := it hg c9
        refine lv_aload_n hx hb dX5_put_47 rfl (lv_at hl 0 rfl) ?_
        refine lv_iconst (v := (3 : Int32)) hx hb dX5_put_48 (by decide) ?_
        obtain ⟨o17, h18, hg⟩ := bd hg
        refine xcVi (As := [.int ((3 : Int32))]) (rest := []) (wc := [(am, .inr (5, [.int ((0 : Int32)), .int (qt), .ref mvs, .ref mvl, .ref mvc, .int (qn), .int (qs), .int (qk), .int (qo), .ref mvk, .ref mvt, .ref mvg, .int (qa), .int (qm), .ref mvh, .ref mvrk, .ref mvrt, .ref mvrg, .int (qg), .int (qp), .int (qu), .int (ql), .int (qe), .int (qb), .int (qw), .ref mvf, .int (qi), .int (qj), .int (qr), .ref mvq, .ref mvp, .ref mve]))]) (wr := [(mvs, .inl (cI, 4, .inl (vs))), (mvl, .inl (cI, 4, .inl (vl))), (mvc, .inl (cI, 240, .inl (vc)))]) ⟨hx, hb, hml, hown, hts⟩ (c_X5_fails l D cI cZ cR am mvs mvl mvc mvk mvt mvg mvh mvrk mvrt mvrg mvf mvq mvp mve (0 : Int32) qt qn qs qk qo qa qm qg qp qu ql qe qb qw qi qj qr (3 : Int32) h18) (cwV 1 hts gX5_put_X5_fails rfl rfl rfl (by decide +kernel) ⟨Nat.le_of_ble_eq_true rfl, Nat.le_of_ble_eq_true rfl⟩) hK hP hD hS hA [0] [1, 2, 3] rfl rfl (by decide) (by decide) (by decide) (va_recv hK hP (ci := 5) (q0 := 0) rfl rfl) rfl rfl hl.1 (lv_room (Nat.le_of_ble_eq_true rfl)) dX5_put_49 ⟨Nat.le_of_ble_eq_true rfl, Nat.le_of_ble_eq_true rfl⟩ (fun r u H locs hu hP hD hS => ?_)
        obtain ⟨rfl, rfl⟩ := hu
        have hP : va_P D vwCl [(am, .inr (5, [.int (o17.2), .int (qt), .ref mvs, .ref mvl, .ref mvc, .int (qn), .int (qs), .int (qk), .int (qo), .ref mvk, .ref mvt, .ref mvg, .int (qa), .int (qm), .ref mvh, .ref mvrk, .ref mvrt, .ref mvrg, .int (qg), .int (qp), .int (qu), .int (ql), .int (qe), .int (qb), .int (qw), .ref mvf, .int (qi), .int (qj), .int (qr), .ref mvq, .ref mvp, .ref mve])), (mvs, .inl (cI, 4, .inl (vs))), (mvl, .inl (cI, 4, .inl (vl))), (mvc, .inl (cI, 240, .inl (vc)))] H := hP.sub [3, 0, 1, 2] rfl
        have hD : va_D A [(am, .inr (5, [.int (o17.2), .int (qt), .ref mvs, .ref mvl, .ref mvc, .int (qn), .int (qs), .int (qk), .int (qo), .ref mvk, .ref mvt, .ref mvg, .int (qa), .int (qm), .ref mvh, .ref mvrk, .ref mvrt, .ref mvrg, .int (qg), .int (qp), .int (qu), .int (ql), .int (qe), .int (qb), .int (qw), .ref mvf, .int (qi), .int (qj), .int (qr), .ref mvq, .ref mvp, .ref mve])), (mvs, .inl (cI, 4, .inl (vs))), (mvl, .inl (cI, 4, .inl (vl))), (mvc, .inl (cI, 240, .inl (vc)))] := hD.sub [3, 0, 1, 2] (by decide) rfl
        obtain rfl := Option.some.inj hg
        exact rti hQ hx hb hr hlocks hK hP hD hS dX5_put_52 ⟨rfl, rfl⟩
    · have hg := it hg c5
      refine lv_aload_n hx hb dX5_put_25 rfl (lv_at hl 0 rfl) ?_
      refine lv_iconst (v := (1 : Int32)) hx hb dX5_put_26 (by decide) ?_
      obtain ⟨o19, h20, hg⟩ := bd hg
      refine xcVi (As := [.int ((1 : Int32))]) (rest := []) (wc := [(am, .inr (5, [.int ((0 : Int32)), .int (qt), .ref mvs, .ref mvl, .ref mvc, .int (qn), .int (qs), .int (qk), .int (qo), .ref mvk, .ref mvt, .ref mvg, .int (qa), .int (qm), .ref mvh, .ref mvrk, .ref mvrt, .ref mvrg, .int (qg), .int (qp), .int (qu), .int (ql), .int (qe), .int (qb), .int (qw), .ref mvf, .int (qi), .int (qj), .int (qr), .ref mvq, .ref mvp, .ref mve]))]) (wr := [(mvs, .inl (cI, 4, .inl (vs))), (mvl, .inl (cI, 4, .inl (vl))), (mvc, .inl (cI, 240, .inl (vc)))]) ⟨hx, hb, hml, hown, hts⟩ (c_X5_fails l D cI cZ cR am mvs mvl mvc mvk mvt mvg mvh mvrk mvrt mvrg mvf mvq mvp mve (0 : Int32) qt qn qs qk qo qa qm qg qp qu ql qe qb qw qi qj qr (1 : Int32) h20) (cwV 1 hts gX5_put_X5_fails rfl rfl rfl (by decide +kernel) ⟨Nat.le_of_ble_eq_true rfl, Nat.le_of_ble_eq_true rfl⟩) hK hP hD hS hA [0] [1, 2, 3] rfl rfl (by decide) (by decide) (by decide) (va_recv hK hP (ci := 5) (q0 := 0) rfl rfl) rfl rfl hl.1 (lv_room (Nat.le_of_ble_eq_true rfl)) dX5_put_27 ⟨Nat.le_of_ble_eq_true rfl, Nat.le_of_ble_eq_true rfl⟩ (fun r u H locs hu hP hD hS => ?_)
      obtain ⟨rfl, rfl⟩ := hu
      have hP : va_P D vwCl [(am, .inr (5, [.int (o19.2), .int (qt), .ref mvs, .ref mvl, .ref mvc, .int (qn), .int (qs), .int (qk), .int (qo), .ref mvk, .ref mvt, .ref mvg, .int (qa), .int (qm), .ref mvh, .ref mvrk, .ref mvrt, .ref mvrg, .int (qg), .int (qp), .int (qu), .int (ql), .int (qe), .int (qb), .int (qw), .ref mvf, .int (qi), .int (qj), .int (qr), .ref mvq, .ref mvp, .ref mve])), (mvs, .inl (cI, 4, .inl (vs))), (mvl, .inl (cI, 4, .inl (vl))), (mvc, .inl (cI, 240, .inl (vc)))] H := hP.sub [3, 0, 1, 2] rfl
      have hD : va_D A [(am, .inr (5, [.int (o19.2), .int (qt), .ref mvs, .ref mvl, .ref mvc, .int (qn), .int (qs), .int (qk), .int (qo), .ref mvk, .ref mvt, .ref mvg, .int (qa), .int (qm), .ref mvh, .ref mvrk, .ref mvrt, .ref mvrg, .int (qg), .int (qp), .int (qu), .int (ql), .int (qe), .int (qb), .int (qw), .ref mvf, .int (qi), .int (qj), .int (qr), .ref mvq, .ref mvp, .ref mve])), (mvs, .inl (cI, 4, .inl (vs))), (mvl, .inl (cI, 4, .inl (vl))), (mvc, .inl (cI, 240, .inl (vc)))] := hD.sub [3, 0, 1, 2] (by decide) rfl
      obtain rfl := Option.some.inj hg
      exact rti hQ hx hb hr hlocks hK hP hD hS dX5_put_30 ⟨rfl, rfl⟩
  · have hg := it hg c3
    refine lv_iconst (v := (-1 : Int32)) hx hb dX5_put_12 (by decide) ?_
    obtain rfl := Option.some.inj hg
    exact rti hQ hx hb hr hlocks hK hP hD hS dX5_put_13 ⟨rfl, rfl⟩
def f_X5_cell_50 (vs : Nat → Int32) (vl : Nat → Int32) (vc : Nat → Int32) (zs : Int32) (zi : Int32) (qf : Int32) : Option (Int64 × Int32) :=
  gx zs 4 (if (vs zs.toNatClampNeg) = (-9 : Int32) then ((f_X5_lost (1 : Int32)).bind (fun o18 => some (o18.1, o18.2))) else (gx zs 4 ((f_X5_within zi (0 : Int32) ((vl zs.toNatClampNeg) - (1 : Int32))).bind (fun o12 => if o12 = 0 then ((f_X5_lost (3 : Int32)).bind (fun o16 => some (o16.1, o16.2))) else (gx (((60 : Int32) * zs) + zi) 240 (some (((vc (((60 : Int32) * zs) + zi).toNatClampNeg)).toInt64, qf)))))))
def f_X5_cell (vs : Nat → Int32) (vl : Nat → Int32) (vc : Nat → Int32) (zs : Int32) (zi : Int32) (zl : Int32) : Option (Int64 × Int32) :=
  (f_X5_isSheet zs).bind (fun o1 => if o1 = 0 then (some ((-9223372036854775808 : Int64), (0 : Int32))) else ((f_X5_isSort zl).bind (fun o4 => if o4 = 0 then (some ((-9223372036854775808 : Int64), (0 : Int32))) else (gx zs 4 (if (vs zs.toNatClampNeg) = (-9 : Int32) then (f_X5_cell_50 vs vl vc zs zi (0 : Int32)) else (gx zs 4 (if (vs zs.toNatClampNeg) = zl then (f_X5_cell_50 vs vl vc zs zi (0 : Int32)) else ((f_X5_lost (2 : Int32)).bind (fun o22 => some (o22.1, o22.2))))))))))
set_option maxHeartbeats 4000000 in
set_option maxRecDepth 100000 in
theorem c_X5_cell (l : Launch) (D : va_G) (cI cZ cR : ClassId) (am : Nat) (mvs : Nat) (mvl : Nat) (mvc : Nat) (mvk : Nat) (mvt : Nat) (mvg : Nat) (mvh : Nat) (mvrk : Nat) (mvrt : Nat) (mvrg : Nat) (mvf : Nat) (mvq : Nat) (mvp : Nat) (mve : Nat) (qf : Int32) (qt : Int32) (qn : Int32) (qs : Int32) (qk : Int32) (qo : Int32) (qa : Int32) (qm : Int32) (qg : Int32) (qp : Int32) (qu : Int32) (ql : Int32) (qe : Int32) (qb : Int32) (qw : Int32) (qi : Int32) (qj : Int32) (qr : Int32) (vs : Nat → Int32) (vl : Nat → Int32) (vc : Nat → Int32) (zs : Int32) (zi : Int32) (zl : Int32) {res : Int64 × Int32} (hg : f_X5_cell vs vl vc zs zi zl = some res) : ML l yX5_cell wsX5_cell ({ frames := 2, cells := 0, slots := 0, locals := 42 }) D (T3 cI cZ cR) [(am, .inr (5, [.int (qf), .int (qt), .ref mvs, .ref mvl, .ref mvc, .int (qn), .int (qs), .int (qk), .int (qo), .ref mvk, .ref mvt, .ref mvg, .int (qa), .int (qm), .ref mvh, .ref mvrk, .ref mvrt, .ref mvrg, .int (qg), .int (qp), .int (qu), .int (ql), .int (qe), .int (qb), .int (qw), .ref mvf, .int (qi), .int (qj), .int (qr), .ref mvq, .ref mvp, .ref mve])), (mvs, .inl (cI, 4, .inl (vs))), (mvl, .inl (cI, 4, .inl (vl))), (mvc, .inl (cI, 240, .inl (vc)))] [.ref am, .int (zs), .int (zi), .int (zl)] (fun r u => res.1 = r ∧ u = [(am, .inr (5, [.int (res.2), .int (qt), .ref mvs, .ref mvl, .ref mvc, .int (qn), .int (qs), .int (qk), .int (qo), .ref mvk, .ref mvt, .ref mvg, .int (qa), .int (qm), .ref mvh, .ref mvrk, .ref mvrt, .ref mvrg, .int (qg), .int (qp), .int (qu), .int (ql), .int (qe), .int (qb), .int (qw), .ref mvf, .int (qi), .int (qj), .int (qr), .ref mvq, .ref mvp, .ref mve])), (mvs, .inl (cI, 4, .inl (vs))), (mvl, .inl (cI, 4, .inl (vl))), (mvc, .inl (cI, 240, .inl (vc)))]) := by
  refine entL (Rn := RX5) (by decide +kernel) rfl rfl (Nat.le_of_ble_eq_true rfl) (fun p e s m args below meth c A Q hx hb hr hml hts hown hlocks hA hP hD hK hS ls hl hQ => ?_)
  have inX5 : ∀ w ∈ u_ws RX5 TX5 32, w ∈ wsX5_cell := by decide +kernel
  have bk_50 : ∀ (qf : Int32), f_X5_cell_50 vs vl vc zs zi qf = some res → ∀ (H : Heap) (locs : List Loc), va_P D vwCl [(am, .inr (5, [.int (qf), .int (qt), .ref mvs, .ref mvl, .ref mvc, .int (qn), .int (qs), .int (qk), .int (qo), .ref mvk, .ref mvt, .ref mvg, .int (qa), .int (qm), .ref mvh, .ref mvrk, .ref mvrt, .ref mvrg, .int (qg), .int (qp), .int (qu), .int (ql), .int (qe), .int (qb), .int (qw), .ref mvf, .int (qi), .int (qj), .int (qr), .ref mvq, .ref mvp, .ref mve])), (mvs, .inl (cI, 4, .inl (vs))), (mvl, .inl (cI, 4, .inl (vl))), (mvc, .inl (cI, 240, .inl (vc)))] H → va_D A [(am, .inr (5, [.int (qf), .int (qt), .ref mvs, .ref mvl, .ref mvc, .int (qn), .int (qs), .int (qk), .int (qo), .ref mvk, .ref mvt, .ref mvg, .int (qa), .int (qm), .ref mvh, .ref mvrk, .ref mvrt, .ref mvrg, .int (qg), .int (qp), .int (qu), .int (ql), .int (qe), .int (qb), .int (qw), .ref mvf, .int (qi), .int (qj), .int (qr), .ref mvq, .ref mvp, .ref mve])), (mvs, .inl (cI, 4, .inl (vs))), (mvl, .inl (cI, 4, .inl (vl))), (mvc, .inl (cI, 240, .inl (vc)))] → va_S A s.heap H locs → ∀ (ls : Array Slot), lv_has ls 4 [(0, .ref am), (1, .int (zs)), (2, .int (zi))] → W p l e ({ frames := 2, cells := 0, slots := 0, locals := 42 }) s m args below meth c H locs 0 0 Q (F0 m 50 ls []) := by
    intro qf hg H locs hP hD hS ls hl
    rw [f_X5_cell_50] at hg
    refine lv_aload_n hx hb dX5_cell_50 rfl (lv_at hl 0 rfl) ?_
    refine va_get (D := D) (ci := 5) (v := .ref mvs) (C := RX5) (T := TX5) (N := 32) hx hb hts inX5 hown hK hP 0 rfl rfl 2 (by decide) (hts (.fieldLink RX5 9 "ScooterFlagsModel" "sorts" "[I") (by decide +kernel)) (fun _ h9 => h9) rfl dX5_cell_51 ?_
    refine lv_iload_n hx hb dX5_cell_54 rfl (lv_at hl 1 rfl) ?_
    obtain ⟨g9, hg⟩ := gxo hg
    refine va_iald hx hb hK hP 1 0 rfl rfl g9 dX5_cell_55 ?_
    refine W.eq (g2 := F0 m 56 ls [.int ((vs zs.toNatClampNeg))]) rfl ?_
    refine lv_bipush (v := (-9 : Int32)) hx hb dX5_cell_56 (by decide) ?_
    refine lv_icmp_ne (tgt := 67) hx hb dX5_cell_58 (by decide) (fun c10 => ?_) (fun c10 => ?_)
    · have hg := ie hg c10
      refine lv_iload_n hx hb dX5_cell_67 rfl (lv_at hl 2 rfl) ?_
      refine lv_iconst (v := (0 : Int32)) hx hb dX5_cell_68 (by decide) ?_
      refine lv_aload_n hx hb dX5_cell_69 rfl (lv_at hl 0 rfl) ?_
      refine va_get (D := D) (ci := 5) (v := .ref mvl) (C := RX5) (T := TX5) (N := 32) hx hb hts inX5 hown hK hP 0 rfl rfl 3 (by decide) (hts (.fieldLink RX5 13 "ScooterFlagsModel" "sheetLong" "[I") (by decide +kernel)) (fun _ h9 => h9) rfl dX5_cell_70 ?_
      refine lv_iload_n hx hb dX5_cell_73 rfl (lv_at hl 1 rfl) ?_
      obtain ⟨g11, hg⟩ := gxo hg
      refine va_iald hx hb hK hP 2 0 rfl rfl g11 dX5_cell_74 ?_
      refine W.eq (g2 := F0 m 75 ls [.int ((vl zs.toNatClampNeg)), .int ((0 : Int32)), .int (zi)]) rfl ?_
      refine lv_iconst (v := (1 : Int32)) hx hb dX5_cell_75 (by decide) ?_
      refine lv_isub hx hb dX5_cell_76 ?_
      obtain ⟨o12, h13, hg⟩ := bd hg
      refine xcSi (As := [.int (zi), .int ((0 : Int32)), .int (((vl zs.toNatClampNeg) - (1 : Int32)))]) (rest := []) (wc := []) (wr := [(am, .inr (5, [.int (qf), .int (qt), .ref mvs, .ref mvl, .ref mvc, .int (qn), .int (qs), .int (qk), .int (qo), .ref mvk, .ref mvt, .ref mvg, .int (qa), .int (qm), .ref mvh, .ref mvrk, .ref mvrt, .ref mvrg, .int (qg), .int (qp), .int (qu), .int (ql), .int (qe), .int (qb), .int (qw), .ref mvf, .int (qi), .int (qj), .int (qr), .ref mvq, .ref mvp, .ref mve])), (mvs, .inl (cI, 4, .inl (vs))), (mvl, .inl (cI, 4, .inl (vl))), (mvc, .inl (cI, 240, .inl (vc)))]) ⟨hx, hb, hml, hown, hts⟩ (c_X5_within l D cI cZ cR zi (0 : Int32) ((vl zs.toNatClampNeg) - (1 : Int32)) h13) (cwS 3 hts gX5_cell_X5_within rfl rfl rfl (by decide +kernel) ⟨Nat.le_of_ble_eq_true rfl, Nat.le_of_ble_eq_true rfl⟩) hK hP hD hS hA [] [0, 1, 2, 3] rfl rfl (by decide) (by decide) (by decide) rfl rfl hl.1 (lv_room (Nat.le_of_ble_eq_true rfl)) dX5_cell_77 ⟨Nat.le_of_ble_eq_true rfl, Nat.le_of_ble_eq_true rfl⟩ (fun r u H locs hu hP hD hS => ?_)
      obtain ⟨rfl, rfl⟩ := hu
      have hP : va_P D vwCl [(am, .inr (5, [.int (qf), .int (qt), .ref mvs, .ref mvl, .ref mvc, .int (qn), .int (qs), .int (qk), .int (qo), .ref mvk, .ref mvt, .ref mvg, .int (qa), .int (qm), .ref mvh, .ref mvrk, .ref mvrt, .ref mvrg, .int (qg), .int (qp), .int (qu), .int (ql), .int (qe), .int (qb), .int (qw), .ref mvf, .int (qi), .int (qj), .int (qr), .ref mvq, .ref mvp, .ref mve])), (mvs, .inl (cI, 4, .inl (vs))), (mvl, .inl (cI, 4, .inl (vl))), (mvc, .inl (cI, 240, .inl (vc)))] H := hP.sub [0, 1, 2, 3] rfl
      have hD : va_D A [(am, .inr (5, [.int (qf), .int (qt), .ref mvs, .ref mvl, .ref mvc, .int (qn), .int (qs), .int (qk), .int (qo), .ref mvk, .ref mvt, .ref mvg, .int (qa), .int (qm), .ref mvh, .ref mvrk, .ref mvrt, .ref mvrg, .int (qg), .int (qp), .int (qu), .int (ql), .int (qe), .int (qb), .int (qw), .ref mvf, .int (qi), .int (qj), .int (qr), .ref mvq, .ref mvp, .ref mve])), (mvs, .inl (cI, 4, .inl (vs))), (mvl, .inl (cI, 4, .inl (vl))), (mvc, .inl (cI, 240, .inl (vc)))] := hD.sub [0, 1, 2, 3] (by decide) rfl
      refine lv_if_ne (tgt := 89) hx hb dX5_cell_80 (by decide) (fun c14 => ?_) (fun c14 => ?_)
      · have hg := ie hg c14
        refine lv_aload_n hx hb dX5_cell_89 rfl (lv_at hl 0 rfl) ?_
        refine va_get (D := D) (ci := 5) (v := .ref mvc) (C := RX5) (T := TX5) (N := 32) hx hb hts inX5 hown hK hP 0 rfl rfl 4 (by decide) (hts (.fieldLink RX5 16 "ScooterFlagsModel" "cells" "[I") (by decide +kernel)) (fun _ h9 => h9) rfl dX5_cell_90 ?_
        refine lv_bipush (v := (60 : Int32)) hx hb dX5_cell_93 (by decide) ?_
        refine lv_iload_n hx hb dX5_cell_95 rfl (lv_at hl 1 rfl) ?_
        refine lv_imul hx hb dX5_cell_96 ?_
        refine lv_iload_n hx hb dX5_cell_97 rfl (lv_at hl 2 rfl) ?_
        refine lv_iadd hx hb dX5_cell_98 ?_
        obtain ⟨g15, hg⟩ := gxo hg
        refine va_iald hx hb hK hP 3 0 rfl rfl g15 dX5_cell_99 ?_
        refine W.eq (g2 := F0 m 100 ls [.int ((vc (((60 : Int32) * zs) + zi).toNatClampNeg))]) rfl ?_
        refine lv_i2l (v := ((vc (((60 : Int32) * zs) + zi).toNatClampNeg)).toInt64) hx hb dX5_cell_100 rfl ?_
        obtain rfl := Option.some.inj hg
        exact rtl hQ hx hb hr hlocks hK hP hD hS dX5_cell_101 ⟨rfl, rfl⟩
      · have hg := it hg c14
        refine lv_aload_n hx hb dX5_cell_83 rfl (lv_at hl 0 rfl) ?_
        refine lv_iconst (v := (3 : Int32)) hx hb dX5_cell_84 (by decide) ?_
        obtain ⟨o16, h17, hg⟩ := bd hg
        refine xcVl (As := [.int ((3 : Int32))]) (rest := []) (wc := [(am, .inr (5, [.int (qf), .int (qt), .ref mvs, .ref mvl, .ref mvc, .int (qn), .int (qs), .int (qk), .int (qo), .ref mvk, .ref mvt, .ref mvg, .int (qa), .int (qm), .ref mvh, .ref mvrk, .ref mvrt, .ref mvrg, .int (qg), .int (qp), .int (qu), .int (ql), .int (qe), .int (qb), .int (qw), .ref mvf, .int (qi), .int (qj), .int (qr), .ref mvq, .ref mvp, .ref mve]))]) (wr := [(mvs, .inl (cI, 4, .inl (vs))), (mvl, .inl (cI, 4, .inl (vl))), (mvc, .inl (cI, 240, .inl (vc)))]) ⟨hx, hb, hml, hown, hts⟩ (c_X5_lost l D cI cZ cR am mvs mvl mvc mvk mvt mvg mvh mvrk mvrt mvrg mvf mvq mvp mve qf qt qn qs qk qo qa qm qg qp qu ql qe qb qw qi qj qr (3 : Int32) h17) (cwV 1 hts gX5_cell_X5_lost rfl rfl rfl (by decide +kernel) ⟨Nat.le_of_ble_eq_true rfl, Nat.le_of_ble_eq_true rfl⟩) hK hP hD hS hA [0] [1, 2, 3] rfl rfl (by decide) (by decide) (by decide) (va_recv hK hP (ci := 5) (q0 := 0) rfl rfl) rfl rfl hl.1 (lv_room (Nat.le_of_ble_eq_true rfl)) dX5_cell_85 ⟨Nat.le_of_ble_eq_true rfl, Nat.le_of_ble_eq_true rfl⟩ (fun r u H locs hu hP hD hS => ?_)
        obtain ⟨rfl, rfl⟩ := hu
        have hP : va_P D vwCl [(am, .inr (5, [.int (o16.2), .int (qt), .ref mvs, .ref mvl, .ref mvc, .int (qn), .int (qs), .int (qk), .int (qo), .ref mvk, .ref mvt, .ref mvg, .int (qa), .int (qm), .ref mvh, .ref mvrk, .ref mvrt, .ref mvrg, .int (qg), .int (qp), .int (qu), .int (ql), .int (qe), .int (qb), .int (qw), .ref mvf, .int (qi), .int (qj), .int (qr), .ref mvq, .ref mvp, .ref mve])), (mvs, .inl (cI, 4, .inl (vs))), (mvl, .inl (cI, 4, .inl (vl))), (mvc, .inl (cI, 240, .inl (vc)))] H := hP.sub [3, 0, 1, 2] rfl
        have hD : va_D A [(am, .inr (5, [.int (o16.2), .int (qt), .ref mvs, .ref mvl, .ref mvc, .int (qn), .int (qs), .int (qk), .int (qo), .ref mvk, .ref mvt, .ref mvg, .int (qa), .int (qm), .ref mvh, .ref mvrk, .ref mvrt, .ref mvrg, .int (qg), .int (qp), .int (qu), .int (ql), .int (qe), .int (qb), .int (qw), .ref mvf, .int (qi), .int (qj), .int (qr), .ref mvq, .ref mvp, .ref mve])), (mvs, .inl (cI, 4, .inl (vs))), (mvl, .inl (cI, 4, .inl (vl))), (mvc, .inl (cI, 240, .inl (vc)))] := hD.sub [3, 0, 1, 2] (by decide) rfl
        obtain rfl := Option.some.inj hg
        exact rtl hQ hx hb hr hlocks hK hP hD hS dX5_cell_88 ⟨rfl, rfl⟩
    · have hg := it hg c10
      refine lv_aload_n hx hb dX5_cell_61 rfl (lv_at hl 0 rfl) ?_
      refine lv_iconst (v := (1 : Int32)) hx hb dX5_cell_62 (by decide) ?_
      obtain ⟨o18, h19, hg⟩ := bd hg
      refine xcVl (As := [.int ((1 : Int32))]) (rest := []) (wc := [(am, .inr (5, [.int (qf), .int (qt), .ref mvs, .ref mvl, .ref mvc, .int (qn), .int (qs), .int (qk), .int (qo), .ref mvk, .ref mvt, .ref mvg, .int (qa), .int (qm), .ref mvh, .ref mvrk, .ref mvrt, .ref mvrg, .int (qg), .int (qp), .int (qu), .int (ql), .int (qe), .int (qb), .int (qw), .ref mvf, .int (qi), .int (qj), .int (qr), .ref mvq, .ref mvp, .ref mve]))]) (wr := [(mvs, .inl (cI, 4, .inl (vs))), (mvl, .inl (cI, 4, .inl (vl))), (mvc, .inl (cI, 240, .inl (vc)))]) ⟨hx, hb, hml, hown, hts⟩ (c_X5_lost l D cI cZ cR am mvs mvl mvc mvk mvt mvg mvh mvrk mvrt mvrg mvf mvq mvp mve qf qt qn qs qk qo qa qm qg qp qu ql qe qb qw qi qj qr (1 : Int32) h19) (cwV 1 hts gX5_cell_X5_lost rfl rfl rfl (by decide +kernel) ⟨Nat.le_of_ble_eq_true rfl, Nat.le_of_ble_eq_true rfl⟩) hK hP hD hS hA [0] [1, 2, 3] rfl rfl (by decide) (by decide) (by decide) (va_recv hK hP (ci := 5) (q0 := 0) rfl rfl) rfl rfl hl.1 (lv_room (Nat.le_of_ble_eq_true rfl)) dX5_cell_63 ⟨Nat.le_of_ble_eq_true rfl, Nat.le_of_ble_eq_true rfl⟩ (fun r u H locs hu hP hD hS => ?_)
      obtain ⟨rfl, rfl⟩ := hu
      have hP : va_P D vwCl [(am, .inr (5, [.int (o18.2), .int (qt), .ref mvs, .ref mvl, .ref mvc, .int (qn), .int (qs), .int (qk), .int (qo), .ref mvk, .ref mvt, .ref mvg, .int (qa), .int (qm), .ref mvh, .ref mvrk, .ref mvrt, .ref mvrg, .int (qg), .int (qp), .int (qu), .int (ql), .int (qe), .int (qb), .int (qw), .ref mvf, .int (qi), .int (qj), .int (qr), .ref mvq, .ref mvp, .ref mve])), (mvs, .inl (cI, 4, .inl (vs))), (mvl, .inl (cI, 4, .inl (vl))), (mvc, .inl (cI, 240, .inl (vc)))] H := hP.sub [3, 0, 1, 2] rfl
      have hD : va_D A [(am, .inr (5, [.int (o18.2), .int (qt), .ref mvs, .ref mvl, .ref mvc, .int (qn), .int (qs), .int (qk), .int (qo), .ref mvk, .ref mvt, .ref mvg, .int (qa), .int (qm), .ref mvh, .ref mvrk, .ref mvrt, .ref mvrg, .int (qg), .int (qp), .int (qu), .int (ql), .int (qe), .int (qb), .int (qw), .ref mvf, .int (qi), .int (qj), .int (qr), .ref mvq, .ref mvp, .ref mve])), (mvs, .inl (cI, 4, .inl (vs))), (mvl, .inl (cI, 4, .inl (vl))), (mvc, .inl (cI, 240, .inl (vc)))] := hD.sub [3, 0, 1, 2] (by decide) rfl
      obtain rfl := Option.some.inj hg
      exact rtl hQ hx hb hr hlocks hK hP hD hS dX5_cell_66 ⟨rfl, rfl⟩
  have hl : lv_has ls 4 [(0, .ref am), (1, .int (zs)), (2, .int (zi)), (3, .int (zl))] := hl
  rw [f_X5_cell] at hg
  refine lv_aload_n hx hb dX5_cell_0 rfl (lv_at hl 0 rfl) ?_
  refine lv_iconst (v := (0 : Int32)) hx hb dX5_cell_1 (by decide) ?_
  refine va_put (D := D) (ci := 5) (v := .int ((0 : Int32))) (ty := .int) (C := RX5) (T := TX5) (N := 32) hx hb hts inX5 tyX5 tyX5_ok nmX5 hown hK hP hD hS 0 rfl rfl 0 (by decide) (hts (.fieldLink RX5 53 "ScooterFlagsModel" "fault" "I") (by decide +kernel)) (fun _ h9 => h9) rfl (by decide +kernel) rfl rfl (Nat.le_of_ble_eq_true rfl) dX5_cell_2 (fun H locs hP hD hS => ?_)
  have hP : va_P D vwCl [(am, .inr (5, [.int ((0 : Int32)), .int (qt), .ref mvs, .ref mvl, .ref mvc, .int (qn), .int (qs), .int (qk), .int (qo), .ref mvk, .ref mvt, .ref mvg, .int (qa), .int (qm), .ref mvh, .ref mvrk, .ref mvrt, .ref mvrg, .int (qg), .int (qp), .int (qu), .int (ql), .int (qe), .int (qb), .int (qw), .ref mvf, .int (qi), .int (qj), .int (qr), .ref mvq, .ref mvp, .ref mve])), (mvs, .inl (cI, 4, .inl (vs))), (mvl, .inl (cI, 4, .inl (vl))), (mvc, .inl (cI, 240, .inl (vc)))] H := hP
  have hD : va_D A [(am, .inr (5, [.int ((0 : Int32)), .int (qt), .ref mvs, .ref mvl, .ref mvc, .int (qn), .int (qs), .int (qk), .int (qo), .ref mvk, .ref mvt, .ref mvg, .int (qa), .int (qm), .ref mvh, .ref mvrk, .ref mvrt, .ref mvrg, .int (qg), .int (qp), .int (qu), .int (ql), .int (qe), .int (qb), .int (qw), .ref mvf, .int (qi), .int (qj), .int (qr), .ref mvq, .ref mvp, .ref mve])), (mvs, .inl (cI, 4, .inl (vs))), (mvl, .inl (cI, 4, .inl (vl))), (mvc, .inl (cI, 240, .inl (vc)))] := hD
  refine lv_iload_n hx hb dX5_cell_5 rfl (lv_at hl 1 rfl) ?_
  obtain ⟨o1, h2, hg⟩ := bd hg
  refine xcSi (As := [.int (zs)]) (rest := []) (wc := []) (wr := [(am, .inr (5, [.int ((0 : Int32)), .int (qt), .ref mvs, .ref mvl, .ref mvc, .int (qn), .int (qs), .int (qk), .int (qo), .ref mvk, .ref mvt, .ref mvg, .int (qa), .int (qm), .ref mvh, .ref mvrk, .ref mvrt, .ref mvrg, .int (qg), .int (qp), .int (qu), .int (ql), .int (qe), .int (qb), .int (qw), .ref mvf, .int (qi), .int (qj), .int (qr), .ref mvq, .ref mvp, .ref mve])), (mvs, .inl (cI, 4, .inl (vs))), (mvl, .inl (cI, 4, .inl (vl))), (mvc, .inl (cI, 240, .inl (vc)))]) ⟨hx, hb, hml, hown, hts⟩ (c_X5_isSheet l D cI cZ cR zs h2) (cwS 1 hts gX5_cell_X5_isSheet rfl rfl rfl (by decide +kernel) ⟨Nat.le_of_ble_eq_true rfl, Nat.le_of_ble_eq_true rfl⟩) hK hP hD hS hA [] [0, 1, 2, 3] rfl rfl (by decide) (by decide) (by decide) rfl rfl hl.1 (lv_room (Nat.le_of_ble_eq_true rfl)) dX5_cell_6 ⟨Nat.le_of_ble_eq_true rfl, Nat.le_of_ble_eq_true rfl⟩ (fun r u H locs hu hP hD hS => ?_)
  obtain ⟨rfl, rfl⟩ := hu
  have hP : va_P D vwCl [(am, .inr (5, [.int ((0 : Int32)), .int (qt), .ref mvs, .ref mvl, .ref mvc, .int (qn), .int (qs), .int (qk), .int (qo), .ref mvk, .ref mvt, .ref mvg, .int (qa), .int (qm), .ref mvh, .ref mvrk, .ref mvrt, .ref mvrg, .int (qg), .int (qp), .int (qu), .int (ql), .int (qe), .int (qb), .int (qw), .ref mvf, .int (qi), .int (qj), .int (qr), .ref mvq, .ref mvp, .ref mve])), (mvs, .inl (cI, 4, .inl (vs))), (mvl, .inl (cI, 4, .inl (vl))), (mvc, .inl (cI, 240, .inl (vc)))] H := hP.sub [0, 1, 2, 3] rfl
  have hD : va_D A [(am, .inr (5, [.int ((0 : Int32)), .int (qt), .ref mvs, .ref mvl, .ref mvc, .int (qn), .int (qs), .int (qk), .int (qo), .ref mvk, .ref mvt, .ref mvg, .int (qa), .int (qm), .ref mvh, .ref mvrk, .ref mvrt, .ref mvrg, .int (qg), .int (qp), .int (qu), .int (ql), .int (qe), .int (qb), .int (qw), .ref mvf, .int (qi), .int (qj), .int (qr), .ref mvq, .ref mvp, .ref mve])), (mvs, .inl (cI, 4, .inl (vs))), (mvl, .inl (cI, 4, .inl (vl))), (mvc, .inl (cI, 240, .inl (vc)))] := hD.sub [0, 1, 2, 3] (by decide) rfl
  refine lv_if_eq (tgt := 19) hx hb dX5_cell_9 (by decide) (fun c3 => ?_) (fun c3 => ?_)
  · have hg := it hg c3
    refine lv_ldc2 (v := (-9223372036854775808 : Int64)) hx hb hown (hts (.constantLong RX5 57 (-9223372036854775808 : Int64)) (by decide +kernel)) dX5_cell_19 ?_
    obtain rfl := Option.some.inj hg
    exact rtl hQ hx hb hr hlocks hK hP hD hS dX5_cell_22 ⟨rfl, rfl⟩
  · have hg := ie hg c3
    refine lv_iload_n hx hb dX5_cell_12 rfl (lv_at hl 3 rfl) ?_
    obtain ⟨o4, h5, hg⟩ := bd hg
    refine xcSi (As := [.int (zl)]) (rest := []) (wc := []) (wr := [(am, .inr (5, [.int ((0 : Int32)), .int (qt), .ref mvs, .ref mvl, .ref mvc, .int (qn), .int (qs), .int (qk), .int (qo), .ref mvk, .ref mvt, .ref mvg, .int (qa), .int (qm), .ref mvh, .ref mvrk, .ref mvrt, .ref mvrg, .int (qg), .int (qp), .int (qu), .int (ql), .int (qe), .int (qb), .int (qw), .ref mvf, .int (qi), .int (qj), .int (qr), .ref mvq, .ref mvp, .ref mve])), (mvs, .inl (cI, 4, .inl (vs))), (mvl, .inl (cI, 4, .inl (vl))), (mvc, .inl (cI, 240, .inl (vc)))]) ⟨hx, hb, hml, hown, hts⟩ (c_X5_isSort l D cI cZ cR zl h5) (cwS 1 hts gX5_cell_X5_isSort rfl rfl rfl (by decide +kernel) ⟨Nat.le_of_ble_eq_true rfl, Nat.le_of_ble_eq_true rfl⟩) hK hP hD hS hA [] [0, 1, 2, 3] rfl rfl (by decide) (by decide) (by decide) rfl rfl hl.1 (lv_room (Nat.le_of_ble_eq_true rfl)) dX5_cell_13 ⟨Nat.le_of_ble_eq_true rfl, Nat.le_of_ble_eq_true rfl⟩ (fun r u H locs hu hP hD hS => ?_)
    obtain ⟨rfl, rfl⟩ := hu
    have hP : va_P D vwCl [(am, .inr (5, [.int ((0 : Int32)), .int (qt), .ref mvs, .ref mvl, .ref mvc, .int (qn), .int (qs), .int (qk), .int (qo), .ref mvk, .ref mvt, .ref mvg, .int (qa), .int (qm), .ref mvh, .ref mvrk, .ref mvrt, .ref mvrg, .int (qg), .int (qp), .int (qu), .int (ql), .int (qe), .int (qb), .int (qw), .ref mvf, .int (qi), .int (qj), .int (qr), .ref mvq, .ref mvp, .ref mve])), (mvs, .inl (cI, 4, .inl (vs))), (mvl, .inl (cI, 4, .inl (vl))), (mvc, .inl (cI, 240, .inl (vc)))] H := hP.sub [0, 1, 2, 3] rfl
    have hD : va_D A [(am, .inr (5, [.int ((0 : Int32)), .int (qt), .ref mvs, .ref mvl, .ref mvc, .int (qn), .int (qs), .int (qk), .int (qo), .ref mvk, .ref mvt, .ref mvg, .int (qa), .int (qm), .ref mvh, .ref mvrk, .ref mvrt, .ref mvrg, .int (qg), .int (qp), .int (qu), .int (ql), .int (qe), .int (qb), .int (qw), .ref mvf, .int (qi), .int (qj), .int (qr), .ref mvq, .ref mvp, .ref mve])), (mvs, .inl (cI, 4, .inl (vs))), (mvl, .inl (cI, 4, .inl (vl))), (mvc, .inl (cI, 240, .inl (vc)))] := hD.sub [0, 1, 2, 3] (by decide) rfl
    refine lv_if_ne (tgt := 23) hx hb dX5_cell_16 (by decide) (fun c6 => ?_) (fun c6 => ?_)
    · have hg := ie hg c6
      refine lv_aload_n hx hb dX5_cell_23 rfl (lv_at hl 0 rfl) ?_
      refine va_get (D := D) (ci := 5) (v := .ref mvs) (C := RX5) (T := TX5) (N := 32) hx hb hts inX5 hown hK hP 0 rfl rfl 2 (by decide) (hts (.fieldLink RX5 9 "ScooterFlagsModel" "sorts" "[I") (by decide +kernel)) (fun _ h9 => h9) rfl dX5_cell_24 ?_
      refine lv_iload_n hx hb dX5_cell_27 rfl (lv_at hl 1 rfl) ?_
      obtain ⟨g7, hg⟩ := gxo hg
      refine va_iald hx hb hK hP 1 0 rfl rfl g7 dX5_cell_28 ?_
      refine W.eq (g2 := F0 m 29 ls [.int ((vs zs.toNatClampNeg))]) rfl ?_
      refine lv_bipush (v := (-9 : Int32)) hx hb dX5_cell_29 (by decide) ?_
      refine lv_icmp_eq (tgt := 50) hx hb dX5_cell_31 (by decide) (fun c8 => ?_) (fun c8 => ?_)
      · have hg := it hg c8
        exact bk_50 (0 : Int32) hg _ _ hP hD hS _ (lv_sub hl [0, 1, 2] rfl)
      · have hg := ie hg c8
        refine lv_aload_n hx hb dX5_cell_34 rfl (lv_at hl 0 rfl) ?_
        refine va_get (D := D) (ci := 5) (v := .ref mvs) (C := RX5) (T := TX5) (N := 32) hx hb hts inX5 hown hK hP 0 rfl rfl 2 (by decide) (hts (.fieldLink RX5 9 "ScooterFlagsModel" "sorts" "[I") (by decide +kernel)) (fun _ h9 => h9) rfl dX5_cell_35 ?_
        refine lv_iload_n hx hb dX5_cell_38 rfl (lv_at hl 1 rfl) ?_
        obtain ⟨g20, hg⟩ := gxo hg
        refine va_iald hx hb hK hP 1 0 rfl rfl g20 dX5_cell_39 ?_
        refine W.eq (g2 := F0 m 40 ls [.int ((vs zs.toNatClampNeg))]) rfl ?_
        refine lv_iload_n hx hb dX5_cell_40 rfl (lv_at hl 3 rfl) ?_
        refine lv_icmp_eq (tgt := 50) hx hb dX5_cell_41 (by decide) (fun c21 => ?_) (fun c21 => ?_)
        · have hg := it hg c21
          exact bk_50 (0 : Int32) hg _ _ hP hD hS _ (lv_sub hl [0, 1, 2] rfl)
        · have hg := ie hg c21
          refine lv_aload_n hx hb dX5_cell_44 rfl (lv_at hl 0 rfl) ?_
          refine lv_iconst (v := (2 : Int32)) hx hb dX5_cell_45 (by decide) ?_
          obtain ⟨o22, h23, hg⟩ := bd hg
          refine xcVl (As := [.int ((2 : Int32))]) (rest := []) (wc := [(am, .inr (5, [.int ((0 : Int32)), .int (qt), .ref mvs, .ref mvl, .ref mvc, .int (qn), .int (qs), .int (qk), .int (qo), .ref mvk, .ref mvt, .ref mvg, .int (qa), .int (qm), .ref mvh, .ref mvrk, .ref mvrt, .ref mvrg, .int (qg), .int (qp), .int (qu), .int (ql), .int (qe), .int (qb), .int (qw), .ref mvf, .int (qi), .int (qj), .int (qr), .ref mvq, .ref mvp, .ref mve]))]) (wr := [(mvs, .inl (cI, 4, .inl (vs))), (mvl, .inl (cI, 4, .inl (vl))), (mvc, .inl (cI, 240, .inl (vc)))]) ⟨hx, hb, hml, hown, hts⟩ (c_X5_lost l D cI cZ cR am mvs mvl mvc mvk mvt mvg mvh mvrk mvrt mvrg mvf mvq mvp mve (0 : Int32) qt qn qs qk qo qa qm qg qp qu ql qe qb qw qi qj qr (2 : Int32) h23) (cwV 1 hts gX5_cell_X5_lost rfl rfl rfl (by decide +kernel) ⟨Nat.le_of_ble_eq_true rfl, Nat.le_of_ble_eq_true rfl⟩) hK hP hD hS hA [0] [1, 2, 3] rfl rfl (by decide) (by decide) (by decide) (va_recv hK hP (ci := 5) (q0 := 0) rfl rfl) rfl rfl hl.1 (lv_room (Nat.le_of_ble_eq_true rfl)) dX5_cell_46 ⟨Nat.le_of_ble_eq_true rfl, Nat.le_of_ble_eq_true rfl⟩ (fun r u H locs hu hP hD hS => ?_)
          obtain ⟨rfl, rfl⟩ := hu
          have hP : va_P D vwCl [(am, .inr (5, [.int (o22.2), .int (qt), .ref mvs, .ref mvl, .ref mvc, .int (qn), .int (qs), .int (qk), .int (qo), .ref mvk, .ref mvt, .ref mvg, .int (qa), .int (qm), .ref mvh, .ref mvrk, .ref mvrt, .ref mvrg, .int (qg), .int (qp), .int (qu), .int (ql), .int (qe), .int (qb), .int (qw), .ref mvf, .int (qi), .int (qj), .int (qr), .ref mvq, .ref mvp, .ref mve])), (mvs, .inl (cI, 4, .inl (vs))), (mvl, .inl (cI, 4, .inl (vl))), (mvc, .inl (cI, 240, .inl (vc)))] H := hP.sub [3, 0, 1, 2] rfl
          have hD : va_D A [(am, .inr (5, [.int (o22.2), .int (qt), .ref mvs, .ref mvl, .ref mvc, .int (qn), .int (qs), .int (qk), .int (qo), .ref mvk, .ref mvt, .ref mvg, .int (qa), .int (qm), .ref mvh, .ref mvrk, .ref mvrt, .ref mvrg, .int (qg), .int (qp), .int (qu), .int (ql), .int (qe), .int (qb), .int (qw), .ref mvf, .int (qi), .int (qj), .int (qr), .ref mvq, .ref mvp, .ref mve])), (mvs, .inl (cI, 4, .inl (vs))), (mvl, .inl (cI, 4, .inl (vl))), (mvc, .inl (cI, 240, .inl (vc)))] := hD.sub [3, 0, 1, 2] (by decide) rfl
          obtain rfl := Option.some.inj hg
          exact rtl hQ hx hb hr hlocks hK hP hD hS dX5_cell_49 ⟨rfl, rfl⟩
    · have hg := it hg c6
      refine lv_ldc2 (v := (-9223372036854775808 : Int64)) hx hb hown (hts (.constantLong RX5 57 (-9223372036854775808 : Int64)) (by decide +kernel)) dX5_cell_19 ?_
      obtain rfl := Option.some.inj hg
      exact rtl hQ hx hb hr hlocks hK hP hD hS dX5_cell_22 ⟨rfl, rfl⟩
def f_X5_copy_L166 (zs : Int32) (zi : Int32) (zt : Int32) (zq : Int32) (zn : Int32) (k227 : Int32 → (Nat → Int32) → Option (Int32 × Int32 × (Nat → Int32))) : Nat → Int32 → Int32 → Int32 → (Nat → Int32) → Option (Int32 × Int32 × (Nat → Int32))
  | 0, _, _, _, _ => none
  | n + 1, x7, x8, qf, vc => if zn ≤ x8 then (k227 qf vc) else (if x7 = 0 then (gx ((((60 : Int32) * zs) + zi) + x8) 240 (gx ((((60 : Int32) * zt) + zq) + x8) 240 (f_X5_copy_L166 zs zi zt zq zn k227 n x7 (x8 + (1 : Int32)) qf (upd vc ((((60 : Int32) * zt) + zq) + x8).toNatClampNeg (vc ((((60 : Int32) * zs) + zi) + x8).toNatClampNeg))))) else (gx ((((60 : Int32) * zs) + zi) + ((zn - (1 : Int32)) - x8)) 240 (gx ((((60 : Int32) * zt) + zq) + ((zn - (1 : Int32)) - x8)) 240 (f_X5_copy_L166 zs zi zt zq zn k227 n x7 (x8 + (1 : Int32)) qf (upd vc ((((60 : Int32) * zt) + zq) + ((zn - (1 : Int32)) - x8)).toNatClampNeg (vc ((((60 : Int32) * zs) + zi) + ((zn - (1 : Int32)) - x8)).toNatClampNeg))))))
def f_X5_copy_161 (zs : Int32) (zi : Int32) (zt : Int32) (zq : Int32) (zn : Int32) (y0 : Int32) (qf : Int32) (vc : Nat → Int32) : Option (Int32 × Int32 × (Nat → Int32)) :=
  f_X5_copy_L166 zs zi zt zq zn (fun (qf : Int32) (vc : Nat → Int32) => some (zn, qf, vc)) 100 y0 (0 : Int32) qf vc
def f_X5_copy_110 (vl : Nat → Int32) (zs : Int32) (zi : Int32) (zt : Int32) (zq : Int32) (zn : Int32) (y0 : Int32) (qf : Int32) (vc : Nat → Int32) : Option (Int32 × Int32 × (Nat → Int32)) :=
  if y0 = 0 then ((f_X5_fails (3 : Int32)).bind (fun o18 => some (o18.1, o18.2, vc))) else (gx zs 4 (if ((vl zs.toNatClampNeg) - zi) < zn then ((f_X5_fails (3 : Int32)).bind (fun o22 => some (o22.1, o22.2, vc))) else (gx zt 4 (if zn ≤ ((vl zt.toNatClampNeg) - zq) then (if zq ≤ zi then (f_X5_copy_161 zs zi zt zq zn (0 : Int32) qf vc) else (f_X5_copy_161 zs zi zt zq zn (1 : Int32) qf vc)) else ((f_X5_fails (3 : Int32)).bind (fun o33 => some (o33.1, o33.2, vc)))))))
def f_X5_copy_109 (vl : Nat → Int32) (zs : Int32) (zi : Int32) (zt : Int32) (zq : Int32) (zn : Int32) (qf : Int32) (vc : Nat → Int32) : Option (Int32 × Int32 × (Nat → Int32)) :=
  f_X5_copy_110 vl zs zi zt zq zn (0 : Int32) qf vc
def f_X5_copy (vs : Nat → Int32) (vl : Nat → Int32) (vc : Nat → Int32) (zs : Int32) (zi : Int32) (zt : Int32) (zq : Int32) (zn : Int32) : Option (Int32 × Int32 × (Nat → Int32)) :=
  (f_X5_isSheet zs).bind (fun o1 => if o1 = 0 then (some ((-1 : Int32), (0 : Int32), vc)) else ((f_X5_isSheet zt).bind (fun o4 => if o4 = 0 then (some ((-1 : Int32), (0 : Int32), vc)) else (gx zs 4 (if (vs zs.toNatClampNeg) = (-9 : Int32) then ((f_X5_fails (1 : Int32)).bind (fun o9 => some (o9.1, o9.2, vc))) else (gx zt 4 (if (vs zt.toNatClampNeg) = (-9 : Int32) then ((f_X5_fails (1 : Int32)).bind (fun o43 => some (o43.1, o43.2, vc))) else (gx zs 4 (gx zt 4 (if (vs zs.toNatClampNeg) = (vs zt.toNatClampNeg) then (if zi < 0 then (f_X5_copy_109 vl zs zi zt zq zn (0 : Int32) vc) else (if zq < 0 then (f_X5_copy_109 vl zs zi zt zq zn (0 : Int32) vc) else (if zn < 0 then (f_X5_copy_109 vl zs zi zt zq zn (0 : Int32) vc) else (gx zs 4 (if (vl zs.toNatClampNeg) < zi then (f_X5_copy_109 vl zs zi zt zq zn (0 : Int32) vc) else (gx zt 4 (if (vl zt.toNatClampNeg) < zq then (f_X5_copy_109 vl zs zi zt zq zn (0 : Int32) vc) else (f_X5_copy_110 vl zs zi zt zq zn (1 : Int32) (0 : Int32) vc)))))))) else ((f_X5_fails (2 : Int32)).bind (fun o41 => some (o41.1, o41.2, vc)))))))))))))
set_option maxHeartbeats 4000000 in
set_option maxRecDepth 100000 in
theorem c_X5_copy (l : Launch) (D : va_G) (cI cZ cR : ClassId) (am : Nat) (mvs : Nat) (mvl : Nat) (mvc : Nat) (mvk : Nat) (mvt : Nat) (mvg : Nat) (mvh : Nat) (mvrk : Nat) (mvrt : Nat) (mvrg : Nat) (mvf : Nat) (mvq : Nat) (mvp : Nat) (mve : Nat) (qf : Int32) (qt : Int32) (qn : Int32) (qs : Int32) (qk : Int32) (qo : Int32) (qa : Int32) (qm : Int32) (qg : Int32) (qp : Int32) (qu : Int32) (ql : Int32) (qe : Int32) (qb : Int32) (qw : Int32) (qi : Int32) (qj : Int32) (qr : Int32) (vs : Nat → Int32) (vl : Nat → Int32) (vc : Nat → Int32) (zs : Int32) (zi : Int32) (zt : Int32) (zq : Int32) (zn : Int32) {res : Int32 × Int32 × (Nat → Int32)} (hg : f_X5_copy vs vl vc zs zi zt zq zn = some res) : MI l yX5_copy wsX5_copy ({ frames := 2, cells := 0, slots := 0, locals := 42 }) D (T3 cI cZ cR) [(am, .inr (5, [.int (qf), .int (qt), .ref mvs, .ref mvl, .ref mvc, .int (qn), .int (qs), .int (qk), .int (qo), .ref mvk, .ref mvt, .ref mvg, .int (qa), .int (qm), .ref mvh, .ref mvrk, .ref mvrt, .ref mvrg, .int (qg), .int (qp), .int (qu), .int (ql), .int (qe), .int (qb), .int (qw), .ref mvf, .int (qi), .int (qj), .int (qr), .ref mvq, .ref mvp, .ref mve])), (mvs, .inl (cI, 4, .inl (vs))), (mvl, .inl (cI, 4, .inl (vl))), (mvc, .inl (cI, 240, .inl (vc)))] [.ref am, .int (zs), .int (zi), .int (zt), .int (zq), .int (zn)] (fun r u => res.1 = r ∧ u = [(am, .inr (5, [.int (res.2.1), .int (qt), .ref mvs, .ref mvl, .ref mvc, .int (qn), .int (qs), .int (qk), .int (qo), .ref mvk, .ref mvt, .ref mvg, .int (qa), .int (qm), .ref mvh, .ref mvrk, .ref mvrt, .ref mvrg, .int (qg), .int (qp), .int (qu), .int (ql), .int (qe), .int (qb), .int (qw), .ref mvf, .int (qi), .int (qj), .int (qr), .ref mvq, .ref mvp, .ref mve])), (mvs, .inl (cI, 4, .inl (vs))), (mvl, .inl (cI, 4, .inl (vl))), (mvc, .inl (cI, 240, .inl (res.2.2)))]) := by
  refine entI (Rn := RX5) (by decide +kernel) rfl rfl (Nat.le_of_ble_eq_true rfl) (fun p e s m args below meth c A Q hx hb hr hml hts hown hlocks hA hP hD hK hS ls hl hQ => ?_)
  have inX5 : ∀ w ∈ u_ws RX5 TX5 32, w ∈ wsX5_copy := by decide +kernel
  have lp_166 : ∀ (k227 : Int32 → (Nat → Int32) → Option (Int32 × Int32 × (Nat → Int32))) (hk227 : ∀ (qf : Int32) (vc : Nat → Int32), k227 qf vc = some res → ∀ (H : Heap) (locs : List Loc), va_P D vwCl [(am, .inr (5, [.int (qf), .int (qt), .ref mvs, .ref mvl, .ref mvc, .int (qn), .int (qs), .int (qk), .int (qo), .ref mvk, .ref mvt, .ref mvg, .int (qa), .int (qm), .ref mvh, .ref mvrk, .ref mvrt, .ref mvrg, .int (qg), .int (qp), .int (qu), .int (ql), .int (qe), .int (qb), .int (qw), .ref mvf, .int (qi), .int (qj), .int (qr), .ref mvq, .ref mvp, .ref mve])), (mvs, .inl (cI, 4, .inl (vs))), (mvl, .inl (cI, 4, .inl (vl))), (mvc, .inl (cI, 240, .inl (vc)))] H → va_D A [(am, .inr (5, [.int (qf), .int (qt), .ref mvs, .ref mvl, .ref mvc, .int (qn), .int (qs), .int (qk), .int (qo), .ref mvk, .ref mvt, .ref mvg, .int (qa), .int (qm), .ref mvh, .ref mvrk, .ref mvrt, .ref mvrg, .int (qg), .int (qp), .int (qu), .int (ql), .int (qe), .int (qb), .int (qw), .ref mvf, .int (qi), .int (qj), .int (qr), .ref mvq, .ref mvp, .ref mve])), (mvs, .inl (cI, 4, .inl (vs))), (mvl, .inl (cI, 4, .inl (vl))), (mvc, .inl (cI, 240, .inl (vc)))] → va_S A s.heap H locs → ∀ (ls : Array Slot), lv_has ls 10 [(5, .int (zn))] → W p l e ({ frames := 2, cells := 0, slots := 0, locals := 42 }) s m args below meth c H locs 0 0 Q (F0 m 227 ls [])) (n : Nat) (x7 : Int32) (x8 : Int32) (qf : Int32) (vc : Nat → Int32), f_X5_copy_L166 zs zi zt zq zn k227 n x7 x8 qf vc = some res → ∀ (H : Heap) (locs : List Loc), va_P D vwCl [(am, .inr (5, [.int (qf), .int (qt), .ref mvs, .ref mvl, .ref mvc, .int (qn), .int (qs), .int (qk), .int (qo), .ref mvk, .ref mvt, .ref mvg, .int (qa), .int (qm), .ref mvh, .ref mvrk, .ref mvrt, .ref mvrg, .int (qg), .int (qp), .int (qu), .int (ql), .int (qe), .int (qb), .int (qw), .ref mvf, .int (qi), .int (qj), .int (qr), .ref mvq, .ref mvp, .ref mve])), (mvs, .inl (cI, 4, .inl (vs))), (mvl, .inl (cI, 4, .inl (vl))), (mvc, .inl (cI, 240, .inl (vc)))] H → va_D A [(am, .inr (5, [.int (qf), .int (qt), .ref mvs, .ref mvl, .ref mvc, .int (qn), .int (qs), .int (qk), .int (qo), .ref mvk, .ref mvt, .ref mvg, .int (qa), .int (qm), .ref mvh, .ref mvrk, .ref mvrt, .ref mvrg, .int (qg), .int (qp), .int (qu), .int (ql), .int (qe), .int (qb), .int (qw), .ref mvf, .int (qi), .int (qj), .int (qr), .ref mvq, .ref mvp, .ref mve])), (mvs, .inl (cI, 4, .inl (vs))), (mvl, .inl (cI, 4, .inl (vl))), (mvc, .inl (cI, 240, .inl (vc)))] → va_S A s.heap H locs → ∀ (ls : Array Slot), lv_has ls 10 [(0, .ref am), (1, .int (zs)), (2, .int (zi)), (3, .int (zt)), (4, .int (zq)), (5, .int (zn)), (7, .int (x7)), (8, .int (x8))] → W p l e ({ frames := 2, cells := 0, slots := 0, locals := 42 }) s m args below meth c H locs 0 0 Q (F0 m 166 ls []) := by
    intro k227 hk227 n
    induction n with
    | zero => intro x7 x8 qf vc hg; rw [f_X5_copy_L166] at hg; cases hg
    | succ n ih =>
      intro x7 x8 qf vc hg H locs hP hD hS ls hl
      rw [f_X5_copy_L166] at hg
      refine lv_iload hx hb dX5_copy_166 (lv_at hl 7 rfl) ?_
      refine lv_iload hx hb dX5_copy_168 (lv_at hl 5 rfl) ?_
      refine lv_icmp_ge (tgt := 227) hx hb dX5_copy_170 (by decide) (fun c27 => ?_) (fun c27 => ?_)
      · have hg := it hg c27
        exact hk227 qf vc hg _ _ hP hD hS _ (lv_sub hl [5] rfl)
      · have hg := ie hg c27
        refine lv_iload hx hb dX5_copy_173 (lv_at hl 6 rfl) ?_
        refine lv_if_eq (tgt := 188) hx hb dX5_copy_175 (by decide) (fun c28 => ?_) (fun c28 => ?_)
        · have hg := it hg c28
          refine lv_iload hx hb dX5_copy_188 (lv_at hl 7 rfl) ?_
          refine lv_istore (lv' := [(9, .int (x8)), (0, .ref am), (1, .int (zs)), (2, .int (zi)), (3, .int (zt)), (4, .int (zq)), (5, .int (zn)), (7, .int (x7)), (8, .int (x8))]) hx hb dX5_copy_190 hl (by decide) rfl (fun ls hl => ?_)
          refine lv_aload_n hx hb dX5_copy_192 rfl (lv_at hl 1 rfl) ?_
          refine va_get (D := D) (ci := 5) (v := .ref mvc) (C := RX5) (T := TX5) (N := 32) hx hb hts inX5 hown hK hP 0 rfl rfl 4 (by decide) (hts (.fieldLink RX5 16 "ScooterFlagsModel" "cells" "[I") (by decide +kernel)) (fun _ h9 => h9) rfl dX5_copy_193 ?_
          refine lv_bipush (v := (60 : Int32)) hx hb dX5_copy_196 (by decide) ?_
          refine lv_iload_n hx hb dX5_copy_198 rfl (lv_at hl 4 rfl) ?_
          refine lv_imul hx hb dX5_copy_199 ?_
          refine lv_iload hx hb dX5_copy_200 (lv_at hl 5 rfl) ?_
          refine lv_iadd hx hb dX5_copy_202 ?_
          refine lv_iload hx hb dX5_copy_203 (lv_at hl 0 rfl) ?_
          refine lv_iadd hx hb dX5_copy_205 ?_
          refine lv_aload_n hx hb dX5_copy_206 rfl (lv_at hl 1 rfl) ?_
          refine va_get (D := D) (ci := 5) (v := .ref mvc) (C := RX5) (T := TX5) (N := 32) hx hb hts inX5 hown hK hP 0 rfl rfl 4 (by decide) (hts (.fieldLink RX5 16 "ScooterFlagsModel" "cells" "[I") (by decide +kernel)) (fun _ h9 => h9) rfl dX5_copy_207 ?_
          refine lv_bipush (v := (60 : Int32)) hx hb dX5_copy_210 (by decide) ?_
          refine lv_iload_n hx hb dX5_copy_212 rfl (lv_at hl 2 rfl) ?_
          refine lv_imul hx hb dX5_copy_213 ?_
          refine lv_iload_n hx hb dX5_copy_214 rfl (lv_at hl 3 rfl) ?_
          refine lv_iadd hx hb dX5_copy_215 ?_
          refine lv_iload hx hb dX5_copy_216 (lv_at hl 0 rfl) ?_
          refine lv_iadd hx hb dX5_copy_218 ?_
          obtain ⟨g29, hg⟩ := gxo hg
          refine va_iald hx hb hK hP 3 0 rfl rfl g29 dX5_copy_219 ?_
          refine W.eq (g2 := F0 m 220 ls [.int ((vc ((((60 : Int32) * zs) + zi) + x8).toNatClampNeg)), .int (((((60 : Int32) * zt) + zq) + x8)), .ref mvc]) rfl ?_
          obtain ⟨g30, hg⟩ := gxo hg
          refine va_iast hx hb hK hP hD hS 3 0 rfl rfl g30 dX5_copy_220 (fun H locs hP hD hS => ?_)
          have hP : va_P D vwCl [(am, .inr (5, [.int (qf), .int (qt), .ref mvs, .ref mvl, .ref mvc, .int (qn), .int (qs), .int (qk), .int (qo), .ref mvk, .ref mvt, .ref mvg, .int (qa), .int (qm), .ref mvh, .ref mvrk, .ref mvrt, .ref mvrg, .int (qg), .int (qp), .int (qu), .int (ql), .int (qe), .int (qb), .int (qw), .ref mvf, .int (qi), .int (qj), .int (qr), .ref mvq, .ref mvp, .ref mve])), (mvs, .inl (cI, 4, .inl (vs))), (mvl, .inl (cI, 4, .inl (vl))), (mvc, .inl (cI, 240, .inl ((upd vc ((((60 : Int32) * zt) + zq) + x8).toNatClampNeg (vc ((((60 : Int32) * zs) + zi) + x8).toNatClampNeg)))))] H := hP
          have hD : va_D A [(am, .inr (5, [.int (qf), .int (qt), .ref mvs, .ref mvl, .ref mvc, .int (qn), .int (qs), .int (qk), .int (qo), .ref mvk, .ref mvt, .ref mvg, .int (qa), .int (qm), .ref mvh, .ref mvrk, .ref mvrt, .ref mvrg, .int (qg), .int (qp), .int (qu), .int (ql), .int (qe), .int (qb), .int (qw), .ref mvf, .int (qi), .int (qj), .int (qr), .ref mvq, .ref mvp, .ref mve])), (mvs, .inl (cI, 4, .inl (vs))), (mvl, .inl (cI, 4, .inl (vl))), (mvc, .inl (cI, 240, .inl ((upd vc ((((60 : Int32) * zt) + zq) + x8).toNatClampNeg (vc ((((60 : Int32) * zs) + zi) + x8).toNatClampNeg)))))] := hD
          refine lv_iinc (v := (x8 + (1 : Int32))) (lv' := [(8, .int ((x8 + (1 : Int32)))), (9, .int (x8)), (0, .ref am), (1, .int (zs)), (2, .int (zi)), (3, .int (zt)), (4, .int (zq)), (5, .int (zn)), (7, .int (x7))]) hx hb dX5_copy_221 hl (k := 8) rfl rfl (by decide) rfl (fun ls hl => ?_)
          refine lv_goto (tgt := 166) hx hb dX5_copy_224 (by decide) ?_
          exact ih x7 (x8 + (1 : Int32)) qf (upd vc ((((60 : Int32) * zt) + zq) + x8).toNatClampNeg (vc ((((60 : Int32) * zs) + zi) + x8).toNatClampNeg)) hg _ _ hP hD hS _ (lv_sub hl [2, 3, 4, 5, 6, 7, 8, 0] rfl)
        · have hg := ie hg c28
          refine lv_iload hx hb dX5_copy_178 (lv_at hl 5 rfl) ?_
          refine lv_iconst (v := (1 : Int32)) hx hb dX5_copy_180 (by decide) ?_
          refine lv_isub hx hb dX5_copy_181 ?_
          refine lv_iload hx hb dX5_copy_182 (lv_at hl 7 rfl) ?_
          refine lv_isub hx hb dX5_copy_184 ?_
          refine lv_goto (tgt := 190) hx hb dX5_copy_185 (by decide) ?_
          refine lv_istore (lv' := [(9, .int (((zn - (1 : Int32)) - x8))), (0, .ref am), (1, .int (zs)), (2, .int (zi)), (3, .int (zt)), (4, .int (zq)), (5, .int (zn)), (7, .int (x7)), (8, .int (x8))]) hx hb dX5_copy_190 hl (by decide) rfl (fun ls hl => ?_)
          refine lv_aload_n hx hb dX5_copy_192 rfl (lv_at hl 1 rfl) ?_
          refine va_get (D := D) (ci := 5) (v := .ref mvc) (C := RX5) (T := TX5) (N := 32) hx hb hts inX5 hown hK hP 0 rfl rfl 4 (by decide) (hts (.fieldLink RX5 16 "ScooterFlagsModel" "cells" "[I") (by decide +kernel)) (fun _ h9 => h9) rfl dX5_copy_193 ?_
          refine lv_bipush (v := (60 : Int32)) hx hb dX5_copy_196 (by decide) ?_
          refine lv_iload_n hx hb dX5_copy_198 rfl (lv_at hl 4 rfl) ?_
          refine lv_imul hx hb dX5_copy_199 ?_
          refine lv_iload hx hb dX5_copy_200 (lv_at hl 5 rfl) ?_
          refine lv_iadd hx hb dX5_copy_202 ?_
          refine lv_iload hx hb dX5_copy_203 (lv_at hl 0 rfl) ?_
          refine lv_iadd hx hb dX5_copy_205 ?_
          refine lv_aload_n hx hb dX5_copy_206 rfl (lv_at hl 1 rfl) ?_
          refine va_get (D := D) (ci := 5) (v := .ref mvc) (C := RX5) (T := TX5) (N := 32) hx hb hts inX5 hown hK hP 0 rfl rfl 4 (by decide) (hts (.fieldLink RX5 16 "ScooterFlagsModel" "cells" "[I") (by decide +kernel)) (fun _ h9 => h9) rfl dX5_copy_207 ?_
          refine lv_bipush (v := (60 : Int32)) hx hb dX5_copy_210 (by decide) ?_
          refine lv_iload_n hx hb dX5_copy_212 rfl (lv_at hl 2 rfl) ?_
          refine lv_imul hx hb dX5_copy_213 ?_
          refine lv_iload_n hx hb dX5_copy_214 rfl (lv_at hl 3 rfl) ?_
          refine lv_iadd hx hb dX5_copy_215 ?_
          refine lv_iload hx hb dX5_copy_216 (lv_at hl 0 rfl) ?_
          refine lv_iadd hx hb dX5_copy_218 ?_
          obtain ⟨g31, hg⟩ := gxo hg
          refine va_iald hx hb hK hP 3 0 rfl rfl g31 dX5_copy_219 ?_
          refine W.eq (g2 := F0 m 220 ls [.int ((vc ((((60 : Int32) * zs) + zi) + ((zn - (1 : Int32)) - x8)).toNatClampNeg)), .int (((((60 : Int32) * zt) + zq) + ((zn - (1 : Int32)) - x8))), .ref mvc]) rfl ?_
          obtain ⟨g32, hg⟩ := gxo hg
          refine va_iast hx hb hK hP hD hS 3 0 rfl rfl g32 dX5_copy_220 (fun H locs hP hD hS => ?_)
          have hP : va_P D vwCl [(am, .inr (5, [.int (qf), .int (qt), .ref mvs, .ref mvl, .ref mvc, .int (qn), .int (qs), .int (qk), .int (qo), .ref mvk, .ref mvt, .ref mvg, .int (qa), .int (qm), .ref mvh, .ref mvrk, .ref mvrt, .ref mvrg, .int (qg), .int (qp), .int (qu), .int (ql), .int (qe), .int (qb), .int (qw), .ref mvf, .int (qi), .int (qj), .int (qr), .ref mvq, .ref mvp, .ref mve])), (mvs, .inl (cI, 4, .inl (vs))), (mvl, .inl (cI, 4, .inl (vl))), (mvc, .inl (cI, 240, .inl ((upd vc ((((60 : Int32) * zt) + zq) + ((zn - (1 : Int32)) - x8)).toNatClampNeg (vc ((((60 : Int32) * zs) + zi) + ((zn - (1 : Int32)) - x8)).toNatClampNeg)))))] H := hP
          have hD : va_D A [(am, .inr (5, [.int (qf), .int (qt), .ref mvs, .ref mvl, .ref mvc, .int (qn), .int (qs), .int (qk), .int (qo), .ref mvk, .ref mvt, .ref mvg, .int (qa), .int (qm), .ref mvh, .ref mvrk, .ref mvrt, .ref mvrg, .int (qg), .int (qp), .int (qu), .int (ql), .int (qe), .int (qb), .int (qw), .ref mvf, .int (qi), .int (qj), .int (qr), .ref mvq, .ref mvp, .ref mve])), (mvs, .inl (cI, 4, .inl (vs))), (mvl, .inl (cI, 4, .inl (vl))), (mvc, .inl (cI, 240, .inl ((upd vc ((((60 : Int32) * zt) + zq) + ((zn - (1 : Int32)) - x8)).toNatClampNeg (vc ((((60 : Int32) * zs) + zi) + ((zn - (1 : Int32)) - x8)).toNatClampNeg)))))] := hD
          refine lv_iinc (v := (x8 + (1 : Int32))) (lv' := [(8, .int ((x8 + (1 : Int32)))), (9, .int (((zn - (1 : Int32)) - x8))), (0, .ref am), (1, .int (zs)), (2, .int (zi)), (3, .int (zt)), (4, .int (zq)), (5, .int (zn)), (7, .int (x7))]) hx hb dX5_copy_221 hl (k := 8) rfl rfl (by decide) rfl (fun ls hl => ?_)
          refine lv_goto (tgt := 166) hx hb dX5_copy_224 (by decide) ?_
          exact ih x7 (x8 + (1 : Int32)) qf (upd vc ((((60 : Int32) * zt) + zq) + ((zn - (1 : Int32)) - x8)).toNatClampNeg (vc ((((60 : Int32) * zs) + zi) + ((zn - (1 : Int32)) - x8)).toNatClampNeg)) hg _ _ hP hD hS _ (lv_sub hl [2, 3, 4, 5, 6, 7, 8, 0] rfl)
  have bk_161 : ∀ (y0 : Int32) (qf : Int32) (vc : Nat → Int32), f_X5_copy_161 zs zi zt zq zn y0 qf vc = some res → ∀ (H : Heap) (locs : List Loc), va_P D vwCl [(am, .inr (5, [.int (qf), .int (qt), .ref mvs, .ref mvl, .ref mvc, .int (qn), .int (qs), .int (qk), .int (qo), .ref mvk, .ref mvt, .ref mvg, .int (qa), .int (qm), .ref mvh, .ref mvrk, .ref mvrt, .ref mvrg, .int (qg), .int (qp), .int (qu), .int (ql), .int (qe), .int (qb), .int (qw), .ref mvf, .int (qi), .int (qj), .int (qr), .ref mvq, .ref mvp, .ref mve])), (mvs, .inl (cI, 4, .inl (vs))), (mvl, .inl (cI, 4, .inl (vl))), (mvc, .inl (cI, 240, .inl (vc)))] H → va_D A [(am, .inr (5, [.int (qf), .int (qt), .ref mvs, .ref mvl, .ref mvc, .int (qn), .int (qs), .int (qk), .int (qo), .ref mvk, .ref mvt, .ref mvg, .int (qa), .int (qm), .ref mvh, .ref mvrk, .ref mvrt, .ref mvrg, .int (qg), .int (qp), .int (qu), .int (ql), .int (qe), .int (qb), .int (qw), .ref mvf, .int (qi), .int (qj), .int (qr), .ref mvq, .ref mvp, .ref mve])), (mvs, .inl (cI, 4, .inl (vs))), (mvl, .inl (cI, 4, .inl (vl))), (mvc, .inl (cI, 240, .inl (vc)))] → va_S A s.heap H locs → ∀ (ls : Array Slot), lv_has ls 10 [(0, .ref am), (1, .int (zs)), (2, .int (zi)), (3, .int (zt)), (4, .int (zq)), (5, .int (zn))] → W p l e ({ frames := 2, cells := 0, slots := 0, locals := 42 }) s m args below meth c H locs 0 0 Q (F0 m 161 ls [.int (y0)]) := by
    intro y0 qf vc hg H locs hP hD hS ls hl
    rw [f_X5_copy_161] at hg
    refine lv_istore (lv' := [(7, .int (y0)), (0, .ref am), (1, .int (zs)), (2, .int (zi)), (3, .int (zt)), (4, .int (zq)), (5, .int (zn))]) hx hb dX5_copy_161 hl (by decide) rfl (fun ls hl => ?_)
    refine lv_iconst (v := (0 : Int32)) hx hb dX5_copy_163 (by decide) ?_
    refine lv_istore (lv' := [(8, .int ((0 : Int32))), (7, .int (y0)), (0, .ref am), (1, .int (zs)), (2, .int (zi)), (3, .int (zt)), (4, .int (zq)), (5, .int (zn))]) hx hb dX5_copy_164 hl (by decide) rfl (fun ls hl => ?_)
    refine lp_166 _ ?_ 100 y0 (0 : Int32) qf vc hg _ _ hP hD hS _ (lv_sub hl [2, 3, 4, 5, 6, 7, 1, 0] rfl)
    · intro qf vc hg H locs hP hD hS ls hl
      refine lv_iload hx hb dX5_copy_227 (lv_at hl 0 rfl) ?_
      obtain rfl := Option.some.inj hg
      exact rti hQ hx hb hr hlocks hK hP hD hS dX5_copy_229 ⟨rfl, rfl⟩
  have bk_110 : ∀ (y0 : Int32) (qf : Int32) (vc : Nat → Int32), f_X5_copy_110 vl zs zi zt zq zn y0 qf vc = some res → ∀ (H : Heap) (locs : List Loc), va_P D vwCl [(am, .inr (5, [.int (qf), .int (qt), .ref mvs, .ref mvl, .ref mvc, .int (qn), .int (qs), .int (qk), .int (qo), .ref mvk, .ref mvt, .ref mvg, .int (qa), .int (qm), .ref mvh, .ref mvrk, .ref mvrt, .ref mvrg, .int (qg), .int (qp), .int (qu), .int (ql), .int (qe), .int (qb), .int (qw), .ref mvf, .int (qi), .int (qj), .int (qr), .ref mvq, .ref mvp, .ref mve])), (mvs, .inl (cI, 4, .inl (vs))), (mvl, .inl (cI, 4, .inl (vl))), (mvc, .inl (cI, 240, .inl (vc)))] H → va_D A [(am, .inr (5, [.int (qf), .int (qt), .ref mvs, .ref mvl, .ref mvc, .int (qn), .int (qs), .int (qk), .int (qo), .ref mvk, .ref mvt, .ref mvg, .int (qa), .int (qm), .ref mvh, .ref mvrk, .ref mvrt, .ref mvrg, .int (qg), .int (qp), .int (qu), .int (ql), .int (qe), .int (qb), .int (qw), .ref mvf, .int (qi), .int (qj), .int (qr), .ref mvq, .ref mvp, .ref mve])), (mvs, .inl (cI, 4, .inl (vs))), (mvl, .inl (cI, 4, .inl (vl))), (mvc, .inl (cI, 240, .inl (vc)))] → va_S A s.heap H locs → ∀ (ls : Array Slot), lv_has ls 10 [(0, .ref am), (1, .int (zs)), (2, .int (zi)), (3, .int (zt)), (4, .int (zq)), (5, .int (zn))] → W p l e ({ frames := 2, cells := 0, slots := 0, locals := 42 }) s m args below meth c H locs 0 0 Q (F0 m 110 ls [.int (y0)]) := by
    intro y0 qf vc hg H locs hP hD hS ls hl
    rw [f_X5_copy_110] at hg
    refine lv_istore (lv' := [(6, .int (y0)), (0, .ref am), (1, .int (zs)), (2, .int (zi)), (3, .int (zt)), (4, .int (zq)), (5, .int (zn))]) hx hb dX5_copy_110 hl (by decide) rfl (fun ls hl => ?_)
    refine lv_iload hx hb dX5_copy_112 (lv_at hl 0 rfl) ?_
    refine lv_if_eq (tgt := 144) hx hb dX5_copy_114 (by decide) (fun c17 => ?_) (fun c17 => ?_)
    · have hg := it hg c17
      refine lv_aload_n hx hb dX5_copy_144 rfl (lv_at hl 1 rfl) ?_
      refine lv_iconst (v := (3 : Int32)) hx hb dX5_copy_145 (by decide) ?_
      obtain ⟨o18, h19, hg⟩ := bd hg
      refine xcVi (As := [.int ((3 : Int32))]) (rest := []) (wc := [(am, .inr (5, [.int (qf), .int (qt), .ref mvs, .ref mvl, .ref mvc, .int (qn), .int (qs), .int (qk), .int (qo), .ref mvk, .ref mvt, .ref mvg, .int (qa), .int (qm), .ref mvh, .ref mvrk, .ref mvrt, .ref mvrg, .int (qg), .int (qp), .int (qu), .int (ql), .int (qe), .int (qb), .int (qw), .ref mvf, .int (qi), .int (qj), .int (qr), .ref mvq, .ref mvp, .ref mve]))]) (wr := [(mvs, .inl (cI, 4, .inl (vs))), (mvl, .inl (cI, 4, .inl (vl))), (mvc, .inl (cI, 240, .inl (vc)))]) ⟨hx, hb, hml, hown, hts⟩ (c_X5_fails l D cI cZ cR am mvs mvl mvc mvk mvt mvg mvh mvrk mvrt mvrg mvf mvq mvp mve qf qt qn qs qk qo qa qm qg qp qu ql qe qb qw qi qj qr (3 : Int32) h19) (cwV 1 hts gX5_copy_X5_fails rfl rfl rfl (by decide +kernel) ⟨Nat.le_of_ble_eq_true rfl, Nat.le_of_ble_eq_true rfl⟩) hK hP hD hS hA [0] [1, 2, 3] rfl rfl (by decide) (by decide) (by decide) (va_recv hK hP (ci := 5) (q0 := 0) rfl rfl) rfl rfl hl.1 (lv_room (Nat.le_of_ble_eq_true rfl)) dX5_copy_146 ⟨Nat.le_of_ble_eq_true rfl, Nat.le_of_ble_eq_true rfl⟩ (fun r u H locs hu hP hD hS => ?_)
      obtain ⟨rfl, rfl⟩ := hu
      have hP : va_P D vwCl [(am, .inr (5, [.int (o18.2), .int (qt), .ref mvs, .ref mvl, .ref mvc, .int (qn), .int (qs), .int (qk), .int (qo), .ref mvk, .ref mvt, .ref mvg, .int (qa), .int (qm), .ref mvh, .ref mvrk, .ref mvrt, .ref mvrg, .int (qg), .int (qp), .int (qu), .int (ql), .int (qe), .int (qb), .int (qw), .ref mvf, .int (qi), .int (qj), .int (qr), .ref mvq, .ref mvp, .ref mve])), (mvs, .inl (cI, 4, .inl (vs))), (mvl, .inl (cI, 4, .inl (vl))), (mvc, .inl (cI, 240, .inl (vc)))] H := hP.sub [3, 0, 1, 2] rfl
      have hD : va_D A [(am, .inr (5, [.int (o18.2), .int (qt), .ref mvs, .ref mvl, .ref mvc, .int (qn), .int (qs), .int (qk), .int (qo), .ref mvk, .ref mvt, .ref mvg, .int (qa), .int (qm), .ref mvh, .ref mvrk, .ref mvrt, .ref mvrg, .int (qg), .int (qp), .int (qu), .int (ql), .int (qe), .int (qb), .int (qw), .ref mvf, .int (qi), .int (qj), .int (qr), .ref mvq, .ref mvp, .ref mve])), (mvs, .inl (cI, 4, .inl (vs))), (mvl, .inl (cI, 4, .inl (vl))), (mvc, .inl (cI, 240, .inl (vc)))] := hD.sub [3, 0, 1, 2] (by decide) rfl
      obtain rfl := Option.some.inj hg
      exact rti hQ hx hb hr hlocks hK hP hD hS dX5_copy_149 ⟨rfl, rfl⟩
    · have hg := ie hg c17
      refine lv_iload hx hb dX5_copy_117 (lv_at hl 6 rfl) ?_
      refine lv_aload_n hx hb dX5_copy_119 rfl (lv_at hl 1 rfl) ?_
      refine va_get (D := D) (ci := 5) (v := .ref mvl) (C := RX5) (T := TX5) (N := 32) hx hb hts inX5 hown hK hP 0 rfl rfl 3 (by decide) (hts (.fieldLink RX5 13 "ScooterFlagsModel" "sheetLong" "[I") (by decide +kernel)) (fun _ h9 => h9) rfl dX5_copy_120 ?_
      refine lv_iload_n hx hb dX5_copy_123 rfl (lv_at hl 2 rfl) ?_
      obtain ⟨g20, hg⟩ := gxo hg
      refine va_iald hx hb hK hP 2 0 rfl rfl g20 dX5_copy_124 ?_
      refine W.eq (g2 := F0 m 125 ls [.int ((vl zs.toNatClampNeg)), .int (zn)]) rfl ?_
      refine lv_iload_n hx hb dX5_copy_125 rfl (lv_at hl 3 rfl) ?_
      refine lv_isub hx hb dX5_copy_126 ?_
      refine lv_icmp_gt (tgt := 144) hx hb dX5_copy_127 (by decide) (fun c21 => ?_) (fun c21 => ?_)
      · have hg := it hg c21
        refine lv_aload_n hx hb dX5_copy_144 rfl (lv_at hl 1 rfl) ?_
        refine lv_iconst (v := (3 : Int32)) hx hb dX5_copy_145 (by decide) ?_
        obtain ⟨o22, h23, hg⟩ := bd hg
        refine xcVi (As := [.int ((3 : Int32))]) (rest := []) (wc := [(am, .inr (5, [.int (qf), .int (qt), .ref mvs, .ref mvl, .ref mvc, .int (qn), .int (qs), .int (qk), .int (qo), .ref mvk, .ref mvt, .ref mvg, .int (qa), .int (qm), .ref mvh, .ref mvrk, .ref mvrt, .ref mvrg, .int (qg), .int (qp), .int (qu), .int (ql), .int (qe), .int (qb), .int (qw), .ref mvf, .int (qi), .int (qj), .int (qr), .ref mvq, .ref mvp, .ref mve]))]) (wr := [(mvs, .inl (cI, 4, .inl (vs))), (mvl, .inl (cI, 4, .inl (vl))), (mvc, .inl (cI, 240, .inl (vc)))]) ⟨hx, hb, hml, hown, hts⟩ (c_X5_fails l D cI cZ cR am mvs mvl mvc mvk mvt mvg mvh mvrk mvrt mvrg mvf mvq mvp mve qf qt qn qs qk qo qa qm qg qp qu ql qe qb qw qi qj qr (3 : Int32) h23) (cwV 1 hts gX5_copy_X5_fails rfl rfl rfl (by decide +kernel) ⟨Nat.le_of_ble_eq_true rfl, Nat.le_of_ble_eq_true rfl⟩) hK hP hD hS hA [0] [1, 2, 3] rfl rfl (by decide) (by decide) (by decide) (va_recv hK hP (ci := 5) (q0 := 0) rfl rfl) rfl rfl hl.1 (lv_room (Nat.le_of_ble_eq_true rfl)) dX5_copy_146 ⟨Nat.le_of_ble_eq_true rfl, Nat.le_of_ble_eq_true rfl⟩ (fun r u H locs hu hP hD hS => ?_)
        obtain ⟨rfl, rfl⟩ := hu
        have hP : va_P D vwCl [(am, .inr (5, [.int (o22.2), .int (qt), .ref mvs, .ref mvl, .ref mvc, .int (qn), .int (qs), .int (qk), .int (qo), .ref mvk, .ref mvt, .ref mvg, .int (qa), .int (qm), .ref mvh, .ref mvrk, .ref mvrt, .ref mvrg, .int (qg), .int (qp), .int (qu), .int (ql), .int (qe), .int (qb), .int (qw), .ref mvf, .int (qi), .int (qj), .int (qr), .ref mvq, .ref mvp, .ref mve])), (mvs, .inl (cI, 4, .inl (vs))), (mvl, .inl (cI, 4, .inl (vl))), (mvc, .inl (cI, 240, .inl (vc)))] H := hP.sub [3, 0, 1, 2] rfl
        have hD : va_D A [(am, .inr (5, [.int (o22.2), .int (qt), .ref mvs, .ref mvl, .ref mvc, .int (qn), .int (qs), .int (qk), .int (qo), .ref mvk, .ref mvt, .ref mvg, .int (qa), .int (qm), .ref mvh, .ref mvrk, .ref mvrt, .ref mvrg, .int (qg), .int (qp), .int (qu), .int (ql), .int (qe), .int (qb), .int (qw), .ref mvf, .int (qi), .int (qj), .int (qr), .ref mvq, .ref mvp, .ref mve])), (mvs, .inl (cI, 4, .inl (vs))), (mvl, .inl (cI, 4, .inl (vl))), (mvc, .inl (cI, 240, .inl (vc)))] := hD.sub [3, 0, 1, 2] (by decide) rfl
        obtain rfl := Option.some.inj hg
        exact rti hQ hx hb hr hlocks hK hP hD hS dX5_copy_149 ⟨rfl, rfl⟩
      · have hg := ie hg c21
        refine lv_iload hx hb dX5_copy_130 (lv_at hl 6 rfl) ?_
        refine lv_aload_n hx hb dX5_copy_132 rfl (lv_at hl 1 rfl) ?_
        refine va_get (D := D) (ci := 5) (v := .ref mvl) (C := RX5) (T := TX5) (N := 32) hx hb hts inX5 hown hK hP 0 rfl rfl 3 (by decide) (hts (.fieldLink RX5 13 "ScooterFlagsModel" "sheetLong" "[I") (by decide +kernel)) (fun _ h9 => h9) rfl dX5_copy_133 ?_
        refine lv_iload_n hx hb dX5_copy_136 rfl (lv_at hl 4 rfl) ?_
        obtain ⟨g24, hg⟩ := gxo hg
        refine va_iald hx hb hK hP 2 0 rfl rfl g24 dX5_copy_137 ?_
        refine W.eq (g2 := F0 m 138 ls [.int ((vl zt.toNatClampNeg)), .int (zn)]) rfl ?_
        refine lv_iload hx hb dX5_copy_138 (lv_at hl 5 rfl) ?_
        refine lv_isub hx hb dX5_copy_140 ?_
        refine lv_icmp_le (tgt := 150) hx hb dX5_copy_141 (by decide) (fun c25 => ?_) (fun c25 => ?_)
        · have hg := it hg c25
          refine lv_iload_n hx hb dX5_copy_150 rfl (lv_at hl 3 rfl) ?_
          refine lv_iload hx hb dX5_copy_151 (lv_at hl 5 rfl) ?_
          refine lv_icmp_ge (tgt := 160) hx hb dX5_copy_153 (by decide) (fun c26 => ?_) (fun c26 => ?_)
          · have hg := it hg c26
            refine lv_iconst (v := (0 : Int32)) hx hb dX5_copy_160 (by decide) ?_
            exact bk_161 (0 : Int32) qf vc hg _ _ hP hD hS _ (lv_sub hl [1, 2, 3, 4, 5, 6] rfl)
          · have hg := ie hg c26
            refine lv_iconst (v := (1 : Int32)) hx hb dX5_copy_156 (by decide) ?_
            refine lv_goto (tgt := 161) hx hb dX5_copy_157 (by decide) ?_
            exact bk_161 (1 : Int32) qf vc hg _ _ hP hD hS _ (lv_sub hl [1, 2, 3, 4, 5, 6] rfl)
        · have hg := ie hg c25
          refine lv_aload_n hx hb dX5_copy_144 rfl (lv_at hl 1 rfl) ?_
          refine lv_iconst (v := (3 : Int32)) hx hb dX5_copy_145 (by decide) ?_
          obtain ⟨o33, h34, hg⟩ := bd hg
          refine xcVi (As := [.int ((3 : Int32))]) (rest := []) (wc := [(am, .inr (5, [.int (qf), .int (qt), .ref mvs, .ref mvl, .ref mvc, .int (qn), .int (qs), .int (qk), .int (qo), .ref mvk, .ref mvt, .ref mvg, .int (qa), .int (qm), .ref mvh, .ref mvrk, .ref mvrt, .ref mvrg, .int (qg), .int (qp), .int (qu), .int (ql), .int (qe), .int (qb), .int (qw), .ref mvf, .int (qi), .int (qj), .int (qr), .ref mvq, .ref mvp, .ref mve]))]) (wr := [(mvs, .inl (cI, 4, .inl (vs))), (mvl, .inl (cI, 4, .inl (vl))), (mvc, .inl (cI, 240, .inl (vc)))]) ⟨hx, hb, hml, hown, hts⟩ (c_X5_fails l D cI cZ cR am mvs mvl mvc mvk mvt mvg mvh mvrk mvrt mvrg mvf mvq mvp mve qf qt qn qs qk qo qa qm qg qp qu ql qe qb qw qi qj qr (3 : Int32) h34) (cwV 1 hts gX5_copy_X5_fails rfl rfl rfl (by decide +kernel) ⟨Nat.le_of_ble_eq_true rfl, Nat.le_of_ble_eq_true rfl⟩) hK hP hD hS hA [0] [1, 2, 3] rfl rfl (by decide) (by decide) (by decide) (va_recv hK hP (ci := 5) (q0 := 0) rfl rfl) rfl rfl hl.1 (lv_room (Nat.le_of_ble_eq_true rfl)) dX5_copy_146 ⟨Nat.le_of_ble_eq_true rfl, Nat.le_of_ble_eq_true rfl⟩ (fun r u H locs hu hP hD hS => ?_)
          obtain ⟨rfl, rfl⟩ := hu
          have hP : va_P D vwCl [(am, .inr (5, [.int (o33.2), .int (qt), .ref mvs, .ref mvl, .ref mvc, .int (qn), .int (qs), .int (qk), .int (qo), .ref mvk, .ref mvt, .ref mvg, .int (qa), .int (qm), .ref mvh, .ref mvrk, .ref mvrt, .ref mvrg, .int (qg), .int (qp), .int (qu), .int (ql), .int (qe), .int (qb), .int (qw), .ref mvf, .int (qi), .int (qj), .int (qr), .ref mvq, .ref mvp, .ref mve])), (mvs, .inl (cI, 4, .inl (vs))), (mvl, .inl (cI, 4, .inl (vl))), (mvc, .inl (cI, 240, .inl (vc)))] H := hP.sub [3, 0, 1, 2] rfl
          have hD : va_D A [(am, .inr (5, [.int (o33.2), .int (qt), .ref mvs, .ref mvl, .ref mvc, .int (qn), .int (qs), .int (qk), .int (qo), .ref mvk, .ref mvt, .ref mvg, .int (qa), .int (qm), .ref mvh, .ref mvrk, .ref mvrt, .ref mvrg, .int (qg), .int (qp), .int (qu), .int (ql), .int (qe), .int (qb), .int (qw), .ref mvf, .int (qi), .int (qj), .int (qr), .ref mvq, .ref mvp, .ref mve])), (mvs, .inl (cI, 4, .inl (vs))), (mvl, .inl (cI, 4, .inl (vl))), (mvc, .inl (cI, 240, .inl (vc)))] := hD.sub [3, 0, 1, 2] (by decide) rfl
          obtain rfl := Option.some.inj hg
          exact rti hQ hx hb hr hlocks hK hP hD hS dX5_copy_149 ⟨rfl, rfl⟩
  have bk_109 : ∀ (qf : Int32) (vc : Nat → Int32), f_X5_copy_109 vl zs zi zt zq zn qf vc = some res → ∀ (H : Heap) (locs : List Loc), va_P D vwCl [(am, .inr (5, [.int (qf), .int (qt), .ref mvs, .ref mvl, .ref mvc, .int (qn), .int (qs), .int (qk), .int (qo), .ref mvk, .ref mvt, .ref mvg, .int (qa), .int (qm), .ref mvh, .ref mvrk, .ref mvrt, .ref mvrg, .int (qg), .int (qp), .int (qu), .int (ql), .int (qe), .int (qb), .int (qw), .ref mvf, .int (qi), .int (qj), .int (qr), .ref mvq, .ref mvp, .ref mve])), (mvs, .inl (cI, 4, .inl (vs))), (mvl, .inl (cI, 4, .inl (vl))), (mvc, .inl (cI, 240, .inl (vc)))] H → va_D A [(am, .inr (5, [.int (qf), .int (qt), .ref mvs, .ref mvl, .ref mvc, .int (qn), .int (qs), .int (qk), .int (qo), .ref mvk, .ref mvt, .ref mvg, .int (qa), .int (qm), .ref mvh, .ref mvrk, .ref mvrt, .ref mvrg, .int (qg), .int (qp), .int (qu), .int (ql), .int (qe), .int (qb), .int (qw), .ref mvf, .int (qi), .int (qj), .int (qr), .ref mvq, .ref mvp, .ref mve])), (mvs, .inl (cI, 4, .inl (vs))), (mvl, .inl (cI, 4, .inl (vl))), (mvc, .inl (cI, 240, .inl (vc)))] → va_S A s.heap H locs → ∀ (ls : Array Slot), lv_has ls 10 [(0, .ref am), (1, .int (zs)), (2, .int (zi)), (3, .int (zt)), (4, .int (zq)), (5, .int (zn))] → W p l e ({ frames := 2, cells := 0, slots := 0, locals := 42 }) s m args below meth c H locs 0 0 Q (F0 m 109 ls []) := by
    intro qf vc hg H locs hP hD hS ls hl
    rw [f_X5_copy_109] at hg
    refine lv_iconst (v := (0 : Int32)) hx hb dX5_copy_109 (by decide) ?_
    exact bk_110 (0 : Int32) qf vc hg _ _ hP hD hS _ (lv_sub hl [0, 1, 2, 3, 4, 5] rfl)
  have hl : lv_has ls 10 [(0, .ref am), (1, .int (zs)), (2, .int (zi)), (3, .int (zt)), (4, .int (zq)), (5, .int (zn))] := hl
  rw [f_X5_copy] at hg
  refine lv_aload_n hx hb dX5_copy_0 rfl (lv_at hl 0 rfl) ?_
  refine lv_iconst (v := (0 : Int32)) hx hb dX5_copy_1 (by decide) ?_
  refine va_put (D := D) (ci := 5) (v := .int ((0 : Int32))) (ty := .int) (C := RX5) (T := TX5) (N := 32) hx hb hts inX5 tyX5 tyX5_ok nmX5 hown hK hP hD hS 0 rfl rfl 0 (by decide) (hts (.fieldLink RX5 53 "ScooterFlagsModel" "fault" "I") (by decide +kernel)) (fun _ h9 => h9) rfl (by decide +kernel) rfl rfl (Nat.le_of_ble_eq_true rfl) dX5_copy_2 (fun H locs hP hD hS => ?_)
  have hP : va_P D vwCl [(am, .inr (5, [.int ((0 : Int32)), .int (qt), .ref mvs, .ref mvl, .ref mvc, .int (qn), .int (qs), .int (qk), .int (qo), .ref mvk, .ref mvt, .ref mvg, .int (qa), .int (qm), .ref mvh, .ref mvrk, .ref mvrt, .ref mvrg, .int (qg), .int (qp), .int (qu), .int (ql), .int (qe), .int (qb), .int (qw), .ref mvf, .int (qi), .int (qj), .int (qr), .ref mvq, .ref mvp, .ref mve])), (mvs, .inl (cI, 4, .inl (vs))), (mvl, .inl (cI, 4, .inl (vl))), (mvc, .inl (cI, 240, .inl (vc)))] H := hP
  have hD : va_D A [(am, .inr (5, [.int ((0 : Int32)), .int (qt), .ref mvs, .ref mvl, .ref mvc, .int (qn), .int (qs), .int (qk), .int (qo), .ref mvk, .ref mvt, .ref mvg, .int (qa), .int (qm), .ref mvh, .ref mvrk, .ref mvrt, .ref mvrg, .int (qg), .int (qp), .int (qu), .int (ql), .int (qe), .int (qb), .int (qw), .ref mvf, .int (qi), .int (qj), .int (qr), .ref mvq, .ref mvp, .ref mve])), (mvs, .inl (cI, 4, .inl (vs))), (mvl, .inl (cI, 4, .inl (vl))), (mvc, .inl (cI, 240, .inl (vc)))] := hD
  refine lv_iload_n hx hb dX5_copy_5 rfl (lv_at hl 1 rfl) ?_
  obtain ⟨o1, h2, hg⟩ := bd hg
  refine xcSi (As := [.int (zs)]) (rest := []) (wc := []) (wr := [(am, .inr (5, [.int ((0 : Int32)), .int (qt), .ref mvs, .ref mvl, .ref mvc, .int (qn), .int (qs), .int (qk), .int (qo), .ref mvk, .ref mvt, .ref mvg, .int (qa), .int (qm), .ref mvh, .ref mvrk, .ref mvrt, .ref mvrg, .int (qg), .int (qp), .int (qu), .int (ql), .int (qe), .int (qb), .int (qw), .ref mvf, .int (qi), .int (qj), .int (qr), .ref mvq, .ref mvp, .ref mve])), (mvs, .inl (cI, 4, .inl (vs))), (mvl, .inl (cI, 4, .inl (vl))), (mvc, .inl (cI, 240, .inl (vc)))]) ⟨hx, hb, hml, hown, hts⟩ (c_X5_isSheet l D cI cZ cR zs h2) (cwS 1 hts gX5_copy_X5_isSheet rfl rfl rfl (by decide +kernel) ⟨Nat.le_of_ble_eq_true rfl, Nat.le_of_ble_eq_true rfl⟩) hK hP hD hS hA [] [0, 1, 2, 3] rfl rfl (by decide) (by decide) (by decide) rfl rfl hl.1 (lv_room (Nat.le_of_ble_eq_true rfl)) dX5_copy_6 ⟨Nat.le_of_ble_eq_true rfl, Nat.le_of_ble_eq_true rfl⟩ (fun r u H locs hu hP hD hS => ?_)
  obtain ⟨rfl, rfl⟩ := hu
  have hP : va_P D vwCl [(am, .inr (5, [.int ((0 : Int32)), .int (qt), .ref mvs, .ref mvl, .ref mvc, .int (qn), .int (qs), .int (qk), .int (qo), .ref mvk, .ref mvt, .ref mvg, .int (qa), .int (qm), .ref mvh, .ref mvrk, .ref mvrt, .ref mvrg, .int (qg), .int (qp), .int (qu), .int (ql), .int (qe), .int (qb), .int (qw), .ref mvf, .int (qi), .int (qj), .int (qr), .ref mvq, .ref mvp, .ref mve])), (mvs, .inl (cI, 4, .inl (vs))), (mvl, .inl (cI, 4, .inl (vl))), (mvc, .inl (cI, 240, .inl (vc)))] H := hP.sub [0, 1, 2, 3] rfl
  have hD : va_D A [(am, .inr (5, [.int ((0 : Int32)), .int (qt), .ref mvs, .ref mvl, .ref mvc, .int (qn), .int (qs), .int (qk), .int (qo), .ref mvk, .ref mvt, .ref mvg, .int (qa), .int (qm), .ref mvh, .ref mvrk, .ref mvrt, .ref mvrg, .int (qg), .int (qp), .int (qu), .int (ql), .int (qe), .int (qb), .int (qw), .ref mvf, .int (qi), .int (qj), .int (qr), .ref mvq, .ref mvp, .ref mve])), (mvs, .inl (cI, 4, .inl (vs))), (mvl, .inl (cI, 4, .inl (vl))), (mvc, .inl (cI, 240, .inl (vc)))] := hD.sub [0, 1, 2, 3] (by decide) rfl
  refine lv_if_eq (tgt := 19) hx hb dX5_copy_9 (by decide) (fun c3 => ?_) (fun c3 => ?_)
  · have hg := it hg c3
    refine lv_iconst (v := (-1 : Int32)) hx hb dX5_copy_19 (by decide) ?_
    obtain rfl := Option.some.inj hg
    exact rti hQ hx hb hr hlocks hK hP hD hS dX5_copy_20 ⟨rfl, rfl⟩
  · have hg := ie hg c3
    refine lv_iload_n hx hb dX5_copy_12 rfl (lv_at hl 3 rfl) ?_
    obtain ⟨o4, h5, hg⟩ := bd hg
    refine xcSi (As := [.int (zt)]) (rest := []) (wc := []) (wr := [(am, .inr (5, [.int ((0 : Int32)), .int (qt), .ref mvs, .ref mvl, .ref mvc, .int (qn), .int (qs), .int (qk), .int (qo), .ref mvk, .ref mvt, .ref mvg, .int (qa), .int (qm), .ref mvh, .ref mvrk, .ref mvrt, .ref mvrg, .int (qg), .int (qp), .int (qu), .int (ql), .int (qe), .int (qb), .int (qw), .ref mvf, .int (qi), .int (qj), .int (qr), .ref mvq, .ref mvp, .ref mve])), (mvs, .inl (cI, 4, .inl (vs))), (mvl, .inl (cI, 4, .inl (vl))), (mvc, .inl (cI, 240, .inl (vc)))]) ⟨hx, hb, hml, hown, hts⟩ (c_X5_isSheet l D cI cZ cR zt h5) (cwS 1 hts gX5_copy_X5_isSheet rfl rfl rfl (by decide +kernel) ⟨Nat.le_of_ble_eq_true rfl, Nat.le_of_ble_eq_true rfl⟩) hK hP hD hS hA [] [0, 1, 2, 3] rfl rfl (by decide) (by decide) (by decide) rfl rfl hl.1 (lv_room (Nat.le_of_ble_eq_true rfl)) dX5_copy_13 ⟨Nat.le_of_ble_eq_true rfl, Nat.le_of_ble_eq_true rfl⟩ (fun r u H locs hu hP hD hS => ?_)
    obtain ⟨rfl, rfl⟩ := hu
    have hP : va_P D vwCl [(am, .inr (5, [.int ((0 : Int32)), .int (qt), .ref mvs, .ref mvl, .ref mvc, .int (qn), .int (qs), .int (qk), .int (qo), .ref mvk, .ref mvt, .ref mvg, .int (qa), .int (qm), .ref mvh, .ref mvrk, .ref mvrt, .ref mvrg, .int (qg), .int (qp), .int (qu), .int (ql), .int (qe), .int (qb), .int (qw), .ref mvf, .int (qi), .int (qj), .int (qr), .ref mvq, .ref mvp, .ref mve])), (mvs, .inl (cI, 4, .inl (vs))), (mvl, .inl (cI, 4, .inl (vl))), (mvc, .inl (cI, 240, .inl (vc)))] H := hP.sub [0, 1, 2, 3] rfl
    have hD : va_D A [(am, .inr (5, [.int ((0 : Int32)), .int (qt), .ref mvs, .ref mvl, .ref mvc, .int (qn), .int (qs), .int (qk), .int (qo), .ref mvk, .ref mvt, .ref mvg, .int (qa), .int (qm), .ref mvh, .ref mvrk, .ref mvrt, .ref mvrg, .int (qg), .int (qp), .int (qu), .int (ql), .int (qe), .int (qb), .int (qw), .ref mvf, .int (qi), .int (qj), .int (qr), .ref mvq, .ref mvp, .ref mve])), (mvs, .inl (cI, 4, .inl (vs))), (mvl, .inl (cI, 4, .inl (vl))), (mvc, .inl (cI, 240, .inl (vc)))] := hD.sub [0, 1, 2, 3] (by decide) rfl
    refine lv_if_ne (tgt := 21) hx hb dX5_copy_16 (by decide) (fun c6 => ?_) (fun c6 => ?_)
    · have hg := ie hg c6
      refine lv_aload_n hx hb dX5_copy_21 rfl (lv_at hl 0 rfl) ?_
      refine va_get (D := D) (ci := 5) (v := .ref mvs) (C := RX5) (T := TX5) (N := 32) hx hb hts inX5 hown hK hP 0 rfl rfl 2 (by decide) (hts (.fieldLink RX5 9 "ScooterFlagsModel" "sorts" "[I") (by decide +kernel)) (fun _ h9 => h9) rfl dX5_copy_22 ?_
      refine lv_iload_n hx hb dX5_copy_25 rfl (lv_at hl 1 rfl) ?_
      obtain ⟨g7, hg⟩ := gxo hg
      refine va_iald hx hb hK hP 1 0 rfl rfl g7 dX5_copy_26 ?_
      refine W.eq (g2 := F0 m 27 ls [.int ((vs zs.toNatClampNeg))]) rfl ?_
      refine lv_bipush (v := (-9 : Int32)) hx hb dX5_copy_27 (by decide) ?_
      refine lv_icmp_eq (tgt := 43) hx hb dX5_copy_29 (by decide) (fun c8 => ?_) (fun c8 => ?_)
      · have hg := it hg c8
        refine lv_aload_n hx hb dX5_copy_43 rfl (lv_at hl 0 rfl) ?_
        refine lv_iconst (v := (1 : Int32)) hx hb dX5_copy_44 (by decide) ?_
        obtain ⟨o9, h10, hg⟩ := bd hg
        refine xcVi (As := [.int ((1 : Int32))]) (rest := []) (wc := [(am, .inr (5, [.int ((0 : Int32)), .int (qt), .ref mvs, .ref mvl, .ref mvc, .int (qn), .int (qs), .int (qk), .int (qo), .ref mvk, .ref mvt, .ref mvg, .int (qa), .int (qm), .ref mvh, .ref mvrk, .ref mvrt, .ref mvrg, .int (qg), .int (qp), .int (qu), .int (ql), .int (qe), .int (qb), .int (qw), .ref mvf, .int (qi), .int (qj), .int (qr), .ref mvq, .ref mvp, .ref mve]))]) (wr := [(mvs, .inl (cI, 4, .inl (vs))), (mvl, .inl (cI, 4, .inl (vl))), (mvc, .inl (cI, 240, .inl (vc)))]) ⟨hx, hb, hml, hown, hts⟩ (c_X5_fails l D cI cZ cR am mvs mvl mvc mvk mvt mvg mvh mvrk mvrt mvrg mvf mvq mvp mve (0 : Int32) qt qn qs qk qo qa qm qg qp qu ql qe qb qw qi qj qr (1 : Int32) h10) (cwV 1 hts gX5_copy_X5_fails rfl rfl rfl (by decide +kernel) ⟨Nat.le_of_ble_eq_true rfl, Nat.le_of_ble_eq_true rfl⟩) hK hP hD hS hA [0] [1, 2, 3] rfl rfl (by decide) (by decide) (by decide) (va_recv hK hP (ci := 5) (q0 := 0) rfl rfl) rfl rfl hl.1 (lv_room (Nat.le_of_ble_eq_true rfl)) dX5_copy_45 ⟨Nat.le_of_ble_eq_true rfl, Nat.le_of_ble_eq_true rfl⟩ (fun r u H locs hu hP hD hS => ?_)
        obtain ⟨rfl, rfl⟩ := hu
        have hP : va_P D vwCl [(am, .inr (5, [.int (o9.2), .int (qt), .ref mvs, .ref mvl, .ref mvc, .int (qn), .int (qs), .int (qk), .int (qo), .ref mvk, .ref mvt, .ref mvg, .int (qa), .int (qm), .ref mvh, .ref mvrk, .ref mvrt, .ref mvrg, .int (qg), .int (qp), .int (qu), .int (ql), .int (qe), .int (qb), .int (qw), .ref mvf, .int (qi), .int (qj), .int (qr), .ref mvq, .ref mvp, .ref mve])), (mvs, .inl (cI, 4, .inl (vs))), (mvl, .inl (cI, 4, .inl (vl))), (mvc, .inl (cI, 240, .inl (vc)))] H := hP.sub [3, 0, 1, 2] rfl
        have hD : va_D A [(am, .inr (5, [.int (o9.2), .int (qt), .ref mvs, .ref mvl, .ref mvc, .int (qn), .int (qs), .int (qk), .int (qo), .ref mvk, .ref mvt, .ref mvg, .int (qa), .int (qm), .ref mvh, .ref mvrk, .ref mvrt, .ref mvrg, .int (qg), .int (qp), .int (qu), .int (ql), .int (qe), .int (qb), .int (qw), .ref mvf, .int (qi), .int (qj), .int (qr), .ref mvq, .ref mvp, .ref mve])), (mvs, .inl (cI, 4, .inl (vs))), (mvl, .inl (cI, 4, .inl (vl))), (mvc, .inl (cI, 240, .inl (vc)))] := hD.sub [3, 0, 1, 2] (by decide) rfl
        obtain rfl := Option.some.inj hg
        exact rti hQ hx hb hr hlocks hK hP hD hS dX5_copy_48 ⟨rfl, rfl⟩
      · have hg := ie hg c8
        refine lv_aload_n hx hb dX5_copy_32 rfl (lv_at hl 0 rfl) ?_
        refine va_get (D := D) (ci := 5) (v := .ref mvs) (C := RX5) (T := TX5) (N := 32) hx hb hts inX5 hown hK hP 0 rfl rfl 2 (by decide) (hts (.fieldLink RX5 9 "ScooterFlagsModel" "sorts" "[I") (by decide +kernel)) (fun _ h9 => h9) rfl dX5_copy_33 ?_
        refine lv_iload_n hx hb dX5_copy_36 rfl (lv_at hl 3 rfl) ?_
        obtain ⟨g11, hg⟩ := gxo hg
        refine va_iald hx hb hK hP 1 0 rfl rfl g11 dX5_copy_37 ?_
        refine W.eq (g2 := F0 m 38 ls [.int ((vs zt.toNatClampNeg))]) rfl ?_
        refine lv_bipush (v := (-9 : Int32)) hx hb dX5_copy_38 (by decide) ?_
        refine lv_icmp_ne (tgt := 49) hx hb dX5_copy_40 (by decide) (fun c12 => ?_) (fun c12 => ?_)
        · have hg := ie hg c12
          refine lv_aload_n hx hb dX5_copy_49 rfl (lv_at hl 0 rfl) ?_
          refine va_get (D := D) (ci := 5) (v := .ref mvs) (C := RX5) (T := TX5) (N := 32) hx hb hts inX5 hown hK hP 0 rfl rfl 2 (by decide) (hts (.fieldLink RX5 9 "ScooterFlagsModel" "sorts" "[I") (by decide +kernel)) (fun _ h9 => h9) rfl dX5_copy_50 ?_
          refine lv_iload_n hx hb dX5_copy_53 rfl (lv_at hl 1 rfl) ?_
          obtain ⟨g13, hg⟩ := gxo hg
          refine va_iald hx hb hK hP 1 0 rfl rfl g13 dX5_copy_54 ?_
          refine W.eq (g2 := F0 m 55 ls [.int ((vs zs.toNatClampNeg))]) rfl ?_
          refine lv_aload_n hx hb dX5_copy_55 rfl (lv_at hl 0 rfl) ?_
          refine va_get (D := D) (ci := 5) (v := .ref mvs) (C := RX5) (T := TX5) (N := 32) hx hb hts inX5 hown hK hP 0 rfl rfl 2 (by decide) (hts (.fieldLink RX5 9 "ScooterFlagsModel" "sorts" "[I") (by decide +kernel)) (fun _ h9 => h9) rfl dX5_copy_56 ?_
          refine lv_iload_n hx hb dX5_copy_59 rfl (lv_at hl 3 rfl) ?_
          obtain ⟨g14, hg⟩ := gxo hg
          refine va_iald hx hb hK hP 1 0 rfl rfl g14 dX5_copy_60 ?_
          refine W.eq (g2 := F0 m 61 ls [.int ((vs zt.toNatClampNeg)), .int ((vs zs.toNatClampNeg))]) rfl ?_
          refine lv_icmp_eq (tgt := 70) hx hb dX5_copy_61 (by decide) (fun c15 => ?_) (fun c15 => ?_)
          · have hg := it hg c15
            refine lv_iload_n hx hb dX5_copy_70 rfl (lv_at hl 2 rfl) ?_
            refine lv_if_lt (tgt := 109) hx hb dX5_copy_71 (by decide) (fun c16 => ?_) (fun c16 => ?_)
            · have hg := it hg c16
              exact bk_109 (0 : Int32) vc hg _ _ hP hD hS _ (lv_sub hl [0, 1, 2, 3, 4, 5] rfl)
            · have hg := ie hg c16
              refine lv_iload hx hb dX5_copy_74 (lv_at hl 4 rfl) ?_
              refine lv_if_lt (tgt := 109) hx hb dX5_copy_76 (by decide) (fun c35 => ?_) (fun c35 => ?_)
              · have hg := it hg c35
                exact bk_109 (0 : Int32) vc hg _ _ hP hD hS _ (lv_sub hl [0, 1, 2, 3, 4, 5] rfl)
              · have hg := ie hg c35
                refine lv_iload hx hb dX5_copy_79 (lv_at hl 5 rfl) ?_
                refine lv_if_lt (tgt := 109) hx hb dX5_copy_81 (by decide) (fun c36 => ?_) (fun c36 => ?_)
                · have hg := it hg c36
                  exact bk_109 (0 : Int32) vc hg _ _ hP hD hS _ (lv_sub hl [0, 1, 2, 3, 4, 5] rfl)
                · have hg := ie hg c36
                  refine lv_iload_n hx hb dX5_copy_84 rfl (lv_at hl 2 rfl) ?_
                  refine lv_aload_n hx hb dX5_copy_85 rfl (lv_at hl 0 rfl) ?_
                  refine va_get (D := D) (ci := 5) (v := .ref mvl) (C := RX5) (T := TX5) (N := 32) hx hb hts inX5 hown hK hP 0 rfl rfl 3 (by decide) (hts (.fieldLink RX5 13 "ScooterFlagsModel" "sheetLong" "[I") (by decide +kernel)) (fun _ h9 => h9) rfl dX5_copy_86 ?_
                  refine lv_iload_n hx hb dX5_copy_89 rfl (lv_at hl 1 rfl) ?_
                  obtain ⟨g37, hg⟩ := gxo hg
                  refine va_iald hx hb hK hP 2 0 rfl rfl g37 dX5_copy_90 ?_
                  refine W.eq (g2 := F0 m 91 ls [.int ((vl zs.toNatClampNeg)), .int (zi)]) rfl ?_
                  refine lv_icmp_gt (tgt := 109) hx hb dX5_copy_91 (by decide) (fun c38 => ?_) (fun c38 => ?_)
                  · have hg := it hg c38
                    exact bk_109 (0 : Int32) vc hg _ _ hP hD hS _ (lv_sub hl [0, 1, 2, 3, 4, 5] rfl)
                  · have hg := ie hg c38
                    refine lv_iload hx hb dX5_copy_94 (lv_at hl 4 rfl) ?_
                    refine lv_aload_n hx hb dX5_copy_96 rfl (lv_at hl 0 rfl) ?_
                    refine va_get (D := D) (ci := 5) (v := .ref mvl) (C := RX5) (T := TX5) (N := 32) hx hb hts inX5 hown hK hP 0 rfl rfl 3 (by decide) (hts (.fieldLink RX5 13 "ScooterFlagsModel" "sheetLong" "[I") (by decide +kernel)) (fun _ h9 => h9) rfl dX5_copy_97 ?_
                    refine lv_iload_n hx hb dX5_copy_100 rfl (lv_at hl 3 rfl) ?_
                    obtain ⟨g39, hg⟩ := gxo hg
                    refine va_iald hx hb hK hP 2 0 rfl rfl g39 dX5_copy_101 ?_
                    refine W.eq (g2 := F0 m 102 ls [.int ((vl zt.toNatClampNeg)), .int (zq)]) rfl ?_
                    refine lv_icmp_gt (tgt := 109) hx hb dX5_copy_102 (by decide) (fun c40 => ?_) (fun c40 => ?_)
                    · have hg := it hg c40
                      exact bk_109 (0 : Int32) vc hg _ _ hP hD hS _ (lv_sub hl [0, 1, 2, 3, 4, 5] rfl)
                    · have hg := ie hg c40
                      refine lv_iconst (v := (1 : Int32)) hx hb dX5_copy_105 (by decide) ?_
                      refine lv_goto (tgt := 110) hx hb dX5_copy_106 (by decide) ?_
                      exact bk_110 (1 : Int32) (0 : Int32) vc hg _ _ hP hD hS _ (lv_sub hl [0, 1, 2, 3, 4, 5] rfl)
          · have hg := ie hg c15
            refine lv_aload_n hx hb dX5_copy_64 rfl (lv_at hl 0 rfl) ?_
            refine lv_iconst (v := (2 : Int32)) hx hb dX5_copy_65 (by decide) ?_
            obtain ⟨o41, h42, hg⟩ := bd hg
            refine xcVi (As := [.int ((2 : Int32))]) (rest := []) (wc := [(am, .inr (5, [.int ((0 : Int32)), .int (qt), .ref mvs, .ref mvl, .ref mvc, .int (qn), .int (qs), .int (qk), .int (qo), .ref mvk, .ref mvt, .ref mvg, .int (qa), .int (qm), .ref mvh, .ref mvrk, .ref mvrt, .ref mvrg, .int (qg), .int (qp), .int (qu), .int (ql), .int (qe), .int (qb), .int (qw), .ref mvf, .int (qi), .int (qj), .int (qr), .ref mvq, .ref mvp, .ref mve]))]) (wr := [(mvs, .inl (cI, 4, .inl (vs))), (mvl, .inl (cI, 4, .inl (vl))), (mvc, .inl (cI, 240, .inl (vc)))]) ⟨hx, hb, hml, hown, hts⟩ (c_X5_fails l D cI cZ cR am mvs mvl mvc mvk mvt mvg mvh mvrk mvrt mvrg mvf mvq mvp mve (0 : Int32) qt qn qs qk qo qa qm qg qp qu ql qe qb qw qi qj qr (2 : Int32) h42) (cwV 1 hts gX5_copy_X5_fails rfl rfl rfl (by decide +kernel) ⟨Nat.le_of_ble_eq_true rfl, Nat.le_of_ble_eq_true rfl⟩) hK hP hD hS hA [0] [1, 2, 3] rfl rfl (by decide) (by decide) (by decide) (va_recv hK hP (ci := 5) (q0 := 0) rfl rfl) rfl rfl hl.1 (lv_room (Nat.le_of_ble_eq_true rfl)) dX5_copy_66 ⟨Nat.le_of_ble_eq_true rfl, Nat.le_of_ble_eq_true rfl⟩ (fun r u H locs hu hP hD hS => ?_)
            obtain ⟨rfl, rfl⟩ := hu
            have hP : va_P D vwCl [(am, .inr (5, [.int (o41.2), .int (qt), .ref mvs, .ref mvl, .ref mvc, .int (qn), .int (qs), .int (qk), .int (qo), .ref mvk, .ref mvt, .ref mvg, .int (qa), .int (qm), .ref mvh, .ref mvrk, .ref mvrt, .ref mvrg, .int (qg), .int (qp), .int (qu), .int (ql), .int (qe), .int (qb), .int (qw), .ref mvf, .int (qi), .int (qj), .int (qr), .ref mvq, .ref mvp, .ref mve])), (mvs, .inl (cI, 4, .inl (vs))), (mvl, .inl (cI, 4, .inl (vl))), (mvc, .inl (cI, 240, .inl (vc)))] H := hP.sub [3, 0, 1, 2] rfl
            have hD : va_D A [(am, .inr (5, [.int (o41.2), .int (qt), .ref mvs, .ref mvl, .ref mvc, .int (qn), .int (qs), .int (qk), .int (qo), .ref mvk, .ref mvt, .ref mvg, .int (qa), .int (qm), .ref mvh, .ref mvrk, .ref mvrt, .ref mvrg, .int (qg), .int (qp), .int (qu), .int (ql), .int (qe), .int (qb), .int (qw), .ref mvf, .int (qi), .int (qj), .int (qr), .ref mvq, .ref mvp, .ref mve])), (mvs, .inl (cI, 4, .inl (vs))), (mvl, .inl (cI, 4, .inl (vl))), (mvc, .inl (cI, 240, .inl (vc)))] := hD.sub [3, 0, 1, 2] (by decide) rfl
            obtain rfl := Option.some.inj hg
            exact rti hQ hx hb hr hlocks hK hP hD hS dX5_copy_69 ⟨rfl, rfl⟩
        · have hg := it hg c12
          refine lv_aload_n hx hb dX5_copy_43 rfl (lv_at hl 0 rfl) ?_
          refine lv_iconst (v := (1 : Int32)) hx hb dX5_copy_44 (by decide) ?_
          obtain ⟨o43, h44, hg⟩ := bd hg
          refine xcVi (As := [.int ((1 : Int32))]) (rest := []) (wc := [(am, .inr (5, [.int ((0 : Int32)), .int (qt), .ref mvs, .ref mvl, .ref mvc, .int (qn), .int (qs), .int (qk), .int (qo), .ref mvk, .ref mvt, .ref mvg, .int (qa), .int (qm), .ref mvh, .ref mvrk, .ref mvrt, .ref mvrg, .int (qg), .int (qp), .int (qu), .int (ql), .int (qe), .int (qb), .int (qw), .ref mvf, .int (qi), .int (qj), .int (qr), .ref mvq, .ref mvp, .ref mve]))]) (wr := [(mvs, .inl (cI, 4, .inl (vs))), (mvl, .inl (cI, 4, .inl (vl))), (mvc, .inl (cI, 240, .inl (vc)))]) ⟨hx, hb, hml, hown, hts⟩ (c_X5_fails l D cI cZ cR am mvs mvl mvc mvk mvt mvg mvh mvrk mvrt mvrg mvf mvq mvp mve (0 : Int32) qt qn qs qk qo qa qm qg qp qu ql qe qb qw qi qj qr (1 : Int32) h44) (cwV 1 hts gX5_copy_X5_fails rfl rfl rfl (by decide +kernel) ⟨Nat.le_of_ble_eq_true rfl, Nat.le_of_ble_eq_true rfl⟩) hK hP hD hS hA [0] [1, 2, 3] rfl rfl (by decide) (by decide) (by decide) (va_recv hK hP (ci := 5) (q0 := 0) rfl rfl) rfl rfl hl.1 (lv_room (Nat.le_of_ble_eq_true rfl)) dX5_copy_45 ⟨Nat.le_of_ble_eq_true rfl, Nat.le_of_ble_eq_true rfl⟩ (fun r u H locs hu hP hD hS => ?_)
          obtain ⟨rfl, rfl⟩ := hu
          have hP : va_P D vwCl [(am, .inr (5, [.int (o43.2), .int (qt), .ref mvs, .ref mvl, .ref mvc, .int (qn), .int (qs), .int (qk), .int (qo), .ref mvk, .ref mvt, .ref mvg, .int (qa), .int (qm), .ref mvh, .ref mvrk, .ref mvrt, .ref mvrg, .int (qg), .int (qp), .int (qu), .int (ql), .int (qe), .int (qb), .int (qw), .ref mvf, .int (qi), .int (qj), .int (qr), .ref mvq, .ref mvp, .ref mve])), (mvs, .inl (cI, 4, .inl (vs))), (mvl, .inl (cI, 4, .inl (vl))), (mvc, .inl (cI, 240, .inl (vc)))] H := hP.sub [3, 0, 1, 2] rfl
          have hD : va_D A [(am, .inr (5, [.int (o43.2), .int (qt), .ref mvs, .ref mvl, .ref mvc, .int (qn), .int (qs), .int (qk), .int (qo), .ref mvk, .ref mvt, .ref mvg, .int (qa), .int (qm), .ref mvh, .ref mvrk, .ref mvrt, .ref mvrg, .int (qg), .int (qp), .int (qu), .int (ql), .int (qe), .int (qb), .int (qw), .ref mvf, .int (qi), .int (qj), .int (qr), .ref mvq, .ref mvp, .ref mve])), (mvs, .inl (cI, 4, .inl (vs))), (mvl, .inl (cI, 4, .inl (vl))), (mvc, .inl (cI, 240, .inl (vc)))] := hD.sub [3, 0, 1, 2] (by decide) rfl
          obtain rfl := Option.some.inj hg
          exact rti hQ hx hb hr hlocks hK hP hD hS dX5_copy_48 ⟨rfl, rfl⟩
    · have hg := it hg c6
      refine lv_iconst (v := (-1 : Int32)) hx hb dX5_copy_19 (by decide) ?_
      obtain rfl := Option.some.inj hg
      exact rti hQ hx hb hr hlocks hK hP hD hS dX5_copy_20 ⟨rfl, rfl⟩
def f_X5_begins (qt : Int32) (zv : Int32) : Option (Int32) :=
  some ((((31 : Int32) * qt) + zv))
set_option maxHeartbeats 4000000 in
set_option maxRecDepth 100000 in
theorem c_X5_begins (l : Launch) (D : va_G) (cI cZ cR : ClassId) (am : Nat) (mvs : Nat) (mvl : Nat) (mvc : Nat) (mvk : Nat) (mvt : Nat) (mvg : Nat) (mvh : Nat) (mvrk : Nat) (mvrt : Nat) (mvrg : Nat) (mvf : Nat) (mvq : Nat) (mvp : Nat) (mve : Nat) (qf : Int32) (qt : Int32) (qn : Int32) (qs : Int32) (qk : Int32) (qo : Int32) (qa : Int32) (qm : Int32) (qg : Int32) (qp : Int32) (qu : Int32) (ql : Int32) (qe : Int32) (qb : Int32) (qw : Int32) (qi : Int32) (qj : Int32) (qr : Int32) (zv : Int32) {res : Int32} (hg : f_X5_begins qt zv = some res) : MV l yX5_begins wsX5_begins ({ frames := 0, cells := 0, slots := 0, locals := 0 }) D (T3 cI cZ cR) [(am, .inr (5, [.int (qf), .int (qt), .ref mvs, .ref mvl, .ref mvc, .int (qn), .int (qs), .int (qk), .int (qo), .ref mvk, .ref mvt, .ref mvg, .int (qa), .int (qm), .ref mvh, .ref mvrk, .ref mvrt, .ref mvrg, .int (qg), .int (qp), .int (qu), .int (ql), .int (qe), .int (qb), .int (qw), .ref mvf, .int (qi), .int (qj), .int (qr), .ref mvq, .ref mvp, .ref mve]))] [.ref am, .int (zv)] (fun u => u = [(am, .inr (5, [.int (qf), .int (res), .ref mvs, .ref mvl, .ref mvc, .int (qn), .int (qs), .int (qk), .int (qo), .ref mvk, .ref mvt, .ref mvg, .int (qa), .int (qm), .ref mvh, .ref mvrk, .ref mvrt, .ref mvrg, .int (qg), .int (qp), .int (qu), .int (ql), .int (qe), .int (qb), .int (qw), .ref mvf, .int (qi), .int (qj), .int (qr), .ref mvq, .ref mvp, .ref mve]))]) := by
  refine entV (Rn := RX5) (by decide +kernel) rfl rfl (Nat.le_of_ble_eq_true rfl) (fun p e s m args below meth c A Q hx hb hr hml hts hown hlocks hA hP hD hK hS ls hl hQ => ?_)
  have inX5 : ∀ w ∈ u_ws RX5 TX5 32, w ∈ wsX5_begins := by decide +kernel
  have hl : lv_has ls 2 [(0, .ref am), (1, .int (zv))] := hl
  rw [f_X5_begins] at hg
  refine lv_aload_n hx hb dX5_begins_0 rfl (lv_at hl 0 rfl) ?_
  refine lv_bipush (v := (31 : Int32)) hx hb dX5_begins_1 (by decide) ?_
  refine lv_aload_n hx hb dX5_begins_3 rfl (lv_at hl 0 rfl) ?_
  refine va_get (D := D) (ci := 5) (v := .int (qt)) (C := RX5) (T := TX5) (N := 32) hx hb hts inX5 hown hK hP 0 rfl rfl 1 (by decide) (hts (.fieldLink RX5 197 "ScooterFlagsModel" "trace" "I") (by decide +kernel)) (fun _ h9 => h9) rfl dX5_begins_4 ?_
  refine lv_imul hx hb dX5_begins_7 ?_
  refine lv_iload_n hx hb dX5_begins_8 rfl (lv_at hl 1 rfl) ?_
  refine lv_iadd hx hb dX5_begins_9 ?_
  refine va_put (D := D) (ci := 5) (v := .int ((((31 : Int32) * qt) + zv))) (ty := .int) (C := RX5) (T := TX5) (N := 32) hx hb hts inX5 tyX5 tyX5_ok nmX5 hown hK hP hD hS 0 rfl rfl 1 (by decide) (hts (.fieldLink RX5 197 "ScooterFlagsModel" "trace" "I") (by decide +kernel)) (fun _ h9 => h9) rfl (by decide +kernel) rfl rfl (Nat.le_of_ble_eq_true rfl) dX5_begins_10 (fun H locs hP hD hS => ?_)
  have hP : va_P D vwCl [(am, .inr (5, [.int (qf), .int ((((31 : Int32) * qt) + zv)), .ref mvs, .ref mvl, .ref mvc, .int (qn), .int (qs), .int (qk), .int (qo), .ref mvk, .ref mvt, .ref mvg, .int (qa), .int (qm), .ref mvh, .ref mvrk, .ref mvrt, .ref mvrg, .int (qg), .int (qp), .int (qu), .int (ql), .int (qe), .int (qb), .int (qw), .ref mvf, .int (qi), .int (qj), .int (qr), .ref mvq, .ref mvp, .ref mve]))] H := hP
  have hD : va_D A [(am, .inr (5, [.int (qf), .int ((((31 : Int32) * qt) + zv)), .ref mvs, .ref mvl, .ref mvc, .int (qn), .int (qs), .int (qk), .int (qo), .ref mvk, .ref mvt, .ref mvg, .int (qa), .int (qm), .ref mvh, .ref mvrk, .ref mvrt, .ref mvrg, .int (qg), .int (qp), .int (qu), .int (ql), .int (qe), .int (qb), .int (qw), .ref mvf, .int (qi), .int (qj), .int (qr), .ref mvq, .ref mvp, .ref mve]))] := hD
  obtain rfl := Option.some.inj hg
  exact rtv hQ hx hb hr hlocks hK hP hD hS dX5_begins_13 rfl
def f_X5_tell (qt : Int32) (qn : Int32) (vk : Nat → Int32) (vt : Nat → Int32) (zf : Int32) : Option (Int32 × Int32) :=
  (f_X5_isFlag qn zf).bind (fun o1 => if o1 = 0 then (some ((-1 : Int32), qt)) else (gx zf 10 (gx zf 10 (if (vk zf.toNatClampNeg) = 1 then ((f_X5_begins qt (2 : Int32)).bind (fun o7 => (f_X5_begins o7 (1 : Int32)).bind (fun o9 => some (((vt zf.toNatClampNeg) + (100 : Int32)), o9)))) else if (vk zf.toNatClampNeg) = 2 then ((f_X5_begins qt (3 : Int32)).bind (fun o12 => (f_X5_begins o12 (2 : Int32)).bind (fun o14 => (f_X5_begins o14 (1 : Int32)).bind (fun o16 => (f_X5_begins o16 (1 : Int32)).bind (fun o18 => some ((((2 : Int32) * (vt zf.toNatClampNeg)) + (100 : Int32)), o18)))))) else ((f_X5_begins qt (1 : Int32)).bind (fun o20 => some ((vt zf.toNatClampNeg), o20)))))))
set_option maxHeartbeats 4000000 in
set_option maxRecDepth 100000 in
theorem c_X5_tell (l : Launch) (D : va_G) (cI cZ cR : ClassId) (am : Nat) (mvk : Nat) (mvt : Nat) (mvg : Nat) (mvs : Nat) (mvl : Nat) (mvc : Nat) (mvh : Nat) (mvrk : Nat) (mvrt : Nat) (mvrg : Nat) (mvf : Nat) (mvq : Nat) (mvp : Nat) (mve : Nat) (qf : Int32) (qt : Int32) (qn : Int32) (qs : Int32) (qk : Int32) (qo : Int32) (qa : Int32) (qm : Int32) (qg : Int32) (qp : Int32) (qu : Int32) (ql : Int32) (qe : Int32) (qb : Int32) (qw : Int32) (qi : Int32) (qj : Int32) (qr : Int32) (vk : Nat → Int32) (vt : Nat → Int32) (vg : Nat → Int32) (zf : Int32) {res : Int32 × Int32} (hg : f_X5_tell qt qn vk vt zf = some res) : MI l yX5_tell wsX5_tell ({ frames := 1, cells := 0, slots := 0, locals := 21 }) D (T3 cI cZ cR) [(am, .inr (5, [.int (qf), .int (qt), .ref mvs, .ref mvl, .ref mvc, .int (qn), .int (qs), .int (qk), .int (qo), .ref mvk, .ref mvt, .ref mvg, .int (qa), .int (qm), .ref mvh, .ref mvrk, .ref mvrt, .ref mvrg, .int (qg), .int (qp), .int (qu), .int (ql), .int (qe), .int (qb), .int (qw), .ref mvf, .int (qi), .int (qj), .int (qr), .ref mvq, .ref mvp, .ref mve])), (mvk, .inl (cI, 10, .inl (vk))), (mvt, .inl (cI, 10, .inl (vt))), (mvg, .inl (cZ, 10, .inl (vg)))] [.ref am, .int (zf)] (fun r u => res.1 = r ∧ u = [(am, .inr (5, [.int (qf), .int (res.2), .ref mvs, .ref mvl, .ref mvc, .int (qn), .int (qs), .int (qk), .int (qo), .ref mvk, .ref mvt, .ref mvg, .int (qa), .int (qm), .ref mvh, .ref mvrk, .ref mvrt, .ref mvrg, .int (qg), .int (qp), .int (qu), .int (ql), .int (qe), .int (qb), .int (qw), .ref mvf, .int (qi), .int (qj), .int (qr), .ref mvq, .ref mvp, .ref mve])), (mvk, .inl (cI, 10, .inl (vk))), (mvt, .inl (cI, 10, .inl (vt))), (mvg, .inl (cZ, 10, .inl (vg)))]) := by
  refine entI (Rn := RX5) (by decide +kernel) rfl rfl (Nat.le_of_ble_eq_true rfl) (fun p e s m args below meth c A Q hx hb hr hml hts hown hlocks hA hP hD hK hS ls hl hQ => ?_)
  have inX5 : ∀ w ∈ u_ws RX5 TX5 32, w ∈ wsX5_tell := by decide +kernel
  have hl : lv_has ls 3 [(0, .ref am), (1, .int (zf))] := hl
  rw [f_X5_tell] at hg
  refine lv_aload_n hx hb dX5_tell_0 rfl (lv_at hl 0 rfl) ?_
  refine lv_iload_n hx hb dX5_tell_1 rfl (lv_at hl 1 rfl) ?_
  obtain ⟨o1, h2, hg⟩ := bd hg
  refine xcVi (As := [.int (zf)]) (rest := []) (wc := [(am, .inr (5, [.int (qf), .int (qt), .ref mvs, .ref mvl, .ref mvc, .int (qn), .int (qs), .int (qk), .int (qo), .ref mvk, .ref mvt, .ref mvg, .int (qa), .int (qm), .ref mvh, .ref mvrk, .ref mvrt, .ref mvrg, .int (qg), .int (qp), .int (qu), .int (ql), .int (qe), .int (qb), .int (qw), .ref mvf, .int (qi), .int (qj), .int (qr), .ref mvq, .ref mvp, .ref mve]))]) (wr := [(mvk, .inl (cI, 10, .inl (vk))), (mvt, .inl (cI, 10, .inl (vt))), (mvg, .inl (cZ, 10, .inl (vg)))]) ⟨hx, hb, hml, hown, hts⟩ (c_X5_isFlag l D cI cZ cR am mvs mvl mvc mvk mvt mvg mvh mvrk mvrt mvrg mvf mvq mvp mve qf qt qn qs qk qo qa qm qg qp qu ql qe qb qw qi qj qr zf h2) (cwV 1 hts gX5_tell_X5_isFlag rfl rfl rfl (by decide +kernel) ⟨Nat.le_of_ble_eq_true rfl, Nat.le_of_ble_eq_true rfl⟩) hK hP hD hS hA [0] [1, 2, 3] rfl rfl (by decide) (by decide) (by decide) (va_recv hK hP (ci := 5) (q0 := 0) rfl rfl) rfl rfl hl.1 (lv_room (Nat.le_of_ble_eq_true rfl)) dX5_tell_2 ⟨Nat.le_of_ble_eq_true rfl, Nat.le_of_ble_eq_true rfl⟩ (fun r u H locs hu hP hD hS => ?_)
  obtain ⟨rfl, rfl⟩ := hu
  have hP : va_P D vwCl [(am, .inr (5, [.int (qf), .int (qt), .ref mvs, .ref mvl, .ref mvc, .int (qn), .int (qs), .int (qk), .int (qo), .ref mvk, .ref mvt, .ref mvg, .int (qa), .int (qm), .ref mvh, .ref mvrk, .ref mvrt, .ref mvrg, .int (qg), .int (qp), .int (qu), .int (ql), .int (qe), .int (qb), .int (qw), .ref mvf, .int (qi), .int (qj), .int (qr), .ref mvq, .ref mvp, .ref mve])), (mvk, .inl (cI, 10, .inl (vk))), (mvt, .inl (cI, 10, .inl (vt))), (mvg, .inl (cZ, 10, .inl (vg)))] H := hP.sub [3, 0, 1, 2] rfl
  have hD : va_D A [(am, .inr (5, [.int (qf), .int (qt), .ref mvs, .ref mvl, .ref mvc, .int (qn), .int (qs), .int (qk), .int (qo), .ref mvk, .ref mvt, .ref mvg, .int (qa), .int (qm), .ref mvh, .ref mvrk, .ref mvrt, .ref mvrg, .int (qg), .int (qp), .int (qu), .int (ql), .int (qe), .int (qb), .int (qw), .ref mvf, .int (qi), .int (qj), .int (qr), .ref mvq, .ref mvp, .ref mve])), (mvk, .inl (cI, 10, .inl (vk))), (mvt, .inl (cI, 10, .inl (vt))), (mvg, .inl (cZ, 10, .inl (vg)))] := hD.sub [3, 0, 1, 2] (by decide) rfl
  refine lv_if_ne (tgt := 10) hx hb dX5_tell_5 (by decide) (fun c3 => ?_) (fun c3 => ?_)
  · have hg := ie hg c3
    refine lv_aload_n hx hb dX5_tell_10 rfl (lv_at hl 0 rfl) ?_
    refine va_get (D := D) (ci := 5) (v := .ref mvt) (C := RX5) (T := TX5) (N := 32) hx hb hts inX5 hown hK hP 0 rfl rfl 10 (by decide) (hts (.fieldLink RX5 22 "ScooterFlagsModel" "takes" "[I") (by decide +kernel)) (fun _ h9 => h9) rfl dX5_tell_11 ?_
    refine lv_iload_n hx hb dX5_tell_14 rfl (lv_at hl 1 rfl) ?_
    obtain ⟨g4, hg⟩ := gxo hg
    refine va_iald hx hb hK hP 2 0 rfl rfl g4 dX5_tell_15 ?_
    refine W.eq (g2 := F0 m 16 ls [.int ((vt zf.toNatClampNeg))]) rfl ?_
    refine lv_istore_n (lv' := [(2, .int ((vt zf.toNatClampNeg))), (0, .ref am), (1, .int (zf))]) hx hb dX5_tell_16 rfl hl (by decide) rfl (fun ls hl => ?_)
    refine lv_aload_n hx hb dX5_tell_17 rfl (lv_at hl 1 rfl) ?_
    refine va_get (D := D) (ci := 5) (v := .ref mvk) (C := RX5) (T := TX5) (N := 32) hx hb hts inX5 hown hK hP 0 rfl rfl 9 (by decide) (hts (.fieldLink RX5 19 "ScooterFlagsModel" "kind" "[I") (by decide +kernel)) (fun _ h9 => h9) rfl dX5_tell_18 ?_
    refine lv_iload_n hx hb dX5_tell_21 rfl (lv_at hl 2 rfl) ?_
    obtain ⟨g5, hg⟩ := gxo hg
    refine va_iald hx hb hK hP 1 0 rfl rfl g5 dX5_tell_22 ?_
    refine W.eq (g2 := F0 m 23 ls [.int ((vk zf.toNatClampNeg))]) rfl ?_
    by_cases c6 : (vk zf.toNatClampNeg) = 1
    · have hg := it hg c6
      refine lv_lookup (off := 25) (tgt := 48) hx hb dX5_tell_23 (by decide) (by rw [c6]; rfl) (by decide) ?_
      refine lv_aload_n hx hb dX5_tell_48 rfl (lv_at hl 1 rfl) ?_
      refine lv_iconst (v := (2 : Int32)) hx hb dX5_tell_49 (by decide) ?_
      obtain ⟨o7, h8, hg⟩ := bd hg
      refine xcVv (As := [.int ((2 : Int32))]) (rest := []) (wc := [(am, .inr (5, [.int (qf), .int (qt), .ref mvs, .ref mvl, .ref mvc, .int (qn), .int (qs), .int (qk), .int (qo), .ref mvk, .ref mvt, .ref mvg, .int (qa), .int (qm), .ref mvh, .ref mvrk, .ref mvrt, .ref mvrg, .int (qg), .int (qp), .int (qu), .int (ql), .int (qe), .int (qb), .int (qw), .ref mvf, .int (qi), .int (qj), .int (qr), .ref mvq, .ref mvp, .ref mve]))]) (wr := [(mvk, .inl (cI, 10, .inl (vk))), (mvt, .inl (cI, 10, .inl (vt))), (mvg, .inl (cZ, 10, .inl (vg)))]) ⟨hx, hb, hml, hown, hts⟩ (c_X5_begins l D cI cZ cR am mvs mvl mvc mvk mvt mvg mvh mvrk mvrt mvrg mvf mvq mvp mve qf qt qn qs qk qo qa qm qg qp qu ql qe qb qw qi qj qr (2 : Int32) h8) (cwV 1 hts gX5_tell_X5_begins rfl rfl rfl (by decide +kernel) ⟨Nat.le_of_ble_eq_true rfl, Nat.le_of_ble_eq_true rfl⟩) hK hP hD hS hA [0] [1, 2, 3] rfl rfl (by decide) (by decide) (by decide) (va_recv hK hP (ci := 5) (q0 := 0) rfl rfl) rfl rfl hl.1 (lv_room (Nat.le_of_ble_eq_true rfl)) dX5_tell_50 ⟨Nat.le_of_ble_eq_true rfl, Nat.le_of_ble_eq_true rfl⟩ (fun u H locs hu hP hD hS => ?_)
      subst hu
      have hP : va_P D vwCl [(am, .inr (5, [.int (qf), .int (o7), .ref mvs, .ref mvl, .ref mvc, .int (qn), .int (qs), .int (qk), .int (qo), .ref mvk, .ref mvt, .ref mvg, .int (qa), .int (qm), .ref mvh, .ref mvrk, .ref mvrt, .ref mvrg, .int (qg), .int (qp), .int (qu), .int (ql), .int (qe), .int (qb), .int (qw), .ref mvf, .int (qi), .int (qj), .int (qr), .ref mvq, .ref mvp, .ref mve])), (mvk, .inl (cI, 10, .inl (vk))), (mvt, .inl (cI, 10, .inl (vt))), (mvg, .inl (cZ, 10, .inl (vg)))] H := hP.sub [3, 0, 1, 2] rfl
      have hD : va_D A [(am, .inr (5, [.int (qf), .int (o7), .ref mvs, .ref mvl, .ref mvc, .int (qn), .int (qs), .int (qk), .int (qo), .ref mvk, .ref mvt, .ref mvg, .int (qa), .int (qm), .ref mvh, .ref mvrk, .ref mvrt, .ref mvrg, .int (qg), .int (qp), .int (qu), .int (ql), .int (qe), .int (qb), .int (qw), .ref mvf, .int (qi), .int (qj), .int (qr), .ref mvq, .ref mvp, .ref mve])), (mvk, .inl (cI, 10, .inl (vk))), (mvt, .inl (cI, 10, .inl (vt))), (mvg, .inl (cZ, 10, .inl (vg)))] := hD.sub [3, 0, 1, 2] (by decide) rfl
      refine lv_aload_n hx hb dX5_tell_53 rfl (lv_at hl 1 rfl) ?_
      refine lv_iconst (v := (1 : Int32)) hx hb dX5_tell_54 (by decide) ?_
      obtain ⟨o9, h10, hg⟩ := bd hg
      refine xcVv (As := [.int ((1 : Int32))]) (rest := []) (wc := [(am, .inr (5, [.int (qf), .int (o7), .ref mvs, .ref mvl, .ref mvc, .int (qn), .int (qs), .int (qk), .int (qo), .ref mvk, .ref mvt, .ref mvg, .int (qa), .int (qm), .ref mvh, .ref mvrk, .ref mvrt, .ref mvrg, .int (qg), .int (qp), .int (qu), .int (ql), .int (qe), .int (qb), .int (qw), .ref mvf, .int (qi), .int (qj), .int (qr), .ref mvq, .ref mvp, .ref mve]))]) (wr := [(mvk, .inl (cI, 10, .inl (vk))), (mvt, .inl (cI, 10, .inl (vt))), (mvg, .inl (cZ, 10, .inl (vg)))]) ⟨hx, hb, hml, hown, hts⟩ (c_X5_begins l D cI cZ cR am mvs mvl mvc mvk mvt mvg mvh mvrk mvrt mvrg mvf mvq mvp mve qf o7 qn qs qk qo qa qm qg qp qu ql qe qb qw qi qj qr (1 : Int32) h10) (cwV 1 hts gX5_tell_X5_begins rfl rfl rfl (by decide +kernel) ⟨Nat.le_of_ble_eq_true rfl, Nat.le_of_ble_eq_true rfl⟩) hK hP hD hS hA [0] [1, 2, 3] rfl rfl (by decide) (by decide) (by decide) (va_recv hK hP (ci := 5) (q0 := 0) rfl rfl) rfl rfl hl.1 (lv_room (Nat.le_of_ble_eq_true rfl)) dX5_tell_55 ⟨Nat.le_of_ble_eq_true rfl, Nat.le_of_ble_eq_true rfl⟩ (fun u H locs hu hP hD hS => ?_)
      subst hu
      have hP : va_P D vwCl [(am, .inr (5, [.int (qf), .int (o9), .ref mvs, .ref mvl, .ref mvc, .int (qn), .int (qs), .int (qk), .int (qo), .ref mvk, .ref mvt, .ref mvg, .int (qa), .int (qm), .ref mvh, .ref mvrk, .ref mvrt, .ref mvrg, .int (qg), .int (qp), .int (qu), .int (ql), .int (qe), .int (qb), .int (qw), .ref mvf, .int (qi), .int (qj), .int (qr), .ref mvq, .ref mvp, .ref mve])), (mvk, .inl (cI, 10, .inl (vk))), (mvt, .inl (cI, 10, .inl (vt))), (mvg, .inl (cZ, 10, .inl (vg)))] H := hP.sub [3, 0, 1, 2] rfl
      have hD : va_D A [(am, .inr (5, [.int (qf), .int (o9), .ref mvs, .ref mvl, .ref mvc, .int (qn), .int (qs), .int (qk), .int (qo), .ref mvk, .ref mvt, .ref mvg, .int (qa), .int (qm), .ref mvh, .ref mvrk, .ref mvrt, .ref mvrg, .int (qg), .int (qp), .int (qu), .int (ql), .int (qe), .int (qb), .int (qw), .ref mvf, .int (qi), .int (qj), .int (qr), .ref mvq, .ref mvp, .ref mve])), (mvk, .inl (cI, 10, .inl (vk))), (mvt, .inl (cI, 10, .inl (vt))), (mvg, .inl (cZ, 10, .inl (vg)))] := hD.sub [3, 0, 1, 2] (by decide) rfl
      refine lv_iload_n hx hb dX5_tell_58 rfl (lv_at hl 0 rfl) ?_
      refine lv_bipush (v := (100 : Int32)) hx hb dX5_tell_59 (by decide) ?_
      refine lv_iadd hx hb dX5_tell_61 ?_
      obtain rfl := Option.some.inj hg
      exact rti hQ hx hb hr hlocks hK hP hD hS dX5_tell_62 ⟨rfl, rfl⟩
    · have hg := ie hg c6
      by_cases c11 : (vk zf.toNatClampNeg) = 2
      · have hg := it hg c11
        refine lv_lookup (off := 40) (tgt := 63) hx hb dX5_tell_23 (by decide) (by rw [c11]; rfl) (by decide) ?_
        refine lv_aload_n hx hb dX5_tell_63 rfl (lv_at hl 1 rfl) ?_
        refine lv_iconst (v := (3 : Int32)) hx hb dX5_tell_64 (by decide) ?_
        obtain ⟨o12, h13, hg⟩ := bd hg
        refine xcVv (As := [.int ((3 : Int32))]) (rest := []) (wc := [(am, .inr (5, [.int (qf), .int (qt), .ref mvs, .ref mvl, .ref mvc, .int (qn), .int (qs), .int (qk), .int (qo), .ref mvk, .ref mvt, .ref mvg, .int (qa), .int (qm), .ref mvh, .ref mvrk, .ref mvrt, .ref mvrg, .int (qg), .int (qp), .int (qu), .int (ql), .int (qe), .int (qb), .int (qw), .ref mvf, .int (qi), .int (qj), .int (qr), .ref mvq, .ref mvp, .ref mve]))]) (wr := [(mvk, .inl (cI, 10, .inl (vk))), (mvt, .inl (cI, 10, .inl (vt))), (mvg, .inl (cZ, 10, .inl (vg)))]) ⟨hx, hb, hml, hown, hts⟩ (c_X5_begins l D cI cZ cR am mvs mvl mvc mvk mvt mvg mvh mvrk mvrt mvrg mvf mvq mvp mve qf qt qn qs qk qo qa qm qg qp qu ql qe qb qw qi qj qr (3 : Int32) h13) (cwV 1 hts gX5_tell_X5_begins rfl rfl rfl (by decide +kernel) ⟨Nat.le_of_ble_eq_true rfl, Nat.le_of_ble_eq_true rfl⟩) hK hP hD hS hA [0] [1, 2, 3] rfl rfl (by decide) (by decide) (by decide) (va_recv hK hP (ci := 5) (q0 := 0) rfl rfl) rfl rfl hl.1 (lv_room (Nat.le_of_ble_eq_true rfl)) dX5_tell_65 ⟨Nat.le_of_ble_eq_true rfl, Nat.le_of_ble_eq_true rfl⟩ (fun u H locs hu hP hD hS => ?_)
        subst hu
        have hP : va_P D vwCl [(am, .inr (5, [.int (qf), .int (o12), .ref mvs, .ref mvl, .ref mvc, .int (qn), .int (qs), .int (qk), .int (qo), .ref mvk, .ref mvt, .ref mvg, .int (qa), .int (qm), .ref mvh, .ref mvrk, .ref mvrt, .ref mvrg, .int (qg), .int (qp), .int (qu), .int (ql), .int (qe), .int (qb), .int (qw), .ref mvf, .int (qi), .int (qj), .int (qr), .ref mvq, .ref mvp, .ref mve])), (mvk, .inl (cI, 10, .inl (vk))), (mvt, .inl (cI, 10, .inl (vt))), (mvg, .inl (cZ, 10, .inl (vg)))] H := hP.sub [3, 0, 1, 2] rfl
        have hD : va_D A [(am, .inr (5, [.int (qf), .int (o12), .ref mvs, .ref mvl, .ref mvc, .int (qn), .int (qs), .int (qk), .int (qo), .ref mvk, .ref mvt, .ref mvg, .int (qa), .int (qm), .ref mvh, .ref mvrk, .ref mvrt, .ref mvrg, .int (qg), .int (qp), .int (qu), .int (ql), .int (qe), .int (qb), .int (qw), .ref mvf, .int (qi), .int (qj), .int (qr), .ref mvq, .ref mvp, .ref mve])), (mvk, .inl (cI, 10, .inl (vk))), (mvt, .inl (cI, 10, .inl (vt))), (mvg, .inl (cZ, 10, .inl (vg)))] := hD.sub [3, 0, 1, 2] (by decide) rfl
        refine lv_aload_n hx hb dX5_tell_68 rfl (lv_at hl 1 rfl) ?_
        refine lv_iconst (v := (2 : Int32)) hx hb dX5_tell_69 (by decide) ?_
        obtain ⟨o14, h15, hg⟩ := bd hg
        refine xcVv (As := [.int ((2 : Int32))]) (rest := []) (wc := [(am, .inr (5, [.int (qf), .int (o12), .ref mvs, .ref mvl, .ref mvc, .int (qn), .int (qs), .int (qk), .int (qo), .ref mvk, .ref mvt, .ref mvg, .int (qa), .int (qm), .ref mvh, .ref mvrk, .ref mvrt, .ref mvrg, .int (qg), .int (qp), .int (qu), .int (ql), .int (qe), .int (qb), .int (qw), .ref mvf, .int (qi), .int (qj), .int (qr), .ref mvq, .ref mvp, .ref mve]))]) (wr := [(mvk, .inl (cI, 10, .inl (vk))), (mvt, .inl (cI, 10, .inl (vt))), (mvg, .inl (cZ, 10, .inl (vg)))]) ⟨hx, hb, hml, hown, hts⟩ (c_X5_begins l D cI cZ cR am mvs mvl mvc mvk mvt mvg mvh mvrk mvrt mvrg mvf mvq mvp mve qf o12 qn qs qk qo qa qm qg qp qu ql qe qb qw qi qj qr (2 : Int32) h15) (cwV 1 hts gX5_tell_X5_begins rfl rfl rfl (by decide +kernel) ⟨Nat.le_of_ble_eq_true rfl, Nat.le_of_ble_eq_true rfl⟩) hK hP hD hS hA [0] [1, 2, 3] rfl rfl (by decide) (by decide) (by decide) (va_recv hK hP (ci := 5) (q0 := 0) rfl rfl) rfl rfl hl.1 (lv_room (Nat.le_of_ble_eq_true rfl)) dX5_tell_70 ⟨Nat.le_of_ble_eq_true rfl, Nat.le_of_ble_eq_true rfl⟩ (fun u H locs hu hP hD hS => ?_)
        subst hu
        have hP : va_P D vwCl [(am, .inr (5, [.int (qf), .int (o14), .ref mvs, .ref mvl, .ref mvc, .int (qn), .int (qs), .int (qk), .int (qo), .ref mvk, .ref mvt, .ref mvg, .int (qa), .int (qm), .ref mvh, .ref mvrk, .ref mvrt, .ref mvrg, .int (qg), .int (qp), .int (qu), .int (ql), .int (qe), .int (qb), .int (qw), .ref mvf, .int (qi), .int (qj), .int (qr), .ref mvq, .ref mvp, .ref mve])), (mvk, .inl (cI, 10, .inl (vk))), (mvt, .inl (cI, 10, .inl (vt))), (mvg, .inl (cZ, 10, .inl (vg)))] H := hP.sub [3, 0, 1, 2] rfl
        have hD : va_D A [(am, .inr (5, [.int (qf), .int (o14), .ref mvs, .ref mvl, .ref mvc, .int (qn), .int (qs), .int (qk), .int (qo), .ref mvk, .ref mvt, .ref mvg, .int (qa), .int (qm), .ref mvh, .ref mvrk, .ref mvrt, .ref mvrg, .int (qg), .int (qp), .int (qu), .int (ql), .int (qe), .int (qb), .int (qw), .ref mvf, .int (qi), .int (qj), .int (qr), .ref mvq, .ref mvp, .ref mve])), (mvk, .inl (cI, 10, .inl (vk))), (mvt, .inl (cI, 10, .inl (vt))), (mvg, .inl (cZ, 10, .inl (vg)))] := hD.sub [3, 0, 1, 2] (by decide) rfl
        refine lv_aload_n hx hb dX5_tell_73 rfl (lv_at hl 1 rfl) ?_
        refine lv_iconst (v := (1 : Int32)) hx hb dX5_tell_74 (by decide) ?_
        obtain ⟨o16, h17, hg⟩ := bd hg
        refine xcVv (As := [.int ((1 : Int32))]) (rest := []) (wc := [(am, .inr (5, [.int (qf), .int (o14), .ref mvs, .ref mvl, .ref mvc, .int (qn), .int (qs), .int (qk), .int (qo), .ref mvk, .ref mvt, .ref mvg, .int (qa), .int (qm), .ref mvh, .ref mvrk, .ref mvrt, .ref mvrg, .int (qg), .int (qp), .int (qu), .int (ql), .int (qe), .int (qb), .int (qw), .ref mvf, .int (qi), .int (qj), .int (qr), .ref mvq, .ref mvp, .ref mve]))]) (wr := [(mvk, .inl (cI, 10, .inl (vk))), (mvt, .inl (cI, 10, .inl (vt))), (mvg, .inl (cZ, 10, .inl (vg)))]) ⟨hx, hb, hml, hown, hts⟩ (c_X5_begins l D cI cZ cR am mvs mvl mvc mvk mvt mvg mvh mvrk mvrt mvrg mvf mvq mvp mve qf o14 qn qs qk qo qa qm qg qp qu ql qe qb qw qi qj qr (1 : Int32) h17) (cwV 1 hts gX5_tell_X5_begins rfl rfl rfl (by decide +kernel) ⟨Nat.le_of_ble_eq_true rfl, Nat.le_of_ble_eq_true rfl⟩) hK hP hD hS hA [0] [1, 2, 3] rfl rfl (by decide) (by decide) (by decide) (va_recv hK hP (ci := 5) (q0 := 0) rfl rfl) rfl rfl hl.1 (lv_room (Nat.le_of_ble_eq_true rfl)) dX5_tell_75 ⟨Nat.le_of_ble_eq_true rfl, Nat.le_of_ble_eq_true rfl⟩ (fun u H locs hu hP hD hS => ?_)
        subst hu
        have hP : va_P D vwCl [(am, .inr (5, [.int (qf), .int (o16), .ref mvs, .ref mvl, .ref mvc, .int (qn), .int (qs), .int (qk), .int (qo), .ref mvk, .ref mvt, .ref mvg, .int (qa), .int (qm), .ref mvh, .ref mvrk, .ref mvrt, .ref mvrg, .int (qg), .int (qp), .int (qu), .int (ql), .int (qe), .int (qb), .int (qw), .ref mvf, .int (qi), .int (qj), .int (qr), .ref mvq, .ref mvp, .ref mve])), (mvk, .inl (cI, 10, .inl (vk))), (mvt, .inl (cI, 10, .inl (vt))), (mvg, .inl (cZ, 10, .inl (vg)))] H := hP.sub [3, 0, 1, 2] rfl
        have hD : va_D A [(am, .inr (5, [.int (qf), .int (o16), .ref mvs, .ref mvl, .ref mvc, .int (qn), .int (qs), .int (qk), .int (qo), .ref mvk, .ref mvt, .ref mvg, .int (qa), .int (qm), .ref mvh, .ref mvrk, .ref mvrt, .ref mvrg, .int (qg), .int (qp), .int (qu), .int (ql), .int (qe), .int (qb), .int (qw), .ref mvf, .int (qi), .int (qj), .int (qr), .ref mvq, .ref mvp, .ref mve])), (mvk, .inl (cI, 10, .inl (vk))), (mvt, .inl (cI, 10, .inl (vt))), (mvg, .inl (cZ, 10, .inl (vg)))] := hD.sub [3, 0, 1, 2] (by decide) rfl
        refine lv_aload_n hx hb dX5_tell_78 rfl (lv_at hl 1 rfl) ?_
        refine lv_iconst (v := (1 : Int32)) hx hb dX5_tell_79 (by decide) ?_
        obtain ⟨o18, h19, hg⟩ := bd hg
        refine xcVv (As := [.int ((1 : Int32))]) (rest := []) (wc := [(am, .inr (5, [.int (qf), .int (o16), .ref mvs, .ref mvl, .ref mvc, .int (qn), .int (qs), .int (qk), .int (qo), .ref mvk, .ref mvt, .ref mvg, .int (qa), .int (qm), .ref mvh, .ref mvrk, .ref mvrt, .ref mvrg, .int (qg), .int (qp), .int (qu), .int (ql), .int (qe), .int (qb), .int (qw), .ref mvf, .int (qi), .int (qj), .int (qr), .ref mvq, .ref mvp, .ref mve]))]) (wr := [(mvk, .inl (cI, 10, .inl (vk))), (mvt, .inl (cI, 10, .inl (vt))), (mvg, .inl (cZ, 10, .inl (vg)))]) ⟨hx, hb, hml, hown, hts⟩ (c_X5_begins l D cI cZ cR am mvs mvl mvc mvk mvt mvg mvh mvrk mvrt mvrg mvf mvq mvp mve qf o16 qn qs qk qo qa qm qg qp qu ql qe qb qw qi qj qr (1 : Int32) h19) (cwV 1 hts gX5_tell_X5_begins rfl rfl rfl (by decide +kernel) ⟨Nat.le_of_ble_eq_true rfl, Nat.le_of_ble_eq_true rfl⟩) hK hP hD hS hA [0] [1, 2, 3] rfl rfl (by decide) (by decide) (by decide) (va_recv hK hP (ci := 5) (q0 := 0) rfl rfl) rfl rfl hl.1 (lv_room (Nat.le_of_ble_eq_true rfl)) dX5_tell_80 ⟨Nat.le_of_ble_eq_true rfl, Nat.le_of_ble_eq_true rfl⟩ (fun u H locs hu hP hD hS => ?_)
        subst hu
        have hP : va_P D vwCl [(am, .inr (5, [.int (qf), .int (o18), .ref mvs, .ref mvl, .ref mvc, .int (qn), .int (qs), .int (qk), .int (qo), .ref mvk, .ref mvt, .ref mvg, .int (qa), .int (qm), .ref mvh, .ref mvrk, .ref mvrt, .ref mvrg, .int (qg), .int (qp), .int (qu), .int (ql), .int (qe), .int (qb), .int (qw), .ref mvf, .int (qi), .int (qj), .int (qr), .ref mvq, .ref mvp, .ref mve])), (mvk, .inl (cI, 10, .inl (vk))), (mvt, .inl (cI, 10, .inl (vt))), (mvg, .inl (cZ, 10, .inl (vg)))] H := hP.sub [3, 0, 1, 2] rfl
        have hD : va_D A [(am, .inr (5, [.int (qf), .int (o18), .ref mvs, .ref mvl, .ref mvc, .int (qn), .int (qs), .int (qk), .int (qo), .ref mvk, .ref mvt, .ref mvg, .int (qa), .int (qm), .ref mvh, .ref mvrk, .ref mvrt, .ref mvrg, .int (qg), .int (qp), .int (qu), .int (ql), .int (qe), .int (qb), .int (qw), .ref mvf, .int (qi), .int (qj), .int (qr), .ref mvq, .ref mvp, .ref mve])), (mvk, .inl (cI, 10, .inl (vk))), (mvt, .inl (cI, 10, .inl (vt))), (mvg, .inl (cZ, 10, .inl (vg)))] := hD.sub [3, 0, 1, 2] (by decide) rfl
        refine lv_iconst (v := (2 : Int32)) hx hb dX5_tell_83 (by decide) ?_
        refine lv_iload_n hx hb dX5_tell_84 rfl (lv_at hl 0 rfl) ?_
        refine lv_imul hx hb dX5_tell_85 ?_
        refine lv_bipush (v := (100 : Int32)) hx hb dX5_tell_86 (by decide) ?_
        refine lv_iadd hx hb dX5_tell_88 ?_
        obtain rfl := Option.some.inj hg
        exact rti hQ hx hb hr hlocks hK hP hD hS dX5_tell_89 ⟨rfl, rfl⟩
      · have hg := ie hg c11
        refine lv_lookup (off := 67) (tgt := 90) hx hb dX5_tell_23 (by decide) (by show Op.lookupswitch.offset [(1, 25), (2, 40)] _ _ = _; rw [lv_osw (a := 1) c6 rfl, lv_osw (a := 2) c11 rfl]; rfl) (by decide) ?_
        refine lv_aload_n hx hb dX5_tell_90 rfl (lv_at hl 1 rfl) ?_
        refine lv_iconst (v := (1 : Int32)) hx hb dX5_tell_91 (by decide) ?_
        obtain ⟨o20, h21, hg⟩ := bd hg
        refine xcVv (As := [.int ((1 : Int32))]) (rest := []) (wc := [(am, .inr (5, [.int (qf), .int (qt), .ref mvs, .ref mvl, .ref mvc, .int (qn), .int (qs), .int (qk), .int (qo), .ref mvk, .ref mvt, .ref mvg, .int (qa), .int (qm), .ref mvh, .ref mvrk, .ref mvrt, .ref mvrg, .int (qg), .int (qp), .int (qu), .int (ql), .int (qe), .int (qb), .int (qw), .ref mvf, .int (qi), .int (qj), .int (qr), .ref mvq, .ref mvp, .ref mve]))]) (wr := [(mvk, .inl (cI, 10, .inl (vk))), (mvt, .inl (cI, 10, .inl (vt))), (mvg, .inl (cZ, 10, .inl (vg)))]) ⟨hx, hb, hml, hown, hts⟩ (c_X5_begins l D cI cZ cR am mvs mvl mvc mvk mvt mvg mvh mvrk mvrt mvrg mvf mvq mvp mve qf qt qn qs qk qo qa qm qg qp qu ql qe qb qw qi qj qr (1 : Int32) h21) (cwV 1 hts gX5_tell_X5_begins rfl rfl rfl (by decide +kernel) ⟨Nat.le_of_ble_eq_true rfl, Nat.le_of_ble_eq_true rfl⟩) hK hP hD hS hA [0] [1, 2, 3] rfl rfl (by decide) (by decide) (by decide) (va_recv hK hP (ci := 5) (q0 := 0) rfl rfl) rfl rfl hl.1 (lv_room (Nat.le_of_ble_eq_true rfl)) dX5_tell_92 ⟨Nat.le_of_ble_eq_true rfl, Nat.le_of_ble_eq_true rfl⟩ (fun u H locs hu hP hD hS => ?_)
        subst hu
        have hP : va_P D vwCl [(am, .inr (5, [.int (qf), .int (o20), .ref mvs, .ref mvl, .ref mvc, .int (qn), .int (qs), .int (qk), .int (qo), .ref mvk, .ref mvt, .ref mvg, .int (qa), .int (qm), .ref mvh, .ref mvrk, .ref mvrt, .ref mvrg, .int (qg), .int (qp), .int (qu), .int (ql), .int (qe), .int (qb), .int (qw), .ref mvf, .int (qi), .int (qj), .int (qr), .ref mvq, .ref mvp, .ref mve])), (mvk, .inl (cI, 10, .inl (vk))), (mvt, .inl (cI, 10, .inl (vt))), (mvg, .inl (cZ, 10, .inl (vg)))] H := hP.sub [3, 0, 1, 2] rfl
        have hD : va_D A [(am, .inr (5, [.int (qf), .int (o20), .ref mvs, .ref mvl, .ref mvc, .int (qn), .int (qs), .int (qk), .int (qo), .ref mvk, .ref mvt, .ref mvg, .int (qa), .int (qm), .ref mvh, .ref mvrk, .ref mvrt, .ref mvrg, .int (qg), .int (qp), .int (qu), .int (ql), .int (qe), .int (qb), .int (qw), .ref mvf, .int (qi), .int (qj), .int (qr), .ref mvq, .ref mvp, .ref mve])), (mvk, .inl (cI, 10, .inl (vk))), (mvt, .inl (cI, 10, .inl (vt))), (mvg, .inl (cZ, 10, .inl (vg)))] := hD.sub [3, 0, 1, 2] (by decide) rfl
        refine lv_iload_n hx hb dX5_tell_95 rfl (lv_at hl 0 rfl) ?_
        obtain rfl := Option.some.inj hg
        exact rti hQ hx hb hr hlocks hK hP hD hS dX5_tell_96 ⟨rfl, rfl⟩
  · have hg := it hg c3
    refine lv_iconst (v := (-1 : Int32)) hx hb dX5_tell_8 (by decide) ?_
    obtain rfl := Option.some.inj hg
    exact rti hQ hx hb hr hlocks hK hP hD hS dX5_tell_9 ⟨rfl, rfl⟩
def f_X5_rattle_26 (vk : Nat → Int32) (zf : Int32) (y1 : Int32) (qt : Int32) : Option (Int32 × Int32) :=
  (f_X5_begins qt y1).bind (fun o6 => gx zf 10 (if (vk zf.toNatClampNeg) = (2 : Int32) then (some ((40 : Int32), o6)) else (some (zf, o6))))
def f_X5_rattle (qt : Int32) (qn : Int32) (vk : Nat → Int32) (zf : Int32) : Option (Int32 × Int32) :=
  (f_X5_isFlag qn zf).bind (fun o1 => if o1 = 0 then (some ((-1 : Int32), qt)) else (gx zf 10 (if (vk zf.toNatClampNeg) = (2 : Int32) then (f_X5_rattle_26 vk zf (5 : Int32) qt) else (f_X5_rattle_26 vk zf (4 : Int32) qt))))
set_option maxHeartbeats 4000000 in
set_option maxRecDepth 100000 in
theorem c_X5_rattle (l : Launch) (D : va_G) (cI cZ cR : ClassId) (am : Nat) (mvk : Nat) (mvt : Nat) (mvg : Nat) (mvs : Nat) (mvl : Nat) (mvc : Nat) (mvh : Nat) (mvrk : Nat) (mvrt : Nat) (mvrg : Nat) (mvf : Nat) (mvq : Nat) (mvp : Nat) (mve : Nat) (qf : Int32) (qt : Int32) (qn : Int32) (qs : Int32) (qk : Int32) (qo : Int32) (qa : Int32) (qm : Int32) (qg : Int32) (qp : Int32) (qu : Int32) (ql : Int32) (qe : Int32) (qb : Int32) (qw : Int32) (qi : Int32) (qj : Int32) (qr : Int32) (vk : Nat → Int32) (vt : Nat → Int32) (vg : Nat → Int32) (zf : Int32) {res : Int32 × Int32} (hg : f_X5_rattle qt qn vk zf = some res) : MI l yX5_rattle wsX5_rattle ({ frames := 1, cells := 0, slots := 0, locals := 21 }) D (T3 cI cZ cR) [(am, .inr (5, [.int (qf), .int (qt), .ref mvs, .ref mvl, .ref mvc, .int (qn), .int (qs), .int (qk), .int (qo), .ref mvk, .ref mvt, .ref mvg, .int (qa), .int (qm), .ref mvh, .ref mvrk, .ref mvrt, .ref mvrg, .int (qg), .int (qp), .int (qu), .int (ql), .int (qe), .int (qb), .int (qw), .ref mvf, .int (qi), .int (qj), .int (qr), .ref mvq, .ref mvp, .ref mve])), (mvk, .inl (cI, 10, .inl (vk))), (mvt, .inl (cI, 10, .inl (vt))), (mvg, .inl (cZ, 10, .inl (vg)))] [.ref am, .int (zf)] (fun r u => res.1 = r ∧ u = [(am, .inr (5, [.int (qf), .int (res.2), .ref mvs, .ref mvl, .ref mvc, .int (qn), .int (qs), .int (qk), .int (qo), .ref mvk, .ref mvt, .ref mvg, .int (qa), .int (qm), .ref mvh, .ref mvrk, .ref mvrt, .ref mvrg, .int (qg), .int (qp), .int (qu), .int (ql), .int (qe), .int (qb), .int (qw), .ref mvf, .int (qi), .int (qj), .int (qr), .ref mvq, .ref mvp, .ref mve])), (mvk, .inl (cI, 10, .inl (vk))), (mvt, .inl (cI, 10, .inl (vt))), (mvg, .inl (cZ, 10, .inl (vg)))]) := by
  refine entI (Rn := RX5) (by decide +kernel) rfl rfl (Nat.le_of_ble_eq_true rfl) (fun p e s m args below meth c A Q hx hb hr hml hts hown hlocks hA hP hD hK hS ls hl hQ => ?_)
  have inX5 : ∀ w ∈ u_ws RX5 TX5 32, w ∈ wsX5_rattle := by decide +kernel
  have bk_26 : ∀ (y1 : Int32) (qt : Int32), f_X5_rattle_26 vk zf y1 qt = some res → ∀ (H : Heap) (locs : List Loc), va_P D vwCl [(am, .inr (5, [.int (qf), .int (qt), .ref mvs, .ref mvl, .ref mvc, .int (qn), .int (qs), .int (qk), .int (qo), .ref mvk, .ref mvt, .ref mvg, .int (qa), .int (qm), .ref mvh, .ref mvrk, .ref mvrt, .ref mvrg, .int (qg), .int (qp), .int (qu), .int (ql), .int (qe), .int (qb), .int (qw), .ref mvf, .int (qi), .int (qj), .int (qr), .ref mvq, .ref mvp, .ref mve])), (mvk, .inl (cI, 10, .inl (vk))), (mvt, .inl (cI, 10, .inl (vt))), (mvg, .inl (cZ, 10, .inl (vg)))] H → va_D A [(am, .inr (5, [.int (qf), .int (qt), .ref mvs, .ref mvl, .ref mvc, .int (qn), .int (qs), .int (qk), .int (qo), .ref mvk, .ref mvt, .ref mvg, .int (qa), .int (qm), .ref mvh, .ref mvrk, .ref mvrt, .ref mvrg, .int (qg), .int (qp), .int (qu), .int (ql), .int (qe), .int (qb), .int (qw), .ref mvf, .int (qi), .int (qj), .int (qr), .ref mvq, .ref mvp, .ref mve])), (mvk, .inl (cI, 10, .inl (vk))), (mvt, .inl (cI, 10, .inl (vt))), (mvg, .inl (cZ, 10, .inl (vg)))] → va_S A s.heap H locs → ∀ (ls : Array Slot), lv_has ls 2 [(0, .ref am), (1, .int (zf))] → W p l e ({ frames := 1, cells := 0, slots := 0, locals := 21 }) s m args below meth c H locs 0 0 Q (F0 m 26 ls [.int (y1), .ref am]) := by
    intro y1 qt hg H locs hP hD hS ls hl
    rw [f_X5_rattle_26] at hg
    obtain ⟨o6, h7, hg⟩ := bd hg
    refine xcVv (As := [.int (y1)]) (rest := []) (wc := [(am, .inr (5, [.int (qf), .int (qt), .ref mvs, .ref mvl, .ref mvc, .int (qn), .int (qs), .int (qk), .int (qo), .ref mvk, .ref mvt, .ref mvg, .int (qa), .int (qm), .ref mvh, .ref mvrk, .ref mvrt, .ref mvrg, .int (qg), .int (qp), .int (qu), .int (ql), .int (qe), .int (qb), .int (qw), .ref mvf, .int (qi), .int (qj), .int (qr), .ref mvq, .ref mvp, .ref mve]))]) (wr := [(mvk, .inl (cI, 10, .inl (vk))), (mvt, .inl (cI, 10, .inl (vt))), (mvg, .inl (cZ, 10, .inl (vg)))]) ⟨hx, hb, hml, hown, hts⟩ (c_X5_begins l D cI cZ cR am mvs mvl mvc mvk mvt mvg mvh mvrk mvrt mvrg mvf mvq mvp mve qf qt qn qs qk qo qa qm qg qp qu ql qe qb qw qi qj qr y1 h7) (cwV 1 hts gX5_rattle_X5_begins rfl rfl rfl (by decide +kernel) ⟨Nat.le_of_ble_eq_true rfl, Nat.le_of_ble_eq_true rfl⟩) hK hP hD hS hA [0] [1, 2, 3] rfl rfl (by decide) (by decide) (by decide) (va_recv hK hP (ci := 5) (q0 := 0) rfl rfl) rfl rfl hl.1 (lv_room (Nat.le_of_ble_eq_true rfl)) dX5_rattle_26 ⟨Nat.le_of_ble_eq_true rfl, Nat.le_of_ble_eq_true rfl⟩ (fun u H locs hu hP hD hS => ?_)
    subst hu
    have hP : va_P D vwCl [(am, .inr (5, [.int (qf), .int (o6), .ref mvs, .ref mvl, .ref mvc, .int (qn), .int (qs), .int (qk), .int (qo), .ref mvk, .ref mvt, .ref mvg, .int (qa), .int (qm), .ref mvh, .ref mvrk, .ref mvrt, .ref mvrg, .int (qg), .int (qp), .int (qu), .int (ql), .int (qe), .int (qb), .int (qw), .ref mvf, .int (qi), .int (qj), .int (qr), .ref mvq, .ref mvp, .ref mve])), (mvk, .inl (cI, 10, .inl (vk))), (mvt, .inl (cI, 10, .inl (vt))), (mvg, .inl (cZ, 10, .inl (vg)))] H := hP.sub [3, 0, 1, 2] rfl
    have hD : va_D A [(am, .inr (5, [.int (qf), .int (o6), .ref mvs, .ref mvl, .ref mvc, .int (qn), .int (qs), .int (qk), .int (qo), .ref mvk, .ref mvt, .ref mvg, .int (qa), .int (qm), .ref mvh, .ref mvrk, .ref mvrt, .ref mvrg, .int (qg), .int (qp), .int (qu), .int (ql), .int (qe), .int (qb), .int (qw), .ref mvf, .int (qi), .int (qj), .int (qr), .ref mvq, .ref mvp, .ref mve])), (mvk, .inl (cI, 10, .inl (vk))), (mvt, .inl (cI, 10, .inl (vt))), (mvg, .inl (cZ, 10, .inl (vg)))] := hD.sub [3, 0, 1, 2] (by decide) rfl
    refine lv_aload_n hx hb dX5_rattle_29 rfl (lv_at hl 0 rfl) ?_
    refine va_get (D := D) (ci := 5) (v := .ref mvk) (C := RX5) (T := TX5) (N := 32) hx hb hts inX5 hown hK hP 0 rfl rfl 9 (by decide) (hts (.fieldLink RX5 19 "ScooterFlagsModel" "kind" "[I") (by decide +kernel)) (fun _ h9 => h9) rfl dX5_rattle_30 ?_
    refine lv_iload_n hx hb dX5_rattle_33 rfl (lv_at hl 1 rfl) ?_
    obtain ⟨g8, hg⟩ := gxo hg
    refine va_iald hx hb hK hP 1 0 rfl rfl g8 dX5_rattle_34 ?_
    refine W.eq (g2 := F0 m 35 ls [.int ((vk zf.toNatClampNeg))]) rfl ?_
    refine lv_iconst (v := (2 : Int32)) hx hb dX5_rattle_35 (by decide) ?_
    refine lv_icmp_ne (tgt := 44) hx hb dX5_rattle_36 (by decide) (fun c9 => ?_) (fun c9 => ?_)
    · have hg := ie hg c9
      refine lv_iload_n hx hb dX5_rattle_44 rfl (lv_at hl 1 rfl) ?_
      obtain rfl := Option.some.inj hg
      exact rti hQ hx hb hr hlocks hK hP hD hS dX5_rattle_45 ⟨rfl, rfl⟩
    · have hg := it hg c9
      refine lv_bipush (v := (40 : Int32)) hx hb dX5_rattle_39 (by decide) ?_
      refine lv_goto (tgt := 45) hx hb dX5_rattle_41 (by decide) ?_
      obtain rfl := Option.some.inj hg
      exact rti hQ hx hb hr hlocks hK hP hD hS dX5_rattle_45 ⟨rfl, rfl⟩
  have hl : lv_has ls 2 [(0, .ref am), (1, .int (zf))] := hl
  rw [f_X5_rattle] at hg
  refine lv_aload_n hx hb dX5_rattle_0 rfl (lv_at hl 0 rfl) ?_
  refine lv_iload_n hx hb dX5_rattle_1 rfl (lv_at hl 1 rfl) ?_
  obtain ⟨o1, h2, hg⟩ := bd hg
  refine xcVi (As := [.int (zf)]) (rest := []) (wc := [(am, .inr (5, [.int (qf), .int (qt), .ref mvs, .ref mvl, .ref mvc, .int (qn), .int (qs), .int (qk), .int (qo), .ref mvk, .ref mvt, .ref mvg, .int (qa), .int (qm), .ref mvh, .ref mvrk, .ref mvrt, .ref mvrg, .int (qg), .int (qp), .int (qu), .int (ql), .int (qe), .int (qb), .int (qw), .ref mvf, .int (qi), .int (qj), .int (qr), .ref mvq, .ref mvp, .ref mve]))]) (wr := [(mvk, .inl (cI, 10, .inl (vk))), (mvt, .inl (cI, 10, .inl (vt))), (mvg, .inl (cZ, 10, .inl (vg)))]) ⟨hx, hb, hml, hown, hts⟩ (c_X5_isFlag l D cI cZ cR am mvs mvl mvc mvk mvt mvg mvh mvrk mvrt mvrg mvf mvq mvp mve qf qt qn qs qk qo qa qm qg qp qu ql qe qb qw qi qj qr zf h2) (cwV 1 hts gX5_rattle_X5_isFlag rfl rfl rfl (by decide +kernel) ⟨Nat.le_of_ble_eq_true rfl, Nat.le_of_ble_eq_true rfl⟩) hK hP hD hS hA [0] [1, 2, 3] rfl rfl (by decide) (by decide) (by decide) (va_recv hK hP (ci := 5) (q0 := 0) rfl rfl) rfl rfl hl.1 (lv_room (Nat.le_of_ble_eq_true rfl)) dX5_rattle_2 ⟨Nat.le_of_ble_eq_true rfl, Nat.le_of_ble_eq_true rfl⟩ (fun r u H locs hu hP hD hS => ?_)
  obtain ⟨rfl, rfl⟩ := hu
  have hP : va_P D vwCl [(am, .inr (5, [.int (qf), .int (qt), .ref mvs, .ref mvl, .ref mvc, .int (qn), .int (qs), .int (qk), .int (qo), .ref mvk, .ref mvt, .ref mvg, .int (qa), .int (qm), .ref mvh, .ref mvrk, .ref mvrt, .ref mvrg, .int (qg), .int (qp), .int (qu), .int (ql), .int (qe), .int (qb), .int (qw), .ref mvf, .int (qi), .int (qj), .int (qr), .ref mvq, .ref mvp, .ref mve])), (mvk, .inl (cI, 10, .inl (vk))), (mvt, .inl (cI, 10, .inl (vt))), (mvg, .inl (cZ, 10, .inl (vg)))] H := hP.sub [3, 0, 1, 2] rfl
  have hD : va_D A [(am, .inr (5, [.int (qf), .int (qt), .ref mvs, .ref mvl, .ref mvc, .int (qn), .int (qs), .int (qk), .int (qo), .ref mvk, .ref mvt, .ref mvg, .int (qa), .int (qm), .ref mvh, .ref mvrk, .ref mvrt, .ref mvrg, .int (qg), .int (qp), .int (qu), .int (ql), .int (qe), .int (qb), .int (qw), .ref mvf, .int (qi), .int (qj), .int (qr), .ref mvq, .ref mvp, .ref mve])), (mvk, .inl (cI, 10, .inl (vk))), (mvt, .inl (cI, 10, .inl (vt))), (mvg, .inl (cZ, 10, .inl (vg)))] := hD.sub [3, 0, 1, 2] (by decide) rfl
  refine lv_if_ne (tgt := 10) hx hb dX5_rattle_5 (by decide) (fun c3 => ?_) (fun c3 => ?_)
  · have hg := ie hg c3
    refine lv_aload_n hx hb dX5_rattle_10 rfl (lv_at hl 0 rfl) ?_
    refine lv_aload_n hx hb dX5_rattle_11 rfl (lv_at hl 0 rfl) ?_
    refine va_get (D := D) (ci := 5) (v := .ref mvk) (C := RX5) (T := TX5) (N := 32) hx hb hts inX5 hown hK hP 0 rfl rfl 9 (by decide) (hts (.fieldLink RX5 19 "ScooterFlagsModel" "kind" "[I") (by decide +kernel)) (fun _ h9 => h9) rfl dX5_rattle_12 ?_
    refine lv_iload_n hx hb dX5_rattle_15 rfl (lv_at hl 1 rfl) ?_
    obtain ⟨g4, hg⟩ := gxo hg
    refine va_iald hx hb hK hP 1 0 rfl rfl g4 dX5_rattle_16 ?_
    refine W.eq (g2 := F0 m 17 ls [.int ((vk zf.toNatClampNeg)), .ref am]) rfl ?_
    refine lv_iconst (v := (2 : Int32)) hx hb dX5_rattle_17 (by decide) ?_
    refine lv_icmp_ne (tgt := 25) hx hb dX5_rattle_18 (by decide) (fun c5 => ?_) (fun c5 => ?_)
    · have hg := ie hg c5
      refine lv_iconst (v := (4 : Int32)) hx hb dX5_rattle_25 (by decide) ?_
      exact bk_26 (4 : Int32) qt hg _ _ hP hD hS _ (lv_sub hl [0, 1] rfl)
    · have hg := it hg c5
      refine lv_iconst (v := (5 : Int32)) hx hb dX5_rattle_21 (by decide) ?_
      refine lv_goto (tgt := 26) hx hb dX5_rattle_22 (by decide) ?_
      exact bk_26 (5 : Int32) qt hg _ _ hP hD hS _ (lv_sub hl [0, 1] rfl)
  · have hg := it hg c3
    refine lv_iconst (v := (-1 : Int32)) hx hb dX5_rattle_8 (by decide) ?_
    obtain rfl := Option.some.inj hg
    exact rti hQ hx hb hr hlocks hK hP hD hS dX5_rattle_9 ⟨rfl, rfl⟩
def f_X5_as (qn : Int32) (vk : Nat → Int32) (zf : Int32) (zv : Int32) : Option (Int32 × Int32) :=
  (f_X5_isFlag qn zf).bind (fun o1 => if o1 = 0 then (some ((-1 : Int32), (0 : Int32))) else ((f_X5_within zv (0 : Int32) (2 : Int32)).bind (fun o4 => if o4 = 0 then (some ((-2 : Int32), (0 : Int32))) else (gx zf 10 (if (vk zf.toNatClampNeg) < zv then ((f_X5_fails (2 : Int32)).bind (fun o9 => some (o9.1, o9.2))) else (some ((1 : Int32), (0 : Int32))))))))
set_option maxHeartbeats 4000000 in
set_option maxRecDepth 100000 in
theorem c_X5_as (l : Launch) (D : va_G) (cI cZ cR : ClassId) (am : Nat) (mvk : Nat) (mvt : Nat) (mvg : Nat) (mvs : Nat) (mvl : Nat) (mvc : Nat) (mvh : Nat) (mvrk : Nat) (mvrt : Nat) (mvrg : Nat) (mvf : Nat) (mvq : Nat) (mvp : Nat) (mve : Nat) (qf : Int32) (qt : Int32) (qn : Int32) (qs : Int32) (qk : Int32) (qo : Int32) (qa : Int32) (qm : Int32) (qg : Int32) (qp : Int32) (qu : Int32) (ql : Int32) (qe : Int32) (qb : Int32) (qw : Int32) (qi : Int32) (qj : Int32) (qr : Int32) (vk : Nat → Int32) (vt : Nat → Int32) (vg : Nat → Int32) (zf : Int32) (zv : Int32) {res : Int32 × Int32} (hg : f_X5_as qn vk zf zv = some res) : MI l yX5_as wsX5_as ({ frames := 1, cells := 0, slots := 0, locals := 22 }) D (T3 cI cZ cR) [(am, .inr (5, [.int (qf), .int (qt), .ref mvs, .ref mvl, .ref mvc, .int (qn), .int (qs), .int (qk), .int (qo), .ref mvk, .ref mvt, .ref mvg, .int (qa), .int (qm), .ref mvh, .ref mvrk, .ref mvrt, .ref mvrg, .int (qg), .int (qp), .int (qu), .int (ql), .int (qe), .int (qb), .int (qw), .ref mvf, .int (qi), .int (qj), .int (qr), .ref mvq, .ref mvp, .ref mve])), (mvk, .inl (cI, 10, .inl (vk))), (mvt, .inl (cI, 10, .inl (vt))), (mvg, .inl (cZ, 10, .inl (vg)))] [.ref am, .int (zf), .int (zv)] (fun r u => res.1 = r ∧ u = [(am, .inr (5, [.int (res.2), .int (qt), .ref mvs, .ref mvl, .ref mvc, .int (qn), .int (qs), .int (qk), .int (qo), .ref mvk, .ref mvt, .ref mvg, .int (qa), .int (qm), .ref mvh, .ref mvrk, .ref mvrt, .ref mvrg, .int (qg), .int (qp), .int (qu), .int (ql), .int (qe), .int (qb), .int (qw), .ref mvf, .int (qi), .int (qj), .int (qr), .ref mvq, .ref mvp, .ref mve])), (mvk, .inl (cI, 10, .inl (vk))), (mvt, .inl (cI, 10, .inl (vt))), (mvg, .inl (cZ, 10, .inl (vg)))]) := by
  refine entI (Rn := RX5) (by decide +kernel) rfl rfl (Nat.le_of_ble_eq_true rfl) (fun p e s m args below meth c A Q hx hb hr hml hts hown hlocks hA hP hD hK hS ls hl hQ => ?_)
  have inX5 : ∀ w ∈ u_ws RX5 TX5 32, w ∈ wsX5_as := by decide +kernel
  have hl : lv_has ls 3 [(0, .ref am), (1, .int (zf)), (2, .int (zv))] := hl
  rw [f_X5_as] at hg
  refine lv_aload_n hx hb dX5_as_0 rfl (lv_at hl 0 rfl) ?_
  refine lv_iconst (v := (0 : Int32)) hx hb dX5_as_1 (by decide) ?_
  refine va_put (D := D) (ci := 5) (v := .int ((0 : Int32))) (ty := .int) (C := RX5) (T := TX5) (N := 32) hx hb hts inX5 tyX5 tyX5_ok nmX5 hown hK hP hD hS 0 rfl rfl 0 (by decide) (hts (.fieldLink RX5 53 "ScooterFlagsModel" "fault" "I") (by decide +kernel)) (fun _ h9 => h9) rfl (by decide +kernel) rfl rfl (Nat.le_of_ble_eq_true rfl) dX5_as_2 (fun H locs hP hD hS => ?_)
  have hP : va_P D vwCl [(am, .inr (5, [.int ((0 : Int32)), .int (qt), .ref mvs, .ref mvl, .ref mvc, .int (qn), .int (qs), .int (qk), .int (qo), .ref mvk, .ref mvt, .ref mvg, .int (qa), .int (qm), .ref mvh, .ref mvrk, .ref mvrt, .ref mvrg, .int (qg), .int (qp), .int (qu), .int (ql), .int (qe), .int (qb), .int (qw), .ref mvf, .int (qi), .int (qj), .int (qr), .ref mvq, .ref mvp, .ref mve])), (mvk, .inl (cI, 10, .inl (vk))), (mvt, .inl (cI, 10, .inl (vt))), (mvg, .inl (cZ, 10, .inl (vg)))] H := hP
  have hD : va_D A [(am, .inr (5, [.int ((0 : Int32)), .int (qt), .ref mvs, .ref mvl, .ref mvc, .int (qn), .int (qs), .int (qk), .int (qo), .ref mvk, .ref mvt, .ref mvg, .int (qa), .int (qm), .ref mvh, .ref mvrk, .ref mvrt, .ref mvrg, .int (qg), .int (qp), .int (qu), .int (ql), .int (qe), .int (qb), .int (qw), .ref mvf, .int (qi), .int (qj), .int (qr), .ref mvq, .ref mvp, .ref mve])), (mvk, .inl (cI, 10, .inl (vk))), (mvt, .inl (cI, 10, .inl (vt))), (mvg, .inl (cZ, 10, .inl (vg)))] := hD
  refine lv_aload_n hx hb dX5_as_5 rfl (lv_at hl 0 rfl) ?_
  refine lv_iload_n hx hb dX5_as_6 rfl (lv_at hl 1 rfl) ?_
  obtain ⟨o1, h2, hg⟩ := bd hg
  refine xcVi (As := [.int (zf)]) (rest := []) (wc := [(am, .inr (5, [.int ((0 : Int32)), .int (qt), .ref mvs, .ref mvl, .ref mvc, .int (qn), .int (qs), .int (qk), .int (qo), .ref mvk, .ref mvt, .ref mvg, .int (qa), .int (qm), .ref mvh, .ref mvrk, .ref mvrt, .ref mvrg, .int (qg), .int (qp), .int (qu), .int (ql), .int (qe), .int (qb), .int (qw), .ref mvf, .int (qi), .int (qj), .int (qr), .ref mvq, .ref mvp, .ref mve]))]) (wr := [(mvk, .inl (cI, 10, .inl (vk))), (mvt, .inl (cI, 10, .inl (vt))), (mvg, .inl (cZ, 10, .inl (vg)))]) ⟨hx, hb, hml, hown, hts⟩ (c_X5_isFlag l D cI cZ cR am mvs mvl mvc mvk mvt mvg mvh mvrk mvrt mvrg mvf mvq mvp mve (0 : Int32) qt qn qs qk qo qa qm qg qp qu ql qe qb qw qi qj qr zf h2) (cwV 1 hts gX5_as_X5_isFlag rfl rfl rfl (by decide +kernel) ⟨Nat.le_of_ble_eq_true rfl, Nat.le_of_ble_eq_true rfl⟩) hK hP hD hS hA [0] [1, 2, 3] rfl rfl (by decide) (by decide) (by decide) (va_recv hK hP (ci := 5) (q0 := 0) rfl rfl) rfl rfl hl.1 (lv_room (Nat.le_of_ble_eq_true rfl)) dX5_as_7 ⟨Nat.le_of_ble_eq_true rfl, Nat.le_of_ble_eq_true rfl⟩ (fun r u H locs hu hP hD hS => ?_)
  obtain ⟨rfl, rfl⟩ := hu
  have hP : va_P D vwCl [(am, .inr (5, [.int ((0 : Int32)), .int (qt), .ref mvs, .ref mvl, .ref mvc, .int (qn), .int (qs), .int (qk), .int (qo), .ref mvk, .ref mvt, .ref mvg, .int (qa), .int (qm), .ref mvh, .ref mvrk, .ref mvrt, .ref mvrg, .int (qg), .int (qp), .int (qu), .int (ql), .int (qe), .int (qb), .int (qw), .ref mvf, .int (qi), .int (qj), .int (qr), .ref mvq, .ref mvp, .ref mve])), (mvk, .inl (cI, 10, .inl (vk))), (mvt, .inl (cI, 10, .inl (vt))), (mvg, .inl (cZ, 10, .inl (vg)))] H := hP.sub [3, 0, 1, 2] rfl
  have hD : va_D A [(am, .inr (5, [.int ((0 : Int32)), .int (qt), .ref mvs, .ref mvl, .ref mvc, .int (qn), .int (qs), .int (qk), .int (qo), .ref mvk, .ref mvt, .ref mvg, .int (qa), .int (qm), .ref mvh, .ref mvrk, .ref mvrt, .ref mvrg, .int (qg), .int (qp), .int (qu), .int (ql), .int (qe), .int (qb), .int (qw), .ref mvf, .int (qi), .int (qj), .int (qr), .ref mvq, .ref mvp, .ref mve])), (mvk, .inl (cI, 10, .inl (vk))), (mvt, .inl (cI, 10, .inl (vt))), (mvg, .inl (cZ, 10, .inl (vg)))] := hD.sub [3, 0, 1, 2] (by decide) rfl
  refine lv_if_ne (tgt := 15) hx hb dX5_as_10 (by decide) (fun c3 => ?_) (fun c3 => ?_)
  · have hg := ie hg c3
    refine lv_iload_n hx hb dX5_as_15 rfl (lv_at hl 2 rfl) ?_
    refine lv_iconst (v := (0 : Int32)) hx hb dX5_as_16 (by decide) ?_
    refine lv_iconst (v := (2 : Int32)) hx hb dX5_as_17 (by decide) ?_
    obtain ⟨o4, h5, hg⟩ := bd hg
    refine xcSi (As := [.int (zv), .int ((0 : Int32)), .int ((2 : Int32))]) (rest := []) (wc := []) (wr := [(am, .inr (5, [.int ((0 : Int32)), .int (qt), .ref mvs, .ref mvl, .ref mvc, .int (qn), .int (qs), .int (qk), .int (qo), .ref mvk, .ref mvt, .ref mvg, .int (qa), .int (qm), .ref mvh, .ref mvrk, .ref mvrt, .ref mvrg, .int (qg), .int (qp), .int (qu), .int (ql), .int (qe), .int (qb), .int (qw), .ref mvf, .int (qi), .int (qj), .int (qr), .ref mvq, .ref mvp, .ref mve])), (mvk, .inl (cI, 10, .inl (vk))), (mvt, .inl (cI, 10, .inl (vt))), (mvg, .inl (cZ, 10, .inl (vg)))]) ⟨hx, hb, hml, hown, hts⟩ (c_X5_within l D cI cZ cR zv (0 : Int32) (2 : Int32) h5) (cwS 3 hts gX5_as_X5_within rfl rfl rfl (by decide +kernel) ⟨Nat.le_of_ble_eq_true rfl, Nat.le_of_ble_eq_true rfl⟩) hK hP hD hS hA [] [0, 1, 2, 3] rfl rfl (by decide) (by decide) (by decide) rfl rfl hl.1 (lv_room (Nat.le_of_ble_eq_true rfl)) dX5_as_18 ⟨Nat.le_of_ble_eq_true rfl, Nat.le_of_ble_eq_true rfl⟩ (fun r u H locs hu hP hD hS => ?_)
    obtain ⟨rfl, rfl⟩ := hu
    have hP : va_P D vwCl [(am, .inr (5, [.int ((0 : Int32)), .int (qt), .ref mvs, .ref mvl, .ref mvc, .int (qn), .int (qs), .int (qk), .int (qo), .ref mvk, .ref mvt, .ref mvg, .int (qa), .int (qm), .ref mvh, .ref mvrk, .ref mvrt, .ref mvrg, .int (qg), .int (qp), .int (qu), .int (ql), .int (qe), .int (qb), .int (qw), .ref mvf, .int (qi), .int (qj), .int (qr), .ref mvq, .ref mvp, .ref mve])), (mvk, .inl (cI, 10, .inl (vk))), (mvt, .inl (cI, 10, .inl (vt))), (mvg, .inl (cZ, 10, .inl (vg)))] H := hP.sub [0, 1, 2, 3] rfl
    have hD : va_D A [(am, .inr (5, [.int ((0 : Int32)), .int (qt), .ref mvs, .ref mvl, .ref mvc, .int (qn), .int (qs), .int (qk), .int (qo), .ref mvk, .ref mvt, .ref mvg, .int (qa), .int (qm), .ref mvh, .ref mvrk, .ref mvrt, .ref mvrg, .int (qg), .int (qp), .int (qu), .int (ql), .int (qe), .int (qb), .int (qw), .ref mvf, .int (qi), .int (qj), .int (qr), .ref mvq, .ref mvp, .ref mve])), (mvk, .inl (cI, 10, .inl (vk))), (mvt, .inl (cI, 10, .inl (vt))), (mvg, .inl (cZ, 10, .inl (vg)))] := hD.sub [0, 1, 2, 3] (by decide) rfl
    refine lv_if_ne (tgt := 27) hx hb dX5_as_21 (by decide) (fun c6 => ?_) (fun c6 => ?_)
    · have hg := ie hg c6
      refine lv_aload_n hx hb dX5_as_27 rfl (lv_at hl 0 rfl) ?_
      refine va_get (D := D) (ci := 5) (v := .ref mvk) (C := RX5) (T := TX5) (N := 32) hx hb hts inX5 hown hK hP 0 rfl rfl 9 (by decide) (hts (.fieldLink RX5 19 "ScooterFlagsModel" "kind" "[I") (by decide +kernel)) (fun _ h9 => h9) rfl dX5_as_28 ?_
      refine lv_iload_n hx hb dX5_as_31 rfl (lv_at hl 1 rfl) ?_
      obtain ⟨g7, hg⟩ := gxo hg
      refine va_iald hx hb hK hP 1 0 rfl rfl g7 dX5_as_32 ?_
      refine W.eq (g2 := F0 m 33 ls [.int ((vk zf.toNatClampNeg))]) rfl ?_
      refine lv_iload_n hx hb dX5_as_33 rfl (lv_at hl 2 rfl) ?_
      refine lv_icmp_lt (tgt := 41) hx hb dX5_as_34 (by decide) (fun c8 => ?_) (fun c8 => ?_)
      · have hg := it hg c8
        refine lv_aload_n hx hb dX5_as_41 rfl (lv_at hl 0 rfl) ?_
        refine lv_iconst (v := (2 : Int32)) hx hb dX5_as_42 (by decide) ?_
        obtain ⟨o9, h10, hg⟩ := bd hg
        refine xcVi (As := [.int ((2 : Int32))]) (rest := []) (wc := [(am, .inr (5, [.int ((0 : Int32)), .int (qt), .ref mvs, .ref mvl, .ref mvc, .int (qn), .int (qs), .int (qk), .int (qo), .ref mvk, .ref mvt, .ref mvg, .int (qa), .int (qm), .ref mvh, .ref mvrk, .ref mvrt, .ref mvrg, .int (qg), .int (qp), .int (qu), .int (ql), .int (qe), .int (qb), .int (qw), .ref mvf, .int (qi), .int (qj), .int (qr), .ref mvq, .ref mvp, .ref mve]))]) (wr := [(mvk, .inl (cI, 10, .inl (vk))), (mvt, .inl (cI, 10, .inl (vt))), (mvg, .inl (cZ, 10, .inl (vg)))]) ⟨hx, hb, hml, hown, hts⟩ (c_X5_fails l D cI cZ cR am mvs mvl mvc mvk mvt mvg mvh mvrk mvrt mvrg mvf mvq mvp mve (0 : Int32) qt qn qs qk qo qa qm qg qp qu ql qe qb qw qi qj qr (2 : Int32) h10) (cwV 1 hts gX5_as_X5_fails rfl rfl rfl (by decide +kernel) ⟨Nat.le_of_ble_eq_true rfl, Nat.le_of_ble_eq_true rfl⟩) hK hP hD hS hA [0] [1, 2, 3] rfl rfl (by decide) (by decide) (by decide) (va_recv hK hP (ci := 5) (q0 := 0) rfl rfl) rfl rfl hl.1 (lv_room (Nat.le_of_ble_eq_true rfl)) dX5_as_43 ⟨Nat.le_of_ble_eq_true rfl, Nat.le_of_ble_eq_true rfl⟩ (fun r u H locs hu hP hD hS => ?_)
        obtain ⟨rfl, rfl⟩ := hu
        have hP : va_P D vwCl [(am, .inr (5, [.int (o9.2), .int (qt), .ref mvs, .ref mvl, .ref mvc, .int (qn), .int (qs), .int (qk), .int (qo), .ref mvk, .ref mvt, .ref mvg, .int (qa), .int (qm), .ref mvh, .ref mvrk, .ref mvrt, .ref mvrg, .int (qg), .int (qp), .int (qu), .int (ql), .int (qe), .int (qb), .int (qw), .ref mvf, .int (qi), .int (qj), .int (qr), .ref mvq, .ref mvp, .ref mve])), (mvk, .inl (cI, 10, .inl (vk))), (mvt, .inl (cI, 10, .inl (vt))), (mvg, .inl (cZ, 10, .inl (vg)))] H := hP.sub [3, 0, 1, 2] rfl
        have hD : va_D A [(am, .inr (5, [.int (o9.2), .int (qt), .ref mvs, .ref mvl, .ref mvc, .int (qn), .int (qs), .int (qk), .int (qo), .ref mvk, .ref mvt, .ref mvg, .int (qa), .int (qm), .ref mvh, .ref mvrk, .ref mvrt, .ref mvrg, .int (qg), .int (qp), .int (qu), .int (ql), .int (qe), .int (qb), .int (qw), .ref mvf, .int (qi), .int (qj), .int (qr), .ref mvq, .ref mvp, .ref mve])), (mvk, .inl (cI, 10, .inl (vk))), (mvt, .inl (cI, 10, .inl (vt))), (mvg, .inl (cZ, 10, .inl (vg)))] := hD.sub [3, 0, 1, 2] (by decide) rfl
        obtain rfl := Option.some.inj hg
        exact rti hQ hx hb hr hlocks hK hP hD hS dX5_as_46 ⟨rfl, rfl⟩
      · have hg := ie hg c8
        refine lv_iconst (v := (1 : Int32)) hx hb dX5_as_37 (by decide) ?_
        refine lv_goto (tgt := 46) hx hb dX5_as_38 (by decide) ?_
        obtain rfl := Option.some.inj hg
        exact rti hQ hx hb hr hlocks hK hP hD hS dX5_as_46 ⟨rfl, rfl⟩
    · have hg := it hg c6
      refine lv_bipush (v := (-2 : Int32)) hx hb dX5_as_24 (by decide) ?_
      obtain rfl := Option.some.inj hg
      exact rti hQ hx hb hr hlocks hK hP hD hS dX5_as_26 ⟨rfl, rfl⟩
  · have hg := it hg c3
    refine lv_iconst (v := (-1 : Int32)) hx hb dX5_as_13 (by decide) ?_
    obtain rfl := Option.some.inj hg
    exact rti hQ hx hb hr hlocks hK hP hD hS dX5_as_14 ⟨rfl, rfl⟩
def f_X5_trace (qt : Int32) : Option (Int32) :=
  some (qt)
set_option maxHeartbeats 4000000 in
set_option maxRecDepth 100000 in
theorem c_X5_trace (l : Launch) (D : va_G) (cI cZ cR : ClassId) (am : Nat) (mvs : Nat) (mvl : Nat) (mvc : Nat) (mvk : Nat) (mvt : Nat) (mvg : Nat) (mvh : Nat) (mvrk : Nat) (mvrt : Nat) (mvrg : Nat) (mvf : Nat) (mvq : Nat) (mvp : Nat) (mve : Nat) (qf : Int32) (qt : Int32) (qn : Int32) (qs : Int32) (qk : Int32) (qo : Int32) (qa : Int32) (qm : Int32) (qg : Int32) (qp : Int32) (qu : Int32) (ql : Int32) (qe : Int32) (qb : Int32) (qw : Int32) (qi : Int32) (qj : Int32) (qr : Int32) {res : Int32} (hg : f_X5_trace qt = some res) : MI l yX5_trace wsX5_trace ({ frames := 0, cells := 0, slots := 0, locals := 0 }) D (T3 cI cZ cR) [(am, .inr (5, [.int (qf), .int (qt), .ref mvs, .ref mvl, .ref mvc, .int (qn), .int (qs), .int (qk), .int (qo), .ref mvk, .ref mvt, .ref mvg, .int (qa), .int (qm), .ref mvh, .ref mvrk, .ref mvrt, .ref mvrg, .int (qg), .int (qp), .int (qu), .int (ql), .int (qe), .int (qb), .int (qw), .ref mvf, .int (qi), .int (qj), .int (qr), .ref mvq, .ref mvp, .ref mve]))] [.ref am] (fun r u => res = r ∧ u = [(am, .inr (5, [.int (qf), .int (qt), .ref mvs, .ref mvl, .ref mvc, .int (qn), .int (qs), .int (qk), .int (qo), .ref mvk, .ref mvt, .ref mvg, .int (qa), .int (qm), .ref mvh, .ref mvrk, .ref mvrt, .ref mvrg, .int (qg), .int (qp), .int (qu), .int (ql), .int (qe), .int (qb), .int (qw), .ref mvf, .int (qi), .int (qj), .int (qr), .ref mvq, .ref mvp, .ref mve]))]) := by
  refine entI (Rn := RX5) (by decide +kernel) rfl rfl (Nat.le_of_ble_eq_true rfl) (fun p e s m args below meth c A Q hx hb hr hml hts hown hlocks hA hP hD hK hS ls hl hQ => ?_)
  have inX5 : ∀ w ∈ u_ws RX5 TX5 32, w ∈ wsX5_trace := by decide +kernel
  have hl : lv_has ls 1 [(0, .ref am)] := hl
  rw [f_X5_trace] at hg
  refine lv_aload_n hx hb dX5_trace_0 rfl (lv_at hl 0 rfl) ?_
  refine va_get (D := D) (ci := 5) (v := .int (qt)) (C := RX5) (T := TX5) (N := 32) hx hb hts inX5 hown hK hP 0 rfl rfl 1 (by decide) (hts (.fieldLink RX5 197 "ScooterFlagsModel" "trace" "I") (by decide +kernel)) (fun _ h9 => h9) rfl dX5_trace_1 ?_
  obtain rfl := Option.some.inj hg
  exact rti hQ hx hb hr hlocks hK hP hD hS dX5_trace_4 ⟨rfl, rfl⟩
def f_X5_fault (qf : Int32) : Option (Int32) :=
  some (qf)
set_option maxHeartbeats 4000000 in
set_option maxRecDepth 100000 in
theorem c_X5_fault (l : Launch) (D : va_G) (cI cZ cR : ClassId) (am : Nat) (mvs : Nat) (mvl : Nat) (mvc : Nat) (mvk : Nat) (mvt : Nat) (mvg : Nat) (mvh : Nat) (mvrk : Nat) (mvrt : Nat) (mvrg : Nat) (mvf : Nat) (mvq : Nat) (mvp : Nat) (mve : Nat) (qf : Int32) (qt : Int32) (qn : Int32) (qs : Int32) (qk : Int32) (qo : Int32) (qa : Int32) (qm : Int32) (qg : Int32) (qp : Int32) (qu : Int32) (ql : Int32) (qe : Int32) (qb : Int32) (qw : Int32) (qi : Int32) (qj : Int32) (qr : Int32) {res : Int32} (hg : f_X5_fault qf = some res) : MI l yX5_fault wsX5_fault ({ frames := 0, cells := 0, slots := 0, locals := 0 }) D (T3 cI cZ cR) [(am, .inr (5, [.int (qf), .int (qt), .ref mvs, .ref mvl, .ref mvc, .int (qn), .int (qs), .int (qk), .int (qo), .ref mvk, .ref mvt, .ref mvg, .int (qa), .int (qm), .ref mvh, .ref mvrk, .ref mvrt, .ref mvrg, .int (qg), .int (qp), .int (qu), .int (ql), .int (qe), .int (qb), .int (qw), .ref mvf, .int (qi), .int (qj), .int (qr), .ref mvq, .ref mvp, .ref mve]))] [.ref am] (fun r u => res = r ∧ u = [(am, .inr (5, [.int (qf), .int (qt), .ref mvs, .ref mvl, .ref mvc, .int (qn), .int (qs), .int (qk), .int (qo), .ref mvk, .ref mvt, .ref mvg, .int (qa), .int (qm), .ref mvh, .ref mvrk, .ref mvrt, .ref mvrg, .int (qg), .int (qp), .int (qu), .int (ql), .int (qe), .int (qb), .int (qw), .ref mvf, .int (qi), .int (qj), .int (qr), .ref mvq, .ref mvp, .ref mve]))]) := by
  refine entI (Rn := RX5) (by decide +kernel) rfl rfl (Nat.le_of_ble_eq_true rfl) (fun p e s m args below meth c A Q hx hb hr hml hts hown hlocks hA hP hD hK hS ls hl hQ => ?_)
  have inX5 : ∀ w ∈ u_ws RX5 TX5 32, w ∈ wsX5_fault := by decide +kernel
  have hl : lv_has ls 1 [(0, .ref am)] := hl
  rw [f_X5_fault] at hg
  refine lv_aload_n hx hb dX5_fault_0 rfl (lv_at hl 0 rfl) ?_
  refine va_get (D := D) (ci := 5) (v := .int (qf)) (C := RX5) (T := TX5) (N := 32) hx hb hts inX5 hown hK hP 0 rfl rfl 0 (by decide) (hts (.fieldLink RX5 53 "ScooterFlagsModel" "fault" "I") (by decide +kernel)) (fun _ h9 => h9) rfl dX5_fault_1 ?_
  obtain rfl := Option.some.inj hg
  exact rti hQ hx hb hr hlocks hK hP hD hS dX5_fault_4 ⟨rfl, rfl⟩
def f_X5_many (qn : Int32) (qs : Int32) (qk : Int32) (qo : Int32) (qr : Int32) (zv : Int32) : Option (Int32) :=
  if zv = 0 then (some (qn)) else if zv = 1 then (some (qs)) else if zv = 2 then (some (qk)) else if zv = 3 then (some (qo)) else if zv = 4 then (some (qr)) else (some ((-2 : Int32)))
set_option maxHeartbeats 4000000 in
set_option maxRecDepth 100000 in
theorem c_X5_many (l : Launch) (D : va_G) (cI cZ cR : ClassId) (am : Nat) (mvs : Nat) (mvl : Nat) (mvc : Nat) (mvk : Nat) (mvt : Nat) (mvg : Nat) (mvh : Nat) (mvrk : Nat) (mvrt : Nat) (mvrg : Nat) (mvf : Nat) (mvq : Nat) (mvp : Nat) (mve : Nat) (qf : Int32) (qt : Int32) (qn : Int32) (qs : Int32) (qk : Int32) (qo : Int32) (qa : Int32) (qm : Int32) (qg : Int32) (qp : Int32) (qu : Int32) (ql : Int32) (qe : Int32) (qb : Int32) (qw : Int32) (qi : Int32) (qj : Int32) (qr : Int32) (zv : Int32) {res : Int32} (hg : f_X5_many qn qs qk qo qr zv = some res) : MI l yX5_many wsX5_many ({ frames := 0, cells := 0, slots := 0, locals := 0 }) D (T3 cI cZ cR) [(am, .inr (5, [.int (qf), .int (qt), .ref mvs, .ref mvl, .ref mvc, .int (qn), .int (qs), .int (qk), .int (qo), .ref mvk, .ref mvt, .ref mvg, .int (qa), .int (qm), .ref mvh, .ref mvrk, .ref mvrt, .ref mvrg, .int (qg), .int (qp), .int (qu), .int (ql), .int (qe), .int (qb), .int (qw), .ref mvf, .int (qi), .int (qj), .int (qr), .ref mvq, .ref mvp, .ref mve]))] [.ref am, .int (zv)] (fun r u => res = r ∧ u = [(am, .inr (5, [.int (qf), .int (qt), .ref mvs, .ref mvl, .ref mvc, .int (qn), .int (qs), .int (qk), .int (qo), .ref mvk, .ref mvt, .ref mvg, .int (qa), .int (qm), .ref mvh, .ref mvrk, .ref mvrt, .ref mvrg, .int (qg), .int (qp), .int (qu), .int (ql), .int (qe), .int (qb), .int (qw), .ref mvf, .int (qi), .int (qj), .int (qr), .ref mvq, .ref mvp, .ref mve]))]) := by
  refine entI (Rn := RX5) (by decide +kernel) rfl rfl (Nat.le_of_ble_eq_true rfl) (fun p e s m args below meth c A Q hx hb hr hml hts hown hlocks hA hP hD hK hS ls hl hQ => ?_)
  have inX5 : ∀ w ∈ u_ws RX5 TX5 32, w ∈ wsX5_many := by decide +kernel
  have hl : lv_has ls 2 [(0, .ref am), (1, .int (zv))] := hl
  rw [f_X5_many] at hg
  refine lv_iload_n hx hb dX5_many_0 rfl (lv_at hl 1 rfl) ?_
  by_cases c1 : zv = 0
  · have hg := it hg c1
    refine lv_tableIn (off := 35) (tgt := 36) hx hb dX5_many_1 (by rw [c1]; decide) (by rw [c1]; decide) (by rw [c1]; rfl) (by decide) ?_
    refine lv_aload_n hx hb dX5_many_36 rfl (lv_at hl 0 rfl) ?_
    refine va_get (D := D) (ci := 5) (v := .int (qn)) (C := RX5) (T := TX5) (N := 32) hx hb hts inX5 hown hK hP 0 rfl rfl 5 (by decide) (hts (.fieldLink RX5 63 "ScooterFlagsModel" "flags" "I") (by decide +kernel)) (fun _ h9 => h9) rfl dX5_many_37 ?_
    obtain rfl := Option.some.inj hg
    exact rti hQ hx hb hr hlocks hK hP hD hS dX5_many_40 ⟨rfl, rfl⟩
  · have hg := ie hg c1
    by_cases c2 : zv = 1
    · have hg := it hg c2
      refine lv_tableIn (off := 40) (tgt := 41) hx hb dX5_many_1 (by rw [c2]; decide) (by rw [c2]; decide) (by rw [c2]; rfl) (by decide) ?_
      refine lv_aload_n hx hb dX5_many_41 rfl (lv_at hl 0 rfl) ?_
      refine va_get (D := D) (ci := 5) (v := .int (qs)) (C := RX5) (T := TX5) (N := 32) hx hb hts inX5 hown hK hP 0 rfl rfl 6 (by decide) (hts (.fieldLink RX5 87 "ScooterFlagsModel" "strong" "I") (by decide +kernel)) (fun _ h9 => h9) rfl dX5_many_42 ?_
      obtain rfl := Option.some.inj hg
      exact rti hQ hx hb hr hlocks hK hP hD hS dX5_many_45 ⟨rfl, rfl⟩
    · have hg := ie hg c2
      by_cases c3 : zv = 2
      · have hg := it hg c3
        refine lv_tableIn (off := 45) (tgt := 46) hx hb dX5_many_1 (by rw [c3]; decide) (by rw [c3]; decide) (by rw [c3]; rfl) (by decide) ?_
        refine lv_aload_n hx hb dX5_many_46 rfl (lv_at hl 0 rfl) ?_
        refine va_get (D := D) (ci := 5) (v := .int (qk)) (C := RX5) (T := TX5) (N := 32) hx hb hts inX5 hown hK hP 0 rfl rfl 7 (by decide) (hts (.fieldLink RX5 90 "ScooterFlagsModel" "knee" "I") (by decide +kernel)) (fun _ h9 => h9) rfl dX5_many_47 ?_
        obtain rfl := Option.some.inj hg
        exact rti hQ hx hb hr hlocks hK hP hD hS dX5_many_50 ⟨rfl, rfl⟩
      · have hg := ie hg c3
        by_cases c4 : zv = 3
        · have hg := it hg c4
          refine lv_tableIn (off := 50) (tgt := 51) hx hb dX5_many_1 (by rw [c4]; decide) (by rw [c4]; decide) (by rw [c4]; rfl) (by decide) ?_
          refine lv_aload_n hx hb dX5_many_51 rfl (lv_at hl 0 rfl) ?_
          refine va_get (D := D) (ci := 5) (v := .int (qo)) (C := RX5) (T := TX5) (N := 32) hx hb hts inX5 hown hK hP 0 rfl rfl 8 (by decide) (hts (.fieldLink RX5 93 "ScooterFlagsModel" "sole" "I") (by decide +kernel)) (fun _ h9 => h9) rfl dX5_many_52 ?_
          obtain rfl := Option.some.inj hg
          exact rti hQ hx hb hr hlocks hK hP hD hS dX5_many_55 ⟨rfl, rfl⟩
        · have hg := ie hg c4
          by_cases c5 : zv = 4
          · have hg := it hg c5
            refine lv_tableIn (off := 55) (tgt := 56) hx hb dX5_many_1 (by rw [c5]; decide) (by rw [c5]; decide) (by rw [c5]; rfl) (by decide) ?_
            refine lv_aload_n hx hb dX5_many_56 rfl (lv_at hl 0 rfl) ?_
            refine va_get (D := D) (ci := 5) (v := .int (qr)) (C := RX5) (T := TX5) (N := 32) hx hb hts inX5 hown hK hP 0 rfl rfl 28 (by decide) (hts (.fieldLink RX5 99 "ScooterFlagsModel" "readings" "I") (by decide +kernel)) (fun _ h9 => h9) rfl dX5_many_57 ?_
            obtain rfl := Option.some.inj hg
            exact rti hQ hx hb hr hlocks hK hP hD hS dX5_many_60 ⟨rfl, rfl⟩
          · have hg := ie hg c5
            have nc1 := lv_neT c1 (show ((0 : Int32)).toInt = 0 from rfl)
            have nc2 := lv_neT c2 (show ((1 : Int32)).toInt = 1 from rfl)
            have nc3 := lv_neT c3 (show ((2 : Int32)).toInt = 2 from rfl)
            have nc4 := lv_neT c4 (show ((3 : Int32)).toInt = 3 from rfl)
            have nc5 := lv_neT c5 (show ((4 : Int32)).toInt = 4 from rfl)
            refine lv_tableOut (tgt := 61) hx hb dX5_many_1 (by omega) (by decide) ?_
            refine lv_bipush (v := (-2 : Int32)) hx hb dX5_many_61 (by decide) ?_
            obtain rfl := Option.some.inj hg
            exact rti hQ hx hb hr hlocks hK hP hD hS dX5_many_63 ⟨rfl, rfl⟩
