def f_X5_fails (zv : Int32) : Option (Int32 × Int32) :=
  some (((-10 : Int32) - zv), zv)
set_option maxHeartbeats 4000000 in
set_option maxRecDepth 100000 in
theorem c_X5_fails (l : Launch) (D : va_G) (cI cZ cR : ClassId) (am : Nat) (mvs : Nat) (mvl : Nat) (mvc : Nat) (mvk : Nat) (mvt : Nat) (mvg : Nat) (mvh : Nat) (mvrk : Nat) (mvrt : Nat) (mvrg : Nat) (mvf : Nat) (mvq : Nat) (mvp : Nat) (mve : Nat) (qf : Int32) (qt : Int32) (qn : Int32) (qs : Int32) (qk : Int32) (qo : Int32) (qa : Int32) (qm : Int32) (qg : Int32) (qp : Int32) (qu : Int32) (ql : Int32) (qe : Int32) (qb : Int32) (qw : Int32) (qi : Int32) (qj : Int32) (qr : Int32) (zv : Int32) {res : Int32 × Int32} (hg : f_X5_fails zv = some res) : MI l yX5_fails wsX5_fails ({ frames := 0, cells := 0, slots := 0, locals := 0 }) D (T3 cI cZ cR) [(am, .inr (5, [.int (qf), .int (qt), .ref mvs, .ref mvl, .ref mvc, .int (qn), .int (qs), .int (qk), .int (qo), .ref mvk, .ref mvt, .ref mvg, .int (qa), .int (qm), .ref mvh, .ref mvrk, .ref mvrt, .ref mvrg, .int (qg), .int (qp), .int (qu), .int (ql), .int (qe), .int (qb), .int (qw), .ref mvf, .int (qi), .int (qj), .int (qr), .ref mvq, .ref mvp, .ref mve]))] [.ref am, .int (zv)] (fun r u => res.1 = r ∧ u = [(am, .inr (5, [.int (res.2), .int (qt), .ref mvs, .ref mvl, .ref mvc, .int (qn), .int (qs), .int (qk), .int (qo), .ref mvk, .ref mvt, .ref mvg, .int (qa), .int (qm), .ref mvh, .ref mvrk, .ref mvrt, .ref mvrg, .int (qg), .int (qp), .int (qu), .int (ql), .int (qe), .int (qb), .int (qw), .ref mvf, .int (qi), .int (qj), .int (qr), .ref mvq, .ref mvp, .ref mve]))]) := by
  refine entI (Rn := RX5) (by decide +kernel) rfl rfl (Nat.le_of_ble_eq_true rfl) (fun p e s m args below meth c A Q hx hb hr hml hts hown hlocks hA hP hD hK hS ls hl hQ => ?_)
  have inX5 : ∀ w ∈ u_ws RX5 TX5 32, w ∈ wsX5_fails := by decide +kernel
  have hl : lv_has ls 2 [(0, .ref am), (1, .int (zv))] := hl
  rw [f_X5_fails] at hg
  refine lv_aload_n hx hb dX5_fails_0 rfl (lv_at hl 0 rfl) ?_
  refine lv_iload_n hx hb dX5_fails_1 rfl (lv_at hl 1 rfl) ?_
  refine va_put (D := D) (ci := 5) (v := .int (zv)) (ty := .int) (C := RX5) (T := TX5) (N := 32) hx hb hts inX5 tyX5 tyX5_ok nmX5 hown hK hP hD hS 0 rfl rfl 0 (by decide) (hts (.fieldLink RX5 53 "ScooterFlagsModel" "fault" "I") (by decide +kernel)) (fun _ h9 => h9) rfl (by decide +kernel) rfl rfl (Nat.le_of_ble_eq_true rfl) dX5_fails_2 (fun H locs hP hD hS => ?_)
  have hP : va_P D vwCl [(am, .inr (5, [.int (zv), .int (qt), .ref mvs, .ref mvl, .ref mvc, .int (qn), .int (qs), .int (qk), .int (qo), .ref mvk, .ref mvt, .ref mvg, .int (qa), .int (qm), .ref mvh, .ref mvrk, .ref mvrt, .ref mvrg, .int (qg), .int (qp), .int (qu), .int (ql), .int (qe), .int (qb), .int (qw), .ref mvf, .int (qi), .int (qj), .int (qr), .ref mvq, .ref mvp, .ref mve]))] H := hP
  have hD : va_D A [(am, .inr (5, [.int (zv), .int (qt), .ref mvs, .ref mvl, .ref mvc, .int (qn), .int (qs), .int (qk), .int (qo), .ref mvk, .ref mvt, .ref mvg, .int (qa), .int (qm), .ref mvh, .ref mvrk, .ref mvrt, .ref mvrg, .int (qg), .int (qp), .int (qu), .int (ql), .int (qe), .int (qb), .int (qw), .ref mvf, .int (qi), .int (qj), .int (qr), .ref mvq, .ref mvp, .ref mve]))] := hD
  refine lv_bipush (v := (-10 : Int32)) hx hb dX5_fails_5 (by decide) ?_
  refine lv_iload_n hx hb dX5_fails_7 rfl (lv_at hl 1 rfl) ?_
  refine lv_isub hx hb dX5_fails_8 ?_
  obtain rfl := Option.some.inj hg
  exact rti hQ hx hb hr hlocks hK hP hD hS dX5_fails_9 ⟨rfl, rfl⟩
def f_X5_lost (zv : Int32) : Option (Int64 × Int32) :=
  some ((-9223372036854775808 : Int64), zv)
set_option maxHeartbeats 4000000 in
set_option maxRecDepth 100000 in
theorem c_X5_lost (l : Launch) (D : va_G) (cI cZ cR : ClassId) (am : Nat) (mvs : Nat) (mvl : Nat) (mvc : Nat) (mvk : Nat) (mvt : Nat) (mvg : Nat) (mvh : Nat) (mvrk : Nat) (mvrt : Nat) (mvrg : Nat) (mvf : Nat) (mvq : Nat) (mvp : Nat) (mve : Nat) (qf : Int32) (qt : Int32) (qn : Int32) (qs : Int32) (qk : Int32) (qo : Int32) (qa : Int32) (qm : Int32) (qg : Int32) (qp : Int32) (qu : Int32) (ql : Int32) (qe : Int32) (qb : Int32) (qw : Int32) (qi : Int32) (qj : Int32) (qr : Int32) (zv : Int32) {res : Int64 × Int32} (hg : f_X5_lost zv = some res) : ML l yX5_lost wsX5_lost ({ frames := 0, cells := 0, slots := 0, locals := 0 }) D (T3 cI cZ cR) [(am, .inr (5, [.int (qf), .int (qt), .ref mvs, .ref mvl, .ref mvc, .int (qn), .int (qs), .int (qk), .int (qo), .ref mvk, .ref mvt, .ref mvg, .int (qa), .int (qm), .ref mvh, .ref mvrk, .ref mvrt, .ref mvrg, .int (qg), .int (qp), .int (qu), .int (ql), .int (qe), .int (qb), .int (qw), .ref mvf, .int (qi), .int (qj), .int (qr), .ref mvq, .ref mvp, .ref mve]))] [.ref am, .int (zv)] (fun r u => res.1 = r ∧ u = [(am, .inr (5, [.int (res.2), .int (qt), .ref mvs, .ref mvl, .ref mvc, .int (qn), .int (qs), .int (qk), .int (qo), .ref mvk, .ref mvt, .ref mvg, .int (qa), .int (qm), .ref mvh, .ref mvrk, .ref mvrt, .ref mvrg, .int (qg), .int (qp), .int (qu), .int (ql), .int (qe), .int (qb), .int (qw), .ref mvf, .int (qi), .int (qj), .int (qr), .ref mvq, .ref mvp, .ref mve]))]) := by
  refine entL (Rn := RX5) (by decide +kernel) rfl rfl (Nat.le_of_ble_eq_true rfl) (fun p e s m args below meth c A Q hx hb hr hml hts hown hlocks hA hP hD hK hS ls hl hQ => ?_)
  have inX5 : ∀ w ∈ u_ws RX5 TX5 32, w ∈ wsX5_lost := by decide +kernel
  have hl : lv_has ls 2 [(0, .ref am), (1, .int (zv))] := hl
  rw [f_X5_lost] at hg
  refine lv_aload_n hx hb dX5_lost_0 rfl (lv_at hl 0 rfl) ?_
  refine lv_iload_n hx hb dX5_lost_1 rfl (lv_at hl 1 rfl) ?_
  refine va_put (D := D) (ci := 5) (v := .int (zv)) (ty := .int) (C := RX5) (T := TX5) (N := 32) hx hb hts inX5 tyX5 tyX5_ok nmX5 hown hK hP hD hS 0 rfl rfl 0 (by decide) (hts (.fieldLink RX5 53 "ScooterFlagsModel" "fault" "I") (by decide +kernel)) (fun _ h9 => h9) rfl (by decide +kernel) rfl rfl (Nat.le_of_ble_eq_true rfl) dX5_lost_2 (fun H locs hP hD hS => ?_)
  have hP : va_P D vwCl [(am, .inr (5, [.int (zv), .int (qt), .ref mvs, .ref mvl, .ref mvc, .int (qn), .int (qs), .int (qk), .int (qo), .ref mvk, .ref mvt, .ref mvg, .int (qa), .int (qm), .ref mvh, .ref mvrk, .ref mvrt, .ref mvrg, .int (qg), .int (qp), .int (qu), .int (ql), .int (qe), .int (qb), .int (qw), .ref mvf, .int (qi), .int (qj), .int (qr), .ref mvq, .ref mvp, .ref mve]))] H := hP
  have hD : va_D A [(am, .inr (5, [.int (zv), .int (qt), .ref mvs, .ref mvl, .ref mvc, .int (qn), .int (qs), .int (qk), .int (qo), .ref mvk, .ref mvt, .ref mvg, .int (qa), .int (qm), .ref mvh, .ref mvrk, .ref mvrt, .ref mvrg, .int (qg), .int (qp), .int (qu), .int (ql), .int (qe), .int (qb), .int (qw), .ref mvf, .int (qi), .int (qj), .int (qr), .ref mvq, .ref mvp, .ref mve]))] := hD
  refine lv_ldc2 (v := (-9223372036854775808 : Int64)) hx hb hown (hts (.constantLong RX5 57 (-9223372036854775808 : Int64)) (by decide +kernel)) dX5_lost_5 ?_
  obtain rfl := Option.some.inj hg
  exact rtl hQ hx hb hr hlocks hK hP hD hS dX5_lost_8 ⟨rfl, rfl⟩
def f_X5_within (zv : Int32) (za : Int32) (zb : Int32) : Option (Int32) :=
  if zv < za then (some ((0 : Int32))) else (if zb < zv then (some ((0 : Int32))) else (some ((1 : Int32))))
set_option maxHeartbeats 4000000 in
set_option maxRecDepth 100000 in
theorem c_X5_within (l : Launch) (D : va_G) (cI cZ cR : ClassId)  (zv : Int32) (za : Int32) (zb : Int32) {res : Int32} (hg : f_X5_within zv za zb = some res) : MI l yX5_within wsX5_within ({ frames := 0, cells := 0, slots := 0, locals := 0 }) D (T3 cI cZ cR) [] [.int (zv), .int (za), .int (zb)] (fun r u => res = r ∧ u = []) := by
  refine entI (Rn := RX5) (by decide +kernel) rfl rfl (Nat.le_of_ble_eq_true rfl) (fun p e s m args below meth c A Q hx hb hr hml hts hown hlocks hA hP hD hK hS ls hl hQ => ?_)
  have hl : lv_has ls 3 [(0, .int (zv)), (1, .int (za)), (2, .int (zb))] := hl
  rw [f_X5_within] at hg
  refine lv_iload_n hx hb dX5_within_0 rfl (lv_at hl 0 rfl) ?_
  refine lv_iload_n hx hb dX5_within_1 rfl (lv_at hl 1 rfl) ?_
  refine lv_icmp_lt (tgt := 14) hx hb dX5_within_2 (by decide) (fun c1 => ?_) (fun c1 => ?_)
  · have hg := it hg c1
    refine lv_iconst (v := (0 : Int32)) hx hb dX5_within_14 (by decide) ?_
    obtain rfl := Option.some.inj hg
    exact rtz hQ hx hb hr rfl hlocks hK hP hD hS dX5_within_15 ⟨rfl, rfl⟩
  · have hg := ie hg c1
    refine lv_iload_n hx hb dX5_within_5 rfl (lv_at hl 0 rfl) ?_
    refine lv_iload_n hx hb dX5_within_6 rfl (lv_at hl 2 rfl) ?_
    refine lv_icmp_gt (tgt := 14) hx hb dX5_within_7 (by decide) (fun c2 => ?_) (fun c2 => ?_)
    · have hg := it hg c2
      refine lv_iconst (v := (0 : Int32)) hx hb dX5_within_14 (by decide) ?_
      obtain rfl := Option.some.inj hg
      exact rtz hQ hx hb hr rfl hlocks hK hP hD hS dX5_within_15 ⟨rfl, rfl⟩
    · have hg := ie hg c2
      refine lv_iconst (v := (1 : Int32)) hx hb dX5_within_10 (by decide) ?_
      refine lv_goto (tgt := 15) hx hb dX5_within_11 (by decide) ?_
      obtain rfl := Option.some.inj hg
      exact rtz hQ hx hb hr rfl hlocks hK hP hD hS dX5_within_15 ⟨rfl, rfl⟩
def f_X5_isSheet (zv : Int32) : Option (Int32) :=
  (f_X5_within zv (0 : Int32) (3 : Int32)).bind (fun o1 => gd (o1 = 0 ∨ o1 = 1) (some (o1)))
set_option maxHeartbeats 4000000 in
set_option maxRecDepth 100000 in
theorem c_X5_isSheet (l : Launch) (D : va_G) (cI cZ cR : ClassId)  (zv : Int32) {res : Int32} (hg : f_X5_isSheet zv = some res) : MI l yX5_isSheet wsX5_isSheet ({ frames := 1, cells := 0, slots := 0, locals := 22 }) D (T3 cI cZ cR) [] [.int (zv)] (fun r u => res = r ∧ u = []) := by
  refine entI (Rn := RX5) (by decide +kernel) rfl rfl (Nat.le_of_ble_eq_true rfl) (fun p e s m args below meth c A Q hx hb hr hml hts hown hlocks hA hP hD hK hS ls hl hQ => ?_)
  have hl : lv_has ls 1 [(0, .int (zv))] := hl
  rw [f_X5_isSheet] at hg
  refine lv_iload_n hx hb dX5_isSheet_0 rfl (lv_at hl 0 rfl) ?_
  refine lv_iconst (v := (0 : Int32)) hx hb dX5_isSheet_1 (by decide) ?_
  refine lv_iconst (v := (3 : Int32)) hx hb dX5_isSheet_2 (by decide) ?_
  obtain ⟨o1, h2, hg⟩ := bd hg
  refine xcSi (As := [.int (zv), .int ((0 : Int32)), .int ((3 : Int32))]) (rest := []) (wc := []) (wr := []) ⟨hx, hb, hml, hown, hts⟩ (c_X5_within l D cI cZ cR zv (0 : Int32) (3 : Int32) h2) (cwS 3 hts gX5_isSheet_X5_within rfl rfl rfl (by decide +kernel) ⟨Nat.le_of_ble_eq_true rfl, Nat.le_of_ble_eq_true rfl⟩) hK hP hD hS hA [] [] rfl rfl (by decide) (by decide) (by decide) rfl rfl hl.1 (lv_room (Nat.le_of_ble_eq_true rfl)) dX5_isSheet_3 ⟨Nat.le_of_ble_eq_true rfl, Nat.le_of_ble_eq_true rfl⟩ (fun r u H locs hu hP hD hS => ?_)
  obtain ⟨rfl, rfl⟩ := hu
  have hP : va_P D vwCl [] H := hP.sub [] rfl
  have hD : va_D A [] := hD.sub [] (by decide) rfl
  obtain ⟨g3, hg⟩ := gdo hg
  obtain rfl := Option.some.inj hg
  exact rtz hQ hx hb hr (zbn g3) hlocks hK hP hD hS dX5_isSheet_6 ⟨rfl, rfl⟩
def f_X5_isSort (zv : Int32) : Option (Int32) :=
  (f_X5_within zv (0 : Int32) (2 : Int32)).bind (fun o1 => gd (o1 = 0 ∨ o1 = 1) (some (o1)))
set_option maxHeartbeats 4000000 in
set_option maxRecDepth 100000 in
theorem c_X5_isSort (l : Launch) (D : va_G) (cI cZ cR : ClassId)  (zv : Int32) {res : Int32} (hg : f_X5_isSort zv = some res) : MI l yX5_isSort wsX5_isSort ({ frames := 1, cells := 0, slots := 0, locals := 22 }) D (T3 cI cZ cR) [] [.int (zv)] (fun r u => res = r ∧ u = []) := by
  refine entI (Rn := RX5) (by decide +kernel) rfl rfl (Nat.le_of_ble_eq_true rfl) (fun p e s m args below meth c A Q hx hb hr hml hts hown hlocks hA hP hD hK hS ls hl hQ => ?_)
  have hl : lv_has ls 1 [(0, .int (zv))] := hl
  rw [f_X5_isSort] at hg
  refine lv_iload_n hx hb dX5_isSort_0 rfl (lv_at hl 0 rfl) ?_
  refine lv_iconst (v := (0 : Int32)) hx hb dX5_isSort_1 (by decide) ?_
  refine lv_iconst (v := (2 : Int32)) hx hb dX5_isSort_2 (by decide) ?_
  obtain ⟨o1, h2, hg⟩ := bd hg
  refine xcSi (As := [.int (zv), .int ((0 : Int32)), .int ((2 : Int32))]) (rest := []) (wc := []) (wr := []) ⟨hx, hb, hml, hown, hts⟩ (c_X5_within l D cI cZ cR zv (0 : Int32) (2 : Int32) h2) (cwS 3 hts gX5_isSort_X5_within rfl rfl rfl (by decide +kernel) ⟨Nat.le_of_ble_eq_true rfl, Nat.le_of_ble_eq_true rfl⟩) hK hP hD hS hA [] [] rfl rfl (by decide) (by decide) (by decide) rfl rfl hl.1 (lv_room (Nat.le_of_ble_eq_true rfl)) dX5_isSort_3 ⟨Nat.le_of_ble_eq_true rfl, Nat.le_of_ble_eq_true rfl⟩ (fun r u H locs hu hP hD hS => ?_)
  obtain ⟨rfl, rfl⟩ := hu
  have hP : va_P D vwCl [] H := hP.sub [] rfl
  have hD : va_D A [] := hD.sub [] (by decide) rfl
  obtain ⟨g3, hg⟩ := gdo hg
  obtain rfl := Option.some.inj hg
  exact rtz hQ hx hb hr (zbn g3) hlocks hK hP hD hS dX5_isSort_6 ⟨rfl, rfl⟩
def f_X5_against_23 (vs : Nat → Int32) (vl : Nat → Int32) (zs : Int32) (zi : Int32) (zn : Int32)  : Option (Int32) :=
  gx zs 4 (if (vs zs.toNatClampNeg) = (-9 : Int32) then (some ((1 : Int32))) else (if 0 ≤ zn then (if zi < 0 then (some ((3 : Int32))) else (gx zs 4 (if (vl zs.toNatClampNeg) < zi then (some ((3 : Int32))) else (gx zs 4 (if zn ≤ ((vl zs.toNatClampNeg) - zi) then (some ((0 : Int32))) else (some ((3 : Int32)))))))) else (some ((4 : Int32)))))
def f_X5_against (vs : Nat → Int32) (vl : Nat → Int32) (zs : Int32) (zl : Int32) (zi : Int32) (zn : Int32) : Option (Int32) :=
  gx zs 4 (if (vs zs.toNatClampNeg) = (-9 : Int32) then (f_X5_against_23 vs vl zs zi zn ) else (gx zs 4 (if (vs zs.toNatClampNeg) = zl then (f_X5_against_23 vs vl zs zi zn ) else (some ((2 : Int32))))))
set_option maxHeartbeats 4000000 in
set_option maxRecDepth 100000 in
theorem c_X5_against (l : Launch) (D : va_G) (cI cZ cR : ClassId) (am : Nat) (mvs : Nat) (mvl : Nat) (mvc : Nat) (mvk : Nat) (mvt : Nat) (mvg : Nat) (mvh : Nat) (mvrk : Nat) (mvrt : Nat) (mvrg : Nat) (mvf : Nat) (mvq : Nat) (mvp : Nat) (mve : Nat) (qf : Int32) (qt : Int32) (qn : Int32) (qs : Int32) (qk : Int32) (qo : Int32) (qa : Int32) (qm : Int32) (qg : Int32) (qp : Int32) (qu : Int32) (ql : Int32) (qe : Int32) (qb : Int32) (qw : Int32) (qi : Int32) (qj : Int32) (qr : Int32) (vs : Nat → Int32) (vl : Nat → Int32) (zs : Int32) (zl : Int32) (zi : Int32) (zn : Int32) {res : Int32} (hg : f_X5_against vs vl zs zl zi zn = some res) : MI l yX5_against wsX5_against ({ frames := 0, cells := 0, slots := 0, locals := 0 }) D (T3 cI cZ cR) [(am, .inr (5, [.int (qf), .int (qt), .ref mvs, .ref mvl, .ref mvc, .int (qn), .int (qs), .int (qk), .int (qo), .ref mvk, .ref mvt, .ref mvg, .int (qa), .int (qm), .ref mvh, .ref mvrk, .ref mvrt, .ref mvrg, .int (qg), .int (qp), .int (qu), .int (ql), .int (qe), .int (qb), .int (qw), .ref mvf, .int (qi), .int (qj), .int (qr), .ref mvq, .ref mvp, .ref mve])), (mvs, .inl (cI, 4, .inl (vs))), (mvl, .inl (cI, 4, .inl (vl)))] [.ref am, .int (zs), .int (zl), .int (zi), .int (zn)] (fun r u => res = r ∧ u = [(am, .inr (5, [.int (qf), .int (qt), .ref mvs, .ref mvl, .ref mvc, .int (qn), .int (qs), .int (qk), .int (qo), .ref mvk, .ref mvt, .ref mvg, .int (qa), .int (qm), .ref mvh, .ref mvrk, .ref mvrt, .ref mvrg, .int (qg), .int (qp), .int (qu), .int (ql), .int (qe), .int (qb), .int (qw), .ref mvf, .int (qi), .int (qj), .int (qr), .ref mvq, .ref mvp, .ref mve])), (mvs, .inl (cI, 4, .inl (vs))), (mvl, .inl (cI, 4, .inl (vl)))]) := by
  refine entI (Rn := RX5) (by decide +kernel) rfl rfl (Nat.le_of_ble_eq_true rfl) (fun p e s m args below meth c A Q hx hb hr hml hts hown hlocks hA hP hD hK hS ls hl hQ => ?_)
  have inX5 : ∀ w ∈ u_ws RX5 TX5 32, w ∈ wsX5_against := by decide +kernel
  have bk_23 : f_X5_against_23 vs vl zs zi zn = some res → ∀ (H : Heap) (locs : List Loc), va_P D vwCl [(am, .inr (5, [.int (qf), .int (qt), .ref mvs, .ref mvl, .ref mvc, .int (qn), .int (qs), .int (qk), .int (qo), .ref mvk, .ref mvt, .ref mvg, .int (qa), .int (qm), .ref mvh, .ref mvrk, .ref mvrt, .ref mvrg, .int (qg), .int (qp), .int (qu), .int (ql), .int (qe), .int (qb), .int (qw), .ref mvf, .int (qi), .int (qj), .int (qr), .ref mvq, .ref mvp, .ref mve])), (mvs, .inl (cI, 4, .inl (vs))), (mvl, .inl (cI, 4, .inl (vl)))] H → va_D A [(am, .inr (5, [.int (qf), .int (qt), .ref mvs, .ref mvl, .ref mvc, .int (qn), .int (qs), .int (qk), .int (qo), .ref mvk, .ref mvt, .ref mvg, .int (qa), .int (qm), .ref mvh, .ref mvrk, .ref mvrt, .ref mvrg, .int (qg), .int (qp), .int (qu), .int (ql), .int (qe), .int (qb), .int (qw), .ref mvf, .int (qi), .int (qj), .int (qr), .ref mvq, .ref mvp, .ref mve])), (mvs, .inl (cI, 4, .inl (vs))), (mvl, .inl (cI, 4, .inl (vl)))] → va_S A s.heap H locs → ∀ (ls : Array Slot), lv_has ls 5 [(0, .ref am), (1, .int (zs)), (3, .int (zi)), (4, .int (zn))] → W p l e ({ frames := 0, cells := 0, slots := 0, locals := 0 }) s m args below meth c H locs 0 0 Q (F0 m 23 ls []) := by
    intro  hg H locs hP hD hS ls hl
    rw [f_X5_against_23] at hg
    refine lv_aload_n hx hb dX5_against_23 rfl (lv_at hl 0 rfl) ?_
    refine va_get (D := D) (ci := 5) (v := .ref mvs) (C := RX5) (T := TX5) (N := 32) hx hb hts inX5 hown hK hP 0 rfl rfl 2 (by decide) (hts (.fieldLink RX5 9 "ScooterFlagsModel" "sorts" "[I") (by decide +kernel)) (fun _ h9 => h9) rfl dX5_against_24 ?_
    refine lv_iload_n hx hb dX5_against_27 rfl (lv_at hl 1 rfl) ?_
    obtain ⟨g3, hg⟩ := gxo hg
    refine va_iald hx hb hK hP 1 0 rfl rfl g3 dX5_against_28 ?_
    refine W.eq (g2 := F0 m 29 ls [.int ((vs zs.toNatClampNeg))]) rfl ?_
    refine lv_bipush (v := (-9 : Int32)) hx hb dX5_against_29 (by decide) ?_
    refine lv_icmp_ne (tgt := 36) hx hb dX5_against_31 (by decide) (fun c4 => ?_) (fun c4 => ?_)
    · have hg := ie hg c4
      refine lv_iload hx hb dX5_against_36 (lv_at hl 3 rfl) ?_
      refine lv_if_ge (tgt := 43) hx hb dX5_against_38 (by decide) (fun c5 => ?_) (fun c5 => ?_)
      · have hg := it hg c5
        refine lv_iload_n hx hb dX5_against_43 rfl (lv_at hl 2 rfl) ?_
        refine lv_if_lt (tgt := 70) hx hb dX5_against_44 (by decide) (fun c6 => ?_) (fun c6 => ?_)
        · have hg := it hg c6
          refine lv_iconst (v := (3 : Int32)) hx hb dX5_against_70 (by decide) ?_
          refine lv_goto (tgt := 75) hx hb dX5_against_71 (by decide) ?_
          obtain rfl := Option.some.inj hg
          exact rti hQ hx hb hr hlocks hK hP hD hS dX5_against_75 ⟨rfl, rfl⟩
        · have hg := ie hg c6
          refine lv_iload_n hx hb dX5_against_47 rfl (lv_at hl 2 rfl) ?_
          refine lv_aload_n hx hb dX5_against_48 rfl (lv_at hl 0 rfl) ?_
          refine va_get (D := D) (ci := 5) (v := .ref mvl) (C := RX5) (T := TX5) (N := 32) hx hb hts inX5 hown hK hP 0 rfl rfl 3 (by decide) (hts (.fieldLink RX5 13 "ScooterFlagsModel" "sheetLong" "[I") (by decide +kernel)) (fun _ h9 => h9) rfl dX5_against_49 ?_
          refine lv_iload_n hx hb dX5_against_52 rfl (lv_at hl 1 rfl) ?_
          obtain ⟨g7, hg⟩ := gxo hg
          refine va_iald hx hb hK hP 2 0 rfl rfl g7 dX5_against_53 ?_
          refine W.eq (g2 := F0 m 54 ls [.int ((vl zs.toNatClampNeg)), .int (zi)]) rfl ?_
          refine lv_icmp_gt (tgt := 70) hx hb dX5_against_54 (by decide) (fun c8 => ?_) (fun c8 => ?_)
          · have hg := it hg c8
            refine lv_iconst (v := (3 : Int32)) hx hb dX5_against_70 (by decide) ?_
            refine lv_goto (tgt := 75) hx hb dX5_against_71 (by decide) ?_
            obtain rfl := Option.some.inj hg
            exact rti hQ hx hb hr hlocks hK hP hD hS dX5_against_75 ⟨rfl, rfl⟩
          · have hg := ie hg c8
            refine lv_iload hx hb dX5_against_57 (lv_at hl 3 rfl) ?_
            refine lv_aload_n hx hb dX5_against_59 rfl (lv_at hl 0 rfl) ?_
            refine va_get (D := D) (ci := 5) (v := .ref mvl) (C := RX5) (T := TX5) (N := 32) hx hb hts inX5 hown hK hP 0 rfl rfl 3 (by decide) (hts (.fieldLink RX5 13 "ScooterFlagsModel" "sheetLong" "[I") (by decide +kernel)) (fun _ h9 => h9) rfl dX5_against_60 ?_
            refine lv_iload_n hx hb dX5_against_63 rfl (lv_at hl 1 rfl) ?_
            obtain ⟨g9, hg⟩ := gxo hg
            refine va_iald hx hb hK hP 2 0 rfl rfl g9 dX5_against_64 ?_
            refine W.eq (g2 := F0 m 65 ls [.int ((vl zs.toNatClampNeg)), .int (zn)]) rfl ?_
            refine lv_iload_n hx hb dX5_against_65 rfl (lv_at hl 2 rfl) ?_
            refine lv_isub hx hb dX5_against_66 ?_
            refine lv_icmp_le (tgt := 74) hx hb dX5_against_67 (by decide) (fun c10 => ?_) (fun c10 => ?_)
            · have hg := it hg c10
              refine lv_iconst (v := (0 : Int32)) hx hb dX5_against_74 (by decide) ?_
              obtain rfl := Option.some.inj hg
              exact rti hQ hx hb hr hlocks hK hP hD hS dX5_against_75 ⟨rfl, rfl⟩
            · have hg := ie hg c10
              refine lv_iconst (v := (3 : Int32)) hx hb dX5_against_70 (by decide) ?_
              refine lv_goto (tgt := 75) hx hb dX5_against_71 (by decide) ?_
              obtain rfl := Option.some.inj hg
              exact rti hQ hx hb hr hlocks hK hP hD hS dX5_against_75 ⟨rfl, rfl⟩
      · have hg := ie hg c5
        refine lv_iconst (v := (4 : Int32)) hx hb dX5_against_41 (by decide) ?_
        obtain rfl := Option.some.inj hg
        exact rti hQ hx hb hr hlocks hK hP hD hS dX5_against_42 ⟨rfl, rfl⟩
    · have hg := it hg c4
      refine lv_iconst (v := (1 : Int32)) hx hb dX5_against_34 (by decide) ?_
      obtain rfl := Option.some.inj hg
      exact rti hQ hx hb hr hlocks hK hP hD hS dX5_against_35 ⟨rfl, rfl⟩
  have hl : lv_has ls 5 [(0, .ref am), (1, .int (zs)), (2, .int (zl)), (3, .int (zi)), (4, .int (zn))] := hl
  rw [f_X5_against] at hg
  refine lv_aload_n hx hb dX5_against_0 rfl (lv_at hl 0 rfl) ?_
  refine va_get (D := D) (ci := 5) (v := .ref mvs) (C := RX5) (T := TX5) (N := 32) hx hb hts inX5 hown hK hP 0 rfl rfl 2 (by decide) (hts (.fieldLink RX5 9 "ScooterFlagsModel" "sorts" "[I") (by decide +kernel)) (fun _ h9 => h9) rfl dX5_against_1 ?_
  refine lv_iload_n hx hb dX5_against_4 rfl (lv_at hl 1 rfl) ?_
  obtain ⟨g1, hg⟩ := gxo hg
  refine va_iald hx hb hK hP 1 0 rfl rfl g1 dX5_against_5 ?_
  refine W.eq (g2 := F0 m 6 ls [.int ((vs zs.toNatClampNeg))]) rfl ?_
  refine lv_bipush (v := (-9 : Int32)) hx hb dX5_against_6 (by decide) ?_
  refine lv_icmp_eq (tgt := 23) hx hb dX5_against_8 (by decide) (fun c2 => ?_) (fun c2 => ?_)
  · have hg := it hg c2
    exact bk_23  hg _ _ hP hD hS _ (lv_sub hl [0, 1, 3, 4] rfl)
  · have hg := ie hg c2
    refine lv_aload_n hx hb dX5_against_11 rfl (lv_at hl 0 rfl) ?_
    refine va_get (D := D) (ci := 5) (v := .ref mvs) (C := RX5) (T := TX5) (N := 32) hx hb hts inX5 hown hK hP 0 rfl rfl 2 (by decide) (hts (.fieldLink RX5 9 "ScooterFlagsModel" "sorts" "[I") (by decide +kernel)) (fun _ h9 => h9) rfl dX5_against_12 ?_
    refine lv_iload_n hx hb dX5_against_15 rfl (lv_at hl 1 rfl) ?_
    obtain ⟨g11, hg⟩ := gxo hg
    refine va_iald hx hb hK hP 1 0 rfl rfl g11 dX5_against_16 ?_
    refine W.eq (g2 := F0 m 17 ls [.int ((vs zs.toNatClampNeg))]) rfl ?_
    refine lv_iload_n hx hb dX5_against_17 rfl (lv_at hl 2 rfl) ?_
    refine lv_icmp_eq (tgt := 23) hx hb dX5_against_18 (by decide) (fun c12 => ?_) (fun c12 => ?_)
    · have hg := it hg c12
      exact bk_23  hg _ _ hP hD hS _ (lv_sub hl [0, 1, 3, 4] rfl)
    · have hg := ie hg c12
      refine lv_iconst (v := (2 : Int32)) hx hb dX5_against_21 (by decide) ?_
      obtain rfl := Option.some.inj hg
      exact rti hQ hx hb hr hlocks hK hP hD hS dX5_against_22 ⟨rfl, rfl⟩
def f_X5_isFlag (qn : Int32) (zf : Int32) : Option (Int32) :=
  if zf < 0 then (some ((0 : Int32))) else (if qn ≤ zf then (some ((0 : Int32))) else (some ((1 : Int32))))
set_option maxHeartbeats 4000000 in
set_option maxRecDepth 100000 in
theorem c_X5_isFlag (l : Launch) (D : va_G) (cI cZ cR : ClassId) (am : Nat) (mvs : Nat) (mvl : Nat) (mvc : Nat) (mvk : Nat) (mvt : Nat) (mvg : Nat) (mvh : Nat) (mvrk : Nat) (mvrt : Nat) (mvrg : Nat) (mvf : Nat) (mvq : Nat) (mvp : Nat) (mve : Nat) (qf : Int32) (qt : Int32) (qn : Int32) (qs : Int32) (qk : Int32) (qo : Int32) (qa : Int32) (qm : Int32) (qg : Int32) (qp : Int32) (qu : Int32) (ql : Int32) (qe : Int32) (qb : Int32) (qw : Int32) (qi : Int32) (qj : Int32) (qr : Int32) (zf : Int32) {res : Int32} (hg : f_X5_isFlag qn zf = some res) : MI l yX5_isFlag wsX5_isFlag ({ frames := 0, cells := 0, slots := 0, locals := 0 }) D (T3 cI cZ cR) [(am, .inr (5, [.int (qf), .int (qt), .ref mvs, .ref mvl, .ref mvc, .int (qn), .int (qs), .int (qk), .int (qo), .ref mvk, .ref mvt, .ref mvg, .int (qa), .int (qm), .ref mvh, .ref mvrk, .ref mvrt, .ref mvrg, .int (qg), .int (qp), .int (qu), .int (ql), .int (qe), .int (qb), .int (qw), .ref mvf, .int (qi), .int (qj), .int (qr), .ref mvq, .ref mvp, .ref mve]))] [.ref am, .int (zf)] (fun r u => res = r ∧ u = [(am, .inr (5, [.int (qf), .int (qt), .ref mvs, .ref mvl, .ref mvc, .int (qn), .int (qs), .int (qk), .int (qo), .ref mvk, .ref mvt, .ref mvg, .int (qa), .int (qm), .ref mvh, .ref mvrk, .ref mvrt, .ref mvrg, .int (qg), .int (qp), .int (qu), .int (ql), .int (qe), .int (qb), .int (qw), .ref mvf, .int (qi), .int (qj), .int (qr), .ref mvq, .ref mvp, .ref mve]))]) := by
  refine entI (Rn := RX5) (by decide +kernel) rfl rfl (Nat.le_of_ble_eq_true rfl) (fun p e s m args below meth c A Q hx hb hr hml hts hown hlocks hA hP hD hK hS ls hl hQ => ?_)
  have inX5 : ∀ w ∈ u_ws RX5 TX5 32, w ∈ wsX5_isFlag := by decide +kernel
  have hl : lv_has ls 2 [(0, .ref am), (1, .int (zf))] := hl
  rw [f_X5_isFlag] at hg
  refine lv_iload_n hx hb dX5_isFlag_0 rfl (lv_at hl 1 rfl) ?_
  refine lv_if_lt (tgt := 16) hx hb dX5_isFlag_1 (by decide) (fun c1 => ?_) (fun c1 => ?_)
  · have hg := it hg c1
    refine lv_iconst (v := (0 : Int32)) hx hb dX5_isFlag_16 (by decide) ?_
    obtain rfl := Option.some.inj hg
    exact rtz hQ hx hb hr rfl hlocks hK hP hD hS dX5_isFlag_17 ⟨rfl, rfl⟩
  · have hg := ie hg c1
    refine lv_iload_n hx hb dX5_isFlag_4 rfl (lv_at hl 1 rfl) ?_
    refine lv_aload_n hx hb dX5_isFlag_5 rfl (lv_at hl 0 rfl) ?_
    refine va_get (D := D) (ci := 5) (v := .int (qn)) (C := RX5) (T := TX5) (N := 32) hx hb hts inX5 hown hK hP 0 rfl rfl 5 (by decide) (hts (.fieldLink RX5 63 "ScooterFlagsModel" "flags" "I") (by decide +kernel)) (fun _ h9 => h9) rfl dX5_isFlag_6 ?_
    refine lv_icmp_ge (tgt := 16) hx hb dX5_isFlag_9 (by decide) (fun c2 => ?_) (fun c2 => ?_)
    · have hg := it hg c2
      refine lv_iconst (v := (0 : Int32)) hx hb dX5_isFlag_16 (by decide) ?_
      obtain rfl := Option.some.inj hg
      exact rtz hQ hx hb hr rfl hlocks hK hP hD hS dX5_isFlag_17 ⟨rfl, rfl⟩
    · have hg := ie hg c2
      refine lv_iconst (v := (1 : Int32)) hx hb dX5_isFlag_12 (by decide) ?_
      refine lv_goto (tgt := 17) hx hb dX5_isFlag_13 (by decide) ?_
      obtain rfl := Option.some.inj hg
      exact rtz hQ hx hb hr rfl hlocks hK hP hD hS dX5_isFlag_17 ⟨rfl, rfl⟩
def f_X5_digit (qa : Int32) (vc : Nat → Int32) (ze : Int32) (za : Int32) (zb : Int32) : Option (Int32 × Int32) :=
  if ze ≤ qa then (some ((-9 : Int32), qa)) else (gx qa 240 ((f_X5_within (vc qa.toNatClampNeg) ((48 : Int32) + za) ((48 : Int32) + zb)).bind (fun o3 => if o3 = 0 then (some ((-9 : Int32), qa)) else (gx ((qa + (1 : Int32)) - (1 : Int32)) 240 (some (((vc ((qa + (1 : Int32)) - (1 : Int32)).toNatClampNeg) - (48 : Int32)), (qa + (1 : Int32))))))))
set_option maxHeartbeats 4000000 in
set_option maxRecDepth 100000 in
theorem c_X5_digit (l : Launch) (D : va_G) (cI cZ cR : ClassId) (am : Nat) (mvc : Nat) (mvs : Nat) (mvl : Nat) (mvk : Nat) (mvt : Nat) (mvg : Nat) (mvh : Nat) (mvrk : Nat) (mvrt : Nat) (mvrg : Nat) (mvf : Nat) (mvq : Nat) (mvp : Nat) (mve : Nat) (qf : Int32) (qt : Int32) (qn : Int32) (qs : Int32) (qk : Int32) (qo : Int32) (qa : Int32) (qm : Int32) (qg : Int32) (qp : Int32) (qu : Int32) (ql : Int32) (qe : Int32) (qb : Int32) (qw : Int32) (qi : Int32) (qj : Int32) (qr : Int32) (vc : Nat → Int32) (ze : Int32) (za : Int32) (zb : Int32) {res : Int32 × Int32} (hg : f_X5_digit qa vc ze za zb = some res) : MI l yX5_digit wsX5_digit ({ frames := 1, cells := 0, slots := 0, locals := 22 }) D (T3 cI cZ cR) [(am, .inr (5, [.int (qf), .int (qt), .ref mvs, .ref mvl, .ref mvc, .int (qn), .int (qs), .int (qk), .int (qo), .ref mvk, .ref mvt, .ref mvg, .int (qa), .int (qm), .ref mvh, .ref mvrk, .ref mvrt, .ref mvrg, .int (qg), .int (qp), .int (qu), .int (ql), .int (qe), .int (qb), .int (qw), .ref mvf, .int (qi), .int (qj), .int (qr), .ref mvq, .ref mvp, .ref mve])), (mvc, .inl (cI, 240, .inl (vc)))] [.ref am, .int (ze), .int (za), .int (zb)] (fun r u => res.1 = r ∧ u = [(am, .inr (5, [.int (qf), .int (qt), .ref mvs, .ref mvl, .ref mvc, .int (qn), .int (qs), .int (qk), .int (qo), .ref mvk, .ref mvt, .ref mvg, .int (res.2), .int (qm), .ref mvh, .ref mvrk, .ref mvrt, .ref mvrg, .int (qg), .int (qp), .int (qu), .int (ql), .int (qe), .int (qb), .int (qw), .ref mvf, .int (qi), .int (qj), .int (qr), .ref mvq, .ref mvp, .ref mve])), (mvc, .inl (cI, 240, .inl (vc)))]) := by
  refine entI (Rn := RX5) (by decide +kernel) rfl rfl (Nat.le_of_ble_eq_true rfl) (fun p e s m args below meth c A Q hx hb hr hml hts hown hlocks hA hP hD hK hS ls hl hQ => ?_)
  have inX5 : ∀ w ∈ u_ws RX5 TX5 32, w ∈ wsX5_digit := by decide +kernel
  have hl : lv_has ls 4 [(0, .ref am), (1, .int (ze)), (2, .int (za)), (3, .int (zb))] := hl
  rw [f_X5_digit] at hg
  refine lv_aload_n hx hb dX5_digit_0 rfl (lv_at hl 0 rfl) ?_
  refine va_get (D := D) (ci := 5) (v := .int (qa)) (C := RX5) (T := TX5) (N := 32) hx hb hts inX5 hown hK hP 0 rfl rfl 12 (by decide) (hts (.fieldLink RX5 66 "ScooterFlagsModel" "at" "I") (by decide +kernel)) (fun _ h9 => h9) rfl dX5_digit_1 ?_
  refine lv_iload_n hx hb dX5_digit_4 rfl (lv_at hl 1 rfl) ?_
  refine lv_icmp_ge (tgt := 31) hx hb dX5_digit_5 (by decide) (fun c1 => ?_) (fun c1 => ?_)
  · have hg := it hg c1
    refine lv_bipush (v := (-9 : Int32)) hx hb dX5_digit_31 (by decide) ?_
    obtain rfl := Option.some.inj hg
    exact rti hQ hx hb hr hlocks hK hP hD hS dX5_digit_33 ⟨rfl, rfl⟩
  · have hg := ie hg c1
    refine lv_aload_n hx hb dX5_digit_8 rfl (lv_at hl 0 rfl) ?_
    refine va_get (D := D) (ci := 5) (v := .ref mvc) (C := RX5) (T := TX5) (N := 32) hx hb hts inX5 hown hK hP 0 rfl rfl 4 (by decide) (hts (.fieldLink RX5 16 "ScooterFlagsModel" "cells" "[I") (by decide +kernel)) (fun _ h9 => h9) rfl dX5_digit_9 ?_
    refine lv_aload_n hx hb dX5_digit_12 rfl (lv_at hl 0 rfl) ?_
    refine va_get (D := D) (ci := 5) (v := .int (qa)) (C := RX5) (T := TX5) (N := 32) hx hb hts inX5 hown hK hP 0 rfl rfl 12 (by decide) (hts (.fieldLink RX5 66 "ScooterFlagsModel" "at" "I") (by decide +kernel)) (fun _ h9 => h9) rfl dX5_digit_13 ?_
    obtain ⟨g2, hg⟩ := gxo hg
    refine va_iald hx hb hK hP 1 0 rfl rfl g2 dX5_digit_16 ?_
    refine W.eq (g2 := F0 m 17 ls [.int ((vc qa.toNatClampNeg))]) rfl ?_
    refine lv_bipush (v := (48 : Int32)) hx hb dX5_digit_17 (by decide) ?_
    refine lv_iload_n hx hb dX5_digit_19 rfl (lv_at hl 2 rfl) ?_
    refine lv_iadd hx hb dX5_digit_20 ?_
    refine lv_bipush (v := (48 : Int32)) hx hb dX5_digit_21 (by decide) ?_
    refine lv_iload_n hx hb dX5_digit_23 rfl (lv_at hl 3 rfl) ?_
    refine lv_iadd hx hb dX5_digit_24 ?_
    obtain ⟨o3, h4, hg⟩ := bd hg
    refine xcSi (As := [.int ((vc qa.toNatClampNeg)), .int (((48 : Int32) + za)), .int (((48 : Int32) + zb))]) (rest := []) (wc := []) (wr := [(am, .inr (5, [.int (qf), .int (qt), .ref mvs, .ref mvl, .ref mvc, .int (qn), .int (qs), .int (qk), .int (qo), .ref mvk, .ref mvt, .ref mvg, .int (qa), .int (qm), .ref mvh, .ref mvrk, .ref mvrt, .ref mvrg, .int (qg), .int (qp), .int (qu), .int (ql), .int (qe), .int (qb), .int (qw), .ref mvf, .int (qi), .int (qj), .int (qr), .ref mvq, .ref mvp, .ref mve])), (mvc, .inl (cI, 240, .inl (vc)))]) ⟨hx, hb, hml, hown, hts⟩ (c_X5_within l D cI cZ cR (vc qa.toNatClampNeg) ((48 : Int32) + za) ((48 : Int32) + zb) h4) (cwS 3 hts gX5_digit_X5_within rfl rfl rfl (by decide +kernel) ⟨Nat.le_of_ble_eq_true rfl, Nat.le_of_ble_eq_true rfl⟩) hK hP hD hS hA [] [0, 1] rfl rfl (by decide) (by decide) (by decide) rfl rfl hl.1 (lv_room (Nat.le_of_ble_eq_true rfl)) dX5_digit_25 ⟨Nat.le_of_ble_eq_true rfl, Nat.le_of_ble_eq_true rfl⟩ (fun r u H locs hu hP hD hS => ?_)
    obtain ⟨rfl, rfl⟩ := hu
    have hP : va_P D vwCl [(am, .inr (5, [.int (qf), .int (qt), .ref mvs, .ref mvl, .ref mvc, .int (qn), .int (qs), .int (qk), .int (qo), .ref mvk, .ref mvt, .ref mvg, .int (qa), .int (qm), .ref mvh, .ref mvrk, .ref mvrt, .ref mvrg, .int (qg), .int (qp), .int (qu), .int (ql), .int (qe), .int (qb), .int (qw), .ref mvf, .int (qi), .int (qj), .int (qr), .ref mvq, .ref mvp, .ref mve])), (mvc, .inl (cI, 240, .inl (vc)))] H := hP.sub [0, 1] rfl
    have hD : va_D A [(am, .inr (5, [.int (qf), .int (qt), .ref mvs, .ref mvl, .ref mvc, .int (qn), .int (qs), .int (qk), .int (qo), .ref mvk, .ref mvt, .ref mvg, .int (qa), .int (qm), .ref mvh, .ref mvrk, .ref mvrt, .ref mvrg, .int (qg), .int (qp), .int (qu), .int (ql), .int (qe), .int (qb), .int (qw), .ref mvf, .int (qi), .int (qj), .int (qr), .ref mvq, .ref mvp, .ref mve])), (mvc, .inl (cI, 240, .inl (vc)))] := hD.sub [0, 1] (by decide) rfl
    refine lv_if_ne (tgt := 34) hx hb dX5_digit_28 (by decide) (fun c5 => ?_) (fun c5 => ?_)
    · have hg := ie hg c5
      refine lv_aload_n hx hb dX5_digit_34 rfl (lv_at hl 0 rfl) ?_
      refine lv_dup hx hb dX5_digit_35 rfl ?_
      refine va_get (D := D) (ci := 5) (v := .int (qa)) (C := RX5) (T := TX5) (N := 32) hx hb hts inX5 hown hK hP 0 rfl rfl 12 (by decide) (hts (.fieldLink RX5 66 "ScooterFlagsModel" "at" "I") (by decide +kernel)) (fun _ h9 => h9) rfl dX5_digit_36 ?_
      refine lv_iconst (v := (1 : Int32)) hx hb dX5_digit_39 (by decide) ?_
      refine lv_iadd hx hb dX5_digit_40 ?_
      refine va_put (D := D) (ci := 5) (v := .int ((qa + (1 : Int32)))) (ty := .int) (C := RX5) (T := TX5) (N := 32) hx hb hts inX5 tyX5 tyX5_ok nmX5 hown hK hP hD hS 0 rfl rfl 12 (by decide) (hts (.fieldLink RX5 66 "ScooterFlagsModel" "at" "I") (by decide +kernel)) (fun _ h9 => h9) rfl (by decide +kernel) rfl rfl (Nat.le_of_ble_eq_true rfl) dX5_digit_41 (fun H locs hP hD hS => ?_)
      have hP : va_P D vwCl [(am, .inr (5, [.int (qf), .int (qt), .ref mvs, .ref mvl, .ref mvc, .int (qn), .int (qs), .int (qk), .int (qo), .ref mvk, .ref mvt, .ref mvg, .int ((qa + (1 : Int32))), .int (qm), .ref mvh, .ref mvrk, .ref mvrt, .ref mvrg, .int (qg), .int (qp), .int (qu), .int (ql), .int (qe), .int (qb), .int (qw), .ref mvf, .int (qi), .int (qj), .int (qr), .ref mvq, .ref mvp, .ref mve])), (mvc, .inl (cI, 240, .inl (vc)))] H := hP
      have hD : va_D A [(am, .inr (5, [.int (qf), .int (qt), .ref mvs, .ref mvl, .ref mvc, .int (qn), .int (qs), .int (qk), .int (qo), .ref mvk, .ref mvt, .ref mvg, .int ((qa + (1 : Int32))), .int (qm), .ref mvh, .ref mvrk, .ref mvrt, .ref mvrg, .int (qg), .int (qp), .int (qu), .int (ql), .int (qe), .int (qb), .int (qw), .ref mvf, .int (qi), .int (qj), .int (qr), .ref mvq, .ref mvp, .ref mve])), (mvc, .inl (cI, 240, .inl (vc)))] := hD
      refine lv_aload_n hx hb dX5_digit_44 rfl (lv_at hl 0 rfl) ?_
      refine va_get (D := D) (ci := 5) (v := .ref mvc) (C := RX5) (T := TX5) (N := 32) hx hb hts inX5 hown hK hP 0 rfl rfl 4 (by decide) (hts (.fieldLink RX5 16 "ScooterFlagsModel" "cells" "[I") (by decide +kernel)) (fun _ h9 => h9) rfl dX5_digit_45 ?_
      refine lv_aload_n hx hb dX5_digit_48 rfl (lv_at hl 0 rfl) ?_
      refine va_get (D := D) (ci := 5) (v := .int ((qa + (1 : Int32)))) (C := RX5) (T := TX5) (N := 32) hx hb hts inX5 hown hK hP 0 rfl rfl 12 (by decide) (hts (.fieldLink RX5 66 "ScooterFlagsModel" "at" "I") (by decide +kernel)) (fun _ h9 => h9) rfl dX5_digit_49 ?_
      refine lv_iconst (v := (1 : Int32)) hx hb dX5_digit_52 (by decide) ?_
      refine lv_isub hx hb dX5_digit_53 ?_
      obtain ⟨g6, hg⟩ := gxo hg
      refine va_iald hx hb hK hP 1 0 rfl rfl g6 dX5_digit_54 ?_
      refine W.eq (g2 := F0 m 55 ls [.int ((vc ((qa + (1 : Int32)) - (1 : Int32)).toNatClampNeg))]) rfl ?_
      refine lv_bipush (v := (48 : Int32)) hx hb dX5_digit_55 (by decide) ?_
      refine lv_isub hx hb dX5_digit_57 ?_
      obtain rfl := Option.some.inj hg
      exact rti hQ hx hb hr hlocks hK hP hD hS dX5_digit_58 ⟨rfl, rfl⟩
    · have hg := it hg c5
      refine lv_bipush (v := (-9 : Int32)) hx hb dX5_digit_31 (by decide) ?_
      obtain rfl := Option.some.inj hg
      exact rti hQ hx hb hr hlocks hK hP hD hS dX5_digit_33 ⟨rfl, rfl⟩
def f_X5_isSign (qa : Int32) (vc : Nat → Int32) (ze : Int32) (zc : Int32) : Option (Int32 × Int32) :=
  if ze ≤ qa then (some ((0 : Int32), qa)) else (gx qa 240 (if (vc qa.toNatClampNeg) = zc then (some ((1 : Int32), (qa + (1 : Int32)))) else (some ((0 : Int32), qa))))
set_option maxHeartbeats 4000000 in
set_option maxRecDepth 100000 in
theorem c_X5_isSign (l : Launch) (D : va_G) (cI cZ cR : ClassId) (am : Nat) (mvc : Nat) (mvs : Nat) (mvl : Nat) (mvk : Nat) (mvt : Nat) (mvg : Nat) (mvh : Nat) (mvrk : Nat) (mvrt : Nat) (mvrg : Nat) (mvf : Nat) (mvq : Nat) (mvp : Nat) (mve : Nat) (qf : Int32) (qt : Int32) (qn : Int32) (qs : Int32) (qk : Int32) (qo : Int32) (qa : Int32) (qm : Int32) (qg : Int32) (qp : Int32) (qu : Int32) (ql : Int32) (qe : Int32) (qb : Int32) (qw : Int32) (qi : Int32) (qj : Int32) (qr : Int32) (vc : Nat → Int32) (ze : Int32) (zc : Int32) {res : Int32 × Int32} (hg : f_X5_isSign qa vc ze zc = some res) : MI l yX5_isSign wsX5_isSign ({ frames := 0, cells := 0, slots := 0, locals := 0 }) D (T3 cI cZ cR) [(am, .inr (5, [.int (qf), .int (qt), .ref mvs, .ref mvl, .ref mvc, .int (qn), .int (qs), .int (qk), .int (qo), .ref mvk, .ref mvt, .ref mvg, .int (qa), .int (qm), .ref mvh, .ref mvrk, .ref mvrt, .ref mvrg, .int (qg), .int (qp), .int (qu), .int (ql), .int (qe), .int (qb), .int (qw), .ref mvf, .int (qi), .int (qj), .int (qr), .ref mvq, .ref mvp, .ref mve])), (mvc, .inl (cI, 240, .inl (vc)))] [.ref am, .int (ze), .int (zc)] (fun r u => res.1 = r ∧ u = [(am, .inr (5, [.int (qf), .int (qt), .ref mvs, .ref mvl, .ref mvc, .int (qn), .int (qs), .int (qk), .int (qo), .ref mvk, .ref mvt, .ref mvg, .int (res.2), .int (qm), .ref mvh, .ref mvrk, .ref mvrt, .ref mvrg, .int (qg), .int (qp), .int (qu), .int (ql), .int (qe), .int (qb), .int (qw), .ref mvf, .int (qi), .int (qj), .int (qr), .ref mvq, .ref mvp, .ref mve])), (mvc, .inl (cI, 240, .inl (vc)))]) := by
  refine entI (Rn := RX5) (by decide +kernel) rfl rfl (Nat.le_of_ble_eq_true rfl) (fun p e s m args below meth c A Q hx hb hr hml hts hown hlocks hA hP hD hK hS ls hl hQ => ?_)
  have inX5 : ∀ w ∈ u_ws RX5 TX5 32, w ∈ wsX5_isSign := by decide +kernel
  have hl : lv_has ls 3 [(0, .ref am), (1, .int (ze)), (2, .int (zc))] := hl
  rw [f_X5_isSign] at hg
  refine lv_aload_n hx hb dX5_isSign_0 rfl (lv_at hl 0 rfl) ?_
  refine va_get (D := D) (ci := 5) (v := .int (qa)) (C := RX5) (T := TX5) (N := 32) hx hb hts inX5 hown hK hP 0 rfl rfl 12 (by decide) (hts (.fieldLink RX5 66 "ScooterFlagsModel" "at" "I") (by decide +kernel)) (fun _ h9 => h9) rfl dX5_isSign_1 ?_
  refine lv_iload_n hx hb dX5_isSign_4 rfl (lv_at hl 1 rfl) ?_
  refine lv_icmp_ge (tgt := 21) hx hb dX5_isSign_5 (by decide) (fun c1 => ?_) (fun c1 => ?_)
  · have hg := it hg c1
    refine lv_iconst (v := (0 : Int32)) hx hb dX5_isSign_21 (by decide) ?_
    obtain rfl := Option.some.inj hg
    exact rtz hQ hx hb hr rfl hlocks hK hP hD hS dX5_isSign_22 ⟨rfl, rfl⟩
  · have hg := ie hg c1
    refine lv_aload_n hx hb dX5_isSign_8 rfl (lv_at hl 0 rfl) ?_
    refine va_get (D := D) (ci := 5) (v := .ref mvc) (C := RX5) (T := TX5) (N := 32) hx hb hts inX5 hown hK hP 0 rfl rfl 4 (by decide) (hts (.fieldLink RX5 16 "ScooterFlagsModel" "cells" "[I") (by decide +kernel)) (fun _ h9 => h9) rfl dX5_isSign_9 ?_
    refine lv_aload_n hx hb dX5_isSign_12 rfl (lv_at hl 0 rfl) ?_
    refine va_get (D := D) (ci := 5) (v := .int (qa)) (C := RX5) (T := TX5) (N := 32) hx hb hts inX5 hown hK hP 0 rfl rfl 12 (by decide) (hts (.fieldLink RX5 66 "ScooterFlagsModel" "at" "I") (by decide +kernel)) (fun _ h9 => h9) rfl dX5_isSign_13 ?_
    obtain ⟨g2, hg⟩ := gxo hg
    refine va_iald hx hb hK hP 1 0 rfl rfl g2 dX5_isSign_16 ?_
    refine W.eq (g2 := F0 m 17 ls [.int ((vc qa.toNatClampNeg))]) rfl ?_
    refine lv_iload_n hx hb dX5_isSign_17 rfl (lv_at hl 2 rfl) ?_
    refine lv_icmp_eq (tgt := 23) hx hb dX5_isSign_18 (by decide) (fun c3 => ?_) (fun c3 => ?_)
    · have hg := it hg c3
      refine lv_aload_n hx hb dX5_isSign_23 rfl (lv_at hl 0 rfl) ?_
      refine lv_dup hx hb dX5_isSign_24 rfl ?_
      refine va_get (D := D) (ci := 5) (v := .int (qa)) (C := RX5) (T := TX5) (N := 32) hx hb hts inX5 hown hK hP 0 rfl rfl 12 (by decide) (hts (.fieldLink RX5 66 "ScooterFlagsModel" "at" "I") (by decide +kernel)) (fun _ h9 => h9) rfl dX5_isSign_25 ?_
      refine lv_iconst (v := (1 : Int32)) hx hb dX5_isSign_28 (by decide) ?_
      refine lv_iadd hx hb dX5_isSign_29 ?_
      refine va_put (D := D) (ci := 5) (v := .int ((qa + (1 : Int32)))) (ty := .int) (C := RX5) (T := TX5) (N := 32) hx hb hts inX5 tyX5 tyX5_ok nmX5 hown hK hP hD hS 0 rfl rfl 12 (by decide) (hts (.fieldLink RX5 66 "ScooterFlagsModel" "at" "I") (by decide +kernel)) (fun _ h9 => h9) rfl (by decide +kernel) rfl rfl (Nat.le_of_ble_eq_true rfl) dX5_isSign_30 (fun H locs hP hD hS => ?_)
      have hP : va_P D vwCl [(am, .inr (5, [.int (qf), .int (qt), .ref mvs, .ref mvl, .ref mvc, .int (qn), .int (qs), .int (qk), .int (qo), .ref mvk, .ref mvt, .ref mvg, .int ((qa + (1 : Int32))), .int (qm), .ref mvh, .ref mvrk, .ref mvrt, .ref mvrg, .int (qg), .int (qp), .int (qu), .int (ql), .int (qe), .int (qb), .int (qw), .ref mvf, .int (qi), .int (qj), .int (qr), .ref mvq, .ref mvp, .ref mve])), (mvc, .inl (cI, 240, .inl (vc)))] H := hP
      have hD : va_D A [(am, .inr (5, [.int (qf), .int (qt), .ref mvs, .ref mvl, .ref mvc, .int (qn), .int (qs), .int (qk), .int (qo), .ref mvk, .ref mvt, .ref mvg, .int ((qa + (1 : Int32))), .int (qm), .ref mvh, .ref mvrk, .ref mvrt, .ref mvrg, .int (qg), .int (qp), .int (qu), .int (ql), .int (qe), .int (qb), .int (qw), .ref mvf, .int (qi), .int (qj), .int (qr), .ref mvq, .ref mvp, .ref mve])), (mvc, .inl (cI, 240, .inl (vc)))] := hD
      refine lv_iconst (v := (1 : Int32)) hx hb dX5_isSign_33 (by decide) ?_
      obtain rfl := Option.some.inj hg
      exact rtz hQ hx hb hr rfl hlocks hK hP hD hS dX5_isSign_34 ⟨rfl, rfl⟩
    · have hg := ie hg c3
      refine lv_iconst (v := (0 : Int32)) hx hb dX5_isSign_21 (by decide) ?_
      obtain rfl := Option.some.inj hg
      exact rtz hQ hx hb hr rfl hlocks hK hP hD hS dX5_isSign_22 ⟨rfl, rfl⟩
def f_X5_readFlag_62 (vc : Nat → Int32) (ze : Int32) (y1 : Int32) (y2 : Int32) (qa : Int32) (qm : Int32) (vrk : Nat → Int32) (vrt : Nat → Int32) (vrg : Nat → Int32) : Option (Int32 × Int32 × Int32 × (Nat → Int32) × (Nat → Int32) × (Nat → Int32)) :=
  gx y1 10 (gx qm 10 (if ((upd vrk y1.toNatClampNeg y2) qm.toNatClampNeg) = (-9 : Int32) then (some ((0 : Int32), qa, qm, (upd vrk y1.toNatClampNeg y2), vrt, vrg)) else ((f_X5_digit (qa + (1 : Int32)) vc ze (0 : Int32) (4 : Int32)).bind (fun o8 => gx qm 10 (gx qm 10 (if ((upd vrt qm.toNatClampNeg o8.1) qm.toNatClampNeg) = (-9 : Int32) then (some ((0 : Int32), o8.2, qm, (upd vrk y1.toNatClampNeg y2), (upd vrt qm.toNatClampNeg o8.1), vrg)) else ((f_X5_isSign o8.2 vc ze (35 : Int32)).bind (fun o13 => gx qm 10 (gd (o13.1 = 0 ∨ o13.1 = 1) (some ((1 : Int32), o13.2, (qm + (1 : Int32)), (upd vrk y1.toNatClampNeg y2), (upd vrt qm.toNatClampNeg o8.1), (upd vrg qm.toNatClampNeg o13.1))))))))))))
def f_X5_readFlag_21 (vc : Nat → Int32) (ze : Int32) (y0 : Int32) (qa : Int32) (qm : Int32) (vrk : Nat → Int32) (vrt : Nat → Int32) (vrg : Nat → Int32) : Option (Int32 × Int32 × Int32 × (Nat → Int32) × (Nat → Int32) × (Nat → Int32)) :=
  if y0 = (102 : Int32) then (f_X5_readFlag_62 vc ze qm (0 : Int32) qa qm vrk vrt vrg) else (if y0 = (104 : Int32) then (f_X5_readFlag_62 vc ze qm (1 : Int32) qa qm vrk vrt vrg) else (if y0 = (119 : Int32) then (f_X5_readFlag_62 vc ze qm (2 : Int32) qa qm vrk vrt vrg) else (f_X5_readFlag_62 vc ze qm (-9 : Int32) qa qm vrk vrt vrg)))
def f_X5_readFlag (qa : Int32) (qm : Int32) (vc : Nat → Int32) (vrk : Nat → Int32) (vrt : Nat → Int32) (vrg : Nat → Int32) (ze : Int32) : Option (Int32 × Int32 × Int32 × (Nat → Int32) × (Nat → Int32) × (Nat → Int32)) :=
  if ze ≤ qa then (f_X5_readFlag_21 vc ze (0 : Int32) qa qm vrk vrt vrg) else (gx qa 240 (f_X5_readFlag_21 vc ze (vc qa.toNatClampNeg) qa qm vrk vrt vrg))
set_option maxHeartbeats 4000000 in
set_option maxRecDepth 100000 in
theorem c_X5_readFlag (l : Launch) (D : va_G) (cI cZ cR : ClassId) (am : Nat) (mvc : Nat) (mvh : Nat) (mvrk : Nat) (mvrt : Nat) (mvrg : Nat) (mvs : Nat) (mvl : Nat) (mvk : Nat) (mvt : Nat) (mvg : Nat) (mvf : Nat) (mvq : Nat) (mvp : Nat) (mve : Nat) (qf : Int32) (qt : Int32) (qn : Int32) (qs : Int32) (qk : Int32) (qo : Int32) (qa : Int32) (qm : Int32) (qg : Int32) (qp : Int32) (qu : Int32) (ql : Int32) (qe : Int32) (qb : Int32) (qw : Int32) (qi : Int32) (qj : Int32) (qr : Int32) (vc : Nat → Int32) (vh : Nat → Int32) (vrk : Nat → Int32) (vrt : Nat → Int32) (vrg : Nat → Int32) (ze : Int32) {res : Int32 × Int32 × Int32 × (Nat → Int32) × (Nat → Int32) × (Nat → Int32)} (hg : f_X5_readFlag qa qm vc vrk vrt vrg ze = some res) : MI l yX5_readFlag wsX5_readFlag ({ frames := 2, cells := 0, slots := 0, locals := 45 }) D (T3 cI cZ cR) [(am, .inr (5, [.int (qf), .int (qt), .ref mvs, .ref mvl, .ref mvc, .int (qn), .int (qs), .int (qk), .int (qo), .ref mvk, .ref mvt, .ref mvg, .int (qa), .int (qm), .ref mvh, .ref mvrk, .ref mvrt, .ref mvrg, .int (qg), .int (qp), .int (qu), .int (ql), .int (qe), .int (qb), .int (qw), .ref mvf, .int (qi), .int (qj), .int (qr), .ref mvq, .ref mvp, .ref mve])), (mvc, .inl (cI, 240, .inl (vc))), (mvh, .inl (cI, 3, .inl (vh))), (mvrk, .inl (cI, 10, .inl (vrk))), (mvrt, .inl (cI, 10, .inl (vrt))), (mvrg, .inl (cZ, 10, .inl (vrg)))] [.ref am, .int (ze)] (fun r u => res.1 = r ∧ u = [(am, .inr (5, [.int (qf), .int (qt), .ref mvs, .ref mvl, .ref mvc, .int (qn), .int (qs), .int (qk), .int (qo), .ref mvk, .ref mvt, .ref mvg, .int (res.2.1), .int (res.2.2.1), .ref mvh, .ref mvrk, .ref mvrt, .ref mvrg, .int (qg), .int (qp), .int (qu), .int (ql), .int (qe), .int (qb), .int (qw), .ref mvf, .int (qi), .int (qj), .int (qr), .ref mvq, .ref mvp, .ref mve])), (mvc, .inl (cI, 240, .inl (vc))), (mvh, .inl (cI, 3, .inl (vh))), (mvrk, .inl (cI, 10, .inl (res.2.2.2.1))), (mvrt, .inl (cI, 10, .inl (res.2.2.2.2.1))), (mvrg, .inl (cZ, 10, .inl (res.2.2.2.2.2)))]) := by
  refine entI (Rn := RX5) (by decide +kernel) rfl rfl (Nat.le_of_ble_eq_true rfl) (fun p e s m args below meth c A Q hx hb hr hml hts hown hlocks hA hP hD hK hS ls hl hQ => ?_)
  have inX5 : ∀ w ∈ u_ws RX5 TX5 32, w ∈ wsX5_readFlag := by decide +kernel
  have bk_62 : ∀ (y1 : Int32) (y2 : Int32) (qa : Int32) (qm : Int32) (vrk : Nat → Int32) (vrt : Nat → Int32) (vrg : Nat → Int32), f_X5_readFlag_62 vc ze y1 y2 qa qm vrk vrt vrg = some res → ∀ (H : Heap) (locs : List Loc), va_P D vwCl [(am, .inr (5, [.int (qf), .int (qt), .ref mvs, .ref mvl, .ref mvc, .int (qn), .int (qs), .int (qk), .int (qo), .ref mvk, .ref mvt, .ref mvg, .int (qa), .int (qm), .ref mvh, .ref mvrk, .ref mvrt, .ref mvrg, .int (qg), .int (qp), .int (qu), .int (ql), .int (qe), .int (qb), .int (qw), .ref mvf, .int (qi), .int (qj), .int (qr), .ref mvq, .ref mvp, .ref mve])), (mvc, .inl (cI, 240, .inl (vc))), (mvh, .inl (cI, 3, .inl (vh))), (mvrk, .inl (cI, 10, .inl (vrk))), (mvrt, .inl (cI, 10, .inl (vrt))), (mvrg, .inl (cZ, 10, .inl (vrg)))] H → va_D A [(am, .inr (5, [.int (qf), .int (qt), .ref mvs, .ref mvl, .ref mvc, .int (qn), .int (qs), .int (qk), .int (qo), .ref mvk, .ref mvt, .ref mvg, .int (qa), .int (qm), .ref mvh, .ref mvrk, .ref mvrt, .ref mvrg, .int (qg), .int (qp), .int (qu), .int (ql), .int (qe), .int (qb), .int (qw), .ref mvf, .int (qi), .int (qj), .int (qr), .ref mvq, .ref mvp, .ref mve])), (mvc, .inl (cI, 240, .inl (vc))), (mvh, .inl (cI, 3, .inl (vh))), (mvrk, .inl (cI, 10, .inl (vrk))), (mvrt, .inl (cI, 10, .inl (vrt))), (mvrg, .inl (cZ, 10, .inl (vrg)))] → va_S A s.heap H locs → ∀ (ls : Array Slot), lv_has ls 3 [(0, .ref am), (1, .int (ze))] → W p l e ({ frames := 2, cells := 0, slots := 0, locals := 45 }) s m args below meth c H locs 0 0 Q (F0 m 62 ls [.int (y2), .int (y1), .ref mvrk]) := by
    intro y1 y2 qa qm vrk vrt vrg hg H locs hP hD hS ls hl
    rw [f_X5_readFlag_62] at hg
    obtain ⟨g5, hg⟩ := gxo hg
    refine va_iast hx hb hK hP hD hS 3 0 rfl rfl g5 dX5_readFlag_62 (fun H locs hP hD hS => ?_)
    have hP : va_P D vwCl [(am, .inr (5, [.int (qf), .int (qt), .ref mvs, .ref mvl, .ref mvc, .int (qn), .int (qs), .int (qk), .int (qo), .ref mvk, .ref mvt, .ref mvg, .int (qa), .int (qm), .ref mvh, .ref mvrk, .ref mvrt, .ref mvrg, .int (qg), .int (qp), .int (qu), .int (ql), .int (qe), .int (qb), .int (qw), .ref mvf, .int (qi), .int (qj), .int (qr), .ref mvq, .ref mvp, .ref mve])), (mvc, .inl (cI, 240, .inl (vc))), (mvh, .inl (cI, 3, .inl (vh))), (mvrk, .inl (cI, 10, .inl ((upd vrk y1.toNatClampNeg y2)))), (mvrt, .inl (cI, 10, .inl (vrt))), (mvrg, .inl (cZ, 10, .inl (vrg)))] H := hP
    have hD : va_D A [(am, .inr (5, [.int (qf), .int (qt), .ref mvs, .ref mvl, .ref mvc, .int (qn), .int (qs), .int (qk), .int (qo), .ref mvk, .ref mvt, .ref mvg, .int (qa), .int (qm), .ref mvh, .ref mvrk, .ref mvrt, .ref mvrg, .int (qg), .int (qp), .int (qu), .int (ql), .int (qe), .int (qb), .int (qw), .ref mvf, .int (qi), .int (qj), .int (qr), .ref mvq, .ref mvp, .ref mve])), (mvc, .inl (cI, 240, .inl (vc))), (mvh, .inl (cI, 3, .inl (vh))), (mvrk, .inl (cI, 10, .inl ((upd vrk y1.toNatClampNeg y2)))), (mvrt, .inl (cI, 10, .inl (vrt))), (mvrg, .inl (cZ, 10, .inl (vrg)))] := hD
    refine lv_aload_n hx hb dX5_readFlag_63 rfl (lv_at hl 0 rfl) ?_
    refine va_get (D := D) (ci := 5) (v := .ref mvrk) (C := RX5) (T := TX5) (N := 32) hx hb hts inX5 hown hK hP 0 rfl rfl 15 (by decide) (hts (.fieldLink RX5 32 "ScooterFlagsModel" "readKind" "[I") (by decide +kernel)) (fun _ h9 => h9) rfl dX5_readFlag_64 ?_
    refine lv_aload_n hx hb dX5_readFlag_67 rfl (lv_at hl 0 rfl) ?_
    refine va_get (D := D) (ci := 5) (v := .int (qm)) (C := RX5) (T := TX5) (N := 32) hx hb hts inX5 hown hK hP 0 rfl rfl 13 (by decide) (hts (.fieldLink RX5 96 "ScooterFlagsModel" "readMany" "I") (by decide +kernel)) (fun _ h9 => h9) rfl dX5_readFlag_68 ?_
    obtain ⟨g6, hg⟩ := gxo hg
    refine va_iald hx hb hK hP 3 0 rfl rfl g6 dX5_readFlag_71 ?_
    refine W.eq (g2 := F0 m 72 ls [.int (((upd vrk y1.toNatClampNeg y2) qm.toNatClampNeg))]) rfl ?_
    refine lv_bipush (v := (-9 : Int32)) hx hb dX5_readFlag_72 (by decide) ?_
    refine lv_icmp_ne (tgt := 79) hx hb dX5_readFlag_74 (by decide) (fun c7 => ?_) (fun c7 => ?_)
    · have hg := ie hg c7
      refine lv_aload_n hx hb dX5_readFlag_79 rfl (lv_at hl 0 rfl) ?_
      refine lv_dup hx hb dX5_readFlag_80 rfl ?_
      refine va_get (D := D) (ci := 5) (v := .int (qa)) (C := RX5) (T := TX5) (N := 32) hx hb hts inX5 hown hK hP 0 rfl rfl 12 (by decide) (hts (.fieldLink RX5 66 "ScooterFlagsModel" "at" "I") (by decide +kernel)) (fun _ h9 => h9) rfl dX5_readFlag_81 ?_
      refine lv_iconst (v := (1 : Int32)) hx hb dX5_readFlag_84 (by decide) ?_
      refine lv_iadd hx hb dX5_readFlag_85 ?_
      refine va_put (D := D) (ci := 5) (v := .int ((qa + (1 : Int32)))) (ty := .int) (C := RX5) (T := TX5) (N := 32) hx hb hts inX5 tyX5 tyX5_ok nmX5 hown hK hP hD hS 0 rfl rfl 12 (by decide) (hts (.fieldLink RX5 66 "ScooterFlagsModel" "at" "I") (by decide +kernel)) (fun _ h9 => h9) rfl (by decide +kernel) rfl rfl (Nat.le_of_ble_eq_true rfl) dX5_readFlag_86 (fun H locs hP hD hS => ?_)
      have hP : va_P D vwCl [(am, .inr (5, [.int (qf), .int (qt), .ref mvs, .ref mvl, .ref mvc, .int (qn), .int (qs), .int (qk), .int (qo), .ref mvk, .ref mvt, .ref mvg, .int ((qa + (1 : Int32))), .int (qm), .ref mvh, .ref mvrk, .ref mvrt, .ref mvrg, .int (qg), .int (qp), .int (qu), .int (ql), .int (qe), .int (qb), .int (qw), .ref mvf, .int (qi), .int (qj), .int (qr), .ref mvq, .ref mvp, .ref mve])), (mvc, .inl (cI, 240, .inl (vc))), (mvh, .inl (cI, 3, .inl (vh))), (mvrk, .inl (cI, 10, .inl ((upd vrk y1.toNatClampNeg y2)))), (mvrt, .inl (cI, 10, .inl (vrt))), (mvrg, .inl (cZ, 10, .inl (vrg)))] H := hP
      have hD : va_D A [(am, .inr (5, [.int (qf), .int (qt), .ref mvs, .ref mvl, .ref mvc, .int (qn), .int (qs), .int (qk), .int (qo), .ref mvk, .ref mvt, .ref mvg, .int ((qa + (1 : Int32))), .int (qm), .ref mvh, .ref mvrk, .ref mvrt, .ref mvrg, .int (qg), .int (qp), .int (qu), .int (ql), .int (qe), .int (qb), .int (qw), .ref mvf, .int (qi), .int (qj), .int (qr), .ref mvq, .ref mvp, .ref mve])), (mvc, .inl (cI, 240, .inl (vc))), (mvh, .inl (cI, 3, .inl (vh))), (mvrk, .inl (cI, 10, .inl ((upd vrk y1.toNatClampNeg y2)))), (mvrt, .inl (cI, 10, .inl (vrt))), (mvrg, .inl (cZ, 10, .inl (vrg)))] := hD
      refine lv_aload_n hx hb dX5_readFlag_89 rfl (lv_at hl 0 rfl) ?_
      refine va_get (D := D) (ci := 5) (v := .ref mvrt) (C := RX5) (T := TX5) (N := 32) hx hb hts inX5 hown hK hP 0 rfl rfl 16 (by decide) (hts (.fieldLink RX5 35 "ScooterFlagsModel" "readTakes" "[I") (by decide +kernel)) (fun _ h9 => h9) rfl dX5_readFlag_90 ?_
      refine lv_aload_n hx hb dX5_readFlag_93 rfl (lv_at hl 0 rfl) ?_
      refine va_get (D := D) (ci := 5) (v := .int (qm)) (C := RX5) (T := TX5) (N := 32) hx hb hts inX5 hown hK hP 0 rfl rfl 13 (by decide) (hts (.fieldLink RX5 96 "ScooterFlagsModel" "readMany" "I") (by decide +kernel)) (fun _ h9 => h9) rfl dX5_readFlag_94 ?_
      refine lv_aload_n hx hb dX5_readFlag_97 rfl (lv_at hl 0 rfl) ?_
      refine lv_iload_n hx hb dX5_readFlag_98 rfl (lv_at hl 1 rfl) ?_
      refine lv_iconst (v := (0 : Int32)) hx hb dX5_readFlag_99 (by decide) ?_
      refine lv_iconst (v := (4 : Int32)) hx hb dX5_readFlag_100 (by decide) ?_
      obtain ⟨o8, h9, hg⟩ := bd hg
      refine xcVi (As := [.int (ze), .int ((0 : Int32)), .int ((4 : Int32))]) (rest := [.int (qm), .ref mvrt]) (wc := [(am, .inr (5, [.int (qf), .int (qt), .ref mvs, .ref mvl, .ref mvc, .int (qn), .int (qs), .int (qk), .int (qo), .ref mvk, .ref mvt, .ref mvg, .int ((qa + (1 : Int32))), .int (qm), .ref mvh, .ref mvrk, .ref mvrt, .ref mvrg, .int (qg), .int (qp), .int (qu), .int (ql), .int (qe), .int (qb), .int (qw), .ref mvf, .int (qi), .int (qj), .int (qr), .ref mvq, .ref mvp, .ref mve])), (mvc, .inl (cI, 240, .inl (vc)))]) (wr := [(mvh, .inl (cI, 3, .inl (vh))), (mvrk, .inl (cI, 10, .inl ((upd vrk y1.toNatClampNeg y2)))), (mvrt, .inl (cI, 10, .inl (vrt))), (mvrg, .inl (cZ, 10, .inl (vrg)))]) ⟨hx, hb, hml, hown, hts⟩ (c_X5_digit l D cI cZ cR am mvc mvs mvl mvk mvt mvg mvh mvrk mvrt mvrg mvf mvq mvp mve qf qt qn qs qk qo (qa + (1 : Int32)) qm qg qp qu ql qe qb qw qi qj qr vc ze (0 : Int32) (4 : Int32) h9) (cwV 3 hts gX5_readFlag_X5_digit rfl rfl rfl (by decide +kernel) ⟨Nat.le_of_ble_eq_true rfl, Nat.le_of_ble_eq_true rfl⟩) hK hP hD hS hA [0, 1] [2, 3, 4, 5] rfl rfl (by decide) (by decide) (by decide) (va_recv hK hP (ci := 5) (q0 := 0) rfl rfl) rfl rfl hl.1 (lv_room (Nat.le_of_ble_eq_true rfl)) dX5_readFlag_101 ⟨Nat.le_of_ble_eq_true rfl, Nat.le_of_ble_eq_true rfl⟩ (fun r u H locs hu hP hD hS => ?_)
      obtain ⟨rfl, rfl⟩ := hu
      have hP : va_P D vwCl [(am, .inr (5, [.int (qf), .int (qt), .ref mvs, .ref mvl, .ref mvc, .int (qn), .int (qs), .int (qk), .int (qo), .ref mvk, .ref mvt, .ref mvg, .int (o8.2), .int (qm), .ref mvh, .ref mvrk, .ref mvrt, .ref mvrg, .int (qg), .int (qp), .int (qu), .int (ql), .int (qe), .int (qb), .int (qw), .ref mvf, .int (qi), .int (qj), .int (qr), .ref mvq, .ref mvp, .ref mve])), (mvc, .inl (cI, 240, .inl (vc))), (mvh, .inl (cI, 3, .inl (vh))), (mvrk, .inl (cI, 10, .inl ((upd vrk y1.toNatClampNeg y2)))), (mvrt, .inl (cI, 10, .inl (vrt))), (mvrg, .inl (cZ, 10, .inl (vrg)))] H := hP.sub [4, 5, 0, 1, 2, 3] rfl
      have hD : va_D A [(am, .inr (5, [.int (qf), .int (qt), .ref mvs, .ref mvl, .ref mvc, .int (qn), .int (qs), .int (qk), .int (qo), .ref mvk, .ref mvt, .ref mvg, .int (o8.2), .int (qm), .ref mvh, .ref mvrk, .ref mvrt, .ref mvrg, .int (qg), .int (qp), .int (qu), .int (ql), .int (qe), .int (qb), .int (qw), .ref mvf, .int (qi), .int (qj), .int (qr), .ref mvq, .ref mvp, .ref mve])), (mvc, .inl (cI, 240, .inl (vc))), (mvh, .inl (cI, 3, .inl (vh))), (mvrk, .inl (cI, 10, .inl ((upd vrk y1.toNatClampNeg y2)))), (mvrt, .inl (cI, 10, .inl (vrt))), (mvrg, .inl (cZ, 10, .inl (vrg)))] := hD.sub [4, 5, 0, 1, 2, 3] (by decide) rfl
      obtain ⟨g10, hg⟩ := gxo hg
      refine va_iast hx hb hK hP hD hS 4 0 rfl rfl g10 dX5_readFlag_104 (fun H locs hP hD hS => ?_)
      have hP : va_P D vwCl [(am, .inr (5, [.int (qf), .int (qt), .ref mvs, .ref mvl, .ref mvc, .int (qn), .int (qs), .int (qk), .int (qo), .ref mvk, .ref mvt, .ref mvg, .int (o8.2), .int (qm), .ref mvh, .ref mvrk, .ref mvrt, .ref mvrg, .int (qg), .int (qp), .int (qu), .int (ql), .int (qe), .int (qb), .int (qw), .ref mvf, .int (qi), .int (qj), .int (qr), .ref mvq, .ref mvp, .ref mve])), (mvc, .inl (cI, 240, .inl (vc))), (mvh, .inl (cI, 3, .inl (vh))), (mvrk, .inl (cI, 10, .inl ((upd vrk y1.toNatClampNeg y2)))), (mvrt, .inl (cI, 10, .inl ((upd vrt qm.toNatClampNeg o8.1)))), (mvrg, .inl (cZ, 10, .inl (vrg)))] H := hP
      have hD : va_D A [(am, .inr (5, [.int (qf), .int (qt), .ref mvs, .ref mvl, .ref mvc, .int (qn), .int (qs), .int (qk), .int (qo), .ref mvk, .ref mvt, .ref mvg, .int (o8.2), .int (qm), .ref mvh, .ref mvrk, .ref mvrt, .ref mvrg, .int (qg), .int (qp), .int (qu), .int (ql), .int (qe), .int (qb), .int (qw), .ref mvf, .int (qi), .int (qj), .int (qr), .ref mvq, .ref mvp, .ref mve])), (mvc, .inl (cI, 240, .inl (vc))), (mvh, .inl (cI, 3, .inl (vh))), (mvrk, .inl (cI, 10, .inl ((upd vrk y1.toNatClampNeg y2)))), (mvrt, .inl (cI, 10, .inl ((upd vrt qm.toNatClampNeg o8.1)))), (mvrg, .inl (cZ, 10, .inl (vrg)))] := hD
      refine lv_aload_n hx hb dX5_readFlag_105 rfl (lv_at hl 0 rfl) ?_
      refine va_get (D := D) (ci := 5) (v := .ref mvrt) (C := RX5) (T := TX5) (N := 32) hx hb hts inX5 hown hK hP 0 rfl rfl 16 (by decide) (hts (.fieldLink RX5 35 "ScooterFlagsModel" "readTakes" "[I") (by decide +kernel)) (fun _ h9 => h9) rfl dX5_readFlag_106 ?_
      refine lv_aload_n hx hb dX5_readFlag_109 rfl (lv_at hl 0 rfl) ?_
      refine va_get (D := D) (ci := 5) (v := .int (qm)) (C := RX5) (T := TX5) (N := 32) hx hb hts inX5 hown hK hP 0 rfl rfl 13 (by decide) (hts (.fieldLink RX5 96 "ScooterFlagsModel" "readMany" "I") (by decide +kernel)) (fun _ h9 => h9) rfl dX5_readFlag_110 ?_
      obtain ⟨g11, hg⟩ := gxo hg
      refine va_iald hx hb hK hP 4 0 rfl rfl g11 dX5_readFlag_113 ?_
      refine W.eq (g2 := F0 m 114 ls [.int (((upd vrt qm.toNatClampNeg o8.1) qm.toNatClampNeg))]) rfl ?_
      refine lv_bipush (v := (-9 : Int32)) hx hb dX5_readFlag_114 (by decide) ?_
      refine lv_icmp_ne (tgt := 121) hx hb dX5_readFlag_116 (by decide) (fun c12 => ?_) (fun c12 => ?_)
      · have hg := ie hg c12
        refine lv_aload_n hx hb dX5_readFlag_121 rfl (lv_at hl 0 rfl) ?_
        refine va_get (D := D) (ci := 5) (v := .ref mvrg) (C := RX5) (T := TX5) (N := 32) hx hb hts inX5 hown hK hP 0 rfl rfl 17 (by decide) (hts (.fieldLink RX5 38 "ScooterFlagsModel" "readGrated" "[Z") (by decide +kernel)) (fun _ h9 => h9) rfl dX5_readFlag_122 ?_
        refine lv_aload_n hx hb dX5_readFlag_125 rfl (lv_at hl 0 rfl) ?_
        refine va_get (D := D) (ci := 5) (v := .int (qm)) (C := RX5) (T := TX5) (N := 32) hx hb hts inX5 hown hK hP 0 rfl rfl 13 (by decide) (hts (.fieldLink RX5 96 "ScooterFlagsModel" "readMany" "I") (by decide +kernel)) (fun _ h9 => h9) rfl dX5_readFlag_126 ?_
        refine lv_aload_n hx hb dX5_readFlag_129 rfl (lv_at hl 0 rfl) ?_
        refine lv_iload_n hx hb dX5_readFlag_130 rfl (lv_at hl 1 rfl) ?_
        refine lv_bipush (v := (35 : Int32)) hx hb dX5_readFlag_131 (by decide) ?_
        obtain ⟨o13, h14, hg⟩ := bd hg
        refine xcVi (As := [.int (ze), .int ((35 : Int32))]) (rest := [.int (qm), .ref mvrg]) (wc := [(am, .inr (5, [.int (qf), .int (qt), .ref mvs, .ref mvl, .ref mvc, .int (qn), .int (qs), .int (qk), .int (qo), .ref mvk, .ref mvt, .ref mvg, .int (o8.2), .int (qm), .ref mvh, .ref mvrk, .ref mvrt, .ref mvrg, .int (qg), .int (qp), .int (qu), .int (ql), .int (qe), .int (qb), .int (qw), .ref mvf, .int (qi), .int (qj), .int (qr), .ref mvq, .ref mvp, .ref mve])), (mvc, .inl (cI, 240, .inl (vc)))]) (wr := [(mvh, .inl (cI, 3, .inl (vh))), (mvrk, .inl (cI, 10, .inl ((upd vrk y1.toNatClampNeg y2)))), (mvrt, .inl (cI, 10, .inl ((upd vrt qm.toNatClampNeg o8.1)))), (mvrg, .inl (cZ, 10, .inl (vrg)))]) ⟨hx, hb, hml, hown, hts⟩ (c_X5_isSign l D cI cZ cR am mvc mvs mvl mvk mvt mvg mvh mvrk mvrt mvrg mvf mvq mvp mve qf qt qn qs qk qo o8.2 qm qg qp qu ql qe qb qw qi qj qr vc ze (35 : Int32) h14) (cwV 2 hts gX5_readFlag_X5_isSign rfl rfl rfl (by decide +kernel) ⟨Nat.le_of_ble_eq_true rfl, Nat.le_of_ble_eq_true rfl⟩) hK hP hD hS hA [0, 1] [2, 3, 4, 5] rfl rfl (by decide) (by decide) (by decide) (va_recv hK hP (ci := 5) (q0 := 0) rfl rfl) rfl rfl hl.1 (lv_room (Nat.le_of_ble_eq_true rfl)) dX5_readFlag_133 ⟨Nat.le_of_ble_eq_true rfl, Nat.le_of_ble_eq_true rfl⟩ (fun r u H locs hu hP hD hS => ?_)
        obtain ⟨rfl, rfl⟩ := hu
        have hP : va_P D vwCl [(am, .inr (5, [.int (qf), .int (qt), .ref mvs, .ref mvl, .ref mvc, .int (qn), .int (qs), .int (qk), .int (qo), .ref mvk, .ref mvt, .ref mvg, .int (o13.2), .int (qm), .ref mvh, .ref mvrk, .ref mvrt, .ref mvrg, .int (qg), .int (qp), .int (qu), .int (ql), .int (qe), .int (qb), .int (qw), .ref mvf, .int (qi), .int (qj), .int (qr), .ref mvq, .ref mvp, .ref mve])), (mvc, .inl (cI, 240, .inl (vc))), (mvh, .inl (cI, 3, .inl (vh))), (mvrk, .inl (cI, 10, .inl ((upd vrk y1.toNatClampNeg y2)))), (mvrt, .inl (cI, 10, .inl ((upd vrt qm.toNatClampNeg o8.1)))), (mvrg, .inl (cZ, 10, .inl (vrg)))] H := hP.sub [4, 5, 0, 1, 2, 3] rfl
        have hD : va_D A [(am, .inr (5, [.int (qf), .int (qt), .ref mvs, .ref mvl, .ref mvc, .int (qn), .int (qs), .int (qk), .int (qo), .ref mvk, .ref mvt, .ref mvg, .int (o13.2), .int (qm), .ref mvh, .ref mvrk, .ref mvrt, .ref mvrg, .int (qg), .int (qp), .int (qu), .int (ql), .int (qe), .int (qb), .int (qw), .ref mvf, .int (qi), .int (qj), .int (qr), .ref mvq, .ref mvp, .ref mve])), (mvc, .inl (cI, 240, .inl (vc))), (mvh, .inl (cI, 3, .inl (vh))), (mvrk, .inl (cI, 10, .inl ((upd vrk y1.toNatClampNeg y2)))), (mvrt, .inl (cI, 10, .inl ((upd vrt qm.toNatClampNeg o8.1)))), (mvrg, .inl (cZ, 10, .inl (vrg)))] := hD.sub [4, 5, 0, 1, 2, 3] (by decide) rfl
        obtain ⟨g15, hg⟩ := gxo hg
        obtain ⟨g16, hg⟩ := gdo hg
        refine va_zast hx hb hK hP hD hS 5 1 rfl rfl g15 dX5_readFlag_136 (fun H locs hP hD hS => ?_)
        rw [zbv g16] at hP hD
        have hP : va_P D vwCl [(am, .inr (5, [.int (qf), .int (qt), .ref mvs, .ref mvl, .ref mvc, .int (qn), .int (qs), .int (qk), .int (qo), .ref mvk, .ref mvt, .ref mvg, .int (o13.2), .int (qm), .ref mvh, .ref mvrk, .ref mvrt, .ref mvrg, .int (qg), .int (qp), .int (qu), .int (ql), .int (qe), .int (qb), .int (qw), .ref mvf, .int (qi), .int (qj), .int (qr), .ref mvq, .ref mvp, .ref mve])), (mvc, .inl (cI, 240, .inl (vc))), (mvh, .inl (cI, 3, .inl (vh))), (mvrk, .inl (cI, 10, .inl ((upd vrk y1.toNatClampNeg y2)))), (mvrt, .inl (cI, 10, .inl ((upd vrt qm.toNatClampNeg o8.1)))), (mvrg, .inl (cZ, 10, .inl ((upd vrg qm.toNatClampNeg o13.1))))] H := hP
        have hD : va_D A [(am, .inr (5, [.int (qf), .int (qt), .ref mvs, .ref mvl, .ref mvc, .int (qn), .int (qs), .int (qk), .int (qo), .ref mvk, .ref mvt, .ref mvg, .int (o13.2), .int (qm), .ref mvh, .ref mvrk, .ref mvrt, .ref mvrg, .int (qg), .int (qp), .int (qu), .int (ql), .int (qe), .int (qb), .int (qw), .ref mvf, .int (qi), .int (qj), .int (qr), .ref mvq, .ref mvp, .ref mve])), (mvc, .inl (cI, 240, .inl (vc))), (mvh, .inl (cI, 3, .inl (vh))), (mvrk, .inl (cI, 10, .inl ((upd vrk y1.toNatClampNeg y2)))), (mvrt, .inl (cI, 10, .inl ((upd vrt qm.toNatClampNeg o8.1)))), (mvrg, .inl (cZ, 10, .inl ((upd vrg qm.toNatClampNeg o13.1))))] := hD
        refine lv_aload_n hx hb dX5_readFlag_137 rfl (lv_at hl 0 rfl) ?_
        refine lv_dup hx hb dX5_readFlag_138 rfl ?_
        refine va_get (D := D) (ci := 5) (v := .int (qm)) (C := RX5) (T := TX5) (N := 32) hx hb hts inX5 hown hK hP 0 rfl rfl 13 (by decide) (hts (.fieldLink RX5 96 "ScooterFlagsModel" "readMany" "I") (by decide +kernel)) (fun _ h9 => h9) rfl dX5_readFlag_139 ?_
        refine lv_iconst (v := (1 : Int32)) hx hb dX5_readFlag_142 (by decide) ?_
        refine lv_iadd hx hb dX5_readFlag_143 ?_
        refine va_put (D := D) (ci := 5) (v := .int ((qm + (1 : Int32)))) (ty := .int) (C := RX5) (T := TX5) (N := 32) hx hb hts inX5 tyX5 tyX5_ok nmX5 hown hK hP hD hS 0 rfl rfl 13 (by decide) (hts (.fieldLink RX5 96 "ScooterFlagsModel" "readMany" "I") (by decide +kernel)) (fun _ h9 => h9) rfl (by decide +kernel) rfl rfl (Nat.le_of_ble_eq_true rfl) dX5_readFlag_144 (fun H locs hP hD hS => ?_)
        have hP : va_P D vwCl [(am, .inr (5, [.int (qf), .int (qt), .ref mvs, .ref mvl, .ref mvc, .int (qn), .int (qs), .int (qk), .int (qo), .ref mvk, .ref mvt, .ref mvg, .int (o13.2), .int ((qm + (1 : Int32))), .ref mvh, .ref mvrk, .ref mvrt, .ref mvrg, .int (qg), .int (qp), .int (qu), .int (ql), .int (qe), .int (qb), .int (qw), .ref mvf, .int (qi), .int (qj), .int (qr), .ref mvq, .ref mvp, .ref mve])), (mvc, .inl (cI, 240, .inl (vc))), (mvh, .inl (cI, 3, .inl (vh))), (mvrk, .inl (cI, 10, .inl ((upd vrk y1.toNatClampNeg y2)))), (mvrt, .inl (cI, 10, .inl ((upd vrt qm.toNatClampNeg o8.1)))), (mvrg, .inl (cZ, 10, .inl ((upd vrg qm.toNatClampNeg o13.1))))] H := hP
        have hD : va_D A [(am, .inr (5, [.int (qf), .int (qt), .ref mvs, .ref mvl, .ref mvc, .int (qn), .int (qs), .int (qk), .int (qo), .ref mvk, .ref mvt, .ref mvg, .int (o13.2), .int ((qm + (1 : Int32))), .ref mvh, .ref mvrk, .ref mvrt, .ref mvrg, .int (qg), .int (qp), .int (qu), .int (ql), .int (qe), .int (qb), .int (qw), .ref mvf, .int (qi), .int (qj), .int (qr), .ref mvq, .ref mvp, .ref mve])), (mvc, .inl (cI, 240, .inl (vc))), (mvh, .inl (cI, 3, .inl (vh))), (mvrk, .inl (cI, 10, .inl ((upd vrk y1.toNatClampNeg y2)))), (mvrt, .inl (cI, 10, .inl ((upd vrt qm.toNatClampNeg o8.1)))), (mvrg, .inl (cZ, 10, .inl ((upd vrg qm.toNatClampNeg o13.1))))] := hD
        refine lv_iconst (v := (1 : Int32)) hx hb dX5_readFlag_147 (by decide) ?_
        obtain rfl := Option.some.inj hg
        exact rtz hQ hx hb hr rfl hlocks hK hP hD hS dX5_readFlag_148 ⟨rfl, rfl⟩
      · have hg := it hg c12
        refine lv_iconst (v := (0 : Int32)) hx hb dX5_readFlag_119 (by decide) ?_
        obtain rfl := Option.some.inj hg
        exact rtz hQ hx hb hr rfl hlocks hK hP hD hS dX5_readFlag_120 ⟨rfl, rfl⟩
    · have hg := it hg c7
      refine lv_iconst (v := (0 : Int32)) hx hb dX5_readFlag_77 (by decide) ?_
      obtain rfl := Option.some.inj hg
      exact rtz hQ hx hb hr rfl hlocks hK hP hD hS dX5_readFlag_78 ⟨rfl, rfl⟩
  have bk_21 : ∀ (y0 : Int32) (qa : Int32) (qm : Int32) (vrk : Nat → Int32) (vrt : Nat → Int32) (vrg : Nat → Int32), f_X5_readFlag_21 vc ze y0 qa qm vrk vrt vrg = some res → ∀ (H : Heap) (locs : List Loc), va_P D vwCl [(am, .inr (5, [.int (qf), .int (qt), .ref mvs, .ref mvl, .ref mvc, .int (qn), .int (qs), .int (qk), .int (qo), .ref mvk, .ref mvt, .ref mvg, .int (qa), .int (qm), .ref mvh, .ref mvrk, .ref mvrt, .ref mvrg, .int (qg), .int (qp), .int (qu), .int (ql), .int (qe), .int (qb), .int (qw), .ref mvf, .int (qi), .int (qj), .int (qr), .ref mvq, .ref mvp, .ref mve])), (mvc, .inl (cI, 240, .inl (vc))), (mvh, .inl (cI, 3, .inl (vh))), (mvrk, .inl (cI, 10, .inl (vrk))), (mvrt, .inl (cI, 10, .inl (vrt))), (mvrg, .inl (cZ, 10, .inl (vrg)))] H → va_D A [(am, .inr (5, [.int (qf), .int (qt), .ref mvs, .ref mvl, .ref mvc, .int (qn), .int (qs), .int (qk), .int (qo), .ref mvk, .ref mvt, .ref mvg, .int (qa), .int (qm), .ref mvh, .ref mvrk, .ref mvrt, .ref mvrg, .int (qg), .int (qp), .int (qu), .int (ql), .int (qe), .int (qb), .int (qw), .ref mvf, .int (qi), .int (qj), .int (qr), .ref mvq, .ref mvp, .ref mve])), (mvc, .inl (cI, 240, .inl (vc))), (mvh, .inl (cI, 3, .inl (vh))), (mvrk, .inl (cI, 10, .inl (vrk))), (mvrt, .inl (cI, 10, .inl (vrt))), (mvrg, .inl (cZ, 10, .inl (vrg)))] → va_S A s.heap H locs → ∀ (ls : Array Slot), lv_has ls 3 [(0, .ref am), (1, .int (ze))] → W p l e ({ frames := 2, cells := 0, slots := 0, locals := 45 }) s m args below meth c H locs 0 0 Q (F0 m 21 ls [.int (y0)]) := by
    intro y0 qa qm vrk vrt vrg hg H locs hP hD hS ls hl
    rw [f_X5_readFlag_21] at hg
    refine lv_istore_n (lv' := [(2, .int (y0)), (0, .ref am), (1, .int (ze))]) hx hb dX5_readFlag_21 rfl hl (by decide) rfl (fun ls hl => ?_)
    refine lv_aload_n hx hb dX5_readFlag_22 rfl (lv_at hl 1 rfl) ?_
    refine va_get (D := D) (ci := 5) (v := .ref mvrk) (C := RX5) (T := TX5) (N := 32) hx hb hts inX5 hown hK hP 0 rfl rfl 15 (by decide) (hts (.fieldLink RX5 32 "ScooterFlagsModel" "readKind" "[I") (by decide +kernel)) (fun _ h9 => h9) rfl dX5_readFlag_23 ?_
    refine lv_aload_n hx hb dX5_readFlag_26 rfl (lv_at hl 1 rfl) ?_
    refine va_get (D := D) (ci := 5) (v := .int (qm)) (C := RX5) (T := TX5) (N := 32) hx hb hts inX5 hown hK hP 0 rfl rfl 13 (by decide) (hts (.fieldLink RX5 96 "ScooterFlagsModel" "readMany" "I") (by decide +kernel)) (fun _ h9 => h9) rfl dX5_readFlag_27 ?_
    refine lv_iload_n hx hb dX5_readFlag_30 rfl (lv_at hl 0 rfl) ?_
    refine lv_bipush (v := (102 : Int32)) hx hb dX5_readFlag_31 (by decide) ?_
    refine lv_icmp_ne (tgt := 40) hx hb dX5_readFlag_33 (by decide) (fun c2 => ?_) (fun c2 => ?_)
    · have hg := ie hg c2
      refine lv_iload_n hx hb dX5_readFlag_40 rfl (lv_at hl 0 rfl) ?_
      refine lv_bipush (v := (104 : Int32)) hx hb dX5_readFlag_41 (by decide) ?_
      refine lv_icmp_ne (tgt := 50) hx hb dX5_readFlag_43 (by decide) (fun c3 => ?_) (fun c3 => ?_)
      · have hg := ie hg c3
        refine lv_iload_n hx hb dX5_readFlag_50 rfl (lv_at hl 0 rfl) ?_
        refine lv_bipush (v := (119 : Int32)) hx hb dX5_readFlag_51 (by decide) ?_
        refine lv_icmp_ne (tgt := 60) hx hb dX5_readFlag_53 (by decide) (fun c4 => ?_) (fun c4 => ?_)
        · have hg := ie hg c4
          refine lv_bipush (v := (-9 : Int32)) hx hb dX5_readFlag_60 (by decide) ?_
          exact bk_62 qm (-9 : Int32) qa qm vrk vrt vrg hg _ _ hP hD hS _ (lv_sub hl [1, 2] rfl)
        · have hg := it hg c4
          refine lv_iconst (v := (2 : Int32)) hx hb dX5_readFlag_56 (by decide) ?_
          refine lv_goto (tgt := 62) hx hb dX5_readFlag_57 (by decide) ?_
          exact bk_62 qm (2 : Int32) qa qm vrk vrt vrg hg _ _ hP hD hS _ (lv_sub hl [1, 2] rfl)
      · have hg := it hg c3
        refine lv_iconst (v := (1 : Int32)) hx hb dX5_readFlag_46 (by decide) ?_
        refine lv_goto (tgt := 62) hx hb dX5_readFlag_47 (by decide) ?_
        exact bk_62 qm (1 : Int32) qa qm vrk vrt vrg hg _ _ hP hD hS _ (lv_sub hl [1, 2] rfl)
    · have hg := it hg c2
      refine lv_iconst (v := (0 : Int32)) hx hb dX5_readFlag_36 (by decide) ?_
      refine lv_goto (tgt := 62) hx hb dX5_readFlag_37 (by decide) ?_
      exact bk_62 qm (0 : Int32) qa qm vrk vrt vrg hg _ _ hP hD hS _ (lv_sub hl [1, 2] rfl)
  have hl : lv_has ls 3 [(0, .ref am), (1, .int (ze))] := hl
  rw [f_X5_readFlag] at hg
  refine lv_aload_n hx hb dX5_readFlag_0 rfl (lv_at hl 0 rfl) ?_
  refine va_get (D := D) (ci := 5) (v := .int (qa)) (C := RX5) (T := TX5) (N := 32) hx hb hts inX5 hown hK hP 0 rfl rfl 12 (by decide) (hts (.fieldLink RX5 66 "ScooterFlagsModel" "at" "I") (by decide +kernel)) (fun _ h9 => h9) rfl dX5_readFlag_1 ?_
  refine lv_iload_n hx hb dX5_readFlag_4 rfl (lv_at hl 1 rfl) ?_
  refine lv_icmp_ge (tgt := 20) hx hb dX5_readFlag_5 (by decide) (fun c1 => ?_) (fun c1 => ?_)
  · have hg := it hg c1
    refine lv_iconst (v := (0 : Int32)) hx hb dX5_readFlag_20 (by decide) ?_
    exact bk_21 (0 : Int32) qa qm vrk vrt vrg hg _ _ hP hD hS _ (lv_sub hl [0, 1] rfl)
  · have hg := ie hg c1
    refine lv_aload_n hx hb dX5_readFlag_8 rfl (lv_at hl 0 rfl) ?_
    refine va_get (D := D) (ci := 5) (v := .ref mvc) (C := RX5) (T := TX5) (N := 32) hx hb hts inX5 hown hK hP 0 rfl rfl 4 (by decide) (hts (.fieldLink RX5 16 "ScooterFlagsModel" "cells" "[I") (by decide +kernel)) (fun _ h9 => h9) rfl dX5_readFlag_9 ?_
    refine lv_aload_n hx hb dX5_readFlag_12 rfl (lv_at hl 0 rfl) ?_
    refine va_get (D := D) (ci := 5) (v := .int (qa)) (C := RX5) (T := TX5) (N := 32) hx hb hts inX5 hown hK hP 0 rfl rfl 12 (by decide) (hts (.fieldLink RX5 66 "ScooterFlagsModel" "at" "I") (by decide +kernel)) (fun _ h9 => h9) rfl dX5_readFlag_13 ?_
    obtain ⟨g17, hg⟩ := gxo hg
    refine va_iald hx hb hK hP 1 0 rfl rfl g17 dX5_readFlag_16 ?_
    refine W.eq (g2 := F0 m 17 ls [.int ((vc qa.toNatClampNeg))]) rfl ?_
    refine lv_goto (tgt := 21) hx hb dX5_readFlag_17 (by decide) ?_
    exact bk_21 (vc qa.toNatClampNeg) qa qm vrk vrt vrg hg _ _ hP hD hS _ (lv_sub hl [0, 1] rfl)
def f_X5_readStreet_L19 (vc : Nat → Int32) (ze : Int32) (k74 : Int32 → Int32 → (Nat → Int32) → (Nat → Int32) → (Nat → Int32) → (Nat → Int32) → Option (Int32 × Int32 × Int32 × (Nat → Int32) × (Nat → Int32) × (Nat → Int32) × (Nat → Int32))) (k82 : Int32 → Int32 → (Nat → Int32) → (Nat → Int32) → (Nat → Int32) → (Nat → Int32) → Option (Int32 × Int32 × Int32 × (Nat → Int32) × (Nat → Int32) × (Nat → Int32) × (Nat → Int32))) : Nat → Int32 → Int32 → Int32 → (Nat → Int32) → (Nat → Int32) → (Nat → Int32) → (Nat → Int32) → Option (Int32 × Int32 × Int32 × (Nat → Int32) × (Nat → Int32) × (Nat → Int32) × (Nat → Int32))
  | 0, _, _, _, _, _, _, _ => none
  | n + 1, x2, qa, qm, vh, vrk, vrt, vrg => if (3 : Int32) ≤ x2 then (k82 qa qm vh vrk vrt vrg) else (if x2 = (2 : Int32) then (if x2 = 0 then ((f_X5_digit qa vc ze (0 : Int32) (4 : Int32)).bind (fun o35 => gx x2 3 (gx x2 3 (if ((upd vh x2.toNatClampNeg o35.1) x2.toNatClampNeg) = (-9 : Int32) then (k74 o35.2 qm (upd vh x2.toNatClampNeg o35.1) vrk vrt vrg) else (f_X5_readStreet_L19 vc ze k74 k82 n (x2 + (1 : Int32)) o35.2 qm (upd vh x2.toNatClampNeg o35.1) vrk vrt vrg))))) else (if x2 = (1 : Int32) then ((f_X5_digit qa vc ze (0 : Int32) (3 : Int32)).bind (fun o30 => gx x2 3 (gx x2 3 (if ((upd vh x2.toNatClampNeg o30.1) x2.toNatClampNeg) = (-9 : Int32) then (k74 o30.2 qm (upd vh x2.toNatClampNeg o30.1) vrk vrt vrg) else (f_X5_readStreet_L19 vc ze k74 k82 n (x2 + (1 : Int32)) o30.2 qm (upd vh x2.toNatClampNeg o30.1) vrk vrt vrg))))) else ((f_X5_digit qa vc ze (0 : Int32) (2 : Int32)).bind (fun o25 => gx x2 3 (gx x2 3 (if ((upd vh x2.toNatClampNeg o25.1) x2.toNatClampNeg) = (-9 : Int32) then (k74 o25.2 qm (upd vh x2.toNatClampNeg o25.1) vrk vrt vrg) else (f_X5_readStreet_L19 vc ze k74 k82 n (x2 + (1 : Int32)) o25.2 qm (upd vh x2.toNatClampNeg o25.1) vrk vrt vrg))))))) else (if x2 = 0 then ((f_X5_digit qa vc ze (1 : Int32) (4 : Int32)).bind (fun o18 => gx x2 3 (gx x2 3 (if ((upd vh x2.toNatClampNeg o18.1) x2.toNatClampNeg) = (-9 : Int32) then (k74 o18.2 qm (upd vh x2.toNatClampNeg o18.1) vrk vrt vrg) else (f_X5_readStreet_L19 vc ze k74 k82 n (x2 + (1 : Int32)) o18.2 qm (upd vh x2.toNatClampNeg o18.1) vrk vrt vrg))))) else (if x2 = (1 : Int32) then ((f_X5_digit qa vc ze (1 : Int32) (3 : Int32)).bind (fun o13 => gx x2 3 (gx x2 3 (if ((upd vh x2.toNatClampNeg o13.1) x2.toNatClampNeg) = (-9 : Int32) then (k74 o13.2 qm (upd vh x2.toNatClampNeg o13.1) vrk vrt vrg) else (f_X5_readStreet_L19 vc ze k74 k82 n (x2 + (1 : Int32)) o13.2 qm (upd vh x2.toNatClampNeg o13.1) vrk vrt vrg))))) else ((f_X5_digit qa vc ze (1 : Int32) (2 : Int32)).bind (fun o8 => gx x2 3 (gx x2 3 (if ((upd vh x2.toNatClampNeg o8.1) x2.toNatClampNeg) = (-9 : Int32) then (k74 o8.2 qm (upd vh x2.toNatClampNeg o8.1) vrk vrt vrg) else (f_X5_readStreet_L19 vc ze k74 k82 n (x2 + (1 : Int32)) o8.2 qm (upd vh x2.toNatClampNeg o8.1) vrk vrt vrg))))))))
def f_X5_readStreet_L82 (vc : Nat → Int32) (ze : Int32) (k115 : Int32 → Int32 → (Nat → Int32) → (Nat → Int32) → (Nat → Int32) → (Nat → Int32) → Option (Int32 × Int32 × Int32 × (Nat → Int32) × (Nat → Int32) × (Nat → Int32) × (Nat → Int32))) (k117 : Int32 → Int32 → (Nat → Int32) → (Nat → Int32) → (Nat → Int32) → (Nat → Int32) → Option (Int32 × Int32 × Int32 × (Nat → Int32) × (Nat → Int32) × (Nat → Int32) × (Nat → Int32))) : Nat → Int32 → Int32 → (Nat → Int32) → (Nat → Int32) → (Nat → Int32) → (Nat → Int32) → Option (Int32 × Int32 × Int32 × (Nat → Int32) × (Nat → Int32) × (Nat → Int32) × (Nat → Int32))
  | 0, _, _, _, _, _, _ => none
  | n + 1, qa, qm, vh, vrk, vrt, vrg => if qm < (2 : Int32) then ((f_X5_readFlag qa qm vc vrk vrt vrg ze).bind (fun o41 => if o41.1 = 0 then (k115 o41.2.1 o41.2.2.1 vh o41.2.2.2.1 o41.2.2.2.2.1 o41.2.2.2.2.2) else (f_X5_readStreet_L82 vc ze k115 k117 n o41.2.1 o41.2.2.1 vh o41.2.2.2.1 o41.2.2.2.2.1 o41.2.2.2.2.2))) else (if (10 : Int32) ≤ qm then (k117 qa qm vh vrk vrt vrg) else (if ze ≤ qa then (k117 qa qm vh vrk vrt vrg) else ((f_X5_readFlag qa qm vc vrk vrt vrg ze).bind (fun o46 => if o46.1 = 0 then (k115 o46.2.1 o46.2.2.1 vh o46.2.2.2.1 o46.2.2.2.2.1 o46.2.2.2.2.2) else (f_X5_readStreet_L82 vc ze k115 k117 n o46.2.1 o46.2.2.1 vh o46.2.2.2.1 o46.2.2.2.2.1 o46.2.2.2.2.2)))))
def f_X5_readStreet (qa : Int32) (qm : Int32) (vc : Nat → Int32) (vh : Nat → Int32) (vrk : Nat → Int32) (vrt : Nat → Int32) (vrg : Nat → Int32) (ze : Int32) : Option (Int32 × Int32 × Int32 × (Nat → Int32) × (Nat → Int32) × (Nat → Int32) × (Nat → Int32)) :=
  (f_X5_isSign qa vc ze (115 : Int32)).bind (fun o1 => if o1.1 = 0 then (some ((0 : Int32), o1.2, (0 : Int32), vh, vrk, vrt, vrg)) else (f_X5_readStreet_L19 vc ze (fun (qa : Int32) (qm : Int32) (vh : Nat → Int32) (vrk : Nat → Int32) (vrt : Nat → Int32) (vrg : Nat → Int32) => some ((0 : Int32), qa, qm, vh, vrk, vrt, vrg)) (fun (qa : Int32) (qm : Int32) (vh : Nat → Int32) (vrk : Nat → Int32) (vrt : Nat → Int32) (vrg : Nat → Int32) => f_X5_readStreet_L82 vc ze (fun (qa : Int32) (qm : Int32) (vh : Nat → Int32) (vrk : Nat → Int32) (vrt : Nat → Int32) (vrg : Nat → Int32) => some ((0 : Int32), qa, qm, vh, vrk, vrt, vrg)) (fun (qa : Int32) (qm : Int32) (vh : Nat → Int32) (vrk : Nat → Int32) (vrt : Nat → Int32) (vrg : Nat → Int32) => if qa = ze then (some ((1 : Int32), qa, qm, vh, vrk, vrt, vrg)) else (some ((0 : Int32), qa, qm, vh, vrk, vrt, vrg))) 100 qa qm vh vrk vrt vrg) 100 (0 : Int32) o1.2 (0 : Int32) vh vrk vrt vrg))
set_option maxHeartbeats 4000000 in
set_option maxRecDepth 100000 in
theorem c_X5_readStreet (l : Launch) (D : va_G) (cI cZ cR : ClassId) (am : Nat) (mvc : Nat) (mvh : Nat) (mvrk : Nat) (mvrt : Nat) (mvrg : Nat) (mvs : Nat) (mvl : Nat) (mvk : Nat) (mvt : Nat) (mvg : Nat) (mvf : Nat) (mvq : Nat) (mvp : Nat) (mve : Nat) (qf : Int32) (qt : Int32) (qn : Int32) (qs : Int32) (qk : Int32) (qo : Int32) (qa : Int32) (qm : Int32) (qg : Int32) (qp : Int32) (qu : Int32) (ql : Int32) (qe : Int32) (qb : Int32) (qw : Int32) (qi : Int32) (qj : Int32) (qr : Int32) (vc : Nat → Int32) (vh : Nat → Int32) (vrk : Nat → Int32) (vrt : Nat → Int32) (vrg : Nat → Int32) (ze : Int32) {res : Int32 × Int32 × Int32 × (Nat → Int32) × (Nat → Int32) × (Nat → Int32) × (Nat → Int32)} (hg : f_X5_readStreet qa qm vc vh vrk vrt vrg ze = some res) : MI l yX5_readStreet wsX5_readStreet ({ frames := 3, cells := 0, slots := 0, locals := 67 }) D (T3 cI cZ cR) [(am, .inr (5, [.int (qf), .int (qt), .ref mvs, .ref mvl, .ref mvc, .int (qn), .int (qs), .int (qk), .int (qo), .ref mvk, .ref mvt, .ref mvg, .int (qa), .int (qm), .ref mvh, .ref mvrk, .ref mvrt, .ref mvrg, .int (qg), .int (qp), .int (qu), .int (ql), .int (qe), .int (qb), .int (qw), .ref mvf, .int (qi), .int (qj), .int (qr), .ref mvq, .ref mvp, .ref mve])), (mvc, .inl (cI, 240, .inl (vc))), (mvh, .inl (cI, 3, .inl (vh))), (mvrk, .inl (cI, 10, .inl (vrk))), (mvrt, .inl (cI, 10, .inl (vrt))), (mvrg, .inl (cZ, 10, .inl (vrg)))] [.ref am, .int (ze)] (fun r u => res.1 = r ∧ u = [(am, .inr (5, [.int (qf), .int (qt), .ref mvs, .ref mvl, .ref mvc, .int (qn), .int (qs), .int (qk), .int (qo), .ref mvk, .ref mvt, .ref mvg, .int (res.2.1), .int (res.2.2.1), .ref mvh, .ref mvrk, .ref mvrt, .ref mvrg, .int (qg), .int (qp), .int (qu), .int (ql), .int (qe), .int (qb), .int (qw), .ref mvf, .int (qi), .int (qj), .int (qr), .ref mvq, .ref mvp, .ref mve])), (mvc, .inl (cI, 240, .inl (vc))), (mvh, .inl (cI, 3, .inl (res.2.2.2.1))), (mvrk, .inl (cI, 10, .inl (res.2.2.2.2.1))), (mvrt, .inl (cI, 10, .inl (res.2.2.2.2.2.1))), (mvrg, .inl (cZ, 10, .inl (res.2.2.2.2.2.2)))]) := by
  refine entI (Rn := RX5) (by decide +kernel) rfl rfl (Nat.le_of_ble_eq_true rfl) (fun p e s m args below meth c A Q hx hb hr hml hts hown hlocks hA hP hD hK hS ls hl hQ => ?_)
  have inX5 : ∀ w ∈ u_ws RX5 TX5 32, w ∈ wsX5_readStreet := by decide +kernel
  have lp_19 : ∀ (k74 : Int32 → Int32 → (Nat → Int32) → (Nat → Int32) → (Nat → Int32) → (Nat → Int32) → Option (Int32 × Int32 × Int32 × (Nat → Int32) × (Nat → Int32) × (Nat → Int32) × (Nat → Int32))) (k82 : Int32 → Int32 → (Nat → Int32) → (Nat → Int32) → (Nat → Int32) → (Nat → Int32) → Option (Int32 × Int32 × Int32 × (Nat → Int32) × (Nat → Int32) × (Nat → Int32) × (Nat → Int32))) (hk74 : ∀ (qa : Int32) (qm : Int32) (vh : Nat → Int32) (vrk : Nat → Int32) (vrt : Nat → Int32) (vrg : Nat → Int32), k74 qa qm vh vrk vrt vrg = some res → ∀ (H : Heap) (locs : List Loc), va_P D vwCl [(am, .inr (5, [.int (qf), .int (qt), .ref mvs, .ref mvl, .ref mvc, .int (qn), .int (qs), .int (qk), .int (qo), .ref mvk, .ref mvt, .ref mvg, .int (qa), .int (qm), .ref mvh, .ref mvrk, .ref mvrt, .ref mvrg, .int (qg), .int (qp), .int (qu), .int (ql), .int (qe), .int (qb), .int (qw), .ref mvf, .int (qi), .int (qj), .int (qr), .ref mvq, .ref mvp, .ref mve])), (mvc, .inl (cI, 240, .inl (vc))), (mvh, .inl (cI, 3, .inl (vh))), (mvrk, .inl (cI, 10, .inl (vrk))), (mvrt, .inl (cI, 10, .inl (vrt))), (mvrg, .inl (cZ, 10, .inl (vrg)))] H → va_D A [(am, .inr (5, [.int (qf), .int (qt), .ref mvs, .ref mvl, .ref mvc, .int (qn), .int (qs), .int (qk), .int (qo), .ref mvk, .ref mvt, .ref mvg, .int (qa), .int (qm), .ref mvh, .ref mvrk, .ref mvrt, .ref mvrg, .int (qg), .int (qp), .int (qu), .int (ql), .int (qe), .int (qb), .int (qw), .ref mvf, .int (qi), .int (qj), .int (qr), .ref mvq, .ref mvp, .ref mve])), (mvc, .inl (cI, 240, .inl (vc))), (mvh, .inl (cI, 3, .inl (vh))), (mvrk, .inl (cI, 10, .inl (vrk))), (mvrt, .inl (cI, 10, .inl (vrt))), (mvrg, .inl (cZ, 10, .inl (vrg)))] → va_S A s.heap H locs → ∀ (ls : Array Slot), lv_has ls 3 [] → W p l e ({ frames := 3, cells := 0, slots := 0, locals := 67 }) s m args below meth c H locs 0 0 Q (F0 m 74 ls [])) (hk82 : ∀ (qa : Int32) (qm : Int32) (vh : Nat → Int32) (vrk : Nat → Int32) (vrt : Nat → Int32) (vrg : Nat → Int32), k82 qa qm vh vrk vrt vrg = some res → ∀ (H : Heap) (locs : List Loc), va_P D vwCl [(am, .inr (5, [.int (qf), .int (qt), .ref mvs, .ref mvl, .ref mvc, .int (qn), .int (qs), .int (qk), .int (qo), .ref mvk, .ref mvt, .ref mvg, .int (qa), .int (qm), .ref mvh, .ref mvrk, .ref mvrt, .ref mvrg, .int (qg), .int (qp), .int (qu), .int (ql), .int (qe), .int (qb), .int (qw), .ref mvf, .int (qi), .int (qj), .int (qr), .ref mvq, .ref mvp, .ref mve])), (mvc, .inl (cI, 240, .inl (vc))), (mvh, .inl (cI, 3, .inl (vh))), (mvrk, .inl (cI, 10, .inl (vrk))), (mvrt, .inl (cI, 10, .inl (vrt))), (mvrg, .inl (cZ, 10, .inl (vrg)))] H → va_D A [(am, .inr (5, [.int (qf), .int (qt), .ref mvs, .ref mvl, .ref mvc, .int (qn), .int (qs), .int (qk), .int (qo), .ref mvk, .ref mvt, .ref mvg, .int (qa), .int (qm), .ref mvh, .ref mvrk, .ref mvrt, .ref mvrg, .int (qg), .int (qp), .int (qu), .int (ql), .int (qe), .int (qb), .int (qw), .ref mvf, .int (qi), .int (qj), .int (qr), .ref mvq, .ref mvp, .ref mve])), (mvc, .inl (cI, 240, .inl (vc))), (mvh, .inl (cI, 3, .inl (vh))), (mvrk, .inl (cI, 10, .inl (vrk))), (mvrt, .inl (cI, 10, .inl (vrt))), (mvrg, .inl (cZ, 10, .inl (vrg)))] → va_S A s.heap H locs → ∀ (ls : Array Slot), lv_has ls 3 [(0, .ref am), (1, .int (ze))] → W p l e ({ frames := 3, cells := 0, slots := 0, locals := 67 }) s m args below meth c H locs 0 0 Q (F0 m 82 ls [])) (n : Nat) (x2 : Int32) (qa : Int32) (qm : Int32) (vh : Nat → Int32) (vrk : Nat → Int32) (vrt : Nat → Int32) (vrg : Nat → Int32), f_X5_readStreet_L19 vc ze k74 k82 n x2 qa qm vh vrk vrt vrg = some res → ∀ (H : Heap) (locs : List Loc), va_P D vwCl [(am, .inr (5, [.int (qf), .int (qt), .ref mvs, .ref mvl, .ref mvc, .int (qn), .int (qs), .int (qk), .int (qo), .ref mvk, .ref mvt, .ref mvg, .int (qa), .int (qm), .ref mvh, .ref mvrk, .ref mvrt, .ref mvrg, .int (qg), .int (qp), .int (qu), .int (ql), .int (qe), .int (qb), .int (qw), .ref mvf, .int (qi), .int (qj), .int (qr), .ref mvq, .ref mvp, .ref mve])), (mvc, .inl (cI, 240, .inl (vc))), (mvh, .inl (cI, 3, .inl (vh))), (mvrk, .inl (cI, 10, .inl (vrk))), (mvrt, .inl (cI, 10, .inl (vrt))), (mvrg, .inl (cZ, 10, .inl (vrg)))] H → va_D A [(am, .inr (5, [.int (qf), .int (qt), .ref mvs, .ref mvl, .ref mvc, .int (qn), .int (qs), .int (qk), .int (qo), .ref mvk, .ref mvt, .ref mvg, .int (qa), .int (qm), .ref mvh, .ref mvrk, .ref mvrt, .ref mvrg, .int (qg), .int (qp), .int (qu), .int (ql), .int (qe), .int (qb), .int (qw), .ref mvf, .int (qi), .int (qj), .int (qr), .ref mvq, .ref mvp, .ref mve])), (mvc, .inl (cI, 240, .inl (vc))), (mvh, .inl (cI, 3, .inl (vh))), (mvrk, .inl (cI, 10, .inl (vrk))), (mvrt, .inl (cI, 10, .inl (vrt))), (mvrg, .inl (cZ, 10, .inl (vrg)))] → va_S A s.heap H locs → ∀ (ls : Array Slot), lv_has ls 3 [(0, .ref am), (1, .int (ze)), (2, .int (x2))] → W p l e ({ frames := 3, cells := 0, slots := 0, locals := 67 }) s m args below meth c H locs 0 0 Q (F0 m 19 ls []) := by
    intro k74 k82 hk74 hk82 n
    induction n with
    | zero => intro x2 qa qm vh vrk vrt vrg hg; rw [f_X5_readStreet_L19] at hg; cases hg
    | succ n ih =>
      intro x2 qa qm vh vrk vrt vrg hg H locs hP hD hS ls hl
      rw [f_X5_readStreet_L19] at hg
      refine lv_iload_n hx hb dX5_readStreet_19 rfl (lv_at hl 2 rfl) ?_
      refine lv_iconst (v := (3 : Int32)) hx hb dX5_readStreet_20 (by decide) ?_
      refine lv_icmp_ge (tgt := 82) hx hb dX5_readStreet_21 (by decide) (fun c4 => ?_) (fun c4 => ?_)
      · have hg := it hg c4
        exact hk82 qa qm vh vrk vrt vrg hg _ _ hP hD hS _ (lv_sub hl [0, 1] rfl)
      · have hg := ie hg c4
        refine lv_aload_n hx hb dX5_readStreet_24 rfl (lv_at hl 0 rfl) ?_
        refine va_get (D := D) (ci := 5) (v := .ref mvh) (C := RX5) (T := TX5) (N := 32) hx hb hts inX5 hown hK hP 0 rfl rfl 14 (by decide) (hts (.fieldLink RX5 29 "ScooterFlagsModel" "readHead" "[I") (by decide +kernel)) (fun _ h9 => h9) rfl dX5_readStreet_25 ?_
        refine lv_iload_n hx hb dX5_readStreet_28 rfl (lv_at hl 2 rfl) ?_
        refine lv_aload_n hx hb dX5_readStreet_29 rfl (lv_at hl 0 rfl) ?_
        refine lv_iload_n hx hb dX5_readStreet_30 rfl (lv_at hl 1 rfl) ?_
        refine lv_iload_n hx hb dX5_readStreet_31 rfl (lv_at hl 2 rfl) ?_
        refine lv_iconst (v := (2 : Int32)) hx hb dX5_readStreet_32 (by decide) ?_
        refine lv_icmp_ne (tgt := 40) hx hb dX5_readStreet_33 (by decide) (fun c5 => ?_) (fun c5 => ?_)
        · have hg := ie hg c5
          refine lv_iconst (v := (1 : Int32)) hx hb dX5_readStreet_40 (by decide) ?_
          refine lv_iload_n hx hb dX5_readStreet_41 rfl (lv_at hl 2 rfl) ?_
          refine lv_if_ne (tgt := 49) hx hb dX5_readStreet_42 (by decide) (fun c6 => ?_) (fun c6 => ?_)
          · have hg := ie hg c6
            refine lv_iload_n hx hb dX5_readStreet_49 rfl (lv_at hl 2 rfl) ?_
            refine lv_iconst (v := (1 : Int32)) hx hb dX5_readStreet_50 (by decide) ?_
            refine lv_icmp_ne (tgt := 58) hx hb dX5_readStreet_51 (by decide) (fun c7 => ?_) (fun c7 => ?_)
            · have hg := ie hg c7
              refine lv_iconst (v := (2 : Int32)) hx hb dX5_readStreet_58 (by decide) ?_
              obtain ⟨o8, h9, hg⟩ := bd hg
              refine xcVi (As := [.int (ze), .int ((1 : Int32)), .int ((2 : Int32))]) (rest := [.int (x2), .ref mvh]) (wc := [(am, .inr (5, [.int (qf), .int (qt), .ref mvs, .ref mvl, .ref mvc, .int (qn), .int (qs), .int (qk), .int (qo), .ref mvk, .ref mvt, .ref mvg, .int (qa), .int (qm), .ref mvh, .ref mvrk, .ref mvrt, .ref mvrg, .int (qg), .int (qp), .int (qu), .int (ql), .int (qe), .int (qb), .int (qw), .ref mvf, .int (qi), .int (qj), .int (qr), .ref mvq, .ref mvp, .ref mve])), (mvc, .inl (cI, 240, .inl (vc)))]) (wr := [(mvh, .inl (cI, 3, .inl (vh))), (mvrk, .inl (cI, 10, .inl (vrk))), (mvrt, .inl (cI, 10, .inl (vrt))), (mvrg, .inl (cZ, 10, .inl (vrg)))]) ⟨hx, hb, hml, hown, hts⟩ (c_X5_digit l D cI cZ cR am mvc mvs mvl mvk mvt mvg mvh mvrk mvrt mvrg mvf mvq mvp mve qf qt qn qs qk qo qa qm qg qp qu ql qe qb qw qi qj qr vc ze (1 : Int32) (2 : Int32) h9) (cwV 3 hts gX5_readStreet_X5_digit rfl rfl rfl (by decide +kernel) ⟨Nat.le_of_ble_eq_true rfl, Nat.le_of_ble_eq_true rfl⟩) hK hP hD hS hA [0, 1] [2, 3, 4, 5] rfl rfl (by decide) (by decide) (by decide) (va_recv hK hP (ci := 5) (q0 := 0) rfl rfl) rfl rfl hl.1 (lv_room (Nat.le_of_ble_eq_true rfl)) dX5_readStreet_59 ⟨Nat.le_of_ble_eq_true rfl, Nat.le_of_ble_eq_true rfl⟩ (fun r u H locs hu hP hD hS => ?_)
              obtain ⟨rfl, rfl⟩ := hu
              have hP : va_P D vwCl [(am, .inr (5, [.int (qf), .int (qt), .ref mvs, .ref mvl, .ref mvc, .int (qn), .int (qs), .int (qk), .int (qo), .ref mvk, .ref mvt, .ref mvg, .int (o8.2), .int (qm), .ref mvh, .ref mvrk, .ref mvrt, .ref mvrg, .int (qg), .int (qp), .int (qu), .int (ql), .int (qe), .int (qb), .int (qw), .ref mvf, .int (qi), .int (qj), .int (qr), .ref mvq, .ref mvp, .ref mve])), (mvc, .inl (cI, 240, .inl (vc))), (mvh, .inl (cI, 3, .inl (vh))), (mvrk, .inl (cI, 10, .inl (vrk))), (mvrt, .inl (cI, 10, .inl (vrt))), (mvrg, .inl (cZ, 10, .inl (vrg)))] H := hP.sub [4, 5, 0, 1, 2, 3] rfl
              have hD : va_D A [(am, .inr (5, [.int (qf), .int (qt), .ref mvs, .ref mvl, .ref mvc, .int (qn), .int (qs), .int (qk), .int (qo), .ref mvk, .ref mvt, .ref mvg, .int (o8.2), .int (qm), .ref mvh, .ref mvrk, .ref mvrt, .ref mvrg, .int (qg), .int (qp), .int (qu), .int (ql), .int (qe), .int (qb), .int (qw), .ref mvf, .int (qi), .int (qj), .int (qr), .ref mvq, .ref mvp, .ref mve])), (mvc, .inl (cI, 240, .inl (vc))), (mvh, .inl (cI, 3, .inl (vh))), (mvrk, .inl (cI, 10, .inl (vrk))), (mvrt, .inl (cI, 10, .inl (vrt))), (mvrg, .inl (cZ, 10, .inl (vrg)))] := hD.sub [4, 5, 0, 1, 2, 3] (by decide) rfl
              obtain ⟨g10, hg⟩ := gxo hg
              refine va_iast hx hb hK hP hD hS 2 0 rfl rfl g10 dX5_readStreet_62 (fun H locs hP hD hS => ?_)
              have hP : va_P D vwCl [(am, .inr (5, [.int (qf), .int (qt), .ref mvs, .ref mvl, .ref mvc, .int (qn), .int (qs), .int (qk), .int (qo), .ref mvk, .ref mvt, .ref mvg, .int (o8.2), .int (qm), .ref mvh, .ref mvrk, .ref mvrt, .ref mvrg, .int (qg), .int (qp), .int (qu), .int (ql), .int (qe), .int (qb), .int (qw), .ref mvf, .int (qi), .int (qj), .int (qr), .ref mvq, .ref mvp, .ref mve])), (mvc, .inl (cI, 240, .inl (vc))), (mvh, .inl (cI, 3, .inl ((upd vh x2.toNatClampNeg o8.1)))), (mvrk, .inl (cI, 10, .inl (vrk))), (mvrt, .inl (cI, 10, .inl (vrt))), (mvrg, .inl (cZ, 10, .inl (vrg)))] H := hP
              have hD : va_D A [(am, .inr (5, [.int (qf), .int (qt), .ref mvs, .ref mvl, .ref mvc, .int (qn), .int (qs), .int (qk), .int (qo), .ref mvk, .ref mvt, .ref mvg, .int (o8.2), .int (qm), .ref mvh, .ref mvrk, .ref mvrt, .ref mvrg, .int (qg), .int (qp), .int (qu), .int (ql), .int (qe), .int (qb), .int (qw), .ref mvf, .int (qi), .int (qj), .int (qr), .ref mvq, .ref mvp, .ref mve])), (mvc, .inl (cI, 240, .inl (vc))), (mvh, .inl (cI, 3, .inl ((upd vh x2.toNatClampNeg o8.1)))), (mvrk, .inl (cI, 10, .inl (vrk))), (mvrt, .inl (cI, 10, .inl (vrt))), (mvrg, .inl (cZ, 10, .inl (vrg)))] := hD
              refine lv_aload_n hx hb dX5_readStreet_63 rfl (lv_at hl 0 rfl) ?_
              refine va_get (D := D) (ci := 5) (v := .ref mvh) (C := RX5) (T := TX5) (N := 32) hx hb hts inX5 hown hK hP 0 rfl rfl 14 (by decide) (hts (.fieldLink RX5 29 "ScooterFlagsModel" "readHead" "[I") (by decide +kernel)) (fun _ h9 => h9) rfl dX5_readStreet_64 ?_
              refine lv_iload_n hx hb dX5_readStreet_67 rfl (lv_at hl 2 rfl) ?_
              obtain ⟨g11, hg⟩ := gxo hg
              refine va_iald hx hb hK hP 2 0 rfl rfl g11 dX5_readStreet_68 ?_
              refine W.eq (g2 := F0 m 69 ls [.int (((upd vh x2.toNatClampNeg o8.1) x2.toNatClampNeg))]) rfl ?_
              refine lv_bipush (v := (-9 : Int32)) hx hb dX5_readStreet_69 (by decide) ?_
              refine lv_icmp_ne (tgt := 76) hx hb dX5_readStreet_71 (by decide) (fun c12 => ?_) (fun c12 => ?_)
              · have hg := ie hg c12
                refine lv_iinc (v := (x2 + (1 : Int32))) (lv' := [(2, .int ((x2 + (1 : Int32)))), (0, .ref am), (1, .int (ze))]) hx hb dX5_readStreet_76 hl (k := 2) rfl rfl (by decide) rfl (fun ls hl => ?_)
                refine lv_goto (tgt := 19) hx hb dX5_readStreet_79 (by decide) ?_
                exact ih (x2 + (1 : Int32)) o8.2 qm (upd vh x2.toNatClampNeg o8.1) vrk vrt vrg hg _ _ hP hD hS _ (lv_sub hl [1, 2, 0] rfl)
              · have hg := it hg c12
                exact hk74 o8.2 qm (upd vh x2.toNatClampNeg o8.1) vrk vrt vrg hg _ _ hP hD hS _ (lv_sub hl [] rfl)
            · have hg := it hg c7
              refine lv_iconst (v := (3 : Int32)) hx hb dX5_readStreet_54 (by decide) ?_
              refine lv_goto (tgt := 59) hx hb dX5_readStreet_55 (by decide) ?_
              obtain ⟨o13, h14, hg⟩ := bd hg
              refine xcVi (As := [.int (ze), .int ((1 : Int32)), .int ((3 : Int32))]) (rest := [.int (x2), .ref mvh]) (wc := [(am, .inr (5, [.int (qf), .int (qt), .ref mvs, .ref mvl, .ref mvc, .int (qn), .int (qs), .int (qk), .int (qo), .ref mvk, .ref mvt, .ref mvg, .int (qa), .int (qm), .ref mvh, .ref mvrk, .ref mvrt, .ref mvrg, .int (qg), .int (qp), .int (qu), .int (ql), .int (qe), .int (qb), .int (qw), .ref mvf, .int (qi), .int (qj), .int (qr), .ref mvq, .ref mvp, .ref mve])), (mvc, .inl (cI, 240, .inl (vc)))]) (wr := [(mvh, .inl (cI, 3, .inl (vh))), (mvrk, .inl (cI, 10, .inl (vrk))), (mvrt, .inl (cI, 10, .inl (vrt))), (mvrg, .inl (cZ, 10, .inl (vrg)))]) ⟨hx, hb, hml, hown, hts⟩ (c_X5_digit l D cI cZ cR am mvc mvs mvl mvk mvt mvg mvh mvrk mvrt mvrg mvf mvq mvp mve qf qt qn qs qk qo qa qm qg qp qu ql qe qb qw qi qj qr vc ze (1 : Int32) (3 : Int32) h14) (cwV 3 hts gX5_readStreet_X5_digit rfl rfl rfl (by decide +kernel) ⟨Nat.le_of_ble_eq_true rfl, Nat.le_of_ble_eq_true rfl⟩) hK hP hD hS hA [0, 1] [2, 3, 4, 5] rfl rfl (by decide) (by decide) (by decide) (va_recv hK hP (ci := 5) (q0 := 0) rfl rfl) rfl rfl hl.1 (lv_room (Nat.le_of_ble_eq_true rfl)) dX5_readStreet_59 ⟨Nat.le_of_ble_eq_true rfl, Nat.le_of_ble_eq_true rfl⟩ (fun r u H locs hu hP hD hS => ?_)
              obtain ⟨rfl, rfl⟩ := hu
              have hP : va_P D vwCl [(am, .inr (5, [.int (qf), .int (qt), .ref mvs, .ref mvl, .ref mvc, .int (qn), .int (qs), .int (qk), .int (qo), .ref mvk, .ref mvt, .ref mvg, .int (o13.2), .int (qm), .ref mvh, .ref mvrk, .ref mvrt, .ref mvrg, .int (qg), .int (qp), .int (qu), .int (ql), .int (qe), .int (qb), .int (qw), .ref mvf, .int (qi), .int (qj), .int (qr), .ref mvq, .ref mvp, .ref mve])), (mvc, .inl (cI, 240, .inl (vc))), (mvh, .inl (cI, 3, .inl (vh))), (mvrk, .inl (cI, 10, .inl (vrk))), (mvrt, .inl (cI, 10, .inl (vrt))), (mvrg, .inl (cZ, 10, .inl (vrg)))] H := hP.sub [4, 5, 0, 1, 2, 3] rfl
              have hD : va_D A [(am, .inr (5, [.int (qf), .int (qt), .ref mvs, .ref mvl, .ref mvc, .int (qn), .int (qs), .int (qk), .int (qo), .ref mvk, .ref mvt, .ref mvg, .int (o13.2), .int (qm), .ref mvh, .ref mvrk, .ref mvrt, .ref mvrg, .int (qg), .int (qp), .int (qu), .int (ql), .int (qe), .int (qb), .int (qw), .ref mvf, .int (qi), .int (qj), .int (qr), .ref mvq, .ref mvp, .ref mve])), (mvc, .inl (cI, 240, .inl (vc))), (mvh, .inl (cI, 3, .inl (vh))), (mvrk, .inl (cI, 10, .inl (vrk))), (mvrt, .inl (cI, 10, .inl (vrt))), (mvrg, .inl (cZ, 10, .inl (vrg)))] := hD.sub [4, 5, 0, 1, 2, 3] (by decide) rfl
              obtain ⟨g15, hg⟩ := gxo hg
              refine va_iast hx hb hK hP hD hS 2 0 rfl rfl g15 dX5_readStreet_62 (fun H locs hP hD hS => ?_)
              have hP : va_P D vwCl [(am, .inr (5, [.int (qf), .int (qt), .ref mvs, .ref mvl, .ref mvc, .int (qn), .int (qs), .int (qk), .int (qo), .ref mvk, .ref mvt, .ref mvg, .int (o13.2), .int (qm), .ref mvh, .ref mvrk, .ref mvrt, .ref mvrg, .int (qg), .int (qp), .int (qu), .int (ql), .int (qe), .int (qb), .int (qw), .ref mvf, .int (qi), .int (qj), .int (qr), .ref mvq, .ref mvp, .ref mve])), (mvc, .inl (cI, 240, .inl (vc))), (mvh, .inl (cI, 3, .inl ((upd vh x2.toNatClampNeg o13.1)))), (mvrk, .inl (cI, 10, .inl (vrk))), (mvrt, .inl (cI, 10, .inl (vrt))), (mvrg, .inl (cZ, 10, .inl (vrg)))] H := hP
              have hD : va_D A [(am, .inr (5, [.int (qf), .int (qt), .ref mvs, .ref mvl, .ref mvc, .int (qn), .int (qs), .int (qk), .int (qo), .ref mvk, .ref mvt, .ref mvg, .int (o13.2), .int (qm), .ref mvh, .ref mvrk, .ref mvrt, .ref mvrg, .int (qg), .int (qp), .int (qu), .int (ql), .int (qe), .int (qb), .int (qw), .ref mvf, .int (qi), .int (qj), .int (qr), .ref mvq, .ref mvp, .ref mve])), (mvc, .inl (cI, 240, .inl (vc))), (mvh, .inl (cI, 3, .inl ((upd vh x2.toNatClampNeg o13.1)))), (mvrk, .inl (cI, 10, .inl (vrk))), (mvrt, .inl (cI, 10, .inl (vrt))), (mvrg, .inl (cZ, 10, .inl (vrg)))] := hD
              refine lv_aload_n hx hb dX5_readStreet_63 rfl (lv_at hl 0 rfl) ?_
              refine va_get (D := D) (ci := 5) (v := .ref mvh) (C := RX5) (T := TX5) (N := 32) hx hb hts inX5 hown hK hP 0 rfl rfl 14 (by decide) (hts (.fieldLink RX5 29 "ScooterFlagsModel" "readHead" "[I") (by decide +kernel)) (fun _ h9 => h9) rfl dX5_readStreet_64 ?_
              refine lv_iload_n hx hb dX5_readStreet_67 rfl (lv_at hl 2 rfl) ?_
              obtain ⟨g16, hg⟩ := gxo hg
              refine va_iald hx hb hK hP 2 0 rfl rfl g16 dX5_readStreet_68 ?_
              refine W.eq (g2 := F0 m 69 ls [.int (((upd vh x2.toNatClampNeg o13.1) x2.toNatClampNeg))]) rfl ?_
              refine lv_bipush (v := (-9 : Int32)) hx hb dX5_readStreet_69 (by decide) ?_
              refine lv_icmp_ne (tgt := 76) hx hb dX5_readStreet_71 (by decide) (fun c17 => ?_) (fun c17 => ?_)
              · have hg := ie hg c17
                refine lv_iinc (v := (x2 + (1 : Int32))) (lv' := [(2, .int ((x2 + (1 : Int32)))), (0, .ref am), (1, .int (ze))]) hx hb dX5_readStreet_76 hl (k := 2) rfl rfl (by decide) rfl (fun ls hl => ?_)
                refine lv_goto (tgt := 19) hx hb dX5_readStreet_79 (by decide) ?_
                exact ih (x2 + (1 : Int32)) o13.2 qm (upd vh x2.toNatClampNeg o13.1) vrk vrt vrg hg _ _ hP hD hS _ (lv_sub hl [1, 2, 0] rfl)
              · have hg := it hg c17
                exact hk74 o13.2 qm (upd vh x2.toNatClampNeg o13.1) vrk vrt vrg hg _ _ hP hD hS _ (lv_sub hl [] rfl)
          · have hg := it hg c6
            refine lv_iconst (v := (4 : Int32)) hx hb dX5_readStreet_45 (by decide) ?_
            refine lv_goto (tgt := 59) hx hb dX5_readStreet_46 (by decide) ?_
            obtain ⟨o18, h19, hg⟩ := bd hg
            refine xcVi (As := [.int (ze), .int ((1 : Int32)), .int ((4 : Int32))]) (rest := [.int (x2), .ref mvh]) (wc := [(am, .inr (5, [.int (qf), .int (qt), .ref mvs, .ref mvl, .ref mvc, .int (qn), .int (qs), .int (qk), .int (qo), .ref mvk, .ref mvt, .ref mvg, .int (qa), .int (qm), .ref mvh, .ref mvrk, .ref mvrt, .ref mvrg, .int (qg), .int (qp), .int (qu), .int (ql), .int (qe), .int (qb), .int (qw), .ref mvf, .int (qi), .int (qj), .int (qr), .ref mvq, .ref mvp, .ref mve])), (mvc, .inl (cI, 240, .inl (vc)))]) (wr := [(mvh, .inl (cI, 3, .inl (vh))), (mvrk, .inl (cI, 10, .inl (vrk))), (mvrt, .inl (cI, 10, .inl (vrt))), (mvrg, .inl (cZ, 10, .inl (vrg)))]) ⟨hx, hb, hml, hown, hts⟩ (c_X5_digit l D cI cZ cR am mvc mvs mvl mvk mvt mvg mvh mvrk mvrt mvrg mvf mvq mvp mve qf qt qn qs qk qo qa qm qg qp qu ql qe qb qw qi qj qr vc ze (1 : Int32) (4 : Int32) h19) (cwV 3 hts gX5_readStreet_X5_digit rfl rfl rfl (by decide +kernel) ⟨Nat.le_of_ble_eq_true rfl, Nat.le_of_ble_eq_true rfl⟩) hK hP hD hS hA [0, 1] [2, 3, 4, 5] rfl rfl (by decide) (by decide) (by decide) (va_recv hK hP (ci := 5) (q0 := 0) rfl rfl) rfl rfl hl.1 (lv_room (Nat.le_of_ble_eq_true rfl)) dX5_readStreet_59 ⟨Nat.le_of_ble_eq_true rfl, Nat.le_of_ble_eq_true rfl⟩ (fun r u H locs hu hP hD hS => ?_)
            obtain ⟨rfl, rfl⟩ := hu
            have hP : va_P D vwCl [(am, .inr (5, [.int (qf), .int (qt), .ref mvs, .ref mvl, .ref mvc, .int (qn), .int (qs), .int (qk), .int (qo), .ref mvk, .ref mvt, .ref mvg, .int (o18.2), .int (qm), .ref mvh, .ref mvrk, .ref mvrt, .ref mvrg, .int (qg), .int (qp), .int (qu), .int (ql), .int (qe), .int (qb), .int (qw), .ref mvf, .int (qi), .int (qj), .int (qr), .ref mvq, .ref mvp, .ref mve])), (mvc, .inl (cI, 240, .inl (vc))), (mvh, .inl (cI, 3, .inl (vh))), (mvrk, .inl (cI, 10, .inl (vrk))), (mvrt, .inl (cI, 10, .inl (vrt))), (mvrg, .inl (cZ, 10, .inl (vrg)))] H := hP.sub [4, 5, 0, 1, 2, 3] rfl
            have hD : va_D A [(am, .inr (5, [.int (qf), .int (qt), .ref mvs, .ref mvl, .ref mvc, .int (qn), .int (qs), .int (qk), .int (qo), .ref mvk, .ref mvt, .ref mvg, .int (o18.2), .int (qm), .ref mvh, .ref mvrk, .ref mvrt, .ref mvrg, .int (qg), .int (qp), .int (qu), .int (ql), .int (qe), .int (qb), .int (qw), .ref mvf, .int (qi), .int (qj), .int (qr), .ref mvq, .ref mvp, .ref mve])), (mvc, .inl (cI, 240, .inl (vc))), (mvh, .inl (cI, 3, .inl (vh))), (mvrk, .inl (cI, 10, .inl (vrk))), (mvrt, .inl (cI, 10, .inl (vrt))), (mvrg, .inl (cZ, 10, .inl (vrg)))] := hD.sub [4, 5, 0, 1, 2, 3] (by decide) rfl
            obtain ⟨g20, hg⟩ := gxo hg
            refine va_iast hx hb hK hP hD hS 2 0 rfl rfl g20 dX5_readStreet_62 (fun H locs hP hD hS => ?_)
            have hP : va_P D vwCl [(am, .inr (5, [.int (qf), .int (qt), .ref mvs, .ref mvl, .ref mvc, .int (qn), .int (qs), .int (qk), .int (qo), .ref mvk, .ref mvt, .ref mvg, .int (o18.2), .int (qm), .ref mvh, .ref mvrk, .ref mvrt, .ref mvrg, .int (qg), .int (qp), .int (qu), .int (ql), .int (qe), .int (qb), .int (qw), .ref mvf, .int (qi), .int (qj), .int (qr), .ref mvq, .ref mvp, .ref mve])), (mvc, .inl (cI, 240, .inl (vc))), (mvh, .inl (cI, 3, .inl ((upd vh x2.toNatClampNeg o18.1)))), (mvrk, .inl (cI, 10, .inl (vrk))), (mvrt, .inl (cI, 10, .inl (vrt))), (mvrg, .inl (cZ, 10, .inl (vrg)))] H := hP
            have hD : va_D A [(am, .inr (5, [.int (qf), .int (qt), .ref mvs, .ref mvl, .ref mvc, .int (qn), .int (qs), .int (qk), .int (qo), .ref mvk, .ref mvt, .ref mvg, .int (o18.2), .int (qm), .ref mvh, .ref mvrk, .ref mvrt, .ref mvrg, .int (qg), .int (qp), .int (qu), .int (ql), .int (qe), .int (qb), .int (qw), .ref mvf, .int (qi), .int (qj), .int (qr), .ref mvq, .ref mvp, .ref mve])), (mvc, .inl (cI, 240, .inl (vc))), (mvh, .inl (cI, 3, .inl ((upd vh x2.toNatClampNeg o18.1)))), (mvrk, .inl (cI, 10, .inl (vrk))), (mvrt, .inl (cI, 10, .inl (vrt))), (mvrg, .inl (cZ, 10, .inl (vrg)))] := hD
            refine lv_aload_n hx hb dX5_readStreet_63 rfl (lv_at hl 0 rfl) ?_
            refine va_get (D := D) (ci := 5) (v := .ref mvh) (C := RX5) (T := TX5) (N := 32) hx hb hts inX5 hown hK hP 0 rfl rfl 14 (by decide) (hts (.fieldLink RX5 29 "ScooterFlagsModel" "readHead" "[I") (by decide +kernel)) (fun _ h9 => h9) rfl dX5_readStreet_64 ?_
            refine lv_iload_n hx hb dX5_readStreet_67 rfl (lv_at hl 2 rfl) ?_
            obtain ⟨g21, hg⟩ := gxo hg
            refine va_iald hx hb hK hP 2 0 rfl rfl g21 dX5_readStreet_68 ?_
            refine W.eq (g2 := F0 m 69 ls [.int (((upd vh x2.toNatClampNeg o18.1) x2.toNatClampNeg))]) rfl ?_
            refine lv_bipush (v := (-9 : Int32)) hx hb dX5_readStreet_69 (by decide) ?_
            refine lv_icmp_ne (tgt := 76) hx hb dX5_readStreet_71 (by decide) (fun c22 => ?_) (fun c22 => ?_)
            · have hg := ie hg c22
              refine lv_iinc (v := (x2 + (1 : Int32))) (lv' := [(2, .int ((x2 + (1 : Int32)))), (0, .ref am), (1, .int (ze))]) hx hb dX5_readStreet_76 hl (k := 2) rfl rfl (by decide) rfl (fun ls hl => ?_)
              refine lv_goto (tgt := 19) hx hb dX5_readStreet_79 (by decide) ?_
              exact ih (x2 + (1 : Int32)) o18.2 qm (upd vh x2.toNatClampNeg o18.1) vrk vrt vrg hg _ _ hP hD hS _ (lv_sub hl [1, 2, 0] rfl)
            · have hg := it hg c22
              exact hk74 o18.2 qm (upd vh x2.toNatClampNeg o18.1) vrk vrt vrg hg _ _ hP hD hS _ (lv_sub hl [] rfl)
        · have hg := it hg c5
          refine lv_iconst (v := (0 : Int32)) hx hb dX5_readStreet_36 (by decide) ?_
          refine lv_goto (tgt := 41) hx hb dX5_readStreet_37 (by decide) ?_
          refine lv_iload_n hx hb dX5_readStreet_41 rfl (lv_at hl 2 rfl) ?_
          refine lv_if_ne (tgt := 49) hx hb dX5_readStreet_42 (by decide) (fun c23 => ?_) (fun c23 => ?_)
          · have hg := ie hg c23
            refine lv_iload_n hx hb dX5_readStreet_49 rfl (lv_at hl 2 rfl) ?_
            refine lv_iconst (v := (1 : Int32)) hx hb dX5_readStreet_50 (by decide) ?_
            refine lv_icmp_ne (tgt := 58) hx hb dX5_readStreet_51 (by decide) (fun c24 => ?_) (fun c24 => ?_)
            · have hg := ie hg c24
              refine lv_iconst (v := (2 : Int32)) hx hb dX5_readStreet_58 (by decide) ?_
              obtain ⟨o25, h26, hg⟩ := bd hg
              refine xcVi (As := [.int (ze), .int ((0 : Int32)), .int ((2 : Int32))]) (rest := [.int (x2), .ref mvh]) (wc := [(am, .inr (5, [.int (qf), .int (qt), .ref mvs, .ref mvl, .ref mvc, .int (qn), .int (qs), .int (qk), .int (qo), .ref mvk, .ref mvt, .ref mvg, .int (qa), .int (qm), .ref mvh, .ref mvrk, .ref mvrt, .ref mvrg, .int (qg), .int (qp), .int (qu), .int (ql), .int (qe), .int (qb), .int (qw), .ref mvf, .int (qi), .int (qj), .int (qr), .ref mvq, .ref mvp, .ref mve])), (mvc, .inl (cI, 240, .inl (vc)))]) (wr := [(mvh, .inl (cI, 3, .inl (vh))), (mvrk, .inl (cI, 10, .inl (vrk))), (mvrt, .inl (cI, 10, .inl (vrt))), (mvrg, .inl (cZ, 10, .inl (vrg)))]) ⟨hx, hb, hml, hown, hts⟩ (c_X5_digit l D cI cZ cR am mvc mvs mvl mvk mvt mvg mvh mvrk mvrt mvrg mvf mvq mvp mve qf qt qn qs qk qo qa qm qg qp qu ql qe qb qw qi qj qr vc ze (0 : Int32) (2 : Int32) h26) (cwV 3 hts gX5_readStreet_X5_digit rfl rfl rfl (by decide +kernel) ⟨Nat.le_of_ble_eq_true rfl, Nat.le_of_ble_eq_true rfl⟩) hK hP hD hS hA [0, 1] [2, 3, 4, 5] rfl rfl (by decide) (by decide) (by decide) (va_recv hK hP (ci := 5) (q0 := 0) rfl rfl) rfl rfl hl.1 (lv_room (Nat.le_of_ble_eq_true rfl)) dX5_readStreet_59 ⟨Nat.le_of_ble_eq_true rfl, Nat.le_of_ble_eq_true rfl⟩ (fun r u H locs hu hP hD hS => ?_)
              obtain ⟨rfl, rfl⟩ := hu
              have hP : va_P D vwCl [(am, .inr (5, [.int (qf), .int (qt), .ref mvs, .ref mvl, .ref mvc, .int (qn), .int (qs), .int (qk), .int (qo), .ref mvk, .ref mvt, .ref mvg, .int (o25.2), .int (qm), .ref mvh, .ref mvrk, .ref mvrt, .ref mvrg, .int (qg), .int (qp), .int (qu), .int (ql), .int (qe), .int (qb), .int (qw), .ref mvf, .int (qi), .int (qj), .int (qr), .ref mvq, .ref mvp, .ref mve])), (mvc, .inl (cI, 240, .inl (vc))), (mvh, .inl (cI, 3, .inl (vh))), (mvrk, .inl (cI, 10, .inl (vrk))), (mvrt, .inl (cI, 10, .inl (vrt))), (mvrg, .inl (cZ, 10, .inl (vrg)))] H := hP.sub [4, 5, 0, 1, 2, 3] rfl
              have hD : va_D A [(am, .inr (5, [.int (qf), .int (qt), .ref mvs, .ref mvl, .ref mvc, .int (qn), .int (qs), .int (qk), .int (qo), .ref mvk, .ref mvt, .ref mvg, .int (o25.2), .int (qm), .ref mvh, .ref mvrk, .ref mvrt, .ref mvrg, .int (qg), .int (qp), .int (qu), .int (ql), .int (qe), .int (qb), .int (qw), .ref mvf, .int (qi), .int (qj), .int (qr), .ref mvq, .ref mvp, .ref mve])), (mvc, .inl (cI, 240, .inl (vc))), (mvh, .inl (cI, 3, .inl (vh))), (mvrk, .inl (cI, 10, .inl (vrk))), (mvrt, .inl (cI, 10, .inl (vrt))), (mvrg, .inl (cZ, 10, .inl (vrg)))] := hD.sub [4, 5, 0, 1, 2, 3] (by decide) rfl
              obtain ⟨g27, hg⟩ := gxo hg
              refine va_iast hx hb hK hP hD hS 2 0 rfl rfl g27 dX5_readStreet_62 (fun H locs hP hD hS => ?_)
              have hP : va_P D vwCl [(am, .inr (5, [.int (qf), .int (qt), .ref mvs, .ref mvl, .ref mvc, .int (qn), .int (qs), .int (qk), .int (qo), .ref mvk, .ref mvt, .ref mvg, .int (o25.2), .int (qm), .ref mvh, .ref mvrk, .ref mvrt, .ref mvrg, .int (qg), .int (qp), .int (qu), .int (ql), .int (qe), .int (qb), .int (qw), .ref mvf, .int (qi), .int (qj), .int (qr), .ref mvq, .ref mvp, .ref mve])), (mvc, .inl (cI, 240, .inl (vc))), (mvh, .inl (cI, 3, .inl ((upd vh x2.toNatClampNeg o25.1)))), (mvrk, .inl (cI, 10, .inl (vrk))), (mvrt, .inl (cI, 10, .inl (vrt))), (mvrg, .inl (cZ, 10, .inl (vrg)))] H := hP
              have hD : va_D A [(am, .inr (5, [.int (qf), .int (qt), .ref mvs, .ref mvl, .ref mvc, .int (qn), .int (qs), .int (qk), .int (qo), .ref mvk, .ref mvt, .ref mvg, .int (o25.2), .int (qm), .ref mvh, .ref mvrk, .ref mvrt, .ref mvrg, .int (qg), .int (qp), .int (qu), .int (ql), .int (qe), .int (qb), .int (qw), .ref mvf, .int (qi), .int (qj), .int (qr), .ref mvq, .ref mvp, .ref mve])), (mvc, .inl (cI, 240, .inl (vc))), (mvh, .inl (cI, 3, .inl ((upd vh x2.toNatClampNeg o25.1)))), (mvrk, .inl (cI, 10, .inl (vrk))), (mvrt, .inl (cI, 10, .inl (vrt))), (mvrg, .inl (cZ, 10, .inl (vrg)))] := hD
              refine lv_aload_n hx hb dX5_readStreet_63 rfl (lv_at hl 0 rfl) ?_
              refine va_get (D := D) (ci := 5) (v := .ref mvh) (C := RX5) (T := TX5) (N := 32) hx hb hts inX5 hown hK hP 0 rfl rfl 14 (by decide) (hts (.fieldLink RX5 29 "ScooterFlagsModel" "readHead" "[I") (by decide +kernel)) (fun _ h9 => h9) rfl dX5_readStreet_64 ?_
              refine lv_iload_n hx hb dX5_readStreet_67 rfl (lv_at hl 2 rfl) ?_
              obtain ⟨g28, hg⟩ := gxo hg
              refine va_iald hx hb hK hP 2 0 rfl rfl g28 dX5_readStreet_68 ?_
              refine W.eq (g2 := F0 m 69 ls [.int (((upd vh x2.toNatClampNeg o25.1) x2.toNatClampNeg))]) rfl ?_
              refine lv_bipush (v := (-9 : Int32)) hx hb dX5_readStreet_69 (by decide) ?_
              refine lv_icmp_ne (tgt := 76) hx hb dX5_readStreet_71 (by decide) (fun c29 => ?_) (fun c29 => ?_)
              · have hg := ie hg c29
                refine lv_iinc (v := (x2 + (1 : Int32))) (lv' := [(2, .int ((x2 + (1 : Int32)))), (0, .ref am), (1, .int (ze))]) hx hb dX5_readStreet_76 hl (k := 2) rfl rfl (by decide) rfl (fun ls hl => ?_)
                refine lv_goto (tgt := 19) hx hb dX5_readStreet_79 (by decide) ?_
                exact ih (x2 + (1 : Int32)) o25.2 qm (upd vh x2.toNatClampNeg o25.1) vrk vrt vrg hg _ _ hP hD hS _ (lv_sub hl [1, 2, 0] rfl)
              · have hg := it hg c29
                exact hk74 o25.2 qm (upd vh x2.toNatClampNeg o25.1) vrk vrt vrg hg _ _ hP hD hS _ (lv_sub hl [] rfl)
            · have hg := it hg c24
              refine lv_iconst (v := (3 : Int32)) hx hb dX5_readStreet_54 (by decide) ?_
              refine lv_goto (tgt := 59) hx hb dX5_readStreet_55 (by decide) ?_
              obtain ⟨o30, h31, hg⟩ := bd hg
              refine xcVi (As := [.int (ze), .int ((0 : Int32)), .int ((3 : Int32))]) (rest := [.int (x2), .ref mvh]) (wc := [(am, .inr (5, [.int (qf), .int (qt), .ref mvs, .ref mvl, .ref mvc, .int (qn), .int (qs), .int (qk), .int (qo), .ref mvk, .ref mvt, .ref mvg, .int (qa), .int (qm), .ref mvh, .ref mvrk, .ref mvrt, .ref mvrg, .int (qg), .int (qp), .int (qu), .int (ql), .int (qe), .int (qb), .int (qw), .ref mvf, .int (qi), .int (qj), .int (qr), .ref mvq, .ref mvp, .ref mve])), (mvc, .inl (cI, 240, .inl (vc)))]) (wr := [(mvh, .inl (cI, 3, .inl (vh))), (mvrk, .inl (cI, 10, .inl (vrk))), (mvrt, .inl (cI, 10, .inl (vrt))), (mvrg, .inl (cZ, 10, .inl (vrg)))]) ⟨hx, hb, hml, hown, hts⟩ (c_X5_digit l D cI cZ cR am mvc mvs mvl mvk mvt mvg mvh mvrk mvrt mvrg mvf mvq mvp mve qf qt qn qs qk qo qa qm qg qp qu ql qe qb qw qi qj qr vc ze (0 : Int32) (3 : Int32) h31) (cwV 3 hts gX5_readStreet_X5_digit rfl rfl rfl (by decide +kernel) ⟨Nat.le_of_ble_eq_true rfl, Nat.le_of_ble_eq_true rfl⟩) hK hP hD hS hA [0, 1] [2, 3, 4, 5] rfl rfl (by decide) (by decide) (by decide) (va_recv hK hP (ci := 5) (q0 := 0) rfl rfl) rfl rfl hl.1 (lv_room (Nat.le_of_ble_eq_true rfl)) dX5_readStreet_59 ⟨Nat.le_of_ble_eq_true rfl, Nat.le_of_ble_eq_true rfl⟩ (fun r u H locs hu hP hD hS => ?_)
              obtain ⟨rfl, rfl⟩ := hu
              have hP : va_P D vwCl [(am, .inr (5, [.int (qf), .int (qt), .ref mvs, .ref mvl, .ref mvc, .int (qn), .int (qs), .int (qk), .int (qo), .ref mvk, .ref mvt, .ref mvg, .int (o30.2), .int (qm), .ref mvh, .ref mvrk, .ref mvrt, .ref mvrg, .int (qg), .int (qp), .int (qu), .int (ql), .int (qe), .int (qb), .int (qw), .ref mvf, .int (qi), .int (qj), .int (qr), .ref mvq, .ref mvp, .ref mve])), (mvc, .inl (cI, 240, .inl (vc))), (mvh, .inl (cI, 3, .inl (vh))), (mvrk, .inl (cI, 10, .inl (vrk))), (mvrt, .inl (cI, 10, .inl (vrt))), (mvrg, .inl (cZ, 10, .inl (vrg)))] H := hP.sub [4, 5, 0, 1, 2, 3] rfl
              have hD : va_D A [(am, .inr (5, [.int (qf), .int (qt), .ref mvs, .ref mvl, .ref mvc, .int (qn), .int (qs), .int (qk), .int (qo), .ref mvk, .ref mvt, .ref mvg, .int (o30.2), .int (qm), .ref mvh, .ref mvrk, .ref mvrt, .ref mvrg, .int (qg), .int (qp), .int (qu), .int (ql), .int (qe), .int (qb), .int (qw), .ref mvf, .int (qi), .int (qj), .int (qr), .ref mvq, .ref mvp, .ref mve])), (mvc, .inl (cI, 240, .inl (vc))), (mvh, .inl (cI, 3, .inl (vh))), (mvrk, .inl (cI, 10, .inl (vrk))), (mvrt, .inl (cI, 10, .inl (vrt))), (mvrg, .inl (cZ, 10, .inl (vrg)))] := hD.sub [4, 5, 0, 1, 2, 3] (by decide) rfl
              obtain ⟨g32, hg⟩ := gxo hg
              refine va_iast hx hb hK hP hD hS 2 0 rfl rfl g32 dX5_readStreet_62 (fun H locs hP hD hS => ?_)
              have hP : va_P D vwCl [(am, .inr (5, [.int (qf), .int (qt), .ref mvs, .ref mvl, .ref mvc, .int (qn), .int (qs), .int (qk), .int (qo), .ref mvk, .ref mvt, .ref mvg, .int (o30.2), .int (qm), .ref mvh, .ref mvrk, .ref mvrt, .ref mvrg, .int (qg), .int (qp), .int (qu), .int (ql), .int (qe), .int (qb), .int (qw), .ref mvf, .int (qi), .int (qj), .int (qr), .ref mvq, .ref mvp, .ref mve])), (mvc, .inl (cI, 240, .inl (vc))), (mvh, .inl (cI, 3, .inl ((upd vh x2.toNatClampNeg o30.1)))), (mvrk, .inl (cI, 10, .inl (vrk))), (mvrt, .inl (cI, 10, .inl (vrt))), (mvrg, .inl (cZ, 10, .inl (vrg)))] H := hP
              have hD : va_D A [(am, .inr (5, [.int (qf), .int (qt), .ref mvs, .ref mvl, .ref mvc, .int (qn), .int (qs), .int (qk), .int (qo), .ref mvk, .ref mvt, .ref mvg, .int (o30.2), .int (qm), .ref mvh, .ref mvrk, .ref mvrt, .ref mvrg, .int (qg), .int (qp), .int (qu), .int (ql), .int (qe), .int (qb), .int (qw), .ref mvf, .int (qi), .int (qj), .int (qr), .ref mvq, .ref mvp, .ref mve])), (mvc, .inl (cI, 240, .inl (vc))), (mvh, .inl (cI, 3, .inl ((upd vh x2.toNatClampNeg o30.1)))), (mvrk, .inl (cI, 10, .inl (vrk))), (mvrt, .inl (cI, 10, .inl (vrt))), (mvrg, .inl (cZ, 10, .inl (vrg)))] := hD
              refine lv_aload_n hx hb dX5_readStreet_63 rfl (lv_at hl 0 rfl) ?_
              refine va_get (D := D) (ci := 5) (v := .ref mvh) (C := RX5) (T := TX5) (N := 32) hx hb hts inX5 hown hK hP 0 rfl rfl 14 (by decide) (hts (.fieldLink RX5 29 "ScooterFlagsModel" "readHead" "[I") (by decide +kernel)) (fun _ h9 => h9) rfl dX5_readStreet_64 ?_
              refine lv_iload_n hx hb dX5_readStreet_67 rfl (lv_at hl 2 rfl) ?_
              obtain ⟨g33, hg⟩ := gxo hg
              refine va_iald hx hb hK hP 2 0 rfl rfl g33 dX5_readStreet_68 ?_
              refine W.eq (g2 := F0 m 69 ls [.int (((upd vh x2.toNatClampNeg o30.1) x2.toNatClampNeg))]) rfl ?_
              refine lv_bipush (v := (-9 : Int32)) hx hb dX5_readStreet_69 (by decide) ?_
              refine lv_icmp_ne (tgt := 76) hx hb dX5_readStreet_71 (by decide) (fun c34 => ?_) (fun c34 => ?_)
              · have hg := ie hg c34
                refine lv_iinc (v := (x2 + (1 : Int32))) (lv' := [(2, .int ((x2 + (1 : Int32)))), (0, .ref am), (1, .int (ze))]) hx hb dX5_readStreet_76 hl (k := 2) rfl rfl (by decide) rfl (fun ls hl => ?_)
                refine lv_goto (tgt := 19) hx hb dX5_readStreet_79 (by decide) ?_
                exact ih (x2 + (1 : Int32)) o30.2 qm (upd vh x2.toNatClampNeg o30.1) vrk vrt vrg hg _ _ hP hD hS _ (lv_sub hl [1, 2, 0] rfl)
              · have hg := it hg c34
                exact hk74 o30.2 qm (upd vh x2.toNatClampNeg o30.1) vrk vrt vrg hg _ _ hP hD hS _ (lv_sub hl [] rfl)
          · have hg := it hg c23
            refine lv_iconst (v := (4 : Int32)) hx hb dX5_readStreet_45 (by decide) ?_
            refine lv_goto (tgt := 59) hx hb dX5_readStreet_46 (by decide) ?_
            obtain ⟨o35, h36, hg⟩ := bd hg
            refine xcVi (As := [.int (ze), .int ((0 : Int32)), .int ((4 : Int32))]) (rest := [.int (x2), .ref mvh]) (wc := [(am, .inr (5, [.int (qf), .int (qt), .ref mvs, .ref mvl, .ref mvc, .int (qn), .int (qs), .int (qk), .int (qo), .ref mvk, .ref mvt, .ref mvg, .int (qa), .int (qm), .ref mvh, .ref mvrk, .ref mvrt, .ref mvrg, .int (qg), .int (qp), .int (qu), .int (ql), .int (qe), .int (qb), .int (qw), .ref mvf, .int (qi), .int (qj), .int (qr), .ref mvq, .ref mvp, .ref mve])), (mvc, .inl (cI, 240, .inl (vc)))]) (wr := [(mvh, .inl (cI, 3, .inl (vh))), (mvrk, .inl (cI, 10, .inl (vrk))), (mvrt, .inl (cI, 10, .inl (vrt))), (mvrg, .inl (cZ, 10, .inl (vrg)))]) ⟨hx, hb, hml, hown, hts⟩ (c_X5_digit l D cI cZ cR am mvc mvs mvl mvk mvt mvg mvh mvrk mvrt mvrg mvf mvq mvp mve qf qt qn qs qk qo qa qm qg qp qu ql qe qb qw qi qj qr vc ze (0 : Int32) (4 : Int32) h36) (cwV 3 hts gX5_readStreet_X5_digit rfl rfl rfl (by decide +kernel) ⟨Nat.le_of_ble_eq_true rfl, Nat.le_of_ble_eq_true rfl⟩) hK hP hD hS hA [0, 1] [2, 3, 4, 5] rfl rfl (by decide) (by decide) (by decide) (va_recv hK hP (ci := 5) (q0 := 0) rfl rfl) rfl rfl hl.1 (lv_room (Nat.le_of_ble_eq_true rfl)) dX5_readStreet_59 ⟨Nat.le_of_ble_eq_true rfl, Nat.le_of_ble_eq_true rfl⟩ (fun r u H locs hu hP hD hS => ?_)
            obtain ⟨rfl, rfl⟩ := hu
            have hP : va_P D vwCl [(am, .inr (5, [.int (qf), .int (qt), .ref mvs, .ref mvl, .ref mvc, .int (qn), .int (qs), .int (qk), .int (qo), .ref mvk, .ref mvt, .ref mvg, .int (o35.2), .int (qm), .ref mvh, .ref mvrk, .ref mvrt, .ref mvrg, .int (qg), .int (qp), .int (qu), .int (ql), .int (qe), .int (qb), .int (qw), .ref mvf, .int (qi), .int (qj), .int (qr), .ref mvq, .ref mvp, .ref mve])), (mvc, .inl (cI, 240, .inl (vc))), (mvh, .inl (cI, 3, .inl (vh))), (mvrk, .inl (cI, 10, .inl (vrk))), (mvrt, .inl (cI, 10, .inl (vrt))), (mvrg, .inl (cZ, 10, .inl (vrg)))] H := hP.sub [4, 5, 0, 1, 2, 3] rfl
            have hD : va_D A [(am, .inr (5, [.int (qf), .int (qt), .ref mvs, .ref mvl, .ref mvc, .int (qn), .int (qs), .int (qk), .int (qo), .ref mvk, .ref mvt, .ref mvg, .int (o35.2), .int (qm), .ref mvh, .ref mvrk, .ref mvrt, .ref mvrg, .int (qg), .int (qp), .int (qu), .int (ql), .int (qe), .int (qb), .int (qw), .ref mvf, .int (qi), .int (qj), .int (qr), .ref mvq, .ref mvp, .ref mve])), (mvc, .inl (cI, 240, .inl (vc))), (mvh, .inl (cI, 3, .inl (vh))), (mvrk, .inl (cI, 10, .inl (vrk))), (mvrt, .inl (cI, 10, .inl (vrt))), (mvrg, .inl (cZ, 10, .inl (vrg)))] := hD.sub [4, 5, 0, 1, 2, 3] (by decide) rfl
            obtain ⟨g37, hg⟩ := gxo hg
            refine va_iast hx hb hK hP hD hS 2 0 rfl rfl g37 dX5_readStreet_62 (fun H locs hP hD hS => ?_)
            have hP : va_P D vwCl [(am, .inr (5, [.int (qf), .int (qt), .ref mvs, .ref mvl, .ref mvc, .int (qn), .int (qs), .int (qk), .int (qo), .ref mvk, .ref mvt, .ref mvg, .int (o35.2), .int (qm), .ref mvh, .ref mvrk, .ref mvrt, .ref mvrg, .int (qg), .int (qp), .int (qu), .int (ql), .int (qe), .int (qb), .int (qw), .ref mvf, .int (qi), .int (qj), .int (qr), .ref mvq, .ref mvp, .ref mve])), (mvc, .inl (cI, 240, .inl (vc))), (mvh, .inl (cI, 3, .inl ((upd vh x2.toNatClampNeg o35.1)))), (mvrk, .inl (cI, 10, .inl (vrk))), (mvrt, .inl (cI, 10, .inl (vrt))), (mvrg, .inl (cZ, 10, .inl (vrg)))] H := hP
            have hD : va_D A [(am, .inr (5, [.int (qf), .int (qt), .ref mvs, .ref mvl, .ref mvc, .int (qn), .int (qs), .int (qk), .int (qo), .ref mvk, .ref mvt, .ref mvg, .int (o35.2), .int (qm), .ref mvh, .ref mvrk, .ref mvrt, .ref mvrg, .int (qg), .int (qp), .int (qu), .int (ql), .int (qe), .int (qb), .int (qw), .ref mvf, .int (qi), .int (qj), .int (qr), .ref mvq, .ref mvp, .ref mve])), (mvc, .inl (cI, 240, .inl (vc))), (mvh, .inl (cI, 3, .inl ((upd vh x2.toNatClampNeg o35.1)))), (mvrk, .inl (cI, 10, .inl (vrk))), (mvrt, .inl (cI, 10, .inl (vrt))), (mvrg, .inl (cZ, 10, .inl (vrg)))] := hD
            refine lv_aload_n hx hb dX5_readStreet_63 rfl (lv_at hl 0 rfl) ?_
            refine va_get (D := D) (ci := 5) (v := .ref mvh) (C := RX5) (T := TX5) (N := 32) hx hb hts inX5 hown hK hP 0 rfl rfl 14 (by decide) (hts (.fieldLink RX5 29 "ScooterFlagsModel" "readHead" "[I") (by decide +kernel)) (fun _ h9 => h9) rfl dX5_readStreet_64 ?_
            refine lv_iload_n hx hb dX5_readStreet_67 rfl (lv_at hl 2 rfl) ?_
            obtain ⟨g38, hg⟩ := gxo hg
            refine va_iald hx hb hK hP 2 0 rfl rfl g38 dX5_readStreet_68 ?_
            refine W.eq (g2 := F0 m 69 ls [.int (((upd vh x2.toNatClampNeg o35.1) x2.toNatClampNeg))]) rfl ?_
            refine lv_bipush (v := (-9 : Int32)) hx hb dX5_readStreet_69 (by decide) ?_
            refine lv_icmp_ne (tgt := 76) hx hb dX5_readStreet_71 (by decide) (fun c39 => ?_) (fun c39 => ?_)
            · have hg := ie hg c39
              refine lv_iinc (v := (x2 + (1 : Int32))) (lv' := [(2, .int ((x2 + (1 : Int32)))), (0, .ref am), (1, .int (ze))]) hx hb dX5_readStreet_76 hl (k := 2) rfl rfl (by decide) rfl (fun ls hl => ?_)
              refine lv_goto (tgt := 19) hx hb dX5_readStreet_79 (by decide) ?_
              exact ih (x2 + (1 : Int32)) o35.2 qm (upd vh x2.toNatClampNeg o35.1) vrk vrt vrg hg _ _ hP hD hS _ (lv_sub hl [1, 2, 0] rfl)
            · have hg := it hg c39
              exact hk74 o35.2 qm (upd vh x2.toNatClampNeg o35.1) vrk vrt vrg hg _ _ hP hD hS _ (lv_sub hl [] rfl)
  have lp_82 : ∀ (k115 : Int32 → Int32 → (Nat → Int32) → (Nat → Int32) → (Nat → Int32) → (Nat → Int32) → Option (Int32 × Int32 × Int32 × (Nat → Int32) × (Nat → Int32) × (Nat → Int32) × (Nat → Int32))) (k117 : Int32 → Int32 → (Nat → Int32) → (Nat → Int32) → (Nat → Int32) → (Nat → Int32) → Option (Int32 × Int32 × Int32 × (Nat → Int32) × (Nat → Int32) × (Nat → Int32) × (Nat → Int32))) (hk115 : ∀ (qa : Int32) (qm : Int32) (vh : Nat → Int32) (vrk : Nat → Int32) (vrt : Nat → Int32) (vrg : Nat → Int32), k115 qa qm vh vrk vrt vrg = some res → ∀ (H : Heap) (locs : List Loc), va_P D vwCl [(am, .inr (5, [.int (qf), .int (qt), .ref mvs, .ref mvl, .ref mvc, .int (qn), .int (qs), .int (qk), .int (qo), .ref mvk, .ref mvt, .ref mvg, .int (qa), .int (qm), .ref mvh, .ref mvrk, .ref mvrt, .ref mvrg, .int (qg), .int (qp), .int (qu), .int (ql), .int (qe), .int (qb), .int (qw), .ref mvf, .int (qi), .int (qj), .int (qr), .ref mvq, .ref mvp, .ref mve])), (mvc, .inl (cI, 240, .inl (vc))), (mvh, .inl (cI, 3, .inl (vh))), (mvrk, .inl (cI, 10, .inl (vrk))), (mvrt, .inl (cI, 10, .inl (vrt))), (mvrg, .inl (cZ, 10, .inl (vrg)))] H → va_D A [(am, .inr (5, [.int (qf), .int (qt), .ref mvs, .ref mvl, .ref mvc, .int (qn), .int (qs), .int (qk), .int (qo), .ref mvk, .ref mvt, .ref mvg, .int (qa), .int (qm), .ref mvh, .ref mvrk, .ref mvrt, .ref mvrg, .int (qg), .int (qp), .int (qu), .int (ql), .int (qe), .int (qb), .int (qw), .ref mvf, .int (qi), .int (qj), .int (qr), .ref mvq, .ref mvp, .ref mve])), (mvc, .inl (cI, 240, .inl (vc))), (mvh, .inl (cI, 3, .inl (vh))), (mvrk, .inl (cI, 10, .inl (vrk))), (mvrt, .inl (cI, 10, .inl (vrt))), (mvrg, .inl (cZ, 10, .inl (vrg)))] → va_S A s.heap H locs → ∀ (ls : Array Slot), lv_has ls 3 [] → W p l e ({ frames := 3, cells := 0, slots := 0, locals := 67 }) s m args below meth c H locs 0 0 Q (F0 m 115 ls [])) (hk117 : ∀ (qa : Int32) (qm : Int32) (vh : Nat → Int32) (vrk : Nat → Int32) (vrt : Nat → Int32) (vrg : Nat → Int32), k117 qa qm vh vrk vrt vrg = some res → ∀ (H : Heap) (locs : List Loc), va_P D vwCl [(am, .inr (5, [.int (qf), .int (qt), .ref mvs, .ref mvl, .ref mvc, .int (qn), .int (qs), .int (qk), .int (qo), .ref mvk, .ref mvt, .ref mvg, .int (qa), .int (qm), .ref mvh, .ref mvrk, .ref mvrt, .ref mvrg, .int (qg), .int (qp), .int (qu), .int (ql), .int (qe), .int (qb), .int (qw), .ref mvf, .int (qi), .int (qj), .int (qr), .ref mvq, .ref mvp, .ref mve])), (mvc, .inl (cI, 240, .inl (vc))), (mvh, .inl (cI, 3, .inl (vh))), (mvrk, .inl (cI, 10, .inl (vrk))), (mvrt, .inl (cI, 10, .inl (vrt))), (mvrg, .inl (cZ, 10, .inl (vrg)))] H → va_D A [(am, .inr (5, [.int (qf), .int (qt), .ref mvs, .ref mvl, .ref mvc, .int (qn), .int (qs), .int (qk), .int (qo), .ref mvk, .ref mvt, .ref mvg, .int (qa), .int (qm), .ref mvh, .ref mvrk, .ref mvrt, .ref mvrg, .int (qg), .int (qp), .int (qu), .int (ql), .int (qe), .int (qb), .int (qw), .ref mvf, .int (qi), .int (qj), .int (qr), .ref mvq, .ref mvp, .ref mve])), (mvc, .inl (cI, 240, .inl (vc))), (mvh, .inl (cI, 3, .inl (vh))), (mvrk, .inl (cI, 10, .inl (vrk))), (mvrt, .inl (cI, 10, .inl (vrt))), (mvrg, .inl (cZ, 10, .inl (vrg)))] → va_S A s.heap H locs → ∀ (ls : Array Slot), lv_has ls 3 [(0, .ref am), (1, .int (ze))] → W p l e ({ frames := 3, cells := 0, slots := 0, locals := 67 }) s m args below meth c H locs 0 0 Q (F0 m 117 ls [])) (n : Nat) (qa : Int32) (qm : Int32) (vh : Nat → Int32) (vrk : Nat → Int32) (vrt : Nat → Int32) (vrg : Nat → Int32), f_X5_readStreet_L82 vc ze k115 k117 n qa qm vh vrk vrt vrg = some res → ∀ (H : Heap) (locs : List Loc), va_P D vwCl [(am, .inr (5, [.int (qf), .int (qt), .ref mvs, .ref mvl, .ref mvc, .int (qn), .int (qs), .int (qk), .int (qo), .ref mvk, .ref mvt, .ref mvg, .int (qa), .int (qm), .ref mvh, .ref mvrk, .ref mvrt, .ref mvrg, .int (qg), .int (qp), .int (qu), .int (ql), .int (qe), .int (qb), .int (qw), .ref mvf, .int (qi), .int (qj), .int (qr), .ref mvq, .ref mvp, .ref mve])), (mvc, .inl (cI, 240, .inl (vc))), (mvh, .inl (cI, 3, .inl (vh))), (mvrk, .inl (cI, 10, .inl (vrk))), (mvrt, .inl (cI, 10, .inl (vrt))), (mvrg, .inl (cZ, 10, .inl (vrg)))] H → va_D A [(am, .inr (5, [.int (qf), .int (qt), .ref mvs, .ref mvl, .ref mvc, .int (qn), .int (qs), .int (qk), .int (qo), .ref mvk, .ref mvt, .ref mvg, .int (qa), .int (qm), .ref mvh, .ref mvrk, .ref mvrt, .ref mvrg, .int (qg), .int (qp), .int (qu), .int (ql), .int (qe), .int (qb), .int (qw), .ref mvf, .int (qi), .int (qj), .int (qr), .ref mvq, .ref mvp, .ref mve])), (mvc, .inl (cI, 240, .inl (vc))), (mvh, .inl (cI, 3, .inl (vh))), (mvrk, .inl (cI, 10, .inl (vrk))), (mvrt, .inl (cI, 10, .inl (vrt))), (mvrg, .inl (cZ, 10, .inl (vrg)))] → va_S A s.heap H locs → ∀ (ls : Array Slot), lv_has ls 3 [(0, .ref am), (1, .int (ze))] → W p l e ({ frames := 3, cells := 0, slots := 0, locals := 67 }) s m args below meth c H locs 0 0 Q (F0 m 82 ls []) := by
    intro k115 k117 hk115 hk117 n
    induction n with
    | zero => intro qa qm vh vrk vrt vrg hg; rw [f_X5_readStreet_L82] at hg; cases hg
    | succ n ih =>
      intro qa qm vh vrk vrt vrg hg H locs hP hD hS ls hl
      rw [f_X5_readStreet_L82] at hg
      refine lv_aload_n hx hb dX5_readStreet_82 rfl (lv_at hl 0 rfl) ?_
      refine va_get (D := D) (ci := 5) (v := .int (qm)) (C := RX5) (T := TX5) (N := 32) hx hb hts inX5 hown hK hP 0 rfl rfl 13 (by decide) (hts (.fieldLink RX5 96 "ScooterFlagsModel" "readMany" "I") (by decide +kernel)) (fun _ h9 => h9) rfl dX5_readStreet_83 ?_
      refine lv_iconst (v := (2 : Int32)) hx hb dX5_readStreet_86 (by decide) ?_
      refine lv_icmp_lt (tgt := 107) hx hb dX5_readStreet_87 (by decide) (fun c40 => ?_) (fun c40 => ?_)
      · have hg := it hg c40
        refine lv_aload_n hx hb dX5_readStreet_107 rfl (lv_at hl 0 rfl) ?_
        refine lv_iload_n hx hb dX5_readStreet_108 rfl (lv_at hl 1 rfl) ?_
        obtain ⟨o41, h42, hg⟩ := bd hg
        refine xcVi (As := [.int (ze)]) (rest := []) (wc := [(am, .inr (5, [.int (qf), .int (qt), .ref mvs, .ref mvl, .ref mvc, .int (qn), .int (qs), .int (qk), .int (qo), .ref mvk, .ref mvt, .ref mvg, .int (qa), .int (qm), .ref mvh, .ref mvrk, .ref mvrt, .ref mvrg, .int (qg), .int (qp), .int (qu), .int (ql), .int (qe), .int (qb), .int (qw), .ref mvf, .int (qi), .int (qj), .int (qr), .ref mvq, .ref mvp, .ref mve])), (mvc, .inl (cI, 240, .inl (vc))), (mvh, .inl (cI, 3, .inl (vh))), (mvrk, .inl (cI, 10, .inl (vrk))), (mvrt, .inl (cI, 10, .inl (vrt))), (mvrg, .inl (cZ, 10, .inl (vrg)))]) (wr := []) ⟨hx, hb, hml, hown, hts⟩ (c_X5_readFlag l D cI cZ cR am mvc mvh mvrk mvrt mvrg mvs mvl mvk mvt mvg mvf mvq mvp mve qf qt qn qs qk qo qa qm qg qp qu ql qe qb qw qi qj qr vc vh vrk vrt vrg ze h42) (cwV 1 hts gX5_readStreet_X5_readFlag rfl rfl rfl (by decide +kernel) ⟨Nat.le_of_ble_eq_true rfl, Nat.le_of_ble_eq_true rfl⟩) hK hP hD hS hA [0, 1, 2, 3, 4, 5] [] rfl rfl (by decide) (by decide) (by decide) (va_recv hK hP (ci := 5) (q0 := 0) rfl rfl) rfl rfl hl.1 (lv_room (Nat.le_of_ble_eq_true rfl)) dX5_readStreet_109 ⟨Nat.le_of_ble_eq_true rfl, Nat.le_of_ble_eq_true rfl⟩ (fun r u H locs hu hP hD hS => ?_)
        obtain ⟨rfl, rfl⟩ := hu
        have hP : va_P D vwCl [(am, .inr (5, [.int (qf), .int (qt), .ref mvs, .ref mvl, .ref mvc, .int (qn), .int (qs), .int (qk), .int (qo), .ref mvk, .ref mvt, .ref mvg, .int (o41.2.1), .int (o41.2.2.1), .ref mvh, .ref mvrk, .ref mvrt, .ref mvrg, .int (qg), .int (qp), .int (qu), .int (ql), .int (qe), .int (qb), .int (qw), .ref mvf, .int (qi), .int (qj), .int (qr), .ref mvq, .ref mvp, .ref mve])), (mvc, .inl (cI, 240, .inl (vc))), (mvh, .inl (cI, 3, .inl (vh))), (mvrk, .inl (cI, 10, .inl (o41.2.2.2.1))), (mvrt, .inl (cI, 10, .inl (o41.2.2.2.2.1))), (mvrg, .inl (cZ, 10, .inl (o41.2.2.2.2.2)))] H := hP.sub [0, 1, 2, 3, 4, 5] rfl
        have hD : va_D A [(am, .inr (5, [.int (qf), .int (qt), .ref mvs, .ref mvl, .ref mvc, .int (qn), .int (qs), .int (qk), .int (qo), .ref mvk, .ref mvt, .ref mvg, .int (o41.2.1), .int (o41.2.2.1), .ref mvh, .ref mvrk, .ref mvrt, .ref mvrg, .int (qg), .int (qp), .int (qu), .int (ql), .int (qe), .int (qb), .int (qw), .ref mvf, .int (qi), .int (qj), .int (qr), .ref mvq, .ref mvp, .ref mve])), (mvc, .inl (cI, 240, .inl (vc))), (mvh, .inl (cI, 3, .inl (vh))), (mvrk, .inl (cI, 10, .inl (o41.2.2.2.1))), (mvrt, .inl (cI, 10, .inl (o41.2.2.2.2.1))), (mvrg, .inl (cZ, 10, .inl (o41.2.2.2.2.2)))] := hD.sub [0, 1, 2, 3, 4, 5] (by decide) rfl
        refine lv_if_ne (tgt := 82) hx hb dX5_readStreet_112 (by decide) (fun c43 => ?_) (fun c43 => ?_)
        · have hg := ie hg c43
          exact ih o41.2.1 o41.2.2.1 vh o41.2.2.2.1 o41.2.2.2.2.1 o41.2.2.2.2.2 hg _ _ hP hD hS _ (lv_sub hl [0, 1] rfl)
        · have hg := it hg c43
          exact hk115 o41.2.1 o41.2.2.1 vh o41.2.2.2.1 o41.2.2.2.2.1 o41.2.2.2.2.2 hg _ _ hP hD hS _ (lv_sub hl [] rfl)
      · have hg := ie hg c40
        refine lv_aload_n hx hb dX5_readStreet_90 rfl (lv_at hl 0 rfl) ?_
        refine va_get (D := D) (ci := 5) (v := .int (qm)) (C := RX5) (T := TX5) (N := 32) hx hb hts inX5 hown hK hP 0 rfl rfl 13 (by decide) (hts (.fieldLink RX5 96 "ScooterFlagsModel" "readMany" "I") (by decide +kernel)) (fun _ h9 => h9) rfl dX5_readStreet_91 ?_
        refine lv_bipush (v := (10 : Int32)) hx hb dX5_readStreet_94 (by decide) ?_
        refine lv_icmp_ge (tgt := 117) hx hb dX5_readStreet_96 (by decide) (fun c44 => ?_) (fun c44 => ?_)
        · have hg := it hg c44
          exact hk117 qa qm vh vrk vrt vrg hg _ _ hP hD hS _ (lv_sub hl [0, 1] rfl)
        · have hg := ie hg c44
          refine lv_aload_n hx hb dX5_readStreet_99 rfl (lv_at hl 0 rfl) ?_
          refine va_get (D := D) (ci := 5) (v := .int (qa)) (C := RX5) (T := TX5) (N := 32) hx hb hts inX5 hown hK hP 0 rfl rfl 12 (by decide) (hts (.fieldLink RX5 66 "ScooterFlagsModel" "at" "I") (by decide +kernel)) (fun _ h9 => h9) rfl dX5_readStreet_100 ?_
          refine lv_iload_n hx hb dX5_readStreet_103 rfl (lv_at hl 1 rfl) ?_
          refine lv_icmp_ge (tgt := 117) hx hb dX5_readStreet_104 (by decide) (fun c45 => ?_) (fun c45 => ?_)
          · have hg := it hg c45
            exact hk117 qa qm vh vrk vrt vrg hg _ _ hP hD hS _ (lv_sub hl [0, 1] rfl)
          · have hg := ie hg c45
            refine lv_aload_n hx hb dX5_readStreet_107 rfl (lv_at hl 0 rfl) ?_
            refine lv_iload_n hx hb dX5_readStreet_108 rfl (lv_at hl 1 rfl) ?_
            obtain ⟨o46, h47, hg⟩ := bd hg
            refine xcVi (As := [.int (ze)]) (rest := []) (wc := [(am, .inr (5, [.int (qf), .int (qt), .ref mvs, .ref mvl, .ref mvc, .int (qn), .int (qs), .int (qk), .int (qo), .ref mvk, .ref mvt, .ref mvg, .int (qa), .int (qm), .ref mvh, .ref mvrk, .ref mvrt, .ref mvrg, .int (qg), .int (qp), .int (qu), .int (ql), .int (qe), .int (qb), .int (qw), .ref mvf, .int (qi), .int (qj), .int (qr), .ref mvq, .ref mvp, .ref mve])), (mvc, .inl (cI, 240, .inl (vc))), (mvh, .inl (cI, 3, .inl (vh))), (mvrk, .inl (cI, 10, .inl (vrk))), (mvrt, .inl (cI, 10, .inl (vrt))), (mvrg, .inl (cZ, 10, .inl (vrg)))]) (wr := []) ⟨hx, hb, hml, hown, hts⟩ (c_X5_readFlag l D cI cZ cR am mvc mvh mvrk mvrt mvrg mvs mvl mvk mvt mvg mvf mvq mvp mve qf qt qn qs qk qo qa qm qg qp qu ql qe qb qw qi qj qr vc vh vrk vrt vrg ze h47) (cwV 1 hts gX5_readStreet_X5_readFlag rfl rfl rfl (by decide +kernel) ⟨Nat.le_of_ble_eq_true rfl, Nat.le_of_ble_eq_true rfl⟩) hK hP hD hS hA [0, 1, 2, 3, 4, 5] [] rfl rfl (by decide) (by decide) (by decide) (va_recv hK hP (ci := 5) (q0 := 0) rfl rfl) rfl rfl hl.1 (lv_room (Nat.le_of_ble_eq_true rfl)) dX5_readStreet_109 ⟨Nat.le_of_ble_eq_true rfl, Nat.le_of_ble_eq_true rfl⟩ (fun r u H locs hu hP hD hS => ?_)
            obtain ⟨rfl, rfl⟩ := hu
            have hP : va_P D vwCl [(am, .inr (5, [.int (qf), .int (qt), .ref mvs, .ref mvl, .ref mvc, .int (qn), .int (qs), .int (qk), .int (qo), .ref mvk, .ref mvt, .ref mvg, .int (o46.2.1), .int (o46.2.2.1), .ref mvh, .ref mvrk, .ref mvrt, .ref mvrg, .int (qg), .int (qp), .int (qu), .int (ql), .int (qe), .int (qb), .int (qw), .ref mvf, .int (qi), .int (qj), .int (qr), .ref mvq, .ref mvp, .ref mve])), (mvc, .inl (cI, 240, .inl (vc))), (mvh, .inl (cI, 3, .inl (vh))), (mvrk, .inl (cI, 10, .inl (o46.2.2.2.1))), (mvrt, .inl (cI, 10, .inl (o46.2.2.2.2.1))), (mvrg, .inl (cZ, 10, .inl (o46.2.2.2.2.2)))] H := hP.sub [0, 1, 2, 3, 4, 5] rfl
            have hD : va_D A [(am, .inr (5, [.int (qf), .int (qt), .ref mvs, .ref mvl, .ref mvc, .int (qn), .int (qs), .int (qk), .int (qo), .ref mvk, .ref mvt, .ref mvg, .int (o46.2.1), .int (o46.2.2.1), .ref mvh, .ref mvrk, .ref mvrt, .ref mvrg, .int (qg), .int (qp), .int (qu), .int (ql), .int (qe), .int (qb), .int (qw), .ref mvf, .int (qi), .int (qj), .int (qr), .ref mvq, .ref mvp, .ref mve])), (mvc, .inl (cI, 240, .inl (vc))), (mvh, .inl (cI, 3, .inl (vh))), (mvrk, .inl (cI, 10, .inl (o46.2.2.2.1))), (mvrt, .inl (cI, 10, .inl (o46.2.2.2.2.1))), (mvrg, .inl (cZ, 10, .inl (o46.2.2.2.2.2)))] := hD.sub [0, 1, 2, 3, 4, 5] (by decide) rfl
            refine lv_if_ne (tgt := 82) hx hb dX5_readStreet_112 (by decide) (fun c48 => ?_) (fun c48 => ?_)
            · have hg := ie hg c48
              exact ih o46.2.1 o46.2.2.1 vh o46.2.2.2.1 o46.2.2.2.2.1 o46.2.2.2.2.2 hg _ _ hP hD hS _ (lv_sub hl [0, 1] rfl)
            · have hg := it hg c48
              exact hk115 o46.2.1 o46.2.2.1 vh o46.2.2.2.1 o46.2.2.2.2.1 o46.2.2.2.2.2 hg _ _ hP hD hS _ (lv_sub hl [] rfl)
  have hl : lv_has ls 3 [(0, .ref am), (1, .int (ze))] := hl
  rw [f_X5_readStreet] at hg
  refine lv_aload_n hx hb dX5_readStreet_0 rfl (lv_at hl 0 rfl) ?_
  refine lv_iconst (v := (0 : Int32)) hx hb dX5_readStreet_1 (by decide) ?_
  refine va_put (D := D) (ci := 5) (v := .int ((0 : Int32))) (ty := .int) (C := RX5) (T := TX5) (N := 32) hx hb hts inX5 tyX5 tyX5_ok nmX5 hown hK hP hD hS 0 rfl rfl 13 (by decide) (hts (.fieldLink RX5 96 "ScooterFlagsModel" "readMany" "I") (by decide +kernel)) (fun _ h9 => h9) rfl (by decide +kernel) rfl rfl (Nat.le_of_ble_eq_true rfl) dX5_readStreet_2 (fun H locs hP hD hS => ?_)
  have hP : va_P D vwCl [(am, .inr (5, [.int (qf), .int (qt), .ref mvs, .ref mvl, .ref mvc, .int (qn), .int (qs), .int (qk), .int (qo), .ref mvk, .ref mvt, .ref mvg, .int (qa), .int ((0 : Int32)), .ref mvh, .ref mvrk, .ref mvrt, .ref mvrg, .int (qg), .int (qp), .int (qu), .int (ql), .int (qe), .int (qb), .int (qw), .ref mvf, .int (qi), .int (qj), .int (qr), .ref mvq, .ref mvp, .ref mve])), (mvc, .inl (cI, 240, .inl (vc))), (mvh, .inl (cI, 3, .inl (vh))), (mvrk, .inl (cI, 10, .inl (vrk))), (mvrt, .inl (cI, 10, .inl (vrt))), (mvrg, .inl (cZ, 10, .inl (vrg)))] H := hP
  have hD : va_D A [(am, .inr (5, [.int (qf), .int (qt), .ref mvs, .ref mvl, .ref mvc, .int (qn), .int (qs), .int (qk), .int (qo), .ref mvk, .ref mvt, .ref mvg, .int (qa), .int ((0 : Int32)), .ref mvh, .ref mvrk, .ref mvrt, .ref mvrg, .int (qg), .int (qp), .int (qu), .int (ql), .int (qe), .int (qb), .int (qw), .ref mvf, .int (qi), .int (qj), .int (qr), .ref mvq, .ref mvp, .ref mve])), (mvc, .inl (cI, 240, .inl (vc))), (mvh, .inl (cI, 3, .inl (vh))), (mvrk, .inl (cI, 10, .inl (vrk))), (mvrt, .inl (cI, 10, .inl (vrt))), (mvrg, .inl (cZ, 10, .inl (vrg)))] := hD
  refine lv_aload_n hx hb dX5_readStreet_5 rfl (lv_at hl 0 rfl) ?_
  refine lv_iload_n hx hb dX5_readStreet_6 rfl (lv_at hl 1 rfl) ?_
  refine lv_bipush (v := (115 : Int32)) hx hb dX5_readStreet_7 (by decide) ?_
  obtain ⟨o1, h2, hg⟩ := bd hg
  refine xcVi (As := [.int (ze), .int ((115 : Int32))]) (rest := []) (wc := [(am, .inr (5, [.int (qf), .int (qt), .ref mvs, .ref mvl, .ref mvc, .int (qn), .int (qs), .int (qk), .int (qo), .ref mvk, .ref mvt, .ref mvg, .int (qa), .int ((0 : Int32)), .ref mvh, .ref mvrk, .ref mvrt, .ref mvrg, .int (qg), .int (qp), .int (qu), .int (ql), .int (qe), .int (qb), .int (qw), .ref mvf, .int (qi), .int (qj), .int (qr), .ref mvq, .ref mvp, .ref mve])), (mvc, .inl (cI, 240, .inl (vc)))]) (wr := [(mvh, .inl (cI, 3, .inl (vh))), (mvrk, .inl (cI, 10, .inl (vrk))), (mvrt, .inl (cI, 10, .inl (vrt))), (mvrg, .inl (cZ, 10, .inl (vrg)))]) ⟨hx, hb, hml, hown, hts⟩ (c_X5_isSign l D cI cZ cR am mvc mvs mvl mvk mvt mvg mvh mvrk mvrt mvrg mvf mvq mvp mve qf qt qn qs qk qo qa (0 : Int32) qg qp qu ql qe qb qw qi qj qr vc ze (115 : Int32) h2) (cwV 2 hts gX5_readStreet_X5_isSign rfl rfl rfl (by decide +kernel) ⟨Nat.le_of_ble_eq_true rfl, Nat.le_of_ble_eq_true rfl⟩) hK hP hD hS hA [0, 1] [2, 3, 4, 5] rfl rfl (by decide) (by decide) (by decide) (va_recv hK hP (ci := 5) (q0 := 0) rfl rfl) rfl rfl hl.1 (lv_room (Nat.le_of_ble_eq_true rfl)) dX5_readStreet_9 ⟨Nat.le_of_ble_eq_true rfl, Nat.le_of_ble_eq_true rfl⟩ (fun r u H locs hu hP hD hS => ?_)
  obtain ⟨rfl, rfl⟩ := hu
  have hP : va_P D vwCl [(am, .inr (5, [.int (qf), .int (qt), .ref mvs, .ref mvl, .ref mvc, .int (qn), .int (qs), .int (qk), .int (qo), .ref mvk, .ref mvt, .ref mvg, .int (o1.2), .int ((0 : Int32)), .ref mvh, .ref mvrk, .ref mvrt, .ref mvrg, .int (qg), .int (qp), .int (qu), .int (ql), .int (qe), .int (qb), .int (qw), .ref mvf, .int (qi), .int (qj), .int (qr), .ref mvq, .ref mvp, .ref mve])), (mvc, .inl (cI, 240, .inl (vc))), (mvh, .inl (cI, 3, .inl (vh))), (mvrk, .inl (cI, 10, .inl (vrk))), (mvrt, .inl (cI, 10, .inl (vrt))), (mvrg, .inl (cZ, 10, .inl (vrg)))] H := hP.sub [4, 5, 0, 1, 2, 3] rfl
  have hD : va_D A [(am, .inr (5, [.int (qf), .int (qt), .ref mvs, .ref mvl, .ref mvc, .int (qn), .int (qs), .int (qk), .int (qo), .ref mvk, .ref mvt, .ref mvg, .int (o1.2), .int ((0 : Int32)), .ref mvh, .ref mvrk, .ref mvrt, .ref mvrg, .int (qg), .int (qp), .int (qu), .int (ql), .int (qe), .int (qb), .int (qw), .ref mvf, .int (qi), .int (qj), .int (qr), .ref mvq, .ref mvp, .ref mve])), (mvc, .inl (cI, 240, .inl (vc))), (mvh, .inl (cI, 3, .inl (vh))), (mvrk, .inl (cI, 10, .inl (vrk))), (mvrt, .inl (cI, 10, .inl (vrt))), (mvrg, .inl (cZ, 10, .inl (vrg)))] := hD.sub [4, 5, 0, 1, 2, 3] (by decide) rfl
  refine lv_if_ne (tgt := 17) hx hb dX5_readStreet_12 (by decide) (fun c3 => ?_) (fun c3 => ?_)
  · have hg := ie hg c3
    refine lv_iconst (v := (0 : Int32)) hx hb dX5_readStreet_17 (by decide) ?_
    refine lv_istore_n (lv' := [(2, .int ((0 : Int32))), (0, .ref am), (1, .int (ze))]) hx hb dX5_readStreet_18 rfl hl (by decide) rfl (fun ls hl => ?_)
    refine lp_19 _ _ ?_ ?_ 100 (0 : Int32) o1.2 (0 : Int32) vh vrk vrt vrg hg _ _ hP hD hS _ (lv_sub hl [1, 2, 0] rfl)
    · intro qa qm vh vrk vrt vrg hg H locs hP hD hS ls hl
      refine lv_iconst (v := (0 : Int32)) hx hb dX5_readStreet_74 (by decide) ?_
      obtain rfl := Option.some.inj hg
      exact rtz hQ hx hb hr rfl hlocks hK hP hD hS dX5_readStreet_75 ⟨rfl, rfl⟩
    · intro qa qm vh vrk vrt vrg hg H locs hP hD hS ls hl
      refine lp_82 _ _ ?_ ?_ 100 qa qm vh vrk vrt vrg hg _ _ hP hD hS _ (lv_sub hl [0, 1] rfl)
      · intro qa qm vh vrk vrt vrg hg H locs hP hD hS ls hl
        refine lv_iconst (v := (0 : Int32)) hx hb dX5_readStreet_115 (by decide) ?_
        obtain rfl := Option.some.inj hg
        exact rtz hQ hx hb hr rfl hlocks hK hP hD hS dX5_readStreet_116 ⟨rfl, rfl⟩
      · intro qa qm vh vrk vrt vrg hg H locs hP hD hS ls hl
        refine lv_aload_n hx hb dX5_readStreet_117 rfl (lv_at hl 0 rfl) ?_
        refine va_get (D := D) (ci := 5) (v := .int (qa)) (C := RX5) (T := TX5) (N := 32) hx hb hts inX5 hown hK hP 0 rfl rfl 12 (by decide) (hts (.fieldLink RX5 66 "ScooterFlagsModel" "at" "I") (by decide +kernel)) (fun _ h9 => h9) rfl dX5_readStreet_118 ?_
        refine lv_iload_n hx hb dX5_readStreet_121 rfl (lv_at hl 1 rfl) ?_
        refine lv_icmp_ne (tgt := 129) hx hb dX5_readStreet_122 (by decide) (fun c49 => ?_) (fun c49 => ?_)
        · have hg := ie hg c49
          refine lv_iconst (v := (0 : Int32)) hx hb dX5_readStreet_129 (by decide) ?_
          obtain rfl := Option.some.inj hg
          exact rtz hQ hx hb hr rfl hlocks hK hP hD hS dX5_readStreet_130 ⟨rfl, rfl⟩
        · have hg := it hg c49
          refine lv_iconst (v := (1 : Int32)) hx hb dX5_readStreet_125 (by decide) ?_
          refine lv_goto (tgt := 130) hx hb dX5_readStreet_126 (by decide) ?_
          obtain rfl := Option.some.inj hg
          exact rtz hQ hx hb hr rfl hlocks hK hP hD hS dX5_readStreet_130 ⟨rfl, rfl⟩
  · have hg := it hg c3
    refine lv_iconst (v := (0 : Int32)) hx hb dX5_readStreet_15 (by decide) ?_
    obtain rfl := Option.some.inj hg
    exact rtz hQ hx hb hr rfl hlocks hK hP hD hS dX5_readStreet_16 ⟨rfl, rfl⟩
def f_X5_street_L125  (k182 : Int32 → Int32 → Int32 → Int32 → Int32 → Int32 → Int32 → Int32 → (Nat → Int32) → (Nat → Int32) → (Nat → Int32) → (Nat → Int32) → (Nat → Int32) → (Nat → Int32) → (Nat → Int32) → Option (Int32 × Int32 × Int32 × Int32 × Int32 × Int32 × Int32 × Int32 × Int32 × (Nat → Int32) × (Nat → Int32) × (Nat → Int32) × (Nat → Int32) × (Nat → Int32) × (Nat → Int32) × (Nat → Int32))) : Nat → Int32 → Int32 → Int32 → Int32 → Int32 → Int32 → Int32 → Int32 → Int32 → (Nat → Int32) → (Nat → Int32) → (Nat → Int32) → (Nat → Int32) → (Nat → Int32) → (Nat → Int32) → (Nat → Int32) → Option (Int32 × Int32 × Int32 × Int32 × Int32 × Int32 × Int32 × Int32 × Int32 × (Nat → Int32) × (Nat → Int32) × (Nat → Int32) × (Nat → Int32) × (Nat → Int32) × (Nat → Int32) × (Nat → Int32))
  | 0, _, _, _, _, _, _, _, _, _, _, _, _, _, _, _, _ => none
  | n + 1, x7, qf, qn, qs, qk, qo, qa, qm, qr, vk, vt, vg, vh, vrk, vrt, vrg => if qn ≤ x7 then (k182 qf qn qs qk qo qa qm qr vk vt vg vh vrk vrt vrg) else (gx x7 10 (gx x7 10 (gx x7 10 (gx x7 10 (gx x7 10 (gx x7 10 (gd ((vrg x7.toNatClampNeg) = 0 ∨ (vrg x7.toNatClampNeg) = 1) (f_X5_street_L125 k182 n (x7 + (1 : Int32)) qf qn qs qk qo qa qm qr (upd vk x7.toNatClampNeg (vrk x7.toNatClampNeg)) (upd vt x7.toNatClampNeg (vrt x7.toNatClampNeg)) (upd vg x7.toNatClampNeg (vrg x7.toNatClampNeg)) vh vrk vrt vrg))))))))
def f_X5_street (qf : Int32) (qn : Int32) (qs : Int32) (qk : Int32) (qo : Int32) (qa : Int32) (qm : Int32) (qr : Int32) (vs : Nat → Int32) (vl : Nat → Int32) (vc : Nat → Int32) (vk : Nat → Int32) (vt : Nat → Int32) (vg : Nat → Int32) (vh : Nat → Int32) (vrk : Nat → Int32) (vrt : Nat → Int32) (vrg : Nat → Int32) (zs : Int32) (zl : Int32) (zi : Int32) (zn : Int32) : Option (Int32 × Int32 × Int32 × Int32 × Int32 × Int32 × Int32 × Int32 × Int32 × (Nat → Int32) × (Nat → Int32) × (Nat → Int32) × (Nat → Int32) × (Nat → Int32) × (Nat → Int32) × (Nat → Int32)) :=
  (f_X5_isSheet zs).bind (fun o1 => if o1 = 0 then (some ((-1 : Int32), (0 : Int32), qn, qs, qk, qo, qa, qm, qr, vk, vt, vg, vh, vrk, vrt, vrg)) else ((f_X5_isSort zl).bind (fun o4 => if o4 = 0 then (some ((-2 : Int32), (0 : Int32), qn, qs, qk, qo, qa, qm, qr, vk, vt, vg, vh, vrk, vrt, vrg)) else ((f_X5_against vs vl zs zl zi zn).bind (fun o7 => if o7 = 0 then ((f_X5_readStreet (((60 : Int32) * zs) + zi) qm vc vh vrk vrt vrg ((((60 : Int32) * zs) + zi) + zn)).bind (fun o10 => if o10.1 = 0 then (some (((-100 : Int32) - (o10.2.1 - (((60 : Int32) * zs) + zi))), (0 : Int32), qn, qs, qk, qo, o10.2.1, o10.2.2.1, qr, vk, vt, vg, o10.2.2.2.1, o10.2.2.2.2.1, o10.2.2.2.2.2.1, o10.2.2.2.2.2.2)) else (gx (0 : Int32) 3 (gx (1 : Int32) 3 (gx (2 : Int32) 3 (f_X5_street_L125 (fun (qf : Int32) (qn : Int32) (qs : Int32) (qk : Int32) (qo : Int32) (qa : Int32) (qm : Int32) (qr : Int32) (vk : Nat → Int32) (vt : Nat → Int32) (vg : Nat → Int32) (vh : Nat → Int32) (vrk : Nat → Int32) (vrt : Nat → Int32) (vrg : Nat → Int32) => some (qn, qf, qn, qs, qk, qo, qa, qm, (0 : Int32), vk, vt, vg, vh, vrk, vrt, vrg)) 100 (0 : Int32) (0 : Int32) o10.2.2.1 (o10.2.2.2.1 (0 : Int32).toNatClampNeg) (o10.2.2.2.1 (1 : Int32).toNatClampNeg) (o10.2.2.2.1 (2 : Int32).toNatClampNeg) o10.2.1 o10.2.2.1 qr vk vt vg o10.2.2.2.1 o10.2.2.2.2.1 o10.2.2.2.2.2.1 o10.2.2.2.2.2.2)))))) else ((f_X5_fails o7).bind (fun o24 => some (o24.1, o24.2, qn, qs, qk, qo, qa, qm, qr, vk, vt, vg, vh, vrk, vrt, vrg))))))))
set_option maxHeartbeats 4000000 in
set_option maxRecDepth 100000 in
theorem c_X5_street (l : Launch) (D : va_G) (cI cZ cR : ClassId) (am : Nat) (mvs : Nat) (mvl : Nat) (mvc : Nat) (mvk : Nat) (mvt : Nat) (mvg : Nat) (mvh : Nat) (mvrk : Nat) (mvrt : Nat) (mvrg : Nat) (mvf : Nat) (mvq : Nat) (mvp : Nat) (mve : Nat) (qf : Int32) (qt : Int32) (qn : Int32) (qs : Int32) (qk : Int32) (qo : Int32) (qa : Int32) (qm : Int32) (qg : Int32) (qp : Int32) (qu : Int32) (ql : Int32) (qe : Int32) (qb : Int32) (qw : Int32) (qi : Int32) (qj : Int32) (qr : Int32) (vs : Nat → Int32) (vl : Nat → Int32) (vc : Nat → Int32) (vk : Nat → Int32) (vt : Nat → Int32) (vg : Nat → Int32) (vh : Nat → Int32) (vrk : Nat → Int32) (vrt : Nat → Int32) (vrg : Nat → Int32) (zs : Int32) (zl : Int32) (zi : Int32) (zn : Int32) {res : Int32 × Int32 × Int32 × Int32 × Int32 × Int32 × Int32 × Int32 × Int32 × (Nat → Int32) × (Nat → Int32) × (Nat → Int32) × (Nat → Int32) × (Nat → Int32) × (Nat → Int32) × (Nat → Int32)} (hg : f_X5_street qf qn qs qk qo qa qm qr vs vl vc vk vt vg vh vrk vrt vrg zs zl zi zn = some res) : MI l yX5_street wsX5_street ({ frames := 4, cells := 0, slots := 0, locals := 89 }) D (T3 cI cZ cR) [(am, .inr (5, [.int (qf), .int (qt), .ref mvs, .ref mvl, .ref mvc, .int (qn), .int (qs), .int (qk), .int (qo), .ref mvk, .ref mvt, .ref mvg, .int (qa), .int (qm), .ref mvh, .ref mvrk, .ref mvrt, .ref mvrg, .int (qg), .int (qp), .int (qu), .int (ql), .int (qe), .int (qb), .int (qw), .ref mvf, .int (qi), .int (qj), .int (qr), .ref mvq, .ref mvp, .ref mve])), (mvs, .inl (cI, 4, .inl (vs))), (mvl, .inl (cI, 4, .inl (vl))), (mvc, .inl (cI, 240, .inl (vc))), (mvk, .inl (cI, 10, .inl (vk))), (mvt, .inl (cI, 10, .inl (vt))), (mvg, .inl (cZ, 10, .inl (vg))), (mvh, .inl (cI, 3, .inl (vh))), (mvrk, .inl (cI, 10, .inl (vrk))), (mvrt, .inl (cI, 10, .inl (vrt))), (mvrg, .inl (cZ, 10, .inl (vrg)))] [.ref am, .int (zs), .int (zl), .int (zi), .int (zn)] (fun r u => res.1 = r ∧ u = [(am, .inr (5, [.int (res.2.1), .int (qt), .ref mvs, .ref mvl, .ref mvc, .int (res.2.2.1), .int (res.2.2.2.1), .int (res.2.2.2.2.1), .int (res.2.2.2.2.2.1), .ref mvk, .ref mvt, .ref mvg, .int (res.2.2.2.2.2.2.1), .int (res.2.2.2.2.2.2.2.1), .ref mvh, .ref mvrk, .ref mvrt, .ref mvrg, .int (qg), .int (qp), .int (qu), .int (ql), .int (qe), .int (qb), .int (qw), .ref mvf, .int (qi), .int (qj), .int (res.2.2.2.2.2.2.2.2.1), .ref mvq, .ref mvp, .ref mve])), (mvs, .inl (cI, 4, .inl (vs))), (mvl, .inl (cI, 4, .inl (vl))), (mvc, .inl (cI, 240, .inl (vc))), (mvk, .inl (cI, 10, .inl (res.2.2.2.2.2.2.2.2.2.1))), (mvt, .inl (cI, 10, .inl (res.2.2.2.2.2.2.2.2.2.2.1))), (mvg, .inl (cZ, 10, .inl (res.2.2.2.2.2.2.2.2.2.2.2.1))), (mvh, .inl (cI, 3, .inl (res.2.2.2.2.2.2.2.2.2.2.2.2.1))), (mvrk, .inl (cI, 10, .inl (res.2.2.2.2.2.2.2.2.2.2.2.2.2.1))), (mvrt, .inl (cI, 10, .inl (res.2.2.2.2.2.2.2.2.2.2.2.2.2.2.1))), (mvrg, .inl (cZ, 10, .inl (res.2.2.2.2.2.2.2.2.2.2.2.2.2.2.2)))]) := by
  refine entI (Rn := RX5) (by decide +kernel) rfl rfl (Nat.le_of_ble_eq_true rfl) (fun p e s m args below meth c A Q hx hb hr hml hts hown hlocks hA hP hD hK hS ls hl hQ => ?_)
  have inX5 : ∀ w ∈ u_ws RX5 TX5 32, w ∈ wsX5_street := by decide +kernel
  have lp_125 : ∀ (k182 : Int32 → Int32 → Int32 → Int32 → Int32 → Int32 → Int32 → Int32 → (Nat → Int32) → (Nat → Int32) → (Nat → Int32) → (Nat → Int32) → (Nat → Int32) → (Nat → Int32) → (Nat → Int32) → Option (Int32 × Int32 × Int32 × Int32 × Int32 × Int32 × Int32 × Int32 × Int32 × (Nat → Int32) × (Nat → Int32) × (Nat → Int32) × (Nat → Int32) × (Nat → Int32) × (Nat → Int32) × (Nat → Int32))) (hk182 : ∀ (qf : Int32) (qn : Int32) (qs : Int32) (qk : Int32) (qo : Int32) (qa : Int32) (qm : Int32) (qr : Int32) (vk : Nat → Int32) (vt : Nat → Int32) (vg : Nat → Int32) (vh : Nat → Int32) (vrk : Nat → Int32) (vrt : Nat → Int32) (vrg : Nat → Int32), k182 qf qn qs qk qo qa qm qr vk vt vg vh vrk vrt vrg = some res → ∀ (H : Heap) (locs : List Loc), va_P D vwCl [(am, .inr (5, [.int (qf), .int (qt), .ref mvs, .ref mvl, .ref mvc, .int (qn), .int (qs), .int (qk), .int (qo), .ref mvk, .ref mvt, .ref mvg, .int (qa), .int (qm), .ref mvh, .ref mvrk, .ref mvrt, .ref mvrg, .int (qg), .int (qp), .int (qu), .int (ql), .int (qe), .int (qb), .int (qw), .ref mvf, .int (qi), .int (qj), .int (qr), .ref mvq, .ref mvp, .ref mve])), (mvs, .inl (cI, 4, .inl (vs))), (mvl, .inl (cI, 4, .inl (vl))), (mvc, .inl (cI, 240, .inl (vc))), (mvk, .inl (cI, 10, .inl (vk))), (mvt, .inl (cI, 10, .inl (vt))), (mvg, .inl (cZ, 10, .inl (vg))), (mvh, .inl (cI, 3, .inl (vh))), (mvrk, .inl (cI, 10, .inl (vrk))), (mvrt, .inl (cI, 10, .inl (vrt))), (mvrg, .inl (cZ, 10, .inl (vrg)))] H → va_D A [(am, .inr (5, [.int (qf), .int (qt), .ref mvs, .ref mvl, .ref mvc, .int (qn), .int (qs), .int (qk), .int (qo), .ref mvk, .ref mvt, .ref mvg, .int (qa), .int (qm), .ref mvh, .ref mvrk, .ref mvrt, .ref mvrg, .int (qg), .int (qp), .int (qu), .int (ql), .int (qe), .int (qb), .int (qw), .ref mvf, .int (qi), .int (qj), .int (qr), .ref mvq, .ref mvp, .ref mve])), (mvs, .inl (cI, 4, .inl (vs))), (mvl, .inl (cI, 4, .inl (vl))), (mvc, .inl (cI, 240, .inl (vc))), (mvk, .inl (cI, 10, .inl (vk))), (mvt, .inl (cI, 10, .inl (vt))), (mvg, .inl (cZ, 10, .inl (vg))), (mvh, .inl (cI, 3, .inl (vh))), (mvrk, .inl (cI, 10, .inl (vrk))), (mvrt, .inl (cI, 10, .inl (vrt))), (mvrg, .inl (cZ, 10, .inl (vrg)))] → va_S A s.heap H locs → ∀ (ls : Array Slot), lv_has ls 8 [(0, .ref am)] → W p l e ({ frames := 4, cells := 0, slots := 0, locals := 89 }) s m args below meth c H locs 0 0 Q (F0 m 182 ls [])) (n : Nat) (x7 : Int32) (qf : Int32) (qn : Int32) (qs : Int32) (qk : Int32) (qo : Int32) (qa : Int32) (qm : Int32) (qr : Int32) (vk : Nat → Int32) (vt : Nat → Int32) (vg : Nat → Int32) (vh : Nat → Int32) (vrk : Nat → Int32) (vrt : Nat → Int32) (vrg : Nat → Int32), f_X5_street_L125 k182 n x7 qf qn qs qk qo qa qm qr vk vt vg vh vrk vrt vrg = some res → ∀ (H : Heap) (locs : List Loc), va_P D vwCl [(am, .inr (5, [.int (qf), .int (qt), .ref mvs, .ref mvl, .ref mvc, .int (qn), .int (qs), .int (qk), .int (qo), .ref mvk, .ref mvt, .ref mvg, .int (qa), .int (qm), .ref mvh, .ref mvrk, .ref mvrt, .ref mvrg, .int (qg), .int (qp), .int (qu), .int (ql), .int (qe), .int (qb), .int (qw), .ref mvf, .int (qi), .int (qj), .int (qr), .ref mvq, .ref mvp, .ref mve])), (mvs, .inl (cI, 4, .inl (vs))), (mvl, .inl (cI, 4, .inl (vl))), (mvc, .inl (cI, 240, .inl (vc))), (mvk, .inl (cI, 10, .inl (vk))), (mvt, .inl (cI, 10, .inl (vt))), (mvg, .inl (cZ, 10, .inl (vg))), (mvh, .inl (cI, 3, .inl (vh))), (mvrk, .inl (cI, 10, .inl (vrk))), (mvrt, .inl (cI, 10, .inl (vrt))), (mvrg, .inl (cZ, 10, .inl (vrg)))] H → va_D A [(am, .inr (5, [.int (qf), .int (qt), .ref mvs, .ref mvl, .ref mvc, .int (qn), .int (qs), .int (qk), .int (qo), .ref mvk, .ref mvt, .ref mvg, .int (qa), .int (qm), .ref mvh, .ref mvrk, .ref mvrt, .ref mvrg, .int (qg), .int (qp), .int (qu), .int (ql), .int (qe), .int (qb), .int (qw), .ref mvf, .int (qi), .int (qj), .int (qr), .ref mvq, .ref mvp, .ref mve])), (mvs, .inl (cI, 4, .inl (vs))), (mvl, .inl (cI, 4, .inl (vl))), (mvc, .inl (cI, 240, .inl (vc))), (mvk, .inl (cI, 10, .inl (vk))), (mvt, .inl (cI, 10, .inl (vt))), (mvg, .inl (cZ, 10, .inl (vg))), (mvh, .inl (cI, 3, .inl (vh))), (mvrk, .inl (cI, 10, .inl (vrk))), (mvrt, .inl (cI, 10, .inl (vrt))), (mvrg, .inl (cZ, 10, .inl (vrg)))] → va_S A s.heap H locs → ∀ (ls : Array Slot), lv_has ls 8 [(0, .ref am), (7, .int (x7))] → W p l e ({ frames := 4, cells := 0, slots := 0, locals := 89 }) s m args below meth c H locs 0 0 Q (F0 m 125 ls []) := by
    intro k182 hk182 n
    induction n with
    | zero => intro x7 qf qn qs qk qo qa qm qr vk vt vg vh vrk vrt vrg hg; rw [f_X5_street_L125] at hg; cases hg
    | succ n ih =>
      intro x7 qf qn qs qk qo qa qm qr vk vt vg vh vrk vrt vrg hg H locs hP hD hS ls hl
      rw [f_X5_street_L125] at hg
      refine lv_iload hx hb dX5_street_125 (lv_at hl 1 rfl) ?_
      refine lv_aload_n hx hb dX5_street_127 rfl (lv_at hl 0 rfl) ?_
      refine va_get (D := D) (ci := 5) (v := .int (qn)) (C := RX5) (T := TX5) (N := 32) hx hb hts inX5 hown hK hP 0 rfl rfl 5 (by decide) (hts (.fieldLink RX5 63 "ScooterFlagsModel" "flags" "I") (by decide +kernel)) (fun _ h9 => h9) rfl dX5_street_128 ?_
      refine lv_icmp_ge (tgt := 182) hx hb dX5_street_131 (by decide) (fun c16 => ?_) (fun c16 => ?_)
      · have hg := it hg c16
        exact hk182 qf qn qs qk qo qa qm qr vk vt vg vh vrk vrt vrg hg _ _ hP hD hS _ (lv_sub hl [0] rfl)
      · have hg := ie hg c16
        refine lv_aload_n hx hb dX5_street_134 rfl (lv_at hl 0 rfl) ?_
        refine va_get (D := D) (ci := 5) (v := .ref mvk) (C := RX5) (T := TX5) (N := 32) hx hb hts inX5 hown hK hP 0 rfl rfl 9 (by decide) (hts (.fieldLink RX5 19 "ScooterFlagsModel" "kind" "[I") (by decide +kernel)) (fun _ h9 => h9) rfl dX5_street_135 ?_
        refine lv_iload hx hb dX5_street_138 (lv_at hl 1 rfl) ?_
        refine lv_aload_n hx hb dX5_street_140 rfl (lv_at hl 0 rfl) ?_
        refine va_get (D := D) (ci := 5) (v := .ref mvrk) (C := RX5) (T := TX5) (N := 32) hx hb hts inX5 hown hK hP 0 rfl rfl 15 (by decide) (hts (.fieldLink RX5 32 "ScooterFlagsModel" "readKind" "[I") (by decide +kernel)) (fun _ h9 => h9) rfl dX5_street_141 ?_
        refine lv_iload hx hb dX5_street_144 (lv_at hl 1 rfl) ?_
        obtain ⟨g17, hg⟩ := gxo hg
        refine va_iald hx hb hK hP 8 0 rfl rfl g17 dX5_street_146 ?_
        refine W.eq (g2 := F0 m 147 ls [.int ((vrk x7.toNatClampNeg)), .int (x7), .ref mvk]) rfl ?_
        obtain ⟨g18, hg⟩ := gxo hg
        refine va_iast hx hb hK hP hD hS 4 0 rfl rfl g18 dX5_street_147 (fun H locs hP hD hS => ?_)
        have hP : va_P D vwCl [(am, .inr (5, [.int (qf), .int (qt), .ref mvs, .ref mvl, .ref mvc, .int (qn), .int (qs), .int (qk), .int (qo), .ref mvk, .ref mvt, .ref mvg, .int (qa), .int (qm), .ref mvh, .ref mvrk, .ref mvrt, .ref mvrg, .int (qg), .int (qp), .int (qu), .int (ql), .int (qe), .int (qb), .int (qw), .ref mvf, .int (qi), .int (qj), .int (qr), .ref mvq, .ref mvp, .ref mve])), (mvs, .inl (cI, 4, .inl (vs))), (mvl, .inl (cI, 4, .inl (vl))), (mvc, .inl (cI, 240, .inl (vc))), (mvk, .inl (cI, 10, .inl ((upd vk x7.toNatClampNeg (vrk x7.toNatClampNeg))))), (mvt, .inl (cI, 10, .inl (vt))), (mvg, .inl (cZ, 10, .inl (vg))), (mvh, .inl (cI, 3, .inl (vh))), (mvrk, .inl (cI, 10, .inl (vrk))), (mvrt, .inl (cI, 10, .inl (vrt))), (mvrg, .inl (cZ, 10, .inl (vrg)))] H := hP
        have hD : va_D A [(am, .inr (5, [.int (qf), .int (qt), .ref mvs, .ref mvl, .ref mvc, .int (qn), .int (qs), .int (qk), .int (qo), .ref mvk, .ref mvt, .ref mvg, .int (qa), .int (qm), .ref mvh, .ref mvrk, .ref mvrt, .ref mvrg, .int (qg), .int (qp), .int (qu), .int (ql), .int (qe), .int (qb), .int (qw), .ref mvf, .int (qi), .int (qj), .int (qr), .ref mvq, .ref mvp, .ref mve])), (mvs, .inl (cI, 4, .inl (vs))), (mvl, .inl (cI, 4, .inl (vl))), (mvc, .inl (cI, 240, .inl (vc))), (mvk, .inl (cI, 10, .inl ((upd vk x7.toNatClampNeg (vrk x7.toNatClampNeg))))), (mvt, .inl (cI, 10, .inl (vt))), (mvg, .inl (cZ, 10, .inl (vg))), (mvh, .inl (cI, 3, .inl (vh))), (mvrk, .inl (cI, 10, .inl (vrk))), (mvrt, .inl (cI, 10, .inl (vrt))), (mvrg, .inl (cZ, 10, .inl (vrg)))] := hD
        refine lv_aload_n hx hb dX5_street_148 rfl (lv_at hl 0 rfl) ?_
        refine va_get (D := D) (ci := 5) (v := .ref mvt) (C := RX5) (T := TX5) (N := 32) hx hb hts inX5 hown hK hP 0 rfl rfl 10 (by decide) (hts (.fieldLink RX5 22 "ScooterFlagsModel" "takes" "[I") (by decide +kernel)) (fun _ h9 => h9) rfl dX5_street_149 ?_
        refine lv_iload hx hb dX5_street_152 (lv_at hl 1 rfl) ?_
        refine lv_aload_n hx hb dX5_street_154 rfl (lv_at hl 0 rfl) ?_
        refine va_get (D := D) (ci := 5) (v := .ref mvrt) (C := RX5) (T := TX5) (N := 32) hx hb hts inX5 hown hK hP 0 rfl rfl 16 (by decide) (hts (.fieldLink RX5 35 "ScooterFlagsModel" "readTakes" "[I") (by decide +kernel)) (fun _ h9 => h9) rfl dX5_street_155 ?_
        refine lv_iload hx hb dX5_street_158 (lv_at hl 1 rfl) ?_
        obtain ⟨g19, hg⟩ := gxo hg
        refine va_iald hx hb hK hP 9 0 rfl rfl g19 dX5_street_160 ?_
        refine W.eq (g2 := F0 m 161 ls [.int ((vrt x7.toNatClampNeg)), .int (x7), .ref mvt]) rfl ?_
        obtain ⟨g20, hg⟩ := gxo hg
        refine va_iast hx hb hK hP hD hS 5 0 rfl rfl g20 dX5_street_161 (fun H locs hP hD hS => ?_)
        have hP : va_P D vwCl [(am, .inr (5, [.int (qf), .int (qt), .ref mvs, .ref mvl, .ref mvc, .int (qn), .int (qs), .int (qk), .int (qo), .ref mvk, .ref mvt, .ref mvg, .int (qa), .int (qm), .ref mvh, .ref mvrk, .ref mvrt, .ref mvrg, .int (qg), .int (qp), .int (qu), .int (ql), .int (qe), .int (qb), .int (qw), .ref mvf, .int (qi), .int (qj), .int (qr), .ref mvq, .ref mvp, .ref mve])), (mvs, .inl (cI, 4, .inl (vs))), (mvl, .inl (cI, 4, .inl (vl))), (mvc, .inl (cI, 240, .inl (vc))), (mvk, .inl (cI, 10, .inl ((upd vk x7.toNatClampNeg (vrk x7.toNatClampNeg))))), (mvt, .inl (cI, 10, .inl ((upd vt x7.toNatClampNeg (vrt x7.toNatClampNeg))))), (mvg, .inl (cZ, 10, .inl (vg))), (mvh, .inl (cI, 3, .inl (vh))), (mvrk, .inl (cI, 10, .inl (vrk))), (mvrt, .inl (cI, 10, .inl (vrt))), (mvrg, .inl (cZ, 10, .inl (vrg)))] H := hP
        have hD : va_D A [(am, .inr (5, [.int (qf), .int (qt), .ref mvs, .ref mvl, .ref mvc, .int (qn), .int (qs), .int (qk), .int (qo), .ref mvk, .ref mvt, .ref mvg, .int (qa), .int (qm), .ref mvh, .ref mvrk, .ref mvrt, .ref mvrg, .int (qg), .int (qp), .int (qu), .int (ql), .int (qe), .int (qb), .int (qw), .ref mvf, .int (qi), .int (qj), .int (qr), .ref mvq, .ref mvp, .ref mve])), (mvs, .inl (cI, 4, .inl (vs))), (mvl, .inl (cI, 4, .inl (vl))), (mvc, .inl (cI, 240, .inl (vc))), (mvk, .inl (cI, 10, .inl ((upd vk x7.toNatClampNeg (vrk x7.toNatClampNeg))))), (mvt, .inl (cI, 10, .inl ((upd vt x7.toNatClampNeg (vrt x7.toNatClampNeg))))), (mvg, .inl (cZ, 10, .inl (vg))), (mvh, .inl (cI, 3, .inl (vh))), (mvrk, .inl (cI, 10, .inl (vrk))), (mvrt, .inl (cI, 10, .inl (vrt))), (mvrg, .inl (cZ, 10, .inl (vrg)))] := hD
        refine lv_aload_n hx hb dX5_street_162 rfl (lv_at hl 0 rfl) ?_
        refine va_get (D := D) (ci := 5) (v := .ref mvg) (C := RX5) (T := TX5) (N := 32) hx hb hts inX5 hown hK hP 0 rfl rfl 11 (by decide) (hts (.fieldLink RX5 25 "ScooterFlagsModel" "grated" "[Z") (by decide +kernel)) (fun _ h9 => h9) rfl dX5_street_163 ?_
        refine lv_iload hx hb dX5_street_166 (lv_at hl 1 rfl) ?_
        refine lv_aload_n hx hb dX5_street_168 rfl (lv_at hl 0 rfl) ?_
        refine va_get (D := D) (ci := 5) (v := .ref mvrg) (C := RX5) (T := TX5) (N := 32) hx hb hts inX5 hown hK hP 0 rfl rfl 17 (by decide) (hts (.fieldLink RX5 38 "ScooterFlagsModel" "readGrated" "[Z") (by decide +kernel)) (fun _ h9 => h9) rfl dX5_street_169 ?_
        refine lv_iload hx hb dX5_street_172 (lv_at hl 1 rfl) ?_
        obtain ⟨g21, hg⟩ := gxo hg
        refine va_zald hx hb hK hP 10 1 rfl rfl g21 dX5_street_174 ?_
        refine W.eq (g2 := F0 m 175 ls [.int ((vrg x7.toNatClampNeg)), .int (x7), .ref mvg]) rfl ?_
        obtain ⟨g22, hg⟩ := gxo hg
        obtain ⟨g23, hg⟩ := gdo hg
        refine va_zast hx hb hK hP hD hS 6 1 rfl rfl g22 dX5_street_175 (fun H locs hP hD hS => ?_)
        rw [zbv g23] at hP hD
        have hP : va_P D vwCl [(am, .inr (5, [.int (qf), .int (qt), .ref mvs, .ref mvl, .ref mvc, .int (qn), .int (qs), .int (qk), .int (qo), .ref mvk, .ref mvt, .ref mvg, .int (qa), .int (qm), .ref mvh, .ref mvrk, .ref mvrt, .ref mvrg, .int (qg), .int (qp), .int (qu), .int (ql), .int (qe), .int (qb), .int (qw), .ref mvf, .int (qi), .int (qj), .int (qr), .ref mvq, .ref mvp, .ref mve])), (mvs, .inl (cI, 4, .inl (vs))), (mvl, .inl (cI, 4, .inl (vl))), (mvc, .inl (cI, 240, .inl (vc))), (mvk, .inl (cI, 10, .inl ((upd vk x7.toNatClampNeg (vrk x7.toNatClampNeg))))), (mvt, .inl (cI, 10, .inl ((upd vt x7.toNatClampNeg (vrt x7.toNatClampNeg))))), (mvg, .inl (cZ, 10, .inl ((upd vg x7.toNatClampNeg (vrg x7.toNatClampNeg))))), (mvh, .inl (cI, 3, .inl (vh))), (mvrk, .inl (cI, 10, .inl (vrk))), (mvrt, .inl (cI, 10, .inl (vrt))), (mvrg, .inl (cZ, 10, .inl (vrg)))] H := hP
        have hD : va_D A [(am, .inr (5, [.int (qf), .int (qt), .ref mvs, .ref mvl, .ref mvc, .int (qn), .int (qs), .int (qk), .int (qo), .ref mvk, .ref mvt, .ref mvg, .int (qa), .int (qm), .ref mvh, .ref mvrk, .ref mvrt, .ref mvrg, .int (qg), .int (qp), .int (qu), .int (ql), .int (qe), .int (qb), .int (qw), .ref mvf, .int (qi), .int (qj), .int (qr), .ref mvq, .ref mvp, .ref mve])), (mvs, .inl (cI, 4, .inl (vs))), (mvl, .inl (cI, 4, .inl (vl))), (mvc, .inl (cI, 240, .inl (vc))), (mvk, .inl (cI, 10, .inl ((upd vk x7.toNatClampNeg (vrk x7.toNatClampNeg))))), (mvt, .inl (cI, 10, .inl ((upd vt x7.toNatClampNeg (vrt x7.toNatClampNeg))))), (mvg, .inl (cZ, 10, .inl ((upd vg x7.toNatClampNeg (vrg x7.toNatClampNeg))))), (mvh, .inl (cI, 3, .inl (vh))), (mvrk, .inl (cI, 10, .inl (vrk))), (mvrt, .inl (cI, 10, .inl (vrt))), (mvrg, .inl (cZ, 10, .inl (vrg)))] := hD
        refine lv_iinc (v := (x7 + (1 : Int32))) (lv' := [(7, .int ((x7 + (1 : Int32)))), (0, .ref am)]) hx hb dX5_street_176 hl (k := 1) rfl rfl (by decide) rfl (fun ls hl => ?_)
        refine lv_goto (tgt := 125) hx hb dX5_street_179 (by decide) ?_
        exact ih (x7 + (1 : Int32)) qf qn qs qk qo qa qm qr (upd vk x7.toNatClampNeg (vrk x7.toNatClampNeg)) (upd vt x7.toNatClampNeg (vrt x7.toNatClampNeg)) (upd vg x7.toNatClampNeg (vrg x7.toNatClampNeg)) vh vrk vrt vrg hg _ _ hP hD hS _ (lv_sub hl [1, 0] rfl)
  have hl : lv_has ls 8 [(0, .ref am), (1, .int (zs)), (2, .int (zl)), (3, .int (zi)), (4, .int (zn))] := hl
  rw [f_X5_street] at hg
  refine lv_aload_n hx hb dX5_street_0 rfl (lv_at hl 0 rfl) ?_
  refine lv_iconst (v := (0 : Int32)) hx hb dX5_street_1 (by decide) ?_
  refine va_put (D := D) (ci := 5) (v := .int ((0 : Int32))) (ty := .int) (C := RX5) (T := TX5) (N := 32) hx hb hts inX5 tyX5 tyX5_ok nmX5 hown hK hP hD hS 0 rfl rfl 0 (by decide) (hts (.fieldLink RX5 53 "ScooterFlagsModel" "fault" "I") (by decide +kernel)) (fun _ h9 => h9) rfl (by decide +kernel) rfl rfl (Nat.le_of_ble_eq_true rfl) dX5_street_2 (fun H locs hP hD hS => ?_)
  have hP : va_P D vwCl [(am, .inr (5, [.int ((0 : Int32)), .int (qt), .ref mvs, .ref mvl, .ref mvc, .int (qn), .int (qs), .int (qk), .int (qo), .ref mvk, .ref mvt, .ref mvg, .int (qa), .int (qm), .ref mvh, .ref mvrk, .ref mvrt, .ref mvrg, .int (qg), .int (qp), .int (qu), .int (ql), .int (qe), .int (qb), .int (qw), .ref mvf, .int (qi), .int (qj), .int (qr), .ref mvq, .ref mvp, .ref mve])), (mvs, .inl (cI, 4, .inl (vs))), (mvl, .inl (cI, 4, .inl (vl))), (mvc, .inl (cI, 240, .inl (vc))), (mvk, .inl (cI, 10, .inl (vk))), (mvt, .inl (cI, 10, .inl (vt))), (mvg, .inl (cZ, 10, .inl (vg))), (mvh, .inl (cI, 3, .inl (vh))), (mvrk, .inl (cI, 10, .inl (vrk))), (mvrt, .inl (cI, 10, .inl (vrt))), (mvrg, .inl (cZ, 10, .inl (vrg)))] H := hP
  have hD : va_D A [(am, .inr (5, [.int ((0 : Int32)), .int (qt), .ref mvs, .ref mvl, .ref mvc, .int (qn), .int (qs), .int (qk), .int (qo), .ref mvk, .ref mvt, .ref mvg, .int (qa), .int (qm), .ref mvh, .ref mvrk, .ref mvrt, .ref mvrg, .int (qg), .int (qp), .int (qu), .int (ql), .int (qe), .int (qb), .int (qw), .ref mvf, .int (qi), .int (qj), .int (qr), .ref mvq, .ref mvp, .ref mve])), (mvs, .inl (cI, 4, .inl (vs))), (mvl, .inl (cI, 4, .inl (vl))), (mvc, .inl (cI, 240, .inl (vc))), (mvk, .inl (cI, 10, .inl (vk))), (mvt, .inl (cI, 10, .inl (vt))), (mvg, .inl (cZ, 10, .inl (vg))), (mvh, .inl (cI, 3, .inl (vh))), (mvrk, .inl (cI, 10, .inl (vrk))), (mvrt, .inl (cI, 10, .inl (vrt))), (mvrg, .inl (cZ, 10, .inl (vrg)))] := hD
  refine lv_iload_n hx hb dX5_street_5 rfl (lv_at hl 1 rfl) ?_
  obtain ⟨o1, h2, hg⟩ := bd hg
  refine xcSi (As := [.int (zs)]) (rest := []) (wc := []) (wr := [(am, .inr (5, [.int ((0 : Int32)), .int (qt), .ref mvs, .ref mvl, .ref mvc, .int (qn), .int (qs), .int (qk), .int (qo), .ref mvk, .ref mvt, .ref mvg, .int (qa), .int (qm), .ref mvh, .ref mvrk, .ref mvrt, .ref mvrg, .int (qg), .int (qp), .int (qu), .int (ql), .int (qe), .int (qb), .int (qw), .ref mvf, .int (qi), .int (qj), .int (qr), .ref mvq, .ref mvp, .ref mve])), (mvs, .inl (cI, 4, .inl (vs))), (mvl, .inl (cI, 4, .inl (vl))), (mvc, .inl (cI, 240, .inl (vc))), (mvk, .inl (cI, 10, .inl (vk))), (mvt, .inl (cI, 10, .inl (vt))), (mvg, .inl (cZ, 10, .inl (vg))), (mvh, .inl (cI, 3, .inl (vh))), (mvrk, .inl (cI, 10, .inl (vrk))), (mvrt, .inl (cI, 10, .inl (vrt))), (mvrg, .inl (cZ, 10, .inl (vrg)))]) ⟨hx, hb, hml, hown, hts⟩ (c_X5_isSheet l D cI cZ cR zs h2) (cwS 1 hts gX5_street_X5_isSheet rfl rfl rfl (by decide +kernel) ⟨Nat.le_of_ble_eq_true rfl, Nat.le_of_ble_eq_true rfl⟩) hK hP hD hS hA [] [0, 1, 2, 3, 4, 5, 6, 7, 8, 9, 10] rfl rfl (by decide) (by decide) (by decide) rfl rfl hl.1 (lv_room (Nat.le_of_ble_eq_true rfl)) dX5_street_6 ⟨Nat.le_of_ble_eq_true rfl, Nat.le_of_ble_eq_true rfl⟩ (fun r u H locs hu hP hD hS => ?_)
  obtain ⟨rfl, rfl⟩ := hu
  have hP : va_P D vwCl [(am, .inr (5, [.int ((0 : Int32)), .int (qt), .ref mvs, .ref mvl, .ref mvc, .int (qn), .int (qs), .int (qk), .int (qo), .ref mvk, .ref mvt, .ref mvg, .int (qa), .int (qm), .ref mvh, .ref mvrk, .ref mvrt, .ref mvrg, .int (qg), .int (qp), .int (qu), .int (ql), .int (qe), .int (qb), .int (qw), .ref mvf, .int (qi), .int (qj), .int (qr), .ref mvq, .ref mvp, .ref mve])), (mvs, .inl (cI, 4, .inl (vs))), (mvl, .inl (cI, 4, .inl (vl))), (mvc, .inl (cI, 240, .inl (vc))), (mvk, .inl (cI, 10, .inl (vk))), (mvt, .inl (cI, 10, .inl (vt))), (mvg, .inl (cZ, 10, .inl (vg))), (mvh, .inl (cI, 3, .inl (vh))), (mvrk, .inl (cI, 10, .inl (vrk))), (mvrt, .inl (cI, 10, .inl (vrt))), (mvrg, .inl (cZ, 10, .inl (vrg)))] H := hP.sub [0, 1, 2, 3, 4, 5, 6, 7, 8, 9, 10] rfl
  have hD : va_D A [(am, .inr (5, [.int ((0 : Int32)), .int (qt), .ref mvs, .ref mvl, .ref mvc, .int (qn), .int (qs), .int (qk), .int (qo), .ref mvk, .ref mvt, .ref mvg, .int (qa), .int (qm), .ref mvh, .ref mvrk, .ref mvrt, .ref mvrg, .int (qg), .int (qp), .int (qu), .int (ql), .int (qe), .int (qb), .int (qw), .ref mvf, .int (qi), .int (qj), .int (qr), .ref mvq, .ref mvp, .ref mve])), (mvs, .inl (cI, 4, .inl (vs))), (mvl, .inl (cI, 4, .inl (vl))), (mvc, .inl (cI, 240, .inl (vc))), (mvk, .inl (cI, 10, .inl (vk))), (mvt, .inl (cI, 10, .inl (vt))), (mvg, .inl (cZ, 10, .inl (vg))), (mvh, .inl (cI, 3, .inl (vh))), (mvrk, .inl (cI, 10, .inl (vrk))), (mvrt, .inl (cI, 10, .inl (vrt))), (mvrg, .inl (cZ, 10, .inl (vrg)))] := hD.sub [0, 1, 2, 3, 4, 5, 6, 7, 8, 9, 10] (by decide) rfl
  refine lv_if_ne (tgt := 14) hx hb dX5_street_9 (by decide) (fun c3 => ?_) (fun c3 => ?_)
  · have hg := ie hg c3
    refine lv_iload_n hx hb dX5_street_14 rfl (lv_at hl 2 rfl) ?_
    obtain ⟨o4, h5, hg⟩ := bd hg
    refine xcSi (As := [.int (zl)]) (rest := []) (wc := []) (wr := [(am, .inr (5, [.int ((0 : Int32)), .int (qt), .ref mvs, .ref mvl, .ref mvc, .int (qn), .int (qs), .int (qk), .int (qo), .ref mvk, .ref mvt, .ref mvg, .int (qa), .int (qm), .ref mvh, .ref mvrk, .ref mvrt, .ref mvrg, .int (qg), .int (qp), .int (qu), .int (ql), .int (qe), .int (qb), .int (qw), .ref mvf, .int (qi), .int (qj), .int (qr), .ref mvq, .ref mvp, .ref mve])), (mvs, .inl (cI, 4, .inl (vs))), (mvl, .inl (cI, 4, .inl (vl))), (mvc, .inl (cI, 240, .inl (vc))), (mvk, .inl (cI, 10, .inl (vk))), (mvt, .inl (cI, 10, .inl (vt))), (mvg, .inl (cZ, 10, .inl (vg))), (mvh, .inl (cI, 3, .inl (vh))), (mvrk, .inl (cI, 10, .inl (vrk))), (mvrt, .inl (cI, 10, .inl (vrt))), (mvrg, .inl (cZ, 10, .inl (vrg)))]) ⟨hx, hb, hml, hown, hts⟩ (c_X5_isSort l D cI cZ cR zl h5) (cwS 1 hts gX5_street_X5_isSort rfl rfl rfl (by decide +kernel) ⟨Nat.le_of_ble_eq_true rfl, Nat.le_of_ble_eq_true rfl⟩) hK hP hD hS hA [] [0, 1, 2, 3, 4, 5, 6, 7, 8, 9, 10] rfl rfl (by decide) (by decide) (by decide) rfl rfl hl.1 (lv_room (Nat.le_of_ble_eq_true rfl)) dX5_street_15 ⟨Nat.le_of_ble_eq_true rfl, Nat.le_of_ble_eq_true rfl⟩ (fun r u H locs hu hP hD hS => ?_)
    obtain ⟨rfl, rfl⟩ := hu
    have hP : va_P D vwCl [(am, .inr (5, [.int ((0 : Int32)), .int (qt), .ref mvs, .ref mvl, .ref mvc, .int (qn), .int (qs), .int (qk), .int (qo), .ref mvk, .ref mvt, .ref mvg, .int (qa), .int (qm), .ref mvh, .ref mvrk, .ref mvrt, .ref mvrg, .int (qg), .int (qp), .int (qu), .int (ql), .int (qe), .int (qb), .int (qw), .ref mvf, .int (qi), .int (qj), .int (qr), .ref mvq, .ref mvp, .ref mve])), (mvs, .inl (cI, 4, .inl (vs))), (mvl, .inl (cI, 4, .inl (vl))), (mvc, .inl (cI, 240, .inl (vc))), (mvk, .inl (cI, 10, .inl (vk))), (mvt, .inl (cI, 10, .inl (vt))), (mvg, .inl (cZ, 10, .inl (vg))), (mvh, .inl (cI, 3, .inl (vh))), (mvrk, .inl (cI, 10, .inl (vrk))), (mvrt, .inl (cI, 10, .inl (vrt))), (mvrg, .inl (cZ, 10, .inl (vrg)))] H := hP.sub [0, 1, 2, 3, 4, 5, 6, 7, 8, 9, 10] rfl
    have hD : va_D A [(am, .inr (5, [.int ((0 : Int32)), .int (qt), .ref mvs, .ref mvl, .ref mvc, .int (qn), .int (qs), .int (qk), .int (qo), .ref mvk, .ref mvt, .ref mvg, .int (qa), .int (qm), .ref mvh, .ref mvrk, .ref mvrt, .ref mvrg, .int (qg), .int (qp), .int (qu), .int (ql), .int (qe), .int (qb), .int (qw), .ref mvf, .int (qi), .int (qj), .int (qr), .ref mvq, .ref mvp, .ref mve])), (mvs, .inl (cI, 4, .inl (vs))), (mvl, .inl (cI, 4, .inl (vl))), (mvc, .inl (cI, 240, .inl (vc))), (mvk, .inl (cI, 10, .inl (vk))), (mvt, .inl (cI, 10, .inl (vt))), (mvg, .inl (cZ, 10, .inl (vg))), (mvh, .inl (cI, 3, .inl (vh))), (mvrk, .inl (cI, 10, .inl (vrk))), (mvrt, .inl (cI, 10, .inl (vrt))), (mvrg, .inl (cZ, 10, .inl (vrg)))] := hD.sub [0, 1, 2, 3, 4, 5, 6, 7, 8, 9, 10] (by decide) rfl
    refine lv_if_ne (tgt := 24) hx hb dX5_street_18 (by decide) (fun c6 => ?_) (fun c6 => ?_)
    · have hg := ie hg c6
      refine lv_aload_n hx hb dX5_street_24 rfl (lv_at hl 0 rfl) ?_
      refine lv_iload_n hx hb dX5_street_25 rfl (lv_at hl 1 rfl) ?_
      refine lv_iload_n hx hb dX5_street_26 rfl (lv_at hl 2 rfl) ?_
      refine lv_iload_n hx hb dX5_street_27 rfl (lv_at hl 3 rfl) ?_
      refine lv_iload hx hb dX5_street_28 (lv_at hl 4 rfl) ?_
      obtain ⟨o7, h8, hg⟩ := bd hg
      refine xcVi (As := [.int (zs), .int (zl), .int (zi), .int (zn)]) (rest := []) (wc := [(am, .inr (5, [.int ((0 : Int32)), .int (qt), .ref mvs, .ref mvl, .ref mvc, .int (qn), .int (qs), .int (qk), .int (qo), .ref mvk, .ref mvt, .ref mvg, .int (qa), .int (qm), .ref mvh, .ref mvrk, .ref mvrt, .ref mvrg, .int (qg), .int (qp), .int (qu), .int (ql), .int (qe), .int (qb), .int (qw), .ref mvf, .int (qi), .int (qj), .int (qr), .ref mvq, .ref mvp, .ref mve])), (mvs, .inl (cI, 4, .inl (vs))), (mvl, .inl (cI, 4, .inl (vl)))]) (wr := [(mvc, .inl (cI, 240, .inl (vc))), (mvk, .inl (cI, 10, .inl (vk))), (mvt, .inl (cI, 10, .inl (vt))), (mvg, .inl (cZ, 10, .inl (vg))), (mvh, .inl (cI, 3, .inl (vh))), (mvrk, .inl (cI, 10, .inl (vrk))), (mvrt, .inl (cI, 10, .inl (vrt))), (mvrg, .inl (cZ, 10, .inl (vrg)))]) ⟨hx, hb, hml, hown, hts⟩ (c_X5_against l D cI cZ cR am mvs mvl mvc mvk mvt mvg mvh mvrk mvrt mvrg mvf mvq mvp mve (0 : Int32) qt qn qs qk qo qa qm qg qp qu ql qe qb qw qi qj qr vs vl zs zl zi zn h8) (cwV 4 hts gX5_street_X5_against rfl rfl rfl (by decide +kernel) ⟨Nat.le_of_ble_eq_true rfl, Nat.le_of_ble_eq_true rfl⟩) hK hP hD hS hA [0, 1, 2] [3, 4, 5, 6, 7, 8, 9, 10] rfl rfl (by decide) (by decide) (by decide) (va_recv hK hP (ci := 5) (q0 := 0) rfl rfl) rfl rfl hl.1 (lv_room (Nat.le_of_ble_eq_true rfl)) dX5_street_30 ⟨Nat.le_of_ble_eq_true rfl, Nat.le_of_ble_eq_true rfl⟩ (fun r u H locs hu hP hD hS => ?_)
      obtain ⟨rfl, rfl⟩ := hu
      have hP : va_P D vwCl [(am, .inr (5, [.int ((0 : Int32)), .int (qt), .ref mvs, .ref mvl, .ref mvc, .int (qn), .int (qs), .int (qk), .int (qo), .ref mvk, .ref mvt, .ref mvg, .int (qa), .int (qm), .ref mvh, .ref mvrk, .ref mvrt, .ref mvrg, .int (qg), .int (qp), .int (qu), .int (ql), .int (qe), .int (qb), .int (qw), .ref mvf, .int (qi), .int (qj), .int (qr), .ref mvq, .ref mvp, .ref mve])), (mvs, .inl (cI, 4, .inl (vs))), (mvl, .inl (cI, 4, .inl (vl))), (mvc, .inl (cI, 240, .inl (vc))), (mvk, .inl (cI, 10, .inl (vk))), (mvt, .inl (cI, 10, .inl (vt))), (mvg, .inl (cZ, 10, .inl (vg))), (mvh, .inl (cI, 3, .inl (vh))), (mvrk, .inl (cI, 10, .inl (vrk))), (mvrt, .inl (cI, 10, .inl (vrt))), (mvrg, .inl (cZ, 10, .inl (vrg)))] H := hP.sub [8, 9, 10, 0, 1, 2, 3, 4, 5, 6, 7] rfl
      have hD : va_D A [(am, .inr (5, [.int ((0 : Int32)), .int (qt), .ref mvs, .ref mvl, .ref mvc, .int (qn), .int (qs), .int (qk), .int (qo), .ref mvk, .ref mvt, .ref mvg, .int (qa), .int (qm), .ref mvh, .ref mvrk, .ref mvrt, .ref mvrg, .int (qg), .int (qp), .int (qu), .int (ql), .int (qe), .int (qb), .int (qw), .ref mvf, .int (qi), .int (qj), .int (qr), .ref mvq, .ref mvp, .ref mve])), (mvs, .inl (cI, 4, .inl (vs))), (mvl, .inl (cI, 4, .inl (vl))), (mvc, .inl (cI, 240, .inl (vc))), (mvk, .inl (cI, 10, .inl (vk))), (mvt, .inl (cI, 10, .inl (vt))), (mvg, .inl (cZ, 10, .inl (vg))), (mvh, .inl (cI, 3, .inl (vh))), (mvrk, .inl (cI, 10, .inl (vrk))), (mvrt, .inl (cI, 10, .inl (vrt))), (mvrg, .inl (cZ, 10, .inl (vrg)))] := hD.sub [8, 9, 10, 0, 1, 2, 3, 4, 5, 6, 7] (by decide) rfl
      refine lv_istore (lv' := [(5, .int (o7)), (0, .ref am), (1, .int (zs)), (2, .int (zl)), (3, .int (zi)), (4, .int (zn))]) hx hb dX5_street_33 hl (by decide) rfl (fun ls hl => ?_)
      refine lv_iload hx hb dX5_street_35 (lv_at hl 0 rfl) ?_
      refine lv_if_eq (tgt := 47) hx hb dX5_street_37 (by decide) (fun c9 => ?_) (fun c9 => ?_)
      · have hg := it hg c9
        refine lv_bipush (v := (60 : Int32)) hx hb dX5_street_47 (by decide) ?_
        refine lv_iload_n hx hb dX5_street_49 rfl (lv_at hl 2 rfl) ?_
        refine lv_imul hx hb dX5_street_50 ?_
        refine lv_iload_n hx hb dX5_street_51 rfl (lv_at hl 4 rfl) ?_
        refine lv_iadd hx hb dX5_street_52 ?_
        refine lv_istore (lv' := [(6, .int ((((60 : Int32) * zs) + zi))), (5, .int (o7)), (0, .ref am), (1, .int (zs)), (2, .int (zl)), (3, .int (zi)), (4, .int (zn))]) hx hb dX5_street_53 hl (by decide) rfl (fun ls hl => ?_)
        refine lv_aload_n hx hb dX5_street_55 rfl (lv_at hl 2 rfl) ?_
        refine lv_iload hx hb dX5_street_56 (lv_at hl 0 rfl) ?_
        refine va_put (D := D) (ci := 5) (v := .int ((((60 : Int32) * zs) + zi))) (ty := .int) (C := RX5) (T := TX5) (N := 32) hx hb hts inX5 tyX5 tyX5_ok nmX5 hown hK hP hD hS 0 rfl rfl 12 (by decide) (hts (.fieldLink RX5 66 "ScooterFlagsModel" "at" "I") (by decide +kernel)) (fun _ h9 => h9) rfl (by decide +kernel) rfl rfl (Nat.le_of_ble_eq_true rfl) dX5_street_58 (fun H locs hP hD hS => ?_)
        have hP : va_P D vwCl [(am, .inr (5, [.int ((0 : Int32)), .int (qt), .ref mvs, .ref mvl, .ref mvc, .int (qn), .int (qs), .int (qk), .int (qo), .ref mvk, .ref mvt, .ref mvg, .int ((((60 : Int32) * zs) + zi)), .int (qm), .ref mvh, .ref mvrk, .ref mvrt, .ref mvrg, .int (qg), .int (qp), .int (qu), .int (ql), .int (qe), .int (qb), .int (qw), .ref mvf, .int (qi), .int (qj), .int (qr), .ref mvq, .ref mvp, .ref mve])), (mvs, .inl (cI, 4, .inl (vs))), (mvl, .inl (cI, 4, .inl (vl))), (mvc, .inl (cI, 240, .inl (vc))), (mvk, .inl (cI, 10, .inl (vk))), (mvt, .inl (cI, 10, .inl (vt))), (mvg, .inl (cZ, 10, .inl (vg))), (mvh, .inl (cI, 3, .inl (vh))), (mvrk, .inl (cI, 10, .inl (vrk))), (mvrt, .inl (cI, 10, .inl (vrt))), (mvrg, .inl (cZ, 10, .inl (vrg)))] H := hP
        have hD : va_D A [(am, .inr (5, [.int ((0 : Int32)), .int (qt), .ref mvs, .ref mvl, .ref mvc, .int (qn), .int (qs), .int (qk), .int (qo), .ref mvk, .ref mvt, .ref mvg, .int ((((60 : Int32) * zs) + zi)), .int (qm), .ref mvh, .ref mvrk, .ref mvrt, .ref mvrg, .int (qg), .int (qp), .int (qu), .int (ql), .int (qe), .int (qb), .int (qw), .ref mvf, .int (qi), .int (qj), .int (qr), .ref mvq, .ref mvp, .ref mve])), (mvs, .inl (cI, 4, .inl (vs))), (mvl, .inl (cI, 4, .inl (vl))), (mvc, .inl (cI, 240, .inl (vc))), (mvk, .inl (cI, 10, .inl (vk))), (mvt, .inl (cI, 10, .inl (vt))), (mvg, .inl (cZ, 10, .inl (vg))), (mvh, .inl (cI, 3, .inl (vh))), (mvrk, .inl (cI, 10, .inl (vrk))), (mvrt, .inl (cI, 10, .inl (vrt))), (mvrg, .inl (cZ, 10, .inl (vrg)))] := hD
        refine lv_aload_n hx hb dX5_street_61 rfl (lv_at hl 2 rfl) ?_
        refine lv_iload hx hb dX5_street_62 (lv_at hl 0 rfl) ?_
        refine lv_iload hx hb dX5_street_64 (lv_at hl 6 rfl) ?_
        refine lv_iadd hx hb dX5_street_66 ?_
        obtain ⟨o10, h11, hg⟩ := bd hg
        refine xcVi (As := [.int (((((60 : Int32) * zs) + zi) + zn))]) (rest := []) (wc := [(am, .inr (5, [.int ((0 : Int32)), .int (qt), .ref mvs, .ref mvl, .ref mvc, .int (qn), .int (qs), .int (qk), .int (qo), .ref mvk, .ref mvt, .ref mvg, .int ((((60 : Int32) * zs) + zi)), .int (qm), .ref mvh, .ref mvrk, .ref mvrt, .ref mvrg, .int (qg), .int (qp), .int (qu), .int (ql), .int (qe), .int (qb), .int (qw), .ref mvf, .int (qi), .int (qj), .int (qr), .ref mvq, .ref mvp, .ref mve])), (mvc, .inl (cI, 240, .inl (vc))), (mvh, .inl (cI, 3, .inl (vh))), (mvrk, .inl (cI, 10, .inl (vrk))), (mvrt, .inl (cI, 10, .inl (vrt))), (mvrg, .inl (cZ, 10, .inl (vrg)))]) (wr := [(mvs, .inl (cI, 4, .inl (vs))), (mvl, .inl (cI, 4, .inl (vl))), (mvk, .inl (cI, 10, .inl (vk))), (mvt, .inl (cI, 10, .inl (vt))), (mvg, .inl (cZ, 10, .inl (vg)))]) ⟨hx, hb, hml, hown, hts⟩ (c_X5_readStreet l D cI cZ cR am mvc mvh mvrk mvrt mvrg mvs mvl mvk mvt mvg mvf mvq mvp mve (0 : Int32) qt qn qs qk qo (((60 : Int32) * zs) + zi) qm qg qp qu ql qe qb qw qi qj qr vc vh vrk vrt vrg ((((60 : Int32) * zs) + zi) + zn) h11) (cwV 1 hts gX5_street_X5_readStreet rfl rfl rfl (by decide +kernel) ⟨Nat.le_of_ble_eq_true rfl, Nat.le_of_ble_eq_true rfl⟩) hK hP hD hS hA [0, 3, 7, 8, 9, 10] [1, 2, 4, 5, 6] rfl rfl (by decide) (by decide) (by decide) (va_recv hK hP (ci := 5) (q0 := 0) rfl rfl) rfl rfl hl.1 (lv_room (Nat.le_of_ble_eq_true rfl)) dX5_street_67 ⟨Nat.le_of_ble_eq_true rfl, Nat.le_of_ble_eq_true rfl⟩ (fun r u H locs hu hP hD hS => ?_)
        obtain ⟨rfl, rfl⟩ := hu
        have hP : va_P D vwCl [(am, .inr (5, [.int ((0 : Int32)), .int (qt), .ref mvs, .ref mvl, .ref mvc, .int (qn), .int (qs), .int (qk), .int (qo), .ref mvk, .ref mvt, .ref mvg, .int (o10.2.1), .int (o10.2.2.1), .ref mvh, .ref mvrk, .ref mvrt, .ref mvrg, .int (qg), .int (qp), .int (qu), .int (ql), .int (qe), .int (qb), .int (qw), .ref mvf, .int (qi), .int (qj), .int (qr), .ref mvq, .ref mvp, .ref mve])), (mvs, .inl (cI, 4, .inl (vs))), (mvl, .inl (cI, 4, .inl (vl))), (mvc, .inl (cI, 240, .inl (vc))), (mvk, .inl (cI, 10, .inl (vk))), (mvt, .inl (cI, 10, .inl (vt))), (mvg, .inl (cZ, 10, .inl (vg))), (mvh, .inl (cI, 3, .inl (o10.2.2.2.1))), (mvrk, .inl (cI, 10, .inl (o10.2.2.2.2.1))), (mvrt, .inl (cI, 10, .inl (o10.2.2.2.2.2.1))), (mvrg, .inl (cZ, 10, .inl (o10.2.2.2.2.2.2)))] H := hP.sub [5, 0, 1, 6, 2, 3, 4, 7, 8, 9, 10] rfl
        have hD : va_D A [(am, .inr (5, [.int ((0 : Int32)), .int (qt), .ref mvs, .ref mvl, .ref mvc, .int (qn), .int (qs), .int (qk), .int (qo), .ref mvk, .ref mvt, .ref mvg, .int (o10.2.1), .int (o10.2.2.1), .ref mvh, .ref mvrk, .ref mvrt, .ref mvrg, .int (qg), .int (qp), .int (qu), .int (ql), .int (qe), .int (qb), .int (qw), .ref mvf, .int (qi), .int (qj), .int (qr), .ref mvq, .ref mvp, .ref mve])), (mvs, .inl (cI, 4, .inl (vs))), (mvl, .inl (cI, 4, .inl (vl))), (mvc, .inl (cI, 240, .inl (vc))), (mvk, .inl (cI, 10, .inl (vk))), (mvt, .inl (cI, 10, .inl (vt))), (mvg, .inl (cZ, 10, .inl (vg))), (mvh, .inl (cI, 3, .inl (o10.2.2.2.1))), (mvrk, .inl (cI, 10, .inl (o10.2.2.2.2.1))), (mvrt, .inl (cI, 10, .inl (o10.2.2.2.2.2.1))), (mvrg, .inl (cZ, 10, .inl (o10.2.2.2.2.2.2)))] := hD.sub [5, 0, 1, 6, 2, 3, 4, 7, 8, 9, 10] (by decide) rfl
        refine lv_if_ne (tgt := 84) hx hb dX5_street_70 (by decide) (fun c12 => ?_) (fun c12 => ?_)
        · have hg := ie hg c12
          refine lv_aload_n hx hb dX5_street_84 rfl (lv_at hl 2 rfl) ?_
          refine lv_aload_n hx hb dX5_street_85 rfl (lv_at hl 2 rfl) ?_
          refine va_get (D := D) (ci := 5) (v := .ref mvh) (C := RX5) (T := TX5) (N := 32) hx hb hts inX5 hown hK hP 0 rfl rfl 14 (by decide) (hts (.fieldLink RX5 29 "ScooterFlagsModel" "readHead" "[I") (by decide +kernel)) (fun _ h9 => h9) rfl dX5_street_86 ?_
          refine lv_iconst (v := (0 : Int32)) hx hb dX5_street_89 (by decide) ?_
          obtain ⟨g13, hg⟩ := gxo hg
          refine va_iald hx hb hK hP 7 0 rfl rfl g13 dX5_street_90 ?_
          refine W.eq (g2 := F0 m 91 ls [.int ((o10.2.2.2.1 (0 : Int32).toNatClampNeg)), .ref am]) rfl ?_
          refine va_put (D := D) (ci := 5) (v := .int ((o10.2.2.2.1 (0 : Int32).toNatClampNeg))) (ty := .int) (C := RX5) (T := TX5) (N := 32) hx hb hts inX5 tyX5 tyX5_ok nmX5 hown hK hP hD hS 0 rfl rfl 6 (by decide) (hts (.fieldLink RX5 87 "ScooterFlagsModel" "strong" "I") (by decide +kernel)) (fun _ h9 => h9) rfl (by decide +kernel) rfl rfl (Nat.le_of_ble_eq_true rfl) dX5_street_91 (fun H locs hP hD hS => ?_)
          have hP : va_P D vwCl [(am, .inr (5, [.int ((0 : Int32)), .int (qt), .ref mvs, .ref mvl, .ref mvc, .int (qn), .int ((o10.2.2.2.1 (0 : Int32).toNatClampNeg)), .int (qk), .int (qo), .ref mvk, .ref mvt, .ref mvg, .int (o10.2.1), .int (o10.2.2.1), .ref mvh, .ref mvrk, .ref mvrt, .ref mvrg, .int (qg), .int (qp), .int (qu), .int (ql), .int (qe), .int (qb), .int (qw), .ref mvf, .int (qi), .int (qj), .int (qr), .ref mvq, .ref mvp, .ref mve])), (mvs, .inl (cI, 4, .inl (vs))), (mvl, .inl (cI, 4, .inl (vl))), (mvc, .inl (cI, 240, .inl (vc))), (mvk, .inl (cI, 10, .inl (vk))), (mvt, .inl (cI, 10, .inl (vt))), (mvg, .inl (cZ, 10, .inl (vg))), (mvh, .inl (cI, 3, .inl (o10.2.2.2.1))), (mvrk, .inl (cI, 10, .inl (o10.2.2.2.2.1))), (mvrt, .inl (cI, 10, .inl (o10.2.2.2.2.2.1))), (mvrg, .inl (cZ, 10, .inl (o10.2.2.2.2.2.2)))] H := hP
          have hD : va_D A [(am, .inr (5, [.int ((0 : Int32)), .int (qt), .ref mvs, .ref mvl, .ref mvc, .int (qn), .int ((o10.2.2.2.1 (0 : Int32).toNatClampNeg)), .int (qk), .int (qo), .ref mvk, .ref mvt, .ref mvg, .int (o10.2.1), .int (o10.2.2.1), .ref mvh, .ref mvrk, .ref mvrt, .ref mvrg, .int (qg), .int (qp), .int (qu), .int (ql), .int (qe), .int (qb), .int (qw), .ref mvf, .int (qi), .int (qj), .int (qr), .ref mvq, .ref mvp, .ref mve])), (mvs, .inl (cI, 4, .inl (vs))), (mvl, .inl (cI, 4, .inl (vl))), (mvc, .inl (cI, 240, .inl (vc))), (mvk, .inl (cI, 10, .inl (vk))), (mvt, .inl (cI, 10, .inl (vt))), (mvg, .inl (cZ, 10, .inl (vg))), (mvh, .inl (cI, 3, .inl (o10.2.2.2.1))), (mvrk, .inl (cI, 10, .inl (o10.2.2.2.2.1))), (mvrt, .inl (cI, 10, .inl (o10.2.2.2.2.2.1))), (mvrg, .inl (cZ, 10, .inl (o10.2.2.2.2.2.2)))] := hD
          refine lv_aload_n hx hb dX5_street_94 rfl (lv_at hl 2 rfl) ?_
          refine lv_aload_n hx hb dX5_street_95 rfl (lv_at hl 2 rfl) ?_
          refine va_get (D := D) (ci := 5) (v := .ref mvh) (C := RX5) (T := TX5) (N := 32) hx hb hts inX5 hown hK hP 0 rfl rfl 14 (by decide) (hts (.fieldLink RX5 29 "ScooterFlagsModel" "readHead" "[I") (by decide +kernel)) (fun _ h9 => h9) rfl dX5_street_96 ?_
          refine lv_iconst (v := (1 : Int32)) hx hb dX5_street_99 (by decide) ?_
          obtain ⟨g14, hg⟩ := gxo hg
          refine va_iald hx hb hK hP 7 0 rfl rfl g14 dX5_street_100 ?_
          refine W.eq (g2 := F0 m 101 ls [.int ((o10.2.2.2.1 (1 : Int32).toNatClampNeg)), .ref am]) rfl ?_
          refine va_put (D := D) (ci := 5) (v := .int ((o10.2.2.2.1 (1 : Int32).toNatClampNeg))) (ty := .int) (C := RX5) (T := TX5) (N := 32) hx hb hts inX5 tyX5 tyX5_ok nmX5 hown hK hP hD hS 0 rfl rfl 7 (by decide) (hts (.fieldLink RX5 90 "ScooterFlagsModel" "knee" "I") (by decide +kernel)) (fun _ h9 => h9) rfl (by decide +kernel) rfl rfl (Nat.le_of_ble_eq_true rfl) dX5_street_101 (fun H locs hP hD hS => ?_)
          have hP : va_P D vwCl [(am, .inr (5, [.int ((0 : Int32)), .int (qt), .ref mvs, .ref mvl, .ref mvc, .int (qn), .int ((o10.2.2.2.1 (0 : Int32).toNatClampNeg)), .int ((o10.2.2.2.1 (1 : Int32).toNatClampNeg)), .int (qo), .ref mvk, .ref mvt, .ref mvg, .int (o10.2.1), .int (o10.2.2.1), .ref mvh, .ref mvrk, .ref mvrt, .ref mvrg, .int (qg), .int (qp), .int (qu), .int (ql), .int (qe), .int (qb), .int (qw), .ref mvf, .int (qi), .int (qj), .int (qr), .ref mvq, .ref mvp, .ref mve])), (mvs, .inl (cI, 4, .inl (vs))), (mvl, .inl (cI, 4, .inl (vl))), (mvc, .inl (cI, 240, .inl (vc))), (mvk, .inl (cI, 10, .inl (vk))), (mvt, .inl (cI, 10, .inl (vt))), (mvg, .inl (cZ, 10, .inl (vg))), (mvh, .inl (cI, 3, .inl (o10.2.2.2.1))), (mvrk, .inl (cI, 10, .inl (o10.2.2.2.2.1))), (mvrt, .inl (cI, 10, .inl (o10.2.2.2.2.2.1))), (mvrg, .inl (cZ, 10, .inl (o10.2.2.2.2.2.2)))] H := hP
          have hD : va_D A [(am, .inr (5, [.int ((0 : Int32)), .int (qt), .ref mvs, .ref mvl, .ref mvc, .int (qn), .int ((o10.2.2.2.1 (0 : Int32).toNatClampNeg)), .int ((o10.2.2.2.1 (1 : Int32).toNatClampNeg)), .int (qo), .ref mvk, .ref mvt, .ref mvg, .int (o10.2.1), .int (o10.2.2.1), .ref mvh, .ref mvrk, .ref mvrt, .ref mvrg, .int (qg), .int (qp), .int (qu), .int (ql), .int (qe), .int (qb), .int (qw), .ref mvf, .int (qi), .int (qj), .int (qr), .ref mvq, .ref mvp, .ref mve])), (mvs, .inl (cI, 4, .inl (vs))), (mvl, .inl (cI, 4, .inl (vl))), (mvc, .inl (cI, 240, .inl (vc))), (mvk, .inl (cI, 10, .inl (vk))), (mvt, .inl (cI, 10, .inl (vt))), (mvg, .inl (cZ, 10, .inl (vg))), (mvh, .inl (cI, 3, .inl (o10.2.2.2.1))), (mvrk, .inl (cI, 10, .inl (o10.2.2.2.2.1))), (mvrt, .inl (cI, 10, .inl (o10.2.2.2.2.2.1))), (mvrg, .inl (cZ, 10, .inl (o10.2.2.2.2.2.2)))] := hD
          refine lv_aload_n hx hb dX5_street_104 rfl (lv_at hl 2 rfl) ?_
          refine lv_aload_n hx hb dX5_street_105 rfl (lv_at hl 2 rfl) ?_
          refine va_get (D := D) (ci := 5) (v := .ref mvh) (C := RX5) (T := TX5) (N := 32) hx hb hts inX5 hown hK hP 0 rfl rfl 14 (by decide) (hts (.fieldLink RX5 29 "ScooterFlagsModel" "readHead" "[I") (by decide +kernel)) (fun _ h9 => h9) rfl dX5_street_106 ?_
          refine lv_iconst (v := (2 : Int32)) hx hb dX5_street_109 (by decide) ?_
          obtain ⟨g15, hg⟩ := gxo hg
          refine va_iald hx hb hK hP 7 0 rfl rfl g15 dX5_street_110 ?_
          refine W.eq (g2 := F0 m 111 ls [.int ((o10.2.2.2.1 (2 : Int32).toNatClampNeg)), .ref am]) rfl ?_
          refine va_put (D := D) (ci := 5) (v := .int ((o10.2.2.2.1 (2 : Int32).toNatClampNeg))) (ty := .int) (C := RX5) (T := TX5) (N := 32) hx hb hts inX5 tyX5 tyX5_ok nmX5 hown hK hP hD hS 0 rfl rfl 8 (by decide) (hts (.fieldLink RX5 93 "ScooterFlagsModel" "sole" "I") (by decide +kernel)) (fun _ h9 => h9) rfl (by decide +kernel) rfl rfl (Nat.le_of_ble_eq_true rfl) dX5_street_111 (fun H locs hP hD hS => ?_)
          have hP : va_P D vwCl [(am, .inr (5, [.int ((0 : Int32)), .int (qt), .ref mvs, .ref mvl, .ref mvc, .int (qn), .int ((o10.2.2.2.1 (0 : Int32).toNatClampNeg)), .int ((o10.2.2.2.1 (1 : Int32).toNatClampNeg)), .int ((o10.2.2.2.1 (2 : Int32).toNatClampNeg)), .ref mvk, .ref mvt, .ref mvg, .int (o10.2.1), .int (o10.2.2.1), .ref mvh, .ref mvrk, .ref mvrt, .ref mvrg, .int (qg), .int (qp), .int (qu), .int (ql), .int (qe), .int (qb), .int (qw), .ref mvf, .int (qi), .int (qj), .int (qr), .ref mvq, .ref mvp, .ref mve])), (mvs, .inl (cI, 4, .inl (vs))), (mvl, .inl (cI, 4, .inl (vl))), (mvc, .inl (cI, 240, .inl (vc))), (mvk, .inl (cI, 10, .inl (vk))), (mvt, .inl (cI, 10, .inl (vt))), (mvg, .inl (cZ, 10, .inl (vg))), (mvh, .inl (cI, 3, .inl (o10.2.2.2.1))), (mvrk, .inl (cI, 10, .inl (o10.2.2.2.2.1))), (mvrt, .inl (cI, 10, .inl (o10.2.2.2.2.2.1))), (mvrg, .inl (cZ, 10, .inl (o10.2.2.2.2.2.2)))] H := hP
          have hD : va_D A [(am, .inr (5, [.int ((0 : Int32)), .int (qt), .ref mvs, .ref mvl, .ref mvc, .int (qn), .int ((o10.2.2.2.1 (0 : Int32).toNatClampNeg)), .int ((o10.2.2.2.1 (1 : Int32).toNatClampNeg)), .int ((o10.2.2.2.1 (2 : Int32).toNatClampNeg)), .ref mvk, .ref mvt, .ref mvg, .int (o10.2.1), .int (o10.2.2.1), .ref mvh, .ref mvrk, .ref mvrt, .ref mvrg, .int (qg), .int (qp), .int (qu), .int (ql), .int (qe), .int (qb), .int (qw), .ref mvf, .int (qi), .int (qj), .int (qr), .ref mvq, .ref mvp, .ref mve])), (mvs, .inl (cI, 4, .inl (vs))), (mvl, .inl (cI, 4, .inl (vl))), (mvc, .inl (cI, 240, .inl (vc))), (mvk, .inl (cI, 10, .inl (vk))), (mvt, .inl (cI, 10, .inl (vt))), (mvg, .inl (cZ, 10, .inl (vg))), (mvh, .inl (cI, 3, .inl (o10.2.2.2.1))), (mvrk, .inl (cI, 10, .inl (o10.2.2.2.2.1))), (mvrt, .inl (cI, 10, .inl (o10.2.2.2.2.2.1))), (mvrg, .inl (cZ, 10, .inl (o10.2.2.2.2.2.2)))] := hD
          refine lv_aload_n hx hb dX5_street_114 rfl (lv_at hl 2 rfl) ?_
          refine lv_aload_n hx hb dX5_street_115 rfl (lv_at hl 2 rfl) ?_
          refine va_get (D := D) (ci := 5) (v := .int (o10.2.2.1)) (C := RX5) (T := TX5) (N := 32) hx hb hts inX5 hown hK hP 0 rfl rfl 13 (by decide) (hts (.fieldLink RX5 96 "ScooterFlagsModel" "readMany" "I") (by decide +kernel)) (fun _ h9 => h9) rfl dX5_street_116 ?_
          refine va_put (D := D) (ci := 5) (v := .int (o10.2.2.1)) (ty := .int) (C := RX5) (T := TX5) (N := 32) hx hb hts inX5 tyX5 tyX5_ok nmX5 hown hK hP hD hS 0 rfl rfl 5 (by decide) (hts (.fieldLink RX5 63 "ScooterFlagsModel" "flags" "I") (by decide +kernel)) (fun _ h9 => h9) rfl (by decide +kernel) rfl rfl (Nat.le_of_ble_eq_true rfl) dX5_street_119 (fun H locs hP hD hS => ?_)
          have hP : va_P D vwCl [(am, .inr (5, [.int ((0 : Int32)), .int (qt), .ref mvs, .ref mvl, .ref mvc, .int (o10.2.2.1), .int ((o10.2.2.2.1 (0 : Int32).toNatClampNeg)), .int ((o10.2.2.2.1 (1 : Int32).toNatClampNeg)), .int ((o10.2.2.2.1 (2 : Int32).toNatClampNeg)), .ref mvk, .ref mvt, .ref mvg, .int (o10.2.1), .int (o10.2.2.1), .ref mvh, .ref mvrk, .ref mvrt, .ref mvrg, .int (qg), .int (qp), .int (qu), .int (ql), .int (qe), .int (qb), .int (qw), .ref mvf, .int (qi), .int (qj), .int (qr), .ref mvq, .ref mvp, .ref mve])), (mvs, .inl (cI, 4, .inl (vs))), (mvl, .inl (cI, 4, .inl (vl))), (mvc, .inl (cI, 240, .inl (vc))), (mvk, .inl (cI, 10, .inl (vk))), (mvt, .inl (cI, 10, .inl (vt))), (mvg, .inl (cZ, 10, .inl (vg))), (mvh, .inl (cI, 3, .inl (o10.2.2.2.1))), (mvrk, .inl (cI, 10, .inl (o10.2.2.2.2.1))), (mvrt, .inl (cI, 10, .inl (o10.2.2.2.2.2.1))), (mvrg, .inl (cZ, 10, .inl (o10.2.2.2.2.2.2)))] H := hP
          have hD : va_D A [(am, .inr (5, [.int ((0 : Int32)), .int (qt), .ref mvs, .ref mvl, .ref mvc, .int (o10.2.2.1), .int ((o10.2.2.2.1 (0 : Int32).toNatClampNeg)), .int ((o10.2.2.2.1 (1 : Int32).toNatClampNeg)), .int ((o10.2.2.2.1 (2 : Int32).toNatClampNeg)), .ref mvk, .ref mvt, .ref mvg, .int (o10.2.1), .int (o10.2.2.1), .ref mvh, .ref mvrk, .ref mvrt, .ref mvrg, .int (qg), .int (qp), .int (qu), .int (ql), .int (qe), .int (qb), .int (qw), .ref mvf, .int (qi), .int (qj), .int (qr), .ref mvq, .ref mvp, .ref mve])), (mvs, .inl (cI, 4, .inl (vs))), (mvl, .inl (cI, 4, .inl (vl))), (mvc, .inl (cI, 240, .inl (vc))), (mvk, .inl (cI, 10, .inl (vk))), (mvt, .inl (cI, 10, .inl (vt))), (mvg, .inl (cZ, 10, .inl (vg))), (mvh, .inl (cI, 3, .inl (o10.2.2.2.1))), (mvrk, .inl (cI, 10, .inl (o10.2.2.2.2.1))), (mvrt, .inl (cI, 10, .inl (o10.2.2.2.2.2.1))), (mvrg, .inl (cZ, 10, .inl (o10.2.2.2.2.2.2)))] := hD
          refine lv_iconst (v := (0 : Int32)) hx hb dX5_street_122 (by decide) ?_
          refine lv_istore (lv' := [(7, .int ((0 : Int32))), (6, .int ((((60 : Int32) * zs) + zi))), (5, .int (o7)), (0, .ref am), (1, .int (zs)), (2, .int (zl)), (3, .int (zi)), (4, .int (zn))]) hx hb dX5_street_123 hl (by decide) rfl (fun ls hl => ?_)
          refine lp_125 _ ?_ 100 (0 : Int32) (0 : Int32) o10.2.2.1 (o10.2.2.2.1 (0 : Int32).toNatClampNeg) (o10.2.2.2.1 (1 : Int32).toNatClampNeg) (o10.2.2.2.1 (2 : Int32).toNatClampNeg) o10.2.1 o10.2.2.1 qr vk vt vg o10.2.2.2.1 o10.2.2.2.2.1 o10.2.2.2.2.2.1 o10.2.2.2.2.2.2 hg _ _ hP hD hS _ (lv_sub hl [3, 0] rfl)
          · intro qf qn qs qk qo qa qm qr vk vt vg vh vrk vrt vrg hg H locs hP hD hS ls hl
            refine lv_aload_n hx hb dX5_street_182 rfl (lv_at hl 0 rfl) ?_
            refine lv_iconst (v := (0 : Int32)) hx hb dX5_street_183 (by decide) ?_
            refine va_put (D := D) (ci := 5) (v := .int ((0 : Int32))) (ty := .int) (C := RX5) (T := TX5) (N := 32) hx hb hts inX5 tyX5 tyX5_ok nmX5 hown hK hP hD hS 0 rfl rfl 28 (by decide) (hts (.fieldLink RX5 99 "ScooterFlagsModel" "readings" "I") (by decide +kernel)) (fun _ h9 => h9) rfl (by decide +kernel) rfl rfl (Nat.le_of_ble_eq_true rfl) dX5_street_184 (fun H locs hP hD hS => ?_)
            have hP : va_P D vwCl [(am, .inr (5, [.int (qf), .int (qt), .ref mvs, .ref mvl, .ref mvc, .int (qn), .int (qs), .int (qk), .int (qo), .ref mvk, .ref mvt, .ref mvg, .int (qa), .int (qm), .ref mvh, .ref mvrk, .ref mvrt, .ref mvrg, .int (qg), .int (qp), .int (qu), .int (ql), .int (qe), .int (qb), .int (qw), .ref mvf, .int (qi), .int (qj), .int ((0 : Int32)), .ref mvq, .ref mvp, .ref mve])), (mvs, .inl (cI, 4, .inl (vs))), (mvl, .inl (cI, 4, .inl (vl))), (mvc, .inl (cI, 240, .inl (vc))), (mvk, .inl (cI, 10, .inl (vk))), (mvt, .inl (cI, 10, .inl (vt))), (mvg, .inl (cZ, 10, .inl (vg))), (mvh, .inl (cI, 3, .inl (vh))), (mvrk, .inl (cI, 10, .inl (vrk))), (mvrt, .inl (cI, 10, .inl (vrt))), (mvrg, .inl (cZ, 10, .inl (vrg)))] H := hP
            have hD : va_D A [(am, .inr (5, [.int (qf), .int (qt), .ref mvs, .ref mvl, .ref mvc, .int (qn), .int (qs), .int (qk), .int (qo), .ref mvk, .ref mvt, .ref mvg, .int (qa), .int (qm), .ref mvh, .ref mvrk, .ref mvrt, .ref mvrg, .int (qg), .int (qp), .int (qu), .int (ql), .int (qe), .int (qb), .int (qw), .ref mvf, .int (qi), .int (qj), .int ((0 : Int32)), .ref mvq, .ref mvp, .ref mve])), (mvs, .inl (cI, 4, .inl (vs))), (mvl, .inl (cI, 4, .inl (vl))), (mvc, .inl (cI, 240, .inl (vc))), (mvk, .inl (cI, 10, .inl (vk))), (mvt, .inl (cI, 10, .inl (vt))), (mvg, .inl (cZ, 10, .inl (vg))), (mvh, .inl (cI, 3, .inl (vh))), (mvrk, .inl (cI, 10, .inl (vrk))), (mvrt, .inl (cI, 10, .inl (vrt))), (mvrg, .inl (cZ, 10, .inl (vrg)))] := hD
            refine lv_aload_n hx hb dX5_street_187 rfl (lv_at hl 0 rfl) ?_
            refine va_get (D := D) (ci := 5) (v := .int (qn)) (C := RX5) (T := TX5) (N := 32) hx hb hts inX5 hown hK hP 0 rfl rfl 5 (by decide) (hts (.fieldLink RX5 63 "ScooterFlagsModel" "flags" "I") (by decide +kernel)) (fun _ h9 => h9) rfl dX5_street_188 ?_
            obtain rfl := Option.some.inj hg
            exact rti hQ hx hb hr hlocks hK hP hD hS dX5_street_191 ⟨rfl, rfl⟩
        · have hg := it hg c12
          refine lv_bipush (v := (-100 : Int32)) hx hb dX5_street_73 (by decide) ?_
          refine lv_aload_n hx hb dX5_street_75 rfl (lv_at hl 2 rfl) ?_
          refine va_get (D := D) (ci := 5) (v := .int (o10.2.1)) (C := RX5) (T := TX5) (N := 32) hx hb hts inX5 hown hK hP 0 rfl rfl 12 (by decide) (hts (.fieldLink RX5 66 "ScooterFlagsModel" "at" "I") (by decide +kernel)) (fun _ h9 => h9) rfl dX5_street_76 ?_
          refine lv_iload hx hb dX5_street_79 (lv_at hl 0 rfl) ?_
          refine lv_isub hx hb dX5_street_81 ?_
          refine lv_isub hx hb dX5_street_82 ?_
          obtain rfl := Option.some.inj hg
          exact rti hQ hx hb hr hlocks hK hP hD hS dX5_street_83 ⟨rfl, rfl⟩
      · have hg := ie hg c9
        refine lv_aload_n hx hb dX5_street_40 rfl (lv_at hl 1 rfl) ?_
        refine lv_iload hx hb dX5_street_41 (lv_at hl 0 rfl) ?_
        obtain ⟨o24, h25, hg⟩ := bd hg
        refine xcVi (As := [.int (o7)]) (rest := []) (wc := [(am, .inr (5, [.int ((0 : Int32)), .int (qt), .ref mvs, .ref mvl, .ref mvc, .int (qn), .int (qs), .int (qk), .int (qo), .ref mvk, .ref mvt, .ref mvg, .int (qa), .int (qm), .ref mvh, .ref mvrk, .ref mvrt, .ref mvrg, .int (qg), .int (qp), .int (qu), .int (ql), .int (qe), .int (qb), .int (qw), .ref mvf, .int (qi), .int (qj), .int (qr), .ref mvq, .ref mvp, .ref mve]))]) (wr := [(mvs, .inl (cI, 4, .inl (vs))), (mvl, .inl (cI, 4, .inl (vl))), (mvc, .inl (cI, 240, .inl (vc))), (mvk, .inl (cI, 10, .inl (vk))), (mvt, .inl (cI, 10, .inl (vt))), (mvg, .inl (cZ, 10, .inl (vg))), (mvh, .inl (cI, 3, .inl (vh))), (mvrk, .inl (cI, 10, .inl (vrk))), (mvrt, .inl (cI, 10, .inl (vrt))), (mvrg, .inl (cZ, 10, .inl (vrg)))]) ⟨hx, hb, hml, hown, hts⟩ (c_X5_fails l D cI cZ cR am mvs mvl mvc mvk mvt mvg mvh mvrk mvrt mvrg mvf mvq mvp mve (0 : Int32) qt qn qs qk qo qa qm qg qp qu ql qe qb qw qi qj qr o7 h25) (cwV 1 hts gX5_street_X5_fails rfl rfl rfl (by decide +kernel) ⟨Nat.le_of_ble_eq_true rfl, Nat.le_of_ble_eq_true rfl⟩) hK hP hD hS hA [0] [1, 2, 3, 4, 5, 6, 7, 8, 9, 10] rfl rfl (by decide) (by decide) (by decide) (va_recv hK hP (ci := 5) (q0 := 0) rfl rfl) rfl rfl hl.1 (lv_room (Nat.le_of_ble_eq_true rfl)) dX5_street_43 ⟨Nat.le_of_ble_eq_true rfl, Nat.le_of_ble_eq_true rfl⟩ (fun r u H locs hu hP hD hS => ?_)
        obtain ⟨rfl, rfl⟩ := hu
        have hP : va_P D vwCl [(am, .inr (5, [.int (o24.2), .int (qt), .ref mvs, .ref mvl, .ref mvc, .int (qn), .int (qs), .int (qk), .int (qo), .ref mvk, .ref mvt, .ref mvg, .int (qa), .int (qm), .ref mvh, .ref mvrk, .ref mvrt, .ref mvrg, .int (qg), .int (qp), .int (qu), .int (ql), .int (qe), .int (qb), .int (qw), .ref mvf, .int (qi), .int (qj), .int (qr), .ref mvq, .ref mvp, .ref mve])), (mvs, .inl (cI, 4, .inl (vs))), (mvl, .inl (cI, 4, .inl (vl))), (mvc, .inl (cI, 240, .inl (vc))), (mvk, .inl (cI, 10, .inl (vk))), (mvt, .inl (cI, 10, .inl (vt))), (mvg, .inl (cZ, 10, .inl (vg))), (mvh, .inl (cI, 3, .inl (vh))), (mvrk, .inl (cI, 10, .inl (vrk))), (mvrt, .inl (cI, 10, .inl (vrt))), (mvrg, .inl (cZ, 10, .inl (vrg)))] H := hP.sub [10, 0, 1, 2, 3, 4, 5, 6, 7, 8, 9] rfl
        have hD : va_D A [(am, .inr (5, [.int (o24.2), .int (qt), .ref mvs, .ref mvl, .ref mvc, .int (qn), .int (qs), .int (qk), .int (qo), .ref mvk, .ref mvt, .ref mvg, .int (qa), .int (qm), .ref mvh, .ref mvrk, .ref mvrt, .ref mvrg, .int (qg), .int (qp), .int (qu), .int (ql), .int (qe), .int (qb), .int (qw), .ref mvf, .int (qi), .int (qj), .int (qr), .ref mvq, .ref mvp, .ref mve])), (mvs, .inl (cI, 4, .inl (vs))), (mvl, .inl (cI, 4, .inl (vl))), (mvc, .inl (cI, 240, .inl (vc))), (mvk, .inl (cI, 10, .inl (vk))), (mvt, .inl (cI, 10, .inl (vt))), (mvg, .inl (cZ, 10, .inl (vg))), (mvh, .inl (cI, 3, .inl (vh))), (mvrk, .inl (cI, 10, .inl (vrk))), (mvrt, .inl (cI, 10, .inl (vrt))), (mvrg, .inl (cZ, 10, .inl (vrg)))] := hD.sub [10, 0, 1, 2, 3, 4, 5, 6, 7, 8, 9] (by decide) rfl
        obtain rfl := Option.some.inj hg
        exact rti hQ hx hb hr hlocks hK hP hD hS dX5_street_46 ⟨rfl, rfl⟩
    · have hg := it hg c6
      refine lv_bipush (v := (-2 : Int32)) hx hb dX5_street_21 (by decide) ?_
      obtain rfl := Option.some.inj hg
      exact rti hQ hx hb hr hlocks hK hP hD hS dX5_street_23 ⟨rfl, rfl⟩
  · have hg := it hg c3
    refine lv_iconst (v := (-1 : Int32)) hx hb dX5_street_12 (by decide) ?_
    obtain rfl := Option.some.inj hg
    exact rti hQ hx hb hr hlocks hK hP hD hS dX5_street_13 ⟨rfl, rfl⟩
def f_X5_dragOf (vk : Nat → Int32) (vt : Nat → Int32) (zf : Int32) : Option (Int32) :=
  gx zf 10 (if (vk zf.toNatClampNeg) = 0 then (gx zf 10 (some ((vt zf.toNatClampNeg)))) else (gx zf 10 (if (vk zf.toNatClampNeg) = (1 : Int32) then (gx zf 10 (some (((vt zf.toNatClampNeg) + (1 : Int32))))) else (gx zf 10 (some (((vt zf.toNatClampNeg) / (2 : Int32))))))))
set_option maxHeartbeats 4000000 in
set_option maxRecDepth 100000 in
theorem c_X5_dragOf (l : Launch) (D : va_G) (cI cZ cR : ClassId) (am : Nat) (mvk : Nat) (mvt : Nat) (mvg : Nat) (mvs : Nat) (mvl : Nat) (mvc : Nat) (mvh : Nat) (mvrk : Nat) (mvrt : Nat) (mvrg : Nat) (mvf : Nat) (mvq : Nat) (mvp : Nat) (mve : Nat) (qf : Int32) (qt : Int32) (qn : Int32) (qs : Int32) (qk : Int32) (qo : Int32) (qa : Int32) (qm : Int32) (qg : Int32) (qp : Int32) (qu : Int32) (ql : Int32) (qe : Int32) (qb : Int32) (qw : Int32) (qi : Int32) (qj : Int32) (qr : Int32) (vk : Nat → Int32) (vt : Nat → Int32) (vg : Nat → Int32) (zf : Int32) {res : Int32} (hg : f_X5_dragOf vk vt zf = some res) : MI l yX5_dragOf wsX5_dragOf ({ frames := 0, cells := 0, slots := 0, locals := 0 }) D (T3 cI cZ cR) [(am, .inr (5, [.int (qf), .int (qt), .ref mvs, .ref mvl, .ref mvc, .int (qn), .int (qs), .int (qk), .int (qo), .ref mvk, .ref mvt, .ref mvg, .int (qa), .int (qm), .ref mvh, .ref mvrk, .ref mvrt, .ref mvrg, .int (qg), .int (qp), .int (qu), .int (ql), .int (qe), .int (qb), .int (qw), .ref mvf, .int (qi), .int (qj), .int (qr), .ref mvq, .ref mvp, .ref mve])), (mvk, .inl (cI, 10, .inl (vk))), (mvt, .inl (cI, 10, .inl (vt))), (mvg, .inl (cZ, 10, .inl (vg)))] [.ref am, .int (zf)] (fun r u => res = r ∧ u = [(am, .inr (5, [.int (qf), .int (qt), .ref mvs, .ref mvl, .ref mvc, .int (qn), .int (qs), .int (qk), .int (qo), .ref mvk, .ref mvt, .ref mvg, .int (qa), .int (qm), .ref mvh, .ref mvrk, .ref mvrt, .ref mvrg, .int (qg), .int (qp), .int (qu), .int (ql), .int (qe), .int (qb), .int (qw), .ref mvf, .int (qi), .int (qj), .int (qr), .ref mvq, .ref mvp, .ref mve])), (mvk, .inl (cI, 10, .inl (vk))), (mvt, .inl (cI, 10, .inl (vt))), (mvg, .inl (cZ, 10, .inl (vg)))]) := by
  refine entI (Rn := RX5) (by decide +kernel) rfl rfl (Nat.le_of_ble_eq_true rfl) (fun p e s m args below meth c A Q hx hb hr hml hts hown hlocks hA hP hD hK hS ls hl hQ => ?_)
  have inX5 : ∀ w ∈ u_ws RX5 TX5 32, w ∈ wsX5_dragOf := by decide +kernel
  have hl : lv_has ls 2 [(0, .ref am), (1, .int (zf))] := hl
  rw [f_X5_dragOf] at hg
  refine lv_aload_n hx hb dX5_dragOf_0 rfl (lv_at hl 0 rfl) ?_
  refine va_get (D := D) (ci := 5) (v := .ref mvk) (C := RX5) (T := TX5) (N := 32) hx hb hts inX5 hown hK hP 0 rfl rfl 9 (by decide) (hts (.fieldLink RX5 19 "ScooterFlagsModel" "kind" "[I") (by decide +kernel)) (fun _ h9 => h9) rfl dX5_dragOf_1 ?_
  refine lv_iload_n hx hb dX5_dragOf_4 rfl (lv_at hl 1 rfl) ?_
  obtain ⟨g1, hg⟩ := gxo hg
  refine va_iald hx hb hK hP 1 0 rfl rfl g1 dX5_dragOf_5 ?_
  refine W.eq (g2 := F0 m 6 ls [.int ((vk zf.toNatClampNeg))]) rfl ?_
  refine lv_if_ne (tgt := 18) hx hb dX5_dragOf_6 (by decide) (fun c2 => ?_) (fun c2 => ?_)
  · have hg := ie hg c2
    refine lv_aload_n hx hb dX5_dragOf_18 rfl (lv_at hl 0 rfl) ?_
    refine va_get (D := D) (ci := 5) (v := .ref mvk) (C := RX5) (T := TX5) (N := 32) hx hb hts inX5 hown hK hP 0 rfl rfl 9 (by decide) (hts (.fieldLink RX5 19 "ScooterFlagsModel" "kind" "[I") (by decide +kernel)) (fun _ h9 => h9) rfl dX5_dragOf_19 ?_
    refine lv_iload_n hx hb dX5_dragOf_22 rfl (lv_at hl 1 rfl) ?_
    obtain ⟨g3, hg⟩ := gxo hg
    refine va_iald hx hb hK hP 1 0 rfl rfl g3 dX5_dragOf_23 ?_
    refine W.eq (g2 := F0 m 24 ls [.int ((vk zf.toNatClampNeg))]) rfl ?_
    refine lv_iconst (v := (1 : Int32)) hx hb dX5_dragOf_24 (by decide) ?_
    refine lv_icmp_ne (tgt := 39) hx hb dX5_dragOf_25 (by decide) (fun c4 => ?_) (fun c4 => ?_)
    · have hg := ie hg c4
      refine lv_aload_n hx hb dX5_dragOf_39 rfl (lv_at hl 0 rfl) ?_
      refine va_get (D := D) (ci := 5) (v := .ref mvt) (C := RX5) (T := TX5) (N := 32) hx hb hts inX5 hown hK hP 0 rfl rfl 10 (by decide) (hts (.fieldLink RX5 22 "ScooterFlagsModel" "takes" "[I") (by decide +kernel)) (fun _ h9 => h9) rfl dX5_dragOf_40 ?_
      refine lv_iload_n hx hb dX5_dragOf_43 rfl (lv_at hl 1 rfl) ?_
      obtain ⟨g5, hg⟩ := gxo hg
      refine va_iald hx hb hK hP 2 0 rfl rfl g5 dX5_dragOf_44 ?_
      refine W.eq (g2 := F0 m 45 ls [.int ((vt zf.toNatClampNeg))]) rfl ?_
      refine lv_iconst (v := (2 : Int32)) hx hb dX5_dragOf_45 (by decide) ?_
      refine lv_idiv hx hb dX5_dragOf_46 (by decide) ?_
      obtain rfl := Option.some.inj hg
      exact rti hQ hx hb hr hlocks hK hP hD hS dX5_dragOf_47 ⟨rfl, rfl⟩
    · have hg := it hg c4
      refine lv_aload_n hx hb dX5_dragOf_28 rfl (lv_at hl 0 rfl) ?_
      refine va_get (D := D) (ci := 5) (v := .ref mvt) (C := RX5) (T := TX5) (N := 32) hx hb hts inX5 hown hK hP 0 rfl rfl 10 (by decide) (hts (.fieldLink RX5 22 "ScooterFlagsModel" "takes" "[I") (by decide +kernel)) (fun _ h9 => h9) rfl dX5_dragOf_29 ?_
      refine lv_iload_n hx hb dX5_dragOf_32 rfl (lv_at hl 1 rfl) ?_
      obtain ⟨g6, hg⟩ := gxo hg
      refine va_iald hx hb hK hP 2 0 rfl rfl g6 dX5_dragOf_33 ?_
      refine W.eq (g2 := F0 m 34 ls [.int ((vt zf.toNatClampNeg))]) rfl ?_
      refine lv_iconst (v := (1 : Int32)) hx hb dX5_dragOf_34 (by decide) ?_
      refine lv_iadd hx hb dX5_dragOf_35 ?_
      refine lv_goto (tgt := 47) hx hb dX5_dragOf_36 (by decide) ?_
      obtain rfl := Option.some.inj hg
      exact rti hQ hx hb hr hlocks hK hP hD hS dX5_dragOf_47 ⟨rfl, rfl⟩
  · have hg := it hg c2
    refine lv_aload_n hx hb dX5_dragOf_9 rfl (lv_at hl 0 rfl) ?_
    refine va_get (D := D) (ci := 5) (v := .ref mvt) (C := RX5) (T := TX5) (N := 32) hx hb hts inX5 hown hK hP 0 rfl rfl 10 (by decide) (hts (.fieldLink RX5 22 "ScooterFlagsModel" "takes" "[I") (by decide +kernel)) (fun _ h9 => h9) rfl dX5_dragOf_10 ?_
    refine lv_iload_n hx hb dX5_dragOf_13 rfl (lv_at hl 1 rfl) ?_
    obtain ⟨g7, hg⟩ := gxo hg
    refine va_iald hx hb hK hP 2 0 rfl rfl g7 dX5_dragOf_14 ?_
    refine W.eq (g2 := F0 m 15 ls [.int ((vt zf.toNatClampNeg))]) rfl ?_
    refine lv_goto (tgt := 47) hx hb dX5_dragOf_15 (by decide) ?_
    obtain rfl := Option.some.inj hg
    exact rti hQ hx hb hr hlocks hK hP hD hS dX5_dragOf_47 ⟨rfl, rfl⟩
def f_X5_ofFlag (qn : Int32) (vk : Nat → Int32) (vt : Nat → Int32) (vg : Nat → Int32) (zf : Int32) (zv : Int32) : Option (Int32) :=
  (f_X5_isFlag qn zf).bind (fun o1 => if o1 = 0 then (some ((-1 : Int32))) else (if zv = 0 then (gx zf 10 (some ((vk zf.toNatClampNeg)))) else if zv = 1 then (gx zf 10 (some ((vt zf.toNatClampNeg)))) else if zv = 2 then ((f_X5_dragOf vk vt zf).bind (fun o9 => some (o9))) else if zv = 3 then (gx zf 10 (if (vg zf.toNatClampNeg) = 0 then (some ((0 : Int32))) else (some ((1 : Int32))))) else (some ((-2 : Int32)))))
set_option maxHeartbeats 4000000 in
set_option maxRecDepth 100000 in
theorem c_X5_ofFlag (l : Launch) (D : va_G) (cI cZ cR : ClassId) (am : Nat) (mvk : Nat) (mvt : Nat) (mvg : Nat) (mvs : Nat) (mvl : Nat) (mvc : Nat) (mvh : Nat) (mvrk : Nat) (mvrt : Nat) (mvrg : Nat) (mvf : Nat) (mvq : Nat) (mvp : Nat) (mve : Nat) (qf : Int32) (qt : Int32) (qn : Int32) (qs : Int32) (qk : Int32) (qo : Int32) (qa : Int32) (qm : Int32) (qg : Int32) (qp : Int32) (qu : Int32) (ql : Int32) (qe : Int32) (qb : Int32) (qw : Int32) (qi : Int32) (qj : Int32) (qr : Int32) (vk : Nat → Int32) (vt : Nat → Int32) (vg : Nat → Int32) (zf : Int32) (zv : Int32) {res : Int32} (hg : f_X5_ofFlag qn vk vt vg zf zv = some res) : MI l yX5_ofFlag wsX5_ofFlag ({ frames := 1, cells := 0, slots := 0, locals := 21 }) D (T3 cI cZ cR) [(am, .inr (5, [.int (qf), .int (qt), .ref mvs, .ref mvl, .ref mvc, .int (qn), .int (qs), .int (qk), .int (qo), .ref mvk, .ref mvt, .ref mvg, .int (qa), .int (qm), .ref mvh, .ref mvrk, .ref mvrt, .ref mvrg, .int (qg), .int (qp), .int (qu), .int (ql), .int (qe), .int (qb), .int (qw), .ref mvf, .int (qi), .int (qj), .int (qr), .ref mvq, .ref mvp, .ref mve])), (mvk, .inl (cI, 10, .inl (vk))), (mvt, .inl (cI, 10, .inl (vt))), (mvg, .inl (cZ, 10, .inl (vg)))] [.ref am, .int (zf), .int (zv)] (fun r u => res = r ∧ u = [(am, .inr (5, [.int (qf), .int (qt), .ref mvs, .ref mvl, .ref mvc, .int (qn), .int (qs), .int (qk), .int (qo), .ref mvk, .ref mvt, .ref mvg, .int (qa), .int (qm), .ref mvh, .ref mvrk, .ref mvrt, .ref mvrg, .int (qg), .int (qp), .int (qu), .int (ql), .int (qe), .int (qb), .int (qw), .ref mvf, .int (qi), .int (qj), .int (qr), .ref mvq, .ref mvp, .ref mve])), (mvk, .inl (cI, 10, .inl (vk))), (mvt, .inl (cI, 10, .inl (vt))), (mvg, .inl (cZ, 10, .inl (vg)))]) := by
  refine entI (Rn := RX5) (by decide +kernel) rfl rfl (Nat.le_of_ble_eq_true rfl) (fun p e s m args below meth c A Q hx hb hr hml hts hown hlocks hA hP hD hK hS ls hl hQ => ?_)
  have inX5 : ∀ w ∈ u_ws RX5 TX5 32, w ∈ wsX5_ofFlag := by decide +kernel
  have hl : lv_has ls 3 [(0, .ref am), (1, .int (zf)), (2, .int (zv))] := hl
  rw [f_X5_ofFlag] at hg
  refine lv_aload_n hx hb dX5_ofFlag_0 rfl (lv_at hl 0 rfl) ?_
  refine lv_iload_n hx hb dX5_ofFlag_1 rfl (lv_at hl 1 rfl) ?_
  obtain ⟨o1, h2, hg⟩ := bd hg
  refine xcVi (As := [.int (zf)]) (rest := []) (wc := [(am, .inr (5, [.int (qf), .int (qt), .ref mvs, .ref mvl, .ref mvc, .int (qn), .int (qs), .int (qk), .int (qo), .ref mvk, .ref mvt, .ref mvg, .int (qa), .int (qm), .ref mvh, .ref mvrk, .ref mvrt, .ref mvrg, .int (qg), .int (qp), .int (qu), .int (ql), .int (qe), .int (qb), .int (qw), .ref mvf, .int (qi), .int (qj), .int (qr), .ref mvq, .ref mvp, .ref mve]))]) (wr := [(mvk, .inl (cI, 10, .inl (vk))), (mvt, .inl (cI, 10, .inl (vt))), (mvg, .inl (cZ, 10, .inl (vg)))]) ⟨hx, hb, hml, hown, hts⟩ (c_X5_isFlag l D cI cZ cR am mvs mvl mvc mvk mvt mvg mvh mvrk mvrt mvrg mvf mvq mvp mve qf qt qn qs qk qo qa qm qg qp qu ql qe qb qw qi qj qr zf h2) (cwV 1 hts gX5_ofFlag_X5_isFlag rfl rfl rfl (by decide +kernel) ⟨Nat.le_of_ble_eq_true rfl, Nat.le_of_ble_eq_true rfl⟩) hK hP hD hS hA [0] [1, 2, 3] rfl rfl (by decide) (by decide) (by decide) (va_recv hK hP (ci := 5) (q0 := 0) rfl rfl) rfl rfl hl.1 (lv_room (Nat.le_of_ble_eq_true rfl)) dX5_ofFlag_2 ⟨Nat.le_of_ble_eq_true rfl, Nat.le_of_ble_eq_true rfl⟩ (fun r u H locs hu hP hD hS => ?_)
  obtain ⟨rfl, rfl⟩ := hu
  have hP : va_P D vwCl [(am, .inr (5, [.int (qf), .int (qt), .ref mvs, .ref mvl, .ref mvc, .int (qn), .int (qs), .int (qk), .int (qo), .ref mvk, .ref mvt, .ref mvg, .int (qa), .int (qm), .ref mvh, .ref mvrk, .ref mvrt, .ref mvrg, .int (qg), .int (qp), .int (qu), .int (ql), .int (qe), .int (qb), .int (qw), .ref mvf, .int (qi), .int (qj), .int (qr), .ref mvq, .ref mvp, .ref mve])), (mvk, .inl (cI, 10, .inl (vk))), (mvt, .inl (cI, 10, .inl (vt))), (mvg, .inl (cZ, 10, .inl (vg)))] H := hP.sub [3, 0, 1, 2] rfl
  have hD : va_D A [(am, .inr (5, [.int (qf), .int (qt), .ref mvs, .ref mvl, .ref mvc, .int (qn), .int (qs), .int (qk), .int (qo), .ref mvk, .ref mvt, .ref mvg, .int (qa), .int (qm), .ref mvh, .ref mvrk, .ref mvrt, .ref mvrg, .int (qg), .int (qp), .int (qu), .int (ql), .int (qe), .int (qb), .int (qw), .ref mvf, .int (qi), .int (qj), .int (qr), .ref mvq, .ref mvp, .ref mve])), (mvk, .inl (cI, 10, .inl (vk))), (mvt, .inl (cI, 10, .inl (vt))), (mvg, .inl (cZ, 10, .inl (vg)))] := hD.sub [3, 0, 1, 2] (by decide) rfl
  refine lv_if_ne (tgt := 10) hx hb dX5_ofFlag_5 (by decide) (fun c3 => ?_) (fun c3 => ?_)
  · have hg := ie hg c3
    refine lv_iload_n hx hb dX5_ofFlag_10 rfl (lv_at hl 2 rfl) ?_
    by_cases c4 : zv = 0
    · have hg := it hg c4
      refine lv_tableIn (off := 29) (tgt := 40) hx hb dX5_ofFlag_11 (by rw [c4]; decide) (by rw [c4]; decide) (by rw [c4]; rfl) (by decide) ?_
      refine lv_aload_n hx hb dX5_ofFlag_40 rfl (lv_at hl 0 rfl) ?_
      refine va_get (D := D) (ci := 5) (v := .ref mvk) (C := RX5) (T := TX5) (N := 32) hx hb hts inX5 hown hK hP 0 rfl rfl 9 (by decide) (hts (.fieldLink RX5 19 "ScooterFlagsModel" "kind" "[I") (by decide +kernel)) (fun _ h9 => h9) rfl dX5_ofFlag_41 ?_
      refine lv_iload_n hx hb dX5_ofFlag_44 rfl (lv_at hl 1 rfl) ?_
      obtain ⟨g5, hg⟩ := gxo hg
      refine va_iald hx hb hK hP 1 0 rfl rfl g5 dX5_ofFlag_45 ?_
      refine W.eq (g2 := F0 m 46 ls [.int ((vk zf.toNatClampNeg))]) rfl ?_
      obtain rfl := Option.some.inj hg
      exact rti hQ hx hb hr hlocks hK hP hD hS dX5_ofFlag_46 ⟨rfl, rfl⟩
    · have hg := ie hg c4
      by_cases c6 : zv = 1
      · have hg := it hg c6
        refine lv_tableIn (off := 36) (tgt := 47) hx hb dX5_ofFlag_11 (by rw [c6]; decide) (by rw [c6]; decide) (by rw [c6]; rfl) (by decide) ?_
        refine lv_aload_n hx hb dX5_ofFlag_47 rfl (lv_at hl 0 rfl) ?_
        refine va_get (D := D) (ci := 5) (v := .ref mvt) (C := RX5) (T := TX5) (N := 32) hx hb hts inX5 hown hK hP 0 rfl rfl 10 (by decide) (hts (.fieldLink RX5 22 "ScooterFlagsModel" "takes" "[I") (by decide +kernel)) (fun _ h9 => h9) rfl dX5_ofFlag_48 ?_
        refine lv_iload_n hx hb dX5_ofFlag_51 rfl (lv_at hl 1 rfl) ?_
        obtain ⟨g7, hg⟩ := gxo hg
        refine va_iald hx hb hK hP 2 0 rfl rfl g7 dX5_ofFlag_52 ?_
        refine W.eq (g2 := F0 m 53 ls [.int ((vt zf.toNatClampNeg))]) rfl ?_
        obtain rfl := Option.some.inj hg
        exact rti hQ hx hb hr hlocks hK hP hD hS dX5_ofFlag_53 ⟨rfl, rfl⟩
      · have hg := ie hg c6
        by_cases c8 : zv = 2
        · have hg := it hg c8
          refine lv_tableIn (off := 43) (tgt := 54) hx hb dX5_ofFlag_11 (by rw [c8]; decide) (by rw [c8]; decide) (by rw [c8]; rfl) (by decide) ?_
          refine lv_aload_n hx hb dX5_ofFlag_54 rfl (lv_at hl 0 rfl) ?_
          refine lv_iload_n hx hb dX5_ofFlag_55 rfl (lv_at hl 1 rfl) ?_
          obtain ⟨o9, h10, hg⟩ := bd hg
          refine xcVi (As := [.int (zf)]) (rest := []) (wc := [(am, .inr (5, [.int (qf), .int (qt), .ref mvs, .ref mvl, .ref mvc, .int (qn), .int (qs), .int (qk), .int (qo), .ref mvk, .ref mvt, .ref mvg, .int (qa), .int (qm), .ref mvh, .ref mvrk, .ref mvrt, .ref mvrg, .int (qg), .int (qp), .int (qu), .int (ql), .int (qe), .int (qb), .int (qw), .ref mvf, .int (qi), .int (qj), .int (qr), .ref mvq, .ref mvp, .ref mve])), (mvk, .inl (cI, 10, .inl (vk))), (mvt, .inl (cI, 10, .inl (vt))), (mvg, .inl (cZ, 10, .inl (vg)))]) (wr := []) ⟨hx, hb, hml, hown, hts⟩ (c_X5_dragOf l D cI cZ cR am mvk mvt mvg mvs mvl mvc mvh mvrk mvrt mvrg mvf mvq mvp mve qf qt qn qs qk qo qa qm qg qp qu ql qe qb qw qi qj qr vk vt vg zf h10) (cwV 1 hts gX5_ofFlag_X5_dragOf rfl rfl rfl (by decide +kernel) ⟨Nat.le_of_ble_eq_true rfl, Nat.le_of_ble_eq_true rfl⟩) hK hP hD hS hA [0, 1, 2, 3] [] rfl rfl (by decide) (by decide) (by decide) (va_recv hK hP (ci := 5) (q0 := 0) rfl rfl) rfl rfl hl.1 (lv_room (Nat.le_of_ble_eq_true rfl)) dX5_ofFlag_56 ⟨Nat.le_of_ble_eq_true rfl, Nat.le_of_ble_eq_true rfl⟩ (fun r u H locs hu hP hD hS => ?_)
          obtain ⟨rfl, rfl⟩ := hu
          have hP : va_P D vwCl [(am, .inr (5, [.int (qf), .int (qt), .ref mvs, .ref mvl, .ref mvc, .int (qn), .int (qs), .int (qk), .int (qo), .ref mvk, .ref mvt, .ref mvg, .int (qa), .int (qm), .ref mvh, .ref mvrk, .ref mvrt, .ref mvrg, .int (qg), .int (qp), .int (qu), .int (ql), .int (qe), .int (qb), .int (qw), .ref mvf, .int (qi), .int (qj), .int (qr), .ref mvq, .ref mvp, .ref mve])), (mvk, .inl (cI, 10, .inl (vk))), (mvt, .inl (cI, 10, .inl (vt))), (mvg, .inl (cZ, 10, .inl (vg)))] H := hP.sub [0, 1, 2, 3] rfl
          have hD : va_D A [(am, .inr (5, [.int (qf), .int (qt), .ref mvs, .ref mvl, .ref mvc, .int (qn), .int (qs), .int (qk), .int (qo), .ref mvk, .ref mvt, .ref mvg, .int (qa), .int (qm), .ref mvh, .ref mvrk, .ref mvrt, .ref mvrg, .int (qg), .int (qp), .int (qu), .int (ql), .int (qe), .int (qb), .int (qw), .ref mvf, .int (qi), .int (qj), .int (qr), .ref mvq, .ref mvp, .ref mve])), (mvk, .inl (cI, 10, .inl (vk))), (mvt, .inl (cI, 10, .inl (vt))), (mvg, .inl (cZ, 10, .inl (vg)))] := hD.sub [0, 1, 2, 3] (by decide) rfl
          obtain rfl := Option.some.inj hg
          exact rti hQ hx hb hr hlocks hK hP hD hS dX5_ofFlag_59 ⟨rfl, rfl⟩
        · have hg := ie hg c8
          by_cases c11 : zv = 3
          · have hg := it hg c11
            refine lv_tableIn (off := 49) (tgt := 60) hx hb dX5_ofFlag_11 (by rw [c11]; decide) (by rw [c11]; decide) (by rw [c11]; rfl) (by decide) ?_
            refine lv_aload_n hx hb dX5_ofFlag_60 rfl (lv_at hl 0 rfl) ?_
            refine va_get (D := D) (ci := 5) (v := .ref mvg) (C := RX5) (T := TX5) (N := 32) hx hb hts inX5 hown hK hP 0 rfl rfl 11 (by decide) (hts (.fieldLink RX5 25 "ScooterFlagsModel" "grated" "[Z") (by decide +kernel)) (fun _ h9 => h9) rfl dX5_ofFlag_61 ?_
            refine lv_iload_n hx hb dX5_ofFlag_64 rfl (lv_at hl 1 rfl) ?_
            obtain ⟨g12, hg⟩ := gxo hg
            refine va_zald hx hb hK hP 3 1 rfl rfl g12 dX5_ofFlag_65 ?_
            refine W.eq (g2 := F0 m 66 ls [.int ((vg zf.toNatClampNeg))]) rfl ?_
            refine lv_if_eq (tgt := 73) hx hb dX5_ofFlag_66 (by decide) (fun c13 => ?_) (fun c13 => ?_)
            · have hg := it hg c13
              refine lv_iconst (v := (0 : Int32)) hx hb dX5_ofFlag_73 (by decide) ?_
              obtain rfl := Option.some.inj hg
              exact rti hQ hx hb hr hlocks hK hP hD hS dX5_ofFlag_74 ⟨rfl, rfl⟩
            · have hg := ie hg c13
              refine lv_iconst (v := (1 : Int32)) hx hb dX5_ofFlag_69 (by decide) ?_
              refine lv_goto (tgt := 74) hx hb dX5_ofFlag_70 (by decide) ?_
              obtain rfl := Option.some.inj hg
              exact rti hQ hx hb hr hlocks hK hP hD hS dX5_ofFlag_74 ⟨rfl, rfl⟩
          · have hg := ie hg c11
            have nc4 := lv_neT c4 (show ((0 : Int32)).toInt = 0 from rfl)
            have nc6 := lv_neT c6 (show ((1 : Int32)).toInt = 1 from rfl)
            have nc8 := lv_neT c8 (show ((2 : Int32)).toInt = 2 from rfl)
            have nc11 := lv_neT c11 (show ((3 : Int32)).toInt = 3 from rfl)
            refine lv_tableOut (tgt := 75) hx hb dX5_ofFlag_11 (by omega) (by decide) ?_
            refine lv_bipush (v := (-2 : Int32)) hx hb dX5_ofFlag_75 (by decide) ?_
            obtain rfl := Option.some.inj hg
            exact rti hQ hx hb hr hlocks hK hP hD hS dX5_ofFlag_77 ⟨rfl, rfl⟩
  · have hg := it hg c3
    refine lv_iconst (v := (-1 : Int32)) hx hb dX5_ofFlag_8 (by decide) ?_
    obtain rfl := Option.some.inj hg
    exact rti hQ hx hb hr hlocks hK hP hD hS dX5_ofFlag_9 ⟨rfl, rfl⟩
def f_X5_strong (qn : Int32) (qs : Int32) (zv : Int32) : Option (Int32 × Int32) :=
  (f_X5_within zv (1 : Int32) (4 : Int32)).bind (fun o1 => if o1 = 0 then (some ((-2 : Int32), qs)) else (if qn = 0 then (some ((-3 : Int32), qs)) else (some (qs, zv))))
set_option maxHeartbeats 4000000 in
set_option maxRecDepth 100000 in
theorem c_X5_strong (l : Launch) (D : va_G) (cI cZ cR : ClassId) (am : Nat) (mvs : Nat) (mvl : Nat) (mvc : Nat) (mvk : Nat) (mvt : Nat) (mvg : Nat) (mvh : Nat) (mvrk : Nat) (mvrt : Nat) (mvrg : Nat) (mvf : Nat) (mvq : Nat) (mvp : Nat) (mve : Nat) (qf : Int32) (qt : Int32) (qn : Int32) (qs : Int32) (qk : Int32) (qo : Int32) (qa : Int32) (qm : Int32) (qg : Int32) (qp : Int32) (qu : Int32) (ql : Int32) (qe : Int32) (qb : Int32) (qw : Int32) (qi : Int32) (qj : Int32) (qr : Int32) (zv : Int32) {res : Int32 × Int32} (hg : f_X5_strong qn qs zv = some res) : MI l yX5_strong wsX5_strong ({ frames := 1, cells := 0, slots := 0, locals := 22 }) D (T3 cI cZ cR) [(am, .inr (5, [.int (qf), .int (qt), .ref mvs, .ref mvl, .ref mvc, .int (qn), .int (qs), .int (qk), .int (qo), .ref mvk, .ref mvt, .ref mvg, .int (qa), .int (qm), .ref mvh, .ref mvrk, .ref mvrt, .ref mvrg, .int (qg), .int (qp), .int (qu), .int (ql), .int (qe), .int (qb), .int (qw), .ref mvf, .int (qi), .int (qj), .int (qr), .ref mvq, .ref mvp, .ref mve]))] [.ref am, .int (zv)] (fun r u => res.1 = r ∧ u = [(am, .inr (5, [.int (qf), .int (qt), .ref mvs, .ref mvl, .ref mvc, .int (qn), .int (res.2), .int (qk), .int (qo), .ref mvk, .ref mvt, .ref mvg, .int (qa), .int (qm), .ref mvh, .ref mvrk, .ref mvrt, .ref mvrg, .int (qg), .int (qp), .int (qu), .int (ql), .int (qe), .int (qb), .int (qw), .ref mvf, .int (qi), .int (qj), .int (qr), .ref mvq, .ref mvp, .ref mve]))]) := by
  refine entI (Rn := RX5) (by decide +kernel) rfl rfl (Nat.le_of_ble_eq_true rfl) (fun p e s m args below meth c A Q hx hb hr hml hts hown hlocks hA hP hD hK hS ls hl hQ => ?_)
  have inX5 : ∀ w ∈ u_ws RX5 TX5 32, w ∈ wsX5_strong := by decide +kernel
  have hl : lv_has ls 3 [(0, .ref am), (1, .int (zv))] := hl
  rw [f_X5_strong] at hg
  refine lv_iload_n hx hb dX5_strong_0 rfl (lv_at hl 1 rfl) ?_
  refine lv_iconst (v := (1 : Int32)) hx hb dX5_strong_1 (by decide) ?_
  refine lv_iconst (v := (4 : Int32)) hx hb dX5_strong_2 (by decide) ?_
  obtain ⟨o1, h2, hg⟩ := bd hg
  refine xcSi (As := [.int (zv), .int ((1 : Int32)), .int ((4 : Int32))]) (rest := []) (wc := []) (wr := [(am, .inr (5, [.int (qf), .int (qt), .ref mvs, .ref mvl, .ref mvc, .int (qn), .int (qs), .int (qk), .int (qo), .ref mvk, .ref mvt, .ref mvg, .int (qa), .int (qm), .ref mvh, .ref mvrk, .ref mvrt, .ref mvrg, .int (qg), .int (qp), .int (qu), .int (ql), .int (qe), .int (qb), .int (qw), .ref mvf, .int (qi), .int (qj), .int (qr), .ref mvq, .ref mvp, .ref mve]))]) ⟨hx, hb, hml, hown, hts⟩ (c_X5_within l D cI cZ cR zv (1 : Int32) (4 : Int32) h2) (cwS 3 hts gX5_strong_X5_within rfl rfl rfl (by decide +kernel) ⟨Nat.le_of_ble_eq_true rfl, Nat.le_of_ble_eq_true rfl⟩) hK hP hD hS hA [] [0] rfl rfl (by decide) (by decide) (by decide) rfl rfl hl.1 (lv_room (Nat.le_of_ble_eq_true rfl)) dX5_strong_3 ⟨Nat.le_of_ble_eq_true rfl, Nat.le_of_ble_eq_true rfl⟩ (fun r u H locs hu hP hD hS => ?_)
  obtain ⟨rfl, rfl⟩ := hu
  have hP : va_P D vwCl [(am, .inr (5, [.int (qf), .int (qt), .ref mvs, .ref mvl, .ref mvc, .int (qn), .int (qs), .int (qk), .int (qo), .ref mvk, .ref mvt, .ref mvg, .int (qa), .int (qm), .ref mvh, .ref mvrk, .ref mvrt, .ref mvrg, .int (qg), .int (qp), .int (qu), .int (ql), .int (qe), .int (qb), .int (qw), .ref mvf, .int (qi), .int (qj), .int (qr), .ref mvq, .ref mvp, .ref mve]))] H := hP.sub [0] rfl
  have hD : va_D A [(am, .inr (5, [.int (qf), .int (qt), .ref mvs, .ref mvl, .ref mvc, .int (qn), .int (qs), .int (qk), .int (qo), .ref mvk, .ref mvt, .ref mvg, .int (qa), .int (qm), .ref mvh, .ref mvrk, .ref mvrt, .ref mvrg, .int (qg), .int (qp), .int (qu), .int (ql), .int (qe), .int (qb), .int (qw), .ref mvf, .int (qi), .int (qj), .int (qr), .ref mvq, .ref mvp, .ref mve]))] := hD.sub [0] (by decide) rfl
  refine lv_if_ne (tgt := 12) hx hb dX5_strong_6 (by decide) (fun c3 => ?_) (fun c3 => ?_)
  · have hg := ie hg c3
    refine lv_aload_n hx hb dX5_strong_12 rfl (lv_at hl 0 rfl) ?_
    refine va_get (D := D) (ci := 5) (v := .int (qn)) (C := RX5) (T := TX5) (N := 32) hx hb hts inX5 hown hK hP 0 rfl rfl 5 (by decide) (hts (.fieldLink RX5 63 "ScooterFlagsModel" "flags" "I") (by decide +kernel)) (fun _ h9 => h9) rfl dX5_strong_13 ?_
    refine lv_if_ne (tgt := 22) hx hb dX5_strong_16 (by decide) (fun c4 => ?_) (fun c4 => ?_)
    · have hg := ie hg c4
      refine lv_aload_n hx hb dX5_strong_22 rfl (lv_at hl 0 rfl) ?_
      refine va_get (D := D) (ci := 5) (v := .int (qs)) (C := RX5) (T := TX5) (N := 32) hx hb hts inX5 hown hK hP 0 rfl rfl 6 (by decide) (hts (.fieldLink RX5 87 "ScooterFlagsModel" "strong" "I") (by decide +kernel)) (fun _ h9 => h9) rfl dX5_strong_23 ?_
      refine lv_istore_n (lv' := [(2, .int (qs)), (0, .ref am), (1, .int (zv))]) hx hb dX5_strong_26 rfl hl (by decide) rfl (fun ls hl => ?_)
      refine lv_aload_n hx hb dX5_strong_27 rfl (lv_at hl 1 rfl) ?_
      refine lv_iload_n hx hb dX5_strong_28 rfl (lv_at hl 2 rfl) ?_
      refine va_put (D := D) (ci := 5) (v := .int (zv)) (ty := .int) (C := RX5) (T := TX5) (N := 32) hx hb hts inX5 tyX5 tyX5_ok nmX5 hown hK hP hD hS 0 rfl rfl 6 (by decide) (hts (.fieldLink RX5 87 "ScooterFlagsModel" "strong" "I") (by decide +kernel)) (fun _ h9 => h9) rfl (by decide +kernel) rfl rfl (Nat.le_of_ble_eq_true rfl) dX5_strong_29 (fun H locs hP hD hS => ?_)
      have hP : va_P D vwCl [(am, .inr (5, [.int (qf), .int (qt), .ref mvs, .ref mvl, .ref mvc, .int (qn), .int (zv), .int (qk), .int (qo), .ref mvk, .ref mvt, .ref mvg, .int (qa), .int (qm), .ref mvh, .ref mvrk, .ref mvrt, .ref mvrg, .int (qg), .int (qp), .int (qu), .int (ql), .int (qe), .int (qb), .int (qw), .ref mvf, .int (qi), .int (qj), .int (qr), .ref mvq, .ref mvp, .ref mve]))] H := hP
      have hD : va_D A [(am, .inr (5, [.int (qf), .int (qt), .ref mvs, .ref mvl, .ref mvc, .int (qn), .int (zv), .int (qk), .int (qo), .ref mvk, .ref mvt, .ref mvg, .int (qa), .int (qm), .ref mvh, .ref mvrk, .ref mvrt, .ref mvrg, .int (qg), .int (qp), .int (qu), .int (ql), .int (qe), .int (qb), .int (qw), .ref mvf, .int (qi), .int (qj), .int (qr), .ref mvq, .ref mvp, .ref mve]))] := hD
      refine lv_iload_n hx hb dX5_strong_32 rfl (lv_at hl 0 rfl) ?_
      obtain rfl := Option.some.inj hg
      exact rti hQ hx hb hr hlocks hK hP hD hS dX5_strong_33 ⟨rfl, rfl⟩
    · have hg := it hg c4
      refine lv_bipush (v := (-3 : Int32)) hx hb dX5_strong_19 (by decide) ?_
      obtain rfl := Option.some.inj hg
      exact rti hQ hx hb hr hlocks hK hP hD hS dX5_strong_21 ⟨rfl, rfl⟩
  · have hg := it hg c3
    refine lv_bipush (v := (-2 : Int32)) hx hb dX5_strong_9 (by decide) ?_
    obtain rfl := Option.some.inj hg
    exact rti hQ hx hb hr hlocks hK hP hD hS dX5_strong_11 ⟨rfl, rfl⟩
def f_X5_knee (qn : Int32) (qk : Int32) (zv : Int32) : Option (Int32 × Int32) :=
  (f_X5_within zv (1 : Int32) (3 : Int32)).bind (fun o1 => if o1 = 0 then (some ((-2 : Int32), qk)) else (if qn = 0 then (some ((-3 : Int32), qk)) else (some (qk, zv))))
set_option maxHeartbeats 4000000 in
set_option maxRecDepth 100000 in
theorem c_X5_knee (l : Launch) (D : va_G) (cI cZ cR : ClassId) (am : Nat) (mvs : Nat) (mvl : Nat) (mvc : Nat) (mvk : Nat) (mvt : Nat) (mvg : Nat) (mvh : Nat) (mvrk : Nat) (mvrt : Nat) (mvrg : Nat) (mvf : Nat) (mvq : Nat) (mvp : Nat) (mve : Nat) (qf : Int32) (qt : Int32) (qn : Int32) (qs : Int32) (qk : Int32) (qo : Int32) (qa : Int32) (qm : Int32) (qg : Int32) (qp : Int32) (qu : Int32) (ql : Int32) (qe : Int32) (qb : Int32) (qw : Int32) (qi : Int32) (qj : Int32) (qr : Int32) (zv : Int32) {res : Int32 × Int32} (hg : f_X5_knee qn qk zv = some res) : MI l yX5_knee wsX5_knee ({ frames := 1, cells := 0, slots := 0, locals := 22 }) D (T3 cI cZ cR) [(am, .inr (5, [.int (qf), .int (qt), .ref mvs, .ref mvl, .ref mvc, .int (qn), .int (qs), .int (qk), .int (qo), .ref mvk, .ref mvt, .ref mvg, .int (qa), .int (qm), .ref mvh, .ref mvrk, .ref mvrt, .ref mvrg, .int (qg), .int (qp), .int (qu), .int (ql), .int (qe), .int (qb), .int (qw), .ref mvf, .int (qi), .int (qj), .int (qr), .ref mvq, .ref mvp, .ref mve]))] [.ref am, .int (zv)] (fun r u => res.1 = r ∧ u = [(am, .inr (5, [.int (qf), .int (qt), .ref mvs, .ref mvl, .ref mvc, .int (qn), .int (qs), .int (res.2), .int (qo), .ref mvk, .ref mvt, .ref mvg, .int (qa), .int (qm), .ref mvh, .ref mvrk, .ref mvrt, .ref mvrg, .int (qg), .int (qp), .int (qu), .int (ql), .int (qe), .int (qb), .int (qw), .ref mvf, .int (qi), .int (qj), .int (qr), .ref mvq, .ref mvp, .ref mve]))]) := by
  refine entI (Rn := RX5) (by decide +kernel) rfl rfl (Nat.le_of_ble_eq_true rfl) (fun p e s m args below meth c A Q hx hb hr hml hts hown hlocks hA hP hD hK hS ls hl hQ => ?_)
  have inX5 : ∀ w ∈ u_ws RX5 TX5 32, w ∈ wsX5_knee := by decide +kernel
  have hl : lv_has ls 3 [(0, .ref am), (1, .int (zv))] := hl
  rw [f_X5_knee] at hg
  refine lv_iload_n hx hb dX5_knee_0 rfl (lv_at hl 1 rfl) ?_
  refine lv_iconst (v := (1 : Int32)) hx hb dX5_knee_1 (by decide) ?_
  refine lv_iconst (v := (3 : Int32)) hx hb dX5_knee_2 (by decide) ?_
  obtain ⟨o1, h2, hg⟩ := bd hg
  refine xcSi (As := [.int (zv), .int ((1 : Int32)), .int ((3 : Int32))]) (rest := []) (wc := []) (wr := [(am, .inr (5, [.int (qf), .int (qt), .ref mvs, .ref mvl, .ref mvc, .int (qn), .int (qs), .int (qk), .int (qo), .ref mvk, .ref mvt, .ref mvg, .int (qa), .int (qm), .ref mvh, .ref mvrk, .ref mvrt, .ref mvrg, .int (qg), .int (qp), .int (qu), .int (ql), .int (qe), .int (qb), .int (qw), .ref mvf, .int (qi), .int (qj), .int (qr), .ref mvq, .ref mvp, .ref mve]))]) ⟨hx, hb, hml, hown, hts⟩ (c_X5_within l D cI cZ cR zv (1 : Int32) (3 : Int32) h2) (cwS 3 hts gX5_knee_X5_within rfl rfl rfl (by decide +kernel) ⟨Nat.le_of_ble_eq_true rfl, Nat.le_of_ble_eq_true rfl⟩) hK hP hD hS hA [] [0] rfl rfl (by decide) (by decide) (by decide) rfl rfl hl.1 (lv_room (Nat.le_of_ble_eq_true rfl)) dX5_knee_3 ⟨Nat.le_of_ble_eq_true rfl, Nat.le_of_ble_eq_true rfl⟩ (fun r u H locs hu hP hD hS => ?_)
  obtain ⟨rfl, rfl⟩ := hu
  have hP : va_P D vwCl [(am, .inr (5, [.int (qf), .int (qt), .ref mvs, .ref mvl, .ref mvc, .int (qn), .int (qs), .int (qk), .int (qo), .ref mvk, .ref mvt, .ref mvg, .int (qa), .int (qm), .ref mvh, .ref mvrk, .ref mvrt, .ref mvrg, .int (qg), .int (qp), .int (qu), .int (ql), .int (qe), .int (qb), .int (qw), .ref mvf, .int (qi), .int (qj), .int (qr), .ref mvq, .ref mvp, .ref mve]))] H := hP.sub [0] rfl
  have hD : va_D A [(am, .inr (5, [.int (qf), .int (qt), .ref mvs, .ref mvl, .ref mvc, .int (qn), .int (qs), .int (qk), .int (qo), .ref mvk, .ref mvt, .ref mvg, .int (qa), .int (qm), .ref mvh, .ref mvrk, .ref mvrt, .ref mvrg, .int (qg), .int (qp), .int (qu), .int (ql), .int (qe), .int (qb), .int (qw), .ref mvf, .int (qi), .int (qj), .int (qr), .ref mvq, .ref mvp, .ref mve]))] := hD.sub [0] (by decide) rfl
  refine lv_if_ne (tgt := 12) hx hb dX5_knee_6 (by decide) (fun c3 => ?_) (fun c3 => ?_)
  · have hg := ie hg c3
    refine lv_aload_n hx hb dX5_knee_12 rfl (lv_at hl 0 rfl) ?_
    refine va_get (D := D) (ci := 5) (v := .int (qn)) (C := RX5) (T := TX5) (N := 32) hx hb hts inX5 hown hK hP 0 rfl rfl 5 (by decide) (hts (.fieldLink RX5 63 "ScooterFlagsModel" "flags" "I") (by decide +kernel)) (fun _ h9 => h9) rfl dX5_knee_13 ?_
    refine lv_if_ne (tgt := 22) hx hb dX5_knee_16 (by decide) (fun c4 => ?_) (fun c4 => ?_)
    · have hg := ie hg c4
      refine lv_aload_n hx hb dX5_knee_22 rfl (lv_at hl 0 rfl) ?_
      refine va_get (D := D) (ci := 5) (v := .int (qk)) (C := RX5) (T := TX5) (N := 32) hx hb hts inX5 hown hK hP 0 rfl rfl 7 (by decide) (hts (.fieldLink RX5 90 "ScooterFlagsModel" "knee" "I") (by decide +kernel)) (fun _ h9 => h9) rfl dX5_knee_23 ?_
      refine lv_istore_n (lv' := [(2, .int (qk)), (0, .ref am), (1, .int (zv))]) hx hb dX5_knee_26 rfl hl (by decide) rfl (fun ls hl => ?_)
      refine lv_aload_n hx hb dX5_knee_27 rfl (lv_at hl 1 rfl) ?_
      refine lv_iload_n hx hb dX5_knee_28 rfl (lv_at hl 2 rfl) ?_
      refine va_put (D := D) (ci := 5) (v := .int (zv)) (ty := .int) (C := RX5) (T := TX5) (N := 32) hx hb hts inX5 tyX5 tyX5_ok nmX5 hown hK hP hD hS 0 rfl rfl 7 (by decide) (hts (.fieldLink RX5 90 "ScooterFlagsModel" "knee" "I") (by decide +kernel)) (fun _ h9 => h9) rfl (by decide +kernel) rfl rfl (Nat.le_of_ble_eq_true rfl) dX5_knee_29 (fun H locs hP hD hS => ?_)
      have hP : va_P D vwCl [(am, .inr (5, [.int (qf), .int (qt), .ref mvs, .ref mvl, .ref mvc, .int (qn), .int (qs), .int (zv), .int (qo), .ref mvk, .ref mvt, .ref mvg, .int (qa), .int (qm), .ref mvh, .ref mvrk, .ref mvrt, .ref mvrg, .int (qg), .int (qp), .int (qu), .int (ql), .int (qe), .int (qb), .int (qw), .ref mvf, .int (qi), .int (qj), .int (qr), .ref mvq, .ref mvp, .ref mve]))] H := hP
      have hD : va_D A [(am, .inr (5, [.int (qf), .int (qt), .ref mvs, .ref mvl, .ref mvc, .int (qn), .int (qs), .int (zv), .int (qo), .ref mvk, .ref mvt, .ref mvg, .int (qa), .int (qm), .ref mvh, .ref mvrk, .ref mvrt, .ref mvrg, .int (qg), .int (qp), .int (qu), .int (ql), .int (qe), .int (qb), .int (qw), .ref mvf, .int (qi), .int (qj), .int (qr), .ref mvq, .ref mvp, .ref mve]))] := hD
      refine lv_iload_n hx hb dX5_knee_32 rfl (lv_at hl 0 rfl) ?_
      obtain rfl := Option.some.inj hg
      exact rti hQ hx hb hr hlocks hK hP hD hS dX5_knee_33 ⟨rfl, rfl⟩
    · have hg := it hg c4
      refine lv_bipush (v := (-3 : Int32)) hx hb dX5_knee_19 (by decide) ?_
      obtain rfl := Option.some.inj hg
      exact rti hQ hx hb hr hlocks hK hP hD hS dX5_knee_21 ⟨rfl, rfl⟩
  · have hg := it hg c3
    refine lv_bipush (v := (-2 : Int32)) hx hb dX5_knee_9 (by decide) ?_
    obtain rfl := Option.some.inj hg
    exact rti hQ hx hb hr hlocks hK hP hD hS dX5_knee_11 ⟨rfl, rfl⟩
def f_X5_sole (qn : Int32) (qo : Int32) (zv : Int32) : Option (Int32 × Int32) :=
  (f_X5_within zv (0 : Int32) (2 : Int32)).bind (fun o1 => if o1 = 0 then (some ((-2 : Int32), qo)) else (if qn = 0 then (some ((-3 : Int32), qo)) else (some (qo, zv))))
set_option maxHeartbeats 4000000 in
set_option maxRecDepth 100000 in
theorem c_X5_sole (l : Launch) (D : va_G) (cI cZ cR : ClassId) (am : Nat) (mvs : Nat) (mvl : Nat) (mvc : Nat) (mvk : Nat) (mvt : Nat) (mvg : Nat) (mvh : Nat) (mvrk : Nat) (mvrt : Nat) (mvrg : Nat) (mvf : Nat) (mvq : Nat) (mvp : Nat) (mve : Nat) (qf : Int32) (qt : Int32) (qn : Int32) (qs : Int32) (qk : Int32) (qo : Int32) (qa : Int32) (qm : Int32) (qg : Int32) (qp : Int32) (qu : Int32) (ql : Int32) (qe : Int32) (qb : Int32) (qw : Int32) (qi : Int32) (qj : Int32) (qr : Int32) (zv : Int32) {res : Int32 × Int32} (hg : f_X5_sole qn qo zv = some res) : MI l yX5_sole wsX5_sole ({ frames := 1, cells := 0, slots := 0, locals := 22 }) D (T3 cI cZ cR) [(am, .inr (5, [.int (qf), .int (qt), .ref mvs, .ref mvl, .ref mvc, .int (qn), .int (qs), .int (qk), .int (qo), .ref mvk, .ref mvt, .ref mvg, .int (qa), .int (qm), .ref mvh, .ref mvrk, .ref mvrt, .ref mvrg, .int (qg), .int (qp), .int (qu), .int (ql), .int (qe), .int (qb), .int (qw), .ref mvf, .int (qi), .int (qj), .int (qr), .ref mvq, .ref mvp, .ref mve]))] [.ref am, .int (zv)] (fun r u => res.1 = r ∧ u = [(am, .inr (5, [.int (qf), .int (qt), .ref mvs, .ref mvl, .ref mvc, .int (qn), .int (qs), .int (qk), .int (res.2), .ref mvk, .ref mvt, .ref mvg, .int (qa), .int (qm), .ref mvh, .ref mvrk, .ref mvrt, .ref mvrg, .int (qg), .int (qp), .int (qu), .int (ql), .int (qe), .int (qb), .int (qw), .ref mvf, .int (qi), .int (qj), .int (qr), .ref mvq, .ref mvp, .ref mve]))]) := by
  refine entI (Rn := RX5) (by decide +kernel) rfl rfl (Nat.le_of_ble_eq_true rfl) (fun p e s m args below meth c A Q hx hb hr hml hts hown hlocks hA hP hD hK hS ls hl hQ => ?_)
  have inX5 : ∀ w ∈ u_ws RX5 TX5 32, w ∈ wsX5_sole := by decide +kernel
  have hl : lv_has ls 3 [(0, .ref am), (1, .int (zv))] := hl
  rw [f_X5_sole] at hg
  refine lv_iload_n hx hb dX5_sole_0 rfl (lv_at hl 1 rfl) ?_
  refine lv_iconst (v := (0 : Int32)) hx hb dX5_sole_1 (by decide) ?_
  refine lv_iconst (v := (2 : Int32)) hx hb dX5_sole_2 (by decide) ?_
  obtain ⟨o1, h2, hg⟩ := bd hg
  refine xcSi (As := [.int (zv), .int ((0 : Int32)), .int ((2 : Int32))]) (rest := []) (wc := []) (wr := [(am, .inr (5, [.int (qf), .int (qt), .ref mvs, .ref mvl, .ref mvc, .int (qn), .int (qs), .int (qk), .int (qo), .ref mvk, .ref mvt, .ref mvg, .int (qa), .int (qm), .ref mvh, .ref mvrk, .ref mvrt, .ref mvrg, .int (qg), .int (qp), .int (qu), .int (ql), .int (qe), .int (qb), .int (qw), .ref mvf, .int (qi), .int (qj), .int (qr), .ref mvq, .ref mvp, .ref mve]))]) ⟨hx, hb, hml, hown, hts⟩ (c_X5_within l D cI cZ cR zv (0 : Int32) (2 : Int32) h2) (cwS 3 hts gX5_sole_X5_within rfl rfl rfl (by decide +kernel) ⟨Nat.le_of_ble_eq_true rfl, Nat.le_of_ble_eq_true rfl⟩) hK hP hD hS hA [] [0] rfl rfl (by decide) (by decide) (by decide) rfl rfl hl.1 (lv_room (Nat.le_of_ble_eq_true rfl)) dX5_sole_3 ⟨Nat.le_of_ble_eq_true rfl, Nat.le_of_ble_eq_true rfl⟩ (fun r u H locs hu hP hD hS => ?_)
  obtain ⟨rfl, rfl⟩ := hu
  have hP : va_P D vwCl [(am, .inr (5, [.int (qf), .int (qt), .ref mvs, .ref mvl, .ref mvc, .int (qn), .int (qs), .int (qk), .int (qo), .ref mvk, .ref mvt, .ref mvg, .int (qa), .int (qm), .ref mvh, .ref mvrk, .ref mvrt, .ref mvrg, .int (qg), .int (qp), .int (qu), .int (ql), .int (qe), .int (qb), .int (qw), .ref mvf, .int (qi), .int (qj), .int (qr), .ref mvq, .ref mvp, .ref mve]))] H := hP.sub [0] rfl
  have hD : va_D A [(am, .inr (5, [.int (qf), .int (qt), .ref mvs, .ref mvl, .ref mvc, .int (qn), .int (qs), .int (qk), .int (qo), .ref mvk, .ref mvt, .ref mvg, .int (qa), .int (qm), .ref mvh, .ref mvrk, .ref mvrt, .ref mvrg, .int (qg), .int (qp), .int (qu), .int (ql), .int (qe), .int (qb), .int (qw), .ref mvf, .int (qi), .int (qj), .int (qr), .ref mvq, .ref mvp, .ref mve]))] := hD.sub [0] (by decide) rfl
  refine lv_if_ne (tgt := 12) hx hb dX5_sole_6 (by decide) (fun c3 => ?_) (fun c3 => ?_)
  · have hg := ie hg c3
    refine lv_aload_n hx hb dX5_sole_12 rfl (lv_at hl 0 rfl) ?_
    refine va_get (D := D) (ci := 5) (v := .int (qn)) (C := RX5) (T := TX5) (N := 32) hx hb hts inX5 hown hK hP 0 rfl rfl 5 (by decide) (hts (.fieldLink RX5 63 "ScooterFlagsModel" "flags" "I") (by decide +kernel)) (fun _ h9 => h9) rfl dX5_sole_13 ?_
    refine lv_if_ne (tgt := 22) hx hb dX5_sole_16 (by decide) (fun c4 => ?_) (fun c4 => ?_)
    · have hg := ie hg c4
      refine lv_aload_n hx hb dX5_sole_22 rfl (lv_at hl 0 rfl) ?_
      refine va_get (D := D) (ci := 5) (v := .int (qo)) (C := RX5) (T := TX5) (N := 32) hx hb hts inX5 hown hK hP 0 rfl rfl 8 (by decide) (hts (.fieldLink RX5 93 "ScooterFlagsModel" "sole" "I") (by decide +kernel)) (fun _ h9 => h9) rfl dX5_sole_23 ?_
      refine lv_istore_n (lv' := [(2, .int (qo)), (0, .ref am), (1, .int (zv))]) hx hb dX5_sole_26 rfl hl (by decide) rfl (fun ls hl => ?_)
      refine lv_aload_n hx hb dX5_sole_27 rfl (lv_at hl 1 rfl) ?_
      refine lv_iload_n hx hb dX5_sole_28 rfl (lv_at hl 2 rfl) ?_
      refine va_put (D := D) (ci := 5) (v := .int (zv)) (ty := .int) (C := RX5) (T := TX5) (N := 32) hx hb hts inX5 tyX5 tyX5_ok nmX5 hown hK hP hD hS 0 rfl rfl 8 (by decide) (hts (.fieldLink RX5 93 "ScooterFlagsModel" "sole" "I") (by decide +kernel)) (fun _ h9 => h9) rfl (by decide +kernel) rfl rfl (Nat.le_of_ble_eq_true rfl) dX5_sole_29 (fun H locs hP hD hS => ?_)
      have hP : va_P D vwCl [(am, .inr (5, [.int (qf), .int (qt), .ref mvs, .ref mvl, .ref mvc, .int (qn), .int (qs), .int (qk), .int (zv), .ref mvk, .ref mvt, .ref mvg, .int (qa), .int (qm), .ref mvh, .ref mvrk, .ref mvrt, .ref mvrg, .int (qg), .int (qp), .int (qu), .int (ql), .int (qe), .int (qb), .int (qw), .ref mvf, .int (qi), .int (qj), .int (qr), .ref mvq, .ref mvp, .ref mve]))] H := hP
      have hD : va_D A [(am, .inr (5, [.int (qf), .int (qt), .ref mvs, .ref mvl, .ref mvc, .int (qn), .int (qs), .int (qk), .int (zv), .ref mvk, .ref mvt, .ref mvg, .int (qa), .int (qm), .ref mvh, .ref mvrk, .ref mvrt, .ref mvrg, .int (qg), .int (qp), .int (qu), .int (ql), .int (qe), .int (qb), .int (qw), .ref mvf, .int (qi), .int (qj), .int (qr), .ref mvq, .ref mvp, .ref mve]))] := hD
      refine lv_iload_n hx hb dX5_sole_32 rfl (lv_at hl 0 rfl) ?_
      obtain rfl := Option.some.inj hg
      exact rti hQ hx hb hr hlocks hK hP hD hS dX5_sole_33 ⟨rfl, rfl⟩
    · have hg := it hg c4
      refine lv_bipush (v := (-3 : Int32)) hx hb dX5_sole_19 (by decide) ?_
      obtain rfl := Option.some.inj hg
      exact rti hQ hx hb hr hlocks hK hP hD hS dX5_sole_21 ⟨rfl, rfl⟩
  · have hg := it hg c3
    refine lv_bipush (v := (-2 : Int32)) hx hb dX5_sole_9 (by decide) ?_
    obtain rfl := Option.some.inj hg
    exact rti hQ hx hb hr hlocks hK hP hD hS dX5_sole_11 ⟨rfl, rfl⟩
def f_X5_grating (qn : Int32) (vg : Nat → Int32) (zf : Int32) (zv : Int32) : Option (Int32 × (Nat → Int32)) :=
  (f_X5_isFlag qn zf).bind (fun o1 => if o1 = 0 then (some ((-1 : Int32), vg)) else (gx zf 10 (gx zf 10 (gd (zv = 0 ∨ zv = 1) (if (vg zf.toNatClampNeg) = zv then (some ((0 : Int32), (upd vg zf.toNatClampNeg zv))) else (some ((1 : Int32), (upd vg zf.toNatClampNeg zv))))))))
set_option maxHeartbeats 4000000 in
set_option maxRecDepth 100000 in
theorem c_X5_grating (l : Launch) (D : va_G) (cI cZ cR : ClassId) (am : Nat) (mvk : Nat) (mvt : Nat) (mvg : Nat) (mvs : Nat) (mvl : Nat) (mvc : Nat) (mvh : Nat) (mvrk : Nat) (mvrt : Nat) (mvrg : Nat) (mvf : Nat) (mvq : Nat) (mvp : Nat) (mve : Nat) (qf : Int32) (qt : Int32) (qn : Int32) (qs : Int32) (qk : Int32) (qo : Int32) (qa : Int32) (qm : Int32) (qg : Int32) (qp : Int32) (qu : Int32) (ql : Int32) (qe : Int32) (qb : Int32) (qw : Int32) (qi : Int32) (qj : Int32) (qr : Int32) (vk : Nat → Int32) (vt : Nat → Int32) (vg : Nat → Int32) (zf : Int32) (zv : Int32) {res : Int32 × (Nat → Int32)} (hg : f_X5_grating qn vg zf zv = some res) : MI l yX5_grating wsX5_grating ({ frames := 1, cells := 0, slots := 0, locals := 21 }) D (T3 cI cZ cR) [(am, .inr (5, [.int (qf), .int (qt), .ref mvs, .ref mvl, .ref mvc, .int (qn), .int (qs), .int (qk), .int (qo), .ref mvk, .ref mvt, .ref mvg, .int (qa), .int (qm), .ref mvh, .ref mvrk, .ref mvrt, .ref mvrg, .int (qg), .int (qp), .int (qu), .int (ql), .int (qe), .int (qb), .int (qw), .ref mvf, .int (qi), .int (qj), .int (qr), .ref mvq, .ref mvp, .ref mve])), (mvk, .inl (cI, 10, .inl (vk))), (mvt, .inl (cI, 10, .inl (vt))), (mvg, .inl (cZ, 10, .inl (vg)))] [.ref am, .int (zf), .int (zv)] (fun r u => res.1 = r ∧ u = [(am, .inr (5, [.int (qf), .int (qt), .ref mvs, .ref mvl, .ref mvc, .int (qn), .int (qs), .int (qk), .int (qo), .ref mvk, .ref mvt, .ref mvg, .int (qa), .int (qm), .ref mvh, .ref mvrk, .ref mvrt, .ref mvrg, .int (qg), .int (qp), .int (qu), .int (ql), .int (qe), .int (qb), .int (qw), .ref mvf, .int (qi), .int (qj), .int (qr), .ref mvq, .ref mvp, .ref mve])), (mvk, .inl (cI, 10, .inl (vk))), (mvt, .inl (cI, 10, .inl (vt))), (mvg, .inl (cZ, 10, .inl (res.2)))]) := by
  refine entI (Rn := RX5) (by decide +kernel) rfl rfl (Nat.le_of_ble_eq_true rfl) (fun p e s m args below meth c A Q hx hb hr hml hts hown hlocks hA hP hD hK hS ls hl hQ => ?_)
  have inX5 : ∀ w ∈ u_ws RX5 TX5 32, w ∈ wsX5_grating := by decide +kernel
  have hl : lv_has ls 4 [(0, .ref am), (1, .int (zf)), (2, .int (zv))] := hl
  rw [f_X5_grating] at hg
  refine lv_aload_n hx hb dX5_grating_0 rfl (lv_at hl 0 rfl) ?_
  refine lv_iload_n hx hb dX5_grating_1 rfl (lv_at hl 1 rfl) ?_
  obtain ⟨o1, h2, hg⟩ := bd hg
  refine xcVi (As := [.int (zf)]) (rest := []) (wc := [(am, .inr (5, [.int (qf), .int (qt), .ref mvs, .ref mvl, .ref mvc, .int (qn), .int (qs), .int (qk), .int (qo), .ref mvk, .ref mvt, .ref mvg, .int (qa), .int (qm), .ref mvh, .ref mvrk, .ref mvrt, .ref mvrg, .int (qg), .int (qp), .int (qu), .int (ql), .int (qe), .int (qb), .int (qw), .ref mvf, .int (qi), .int (qj), .int (qr), .ref mvq, .ref mvp, .ref mve]))]) (wr := [(mvk, .inl (cI, 10, .inl (vk))), (mvt, .inl (cI, 10, .inl (vt))), (mvg, .inl (cZ, 10, .inl (vg)))]) ⟨hx, hb, hml, hown, hts⟩ (c_X5_isFlag l D cI cZ cR am mvs mvl mvc mvk mvt mvg mvh mvrk mvrt mvrg mvf mvq mvp mve qf qt qn qs qk qo qa qm qg qp qu ql qe qb qw qi qj qr zf h2) (cwV 1 hts gX5_grating_X5_isFlag rfl rfl rfl (by decide +kernel) ⟨Nat.le_of_ble_eq_true rfl, Nat.le_of_ble_eq_true rfl⟩) hK hP hD hS hA [0] [1, 2, 3] rfl rfl (by decide) (by decide) (by decide) (va_recv hK hP (ci := 5) (q0 := 0) rfl rfl) rfl rfl hl.1 (lv_room (Nat.le_of_ble_eq_true rfl)) dX5_grating_2 ⟨Nat.le_of_ble_eq_true rfl, Nat.le_of_ble_eq_true rfl⟩ (fun r u H locs hu hP hD hS => ?_)
  obtain ⟨rfl, rfl⟩ := hu
  have hP : va_P D vwCl [(am, .inr (5, [.int (qf), .int (qt), .ref mvs, .ref mvl, .ref mvc, .int (qn), .int (qs), .int (qk), .int (qo), .ref mvk, .ref mvt, .ref mvg, .int (qa), .int (qm), .ref mvh, .ref mvrk, .ref mvrt, .ref mvrg, .int (qg), .int (qp), .int (qu), .int (ql), .int (qe), .int (qb), .int (qw), .ref mvf, .int (qi), .int (qj), .int (qr), .ref mvq, .ref mvp, .ref mve])), (mvk, .inl (cI, 10, .inl (vk))), (mvt, .inl (cI, 10, .inl (vt))), (mvg, .inl (cZ, 10, .inl (vg)))] H := hP.sub [3, 0, 1, 2] rfl
  have hD : va_D A [(am, .inr (5, [.int (qf), .int (qt), .ref mvs, .ref mvl, .ref mvc, .int (qn), .int (qs), .int (qk), .int (qo), .ref mvk, .ref mvt, .ref mvg, .int (qa), .int (qm), .ref mvh, .ref mvrk, .ref mvrt, .ref mvrg, .int (qg), .int (qp), .int (qu), .int (ql), .int (qe), .int (qb), .int (qw), .ref mvf, .int (qi), .int (qj), .int (qr), .ref mvq, .ref mvp, .ref mve])), (mvk, .inl (cI, 10, .inl (vk))), (mvt, .inl (cI, 10, .inl (vt))), (mvg, .inl (cZ, 10, .inl (vg)))] := hD.sub [3, 0, 1, 2] (by decide) rfl
  refine lv_if_ne (tgt := 10) hx hb dX5_grating_5 (by decide) (fun c3 => ?_) (fun c3 => ?_)
  · have hg := ie hg c3
    refine lv_aload_n hx hb dX5_grating_10 rfl (lv_at hl 0 rfl) ?_
    refine va_get (D := D) (ci := 5) (v := .ref mvg) (C := RX5) (T := TX5) (N := 32) hx hb hts inX5 hown hK hP 0 rfl rfl 11 (by decide) (hts (.fieldLink RX5 25 "ScooterFlagsModel" "grated" "[Z") (by decide +kernel)) (fun _ h9 => h9) rfl dX5_grating_11 ?_
    refine lv_iload_n hx hb dX5_grating_14 rfl (lv_at hl 1 rfl) ?_
    obtain ⟨g4, hg⟩ := gxo hg
    refine va_zald hx hb hK hP 3 1 rfl rfl g4 dX5_grating_15 ?_
    refine W.eq (g2 := F0 m 16 ls [.int ((vg zf.toNatClampNeg))]) rfl ?_
    refine lv_istore_n (lv' := [(3, .int ((vg zf.toNatClampNeg))), (0, .ref am), (1, .int (zf)), (2, .int (zv))]) hx hb dX5_grating_16 rfl hl (by decide) rfl (fun ls hl => ?_)
    refine lv_aload_n hx hb dX5_grating_17 rfl (lv_at hl 1 rfl) ?_
    refine va_get (D := D) (ci := 5) (v := .ref mvg) (C := RX5) (T := TX5) (N := 32) hx hb hts inX5 hown hK hP 0 rfl rfl 11 (by decide) (hts (.fieldLink RX5 25 "ScooterFlagsModel" "grated" "[Z") (by decide +kernel)) (fun _ h9 => h9) rfl dX5_grating_18 ?_
    refine lv_iload_n hx hb dX5_grating_21 rfl (lv_at hl 2 rfl) ?_
    refine lv_iload_n hx hb dX5_grating_22 rfl (lv_at hl 3 rfl) ?_
    obtain ⟨g5, hg⟩ := gxo hg
    obtain ⟨g6, hg⟩ := gdo hg
    refine va_zast hx hb hK hP hD hS 3 1 rfl rfl g5 dX5_grating_23 (fun H locs hP hD hS => ?_)
    rw [zbv g6] at hP hD
    have hP : va_P D vwCl [(am, .inr (5, [.int (qf), .int (qt), .ref mvs, .ref mvl, .ref mvc, .int (qn), .int (qs), .int (qk), .int (qo), .ref mvk, .ref mvt, .ref mvg, .int (qa), .int (qm), .ref mvh, .ref mvrk, .ref mvrt, .ref mvrg, .int (qg), .int (qp), .int (qu), .int (ql), .int (qe), .int (qb), .int (qw), .ref mvf, .int (qi), .int (qj), .int (qr), .ref mvq, .ref mvp, .ref mve])), (mvk, .inl (cI, 10, .inl (vk))), (mvt, .inl (cI, 10, .inl (vt))), (mvg, .inl (cZ, 10, .inl ((upd vg zf.toNatClampNeg zv))))] H := hP
    have hD : va_D A [(am, .inr (5, [.int (qf), .int (qt), .ref mvs, .ref mvl, .ref mvc, .int (qn), .int (qs), .int (qk), .int (qo), .ref mvk, .ref mvt, .ref mvg, .int (qa), .int (qm), .ref mvh, .ref mvrk, .ref mvrt, .ref mvrg, .int (qg), .int (qp), .int (qu), .int (ql), .int (qe), .int (qb), .int (qw), .ref mvf, .int (qi), .int (qj), .int (qr), .ref mvq, .ref mvp, .ref mve])), (mvk, .inl (cI, 10, .inl (vk))), (mvt, .inl (cI, 10, .inl (vt))), (mvg, .inl (cZ, 10, .inl ((upd vg zf.toNatClampNeg zv))))] := hD
    refine lv_iload_n hx hb dX5_grating_24 rfl (lv_at hl 0 rfl) ?_
    refine lv_iload_n hx hb dX5_grating_25 rfl (lv_at hl 3 rfl) ?_
    refine lv_icmp_ne (tgt := 33) hx hb dX5_grating_26 (by decide) (fun c7 => ?_) (fun c7 => ?_)
    · have hg := ie hg c7
      refine lv_iconst (v := (1 : Int32)) hx hb dX5_grating_33 (by decide) ?_
      obtain rfl := Option.some.inj hg
      exact rti hQ hx hb hr hlocks hK hP hD hS dX5_grating_34 ⟨rfl, rfl⟩
    · have hg := it hg c7
      refine lv_iconst (v := (0 : Int32)) hx hb dX5_grating_29 (by decide) ?_
      refine lv_goto (tgt := 34) hx hb dX5_grating_30 (by decide) ?_
      obtain rfl := Option.some.inj hg
      exact rti hQ hx hb hr hlocks hK hP hD hS dX5_grating_34 ⟨rfl, rfl⟩
  · have hg := it hg c3
    refine lv_iconst (v := (-1 : Int32)) hx hb dX5_grating_8 (by decide) ?_
    obtain rfl := Option.some.inj hg
    exact rti hQ hx hb hr hlocks hK hP hD hS dX5_grating_9 ⟨rfl, rfl⟩
