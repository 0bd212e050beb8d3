def f_X4_failed (zv : Int32) : Option (Int32 × Int32) :=
  some (((-10 : Int32) - zv), zv)
set_option maxHeartbeats 4000000 in
set_option maxRecDepth 100000 in
theorem c_X4_failed (l : Launch) (D : va_G) (cI cZ cR : ClassId) (ax : Nat) (axr : Nat) (axi : Nat) (ah : Nat) (axg : Nat) (axo : Nat) (ab : Nat) (au : Nat) (rc : Int32) (tc : Int32) (lf : Int32) (zv : Int32) {res : Int32 × Int32} (hg : f_X4_failed zv = some res) : MI l yX4_failed wsX4_failed ({ frames := 0, cells := 0, slots := 0, locals := 0 }) D (T3 cI cZ cR) [(ax, .inr (4, [.ref axr, .ref axi, .ref ah, .ref axg, .ref axo, .ref ab, .ref au, .int (rc), .int (tc), .int (lf)]))] [.ref ax, .int (zv)] (fun r u => res.1 = r ∧ u = [(ax, .inr (4, [.ref axr, .ref axi, .ref ah, .ref axg, .ref axo, .ref ab, .ref au, .int (rc), .int (tc), .int (res.2)]))]) := by
  refine entI (Rn := RX4) (by decide +kernel) rfl rfl (Nat.le_of_ble_eq_true rfl) (fun p e s m args below meth c A Q hx hb hr hml hts hown hlocks hA hP hD hK hS ls hl hQ => ?_)
  have inX4 : ∀ w ∈ u_ws RX4 TX4 10, w ∈ wsX4_failed := by decide +kernel
  have hl : lv_has ls 2 [(0, .ref ax), (1, .int (zv))] := hl
  rw [f_X4_failed] at hg
  refine lv_aload_n hx hb dX4_failed_0 rfl (lv_at hl 0 rfl) ?_
  refine lv_iload_n hx hb dX4_failed_1 rfl (lv_at hl 1 rfl) ?_
  refine va_put (D := D) (ci := 4) (v := .int (zv)) (ty := .int) (C := RX4) (T := TX4) (N := 10) hx hb hts inX4 tyX4 tyX4_ok nmX4 hown hK hP hD hS 0 rfl rfl 9 (by decide) (hts (.fieldLink RX4 55 "ScooterFlags" "lastFault" "I") (by decide +kernel)) (fun _ h9 => h9) rfl (by decide +kernel) rfl rfl (Nat.le_of_ble_eq_true rfl) dX4_failed_2 (fun H locs hP hD hS => ?_)
  have hP : va_P D vwCl [(ax, .inr (4, [.ref axr, .ref axi, .ref ah, .ref axg, .ref axo, .ref ab, .ref au, .int (rc), .int (tc), .int (zv)]))] H := hP
  have hD : va_D A [(ax, .inr (4, [.ref axr, .ref axi, .ref ah, .ref axg, .ref axo, .ref ab, .ref au, .int (rc), .int (tc), .int (zv)]))] := hD
  refine lv_bipush (v := (-10 : Int32)) hx hb dX4_failed_5 (by decide) ?_
  refine lv_iload_n hx hb dX4_failed_7 rfl (lv_at hl 1 rfl) ?_
  refine lv_isub hx hb dX4_failed_8 ?_
  obtain rfl := Option.some.inj hg
  exact rti hQ hx hb hr hlocks hK hP hD hS dX4_failed_9 ⟨rfl, rfl⟩
def f_X4_isSheet (zk_ : Int32) : Option (Int32) :=
  if zk_ < 0 then (some ((0 : Int32))) else (if (4 : Int32) ≤ zk_ then (some ((0 : Int32))) else (some ((1 : Int32))))
set_option maxHeartbeats 4000000 in
set_option maxRecDepth 100000 in
theorem c_X4_isSheet (l : Launch) (D : va_G) (cI cZ cR : ClassId)  (zk_ : Int32) {res : Int32} (hg : f_X4_isSheet zk_ = some res) : MI l yX4_isSheet wsX4_isSheet ({ frames := 0, cells := 0, slots := 0, locals := 0 }) D (T3 cI cZ cR) [] [.int (zk_)] (fun r u => res = r ∧ u = []) := by
  refine entI (Rn := RX4) (by decide +kernel) rfl rfl (Nat.le_of_ble_eq_true rfl) (fun p e s m args below meth c A Q hx hb hr hml hts hown hlocks hA hP hD hK hS ls hl hQ => ?_)
  have hl : lv_has ls 1 [(0, .int (zk_))] := hl
  rw [f_X4_isSheet] at hg
  refine lv_iload_n hx hb dX4_isSheet_0 rfl (lv_at hl 0 rfl) ?_
  refine lv_if_lt (tgt := 13) hx hb dX4_isSheet_1 (by decide) (fun c1 => ?_) (fun c1 => ?_)
  · have hg := it hg c1
    refine lv_iconst (v := (0 : Int32)) hx hb dX4_isSheet_13 (by decide) ?_
    obtain rfl := Option.some.inj hg
    exact rtz hQ hx hb hr rfl hlocks hK hP hD hS dX4_isSheet_14 ⟨rfl, rfl⟩
  · have hg := ie hg c1
    refine lv_iload_n hx hb dX4_isSheet_4 rfl (lv_at hl 0 rfl) ?_
    refine lv_iconst (v := (4 : Int32)) hx hb dX4_isSheet_5 (by decide) ?_
    refine lv_icmp_ge (tgt := 13) hx hb dX4_isSheet_6 (by decide) (fun c2 => ?_) (fun c2 => ?_)
    · have hg := it hg c2
      refine lv_iconst (v := (0 : Int32)) hx hb dX4_isSheet_13 (by decide) ?_
      obtain rfl := Option.some.inj hg
      exact rtz hQ hx hb hr rfl hlocks hK hP hD hS dX4_isSheet_14 ⟨rfl, rfl⟩
    · have hg := ie hg c2
      refine lv_iconst (v := (1 : Int32)) hx hb dX4_isSheet_9 (by decide) ?_
      refine lv_goto (tgt := 14) hx hb dX4_isSheet_10 (by decide) ?_
      obtain rfl := Option.some.inj hg
      exact rtz hQ hx hb hr rfl hlocks hK hP hD hS dX4_isSheet_14 ⟨rfl, rfl⟩
def f_X4_isLane (zk_ : Int32) : Option (Int32) :=
  if zk_ < 0 then (some ((0 : Int32))) else (if (3 : Int32) ≤ zk_ then (some ((0 : Int32))) else (some ((1 : Int32))))
set_option maxHeartbeats 4000000 in
set_option maxRecDepth 100000 in
theorem c_X4_isLane (l : Launch) (D : va_G) (cI cZ cR : ClassId)  (zk_ : Int32) {res : Int32} (hg : f_X4_isLane zk_ = some res) : MI l yX4_isLane wsX4_isLane ({ frames := 0, cells := 0, slots := 0, locals := 0 }) D (T3 cI cZ cR) [] [.int (zk_)] (fun r u => res = r ∧ u = []) := by
  refine entI (Rn := RX4) (by decide +kernel) rfl rfl (Nat.le_of_ble_eq_true rfl) (fun p e s m args below meth c A Q hx hb hr hml hts hown hlocks hA hP hD hK hS ls hl hQ => ?_)
  have hl : lv_has ls 1 [(0, .int (zk_))] := hl
  rw [f_X4_isLane] at hg
  refine lv_iload_n hx hb dX4_isLane_0 rfl (lv_at hl 0 rfl) ?_
  refine lv_if_lt (tgt := 13) hx hb dX4_isLane_1 (by decide) (fun c1 => ?_) (fun c1 => ?_)
  · have hg := it hg c1
    refine lv_iconst (v := (0 : Int32)) hx hb dX4_isLane_13 (by decide) ?_
    obtain rfl := Option.some.inj hg
    exact rtz hQ hx hb hr rfl hlocks hK hP hD hS dX4_isLane_14 ⟨rfl, rfl⟩
  · have hg := ie hg c1
    refine lv_iload_n hx hb dX4_isLane_4 rfl (lv_at hl 0 rfl) ?_
    refine lv_iconst (v := (3 : Int32)) hx hb dX4_isLane_5 (by decide) ?_
    refine lv_icmp_ge (tgt := 13) hx hb dX4_isLane_6 (by decide) (fun c2 => ?_) (fun c2 => ?_)
    · have hg := it hg c2
      refine lv_iconst (v := (0 : Int32)) hx hb dX4_isLane_13 (by decide) ?_
      obtain rfl := Option.some.inj hg
      exact rtz hQ hx hb hr rfl hlocks hK hP hD hS dX4_isLane_14 ⟨rfl, rfl⟩
    · have hg := ie hg c2
      refine lv_iconst (v := (1 : Int32)) hx hb dX4_isLane_9 (by decide) ?_
      refine lv_goto (tgt := 14) hx hb dX4_isLane_10 (by decide) ?_
      obtain rfl := Option.some.inj hg
      exact rtz hQ hx hb hr rfl hlocks hK hP hD hS dX4_isLane_14 ⟨rfl, rfl⟩
def f_X4_many (rc : Int32) (cn : Int32) (st : Int32) (kn : Int32) (sb : Int32) (zv : Int32) : Option (Int32) :=
  if zv = 0 then (some (cn)) else if zv = 1 then (some (st)) else if zv = 2 then (some (kn)) else if zv = 3 then (some (sb)) else if zv = 4 then (some (rc)) else (some ((-2 : Int32)))
set_option maxHeartbeats 4000000 in
set_option maxRecDepth 100000 in
theorem c_X4_many (l : Launch) (D : va_G) (cI cZ cR : ClassId) (ax : Nat) (ab : Nat) (abk : Nat) (abt : Nat) (abg : Nat) (axr : Nat) (axi : Nat) (ah : Nat) (axg : Nat) (axo : Nat) (au : Nat) (rc : Int32) (tc : Int32) (lf : Int32) (cn : Int32) (st : Int32) (kn : Int32) (sb : Int32) (kd : Nat → Int32) (tk : Nat → Int32) (gr : Nat → Int32) (zv : Int32) {res : Int32} (hg : f_X4_many rc cn st kn sb zv = some res) : MI l yX4_many wsX4_many ({ frames := 0, cells := 0, slots := 0, locals := 0 }) D (T3 cI cZ cR) [(ax, .inr (4, [.ref axr, .ref axi, .ref ah, .ref axg, .ref axo, .ref ab, .ref au, .int (rc), .int (tc), .int (lf)])), (ab, .inr (3, [.ref abk, .ref abt, .ref abg, .int (cn), .int (st), .int (kn), .int (sb)])), (abk, .inl (cI, 10, .inl (kd))), (abt, .inl (cI, 10, .inl (tk))), (abg, .inl (cZ, 10, .inl (gr)))] [.ref ax, .int (zv)] (fun r u => res = r ∧ u = [(ax, .inr (4, [.ref axr, .ref axi, .ref ah, .ref axg, .ref axo, .ref ab, .ref au, .int (rc), .int (tc), .int (lf)])), (ab, .inr (3, [.ref abk, .ref abt, .ref abg, .int (cn), .int (st), .int (kn), .int (sb)])), (abk, .inl (cI, 10, .inl (kd))), (abt, .inl (cI, 10, .inl (tk))), (abg, .inl (cZ, 10, .inl (gr)))]) := by
  refine entI (Rn := RX4) (by decide +kernel) rfl rfl (Nat.le_of_ble_eq_true rfl) (fun p e s m args below meth c A Q hx hb hr hml hts hown hlocks hA hP hD hK hS ls hl hQ => ?_)
  have inX3 : ∀ w ∈ u_ws RX3 TX3 7, w ∈ wsX4_many := by decide +kernel
  have inX4 : ∀ w ∈ u_ws RX4 TX4 10, w ∈ wsX4_many := by decide +kernel
  have hl : lv_has ls 2 [(0, .ref ax), (1, .int (zv))] := hl
  rw [f_X4_many] at hg
  refine lv_iload_n hx hb dX4_many_0 rfl (lv_at hl 1 rfl) ?_
  by_cases c1 : zv = 0
  · have hg := it hg c1
    refine lv_tableIn (off := 35) (tgt := 36) hx hb dX4_many_1 (by rw [c1]; decide) (by rw [c1]; decide) (by rw [c1]; rfl) (by decide) ?_
    refine lv_aload_n hx hb dX4_many_36 rfl (lv_at hl 0 rfl) ?_
    refine va_get (D := D) (ci := 4) (v := .ref ab) (C := RX4) (T := TX4) (N := 10) hx hb hts inX4 hown hK hP 0 rfl rfl 5 (by decide) (hts (.fieldLink RX4 41 "ScooterFlags" "road" "LScooterFlags$Street;") (by decide +kernel)) (fun _ h9 => h9) rfl dX4_many_37 ?_
    refine va_get (D := D) (ci := 3) (v := .int (cn)) (C := RX3) (T := TX3) (N := 7) hx hb hts inX3 hown hK hP 1 rfl rfl 3 (by decide) (hts (.fieldLink RX4 85 "ScooterFlags$Street" "count" "I") (by decide +kernel)) (fun _ h9 => h9) rfl dX4_many_40 ?_
    obtain rfl := Option.some.inj hg
    exact rti hQ hx hb hr hlocks hK hP hD hS dX4_many_43 ⟨rfl, rfl⟩
  · have hg := ie hg c1
    by_cases c2 : zv = 1
    · have hg := it hg c2
      refine lv_tableIn (off := 43) (tgt := 44) hx hb dX4_many_1 (by rw [c2]; decide) (by rw [c2]; decide) (by rw [c2]; rfl) (by decide) ?_
      refine lv_aload_n hx hb dX4_many_44 rfl (lv_at hl 0 rfl) ?_
      refine va_get (D := D) (ci := 4) (v := .ref ab) (C := RX4) (T := TX4) (N := 10) hx hb hts inX4 hown hK hP 0 rfl rfl 5 (by decide) (hts (.fieldLink RX4 41 "ScooterFlags" "road" "LScooterFlags$Street;") (by decide +kernel)) (fun _ h9 => h9) rfl dX4_many_45 ?_
      refine va_get (D := D) (ci := 3) (v := .int (st)) (C := RX3) (T := TX3) (N := 7) hx hb hts inX3 hown hK hP 1 rfl rfl 4 (by decide) (hts (.fieldLink RX4 108 "ScooterFlags$Street" "strength" "I") (by decide +kernel)) (fun _ h9 => h9) rfl dX4_many_48 ?_
      obtain rfl := Option.some.inj hg
      exact rti hQ hx hb hr hlocks hK hP hD hS dX4_many_51 ⟨rfl, rfl⟩
    · have hg := ie hg c2
      by_cases c3 : zv = 2
      · have hg := it hg c3
        refine lv_tableIn (off := 51) (tgt := 52) hx hb dX4_many_1 (by rw [c3]; decide) (by rw [c3]; decide) (by rw [c3]; rfl) (by decide) ?_
        refine lv_aload_n hx hb dX4_many_52 rfl (lv_at hl 0 rfl) ?_
        refine va_get (D := D) (ci := 4) (v := .ref ab) (C := RX4) (T := TX4) (N := 10) hx hb hts inX4 hown hK hP 0 rfl rfl 5 (by decide) (hts (.fieldLink RX4 41 "ScooterFlags" "road" "LScooterFlags$Street;") (by decide +kernel)) (fun _ h9 => h9) rfl dX4_many_53 ?_
        refine va_get (D := D) (ci := 3) (v := .int (kn)) (C := RX3) (T := TX3) (N := 7) hx hb hts inX3 hown hK hP 1 rfl rfl 5 (by decide) (hts (.fieldLink RX4 111 "ScooterFlags$Street" "kneeBears" "I") (by decide +kernel)) (fun _ h9 => h9) rfl dX4_many_56 ?_
        obtain rfl := Option.some.inj hg
        exact rti hQ hx hb hr hlocks hK hP hD hS dX4_many_59 ⟨rfl, rfl⟩
      · have hg := ie hg c3
        by_cases c4 : zv = 3
        · have hg := it hg c4
          refine lv_tableIn (off := 59) (tgt := 60) hx hb dX4_many_1 (by rw [c4]; decide) (by rw [c4]; decide) (by rw [c4]; rfl) (by decide) ?_
          refine lv_aload_n hx hb dX4_many_60 rfl (lv_at hl 0 rfl) ?_
          refine va_get (D := D) (ci := 4) (v := .ref ab) (C := RX4) (T := TX4) (N := 10) hx hb hts inX4 hown hK hP 0 rfl rfl 5 (by decide) (hts (.fieldLink RX4 41 "ScooterFlags" "road" "LScooterFlags$Street;") (by decide +kernel)) (fun _ h9 => h9) rfl dX4_many_61 ?_
          refine va_get (D := D) (ci := 3) (v := .int (sb)) (C := RX3) (T := TX3) (N := 7) hx hb hts inX3 hown hK hP 1 rfl rfl 6 (by decide) (hts (.fieldLink RX4 114 "ScooterFlags$Street" "soleBears" "I") (by decide +kernel)) (fun _ h9 => h9) rfl dX4_many_64 ?_
          obtain rfl := Option.some.inj hg
          exact rti hQ hx hb hr hlocks hK hP hD hS dX4_many_67 ⟨rfl, rfl⟩
        · have hg := ie hg c4
          by_cases c5 : zv = 4
          · have hg := it hg c5
            refine lv_tableIn (off := 67) (tgt := 68) hx hb dX4_many_1 (by rw [c5]; decide) (by rw [c5]; decide) (by rw [c5]; rfl) (by decide) ?_
            refine lv_aload_n hx hb dX4_many_68 rfl (lv_at hl 0 rfl) ?_
            refine va_get (D := D) (ci := 4) (v := .int (rc)) (C := RX4) (T := TX4) (N := 10) hx hb hts inX4 hown hK hP 0 rfl rfl 7 (by decide) (hts (.fieldLink RX4 48 "ScooterFlags" "readingCount" "I") (by decide +kernel)) (fun _ h9 => h9) rfl dX4_many_69 ?_
            obtain rfl := Option.some.inj hg
            exact rti hQ hx hb hr hlocks hK hP hD hS dX4_many_72 ⟨rfl, rfl⟩
          · have hg := ie hg c5
            have nc1 := lv_neT c1 (show ((0 : Int32)).toInt = 0 from rfl)
            have nc2 := lv_neT c2 (show ((1 : Int32)).toInt = 1 from rfl)
            have nc3 := lv_neT c3 (show ((2 : Int32)).toInt = 2 from rfl)
            have nc4 := lv_neT c4 (show ((3 : Int32)).toInt = 3 from rfl)
            have nc5 := lv_neT c5 (show ((4 : Int32)).toInt = 4 from rfl)
            refine lv_tableOut (tgt := 73) hx hb dX4_many_1 (by omega) (by decide) ?_
            refine lv_bipush (v := (-2 : Int32)) hx hb dX4_many_73 (by decide) ?_
            obtain rfl := Option.some.inj hg
            exact rti hQ hx hb hr hlocks hK hP hD hS dX4_many_75 ⟨rfl, rfl⟩
def f_X4_ofFlag (cn : Int32) (kd : Nat → Int32) (tk : Nat → Int32) (gr : Nat → Int32) (zf : Int32) (zv : Int32) : Option (Int32) :=
  (f_X3_has cn zf).bind (fun o1 => if o1 = 0 then (some ((-1 : Int32))) else (if zv = 0 then (gx zf 10 (some ((kd zf.toNatClampNeg)))) else if zv = 1 then (gx zf 10 (some ((tk zf.toNatClampNeg)))) else if zv = 2 then ((f_X3_dragOf cn kd tk zf).bind (fun o9 => some (o9))) else if zv = 3 then (gx zf 10 (if (gr zf.toNatClampNeg) = 0 then (some ((0 : Int32))) else (some ((1 : Int32))))) else (some ((-2 : Int32)))))
set_option maxHeartbeats 4000000 in
set_option maxRecDepth 100000 in
theorem c_X4_ofFlag (l : Launch) (D : va_G) (cI cZ cR : ClassId) (ax : Nat) (ab : Nat) (abk : Nat) (abt : Nat) (abg : Nat) (axr : Nat) (axi : Nat) (ah : Nat) (axg : Nat) (axo : Nat) (au : Nat) (rc : Int32) (tc : Int32) (lf : Int32) (cn : Int32) (st : Int32) (kn : Int32) (sb : Int32) (kd : Nat → Int32) (tk : Nat → Int32) (gr : Nat → Int32) (zf : Int32) (zv : Int32) {res : Int32} (hg : f_X4_ofFlag cn kd tk gr zf zv = some res) : MI l yX4_ofFlag wsX4_ofFlag ({ frames := 1, cells := 0, slots := 0, locals := 21 }) D (T3 cI cZ cR) [(ax, .inr (4, [.ref axr, .ref axi, .ref ah, .ref axg, .ref axo, .ref ab, .ref au, .int (rc), .int (tc), .int (lf)])), (ab, .inr (3, [.ref abk, .ref abt, .ref abg, .int (cn), .int (st), .int (kn), .int (sb)])), (abk, .inl (cI, 10, .inl (kd))), (abt, .inl (cI, 10, .inl (tk))), (abg, .inl (cZ, 10, .inl (gr)))] [.ref ax, .int (zf), .int (zv)] (fun r u => res = r ∧ u = [(ax, .inr (4, [.ref axr, .ref axi, .ref ah, .ref axg, .ref axo, .ref ab, .ref au, .int (rc), .int (tc), .int (lf)])), (ab, .inr (3, [.ref abk, .ref abt, .ref abg, .int (cn), .int (st), .int (kn), .int (sb)])), (abk, .inl (cI, 10, .inl (kd))), (abt, .inl (cI, 10, .inl (tk))), (abg, .inl (cZ, 10, .inl (gr)))]) := by
  refine entI (Rn := RX4) (by decide +kernel) rfl rfl (Nat.le_of_ble_eq_true rfl) (fun p e s m args below meth c A Q hx hb hr hml hts hown hlocks hA hP hD hK hS ls hl hQ => ?_)
  have inX3 : ∀ w ∈ u_ws RX3 TX3 7, w ∈ wsX4_ofFlag := by decide +kernel
  have inX4 : ∀ w ∈ u_ws RX4 TX4 10, w ∈ wsX4_ofFlag := by decide +kernel
  have hl : lv_has ls 3 [(0, .ref ax), (1, .int (zf)), (2, .int (zv))] := hl
  rw [f_X4_ofFlag] at hg
  refine lv_aload_n hx hb dX4_ofFlag_0 rfl (lv_at hl 0 rfl) ?_
  refine va_get (D := D) (ci := 4) (v := .ref ab) (C := RX4) (T := TX4) (N := 10) hx hb hts inX4 hown hK hP 0 rfl rfl 5 (by decide) (hts (.fieldLink RX4 41 "ScooterFlags" "road" "LScooterFlags$Street;") (by decide +kernel)) (fun _ h9 => h9) rfl dX4_ofFlag_1 ?_
  refine lv_iload_n hx hb dX4_ofFlag_4 rfl (lv_at hl 1 rfl) ?_
  obtain ⟨o1, h2, hg⟩ := bd hg
  refine xcVi (As := [.int (zf)]) (rest := []) (wc := [(ab, .inr (3, [.ref abk, .ref abt, .ref abg, .int (cn), .int (st), .int (kn), .int (sb)])), (abk, .inl (cI, 10, .inl (kd))), (abt, .inl (cI, 10, .inl (tk))), (abg, .inl (cZ, 10, .inl (gr)))]) (wr := [(ax, .inr (4, [.ref axr, .ref axi, .ref ah, .ref axg, .ref axo, .ref ab, .ref au, .int (rc), .int (tc), .int (lf)]))]) ⟨hx, hb, hml, hown, hts⟩ (c_X3_has l D cI cZ cR ab abk abt abg cn st kn sb kd tk gr zf h2) (cwV 1 hts gX4_ofFlag_X3_has rfl rfl rfl (by decide +kernel) ⟨Nat.le_of_ble_eq_true rfl, Nat.le_of_ble_eq_true rfl⟩) hK hP hD hS hA [1, 2, 3, 4] [0] rfl rfl (by decide) (by decide) (by decide) (va_recv hK hP (ci := 3) (q0 := 1) rfl rfl) rfl rfl hl.1 (lv_room (Nat.le_of_ble_eq_true rfl)) dX4_ofFlag_5 ⟨Nat.le_of_ble_eq_true rfl, Nat.le_of_ble_eq_true rfl⟩ (fun r u H locs hu hP hD hS => ?_)
  obtain ⟨rfl, rfl⟩ := hu
  have hP : va_P D vwCl [(ax, .inr (4, [.ref axr, .ref axi, .ref ah, .ref axg, .ref axo, .ref ab, .ref au, .int (rc), .int (tc), .int (lf)])), (ab, .inr (3, [.ref abk, .ref abt, .ref abg, .int (cn), .int (st), .int (kn), .int (sb)])), (abk, .inl (cI, 10, .inl (kd))), (abt, .inl (cI, 10, .inl (tk))), (abg, .inl (cZ, 10, .inl (gr)))] H := hP.sub [0, 1, 2, 3, 4] rfl
  have hD : va_D A [(ax, .inr (4, [.ref axr, .ref axi, .ref ah, .ref axg, .ref axo, .ref ab, .ref au, .int (rc), .int (tc), .int (lf)])), (ab, .inr (3, [.ref abk, .ref abt, .ref abg, .int (cn), .int (st), .int (kn), .int (sb)])), (abk, .inl (cI, 10, .inl (kd))), (abt, .inl (cI, 10, .inl (tk))), (abg, .inl (cZ, 10, .inl (gr)))] := hD.sub [0, 1, 2, 3, 4] (by decide) rfl
  refine lv_if_ne (tgt := 13) hx hb dX4_ofFlag_8 (by decide) (fun c3 => ?_) (fun c3 => ?_)
  · have hg := ie hg c3
    refine lv_iload_n hx hb dX4_ofFlag_13 rfl (lv_at hl 2 rfl) ?_
    by_cases c4 : zv = 0
    · have hg := it hg c4
      refine lv_tableIn (off := 30) (tgt := 44) hx hb dX4_ofFlag_14 (by rw [c4]; decide) (by rw [c4]; decide) (by rw [c4]; rfl) (by decide) ?_
      refine lv_aload_n hx hb dX4_ofFlag_44 rfl (lv_at hl 0 rfl) ?_
      refine va_get (D := D) (ci := 4) (v := .ref ab) (C := RX4) (T := TX4) (N := 10) hx hb hts inX4 hown hK hP 0 rfl rfl 5 (by decide) (hts (.fieldLink RX4 41 "ScooterFlags" "road" "LScooterFlags$Street;") (by decide +kernel)) (fun _ h9 => h9) rfl dX4_ofFlag_45 ?_
      refine va_get (D := D) (ci := 3) (v := .ref abk) (C := RX3) (T := TX3) (N := 7) hx hb hts inX3 hown hK hP 1 rfl rfl 0 (by decide) (hts (.fieldLink RX4 91 "ScooterFlags$Street" "kind" "[I") (by decide +kernel)) (fun _ h9 => h9) rfl dX4_ofFlag_48 ?_
      refine lv_iload_n hx hb dX4_ofFlag_51 rfl (lv_at hl 1 rfl) ?_
      obtain ⟨g5, hg⟩ := gxo hg
      refine va_iald hx hb hK hP 2 0 rfl rfl g5 dX4_ofFlag_52 ?_
      refine W.eq (g2 := F0 m 53 ls [.int ((kd zf.toNatClampNeg))]) rfl ?_
      obtain rfl := Option.some.inj hg
      exact rti hQ hx hb hr hlocks hK hP hD hS dX4_ofFlag_53 ⟨rfl, rfl⟩
    · have hg := ie hg c4
      by_cases c6 : zv = 1
      · have hg := it hg c6
        refine lv_tableIn (off := 40) (tgt := 54) hx hb dX4_ofFlag_14 (by rw [c6]; decide) (by rw [c6]; decide) (by rw [c6]; rfl) (by decide) ?_
        refine lv_aload_n hx hb dX4_ofFlag_54 rfl (lv_at hl 0 rfl) ?_
        refine va_get (D := D) (ci := 4) (v := .ref ab) (C := RX4) (T := TX4) (N := 10) hx hb hts inX4 hown hK hP 0 rfl rfl 5 (by decide) (hts (.fieldLink RX4 41 "ScooterFlags" "road" "LScooterFlags$Street;") (by decide +kernel)) (fun _ h9 => h9) rfl dX4_ofFlag_55 ?_
        refine va_get (D := D) (ci := 3) (v := .ref abt) (C := RX3) (T := TX3) (N := 7) hx hb hts inX3 hown hK hP 1 rfl rfl 1 (by decide) (hts (.fieldLink RX4 94 "ScooterFlags$Street" "taken" "[I") (by decide +kernel)) (fun _ h9 => h9) rfl dX4_ofFlag_58 ?_
        refine lv_iload_n hx hb dX4_ofFlag_61 rfl (lv_at hl 1 rfl) ?_
        obtain ⟨g7, hg⟩ := gxo hg
        refine va_iald hx hb hK hP 3 0 rfl rfl g7 dX4_ofFlag_62 ?_
        refine W.eq (g2 := F0 m 63 ls [.int ((tk zf.toNatClampNeg))]) rfl ?_
        obtain rfl := Option.some.inj hg
        exact rti hQ hx hb hr hlocks hK hP hD hS dX4_ofFlag_63 ⟨rfl, rfl⟩
      · have hg := ie hg c6
        by_cases c8 : zv = 2
        · have hg := it hg c8
          refine lv_tableIn (off := 50) (tgt := 64) hx hb dX4_ofFlag_14 (by rw [c8]; decide) (by rw [c8]; decide) (by rw [c8]; rfl) (by decide) ?_
          refine lv_aload_n hx hb dX4_ofFlag_64 rfl (lv_at hl 0 rfl) ?_
          refine va_get (D := D) (ci := 4) (v := .ref ab) (C := RX4) (T := TX4) (N := 10) hx hb hts inX4 hown hK hP 0 rfl rfl 5 (by decide) (hts (.fieldLink RX4 41 "ScooterFlags" "road" "LScooterFlags$Street;") (by decide +kernel)) (fun _ h9 => h9) rfl dX4_ofFlag_65 ?_
          refine lv_iload_n hx hb dX4_ofFlag_68 rfl (lv_at hl 1 rfl) ?_
          obtain ⟨o9, h10, hg⟩ := bd hg
          refine xcVi (As := [.int (zf)]) (rest := []) (wc := [(ab, .inr (3, [.ref abk, .ref abt, .ref abg, .int (cn), .int (st), .int (kn), .int (sb)])), (abk, .inl (cI, 10, .inl (kd))), (abt, .inl (cI, 10, .inl (tk))), (abg, .inl (cZ, 10, .inl (gr)))]) (wr := [(ax, .inr (4, [.ref axr, .ref axi, .ref ah, .ref axg, .ref axo, .ref ab, .ref au, .int (rc), .int (tc), .int (lf)]))]) ⟨hx, hb, hml, hown, hts⟩ (c_X3_dragOf l D cI cZ cR ab abk abt abg cn st kn sb kd tk gr zf h10) (cwV 1 hts gX4_ofFlag_X3_dragOf rfl rfl rfl (by decide +kernel) ⟨Nat.le_of_ble_eq_true rfl, Nat.le_of_ble_eq_true rfl⟩) hK hP hD hS hA [1, 2, 3, 4] [0] rfl rfl (by decide) (by decide) (by decide) (va_recv hK hP (ci := 3) (q0 := 1) rfl rfl) rfl rfl hl.1 (lv_room (Nat.le_of_ble_eq_true rfl)) dX4_ofFlag_69 ⟨Nat.le_of_ble_eq_true rfl, Nat.le_of_ble_eq_true rfl⟩ (fun r u H locs hu hP hD hS => ?_)
          obtain ⟨rfl, rfl⟩ := hu
          have hP : va_P D vwCl [(ax, .inr (4, [.ref axr, .ref axi, .ref ah, .ref axg, .ref axo, .ref ab, .ref au, .int (rc), .int (tc), .int (lf)])), (ab, .inr (3, [.ref abk, .ref abt, .ref abg, .int (cn), .int (st), .int (kn), .int (sb)])), (abk, .inl (cI, 10, .inl (kd))), (abt, .inl (cI, 10, .inl (tk))), (abg, .inl (cZ, 10, .inl (gr)))] H := hP.sub [0, 1, 2, 3, 4] rfl
          have hD : va_D A [(ax, .inr (4, [.ref axr, .ref axi, .ref ah, .ref axg, .ref axo, .ref ab, .ref au, .int (rc), .int (tc), .int (lf)])), (ab, .inr (3, [.ref abk, .ref abt, .ref abg, .int (cn), .int (st), .int (kn), .int (sb)])), (abk, .inl (cI, 10, .inl (kd))), (abt, .inl (cI, 10, .inl (tk))), (abg, .inl (cZ, 10, .inl (gr)))] := hD.sub [0, 1, 2, 3, 4] (by decide) rfl
          obtain rfl := Option.some.inj hg
          exact rti hQ hx hb hr hlocks hK hP hD hS dX4_ofFlag_72 ⟨rfl, rfl⟩
        · have hg := ie hg c8
          by_cases c11 : zv = 3
          · have hg := it hg c11
            refine lv_tableIn (off := 59) (tgt := 73) hx hb dX4_ofFlag_14 (by rw [c11]; decide) (by rw [c11]; decide) (by rw [c11]; rfl) (by decide) ?_
            refine lv_aload_n hx hb dX4_ofFlag_73 rfl (lv_at hl 0 rfl) ?_
            refine va_get (D := D) (ci := 4) (v := .ref ab) (C := RX4) (T := TX4) (N := 10) hx hb hts inX4 hown hK hP 0 rfl rfl 5 (by decide) (hts (.fieldLink RX4 41 "ScooterFlags" "road" "LScooterFlags$Street;") (by decide +kernel)) (fun _ h9 => h9) rfl dX4_ofFlag_74 ?_
            refine va_get (D := D) (ci := 3) (v := .ref abg) (C := RX3) (T := TX3) (N := 7) hx hb hts inX3 hown hK hP 1 rfl rfl 2 (by decide) (hts (.fieldLink RX4 100 "ScooterFlags$Street" "grated" "[Z") (by decide +kernel)) (fun _ h9 => h9) rfl dX4_ofFlag_77 ?_
            refine lv_iload_n hx hb dX4_ofFlag_80 rfl (lv_at hl 1 rfl) ?_
            obtain ⟨g12, hg⟩ := gxo hg
            refine va_zald hx hb hK hP 4 1 rfl rfl g12 dX4_ofFlag_81 ?_
            refine W.eq (g2 := F0 m 82 ls [.int ((gr zf.toNatClampNeg))]) rfl ?_
            refine lv_if_eq (tgt := 89) hx hb dX4_ofFlag_82 (by decide) (fun c13 => ?_) (fun c13 => ?_)
            · have hg := it hg c13
              refine lv_iconst (v := (0 : Int32)) hx hb dX4_ofFlag_89 (by decide) ?_
              obtain rfl := Option.some.inj hg
              exact rti hQ hx hb hr hlocks hK hP hD hS dX4_ofFlag_90 ⟨rfl, rfl⟩
            · have hg := ie hg c13
              refine lv_iconst (v := (1 : Int32)) hx hb dX4_ofFlag_85 (by decide) ?_
              refine lv_goto (tgt := 90) hx hb dX4_ofFlag_86 (by decide) ?_
              obtain rfl := Option.some.inj hg
              exact rti hQ hx hb hr hlocks hK hP hD hS dX4_ofFlag_90 ⟨rfl, rfl⟩
          · have hg := ie hg c11
            have nc4 := lv_neT c4 (show ((0 : Int32)).toInt = 0 from rfl)
            have nc6 := lv_neT c6 (show ((1 : Int32)).toInt = 1 from rfl)
            have nc8 := lv_neT c8 (show ((2 : Int32)).toInt = 2 from rfl)
            have nc11 := lv_neT c11 (show ((3 : Int32)).toInt = 3 from rfl)
            refine lv_tableOut (tgt := 91) hx hb dX4_ofFlag_14 (by omega) (by decide) ?_
            refine lv_bipush (v := (-2 : Int32)) hx hb dX4_ofFlag_91 (by decide) ?_
            obtain rfl := Option.some.inj hg
            exact rti hQ hx hb hr hlocks hK hP hD hS dX4_ofFlag_93 ⟨rfl, rfl⟩
  · have hg := it hg c3
    refine lv_iconst (v := (-1 : Int32)) hx hb dX4_ofFlag_11 (by decide) ?_
    obtain rfl := Option.some.inj hg
    exact rti hQ hx hb hr hlocks hK hP hD hS dX4_ofFlag_12 ⟨rfl, rfl⟩
def f_X4_strong (cn : Int32) (st : Int32) (zv : Int32) : Option (Int32 × Int32) :=
  if zv < (1 : Int32) then (some ((-2 : Int32), st)) else (if zv ≤ (4 : Int32) then ((f_X3_isNone cn).bind (fun o3 => if o3 = 0 then (some (st, zv)) else (some ((-3 : Int32), st)))) else (some ((-2 : Int32), st)))
set_option maxHeartbeats 4000000 in
set_option maxRecDepth 100000 in
theorem c_X4_strong (l : Launch) (D : va_G) (cI cZ cR : ClassId) (ax : Nat) (ab : Nat) (abk : Nat) (abt : Nat) (abg : Nat) (axr : Nat) (axi : Nat) (ah : Nat) (axg : Nat) (axo : Nat) (au : Nat) (rc : Int32) (tc : Int32) (lf : Int32) (cn : Int32) (st : Int32) (kn : Int32) (sb : Int32) (kd : Nat → Int32) (tk : Nat → Int32) (gr : Nat → Int32) (zv : Int32) {res : Int32 × Int32} (hg : f_X4_strong cn st zv = some res) : MI l yX4_strong wsX4_strong ({ frames := 1, cells := 0, slots := 0, locals := 20 }) D (T3 cI cZ cR) [(ax, .inr (4, [.ref axr, .ref axi, .ref ah, .ref axg, .ref axo, .ref ab, .ref au, .int (rc), .int (tc), .int (lf)])), (ab, .inr (3, [.ref abk, .ref abt, .ref abg, .int (cn), .int (st), .int (kn), .int (sb)])), (abk, .inl (cI, 10, .inl (kd))), (abt, .inl (cI, 10, .inl (tk))), (abg, .inl (cZ, 10, .inl (gr)))] [.ref ax, .int (zv)] (fun r u => res.1 = r ∧ u = [(ax, .inr (4, [.ref axr, .ref axi, .ref ah, .ref axg, .ref axo, .ref ab, .ref au, .int (rc), .int (tc), .int (lf)])), (ab, .inr (3, [.ref abk, .ref abt, .ref abg, .int (cn), .int (res.2), .int (kn), .int (sb)])), (abk, .inl (cI, 10, .inl (kd))), (abt, .inl (cI, 10, .inl (tk))), (abg, .inl (cZ, 10, .inl (gr)))]) := by
  refine entI (Rn := RX4) (by decide +kernel) rfl rfl (Nat.le_of_ble_eq_true rfl) (fun p e s m args below meth c A Q hx hb hr hml hts hown hlocks hA hP hD hK hS ls hl hQ => ?_)
  have inX3 : ∀ w ∈ u_ws RX3 TX3 7, w ∈ wsX4_strong := by decide +kernel
  have inX4 : ∀ w ∈ u_ws RX4 TX4 10, w ∈ wsX4_strong := by decide +kernel
  have hl : lv_has ls 3 [(0, .ref ax), (1, .int (zv))] := hl
  rw [f_X4_strong] at hg
  refine lv_iload_n hx hb dX4_strong_0 rfl (lv_at hl 1 rfl) ?_
  refine lv_iconst (v := (1 : Int32)) hx hb dX4_strong_1 (by decide) ?_
  refine lv_icmp_lt (tgt := 10) hx hb dX4_strong_2 (by decide) (fun c1 => ?_) (fun c1 => ?_)
  · have hg := it hg c1
    refine lv_bipush (v := (-2 : Int32)) hx hb dX4_strong_10 (by decide) ?_
    obtain rfl := Option.some.inj hg
    exact rti hQ hx hb hr hlocks hK hP hD hS dX4_strong_12 ⟨rfl, rfl⟩
  · have hg := ie hg c1
    refine lv_iload_n hx hb dX4_strong_5 rfl (lv_at hl 1 rfl) ?_
    refine lv_iconst (v := (4 : Int32)) hx hb dX4_strong_6 (by decide) ?_
    refine lv_icmp_le (tgt := 13) hx hb dX4_strong_7 (by decide) (fun c2 => ?_) (fun c2 => ?_)
    · have hg := it hg c2
      refine lv_aload_n hx hb dX4_strong_13 rfl (lv_at hl 0 rfl) ?_
      refine va_get (D := D) (ci := 4) (v := .ref ab) (C := RX4) (T := TX4) (N := 10) hx hb hts inX4 hown hK hP 0 rfl rfl 5 (by decide) (hts (.fieldLink RX4 41 "ScooterFlags" "road" "LScooterFlags$Street;") (by decide +kernel)) (fun _ h9 => h9) rfl dX4_strong_14 ?_
      obtain ⟨o3, h4, hg⟩ := bd hg
      refine xcVi (As := []) (rest := []) (wc := [(ab, .inr (3, [.ref abk, .ref abt, .ref abg, .int (cn), .int (st), .int (kn), .int (sb)])), (abk, .inl (cI, 10, .inl (kd))), (abt, .inl (cI, 10, .inl (tk))), (abg, .inl (cZ, 10, .inl (gr)))]) (wr := [(ax, .inr (4, [.ref axr, .ref axi, .ref ah, .ref axg, .ref axo, .ref ab, .ref au, .int (rc), .int (tc), .int (lf)]))]) ⟨hx, hb, hml, hown, hts⟩ (c_X3_isNone l D cI cZ cR ab abk abt abg cn st kn sb kd tk gr h4) (cwV 0 hts gX4_strong_X3_isNone rfl rfl rfl (by decide +kernel) ⟨Nat.le_of_ble_eq_true rfl, Nat.le_of_ble_eq_true rfl⟩) hK hP hD hS hA [1, 2, 3, 4] [0] rfl rfl (by decide) (by decide) (by decide) (va_recv hK hP (ci := 3) (q0 := 1) rfl rfl) rfl rfl hl.1 (lv_room (Nat.le_of_ble_eq_true rfl)) dX4_strong_17 ⟨Nat.le_of_ble_eq_true rfl, Nat.le_of_ble_eq_true rfl⟩ (fun r u H locs hu hP hD hS => ?_)
      obtain ⟨rfl, rfl⟩ := hu
      have hP : va_P D vwCl [(ax, .inr (4, [.ref axr, .ref axi, .ref ah, .ref axg, .ref axo, .ref ab, .ref au, .int (rc), .int (tc), .int (lf)])), (ab, .inr (3, [.ref abk, .ref abt, .ref abg, .int (cn), .int (st), .int (kn), .int (sb)])), (abk, .inl (cI, 10, .inl (kd))), (abt, .inl (cI, 10, .inl (tk))), (abg, .inl (cZ, 10, .inl (gr)))] H := hP.sub [0, 1, 2, 3, 4] rfl
      have hD : va_D A [(ax, .inr (4, [.ref axr, .ref axi, .ref ah, .ref axg, .ref axo, .ref ab, .ref au, .int (rc), .int (tc), .int (lf)])), (ab, .inr (3, [.ref abk, .ref abt, .ref abg, .int (cn), .int (st), .int (kn), .int (sb)])), (abk, .inl (cI, 10, .inl (kd))), (abt, .inl (cI, 10, .inl (tk))), (abg, .inl (cZ, 10, .inl (gr)))] := hD.sub [0, 1, 2, 3, 4] (by decide) rfl
      refine lv_if_eq (tgt := 26) hx hb dX4_strong_20 (by decide) (fun c5 => ?_) (fun c5 => ?_)
      · have hg := it hg c5
        refine lv_aload_n hx hb dX4_strong_26 rfl (lv_at hl 0 rfl) ?_
        refine va_get (D := D) (ci := 4) (v := .ref ab) (C := RX4) (T := TX4) (N := 10) hx hb hts inX4 hown hK hP 0 rfl rfl 5 (by decide) (hts (.fieldLink RX4 41 "ScooterFlags" "road" "LScooterFlags$Street;") (by decide +kernel)) (fun _ h9 => h9) rfl dX4_strong_27 ?_
        refine va_get (D := D) (ci := 3) (v := .int (st)) (C := RX3) (T := TX3) (N := 7) hx hb hts inX3 hown hK hP 1 rfl rfl 4 (by decide) (hts (.fieldLink RX4 108 "ScooterFlags$Street" "strength" "I") (by decide +kernel)) (fun _ h9 => h9) rfl dX4_strong_30 ?_
        refine lv_istore_n (lv' := [(2, .int (st)), (0, .ref ax), (1, .int (zv))]) hx hb dX4_strong_33 rfl hl (by decide) rfl (fun ls hl => ?_)
        refine lv_aload_n hx hb dX4_strong_34 rfl (lv_at hl 1 rfl) ?_
        refine va_get (D := D) (ci := 4) (v := .ref ab) (C := RX4) (T := TX4) (N := 10) hx hb hts inX4 hown hK hP 0 rfl rfl 5 (by decide) (hts (.fieldLink RX4 41 "ScooterFlags" "road" "LScooterFlags$Street;") (by decide +kernel)) (fun _ h9 => h9) rfl dX4_strong_35 ?_
        refine lv_iload_n hx hb dX4_strong_38 rfl (lv_at hl 2 rfl) ?_
        refine va_put (D := D) (ci := 3) (v := .int (zv)) (ty := .int) (C := RX3) (T := TX3) (N := 7) hx hb hts inX3 tyX3 tyX3_ok nmX3 hown hK hP hD hS 1 rfl rfl 4 (by decide) (hts (.fieldLink RX4 108 "ScooterFlags$Street" "strength" "I") (by decide +kernel)) (fun _ h9 => h9) rfl (by decide +kernel) rfl rfl (Nat.le_of_ble_eq_true rfl) dX4_strong_39 (fun H locs hP hD hS => ?_)
        have hP : va_P D vwCl [(ax, .inr (4, [.ref axr, .ref axi, .ref ah, .ref axg, .ref axo, .ref ab, .ref au, .int (rc), .int (tc), .int (lf)])), (ab, .inr (3, [.ref abk, .ref abt, .ref abg, .int (cn), .int (zv), .int (kn), .int (sb)])), (abk, .inl (cI, 10, .inl (kd))), (abt, .inl (cI, 10, .inl (tk))), (abg, .inl (cZ, 10, .inl (gr)))] H := hP
        have hD : va_D A [(ax, .inr (4, [.ref axr, .ref axi, .ref ah, .ref axg, .ref axo, .ref ab, .ref au, .int (rc), .int (tc), .int (lf)])), (ab, .inr (3, [.ref abk, .ref abt, .ref abg, .int (cn), .int (zv), .int (kn), .int (sb)])), (abk, .inl (cI, 10, .inl (kd))), (abt, .inl (cI, 10, .inl (tk))), (abg, .inl (cZ, 10, .inl (gr)))] := hD
        refine lv_iload_n hx hb dX4_strong_42 rfl (lv_at hl 0 rfl) ?_
        obtain rfl := Option.some.inj hg
        exact rti hQ hx hb hr hlocks hK hP hD hS dX4_strong_43 ⟨rfl, rfl⟩
      · have hg := ie hg c5
        refine lv_bipush (v := (-3 : Int32)) hx hb dX4_strong_23 (by decide) ?_
        obtain rfl := Option.some.inj hg
        exact rti hQ hx hb hr hlocks hK hP hD hS dX4_strong_25 ⟨rfl, rfl⟩
    · have hg := ie hg c2
      refine lv_bipush (v := (-2 : Int32)) hx hb dX4_strong_10 (by decide) ?_
      obtain rfl := Option.some.inj hg
      exact rti hQ hx hb hr hlocks hK hP hD hS dX4_strong_12 ⟨rfl, rfl⟩
def f_X4_knee (cn : Int32) (kn : Int32) (zv : Int32) : Option (Int32 × Int32) :=
  if zv < (1 : Int32) then (some ((-2 : Int32), kn)) else (if zv ≤ (3 : Int32) then ((f_X3_isNone cn).bind (fun o3 => if o3 = 0 then (some (kn, zv)) else (some ((-3 : Int32), kn)))) else (some ((-2 : Int32), kn)))
set_option maxHeartbeats 4000000 in
set_option maxRecDepth 100000 in
theorem c_X4_knee (l : Launch) (D : va_G) (cI cZ cR : ClassId) (ax : Nat) (ab : Nat) (abk : Nat) (abt : Nat) (abg : Nat) (axr : Nat) (axi : Nat) (ah : Nat) (axg : Nat) (axo : Nat) (au : Nat) (rc : Int32) (tc : Int32) (lf : Int32) (cn : Int32) (st : Int32) (kn : Int32) (sb : Int32) (kd : Nat → Int32) (tk : Nat → Int32) (gr : Nat → Int32) (zv : Int32) {res : Int32 × Int32} (hg : f_X4_knee cn kn zv = some res) : MI l yX4_knee wsX4_knee ({ frames := 1, cells := 0, slots := 0, locals := 20 }) D (T3 cI cZ cR) [(ax, .inr (4, [.ref axr, .ref axi, .ref ah, .ref axg, .ref axo, .ref ab, .ref au, .int (rc), .int (tc), .int (lf)])), (ab, .inr (3, [.ref abk, .ref abt, .ref abg, .int (cn), .int (st), .int (kn), .int (sb)])), (abk, .inl (cI, 10, .inl (kd))), (abt, .inl (cI, 10, .inl (tk))), (abg, .inl (cZ, 10, .inl (gr)))] [.ref ax, .int (zv)] (fun r u => res.1 = r ∧ u = [(ax, .inr (4, [.ref axr, .ref axi, .ref ah, .ref axg, .ref axo, .ref ab, .ref au, .int (rc), .int (tc), .int (lf)])), (ab, .inr (3, [.ref abk, .ref abt, .ref abg, .int (cn), .int (st), .int (res.2), .int (sb)])), (abk, .inl (cI, 10, .inl (kd))), (abt, .inl (cI, 10, .inl (tk))), (abg, .inl (cZ, 10, .inl (gr)))]) := by
  refine entI (Rn := RX4) (by decide +kernel) rfl rfl (Nat.le_of_ble_eq_true rfl) (fun p e s m args below meth c A Q hx hb hr hml hts hown hlocks hA hP hD hK hS ls hl hQ => ?_)
  have inX3 : ∀ w ∈ u_ws RX3 TX3 7, w ∈ wsX4_knee := by decide +kernel
  have inX4 : ∀ w ∈ u_ws RX4 TX4 10, w ∈ wsX4_knee := by decide +kernel
  have hl : lv_has ls 3 [(0, .ref ax), (1, .int (zv))] := hl
  rw [f_X4_knee] at hg
  refine lv_iload_n hx hb dX4_knee_0 rfl (lv_at hl 1 rfl) ?_
  refine lv_iconst (v := (1 : Int32)) hx hb dX4_knee_1 (by decide) ?_
  refine lv_icmp_lt (tgt := 10) hx hb dX4_knee_2 (by decide) (fun c1 => ?_) (fun c1 => ?_)
  · have hg := it hg c1
    refine lv_bipush (v := (-2 : Int32)) hx hb dX4_knee_10 (by decide) ?_
    obtain rfl := Option.some.inj hg
    exact rti hQ hx hb hr hlocks hK hP hD hS dX4_knee_12 ⟨rfl, rfl⟩
  · have hg := ie hg c1
    refine lv_iload_n hx hb dX4_knee_5 rfl (lv_at hl 1 rfl) ?_
    refine lv_iconst (v := (3 : Int32)) hx hb dX4_knee_6 (by decide) ?_
    refine lv_icmp_le (tgt := 13) hx hb dX4_knee_7 (by decide) (fun c2 => ?_) (fun c2 => ?_)
    · have hg := it hg c2
      refine lv_aload_n hx hb dX4_knee_13 rfl (lv_at hl 0 rfl) ?_
      refine va_get (D := D) (ci := 4) (v := .ref ab) (C := RX4) (T := TX4) (N := 10) hx hb hts inX4 hown hK hP 0 rfl rfl 5 (by decide) (hts (.fieldLink RX4 41 "ScooterFlags" "road" "LScooterFlags$Street;") (by decide +kernel)) (fun _ h9 => h9) rfl dX4_knee_14 ?_
      obtain ⟨o3, h4, hg⟩ := bd hg
      refine xcVi (As := []) (rest := []) (wc := [(ab, .inr (3, [.ref abk, .ref abt, .ref abg, .int (cn), .int (st), .int (kn), .int (sb)])), (abk, .inl (cI, 10, .inl (kd))), (abt, .inl (cI, 10, .inl (tk))), (abg, .inl (cZ, 10, .inl (gr)))]) (wr := [(ax, .inr (4, [.ref axr, .ref axi, .ref ah, .ref axg, .ref axo, .ref ab, .ref au, .int (rc), .int (tc), .int (lf)]))]) ⟨hx, hb, hml, hown, hts⟩ (c_X3_isNone l D cI cZ cR ab abk abt abg cn st kn sb kd tk gr h4) (cwV 0 hts gX4_knee_X3_isNone rfl rfl rfl (by decide +kernel) ⟨Nat.le_of_ble_eq_true rfl, Nat.le_of_ble_eq_true rfl⟩) hK hP hD hS hA [1, 2, 3, 4] [0] rfl rfl (by decide) (by decide) (by decide) (va_recv hK hP (ci := 3) (q0 := 1) rfl rfl) rfl rfl hl.1 (lv_room (Nat.le_of_ble_eq_true rfl)) dX4_knee_17 ⟨Nat.le_of_ble_eq_true rfl, Nat.le_of_ble_eq_true rfl⟩ (fun r u H locs hu hP hD hS => ?_)
      obtain ⟨rfl, rfl⟩ := hu
      have hP : va_P D vwCl [(ax, .inr (4, [.ref axr, .ref axi, .ref ah, .ref axg, .ref axo, .ref ab, .ref au, .int (rc), .int (tc), .int (lf)])), (ab, .inr (3, [.ref abk, .ref abt, .ref abg, .int (cn), .int (st), .int (kn), .int (sb)])), (abk, .inl (cI, 10, .inl (kd))), (abt, .inl (cI, 10, .inl (tk))), (abg, .inl (cZ, 10, .inl (gr)))] H := hP.sub [0, 1, 2, 3, 4] rfl
      have hD : va_D A [(ax, .inr (4, [.ref axr, .ref axi, .ref ah, .ref axg, .ref axo, .ref ab, .ref au, .int (rc), .int (tc), .int (lf)])), (ab, .inr (3, [.ref abk, .ref abt, .ref abg, .int (cn), .int (st), .int (kn), .int (sb)])), (abk, .inl (cI, 10, .inl (kd))), (abt, .inl (cI, 10, .inl (tk))), (abg, .inl (cZ, 10, .inl (gr)))] := hD.sub [0, 1, 2, 3, 4] (by decide) rfl
      refine lv_if_eq (tgt := 26) hx hb dX4_knee_20 (by decide) (fun c5 => ?_) (fun c5 => ?_)
      · have hg := it hg c5
        refine lv_aload_n hx hb dX4_knee_26 rfl (lv_at hl 0 rfl) ?_
        refine va_get (D := D) (ci := 4) (v := .ref ab) (C := RX4) (T := TX4) (N := 10) hx hb hts inX4 hown hK hP 0 rfl rfl 5 (by decide) (hts (.fieldLink RX4 41 "ScooterFlags" "road" "LScooterFlags$Street;") (by decide +kernel)) (fun _ h9 => h9) rfl dX4_knee_27 ?_
        refine va_get (D := D) (ci := 3) (v := .int (kn)) (C := RX3) (T := TX3) (N := 7) hx hb hts inX3 hown hK hP 1 rfl rfl 5 (by decide) (hts (.fieldLink RX4 111 "ScooterFlags$Street" "kneeBears" "I") (by decide +kernel)) (fun _ h9 => h9) rfl dX4_knee_30 ?_
        refine lv_istore_n (lv' := [(2, .int (kn)), (0, .ref ax), (1, .int (zv))]) hx hb dX4_knee_33 rfl hl (by decide) rfl (fun ls hl => ?_)
        refine lv_aload_n hx hb dX4_knee_34 rfl (lv_at hl 1 rfl) ?_
        refine va_get (D := D) (ci := 4) (v := .ref ab) (C := RX4) (T := TX4) (N := 10) hx hb hts inX4 hown hK hP 0 rfl rfl 5 (by decide) (hts (.fieldLink RX4 41 "ScooterFlags" "road" "LScooterFlags$Street;") (by decide +kernel)) (fun _ h9 => h9) rfl dX4_knee_35 ?_
        refine lv_iload_n hx hb dX4_knee_38 rfl (lv_at hl 2 rfl) ?_
        refine va_put (D := D) (ci := 3) (v := .int (zv)) (ty := .int) (C := RX3) (T := TX3) (N := 7) hx hb hts inX3 tyX3 tyX3_ok nmX3 hown hK hP hD hS 1 rfl rfl 5 (by decide) (hts (.fieldLink RX4 111 "ScooterFlags$Street" "kneeBears" "I") (by decide +kernel)) (fun _ h9 => h9) rfl (by decide +kernel) rfl rfl (Nat.le_of_ble_eq_true rfl) dX4_knee_39 (fun H locs hP hD hS => ?_)
        have hP : va_P D vwCl [(ax, .inr (4, [.ref axr, .ref axi, .ref ah, .ref axg, .ref axo, .ref ab, .ref au, .int (rc), .int (tc), .int (lf)])), (ab, .inr (3, [.ref abk, .ref abt, .ref abg, .int (cn), .int (st), .int (zv), .int (sb)])), (abk, .inl (cI, 10, .inl (kd))), (abt, .inl (cI, 10, .inl (tk))), (abg, .inl (cZ, 10, .inl (gr)))] H := hP
        have hD : va_D A [(ax, .inr (4, [.ref axr, .ref axi, .ref ah, .ref axg, .ref axo, .ref ab, .ref au, .int (rc), .int (tc), .int (lf)])), (ab, .inr (3, [.ref abk, .ref abt, .ref abg, .int (cn), .int (st), .int (zv), .int (sb)])), (abk, .inl (cI, 10, .inl (kd))), (abt, .inl (cI, 10, .inl (tk))), (abg, .inl (cZ, 10, .inl (gr)))] := hD
        refine lv_iload_n hx hb dX4_knee_42 rfl (lv_at hl 0 rfl) ?_
        obtain rfl := Option.some.inj hg
        exact rti hQ hx hb hr hlocks hK hP hD hS dX4_knee_43 ⟨rfl, rfl⟩
      · have hg := ie hg c5
        refine lv_bipush (v := (-3 : Int32)) hx hb dX4_knee_23 (by decide) ?_
        obtain rfl := Option.some.inj hg
        exact rti hQ hx hb hr hlocks hK hP hD hS dX4_knee_25 ⟨rfl, rfl⟩
    · have hg := ie hg c2
      refine lv_bipush (v := (-2 : Int32)) hx hb dX4_knee_10 (by decide) ?_
      obtain rfl := Option.some.inj hg
      exact rti hQ hx hb hr hlocks hK hP hD hS dX4_knee_12 ⟨rfl, rfl⟩
def f_X4_sole (cn : Int32) (sb : Int32) (zv : Int32) : Option (Int32 × Int32) :=
  if zv < 0 then (some ((-2 : Int32), sb)) else (if zv ≤ (2 : Int32) then ((f_X3_isNone cn).bind (fun o3 => if o3 = 0 then (some (sb, zv)) else (some ((-3 : Int32), sb)))) else (some ((-2 : Int32), sb)))
set_option maxHeartbeats 4000000 in
set_option maxRecDepth 100000 in
theorem c_X4_sole (l : Launch) (D : va_G) (cI cZ cR : ClassId) (ax : Nat) (ab : Nat) (abk : Nat) (abt : Nat) (abg : Nat) (axr : Nat) (axi : Nat) (ah : Nat) (axg : Nat) (axo : Nat) (au : Nat) (rc : Int32) (tc : Int32) (lf : Int32) (cn : Int32) (st : Int32) (kn : Int32) (sb : Int32) (kd : Nat → Int32) (tk : Nat → Int32) (gr : Nat → Int32) (zv : Int32) {res : Int32 × Int32} (hg : f_X4_sole cn sb zv = some res) : MI l yX4_sole wsX4_sole ({ frames := 1, cells := 0, slots := 0, locals := 20 }) D (T3 cI cZ cR) [(ax, .inr (4, [.ref axr, .ref axi, .ref ah, .ref axg, .ref axo, .ref ab, .ref au, .int (rc), .int (tc), .int (lf)])), (ab, .inr (3, [.ref abk, .ref abt, .ref abg, .int (cn), .int (st), .int (kn), .int (sb)])), (abk, .inl (cI, 10, .inl (kd))), (abt, .inl (cI, 10, .inl (tk))), (abg, .inl (cZ, 10, .inl (gr)))] [.ref ax, .int (zv)] (fun r u => res.1 = r ∧ u = [(ax, .inr (4, [.ref axr, .ref axi, .ref ah, .ref axg, .ref axo, .ref ab, .ref au, .int (rc), .int (tc), .int (lf)])), (ab, .inr (3, [.ref abk, .ref abt, .ref abg, .int (cn), .int (st), .int (kn), .int (res.2)])), (abk, .inl (cI, 10, .inl (kd))), (abt, .inl (cI, 10, .inl (tk))), (abg, .inl (cZ, 10, .inl (gr)))]) := by
  refine entI (Rn := RX4) (by decide +kernel) rfl rfl (Nat.le_of_ble_eq_true rfl) (fun p e s m args below meth c A Q hx hb hr hml hts hown hlocks hA hP hD hK hS ls hl hQ => ?_)
  have inX3 : ∀ w ∈ u_ws RX3 TX3 7, w ∈ wsX4_sole := by decide +kernel
  have inX4 : ∀ w ∈ u_ws RX4 TX4 10, w ∈ wsX4_sole := by decide +kernel
  have hl : lv_has ls 3 [(0, .ref ax), (1, .int (zv))] := hl
  rw [f_X4_sole] at hg
  refine lv_iload_n hx hb dX4_sole_0 rfl (lv_at hl 1 rfl) ?_
  refine lv_if_lt (tgt := 9) hx hb dX4_sole_1 (by decide) (fun c1 => ?_) (fun c1 => ?_)
  · have hg := it hg c1
    refine lv_bipush (v := (-2 : Int32)) hx hb dX4_sole_9 (by decide) ?_
    obtain rfl := Option.some.inj hg
    exact rti hQ hx hb hr hlocks hK hP hD hS dX4_sole_11 ⟨rfl, rfl⟩
  · have hg := ie hg c1
    refine lv_iload_n hx hb dX4_sole_4 rfl (lv_at hl 1 rfl) ?_
    refine lv_iconst (v := (2 : Int32)) hx hb dX4_sole_5 (by decide) ?_
    refine lv_icmp_le (tgt := 12) hx hb dX4_sole_6 (by decide) (fun c2 => ?_) (fun c2 => ?_)
    · have hg := it hg c2
      refine lv_aload_n hx hb dX4_sole_12 rfl (lv_at hl 0 rfl) ?_
      refine va_get (D := D) (ci := 4) (v := .ref ab) (C := RX4) (T := TX4) (N := 10) hx hb hts inX4 hown hK hP 0 rfl rfl 5 (by decide) (hts (.fieldLink RX4 41 "ScooterFlags" "road" "LScooterFlags$Street;") (by decide +kernel)) (fun _ h9 => h9) rfl dX4_sole_13 ?_
      obtain ⟨o3, h4, hg⟩ := bd hg
      refine xcVi (As := []) (rest := []) (wc := [(ab, .inr (3, [.ref abk, .ref abt, .ref abg, .int (cn), .int (st), .int (kn), .int (sb)])), (abk, .inl (cI, 10, .inl (kd))), (abt, .inl (cI, 10, .inl (tk))), (abg, .inl (cZ, 10, .inl (gr)))]) (wr := [(ax, .inr (4, [.ref axr, .ref axi, .ref ah, .ref axg, .ref axo, .ref ab, .ref au, .int (rc), .int (tc), .int (lf)]))]) ⟨hx, hb, hml, hown, hts⟩ (c_X3_isNone l D cI cZ cR ab abk abt abg cn st kn sb kd tk gr h4) (cwV 0 hts gX4_sole_X3_isNone rfl rfl rfl (by decide +kernel) ⟨Nat.le_of_ble_eq_true rfl, Nat.le_of_ble_eq_true rfl⟩) hK hP hD hS hA [1, 2, 3, 4] [0] rfl rfl (by decide) (by decide) (by decide) (va_recv hK hP (ci := 3) (q0 := 1) rfl rfl) rfl rfl hl.1 (lv_room (Nat.le_of_ble_eq_true rfl)) dX4_sole_16 ⟨Nat.le_of_ble_eq_true rfl, Nat.le_of_ble_eq_true rfl⟩ (fun r u H locs hu hP hD hS => ?_)
      obtain ⟨rfl, rfl⟩ := hu
      have hP : va_P D vwCl [(ax, .inr (4, [.ref axr, .ref axi, .ref ah, .ref axg, .ref axo, .ref ab, .ref au, .int (rc), .int (tc), .int (lf)])), (ab, .inr (3, [.ref abk, .ref abt, .ref abg, .int (cn), .int (st), .int (kn), .int (sb)])), (abk, .inl (cI, 10, .inl (kd))), (abt, .inl (cI, 10, .inl (tk))), (abg, .inl (cZ, 10, .inl (gr)))] H := hP.sub [0, 1, 2, 3, 4] rfl
      have hD : va_D A [(ax, .inr (4, [.ref axr, .ref axi, .ref ah, .ref axg, .ref axo, .ref ab, .ref au, .int (rc), .int (tc), .int (lf)])), (ab, .inr (3, [.ref abk, .ref abt, .ref abg, .int (cn), .int (st), .int (kn), .int (sb)])), (abk, .inl (cI, 10, .inl (kd))), (abt, .inl (cI, 10, .inl (tk))), (abg, .inl (cZ, 10, .inl (gr)))] := hD.sub [0, 1, 2, 3, 4] (by decide) rfl
      refine lv_if_eq (tgt := 25) hx hb dX4_sole_19 (by decide) (fun c5 => ?_) (fun c5 => ?_)
      · have hg := it hg c5
        refine lv_aload_n hx hb dX4_sole_25 rfl (lv_at hl 0 rfl) ?_
        refine va_get (D := D) (ci := 4) (v := .ref ab) (C := RX4) (T := TX4) (N := 10) hx hb hts inX4 hown hK hP 0 rfl rfl 5 (by decide) (hts (.fieldLink RX4 41 "ScooterFlags" "road" "LScooterFlags$Street;") (by decide +kernel)) (fun _ h9 => h9) rfl dX4_sole_26 ?_
        refine va_get (D := D) (ci := 3) (v := .int (sb)) (C := RX3) (T := TX3) (N := 7) hx hb hts inX3 hown hK hP 1 rfl rfl 6 (by decide) (hts (.fieldLink RX4 114 "ScooterFlags$Street" "soleBears" "I") (by decide +kernel)) (fun _ h9 => h9) rfl dX4_sole_29 ?_
        refine lv_istore_n (lv' := [(2, .int (sb)), (0, .ref ax), (1, .int (zv))]) hx hb dX4_sole_32 rfl hl (by decide) rfl (fun ls hl => ?_)
        refine lv_aload_n hx hb dX4_sole_33 rfl (lv_at hl 1 rfl) ?_
        refine va_get (D := D) (ci := 4) (v := .ref ab) (C := RX4) (T := TX4) (N := 10) hx hb hts inX4 hown hK hP 0 rfl rfl 5 (by decide) (hts (.fieldLink RX4 41 "ScooterFlags" "road" "LScooterFlags$Street;") (by decide +kernel)) (fun _ h9 => h9) rfl dX4_sole_34 ?_
        refine lv_iload_n hx hb dX4_sole_37 rfl (lv_at hl 2 rfl) ?_
        refine va_put (D := D) (ci := 3) (v := .int (zv)) (ty := .int) (C := RX3) (T := TX3) (N := 7) hx hb hts inX3 tyX3 tyX3_ok nmX3 hown hK hP hD hS 1 rfl rfl 6 (by decide) (hts (.fieldLink RX4 114 "ScooterFlags$Street" "soleBears" "I") (by decide +kernel)) (fun _ h9 => h9) rfl (by decide +kernel) rfl rfl (Nat.le_of_ble_eq_true rfl) dX4_sole_38 (fun H locs hP hD hS => ?_)
        have hP : va_P D vwCl [(ax, .inr (4, [.ref axr, .ref axi, .ref ah, .ref axg, .ref axo, .ref ab, .ref au, .int (rc), .int (tc), .int (lf)])), (ab, .inr (3, [.ref abk, .ref abt, .ref abg, .int (cn), .int (st), .int (kn), .int (zv)])), (abk, .inl (cI, 10, .inl (kd))), (abt, .inl (cI, 10, .inl (tk))), (abg, .inl (cZ, 10, .inl (gr)))] H := hP
        have hD : va_D A [(ax, .inr (4, [.ref axr, .ref axi, .ref ah, .ref axg, .ref axo, .ref ab, .ref au, .int (rc), .int (tc), .int (lf)])), (ab, .inr (3, [.ref abk, .ref abt, .ref abg, .int (cn), .int (st), .int (kn), .int (zv)])), (abk, .inl (cI, 10, .inl (kd))), (abt, .inl (cI, 10, .inl (tk))), (abg, .inl (cZ, 10, .inl (gr)))] := hD
        refine lv_iload_n hx hb dX4_sole_41 rfl (lv_at hl 0 rfl) ?_
        obtain rfl := Option.some.inj hg
        exact rti hQ hx hb hr hlocks hK hP hD hS dX4_sole_42 ⟨rfl, rfl⟩
      · have hg := ie hg c5
        refine lv_bipush (v := (-3 : Int32)) hx hb dX4_sole_22 (by decide) ?_
        obtain rfl := Option.some.inj hg
        exact rti hQ hx hb hr hlocks hK hP hD hS dX4_sole_24 ⟨rfl, rfl⟩
    · have hg := ie hg c2
      refine lv_bipush (v := (-2 : Int32)) hx hb dX4_sole_9 (by decide) ?_
      obtain rfl := Option.some.inj hg
      exact rti hQ hx hb hr hlocks hK hP hD hS dX4_sole_11 ⟨rfl, rfl⟩
def f_X4_grating (cn : Int32) (gr : Nat → Int32) (zf : Int32) (zv : Int32) : Option (Int32 × (Nat → Int32)) :=
  (f_X3_has cn zf).bind (fun o1 => if o1 = 0 then (some ((-1 : Int32), gr)) else (gx zf 10 (if (gr zf.toNatClampNeg) = zv then (some ((0 : Int32), gr)) else (gx zf 10 (gd (zv = 0 ∨ zv = 1) (some ((1 : Int32), (upd gr zf.toNatClampNeg zv))))))))
set_option maxHeartbeats 4000000 in
set_option maxRecDepth 100000 in
theorem c_X4_grating (l : Launch) (D : va_G) (cI cZ cR : ClassId) (ax : Nat) (ab : Nat) (abk : Nat) (abt : Nat) (abg : Nat) (axr : Nat) (axi : Nat) (ah : Nat) (axg : Nat) (axo : Nat) (au : Nat) (rc : Int32) (tc : Int32) (lf : Int32) (cn : Int32) (st : Int32) (kn : Int32) (sb : Int32) (kd : Nat → Int32) (tk : Nat → Int32) (gr : Nat → Int32) (zf : Int32) (zv : Int32) {res : Int32 × (Nat → Int32)} (hg : f_X4_grating cn gr zf zv = some res) : MI l yX4_grating wsX4_grating ({ frames := 1, cells := 0, slots := 0, locals := 21 }) D (T3 cI cZ cR) [(ax, .inr (4, [.ref axr, .ref axi, .ref ah, .ref axg, .ref axo, .ref ab, .ref au, .int (rc), .int (tc), .int (lf)])), (ab, .inr (3, [.ref abk, .ref abt, .ref abg, .int (cn), .int (st), .int (kn), .int (sb)])), (abk, .inl (cI, 10, .inl (kd))), (abt, .inl (cI, 10, .inl (tk))), (abg, .inl (cZ, 10, .inl (gr)))] [.ref ax, .int (zf), .int (zv)] (fun r u => res.1 = r ∧ u = [(ax, .inr (4, [.ref axr, .ref axi, .ref ah, .ref axg, .ref axo, .ref ab, .ref au, .int (rc), .int (tc), .int (lf)])), (ab, .inr (3, [.ref abk, .ref abt, .ref abg, .int (cn), .int (st), .int (kn), .int (sb)])), (abk, .inl (cI, 10, .inl (kd))), (abt, .inl (cI, 10, .inl (tk))), (abg, .inl (cZ, 10, .inl (res.2)))]) := by
  refine entI (Rn := RX4) (by decide +kernel) rfl rfl (Nat.le_of_ble_eq_true rfl) (fun p e s m args below meth c A Q hx hb hr hml hts hown hlocks hA hP hD hK hS ls hl hQ => ?_)
  have inX3 : ∀ w ∈ u_ws RX3 TX3 7, w ∈ wsX4_grating := by decide +kernel
  have inX4 : ∀ w ∈ u_ws RX4 TX4 10, w ∈ wsX4_grating := by decide +kernel
  have hl : lv_has ls 3 [(0, .ref ax), (1, .int (zf)), (2, .int (zv))] := hl
  rw [f_X4_grating] at hg
  refine lv_aload_n hx hb dX4_grating_0 rfl (lv_at hl 0 rfl) ?_
  refine va_get (D := D) (ci := 4) (v := .ref ab) (C := RX4) (T := TX4) (N := 10) hx hb hts inX4 hown hK hP 0 rfl rfl 5 (by decide) (hts (.fieldLink RX4 41 "ScooterFlags" "road" "LScooterFlags$Street;") (by decide +kernel)) (fun _ h9 => h9) rfl dX4_grating_1 ?_
  refine lv_iload_n hx hb dX4_grating_4 rfl (lv_at hl 1 rfl) ?_
  obtain ⟨o1, h2, hg⟩ := bd hg
  refine xcVi (As := [.int (zf)]) (rest := []) (wc := [(ab, .inr (3, [.ref abk, .ref abt, .ref abg, .int (cn), .int (st), .int (kn), .int (sb)])), (abk, .inl (cI, 10, .inl (kd))), (abt, .inl (cI, 10, .inl (tk))), (abg, .inl (cZ, 10, .inl (gr)))]) (wr := [(ax, .inr (4, [.ref axr, .ref axi, .ref ah, .ref axg, .ref axo, .ref ab, .ref au, .int (rc), .int (tc), .int (lf)]))]) ⟨hx, hb, hml, hown, hts⟩ (c_X3_has l D cI cZ cR ab abk abt abg cn st kn sb kd tk gr zf h2) (cwV 1 hts gX4_grating_X3_has rfl rfl rfl (by decide +kernel) ⟨Nat.le_of_ble_eq_true rfl, Nat.le_of_ble_eq_true rfl⟩) hK hP hD hS hA [1, 2, 3, 4] [0] rfl rfl (by decide) (by decide) (by decide) (va_recv hK hP (ci := 3) (q0 := 1) rfl rfl) rfl rfl hl.1 (lv_room (Nat.le_of_ble_eq_true rfl)) dX4_grating_5 ⟨Nat.le_of_ble_eq_true rfl, Nat.le_of_ble_eq_true rfl⟩ (fun r u H locs hu hP hD hS => ?_)
  obtain ⟨rfl, rfl⟩ := hu
  have hP : va_P D vwCl [(ax, .inr (4, [.ref axr, .ref axi, .ref ah, .ref axg, .ref axo, .ref ab, .ref au, .int (rc), .int (tc), .int (lf)])), (ab, .inr (3, [.ref abk, .ref abt, .ref abg, .int (cn), .int (st), .int (kn), .int (sb)])), (abk, .inl (cI, 10, .inl (kd))), (abt, .inl (cI, 10, .inl (tk))), (abg, .inl (cZ, 10, .inl (gr)))] H := hP.sub [0, 1, 2, 3, 4] rfl
  have hD : va_D A [(ax, .inr (4, [.ref axr, .ref axi, .ref ah, .ref axg, .ref axo, .ref ab, .ref au, .int (rc), .int (tc), .int (lf)])), (ab, .inr (3, [.ref abk, .ref abt, .ref abg, .int (cn), .int (st), .int (kn), .int (sb)])), (abk, .inl (cI, 10, .inl (kd))), (abt, .inl (cI, 10, .inl (tk))), (abg, .inl (cZ, 10, .inl (gr)))] := hD.sub [0, 1, 2, 3, 4] (by decide) rfl
  refine lv_if_ne (tgt := 13) hx hb dX4_grating_8 (by decide) (fun c3 => ?_) (fun c3 => ?_)
  · have hg := ie hg c3
    refine lv_aload_n hx hb dX4_grating_13 rfl (lv_at hl 0 rfl) ?_
    refine va_get (D := D) (ci := 4) (v := .ref ab) (C := RX4) (T := TX4) (N := 10) hx hb hts inX4 hown hK hP 0 rfl rfl 5 (by decide) (hts (.fieldLink RX4 41 "ScooterFlags" "road" "LScooterFlags$Street;") (by decide +kernel)) (fun _ h9 => h9) rfl dX4_grating_14 ?_
    refine va_get (D := D) (ci := 3) (v := .ref abg) (C := RX3) (T := TX3) (N := 7) hx hb hts inX3 hown hK hP 1 rfl rfl 2 (by decide) (hts (.fieldLink RX4 100 "ScooterFlags$Street" "grated" "[Z") (by decide +kernel)) (fun _ h9 => h9) rfl dX4_grating_17 ?_
    refine lv_iload_n hx hb dX4_grating_20 rfl (lv_at hl 1 rfl) ?_
    obtain ⟨g4, hg⟩ := gxo hg
    refine va_zald hx hb hK hP 4 1 rfl rfl g4 dX4_grating_21 ?_
    refine W.eq (g2 := F0 m 22 ls [.int ((gr zf.toNatClampNeg))]) rfl ?_
    refine lv_iload_n hx hb dX4_grating_22 rfl (lv_at hl 2 rfl) ?_
    refine lv_icmp_ne (tgt := 28) hx hb dX4_grating_23 (by decide) (fun c5 => ?_) (fun c5 => ?_)
    · have hg := ie hg c5
      refine lv_aload_n hx hb dX4_grating_28 rfl (lv_at hl 0 rfl) ?_
      refine va_get (D := D) (ci := 4) (v := .ref ab) (C := RX4) (T := TX4) (N := 10) hx hb hts inX4 hown hK hP 0 rfl rfl 5 (by decide) (hts (.fieldLink RX4 41 "ScooterFlags" "road" "LScooterFlags$Street;") (by decide +kernel)) (fun _ h9 => h9) rfl dX4_grating_29 ?_
      refine va_get (D := D) (ci := 3) (v := .ref abg) (C := RX3) (T := TX3) (N := 7) hx hb hts inX3 hown hK hP 1 rfl rfl 2 (by decide) (hts (.fieldLink RX4 100 "ScooterFlags$Street" "grated" "[Z") (by decide +kernel)) (fun _ h9 => h9) rfl dX4_grating_32 ?_
      refine lv_iload_n hx hb dX4_grating_35 rfl (lv_at hl 1 rfl) ?_
      refine lv_iload_n hx hb dX4_grating_36 rfl (lv_at hl 2 rfl) ?_
      obtain ⟨g6, hg⟩ := gxo hg
      obtain ⟨g7, hg⟩ := gdo hg
      refine va_zast hx hb hK hP hD hS 4 1 rfl rfl g6 dX4_grating_37 (fun H locs hP hD hS => ?_)
      rw [zbv g7] at hP hD
      have hP : va_P D vwCl [(ax, .inr (4, [.ref axr, .ref axi, .ref ah, .ref axg, .ref axo, .ref ab, .ref au, .int (rc), .int (tc), .int (lf)])), (ab, .inr (3, [.ref abk, .ref abt, .ref abg, .int (cn), .int (st), .int (kn), .int (sb)])), (abk, .inl (cI, 10, .inl (kd))), (abt, .inl (cI, 10, .inl (tk))), (abg, .inl (cZ, 10, .inl ((upd gr zf.toNatClampNeg zv))))] H := hP
      have hD : va_D A [(ax, .inr (4, [.ref axr, .ref axi, .ref ah, .ref axg, .ref axo, .ref ab, .ref au, .int (rc), .int (tc), .int (lf)])), (ab, .inr (3, [.ref abk, .ref abt, .ref abg, .int (cn), .int (st), .int (kn), .int (sb)])), (abk, .inl (cI, 10, .inl (kd))), (abt, .inl (cI, 10, .inl (tk))), (abg, .inl (cZ, 10, .inl ((upd gr zf.toNatClampNeg zv))))] := hD
      refine lv_iconst (v := (1 : Int32)) hx hb dX4_grating_38 (by decide) ?_
      obtain rfl := Option.some.inj hg
      exact rti hQ hx hb hr hlocks hK hP hD hS dX4_grating_39 ⟨rfl, rfl⟩
    · have hg := it hg c5
      refine lv_iconst (v := (0 : Int32)) hx hb dX4_grating_26 (by decide) ?_
      obtain rfl := Option.some.inj hg
      exact rti hQ hx hb hr hlocks hK hP hD hS dX4_grating_27 ⟨rfl, rfl⟩
  · have hg := it hg c3
    refine lv_iconst (v := (-1 : Int32)) hx hb dX4_grating_11 (by decide) ?_
    obtain rfl := Option.some.inj hg
    exact rti hQ hx hb hr hlocks hK hP hD hS dX4_grating_12 ⟨rfl, rfl⟩
