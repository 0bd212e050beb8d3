def f_X1_isUnlike (th : Int32) (ln : Int32) (zl : Int32) : Option (Int32) :=
  if th = 0 then (some ((0 : Int32))) else (if ln = zl then (some ((0 : Int32))) else (some ((1 : Int32))))
set_option maxHeartbeats 4000000 in
set_option maxRecDepth 100000 in
theorem c_X1_isUnlike (l : Launch) (D : va_G) (cI cZ cR : ClassId) (aw : Nat) (awc : Nat) (th : Int32) (ln : Int32) (le : Int32) (ce : Nat → Int32) (zl : Int32) {res : Int32} (hg : f_X1_isUnlike th ln zl = some res) : MI l yX1_isUnlike wsX1_isUnlike ({ frames := 0, cells := 0, slots := 0, locals := 0 }) D (T3 cI cZ cR) [(aw, .inr (1, [.ref awc, .int (th), .int (ln), .int (le)])), (awc, .inl (cI, 60, .inl (ce)))] [.ref aw, .int (zl)] (fun r u => res = r ∧ u = [(aw, .inr (1, [.ref awc, .int (th), .int (ln), .int (le)])), (awc, .inl (cI, 60, .inl (ce)))]) := by
  refine entI (Rn := RX1) (by decide +kernel) rfl rfl (Nat.le_of_ble_eq_true rfl) (fun p e s m args below meth c A Q hx hb hr hml hts hown hlocks hA hP hD hK hS ls hl hQ => ?_)
  have inX1 : ∀ w ∈ u_ws RX1 TX1 4, w ∈ wsX1_isUnlike := by decide +kernel
  have hl : lv_has ls 2 [(0, .ref aw), (1, .int (zl))] := hl
  rw [f_X1_isUnlike] at hg
  refine lv_aload_n hx hb dX1_isUnlike_0 rfl (lv_at hl 0 rfl) ?_
  refine va_get (D := D) (ci := 1) (v := .int (th)) (C := RX1) (T := TX1) (N := 4) hx hb hts inX1 hown hK hP 0 rfl rfl 1 (by decide) (hts (.fieldLink RX1 15 "ScooterFlags$Row" "there" "Z") (by decide +kernel)) (fun _ h9 => h9) rfl dX1_isUnlike_1 ?_
  refine lv_if_eq (tgt := 19) hx hb dX1_isUnlike_4 (by decide) (fun c1 => ?_) (fun c1 => ?_)
  · have hg := it hg c1
    refine lv_iconst (v := (0 : Int32)) hx hb dX1_isUnlike_19 (by decide) ?_
    obtain rfl := Option.some.inj hg
    exact rtz hQ hx hb hr rfl hlocks hK hP hD hS dX1_isUnlike_20 ⟨rfl, rfl⟩
  · have hg := ie hg c1
    refine lv_aload_n hx hb dX1_isUnlike_7 rfl (lv_at hl 0 rfl) ?_
    refine va_get (D := D) (ci := 1) (v := .int (ln)) (C := RX1) (T := TX1) (N := 4) hx hb hts inX1 hown hK hP 0 rfl rfl 2 (by decide) (hts (.fieldLink RX1 19 "ScooterFlags$Row" "lane" "I") (by decide +kernel)) (fun _ h9 => h9) rfl dX1_isUnlike_8 ?_
    refine lv_iload_n hx hb dX1_isUnlike_11 rfl (lv_at hl 1 rfl) ?_
    refine lv_icmp_eq (tgt := 19) hx hb dX1_isUnlike_12 (by decide) (fun c2 => ?_) (fun c2 => ?_)
    · have hg := it hg c2
      refine lv_iconst (v := (0 : Int32)) hx hb dX1_isUnlike_19 (by decide) ?_
      obtain rfl := Option.some.inj hg
      exact rtz hQ hx hb hr rfl hlocks hK hP hD hS dX1_isUnlike_20 ⟨rfl, rfl⟩
    · have hg := ie hg c2
      refine lv_iconst (v := (1 : Int32)) hx hb dX1_isUnlike_15 (by decide) ?_
      refine lv_goto (tgt := 20) hx hb dX1_isUnlike_16 (by decide) ?_
      obtain rfl := Option.some.inj hg
      exact rtz hQ hx hb hr rfl hlocks hK hP hD hS dX1_isUnlike_20 ⟨rfl, rfl⟩
def f_X1_holds (le : Int32) (zi : Int32) (zn : Int32) : Option (Int32) :=
  if zi < 0 then (some ((0 : Int32))) else (if zn < 0 then (some ((0 : Int32))) else (if le < zn then (some ((0 : Int32))) else (if (le - zn) < zi then (some ((0 : Int32))) else (some ((1 : Int32))))))
set_option maxHeartbeats 4000000 in
set_option maxRecDepth 100000 in
theorem c_X1_holds (l : Launch) (D : va_G) (cI cZ cR : ClassId) (aw : Nat) (awc : Nat) (th : Int32) (ln : Int32) (le : Int32) (ce : Nat → Int32) (zi : Int32) (zn : Int32) {res : Int32} (hg : f_X1_holds le zi zn = some res) : MI l yX1_holds wsX1_holds ({ frames := 0, cells := 0, slots := 0, locals := 0 }) D (T3 cI cZ cR) [(aw, .inr (1, [.ref awc, .int (th), .int (ln), .int (le)])), (awc, .inl (cI, 60, .inl (ce)))] [.ref aw, .int (zi), .int (zn)] (fun r u => res = r ∧ u = [(aw, .inr (1, [.ref awc, .int (th), .int (ln), .int (le)])), (awc, .inl (cI, 60, .inl (ce)))]) := by
  refine entI (Rn := RX1) (by decide +kernel) rfl rfl (Nat.le_of_ble_eq_true rfl) (fun p e s m args below meth c A Q hx hb hr hml hts hown hlocks hA hP hD hK hS ls hl hQ => ?_)
  have inX1 : ∀ w ∈ u_ws RX1 TX1 4, w ∈ wsX1_holds := by decide +kernel
  have hl : lv_has ls 3 [(0, .ref aw), (1, .int (zi)), (2, .int (zn))] := hl
  rw [f_X1_holds] at hg
  refine lv_iload_n hx hb dX1_holds_0 rfl (lv_at hl 1 rfl) ?_
  refine lv_if_lt (tgt := 30) hx hb dX1_holds_1 (by decide) (fun c1 => ?_) (fun c1 => ?_)
  · have hg := it hg c1
    refine lv_iconst (v := (0 : Int32)) hx hb dX1_holds_30 (by decide) ?_
    obtain rfl := Option.some.inj hg
    exact rtz hQ hx hb hr rfl hlocks hK hP hD hS dX1_holds_31 ⟨rfl, rfl⟩
  · have hg := ie hg c1
    refine lv_iload_n hx hb dX1_holds_4 rfl (lv_at hl 2 rfl) ?_
    refine lv_if_lt (tgt := 30) hx hb dX1_holds_5 (by decide) (fun c2 => ?_) (fun c2 => ?_)
    · have hg := it hg c2
      refine lv_iconst (v := (0 : Int32)) hx hb dX1_holds_30 (by decide) ?_
      obtain rfl := Option.some.inj hg
      exact rtz hQ hx hb hr rfl hlocks hK hP hD hS dX1_holds_31 ⟨rfl, rfl⟩
    · have hg := ie hg c2
      refine lv_iload_n hx hb dX1_holds_8 rfl (lv_at hl 2 rfl) ?_
      refine lv_aload_n hx hb dX1_holds_9 rfl (lv_at hl 0 rfl) ?_
      refine va_get (D := D) (ci := 1) (v := .int (le)) (C := RX1) (T := TX1) (N := 4) hx hb hts inX1 hown hK hP 0 rfl rfl 3 (by decide) (hts (.fieldLink RX1 23 "ScooterFlags$Row" "length" "I") (by decide +kernel)) (fun _ h9 => h9) rfl dX1_holds_10 ?_
      refine lv_icmp_gt (tgt := 30) hx hb dX1_holds_13 (by decide) (fun c3 => ?_) (fun c3 => ?_)
      · have hg := it hg c3
        refine lv_iconst (v := (0 : Int32)) hx hb dX1_holds_30 (by decide) ?_
        obtain rfl := Option.some.inj hg
        exact rtz hQ hx hb hr rfl hlocks hK hP hD hS dX1_holds_31 ⟨rfl, rfl⟩
      · have hg := ie hg c3
        refine lv_iload_n hx hb dX1_holds_16 rfl (lv_at hl 1 rfl) ?_
        refine lv_aload_n hx hb dX1_holds_17 rfl (lv_at hl 0 rfl) ?_
        refine va_get (D := D) (ci := 1) (v := .int (le)) (C := RX1) (T := TX1) (N := 4) hx hb hts inX1 hown hK hP 0 rfl rfl 3 (by decide) (hts (.fieldLink RX1 23 "ScooterFlags$Row" "length" "I") (by decide +kernel)) (fun _ h9 => h9) rfl dX1_holds_18 ?_
        refine lv_iload_n hx hb dX1_holds_21 rfl (lv_at hl 2 rfl) ?_
        refine lv_isub hx hb dX1_holds_22 ?_
        refine lv_icmp_gt (tgt := 30) hx hb dX1_holds_23 (by decide) (fun c4 => ?_) (fun c4 => ?_)
        · have hg := it hg c4
          refine lv_iconst (v := (0 : Int32)) hx hb dX1_holds_30 (by decide) ?_
          obtain rfl := Option.some.inj hg
          exact rtz hQ hx hb hr rfl hlocks hK hP hD hS dX1_holds_31 ⟨rfl, rfl⟩
        · have hg := ie hg c4
          refine lv_iconst (v := (1 : Int32)) hx hb dX1_holds_26 (by decide) ?_
          refine lv_goto (tgt := 31) hx hb dX1_holds_27 (by decide) ?_
          obtain rfl := Option.some.inj hg
          exact rtz hQ hx hb hr rfl hlocks hK hP hD hS dX1_holds_31 ⟨rfl, rfl⟩
def f_X1_at (le : Int32) (ce : Nat → Int32) (zi : Int32) : Option (Int32) :=
  if zi < 0 then (some ((0 : Int32))) else (if le ≤ zi then (some ((0 : Int32))) else (gx zi 60 (some ((ce zi.toNatClampNeg)))))
set_option maxHeartbeats 4000000 in
set_option maxRecDepth 100000 in
theorem c_X1_at (l : Launch) (D : va_G) (cI cZ cR : ClassId) (aw : Nat) (awc : Nat) (th : Int32) (ln : Int32) (le : Int32) (ce : Nat → Int32) (zi : Int32) {res : Int32} (hg : f_X1_at le ce zi = some res) : MI l yX1_at wsX1_at ({ frames := 0, cells := 0, slots := 0, locals := 0 }) D (T3 cI cZ cR) [(aw, .inr (1, [.ref awc, .int (th), .int (ln), .int (le)])), (awc, .inl (cI, 60, .inl (ce)))] [.ref aw, .int (zi)] (fun r u => res = r ∧ u = [(aw, .inr (1, [.ref awc, .int (th), .int (ln), .int (le)])), (awc, .inl (cI, 60, .inl (ce)))]) := by
  refine entI (Rn := RX1) (by decide +kernel) rfl rfl (Nat.le_of_ble_eq_true rfl) (fun p e s m args below meth c A Q hx hb hr hml hts hown hlocks hA hP hD hK hS ls hl hQ => ?_)
  have inX1 : ∀ w ∈ u_ws RX1 TX1 4, w ∈ wsX1_at := by decide +kernel
  have hl : lv_has ls 2 [(0, .ref aw), (1, .int (zi))] := hl
  rw [f_X1_at] at hg
  refine lv_iload_n hx hb dX1_at_0 rfl (lv_at hl 1 rfl) ?_
  refine lv_if_lt (tgt := 21) hx hb dX1_at_1 (by decide) (fun c1 => ?_) (fun c1 => ?_)
  · have hg := it hg c1
    refine lv_iconst (v := (0 : Int32)) hx hb dX1_at_21 (by decide) ?_
    obtain rfl := Option.some.inj hg
    exact rti hQ hx hb hr hlocks hK hP hD hS dX1_at_22 ⟨rfl, rfl⟩
  · have hg := ie hg c1
    refine lv_iload_n hx hb dX1_at_4 rfl (lv_at hl 1 rfl) ?_
    refine lv_aload_n hx hb dX1_at_5 rfl (lv_at hl 0 rfl) ?_
    refine va_get (D := D) (ci := 1) (v := .int (le)) (C := RX1) (T := TX1) (N := 4) hx hb hts inX1 hown hK hP 0 rfl rfl 3 (by decide) (hts (.fieldLink RX1 23 "ScooterFlags$Row" "length" "I") (by decide +kernel)) (fun _ h9 => h9) rfl dX1_at_6 ?_
    refine lv_icmp_ge (tgt := 21) hx hb dX1_at_9 (by decide) (fun c2 => ?_) (fun c2 => ?_)
    · have hg := it hg c2
      refine lv_iconst (v := (0 : Int32)) hx hb dX1_at_21 (by decide) ?_
      obtain rfl := Option.some.inj hg
      exact rti hQ hx hb hr hlocks hK hP hD hS dX1_at_22 ⟨rfl, rfl⟩
    · have hg := ie hg c2
      refine lv_aload_n hx hb dX1_at_12 rfl (lv_at hl 0 rfl) ?_
      refine va_get (D := D) (ci := 1) (v := .ref awc) (C := RX1) (T := TX1) (N := 4) hx hb hts inX1 hown hK hP 0 rfl rfl 0 (by decide) (hts (.fieldLink RX1 9 "ScooterFlags$Row" "cells" "[I") (by decide +kernel)) (fun _ h9 => h9) rfl dX1_at_13 ?_
      refine lv_iload_n hx hb dX1_at_16 rfl (lv_at hl 1 rfl) ?_
      obtain ⟨g3, hg⟩ := gxo hg
      refine va_iald hx hb hK hP 1 0 rfl rfl g3 dX1_at_17 ?_
      refine W.eq (g2 := F0 m 18 ls [.int ((ce zi.toNatClampNeg))]) rfl ?_
      refine lv_goto (tgt := 22) hx hb dX1_at_18 (by decide) ?_
      obtain rfl := Option.some.inj hg
      exact rti hQ hx hb hr hlocks hK hP hD hS dX1_at_22 ⟨rfl, rfl⟩
def f_X1_cut (ln : Int32) (zv : Int32) : Option (Int32) :=
  if ln = 0 then (some ((zv).toInt8.toInt32)) else if ln = 1 then (some ((zv).toInt16.toInt32)) else (some (zv))
set_option maxHeartbeats 4000000 in
set_option maxRecDepth 100000 in
theorem c_X1_cut (l : Launch) (D : va_G) (cI cZ cR : ClassId) (aw : Nat) (awc : Nat) (th : Int32) (ln : Int32) (le : Int32) (ce : Nat → Int32) (zv : Int32) {res : Int32} (hg : f_X1_cut ln zv = some res) : MI l yX1_cut wsX1_cut ({ frames := 0, cells := 0, slots := 0, locals := 0 }) D (T3 cI cZ cR) [(aw, .inr (1, [.ref awc, .int (th), .int (ln), .int (le)])), (awc, .inl (cI, 60, .inl (ce)))] [.ref aw, .int (zv)] (fun r u => res = r ∧ u = [(aw, .inr (1, [.ref awc, .int (th), .int (ln), .int (le)])), (awc, .inl (cI, 60, .inl (ce)))]) := by
  refine entI (Rn := RX1) (by decide +kernel) rfl rfl (Nat.le_of_ble_eq_true rfl) (fun p e s m args below meth c A Q hx hb hr hml hts hown hlocks hA hP hD hK hS ls hl hQ => ?_)
  have inX1 : ∀ w ∈ u_ws RX1 TX1 4, w ∈ wsX1_cut := by decide +kernel
  have hl : lv_has ls 2 [(0, .ref aw), (1, .int (zv))] := hl
  rw [f_X1_cut] at hg
  refine lv_aload_n hx hb dX1_cut_0 rfl (lv_at hl 0 rfl) ?_
  refine va_get (D := D) (ci := 1) (v := .int (ln)) (C := RX1) (T := TX1) (N := 4) hx hb hts inX1 hown hK hP 0 rfl rfl 2 (by decide) (hts (.fieldLink RX1 19 "ScooterFlags$Row" "lane" "I") (by decide +kernel)) (fun _ h9 => h9) rfl dX1_cut_1 ?_
  by_cases c1 : ln = 0
  · have hg := it hg c1
    refine lv_lookup (off := 28) (tgt := 32) hx hb dX1_cut_4 (by decide) (by rw [c1]; rfl) (by decide) ?_
    refine lv_iload_n hx hb dX1_cut_32 rfl (lv_at hl 1 rfl) ?_
    refine lv_i2b (v := (zv).toInt8.toInt32) hx hb dX1_cut_33 rfl ?_
    obtain rfl := Option.some.inj hg
    exact rti hQ hx hb hr hlocks hK hP hD hS dX1_cut_34 ⟨rfl, rfl⟩
  · have hg := ie hg c1
    by_cases c2 : ln = 1
    · have hg := it hg c2
      refine lv_lookup (off := 31) (tgt := 35) hx hb dX1_cut_4 (by decide) (by rw [c2]; rfl) (by decide) ?_
      refine lv_iload_n hx hb dX1_cut_35 rfl (lv_at hl 1 rfl) ?_
      refine lv_i2s (v := (zv).toInt16.toInt32) hx hb dX1_cut_36 rfl ?_
      obtain rfl := Option.some.inj hg
      exact rti hQ hx hb hr hlocks hK hP hD hS dX1_cut_37 ⟨rfl, rfl⟩
    · have hg := ie hg c2
      refine lv_lookup (off := 34) (tgt := 38) hx hb dX1_cut_4 (by decide) (by show Op.lookupswitch.offset [(0, 28), (1, 31)] _ _ = _; rw [lv_osw (a := 0) c1 rfl, lv_osw (a := 1) c2 rfl]; rfl) (by decide) ?_
      refine lv_iload_n hx hb dX1_cut_38 rfl (lv_at hl 1 rfl) ?_
      obtain rfl := Option.some.inj hg
      exact rti hQ hx hb hr hlocks hK hP hD hS dX1_cut_39 ⟨rfl, rfl⟩
def f_X1_keep (ln : Int32) (le : Int32) (ce : Nat → Int32) (zi : Int32) (zv : Int32) : Option ((Nat → Int32)) :=
  if zi < 0 then (some (ce)) else (if le ≤ zi then (some (ce)) else ((f_X1_cut ln zv).bind (fun o3 => gx zi 60 (some ((upd ce zi.toNatClampNeg o3))))))
set_option maxHeartbeats 4000000 in
set_option maxRecDepth 100000 in
theorem c_X1_keep (l : Launch) (D : va_G) (cI cZ cR : ClassId) (aw : Nat) (awc : Nat) (th : Int32) (ln : Int32) (le : Int32) (ce : Nat → Int32) (zi : Int32) (zv : Int32) {res : (Nat → Int32)} (hg : f_X1_keep ln le ce zi zv = some res) : MV l yX1_keep wsX1_keep ({ frames := 1, cells := 0, slots := 0, locals := 21 }) D (T3 cI cZ cR) [(aw, .inr (1, [.ref awc, .int (th), .int (ln), .int (le)])), (awc, .inl (cI, 60, .inl (ce)))] [.ref aw, .int (zi), .int (zv)] (fun u => u = [(aw, .inr (1, [.ref awc, .int (th), .int (ln), .int (le)])), (awc, .inl (cI, 60, .inl (res)))]) := by
  refine entV (Rn := RX1) (by decide +kernel) rfl rfl (Nat.le_of_ble_eq_true rfl) (fun p e s m args below meth c A Q hx hb hr hml hts hown hlocks hA hP hD hK hS ls hl hQ => ?_)
  have inX1 : ∀ w ∈ u_ws RX1 TX1 4, w ∈ wsX1_keep := by decide +kernel
  have hl : lv_has ls 3 [(0, .ref aw), (1, .int (zi)), (2, .int (zv))] := hl
  rw [f_X1_keep] at hg
  refine lv_iload_n hx hb dX1_keep_0 rfl (lv_at hl 1 rfl) ?_
  refine lv_if_lt (tgt := 23) hx hb dX1_keep_1 (by decide) (fun c1 => ?_) (fun c1 => ?_)
  · have hg := it hg c1
    obtain rfl := Option.some.inj hg
    exact rtv hQ hx hb hr hlocks hK hP hD hS dX1_keep_23 rfl
  · have hg := ie hg c1
    refine lv_iload_n hx hb dX1_keep_4 rfl (lv_at hl 1 rfl) ?_
    refine lv_aload_n hx hb dX1_keep_5 rfl (lv_at hl 0 rfl) ?_
    refine va_get (D := D) (ci := 1) (v := .int (le)) (C := RX1) (T := TX1) (N := 4) hx hb hts inX1 hown hK hP 0 rfl rfl 3 (by decide) (hts (.fieldLink RX1 23 "ScooterFlags$Row" "length" "I") (by decide +kernel)) (fun _ h9 => h9) rfl dX1_keep_6 ?_
    refine lv_icmp_ge (tgt := 23) hx hb dX1_keep_9 (by decide) (fun c2 => ?_) (fun c2 => ?_)
    · have hg := it hg c2
      obtain rfl := Option.some.inj hg
      exact rtv hQ hx hb hr hlocks hK hP hD hS dX1_keep_23 rfl
    · have hg := ie hg c2
      refine lv_aload_n hx hb dX1_keep_12 rfl (lv_at hl 0 rfl) ?_
      refine va_get (D := D) (ci := 1) (v := .ref awc) (C := RX1) (T := TX1) (N := 4) hx hb hts inX1 hown hK hP 0 rfl rfl 0 (by decide) (hts (.fieldLink RX1 9 "ScooterFlags$Row" "cells" "[I") (by decide +kernel)) (fun _ h9 => h9) rfl dX1_keep_13 ?_
      refine lv_iload_n hx hb dX1_keep_16 rfl (lv_at hl 1 rfl) ?_
      refine lv_aload_n hx hb dX1_keep_17 rfl (lv_at hl 0 rfl) ?_
      refine lv_iload_n hx hb dX1_keep_18 rfl (lv_at hl 2 rfl) ?_
      obtain ⟨o3, h4, hg⟩ := bd hg
      refine xcVi (As := [.int (zv)]) (rest := [.int (zi), .ref awc]) (wc := [(aw, .inr (1, [.ref awc, .int (th), .int (ln), .int (le)])), (awc, .inl (cI, 60, .inl (ce)))]) (wr := []) ⟨hx, hb, hml, hown, hts⟩ (c_X1_cut l D cI cZ cR aw awc th ln le ce zv h4) (cwV 1 hts gX1_keep_X1_cut rfl rfl rfl (by decide +kernel) ⟨Nat.le_of_ble_eq_true rfl, Nat.le_of_ble_eq_true rfl⟩) hK hP hD hS hA [0, 1] [] rfl rfl (by decide) (by decide) (by decide) (va_recv hK hP (ci := 1) (q0 := 0) rfl rfl) rfl rfl hl.1 (lv_room (Nat.le_of_ble_eq_true rfl)) dX1_keep_19 ⟨Nat.le_of_ble_eq_true rfl, Nat.le_of_ble_eq_true rfl⟩ (fun r u H locs hu hP hD hS => ?_)
      obtain ⟨rfl, rfl⟩ := hu
      have hP : va_P D vwCl [(aw, .inr (1, [.ref awc, .int (th), .int (ln), .int (le)])), (awc, .inl (cI, 60, .inl (ce)))] H := hP.sub [0, 1] rfl
      have hD : va_D A [(aw, .inr (1, [.ref awc, .int (th), .int (ln), .int (le)])), (awc, .inl (cI, 60, .inl (ce)))] := hD.sub [0, 1] (by decide) rfl
      obtain ⟨g5, hg⟩ := gxo hg
      refine va_iast hx hb hK hP hD hS 1 0 rfl rfl g5 dX1_keep_22 (fun H locs hP hD hS => ?_)
      have hP : va_P D vwCl [(aw, .inr (1, [.ref awc, .int (th), .int (ln), .int (le)])), (awc, .inl (cI, 60, .inl ((upd ce zi.toNatClampNeg o3))))] H := hP
      have hD : va_D A [(aw, .inr (1, [.ref awc, .int (th), .int (ln), .int (le)])), (awc, .inl (cI, 60, .inl ((upd ce zi.toNatClampNeg o3))))] := hD
      obtain rfl := Option.some.inj hg
      exact rtv hQ hx hb hr hlocks hK hP hD hS dX1_keep_23 rfl
def f_J7_fill_53178_L5 (zv : Int32) (zn : Nat) (k20 : (Nat → Int32) → Option ((Nat → Int32))) : Nat → Int32 → Int32 → (Nat → Int32) → Option ((Nat → Int32))
  | 0, _, _, _ => none
  | n + 1, x2, x3, fa => if x3 ≤ x2 then (k20 fa) else (gx x2 zn (f_J7_fill_53178_L5 zv zn k20 n (x2 + (1 : Int32)) x3 (upd fa x2.toNatClampNeg zv)))
def f_J7_fill_53178 (fa : Nat → Int32) (zv : Int32) (zn : Nat) : Option ((Nat → Int32)) :=
  f_J7_fill_53178_L5 zv zn (fun (fa : Nat → Int32) => some (fa)) 100000 (0 : Int32) (nI zn) fa
set_option maxHeartbeats 4000000 in
set_option maxRecDepth 100000 in
theorem c_J7_fill_53178 (l : Launch) (D : va_G) (cI cZ cR : ClassId) (aa : Nat) (fa : Nat → Int32) (zv : Int32) (zn : Nat) {res : (Nat → Int32)} (hg : f_J7_fill_53178 fa zv zn = some res) : MV l yJ7_fill_53178 wsJ7_fill_53178 ({ frames := 0, cells := 0, slots := 0, locals := 0 }) D (T3 cI cZ cR) [(aa, .inl (cI, zn, .inl (fa)))] [.ref aa, .int (zv)] (fun u => u = [(aa, .inl (cI, zn, .inl (res)))]) := by
  refine entV (Rn := RJ7) (by decide +kernel) rfl rfl (Nat.le_of_ble_eq_true rfl) (fun p e s m args below meth c A Q hx hb hr hml hts hown hlocks hA hP hD hK hS ls hl hQ => ?_)
  have lp_5 : ∀ (k20 : (Nat → Int32) → Option ((Nat → Int32))) (hk20 : ∀ (fa : Nat → Int32), k20 fa = some res → ∀ (H : Heap) (locs : List Loc), va_P D vwCl [(aa, .inl (cI, zn, .inl (fa)))] H → va_D A [(aa, .inl (cI, zn, .inl (fa)))] → va_S A s.heap H locs → ∀ (ls : Array Slot), lv_has ls 4 [] → W p l e ({ frames := 0, cells := 0, slots := 0, locals := 0 }) s m args below meth c H locs 0 0 Q (F0 m 20 ls [])) (n : Nat) (x2 : Int32) (x3 : Int32) (fa : Nat → Int32), f_J7_fill_53178_L5 zv zn k20 n x2 x3 fa = some res → ∀ (H : Heap) (locs : List Loc), va_P D vwCl [(aa, .inl (cI, zn, .inl (fa)))] H → va_D A [(aa, .inl (cI, zn, .inl (fa)))] → va_S A s.heap H locs → ∀ (ls : Array Slot), lv_has ls 4 [(0, .ref aa), (1, .int (zv)), (2, .int (x2)), (3, .int (x3))] → W p l e ({ frames := 0, cells := 0, slots := 0, locals := 0 }) s m args below meth c H locs 0 0 Q (F0 m 5 ls []) := by
    intro k20 hk20 n
    induction n with
    | zero => intro x2 x3 fa hg; rw [f_J7_fill_53178_L5] at hg; cases hg
    | succ n ih =>
      intro x2 x3 fa hg H locs hP hD hS ls hl
      rw [f_J7_fill_53178_L5] at hg
      refine lv_iload_n hx hb dJ7_fill_53178_5 rfl (lv_at hl 2 rfl) ?_
      refine lv_iload_n hx hb dJ7_fill_53178_6 rfl (lv_at hl 3 rfl) ?_
      refine lv_icmp_ge (tgt := 20) hx hb dJ7_fill_53178_7 (by decide) (fun c1 => ?_) (fun c1 => ?_)
      · have hg := it hg c1
        exact hk20 fa hg _ _ hP hD hS _ (lv_sub hl [] rfl)
      · have hg := ie hg c1
        refine lv_aload_n hx hb dJ7_fill_53178_10 rfl (lv_at hl 0 rfl) ?_
        refine lv_iload_n hx hb dJ7_fill_53178_11 rfl (lv_at hl 2 rfl) ?_
        refine lv_iload_n hx hb dJ7_fill_53178_12 rfl (lv_at hl 1 rfl) ?_
        obtain ⟨g2, hg⟩ := gxo hg
        refine va_iast hx hb hK hP hD hS 0 0 rfl rfl g2 dJ7_fill_53178_13 (fun H locs hP hD hS => ?_)
        have hP : va_P D vwCl [(aa, .inl (cI, zn, .inl ((upd fa x2.toNatClampNeg zv))))] H := hP
        have hD : va_D A [(aa, .inl (cI, zn, .inl ((upd fa x2.toNatClampNeg zv))))] := hD
        refine lv_iinc (v := (x2 + (1 : Int32))) (lv' := [(2, .int ((x2 + (1 : Int32)))), (0, .ref aa), (1, .int (zv)), (3, .int (x3))]) hx hb dJ7_fill_53178_14 hl (k := 2) rfl rfl (by decide) rfl (fun ls hl => ?_)
        refine lv_goto (tgt := 5) hx hb dJ7_fill_53178_17 (by decide) ?_
        exact ih (x2 + (1 : Int32)) x3 (upd fa x2.toNatClampNeg zv) hg _ _ hP hD hS _ (lv_sub hl [1, 2, 0, 3] rfl)
  have hl : lv_has ls 4 [(0, .ref aa), (1, .int (zv))] := hl
  rw [f_J7_fill_53178] at hg
  refine lv_iconst (v := (0 : Int32)) hx hb dJ7_fill_53178_0 (by decide) ?_
  refine lv_istore_n (lv' := [(2, .int ((0 : Int32))), (0, .ref aa), (1, .int (zv))]) hx hb dJ7_fill_53178_1 rfl hl (by decide) rfl (fun ls hl => ?_)
  refine lv_aload_n hx hb dJ7_fill_53178_2 rfl (lv_at hl 1 rfl) ?_
  refine va_alen (v := (nI zn)) hx hb hK hP 0 0 rfl rfl rfl dJ7_fill_53178_3 ?_
  refine lv_istore_n (lv' := [(3, .int ((nI zn))), (2, .int ((0 : Int32))), (0, .ref aa), (1, .int (zv))]) hx hb dJ7_fill_53178_4 rfl hl (by decide) rfl (fun ls hl => ?_)
  refine lp_5 _ ?_ 100000 (0 : Int32) (nI zn) fa hg _ _ hP hD hS _ (lv_sub hl [2, 3, 1, 0] rfl)
  · intro fa hg H locs hP hD hS ls hl
    obtain rfl := Option.some.inj hg
    exact rtv hQ hx hb hr hlocks hK hP hD hS dJ7_fill_53178_20 rfl
def f_X1_becomeNew (ce : Nat → Int32) (zl : Int32) (zn : Int32) : Option (Int32 × Int32 × Int32 × (Nat → Int32)) :=
  (f_J7_fill_53178 ce (0 : Int32) 60).bind (fun o1 => some ((1 : Int32), zl, (if (0 : Int32) < (if (60 : Int32) < zn then (60 : Int32) else zn) then (if (60 : Int32) < zn then (60 : Int32) else zn) else (0 : Int32)), o1))
set_option maxHeartbeats 4000000 in
set_option maxRecDepth 100000 in
theorem c_X1_becomeNew (l : Launch) (D : va_G) (cI cZ cR : ClassId) (aw : Nat) (awc : Nat) (th : Int32) (ln : Int32) (le : Int32) (ce : Nat → Int32) (zl : Int32) (zn : Int32) {res : Int32 × Int32 × Int32 × (Nat → Int32)} (hg : f_X1_becomeNew ce zl zn = some res) : MV l yX1_becomeNew wsX1_becomeNew ({ frames := 1, cells := 0, slots := 0, locals := 23 }) D (T3 cI cZ cR) [(aw, .inr (1, [.ref awc, .int (th), .int (ln), .int (le)])), (awc, .inl (cI, 60, .inl (ce)))] [.ref aw, .int (zl), .int (zn)] (fun u => u = [(aw, .inr (1, [.ref awc, .int (res.1), .int (res.2.1), .int (res.2.2.1)])), (awc, .inl (cI, 60, .inl (res.2.2.2)))]) := by
  refine entV (Rn := RX1) (by decide +kernel) rfl rfl (Nat.le_of_ble_eq_true rfl) (fun p e s m args below meth c A Q hx hb hr hml hts hown hlocks hA hP hD hK hS ls hl hQ => ?_)
  have inX1 : ∀ w ∈ u_ws RX1 TX1 4, w ∈ wsX1_becomeNew := by decide +kernel
  have hl : lv_has ls 3 [(0, .ref aw), (1, .int (zl)), (2, .int (zn))] := hl
  rw [f_X1_becomeNew] at hg
  refine lv_aload_n hx hb dX1_becomeNew_0 rfl (lv_at hl 0 rfl) ?_
  refine va_get (D := D) (ci := 1) (v := .ref awc) (C := RX1) (T := TX1) (N := 4) hx hb hts inX1 hown hK hP 0 rfl rfl 0 (by decide) (hts (.fieldLink RX1 9 "ScooterFlags$Row" "cells" "[I") (by decide +kernel)) (fun _ h9 => h9) rfl dX1_becomeNew_1 ?_
  refine lv_iconst (v := (0 : Int32)) hx hb dX1_becomeNew_4 (by decide) ?_
  obtain ⟨o1, h2, hg⟩ := bd hg
  refine xcSv (As := [.ref awc, .int ((0 : Int32))]) (rest := []) (wc := [(awc, .inl (cI, 60, .inl (ce)))]) (wr := [(aw, .inr (1, [.ref awc, .int (th), .int (ln), .int (le)]))]) ⟨hx, hb, hml, hown, hts⟩ (c_J7_fill_53178 l D cI cZ cR awc ce (0 : Int32) 60 h2) (va_cwS 2 hts gX1_becomeNew_J7_fill_53178 rfl rfl rfl (by decide +kernel) ⟨Nat.le_of_ble_eq_true rfl, Nat.le_of_ble_eq_true rfl⟩) hK hP hD hS hA [1] [0] rfl rfl (by decide) (by decide) (by decide) rfl rfl hl.1 (lv_room (Nat.le_of_ble_eq_true rfl)) dX1_becomeNew_5 ⟨Nat.le_of_ble_eq_true rfl, Nat.le_of_ble_eq_true rfl⟩ (fun u H locs hu hP hD hS => ?_)
  subst hu
  have hP : va_P D vwCl [(aw, .inr (1, [.ref awc, .int (th), .int (ln), .int (le)])), (awc, .inl (cI, 60, .inl (o1)))] H := hP.sub [0, 1] rfl
  have hD : va_D A [(aw, .inr (1, [.ref awc, .int (th), .int (ln), .int (le)])), (awc, .inl (cI, 60, .inl (o1)))] := hD.sub [0, 1] (by decide) rfl
  refine lv_aload_n hx hb dX1_becomeNew_8 rfl (lv_at hl 0 rfl) ?_
  refine lv_iconst (v := (1 : Int32)) hx hb dX1_becomeNew_9 (by decide) ?_
  refine va_put (D := D) (ci := 1) (v := .int ((1 : Int32))) (ty := .boolean) (C := RX1) (T := TX1) (N := 4) hx hb hts inX1 tyX1 tyX1_ok nmX1 hown hK hP hD hS 0 rfl rfl 1 (by decide) (hts (.fieldLink RX1 15 "ScooterFlags$Row" "there" "Z") (by decide +kernel)) (fun _ h9 => h9) rfl (by decide +kernel) rfl rfl (Nat.le_of_ble_eq_true rfl) dX1_becomeNew_10 (fun H locs hP hD hS => ?_)
  have hP : va_P D vwCl [(aw, .inr (1, [.ref awc, .int ((1 : Int32)), .int (ln), .int (le)])), (awc, .inl (cI, 60, .inl (o1)))] H := hP
  have hD : va_D A [(aw, .inr (1, [.ref awc, .int ((1 : Int32)), .int (ln), .int (le)])), (awc, .inl (cI, 60, .inl (o1)))] := hD
  refine lv_aload_n hx hb dX1_becomeNew_13 rfl (lv_at hl 0 rfl) ?_
  refine lv_iload_n hx hb dX1_becomeNew_14 rfl (lv_at hl 1 rfl) ?_
  refine va_put (D := D) (ci := 1) (v := .int (zl)) (ty := .int) (C := RX1) (T := TX1) (N := 4) hx hb hts inX1 tyX1 tyX1_ok nmX1 hown hK hP hD hS 0 rfl rfl 2 (by decide) (hts (.fieldLink RX1 19 "ScooterFlags$Row" "lane" "I") (by decide +kernel)) (fun _ h9 => h9) rfl (by decide +kernel) rfl rfl (Nat.le_of_ble_eq_true rfl) dX1_becomeNew_15 (fun H locs hP hD hS => ?_)
  have hP : va_P D vwCl [(aw, .inr (1, [.ref awc, .int ((1 : Int32)), .int (zl), .int (le)])), (awc, .inl (cI, 60, .inl (o1)))] H := hP
  have hD : va_D A [(aw, .inr (1, [.ref awc, .int ((1 : Int32)), .int (zl), .int (le)])), (awc, .inl (cI, 60, .inl (o1)))] := hD
  refine lv_aload_n hx hb dX1_becomeNew_18 rfl (lv_at hl 0 rfl) ?_
  refine lv_iconst (v := (0 : Int32)) hx hb dX1_becomeNew_19 (by decide) ?_
  refine lv_iload_n hx hb dX1_becomeNew_20 rfl (lv_at hl 2 rfl) ?_
  refine lv_bipush (v := (60 : Int32)) hx hb dX1_becomeNew_21 (by decide) ?_
  refine va_mmin hx hb (hml.trans hl.1.symm) hown (hts (.methodLink RX1 32 Lib.Math.min.name) (by decide +kernel)) (hts (.static Lib.Math.min.name) (by decide +kernel)) (hts (.initialized "java/lang/Math") (by decide +kernel)) (hts (.code Lib.Math.min.name Lib.Math.min.code 2 (some .int)) (by decide +kernel)) (Nat.le_of_ble_eq_true rfl) (Nat.le_of_ble_eq_true rfl) (Nat.le_of_ble_eq_true rfl) (Nat.le_of_ble_eq_true rfl) dX1_becomeNew_23 ?_
  refine va_mmax hx hb (hml.trans hl.1.symm) hown (hts (.methodLink RX1 38 Lib.Math.max.name) (by decide +kernel)) (hts (.static Lib.Math.max.name) (by decide +kernel)) (hts (.initialized "java/lang/Math") (by decide +kernel)) (hts (.code Lib.Math.max.name Lib.Math.max.code 2 (some .int)) (by decide +kernel)) (Nat.le_of_ble_eq_true rfl) (Nat.le_of_ble_eq_true rfl) (Nat.le_of_ble_eq_true rfl) (Nat.le_of_ble_eq_true rfl) dX1_becomeNew_26 ?_
  refine va_put (D := D) (ci := 1) (v := .int ((if (0 : Int32) < (if (60 : Int32) < zn then (60 : Int32) else zn) then (if (60 : Int32) < zn then (60 : Int32) else zn) else (0 : Int32)))) (ty := .int) (C := RX1) (T := TX1) (N := 4) hx hb hts inX1 tyX1 tyX1_ok nmX1 hown hK hP hD hS 0 rfl rfl 3 (by decide) (hts (.fieldLink RX1 23 "ScooterFlags$Row" "length" "I") (by decide +kernel)) (fun _ h9 => h9) rfl (by decide +kernel) rfl rfl (Nat.le_of_ble_eq_true rfl) dX1_becomeNew_29 (fun H locs hP hD hS => ?_)
  have hP : va_P D vwCl [(aw, .inr (1, [.ref awc, .int ((1 : Int32)), .int (zl), .int ((if (0 : Int32) < (if (60 : Int32) < zn then (60 : Int32) else zn) then (if (60 : Int32) < zn then (60 : Int32) else zn) else (0 : Int32)))])), (awc, .inl (cI, 60, .inl (o1)))] H := hP
  have hD : va_D A [(aw, .inr (1, [.ref awc, .int ((1 : Int32)), .int (zl), .int ((if (0 : Int32) < (if (60 : Int32) < zn then (60 : Int32) else zn) then (if (60 : Int32) < zn then (60 : Int32) else zn) else (0 : Int32)))])), (awc, .inl (cI, 60, .inl (o1)))] := hD
  obtain rfl := Option.some.inj hg
  exact rtv hQ hx hb hr hlocks hK hP hD hS dX1_becomeNew_32 rfl
def f_X3_has (cn : Int32) (zf : Int32) : Option (Int32) :=
  if zf < 0 then (some ((0 : Int32))) else (if cn ≤ zf then (some ((0 : Int32))) else (some ((1 : Int32))))
set_option maxHeartbeats 4000000 in
set_option maxRecDepth 100000 in
theorem c_X3_has (l : Launch) (D : va_G) (cI cZ cR : ClassId) (ab : Nat) (abk : Nat) (abt : Nat) (abg : Nat) (cn : Int32) (st : Int32) (kn : Int32) (sb : Int32) (kd : Nat → Int32) (tk : Nat → Int32) (gr : Nat → Int32) (zf : Int32) {res : Int32} (hg : f_X3_has cn zf = some res) : MI l yX3_has wsX3_has ({ frames := 0, cells := 0, slots := 0, locals := 0 }) D (T3 cI cZ cR) [(ab, .inr (3, [.ref abk, .ref abt, .ref abg, .int (cn), .int (st), .int (kn), .int (sb)])), (abk, .inl (cI, 10, .inl (kd))), (abt, .inl (cI, 10, .inl (tk))), (abg, .inl (cZ, 10, .inl (gr)))] [.ref ab, .int (zf)] (fun r u => res = r ∧ u = [(ab, .inr (3, [.ref abk, .ref abt, .ref abg, .int (cn), .int (st), .int (kn), .int (sb)])), (abk, .inl (cI, 10, .inl (kd))), (abt, .inl (cI, 10, .inl (tk))), (abg, .inl (cZ, 10, .inl (gr)))]) := by
  refine entI (Rn := RX3) (by decide +kernel) rfl rfl (Nat.le_of_ble_eq_true rfl) (fun p e s m args below meth c A Q hx hb hr hml hts hown hlocks hA hP hD hK hS ls hl hQ => ?_)
  have inX3 : ∀ w ∈ u_ws RX3 TX3 7, w ∈ wsX3_has := by decide +kernel
  have hl : lv_has ls 2 [(0, .ref ab), (1, .int (zf))] := hl
  rw [f_X3_has] at hg
  refine lv_iload_n hx hb dX3_has_0 rfl (lv_at hl 1 rfl) ?_
  refine lv_if_lt (tgt := 16) hx hb dX3_has_1 (by decide) (fun c1 => ?_) (fun c1 => ?_)
  · have hg := it hg c1
    refine lv_iconst (v := (0 : Int32)) hx hb dX3_has_16 (by decide) ?_
    obtain rfl := Option.some.inj hg
    exact rtz hQ hx hb hr rfl hlocks hK hP hD hS dX3_has_17 ⟨rfl, rfl⟩
  · have hg := ie hg c1
    refine lv_iload_n hx hb dX3_has_4 rfl (lv_at hl 1 rfl) ?_
    refine lv_aload_n hx hb dX3_has_5 rfl (lv_at hl 0 rfl) ?_
    refine va_get (D := D) (ci := 3) (v := .int (cn)) (C := RX3) (T := TX3) (N := 7) hx hb hts inX3 hown hK hP 0 rfl rfl 3 (by decide) (hts (.fieldLink RX3 22 "ScooterFlags$Street" "count" "I") (by decide +kernel)) (fun _ h9 => h9) rfl dX3_has_6 ?_
    refine lv_icmp_ge (tgt := 16) hx hb dX3_has_9 (by decide) (fun c2 => ?_) (fun c2 => ?_)
    · have hg := it hg c2
      refine lv_iconst (v := (0 : Int32)) hx hb dX3_has_16 (by decide) ?_
      obtain rfl := Option.some.inj hg
      exact rtz hQ hx hb hr rfl hlocks hK hP hD hS dX3_has_17 ⟨rfl, rfl⟩
    · have hg := ie hg c2
      refine lv_iconst (v := (1 : Int32)) hx hb dX3_has_12 (by decide) ?_
      refine lv_goto (tgt := 17) hx hb dX3_has_13 (by decide) ?_
      obtain rfl := Option.some.inj hg
      exact rtz hQ hx hb hr rfl hlocks hK hP hD hS dX3_has_17 ⟨rfl, rfl⟩
def f_X3_isNone (cn : Int32) : Option (Int32) :=
  if cn = 0 then (some ((1 : Int32))) else (some ((0 : Int32)))
set_option maxHeartbeats 4000000 in
set_option maxRecDepth 100000 in
theorem c_X3_isNone (l : Launch) (D : va_G) (cI cZ cR : ClassId) (ab : Nat) (abk : Nat) (abt : Nat) (abg : Nat) (cn : Int32) (st : Int32) (kn : Int32) (sb : Int32) (kd : Nat → Int32) (tk : Nat → Int32) (gr : Nat → Int32) {res : Int32} (hg : f_X3_isNone cn = some res) : MI l yX3_isNone wsX3_isNone ({ frames := 0, cells := 0, slots := 0, locals := 0 }) D (T3 cI cZ cR) [(ab, .inr (3, [.ref abk, .ref abt, .ref abg, .int (cn), .int (st), .int (kn), .int (sb)])), (abk, .inl (cI, 10, .inl (kd))), (abt, .inl (cI, 10, .inl (tk))), (abg, .inl (cZ, 10, .inl (gr)))] [.ref ab] (fun r u => res = r ∧ u = [(ab, .inr (3, [.ref abk, .ref abt, .ref abg, .int (cn), .int (st), .int (kn), .int (sb)])), (abk, .inl (cI, 10, .inl (kd))), (abt, .inl (cI, 10, .inl (tk))), (abg, .inl (cZ, 10, .inl (gr)))]) := by
  refine entI (Rn := RX3) (by decide +kernel) rfl rfl (Nat.le_of_ble_eq_true rfl) (fun p e s m args below meth c A Q hx hb hr hml hts hown hlocks hA hP hD hK hS ls hl hQ => ?_)
  have inX3 : ∀ w ∈ u_ws RX3 TX3 7, w ∈ wsX3_isNone := by decide +kernel
  have hl : lv_has ls 1 [(0, .ref ab)] := hl
  rw [f_X3_isNone] at hg
  refine lv_aload_n hx hb dX3_isNone_0 rfl (lv_at hl 0 rfl) ?_
  refine va_get (D := D) (ci := 3) (v := .int (cn)) (C := RX3) (T := TX3) (N := 7) hx hb hts inX3 hown hK hP 0 rfl rfl 3 (by decide) (hts (.fieldLink RX3 22 "ScooterFlags$Street" "count" "I") (by decide +kernel)) (fun _ h9 => h9) rfl dX3_isNone_1 ?_
  refine lv_if_ne (tgt := 11) hx hb dX3_isNone_4 (by decide) (fun c1 => ?_) (fun c1 => ?_)
  · have hg := ie hg c1
    refine lv_iconst (v := (0 : Int32)) hx hb dX3_isNone_11 (by decide) ?_
    obtain rfl := Option.some.inj hg
    exact rtz hQ hx hb hr rfl hlocks hK hP hD hS dX3_isNone_12 ⟨rfl, rfl⟩
  · have hg := it hg c1
    refine lv_iconst (v := (1 : Int32)) hx hb dX3_isNone_7 (by decide) ?_
    refine lv_goto (tgt := 12) hx hb dX3_isNone_8 (by decide) ?_
    obtain rfl := Option.some.inj hg
    exact rtz hQ hx hb hr rfl hlocks hK hP hD hS dX3_isNone_12 ⟨rfl, rfl⟩
def f_X3_dragOf (cn : Int32) (kd : Nat → Int32) (tk : Nat → Int32) (zf : Int32) : Option (Int32) :=
  if zf < 0 then (some ((0 : Int32))) else (if zf < cn then (gx zf 10 (if (kd zf.toNatClampNeg) = 1 then (gx zf 10 (some (((tk zf.toNatClampNeg) + (1 : Int32))))) else if (kd zf.toNatClampNeg) = 2 then (gx zf 10 (some (((tk zf.toNatClampNeg) / (2 : Int32))))) else (gx zf 10 (some ((tk zf.toNatClampNeg)))))) else (some ((0 : Int32))))
set_option maxHeartbeats 4000000 in
set_option maxRecDepth 100000 in
theorem c_X3_dragOf (l : Launch) (D : va_G) (cI cZ cR : ClassId) (ab : Nat) (abk : Nat) (abt : Nat) (abg : Nat) (cn : Int32) (st : Int32) (kn : Int32) (sb : Int32) (kd : Nat → Int32) (tk : Nat → Int32) (gr : Nat → Int32) (zf : Int32) {res : Int32} (hg : f_X3_dragOf cn kd tk zf = some res) : MI l yX3_dragOf wsX3_dragOf ({ frames := 0, cells := 0, slots := 0, locals := 0 }) D (T3 cI cZ cR) [(ab, .inr (3, [.ref abk, .ref abt, .ref abg, .int (cn), .int (st), .int (kn), .int (sb)])), (abk, .inl (cI, 10, .inl (kd))), (abt, .inl (cI, 10, .inl (tk))), (abg, .inl (cZ, 10, .inl (gr)))] [.ref ab, .int (zf)] (fun r u => res = r ∧ u = [(ab, .inr (3, [.ref abk, .ref abt, .ref abg, .int (cn), .int (st), .int (kn), .int (sb)])), (abk, .inl (cI, 10, .inl (kd))), (abt, .inl (cI, 10, .inl (tk))), (abg, .inl (cZ, 10, .inl (gr)))]) := by
  refine entI (Rn := RX3) (by decide +kernel) rfl rfl (Nat.le_of_ble_eq_true rfl) (fun p e s m args below meth c A Q hx hb hr hml hts hown hlocks hA hP hD hK hS ls hl hQ => ?_)
  have inX3 : ∀ w ∈ u_ws RX3 TX3 7, w ∈ wsX3_dragOf := by decide +kernel
  have hl : lv_has ls 2 [(0, .ref ab), (1, .int (zf))] := hl
  rw [f_X3_dragOf] at hg
  refine lv_iload_n hx hb dX3_dragOf_0 rfl (lv_at hl 1 rfl) ?_
  refine lv_if_lt (tgt := 12) hx hb dX3_dragOf_1 (by decide) (fun c1 => ?_) (fun c1 => ?_)
  · have hg := it hg c1
    refine lv_iconst (v := (0 : Int32)) hx hb dX3_dragOf_12 (by decide) ?_
    obtain rfl := Option.some.inj hg
    exact rti hQ hx hb hr hlocks hK hP hD hS dX3_dragOf_13 ⟨rfl, rfl⟩
  · have hg := ie hg c1
    refine lv_iload_n hx hb dX3_dragOf_4 rfl (lv_at hl 1 rfl) ?_
    refine lv_aload_n hx hb dX3_dragOf_5 rfl (lv_at hl 0 rfl) ?_
    refine va_get (D := D) (ci := 3) (v := .int (cn)) (C := RX3) (T := TX3) (N := 7) hx hb hts inX3 hown hK hP 0 rfl rfl 3 (by decide) (hts (.fieldLink RX3 22 "ScooterFlags$Street" "count" "I") (by decide +kernel)) (fun _ h9 => h9) rfl dX3_dragOf_6 ?_
    refine lv_icmp_lt (tgt := 14) hx hb dX3_dragOf_9 (by decide) (fun c2 => ?_) (fun c2 => ?_)
    · have hg := it hg c2
      refine lv_aload_n hx hb dX3_dragOf_14 rfl (lv_at hl 0 rfl) ?_
      refine va_get (D := D) (ci := 3) (v := .ref abk) (C := RX3) (T := TX3) (N := 7) hx hb hts inX3 hown hK hP 0 rfl rfl 0 (by decide) (hts (.fieldLink RX3 9 "ScooterFlags$Street" "kind" "[I") (by decide +kernel)) (fun _ h9 => h9) rfl dX3_dragOf_15 ?_
      refine lv_iload_n hx hb dX3_dragOf_18 rfl (lv_at hl 1 rfl) ?_
      obtain ⟨g3, hg⟩ := gxo hg
      refine va_iald hx hb hK hP 1 0 rfl rfl g3 dX3_dragOf_19 ?_
      refine W.eq (g2 := F0 m 20 ls [.int ((kd zf.toNatClampNeg))]) rfl ?_
      by_cases c4 : (kd zf.toNatClampNeg) = 1
      · have hg := it hg c4
        refine lv_lookup (off := 28) (tgt := 48) hx hb dX3_dragOf_20 (by decide) (by rw [c4]; rfl) (by decide) ?_
        refine lv_aload_n hx hb dX3_dragOf_48 rfl (lv_at hl 0 rfl) ?_
        refine va_get (D := D) (ci := 3) (v := .ref abt) (C := RX3) (T := TX3) (N := 7) hx hb hts inX3 hown hK hP 0 rfl rfl 1 (by decide) (hts (.fieldLink RX3 15 "ScooterFlags$Street" "taken" "[I") (by decide +kernel)) (fun _ h9 => h9) rfl dX3_dragOf_49 ?_
        refine lv_iload_n hx hb dX3_dragOf_52 rfl (lv_at hl 1 rfl) ?_
        obtain ⟨g5, hg⟩ := gxo hg
        refine va_iald hx hb hK hP 2 0 rfl rfl g5 dX3_dragOf_53 ?_
        refine W.eq (g2 := F0 m 54 ls [.int ((tk zf.toNatClampNeg))]) rfl ?_
        refine lv_iconst (v := (1 : Int32)) hx hb dX3_dragOf_54 (by decide) ?_
        refine lv_iadd hx hb dX3_dragOf_55 ?_
        obtain rfl := Option.some.inj hg
        exact rti hQ hx hb hr hlocks hK hP hD hS dX3_dragOf_56 ⟨rfl, rfl⟩
      · have hg := ie hg c4
        by_cases c6 : (kd zf.toNatClampNeg) = 2
        · have hg := it hg c6
          refine lv_lookup (off := 37) (tgt := 57) hx hb dX3_dragOf_20 (by decide) (by rw [c6]; rfl) (by decide) ?_
          refine lv_aload_n hx hb dX3_dragOf_57 rfl (lv_at hl 0 rfl) ?_
          refine va_get (D := D) (ci := 3) (v := .ref abt) (C := RX3) (T := TX3) (N := 7) hx hb hts inX3 hown hK hP 0 rfl rfl 1 (by decide) (hts (.fieldLink RX3 15 "ScooterFlags$Street" "taken" "[I") (by decide +kernel)) (fun _ h9 => h9) rfl dX3_dragOf_58 ?_
          refine lv_iload_n hx hb dX3_dragOf_61 rfl (lv_at hl 1 rfl) ?_
          obtain ⟨g7, hg⟩ := gxo hg
          refine va_iald hx hb hK hP 2 0 rfl rfl g7 dX3_dragOf_62 ?_
          refine W.eq (g2 := F0 m 63 ls [.int ((tk zf.toNatClampNeg))]) rfl ?_
          refine lv_iconst (v := (2 : Int32)) hx hb dX3_dragOf_63 (by decide) ?_
          refine lv_idiv hx hb dX3_dragOf_64 (by decide) ?_
          obtain rfl := Option.some.inj hg
          exact rti hQ hx hb hr hlocks hK hP hD hS dX3_dragOf_65 ⟨rfl, rfl⟩
        · have hg := ie hg c6
          refine lv_lookup (off := 46) (tgt := 66) hx hb dX3_dragOf_20 (by decide) (by show Op.lookupswitch.offset [(1, 28), (2, 37)] _ _ = _; rw [lv_osw (a := 1) c4 rfl, lv_osw (a := 2) c6 rfl]; rfl) (by decide) ?_
          refine lv_aload_n hx hb dX3_dragOf_66 rfl (lv_at hl 0 rfl) ?_
          refine va_get (D := D) (ci := 3) (v := .ref abt) (C := RX3) (T := TX3) (N := 7) hx hb hts inX3 hown hK hP 0 rfl rfl 1 (by decide) (hts (.fieldLink RX3 15 "ScooterFlags$Street" "taken" "[I") (by decide +kernel)) (fun _ h9 => h9) rfl dX3_dragOf_67 ?_
          refine lv_iload_n hx hb dX3_dragOf_70 rfl (lv_at hl 1 rfl) ?_
          obtain ⟨g8, hg⟩ := gxo hg
          refine va_iald hx hb hK hP 2 0 rfl rfl g8 dX3_dragOf_71 ?_
          refine W.eq (g2 := F0 m 72 ls [.int ((tk zf.toNatClampNeg))]) rfl ?_
          obtain rfl := Option.some.inj hg
          exact rti hQ hx hb hr hlocks hK hP hD hS dX3_dragOf_72 ⟨rfl, rfl⟩
    · have hg := ie hg c2
      refine lv_iconst (v := (0 : Int32)) hx hb dX3_dragOf_12 (by decide) ?_
      obtain rfl := Option.some.inj hg
      exact rti hQ hx hb hr hlocks hK hP hD hS dX3_dragOf_13 ⟨rfl, rfl⟩
def f_X3_kindOfLetter (zc : Int32) : Option (Int32) :=
  if zc = 102 then (some ((0 : Int32))) else if zc = 104 then (some ((1 : Int32))) else if zc = 119 then (some ((2 : Int32))) else (some ((-9 : Int32)))
set_option maxHeartbeats 4000000 in
set_option maxRecDepth 100000 in
theorem c_X3_kindOfLetter (l : Launch) (D : va_G) (cI cZ cR : ClassId)  (zc : Int32) {res : Int32} (hg : f_X3_kindOfLetter zc = some res) : MI l yX3_kindOfLetter wsX3_kindOfLetter ({ frames := 0, cells := 0, slots := 0, locals := 0 }) D (T3 cI cZ cR) [] [.int (zc)] (fun r u => res = r ∧ u = []) := by
  refine entI (Rn := RX3) (by decide +kernel) rfl rfl (Nat.le_of_ble_eq_true rfl) (fun p e s m args below meth c A Q hx hb hr hml hts hown hlocks hA hP hD hK hS ls hl hQ => ?_)
  have hl : lv_has ls 1 [(0, .int (zc))] := hl
  rw [f_X3_kindOfLetter] at hg
  refine lv_iload_n hx hb dX3_kindOfLetter_0 rfl (lv_at hl 0 rfl) ?_
  by_cases c1 : zc = 102
  · have hg := it hg c1
    refine lv_lookup (off := 35) (tgt := 36) hx hb dX3_kindOfLetter_1 (by decide) (by rw [c1]; rfl) (by decide) ?_
    refine lv_iconst (v := (0 : Int32)) hx hb dX3_kindOfLetter_36 (by decide) ?_
    obtain rfl := Option.some.inj hg
    exact rti hQ hx hb hr hlocks hK hP hD hS dX3_kindOfLetter_37 ⟨rfl, rfl⟩
  · have hg := ie hg c1
    by_cases c2 : zc = 104
    · have hg := it hg c2
      refine lv_lookup (off := 37) (tgt := 38) hx hb dX3_kindOfLetter_1 (by decide) (by rw [c2]; rfl) (by decide) ?_
      refine lv_iconst (v := (1 : Int32)) hx hb dX3_kindOfLetter_38 (by decide) ?_
      obtain rfl := Option.some.inj hg
      exact rti hQ hx hb hr hlocks hK hP hD hS dX3_kindOfLetter_39 ⟨rfl, rfl⟩
    · have hg := ie hg c2
      by_cases c3 : zc = 119
      · have hg := it hg c3
        refine lv_lookup (off := 39) (tgt := 40) hx hb dX3_kindOfLetter_1 (by decide) (by rw [c3]; rfl) (by decide) ?_
        refine lv_iconst (v := (2 : Int32)) hx hb dX3_kindOfLetter_40 (by decide) ?_
        obtain rfl := Option.some.inj hg
        exact rti hQ hx hb hr hlocks hK hP hD hS dX3_kindOfLetter_41 ⟨rfl, rfl⟩
      · have hg := ie hg c3
        refine lv_lookup (off := 41) (tgt := 42) hx hb dX3_kindOfLetter_1 (by decide) (by show Op.lookupswitch.offset [(102, 35), (104, 37), (119, 39)] _ _ = _; rw [lv_osw (a := 102) c1 rfl, lv_osw (a := 104) c2 rfl, lv_osw (a := 119) c3 rfl]; rfl) (by decide) ?_
        refine lv_bipush (v := (-9 : Int32)) hx hb dX3_kindOfLetter_42 (by decide) ?_
        obtain rfl := Option.some.inj hg
        exact rti hQ hx hb hr hlocks hK hP hD hS dX3_kindOfLetter_44 ⟨rfl, rfl⟩
def f_X3_readHead_L3 (le : Int32) (ce : Nat → Int32) (zi : Int32) (zn : Int32) (k15 : Int32 → Int32 → Int32 → Option (Int32 × Int32 × Int32 × Int32)) (k49 : Int32 → Int32 → Int32 → Int32 → Option (Int32 × Int32 × Int32 × Int32)) (k58 : Int32 → Int32 → Int32 → Option (Int32 × Int32 × Int32 × Int32)) : Nat → Int32 → Int32 → Int32 → Int32 → Option (Int32 × Int32 × Int32 × Int32)
  | 0, _, _, _, _ => none
  | n + 1, x4, st, kn, sb => if (4 : Int32) ≤ x4 then (k58 st kn sb) else (if x4 < zn then ((f_X1_at le ce (zi + x4)).bind (fun o3 => gx x4 4 (if o3 < (sLE x4.toNatClampNeg) then (k49 x4 st kn sb) else (gx x4 4 (if o3 ≤ (sMO x4.toNatClampNeg) then (f_X3_readHead_L3 le ce zi zn k15 k49 k58 n (x4 + (1 : Int32)) st kn sb) else (k49 x4 st kn sb)))))) else (k15 st kn sb))
def f_X3_readHead (st : Int32) (kn : Int32) (sb : Int32) (le : Int32) (ce : Nat → Int32) (zi : Int32) (zn : Int32) : Option (Int32 × Int32 × Int32 × Int32) :=
  f_X3_readHead_L3 le ce zi zn (fun (st : Int32) (kn : Int32) (sb : Int32) => some (zn, st, kn, sb)) (fun (x4 : Int32) (st : Int32) (kn : Int32) (sb : Int32) => some (x4, st, kn, sb)) (fun (st : Int32) (kn : Int32) (sb : Int32) => (f_X1_at le ce (zi + (1 : Int32))).bind (fun o9 => (f_X1_at le ce (zi + (2 : Int32))).bind (fun o11 => (f_X1_at le ce (zi + (3 : Int32))).bind (fun o13 => some ((-9 : Int32), (o9 - (48 : Int32)), (o11 - (48 : Int32)), (o13 - (48 : Int32))))))) 100 (0 : Int32) st kn sb
set_option maxHeartbeats 4000000 in
set_option maxRecDepth 100000 in
theorem c_X3_readHead (l : Launch) (D : va_G) (cI cZ cR : ClassId) (zt1 zt2 : Nat) (ab : Nat) (abk : Nat) (abt : Nat) (abg : Nat) (aw : Nat) (awc : Nat) (cn : Int32) (st : Int32) (kn : Int32) (sb : Int32) (th : Int32) (ln : Int32) (le : Int32) (kd : Nat → Int32) (tk : Nat → Int32) (gr : Nat → Int32) (ce : Nat → Int32) (zi : Int32) (zn : Int32) {res : Int32 × Int32 × Int32 × Int32} (hg : f_X3_readHead st kn sb le ce zi zn = some res) : MIz l yX3_readHead wsX3_readHead ({ frames := 1, cells := 0, slots := 0, locals := 21 }) zt1 zt2 D (T3 cI cZ cR) [(ab, .inr (3, [.ref abk, .ref abt, .ref abg, .int (cn), .int (st), .int (kn), .int (sb)])), (abk, .inl (cI, 10, .inl (kd))), (abt, .inl (cI, 10, .inl (tk))), (abg, .inl (cZ, 10, .inl (gr))), (aw, .inr (1, [.ref awc, .int (th), .int (ln), .int (le)])), (awc, .inl (cI, 60, .inl (ce)))] [.ref ab, .ref aw, .int (zi), .int (zn)] (fun r u => res.1 = r ∧ u = [(ab, .inr (3, [.ref abk, .ref abt, .ref abg, .int (cn), .int (res.2.1), .int (res.2.2.1), .int (res.2.2.2)])), (abk, .inl (cI, 10, .inl (kd))), (abt, .inl (cI, 10, .inl (tk))), (abg, .inl (cZ, 10, .inl (gr))), (aw, .inr (1, [.ref awc, .int (th), .int (ln), .int (le)])), (awc, .inl (cI, 60, .inl (ce)))]) := by
  refine entIz (Rn := RX3) (by decide +kernel) rfl rfl (Nat.le_of_ble_eq_true rfl) (fun p e s m args below meth c A Q hx hb hr hml hts hown hlocks hA hP hD hK hS hz ls hl hQ => ?_)
  have inX3 : ∀ w ∈ u_ws RX3 TX3 7, w ∈ wsX3_readHead := by decide +kernel
  have lp_3 : ∀ (k15 : Int32 → Int32 → Int32 → Option (Int32 × Int32 × Int32 × Int32)) (k49 : Int32 → Int32 → Int32 → Int32 → Option (Int32 × Int32 × Int32 × Int32)) (k58 : Int32 → Int32 → Int32 → Option (Int32 × Int32 × Int32 × Int32)) (hk15 : ∀ (st : Int32) (kn : Int32) (sb : Int32), k15 st kn sb = some res → ∀ (H : Heap) (locs : List Loc), va_P D vwCl [(ab, .inr (3, [.ref abk, .ref abt, .ref abg, .int (cn), .int (st), .int (kn), .int (sb)])), (abk, .inl (cI, 10, .inl (kd))), (abt, .inl (cI, 10, .inl (tk))), (abg, .inl (cZ, 10, .inl (gr))), (aw, .inr (1, [.ref awc, .int (th), .int (ln), .int (le)])), (awc, .inl (cI, 60, .inl (ce)))] H → va_D A [(ab, .inr (3, [.ref abk, .ref abt, .ref abg, .int (cn), .int (st), .int (kn), .int (sb)])), (abk, .inl (cI, 10, .inl (kd))), (abt, .inl (cI, 10, .inl (tk))), (abg, .inl (cZ, 10, .inl (gr))), (aw, .inr (1, [.ref awc, .int (th), .int (ln), .int (le)])), (awc, .inl (cI, 60, .inl (ce)))] → va_S A s.heap H locs → ∀ (ls : Array Slot), lv_has ls 6 [(3, .int (zn))] → W p l e ({ frames := 1, cells := 0, slots := 0, locals := 21 }) s m args below meth c H locs 0 0 Q (F0 m 15 ls [])) (hk49 : ∀ (x4 : Int32) (st : Int32) (kn : Int32) (sb : Int32), k49 x4 st kn sb = some res → ∀ (H : Heap) (locs : List Loc), va_P D vwCl [(ab, .inr (3, [.ref abk, .ref abt, .ref abg, .int (cn), .int (st), .int (kn), .int (sb)])), (abk, .inl (cI, 10, .inl (kd))), (abt, .inl (cI, 10, .inl (tk))), (abg, .inl (cZ, 10, .inl (gr))), (aw, .inr (1, [.ref awc, .int (th), .int (ln), .int (le)])), (awc, .inl (cI, 60, .inl (ce)))] H → va_D A [(ab, .inr (3, [.ref abk, .ref abt, .ref abg, .int (cn), .int (st), .int (kn), .int (sb)])), (abk, .inl (cI, 10, .inl (kd))), (abt, .inl (cI, 10, .inl (tk))), (abg, .inl (cZ, 10, .inl (gr))), (aw, .inr (1, [.ref awc, .int (th), .int (ln), .int (le)])), (awc, .inl (cI, 60, .inl (ce)))] → va_S A s.heap H locs → ∀ (ls : Array Slot), lv_has ls 6 [(4, .int (x4))] → W p l e ({ frames := 1, cells := 0, slots := 0, locals := 21 }) s m args below meth c H locs 0 0 Q (F0 m 49 ls [])) (hk58 : ∀ (st : Int32) (kn : Int32) (sb : Int32), k58 st kn sb = some res → ∀ (H : Heap) (locs : List Loc), va_P D vwCl [(ab, .inr (3, [.ref abk, .ref abt, .ref abg, .int (cn), .int (st), .int (kn), .int (sb)])), (abk, .inl (cI, 10, .inl (kd))), (abt, .inl (cI, 10, .inl (tk))), (abg, .inl (cZ, 10, .inl (gr))), (aw, .inr (1, [.ref awc, .int (th), .int (ln), .int (le)])), (awc, .inl (cI, 60, .inl (ce)))] H → va_D A [(ab, .inr (3, [.ref abk, .ref abt, .ref abg, .int (cn), .int (st), .int (kn), .int (sb)])), (abk, .inl (cI, 10, .inl (kd))), (abt, .inl (cI, 10, .inl (tk))), (abg, .inl (cZ, 10, .inl (gr))), (aw, .inr (1, [.ref awc, .int (th), .int (ln), .int (le)])), (awc, .inl (cI, 60, .inl (ce)))] → va_S A s.heap H locs → ∀ (ls : Array Slot), lv_has ls 6 [(0, .ref ab), (1, .ref aw), (2, .int (zi))] → W p l e ({ frames := 1, cells := 0, slots := 0, locals := 21 }) s m args below meth c H locs 0 0 Q (F0 m 58 ls [])) (n : Nat) (x4 : Int32) (st : Int32) (kn : Int32) (sb : Int32), f_X3_readHead_L3 le ce zi zn k15 k49 k58 n x4 st kn sb = some res → ∀ (H : Heap) (locs : List Loc), va_P D vwCl [(ab, .inr (3, [.ref abk, .ref abt, .ref abg, .int (cn), .int (st), .int (kn), .int (sb)])), (abk, .inl (cI, 10, .inl (kd))), (abt, .inl (cI, 10, .inl (tk))), (abg, .inl (cZ, 10, .inl (gr))), (aw, .inr (1, [.ref awc, .int (th), .int (ln), .int (le)])), (awc, .inl (cI, 60, .inl (ce)))] H → va_D A [(ab, .inr (3, [.ref abk, .ref abt, .ref abg, .int (cn), .int (st), .int (kn), .int (sb)])), (abk, .inl (cI, 10, .inl (kd))), (abt, .inl (cI, 10, .inl (tk))), (abg, .inl (cZ, 10, .inl (gr))), (aw, .inr (1, [.ref awc, .int (th), .int (ln), .int (le)])), (awc, .inl (cI, 60, .inl (ce)))] → va_S A s.heap H locs → ∀ (ls : Array Slot), lv_has ls 6 [(0, .ref ab), (1, .ref aw), (2, .int (zi)), (3, .int (zn)), (4, .int (x4))] → W p l e ({ frames := 1, cells := 0, slots := 0, locals := 21 }) s m args below meth c H locs 0 0 Q (F0 m 3 ls []) := by
    intro k15 k49 k58 hk15 hk49 hk58 n
    induction n with
    | zero => intro x4 st kn sb hg; rw [f_X3_readHead_L3] at hg; cases hg
    | succ n ih =>
      intro x4 st kn sb hg H locs hP hD hS ls hl
      rw [f_X3_readHead_L3] at hg
      refine lv_iload hx hb dX3_readHead_3 (lv_at hl 4 rfl) ?_
      refine lv_iconst (v := (4 : Int32)) hx hb dX3_readHead_5 (by decide) ?_
      refine lv_icmp_ge (tgt := 58) hx hb dX3_readHead_6 (by decide) (fun c1 => ?_) (fun c1 => ?_)
      · have hg := it hg c1
        exact hk58 st kn sb hg _ _ hP hD hS _ (lv_sub hl [0, 1, 2] rfl)
      · have hg := ie hg c1
        refine lv_iload hx hb dX3_readHead_9 (lv_at hl 4 rfl) ?_
        refine lv_iload_n hx hb dX3_readHead_11 rfl (lv_at hl 3 rfl) ?_
        refine lv_icmp_lt (tgt := 17) hx hb dX3_readHead_12 (by decide) (fun c2 => ?_) (fun c2 => ?_)
        · have hg := it hg c2
          refine lv_aload_n hx hb dX3_readHead_17 rfl (lv_at hl 1 rfl) ?_
          refine lv_iload_n hx hb dX3_readHead_18 rfl (lv_at hl 2 rfl) ?_
          refine lv_iload hx hb dX3_readHead_19 (lv_at hl 4 rfl) ?_
          refine lv_iadd hx hb dX3_readHead_21 ?_
          obtain ⟨o3, h4, hg⟩ := bd hg
          refine xcVi (As := [.int ((zi + x4))]) (rest := []) (wc := [(aw, .inr (1, [.ref awc, .int (th), .int (ln), .int (le)])), (awc, .inl (cI, 60, .inl (ce)))]) (wr := [(ab, .inr (3, [.ref abk, .ref abt, .ref abg, .int (cn), .int (st), .int (kn), .int (sb)])), (abk, .inl (cI, 10, .inl (kd))), (abt, .inl (cI, 10, .inl (tk))), (abg, .inl (cZ, 10, .inl (gr)))]) ⟨hx, hb, hml, hown, hts⟩ (c_X1_at l D cI cZ cR aw awc th ln le ce (zi + x4) h4) (cwV 1 hts gX3_readHead_X1_at rfl rfl rfl (by decide +kernel) ⟨Nat.le_of_ble_eq_true rfl, Nat.le_of_ble_eq_true rfl⟩) hK hP hD hS hA [4, 5] [0, 1, 2, 3] rfl rfl (by decide) (by decide) (by decide) (va_recv hK hP (ci := 1) (q0 := 4) rfl rfl) rfl rfl hl.1 (lv_room (Nat.le_of_ble_eq_true rfl)) dX3_readHead_22 ⟨Nat.le_of_ble_eq_true rfl, Nat.le_of_ble_eq_true rfl⟩ (fun r u H locs hu hP hD hS => ?_)
          obtain ⟨rfl, rfl⟩ := hu
          have hP : va_P D vwCl [(ab, .inr (3, [.ref abk, .ref abt, .ref abg, .int (cn), .int (st), .int (kn), .int (sb)])), (abk, .inl (cI, 10, .inl (kd))), (abt, .inl (cI, 10, .inl (tk))), (abg, .inl (cZ, 10, .inl (gr))), (aw, .inr (1, [.ref awc, .int (th), .int (ln), .int (le)])), (awc, .inl (cI, 60, .inl (ce)))] H := hP.sub [0, 1, 2, 3, 4, 5] rfl
          have hD : va_D A [(ab, .inr (3, [.ref abk, .ref abt, .ref abg, .int (cn), .int (st), .int (kn), .int (sb)])), (abk, .inl (cI, 10, .inl (kd))), (abt, .inl (cI, 10, .inl (tk))), (abg, .inl (cZ, 10, .inl (gr))), (aw, .inr (1, [.ref awc, .int (th), .int (ln), .int (le)])), (awc, .inl (cI, 60, .inl (ce)))] := hD.sub [0, 1, 2, 3, 4, 5] (by decide) rfl
          refine lv_istore (lv' := [(5, .int (o3)), (0, .ref ab), (1, .ref aw), (2, .int (zi)), (3, .int (zn)), (4, .int (x4))]) hx hb dX3_readHead_25 hl (by decide) rfl (fun ls hl => ?_)
          refine lv_iload hx hb dX3_readHead_27 (lv_at hl 0 rfl) ?_
          refine va_gets hx hb hz.1 hS hown (hts (.fieldLink RX3 55 "ScooterFlags$Street" "LEAST_HEAD_CODES" "[I") (by decide +kernel)) (fun _ h9 => h9) dX3_readHead_29 ?_
          refine lv_iload hx hb dX3_readHead_32 (lv_at hl 5 rfl) ?_
          obtain ⟨g5, hg⟩ := gxo hg
          refine va_ti hx hb hz.2.1 hS g5 (v := .int ((sLE x4.toNatClampNeg))) rfl dX3_readHead_34 ?_
          refine lv_icmp_lt (tgt := 49) hx hb dX3_readHead_35 (by decide) (fun c6 => ?_) (fun c6 => ?_)
          · have hg := it hg c6
            exact hk49 x4 st kn sb hg _ _ hP hD hS _ (lv_sub hl [5] rfl)
          · have hg := ie hg c6
            refine lv_iload hx hb dX3_readHead_38 (lv_at hl 0 rfl) ?_
            refine va_gets hx hb hz.2.2.1 hS hown (hts (.fieldLink RX3 58 "ScooterFlags$Street" "MOST_HEAD_CODES" "[I") (by decide +kernel)) (fun _ h9 => h9) dX3_readHead_40 ?_
            refine lv_iload hx hb dX3_readHead_43 (lv_at hl 5 rfl) ?_
            obtain ⟨g7, hg⟩ := gxo hg
            refine va_ti hx hb hz.2.2.2 hS g7 (v := .int ((sMO x4.toNatClampNeg))) rfl dX3_readHead_45 ?_
            refine lv_icmp_le (tgt := 52) hx hb dX3_readHead_46 (by decide) (fun c8 => ?_) (fun c8 => ?_)
            · have hg := it hg c8
              refine lv_iinc (v := (x4 + (1 : Int32))) (lv' := [(4, .int ((x4 + (1 : Int32)))), (5, .int (o3)), (0, .ref ab), (1, .ref aw), (2, .int (zi)), (3, .int (zn))]) hx hb dX3_readHead_52 hl (k := 5) rfl rfl (by decide) rfl (fun ls hl => ?_)
              refine lv_goto (tgt := 3) hx hb dX3_readHead_55 (by decide) ?_
              exact ih (x4 + (1 : Int32)) st kn sb hg _ _ hP hD hS _ (lv_sub hl [2, 3, 4, 5, 0] rfl)
            · have hg := ie hg c8
              exact hk49 x4 st kn sb hg _ _ hP hD hS _ (lv_sub hl [5] rfl)
        · have hg := ie hg c2
          exact hk15 st kn sb hg _ _ hP hD hS _ (lv_sub hl [3] rfl)
  have hl : lv_has ls 6 [(0, .ref ab), (1, .ref aw), (2, .int (zi)), (3, .int (zn))] := hl
  rw [f_X3_readHead] at hg
  refine lv_iconst (v := (0 : Int32)) hx hb dX3_readHead_0 (by decide) ?_
  refine lv_istore (lv' := [(4, .int ((0 : Int32))), (0, .ref ab), (1, .ref aw), (2, .int (zi)), (3, .int (zn))]) hx hb dX3_readHead_1 hl (by decide) rfl (fun ls hl => ?_)
  refine lp_3 _ _ _ ?_ ?_ ?_ 100 (0 : Int32) st kn sb hg _ _ hP hD hS _ (lv_sub hl [1, 2, 3, 4, 0] rfl)
  · intro st kn sb hg H locs hP hD hS ls hl
    refine lv_iload_n hx hb dX3_readHead_15 rfl (lv_at hl 0 rfl) ?_
    obtain rfl := Option.some.inj hg
    exact rti hQ hx hb hr hlocks hK hP hD hS dX3_readHead_16 ⟨rfl, rfl⟩
  · intro x4 st kn sb hg H locs hP hD hS ls hl
    refine lv_iload hx hb dX3_readHead_49 (lv_at hl 0 rfl) ?_
    obtain rfl := Option.some.inj hg
    exact rti hQ hx hb hr hlocks hK hP hD hS dX3_readHead_51 ⟨rfl, rfl⟩
  · intro st kn sb hg H locs hP hD hS ls hl
    refine lv_aload_n hx hb dX3_readHead_58 rfl (lv_at hl 0 rfl) ?_
    refine lv_aload_n hx hb dX3_readHead_59 rfl (lv_at hl 1 rfl) ?_
    refine lv_iload_n hx hb dX3_readHead_60 rfl (lv_at hl 2 rfl) ?_
    refine lv_iconst (v := (1 : Int32)) hx hb dX3_readHead_61 (by decide) ?_
    refine lv_iadd hx hb dX3_readHead_62 ?_
    obtain ⟨o9, h10, hg⟩ := bd hg
    refine xcVi (As := [.int ((zi + (1 : Int32)))]) (rest := [.ref ab]) (wc := [(aw, .inr (1, [.ref awc, .int (th), .int (ln), .int (le)])), (awc, .inl (cI, 60, .inl (ce)))]) (wr := [(ab, .inr (3, [.ref abk, .ref abt, .ref abg, .int (cn), .int (st), .int (kn), .int (sb)])), (abk, .inl (cI, 10, .inl (kd))), (abt, .inl (cI, 10, .inl (tk))), (abg, .inl (cZ, 10, .inl (gr)))]) ⟨hx, hb, hml, hown, hts⟩ (c_X1_at l D cI cZ cR aw awc th ln le ce (zi + (1 : Int32)) h10) (cwV 1 hts gX3_readHead_X1_at rfl rfl rfl (by decide +kernel) ⟨Nat.le_of_ble_eq_true rfl, Nat.le_of_ble_eq_true rfl⟩) hK hP hD hS hA [4, 5] [0, 1, 2, 3] rfl rfl (by decide) (by decide) (by decide) (va_recv hK hP (ci := 1) (q0 := 4) rfl rfl) rfl rfl hl.1 (lv_room (Nat.le_of_ble_eq_true rfl)) dX3_readHead_63 ⟨Nat.le_of_ble_eq_true rfl, Nat.le_of_ble_eq_true rfl⟩ (fun r u H locs hu hP hD hS => ?_)
    obtain ⟨rfl, rfl⟩ := hu
    have hP : va_P D vwCl [(ab, .inr (3, [.ref abk, .ref abt, .ref abg, .int (cn), .int (st), .int (kn), .int (sb)])), (abk, .inl (cI, 10, .inl (kd))), (abt, .inl (cI, 10, .inl (tk))), (abg, .inl (cZ, 10, .inl (gr))), (aw, .inr (1, [.ref awc, .int (th), .int (ln), .int (le)])), (awc, .inl (cI, 60, .inl (ce)))] H := hP.sub [0, 1, 2, 3, 4, 5] rfl
    have hD : va_D A [(ab, .inr (3, [.ref abk, .ref abt, .ref abg, .int (cn), .int (st), .int (kn), .int (sb)])), (abk, .inl (cI, 10, .inl (kd))), (abt, .inl (cI, 10, .inl (tk))), (abg, .inl (cZ, 10, .inl (gr))), (aw, .inr (1, [.ref awc, .int (th), .int (ln), .int (le)])), (awc, .inl (cI, 60, .inl (ce)))] := hD.sub [0, 1, 2, 3, 4, 5] (by decide) rfl
    refine lv_bipush (v := (48 : Int32)) hx hb dX3_readHead_66 (by decide) ?_
    refine lv_isub hx hb dX3_readHead_68 ?_
    refine va_put (D := D) (ci := 3) (v := .int ((o9 - (48 : Int32)))) (ty := .int) (C := RX3) (T := TX3) (N := 7) hx hb hts inX3 tyX3 tyX3_ok nmX3 hown hK hP hD hS 0 rfl rfl 4 (by decide) (hts (.fieldLink RX3 26 "ScooterFlags$Street" "strength" "I") (by decide +kernel)) (fun _ h9 => h9) rfl (by decide +kernel) rfl rfl (Nat.le_of_ble_eq_true rfl) dX3_readHead_69 (fun H locs hP hD hS => ?_)
    have hP : va_P D vwCl [(ab, .inr (3, [.ref abk, .ref abt, .ref abg, .int (cn), .int ((o9 - (48 : Int32))), .int (kn), .int (sb)])), (abk, .inl (cI, 10, .inl (kd))), (abt, .inl (cI, 10, .inl (tk))), (abg, .inl (cZ, 10, .inl (gr))), (aw, .inr (1, [.ref awc, .int (th), .int (ln), .int (le)])), (awc, .inl (cI, 60, .inl (ce)))] H := hP
    have hD : va_D A [(ab, .inr (3, [.ref abk, .ref abt, .ref abg, .int (cn), .int ((o9 - (48 : Int32))), .int (kn), .int (sb)])), (abk, .inl (cI, 10, .inl (kd))), (abt, .inl (cI, 10, .inl (tk))), (abg, .inl (cZ, 10, .inl (gr))), (aw, .inr (1, [.ref awc, .int (th), .int (ln), .int (le)])), (awc, .inl (cI, 60, .inl (ce)))] := hD
    refine lv_aload_n hx hb dX3_readHead_72 rfl (lv_at hl 0 rfl) ?_
    refine lv_aload_n hx hb dX3_readHead_73 rfl (lv_at hl 1 rfl) ?_
    refine lv_iload_n hx hb dX3_readHead_74 rfl (lv_at hl 2 rfl) ?_
    refine lv_iconst (v := (2 : Int32)) hx hb dX3_readHead_75 (by decide) ?_
    refine lv_iadd hx hb dX3_readHead_76 ?_
    obtain ⟨o11, h12, hg⟩ := bd hg
    refine xcVi (As := [.int ((zi + (2 : Int32)))]) (rest := [.ref ab]) (wc := [(aw, .inr (1, [.ref awc, .int (th), .int (ln), .int (le)])), (awc, .inl (cI, 60, .inl (ce)))]) (wr := [(ab, .inr (3, [.ref abk, .ref abt, .ref abg, .int (cn), .int ((o9 - (48 : Int32))), .int (kn), .int (sb)])), (abk, .inl (cI, 10, .inl (kd))), (abt, .inl (cI, 10, .inl (tk))), (abg, .inl (cZ, 10, .inl (gr)))]) ⟨hx, hb, hml, hown, hts⟩ (c_X1_at l D cI cZ cR aw awc th ln le ce (zi + (2 : Int32)) h12) (cwV 1 hts gX3_readHead_X1_at rfl rfl rfl (by decide +kernel) ⟨Nat.le_of_ble_eq_true rfl, Nat.le_of_ble_eq_true rfl⟩) hK hP hD hS hA [4, 5] [0, 1, 2, 3] rfl rfl (by decide) (by decide) (by decide) (va_recv hK hP (ci := 1) (q0 := 4) rfl rfl) rfl rfl hl.1 (lv_room (Nat.le_of_ble_eq_true rfl)) dX3_readHead_77 ⟨Nat.le_of_ble_eq_true rfl, Nat.le_of_ble_eq_true rfl⟩ (fun r u H locs hu hP hD hS => ?_)
    obtain ⟨rfl, rfl⟩ := hu
    have hP : va_P D vwCl [(ab, .inr (3, [.ref abk, .ref abt, .ref abg, .int (cn), .int ((o9 - (48 : Int32))), .int (kn), .int (sb)])), (abk, .inl (cI, 10, .inl (kd))), (abt, .inl (cI, 10, .inl (tk))), (abg, .inl (cZ, 10, .inl (gr))), (aw, .inr (1, [.ref awc, .int (th), .int (ln), .int (le)])), (awc, .inl (cI, 60, .inl (ce)))] H := hP.sub [0, 1, 2, 3, 4, 5] rfl
    have hD : va_D A [(ab, .inr (3, [.ref abk, .ref abt, .ref abg, .int (cn), .int ((o9 - (48 : Int32))), .int (kn), .int (sb)])), (abk, .inl (cI, 10, .inl (kd))), (abt, .inl (cI, 10, .inl (tk))), (abg, .inl (cZ, 10, .inl (gr))), (aw, .inr (1, [.ref awc, .int (th), .int (ln), .int (le)])), (awc, .inl (cI, 60, .inl (ce)))] := hD.sub [0, 1, 2, 3, 4, 5] (by decide) rfl
    refine lv_bipush (v := (48 : Int32)) hx hb dX3_readHead_80 (by decide) ?_
    refine lv_isub hx hb dX3_readHead_82 ?_
    refine va_put (D := D) (ci := 3) (v := .int ((o11 - (48 : Int32)))) (ty := .int) (C := RX3) (T := TX3) (N := 7) hx hb hts inX3 tyX3 tyX3_ok nmX3 hown hK hP hD hS 0 rfl rfl 5 (by decide) (hts (.fieldLink RX3 29 "ScooterFlags$Street" "kneeBears" "I") (by decide +kernel)) (fun _ h9 => h9) rfl (by decide +kernel) rfl rfl (Nat.le_of_ble_eq_true rfl) dX3_readHead_83 (fun H locs hP hD hS => ?_)
    have hP : va_P D vwCl [(ab, .inr (3, [.ref abk, .ref abt, .ref abg, .int (cn), .int ((o9 - (48 : Int32))), .int ((o11 - (48 : Int32))), .int (sb)])), (abk, .inl (cI, 10, .inl (kd))), (abt, .inl (cI, 10, .inl (tk))), (abg, .inl (cZ, 10, .inl (gr))), (aw, .inr (1, [.ref awc, .int (th), .int (ln), .int (le)])), (awc, .inl (cI, 60, .inl (ce)))] H := hP
    have hD : va_D A [(ab, .inr (3, [.ref abk, .ref abt, .ref abg, .int (cn), .int ((o9 - (48 : Int32))), .int ((o11 - (48 : Int32))), .int (sb)])), (abk, .inl (cI, 10, .inl (kd))), (abt, .inl (cI, 10, .inl (tk))), (abg, .inl (cZ, 10, .inl (gr))), (aw, .inr (1, [.ref awc, .int (th), .int (ln), .int (le)])), (awc, .inl (cI, 60, .inl (ce)))] := hD
    refine lv_aload_n hx hb dX3_readHead_86 rfl (lv_at hl 0 rfl) ?_
    refine lv_aload_n hx hb dX3_readHead_87 rfl (lv_at hl 1 rfl) ?_
    refine lv_iload_n hx hb dX3_readHead_88 rfl (lv_at hl 2 rfl) ?_
    refine lv_iconst (v := (3 : Int32)) hx hb dX3_readHead_89 (by decide) ?_
    refine lv_iadd hx hb dX3_readHead_90 ?_
    obtain ⟨o13, h14, hg⟩ := bd hg
    refine xcVi (As := [.int ((zi + (3 : Int32)))]) (rest := [.ref ab]) (wc := [(aw, .inr (1, [.ref awc, .int (th), .int (ln), .int (le)])), (awc, .inl (cI, 60, .inl (ce)))]) (wr := [(ab, .inr (3, [.ref abk, .ref abt, .ref abg, .int (cn), .int ((o9 - (48 : Int32))), .int ((o11 - (48 : Int32))), .int (sb)])), (abk, .inl (cI, 10, .inl (kd))), (abt, .inl (cI, 10, .inl (tk))), (abg, .inl (cZ, 10, .inl (gr)))]) ⟨hx, hb, hml, hown, hts⟩ (c_X1_at l D cI cZ cR aw awc th ln le ce (zi + (3 : Int32)) h14) (cwV 1 hts gX3_readHead_X1_at rfl rfl rfl (by decide +kernel) ⟨Nat.le_of_ble_eq_true rfl, Nat.le_of_ble_eq_true rfl⟩) hK hP hD hS hA [4, 5] [0, 1, 2, 3] rfl rfl (by decide) (by decide) (by decide) (va_recv hK hP (ci := 1) (q0 := 4) rfl rfl) rfl rfl hl.1 (lv_room (Nat.le_of_ble_eq_true rfl)) dX3_readHead_91 ⟨Nat.le_of_ble_eq_true rfl, Nat.le_of_ble_eq_true rfl⟩ (fun r u H locs hu hP hD hS => ?_)
    obtain ⟨rfl, rfl⟩ := hu
    have hP : va_P D vwCl [(ab, .inr (3, [.ref abk, .ref abt, .ref abg, .int (cn), .int ((o9 - (48 : Int32))), .int ((o11 - (48 : Int32))), .int (sb)])), (abk, .inl (cI, 10, .inl (kd))), (abt, .inl (cI, 10, .inl (tk))), (abg, .inl (cZ, 10, .inl (gr))), (aw, .inr (1, [.ref awc, .int (th), .int (ln), .int (le)])), (awc, .inl (cI, 60, .inl (ce)))] H := hP.sub [0, 1, 2, 3, 4, 5] rfl
    have hD : va_D A [(ab, .inr (3, [.ref abk, .ref abt, .ref abg, .int (cn), .int ((o9 - (48 : Int32))), .int ((o11 - (48 : Int32))), .int (sb)])), (abk, .inl (cI, 10, .inl (kd))), (abt, .inl (cI, 10, .inl (tk))), (abg, .inl (cZ, 10, .inl (gr))), (aw, .inr (1, [.ref awc, .int (th), .int (ln), .int (le)])), (awc, .inl (cI, 60, .inl (ce)))] := hD.sub [0, 1, 2, 3, 4, 5] (by decide) rfl
    refine lv_bipush (v := (48 : Int32)) hx hb dX3_readHead_94 (by decide) ?_
    refine lv_isub hx hb dX3_readHead_96 ?_
    refine va_put (D := D) (ci := 3) (v := .int ((o13 - (48 : Int32)))) (ty := .int) (C := RX3) (T := TX3) (N := 7) hx hb hts inX3 tyX3 tyX3_ok nmX3 hown hK hP hD hS 0 rfl rfl 6 (by decide) (hts (.fieldLink RX3 32 "ScooterFlags$Street" "soleBears" "I") (by decide +kernel)) (fun _ h9 => h9) rfl (by decide +kernel) rfl rfl (Nat.le_of_ble_eq_true rfl) dX3_readHead_97 (fun H locs hP hD hS => ?_)
    have hP : va_P D vwCl [(ab, .inr (3, [.ref abk, .ref abt, .ref abg, .int (cn), .int ((o9 - (48 : Int32))), .int ((o11 - (48 : Int32))), .int ((o13 - (48 : Int32)))])), (abk, .inl (cI, 10, .inl (kd))), (abt, .inl (cI, 10, .inl (tk))), (abg, .inl (cZ, 10, .inl (gr))), (aw, .inr (1, [.ref awc, .int (th), .int (ln), .int (le)])), (awc, .inl (cI, 60, .inl (ce)))] H := hP
    have hD : va_D A [(ab, .inr (3, [.ref abk, .ref abt, .ref abg, .int (cn), .int ((o9 - (48 : Int32))), .int ((o11 - (48 : Int32))), .int ((o13 - (48 : Int32)))])), (abk, .inl (cI, 10, .inl (kd))), (abt, .inl (cI, 10, .inl (tk))), (abg, .inl (cZ, 10, .inl (gr))), (aw, .inr (1, [.ref awc, .int (th), .int (ln), .int (le)])), (awc, .inl (cI, 60, .inl (ce)))] := hD
    refine lv_bipush (v := (-9 : Int32)) hx hb dX3_readHead_100 (by decide) ?_
    obtain rfl := Option.some.inj hg
    exact rti hQ hx hb hr hlocks hK hP hD hS dX3_readHead_102 ⟨rfl, rfl⟩
def f_X3_readFlag (cn : Int32) (le : Int32) (kd : Nat → Int32) (tk : Nat → Int32) (gr : Nat → Int32) (ce : Nat → Int32) (zi : Int32) (zn : Int32) (zp : Int32) : Option (Int32 × Int32 × (Nat → Int32) × (Nat → Int32) × (Nat → Int32)) :=
  (f_X1_at le ce (zi + zp)).bind (fun o1 => (f_X3_kindOfLetter o1).bind (fun o3 => if o3 = (-9 : Int32) then (some (zp, cn, kd, tk, gr)) else (if cn < (10 : Int32) then (if (zp + (1 : Int32)) < zn then ((f_X1_at le ce ((zi + zp) + (1 : Int32))).bind (fun o8 => if o8 < (48 : Int32) then (some ((zp + (1 : Int32)), cn, kd, tk, gr)) else (if o8 ≤ (52 : Int32) then (gx cn 10 (gx cn 10 (gx cn 10 (some ((-9 : Int32), (cn + (1 : Int32)), (upd kd cn.toNatClampNeg o3), (upd tk cn.toNatClampNeg (o8 - (48 : Int32))), (upd gr cn.toNatClampNeg (0 : Int32))))))) else (some ((zp + (1 : Int32)), cn, kd, tk, gr))))) else (some (zn, cn, kd, tk, gr))) else (some (zp, cn, kd, tk, gr)))))
set_option maxHeartbeats 4000000 in
set_option maxRecDepth 100000 in
theorem c_X3_readFlag (l : Launch) (D : va_G) (cI cZ cR : ClassId) (ab : Nat) (abk : Nat) (abt : Nat) (abg : Nat) (aw : Nat) (awc : Nat) (cn : Int32) (st : Int32) (kn : Int32) (sb : Int32) (th : Int32) (ln : Int32) (le : Int32) (kd : Nat → Int32) (tk : Nat → Int32) (gr : Nat → Int32) (ce : Nat → Int32) (zi : Int32) (zn : Int32) (zp : Int32) {res : Int32 × Int32 × (Nat → Int32) × (Nat → Int32) × (Nat → Int32)} (hg : f_X3_readFlag cn le kd tk gr ce zi zn zp = some res) : MI l yX3_readFlag wsX3_readFlag ({ frames := 1, cells := 0, slots := 0, locals := 21 }) D (T3 cI cZ cR) [(ab, .inr (3, [.ref abk, .ref abt, .ref abg, .int (cn), .int (st), .int (kn), .int (sb)])), (abk, .inl (cI, 10, .inl (kd))), (abt, .inl (cI, 10, .inl (tk))), (abg, .inl (cZ, 10, .inl (gr))), (aw, .inr (1, [.ref awc, .int (th), .int (ln), .int (le)])), (awc, .inl (cI, 60, .inl (ce)))] [.ref ab, .ref aw, .int (zi), .int (zn), .int (zp)] (fun r u => res.1 = r ∧ u = [(ab, .inr (3, [.ref abk, .ref abt, .ref abg, .int (res.2.1), .int (st), .int (kn), .int (sb)])), (abk, .inl (cI, 10, .inl (res.2.2.1))), (abt, .inl (cI, 10, .inl (res.2.2.2.1))), (abg, .inl (cZ, 10, .inl (res.2.2.2.2))), (aw, .inr (1, [.ref awc, .int (th), .int (ln), .int (le)])), (awc, .inl (cI, 60, .inl (ce)))]) := by
  refine entI (Rn := RX3) (by decide +kernel) rfl rfl (Nat.le_of_ble_eq_true rfl) (fun p e s m args below meth c A Q hx hb hr hml hts hown hlocks hA hP hD hK hS ls hl hQ => ?_)
  have inX3 : ∀ w ∈ u_ws RX3 TX3 7, w ∈ wsX3_readFlag := by decide +kernel
  have hl : lv_has ls 7 [(0, .ref ab), (1, .ref aw), (2, .int (zi)), (3, .int (zn)), (4, .int (zp))] := hl
  rw [f_X3_readFlag] at hg
  refine lv_aload_n hx hb dX3_readFlag_0 rfl (lv_at hl 1 rfl) ?_
  refine lv_iload_n hx hb dX3_readFlag_1 rfl (lv_at hl 2 rfl) ?_
  refine lv_iload hx hb dX3_readFlag_2 (lv_at hl 4 rfl) ?_
  refine lv_iadd hx hb dX3_readFlag_4 ?_
  obtain ⟨o1, h2, hg⟩ := bd hg
  refine xcVi (As := [.int ((zi + zp))]) (rest := []) (wc := [(aw, .inr (1, [.ref awc, .int (th), .int (ln), .int (le)])), (awc, .inl (cI, 60, .inl (ce)))]) (wr := [(ab, .inr (3, [.ref abk, .ref abt, .ref abg, .int (cn), .int (st), .int (kn), .int (sb)])), (abk, .inl (cI, 10, .inl (kd))), (abt, .inl (cI, 10, .inl (tk))), (abg, .inl (cZ, 10, .inl (gr)))]) ⟨hx, hb, hml, hown, hts⟩ (c_X1_at l D cI cZ cR aw awc th ln le ce (zi + zp) h2) (cwV 1 hts gX3_readFlag_X1_at rfl rfl rfl (by decide +kernel) ⟨Nat.le_of_ble_eq_true rfl, Nat.le_of_ble_eq_true rfl⟩) hK hP hD hS hA [4, 5] [0, 1, 2, 3] rfl rfl (by decide) (by decide) (by decide) (va_recv hK hP (ci := 1) (q0 := 4) rfl rfl) rfl rfl hl.1 (lv_room (Nat.le_of_ble_eq_true rfl)) dX3_readFlag_5 ⟨Nat.le_of_ble_eq_true rfl, Nat.le_of_ble_eq_true rfl⟩ (fun r u H locs hu hP hD hS => ?_)
  obtain ⟨rfl, rfl⟩ := hu
  have hP : va_P D vwCl [(ab, .inr (3, [.ref abk, .ref abt, .ref abg, .int (cn), .int (st), .int (kn), .int (sb)])), (abk, .inl (cI, 10, .inl (kd))), (abt, .inl (cI, 10, .inl (tk))), (abg, .inl (cZ, 10, .inl (gr))), (aw, .inr (1, [.ref awc, .int (th), .int (ln), .int (le)])), (awc, .inl (cI, 60, .inl (ce)))] H := hP.sub [0, 1, 2, 3, 4, 5] rfl
  have hD : va_D A [(ab, .inr (3, [.ref abk, .ref abt, .ref abg, .int (cn), .int (st), .int (kn), .int (sb)])), (abk, .inl (cI, 10, .inl (kd))), (abt, .inl (cI, 10, .inl (tk))), (abg, .inl (cZ, 10, .inl (gr))), (aw, .inr (1, [.ref awc, .int (th), .int (ln), .int (le)])), (awc, .inl (cI, 60, .inl (ce)))] := hD.sub [0, 1, 2, 3, 4, 5] (by decide) rfl
  obtain ⟨o3, h4, hg⟩ := bd hg
  refine xcSi (As := [.int (o1)]) (rest := []) (wc := []) (wr := [(ab, .inr (3, [.ref abk, .ref abt, .ref abg, .int (cn), .int (st), .int (kn), .int (sb)])), (abk, .inl (cI, 10, .inl (kd))), (abt, .inl (cI, 10, .inl (tk))), (abg, .inl (cZ, 10, .inl (gr))), (aw, .inr (1, [.ref awc, .int (th), .int (ln), .int (le)])), (awc, .inl (cI, 60, .inl (ce)))]) ⟨hx, hb, hml, hown, hts⟩ (c_X3_kindOfLetter l D cI cZ cR o1 h4) (cwS 1 hts gX3_readFlag_X3_kindOfLetter rfl rfl rfl (by decide +kernel) ⟨Nat.le_of_ble_eq_true rfl, Nat.le_of_ble_eq_true rfl⟩) hK hP hD hS hA [] [0, 1, 2, 3, 4, 5] rfl rfl (by decide) (by decide) (by decide) rfl rfl hl.1 (lv_room (Nat.le_of_ble_eq_true rfl)) dX3_readFlag_8 ⟨Nat.le_of_ble_eq_true rfl, Nat.le_of_ble_eq_true rfl⟩ (fun r u H locs hu hP hD hS => ?_)
  obtain ⟨rfl, rfl⟩ := hu
  have hP : va_P D vwCl [(ab, .inr (3, [.ref abk, .ref abt, .ref abg, .int (cn), .int (st), .int (kn), .int (sb)])), (abk, .inl (cI, 10, .inl (kd))), (abt, .inl (cI, 10, .inl (tk))), (abg, .inl (cZ, 10, .inl (gr))), (aw, .inr (1, [.ref awc, .int (th), .int (ln), .int (le)])), (awc, .inl (cI, 60, .inl (ce)))] H := hP.sub [0, 1, 2, 3, 4, 5] rfl
  have hD : va_D A [(ab, .inr (3, [.ref abk, .ref abt, .ref abg, .int (cn), .int (st), .int (kn), .int (sb)])), (abk, .inl (cI, 10, .inl (kd))), (abt, .inl (cI, 10, .inl (tk))), (abg, .inl (cZ, 10, .inl (gr))), (aw, .inr (1, [.ref awc, .int (th), .int (ln), .int (le)])), (awc, .inl (cI, 60, .inl (ce)))] := hD.sub [0, 1, 2, 3, 4, 5] (by decide) rfl
  refine lv_istore (lv' := [(5, .int (o3)), (0, .ref ab), (1, .ref aw), (2, .int (zi)), (3, .int (zn)), (4, .int (zp))]) hx hb dX3_readFlag_11 hl (by decide) rfl (fun ls hl => ?_)
  refine lv_iload hx hb dX3_readFlag_13 (lv_at hl 0 rfl) ?_
  refine lv_bipush (v := (-9 : Int32)) hx hb dX3_readFlag_15 (by decide) ?_
  refine lv_icmp_eq (tgt := 29) hx hb dX3_readFlag_17 (by decide) (fun c5 => ?_) (fun c5 => ?_)
  · have hg := it hg c5
    refine lv_iload hx hb dX3_readFlag_29 (lv_at hl 5 rfl) ?_
    obtain rfl := Option.some.inj hg
    exact rti hQ hx hb hr hlocks hK hP hD hS dX3_readFlag_31 ⟨rfl, rfl⟩
  · have hg := ie hg c5
    refine lv_aload_n hx hb dX3_readFlag_20 rfl (lv_at hl 1 rfl) ?_
    refine va_get (D := D) (ci := 3) (v := .int (cn)) (C := RX3) (T := TX3) (N := 7) hx hb hts inX3 hown hK hP 0 rfl rfl 3 (by decide) (hts (.fieldLink RX3 22 "ScooterFlags$Street" "count" "I") (by decide +kernel)) (fun _ h9 => h9) rfl dX3_readFlag_21 ?_
    refine lv_bipush (v := (10 : Int32)) hx hb dX3_readFlag_24 (by decide) ?_
    refine lv_icmp_lt (tgt := 32) hx hb dX3_readFlag_26 (by decide) (fun c6 => ?_) (fun c6 => ?_)
    · have hg := it hg c6
      refine lv_iload hx hb dX3_readFlag_32 (lv_at hl 5 rfl) ?_
      refine lv_iconst (v := (1 : Int32)) hx hb dX3_readFlag_34 (by decide) ?_
      refine lv_iadd hx hb dX3_readFlag_35 ?_
      refine lv_iload_n hx hb dX3_readFlag_36 rfl (lv_at hl 4 rfl) ?_
      refine lv_icmp_lt (tgt := 42) hx hb dX3_readFlag_37 (by decide) (fun c7 => ?_) (fun c7 => ?_)
      · have hg := it hg c7
        refine lv_aload_n hx hb dX3_readFlag_42 rfl (lv_at hl 2 rfl) ?_
        refine lv_iload_n hx hb dX3_readFlag_43 rfl (lv_at hl 3 rfl) ?_
        refine lv_iload hx hb dX3_readFlag_44 (lv_at hl 5 rfl) ?_
        refine lv_iadd hx hb dX3_readFlag_46 ?_
        refine lv_iconst (v := (1 : Int32)) hx hb dX3_readFlag_47 (by decide) ?_
        refine lv_iadd hx hb dX3_readFlag_48 ?_
        obtain ⟨o8, h9, hg⟩ := bd hg
        refine xcVi (As := [.int (((zi + zp) + (1 : Int32)))]) (rest := []) (wc := [(aw, .inr (1, [.ref awc, .int (th), .int (ln), .int (le)])), (awc, .inl (cI, 60, .inl (ce)))]) (wr := [(ab, .inr (3, [.ref abk, .ref abt, .ref abg, .int (cn), .int (st), .int (kn), .int (sb)])), (abk, .inl (cI, 10, .inl (kd))), (abt, .inl (cI, 10, .inl (tk))), (abg, .inl (cZ, 10, .inl (gr)))]) ⟨hx, hb, hml, hown, hts⟩ (c_X1_at l D cI cZ cR aw awc th ln le ce ((zi + zp) + (1 : Int32)) h9) (cwV 1 hts gX3_readFlag_X1_at rfl rfl rfl (by decide +kernel) ⟨Nat.le_of_ble_eq_true rfl, Nat.le_of_ble_eq_true rfl⟩) hK hP hD hS hA [4, 5] [0, 1, 2, 3] rfl rfl (by decide) (by decide) (by decide) (va_recv hK hP (ci := 1) (q0 := 4) rfl rfl) rfl rfl hl.1 (lv_room (Nat.le_of_ble_eq_true rfl)) dX3_readFlag_49 ⟨Nat.le_of_ble_eq_true rfl, Nat.le_of_ble_eq_true rfl⟩ (fun r u H locs hu hP hD hS => ?_)
        obtain ⟨rfl, rfl⟩ := hu
        have hP : va_P D vwCl [(ab, .inr (3, [.ref abk, .ref abt, .ref abg, .int (cn), .int (st), .int (kn), .int (sb)])), (abk, .inl (cI, 10, .inl (kd))), (abt, .inl (cI, 10, .inl (tk))), (abg, .inl (cZ, 10, .inl (gr))), (aw, .inr (1, [.ref awc, .int (th), .int (ln), .int (le)])), (awc, .inl (cI, 60, .inl (ce)))] H := hP.sub [0, 1, 2, 3, 4, 5] rfl
        have hD : va_D A [(ab, .inr (3, [.ref abk, .ref abt, .ref abg, .int (cn), .int (st), .int (kn), .int (sb)])), (abk, .inl (cI, 10, .inl (kd))), (abt, .inl (cI, 10, .inl (tk))), (abg, .inl (cZ, 10, .inl (gr))), (aw, .inr (1, [.ref awc, .int (th), .int (ln), .int (le)])), (awc, .inl (cI, 60, .inl (ce)))] := hD.sub [0, 1, 2, 3, 4, 5] (by decide) rfl
        refine lv_istore (lv' := [(6, .int (o8)), (5, .int (o3)), (0, .ref ab), (1, .ref aw), (2, .int (zi)), (3, .int (zn)), (4, .int (zp))]) hx hb dX3_readFlag_52 hl (by decide) rfl (fun ls hl => ?_)
        refine lv_iload hx hb dX3_readFlag_54 (lv_at hl 0 rfl) ?_
        refine lv_bipush (v := (48 : Int32)) hx hb dX3_readFlag_56 (by decide) ?_
        refine lv_icmp_lt (tgt := 68) hx hb dX3_readFlag_58 (by decide) (fun c10 => ?_) (fun c10 => ?_)
        · have hg := it hg c10
          refine lv_iload hx hb dX3_readFlag_68 (lv_at hl 6 rfl) ?_
          refine lv_iconst (v := (1 : Int32)) hx hb dX3_readFlag_70 (by decide) ?_
          refine lv_iadd hx hb dX3_readFlag_71 ?_
          obtain rfl := Option.some.inj hg
          exact rti hQ hx hb hr hlocks hK hP hD hS dX3_readFlag_72 ⟨rfl, rfl⟩
        · have hg := ie hg c10
          refine lv_iload hx hb dX3_readFlag_61 (lv_at hl 0 rfl) ?_
          refine lv_bipush (v := (52 : Int32)) hx hb dX3_readFlag_63 (by decide) ?_
          refine lv_icmp_le (tgt := 73) hx hb dX3_readFlag_65 (by decide) (fun c11 => ?_) (fun c11 => ?_)
          · have hg := it hg c11
            refine lv_aload_n hx hb dX3_readFlag_73 rfl (lv_at hl 2 rfl) ?_
            refine va_get (D := D) (ci := 3) (v := .ref abk) (C := RX3) (T := TX3) (N := 7) hx hb hts inX3 hown hK hP 0 rfl rfl 0 (by decide) (hts (.fieldLink RX3 9 "ScooterFlags$Street" "kind" "[I") (by decide +kernel)) (fun _ h9 => h9) rfl dX3_readFlag_74 ?_
            refine lv_aload_n hx hb dX3_readFlag_77 rfl (lv_at hl 2 rfl) ?_
            refine va_get (D := D) (ci := 3) (v := .int (cn)) (C := RX3) (T := TX3) (N := 7) hx hb hts inX3 hown hK hP 0 rfl rfl 3 (by decide) (hts (.fieldLink RX3 22 "ScooterFlags$Street" "count" "I") (by decide +kernel)) (fun _ h9 => h9) rfl dX3_readFlag_78 ?_
            refine lv_iload hx hb dX3_readFlag_81 (lv_at hl 1 rfl) ?_
            obtain ⟨g12, hg⟩ := gxo hg
            refine va_iast hx hb hK hP hD hS 1 0 rfl rfl g12 dX3_readFlag_83 (fun H locs hP hD hS => ?_)
            have hP : va_P D vwCl [(ab, .inr (3, [.ref abk, .ref abt, .ref abg, .int (cn), .int (st), .int (kn), .int (sb)])), (abk, .inl (cI, 10, .inl ((upd kd cn.toNatClampNeg o3)))), (abt, .inl (cI, 10, .inl (tk))), (abg, .inl (cZ, 10, .inl (gr))), (aw, .inr (1, [.ref awc, .int (th), .int (ln), .int (le)])), (awc, .inl (cI, 60, .inl (ce)))] H := hP
            have hD : va_D A [(ab, .inr (3, [.ref abk, .ref abt, .ref abg, .int (cn), .int (st), .int (kn), .int (sb)])), (abk, .inl (cI, 10, .inl ((upd kd cn.toNatClampNeg o3)))), (abt, .inl (cI, 10, .inl (tk))), (abg, .inl (cZ, 10, .inl (gr))), (aw, .inr (1, [.ref awc, .int (th), .int (ln), .int (le)])), (awc, .inl (cI, 60, .inl (ce)))] := hD
            refine lv_aload_n hx hb dX3_readFlag_84 rfl (lv_at hl 2 rfl) ?_
            refine va_get (D := D) (ci := 3) (v := .ref abt) (C := RX3) (T := TX3) (N := 7) hx hb hts inX3 hown hK hP 0 rfl rfl 1 (by decide) (hts (.fieldLink RX3 15 "ScooterFlags$Street" "taken" "[I") (by decide +kernel)) (fun _ h9 => h9) rfl dX3_readFlag_85 ?_
            refine lv_aload_n hx hb dX3_readFlag_88 rfl (lv_at hl 2 rfl) ?_
            refine va_get (D := D) (ci := 3) (v := .int (cn)) (C := RX3) (T := TX3) (N := 7) hx hb hts inX3 hown hK hP 0 rfl rfl 3 (by decide) (hts (.fieldLink RX3 22 "ScooterFlags$Street" "count" "I") (by decide +kernel)) (fun _ h9 => h9) rfl dX3_readFlag_89 ?_
            refine lv_iload hx hb dX3_readFlag_92 (lv_at hl 0 rfl) ?_
            refine lv_bipush (v := (48 : Int32)) hx hb dX3_readFlag_94 (by decide) ?_
            refine lv_isub hx hb dX3_readFlag_96 ?_
            obtain ⟨g13, hg⟩ := gxo hg
            refine va_iast hx hb hK hP hD hS 2 0 rfl rfl g13 dX3_readFlag_97 (fun H locs hP hD hS => ?_)
            have hP : va_P D vwCl [(ab, .inr (3, [.ref abk, .ref abt, .ref abg, .int (cn), .int (st), .int (kn), .int (sb)])), (abk, .inl (cI, 10, .inl ((upd kd cn.toNatClampNeg o3)))), (abt, .inl (cI, 10, .inl ((upd tk cn.toNatClampNeg (o8 - (48 : Int32)))))), (abg, .inl (cZ, 10, .inl (gr))), (aw, .inr (1, [.ref awc, .int (th), .int (ln), .int (le)])), (awc, .inl (cI, 60, .inl (ce)))] H := hP
            have hD : va_D A [(ab, .inr (3, [.ref abk, .ref abt, .ref abg, .int (cn), .int (st), .int (kn), .int (sb)])), (abk, .inl (cI, 10, .inl ((upd kd cn.toNatClampNeg o3)))), (abt, .inl (cI, 10, .inl ((upd tk cn.toNatClampNeg (o8 - (48 : Int32)))))), (abg, .inl (cZ, 10, .inl (gr))), (aw, .inr (1, [.ref awc, .int (th), .int (ln), .int (le)])), (awc, .inl (cI, 60, .inl (ce)))] := hD
            refine lv_aload_n hx hb dX3_readFlag_98 rfl (lv_at hl 2 rfl) ?_
            refine va_get (D := D) (ci := 3) (v := .ref abg) (C := RX3) (T := TX3) (N := 7) hx hb hts inX3 hown hK hP 0 rfl rfl 2 (by decide) (hts (.fieldLink RX3 18 "ScooterFlags$Street" "grated" "[Z") (by decide +kernel)) (fun _ h9 => h9) rfl dX3_readFlag_99 ?_
            refine lv_aload_n hx hb dX3_readFlag_102 rfl (lv_at hl 2 rfl) ?_
            refine va_get (D := D) (ci := 3) (v := .int (cn)) (C := RX3) (T := TX3) (N := 7) hx hb hts inX3 hown hK hP 0 rfl rfl 3 (by decide) (hts (.fieldLink RX3 22 "ScooterFlags$Street" "count" "I") (by decide +kernel)) (fun _ h9 => h9) rfl dX3_readFlag_103 ?_
            refine lv_iconst (v := (0 : Int32)) hx hb dX3_readFlag_106 (by decide) ?_
            obtain ⟨g14, hg⟩ := gxo hg
            refine va_zast hx hb hK hP hD hS 3 1 rfl rfl g14 dX3_readFlag_107 (fun H locs hP hD hS => ?_)
            rw [zbl0] at hP hD
            have hP : va_P D vwCl [(ab, .inr (3, [.ref abk, .ref abt, .ref abg, .int (cn), .int (st), .int (kn), .int (sb)])), (abk, .inl (cI, 10, .inl ((upd kd cn.toNatClampNeg o3)))), (abt, .inl (cI, 10, .inl ((upd tk cn.toNatClampNeg (o8 - (48 : Int32)))))), (abg, .inl (cZ, 10, .inl ((upd gr cn.toNatClampNeg (0 : Int32))))), (aw, .inr (1, [.ref awc, .int (th), .int (ln), .int (le)])), (awc, .inl (cI, 60, .inl (ce)))] H := hP
            have hD : va_D A [(ab, .inr (3, [.ref abk, .ref abt, .ref abg, .int (cn), .int (st), .int (kn), .int (sb)])), (abk, .inl (cI, 10, .inl ((upd kd cn.toNatClampNeg o3)))), (abt, .inl (cI, 10, .inl ((upd tk cn.toNatClampNeg (o8 - (48 : Int32)))))), (abg, .inl (cZ, 10, .inl ((upd gr cn.toNatClampNeg (0 : Int32))))), (aw, .inr (1, [.ref awc, .int (th), .int (ln), .int (le)])), (awc, .inl (cI, 60, .inl (ce)))] := hD
            refine lv_aload_n hx hb dX3_readFlag_108 rfl (lv_at hl 2 rfl) ?_
            refine lv_dup hx hb dX3_readFlag_109 rfl ?_
            refine va_get (D := D) (ci := 3) (v := .int (cn)) (C := RX3) (T := TX3) (N := 7) hx hb hts inX3 hown hK hP 0 rfl rfl 3 (by decide) (hts (.fieldLink RX3 22 "ScooterFlags$Street" "count" "I") (by decide +kernel)) (fun _ h9 => h9) rfl dX3_readFlag_110 ?_
            refine lv_iconst (v := (1 : Int32)) hx hb dX3_readFlag_113 (by decide) ?_
            refine lv_iadd hx hb dX3_readFlag_114 ?_
            refine va_put (D := D) (ci := 3) (v := .int ((cn + (1 : Int32)))) (ty := .int) (C := RX3) (T := TX3) (N := 7) hx hb hts inX3 tyX3 tyX3_ok nmX3 hown hK hP hD hS 0 rfl rfl 3 (by decide) (hts (.fieldLink RX3 22 "ScooterFlags$Street" "count" "I") (by decide +kernel)) (fun _ h9 => h9) rfl (by decide +kernel) rfl rfl (Nat.le_of_ble_eq_true rfl) dX3_readFlag_115 (fun H locs hP hD hS => ?_)
            have hP : va_P D vwCl [(ab, .inr (3, [.ref abk, .ref abt, .ref abg, .int ((cn + (1 : Int32))), .int (st), .int (kn), .int (sb)])), (abk, .inl (cI, 10, .inl ((upd kd cn.toNatClampNeg o3)))), (abt, .inl (cI, 10, .inl ((upd tk cn.toNatClampNeg (o8 - (48 : Int32)))))), (abg, .inl (cZ, 10, .inl ((upd gr cn.toNatClampNeg (0 : Int32))))), (aw, .inr (1, [.ref awc, .int (th), .int (ln), .int (le)])), (awc, .inl (cI, 60, .inl (ce)))] H := hP
            have hD : va_D A [(ab, .inr (3, [.ref abk, .ref abt, .ref abg, .int ((cn + (1 : Int32))), .int (st), .int (kn), .int (sb)])), (abk, .inl (cI, 10, .inl ((upd kd cn.toNatClampNeg o3)))), (abt, .inl (cI, 10, .inl ((upd tk cn.toNatClampNeg (o8 - (48 : Int32)))))), (abg, .inl (cZ, 10, .inl ((upd gr cn.toNatClampNeg (0 : Int32))))), (aw, .inr (1, [.ref awc, .int (th), .int (ln), .int (le)])), (awc, .inl (cI, 60, .inl (ce)))] := hD
            refine lv_bipush (v := (-9 : Int32)) hx hb dX3_readFlag_118 (by decide) ?_
            obtain rfl := Option.some.inj hg
            exact rti hQ hx hb hr hlocks hK hP hD hS dX3_readFlag_120 ⟨rfl, rfl⟩
          · have hg := ie hg c11
            refine lv_iload hx hb dX3_readFlag_68 (lv_at hl 6 rfl) ?_
            refine lv_iconst (v := (1 : Int32)) hx hb dX3_readFlag_70 (by decide) ?_
            refine lv_iadd hx hb dX3_readFlag_71 ?_
            obtain rfl := Option.some.inj hg
            exact rti hQ hx hb hr hlocks hK hP hD hS dX3_readFlag_72 ⟨rfl, rfl⟩
      · have hg := ie hg c7
        refine lv_iload_n hx hb dX3_readFlag_40 rfl (lv_at hl 4 rfl) ?_
        obtain rfl := Option.some.inj hg
        exact rti hQ hx hb hr hlocks hK hP hD hS dX3_readFlag_41 ⟨rfl, rfl⟩
    · have hg := ie hg c6
      refine lv_iload hx hb dX3_readFlag_29 (lv_at hl 5 rfl) ?_
      obtain rfl := Option.some.inj hg
      exact rti hQ hx hb hr hlocks hK hP hD hS dX3_readFlag_31 ⟨rfl, rfl⟩
def f_X3_readText_L20 (le : Int32) (ce : Nat → Int32) (zi : Int32) (zn : Int32) (k97 : Int32 → Int32 → Int32 → Int32 → Int32 → Int32 → (Nat → Int32) → (Nat → Int32) → (Nat → Int32) → Option (Int32 × Int32 × Int32 × Int32 × Int32 × (Nat → Int32) × (Nat → Int32) × (Nat → Int32))) : Nat → Int32 → Int32 → Int32 → Int32 → Int32 → Int32 → Int32 → (Nat → Int32) → (Nat → Int32) → (Nat → Int32) → Option (Int32 × Int32 × Int32 × Int32 × Int32 × (Nat → Int32) × (Nat → Int32) × (Nat → Int32))
  | 0, _, _, _, _, _, _, _, _, _, _ => none
  | n + 1, x4, x5, x6, cn, st, kn, sb, kd, tk, gr => if (10 : Int32) ≤ x6 then (k97 x4 x5 cn st kn sb kd tk gr) else (if x4 = (-9 : Int32) then (if zn ≤ x5 then (k97 x4 x5 cn st kn sb kd tk gr) else ((f_X3_readFlag cn le kd tk gr ce zi zn x5).bind (fun o6 => if o6.1 = (-9 : Int32) then (if zn ≤ (x5 + (2 : Int32)) then (f_X3_readText_L20 le ce zi zn k97 n o6.1 (x5 + (2 : Int32)) (x6 + (1 : Int32)) o6.2.1 st kn sb o6.2.2.1 o6.2.2.2.1 o6.2.2.2.2) else ((f_X1_at le ce (zi + (x5 + (2 : Int32)))).bind (fun o10 => if o10 = (35 : Int32) then (gx x6 10 (f_X3_readText_L20 le ce zi zn k97 n o6.1 ((x5 + (2 : Int32)) + (1 : Int32)) (x6 + (1 : Int32)) o6.2.1 st kn sb o6.2.2.1 o6.2.2.2.1 (upd o6.2.2.2.2 x6.toNatClampNeg (1 : Int32)))) else (f_X3_readText_L20 le ce zi zn k97 n o6.1 (x5 + (2 : Int32)) (x6 + (1 : Int32)) o6.2.1 st kn sb o6.2.2.1 o6.2.2.2.1 o6.2.2.2.2)))) else (f_X3_readText_L20 le ce zi zn k97 n o6.1 (x5 + (2 : Int32)) (x6 + (1 : Int32)) o6.2.1 st kn sb o6.2.2.1 o6.2.2.2.1 o6.2.2.2.2)))) else (k97 x4 x5 cn st kn sb kd tk gr))
def f_X3_readText_97 (zn : Int32) (x4 : Int32) (x5 : Int32) (cn : Int32) (st : Int32) (kn : Int32) (sb : Int32) (kd : Nat → Int32) (tk : Nat → Int32) (gr : Nat → Int32) : Option (Int32 × Int32 × Int32 × Int32 × Int32 × (Nat → Int32) × (Nat → Int32) × (Nat → Int32)) :=
  if x4 = (-9 : Int32) then (if zn ≤ x5 then (if (2 : Int32) ≤ cn then (some ((-9 : Int32), cn, st, kn, sb, kd, tk, gr)) else (some (zn, cn, st, kn, sb, kd, tk, gr))) else (some (x5, cn, st, kn, sb, kd, tk, gr))) else (some (x4, cn, st, kn, sb, kd, tk, gr))
def f_X3_readText (cn : Int32) (st : Int32) (kn : Int32) (sb : Int32) (le : Int32) (kd : Nat → Int32) (tk : Nat → Int32) (gr : Nat → Int32) (ce : Nat → Int32) (zi : Int32) (zn : Int32) : Option (Int32 × Int32 × Int32 × Int32 × Int32 × (Nat → Int32) × (Nat → Int32) × (Nat → Int32)) :=
  (f_X3_readHead st kn sb le ce zi zn).bind (fun o1 => f_X3_readText_L20 le ce zi zn (fun (x4 : Int32) (x5 : Int32) (cn : Int32) (st : Int32) (kn : Int32) (sb : Int32) (kd : Nat → Int32) (tk : Nat → Int32) (gr : Nat → Int32) => f_X3_readText_97 zn x4 x5 cn st kn sb kd tk gr) 100 o1.1 (4 : Int32) (0 : Int32) (0 : Int32) o1.2.1 o1.2.2.1 o1.2.2.2 kd tk gr)
set_option maxHeartbeats 4000000 in
set_option maxRecDepth 100000 in
theorem c_X3_readText (l : Launch) (D : va_G) (cI cZ cR : ClassId) (zt1 zt2 : Nat) (ab : Nat) (abk : Nat) (abt : Nat) (abg : Nat) (aw : Nat) (awc : Nat) (cn : Int32) (st : Int32) (kn : Int32) (sb : Int32) (th : Int32) (ln : Int32) (le : Int32) (kd : Nat → Int32) (tk : Nat → Int32) (gr : Nat → Int32) (ce : Nat → Int32) (zi : Int32) (zn : Int32) {res : Int32 × Int32 × Int32 × Int32 × Int32 × (Nat → Int32) × (Nat → Int32) × (Nat → Int32)} (hg : f_X3_readText cn st kn sb le kd tk gr ce zi zn = some res) : MIz l yX3_readText wsX3_readText ({ frames := 2, cells := 0, slots := 0, locals := 47 }) zt1 zt2 D (T3 cI cZ cR) [(ab, .inr (3, [.ref abk, .ref abt, .ref abg, .int (cn), .int (st), .int (kn), .int (sb)])), (abk, .inl (cI, 10, .inl (kd))), (abt, .inl (cI, 10, .inl (tk))), (abg, .inl (cZ, 10, .inl (gr))), (aw, .inr (1, [.ref awc, .int (th), .int (ln), .int (le)])), (awc, .inl (cI, 60, .inl (ce)))] [.ref ab, .ref aw, .int (zi), .int (zn)] (fun r u => res.1 = r ∧ u = [(ab, .inr (3, [.ref abk, .ref abt, .ref abg, .int (res.2.1), .int (res.2.2.1), .int (res.2.2.2.1), .int (res.2.2.2.2.1)])), (abk, .inl (cI, 10, .inl (res.2.2.2.2.2.1))), (abt, .inl (cI, 10, .inl (res.2.2.2.2.2.2.1))), (abg, .inl (cZ, 10, .inl (res.2.2.2.2.2.2.2))), (aw, .inr (1, [.ref awc, .int (th), .int (ln), .int (le)])), (awc, .inl (cI, 60, .inl (ce)))]) := by
  refine entIz (Rn := RX3) (by decide +kernel) rfl rfl (Nat.le_of_ble_eq_true rfl) (fun p e s m args below meth c A Q hx hb hr hml hts hown hlocks hA hP hD hK hS hz ls hl hQ => ?_)
  have inX3 : ∀ w ∈ u_ws RX3 TX3 7, w ∈ wsX3_readText := by decide +kernel
  have lp_20 : ∀ (k97 : Int32 → Int32 → Int32 → Int32 → Int32 → Int32 → (Nat → Int32) → (Nat → Int32) → (Nat → Int32) → Option (Int32 × Int32 × Int32 × Int32 × Int32 × (Nat → Int32) × (Nat → Int32) × (Nat → Int32))) (hk97 : ∀ (x4 : Int32) (x5 : Int32) (cn : Int32) (st : Int32) (kn : Int32) (sb : Int32) (kd : Nat → Int32) (tk : Nat → Int32) (gr : Nat → Int32), k97 x4 x5 cn st kn sb kd tk gr = some res → ∀ (H : Heap) (locs : List Loc), va_P D vwCl [(ab, .inr (3, [.ref abk, .ref abt, .ref abg, .int (cn), .int (st), .int (kn), .int (sb)])), (abk, .inl (cI, 10, .inl (kd))), (abt, .inl (cI, 10, .inl (tk))), (abg, .inl (cZ, 10, .inl (gr))), (aw, .inr (1, [.ref awc, .int (th), .int (ln), .int (le)])), (awc, .inl (cI, 60, .inl (ce)))] H → va_D A [(ab, .inr (3, [.ref abk, .ref abt, .ref abg, .int (cn), .int (st), .int (kn), .int (sb)])), (abk, .inl (cI, 10, .inl (kd))), (abt, .inl (cI, 10, .inl (tk))), (abg, .inl (cZ, 10, .inl (gr))), (aw, .inr (1, [.ref awc, .int (th), .int (ln), .int (le)])), (awc, .inl (cI, 60, .inl (ce)))] → va_S A s.heap H locs → ∀ (ls : Array Slot), lv_has ls 7 [(0, .ref ab), (3, .int (zn)), (4, .int (x4)), (5, .int (x5))] → W p l e ({ frames := 2, cells := 0, slots := 0, locals := 47 }) s m args below meth c H locs 0 0 Q (F0 m 97 ls [])) (n : Nat) (x4 : Int32) (x5 : Int32) (x6 : Int32) (cn : Int32) (st : Int32) (kn : Int32) (sb : Int32) (kd : Nat → Int32) (tk : Nat → Int32) (gr : Nat → Int32), f_X3_readText_L20 le ce zi zn k97 n x4 x5 x6 cn st kn sb kd tk gr = some res → ∀ (H : Heap) (locs : List Loc), va_P D vwCl [(ab, .inr (3, [.ref abk, .ref abt, .ref abg, .int (cn), .int (st), .int (kn), .int (sb)])), (abk, .inl (cI, 10, .inl (kd))), (abt, .inl (cI, 10, .inl (tk))), (abg, .inl (cZ, 10, .inl (gr))), (aw, .inr (1, [.ref awc, .int (th), .int (ln), .int (le)])), (awc, .inl (cI, 60, .inl (ce)))] H → va_D A [(ab, .inr (3, [.ref abk, .ref abt, .ref abg, .int (cn), .int (st), .int (kn), .int (sb)])), (abk, .inl (cI, 10, .inl (kd))), (abt, .inl (cI, 10, .inl (tk))), (abg, .inl (cZ, 10, .inl (gr))), (aw, .inr (1, [.ref awc, .int (th), .int (ln), .int (le)])), (awc, .inl (cI, 60, .inl (ce)))] → va_S A s.heap H locs → ∀ (ls : Array Slot), lv_has ls 7 [(0, .ref ab), (1, .ref aw), (2, .int (zi)), (3, .int (zn)), (4, .int (x4)), (5, .int (x5)), (6, .int (x6))] → W p l e ({ frames := 2, cells := 0, slots := 0, locals := 47 }) s m args below meth c H locs 0 0 Q (F0 m 20 ls []) := by
    intro k97 hk97 n
    induction n with
    | zero => intro x4 x5 x6 cn st kn sb kd tk gr hg; rw [f_X3_readText_L20] at hg; cases hg
    | succ n ih =>
      intro x4 x5 x6 cn st kn sb kd tk gr hg H locs hP hD hS ls hl
      rw [f_X3_readText_L20] at hg
      refine lv_iload hx hb dX3_readText_20 (lv_at hl 6 rfl) ?_
      refine lv_bipush (v := (10 : Int32)) hx hb dX3_readText_22 (by decide) ?_
      refine lv_icmp_ge (tgt := 97) hx hb dX3_readText_24 (by decide) (fun c3 => ?_) (fun c3 => ?_)
      · have hg := it hg c3
        exact hk97 x4 x5 cn st kn sb kd tk gr hg _ _ hP hD hS _ (lv_sub hl [0, 3, 4, 5] rfl)
      · have hg := ie hg c3
        refine lv_iload hx hb dX3_readText_27 (lv_at hl 4 rfl) ?_
        refine lv_bipush (v := (-9 : Int32)) hx hb dX3_readText_29 (by decide) ?_
        refine lv_icmp_ne (tgt := 97) hx hb dX3_readText_31 (by decide) (fun c4 => ?_) (fun c4 => ?_)
        · have hg := ie hg c4
          exact hk97 x4 x5 cn st kn sb kd tk gr hg _ _ hP hD hS _ (lv_sub hl [0, 3, 4, 5] rfl)
        · have hg := it hg c4
          refine lv_iload hx hb dX3_readText_34 (lv_at hl 5 rfl) ?_
          refine lv_iload_n hx hb dX3_readText_36 rfl (lv_at hl 3 rfl) ?_
          refine lv_icmp_ge (tgt := 97) hx hb dX3_readText_37 (by decide) (fun c5 => ?_) (fun c5 => ?_)
          · have hg := it hg c5
            exact hk97 x4 x5 cn st kn sb kd tk gr hg _ _ hP hD hS _ (lv_sub hl [0, 3, 4, 5] rfl)
          · have hg := ie hg c5
            refine lv_aload_n hx hb dX3_readText_40 rfl (lv_at hl 0 rfl) ?_
            refine lv_aload_n hx hb dX3_readText_41 rfl (lv_at hl 1 rfl) ?_
            refine lv_iload_n hx hb dX3_readText_42 rfl (lv_at hl 2 rfl) ?_
            refine lv_iload_n hx hb dX3_readText_43 rfl (lv_at hl 3 rfl) ?_
            refine lv_iload hx hb dX3_readText_44 (lv_at hl 5 rfl) ?_
            obtain ⟨o6, h7, hg⟩ := bd hg
            refine xcVi (As := [.ref aw, .int (zi), .int (zn), .int (x5)]) (rest := []) (wc := [(ab, .inr (3, [.ref abk, .ref abt, .ref abg, .int (cn), .int (st), .int (kn), .int (sb)])), (abk, .inl (cI, 10, .inl (kd))), (abt, .inl (cI, 10, .inl (tk))), (abg, .inl (cZ, 10, .inl (gr))), (aw, .inr (1, [.ref awc, .int (th), .int (ln), .int (le)])), (awc, .inl (cI, 60, .inl (ce)))]) (wr := []) ⟨hx, hb, hml, hown, hts⟩ (c_X3_readFlag l D cI cZ cR ab abk abt abg aw awc cn st kn sb th ln le kd tk gr ce zi zn x5 h7) (cwV 4 hts gX3_readText_X3_readFlag rfl rfl rfl (by decide +kernel) ⟨Nat.le_of_ble_eq_true rfl, Nat.le_of_ble_eq_true rfl⟩) hK hP hD hS hA [0, 1, 2, 3, 4, 5] [] rfl rfl (by decide) (by decide) (by decide) (va_recv hK hP (ci := 3) (q0 := 0) rfl rfl) rfl rfl hl.1 (lv_room (Nat.le_of_ble_eq_true rfl)) dX3_readText_46 ⟨Nat.le_of_ble_eq_true rfl, Nat.le_of_ble_eq_true rfl⟩ (fun r u H locs hu hP hD hS => ?_)
            obtain ⟨rfl, rfl⟩ := hu
            have hP : va_P D vwCl [(ab, .inr (3, [.ref abk, .ref abt, .ref abg, .int (o6.2.1), .int (st), .int (kn), .int (sb)])), (abk, .inl (cI, 10, .inl (o6.2.2.1))), (abt, .inl (cI, 10, .inl (o6.2.2.2.1))), (abg, .inl (cZ, 10, .inl (o6.2.2.2.2))), (aw, .inr (1, [.ref awc, .int (th), .int (ln), .int (le)])), (awc, .inl (cI, 60, .inl (ce)))] H := hP.sub [0, 1, 2, 3, 4, 5] rfl
            have hD : va_D A [(ab, .inr (3, [.ref abk, .ref abt, .ref abg, .int (o6.2.1), .int (st), .int (kn), .int (sb)])), (abk, .inl (cI, 10, .inl (o6.2.2.1))), (abt, .inl (cI, 10, .inl (o6.2.2.2.1))), (abg, .inl (cZ, 10, .inl (o6.2.2.2.2))), (aw, .inr (1, [.ref awc, .int (th), .int (ln), .int (le)])), (awc, .inl (cI, 60, .inl (ce)))] := hD.sub [0, 1, 2, 3, 4, 5] (by decide) rfl
            refine lv_istore (lv' := [(4, .int (o6.1)), (0, .ref ab), (1, .ref aw), (2, .int (zi)), (3, .int (zn)), (5, .int (x5)), (6, .int (x6))]) hx hb dX3_readText_49 hl (by decide) rfl (fun ls hl => ?_)
            refine lv_iinc (v := (x5 + (2 : Int32))) (lv' := [(5, .int ((x5 + (2 : Int32)))), (4, .int (o6.1)), (0, .ref ab), (1, .ref aw), (2, .int (zi)), (3, .int (zn)), (6, .int (x6))]) hx hb dX3_readText_51 hl (k := 5) rfl rfl (by decide) rfl (fun ls hl => ?_)
            refine lv_iload hx hb dX3_readText_54 (lv_at hl 1 rfl) ?_
            refine lv_bipush (v := (-9 : Int32)) hx hb dX3_readText_56 (by decide) ?_
            refine lv_icmp_ne (tgt := 91) hx hb dX3_readText_58 (by decide) (fun c8 => ?_) (fun c8 => ?_)
            · have hg := ie hg c8
              refine lv_iinc (v := (x6 + (1 : Int32))) (lv' := [(6, .int ((x6 + (1 : Int32)))), (5, .int ((x5 + (2 : Int32)))), (4, .int (o6.1)), (0, .ref ab), (1, .ref aw), (2, .int (zi)), (3, .int (zn))]) hx hb dX3_readText_91 hl (k := 6) rfl rfl (by decide) rfl (fun ls hl => ?_)
              refine lv_goto (tgt := 20) hx hb dX3_readText_94 (by decide) ?_
              exact ih o6.1 (x5 + (2 : Int32)) (x6 + (1 : Int32)) o6.2.1 st kn sb o6.2.2.1 o6.2.2.2.1 o6.2.2.2.2 hg _ _ hP hD hS _ (lv_sub hl [3, 4, 5, 6, 2, 1, 0] rfl)
            · have hg := it hg c8
              refine lv_iload hx hb dX3_readText_61 (lv_at hl 0 rfl) ?_
              refine lv_iload_n hx hb dX3_readText_63 rfl (lv_at hl 5 rfl) ?_
              refine lv_icmp_ge (tgt := 91) hx hb dX3_readText_64 (by decide) (fun c9 => ?_) (fun c9 => ?_)
              · have hg := it hg c9
                refine lv_iinc (v := (x6 + (1 : Int32))) (lv' := [(6, .int ((x6 + (1 : Int32)))), (5, .int ((x5 + (2 : Int32)))), (4, .int (o6.1)), (0, .ref ab), (1, .ref aw), (2, .int (zi)), (3, .int (zn))]) hx hb dX3_readText_91 hl (k := 6) rfl rfl (by decide) rfl (fun ls hl => ?_)
                refine lv_goto (tgt := 20) hx hb dX3_readText_94 (by decide) ?_
                exact ih o6.1 (x5 + (2 : Int32)) (x6 + (1 : Int32)) o6.2.1 st kn sb o6.2.2.1 o6.2.2.2.1 o6.2.2.2.2 hg _ _ hP hD hS _ (lv_sub hl [3, 4, 5, 6, 2, 1, 0] rfl)
              · have hg := ie hg c9
                refine lv_aload_n hx hb dX3_readText_67 rfl (lv_at hl 3 rfl) ?_
                refine lv_iload_n hx hb dX3_readText_68 rfl (lv_at hl 4 rfl) ?_
                refine lv_iload hx hb dX3_readText_69 (lv_at hl 0 rfl) ?_
                refine lv_iadd hx hb dX3_readText_71 ?_
                obtain ⟨o10, h11, hg⟩ := bd hg
                refine xcVi (As := [.int ((zi + (x5 + (2 : Int32))))]) (rest := []) (wc := [(aw, .inr (1, [.ref awc, .int (th), .int (ln), .int (le)])), (awc, .inl (cI, 60, .inl (ce)))]) (wr := [(ab, .inr (3, [.ref abk, .ref abt, .ref abg, .int (o6.2.1), .int (st), .int (kn), .int (sb)])), (abk, .inl (cI, 10, .inl (o6.2.2.1))), (abt, .inl (cI, 10, .inl (o6.2.2.2.1))), (abg, .inl (cZ, 10, .inl (o6.2.2.2.2)))]) ⟨hx, hb, hml, hown, hts⟩ (c_X1_at l D cI cZ cR aw awc th ln le ce (zi + (x5 + (2 : Int32))) h11) (cwV 1 hts gX3_readText_X1_at rfl rfl rfl (by decide +kernel) ⟨Nat.le_of_ble_eq_true rfl, Nat.le_of_ble_eq_true rfl⟩) hK hP hD hS hA [4, 5] [0, 1, 2, 3] rfl rfl (by decide) (by decide) (by decide) (va_recv hK hP (ci := 1) (q0 := 4) rfl rfl) rfl rfl hl.1 (lv_room (Nat.le_of_ble_eq_true rfl)) dX3_readText_72 ⟨Nat.le_of_ble_eq_true rfl, Nat.le_of_ble_eq_true rfl⟩ (fun r u H locs hu hP hD hS => ?_)
                obtain ⟨rfl, rfl⟩ := hu
                have hP : va_P D vwCl [(ab, .inr (3, [.ref abk, .ref abt, .ref abg, .int (o6.2.1), .int (st), .int (kn), .int (sb)])), (abk, .inl (cI, 10, .inl (o6.2.2.1))), (abt, .inl (cI, 10, .inl (o6.2.2.2.1))), (abg, .inl (cZ, 10, .inl (o6.2.2.2.2))), (aw, .inr (1, [.ref awc, .int (th), .int (ln), .int (le)])), (awc, .inl (cI, 60, .inl (ce)))] H := hP.sub [0, 1, 2, 3, 4, 5] rfl
                have hD : va_D A [(ab, .inr (3, [.ref abk, .ref abt, .ref abg, .int (o6.2.1), .int (st), .int (kn), .int (sb)])), (abk, .inl (cI, 10, .inl (o6.2.2.1))), (abt, .inl (cI, 10, .inl (o6.2.2.2.1))), (abg, .inl (cZ, 10, .inl (o6.2.2.2.2))), (aw, .inr (1, [.ref awc, .int (th), .int (ln), .int (le)])), (awc, .inl (cI, 60, .inl (ce)))] := hD.sub [0, 1, 2, 3, 4, 5] (by decide) rfl
                refine lv_bipush (v := (35 : Int32)) hx hb dX3_readText_75 (by decide) ?_
                refine lv_icmp_ne (tgt := 91) hx hb dX3_readText_77 (by decide) (fun c12 => ?_) (fun c12 => ?_)
                · have hg := ie hg c12
                  refine lv_iinc (v := (x6 + (1 : Int32))) (lv' := [(6, .int ((x6 + (1 : Int32)))), (5, .int ((x5 + (2 : Int32)))), (4, .int (o6.1)), (0, .ref ab), (1, .ref aw), (2, .int (zi)), (3, .int (zn))]) hx hb dX3_readText_91 hl (k := 6) rfl rfl (by decide) rfl (fun ls hl => ?_)
                  refine lv_goto (tgt := 20) hx hb dX3_readText_94 (by decide) ?_
                  exact ih o6.1 (x5 + (2 : Int32)) (x6 + (1 : Int32)) o6.2.1 st kn sb o6.2.2.1 o6.2.2.2.1 o6.2.2.2.2 hg _ _ hP hD hS _ (lv_sub hl [3, 4, 5, 6, 2, 1, 0] rfl)
                · have hg := it hg c12
                  refine lv_aload_n hx hb dX3_readText_80 rfl (lv_at hl 2 rfl) ?_
                  refine va_get (D := D) (ci := 3) (v := .ref abg) (C := RX3) (T := TX3) (N := 7) hx hb hts inX3 hown hK hP 0 rfl rfl 2 (by decide) (hts (.fieldLink RX3 18 "ScooterFlags$Street" "grated" "[Z") (by decide +kernel)) (fun _ h9 => h9) rfl dX3_readText_81 ?_
                  refine lv_iload hx hb dX3_readText_84 (lv_at hl 6 rfl) ?_
                  refine lv_iconst (v := (1 : Int32)) hx hb dX3_readText_86 (by decide) ?_
                  obtain ⟨g13, hg⟩ := gxo hg
                  refine va_zast hx hb hK hP hD hS 3 1 rfl rfl g13 dX3_readText_87 (fun H locs hP hD hS => ?_)
                  rw [zbl1] at hP hD
                  have hP : va_P D vwCl [(ab, .inr (3, [.ref abk, .ref abt, .ref abg, .int (o6.2.1), .int (st), .int (kn), .int (sb)])), (abk, .inl (cI, 10, .inl (o6.2.2.1))), (abt, .inl (cI, 10, .inl (o6.2.2.2.1))), (abg, .inl (cZ, 10, .inl ((upd o6.2.2.2.2 x6.toNatClampNeg (1 : Int32))))), (aw, .inr (1, [.ref awc, .int (th), .int (ln), .int (le)])), (awc, .inl (cI, 60, .inl (ce)))] H := hP
                  have hD : va_D A [(ab, .inr (3, [.ref abk, .ref abt, .ref abg, .int (o6.2.1), .int (st), .int (kn), .int (sb)])), (abk, .inl (cI, 10, .inl (o6.2.2.1))), (abt, .inl (cI, 10, .inl (o6.2.2.2.1))), (abg, .inl (cZ, 10, .inl ((upd o6.2.2.2.2 x6.toNatClampNeg (1 : Int32))))), (aw, .inr (1, [.ref awc, .int (th), .int (ln), .int (le)])), (awc, .inl (cI, 60, .inl (ce)))] := hD
                  refine lv_iinc (v := ((x5 + (2 : Int32)) + (1 : Int32))) (lv' := [(5, .int (((x5 + (2 : Int32)) + (1 : Int32)))), (4, .int (o6.1)), (0, .ref ab), (1, .ref aw), (2, .int (zi)), (3, .int (zn)), (6, .int (x6))]) hx hb dX3_readText_88 hl (k := 0) rfl rfl (by decide) rfl (fun ls hl => ?_)
                  refine lv_iinc (v := (x6 + (1 : Int32))) (lv' := [(6, .int ((x6 + (1 : Int32)))), (5, .int (((x5 + (2 : Int32)) + (1 : Int32)))), (4, .int (o6.1)), (0, .ref ab), (1, .ref aw), (2, .int (zi)), (3, .int (zn))]) hx hb dX3_readText_91 hl (k := 6) rfl rfl (by decide) rfl (fun ls hl => ?_)
                  refine lv_goto (tgt := 20) hx hb dX3_readText_94 (by decide) ?_
                  exact ih o6.1 ((x5 + (2 : Int32)) + (1 : Int32)) (x6 + (1 : Int32)) o6.2.1 st kn sb o6.2.2.1 o6.2.2.2.1 (upd o6.2.2.2.2 x6.toNatClampNeg (1 : Int32)) hg _ _ hP hD hS _ (lv_sub hl [3, 4, 5, 6, 2, 1, 0] rfl)
  have bk_97 : ∀ (x4 : Int32) (x5 : Int32) (cn : Int32) (st : Int32) (kn : Int32) (sb : Int32) (kd : Nat → Int32) (tk : Nat → Int32) (gr : Nat → Int32), f_X3_readText_97 zn x4 x5 cn st kn sb kd tk gr = some res → ∀ (H : Heap) (locs : List Loc), va_P D vwCl [(ab, .inr (3, [.ref abk, .ref abt, .ref abg, .int (cn), .int (st), .int (kn), .int (sb)])), (abk, .inl (cI, 10, .inl (kd))), (abt, .inl (cI, 10, .inl (tk))), (abg, .inl (cZ, 10, .inl (gr))), (aw, .inr (1, [.ref awc, .int (th), .int (ln), .int (le)])), (awc, .inl (cI, 60, .inl (ce)))] H → va_D A [(ab, .inr (3, [.ref abk, .ref abt, .ref abg, .int (cn), .int (st), .int (kn), .int (sb)])), (abk, .inl (cI, 10, .inl (kd))), (abt, .inl (cI, 10, .inl (tk))), (abg, .inl (cZ, 10, .inl (gr))), (aw, .inr (1, [.ref awc, .int (th), .int (ln), .int (le)])), (awc, .inl (cI, 60, .inl (ce)))] → va_S A s.heap H locs → ∀ (ls : Array Slot), lv_has ls 7 [(0, .ref ab), (3, .int (zn)), (4, .int (x4)), (5, .int (x5))] → W p l e ({ frames := 2, cells := 0, slots := 0, locals := 47 }) s m args below meth c H locs 0 0 Q (F0 m 97 ls []) := by
    intro x4 x5 cn st kn sb kd tk gr hg H locs hP hD hS ls hl
    rw [f_X3_readText_97] at hg
    refine lv_iload hx hb dX3_readText_97 (lv_at hl 2 rfl) ?_
    refine lv_bipush (v := (-9 : Int32)) hx hb dX3_readText_99 (by decide) ?_
    refine lv_icmp_eq (tgt := 107) hx hb dX3_readText_101 (by decide) (fun c14 => ?_) (fun c14 => ?_)
    · have hg := it hg c14
      refine lv_iload hx hb dX3_readText_107 (lv_at hl 3 rfl) ?_
      refine lv_iload_n hx hb dX3_readText_109 rfl (lv_at hl 1 rfl) ?_
      refine lv_icmp_ge (tgt := 116) hx hb dX3_readText_110 (by decide) (fun c15 => ?_) (fun c15 => ?_)
      · have hg := it hg c15
        refine lv_aload_n hx hb dX3_readText_116 rfl (lv_at hl 0 rfl) ?_
        refine va_get (D := D) (ci := 3) (v := .int (cn)) (C := RX3) (T := TX3) (N := 7) hx hb hts inX3 hown hK hP 0 rfl rfl 3 (by decide) (hts (.fieldLink RX3 22 "ScooterFlags$Street" "count" "I") (by decide +kernel)) (fun _ h9 => h9) rfl dX3_readText_117 ?_
        refine lv_iconst (v := (2 : Int32)) hx hb dX3_readText_120 (by decide) ?_
        refine lv_icmp_ge (tgt := 128) hx hb dX3_readText_121 (by decide) (fun c16 => ?_) (fun c16 => ?_)
        · have hg := it hg c16
          refine lv_bipush (v := (-9 : Int32)) hx hb dX3_readText_128 (by decide) ?_
          obtain rfl := Option.some.inj hg
          exact rti hQ hx hb hr hlocks hK hP hD hS dX3_readText_130 ⟨rfl, rfl⟩
        · have hg := ie hg c16
          refine lv_iload_n hx hb dX3_readText_124 rfl (lv_at hl 1 rfl) ?_
          refine lv_goto (tgt := 130) hx hb dX3_readText_125 (by decide) ?_
          obtain rfl := Option.some.inj hg
          exact rti hQ hx hb hr hlocks hK hP hD hS dX3_readText_130 ⟨rfl, rfl⟩
      · have hg := ie hg c15
        refine lv_iload hx hb dX3_readText_113 (lv_at hl 3 rfl) ?_
        obtain rfl := Option.some.inj hg
        exact rti hQ hx hb hr hlocks hK hP hD hS dX3_readText_115 ⟨rfl, rfl⟩
    · have hg := ie hg c14
      refine lv_iload hx hb dX3_readText_104 (lv_at hl 2 rfl) ?_
      obtain rfl := Option.some.inj hg
      exact rti hQ hx hb hr hlocks hK hP hD hS dX3_readText_106 ⟨rfl, rfl⟩
  have hl : lv_has ls 7 [(0, .ref ab), (1, .ref aw), (2, .int (zi)), (3, .int (zn))] := hl
  rw [f_X3_readText] at hg
  refine lv_aload_n hx hb dX3_readText_0 rfl (lv_at hl 0 rfl) ?_
  refine lv_iconst (v := (0 : Int32)) hx hb dX3_readText_1 (by decide) ?_
  refine va_put (D := D) (ci := 3) (v := .int ((0 : Int32))) (ty := .int) (C := RX3) (T := TX3) (N := 7) hx hb hts inX3 tyX3 tyX3_ok nmX3 hown hK hP hD hS 0 rfl rfl 3 (by decide) (hts (.fieldLink RX3 22 "ScooterFlags$Street" "count" "I") (by decide +kernel)) (fun _ h9 => h9) rfl (by decide +kernel) rfl rfl (Nat.le_of_ble_eq_true rfl) dX3_readText_2 (fun H locs hP hD hS => ?_)
  have hP : va_P D vwCl [(ab, .inr (3, [.ref abk, .ref abt, .ref abg, .int ((0 : Int32)), .int (st), .int (kn), .int (sb)])), (abk, .inl (cI, 10, .inl (kd))), (abt, .inl (cI, 10, .inl (tk))), (abg, .inl (cZ, 10, .inl (gr))), (aw, .inr (1, [.ref awc, .int (th), .int (ln), .int (le)])), (awc, .inl (cI, 60, .inl (ce)))] H := hP
  have hD : va_D A [(ab, .inr (3, [.ref abk, .ref abt, .ref abg, .int ((0 : Int32)), .int (st), .int (kn), .int (sb)])), (abk, .inl (cI, 10, .inl (kd))), (abt, .inl (cI, 10, .inl (tk))), (abg, .inl (cZ, 10, .inl (gr))), (aw, .inr (1, [.ref awc, .int (th), .int (ln), .int (le)])), (awc, .inl (cI, 60, .inl (ce)))] := hD
  refine lv_aload_n hx hb dX3_readText_5 rfl (lv_at hl 0 rfl) ?_
  refine lv_aload_n hx hb dX3_readText_6 rfl (lv_at hl 1 rfl) ?_
  refine lv_iload_n hx hb dX3_readText_7 rfl (lv_at hl 2 rfl) ?_
  refine lv_iload_n hx hb dX3_readText_8 rfl (lv_at hl 3 rfl) ?_
  obtain ⟨o1, h2, hg⟩ := bd hg
  refine xcViz (As := [.ref aw, .int (zi), .int (zn)]) (rest := []) (wc := [(ab, .inr (3, [.ref abk, .ref abt, .ref abg, .int ((0 : Int32)), .int (st), .int (kn), .int (sb)])), (abk, .inl (cI, 10, .inl (kd))), (abt, .inl (cI, 10, .inl (tk))), (abg, .inl (cZ, 10, .inl (gr))), (aw, .inr (1, [.ref awc, .int (th), .int (ln), .int (le)])), (awc, .inl (cI, 60, .inl (ce)))]) (wr := []) hz ⟨hx, hb, hml, hown, hts⟩ (c_X3_readHead l D cI cZ cR zt1 zt2 ab abk abt abg aw awc (0 : Int32) st kn sb th ln le kd tk gr ce zi zn h2) (cwV 3 hts gX3_readText_X3_readHead rfl rfl rfl (by decide +kernel) ⟨Nat.le_of_ble_eq_true rfl, Nat.le_of_ble_eq_true rfl⟩) hK hP hD hS hA [0, 1, 2, 3, 4, 5] [] rfl rfl (by decide) (by decide) (by decide) (va_recv hK hP (ci := 3) (q0 := 0) rfl rfl) rfl rfl hl.1 (lv_room (Nat.le_of_ble_eq_true rfl)) dX3_readText_9 ⟨Nat.le_of_ble_eq_true rfl, Nat.le_of_ble_eq_true rfl⟩ (fun r u H locs hu hP hD hS => ?_)
  obtain ⟨rfl, rfl⟩ := hu
  have hP : va_P D vwCl [(ab, .inr (3, [.ref abk, .ref abt, .ref abg, .int ((0 : Int32)), .int (o1.2.1), .int (o1.2.2.1), .int (o1.2.2.2)])), (abk, .inl (cI, 10, .inl (kd))), (abt, .inl (cI, 10, .inl (tk))), (abg, .inl (cZ, 10, .inl (gr))), (aw, .inr (1, [.ref awc, .int (th), .int (ln), .int (le)])), (awc, .inl (cI, 60, .inl (ce)))] H := hP.sub [0, 1, 2, 3, 4, 5] rfl
  have hD : va_D A [(ab, .inr (3, [.ref abk, .ref abt, .ref abg, .int ((0 : Int32)), .int (o1.2.1), .int (o1.2.2.1), .int (o1.2.2.2)])), (abk, .inl (cI, 10, .inl (kd))), (abt, .inl (cI, 10, .inl (tk))), (abg, .inl (cZ, 10, .inl (gr))), (aw, .inr (1, [.ref awc, .int (th), .int (ln), .int (le)])), (awc, .inl (cI, 60, .inl (ce)))] := hD.sub [0, 1, 2, 3, 4, 5] (by decide) rfl
  refine lv_istore (lv' := [(4, .int (o1.1)), (0, .ref ab), (1, .ref aw), (2, .int (zi)), (3, .int (zn))]) hx hb dX3_readText_12 hl (by decide) rfl (fun ls hl => ?_)
  refine lv_iconst (v := (4 : Int32)) hx hb dX3_readText_14 (by decide) ?_
  refine lv_istore (lv' := [(5, .int ((4 : Int32))), (4, .int (o1.1)), (0, .ref ab), (1, .ref aw), (2, .int (zi)), (3, .int (zn))]) hx hb dX3_readText_15 hl (by decide) rfl (fun ls hl => ?_)
  refine lv_iconst (v := (0 : Int32)) hx hb dX3_readText_17 (by decide) ?_
  refine lv_istore (lv' := [(6, .int ((0 : Int32))), (5, .int ((4 : Int32))), (4, .int (o1.1)), (0, .ref ab), (1, .ref aw), (2, .int (zi)), (3, .int (zn))]) hx hb dX3_readText_18 hl (by decide) rfl (fun ls hl => ?_)
  refine lp_20 _ ?_ 100 o1.1 (4 : Int32) (0 : Int32) (0 : Int32) o1.2.1 o1.2.2.1 o1.2.2.2 kd tk gr hg _ _ hP hD hS _ (lv_sub hl [3, 4, 5, 6, 2, 1, 0] rfl)
  · intro x4 x5 cn st kn sb kd tk gr hg H locs hP hD hS ls hl
    exact bk_97 x4 x5 cn st kn sb kd tk gr hg _ _ hP hD hS _ (lv_sub hl [0, 1, 2, 3] rfl)
