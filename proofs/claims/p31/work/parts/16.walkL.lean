def f_L_cell (zk_ : Int32) (sL : Nat) (xs : Nat → Int32) : Option (Int32) :=
  if (nI sL) ≤ zk_ then (some (((747796405 : Int32) * (zk_ + (1 : Int32))))) else (gx zk_ sL (some ((xs zk_.toNatClampNeg))))
set_option maxHeartbeats 4000000 in
set_option maxRecDepth 100000 in
theorem c_L_cell (l : Launch) (D : va_G) (cI cZ cR : ClassId) (sq : Nat) (zk_ : Int32) (sL : Nat) (xs : Nat → Int32) {res : Int32} (hg : f_L_cell zk_ sL xs = some res) : MIs l yL_cell wsL_cell ({ frames := 0, cells := 0, slots := 0, locals := 0 }) sq sL xs D (T3 cI cZ cR) [] [.ref sq, .int (zk_)] (fun r u => res = r ∧ u = []) := by
  refine entIs (Rn := RL) (by decide +kernel) rfl rfl (Nat.le_of_ble_eq_true rfl) (fun p e s m args below meth c A Q hx hb hr hml hts hown hlocks hA hP hD hK hS hz ls hl hQ => ?_)
  have hl : lv_has ls 2 [(0, .ref sq), (1, .int (zk_))] := hl
  rw [f_L_cell] at hg
  refine lv_iload_n hx hb dL_cell_0 rfl (lv_at hl 1 rfl) ?_
  refine lv_aload_n hx hb dL_cell_1 rfl (lv_at hl 0 rfl) ?_
  refine va_tlen (v := nI sL) hx hb hz hS rfl dL_cell_2 ?_
  refine lv_icmp_ge (tgt := 12) hx hb dL_cell_3 (by decide) (fun c1 => ?_) (fun c1 => ?_)
  · have hg := it hg c1
    refine lv_ldc (v := (747796405 : Int32)) hx hb hown (hts (.constant RL 7 (747796405 : Int32)) (by decide +kernel)) dL_cell_12 ?_
    refine lv_iload_n hx hb dL_cell_14 rfl (lv_at hl 1 rfl) ?_
    refine lv_iconst (v := (1 : Int32)) hx hb dL_cell_15 (by decide) ?_
    refine lv_iadd hx hb dL_cell_16 ?_
    refine lv_imul hx hb dL_cell_17 ?_
    obtain rfl := Option.some.inj hg
    exact rti hQ hx hb hr hlocks hK hP hD hS dL_cell_18 ⟨rfl, rfl⟩
  · have hg := ie hg c1
    refine lv_aload_n hx hb dL_cell_6 rfl (lv_at hl 0 rfl) ?_
    refine lv_iload_n hx hb dL_cell_7 rfl (lv_at hl 1 rfl) ?_
    obtain ⟨g2, hg⟩ := gxo hg
    refine va_ti hx hb hz hS g2 (v := .int ((xs zk_.toNatClampNeg))) rfl dL_cell_8 ?_
    refine lv_goto (tgt := 18) hx hb dL_cell_9 (by decide) ?_
    obtain rfl := Option.some.inj hg
    exact rti hQ hx hb hr hlocks hK hP hD hS dL_cell_18 ⟨rfl, rfl⟩
def f_L_some (zv : Int32) (zn : Int32) : Option (Int32) :=
  gd (¬ zn = 0) (some (((zv &&& (2147483647 : Int32)) - (zv &&& (2147483647 : Int32)) / zn * zn)))
set_option maxHeartbeats 4000000 in
set_option maxRecDepth 100000 in
theorem c_L_some (l : Launch) (D : va_G) (cI cZ cR : ClassId)  (zv : Int32) (zn : Int32) {res : Int32} (hg : f_L_some zv zn = some res) : MI l yL_some wsL_some ({ frames := 0, cells := 0, slots := 0, locals := 0 }) D (T3 cI cZ cR) [] [.int (zv), .int (zn)] (fun r u => res = r ∧ u = []) := by
  refine entI (Rn := RL) (by decide +kernel) rfl rfl (Nat.le_of_ble_eq_true rfl) (fun p e s m args below meth c A Q hx hb hr hml hts hown hlocks hA hP hD hK hS ls hl hQ => ?_)
  have hl : lv_has ls 2 [(0, .int (zv)), (1, .int (zn))] := hl
  rw [f_L_some] at hg
  refine lv_iload_n hx hb dL_some_0 rfl (lv_at hl 0 rfl) ?_
  refine lv_ldc (v := (2147483647 : Int32)) hx hb hown (hts (.constant RL 8 (2147483647 : Int32)) (by decide +kernel)) dL_some_1 ?_
  refine lv_iand hx hb dL_some_3 ?_
  refine lv_iload_n hx hb dL_some_4 rfl (lv_at hl 1 rfl) ?_
  obtain ⟨g1, hg⟩ := gdo hg
  refine lv_irem hx hb dL_some_5 g1 ?_
  obtain rfl := Option.some.inj hg
  exact rti hQ hx hb hr hlocks hK hP hD hS dL_some_6 ⟨rfl, rfl⟩
def f_L_drag (gg : Nat → Int32) (zf : Int32) : Option (Int32) :=
  gx ((14 : Int32) + zf) 25 (gx ((4 : Int32) + zf) 25 (if (gg ((4 : Int32) + zf).toNatClampNeg) = (1 : Int32) then (some (((gg ((14 : Int32) + zf).toNatClampNeg) + (1 : Int32)))) else (gx ((4 : Int32) + zf) 25 (if (gg ((4 : Int32) + zf).toNatClampNeg) = (2 : Int32) then (some (((gg ((14 : Int32) + zf).toNatClampNeg) / (2 : Int32)))) else (some ((gg ((14 : Int32) + zf).toNatClampNeg)))))))
set_option maxHeartbeats 4000000 in
set_option maxRecDepth 100000 in
theorem c_L_drag (l : Launch) (D : va_G) (cI cZ cR : ClassId) (ag : Nat) (gg : Nat → Int32) (zf : Int32) {res : Int32} (hg : f_L_drag gg zf = some res) : MI l yL_drag wsL_drag ({ frames := 0, cells := 0, slots := 0, locals := 0 }) D (T3 cI cZ cR) [(ag, .inl (cI, 25, .inl (gg)))] [.ref ag, .int (zf)] (fun r u => res = r ∧ u = [(ag, .inl (cI, 25, .inl (gg)))]) := by
  refine entI (Rn := RL) (by decide +kernel) rfl rfl (Nat.le_of_ble_eq_true rfl) (fun p e s m args below meth c A Q hx hb hr hml hts hown hlocks hA hP hD hK hS ls hl hQ => ?_)
  have hl : lv_has ls 3 [(0, .ref ag), (1, .int (zf))] := hl
  rw [f_L_drag] at hg
  refine lv_aload_n hx hb dL_drag_0 rfl (lv_at hl 0 rfl) ?_
  refine lv_bipush (v := (14 : Int32)) hx hb dL_drag_1 (by decide) ?_
  refine lv_iload_n hx hb dL_drag_3 rfl (lv_at hl 1 rfl) ?_
  refine lv_iadd hx hb dL_drag_4 ?_
  obtain ⟨g1, hg⟩ := gxo hg
  refine va_iald hx hb hK hP 0 0 rfl rfl g1 dL_drag_5 ?_
  refine W.eq (g2 := F0 m 6 ls [.int ((gg ((14 : Int32) + zf).toNatClampNeg))]) rfl ?_
  refine lv_istore_n (lv' := [(2, .int ((gg ((14 : Int32) + zf).toNatClampNeg))), (0, .ref ag), (1, .int (zf))]) hx hb dL_drag_6 rfl hl (by decide) rfl (fun ls hl => ?_)
  refine lv_aload_n hx hb dL_drag_7 rfl (lv_at hl 1 rfl) ?_
  refine lv_iconst (v := (4 : Int32)) hx hb dL_drag_8 (by decide) ?_
  refine lv_iload_n hx hb dL_drag_9 rfl (lv_at hl 2 rfl) ?_
  refine lv_iadd hx hb dL_drag_10 ?_
  obtain ⟨g2, hg⟩ := gxo hg
  refine va_iald hx hb hK hP 0 0 rfl rfl g2 dL_drag_11 ?_
  refine W.eq (g2 := F0 m 12 ls [.int ((gg ((4 : Int32) + zf).toNatClampNeg))]) rfl ?_
  refine lv_iconst (v := (1 : Int32)) hx hb dL_drag_12 (by decide) ?_
  refine lv_icmp_ne (tgt := 22) hx hb dL_drag_13 (by decide) (fun c3 => ?_) (fun c3 => ?_)
  · have hg := ie hg c3
    refine lv_aload_n hx hb dL_drag_22 rfl (lv_at hl 1 rfl) ?_
    refine lv_iconst (v := (4 : Int32)) hx hb dL_drag_23 (by decide) ?_
    refine lv_iload_n hx hb dL_drag_24 rfl (lv_at hl 2 rfl) ?_
    refine lv_iadd hx hb dL_drag_25 ?_
    obtain ⟨g4, hg⟩ := gxo hg
    refine va_iald hx hb hK hP 0 0 rfl rfl g4 dL_drag_26 ?_
    refine W.eq (g2 := F0 m 27 ls [.int ((gg ((4 : Int32) + zf).toNatClampNeg))]) rfl ?_
    refine lv_iconst (v := (2 : Int32)) hx hb dL_drag_27 (by decide) ?_
    refine lv_icmp_ne (tgt := 37) hx hb dL_drag_28 (by decide) (fun c5 => ?_) (fun c5 => ?_)
    · have hg := ie hg c5
      refine lv_iload_n hx hb dL_drag_37 rfl (lv_at hl 0 rfl) ?_
      obtain rfl := Option.some.inj hg
      exact rti hQ hx hb hr hlocks hK hP hD hS dL_drag_38 ⟨rfl, rfl⟩
    · have hg := it hg c5
      refine lv_iload_n hx hb dL_drag_31 rfl (lv_at hl 0 rfl) ?_
      refine lv_iconst (v := (2 : Int32)) hx hb dL_drag_32 (by decide) ?_
      refine lv_idiv hx hb dL_drag_33 (by decide) ?_
      refine lv_goto (tgt := 38) hx hb dL_drag_34 (by decide) ?_
      obtain rfl := Option.some.inj hg
      exact rti hQ hx hb hr hlocks hK hP hD hS dL_drag_38 ⟨rfl, rfl⟩
  · have hg := it hg c3
    refine lv_iload_n hx hb dL_drag_16 rfl (lv_at hl 0 rfl) ?_
    refine lv_iconst (v := (1 : Int32)) hx hb dL_drag_17 (by decide) ?_
    refine lv_iadd hx hb dL_drag_18 ?_
    refine lv_goto (tgt := 38) hx hb dL_drag_19 (by decide) ?_
    obtain rfl := Option.some.inj hg
    exact rti hQ hx hb hr hlocks hK hP hD hS dL_drag_38 ⟨rfl, rfl⟩
def f_L_go_174_225 (kh174 : Int32 → Int32 → Int32 → Int32 → Int32 → Option (Int32)) (x3 : Int32) (x4 : Int32) (x5 : Int32) (x6 : Int32) (x7 : Int32) : Option (Int32) :=
  kh174 x3 x4 x5 x6 (x7 + (-1 : Int32))
def f_L_go_L174 (gg : Nat → Int32) (k231 : Int32 → Int32 → Int32 → Int32 → Option (Int32)) : Nat → Int32 → Int32 → Int32 → Int32 → Int32 → Option (Int32)
  | 0, _, _, _, _, _ => none
  | n + 1, x3, x4, x5, x6, x7 => if x7 ≤ 0 then (k231 x3 x4 x5 x6) else (gx (0 : Int32) 25 (if (gg (0 : Int32).toNatClampNeg) ≤ x6 then (k231 x3 x4 x5 x6) else (gx (0 : Int32) 25 (if (x6 + (1 : Int32)) = (gg (0 : Int32).toNatClampNeg) then (f_L_go_174_225 (f_L_go_L174 gg k231 n) x3 x4 x5 (x6 + (1 : Int32)) x7) else (if x5 < (4 : Int32) then (f_L_go_174_225 (f_L_go_L174 gg k231 n) x3 x4 x5 (x6 + (1 : Int32)) x7) else (gx (24 : Int32) 25 (if (((gg (24 : Int32).toNatClampNeg) >>> ((x6 + (1 : Int32)) &&& 31)) &&& (1 : Int32)) = 0 then (f_L_go_174_225 (f_L_go_L174 gg k231 n) x3 x4 x5 (x6 + (1 : Int32)) x7) else (f_L_go_174_225 (f_L_go_L174 gg k231 n) x3 x4 (0 : Int32) (x6 + (1 : Int32)) (1 : Int32)))))))))
def f_L_go_231  (x3 : Int32) (x4 : Int32) (x5 : Int32) (x6 : Int32) : Option (Int32) :=
  some ((((((84 : Int32) * x6) + ((12 : Int32) * x5)) + ((3 : Int32) * x4)) + x3))
def f_L_go_168 (gg : Nat → Int32) (x3 : Int32) (x4 : Int32) (x5 : Int32) (x6 : Int32) : Option (Int32) :=
  f_L_go_L174 gg (fun (x3 : Int32) (x4 : Int32) (x5 : Int32) (x6 : Int32) => f_L_go_231 x3 x4 x5 x6) 100 x3 x4 x5 x6 (x5 / (2 : Int32))
def f_L_go_149 (gg : Nat → Int32) (x3 : Int32) (x4 : Int32) (x5 : Int32) (x6 : Int32) : Option (Int32) :=
  (f_L_drag gg x6).bind (fun o13 => if 0 ≤ (x5 - o13) then (f_L_go_168 gg x3 x4 (x5 - o13) x6) else (f_L_go_168 gg x3 x4 (0 : Int32) x6))
def f_L_go_138 (gg : Nat → Int32) (x3 : Int32) (x4 : Int32) (x5 : Int32) (x6 : Int32) : Option (Int32) :=
  if x5 ≤ (6 : Int32) then (f_L_go_149 gg x3 x4 x5 x6) else (f_L_go_149 gg x3 x4 (6 : Int32) x6)
def f_L_go_130 (gg : Nat → Int32) (za : Int32) (x3 : Int32) (x4 : Int32) (x5 : Int32) (x6 : Int32) : Option (Int32) :=
  if za = (3 : Int32) then (f_L_go_138 gg (x3 + (-1 : Int32)) x4 x5 x6) else (f_L_go_138 gg x3 x4 x5 x6)
def f_L_go_122 (gg : Nat → Int32) (za : Int32) (x3 : Int32) (x4 : Int32) (x5 : Int32) (x6 : Int32) : Option (Int32) :=
  if za = (3 : Int32) then (f_L_go_130 gg za x3 x4 (x5 + (-2 : Int32)) x6) else (f_L_go_130 gg za x3 x4 x5 x6)
def f_L_go_114 (gg : Nat → Int32) (za : Int32) (x3 : Int32) (x4 : Int32) (x5 : Int32) (x6 : Int32) : Option (Int32) :=
  if za = (1 : Int32) then (f_L_go_122 gg za x3 (0 : Int32) x5 x6) else (f_L_go_122 gg za x3 x4 x5 x6)
def f_L_go_107 (gg : Nat → Int32) (za : Int32) (x3 : Int32) (x4 : Int32) (x5 : Int32) (x6 : Int32) : Option (Int32) :=
  if za = 0 then (f_L_go_114 gg za x3 (x4 + (1 : Int32)) x5 x6) else (f_L_go_114 gg za x3 x4 x5 x6)
def f_L_go_80 (gg : Nat → Int32) (za : Int32) (x3 : Int32) (x4 : Int32) (x5 : Int32) (x6 : Int32) : Option (Int32) :=
  if za = (4 : Int32) then (some ((((84 : Int32) * (x6 + (1 : Int32))) + x3))) else (if za = 0 then (gx (1 : Int32) 25 (f_L_go_107 gg za x3 x4 (x5 + (gg (1 : Int32).toNatClampNeg)) x6)) else (f_L_go_107 gg za x3 x4 x5 x6))
def f_L_go_63 (gg : Nat → Int32) (za : Int32) (x3 : Int32) (x4 : Int32) (x5 : Int32) (x6 : Int32) : Option (Int32) :=
  if za = (3 : Int32) then (if x5 = 0 then (some ((-9 : Int32))) else (if x3 = 0 then (some ((-9 : Int32))) else (f_L_go_80 gg za x3 x4 x5 x6))) else (f_L_go_80 gg za x3 x4 x5 x6)
def f_L_go_53 (gg : Nat → Int32) (za : Int32) (x3 : Int32) (x4 : Int32) (x5 : Int32) (x6 : Int32) : Option (Int32) :=
  if za = (2 : Int32) then (if x5 = 0 then (some ((-9 : Int32))) else (f_L_go_63 gg za x3 x4 x5 x6)) else (f_L_go_63 gg za x3 x4 x5 x6)
def f_L_go (gg : Nat → Int32) (zt : Int32) (za : Int32) : Option (Int32) :=
  gx (0 : Int32) 25 (if (zt / (84 : Int32)) = (gg (0 : Int32).toNatClampNeg) then (some ((-9 : Int32))) else (if za = 0 then (gx (2 : Int32) 25 (if ((zt / (3 : Int32)) - (zt / (3 : Int32)) / (4 : Int32) * (4 : Int32)) = (gg (2 : Int32).toNatClampNeg) then (some ((-9 : Int32))) else (if ((zt / (12 : Int32)) - (zt / (12 : Int32)) / (7 : Int32) * (7 : Int32)) = (6 : Int32) then (some ((-9 : Int32))) else (f_L_go_53 gg za (zt - zt / (3 : Int32) * (3 : Int32)) ((zt / (3 : Int32)) - (zt / (3 : Int32)) / (4 : Int32) * (4 : Int32)) ((zt / (12 : Int32)) - (zt / (12 : Int32)) / (7 : Int32) * (7 : Int32)) (zt / (84 : Int32)))))) else (f_L_go_53 gg za (zt - zt / (3 : Int32) * (3 : Int32)) ((zt / (3 : Int32)) - (zt / (3 : Int32)) / (4 : Int32) * (4 : Int32)) ((zt / (12 : Int32)) - (zt / (12 : Int32)) / (7 : Int32) * (7 : Int32)) (zt / (84 : Int32)))))
set_option maxHeartbeats 4000000 in
set_option maxRecDepth 100000 in
theorem c_L_go (l : Launch) (D : va_G) (cI cZ cR : ClassId) (ag : Nat) (gg : Nat → Int32) (zt : Int32) (za : Int32) {res : Int32} (hg : f_L_go gg zt za = some res) : MI l yL_go wsL_go ({ frames := 1, cells := 0, slots := 0, locals := 22 }) D (T3 cI cZ cR) [(ag, .inl (cI, 25, .inl (gg)))] [.ref ag, .int (zt), .int (za)] (fun r u => res = r ∧ u = [(ag, .inl (cI, 25, .inl (gg)))]) := by
  refine entI (Rn := RL) (by decide +kernel) rfl rfl (Nat.le_of_ble_eq_true rfl) (fun p e s m args below meth c A Q hx hb hr hml hts hown hlocks hA hP hD hK hS ls hl hQ => ?_)
  have lp_174 : ∀ (k231 : Int32 → Int32 → Int32 → Int32 → Option (Int32)) (hk231 : ∀ (x3 : Int32) (x4 : Int32) (x5 : Int32) (x6 : Int32), k231 x3 x4 x5 x6 = some res → ∀ (H : Heap) (locs : List Loc), va_P D vwCl [(ag, .inl (cI, 25, .inl (gg)))] H → va_D A [(ag, .inl (cI, 25, .inl (gg)))] → va_S A s.heap H locs → ∀ (ls : Array Slot), lv_has ls 8 [(3, .int (x3)), (4, .int (x4)), (5, .int (x5)), (6, .int (x6))] → W p l e ({ frames := 1, cells := 0, slots := 0, locals := 22 }) s m args below meth c H locs 0 0 Q (F0 m 231 ls [])) (n : Nat) (x3 : Int32) (x4 : Int32) (x5 : Int32) (x6 : Int32) (x7 : Int32), f_L_go_L174 gg k231 n x3 x4 x5 x6 x7 = some res → ∀ (H : Heap) (locs : List Loc), va_P D vwCl [(ag, .inl (cI, 25, .inl (gg)))] H → va_D A [(ag, .inl (cI, 25, .inl (gg)))] → va_S A s.heap H locs → ∀ (ls : Array Slot), lv_has ls 8 [(0, .ref ag), (3, .int (x3)), (4, .int (x4)), (5, .int (x5)), (6, .int (x6)), (7, .int (x7))] → W p l e ({ frames := 1, cells := 0, slots := 0, locals := 22 }) s m args below meth c H locs 0 0 Q (F0 m 174 ls []) := by
    intro k231 hk231 n
    induction n with
    | zero => intro x3 x4 x5 x6 x7 hg; rw [f_L_go_L174] at hg; cases hg
    | succ n ih =>
      have bk_225 : ∀ (x3 : Int32) (x4 : Int32) (x5 : Int32) (x6 : Int32) (x7 : Int32), f_L_go_174_225 (f_L_go_L174 gg k231 n) x3 x4 x5 x6 x7 = some res → ∀ (H : Heap) (locs : List Loc), va_P D vwCl [(ag, .inl (cI, 25, .inl (gg)))] H → va_D A [(ag, .inl (cI, 25, .inl (gg)))] → va_S A s.heap H locs → ∀ (ls : Array Slot), lv_has ls 8 [(0, .ref ag), (3, .int (x3)), (4, .int (x4)), (5, .int (x5)), (6, .int (x6)), (7, .int (x7))] → W p l e ({ frames := 1, cells := 0, slots := 0, locals := 22 }) s m args below meth c H locs 0 0 Q (F0 m 225 ls []) := by
        intro x3 x4 x5 x6 x7 hg H locs hP hD hS ls hl
        rw [f_L_go_174_225] at hg
        refine lv_iinc (v := (x7 + (-1 : Int32))) (lv' := [(7, .int ((x7 + (-1 : Int32)))), (0, .ref ag), (3, .int (x3)), (4, .int (x4)), (5, .int (x5)), (6, .int (x6))]) hx hb dL_go_225 hl (k := 5) rfl rfl (by decide) rfl (fun ls hl => ?_)
        refine lv_goto (tgt := 174) hx hb dL_go_228 (by decide) ?_
        exact ih x3 x4 x5 x6 (x7 + (-1 : Int32)) hg _ _ hP hD hS _ (lv_sub hl [1, 2, 3, 4, 5, 0] rfl)
      intro x3 x4 x5 x6 x7 hg H locs hP hD hS ls hl
      rw [f_L_go_L174] at hg
      refine lv_iload hx hb dL_go_174 (lv_at hl 5 rfl) ?_
      refine lv_if_le (tgt := 231) hx hb dL_go_176 (by decide) (fun c16 => ?_) (fun c16 => ?_)
      · have hg := it hg c16
        exact hk231 x3 x4 x5 x6 hg _ _ hP hD hS _ (lv_sub hl [1, 2, 3, 4] rfl)
      · have hg := ie hg c16
        refine lv_iload hx hb dL_go_179 (lv_at hl 4 rfl) ?_
        refine lv_aload_n hx hb dL_go_181 rfl (lv_at hl 0 rfl) ?_
        refine lv_iconst (v := (0 : Int32)) hx hb dL_go_182 (by decide) ?_
        obtain ⟨g17, hg⟩ := gxo hg
        refine va_iald hx hb hK hP 0 0 rfl rfl g17 dL_go_183 ?_
        refine W.eq (g2 := F0 m 184 ls [.int ((gg (0 : Int32).toNatClampNeg)), .int (x6)]) rfl ?_
        refine lv_icmp_ge (tgt := 231) hx hb dL_go_184 (by decide) (fun c18 => ?_) (fun c18 => ?_)
        · have hg := it hg c18
          exact hk231 x3 x4 x5 x6 hg _ _ hP hD hS _ (lv_sub hl [1, 2, 3, 4] rfl)
        · have hg := ie hg c18
          refine lv_iinc (v := (x6 + (1 : Int32))) (lv' := [(6, .int ((x6 + (1 : Int32)))), (0, .ref ag), (3, .int (x3)), (4, .int (x4)), (5, .int (x5)), (7, .int (x7))]) hx hb dL_go_187 hl (k := 4) rfl rfl (by decide) rfl (fun ls hl => ?_)
          refine lv_iload hx hb dL_go_190 (lv_at hl 0 rfl) ?_
          refine lv_aload_n hx hb dL_go_192 rfl (lv_at hl 1 rfl) ?_
          refine lv_iconst (v := (0 : Int32)) hx hb dL_go_193 (by decide) ?_
          obtain ⟨g19, hg⟩ := gxo hg
          refine va_iald hx hb hK hP 0 0 rfl rfl g19 dL_go_194 ?_
          refine W.eq (g2 := F0 m 195 ls [.int ((gg (0 : Int32).toNatClampNeg)), .int ((x6 + (1 : Int32)))]) rfl ?_
          refine lv_icmp_eq (tgt := 225) hx hb dL_go_195 (by decide) (fun c20 => ?_) (fun c20 => ?_)
          · have hg := it hg c20
            exact bk_225 x3 x4 x5 (x6 + (1 : Int32)) x7 hg _ _ hP hD hS _ (lv_sub hl [1, 2, 3, 4, 0, 5] rfl)
          · have hg := ie hg c20
            refine lv_iload hx hb dL_go_198 (lv_at hl 4 rfl) ?_
            refine lv_iconst (v := (4 : Int32)) hx hb dL_go_200 (by decide) ?_
            refine lv_icmp_lt (tgt := 225) hx hb dL_go_201 (by decide) (fun c21 => ?_) (fun c21 => ?_)
            · have hg := it hg c21
              exact bk_225 x3 x4 x5 (x6 + (1 : Int32)) x7 hg _ _ hP hD hS _ (lv_sub hl [1, 2, 3, 4, 0, 5] rfl)
            · have hg := ie hg c21
              refine lv_aload_n hx hb dL_go_204 rfl (lv_at hl 1 rfl) ?_
              refine lv_bipush (v := (24 : Int32)) hx hb dL_go_205 (by decide) ?_
              obtain ⟨g22, hg⟩ := gxo hg
              refine va_iald hx hb hK hP 0 0 rfl rfl g22 dL_go_207 ?_
              refine W.eq (g2 := F0 m 208 ls [.int ((gg (24 : Int32).toNatClampNeg))]) rfl ?_
              refine lv_iload hx hb dL_go_208 (lv_at hl 0 rfl) ?_
              refine lv_ishr hx hb dL_go_210 ?_
              refine lv_iconst (v := (1 : Int32)) hx hb dL_go_211 (by decide) ?_
              refine lv_iand hx hb dL_go_212 ?_
              refine lv_if_ne (tgt := 219) hx hb dL_go_213 (by decide) (fun c23 => ?_) (fun c23 => ?_)
              · have hg := ie hg c23
                refine lv_iconst (v := (0 : Int32)) hx hb dL_go_219 (by decide) ?_
                refine lv_istore (lv' := [(5, .int ((0 : Int32))), (6, .int ((x6 + (1 : Int32)))), (0, .ref ag), (3, .int (x3)), (4, .int (x4)), (7, .int (x7))]) hx hb dL_go_220 hl (by decide) rfl (fun ls hl => ?_)
                refine lv_iconst (v := (1 : Int32)) hx hb dL_go_222 (by decide) ?_
                refine lv_istore (lv' := [(7, .int ((1 : Int32))), (5, .int ((0 : Int32))), (6, .int ((x6 + (1 : Int32)))), (0, .ref ag), (3, .int (x3)), (4, .int (x4))]) hx hb dL_go_223 hl (by decide) rfl (fun ls hl => ?_)
                exact bk_225 x3 x4 (0 : Int32) (x6 + (1 : Int32)) (1 : Int32) hg _ _ hP hD hS _ (lv_sub hl [3, 4, 5, 1, 2, 0] rfl)
              · have hg := it hg c23
                refine lv_goto (tgt := 225) hx hb dL_go_216 (by decide) ?_
                exact bk_225 x3 x4 x5 (x6 + (1 : Int32)) x7 hg _ _ hP hD hS _ (lv_sub hl [1, 2, 3, 4, 0, 5] rfl)
  have bk_231 : ∀ (x3 : Int32) (x4 : Int32) (x5 : Int32) (x6 : Int32), f_L_go_231 x3 x4 x5 x6 = some res → ∀ (H : Heap) (locs : List Loc), va_P D vwCl [(ag, .inl (cI, 25, .inl (gg)))] H → va_D A [(ag, .inl (cI, 25, .inl (gg)))] → va_S A s.heap H locs → ∀ (ls : Array Slot), lv_has ls 8 [(3, .int (x3)), (4, .int (x4)), (5, .int (x5)), (6, .int (x6))] → W p l e ({ frames := 1, cells := 0, slots := 0, locals := 22 }) s m args below meth c H locs 0 0 Q (F0 m 231 ls []) := by
    intro x3 x4 x5 x6 hg H locs hP hD hS ls hl
    rw [f_L_go_231] at hg
    refine lv_bipush (v := (84 : Int32)) hx hb dL_go_231 (by decide) ?_
    refine lv_iload hx hb dL_go_233 (lv_at hl 3 rfl) ?_
    refine lv_imul hx hb dL_go_235 ?_
    refine lv_bipush (v := (12 : Int32)) hx hb dL_go_236 (by decide) ?_
    refine lv_iload hx hb dL_go_238 (lv_at hl 2 rfl) ?_
    refine lv_imul hx hb dL_go_240 ?_
    refine lv_iadd hx hb dL_go_241 ?_
    refine lv_iconst (v := (3 : Int32)) hx hb dL_go_242 (by decide) ?_
    refine lv_iload hx hb dL_go_243 (lv_at hl 1 rfl) ?_
    refine lv_imul hx hb dL_go_245 ?_
    refine lv_iadd hx hb dL_go_246 ?_
    refine lv_iload_n hx hb dL_go_247 rfl (lv_at hl 0 rfl) ?_
    refine lv_iadd hx hb dL_go_248 ?_
    obtain rfl := Option.some.inj hg
    exact rti hQ hx hb hr hlocks hK hP hD hS dL_go_249 ⟨rfl, rfl⟩
  have bk_168 : ∀ (x3 : Int32) (x4 : Int32) (x5 : Int32) (x6 : Int32), f_L_go_168 gg x3 x4 x5 x6 = some res → ∀ (H : Heap) (locs : List Loc), va_P D vwCl [(ag, .inl (cI, 25, .inl (gg)))] H → va_D A [(ag, .inl (cI, 25, .inl (gg)))] → va_S A s.heap H locs → ∀ (ls : Array Slot), lv_has ls 8 [(0, .ref ag), (3, .int (x3)), (4, .int (x4)), (5, .int (x5)), (6, .int (x6))] → W p l e ({ frames := 1, cells := 0, slots := 0, locals := 22 }) s m args below meth c H locs 0 0 Q (F0 m 168 ls []) := by
    intro x3 x4 x5 x6 hg H locs hP hD hS ls hl
    rw [f_L_go_168] at hg
    refine lv_iload hx hb dL_go_168 (lv_at hl 3 rfl) ?_
    refine lv_iconst (v := (2 : Int32)) hx hb dL_go_170 (by decide) ?_
    refine lv_idiv hx hb dL_go_171 (by decide) ?_
    refine lv_istore (lv' := [(7, .int ((x5 / (2 : Int32)))), (0, .ref ag), (3, .int (x3)), (4, .int (x4)), (5, .int (x5)), (6, .int (x6))]) hx hb dL_go_172 hl (by decide) rfl (fun ls hl => ?_)
    refine lp_174 _ ?_ 100 x3 x4 x5 x6 (x5 / (2 : Int32)) hg _ _ hP hD hS _ (lv_sub hl [1, 2, 3, 4, 5, 0] rfl)
    · intro x3 x4 x5 x6 hg H locs hP hD hS ls hl
      exact bk_231 x3 x4 x5 x6 hg _ _ hP hD hS _ (lv_sub hl [0, 1, 2, 3] rfl)
  have bk_149 : ∀ (x3 : Int32) (x4 : Int32) (x5 : Int32) (x6 : Int32), f_L_go_149 gg x3 x4 x5 x6 = some res → ∀ (H : Heap) (locs : List Loc), va_P D vwCl [(ag, .inl (cI, 25, .inl (gg)))] H → va_D A [(ag, .inl (cI, 25, .inl (gg)))] → va_S A s.heap H locs → ∀ (ls : Array Slot), lv_has ls 8 [(0, .ref ag), (3, .int (x3)), (4, .int (x4)), (5, .int (x5)), (6, .int (x6))] → W p l e ({ frames := 1, cells := 0, slots := 0, locals := 22 }) s m args below meth c H locs 0 0 Q (F0 m 149 ls []) := by
    intro x3 x4 x5 x6 hg H locs hP hD hS ls hl
    rw [f_L_go_149] at hg
    refine lv_iload hx hb dL_go_149 (lv_at hl 3 rfl) ?_
    refine lv_aload_n hx hb dL_go_151 rfl (lv_at hl 0 rfl) ?_
    refine lv_iload hx hb dL_go_152 (lv_at hl 4 rfl) ?_
    obtain ⟨o13, h14, hg⟩ := bd hg
    refine xcSi (As := [.ref ag, .int (x6)]) (rest := [.int (x5)]) (wc := [(ag, .inl (cI, 25, .inl (gg)))]) (wr := []) ⟨hx, hb, hml, hown, hts⟩ (c_L_drag l D cI cZ cR ag gg x6 h14) (cwS 2 hts gL_go_L_drag rfl rfl rfl (by decide +kernel) ⟨Nat.le_of_ble_eq_true rfl, Nat.le_of_ble_eq_true rfl⟩) hK hP hD hS hA [0] [] rfl rfl (by decide) (by decide) (by decide) rfl rfl hl.1 (lv_room (Nat.le_of_ble_eq_true rfl)) dL_go_154 ⟨Nat.le_of_ble_eq_true rfl, Nat.le_of_ble_eq_true rfl⟩ (fun r u H locs hu hP hD hS => ?_)
    obtain ⟨rfl, rfl⟩ := hu
    have hP : va_P D vwCl [(ag, .inl (cI, 25, .inl (gg)))] H := hP.sub [0] rfl
    have hD : va_D A [(ag, .inl (cI, 25, .inl (gg)))] := hD.sub [0] (by decide) rfl
    refine lv_isub hx hb dL_go_157 ?_
    refine lv_istore (lv' := [(5, .int ((x5 - o13))), (0, .ref ag), (3, .int (x3)), (4, .int (x4)), (6, .int (x6))]) hx hb dL_go_158 hl (by decide) rfl (fun ls hl => ?_)
    refine lv_iload hx hb dL_go_160 (lv_at hl 0 rfl) ?_
    refine lv_if_ge (tgt := 168) hx hb dL_go_162 (by decide) (fun c15 => ?_) (fun c15 => ?_)
    · have hg := it hg c15
      exact bk_168 x3 x4 (x5 - o13) x6 hg _ _ hP hD hS _ (lv_sub hl [1, 2, 3, 0, 4] rfl)
    · have hg := ie hg c15
      refine lv_iconst (v := (0 : Int32)) hx hb dL_go_165 (by decide) ?_
      refine lv_istore (lv' := [(5, .int ((0 : Int32))), (0, .ref ag), (3, .int (x3)), (4, .int (x4)), (6, .int (x6))]) hx hb dL_go_166 hl (by decide) rfl (fun ls hl => ?_)
      exact bk_168 x3 x4 (0 : Int32) x6 hg _ _ hP hD hS _ (lv_sub hl [1, 2, 3, 0, 4] rfl)
  have bk_138 : ∀ (x3 : Int32) (x4 : Int32) (x5 : Int32) (x6 : Int32), f_L_go_138 gg x3 x4 x5 x6 = some res → ∀ (H : Heap) (locs : List Loc), va_P D vwCl [(ag, .inl (cI, 25, .inl (gg)))] H → va_D A [(ag, .inl (cI, 25, .inl (gg)))] → va_S A s.heap H locs → ∀ (ls : Array Slot), lv_has ls 8 [(0, .ref ag), (3, .int (x3)), (4, .int (x4)), (5, .int (x5)), (6, .int (x6))] → W p l e ({ frames := 1, cells := 0, slots := 0, locals := 22 }) s m args below meth c H locs 0 0 Q (F0 m 138 ls []) := by
    intro x3 x4 x5 x6 hg H locs hP hD hS ls hl
    rw [f_L_go_138] at hg
    refine lv_iload hx hb dL_go_138 (lv_at hl 3 rfl) ?_
    refine lv_bipush (v := (6 : Int32)) hx hb dL_go_140 (by decide) ?_
    refine lv_icmp_le (tgt := 149) hx hb dL_go_142 (by decide) (fun c12 => ?_) (fun c12 => ?_)
    · have hg := it hg c12
      exact bk_149 x3 x4 x5 x6 hg _ _ hP hD hS _ (lv_sub hl [0, 1, 2, 3, 4] rfl)
    · have hg := ie hg c12
      refine lv_bipush (v := (6 : Int32)) hx hb dL_go_145 (by decide) ?_
      refine lv_istore (lv' := [(5, .int ((6 : Int32))), (0, .ref ag), (3, .int (x3)), (4, .int (x4)), (6, .int (x6))]) hx hb dL_go_147 hl (by decide) rfl (fun ls hl => ?_)
      exact bk_149 x3 x4 (6 : Int32) x6 hg _ _ hP hD hS _ (lv_sub hl [1, 2, 3, 0, 4] rfl)
  have bk_130 : ∀ (x3 : Int32) (x4 : Int32) (x5 : Int32) (x6 : Int32), f_L_go_130 gg za x3 x4 x5 x6 = some res → ∀ (H : Heap) (locs : List Loc), va_P D vwCl [(ag, .inl (cI, 25, .inl (gg)))] H → va_D A [(ag, .inl (cI, 25, .inl (gg)))] → va_S A s.heap H locs → ∀ (ls : Array Slot), lv_has ls 8 [(0, .ref ag), (2, .int (za)), (3, .int (x3)), (4, .int (x4)), (5, .int (x5)), (6, .int (x6))] → W p l e ({ frames := 1, cells := 0, slots := 0, locals := 22 }) s m args below meth c H locs 0 0 Q (F0 m 130 ls []) := by
    intro x3 x4 x5 x6 hg H locs hP hD hS ls hl
    rw [f_L_go_130] at hg
    refine lv_iload_n hx hb dL_go_130 rfl (lv_at hl 1 rfl) ?_
    refine lv_iconst (v := (3 : Int32)) hx hb dL_go_131 (by decide) ?_
    refine lv_icmp_ne (tgt := 138) hx hb dL_go_132 (by decide) (fun c11 => ?_) (fun c11 => ?_)
    · have hg := ie hg c11
      exact bk_138 x3 x4 x5 x6 hg _ _ hP hD hS _ (lv_sub hl [0, 2, 3, 4, 5] rfl)
    · have hg := it hg c11
      refine lv_iinc (v := (x3 + (-1 : Int32))) (lv' := [(3, .int ((x3 + (-1 : Int32)))), (0, .ref ag), (2, .int (za)), (4, .int (x4)), (5, .int (x5)), (6, .int (x6))]) hx hb dL_go_135 hl (k := 2) rfl rfl (by decide) rfl (fun ls hl => ?_)
      exact bk_138 (x3 + (-1 : Int32)) x4 x5 x6 hg _ _ hP hD hS _ (lv_sub hl [1, 0, 3, 4, 5] rfl)
  have bk_122 : ∀ (x3 : Int32) (x4 : Int32) (x5 : Int32) (x6 : Int32), f_L_go_122 gg za x3 x4 x5 x6 = some res → ∀ (H : Heap) (locs : List Loc), va_P D vwCl [(ag, .inl (cI, 25, .inl (gg)))] H → va_D A [(ag, .inl (cI, 25, .inl (gg)))] → va_S A s.heap H locs → ∀ (ls : Array Slot), lv_has ls 8 [(0, .ref ag), (2, .int (za)), (3, .int (x3)), (4, .int (x4)), (5, .int (x5)), (6, .int (x6))] → W p l e ({ frames := 1, cells := 0, slots := 0, locals := 22 }) s m args below meth c H locs 0 0 Q (F0 m 122 ls []) := by
    intro x3 x4 x5 x6 hg H locs hP hD hS ls hl
    rw [f_L_go_122] at hg
    refine lv_iload_n hx hb dL_go_122 rfl (lv_at hl 1 rfl) ?_
    refine lv_iconst (v := (3 : Int32)) hx hb dL_go_123 (by decide) ?_
    refine lv_icmp_ne (tgt := 130) hx hb dL_go_124 (by decide) (fun c10 => ?_) (fun c10 => ?_)
    · have hg := ie hg c10
      exact bk_130 x3 x4 x5 x6 hg _ _ hP hD hS _ (lv_sub hl [0, 1, 2, 3, 4, 5] rfl)
    · have hg := it hg c10
      refine lv_iinc (v := (x5 + (-2 : Int32))) (lv' := [(5, .int ((x5 + (-2 : Int32)))), (0, .ref ag), (2, .int (za)), (3, .int (x3)), (4, .int (x4)), (6, .int (x6))]) hx hb dL_go_127 hl (k := 4) rfl rfl (by decide) rfl (fun ls hl => ?_)
      exact bk_130 x3 x4 (x5 + (-2 : Int32)) x6 hg _ _ hP hD hS _ (lv_sub hl [1, 2, 3, 4, 0, 5] rfl)
  have bk_114 : ∀ (x3 : Int32) (x4 : Int32) (x5 : Int32) (x6 : Int32), f_L_go_114 gg za x3 x4 x5 x6 = some res → ∀ (H : Heap) (locs : List Loc), va_P D vwCl [(ag, .inl (cI, 25, .inl (gg)))] H → va_D A [(ag, .inl (cI, 25, .inl (gg)))] → va_S A s.heap H locs → ∀ (ls : Array Slot), lv_has ls 8 [(0, .ref ag), (2, .int (za)), (3, .int (x3)), (4, .int (x4)), (5, .int (x5)), (6, .int (x6))] → W p l e ({ frames := 1, cells := 0, slots := 0, locals := 22 }) s m args below meth c H locs 0 0 Q (F0 m 114 ls []) := by
    intro x3 x4 x5 x6 hg H locs hP hD hS ls hl
    rw [f_L_go_114] at hg
    refine lv_iload_n hx hb dL_go_114 rfl (lv_at hl 1 rfl) ?_
    refine lv_iconst (v := (1 : Int32)) hx hb dL_go_115 (by decide) ?_
    refine lv_icmp_ne (tgt := 122) hx hb dL_go_116 (by decide) (fun c9 => ?_) (fun c9 => ?_)
    · have hg := ie hg c9
      exact bk_122 x3 x4 x5 x6 hg _ _ hP hD hS _ (lv_sub hl [0, 1, 2, 3, 4, 5] rfl)
    · have hg := it hg c9
      refine lv_iconst (v := (0 : Int32)) hx hb dL_go_119 (by decide) ?_
      refine lv_istore (lv' := [(4, .int ((0 : Int32))), (0, .ref ag), (2, .int (za)), (3, .int (x3)), (5, .int (x5)), (6, .int (x6))]) hx hb dL_go_120 hl (by decide) rfl (fun ls hl => ?_)
      exact bk_122 x3 (0 : Int32) x5 x6 hg _ _ hP hD hS _ (lv_sub hl [1, 2, 3, 0, 4, 5] rfl)
  have bk_107 : ∀ (x3 : Int32) (x4 : Int32) (x5 : Int32) (x6 : Int32), f_L_go_107 gg za x3 x4 x5 x6 = some res → ∀ (H : Heap) (locs : List Loc), va_P D vwCl [(ag, .inl (cI, 25, .inl (gg)))] H → va_D A [(ag, .inl (cI, 25, .inl (gg)))] → va_S A s.heap H locs → ∀ (ls : Array Slot), lv_has ls 8 [(0, .ref ag), (2, .int (za)), (3, .int (x3)), (4, .int (x4)), (5, .int (x5)), (6, .int (x6))] → W p l e ({ frames := 1, cells := 0, slots := 0, locals := 22 }) s m args below meth c H locs 0 0 Q (F0 m 107 ls []) := by
    intro x3 x4 x5 x6 hg H locs hP hD hS ls hl
    rw [f_L_go_107] at hg
    refine lv_iload_n hx hb dL_go_107 rfl (lv_at hl 1 rfl) ?_
    refine lv_if_ne (tgt := 114) hx hb dL_go_108 (by decide) (fun c8 => ?_) (fun c8 => ?_)
    · have hg := ie hg c8
      exact bk_114 x3 x4 x5 x6 hg _ _ hP hD hS _ (lv_sub hl [0, 1, 2, 3, 4, 5] rfl)
    · have hg := it hg c8
      refine lv_iinc (v := (x4 + (1 : Int32))) (lv' := [(4, .int ((x4 + (1 : Int32)))), (0, .ref ag), (2, .int (za)), (3, .int (x3)), (5, .int (x5)), (6, .int (x6))]) hx hb dL_go_111 hl (k := 3) rfl rfl (by decide) rfl (fun ls hl => ?_)
      exact bk_114 x3 (x4 + (1 : Int32)) x5 x6 hg _ _ hP hD hS _ (lv_sub hl [1, 2, 3, 0, 4, 5] rfl)
  have bk_80 : ∀ (x3 : Int32) (x4 : Int32) (x5 : Int32) (x6 : Int32), f_L_go_80 gg za x3 x4 x5 x6 = some res → ∀ (H : Heap) (locs : List Loc), va_P D vwCl [(ag, .inl (cI, 25, .inl (gg)))] H → va_D A [(ag, .inl (cI, 25, .inl (gg)))] → va_S A s.heap H locs → ∀ (ls : Array Slot), lv_has ls 8 [(0, .ref ag), (2, .int (za)), (3, .int (x3)), (4, .int (x4)), (5, .int (x5)), (6, .int (x6))] → W p l e ({ frames := 1, cells := 0, slots := 0, locals := 22 }) s m args below meth c H locs 0 0 Q (F0 m 80 ls []) := by
    intro x3 x4 x5 x6 hg H locs hP hD hS ls hl
    rw [f_L_go_80] at hg
    refine lv_iload_n hx hb dL_go_80 rfl (lv_at hl 1 rfl) ?_
    refine lv_iconst (v := (4 : Int32)) hx hb dL_go_81 (by decide) ?_
    refine lv_icmp_ne (tgt := 95) hx hb dL_go_82 (by decide) (fun c6 => ?_) (fun c6 => ?_)
    · have hg := ie hg c6
      refine lv_iload_n hx hb dL_go_95 rfl (lv_at hl 1 rfl) ?_
      refine lv_if_ne (tgt := 107) hx hb dL_go_96 (by decide) (fun c7 => ?_) (fun c7 => ?_)
      · have hg := ie hg c7
        exact bk_107 x3 x4 x5 x6 hg _ _ hP hD hS _ (lv_sub hl [0, 1, 2, 3, 4, 5] rfl)
      · have hg := it hg c7
        refine lv_iload hx hb dL_go_99 (lv_at hl 4 rfl) ?_
        refine lv_aload_n hx hb dL_go_101 rfl (lv_at hl 0 rfl) ?_
        refine lv_iconst (v := (1 : Int32)) hx hb dL_go_102 (by decide) ?_
        obtain ⟨g24, hg⟩ := gxo hg
        refine va_iald hx hb hK hP 0 0 rfl rfl g24 dL_go_103 ?_
        refine W.eq (g2 := F0 m 104 ls [.int ((gg (1 : Int32).toNatClampNeg)), .int (x5)]) rfl ?_
        refine lv_iadd hx hb dL_go_104 ?_
        refine lv_istore (lv' := [(5, .int ((x5 + (gg (1 : Int32).toNatClampNeg)))), (0, .ref ag), (2, .int (za)), (3, .int (x3)), (4, .int (x4)), (6, .int (x6))]) hx hb dL_go_105 hl (by decide) rfl (fun ls hl => ?_)
        exact bk_107 x3 x4 (x5 + (gg (1 : Int32).toNatClampNeg)) x6 hg _ _ hP hD hS _ (lv_sub hl [1, 2, 3, 4, 0, 5] rfl)
    · have hg := it hg c6
      refine lv_bipush (v := (84 : Int32)) hx hb dL_go_85 (by decide) ?_
      refine lv_iload hx hb dL_go_87 (lv_at hl 5 rfl) ?_
      refine lv_iconst (v := (1 : Int32)) hx hb dL_go_89 (by decide) ?_
      refine lv_iadd hx hb dL_go_90 ?_
      refine lv_imul hx hb dL_go_91 ?_
      refine lv_iload_n hx hb dL_go_92 rfl (lv_at hl 2 rfl) ?_
      refine lv_iadd hx hb dL_go_93 ?_
      obtain rfl := Option.some.inj hg
      exact rti hQ hx hb hr hlocks hK hP hD hS dL_go_94 ⟨rfl, rfl⟩
  have bk_63 : ∀ (x3 : Int32) (x4 : Int32) (x5 : Int32) (x6 : Int32), f_L_go_63 gg za x3 x4 x5 x6 = some res → ∀ (H : Heap) (locs : List Loc), va_P D vwCl [(ag, .inl (cI, 25, .inl (gg)))] H → va_D A [(ag, .inl (cI, 25, .inl (gg)))] → va_S A s.heap H locs → ∀ (ls : Array Slot), lv_has ls 8 [(0, .ref ag), (2, .int (za)), (3, .int (x3)), (4, .int (x4)), (5, .int (x5)), (6, .int (x6))] → W p l e ({ frames := 1, cells := 0, slots := 0, locals := 22 }) s m args below meth c H locs 0 0 Q (F0 m 63 ls []) := by
    intro x3 x4 x5 x6 hg H locs hP hD hS ls hl
    rw [f_L_go_63] at hg
    refine lv_iload_n hx hb dL_go_63 rfl (lv_at hl 1 rfl) ?_
    refine lv_iconst (v := (3 : Int32)) hx hb dL_go_64 (by decide) ?_
    refine lv_icmp_ne (tgt := 80) hx hb dL_go_65 (by decide) (fun c5 => ?_) (fun c5 => ?_)
    · have hg := ie hg c5
      exact bk_80 x3 x4 x5 x6 hg _ _ hP hD hS _ (lv_sub hl [0, 1, 2, 3, 4, 5] rfl)
    · have hg := it hg c5
      refine lv_iload hx hb dL_go_68 (lv_at hl 4 rfl) ?_
      refine lv_if_eq (tgt := 77) hx hb dL_go_70 (by decide) (fun c25 => ?_) (fun c25 => ?_)
      · have hg := it hg c25
        refine lv_bipush (v := (-9 : Int32)) hx hb dL_go_77 (by decide) ?_
        obtain rfl := Option.some.inj hg
        exact rti hQ hx hb hr hlocks hK hP hD hS dL_go_79 ⟨rfl, rfl⟩
      · have hg := ie hg c25
        refine lv_iload_n hx hb dL_go_73 rfl (lv_at hl 2 rfl) ?_
        refine lv_if_ne (tgt := 80) hx hb dL_go_74 (by decide) (fun c26 => ?_) (fun c26 => ?_)
        · have hg := ie hg c26
          exact bk_80 x3 x4 x5 x6 hg _ _ hP hD hS _ (lv_sub hl [0, 1, 2, 3, 4, 5] rfl)
        · have hg := it hg c26
          refine lv_bipush (v := (-9 : Int32)) hx hb dL_go_77 (by decide) ?_
          obtain rfl := Option.some.inj hg
          exact rti hQ hx hb hr hlocks hK hP hD hS dL_go_79 ⟨rfl, rfl⟩
  have bk_53 : ∀ (x3 : Int32) (x4 : Int32) (x5 : Int32) (x6 : Int32), f_L_go_53 gg za x3 x4 x5 x6 = some res → ∀ (H : Heap) (locs : List Loc), va_P D vwCl [(ag, .inl (cI, 25, .inl (gg)))] H → va_D A [(ag, .inl (cI, 25, .inl (gg)))] → va_S A s.heap H locs → ∀ (ls : Array Slot), lv_has ls 8 [(0, .ref ag), (2, .int (za)), (3, .int (x3)), (4, .int (x4)), (5, .int (x5)), (6, .int (x6))] → W p l e ({ frames := 1, cells := 0, slots := 0, locals := 22 }) s m args below meth c H locs 0 0 Q (F0 m 53 ls []) := by
    intro x3 x4 x5 x6 hg H locs hP hD hS ls hl
    rw [f_L_go_53] at hg
    refine lv_iload_n hx hb dL_go_53 rfl (lv_at hl 1 rfl) ?_
    refine lv_iconst (v := (2 : Int32)) hx hb dL_go_54 (by decide) ?_
    refine lv_icmp_ne (tgt := 63) hx hb dL_go_55 (by decide) (fun c4 => ?_) (fun c4 => ?_)
    · have hg := ie hg c4
      exact bk_63 x3 x4 x5 x6 hg _ _ hP hD hS _ (lv_sub hl [0, 1, 2, 3, 4, 5] rfl)
    · have hg := it hg c4
      refine lv_iload hx hb dL_go_58 (lv_at hl 4 rfl) ?_
      refine lv_if_eq (tgt := 77) hx hb dL_go_60 (by decide) (fun c27 => ?_) (fun c27 => ?_)
      · have hg := it hg c27
        refine lv_bipush (v := (-9 : Int32)) hx hb dL_go_77 (by decide) ?_
        obtain rfl := Option.some.inj hg
        exact rti hQ hx hb hr hlocks hK hP hD hS dL_go_79 ⟨rfl, rfl⟩
      · have hg := ie hg c27
        exact bk_63 x3 x4 x5 x6 hg _ _ hP hD hS _ (lv_sub hl [0, 1, 2, 3, 4, 5] rfl)
  have hl : lv_has ls 8 [(0, .ref ag), (1, .int (zt)), (2, .int (za))] := hl
  rw [f_L_go] at hg
  refine lv_iload_n hx hb dL_go_0 rfl (lv_at hl 1 rfl) ?_
  refine lv_iconst (v := (3 : Int32)) hx hb dL_go_1 (by decide) ?_
  refine lv_irem hx hb dL_go_2 (by decide) ?_
  refine lv_istore_n (lv' := [(3, .int ((zt - zt / (3 : Int32) * (3 : Int32)))), (0, .ref ag), (1, .int (zt)), (2, .int (za))]) hx hb dL_go_3 rfl hl (by decide) rfl (fun ls hl => ?_)
  refine lv_iload_n hx hb dL_go_4 rfl (lv_at hl 2 rfl) ?_
  refine lv_iconst (v := (3 : Int32)) hx hb dL_go_5 (by decide) ?_
  refine lv_idiv hx hb dL_go_6 (by decide) ?_
  refine lv_iconst (v := (4 : Int32)) hx hb dL_go_7 (by decide) ?_
  refine lv_irem hx hb dL_go_8 (by decide) ?_
  refine lv_istore (lv' := [(4, .int (((zt / (3 : Int32)) - (zt / (3 : Int32)) / (4 : Int32) * (4 : Int32)))), (3, .int ((zt - zt / (3 : Int32) * (3 : Int32)))), (0, .ref ag), (1, .int (zt)), (2, .int (za))]) hx hb dL_go_9 hl (by decide) rfl (fun ls hl => ?_)
  refine lv_iload_n hx hb dL_go_11 rfl (lv_at hl 3 rfl) ?_
  refine lv_bipush (v := (12 : Int32)) hx hb dL_go_12 (by decide) ?_
  refine lv_idiv hx hb dL_go_14 (by decide) ?_
  refine lv_bipush (v := (7 : Int32)) hx hb dL_go_15 (by decide) ?_
  refine lv_irem hx hb dL_go_17 (by decide) ?_
  refine lv_istore (lv' := [(5, .int (((zt / (12 : Int32)) - (zt / (12 : Int32)) / (7 : Int32) * (7 : Int32)))), (4, .int (((zt / (3 : Int32)) - (zt / (3 : Int32)) / (4 : Int32) * (4 : Int32)))), (3, .int ((zt - zt / (3 : Int32) * (3 : Int32)))), (0, .ref ag), (1, .int (zt)), (2, .int (za))]) hx hb dL_go_18 hl (by decide) rfl (fun ls hl => ?_)
  refine lv_iload_n hx hb dL_go_20 rfl (lv_at hl 4 rfl) ?_
  refine lv_bipush (v := (84 : Int32)) hx hb dL_go_21 (by decide) ?_
  refine lv_idiv hx hb dL_go_23 (by decide) ?_
  refine lv_istore (lv' := [(6, .int ((zt / (84 : Int32)))), (5, .int (((zt / (12 : Int32)) - (zt / (12 : Int32)) / (7 : Int32) * (7 : Int32)))), (4, .int (((zt / (3 : Int32)) - (zt / (3 : Int32)) / (4 : Int32) * (4 : Int32)))), (3, .int ((zt - zt / (3 : Int32) * (3 : Int32)))), (0, .ref ag), (1, .int (zt)), (2, .int (za))]) hx hb dL_go_24 hl (by decide) rfl (fun ls hl => ?_)
  refine lv_iload hx hb dL_go_26 (lv_at hl 0 rfl) ?_
  refine lv_aload_n hx hb dL_go_28 rfl (lv_at hl 4 rfl) ?_
  refine lv_iconst (v := (0 : Int32)) hx hb dL_go_29 (by decide) ?_
  obtain ⟨g1, hg⟩ := gxo hg
  refine va_iald hx hb hK hP 0 0 rfl rfl g1 dL_go_30 ?_
  refine W.eq (g2 := F0 m 31 ls [.int ((gg (0 : Int32).toNatClampNeg)), .int ((zt / (84 : Int32)))]) rfl ?_
  refine lv_icmp_eq (tgt := 77) hx hb dL_go_31 (by decide) (fun c2 => ?_) (fun c2 => ?_)
  · have hg := it hg c2
    refine lv_bipush (v := (-9 : Int32)) hx hb dL_go_77 (by decide) ?_
    obtain rfl := Option.some.inj hg
    exact rti hQ hx hb hr hlocks hK hP hD hS dL_go_79 ⟨rfl, rfl⟩
  · have hg := ie hg c2
    refine lv_iload_n hx hb dL_go_34 rfl (lv_at hl 6 rfl) ?_
    refine lv_if_ne (tgt := 53) hx hb dL_go_35 (by decide) (fun c3 => ?_) (fun c3 => ?_)
    · have hg := ie hg c3
      exact bk_53 (zt - zt / (3 : Int32) * (3 : Int32)) ((zt / (3 : Int32)) - (zt / (3 : Int32)) / (4 : Int32) * (4 : Int32)) ((zt / (12 : Int32)) - (zt / (12 : Int32)) / (7 : Int32) * (7 : Int32)) (zt / (84 : Int32)) hg _ _ hP hD hS _ (lv_sub hl [4, 6, 3, 2, 1, 0] rfl)
    · have hg := it hg c3
      refine lv_iload hx hb dL_go_38 (lv_at hl 2 rfl) ?_
      refine lv_aload_n hx hb dL_go_40 rfl (lv_at hl 4 rfl) ?_
      refine lv_iconst (v := (2 : Int32)) hx hb dL_go_41 (by decide) ?_
      obtain ⟨g28, hg⟩ := gxo hg
      refine va_iald hx hb hK hP 0 0 rfl rfl g28 dL_go_42 ?_
      refine W.eq (g2 := F0 m 43 ls [.int ((gg (2 : Int32).toNatClampNeg)), .int (((zt / (3 : Int32)) - (zt / (3 : Int32)) / (4 : Int32) * (4 : Int32)))]) rfl ?_
      refine lv_icmp_eq (tgt := 77) hx hb dL_go_43 (by decide) (fun c29 => ?_) (fun c29 => ?_)
      · have hg := it hg c29
        refine lv_bipush (v := (-9 : Int32)) hx hb dL_go_77 (by decide) ?_
        obtain rfl := Option.some.inj hg
        exact rti hQ hx hb hr hlocks hK hP hD hS dL_go_79 ⟨rfl, rfl⟩
      · have hg := ie hg c29
        refine lv_iload hx hb dL_go_46 (lv_at hl 1 rfl) ?_
        refine lv_bipush (v := (6 : Int32)) hx hb dL_go_48 (by decide) ?_
        refine lv_icmp_eq (tgt := 77) hx hb dL_go_50 (by decide) (fun c30 => ?_) (fun c30 => ?_)
        · have hg := it hg c30
          refine lv_bipush (v := (-9 : Int32)) hx hb dL_go_77 (by decide) ?_
          obtain rfl := Option.some.inj hg
          exact rti hQ hx hb hr hlocks hK hP hD hS dL_go_79 ⟨rfl, rfl⟩
        · have hg := ie hg c30
          exact bk_53 (zt - zt / (3 : Int32) * (3 : Int32)) ((zt / (3 : Int32)) - (zt / (3 : Int32)) / (4 : Int32) * (4 : Int32)) ((zt / (12 : Int32)) - (zt / (12 : Int32)) / (7 : Int32) * (7 : Int32)) (zt / (84 : Int32)) hg _ _ hP hD hS _ (lv_sub hl [4, 6, 3, 2, 1, 0] rfl)
def f_L_change_129  (x3 : Int32) (x4 : Int32) (x5 : Int32) (x6 : Int32) (x7 : Int32) (y0 : Int32) (y1 : Int32) (st : Int32) (kn : Int32) (sb : Int32) (gr : Nat → Int32) (gg : Nat → Int32) : Option (Int32 × Int32 × Int32 × Int32 × (Nat → Int32) × (Nat → Int32)) :=
  if y0 = y1 then (gx (1 : Int32) 25 (gx (2 : Int32) 25 (gx (3 : Int32) 25 (if x7 = 0 then (gx (24 : Int32) 25 (gx (24 : Int32) 25 (some ((1 : Int32), st, kn, sb, gr, (upd (upd (upd (upd gg (1 : Int32).toNatClampNeg x3) (2 : Int32).toNatClampNeg x4) (3 : Int32).toNatClampNeg x5) (24 : Int32).toNatClampNeg (((upd (upd (upd gg (1 : Int32).toNatClampNeg x3) (2 : Int32).toNatClampNeg x4) (3 : Int32).toNatClampNeg x5) (24 : Int32).toNatClampNeg) &&& (((1 : Int32) <<< (x6 &&& 31)) ^^^ (-1 : Int32)))))))) else (gx (24 : Int32) 25 (gx (24 : Int32) 25 (some ((1 : Int32), st, kn, sb, gr, (upd (upd (upd (upd gg (1 : Int32).toNatClampNeg x3) (2 : Int32).toNatClampNeg x4) (3 : Int32).toNatClampNeg x5) (24 : Int32).toNatClampNeg (((upd (upd (upd gg (1 : Int32).toNatClampNeg x3) (2 : Int32).toNatClampNeg x4) (3 : Int32).toNatClampNeg x5) (24 : Int32).toNatClampNeg) ||| ((1 : Int32) <<< (x6 &&& 31)))))))))))) else (some ((0 : Int32), st, kn, sb, gr, gg))
def f_L_change_119  (x3 : Int32) (x4 : Int32) (x5 : Int32) (x6 : Int32) (x7 : Int32) (y0 : Int32) (y1 : Int32) (st : Int32) (kn : Int32) (sb : Int32) (gr : Nat → Int32) (gg : Nat → Int32) : Option (Int32 × Int32 × Int32 × Int32 × (Nat → Int32) × (Nat → Int32)) :=
  if y1 = x7 then (f_L_change_129 x3 x4 x5 x6 x7 y0 (0 : Int32) st kn sb gr gg) else (f_L_change_129 x3 x4 x5 x6 x7 y0 (1 : Int32) st kn sb gr gg)
def f_L_change_56 (cn : Int32) (x3 : Int32) (x4 : Int32) (x5 : Int32) (x6 : Int32) (y0 : Int32) (st : Int32) (kn : Int32) (sb : Int32) (gr : Nat → Int32) (gg : Nat → Int32) : Option (Int32 × Int32 × Int32 × Int32 × (Nat → Int32) × (Nat → Int32)) :=
  (f_X4_strong cn st x3).bind (fun o13 => gx (1 : Int32) 25 (if o13.1 = (gg (1 : Int32).toNatClampNeg) then ((f_X4_knee cn kn x4).bind (fun o17 => gx (2 : Int32) 25 (if o17.1 = (gg (2 : Int32).toNatClampNeg) then ((f_X4_sole cn sb x5).bind (fun o21 => gx (3 : Int32) 25 (if o21.1 = (gg (3 : Int32).toNatClampNeg) then ((f_X4_grating cn gr x6 y0).bind (fun o25 => gx (24 : Int32) 25 (if (((gg (24 : Int32).toNatClampNeg) >>> (x6 &&& 31)) &&& (1 : Int32)) = (1 : Int32) then (f_L_change_119 x3 x4 x5 x6 y0 o25.1 (1 : Int32) o13.2 o17.2 o21.2 o25.2 gg) else (f_L_change_119 x3 x4 x5 x6 y0 o25.1 (0 : Int32) o13.2 o17.2 o21.2 o25.2 gg)))) else (some ((0 : Int32), o13.2, o17.2, o21.2, gr, gg))))) else (some ((0 : Int32), o13.2, o17.2, sb, gr, gg))))) else (some ((0 : Int32), o13.2, kn, sb, gr, gg))))
def f_L_change (cn : Int32) (st : Int32) (kn : Int32) (sb : Int32) (gr : Nat → Int32) (gg : Nat → Int32) (zx : Int32) : Option (Int32 × Int32 × Int32 × Int32 × (Nat → Int32) × (Nat → Int32)) :=
  (f_L_some zx (4 : Int32)).bind (fun o1 => (f_L_some (zx >>> ((2 : Int32) &&& 31)) (3 : Int32)).bind (fun o3 => (f_L_some (zx >>> ((4 : Int32) &&& 31)) (3 : Int32)).bind (fun o5 => gx (0 : Int32) 25 ((f_L_some (zx >>> ((6 : Int32) &&& 31)) (gg (0 : Int32).toNatClampNeg)).bind (fun o8 => (f_L_some (zx >>> ((9 : Int32) &&& 31)) (3 : Int32)).bind (fun o10 => if o10 = 0 then (f_L_change_56 cn ((1 : Int32) + o1) ((1 : Int32) + o3) o5 o8 (1 : Int32) st kn sb gr gg) else (f_L_change_56 cn ((1 : Int32) + o1) ((1 : Int32) + o3) o5 o8 (0 : Int32) st kn sb gr gg)))))))
set_option maxHeartbeats 4000000 in
set_option maxRecDepth 100000 in
theorem c_L_change (l : Launch) (D : va_G) (cI cZ cR : ClassId) (ax : Nat) (ab : Nat) (abk : Nat) (abt : Nat) (abg : Nat) (ag : Nat) (axr : Nat) (axi : Nat) (ah : Nat) (axg : Nat) (axo : Nat) (au : Nat) (rc : Int32) (tc : Int32) (lf : Int32) (cn : Int32) (st : Int32) (kn : Int32) (sb : Int32) (kd : Nat → Int32) (tk : Nat → Int32) (gr : Nat → Int32) (gg : Nat → Int32) (zx : Int32) {res : Int32 × Int32 × Int32 × Int32 × (Nat → Int32) × (Nat → Int32)} (hg : f_L_change cn st kn sb gr gg zx = some res) : MI l yL_change wsL_change ({ frames := 2, cells := 0, slots := 0, locals := 43 }) D (T3 cI cZ cR) [(ax, .inr (4, [.ref axr, .ref axi, .ref ah, .ref axg, .ref axo, .ref ab, .ref au, .int (rc), .int (tc), .int (lf)])), (ab, .inr (3, [.ref abk, .ref abt, .ref abg, .int (cn), .int (st), .int (kn), .int (sb)])), (abk, .inl (cI, 10, .inl (kd))), (abt, .inl (cI, 10, .inl (tk))), (abg, .inl (cZ, 10, .inl (gr))), (ag, .inl (cI, 25, .inl (gg)))] [.ref ax, .int (zx), .ref ag] (fun r u => res.1 = r ∧ u = [(ax, .inr (4, [.ref axr, .ref axi, .ref ah, .ref axg, .ref axo, .ref ab, .ref au, .int (rc), .int (tc), .int (lf)])), (ab, .inr (3, [.ref abk, .ref abt, .ref abg, .int (cn), .int (res.2.1), .int (res.2.2.1), .int (res.2.2.2.1)])), (abk, .inl (cI, 10, .inl (kd))), (abt, .inl (cI, 10, .inl (tk))), (abg, .inl (cZ, 10, .inl (res.2.2.2.2.1))), (ag, .inl (cI, 25, .inl (res.2.2.2.2.2)))]) := by
  refine entI (Rn := RL) (by decide +kernel) rfl rfl (Nat.le_of_ble_eq_true rfl) (fun p e s m args below meth c A Q hx hb hr hml hts hown hlocks hA hP hD hK hS ls hl hQ => ?_)
  have bk_129 : ∀ (x3 : Int32) (x4 : Int32) (x5 : Int32) (x6 : Int32) (x7 : Int32) (y0 : Int32) (y1 : Int32) (st : Int32) (kn : Int32) (sb : Int32) (gr : Nat → Int32) (gg : Nat → Int32), f_L_change_129 x3 x4 x5 x6 x7 y0 y1 st kn sb gr gg = some res → ∀ (H : Heap) (locs : List Loc), va_P D vwCl [(ax, .inr (4, [.ref axr, .ref axi, .ref ah, .ref axg, .ref axo, .ref ab, .ref au, .int (rc), .int (tc), .int (lf)])), (ab, .inr (3, [.ref abk, .ref abt, .ref abg, .int (cn), .int (st), .int (kn), .int (sb)])), (abk, .inl (cI, 10, .inl (kd))), (abt, .inl (cI, 10, .inl (tk))), (abg, .inl (cZ, 10, .inl (gr))), (ag, .inl (cI, 25, .inl (gg)))] H → va_D A [(ax, .inr (4, [.ref axr, .ref axi, .ref ah, .ref axg, .ref axo, .ref ab, .ref au, .int (rc), .int (tc), .int (lf)])), (ab, .inr (3, [.ref abk, .ref abt, .ref abg, .int (cn), .int (st), .int (kn), .int (sb)])), (abk, .inl (cI, 10, .inl (kd))), (abt, .inl (cI, 10, .inl (tk))), (abg, .inl (cZ, 10, .inl (gr))), (ag, .inl (cI, 25, .inl (gg)))] → va_S A s.heap H locs → ∀ (ls : Array Slot), lv_has ls 8 [(2, .ref ag), (3, .int (x3)), (4, .int (x4)), (5, .int (x5)), (6, .int (x6)), (7, .int (x7))] → W p l e ({ frames := 2, cells := 0, slots := 0, locals := 43 }) s m args below meth c H locs 0 0 Q (F0 m 129 ls [.int (y1), .int (y0)]) := by
    intro x3 x4 x5 x6 x7 y0 y1 st kn sb gr gg hg H locs hP hD hS ls hl
    rw [f_L_change_129] at hg
    refine lv_icmp_eq (tgt := 134) hx hb dL_change_129 (by decide) (fun c30 => ?_) (fun c30 => ?_)
    · have hg := it hg c30
      refine lv_aload_n hx hb dL_change_134 rfl (lv_at hl 0 rfl) ?_
      refine lv_iconst (v := (1 : Int32)) hx hb dL_change_135 (by decide) ?_
      refine lv_iload_n hx hb dL_change_136 rfl (lv_at hl 1 rfl) ?_
      obtain ⟨g31, hg⟩ := gxo hg
      refine va_iast hx hb hK hP hD hS 5 0 rfl rfl g31 dL_change_137 (fun H locs hP hD hS => ?_)
      have hP : va_P D vwCl [(ax, .inr (4, [.ref axr, .ref axi, .ref ah, .ref axg, .ref axo, .ref ab, .ref au, .int (rc), .int (tc), .int (lf)])), (ab, .inr (3, [.ref abk, .ref abt, .ref abg, .int (cn), .int (st), .int (kn), .int (sb)])), (abk, .inl (cI, 10, .inl (kd))), (abt, .inl (cI, 10, .inl (tk))), (abg, .inl (cZ, 10, .inl (gr))), (ag, .inl (cI, 25, .inl ((upd gg (1 : Int32).toNatClampNeg x3))))] H := hP
      have hD : va_D A [(ax, .inr (4, [.ref axr, .ref axi, .ref ah, .ref axg, .ref axo, .ref ab, .ref au, .int (rc), .int (tc), .int (lf)])), (ab, .inr (3, [.ref abk, .ref abt, .ref abg, .int (cn), .int (st), .int (kn), .int (sb)])), (abk, .inl (cI, 10, .inl (kd))), (abt, .inl (cI, 10, .inl (tk))), (abg, .inl (cZ, 10, .inl (gr))), (ag, .inl (cI, 25, .inl ((upd gg (1 : Int32).toNatClampNeg x3))))] := hD
      refine lv_aload_n hx hb dL_change_138 rfl (lv_at hl 0 rfl) ?_
      refine lv_iconst (v := (2 : Int32)) hx hb dL_change_139 (by decide) ?_
      refine lv_iload hx hb dL_change_140 (lv_at hl 2 rfl) ?_
      obtain ⟨g32, hg⟩ := gxo hg
      refine va_iast hx hb hK hP hD hS 5 0 rfl rfl g32 dL_change_142 (fun H locs hP hD hS => ?_)
      have hP : va_P D vwCl [(ax, .inr (4, [.ref axr, .ref axi, .ref ah, .ref axg, .ref axo, .ref ab, .ref au, .int (rc), .int (tc), .int (lf)])), (ab, .inr (3, [.ref abk, .ref abt, .ref abg, .int (cn), .int (st), .int (kn), .int (sb)])), (abk, .inl (cI, 10, .inl (kd))), (abt, .inl (cI, 10, .inl (tk))), (abg, .inl (cZ, 10, .inl (gr))), (ag, .inl (cI, 25, .inl ((upd (upd gg (1 : Int32).toNatClampNeg x3) (2 : Int32).toNatClampNeg x4))))] H := hP
      have hD : va_D A [(ax, .inr (4, [.ref axr, .ref axi, .ref ah, .ref axg, .ref axo, .ref ab, .ref au, .int (rc), .int (tc), .int (lf)])), (ab, .inr (3, [.ref abk, .ref abt, .ref abg, .int (cn), .int (st), .int (kn), .int (sb)])), (abk, .inl (cI, 10, .inl (kd))), (abt, .inl (cI, 10, .inl (tk))), (abg, .inl (cZ, 10, .inl (gr))), (ag, .inl (cI, 25, .inl ((upd (upd gg (1 : Int32).toNatClampNeg x3) (2 : Int32).toNatClampNeg x4))))] := hD
      refine lv_aload_n hx hb dL_change_143 rfl (lv_at hl 0 rfl) ?_
      refine lv_iconst (v := (3 : Int32)) hx hb dL_change_144 (by decide) ?_
      refine lv_iload hx hb dL_change_145 (lv_at hl 3 rfl) ?_
      obtain ⟨g33, hg⟩ := gxo hg
      refine va_iast hx hb hK hP hD hS 5 0 rfl rfl g33 dL_change_147 (fun H locs hP hD hS => ?_)
      have hP : va_P D vwCl [(ax, .inr (4, [.ref axr, .ref axi, .ref ah, .ref axg, .ref axo, .ref ab, .ref au, .int (rc), .int (tc), .int (lf)])), (ab, .inr (3, [.ref abk, .ref abt, .ref abg, .int (cn), .int (st), .int (kn), .int (sb)])), (abk, .inl (cI, 10, .inl (kd))), (abt, .inl (cI, 10, .inl (tk))), (abg, .inl (cZ, 10, .inl (gr))), (ag, .inl (cI, 25, .inl ((upd (upd (upd gg (1 : Int32).toNatClampNeg x3) (2 : Int32).toNatClampNeg x4) (3 : Int32).toNatClampNeg x5))))] H := hP
      have hD : va_D A [(ax, .inr (4, [.ref axr, .ref axi, .ref ah, .ref axg, .ref axo, .ref ab, .ref au, .int (rc), .int (tc), .int (lf)])), (ab, .inr (3, [.ref abk, .ref abt, .ref abg, .int (cn), .int (st), .int (kn), .int (sb)])), (abk, .inl (cI, 10, .inl (kd))), (abt, .inl (cI, 10, .inl (tk))), (abg, .inl (cZ, 10, .inl (gr))), (ag, .inl (cI, 25, .inl ((upd (upd (upd gg (1 : Int32).toNatClampNeg x3) (2 : Int32).toNatClampNeg x4) (3 : Int32).toNatClampNeg x5))))] := hD
      refine lv_aload_n hx hb dL_change_148 rfl (lv_at hl 0 rfl) ?_
      refine lv_bipush (v := (24 : Int32)) hx hb dL_change_149 (by decide) ?_
      refine lv_iload hx hb dL_change_151 (lv_at hl 5 rfl) ?_
      refine lv_if_eq (tgt := 168) hx hb dL_change_153 (by decide) (fun c34 => ?_) (fun c34 => ?_)
      · have hg := it hg c34
        refine lv_aload_n hx hb dL_change_168 rfl (lv_at hl 0 rfl) ?_
        refine lv_bipush (v := (24 : Int32)) hx hb dL_change_169 (by decide) ?_
        obtain ⟨g35, hg⟩ := gxo hg
        refine va_iald hx hb hK hP 5 0 rfl rfl g35 dL_change_171 ?_
        refine W.eq (g2 := F0 m 172 ls [.int (((upd (upd (upd gg (1 : Int32).toNatClampNeg x3) (2 : Int32).toNatClampNeg x4) (3 : Int32).toNatClampNeg x5) (24 : Int32).toNatClampNeg)), .int ((24 : Int32)), .ref ag]) rfl ?_
        refine lv_iconst (v := (1 : Int32)) hx hb dL_change_172 (by decide) ?_
        refine lv_iload hx hb dL_change_173 (lv_at hl 4 rfl) ?_
        refine lv_ishl hx hb dL_change_175 ?_
        refine lv_iconst (v := (-1 : Int32)) hx hb dL_change_176 (by decide) ?_
        refine lv_ixor hx hb dL_change_177 ?_
        refine lv_iand hx hb dL_change_178 ?_
        obtain ⟨g36, hg⟩ := gxo hg
        refine va_iast hx hb hK hP hD hS 5 0 rfl rfl g36 dL_change_179 (fun H locs hP hD hS => ?_)
        have hP : va_P D vwCl [(ax, .inr (4, [.ref axr, .ref axi, .ref ah, .ref axg, .ref axo, .ref ab, .ref au, .int (rc), .int (tc), .int (lf)])), (ab, .inr (3, [.ref abk, .ref abt, .ref abg, .int (cn), .int (st), .int (kn), .int (sb)])), (abk, .inl (cI, 10, .inl (kd))), (abt, .inl (cI, 10, .inl (tk))), (abg, .inl (cZ, 10, .inl (gr))), (ag, .inl (cI, 25, .inl ((upd (upd (upd (upd gg (1 : Int32).toNatClampNeg x3) (2 : Int32).toNatClampNeg x4) (3 : Int32).toNatClampNeg x5) (24 : Int32).toNatClampNeg (((upd (upd (upd gg (1 : Int32).toNatClampNeg x3) (2 : Int32).toNatClampNeg x4) (3 : Int32).toNatClampNeg x5) (24 : Int32).toNatClampNeg) &&& (((1 : Int32) <<< (x6 &&& 31)) ^^^ (-1 : Int32)))))))] H := hP
        have hD : va_D A [(ax, .inr (4, [.ref axr, .ref axi, .ref ah, .ref axg, .ref axo, .ref ab, .ref au, .int (rc), .int (tc), .int (lf)])), (ab, .inr (3, [.ref abk, .ref abt, .ref abg, .int (cn), .int (st), .int (kn), .int (sb)])), (abk, .inl (cI, 10, .inl (kd))), (abt, .inl (cI, 10, .inl (tk))), (abg, .inl (cZ, 10, .inl (gr))), (ag, .inl (cI, 25, .inl ((upd (upd (upd (upd gg (1 : Int32).toNatClampNeg x3) (2 : Int32).toNatClampNeg x4) (3 : Int32).toNatClampNeg x5) (24 : Int32).toNatClampNeg (((upd (upd (upd gg (1 : Int32).toNatClampNeg x3) (2 : Int32).toNatClampNeg x4) (3 : Int32).toNatClampNeg x5) (24 : Int32).toNatClampNeg) &&& (((1 : Int32) <<< (x6 &&& 31)) ^^^ (-1 : Int32)))))))] := hD
        refine lv_iconst (v := (1 : Int32)) hx hb dL_change_180 (by decide) ?_
        obtain rfl := Option.some.inj hg
        exact rtz hQ hx hb hr rfl hlocks hK hP hD hS dL_change_181 ⟨rfl, rfl⟩
      · have hg := ie hg c34
        refine lv_aload_n hx hb dL_change_156 rfl (lv_at hl 0 rfl) ?_
        refine lv_bipush (v := (24 : Int32)) hx hb dL_change_157 (by decide) ?_
        obtain ⟨g37, hg⟩ := gxo hg
        refine va_iald hx hb hK hP 5 0 rfl rfl g37 dL_change_159 ?_
        refine W.eq (g2 := F0 m 160 ls [.int (((upd (upd (upd gg (1 : Int32).toNatClampNeg x3) (2 : Int32).toNatClampNeg x4) (3 : Int32).toNatClampNeg x5) (24 : Int32).toNatClampNeg)), .int ((24 : Int32)), .ref ag]) rfl ?_
        refine lv_iconst (v := (1 : Int32)) hx hb dL_change_160 (by decide) ?_
        refine lv_iload hx hb dL_change_161 (lv_at hl 4 rfl) ?_
        refine lv_ishl hx hb dL_change_163 ?_
        refine lv_ior hx hb dL_change_164 ?_
        refine lv_goto (tgt := 179) hx hb dL_change_165 (by decide) ?_
        obtain ⟨g38, hg⟩ := gxo hg
        refine va_iast hx hb hK hP hD hS 5 0 rfl rfl g38 dL_change_179 (fun H locs hP hD hS => ?_)
        have hP : va_P D vwCl [(ax, .inr (4, [.ref axr, .ref axi, .ref ah, .ref axg, .ref axo, .ref ab, .ref au, .int (rc), .int (tc), .int (lf)])), (ab, .inr (3, [.ref abk, .ref abt, .ref abg, .int (cn), .int (st), .int (kn), .int (sb)])), (abk, .inl (cI, 10, .inl (kd))), (abt, .inl (cI, 10, .inl (tk))), (abg, .inl (cZ, 10, .inl (gr))), (ag, .inl (cI, 25, .inl ((upd (upd (upd (upd gg (1 : Int32).toNatClampNeg x3) (2 : Int32).toNatClampNeg x4) (3 : Int32).toNatClampNeg x5) (24 : Int32).toNatClampNeg (((upd (upd (upd gg (1 : Int32).toNatClampNeg x3) (2 : Int32).toNatClampNeg x4) (3 : Int32).toNatClampNeg x5) (24 : Int32).toNatClampNeg) ||| ((1 : Int32) <<< (x6 &&& 31)))))))] H := hP
        have hD : va_D A [(ax, .inr (4, [.ref axr, .ref axi, .ref ah, .ref axg, .ref axo, .ref ab, .ref au, .int (rc), .int (tc), .int (lf)])), (ab, .inr (3, [.ref abk, .ref abt, .ref abg, .int (cn), .int (st), .int (kn), .int (sb)])), (abk, .inl (cI, 10, .inl (kd))), (abt, .inl (cI, 10, .inl (tk))), (abg, .inl (cZ, 10, .inl (gr))), (ag, .inl (cI, 25, .inl ((upd (upd (upd (upd gg (1 : Int32).toNatClampNeg x3) (2 : Int32).toNatClampNeg x4) (3 : Int32).toNatClampNeg x5) (24 : Int32).toNatClampNeg (((upd (upd (upd gg (1 : Int32).toNatClampNeg x3) (2 : Int32).toNatClampNeg x4) (3 : Int32).toNatClampNeg x5) (24 : Int32).toNatClampNeg) ||| ((1 : Int32) <<< (x6 &&& 31)))))))] := hD
        refine lv_iconst (v := (1 : Int32)) hx hb dL_change_180 (by decide) ?_
        obtain rfl := Option.some.inj hg
        exact rtz hQ hx hb hr rfl hlocks hK hP hD hS dL_change_181 ⟨rfl, rfl⟩
    · have hg := ie hg c30
      refine lv_iconst (v := (0 : Int32)) hx hb dL_change_132 (by decide) ?_
      obtain rfl := Option.some.inj hg
      exact rtz hQ hx hb hr rfl hlocks hK hP hD hS dL_change_133 ⟨rfl, rfl⟩
  have bk_119 : ∀ (x3 : Int32) (x4 : Int32) (x5 : Int32) (x6 : Int32) (x7 : Int32) (y0 : Int32) (y1 : Int32) (st : Int32) (kn : Int32) (sb : Int32) (gr : Nat → Int32) (gg : Nat → Int32), f_L_change_119 x3 x4 x5 x6 x7 y0 y1 st kn sb gr gg = some res → ∀ (H : Heap) (locs : List Loc), va_P D vwCl [(ax, .inr (4, [.ref axr, .ref axi, .ref ah, .ref axg, .ref axo, .ref ab, .ref au, .int (rc), .int (tc), .int (lf)])), (ab, .inr (3, [.ref abk, .ref abt, .ref abg, .int (cn), .int (st), .int (kn), .int (sb)])), (abk, .inl (cI, 10, .inl (kd))), (abt, .inl (cI, 10, .inl (tk))), (abg, .inl (cZ, 10, .inl (gr))), (ag, .inl (cI, 25, .inl (gg)))] H → va_D A [(ax, .inr (4, [.ref axr, .ref axi, .ref ah, .ref axg, .ref axo, .ref ab, .ref au, .int (rc), .int (tc), .int (lf)])), (ab, .inr (3, [.ref abk, .ref abt, .ref abg, .int (cn), .int (st), .int (kn), .int (sb)])), (abk, .inl (cI, 10, .inl (kd))), (abt, .inl (cI, 10, .inl (tk))), (abg, .inl (cZ, 10, .inl (gr))), (ag, .inl (cI, 25, .inl (gg)))] → va_S A s.heap H locs → ∀ (ls : Array Slot), lv_has ls 8 [(2, .ref ag), (3, .int (x3)), (4, .int (x4)), (5, .int (x5)), (6, .int (x6)), (7, .int (x7))] → W p l e ({ frames := 2, cells := 0, slots := 0, locals := 43 }) s m args below meth c H locs 0 0 Q (F0 m 119 ls [.int (y1), .int (y0)]) := by
    intro x3 x4 x5 x6 x7 y0 y1 st kn sb gr gg hg H locs hP hD hS ls hl
    rw [f_L_change_119] at hg
    refine lv_iload hx hb dL_change_119 (lv_at hl 5 rfl) ?_
    refine lv_icmp_ne (tgt := 128) hx hb dL_change_121 (by decide) (fun c29 => ?_) (fun c29 => ?_)
    · have hg := ie hg c29
      refine lv_iconst (v := (1 : Int32)) hx hb dL_change_128 (by decide) ?_
      exact bk_129 x3 x4 x5 x6 x7 y0 (1 : Int32) st kn sb gr gg hg _ _ hP hD hS _ (lv_sub hl [0, 1, 2, 3, 4, 5] rfl)
    · have hg := it hg c29
      refine lv_iconst (v := (0 : Int32)) hx hb dL_change_124 (by decide) ?_
      refine lv_goto (tgt := 129) hx hb dL_change_125 (by decide) ?_
      exact bk_129 x3 x4 x5 x6 x7 y0 (0 : Int32) st kn sb gr gg hg _ _ hP hD hS _ (lv_sub hl [0, 1, 2, 3, 4, 5] rfl)
  have bk_56 : ∀ (x3 : Int32) (x4 : Int32) (x5 : Int32) (x6 : Int32) (y0 : Int32) (st : Int32) (kn : Int32) (sb : Int32) (gr : Nat → Int32) (gg : Nat → Int32), f_L_change_56 cn x3 x4 x5 x6 y0 st kn sb gr gg = some res → ∀ (H : Heap) (locs : List Loc), va_P D vwCl [(ax, .inr (4, [.ref axr, .ref axi, .ref ah, .ref axg, .ref axo, .ref ab, .ref au, .int (rc), .int (tc), .int (lf)])), (ab, .inr (3, [.ref abk, .ref abt, .ref abg, .int (cn), .int (st), .int (kn), .int (sb)])), (abk, .inl (cI, 10, .inl (kd))), (abt, .inl (cI, 10, .inl (tk))), (abg, .inl (cZ, 10, .inl (gr))), (ag, .inl (cI, 25, .inl (gg)))] H → va_D A [(ax, .inr (4, [.ref axr, .ref axi, .ref ah, .ref axg, .ref axo, .ref ab, .ref au, .int (rc), .int (tc), .int (lf)])), (ab, .inr (3, [.ref abk, .ref abt, .ref abg, .int (cn), .int (st), .int (kn), .int (sb)])), (abk, .inl (cI, 10, .inl (kd))), (abt, .inl (cI, 10, .inl (tk))), (abg, .inl (cZ, 10, .inl (gr))), (ag, .inl (cI, 25, .inl (gg)))] → va_S A s.heap H locs → ∀ (ls : Array Slot), lv_has ls 8 [(0, .ref ax), (2, .ref ag), (3, .int (x3)), (4, .int (x4)), (5, .int (x5)), (6, .int (x6))] → W p l e ({ frames := 2, cells := 0, slots := 0, locals := 43 }) s m args below meth c H locs 0 0 Q (F0 m 56 ls [.int (y0)]) := by
    intro x3 x4 x5 x6 y0 st kn sb gr gg hg H locs hP hD hS ls hl
    rw [f_L_change_56] at hg
    refine lv_istore (lv' := [(7, .int (y0)), (0, .ref ax), (2, .ref ag), (3, .int (x3)), (4, .int (x4)), (5, .int (x5)), (6, .int (x6))]) hx hb dL_change_56 hl (by decide) rfl (fun ls hl => ?_)
    refine lv_aload_n hx hb dL_change_58 rfl (lv_at hl 1 rfl) ?_
    refine lv_iload_n hx hb dL_change_59 rfl (lv_at hl 3 rfl) ?_
    obtain ⟨o13, h14, hg⟩ := bd hg
    refine xcVi (As := [.int (x3)]) (rest := []) (wc := [(ax, .inr (4, [.ref axr, .ref axi, .ref ah, .ref axg, .ref axo, .ref ab, .ref au, .int (rc), .int (tc), .int (lf)])), (ab, .inr (3, [.ref abk, .ref abt, .ref abg, .int (cn), .int (st), .int (kn), .int (sb)])), (abk, .inl (cI, 10, .inl (kd))), (abt, .inl (cI, 10, .inl (tk))), (abg, .inl (cZ, 10, .inl (gr)))]) (wr := [(ag, .inl (cI, 25, .inl (gg)))]) ⟨hx, hb, hml, hown, hts⟩ (c_X4_strong l D cI cZ cR ax ab abk abt abg axr axi ah axg axo au rc tc lf cn st kn sb kd tk gr x3 h14) (cwV 1 hts gL_change_X4_strong rfl rfl rfl (by decide +kernel) ⟨Nat.le_of_ble_eq_true rfl, Nat.le_of_ble_eq_true rfl⟩) hK hP hD hS hA [0, 1, 2, 3, 4] [5] rfl rfl (by decide) (by decide) (by decide) (va_recv hK hP (ci := 4) (q0 := 0) rfl rfl) rfl rfl hl.1 (lv_room (Nat.le_of_ble_eq_true rfl)) dL_change_60 ⟨Nat.le_of_ble_eq_true rfl, Nat.le_of_ble_eq_true rfl⟩ (fun r u H locs hu hP hD hS => ?_)
    obtain ⟨rfl, rfl⟩ := hu
    have hP : va_P D vwCl [(ax, .inr (4, [.ref axr, .ref axi, .ref ah, .ref axg, .ref axo, .ref ab, .ref au, .int (rc), .int (tc), .int (lf)])), (ab, .inr (3, [.ref abk, .ref abt, .ref abg, .int (cn), .int (o13.2), .int (kn), .int (sb)])), (abk, .inl (cI, 10, .inl (kd))), (abt, .inl (cI, 10, .inl (tk))), (abg, .inl (cZ, 10, .inl (gr))), (ag, .inl (cI, 25, .inl (gg)))] H := hP.sub [1, 2, 3, 4, 5, 0] rfl
    have hD : va_D A [(ax, .inr (4, [.ref axr, .ref axi, .ref ah, .ref axg, .ref axo, .ref ab, .ref au, .int (rc), .int (tc), .int (lf)])), (ab, .inr (3, [.ref abk, .ref abt, .ref abg, .int (cn), .int (o13.2), .int (kn), .int (sb)])), (abk, .inl (cI, 10, .inl (kd))), (abt, .inl (cI, 10, .inl (tk))), (abg, .inl (cZ, 10, .inl (gr))), (ag, .inl (cI, 25, .inl (gg)))] := hD.sub [1, 2, 3, 4, 5, 0] (by decide) rfl
    refine lv_aload_n hx hb dL_change_63 rfl (lv_at hl 2 rfl) ?_
    refine lv_iconst (v := (1 : Int32)) hx hb dL_change_64 (by decide) ?_
    obtain ⟨g15, hg⟩ := gxo hg
    refine va_iald hx hb hK hP 5 0 rfl rfl g15 dL_change_65 ?_
    refine W.eq (g2 := F0 m 66 ls [.int ((gg (1 : Int32).toNatClampNeg)), .int (o13.1)]) rfl ?_
    refine lv_icmp_ne (tgt := 132) hx hb dL_change_66 (by decide) (fun c16 => ?_) (fun c16 => ?_)
    · have hg := ie hg c16
      refine lv_iconst (v := (0 : Int32)) hx hb dL_change_132 (by decide) ?_
      obtain rfl := Option.some.inj hg
      exact rtz hQ hx hb hr rfl hlocks hK hP hD hS dL_change_133 ⟨rfl, rfl⟩
    · have hg := it hg c16
      refine lv_aload_n hx hb dL_change_69 rfl (lv_at hl 1 rfl) ?_
      refine lv_iload hx hb dL_change_70 (lv_at hl 4 rfl) ?_
      obtain ⟨o17, h18, hg⟩ := bd hg
      refine xcVi (As := [.int (x4)]) (rest := []) (wc := [(ax, .inr (4, [.ref axr, .ref axi, .ref ah, .ref axg, .ref axo, .ref ab, .ref au, .int (rc), .int (tc), .int (lf)])), (ab, .inr (3, [.ref abk, .ref abt, .ref abg, .int (cn), .int (o13.2), .int (kn), .int (sb)])), (abk, .inl (cI, 10, .inl (kd))), (abt, .inl (cI, 10, .inl (tk))), (abg, .inl (cZ, 10, .inl (gr)))]) (wr := [(ag, .inl (cI, 25, .inl (gg)))]) ⟨hx, hb, hml, hown, hts⟩ (c_X4_knee l D cI cZ cR ax ab abk abt abg axr axi ah axg axo au rc tc lf cn o13.2 kn sb kd tk gr x4 h18) (cwV 1 hts gL_change_X4_knee rfl rfl rfl (by decide +kernel) ⟨Nat.le_of_ble_eq_true rfl, Nat.le_of_ble_eq_true rfl⟩) hK hP hD hS hA [0, 1, 2, 3, 4] [5] rfl rfl (by decide) (by decide) (by decide) (va_recv hK hP (ci := 4) (q0 := 0) rfl rfl) rfl rfl hl.1 (lv_room (Nat.le_of_ble_eq_true rfl)) dL_change_72 ⟨Nat.le_of_ble_eq_true rfl, Nat.le_of_ble_eq_true rfl⟩ (fun r u H locs hu hP hD hS => ?_)
      obtain ⟨rfl, rfl⟩ := hu
      have hP : va_P D vwCl [(ax, .inr (4, [.ref axr, .ref axi, .ref ah, .ref axg, .ref axo, .ref ab, .ref au, .int (rc), .int (tc), .int (lf)])), (ab, .inr (3, [.ref abk, .ref abt, .ref abg, .int (cn), .int (o13.2), .int (o17.2), .int (sb)])), (abk, .inl (cI, 10, .inl (kd))), (abt, .inl (cI, 10, .inl (tk))), (abg, .inl (cZ, 10, .inl (gr))), (ag, .inl (cI, 25, .inl (gg)))] H := hP.sub [1, 2, 3, 4, 5, 0] rfl
      have hD : va_D A [(ax, .inr (4, [.ref axr, .ref axi, .ref ah, .ref axg, .ref axo, .ref ab, .ref au, .int (rc), .int (tc), .int (lf)])), (ab, .inr (3, [.ref abk, .ref abt, .ref abg, .int (cn), .int (o13.2), .int (o17.2), .int (sb)])), (abk, .inl (cI, 10, .inl (kd))), (abt, .inl (cI, 10, .inl (tk))), (abg, .inl (cZ, 10, .inl (gr))), (ag, .inl (cI, 25, .inl (gg)))] := hD.sub [1, 2, 3, 4, 5, 0] (by decide) rfl
      refine lv_aload_n hx hb dL_change_75 rfl (lv_at hl 2 rfl) ?_
      refine lv_iconst (v := (2 : Int32)) hx hb dL_change_76 (by decide) ?_
      obtain ⟨g19, hg⟩ := gxo hg
      refine va_iald hx hb hK hP 5 0 rfl rfl g19 dL_change_77 ?_
      refine W.eq (g2 := F0 m 78 ls [.int ((gg (2 : Int32).toNatClampNeg)), .int (o17.1)]) rfl ?_
      refine lv_icmp_ne (tgt := 132) hx hb dL_change_78 (by decide) (fun c20 => ?_) (fun c20 => ?_)
      · have hg := ie hg c20
        refine lv_iconst (v := (0 : Int32)) hx hb dL_change_132 (by decide) ?_
        obtain rfl := Option.some.inj hg
        exact rtz hQ hx hb hr rfl hlocks hK hP hD hS dL_change_133 ⟨rfl, rfl⟩
      · have hg := it hg c20
        refine lv_aload_n hx hb dL_change_81 rfl (lv_at hl 1 rfl) ?_
        refine lv_iload hx hb dL_change_82 (lv_at hl 5 rfl) ?_
        obtain ⟨o21, h22, hg⟩ := bd hg
        refine xcVi (As := [.int (x5)]) (rest := []) (wc := [(ax, .inr (4, [.ref axr, .ref axi, .ref ah, .ref axg, .ref axo, .ref ab, .ref au, .int (rc), .int (tc), .int (lf)])), (ab, .inr (3, [.ref abk, .ref abt, .ref abg, .int (cn), .int (o13.2), .int (o17.2), .int (sb)])), (abk, .inl (cI, 10, .inl (kd))), (abt, .inl (cI, 10, .inl (tk))), (abg, .inl (cZ, 10, .inl (gr)))]) (wr := [(ag, .inl (cI, 25, .inl (gg)))]) ⟨hx, hb, hml, hown, hts⟩ (c_X4_sole l D cI cZ cR ax ab abk abt abg axr axi ah axg axo au rc tc lf cn o13.2 o17.2 sb kd tk gr x5 h22) (cwV 1 hts gL_change_X4_sole rfl rfl rfl (by decide +kernel) ⟨Nat.le_of_ble_eq_true rfl, Nat.le_of_ble_eq_true rfl⟩) hK hP hD hS hA [0, 1, 2, 3, 4] [5] rfl rfl (by decide) (by decide) (by decide) (va_recv hK hP (ci := 4) (q0 := 0) rfl rfl) rfl rfl hl.1 (lv_room (Nat.le_of_ble_eq_true rfl)) dL_change_84 ⟨Nat.le_of_ble_eq_true rfl, Nat.le_of_ble_eq_true rfl⟩ (fun r u H locs hu hP hD hS => ?_)
        obtain ⟨rfl, rfl⟩ := hu
        have hP : va_P D vwCl [(ax, .inr (4, [.ref axr, .ref axi, .ref ah, .ref axg, .ref axo, .ref ab, .ref au, .int (rc), .int (tc), .int (lf)])), (ab, .inr (3, [.ref abk, .ref abt, .ref abg, .int (cn), .int (o13.2), .int (o17.2), .int (o21.2)])), (abk, .inl (cI, 10, .inl (kd))), (abt, .inl (cI, 10, .inl (tk))), (abg, .inl (cZ, 10, .inl (gr))), (ag, .inl (cI, 25, .inl (gg)))] H := hP.sub [1, 2, 3, 4, 5, 0] rfl
        have hD : va_D A [(ax, .inr (4, [.ref axr, .ref axi, .ref ah, .ref axg, .ref axo, .ref ab, .ref au, .int (rc), .int (tc), .int (lf)])), (ab, .inr (3, [.ref abk, .ref abt, .ref abg, .int (cn), .int (o13.2), .int (o17.2), .int (o21.2)])), (abk, .inl (cI, 10, .inl (kd))), (abt, .inl (cI, 10, .inl (tk))), (abg, .inl (cZ, 10, .inl (gr))), (ag, .inl (cI, 25, .inl (gg)))] := hD.sub [1, 2, 3, 4, 5, 0] (by decide) rfl
        refine lv_aload_n hx hb dL_change_87 rfl (lv_at hl 2 rfl) ?_
        refine lv_iconst (v := (3 : Int32)) hx hb dL_change_88 (by decide) ?_
        obtain ⟨g23, hg⟩ := gxo hg
        refine va_iald hx hb hK hP 5 0 rfl rfl g23 dL_change_89 ?_
        refine W.eq (g2 := F0 m 90 ls [.int ((gg (3 : Int32).toNatClampNeg)), .int (o21.1)]) rfl ?_
        refine lv_icmp_ne (tgt := 132) hx hb dL_change_90 (by decide) (fun c24 => ?_) (fun c24 => ?_)
        · have hg := ie hg c24
          refine lv_iconst (v := (0 : Int32)) hx hb dL_change_132 (by decide) ?_
          obtain rfl := Option.some.inj hg
          exact rtz hQ hx hb hr rfl hlocks hK hP hD hS dL_change_133 ⟨rfl, rfl⟩
        · have hg := it hg c24
          refine lv_aload_n hx hb dL_change_93 rfl (lv_at hl 1 rfl) ?_
          refine lv_iload hx hb dL_change_94 (lv_at hl 6 rfl) ?_
          refine lv_iload hx hb dL_change_96 (lv_at hl 0 rfl) ?_
          obtain ⟨o25, h26, hg⟩ := bd hg
          refine xcVi (As := [.int (x6), .int (y0)]) (rest := []) (wc := [(ax, .inr (4, [.ref axr, .ref axi, .ref ah, .ref axg, .ref axo, .ref ab, .ref au, .int (rc), .int (tc), .int (lf)])), (ab, .inr (3, [.ref abk, .ref abt, .ref abg, .int (cn), .int (o13.2), .int (o17.2), .int (o21.2)])), (abk, .inl (cI, 10, .inl (kd))), (abt, .inl (cI, 10, .inl (tk))), (abg, .inl (cZ, 10, .inl (gr)))]) (wr := [(ag, .inl (cI, 25, .inl (gg)))]) ⟨hx, hb, hml, hown, hts⟩ (c_X4_grating l D cI cZ cR ax ab abk abt abg axr axi ah axg axo au rc tc lf cn o13.2 o17.2 o21.2 kd tk gr x6 y0 h26) (cwV 2 hts gL_change_X4_grating rfl rfl rfl (by decide +kernel) ⟨Nat.le_of_ble_eq_true rfl, Nat.le_of_ble_eq_true rfl⟩) hK hP hD hS hA [0, 1, 2, 3, 4] [5] rfl rfl (by decide) (by decide) (by decide) (va_recv hK hP (ci := 4) (q0 := 0) rfl rfl) rfl rfl hl.1 (lv_room (Nat.le_of_ble_eq_true rfl)) dL_change_98 ⟨Nat.le_of_ble_eq_true rfl, Nat.le_of_ble_eq_true rfl⟩ (fun r u H locs hu hP hD hS => ?_)
          obtain ⟨rfl, rfl⟩ := hu
          have hP : va_P D vwCl [(ax, .inr (4, [.ref axr, .ref axi, .ref ah, .ref axg, .ref axo, .ref ab, .ref au, .int (rc), .int (tc), .int (lf)])), (ab, .inr (3, [.ref abk, .ref abt, .ref abg, .int (cn), .int (o13.2), .int (o17.2), .int (o21.2)])), (abk, .inl (cI, 10, .inl (kd))), (abt, .inl (cI, 10, .inl (tk))), (abg, .inl (cZ, 10, .inl (o25.2))), (ag, .inl (cI, 25, .inl (gg)))] H := hP.sub [1, 2, 3, 4, 5, 0] rfl
          have hD : va_D A [(ax, .inr (4, [.ref axr, .ref axi, .ref ah, .ref axg, .ref axo, .ref ab, .ref au, .int (rc), .int (tc), .int (lf)])), (ab, .inr (3, [.ref abk, .ref abt, .ref abg, .int (cn), .int (o13.2), .int (o17.2), .int (o21.2)])), (abk, .inl (cI, 10, .inl (kd))), (abt, .inl (cI, 10, .inl (tk))), (abg, .inl (cZ, 10, .inl (o25.2))), (ag, .inl (cI, 25, .inl (gg)))] := hD.sub [1, 2, 3, 4, 5, 0] (by decide) rfl
          refine lv_aload_n hx hb dL_change_101 rfl (lv_at hl 2 rfl) ?_
          refine lv_bipush (v := (24 : Int32)) hx hb dL_change_102 (by decide) ?_
          obtain ⟨g27, hg⟩ := gxo hg
          refine va_iald hx hb hK hP 5 0 rfl rfl g27 dL_change_104 ?_
          refine W.eq (g2 := F0 m 105 ls [.int ((gg (24 : Int32).toNatClampNeg)), .int (o25.1)]) rfl ?_
          refine lv_iload hx hb dL_change_105 (lv_at hl 6 rfl) ?_
          refine lv_ishr hx hb dL_change_107 ?_
          refine lv_iconst (v := (1 : Int32)) hx hb dL_change_108 (by decide) ?_
          refine lv_iand hx hb dL_change_109 ?_
          refine lv_iconst (v := (1 : Int32)) hx hb dL_change_110 (by decide) ?_
          refine lv_icmp_ne (tgt := 118) hx hb dL_change_111 (by decide) (fun c28 => ?_) (fun c28 => ?_)
          · have hg := ie hg c28
            refine lv_iconst (v := (0 : Int32)) hx hb dL_change_118 (by decide) ?_
            exact bk_119 x3 x4 x5 x6 y0 o25.1 (0 : Int32) o13.2 o17.2 o21.2 o25.2 gg hg _ _ hP hD hS _ (lv_sub hl [2, 3, 4, 5, 6, 0] rfl)
          · have hg := it hg c28
            refine lv_iconst (v := (1 : Int32)) hx hb dL_change_114 (by decide) ?_
            refine lv_goto (tgt := 119) hx hb dL_change_115 (by decide) ?_
            exact bk_119 x3 x4 x5 x6 y0 o25.1 (1 : Int32) o13.2 o17.2 o21.2 o25.2 gg hg _ _ hP hD hS _ (lv_sub hl [2, 3, 4, 5, 6, 0] rfl)
  have hl : lv_has ls 8 [(0, .ref ax), (1, .int (zx)), (2, .ref ag)] := hl
  rw [f_L_change] at hg
  refine lv_iconst (v := (1 : Int32)) hx hb dL_change_0 (by decide) ?_
  refine lv_iload_n hx hb dL_change_1 rfl (lv_at hl 1 rfl) ?_
  refine lv_iconst (v := (4 : Int32)) hx hb dL_change_2 (by decide) ?_
  obtain ⟨o1, h2, hg⟩ := bd hg
  refine xcSi (As := [.int (zx), .int ((4 : Int32))]) (rest := [.int ((1 : Int32))]) (wc := []) (wr := [(ax, .inr (4, [.ref axr, .ref axi, .ref ah, .ref axg, .ref axo, .ref ab, .ref au, .int (rc), .int (tc), .int (lf)])), (ab, .inr (3, [.ref abk, .ref abt, .ref abg, .int (cn), .int (st), .int (kn), .int (sb)])), (abk, .inl (cI, 10, .inl (kd))), (abt, .inl (cI, 10, .inl (tk))), (abg, .inl (cZ, 10, .inl (gr))), (ag, .inl (cI, 25, .inl (gg)))]) ⟨hx, hb, hml, hown, hts⟩ (c_L_some l D cI cZ cR zx (4 : Int32) h2) (cwS 2 hts gL_change_L_some rfl rfl rfl (by decide +kernel) ⟨Nat.le_of_ble_eq_true rfl, Nat.le_of_ble_eq_true rfl⟩) hK hP hD hS hA [] [0, 1, 2, 3, 4, 5] rfl rfl (by decide) (by decide) (by decide) rfl rfl hl.1 (lv_room (Nat.le_of_ble_eq_true rfl)) dL_change_3 ⟨Nat.le_of_ble_eq_true rfl, Nat.le_of_ble_eq_true rfl⟩ (fun r u H locs hu hP hD hS => ?_)
  obtain ⟨rfl, rfl⟩ := hu
  have hP : va_P D vwCl [(ax, .inr (4, [.ref axr, .ref axi, .ref ah, .ref axg, .ref axo, .ref ab, .ref au, .int (rc), .int (tc), .int (lf)])), (ab, .inr (3, [.ref abk, .ref abt, .ref abg, .int (cn), .int (st), .int (kn), .int (sb)])), (abk, .inl (cI, 10, .inl (kd))), (abt, .inl (cI, 10, .inl (tk))), (abg, .inl (cZ, 10, .inl (gr))), (ag, .inl (cI, 25, .inl (gg)))] H := hP.sub [0, 1, 2, 3, 4, 5] rfl
  have hD : va_D A [(ax, .inr (4, [.ref axr, .ref axi, .ref ah, .ref axg, .ref axo, .ref ab, .ref au, .int (rc), .int (tc), .int (lf)])), (ab, .inr (3, [.ref abk, .ref abt, .ref abg, .int (cn), .int (st), .int (kn), .int (sb)])), (abk, .inl (cI, 10, .inl (kd))), (abt, .inl (cI, 10, .inl (tk))), (abg, .inl (cZ, 10, .inl (gr))), (ag, .inl (cI, 25, .inl (gg)))] := hD.sub [0, 1, 2, 3, 4, 5] (by decide) rfl
  refine lv_iadd hx hb dL_change_6 ?_
  refine lv_istore_n (lv' := [(3, .int (((1 : Int32) + o1))), (0, .ref ax), (1, .int (zx)), (2, .ref ag)]) hx hb dL_change_7 rfl hl (by decide) rfl (fun ls hl => ?_)
  refine lv_iconst (v := (1 : Int32)) hx hb dL_change_8 (by decide) ?_
  refine lv_iload_n hx hb dL_change_9 rfl (lv_at hl 2 rfl) ?_
  refine lv_iconst (v := (2 : Int32)) hx hb dL_change_10 (by decide) ?_
  refine lv_ishr hx hb dL_change_11 ?_
  refine lv_iconst (v := (3 : Int32)) hx hb dL_change_12 (by decide) ?_
  obtain ⟨o3, h4, hg⟩ := bd hg
  refine xcSi (As := [.int ((zx >>> ((2 : Int32) &&& 31))), .int ((3 : Int32))]) (rest := [.int ((1 : Int32))]) (wc := []) (wr := [(ax, .inr (4, [.ref axr, .ref axi, .ref ah, .ref axg, .ref axo, .ref ab, .ref au, .int (rc), .int (tc), .int (lf)])), (ab, .inr (3, [.ref abk, .ref abt, .ref abg, .int (cn), .int (st), .int (kn), .int (sb)])), (abk, .inl (cI, 10, .inl (kd))), (abt, .inl (cI, 10, .inl (tk))), (abg, .inl (cZ, 10, .inl (gr))), (ag, .inl (cI, 25, .inl (gg)))]) ⟨hx, hb, hml, hown, hts⟩ (c_L_some l D cI cZ cR (zx >>> ((2 : Int32) &&& 31)) (3 : Int32) h4) (cwS 2 hts gL_change_L_some rfl rfl rfl (by decide +kernel) ⟨Nat.le_of_ble_eq_true rfl, Nat.le_of_ble_eq_true rfl⟩) hK hP hD hS hA [] [0, 1, 2, 3, 4, 5] rfl rfl (by decide) (by decide) (by decide) rfl rfl hl.1 (lv_room (Nat.le_of_ble_eq_true rfl)) dL_change_13 ⟨Nat.le_of_ble_eq_true rfl, Nat.le_of_ble_eq_true rfl⟩ (fun r u H locs hu hP hD hS => ?_)
  obtain ⟨rfl, rfl⟩ := hu
  have hP : va_P D vwCl [(ax, .inr (4, [.ref axr, .ref axi, .ref ah, .ref axg, .ref axo, .ref ab, .ref au, .int (rc), .int (tc), .int (lf)])), (ab, .inr (3, [.ref abk, .ref abt, .ref abg, .int (cn), .int (st), .int (kn), .int (sb)])), (abk, .inl (cI, 10, .inl (kd))), (abt, .inl (cI, 10, .inl (tk))), (abg, .inl (cZ, 10, .inl (gr))), (ag, .inl (cI, 25, .inl (gg)))] H := hP.sub [0, 1, 2, 3, 4, 5] rfl
  have hD : va_D A [(ax, .inr (4, [.ref axr, .ref axi, .ref ah, .ref axg, .ref axo, .ref ab, .ref au, .int (rc), .int (tc), .int (lf)])), (ab, .inr (3, [.ref abk, .ref abt, .ref abg, .int (cn), .int (st), .int (kn), .int (sb)])), (abk, .inl (cI, 10, .inl (kd))), (abt, .inl (cI, 10, .inl (tk))), (abg, .inl (cZ, 10, .inl (gr))), (ag, .inl (cI, 25, .inl (gg)))] := hD.sub [0, 1, 2, 3, 4, 5] (by decide) rfl
  refine lv_iadd hx hb dL_change_16 ?_
  refine lv_istore (lv' := [(4, .int (((1 : Int32) + o3))), (3, .int (((1 : Int32) + o1))), (0, .ref ax), (1, .int (zx)), (2, .ref ag)]) hx hb dL_change_17 hl (by decide) rfl (fun ls hl => ?_)
  refine lv_iload_n hx hb dL_change_19 rfl (lv_at hl 3 rfl) ?_
  refine lv_iconst (v := (4 : Int32)) hx hb dL_change_20 (by decide) ?_
  refine lv_ishr hx hb dL_change_21 ?_
  refine lv_iconst (v := (3 : Int32)) hx hb dL_change_22 (by decide) ?_
  obtain ⟨o5, h6, hg⟩ := bd hg
  refine xcSi (As := [.int ((zx >>> ((4 : Int32) &&& 31))), .int ((3 : Int32))]) (rest := []) (wc := []) (wr := [(ax, .inr (4, [.ref axr, .ref axi, .ref ah, .ref axg, .ref axo, .ref ab, .ref au, .int (rc), .int (tc), .int (lf)])), (ab, .inr (3, [.ref abk, .ref abt, .ref abg, .int (cn), .int (st), .int (kn), .int (sb)])), (abk, .inl (cI, 10, .inl (kd))), (abt, .inl (cI, 10, .inl (tk))), (abg, .inl (cZ, 10, .inl (gr))), (ag, .inl (cI, 25, .inl (gg)))]) ⟨hx, hb, hml, hown, hts⟩ (c_L_some l D cI cZ cR (zx >>> ((4 : Int32) &&& 31)) (3 : Int32) h6) (cwS 2 hts gL_change_L_some rfl rfl rfl (by decide +kernel) ⟨Nat.le_of_ble_eq_true rfl, Nat.le_of_ble_eq_true rfl⟩) hK hP hD hS hA [] [0, 1, 2, 3, 4, 5] rfl rfl (by decide) (by decide) (by decide) rfl rfl hl.1 (lv_room (Nat.le_of_ble_eq_true rfl)) dL_change_23 ⟨Nat.le_of_ble_eq_true rfl, Nat.le_of_ble_eq_true rfl⟩ (fun r u H locs hu hP hD hS => ?_)
  obtain ⟨rfl, rfl⟩ := hu
  have hP : va_P D vwCl [(ax, .inr (4, [.ref axr, .ref axi, .ref ah, .ref axg, .ref axo, .ref ab, .ref au, .int (rc), .int (tc), .int (lf)])), (ab, .inr (3, [.ref abk, .ref abt, .ref abg, .int (cn), .int (st), .int (kn), .int (sb)])), (abk, .inl (cI, 10, .inl (kd))), (abt, .inl (cI, 10, .inl (tk))), (abg, .inl (cZ, 10, .inl (gr))), (ag, .inl (cI, 25, .inl (gg)))] H := hP.sub [0, 1, 2, 3, 4, 5] rfl
  have hD : va_D A [(ax, .inr (4, [.ref axr, .ref axi, .ref ah, .ref axg, .ref axo, .ref ab, .ref au, .int (rc), .int (tc), .int (lf)])), (ab, .inr (3, [.ref abk, .ref abt, .ref abg, .int (cn), .int (st), .int (kn), .int (sb)])), (abk, .inl (cI, 10, .inl (kd))), (abt, .inl (cI, 10, .inl (tk))), (abg, .inl (cZ, 10, .inl (gr))), (ag, .inl (cI, 25, .inl (gg)))] := hD.sub [0, 1, 2, 3, 4, 5] (by decide) rfl
  refine lv_istore (lv' := [(5, .int (o5)), (4, .int (((1 : Int32) + o3))), (3, .int (((1 : Int32) + o1))), (0, .ref ax), (1, .int (zx)), (2, .ref ag)]) hx hb dL_change_26 hl (by decide) rfl (fun ls hl => ?_)
  refine lv_iload_n hx hb dL_change_28 rfl (lv_at hl 4 rfl) ?_
  refine lv_bipush (v := (6 : Int32)) hx hb dL_change_29 (by decide) ?_
  refine lv_ishr hx hb dL_change_31 ?_
  refine lv_aload_n hx hb dL_change_32 rfl (lv_at hl 5 rfl) ?_
  refine lv_iconst (v := (0 : Int32)) hx hb dL_change_33 (by decide) ?_
  obtain ⟨g7, hg⟩ := gxo hg
  refine va_iald hx hb hK hP 5 0 rfl rfl g7 dL_change_34 ?_
  refine W.eq (g2 := F0 m 35 ls [.int ((gg (0 : Int32).toNatClampNeg)), .int ((zx >>> ((6 : Int32) &&& 31)))]) rfl ?_
  obtain ⟨o8, h9, hg⟩ := bd hg
  refine xcSi (As := [.int ((zx >>> ((6 : Int32) &&& 31))), .int ((gg (0 : Int32).toNatClampNeg))]) (rest := []) (wc := []) (wr := [(ax, .inr (4, [.ref axr, .ref axi, .ref ah, .ref axg, .ref axo, .ref ab, .ref au, .int (rc), .int (tc), .int (lf)])), (ab, .inr (3, [.ref abk, .ref abt, .ref abg, .int (cn), .int (st), .int (kn), .int (sb)])), (abk, .inl (cI, 10, .inl (kd))), (abt, .inl (cI, 10, .inl (tk))), (abg, .inl (cZ, 10, .inl (gr))), (ag, .inl (cI, 25, .inl (gg)))]) ⟨hx, hb, hml, hown, hts⟩ (c_L_some l D cI cZ cR (zx >>> ((6 : Int32) &&& 31)) (gg (0 : Int32).toNatClampNeg) h9) (cwS 2 hts gL_change_L_some rfl rfl rfl (by decide +kernel) ⟨Nat.le_of_ble_eq_true rfl, Nat.le_of_ble_eq_true rfl⟩) hK hP hD hS hA [] [0, 1, 2, 3, 4, 5] rfl rfl (by decide) (by decide) (by decide) rfl rfl hl.1 (lv_room (Nat.le_of_ble_eq_true rfl)) dL_change_35 ⟨Nat.le_of_ble_eq_true rfl, Nat.le_of_ble_eq_true rfl⟩ (fun r u H locs hu hP hD hS => ?_)
  obtain ⟨rfl, rfl⟩ := hu
  have hP : va_P D vwCl [(ax, .inr (4, [.ref axr, .ref axi, .ref ah, .ref axg, .ref axo, .ref ab, .ref au, .int (rc), .int (tc), .int (lf)])), (ab, .inr (3, [.ref abk, .ref abt, .ref abg, .int (cn), .int (st), .int (kn), .int (sb)])), (abk, .inl (cI, 10, .inl (kd))), (abt, .inl (cI, 10, .inl (tk))), (abg, .inl (cZ, 10, .inl (gr))), (ag, .inl (cI, 25, .inl (gg)))] H := hP.sub [0, 1, 2, 3, 4, 5] rfl
  have hD : va_D A [(ax, .inr (4, [.ref axr, .ref axi, .ref ah, .ref axg, .ref axo, .ref ab, .ref au, .int (rc), .int (tc), .int (lf)])), (ab, .inr (3, [.ref abk, .ref abt, .ref abg, .int (cn), .int (st), .int (kn), .int (sb)])), (abk, .inl (cI, 10, .inl (kd))), (abt, .inl (cI, 10, .inl (tk))), (abg, .inl (cZ, 10, .inl (gr))), (ag, .inl (cI, 25, .inl (gg)))] := hD.sub [0, 1, 2, 3, 4, 5] (by decide) rfl
  refine lv_istore (lv' := [(6, .int (o8)), (5, .int (o5)), (4, .int (((1 : Int32) + o3))), (3, .int (((1 : Int32) + o1))), (0, .ref ax), (1, .int (zx)), (2, .ref ag)]) hx hb dL_change_38 hl (by decide) rfl (fun ls hl => ?_)
  refine lv_iload_n hx hb dL_change_40 rfl (lv_at hl 5 rfl) ?_
  refine lv_bipush (v := (9 : Int32)) hx hb dL_change_41 (by decide) ?_
  refine lv_ishr hx hb dL_change_43 ?_
  refine lv_iconst (v := (3 : Int32)) hx hb dL_change_44 (by decide) ?_
  obtain ⟨o10, h11, hg⟩ := bd hg
  refine xcSi (As := [.int ((zx >>> ((9 : Int32) &&& 31))), .int ((3 : Int32))]) (rest := []) (wc := []) (wr := [(ax, .inr (4, [.ref axr, .ref axi, .ref ah, .ref axg, .ref axo, .ref ab, .ref au, .int (rc), .int (tc), .int (lf)])), (ab, .inr (3, [.ref abk, .ref abt, .ref abg, .int (cn), .int (st), .int (kn), .int (sb)])), (abk, .inl (cI, 10, .inl (kd))), (abt, .inl (cI, 10, .inl (tk))), (abg, .inl (cZ, 10, .inl (gr))), (ag, .inl (cI, 25, .inl (gg)))]) ⟨hx, hb, hml, hown, hts⟩ (c_L_some l D cI cZ cR (zx >>> ((9 : Int32) &&& 31)) (3 : Int32) h11) (cwS 2 hts gL_change_L_some rfl rfl rfl (by decide +kernel) ⟨Nat.le_of_ble_eq_true rfl, Nat.le_of_ble_eq_true rfl⟩) hK hP hD hS hA [] [0, 1, 2, 3, 4, 5] rfl rfl (by decide) (by decide) (by decide) rfl rfl hl.1 (lv_room (Nat.le_of_ble_eq_true rfl)) dL_change_45 ⟨Nat.le_of_ble_eq_true rfl, Nat.le_of_ble_eq_true rfl⟩ (fun r u H locs hu hP hD hS => ?_)
  obtain ⟨rfl, rfl⟩ := hu
  have hP : va_P D vwCl [(ax, .inr (4, [.ref axr, .ref axi, .ref ah, .ref axg, .ref axo, .ref ab, .ref au, .int (rc), .int (tc), .int (lf)])), (ab, .inr (3, [.ref abk, .ref abt, .ref abg, .int (cn), .int (st), .int (kn), .int (sb)])), (abk, .inl (cI, 10, .inl (kd))), (abt, .inl (cI, 10, .inl (tk))), (abg, .inl (cZ, 10, .inl (gr))), (ag, .inl (cI, 25, .inl (gg)))] H := hP.sub [0, 1, 2, 3, 4, 5] rfl
  have hD : va_D A [(ax, .inr (4, [.ref axr, .ref axi, .ref ah, .ref axg, .ref axo, .ref ab, .ref au, .int (rc), .int (tc), .int (lf)])), (ab, .inr (3, [.ref abk, .ref abt, .ref abg, .int (cn), .int (st), .int (kn), .int (sb)])), (abk, .inl (cI, 10, .inl (kd))), (abt, .inl (cI, 10, .inl (tk))), (abg, .inl (cZ, 10, .inl (gr))), (ag, .inl (cI, 25, .inl (gg)))] := hD.sub [0, 1, 2, 3, 4, 5] (by decide) rfl
  refine lv_if_ne (tgt := 55) hx hb dL_change_48 (by decide) (fun c12 => ?_) (fun c12 => ?_)
  · have hg := ie hg c12
    refine lv_iconst (v := (0 : Int32)) hx hb dL_change_55 (by decide) ?_
    exact bk_56 ((1 : Int32) + o1) ((1 : Int32) + o3) o5 o8 (0 : Int32) st kn sb gr gg hg _ _ hP hD hS _ (lv_sub hl [4, 6, 3, 2, 1, 0] rfl)
  · have hg := it hg c12
    refine lv_iconst (v := (1 : Int32)) hx hb dL_change_51 (by decide) ?_
    refine lv_goto (tgt := 56) hx hb dL_change_52 (by decide) ?_
    exact bk_56 ((1 : Int32) + o1) ((1 : Int32) + o3) o5 o8 (1 : Int32) st kn sb gr gg hg _ _ hP hD hS _ (lv_sub hl [4, 6, 3, 2, 1, 0] rfl)
def f_L_put_153_269 (kh153 : Int32 → Int32 → Int32 → Int32 → Int32 → Int32 → Int32 → (Nat → Int32) → (Nat → Int32) → Option (Int32 × Int32 × Int32 × Int32 × Int32 × (Nat → Int32) × (Nat → Int32))) (x5 : Int32) (x6 : Int32) (x7 : Int32) (x8 : Int32) (y1 : Int32) (y2 : Int32) (y3 : Int32) (lf : Int32) (th : Int32) (ln : Int32) (le : Int32) (ce : Nat → Int32) (gg : Nat → Int32) : Option (Int32 × Int32 × Int32 × Int32 × Int32 × (Nat → Int32) × (Nat → Int32)) :=
  (f_X4_put th ln le ce y1 y2 y3 0).bind (fun o51 => if o51.1 = (1 : Int32) then (gx ((14 : Int32) + x7) 25 ((f_X4_put th ln le o51.2.2 (0 : Int32) x6 ((48 : Int32) + (gg ((14 : Int32) + x7).toNatClampNeg)) 0).bind (fun o55 => if o55.1 = (1 : Int32) then ((f_L_some (x8 >>> ((4 : Int32) &&& 31)) (4 : Int32)).bind (fun o58 => if o58 ≤ 0 then (gx (24 : Int32) 25 (gx (24 : Int32) 25 ((f_X4_put th ln le o55.2.2 (0 : Int32) (x6 + (1 : Int32)) (35 : Int32) 0).bind (fun o63 => if o63.1 = (1 : Int32) then (kh153 x5 ((x6 + (1 : Int32)) + (1 : Int32)) (x7 + (1 : Int32)) o63.2.1 th ln le o63.2.2 (upd gg (24 : Int32).toNatClampNeg ((gg (24 : Int32).toNatClampNeg) ||| ((1 : Int32) <<< (x7 &&& 31))))) else (some ((-99 : Int32), o63.2.1, th, ln, le, o63.2.2, (upd gg (24 : Int32).toNatClampNeg ((gg (24 : Int32).toNatClampNeg) ||| ((1 : Int32) <<< (x7 &&& 31)))))))))) else (kh153 x5 (x6 + (1 : Int32)) (x7 + (1 : Int32)) o55.2.1 th ln le o55.2.2 gg))) else (some ((-99 : Int32), o55.2.1, th, ln, le, o55.2.2, gg))))) else (some ((-99 : Int32), o51.2.1, th, ln, le, o51.2.2, gg)))
def f_L_put_153_225 (kh153 : Int32 → Int32 → Int32 → Int32 → Int32 → Int32 → Int32 → (Nat → Int32) → (Nat → Int32) → Option (Int32 × Int32 × Int32 × Int32 × Int32 × (Nat → Int32) × (Nat → Int32))) (x5 : Int32) (x6 : Int32) (x7 : Int32) (x8 : Int32) (y1 : Int32) (y2 : Int32) (y3 : Int32) (lf : Int32) (th : Int32) (ln : Int32) (le : Int32) (ce : Nat → Int32) (gg : Nat → Int32) : Option (Int32 × Int32 × Int32 × Int32 × Int32 × (Nat → Int32) × (Nat → Int32)) :=
  (f_L_some y2 y3).bind (fun o44 => gx y1 25 (gx ((4 : Int32) + x7) 25 (if ((upd gg y1.toNatClampNeg o44) ((4 : Int32) + x7).toNatClampNeg) = 0 then (f_L_put_153_269 kh153 x5 (x6 + (1 : Int32)) x7 x8 (0 : Int32) x6 (102 : Int32) lf th ln le ce (upd gg y1.toNatClampNeg o44)) else (gx ((4 : Int32) + x7) 25 (if ((upd gg y1.toNatClampNeg o44) ((4 : Int32) + x7).toNatClampNeg) = (1 : Int32) then (f_L_put_153_269 kh153 x5 (x6 + (1 : Int32)) x7 x8 (0 : Int32) x6 (104 : Int32) lf th ln le ce (upd gg y1.toNatClampNeg o44)) else (f_L_put_153_269 kh153 x5 (x6 + (1 : Int32)) x7 x8 (0 : Int32) x6 (119 : Int32) lf th ln le ce (upd gg y1.toNatClampNeg o44)))))))
def f_L_put_L153 (zf : Int32) (sL : Nat) (xs : Nat → Int32)  : Nat → Int32 → Int32 → Int32 → Int32 → Int32 → Int32 → Int32 → (Nat → Int32) → (Nat → Int32) → Option (Int32 × Int32 × Int32 × Int32 × Int32 × (Nat → Int32) × (Nat → Int32))
  | 0, _, _, _, _, _, _, _, _, _ => none
  | n + 1, x5, x6, x7, lf, th, ln, le, ce, gg => gx (0 : Int32) 25 (if (gg (0 : Int32).toNatClampNeg) ≤ x7 then (some (x6, lf, th, ln, le, ce, gg)) else ((f_L_cell ((zf + (1 : Int32)) + (x7 - x7 / (3 : Int32) * (3 : Int32))) sL xs).bind (fun o36 => (f_L_some (o36 >>> (((x7 / (3 : Int32)) * (7 : Int32)) &&& 31)) (3 : Int32)).bind (fun o38 => gx ((4 : Int32) + x7) 25 ((f_L_some (x5 >>> ((10 : Int32) &&& 31)) (2 : Int32)).bind (fun o41 => if o41 = 0 then (f_L_put_153_225 (f_L_put_L153 zf sL xs n) x5 x6 x7 (o36 >>> (((x7 / (3 : Int32)) * (7 : Int32)) &&& 31)) ((14 : Int32) + x7) ((o36 >>> (((x7 / (3 : Int32)) * (7 : Int32)) &&& 31)) >>> ((2 : Int32) &&& 31)) (5 : Int32) lf th ln le ce (upd gg ((4 : Int32) + x7).toNatClampNeg o38)) else (f_L_put_153_225 (f_L_put_L153 zf sL xs n) x5 x6 x7 (o36 >>> (((x7 / (3 : Int32)) * (7 : Int32)) &&& 31)) ((14 : Int32) + x7) ((o36 >>> (((x7 / (3 : Int32)) * (7 : Int32)) &&& 31)) >>> ((2 : Int32) &&& 31)) (3 : Int32) lf th ln le ce (upd gg ((4 : Int32) + x7).toNatClampNeg o38))))))))
def f_L_put (th : Int32) (ln : Int32) (le : Int32) (ce : Nat → Int32) (gg : Nat → Int32) (zf : Int32) (zm : Int32) (sL : Nat) (xs : Nat → Int32) : Option (Int32 × Int32 × Int32 × Int32 × Int32 × (Nat → Int32) × (Nat → Int32)) :=
  (f_L_cell zf sL xs).bind (fun o1 => (f_L_some o1 (zm - (1 : Int32))).bind (fun o3 => gx (0 : Int32) 25 ((f_L_some (o1 >>> ((4 : Int32) &&& 31)) (4 : Int32)).bind (fun o6 => gx (1 : Int32) 25 ((f_L_some (o1 >>> ((6 : Int32) &&& 31)) (3 : Int32)).bind (fun o9 => gx (2 : Int32) 25 ((f_L_some (o1 >>> ((8 : Int32) &&& 31)) (3 : Int32)).bind (fun o12 => gx (3 : Int32) 25 (gx (24 : Int32) 25 ((f_X4_sheet th ln le ce (0 : Int32) (0 : Int32) (60 : Int32) 0).bind (fun o16 => if o16.1 = (1 : Int32) then ((f_X4_put o16.2.2.1 o16.2.2.2.1 o16.2.2.2.2.1 o16.2.2.2.2.2 (0 : Int32) (0 : Int32) (115 : Int32) 0).bind (fun o19 => if o19.1 = (1 : Int32) then (gx (1 : Int32) 25 ((f_X4_put o16.2.2.1 o16.2.2.2.1 o16.2.2.2.2.1 o19.2.2 (0 : Int32) (1 : Int32) ((48 : Int32) + ((upd (upd (upd (upd (upd gg (0 : Int32).toNatClampNeg ((2 : Int32) + o3)) (1 : Int32).toNatClampNeg ((1 : Int32) + o6)) (2 : Int32).toNatClampNeg ((1 : Int32) + o9)) (3 : Int32).toNatClampNeg o12) (24 : Int32).toNatClampNeg (0 : Int32)) (1 : Int32).toNatClampNeg)) 0).bind (fun o23 => if o23.1 = (1 : Int32) then (gx (2 : Int32) 25 ((f_X4_put o16.2.2.1 o16.2.2.2.1 o16.2.2.2.2.1 o23.2.2 (0 : Int32) (2 : Int32) ((48 : Int32) + ((upd (upd (upd (upd (upd gg (0 : Int32).toNatClampNeg ((2 : Int32) + o3)) (1 : Int32).toNatClampNeg ((1 : Int32) + o6)) (2 : Int32).toNatClampNeg ((1 : Int32) + o9)) (3 : Int32).toNatClampNeg o12) (24 : Int32).toNatClampNeg (0 : Int32)) (2 : Int32).toNatClampNeg)) 0).bind (fun o27 => if o27.1 = (1 : Int32) then (gx (3 : Int32) 25 ((f_X4_put o16.2.2.1 o16.2.2.2.1 o16.2.2.2.2.1 o27.2.2 (0 : Int32) (3 : Int32) ((48 : Int32) + ((upd (upd (upd (upd (upd gg (0 : Int32).toNatClampNeg ((2 : Int32) + o3)) (1 : Int32).toNatClampNeg ((1 : Int32) + o6)) (2 : Int32).toNatClampNeg ((1 : Int32) + o9)) (3 : Int32).toNatClampNeg o12) (24 : Int32).toNatClampNeg (0 : Int32)) (3 : Int32).toNatClampNeg)) 0).bind (fun o31 => if o31.1 = (1 : Int32) then (f_L_put_L153 zf sL xs  100 o1 (4 : Int32) (0 : Int32) o31.2.1 o16.2.2.1 o16.2.2.2.1 o16.2.2.2.2.1 o31.2.2 (upd (upd (upd (upd (upd gg (0 : Int32).toNatClampNeg ((2 : Int32) + o3)) (1 : Int32).toNatClampNeg ((1 : Int32) + o6)) (2 : Int32).toNatClampNeg ((1 : Int32) + o9)) (3 : Int32).toNatClampNeg o12) (24 : Int32).toNatClampNeg (0 : Int32))) else (some ((-99 : Int32), o31.2.1, o16.2.2.1, o16.2.2.2.1, o16.2.2.2.2.1, o31.2.2, (upd (upd (upd (upd (upd gg (0 : Int32).toNatClampNeg ((2 : Int32) + o3)) (1 : Int32).toNatClampNeg ((1 : Int32) + o6)) (2 : Int32).toNatClampNeg ((1 : Int32) + o9)) (3 : Int32).toNatClampNeg o12) (24 : Int32).toNatClampNeg (0 : Int32))))))) else (some ((-99 : Int32), o27.2.1, o16.2.2.1, o16.2.2.2.1, o16.2.2.2.2.1, o27.2.2, (upd (upd (upd (upd (upd gg (0 : Int32).toNatClampNeg ((2 : Int32) + o3)) (1 : Int32).toNatClampNeg ((1 : Int32) + o6)) (2 : Int32).toNatClampNeg ((1 : Int32) + o9)) (3 : Int32).toNatClampNeg o12) (24 : Int32).toNatClampNeg (0 : Int32))))))) else (some ((-99 : Int32), o23.2.1, o16.2.2.1, o16.2.2.2.1, o16.2.2.2.2.1, o23.2.2, (upd (upd (upd (upd (upd gg (0 : Int32).toNatClampNeg ((2 : Int32) + o3)) (1 : Int32).toNatClampNeg ((1 : Int32) + o6)) (2 : Int32).toNatClampNeg ((1 : Int32) + o9)) (3 : Int32).toNatClampNeg o12) (24 : Int32).toNatClampNeg (0 : Int32))))))) else (some ((-99 : Int32), o19.2.1, o16.2.2.1, o16.2.2.2.1, o16.2.2.2.2.1, o19.2.2, (upd (upd (upd (upd (upd gg (0 : Int32).toNatClampNeg ((2 : Int32) + o3)) (1 : Int32).toNatClampNeg ((1 : Int32) + o6)) (2 : Int32).toNatClampNeg ((1 : Int32) + o9)) (3 : Int32).toNatClampNeg o12) (24 : Int32).toNatClampNeg (0 : Int32)))))) else (some ((-99 : Int32), o16.2.1, o16.2.2.1, o16.2.2.2.1, o16.2.2.2.2.1, o16.2.2.2.2.2, (upd (upd (upd (upd (upd gg (0 : Int32).toNatClampNeg ((2 : Int32) + o3)) (1 : Int32).toNatClampNeg ((1 : Int32) + o6)) (2 : Int32).toNatClampNeg ((1 : Int32) + o9)) (3 : Int32).toNatClampNeg o12) (24 : Int32).toNatClampNeg (0 : Int32)))))))))))))))
set_option maxHeartbeats 4000000 in
set_option maxRecDepth 100000 in
theorem c_L_put (l : Launch) (D : va_G) (cI cZ cR : ClassId) (ax : Nat) (axr : Nat) (ag : Nat) (sq : Nat) (axi : Nat) (ah : Nat) (axg : Nat) (axo : Nat) (ab : Nat) (au : Nat) (rc : Int32) (tc : Int32) (lf : Int32) (th : Int32) (ln : Int32) (le : Int32) (ce : Nat → Int32) (gg : Nat → Int32) (zf : Int32) (zm : Int32) (ra : Nat → Nat) (ca : Nat → Nat) (sL : Nat) (xs : Nat → Int32) {res : Int32 × Int32 × Int32 × Int32 × Int32 × (Nat → Int32) × (Nat → Int32)} (hg : f_L_put th ln le ce gg zf zm sL xs = some res) : MIs l yL_put wsL_put ({ frames := 3, cells := 0, slots := 0, locals := 68 }) sq sL xs D (T3 cI cZ cR) [(ax, .inr (4, [.ref axr, .ref axi, .ref ah, .ref axg, .ref axo, .ref ab, .ref au, .int (rc), .int (tc), .int (lf)])), (axr, .inl (cR, 4, .inr (.inr (.inr (.inr (fun j => some (ra j))))))), (ra 0, .inr (1, [.ref (ca 0), .int (th), .int (ln), .int (le)])), (ca 0, .inl (cI, 60, .inl (ce))), (ag, .inl (cI, 25, .inl (gg)))] [.ref ax, .ref sq, .int (zf), .int (zm), .ref ag] (fun r u => res.1 = r ∧ u = [(ax, .inr (4, [.ref axr, .ref axi, .ref ah, .ref axg, .ref axo, .ref ab, .ref au, .int (rc), .int (tc), .int (res.2.1)])), (axr, .inl (cR, 4, .inr (.inr (.inr (.inr (fun j => some (ra j))))))), (ra 0, .inr (1, [.ref (ca 0), .int (res.2.2.1), .int (res.2.2.2.1), .int (res.2.2.2.2.1)])), (ca 0, .inl (cI, 60, .inl (res.2.2.2.2.2.1))), (ag, .inl (cI, 25, .inl (res.2.2.2.2.2.2)))]) := by
  refine entIs (Rn := RL) (by decide +kernel) rfl rfl (Nat.le_of_ble_eq_true rfl) (fun p e s m args below meth c A Q hx hb hr hml hts hown hlocks hA hP hD hK hS hz ls hl hQ => ?_)
  have lp_153 : ∀  (n : Nat) (x5 : Int32) (x6 : Int32) (x7 : Int32) (lf : Int32) (th : Int32) (ln : Int32) (le : Int32) (ce : Nat → Int32) (gg : Nat → Int32), f_L_put_L153 zf sL xs n x5 x6 x7 lf th ln le ce gg = some res → ∀ (H : Heap) (locs : List Loc), va_P D vwCl [(ax, .inr (4, [.ref axr, .ref axi, .ref ah, .ref axg, .ref axo, .ref ab, .ref au, .int (rc), .int (tc), .int (lf)])), (axr, .inl (cR, 4, .inr (.inr (.inr (.inr (fun j => some (ra j))))))), (ra 0, .inr (1, [.ref (ca 0), .int (th), .int (ln), .int (le)])), (ca 0, .inl (cI, 60, .inl (ce))), (ag, .inl (cI, 25, .inl (gg)))] H → va_D A [(ax, .inr (4, [.ref axr, .ref axi, .ref ah, .ref axg, .ref axo, .ref ab, .ref au, .int (rc), .int (tc), .int (lf)])), (axr, .inl (cR, 4, .inr (.inr (.inr (.inr (fun j => some (ra j))))))), (ra 0, .inr (1, [.ref (ca 0), .int (th), .int (ln), .int (le)])), (ca 0, .inl (cI, 60, .inl (ce))), (ag, .inl (cI, 25, .inl (gg)))] → va_S A s.heap H locs → ∀ (ls : Array Slot), lv_has ls 9 [(0, .ref ax), (1, .ref sq), (2, .int (zf)), (4, .ref ag), (5, .int (x5)), (6, .int (x6)), (7, .int (x7))] → W p l e ({ frames := 3, cells := 0, slots := 0, locals := 68 }) s m args below meth c H locs 0 0 Q (F0 m 153 ls []) := by
    intro  n
    induction n with
    | zero => intro x5 x6 x7 lf th ln le ce gg hg; rw [f_L_put_L153] at hg; cases hg
    | succ n ih =>
      have bk_269 : ∀ (x5 : Int32) (x6 : Int32) (x7 : Int32) (x8 : Int32) (y1 : Int32) (y2 : Int32) (y3 : Int32) (lf : Int32) (th : Int32) (ln : Int32) (le : Int32) (ce : Nat → Int32) (gg : Nat → Int32), f_L_put_153_269 (f_L_put_L153 zf sL xs n) x5 x6 x7 x8 y1 y2 y3 lf th ln le ce gg = some res → ∀ (H : Heap) (locs : List Loc), va_P D vwCl [(ax, .inr (4, [.ref axr, .ref axi, .ref ah, .ref axg, .ref axo, .ref ab, .ref au, .int (rc), .int (tc), .int (lf)])), (axr, .inl (cR, 4, .inr (.inr (.inr (.inr (fun j => some (ra j))))))), (ra 0, .inr (1, [.ref (ca 0), .int (th), .int (ln), .int (le)])), (ca 0, .inl (cI, 60, .inl (ce))), (ag, .inl (cI, 25, .inl (gg)))] H → va_D A [(ax, .inr (4, [.ref axr, .ref axi, .ref ah, .ref axg, .ref axo, .ref ab, .ref au, .int (rc), .int (tc), .int (lf)])), (axr, .inl (cR, 4, .inr (.inr (.inr (.inr (fun j => some (ra j))))))), (ra 0, .inr (1, [.ref (ca 0), .int (th), .int (ln), .int (le)])), (ca 0, .inl (cI, 60, .inl (ce))), (ag, .inl (cI, 25, .inl (gg)))] → va_S A s.heap H locs → ∀ (ls : Array Slot), lv_has ls 9 [(0, .ref ax), (1, .ref sq), (2, .int (zf)), (4, .ref ag), (5, .int (x5)), (6, .int (x6)), (7, .int (x7)), (8, .int (x8))] → W p l e ({ frames := 3, cells := 0, slots := 0, locals := 68 }) s m args below meth c H locs 0 0 Q (F0 m 269 ls [.int (y3), .int (y2), .int (y1), .ref ax]) := by
        intro x5 x6 x7 x8 y1 y2 y3 lf th ln le ce gg hg H locs hP hD hS ls hl
        rw [f_L_put_153_269] at hg
        obtain ⟨o51, h52, hg⟩ := bd hg
        refine xcVi (As := [.int (y1), .int (y2), .int (y3)]) (rest := []) (wc := [(ax, .inr (4, [.ref axr, .ref axi, .ref ah, .ref axg, .ref axo, .ref ab, .ref au, .int (rc), .int (tc), .int (lf)])), (axr, .inl (cR, 4, .inr (.inr (.inr (.inr (fun j => some (ra j))))))), (ra 0, .inr (1, [.ref (ca 0), .int (th), .int (ln), .int (le)])), (ca 0, .inl (cI, 60, .inl (ce)))]) (wr := [(ag, .inl (cI, 25, .inl (gg)))]) ⟨hx, hb, hml, hown, hts⟩ (c_X4_put l D cI cZ cR ax axr axi ah axg axo ab au rc tc lf th ln le ce y1 y2 y3 ra ca 0 h52) (cwV 3 hts gL_put_X4_put rfl rfl rfl (by decide +kernel) ⟨Nat.le_of_ble_eq_true rfl, Nat.le_of_ble_eq_true rfl⟩) hK hP hD hS hA [0, 1, 2, 3] [4] rfl rfl (by decide) (by decide) (by decide) (va_recv hK hP (ci := 4) (q0 := 0) rfl rfl) rfl rfl hl.1 (lv_room (Nat.le_of_ble_eq_true rfl)) dL_put_269 ⟨Nat.le_of_ble_eq_true rfl, Nat.le_of_ble_eq_true rfl⟩ (fun r u H locs hu hP hD hS => ?_)
        obtain ⟨rfl, rfl⟩ := hu
        have hP : va_P D vwCl [(ax, .inr (4, [.ref axr, .ref axi, .ref ah, .ref axg, .ref axo, .ref ab, .ref au, .int (rc), .int (tc), .int (o51.2.1)])), (axr, .inl (cR, 4, .inr (.inr (.inr (.inr (fun j => some (ra j))))))), (ra 0, .inr (1, [.ref (ca 0), .int (th), .int (ln), .int (le)])), (ca 0, .inl (cI, 60, .inl (o51.2.2))), (ag, .inl (cI, 25, .inl (gg)))] H := hP.sub [1, 2, 3, 4, 0] rfl
        have hD : va_D A [(ax, .inr (4, [.ref axr, .ref axi, .ref ah, .ref axg, .ref axo, .ref ab, .ref au, .int (rc), .int (tc), .int (o51.2.1)])), (axr, .inl (cR, 4, .inr (.inr (.inr (.inr (fun j => some (ra j))))))), (ra 0, .inr (1, [.ref (ca 0), .int (th), .int (ln), .int (le)])), (ca 0, .inl (cI, 60, .inl (o51.2.2))), (ag, .inl (cI, 25, .inl (gg)))] := hD.sub [1, 2, 3, 4, 0] (by decide) rfl
        refine lv_iconst (v := (1 : Int32)) hx hb dL_put_272 (by decide) ?_
        refine lv_icmp_ne (tgt := 301) hx hb dL_put_273 (by decide) (fun c53 => ?_) (fun c53 => ?_)
        · have hg := ie hg c53
          refine lv_bipush (v := (-99 : Int32)) hx hb dL_put_301 (by decide) ?_
          obtain rfl := Option.some.inj hg
          exact rti hQ hx hb hr hlocks hK hP hD hS dL_put_303 ⟨rfl, rfl⟩
        · have hg := it hg c53
          refine lv_aload_n hx hb dL_put_276 rfl (lv_at hl 0 rfl) ?_
          refine lv_iconst (v := (0 : Int32)) hx hb dL_put_277 (by decide) ?_
          refine lv_iload hx hb dL_put_278 (lv_at hl 5 rfl) ?_
          refine lv_iinc (v := (x6 + (1 : Int32))) (lv' := [(6, .int ((x6 + (1 : Int32)))), (0, .ref ax), (1, .ref sq), (2, .int (zf)), (4, .ref ag), (5, .int (x5)), (7, .int (x7)), (8, .int (x8))]) hx hb dL_put_280 hl (k := 5) rfl rfl (by decide) rfl (fun ls hl => ?_)
          refine lv_bipush (v := (48 : Int32)) hx hb dL_put_283 (by decide) ?_
          refine lv_aload hx hb dL_put_285 (lv_at hl 4 rfl) ?_
          refine lv_bipush (v := (14 : Int32)) hx hb dL_put_287 (by decide) ?_
          refine lv_iload hx hb dL_put_289 (lv_at hl 6 rfl) ?_
          refine lv_iadd hx hb dL_put_291 ?_
          obtain ⟨g54, hg⟩ := gxo hg
          refine va_iald hx hb hK hP 4 0 rfl rfl g54 dL_put_292 ?_
          refine W.eq (g2 := F0 m 293 ls [.int ((gg ((14 : Int32) + x7).toNatClampNeg)), .int ((48 : Int32)), .int (x6), .int ((0 : Int32)), .ref ax]) rfl ?_
          refine lv_iadd hx hb dL_put_293 ?_
          obtain ⟨o55, h56, hg⟩ := bd hg
          refine xcVi (As := [.int ((0 : Int32)), .int (x6), .int (((48 : Int32) + (gg ((14 : Int32) + x7).toNatClampNeg)))]) (rest := []) (wc := [(ax, .inr (4, [.ref axr, .ref axi, .ref ah, .ref axg, .ref axo, .ref ab, .ref au, .int (rc), .int (tc), .int (o51.2.1)])), (axr, .inl (cR, 4, .inr (.inr (.inr (.inr (fun j => some (ra j))))))), (ra 0, .inr (1, [.ref (ca 0), .int (th), .int (ln), .int (le)])), (ca 0, .inl (cI, 60, .inl (o51.2.2)))]) (wr := [(ag, .inl (cI, 25, .inl (gg)))]) ⟨hx, hb, hml, hown, hts⟩ (c_X4_put l D cI cZ cR ax axr axi ah axg axo ab au rc tc o51.2.1 th ln le o51.2.2 (0 : Int32) x6 ((48 : Int32) + (gg ((14 : Int32) + x7).toNatClampNeg)) ra ca 0 h56) (cwV 3 hts gL_put_X4_put rfl rfl rfl (by decide +kernel) ⟨Nat.le_of_ble_eq_true rfl, Nat.le_of_ble_eq_true rfl⟩) hK hP hD hS hA [0, 1, 2, 3] [4] rfl rfl (by decide) (by decide) (by decide) (va_recv hK hP (ci := 4) (q0 := 0) rfl rfl) rfl rfl hl.1 (lv_room (Nat.le_of_ble_eq_true rfl)) dL_put_294 ⟨Nat.le_of_ble_eq_true rfl, Nat.le_of_ble_eq_true rfl⟩ (fun r u H locs hu hP hD hS => ?_)
          obtain ⟨rfl, rfl⟩ := hu
          have hP : va_P D vwCl [(ax, .inr (4, [.ref axr, .ref axi, .ref ah, .ref axg, .ref axo, .ref ab, .ref au, .int (rc), .int (tc), .int (o55.2.1)])), (axr, .inl (cR, 4, .inr (.inr (.inr (.inr (fun j => some (ra j))))))), (ra 0, .inr (1, [.ref (ca 0), .int (th), .int (ln), .int (le)])), (ca 0, .inl (cI, 60, .inl (o55.2.2))), (ag, .inl (cI, 25, .inl (gg)))] H := hP.sub [1, 2, 3, 4, 0] rfl
          have hD : va_D A [(ax, .inr (4, [.ref axr, .ref axi, .ref ah, .ref axg, .ref axo, .ref ab, .ref au, .int (rc), .int (tc), .int (o55.2.1)])), (axr, .inl (cR, 4, .inr (.inr (.inr (.inr (fun j => some (ra j))))))), (ra 0, .inr (1, [.ref (ca 0), .int (th), .int (ln), .int (le)])), (ca 0, .inl (cI, 60, .inl (o55.2.2))), (ag, .inl (cI, 25, .inl (gg)))] := hD.sub [1, 2, 3, 4, 0] (by decide) rfl
          refine lv_iconst (v := (1 : Int32)) hx hb dL_put_297 (by decide) ?_
          refine lv_icmp_eq (tgt := 304) hx hb dL_put_298 (by decide) (fun c57 => ?_) (fun c57 => ?_)
          · have hg := it hg c57
            refine lv_iload hx hb dL_put_304 (lv_at hl 7 rfl) ?_
            refine lv_iconst (v := (4 : Int32)) hx hb dL_put_306 (by decide) ?_
            refine lv_ishr hx hb dL_put_307 ?_
            refine lv_iconst (v := (4 : Int32)) hx hb dL_put_308 (by decide) ?_
            obtain ⟨o58, h59, hg⟩ := bd hg
            refine xcSi (As := [.int ((x8 >>> ((4 : Int32) &&& 31))), .int ((4 : Int32))]) (rest := []) (wc := []) (wr := [(ax, .inr (4, [.ref axr, .ref axi, .ref ah, .ref axg, .ref axo, .ref ab, .ref au, .int (rc), .int (tc), .int (o55.2.1)])), (axr, .inl (cR, 4, .inr (.inr (.inr (.inr (fun j => some (ra j))))))), (ra 0, .inr (1, [.ref (ca 0), .int (th), .int (ln), .int (le)])), (ca 0, .inl (cI, 60, .inl (o55.2.2))), (ag, .inl (cI, 25, .inl (gg)))]) ⟨hx, hb, hml, hown, hts⟩ (c_L_some l D cI cZ cR (x8 >>> ((4 : Int32) &&& 31)) (4 : Int32) h59) (cwS 2 hts gL_put_L_some rfl rfl rfl (by decide +kernel) ⟨Nat.le_of_ble_eq_true rfl, Nat.le_of_ble_eq_true rfl⟩) hK hP hD hS hA [] [0, 1, 2, 3, 4] rfl rfl (by decide) (by decide) (by decide) rfl rfl hl.1 (lv_room (Nat.le_of_ble_eq_true rfl)) dL_put_309 ⟨Nat.le_of_ble_eq_true rfl, Nat.le_of_ble_eq_true rfl⟩ (fun r u H locs hu hP hD hS => ?_)
            obtain ⟨rfl, rfl⟩ := hu
            have hP : va_P D vwCl [(ax, .inr (4, [.ref axr, .ref axi, .ref ah, .ref axg, .ref axo, .ref ab, .ref au, .int (rc), .int (tc), .int (o55.2.1)])), (axr, .inl (cR, 4, .inr (.inr (.inr (.inr (fun j => some (ra j))))))), (ra 0, .inr (1, [.ref (ca 0), .int (th), .int (ln), .int (le)])), (ca 0, .inl (cI, 60, .inl (o55.2.2))), (ag, .inl (cI, 25, .inl (gg)))] H := hP.sub [0, 1, 2, 3, 4] rfl
            have hD : va_D A [(ax, .inr (4, [.ref axr, .ref axi, .ref ah, .ref axg, .ref axo, .ref ab, .ref au, .int (rc), .int (tc), .int (o55.2.1)])), (axr, .inl (cR, 4, .inr (.inr (.inr (.inr (fun j => some (ra j))))))), (ra 0, .inr (1, [.ref (ca 0), .int (th), .int (ln), .int (le)])), (ca 0, .inl (cI, 60, .inl (o55.2.2))), (ag, .inl (cI, 25, .inl (gg)))] := hD.sub [0, 1, 2, 3, 4] (by decide) rfl
            refine lv_if_le (tgt := 318) hx hb dL_put_312 (by decide) (fun c60 => ?_) (fun c60 => ?_)
            · have hg := it hg c60
              refine lv_aload hx hb dL_put_318 (lv_at hl 4 rfl) ?_
              refine lv_bipush (v := (24 : Int32)) hx hb dL_put_320 (by decide) ?_
              refine lv_dup2_11 hx hb dL_put_322 rfl rfl ?_
              obtain ⟨g61, hg⟩ := gxo hg
              refine va_iald hx hb hK hP 4 0 rfl rfl g61 dL_put_323 ?_
              refine W.eq (g2 := F0 m 324 ls [.int ((gg (24 : Int32).toNatClampNeg)), .int ((24 : Int32)), .ref ag]) rfl ?_
              refine lv_iconst (v := (1 : Int32)) hx hb dL_put_324 (by decide) ?_
              refine lv_iload hx hb dL_put_325 (lv_at hl 6 rfl) ?_
              refine lv_ishl hx hb dL_put_327 ?_
              refine lv_ior hx hb dL_put_328 ?_
              obtain ⟨g62, hg⟩ := gxo hg
              refine va_iast hx hb hK hP hD hS 4 0 rfl rfl g62 dL_put_329 (fun H locs hP hD hS => ?_)
              have hP : va_P D vwCl [(ax, .inr (4, [.ref axr, .ref axi, .ref ah, .ref axg, .ref axo, .ref ab, .ref au, .int (rc), .int (tc), .int (o55.2.1)])), (axr, .inl (cR, 4, .inr (.inr (.inr (.inr (fun j => some (ra j))))))), (ra 0, .inr (1, [.ref (ca 0), .int (th), .int (ln), .int (le)])), (ca 0, .inl (cI, 60, .inl (o55.2.2))), (ag, .inl (cI, 25, .inl ((upd gg (24 : Int32).toNatClampNeg ((gg (24 : Int32).toNatClampNeg) ||| ((1 : Int32) <<< (x7 &&& 31)))))))] H := hP
              have hD : va_D A [(ax, .inr (4, [.ref axr, .ref axi, .ref ah, .ref axg, .ref axo, .ref ab, .ref au, .int (rc), .int (tc), .int (o55.2.1)])), (axr, .inl (cR, 4, .inr (.inr (.inr (.inr (fun j => some (ra j))))))), (ra 0, .inr (1, [.ref (ca 0), .int (th), .int (ln), .int (le)])), (ca 0, .inl (cI, 60, .inl (o55.2.2))), (ag, .inl (cI, 25, .inl ((upd gg (24 : Int32).toNatClampNeg ((gg (24 : Int32).toNatClampNeg) ||| ((1 : Int32) <<< (x7 &&& 31)))))))] := hD
              refine lv_aload_n hx hb dL_put_330 rfl (lv_at hl 1 rfl) ?_
              refine lv_iconst (v := (0 : Int32)) hx hb dL_put_331 (by decide) ?_
              refine lv_iload hx hb dL_put_332 (lv_at hl 0 rfl) ?_
              refine lv_iinc (v := ((x6 + (1 : Int32)) + (1 : Int32))) (lv' := [(6, .int (((x6 + (1 : Int32)) + (1 : Int32)))), (0, .ref ax), (1, .ref sq), (2, .int (zf)), (4, .ref ag), (5, .int (x5)), (7, .int (x7)), (8, .int (x8))]) hx hb dL_put_334 hl (k := 0) rfl rfl (by decide) rfl (fun ls hl => ?_)
              refine lv_bipush (v := (35 : Int32)) hx hb dL_put_337 (by decide) ?_
              obtain ⟨o63, h64, hg⟩ := bd hg
              refine xcVi (As := [.int ((0 : Int32)), .int ((x6 + (1 : Int32))), .int ((35 : Int32))]) (rest := []) (wc := [(ax, .inr (4, [.ref axr, .ref axi, .ref ah, .ref axg, .ref axo, .ref ab, .ref au, .int (rc), .int (tc), .int (o55.2.1)])), (axr, .inl (cR, 4, .inr (.inr (.inr (.inr (fun j => some (ra j))))))), (ra 0, .inr (1, [.ref (ca 0), .int (th), .int (ln), .int (le)])), (ca 0, .inl (cI, 60, .inl (o55.2.2)))]) (wr := [(ag, .inl (cI, 25, .inl ((upd gg (24 : Int32).toNatClampNeg ((gg (24 : Int32).toNatClampNeg) ||| ((1 : Int32) <<< (x7 &&& 31)))))))]) ⟨hx, hb, hml, hown, hts⟩ (c_X4_put l D cI cZ cR ax axr axi ah axg axo ab au rc tc o55.2.1 th ln le o55.2.2 (0 : Int32) (x6 + (1 : Int32)) (35 : Int32) ra ca 0 h64) (cwV 3 hts gL_put_X4_put rfl rfl rfl (by decide +kernel) ⟨Nat.le_of_ble_eq_true rfl, Nat.le_of_ble_eq_true rfl⟩) hK hP hD hS hA [0, 1, 2, 3] [4] rfl rfl (by decide) (by decide) (by decide) (va_recv hK hP (ci := 4) (q0 := 0) rfl rfl) rfl rfl hl.1 (lv_room (Nat.le_of_ble_eq_true rfl)) dL_put_339 ⟨Nat.le_of_ble_eq_true rfl, Nat.le_of_ble_eq_true rfl⟩ (fun r u H locs hu hP hD hS => ?_)
              obtain ⟨rfl, rfl⟩ := hu
              have hP : va_P D vwCl [(ax, .inr (4, [.ref axr, .ref axi, .ref ah, .ref axg, .ref axo, .ref ab, .ref au, .int (rc), .int (tc), .int (o63.2.1)])), (axr, .inl (cR, 4, .inr (.inr (.inr (.inr (fun j => some (ra j))))))), (ra 0, .inr (1, [.ref (ca 0), .int (th), .int (ln), .int (le)])), (ca 0, .inl (cI, 60, .inl (o63.2.2))), (ag, .inl (cI, 25, .inl ((upd gg (24 : Int32).toNatClampNeg ((gg (24 : Int32).toNatClampNeg) ||| ((1 : Int32) <<< (x7 &&& 31)))))))] H := hP.sub [1, 2, 3, 4, 0] rfl
              have hD : va_D A [(ax, .inr (4, [.ref axr, .ref axi, .ref ah, .ref axg, .ref axo, .ref ab, .ref au, .int (rc), .int (tc), .int (o63.2.1)])), (axr, .inl (cR, 4, .inr (.inr (.inr (.inr (fun j => some (ra j))))))), (ra 0, .inr (1, [.ref (ca 0), .int (th), .int (ln), .int (le)])), (ca 0, .inl (cI, 60, .inl (o63.2.2))), (ag, .inl (cI, 25, .inl ((upd gg (24 : Int32).toNatClampNeg ((gg (24 : Int32).toNatClampNeg) ||| ((1 : Int32) <<< (x7 &&& 31)))))))] := hD.sub [1, 2, 3, 4, 0] (by decide) rfl
              refine lv_iconst (v := (1 : Int32)) hx hb dL_put_342 (by decide) ?_
              refine lv_icmp_eq (tgt := 349) hx hb dL_put_343 (by decide) (fun c65 => ?_) (fun c65 => ?_)
              · have hg := it hg c65
                refine lv_iinc (v := (x7 + (1 : Int32))) (lv' := [(7, .int ((x7 + (1 : Int32)))), (6, .int (((x6 + (1 : Int32)) + (1 : Int32)))), (0, .ref ax), (1, .ref sq), (2, .int (zf)), (4, .ref ag), (5, .int (x5)), (8, .int (x8))]) hx hb dL_put_349 hl (k := 6) rfl rfl (by decide) rfl (fun ls hl => ?_)
                refine lv_goto (tgt := 153) hx hb dL_put_352 (by decide) ?_
                exact ih x5 ((x6 + (1 : Int32)) + (1 : Int32)) (x7 + (1 : Int32)) o63.2.1 th ln le o63.2.2 (upd gg (24 : Int32).toNatClampNeg ((gg (24 : Int32).toNatClampNeg) ||| ((1 : Int32) <<< (x7 &&& 31)))) hg _ _ hP hD hS _ (lv_sub hl [2, 3, 4, 5, 6, 1, 0] rfl)
              · have hg := ie hg c65
                refine lv_bipush (v := (-99 : Int32)) hx hb dL_put_346 (by decide) ?_
                obtain rfl := Option.some.inj hg
                exact rti hQ hx hb hr hlocks hK hP hD hS dL_put_348 ⟨rfl, rfl⟩
            · have hg := ie hg c60
              refine lv_goto (tgt := 349) hx hb dL_put_315 (by decide) ?_
              refine lv_iinc (v := (x7 + (1 : Int32))) (lv' := [(7, .int ((x7 + (1 : Int32)))), (6, .int ((x6 + (1 : Int32)))), (0, .ref ax), (1, .ref sq), (2, .int (zf)), (4, .ref ag), (5, .int (x5)), (8, .int (x8))]) hx hb dL_put_349 hl (k := 6) rfl rfl (by decide) rfl (fun ls hl => ?_)
              refine lv_goto (tgt := 153) hx hb dL_put_352 (by decide) ?_
              exact ih x5 (x6 + (1 : Int32)) (x7 + (1 : Int32)) o55.2.1 th ln le o55.2.2 gg hg _ _ hP hD hS _ (lv_sub hl [2, 3, 4, 5, 6, 1, 0] rfl)
          · have hg := ie hg c57
            refine lv_bipush (v := (-99 : Int32)) hx hb dL_put_301 (by decide) ?_
            obtain rfl := Option.some.inj hg
            exact rti hQ hx hb hr hlocks hK hP hD hS dL_put_303 ⟨rfl, rfl⟩
      have bk_225 : ∀ (x5 : Int32) (x6 : Int32) (x7 : Int32) (x8 : Int32) (y1 : Int32) (y2 : Int32) (y3 : Int32) (lf : Int32) (th : Int32) (ln : Int32) (le : Int32) (ce : Nat → Int32) (gg : Nat → Int32), f_L_put_153_225 (f_L_put_L153 zf sL xs n) x5 x6 x7 x8 y1 y2 y3 lf th ln le ce gg = some res → ∀ (H : Heap) (locs : List Loc), va_P D vwCl [(ax, .inr (4, [.ref axr, .ref axi, .ref ah, .ref axg, .ref axo, .ref ab, .ref au, .int (rc), .int (tc), .int (lf)])), (axr, .inl (cR, 4, .inr (.inr (.inr (.inr (fun j => some (ra j))))))), (ra 0, .inr (1, [.ref (ca 0), .int (th), .int (ln), .int (le)])), (ca 0, .inl (cI, 60, .inl (ce))), (ag, .inl (cI, 25, .inl (gg)))] H → va_D A [(ax, .inr (4, [.ref axr, .ref axi, .ref ah, .ref axg, .ref axo, .ref ab, .ref au, .int (rc), .int (tc), .int (lf)])), (axr, .inl (cR, 4, .inr (.inr (.inr (.inr (fun j => some (ra j))))))), (ra 0, .inr (1, [.ref (ca 0), .int (th), .int (ln), .int (le)])), (ca 0, .inl (cI, 60, .inl (ce))), (ag, .inl (cI, 25, .inl (gg)))] → va_S A s.heap H locs → ∀ (ls : Array Slot), lv_has ls 9 [(0, .ref ax), (1, .ref sq), (2, .int (zf)), (4, .ref ag), (5, .int (x5)), (6, .int (x6)), (7, .int (x7)), (8, .int (x8))] → W p l e ({ frames := 3, cells := 0, slots := 0, locals := 68 }) s m args below meth c H locs 0 0 Q (F0 m 225 ls [.int (y3), .int (y2), .int (y1), .ref ag]) := by
        intro x5 x6 x7 x8 y1 y2 y3 lf th ln le ce gg hg H locs hP hD hS ls hl
        rw [f_L_put_153_225] at hg
        obtain ⟨o44, h45, hg⟩ := bd hg
        refine xcSi (As := [.int (y2), .int (y3)]) (rest := [.int (y1), .ref ag]) (wc := []) (wr := [(ax, .inr (4, [.ref axr, .ref axi, .ref ah, .ref axg, .ref axo, .ref ab, .ref au, .int (rc), .int (tc), .int (lf)])), (axr, .inl (cR, 4, .inr (.inr (.inr (.inr (fun j => some (ra j))))))), (ra 0, .inr (1, [.ref (ca 0), .int (th), .int (ln), .int (le)])), (ca 0, .inl (cI, 60, .inl (ce))), (ag, .inl (cI, 25, .inl (gg)))]) ⟨hx, hb, hml, hown, hts⟩ (c_L_some l D cI cZ cR y2 y3 h45) (cwS 2 hts gL_put_L_some rfl rfl rfl (by decide +kernel) ⟨Nat.le_of_ble_eq_true rfl, Nat.le_of_ble_eq_true rfl⟩) hK hP hD hS hA [] [0, 1, 2, 3, 4] rfl rfl (by decide) (by decide) (by decide) rfl rfl hl.1 (lv_room (Nat.le_of_ble_eq_true rfl)) dL_put_225 ⟨Nat.le_of_ble_eq_true rfl, Nat.le_of_ble_eq_true rfl⟩ (fun r u H locs hu hP hD hS => ?_)
        obtain ⟨rfl, rfl⟩ := hu
        have hP : va_P D vwCl [(ax, .inr (4, [.ref axr, .ref axi, .ref ah, .ref axg, .ref axo, .ref ab, .ref au, .int (rc), .int (tc), .int (lf)])), (axr, .inl (cR, 4, .inr (.inr (.inr (.inr (fun j => some (ra j))))))), (ra 0, .inr (1, [.ref (ca 0), .int (th), .int (ln), .int (le)])), (ca 0, .inl (cI, 60, .inl (ce))), (ag, .inl (cI, 25, .inl (gg)))] H := hP.sub [0, 1, 2, 3, 4] rfl
        have hD : va_D A [(ax, .inr (4, [.ref axr, .ref axi, .ref ah, .ref axg, .ref axo, .ref ab, .ref au, .int (rc), .int (tc), .int (lf)])), (axr, .inl (cR, 4, .inr (.inr (.inr (.inr (fun j => some (ra j))))))), (ra 0, .inr (1, [.ref (ca 0), .int (th), .int (ln), .int (le)])), (ca 0, .inl (cI, 60, .inl (ce))), (ag, .inl (cI, 25, .inl (gg)))] := hD.sub [0, 1, 2, 3, 4] (by decide) rfl
        obtain ⟨g46, hg⟩ := gxo hg
        refine va_iast hx hb hK hP hD hS 4 0 rfl rfl g46 dL_put_228 (fun H locs hP hD hS => ?_)
        have hP : va_P D vwCl [(ax, .inr (4, [.ref axr, .ref axi, .ref ah, .ref axg, .ref axo, .ref ab, .ref au, .int (rc), .int (tc), .int (lf)])), (axr, .inl (cR, 4, .inr (.inr (.inr (.inr (fun j => some (ra j))))))), (ra 0, .inr (1, [.ref (ca 0), .int (th), .int (ln), .int (le)])), (ca 0, .inl (cI, 60, .inl (ce))), (ag, .inl (cI, 25, .inl ((upd gg y1.toNatClampNeg o44))))] H := hP
        have hD : va_D A [(ax, .inr (4, [.ref axr, .ref axi, .ref ah, .ref axg, .ref axo, .ref ab, .ref au, .int (rc), .int (tc), .int (lf)])), (axr, .inl (cR, 4, .inr (.inr (.inr (.inr (fun j => some (ra j))))))), (ra 0, .inr (1, [.ref (ca 0), .int (th), .int (ln), .int (le)])), (ca 0, .inl (cI, 60, .inl (ce))), (ag, .inl (cI, 25, .inl ((upd gg y1.toNatClampNeg o44))))] := hD
        refine lv_aload_n hx hb dL_put_229 rfl (lv_at hl 0 rfl) ?_
        refine lv_iconst (v := (0 : Int32)) hx hb dL_put_230 (by decide) ?_
        refine lv_iload hx hb dL_put_231 (lv_at hl 5 rfl) ?_
        refine lv_iinc (v := (x6 + (1 : Int32))) (lv' := [(6, .int ((x6 + (1 : Int32)))), (0, .ref ax), (1, .ref sq), (2, .int (zf)), (4, .ref ag), (5, .int (x5)), (7, .int (x7)), (8, .int (x8))]) hx hb dL_put_233 hl (k := 5) rfl rfl (by decide) rfl (fun ls hl => ?_)
        refine lv_aload hx hb dL_put_236 (lv_at hl 4 rfl) ?_
        refine lv_iconst (v := (4 : Int32)) hx hb dL_put_238 (by decide) ?_
        refine lv_iload hx hb dL_put_239 (lv_at hl 6 rfl) ?_
        refine lv_iadd hx hb dL_put_241 ?_
        obtain ⟨g47, hg⟩ := gxo hg
        refine va_iald hx hb hK hP 4 0 rfl rfl g47 dL_put_242 ?_
        refine W.eq (g2 := F0 m 243 ls [.int (((upd gg y1.toNatClampNeg o44) ((4 : Int32) + x7).toNatClampNeg)), .int (x6), .int ((0 : Int32)), .ref ax]) rfl ?_
        refine lv_if_ne (tgt := 251) hx hb dL_put_243 (by decide) (fun c48 => ?_) (fun c48 => ?_)
        · have hg := ie hg c48
          refine lv_aload hx hb dL_put_251 (lv_at hl 4 rfl) ?_
          refine lv_iconst (v := (4 : Int32)) hx hb dL_put_253 (by decide) ?_
          refine lv_iload hx hb dL_put_254 (lv_at hl 6 rfl) ?_
          refine lv_iadd hx hb dL_put_256 ?_
          obtain ⟨g49, hg⟩ := gxo hg
          refine va_iald hx hb hK hP 4 0 rfl rfl g49 dL_put_257 ?_
          refine W.eq (g2 := F0 m 258 ls [.int (((upd gg y1.toNatClampNeg o44) ((4 : Int32) + x7).toNatClampNeg)), .int (x6), .int ((0 : Int32)), .ref ax]) rfl ?_
          refine lv_iconst (v := (1 : Int32)) hx hb dL_put_258 (by decide) ?_
          refine lv_icmp_ne (tgt := 267) hx hb dL_put_259 (by decide) (fun c50 => ?_) (fun c50 => ?_)
          · have hg := ie hg c50
            refine lv_bipush (v := (119 : Int32)) hx hb dL_put_267 (by decide) ?_
            exact bk_269 x5 (x6 + (1 : Int32)) x7 x8 (0 : Int32) x6 (119 : Int32) lf th ln le ce (upd gg y1.toNatClampNeg o44) hg _ _ hP hD hS _ (lv_sub hl [1, 2, 3, 4, 5, 0, 6, 7] rfl)
          · have hg := it hg c50
            refine lv_bipush (v := (104 : Int32)) hx hb dL_put_262 (by decide) ?_
            refine lv_goto (tgt := 269) hx hb dL_put_264 (by decide) ?_
            exact bk_269 x5 (x6 + (1 : Int32)) x7 x8 (0 : Int32) x6 (104 : Int32) lf th ln le ce (upd gg y1.toNatClampNeg o44) hg _ _ hP hD hS _ (lv_sub hl [1, 2, 3, 4, 5, 0, 6, 7] rfl)
        · have hg := it hg c48
          refine lv_bipush (v := (102 : Int32)) hx hb dL_put_246 (by decide) ?_
          refine lv_goto (tgt := 269) hx hb dL_put_248 (by decide) ?_
          exact bk_269 x5 (x6 + (1 : Int32)) x7 x8 (0 : Int32) x6 (102 : Int32) lf th ln le ce (upd gg y1.toNatClampNeg o44) hg _ _ hP hD hS _ (lv_sub hl [1, 2, 3, 4, 5, 0, 6, 7] rfl)
      intro x5 x6 x7 lf th ln le ce gg hg H locs hP hD hS ls hl
      rw [f_L_put_L153] at hg
      refine lv_iload hx hb dL_put_153 (lv_at hl 6 rfl) ?_
      refine lv_aload hx hb dL_put_155 (lv_at hl 3 rfl) ?_
      refine lv_iconst (v := (0 : Int32)) hx hb dL_put_157 (by decide) ?_
      obtain ⟨g34, hg⟩ := gxo hg
      refine va_iald hx hb hK hP 4 0 rfl rfl g34 dL_put_158 ?_
      refine W.eq (g2 := F0 m 159 ls [.int ((gg (0 : Int32).toNatClampNeg)), .int (x7)]) rfl ?_
      refine lv_icmp_ge (tgt := 355) hx hb dL_put_159 (by decide) (fun c35 => ?_) (fun c35 => ?_)
      · have hg := it hg c35
        refine lv_iload hx hb dL_put_355 (lv_at hl 5 rfl) ?_
        obtain rfl := Option.some.inj hg
        exact rti hQ hx hb hr hlocks hK hP hD hS dL_put_357 ⟨rfl, rfl⟩
      · have hg := ie hg c35
        refine lv_aload_n hx hb dL_put_162 rfl (lv_at hl 1 rfl) ?_
        refine lv_iload_n hx hb dL_put_163 rfl (lv_at hl 2 rfl) ?_
        refine lv_iconst (v := (1 : Int32)) hx hb dL_put_164 (by decide) ?_
        refine lv_iadd hx hb dL_put_165 ?_
        refine lv_iload hx hb dL_put_166 (lv_at hl 6 rfl) ?_
        refine lv_iconst (v := (3 : Int32)) hx hb dL_put_168 (by decide) ?_
        refine lv_irem hx hb dL_put_169 (by decide) ?_
        refine lv_iadd hx hb dL_put_170 ?_
        obtain ⟨o36, h37, hg⟩ := bd hg
        refine xcSis (As := [.ref sq, .int (((zf + (1 : Int32)) + (x7 - x7 / (3 : Int32) * (3 : Int32))))]) (rest := []) (wc := []) (wr := [(ax, .inr (4, [.ref axr, .ref axi, .ref ah, .ref axg, .ref axo, .ref ab, .ref au, .int (rc), .int (tc), .int (lf)])), (axr, .inl (cR, 4, .inr (.inr (.inr (.inr (fun j => some (ra j))))))), (ra 0, .inr (1, [.ref (ca 0), .int (th), .int (ln), .int (le)])), (ca 0, .inl (cI, 60, .inl (ce))), (ag, .inl (cI, 25, .inl (gg)))]) hz ⟨hx, hb, hml, hown, hts⟩ (c_L_cell l D cI cZ cR sq ((zf + (1 : Int32)) + (x7 - x7 / (3 : Int32) * (3 : Int32))) sL xs h37) (cwS 2 hts gL_put_L_cell rfl rfl rfl (by decide +kernel) ⟨Nat.le_of_ble_eq_true rfl, Nat.le_of_ble_eq_true rfl⟩) hK hP hD hS hA [] [0, 1, 2, 3, 4] rfl rfl (by decide) (by decide) (by decide) rfl rfl hl.1 (lv_room (Nat.le_of_ble_eq_true rfl)) dL_put_171 ⟨Nat.le_of_ble_eq_true rfl, Nat.le_of_ble_eq_true rfl⟩ (fun r u H locs hu hP hD hS => ?_)
        obtain ⟨rfl, rfl⟩ := hu
        have hP : va_P D vwCl [(ax, .inr (4, [.ref axr, .ref axi, .ref ah, .ref axg, .ref axo, .ref ab, .ref au, .int (rc), .int (tc), .int (lf)])), (axr, .inl (cR, 4, .inr (.inr (.inr (.inr (fun j => some (ra j))))))), (ra 0, .inr (1, [.ref (ca 0), .int (th), .int (ln), .int (le)])), (ca 0, .inl (cI, 60, .inl (ce))), (ag, .inl (cI, 25, .inl (gg)))] H := hP.sub [0, 1, 2, 3, 4] rfl
        have hD : va_D A [(ax, .inr (4, [.ref axr, .ref axi, .ref ah, .ref axg, .ref axo, .ref ab, .ref au, .int (rc), .int (tc), .int (lf)])), (axr, .inl (cR, 4, .inr (.inr (.inr (.inr (fun j => some (ra j))))))), (ra 0, .inr (1, [.ref (ca 0), .int (th), .int (ln), .int (le)])), (ca 0, .inl (cI, 60, .inl (ce))), (ag, .inl (cI, 25, .inl (gg)))] := hD.sub [0, 1, 2, 3, 4] (by decide) rfl
        refine lv_iload hx hb dL_put_174 (lv_at hl 6 rfl) ?_
        refine lv_iconst (v := (3 : Int32)) hx hb dL_put_176 (by decide) ?_
        refine lv_idiv hx hb dL_put_177 (by decide) ?_
        refine lv_bipush (v := (7 : Int32)) hx hb dL_put_178 (by decide) ?_
        refine lv_imul hx hb dL_put_180 ?_
        refine lv_ishr hx hb dL_put_181 ?_
        refine lv_istore (lv' := [(8, .int ((o36 >>> (((x7 / (3 : Int32)) * (7 : Int32)) &&& 31)))), (0, .ref ax), (1, .ref sq), (2, .int (zf)), (4, .ref ag), (5, .int (x5)), (6, .int (x6)), (7, .int (x7))]) hx hb dL_put_182 hl (by decide) rfl (fun ls hl => ?_)
        refine lv_aload hx hb dL_put_184 (lv_at hl 4 rfl) ?_
        refine lv_iconst (v := (4 : Int32)) hx hb dL_put_186 (by decide) ?_
        refine lv_iload hx hb dL_put_187 (lv_at hl 7 rfl) ?_
        refine lv_iadd hx hb dL_put_189 ?_
        refine lv_iload hx hb dL_put_190 (lv_at hl 0 rfl) ?_
        refine lv_iconst (v := (3 : Int32)) hx hb dL_put_192 (by decide) ?_
        obtain ⟨o38, h39, hg⟩ := bd hg
        refine xcSi (As := [.int ((o36 >>> (((x7 / (3 : Int32)) * (7 : Int32)) &&& 31))), .int ((3 : Int32))]) (rest := [.int (((4 : Int32) + x7)), .ref ag]) (wc := []) (wr := [(ax, .inr (4, [.ref axr, .ref axi, .ref ah, .ref axg, .ref axo, .ref ab, .ref au, .int (rc), .int (tc), .int (lf)])), (axr, .inl (cR, 4, .inr (.inr (.inr (.inr (fun j => some (ra j))))))), (ra 0, .inr (1, [.ref (ca 0), .int (th), .int (ln), .int (le)])), (ca 0, .inl (cI, 60, .inl (ce))), (ag, .inl (cI, 25, .inl (gg)))]) ⟨hx, hb, hml, hown, hts⟩ (c_L_some l D cI cZ cR (o36 >>> (((x7 / (3 : Int32)) * (7 : Int32)) &&& 31)) (3 : Int32) h39) (cwS 2 hts gL_put_L_some rfl rfl rfl (by decide +kernel) ⟨Nat.le_of_ble_eq_true rfl, Nat.le_of_ble_eq_true rfl⟩) hK hP hD hS hA [] [0, 1, 2, 3, 4] rfl rfl (by decide) (by decide) (by decide) rfl rfl hl.1 (lv_room (Nat.le_of_ble_eq_true rfl)) dL_put_193 ⟨Nat.le_of_ble_eq_true rfl, Nat.le_of_ble_eq_true rfl⟩ (fun r u H locs hu hP hD hS => ?_)
        obtain ⟨rfl, rfl⟩ := hu
        have hP : va_P D vwCl [(ax, .inr (4, [.ref axr, .ref axi, .ref ah, .ref axg, .ref axo, .ref ab, .ref au, .int (rc), .int (tc), .int (lf)])), (axr, .inl (cR, 4, .inr (.inr (.inr (.inr (fun j => some (ra j))))))), (ra 0, .inr (1, [.ref (ca 0), .int (th), .int (ln), .int (le)])), (ca 0, .inl (cI, 60, .inl (ce))), (ag, .inl (cI, 25, .inl (gg)))] H := hP.sub [0, 1, 2, 3, 4] rfl
        have hD : va_D A [(ax, .inr (4, [.ref axr, .ref axi, .ref ah, .ref axg, .ref axo, .ref ab, .ref au, .int (rc), .int (tc), .int (lf)])), (axr, .inl (cR, 4, .inr (.inr (.inr (.inr (fun j => some (ra j))))))), (ra 0, .inr (1, [.ref (ca 0), .int (th), .int (ln), .int (le)])), (ca 0, .inl (cI, 60, .inl (ce))), (ag, .inl (cI, 25, .inl (gg)))] := hD.sub [0, 1, 2, 3, 4] (by decide) rfl
        obtain ⟨g40, hg⟩ := gxo hg
        refine va_iast hx hb hK hP hD hS 4 0 rfl rfl g40 dL_put_196 (fun H locs hP hD hS => ?_)
        have hP : va_P D vwCl [(ax, .inr (4, [.ref axr, .ref axi, .ref ah, .ref axg, .ref axo, .ref ab, .ref au, .int (rc), .int (tc), .int (lf)])), (axr, .inl (cR, 4, .inr (.inr (.inr (.inr (fun j => some (ra j))))))), (ra 0, .inr (1, [.ref (ca 0), .int (th), .int (ln), .int (le)])), (ca 0, .inl (cI, 60, .inl (ce))), (ag, .inl (cI, 25, .inl ((upd gg ((4 : Int32) + x7).toNatClampNeg o38))))] H := hP
        have hD : va_D A [(ax, .inr (4, [.ref axr, .ref axi, .ref ah, .ref axg, .ref axo, .ref ab, .ref au, .int (rc), .int (tc), .int (lf)])), (axr, .inl (cR, 4, .inr (.inr (.inr (.inr (fun j => some (ra j))))))), (ra 0, .inr (1, [.ref (ca 0), .int (th), .int (ln), .int (le)])), (ca 0, .inl (cI, 60, .inl (ce))), (ag, .inl (cI, 25, .inl ((upd gg ((4 : Int32) + x7).toNatClampNeg o38))))] := hD
        refine lv_aload hx hb dL_put_197 (lv_at hl 4 rfl) ?_
        refine lv_bipush (v := (14 : Int32)) hx hb dL_put_199 (by decide) ?_
        refine lv_iload hx hb dL_put_201 (lv_at hl 7 rfl) ?_
        refine lv_iadd hx hb dL_put_203 ?_
        refine lv_iload hx hb dL_put_204 (lv_at hl 0 rfl) ?_
        refine lv_iconst (v := (2 : Int32)) hx hb dL_put_206 (by decide) ?_
        refine lv_ishr hx hb dL_put_207 ?_
        refine lv_iload hx hb dL_put_208 (lv_at hl 5 rfl) ?_
        refine lv_bipush (v := (10 : Int32)) hx hb dL_put_210 (by decide) ?_
        refine lv_ishr hx hb dL_put_212 ?_
        refine lv_iconst (v := (2 : Int32)) hx hb dL_put_213 (by decide) ?_
        obtain ⟨o41, h42, hg⟩ := bd hg
        refine xcSi (As := [.int ((x5 >>> ((10 : Int32) &&& 31))), .int ((2 : Int32))]) (rest := [.int (((o36 >>> (((x7 / (3 : Int32)) * (7 : Int32)) &&& 31)) >>> ((2 : Int32) &&& 31))), .int (((14 : Int32) + x7)), .ref ag]) (wc := []) (wr := [(ax, .inr (4, [.ref axr, .ref axi, .ref ah, .ref axg, .ref axo, .ref ab, .ref au, .int (rc), .int (tc), .int (lf)])), (axr, .inl (cR, 4, .inr (.inr (.inr (.inr (fun j => some (ra j))))))), (ra 0, .inr (1, [.ref (ca 0), .int (th), .int (ln), .int (le)])), (ca 0, .inl (cI, 60, .inl (ce))), (ag, .inl (cI, 25, .inl ((upd gg ((4 : Int32) + x7).toNatClampNeg o38))))]) ⟨hx, hb, hml, hown, hts⟩ (c_L_some l D cI cZ cR (x5 >>> ((10 : Int32) &&& 31)) (2 : Int32) h42) (cwS 2 hts gL_put_L_some rfl rfl rfl (by decide +kernel) ⟨Nat.le_of_ble_eq_true rfl, Nat.le_of_ble_eq_true rfl⟩) hK hP hD hS hA [] [0, 1, 2, 3, 4] rfl rfl (by decide) (by decide) (by decide) rfl rfl hl.1 (lv_room (Nat.le_of_ble_eq_true rfl)) dL_put_214 ⟨Nat.le_of_ble_eq_true rfl, Nat.le_of_ble_eq_true rfl⟩ (fun r u H locs hu hP hD hS => ?_)
        obtain ⟨rfl, rfl⟩ := hu
        have hP : va_P D vwCl [(ax, .inr (4, [.ref axr, .ref axi, .ref ah, .ref axg, .ref axo, .ref ab, .ref au, .int (rc), .int (tc), .int (lf)])), (axr, .inl (cR, 4, .inr (.inr (.inr (.inr (fun j => some (ra j))))))), (ra 0, .inr (1, [.ref (ca 0), .int (th), .int (ln), .int (le)])), (ca 0, .inl (cI, 60, .inl (ce))), (ag, .inl (cI, 25, .inl ((upd gg ((4 : Int32) + x7).toNatClampNeg o38))))] H := hP.sub [0, 1, 2, 3, 4] rfl
        have hD : va_D A [(ax, .inr (4, [.ref axr, .ref axi, .ref ah, .ref axg, .ref axo, .ref ab, .ref au, .int (rc), .int (tc), .int (lf)])), (axr, .inl (cR, 4, .inr (.inr (.inr (.inr (fun j => some (ra j))))))), (ra 0, .inr (1, [.ref (ca 0), .int (th), .int (ln), .int (le)])), (ca 0, .inl (cI, 60, .inl (ce))), (ag, .inl (cI, 25, .inl ((upd gg ((4 : Int32) + x7).toNatClampNeg o38))))] := hD.sub [0, 1, 2, 3, 4] (by decide) rfl
        refine lv_if_ne (tgt := 224) hx hb dL_put_217 (by decide) (fun c43 => ?_) (fun c43 => ?_)
        · have hg := ie hg c43
          refine lv_iconst (v := (3 : Int32)) hx hb dL_put_224 (by decide) ?_
          exact bk_225 x5 x6 x7 (o36 >>> (((x7 / (3 : Int32)) * (7 : Int32)) &&& 31)) ((14 : Int32) + x7) ((o36 >>> (((x7 / (3 : Int32)) * (7 : Int32)) &&& 31)) >>> ((2 : Int32) &&& 31)) (3 : Int32) lf th ln le ce (upd gg ((4 : Int32) + x7).toNatClampNeg o38) hg _ _ hP hD hS _ (lv_sub hl [1, 2, 3, 4, 5, 6, 7, 0] rfl)
        · have hg := it hg c43
          refine lv_iconst (v := (5 : Int32)) hx hb dL_put_220 (by decide) ?_
          refine lv_goto (tgt := 225) hx hb dL_put_221 (by decide) ?_
          exact bk_225 x5 x6 x7 (o36 >>> (((x7 / (3 : Int32)) * (7 : Int32)) &&& 31)) ((14 : Int32) + x7) ((o36 >>> (((x7 / (3 : Int32)) * (7 : Int32)) &&& 31)) >>> ((2 : Int32) &&& 31)) (5 : Int32) lf th ln le ce (upd gg ((4 : Int32) + x7).toNatClampNeg o38) hg _ _ hP hD hS _ (lv_sub hl [1, 2, 3, 4, 5, 6, 7, 0] rfl)
  have hl : lv_has ls 9 [(0, .ref ax), (1, .ref sq), (2, .int (zf)), (3, .int (zm)), (4, .ref ag)] := hl
  rw [f_L_put] at hg
  refine lv_aload_n hx hb dL_put_0 rfl (lv_at hl 1 rfl) ?_
  refine lv_iload_n hx hb dL_put_1 rfl (lv_at hl 2 rfl) ?_
  obtain ⟨o1, h2, hg⟩ := bd hg
  refine xcSis (As := [.ref sq, .int (zf)]) (rest := []) (wc := []) (wr := [(ax, .inr (4, [.ref axr, .ref axi, .ref ah, .ref axg, .ref axo, .ref ab, .ref au, .int (rc), .int (tc), .int (lf)])), (axr, .inl (cR, 4, .inr (.inr (.inr (.inr (fun j => some (ra j))))))), (ra 0, .inr (1, [.ref (ca 0), .int (th), .int (ln), .int (le)])), (ca 0, .inl (cI, 60, .inl (ce))), (ag, .inl (cI, 25, .inl (gg)))]) hz ⟨hx, hb, hml, hown, hts⟩ (c_L_cell l D cI cZ cR sq zf sL xs h2) (cwS 2 hts gL_put_L_cell rfl rfl rfl (by decide +kernel) ⟨Nat.le_of_ble_eq_true rfl, Nat.le_of_ble_eq_true rfl⟩) hK hP hD hS hA [] [0, 1, 2, 3, 4] rfl rfl (by decide) (by decide) (by decide) rfl rfl hl.1 (lv_room (Nat.le_of_ble_eq_true rfl)) dL_put_2 ⟨Nat.le_of_ble_eq_true rfl, Nat.le_of_ble_eq_true rfl⟩ (fun r u H locs hu hP hD hS => ?_)
  obtain ⟨rfl, rfl⟩ := hu
  have hP : va_P D vwCl [(ax, .inr (4, [.ref axr, .ref axi, .ref ah, .ref axg, .ref axo, .ref ab, .ref au, .int (rc), .int (tc), .int (lf)])), (axr, .inl (cR, 4, .inr (.inr (.inr (.inr (fun j => some (ra j))))))), (ra 0, .inr (1, [.ref (ca 0), .int (th), .int (ln), .int (le)])), (ca 0, .inl (cI, 60, .inl (ce))), (ag, .inl (cI, 25, .inl (gg)))] H := hP.sub [0, 1, 2, 3, 4] rfl
  have hD : va_D A [(ax, .inr (4, [.ref axr, .ref axi, .ref ah, .ref axg, .ref axo, .ref ab, .ref au, .int (rc), .int (tc), .int (lf)])), (axr, .inl (cR, 4, .inr (.inr (.inr (.inr (fun j => some (ra j))))))), (ra 0, .inr (1, [.ref (ca 0), .int (th), .int (ln), .int (le)])), (ca 0, .inl (cI, 60, .inl (ce))), (ag, .inl (cI, 25, .inl (gg)))] := hD.sub [0, 1, 2, 3, 4] (by decide) rfl
  refine lv_istore (lv' := [(5, .int (o1)), (0, .ref ax), (1, .ref sq), (2, .int (zf)), (3, .int (zm)), (4, .ref ag)]) hx hb dL_put_5 hl (by decide) rfl (fun ls hl => ?_)
  refine lv_aload hx hb dL_put_7 (lv_at hl 5 rfl) ?_
  refine lv_iconst (v := (0 : Int32)) hx hb dL_put_9 (by decide) ?_
  refine lv_iconst (v := (2 : Int32)) hx hb dL_put_10 (by decide) ?_
  refine lv_iload hx hb dL_put_11 (lv_at hl 0 rfl) ?_
  refine lv_iload_n hx hb dL_put_13 rfl (lv_at hl 4 rfl) ?_
  refine lv_iconst (v := (1 : Int32)) hx hb dL_put_14 (by decide) ?_
  refine lv_isub hx hb dL_put_15 ?_
  obtain ⟨o3, h4, hg⟩ := bd hg
  refine xcSi (As := [.int (o1), .int ((zm - (1 : Int32)))]) (rest := [.int ((2 : Int32)), .int ((0 : Int32)), .ref ag]) (wc := []) (wr := [(ax, .inr (4, [.ref axr, .ref axi, .ref ah, .ref axg, .ref axo, .ref ab, .ref au, .int (rc), .int (tc), .int (lf)])), (axr, .inl (cR, 4, .inr (.inr (.inr (.inr (fun j => some (ra j))))))), (ra 0, .inr (1, [.ref (ca 0), .int (th), .int (ln), .int (le)])), (ca 0, .inl (cI, 60, .inl (ce))), (ag, .inl (cI, 25, .inl (gg)))]) ⟨hx, hb, hml, hown, hts⟩ (c_L_some l D cI cZ cR o1 (zm - (1 : Int32)) h4) (cwS 2 hts gL_put_L_some rfl rfl rfl (by decide +kernel) ⟨Nat.le_of_ble_eq_true rfl, Nat.le_of_ble_eq_true rfl⟩) hK hP hD hS hA [] [0, 1, 2, 3, 4] rfl rfl (by decide) (by decide) (by decide) rfl rfl hl.1 (lv_room (Nat.le_of_ble_eq_true rfl)) dL_put_16 ⟨Nat.le_of_ble_eq_true rfl, Nat.le_of_ble_eq_true rfl⟩ (fun r u H locs hu hP hD hS => ?_)
  obtain ⟨rfl, rfl⟩ := hu
  have hP : va_P D vwCl [(ax, .inr (4, [.ref axr, .ref axi, .ref ah, .ref axg, .ref axo, .ref ab, .ref au, .int (rc), .int (tc), .int (lf)])), (axr, .inl (cR, 4, .inr (.inr (.inr (.inr (fun j => some (ra j))))))), (ra 0, .inr (1, [.ref (ca 0), .int (th), .int (ln), .int (le)])), (ca 0, .inl (cI, 60, .inl (ce))), (ag, .inl (cI, 25, .inl (gg)))] H := hP.sub [0, 1, 2, 3, 4] rfl
  have hD : va_D A [(ax, .inr (4, [.ref axr, .ref axi, .ref ah, .ref axg, .ref axo, .ref ab, .ref au, .int (rc), .int (tc), .int (lf)])), (axr, .inl (cR, 4, .inr (.inr (.inr (.inr (fun j => some (ra j))))))), (ra 0, .inr (1, [.ref (ca 0), .int (th), .int (ln), .int (le)])), (ca 0, .inl (cI, 60, .inl (ce))), (ag, .inl (cI, 25, .inl (gg)))] := hD.sub [0, 1, 2, 3, 4] (by decide) rfl
  refine lv_iadd hx hb dL_put_19 ?_
  obtain ⟨g5, hg⟩ := gxo hg
  refine va_iast hx hb hK hP hD hS 4 0 rfl rfl g5 dL_put_20 (fun H locs hP hD hS => ?_)
  have hP : va_P D vwCl [(ax, .inr (4, [.ref axr, .ref axi, .ref ah, .ref axg, .ref axo, .ref ab, .ref au, .int (rc), .int (tc), .int (lf)])), (axr, .inl (cR, 4, .inr (.inr (.inr (.inr (fun j => some (ra j))))))), (ra 0, .inr (1, [.ref (ca 0), .int (th), .int (ln), .int (le)])), (ca 0, .inl (cI, 60, .inl (ce))), (ag, .inl (cI, 25, .inl ((upd gg (0 : Int32).toNatClampNeg ((2 : Int32) + o3)))))] H := hP
  have hD : va_D A [(ax, .inr (4, [.ref axr, .ref axi, .ref ah, .ref axg, .ref axo, .ref ab, .ref au, .int (rc), .int (tc), .int (lf)])), (axr, .inl (cR, 4, .inr (.inr (.inr (.inr (fun j => some (ra j))))))), (ra 0, .inr (1, [.ref (ca 0), .int (th), .int (ln), .int (le)])), (ca 0, .inl (cI, 60, .inl (ce))), (ag, .inl (cI, 25, .inl ((upd gg (0 : Int32).toNatClampNeg ((2 : Int32) + o3)))))] := hD
  refine lv_aload hx hb dL_put_21 (lv_at hl 5 rfl) ?_
  refine lv_iconst (v := (1 : Int32)) hx hb dL_put_23 (by decide) ?_
  refine lv_iconst (v := (1 : Int32)) hx hb dL_put_24 (by decide) ?_
  refine lv_iload hx hb dL_put_25 (lv_at hl 0 rfl) ?_
  refine lv_iconst (v := (4 : Int32)) hx hb dL_put_27 (by decide) ?_
  refine lv_ishr hx hb dL_put_28 ?_
  refine lv_iconst (v := (4 : Int32)) hx hb dL_put_29 (by decide) ?_
  obtain ⟨o6, h7, hg⟩ := bd hg
  refine xcSi (As := [.int ((o1 >>> ((4 : Int32) &&& 31))), .int ((4 : Int32))]) (rest := [.int ((1 : Int32)), .int ((1 : Int32)), .ref ag]) (wc := []) (wr := [(ax, .inr (4, [.ref axr, .ref axi, .ref ah, .ref axg, .ref axo, .ref ab, .ref au, .int (rc), .int (tc), .int (lf)])), (axr, .inl (cR, 4, .inr (.inr (.inr (.inr (fun j => some (ra j))))))), (ra 0, .inr (1, [.ref (ca 0), .int (th), .int (ln), .int (le)])), (ca 0, .inl (cI, 60, .inl (ce))), (ag, .inl (cI, 25, .inl ((upd gg (0 : Int32).toNatClampNeg ((2 : Int32) + o3)))))]) ⟨hx, hb, hml, hown, hts⟩ (c_L_some l D cI cZ cR (o1 >>> ((4 : Int32) &&& 31)) (4 : Int32) h7) (cwS 2 hts gL_put_L_some rfl rfl rfl (by decide +kernel) ⟨Nat.le_of_ble_eq_true rfl, Nat.le_of_ble_eq_true rfl⟩) hK hP hD hS hA [] [0, 1, 2, 3, 4] rfl rfl (by decide) (by decide) (by decide) rfl rfl hl.1 (lv_room (Nat.le_of_ble_eq_true rfl)) dL_put_30 ⟨Nat.le_of_ble_eq_true rfl, Nat.le_of_ble_eq_true rfl⟩ (fun r u H locs hu hP hD hS => ?_)
  obtain ⟨rfl, rfl⟩ := hu
  have hP : va_P D vwCl [(ax, .inr (4, [.ref axr, .ref axi, .ref ah, .ref axg, .ref axo, .ref ab, .ref au, .int (rc), .int (tc), .int (lf)])), (axr, .inl (cR, 4, .inr (.inr (.inr (.inr (fun j => some (ra j))))))), (ra 0, .inr (1, [.ref (ca 0), .int (th), .int (ln), .int (le)])), (ca 0, .inl (cI, 60, .inl (ce))), (ag, .inl (cI, 25, .inl ((upd gg (0 : Int32).toNatClampNeg ((2 : Int32) + o3)))))] H := hP.sub [0, 1, 2, 3, 4] rfl
  have hD : va_D A [(ax, .inr (4, [.ref axr, .ref axi, .ref ah, .ref axg, .ref axo, .ref ab, .ref au, .int (rc), .int (tc), .int (lf)])), (axr, .inl (cR, 4, .inr (.inr (.inr (.inr (fun j => some (ra j))))))), (ra 0, .inr (1, [.ref (ca 0), .int (th), .int (ln), .int (le)])), (ca 0, .inl (cI, 60, .inl (ce))), (ag, .inl (cI, 25, .inl ((upd gg (0 : Int32).toNatClampNeg ((2 : Int32) + o3)))))] := hD.sub [0, 1, 2, 3, 4] (by decide) rfl
  refine lv_iadd hx hb dL_put_33 ?_
  obtain ⟨g8, hg⟩ := gxo hg
  refine va_iast hx hb hK hP hD hS 4 0 rfl rfl g8 dL_put_34 (fun H locs hP hD hS => ?_)
  have hP : va_P D vwCl [(ax, .inr (4, [.ref axr, .ref axi, .ref ah, .ref axg, .ref axo, .ref ab, .ref au, .int (rc), .int (tc), .int (lf)])), (axr, .inl (cR, 4, .inr (.inr (.inr (.inr (fun j => some (ra j))))))), (ra 0, .inr (1, [.ref (ca 0), .int (th), .int (ln), .int (le)])), (ca 0, .inl (cI, 60, .inl (ce))), (ag, .inl (cI, 25, .inl ((upd (upd gg (0 : Int32).toNatClampNeg ((2 : Int32) + o3)) (1 : Int32).toNatClampNeg ((1 : Int32) + o6)))))] H := hP
  have hD : va_D A [(ax, .inr (4, [.ref axr, .ref axi, .ref ah, .ref axg, .ref axo, .ref ab, .ref au, .int (rc), .int (tc), .int (lf)])), (axr, .inl (cR, 4, .inr (.inr (.inr (.inr (fun j => some (ra j))))))), (ra 0, .inr (1, [.ref (ca 0), .int (th), .int (ln), .int (le)])), (ca 0, .inl (cI, 60, .inl (ce))), (ag, .inl (cI, 25, .inl ((upd (upd gg (0 : Int32).toNatClampNeg ((2 : Int32) + o3)) (1 : Int32).toNatClampNeg ((1 : Int32) + o6)))))] := hD
  refine lv_aload hx hb dL_put_35 (lv_at hl 5 rfl) ?_
  refine lv_iconst (v := (2 : Int32)) hx hb dL_put_37 (by decide) ?_
  refine lv_iconst (v := (1 : Int32)) hx hb dL_put_38 (by decide) ?_
  refine lv_iload hx hb dL_put_39 (lv_at hl 0 rfl) ?_
  refine lv_bipush (v := (6 : Int32)) hx hb dL_put_41 (by decide) ?_
  refine lv_ishr hx hb dL_put_43 ?_
  refine lv_iconst (v := (3 : Int32)) hx hb dL_put_44 (by decide) ?_
  obtain ⟨o9, h10, hg⟩ := bd hg
  refine xcSi (As := [.int ((o1 >>> ((6 : Int32) &&& 31))), .int ((3 : Int32))]) (rest := [.int ((1 : Int32)), .int ((2 : Int32)), .ref ag]) (wc := []) (wr := [(ax, .inr (4, [.ref axr, .ref axi, .ref ah, .ref axg, .ref axo, .ref ab, .ref au, .int (rc), .int (tc), .int (lf)])), (axr, .inl (cR, 4, .inr (.inr (.inr (.inr (fun j => some (ra j))))))), (ra 0, .inr (1, [.ref (ca 0), .int (th), .int (ln), .int (le)])), (ca 0, .inl (cI, 60, .inl (ce))), (ag, .inl (cI, 25, .inl ((upd (upd gg (0 : Int32).toNatClampNeg ((2 : Int32) + o3)) (1 : Int32).toNatClampNeg ((1 : Int32) + o6)))))]) ⟨hx, hb, hml, hown, hts⟩ (c_L_some l D cI cZ cR (o1 >>> ((6 : Int32) &&& 31)) (3 : Int32) h10) (cwS 2 hts gL_put_L_some rfl rfl rfl (by decide +kernel) ⟨Nat.le_of_ble_eq_true rfl, Nat.le_of_ble_eq_true rfl⟩) hK hP hD hS hA [] [0, 1, 2, 3, 4] rfl rfl (by decide) (by decide) (by decide) rfl rfl hl.1 (lv_room (Nat.le_of_ble_eq_true rfl)) dL_put_45 ⟨Nat.le_of_ble_eq_true rfl, Nat.le_of_ble_eq_true rfl⟩ (fun r u H locs hu hP hD hS => ?_)
  obtain ⟨rfl, rfl⟩ := hu
  have hP : va_P D vwCl [(ax, .inr (4, [.ref axr, .ref axi, .ref ah, .ref axg, .ref axo, .ref ab, .ref au, .int (rc), .int (tc), .int (lf)])), (axr, .inl (cR, 4, .inr (.inr (.inr (.inr (fun j => some (ra j))))))), (ra 0, .inr (1, [.ref (ca 0), .int (th), .int (ln), .int (le)])), (ca 0, .inl (cI, 60, .inl (ce))), (ag, .inl (cI, 25, .inl ((upd (upd gg (0 : Int32).toNatClampNeg ((2 : Int32) + o3)) (1 : Int32).toNatClampNeg ((1 : Int32) + o6)))))] H := hP.sub [0, 1, 2, 3, 4] rfl
  have hD : va_D A [(ax, .inr (4, [.ref axr, .ref axi, .ref ah, .ref axg, .ref axo, .ref ab, .ref au, .int (rc), .int (tc), .int (lf)])), (axr, .inl (cR, 4, .inr (.inr (.inr (.inr (fun j => some (ra j))))))), (ra 0, .inr (1, [.ref (ca 0), .int (th), .int (ln), .int (le)])), (ca 0, .inl (cI, 60, .inl (ce))), (ag, .inl (cI, 25, .inl ((upd (upd gg (0 : Int32).toNatClampNeg ((2 : Int32) + o3)) (1 : Int32).toNatClampNeg ((1 : Int32) + o6)))))] := hD.sub [0, 1, 2, 3, 4] (by decide) rfl
  refine lv_iadd hx hb dL_put_48 ?_
  obtain ⟨g11, hg⟩ := gxo hg
  refine va_iast hx hb hK hP hD hS 4 0 rfl rfl g11 dL_put_49 (fun H locs hP hD hS => ?_)
  have hP : va_P D vwCl [(ax, .inr (4, [.ref axr, .ref axi, .ref ah, .ref axg, .ref axo, .ref ab, .ref au, .int (rc), .int (tc), .int (lf)])), (axr, .inl (cR, 4, .inr (.inr (.inr (.inr (fun j => some (ra j))))))), (ra 0, .inr (1, [.ref (ca 0), .int (th), .int (ln), .int (le)])), (ca 0, .inl (cI, 60, .inl (ce))), (ag, .inl (cI, 25, .inl ((upd (upd (upd gg (0 : Int32).toNatClampNeg ((2 : Int32) + o3)) (1 : Int32).toNatClampNeg ((1 : Int32) + o6)) (2 : Int32).toNatClampNeg ((1 : Int32) + o9)))))] H := hP
  have hD : va_D A [(ax, .inr (4, [.ref axr, .ref axi, .ref ah, .ref axg, .ref axo, .ref ab, .ref au, .int (rc), .int (tc), .int (lf)])), (axr, .inl (cR, 4, .inr (.inr (.inr (.inr (fun j => some (ra j))))))), (ra 0, .inr (1, [.ref (ca 0), .int (th), .int (ln), .int (le)])), (ca 0, .inl (cI, 60, .inl (ce))), (ag, .inl (cI, 25, .inl ((upd (upd (upd gg (0 : Int32).toNatClampNeg ((2 : Int32) + o3)) (1 : Int32).toNatClampNeg ((1 : Int32) + o6)) (2 : Int32).toNatClampNeg ((1 : Int32) + o9)))))] := hD
  refine lv_aload hx hb dL_put_50 (lv_at hl 5 rfl) ?_
  refine lv_iconst (v := (3 : Int32)) hx hb dL_put_52 (by decide) ?_
  refine lv_iload hx hb dL_put_53 (lv_at hl 0 rfl) ?_
  refine lv_bipush (v := (8 : Int32)) hx hb dL_put_55 (by decide) ?_
  refine lv_ishr hx hb dL_put_57 ?_
  refine lv_iconst (v := (3 : Int32)) hx hb dL_put_58 (by decide) ?_
  obtain ⟨o12, h13, hg⟩ := bd hg
  refine xcSi (As := [.int ((o1 >>> ((8 : Int32) &&& 31))), .int ((3 : Int32))]) (rest := [.int ((3 : Int32)), .ref ag]) (wc := []) (wr := [(ax, .inr (4, [.ref axr, .ref axi, .ref ah, .ref axg, .ref axo, .ref ab, .ref au, .int (rc), .int (tc), .int (lf)])), (axr, .inl (cR, 4, .inr (.inr (.inr (.inr (fun j => some (ra j))))))), (ra 0, .inr (1, [.ref (ca 0), .int (th), .int (ln), .int (le)])), (ca 0, .inl (cI, 60, .inl (ce))), (ag, .inl (cI, 25, .inl ((upd (upd (upd gg (0 : Int32).toNatClampNeg ((2 : Int32) + o3)) (1 : Int32).toNatClampNeg ((1 : Int32) + o6)) (2 : Int32).toNatClampNeg ((1 : Int32) + o9)))))]) ⟨hx, hb, hml, hown, hts⟩ (c_L_some l D cI cZ cR (o1 >>> ((8 : Int32) &&& 31)) (3 : Int32) h13) (cwS 2 hts gL_put_L_some rfl rfl rfl (by decide +kernel) ⟨Nat.le_of_ble_eq_true rfl, Nat.le_of_ble_eq_true rfl⟩) hK hP hD hS hA [] [0, 1, 2, 3, 4] rfl rfl (by decide) (by decide) (by decide) rfl rfl hl.1 (lv_room (Nat.le_of_ble_eq_true rfl)) dL_put_59 ⟨Nat.le_of_ble_eq_true rfl, Nat.le_of_ble_eq_true rfl⟩ (fun r u H locs hu hP hD hS => ?_)
  obtain ⟨rfl, rfl⟩ := hu
  have hP : va_P D vwCl [(ax, .inr (4, [.ref axr, .ref axi, .ref ah, .ref axg, .ref axo, .ref ab, .ref au, .int (rc), .int (tc), .int (lf)])), (axr, .inl (cR, 4, .inr (.inr (.inr (.inr (fun j => some (ra j))))))), (ra 0, .inr (1, [.ref (ca 0), .int (th), .int (ln), .int (le)])), (ca 0, .inl (cI, 60, .inl (ce))), (ag, .inl (cI, 25, .inl ((upd (upd (upd gg (0 : Int32).toNatClampNeg ((2 : Int32) + o3)) (1 : Int32).toNatClampNeg ((1 : Int32) + o6)) (2 : Int32).toNatClampNeg ((1 : Int32) + o9)))))] H := hP.sub [0, 1, 2, 3, 4] rfl
  have hD : va_D A [(ax, .inr (4, [.ref axr, .ref axi, .ref ah, .ref axg, .ref axo, .ref ab, .ref au, .int (rc), .int (tc), .int (lf)])), (axr, .inl (cR, 4, .inr (.inr (.inr (.inr (fun j => some (ra j))))))), (ra 0, .inr (1, [.ref (ca 0), .int (th), .int (ln), .int (le)])), (ca 0, .inl (cI, 60, .inl (ce))), (ag, .inl (cI, 25, .inl ((upd (upd (upd gg (0 : Int32).toNatClampNeg ((2 : Int32) + o3)) (1 : Int32).toNatClampNeg ((1 : Int32) + o6)) (2 : Int32).toNatClampNeg ((1 : Int32) + o9)))))] := hD.sub [0, 1, 2, 3, 4] (by decide) rfl
  obtain ⟨g14, hg⟩ := gxo hg
  refine va_iast hx hb hK hP hD hS 4 0 rfl rfl g14 dL_put_62 (fun H locs hP hD hS => ?_)
  have hP : va_P D vwCl [(ax, .inr (4, [.ref axr, .ref axi, .ref ah, .ref axg, .ref axo, .ref ab, .ref au, .int (rc), .int (tc), .int (lf)])), (axr, .inl (cR, 4, .inr (.inr (.inr (.inr (fun j => some (ra j))))))), (ra 0, .inr (1, [.ref (ca 0), .int (th), .int (ln), .int (le)])), (ca 0, .inl (cI, 60, .inl (ce))), (ag, .inl (cI, 25, .inl ((upd (upd (upd (upd gg (0 : Int32).toNatClampNeg ((2 : Int32) + o3)) (1 : Int32).toNatClampNeg ((1 : Int32) + o6)) (2 : Int32).toNatClampNeg ((1 : Int32) + o9)) (3 : Int32).toNatClampNeg o12))))] H := hP
  have hD : va_D A [(ax, .inr (4, [.ref axr, .ref axi, .ref ah, .ref axg, .ref axo, .ref ab, .ref au, .int (rc), .int (tc), .int (lf)])), (axr, .inl (cR, 4, .inr (.inr (.inr (.inr (fun j => some (ra j))))))), (ra 0, .inr (1, [.ref (ca 0), .int (th), .int (ln), .int (le)])), (ca 0, .inl (cI, 60, .inl (ce))), (ag, .inl (cI, 25, .inl ((upd (upd (upd (upd gg (0 : Int32).toNatClampNeg ((2 : Int32) + o3)) (1 : Int32).toNatClampNeg ((1 : Int32) + o6)) (2 : Int32).toNatClampNeg ((1 : Int32) + o9)) (3 : Int32).toNatClampNeg o12))))] := hD
  refine lv_aload hx hb dL_put_63 (lv_at hl 5 rfl) ?_
  refine lv_bipush (v := (24 : Int32)) hx hb dL_put_65 (by decide) ?_
  refine lv_iconst (v := (0 : Int32)) hx hb dL_put_67 (by decide) ?_
  obtain ⟨g15, hg⟩ := gxo hg
  refine va_iast hx hb hK hP hD hS 4 0 rfl rfl g15 dL_put_68 (fun H locs hP hD hS => ?_)
  have hP : va_P D vwCl [(ax, .inr (4, [.ref axr, .ref axi, .ref ah, .ref axg, .ref axo, .ref ab, .ref au, .int (rc), .int (tc), .int (lf)])), (axr, .inl (cR, 4, .inr (.inr (.inr (.inr (fun j => some (ra j))))))), (ra 0, .inr (1, [.ref (ca 0), .int (th), .int (ln), .int (le)])), (ca 0, .inl (cI, 60, .inl (ce))), (ag, .inl (cI, 25, .inl ((upd (upd (upd (upd (upd gg (0 : Int32).toNatClampNeg ((2 : Int32) + o3)) (1 : Int32).toNatClampNeg ((1 : Int32) + o6)) (2 : Int32).toNatClampNeg ((1 : Int32) + o9)) (3 : Int32).toNatClampNeg o12) (24 : Int32).toNatClampNeg (0 : Int32)))))] H := hP
  have hD : va_D A [(ax, .inr (4, [.ref axr, .ref axi, .ref ah, .ref axg, .ref axo, .ref ab, .ref au, .int (rc), .int (tc), .int (lf)])), (axr, .inl (cR, 4, .inr (.inr (.inr (.inr (fun j => some (ra j))))))), (ra 0, .inr (1, [.ref (ca 0), .int (th), .int (ln), .int (le)])), (ca 0, .inl (cI, 60, .inl (ce))), (ag, .inl (cI, 25, .inl ((upd (upd (upd (upd (upd gg (0 : Int32).toNatClampNeg ((2 : Int32) + o3)) (1 : Int32).toNatClampNeg ((1 : Int32) + o6)) (2 : Int32).toNatClampNeg ((1 : Int32) + o9)) (3 : Int32).toNatClampNeg o12) (24 : Int32).toNatClampNeg (0 : Int32)))))] := hD
  refine lv_aload_n hx hb dL_put_69 rfl (lv_at hl 1 rfl) ?_
  refine lv_iconst (v := (0 : Int32)) hx hb dL_put_70 (by decide) ?_
  refine lv_iconst (v := (0 : Int32)) hx hb dL_put_71 (by decide) ?_
  refine lv_bipush (v := (60 : Int32)) hx hb dL_put_72 (by decide) ?_
  obtain ⟨o16, h17, hg⟩ := bd hg
  refine xcVi (As := [.int ((0 : Int32)), .int ((0 : Int32)), .int ((60 : Int32))]) (rest := []) (wc := [(ax, .inr (4, [.ref axr, .ref axi, .ref ah, .ref axg, .ref axo, .ref ab, .ref au, .int (rc), .int (tc), .int (lf)])), (axr, .inl (cR, 4, .inr (.inr (.inr (.inr (fun j => some (ra j))))))), (ra 0, .inr (1, [.ref (ca 0), .int (th), .int (ln), .int (le)])), (ca 0, .inl (cI, 60, .inl (ce)))]) (wr := [(ag, .inl (cI, 25, .inl ((upd (upd (upd (upd (upd gg (0 : Int32).toNatClampNeg ((2 : Int32) + o3)) (1 : Int32).toNatClampNeg ((1 : Int32) + o6)) (2 : Int32).toNatClampNeg ((1 : Int32) + o9)) (3 : Int32).toNatClampNeg o12) (24 : Int32).toNatClampNeg (0 : Int32)))))]) ⟨hx, hb, hml, hown, hts⟩ (c_X4_sheet l D cI cZ cR ax axr axi ah axg axo ab au rc tc lf th ln le ce (0 : Int32) (0 : Int32) (60 : Int32) ra ca 0 h17) (cwV 3 hts gL_put_X4_sheet rfl rfl rfl (by decide +kernel) ⟨Nat.le_of_ble_eq_true rfl, Nat.le_of_ble_eq_true rfl⟩) hK hP hD hS hA [0, 1, 2, 3] [4] rfl rfl (by decide) (by decide) (by decide) (va_recv hK hP (ci := 4) (q0 := 0) rfl rfl) rfl rfl hl.1 (lv_room (Nat.le_of_ble_eq_true rfl)) dL_put_74 ⟨Nat.le_of_ble_eq_true rfl, Nat.le_of_ble_eq_true rfl⟩ (fun r u H locs hu hP hD hS => ?_)
  obtain ⟨rfl, rfl⟩ := hu
  have hP : va_P D vwCl [(ax, .inr (4, [.ref axr, .ref axi, .ref ah, .ref axg, .ref axo, .ref ab, .ref au, .int (rc), .int (tc), .int (o16.2.1)])), (axr, .inl (cR, 4, .inr (.inr (.inr (.inr (fun j => some (ra j))))))), (ra 0, .inr (1, [.ref (ca 0), .int (o16.2.2.1), .int (o16.2.2.2.1), .int (o16.2.2.2.2.1)])), (ca 0, .inl (cI, 60, .inl (o16.2.2.2.2.2))), (ag, .inl (cI, 25, .inl ((upd (upd (upd (upd (upd gg (0 : Int32).toNatClampNeg ((2 : Int32) + o3)) (1 : Int32).toNatClampNeg ((1 : Int32) + o6)) (2 : Int32).toNatClampNeg ((1 : Int32) + o9)) (3 : Int32).toNatClampNeg o12) (24 : Int32).toNatClampNeg (0 : Int32)))))] H := hP.sub [1, 2, 3, 4, 0] rfl
  have hD : va_D A [(ax, .inr (4, [.ref axr, .ref axi, .ref ah, .ref axg, .ref axo, .ref ab, .ref au, .int (rc), .int (tc), .int (o16.2.1)])), (axr, .inl (cR, 4, .inr (.inr (.inr (.inr (fun j => some (ra j))))))), (ra 0, .inr (1, [.ref (ca 0), .int (o16.2.2.1), .int (o16.2.2.2.1), .int (o16.2.2.2.2.1)])), (ca 0, .inl (cI, 60, .inl (o16.2.2.2.2.2))), (ag, .inl (cI, 25, .inl ((upd (upd (upd (upd (upd gg (0 : Int32).toNatClampNeg ((2 : Int32) + o3)) (1 : Int32).toNatClampNeg ((1 : Int32) + o6)) (2 : Int32).toNatClampNeg ((1 : Int32) + o9)) (3 : Int32).toNatClampNeg o12) (24 : Int32).toNatClampNeg (0 : Int32)))))] := hD.sub [1, 2, 3, 4, 0] (by decide) rfl
  refine lv_iconst (v := (1 : Int32)) hx hb dL_put_77 (by decide) ?_
  refine lv_icmp_ne (tgt := 144) hx hb dL_put_78 (by decide) (fun c18 => ?_) (fun c18 => ?_)
  · have hg := ie hg c18
    refine lv_bipush (v := (-99 : Int32)) hx hb dL_put_144 (by decide) ?_
    obtain rfl := Option.some.inj hg
    exact rti hQ hx hb hr hlocks hK hP hD hS dL_put_146 ⟨rfl, rfl⟩
  · have hg := it hg c18
    refine lv_aload_n hx hb dL_put_81 rfl (lv_at hl 1 rfl) ?_
    refine lv_iconst (v := (0 : Int32)) hx hb dL_put_82 (by decide) ?_
    refine lv_iconst (v := (0 : Int32)) hx hb dL_put_83 (by decide) ?_
    refine lv_bipush (v := (115 : Int32)) hx hb dL_put_84 (by decide) ?_
    obtain ⟨o19, h20, hg⟩ := bd hg
    refine xcVi (As := [.int ((0 : Int32)), .int ((0 : Int32)), .int ((115 : Int32))]) (rest := []) (wc := [(ax, .inr (4, [.ref axr, .ref axi, .ref ah, .ref axg, .ref axo, .ref ab, .ref au, .int (rc), .int (tc), .int (o16.2.1)])), (axr, .inl (cR, 4, .inr (.inr (.inr (.inr (fun j => some (ra j))))))), (ra 0, .inr (1, [.ref (ca 0), .int (o16.2.2.1), .int (o16.2.2.2.1), .int (o16.2.2.2.2.1)])), (ca 0, .inl (cI, 60, .inl (o16.2.2.2.2.2)))]) (wr := [(ag, .inl (cI, 25, .inl ((upd (upd (upd (upd (upd gg (0 : Int32).toNatClampNeg ((2 : Int32) + o3)) (1 : Int32).toNatClampNeg ((1 : Int32) + o6)) (2 : Int32).toNatClampNeg ((1 : Int32) + o9)) (3 : Int32).toNatClampNeg o12) (24 : Int32).toNatClampNeg (0 : Int32)))))]) ⟨hx, hb, hml, hown, hts⟩ (c_X4_put l D cI cZ cR ax axr axi ah axg axo ab au rc tc o16.2.1 o16.2.2.1 o16.2.2.2.1 o16.2.2.2.2.1 o16.2.2.2.2.2 (0 : Int32) (0 : Int32) (115 : Int32) ra ca 0 h20) (cwV 3 hts gL_put_X4_put rfl rfl rfl (by decide +kernel) ⟨Nat.le_of_ble_eq_true rfl, Nat.le_of_ble_eq_true rfl⟩) hK hP hD hS hA [0, 1, 2, 3] [4] rfl rfl (by decide) (by decide) (by decide) (va_recv hK hP (ci := 4) (q0 := 0) rfl rfl) rfl rfl hl.1 (lv_room (Nat.le_of_ble_eq_true rfl)) dL_put_86 ⟨Nat.le_of_ble_eq_true rfl, Nat.le_of_ble_eq_true rfl⟩ (fun r u H locs hu hP hD hS => ?_)
    obtain ⟨rfl, rfl⟩ := hu
    have hP : va_P D vwCl [(ax, .inr (4, [.ref axr, .ref axi, .ref ah, .ref axg, .ref axo, .ref ab, .ref au, .int (rc), .int (tc), .int (o19.2.1)])), (axr, .inl (cR, 4, .inr (.inr (.inr (.inr (fun j => some (ra j))))))), (ra 0, .inr (1, [.ref (ca 0), .int (o16.2.2.1), .int (o16.2.2.2.1), .int (o16.2.2.2.2.1)])), (ca 0, .inl (cI, 60, .inl (o19.2.2))), (ag, .inl (cI, 25, .inl ((upd (upd (upd (upd (upd gg (0 : Int32).toNatClampNeg ((2 : Int32) + o3)) (1 : Int32).toNatClampNeg ((1 : Int32) + o6)) (2 : Int32).toNatClampNeg ((1 : Int32) + o9)) (3 : Int32).toNatClampNeg o12) (24 : Int32).toNatClampNeg (0 : Int32)))))] H := hP.sub [1, 2, 3, 4, 0] rfl
    have hD : va_D A [(ax, .inr (4, [.ref axr, .ref axi, .ref ah, .ref axg, .ref axo, .ref ab, .ref au, .int (rc), .int (tc), .int (o19.2.1)])), (axr, .inl (cR, 4, .inr (.inr (.inr (.inr (fun j => some (ra j))))))), (ra 0, .inr (1, [.ref (ca 0), .int (o16.2.2.1), .int (o16.2.2.2.1), .int (o16.2.2.2.2.1)])), (ca 0, .inl (cI, 60, .inl (o19.2.2))), (ag, .inl (cI, 25, .inl ((upd (upd (upd (upd (upd gg (0 : Int32).toNatClampNeg ((2 : Int32) + o3)) (1 : Int32).toNatClampNeg ((1 : Int32) + o6)) (2 : Int32).toNatClampNeg ((1 : Int32) + o9)) (3 : Int32).toNatClampNeg o12) (24 : Int32).toNatClampNeg (0 : Int32)))))] := hD.sub [1, 2, 3, 4, 0] (by decide) rfl
    refine lv_iconst (v := (1 : Int32)) hx hb dL_put_89 (by decide) ?_
    refine lv_icmp_ne (tgt := 144) hx hb dL_put_90 (by decide) (fun c21 => ?_) (fun c21 => ?_)
    · have hg := ie hg c21
      refine lv_bipush (v := (-99 : Int32)) hx hb dL_put_144 (by decide) ?_
      obtain rfl := Option.some.inj hg
      exact rti hQ hx hb hr hlocks hK hP hD hS dL_put_146 ⟨rfl, rfl⟩
    · have hg := it hg c21
      refine lv_aload_n hx hb dL_put_93 rfl (lv_at hl 1 rfl) ?_
      refine lv_iconst (v := (0 : Int32)) hx hb dL_put_94 (by decide) ?_
      refine lv_iconst (v := (1 : Int32)) hx hb dL_put_95 (by decide) ?_
      refine lv_bipush (v := (48 : Int32)) hx hb dL_put_96 (by decide) ?_
      refine lv_aload hx hb dL_put_98 (lv_at hl 5 rfl) ?_
      refine lv_iconst (v := (1 : Int32)) hx hb dL_put_100 (by decide) ?_
      obtain ⟨g22, hg⟩ := gxo hg
      refine va_iald hx hb hK hP 4 0 rfl rfl g22 dL_put_101 ?_
      refine W.eq (g2 := F0 m 102 ls [.int (((upd (upd (upd (upd (upd gg (0 : Int32).toNatClampNeg ((2 : Int32) + o3)) (1 : Int32).toNatClampNeg ((1 : Int32) + o6)) (2 : Int32).toNatClampNeg ((1 : Int32) + o9)) (3 : Int32).toNatClampNeg o12) (24 : Int32).toNatClampNeg (0 : Int32)) (1 : Int32).toNatClampNeg)), .int ((48 : Int32)), .int ((1 : Int32)), .int ((0 : Int32)), .ref ax]) rfl ?_
      refine lv_iadd hx hb dL_put_102 ?_
      obtain ⟨o23, h24, hg⟩ := bd hg
      refine xcVi (As := [.int ((0 : Int32)), .int ((1 : Int32)), .int (((48 : Int32) + ((upd (upd (upd (upd (upd gg (0 : Int32).toNatClampNeg ((2 : Int32) + o3)) (1 : Int32).toNatClampNeg ((1 : Int32) + o6)) (2 : Int32).toNatClampNeg ((1 : Int32) + o9)) (3 : Int32).toNatClampNeg o12) (24 : Int32).toNatClampNeg (0 : Int32)) (1 : Int32).toNatClampNeg)))]) (rest := []) (wc := [(ax, .inr (4, [.ref axr, .ref axi, .ref ah, .ref axg, .ref axo, .ref ab, .ref au, .int (rc), .int (tc), .int (o19.2.1)])), (axr, .inl (cR, 4, .inr (.inr (.inr (.inr (fun j => some (ra j))))))), (ra 0, .inr (1, [.ref (ca 0), .int (o16.2.2.1), .int (o16.2.2.2.1), .int (o16.2.2.2.2.1)])), (ca 0, .inl (cI, 60, .inl (o19.2.2)))]) (wr := [(ag, .inl (cI, 25, .inl ((upd (upd (upd (upd (upd gg (0 : Int32).toNatClampNeg ((2 : Int32) + o3)) (1 : Int32).toNatClampNeg ((1 : Int32) + o6)) (2 : Int32).toNatClampNeg ((1 : Int32) + o9)) (3 : Int32).toNatClampNeg o12) (24 : Int32).toNatClampNeg (0 : Int32)))))]) ⟨hx, hb, hml, hown, hts⟩ (c_X4_put l D cI cZ cR ax axr axi ah axg axo ab au rc tc o19.2.1 o16.2.2.1 o16.2.2.2.1 o16.2.2.2.2.1 o19.2.2 (0 : Int32) (1 : Int32) ((48 : Int32) + ((upd (upd (upd (upd (upd gg (0 : Int32).toNatClampNeg ((2 : Int32) + o3)) (1 : Int32).toNatClampNeg ((1 : Int32) + o6)) (2 : Int32).toNatClampNeg ((1 : Int32) + o9)) (3 : Int32).toNatClampNeg o12) (24 : Int32).toNatClampNeg (0 : Int32)) (1 : Int32).toNatClampNeg)) ra ca 0 h24) (cwV 3 hts gL_put_X4_put rfl rfl rfl (by decide +kernel) ⟨Nat.le_of_ble_eq_true rfl, Nat.le_of_ble_eq_true rfl⟩) hK hP hD hS hA [0, 1, 2, 3] [4] rfl rfl (by decide) (by decide) (by decide) (va_recv hK hP (ci := 4) (q0 := 0) rfl rfl) rfl rfl hl.1 (lv_room (Nat.le_of_ble_eq_true rfl)) dL_put_103 ⟨Nat.le_of_ble_eq_true rfl, Nat.le_of_ble_eq_true rfl⟩ (fun r u H locs hu hP hD hS => ?_)
      obtain ⟨rfl, rfl⟩ := hu
      have hP : va_P D vwCl [(ax, .inr (4, [.ref axr, .ref axi, .ref ah, .ref axg, .ref axo, .ref ab, .ref au, .int (rc), .int (tc), .int (o23.2.1)])), (axr, .inl (cR, 4, .inr (.inr (.inr (.inr (fun j => some (ra j))))))), (ra 0, .inr (1, [.ref (ca 0), .int (o16.2.2.1), .int (o16.2.2.2.1), .int (o16.2.2.2.2.1)])), (ca 0, .inl (cI, 60, .inl (o23.2.2))), (ag, .inl (cI, 25, .inl ((upd (upd (upd (upd (upd gg (0 : Int32).toNatClampNeg ((2 : Int32) + o3)) (1 : Int32).toNatClampNeg ((1 : Int32) + o6)) (2 : Int32).toNatClampNeg ((1 : Int32) + o9)) (3 : Int32).toNatClampNeg o12) (24 : Int32).toNatClampNeg (0 : Int32)))))] H := hP.sub [1, 2, 3, 4, 0] rfl
      have hD : va_D A [(ax, .inr (4, [.ref axr, .ref axi, .ref ah, .ref axg, .ref axo, .ref ab, .ref au, .int (rc), .int (tc), .int (o23.2.1)])), (axr, .inl (cR, 4, .inr (.inr (.inr (.inr (fun j => some (ra j))))))), (ra 0, .inr (1, [.ref (ca 0), .int (o16.2.2.1), .int (o16.2.2.2.1), .int (o16.2.2.2.2.1)])), (ca 0, .inl (cI, 60, .inl (o23.2.2))), (ag, .inl (cI, 25, .inl ((upd (upd (upd (upd (upd gg (0 : Int32).toNatClampNeg ((2 : Int32) + o3)) (1 : Int32).toNatClampNeg ((1 : Int32) + o6)) (2 : Int32).toNatClampNeg ((1 : Int32) + o9)) (3 : Int32).toNatClampNeg o12) (24 : Int32).toNatClampNeg (0 : Int32)))))] := hD.sub [1, 2, 3, 4, 0] (by decide) rfl
      refine lv_iconst (v := (1 : Int32)) hx hb dL_put_106 (by decide) ?_
      refine lv_icmp_ne (tgt := 144) hx hb dL_put_107 (by decide) (fun c25 => ?_) (fun c25 => ?_)
      · have hg := ie hg c25
        refine lv_bipush (v := (-99 : Int32)) hx hb dL_put_144 (by decide) ?_
        obtain rfl := Option.some.inj hg
        exact rti hQ hx hb hr hlocks hK hP hD hS dL_put_146 ⟨rfl, rfl⟩
      · have hg := it hg c25
        refine lv_aload_n hx hb dL_put_110 rfl (lv_at hl 1 rfl) ?_
        refine lv_iconst (v := (0 : Int32)) hx hb dL_put_111 (by decide) ?_
        refine lv_iconst (v := (2 : Int32)) hx hb dL_put_112 (by decide) ?_
        refine lv_bipush (v := (48 : Int32)) hx hb dL_put_113 (by decide) ?_
        refine lv_aload hx hb dL_put_115 (lv_at hl 5 rfl) ?_
        refine lv_iconst (v := (2 : Int32)) hx hb dL_put_117 (by decide) ?_
        obtain ⟨g26, hg⟩ := gxo hg
        refine va_iald hx hb hK hP 4 0 rfl rfl g26 dL_put_118 ?_
        refine W.eq (g2 := F0 m 119 ls [.int (((upd (upd (upd (upd (upd gg (0 : Int32).toNatClampNeg ((2 : Int32) + o3)) (1 : Int32).toNatClampNeg ((1 : Int32) + o6)) (2 : Int32).toNatClampNeg ((1 : Int32) + o9)) (3 : Int32).toNatClampNeg o12) (24 : Int32).toNatClampNeg (0 : Int32)) (2 : Int32).toNatClampNeg)), .int ((48 : Int32)), .int ((2 : Int32)), .int ((0 : Int32)), .ref ax]) rfl ?_
        refine lv_iadd hx hb dL_put_119 ?_
        obtain ⟨o27, h28, hg⟩ := bd hg
        refine xcVi (As := [.int ((0 : Int32)), .int ((2 : Int32)), .int (((48 : Int32) + ((upd (upd (upd (upd (upd gg (0 : Int32).toNatClampNeg ((2 : Int32) + o3)) (1 : Int32).toNatClampNeg ((1 : Int32) + o6)) (2 : Int32).toNatClampNeg ((1 : Int32) + o9)) (3 : Int32).toNatClampNeg o12) (24 : Int32).toNatClampNeg (0 : Int32)) (2 : Int32).toNatClampNeg)))]) (rest := []) (wc := [(ax, .inr (4, [.ref axr, .ref axi, .ref ah, .ref axg, .ref axo, .ref ab, .ref au, .int (rc), .int (tc), .int (o23.2.1)])), (axr, .inl (cR, 4, .inr (.inr (.inr (.inr (fun j => some (ra j))))))), (ra 0, .inr (1, [.ref (ca 0), .int (o16.2.2.1), .int (o16.2.2.2.1), .int (o16.2.2.2.2.1)])), (ca 0, .inl (cI, 60, .inl (o23.2.2)))]) (wr := [(ag, .inl (cI, 25, .inl ((upd (upd (upd (upd (upd gg (0 : Int32).toNatClampNeg ((2 : Int32) + o3)) (1 : Int32).toNatClampNeg ((1 : Int32) + o6)) (2 : Int32).toNatClampNeg ((1 : Int32) + o9)) (3 : Int32).toNatClampNeg o12) (24 : Int32).toNatClampNeg (0 : Int32)))))]) ⟨hx, hb, hml, hown, hts⟩ (c_X4_put l D cI cZ cR ax axr axi ah axg axo ab au rc tc o23.2.1 o16.2.2.1 o16.2.2.2.1 o16.2.2.2.2.1 o23.2.2 (0 : Int32) (2 : Int32) ((48 : Int32) + ((upd (upd (upd (upd (upd gg (0 : Int32).toNatClampNeg ((2 : Int32) + o3)) (1 : Int32).toNatClampNeg ((1 : Int32) + o6)) (2 : Int32).toNatClampNeg ((1 : Int32) + o9)) (3 : Int32).toNatClampNeg o12) (24 : Int32).toNatClampNeg (0 : Int32)) (2 : Int32).toNatClampNeg)) ra ca 0 h28) (cwV 3 hts gL_put_X4_put rfl rfl rfl (by decide +kernel) ⟨Nat.le_of_ble_eq_true rfl, Nat.le_of_ble_eq_true rfl⟩) hK hP hD hS hA [0, 1, 2, 3] [4] rfl rfl (by decide) (by decide) (by decide) (va_recv hK hP (ci := 4) (q0 := 0) rfl rfl) rfl rfl hl.1 (lv_room (Nat.le_of_ble_eq_true rfl)) dL_put_120 ⟨Nat.le_of_ble_eq_true rfl, Nat.le_of_ble_eq_true rfl⟩ (fun r u H locs hu hP hD hS => ?_)
        obtain ⟨rfl, rfl⟩ := hu
        have hP : va_P D vwCl [(ax, .inr (4, [.ref axr, .ref axi, .ref ah, .ref axg, .ref axo, .ref ab, .ref au, .int (rc), .int (tc), .int (o27.2.1)])), (axr, .inl (cR, 4, .inr (.inr (.inr (.inr (fun j => some (ra j))))))), (ra 0, .inr (1, [.ref (ca 0), .int (o16.2.2.1), .int (o16.2.2.2.1), .int (o16.2.2.2.2.1)])), (ca 0, .inl (cI, 60, .inl (o27.2.2))), (ag, .inl (cI, 25, .inl ((upd (upd (upd (upd (upd gg (0 : Int32).toNatClampNeg ((2 : Int32) + o3)) (1 : Int32).toNatClampNeg ((1 : Int32) + o6)) (2 : Int32).toNatClampNeg ((1 : Int32) + o9)) (3 : Int32).toNatClampNeg o12) (24 : Int32).toNatClampNeg (0 : Int32)))))] H := hP.sub [1, 2, 3, 4, 0] rfl
        have hD : va_D A [(ax, .inr (4, [.ref axr, .ref axi, .ref ah, .ref axg, .ref axo, .ref ab, .ref au, .int (rc), .int (tc), .int (o27.2.1)])), (axr, .inl (cR, 4, .inr (.inr (.inr (.inr (fun j => some (ra j))))))), (ra 0, .inr (1, [.ref (ca 0), .int (o16.2.2.1), .int (o16.2.2.2.1), .int (o16.2.2.2.2.1)])), (ca 0, .inl (cI, 60, .inl (o27.2.2))), (ag, .inl (cI, 25, .inl ((upd (upd (upd (upd (upd gg (0 : Int32).toNatClampNeg ((2 : Int32) + o3)) (1 : Int32).toNatClampNeg ((1 : Int32) + o6)) (2 : Int32).toNatClampNeg ((1 : Int32) + o9)) (3 : Int32).toNatClampNeg o12) (24 : Int32).toNatClampNeg (0 : Int32)))))] := hD.sub [1, 2, 3, 4, 0] (by decide) rfl
        refine lv_iconst (v := (1 : Int32)) hx hb dL_put_123 (by decide) ?_
        refine lv_icmp_ne (tgt := 144) hx hb dL_put_124 (by decide) (fun c29 => ?_) (fun c29 => ?_)
        · have hg := ie hg c29
          refine lv_bipush (v := (-99 : Int32)) hx hb dL_put_144 (by decide) ?_
          obtain rfl := Option.some.inj hg
          exact rti hQ hx hb hr hlocks hK hP hD hS dL_put_146 ⟨rfl, rfl⟩
        · have hg := it hg c29
          refine lv_aload_n hx hb dL_put_127 rfl (lv_at hl 1 rfl) ?_
          refine lv_iconst (v := (0 : Int32)) hx hb dL_put_128 (by decide) ?_
          refine lv_iconst (v := (3 : Int32)) hx hb dL_put_129 (by decide) ?_
          refine lv_bipush (v := (48 : Int32)) hx hb dL_put_130 (by decide) ?_
          refine lv_aload hx hb dL_put_132 (lv_at hl 5 rfl) ?_
          refine lv_iconst (v := (3 : Int32)) hx hb dL_put_134 (by decide) ?_
          obtain ⟨g30, hg⟩ := gxo hg
          refine va_iald hx hb hK hP 4 0 rfl rfl g30 dL_put_135 ?_
          refine W.eq (g2 := F0 m 136 ls [.int (((upd (upd (upd (upd (upd gg (0 : Int32).toNatClampNeg ((2 : Int32) + o3)) (1 : Int32).toNatClampNeg ((1 : Int32) + o6)) (2 : Int32).toNatClampNeg ((1 : Int32) + o9)) (3 : Int32).toNatClampNeg o12) (24 : Int32).toNatClampNeg (0 : Int32)) (3 : Int32).toNatClampNeg)), .int ((48 : Int32)), .int ((3 : Int32)), .int ((0 : Int32)), .ref ax]) rfl ?_
          refine lv_iadd hx hb dL_put_136 ?_
          obtain ⟨o31, h32, hg⟩ := bd hg
          refine xcVi (As := [.int ((0 : Int32)), .int ((3 : Int32)), .int (((48 : Int32) + ((upd (upd (upd (upd (upd gg (0 : Int32).toNatClampNeg ((2 : Int32) + o3)) (1 : Int32).toNatClampNeg ((1 : Int32) + o6)) (2 : Int32).toNatClampNeg ((1 : Int32) + o9)) (3 : Int32).toNatClampNeg o12) (24 : Int32).toNatClampNeg (0 : Int32)) (3 : Int32).toNatClampNeg)))]) (rest := []) (wc := [(ax, .inr (4, [.ref axr, .ref axi, .ref ah, .ref axg, .ref axo, .ref ab, .ref au, .int (rc), .int (tc), .int (o27.2.1)])), (axr, .inl (cR, 4, .inr (.inr (.inr (.inr (fun j => some (ra j))))))), (ra 0, .inr (1, [.ref (ca 0), .int (o16.2.2.1), .int (o16.2.2.2.1), .int (o16.2.2.2.2.1)])), (ca 0, .inl (cI, 60, .inl (o27.2.2)))]) (wr := [(ag, .inl (cI, 25, .inl ((upd (upd (upd (upd (upd gg (0 : Int32).toNatClampNeg ((2 : Int32) + o3)) (1 : Int32).toNatClampNeg ((1 : Int32) + o6)) (2 : Int32).toNatClampNeg ((1 : Int32) + o9)) (3 : Int32).toNatClampNeg o12) (24 : Int32).toNatClampNeg (0 : Int32)))))]) ⟨hx, hb, hml, hown, hts⟩ (c_X4_put l D cI cZ cR ax axr axi ah axg axo ab au rc tc o27.2.1 o16.2.2.1 o16.2.2.2.1 o16.2.2.2.2.1 o27.2.2 (0 : Int32) (3 : Int32) ((48 : Int32) + ((upd (upd (upd (upd (upd gg (0 : Int32).toNatClampNeg ((2 : Int32) + o3)) (1 : Int32).toNatClampNeg ((1 : Int32) + o6)) (2 : Int32).toNatClampNeg ((1 : Int32) + o9)) (3 : Int32).toNatClampNeg o12) (24 : Int32).toNatClampNeg (0 : Int32)) (3 : Int32).toNatClampNeg)) ra ca 0 h32) (cwV 3 hts gL_put_X4_put rfl rfl rfl (by decide +kernel) ⟨Nat.le_of_ble_eq_true rfl, Nat.le_of_ble_eq_true rfl⟩) hK hP hD hS hA [0, 1, 2, 3] [4] rfl rfl (by decide) (by decide) (by decide) (va_recv hK hP (ci := 4) (q0 := 0) rfl rfl) rfl rfl hl.1 (lv_room (Nat.le_of_ble_eq_true rfl)) dL_put_137 ⟨Nat.le_of_ble_eq_true rfl, Nat.le_of_ble_eq_true rfl⟩ (fun r u H locs hu hP hD hS => ?_)
          obtain ⟨rfl, rfl⟩ := hu
          have hP : va_P D vwCl [(ax, .inr (4, [.ref axr, .ref axi, .ref ah, .ref axg, .ref axo, .ref ab, .ref au, .int (rc), .int (tc), .int (o31.2.1)])), (axr, .inl (cR, 4, .inr (.inr (.inr (.inr (fun j => some (ra j))))))), (ra 0, .inr (1, [.ref (ca 0), .int (o16.2.2.1), .int (o16.2.2.2.1), .int (o16.2.2.2.2.1)])), (ca 0, .inl (cI, 60, .inl (o31.2.2))), (ag, .inl (cI, 25, .inl ((upd (upd (upd (upd (upd gg (0 : Int32).toNatClampNeg ((2 : Int32) + o3)) (1 : Int32).toNatClampNeg ((1 : Int32) + o6)) (2 : Int32).toNatClampNeg ((1 : Int32) + o9)) (3 : Int32).toNatClampNeg o12) (24 : Int32).toNatClampNeg (0 : Int32)))))] H := hP.sub [1, 2, 3, 4, 0] rfl
          have hD : va_D A [(ax, .inr (4, [.ref axr, .ref axi, .ref ah, .ref axg, .ref axo, .ref ab, .ref au, .int (rc), .int (tc), .int (o31.2.1)])), (axr, .inl (cR, 4, .inr (.inr (.inr (.inr (fun j => some (ra j))))))), (ra 0, .inr (1, [.ref (ca 0), .int (o16.2.2.1), .int (o16.2.2.2.1), .int (o16.2.2.2.2.1)])), (ca 0, .inl (cI, 60, .inl (o31.2.2))), (ag, .inl (cI, 25, .inl ((upd (upd (upd (upd (upd gg (0 : Int32).toNatClampNeg ((2 : Int32) + o3)) (1 : Int32).toNatClampNeg ((1 : Int32) + o6)) (2 : Int32).toNatClampNeg ((1 : Int32) + o9)) (3 : Int32).toNatClampNeg o12) (24 : Int32).toNatClampNeg (0 : Int32)))))] := hD.sub [1, 2, 3, 4, 0] (by decide) rfl
          refine lv_iconst (v := (1 : Int32)) hx hb dL_put_140 (by decide) ?_
          refine lv_icmp_eq (tgt := 147) hx hb dL_put_141 (by decide) (fun c33 => ?_) (fun c33 => ?_)
          · have hg := it hg c33
            refine lv_iconst (v := (4 : Int32)) hx hb dL_put_147 (by decide) ?_
            refine lv_istore (lv' := [(6, .int ((4 : Int32))), (5, .int (o1)), (0, .ref ax), (1, .ref sq), (2, .int (zf)), (3, .int (zm)), (4, .ref ag)]) hx hb dL_put_148 hl (by decide) rfl (fun ls hl => ?_)
            refine lv_iconst (v := (0 : Int32)) hx hb dL_put_150 (by decide) ?_
            refine lv_istore (lv' := [(7, .int ((0 : Int32))), (6, .int ((4 : Int32))), (5, .int (o1)), (0, .ref ax), (1, .ref sq), (2, .int (zf)), (3, .int (zm)), (4, .ref ag)]) hx hb dL_put_151 hl (by decide) rfl (fun ls hl => ?_)
            refine lp_153   100 o1 (4 : Int32) (0 : Int32) o31.2.1 o16.2.2.1 o16.2.2.2.1 o16.2.2.2.2.1 o31.2.2 (upd (upd (upd (upd (upd gg (0 : Int32).toNatClampNeg ((2 : Int32) + o3)) (1 : Int32).toNatClampNeg ((1 : Int32) + o6)) (2 : Int32).toNatClampNeg ((1 : Int32) + o9)) (3 : Int32).toNatClampNeg o12) (24 : Int32).toNatClampNeg (0 : Int32)) hg _ _ hP hD hS _ (lv_sub hl [3, 4, 5, 7, 2, 1, 0] rfl)
          · have hg := ie hg c33
            refine lv_bipush (v := (-99 : Int32)) hx hb dL_put_144 (by decide) ?_
            obtain rfl := Option.some.inj hg
            exact rti hQ hx hb hr hlocks hK hP hD hS dL_put_146 ⟨rfl, rfl⟩
