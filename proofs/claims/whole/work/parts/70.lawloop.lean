/-! the law's loop -/
theorem le6 {L i : Nat} (hL : L ≤ 3072) (hi : i ≤ 3072) (h : ¬ (Int32.ofNat L - (6 : Int32)) < nI i) : i + 6 ≤ L := by
  rcases Nat.lt_or_ge L (i + 6) with q | q
  · refine absurd ?_ h
    show nI L - nI 6 < nI i
    rcases Nat.lt_or_ge L 6 with z | z
    · exact ngT (pk_sneg (by omega) z) (by omega)
    · rw [nI_sub z]
      exact nI_lt (by omega) (by omega)
  · exact q
set_option maxHeartbeats 4000000 in
set_option maxRecDepth 100000 in
theorem law_loop {p : Program} {l : Launch} {e : Env} {s9 : State} {m : MethodId} {b9 L : Nat} {xs : Nat → Int32} {below : List Frame} {meth : Method} {c9 : Code} {D : va_G} {cI cZ cR : ClassId} {zt1 zt2 : Nat} {ax axr axi ah ar ahf ahw ahp ahn axg axo am mvs mvl mvc mvk mvt mvg mvh mvrk mvrt mvrg mvf mvq mvp mve : Nat} {ra ca : Nat → Nat} {cl9 sl9 : Nat} (C0 : lawF p s9 m meth c9 b9 L xs D cI cZ cR zt1 zt2) (hL : L ≤ 3072) (hf : cl9 + 0 ≤ room_1.cells ∧ sl9 + 0 ≤ room_1.slots) (hf2 : cl9 ≤ 600000 ∧ sl9 ≤ 7302250) : ∀ (n i : Nat), i ≤ L → L < i + n → lawP p l e s9 m b9 below meth c9 D cI cZ cR ax axr axi ah ar ahf ahw ahp ahn axg axo am mvs mvl mvc mvk mvt mvg mvh mvrk mvrt mvrg mvf mvq mvp mve ra ca cl9 sl9 i 18 := by
  intro n
  induction n with
  | zero => intro i h1 h2; exact absurd h2 (by omega)
  | succ n ih =>
    intro i h1 h2
    intro ab abk abt abg au auk aut aug r c s k b tc lf f1 f2 f3 f4 f5 f6 f7 z kd tk gr kdu tku gru cnu stu knu sbu rg of th ln le ce qa qm y vs vl vc vk vt vg vh vrk vrt vrg vq vp ve hRel H locs hP hD hS ls hl
    obtain ⟨hx, hb, hr, hml, hown, hts, hX, hbl, hlocks, hK, hz⟩ := id C0
    have hbA : ¬ (fun q : Nat => s9.heap.size ≤ q) b9 := Nat.not_le.mpr hbl
    refine lv_iload_n hx hb dL_law_18 rfl (lv_at hl 3 rfl) ?_
    refine lv_aload_n hx hb dL_law_19 rfl (lv_at hl 0 rfl) ?_
    refine va_slen hx hb hX hbl hbA hS dL_law_20 ?_
    refine lv_bipush (v := (6 : Int32)) hx hb dL_law_21 (by decide) ?_
    refine lv_isub hx hb dL_law_23 ?_
    refine lv_icmp_gt (tgt := 988) hx hb dL_law_24 (by decide) (fun q1 => ?_) (fun q1 => ?_)
    · refine lv_iconst (v := 1) hx hb dL_law_988 (by decide) ?_
      refine va_forget (fun q hq => hS.2.2 q hq) ?_
      refine W.widen (k := 600000) (n := 7302250) hf2.1 hf2.2 ?_
      exact lw_ret hx hb hr hlocks dL_law_989
    have hi : i + 6 ≤ L := le6 hL (by omega) q1
    have hk : lawP p l e s9 m b9 below meth c9 D cI cZ cR ax axr axi ah ar ahf ahw ahp ahn axg axo am mvs mvl mvc mvk mvt mvg mvh mvrk mvrt mvrg mvf mvq mvp mve ra ca cl9 sl9 i 982 := by
      intro ab abk abt abg au auk aut aug r c s k b tc lf f1 f2 f3 f4 f5 f6 f7 z kd tk gr kdu tku gru cnu stu knu sbu rg of th ln le ce qa qm y vs vl vc vk vt vg vh vrk vrt vrg vq vp ve hRel H locs hP hD hS ls hl
      refine lv_iinc (v := nI (i + 6)) (lv' := [(3, .int (nI (i + 6))), (0, .ref b9), (1, .ref ax), (2, .ref am)]) hx hb dL_law_982 hl (k := 3) rfl (nI_add i 6) (by decide) rfl (fun ls hl => ?_)
      refine lv_goto (tgt := 18) hx hb dL_law_985 (by decide) ?_
      exact ih (i + 6) hi (by omega) ab abk abt abg au auk aut aug r c s k b tc lf f1 f2 f3 f4 f5 f6 f7 z kd tk gr kdu tku gru cnu stu knu sbu rg of th ln le ce qa qm y vs vl vc vk vt vg vh vrk vrt vrg vq vp ve hRel H locs hP hD hS ls (lv_sub hl [1, 2, 3, 0] rfl)
    have g0 : vp_in (nI i) L := vp_in_nI (by omega) (by omega)
    refine lv_aload_n hx hb dL_law_27 rfl (lv_at hl 0 rfl) ?_
    refine lv_iload_n hx hb dL_law_28 rfl (lv_at hl 3 rfl) ?_
    refine va_sld hx hb hX hbl hbA hS g0 dL_law_29 ?_
    refine lv_bipush (v := (31 : Int32)) hx hb dL_law_30 (by decide) ?_
    refine lv_iand hx hb dL_law_32 ?_
    refine lv_topi (fun w _ => ?_)
    by_cases h0 : w = 0
    · refine lv_tableIn (off := 127) (tgt := 160) hx hb dL_law_33 (by rw [h0]; decide) (by rw [h0]; decide) (by rw [h0]; rfl) (by decide) ?_
      exact lc_0 C0 hL hi hf hk ab abk abt abg au auk aut aug r c s k b tc lf f1 f2 f3 f4 f5 f6 f7 z kd tk gr kdu tku gru cnu stu knu sbu rg of th ln le ce qa qm y vs vl vc vk vt vg vh vrk vrt vrg vq vp ve hRel H locs hP hD hS ls hl
    by_cases h1 : w = 1
    · refine lv_tableIn (off := 180) (tgt := 213) hx hb dL_law_33 (by rw [h1]; decide) (by rw [h1]; decide) (by rw [h1]; rfl) (by decide) ?_
      exact lc_1 C0 hL hi hf hk ab abk abt abg au auk aut aug r c s k b tc lf f1 f2 f3 f4 f5 f6 f7 z kd tk gr kdu tku gru cnu stu knu sbu rg of th ln le ce qa qm y vs vl vc vk vt vg vh vrk vrt vrg vq vp ve hRel H locs hP hD hS ls hl
    by_cases h2 : w = 2
    · refine lv_tableIn (off := 213) (tgt := 246) hx hb dL_law_33 (by rw [h2]; decide) (by rw [h2]; decide) (by rw [h2]; rfl) (by decide) ?_
      exact lc_2 C0 hL hi hf hk ab abk abt abg au auk aut aug r c s k b tc lf f1 f2 f3 f4 f5 f6 f7 z kd tk gr kdu tku gru cnu stu knu sbu rg of th ln le ce qa qm y vs vl vc vk vt vg vh vrk vrt vrg vq vp ve hRel H locs hP hD hS ls hl
    by_cases h3 : w = 3
    · refine lv_tableIn (off := 236) (tgt := 269) hx hb dL_law_33 (by rw [h3]; decide) (by rw [h3]; decide) (by rw [h3]; rfl) (by decide) ?_
      exact lc_3 C0 hL hi hf hk ab abk abt abg au auk aut aug r c s k b tc lf f1 f2 f3 f4 f5 f6 f7 z kd tk gr kdu tku gru cnu stu knu sbu rg of th ln le ce qa qm y vs vl vc vk vt vg vh vrk vrt vrg vq vp ve hRel H locs hP hD hS ls hl
    by_cases h4 : w = 4
    · refine lv_tableIn (off := 259) (tgt := 292) hx hb dL_law_33 (by rw [h4]; decide) (by rw [h4]; decide) (by rw [h4]; rfl) (by decide) ?_
      exact lc_4 C0 hL hi hf hk ab abk abt abg au auk aut aug r c s k b tc lf f1 f2 f3 f4 f5 f6 f7 z kd tk gr kdu tku gru cnu stu knu sbu rg of th ln le ce qa qm y vs vl vc vk vt vg vh vrk vrt vrg vq vp ve hRel H locs hP hD hS ls hl
    by_cases h5 : w = 5
    · refine lv_tableIn (off := 282) (tgt := 315) hx hb dL_law_33 (by rw [h5]; decide) (by rw [h5]; decide) (by rw [h5]; rfl) (by decide) ?_
      exact lc_5 C0 hL hi hf hk ab abk abt abg au auk aut aug r c s k b tc lf f1 f2 f3 f4 f5 f6 f7 z kd tk gr kdu tku gru cnu stu knu sbu rg of th ln le ce qa qm y vs vl vc vk vt vg vh vrk vrt vrg vq vp ve hRel H locs hP hD hS ls hl
    by_cases h6 : w = 6
    · refine lv_tableIn (off := 331) (tgt := 364) hx hb dL_law_33 (by rw [h6]; decide) (by rw [h6]; decide) (by rw [h6]; rfl) (by decide) ?_
      exact lc_6 C0 hL hi hf hk ab abk abt abg au auk aut aug r c s k b tc lf f1 f2 f3 f4 f5 f6 f7 z kd tk gr kdu tku gru cnu stu knu sbu rg of th ln le ce qa qm y vs vl vc vk vt vg vh vrk vrt vrg vq vp ve hRel H locs hP hD hS ls hl
    by_cases h7 : w = 7
    · refine lv_tableIn (off := 394) (tgt := 427) hx hb dL_law_33 (by rw [h7]; decide) (by rw [h7]; decide) (by rw [h7]; rfl) (by decide) ?_
      exact lc_7 C0 hL hi hf hk ab abk abt abg au auk aut aug r c s k b tc lf f1 f2 f3 f4 f5 f6 f7 z kd tk gr kdu tku gru cnu stu knu sbu rg of th ln le ce qa qm y vs vl vc vk vt vg vh vrk vrt vrg vq vp ve hRel H locs hP hD hS ls hl
    by_cases h8 : w = 8
    · refine lv_tableIn (off := 407) (tgt := 440) hx hb dL_law_33 (by rw [h8]; decide) (by rw [h8]; decide) (by rw [h8]; rfl) (by decide) ?_
      exact lc_8 C0 hL hi hf hk ab abk abt abg au auk aut aug r c s k b tc lf f1 f2 f3 f4 f5 f6 f7 z kd tk gr kdu tku gru cnu stu knu sbu rg of th ln le ce qa qm y vs vl vc vk vt vg vh vrk vrt vrg vq vp ve hRel H locs hP hD hS ls hl
    by_cases h9 : w = 9
    · refine lv_tableIn (off := 430) (tgt := 463) hx hb dL_law_33 (by rw [h9]; decide) (by rw [h9]; decide) (by rw [h9]; rfl) (by decide) ?_
      exact lc_9 C0 hL hi hf hk ab abk abt abg au auk aut aug r c s k b tc lf f1 f2 f3 f4 f5 f6 f7 z kd tk gr kdu tku gru cnu stu knu sbu rg of th ln le ce qa qm y vs vl vc vk vt vg vh vrk vrt vrg vq vp ve hRel H locs hP hD hS ls hl
    by_cases h10 : w = 10
    · refine lv_tableIn (off := 453) (tgt := 486) hx hb dL_law_33 (by rw [h10]; decide) (by rw [h10]; decide) (by rw [h10]; rfl) (by decide) ?_
      exact lc_10 C0 hL hi hf hk ab abk abt abg au auk aut aug r c s k b tc lf f1 f2 f3 f4 f5 f6 f7 z kd tk gr kdu tku gru cnu stu knu sbu rg of th ln le ce qa qm y vs vl vc vk vt vg vh vrk vrt vrg vq vp ve hRel H locs hP hD hS ls hl
    by_cases h11 : w = 11
    · refine lv_tableIn (off := 476) (tgt := 509) hx hb dL_law_33 (by rw [h11]; decide) (by rw [h11]; decide) (by rw [h11]; rfl) (by decide) ?_
      exact lc_11 C0 hL hi hf hk ab abk abt abg au auk aut aug r c s k b tc lf f1 f2 f3 f4 f5 f6 f7 z kd tk gr kdu tku gru cnu stu knu sbu rg of th ln le ce qa qm y vs vl vc vk vt vg vh vrk vrt vrg vq vp ve hRel H locs hP hD hS ls hl
    by_cases h12 : w = 12
    · refine lv_tableIn (off := 499) (tgt := 532) hx hb dL_law_33 (by rw [h12]; decide) (by rw [h12]; decide) (by rw [h12]; rfl) (by decide) ?_
      exact lc_12 C0 hL hi hf hk ab abk abt abg au auk aut aug r c s k b tc lf f1 f2 f3 f4 f5 f6 f7 z kd tk gr kdu tku gru cnu stu knu sbu rg of th ln le ce qa qm y vs vl vc vk vt vg vh vrk vrt vrg vq vp ve hRel H locs hP hD hS ls hl
    by_cases h13 : w = 13
    · refine lv_tableIn (off := 522) (tgt := 555) hx hb dL_law_33 (by rw [h13]; decide) (by rw [h13]; decide) (by rw [h13]; rfl) (by decide) ?_
      exact lc_13 C0 hL hi hf hk ab abk abt abg au auk aut aug r c s k b tc lf f1 f2 f3 f4 f5 f6 f7 z kd tk gr kdu tku gru cnu stu knu sbu rg of th ln le ce qa qm y vs vl vc vk vt vg vh vrk vrt vrg vq vp ve hRel H locs hP hD hS ls hl
    by_cases h14 : w = 14
    · refine lv_tableIn (off := 545) (tgt := 578) hx hb dL_law_33 (by rw [h14]; decide) (by rw [h14]; decide) (by rw [h14]; rfl) (by decide) ?_
      exact lc_14 C0 hL hi hf hk ab abk abt abg au auk aut aug r c s k b tc lf f1 f2 f3 f4 f5 f6 f7 z kd tk gr kdu tku gru cnu stu knu sbu rg of th ln le ce qa qm y vs vl vc vk vt vg vh vrk vrt vrg vq vp ve hRel H locs hP hD hS ls hl
    by_cases h15 : w = 15
    · refine lv_tableIn (off := 558) (tgt := 591) hx hb dL_law_33 (by rw [h15]; decide) (by rw [h15]; decide) (by rw [h15]; rfl) (by decide) ?_
      exact lc_15 C0 hL hi hf hk ab abk abt abg au auk aut aug r c s k b tc lf f1 f2 f3 f4 f5 f6 f7 z kd tk gr kdu tku gru cnu stu knu sbu rg of th ln le ce qa qm y vs vl vc vk vt vg vh vrk vrt vrg vq vp ve hRel H locs hP hD hS ls hl
    by_cases h16 : w = 16
    · refine lv_tableIn (off := 571) (tgt := 604) hx hb dL_law_33 (by rw [h16]; decide) (by rw [h16]; decide) (by rw [h16]; rfl) (by decide) ?_
      exact lc_16 C0 hL hi hf hk ab abk abt abg au auk aut aug r c s k b tc lf f1 f2 f3 f4 f5 f6 f7 z kd tk gr kdu tku gru cnu stu knu sbu rg of th ln le ce qa qm y vs vl vc vk vt vg vh vrk vrt vrg vq vp ve hRel H locs hP hD hS ls hl
    by_cases h17 : w = 17
    · refine lv_tableIn (off := 605) (tgt := 638) hx hb dL_law_33 (by rw [h17]; decide) (by rw [h17]; decide) (by rw [h17]; rfl) (by decide) ?_
      exact lc_17 C0 hL hi hf hk ab abk abt abg au auk aut aug r c s k b tc lf f1 f2 f3 f4 f5 f6 f7 z kd tk gr kdu tku gru cnu stu knu sbu rg of th ln le ce qa qm y vs vl vc vk vt vg vh vrk vrt vrg vq vp ve hRel H locs hP hD hS ls hl
    by_cases h18 : w = 18
    · refine lv_tableIn (off := 648) (tgt := 681) hx hb dL_law_33 (by rw [h18]; decide) (by rw [h18]; decide) (by rw [h18]; rfl) (by decide) ?_
      exact lc_18 C0 hL hi hf hk ab abk abt abg au auk aut aug r c s k b tc lf f1 f2 f3 f4 f5 f6 f7 z kd tk gr kdu tku gru cnu stu knu sbu rg of th ln le ce qa qm y vs vl vc vk vt vg vh vrk vrt vrg vq vp ve hRel H locs hP hD hS ls hl
    by_cases h19 : w = 19
    · refine lv_tableIn (off := 671) (tgt := 704) hx hb dL_law_33 (by rw [h19]; decide) (by rw [h19]; decide) (by rw [h19]; rfl) (by decide) ?_
      exact lc_19 C0 hL hi hf hk ab abk abt abg au auk aut aug r c s k b tc lf f1 f2 f3 f4 f5 f6 f7 z kd tk gr kdu tku gru cnu stu knu sbu rg of th ln le ce qa qm y vs vl vc vk vt vg vh vrk vrt vrg vq vp ve hRel H locs hP hD hS ls hl
    by_cases h20 : w = 20
    · refine lv_tableIn (off := 714) (tgt := 747) hx hb dL_law_33 (by rw [h20]; decide) (by rw [h20]; decide) (by rw [h20]; rfl) (by decide) ?_
      exact lc_20 C0 hL hi hf hk ab abk abt abg au auk aut aug r c s k b tc lf f1 f2 f3 f4 f5 f6 f7 z kd tk gr kdu tku gru cnu stu knu sbu rg of th ln le ce qa qm y vs vl vc vk vt vg vh vrk vrt vrg vq vp ve hRel H locs hP hD hS ls hl
    by_cases h21 : w = 21
    · refine lv_tableIn (off := 758) (tgt := 791) hx hb dL_law_33 (by rw [h21]; decide) (by rw [h21]; decide) (by rw [h21]; rfl) (by decide) ?_
      exact lc_21 C0 hL hi hf hk ab abk abt abg au auk aut aug r c s k b tc lf f1 f2 f3 f4 f5 f6 f7 z kd tk gr kdu tku gru cnu stu knu sbu rg of th ln le ce qa qm y vs vl vc vk vt vg vh vrk vrt vrg vq vp ve hRel H locs hP hD hS ls hl
    by_cases h22 : w = 22
    · refine lv_tableIn (off := 821) (tgt := 854) hx hb dL_law_33 (by rw [h22]; decide) (by rw [h22]; decide) (by rw [h22]; rfl) (by decide) ?_
      exact lc_22 C0 hL hi hf hk ab abk abt abg au auk aut aug r c s k b tc lf f1 f2 f3 f4 f5 f6 f7 z kd tk gr kdu tku gru cnu stu knu sbu rg of th ln le ce qa qm y vs vl vc vk vt vg vh vrk vrt vrg vq vp ve hRel H locs hP hD hS ls hl
    by_cases h23 : w = 23
    · refine lv_tableIn (off := 844) (tgt := 877) hx hb dL_law_33 (by rw [h23]; decide) (by rw [h23]; decide) (by rw [h23]; rfl) (by decide) ?_
      exact lc_23 C0 hL hi hf hk ab abk abt abg au auk aut aug r c s k b tc lf f1 f2 f3 f4 f5 f6 f7 z kd tk gr kdu tku gru cnu stu knu sbu rg of th ln le ce qa qm y vs vl vc vk vt vg vh vrk vrt vrg vq vp ve hRel H locs hP hD hS ls hl
    by_cases h24 : w = 24
    · refine lv_tableIn (off := 867) (tgt := 900) hx hb dL_law_33 (by rw [h24]; decide) (by rw [h24]; decide) (by rw [h24]; rfl) (by decide) ?_
      exact lc_24 C0 hL hi hf hk ab abk abt abg au auk aut aug r c s k b tc lf f1 f2 f3 f4 f5 f6 f7 z kd tk gr kdu tku gru cnu stu knu sbu rg of th ln le ce qa qm y vs vl vc vk vt vg vh vrk vrt vrg vq vp ve hRel H locs hP hD hS ls hl
    by_cases h25 : w = 25
    · refine lv_tableIn (off := 900) (tgt := 933) hx hb dL_law_33 (by rw [h25]; decide) (by rw [h25]; decide) (by rw [h25]; rfl) (by decide) ?_
      exact lc_25 C0 hL hi hf hk ab abk abt abg au auk aut aug r c s k b tc lf f1 f2 f3 f4 f5 f6 f7 z kd tk gr kdu tku gru cnu stu knu sbu rg of th ln le ce qa qm y vs vl vc vk vt vg vh vrk vrt vrg vq vp ve hRel H locs hP hD hS ls hl
    by_cases h26 : w = 26
    · refine lv_tableIn (off := 913) (tgt := 946) hx hb dL_law_33 (by rw [h26]; decide) (by rw [h26]; decide) (by rw [h26]; rfl) (by decide) ?_
      exact lc_26 C0 hL hi hf hk ab abk abt abg au auk aut aug r c s k b tc lf f1 f2 f3 f4 f5 f6 f7 z kd tk gr kdu tku gru cnu stu knu sbu rg of th ln le ce qa qm y vs vl vc vk vt vg vh vrk vrt vrg vq vp ve hRel H locs hP hD hS ls hl
    by_cases h27 : w = 27
    · refine lv_tableIn (off := 926) (tgt := 959) hx hb dL_law_33 (by rw [h27]; decide) (by rw [h27]; decide) (by rw [h27]; rfl) (by decide) ?_
      exact lc_27 C0 hL hi hf hk ab abk abt abg au auk aut aug r c s k b tc lf f1 f2 f3 f4 f5 f6 f7 z kd tk gr kdu tku gru cnu stu knu sbu rg of th ln le ce qa qm y vs vl vc vk vt vg vh vrk vrt vrg vq vp ve hRel H locs hP hD hS ls hl
    have n0 := lv_neT h0 (show ((0 : Int32)).toInt = 0 from rfl)
    have n1 := lv_neT h1 (show ((1 : Int32)).toInt = 1 from rfl)
    have n2 := lv_neT h2 (show ((2 : Int32)).toInt = 2 from rfl)
    have n3 := lv_neT h3 (show ((3 : Int32)).toInt = 3 from rfl)
    have n4 := lv_neT h4 (show ((4 : Int32)).toInt = 4 from rfl)
    have n5 := lv_neT h5 (show ((5 : Int32)).toInt = 5 from rfl)
    have n6 := lv_neT h6 (show ((6 : Int32)).toInt = 6 from rfl)
    have n7 := lv_neT h7 (show ((7 : Int32)).toInt = 7 from rfl)
    have n8 := lv_neT h8 (show ((8 : Int32)).toInt = 8 from rfl)
    have n9 := lv_neT h9 (show ((9 : Int32)).toInt = 9 from rfl)
    have n10 := lv_neT h10 (show ((10 : Int32)).toInt = 10 from rfl)
    have n11 := lv_neT h11 (show ((11 : Int32)).toInt = 11 from rfl)
    have n12 := lv_neT h12 (show ((12 : Int32)).toInt = 12 from rfl)
    have n13 := lv_neT h13 (show ((13 : Int32)).toInt = 13 from rfl)
    have n14 := lv_neT h14 (show ((14 : Int32)).toInt = 14 from rfl)
    have n15 := lv_neT h15 (show ((15 : Int32)).toInt = 15 from rfl)
    have n16 := lv_neT h16 (show ((16 : Int32)).toInt = 16 from rfl)
    have n17 := lv_neT h17 (show ((17 : Int32)).toInt = 17 from rfl)
    have n18 := lv_neT h18 (show ((18 : Int32)).toInt = 18 from rfl)
    have n19 := lv_neT h19 (show ((19 : Int32)).toInt = 19 from rfl)
    have n20 := lv_neT h20 (show ((20 : Int32)).toInt = 20 from rfl)
    have n21 := lv_neT h21 (show ((21 : Int32)).toInt = 21 from rfl)
    have n22 := lv_neT h22 (show ((22 : Int32)).toInt = 22 from rfl)
    have n23 := lv_neT h23 (show ((23 : Int32)).toInt = 23 from rfl)
    have n24 := lv_neT h24 (show ((24 : Int32)).toInt = 24 from rfl)
    have n25 := lv_neT h25 (show ((25 : Int32)).toInt = 25 from rfl)
    have n26 := lv_neT h26 (show ((26 : Int32)).toInt = 26 from rfl)
    have n27 := lv_neT h27 (show ((27 : Int32)).toInt = 27 from rfl)
    refine lv_tableOut (tgt := 982) hx hb dL_law_33 (by omega) (by decide) ?_
    exact hk ab abk abt abg au auk aut aug r c s k b tc lf f1 f2 f3 f4 f5 f6 f7 z kd tk gr kdu tku gru cnu stu knu sbu rg of th ln le ce qa qm y vs vl vc vk vt vg vh vrk vrt vrg vq vp ve hRel H locs hP hD hS ls hl
