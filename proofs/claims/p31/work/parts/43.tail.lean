/-! a turn, the turns, the end -/
section Tu
variable {c s k b : Nat} {kd tk gr gg : Nat → Int32}
theorem encD {x : P4} (hx : okP c x) (hc : c ≤ 10) : nI (enc x) / (84 : Int32) = nI x.1 ∧ nI (enc x) - nI (enc x) / (3 : Int32) * (3 : Int32) = nI x.2.2.2 ∧ nI (enc x) / (12 : Int32) - nI (enc x) / (12 : Int32) / (7 : Int32) * (7 : Int32) = nI x.2.1 ∧ nI (enc x) / (3 : Int32) - nI (enc x) / (3 : Int32) / (4 : Int32) * (4 : Int32) = nI x.2.2.1 := by
  have hE := enc_lt hc hx
  obtain ⟨h1, h2, h3, h4⟩ := hx
  refine ⟨(pk_div (d := 84) hE (by omega) (by omega)).trans (congrArg nI (by unfold enc; omega)), (pk_rem (d := 3) hE (by omega) (by omega)).trans (congrArg nI (by unfold enc; omega)), ?_, ?_⟩
  · rw [show nI (enc x) / (12 : Int32) = nI (enc x / 12) from pk_div (d := 12) hE (by omega) (by omega)]
    exact (pk_rem (d := 7) (by omega) (by omega) (by omega)).trans (congrArg nI (by unfold enc; omega))
  · rw [show nI (enc x) / (3 : Int32) = nI (enc x / 3) from pk_div (d := 3) hE (by omega) (by omega)]
    exact (pk_rem (d := 4) (by omega) (by omega) (by omega)).trans (congrArg nI (by unfold enc; omega))
theorem t233 (h : GG c s k b kd tk gr gg) (r : RD c s k b kd tk gr) {sL : Nat} (hL : sL ≤ 260) (xs : Nat → Int32) {t D : Nat} (ht : t < 7) (hD : 0 < D ∧ D ≤ 25) (kh) (x4 y0 lf flx pcx ftx tix sox sex pux thb lnb leb : Int32) (ceb : Nat → Int32) (hk : ∀ ce, KH kh x4 (nI t) (nI s) (nI k) (nI b) 1 0 (nI 27) gr ce gg) : f_LT_85_233 (nI c) kd tk sL xs kh x4 (nI t) y0 (nI D) lf flx pcx ftx tix sox sex pux (nI s) (nI k) (nI b) gr thb lnb leb ceb gg = some 1 := by
  have hc := r.2.1
  obtain ⟨m, hm, em⟩ := someL y0 hD.1 (show D < 2 ^ 31 by omega)
  rw [f_LT_85_233]
  refine bgo em (bgo (sheetL1 thb lnb leb ceb) (igo rfl (ggo3 ?_)))
  refine kLoop h r hL xs (m := m) (by omega) ht _ x4 flx pcx ftx tix sox sex pux (nI s) (nI k) (nI b) ?_ m 100 0 _ _ _ _ _ _ _ (by omega) (by omega) ⟨fun j hj => absurd hj (Nat.not_lt_zero j), Or.inl ⟨((0, 0, 0, b), 0, 0, 0), rfl, rfl, ?_, rfl, rfl, rfl⟩⟩
  · intro y8 y9 y10 y11 y12 lf ce hl
    obtain ⟨hA, hl⟩ := hl
    have hw : ∀ (v : Nat) (e : Int32), v ≤ 7 → (∀ o1 : Int32, (∀ z, rdN c s k b kd tk gr ce m = some z → o1 = tellZ z v) → (∀ q, q < m → rdN c s k b kd tk gr ce q ≠ none → rdN c s k b kd tk gr ce (q + 1) = none → o1 = if v = 1 then nI q else -100 - nI q) → o1 = e) → HW (nI c) (nI s) (nI k) (nI b) 1 0 (nI 27) kd tk gr ce 1 0 2 (nI m) (nI v) 1 e := by
      intro v e hv he f1 f2 f3 f4 f5 f6 f7
      obtain ⟨o, a1, a2, a3⟩ := wayL (by omega) hv r hA f1 f2 f3 f4 f5 f6 f7
      exact ⟨o, a1, he _ a2 a3⟩
    have all : HW (nI c) (nI s) (nI k) (nI b) 1 0 (nI 27) kd tk gr ce 1 0 2 (nI m) 1 1 y12 ∧ HW (nI c) (nI s) (nI k) (nI b) 1 0 (nI 27) kd tk gr ce 1 0 2 (nI m) 0 1 (if 0 ≤ y12 then (-100 - y12) else y9) ∧ HW (nI c) (nI s) (nI k) (nI b) 1 0 (nI 27) kd tk gr ce 1 0 2 (nI m) 2 1 (if 0 ≤ y12 then (-100 - y12) else y8 / (84 : Int32)) ∧ HW (nI c) (nI s) (nI k) (nI b) 1 0 (nI 27) kd tk gr ce 1 0 2 (nI m) 3 1 (if 0 ≤ y12 then (-100 - y12) else y8 / (12 : Int32) - y8 / (12 : Int32) / (7 : Int32) * (7 : Int32)) ∧ HW (nI c) (nI s) (nI k) (nI b) 1 0 (nI 27) kd tk gr ce 1 0 2 (nI m) 4 1 (if 0 ≤ y12 then (-100 - y12) else y10) ∧ HW (nI c) (nI s) (nI k) (nI b) 1 0 (nI 27) kd tk gr ce 1 0 2 (nI m) 5 1 (if 0 ≤ y12 then (-100 - y12) else y8 / (3 : Int32) - y8 / (3 : Int32) / (4 : Int32) * (4 : Int32)) ∧ HW (nI c) (nI s) (nI k) (nI b) 1 0 (nI 27) kd tk gr ce 1 0 2 (nI m) 6 1 (if 0 ≤ y12 then (-100 - y12) else y8 - y8 / (3 : Int32) * (3 : Int32)) ∧ HW (nI c) (nI s) (nI k) (nI b) 1 0 (nI 27) kd tk gr ce 1 0 2 (nI m) 7 1 (if 0 ≤ y12 then (-100 - y12) else y11) := by
      rcases hl with ⟨z, hz, rfl, rfl, rfl, rfl, rfl⟩ | ⟨q, z, hq, hz, hn, rfl, rfl⟩
      · obtain ⟨hx, -⟩ := rd_ok r m z hz
        obtain ⟨d1, d2, d3, d4⟩ := encD hx hc
        rw [d1, d2, d3, d4]
        simp only [if_neg m9n]
        exact ⟨hw 1 _ (by omega) (fun o a _ => a z hz), hw 0 _ (by omega) (fun o a _ => a z hz), hw 2 _ (by omega) (fun o a _ => a z hz), hw 3 _ (by omega) (fun o a _ => a z hz), hw 4 _ (by omega) (fun o a _ => a z hz), hw 5 _ (by omega) (fun o a _ => a z hz), hw 6 _ (by omega) (fun o a _ => a z hz), hw 7 _ (by omega) (fun o a _ => a z hz)⟩
      · have q0 : (0 : Int32) ≤ nI q := nI_pos' (by omega)
        simp only [if_pos q0]
        have nz : rdN c s k b kd tk gr ce q ≠ none := by rw [hz]; exact fun w => by cases w
        exact ⟨hw 1 _ (by omega) (fun o _ a => a q hq nz hn), hw 0 _ (by omega) (fun o _ a => a q hq nz hn), hw 2 _ (by omega) (fun o _ a => a q hq nz hn), hw 3 _ (by omega) (fun o _ a => a q hq nz hn), hw 4 _ (by omega) (fun o _ a => a q hq nz hn), hw 5 _ (by omega) (fun o _ a => a q hq nz hn), hw 6 _ (by omega) (fun o _ a => a q hq nz hn), hw 7 _ (by omega) (fun o _ a => a q hq nz hn)⟩
    obtain ⟨H1, H0, H2, H3, H4, H5, H6, H7⟩ := all
    refine HW.go H1 (fun o ho => igo ho (HW.go H0 (fun o2 ho2 => ?_)))
    by_cases q : 0 ≤ y12
    · rw [if_pos q] at ho2
      exact igo q (t509 (hk ce) H2 H3 H4 H5 H6 H7 ho2 _ _ _ _ _ _ _ _)
    · rw [if_neg q] at ho2
      exact ego q (t509 (hk ce) H2 H3 H4 H5 H6 H7 ho2 _ _ _ _ _ _ _ _)
  · show gg (3 : Int32).toNatClampNeg = _
    rw [cl_3, h.1.2.2.2]
    exact congrArg nI (show b = 84 * 0 + 12 * 0 + 3 * 0 + b by omega)
theorem t115 (h : GG c s k b kd tk gr gg) (r : RD c s k b kd tk gr) {sL : Nat} (hL : sL ≤ 260) (xs : Nat → Int32) {t : Nat} (ht : t < 7) (kh) (lf flx pcx ftx tix sox sex pux thb lnb leb : Int32) (ceb : Nat → Int32) (hk : ∀ ce, KH kh (nI c) (nI t) (nI s) (nI k) (nI b) 1 0 (nI 27) gr ce gg) : f_LT_85_115 (nI c) kd tk sL xs kh (nI c) (nI t) lf flx pcx ftx tix sox sex pux (nI s) (nI k) (nI b) gr thb lnb leb ceb gg = some 1 := by
  have hc := r.2.1
  obtain ⟨v, ev⟩ := cellL hL xs (k := 11 + t) (by omega)
  have ev' : f_L_cell ((11 : Int32) + nI t) sL xs = some v := by rw [show (11 : Int32) + nI t = nI (11 + t) from nI_add 11 t]; exact ev
  obtain ⟨w, -, ew⟩ := someL (v >>> ((9 : Int32) &&& 31)) (d := 2) (by omega) (by omega)
  rw [f_LT_85_115]
  refine fLoop h r _ _ _ _ _ _ _ _ _ _ _ _ _ _ _ _ _ _ rfl ?_ c 100 0 (by omega) (by omega)
  refine bgo ev' (bgo ew ?_)
  by_cases q : nI w = 0
  · exact igo q (t233 h r hL xs (D := 25) ht ⟨by omega, by omega⟩ _ _ _ _ _ _ _ _ _ _ _ _ _ _ _ hk)
  · exact ego q (t233 h r hL xs (D := 8) ht ⟨by omega, by omega⟩ _ _ _ _ _ _ _ _ _ _ _ _ _ _ _ hk)
end Tu
theorem tLoop {c : Nat} {kd tk : Nat → Int32} {sL : Nat} (hL : sL ≤ 260) (xs : Nat → Int32) (K) (hK : ∀ (s k b : Nat) (gr gg ceb : Nat → Int32) (lf flx pcx ftx tix sox sex pux : Int32), GG c s k b kd tk gr gg → RD c s k b kd tk gr → K (nI c) lf flx pcx ftx tix sox sex pux (nI s) (nI k) (nI b) gr 1 0 (nI 27) ceb gg = some 1) : ∀ (d N t s k b : Nat) (gr gg ceb : Nat → Int32) (lf flx pcx ftx tix sox sex pux thb lnb leb : Int32), t + d = 7 → d < N → GG c s k b kd tk gr gg → RD c s k b kd tk gr → (t = 0 ∨ (thb = 1 ∧ lnb = 0 ∧ leb = nI 27)) → f_LT_L85 (nI c) kd tk sL xs K N (nI c) (nI t) lf flx pcx ftx tix sox sex pux (nI s) (nI k) (nI b) gr thb lnb leb ceb gg = some 1 := by
  intro d
  induction d with
  | zero =>
    intro N t s k b gr gg ceb lf flx pcx ftx tix sox sex pux thb lnb leb ht hN h r hr
    obtain ⟨N, rfl⟩ : ∃ t, N = t + 1 := ⟨N - 1, by omega⟩
    obtain rfl : t = 7 := by omega
    rcases hr with hr | ⟨rfl, rfl, rfl⟩
    · omega
    · rw [f_LT_L85]
      exact igo (by decide) (hK s k b gr gg ceb lf flx pcx ftx tix sox sex pux h r)
  | succ d ih =>
    intro N t s k b gr gg ceb lf flx pcx ftx tix sox sex pux thb lnb leb ht hN h r hr
    obtain ⟨N, rfl⟩ : ∃ t, N = t + 1 := ⟨N - 1, by omega⟩
    have hk : ∀ (s k b : Nat) (gr gg : Nat → Int32), GG c s k b kd tk gr gg → RD c s k b kd tk gr → ∀ ce, KH (f_LT_L85 (nI c) kd tk sL xs K N) (nI c) (nI t) (nI s) (nI k) (nI b) 1 0 (nI 27) gr ce gg := by
      intro s k b gr gg h r ce lf flx pcx ftx tix sox sex pux
      rw [nI_1]
      exact ih N (t + 1) s k b gr gg ce lf flx pcx ftx tix sox sex pux 1 0 (nI 27) (by omega) (by omega) h r (Or.inr ⟨rfl, rfl, rfl⟩)
    rw [f_LT_L85]
    refine ego (show ¬ (7 : Int32) ≤ nI t from nI_ge (b := 7) (by omega) (by omega)) ?_
    by_cases t0 : t = 0
    · subst t0
      exact igo (by decide) (t115 h r hL xs (by omega) _ _ _ _ _ _ _ _ _ _ _ _ _ (hk s k b gr gg h r))
    · obtain ⟨v, ev⟩ := cellL hL xs (k := 4 + t) (by omega)
      have ev' : f_L_cell ((4 : Int32) + nI t) sL xs = some v := by rw [ad4]; exact ev
      obtain ⟨s', k', b', gr', gg', ec, r', h'⟩ := changeL h r v
      exact ego (show ¬ nI t ≤ 0 from nI_nle (by omega) (by omega)) (bgo ev' (bgo ec (ego n10 (t115 h' r' hL xs (by omega) _ _ _ _ _ _ _ _ _ _ _ _ _ (hk s' k' b' gr' gg' h' r')))))
theorem areBad {ce : Nat → Int32} (h : ce 2 < 0 ∨ ¬ ce 2 < (5 : Int32)) : f_X4_areActs (nI 27) ce (2 : Int32) (1 : Int32) = some 0 := by
  have e : f_X1_at (nI 27) ce ((2 : Int32) + (0 : Int32)) = some (ce 2) := atL (i := 2) (by omega) (by omega) ce
  rw [f_X4_areActs, f_X4_areActs_L2, ie' (by decide), e, obind]
  by_cases q : ce 2 < 0
  · rw [it' q]
  · rw [ie' q, ie' (h.resolve_left q)]
section Fi
variable {c s k b : Nat} {kd tk gr gg : Nat → Int32}
theorem wBad {ce : Nat → Int32} (r : RD c s k b kd tk gr) (h : ce 2 < 0 ∨ ¬ ce 2 < (5 : Int32)) : HW (nI c) (nI s) (nI k) (nI b) 1 0 (nI 27) kd tk gr ce 1 0 2 1 1 1 (-2) := by
  intro f1 f2 f3 f4 f5 f6 f7
  have e1 : f_X1_isUnlike 1 0 0 = some 0 := by decide +kernel
  have e2 : f_X1_holds (nI 27) (2 : Int32) (1 : Int32) = some 1 := holdsL (i := 2) (m := 1) (by omega) (by omega)
  exact ⟨_, by rw [f_X4_way, iS1, obind, ie' n10, iL0, obind, ie' n10, ie' (by decide), ie' (by decide), ie' (by decide), it' (by decide), g4_1, gdi cl_1, e1, obind, it' z00, ie' n10, e2, obind, ie' n10, noL r.1.1 r.2.1, obind, it' z00, areBad h, obind, it' z00], rfl⟩
theorem fin687 (h : GG c s k b kd tk gr gg) (r : RD c s k b kd tk gr) (ceb cec : Nat → Int32) (lnc lec : Int32) : (∀ v : Int32, f_X4_ofFlag (nI c) kd tk gr (nI c) v = some (-1)) ∧ f_X4_strong (nI c) (nI s) 0 = some (-2, nI s) ∧ f_X4_strong (nI c) (nI s) 5 = some (-2, nI s) ∧ f_X4_knee (nI c) (nI k) 0 = some (-2, nI k) ∧ f_X4_knee (nI c) (nI k) 4 = some (-2, nI k) ∧ f_X4_sole (nI c) (nI b) 3 = some (-2, nI b) ∧ f_X4_sole (nI c) (nI b) (-1) = some (-2, nI b) ∧ f_X4_grating (nI c) gr (nI c) 1 = some (-1, gr) ∧ f_X4_grating (nI c) gr (-1) 1 = some (-1, gr) ∧ HW (nI c) (nI s) (nI k) (nI b) 1 0 (nI 27) kd tk gr ceb 4 0 2 0 0 1 (-1) ∧ HW (nI c) (nI s) (nI k) (nI b) 1 0 (nI 27) kd tk gr ceb 1 3 2 0 0 1 (-2) ∧ HW (nI c) (nI s) (nI k) (nI b) 1 0 (nI 27) kd tk gr ceb 1 0 2 25 0 1 (-2) ∧ HW (nI c) (nI s) (nI k) (nI b) 1 0 (nI 27) kd tk gr ceb 1 0 2 (-1) 0 1 (-2) ∧ HW (nI c) (nI s) (nI k) (nI b) 1 0 (nI 27) kd tk gr ceb 1 0 2 0 8 1 (-2) ∧ HW (nI c) (nI s) (nI k) (nI b) 1 0 (nI 27) kd tk gr ceb 1 1 2 0 0 1 (-12) ∧ HW (nI c) (nI s) (nI k) (nI b) 0 lnc lec kd tk gr cec 2 2 2 0 0 2 (-11) ∧ HW (nI c) (nI s) (nI k) (nI b) 1 0 (nI 27) kd tk gr ceb 1 0 5 24 0 1 (-13) ∧ HW (nI c) (nI s) (nI k) (nI b) 1 0 (nI 27) kd tk gr ceb 1 0 2 0 0 1 0 ∧ HW (nI c) (nI s) (nI k) (nI b) 1 0 (nI 27) kd tk gr ceb 1 0 2 0 6 1 (nI b) := by
  have hc := r.2.1
  have F1 : f_X4_failed 1 = some (-11, 1) := by decide +kernel
  have F2 : f_X4_failed 2 = some (-12, 2) := by decide +kernel
  have F3 : f_X4_failed 3 = some (-13, 3) := by decide +kernel
  have u0 : f_X1_isUnlike 1 0 0 = some 0 := by decide +kernel
  have u1 : f_X1_isUnlike 1 0 1 = some 1 := by decide +kernel
  have u2 : f_X1_isUnlike 0 lnc 2 = some 0 := by rw [f_X1_isUnlike, it' z00]
  have h3 : f_X1_holds (nI 27) 5 24 = some 0 := by decide +kernel
  have hm1 : f_X3_has (nI c) (-1) = some 0 := by rw [f_X3_has, it' (by decide)]
  have hcc : f_X3_has (nI c) (nI c) = some 0 := by rw [hasN (by omega) (by omega), if_neg (Nat.lt_irrefl c)]
  have w0 : ∀ v e, v ≤ 7 → tellZ ((0, 0, 0, b), 0, 0, 0) v = e → HW (nI c) (nI s) (nI k) (nI b) 1 0 (nI 27) kd tk gr ceb 1 0 2 (nI 0) (nI v) 1 e := by
    intro v e hv he f1 f2 f3 f4 f5 f6 f7
    obtain ⟨o, a1, a2, -⟩ := wayL (m := 0) (ce := ceb) (by omega) hv r (fun j hj => absurd hj (Nat.not_lt_zero j)) f1 f2 f3 f4 f5 f6 f7
    exact ⟨o, a1, (a2 _ rfl).trans he⟩
  refine ⟨fun v => ofLn hc v, ?_, ?_, ?_, ?_, ?_, ?_, ?_, ?_, ?_, ?_, ?_, ?_, ?_, ?_, ?_, ?_, ?_, ?_⟩
  · rw [f_X4_strong, it' (by decide)]
  · rw [f_X4_strong, ie' (by decide), ie' (by decide)]
  · rw [f_X4_knee, it' (by decide)]
  · rw [f_X4_knee, ie' (by decide), ie' (by decide)]
  · rw [f_X4_sole, ie' (by decide), ie' (by decide)]
  · rw [f_X4_sole, it' (by decide)]
  · rw [f_X4_grating, hcc, obind, it' z00]
  · rw [f_X4_grating, hm1, obind, it' z00]
  · intro f1 f2 f3 f4 f5 f6 f7
    exact ⟨_, by rw [f_X4_way, iS4, obind, it' z00], rfl⟩
  · intro f1 f2 f3 f4 f5 f6 f7
    exact ⟨_, by rw [f_X4_way, iS1, obind, ie' n10, iL3, obind, it' z00], rfl⟩
  · intro f1 f2 f3 f4 f5 f6 f7
    exact ⟨_, by rw [f_X4_way, iS1, obind, ie' n10, iL0, obind, ie' n10, ie' (by decide), it' (by decide)], rfl⟩
  · intro f1 f2 f3 f4 f5 f6 f7
    exact ⟨_, by rw [f_X4_way, iS1, obind, ie' n10, iL0, obind, ie' n10, it' (by decide)], rfl⟩
  · intro f1 f2 f3 f4 f5 f6 f7
    exact ⟨_, by rw [f_X4_way, iS1, obind, ie' n10, iL0, obind, ie' n10, ie' (by decide), ie' (by decide), ie' (by decide), ie' (by decide)], rfl⟩
  · intro f1 f2 f3 f4 f5 f6 f7
    exact ⟨_, by rw [f_X4_way, iS1, obind, ie' n10, iL1, obind, ie' n10, ie' (by decide), ie' (by decide), ie' (by decide), it' (by decide), g4_1, gdi cl_1, u1, obind, ie' n10, F2, obind], rfl⟩
  · intro f1 f2 f3 f4 f5 f6 f7
    exact ⟨_, by rw [f_X4_way, iS2, obind, ie' n10, iL2, obind, ie' n10, ie' (by decide), ie' (by decide), ie' (by decide), it' (by decide), g4_2, gdi cl_2, u2, obind, it' z00, it' z00, F1, obind], rfl⟩
  · intro f1 f2 f3 f4 f5 f6 f7
    exact ⟨_, by rw [f_X4_way, iS1, obind, ie' n10, iL0, obind, ie' n10, ie' (by decide), ie' (by decide), ie' (by decide), it' (by decide), g4_1, gdi cl_1, u0, obind, it' z00, ie' n10, h3, obind, it' z00, F3, obind], rfl⟩
  · exact w0 0 0 (by omega) rfl
  · exact w0 6 (nI b) (by omega) rfl
theorem LT_ok (h : GG c s k b kd tk gr gg) (r : RD c s k b kd tk gr) {sL : Nat} (hL : sL ≤ 260) (xs : Nat → Int32) (rc lf flx pcx ftx tix sox sex pux thb lnb leb lnc lec : Int32) (ceb cec : Nat → Int32) : f_LT rc lf flx pcx ftx tix sox sex pux (nI c) (nI s) (nI k) (nI b) thb lnb leb 0 lnc lec kd tk gr ceb cec gg (nI c) sL xs = some 1 := by
  have hc := r.2.1
  have m1 : f_X4_many rc (nI c) (nI s) (nI k) (nI b) 1 = some (nI s) := by rw [f_X4_many, ie' n10, it' rfl]
  have m2 : f_X4_many rc (nI c) (nI s) (nI k) (nI b) 2 = some (nI k) := by rw [f_X4_many, ie' (by decide), ie' (by decide), it' rfl]
  have m3 : f_X4_many rc (nI c) (nI s) (nI k) (nI b) 3 = some (nI b) := by rw [f_X4_many, ie' (by decide), ie' (by decide), ie' (by decide), it' rfl]
  rw [f_LT]
  refine bgo m1 (ggo1 (igo (by rw [cl_1, h.1.2.1]) (bgo m2 (ggo2 (igo (by rw [cl_2, h.1.2.2.1]) (bgo m3 (ggo3 (igo (by rw [cl_3, h.1.2.2.2]) ?_))))))))
  refine tLoop (c := c) hL xs _ ?_ 7 100 0 s k b gr gg ceb lf flx pcx ftx tix sox sex pux thb lnb leb (by omega) (by omega) h r (Or.inl rfl)
  intro s k b gr gg ceb lf flx pcx ftx tix sox sex pux h r
  obtain ⟨e1, e4, e5, e6, e7, e8, e9, e10, e11, W1, W2, W3, W4, W5, W6, W7, W8, W9, W10⟩ := fin687 h r ceb cec lnc lec
  have o4 : f_X4_ofFlag (nI c) kd tk gr 0 4 = some (-2) := ofLo r.1.1 hc (by decide) (by decide) (by decide) (by decide)
  have om : f_X4_ofFlag (nI c) kd tk gr 0 (-1) = some (-2) := ofLo r.1.1 hc (by decide) (by decide) (by decide) (by decide)
  have p5 : f_X4_put 1 0 (nI 27) ceb 1 2 5 1 = some (1, 0, upd ceb 2 5) := putL1 (i := 2) (by omega) (by omega) ceb 5
  have pm : f_X4_put 1 0 (nI 27) (upd ceb 2 5) 1 2 (-1) 1 = some (1, 0, upd (upd ceb 2 5) 2 (-1)) := putL1 (i := 2) (by omega) (by omega) (upd ceb 2 5) (-1)
  have B1 := wBad (ce := upd ceb 2 5) r (Or.inr (by rw [pk_us]; decide))
  have B2 := wBad (ce := upd (upd ceb 2 5) 2 (-1)) r (Or.inl (by rw [pk_us]; decide))
  refine bgo (e1 0) (igo rfl (bgo o4 (igo rfl (bgo om (igo rfl (bgo e4 (igo rfl (bgo e5 (igo rfl (bgo e6 (igo rfl (bgo e7 (igo rfl (bgo e8 (igo rfl (bgo e9 (igo rfl (bgo e10 (igo rfl (bgo e11 (igo rfl ?_)))))))))))))))))))))
  refine HW.go W1 (fun o1 h1 => igo h1 (HW.go W2 (fun o2 h2 => igo h2 (HW.go W3 (fun o3 h3 => igo h3 (HW.go W4 (fun o4 h4 => igo h4 (HW.go W5 (fun o5 h5 => igo h5 (HW.go W6 (fun o6 h6 => igo h6 (HW.go W7 (fun o7 h7 => igo h7 (HW.go W8 (fun o8 h8 => igo h8 (HW.go W9 (fun o9 h9 => igo h9 (HW.go W10 (fun o10 h10 => ggo3 (igo (by rw [h10, cl_3, h.1.2.2.2]) ?_))))))))))))))))))))
  exact bgo p5 (igo rfl (HW.go B1 (fun o11 h11 => igo h11 (bgo pm (igo rfl (HW.go B2 (fun o12 h12 => igo h12 rfl)))))))
end Fi
