/-! the law's loops -/
theorem ggoN {α : Type} {i n : Nat} {x : Option α} {r : α} (h : i < n) (hn : n < 2 ^ 31) (k : x = some r) : gx (nI i) n x = some r := by rw [gxN h hn]; exact k
theorem ggo24 {α : Type} {x : Option α} {r : α} (k : x = some r) : gx (24 : Int32) 25 x = some r := by rw [g25_24]; exact k
section Lo
variable {c s k b : Nat} {kd tk gr gg : Nat → Int32}
/-- which act is tried at last -/
theorem qLoop (h : GG c s k b kd tk gr gg) (r : RD c s k b kd tk gr) {x : P4} (hx : okP c x) (ht : x.2.2.1 ≤ k) (K) (x4 x5 x7 x9 x10 x11 x12 x13 x14 lf flx pcx ftx tix sox sex pux st kn sb thb lnb leb : Int32) (ceb : Nat → Int32) : ∀ (d N i a : Nat), i + d = 5 → d < N → a ≤ 4 → ∃ a', a' ≤ 4 ∧ f_LT_L320 K N x4 x5 x7 (nI (enc x)) x9 x10 x11 x12 x13 x14 (nI a) (nI i) lf flx pcx ftx tix sox sex pux st kn sb gr thb lnb leb ceb gg = K x4 x5 x7 (nI (enc x)) x9 x10 x11 x12 x13 (nI a') lf flx pcx ftx tix sox sex pux st kn sb gr thb lnb leb ceb gg := by
  intro d
  induction d with
  | zero =>
    intro N i a hi hN ha
    obtain ⟨N, rfl⟩ : ∃ t, N = t + 1 := ⟨N - 1, by omega⟩
    obtain rfl : i = 5 := by omega
    exact ⟨a, ha, by rw [f_LT_L320, it' (show (5 : Int32) ≤ nI 5 by decide)]⟩
  | succ d ih =>
    intro N i a hi hN ha
    obtain ⟨N, rfl⟩ : ∃ t, N = t + 1 := ⟨N - 1, by omega⟩
    rw [f_LT_L320, ie' (show ¬ (5 : Int32) ≤ nI i from nI_ge (b := 5) (by omega) (by omega))]
    by_cases q : 0 ≤ x12
    · exact ⟨a, ha, it' q⟩
    · rw [ie' q, goL h r hx ht ha, obind]
      by_cases q2 : 0 ≤ goR (stN c s k kd tk gr a x)
      · exact ⟨a, ha, it' q2⟩
      · obtain ⟨w, -, ew⟩ := someL (x14 >>> ((4 : Int32) &&& 31)) (d := 9) (by omega) (by omega)
        have ew' : f_L_some (x14 >>> ((4 : Int32) &&& 31)) (9 : Int32) = some (nI w) := ew
        rw [ie' q2, ew', obind]
        by_cases q3 : nI w ≤ 0
        · exact ⟨a, ha, it' q3⟩
        · have e5 : (nI a + (1 : Int32)) - (nI a + (1 : Int32)) / (5 : Int32) * (5 : Int32) = nI ((a + 1) % 5) := by
            rw [nI_1]
            exact pk_rem (d := 5) (by omega) (by omega) (by omega)
          rw [ie' q3, e5, nI_1]
          exact ih N (i + 1) ((a + 1) % 5) (by omega) (by omega) (by have := Nat.mod_lt (a + 1) (show 0 < 5 by omega); omega)
/-- how far the law has come in its way -/
def Wst (c s k b : Nat) (kd tk gr : Nat → Int32) (j : Nat) (ce : Nat → Int32) (x8 x9 x10 x11 x12 : Int32) : Prop := okA ce j ∧ ((∃ z, rdN c s k b kd tk gr ce j = some z ∧ x12 = -9 ∧ x8 = nI (enc z.1) ∧ x9 = z.2.2.1 ∧ x10 = z.2.1 ∧ x11 = z.2.2.2) ∨ (∃ q z, q < j ∧ rdN c s k b kd tk gr ce q = some z ∧ rdN c s k b kd tk gr ce (q + 1) = none ∧ x12 = nI q ∧ x8 = nI (enc z.1)))
theorem okA_up {ce : Nat → Int32} {j a : Nat} (h : okA ce j) (ha : a ≤ 4) : okA (upd ce (2 + j) (nI a)) (j + 1) := by
  intro i hi
  by_cases e : i = j
  · rw [e, pk_us]; exact ⟨a, ha, rfl⟩
  · rw [pk_un (by omega)]; exact h i (by omega)
theorem rd_up {ce : Nat → Int32} {j : Nat} {v : Int32} {i : Nat} (hi : i ≤ j) : rdN c s k b kd tk gr (upd ce (2 + j) v) i = rdN c s k b kd tk gr ce i := rd_cg i (fun i' hi' => pk_un (by omega))
theorem m9n : ¬ (0 : Int32) ≤ -9 := by decide
theorem m9l : (-9 : Int32) < 0 := by decide
theorem enc_lt {x : P4} (hc : c ≤ 10) (hx : okP c x) : enc x < 2 ^ 31 := by
  obtain ⟨h1, h2, h3, h4⟩ := hx
  unfold enc
  omega
theorem kStep (h : GG c s k b kd tk gr gg) (r : RD c s k b kd tk gr) {j : Nat} (hj : j < 24) {ceb : Nat → Int32} {x8 x9 x10 x11 x12 : Int32} (hl : Wst c s k b kd tk gr j ceb x8 x9 x10 x11 x12) {a : Nat} (ha : a ≤ 4) (kh) (x4 x5 x7 x14 lf flx pcx ftx tix sox sex pux st kn sb : Int32) : ∃ (y8 y9 y10 y11 y12 lf' : Int32) (ce' : Nat → Int32), f_LT_273_315 kh x4 x5 x7 x8 x9 x10 x11 x12 (nI j) x14 (nI a) lf flx pcx ftx tix sox sex pux st kn sb gr 1 0 (nI 27) ceb gg = kh x4 x5 x7 y8 y9 y10 y11 y12 (nI (j + 1)) lf' flx pcx ftx tix sox sex pux st kn sb gr 1 0 (nI 27) ce' gg ∧ Wst c s k b kd tk gr (j + 1) ce' y8 y9 y10 y11 y12 := by
  have hc := r.2.1
  obtain ⟨hA, hl⟩ := hl
  have put : ∀ a', a' ≤ 4 → f_X4_put 1 0 (nI 27) ceb (1 : Int32) ((2 : Int32) + nI j) (nI a') 1 = some (1, 0, upd ceb (2 + j) (nI a')) := by
    intro a' ha'
    rw [show (2 : Int32) + nI j = nI (2 + j) from nI_add 2 j, putL1 (by omega) (show 2 + j < 27 by omega), i8 _ (by omega)]
  rcases hl with ⟨z, hz, rfl, rfl, rfl, rfl, rfl⟩ | ⟨q, z, hq, hz, hn, rfl, rfl⟩
  · obtain ⟨hx, ht⟩ := rd_ok r j z hz
    obtain ⟨a', ha', e⟩ := qLoop h r hx ht (fun x4 x5 x7 x8 x9 x10 x11 x12 x13 x15 lf flx pcx ftx tix sox sex pux st kn sb gr thb lnb leb ceb gg => f_LT_273_368 kh x4 x5 x7 x8 x9 x10 x11 x12 x13 x15 lf flx pcx ftx tix sox sex pux st kn sb gr thb lnb leb ceb gg) x4 x5 x7 z.2.2.1 z.2.1 z.2.2.2 (-9) (nI j) x14 lf flx pcx ftx tix sox sex pux st kn sb 1 0 (nI 27) ceb 5 100 0 a (by omega) (by omega) ha
    have e315 : f_LT_273_315 kh x4 x5 x7 (nI (enc z.1)) z.2.2.1 z.2.1 z.2.2.2 (-9) (nI j) x14 (nI a) lf flx pcx ftx tix sox sex pux st kn sb gr 1 0 (nI 27) ceb gg = f_LT_273_368 kh x4 x5 x7 (nI (enc z.1)) z.2.2.1 z.2.1 z.2.2.2 (-9) (nI j) (nI a') lf flx pcx ftx tix sox sex pux st kn sb gr 1 0 (nI 27) ceb gg := by
      rw [f_LT_273_315]
      exact e
    have hz' : rdN c s k b kd tk gr (upd ceb (2 + j) (nI a')) j = some z := (rd_up (Nat.le_refl j)).trans hz
    have hs := rd_s hz'
    rw [pk_us, show (nI a').toNatClampNeg = a' from nI_clamp (by omega)] at hs
    have hA' := okA_up hA ha'
    rw [e315, f_LT_273_368, put a' ha', obind, it' rfl, ie' m9n, goL h r hx ht ha', obind]
    cases hst : stN c s k kd tk gr a' z.1 with
    | none =>
      refine ⟨nI (enc z.1), z.2.2.1, z.2.1, z.2.2.2, nI j, 0, upd ceb (2 + j) (nI a'), ?_, hA', Or.inr ⟨j, z, by omega, hz', hs.trans (stZ_n hst), rfl, rfl⟩⟩
      rw [ie' (show ¬ (0 : Int32) ≤ goR none from m9n), f_LT_273_405, ie' (nI_pos (by omega)), f_LT_273_459, nI_1]
    | some y =>
      have hy := stN_ok r.1.2.2.2.2.1 hx hst
      refine ⟨nI (enc y), z.2.2.1 + nI (dtN a'), if a' = 1 then 1 - z.2.1 else z.2.1, if a' = 0 then z.2.2.2 + 1 else z.2.2.2, -9, 0, upd ceb (2 + j) (nI a'), ?_, hA', Or.inl ⟨_, hs.trans (stZ_y hst), rfl, rfl, rfl, rfl, rfl⟩⟩
      rw [it' (show (0 : Int32) ≤ goR (some y) from nI_pos' (enc_lt hc hy)), f_LT_273_405, it' m9l, goL h r hx ht ha', obind, hst]
      rcases a5 ha' with rfl | rfl | rfl | rfl | rfl
      · rw [ie' (show ¬ nI 0 = (4 : Int32) by decide), f_LT_273_436, ie' (show ¬ nI 0 = (1 : Int32) by decide), f_LT_273_451, it' (show nI 0 = (0 : Int32) from rfl), f_LT_273_459, nI_1]
        rfl
      · rw [ie' (show ¬ nI 1 = (4 : Int32) by decide), f_LT_273_436, it' (show nI 1 = (1 : Int32) from rfl), f_LT_273_451, ie' (show ¬ nI 1 = (0 : Int32) by decide), f_LT_273_459, nI_1]
        rfl
      · rw [ie' (show ¬ nI 2 = (4 : Int32) by decide), f_LT_273_436, ie' (show ¬ nI 2 = (1 : Int32) by decide), f_LT_273_451, ie' (show ¬ nI 2 = (0 : Int32) by decide), f_LT_273_459, nI_1]
        rfl
      · rw [ie' (show ¬ nI 3 = (4 : Int32) by decide), f_LT_273_436, ie' (show ¬ nI 3 = (1 : Int32) by decide), f_LT_273_451, ie' (show ¬ nI 3 = (0 : Int32) by decide), f_LT_273_459, nI_1]
        rfl
      · rw [it' (show nI 4 = (4 : Int32) from rfl), f_LT_273_436, ie' (show ¬ nI 4 = (1 : Int32) by decide), f_LT_273_451, ie' (show ¬ nI 4 = (0 : Int32) by decide), f_LT_273_459, nI_1]
        rfl
  · obtain ⟨hx, ht⟩ := rd_ok r q z hz
    have q0 : (0 : Int32) ≤ nI q := nI_pos' (by omega)
    obtain ⟨a', ha', e⟩ := qLoop h r hx ht (fun x4 x5 x7 x8 x9 x10 x11 x12 x13 x15 lf flx pcx ftx tix sox sex pux st kn sb gr thb lnb leb ceb gg => f_LT_273_368 kh x4 x5 x7 x8 x9 x10 x11 x12 x13 x15 lf flx pcx ftx tix sox sex pux st kn sb gr thb lnb leb ceb gg) x4 x5 x7 x9 x10 x11 (nI q) (nI j) x14 lf flx pcx ftx tix sox sex pux st kn sb 1 0 (nI 27) ceb 5 100 0 a (by omega) (by omega) ha
    have e315 : f_LT_273_315 kh x4 x5 x7 (nI (enc z.1)) x9 x10 x11 (nI q) (nI j) x14 (nI a) lf flx pcx ftx tix sox sex pux st kn sb gr 1 0 (nI 27) ceb gg = f_LT_273_368 kh x4 x5 x7 (nI (enc z.1)) x9 x10 x11 (nI q) (nI j) (nI a') lf flx pcx ftx tix sox sex pux st kn sb gr 1 0 (nI 27) ceb gg := by
      rw [f_LT_273_315]
      exact e
    refine ⟨nI (enc z.1), x9, x10, x11, nI q, 0, upd ceb (2 + j) (nI a'), ?_, okA_up hA ha', Or.inr ⟨q, z, by omega, (rd_up (by omega)).trans hz, (rd_up (by omega)).trans hn, rfl, rfl⟩⟩
    rw [e315, f_LT_273_368, put a' ha', obind, it' rfl, it' q0, f_LT_273_405, ie' (nI_pos (by omega)), f_LT_273_459, nI_1]
theorem kLoop (h : GG c s k b kd tk gr gg) (r : RD c s k b kd tk gr) {sL : Nat} (hL : sL ≤ 260) (xs : Nat → Int32) {m t : Nat} (hm : m ≤ 24) (htt : t < 7) (K) (x4 flx pcx ftx tix sox sex pux st kn sb : Int32) (hK : ∀ (y8 y9 y10 y11 y12 lf : Int32) (ce : Nat → Int32), Wst c s k b kd tk gr m ce y8 y9 y10 y11 y12 → K x4 (nI t) (nI m) y8 y9 y10 y11 y12 lf flx pcx ftx tix sox sex pux st kn sb gr 1 0 (nI 27) ce gg = some 1) : ∀ (d N j : Nat) (x8 x9 x10 x11 x12 lf : Int32) (ceb : Nat → Int32), j + d = m → d < N → Wst c s k b kd tk gr j ceb x8 x9 x10 x11 x12 → f_LT_L273 sL xs K N x4 (nI t) (nI m) x8 x9 x10 x11 x12 (nI j) lf flx pcx ftx tix sox sex pux st kn sb gr 1 0 (nI 27) ceb gg = some 1 := by
  intro d
  induction d with
  | zero =>
    intro N j x8 x9 x10 x11 x12 lf ceb hj hN hl
    obtain ⟨N, rfl⟩ : ∃ t, N = t + 1 := ⟨N - 1, by omega⟩
    obtain rfl : j = m := by omega
    rw [f_LT_L273, it' (nI_le (Nat.le_refl j) (by omega))]
    exact hK _ _ _ _ _ _ _ hl
  | succ d ih =>
    intro N j x8 x9 x10 x11 x12 lf ceb hj hN hl
    obtain ⟨N, rfl⟩ : ∃ t, N = t + 1 := ⟨N - 1, by omega⟩
    obtain ⟨v, ev⟩ := cellL hL xs (k := 18 + t) (by omega)
    have ev' : f_L_cell ((18 : Int32) + nI t) sL xs = some v := by rw [show (18 : Int32) + nI t = nI (18 + t) from nI_add 18 t]; exact ev
    obtain ⟨w, -, ew⟩ := someL ((v >>> (nI j &&& 31)) >>> ((2 : Int32) &&& 31)) (d := 2) (by omega) (by omega)
    obtain ⟨a, ha, ea⟩ := someL (v >>> (nI j &&& 31)) (d := 5) (by omega) (by omega)
    have go : ∀ (a : Nat) (x14 : Int32), a ≤ 4 → f_LT_273_315 (f_LT_L273 sL xs K N) x4 (nI t) (nI m) x8 x9 x10 x11 x12 (nI j) x14 (nI a) lf flx pcx ftx tix sox sex pux st kn sb gr 1 0 (nI 27) ceb gg = some 1 := by
      intro a x14 ha
      obtain ⟨y8, y9, y10, y11, y12, lf', ce', e, hl'⟩ := kStep h r (show j < 24 by omega) hl ha (f_LT_L273 sL xs K N) x4 (nI t) (nI m) x14 lf flx pcx ftx tix sox sex pux st kn sb
      rw [e]
      exact ih N (j + 1) _ _ _ _ _ _ _ (by omega) (by omega) hl'
    rw [f_LT_L273, ie' (nI_ge (show j < m by omega) (by omega))]
    refine bgo ev' (bgo ew ?_)
    by_cases q : nI w = 0
    · exact igo q (go 0 _ (by omega))
    · exact ego q (bgo ea (go a _ (by omega)))
theorem fLoop (h : GG c s k b kd tk gr gg) (r : RD c s k b kd tk gr) (K) (x4 x5 lf flx pcx ftx tix sox sex pux st kn sb thb lnb leb : Int32) (ceb : Nat → Int32) (e4 : x4 = nI c) (hK : K x4 x5 lf flx pcx ftx tix sox sex pux st kn sb gr thb lnb leb ceb gg = some 1) : ∀ (d N f : Nat), f + d = c → d < N → f_LT_L118 (nI c) kd tk K N x4 x5 (nI f) lf flx pcx ftx tix sox sex pux st kn sb gr thb lnb leb ceb gg = some 1 := by
  have hc := r.2.1
  subst e4
  intro d
  induction d with
  | zero =>
    intro N f hf hN
    obtain ⟨N, rfl⟩ : ∃ t, N = t + 1 := ⟨N - 1, by omega⟩
    obtain rfl : f = c := by omega
    rw [f_LT_L118, it' (nI_le (Nat.le_refl f) (by omega))]
    exact hK
  | succ d ih =>
    intro N f hf hN
    obtain ⟨N, rfl⟩ : ∃ t, N = t + 1 := ⟨N - 1, by omega⟩
    have hfc : f < c := by omega
    obtain ⟨h1, h2, h3⟩ := h.2 f hfc
    have c4 : (nI (4 + f)).toNatClampNeg = 4 + f := nI_clamp (by omega)
    have c14 : (nI (14 + f)).toNatClampNeg = 14 + f := nI_clamp (by omega)
    have i4 : f + 4 < 25 := by omega
    rw [f_LT_L118, ie' (nI_ge hfc (by omega)), ad4, ad14, c4, c14, cl_24, bitv _ (by omega), nI_1]
    exact bgo (ofL0 hc hfc) (ggoN (by omega) (by omega) (igo h1.symm (bgo (ofL1 hc hfc) (ggoN (by omega) (by omega) (igo h2.symm (bgo (ofL2 r.2 hfc) (bgo (dragL r.2 h hfc) (igo rfl (bgo (ofL3 r.2 hfc) (ggo24 (igo h3 (ih N (f + 1) (by omega) (by omega)))))))))))))
end Lo
