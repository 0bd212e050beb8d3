/-! the reference's search: one place, then all -/
def gfN (st : Nat → P4 → Option P4) (U c t w : Nat) (x : P4) : Nat → Nat → Z3 → Z3
  | 0, _, z => z
  | d + 1, i, z => gfN st U c t w x d (i + 1) ((st i x).elim z (fun y => comN U c (t + dtN i) (w + dpN i) y z))
section GF
variable {st : Nat → P4 → Option P4} {x0 : P4} {c U t w : Nat} {x : P4}
theorem gfN_snd (hst : ∀ a y, st a x = some y → okP c y) (hr : RK st x0 t w x) : ∀ (d i : Nat) (z : Z3), i + d ≤ 5 → Snd st x0 c U z → Snd st x0 c U (gfN st U c t w x d i z)
  | 0, _, _, _, h => h
  | d + 1, i, z, hd, h => by
    rw [gfN]
    refine gfN_snd hst hr d (i + 1) _ (by omega) ?_
    cases e : st i x with
    | none => exact h
    | some y => exact comN_snd h (hst i y e) (hr.step (by omega) e)
theorem gfN_mono {t' w' : Nat} {x' : P4} (ht : t ≤ 30) (hw : w ≤ 30) (hw' : w' ≤ 100) (ht' : t' ≤ 100) : ∀ (d i : Nat) (z : Z3), Rec c t' w' x' z → Rec c t' w' x' (gfN st U c t w x d i z)
  | 0, _, _, h => h
  | d + 1, i, z, h => by
    rw [gfN]
    refine gfN_mono ht hw hw' ht' d (i + 1) _ ?_
    have := dt_le i
    have := dp_le i
    cases e : st i x with
    | none => exact h
    | some y => exact comN_mono (by omega) (by omega) hw' ht' h
theorem gfN_rec (hU : U ≤ 24) (hc : c ≤ 10) (ht : t ≤ 30) (hw : w ≤ 30) (hst : ∀ a y, st a x = some y → okP c y) (hr : RK st x0 t w x) : ∀ (d i : Nat) (z : Z3), i + d ≤ 5 → Snd st x0 c U z → ∀ a y, i ≤ a → a < i + d → st a x = some y → t + dtN a ≤ U → Rec c (t + dtN a) (w + dpN a) y (gfN st U c t w x d i z)
  | 0, _, _, _, _, a, y, h1, h2, _, _ => by omega
  | d + 1, i, z, hd, hS, a, y, h1, h2, e, hu => by
    have := dt_le i
    have := dp_le i
    have := dt_le a
    have := dp_le a
    rw [gfN]
    by_cases q : a = i
    · subst q
      rw [e]
      exact gfN_mono ht hw (by omega) (by omega) d (a + 1) _ (comN_rec hU hc (hst a y e) hS hu (by omega))
    · refine gfN_rec hU hc ht hw hst hr d (i + 1) _ (by omega) ?_ a y (by omega) (by omega) e hu
      cases e2 : st i x with
      | none => exact hS
      | some y2 => exact comN_snd hS (hst i y2 e2) (hr.step (by omega) e2)
end GF
section GM
variable {c s k : Nat} {kd tk gr : Nat → Int32} {U t w : Nat} {x : P4}
theorem gfM (ok : okF c kd tk gr) (hs : s ≤ 4) (hk : k ≤ 3) (hU : U ≤ 24) (hx : okP c x) (hf : x.1 < c) (ht : t ≤ 24) (hw : w ≤ 24) : ∀ (d n i : Nat) (z : Z3) (qg qp qu ql : Int32), i + d = 5 → d < n → z.2.2 (spN t x) = nI w → ∃ qg' qp' qu' ql' : Int32, f_X5_goFrom_L34 (nI c) (nI s) (nI k) kd tk gr (nI (spN t x)) (nI U) (fun qg qp qu ql qi qj vf => some (qg, qp, qu, ql, qi, qj, vf)) n (nI (t * 10 + x.1)) (nI x.2.2.2) (nI x.2.2.1) (nI x.2.1) (nI i) qg qp qu ql z.1 z.2.1 z.2.2 = some (qg', qp', qu', ql', (gfN (stN c s k kd tk gr) U c t w x d i z).1, (gfN (stN c s k kd tk gr) U c t w x d i z).2.1, (gfN (stN c s k kd tk gr) U c t w x d i z).2.2) := by
  have hc := ok.1
  have hsp := spN_lt (t := t) hc hx hf
  have hK : spN t x < 21000 := by omega
  have hx1 := hx.1
  have e10 : nI (t * 10 + x.1) - nI (t * 10 + x.1) / (10 : Int32) * (10 : Int32) = nI x.1 := by
    have := pk_rem (a := t * 10 + x.1) (d := 10) (by omega) (by omega) (by omega)
    rw [show (t * 10 + x.1) % 10 = x.1 by omega] at this
    exact this
  have ed : nI (t * 10 + x.1) / (10 : Int32) = nI t := by
    have := pk_div (a := t * 10 + x.1) (d := 10) (by omega) (by omega) (by omega)
    rw [show (t * 10 + x.1) / 10 = t by omega] at this
    exact this
  intro d
  induction d with
  | zero =>
    intro n i z qg qp qu ql hi hn hz
    obtain ⟨n, rfl⟩ : ∃ z, n = z + 1 := ⟨n - 1, by omega⟩
    obtain rfl : i = 5 := by omega
    rw [f_X5_goFrom_L34, it' (by decide)]
    exact ⟨qg, qp, qu, ql, rfl⟩
  | succ d ih =>
    intro n i z qg qp qu ql hi hn hz
    obtain ⟨n, rfl⟩ : ∃ z, n = z + 1 := ⟨n - 1, by omega⟩
    have hi4 : i ≤ 4 := by omega
    have hcl : (nI (spN t x)).toNatClampNeg = spN t x := nI_clamp (by omega)
    rw [f_X5_goFrom_L34, ie' (show ¬ (5 : Int32) ≤ nI i from nI_ge (b := 5) (by omega) (by omega)), e10, ed, mayM (s := s) (kd := kd) (tk := tk) (gr := gr) hc hk hx hi4, obind, nI_1, gfN]
    cases e : stN c s k kd tk gr i x with
    | none =>
      rw [it' (by decide)]
      exact ih n (i + 1) z _ _ _ _ (by omega) (by omega) hz
    | some y =>
      have hy : okP c y := stN_ok hk hx e
      rw [show (if (some y).isSome = true then (1 : Int32) else 0) = 1 from rfl, ie' (by decide), actM ok hs hx hi4 e, obind]
      have keep : ∀ t', t < t' → (comN U c t' (w + dpN i) y z).2.2 (spN t x) = nI w := by
        intro t' ht'
        by_cases q : spN t x = spN t' y
        · by_cases hy1 : y.1 = c
          · rw [comN]
            by_cases h1 : U < t'
            · rw [if_pos h1]; exact hz
            · rw [if_neg h1, if_pos hy1]; exact hz
          · have := (spN_lt (t := t') hc hy (by have := hy.1; omega)).2
            omega
        · rw [comN_keep q]; exact hz
      by_cases h4 : i = 4
      · subst h4
        rw [it' (by decide), gxN hK (by omega), ie' (by decide), hcl, hz]
        rw [show nI w + (0 : Int32) = nI (w + 0) from nI_add w 0, show nI t + (3 : Int32) = nI (t + 3) from nI_add t 3]
        rw [comM (z := z) hU hc hy (by omega) (by omega), obind]
        exact ih n 5 (comN U c (t + 3) (w + 0) y z) _ _ _ _ (by omega) (by omega) (keep (t + 3) (by omega))
      · rw [ie' (show ¬ nI i = 4 from fun q => h4 ((nI_eq (b := 4) (by omega) (by omega)).mp q)), gxN hK (by omega), hcl, hz]
        by_cases h0 : i = 0
        · subst h0
          rw [it' (by decide), show nI w + (1 : Int32) = nI (w + 1) from nI_add w 1, show nI t + (1 : Int32) = nI (t + 1) from nI_add t 1, comM (z := z) hU hc hy (by omega) (by omega), obind]
          exact ih n 1 (comN U c (t + 1) (w + 1) y z) _ _ _ _ (by omega) (by omega) (keep (t + 1) (by omega))
        · rw [ie' (show ¬ nI i = 0 from fun q => h0 ((nI_eq (b := 0) (by omega) (by omega)).mp q)), show nI w + (0 : Int32) = nI (w + 0) from nI_add w 0, show nI t + (1 : Int32) = nI (t + 1) from nI_add t 1, comM (z := z) hU hc hy (by omega) (by omega), obind]
          have k1 := keep (t + 1) (by omega)
          have e1 : dtN i = 1 := by unfold dtN; rw [if_neg h4]
          have e2 : dpN i = 0 := by unfold dpN; rw [if_neg h0]
          rw [e2] at k1
          obtain ⟨qg', qp', qu', ql', hh⟩ := ih n (i + 1) (comN U c (t + 1) (w + 0) y z) (nI y.1) (nI y.2.1) (nI y.2.2.1) (nI y.2.2.2) (by omega) (by omega) k1
          refine ⟨qg', qp', qu', ql', ?_⟩
          rw [hh]
          show _ = some (qg', qp', qu', ql', (gfN _ U c t w x d (i + 1) (comN U c (t + dtN i) (w + dpN i) y z)).1, (gfN _ U c t w x d (i + 1) (comN U c (t + dtN i) (w + dpN i) y z)).2.1, (gfN _ U c t w x d (i + 1) (comN U c (t + dtN i) (w + dpN i) y z)).2.2)
          rw [e1, e2]
theorem goFromM (ok : okF c kd tk gr) (hs : s ≤ 4) (hk : k ≤ 3) (hU : U ≤ 24) (hx : okP c x) (hf : x.1 < c) (ht : t ≤ 24) (hw : w ≤ 24) (z : Z3) (qg qp qu ql : Int32) (hz : z.2.2 (spN t x) = nI w) : ∃ qg' qp' qu' ql' : Int32, f_X5_goFrom (nI c) (nI s) (nI k) qg qp qu ql z.1 z.2.1 kd tk gr z.2.2 (nI (spN t x)) (nI U) = some (qg', qp', qu', ql', (gfN (stN c s k kd tk gr) U c t w x 5 0 z).1, (gfN (stN c s k kd tk gr) U c t w x 5 0 z).2.1, (gfN (stN c s k kd tk gr) U c t w x 5 0 z).2.2) := by
  have hc := ok.1
  have hsp := spN_lt (t := t) hc hx hf
  have hK : spN t x < 21000 := by omega
  obtain ⟨h1, h2, h3, h4⟩ := hx
  have eK : spN t x = (((t * 10 + x.1) * 7 + x.2.1) * 4 + x.2.2.1) * 3 + x.2.2.2 := rfl
  have d3 : nI (spN t x) / (3 : Int32) = nI (spN t x / 3) := pk_div (d := 3) (by omega) (by omega) (by omega)
  have r3 : nI (spN t x) - nI (spN t x / 3) * (3 : Int32) = nI (spN t x % 3) := by
    have := pk_rem (a := spN t x) (d := 3) (by omega) (by omega) (by omega)
    rw [show nI (spN t x) / nI 3 = nI (spN t x / 3) from d3] at this
    exact this
  have d4 : nI (spN t x / 3) / (4 : Int32) = nI (spN t x / 3 / 4) := pk_div (d := 4) (by omega) (by omega) (by omega)
  have r4 : nI (spN t x / 3) - nI (spN t x / 3 / 4) * (4 : Int32) = nI (spN t x / 3 % 4) := by
    have := pk_rem (a := spN t x / 3) (d := 4) (by omega) (by omega) (by omega)
    rw [show nI (spN t x / 3) / nI 4 = nI (spN t x / 3 / 4) from d4] at this
    exact this
  have d7 : nI (spN t x / 3 / 4) / (7 : Int32) = nI (spN t x / 3 / 4 / 7) := pk_div (d := 7) (by omega) (by omega) (by omega)
  have r7 : nI (spN t x / 3 / 4) - nI (spN t x / 3 / 4 / 7) * (7 : Int32) = nI (spN t x / 3 / 4 % 7) := by
    have := pk_rem (a := spN t x / 3 / 4) (d := 7) (by omega) (by omega) (by omega)
    rw [show nI (spN t x / 3 / 4) / nI 7 = nI (spN t x / 3 / 4 / 7) from d7] at this
    exact this
  rw [f_X5_goFrom, d3, r3, d4, r4, d7, r7, show spN t x % 3 = x.2.2.2 by omega, show spN t x / 3 % 4 = x.2.2.1 by omega, show spN t x / 3 / 4 % 7 = x.2.1 by omega, show spN t x / 3 / 4 / 7 = t * 10 + x.1 by omega]
  exact gfM ok hs hk hU ⟨h1, h2, h3, h4⟩ hf ht hw 5 100 0 z qg qp qu ql (by omega) (by omega) hz
end GM
def InvM (st : Nat → P4 → Option P4) (x0 : P4) (c U K : Nat) (z : Z3) : Prop := Snd st x0 c U z ∧ Rec c 0 0 x0 z ∧ ∀ (t w : Nat) (y : P4) (a : Nat) (x : P4), RK st x0 t w y → y.1 < c → spN t y < K → a ≤ 4 → st a y = some x → t + dtN a ≤ U → Rec c (t + dtN a) (w + dpN a) x z
theorem Rec.weak {c t w w' : Nat} {x : P4} {z : Z3} (h : Rec c t w x z) (hw : w ≤ w') : Rec c t w' x z := by
  refine ⟨fun q => ?_, fun q => ⟨(h.2 q).1, ?_⟩⟩
  · obtain ⟨v, h1, h2⟩ := h.1 q; exact ⟨v, by omega, h2⟩
  · obtain ⟨v, h1, h2⟩ := (h.2 q).2; exact ⟨v, by omega, h2⟩
section MI
variable {c s k : Nat} {kd tk gr : Nat → Int32} {x0 : P4} {U : Nat}
theorem stN_lt {a : Nat} {y x : P4} (h : stN c s k kd tk gr a y = some x) : y.1 < c := by
  unfold stN at h
  by_cases q : c ≤ y.1
  · rw [if_pos q] at h; cases h
  · omega
theorem rkOk (hk : k ≤ 3) (h0 : okP c x0) {t w : Nat} {x : P4} (h : RK (stN c s k kd tk gr) x0 t w x) : okP c x := h.ok h0 (fun a y x hy e => stN_ok hk hy e)
/-- what can be come to at a place is written down when the place's turn has come -/
theorem InvM.known (hc : c ≤ 10) (hk : k ≤ 3) (h0 : okP c x0) {K : Nat} {z : Z3} (h : InvM (stN c s k kd tk gr) x0 c U K z) {t w : Nat} {x : P4} (hr : RK (stN c s k kd tk gr) x0 t w x) (ht : t ≤ U) (hK : 840 * t ≤ K) : Rec c t w x z := by
  rcases hr.inv with ⟨rfl, rfl, rfl⟩ | ⟨a, y, t', w', ha, hy, e, rfl, rfl⟩
  · exact h.2.1
  · have hyc := stN_lt e
    have := (spN_lt (t := t') hc (rkOk hk h0 hy) hyc).1
    have := dt_pos a
    exact h.2.2 t' w' y a x hy hyc (by omega) ha e ht
theorem InvM.step0 (hU : U ≤ 24) (hc : c ≤ 10) (hk : k ≤ 3) (h0 : okP c x0) {K : Nat} {z : Z3} (hK : K < 840 * U) (h : InvM (stN c s k kd tk gr) x0 c U K z) (hz : z.2.2 K = -9) : InvM (stN c s k kd tk gr) x0 c U (K + 1) z := by
  refine ⟨h.1, h.2.1, fun t w y a x hy hyc hsp ha e hu => ?_⟩
  by_cases q : spN t y < K
  · exact h.2.2 t w y a x hy hyc q ha e hu
  · have q2 : spN t y = K := by omega
    have hb := spN_lt (t := t) hc (rkOk hk h0 hy) hyc
    have := dt_pos a
    obtain ⟨v, hv, e2⟩ := (h.known hc hk h0 hy (by omega) (by omega)).1 hyc
    rw [q2, hz] at e2
    have := hy.w
    exact absurd e2.symm (nI_m9 (by omega))
theorem InvM.step1 (ok : okF c kd tk gr) (hk : k ≤ 3) (h0 : okP c x0) (hU : U ≤ 24) {t w : Nat} {x : P4} {z : Z3} (hx : RK (stN c s k kd tk gr) x0 t w x) (hxc : x.1 < c) (ht : t ≤ U) (h : InvM (stN c s k kd tk gr) x0 c U (spN t x) z) (hz : z.2.2 (spN t x) = nI w) : InvM (stN c s k kd tk gr) x0 c U (spN t x + 1) (gfN (stN c s k kd tk gr) U c t w x 5 0 z) := by
  have hc := ok.1
  have hxo := rkOk hk h0 hx
  have hw := hx.w
  have hb := spN_lt (t := t) hc hxo hxc
  have hst : ∀ a y, stN c s k kd tk gr a x = some y → okP c y := fun a y e => stN_ok hk hxo e
  refine ⟨gfN_snd hst hx 5 0 z (by omega) h.1, gfN_mono (by omega) (by omega) (by omega) (by omega) 5 0 z h.2.1, fun t2 w2 y a x2 hy hyc hsp ha e hu => ?_⟩
  have hyw := hy.w
  have := dp_le a
  have := dt_le a
  by_cases q : spN t2 y < spN t x
  · exact gfN_mono (by omega) (by omega) (by omega) (by omega) 5 0 z (h.2.2 t2 w2 y a x2 hy hyc q ha e hu)
  · obtain ⟨rfl, rfl⟩ := spN_inj hc (rkOk hk h0 hy) hyc hxo hxc (by omega : spN t2 y = spN t x)
    obtain ⟨v, hv, e2⟩ := (h.known hc hk h0 hy (by omega) (by omega)).1 hyc
    rw [hz] at e2
    have e3 : w = v := (nI_eq (by omega) (by omega)).mp e2
    exact (gfN_rec hU hc (by omega) (by omega) hst hx 5 0 z (by omega) h.1 a x2 (by omega) (by omega) e hu).weak (by omega)
theorem searchL (ok : okF c kd tk gr) (hs : s ≤ 4) (hk : k ≤ 3) (h0 : okP c x0) (hU : U ≤ 24) (qe qb qw : Int32) : ∀ (d n K : Nat) (z : Z3) (qg qp qu ql : Int32), K + d = 840 * U → d < n → InvM (stN c s k kd tk gr) x0 c U K z → ∃ (qg' qp' qu' ql' : Int32) (z' : Z3), f_X5_search_L48 (nI c) (nI s) (nI k) kd tk gr (nI U) (fun qg qp qu ql qe qb qw qi qj vf => some (qg, qp, qu, ql, qe, qb, qw, qi, qj, vf)) n (nI K) qg qp qu ql qe qb qw z.1 z.2.1 z.2.2 = some (qg', qp', qu', ql', qe, qb, qw, z'.1, z'.2.1, z'.2.2) ∧ InvM (stN c s k kd tk gr) x0 c U (840 * U) z' := by
  have hc := ok.1
  have eU : (840 : Int32) * nI U = nI (840 * U) := pk_mul 840 U
  intro d
  induction d with
  | zero =>
    intro n K z qg qp qu ql hd hn h
    obtain ⟨n, rfl⟩ : ∃ z, n = z + 1 := ⟨n - 1, by omega⟩
    obtain rfl : K = 840 * U := by omega
    rw [f_X5_search_L48, eU, it' (nI_le (Nat.le_refl _) (by omega))]
    exact ⟨qg, qp, qu, ql, z, rfl, h⟩
  | succ d ih =>
    intro n K z qg qp qu ql hd hn h
    obtain ⟨n, rfl⟩ : ∃ z, n = z + 1 := ⟨n - 1, by omega⟩
    have hcl : (nI K).toNatClampNeg = K := nI_clamp (by omega)
    rw [f_X5_search_L48, eU, ie' (nI_ge (by omega) (by omega)), gxN (by omega) (by omega), hcl, nI_1]
    by_cases q : z.2.2 K = -9
    · rw [it' q]
      exact ih n (K + 1) z qg qp qu ql (by omega) (by omega) (h.step0 hU hc hk h0 (by omega) q)
    · rw [ie' q]
      rcases h.1.1 K (by omega) with q2 | ⟨t, w, x, rfl, ht, hx, hxc, hz⟩
      · exact absurd q2 q
      · have hw := hx.w
        obtain ⟨qg1, qp1, qu1, ql1, e⟩ := goFromM (U := U) ok hs hk hU (rkOk hk h0 hx) hxc (by omega) (by omega) z qg qp qu ql hz
        rw [e, obind]
        exact ih n (spN t x + 1) (gfN (stN c s k kd tk gr) U c t w x 5 0 z) qg1 qp1 qu1 ql1 (by omega) (by omega) (h.step1 ok hk h0 hU hx hxc ht hz)
/-- behind the last place -/
theorem InvM.fin (hc : c ≤ 10) (hk : k ≤ 3) (h0 : okP c x0) (hx0 : x0.1 < c) (hU : U ≤ 24) {z : Z3} (h : InvM (stN c s k kd tk gr) x0 c U (840 * U) z) : isB (stN c s k kd tk gr) x0 c U (fun t _ => t) z.1 ∧ isB (stN c s k kd tk gr) x0 c U (fun _ w => w) z.2.1 := by
  have key : ∀ t w x, RK (stN c s k kd tk gr) x0 t w x → c ≤ x.1 → t ≤ U → (∃ v, v ≤ t ∧ z.1 = nI v) ∧ ∃ v, v ≤ w ∧ z.2.1 = nI v := fun t w x hr hx ht => (h.known hc hk h0 hr ht (by omega)).2 hx
  refine ⟨?_, ?_⟩
  · rcases h.1.2.1 with e | ⟨t, w, x, hr, hx, ht, e⟩
    · refine Or.inl ⟨e, fun t w x hr hx ht => ?_⟩
      obtain ⟨⟨v, hv, e2⟩, -⟩ := key t w x hr hx ht
      rw [e] at e2
      exact nI_m9 (by omega) e2.symm
    · refine Or.inr ⟨t, e, by omega, ⟨t, w, x, hr, hx, ht, rfl⟩, fun t2 w2 x2 hr2 hx2 ht2 => ?_⟩
      obtain ⟨⟨v, hv, e2⟩, -⟩ := key t2 w2 x2 hr2 hx2 ht2
      rw [e] at e2
      have := (nI_eq (by omega) (by omega)).mp e2
      show t ≤ t2
      omega
  · rcases h.1.2.2 with e | ⟨t, w, x, hr, hx, ht, e⟩
    · refine Or.inl ⟨e, fun t w x hr hx ht => ?_⟩
      obtain ⟨-, v, hv, e2⟩ := key t w x hr hx ht
      have := hr.w
      rw [e] at e2
      exact nI_m9 (by omega) e2.symm
    · have hw := hr.w
      refine Or.inr ⟨w, e, by omega, ⟨t, w, x, hr, hx, ht, rfl⟩, fun t2 w2 x2 hr2 hx2 ht2 => ?_⟩
      obtain ⟨-, v, hv, e2⟩ := key t2 w2 x2 hr2 hx2 ht2
      have := hr2.w
      rw [e] at e2
      have := (nI_eq (by omega) (by omega)).mp e2
      show w ≤ w2
      omega
end MI
theorem mfill {α : Type} (kf : Int32 → Int32 → Int32 → Int32 → Int32 → Int32 → Int32 → Int32 → Int32 → (Nat → Int32) → Option α) : True := trivial
theorem searchFill (kf : Int32 → Int32 → Int32 → Int32 → Int32 → Int32 → Int32 → Int32 → Int32 → (Nat → Int32) → Option (Int32 × Int32 × Int32 × Int32 × Int32 × Int32 × Int32 × Int32 × Int32 × (Nat → Int32))) (qg qp qu ql qe qb qw qi qj : Int32) : ∀ (d n i : Nat) (vf : Nat → Int32), i + d = 21000 → d < n → f_X5_search_L2 kf n (nI i) qg qp qu ql qe qb qw qi qj vf = kf qg qp qu ql qe qb qw qi qj (fun j => if i ≤ j ∧ j < 21000 then -9 else vf j) := by
  intro d
  induction d with
  | zero =>
    intro n i vf hi hn
    obtain ⟨n, rfl⟩ : ∃ z, n = z + 1 := ⟨n - 1, by omega⟩
    obtain rfl : i = 21000 := by omega
    rw [f_X5_search_L2, it' (by decide)]
    congr 1
    funext j
    rw [if_neg (by omega)]
  | succ d ih =>
    intro n i vf hi hn
    obtain ⟨n, rfl⟩ : ∃ z, n = z + 1 := ⟨n - 1, by omega⟩
    have hcl : (nI i).toNatClampNeg = i := nI_clamp (by omega)
    rw [f_X5_search_L2, ie' (show ¬ (21000 : Int32) ≤ nI i from nI_ge (b := 21000) (by omega) (by omega)), gxN (by omega) (by omega), hcl, nI_1, ih n (i + 1) _ (by omega) (by omega)]
    congr 1
    funext j
    by_cases h1 : i + 1 ≤ j ∧ j < 21000
    · rw [if_pos h1, if_pos (by omega)]
    · rw [if_neg h1]
      by_cases h2 : j = i
      · subst h2
        rw [pk_us, if_pos (by omega)]
      · rw [pk_un h2, if_neg (by omega)]
/-- the reference's search, whole -/
theorem searchM {c s k b U : Nat} {kd tk gr : Nat → Int32} (ok : okF c kd tk gr) (hs : s ≤ 4) (hk : k ≤ 3) (hb : b ≤ 2) (hc0 : 0 < c) (hU : U ≤ 24) (qg qp qu ql qe qb qw qi qj : Int32) (vf : Nat → Int32) : ∃ (a1 a2 a3 a4 a5 a6 a7 ri rj : Int32) (vf' : Nat → Int32), f_X5_search (nI c) (nI s) (nI k) (nI b) qg qp qu ql qe qb qw qi qj kd tk gr vf (nI U) = some (a1, a2, a3, a4, a5, a6, a7, ri, rj, vf') ∧ isB (stN c s k kd tk gr) (0, 0, 0, b) c U (fun t _ => t) ri ∧ isB (stN c s k kd tk gr) (0, 0, 0, b) c U (fun _ w => w) rj := by
  have hc := ok.1
  have h0 : okP c (0, 0, 0, b) := ⟨Nat.zero_le _, Nat.zero_le _, Nat.zero_le _, hb⟩
  have z0S : Snd (stN c s k kd tk gr) (0, 0, 0, b) c U (-9, -9, fun j => if 0 ≤ j ∧ j < 21000 then -9 else vf j) := ⟨fun k hk => Or.inl (if_pos ⟨Nat.zero_le k, hk⟩), Or.inl rfl, Or.inl rfl⟩
  have z1I : InvM (stN c s k kd tk gr) (0, 0, 0, b) c U 0 (comN U c 0 0 (0, 0, 0, b) (-9, -9, fun j => if 0 ≤ j ∧ j < 21000 then -9 else vf j)) := ⟨comN_snd z0S h0 RK.zero, comN_rec hU hc h0 z0S (by omega) (by omega), fun t w y a x _ _ h => by omega⟩
  obtain ⟨a1, a2, a3, a4, z', e, hI⟩ := searchL ok hs hk h0 hU (0 : Int32) (0 : Int32) (0 : Int32) (840 * U) 100000 0 _ (nI 0) (nI 0) (nI 0) (nI b) (by omega) (by omega) z1I
  obtain ⟨f1, f2⟩ := hI.fin hc hk h0 hc0 hU
  refine ⟨a1, a2, a3, a4, 0, 0, 0, z'.1, z'.2.1, z'.2.2, ?_, f1, f2⟩
  rw [f_X5_search]
  refine (searchFill _ qg qp qu ql qe qb qw qi qj 21000 100000 0 vf (by omega) (by omega)).trans ?_
  rw [f_X5_begin, obind]
  have := comM (U := U) (c := c) (t := 0) (w := 0) (x := (0, 0, 0, b)) (z := (-9, -9, fun j => if 0 ≤ j ∧ j < 21000 then -9 else vf j)) hU hc h0 (by omega) (by omega)
  refine (congrArg (fun o => Option.bind o _) this).trans ?_
  rw [obind]
  exact e
