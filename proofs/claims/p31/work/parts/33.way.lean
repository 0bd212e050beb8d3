/-! the class's sheets and its ride, at what the law asks -/
theorem iS0 : f_X4_isSheet (0 : Int32) = some 1 := by decide +kernel
theorem iS1 : f_X4_isSheet (1 : Int32) = some 1 := by decide +kernel
theorem iS2 : f_X4_isSheet (2 : Int32) = some 1 := by decide +kernel
theorem iS4 : f_X4_isSheet (4 : Int32) = some 0 := by decide +kernel
theorem iL0 : f_X4_isLane (0 : Int32) = some 1 := by decide +kernel
theorem iL1 : f_X4_isLane (1 : Int32) = some 1 := by decide +kernel
theorem iL2 : f_X4_isLane (2 : Int32) = some 1 := by decide +kernel
theorem iL3 : f_X4_isLane (3 : Int32) = some 0 := by decide +kernel
theorem g4_0 {α : Type} (k : Option α) : gx (0 : Int32) 4 k = k := gxi (by decide)
theorem g4_1 {α : Type} (k : Option α) : gx (1 : Int32) 4 k = k := gxi (by decide)
theorem g4_2 {α : Type} (k : Option α) : gx (2 : Int32) 4 k = k := gxi (by decide)
theorem newL (ce : Nat → Int32) (zl : Int32) {n : Nat} (h0 : 0 < n) (hn : n ≤ 60) : f_X1_becomeNew ce zl (nI n) = some (1, zl, nI n, fun j => if j < 60 then 0 else ce j) := by
  rw [f_X1_becomeNew, fillEq _ _ _ (by omega), obind, ie' (show ¬ (60 : Int32) < nI n from nI_nlt (a := 60) hn (by omega)), it' (show (0 : Int32) < nI n from nI_lt (a := 0) h0 (by omega))]
theorem sheetL0 (th ln le : Int32) (ce : Nat → Int32) : f_X4_sheet th ln le ce 0 0 60 0 = some (1, 0, 1, 0, nI 60, fun j => if j < 60 then 0 else ce j) := by
  rw [f_X4_sheet, iS0, obind, ie' n10, iL0, obind, ie' n10, it' (by decide), it' (by decide), g4_0, gdi cl_0, show f_X1_becomeNew ce 0 (60 : Int32) = some (1, 0, nI 60, fun j => if j < 60 then 0 else ce j) from newL (n := 60) ce 0 (by omega) (by omega), obind]
theorem sheetL1 (th ln le : Int32) (ce : Nat → Int32) : f_X4_sheet th ln le ce 1 0 27 1 = some (1, 0, 1, 0, nI 27, fun j => if j < 60 then 0 else ce j) := by
  rw [f_X4_sheet, iS1, obind, ie' n10, iL0, obind, ie' n10, it' (by decide), it' (by decide), g4_1, gdi cl_1, show f_X1_becomeNew ce 0 (27 : Int32) = some (1, 0, nI 27, fun j => if j < 60 then 0 else ce j) from newL (n := 27) ce 0 (by omega) (by omega), obind]
theorem holdsL {n i m : Nat} (hn : n ≤ 60) (h : i + m ≤ n) : f_X1_holds (nI n) (nI i) (nI m) = some 1 := by
  rw [f_X1_holds, ie' (nI_pos (by omega)), ie' (nI_pos (by omega)), ie' (nI_nlt (by omega) (by omega)), nI_sub (by omega), ie' (nI_nlt (by omega) (by omega))]
theorem keepL {n i : Nat} (hn : n ≤ 60) (h : i < n) (ce : Nat → Int32) (v : Int32) : f_X1_keep 0 (nI n) ce (nI i) v = some (upd ce i v.toInt8.toInt32) := by
  rw [f_X1_keep, ie' (nI_pos (by omega)), ie' (nI_ge h (by omega)), f_X1_cut, it' z00, obind, gxN (by omega) (by omega), nI_clamp (by omega)]
theorem putL0 {n i : Nat} (hn : n ≤ 60) (h : i < n) (ce : Nat → Int32) (v : Int32) : f_X4_put 1 0 (nI n) ce 0 (nI i) v 0 = some (1, 0, upd ce i v.toInt8.toInt32) := by
  have e : f_X1_holds (nI n) (nI i) (1 : Int32) = some 1 := holdsL hn (m := 1) (by omega)
  rw [f_X4_put, iS0, obind, ie' n10, g4_0, gdi cl_0, ie' n10, e, obind, ie' n10, keepL hn h, obind]
theorem putL1 {n i : Nat} (hn : n ≤ 60) (h : i < n) (ce : Nat → Int32) (v : Int32) : f_X4_put 1 0 (nI n) ce 1 (nI i) v 1 = some (1, 0, upd ce i v.toInt8.toInt32) := by
  have e : f_X1_holds (nI n) (nI i) (1 : Int32) = some 1 := holdsL hn (m := 1) (by omega)
  rw [f_X4_put, iS1, obind, ie' n10, g4_1, gdi cl_1, ie' n10, e, obind, ie' n10, keepL hn h, obind]
theorem i8 : ∀ x, x < 128 → (nI x).toInt8.toInt32 = nI x := by decide +kernel
theorem atL {n i : Nat} (hn : n ≤ 60) (h : i < n) (ce : Nat → Int32) : f_X1_at (nI n) ce (nI i) = some (ce i) := by
  rw [f_X1_at, ie' (nI_pos (by omega)), ie' (nI_ge h (by omega)), gxN (by omega) (by omega), nI_clamp (by omega)]
/-! a way, act by act -/
def okA (ce : Nat → Int32) (m : Nat) : Prop := ∀ j, j < m → ∃ a, a ≤ 4 ∧ ce (2 + j) = nI a
abbrev ZR : Type := P4 × Int32 × Int32 × Int32
def stZ (c s k : Nat) (kd tk gr : Nat → Int32) (a : Nat) (z : ZR) : Option ZR :=
  match stN c s k kd tk gr a z.1 with
  | none => none
  | some y => some (y, (if a = 1 then 1 - z.2.1 else z.2.1), z.2.2.1 + nI (dtN a), (if a = 0 then z.2.2.2 + 1 else z.2.2.2))
def rdN (c s k b : Nat) (kd tk gr ce : Nat → Int32) : Nat → Option ZR
  | 0 => some ((0, 0, 0, b), 0, 0, 0)
  | j + 1 => match rdN c s k b kd tk gr ce j with
    | none => none
    | some z => stZ c s k kd tk gr (ce (2 + j)).toNatClampNeg z
section Wa
variable {c s k b : Nat} {kd tk gr ce : Nat → Int32}
theorem rd_s {j : Nat} {z : ZR} (h : rdN c s k b kd tk gr ce j = some z) : rdN c s k b kd tk gr ce (j + 1) = stZ c s k kd tk gr (ce (2 + j)).toNatClampNeg z := by rw [rdN, h]
theorem stZ_n {a : Nat} {z : ZR} (h : stN c s k kd tk gr a z.1 = none) : stZ c s k kd tk gr a z = none := by unfold stZ; rw [h]
theorem stZ_y {a : Nat} {z : ZR} {y : P4} (h : stN c s k kd tk gr a z.1 = some y) : stZ c s k kd tk gr a z = some (y, (if a = 1 then 1 - z.2.1 else z.2.1), z.2.2.1 + nI (dtN a), (if a = 0 then z.2.2.2 + 1 else z.2.2.2)) := by unfold stZ; rw [h]
theorem rd_none {j : Nat} (h : rdN c s k b kd tk gr ce j = none) : ∀ d, rdN c s k b kd tk gr ce (j + d) = none
  | 0 => h
  | d + 1 => by
    show rdN c s k b kd tk gr ce (j + d + 1) = none
    rw [rdN, rd_none h d]
theorem rd_cg {ce' : Nat → Int32} : ∀ j, (∀ i, i < j → ce (2 + i) = ce' (2 + i)) → rdN c s k b kd tk gr ce j = rdN c s k b kd tk gr ce' j
  | 0, _ => rfl
  | j + 1, h => by
    rw [rdN, rdN, rd_cg j (fun i hi => h i (by omega)), h j (by omega)]
theorem rd_ok (r : RD c s k b kd tk gr) : ∀ (j : Nat) (z : ZR), rdN c s k b kd tk gr ce j = some z → okP c z.1 ∧ z.1.2.2.1 ≤ k
  | 0, z, h => by
    cases h
    exact ⟨⟨Nat.zero_le _, Nat.zero_le _, Nat.zero_le _, r.1.2.2.2.2.2⟩, Nat.zero_le _⟩
  | j + 1, z, h => by
    cases e : rdN c s k b kd tk gr ce j with
    | none => rw [rdN, e] at h; cases h
    | some y =>
      obtain ⟨i1, i2⟩ := rd_ok r j y e
      rw [rd_s e] at h
      cases e2 : stN c s k kd tk gr (ce (2 + j)).toNatClampNeg y.1 with
      | none => rw [stZ_n e2] at h; cases h
      | some x =>
        rw [stZ_y e2] at h
        cases h
        exact ⟨stN_ok r.1.2.2.2.2.1 i1 e2, stN_t i2 e2⟩
theorem areL {n m : Nat} (hn : n ≤ 60) (hm : 2 + m ≤ n) (hA : okA ce m) (k27 k35 : Option Int32) : ∀ (d N p : Nat), p + d = m → d < N → f_X4_areActs_L2 (nI n) ce (nI 2) (nI m) k27 k35 N (nI p) = k35 := by
  intro d
  induction d with
  | zero =>
    intro N p hp hN
    obtain ⟨N, rfl⟩ : ∃ t, N = t + 1 := ⟨N - 1, by omega⟩
    rw [f_X4_areActs_L2, it' (nI_le (by omega) (by omega))]
  | succ d ih =>
    intro N p hp hN
    obtain ⟨N, rfl⟩ : ∃ t, N = t + 1 := ⟨N - 1, by omega⟩
    obtain ⟨a, ha, e⟩ := hA p (by omega)
    rw [f_X4_areActs_L2, ie' (nI_ge (by omega) (by omega)), nI_add, atL hn (by omega), obind, e, ie' (nI_pos (by omega)), it' (show nI a < (5 : Int32) from nI_lt (b := 5) (by omega) (by omega)), nI_1]
    exact ih N (p + 1) (by omega) (by omega)
abbrev R8 : Type := Int32 × Int32 × Int32 × Int32 × Int32 × Int32 × Int32 × Int32
def zR (r : Int32) (z : ZR) : R8 := (r, nI z.1.1, nI z.1.2.1, z.2.1, nI z.1.2.2.1, nI z.1.2.2.2, z.2.2.1, z.2.2.2)
theorem rideL {n m : Nat} (hn : n ≤ 60) (hm : 2 + m ≤ n) (r : RD c s k b kd tk gr) (hA : okA ce m) : ∀ (d N p : Nat) (z : ZR), p + d = m → d < N → rdN c s k b kd tk gr ce p = some z →
    (∃ z', rdN c s k b kd tk gr ce m = some z' ∧ f_X4_ride_L14 (nI c) (nI s) (nI k) (nI n) kd tk gr ce (nI 2) (nI m) (fun (x4 : Int32) (flx : Int32) (pcx : Int32) (ftx : Int32) (tix : Int32) (sox : Int32) (sex : Int32) (pux : Int32) => some (x4, flx, pcx, ftx, tix, sox, sex, pux)) (fun (flx : Int32) (pcx : Int32) (ftx : Int32) (tix : Int32) (sox : Int32) (sex : Int32) (pux : Int32) => some ((-9 : Int32), flx, pcx, ftx, tix, sox, sex, pux)) N (nI p) (nI z.1.1) (nI z.1.2.1) z.2.1 (nI z.1.2.2.1) (nI z.1.2.2.2) z.2.2.1 z.2.2.2 = some (zR (-9) z')) ∨
    (∃ q z', q < m ∧ rdN c s k b kd tk gr ce q = some z' ∧ rdN c s k b kd tk gr ce (q + 1) = none ∧ f_X4_ride_L14 (nI c) (nI s) (nI k) (nI n) kd tk gr ce (nI 2) (nI m) (fun (x4 : Int32) (flx : Int32) (pcx : Int32) (ftx : Int32) (tix : Int32) (sox : Int32) (sex : Int32) (pux : Int32) => some (x4, flx, pcx, ftx, tix, sox, sex, pux)) (fun (flx : Int32) (pcx : Int32) (ftx : Int32) (tix : Int32) (sox : Int32) (sex : Int32) (pux : Int32) => some ((-9 : Int32), flx, pcx, ftx, tix, sox, sex, pux)) N (nI p) (nI z.1.1) (nI z.1.2.1) z.2.1 (nI z.1.2.2.1) (nI z.1.2.2.2) z.2.2.1 z.2.2.2 = some (zR (nI q) z')) := by
  have hc := r.2.1
  intro d
  induction d with
  | zero =>
    intro N p z hp hN hz
    obtain ⟨N, rfl⟩ : ∃ t, N = t + 1 := ⟨N - 1, by omega⟩
    obtain rfl : p = m := by omega
    refine Or.inl ⟨z, hz, ?_⟩
    rw [f_X4_ride_L14, it' (nI_le (Nat.le_refl p) (by omega))]
    rfl
  | succ d ih =>
    intro N p z hp hN hz
    obtain ⟨N, rfl⟩ : ∃ t, N = t + 1 := ⟨N - 1, by omega⟩
    obtain ⟨a, ha, eT⟩ := hA p (by omega)
    obtain ⟨hx, -⟩ := rd_ok r p z hz
    have eX := canX (s := s) (kd := kd) (tk := tk) (gr := gr) hc r.1.2.2.2.2.1 hx ha
    have eA : (ce (2 + p)).toNatClampNeg = a := by rw [eT]; exact nI_clamp (by omega)
    have hs := rd_s hz
    rw [eA] at hs
    have uX : ∀ K1 K2, f_X4_ride_L14 (nI c) (nI s) (nI k) (nI n) kd tk gr ce (nI 2) (nI m) K1 K2 (N + 1) (nI p) (nI z.1.1) (nI z.1.2.1) z.2.1 (nI z.1.2.2.1) (nI z.1.2.2.2) z.2.2.1 z.2.2.2 = if (if (stN c s k kd tk gr a z.1).isSome then (1 : Int32) else 0) = 0 then K1 (nI p) (nI z.1.1) (nI z.1.2.1) z.2.1 (nI z.1.2.2.1) (nI z.1.2.2.2) z.2.2.1 z.2.2.2 else (f_X0_goBy (nI z.1.1) (nI z.1.2.1) z.2.1 (nI z.1.2.2.1) (nI z.1.2.2.2) z.2.2.1 z.2.2.2 (nI c) (nI s) kd tk gr (nI a)).bind (fun o9 => f_X4_ride_L14 (nI c) (nI s) (nI k) (nI n) kd tk gr ce (nI 2) (nI m) K1 K2 N (nI (p + 1)) o9.1 o9.2.1 o9.2.2.1 o9.2.2.2.1 o9.2.2.2.2.1 o9.2.2.2.2.2.1 o9.2.2.2.2.2.2) := by
      intro K1 K2
      rw [f_X4_ride_L14, ie' (nI_ge (by omega) (by omega)), nI_add, atL hn (by omega), obind, eT, eX, obind, nI_1]
    cases hst : stN c s k kd tk gr a z.1 with
    | none =>
      refine Or.inr ⟨p, z, by omega, hz, hs.trans (stZ_n hst), ?_⟩
      rw [uX, hst]
      rfl
    | some y =>
      have gX := goByX r.2 r.1.2.2.1 hx ha hst z.2.1 z.2.2.1 z.2.2.2
      have hs2 := hs.trans (stZ_y hst)
      have e : ∀ K1 K2, f_X4_ride_L14 (nI c) (nI s) (nI k) (nI n) kd tk gr ce (nI 2) (nI m) K1 K2 (N + 1) (nI p) (nI z.1.1) (nI z.1.2.1) z.2.1 (nI z.1.2.2.1) (nI z.1.2.2.2) z.2.2.1 z.2.2.2 = f_X4_ride_L14 (nI c) (nI s) (nI k) (nI n) kd tk gr ce (nI 2) (nI m) K1 K2 N (nI (p + 1)) (nI y.1) (nI y.2.1) (if a = 1 then 1 - z.2.1 else z.2.1) (nI y.2.2.1) (nI y.2.2.2) (z.2.2.1 + nI (dtN a)) (if a = 0 then z.2.2.2 + 1 else z.2.2.2) := by
        intro K1 K2
        rw [uX, hst, gX]
        rfl
      rcases ih N (p + 1) _ (by omega) (by omega) hs2 with ⟨z', i1, i2⟩ | ⟨q, z', i1, i2, i3, i4⟩
      · exact Or.inl ⟨z', i1, by rw [e]; exact i2⟩
      · exact Or.inr ⟨q, z', i1, i2, i3, by rw [e]; exact i4⟩
/-- what a way tells that can be gone -/
def tellZ (z : ZR) (v : Nat) : Int32 := if v = 0 then z.2.2.1 else if v = 1 then -9 else if v = 2 then nI z.1.1 else if v = 3 then nI z.1.2.1 else if v = 4 then z.2.1 else if v = 5 then nI z.1.2.2.1 else if v = 6 then nI z.1.2.2.2 else z.2.2.2
theorem v8 {v : Nat} (h : v ≤ 7) : v = 0 ∨ v = 1 ∨ v = 2 ∨ v = 3 ∨ v = 4 ∨ v = 5 ∨ v = 6 ∨ v = 7 := by omega
theorem wayL {m v : Nat} (hm : m ≤ 24) (hv : v ≤ 7) (r : RD c s k b kd tk gr) (hA : okA ce m) (f1 f2 f3 f4 f5 f6 f7 : Int32) : ∃ o, f_X4_way f1 f2 f3 f4 f5 f6 f7 (nI c) (nI s) (nI k) (nI b) 1 0 (nI 27) kd tk gr ce 1 0 2 (nI m) (nI v) 1 = some o ∧ (∀ z, rdN c s k b kd tk gr ce m = some z → o.1 = tellZ z v) ∧ (∀ q, q < m → rdN c s k b kd tk gr ce q ≠ none → rdN c s k b kd tk gr ce (q + 1) = none → o.1 = if v = 1 then nI q else -100 - nI q) := by
  have hc := r.2.1
  have e1 : f_X1_isUnlike 1 0 0 = some 0 := by decide +kernel
  have e2 : f_X1_holds (nI 27) (2 : Int32) (nI m) = some 1 := holdsL (i := 2) (by omega) (by omega)
  have e3 : f_X4_areActs (nI 27) ce (2 : Int32) (nI m) = some 1 := areL (n := 27) (by omega) (by omega) hA (some 0) (some 1) m 100 0 (by omega) (by omega)
  have eW : ∀ R : R8, f_X4_ride f1 f2 f3 f4 f5 f6 f7 (nI c) (nI s) (nI k) (nI b) (nI 27) kd tk gr ce (2 : Int32) (nI m) = some R → f_X4_way f1 f2 f3 f4 f5 f6 f7 (nI c) (nI s) (nI k) (nI b) 1 0 (nI 27) kd tk gr ce 1 0 2 (nI m) (nI v) 1 = if nI v = (1 : Int32) then some (R.1, 0, R.2.1, R.2.2.1, R.2.2.2.1, R.2.2.2.2.1, R.2.2.2.2.2.1, R.2.2.2.2.2.2.1, R.2.2.2.2.2.2.2) else if R.1 = (-9 : Int32) then (f_X4_riderTells R.2.1 R.2.2.1 R.2.2.2.1 R.2.2.2.2.1 R.2.2.2.2.2.1 R.2.2.2.2.2.2.1 R.2.2.2.2.2.2.2 (nI v)).bind (fun o30 => some (o30, 0, R.2.1, R.2.2.1, R.2.2.2.1, R.2.2.2.2.1, R.2.2.2.2.2.1, R.2.2.2.2.2.2.1, R.2.2.2.2.2.2.2)) else some (-100 - R.1, 0, R.2.1, R.2.2.1, R.2.2.2.1, R.2.2.2.2.1, R.2.2.2.2.2.1, R.2.2.2.2.2.2.1, R.2.2.2.2.2.2.2) := by
    intro R hR
    rw [f_X4_way, iS1, obind, ie' n10, iL0, obind, ie' n10, ie' (nI_pos (by omega)), ie' (show ¬ (24 : Int32) < nI m from nI_nlt (a := 24) hm (by omega)), ie' (nI_pos (by omega)), it' (show nI v ≤ (7 : Int32) from nI_le (b := 7) hv (by omega)), g4_1, gdi cl_1, e1, obind, it' z00, ie' n10, e2, obind, ie' n10, noL r.1.1 hc, obind, it' z00, e3, obind, ie' n10, hR, obind]
  have hR : ∀ R : R8, f_X4_ride_L14 (nI c) (nI s) (nI k) (nI 27) kd tk gr ce (nI 2) (nI m) (fun (x4 : Int32) (flx : Int32) (pcx : Int32) (ftx : Int32) (tix : Int32) (sox : Int32) (sex : Int32) (pux : Int32) => some (x4, flx, pcx, ftx, tix, sox, sex, pux)) (fun (flx : Int32) (pcx : Int32) (ftx : Int32) (tix : Int32) (sox : Int32) (sex : Int32) (pux : Int32) => some ((-9 : Int32), flx, pcx, ftx, tix, sox, sex, pux)) 100 (nI 0) (nI 0) (nI 0) 0 (nI 0) (nI b) 0 0 = some R → f_X4_ride f1 f2 f3 f4 f5 f6 f7 (nI c) (nI s) (nI k) (nI b) (nI 27) kd tk gr ce (2 : Int32) (nI m) = some R := by
    intro R h
    rw [f_X4_ride, f_X0_begin, obind]
    exact h
  have h0 : rdN c s k b kd tk gr ce 0 = some ((0, 0, 0, b), 0, 0, 0) := rfl
  rcases rideL (n := 27) (by omega) (by omega) r hA m 100 0 _ (by omega) (by omega) h0 with ⟨z', i1, i2⟩ | ⟨q, z', i1, i2, i3, i4⟩
  · have no : ∀ q, q < m → rdN c s k b kd tk gr ce (q + 1) = none → False := by
      intro q hq h
      have := rd_none h (m - (q + 1))
      rw [show q + 1 + (m - (q + 1)) = m by omega, i1] at this
      cases this
    have fin : ∀ o, f_X4_way f1 f2 f3 f4 f5 f6 f7 (nI c) (nI s) (nI k) (nI b) 1 0 (nI 27) kd tk gr ce 1 0 2 (nI m) (nI v) 1 = some o → o.1 = tellZ z' v → ∃ o, f_X4_way f1 f2 f3 f4 f5 f6 f7 (nI c) (nI s) (nI k) (nI b) 1 0 (nI 27) kd tk gr ce 1 0 2 (nI m) (nI v) 1 = some o ∧ (∀ z, rdN c s k b kd tk gr ce m = some z → o.1 = tellZ z v) ∧ (∀ q, q < m → rdN c s k b kd tk gr ce q ≠ none → rdN c s k b kd tk gr ce (q + 1) = none → o.1 = if v = 1 then nI q else -100 - nI q) := by
      intro o ho h1
      refine ⟨o, ho, fun z hz => ?_, fun q hq _ hn => absurd hn (fun h => no q hq h)⟩
      rw [i1] at hz
      cases hz
      exact h1
    have e := eW _ (hR _ i2)
    rcases v8 hv with rfl | rfl | rfl | rfl | rfl | rfl | rfl | rfl
    · exact fin _ (e.trans rfl) rfl
    · exact fin _ (e.trans rfl) rfl
    · exact fin _ (e.trans rfl) rfl
    · exact fin _ (e.trans rfl) rfl
    · exact fin _ (e.trans rfl) rfl
    · exact fin _ (e.trans rfl) rfl
    · exact fin _ (e.trans rfl) rfl
    · exact fin _ (e.trans rfl) rfl
  · have uq : ∀ p, p < m → rdN c s k b kd tk gr ce p ≠ none → rdN c s k b kd tk gr ce (p + 1) = none → p = q := by
      intro p hp h1 h2
      rcases Nat.lt_trichotomy p q with g | g | g
      · have := rd_none h2 (q - (p + 1))
        rw [show p + 1 + (q - (p + 1)) = q by omega, i2] at this
        cases this
      · exact g
      · have := rd_none i3 (p - (q + 1))
        rw [show q + 1 + (p - (q + 1)) = p by omega] at this
        exact absurd this h1
    have nm : ∀ z, rdN c s k b kd tk gr ce m = some z → False := by
      intro z hz
      have := rd_none i3 (m - (q + 1))
      rw [show q + 1 + (m - (q + 1)) = m by omega, hz] at this
      cases this
    have e := eW _ (hR _ i4)
    have q9 : ¬ (zR (nI q) z').1 = (-9 : Int32) := nI_m9 (by omega)
    by_cases hv1 : v = 1
    · subst hv1
      rw [it' (show nI 1 = (1 : Int32) from rfl)] at e
      exact ⟨_, e, fun z hz => absurd hz (nm z), fun p hp h1 h2 => by rw [uq p hp h1 h2]; rfl⟩
    · rw [ie' (show ¬ nI v = (1 : Int32) from fun w => hv1 ((nI_eq (b := 1) (by omega) (by omega)).mp w)), ie' q9] at e
      exact ⟨_, e, fun z hz => absurd hz (nm z), fun p hp h1 h2 => by rw [uq p hp h1 h2, if_neg hv1]; rfl⟩
end Wa
