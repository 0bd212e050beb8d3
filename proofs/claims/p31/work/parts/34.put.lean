/-! the law's text of a street, laid into a sheet -/
def ltr (x : Int32) : Int32 := if x = 0 then 102 else if x = 1 then 104 else 119
def psN (B : Nat → Bool) : Nat → Nat
  | 0 => 4
  | f + 1 => psN B f + 2 + (if B f = true then 1 else 0)
theorem psN_le (B : Nat → Bool) : ∀ f, 4 ≤ psN B f ∧ psN B f ≤ 4 + 3 * f
  | 0 => ⟨Nat.le_refl 4, Nat.le_refl 4⟩
  | f + 1 => by
    have := psN_le B f
    rw [psN]
    split <;> omega
theorem psN_mono (B : Nat → Bool) (f : Nat) : ∀ d, psN B f ≤ psN B (f + d)
  | 0 => Nat.le_refl _
  | d + 1 => by
    have := psN_mono B f d
    show psN B f ≤ psN B (f + d + 1)
    rw [psN]
    omega
theorem psN_cg {B B' : Nat → Bool} : ∀ f, (∀ j, j < f → B j = B' j) → psN B f = psN B' f
  | 0, _ => rfl
  | f + 1, h => by rw [psN, psN, psN_cg f (fun j hj => h j (by omega)), h f (by omega)]
theorem psN_in {B : Nat → Bool} {j f : Nat} (h : j < f) : psN B j + 2 + (if B j = true then 1 else 0) ≤ psN B f := by
  have := psN_mono B (j + 1) (f - (j + 1))
  rw [show j + 1 + (f - (j + 1)) = f by omega, psN] at this
  exact this
def TX (B : Nat → Bool) (s k b : Nat) (kd tk ce : Nat → Int32) (f : Nat) : Prop := (ce 0 = nI 115 ∧ ce 1 = nI (48 + s) ∧ ce 2 = nI (48 + k) ∧ ce 3 = nI (48 + b)) ∧ ∀ j, j < f → ce (psN B j) = ltr (kd j) ∧ (∀ t, tk j = nI t → ce (psN B j + 1) = nI (48 + t)) ∧ (B j = true → ce (psN B j + 2) = 35)
def IV (c s k b f : Nat) (gg ce : Nat → Int32) : Prop := (gg 0 = nI c ∧ gg 1 = nI s ∧ gg 2 = nI k ∧ gg 3 = nI b) ∧ (∀ j, j < f → (gg (4 + j) = 0 ∨ gg (4 + j) = 1 ∨ gg (4 + j) = 2) ∧ ∃ t, t ≤ 4 ∧ gg (14 + j) = nI t) ∧ (∀ j, f ≤ j → j < 32 → bt (gg 24) j = false) ∧ TX (bt (gg 24)) s k b (fun j => gg (4 + j)) (fun j => gg (14 + j)) ce f
theorem ivStep {c s k b f : Nat} {gg gg' ce ce' : Nat → Int32} (h : IV c s k b f gg ce) (hf : f < 10) {x : Int32} {t : Nat} {g : Bool} (hx : x = 0 ∨ x = 1 ∨ x = 2) (ht : t ≤ 4) (a1 : ∀ j, j < 4 → gg' j = gg j) (a2 : gg' (4 + f) = x) (a3 : gg' (14 + f) = nI t) (a4 : ∀ j, j < f → gg' (4 + j) = gg (4 + j) ∧ gg' (14 + j) = gg (14 + j)) (a5 : ∀ i, i < 32 → bt (gg' 24) i = if i = f then g else bt (gg 24) i) (b1 : ce' (psN (bt (gg 24)) f) = ltr x) (b2 : ce' (psN (bt (gg 24)) f + 1) = nI (48 + t)) (b3 : g = true → ce' (psN (bt (gg 24)) f + 2) = 35) (b4 : ∀ i, i < psN (bt (gg 24)) f → ce' i = ce i) : IV c s k b (f + 1) gg' ce' ∧ psN (bt (gg' 24)) (f + 1) = psN (bt (gg 24)) f + 2 + (if g = true then 1 else 0) := by
  obtain ⟨⟨h0, h1, h2, h3⟩, hv, hb, ⟨⟨t0, t1, t2, t3⟩, hT⟩⟩ := h
  have eB : ∀ j, j < f → bt (gg' 24) j = bt (gg 24) j := fun j hj => by rw [a5 j (by omega), if_neg (by omega)]
  have eP : ∀ j, j ≤ f → psN (bt (gg' 24)) j = psN (bt (gg 24)) j := fun j hj => psN_cg j (fun i hi => eB i (by omega))
  have eF : bt (gg' 24) f = g := by rw [a5 f (by omega), if_pos rfl]
  have p4 := (psN_le (bt (gg 24)) f).1
  refine ⟨⟨⟨(a1 0 (by omega)).trans h0, (a1 1 (by omega)).trans h1, (a1 2 (by omega)).trans h2, (a1 3 (by omega)).trans h3⟩, fun j hj => ?_, fun j hj hj2 => ?_, ⟨(b4 0 (by omega)).trans t0, (b4 1 (by omega)).trans t1, (b4 2 (by omega)).trans t2, (b4 3 (by omega)).trans t3⟩, fun j hj => ?_⟩, ?_⟩
  · rcases Nat.lt_or_ge j f with q | q
    · rw [(a4 j q).1, (a4 j q).2]; exact hv j q
    · obtain rfl : j = f := by omega
      rw [a2, a3]; exact ⟨hx, t, ht, rfl⟩
  · rw [a5 j hj2, if_neg (by omega)]; exact hb j (by omega) hj2
  · rcases Nat.lt_or_ge j f with q | q
    · have hin := psN_in (B := bt (gg 24)) q
      obtain ⟨w1, w2, w3⟩ := hT j q
      rw [eP j (by omega), eB j q]
      refine ⟨?_, fun u hu => ?_, fun hu => ?_⟩
      · rw [b4 _ (by omega)]
        show _ = ltr (gg' (4 + j))
        rw [(a4 j q).1]; exact w1
      · rw [b4 _ (by omega)]
        exact w2 u ((a4 j q).2.symm.trans hu)
      · rw [if_pos hu] at hin
        rw [b4 _ (by omega)]; exact w3 hu
    · obtain rfl : j = f := by omega
      rw [eP j (Nat.le_refl j), eF]
      refine ⟨?_, fun u hu => ?_, fun hu => b3 hu⟩
      · show _ = ltr (gg' (4 + j))
        rw [a2]; exact b1
      · have : nI t = nI u := a3.symm.trans hu
        rw [b2, ← nI_add, this, nI_add]
  · rw [psN, eP f (Nat.le_refl f), eF]
theorem d48 (t : Nat) : (48 : Int32) + nI t = nI (48 + t) := nI_add 48 t
theorem u24 {v : Int32} (h : v = 0 ∨ v = 1 ∨ v = 2) : (ltr v).toInt8.toInt32 = ltr v := by
  rcases h with rfl | rfl | rfl <;> decide +kernel
/-- a flag's letter, digit and grating, once its letter is chosen -/
theorem put269 {p f t : Nat} (hp : p + 3 ≤ 60) (hf : f < 10) (ht : t ≤ 4) (kh : Int32 → Int32 → Int32 → Int32 → Int32 → Int32 → Int32 → (Nat → Int32) → (Nat → Int32) → Option (Int32 × Int32 × Int32 × Int32 × Int32 × (Nat → Int32) × (Nat → Int32))) (x5 x8 L lf : Int32) (ce gg : Nat → Int32) (hg : gg (14 + f) = nI t) : f_L_put_153_269 kh x5 (nI (p + 1)) (nI f) x8 0 (nI p) L lf 1 0 (nI 60) ce gg = kh x5 (nI (p + 3)) (nI (f + 1)) 0 1 0 (nI 60) (upd (upd (upd ce p L.toInt8.toInt32) (p + 1) (nI (48 + t))) (p + 2) 35) (upd gg 24 (gg 24 ||| ((1 : Int32) <<< (nI f &&& 31)))) ∨ f_L_put_153_269 kh x5 (nI (p + 1)) (nI f) x8 0 (nI p) L lf 1 0 (nI 60) ce gg = kh x5 (nI (p + 2)) (nI (f + 1)) 0 1 0 (nI 60) (upd (upd ce p L.toInt8.toInt32) (p + 1) (nI (48 + t))) gg := by
  obtain ⟨a, -, ea⟩ := someL (x8 >>> ((4 : Int32) &&& 31)) (d := 4) (by omega) (by omega)
  have ea' : f_L_some (x8 >>> ((4 : Int32) &&& 31)) (4 : Int32) = some (nI a) := ea
  have c14 : (nI (14 + f)).toNatClampNeg = 14 + f := nI_clamp (by omega)
  have g14 : ∀ {α : Type} (x : Option α), gx (nI (14 + f)) 25 x = x := fun x => gxN (by omega) (by omega)
  rw [f_L_put_153_269, putL0 (by omega) (show p < 60 by omega), obind, it' rfl, ad14, g14, c14, hg, d48, putL0 (by omega) (show p + 1 < 60 by omega), obind, it' rfl, ea', obind, i8 _ (show 48 + t < 128 by omega), nI_1, nI_1]
  by_cases q : nI a ≤ 0
  · left
    rw [it' q, g25_24, g25_24, cl_24, putL0 (by omega) (show p + 1 + 1 < 60 by omega), obind, it' rfl, nI_1]
    rfl
  · right
    rw [ie' q, nI_1]
theorem putLoop {c s k b sL : Nat} (hL : sL ≤ 260) (hc : c ≤ 10) (xs : Nat → Int32) : ∀ (d N f : Nat) (gg ce : Nat → Int32) (lf x5 : Int32), f + d = c → d < N → IV c s k b f gg ce → ∃ (gg' ce' : Nat → Int32) (lf' : Int32), f_L_put_L153 0 sL xs N x5 (nI (psN (bt (gg 24)) f)) (nI f) lf 1 0 (nI 60) ce gg = some (nI (psN (bt (gg' 24)) c), lf', 1, 0, nI 60, ce', gg') ∧ IV c s k b c gg' ce' := by
  intro d
  induction d with
  | zero =>
    intro N f gg ce lf x5 hf hN h
    obtain ⟨N, rfl⟩ : ∃ t, N = t + 1 := ⟨N - 1, by omega⟩
    obtain rfl : f = c := by omega
    refine ⟨gg, ce, lf, ?_, h⟩
    rw [f_L_put_L153, g25_0, cl_0, h.1.1, it' (nI_le (Nat.le_refl f) (by omega))]
  | succ d ih =>
    intro N f gg ce lf x5 hf hN h
    obtain ⟨N, rfl⟩ : ∃ t, N = t + 1 := ⟨N - 1, by omega⟩
    have ec : ((0 : Int32) + (1 : Int32)) + (nI f - nI f / (3 : Int32) * (3 : Int32)) = nI (1 + f % 3) := by
      rw [show nI f - nI f / (3 : Int32) * (3 : Int32) = nI (f % 3) from pk_rem (d := 3) (by omega) (by omega) (by omega)]
      exact nI_add 1 (f % 3)
    obtain ⟨v, ev⟩ := cellL hL xs (k := 1 + f % 3) (by omega)
    obtain ⟨r, hr, er⟩ := someL (v >>> (((nI f / (3 : Int32)) * (7 : Int32)) &&& 31)) (d := 3) (by omega) (by omega)
    have er' : f_L_some (v >>> (((nI f / (3 : Int32)) * (7 : Int32)) &&& 31)) (3 : Int32) = some (nI r) := er
    obtain ⟨w, -, ew⟩ := someL (x5 >>> ((10 : Int32) &&& 31)) (d := 2) (by omega) (by omega)
    have ew' : f_L_some (x5 >>> ((10 : Int32) &&& 31)) (2 : Int32) = some (nI w) := ew
    have c4 : (nI (4 + f)).toNatClampNeg = 4 + f := nI_clamp (by omega)
    have g4 : ∀ {α : Type} (x : Option α), gx (nI (4 + f)) 25 x = x := fun x => gxN (by omega) (by omega)
    have c14 : (nI (14 + f)).toNatClampNeg = 14 + f := nI_clamp (by omega)
    have g14 : ∀ {α : Type} (x : Option α), gx (nI (14 + f)) 25 x = x := fun x => gxN (by omega) (by omega)
    have hx : nI r = 0 ∨ nI r = 1 ∨ nI r = 2 := by
      rcases (show r = 0 ∨ r = 1 ∨ r = 2 by omega) with rfl | rfl | rfl
      · exact Or.inl rfl
      · exact Or.inr (Or.inl rfl)
      · exact Or.inr (Or.inr rfl)
    have hp := (psN_le (bt (gg 24)) f).2
    -- behind the digit's bound
    have main : ∀ (D : Int32) (dd : Nat), D = nI dd → 0 < dd → dd ≤ 5 → ∃ (gg' ce' : Nat → Int32) (lf' : Int32), f_L_put_153_225 (f_L_put_L153 0 sL xs N) x5 (nI (psN (bt (gg 24)) f)) (nI f) (v >>> (((nI f / (3 : Int32)) * (7 : Int32)) &&& 31)) (nI (14 + f)) ((v >>> (((nI f / (3 : Int32)) * (7 : Int32)) &&& 31)) >>> ((2 : Int32) &&& 31)) D lf 1 0 (nI 60) ce (upd gg (4 + f) (nI r)) = some (nI (psN (bt (gg' 24)) c), lf', 1, 0, nI 60, ce', gg') ∧ IV c s k b c gg' ce' := by
      intro D dd hD h0 h5
      subst hD
      obtain ⟨t, ht, et⟩ := someL ((v >>> (((nI f / (3 : Int32)) * (7 : Int32)) &&& 31)) >>> ((2 : Int32) &&& 31)) h0 (show dd < 2 ^ 31 by omega)
      have e4 : upd (upd gg (4 + f) (nI r)) (14 + f) (nI t) (4 + f) = nI r := by rw [pk_un (by omega), pk_us]
      have e14 : upd (upd gg (4 + f) (nI r)) (14 + f) (nI t) (14 + f) = nI t := pk_us
      have e24 : upd (upd gg (4 + f) (nI r)) (14 + f) (nI t) 24 = gg 24 := by rw [pk_un (by omega), pk_un (by omega)]
      have red : f_L_put_153_225 (f_L_put_L153 0 sL xs N) x5 (nI (psN (bt (gg 24)) f)) (nI f) (v >>> (((nI f / (3 : Int32)) * (7 : Int32)) &&& 31)) (nI (14 + f)) ((v >>> (((nI f / (3 : Int32)) * (7 : Int32)) &&& 31)) >>> ((2 : Int32) &&& 31)) (nI dd) lf 1 0 (nI 60) ce (upd gg (4 + f) (nI r)) = f_L_put_153_269 (f_L_put_L153 0 sL xs N) x5 (nI (psN (bt (gg 24)) f + 1)) (nI f) (v >>> (((nI f / (3 : Int32)) * (7 : Int32)) &&& 31)) 0 (nI (psN (bt (gg 24)) f)) (ltr (nI r)) lf 1 0 (nI 60) ce (upd (upd gg (4 + f) (nI r)) (14 + f) (nI t)) := by
        rw [f_L_put_153_225, et, obind, g14, c14, ad4, g4, g4, c4, e4, nI_1]
        rcases (show r = 0 ∨ r = 1 ∨ r = 2 by omega) with rfl | rfl | rfl
        · rw [it' (show nI 0 = (0 : Int32) from rfl)]; rfl
        · rw [ie' (show ¬ nI 1 = (0 : Int32) by decide), it' (show nI 1 = (1 : Int32) from rfl)]; rfl
        · rw [ie' (show ¬ nI 2 = (0 : Int32) by decide), ie' (show ¬ nI 2 = (1 : Int32) by decide)]; rfl
      rw [red]
      rcases put269 (p := psN (bt (gg 24)) f) (t := t) (by omega) (show f < 10 by omega) (by omega) (f_L_put_L153 0 sL xs N) x5 (v >>> (((nI f / (3 : Int32)) * (7 : Int32)) &&& 31)) (ltr (nI r)) lf ce (upd (upd gg (4 + f) (nI r)) (14 + f) (nI t)) e14 with e | e
      · rw [e, u24 hx, e24]
        obtain ⟨i1, i2⟩ := ivStep (g := true) (gg' := upd (upd (upd gg (4 + f) (nI r)) (14 + f) (nI t)) 24 (gg 24 ||| ((1 : Int32) <<< (nI f &&& 31)))) (ce' := upd (upd (upd ce (psN (bt (gg 24)) f) (ltr (nI r))) (psN (bt (gg 24)) f + 1) (nI (48 + t))) (psN (bt (gg 24)) f + 2) 35) h (by omega) hx (show t ≤ 4 by omega)
          (fun j hj => by rw [pk_un (by omega), pk_un (by omega), pk_un (by omega)]) (by rw [pk_un (by omega), e4]) (by rw [pk_un (by omega), e14])
          (fun j hj => ⟨by rw [pk_un (by omega), pk_un (by omega), pk_un (by omega)], by rw [pk_un (by omega), pk_un (by omega), pk_un (by omega)]⟩)
          (fun i hi => by rw [pk_us, b_set _ (by omega) hi]) (by rw [pk_un (by omega), pk_un (by omega), pk_us]) (by rw [pk_un (by omega), pk_us]) (fun _ => by rw [pk_us])
          (fun i hi => by rw [pk_un (by omega), pk_un (by omega), pk_un (by omega)])
        rw [if_pos rfl] at i2
        rw [show psN (bt (gg 24)) f + 3 = psN (bt (gg 24)) f + 2 + 1 by omega, ← i2]
        exact ih N (f + 1) _ _ _ _ (by omega) (by omega) i1
      · rw [e, u24 hx]
        obtain ⟨i1, i2⟩ := ivStep (g := false) (gg' := upd (upd gg (4 + f) (nI r)) (14 + f) (nI t)) (ce' := upd (upd ce (psN (bt (gg 24)) f) (ltr (nI r))) (psN (bt (gg 24)) f + 1) (nI (48 + t))) h (by omega) hx (show t ≤ 4 by omega)
          (fun j hj => by rw [pk_un (by omega), pk_un (by omega)]) e4 e14
          (fun j hj => ⟨by rw [pk_un (by omega), pk_un (by omega)], by rw [pk_un (by omega), pk_un (by omega)]⟩)
          (fun i hi => by
            rw [e24]
            by_cases z : i = f
            · rw [if_pos z, z]; exact h.2.2.1 f (Nat.le_refl f) (by omega)
            · rw [if_neg z]) (by rw [pk_un (by omega), pk_us]) (by rw [pk_us]) (fun z => absurd z (by decide))
          (fun i hi => by rw [pk_un (by omega), pk_un (by omega)])
        rw [if_neg (by decide)] at i2
        rw [show psN (bt (gg 24)) f + 2 = psN (bt (gg 24)) f + 2 + 0 by omega, ← i2]
        exact ih N (f + 1) _ _ _ _ (by omega) (by omega) i1
    rw [f_L_put_L153, g25_0, cl_0, h.1.1, ie' (nI_ge (show f < c by omega) (by omega)), ec, ev, obind, er', obind, ad4, g4, ew', obind, ad14, c4]
    by_cases q : nI w = 0
    · rw [it' q]
      exact main 5 5 rfl (by omega) (by omega)
    · rw [ie' q]
      exact main 3 3 rfl (by omega) (by omega)
theorem putAll {sL : Nat} (hL : sL ≤ 260) (xs : Nat → Int32) (th ln le : Int32) (ce gg : Nat → Int32) : ∃ (c s k b : Nat) (gg' ce' : Nat → Int32) (lf' : Int32), (2 ≤ c ∧ c ≤ 10 ∧ 1 ≤ s ∧ s ≤ 4 ∧ 1 ≤ k ∧ k ≤ 3 ∧ b ≤ 2) ∧ f_L_put th ln le ce gg 0 10 sL xs = some (nI (psN (bt (gg' 24)) c), lf', 1, 0, nI 60, ce', gg') ∧ IV c s k b c gg' ce' := by
  obtain ⟨v, ev⟩ := cellL hL xs (k := 0) (by omega)
  have ev' : f_L_cell (0 : Int32) sL xs = some v := ev
  obtain ⟨a1, q1, e1⟩ := someL v (d := 9) (by omega) (by omega)
  obtain ⟨a2, q2, e2⟩ := someL (v >>> ((4 : Int32) &&& 31)) (d := 4) (by omega) (by omega)
  obtain ⟨a3, q3, e3⟩ := someL (v >>> ((6 : Int32) &&& 31)) (d := 3) (by omega) (by omega)
  obtain ⟨a4, q4, e4⟩ := someL (v >>> ((8 : Int32) &&& 31)) (d := 3) (by omega) (by omega)
  have e1' : f_L_some v ((10 : Int32) - (1 : Int32)) = some (nI a1) := e1
  have e2' : f_L_some (v >>> ((4 : Int32) &&& 31)) (4 : Int32) = some (nI a2) := e2
  have e3' : f_L_some (v >>> ((6 : Int32) &&& 31)) (3 : Int32) = some (nI a3) := e3
  have e4' : f_L_some (v >>> ((8 : Int32) &&& 31)) (3 : Int32) = some (nI a4) := e4
  have s1 : (2 : Int32) + nI a1 = nI (2 + a1) := nI_add 2 a1
  have s2 : (1 : Int32) + nI a2 = nI (1 + a2) := nI_add 1 a2
  have s3 : (1 : Int32) + nI a3 = nI (1 + a3) := nI_add 1 a3
  have p0 : ∀ (x : Nat → Int32), f_X4_put 1 0 (nI 60) x 0 (0 : Int32) (115 : Int32) 0 = some (1, 0, upd x 0 (nI 115)) := fun x => putL0 (i := 0) (by omega) (by omega) x 115
  have p1 : ∀ (x : Nat → Int32), f_X4_put 1 0 (nI 60) x 0 (1 : Int32) (nI (48 + (1 + a2))) 0 = some (1, 0, upd x 1 (nI (48 + (1 + a2)))) := fun x => (putL0 (i := 1) (by omega) (by omega) x _).trans (by rw [i8 _ (by omega)])
  have p2 : ∀ (x : Nat → Int32), f_X4_put 1 0 (nI 60) x 0 (2 : Int32) (nI (48 + (1 + a3))) 0 = some (1, 0, upd x 2 (nI (48 + (1 + a3)))) := fun x => (putL0 (i := 2) (by omega) (by omega) x _).trans (by rw [i8 _ (by omega)])
  have p3 : ∀ (x : Nat → Int32), f_X4_put 1 0 (nI 60) x 0 (3 : Int32) (nI (48 + a4)) 0 = some (1, 0, upd x 3 (nI (48 + a4))) := fun x => (putL0 (i := 3) (by omega) (by omega) x _).trans (by rw [i8 _ (by omega)])
  have u1 : upd (upd (upd (upd (upd gg 0 (nI (2 + a1))) 1 (nI (1 + a2))) 2 (nI (1 + a3))) 3 (nI a4)) 24 0 1 = nI (1 + a2) := by rw [pk_un (by decide), pk_un (by decide), pk_un (by decide), pk_us]
  have u2 : upd (upd (upd (upd (upd gg 0 (nI (2 + a1))) 1 (nI (1 + a2))) 2 (nI (1 + a3))) 3 (nI a4)) 24 0 2 = nI (1 + a3) := by rw [pk_un (by decide), pk_un (by decide), pk_us]
  have u3 : upd (upd (upd (upd (upd gg 0 (nI (2 + a1))) 1 (nI (1 + a2))) 2 (nI (1 + a3))) 3 (nI a4)) 24 0 3 = nI a4 := by rw [pk_un (by decide), pk_us]
  have u0 : upd (upd (upd (upd (upd gg 0 (nI (2 + a1))) 1 (nI (1 + a2))) 2 (nI (1 + a3))) 3 (nI a4)) 24 0 0 = nI (2 + a1) := by rw [pk_un (by decide), pk_un (by decide), pk_un (by decide), pk_un (by decide), pk_us]
  have iv : ∀ x : Nat → Int32, IV (2 + a1) (1 + a2) (1 + a3) a4 0 (upd (upd (upd (upd (upd gg 0 (nI (2 + a1))) 1 (nI (1 + a2))) 2 (nI (1 + a3))) 3 (nI a4)) 24 0) (upd (upd (upd (upd x 0 (nI 115)) 1 (nI (48 + (1 + a2)))) 2 (nI (48 + (1 + a3)))) 3 (nI (48 + a4))) := fun x => by
    refine ⟨⟨u0, u1, u2, u3⟩, fun j hj => absurd hj (Nat.not_lt_zero j), fun j _ hj => ?_, ⟨?_, ?_, ?_, ?_⟩, fun j hj => absurd hj (Nat.not_lt_zero j)⟩
    · rw [pk_us, b_0]
    · rw [pk_un (by decide), pk_un (by decide), pk_un (by decide), pk_us]
    · rw [pk_un (by decide), pk_un (by decide), pk_us]
    · rw [pk_un (by decide), pk_us]
    · rw [pk_us]
  refine ⟨2 + a1, 1 + a2, 1 + a3, a4, ?_⟩
  rw [f_L_put, ev', obind, e1', obind, g25_0, e2', obind, g25_1, e3', obind, g25_2, e4', obind, g25_3, g25_24, cl_0, cl_1, cl_2, cl_3, cl_24, s1, s2, s3, sheetL0, obind, it' rfl, p0, obind, it' rfl, g25_1, u1, d48, p1, obind, it' rfl, g25_2, u2, d48, p2, obind, it' rfl, g25_3, u3, d48, p3, obind, it' rfl]
  obtain ⟨gg', ce', lf', i1, i2⟩ := putLoop (s := 1 + a2) (k := 1 + a3) (b := a4) hL (show 2 + a1 ≤ 10 by omega) xs (2 + a1) 100 0 _ _ 0 v (by omega) (by omega) (iv (fun j => if j < 60 then 0 else ce j))
  exact ⟨gg', ce', lf', ⟨by omega, by omega, by omega, by omega, by omega, by omega, by omega⟩, i1, i2⟩
