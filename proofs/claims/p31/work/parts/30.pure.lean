/-! the ride over numbers of our own: one act, both sides -/
theorem nI_sub {a b : Nat} (h : b ≤ a) : nI a - nI b = nI (a - b) := pk_sub h
theorem nI_half {a : Nat} (h : a < 2 ^ 31) : nI a / 2 = nI (a / 2) := pk_div (d := 2) h (by omega) (by omega)
theorem i0 : (0 : Int32) = nI 0 := rfl
theorem i1 : (1 : Int32) = nI 1 := rfl
theorem i2 : (2 : Int32) = nI 2 := rfl
theorem i3 : (3 : Int32) = nI 3 := rfl
theorem i4 : (4 : Int32) = nI 4 := rfl
theorem i5 : (5 : Int32) = nI 5 := rfl
theorem i6 : (6 : Int32) = nI 6 := rfl
theorem obind {α β : Type} (a : α) (f : α → Option β) : (some a).bind f = f a := rfl
theorem gxN {α : Type} {i n : Nat} {k : Option α} (h : i < n) (hn : n < 2 ^ 31) : gx (nI i) n k = k := gxi (by rw [nI_toInt (by omega)]; omega)
theorem it' {α : Type} {c : Prop} [Decidable c] {a b : α} (h : c) : (if c then a else b) = a := if_pos h
theorem ie' {α : Type} {c : Prop} [Decidable c] {a b : α} (h : ¬ c) : (if c then a else b) = b := if_neg h
def okF (c : Nat) (kd tk gr : Nat → Int32) : Prop := c ≤ 10 ∧ ∀ i, i < c → (kd i = 0 ∨ kd i = 1 ∨ kd i = 2) ∧ (∃ t, t ≤ 4 ∧ tk i = nI t) ∧ (gr i = 0 ∨ gr i = 1)
/-- the drag of a flag -/
def dgN (kd tk : Nat → Int32) (i : Nat) : Nat := if kd i = 1 then (tk i).toNatClampNeg + 1 else if kd i = 2 then (tk i).toNatClampNeg / 2 else (tk i).toNatClampNeg
theorem hasN {c f : Nat} (hc : c < 2 ^ 31) (hf : f < 2 ^ 31) : f_X3_has (nI c) (nI f) = some (if f < c then 1 else 0) := by
  rw [f_X3_has, ie' (nI_pos hf)]
  by_cases h : f < c
  · rw [ie' (nI_ge h hc), if_pos h]
  · rw [it' (nI_le (Nat.le_of_not_lt h) hf), if_neg h]
theorem dragX {c f : Nat} {kd tk gr : Nat → Int32} (ok : okF c kd tk gr) (hf : f < c) : f_X3_dragOf (nI c) kd tk (nI f) = some (nI (dgN kd tk f)) := by
  obtain ⟨hc, h⟩ := ok
  obtain ⟨-, ⟨t, ht, e⟩, -⟩ := h f hf
  have hcl : (nI f).toNatClampNeg = f := nI_clamp (by omega)
  have ht2 : (nI t).toNatClampNeg = t := nI_clamp (by omega)
  rw [f_X3_dragOf, ie' (nI_pos (by omega)), it' (nI_lt hf (by omega)), gxN (by omega) (by omega), gxN (by omega) (by omega), gxN (by omega) (by omega), gxN (by omega) (by omega), hcl, dgN, e, ht2]
  by_cases h1 : kd f = 1
  · rw [it' h1, it' h1, nI_1]
  · rw [ie' h1, ie' h1]
    by_cases h2 : kd f = 2
    · rw [it' h2, it' h2, nI_half (by omega)]
    · rw [ie' h2, ie' h2]
theorem dgN_le {c f : Nat} {kd tk gr : Nat → Int32} (ok : okF c kd tk gr) (hf : f < c) : dgN kd tk f ≤ 5 := by
  obtain ⟨-, ⟨t, ht, e⟩, -⟩ := ok.2 f hf
  have ht2 : (nI t).toNatClampNeg = t := nI_clamp (by omega)
  unfold dgN
  rw [e, ht2]
  split
  · omega
  · split <;> omega
/-- how far it goes -/
def rlN (c : Nat) (gr : Nat → Int32) : Nat → Nat → Nat → Nat × Nat
  | 0, f, p => (f, p)
  | n + 1, f, p => if c ≤ f then (f, p) else if 4 ≤ p ∧ f + 1 < c ∧ ¬ gr (f + 1) = 0 then (f + 1, 0) else rlN c gr n (f + 1) p
theorem rlN_le (c : Nat) (gr : Nat → Int32) : ∀ (n f p : Nat), f ≤ c → (rlN c gr n f p).1 ≤ c ∧ (rlN c gr n f p).2 ≤ p
  | 0, f, p, h => ⟨h, Nat.le_refl p⟩
  | n + 1, f, p, h => by
    rw [rlN]
    by_cases h1 : c ≤ f
    · rw [if_pos h1]; exact ⟨h, Nat.le_refl p⟩
    · rw [if_neg h1]
      by_cases h2 : 4 ≤ p ∧ f + 1 < c ∧ ¬ gr (f + 1) = 0
      · rw [if_pos h2]; exact ⟨by show f + 1 ≤ c; omega, Nat.zero_le p⟩
      · rw [if_neg h2]; exact rlN_le c gr n (f + 1) p (by omega)
theorem rollLX (c : Nat) (gr : Nat → Int32) (hc : c ≤ 10) (p : Nat) (hp : p ≤ 6) : ∀ (d n i f : Nat), d + i ≤ 100 → d < n → f ≤ c → f_X0_roll_L30 (nI c) gr (fun f _ => some (f, (0 : Int32))) (fun f p => some (f, p)) n (nI (i + d)) (nI i) (nI f) (nI p) = some (nI (rlN c gr d f p).1, nI (rlN c gr d f p).2) := by
  intro d
  induction d with
  | zero =>
    intro n i f hi hn hf
    obtain ⟨n, rfl⟩ : ∃ z, n = z + 1 := ⟨n - 1, by omega⟩
    rw [f_X0_roll_L30, it' (nI_le (by omega) (by omega))]
    rfl
  | succ d ih =>
    intro n i f hi hn hf
    obtain ⟨n, rfl⟩ : ∃ z, n = z + 1 := ⟨n - 1, by omega⟩
    have hcl : (nI (f + 1)).toNatClampNeg = f + 1 := nI_clamp (by omega)
    have go : f_X0_roll_L30 (nI c) gr (fun f _ => some (f, (0 : Int32))) (fun f p => some (f, p)) n (nI (i + (d + 1))) (nI (i + 1)) (nI (f + 1)) (nI p) = if f < c then some (nI (rlN c gr d (f + 1) p).1, nI (rlN c gr d (f + 1) p).2) else f_X0_roll_L30 (nI c) gr (fun f _ => some (f, (0 : Int32))) (fun f p => some (f, p)) n (nI (i + (d + 1))) (nI (i + 1)) (nI (f + 1)) (nI p) := by
      by_cases h : f < c
      · rw [if_pos h, show i + (d + 1) = (i + 1) + d by omega]
        exact ih n (i + 1) (f + 1) (by omega) (by omega) (by omega)
      · rw [if_neg h]
    rw [f_X0_roll_L30, ie' (nI_ge (by omega) (by omega)), hasN (by omega) (by omega), obind, rlN]
    by_cases h1 : f < c
    · rw [if_pos h1] at go
      rw [if_pos h1, ie' (by decide), if_neg (Nat.not_le.mpr h1), nI_1, nI_1]
      by_cases h2 : p < 4
      · rw [it' (show nI p < 4 from nI_lt (b := 4) h2 (by omega)), if_neg (by omega), go]
      · rw [ie' (show ¬ nI p < 4 from nI_nlt (b := 4) (by omega) (by omega)), hasN (by omega) (by omega), obind]
        by_cases h3 : f + 1 < c
        · rw [if_pos h3, ie' (by decide), gxN (by omega) (by omega), hcl]
          by_cases h4 : gr (f + 1) = 0
          · rw [it' h4, if_neg (fun q => q.2.2 h4), go]
          · rw [ie' h4, if_pos ⟨by omega, h3, h4⟩]
            rfl
        · rw [if_neg h3, it' (by decide), if_neg (fun q => h3 q.2.1), go]
    · rw [if_neg h1, it' (by decide), if_pos (Nat.le_of_not_lt h1)]
/-- behind an act: where he is, how fast -/
def roN (c : Nat) (kd tk gr : Nat → Int32) (f p : Nat) : Nat × Nat := rlN c gr ((p - dgN kd tk f) / 2) f (p - dgN kd tk f)
theorem roN_le {c : Nat} {kd tk gr : Nat → Int32} {f p : Nat} (h : f ≤ c) : (roN c kd tk gr f p).1 ≤ c ∧ (roN c kd tk gr f p).2 ≤ p := by
  have := rlN_le c gr ((p - dgN kd tk f) / 2) f (p - dgN kd tk f) h
  exact ⟨this.1, Nat.le_trans this.2 (Nat.sub_le _ _)⟩
theorem maxN {p d : Nat} (hp : p < 2 ^ 30) (hd : d < 2 ^ 30) : (if (0 : Int32) < (nI p - nI d) then (nI p - nI d) else (0 : Int32)) = nI (p - d) := by
  by_cases h : d < p
  · rw [pk_sub (by omega), it' (show (0 : Int32) < nI (p - d) from nI_lt (a := 0) (by omega) (by omega))]
  · by_cases h2 : p = d
    · subst h2
      rw [pk_sub (Nat.le_refl p), Nat.sub_self]
      decide
    · have := pk_sneg (a := p) (b := d) (by omega) (by omega)
      rw [ie' (fun q => Int32.lt_irrefl (Int32.lt_trans q this)), show p - d = 0 by omega]
      rfl
theorem rollX {c f p : Nat} {kd tk gr : Nat → Int32} (ok : okF c kd tk gr) (hf : f < c) (hp : p ≤ 6) : f_X0_roll (nI f) (nI p) (nI c) kd tk gr = some (nI (roN c kd tk gr f p).1, nI (roN c kd tk gr f p).2) := by
  have hd := dgN_le ok hf
  have hc := ok.1
  rw [f_X0_roll, dragX ok hf, obind, maxN (by omega) (by omega), nI_half (by omega)]
  have := rollLX c gr hc (p - dgN kd tk f) (by omega) ((p - dgN kd tk f) / 2) 100 0 f (by omega) (by omega) (by omega)
  rw [Nat.zero_add] at this
  exact this
/-- one act: none where it can't be -/
def stN (c s k : Nat) (kd tk gr : Nat → Int32) (a : Nat) (x : Nat × Nat × Nat × Nat) : Option (Nat × Nat × Nat × Nat) :=
  if c ≤ x.1 then none else
  if a = 0 then (if x.2.2.1 < k ∧ x.2.1 < 6 then some ((roN c kd tk gr x.1 (min 6 (x.2.1 + s))).1, (roN c kd tk gr x.1 (min 6 (x.2.1 + s))).2, x.2.2.1 + 1, x.2.2.2) else none)
  else if a = 1 then some ((roN c kd tk gr x.1 x.2.1).1, (roN c kd tk gr x.1 x.2.1).2, 0, x.2.2.2)
  else if a = 2 then (if 0 < x.2.1 then some ((roN c kd tk gr x.1 x.2.1).1, (roN c kd tk gr x.1 x.2.1).2, x.2.2.1, x.2.2.2) else none)
  else if a = 3 then (if 0 < x.2.1 ∧ 0 < x.2.2.2 then some ((roN c kd tk gr x.1 (x.2.1 - 2)).1, (roN c kd tk gr x.1 (x.2.1 - 2)).2, x.2.2.1, x.2.2.2 - 1) else none)
  else if a = 4 then some (x.1 + 1, 0, 0, x.2.2.2) else none
/-- where he may stand -/
def okP (c : Nat) (x : Nat × Nat × Nat × Nat) : Prop := x.1 ≤ c ∧ x.2.1 ≤ 6 ∧ x.2.2.1 ≤ 3 ∧ x.2.2.2 ≤ 2
theorem stN_ok {c s k : Nat} {kd tk gr : Nat → Int32} {a : Nat} {x y : Nat × Nat × Nat × Nat} (hk : k ≤ 3) (hx : okP c x) (h : stN c s k kd tk gr a x = some y) : okP c y := by
  obtain ⟨h1, h2, h3, h4⟩ := hx
  unfold stN at h
  by_cases hc : c ≤ x.1
  · rw [if_pos hc] at h; cases h
  rw [if_neg hc] at h
  have r : ∀ p, (roN c kd tk gr x.1 p).1 ≤ c ∧ (roN c kd tk gr x.1 p).2 ≤ p := fun p => roN_le h1
  by_cases a0 : a = 0
  · rw [if_pos a0] at h
    by_cases q : x.2.2.1 < k ∧ x.2.1 < 6
    · rw [if_pos q] at h; cases h
      have := r (min 6 (x.2.1 + s))
      exact ⟨this.1, by show (roN c kd tk gr x.1 (min 6 (x.2.1 + s))).2 ≤ 6; omega, by show x.2.2.1 + 1 ≤ 3; omega, h4⟩
    · rw [if_neg q] at h; cases h
  rw [if_neg a0] at h
  by_cases a1 : a = 1
  · rw [if_pos a1] at h; cases h
    have := r x.2.1
    exact ⟨this.1, by show (roN c kd tk gr x.1 x.2.1).2 ≤ 6; omega, Nat.zero_le _, h4⟩
  rw [if_neg a1] at h
  by_cases a2 : a = 2
  · rw [if_pos a2] at h
    by_cases q : 0 < x.2.1
    · rw [if_pos q] at h; cases h
      have := r x.2.1
      exact ⟨this.1, by show (roN c kd tk gr x.1 x.2.1).2 ≤ 6; omega, h3, h4⟩
    · rw [if_neg q] at h; cases h
  rw [if_neg a2] at h
  by_cases a3 : a = 3
  · rw [if_pos a3] at h
    by_cases q : 0 < x.2.1 ∧ 0 < x.2.2.2
    · rw [if_pos q] at h; cases h
      have := r (x.2.1 - 2)
      exact ⟨this.1, by show (roN c kd tk gr x.1 (x.2.1 - 2)).2 ≤ 6; omega, h3, by show x.2.2.2 - 1 ≤ 2; omega⟩
    · rw [if_neg q] at h; cases h
  rw [if_neg a3] at h
  by_cases a4 : a = 4
  · rw [if_pos a4] at h; cases h
    exact ⟨by show x.1 + 1 ≤ c; omega, Nat.zero_le _, Nat.zero_le _, h4⟩
  · rw [if_neg a4] at h; cases h
theorem minN {p s : Nat} (hp : p < 2 ^ 30) (hs : s < 2 ^ 30) : (if (nI p + nI s) < (6 : Int32) then (nI p + nI s) else (6 : Int32)) = nI (min 6 (p + s)) := by
  rw [nI_add]
  by_cases h : p + s < 6
  · rw [it' (show nI (p + s) < 6 from nI_lt (b := 6) h (by omega)), show min 6 (p + s) = p + s by omega]
  · rw [ie' (show ¬ nI (p + s) < 6 from nI_nlt (b := 6) (by omega) (by omega)), show min 6 (p + s) = 6 by omega]
    rfl
theorem max2N {p : Nat} (hp : p < 2 ^ 30) : (if (0 : Int32) < (nI p - (2 : Int32)) then (nI p - (2 : Int32)) else (0 : Int32)) = nI (p - 2) := maxN (d := 2) hp (by omega)
theorem sub1N {a : Nat} (h : 0 < a) : nI a - (1 : Int32) = nI (a - 1) := pk_sub (b := 1) h
theorem le0N {a : Nat} (h : a < 2 ^ 31) : nI a ≤ 0 ↔ a = 0 := by
  rw [show (0 : Int32) = nI 0 from rfl, nI_leI h (by omega)]
  omega
def dtN (a : Nat) : Nat := if a = 4 then 3 else 1
def dpN (a : Nat) : Nat := if a = 0 then 1 else 0
theorem stN_0 {c s k : Nat} {kd tk gr : Nat → Int32} {x : Nat × Nat × Nat × Nat} (h : ¬ c ≤ x.1) : stN c s k kd tk gr 0 x = if x.2.2.1 < k ∧ x.2.1 < 6 then some ((roN c kd tk gr x.1 (min 6 (x.2.1 + s))).1, (roN c kd tk gr x.1 (min 6 (x.2.1 + s))).2, x.2.2.1 + 1, x.2.2.2) else none := by
  unfold stN; rw [if_neg h, if_pos rfl]
theorem stN_1 {c s k : Nat} {kd tk gr : Nat → Int32} {x : Nat × Nat × Nat × Nat} (h : ¬ c ≤ x.1) : stN c s k kd tk gr 1 x = some ((roN c kd tk gr x.1 x.2.1).1, (roN c kd tk gr x.1 x.2.1).2, 0, x.2.2.2) := by
  unfold stN; rw [if_neg h, if_neg (by omega), if_pos rfl]
theorem stN_2 {c s k : Nat} {kd tk gr : Nat → Int32} {x : Nat × Nat × Nat × Nat} (h : ¬ c ≤ x.1) : stN c s k kd tk gr 2 x = if 0 < x.2.1 then some ((roN c kd tk gr x.1 x.2.1).1, (roN c kd tk gr x.1 x.2.1).2, x.2.2.1, x.2.2.2) else none := by
  unfold stN; rw [if_neg h, if_neg (by omega), if_neg (by omega), if_pos rfl]
theorem stN_3 {c s k : Nat} {kd tk gr : Nat → Int32} {x : Nat × Nat × Nat × Nat} (h : ¬ c ≤ x.1) : stN c s k kd tk gr 3 x = if 0 < x.2.1 ∧ 0 < x.2.2.2 then some ((roN c kd tk gr x.1 (x.2.1 - 2)).1, (roN c kd tk gr x.1 (x.2.1 - 2)).2, x.2.2.1, x.2.2.2 - 1) else none := by
  unfold stN; rw [if_neg h, if_neg (by omega), if_neg (by omega), if_neg (by omega), if_pos rfl]
theorem stN_4 {c s k : Nat} {kd tk gr : Nat → Int32} {x : Nat × Nat × Nat × Nat} (h : ¬ c ≤ x.1) : stN c s k kd tk gr 4 x = some (x.1 + 1, 0, 0, x.2.2.2) := by
  unfold stN; rw [if_neg h, if_neg (by omega), if_neg (by omega), if_neg (by omega), if_neg (by omega), if_pos rfl]
theorem isT {α : Type} {c : Prop} [Decidable c] {a : α} (h : c) : (if (if c then some a else none).isSome = true then (1 : Int32) else 0) = 1 := by rw [if_pos h]; rfl
theorem isF {α : Type} {c : Prop} [Decidable c] {a : α} (h : ¬ c) : (if (if c then some a else none).isSome = true then (1 : Int32) else 0) = 0 := by rw [if_neg h]; rfl
theorem a5 {a : Nat} (h : a ≤ 4) : a = 0 ∨ a = 1 ∨ a = 2 ∨ a = 3 ∨ a = 4 := by omega
theorem canX {c s k a : Nat} {kd tk gr : Nat → Int32} {x : Nat × Nat × Nat × Nat} (hc : c ≤ 10) (hk : k ≤ 3) (hx : okP c x) (ha : a ≤ 4) : f_X0_can (nI x.1) (nI x.2.1) (nI x.2.2.1) (nI x.2.2.2) (nI c) (nI k) (nI a) = some (if (stN c s k kd tk gr a x).isSome then 1 else 0) := by
  obtain ⟨h1, h2, h3, h4⟩ := hx
  rw [f_X0_can, hasN (by omega) (by omega), obind]
  by_cases hf : x.1 < c
  · have hf' : ¬ c ≤ x.1 := by omega
    rw [if_pos hf, ie' (by decide)]
    rcases a5 ha with rfl | rfl | rfl | rfl | rfl
    · rw [it' (by decide), stN_0 hf']
      by_cases q : x.2.2.1 < k
      · rw [ie' (nI_ge q (by omega))]
        by_cases q2 : x.2.1 < 6
        · rw [ie' (show ¬ (6 : Int32) ≤ nI x.2.1 from nI_ge (b := 6) q2 (by omega)), isT ⟨q, q2⟩]
        · rw [it' (show (6 : Int32) ≤ nI x.2.1 from nI_le (a := 6) (by omega) (by omega)), isF (fun z => q2 z.2)]
      · rw [it' (nI_le (by omega) (by omega)), isF (fun z => q z.1)]
    · rw [ie' (by decide), it' (by decide), stN_1 hf']; rfl
    · rw [ie' (by decide), ie' (by decide), it' (by decide), stN_2 hf']
      by_cases q : 0 < x.2.1
      · rw [ie' (fun z => by rw [le0N (by omega)] at z; omega), isT q]
      · rw [it' ((le0N (by omega)).mpr (by omega)), isF q]
    · rw [ie' (by decide), ie' (by decide), ie' (by decide), it' (by decide), stN_3 hf']
      by_cases q : 0 < x.2.2.2
      · rw [ie' (fun z => by rw [le0N (by omega)] at z; omega)]
        by_cases q2 : 0 < x.2.1
        · rw [ie' (fun z => by rw [le0N (by omega)] at z; omega), isT ⟨q2, q⟩]
        · rw [it' ((le0N (by omega)).mpr (by omega)), isF (fun z => q2 z.1)]
      · rw [it' ((le0N (by omega)).mpr (by omega)), isF (fun z => q z.2)]
    · rw [ie' (by decide), ie' (by decide), ie' (by decide), ie' (by decide), it' (by decide), stN_4 hf']; rfl
  · rw [if_neg hf, it' (by decide)]
    have e : stN c s k kd tk gr a x = none := by unfold stN; rw [if_pos (by omega)]
    rw [e]; rfl
theorem goByX {c s k a : Nat} {kd tk gr : Nat → Int32} {x y : Nat × Nat × Nat × Nat} (ok : okF c kd tk gr) (hs : s ≤ 4) (hx : okP c x) (ha : a ≤ 4) (h : stN c s k kd tk gr a x = some y) (ft se pu : Int32) : f_X0_goBy (nI x.1) (nI x.2.1) ft (nI x.2.2.1) (nI x.2.2.2) se pu (nI c) (nI s) kd tk gr (nI a) = some (nI y.1, nI y.2.1, (if a = 1 then 1 - ft else ft), nI y.2.2.1, nI y.2.2.2, se + nI (dtN a), (if a = 0 then pu + 1 else pu)) := by
  obtain ⟨h1, h2, h3, h4⟩ := hx
  have hc := ok.1
  have hf' : ¬ c ≤ x.1 := fun q => by unfold stN at h; rw [if_pos q] at h; cases h
  have hf : x.1 < c := by omega
  rw [f_X0_goBy]
  rcases a5 ha with rfl | rfl | rfl | rfl | rfl
  · rw [stN_0 hf'] at h
    by_cases q : x.2.2.1 < k ∧ x.2.1 < 6
    · rw [if_pos q] at h; cases h
      rw [ie' (by decide), it' (by decide), f_X0_goBy_133, minN (by omega) (by omega), rollX ok hf (by omega), obind, nI_1]
      rfl
    · rw [if_neg q] at h; cases h
  · rw [stN_1 hf'] at h; cases h
    rw [ie' (by decide), ie' (by decide), it' (by decide), f_X0_goBy_133, rollX ok hf (by omega), obind]
    rfl
  · rw [stN_2 hf'] at h
    by_cases q : 0 < x.2.1
    · rw [if_pos q] at h; cases h
      rw [ie' (by decide), ie' (by decide), ie' (by decide), ie' (by decide), f_X0_goBy_133, rollX ok hf (by omega), obind]
      rfl
    · rw [if_neg q] at h; cases h
  · rw [stN_3 hf'] at h
    by_cases q : 0 < x.2.1 ∧ 0 < x.2.2.2
    · rw [if_pos q] at h; cases h
      rw [ie' (by decide), ie' (by decide), ie' (by decide), it' (by decide), f_X0_goBy_133, max2N (by omega), rollX ok hf (by omega), obind, sub1N q.2]
      rfl
    · rw [if_neg q] at h; cases h
  · rw [stN_4 hf'] at h; cases h
    rw [it' (by decide), nI_1]
    rfl
abbrev P4 : Type := Nat × Nat × Nat × Nat
theorem nI_m9 {v : Nat} (h : v < 2 ^ 31) : nI v ≠ -9 := by
  intro q
  have := nI_pos h
  rw [q] at this
  exact this (by decide)
theorem z00 : (0 : Int32) = 0 := rfl
theorem n10 : ¬ (1 : Int32) = 0 := by decide
theorem gxF {c f : Nat} (hf : f < c) (hc : c ≤ 10) {α : Type} (k : Option α) : gx (nI f) 10 k = k := gxN (by omega) (by omega)
theorem Iz (z : Int32) : z < 0 ∨ ∃ n, n < 2 ^ 31 ∧ z = nI n := by
  by_cases h : z < 0
  · exact Or.inl h
  · exact Or.inr (nI_of h)
theorem ngT {z : Int32} (h : z < 0) {n : Nat} (hn : n < 2 ^ 31) : z < nI n := by
  have e := nI_toInt hn
  have := Int32.lt_iff_toInt_lt.mp h
  have z0 : (0 : Int32).toInt = 0 := rfl
  refine Int32.lt_iff_toInt_lt.mpr ?_
  omega
theorem ngL {z : Int32} (h : z < 0) {n : Nat} (hn : n < 2 ^ 31) : ¬ nI n ≤ z := by
  intro q
  exact Int32.lt_irrefl (Int32.lt_of_lt_of_le (ngT h hn) q)
theorem ngE {z : Int32} (h : z < 0) {n : Nat} (hn : n < 2 ^ 31) : ¬ z = nI n := by
  rintro rfl
  exact nI_pos hn h
theorem nle {a b : Int32} (h : a < b) : ¬ b ≤ a := fun q => Int32.lt_irrefl (Int32.lt_of_lt_of_le h q)
def bt (x : Int32) (i : Nat) : Bool := x.toBitVec.getLsbD i
theorem b_ext {x y : Int32} (h : ∀ i, i < 32 → bt x i = bt y i) : x = y := Int32.toBitVec_inj.mp (BitVec.eq_of_getLsbD_eq (fun i hi => h i hi))
theorem b_or (x y : Int32) (i : Nat) : bt (x ||| y) i = (bt x i || bt y i) := by unfold bt; rw [Int32.toBitVec_or, BitVec.getLsbD_or]
theorem b_and (x y : Int32) (i : Nat) : bt (x &&& y) i = (bt x i && bt y i) := by unfold bt; rw [Int32.toBitVec_and, BitVec.getLsbD_and]
theorem b_xor (x y : Int32) (i : Nat) : bt (x ^^^ y) i = (bt x i ^^ bt y i) := by unfold bt; rw [Int32.toBitVec_xor, BitVec.getLsbD_xor]
theorem b_big {x : Int32} {i : Nat} (h : 32 ≤ i) : bt x i = false := BitVec.getLsbD_of_ge _ _ h
theorem b_255 (i : Nat) : bt 255 i = decide (i < 8) := by
  rcases Nat.lt_or_ge i 32 with h | h
  · exact (by decide +kernel : ∀ i, i < 32 → bt 255 i = decide (i < 8)) i h
  · rw [b_big h, decide_eq_false (by omega)]
theorem b_65535 (i : Nat) : bt 65535 i = decide (i < 16) := by
  rcases Nat.lt_or_ge i 32 with h | h
  · exact (by decide +kernel : ∀ i, i < 32 → bt 65535 i = decide (i < 16)) i h
  · rw [b_big h, decide_eq_false (by omega)]
theorem b_m1 : ∀ i, i < 32 → bt (-1) i = true := by decide +kernel
theorem b_0 (i : Nat) : bt 0 i = false := BitVec.getLsbD_zero
theorem s_l : ∀ n, n < 32 → ((nI n &&& 31).toBitVec.smod 32).toNat = n := by decide +kernel
theorem s_u : ∀ n, n < 32 → (((nI n).toUInt32 &&& Int32.toUInt32 31).toBitVec % 32).toNat = n := by decide +kernel
theorem b_shl (n : Nat) (hn : n < 32) (x : Int32) {i : Nat} (hi : i < 32) : bt (x <<< (nI n &&& 31)) i = (decide (n ≤ i) && bt x (i - n)) := by
  unfold bt
  rw [Int32.toBitVec_shiftLeft]
  show (x.toBitVec <<< ((nI n &&& 31).toBitVec.smod 32).toNat).getLsbD i = _
  rw [s_l n hn, BitVec.getLsbD_shiftLeft]
  rcases Nat.lt_or_ge i n with h | h
  · simp [h, Nat.not_le.mpr h]
  · simp [hi, h, Nat.not_lt.mpr h]
theorem b_ushr (n : Nat) (hn : n < 32) (x : Int32) (i : Nat) : bt ((x.toUInt32 >>> ((nI n).toUInt32 &&& Int32.toUInt32 31)).toInt32) i = bt x (n + i) := by
  show (x.toUInt32 >>> ((nI n).toUInt32 &&& Int32.toUInt32 31)).toBitVec.getLsbD i = x.toUInt32.toBitVec.getLsbD (n + i)
  rw [UInt32.toBitVec_shiftRight]
  show (x.toUInt32.toBitVec >>> (((nI n).toUInt32 &&& Int32.toUInt32 31).toBitVec % 32).toNat).getLsbD i = _
  rw [s_u n hn, BitVec.getLsbD_ushiftRight]
theorem b_sshr (n : Nat) (hn : n < 32) (x : Int32) {i : Nat} (hi : i < 32) : bt (x >>> (nI n &&& 31)) i = if n + i < 32 then bt x (n + i) else bt x 31 := by
  unfold bt
  rw [Int32.toBitVec_shiftRight]
  show (x.toBitVec.sshiftRight ((nI n &&& 31).toBitVec.smod 32).toNat).getLsbD i = _
  rw [s_l n hn, BitVec.getLsbD_sshiftRight, BitVec.msb_eq_getLsbD_last]
  simp [hi]
/-! one bit told as a number -/
theorem b_1 (i : Nat) : bt 1 i = decide (i = 0) := by
  rcases Nat.lt_or_ge i 32 with h | h
  · exact (by decide +kernel : ∀ i, i < 32 → bt 1 i = decide (i = 0)) i h
  · rw [b_big h, decide_eq_false (by omega)]
theorem bitv (v : Int32) {f : Nat} (hf : f < 32) : ((v >>> (nI f &&& 31)) &&& (1 : Int32)) = if bt v f = true then 1 else 0 := by
  refine b_ext (fun i hi => ?_)
  rw [b_and, b_1, b_sshr f hf v hi]
  by_cases h0 : i = 0
  · subst h0
    rw [if_pos (by omega), decide_eq_true rfl, Bool.and_true, Nat.add_zero]
    cases hb : bt v f
    · rw [if_neg (by decide), b_0]
    · rw [if_pos rfl, b_1, decide_eq_true rfl]
  · rw [decide_eq_false h0, Bool.and_false]
    split
    · rw [b_1, decide_eq_false h0]
    · rw [b_0]
theorem b_one {f : Nat} (hf : f < 32) {i : Nat} (hi : i < 32) : bt ((1 : Int32) <<< (nI f &&& 31)) i = decide (i = f) := by
  rw [b_shl f hf 1 hi, b_1]
  by_cases h : i = f
  · subst h
    rw [decide_eq_true (Nat.le_refl i), decide_eq_true (Nat.sub_self i), decide_eq_true rfl]; rfl
  · rw [decide_eq_false h]
    by_cases h2 : f ≤ i
    · rw [decide_eq_false (by omega : ¬ i - f = 0), Bool.and_false]
    · rw [decide_eq_false h2, Bool.false_and]
theorem b_set (v : Int32) {f : Nat} (hf : f < 32) {i : Nat} (hi : i < 32) : bt (v ||| ((1 : Int32) <<< (nI f &&& 31))) i = if i = f then true else bt v i := by
  rw [b_or, b_one hf hi]
  by_cases h : i = f
  · rw [decide_eq_true h, Bool.or_true, if_pos h]
  · rw [decide_eq_false h, Bool.or_false, if_neg h]
theorem b_clr (v : Int32) {f : Nat} (hf : f < 32) {i : Nat} (hi : i < 32) : bt (v &&& (((1 : Int32) <<< (nI f &&& 31)) ^^^ (-1 : Int32))) i = if i = f then false else bt v i := by
  rw [b_and, b_xor, b_one hf hi, b_m1 i hi]
  by_cases h : i = f
  · rw [decide_eq_true h, if_pos h]; cases bt v i <;> rfl
  · rw [decide_eq_false h, if_neg h]; cases bt v i <;> rfl
/-! the law's small helpers -/
theorem someL (v : Int32) {d : Nat} (h0 : 0 < d) (hd : d < 2 ^ 31) : ∃ r, r < d ∧ f_L_some v (nI d) = some (nI r) := by
  have hm : v.toBitVec.toNat % 2 ^ 31 < 2 ^ 31 := Nat.mod_lt _ (by decide)
  refine ⟨v.toBitVec.toNat % 2 ^ 31 % d, Nat.mod_lt _ h0, ?_⟩
  rw [f_L_some, gdi (nI_ne0 h0 hd), pk_and v 31 rfl, pk_rem hm h0 hd]
theorem cellL {sL : Nat} (hL : sL ≤ 260) (xs : Nat → Int32) {k : Nat} (hk : k < 2 ^ 31) : ∃ v, f_L_cell (nI k) sL xs = some v := by
  rw [f_L_cell]
  by_cases h : sL ≤ k
  · exact ⟨_, it' (nI_le h hk)⟩
  · exact ⟨_, by rw [ie' (nI_ge (by omega) (by omega)), gxN (by omega) (by omega)]⟩
