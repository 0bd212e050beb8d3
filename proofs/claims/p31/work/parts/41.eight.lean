/-! the law's tail answers 1 -/
theorem bgo {α β : Type} {x : Option α} {a : α} {F : α → Option β} {r : β} (e : x = some a) (k : F a = some r) : x.bind F = some r := by rw [e]; exact k
theorem igo {α : Type} {c : Prop} [Decidable c] {a b : Option α} {r : α} (h : c) (k : a = some r) : (if c then a else b) = some r := by rw [if_pos h]; exact k
theorem ego {α : Type} {c : Prop} [Decidable c] {a b : Option α} {r : α} (h : ¬ c) (k : b = some r) : (if c then a else b) = some r := by rw [if_neg h]; exact k
theorem ggo1 {α : Type} {x : Option α} {r : α} (k : x = some r) : gx (1 : Int32) 25 x = some r := by rw [g25_1]; exact k
theorem ggo2 {α : Type} {x : Option α} {r : α} (k : x = some r) : gx (2 : Int32) 25 x = some r := by rw [g25_2]; exact k
theorem ggo3 {α : Type} {x : Option α} {r : α} (k : x = some r) : gx (3 : Int32) 25 x = some r := by rw [g25_3]; exact k
abbrev R9 : Type := Int32 × Int32 × Int32 × Int32 × Int32 × Int32 × Int32 × Int32 × Int32
def HW (cn st kn sb th ln le : Int32) (kd tk gr ce : Nat → Int32) (zs zl zi zn zv : Int32) (zk : Nat) (e : Int32) : Prop := ∀ (f1 f2 f3 f4 f5 f6 f7 : Int32), ∃ o : R9, f_X4_way f1 f2 f3 f4 f5 f6 f7 cn st kn sb th ln le kd tk gr ce zs zl zi zn zv zk = some o ∧ o.1 = e
theorem HW.go {cn st kn sb th ln le : Int32} {kd tk gr ce : Nat → Int32} {zs zl zi zn zv : Int32} {zk : Nat} {e : Int32} {f1 f2 f3 f4 f5 f6 f7 : Int32} {F : R9 → Option Int32} (h : HW cn st kn sb th ln le kd tk gr ce zs zl zi zn zv zk e) (k : ∀ o : R9, o.1 = e → F o = some 1) : (f_X4_way f1 f2 f3 f4 f5 f6 f7 cn st kn sb th ln le kd tk gr ce zs zl zi zn zv zk).bind F = some 1 := by
  obtain ⟨o, e1, h1⟩ := h f1 f2 f3 f4 f5 f6 f7
  rw [e1]
  exact k o h1
/-! the eight ways asked about, one behind another -/
section Eight
variable {cn st kn sb thb lnb leb : Int32} {kd tk gr ceb gg : Nat → Int32} {kh : Int32 → Int32 → Int32 → Int32 → Int32 → Int32 → Int32 → Int32 → Int32 → Int32 → Int32 → Int32 → Int32 → (Nat → Int32) → Int32 → Int32 → Int32 → (Nat → Int32) → (Nat → Int32) → Option (Int32)} {x4 x5 x7 x8 x9 x10 x11 x12 x13 : Int32}
def KH (kh : Int32 → Int32 → Int32 → Int32 → Int32 → Int32 → Int32 → Int32 → Int32 → Int32 → Int32 → Int32 → Int32 → (Nat → Int32) → Int32 → Int32 → Int32 → (Nat → Int32) → (Nat → Int32) → Option (Int32)) (x4 x5 st kn sb thb lnb leb : Int32) (gr ceb gg : Nat → Int32) : Prop := ∀ (lf flx pcx ftx tix sox sex pux : Int32), kh x4 (x5 + (1 : Int32)) lf flx pcx ftx tix sox sex pux st kn sb gr thb lnb leb ceb gg = some 1
theorem t676 (hk : KH kh x4 x5 st kn sb thb lnb leb gr ceb gg) {y0 y1 : Int32} (h : y0 = y1) (lf flx pcx ftx tix sox sex pux : Int32) : f_LT_85_676 kh x4 x5 y0 y1 lf flx pcx ftx tix sox sex pux st kn sb gr thb lnb leb ceb gg = some 1 := by
  rw [f_LT_85_676]
  exact igo h (hk _ _ _ _ _ _ _ _)
theorem t650 (hk : KH kh x4 x5 st kn sb thb lnb leb gr ceb gg) (H7 : HW cn st kn sb thb lnb leb kd tk gr ceb 1 0 2 x7 7 1 (if 0 ≤ x12 then x13 else x11)) {y0 y1 : Int32} (h : y0 = y1) (lf flx pcx ftx tix sox sex pux : Int32) : f_LT_85_650 cn kd tk kh x4 x5 x7 x11 x12 x13 y0 y1 lf flx pcx ftx tix sox sex pux st kn sb gr thb lnb leb ceb gg = some 1 := by
  rw [f_LT_85_650]
  refine igo h (HW.go H7 (fun o ho => ?_))
  by_cases q : 0 ≤ x12
  · rw [if_pos q] at ho
    exact igo q (t676 hk  ho _ _ _ _ _ _ _ _)
  · rw [if_neg q] at ho
    exact ego q (t676 hk  ho _ _ _ _ _ _ _ _)
theorem t622 (hk : KH kh x4 x5 st kn sb thb lnb leb gr ceb gg) (H6 : HW cn st kn sb thb lnb leb kd tk gr ceb 1 0 2 x7 6 1 (if 0 ≤ x12 then x13 else x8 - x8 / (3 : Int32) * (3 : Int32))) (H7 : HW cn st kn sb thb lnb leb kd tk gr ceb 1 0 2 x7 7 1 (if 0 ≤ x12 then x13 else x11)) {y0 y1 : Int32} (h : y0 = y1) (lf flx pcx ftx tix sox sex pux : Int32) : f_LT_85_622 cn kd tk kh x4 x5 x7 x8 x11 x12 x13 y0 y1 lf flx pcx ftx tix sox sex pux st kn sb gr thb lnb leb ceb gg = some 1 := by
  rw [f_LT_85_622]
  refine igo h (HW.go H6 (fun o ho => ?_))
  by_cases q : 0 ≤ x12
  · rw [if_pos q] at ho
    exact igo q (t650 hk H7 ho _ _ _ _ _ _ _ _)
  · rw [if_neg q] at ho
    exact ego q (t650 hk H7 ho _ _ _ _ _ _ _ _)
theorem t593 (hk : KH kh x4 x5 st kn sb thb lnb leb gr ceb gg) (H5 : HW cn st kn sb thb lnb leb kd tk gr ceb 1 0 2 x7 5 1 (if 0 ≤ x12 then x13 else x8 / (3 : Int32) - x8 / (3 : Int32) / (4 : Int32) * (4 : Int32))) (H6 : HW cn st kn sb thb lnb leb kd tk gr ceb 1 0 2 x7 6 1 (if 0 ≤ x12 then x13 else x8 - x8 / (3 : Int32) * (3 : Int32))) (H7 : HW cn st kn sb thb lnb leb kd tk gr ceb 1 0 2 x7 7 1 (if 0 ≤ x12 then x13 else x11)) {y0 y1 : Int32} (h : y0 = y1) (lf flx pcx ftx tix sox sex pux : Int32) : f_LT_85_593 cn kd tk kh x4 x5 x7 x8 x11 x12 x13 y0 y1 lf flx pcx ftx tix sox sex pux st kn sb gr thb lnb leb ceb gg = some 1 := by
  rw [f_LT_85_593]
  refine igo h (HW.go H5 (fun o ho => ?_))
  by_cases q : 0 ≤ x12
  · rw [if_pos q] at ho
    exact igo q (t622 hk H6 H7 ho _ _ _ _ _ _ _ _)
  · rw [if_neg q] at ho
    exact ego q (t622 hk H6 H7 ho _ _ _ _ _ _ _ _)
theorem t568 (hk : KH kh x4 x5 st kn sb thb lnb leb gr ceb gg) (H4 : HW cn st kn sb thb lnb leb kd tk gr ceb 1 0 2 x7 4 1 (if 0 ≤ x12 then x13 else x10)) (H5 : HW cn st kn sb thb lnb leb kd tk gr ceb 1 0 2 x7 5 1 (if 0 ≤ x12 then x13 else x8 / (3 : Int32) - x8 / (3 : Int32) / (4 : Int32) * (4 : Int32))) (H6 : HW cn st kn sb thb lnb leb kd tk gr ceb 1 0 2 x7 6 1 (if 0 ≤ x12 then x13 else x8 - x8 / (3 : Int32) * (3 : Int32))) (H7 : HW cn st kn sb thb lnb leb kd tk gr ceb 1 0 2 x7 7 1 (if 0 ≤ x12 then x13 else x11)) {y0 y1 : Int32} (h : y0 = y1) (lf flx pcx ftx tix sox sex pux : Int32) : f_LT_85_568 cn kd tk kh x4 x5 x7 x8 x10 x11 x12 x13 y0 y1 lf flx pcx ftx tix sox sex pux st kn sb gr thb lnb leb ceb gg = some 1 := by
  rw [f_LT_85_568]
  refine igo h (HW.go H4 (fun o ho => ?_))
  by_cases q : 0 ≤ x12
  · rw [if_pos q] at ho
    exact igo q (t593 hk H5 H6 H7 ho _ _ _ _ _ _ _ _)
  · rw [if_neg q] at ho
    exact ego q (t593 hk H5 H6 H7 ho _ _ _ _ _ _ _ _)
theorem t537 (hk : KH kh x4 x5 st kn sb thb lnb leb gr ceb gg) (H3 : HW cn st kn sb thb lnb leb kd tk gr ceb 1 0 2 x7 3 1 (if 0 ≤ x12 then x13 else x8 / (12 : Int32) - x8 / (12 : Int32) / (7 : Int32) * (7 : Int32))) (H4 : HW cn st kn sb thb lnb leb kd tk gr ceb 1 0 2 x7 4 1 (if 0 ≤ x12 then x13 else x10)) (H5 : HW cn st kn sb thb lnb leb kd tk gr ceb 1 0 2 x7 5 1 (if 0 ≤ x12 then x13 else x8 / (3 : Int32) - x8 / (3 : Int32) / (4 : Int32) * (4 : Int32))) (H6 : HW cn st kn sb thb lnb leb kd tk gr ceb 1 0 2 x7 6 1 (if 0 ≤ x12 then x13 else x8 - x8 / (3 : Int32) * (3 : Int32))) (H7 : HW cn st kn sb thb lnb leb kd tk gr ceb 1 0 2 x7 7 1 (if 0 ≤ x12 then x13 else x11)) {y0 y1 : Int32} (h : y0 = y1) (lf flx pcx ftx tix sox sex pux : Int32) : f_LT_85_537 cn kd tk kh x4 x5 x7 x8 x10 x11 x12 x13 y0 y1 lf flx pcx ftx tix sox sex pux st kn sb gr thb lnb leb ceb gg = some 1 := by
  rw [f_LT_85_537]
  refine igo h (HW.go H3 (fun o ho => ?_))
  by_cases q : 0 ≤ x12
  · rw [if_pos q] at ho
    exact igo q (t568 hk H4 H5 H6 H7 ho _ _ _ _ _ _ _ _)
  · rw [if_neg q] at ho
    exact ego q (t568 hk H4 H5 H6 H7 ho _ _ _ _ _ _ _ _)
theorem t509 (hk : KH kh x4 x5 st kn sb thb lnb leb gr ceb gg) (H2 : HW cn st kn sb thb lnb leb kd tk gr ceb 1 0 2 x7 2 1 (if 0 ≤ x12 then x13 else x8 / (84 : Int32))) (H3 : HW cn st kn sb thb lnb leb kd tk gr ceb 1 0 2 x7 3 1 (if 0 ≤ x12 then x13 else x8 / (12 : Int32) - x8 / (12 : Int32) / (7 : Int32) * (7 : Int32))) (H4 : HW cn st kn sb thb lnb leb kd tk gr ceb 1 0 2 x7 4 1 (if 0 ≤ x12 then x13 else x10)) (H5 : HW cn st kn sb thb lnb leb kd tk gr ceb 1 0 2 x7 5 1 (if 0 ≤ x12 then x13 else x8 / (3 : Int32) - x8 / (3 : Int32) / (4 : Int32) * (4 : Int32))) (H6 : HW cn st kn sb thb lnb leb kd tk gr ceb 1 0 2 x7 6 1 (if 0 ≤ x12 then x13 else x8 - x8 / (3 : Int32) * (3 : Int32))) (H7 : HW cn st kn sb thb lnb leb kd tk gr ceb 1 0 2 x7 7 1 (if 0 ≤ x12 then x13 else x11)) {y0 y1 : Int32} (h : y0 = y1) (lf flx pcx ftx tix sox sex pux : Int32) : f_LT_85_509 cn kd tk kh x4 x5 x7 x8 x10 x11 x12 x13 y0 y1 lf flx pcx ftx tix sox sex pux st kn sb gr thb lnb leb ceb gg = some 1 := by
  rw [f_LT_85_509]
  refine igo h (HW.go H2 (fun o ho => ?_))
  by_cases q : 0 ≤ x12
  · rw [if_pos q] at ho
    exact igo q (t537 hk H3 H4 H5 H6 H7 ho _ _ _ _ _ _ _ _)
  · rw [if_neg q] at ho
    exact ego q (t537 hk H3 H4 H5 H6 H7 ho _ _ _ _ _ _ _ _)
end Eight
