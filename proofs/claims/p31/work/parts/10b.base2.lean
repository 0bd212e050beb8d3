/-! the script: a fact beside the world -/
def SCR (sb sL : Nat) (xs : Nat → Int32) (A : Nat → Prop) (U : State) : Prop := va_T .int sb sL (fun j => .int (xs j)) A U U.heap
theorem SCR.moved {sb sL : Nat} {xs : Nat → Int32} {A : Nat → Prop} {u U : State} (hvm : u.vm.Alike U.vm) (h : va_T .int sb sL (fun j => .int (xs j)) A u U.heap) : SCR sb sL xs A U := va_T.moved hvm h
theorem SCR.to {sb sL : Nat} {xs : Nat → Int32} {A A' : Nat → Prop} {s U : State} {H : Heap} {locs : List Loc} (hz : SCR sb sL xs A s) (hS : va_S A s.heap H locs) (hf : ∀ q, A' q → A q) (hU : U.heap = H) (hW : s.vm.Alike U.vm) : SCR sb sL xs A' U := by
  subst hU
  exact ((va_T.kept hz hS.2.1).moved hW).narrow hf
theorem SCR.of {b L : Nat} {xs : Nat → Int32} {A : Nat → Prop} {s : State} (hX : va_X b L xs s s.heap) (hbA : ¬ A b) : SCR b L xs A s := by
  obtain ⟨scr, h1, h2, h3, h4, h5⟩ := hX
  exact ⟨scr, h1, h2, h3, Nat.le_of_eq h4.symm, by rw [h4], h5, hbA⟩
abbrev MIs (l : Launch) (y : MethodName) (ws : List Cond) (rm : Room) (sb sL : Nat) (xs : Nat → Int32) (D : va_G) (tys : List (ClassId × FieldType)) (w : va_W) (As : List Value) (post : Int32 → va_W → Prop) : Prop := ∀ sz, Met l y ws rm (PreE (SCR sb sL xs) D tys w sz As) (va_Qi post (PostW D tys (va_A w sz)) (va_A w sz)) 0 0 (va_A w sz)
theorem entIs {l : Launch} {y : MethodName} {ws ws' : List Cond} {rm : Room} {cc : ByteArray} {maxL : Nat} {ret : Option FieldType} {sb sL : Nat} {xs : Nat → Int32} {D : va_G} {tys : List (ClassId × FieldType)} {w : va_W} {As : List Value} {post : Int32 → va_W → Prop} {Rn : String} (hy : plainName y.cls = true) (hw : ws = Cond.code y cc maxL ret :: ws') (hR : y.cls = Rn) (hsz : (lg_sl As).length ≤ maxL)
    (body : ∀ (p : Program) (e : Env) (s : State) (m : MethodId) (args : Array Value) (below : List Frame) (meth : Method) (c : Code) (A : Nat → Prop) (Q : State → Prop), p.tables.exec = Jvm.exec → c.code = cc → meth.sig.returnType = ret → c.maxLocals = maxL → (∀ w ∈ ws, w.before args s = true) → s.vm.findClass Rn = some m.cls → meth.locks = false → (∀ q : Nat, s.heap.size ≤ q → A q) → va_P D vwCl w s.heap → va_D A w → va_K D vwCl tys s → va_S A s.heap s.heap [] → SCR sb sL xs A s → ∀ (ls : Array Slot), lv_has ls maxL (lv_args 0 As) → Q = MQ below (va_Qi post (PostW D tys A) A) args s 0 0 A → W p l e rm s m args below meth c s.heap [] 0 0 Q (F0 m 0 ls [])) : MIs l y ws rm sb sL xs D tys w As post :=
  entE (Qf := fun A => va_Qi post (PostW D tys A) A) hy hw hR hsz (fun p e s m args below meth c A Q a1 a2 a3 a4 a5 a6 a7 a8 a9 a10 a11 a12 a13 _ ls hl hQ => body p e s m args below meth c A Q a1 a2 a3 a4 a5 a6 a7 a8 a9 a10 a11 a12 a13 ls hl hQ)
section XE
variable {p : Program} {l : Launch} {e : Env} {R : Room} {s : State} {m : MethodId} {args : Array Value} {below : List Frame} {meth : Method} {c : Code} {H : Heap} {locs : List Loc} {cells slots : Nat} {Q : State → Prop} {y : MethodName} {bytes cc : ByteArray} {maxL nL n index mc ms : Nat} {ret : Option FieldType} {ws Ts : List Cond} {rm : Room} {own C host : String} {b : Addr} {As rest st0 : List Value} {pc : Nat} {ls : Array Slot} {D : va_G} {tys : List (ClassId × FieldType)} {wsx wc wr : va_W} {A0 : Nat → Prop} {H0 : Heap}
theorem xcSis {sb sL : Nat} {xs : Nat → Int32} {post : Int32 → va_W → Prop} (hz : SCR sb sL xs A0 s) (S : CallFix p m c cc nL s args Ts own) (hM : MIs l y ws rm sb sL xs D tys wc As post) (cw : CallB R s args own index y bytes maxL ret ws rm 0 0 n ∧ (Cond.static y).before args s = true) (hK : va_K D vwCl tys s) (hP : va_P D vwCl wsx H) (hD : va_D A0 wsx) (hS : va_S A0 s.heap H locs) (hA : ∀ q : Nat, s.heap.size ≤ q → A0 q) (isC isR : List Nat) (hC : isC.map (fun i => wsx[i]?) = wc.map some) (hR : isR.map (fun i => wsx[i]?) = wr.map some) (hnC : va_nd isC = true) (hnR : va_nd isR = true) (hdis : ∀ i ∈ isR, i ∉ isC) (hn : As.length = n) (hst : st0 = As.reverse ++ rest) (hsize : ls.size = nL) (hW : 2 * (F0 m pc ls st0).monitorRoom + (rest.map fun v => v.category).sum ≤ 8) (hdg : decode cc pc = .ok (.invokestatic index, 3)) (hf : cells + 0 ≤ R.cells ∧ slots + 0 ≤ R.slots)
    (kk : ∀ (r : Int32) (u : va_W) (H1 : Heap) (locs1 : List Loc), post r u → va_P D vwCl (wr ++ u) H1 → va_D A0 (wr ++ u) → va_S A0 s.heap H1 locs1 → W p l e R s m args below meth c H1 locs1 cells slots Q (F0 m (pc + 3) ls (.int r :: rest))) : W p l e R s m args below meth c H locs cells slots Q (F0 m pc ls st0) := by
  have hPc : va_P D vwCl wc H := fun k q hk => by
    obtain ⟨i, hi⟩ := xc_at hC k q hk
    exact hP i q hi
  have hDc := hD.sub isC hnC hC
  have hFc := va_free hD hS hA isC hC
  subst hst
  refine va_calli (va_runS (As := As) (rest := rest) S (hM H.size) cw ⟨fun a U g mk q => by
      obtain ⟨q0, q1, qP, qK, qD, qE⟩ := q
      exact ⟨q0, q1, qP, va_K.moved (u := U) (U := U.calling g mk a) (Vm.Alike.refl U.vm) qK, qD, SCR.moved (u := U) (U := U.calling g mk a) (Vm.Alike.refl U.vm) qE⟩, fun U hU hW => ⟨rfl, by rw [hU], by rw [hU]; exact hPc, va_K.moved hW.alike hK, hDc.weaken (fun _ _ _ _ => trivial), hz.to hS hFc hU hW.alike⟩⟩ rfl hn hsize rfl hW hdg hf) hS (fun q _ h => hFc q h) hFc (fun r u t H1 locs1 ht hvm hw hB hz1 hk1 hS1 => ?_)
  obtain ⟨hP1, hK1, hD1⟩ := hB
  rw [ht] at hP1
  obtain ⟨hP2, hD2⟩ := va_join hP hD isC isR hC hR hnR hdis hk1 hFc hP1 hD1
  exact kk r u H1 locs1 hw hP2 hD2 hS1
end XE
