/-! THROWS: what they need of the tables and the statics, contracts that may throw, their calls -/
abbrev nIO : String := "java/lang/IndexOutOfBoundsException"
abbrev nIA : String := "java/lang/IllegalArgumentException"
abbrev nIS : String := "java/lang/IllegalStateException"
abbrev xNames : List String := ["java/lang/RuntimeException", "java/lang/Exception"]
def xWd : List Cond := [.castable nIO nIO, .castable nIA nIA, .castable nIS nIS, .declares (Bundle.initS "java/lang/RuntimeException"), .declares (Bundle.initS "java/lang/Exception"), .declares (Bundle.initS "java/lang/Throwable")]
def xStr : List (Nat × String) := [(58, "there are 30 runs"), (78, "the run can't be ordered so"), (107, "the bus has a run that goes"), (109, "the minute would be above 30000"), (132, "there is no such number"), (137, "an argument is out of range")]
def xT (A : Nat → Prop) (U : State) (H : Heap) : Prop := (∀ w ∈ xWd, va_Nw w U) ∧ (∀ q ∈ xStr, ∃ sa, vk_R RX1 q.1 q.2 sa U) ∧ vx_Zq Bundle.tN "UNASSIGNED_STACK" Bundle.steD A U H ∧ vx_Zq Bundle.tN "SUPPRESSED_SENTINEL" Bundle.listD A U H
theorem xT.warm {A B : Nat → Prop} {s U : State} {H H1 : Heap} (h : xT A s H) (hW : s.WarmedH U.vm) (hq : ∀ a : Nat, a < H.size → ¬ A a → H1[a]? = H[a]?) (hAB : ∀ q, B q → A q) : xT B U H1 := by
  obtain ⟨h1, h2, h3, h4⟩ := h
  refine ⟨fun w hw => ?_, fun q hq' => ?_, ((h3.moved hW.alike).kept hq).narrow hAB, ((h4.moved hW.alike).kept hq).narrow hAB⟩
  · have h9 := h1 w hw
    simp only [xWd, List.mem_cons, List.not_mem_nil, or_false] at hw
    rcases hw with rfl | rfl | rfl | rfl | rfl | rfl
    · exact va_Nw.warmC hW h9
    · exact va_Nw.warmC hW h9
    · exact va_Nw.warmC hW h9
    · exact va_Nw.warmD hW h9
    · exact va_Nw.warmD hW h9
    · exact va_Nw.warmD hW h9
  · obtain ⟨sa, k⟩ := h2 q hq'
    exact ⟨sa, k.warm hW⟩
theorem xT.word {A : Nat → Prop} {U : State} {H : Heap} (h : xT A U H) {args : Array Value} : ∀ w ∈ xWd, w.before args U = true := by
  intro w hw
  have h9 := h.1 w hw
  simp only [xWd, List.mem_cons, List.not_mem_nil, or_false] at hw
  rcases hw with rfl | rfl | rfl | rfl | rfl | rfl <;> exact va_Nw.use rfl h9
/-- which of the three classes are not each other's -/
def xN (U : State) : Prop := va_Nc nIS nIA U ∧ va_Nc nIA nIO U ∧ va_Nc nIS nIO U
theorem va_Nc.warm {C T : String} {s U : State} (hW : s.WarmedH U.vm) (h : va_Nc C T s) : va_Nc C T U := by
  obtain ⟨c, t, h1, h2, h3⟩ := h
  exact ⟨c, t, by rw [hW.alike.findClass]; exact h1, by rw [hW.alike.findClass]; exact h2, by rw [hW.alike.assignable]; exact h3⟩
theorem xN.warm {s U : State} (hW : s.WarmedH U.vm) (h : xN s) : xN U := ⟨va_Nc.warm hW h.1, va_Nc.warm hW h.2.1, va_Nc.warm hW h.2.2⟩
def vIx (G : va_G) (cy : Nat → ClassId) (w : va_W) (sz : Nat) (U : State) : Prop := vI G cy w sz U ∧ xT (va_A w sz) U U.heap
def vIw (G : va_G) (cy : Nat → ClassId) (w : va_W) (sz : Nat) (U : State) : Prop := vIx G cy w sz U ∧ xN U
theorem vIx_blind {G : va_G} {cy : Nat → ClassId} {w : va_W} {sz : Nat} {as : List Value} : FrameBlind (va_Pc as (vIx G cy w sz)) := fun a U g mk q => by
  obtain ⟨q0, ⟨q1, qP, qK, qD⟩, qX⟩ := q
  exact ⟨q0, ⟨q1, qP, va_K.moved (u := U) (U := U.calling g mk a) (Vm.Alike.refl U.vm) qK, qD⟩, qX.warm (U := U.calling g mk a) (State.WarmedH.refl U) (fun _ _ _ => rfl) (fun _ h => h)⟩
theorem vIw_blind {G : va_G} {cy : Nat → ClassId} {w : va_W} {sz : Nat} {as : List Value} : FrameBlind (va_Pc as (vIw G cy w sz)) := fun a U g mk q => by
  obtain ⟨q0, ⟨⟨q1, qP, qK, qD⟩, qX⟩, qN⟩ := q
  exact ⟨q0, ⟨⟨q1, qP, va_K.moved (u := U) (U := U.calling g mk a) (Vm.Alike.refl U.vm) qK, qD⟩, qX.warm (U := U.calling g mk a) (State.WarmedH.refl U) (fun _ _ _ => rfl) (fun _ h => h)⟩, qN.warm (U := U.calling g mk a) (State.WarmedH.refl U)⟩
/-- ends -/
def QXI (below : List Frame) (args : Array Value) (s : State) (G : va_G) (cy : Nat → ClassId) (A : Nat → Prop) (xo : Option String) (r : Int32) (w w' : va_W) (mc ms : Nat) : State → Prop := vx_MQ below (va_Qi (fun (r' : Int32) (_ : Unit) => xo = none ∧ r' = r) (fun _ => vO G cy A w') A) (vx_X (fun (_ : Unit) => True) (fun E _ t => xo = some E ∧ vO G cy A w t) A) args s mc ms A
def QXV (below : List Frame) (args : Array Value) (s : State) (G : va_G) (cy : Nat → ClassId) (A : Nat → Prop) (xo : Option String) (w w' : va_W) (mc ms : Nat) : State → Prop := vx_MQ below (va_Qv (fun (_ : Unit) => xo = none) (fun _ => vO G cy A w') A) (vx_X (fun (_ : Unit) => True) (fun E _ t => xo = some E ∧ vO G cy A w t) A) args s mc ms A
/-- contracts: an answer, or the exception xo with nothing changed -/
def KXI (l : Launch) (G : va_G) (cy : Nat → ClassId) (y : MethodName) (ws : List Cond) (fr lc mc ms : Nat) (as : List Value) (w : va_W) (xo : Option String) (r : Int32) (w' : va_W) : Prop := ∀ sz : Nat, vx_Met l y ws (vR fr lc mc ms) (va_Pc as (vIx G cy w sz)) (va_Qi (fun (r' : Int32) (_ : Unit) => xo = none ∧ r' = r) (fun _ => vO G cy (va_A w sz) w') (va_A w sz)) (vx_X (fun (_ : Unit) => True) (fun E _ t => xo = some E ∧ vO G cy (va_A w sz) w t) (va_A w sz)) mc ms (va_A w sz)
def KXV (l : Launch) (G : va_G) (cy : Nat → ClassId) (y : MethodName) (ws : List Cond) (fr lc mc ms : Nat) (as : List Value) (w : va_W) (xo : Option String) (w' : va_W) : Prop := ∀ sz : Nat, vx_Met l y ws (vR fr lc mc ms) (va_Pc as (vIx G cy w sz)) (va_Qv (fun (_ : Unit) => xo = none) (fun _ => vO G cy (va_A w sz) w') (va_A w sz)) (vx_X (fun (_ : Unit) => True) (fun E _ t => xo = some E ∧ vO G cy (va_A w sz) w t) (va_A w sz)) mc ms (va_A w sz)
/-- .. of a method that catches what it calls -/
def KW (l : Launch) (G : va_G) (cy : Nat → ClassId) (y : MethodName) (ws : List Cond) (fr lc mc ms : Nat) (as : List Value) (w : va_W) (r : Int32) (w' : va_W) : Prop := ∀ sz : Nat, Met l y ws (vR fr lc mc ms) (va_Pc as (vIw G cy w sz)) (va_Qi (fun (r' : Int32) (_ : Unit) => r' = r) (fun _ => vO G cy (va_A w sz) w') (va_A w sz)) mc ms (va_A w sz)
section VXK
variable {l : Launch} {G : va_G} {cy : Nat → ClassId} {y : MethodName} {ws ws' : List Cond} {fr lc mc ms : Nat} {as : List Value} {w w' : va_W} {xo : Option String} {r : Int32} {cc : ByteArray} {maxL : Nat} {ret : Option FieldType} {hh : List (Nat × Nat × Nat × Nat)}
theorem KXI_of {own : String} {lo0 : List (Option Value)} (hy : plainName y.cls = true) (ho : y.cls = own) (hw : ws = Cond.code y cc maxL ret :: ws') (hc : ∀ v ∈ as, v.category = 1) (hn : as.length ≤ maxL) (hlo : as.map some ++ List.replicate (maxL - as.length) none = lo0)
    (body : ∀ (p : Program) (e : Env) (s : State) (m : MethodId) (args : Array Value) (below : List Frame) (meth : Method) (c : Code) (A : Nat → Prop), vC p s m args meth c cc maxL ws own ret G cy A → xT A s s.heap → (∀ x ∈ c.exceptionTable.toList, False) → V p l e (vR fr lc mc ms) s m args below meth c maxL G A (QXI below args s G cy A xo r w w' mc ms) w 0 0 0 lo0 []) : KXI l G cy y ws fr lc mc ms as w xo r w' := by
  intro sz
  refine vx_ofW (cc := cc) (maxL := maxL) (ret := ret) hy hw ?_
  intro p e s m args below meth c s₁ B hml hT hv
  obtain ⟨rfl, ⟨hsz, hP, hK, hD0⟩, hX⟩ := hv
  subst hsz
  have hown : s.vm.findClass own = some m.cls := by rw [← ho]; exact findClass_of_methodNamed B.named
  have C : vC p s m as.toArray meth c cc maxL ws own ret G cy (va_A w s.heap.size) := ⟨⟨B.exec, B.bytes, hml, hown, atoms_spec (ws := ws) B.pre⟩, hK, fun q h => Or.inr h, B.returns, B.notSynchronized⟩
  have hb := body p e s m as.toArray below meth c (va_A w s.heap.size) C hX hT
  have h := hb s.heap [] _ hP hD0.self va_S.rf (by rw [← hlo]; exact lo_entry as hc hn)
  rw [lg_entry_eq]
  exact h
theorem KXV_of {own : String} {lo0 : List (Option Value)} (hy : plainName y.cls = true) (ho : y.cls = own) (hw : ws = Cond.code y cc maxL ret :: ws') (hc : ∀ v ∈ as, v.category = 1) (hn : as.length ≤ maxL) (hlo : as.map some ++ List.replicate (maxL - as.length) none = lo0)
    (body : ∀ (p : Program) (e : Env) (s : State) (m : MethodId) (args : Array Value) (below : List Frame) (meth : Method) (c : Code) (A : Nat → Prop), vC p s m args meth c cc maxL ws own ret G cy A → xT A s s.heap → (∀ x ∈ c.exceptionTable.toList, False) → V p l e (vR fr lc mc ms) s m args below meth c maxL G A (QXV below args s G cy A xo w w' mc ms) w 0 0 0 lo0 []) : KXV l G cy y ws fr lc mc ms as w xo w' := by
  intro sz
  refine vx_ofW (cc := cc) (maxL := maxL) (ret := ret) hy hw ?_
  intro p e s m args below meth c s₁ B hml hT hv
  obtain ⟨rfl, ⟨hsz, hP, hK, hD0⟩, hX⟩ := hv
  subst hsz
  have hown : s.vm.findClass own = some m.cls := by rw [← ho]; exact findClass_of_methodNamed B.named
  have C : vC p s m as.toArray meth c cc maxL ws own ret G cy (va_A w s.heap.size) := ⟨⟨B.exec, B.bytes, hml, hown, atoms_spec (ws := ws) B.pre⟩, hK, fun q h => Or.inr h, B.returns, B.notSynchronized⟩
  have hb := body p e s m as.toArray below meth c (va_A w s.heap.size) C hX hT
  have h := hb s.heap [] _ hP hD0.self va_S.rf (by rw [← hlo]; exact lo_entry as hc hn)
  rw [lg_entry_eq]
  exact h
theorem KW_of {own : String} {lo0 : List (Option Value)} (hy : plainName y.cls = true) (ho : y.cls = own) (hw : ws = Cond.codeWith y cc maxL ret hh :: ws') (hc : ∀ v ∈ as, v.category = 1) (hn : as.length ≤ maxL) (hlo : as.map some ++ List.replicate (maxL - as.length) none = lo0)
    (body : ∀ (p : Program) (e : Env) (s : State) (m : MethodId) (args : Array Value) (below : List Frame) (meth : Method) (c : Code) (A : Nat → Prop), vC p s m args meth c cc maxL ws own ret G cy A → xT A s s.heap → xN s → c.exceptionTable.toList = tableOf hh → V p l e (vR fr lc mc ms) s m args below meth c maxL G A (QI below args s G cy A r w' mc ms) w 0 0 0 lo0 []) : KW l G cy y ws fr lc mc ms as w r w' := by
  intro sz
  refine va_MetW (cc := cc) (maxL := maxL) (ret := ret) hy hw ?_
  intro p e s m args below meth c s₁ B hml hv
  obtain ⟨rfl, ⟨⟨hsz, hP, hK, hD0⟩, hX⟩, hN⟩ := hv
  subst hsz
  have hown : s.vm.findClass own = some m.cls := by rw [← ho]; exact findClass_of_methodNamed B.named
  have hts := atoms_spec (ws := ws) B.pre
  have C : vC p s m as.toArray meth c cc maxL ws own ret G cy (va_A w s.heap.size) := ⟨⟨B.exec, B.bytes, hml, hown, hts⟩, hK, fun q h => Or.inr h, B.returns, B.notSynchronized⟩
  have hb := body p e s m as.toArray below meth c (va_A w s.heap.size) C hX hN (vx_table (x := y) B (hts _ (by rw [hw]; exact List.mem_cons_self)))
  have h := hb s.heap [] _ hP hD0.self va_S.rf (by rw [← hlo]; exact lo_entry as hc hn)
  rw [lg_entry_eq]
  exact h
end VXK
section VXR
variable {p : Program} {l : Launch} {e : Env} {R : Room} {s : State} {m : MethodId} {args : Array Value} {below : List Frame} {meth : Method} {c : Code} {cells slots : Nat} {Q : State → Prop} {cc : ByteArray} {nL : Nat} {Ts : List Cond} {own : String} {ret : Option FieldType} {G : va_G} {cy : Nat → ClassId} {A : Nat → Prop} {w w' w2 wc w1 : va_W} {pc : Nat} {lo : List (Option Value)} {st rest : List Value} {xo xc : Option String} {mcM msM : Nat} {r0 : Int32}
variable {y : MethodName} {wsY wsY' : List Cond} {fr lc mc ms : Nat} {As : List Value} {r : Int32} {b : Nat} {bytes : ByteArray} {maxL idx nA : Nat} {retY : Option FieldType}
theorem v_xret0 {v r : Int32} {ty : FieldType} (C : vC p s m args meth c cc nL Ts own (some ty) G cy A) (hn : narrow ty (.int v) = .int v) (hd : decode cc pc = .ok (.ireturn, 1)) (hxo : xo = none) (hr : v = r) (h1 : cells ≤ mcM) (h2 : slots ≤ msM) : V p l e R s m args below meth c nL G A (QXI below args s G cy A xo r w w2 mcM msM) w2 cells slots (pc) lo ([.int v]) := by
  intro H locs ls hP hD hS hl
  refine W.widen h1 h2 ?_
  exact vx_ret (W.zret C.1.1 C.1.2.1 C.2.2.2.1 hn (fun t ht hW => ⟨⟨v, (), rfl, ⟨hxo, hr⟩, by rw [ht]; exact hP, va_K.moved hW.alike C.2.1, hD⟩, hS.F ht⟩) hS.2.2 hd C.2.2.2.2)
theorem v_xiret {v r : Int32} (C : vC p s m args meth c cc nL Ts own (some .int) G cy A) (hd : decode cc pc = .ok (.ireturn, 1)) (hxo : xo = none) (hr : v = r) (h1 : cells ≤ mcM) (h2 : slots ≤ msM) : V p l e R s m args below meth c nL G A (QXI below args s G cy A xo r w w2 mcM msM) w2 cells slots (pc) lo ([.int v]) := v_xret0 C rfl hd hxo hr h1 h2
theorem v_xzret {v r : Int32} (C : vC p s m args meth c cc nL Ts own (some .boolean) G cy A) (hn : vp_nar .boolean v = v) (hd : decode cc pc = .ok (.ireturn, 1)) (hxo : xo = none) (hr : v = r) (h1 : cells ≤ mcM) (h2 : slots ≤ msM) : V p l e R s m args below meth c nL G A (QXI below args s G cy A xo r w w2 mcM msM) w2 cells slots (pc) lo ([.int v]) := v_xret0 C (by have h : narrow .boolean (.int v) = .int (vp_nar .boolean v) := rfl; rw [h, hn]) hd hxo hr h1 h2
theorem v_xvret (C : vC p s m args meth c cc nL Ts own none G cy A) (hd : decode cc pc = .ok (.return_, 1)) (hxo : xo = none) (h1 : cells ≤ mcM) (h2 : slots ≤ msM) : V p l e R s m args below meth c nL G A (QXV below args s G cy A xo w w2 mcM msM) w2 cells slots (pc) lo ([]) := by
  intro H locs ls hP hD hS hl
  refine W.widen h1 h2 ?_
  exact vx_ret (W.vret C.1.1 C.1.2.1 C.2.2.2.1 (fun t ht hW => ⟨⟨(), rfl, hxo, by rw [ht]; exact hP, va_K.moved hW.alike C.2.1, hD⟩, hS.F ht⟩) hS.2.2 hd C.2.2.2.2)
theorem v_kept {H H1 : Heap} (hP : va_P G vwCl w H) (h : ∀ q : Nat, q < H.size → H1[q]? = H[q]?) : va_P G vwCl w H1 := by
  rw [vP_iff] at hP ⊢
  exact fun q hq => (hP q hq).kept (h q.1 (hP q hq).lt)
/-- throw new E("text"), with nothing changed -/
theorem v_xthrow (C : vC p s m args meth c cc nL Ts own ret G cy A) (hX : xT A s s.heap) (he : ∀ x ∈ c.exceptionTable.toList, False) (hl : l.stackTraces = false) {Qc : Array Value → State → Outcome → State → Prop} {ik is ic : Nat} {cls text : String} (hcls : Bundle.fit cls = true) (hk : Cond.classLink own ik cls ∈ Ts) (hini : Cond.initialized cls ∈ Ts) (hin : ∀ w ∈ (vx_atS own ic cls xNames).filter goodWord, w ∈ Ts)
    (hbad : ∀ w ∈ (vx_atS own ic cls xNames).filter (fun w => !goodWord w), w ∈ xWd) (hgood : ∀ w ∈ Cond.classLink own ik cls :: Cond.initialized cls :: vx_atS own ic cls xNames, vx_ot w = true) (ho : own = RX1) (hstr : (is, text) ∈ xStr)
    (d0 : decode cc pc = .ok (.new ik, 3)) (d3 : decode cc (pc + 3) = .ok (.dup, 1)) (d4 : decode cc (pc + 4) = .ok (.ldc is, 2)) (d6 : decode cc (pc + 6) = .ok (.invokespecial ic, 3)) (d9 : decode cc (pc + 9) = .ok (.athrow, 1))
    (hxo : xo = some cls) (hR : 5 < R.frames ∧ 82 ≤ R.locals) (hRc : cells + 1 ≤ R.cells ∧ slots + 6 ≤ R.slots) (hc : cells + 1 ≤ mcM) (hs : slots + 6 ≤ msM) : V p l e R s m args below meth c nL G A (vx_MQ below Qc (vx_X (fun (_ : Unit) => True) (fun E _ t => xo = some E ∧ vO G cy A w t) A) args s mcM msM A) w cells slots (pc) lo ([]) := by
  intro H locs ls hP hD hS hlo
  subst ho
  obtain ⟨x1, x2, x3, x4⟩ := id hX
  obtain ⟨sa, hsa⟩ := x2 _ hstr
  refine vx_throwS (names := xNames) C.1.1 C.1.2.1 hl C.1.2.2.2.1 hcls (by decide +kernel) (C.1.2.2.2.2 _ hk) (C.1.2.2.2.2 _ hini) hsa (vx_hat (fun w hw => C.1.2.2.2.2 _ (hin w hw)) hbad hX.word) hgood x3 x4 hS (hlo.1.1.trans C.1.2.2.1.symm) d0 d3 d4 d6 d9 (fun x hx => absurd (he x hx) id) (by simpa using hR.1) (by simpa using hR.2) hRc.1 hRc.2 C.2.2.2.2 (fun t ht1 ht2 ht3 => ?_) hS.2.2 hc hs
  exact ⟨(), trivial, ⟨hxo, v_kept hP ht3, va_K.moved ht1 C.2.1, hD⟩, Nat.le_trans hS.1 ht2, fun q h1 h2 => by rw [ht3 q (Nat.lt_of_lt_of_le h1 hS.1)]; exact hS.2.1 q h1 h2⟩
/-- a static call that may throw; what it throws goes on to the caller -/
theorem v_xSV (C : vC p s m args meth c cc nL Ts own ret G cy A) (hX : xT A s s.heap) (he : ∀ x ∈ c.exceptionTable.toList, False) {Qc : Array Value → State → Outcome → State → Prop} (k : KXV l G cy y wsY fr lc mc ms As w xc w) (hw : wsY = Cond.code y bytes maxL retY :: wsY') (hg : GoodIn Ts (va_wsS own idx y wsY))
    (hy : y.cls ≠ "java/lang/invoke/MethodHandle" ∧ y.cls ≠ "java/lang/invoke/VarHandle" ∧ (parseMethodDescriptor y.desc).map (fun d => d.parameters.length) = some nA) (hna : As.length = nA) (hR : fr + 1 ≤ R.frames ∧ 8 + (maxL + 11) + lc ≤ R.locals) (hcs : cells + mc ≤ R.cells ∧ slots + ms ≤ R.slots) (hcm : cells + mc ≤ mcM ∧ slots + ms ≤ msM)
    (hst : st = As.reverse ++ rest) (hcat : (rest.map fun v => v.category).sum ≤ 8) (hd : decode cc pc = .ok (.invokestatic idx, 3)) (kt : ∀ E, xc = some E → xo = some E) (kk : xc = none → V p l e R s m args below meth c nL G A (vx_MQ below Qc (vx_X (fun (_ : Unit) => True) (fun E _ t => xo = some E ∧ vO G cy A w t) A) args s mcM msM A) w (cells + mc) (slots + ms) (pc + 3) lo (rest)) : V p l e R s m args below meth c nL G A (vx_MQ below Qc (vx_X (fun (_ : Unit) => True) (fun E _ t => xo = some E ∧ vO G cy A w t) A) args s mcM msM A) w cells slots (pc) lo (st) := by
  subst hst
  intro H locs ls hP hD hS hl
  have hFc := v_free hD hS C.2.2.1
  refine vx_callv (vx_runS (As := As) (rest := rest) C.1 (k H.size) (va_cwS nA C.1.2.2.2.2 hg hw rfl rfl hy hR) ⟨vIx_blind, fun U hU hW => ⟨rfl, ⟨by rw [hU], by rw [hU]; exact hP, va_K.moved hW.alike C.2.1, hD.weaken (fun _ _ _ _ => trivial)⟩, hX.warm hW (fun a h1 h2 => by rw [hU]; exact hS.2.1 a h1 h2) hFc⟩⟩ rfl hna (hl.1.1) rfl (lv_room hcat) hd hcs) hS (fun q _ h => hFc q h) hFc (fun q _ h => hFc q h) (fun E ce q9 u t H1 locs1 ht hvm hp hB hz hk hS1 hce hcv hcl => ?_) (fun u t H1 locs1 ht hvm hp hB hz hk hS1 => ?_)
  · obtain ⟨hxE, hP1, hK1, hD1⟩ := hB
    rw [ht] at hP1
    have h9 := v_join (wl := []) (wr := []) (wc := w) (by simpa using hP) (by simpa using hD) hFc hk hP1 hD1
    simp only [List.nil_append, List.append_nil] at h9
    exact vx_out (fun x hx => absurd (he x hx) id) C.2.2.2.2 hce hcv hcl (fun t2 ht2 hv2 => ⟨(), trivial, ⟨kt E hxE, by rw [ht2]; exact h9.1, va_K.moved hv2 C.2.1, h9.2⟩, hS1.F ht2⟩) hS1.2.2 hcm.1 hcm.2
  · obtain ⟨hP1, hK1, hD1⟩ := hB
    rw [ht] at hP1
    have h9 := v_join (wl := []) (wr := []) (wc := w) (by simpa using hP) (by simpa using hD) hFc hk hP1 hD1
    simp only [List.nil_append, List.append_nil] at h9
    exact kk hp H1 locs1 ls h9.1 h9.2 hS1 hl
/-- how the table of a method takes E, thrown at pc: on with F at the handler -/
def xH (s : State) (args : Array Value) (c : Code) (own : String) (pc : Nat) (E : String) (F : Nat → Prop) : Prop := ∃ (pre : List ExceptionTableEntry) (x : ExceptionTableEntry) (suf : List ExceptionTableEntry) (nm : String), c.exceptionTable.toList = pre ++ x :: suf ∧ (∀ z ∈ pre, covers z pc = false ∨ (z.catchType ≠ 0 ∧ ∃ nm : String, (Cond.classLink own z.catchType nm).before args s = true ∧ va_Nc E nm s)) ∧ covers x pc = true ∧ x.catchType ≠ 0 ∧ (Cond.classLink own x.catchType nm).before args s = true ∧ (Cond.castable E nm).before args s = true ∧ F x.handlerPc
/-- a virtual call whose exceptions the method's own table takes -/
theorem v_tryVI (C : vC p s m args meth c cc nL Ts own ret G cy A) (hX : xT A s s.heap) (wl wr : va_W) (k : KXI l G cy y wsY fr lc mc ms (.ref b :: As) wc xc r w1) (hw : wsY = Cond.code y bytes maxL retY :: wsY') (hg : GoodIn Ts (wsV own idx y.cls y wsY))
    (hy : y.cls = y.cls ∧ y.cls ≠ "java/lang/invoke/MethodHandle" ∧ y.cls ≠ "java/lang/invoke/VarHandle" ∧ (parseMethodDescriptor y.desc).map (fun d => d.parameters.length) = some nA) (hna : As.length = nA) (hR : fr + 1 ≤ R.frames ∧ 8 + (maxL + 11) + lc ≤ R.locals) (hcs : cells + mc ≤ R.cells ∧ slots + ms ≤ R.slots)
    (hst : st = As.reverse ++ .ref b :: rest) (hcat : (rest.map fun v => v.category).sum ≤ 8) (q0 ci : Nat) {q : vw_C} {fs : List Value} (hrc : wc[q0]? = some (b, .inr (ci, fs))) (hci : vwCl[ci]? = some q) (hq : q.1 = y.cls)
    (hw0 : w = wl ++ (wc ++ wr)) (hw2 : wl ++ (w1 ++ wr) = w2) (hd : decode cc pc = .ok (.invokevirtual idx, 3)) (kx : ∀ E (a : Nat), xc = some E → xH s args c own pc E (fun hp => V p l e R s m args below meth c nL G A Q w (cells + mc) (slots + ms) (hp) lo ([.ref a]))) (kk : xc = none → V p l e R s m args below meth c nL G A Q w2 (cells + mc) (slots + ms) (pc + 3) lo (.int r :: rest)) : V p l e R s m args below meth c nL G A Q w cells slots (pc) lo (st) := by
  subst hst
  subst hw0
  subst hw2
  intro H locs ls hP hD hS hl
  obtain ⟨hPc, hDc⟩ := v_in hP hD
  have hFc := v_free hDc hS C.2.2.1
  obtain ⟨cell, r1, r2, r3⟩ := va_recv C.2.1 hPc hci hrc
  refine vx_calli (vx_runV (As := As) (rest := rest) C.1 (k H.size) (cwV nA C.1.2.2.2.2 hg hw rfl rfl hy hR) ⟨vIx_blind, ⟨cell, r1, r2, by rw [← hq]; exact r3⟩, fun U hU hW => ⟨rfl, ⟨by rw [hU], by rw [hU]; exact hPc, va_K.moved hW.alike C.2.1, hDc.weaken (fun _ _ _ _ => trivial)⟩, hX.warm hW (fun a h1 h2 => by rw [hU]; exact hS.2.1 a h1 h2) hFc⟩⟩ rfl hna (hl.1.1) rfl (lv_room hcat) hd hcs) hS (fun q _ h => hFc q h) hFc (fun q _ h => hFc q h) (fun E ce q9 u t H1 locs1 ht hvm hp hB hz hk hS1 hce hcv hcl => ?_) (fun r' u t H1 locs1 ht hvm hp hB hz hk hS1 => ?_)
  · obtain ⟨hxE, hP1, hK1, hD1⟩ := hB
    rw [ht] at hP1
    obtain ⟨hP2, hD2⟩ := v_join hP hD hFc hk hP1 hD1
    obtain ⟨pre, x, suf, nm, e1, e2, e3, e4, e5, e6, e7⟩ := kx E q9 hxE
    exact vx_catch C.1.2.2.2.1 pre x suf e1 e2 e3 e4 e5 e6 hce hcv hcl (e7 H1 locs1 ls hP2 hD2 hS1 hl)
  · obtain ⟨hP1, hK1, hD1⟩ := hB
    rw [ht] at hP1
    obtain ⟨hxn, rfl⟩ := hp
    obtain ⟨hP2, hD2⟩ := v_join hP hD hFc hk hP1 hD1
    exact kk hxn H1 locs1 ls hP2 hD2 hS1 hl
/-- a static call of a method with a table that catches all -/
theorem v_sW (C : vC p s m args meth c cc nL Ts own ret G cy A) (hX : xT A s s.heap) (hN : xN s) {hh : List (Nat × Nat × Nat × Nat)} (wl wr : va_W) (k : KW l G cy y wsY fr lc mc ms As wc r w1) (hw : wsY = Cond.codeWith y bytes maxL retY hh :: wsY') (hg : GoodIn Ts (va_wsS own idx y wsY))
    (hy : y.cls ≠ "java/lang/invoke/MethodHandle" ∧ y.cls ≠ "java/lang/invoke/VarHandle" ∧ (parseMethodDescriptor y.desc).map (fun d => d.parameters.length) = some nA) (hna : As.length = nA) (hR : fr + 1 ≤ R.frames ∧ 8 + (maxL + 11) + lc ≤ R.locals) (hcs : cells + mc ≤ R.cells ∧ slots + ms ≤ R.slots)
    (hst : st = As.reverse ++ rest) (hcat : (rest.map fun v => v.category).sum ≤ 8) (hw0 : w = wl ++ (wc ++ wr)) (hw2 : wl ++ (w1 ++ wr) = w2) (hd : decode cc pc = .ok (.invokestatic idx, 3)) (kk : V p l e R s m args below meth c nL G A Q w2 (cells + mc) (slots + ms) (pc + 3) lo (.int r :: rest)) : V p l e R s m args below meth c nL G A Q w cells slots (pc) lo (st) := by
  subst hst
  subst hw0
  subst hw2
  intro H locs ls hP hD hS hl
  obtain ⟨hPc, hDc⟩ := v_in hP hD
  have hFc := v_free hDc hS C.2.2.1
  refine va_calli (vx_runSW (As := As) (rest := rest) C.1 (k H.size) (vx_cwSW nA C.1.2.2.2.2 hg hw rfl rfl hy hR) ⟨vIw_blind, fun U hU hW => ⟨rfl, ⟨⟨by rw [hU], by rw [hU]; exact hPc, va_K.moved hW.alike C.2.1, hDc.weaken (fun _ _ _ _ => trivial)⟩, hX.warm hW (fun a h1 h2 => by rw [hU]; exact hS.2.1 a h1 h2) hFc⟩, hN.warm hW⟩⟩ rfl hna (hl.1.1) rfl (lv_room hcat) hd hcs) hS (fun q _ h => hFc q h) hFc (fun r' u t H1 locs1 ht hvm hr' hB hz hk hS1 => ?_)
  obtain ⟨hP1, hK1, hD1⟩ := hB
  rw [ht] at hP1
  subst hr'
  obtain ⟨hP2, hD2⟩ := v_join hP hD hFc hk hP1 hD1
  exact kk H1 locs1 ls hP2 hD2 hS1 hl
/-- paths that meet with one number on the stack -/
theorem V.join (w' : va_W) (pc' : Nat) (lo' : Int32 → List (Option Value)) (st' : Int32 → List Value) (T : Int32) (k : (∀ v, v = T → V p l e R s m args below meth c nL G A Q w' cells slots (pc') (lo' v) (st' v)) → V p l e R s m args below meth c nL G A Q w cells slots (pc) lo (st)) (j : V p l e R s m args below meth c nL G A Q w' cells slots (pc') (lo' T) (st' T)) : V p l e R s m args below meth c nL G A Q w cells slots (pc) lo (st) := k (fun v hv => hv ▸ j)
end VXR
-- what is thrown, in order
def xq (a b : Option String) : Option String := match a with | some e => some e | none => b
theorem xq_s {a b : Option String} {E : String} (h : a = some E) : xq a b = some E := by rw [h]; rfl
theorem xq_n {a b : Option String} (h : a = none) : xq a b = b := by rw [h]; rfl
noncomputable def xIdx (i c : Int32) : Option String := pif (¬ i < 0 ∧ i < c) none (some nIO)
noncomputable def xRng (v a b : Int32) : Option String := pif (¬ v < a ∧ ¬ b < v) none (some nIA)
theorem xIdx_n {i c : Int32} (h : xIdx i c = none) : ¬ i < 0 ∧ i < c := by
  unfold xIdx at h
  by_cases h1 : ¬ i < 0 ∧ i < c
  · exact h1
  · rw [pif_f h1] at h; cases h
theorem xRng_n {v a b : Int32} (h : xRng v a b = none) : ¬ v < a ∧ ¬ b < v := by
  unfold xRng at h
  by_cases h1 : ¬ v < a ∧ ¬ b < v
  · exact h1
  · rw [pif_f h1] at h; cases h

