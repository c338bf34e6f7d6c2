/-! MAKING: rows of new objects and arrays, the constructors -/
section VN
variable {p : Program} {l : Launch} {e : Env} {R : Room} {s : State} {m : MethodId} {args : Array Value} {below : List Frame} {meth : Method} {c : Code} {cells slots : Nat} {Q : State → Prop} {cc : ByteArray} {nL : Nat} {Ts : List Cond} {own : String} {ret : Option FieldType} {G : va_G} {cy : Nat → ClassId} {A : Nat → Prop} {w w' w2 wc w1 : va_W} {pc : Nat} {lo : List (Option Value)} {st rest : List Value}
variable {y : MethodName} {wsY wsY' : List Cond} {fr lc mc ms : Nat} {As : List Value} {r : Int32} {b : Nat} {bytes : ByteArray} {maxL idx nA : Nat} {retY : Option FieldType}
theorem v_newaI (C : vC p s m args meth c cc nL Ts own ret G cy A) (harr : Cond.arrayClass .int ∈ Ts) {n : Int32} (N : Nat) (hn : ¬ n < 0) (hN : n.toNatClampNeg = N) (hb : N * componentBytes .int ≤ 536870912) (hc : cells + 1 ≤ R.cells) (hs : slots + N ≤ R.slots) (hd : decode cc pc = .ok (.newarray .int, 2))
    (k : ∀ q : Nat, V p l e R s m args below meth c nL G A Q (w ++ [(q, .inl (cy 0, N, .inl (fun _ => 0)))]) (cells + 1) (slots + N) (pc + 2) lo (.ref q :: st)) : V p l e R s m args below meth c nL G A Q w cells slots (pc) lo (.int n :: st) := by
  intro H locs ls hP hD hS hl
  refine va_newa (atype := .int) C.1.1 C.1.2.1 (C.1.2.2.2.2 _ harr) (ty := .int) rfl C.2.1 hP hD hS C.2.2.1 (a0 := (N, .inl (fun _ => 0))) (fun _ => rfl) hn hN hb hc hs hd (fun q cA H1 hK1 hP1 hD1 hS1 => ?_)
  have h1 : va_RA s cA .int := (hK1.2 3 (cA, .int) rfl).2
  have h2 : va_RA s (cy 0) .int := (C.2.1.2 0 (cy 0, .int) rfl).2
  have h3 : cA = cy 0 := Option.some.inj (Eq.trans (Eq.symm h1) h2)
  subst h3
  exact k q H1 locs ls hP1 hD1 hS1 hl
theorem v_newaZ (C : vC p s m args meth c cc nL Ts own ret G cy A) (harr : Cond.arrayClass .boolean ∈ Ts) {n : Int32} (N : Nat) (hn : ¬ n < 0) (hN : n.toNatClampNeg = N) (hb : N * componentBytes .boolean ≤ 536870912) (hc : cells + 1 ≤ R.cells) (hs : slots + N ≤ R.slots) (hd : decode cc pc = .ok (.newarray .boolean, 2))
    (k : ∀ q : Nat, V p l e R s m args below meth c nL G A Q (w ++ [(q, .inl (cy 1, N, .inl (fun _ => 0)))]) (cells + 1) (slots + N) (pc + 2) lo (.ref q :: st)) : V p l e R s m args below meth c nL G A Q w cells slots (pc) lo (.int n :: st) := by
  intro H locs ls hP hD hS hl
  refine va_newa (atype := .boolean) C.1.1 C.1.2.1 (C.1.2.2.2.2 _ harr) (ty := .boolean) rfl C.2.1 hP hD hS C.2.2.1 (a0 := (N, .inl (fun _ => 0))) (fun _ => rfl) hn hN hb hc hs hd (fun q cA H1 hK1 hP1 hD1 hS1 => ?_)
  have h1 : va_RA s cA .boolean := (hK1.2 3 (cA, .boolean) rfl).2
  have h2 : va_RA s (cy 1) .boolean := (C.2.1.2 1 (cy 1, .boolean) rfl).2
  have h3 : cA = cy 1 := Option.some.inj (Eq.trans (Eq.symm h1) h2)
  subst h3
  exact k q H1 locs ls hP1 hD1 hS1 hl
theorem v_newq (C : vC p s m args meth c cc nL Ts own ret G cy A) {Cn : String} (hCn : Cn = "DepotLog$Run") (hcl : Cond.classLink own idx Cn ∈ Ts) (hAO : va_AO Cn s) {n : Int32} (N : Nat) (hn : ¬ n < 0) (hN : n.toNatClampNeg = N) (hb : N * 4 ≤ 536870912) (hc : cells + 1 ≤ R.cells) (hs : slots + N ≤ R.slots) (hd : decode cc pc = .ok (.anewarray idx, 3))
    (k : ∀ q : Nat, V p l e R s m args below meth c nL G A Q (w ++ [(q, .inl (cy 2, N, .inr (.inr (.inr (.inr (fun _ => none))))))]) (cells + 1) (slots + N) (pc + 3) lo (.ref q :: st)) : V p l e R s m args below meth c nL G A Q w cells slots (pc) lo (.int n :: st) := by
  subst hCn
  intro H locs ls hP hD hS hl
  refine va_newq C.1.1 C.1.2.1 C.1.2.2.2.1 (C.1.2.2.2.2 _ hcl) hAO C.2.1 hP hD hS C.2.2.1 hn hN hb hc hs hd (fun q cA H1 hK1 hP1 hD1 hS1 => ?_)
  obtain ⟨_, _, _, _, _, h1⟩ := (hK1.2 3 (cA, .object "DepotLog$Run") rfl).2
  obtain ⟨_, _, _, _, _, h2⟩ := (C.2.1.2 2 (cy 2, .object "DepotLog$Run") rfl).2
  have h3 : cA = cy 2 := Option.some.inj (Eq.trans (Eq.symm h1) h2)
  subst h3
  exact k q H1 locs ls hP1 hD1 hS1 hl
theorem v_new (C : vC p s m args meth c cc nL Ts own ret G cy A) {Cn : String} {T : u_T} {N ci : Nat} {fs : List Value} (hin : ∀ w ∈ u_ws Cn T N, w ∈ Ts) (ty : Nat → FieldType) (hty : ∀ k, k < N → parseFieldDescriptor (T k).2.2.1 = some (ty k)) (hcl : Cond.classLink own idx Cn ∈ Ts) (hinst : Cond.instantiable Cn N ∈ Ts) (hini : Cond.initialized Cn ∈ Ts) (hci : vwCl[ci]? = some (Cn, T, N)) (hfs : ∀ j, j < N → defaultValue (ty j) = vp_V fs j) (hc : cells + 1 ≤ R.cells) (hs : slots + N ≤ R.slots) (hd : decode cc pc = .ok (.new idx, 3))
    (k : ∀ q : Nat, V p l e R s m args below meth c nL G A Q (w ++ [(q, .inr (ci, fs))]) (cells + 1) (slots + N) (pc + 3) lo (.ref q :: st)) : V p l e R s m args below meth c nL G A Q w cells slots (pc) lo (st) := by
  intro H locs ls hP hD hS hl
  exact va_new C.1.1 C.1.2.1 C.1.2.2.2.2 hin ty hty C.1.2.2.2.1 (C.1.2.2.2.2 _ hcl) (C.1.2.2.2.2 _ hinst) (C.1.2.2.2.2 _ hini) C.2.1 hP hD hS C.2.2.1 hci hfs hc hs hd (fun q H1 hP1 hD1 hS1 => k q H1 locs ls hP1 hD1 hS1 hl)
theorem v_objInit (C : vC p s m args meth c cc nL Ts own ret G cy A) {a : Nat} (hlink : Cond.methodLink own idx objectInit ∈ Ts) (hinst : Cond.instanceMethod objectInit ∈ Ts) (hcode : Cond.code objectInit ⟨#[0xb1]⟩ 1 none ∈ Ts) (hd : decode cc pc = .ok (.invokespecial idx, 3)) (hR : 1 ≤ R.frames ∧ 20 ≤ R.locals) (hcat : (st.map fun v => v.category).sum ≤ 8) (k : V p l e R s m args below meth c nL G A Q w cells slots (pc + 3) lo (st)) : V p l e R s m args below meth c nL G A Q w cells slots (pc) lo (.ref a :: st) := by
  intro H locs ls hP hD hS hl
  exact W.objInit C.1.1 C.1.2.1 C.1.2.2.2.1 (C.1.2.2.2.2 _ hlink) (C.1.2.2.2.2 _ hinst) (C.1.2.2.2.2 _ hcode) rfl (by rw [C.1.2.2.1]; exact hl.1.1) rfl hd hR.1 (by have h9 : (F0 m pc ls (.ref a :: st)).monitorRoom = 0 := rfl; omega) (k H locs ls hP hD hS hl)
/-- a constructor's call -/
theorem v_callIV (C : vC p s m args meth c cc nL Ts own ret G cy A) (wl wr : va_W) (k : KV l G cy y wsY fr lc mc ms (.ref b :: As) wc w1) (hw : wsY = Cond.code y bytes maxL none :: wsY') (hg : GoodIn Ts wsY) {host : String} (hini : Cond.initialized y.cls ∈ Ts) (hlink : va_Nw (.methodLinkNest own idx y host) s) (hinst : Cond.instanceMethod y ∈ Ts) (hy1 : y.name = "<init>")
    (hy : y.cls ≠ "java/lang/invoke/MethodHandle" ∧ y.cls ≠ "java/lang/invoke/VarHandle" ∧ (parseMethodDescriptor y.desc).map (fun d => d.parameters.length) = some nA) (hna : As.length = nA) (hR : fr + 1 ≤ R.frames ∧ 8 + (maxL + 11) + lc ≤ R.locals) (hcs : cells + mc ≤ R.cells ∧ slots + ms ≤ R.slots)
    (hst : st = As.reverse ++ .ref b :: rest) (hcat : (rest.map fun v => v.category).sum ≤ 8) (hw0 : w = wl ++ (wc ++ wr)) (hw2 : wl ++ (w1 ++ wr) = w2) (hd : decode cc pc = .ok (.invokespecial idx, 3)) (kk : V p l e R s m args below meth c nL G A Q w2 (cells + mc) (slots + ms) (pc + 3) lo (rest)) : V p l e R s m args below meth c nL G A Q w cells slots (pc) lo (st) := by
  subst hst
  subst hw0
  subst hw2
  intro H locs ls hP hD hS hl
  obtain ⟨hPc, hDc⟩ := v_in hP hD
  have hFc := v_free hDc hS C.2.2.1
  refine va_callv (va_runIN (As := As) (rest := rest) C.1 (k H.size) ⟨va_cnB nA C.1.2.2.2.2 hg hw rfl rfl hlink (C.1.2.2.2.2 _ hini) hy hR, hy1, C.1.2.2.2.2 _ hinst⟩ ⟨vI_blind, fun U hU hW => ⟨rfl, by rw [hU], by rw [hU]; exact hPc, va_K.moved hW.alike C.2.1, hDc.weaken (fun _ _ _ _ => trivial)⟩⟩ rfl hna (hl.1.1) rfl (lv_room hcat) hd hcs) hS (fun q _ h => hFc q h) hFc (fun u t H1 locs1 ht hvm hr' hB hz hk hS1 => ?_)
  obtain ⟨hP1, hK1, hD1⟩ := hB
  rw [ht] at hP1
  obtain ⟨hP2, hD2⟩ := v_join hP hD hFc hk hP1 hD1
  exact kk H1 locs1 ls hP2 hD2 hS1 hl
theorem v_aastq (C : vC p s m args meth c cc nL Ts own ret G cy A) (q0 qk j : Nat) {a v n : Nat} {f : Nat → Option Nat} {vs : List Value} {i : Int32} (hi : i = nI j) (hj : j < n) (hn : n ≤ 1000) (ha : w[q0]? = some (a, .inl (cy 2, n, .inr (.inr (.inr (.inr f)))))) (hv : w[qk]? = some (v, .inr (0, vs))) (hw : w.set q0 (a, .inl (cy 2, n, .inr (.inr (.inr (.inr (va_up f j (some v))))))) = w') (hd : decode cc pc = .ok (.aastore, 1)) (k : V p l e R s m args below meth c nL G A Q w' cells slots (pc + 1) lo (st)) : V p l e R s m args below meth c nL G A Q w cells slots (pc) lo (.ref v :: .int i :: .ref a :: st) := by
  obtain ⟨h1, h2⟩ := v_idx hi hj hn
  subst hw
  rw [← h2] at k
  exact fun H locs ls hP hD hS hl => va_astq (r := (RX0, TX0, 6)) C.1.1 C.1.2.1 C.2.1 hP hD hS q0 2 qk 0 ha rfl hv rfl h1 hd (fun H1 locs1 hP hD hS => k H1 locs1 ls hP hD hS hl)
theorem V.cong (h : ∀ H, va_P G vwCl w H → va_P G vwCl w' H) (hd : w.map (·.1) = w'.map (·.1)) (k : V p l e R s m args below meth c nL G A Q w' cells slots (pc) lo (st)) : V p l e R s m args below meth c nL G A Q w cells slots (pc) lo (st) := fun H locs ls hP hD hS hl => k H locs ls (h H hP) (by
  rw [vD_iff] at hD ⊢
  refine ⟨by rw [← hd]; exact hD.1, fun q hq => ?_⟩
  have h1 : q.1 ∈ w'.map (·.1) := List.mem_map.mpr ⟨q, hq, rfl⟩
  rw [← hd] at h1
  obtain ⟨q2, h2, h3⟩ := List.mem_map.mp h1
  rw [← h3]
  exact hD.2 q2 h2) hS hl
/-- a constructor's contract: what was made lies where some ad says -/
def QE (below : List Frame) (args : Array Value) (s : State) (G : va_G) (cy : Nat → ClassId) (A : Nat → Prop) (h0 : Nat) (W : (Nat → Nat) → va_W) (mc ms : Nat) : State → Prop := MQ below (va_Qv (fun (ad : Nat → Nat) => ad 0 = h0) (fun ad => vO G cy A (W ad)) A) args s mc ms A
theorem v_eret {h0 : Nat} {Wf : (Nat → Nat) → va_W} (C : vC p s m args meth c cc nL Ts own none G cy A) (ad : Nat → Nat) (h0e : ad 0 = h0) (hd : decode cc pc = .ok (.return_, 1)) : V p l e R s m args below meth c nL G A (QE below args s G cy A h0 Wf cells slots) (Wf ad) cells slots pc lo [] := by
  intro H locs ls hP hD hS hl
  exact W.vret C.1.1 C.1.2.1 C.2.2.2.1 (fun t ht hW => ⟨⟨ad, rfl, h0e, by rw [ht]; exact hP, va_K.moved hW.alike C.2.1, hD⟩, hS.F ht⟩) hS.2.2 hd C.2.2.2.2
end VN
def vE (U : State) : Prop := va_AO "DepotLog$Run" U ∧ va_Nw (.methodLinkNest RX1 51 yX0_init "DepotLog") U
theorem vE.warm {s U : State} (hW : s.WarmedH U.vm) (h : vE s) : vE U := ⟨va_AO.moved hW.alike h.1, va_Nw.warmM hW h.2⟩
def vIe (G : va_G) (cy : Nat → ClassId) (w : va_W) (sz : Nat) (U : State) : Prop := vI G cy w sz U ∧ vE U
theorem vIe_blind {G : va_G} {cy : Nat → ClassId} {w : va_W} {sz : Nat} {as : List Value} : FrameBlind (va_Pc as (vIe G cy w sz)) := fun a U g mk q => by
  obtain ⟨q0, ⟨q1, qP, qK, qD⟩, qA⟩ := q
  exact ⟨q0, ⟨q1, qP, va_K.moved (u := U) (U := U.calling g mk a) (Vm.Alike.refl U.vm) qK, qD⟩, vE.warm (U := U.calling g mk a) (State.WarmedH.refl U) qA⟩
def KE (l : Launch) (G : va_G) (cy : Nat → ClassId) (y : MethodName) (ws : List Cond) (fr lc mc ms : Nat) (h0 : Nat) (w : va_W) (W : (Nat → Nat) → va_W) : Prop := ∀ sz : Nat, Met l y ws (vR fr lc mc ms) (va_Pc [.ref h0] (vIe G cy w sz)) (va_Qv (fun (ad : Nat → Nat) => ad 0 = h0) (fun ad => vO G cy (va_A w sz) (W ad)) (va_A w sz)) mc ms (va_A w sz)
theorem KE_of {l : Launch} {G : va_G} {cy : Nat → ClassId} {y : MethodName} {ws ws' : List Cond} {fr lc mc ms h0 : Nat} {w : va_W} {W : (Nat → Nat) → va_W} {cc : ByteArray} {maxL : Nat} {ret : Option FieldType} {own : String} {lo0 : List (Option Value)} (hy : plainName y.cls = true) (ho : y.cls = own) (hw : ws = Cond.code y cc maxL ret :: ws') (hn : 1 ≤ maxL) (hlo : [some (Value.ref h0)] ++ List.replicate (maxL - 1) none = lo0)
    (body : ∀ (p : Program) (e : Env) (s : State) (m : MethodId) (args : Array Value) (below : List Frame) (meth : Method) (c : Code) (A : Nat → Prop), (y.name = "<init>" → meth.name = "<init>") → vE s → vC p s m args meth c cc maxL ws own ret G cy A → V p l e (vR fr lc mc ms) s m args below meth c maxL G A (QE below args s G cy A h0 W mc ms) w 0 0 0 lo0 []) : KE l G cy y ws fr lc mc ms h0 w W := by
  intro sz
  refine Met.ofW (cc := cc) (maxL := maxL) (ret := ret) hy hw ?_
  intro p e s m args below meth c s₁ B hml hv
  obtain ⟨rfl, ⟨hsz, hP, hK, hD0⟩, hAO⟩ := hv
  subst hsz
  have hown : s.vm.findClass own = some m.cls := by rw [← ho]; exact findClass_of_methodNamed B.named
  have C : vC p s m [Value.ref h0].toArray meth c cc maxL ws own ret G cy (va_A w s.heap.size) := ⟨⟨B.exec, B.bytes, hml, hown, atoms_spec (ws := ws) B.pre⟩, hK, fun q h => Or.inr h, B.returns, B.notSynchronized⟩
  have hb := body p e s m [Value.ref h0].toArray below meth c (va_A w s.heap.size) (fun h => (name_of_methodNamed B.named B.method).1.trans h) hAO C
  have h := hb s.heap [] _ hP hD0.self va_S.rf (by rw [← hlo]; exact lo_entry [Value.ref h0] (by simp [Value.category]) hn)
  rw [lg_entry_eq]
  exact h
theorem arr_c {cA : ClassId} {n : Nat} {f g : Nat → Option Nat} (h : ∀ j, j < n → f j = g j) : vp_cell cA (n, .inr (.inr (.inr (.inr f)))) = vp_cell cA (n, .inr (.inr (.inr (.inr g)))) := by
  rw [vp_cell_q, vp_cell_q]
  unfold arrV
  congr 2
  funext j
  show va_rf (f j.val) = va_rf (g j.val)
  rw [h j.val j.isLt]
set_option maxHeartbeats 4000000 in
set_option maxRecDepth 100000 in
/-- Run() -/
theorem k_X0_init (l : Launch) (G : va_G) (cy : Nat → ClassId) (h0 : Nat) : KV l G cy yX0_init wsX0_init 1 20 0 0 [.ref h0] [(h0, .inr (0, [.int 0, .int 0, .int 0, .int 0, .int 0, .int 0]))] [(h0, .inr (0, [.int 0, .int 0, .int 0, .int 0, .int (-1), .int (-1)]))] := by
  have hin0 : ∀ q ∈ u_ws RX0 TX0 6, q ∈ wsX0_init := by decide +kernel
  refine KV_of (own := RX0) (cc := cX0_init) (maxL := 1) (ret := none) (lo0 := [some (.ref h0)]) (by decide) rfl rfl (by simp [Value.category]) (Nat.le_of_ble_eq_true rfl) rfl (fun p e s m args below meth c A _ C => ?_)
  refine v_aload_n C dX0_init_0 rfl ?_
  refine v_objInit C (idx := 3) (by decide +kernel) (by decide +kernel) (by decide +kernel) dX0_init_1 (by decide) (by decide) ?_
  refine v_aload_n C dX0_init_4 rfl ?_
  refine v_iconst C (0) dX0_init_5 (by decide) ?_
  refine v_put C 0 3 0 tyX0 tyX0_ok nmX0 rfl rfl (by decide) hin0 (by decide +kernel) rfl (by decide +kernel : parseFieldDescriptor (TX0 3).2.2.1 = some .int) rfl rfl (by decide : 3 < 6) (w' := [(h0, .inr (0, [.int 0, .int 0, .int 0, .int 0, .int 0, .int 0]))]) rfl dX0_init_6 ?_
  refine v_aload_n C dX0_init_9 rfl ?_
  refine v_iconst C (-1) dX0_init_10 (by decide) ?_
  refine v_put C 0 4 0 tyX0 tyX0_ok nmX0 rfl rfl (by decide) hin0 (by decide +kernel) rfl (by decide +kernel : parseFieldDescriptor (TX0 4).2.2.1 = some .int) rfl rfl (by decide : 4 < 6) (w' := [(h0, .inr (0, [.int 0, .int 0, .int 0, .int 0, .int (-1), .int 0]))]) rfl dX0_init_11 ?_
  refine v_aload_n C dX0_init_14 rfl ?_
  refine v_iconst C (-1) dX0_init_15 (by decide) ?_
  refine v_put C 0 5 0 tyX0 tyX0_ok nmX0 rfl rfl (by decide) hin0 (by decide +kernel) rfl (by decide +kernel : parseFieldDescriptor (TX0 5).2.2.1 = some .int) rfl rfl (by decide : 5 < 6) (w' := [(h0, .inr (0, [.int 0, .int 0, .int 0, .int 0, .int (-1), .int (-1)]))]) rfl dX0_init_16 ?_
  exact v_vret C dX0_init_19
def xm0 : Sg := fun _ _ => 0
def fillc (k : Nat) (x : Sg) : Sg := it (fun c y => su y 12 c 100) k x
def fillp (k : Nat) (x : Sg) : Sg := it (fun c y => su y 15 c (-1)) k x
def fillm (k : Nat) (x : Sg) : Sg := it (fun c y => su y 17 c (-1)) k x
def xM : Sg := su (fillm 1000 (fillp 2 (fillc 5 xm0))) 3 0 (-1)
def xi0 : Sg := fun f k => if f = 10 then -1 else if f = 11 then -1 else if f = 3 then (if k = 0 then -1 else 0) else 0
def xD : Sg := fillm 1000 (fillp 2 (fillc 5 xi0))
def rc (q : Nat) : Nat × va_E := (q, .inr (0, [.int 0, .int 0, .int 0, .int 0, .int (-1), .int (-1)]))
def sI (cy : Nat → ClassId) (h0 q1 q2 q3 q4 q5 q6 q7 : Nat) (ra : List Nat) : va_W := (h0, .inr (1, [.ref q1, .ref q2, .ref q3, .ref q4, .ref q5, .ref q6, .ref q7, .int 0, .int 0, .int 0, .int (-1), .int 0])) :: (q1, .inl (cy 2, 30, .inr (.inr (.inr (.inr (fun j => ra[j]?)))))) :: (q2, .inl (cy 0, 5, .inl (fun _ => 0))) :: (q3, .inl (cy 1, 5, .inl (fun _ => 0))) :: (q4, .inl (cy 1, 5, .inl (fun _ => 0))) :: (q5, .inl (cy 0, 2, .inl (fun _ => 0))) :: (q6, .inl (cy 0, 1000, .inl (fun _ => 0))) :: (q7, .inl (cy 0, 1000, .inl (fun _ => 0))) :: ra.map rc
theorem sI_at (cy : Nat → ClassId) (h0 q1 q2 q3 q4 q5 q6 q7 : Nat) (ra : List Nat) (q : Nat) : (sI cy h0 q1 q2 q3 q4 q5 q6 q7 ra ++ [rc q])[8 + ra.length]? = some (rc q) := by
  have e : (sI cy h0 q1 q2 q3 q4 q5 q6 q7 ra).length = 8 + ra.length := by simp [sI]; omega
  rw [List.getElem?_append_right (by omega), e]
  simp
theorem sI_up (cy : Nat → ClassId) (h0 q1 q2 q3 q4 q5 q6 q7 : Nat) (ra : List Nat) (q : Nat) : (sI cy h0 q1 q2 q3 q4 q5 q6 q7 ra ++ [rc q]).set 1 (q1, .inl (cy 2, 30, .inr (.inr (.inr (.inr (va_up (fun j => ra[j]?) ra.length (some q))))))) = sI cy h0 q1 q2 q3 q4 q5 q6 q7 (ra ++ [q]) := by
  have e : va_up (fun j => ra[j]?) ra.length (some q) = fun j => (ra ++ [q])[j]? := by
    funext j
    unfold va_up
    by_cases h : j = ra.length
    · subst h; simp
    · rw [if_neg h, List.getElem?_append]
      by_cases h2 : j < ra.length
      · rw [if_pos h2]
      · rw [if_neg h2]
        have h3 : ra[j]? = none := by simp; omega
        show ra[j]? = _
        rw [h3]
        have h4 : ¬ j - ra.length = 0 := by omega
        simp [h4]
  rw [e]
  simp [sI, rc]
def adI (h0 q1 q2 q3 q4 q5 q6 q7 : Nat) (ra : List Nat) : Nat → Nat := fun i => (h0 :: q1 :: q2 :: q3 :: q4 :: q5 :: q6 :: q7 :: ra).getD i 0
theorem sI_end (G : va_G) (cy : Nat → ClassId) (h0 q1 q2 q3 q4 q5 q6 q7 : Nat) (ra : List Nat) (h : ra.length = 30) (H : Heap) (hP : va_P G vwCl (sI cy h0 q1 q2 q3 q4 q5 q6 q7 ra) H) : va_P G vwCl (wD cy (adI h0 q1 q2 q3 q4 q5 q6 q7 ra) xi0) H := by
  rw [vP_iff] at hP ⊢
  have e1 : (List.range 30).map (wR (adI h0 q1 q2 q3 q4 q5 q6 q7 ra) xi0) = ra.map rc := by
    apply List.ext_getElem
    · simp [h]
    · intro i h1 h2
      have h3 : i < ra.length := by simpa using h2
      simp [wR, rc, adI, xi0, h3]
  intro q hq
  simp only [wD, List.mem_cons] at hq
  rw [e1] at hq
  have hm : ∀ q, q ∈ sI cy h0 q1 q2 q3 q4 q5 q6 q7 ra → va_at G vwCl q H := hP
  rcases hq with rfl | rfl | rfl | rfl | rfl | rfl | rfl | rfl | hq
  · exact hm _ (by simp [sI, adI, xi0])
  · have h9 := hm (q1, .inl (cy 2, 30, .inr (.inr (.inr (.inr (fun j => ra[j]?)))))) (by simp [sI])
    show H[adI h0 q1 q2 q3 q4 q5 q6 q7 ra 1]? = some (vp_cell (cy 2) _)
    rw [arr_c (g := fun j => ra[j]?) (fun j hj => by simp [adI, show j < ra.length by omega])]
    exact h9
  · have h9 := hm (q2, .inl (cy 0, 5, .inl (fun _ => 0))) (by simp [sI])
    exact h9
  · have h9 := hm (q3, .inl (cy 1, 5, .inl (fun _ => 0))) (by simp [sI])
    exact h9
  · have h9 := hm (q4, .inl (cy 1, 5, .inl (fun _ => 0))) (by simp [sI])
    exact h9
  · have h9 := hm (q5, .inl (cy 0, 2, .inl (fun _ => 0))) (by simp [sI])
    exact h9
  · have h9 := hm (q6, .inl (cy 0, 1000, .inl (fun _ => 0))) (by simp [sI])
    exact h9
  · have h9 := hm (q7, .inl (cy 0, 1000, .inl (fun _ => 0))) (by simp [sI])
    exact h9
  · exact hm q (by simp only [sI, List.mem_cons]; exact Or.inr (Or.inr (Or.inr (Or.inr (Or.inr (Or.inr (Or.inr (Or.inr hq))))))))
theorem sI_ad (cy : Nat → ClassId) (h0 q1 q2 q3 q4 q5 q6 q7 : Nat) (ra : List Nat) (h : ra.length = 30) : (sI cy h0 q1 q2 q3 q4 q5 q6 q7 ra).map (·.1) = (wD cy (adI h0 q1 q2 q3 q4 q5 q6 q7 ra) xi0).map (·.1) := by
  have e1 : (List.range 30).map (wR (adI h0 q1 q2 q3 q4 q5 q6 q7 ra) xi0) = ra.map rc := by
    apply List.ext_getElem
    · simp [h]
    · intro i h1 h2
      have h3 : i < ra.length := by simpa using h2
      simp [wR, rc, adI, xi0, h3]
  simp only [wD, sI, List.map_cons, e1]
  rfl
set_option maxHeartbeats 8000000 in
set_option maxRecDepth 100000 in
/-- DepotLog() -/
theorem k_X1_init (l : Launch) (G : va_G) (cy : Nat → ClassId) (h0 : Nat) : KE l G cy yX1_init wsX1_init 2 40 37 2227 h0 [(h0, .inr (1, [.null, .null, .null, .null, .null, .null, .null, .int 0, .int 0, .int 0, .int 0, .int 0]))] (fun ad => wD cy ad xD) := by
  have hin1 : ∀ q ∈ u_ws RX1 TX1 12, q ∈ wsX1_init := by decide +kernel
  have hin0 : ∀ q ∈ u_ws RX0 TX0 6, q ∈ wsX1_init := by decide +kernel
  refine KE_of (own := RX1) (cc := cX1_init) (maxL := 2) (ret := none) (lo0 := [some (.ref h0), none]) (by decide) rfl rfl (Nat.le_of_ble_eq_true rfl) rfl (fun p e s m args below meth c A hi hAO C => ?_)
  have hinit := hi rfl
  refine v_aload_n C dX1_init_0 rfl ?_
  refine v_objInit C (idx := 1) (by decide +kernel) (by decide +kernel) (by decide +kernel) dX1_init_1 (by decide) (by decide) ?_
  refine v_aload_n C dX1_init_4 rfl ?_
  refine v_bipush C (30) dX1_init_5 (by decide) ?_
  refine v_newq C rfl (by decide +kernel) hAO.1 30 (by decide) (by decide) (by decide) (by decide) (by decide) dX1_init_7 (fun q1 => ?_)
  refine V.ew (w' := [(h0, .inr (1, [.null, .null, .null, .null, .null, .null, .null, .int 0, .int 0, .int 0, .int 0, .int 0])), (q1, .inl (cy 2, 30, .inr (.inr (.inr (.inr (fun _ => none))))))]) rfl ?_
  refine v_putF C 0 0 1 hinit tyX1 tyX1_ok nmX1 rfl rfl (by decide) hin1 (by decide +kernel) rfl rfl (by decide +kernel : parseFieldDescriptor (TX1 0).2.2.1 = some (.array (.object "DepotLog$Run"))) rfl rfl (by decide : 0 < 12) (w' := [(h0, .inr (1, [.ref q1, .null, .null, .null, .null, .null, .null, .int 0, .int 0, .int 0, .int 0, .int 0])), (q1, .inl (cy 2, 30, .inr (.inr (.inr (.inr (fun _ => none))))))]) rfl dX1_init_10 ?_
  refine v_aload_n C dX1_init_13 rfl ?_
  refine v_iconst C (5) dX1_init_14 (by decide) ?_
  refine v_newaI C (by decide +kernel) 5 (by decide) (by decide +kernel) (by decide) (by decide) (by decide) dX1_init_15 (fun q2 => ?_)
  refine V.ew (w' := [(h0, .inr (1, [.ref q1, .null, .null, .null, .null, .null, .null, .int 0, .int 0, .int 0, .int 0, .int 0])), (q1, .inl (cy 2, 30, .inr (.inr (.inr (.inr (fun _ => none)))))), (q2, .inl (cy 0, 5, .inl (fun _ => 0)))]) rfl ?_
  refine v_putF C 0 1 1 hinit tyX1 tyX1_ok nmX1 rfl rfl (by decide) hin1 (by decide +kernel) rfl rfl (by decide +kernel : parseFieldDescriptor (TX1 1).2.2.1 = some (.array .int)) rfl rfl (by decide : 1 < 12) (w' := [(h0, .inr (1, [.ref q1, .ref q2, .null, .null, .null, .null, .null, .int 0, .int 0, .int 0, .int 0, .int 0])), (q1, .inl (cy 2, 30, .inr (.inr (.inr (.inr (fun _ => none)))))), (q2, .inl (cy 0, 5, .inl (fun _ => 0)))]) rfl dX1_init_17 ?_
  refine v_aload_n C dX1_init_20 rfl ?_
  refine v_iconst C (5) dX1_init_21 (by decide) ?_
  refine v_newaZ C (by decide +kernel) 5 (by decide) (by decide +kernel) (by decide) (by decide) (by decide) dX1_init_22 (fun q3 => ?_)
  refine V.ew (w' := [(h0, .inr (1, [.ref q1, .ref q2, .null, .null, .null, .null, .null, .int 0, .int 0, .int 0, .int 0, .int 0])), (q1, .inl (cy 2, 30, .inr (.inr (.inr (.inr (fun _ => none)))))), (q2, .inl (cy 0, 5, .inl (fun _ => 0))), (q3, .inl (cy 1, 5, .inl (fun _ => 0)))]) rfl ?_
  refine v_putF C 0 2 1 hinit tyX1 tyX1_ok nmX1 rfl rfl (by decide) hin1 (by decide +kernel) rfl rfl (by decide +kernel : parseFieldDescriptor (TX1 2).2.2.1 = some (.array .boolean)) rfl rfl (by decide : 2 < 12) (w' := [(h0, .inr (1, [.ref q1, .ref q2, .ref q3, .null, .null, .null, .null, .int 0, .int 0, .int 0, .int 0, .int 0])), (q1, .inl (cy 2, 30, .inr (.inr (.inr (.inr (fun _ => none)))))), (q2, .inl (cy 0, 5, .inl (fun _ => 0))), (q3, .inl (cy 1, 5, .inl (fun _ => 0)))]) rfl dX1_init_24 ?_
  refine v_aload_n C dX1_init_27 rfl ?_
  refine v_iconst C (5) dX1_init_28 (by decide) ?_
  refine v_newaZ C (by decide +kernel) 5 (by decide) (by decide +kernel) (by decide) (by decide) (by decide) dX1_init_29 (fun q4 => ?_)
  refine V.ew (w' := [(h0, .inr (1, [.ref q1, .ref q2, .ref q3, .null, .null, .null, .null, .int 0, .int 0, .int 0, .int 0, .int 0])), (q1, .inl (cy 2, 30, .inr (.inr (.inr (.inr (fun _ => none)))))), (q2, .inl (cy 0, 5, .inl (fun _ => 0))), (q3, .inl (cy 1, 5, .inl (fun _ => 0))), (q4, .inl (cy 1, 5, .inl (fun _ => 0)))]) rfl ?_
  refine v_putF C 0 3 1 hinit tyX1 tyX1_ok nmX1 rfl rfl (by decide) hin1 (by decide +kernel) rfl rfl (by decide +kernel : parseFieldDescriptor (TX1 3).2.2.1 = some (.array .boolean)) rfl rfl (by decide : 3 < 12) (w' := [(h0, .inr (1, [.ref q1, .ref q2, .ref q3, .ref q4, .null, .null, .null, .int 0, .int 0, .int 0, .int 0, .int 0])), (q1, .inl (cy 2, 30, .inr (.inr (.inr (.inr (fun _ => none)))))), (q2, .inl (cy 0, 5, .inl (fun _ => 0))), (q3, .inl (cy 1, 5, .inl (fun _ => 0))), (q4, .inl (cy 1, 5, .inl (fun _ => 0)))]) rfl dX1_init_31 ?_
  refine v_aload_n C dX1_init_34 rfl ?_
  refine v_iconst C (2) dX1_init_35 (by decide) ?_
  refine v_newaI C (by decide +kernel) 2 (by decide) (by decide +kernel) (by decide) (by decide) (by decide) dX1_init_36 (fun q5 => ?_)
  refine V.ew (w' := [(h0, .inr (1, [.ref q1, .ref q2, .ref q3, .ref q4, .null, .null, .null, .int 0, .int 0, .int 0, .int 0, .int 0])), (q1, .inl (cy 2, 30, .inr (.inr (.inr (.inr (fun _ => none)))))), (q2, .inl (cy 0, 5, .inl (fun _ => 0))), (q3, .inl (cy 1, 5, .inl (fun _ => 0))), (q4, .inl (cy 1, 5, .inl (fun _ => 0))), (q5, .inl (cy 0, 2, .inl (fun _ => 0)))]) rfl ?_
  refine v_putF C 0 4 1 hinit tyX1 tyX1_ok nmX1 rfl rfl (by decide) hin1 (by decide +kernel) rfl rfl (by decide +kernel : parseFieldDescriptor (TX1 4).2.2.1 = some (.array .int)) rfl rfl (by decide : 4 < 12) (w' := [(h0, .inr (1, [.ref q1, .ref q2, .ref q3, .ref q4, .ref q5, .null, .null, .int 0, .int 0, .int 0, .int 0, .int 0])), (q1, .inl (cy 2, 30, .inr (.inr (.inr (.inr (fun _ => none)))))), (q2, .inl (cy 0, 5, .inl (fun _ => 0))), (q3, .inl (cy 1, 5, .inl (fun _ => 0))), (q4, .inl (cy 1, 5, .inl (fun _ => 0))), (q5, .inl (cy 0, 2, .inl (fun _ => 0)))]) rfl dX1_init_38 ?_
  refine v_aload_n C dX1_init_41 rfl ?_
  refine v_sipush C (1000) dX1_init_42 (by decide) ?_
  refine v_newaI C (by decide +kernel) 1000 (by decide) (by decide +kernel) (by decide) (by decide) (by decide) dX1_init_45 (fun q6 => ?_)
  refine V.ew (w' := [(h0, .inr (1, [.ref q1, .ref q2, .ref q3, .ref q4, .ref q5, .null, .null, .int 0, .int 0, .int 0, .int 0, .int 0])), (q1, .inl (cy 2, 30, .inr (.inr (.inr (.inr (fun _ => none)))))), (q2, .inl (cy 0, 5, .inl (fun _ => 0))), (q3, .inl (cy 1, 5, .inl (fun _ => 0))), (q4, .inl (cy 1, 5, .inl (fun _ => 0))), (q5, .inl (cy 0, 2, .inl (fun _ => 0))), (q6, .inl (cy 0, 1000, .inl (fun _ => 0)))]) rfl ?_
  refine v_putF C 0 5 1 hinit tyX1 tyX1_ok nmX1 rfl rfl (by decide) hin1 (by decide +kernel) rfl rfl (by decide +kernel : parseFieldDescriptor (TX1 5).2.2.1 = some (.array .int)) rfl rfl (by decide : 5 < 12) (w' := [(h0, .inr (1, [.ref q1, .ref q2, .ref q3, .ref q4, .ref q5, .ref q6, .null, .int 0, .int 0, .int 0, .int 0, .int 0])), (q1, .inl (cy 2, 30, .inr (.inr (.inr (.inr (fun _ => none)))))), (q2, .inl (cy 0, 5, .inl (fun _ => 0))), (q3, .inl (cy 1, 5, .inl (fun _ => 0))), (q4, .inl (cy 1, 5, .inl (fun _ => 0))), (q5, .inl (cy 0, 2, .inl (fun _ => 0))), (q6, .inl (cy 0, 1000, .inl (fun _ => 0)))]) rfl dX1_init_47 ?_
  refine v_aload_n C dX1_init_50 rfl ?_
  refine v_sipush C (1000) dX1_init_51 (by decide) ?_
  refine v_newaI C (by decide +kernel) 1000 (by decide) (by decide +kernel) (by decide) (by decide) (by decide) dX1_init_54 (fun q7 => ?_)
  refine V.ew (w' := [(h0, .inr (1, [.ref q1, .ref q2, .ref q3, .ref q4, .ref q5, .ref q6, .null, .int 0, .int 0, .int 0, .int 0, .int 0])), (q1, .inl (cy 2, 30, .inr (.inr (.inr (.inr (fun _ => none)))))), (q2, .inl (cy 0, 5, .inl (fun _ => 0))), (q3, .inl (cy 1, 5, .inl (fun _ => 0))), (q4, .inl (cy 1, 5, .inl (fun _ => 0))), (q5, .inl (cy 0, 2, .inl (fun _ => 0))), (q6, .inl (cy 0, 1000, .inl (fun _ => 0))), (q7, .inl (cy 0, 1000, .inl (fun _ => 0)))]) rfl ?_
  refine v_putF C 0 6 1 hinit tyX1 tyX1_ok nmX1 rfl rfl (by decide) hin1 (by decide +kernel) rfl rfl (by decide +kernel : parseFieldDescriptor (TX1 6).2.2.1 = some (.array .int)) rfl rfl (by decide : 6 < 12) (w' := [(h0, .inr (1, [.ref q1, .ref q2, .ref q3, .ref q4, .ref q5, .ref q6, .ref q7, .int 0, .int 0, .int 0, .int 0, .int 0])), (q1, .inl (cy 2, 30, .inr (.inr (.inr (.inr (fun _ => none)))))), (q2, .inl (cy 0, 5, .inl (fun _ => 0))), (q3, .inl (cy 1, 5, .inl (fun _ => 0))), (q4, .inl (cy 1, 5, .inl (fun _ => 0))), (q5, .inl (cy 0, 2, .inl (fun _ => 0))), (q6, .inl (cy 0, 1000, .inl (fun _ => 0))), (q7, .inl (cy 0, 1000, .inl (fun _ => 0)))]) rfl dX1_init_56 ?_
  refine v_aload_n C dX1_init_59 rfl ?_
  refine v_iconst C (0) dX1_init_60 (by decide) ?_
  refine v_put C 0 7 1 tyX1 tyX1_ok nmX1 rfl rfl (by decide) hin1 (by decide +kernel) rfl (by decide +kernel : parseFieldDescriptor (TX1 7).2.2.1 = some .int) rfl rfl (by decide : 7 < 12) (w' := [(h0, .inr (1, [.ref q1, .ref q2, .ref q3, .ref q4, .ref q5, .ref q6, .ref q7, .int 0, .int 0, .int 0, .int 0, .int 0])), (q1, .inl (cy 2, 30, .inr (.inr (.inr (.inr (fun _ => none)))))), (q2, .inl (cy 0, 5, .inl (fun _ => 0))), (q3, .inl (cy 1, 5, .inl (fun _ => 0))), (q4, .inl (cy 1, 5, .inl (fun _ => 0))), (q5, .inl (cy 0, 2, .inl (fun _ => 0))), (q6, .inl (cy 0, 1000, .inl (fun _ => 0))), (q7, .inl (cy 0, 1000, .inl (fun _ => 0)))]) rfl dX1_init_61 ?_
  refine v_aload_n C dX1_init_64 rfl ?_
  refine v_iconst C (0) dX1_init_65 (by decide) ?_
  refine v_put C 0 8 1 tyX1 tyX1_ok nmX1 rfl rfl (by decide) hin1 (by decide +kernel) rfl (by decide +kernel : parseFieldDescriptor (TX1 8).2.2.1 = some .int) rfl rfl (by decide : 8 < 12) (w' := [(h0, .inr (1, [.ref q1, .ref q2, .ref q3, .ref q4, .ref q5, .ref q6, .ref q7, .int 0, .int 0, .int 0, .int 0, .int 0])), (q1, .inl (cy 2, 30, .inr (.inr (.inr (.inr (fun _ => none)))))), (q2, .inl (cy 0, 5, .inl (fun _ => 0))), (q3, .inl (cy 1, 5, .inl (fun _ => 0))), (q4, .inl (cy 1, 5, .inl (fun _ => 0))), (q5, .inl (cy 0, 2, .inl (fun _ => 0))), (q6, .inl (cy 0, 1000, .inl (fun _ => 0))), (q7, .inl (cy 0, 1000, .inl (fun _ => 0)))]) rfl dX1_init_66 ?_
  refine v_aload_n C dX1_init_69 rfl ?_
  refine v_iconst C (0) dX1_init_70 (by decide) ?_
  refine v_put C 0 9 1 tyX1 tyX1_ok nmX1 rfl rfl (by decide) hin1 (by decide +kernel) rfl (by decide +kernel : parseFieldDescriptor (TX1 9).2.2.1 = some .int) rfl rfl (by decide : 9 < 12) (w' := [(h0, .inr (1, [.ref q1, .ref q2, .ref q3, .ref q4, .ref q5, .ref q6, .ref q7, .int 0, .int 0, .int 0, .int 0, .int 0])), (q1, .inl (cy 2, 30, .inr (.inr (.inr (.inr (fun _ => none)))))), (q2, .inl (cy 0, 5, .inl (fun _ => 0))), (q3, .inl (cy 1, 5, .inl (fun _ => 0))), (q4, .inl (cy 1, 5, .inl (fun _ => 0))), (q5, .inl (cy 0, 2, .inl (fun _ => 0))), (q6, .inl (cy 0, 1000, .inl (fun _ => 0))), (q7, .inl (cy 0, 1000, .inl (fun _ => 0)))]) rfl dX1_init_71 ?_
  refine v_aload_n C dX1_init_74 rfl ?_
  refine v_iconst C (-1) dX1_init_75 (by decide) ?_
  refine v_put C 0 10 1 tyX1 tyX1_ok nmX1 rfl rfl (by decide) hin1 (by decide +kernel) rfl (by decide +kernel : parseFieldDescriptor (TX1 10).2.2.1 = some .int) rfl rfl (by decide : 10 < 12) (w' := [(h0, .inr (1, [.ref q1, .ref q2, .ref q3, .ref q4, .ref q5, .ref q6, .ref q7, .int 0, .int 0, .int 0, .int (-1), .int 0])), (q1, .inl (cy 2, 30, .inr (.inr (.inr (.inr (fun _ => none)))))), (q2, .inl (cy 0, 5, .inl (fun _ => 0))), (q3, .inl (cy 1, 5, .inl (fun _ => 0))), (q4, .inl (cy 1, 5, .inl (fun _ => 0))), (q5, .inl (cy 0, 2, .inl (fun _ => 0))), (q6, .inl (cy 0, 1000, .inl (fun _ => 0))), (q7, .inl (cy 0, 1000, .inl (fun _ => 0)))]) rfl dX1_init_76 ?_
  refine v_aload_n C dX1_init_79 rfl ?_
  refine v_iconst C (0) dX1_init_80 (by decide) ?_
  refine v_put C 0 11 1 tyX1 tyX1_ok nmX1 rfl rfl (by decide) hin1 (by decide +kernel) rfl (by decide +kernel : parseFieldDescriptor (TX1 11).2.2.1 = some .int) rfl rfl (by decide : 11 < 12) (w' := [(h0, .inr (1, [.ref q1, .ref q2, .ref q3, .ref q4, .ref q5, .ref q6, .ref q7, .int 0, .int 0, .int 0, .int (-1), .int 0])), (q1, .inl (cy 2, 30, .inr (.inr (.inr (.inr (fun _ => none)))))), (q2, .inl (cy 0, 5, .inl (fun _ => 0))), (q3, .inl (cy 1, 5, .inl (fun _ => 0))), (q4, .inl (cy 1, 5, .inl (fun _ => 0))), (q5, .inl (cy 0, 2, .inl (fun _ => 0))), (q6, .inl (cy 0, 1000, .inl (fun _ => 0))), (q7, .inl (cy 0, 1000, .inl (fun _ => 0)))]) rfl dX1_init_81 ?_
  refine v_iconst C 0 dX1_init_84 (by decide) ?_
  refine v_istore_n C dX1_init_85 (by decide) ?_
  refine V.ew (w' := sI cy h0 q1 q2 q3 q4 q5 q6 q7 []) (by simp [sI]) ?_
  have key : ∀ (f : Nat) (ra : List Nat), ra.length + f = 30 → V p l e (vR 2 40 37 2227) s m args below meth c 2 G A (QE below args s G cy A h0 (fun ad => wD cy ad xD) 37 2227) (sI cy h0 q1 q2 q3 q4 q5 q6 q7 ra) (7 + ra.length) (2047 + 6 * ra.length) 86 [some (.ref h0), some (.int (nI ra.length))] [] := by
    intro f
    induction f with
    | zero =>
      intro ra hra
      have h30 : ra.length = 30 := by omega
      refine v_iload_n C dX1_init_86 rfl ?_
      refine v_bipush C 30 dX1_init_87 (by decide) ?_
      refine v_geN C ra.length 30 111 dX1_init_89 (by decide) rfl rfl (by omega) (by omega) (fun _ => ?_) (fun h => absurd h (by omega))
      refine V.cong (sI_end G cy h0 q1 q2 q3 q4 q5 q6 q7 ra h30) (sI_ad cy h0 q1 q2 q3 q4 q5 q6 q7 ra h30) ?_
      obtain ⟨ad, had⟩ : ∃ ad, ad = adI h0 q1 q2 q3 q4 q5 q6 q7 ra := ⟨_, rfl⟩
      have e0 : ad 0 = h0 := by rw [had]; rfl
      rw [← had]
      refine V.el (lo' := [some (.ref (ad 0)), some (.int (nI ra.length))]) (by rw [e0]) ?_
      refine V.widen (k := 37) (n := 2227) (by omega) (by omega) ?_
      refine v_iconst C (0) dX1_init_111 (by decide) ?_
      refine v_istore_n C dX1_init_112 (by decide) ?_
      refine V.loop (fun k : Nat => wD cy ad (fillc k xi0)) (fun k : Nat => ([some (.ref (ad 0)), some (.int (nI k))] : List (Option Value))) (fun k : Nat => True) 5 ?_ trivial
      intro k hle_k hP_k ih_k
      try dsimp only at hP_k ih_k ⊢
      refine v_iload_n C dX1_init_113 rfl ?_
      refine v_iconst C (5) dX1_init_114 (by decide) ?_
      refine v_geN C k 5 132 dX1_init_115 (by decide) rfl rfl (by omega) (by omega) (fun c1 => ?_) (fun c1 => ?_)
      · -- loop 113 is over
        have e_k : 5 = k := by omega
        subst e_k
        refine v_iconst C (0) dX1_init_132 (by decide) ?_
        refine v_istore_n C dX1_init_133 (by decide) ?_
        refine V.loop (fun k : Nat => wD cy ad (fillp k (fillc 5 xi0))) (fun k : Nat => ([some (.ref (ad 0)), some (.int (nI k))] : List (Option Value))) (fun k : Nat => True) 2 ?_ trivial
        intro k hle_k hP_k ih_k
        try dsimp only at hP_k ih_k ⊢
        refine v_iload_n C dX1_init_134 rfl ?_
        refine v_iconst C (2) dX1_init_135 (by decide) ?_
        refine v_geN C k 2 152 dX1_init_136 (by decide) rfl rfl (by omega) (by omega) (fun c2 => ?_) (fun c2 => ?_)
        · -- loop 134 is over
          have e_k : 2 = k := by omega
          subst e_k
          refine v_iconst C (0) dX1_init_152 (by decide) ?_
          refine v_istore_n C dX1_init_153 (by decide) ?_
          refine V.loop (fun k : Nat => wD cy ad (fillm k (fillp 2 (fillc 5 xi0)))) (fun k : Nat => ([some (.ref (ad 0)), some (.int (nI k))] : List (Option Value))) (fun k : Nat => True) 1000 ?_ trivial
          intro k hle_k hP_k ih_k
          try dsimp only at hP_k ih_k ⊢
          refine v_iload_n C dX1_init_154 rfl ?_
          refine v_sipush C (1000) dX1_init_155 (by decide) ?_
          refine v_geN C k 1000 174 dX1_init_158 (by decide) rfl rfl (by omega) (by omega) (fun c3 => ?_) (fun c3 => ?_)
          · -- loop 154 is over
            have e_k : 1000 = k := by omega
            subst e_k
            exact v_eret (Wf := fun ad => wD cy ad xD) C ad e0 dX1_init_174
          · have hk : k < 1000 := c3
            refine v_aload_n C dX1_init_161 rfl ?_
            refine vD_g_numberOfMark C hin1 (by decide +kernel) dX1_init_162 ?_
            refine v_iload_n C dX1_init_165 rfl ?_
            refine v_iconst C (-1) dX1_init_166 (by decide) ?_
            refine vD_s_numberOfMark C k rfl (by omega) dX1_init_167 ?_
            refine v_incN C dX1_init_168 rfl (by decide) ?_
            refine v_goto C 154 dX1_init_171 (by decide) ?_
            exact ih_k hk trivial
        · have hk : k < 2 := c2
          refine v_aload_n C dX1_init_139 rfl ?_
          refine vD_g_busAtCharger C hin1 (by decide +kernel) dX1_init_140 ?_
          refine v_iload_n C dX1_init_143 rfl ?_
          refine v_iconst C (-1) dX1_init_144 (by decide) ?_
          refine vD_s_busAtCharger C k rfl (by omega) dX1_init_145 ?_
          refine v_incN C dX1_init_146 rfl (by decide) ?_
          refine v_goto C 134 dX1_init_149 (by decide) ?_
          exact ih_k hk trivial
      · have hk : k < 5 := c1
        refine v_aload_n C dX1_init_118 rfl ?_
        refine vD_g_charges C hin1 (by decide +kernel) dX1_init_119 ?_
        refine v_iload_n C dX1_init_122 rfl ?_
        refine v_bipush C (100) dX1_init_123 (by decide) ?_
        refine vD_s_charges C k rfl (by omega) dX1_init_125 ?_
        refine v_incN C dX1_init_126 rfl (by decide) ?_
        refine v_goto C 113 dX1_init_129 (by decide) ?_
        exact ih_k hk trivial
    | succ f ih =>
      intro ra hra
      refine v_iload_n C dX1_init_86 rfl ?_
      refine v_bipush C 30 dX1_init_87 (by decide) ?_
      refine v_geN C ra.length 30 111 dX1_init_89 (by decide) rfl rfl (by omega) (by omega) (fun h => absurd h (by omega)) (fun hlt => ?_)
      refine v_aload_n C dX1_init_92 rfl ?_
      refine v_get C 0 0 1 rfl rfl (by decide) rfl hin1 (by decide +kernel) dX1_init_93 ?_
      refine v_iload_n C dX1_init_96 rfl ?_
      refine v_new C (fs := [.int 0, .int 0, .int 0, .int 0, .int 0, .int 0]) (ci := 0) hin0 tyX0 tyX0_ok (by decide +kernel) (by decide +kernel) (by decide +kernel) rfl (fun j hj => by rcases (show j = 0 ∨ j = 1 ∨ j = 2 ∨ j = 3 ∨ j = 4 ∨ j = 5 by omega) with rfl | rfl | rfl | rfl | rfl | rfl <;> rfl) (show 7 + ra.length + 1 ≤ 37 by omega) (show 2047 + 6 * ra.length + 6 ≤ 2227 by omega) dX1_init_97 (fun q => ?_)
      refine v_dup C dX1_init_100 rfl ?_
      refine v_callIV C (sI cy h0 q1 q2 q3 q4 q5 q6 q7 ra) [] (k_X0_init l G cy q) rfl gX1_init_X0_init_n51 (nA := 0) (by decide +kernel) hAO.2 (by decide +kernel) rfl (by decide +kernel) rfl (by decide) (by constructor <;> simp [vR] <;> omega) rfl (Nat.le_of_ble_eq_true rfl) (by simp) (w2 := sI cy h0 q1 q2 q3 q4 q5 q6 q7 ra ++ [rc q]) (by simp [rc]) dX1_init_101 ?_
      refine v_aastq C 1 (8 + ra.length) ra.length rfl hlt (by decide) rfl (sI_at cy h0 q1 q2 q3 q4 q5 q6 q7 ra q) (w' := sI cy h0 q1 q2 q3 q4 q5 q6 q7 (ra ++ [q])) (sI_up cy h0 q1 q2 q3 q4 q5 q6 q7 ra q) dX1_init_104 ?_
      refine v_incN C dX1_init_105 rfl (by decide) ?_
      refine v_goto C 86 dX1_init_108 (by decide) ?_
      have h9 := ih (ra ++ [q]) (by simp; omega)
      rw [show (ra ++ [q]).length = ra.length + 1 by simp] at h9
      exact V.widen (by omega) (by omega) h9
  exact V.widen (by decide) (by decide) (key 30 [] rfl)
