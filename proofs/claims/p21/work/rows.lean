section
-- ===== PART A: goes FIRST, ahead of the names: the tables' words, and 'selects' of the private methods out of them =====
/-- a private method of a class that the tables say can be made, by its rows of tables_1 -/
def lw_okq (q : MethodName × Nat) : Prop := (q.1.cls ≠ "java/lang/invoke/MethodHandle" ∧ q.1.cls ≠ "java/lang/invoke/VarHandle") ∧ Cond.instantiable q.1.cls q.2 ∈ tables_1 ∧ Cond.privateMethod q.1 ∈ tables_1 ∧ Cond.instanceMethod q.1 ∈ tables_1
theorem lw_p0 : lw_okq (⟨"java/lang/Throwable", "fillInStackTrace", "(I)Ljava/lang/Throwable;"⟩, 6) := ⟨⟨by decide +kernel, by decide +kernel⟩, List.mem_of_getElem? (i := 134) (by decide +kernel), List.mem_of_getElem? (i := 132) (by decide +kernel), List.mem_of_getElem? (i := 133) (by decide +kernel)⟩
theorem lw_p1 : lw_okq (⟨"DepotLog", "unplug", "(I)V"⟩, 12) := ⟨⟨by decide +kernel, by decide +kernel⟩, List.mem_of_getElem? (i := 10) (by decide +kernel), List.mem_of_getElem? (i := 191) (by decide +kernel), List.mem_of_getElem? (i := 192) (by decide +kernel)⟩
theorem lw_p2 : lw_okq (⟨"DepotLog", "takeOrdersFromBus", "(I)V"⟩, 12) := ⟨⟨by decide +kernel, by decide +kernel⟩, List.mem_of_getElem? (i := 10) (by decide +kernel), List.mem_of_getElem? (i := 195) (by decide +kernel), List.mem_of_getElem? (i := 196) (by decide +kernel)⟩
theorem lw_p3 : lw_okq (⟨"DepotLog", "swapBus", "(I)V"⟩, 12) := ⟨⟨by decide +kernel, by decide +kernel⟩, List.mem_of_getElem? (i := 10) (by decide +kernel), List.mem_of_getElem? (i := 203) (by decide +kernel), List.mem_of_getElem? (i := 204) (by decide +kernel)⟩
theorem lw_p4 : lw_okq (⟨"DepotLog", "giveOtherBus", "(LDepotLog$Run;)V"⟩, 12) := ⟨⟨by decide +kernel, by decide +kernel⟩, List.mem_of_getElem? (i := 10) (by decide +kernel), List.mem_of_getElem? (i := 207) (by decide +kernel), List.mem_of_getElem? (i := 208) (by decide +kernel)⟩
theorem lw_p5 : lw_okq (⟨"DepotLog", "lowestFitBus", "(LDepotLog$Run;)I"⟩, 12) := ⟨⟨by decide +kernel, by decide +kernel⟩, List.mem_of_getElem? (i := 10) (by decide +kernel), List.mem_of_getElem? (i := 211) (by decide +kernel), List.mem_of_getElem? (i := 212) (by decide +kernel)⟩
theorem lw_p6 : lw_okq (⟨"DepotLog", "isBusFit", "(ILDepotLog$Run;)Z"⟩, 12) := ⟨⟨by decide +kernel, by decide +kernel⟩, List.mem_of_getElem? (i := 10) (by decide +kernel), List.mem_of_getElem? (i := 215) (by decide +kernel), List.mem_of_getElem? (i := 216) (by decide +kernel)⟩
theorem lw_p7 : lw_okq (⟨"DepotLog", "promisedCharge", "(I)I"⟩, 12) := ⟨⟨by decide +kernel, by decide +kernel⟩, List.mem_of_getElem? (i := 10) (by decide +kernel), List.mem_of_getElem? (i := 219) (by decide +kernel), List.mem_of_getElem? (i := 220) (by decide +kernel)⟩
theorem lw_p8 : lw_okq (⟨"DepotLog", "sendOut", "(II)V"⟩, 12) := ⟨⟨by decide +kernel, by decide +kernel⟩, List.mem_of_getElem? (i := 10) (by decide +kernel), List.mem_of_getElem? (i := 231) (by decide +kernel), List.mem_of_getElem? (i := 232) (by decide +kernel)⟩
theorem lw_p9 : lw_okq (⟨"DepotLog", "takeOrdersFromDriver", "(I)V"⟩, 12) := ⟨⟨by decide +kernel, by decide +kernel⟩, List.mem_of_getElem? (i := 10) (by decide +kernel), List.mem_of_getElem? (i := 239) (by decide +kernel), List.mem_of_getElem? (i := 240) (by decide +kernel)⟩
theorem lw_p10 : lw_okq (⟨"DepotLog", "swapDriver", "(I)V"⟩, 12) := ⟨⟨by decide +kernel, by decide +kernel⟩, List.mem_of_getElem? (i := 10) (by decide +kernel), List.mem_of_getElem? (i := 243) (by decide +kernel), List.mem_of_getElem? (i := 244) (by decide +kernel)⟩
theorem lw_p11 : lw_okq (⟨"DepotLog", "giveOtherDriver", "(LDepotLog$Run;)V"⟩, 12) := ⟨⟨by decide +kernel, by decide +kernel⟩, List.mem_of_getElem? (i := 10) (by decide +kernel), List.mem_of_getElem? (i := 247) (by decide +kernel), List.mem_of_getElem? (i := 248) (by decide +kernel)⟩
theorem lw_p12 : lw_okq (⟨"DepotLog", "lowestFitDriver", "(LDepotLog$Run;)I"⟩, 12) := ⟨⟨by decide +kernel, by decide +kernel⟩, List.mem_of_getElem? (i := 10) (by decide +kernel), List.mem_of_getElem? (i := 251) (by decide +kernel), List.mem_of_getElem? (i := 252) (by decide +kernel)⟩
theorem lw_p13 : lw_okq (⟨"DepotLog", "isDriverFit", "(ILDepotLog$Run;)Z"⟩, 12) := ⟨⟨by decide +kernel, by decide +kernel⟩, List.mem_of_getElem? (i := 10) (by decide +kernel), List.mem_of_getElem? (i := 255) (by decide +kernel), List.mem_of_getElem? (i := 256) (by decide +kernel)⟩
theorem lw_p14 : lw_okq (⟨"DepotLog", "workedMinutes", "(II)I"⟩, 12) := ⟨⟨by decide +kernel, by decide +kernel⟩, List.mem_of_getElem? (i := 10) (by decide +kernel), List.mem_of_getElem? (i := 263) (by decide +kernel), List.mem_of_getElem? (i := 264) (by decide +kernel)⟩
theorem lw_p15 : lw_okq (⟨"DepotLog", "canBeOrdered", "(LDepotLog$Run;II)Z"⟩, 12) := ⟨⟨by decide +kernel, by decide +kernel⟩, List.mem_of_getElem? (i := 10) (by decide +kernel), List.mem_of_getElem? (i := 344) (by decide +kernel), List.mem_of_getElem? (i := 345) (by decide +kernel)⟩
def lw_privs_1 : List (MethodName × Nat) := [(⟨"java/lang/Throwable", "fillInStackTrace", "(I)Ljava/lang/Throwable;"⟩, 6), (⟨"DepotLog", "unplug", "(I)V"⟩, 12), (⟨"DepotLog", "takeOrdersFromBus", "(I)V"⟩, 12), (⟨"DepotLog", "swapBus", "(I)V"⟩, 12), (⟨"DepotLog", "giveOtherBus", "(LDepotLog$Run;)V"⟩, 12), (⟨"DepotLog", "lowestFitBus", "(LDepotLog$Run;)I"⟩, 12), (⟨"DepotLog", "isBusFit", "(ILDepotLog$Run;)Z"⟩, 12), (⟨"DepotLog", "promisedCharge", "(I)I"⟩, 12), (⟨"DepotLog", "sendOut", "(II)V"⟩, 12), (⟨"DepotLog", "takeOrdersFromDriver", "(I)V"⟩, 12), (⟨"DepotLog", "swapDriver", "(I)V"⟩, 12), (⟨"DepotLog", "giveOtherDriver", "(LDepotLog$Run;)V"⟩, 12), (⟨"DepotLog", "lowestFitDriver", "(LDepotLog$Run;)I"⟩, 12), (⟨"DepotLog", "isDriverFit", "(ILDepotLog$Run;)Z"⟩, 12), (⟨"DepotLog", "workedMinutes", "(II)I"⟩, 12), (⟨"DepotLog", "canBeOrdered", "(LDepotLog$Run;II)Z"⟩, 12)]
theorem lw_r1 : ∀ q ∈ lw_privs_1, lw_okq q := List.forall_mem_cons.mpr ⟨lw_p0, List.forall_mem_cons.mpr ⟨lw_p1, List.forall_mem_cons.mpr ⟨lw_p2, List.forall_mem_cons.mpr ⟨lw_p3, List.forall_mem_cons.mpr ⟨lw_p4, List.forall_mem_cons.mpr ⟨lw_p5, List.forall_mem_cons.mpr ⟨lw_p6, List.forall_mem_cons.mpr ⟨lw_p7, List.forall_mem_cons.mpr ⟨lw_p8, List.forall_mem_cons.mpr ⟨lw_p9, List.forall_mem_cons.mpr ⟨lw_p10, List.forall_mem_cons.mpr ⟨lw_p11, List.forall_mem_cons.mpr ⟨lw_p12, List.forall_mem_cons.mpr ⟨lw_p13, List.forall_mem_cons.mpr ⟨lw_p14, List.forall_mem_cons.mpr ⟨lw_p15, fun _ h => absurd h List.not_mem_nil⟩⟩⟩⟩⟩⟩⟩⟩⟩⟩⟩⟩⟩⟩⟩⟩
theorem lw_p16 : lw_okq (⟨"DepotLog", "write", "(II)I"⟩, 12) := ⟨⟨by decide +kernel, by decide +kernel⟩, List.mem_of_getElem? (i := 10) (by decide +kernel), List.mem_of_getElem? (i := 353) (by decide +kernel), List.mem_of_getElem? (i := 354) (by decide +kernel)⟩
theorem lw_p17 : lw_okq (⟨"DepotLog", "isUnderWay", "(I)Z"⟩, 12) := ⟨⟨by decide +kernel, by decide +kernel⟩, List.mem_of_getElem? (i := 10) (by decide +kernel), List.mem_of_getElem? (i := 361) (by decide +kernel), List.mem_of_getElem? (i := 362) (by decide +kernel)⟩
theorem lw_p18 : lw_okq (⟨"DepotLog", "passMinute", "()V"⟩, 12) := ⟨⟨by decide +kernel, by decide +kernel⟩, List.mem_of_getElem? (i := 10) (by decide +kernel), List.mem_of_getElem? (i := 371) (by decide +kernel), List.mem_of_getElem? (i := 372) (by decide +kernel)⟩
theorem lw_p19 : lw_okq (⟨"DepotLog", "loadAtChargers", "()V"⟩, 12) := ⟨⟨by decide +kernel, by decide +kernel⟩, List.mem_of_getElem? (i := 10) (by decide +kernel), List.mem_of_getElem? (i := 375) (by decide +kernel), List.mem_of_getElem? (i := 376) (by decide +kernel)⟩
theorem lw_p20 : lw_okq (⟨"DepotLog", "endRuns", "()V"⟩, 12) := ⟨⟨by decide +kernel, by decide +kernel⟩, List.mem_of_getElem? (i := 10) (by decide +kernel), List.mem_of_getElem? (i := 379) (by decide +kernel), List.mem_of_getElem? (i := 380) (by decide +kernel)⟩
theorem lw_p21 : lw_okq (⟨"DepotLog", "startRuns", "()V"⟩, 12) := ⟨⟨by decide +kernel, by decide +kernel⟩, List.mem_of_getElem? (i := 10) (by decide +kernel), List.mem_of_getElem? (i := 383) (by decide +kernel), List.mem_of_getElem? (i := 384) (by decide +kernel)⟩
theorem lw_p22 : lw_okq (⟨"DepotLog", "startRun", "(LDepotLog$Run;)V"⟩, 12) := ⟨⟨by decide +kernel, by decide +kernel⟩, List.mem_of_getElem? (i := 10) (by decide +kernel), List.mem_of_getElem? (i := 387) (by decide +kernel), List.mem_of_getElem? (i := 388) (by decide +kernel)⟩
def lw_privs_2 : List (MethodName × Nat) := [(⟨"DepotLog", "write", "(II)I"⟩, 12), (⟨"DepotLog", "isUnderWay", "(I)Z"⟩, 12), (⟨"DepotLog", "passMinute", "()V"⟩, 12), (⟨"DepotLog", "loadAtChargers", "()V"⟩, 12), (⟨"DepotLog", "endRuns", "()V"⟩, 12), (⟨"DepotLog", "startRuns", "()V"⟩, 12), (⟨"DepotLog", "startRun", "(LDepotLog$Run;)V"⟩, 12)]
theorem lw_r2 : ∀ q ∈ lw_privs_2, lw_okq q := List.forall_mem_cons.mpr ⟨lw_p16, List.forall_mem_cons.mpr ⟨lw_p17, List.forall_mem_cons.mpr ⟨lw_p18, List.forall_mem_cons.mpr ⟨lw_p19, List.forall_mem_cons.mpr ⟨lw_p20, List.forall_mem_cons.mpr ⟨lw_p21, List.forall_mem_cons.mpr ⟨lw_p22, fun _ h => absurd h List.not_mem_nil⟩⟩⟩⟩⟩⟩⟩
def lw_privs : List (MethodName × Nat) := lw_privs_1 ++ (lw_privs_2)
def lw_tbl : List Cond := k2_sels lw_privs ++ tables_1
theorem lw_privs_ok : ∀ q ∈ lw_privs, lw_okq q := by
  show ∀ q ∈ lw_privs_1 ++ (lw_privs_2), lw_okq q
  exact List.forall_mem_append.mpr ⟨lw_r1, lw_r2⟩
-- ===== end of PART A; then your names; then what follows =====
end
section
/-! ===== BEGIN words of one list among another's, by their places ===== -/
theorem goodIn_r {big : List Cond} (ws : List Cond) (ps : List Nat) (hp : ws = ps.filterMap (fun i => big[i]?)) (h : ws.all goodWord = true) : GoodIn big ws := by
  intro w hw
  have h1 := List.all_eq_true.mp h w hw
  rw [hp] at hw
  obtain ⟨i, -, hi⟩ := List.mem_filterMap.mp hw
  have hm : w ∈ big := by first | exact List.mem_of_getElem? hi | exact List.getElem?_mem hi
  exact ⟨hm, good_of_word h1⟩
theorem goodIn_app {big a b : List Cond} (ha : GoodIn big a) (hb : GoodIn big b) : GoodIn big (a ++ b) := fun w h => (List.mem_append.mp h).elim (ha w) (hb w)
theorem goodIn_ca {big a b : List Cond} {c : Cond} (ha : GoodIn big (c :: a)) (hb : GoodIn big b) : GoodIn big (c :: (a ++ b)) := fun w h => (List.mem_cons.mp h).elim (fun e => ha w (List.mem_cons.mpr (Or.inl e))) (fun h => (List.mem_append.mp h).elim (fun h => ha w (List.mem_cons.mpr (Or.inr h))) (hb w))
theorem goodIn_sub {big ws : List Cond} (hm : ∀ w ∈ ws, w ∈ big) (h : ws.all goodWord = true) : GoodIn big ws := fun w hw => ⟨hm w hw, good_of_word (List.all_eq_true.mp h w hw)⟩
/-! ===== END ===== -/

/-! ===== BEGIN exceptions that leave a method, and their catching by the caller (launches without stack traces) ===== -/
section VXA
/-! The laws vx_back, vx_callV, vx_callS, vx_callSW, vx_throw0, vx_throwS follow proofs of the library, with one case more: JvmDerived/Free/Laws.lean (Back.of_free), Shelf42/LK1.lean (callV, callS), Shelf/KitTraced.lean (throwNew0V, throwNewS). -/
/-- where a method has thrown q: the class by its name, the cell, what was written, the world -/
def vx_T (XC : String → State → State → Prop) (st : State) (q : Addr) (t : State) (mc ms : Nat) (free : Addr → Prop) : Prop :=
  ∃ (E : String) (ce : Cell) (L : List Loc), XC E st t ∧ t.heap[q]? = some ce ∧ ce.vm = .none ∧ st.vm.findClass E = some ce.cls ∧ st.WarmedH t.vm ∧ st.sameButNew ({ t with vm := st.vm } : State) L mc ms ∧ ∀ z ∈ L, free z.base
def vx_Q (Qc : Array Value → State → Outcome → State → Prop) (XC : String → State → State → Prop) (mc ms : Nat) (free : Addr → Prop) : Array Value → State → Outcome → State → Prop := fun a st o t =>
  (Qc a st o t ∧ ∃ L, FrameEnd st o t L mc ms ∧ ∀ q ∈ L, free q.base) ∨ ∃ q, o = .threw q ∧ vx_T XC st q t mc ms free
/-- a callee that returns or throws -/
def vx_Met (l : Launch) (y : MethodName) (ws : List Cond) (rm : Room) (Pc : Array Value → State → Prop) (Qc : Array Value → State → Outcome → State → Prop) (XC : String → State → State → Prop) (mc ms : Nat) (free : Addr → Prop) : Prop :=
  MetFree l y (headSpec ws rm) Pc (fun _ _ _ _ _ => True) (vx_Q Qc XC mc ms free)
def vx_Post (XC : String → State → State → Prop) (mc ms : Nat) (free : Addr → Prop) : Pt → Array Value → Addr → Pt → Prop := fun A a q B =>
  ∃ (g : JFrame) (mk : MethodId) (t : State) (L : List Loc) (E : String) (ce : Cell), B.U.heap = t.heap ∧ B.U.vm = t.vm ∧ XC E (A.U.calling g mk a) t ∧ t.heap[q]? = some ce ∧ ce.vm = .none ∧ A.U.vm.findClass E = some ce.cls ∧ B.locs = A.locs ++ L ∧ (∀ z ∈ L, free z.base) ∧ B.cells = A.cells + mc ∧ B.slots = A.slots + ms
def vx_Back (l : Launch) (R : Room) (p : Program) (e : Env) (below : List Frame) (s : State) (sargs : Array Value) (y : MethodName) (len W9 : Nat)
    (Pre : Pt → Array Value → Prop) (Post : Pt → Array Value → Option Value → Pt → Prop) (PostX : Pt → Array Value → Addr → Pt → Prop) : Prop :=
  ∀ (m : MethodId) (meth : Method) (c : Code) (A : Pt) (g : JFrame) (ig : Instr) (mk : MethodId) (a : Array Value),
    Stand p l e R s m sargs below meth c A.U A.locs A.cells A.slots → g.method = m → g.locals.size = c.maxLocals → decode c.code g.pc = .ok (ig, len) →
    2 * g.monitorRoom + (g.stack.map fun v => v.category).sum ≤ W9 → A.U.methodNamed? y = some mk → Pre A a →
    (∃ (v : Option Value) (B : Pt), Stand p l e R s m sargs below meth c B.U B.locs B.cells B.slots ∧ Post A a v B ∧
      Steps p.tables e below (doInvoke e (A.U.setTop g) [] mk a).1 (B.U.setTop { g with pc := g.pc + len, stack := v.toList ++ g.stack })) ∨
    (∃ (q : Addr) (B : Pt), Stand p l e R s m sargs below meth c B.U B.locs B.cells B.slots ∧ PostX A a q B ∧
      Steps p.tables e below (doInvoke e (A.U.setTop g) [] mk a).1 ((B.U.setTop g).pushFrame (.throwing q)))
section Payer
variable {l : Launch} {R : Room} {p : Program} {e : Env} {below : List Frame} {s : State} {sargs : Array Value} {y : MethodName} {len W9 : Nat}
theorem vx_back {ws : List Cond} {rm : Room} {Pc : Array Value → State → Prop} {Qc : Array Value → State → Outcome → State → Prop} {XC : String → State → State → Prop} {mc ms : Nat} {free : Addr → Prop} {bytes : ByteArray} {maxL : Nat} {ret : Option FieldType}
    (hM : vx_Met l y ws rm Pc Qc XC mc ms free) (hblind : FrameBlind Pc) (hrc : rm.cells = mc) (hrs : rm.slots = ms)
    (hframes : rm.frames + 1 ≤ R.frames) (hlocals : W9 + (maxL + 11) + rm.locals ≤ R.locals)
    (hws : ∀ w ∈ ws, ∀ a' U, s.WarmedH U.vm → w.before a' U = true) (hcode : Cond.code y bytes maxL ret ∈ ws) (hinit : ∀ a' U, s.WarmedH U.vm → (Cond.initialized y.cls).before a' U = true) :
    vx_Back l R p e below s sargs y len W9 (PreOf R mc ms Pc) (PostOf Qc mc ms free) (vx_Post XC mc ms free) := by
  intro m meth c A g ig mk a X hg hsize hdg hW hn hp
  have h1 : (headSpec ws rm).pre.before a A.U = true := atoms_intro fun w hw => hws w hw _ _ X.warmed
  have h2 : (Cond.code y bytes maxL ret).before a A.U = true := hws _ hcode _ _ X.warmed
  have h3 : (Cond.initialized y.cls).before a A.U = true := hinit _ _ X.warmed
  have h4 : A.cells + (headSpec ws rm).room.cells ≤ R.cells := by rw [show (headSpec ws rm).room.cells = mc from hrc]; exact hp.1
  have h5 : A.slots + (headSpec ws rm).room.slots ≤ R.slots := by rw [show (headSpec ws rm).room.slots = ms from hrs]; exact hp.2.1
  have hPc : Pc a (A.U.calling g mk a) := hblind _ _ _ _ hp.2.2
  obtain ⟨U, Ls, c0, s0⟩ := A
  dsimp only [Pt.U, Pt.locs, Pt.cells, Pt.slots] at h1 h2 h3 h4 h5 X hn hPc ⊢
  obtain ⟨methY, cY, hmY, hcY, -, hlY, -, -, -, -⟩ := Cond.code_spec hn h2
  obtain ⟨kY, hkY, -⟩ := className_of_methodNamed hn
  have hinitY : kY.init = .initialized := Cond.initialized_spec (findClass_of_methodNamed hn) hkY h3
  have h : At U g.method c below := by rw [hg]; exact X.here
  have hlocals9 : W9 + (maxL + 11) + (headSpec ws rm).room.locals ≤ R.locals := hlocals
  have happ : (headSpec ws rm).appliesLoose y e.platform (U.calling g mk a) = true :=
    Spec.appliesLoose_calling (g := g) h hdg hn hkY hinitY
      (X.room_calling (g := g) (R' := (headSpec ws rm).room) hsize hmY hcY hframes (by rw [hlY]; omega) h4 h5) h1
  obtain ⟨mid, hmid⟩ := h.above
  have hfr : (U.setTop g).frames = (.java g :: mid) ++ below := by rw [State.frames_setTop' g h.top, hmid]; rfl
  obtain ⟨o, s₂, hsteps, -, hend, hq⟩ := Steps.callFree hM p X.admits X.cas X.clock (acts := []) hfr happ hPc trivial
  have hq' : vx_Q Qc XC mc ms free a (U.calling g mk a) o s₂ := hq
  rw [State.frames_setTop' g h.top] at hend
  obtain ⟨g₀, hg0⟩ := Option.isSome_iff_exists.mp h.top
  obtain ⟨r, hr⟩ := State.topJava?_eq_some.mp hg0
  have hr' : (({ U with heap := s₂.heap, slotsUsed := s₂.slotsUsed } : State).setVm s₂.vm).frames = .java g₀ :: r := hr
  rcases hq' with ⟨hqc, L, hfe, hL⟩ | ⟨q, rfl, E, ce, L, hx, hce, hcv, hcl, hW₂, hsm, hL⟩
  · obtain ⟨⟨v, rfl⟩, hW₂, e2, q2, q3, q4, q5, q6⟩ := id hfe
    have e3 : s₂ = ({ (U.calling g mk a).setFrames s₂.frames with heap := s₂.heap, slotsUsed := s₂.slotsUsed } : State).setVm s₂.vm := by
      have : s₂ = ({ s₂ with vm := (U.calling g mk a).vm } : State).setVm s₂.vm := rfl
      rw [e2] at this
      exact this
    obtain ⟨c₂, i₂, len₂, hc₂, hd₂, hf₂⟩ := hend
    have hW' : U.WarmedH s₂.vm := hW₂
    have hcc : c₂ = c := by
      have h1 : s₂.code? g.method = U.code? g.method := by
        rw [State.code?_eq, State.code?_eq, hW'.alike.method?]
      exact Option.some.inj (hc₂.symm.trans (h1.trans h.code))
    subst hcc
    have hlen : len₂ = len := by rw [hdg] at hd₂; cases hd₂; rfl
    subst hlen
    have hs₂ : s₂ = (({ U with heap := s₂.heap, slotsUsed := s₂.slotsUsed } : State).setVm s₂.vm).setTop { g with pc := g.pc + len₂, stack := v.toList ++ g.stack } := by
      refine e3.trans ?_
      rw [hf₂, State.calling_eq h.top, State.setFrames_setFrames, State.setTop_of_frames _ hr', hr]
      rfl
    have hsame : U.sameButNew ({ U with heap := s₂.heap, slotsUsed := s₂.slotsUsed } : State) L mc ms := by
      refine ⟨?_, q2, q3, q4, q5, q6⟩
      obtain ⟨t, ht, -⟩ := State.frames_cons hr
      show ({ U with heap := s₂.heap, slotsUsed := s₂.slotsUsed } : State) = { U.setFrames U.frames with heap := s₂.heap, slotsUsed := s₂.slotsUsed }
      rw [State.setFrames_self ht]
    subst hg
    refine Or.inl ⟨v, ⟨(({ U with heap := s₂.heap, slotsUsed := s₂.slotsUsed } : State).setVm s₂.vm), Ls ++ L, c0 + mc, s0 + ms⟩,
      ⟨X.admits, X.cas, X.clock, X.frames, X.room, X.hears, X.method, X.code, (X.here.setHeapUsed s₂.heap s₂.slotsUsed).setVm hW'.alike, X.tail, State.WarmedH.trans X.warmed hW', X.limits, X.bytes, X.same.trans (hsame.setVm s.vm)⟩,
      ⟨g, mk, s₂, L, rfl, rfl, hqc, rfl, hL, rfl, rfl⟩, ?_⟩
    show Steps p.tables e below _ ((({ U with heap := s₂.heap, slotsUsed := s₂.slotsUsed } : State).setVm s₂.vm).setTop { g with pc := g.pc + len₂, stack := v.toList ++ g.stack })
    rw [← hs₂]
    exact hsteps
  · obtain ⟨e2, q2, q3, q4, q5, q6⟩ := id hsm
    have e3 : s₂ = ({ (U.calling g mk a).setFrames s₂.frames with heap := s₂.heap, slotsUsed := s₂.slotsUsed } : State).setVm s₂.vm := by
      have : s₂ = ({ s₂ with vm := (U.calling g mk a).vm } : State).setVm s₂.vm := rfl
      rw [e2] at this
      exact this
    have hf₂ : s₂.frames = .throwing q :: .java g :: U.frames.tail := hend
    have hW' : U.WarmedH s₂.vm := hW₂
    have hs₂ : s₂ = ((({ U with heap := s₂.heap, slotsUsed := s₂.slotsUsed } : State).setVm s₂.vm).setTop g).pushFrame (.throwing q) := by
      refine e3.trans ?_
      rw [hf₂, State.calling_eq h.top, State.setFrames_setFrames, State.pushFrame, State.frames_setTop _ hr', State.setTop_of_frames _ hr', State.setFrames_setFrames, hr]
      rfl
    have hsame : U.sameButNew ({ U with heap := s₂.heap, slotsUsed := s₂.slotsUsed } : State) L mc ms := by
      refine ⟨?_, q2, q3, q4, q5, q6⟩
      obtain ⟨t, ht, -⟩ := State.frames_cons hr
      show ({ U with heap := s₂.heap, slotsUsed := s₂.slotsUsed } : State) = { U.setFrames U.frames with heap := s₂.heap, slotsUsed := s₂.slotsUsed }
      rw [State.setFrames_self ht]
    subst hg
    refine Or.inr ⟨q, ⟨(({ U with heap := s₂.heap, slotsUsed := s₂.slotsUsed } : State).setVm s₂.vm), Ls ++ L, c0 + mc, s0 + ms⟩,
      ⟨X.admits, X.cas, X.clock, X.frames, X.room, X.hears, X.method, X.code, (X.here.setHeapUsed s₂.heap s₂.slotsUsed).setVm hW'.alike, X.tail, State.WarmedH.trans X.warmed hW', X.limits, X.bytes, X.same.trans (hsame.setVm s.vm)⟩,
      ⟨g, mk, s₂, L, E, ce, rfl, rfl, hx, hce, hcv, hcl, rfl, hL, rfl, rfl⟩, ?_⟩
    show Steps p.tables e below _ (((({ U with heap := s₂.heap, slotsUsed := s₂.slotsUsed } : State).setVm s₂.vm).setTop g).pushFrame (.throwing q))
    rw [← hs₂]
    exact hsteps
end Payer
section Calls
variable {p : Program} {l : Launch} {e : Env} {R : Room} {s : State} {m : MethodId} {args : Array Value} {below : List Frame} {meth : Method} {c : Code} {T : State} {locs : List Loc} {cells slots : Nat}
theorem vx_callV (X : Stand p l e R s m args below meth c T locs cells slots) (hexec : p.tables.exec = Jvm.exec) {own C : String} {index : Nat} {y : MethodName} {bytes : ByteArray} {maxL : Nat} {ret : Option FieldType}
    (hown : s.vm.findClass own = some m.cls) (hlink : (Cond.methodLink own index y).before args s = true) (hinst : (Cond.instanceMethod y).before args s = true) (hsel : (Cond.selects C y y).before args s = true)
    (hcode : (Cond.code y bytes maxL ret).before args s = true) (hy : y.cls ≠ "java/lang/invoke/MethodHandle" ∧ y.cls ≠ "java/lang/invoke/VarHandle")
    {W9 : Nat} {Pre : Pt → Array Value → Prop} {Post : Pt → Array Value → Option Value → Pt → Prop} {PostX : Pt → Array Value → Addr → Pt → Prop} (hK : vx_Back l R p e below s args y 3 W9 Pre Post PostX)
    {b : Addr} {cellB : Cell} (hcell : T.heap[b]? = some cellB) (hobj : cellB.vm.isStatics = false) (hcls : s.vm.findClass C = some cellB.cls)
    {g : JFrame} (hg : g.method = m) (hsize : g.locals.size = c.maxLocals) {argsL rest : List Value} (hlen : ∀ sig, parseMethodDescriptor y.desc = some sig → argsL.length = sig.parameters.length)
    (hstack : g.stack = argsL.reverse ++ .ref b :: rest) (hW : 2 * g.monitorRoom + (rest.map fun v => v.category).sum ≤ W9) (hdg : decode c.code g.pc = .ok (.invokevirtual index, 3))
    (hpre : ∀ vm₁, s.WarmedH vm₁ → Pre ⟨T.setVm vm₁, locs, cells, slots⟩ (Value.ref b :: argsL).toArray) :
    (∃ (v : Option Value) (vm₁ : Vm) (B : Pt), s.WarmedH vm₁ ∧ Stand p l e R s m args below meth c B.U B.locs B.cells B.slots ∧ Post ⟨T.setVm vm₁, locs, cells, slots⟩ (Value.ref b :: argsL).toArray v B ∧
      ∀ target, Steps p.tables e below (B.U.setTop { g with pc := g.pc + 3, stack := v.toList ++ rest }) target → Steps p.tables e below (T.setTop g) target) ∨
    (∃ (q : Addr) (vm₁ : Vm) (B : Pt), s.WarmedH vm₁ ∧ Stand p l e R s m args below meth c B.U B.locs B.cells B.slots ∧ PostX ⟨T.setVm vm₁, locs, cells, slots⟩ (Value.ref b :: argsL).toArray q B ∧
      Steps p.tables e below (T.setTop g) ((B.U.setTop { g with stack := rest }).pushFrame (.throwing q))) := by
  obtain ⟨mk, methM, hnamed, hmethM, hstM, habM⟩ := Cond.instanceMethod_spec hinst
  obtain ⟨methM', cM, hmethM', -, -, -, -, -, -, hsigM⟩ := Cond.code_spec hnamed hcode
  cases hmethM.symm.trans hmethM'
  obtain ⟨c2, r2, m2, q1, q2, q3, q4, kP, hkP, hkPi⟩ := Cond.selects_spec hsel
  cases hcls.symm.trans q1
  cases (State.methodFound?_of_named hnamed hy).symm.trans q2
  cases hnamed.symm.trans q3
  have hselP : selectMethod e.platform s.vm cellB.cls mk = .method mk := by rw [Launch.admits_selectMethod X.admits]; exact q4
  obtain ⟨vm₁, X₁, hstep₁⟩ := X.invokevirtual hexec hown hlink hnamed hmethM hstM hkP hkPi hy (a := b) (cell := cellB) hcell
    (fun z h => by rw [h] at hobj; cases hobj) hselP hmethM habM hkP hkPi (g := g) hg (argsL := argsL) (rest := rest) (hlen _ hsigM) hstack hdg
  rcases hK m meth c ⟨T.setVm vm₁, locs, cells, slots⟩ { g with stack := rest } (.invokevirtual index) mk (Value.ref b :: argsL).toArray X₁ hg hsize hdg hW (X₁.named hnamed) (hpre vm₁ X₁.warmed) with ⟨v, B, X', hpost, hsteps⟩ | ⟨q, B, X', hpost, hsteps⟩
  · exact Or.inl ⟨v, vm₁, B, X₁.warmed, X', hpost, fun target h => hstep₁ _ fun acts => by rw [doInvoke_state]; exact hsteps.trans h⟩
  · exact Or.inr ⟨q, vm₁, B, X₁.warmed, X', hpost, hstep₁ _ fun acts => by rw [doInvoke_state]; exact hsteps⟩
theorem vx_callS (X : Stand p l e R s m args below meth c T locs cells slots) (hexec : p.tables.exec = Jvm.exec) {own : String} {index : Nat} {y : MethodName} {bytes : ByteArray} {maxL : Nat} {ret : Option FieldType}
    (hown : s.vm.findClass own = some m.cls) (hlink : (Cond.methodLink own index y).before args s = true) (hstat : (Cond.static y).before args s = true) (hinit : (Cond.initialized y.cls).before args s = true)
    (hcode : (Cond.code y bytes maxL ret).before args s = true) (hy : y.cls ≠ "java/lang/invoke/MethodHandle" ∧ y.cls ≠ "java/lang/invoke/VarHandle")
    {W9 : Nat} {Pre : Pt → Array Value → Prop} {Post : Pt → Array Value → Option Value → Pt → Prop} {PostX : Pt → Array Value → Addr → Pt → Prop} (hK : vx_Back l R p e below s args y 3 W9 Pre Post PostX)
    {g : JFrame} (hg : g.method = m) (hsize : g.locals.size = c.maxLocals) {argsL rest : List Value} (hlen : ∀ sig, parseMethodDescriptor y.desc = some sig → argsL.length = sig.parameters.length)
    (hstack : g.stack = argsL.reverse ++ rest) (hW : 2 * g.monitorRoom + (rest.map fun v => v.category).sum ≤ W9) (hdg : decode c.code g.pc = .ok (.invokestatic index, 3))
    (hpre : ∀ vm₁, s.WarmedH vm₁ → Pre ⟨T.setVm vm₁, locs, cells, slots⟩ argsL.toArray) :
    (∃ (v : Option Value) (vm₁ : Vm) (B : Pt), s.WarmedH vm₁ ∧ Stand p l e R s m args below meth c B.U B.locs B.cells B.slots ∧ Post ⟨T.setVm vm₁, locs, cells, slots⟩ argsL.toArray v B ∧
      ∀ target, Steps p.tables e below (B.U.setTop { g with pc := g.pc + 3, stack := v.toList ++ rest }) target → Steps p.tables e below (T.setTop g) target) ∨
    (∃ (q : Addr) (vm₁ : Vm) (B : Pt), s.WarmedH vm₁ ∧ Stand p l e R s m args below meth c B.U B.locs B.cells B.slots ∧ PostX ⟨T.setVm vm₁, locs, cells, slots⟩ argsL.toArray q B ∧
      Steps p.tables e below (T.setTop g) ((B.U.setTop { g with stack := rest }).pushFrame (.throwing q))) := by
  obtain ⟨mk, hnamed⟩ := Cond.code_named hcode
  obtain ⟨methM, cM, hmethM, -, -, -, -, -, -, hsigM⟩ := Cond.code_spec hnamed hcode
  have hstatic : methM.isStatic = true := Cond.static_spec hnamed hmethM hstat
  obtain ⟨kP, hkP, -⟩ := className_of_methodNamed hnamed
  have hinitP : kP.init = .initialized := Cond.initialized_spec (findClass_of_methodNamed hnamed) hkP hinit
  obtain ⟨vm₁, X₁, hstep₁⟩ := X.invokestatic hexec hown hlink hnamed hmethM hstatic hkP hinitP hy (g := g) hg (argsL := argsL) (rest := rest) (hlen _ hsigM) hstack hdg
  rcases hK m meth c ⟨T.setVm vm₁, locs, cells, slots⟩ { g with stack := rest } (.invokestatic index) mk argsL.toArray X₁ hg hsize hdg hW (X₁.named hnamed) (hpre vm₁ X₁.warmed) with ⟨v, B, X', hpost, hsteps⟩ | ⟨q, B, X', hpost, hsteps⟩
  · exact Or.inl ⟨v, vm₁, B, X₁.warmed, X', hpost, fun target h => hstep₁ _ fun acts => by rw [doInvoke_state]; exact hsteps.trans h⟩
  · exact Or.inr ⟨q, vm₁, B, X₁.warmed, X', hpost, hstep₁ _ fun acts => by rw [doInvoke_state]; exact hsteps⟩
end Calls
theorem vx_cls {s : State} {T : State} {vm₁ : Vm} {E : String} {k : ClassId} (hW : s.WarmedH vm₁) (h : (T.setVm vm₁).vm.findClass E = some k) : s.vm.findClass E = some k := by
  have h1 : vm₁.findClass E = some k := h
  rw [hW.alike.findClass] at h1
  exact h1
/-- the method's frame g, with q thrown over it -/
def vx_W (p : Program) (l : Launch) (e : Env) (R : Room) (s : State) (m : MethodId) (args : Array Value) (below : List Frame) (meth : Method) (c : Code) (H : Heap) (locs : List Loc) (cells slots : Nat) (Q : State → Prop) (g : JFrame) (q : Addr) : Prop :=
  ∀ T : State, T.heap = H → Stand p l e R s m args below meth c T locs cells slots → ∃ t, Steps p.tables e below ((T.setTop g).pushFrame (.throwing q)) t ∧ Q t
def vx_Run (p : Program) (l : Launch) (e : Env) (R : Room) (s : State) (m : MethodId) (args : Array Value) (below : List Frame) (meth : Method) (c : Code) (H : Heap) (locs : List Loc) (cells slots mc ms : Nat) (g : JFrame) (rest : List Value) (Qa : State → Outcome → State → Prop) (XC : String → State → State → Prop) (free : Addr → Prop) : Prop :=
  ∀ T : State, T.heap = H → Stand p l e R s m args below meth c T locs cells slots →
    (∃ (v : Option Value) (st₀ t T' : State) (L : List Loc), st₀.heap = H ∧ Stand p l e R s m args below meth c T' (locs ++ L) (cells + mc) (slots + ms) ∧ (∀ q ∈ L, free q.base) ∧ T'.heap = t.heap ∧ T'.vm = t.vm ∧ Qa st₀ (.returned v) t ∧
      Goes p e below T g T' { g with pc := g.pc + 3, stack := v.toList ++ rest }) ∨
    (∃ (q : Addr) (st₀ t T' : State) (L : List Loc) (E : String) (ce : Cell), st₀.heap = H ∧ Stand p l e R s m args below meth c T' (locs ++ L) (cells + mc) (slots + ms) ∧ (∀ z ∈ L, free z.base) ∧ T'.heap = t.heap ∧ T'.vm = t.vm ∧ XC E st₀ t ∧ t.heap[q]? = some ce ∧ ce.vm = .none ∧ s.vm.findClass E = some ce.cls ∧
      Steps p.tables e below (T.setTop g) ((T'.setTop { g with stack := rest }).pushFrame (.throwing q)))
def vx_X {S : Type} (px : S → Prop) (B : String → S → State → Prop) (A : Nat → Prop) : String → State → State → Prop := fun E st t => ∃ u : S, px u ∧ B E u t ∧ va_F A st t
section Runs
variable {p : Program} {l : Launch} {e : Env} {R : Room} {s : State} {m : MethodId} {args : Array Value} {below : List Frame} {meth : Method} {c : Code} {H : Heap} {locs : List Loc} {cells slots : Nat}
variable {y : MethodName} {bytes cc : ByteArray} {maxL nL mc ms n index : Nat} {ret : Option FieldType} {ws : List Cond} {rm : Room} {Pc : Array Value → State → Prop} {Qc : Array Value → State → Outcome → State → Prop} {XC : String → State → State → Prop} {free : Addr → Prop} {Ts : List Cond} {own C : String} {b : Addr} {As rest : List Value} {g : JFrame}
theorem vx_callBack (cb : CallB R s args own index y bytes maxL ret ws rm mc ms n) (hM : vx_Met l y ws rm Pc Qc XC mc ms free) (hbl : FrameBlind Pc) : vx_Back l R p e below s args y 3 8 (PreOf R mc ms Pc) (PostOf Qc mc ms free) (vx_Post XC mc ms free) := by
  obtain ⟨hrc, hrs, hfr, hlo, hws, hcw, -, hini, -⟩ := cb
  exact vx_back (bytes := bytes) (maxL := maxL) (ret := ret) hM hbl hrc hrs hfr hlo hws hcw (fun a' U hW => word_at hW (Or.inl (by first | rfl | simp [Cond.onTables, Cond.keeps, Cond.steady])) hini)
theorem vx_runV (S : CallFix p m c cc nL s args Ts own) (hM : vx_Met l y ws rm Pc Qc XC mc ms free) (cw : CallW R s args own C index y bytes maxL ret ws rm mc ms n) (hp : PreV s H C b Pc As)
    (hg : g.method = m) (hn : As.length = n) (hsize : g.locals.size = nL) (hstack : g.stack = As.reverse ++ .ref b :: rest) (hW : 2 * g.monitorRoom + (rest.map fun v => v.category).sum ≤ 8) (hdg : decode cc g.pc = .ok (.invokevirtual index, 3)) (hf : cells + mc ≤ R.cells ∧ slots + ms ≤ R.slots) :
    vx_Run p l e R s m args below meth c H locs cells slots mc ms g rest (Qc (Value.ref b :: As).toArray) XC free := by
  have hK : vx_Back l R p e below s args y 3 8 (PreOf R mc ms Pc) (PostOf Qc mc ms free) (vx_Post XC mc ms free) := vx_callBack cw.1 hM hp.1
  obtain ⟨⟨-, -, -, -, -, -, hcode, -, hy, hlen, hl⟩, hin, hse⟩ := cw
  obtain ⟨hx, hb, hml, ho, -⟩ := S
  obtain ⟨-, ⟨cellB, hcB, hoB, hclB⟩, hPc⟩ := hp
  intro T hT X
  rcases vx_callV X hx (C := C) (bytes := bytes) (maxL := maxL) (ret := ret) ho hl hin hse hcode hy hK (by rw [hT]; exact hcB) hoB hclB hg (hsize.trans hml.symm) (argsL := As) (rest := rest) (fun sig h => hn.trans (hlen sig h)) hstack hW (by rw [hb]; exact hdg)
    (fun vm₁ hW₁ => ⟨hf.1, hf.2, hPc (T.setVm vm₁) hT hW₁⟩) with ⟨v, vm₁, ⟨U', l2, c2, s2⟩, hW₁, X', ⟨g', mk, t, L, e1, e2, hq, h1, hL, h2, h3⟩, st⟩ | ⟨q, vm₁, ⟨U', l2, c2, s2⟩, hW₁, X', ⟨g', mk, t, L, E, ce, e1, e2, hq, hce, hcv, hcl, h1, hL, h2, h3⟩, st⟩
  · dsimp only [Pt.U, Pt.locs, Pt.cells, Pt.slots] at X' e1 e2 h1 h2 h3 st
    subst h1; subst h2; subst h3
    exact Or.inl ⟨v, (T.setVm vm₁).calling g' mk (Value.ref b :: As).toArray, t, U', L, hT, X', hL, e1, e2, hq, st⟩
  · dsimp only [Pt.U, Pt.locs, Pt.cells, Pt.slots] at X' e1 e2 h1 h2 h3 st hcl
    subst h1; subst h2; subst h3
    exact Or.inr ⟨q, (T.setVm vm₁).calling g' mk (Value.ref b :: As).toArray, t, U', L, E, ce, hT, X', hL, e1, e2, hq, hce, hcv, vx_cls hW₁ hcl, st⟩
theorem vx_runS (S : CallFix p m c cc nL s args Ts own) (hM : vx_Met l y ws rm Pc Qc XC mc ms free) (cw : CallB R s args own index y bytes maxL ret ws rm mc ms n ∧ (Cond.static y).before args s = true) (hp : PreS s H Pc As)
    (hg : g.method = m) (hn : As.length = n) (hsize : g.locals.size = nL) (hstack : g.stack = As.reverse ++ rest) (hW : 2 * g.monitorRoom + (rest.map fun v => v.category).sum ≤ 8) (hdg : decode cc g.pc = .ok (.invokestatic index, 3)) (hf : cells + mc ≤ R.cells ∧ slots + ms ≤ R.slots) :
    vx_Run p l e R s m args below meth c H locs cells slots mc ms g rest (Qc As.toArray) XC free := by
  have hK : vx_Back l R p e below s args y 3 8 (PreOf R mc ms Pc) (PostOf Qc mc ms free) (vx_Post XC mc ms free) := vx_callBack cw.1 hM hp.1
  obtain ⟨⟨-, -, -, -, -, -, hcode, hini, hy, hlen, hl⟩, hstt⟩ := cw
  obtain ⟨hx, hb, hml, ho, -⟩ := S
  intro T hT X
  rcases vx_callS X hx (bytes := bytes) (maxL := maxL) (ret := ret) ho hl hstt hini hcode hy hK hg (hsize.trans hml.symm) (argsL := As) (rest := rest) (fun sig h => hn.trans (hlen sig h)) hstack hW (by rw [hb]; exact hdg)
    (fun vm₁ hW₁ => ⟨hf.1, hf.2, hp.2 (T.setVm vm₁) hT hW₁⟩) with ⟨v, vm₁, ⟨U', l2, c2, s2⟩, hW₁, X', ⟨g', mk, t, L, e1, e2, hq, h1, hL, h2, h3⟩, st⟩ | ⟨q, vm₁, ⟨U', l2, c2, s2⟩, hW₁, X', ⟨g', mk, t, L, E, ce, e1, e2, hq, hce, hcv, hcl, h1, hL, h2, h3⟩, st⟩
  · dsimp only [Pt.U, Pt.locs, Pt.cells, Pt.slots] at X' e1 e2 h1 h2 h3 st
    subst h1; subst h2; subst h3
    exact Or.inl ⟨v, (T.setVm vm₁).calling g' mk As.toArray, t, U', L, hT, X', hL, e1, e2, hq, st⟩
  · dsimp only [Pt.U, Pt.locs, Pt.cells, Pt.slots] at X' e1 e2 h1 h2 h3 st hcl
    subst h1; subst h2; subst h3
    exact Or.inr ⟨q, (T.setVm vm₁).calling g' mk As.toArray, t, U', L, E, ce, hT, X', hL, e1, e2, hq, hce, hcv, vx_cls hW₁ hcl, st⟩
end Runs
section Rows
variable {p : Program} {l : Launch} {e : Env} {R : Room} {s : State} {m : MethodId} {args : Array Value} {below : List Frame} {meth : Method} {c : Code} {H : Heap} {locs : List Loc} {cells slots : Nat} {Q : State → Prop}
variable {mc ms : Nat} {free : Addr → Prop} {A0 A1 : Nat → Prop} {H0 : Heap} {a : Array Value} {pc : Nat} {ls : Array Slot} {st0 rest : List Value}
theorem vx_keep {st₀ t T' : State} {L : List Loc} (h0 : st₀.heap = H) (e1 : T'.heap = t.heap) (hS : va_S A0 H0 H locs) (hA : ∀ q, q < H.size → A1 q → A0 q) (hf : ∀ q, free q → A0 q) (hL : ∀ q ∈ L, free q.base) (hF : va_F A1 st₀ t) :
    H.size ≤ T'.heap.size ∧ (∀ q : Nat, q < H.size → ¬ A1 q → T'.heap[q]? = H[q]?) ∧ va_S A0 H0 T'.heap (locs ++ L) := by
  obtain ⟨hz, hk⟩ := hF
  rw [h0] at hz hk
  exact ⟨by rw [e1]; exact hz, fun q h1 h2 => by rw [e1]; exact hk q h1 h2,
    ⟨Nat.le_trans hS.1 (by rw [e1]; exact hz), fun q h1 h2 => by rw [e1, hk q (Nat.lt_of_lt_of_le h1 hS.1) (fun z => h2 (hA q (Nat.lt_of_lt_of_le h1 hS.1) z))]; exact hS.2.1 q h1 h2, fun q hq => by
      rcases List.mem_append.mp hq with h | h
      · exact hS.2.2 q h
      · exact hf _ (hL q h)⟩⟩
theorem vx_calli {S SX : Type} {post : Int32 → S → Prop} {px : SX → Prop} {B : S → State → Prop} {BX : String → SX → State → Prop} {AX : Nat → Prop} (hr : vx_Run p l e R s m args below meth c H locs cells slots mc ms (F0 m pc ls st0) rest (va_Qi post B A1 a) (vx_X px BX AX) free) (hS : va_S A0 H0 H locs) (hA : ∀ q, q < H.size → A1 q → A0 q) (hf : ∀ q, free q → A0 q) (hAX : ∀ q, q < H.size → AX q → A0 q)
    (kx : ∀ (E : String) (ce : Cell) (q9 : Addr) (u : SX) (t : State) (H1 : Heap) (locs1 : List Loc), t.heap = H1 → s.vm.Alike t.vm → px u → BX E u t → H.size ≤ H1.size → (∀ q : Nat, q < H.size → ¬ AX q → H1[q]? = H[q]?) → va_S A0 H0 H1 locs1 → H1[q9]? = some ce → ce.vm = .none → s.vm.findClass E = some ce.cls → vx_W p l e R s m args below meth c H1 locs1 (cells + mc) (slots + ms) Q (F0 m pc ls rest) q9)
    (kk : ∀ (r : Int32) (u : S) (t : State) (H1 : Heap) (locs1 : List Loc), t.heap = H1 → s.vm.Alike t.vm → post r u → B u t → H.size ≤ H1.size → (∀ q : Nat, q < H.size → ¬ A1 q → H1[q]? = H[q]?) → va_S A0 H0 H1 locs1 → W p l e R s m args below meth c H1 locs1 (cells + mc) (slots + ms) Q (F0 m (pc + 3) ls (.int r :: rest))) : W p l e R s m args below meth c H locs cells slots Q (F0 m pc ls st0) := by
  intro T hT X
  rcases hr T hT X with ⟨v, st₀, t, T', L, h0, X', hL, e1, e2, ⟨⟨r, u, hv, hp, hb⟩, hF⟩, st⟩ | ⟨q, st₀, t, T', L, E, ce, h0, X', hL, e1, e2, ⟨u, hp, hb, hF⟩, hce, hcv, hcl, st⟩
  · cases hv
    obtain ⟨k1, k2, k3⟩ := vx_keep h0 e1 hS hA hf hL hF
    obtain ⟨t2, a1, b1⟩ := kk r u t T'.heap (locs ++ L) e1.symm (by rw [← e2]; exact X'.warmed.alike) hp hb k1 k2 k3 T' rfl X'
    exact ⟨t2, st t2 a1, b1⟩
  · obtain ⟨k1, k2, k3⟩ := vx_keep h0 e1 hS hAX hf hL hF
    obtain ⟨t2, a1, b1⟩ := kx E ce q u t T'.heap (locs ++ L) e1.symm (by rw [← e2]; exact X'.warmed.alike) hp hb k1 k2 k3 (by rw [e1]; exact hce) hcv hcl T' rfl X'
    exact ⟨t2, st.trans a1, b1⟩
theorem vx_calll {S SX : Type} {post : Int64 → S → Prop} {px : SX → Prop} {B : S → State → Prop} {BX : String → SX → State → Prop} {AX : Nat → Prop} (hr : vx_Run p l e R s m args below meth c H locs cells slots mc ms (F0 m pc ls st0) rest (va_Ql post B A1 a) (vx_X px BX AX) free) (hS : va_S A0 H0 H locs) (hA : ∀ q, q < H.size → A1 q → A0 q) (hf : ∀ q, free q → A0 q) (hAX : ∀ q, q < H.size → AX q → A0 q)
    (kx : ∀ (E : String) (ce : Cell) (q9 : Addr) (u : SX) (t : State) (H1 : Heap) (locs1 : List Loc), t.heap = H1 → s.vm.Alike t.vm → px u → BX E u t → H.size ≤ H1.size → (∀ q : Nat, q < H.size → ¬ AX q → H1[q]? = H[q]?) → va_S A0 H0 H1 locs1 → H1[q9]? = some ce → ce.vm = .none → s.vm.findClass E = some ce.cls → vx_W p l e R s m args below meth c H1 locs1 (cells + mc) (slots + ms) Q (F0 m pc ls rest) q9)
    (kk : ∀ (r : Int64) (u : S) (t : State) (H1 : Heap) (locs1 : List Loc), t.heap = H1 → s.vm.Alike t.vm → post r u → B u t → H.size ≤ H1.size → (∀ q : Nat, q < H.size → ¬ A1 q → H1[q]? = H[q]?) → va_S A0 H0 H1 locs1 → W p l e R s m args below meth c H1 locs1 (cells + mc) (slots + ms) Q (F0 m (pc + 3) ls (.long r :: rest))) : W p l e R s m args below meth c H locs cells slots Q (F0 m pc ls st0) := by
  intro T hT X
  rcases hr T hT X with ⟨v, st₀, t, T', L, h0, X', hL, e1, e2, ⟨⟨r, u, hv, hp, hb⟩, hF⟩, st⟩ | ⟨q, st₀, t, T', L, E, ce, h0, X', hL, e1, e2, ⟨u, hp, hb, hF⟩, hce, hcv, hcl, st⟩
  · cases hv
    obtain ⟨k1, k2, k3⟩ := vx_keep h0 e1 hS hA hf hL hF
    obtain ⟨t2, a1, b1⟩ := kk r u t T'.heap (locs ++ L) e1.symm (by rw [← e2]; exact X'.warmed.alike) hp hb k1 k2 k3 T' rfl X'
    exact ⟨t2, st t2 a1, b1⟩
  · obtain ⟨k1, k2, k3⟩ := vx_keep h0 e1 hS hAX hf hL hF
    obtain ⟨t2, a1, b1⟩ := kx E ce q u t T'.heap (locs ++ L) e1.symm (by rw [← e2]; exact X'.warmed.alike) hp hb k1 k2 k3 (by rw [e1]; exact hce) hcv hcl T' rfl X'
    exact ⟨t2, st.trans a1, b1⟩
theorem vx_callf {S SX : Type} {post : UInt32 → S → Prop} {px : SX → Prop} {B : S → State → Prop} {BX : String → SX → State → Prop} {AX : Nat → Prop} (hr : vx_Run p l e R s m args below meth c H locs cells slots mc ms (F0 m pc ls st0) rest (va_Qf post B A1 a) (vx_X px BX AX) free) (hS : va_S A0 H0 H locs) (hA : ∀ q, q < H.size → A1 q → A0 q) (hf : ∀ q, free q → A0 q) (hAX : ∀ q, q < H.size → AX q → A0 q)
    (kx : ∀ (E : String) (ce : Cell) (q9 : Addr) (u : SX) (t : State) (H1 : Heap) (locs1 : List Loc), t.heap = H1 → s.vm.Alike t.vm → px u → BX E u t → H.size ≤ H1.size → (∀ q : Nat, q < H.size → ¬ AX q → H1[q]? = H[q]?) → va_S A0 H0 H1 locs1 → H1[q9]? = some ce → ce.vm = .none → s.vm.findClass E = some ce.cls → vx_W p l e R s m args below meth c H1 locs1 (cells + mc) (slots + ms) Q (F0 m pc ls rest) q9)
    (kk : ∀ (r : UInt32) (u : S) (t : State) (H1 : Heap) (locs1 : List Loc), t.heap = H1 → s.vm.Alike t.vm → post r u → B u t → H.size ≤ H1.size → (∀ q : Nat, q < H.size → ¬ A1 q → H1[q]? = H[q]?) → va_S A0 H0 H1 locs1 → W p l e R s m args below meth c H1 locs1 (cells + mc) (slots + ms) Q (F0 m (pc + 3) ls (.float r :: rest))) : W p l e R s m args below meth c H locs cells slots Q (F0 m pc ls st0) := by
  intro T hT X
  rcases hr T hT X with ⟨v, st₀, t, T', L, h0, X', hL, e1, e2, ⟨⟨r, u, hv, hp, hb⟩, hF⟩, st⟩ | ⟨q, st₀, t, T', L, E, ce, h0, X', hL, e1, e2, ⟨u, hp, hb, hF⟩, hce, hcv, hcl, st⟩
  · cases hv
    obtain ⟨k1, k2, k3⟩ := vx_keep h0 e1 hS hA hf hL hF
    obtain ⟨t2, a1, b1⟩ := kk r u t T'.heap (locs ++ L) e1.symm (by rw [← e2]; exact X'.warmed.alike) hp hb k1 k2 k3 T' rfl X'
    exact ⟨t2, st t2 a1, b1⟩
  · obtain ⟨k1, k2, k3⟩ := vx_keep h0 e1 hS hAX hf hL hF
    obtain ⟨t2, a1, b1⟩ := kx E ce q u t T'.heap (locs ++ L) e1.symm (by rw [← e2]; exact X'.warmed.alike) hp hb k1 k2 k3 (by rw [e1]; exact hce) hcv hcl T' rfl X'
    exact ⟨t2, st.trans a1, b1⟩
theorem vx_calld {S SX : Type} {post : UInt64 → S → Prop} {px : SX → Prop} {B : S → State → Prop} {BX : String → SX → State → Prop} {AX : Nat → Prop} (hr : vx_Run p l e R s m args below meth c H locs cells slots mc ms (F0 m pc ls st0) rest (va_Qd post B A1 a) (vx_X px BX AX) free) (hS : va_S A0 H0 H locs) (hA : ∀ q, q < H.size → A1 q → A0 q) (hf : ∀ q, free q → A0 q) (hAX : ∀ q, q < H.size → AX q → A0 q)
    (kx : ∀ (E : String) (ce : Cell) (q9 : Addr) (u : SX) (t : State) (H1 : Heap) (locs1 : List Loc), t.heap = H1 → s.vm.Alike t.vm → px u → BX E u t → H.size ≤ H1.size → (∀ q : Nat, q < H.size → ¬ AX q → H1[q]? = H[q]?) → va_S A0 H0 H1 locs1 → H1[q9]? = some ce → ce.vm = .none → s.vm.findClass E = some ce.cls → vx_W p l e R s m args below meth c H1 locs1 (cells + mc) (slots + ms) Q (F0 m pc ls rest) q9)
    (kk : ∀ (r : UInt64) (u : S) (t : State) (H1 : Heap) (locs1 : List Loc), t.heap = H1 → s.vm.Alike t.vm → post r u → B u t → H.size ≤ H1.size → (∀ q : Nat, q < H.size → ¬ A1 q → H1[q]? = H[q]?) → va_S A0 H0 H1 locs1 → W p l e R s m args below meth c H1 locs1 (cells + mc) (slots + ms) Q (F0 m (pc + 3) ls (.double r :: rest))) : W p l e R s m args below meth c H locs cells slots Q (F0 m pc ls st0) := by
  intro T hT X
  rcases hr T hT X with ⟨v, st₀, t, T', L, h0, X', hL, e1, e2, ⟨⟨r, u, hv, hp, hb⟩, hF⟩, st⟩ | ⟨q, st₀, t, T', L, E, ce, h0, X', hL, e1, e2, ⟨u, hp, hb, hF⟩, hce, hcv, hcl, st⟩
  · cases hv
    obtain ⟨k1, k2, k3⟩ := vx_keep h0 e1 hS hA hf hL hF
    obtain ⟨t2, a1, b1⟩ := kk r u t T'.heap (locs ++ L) e1.symm (by rw [← e2]; exact X'.warmed.alike) hp hb k1 k2 k3 T' rfl X'
    exact ⟨t2, st t2 a1, b1⟩
  · obtain ⟨k1, k2, k3⟩ := vx_keep h0 e1 hS hAX hf hL hF
    obtain ⟨t2, a1, b1⟩ := kx E ce q u t T'.heap (locs ++ L) e1.symm (by rw [← e2]; exact X'.warmed.alike) hp hb k1 k2 k3 (by rw [e1]; exact hce) hcv hcl T' rfl X'
    exact ⟨t2, st.trans a1, b1⟩
theorem vx_callv {S SX : Type} {post : S → Prop} {px : SX → Prop} {B : S → State → Prop} {BX : String → SX → State → Prop} {AX : Nat → Prop} (hr : vx_Run p l e R s m args below meth c H locs cells slots mc ms (F0 m pc ls st0) rest (va_Qv post B A1 a) (vx_X px BX AX) free) (hS : va_S A0 H0 H locs) (hA : ∀ q, q < H.size → A1 q → A0 q) (hf : ∀ q, free q → A0 q) (hAX : ∀ q, q < H.size → AX q → A0 q)
    (kx : ∀ (E : String) (ce : Cell) (q9 : Addr) (u : SX) (t : State) (H1 : Heap) (locs1 : List Loc), t.heap = H1 → s.vm.Alike t.vm → px u → BX E u t → H.size ≤ H1.size → (∀ q : Nat, q < H.size → ¬ AX q → H1[q]? = H[q]?) → va_S A0 H0 H1 locs1 → H1[q9]? = some ce → ce.vm = .none → s.vm.findClass E = some ce.cls → vx_W p l e R s m args below meth c H1 locs1 (cells + mc) (slots + ms) Q (F0 m pc ls rest) q9)
    (kk : ∀ (u : S) (t : State) (H1 : Heap) (locs1 : List Loc), t.heap = H1 → s.vm.Alike t.vm → post u → B u t → H.size ≤ H1.size → (∀ q : Nat, q < H.size → ¬ A1 q → H1[q]? = H[q]?) → va_S A0 H0 H1 locs1 → W p l e R s m args below meth c H1 locs1 (cells + mc) (slots + ms) Q (F0 m (pc + 3) ls (rest))) : W p l e R s m args below meth c H locs cells slots Q (F0 m pc ls st0) := by
  intro T hT X
  rcases hr T hT X with ⟨v, st₀, t, T', L, h0, X', hL, e1, e2, ⟨⟨u, hv, hp, hb⟩, hF⟩, st⟩ | ⟨q, st₀, t, T', L, E, ce, h0, X', hL, e1, e2, ⟨u, hp, hb, hF⟩, hce, hcv, hcl, st⟩
  · cases hv
    obtain ⟨k1, k2, k3⟩ := vx_keep h0 e1 hS hA hf hL hF
    obtain ⟨t2, a1, b1⟩ := kk u t T'.heap (locs ++ L) e1.symm (by rw [← e2]; exact X'.warmed.alike) hp hb k1 k2 k3 T' rfl X'
    exact ⟨t2, st t2 a1, b1⟩
  · obtain ⟨k1, k2, k3⟩ := vx_keep h0 e1 hS hAX hf hL hF
    obtain ⟨t2, a1, b1⟩ := kx E ce q u t T'.heap (locs ++ L) e1.symm (by rw [← e2]; exact X'.warmed.alike) hp hb k1 k2 k3 (by rw [e1]; exact hce) hcv hcl T' rfl X'
    exact ⟨t2, st.trans a1, b1⟩
/-- caught by the row x of this method's table; the rows ahead don't take it -/
theorem vx_catch {own name : String} {E : String} {ce : Cell} {q : Addr} (hown : s.vm.findClass own = some m.cls) (pre : List ExceptionTableEntry) (x : ExceptionTableEntry) (suf : List ExceptionTableEntry) (hsplit : c.exceptionTable.toList = pre ++ x :: suf)
    (hpass : ∀ z ∈ pre, covers z pc = false ∨ (z.catchType ≠ 0 ∧ ∃ nm : String, (Cond.classLink own z.catchType nm).before args s = true ∧ va_Nc E nm s)) (hx : covers x pc = true) (h0 : x.catchType ≠ 0)
    (hlink : (Cond.classLink own x.catchType name).before args s = true) (hcast : (Cond.castable E name).before args s = true) (hcell : H[q]? = some ce) (hv : ce.vm = .none) (hcl : s.vm.findClass E = some ce.cls)
    (kk : W p l e R s m args below meth c H locs cells slots Q (F0 m x.handlerPc ls [.ref q])) : vx_W p l e R s m args below meth c H locs cells slots Q (F0 m pc ls rest) q := by
  intro T hT X
  have hpl : e.platform.magicAccessors = ({} : Platform).magicAccessors := by rw [X.admits.platform]
  obtain ⟨c3, c4, hc3, hc4, hasg⟩ := Cond.castable_spec hcast
  cases Option.some.inj (hc3.symm.trans hcl)
  obtain ⟨c5, hc5, hcl5⟩ := Cond.classLink_spec hown hlink e.platform hpl
  cases Option.some.inj (hc4.symm.trans hc5)
  obtain ⟨vm', X', st⟩ := X.thenCaughtThrough q (g := F0 m pc ls rest) rfl (Steps.refl _) (by rw [hT]; exact hcell) (by rw [hv]; rfl) (by obtain ⟨k9, h9, -⟩ := Vm.findClass_spec hcl; exact ⟨k9, h9⟩) pre x suf hsplit
    (fun z hz => by
      rcases hpass z hz with h | ⟨hz0, nm, hl1, hn1⟩
      · exact Or.inl h
      · obtain ⟨c6, hc6, hcl6⟩ := Cond.classLink_spec hown hl1 e.platform hpl
        obtain ⟨a8, b8, h1, h2, h3⟩ := hn1
        cases Option.some.inj (h1.symm.trans hcl)
        cases Option.some.inj (h2.symm.trans hc6)
        exact Or.inr ⟨hz0, _, hcl6, h3⟩) hx (Or.inr ⟨h0, c4, hcl5, hasg⟩)
  obtain ⟨t, a1, b1⟩ := kk (T.setVm vm') hT X'
  exact ⟨t, st.trans a1, b1⟩
end Rows
section Ends
variable {p : Program} {l : Launch} {e : Env} {R : Room} {s : State} {m : MethodId} {args : Array Value} {below : List Frame} {meth : Method} {c : Code} {H : Heap} {locs : List Loc} {cells slots : Nat} {Q : State → Prop}
variable {mc ms : Nat} {free : Addr → Prop} {A0 A1 : Nat → Prop} {H0 : Heap} {a : Array Value} {ls : Array Slot} {st0 rest : List Value}
variable {Qc : Array Value → State → Outcome → State → Prop} {XC : String → State → State → Prop}
/-- what a body that may throw owes at its end -/
def vx_MQ (below : List Frame) (Qc : Array Value → State → Outcome → State → Prop) (XC : String → State → State → Prop) (a : Array Value) (s : State) (mc ms : Nat) (free : Addr → Prop) : State → Prop := fun t =>
  ∃ o, t.status = .running ∧ Ended t below o ∧ vx_Q Qc XC mc ms free a s o t
theorem vx_ret {g : JFrame} {mc ms : Nat} (k : W p l e R s m args below meth c H locs cells slots (MQ below Qc args s mc ms free) g) : W p l e R s m args below meth c H locs cells slots (vx_MQ below Qc XC args s mc ms free) g := by
  intro T hT X
  obtain ⟨t, a1, o, b1, b2, b3, b4⟩ := k T hT X
  exact ⟨t, a1, o, b1, b2, Or.inl ⟨b3, b4⟩⟩
/-- not caught here: it goes on to the caller -/
theorem vx_widen {g : JFrame} {q : Addr} {k n : Nat} (h1 : cells ≤ k) (h2 : slots ≤ n) (kk : vx_W p l e R s m args below meth c H locs k n Q g q) : vx_W p l e R s m args below meth c H locs cells slots Q g q := fun T hT X => kk T hT (stand_widen X h1 h2)
theorem vx_out {pc : Nat} {E : String} {ce : Cell} {q : Addr} {mc ms : Nat} (hout : ∀ x ∈ c.exceptionTable.toList, covers x pc = false) (hlocks : meth.locks = false) (hcell : H[q]? = some ce) (hv : ce.vm = .none) (hcl : s.vm.findClass E = some ce.cls)
    (hx : ∀ t : State, t.heap = H → s.vm.Alike t.vm → XC E s t) (hf : ∀ z ∈ locs, free z.base) (hc : cells ≤ mc) (hs : slots ≤ ms) :
    vx_W p l e R s m args below meth c H locs cells slots (vx_MQ below Qc XC args s mc ms free) (F0 m pc ls rest) q := by
  intro T hT X
  obtain ⟨st1, hrun, hend, hW, hsm⟩ := X.leaveThrown q (g := F0 m pc ls rest) rfl rfl rfl hout hlocks
  have hcell9 : (T.setFrames (.throwing q :: below)).heap[q]? = some ce := by
    show T.heap[q]? = some ce
    rw [hT]; exact hcell
  exact ⟨_, st1, .threw q, hrun, hend, Or.inr ⟨q, rfl, E, ce, locs, hx _ hT hW.alike, hcell9, hv, hcl, hW, hsm.mono hc hs, hf⟩⟩
theorem vx_frame {U : State} {k n : Nat} (h : s.sameButNew ({ U with vm := s.vm } : State) locs k n) : s.heap.size ≤ U.heap.size ∧ ∀ q : Nat, q < s.heap.size → (∀ z ∈ locs, z.base ≠ q) → U.heap[q]? = s.heap[q]? := by
  obtain ⟨-, h2, -, -, -, h6⟩ := h
  refine ⟨h2, fun q hq hz => ?_⟩
  obtain ⟨c9, e1, e2, e3, e4⟩ := h6 q _ (Array.getElem?_eq_getElem hq)
  have hs : c9.slots = (s.heap[q]).slots := Array.ext_getElem? fun i => e4 i fun hm => hz _ hm rfl
  have h9 : c9 = s.heap[q] := by
    rw [hs] at e2
    exact e2
  have e5 : U.heap[q]? = some c9 := e1
  rw [e5, h9, Array.getElem?_eq_getElem hq]
/-- the words of a throw but the four that speak of the heap -/
def vx_no (w : Cond) : Bool := decide (w ≠ .isRef (.static Bundle.tN "UNASSIGNED_STACK" Bundle.steD)) && decide (w ≠ .isRef (.static Bundle.tN "SUPPRESSED_SENTINEL" Bundle.listD)) && decide (w ≠ .laysStatic Bundle.tN "UNASSIGNED_STACK" Bundle.steD) && decide (w ≠ .laysStatic Bundle.tN "SUPPRESSED_SENTINEL" Bundle.listD)
def vx_at0 (own : String) (ic : Nat) (X : String) (names : List String) : List Cond := (Bundle.ownAtoms0 own ic X names).filter vx_no
def vx_atS (own : String) (ic : Nat) (X : String) (names : List String) : List Cond := (Bundle.ownAtoms own ic X names).filter vx_no
/-- a word that the tables alone decide, or a good one -/
def vx_ot (w : Cond) : Bool := w.onTables || goodWord w
theorem vx_ot_at {args a' : Array Value} {s U : State} {w : Cond} (hW : s.WarmedH U.vm) (hvm : s.vm = U.vm) (hg : vx_ot w = true) (h : w.before args s = true) : w.before a' U = true := by
  simp only [vx_ot, Bool.or_eq_true] at hg
  rcases hg with hg | hg
  · exact va_tabs hg hvm h
  · exact word_at hW (good_of_word hg) h
/-- a list's words: the good ones out of the method's own list, the others by premises of their own -/
theorem vx_hat {args : Array Value} {s : State} {L B : List Cond} (h1 : ∀ w ∈ L.filter goodWord, w.before args s = true) (h2 : ∀ w ∈ L.filter (fun w => !goodWord w), w ∈ B) (h3 : ∀ w ∈ B, w.before args s = true) : ∀ w ∈ L, w.before args s = true := by
  intro w hw
  by_cases g : goodWord w = true
  · exact h1 w (List.mem_filter.mpr ⟨hw, g⟩)
  · refine h3 w (h2 w (List.mem_filter.mpr ⟨hw, ?_⟩))
    show (!goodWord w) = true
    cases hgw : goodWord w
    · rfl
    · exact absurd hgw g
theorem vx_c {args : Array Value} {s : State} {w : Cond} {B : List Cond} (h : w.before args s = true) (t : ∀ w ∈ B, w.before args s = true) : ∀ w' ∈ w :: B, w'.before args s = true := fun w' h' => (List.mem_cons.mp h').elim (fun e => by rw [e]; exact h) (t w')
theorem vx_n {args : Array Value} {s : State} : ∀ w ∈ ([] : List Cond), w.before args s = true := fun _ h => nomatch h
theorem vx_own {args : Array Value} {s : State} {L : List Cond} (h1 : ∀ w ∈ L.filter vx_no, w.before args s = true)
    (hU : (Cond.isRef (.static Bundle.tN "UNASSIGNED_STACK" Bundle.steD)).before args s = true) (hN : (Cond.isRef (.static Bundle.tN "SUPPRESSED_SENTINEL" Bundle.listD)).before args s = true)
    (lU : (Cond.laysStatic Bundle.tN "UNASSIGNED_STACK" Bundle.steD).before args s = true) (lN : (Cond.laysStatic Bundle.tN "SUPPRESSED_SENTINEL" Bundle.listD).before args s = true) : ∀ w ∈ L, w.before args s = true := by
  intro w hw
  by_cases e1 : w = .isRef (.static Bundle.tN "UNASSIGNED_STACK" Bundle.steD)
  · rw [e1]; exact hU
  · by_cases e2 : w = .isRef (.static Bundle.tN "SUPPRESSED_SENTINEL" Bundle.listD)
    · rw [e2]; exact hN
    · by_cases e3 : w = .laysStatic Bundle.tN "UNASSIGNED_STACK" Bundle.steD
      · rw [e3]; exact lU
      · by_cases e4 : w = .laysStatic Bundle.tN "SUPPRESSED_SENTINEL" Bundle.listD
        · rw [e4]; exact lN
        · exact h1 w (List.mem_filter.mpr ⟨hw, by unfold vx_no; rw [decide_eq_true e1, decide_eq_true e2, decide_eq_true e3, decide_eq_true e4]; rfl⟩)
/-- where a static field lies, its class's statics cell in H -/
def vx_L (C n d : String) (A : Nat → Prop) (U : State) (H : Heap) : Prop := ∃ (c : ClassId) (k : Class) (i : Nat) (f : Field) (a : Nat) (cell : Cell), U.vm.findClass C = some c ∧ U.fieldFound? C n d = some (c, k, i, f) ∧ f.isStatic = true ∧ k.statics = some a ∧ H[a]? = some cell ∧ cell.vm.isStatics = true ∧ cell.cls = c ∧ f.slot < cell.slots.size ∧ k.staticTypes[f.slot]? = some f.type ∧ ¬ A a
theorem vx_L.moved {C n d : String} {A : Nat → Prop} {u U : State} {H : Heap} (hvm : u.vm.Alike U.vm) (h : vx_L C n d A u H) : vx_L C n d A U H := by
  obtain ⟨c, k, i, f, a, cell, h1, h2, h3, h4, h5, h6, h7, h8, h9, h10⟩ := h
  obtain ⟨k', hi', he⟩ := State.fieldFound?_setVm hvm h2
  exact ⟨c, k', i, f, a, cell, by rw [hvm.findClass]; exact h1, hi', h3, by rw [he]; exact h4, h5, h6, h7, h8, by rw [he]; exact h9, h10⟩
theorem vx_L.kept {C n d : String} {A : Nat → Prop} {U : State} {H H1 : Heap} (h : vx_L C n d A U H) (hq : ∀ a : Nat, a < H.size → ¬ A a → H1[a]? = H[a]?) : vx_L C n d A U H1 := by
  obtain ⟨c, k, i, f, a, cell, h1, h2, h3, h4, h5, h6, h7, h8, h9, h10⟩ := h
  exact ⟨c, k, i, f, a, cell, h1, h2, h3, h4, by rw [hq a (Array.getElem?_eq_some_iff.mp h5).1 h10]; exact h5, h6, h7, h8, h9, h10⟩
theorem vx_L.narrow {C n d : String} {A B : Nat → Prop} {U : State} {H : Heap} (h : vx_L C n d A U H) (hAB : ∀ q, B q → A q) : vx_L C n d B U H := by
  obtain ⟨c, k, i, f, a, cell, h1, h2, h3, h4, h5, h6, h7, h8, h9, h10⟩ := h
  exact ⟨c, k, i, f, a, cell, h1, h2, h3, h4, h5, h6, h7, h8, h9, fun z => h10 (hAB _ z)⟩
theorem vx_L.word {C n d : String} {A : Nat → Prop} {s : State} {args : Array Value} (h : vx_L C n d A s s.heap) : (Cond.laysStatic C n d).before args s = true := by
  obtain ⟨c, k, i, f, a, cell, h1, h2, h3, h4, h5, h6, h7, h8, h9, -⟩ := h
  show (Cond.laysStatic C n d).holds args s none s [] = true
  exact Cond.laysStatic_of h1 h2 h3 h4 h5 h6 h7 h8 h9
/-- .. and what it holds: null or some reference -/
def vx_Zq (C n d : String) (A : Nat → Prop) (U : State) (H : Heap) : Prop := va_Zq C n d A U H ∧ vx_L C n d A U H
theorem vx_Zq.moved {C n d : String} {A : Nat → Prop} {u U : State} {H : Heap} (hvm : u.vm.Alike U.vm) (h : vx_Zq C n d A u H) : vx_Zq C n d A U H := ⟨va_Zq.moved hvm h.1, vx_L.moved hvm h.2⟩
theorem vx_Zq.kept {C n d : String} {A : Nat → Prop} {U : State} {H H1 : Heap} (h : vx_Zq C n d A U H) (hq : ∀ a : Nat, a < H.size → ¬ A a → H1[a]? = H[a]?) : vx_Zq C n d A U H1 := ⟨va_Zq.kept h.1 hq, vx_L.kept h.2 hq⟩
theorem vx_Zq.narrow {C n d : String} {A B : Nat → Prop} {U : State} {H : Heap} (h : vx_Zq C n d A U H) (hAB : ∀ q, B q → A q) : vx_Zq C n d B U H := ⟨va_Zq.narrow h.1 hAB, vx_L.narrow h.2 hAB⟩
theorem vx_Zqof {args : Array Value} {s : State} {C n d : String} {A : Nat → Prop} (hl : (Cond.laysStatic C n d).before args s = true) (hini : (Cond.initialized C).before args s = true) (h : (Cond.isRef (.static C n d)).before args s = true) (hA : ∀ a : Nat, a < s.heap.size → ¬ A a) : vx_Zq C n d A s s.heap := by
  refine ⟨va_Zqof hl hini h hA, ?_⟩
  obtain ⟨c, k, i, f, a, cell, h1, h2, h3, h4, h5, h6, h7, h8, h9⟩ := Cond.laysStatic_spec hl
  exact ⟨c, k, i, f, a, cell, h1, h2, h3, h4, h5, h6, h7, h8, h9, hA a (Array.getElem?_eq_some_iff.mp h5).1⟩
theorem vx_isRef {C n d : String} {v : Value} {A : Nat → Prop} {s : State} {args : Array Value} (h : va_Z C n d v A s s.heap) (hv : v.isRef = true) : (Cond.isRef (.static C n d)).before args s = true := by
  obtain ⟨cf, kf, fi, f, a, cell, h1, h2, h3, h4, h5, h6, h7, -⟩ := h
  have he : (Term.static C n d).eval args s none [] s = some v := by
    simp [Term.eval, State.fieldNamed?, h1, h2, h4, h5, h6, h7]
  simp only [Cond.before, Cond.holds, Cond.value, he]
  cases v <;> simp_all [Value.isRef]
theorem vx_isRefq {C n d : String} {A : Nat → Prop} {s : State} {args : Array Value} (h : va_Zq C n d A s s.heap) : (Cond.isRef (.static C n d)).before args s = true := by
  rcases h with h | ⟨t, h⟩
  · exact vx_isRef h rfl
  · exact vx_isRef h rfl
/-- the same frame, seen from here: as if the method were called anew in this heap -/
theorem vx_rebase {T : State} (X : Stand p l e R s m args below meth c T locs cells slots) {R' : Room} (hf : R'.frames ≤ R.frames) (hl : R'.locals ≤ R.locals) (hc : cells + R'.cells ≤ R.cells) (hs : slots + R'.slots ≤ R.slots) :
    Stand p l e R' ((T.setVm s.vm).setFrames (.invoking m args :: below)) m args below meth c T [] 0 0 := by
  have htop : (T.setVm s.vm).topJava?.isSome := X.here.top
  have hF : ((T.setVm s.vm).setFrames (.invoking m args :: below)).frames = .invoking m args :: below := State.frames_setFrames _ (State.cur_lt_of_top htop)
  obtain ⟨g₀, hg0⟩ := Option.isSome_iff_exists.mp htop
  obtain ⟨r, hr⟩ := State.topJava?_eq_some.mp hg0
  have hl9 : e.platform.stackLimits (T.setVm s.vm).me = e.platform.stackLimits s.me := X.limits
  have hb9 : (T.setVm s.vm).me.stackBytes = s.me.stackBytes := X.bytes
  refine ⟨X.admits, X.cas, X.clock, hF, ?_, X.hears, X.method, X.code, X.here, X.tail, X.warmed, ?_, ?_, ?_⟩
  · have h := X.room
    have hU : ((T.setVm s.vm).setFrames (.invoking m args :: below)).localsInUse = s.localsInUse := by
      rw [State.localsInUse_invoking hF (meth := meth) (c := c) X.method X.code, State.localsInUse_invoking X.frames X.method X.code]
    simp only [State.hasRoom, Bool.and_eq_true, decide_eq_true_eq] at h ⊢
    obtain ⟨⟨⟨⟨h1, h2, h3, h4, h5, h6⟩, h7⟩, h8⟩, h9⟩ := h
    rw [X.frames, List.length_cons] at h2 h3
    have q1 := X.heapSize
    have q2 := X.used
    simp only [hF, hU, List.length_cons, State.stackLimits_setFrames, State.stackBytes_setFrames, hl9, hb9]
    refine ⟨⟨⟨⟨by omega, by omega, by omega, by omega, by omega, h6⟩, ?_⟩, ?_⟩, X.book⟩
    · show T.heap.size + R'.cells ≤ e.platform.maxCells
      omega
    · show T.slotsUsed + R'.slots ≤ e.platform.maxSlots
      omega
  · rw [State.stackLimits_setFrames]; rfl
  · rw [State.stackBytes_setFrames]; rfl
  · refine ⟨?_, Nat.le_refl _, Nat.le_refl _, ?_, ?_, fun a c9 h9 => ⟨c9, h9, rfl, rfl, fun _ _ => rfl⟩⟩
    · obtain ⟨t, ht, -⟩ := State.frames_cons hr
      show T.setVm s.vm = { ((T.setVm s.vm).setFrames (.invoking m args :: below)).setFrames (T.setVm s.vm).frames with heap := T.heap, slotsUsed := T.slotsUsed }
      rw [State.setFrames_setFrames, State.setFrames_self ht]
      rfl
    · show T.slotsUsed = T.slotsUsed + ((T.heap.toList.drop T.heap.size).map (·.slots.size)).sum
      rw [List.drop_eq_nil_of_le (Nat.le_of_eq Array.length_toList)]
      rfl
    · show ((T.heap.toList.drop T.heap.size).map (·.slots.size)).sum ≤ 0
      rw [List.drop_eq_nil_of_le (Nat.le_of_eq Array.length_toList)]
      exact Nat.le_refl _
/-- 'throw new E()': new; dup; invokespecial; athrow -/
theorem vx_throw0 {cc : ByteArray} {pc : Nat} (hexec : p.tables.exec = Jvm.exec) (hb : c.code = cc) (hl : l.stackTraces = false) {own cls : String} {names : List String} {ik ic mc ms : Nat} {A : Nat → Prop}
    (hown : s.vm.findClass own = some m.cls) (hcls : Bundle.fit cls = true) (hnames : ∀ n ∈ names, Bundle.fit n = true)
    (hk : (Cond.classLink own ik cls).before args s = true) (hini : (Cond.initialized cls).before args s = true) (hat : ∀ w ∈ vx_at0 own ic cls names, w.before args s = true)
    (hgood : ∀ w ∈ Cond.classLink own ik cls :: Cond.initialized cls :: vx_at0 own ic cls names, vx_ot w = true)
    (hU : vx_Zq Bundle.tN "UNASSIGNED_STACK" Bundle.steD A s s.heap) (hN : vx_Zq Bundle.tN "SUPPRESSED_SENTINEL" Bundle.listD A s s.heap) (hS : va_S A s.heap H locs) (hsize : ls.size = c.maxLocals)
    (d0 : decode cc pc = .ok (.new ik, 3)) (d3 : decode cc (pc + 3) = .ok (.dup, 1)) (d4 : decode cc (pc + 4) = .ok (.invokespecial ic, 3)) (d7 : decode cc (pc + 7) = .ok (.athrow, 1))
    (hout : ∀ x ∈ c.exceptionTable.toList, covers x (pc + 7) = false)
    (hRframes : names.length + 3 < R.frames) (hRlocals : (rest.map fun v => v.category).sum + (13 * (names.length + 1) + 42) ≤ R.locals) (hRcells : cells + 1 ≤ R.cells) (hRslots : slots + 6 ≤ R.slots) (hlocks : meth.locks = false)
    (hx : ∀ t : State, s.vm.Alike t.vm → H.size ≤ t.heap.size → (∀ q : Nat, q < H.size → t.heap[q]? = H[q]?) → XC cls s t)
    (hf : ∀ z ∈ locs, free z.base) (hc : cells + 1 ≤ mc) (hs : slots + 6 ≤ ms) :
    W p l e R s m args below meth c H locs cells slots (vx_MQ below Qc XC args s mc ms free) (F0 m pc ls rest) := by
  intro T hT X
  have htr : e.platform.stackTraces = false := (show e.platform.stackTraces = l.stackTraces by rw [X.admits.platform]).trans hl
  have Y := vx_rebase X (R' := { frames := R.frames, locals := R.locals, cells := 1, slots := 6 }) (Nat.le_refl _) (Nat.le_refl _) hRcells hRslots
  obtain ⟨s', hA⟩ : ∃ z, z = (T.setVm s.vm).setFrames (.invoking m args :: below) := ⟨_, rfl⟩
  rw [← hA] at Y
  have hvm : s'.vm = s.vm := by rw [hA]; rfl
  have hhp : s'.heap = H := by rw [hA]; exact hT
  have hW0 : s.WarmedH s'.vm := by rw [hvm]; exact State.WarmedH.refl s
  have hat' : ∀ w ∈ vx_at0 own ic cls names, w.before args s' = true := fun w hw => vx_ot_at hW0 hvm.symm (hgood w (List.mem_cons_of_mem _ (List.mem_cons_of_mem _ hw))) (hat w hw)
  have hk' : (Cond.classLink own ik cls).before args s' = true := vx_ot_at hW0 hvm.symm (hgood _ List.mem_cons_self) hk
  have hini' : (Cond.initialized cls).before args s' = true := vx_ot_at hW0 hvm.symm (hgood _ (List.mem_cons_of_mem _ List.mem_cons_self)) hini
  have hU' : vx_Zq Bundle.tN "UNASSIGNED_STACK" Bundle.steD A s' s'.heap := by rw [hhp]; exact vx_Zq.moved hW0.alike (hU.kept hS.2.1)
  have hN' : vx_Zq Bundle.tN "SUPPRESSED_SENTINEL" Bundle.listD A s' s'.heap := by rw [hhp]; exact vx_Zq.moved hW0.alike (hN.kept hS.2.1)
  have h : ∀ w ∈ Bundle.ownAtoms0 own ic cls names, w.before args s' = true := vx_own hat' (vx_isRefq hU'.1) (vx_isRefq hN'.1) hU'.2.word hN'.2.word
  have hown' : s'.vm.findClass own = some m.cls := by rw [hvm]; exact hown
  have hins : (Cond.instantiable cls 6).before args s' = true := h _ (by simp [Bundle.ownAtoms0])
  obtain ⟨vm₁, cX, kX, hfX, hkX, -, -, X₁, st1⟩ := Y.newCold hexec (own := own) (C := cls) (index := ik) (n := 6) hown' hk' hins hini'
    (g := F0 m pc ls rest) rfl (by rw [hb]; exact d0) (Nat.le_refl _) (Nat.le_refl _)
  generalize hT1 : (T.setVm vm₁).pushCell { cls := cX, slots := kX.instanceTypes.map defaultValue, vm := .none } = T1 at X₁ st1
  have hcat : (Value.ref T.heap.size).category = 1 := rfl
  have hcellA : T1.heap[T.heap.size]? = some (freshCell cX kX) := by rw [← hT1]; exact State.heap_pushCell_size _ _
  have d3' : decode c.code (pc + 3) = .ok (.dup, 1) := by rw [hb]; exact d3
  obtain ⟨U, hsteps, hrun, hend, hW, hsame, ce, hce, hO⟩ := X₁.ctorThrow0 hexec htr (own := own) (cls := cls) (names := names) (ic := ic) hown' hcls hnames h (fun x hx => nomatch hx) hfX hkX hcellA (by rw [hhp, hT]; exact Nat.le_refl _)
    (g := { method := m, pc := pc + 4, locals := ls, stack := .ref T.heap.size :: .ref T.heap.size :: rest, locked := none }) rfl hsize rfl rfl (rest := rest) rfl
    (by rw [hb]; exact d4) (by rw [hb]; exact d7) hout hRframes (by simp only [List.map_cons, List.sum_cons, hcat]; omega) hlocks
  obtain ⟨f1, f2⟩ := vx_frame hsame
  rw [hhp] at f1 f2
  have hWs : s.WarmedH U.vm := State.WarmedH.trans hW0 hW
  have hcl : s.vm.findClass cls = some ce.cls := by
    have h9 := hO.cls
    rw [hvm] at h9
    exact h9
  have hall : s.sameButNew ({ U with vm := s.vm } : State) locs mc ms := by
    subst hA
    obtain ⟨e1, e2⟩ := hsame
    rw [State.setFrames_setFrames] at e1
    have h2 : (T.setVm s.vm).sameButNew ({ U with vm := s.vm } : State) [] (0 + 1) (0 + 6) := ⟨e1, e2⟩
    have h3 := X.same.trans h2
    rw [List.append_nil] at h3
    exact h3.mono hc hs
  refine ⟨U, ?_, .threw T.heap.size, hrun, hend, Or.inr ⟨T.heap.size, rfl, cls, ce, locs, hx U hWs.alike f1 (fun q hq => f2 q hq (fun z hz => nomatch hz)), hce, hO.vm, hcl, hWs, hall, hf⟩⟩
  refine st1 _ ?_
  show Steps p.tables e below (T1.setTop { method := m, pc := pc + 3, locals := ls, stack := .ref T.heap.size :: rest, locked := none }) _
  jvm_step X₁.here [X₁.here.top, hexec, d3', Value.category]
  exact hsteps
/-- 'throw new E("text")': new; dup; ldc; invokespecial; athrow -/
theorem vx_throwS {cc : ByteArray} {pc : Nat} (hexec : p.tables.exec = Jvm.exec) (hb : c.code = cc) (hl : l.stackTraces = false) {own cls text : String} {names : List String} {ik is ic mc ms sa : Nat} {A : Nat → Prop}
    (hown : s.vm.findClass own = some m.cls) (hcls : Bundle.fit cls = true) (hnames : ∀ n ∈ names, Bundle.fit n = true)
    (hk : (Cond.classLink own ik cls).before args s = true) (hini : (Cond.initialized cls).before args s = true) (hstr : vk_R own is text sa s) (hat : ∀ w ∈ vx_atS own ic cls names, w.before args s = true)
    (hgood : ∀ w ∈ Cond.classLink own ik cls :: Cond.initialized cls :: vx_atS own ic cls names, vx_ot w = true)
    (hU : vx_Zq Bundle.tN "UNASSIGNED_STACK" Bundle.steD A s s.heap) (hN : vx_Zq Bundle.tN "SUPPRESSED_SENTINEL" Bundle.listD A s s.heap) (hS : va_S A s.heap H locs) (hsize : ls.size = c.maxLocals)
    (d0 : decode cc pc = .ok (.new ik, 3)) (d3 : decode cc (pc + 3) = .ok (.dup, 1)) (d4 : decode cc (pc + 4) = .ok (.ldc is, 2)) (d6 : decode cc (pc + 6) = .ok (.invokespecial ic, 3)) (d9 : decode cc (pc + 9) = .ok (.athrow, 1))
    (hout : ∀ x ∈ c.exceptionTable.toList, covers x (pc + 9) = false)
    (hRframes : names.length + 3 < R.frames) (hRlocals : (rest.map fun v => v.category).sum + (13 * (names.length + 1) + 43) ≤ R.locals) (hRcells : cells + 1 ≤ R.cells) (hRslots : slots + 6 ≤ R.slots) (hlocks : meth.locks = false)
    (hx : ∀ t : State, s.vm.Alike t.vm → H.size ≤ t.heap.size → (∀ q : Nat, q < H.size → t.heap[q]? = H[q]?) → XC cls s t)
    (hf : ∀ z ∈ locs, free z.base) (hc : cells + 1 ≤ mc) (hs : slots + 6 ≤ ms) :
    W p l e R s m args below meth c H locs cells slots (vx_MQ below Qc XC args s mc ms free) (F0 m pc ls rest) := by
  intro T hT X
  have htr : e.platform.stackTraces = false := (show e.platform.stackTraces = l.stackTraces by rw [X.admits.platform]).trans hl
  have Y := vx_rebase X (R' := { frames := R.frames, locals := R.locals, cells := 1, slots := 6 }) (Nat.le_refl _) (Nat.le_refl _) hRcells hRslots
  obtain ⟨s', hA⟩ : ∃ z, z = (T.setVm s.vm).setFrames (.invoking m args :: below) := ⟨_, rfl⟩
  rw [← hA] at Y
  have hvm : s'.vm = s.vm := by rw [hA]; rfl
  have hhp : s'.heap = H := by rw [hA]; exact hT
  have hW0 : s.WarmedH s'.vm := by rw [hvm]; exact State.WarmedH.refl s
  have hat' : ∀ w ∈ vx_atS own ic cls names, w.before args s' = true := fun w hw => vx_ot_at hW0 hvm.symm (hgood w (List.mem_cons_of_mem _ (List.mem_cons_of_mem _ hw))) (hat w hw)
  have hk' : (Cond.classLink own ik cls).before args s' = true := vx_ot_at hW0 hvm.symm (hgood _ List.mem_cons_self) hk
  have hini' : (Cond.initialized cls).before args s' = true := vx_ot_at hW0 hvm.symm (hgood _ (List.mem_cons_of_mem _ List.mem_cons_self)) hini
  have hU' : vx_Zq Bundle.tN "UNASSIGNED_STACK" Bundle.steD A s' s'.heap := by rw [hhp]; exact vx_Zq.moved hW0.alike (hU.kept hS.2.1)
  have hN' : vx_Zq Bundle.tN "SUPPRESSED_SENTINEL" Bundle.listD A s' s'.heap := by rw [hhp]; exact vx_Zq.moved hW0.alike (hN.kept hS.2.1)
  have h : ∀ w ∈ Bundle.ownAtoms own ic cls names, w.before args s' = true := vx_own hat' (vx_isRefq hU'.1) (vx_isRefq hN'.1) hU'.2.word hN'.2.word
  have hown' : s'.vm.findClass own = some m.cls := by rw [hvm]; exact hown
  have hins : (Cond.instantiable cls 6).before args s' = true := h _ (by simp [Bundle.ownAtoms])
  obtain ⟨vm₁, cX, kX, hfX, hkX, -, -, X₁, st1⟩ := Y.newCold hexec (own := own) (C := cls) (index := ik) (n := 6) hown' hk' hins hini'
    (g := F0 m pc ls rest) rfl (by rw [hb]; exact d0) (Nat.le_refl _) (Nat.le_refl _)
  generalize hT1 : (T.setVm vm₁).pushCell { cls := cX, slots := kX.instanceTypes.map defaultValue, vm := .none } = T1 at X₁ st1
  have hcat : (Value.ref T.heap.size).category = 1 := rfl
  have hcellA : T1.heap[T.heap.size]? = some (freshCell cX kX) := by rw [← hT1]; exact State.heap_pushCell_size _ _
  have d3' : decode c.code (pc + 3) = .ok (.dup, 1) := by rw [hb]; exact d3
  have d4' : decode c.code (pc + 4) = .ok (.ldc is, 2) := by rw [hb]; exact d4
  have hstr' : vk_R own is text sa s' := vk_R.warm hW0 hstr
  obtain ⟨U, hsteps, hrun, hend, hW, hsame, ce, hce, hO⟩ := X₁.ctorThrowS hexec htr (own := own) (cls := cls) (names := names) (ic := ic) hown' hcls hnames h (fun x hx => nomatch hx) hfX hkX hcellA (by rw [hhp, hT]; exact Nat.le_refl _) (msg := .ref sa) rfl
    (g := { method := m, pc := pc + 6, locals := ls, stack := .ref sa :: .ref T.heap.size :: .ref T.heap.size :: rest, locked := none }) rfl hsize rfl rfl (rest := rest) rfl
    (by rw [hb]; exact d6) (by rw [hb]; exact d9) hout hRframes (by simp only [List.map_cons, List.sum_cons, hcat]; omega) hlocks
  obtain ⟨f1, f2⟩ := vx_frame hsame
  rw [hhp] at f1 f2
  have hWs : s.WarmedH U.vm := State.WarmedH.trans hW0 hW
  have hcl : s.vm.findClass cls = some ce.cls := by
    have h9 := hO.cls
    rw [hvm] at h9
    exact h9
  have hall : s.sameButNew ({ U with vm := s.vm } : State) locs mc ms := by
    subst hA
    obtain ⟨e1, e2⟩ := hsame
    rw [State.setFrames_setFrames] at e1
    have h2 : (T.setVm s.vm).sameButNew ({ U with vm := s.vm } : State) [] (0 + 1) (0 + 6) := ⟨e1, e2⟩
    have h3 := X.same.trans h2
    rw [List.append_nil] at h3
    exact h3.mono hc hs
  refine ⟨U, ?_, .threw T.heap.size, hrun, hend, Or.inr ⟨T.heap.size, rfl, cls, ce, locs, hx U hWs.alike f1 (fun q hq => f2 q hq (fun z hz => nomatch hz)), hce, hO.vm, hcl, hWs, hall, hf⟩⟩
  refine st1 _ ?_
  show Steps p.tables e below (T1.setTop { method := m, pc := pc + 3, locals := ls, stack := .ref T.heap.size :: rest, locked := none }) _
  jvm_step X₁.here [X₁.here.top, hexec, d3', Value.category]
  exact X₁.ldcString hexec (own := own) (text := text) (index := is) (a := sa) hown' hstr'.1 hstr'.2
    (g := { method := m, pc := pc + 4, locals := ls, stack := .ref T.heap.size :: .ref T.heap.size :: rest, locked := none }) rfl d4' _ hsteps
/-- 'throw new E("text")', the text by a wide index -/
theorem vx_throwSW {cc : ByteArray} {pc : Nat} (hexec : p.tables.exec = Jvm.exec) (hb : c.code = cc) (hl : l.stackTraces = false) {own cls text : String} {names : List String} {ik is ic mc ms sa : Nat} {A : Nat → Prop}
    (hown : s.vm.findClass own = some m.cls) (hcls : Bundle.fit cls = true) (hnames : ∀ n ∈ names, Bundle.fit n = true)
    (hk : (Cond.classLink own ik cls).before args s = true) (hini : (Cond.initialized cls).before args s = true) (hstr : vk_R own is text sa s) (hat : ∀ w ∈ vx_atS own ic cls names, w.before args s = true)
    (hgood : ∀ w ∈ Cond.classLink own ik cls :: Cond.initialized cls :: vx_atS own ic cls names, vx_ot w = true)
    (hU : vx_Zq Bundle.tN "UNASSIGNED_STACK" Bundle.steD A s s.heap) (hN : vx_Zq Bundle.tN "SUPPRESSED_SENTINEL" Bundle.listD A s s.heap) (hS : va_S A s.heap H locs) (hsize : ls.size = c.maxLocals)
    (d0 : decode cc pc = .ok (.new ik, 3)) (d3 : decode cc (pc + 3) = .ok (.dup, 1)) (d4 : decode cc (pc + 4) = .ok (.ldc_w is, 3)) (d7 : decode cc (pc + 7) = .ok (.invokespecial ic, 3)) (d10 : decode cc (pc + 10) = .ok (.athrow, 1))
    (hout : ∀ x ∈ c.exceptionTable.toList, covers x (pc + 10) = false)
    (hRframes : names.length + 3 < R.frames) (hRlocals : (rest.map fun v => v.category).sum + (13 * (names.length + 1) + 43) ≤ R.locals) (hRcells : cells + 1 ≤ R.cells) (hRslots : slots + 6 ≤ R.slots) (hlocks : meth.locks = false)
    (hx : ∀ t : State, s.vm.Alike t.vm → H.size ≤ t.heap.size → (∀ q : Nat, q < H.size → t.heap[q]? = H[q]?) → XC cls s t)
    (hf : ∀ z ∈ locs, free z.base) (hc : cells + 1 ≤ mc) (hs : slots + 6 ≤ ms) :
    W p l e R s m args below meth c H locs cells slots (vx_MQ below Qc XC args s mc ms free) (F0 m pc ls rest) := by
  intro T hT X
  have htr : e.platform.stackTraces = false := (show e.platform.stackTraces = l.stackTraces by rw [X.admits.platform]).trans hl
  have Y := vx_rebase X (R' := { frames := R.frames, locals := R.locals, cells := 1, slots := 6 }) (Nat.le_refl _) (Nat.le_refl _) hRcells hRslots
  obtain ⟨s', hA⟩ : ∃ z, z = (T.setVm s.vm).setFrames (.invoking m args :: below) := ⟨_, rfl⟩
  rw [← hA] at Y
  have hvm : s'.vm = s.vm := by rw [hA]; rfl
  have hhp : s'.heap = H := by rw [hA]; exact hT
  have hW0 : s.WarmedH s'.vm := by rw [hvm]; exact State.WarmedH.refl s
  have hat' : ∀ w ∈ vx_atS own ic cls names, w.before args s' = true := fun w hw => vx_ot_at hW0 hvm.symm (hgood w (List.mem_cons_of_mem _ (List.mem_cons_of_mem _ hw))) (hat w hw)
  have hk' : (Cond.classLink own ik cls).before args s' = true := vx_ot_at hW0 hvm.symm (hgood _ List.mem_cons_self) hk
  have hini' : (Cond.initialized cls).before args s' = true := vx_ot_at hW0 hvm.symm (hgood _ (List.mem_cons_of_mem _ List.mem_cons_self)) hini
  have hU' : vx_Zq Bundle.tN "UNASSIGNED_STACK" Bundle.steD A s' s'.heap := by rw [hhp]; exact vx_Zq.moved hW0.alike (hU.kept hS.2.1)
  have hN' : vx_Zq Bundle.tN "SUPPRESSED_SENTINEL" Bundle.listD A s' s'.heap := by rw [hhp]; exact vx_Zq.moved hW0.alike (hN.kept hS.2.1)
  have h : ∀ w ∈ Bundle.ownAtoms own ic cls names, w.before args s' = true := vx_own hat' (vx_isRefq hU'.1) (vx_isRefq hN'.1) hU'.2.word hN'.2.word
  have hown' : s'.vm.findClass own = some m.cls := by rw [hvm]; exact hown
  have hins : (Cond.instantiable cls 6).before args s' = true := h _ (by simp [Bundle.ownAtoms])
  obtain ⟨vm₁, cX, kX, hfX, hkX, -, -, X₁, st1⟩ := Y.newCold hexec (own := own) (C := cls) (index := ik) (n := 6) hown' hk' hins hini'
    (g := F0 m pc ls rest) rfl (by rw [hb]; exact d0) (Nat.le_refl _) (Nat.le_refl _)
  generalize hT1 : (T.setVm vm₁).pushCell { cls := cX, slots := kX.instanceTypes.map defaultValue, vm := .none } = T1 at X₁ st1
  have hcat : (Value.ref T.heap.size).category = 1 := rfl
  have hcellA : T1.heap[T.heap.size]? = some (freshCell cX kX) := by rw [← hT1]; exact State.heap_pushCell_size _ _
  have d3' : decode c.code (pc + 3) = .ok (.dup, 1) := by rw [hb]; exact d3
  have d4' : decode c.code (pc + 4) = .ok (.ldc_w is, 3) := by rw [hb]; exact d4
  have hstr' : vk_R own is text sa s' := vk_R.warm hW0 hstr
  obtain ⟨U, hsteps, hrun, hend, hW, hsame, ce, hce, hO⟩ := X₁.ctorThrowS hexec htr (own := own) (cls := cls) (names := names) (ic := ic) hown' hcls hnames h (fun x hx => nomatch hx) hfX hkX hcellA (by rw [hhp, hT]; exact Nat.le_refl _) (msg := .ref sa) rfl
    (g := { method := m, pc := pc + 7, locals := ls, stack := .ref sa :: .ref T.heap.size :: .ref T.heap.size :: rest, locked := none }) rfl hsize rfl rfl (rest := rest) rfl
    (by rw [hb]; exact d7) (by rw [hb]; exact d10) hout hRframes (by simp only [List.map_cons, List.sum_cons, hcat]; omega) hlocks
  obtain ⟨f1, f2⟩ := vx_frame hsame
  rw [hhp] at f1 f2
  have hWs : s.WarmedH U.vm := State.WarmedH.trans hW0 hW
  have hcl : s.vm.findClass cls = some ce.cls := by
    have h9 := hO.cls
    rw [hvm] at h9
    exact h9
  have hall : s.sameButNew ({ U with vm := s.vm } : State) locs mc ms := by
    subst hA
    obtain ⟨e1, e2⟩ := hsame
    rw [State.setFrames_setFrames] at e1
    have h2 : (T.setVm s.vm).sameButNew ({ U with vm := s.vm } : State) [] (0 + 1) (0 + 6) := ⟨e1, e2⟩
    have h3 := X.same.trans h2
    rw [List.append_nil] at h3
    exact h3.mono hc hs
  refine ⟨U, ?_, .threw T.heap.size, hrun, hend, Or.inr ⟨T.heap.size, rfl, cls, ce, locs, hx U hWs.alike f1 (fun q hq => f2 q hq (fun z hz => nomatch hz)), hce, hO.vm, hcl, hWs, hall, hf⟩⟩
  refine st1 _ ?_
  show Steps p.tables e below (T1.setTop { method := m, pc := pc + 3, locals := ls, stack := .ref T.heap.size :: rest, locked := none }) _
  jvm_step X₁.here [X₁.here.top, hexec, d3', Value.category]
  exact X₁.ldcStringW hexec (own := own) (text := text) (index := is) (a := sa) hown' hstr'.1 hstr'.2
    (g := { method := m, pc := pc + 4, locals := ls, stack := .ref T.heap.size :: .ref T.heap.size :: rest, locked := none }) rfl d4' _ hsteps
end Ends
section Bodies
variable {l : Launch}
theorem vx_ofW {y : MethodName} {ws ws' : List Cond} {rm : Room} {Pc : Array Value → State → Prop} {Qc : Array Value → State → Outcome → State → Prop} {XC : String → State → State → Prop} {mc ms : Nat} {free : Addr → Prop} {cc : ByteArray} {maxL : Nat} {ret : Option FieldType}
    (hy : plainName y.cls = true) (hw : ws = Cond.code y cc maxL ret :: ws')
    (body : ∀ p e s m args below meth c s₁, BodyLoose p l y (headSpec ws rm) cc maxL ret e s m args below meth c s₁ → c.maxLocals = maxL → (∀ x ∈ c.exceptionTable.toList, False) → Pc args s →
      W p l e (headSpec ws rm).room s m args below meth c s.heap [] 0 0 (vx_MQ below Qc XC args s mc ms free) (entryFrame m args maxL)) : vx_Met l y ws rm Pc Qc XC mc ms free := by
  refine MetFree.of_bodyS (code := cc) (maxLocals := maxL) (ret := ret) hy ?_ ?_
  · intro args s m h hn
    obtain ⟨meth, c, h1, h2, h3, h4, h5, h6, -, -⟩ := Cond.code_spec hn (atoms_spec (ws := ws) h _ (by rw [hw]; exact List.mem_cons_self))
    exact ⟨meth, c, h1, h2, h3, h4, h5, h6⟩
  · intro p e s m args below meth c s₁ B hml hP _
    have hh0 : s₁.heap = s.heap := by rw [B.state]; rfl
    have ht : ∀ x ∈ c.exceptionTable.toList, False := by
      obtain ⟨meth9, c9, h1, h2, -, -, -, -, h7, -⟩ := Cond.code_spec B.named (atoms_spec (ws := ws) B.pre _ (by rw [hw]; exact List.mem_cons_self))
      cases Option.some.inj (h1.symm.trans B.method)
      cases Option.some.inj (h2.symm.trans (Stand.of_body B).code)
      intro x hx
      rw [Array.isEmpty_iff.mp h7] at hx
      cases hx
    obtain ⟨t, a1, o, b1, b2, b3⟩ := body p e s m args below meth c s₁ B hml ht hP s₁ hh0 (Stand.of_body B)
    exact ⟨t, o, a1, b1, b2, b3⟩
/-- the table of a body with handlers -/
theorem vx_table {p : Program} {x y : MethodName} {S : Spec} {cc bytes : ByteArray} {maxL maxL' : Nat} {ret ret' : Option FieldType} {e : Env} {s s₁ : State} {m : MethodId} {args : Array Value} {below : List Frame} {meth : Method} {c : Code} {hh : List (Nat × Nat × Nat × Nat)}
    (B : BodyLoose p l y S cc maxL ret e s m args below meth c s₁) (h : (Cond.codeWith y bytes maxL' ret' hh).before args s = true) : c.exceptionTable.toList = tableOf hh := by
  obtain ⟨m9, meth9, c9, hn9, h1, h2, -, -, h6, -⟩ := Cond.codeWith_spec h
  cases Option.some.inj (hn9.symm.trans B.named)
  cases Option.some.inj (h1.symm.trans B.method)
  cases Option.some.inj (h2.symm.trans (Stand.of_body B).code)
  rw [← h6, table_eq]
end Bodies
end VXA
/-! ===== END ===== -/
/-! ===== BEGIN a static call of a method with an exception table ===== -/
section VXS
variable {p : Program} {l : Launch} {e : Env} {R : Room} {s : State} {m : MethodId} {args : Array Value} {below : List Frame} {meth : Method} {c : Code} {T : State} {H : Heap} {locs : List Loc} {cells slots : Nat}
abbrev vx_CSW (R : Room) (s : State) (args : Array Value) (own : String) (index : Nat) (y : MethodName) (bytes : ByteArray) (maxL : Nat) (ret : Option FieldType) (hh : List (Nat × Nat × Nat × Nat)) (ws : List Cond) (rm : Room) (mc ms n : Nat) : Prop :=
  (rm.cells = mc ∧ rm.slots = ms ∧ rm.frames + 1 ≤ R.frames ∧ 8 + (maxL + 11) + rm.locals ≤ R.locals ∧ (∀ w ∈ ws, ∀ (a' : Array Value) (U : State), s.WarmedH U.vm → w.before a' U = true) ∧ Cond.codeWith y bytes maxL ret hh ∈ ws) ∧
  (Cond.codeWith y bytes maxL ret hh).before args s = true ∧ (Cond.initialized y.cls).before args s = true ∧ (y.cls ≠ "java/lang/invoke/MethodHandle" ∧ y.cls ≠ "java/lang/invoke/VarHandle") ∧
  (∀ sig, parseMethodDescriptor y.desc = some sig → n = sig.parameters.length) ∧ (Cond.methodLink own index y).before args s = true ∧ (Cond.static y).before args s = true
theorem vx_cwSW {own : String} {index maxL mc ms : Nat} {y : MethodName} {bytes : ByteArray} {ret : Option FieldType} {hh : List (Nat × Nat × Nat × Nat)} {Ts ws ws' : List Cond} {rm : Room} (n : Nat) (ht : ∀ w ∈ Ts, w.before args s = true) (hT : GoodIn Ts (va_wsS own index y ws)) (hw : ws = Cond.codeWith y bytes maxL ret hh :: ws') (hrc : rm.cells = mc) (hrs : rm.slots = ms)
    (hd : y.cls ≠ "java/lang/invoke/MethodHandle" ∧ y.cls ≠ "java/lang/invoke/VarHandle" ∧ (parseMethodDescriptor y.desc).map (fun d => d.parameters.length) = some n) (hR : rm.frames + 1 ≤ R.frames ∧ 8 + (maxL + 11) + rm.locals ≤ R.locals) :
    vx_CSW R s args own index y bytes maxL ret hh ws rm mc ms n := by
  have ok : ∀ w ∈ va_wsS own index y ws, w.before args s = true := fun w h => ht w (hT w h).1
  have hG : GoodIn Ts ws := fun w h => hT w (by unfold va_wsS; exact List.mem_append_right _ h)
  have hc : Cond.codeWith y bytes maxL ret hh ∈ ws := by rw [hw]; exact List.mem_cons_self
  refine ⟨⟨hrc, hrs, hR.1, hR.2, pay_in ht hG, hc⟩, ht _ (hG _ hc).1, ok _ (by simp [va_wsS]), ⟨hd.1, hd.2.1⟩, fun sig h => ?_, ok _ (by simp [va_wsS]), ok _ (by simp [va_wsS])⟩
  have h2 := hd.2.2
  rw [h] at h2
  exact (Option.some.inj h2).symm
theorem vx_callSW (X : Stand p l e R s m args below meth c T locs cells slots) (hexec : p.tables.exec = Jvm.exec) {own : String} {index : Nat} {y : MethodName} {bytes : ByteArray} {maxL : Nat} {ret : Option FieldType} {hh : List (Nat × Nat × Nat × Nat)}
    (hown : s.vm.findClass own = some m.cls) (hlink : (Cond.methodLink own index y).before args s = true) (hstat : (Cond.static y).before args s = true) (hinit : (Cond.initialized y.cls).before args s = true)
    (hcode : (Cond.codeWith y bytes maxL ret hh).before args s = true) (hy : y.cls ≠ "java/lang/invoke/MethodHandle" ∧ y.cls ≠ "java/lang/invoke/VarHandle")
    {W9 : Nat} {Pre : Pt → Array Value → Prop} {Post : Pt → Array Value → Option Value → Pt → Prop} (hK : Back l R p e below s args y 3 W9 Pre Post)
    {g : JFrame} (hg : g.method = m) (hsize : g.locals.size = c.maxLocals) {argsL rest : List Value} (hlen : ∀ sig, parseMethodDescriptor y.desc = some sig → argsL.length = sig.parameters.length)
    (hstack : g.stack = argsL.reverse ++ rest) (hW : 2 * g.monitorRoom + (rest.map fun v => v.category).sum ≤ W9) (hdg : decode c.code g.pc = .ok (.invokestatic index, 3))
    (hpre : ∀ vm₁, s.WarmedH vm₁ → Pre ⟨T.setVm vm₁, locs, cells, slots⟩ argsL.toArray) :
    ∃ (v : Option Value) (vm₁ : Vm) (B : Pt), s.WarmedH vm₁ ∧ Stand p l e R s m args below meth c B.U B.locs B.cells B.slots ∧ Post ⟨T.setVm vm₁, locs, cells, slots⟩ argsL.toArray v B ∧
      ∀ target, Steps p.tables e below (B.U.setTop { g with pc := g.pc + 3, stack := v.toList ++ rest }) target → Steps p.tables e below (T.setTop g) target := by
  obtain ⟨mk, methM, cM, hnamed, hmethM, -, -, -, -, -, -, hsigM⟩ := Cond.codeWith_spec hcode
  have hstatic : methM.isStatic = true := Cond.static_spec hnamed hmethM hstat
  obtain ⟨kP, hkP, -⟩ := className_of_methodNamed hnamed
  have hinitP : kP.init = .initialized := Cond.initialized_spec (findClass_of_methodNamed hnamed) hkP hinit
  obtain ⟨vm₁, X₁, hstep₁⟩ := X.invokestatic hexec hown hlink hnamed hmethM hstatic hkP hinitP hy (g := g) hg (argsL := argsL) (rest := rest) (hlen _ hsigM) hstack hdg
  obtain ⟨v, B, X', hpost, hsteps⟩ := hK m meth c ⟨T.setVm vm₁, locs, cells, slots⟩ { g with stack := rest } (.invokestatic index) mk argsL.toArray X₁ hg hsize hdg hW (X₁.named hnamed) (hpre vm₁ X₁.warmed)
  exact ⟨v, vm₁, B, X₁.warmed, X', hpost, fun target h => hstep₁ _ fun acts => by rw [doInvoke_state]; exact hsteps.trans h⟩
theorem vx_runSW {y : MethodName} {bytes cc : ByteArray} {maxL nL mc ms n index : Nat} {ret : Option FieldType} {hh : List (Nat × Nat × Nat × Nat)} {ws : List Cond} {rm : Room} {Pc : Array Value → State → Prop} {Qc : Array Value → State → Outcome → State → Prop} {free : Addr → Prop} {Ts : List Cond} {own : String} {As rest : List Value} {g : JFrame}
    (S : CallFix p m c cc nL s args Ts own) (hM : Met l y ws rm Pc Qc mc ms free) (cw : vx_CSW R s args own index y bytes maxL ret hh ws rm mc ms n) (hp : PreS s H Pc As)
    (hg : g.method = m) (hn : As.length = n) (hsize : g.locals.size = nL) (hstack : g.stack = As.reverse ++ rest) (hW : 2 * g.monitorRoom + (rest.map fun v => v.category).sum ≤ 8) (hdg : decode cc g.pc = .ok (.invokestatic index, 3)) (hf : cells + mc ≤ R.cells ∧ slots + ms ≤ R.slots) :
    va_Run p l e R s m args below meth c H locs cells slots mc ms g rest (Qc As.toArray) (free) := by
  obtain ⟨⟨hrc, hrs, hfr, hlo, hws, hcw⟩, hcode, hini, hy, hlen, hl, hstt⟩ := cw
  have hK : Back l R p e below s args y 3 8 (PreOf R mc ms Pc) (PostOf Qc mc ms free) := va_backW (hh := hh) (bytes := bytes) (maxL := maxL) (ret := ret) hM hp.1 hrc hrs hfr hlo hws hcw (fun a' U hW => word_at hW (Or.inl (by first | rfl | simp [Cond.onTables, Cond.keeps, Cond.steady])) hini)
  obtain ⟨hx, hb, hml, ho, -⟩ := S
  intro T hT X
  obtain ⟨v, vm₁, ⟨U', l2, c2, s2⟩, hW₁, X', ⟨g', mk, t, L, e1, e2, hq, h1, hL, h2, h3⟩, st⟩ := vx_callSW X hx (hh := hh) (bytes := bytes) (maxL := maxL) (ret := ret) ho hl hstt hini hcode hy hK hg (hsize.trans hml.symm) (argsL := As) (rest := rest) (fun sig h => hn.trans (hlen sig h)) hstack hW (by rw [hb]; exact hdg)
    (fun vm₁ hW₁ => ⟨hf.1, hf.2, hp.2 (T.setVm vm₁) hT hW₁⟩)
  dsimp only [Pt.U, Pt.locs, Pt.cells, Pt.slots] at X' e1 e2 h1 h2 h3 st
  subst h1; subst h2; subst h3
  exact ⟨v, (T.setVm vm₁).calling g' mk As.toArray, t, U', L, hT, X', hL, e1, e2, hq, st⟩
/-- not caught here, past rows that name other classes: it goes on to the caller -/
theorem vx_outP {p : Program} {l : Launch} {e : Env} {R : Room} {s : State} {m : MethodId} {args : Array Value} {below : List Frame} {meth : Method} {c : Code} {H : Heap} {locs : List Loc} {cells slots : Nat} {free : Addr → Prop} {ls : Array Slot} {rest : List Value} {Qc : Array Value → State → Outcome → State → Prop} {XC : String → State → State → Prop}
    {pc : Nat} {own E : String} {ce : Cell} {q : Addr} {mc ms : Nat} (hown : s.vm.findClass own = some m.cls) (hlocks : meth.locks = false)
    (hpass : ∀ z ∈ c.exceptionTable.toList, covers z pc = false ∨ (z.catchType ≠ 0 ∧ ∃ nm : String, (Cond.classLink own z.catchType nm).before args s = true ∧ va_Nc E nm s)) (hcell : H[q]? = some ce) (hv : ce.vm = .none) (hcl : s.vm.findClass E = some ce.cls)
    (hx : ∀ t : State, t.heap = H → s.vm.Alike t.vm → XC E s t) (hf : ∀ z ∈ locs, free z.base) (hc : cells ≤ mc) (hs : slots ≤ ms) :
    vx_W p l e R s m args below meth c H locs cells slots (vx_MQ below Qc XC args s mc ms free) (F0 m pc ls rest) q := by
  intro T hT X
  have hpl : e.platform.magicAccessors = ({} : Platform).magicAccessors := by rw [X.admits.platform]
  obtain ⟨vm', hW', X', st⟩ := X.outThrough hlocks q (g := F0 m pc ls rest) rfl rfl rfl (cell := ce) (by rw [hT]; exact hcell) (by rw [hv]; rfl)
    (by obtain ⟨k9, h9, -⟩ := Vm.findClass_spec hcl; exact ⟨k9, h9⟩) (fun z hz => by
      rcases hpass z hz with h | ⟨hz0, nm, hl1, hn1⟩
      · exact Or.inl h
      · obtain ⟨c6, hc6, hcl6⟩ := Cond.classLink_spec hown hl1 e.platform hpl
        obtain ⟨a8, b8, h1, h2, h3⟩ := hn1
        cases Option.some.inj (h1.symm.trans hcl)
        cases Option.some.inj (h2.symm.trans hc6)
        exact Or.inr ⟨hz0, _, hcl6, h3⟩)
  obtain ⟨g₀, hfr⟩ := X'.frames_eq
  have hcell9 : ((T.setVm vm').setFrames (.throwing q :: below)).heap[q]? = some ce := by
    show T.heap[q]? = some ce
    rw [hT]; exact hcell
  have hend : Ended ((T.setVm vm').setFrames (.throwing q :: below)) below (.threw q) := State.frames_setFrames _ (State.cur_lt_of_frames hfr)
  refine ⟨(T.setVm vm').setFrames (.throwing q :: below), ?_, .threw q, X'.here.running, hend, Or.inr ⟨q, rfl, E, ce, locs, hx _ hT (X'.ends _).1.alike, hcell9, hv, hcl, (X'.ends _).1, (X'.ends _).2.mono hc hs, hf⟩⟩
  rw [X.pushThrowing_eq]
  exact st
/-- a thing of a world lies in the heap -/
theorem vx_lt {D : va_G} {cl : List vw_C} {ws : va_W} {H1 : Heap} (h : va_P D cl ws H1) {k : Nat} {q : Nat × va_E} (hk : ws[k]? = some q) : q.1 < H1.size := (h k q hk).lt
end VXS
/-! ===== END ===== -/
/-! ===== BEGIN methods with a table of their own: called by a name, returning or throwing ===== -/
section VXH
/-! vx_backW, vx_callVX, vx_callSX, vx_callVW, vx_runVW, vx_runVX, vx_runSX, vx_ofWH follow the same proofs as their sisters above (Free/Laws.lean, Shelf42/LK1.lean); vx_outP calls Shelf42/NT130.lean (outThrough). -/
section
variable {l : Launch} {R : Room} {p : Program} {e : Env} {below : List Frame} {s : State} {sargs : Array Value} {y : MethodName} {len W9 : Nat}
theorem vx_backW {ws : List Cond} {rm : Room} {Pc : Array Value → State → Prop} {Qc : Array Value → State → Outcome → State → Prop} {XC : String → State → State → Prop} {mc ms : Nat} {free : Addr → Prop} {bytes : ByteArray} {maxL : Nat} {ret : Option FieldType} {hh : List (Nat × Nat × Nat × Nat)}
    (hM : vx_Met l y ws rm Pc Qc XC mc ms free) (hblind : FrameBlind Pc) (hrc : rm.cells = mc) (hrs : rm.slots = ms)
    (hframes : rm.frames + 1 ≤ R.frames) (hlocals : W9 + (maxL + 11) + rm.locals ≤ R.locals)
    (hws : ∀ w ∈ ws, ∀ a' U, s.WarmedH U.vm → w.before a' U = true) (hcode : Cond.codeWith y bytes maxL ret hh ∈ ws) (hinit : ∀ a' U, s.WarmedH U.vm → (Cond.initialized y.cls).before a' U = true) :
    vx_Back l R p e below s sargs y len W9 (PreOf R mc ms Pc) (PostOf Qc mc ms free) (vx_Post XC mc ms free) := by
  intro m meth c A g ig mk a X hg hsize hdg hW hn hp
  have h1 : (headSpec ws rm).pre.before a A.U = true := atoms_intro fun w hw => hws w hw _ _ X.warmed
  have h2 : (Cond.codeWith y bytes maxL ret hh).before a A.U = true := hws _ hcode _ _ X.warmed
  have h3 : (Cond.initialized y.cls).before a A.U = true := hinit _ _ X.warmed
  have h4 : A.cells + (headSpec ws rm).room.cells ≤ R.cells := by rw [show (headSpec ws rm).room.cells = mc from hrc]; exact hp.1
  have h5 : A.slots + (headSpec ws rm).room.slots ≤ R.slots := by rw [show (headSpec ws rm).room.slots = ms from hrs]; exact hp.2.1
  have hPc : Pc a (A.U.calling g mk a) := hblind _ _ _ _ hp.2.2
  obtain ⟨U, Ls, c0, s0⟩ := A
  dsimp only [Pt.U, Pt.locs, Pt.cells, Pt.slots] at h1 h2 h3 h4 h5 X hn hPc ⊢
  obtain ⟨m9, methY, cY, hn9, hmY, hcY, -, hlY, -⟩ := Cond.codeWith_spec h2
  cases Option.some.inj (hn9.symm.trans hn)
  obtain ⟨kY, hkY, -⟩ := className_of_methodNamed hn
  have hinitY : kY.init = .initialized := Cond.initialized_spec (findClass_of_methodNamed hn) hkY h3
  have h : At U g.method c below := by rw [hg]; exact X.here
  have hlocals9 : W9 + (maxL + 11) + (headSpec ws rm).room.locals ≤ R.locals := hlocals
  have happ : (headSpec ws rm).appliesLoose y e.platform (U.calling g mk a) = true :=
    Spec.appliesLoose_calling (g := g) h hdg hn hkY hinitY
      (X.room_calling (g := g) (R' := (headSpec ws rm).room) hsize hmY hcY hframes (by rw [hlY]; omega) h4 h5) h1
  obtain ⟨mid, hmid⟩ := h.above
  have hfr : (U.setTop g).frames = (.java g :: mid) ++ below := by rw [State.frames_setTop' g h.top, hmid]; rfl
  obtain ⟨o, s₂, hsteps, -, hend, hq⟩ := Steps.callFree hM p X.admits X.cas X.clock (acts := []) hfr happ hPc trivial
  have hq' : vx_Q Qc XC mc ms free a (U.calling g mk a) o s₂ := hq
  rw [State.frames_setTop' g h.top] at hend
  obtain ⟨g₀, hg0⟩ := Option.isSome_iff_exists.mp h.top
  obtain ⟨r, hr⟩ := State.topJava?_eq_some.mp hg0
  have hr' : (({ U with heap := s₂.heap, slotsUsed := s₂.slotsUsed } : State).setVm s₂.vm).frames = .java g₀ :: r := hr
  rcases hq' with ⟨hqc, L, hfe, hL⟩ | ⟨q, rfl, E, ce, L, hx, hce, hcv, hcl, hW₂, hsm, hL⟩
  · obtain ⟨⟨v, rfl⟩, hW₂, e2, q2, q3, q4, q5, q6⟩ := id hfe
    have e3 : s₂ = ({ (U.calling g mk a).setFrames s₂.frames with heap := s₂.heap, slotsUsed := s₂.slotsUsed } : State).setVm s₂.vm := by
      have : s₂ = ({ s₂ with vm := (U.calling g mk a).vm } : State).setVm s₂.vm := rfl
      rw [e2] at this
      exact this
    obtain ⟨c₂, i₂, len₂, hc₂, hd₂, hf₂⟩ := hend
    have hW' : U.WarmedH s₂.vm := hW₂
    have hcc : c₂ = c := by
      have h1 : s₂.code? g.method = U.code? g.method := by
        rw [State.code?_eq, State.code?_eq, hW'.alike.method?]
      exact Option.some.inj (hc₂.symm.trans (h1.trans h.code))
    subst hcc
    have hlen : len₂ = len := by rw [hdg] at hd₂; cases hd₂; rfl
    subst hlen
    have hs₂ : s₂ = (({ U with heap := s₂.heap, slotsUsed := s₂.slotsUsed } : State).setVm s₂.vm).setTop { g with pc := g.pc + len₂, stack := v.toList ++ g.stack } := by
      refine e3.trans ?_
      rw [hf₂, State.calling_eq h.top, State.setFrames_setFrames, State.setTop_of_frames _ hr', hr]
      rfl
    have hsame : U.sameButNew ({ U with heap := s₂.heap, slotsUsed := s₂.slotsUsed } : State) L mc ms := by
      refine ⟨?_, q2, q3, q4, q5, q6⟩
      obtain ⟨t, ht, -⟩ := State.frames_cons hr
      show ({ U with heap := s₂.heap, slotsUsed := s₂.slotsUsed } : State) = { U.setFrames U.frames with heap := s₂.heap, slotsUsed := s₂.slotsUsed }
      rw [State.setFrames_self ht]
    subst hg
    refine Or.inl ⟨v, ⟨(({ U with heap := s₂.heap, slotsUsed := s₂.slotsUsed } : State).setVm s₂.vm), Ls ++ L, c0 + mc, s0 + ms⟩,
      ⟨X.admits, X.cas, X.clock, X.frames, X.room, X.hears, X.method, X.code, (X.here.setHeapUsed s₂.heap s₂.slotsUsed).setVm hW'.alike, X.tail, State.WarmedH.trans X.warmed hW', X.limits, X.bytes, X.same.trans (hsame.setVm s.vm)⟩,
      ⟨g, mk, s₂, L, rfl, rfl, hqc, rfl, hL, rfl, rfl⟩, ?_⟩
    show Steps p.tables e below _ ((({ U with heap := s₂.heap, slotsUsed := s₂.slotsUsed } : State).setVm s₂.vm).setTop { g with pc := g.pc + len₂, stack := v.toList ++ g.stack })
    rw [← hs₂]
    exact hsteps
  · obtain ⟨e2, q2, q3, q4, q5, q6⟩ := id hsm
    have e3 : s₂ = ({ (U.calling g mk a).setFrames s₂.frames with heap := s₂.heap, slotsUsed := s₂.slotsUsed } : State).setVm s₂.vm := by
      have : s₂ = ({ s₂ with vm := (U.calling g mk a).vm } : State).setVm s₂.vm := rfl
      rw [e2] at this
      exact this
    have hf₂ : s₂.frames = .throwing q :: .java g :: U.frames.tail := hend
    have hW' : U.WarmedH s₂.vm := hW₂
    have hs₂ : s₂ = ((({ U with heap := s₂.heap, slotsUsed := s₂.slotsUsed } : State).setVm s₂.vm).setTop g).pushFrame (.throwing q) := by
      refine e3.trans ?_
      rw [hf₂, State.calling_eq h.top, State.setFrames_setFrames, State.pushFrame, State.frames_setTop _ hr', State.setTop_of_frames _ hr', State.setFrames_setFrames, hr]
      rfl
    have hsame : U.sameButNew ({ U with heap := s₂.heap, slotsUsed := s₂.slotsUsed } : State) L mc ms := by
      refine ⟨?_, q2, q3, q4, q5, q6⟩
      obtain ⟨t, ht, -⟩ := State.frames_cons hr
      show ({ U with heap := s₂.heap, slotsUsed := s₂.slotsUsed } : State) = { U.setFrames U.frames with heap := s₂.heap, slotsUsed := s₂.slotsUsed }
      rw [State.setFrames_self ht]
    subst hg
    refine Or.inr ⟨q, ⟨(({ U with heap := s₂.heap, slotsUsed := s₂.slotsUsed } : State).setVm s₂.vm), Ls ++ L, c0 + mc, s0 + ms⟩,
      ⟨X.admits, X.cas, X.clock, X.frames, X.room, X.hears, X.method, X.code, (X.here.setHeapUsed s₂.heap s₂.slotsUsed).setVm hW'.alike, X.tail, State.WarmedH.trans X.warmed hW', X.limits, X.bytes, X.same.trans (hsame.setVm s.vm)⟩,
      ⟨g, mk, s₂, L, E, ce, rfl, rfl, hx, hce, hcv, hcl, rfl, hL, rfl, rfl⟩, ?_⟩
    show Steps p.tables e below _ (((({ U with heap := s₂.heap, slotsUsed := s₂.slotsUsed } : State).setVm s₂.vm).setTop g).pushFrame (.throwing q))
    rw [← hs₂]
    exact hsteps
end
variable {p : Program} {l : Launch} {e : Env} {R : Room} {s : State} {m : MethodId} {args : Array Value} {below : List Frame} {meth : Method} {c : Code} {T : State} {H : Heap} {locs : List Loc} {cells slots : Nat}
theorem vx_callVX (X : Stand p l e R s m args below meth c T locs cells slots) (hexec : p.tables.exec = Jvm.exec) {own C : String} {index : Nat} {y : MethodName} {bytes : ByteArray} {maxL : Nat} {ret : Option FieldType} {hh : List (Nat × Nat × Nat × Nat)}
    (hown : s.vm.findClass own = some m.cls) (hlink : (Cond.methodLink own index y).before args s = true) (hinst : (Cond.instanceMethod y).before args s = true) (hsel : (Cond.selects C y y).before args s = true)
    (hcode : (Cond.codeWith y bytes maxL ret hh).before args s = true) (hy : y.cls ≠ "java/lang/invoke/MethodHandle" ∧ y.cls ≠ "java/lang/invoke/VarHandle")
    {W9 : Nat} {Pre : Pt → Array Value → Prop} {Post : Pt → Array Value → Option Value → Pt → Prop} {PostX : Pt → Array Value → Addr → Pt → Prop} (hK : vx_Back l R p e below s args y 3 W9 Pre Post PostX)
    {b : Addr} {cellB : Cell} (hcell : T.heap[b]? = some cellB) (hobj : cellB.vm.isStatics = false) (hcls : s.vm.findClass C = some cellB.cls)
    {g : JFrame} (hg : g.method = m) (hsize : g.locals.size = c.maxLocals) {argsL rest : List Value} (hlen : ∀ sig, parseMethodDescriptor y.desc = some sig → argsL.length = sig.parameters.length)
    (hstack : g.stack = argsL.reverse ++ .ref b :: rest) (hW : 2 * g.monitorRoom + (rest.map fun v => v.category).sum ≤ W9) (hdg : decode c.code g.pc = .ok (.invokevirtual index, 3))
    (hpre : ∀ vm₁, s.WarmedH vm₁ → Pre ⟨T.setVm vm₁, locs, cells, slots⟩ (Value.ref b :: argsL).toArray) :
    (∃ (v : Option Value) (vm₁ : Vm) (B : Pt), s.WarmedH vm₁ ∧ Stand p l e R s m args below meth c B.U B.locs B.cells B.slots ∧ Post ⟨T.setVm vm₁, locs, cells, slots⟩ (Value.ref b :: argsL).toArray v B ∧
      ∀ target, Steps p.tables e below (B.U.setTop { g with pc := g.pc + 3, stack := v.toList ++ rest }) target → Steps p.tables e below (T.setTop g) target) ∨
    (∃ (q : Addr) (vm₁ : Vm) (B : Pt), s.WarmedH vm₁ ∧ Stand p l e R s m args below meth c B.U B.locs B.cells B.slots ∧ PostX ⟨T.setVm vm₁, locs, cells, slots⟩ (Value.ref b :: argsL).toArray q B ∧
      Steps p.tables e below (T.setTop g) ((B.U.setTop { g with stack := rest }).pushFrame (.throwing q))) := by
  obtain ⟨mk, methM, hnamed, hmethM, hstM, habM⟩ := Cond.instanceMethod_spec hinst
  obtain ⟨m8, methM', cM, hn8, hmethM', -, -, -, -, -, -, hsigM⟩ := Cond.codeWith_spec hcode
  cases Option.some.inj (hn8.symm.trans hnamed)
  cases hmethM.symm.trans hmethM'
  obtain ⟨c2, r2, m2, q1, q2, q3, q4, kP, hkP, hkPi⟩ := Cond.selects_spec hsel
  cases hcls.symm.trans q1
  cases (State.methodFound?_of_named hnamed hy).symm.trans q2
  cases hnamed.symm.trans q3
  have hselP : selectMethod e.platform s.vm cellB.cls mk = .method mk := by rw [Launch.admits_selectMethod X.admits]; exact q4
  obtain ⟨vm₁, X₁, hstep₁⟩ := X.invokevirtual hexec hown hlink hnamed hmethM hstM hkP hkPi hy (a := b) (cell := cellB) hcell
    (fun z h => by rw [h] at hobj; cases hobj) hselP hmethM habM hkP hkPi (g := g) hg (argsL := argsL) (rest := rest) (hlen _ hsigM) hstack hdg
  rcases hK m meth c ⟨T.setVm vm₁, locs, cells, slots⟩ { g with stack := rest } (.invokevirtual index) mk (Value.ref b :: argsL).toArray X₁ hg hsize hdg hW (X₁.named hnamed) (hpre vm₁ X₁.warmed) with ⟨v, B, X', hpost, hsteps⟩ | ⟨q, B, X', hpost, hsteps⟩
  · exact Or.inl ⟨v, vm₁, B, X₁.warmed, X', hpost, fun target h => hstep₁ _ fun acts => by rw [doInvoke_state]; exact hsteps.trans h⟩
  · exact Or.inr ⟨q, vm₁, B, X₁.warmed, X', hpost, hstep₁ _ fun acts => by rw [doInvoke_state]; exact hsteps⟩
theorem vx_callSX (X : Stand p l e R s m args below meth c T locs cells slots) (hexec : p.tables.exec = Jvm.exec) {own : String} {index : Nat} {y : MethodName} {bytes : ByteArray} {maxL : Nat} {ret : Option FieldType} {hh : List (Nat × Nat × Nat × Nat)}
    (hown : s.vm.findClass own = some m.cls) (hlink : (Cond.methodLink own index y).before args s = true) (hstat : (Cond.static y).before args s = true) (hinit : (Cond.initialized y.cls).before args s = true)
    (hcode : (Cond.codeWith y bytes maxL ret hh).before args s = true) (hy : y.cls ≠ "java/lang/invoke/MethodHandle" ∧ y.cls ≠ "java/lang/invoke/VarHandle")
    {W9 : Nat} {Pre : Pt → Array Value → Prop} {Post : Pt → Array Value → Option Value → Pt → Prop} {PostX : Pt → Array Value → Addr → Pt → Prop} (hK : vx_Back l R p e below s args y 3 W9 Pre Post PostX)
    {g : JFrame} (hg : g.method = m) (hsize : g.locals.size = c.maxLocals) {argsL rest : List Value} (hlen : ∀ sig, parseMethodDescriptor y.desc = some sig → argsL.length = sig.parameters.length)
    (hstack : g.stack = argsL.reverse ++ rest) (hW : 2 * g.monitorRoom + (rest.map fun v => v.category).sum ≤ W9) (hdg : decode c.code g.pc = .ok (.invokestatic index, 3))
    (hpre : ∀ vm₁, s.WarmedH vm₁ → Pre ⟨T.setVm vm₁, locs, cells, slots⟩ argsL.toArray) :
    (∃ (v : Option Value) (vm₁ : Vm) (B : Pt), s.WarmedH vm₁ ∧ Stand p l e R s m args below meth c B.U B.locs B.cells B.slots ∧ Post ⟨T.setVm vm₁, locs, cells, slots⟩ argsL.toArray v B ∧
      ∀ target, Steps p.tables e below (B.U.setTop { g with pc := g.pc + 3, stack := v.toList ++ rest }) target → Steps p.tables e below (T.setTop g) target) ∨
    (∃ (q : Addr) (vm₁ : Vm) (B : Pt), s.WarmedH vm₁ ∧ Stand p l e R s m args below meth c B.U B.locs B.cells B.slots ∧ PostX ⟨T.setVm vm₁, locs, cells, slots⟩ argsL.toArray q B ∧
      Steps p.tables e below (T.setTop g) ((B.U.setTop { g with stack := rest }).pushFrame (.throwing q))) := by
  obtain ⟨mk, methM, cM, hnamed, hmethM, -, -, -, -, -, -, hsigM⟩ := Cond.codeWith_spec hcode
  have hstatic : methM.isStatic = true := Cond.static_spec hnamed hmethM hstat
  obtain ⟨kP, hkP, -⟩ := className_of_methodNamed hnamed
  have hinitP : kP.init = .initialized := Cond.initialized_spec (findClass_of_methodNamed hnamed) hkP hinit
  obtain ⟨vm₁, X₁, hstep₁⟩ := X.invokestatic hexec hown hlink hnamed hmethM hstatic hkP hinitP hy (g := g) hg (argsL := argsL) (rest := rest) (hlen _ hsigM) hstack hdg
  rcases hK m meth c ⟨T.setVm vm₁, locs, cells, slots⟩ { g with stack := rest } (.invokestatic index) mk argsL.toArray X₁ hg hsize hdg hW (X₁.named hnamed) (hpre vm₁ X₁.warmed) with ⟨v, B, X', hpost, hsteps⟩ | ⟨q, B, X', hpost, hsteps⟩
  · exact Or.inl ⟨v, vm₁, B, X₁.warmed, X', hpost, fun target h => hstep₁ _ fun acts => by rw [doInvoke_state]; exact hsteps.trans h⟩
  · exact Or.inr ⟨q, vm₁, B, X₁.warmed, X', hpost, hstep₁ _ fun acts => by rw [doInvoke_state]; exact hsteps⟩
theorem vx_callVW (X : Stand p l e R s m args below meth c T locs cells slots) (hexec : p.tables.exec = Jvm.exec) {own C : String} {index : Nat} {y : MethodName} {bytes : ByteArray} {maxL : Nat} {ret : Option FieldType} {hh : List (Nat × Nat × Nat × Nat)}
    (hown : s.vm.findClass own = some m.cls) (hlink : (Cond.methodLink own index y).before args s = true) (hinst : (Cond.instanceMethod y).before args s = true) (hsel : (Cond.selects C y y).before args s = true)
    (hcode : (Cond.codeWith y bytes maxL ret hh).before args s = true) (hy : y.cls ≠ "java/lang/invoke/MethodHandle" ∧ y.cls ≠ "java/lang/invoke/VarHandle")
    {W9 : Nat} {Pre : Pt → Array Value → Prop} {Post : Pt → Array Value → Option Value → Pt → Prop} (hK : Back l R p e below s args y 3 W9 Pre Post)
    {b : Addr} {cellB : Cell} (hcell : T.heap[b]? = some cellB) (hobj : cellB.vm.isStatics = false) (hcls : s.vm.findClass C = some cellB.cls)
    {g : JFrame} (hg : g.method = m) (hsize : g.locals.size = c.maxLocals) {argsL rest : List Value} (hlen : ∀ sig, parseMethodDescriptor y.desc = some sig → argsL.length = sig.parameters.length)
    (hstack : g.stack = argsL.reverse ++ .ref b :: rest) (hW : 2 * g.monitorRoom + (rest.map fun v => v.category).sum ≤ W9) (hdg : decode c.code g.pc = .ok (.invokevirtual index, 3))
    (hpre : ∀ vm₁, s.WarmedH vm₁ → Pre ⟨T.setVm vm₁, locs, cells, slots⟩ (Value.ref b :: argsL).toArray) :
    ∃ (v : Option Value) (vm₁ : Vm) (B : Pt), s.WarmedH vm₁ ∧ Stand p l e R s m args below meth c B.U B.locs B.cells B.slots ∧ Post ⟨T.setVm vm₁, locs, cells, slots⟩ (Value.ref b :: argsL).toArray v B ∧
      ∀ target, Steps p.tables e below (B.U.setTop { g with pc := g.pc + 3, stack := v.toList ++ rest }) target → Steps p.tables e below (T.setTop g) target := by
  obtain ⟨mk, methM, hnamed, hmethM, hstM, habM⟩ := Cond.instanceMethod_spec hinst
  obtain ⟨m8, methM', cM, hn8, hmethM', -, -, -, -, -, -, hsigM⟩ := Cond.codeWith_spec hcode
  cases Option.some.inj (hn8.symm.trans hnamed)
  cases hmethM.symm.trans hmethM'
  obtain ⟨c2, r2, m2, q1, q2, q3, q4, kP, hkP, hkPi⟩ := Cond.selects_spec hsel
  cases hcls.symm.trans q1
  cases (State.methodFound?_of_named hnamed hy).symm.trans q2
  cases hnamed.symm.trans q3
  have hselP : selectMethod e.platform s.vm cellB.cls mk = .method mk := by rw [Launch.admits_selectMethod X.admits]; exact q4
  obtain ⟨vm₁, X₁, hstep₁⟩ := X.invokevirtual hexec hown hlink hnamed hmethM hstM hkP hkPi hy (a := b) (cell := cellB) hcell
    (fun z h => by rw [h] at hobj; cases hobj) hselP hmethM habM hkP hkPi (g := g) hg (argsL := argsL) (rest := rest) (hlen _ hsigM) hstack hdg
  obtain ⟨v, B, X', hpost, hsteps⟩ := hK m meth c ⟨T.setVm vm₁, locs, cells, slots⟩ { g with stack := rest } (.invokevirtual index) mk (Value.ref b :: argsL).toArray X₁ hg hsize hdg hW (X₁.named hnamed) (hpre vm₁ X₁.warmed)
  exact ⟨v, vm₁, B, X₁.warmed, X', hpost, fun target h => hstep₁ _ fun acts => by rw [doInvoke_state]; exact hsteps.trans h⟩
abbrev vx_CVW (R : Room) (s : State) (args : Array Value) (own C : String) (index : Nat) (y : MethodName) (bytes : ByteArray) (maxL : Nat) (ret : Option FieldType) (hh : List (Nat × Nat × Nat × Nat)) (ws : List Cond) (rm : Room) (mc ms n : Nat) : Prop :=
  (rm.cells = mc ∧ rm.slots = ms ∧ rm.frames + 1 ≤ R.frames ∧ 8 + (maxL + 11) + rm.locals ≤ R.locals ∧ (∀ w ∈ ws, ∀ (a' : Array Value) (U : State), s.WarmedH U.vm → w.before a' U = true) ∧ Cond.codeWith y bytes maxL ret hh ∈ ws) ∧
  (Cond.codeWith y bytes maxL ret hh).before args s = true ∧ (Cond.initialized y.cls).before args s = true ∧ (y.cls ≠ "java/lang/invoke/MethodHandle" ∧ y.cls ≠ "java/lang/invoke/VarHandle") ∧
  (∀ sig, parseMethodDescriptor y.desc = some sig → n = sig.parameters.length) ∧ (Cond.methodLink own index y).before args s = true ∧ (Cond.instanceMethod y).before args s = true ∧ (Cond.selects C y y).before args s = true
theorem vx_cwVW {own C : String} {index maxL mc ms : Nat} {y : MethodName} {bytes : ByteArray} {ret : Option FieldType} {hh : List (Nat × Nat × Nat × Nat)} {Ts ws ws' : List Cond} {rm : Room} (n : Nat) (ht : ∀ w ∈ Ts, w.before args s = true) (hT : GoodIn Ts (wsV own index C y ws)) (hw : ws = Cond.codeWith y bytes maxL ret hh :: ws') (hrc : rm.cells = mc) (hrs : rm.slots = ms)
    (hd : y.cls = C ∧ y.cls ≠ "java/lang/invoke/MethodHandle" ∧ y.cls ≠ "java/lang/invoke/VarHandle" ∧ (parseMethodDescriptor y.desc).map (fun d => d.parameters.length) = some n) (hR : rm.frames + 1 ≤ R.frames ∧ 8 + (maxL + 11) + rm.locals ≤ R.locals) :
    vx_CVW R s args own C index y bytes maxL ret hh ws rm mc ms n := by
  obtain ⟨hC, hd⟩ := hd
  subst hC
  have ok : ∀ w ∈ wsV own index y.cls y ws, w.before args s = true := fun w h => ht w (hT w h).1
  have hG : GoodIn Ts ws := fun w h => hT w (by unfold wsV; exact List.mem_append_right _ h)
  have hc : Cond.codeWith y bytes maxL ret hh ∈ ws := by rw [hw]; exact List.mem_cons_self
  refine ⟨⟨hrc, hrs, hR.1, hR.2, pay_in ht hG, hc⟩, ht _ (hG _ hc).1, ok _ (by simp [wsV]), ⟨hd.1, hd.2.1⟩, fun sig h => ?_, ok _ (by simp [wsV]), ok _ (by simp [wsV]), ok _ (by simp [wsV])⟩
  have h2 := hd.2.2
  rw [h] at h2
  exact (Option.some.inj h2).symm
theorem vx_runVW {y : MethodName} {bytes cc : ByteArray} {maxL nL mc ms n index : Nat} {ret : Option FieldType} {hh : List (Nat × Nat × Nat × Nat)} {ws : List Cond} {rm : Room} {Pc : Array Value → State → Prop} {Qc : Array Value → State → Outcome → State → Prop} {free : Addr → Prop} {Ts : List Cond} {own C : String} {b : Addr} {As rest : List Value} {g : JFrame}
    (S : CallFix p m c cc nL s args Ts own) (hM : Met l y ws rm Pc Qc mc ms free) (cw : vx_CVW R s args own C index y bytes maxL ret hh ws rm mc ms n) (hp : PreV s H C b Pc As)
    (hg : g.method = m) (hn : As.length = n) (hsize : g.locals.size = nL) (hstack : g.stack = As.reverse ++ .ref b :: rest) (hW : 2 * g.monitorRoom + (rest.map fun v => v.category).sum ≤ 8) (hdg : decode cc g.pc = .ok (.invokevirtual index, 3)) (hf : cells + mc ≤ R.cells ∧ slots + ms ≤ R.slots) :
    va_Run p l e R s m args below meth c H locs cells slots mc ms g rest (Qc (Value.ref b :: As).toArray) free := by
  obtain ⟨⟨hrc, hrs, hfr, hlo, hws, hcw⟩, hcode, hini, hy, hlen, hl, hin, hse⟩ := cw
  have hK : Back l R p e below s args y 3 8 (PreOf R mc ms Pc) (PostOf Qc mc ms free) := va_backW (hh := hh) (bytes := bytes) (maxL := maxL) (ret := ret) hM hp.1 hrc hrs hfr hlo hws hcw (fun a' U hW => word_at hW (Or.inl (by first | rfl | simp [Cond.onTables, Cond.keeps, Cond.steady])) hini)
  obtain ⟨hx, hb, hml, ho, -⟩ := S
  obtain ⟨-, ⟨cellB, hcB, hoB, hclB⟩, hPc⟩ := hp
  intro T hT X
  obtain ⟨v, vm₁, ⟨U', l2, c2, s2⟩, hW₁, X', ⟨g', mk, t, L, e1, e2, hq, h1, hL, h2, h3⟩, st⟩ := vx_callVW X hx (C := C) (hh := hh) (bytes := bytes) (maxL := maxL) (ret := ret) ho hl hin hse hcode hy hK (by rw [hT]; exact hcB) hoB hclB hg (hsize.trans hml.symm) (argsL := As) (rest := rest) (fun sig h => hn.trans (hlen sig h)) hstack hW (by rw [hb]; exact hdg)
    (fun vm₁ hW₁ => ⟨hf.1, hf.2, hPc (T.setVm vm₁) hT hW₁⟩)
  dsimp only [Pt.U, Pt.locs, Pt.cells, Pt.slots] at X' e1 e2 h1 h2 h3 st
  subst h1; subst h2; subst h3
  exact ⟨v, (T.setVm vm₁).calling g' mk (Value.ref b :: As).toArray, t, U', L, hT, X', hL, e1, e2, hq, st⟩
section
variable {y : MethodName} {bytes cc : ByteArray} {maxL nL mc ms n index : Nat} {ret : Option FieldType} {ws : List Cond} {rm : Room} {Pc : Array Value → State → Prop} {Qc : Array Value → State → Outcome → State → Prop} {XC : String → State → State → Prop} {free : Addr → Prop} {Ts : List Cond} {own C : String} {b : Addr} {As rest : List Value} {g : JFrame}
theorem vx_runVX {hh : List (Nat × Nat × Nat × Nat)} (S : CallFix p m c cc nL s args Ts own) (hM : vx_Met l y ws rm Pc Qc XC mc ms free) (cw : vx_CVW R s args own C index y bytes maxL ret hh ws rm mc ms n) (hp : PreV s H C b Pc As)
    (hg : g.method = m) (hn : As.length = n) (hsize : g.locals.size = nL) (hstack : g.stack = As.reverse ++ .ref b :: rest) (hW : 2 * g.monitorRoom + (rest.map fun v => v.category).sum ≤ 8) (hdg : decode cc g.pc = .ok (.invokevirtual index, 3)) (hf : cells + mc ≤ R.cells ∧ slots + ms ≤ R.slots) :
    vx_Run p l e R s m args below meth c H locs cells slots mc ms g rest (Qc (Value.ref b :: As).toArray) XC free := by
  obtain ⟨⟨hrc, hrs, hfr, hlo, hws, hcw⟩, hcode, hini, hy, hlen, hl, hin, hse⟩ := cw
  have hK : vx_Back l R p e below s args y 3 8 (PreOf R mc ms Pc) (PostOf Qc mc ms free) (vx_Post XC mc ms free) := vx_backW (hh := hh) (bytes := bytes) (maxL := maxL) (ret := ret) hM hp.1 hrc hrs hfr hlo hws hcw (fun a' U hW => word_at hW (Or.inl (by first | rfl | simp [Cond.onTables, Cond.keeps, Cond.steady])) hini)
  obtain ⟨hx, hb, hml, ho, -⟩ := S
  obtain ⟨-, ⟨cellB, hcB, hoB, hclB⟩, hPc⟩ := hp
  intro T hT X
  rcases vx_callVX X hx (C := C) (hh := hh) (bytes := bytes) (maxL := maxL) (ret := ret) ho hl hin hse hcode hy hK (by rw [hT]; exact hcB) hoB hclB hg (hsize.trans hml.symm) (argsL := As) (rest := rest) (fun sig h => hn.trans (hlen sig h)) hstack hW (by rw [hb]; exact hdg)
    (fun vm₁ hW₁ => ⟨hf.1, hf.2, hPc (T.setVm vm₁) hT hW₁⟩) with ⟨v, vm₁, ⟨U', l2, c2, s2⟩, hW₁, X', ⟨g', mk, t, L, e1, e2, hq, h1, hL, h2, h3⟩, st⟩ | ⟨q, vm₁, ⟨U', l2, c2, s2⟩, hW₁, X', ⟨g', mk, t, L, E, ce, e1, e2, hq, hce, hcv, hcl, h1, hL, h2, h3⟩, st⟩
  · dsimp only [Pt.U, Pt.locs, Pt.cells, Pt.slots] at X' e1 e2 h1 h2 h3 st
    subst h1; subst h2; subst h3
    exact Or.inl ⟨v, (T.setVm vm₁).calling g' mk (Value.ref b :: As).toArray, t, U', L, hT, X', hL, e1, e2, hq, st⟩
  · dsimp only [Pt.U, Pt.locs, Pt.cells, Pt.slots] at X' e1 e2 h1 h2 h3 st hcl
    subst h1; subst h2; subst h3
    exact Or.inr ⟨q, (T.setVm vm₁).calling g' mk (Value.ref b :: As).toArray, t, U', L, E, ce, hT, X', hL, e1, e2, hq, hce, hcv, vx_cls hW₁ hcl, st⟩
theorem vx_runSX {hh : List (Nat × Nat × Nat × Nat)} (S : CallFix p m c cc nL s args Ts own) (hM : vx_Met l y ws rm Pc Qc XC mc ms free) (cw : vx_CSW R s args own index y bytes maxL ret hh ws rm mc ms n) (hp : PreS s H Pc As)
    (hg : g.method = m) (hn : As.length = n) (hsize : g.locals.size = nL) (hstack : g.stack = As.reverse ++ rest) (hW : 2 * g.monitorRoom + (rest.map fun v => v.category).sum ≤ 8) (hdg : decode cc g.pc = .ok (.invokestatic index, 3)) (hf : cells + mc ≤ R.cells ∧ slots + ms ≤ R.slots) :
    vx_Run p l e R s m args below meth c H locs cells slots mc ms g rest (Qc As.toArray) XC free := by
  obtain ⟨⟨hrc, hrs, hfr, hlo, hws, hcw⟩, hcode, hini, hy, hlen, hl, hstt⟩ := cw
  have hK : vx_Back l R p e below s args y 3 8 (PreOf R mc ms Pc) (PostOf Qc mc ms free) (vx_Post XC mc ms free) := vx_backW (hh := hh) (bytes := bytes) (maxL := maxL) (ret := ret) hM hp.1 hrc hrs hfr hlo hws hcw (fun a' U hW => word_at hW (Or.inl (by first | rfl | simp [Cond.onTables, Cond.keeps, Cond.steady])) hini)
  obtain ⟨hx, hb, hml, ho, -⟩ := S
  intro T hT X
  rcases vx_callSX X hx (hh := hh) (bytes := bytes) (maxL := maxL) (ret := ret) ho hl hstt hini hcode hy hK hg (hsize.trans hml.symm) (argsL := As) (rest := rest) (fun sig h => hn.trans (hlen sig h)) hstack hW (by rw [hb]; exact hdg)
    (fun vm₁ hW₁ => ⟨hf.1, hf.2, hp.2 (T.setVm vm₁) hT hW₁⟩) with ⟨v, vm₁, ⟨U', l2, c2, s2⟩, hW₁, X', ⟨g', mk, t, L, e1, e2, hq, h1, hL, h2, h3⟩, st⟩ | ⟨q, vm₁, ⟨U', l2, c2, s2⟩, hW₁, X', ⟨g', mk, t, L, E, ce, e1, e2, hq, hce, hcv, hcl, h1, hL, h2, h3⟩, st⟩
  · dsimp only [Pt.U, Pt.locs, Pt.cells, Pt.slots] at X' e1 e2 h1 h2 h3 st
    subst h1; subst h2; subst h3
    exact Or.inl ⟨v, (T.setVm vm₁).calling g' mk As.toArray, t, U', L, hT, X', hL, e1, e2, hq, st⟩
  · dsimp only [Pt.U, Pt.locs, Pt.cells, Pt.slots] at X' e1 e2 h1 h2 h3 st hcl
    subst h1; subst h2; subst h3
    exact Or.inr ⟨q, (T.setVm vm₁).calling g' mk As.toArray, t, U', L, E, ce, hT, X', hL, e1, e2, hq, hce, hcv, vx_cls hW₁ hcl, st⟩
end
end VXH
theorem vx_ofWH {l : Launch} {y : MethodName} {ws ws' : List Cond} {rm : Room} {Pc : Array Value → State → Prop} {Qc : Array Value → State → Outcome → State → Prop} {XC : String → State → State → Prop} {mc ms : Nat} {free : Addr → Prop} {cc : ByteArray} {maxL : Nat} {ret : Option FieldType} {hh : List (Nat × Nat × Nat × Nat)}
    (hy : plainName y.cls = true) (hw : ws = Cond.codeWith y cc maxL ret hh :: ws')
    (body : ∀ p e s m args below meth c s₁, BodyLoose p l y (headSpec ws rm) cc maxL ret e s m args below meth c s₁ → c.maxLocals = maxL → Pc args s →
      W p l e (headSpec ws rm).room s m args below meth c s.heap [] 0 0 (vx_MQ below Qc XC args s mc ms free) (entryFrame m args maxL)) : vx_Met l y ws rm Pc Qc XC mc ms free := by
  refine MetFree.of_bodyS (code := cc) (maxLocals := maxL) (ret := ret) hy ?_ ?_
  · intro args s m h hn
    obtain ⟨m9, meth, c, hn9, h1, h2, h3, h4, -, h5, h6, -⟩ := Cond.codeWith_spec (atoms_spec (ws := ws) h _ (by rw [hw]; exact List.mem_cons_self))
    cases hn.symm.trans hn9
    exact ⟨meth, c, h1, h2, h3, h4, h5, h6⟩
  · intro p e s m args below meth c s₁ B hml hP _
    have hh0 : s₁.heap = s.heap := by rw [B.state]; rfl
    obtain ⟨t, a1, o, b1, b2, b3⟩ := body p e s m args below meth c s₁ B hml hP s₁ hh0 (Stand.of_body B)
    exact ⟨t, o, a1, b1, b2, b3⟩
/-! ===== END ===== -/

/-! ===== BEGIN printed: names, fields, word lists, decode rows ===== -/
def RX0 : String := "DepotLog$Run"
def TX0 : u_T := fun k => match k with
  | 0 => ("DepotLog$Run", "start", "I", false)
  | 1 => ("DepotLog$Run", "end", "I", false)
  | 2 => ("DepotLog$Run", "need", "I", false)
  | 3 => ("DepotLog$Run", "state", "I", false)
  | 4 => ("DepotLog$Run", "bus", "I", false)
  | _ => ("DepotLog$Run", "driver", "I", false)
def tyX0 : Nat → FieldType := fun k => match k with
  | 0 => .int
  | 1 => .int
  | 2 => .int
  | 3 => .int
  | 4 => .int
  | _ => .int
abbrev wsX00 : List Cond := u_ws RX0 TX0 6
theorem nmX0 : ∀ a, a < 6 → ∀ b, b < 6 → a ≠ b → (TX0 a).2.1 ≠ (TX0 b).2.1 := by decide +kernel
theorem tyX0_ok : ∀ k, k < 6 → parseFieldDescriptor (TX0 k).2.2.1 = some (tyX0 k) := by decide +kernel
abbrev cX0_init : ByteArray := prog_2_method_1_code
def yX0_init : MethodName := ⟨RX0, "<init>", "()V"⟩
abbrev cX0_tell : ByteArray := prog_2_method_2_code
def yX0_tell : MethodName := ⟨RX0, "tell", "(III)V"⟩
abbrev cX0_give : ByteArray := prog_2_method_3_code
def yX0_give : MethodName := ⟨RX0, "give", "(II)V"⟩
abbrev cX0_drop : ByteArray := prog_2_method_4_code
def yX0_drop : MethodName := ⟨RX0, "drop", "(I)V"⟩
abbrev cX0_holds : ByteArray := prog_2_method_5_code
def yX0_holds : MethodName := ⟨RX0, "holds", "(I)Z"⟩
abbrev cX0_isWorkOf : ByteArray := prog_2_method_6_code
def yX0_isWorkOf : MethodName := ⟨RX0, "isWorkOf", "(II)Z"⟩
abbrev cX0_meets : ByteArray := prog_2_method_7_code
def yX0_meets : MethodName := ⟨RX0, "meets", "(LDepotLog$Run;)Z"⟩
abbrev cX0_isRestedFrom : ByteArray := prog_2_method_8_code
def yX0_isRestedFrom : MethodName := ⟨RX0, "isRestedFrom", "(LDepotLog$Run;)Z"⟩
abbrev cX0_startDay : ByteArray := prog_2_method_9_code
def yX0_startDay : MethodName := ⟨RX0, "startDay", "()I"⟩
abbrev cX0_length : ByteArray := prog_2_method_10_code
def yX0_length : MethodName := ⟨RX0, "length", "()I"⟩
def RX1 : String := "DepotLog"
def TX1 : u_T := fun k => match k with
  | 0 => ("DepotLog", "rows", "[LDepotLog$Run;", true)
  | 1 => ("DepotLog", "charges", "[I", true)
  | 2 => ("DepotLog", "broken", "[Z", true)
  | 3 => ("DepotLog", "ill", "[Z", true)
  | 4 => ("DepotLog", "busAtCharger", "[I", true)
  | 5 => ("DepotLog", "log", "[I", true)
  | 6 => ("DepotLog", "numberOfMark", "[I", true)
  | 7 => ("DepotLog", "minute", "I", false)
  | 8 => ("DepotLog", "runCount", "I", false)
  | 9 => ("DepotLog", "orderCount", "I", false)
  | 10 => ("DepotLog", "holder", "I", false)
  | _ => ("DepotLog", "leaseEnd", "I", false)
def tyX1 : Nat → FieldType := fun k => match k with
  | 0 => .array (.object "DepotLog$Run")
  | 1 => .array .int
  | 2 => .array .boolean
  | 3 => .array .boolean
  | 4 => .array .int
  | 5 => .array .int
  | 6 => .array .int
  | 7 => .int
  | 8 => .int
  | 9 => .int
  | 10 => .int
  | _ => .int
abbrev wsX10 : List Cond := u_ws RX1 TX1 12
theorem nmX1 : ∀ a, a < 12 → ∀ b, b < 12 → a ≠ b → (TX1 a).2.1 ≠ (TX1 b).2.1 := by decide +kernel
theorem tyX1_ok : ∀ k, k < 12 → parseFieldDescriptor (TX1 k).2.2.1 = some (tyX1 k) := by decide +kernel
abbrev cX1_init : ByteArray := prog_1_method_1_code
def yX1_init : MethodName := ⟨RX1, "<init>", "()V"⟩
abbrev cX1_run : ByteArray := prog_1_method_2_code
def yX1_run : MethodName := ⟨RX1, "run", "(III)I"⟩
abbrev cX1_lead : ByteArray := prog_1_method_3_code
def yX1_lead : MethodName := ⟨RX1, "lead", "(II)Z"⟩
abbrev cX1_order : ByteArray := prog_1_method_4_code
def yX1_order : MethodName := ⟨RX1, "order", "(IIIII)I"⟩
abbrev cX1_breaks : ByteArray := prog_1_method_5_code
def yX1_breaks : MethodName := ⟨RX1, "breaks", "(IZ)Z"⟩
abbrev cX1_ails : ByteArray := prog_1_method_6_code
def yX1_ails : MethodName := ⟨RX1, "ails", "(IZ)Z"⟩
abbrev cX1_plug : ByteArray := prog_1_method_7_code
def yX1_plug : MethodName := ⟨RX1, "plug", "(II)I"⟩
abbrev cX1_advance : ByteArray := prog_1_method_8_code
def yX1_advance : MethodName := ⟨RX1, "advance", "(I)I"⟩
abbrev cX1_minute : ByteArray := prog_1_method_9_code
def yX1_minute : MethodName := ⟨RX1, "minute", "()I"⟩
abbrev cX1_leader : ByteArray := prog_1_method_10_code
def yX1_leader : MethodName := ⟨RX1, "leader", "()I"⟩
abbrev cX1_runs : ByteArray := prog_1_method_11_code
def yX1_runs : MethodName := ⟨RX1, "runs", "()I"⟩
abbrev cX1_orders : ByteArray := prog_1_method_12_code
def yX1_orders : MethodName := ⟨RX1, "orders", "()I"⟩
abbrev cX1_orderAt : ByteArray := prog_1_method_13_code
def yX1_orderAt : MethodName := ⟨RX1, "orderAt", "(I)I"⟩
abbrev cX1_stateOf : ByteArray := prog_1_method_14_code
def yX1_stateOf : MethodName := ⟨RX1, "stateOf", "(I)I"⟩
abbrev cX1_busOf : ByteArray := prog_1_method_15_code
def yX1_busOf : MethodName := ⟨RX1, "busOf", "(I)I"⟩
abbrev cX1_driverOf : ByteArray := prog_1_method_16_code
def yX1_driverOf : MethodName := ⟨RX1, "driverOf", "(I)I"⟩
abbrev cX1_charge : ByteArray := prog_1_method_17_code
def yX1_charge : MethodName := ⟨RX1, "charge", "(I)I"⟩
abbrev cX1_promised : ByteArray := prog_1_method_18_code
def yX1_promised : MethodName := ⟨RX1, "promised", "(I)I"⟩
abbrev cX1_minutesOf : ByteArray := prog_1_method_19_code
def yX1_minutesOf : MethodName := ⟨RX1, "minutesOf", "(II)I"⟩
abbrev cX1_requireIndex : ByteArray := prog_1_method_20_code
def yX1_requireIndex : MethodName := ⟨RX1, "requireIndex", "(II)V"⟩
abbrev cX1_requireRange : ByteArray := prog_1_method_21_code
def yX1_requireRange : MethodName := ⟨RX1, "requireRange", "(III)V"⟩
abbrev cX1_write : ByteArray := prog_1_method_22_code
def yX1_write : MethodName := ⟨RX1, "write", "(II)I"⟩
abbrev cX1_canBeOrdered : ByteArray := prog_1_method_23_code
def yX1_canBeOrdered : MethodName := ⟨RX1, "canBeOrdered", "(LDepotLog$Run;II)Z"⟩
abbrev cX1_isBusFit : ByteArray := prog_1_method_24_code
def yX1_isBusFit : MethodName := ⟨RX1, "isBusFit", "(ILDepotLog$Run;)Z"⟩
abbrev cX1_isDriverFit : ByteArray := prog_1_method_25_code
def yX1_isDriverFit : MethodName := ⟨RX1, "isDriverFit", "(ILDepotLog$Run;)Z"⟩
abbrev cX1_lowestFitBus : ByteArray := prog_1_method_26_code
def yX1_lowestFitBus : MethodName := ⟨RX1, "lowestFitBus", "(LDepotLog$Run;)I"⟩
abbrev cX1_lowestFitDriver : ByteArray := prog_1_method_27_code
def yX1_lowestFitDriver : MethodName := ⟨RX1, "lowestFitDriver", "(LDepotLog$Run;)I"⟩
abbrev cX1_promisedCharge : ByteArray := prog_1_method_28_code
def yX1_promisedCharge : MethodName := ⟨RX1, "promisedCharge", "(I)I"⟩
abbrev cX1_workedMinutes : ByteArray := prog_1_method_29_code
def yX1_workedMinutes : MethodName := ⟨RX1, "workedMinutes", "(II)I"⟩
abbrev cX1_takeOrdersFromBus : ByteArray := prog_1_method_30_code
def yX1_takeOrdersFromBus : MethodName := ⟨RX1, "takeOrdersFromBus", "(I)V"⟩
abbrev cX1_takeOrdersFromDriver : ByteArray := prog_1_method_31_code
def yX1_takeOrdersFromDriver : MethodName := ⟨RX1, "takeOrdersFromDriver", "(I)V"⟩
abbrev cX1_swapBus : ByteArray := prog_1_method_32_code
def yX1_swapBus : MethodName := ⟨RX1, "swapBus", "(I)V"⟩
abbrev cX1_giveOtherBus : ByteArray := prog_1_method_33_code
def yX1_giveOtherBus : MethodName := ⟨RX1, "giveOtherBus", "(LDepotLog$Run;)V"⟩
abbrev cX1_swapDriver : ByteArray := prog_1_method_34_code
def yX1_swapDriver : MethodName := ⟨RX1, "swapDriver", "(I)V"⟩
abbrev cX1_giveOtherDriver : ByteArray := prog_1_method_35_code
def yX1_giveOtherDriver : MethodName := ⟨RX1, "giveOtherDriver", "(LDepotLog$Run;)V"⟩
abbrev cX1_isUnderWay : ByteArray := prog_1_method_36_code
def yX1_isUnderWay : MethodName := ⟨RX1, "isUnderWay", "(I)Z"⟩
abbrev cX1_unplug : ByteArray := prog_1_method_37_code
def yX1_unplug : MethodName := ⟨RX1, "unplug", "(I)V"⟩
abbrev cX1_sendOut : ByteArray := prog_1_method_38_code
def yX1_sendOut : MethodName := ⟨RX1, "sendOut", "(II)V"⟩
abbrev cX1_passMinute : ByteArray := prog_1_method_39_code
def yX1_passMinute : MethodName := ⟨RX1, "passMinute", "()V"⟩
abbrev cX1_loadAtChargers : ByteArray := prog_1_method_40_code
def yX1_loadAtChargers : MethodName := ⟨RX1, "loadAtChargers", "()V"⟩
abbrev cX1_endRuns : ByteArray := prog_1_method_41_code
def yX1_endRuns : MethodName := ⟨RX1, "endRuns", "()V"⟩
abbrev cX1_startRuns : ByteArray := prog_1_method_42_code
def yX1_startRuns : MethodName := ⟨RX1, "startRuns", "()V"⟩
abbrev cX1_startRun : ByteArray := prog_1_method_43_code
def yX1_startRun : MethodName := ⟨RX1, "startRun", "(LDepotLog$Run;)V"⟩
def RX2 : String := "DepotLogModel"
def TX2 : u_T := fun k => match k with
  | _ => ("", "", "", false)
def tyX2 : Nat → FieldType := fun k => match k with
  | _ => .int
abbrev wsX20 : List Cond := u_ws RX2 TX2 0
theorem nmX2 : ∀ a, a < 0 → ∀ b, b < 0 → a ≠ b → (TX2 a).2.1 ≠ (TX2 b).2.1 := by decide +kernel
theorem tyX2_ok : ∀ k, k < 0 → parseFieldDescriptor (TX2 k).2.2.1 = some (tyX2 k) := by decide +kernel
def RJ0 : String := "java/lang/String"
def TJ0 : u_T := fun k => match k with
  | _ => ("", "", "", false)
def tyJ0 : Nat → FieldType := fun k => match k with
  | _ => .int
abbrev wsJ00 : List Cond := u_ws RJ0 TJ0 0
theorem nmJ0 : ∀ a, a < 0 → ∀ b, b < 0 → a ≠ b → (TJ0 a).2.1 ≠ (TJ0 b).2.1 := by decide +kernel
theorem tyJ0_ok : ∀ k, k < 0 → parseFieldDescriptor (TJ0 k).2.2.1 = some (tyJ0 k) := by decide +kernel
def RL : String := "DepotLogLaw"
abbrev cL_leader : ByteArray := method_2_code
def yL_leader : MethodName := ⟨RL, "leader", "([I)I"⟩
abbrev cL_promised : ByteArray := method_3_code
def yL_promised : MethodName := ⟨RL, "promised", "([I[I[I[II)I"⟩
abbrev cL_fitsBus : ByteArray := method_4_code
def yL_fitsBus : MethodName := ⟨RL, "fitsBus", "([I[I[I[I[III)Z"⟩
abbrev cL_minutes : ByteArray := method_5_code
def yL_minutes : MethodName := ⟨RL, "minutes", "([I[I[I[IIII)I"⟩
abbrev cL_fitsDriver : ByteArray := method_6_code
def yL_fitsDriver : MethodName := ⟨RL, "fitsDriver", "([I[I[I[I[III)Z"⟩
abbrev cL_leaves : ByteArray := method_7_code
def yL_leaves : MethodName := ⟨RL, "leaves", "([II)V"⟩
abbrev cL_turns : ByteArray := method_8_code
def yL_turns : MethodName := ⟨RL, "turns", "([I[I[III)V"⟩
abbrev cL_breaks : ByteArray := method_9_code
def yL_breaks : MethodName := ⟨RL, "breaks", "([I[I[I[I[I[I[II)V"⟩
abbrev cL_ails : ByteArray := method_10_code
def yL_ails : MethodName := ⟨RL, "ails", "([I[I[I[I[I[II)V"⟩
abbrev cL_passes : ByteArray := method_11_code
def yL_passes : MethodName := ⟨RL, "passes", "([I[I[I[I[I[I[II)V"⟩
abbrev cL_does : ByteArray := method_12_code
def yL_does : MethodName := ⟨RL, "does", "(LDepotLog;IIIIII)I"⟩
abbrev cL_isDepot : ByteArray := method_13_code
def yL_isDepot : MethodName := ⟨RL, "isDepot", "(LDepotLog;[I[I[I[I[I[I[II)Z"⟩
abbrev cL_law : ByteArray := code
def yL_law : MethodName := ⟨RL, "law", "([I)Z"⟩
def wsX0_init : List Cond := .code yX0_init cX0_init 1 none :: ([.methodLink RX0 3 objectInit, .instanceMethod objectInit, .code objectInit ⟨#[0xb1]⟩ 1 none, .fieldLink RX0 9 "DepotLog$Run" "state" "I", .fieldLink RX0 15 "DepotLog$Run" "bus" "I", .fieldLink RX0 18 "DepotLog$Run" "driver" "I"] ++ wsX00)
def wsX0_tell : List Cond := .code yX0_tell cX0_tell 4 none :: ([.fieldLink RX0 21 "DepotLog$Run" "start" "I", .fieldLink RX0 24 "DepotLog$Run" "end" "I", .fieldLink RX0 27 "DepotLog$Run" "need" "I"] ++ wsX00)
def wsX0_give : List Cond := .code yX0_give cX0_give 3 none :: ([.fieldLink RX0 9 "DepotLog$Run" "state" "I", .fieldLink RX0 15 "DepotLog$Run" "bus" "I", .fieldLink RX0 18 "DepotLog$Run" "driver" "I"] ++ wsX00)
def wsX0_drop : List Cond := .code yX0_drop cX0_drop 2 none :: ([.fieldLink RX0 9 "DepotLog$Run" "state" "I", .fieldLink RX0 15 "DepotLog$Run" "bus" "I", .fieldLink RX0 18 "DepotLog$Run" "driver" "I"] ++ wsX00)
def wsX0_holds : List Cond := .code yX0_holds cX0_holds 2 (some .boolean) :: ([.fieldLink RX0 15 "DepotLog$Run" "bus" "I", .fieldLink RX0 9 "DepotLog$Run" "state" "I"] ++ wsX00)
def wsX0_startDay : List Cond := .code yX0_startDay cX0_startDay 1 (some .int) :: ([.fieldLink RX0 21 "DepotLog$Run" "start" "I"] ++ wsX00)
def wsX0_isWorkOf : List Cond := .code yX0_isWorkOf cX0_isWorkOf 3 (some .boolean) :: ([.fieldLink RX0 18 "DepotLog$Run" "driver" "I", .methodLink RX0 30 yX0_startDay, .instanceMethod yX0_startDay, .selects RX0 yX0_startDay yX0_startDay, .initialized RX0, .code yX0_startDay cX0_startDay 1 (some .int), .fieldLink RX0 21 "DepotLog$Run" "start" "I"] ++ wsX00)
def wsX0_meets : List Cond := .code yX0_meets cX0_meets 2 (some .boolean) :: ([.fieldLink RX0 21 "DepotLog$Run" "start" "I", .fieldLink RX0 24 "DepotLog$Run" "end" "I"] ++ wsX00)
def wsX0_isRestedFrom : List Cond := .code yX0_isRestedFrom cX0_isRestedFrom 2 (some .boolean) :: ([.fieldLink RX0 24 "DepotLog$Run" "end" "I", .fieldLink RX0 21 "DepotLog$Run" "start" "I"] ++ wsX00)
def wsX0_length : List Cond := .code yX0_length cX0_length 1 (some .int) :: ([.fieldLink RX0 24 "DepotLog$Run" "end" "I", .fieldLink RX0 21 "DepotLog$Run" "start" "I"] ++ wsX00)
def wsX1_init_r1 : List Cond := [Cond.methodLink RX1 1 objectInit, Cond.instanceMethod objectInit, Cond.code objectInit ⟨#[0xb1]⟩ 1 none, Cond.classLink RX1 9 RX0, Cond.fieldLink RX1 11 "DepotLog" "rows" "[LDepotLog$Run;", Cond.arrayClass .int, Cond.fieldLink RX1 15 "DepotLog" "charges" "[I", Cond.arrayClass .boolean, Cond.fieldLink RX1 19 "DepotLog" "broken" "[Z", Cond.fieldLink RX1 23 "DepotLog" "ill" "[Z", Cond.fieldLink RX1 26 "DepotLog" "busAtCharger" "[I", Cond.fieldLink RX1 29 "DepotLog" "log" "[I", Cond.fieldLink RX1 32 "DepotLog" "numberOfMark" "[I", Cond.fieldLink RX1 35 "DepotLog" "minute" "I", Cond.fieldLink RX1 39 "DepotLog" "runCount" "I", Cond.fieldLink RX1 42 "DepotLog" "orderCount" "I", Cond.fieldLink RX1 45 "DepotLog" "holder" "I", Cond.fieldLink RX1 48 "DepotLog" "leaseEnd" "I", Cond.instantiable RX0 6, Cond.initialized RX0, Cond.instanceMethod yX0_init, Cond.code yX0_init cX0_init 1 none, Cond.methodLink RX0 3 objectInit, Cond.fieldLink RX0 9 "DepotLog$Run" "state" "I"]
def wsX1_init_r2 : List Cond := [Cond.fieldLink RX0 15 "DepotLog$Run" "bus" "I", Cond.fieldLink RX0 18 "DepotLog$Run" "driver" "I"]
def wsX1_init : List Cond := .code yX1_init cX1_init 2 none :: ((wsX1_init_r1 ++ wsX1_init_r2) ++ wsX10 ++ wsX00)
def wsX1_requireRange : List Cond := .code yX1_requireRange cX1_requireRange 3 none :: ([.classLink RX1 135 "java/lang/IllegalArgumentException", .initialized "java/lang/IllegalArgumentException"] ++ (vx_atS RX1 139 "java/lang/IllegalArgumentException" ["java/lang/RuntimeException", "java/lang/Exception"]).filter goodWord)
def wsX1_run : List Cond := .code yX1_run cX1_run 5 (some .int) :: ([.classLink RX1 56 "java/lang/IllegalStateException", .initialized "java/lang/IllegalStateException", .fieldLink RX1 35 "DepotLog" "minute" "I", .fieldLink RX1 39 "DepotLog" "runCount" "I", .fieldLink RX1 11 "DepotLog" "rows" "[LDepotLog$Run;", .methodLink RX1 52 yX1_requireRange, .static yX1_requireRange, .initialized RX1, .code yX1_requireRange cX1_requireRange 3 none, .classLink RX1 135 "java/lang/IllegalArgumentException", .initialized "java/lang/IllegalArgumentException", .methodLink RX1 63 yX0_tell, .instanceMethod yX0_tell, .selects RX0 yX0_tell yX0_tell, .initialized RX0, .code yX0_tell cX0_tell 4 none, .fieldLink RX0 21 "DepotLog$Run" "start" "I", .fieldLink RX0 24 "DepotLog$Run" "end" "I", .fieldLink RX0 27 "DepotLog$Run" "need" "I"] ++ wsX10 ++ wsX00 ++ (vx_atS RX1 60 "java/lang/IllegalStateException" ["java/lang/RuntimeException", "java/lang/Exception"]).filter goodWord ++ (vx_atS RX1 139 "java/lang/IllegalArgumentException" ["java/lang/RuntimeException", "java/lang/Exception"]).filter goodWord)
def wsX1_requireIndex : List Cond := .code yX1_requireIndex cX1_requireIndex 2 none :: ([.classLink RX1 130 "java/lang/IndexOutOfBoundsException", .initialized "java/lang/IndexOutOfBoundsException"] ++ (vx_atS RX1 134 "java/lang/IndexOutOfBoundsException" ["java/lang/RuntimeException", "java/lang/Exception"]).filter goodWord)
def wsX1_leader : List Cond := .code yX1_leader cX1_leader 1 (some .int) :: ([.fieldLink RX1 35 "DepotLog" "minute" "I", .fieldLink RX1 48 "DepotLog" "leaseEnd" "I", .fieldLink RX1 45 "DepotLog" "holder" "I"] ++ wsX10)
def wsX1_lead : List Cond := .code yX1_lead cX1_lead 4 (some .boolean) :: ([.fieldLink RX1 45 "DepotLog" "holder" "I", .fieldLink RX1 35 "DepotLog" "minute" "I", .fieldLink RX1 48 "DepotLog" "leaseEnd" "I", .methodLink RX1 66 yX1_requireIndex, .static yX1_requireIndex, .initialized RX1, .code yX1_requireIndex cX1_requireIndex 2 none, .classLink RX1 130 "java/lang/IndexOutOfBoundsException", .initialized "java/lang/IndexOutOfBoundsException", .methodLink RX1 52 yX1_requireRange, .static yX1_requireRange, .code yX1_requireRange cX1_requireRange 3 none, .classLink RX1 135 "java/lang/IllegalArgumentException", .initialized "java/lang/IllegalArgumentException", .methodLink RX1 70 yX1_leader, .instanceMethod yX1_leader, .selects RX1 yX1_leader yX1_leader, .code yX1_leader cX1_leader 1 (some .int)] ++ wsX10 ++ (vx_atS RX1 134 "java/lang/IndexOutOfBoundsException" ["java/lang/RuntimeException", "java/lang/Exception"]).filter goodWord ++ (vx_atS RX1 139 "java/lang/IllegalArgumentException" ["java/lang/RuntimeException", "java/lang/Exception"]).filter goodWord)
def wsX1_promisedCharge : List Cond := .code yX1_promisedCharge cX1_promisedCharge 4 (some .int) :: ([.fieldLink RX1 39 "DepotLog" "runCount" "I", .fieldLink RX1 11 "DepotLog" "rows" "[LDepotLog$Run;", .fieldLink RX1 117 "DepotLog$Run" "bus" "I", .fieldLink RX1 114 "DepotLog$Run" "state" "I", .fieldLink RX1 150 "DepotLog$Run" "need" "I"] ++ wsX10 ++ wsX00)
def wsX1_isBusFit_r1 : List Cond := [Cond.fieldLink RX1 19 "DepotLog" "broken" "[Z", Cond.fieldLink RX1 15 "DepotLog" "charges" "[I", Cond.fieldLink RX1 150 "DepotLog$Run" "need" "I", Cond.fieldLink RX1 39 "DepotLog" "runCount" "I", Cond.fieldLink RX1 11 "DepotLog" "rows" "[LDepotLog$Run;", Cond.methodLink RX1 123 yX1_promisedCharge, Cond.instanceMethod yX1_promisedCharge, Cond.selects RX1 yX1_promisedCharge yX1_promisedCharge, Cond.initialized RX1, Cond.code yX1_promisedCharge cX1_promisedCharge 4 (some .int), Cond.fieldLink RX1 117 "DepotLog$Run" "bus" "I", Cond.fieldLink RX1 114 "DepotLog$Run" "state" "I", Cond.methodLink RX1 153 yX0_holds, Cond.instanceMethod yX0_holds, Cond.selects RX0 yX0_holds yX0_holds, Cond.initialized RX0, Cond.code yX0_holds cX0_holds 2 (some .boolean), Cond.fieldLink RX0 15 "DepotLog$Run" "bus" "I", Cond.fieldLink RX0 9 "DepotLog$Run" "state" "I", Cond.methodLink RX1 156 yX0_meets, Cond.instanceMethod yX0_meets, Cond.selects RX0 yX0_meets yX0_meets, Cond.code yX0_meets cX0_meets 2 (some .boolean), Cond.fieldLink RX0 21 "DepotLog$Run" "start" "I"]
def wsX1_isBusFit_r2 : List Cond := [Cond.fieldLink RX0 24 "DepotLog$Run" "end" "I"]
def wsX1_isBusFit : List Cond := .code yX1_isBusFit cX1_isBusFit 4 (some .boolean) :: ((wsX1_isBusFit_r1 ++ wsX1_isBusFit_r2) ++ wsX10 ++ wsX00)
def wsX1_workedMinutes : List Cond := .code yX1_workedMinutes cX1_workedMinutes 5 (some .int) :: ([.fieldLink RX1 39 "DepotLog" "runCount" "I", .fieldLink RX1 11 "DepotLog" "rows" "[LDepotLog$Run;", .methodLink RX1 166 yX0_isWorkOf, .instanceMethod yX0_isWorkOf, .selects RX0 yX0_isWorkOf yX0_isWorkOf, .initialized RX0, .code yX0_isWorkOf cX0_isWorkOf 3 (some .boolean), .fieldLink RX0 18 "DepotLog$Run" "driver" "I", .methodLink RX0 30 yX0_startDay, .instanceMethod yX0_startDay, .selects RX0 yX0_startDay yX0_startDay, .code yX0_startDay cX0_startDay 1 (some .int), .fieldLink RX0 21 "DepotLog$Run" "start" "I", .methodLink RX1 163 yX0_length, .instanceMethod yX0_length, .selects RX0 yX0_length yX0_length, .code yX0_length cX0_length 1 (some .int), .fieldLink RX0 24 "DepotLog$Run" "end" "I"] ++ wsX10 ++ wsX00)
def wsX1_isDriverFit_r1 : List Cond := [Cond.fieldLink RX1 23 "DepotLog" "ill" "[Z", Cond.fieldLink RX1 39 "DepotLog" "runCount" "I", Cond.fieldLink RX1 11 "DepotLog" "rows" "[LDepotLog$Run;", Cond.methodLink RX1 160 yX0_startDay, Cond.instanceMethod yX0_startDay, Cond.selects RX0 yX0_startDay yX0_startDay, Cond.initialized RX0, Cond.code yX0_startDay cX0_startDay 1 (some .int), Cond.fieldLink RX0 21 "DepotLog$Run" "start" "I", Cond.methodLink RX1 127 yX1_workedMinutes, Cond.instanceMethod yX1_workedMinutes, Cond.selects RX1 yX1_workedMinutes yX1_workedMinutes, Cond.initialized RX1, Cond.code yX1_workedMinutes cX1_workedMinutes 5 (some .int), Cond.methodLink RX1 166 yX0_isWorkOf, Cond.instanceMethod yX0_isWorkOf, Cond.selects RX0 yX0_isWorkOf yX0_isWorkOf, Cond.code yX0_isWorkOf cX0_isWorkOf 3 (some .boolean), Cond.fieldLink RX0 18 "DepotLog$Run" "driver" "I", Cond.methodLink RX0 30 yX0_startDay, Cond.methodLink RX1 163 yX0_length, Cond.instanceMethod yX0_length, Cond.selects RX0 yX0_length yX0_length, Cond.code yX0_length cX0_length 1 (some .int)]
def wsX1_isDriverFit_r2 : List Cond := [Cond.fieldLink RX0 24 "DepotLog$Run" "end" "I", Cond.methodLink RX1 170 yX0_isRestedFrom, Cond.instanceMethod yX0_isRestedFrom, Cond.selects RX0 yX0_isRestedFrom yX0_isRestedFrom, Cond.code yX0_isRestedFrom cX0_isRestedFrom 2 (some .boolean)]
def wsX1_isDriverFit : List Cond := .code yX1_isDriverFit cX1_isDriverFit 5 (some .boolean) :: ((wsX1_isDriverFit_r1 ++ wsX1_isDriverFit_r2) ++ wsX10 ++ wsX00)
def wsX1_canBeOrdered_r1 : List Cond := [Cond.fieldLink RX1 114 "DepotLog$Run" "state" "I", Cond.fieldLink RX1 140 "DepotLog$Run" "start" "I", Cond.fieldLink RX1 35 "DepotLog" "minute" "I", Cond.methodLink RX1 143 yX1_isBusFit, Cond.instanceMethod yX1_isBusFit, Cond.selects RX1 yX1_isBusFit yX1_isBusFit, Cond.initialized RX1, Cond.code yX1_isBusFit cX1_isBusFit 4 (some .boolean), Cond.fieldLink RX1 19 "DepotLog" "broken" "[Z", Cond.fieldLink RX1 15 "DepotLog" "charges" "[I", Cond.fieldLink RX1 150 "DepotLog$Run" "need" "I", Cond.fieldLink RX1 39 "DepotLog" "runCount" "I", Cond.fieldLink RX1 11 "DepotLog" "rows" "[LDepotLog$Run;", Cond.methodLink RX1 123 yX1_promisedCharge, Cond.instanceMethod yX1_promisedCharge, Cond.selects RX1 yX1_promisedCharge yX1_promisedCharge, Cond.code yX1_promisedCharge cX1_promisedCharge 4 (some .int), Cond.fieldLink RX1 117 "DepotLog$Run" "bus" "I", Cond.methodLink RX1 153 yX0_holds, Cond.instanceMethod yX0_holds, Cond.selects RX0 yX0_holds yX0_holds, Cond.initialized RX0, Cond.code yX0_holds cX0_holds 2 (some .boolean), Cond.fieldLink RX0 15 "DepotLog$Run" "bus" "I"]
def wsX1_canBeOrdered_r2 : List Cond := [Cond.fieldLink RX0 9 "DepotLog$Run" "state" "I", Cond.methodLink RX1 156 yX0_meets, Cond.instanceMethod yX0_meets, Cond.selects RX0 yX0_meets yX0_meets, Cond.code yX0_meets cX0_meets 2 (some .boolean), Cond.fieldLink RX0 21 "DepotLog$Run" "start" "I", Cond.fieldLink RX0 24 "DepotLog$Run" "end" "I", Cond.methodLink RX1 147 yX1_isDriverFit, Cond.instanceMethod yX1_isDriverFit, Cond.selects RX1 yX1_isDriverFit yX1_isDriverFit, Cond.code yX1_isDriverFit cX1_isDriverFit 5 (some .boolean), Cond.fieldLink RX1 23 "DepotLog" "ill" "[Z", Cond.methodLink RX1 160 yX0_startDay, Cond.instanceMethod yX0_startDay, Cond.selects RX0 yX0_startDay yX0_startDay, Cond.code yX0_startDay cX0_startDay 1 (some .int), Cond.methodLink RX1 127 yX1_workedMinutes, Cond.instanceMethod yX1_workedMinutes, Cond.selects RX1 yX1_workedMinutes yX1_workedMinutes, Cond.code yX1_workedMinutes cX1_workedMinutes 5 (some .int), Cond.methodLink RX1 166 yX0_isWorkOf, Cond.instanceMethod yX0_isWorkOf, Cond.selects RX0 yX0_isWorkOf yX0_isWorkOf, Cond.code yX0_isWorkOf cX0_isWorkOf 3 (some .boolean)]
def wsX1_canBeOrdered_r3 : List Cond := [Cond.fieldLink RX0 18 "DepotLog$Run" "driver" "I", Cond.methodLink RX0 30 yX0_startDay, Cond.methodLink RX1 163 yX0_length, Cond.instanceMethod yX0_length, Cond.selects RX0 yX0_length yX0_length, Cond.code yX0_length cX0_length 1 (some .int), Cond.methodLink RX1 170 yX0_isRestedFrom, Cond.instanceMethod yX0_isRestedFrom, Cond.selects RX0 yX0_isRestedFrom yX0_isRestedFrom, Cond.code yX0_isRestedFrom cX0_isRestedFrom 2 (some .boolean)]
def wsX1_canBeOrdered : List Cond := .code yX1_canBeOrdered cX1_canBeOrdered 4 (some .boolean) :: ((wsX1_canBeOrdered_r1 ++ (wsX1_canBeOrdered_r2 ++ wsX1_canBeOrdered_r3)) ++ wsX00 ++ wsX10)
def wsX1_write : List Cond := .code yX1_write cX1_write 4 (some .int) :: ([.fieldLink RX1 42 "DepotLog" "orderCount" "I", .fieldLink RX1 29 "DepotLog" "log" "[I", .fieldLink RX1 32 "DepotLog" "numberOfMark" "[I"] ++ wsX10)
def wsX1_order_r1 : List Cond := [Cond.classLink RX1 56 "java/lang/IllegalStateException", Cond.initialized "java/lang/IllegalStateException", Cond.fieldLink RX1 39 "DepotLog" "runCount" "I", Cond.fieldLink RX1 32 "DepotLog" "numberOfMark" "[I", Cond.fieldLink RX1 11 "DepotLog" "rows" "[LDepotLog$Run;", Cond.methodLink RX1 66 yX1_requireIndex, Cond.static yX1_requireIndex, Cond.initialized RX1, Cond.code yX1_requireIndex cX1_requireIndex 2 none, Cond.classLink RX1 130 "java/lang/IndexOutOfBoundsException", Cond.initialized "java/lang/IndexOutOfBoundsException", Cond.methodLink RX1 52 yX1_requireRange, Cond.static yX1_requireRange, Cond.code yX1_requireRange cX1_requireRange 3 none, Cond.classLink RX1 135 "java/lang/IllegalArgumentException", Cond.initialized "java/lang/IllegalArgumentException", Cond.methodLink RX1 70 yX1_leader, Cond.instanceMethod yX1_leader, Cond.selects RX1 yX1_leader yX1_leader, Cond.code yX1_leader cX1_leader 1 (some .int), Cond.fieldLink RX1 35 "DepotLog" "minute" "I", Cond.fieldLink RX1 48 "DepotLog" "leaseEnd" "I", Cond.fieldLink RX1 45 "DepotLog" "holder" "I", Cond.methodLink RX1 74 yX1_canBeOrdered]
def wsX1_order_r2 : List Cond := [Cond.instanceMethod yX1_canBeOrdered, Cond.selects RX1 yX1_canBeOrdered yX1_canBeOrdered, Cond.code yX1_canBeOrdered cX1_canBeOrdered 4 (some .boolean), Cond.fieldLink RX1 114 "DepotLog$Run" "state" "I", Cond.fieldLink RX1 140 "DepotLog$Run" "start" "I", Cond.methodLink RX1 143 yX1_isBusFit, Cond.instanceMethod yX1_isBusFit, Cond.selects RX1 yX1_isBusFit yX1_isBusFit, Cond.code yX1_isBusFit cX1_isBusFit 4 (some .boolean), Cond.fieldLink RX1 19 "DepotLog" "broken" "[Z", Cond.fieldLink RX1 15 "DepotLog" "charges" "[I", Cond.fieldLink RX1 150 "DepotLog$Run" "need" "I", Cond.methodLink RX1 123 yX1_promisedCharge, Cond.instanceMethod yX1_promisedCharge, Cond.selects RX1 yX1_promisedCharge yX1_promisedCharge, Cond.code yX1_promisedCharge cX1_promisedCharge 4 (some .int), Cond.fieldLink RX1 117 "DepotLog$Run" "bus" "I", Cond.methodLink RX1 153 yX0_holds, Cond.instanceMethod yX0_holds, Cond.selects RX0 yX0_holds yX0_holds, Cond.initialized RX0, Cond.code yX0_holds cX0_holds 2 (some .boolean), Cond.fieldLink RX0 15 "DepotLog$Run" "bus" "I", Cond.fieldLink RX0 9 "DepotLog$Run" "state" "I"]
def wsX1_order_r3 : List Cond := [Cond.methodLink RX1 156 yX0_meets, Cond.instanceMethod yX0_meets, Cond.selects RX0 yX0_meets yX0_meets, Cond.code yX0_meets cX0_meets 2 (some .boolean), Cond.fieldLink RX0 21 "DepotLog$Run" "start" "I", Cond.fieldLink RX0 24 "DepotLog$Run" "end" "I", Cond.methodLink RX1 147 yX1_isDriverFit, Cond.instanceMethod yX1_isDriverFit, Cond.selects RX1 yX1_isDriverFit yX1_isDriverFit, Cond.code yX1_isDriverFit cX1_isDriverFit 5 (some .boolean), Cond.fieldLink RX1 23 "DepotLog" "ill" "[Z", Cond.methodLink RX1 160 yX0_startDay, Cond.instanceMethod yX0_startDay, Cond.selects RX0 yX0_startDay yX0_startDay, Cond.code yX0_startDay cX0_startDay 1 (some .int), Cond.methodLink RX1 127 yX1_workedMinutes, Cond.instanceMethod yX1_workedMinutes, Cond.selects RX1 yX1_workedMinutes yX1_workedMinutes, Cond.code yX1_workedMinutes cX1_workedMinutes 5 (some .int), Cond.methodLink RX1 166 yX0_isWorkOf, Cond.instanceMethod yX0_isWorkOf, Cond.selects RX0 yX0_isWorkOf yX0_isWorkOf, Cond.code yX0_isWorkOf cX0_isWorkOf 3 (some .boolean), Cond.fieldLink RX0 18 "DepotLog$Run" "driver" "I"]
def wsX1_order_r4 : List Cond := [Cond.methodLink RX0 30 yX0_startDay, Cond.methodLink RX1 163 yX0_length, Cond.instanceMethod yX0_length, Cond.selects RX0 yX0_length yX0_length, Cond.code yX0_length cX0_length 1 (some .int), Cond.methodLink RX1 170 yX0_isRestedFrom, Cond.instanceMethod yX0_isRestedFrom, Cond.selects RX0 yX0_isRestedFrom yX0_isRestedFrom, Cond.code yX0_isRestedFrom cX0_isRestedFrom 2 (some .boolean), Cond.methodLink RX1 80 yX0_give, Cond.instanceMethod yX0_give, Cond.selects RX0 yX0_give yX0_give, Cond.code yX0_give cX0_give 3 none, Cond.methodLink RX1 83 yX1_write, Cond.instanceMethod yX1_write, Cond.selects RX1 yX1_write yX1_write, Cond.code yX1_write cX1_write 4 (some .int), Cond.fieldLink RX1 42 "DepotLog" "orderCount" "I", Cond.fieldLink RX1 29 "DepotLog" "log" "[I"]
def wsX1_order : List Cond := .code yX1_order cX1_order 6 (some .int) :: ((wsX1_order_r1 ++ (wsX1_order_r2 ++ (wsX1_order_r3 ++ wsX1_order_r4))) ++ wsX10 ++ wsX00 ++ (vx_atS RX1 60 "java/lang/IllegalStateException" ["java/lang/RuntimeException", "java/lang/Exception"]).filter goodWord ++ (vx_atS RX1 134 "java/lang/IndexOutOfBoundsException" ["java/lang/RuntimeException", "java/lang/Exception"]).filter goodWord ++ (vx_atS RX1 139 "java/lang/IllegalArgumentException" ["java/lang/RuntimeException", "java/lang/Exception"]).filter goodWord)
def wsX1_unplug : List Cond := .code yX1_unplug cX1_unplug 3 none :: ([.fieldLink RX1 26 "DepotLog" "busAtCharger" "[I"] ++ wsX10)
def wsX1_takeOrdersFromBus : List Cond := .code yX1_takeOrdersFromBus cX1_takeOrdersFromBus 3 none :: ([.fieldLink RX1 39 "DepotLog" "runCount" "I", .fieldLink RX1 11 "DepotLog" "rows" "[LDepotLog$Run;", .fieldLink RX1 114 "DepotLog$Run" "state" "I", .fieldLink RX1 117 "DepotLog$Run" "bus" "I", .methodLink RX1 173 yX0_drop, .instanceMethod yX0_drop, .selects RX0 yX0_drop yX0_drop, .initialized RX0, .code yX0_drop cX0_drop 2 none, .fieldLink RX0 9 "DepotLog$Run" "state" "I", .fieldLink RX0 15 "DepotLog$Run" "bus" "I", .fieldLink RX0 18 "DepotLog$Run" "driver" "I"] ++ wsX10 ++ wsX00)
def wsX1_lowestFitBus_r1 : List Cond := [Cond.methodLink RX1 143 yX1_isBusFit, Cond.instanceMethod yX1_isBusFit, Cond.selects RX1 yX1_isBusFit yX1_isBusFit, Cond.initialized RX1, Cond.code yX1_isBusFit cX1_isBusFit 4 (some .boolean), Cond.fieldLink RX1 19 "DepotLog" "broken" "[Z", Cond.fieldLink RX1 15 "DepotLog" "charges" "[I", Cond.fieldLink RX1 150 "DepotLog$Run" "need" "I", Cond.fieldLink RX1 39 "DepotLog" "runCount" "I", Cond.fieldLink RX1 11 "DepotLog" "rows" "[LDepotLog$Run;", Cond.methodLink RX1 123 yX1_promisedCharge, Cond.instanceMethod yX1_promisedCharge, Cond.selects RX1 yX1_promisedCharge yX1_promisedCharge, Cond.code yX1_promisedCharge cX1_promisedCharge 4 (some .int), Cond.fieldLink RX1 117 "DepotLog$Run" "bus" "I", Cond.fieldLink RX1 114 "DepotLog$Run" "state" "I", Cond.methodLink RX1 153 yX0_holds, Cond.instanceMethod yX0_holds, Cond.selects RX0 yX0_holds yX0_holds, Cond.initialized RX0, Cond.code yX0_holds cX0_holds 2 (some .boolean), Cond.fieldLink RX0 15 "DepotLog$Run" "bus" "I", Cond.fieldLink RX0 9 "DepotLog$Run" "state" "I", Cond.methodLink RX1 156 yX0_meets]
def wsX1_lowestFitBus_r2 : List Cond := [Cond.instanceMethod yX0_meets, Cond.selects RX0 yX0_meets yX0_meets, Cond.code yX0_meets cX0_meets 2 (some .boolean), Cond.fieldLink RX0 21 "DepotLog$Run" "start" "I", Cond.fieldLink RX0 24 "DepotLog$Run" "end" "I"]
def wsX1_lowestFitBus : List Cond := .code yX1_lowestFitBus cX1_lowestFitBus 3 (some .int) :: ((wsX1_lowestFitBus_r1 ++ wsX1_lowestFitBus_r2) ++ wsX10 ++ wsX00)
def wsX1_sendOut : List Cond := .code yX1_sendOut cX1_sendOut 3 none :: ([.fieldLink RX1 15 "DepotLog" "charges" "[I", .methodLink RX1 87 yX1_unplug, .instanceMethod yX1_unplug, .selects RX1 yX1_unplug yX1_unplug, .initialized RX1, .code yX1_unplug cX1_unplug 3 none, .fieldLink RX1 26 "DepotLog" "busAtCharger" "[I"] ++ wsX10)
def wsX1_giveOtherBus_r1 : List Cond := [Cond.fieldLink RX1 117 "DepotLog$Run" "bus" "I", Cond.fieldLink RX1 150 "DepotLog$Run" "need" "I", Cond.methodLink RX1 180 yX1_lowestFitBus, Cond.instanceMethod yX1_lowestFitBus, Cond.selects RX1 yX1_lowestFitBus yX1_lowestFitBus, Cond.initialized RX1, Cond.code yX1_lowestFitBus cX1_lowestFitBus 3 (some .int), Cond.methodLink RX1 143 yX1_isBusFit, Cond.instanceMethod yX1_isBusFit, Cond.selects RX1 yX1_isBusFit yX1_isBusFit, Cond.code yX1_isBusFit cX1_isBusFit 4 (some .boolean), Cond.fieldLink RX1 19 "DepotLog" "broken" "[Z", Cond.fieldLink RX1 15 "DepotLog" "charges" "[I", Cond.fieldLink RX1 39 "DepotLog" "runCount" "I", Cond.fieldLink RX1 11 "DepotLog" "rows" "[LDepotLog$Run;", Cond.methodLink RX1 123 yX1_promisedCharge, Cond.instanceMethod yX1_promisedCharge, Cond.selects RX1 yX1_promisedCharge yX1_promisedCharge, Cond.code yX1_promisedCharge cX1_promisedCharge 4 (some .int), Cond.fieldLink RX1 114 "DepotLog$Run" "state" "I", Cond.methodLink RX1 153 yX0_holds, Cond.instanceMethod yX0_holds, Cond.selects RX0 yX0_holds yX0_holds, Cond.initialized RX0]
def wsX1_giveOtherBus_r2 : List Cond := [Cond.code yX0_holds cX0_holds 2 (some .boolean), Cond.fieldLink RX0 15 "DepotLog$Run" "bus" "I", Cond.fieldLink RX0 9 "DepotLog$Run" "state" "I", Cond.methodLink RX1 156 yX0_meets, Cond.instanceMethod yX0_meets, Cond.selects RX0 yX0_meets yX0_meets, Cond.code yX0_meets cX0_meets 2 (some .boolean), Cond.fieldLink RX0 21 "DepotLog$Run" "start" "I", Cond.fieldLink RX0 24 "DepotLog$Run" "end" "I", Cond.methodLink RX1 173 yX0_drop, Cond.instanceMethod yX0_drop, Cond.selects RX0 yX0_drop yX0_drop, Cond.code yX0_drop cX0_drop 2 none, Cond.fieldLink RX0 18 "DepotLog$Run" "driver" "I", Cond.methodLink RX1 184 yX1_sendOut, Cond.instanceMethod yX1_sendOut, Cond.selects RX1 yX1_sendOut yX1_sendOut, Cond.code yX1_sendOut cX1_sendOut 3 none, Cond.methodLink RX1 87 yX1_unplug, Cond.instanceMethod yX1_unplug, Cond.selects RX1 yX1_unplug yX1_unplug, Cond.code yX1_unplug cX1_unplug 3 none, Cond.fieldLink RX1 26 "DepotLog" "busAtCharger" "[I"]
def wsX1_giveOtherBus : List Cond := .code yX1_giveOtherBus cX1_giveOtherBus 3 none :: ((wsX1_giveOtherBus_r1 ++ wsX1_giveOtherBus_r2) ++ wsX00 ++ wsX10)
def wsX1_swapBus_r1 : List Cond := [Cond.fieldLink RX1 39 "DepotLog" "runCount" "I", Cond.fieldLink RX1 11 "DepotLog" "rows" "[LDepotLog$Run;", Cond.fieldLink RX1 114 "DepotLog$Run" "state" "I", Cond.fieldLink RX1 117 "DepotLog$Run" "bus" "I", Cond.methodLink RX1 176 yX1_giveOtherBus, Cond.instanceMethod yX1_giveOtherBus, Cond.selects RX1 yX1_giveOtherBus yX1_giveOtherBus, Cond.initialized RX1, Cond.code yX1_giveOtherBus cX1_giveOtherBus 3 none, Cond.fieldLink RX1 150 "DepotLog$Run" "need" "I", Cond.methodLink RX1 180 yX1_lowestFitBus, Cond.instanceMethod yX1_lowestFitBus, Cond.selects RX1 yX1_lowestFitBus yX1_lowestFitBus, Cond.code yX1_lowestFitBus cX1_lowestFitBus 3 (some .int), Cond.methodLink RX1 143 yX1_isBusFit, Cond.instanceMethod yX1_isBusFit, Cond.selects RX1 yX1_isBusFit yX1_isBusFit, Cond.code yX1_isBusFit cX1_isBusFit 4 (some .boolean), Cond.fieldLink RX1 19 "DepotLog" "broken" "[Z", Cond.fieldLink RX1 15 "DepotLog" "charges" "[I", Cond.methodLink RX1 123 yX1_promisedCharge, Cond.instanceMethod yX1_promisedCharge, Cond.selects RX1 yX1_promisedCharge yX1_promisedCharge, Cond.code yX1_promisedCharge cX1_promisedCharge 4 (some .int)]
def wsX1_swapBus_r2 : List Cond := [Cond.methodLink RX1 153 yX0_holds, Cond.instanceMethod yX0_holds, Cond.selects RX0 yX0_holds yX0_holds, Cond.initialized RX0, Cond.code yX0_holds cX0_holds 2 (some .boolean), Cond.fieldLink RX0 15 "DepotLog$Run" "bus" "I", Cond.fieldLink RX0 9 "DepotLog$Run" "state" "I", Cond.methodLink RX1 156 yX0_meets, Cond.instanceMethod yX0_meets, Cond.selects RX0 yX0_meets yX0_meets, Cond.code yX0_meets cX0_meets 2 (some .boolean), Cond.fieldLink RX0 21 "DepotLog$Run" "start" "I", Cond.fieldLink RX0 24 "DepotLog$Run" "end" "I", Cond.methodLink RX1 173 yX0_drop, Cond.instanceMethod yX0_drop, Cond.selects RX0 yX0_drop yX0_drop, Cond.code yX0_drop cX0_drop 2 none, Cond.fieldLink RX0 18 "DepotLog$Run" "driver" "I", Cond.methodLink RX1 184 yX1_sendOut, Cond.instanceMethod yX1_sendOut, Cond.selects RX1 yX1_sendOut yX1_sendOut, Cond.code yX1_sendOut cX1_sendOut 3 none, Cond.methodLink RX1 87 yX1_unplug, Cond.instanceMethod yX1_unplug]
def wsX1_swapBus_r3 : List Cond := [Cond.selects RX1 yX1_unplug yX1_unplug, Cond.code yX1_unplug cX1_unplug 3 none, Cond.fieldLink RX1 26 "DepotLog" "busAtCharger" "[I"]
def wsX1_swapBus : List Cond := .code yX1_swapBus cX1_swapBus 3 none :: ((wsX1_swapBus_r1 ++ (wsX1_swapBus_r2 ++ wsX1_swapBus_r3)) ++ wsX10 ++ wsX00)
def wsX1_breaks_r1 : List Cond := [Cond.fieldLink RX1 19 "DepotLog" "broken" "[Z", Cond.methodLink RX1 66 yX1_requireIndex, Cond.static yX1_requireIndex, Cond.initialized RX1, Cond.code yX1_requireIndex cX1_requireIndex 2 none, Cond.classLink RX1 130 "java/lang/IndexOutOfBoundsException", Cond.initialized "java/lang/IndexOutOfBoundsException", Cond.methodLink RX1 87 yX1_unplug, Cond.instanceMethod yX1_unplug, Cond.selects RX1 yX1_unplug yX1_unplug, Cond.code yX1_unplug cX1_unplug 3 none, Cond.fieldLink RX1 26 "DepotLog" "busAtCharger" "[I", Cond.methodLink RX1 91 yX1_takeOrdersFromBus, Cond.instanceMethod yX1_takeOrdersFromBus, Cond.selects RX1 yX1_takeOrdersFromBus yX1_takeOrdersFromBus, Cond.code yX1_takeOrdersFromBus cX1_takeOrdersFromBus 3 none, Cond.fieldLink RX1 39 "DepotLog" "runCount" "I", Cond.fieldLink RX1 11 "DepotLog" "rows" "[LDepotLog$Run;", Cond.fieldLink RX1 114 "DepotLog$Run" "state" "I", Cond.fieldLink RX1 117 "DepotLog$Run" "bus" "I", Cond.methodLink RX1 173 yX0_drop, Cond.instanceMethod yX0_drop, Cond.selects RX0 yX0_drop yX0_drop, Cond.initialized RX0]
def wsX1_breaks_r2 : List Cond := [Cond.code yX0_drop cX0_drop 2 none, Cond.fieldLink RX0 9 "DepotLog$Run" "state" "I", Cond.fieldLink RX0 15 "DepotLog$Run" "bus" "I", Cond.fieldLink RX0 18 "DepotLog$Run" "driver" "I", Cond.methodLink RX1 94 yX1_swapBus, Cond.instanceMethod yX1_swapBus, Cond.selects RX1 yX1_swapBus yX1_swapBus, Cond.code yX1_swapBus cX1_swapBus 3 none, Cond.methodLink RX1 176 yX1_giveOtherBus, Cond.instanceMethod yX1_giveOtherBus, Cond.selects RX1 yX1_giveOtherBus yX1_giveOtherBus, Cond.code yX1_giveOtherBus cX1_giveOtherBus 3 none, Cond.fieldLink RX1 150 "DepotLog$Run" "need" "I", Cond.methodLink RX1 180 yX1_lowestFitBus, Cond.instanceMethod yX1_lowestFitBus, Cond.selects RX1 yX1_lowestFitBus yX1_lowestFitBus, Cond.code yX1_lowestFitBus cX1_lowestFitBus 3 (some .int), Cond.methodLink RX1 143 yX1_isBusFit, Cond.instanceMethod yX1_isBusFit, Cond.selects RX1 yX1_isBusFit yX1_isBusFit, Cond.code yX1_isBusFit cX1_isBusFit 4 (some .boolean), Cond.fieldLink RX1 15 "DepotLog" "charges" "[I", Cond.methodLink RX1 123 yX1_promisedCharge, Cond.instanceMethod yX1_promisedCharge]
def wsX1_breaks_r3 : List Cond := [Cond.selects RX1 yX1_promisedCharge yX1_promisedCharge, Cond.code yX1_promisedCharge cX1_promisedCharge 4 (some .int), Cond.methodLink RX1 153 yX0_holds, Cond.instanceMethod yX0_holds, Cond.selects RX0 yX0_holds yX0_holds, Cond.code yX0_holds cX0_holds 2 (some .boolean), Cond.methodLink RX1 156 yX0_meets, Cond.instanceMethod yX0_meets, Cond.selects RX0 yX0_meets yX0_meets, Cond.code yX0_meets cX0_meets 2 (some .boolean), Cond.fieldLink RX0 21 "DepotLog$Run" "start" "I", Cond.fieldLink RX0 24 "DepotLog$Run" "end" "I", Cond.methodLink RX1 184 yX1_sendOut, Cond.instanceMethod yX1_sendOut, Cond.selects RX1 yX1_sendOut yX1_sendOut, Cond.code yX1_sendOut cX1_sendOut 3 none]
def wsX1_breaks : List Cond := .code yX1_breaks cX1_breaks 4 (some .boolean) :: ((wsX1_breaks_r1 ++ (wsX1_breaks_r2 ++ wsX1_breaks_r3)) ++ wsX10 ++ wsX00 ++ (vx_atS RX1 134 "java/lang/IndexOutOfBoundsException" ["java/lang/RuntimeException", "java/lang/Exception"]).filter goodWord)
def wsX1_takeOrdersFromDriver : List Cond := .code yX1_takeOrdersFromDriver cX1_takeOrdersFromDriver 3 none :: ([.fieldLink RX1 39 "DepotLog" "runCount" "I", .fieldLink RX1 11 "DepotLog" "rows" "[LDepotLog$Run;", .fieldLink RX1 114 "DepotLog$Run" "state" "I", .fieldLink RX1 120 "DepotLog$Run" "driver" "I", .methodLink RX1 173 yX0_drop, .instanceMethod yX0_drop, .selects RX0 yX0_drop yX0_drop, .initialized RX0, .code yX0_drop cX0_drop 2 none, .fieldLink RX0 9 "DepotLog$Run" "state" "I", .fieldLink RX0 15 "DepotLog$Run" "bus" "I", .fieldLink RX0 18 "DepotLog$Run" "driver" "I"] ++ wsX10 ++ wsX00)
def wsX1_lowestFitDriver_r1 : List Cond := [Cond.methodLink RX1 147 yX1_isDriverFit, Cond.instanceMethod yX1_isDriverFit, Cond.selects RX1 yX1_isDriverFit yX1_isDriverFit, Cond.initialized RX1, Cond.code yX1_isDriverFit cX1_isDriverFit 5 (some .boolean), Cond.fieldLink RX1 23 "DepotLog" "ill" "[Z", Cond.fieldLink RX1 39 "DepotLog" "runCount" "I", Cond.fieldLink RX1 11 "DepotLog" "rows" "[LDepotLog$Run;", Cond.methodLink RX1 160 yX0_startDay, Cond.instanceMethod yX0_startDay, Cond.selects RX0 yX0_startDay yX0_startDay, Cond.initialized RX0, Cond.code yX0_startDay cX0_startDay 1 (some .int), Cond.fieldLink RX0 21 "DepotLog$Run" "start" "I", Cond.methodLink RX1 127 yX1_workedMinutes, Cond.instanceMethod yX1_workedMinutes, Cond.selects RX1 yX1_workedMinutes yX1_workedMinutes, Cond.code yX1_workedMinutes cX1_workedMinutes 5 (some .int), Cond.methodLink RX1 166 yX0_isWorkOf, Cond.instanceMethod yX0_isWorkOf, Cond.selects RX0 yX0_isWorkOf yX0_isWorkOf, Cond.code yX0_isWorkOf cX0_isWorkOf 3 (some .boolean), Cond.fieldLink RX0 18 "DepotLog$Run" "driver" "I", Cond.methodLink RX0 30 yX0_startDay]
def wsX1_lowestFitDriver_r2 : List Cond := [Cond.methodLink RX1 163 yX0_length, Cond.instanceMethod yX0_length, Cond.selects RX0 yX0_length yX0_length, Cond.code yX0_length cX0_length 1 (some .int), Cond.fieldLink RX0 24 "DepotLog$Run" "end" "I", Cond.methodLink RX1 170 yX0_isRestedFrom, Cond.instanceMethod yX0_isRestedFrom, Cond.selects RX0 yX0_isRestedFrom yX0_isRestedFrom, Cond.code yX0_isRestedFrom cX0_isRestedFrom 2 (some .boolean)]
def wsX1_lowestFitDriver : List Cond := .code yX1_lowestFitDriver cX1_lowestFitDriver 3 (some .int) :: ((wsX1_lowestFitDriver_r1 ++ wsX1_lowestFitDriver_r2) ++ wsX10 ++ wsX00)
def wsX1_giveOtherDriver_r1 : List Cond := [Cond.fieldLink RX1 120 "DepotLog$Run" "driver" "I", Cond.methodLink RX1 190 yX1_lowestFitDriver, Cond.instanceMethod yX1_lowestFitDriver, Cond.selects RX1 yX1_lowestFitDriver yX1_lowestFitDriver, Cond.initialized RX1, Cond.code yX1_lowestFitDriver cX1_lowestFitDriver 3 (some .int), Cond.methodLink RX1 147 yX1_isDriverFit, Cond.instanceMethod yX1_isDriverFit, Cond.selects RX1 yX1_isDriverFit yX1_isDriverFit, Cond.code yX1_isDriverFit cX1_isDriverFit 5 (some .boolean), Cond.fieldLink RX1 23 "DepotLog" "ill" "[Z", Cond.fieldLink RX1 39 "DepotLog" "runCount" "I", Cond.fieldLink RX1 11 "DepotLog" "rows" "[LDepotLog$Run;", Cond.methodLink RX1 160 yX0_startDay, Cond.instanceMethod yX0_startDay, Cond.selects RX0 yX0_startDay yX0_startDay, Cond.initialized RX0, Cond.code yX0_startDay cX0_startDay 1 (some .int), Cond.fieldLink RX0 21 "DepotLog$Run" "start" "I", Cond.methodLink RX1 127 yX1_workedMinutes, Cond.instanceMethod yX1_workedMinutes, Cond.selects RX1 yX1_workedMinutes yX1_workedMinutes, Cond.code yX1_workedMinutes cX1_workedMinutes 5 (some .int), Cond.methodLink RX1 166 yX0_isWorkOf]
def wsX1_giveOtherDriver_r2 : List Cond := [Cond.instanceMethod yX0_isWorkOf, Cond.selects RX0 yX0_isWorkOf yX0_isWorkOf, Cond.code yX0_isWorkOf cX0_isWorkOf 3 (some .boolean), Cond.fieldLink RX0 18 "DepotLog$Run" "driver" "I", Cond.methodLink RX0 30 yX0_startDay, Cond.methodLink RX1 163 yX0_length, Cond.instanceMethod yX0_length, Cond.selects RX0 yX0_length yX0_length, Cond.code yX0_length cX0_length 1 (some .int), Cond.fieldLink RX0 24 "DepotLog$Run" "end" "I", Cond.methodLink RX1 170 yX0_isRestedFrom, Cond.instanceMethod yX0_isRestedFrom, Cond.selects RX0 yX0_isRestedFrom yX0_isRestedFrom, Cond.code yX0_isRestedFrom cX0_isRestedFrom 2 (some .boolean), Cond.methodLink RX1 173 yX0_drop, Cond.instanceMethod yX0_drop, Cond.selects RX0 yX0_drop yX0_drop, Cond.code yX0_drop cX0_drop 2 none, Cond.fieldLink RX0 9 "DepotLog$Run" "state" "I", Cond.fieldLink RX0 15 "DepotLog$Run" "bus" "I"]
def wsX1_giveOtherDriver : List Cond := .code yX1_giveOtherDriver cX1_giveOtherDriver 3 none :: ((wsX1_giveOtherDriver_r1 ++ wsX1_giveOtherDriver_r2) ++ wsX00 ++ wsX10)
def wsX1_swapDriver_r1 : List Cond := [Cond.fieldLink RX1 39 "DepotLog" "runCount" "I", Cond.fieldLink RX1 11 "DepotLog" "rows" "[LDepotLog$Run;", Cond.fieldLink RX1 114 "DepotLog$Run" "state" "I", Cond.fieldLink RX1 120 "DepotLog$Run" "driver" "I", Cond.methodLink RX1 187 yX1_giveOtherDriver, Cond.instanceMethod yX1_giveOtherDriver, Cond.selects RX1 yX1_giveOtherDriver yX1_giveOtherDriver, Cond.initialized RX1, Cond.code yX1_giveOtherDriver cX1_giveOtherDriver 3 none, Cond.methodLink RX1 190 yX1_lowestFitDriver, Cond.instanceMethod yX1_lowestFitDriver, Cond.selects RX1 yX1_lowestFitDriver yX1_lowestFitDriver, Cond.code yX1_lowestFitDriver cX1_lowestFitDriver 3 (some .int), Cond.methodLink RX1 147 yX1_isDriverFit, Cond.instanceMethod yX1_isDriverFit, Cond.selects RX1 yX1_isDriverFit yX1_isDriverFit, Cond.code yX1_isDriverFit cX1_isDriverFit 5 (some .boolean), Cond.fieldLink RX1 23 "DepotLog" "ill" "[Z", Cond.methodLink RX1 160 yX0_startDay, Cond.instanceMethod yX0_startDay, Cond.selects RX0 yX0_startDay yX0_startDay, Cond.initialized RX0, Cond.code yX0_startDay cX0_startDay 1 (some .int), Cond.fieldLink RX0 21 "DepotLog$Run" "start" "I"]
def wsX1_swapDriver_r2 : List Cond := [Cond.methodLink RX1 127 yX1_workedMinutes, Cond.instanceMethod yX1_workedMinutes, Cond.selects RX1 yX1_workedMinutes yX1_workedMinutes, Cond.code yX1_workedMinutes cX1_workedMinutes 5 (some .int), Cond.methodLink RX1 166 yX0_isWorkOf, Cond.instanceMethod yX0_isWorkOf, Cond.selects RX0 yX0_isWorkOf yX0_isWorkOf, Cond.code yX0_isWorkOf cX0_isWorkOf 3 (some .boolean), Cond.fieldLink RX0 18 "DepotLog$Run" "driver" "I", Cond.methodLink RX0 30 yX0_startDay, Cond.methodLink RX1 163 yX0_length, Cond.instanceMethod yX0_length, Cond.selects RX0 yX0_length yX0_length, Cond.code yX0_length cX0_length 1 (some .int), Cond.fieldLink RX0 24 "DepotLog$Run" "end" "I", Cond.methodLink RX1 170 yX0_isRestedFrom, Cond.instanceMethod yX0_isRestedFrom, Cond.selects RX0 yX0_isRestedFrom yX0_isRestedFrom, Cond.code yX0_isRestedFrom cX0_isRestedFrom 2 (some .boolean), Cond.methodLink RX1 173 yX0_drop, Cond.instanceMethod yX0_drop, Cond.selects RX0 yX0_drop yX0_drop, Cond.code yX0_drop cX0_drop 2 none, Cond.fieldLink RX0 9 "DepotLog$Run" "state" "I"]
def wsX1_swapDriver_r3 : List Cond := [Cond.fieldLink RX0 15 "DepotLog$Run" "bus" "I"]
def wsX1_swapDriver : List Cond := .code yX1_swapDriver cX1_swapDriver 3 none :: ((wsX1_swapDriver_r1 ++ (wsX1_swapDriver_r2 ++ wsX1_swapDriver_r3)) ++ wsX10 ++ wsX00)
def wsX1_ails_r1 : List Cond := [Cond.fieldLink RX1 23 "DepotLog" "ill" "[Z", Cond.methodLink RX1 66 yX1_requireIndex, Cond.static yX1_requireIndex, Cond.initialized RX1, Cond.code yX1_requireIndex cX1_requireIndex 2 none, Cond.classLink RX1 130 "java/lang/IndexOutOfBoundsException", Cond.initialized "java/lang/IndexOutOfBoundsException", Cond.methodLink RX1 97 yX1_takeOrdersFromDriver, Cond.instanceMethod yX1_takeOrdersFromDriver, Cond.selects RX1 yX1_takeOrdersFromDriver yX1_takeOrdersFromDriver, Cond.code yX1_takeOrdersFromDriver cX1_takeOrdersFromDriver 3 none, Cond.fieldLink RX1 39 "DepotLog" "runCount" "I", Cond.fieldLink RX1 11 "DepotLog" "rows" "[LDepotLog$Run;", Cond.fieldLink RX1 114 "DepotLog$Run" "state" "I", Cond.fieldLink RX1 120 "DepotLog$Run" "driver" "I", Cond.methodLink RX1 173 yX0_drop, Cond.instanceMethod yX0_drop, Cond.selects RX0 yX0_drop yX0_drop, Cond.initialized RX0, Cond.code yX0_drop cX0_drop 2 none, Cond.fieldLink RX0 9 "DepotLog$Run" "state" "I", Cond.fieldLink RX0 15 "DepotLog$Run" "bus" "I", Cond.fieldLink RX0 18 "DepotLog$Run" "driver" "I", Cond.methodLink RX1 100 yX1_swapDriver]
def wsX1_ails_r2 : List Cond := [Cond.instanceMethod yX1_swapDriver, Cond.selects RX1 yX1_swapDriver yX1_swapDriver, Cond.code yX1_swapDriver cX1_swapDriver 3 none, Cond.methodLink RX1 187 yX1_giveOtherDriver, Cond.instanceMethod yX1_giveOtherDriver, Cond.selects RX1 yX1_giveOtherDriver yX1_giveOtherDriver, Cond.code yX1_giveOtherDriver cX1_giveOtherDriver 3 none, Cond.methodLink RX1 190 yX1_lowestFitDriver, Cond.instanceMethod yX1_lowestFitDriver, Cond.selects RX1 yX1_lowestFitDriver yX1_lowestFitDriver, Cond.code yX1_lowestFitDriver cX1_lowestFitDriver 3 (some .int), Cond.methodLink RX1 147 yX1_isDriverFit, Cond.instanceMethod yX1_isDriverFit, Cond.selects RX1 yX1_isDriverFit yX1_isDriverFit, Cond.code yX1_isDriverFit cX1_isDriverFit 5 (some .boolean), Cond.methodLink RX1 160 yX0_startDay, Cond.instanceMethod yX0_startDay, Cond.selects RX0 yX0_startDay yX0_startDay, Cond.code yX0_startDay cX0_startDay 1 (some .int), Cond.fieldLink RX0 21 "DepotLog$Run" "start" "I", Cond.methodLink RX1 127 yX1_workedMinutes, Cond.instanceMethod yX1_workedMinutes, Cond.selects RX1 yX1_workedMinutes yX1_workedMinutes, Cond.code yX1_workedMinutes cX1_workedMinutes 5 (some .int)]
def wsX1_ails_r3 : List Cond := [Cond.methodLink RX1 166 yX0_isWorkOf, Cond.instanceMethod yX0_isWorkOf, Cond.selects RX0 yX0_isWorkOf yX0_isWorkOf, Cond.code yX0_isWorkOf cX0_isWorkOf 3 (some .boolean), Cond.methodLink RX0 30 yX0_startDay, Cond.methodLink RX1 163 yX0_length, Cond.instanceMethod yX0_length, Cond.selects RX0 yX0_length yX0_length, Cond.code yX0_length cX0_length 1 (some .int), Cond.fieldLink RX0 24 "DepotLog$Run" "end" "I", Cond.methodLink RX1 170 yX0_isRestedFrom, Cond.instanceMethod yX0_isRestedFrom, Cond.selects RX0 yX0_isRestedFrom yX0_isRestedFrom, Cond.code yX0_isRestedFrom cX0_isRestedFrom 2 (some .boolean)]
def wsX1_ails : List Cond := .code yX1_ails cX1_ails 4 (some .boolean) :: ((wsX1_ails_r1 ++ (wsX1_ails_r2 ++ wsX1_ails_r3)) ++ wsX10 ++ wsX00 ++ (vx_atS RX1 134 "java/lang/IndexOutOfBoundsException" ["java/lang/RuntimeException", "java/lang/Exception"]).filter goodWord)
def wsX1_isUnderWay : List Cond := .code yX1_isUnderWay cX1_isUnderWay 3 (some .boolean) :: ([.fieldLink RX1 39 "DepotLog" "runCount" "I", .fieldLink RX1 11 "DepotLog" "rows" "[LDepotLog$Run;", .fieldLink RX1 114 "DepotLog$Run" "state" "I", .fieldLink RX1 117 "DepotLog$Run" "bus" "I"] ++ wsX10 ++ wsX00)
def wsX1_plug : List Cond := .code yX1_plug cX1_plug 4 (some .int) :: ([.classLink RX1 56 "java/lang/IllegalStateException", .initialized "java/lang/IllegalStateException", .fieldLink RX1 26 "DepotLog" "busAtCharger" "[I", .methodLink RX1 66 yX1_requireIndex, .static yX1_requireIndex, .initialized RX1, .code yX1_requireIndex cX1_requireIndex 2 none, .classLink RX1 130 "java/lang/IndexOutOfBoundsException", .initialized "java/lang/IndexOutOfBoundsException", .methodLink RX1 103 yX1_isUnderWay, .instanceMethod yX1_isUnderWay, .selects RX1 yX1_isUnderWay yX1_isUnderWay, .code yX1_isUnderWay cX1_isUnderWay 3 (some .boolean), .fieldLink RX1 39 "DepotLog" "runCount" "I", .fieldLink RX1 11 "DepotLog" "rows" "[LDepotLog$Run;", .fieldLink RX1 114 "DepotLog$Run" "state" "I", .fieldLink RX1 117 "DepotLog$Run" "bus" "I", .methodLink RX1 87 yX1_unplug, .instanceMethod yX1_unplug, .selects RX1 yX1_unplug yX1_unplug, .code yX1_unplug cX1_unplug 3 none] ++ wsX10 ++ wsX00 ++ (vx_atS RX1 60 "java/lang/IllegalStateException" ["java/lang/RuntimeException", "java/lang/Exception"]).filter goodWord ++ (vx_atS RX1 134 "java/lang/IndexOutOfBoundsException" ["java/lang/RuntimeException", "java/lang/Exception"]).filter goodWord)
def wsX1_loadAtChargers : List Cond := .code yX1_loadAtChargers cX1_loadAtChargers 3 none :: ([.fieldLink RX1 26 "DepotLog" "busAtCharger" "[I", .fieldLink RX1 15 "DepotLog" "charges" "[I"] ++ wsX10)
def wsX1_endRuns : List Cond := .code yX1_endRuns cX1_endRuns 2 none :: ([.fieldLink RX1 39 "DepotLog" "runCount" "I", .fieldLink RX1 11 "DepotLog" "rows" "[LDepotLog$Run;", .fieldLink RX1 114 "DepotLog$Run" "state" "I", .fieldLink RX1 202 "DepotLog$Run" "end" "I", .fieldLink RX1 35 "DepotLog" "minute" "I"] ++ wsX10 ++ wsX00)
def wsX1_startRun : List Cond := .code yX1_startRun cX1_startRun 2 none :: ([.fieldLink RX1 114 "DepotLog$Run" "state" "I", .fieldLink RX1 117 "DepotLog$Run" "bus" "I", .fieldLink RX1 150 "DepotLog$Run" "need" "I", .methodLink RX1 184 yX1_sendOut, .instanceMethod yX1_sendOut, .selects RX1 yX1_sendOut yX1_sendOut, .initialized RX1, .code yX1_sendOut cX1_sendOut 3 none, .fieldLink RX1 15 "DepotLog" "charges" "[I", .methodLink RX1 87 yX1_unplug, .instanceMethod yX1_unplug, .selects RX1 yX1_unplug yX1_unplug, .code yX1_unplug cX1_unplug 3 none, .fieldLink RX1 26 "DepotLog" "busAtCharger" "[I", .methodLink RX1 173 yX0_drop, .instanceMethod yX0_drop, .selects RX0 yX0_drop yX0_drop, .initialized RX0, .code yX0_drop cX0_drop 2 none, .fieldLink RX0 9 "DepotLog$Run" "state" "I", .fieldLink RX0 15 "DepotLog$Run" "bus" "I", .fieldLink RX0 18 "DepotLog$Run" "driver" "I"] ++ wsX00 ++ wsX10)
def wsX1_startRuns_r1 : List Cond := [Cond.fieldLink RX1 39 "DepotLog" "runCount" "I", Cond.fieldLink RX1 11 "DepotLog" "rows" "[LDepotLog$Run;", Cond.fieldLink RX1 140 "DepotLog$Run" "start" "I", Cond.fieldLink RX1 35 "DepotLog" "minute" "I", Cond.methodLink RX1 205 yX1_startRun, Cond.instanceMethod yX1_startRun, Cond.selects RX1 yX1_startRun yX1_startRun, Cond.initialized RX1, Cond.code yX1_startRun cX1_startRun 2 none, Cond.fieldLink RX1 114 "DepotLog$Run" "state" "I", Cond.fieldLink RX1 117 "DepotLog$Run" "bus" "I", Cond.fieldLink RX1 150 "DepotLog$Run" "need" "I", Cond.methodLink RX1 184 yX1_sendOut, Cond.instanceMethod yX1_sendOut, Cond.selects RX1 yX1_sendOut yX1_sendOut, Cond.code yX1_sendOut cX1_sendOut 3 none, Cond.fieldLink RX1 15 "DepotLog" "charges" "[I", Cond.methodLink RX1 87 yX1_unplug, Cond.instanceMethod yX1_unplug, Cond.selects RX1 yX1_unplug yX1_unplug, Cond.code yX1_unplug cX1_unplug 3 none, Cond.fieldLink RX1 26 "DepotLog" "busAtCharger" "[I", Cond.methodLink RX1 173 yX0_drop, Cond.instanceMethod yX0_drop]
def wsX1_startRuns_r2 : List Cond := [Cond.selects RX0 yX0_drop yX0_drop, Cond.initialized RX0, Cond.code yX0_drop cX0_drop 2 none, Cond.fieldLink RX0 9 "DepotLog$Run" "state" "I", Cond.fieldLink RX0 15 "DepotLog$Run" "bus" "I", Cond.fieldLink RX0 18 "DepotLog$Run" "driver" "I"]
def wsX1_startRuns : List Cond := .code yX1_startRuns cX1_startRuns 2 none :: ((wsX1_startRuns_r1 ++ wsX1_startRuns_r2) ++ wsX10 ++ wsX00)
def wsX1_passMinute_r1 : List Cond := [Cond.fieldLink RX1 35 "DepotLog" "minute" "I", Cond.methodLink RX1 193 yX1_loadAtChargers, Cond.instanceMethod yX1_loadAtChargers, Cond.selects RX1 yX1_loadAtChargers yX1_loadAtChargers, Cond.initialized RX1, Cond.code yX1_loadAtChargers cX1_loadAtChargers 3 none, Cond.fieldLink RX1 26 "DepotLog" "busAtCharger" "[I", Cond.fieldLink RX1 15 "DepotLog" "charges" "[I", Cond.methodLink RX1 196 yX1_endRuns, Cond.instanceMethod yX1_endRuns, Cond.selects RX1 yX1_endRuns yX1_endRuns, Cond.code yX1_endRuns cX1_endRuns 2 none, Cond.fieldLink RX1 39 "DepotLog" "runCount" "I", Cond.fieldLink RX1 11 "DepotLog" "rows" "[LDepotLog$Run;", Cond.fieldLink RX1 114 "DepotLog$Run" "state" "I", Cond.fieldLink RX1 202 "DepotLog$Run" "end" "I", Cond.methodLink RX1 199 yX1_startRuns, Cond.instanceMethod yX1_startRuns, Cond.selects RX1 yX1_startRuns yX1_startRuns, Cond.code yX1_startRuns cX1_startRuns 2 none, Cond.fieldLink RX1 140 "DepotLog$Run" "start" "I", Cond.methodLink RX1 205 yX1_startRun, Cond.instanceMethod yX1_startRun, Cond.selects RX1 yX1_startRun yX1_startRun]
def wsX1_passMinute_r2 : List Cond := [Cond.code yX1_startRun cX1_startRun 2 none, Cond.fieldLink RX1 117 "DepotLog$Run" "bus" "I", Cond.fieldLink RX1 150 "DepotLog$Run" "need" "I", Cond.methodLink RX1 184 yX1_sendOut, Cond.instanceMethod yX1_sendOut, Cond.selects RX1 yX1_sendOut yX1_sendOut, Cond.code yX1_sendOut cX1_sendOut 3 none, Cond.methodLink RX1 87 yX1_unplug, Cond.instanceMethod yX1_unplug, Cond.selects RX1 yX1_unplug yX1_unplug, Cond.code yX1_unplug cX1_unplug 3 none, Cond.methodLink RX1 173 yX0_drop, Cond.instanceMethod yX0_drop, Cond.selects RX0 yX0_drop yX0_drop, Cond.initialized RX0, Cond.code yX0_drop cX0_drop 2 none, Cond.fieldLink RX0 9 "DepotLog$Run" "state" "I", Cond.fieldLink RX0 15 "DepotLog$Run" "bus" "I", Cond.fieldLink RX0 18 "DepotLog$Run" "driver" "I"]
def wsX1_passMinute : List Cond := .code yX1_passMinute cX1_passMinute 1 none :: ((wsX1_passMinute_r1 ++ wsX1_passMinute_r2) ++ wsX10 ++ wsX00)
def wsX1_advance_r1 : List Cond := [Cond.classLink RX1 56 "java/lang/IllegalStateException", Cond.initialized "java/lang/IllegalStateException", Cond.fieldLink RX1 35 "DepotLog" "minute" "I", Cond.methodLink RX1 52 yX1_requireRange, Cond.static yX1_requireRange, Cond.initialized RX1, Cond.code yX1_requireRange cX1_requireRange 3 none, Cond.classLink RX1 135 "java/lang/IllegalArgumentException", Cond.initialized "java/lang/IllegalArgumentException", Cond.methodLink RX1 111 yX1_passMinute, Cond.instanceMethod yX1_passMinute, Cond.selects RX1 yX1_passMinute yX1_passMinute, Cond.code yX1_passMinute cX1_passMinute 1 none, Cond.methodLink RX1 193 yX1_loadAtChargers, Cond.instanceMethod yX1_loadAtChargers, Cond.selects RX1 yX1_loadAtChargers yX1_loadAtChargers, Cond.code yX1_loadAtChargers cX1_loadAtChargers 3 none, Cond.fieldLink RX1 26 "DepotLog" "busAtCharger" "[I", Cond.fieldLink RX1 15 "DepotLog" "charges" "[I", Cond.methodLink RX1 196 yX1_endRuns, Cond.instanceMethod yX1_endRuns, Cond.selects RX1 yX1_endRuns yX1_endRuns, Cond.code yX1_endRuns cX1_endRuns 2 none, Cond.fieldLink RX1 39 "DepotLog" "runCount" "I"]
def wsX1_advance_r2 : List Cond := [Cond.fieldLink RX1 11 "DepotLog" "rows" "[LDepotLog$Run;", Cond.fieldLink RX1 114 "DepotLog$Run" "state" "I", Cond.fieldLink RX1 202 "DepotLog$Run" "end" "I", Cond.methodLink RX1 199 yX1_startRuns, Cond.instanceMethod yX1_startRuns, Cond.selects RX1 yX1_startRuns yX1_startRuns, Cond.code yX1_startRuns cX1_startRuns 2 none, Cond.fieldLink RX1 140 "DepotLog$Run" "start" "I", Cond.methodLink RX1 205 yX1_startRun, Cond.instanceMethod yX1_startRun, Cond.selects RX1 yX1_startRun yX1_startRun, Cond.code yX1_startRun cX1_startRun 2 none, Cond.fieldLink RX1 117 "DepotLog$Run" "bus" "I", Cond.fieldLink RX1 150 "DepotLog$Run" "need" "I", Cond.methodLink RX1 184 yX1_sendOut, Cond.instanceMethod yX1_sendOut, Cond.selects RX1 yX1_sendOut yX1_sendOut, Cond.code yX1_sendOut cX1_sendOut 3 none, Cond.methodLink RX1 87 yX1_unplug, Cond.instanceMethod yX1_unplug, Cond.selects RX1 yX1_unplug yX1_unplug, Cond.code yX1_unplug cX1_unplug 3 none, Cond.methodLink RX1 173 yX0_drop, Cond.instanceMethod yX0_drop]
def wsX1_advance_r3 : List Cond := [Cond.selects RX0 yX0_drop yX0_drop, Cond.initialized RX0, Cond.code yX0_drop cX0_drop 2 none, Cond.fieldLink RX0 9 "DepotLog$Run" "state" "I", Cond.fieldLink RX0 15 "DepotLog$Run" "bus" "I", Cond.fieldLink RX0 18 "DepotLog$Run" "driver" "I"]
def wsX1_advance : List Cond := .code yX1_advance cX1_advance 3 (some .int) :: ((wsX1_advance_r1 ++ (wsX1_advance_r2 ++ wsX1_advance_r3)) ++ wsX10 ++ wsX00 ++ (vx_atS RX1 60 "java/lang/IllegalStateException" ["java/lang/RuntimeException", "java/lang/Exception"]).filter goodWord ++ (vx_atS RX1 139 "java/lang/IllegalArgumentException" ["java/lang/RuntimeException", "java/lang/Exception"]).filter goodWord)
def wsX1_minute : List Cond := .code yX1_minute cX1_minute 1 (some .int) :: ([.fieldLink RX1 35 "DepotLog" "minute" "I"] ++ wsX10)
def wsX1_runs : List Cond := .code yX1_runs cX1_runs 1 (some .int) :: ([.fieldLink RX1 39 "DepotLog" "runCount" "I"] ++ wsX10)
def wsX1_orders : List Cond := .code yX1_orders cX1_orders 1 (some .int) :: ([.fieldLink RX1 42 "DepotLog" "orderCount" "I"] ++ wsX10)
def wsX1_orderAt : List Cond := .code yX1_orderAt cX1_orderAt 2 (some .int) :: ([.fieldLink RX1 42 "DepotLog" "orderCount" "I", .fieldLink RX1 29 "DepotLog" "log" "[I", .methodLink RX1 66 yX1_requireIndex, .static yX1_requireIndex, .initialized RX1, .code yX1_requireIndex cX1_requireIndex 2 none, .classLink RX1 130 "java/lang/IndexOutOfBoundsException", .initialized "java/lang/IndexOutOfBoundsException"] ++ wsX10 ++ (vx_atS RX1 134 "java/lang/IndexOutOfBoundsException" ["java/lang/RuntimeException", "java/lang/Exception"]).filter goodWord)
def wsX1_stateOf : List Cond := .code yX1_stateOf cX1_stateOf 2 (some .int) :: ([.fieldLink RX1 39 "DepotLog" "runCount" "I", .fieldLink RX1 11 "DepotLog" "rows" "[LDepotLog$Run;", .fieldLink RX1 114 "DepotLog$Run" "state" "I", .methodLink RX1 66 yX1_requireIndex, .static yX1_requireIndex, .initialized RX1, .code yX1_requireIndex cX1_requireIndex 2 none, .classLink RX1 130 "java/lang/IndexOutOfBoundsException", .initialized "java/lang/IndexOutOfBoundsException"] ++ wsX10 ++ wsX00 ++ (vx_atS RX1 134 "java/lang/IndexOutOfBoundsException" ["java/lang/RuntimeException", "java/lang/Exception"]).filter goodWord)
def wsX1_busOf : List Cond := .code yX1_busOf cX1_busOf 2 (some .int) :: ([.fieldLink RX1 39 "DepotLog" "runCount" "I", .fieldLink RX1 11 "DepotLog" "rows" "[LDepotLog$Run;", .fieldLink RX1 117 "DepotLog$Run" "bus" "I", .methodLink RX1 66 yX1_requireIndex, .static yX1_requireIndex, .initialized RX1, .code yX1_requireIndex cX1_requireIndex 2 none, .classLink RX1 130 "java/lang/IndexOutOfBoundsException", .initialized "java/lang/IndexOutOfBoundsException"] ++ wsX10 ++ wsX00 ++ (vx_atS RX1 134 "java/lang/IndexOutOfBoundsException" ["java/lang/RuntimeException", "java/lang/Exception"]).filter goodWord)
def wsX1_driverOf : List Cond := .code yX1_driverOf cX1_driverOf 2 (some .int) :: ([.fieldLink RX1 39 "DepotLog" "runCount" "I", .fieldLink RX1 11 "DepotLog" "rows" "[LDepotLog$Run;", .fieldLink RX1 120 "DepotLog$Run" "driver" "I", .methodLink RX1 66 yX1_requireIndex, .static yX1_requireIndex, .initialized RX1, .code yX1_requireIndex cX1_requireIndex 2 none, .classLink RX1 130 "java/lang/IndexOutOfBoundsException", .initialized "java/lang/IndexOutOfBoundsException"] ++ wsX10 ++ wsX00 ++ (vx_atS RX1 134 "java/lang/IndexOutOfBoundsException" ["java/lang/RuntimeException", "java/lang/Exception"]).filter goodWord)
def wsX1_charge : List Cond := .code yX1_charge cX1_charge 2 (some .int) :: ([.fieldLink RX1 15 "DepotLog" "charges" "[I", .methodLink RX1 66 yX1_requireIndex, .static yX1_requireIndex, .initialized RX1, .code yX1_requireIndex cX1_requireIndex 2 none, .classLink RX1 130 "java/lang/IndexOutOfBoundsException", .initialized "java/lang/IndexOutOfBoundsException"] ++ wsX10 ++ (vx_atS RX1 134 "java/lang/IndexOutOfBoundsException" ["java/lang/RuntimeException", "java/lang/Exception"]).filter goodWord)
def wsX1_promised : List Cond := .code yX1_promised cX1_promised 2 (some .int) :: ([.methodLink RX1 66 yX1_requireIndex, .static yX1_requireIndex, .initialized RX1, .code yX1_requireIndex cX1_requireIndex 2 none, .classLink RX1 130 "java/lang/IndexOutOfBoundsException", .initialized "java/lang/IndexOutOfBoundsException", .methodLink RX1 123 yX1_promisedCharge, .instanceMethod yX1_promisedCharge, .selects RX1 yX1_promisedCharge yX1_promisedCharge, .code yX1_promisedCharge cX1_promisedCharge 4 (some .int), .fieldLink RX1 39 "DepotLog" "runCount" "I", .fieldLink RX1 11 "DepotLog" "rows" "[LDepotLog$Run;", .fieldLink RX1 117 "DepotLog$Run" "bus" "I", .fieldLink RX1 114 "DepotLog$Run" "state" "I", .fieldLink RX1 150 "DepotLog$Run" "need" "I"] ++ wsX10 ++ wsX00 ++ (vx_atS RX1 134 "java/lang/IndexOutOfBoundsException" ["java/lang/RuntimeException", "java/lang/Exception"]).filter goodWord)
def wsX1_minutesOf_r1 : List Cond := [Cond.methodLink RX1 66 yX1_requireIndex, Cond.static yX1_requireIndex, Cond.initialized RX1, Cond.code yX1_requireIndex cX1_requireIndex 2 none, Cond.classLink RX1 130 "java/lang/IndexOutOfBoundsException", Cond.initialized "java/lang/IndexOutOfBoundsException", Cond.methodLink RX1 127 yX1_workedMinutes, Cond.instanceMethod yX1_workedMinutes, Cond.selects RX1 yX1_workedMinutes yX1_workedMinutes, Cond.code yX1_workedMinutes cX1_workedMinutes 5 (some .int), Cond.fieldLink RX1 39 "DepotLog" "runCount" "I", Cond.fieldLink RX1 11 "DepotLog" "rows" "[LDepotLog$Run;", Cond.methodLink RX1 166 yX0_isWorkOf, Cond.instanceMethod yX0_isWorkOf, Cond.selects RX0 yX0_isWorkOf yX0_isWorkOf, Cond.initialized RX0, Cond.code yX0_isWorkOf cX0_isWorkOf 3 (some .boolean), Cond.fieldLink RX0 18 "DepotLog$Run" "driver" "I", Cond.methodLink RX0 30 yX0_startDay, Cond.instanceMethod yX0_startDay, Cond.selects RX0 yX0_startDay yX0_startDay, Cond.code yX0_startDay cX0_startDay 1 (some .int), Cond.fieldLink RX0 21 "DepotLog$Run" "start" "I", Cond.methodLink RX1 163 yX0_length]
def wsX1_minutesOf_r2 : List Cond := [Cond.instanceMethod yX0_length, Cond.selects RX0 yX0_length yX0_length, Cond.code yX0_length cX0_length 1 (some .int), Cond.fieldLink RX0 24 "DepotLog$Run" "end" "I"]
def wsX1_minutesOf : List Cond := .code yX1_minutesOf cX1_minutesOf 3 (some .int) :: ((wsX1_minutesOf_r1 ++ wsX1_minutesOf_r2) ++ wsX10 ++ wsX00 ++ (vx_atS RX1 134 "java/lang/IndexOutOfBoundsException" ["java/lang/RuntimeException", "java/lang/Exception"]).filter goodWord)
def wsL_leader : List Cond := .code yL_leader cL_leader 1 (some .int) :: ([])
def wsL_promised : List Cond := .code yL_promised cL_promised 7 (some .int) :: ([])
def wsL_fitsBus : List Cond := .code yL_fitsBus cL_fitsBus 11 (some .boolean) :: ([.methodLink RL 7 yL_promised, .static yL_promised, .initialized RL, .code yL_promised cL_promised 7 (some .int)])
def wsL_minutes : List Cond := .code yL_minutes cL_minutes 10 (some .int) :: ([])
def wsL_fitsDriver : List Cond := .code yL_fitsDriver cL_fitsDriver 12 (some .boolean) :: ([.methodLink RL 13 yL_minutes, .static yL_minutes, .initialized RL, .code yL_minutes cL_minutes 10 (some .int)])
def wsL_leaves : List Cond := .code yL_leaves cL_leaves 2 none :: ([])
def wsL_turns : List Cond := .code yL_turns cL_turns 5 none :: ([])
def wsL_breaks : List Cond := .code yL_breaks cL_breaks 11 none :: ([.methodLink RL 17 yL_leaves, .static yL_leaves, .initialized RL, .code yL_leaves cL_leaves 2 none, .methodLink RL 21 yL_turns, .static yL_turns, .code yL_turns cL_turns 5 none, .methodLink RL 25 yL_fitsBus, .static yL_fitsBus, .code yL_fitsBus cL_fitsBus 11 (some .boolean), .methodLink RL 7 yL_promised, .static yL_promised, .code yL_promised cL_promised 7 (some .int)])
def wsL_ails : List Cond := .code yL_ails cL_ails 10 none :: ([.methodLink RL 21 yL_turns, .static yL_turns, .initialized RL, .code yL_turns cL_turns 5 none, .methodLink RL 29 yL_fitsDriver, .static yL_fitsDriver, .code yL_fitsDriver cL_fitsDriver 12 (some .boolean), .methodLink RL 13 yL_minutes, .static yL_minutes, .code yL_minutes cL_minutes 10 (some .int)])
def wsL_passes : List Cond := .code yL_passes cL_passes 12 none :: ([.methodLink RL 17 yL_leaves, .static yL_leaves, .initialized RL, .code yL_leaves cL_leaves 2 none, .methodLink RL 21 yL_turns, .static yL_turns, .code yL_turns cL_turns 5 none])
def wsL_does_r1 : List Cond := [Cond.classLink RL 50 "java/lang/IndexOutOfBoundsException", Cond.classLink RL 52 "java/lang/IllegalArgumentException", Cond.classLink RL 54 "java/lang/IllegalStateException", Cond.methodLink RL 32 yX1_run, Cond.instanceMethod yX1_run, Cond.selects RX1 yX1_run yX1_run, Cond.initialized RX1, Cond.code yX1_run cX1_run 5 (some .int), Cond.classLink RX1 56 "java/lang/IllegalStateException", Cond.initialized "java/lang/IllegalStateException", Cond.fieldLink RX1 35 "DepotLog" "minute" "I", Cond.fieldLink RX1 39 "DepotLog" "runCount" "I", Cond.fieldLink RX1 11 "DepotLog" "rows" "[LDepotLog$Run;", Cond.methodLink RX1 52 yX1_requireRange, Cond.static yX1_requireRange, Cond.code yX1_requireRange cX1_requireRange 3 none, Cond.classLink RX1 135 "java/lang/IllegalArgumentException", Cond.initialized "java/lang/IllegalArgumentException", Cond.methodLink RX1 63 yX0_tell, Cond.instanceMethod yX0_tell, Cond.selects RX0 yX0_tell yX0_tell, Cond.initialized RX0, Cond.code yX0_tell cX0_tell 4 none, Cond.fieldLink RX0 21 "DepotLog$Run" "start" "I"]
def wsL_does_r2 : List Cond := [Cond.fieldLink RX0 24 "DepotLog$Run" "end" "I", Cond.fieldLink RX0 27 "DepotLog$Run" "need" "I", Cond.methodLink RL 38 yX1_order, Cond.instanceMethod yX1_order, Cond.selects RX1 yX1_order yX1_order, Cond.code yX1_order cX1_order 6 (some .int), Cond.fieldLink RX1 32 "DepotLog" "numberOfMark" "[I", Cond.methodLink RX1 66 yX1_requireIndex, Cond.static yX1_requireIndex, Cond.code yX1_requireIndex cX1_requireIndex 2 none, Cond.classLink RX1 130 "java/lang/IndexOutOfBoundsException", Cond.initialized "java/lang/IndexOutOfBoundsException", Cond.methodLink RX1 70 yX1_leader, Cond.instanceMethod yX1_leader, Cond.selects RX1 yX1_leader yX1_leader, Cond.code yX1_leader cX1_leader 1 (some .int), Cond.fieldLink RX1 48 "DepotLog" "leaseEnd" "I", Cond.fieldLink RX1 45 "DepotLog" "holder" "I", Cond.methodLink RX1 74 yX1_canBeOrdered, Cond.instanceMethod yX1_canBeOrdered, Cond.selects RX1 yX1_canBeOrdered yX1_canBeOrdered, Cond.code yX1_canBeOrdered cX1_canBeOrdered 4 (some .boolean), Cond.fieldLink RX1 114 "DepotLog$Run" "state" "I", Cond.fieldLink RX1 140 "DepotLog$Run" "start" "I"]
def wsL_does_r3 : List Cond := [Cond.methodLink RX1 143 yX1_isBusFit, Cond.instanceMethod yX1_isBusFit, Cond.selects RX1 yX1_isBusFit yX1_isBusFit, Cond.code yX1_isBusFit cX1_isBusFit 4 (some .boolean), Cond.fieldLink RX1 19 "DepotLog" "broken" "[Z", Cond.fieldLink RX1 15 "DepotLog" "charges" "[I", Cond.fieldLink RX1 150 "DepotLog$Run" "need" "I", Cond.methodLink RX1 123 yX1_promisedCharge, Cond.instanceMethod yX1_promisedCharge, Cond.selects RX1 yX1_promisedCharge yX1_promisedCharge, Cond.code yX1_promisedCharge cX1_promisedCharge 4 (some .int), Cond.fieldLink RX1 117 "DepotLog$Run" "bus" "I", Cond.methodLink RX1 153 yX0_holds, Cond.instanceMethod yX0_holds, Cond.selects RX0 yX0_holds yX0_holds, Cond.code yX0_holds cX0_holds 2 (some .boolean), Cond.fieldLink RX0 15 "DepotLog$Run" "bus" "I", Cond.fieldLink RX0 9 "DepotLog$Run" "state" "I", Cond.methodLink RX1 156 yX0_meets, Cond.instanceMethod yX0_meets, Cond.selects RX0 yX0_meets yX0_meets, Cond.code yX0_meets cX0_meets 2 (some .boolean), Cond.methodLink RX1 147 yX1_isDriverFit, Cond.instanceMethod yX1_isDriverFit]
def wsL_does_r4 : List Cond := [Cond.selects RX1 yX1_isDriverFit yX1_isDriverFit, Cond.code yX1_isDriverFit cX1_isDriverFit 5 (some .boolean), Cond.fieldLink RX1 23 "DepotLog" "ill" "[Z", Cond.methodLink RX1 160 yX0_startDay, Cond.instanceMethod yX0_startDay, Cond.selects RX0 yX0_startDay yX0_startDay, Cond.code yX0_startDay cX0_startDay 1 (some .int), Cond.methodLink RX1 127 yX1_workedMinutes, Cond.instanceMethod yX1_workedMinutes, Cond.selects RX1 yX1_workedMinutes yX1_workedMinutes, Cond.code yX1_workedMinutes cX1_workedMinutes 5 (some .int), Cond.methodLink RX1 166 yX0_isWorkOf, Cond.instanceMethod yX0_isWorkOf, Cond.selects RX0 yX0_isWorkOf yX0_isWorkOf, Cond.code yX0_isWorkOf cX0_isWorkOf 3 (some .boolean), Cond.fieldLink RX0 18 "DepotLog$Run" "driver" "I", Cond.methodLink RX0 30 yX0_startDay, Cond.methodLink RX1 163 yX0_length, Cond.instanceMethod yX0_length, Cond.selects RX0 yX0_length yX0_length, Cond.code yX0_length cX0_length 1 (some .int), Cond.methodLink RX1 170 yX0_isRestedFrom, Cond.instanceMethod yX0_isRestedFrom, Cond.selects RX0 yX0_isRestedFrom yX0_isRestedFrom]
def wsL_does_r5 : List Cond := [Cond.code yX0_isRestedFrom cX0_isRestedFrom 2 (some .boolean), Cond.methodLink RX1 80 yX0_give, Cond.instanceMethod yX0_give, Cond.selects RX0 yX0_give yX0_give, Cond.code yX0_give cX0_give 3 none, Cond.methodLink RX1 83 yX1_write, Cond.instanceMethod yX1_write, Cond.selects RX1 yX1_write yX1_write, Cond.code yX1_write cX1_write 4 (some .int), Cond.fieldLink RX1 42 "DepotLog" "orderCount" "I", Cond.fieldLink RX1 29 "DepotLog" "log" "[I", Cond.methodLink RL 42 yX1_plug, Cond.instanceMethod yX1_plug, Cond.selects RX1 yX1_plug yX1_plug, Cond.code yX1_plug cX1_plug 4 (some .int), Cond.fieldLink RX1 26 "DepotLog" "busAtCharger" "[I", Cond.methodLink RX1 103 yX1_isUnderWay, Cond.instanceMethod yX1_isUnderWay, Cond.selects RX1 yX1_isUnderWay yX1_isUnderWay, Cond.code yX1_isUnderWay cX1_isUnderWay 3 (some .boolean), Cond.methodLink RX1 87 yX1_unplug, Cond.instanceMethod yX1_unplug, Cond.selects RX1 yX1_unplug yX1_unplug, Cond.code yX1_unplug cX1_unplug 3 none]
def wsL_does_r6 : List Cond := [Cond.methodLink RL 46 yX1_advance, Cond.instanceMethod yX1_advance, Cond.selects RX1 yX1_advance yX1_advance, Cond.code yX1_advance cX1_advance 3 (some .int), Cond.methodLink RX1 111 yX1_passMinute, Cond.instanceMethod yX1_passMinute, Cond.selects RX1 yX1_passMinute yX1_passMinute, Cond.code yX1_passMinute cX1_passMinute 1 none, Cond.methodLink RX1 193 yX1_loadAtChargers, Cond.instanceMethod yX1_loadAtChargers, Cond.selects RX1 yX1_loadAtChargers yX1_loadAtChargers, Cond.code yX1_loadAtChargers cX1_loadAtChargers 3 none, Cond.methodLink RX1 196 yX1_endRuns, Cond.instanceMethod yX1_endRuns, Cond.selects RX1 yX1_endRuns yX1_endRuns, Cond.code yX1_endRuns cX1_endRuns 2 none, Cond.fieldLink RX1 202 "DepotLog$Run" "end" "I", Cond.methodLink RX1 199 yX1_startRuns, Cond.instanceMethod yX1_startRuns, Cond.selects RX1 yX1_startRuns yX1_startRuns, Cond.code yX1_startRuns cX1_startRuns 2 none, Cond.methodLink RX1 205 yX1_startRun, Cond.instanceMethod yX1_startRun, Cond.selects RX1 yX1_startRun yX1_startRun]
def wsL_does_r7 : List Cond := [Cond.code yX1_startRun cX1_startRun 2 none, Cond.methodLink RX1 184 yX1_sendOut, Cond.instanceMethod yX1_sendOut, Cond.selects RX1 yX1_sendOut yX1_sendOut, Cond.code yX1_sendOut cX1_sendOut 3 none, Cond.methodLink RX1 173 yX0_drop, Cond.instanceMethod yX0_drop, Cond.selects RX0 yX0_drop yX0_drop, Cond.code yX0_drop cX0_drop 2 none]
def wsL_does : List Cond := .codeWith yL_does cL_does 8 (some .int) [(0, 54, 55, 50), (0, 54, 60, 52), (0, 54, 65, 54)] :: ((wsL_does_r1 ++ (wsL_does_r2 ++ (wsL_does_r3 ++ (wsL_does_r4 ++ (wsL_does_r5 ++ (wsL_does_r6 ++ wsL_does_r7)))))) ++ wsX10 ++ wsX00 ++ (vx_atS RX1 60 "java/lang/IllegalStateException" ["java/lang/RuntimeException", "java/lang/Exception"]).filter goodWord ++ (vx_atS RX1 139 "java/lang/IllegalArgumentException" ["java/lang/RuntimeException", "java/lang/Exception"]).filter goodWord ++ (vx_atS RX1 134 "java/lang/IndexOutOfBoundsException" ["java/lang/RuntimeException", "java/lang/Exception"]).filter goodWord)
def wsL_isDepot_r1 : List Cond := [Cond.methodLink RL 56 yX1_minute, Cond.instanceMethod yX1_minute, Cond.selects RX1 yX1_minute yX1_minute, Cond.initialized RX1, Cond.code yX1_minute cX1_minute 1 (some .int), Cond.fieldLink RX1 35 "DepotLog" "minute" "I", Cond.methodLink RL 60 yX1_leader, Cond.instanceMethod yX1_leader, Cond.selects RX1 yX1_leader yX1_leader, Cond.code yX1_leader cX1_leader 1 (some .int), Cond.fieldLink RX1 48 "DepotLog" "leaseEnd" "I", Cond.fieldLink RX1 45 "DepotLog" "holder" "I", Cond.methodLink RL 63 yL_leader, Cond.static yL_leader, Cond.initialized RL, Cond.code yL_leader cL_leader 1 (some .int), Cond.methodLink RL 66 yX1_runs, Cond.instanceMethod yX1_runs, Cond.selects RX1 yX1_runs yX1_runs, Cond.code yX1_runs cX1_runs 1 (some .int), Cond.fieldLink RX1 39 "DepotLog" "runCount" "I", Cond.methodLink RL 69 yX1_orders, Cond.instanceMethod yX1_orders, Cond.selects RX1 yX1_orders yX1_orders]
def wsL_isDepot_r2 : List Cond := [Cond.code yX1_orders cX1_orders 1 (some .int), Cond.fieldLink RX1 42 "DepotLog" "orderCount" "I", Cond.methodLink RL 72 yX1_stateOf, Cond.instanceMethod yX1_stateOf, Cond.selects RX1 yX1_stateOf yX1_stateOf, Cond.code yX1_stateOf cX1_stateOf 2 (some .int), Cond.fieldLink RX1 11 "DepotLog" "rows" "[LDepotLog$Run;", Cond.fieldLink RX1 114 "DepotLog$Run" "state" "I", Cond.methodLink RX1 66 yX1_requireIndex, Cond.static yX1_requireIndex, Cond.code yX1_requireIndex cX1_requireIndex 2 none, Cond.classLink RX1 130 "java/lang/IndexOutOfBoundsException", Cond.initialized "java/lang/IndexOutOfBoundsException", Cond.methodLink RL 75 yX1_busOf, Cond.instanceMethod yX1_busOf, Cond.selects RX1 yX1_busOf yX1_busOf, Cond.code yX1_busOf cX1_busOf 2 (some .int), Cond.fieldLink RX1 117 "DepotLog$Run" "bus" "I", Cond.methodLink RL 78 yX1_driverOf, Cond.instanceMethod yX1_driverOf, Cond.selects RX1 yX1_driverOf yX1_driverOf, Cond.code yX1_driverOf cX1_driverOf 2 (some .int), Cond.fieldLink RX1 120 "DepotLog$Run" "driver" "I", Cond.methodLink RL 81 yX1_charge]
def wsL_isDepot_r3 : List Cond := [Cond.instanceMethod yX1_charge, Cond.selects RX1 yX1_charge yX1_charge, Cond.code yX1_charge cX1_charge 2 (some .int), Cond.fieldLink RX1 15 "DepotLog" "charges" "[I", Cond.methodLink RL 84 yX1_promised, Cond.instanceMethod yX1_promised, Cond.selects RX1 yX1_promised yX1_promised, Cond.code yX1_promised cX1_promised 2 (some .int), Cond.methodLink RX1 123 yX1_promisedCharge, Cond.instanceMethod yX1_promisedCharge, Cond.selects RX1 yX1_promisedCharge yX1_promisedCharge, Cond.code yX1_promisedCharge cX1_promisedCharge 4 (some .int), Cond.fieldLink RX1 150 "DepotLog$Run" "need" "I", Cond.methodLink RL 7 yL_promised, Cond.static yL_promised, Cond.code yL_promised cL_promised 7 (some .int), Cond.methodLink RL 86 yX1_minutesOf, Cond.instanceMethod yX1_minutesOf, Cond.selects RX1 yX1_minutesOf yX1_minutesOf, Cond.code yX1_minutesOf cX1_minutesOf 3 (some .int), Cond.methodLink RX1 127 yX1_workedMinutes, Cond.instanceMethod yX1_workedMinutes, Cond.selects RX1 yX1_workedMinutes yX1_workedMinutes, Cond.code yX1_workedMinutes cX1_workedMinutes 5 (some .int)]
def wsL_isDepot_r4 : List Cond := [Cond.methodLink RX1 166 yX0_isWorkOf, Cond.instanceMethod yX0_isWorkOf, Cond.selects RX0 yX0_isWorkOf yX0_isWorkOf, Cond.initialized RX0, Cond.code yX0_isWorkOf cX0_isWorkOf 3 (some .boolean), Cond.fieldLink RX0 18 "DepotLog$Run" "driver" "I", Cond.methodLink RX0 30 yX0_startDay, Cond.instanceMethod yX0_startDay, Cond.selects RX0 yX0_startDay yX0_startDay, Cond.code yX0_startDay cX0_startDay 1 (some .int), Cond.fieldLink RX0 21 "DepotLog$Run" "start" "I", Cond.methodLink RX1 163 yX0_length, Cond.instanceMethod yX0_length, Cond.selects RX0 yX0_length yX0_length, Cond.code yX0_length cX0_length 1 (some .int), Cond.fieldLink RX0 24 "DepotLog$Run" "end" "I", Cond.methodLink RL 13 yL_minutes, Cond.static yL_minutes, Cond.code yL_minutes cL_minutes 10 (some .int), Cond.methodLink RL 89 yX1_orderAt, Cond.instanceMethod yX1_orderAt, Cond.selects RX1 yX1_orderAt yX1_orderAt, Cond.code yX1_orderAt cX1_orderAt 2 (some .int), Cond.fieldLink RX1 29 "DepotLog" "log" "[I"]
def wsL_isDepot : List Cond := .code yL_isDepot cL_isDepot 12 (some .boolean) :: ((wsL_isDepot_r1 ++ (wsL_isDepot_r2 ++ (wsL_isDepot_r3 ++ wsL_isDepot_r4))) ++ wsX10 ++ wsX00 ++ (vx_atS RX1 134 "java/lang/IndexOutOfBoundsException" ["java/lang/RuntimeException", "java/lang/Exception"]).filter goodWord)
def wsL_law0_r1 : List Cond := [Cond.classLink RL 33 RX1, Cond.instantiable RX1 12, Cond.initialized RX1, Cond.arrayClass .int, Cond.constant RL 97 (2147483647), Cond.constant RL 98 (53017), Cond.methodLink RL 92 yX1_init, Cond.instanceMethod yX1_init, Cond.code yX1_init cX1_init 2 none, Cond.methodLink RX1 1 objectInit, Cond.instanceMethod objectInit, Cond.code objectInit ⟨#[0xb1]⟩ 1 none, Cond.classLink RX1 9 RX0, Cond.fieldLink RX1 11 "DepotLog" "rows" "[LDepotLog$Run;", Cond.fieldLink RX1 15 "DepotLog" "charges" "[I", Cond.arrayClass .boolean, Cond.fieldLink RX1 19 "DepotLog" "broken" "[Z", Cond.fieldLink RX1 23 "DepotLog" "ill" "[Z", Cond.fieldLink RX1 26 "DepotLog" "busAtCharger" "[I", Cond.fieldLink RX1 29 "DepotLog" "log" "[I", Cond.fieldLink RX1 32 "DepotLog" "numberOfMark" "[I", Cond.fieldLink RX1 35 "DepotLog" "minute" "I", Cond.fieldLink RX1 39 "DepotLog" "runCount" "I", Cond.fieldLink RX1 42 "DepotLog" "orderCount" "I"]
def wsL_law0_r2 : List Cond := [Cond.fieldLink RX1 45 "DepotLog" "holder" "I", Cond.fieldLink RX1 48 "DepotLog" "leaseEnd" "I", Cond.instantiable RX0 6, Cond.initialized RX0, Cond.instanceMethod yX0_init, Cond.code yX0_init cX0_init 1 none, Cond.methodLink RX0 3 objectInit, Cond.fieldLink RX0 9 "DepotLog$Run" "state" "I", Cond.fieldLink RX0 15 "DepotLog$Run" "bus" "I", Cond.fieldLink RX0 18 "DepotLog$Run" "driver" "I", Cond.methodLink RL 93 yL_isDepot, Cond.static yL_isDepot, Cond.initialized RL, Cond.code yL_isDepot cL_isDepot 12 (some .boolean), Cond.methodLink RL 56 yX1_minute, Cond.instanceMethod yX1_minute, Cond.selects RX1 yX1_minute yX1_minute, Cond.code yX1_minute cX1_minute 1 (some .int), Cond.methodLink RL 60 yX1_leader, Cond.instanceMethod yX1_leader, Cond.selects RX1 yX1_leader yX1_leader, Cond.code yX1_leader cX1_leader 1 (some .int), Cond.methodLink RL 63 yL_leader, Cond.static yL_leader]
def wsL_law0_r3 : List Cond := [Cond.code yL_leader cL_leader 1 (some .int), Cond.methodLink RL 66 yX1_runs, Cond.instanceMethod yX1_runs, Cond.selects RX1 yX1_runs yX1_runs, Cond.code yX1_runs cX1_runs 1 (some .int), Cond.methodLink RL 69 yX1_orders, Cond.instanceMethod yX1_orders, Cond.selects RX1 yX1_orders yX1_orders, Cond.code yX1_orders cX1_orders 1 (some .int), Cond.methodLink RL 72 yX1_stateOf, Cond.instanceMethod yX1_stateOf, Cond.selects RX1 yX1_stateOf yX1_stateOf, Cond.code yX1_stateOf cX1_stateOf 2 (some .int), Cond.fieldLink RX1 114 "DepotLog$Run" "state" "I", Cond.methodLink RX1 66 yX1_requireIndex, Cond.static yX1_requireIndex, Cond.code yX1_requireIndex cX1_requireIndex 2 none, Cond.classLink RX1 130 "java/lang/IndexOutOfBoundsException", Cond.initialized "java/lang/IndexOutOfBoundsException", Cond.methodLink RL 75 yX1_busOf, Cond.instanceMethod yX1_busOf, Cond.selects RX1 yX1_busOf yX1_busOf, Cond.code yX1_busOf cX1_busOf 2 (some .int), Cond.fieldLink RX1 117 "DepotLog$Run" "bus" "I"]
def wsL_law0_r4 : List Cond := [Cond.methodLink RL 78 yX1_driverOf, Cond.instanceMethod yX1_driverOf, Cond.selects RX1 yX1_driverOf yX1_driverOf, Cond.code yX1_driverOf cX1_driverOf 2 (some .int), Cond.fieldLink RX1 120 "DepotLog$Run" "driver" "I", Cond.methodLink RL 81 yX1_charge, Cond.instanceMethod yX1_charge, Cond.selects RX1 yX1_charge yX1_charge, Cond.code yX1_charge cX1_charge 2 (some .int), Cond.methodLink RL 84 yX1_promised, Cond.instanceMethod yX1_promised, Cond.selects RX1 yX1_promised yX1_promised, Cond.code yX1_promised cX1_promised 2 (some .int), Cond.methodLink RX1 123 yX1_promisedCharge, Cond.instanceMethod yX1_promisedCharge, Cond.selects RX1 yX1_promisedCharge yX1_promisedCharge, Cond.code yX1_promisedCharge cX1_promisedCharge 4 (some .int), Cond.fieldLink RX1 150 "DepotLog$Run" "need" "I", Cond.methodLink RL 7 yL_promised, Cond.static yL_promised, Cond.code yL_promised cL_promised 7 (some .int), Cond.methodLink RL 86 yX1_minutesOf, Cond.instanceMethod yX1_minutesOf, Cond.selects RX1 yX1_minutesOf yX1_minutesOf]
def wsL_law0_r5 : List Cond := [Cond.code yX1_minutesOf cX1_minutesOf 3 (some .int), Cond.methodLink RX1 127 yX1_workedMinutes, Cond.instanceMethod yX1_workedMinutes, Cond.selects RX1 yX1_workedMinutes yX1_workedMinutes, Cond.code yX1_workedMinutes cX1_workedMinutes 5 (some .int), Cond.methodLink RX1 166 yX0_isWorkOf, Cond.instanceMethod yX0_isWorkOf, Cond.selects RX0 yX0_isWorkOf yX0_isWorkOf, Cond.code yX0_isWorkOf cX0_isWorkOf 3 (some .boolean), Cond.methodLink RX0 30 yX0_startDay, Cond.instanceMethod yX0_startDay, Cond.selects RX0 yX0_startDay yX0_startDay, Cond.code yX0_startDay cX0_startDay 1 (some .int), Cond.fieldLink RX0 21 "DepotLog$Run" "start" "I", Cond.methodLink RX1 163 yX0_length, Cond.instanceMethod yX0_length, Cond.selects RX0 yX0_length yX0_length, Cond.code yX0_length cX0_length 1 (some .int), Cond.fieldLink RX0 24 "DepotLog$Run" "end" "I", Cond.methodLink RL 13 yL_minutes, Cond.static yL_minutes, Cond.code yL_minutes cL_minutes 10 (some .int), Cond.methodLink RL 89 yX1_orderAt, Cond.instanceMethod yX1_orderAt]
def wsL_law0_r6 : List Cond := [Cond.selects RX1 yX1_orderAt yX1_orderAt, Cond.code yX1_orderAt cX1_orderAt 2 (some .int), Cond.methodLink RL 99 yL_does, Cond.static yL_does, Cond.codeWith yL_does cL_does 8 (some .int) [(0, 54, 55, 50), (0, 54, 60, 52), (0, 54, 65, 54)], Cond.classLink RL 50 "java/lang/IndexOutOfBoundsException", Cond.classLink RL 52 "java/lang/IllegalArgumentException", Cond.classLink RL 54 "java/lang/IllegalStateException", Cond.methodLink RL 32 yX1_run, Cond.instanceMethod yX1_run, Cond.selects RX1 yX1_run yX1_run, Cond.code yX1_run cX1_run 5 (some .int), Cond.classLink RX1 56 "java/lang/IllegalStateException", Cond.initialized "java/lang/IllegalStateException", Cond.methodLink RX1 52 yX1_requireRange, Cond.static yX1_requireRange, Cond.code yX1_requireRange cX1_requireRange 3 none, Cond.classLink RX1 135 "java/lang/IllegalArgumentException", Cond.initialized "java/lang/IllegalArgumentException", Cond.methodLink RX1 63 yX0_tell, Cond.instanceMethod yX0_tell, Cond.selects RX0 yX0_tell yX0_tell, Cond.code yX0_tell cX0_tell 4 none, Cond.fieldLink RX0 27 "DepotLog$Run" "need" "I"]
def wsL_law0_r7 : List Cond := [Cond.methodLink RL 38 yX1_order, Cond.instanceMethod yX1_order, Cond.selects RX1 yX1_order yX1_order, Cond.code yX1_order cX1_order 6 (some .int), Cond.methodLink RX1 70 yX1_leader, Cond.methodLink RX1 74 yX1_canBeOrdered, Cond.instanceMethod yX1_canBeOrdered, Cond.selects RX1 yX1_canBeOrdered yX1_canBeOrdered, Cond.code yX1_canBeOrdered cX1_canBeOrdered 4 (some .boolean), Cond.fieldLink RX1 140 "DepotLog$Run" "start" "I", Cond.methodLink RX1 143 yX1_isBusFit, Cond.instanceMethod yX1_isBusFit, Cond.selects RX1 yX1_isBusFit yX1_isBusFit, Cond.code yX1_isBusFit cX1_isBusFit 4 (some .boolean), Cond.methodLink RX1 153 yX0_holds, Cond.instanceMethod yX0_holds, Cond.selects RX0 yX0_holds yX0_holds, Cond.code yX0_holds cX0_holds 2 (some .boolean), Cond.methodLink RX1 156 yX0_meets, Cond.instanceMethod yX0_meets, Cond.selects RX0 yX0_meets yX0_meets, Cond.code yX0_meets cX0_meets 2 (some .boolean), Cond.methodLink RX1 147 yX1_isDriverFit, Cond.instanceMethod yX1_isDriverFit]
def wsL_law0_r8 : List Cond := [Cond.selects RX1 yX1_isDriverFit yX1_isDriverFit, Cond.code yX1_isDriverFit cX1_isDriverFit 5 (some .boolean), Cond.methodLink RX1 160 yX0_startDay, Cond.methodLink RX1 170 yX0_isRestedFrom, Cond.instanceMethod yX0_isRestedFrom, Cond.selects RX0 yX0_isRestedFrom yX0_isRestedFrom, Cond.code yX0_isRestedFrom cX0_isRestedFrom 2 (some .boolean), Cond.methodLink RX1 80 yX0_give, Cond.instanceMethod yX0_give, Cond.selects RX0 yX0_give yX0_give, Cond.code yX0_give cX0_give 3 none, Cond.methodLink RX1 83 yX1_write, Cond.instanceMethod yX1_write, Cond.selects RX1 yX1_write yX1_write, Cond.code yX1_write cX1_write 4 (some .int), Cond.methodLink RL 42 yX1_plug, Cond.instanceMethod yX1_plug, Cond.selects RX1 yX1_plug yX1_plug, Cond.code yX1_plug cX1_plug 4 (some .int), Cond.methodLink RX1 103 yX1_isUnderWay, Cond.instanceMethod yX1_isUnderWay, Cond.selects RX1 yX1_isUnderWay yX1_isUnderWay, Cond.code yX1_isUnderWay cX1_isUnderWay 3 (some .boolean), Cond.methodLink RX1 87 yX1_unplug]
def wsL_law0_r9 : List Cond := [Cond.instanceMethod yX1_unplug, Cond.selects RX1 yX1_unplug yX1_unplug, Cond.code yX1_unplug cX1_unplug 3 none, Cond.methodLink RL 46 yX1_advance, Cond.instanceMethod yX1_advance, Cond.selects RX1 yX1_advance yX1_advance, Cond.code yX1_advance cX1_advance 3 (some .int), Cond.methodLink RX1 111 yX1_passMinute, Cond.instanceMethod yX1_passMinute, Cond.selects RX1 yX1_passMinute yX1_passMinute, Cond.code yX1_passMinute cX1_passMinute 1 none, Cond.methodLink RX1 193 yX1_loadAtChargers, Cond.instanceMethod yX1_loadAtChargers, Cond.selects RX1 yX1_loadAtChargers yX1_loadAtChargers, Cond.code yX1_loadAtChargers cX1_loadAtChargers 3 none, Cond.methodLink RX1 196 yX1_endRuns, Cond.instanceMethod yX1_endRuns, Cond.selects RX1 yX1_endRuns yX1_endRuns, Cond.code yX1_endRuns cX1_endRuns 2 none, Cond.fieldLink RX1 202 "DepotLog$Run" "end" "I", Cond.methodLink RX1 199 yX1_startRuns, Cond.instanceMethod yX1_startRuns, Cond.selects RX1 yX1_startRuns yX1_startRuns, Cond.code yX1_startRuns cX1_startRuns 2 none]
def wsL_law0_r10 : List Cond := [Cond.methodLink RX1 205 yX1_startRun, Cond.instanceMethod yX1_startRun, Cond.selects RX1 yX1_startRun yX1_startRun, Cond.code yX1_startRun cX1_startRun 2 none, Cond.methodLink RX1 184 yX1_sendOut, Cond.instanceMethod yX1_sendOut, Cond.selects RX1 yX1_sendOut yX1_sendOut, Cond.code yX1_sendOut cX1_sendOut 3 none, Cond.methodLink RX1 173 yX0_drop, Cond.instanceMethod yX0_drop, Cond.selects RX0 yX0_drop yX0_drop, Cond.code yX0_drop cX0_drop 2 none, Cond.methodLink RL 103 yX1_lead, Cond.instanceMethod yX1_lead, Cond.selects RX1 yX1_lead yX1_lead, Cond.code yX1_lead cX1_lead 4 (some .boolean), Cond.methodLink RL 25 yL_fitsBus, Cond.static yL_fitsBus, Cond.code yL_fitsBus cL_fitsBus 11 (some .boolean), Cond.methodLink RL 29 yL_fitsDriver, Cond.static yL_fitsDriver, Cond.code yL_fitsDriver cL_fitsDriver 12 (some .boolean), Cond.methodLink RL 107 yL_breaks, Cond.static yL_breaks]
def wsL_law0_r11 : List Cond := [Cond.code yL_breaks cL_breaks 11 none, Cond.methodLink RL 17 yL_leaves, Cond.static yL_leaves, Cond.code yL_leaves cL_leaves 2 none, Cond.methodLink RL 21 yL_turns, Cond.static yL_turns, Cond.code yL_turns cL_turns 5 none, Cond.methodLink RL 111 yX1_breaks, Cond.instanceMethod yX1_breaks, Cond.selects RX1 yX1_breaks yX1_breaks, Cond.code yX1_breaks cX1_breaks 4 (some .boolean), Cond.methodLink RX1 91 yX1_takeOrdersFromBus, Cond.instanceMethod yX1_takeOrdersFromBus, Cond.selects RX1 yX1_takeOrdersFromBus yX1_takeOrdersFromBus, Cond.code yX1_takeOrdersFromBus cX1_takeOrdersFromBus 3 none, Cond.methodLink RX1 94 yX1_swapBus, Cond.instanceMethod yX1_swapBus, Cond.selects RX1 yX1_swapBus yX1_swapBus, Cond.code yX1_swapBus cX1_swapBus 3 none, Cond.methodLink RX1 176 yX1_giveOtherBus, Cond.instanceMethod yX1_giveOtherBus, Cond.selects RX1 yX1_giveOtherBus yX1_giveOtherBus, Cond.code yX1_giveOtherBus cX1_giveOtherBus 3 none, Cond.methodLink RX1 180 yX1_lowestFitBus]
def wsL_law0_r12 : List Cond := [Cond.instanceMethod yX1_lowestFitBus, Cond.selects RX1 yX1_lowestFitBus yX1_lowestFitBus, Cond.code yX1_lowestFitBus cX1_lowestFitBus 3 (some .int), Cond.methodLink RL 114 yL_ails, Cond.static yL_ails, Cond.code yL_ails cL_ails 10 none, Cond.methodLink RL 118 yX1_ails, Cond.instanceMethod yX1_ails, Cond.selects RX1 yX1_ails yX1_ails, Cond.code yX1_ails cX1_ails 4 (some .boolean), Cond.methodLink RX1 97 yX1_takeOrdersFromDriver, Cond.instanceMethod yX1_takeOrdersFromDriver, Cond.selects RX1 yX1_takeOrdersFromDriver yX1_takeOrdersFromDriver, Cond.code yX1_takeOrdersFromDriver cX1_takeOrdersFromDriver 3 none, Cond.methodLink RX1 100 yX1_swapDriver, Cond.instanceMethod yX1_swapDriver, Cond.selects RX1 yX1_swapDriver yX1_swapDriver, Cond.code yX1_swapDriver cX1_swapDriver 3 none, Cond.methodLink RX1 187 yX1_giveOtherDriver, Cond.instanceMethod yX1_giveOtherDriver, Cond.selects RX1 yX1_giveOtherDriver yX1_giveOtherDriver, Cond.code yX1_giveOtherDriver cX1_giveOtherDriver 3 none, Cond.methodLink RX1 190 yX1_lowestFitDriver, Cond.instanceMethod yX1_lowestFitDriver]
def wsL_law0_r13 : List Cond := [Cond.selects RX1 yX1_lowestFitDriver yX1_lowestFitDriver, Cond.code yX1_lowestFitDriver cX1_lowestFitDriver 3 (some .int), Cond.methodLink RL 120 yL_passes, Cond.static yL_passes, Cond.code yL_passes cL_passes 12 none]
def wsL_law0 : List Cond := (wsL_law0_r1 ++ (wsL_law0_r2 ++ (wsL_law0_r3 ++ (wsL_law0_r4 ++ (wsL_law0_r5 ++ (wsL_law0_r6 ++ (wsL_law0_r7 ++ (wsL_law0_r8 ++ (wsL_law0_r9 ++ (wsL_law0_r10 ++ (wsL_law0_r11 ++ (wsL_law0_r12 ++ wsL_law0_r13)))))))))))) ++ wsX10 ++ wsX00 ++ ([] : List Cond)
def wsL_law : List Cond := wsL_law0 ++ (vx_atS RX1 134 "java/lang/IndexOutOfBoundsException" ["java/lang/RuntimeException", "java/lang/Exception"]).filter goodWord ++ (vx_atS RX1 60 "java/lang/IllegalStateException" ["java/lang/RuntimeException", "java/lang/Exception"]).filter goodWord ++ (vx_atS RX1 139 "java/lang/IllegalArgumentException" ["java/lang/RuntimeException", "java/lang/Exception"]).filter goodWord
end
section
set_option maxRecDepth 20000 in
theorem wsL_law_k1 : ∀ w ∈ wsL_law0_r1, w ∈ lw_tbl := fun w h => (goodIn_p wsL_law0_r1 [36, 39] (by decide +kernel) (by decide +kernel) w h).1
set_option maxRecDepth 20000 in
theorem wsL_law_k2 : ∀ w ∈ wsL_law0_r2, w ∈ lw_tbl := fun w h => (goodIn_p wsL_law0_r2 [45, 415, 419, 208] (by decide +kernel) (by decide +kernel) w h).1
set_option maxRecDepth 20000 in
theorem wsL_law_k3 : ∀ w ∈ wsL_law0_r3, w ∈ lw_tbl := fun w h => (goodIn_p wsL_law0_r3 [304, 424, 428, 432, 117, 436] (by decide +kernel) (by decide +kernel) w h).1
set_option maxRecDepth 20000 in
theorem wsL_law_k4 : ∀ w ∈ wsL_law0_r4, w ∈ lw_tbl := fun w h => (goodIn_p wsL_law0_r4 [440, 444, 448, 244, 310] (by decide +kernel) (by decide +kernel) w h).1
set_option maxRecDepth 20000 in
theorem wsL_law_k5 : ∀ w ∈ wsL_law0_r5, w ∈ lw_tbl := fun w h => (goodIn_p wsL_law0_r5 [452, 288, 292, 284, 297, 316] (by decide +kernel) (by decide +kernel) w h).1
set_option maxRecDepth 20000 in
theorem wsL_law_k6 : ∀ w ∈ wsL_law0_r6, w ∈ lw_tbl := fun w h => (goodIn_p wsL_law0_r6 [456, 341, 188, 361] (by decide +kernel) (by decide +kernel) w h).1
set_option maxRecDepth 20000 in
theorem wsL_law_k7 : ∀ w ∈ wsL_law0_r7, w ∈ lw_tbl := fun w h => (goodIn_p wsL_law0_r7 [365, 369, 240, 248, 252] (by decide +kernel) (by decide +kernel) w h).1
set_option maxRecDepth 20000 in
theorem wsL_law_k8 : ∀ w ∈ wsL_law0_r8, w ∈ lw_tbl := fun w h => (goodIn_p wsL_law0_r8 [280, 301, 374, 378, 382, 386] (by decide +kernel) (by decide +kernel) w h).1
set_option maxRecDepth 20000 in
theorem wsL_law_k9 : ∀ w ∈ wsL_law0_r9, w ∈ lw_tbl := fun w h => (goodIn_p wsL_law0_r9 [216, 391, 396, 400, 404, 408] (by decide +kernel) (by decide +kernel) w h).1
set_option maxRecDepth 20000 in
theorem wsL_law_k10 : ∀ w ∈ wsL_law0_r10, w ∈ lw_tbl := fun w h => (goodIn_p wsL_law0_r10 [412, 256, 224, 114, 307, 313] (by decide +kernel) (by decide +kernel) w h).1
set_option maxRecDepth 20000 in
theorem wsL_law_k11 : ∀ w ∈ wsL_law0_r11, w ∈ lw_tbl := fun w h => (goodIn_p wsL_law0_r11 [322, 319, 325, 212, 220, 228, 232] (by decide +kernel) (by decide +kernel) w h).1
set_option maxRecDepth 20000 in
theorem wsL_law_k12 : ∀ w ∈ wsL_law0_r12, w ∈ lw_tbl := fun w h => (goodIn_p wsL_law0_r12 [236, 328, 260, 264, 268, 272] (by decide +kernel) (by decide +kernel) w h).1
set_option maxRecDepth 20000 in
theorem wsL_law_k13 : ∀ w ∈ wsL_law0_r13, w ∈ lw_tbl := fun w h => (goodIn_p wsL_law0_r13 [276, 331] (by decide +kernel) (by decide +kernel) w h).1
theorem wsL_law_wsX10 : ∀ w ∈ wsX10, w ∈ lw_tbl := by decide +kernel
theorem wsL_law_wsX00 : ∀ w ∈ wsX00, w ∈ lw_tbl := by decide +kernel
theorem wsL_law_in0 : ∀ w ∈ wsL_law0, w ∈ lw_tbl := fun w h => (List.mem_append.mp h).elim (fun h => (List.mem_append.mp h).elim (fun h => (List.mem_append.mp h).elim (fun h => (List.mem_append.mp h).elim (fun h => wsL_law_k1 w h) (fun h => (List.mem_append.mp h).elim (fun h => wsL_law_k2 w h) (fun h => (List.mem_append.mp h).elim (fun h => wsL_law_k3 w h) (fun h => (List.mem_append.mp h).elim (fun h => wsL_law_k4 w h) (fun h => (List.mem_append.mp h).elim (fun h => wsL_law_k5 w h) (fun h => (List.mem_append.mp h).elim (fun h => wsL_law_k6 w h) (fun h => (List.mem_append.mp h).elim (fun h => wsL_law_k7 w h) (fun h => (List.mem_append.mp h).elim (fun h => wsL_law_k8 w h) (fun h => (List.mem_append.mp h).elim (fun h => wsL_law_k9 w h) (fun h => (List.mem_append.mp h).elim (fun h => wsL_law_k10 w h) (fun h => (List.mem_append.mp h).elim (fun h => wsL_law_k11 w h) (fun h => (List.mem_append.mp h).elim (fun h => wsL_law_k12 w h) (fun h => wsL_law_k13 w h))))))))))))) (fun h => wsL_law_wsX10 w h)) (fun h => wsL_law_wsX00 w h)) (fun h => nomatch h)
theorem wsL_law_x0 : ∀ w ∈ (vx_atS RX1 134 "java/lang/IndexOutOfBoundsException" ["java/lang/RuntimeException", "java/lang/Exception"]).filter goodWord, w ∈ lw_tbl := by decide +kernel
theorem wsL_law_x1 : ∀ w ∈ (vx_atS RX1 60 "java/lang/IllegalStateException" ["java/lang/RuntimeException", "java/lang/Exception"]).filter goodWord, w ∈ lw_tbl := by decide +kernel
theorem wsL_law_x2 : ∀ w ∈ (vx_atS RX1 139 "java/lang/IllegalArgumentException" ["java/lang/RuntimeException", "java/lang/Exception"]).filter goodWord, w ∈ lw_tbl := by decide +kernel
theorem wsL_law_in : ∀ w ∈ wsL_law, w ∈ lw_tbl := fun w h => (List.mem_append.mp h).elim (fun h => (List.mem_append.mp h).elim (fun h => (List.mem_append.mp h).elim (fun h => wsL_law_in0 w h) (fun h => wsL_law_x0 w h)) (fun h => wsL_law_x1 w h)) (fun h => wsL_law_x2 w h)
theorem inlX0 : ∀ w ∈ wsX00, w ∈ wsL_law := fun _ h => List.mem_append_left _ (List.mem_append_left _ (List.mem_append_left _ (List.mem_append_left _ (List.mem_append_right _ h))))
theorem inX0 : ∀ w ∈ wsX00, w ∈ lw_tbl := fun w h => wsL_law_in w (inlX0 w h)
theorem inlX1 : ∀ w ∈ wsX10, w ∈ wsL_law := fun _ h => List.mem_append_left _ (List.mem_append_left _ (List.mem_append_left _ (List.mem_append_left _ (List.mem_append_left _ (List.mem_append_right _ h)))))
theorem inX1 : ∀ w ∈ wsX10, w ∈ lw_tbl := fun w h => wsL_law_in w (inlX1 w h)
theorem inX2 : ∀ w ∈ wsX20, w ∈ lw_tbl := by decide +kernel
theorem inJ0 : ∀ w ∈ wsJ00, w ∈ lw_tbl := by decide +kernel
end
section
theorem dX0_init_0 : decode cX0_init 0 = .ok (.aload_n 0, 1) := by decide +kernel
theorem dX0_init_1 : decode cX0_init 1 = .ok (.invokespecial 3, 3) := by decide +kernel
theorem dX0_init_4 : decode cX0_init 4 = .ok (.aload_n 0, 1) := by decide +kernel
theorem dX0_init_5 : decode cX0_init 5 = .ok (.iconst 0, 1) := by decide +kernel
theorem dX0_init_6 : decode cX0_init 6 = .ok (.putfield 9, 3) := by decide +kernel
theorem dX0_init_9 : decode cX0_init 9 = .ok (.aload_n 0, 1) := by decide +kernel
theorem dX0_init_10 : decode cX0_init 10 = .ok (.iconst (-1), 1) := by decide +kernel
theorem dX0_init_11 : decode cX0_init 11 = .ok (.putfield 15, 3) := by decide +kernel
theorem dX0_init_14 : decode cX0_init 14 = .ok (.aload_n 0, 1) := by decide +kernel
theorem dX0_init_15 : decode cX0_init 15 = .ok (.iconst (-1), 1) := by decide +kernel
theorem dX0_init_16 : decode cX0_init 16 = .ok (.putfield 18, 3) := by decide +kernel
theorem dX0_init_19 : decode cX0_init 19 = .ok (.return_, 1) := by decide +kernel
theorem dX0_tell_0 : decode cX0_tell 0 = .ok (.aload_n 0, 1) := by decide +kernel
theorem dX0_tell_1 : decode cX0_tell 1 = .ok (.iload_n 1, 1) := by decide +kernel
theorem dX0_tell_2 : decode cX0_tell 2 = .ok (.putfield 21, 3) := by decide +kernel
theorem dX0_tell_5 : decode cX0_tell 5 = .ok (.aload_n 0, 1) := by decide +kernel
theorem dX0_tell_6 : decode cX0_tell 6 = .ok (.iload_n 1, 1) := by decide +kernel
theorem dX0_tell_7 : decode cX0_tell 7 = .ok (.iload_n 2, 1) := by decide +kernel
theorem dX0_tell_8 : decode cX0_tell 8 = .ok (.iadd, 1) := by decide +kernel
theorem dX0_tell_9 : decode cX0_tell 9 = .ok (.putfield 24, 3) := by decide +kernel
theorem dX0_tell_12 : decode cX0_tell 12 = .ok (.aload_n 0, 1) := by decide +kernel
theorem dX0_tell_13 : decode cX0_tell 13 = .ok (.iload_n 3, 1) := by decide +kernel
theorem dX0_tell_14 : decode cX0_tell 14 = .ok (.putfield 27, 3) := by decide +kernel
theorem dX0_tell_17 : decode cX0_tell 17 = .ok (.return_, 1) := by decide +kernel
theorem dX0_give_0 : decode cX0_give 0 = .ok (.aload_n 0, 1) := by decide +kernel
theorem dX0_give_1 : decode cX0_give 1 = .ok (.iconst 1, 1) := by decide +kernel
theorem dX0_give_2 : decode cX0_give 2 = .ok (.putfield 9, 3) := by decide +kernel
theorem dX0_give_5 : decode cX0_give 5 = .ok (.aload_n 0, 1) := by decide +kernel
theorem dX0_give_6 : decode cX0_give 6 = .ok (.iload_n 1, 1) := by decide +kernel
theorem dX0_give_7 : decode cX0_give 7 = .ok (.putfield 15, 3) := by decide +kernel
theorem dX0_give_10 : decode cX0_give 10 = .ok (.aload_n 0, 1) := by decide +kernel
theorem dX0_give_11 : decode cX0_give 11 = .ok (.iload_n 2, 1) := by decide +kernel
theorem dX0_give_12 : decode cX0_give 12 = .ok (.putfield 18, 3) := by decide +kernel
theorem dX0_give_15 : decode cX0_give 15 = .ok (.return_, 1) := by decide +kernel
theorem dX0_drop_0 : decode cX0_drop 0 = .ok (.aload_n 0, 1) := by decide +kernel
theorem dX0_drop_1 : decode cX0_drop 1 = .ok (.iload_n 1, 1) := by decide +kernel
theorem dX0_drop_2 : decode cX0_drop 2 = .ok (.putfield 9, 3) := by decide +kernel
theorem dX0_drop_5 : decode cX0_drop 5 = .ok (.aload_n 0, 1) := by decide +kernel
theorem dX0_drop_6 : decode cX0_drop 6 = .ok (.iconst (-1), 1) := by decide +kernel
theorem dX0_drop_7 : decode cX0_drop 7 = .ok (.putfield 15, 3) := by decide +kernel
theorem dX0_drop_10 : decode cX0_drop 10 = .ok (.aload_n 0, 1) := by decide +kernel
theorem dX0_drop_11 : decode cX0_drop 11 = .ok (.iconst (-1), 1) := by decide +kernel
theorem dX0_drop_12 : decode cX0_drop 12 = .ok (.putfield 18, 3) := by decide +kernel
theorem dX0_drop_15 : decode cX0_drop 15 = .ok (.return_, 1) := by decide +kernel
theorem dX0_holds_0 : decode cX0_holds 0 = .ok (.aload_n 0, 1) := by decide +kernel
theorem dX0_holds_1 : decode cX0_holds 1 = .ok (.getfield 15, 3) := by decide +kernel
theorem dX0_holds_4 : decode cX0_holds 4 = .ok (.iload_n 1, 1) := by decide +kernel
theorem dX0_holds_5 : decode cX0_holds 5 = .ok (.if_icmp .ne 23, 3) := by decide +kernel
theorem dX0_holds_8 : decode cX0_holds 8 = .ok (.aload_n 0, 1) := by decide +kernel
theorem dX0_holds_9 : decode cX0_holds 9 = .ok (.getfield 9, 3) := by decide +kernel
theorem dX0_holds_12 : decode cX0_holds 12 = .ok (.iconst 1, 1) := by decide +kernel
theorem dX0_holds_13 : decode cX0_holds 13 = .ok (.if_icmp .eq 11, 3) := by decide +kernel
theorem dX0_holds_16 : decode cX0_holds 16 = .ok (.aload_n 0, 1) := by decide +kernel
theorem dX0_holds_17 : decode cX0_holds 17 = .ok (.getfield 9, 3) := by decide +kernel
theorem dX0_holds_20 : decode cX0_holds 20 = .ok (.iconst 2, 1) := by decide +kernel
theorem dX0_holds_21 : decode cX0_holds 21 = .ok (.if_icmp .ne 7, 3) := by decide +kernel
theorem dX0_holds_24 : decode cX0_holds 24 = .ok (.iconst 1, 1) := by decide +kernel
theorem dX0_holds_25 : decode cX0_holds 25 = .ok (.goto 4, 3) := by decide +kernel
theorem dX0_holds_28 : decode cX0_holds 28 = .ok (.iconst 0, 1) := by decide +kernel
theorem dX0_holds_29 : decode cX0_holds 29 = .ok (.ireturn, 1) := by decide +kernel
set_option maxRecDepth 20000 in
theorem ggX0_isWorkOf_X0_startDay : GoodIn wsX0_isWorkOf wsX0_startDay := goodIn_r _ [6, 7, 8, 9, 10, 11, 12, 13] (by decide +kernel) (by decide +kernel)
set_option maxRecDepth 20000 in
theorem gX0_isWorkOf_X0_startDay : GoodIn wsX0_isWorkOf (wsV RX0 30 RX0 yX0_startDay wsX0_startDay) := goodIn_app (goodIn_of _ (by decide +kernel)) ggX0_isWorkOf_X0_startDay
theorem dX0_isWorkOf_0 : decode cX0_isWorkOf 0 = .ok (.aload_n 0, 1) := by decide +kernel
theorem dX0_isWorkOf_1 : decode cX0_isWorkOf 1 = .ok (.getfield 18, 3) := by decide +kernel
theorem dX0_isWorkOf_4 : decode cX0_isWorkOf 4 = .ok (.iload_n 1, 1) := by decide +kernel
theorem dX0_isWorkOf_5 : decode cX0_isWorkOf 5 = .ok (.if_icmp .ne 15, 3) := by decide +kernel
theorem dX0_isWorkOf_8 : decode cX0_isWorkOf 8 = .ok (.aload_n 0, 1) := by decide +kernel
theorem dX0_isWorkOf_9 : decode cX0_isWorkOf 9 = .ok (.invokevirtual 30, 3) := by decide +kernel
theorem dX0_isWorkOf_12 : decode cX0_isWorkOf 12 = .ok (.iload_n 2, 1) := by decide +kernel
theorem dX0_isWorkOf_13 : decode cX0_isWorkOf 13 = .ok (.if_icmp .ne 7, 3) := by decide +kernel
theorem dX0_isWorkOf_16 : decode cX0_isWorkOf 16 = .ok (.iconst 1, 1) := by decide +kernel
theorem dX0_isWorkOf_17 : decode cX0_isWorkOf 17 = .ok (.goto 4, 3) := by decide +kernel
theorem dX0_isWorkOf_20 : decode cX0_isWorkOf 20 = .ok (.iconst 0, 1) := by decide +kernel
theorem dX0_isWorkOf_21 : decode cX0_isWorkOf 21 = .ok (.ireturn, 1) := by decide +kernel
theorem dX0_meets_0 : decode cX0_meets 0 = .ok (.aload_n 0, 1) := by decide +kernel
theorem dX0_meets_1 : decode cX0_meets 1 = .ok (.getfield 21, 3) := by decide +kernel
theorem dX0_meets_4 : decode cX0_meets 4 = .ok (.aload_n 1, 1) := by decide +kernel
theorem dX0_meets_5 : decode cX0_meets 5 = .ok (.getfield 24, 3) := by decide +kernel
theorem dX0_meets_8 : decode cX0_meets 8 = .ok (.if_icmp .ge 18, 3) := by decide +kernel
theorem dX0_meets_11 : decode cX0_meets 11 = .ok (.aload_n 1, 1) := by decide +kernel
theorem dX0_meets_12 : decode cX0_meets 12 = .ok (.getfield 21, 3) := by decide +kernel
theorem dX0_meets_15 : decode cX0_meets 15 = .ok (.aload_n 0, 1) := by decide +kernel
theorem dX0_meets_16 : decode cX0_meets 16 = .ok (.getfield 24, 3) := by decide +kernel
theorem dX0_meets_19 : decode cX0_meets 19 = .ok (.if_icmp .ge 7, 3) := by decide +kernel
theorem dX0_meets_22 : decode cX0_meets 22 = .ok (.iconst 1, 1) := by decide +kernel
theorem dX0_meets_23 : decode cX0_meets 23 = .ok (.goto 4, 3) := by decide +kernel
theorem dX0_meets_26 : decode cX0_meets 26 = .ok (.iconst 0, 1) := by decide +kernel
theorem dX0_meets_27 : decode cX0_meets 27 = .ok (.ireturn, 1) := by decide +kernel
theorem dX0_isRestedFrom_0 : decode cX0_isRestedFrom 0 = .ok (.aload_n 0, 1) := by decide +kernel
theorem dX0_isRestedFrom_1 : decode cX0_isRestedFrom 1 = .ok (.getfield 24, 3) := by decide +kernel
theorem dX0_isRestedFrom_4 : decode cX0_isRestedFrom 4 = .ok (.bipush 30, 2) := by decide +kernel
theorem dX0_isRestedFrom_6 : decode cX0_isRestedFrom 6 = .ok (.iadd, 1) := by decide +kernel
theorem dX0_isRestedFrom_7 : decode cX0_isRestedFrom 7 = .ok (.aload_n 1, 1) := by decide +kernel
theorem dX0_isRestedFrom_8 : decode cX0_isRestedFrom 8 = .ok (.getfield 21, 3) := by decide +kernel
theorem dX0_isRestedFrom_11 : decode cX0_isRestedFrom 11 = .ok (.if_icmp .le 17, 3) := by decide +kernel
theorem dX0_isRestedFrom_14 : decode cX0_isRestedFrom 14 = .ok (.aload_n 1, 1) := by decide +kernel
theorem dX0_isRestedFrom_15 : decode cX0_isRestedFrom 15 = .ok (.getfield 24, 3) := by decide +kernel
theorem dX0_isRestedFrom_18 : decode cX0_isRestedFrom 18 = .ok (.bipush 30, 2) := by decide +kernel
theorem dX0_isRestedFrom_20 : decode cX0_isRestedFrom 20 = .ok (.iadd, 1) := by decide +kernel
theorem dX0_isRestedFrom_21 : decode cX0_isRestedFrom 21 = .ok (.aload_n 0, 1) := by decide +kernel
theorem dX0_isRestedFrom_22 : decode cX0_isRestedFrom 22 = .ok (.getfield 21, 3) := by decide +kernel
theorem dX0_isRestedFrom_25 : decode cX0_isRestedFrom 25 = .ok (.if_icmp .gt 7, 3) := by decide +kernel
theorem dX0_isRestedFrom_28 : decode cX0_isRestedFrom 28 = .ok (.iconst 1, 1) := by decide +kernel
theorem dX0_isRestedFrom_29 : decode cX0_isRestedFrom 29 = .ok (.goto 4, 3) := by decide +kernel
theorem dX0_isRestedFrom_32 : decode cX0_isRestedFrom 32 = .ok (.iconst 0, 1) := by decide +kernel
theorem dX0_isRestedFrom_33 : decode cX0_isRestedFrom 33 = .ok (.ireturn, 1) := by decide +kernel
theorem dX0_startDay_0 : decode cX0_startDay 0 = .ok (.aload_n 0, 1) := by decide +kernel
theorem dX0_startDay_1 : decode cX0_startDay 1 = .ok (.getfield 21, 3) := by decide +kernel
theorem dX0_startDay_4 : decode cX0_startDay 4 = .ok (.sipush 1440, 3) := by decide +kernel
theorem dX0_startDay_7 : decode cX0_startDay 7 = .ok (.idiv, 1) := by decide +kernel
theorem dX0_startDay_8 : decode cX0_startDay 8 = .ok (.ireturn, 1) := by decide +kernel
theorem dX0_length_0 : decode cX0_length 0 = .ok (.aload_n 0, 1) := by decide +kernel
theorem dX0_length_1 : decode cX0_length 1 = .ok (.getfield 24, 3) := by decide +kernel
theorem dX0_length_4 : decode cX0_length 4 = .ok (.aload_n 0, 1) := by decide +kernel
theorem dX0_length_5 : decode cX0_length 5 = .ok (.getfield 21, 3) := by decide +kernel
theorem dX0_length_8 : decode cX0_length 8 = .ok (.isub, 1) := by decide +kernel
theorem dX0_length_9 : decode cX0_length 9 = .ok (.ireturn, 1) := by decide +kernel
set_option maxRecDepth 20000 in
theorem ggX1_init_X0_init : GoodIn wsX1_init wsX0_init := goodIn_r _ [22, 23, 2, 3, 24, 25, 26, 39, 40, 41, 42, 43, 44] (by decide +kernel) (by decide +kernel)
set_option maxRecDepth 20000 in
theorem gX1_init_X0_init_n51 : GoodIn wsX1_init (wsX0_init) := ggX1_init_X0_init
theorem dX1_init_0 : decode cX1_init 0 = .ok (.aload_n 0, 1) := by decide +kernel
theorem dX1_init_1 : decode cX1_init 1 = .ok (.invokespecial 1, 3) := by decide +kernel
theorem dX1_init_4 : decode cX1_init 4 = .ok (.aload_n 0, 1) := by decide +kernel
theorem dX1_init_5 : decode cX1_init 5 = .ok (.bipush 30, 2) := by decide +kernel
theorem dX1_init_7 : decode cX1_init 7 = .ok (.anewarray 9, 3) := by decide +kernel
theorem dX1_init_10 : decode cX1_init 10 = .ok (.putfield 11, 3) := by decide +kernel
theorem dX1_init_13 : decode cX1_init 13 = .ok (.aload_n 0, 1) := by decide +kernel
theorem dX1_init_14 : decode cX1_init 14 = .ok (.iconst 5, 1) := by decide +kernel
theorem dX1_init_15 : decode cX1_init 15 = .ok (.newarray .int, 2) := by decide +kernel
theorem dX1_init_17 : decode cX1_init 17 = .ok (.putfield 15, 3) := by decide +kernel
theorem dX1_init_20 : decode cX1_init 20 = .ok (.aload_n 0, 1) := by decide +kernel
theorem dX1_init_21 : decode cX1_init 21 = .ok (.iconst 5, 1) := by decide +kernel
theorem dX1_init_22 : decode cX1_init 22 = .ok (.newarray .boolean, 2) := by decide +kernel
theorem dX1_init_24 : decode cX1_init 24 = .ok (.putfield 19, 3) := by decide +kernel
theorem dX1_init_27 : decode cX1_init 27 = .ok (.aload_n 0, 1) := by decide +kernel
theorem dX1_init_28 : decode cX1_init 28 = .ok (.iconst 5, 1) := by decide +kernel
theorem dX1_init_29 : decode cX1_init 29 = .ok (.newarray .boolean, 2) := by decide +kernel
theorem dX1_init_31 : decode cX1_init 31 = .ok (.putfield 23, 3) := by decide +kernel
theorem dX1_init_34 : decode cX1_init 34 = .ok (.aload_n 0, 1) := by decide +kernel
theorem dX1_init_35 : decode cX1_init 35 = .ok (.iconst 2, 1) := by decide +kernel
theorem dX1_init_36 : decode cX1_init 36 = .ok (.newarray .int, 2) := by decide +kernel
theorem dX1_init_38 : decode cX1_init 38 = .ok (.putfield 26, 3) := by decide +kernel
theorem dX1_init_41 : decode cX1_init 41 = .ok (.aload_n 0, 1) := by decide +kernel
theorem dX1_init_42 : decode cX1_init 42 = .ok (.sipush 1000, 3) := by decide +kernel
theorem dX1_init_45 : decode cX1_init 45 = .ok (.newarray .int, 2) := by decide +kernel
theorem dX1_init_47 : decode cX1_init 47 = .ok (.putfield 29, 3) := by decide +kernel
theorem dX1_init_50 : decode cX1_init 50 = .ok (.aload_n 0, 1) := by decide +kernel
theorem dX1_init_51 : decode cX1_init 51 = .ok (.sipush 1000, 3) := by decide +kernel
theorem dX1_init_54 : decode cX1_init 54 = .ok (.newarray .int, 2) := by decide +kernel
theorem dX1_init_56 : decode cX1_init 56 = .ok (.putfield 32, 3) := by decide +kernel
theorem dX1_init_59 : decode cX1_init 59 = .ok (.aload_n 0, 1) := by decide +kernel
theorem dX1_init_60 : decode cX1_init 60 = .ok (.iconst 0, 1) := by decide +kernel
theorem dX1_init_61 : decode cX1_init 61 = .ok (.putfield 35, 3) := by decide +kernel
theorem dX1_init_64 : decode cX1_init 64 = .ok (.aload_n 0, 1) := by decide +kernel
theorem dX1_init_65 : decode cX1_init 65 = .ok (.iconst 0, 1) := by decide +kernel
theorem dX1_init_66 : decode cX1_init 66 = .ok (.putfield 39, 3) := by decide +kernel
theorem dX1_init_69 : decode cX1_init 69 = .ok (.aload_n 0, 1) := by decide +kernel
theorem dX1_init_70 : decode cX1_init 70 = .ok (.iconst 0, 1) := by decide +kernel
theorem dX1_init_71 : decode cX1_init 71 = .ok (.putfield 42, 3) := by decide +kernel
theorem dX1_init_74 : decode cX1_init 74 = .ok (.aload_n 0, 1) := by decide +kernel
theorem dX1_init_75 : decode cX1_init 75 = .ok (.iconst (-1), 1) := by decide +kernel
theorem dX1_init_76 : decode cX1_init 76 = .ok (.putfield 45, 3) := by decide +kernel
theorem dX1_init_79 : decode cX1_init 79 = .ok (.aload_n 0, 1) := by decide +kernel
theorem dX1_init_80 : decode cX1_init 80 = .ok (.iconst 0, 1) := by decide +kernel
theorem dX1_init_81 : decode cX1_init 81 = .ok (.putfield 48, 3) := by decide +kernel
theorem dX1_init_84 : decode cX1_init 84 = .ok (.iconst 0, 1) := by decide +kernel
theorem dX1_init_85 : decode cX1_init 85 = .ok (.istore_n 1, 1) := by decide +kernel
theorem dX1_init_86 : decode cX1_init 86 = .ok (.iload_n 1, 1) := by decide +kernel
theorem dX1_init_87 : decode cX1_init 87 = .ok (.bipush 30, 2) := by decide +kernel
theorem dX1_init_89 : decode cX1_init 89 = .ok (.if_icmp .ge 22, 3) := by decide +kernel
theorem dX1_init_92 : decode cX1_init 92 = .ok (.aload_n 0, 1) := by decide +kernel
theorem dX1_init_93 : decode cX1_init 93 = .ok (.getfield 11, 3) := by decide +kernel
theorem dX1_init_96 : decode cX1_init 96 = .ok (.iload_n 1, 1) := by decide +kernel
theorem dX1_init_97 : decode cX1_init 97 = .ok (.new 9, 3) := by decide +kernel
theorem dX1_init_100 : decode cX1_init 100 = .ok (.dup, 1) := by decide +kernel
theorem dX1_init_101 : decode cX1_init 101 = .ok (.invokespecial 51, 3) := by decide +kernel
theorem dX1_init_104 : decode cX1_init 104 = .ok (.aastore, 1) := by decide +kernel
theorem dX1_init_105 : decode cX1_init 105 = .ok (.iinc 1 1, 3) := by decide +kernel
theorem dX1_init_108 : decode cX1_init 108 = .ok (.goto (-22), 3) := by decide +kernel
theorem dX1_init_111 : decode cX1_init 111 = .ok (.iconst 0, 1) := by decide +kernel
theorem dX1_init_112 : decode cX1_init 112 = .ok (.istore_n 1, 1) := by decide +kernel
theorem dX1_init_113 : decode cX1_init 113 = .ok (.iload_n 1, 1) := by decide +kernel
theorem dX1_init_114 : decode cX1_init 114 = .ok (.iconst 5, 1) := by decide +kernel
theorem dX1_init_115 : decode cX1_init 115 = .ok (.if_icmp .ge 17, 3) := by decide +kernel
theorem dX1_init_118 : decode cX1_init 118 = .ok (.aload_n 0, 1) := by decide +kernel
theorem dX1_init_119 : decode cX1_init 119 = .ok (.getfield 15, 3) := by decide +kernel
theorem dX1_init_122 : decode cX1_init 122 = .ok (.iload_n 1, 1) := by decide +kernel
theorem dX1_init_123 : decode cX1_init 123 = .ok (.bipush 100, 2) := by decide +kernel
theorem dX1_init_125 : decode cX1_init 125 = .ok (.iastore, 1) := by decide +kernel
theorem dX1_init_126 : decode cX1_init 126 = .ok (.iinc 1 1, 3) := by decide +kernel
theorem dX1_init_129 : decode cX1_init 129 = .ok (.goto (-16), 3) := by decide +kernel
theorem dX1_init_132 : decode cX1_init 132 = .ok (.iconst 0, 1) := by decide +kernel
theorem dX1_init_133 : decode cX1_init 133 = .ok (.istore_n 1, 1) := by decide +kernel
theorem dX1_init_134 : decode cX1_init 134 = .ok (.iload_n 1, 1) := by decide +kernel
theorem dX1_init_135 : decode cX1_init 135 = .ok (.iconst 2, 1) := by decide +kernel
theorem dX1_init_136 : decode cX1_init 136 = .ok (.if_icmp .ge 16, 3) := by decide +kernel
theorem dX1_init_139 : decode cX1_init 139 = .ok (.aload_n 0, 1) := by decide +kernel
theorem dX1_init_140 : decode cX1_init 140 = .ok (.getfield 26, 3) := by decide +kernel
theorem dX1_init_143 : decode cX1_init 143 = .ok (.iload_n 1, 1) := by decide +kernel
theorem dX1_init_144 : decode cX1_init 144 = .ok (.iconst (-1), 1) := by decide +kernel
theorem dX1_init_145 : decode cX1_init 145 = .ok (.iastore, 1) := by decide +kernel
theorem dX1_init_146 : decode cX1_init 146 = .ok (.iinc 1 1, 3) := by decide +kernel
theorem dX1_init_149 : decode cX1_init 149 = .ok (.goto (-15), 3) := by decide +kernel
theorem dX1_init_152 : decode cX1_init 152 = .ok (.iconst 0, 1) := by decide +kernel
theorem dX1_init_153 : decode cX1_init 153 = .ok (.istore_n 1, 1) := by decide +kernel
theorem dX1_init_154 : decode cX1_init 154 = .ok (.iload_n 1, 1) := by decide +kernel
theorem dX1_init_155 : decode cX1_init 155 = .ok (.sipush 1000, 3) := by decide +kernel
theorem dX1_init_158 : decode cX1_init 158 = .ok (.if_icmp .ge 16, 3) := by decide +kernel
theorem dX1_init_161 : decode cX1_init 161 = .ok (.aload_n 0, 1) := by decide +kernel
theorem dX1_init_162 : decode cX1_init 162 = .ok (.getfield 32, 3) := by decide +kernel
theorem dX1_init_165 : decode cX1_init 165 = .ok (.iload_n 1, 1) := by decide +kernel
theorem dX1_init_166 : decode cX1_init 166 = .ok (.iconst (-1), 1) := by decide +kernel
theorem dX1_init_167 : decode cX1_init 167 = .ok (.iastore, 1) := by decide +kernel
theorem dX1_init_168 : decode cX1_init 168 = .ok (.iinc 1 1, 3) := by decide +kernel
theorem dX1_init_171 : decode cX1_init 171 = .ok (.goto (-17), 3) := by decide +kernel
theorem dX1_init_174 : decode cX1_init 174 = .ok (.return_, 1) := by decide +kernel
set_option maxRecDepth 20000 in
theorem ggX1_run_X1_requireRange : GoodIn wsX1_run wsX1_requireRange := goodIn_ca (goodIn_r _ [9, 10, 11] (by decide +kernel) (by decide +kernel)) (goodIn_sub (fun _ h => List.mem_cons_of_mem _ (List.mem_append_right _ h)) (by decide +kernel))
set_option maxRecDepth 20000 in
theorem gX1_run_X1_requireRange : GoodIn wsX1_run (va_wsS RX1 52 yX1_requireRange wsX1_requireRange) := goodIn_app (goodIn_of _ (by decide +kernel)) ggX1_run_X1_requireRange
set_option maxRecDepth 20000 in
theorem ggX1_run_X0_tell : GoodIn wsX1_run wsX0_tell := goodIn_r _ [16, 17, 18, 19, 32, 33, 34, 35, 36, 37] (by decide +kernel) (by decide +kernel)
set_option maxRecDepth 20000 in
theorem gX1_run_X0_tell : GoodIn wsX1_run (wsV RX1 63 RX0 yX0_tell wsX0_tell) := goodIn_app (goodIn_of _ (by decide +kernel)) ggX1_run_X0_tell
theorem dX1_run_0 : decode cX1_run 0 = .ok (.iload_n 1, 1) := by decide +kernel
theorem dX1_run_1 : decode cX1_run 1 = .ok (.aload_n 0, 1) := by decide +kernel
theorem dX1_run_2 : decode cX1_run 2 = .ok (.getfield 35, 3) := by decide +kernel
theorem dX1_run_5 : decode cX1_run 5 = .ok (.iconst 1, 1) := by decide +kernel
theorem dX1_run_6 : decode cX1_run 6 = .ok (.iadd, 1) := by decide +kernel
theorem dX1_run_7 : decode cX1_run 7 = .ok (.sipush 20000, 3) := by decide +kernel
theorem dX1_run_10 : decode cX1_run 10 = .ok (.invokestatic 52, 3) := by decide +kernel
theorem dX1_run_13 : decode cX1_run 13 = .ok (.iload_n 2, 1) := by decide +kernel
theorem dX1_run_14 : decode cX1_run 14 = .ok (.iconst 1, 1) := by decide +kernel
theorem dX1_run_15 : decode cX1_run 15 = .ok (.sipush 600, 3) := by decide +kernel
theorem dX1_run_18 : decode cX1_run 18 = .ok (.invokestatic 52, 3) := by decide +kernel
theorem dX1_run_21 : decode cX1_run 21 = .ok (.iload_n 1, 1) := by decide +kernel
theorem dX1_run_22 : decode cX1_run 22 = .ok (.sipush 1440, 3) := by decide +kernel
theorem dX1_run_25 : decode cX1_run 25 = .ok (.irem, 1) := by decide +kernel
theorem dX1_run_26 : decode cX1_run 26 = .ok (.iload_n 2, 1) := by decide +kernel
theorem dX1_run_27 : decode cX1_run 27 = .ok (.iadd, 1) := by decide +kernel
theorem dX1_run_28 : decode cX1_run 28 = .ok (.iconst 1, 1) := by decide +kernel
theorem dX1_run_29 : decode cX1_run 29 = .ok (.sipush 1440, 3) := by decide +kernel
theorem dX1_run_32 : decode cX1_run 32 = .ok (.invokestatic 52, 3) := by decide +kernel
theorem dX1_run_35 : decode cX1_run 35 = .ok (.iload_n 3, 1) := by decide +kernel
theorem dX1_run_36 : decode cX1_run 36 = .ok (.iconst 0, 1) := by decide +kernel
theorem dX1_run_37 : decode cX1_run 37 = .ok (.bipush 100, 2) := by decide +kernel
theorem dX1_run_39 : decode cX1_run 39 = .ok (.invokestatic 52, 3) := by decide +kernel
theorem dX1_run_42 : decode cX1_run 42 = .ok (.aload_n 0, 1) := by decide +kernel
theorem dX1_run_43 : decode cX1_run 43 = .ok (.getfield 39, 3) := by decide +kernel
theorem dX1_run_46 : decode cX1_run 46 = .ok (.bipush 30, 2) := by decide +kernel
theorem dX1_run_48 : decode cX1_run 48 = .ok (.if_icmp .lt 13, 3) := by decide +kernel
theorem dX1_run_51 : decode cX1_run 51 = .ok (.new 56, 3) := by decide +kernel
theorem dX1_run_54 : decode cX1_run 54 = .ok (.dup, 1) := by decide +kernel
theorem dX1_run_55 : decode cX1_run 55 = .ok (.ldc 58, 2) := by decide +kernel
theorem dX1_run_57 : decode cX1_run 57 = .ok (.invokespecial 60, 3) := by decide +kernel
theorem dX1_run_60 : decode cX1_run 60 = .ok (.athrow, 1) := by decide +kernel
theorem dX1_run_61 : decode cX1_run 61 = .ok (.aload_n 0, 1) := by decide +kernel
theorem dX1_run_62 : decode cX1_run 62 = .ok (.getfield 39, 3) := by decide +kernel
theorem dX1_run_65 : decode cX1_run 65 = .ok (.istore 4, 2) := by decide +kernel
theorem dX1_run_67 : decode cX1_run 67 = .ok (.aload_n 0, 1) := by decide +kernel
theorem dX1_run_68 : decode cX1_run 68 = .ok (.getfield 11, 3) := by decide +kernel
theorem dX1_run_71 : decode cX1_run 71 = .ok (.iload 4, 2) := by decide +kernel
theorem dX1_run_73 : decode cX1_run 73 = .ok (.aaload, 1) := by decide +kernel
theorem dX1_run_74 : decode cX1_run 74 = .ok (.iload_n 1, 1) := by decide +kernel
theorem dX1_run_75 : decode cX1_run 75 = .ok (.iload_n 2, 1) := by decide +kernel
theorem dX1_run_76 : decode cX1_run 76 = .ok (.iload_n 3, 1) := by decide +kernel
theorem dX1_run_77 : decode cX1_run 77 = .ok (.invokevirtual 63, 3) := by decide +kernel
theorem dX1_run_80 : decode cX1_run 80 = .ok (.aload_n 0, 1) := by decide +kernel
theorem dX1_run_81 : decode cX1_run 81 = .ok (.dup, 1) := by decide +kernel
theorem dX1_run_82 : decode cX1_run 82 = .ok (.getfield 39, 3) := by decide +kernel
theorem dX1_run_85 : decode cX1_run 85 = .ok (.iconst 1, 1) := by decide +kernel
theorem dX1_run_86 : decode cX1_run 86 = .ok (.iadd, 1) := by decide +kernel
theorem dX1_run_87 : decode cX1_run 87 = .ok (.putfield 39, 3) := by decide +kernel
theorem dX1_run_90 : decode cX1_run 90 = .ok (.iload 4, 2) := by decide +kernel
theorem dX1_run_92 : decode cX1_run 92 = .ok (.ireturn, 1) := by decide +kernel
set_option maxRecDepth 20000 in
theorem ggX1_lead_X1_requireIndex : GoodIn wsX1_lead wsX1_requireIndex := goodIn_ca (goodIn_r _ [7, 8, 9] (by decide +kernel) (by decide +kernel)) (goodIn_sub (fun _ h => List.mem_cons_of_mem _ (List.mem_append_left _ (List.mem_append_right _ h))) (by decide +kernel))
set_option maxRecDepth 20000 in
theorem gX1_lead_X1_requireIndex : GoodIn wsX1_lead (va_wsS RX1 66 yX1_requireIndex wsX1_requireIndex) := goodIn_app (goodIn_of _ (by decide +kernel)) ggX1_lead_X1_requireIndex
set_option maxRecDepth 20000 in
theorem ggX1_lead_X1_requireRange : GoodIn wsX1_lead wsX1_requireRange := goodIn_ca (goodIn_r _ [12, 13, 14] (by decide +kernel) (by decide +kernel)) (goodIn_sub (fun _ h => List.mem_cons_of_mem _ (List.mem_append_right _ h)) (by decide +kernel))
set_option maxRecDepth 20000 in
theorem gX1_lead_X1_requireRange : GoodIn wsX1_lead (va_wsS RX1 52 yX1_requireRange wsX1_requireRange) := goodIn_app (goodIn_of _ (by decide +kernel)) ggX1_lead_X1_requireRange
set_option maxRecDepth 20000 in
theorem ggX1_lead_X1_leader : GoodIn wsX1_lead wsX1_leader := goodIn_r _ [18, 2, 3, 1, 19, 20, 21, 22, 23, 24, 25, 26, 27, 28, 29, 30] (by decide +kernel) (by decide +kernel)
set_option maxRecDepth 20000 in
theorem gX1_lead_X1_leader : GoodIn wsX1_lead (wsV RX1 70 RX1 yX1_leader wsX1_leader) := goodIn_app (goodIn_of _ (by decide +kernel)) ggX1_lead_X1_leader
theorem dX1_lead_0 : decode cX1_lead 0 = .ok (.iload_n 1, 1) := by decide +kernel
theorem dX1_lead_1 : decode cX1_lead 1 = .ok (.iconst 2, 1) := by decide +kernel
theorem dX1_lead_2 : decode cX1_lead 2 = .ok (.invokestatic 66, 3) := by decide +kernel
theorem dX1_lead_5 : decode cX1_lead 5 = .ok (.iload_n 2, 1) := by decide +kernel
theorem dX1_lead_6 : decode cX1_lead 6 = .ok (.iconst 1, 1) := by decide +kernel
theorem dX1_lead_7 : decode cX1_lead 7 = .ok (.sipush 1000, 3) := by decide +kernel
theorem dX1_lead_10 : decode cX1_lead 10 = .ok (.invokestatic 52, 3) := by decide +kernel
theorem dX1_lead_13 : decode cX1_lead 13 = .ok (.aload_n 0, 1) := by decide +kernel
theorem dX1_lead_14 : decode cX1_lead 14 = .ok (.invokevirtual 70, 3) := by decide +kernel
theorem dX1_lead_17 : decode cX1_lead 17 = .ok (.istore_n 3, 1) := by decide +kernel
theorem dX1_lead_18 : decode cX1_lead 18 = .ok (.iload_n 3, 1) := by decide +kernel
theorem dX1_lead_19 : decode cX1_lead 19 = .ok (.iconst (-1), 1) := by decide +kernel
theorem dX1_lead_20 : decode cX1_lead 20 = .ok (.if_icmp .eq 10, 3) := by decide +kernel
theorem dX1_lead_23 : decode cX1_lead 23 = .ok (.iload_n 3, 1) := by decide +kernel
theorem dX1_lead_24 : decode cX1_lead 24 = .ok (.iload_n 1, 1) := by decide +kernel
theorem dX1_lead_25 : decode cX1_lead 25 = .ok (.if_icmp .eq 5, 3) := by decide +kernel
theorem dX1_lead_28 : decode cX1_lead 28 = .ok (.iconst 0, 1) := by decide +kernel
theorem dX1_lead_29 : decode cX1_lead 29 = .ok (.ireturn, 1) := by decide +kernel
theorem dX1_lead_30 : decode cX1_lead 30 = .ok (.aload_n 0, 1) := by decide +kernel
theorem dX1_lead_31 : decode cX1_lead 31 = .ok (.iload_n 1, 1) := by decide +kernel
theorem dX1_lead_32 : decode cX1_lead 32 = .ok (.putfield 45, 3) := by decide +kernel
theorem dX1_lead_35 : decode cX1_lead 35 = .ok (.aload_n 0, 1) := by decide +kernel
theorem dX1_lead_36 : decode cX1_lead 36 = .ok (.aload_n 0, 1) := by decide +kernel
theorem dX1_lead_37 : decode cX1_lead 37 = .ok (.getfield 35, 3) := by decide +kernel
theorem dX1_lead_40 : decode cX1_lead 40 = .ok (.iload_n 2, 1) := by decide +kernel
theorem dX1_lead_41 : decode cX1_lead 41 = .ok (.iadd, 1) := by decide +kernel
theorem dX1_lead_42 : decode cX1_lead 42 = .ok (.putfield 48, 3) := by decide +kernel
theorem dX1_lead_45 : decode cX1_lead 45 = .ok (.iconst 1, 1) := by decide +kernel
theorem dX1_lead_46 : decode cX1_lead 46 = .ok (.ireturn, 1) := by decide +kernel
set_option maxRecDepth 20000 in
theorem ggX1_order_X1_requireIndex : GoodIn wsX1_order wsX1_requireIndex := goodIn_ca (goodIn_r _ [9, 10, 11] (by decide +kernel) (by decide +kernel)) (goodIn_sub (fun _ h => List.mem_cons_of_mem _ (List.mem_append_left _ (List.mem_append_right _ h))) (by decide +kernel))
set_option maxRecDepth 20000 in
theorem gX1_order_X1_requireIndex : GoodIn wsX1_order (va_wsS RX1 66 yX1_requireIndex wsX1_requireIndex) := goodIn_app (goodIn_of _ (by decide +kernel)) ggX1_order_X1_requireIndex
set_option maxRecDepth 20000 in
theorem ggX1_order_X1_requireRange : GoodIn wsX1_order wsX1_requireRange := goodIn_ca (goodIn_r _ [14, 15, 16] (by decide +kernel) (by decide +kernel)) (goodIn_sub (fun _ h => List.mem_cons_of_mem _ (List.mem_append_right _ h)) (by decide +kernel))
set_option maxRecDepth 20000 in
theorem gX1_order_X1_requireRange : GoodIn wsX1_order (va_wsS RX1 52 yX1_requireRange wsX1_requireRange) := goodIn_app (goodIn_of _ (by decide +kernel)) ggX1_order_X1_requireRange
set_option maxRecDepth 20000 in
theorem ggX1_order_X1_leader : GoodIn wsX1_order wsX1_leader := goodIn_r _ [20, 21, 22, 23, 92, 93, 94, 95, 96, 97, 98, 99, 100, 101, 102, 103] (by decide +kernel) (by decide +kernel)
set_option maxRecDepth 20000 in
theorem gX1_order_X1_leader : GoodIn wsX1_order (wsV RX1 70 RX1 yX1_leader wsX1_leader) := goodIn_app (goodIn_of _ (by decide +kernel)) ggX1_order_X1_leader
set_option maxRecDepth 20000 in
theorem ggX1_order_X1_canBeOrdered : GoodIn wsX1_order wsX1_canBeOrdered := goodIn_r _ [27, 28, 29, 21, 30, 31, 32, 8, 33, 34, 35, 36, 3, 5, 37, 38, 39, 40, 41, 42, 43, 44, 45, 46, 47, 48, 49, 50, 51, 52, 53, 54, 55, 56, 57, 58, 59, 60, 61, 62, 63, 64, 65, 66, 67, 68, 69, 70, 71, 72, 73, 74, 75, 76, 77, 78, 79, 80, 81, 104, 105, 106, 107, 108, 109, 92, 93, 94, 95, 96, 97, 98, 99, 100, 101, 102, 103] (by decide +kernel) (by decide +kernel)
set_option maxRecDepth 20000 in
theorem gX1_order_X1_canBeOrdered : GoodIn wsX1_order (wsV RX1 74 RX1 yX1_canBeOrdered wsX1_canBeOrdered) := goodIn_app (goodIn_of _ (by decide +kernel)) ggX1_order_X1_canBeOrdered
set_option maxRecDepth 20000 in
theorem ggX1_order_X0_give : GoodIn wsX1_order wsX0_give := goodIn_r _ [85, 48, 47, 72, 104, 105, 106, 107, 108, 109] (by decide +kernel) (by decide +kernel)
set_option maxRecDepth 20000 in
theorem gX1_order_X0_give : GoodIn wsX1_order (wsV RX1 80 RX0 yX0_give wsX0_give) := goodIn_app (goodIn_of _ (by decide +kernel)) ggX1_order_X0_give
set_option maxRecDepth 20000 in
theorem ggX1_order_X1_write : GoodIn wsX1_order wsX1_write := goodIn_r _ [89, 90, 91, 4, 92, 93, 94, 95, 96, 97, 98, 99, 100, 101, 102, 103] (by decide +kernel) (by decide +kernel)
set_option maxRecDepth 20000 in
theorem gX1_order_X1_write : GoodIn wsX1_order (wsV RX1 83 RX1 yX1_write wsX1_write) := goodIn_app (goodIn_of _ (by decide +kernel)) ggX1_order_X1_write
theorem dX1_order_0 : decode cX1_order 0 = .ok (.iload_n 1, 1) := by decide +kernel
theorem dX1_order_1 : decode cX1_order 1 = .ok (.iconst 2, 1) := by decide +kernel
theorem dX1_order_2 : decode cX1_order 2 = .ok (.invokestatic 66, 3) := by decide +kernel
theorem dX1_order_5 : decode cX1_order 5 = .ok (.iload_n 3, 1) := by decide +kernel
theorem dX1_order_6 : decode cX1_order 6 = .ok (.aload_n 0, 1) := by decide +kernel
theorem dX1_order_7 : decode cX1_order 7 = .ok (.getfield 39, 3) := by decide +kernel
theorem dX1_order_10 : decode cX1_order 10 = .ok (.invokestatic 66, 3) := by decide +kernel
theorem dX1_order_13 : decode cX1_order 13 = .ok (.iload 4, 2) := by decide +kernel
theorem dX1_order_15 : decode cX1_order 15 = .ok (.iconst 5, 1) := by decide +kernel
theorem dX1_order_16 : decode cX1_order 16 = .ok (.invokestatic 66, 3) := by decide +kernel
theorem dX1_order_19 : decode cX1_order 19 = .ok (.iload 5, 2) := by decide +kernel
theorem dX1_order_21 : decode cX1_order 21 = .ok (.iconst 5, 1) := by decide +kernel
theorem dX1_order_22 : decode cX1_order 22 = .ok (.invokestatic 66, 3) := by decide +kernel
theorem dX1_order_25 : decode cX1_order 25 = .ok (.iload_n 2, 1) := by decide +kernel
theorem dX1_order_26 : decode cX1_order 26 = .ok (.iconst 0, 1) := by decide +kernel
theorem dX1_order_27 : decode cX1_order 27 = .ok (.sipush 999, 3) := by decide +kernel
theorem dX1_order_30 : decode cX1_order 30 = .ok (.invokestatic 52, 3) := by decide +kernel
theorem dX1_order_33 : decode cX1_order 33 = .ok (.aload_n 0, 1) := by decide +kernel
theorem dX1_order_34 : decode cX1_order 34 = .ok (.getfield 32, 3) := by decide +kernel
theorem dX1_order_37 : decode cX1_order 37 = .ok (.iload_n 2, 1) := by decide +kernel
theorem dX1_order_38 : decode cX1_order 38 = .ok (.iaload, 1) := by decide +kernel
theorem dX1_order_39 : decode cX1_order 39 = .ok (.iconst (-1), 1) := by decide +kernel
theorem dX1_order_40 : decode cX1_order 40 = .ok (.if_icmp .eq 10, 3) := by decide +kernel
theorem dX1_order_43 : decode cX1_order 43 = .ok (.aload_n 0, 1) := by decide +kernel
theorem dX1_order_44 : decode cX1_order 44 = .ok (.getfield 32, 3) := by decide +kernel
theorem dX1_order_47 : decode cX1_order 47 = .ok (.iload_n 2, 1) := by decide +kernel
theorem dX1_order_48 : decode cX1_order 48 = .ok (.iaload, 1) := by decide +kernel
theorem dX1_order_49 : decode cX1_order 49 = .ok (.ireturn, 1) := by decide +kernel
theorem dX1_order_50 : decode cX1_order 50 = .ok (.aload_n 0, 1) := by decide +kernel
theorem dX1_order_51 : decode cX1_order 51 = .ok (.invokevirtual 70, 3) := by decide +kernel
theorem dX1_order_54 : decode cX1_order 54 = .ok (.iload_n 1, 1) := by decide +kernel
theorem dX1_order_55 : decode cX1_order 55 = .ok (.if_icmp .ne 20, 3) := by decide +kernel
theorem dX1_order_58 : decode cX1_order 58 = .ok (.aload_n 0, 1) := by decide +kernel
theorem dX1_order_59 : decode cX1_order 59 = .ok (.aload_n 0, 1) := by decide +kernel
theorem dX1_order_60 : decode cX1_order 60 = .ok (.getfield 11, 3) := by decide +kernel
theorem dX1_order_63 : decode cX1_order 63 = .ok (.iload_n 3, 1) := by decide +kernel
theorem dX1_order_64 : decode cX1_order 64 = .ok (.aaload, 1) := by decide +kernel
theorem dX1_order_65 : decode cX1_order 65 = .ok (.iload 4, 2) := by decide +kernel
theorem dX1_order_67 : decode cX1_order 67 = .ok (.iload 5, 2) := by decide +kernel
theorem dX1_order_69 : decode cX1_order 69 = .ok (.invokevirtual 74, 3) := by decide +kernel
theorem dX1_order_72 : decode cX1_order 72 = .ok (.ifCond .ne 13, 3) := by decide +kernel
theorem dX1_order_75 : decode cX1_order 75 = .ok (.new 56, 3) := by decide +kernel
theorem dX1_order_78 : decode cX1_order 78 = .ok (.dup, 1) := by decide +kernel
theorem dX1_order_79 : decode cX1_order 79 = .ok (.ldc 78, 2) := by decide +kernel
theorem dX1_order_81 : decode cX1_order 81 = .ok (.invokespecial 60, 3) := by decide +kernel
theorem dX1_order_84 : decode cX1_order 84 = .ok (.athrow, 1) := by decide +kernel
theorem dX1_order_85 : decode cX1_order 85 = .ok (.aload_n 0, 1) := by decide +kernel
theorem dX1_order_86 : decode cX1_order 86 = .ok (.getfield 11, 3) := by decide +kernel
theorem dX1_order_89 : decode cX1_order 89 = .ok (.iload_n 3, 1) := by decide +kernel
theorem dX1_order_90 : decode cX1_order 90 = .ok (.aaload, 1) := by decide +kernel
theorem dX1_order_91 : decode cX1_order 91 = .ok (.iload 4, 2) := by decide +kernel
theorem dX1_order_93 : decode cX1_order 93 = .ok (.iload 5, 2) := by decide +kernel
theorem dX1_order_95 : decode cX1_order 95 = .ok (.invokevirtual 80, 3) := by decide +kernel
theorem dX1_order_98 : decode cX1_order 98 = .ok (.aload_n 0, 1) := by decide +kernel
theorem dX1_order_99 : decode cX1_order 99 = .ok (.iload_n 2, 1) := by decide +kernel
theorem dX1_order_100 : decode cX1_order 100 = .ok (.bipush 100, 2) := by decide +kernel
theorem dX1_order_102 : decode cX1_order 102 = .ok (.iload_n 3, 1) := by decide +kernel
theorem dX1_order_103 : decode cX1_order 103 = .ok (.imul, 1) := by decide +kernel
theorem dX1_order_104 : decode cX1_order 104 = .ok (.bipush 10, 2) := by decide +kernel
theorem dX1_order_106 : decode cX1_order 106 = .ok (.iload 4, 2) := by decide +kernel
theorem dX1_order_108 : decode cX1_order 108 = .ok (.imul, 1) := by decide +kernel
theorem dX1_order_109 : decode cX1_order 109 = .ok (.iadd, 1) := by decide +kernel
theorem dX1_order_110 : decode cX1_order 110 = .ok (.iload 5, 2) := by decide +kernel
theorem dX1_order_112 : decode cX1_order 112 = .ok (.iadd, 1) := by decide +kernel
theorem dX1_order_113 : decode cX1_order 113 = .ok (.invokevirtual 83, 3) := by decide +kernel
theorem dX1_order_116 : decode cX1_order 116 = .ok (.ireturn, 1) := by decide +kernel
set_option maxRecDepth 20000 in
theorem ggX1_breaks_X1_requireIndex : GoodIn wsX1_breaks wsX1_requireIndex := goodIn_ca (goodIn_r _ [5, 6, 7] (by decide +kernel) (by decide +kernel)) (goodIn_sub (fun _ h => List.mem_cons_of_mem _ (List.mem_append_right _ h)) (by decide +kernel))
set_option maxRecDepth 20000 in
theorem gX1_breaks_X1_requireIndex : GoodIn wsX1_breaks (va_wsS RX1 66 yX1_requireIndex wsX1_requireIndex) := goodIn_app (goodIn_of _ (by decide +kernel)) ggX1_breaks_X1_requireIndex
set_option maxRecDepth 20000 in
theorem ggX1_breaks_X1_unplug : GoodIn wsX1_breaks wsX1_unplug := goodIn_r _ [11, 12, 65, 66, 67, 68, 69, 70, 71, 72, 73, 74, 75, 76] (by decide +kernel) (by decide +kernel)
set_option maxRecDepth 20000 in
theorem gX1_breaks_X1_unplug : GoodIn wsX1_breaks (wsV RX1 87 RX1 yX1_unplug wsX1_unplug) := goodIn_app (goodIn_of _ (by decide +kernel)) ggX1_breaks_X1_unplug
set_option maxRecDepth 20000 in
theorem ggX1_breaks_X1_takeOrdersFromBus : GoodIn wsX1_breaks wsX1_takeOrdersFromBus := goodIn_r _ [16, 17, 18, 19, 20, 21, 22, 23, 24, 25, 26, 27, 28, 65, 66, 67, 68, 69, 70, 71, 72, 73, 74, 75, 76, 77, 78, 79, 80, 81, 82] (by decide +kernel) (by decide +kernel)
set_option maxRecDepth 20000 in
theorem gX1_breaks_X1_takeOrdersFromBus : GoodIn wsX1_breaks (wsV RX1 91 RX1 yX1_takeOrdersFromBus wsX1_takeOrdersFromBus) := goodIn_app (goodIn_of _ (by decide +kernel)) ggX1_breaks_X1_takeOrdersFromBus
set_option maxRecDepth 20000 in
theorem ggX1_breaks_X1_swapBus : GoodIn wsX1_breaks wsX1_swapBus := goodIn_r _ [32, 17, 18, 19, 20, 33, 34, 35, 4, 36, 37, 38, 39, 40, 41, 42, 43, 44, 45, 1, 46, 47, 48, 49, 50, 51, 52, 53, 24, 54, 27, 26, 55, 56, 57, 58, 59, 60, 21, 22, 23, 25, 28, 61, 62, 63, 64, 8, 9, 10, 11, 12, 65, 66, 67, 68, 69, 70, 71, 72, 73, 74, 75, 76, 77, 78, 79, 80, 81, 82] (by decide +kernel) (by decide +kernel)
set_option maxRecDepth 20000 in
theorem gX1_breaks_X1_swapBus : GoodIn wsX1_breaks (wsV RX1 94 RX1 yX1_swapBus wsX1_swapBus) := goodIn_app (goodIn_of _ (by decide +kernel)) ggX1_breaks_X1_swapBus
theorem dX1_breaks_0 : decode cX1_breaks 0 = .ok (.iload_n 1, 1) := by decide +kernel
theorem dX1_breaks_1 : decode cX1_breaks 1 = .ok (.iconst 5, 1) := by decide +kernel
theorem dX1_breaks_2 : decode cX1_breaks 2 = .ok (.invokestatic 66, 3) := by decide +kernel
theorem dX1_breaks_5 : decode cX1_breaks 5 = .ok (.aload_n 0, 1) := by decide +kernel
theorem dX1_breaks_6 : decode cX1_breaks 6 = .ok (.getfield 19, 3) := by decide +kernel
theorem dX1_breaks_9 : decode cX1_breaks 9 = .ok (.iload_n 1, 1) := by decide +kernel
theorem dX1_breaks_10 : decode cX1_breaks 10 = .ok (.baload, 1) := by decide +kernel
theorem dX1_breaks_11 : decode cX1_breaks 11 = .ok (.istore_n 3, 1) := by decide +kernel
theorem dX1_breaks_12 : decode cX1_breaks 12 = .ok (.aload_n 0, 1) := by decide +kernel
theorem dX1_breaks_13 : decode cX1_breaks 13 = .ok (.getfield 19, 3) := by decide +kernel
theorem dX1_breaks_16 : decode cX1_breaks 16 = .ok (.iload_n 1, 1) := by decide +kernel
theorem dX1_breaks_17 : decode cX1_breaks 17 = .ok (.iload_n 2, 1) := by decide +kernel
theorem dX1_breaks_18 : decode cX1_breaks 18 = .ok (.bastore, 1) := by decide +kernel
theorem dX1_breaks_19 : decode cX1_breaks 19 = .ok (.iload_n 2, 1) := by decide +kernel
theorem dX1_breaks_20 : decode cX1_breaks 20 = .ok (.ifCond .eq 18, 3) := by decide +kernel
theorem dX1_breaks_23 : decode cX1_breaks 23 = .ok (.aload_n 0, 1) := by decide +kernel
theorem dX1_breaks_24 : decode cX1_breaks 24 = .ok (.iload_n 1, 1) := by decide +kernel
theorem dX1_breaks_25 : decode cX1_breaks 25 = .ok (.invokevirtual 87, 3) := by decide +kernel
theorem dX1_breaks_28 : decode cX1_breaks 28 = .ok (.aload_n 0, 1) := by decide +kernel
theorem dX1_breaks_29 : decode cX1_breaks 29 = .ok (.iload_n 1, 1) := by decide +kernel
theorem dX1_breaks_30 : decode cX1_breaks 30 = .ok (.invokevirtual 91, 3) := by decide +kernel
theorem dX1_breaks_33 : decode cX1_breaks 33 = .ok (.aload_n 0, 1) := by decide +kernel
theorem dX1_breaks_34 : decode cX1_breaks 34 = .ok (.iload_n 1, 1) := by decide +kernel
theorem dX1_breaks_35 : decode cX1_breaks 35 = .ok (.invokevirtual 94, 3) := by decide +kernel
theorem dX1_breaks_38 : decode cX1_breaks 38 = .ok (.iload_n 3, 1) := by decide +kernel
theorem dX1_breaks_39 : decode cX1_breaks 39 = .ok (.ireturn, 1) := by decide +kernel
set_option maxRecDepth 20000 in
theorem ggX1_ails_X1_requireIndex : GoodIn wsX1_ails wsX1_requireIndex := goodIn_ca (goodIn_r _ [5, 6, 7] (by decide +kernel) (by decide +kernel)) (goodIn_sub (fun _ h => List.mem_cons_of_mem _ (List.mem_append_right _ h)) (by decide +kernel))
set_option maxRecDepth 20000 in
theorem gX1_ails_X1_requireIndex : GoodIn wsX1_ails (va_wsS RX1 66 yX1_requireIndex wsX1_requireIndex) := goodIn_app (goodIn_of _ (by decide +kernel)) ggX1_ails_X1_requireIndex
set_option maxRecDepth 20000 in
theorem ggX1_ails_X1_takeOrdersFromDriver : GoodIn wsX1_ails wsX1_takeOrdersFromDriver := goodIn_r _ [11, 12, 13, 14, 15, 16, 17, 18, 19, 20, 21, 22, 23, 63, 64, 65, 66, 67, 68, 69, 70, 71, 72, 73, 74, 75, 76, 77, 78, 79, 80] (by decide +kernel) (by decide +kernel)
set_option maxRecDepth 20000 in
theorem gX1_ails_X1_takeOrdersFromDriver : GoodIn wsX1_ails (wsV RX1 97 RX1 yX1_takeOrdersFromDriver wsX1_takeOrdersFromDriver) := goodIn_app (goodIn_of _ (by decide +kernel)) ggX1_ails_X1_takeOrdersFromDriver
set_option maxRecDepth 20000 in
theorem ggX1_ails_X1_swapDriver : GoodIn wsX1_ails wsX1_swapDriver := goodIn_r _ [27, 12, 13, 14, 15, 28, 29, 30, 4, 31, 32, 33, 34, 35, 36, 37, 38, 39, 1, 40, 41, 42, 19, 43, 44, 45, 46, 47, 48, 49, 50, 51, 52, 23, 53, 54, 55, 56, 57, 58, 59, 60, 61, 62, 16, 17, 18, 20, 21, 22, 63, 64, 65, 66, 67, 68, 69, 70, 71, 72, 73, 74, 75, 76, 77, 78, 79, 80] (by decide +kernel) (by decide +kernel)
set_option maxRecDepth 20000 in
theorem gX1_ails_X1_swapDriver : GoodIn wsX1_ails (wsV RX1 100 RX1 yX1_swapDriver wsX1_swapDriver) := goodIn_app (goodIn_of _ (by decide +kernel)) ggX1_ails_X1_swapDriver
theorem dX1_ails_0 : decode cX1_ails 0 = .ok (.iload_n 1, 1) := by decide +kernel
theorem dX1_ails_1 : decode cX1_ails 1 = .ok (.iconst 5, 1) := by decide +kernel
theorem dX1_ails_2 : decode cX1_ails 2 = .ok (.invokestatic 66, 3) := by decide +kernel
theorem dX1_ails_5 : decode cX1_ails 5 = .ok (.aload_n 0, 1) := by decide +kernel
theorem dX1_ails_6 : decode cX1_ails 6 = .ok (.getfield 23, 3) := by decide +kernel
theorem dX1_ails_9 : decode cX1_ails 9 = .ok (.iload_n 1, 1) := by decide +kernel
theorem dX1_ails_10 : decode cX1_ails 10 = .ok (.baload, 1) := by decide +kernel
theorem dX1_ails_11 : decode cX1_ails 11 = .ok (.istore_n 3, 1) := by decide +kernel
theorem dX1_ails_12 : decode cX1_ails 12 = .ok (.aload_n 0, 1) := by decide +kernel
theorem dX1_ails_13 : decode cX1_ails 13 = .ok (.getfield 23, 3) := by decide +kernel
theorem dX1_ails_16 : decode cX1_ails 16 = .ok (.iload_n 1, 1) := by decide +kernel
theorem dX1_ails_17 : decode cX1_ails 17 = .ok (.iload_n 2, 1) := by decide +kernel
theorem dX1_ails_18 : decode cX1_ails 18 = .ok (.bastore, 1) := by decide +kernel
theorem dX1_ails_19 : decode cX1_ails 19 = .ok (.iload_n 2, 1) := by decide +kernel
theorem dX1_ails_20 : decode cX1_ails 20 = .ok (.ifCond .eq 13, 3) := by decide +kernel
theorem dX1_ails_23 : decode cX1_ails 23 = .ok (.aload_n 0, 1) := by decide +kernel
theorem dX1_ails_24 : decode cX1_ails 24 = .ok (.iload_n 1, 1) := by decide +kernel
theorem dX1_ails_25 : decode cX1_ails 25 = .ok (.invokevirtual 97, 3) := by decide +kernel
theorem dX1_ails_28 : decode cX1_ails 28 = .ok (.aload_n 0, 1) := by decide +kernel
theorem dX1_ails_29 : decode cX1_ails 29 = .ok (.iload_n 1, 1) := by decide +kernel
theorem dX1_ails_30 : decode cX1_ails 30 = .ok (.invokevirtual 100, 3) := by decide +kernel
theorem dX1_ails_33 : decode cX1_ails 33 = .ok (.iload_n 3, 1) := by decide +kernel
theorem dX1_ails_34 : decode cX1_ails 34 = .ok (.ireturn, 1) := by decide +kernel
set_option maxRecDepth 20000 in
theorem ggX1_plug_X1_requireIndex : GoodIn wsX1_plug wsX1_requireIndex := goodIn_ca (goodIn_r _ [7, 8, 9] (by decide +kernel) (by decide +kernel)) (goodIn_sub (fun _ h => List.mem_cons_of_mem _ (List.mem_append_right _ h)) (by decide +kernel))
set_option maxRecDepth 20000 in
theorem gX1_plug_X1_requireIndex : GoodIn wsX1_plug (va_wsS RX1 66 yX1_requireIndex wsX1_requireIndex) := goodIn_app (goodIn_of _ (by decide +kernel)) ggX1_plug_X1_requireIndex
set_option maxRecDepth 20000 in
theorem ggX1_plug_X1_isUnderWay : GoodIn wsX1_plug wsX1_isUnderWay := goodIn_r _ [13, 14, 15, 16, 17, 22, 23, 24, 25, 26, 27, 28, 29, 30, 31, 32, 33, 34, 35, 36, 37, 38, 39] (by decide +kernel) (by decide +kernel)
set_option maxRecDepth 20000 in
theorem gX1_plug_X1_isUnderWay : GoodIn wsX1_plug (wsV RX1 103 RX1 yX1_isUnderWay wsX1_isUnderWay) := goodIn_app (goodIn_of _ (by decide +kernel)) ggX1_plug_X1_isUnderWay
set_option maxRecDepth 20000 in
theorem ggX1_plug_X1_unplug : GoodIn wsX1_plug wsX1_unplug := goodIn_r _ [21, 3, 22, 23, 24, 25, 26, 27, 28, 29, 30, 31, 32, 33] (by decide +kernel) (by decide +kernel)
set_option maxRecDepth 20000 in
theorem gX1_plug_X1_unplug : GoodIn wsX1_plug (wsV RX1 87 RX1 yX1_unplug wsX1_unplug) := goodIn_app (goodIn_of _ (by decide +kernel)) ggX1_plug_X1_unplug
theorem dX1_plug_0 : decode cX1_plug 0 = .ok (.iload_n 1, 1) := by decide +kernel
theorem dX1_plug_1 : decode cX1_plug 1 = .ok (.iconst 5, 1) := by decide +kernel
theorem dX1_plug_2 : decode cX1_plug 2 = .ok (.invokestatic 66, 3) := by decide +kernel
theorem dX1_plug_5 : decode cX1_plug 5 = .ok (.iload_n 2, 1) := by decide +kernel
theorem dX1_plug_6 : decode cX1_plug 6 = .ok (.iconst 2, 1) := by decide +kernel
theorem dX1_plug_7 : decode cX1_plug 7 = .ok (.invokestatic 66, 3) := by decide +kernel
theorem dX1_plug_10 : decode cX1_plug 10 = .ok (.aload_n 0, 1) := by decide +kernel
theorem dX1_plug_11 : decode cX1_plug 11 = .ok (.iload_n 1, 1) := by decide +kernel
theorem dX1_plug_12 : decode cX1_plug 12 = .ok (.invokevirtual 103, 3) := by decide +kernel
theorem dX1_plug_15 : decode cX1_plug 15 = .ok (.ifCond .eq 13, 3) := by decide +kernel
theorem dX1_plug_18 : decode cX1_plug 18 = .ok (.new 56, 3) := by decide +kernel
theorem dX1_plug_21 : decode cX1_plug 21 = .ok (.dup, 1) := by decide +kernel
theorem dX1_plug_22 : decode cX1_plug 22 = .ok (.ldc 107, 2) := by decide +kernel
theorem dX1_plug_24 : decode cX1_plug 24 = .ok (.invokespecial 60, 3) := by decide +kernel
theorem dX1_plug_27 : decode cX1_plug 27 = .ok (.athrow, 1) := by decide +kernel
theorem dX1_plug_28 : decode cX1_plug 28 = .ok (.aload_n 0, 1) := by decide +kernel
theorem dX1_plug_29 : decode cX1_plug 29 = .ok (.iload_n 1, 1) := by decide +kernel
theorem dX1_plug_30 : decode cX1_plug 30 = .ok (.invokevirtual 87, 3) := by decide +kernel
theorem dX1_plug_33 : decode cX1_plug 33 = .ok (.aload_n 0, 1) := by decide +kernel
theorem dX1_plug_34 : decode cX1_plug 34 = .ok (.getfield 26, 3) := by decide +kernel
theorem dX1_plug_37 : decode cX1_plug 37 = .ok (.iload_n 2, 1) := by decide +kernel
theorem dX1_plug_38 : decode cX1_plug 38 = .ok (.iaload, 1) := by decide +kernel
theorem dX1_plug_39 : decode cX1_plug 39 = .ok (.istore_n 3, 1) := by decide +kernel
theorem dX1_plug_40 : decode cX1_plug 40 = .ok (.aload_n 0, 1) := by decide +kernel
theorem dX1_plug_41 : decode cX1_plug 41 = .ok (.getfield 26, 3) := by decide +kernel
theorem dX1_plug_44 : decode cX1_plug 44 = .ok (.iload_n 2, 1) := by decide +kernel
theorem dX1_plug_45 : decode cX1_plug 45 = .ok (.iload_n 1, 1) := by decide +kernel
theorem dX1_plug_46 : decode cX1_plug 46 = .ok (.iastore, 1) := by decide +kernel
theorem dX1_plug_47 : decode cX1_plug 47 = .ok (.iload_n 3, 1) := by decide +kernel
theorem dX1_plug_48 : decode cX1_plug 48 = .ok (.ireturn, 1) := by decide +kernel
set_option maxRecDepth 20000 in
theorem ggX1_advance_X1_requireRange : GoodIn wsX1_advance wsX1_requireRange := goodIn_ca (goodIn_r _ [7, 8, 9] (by decide +kernel) (by decide +kernel)) (goodIn_sub (fun _ h => List.mem_cons_of_mem _ (List.mem_append_right _ h)) (by decide +kernel))
set_option maxRecDepth 20000 in
theorem gX1_advance_X1_requireRange : GoodIn wsX1_advance (va_wsS RX1 52 yX1_requireRange wsX1_requireRange) := goodIn_app (goodIn_of _ (by decide +kernel)) ggX1_advance_X1_requireRange
set_option maxRecDepth 20000 in
theorem ggX1_advance_X1_passMinute : GoodIn wsX1_advance wsX1_passMinute := goodIn_r _ [13, 3, 14, 15, 16, 6, 17, 18, 19, 20, 21, 22, 23, 24, 25, 26, 27, 28, 29, 30, 31, 32, 33, 34, 35, 36, 37, 38, 39, 40, 41, 42, 43, 44, 45, 46, 47, 48, 49, 50, 51, 52, 53, 54, 55, 56, 57, 58, 59, 60, 61, 62, 63, 64, 65, 66, 67, 68, 69, 70, 71, 72] (by decide +kernel) (by decide +kernel)
set_option maxRecDepth 20000 in
theorem gX1_advance_X1_passMinute : GoodIn wsX1_advance (wsV RX1 111 RX1 yX1_passMinute wsX1_passMinute) := goodIn_app (goodIn_of _ (by decide +kernel)) ggX1_advance_X1_passMinute
theorem dX1_advance_0 : decode cX1_advance 0 = .ok (.iload_n 1, 1) := by decide +kernel
theorem dX1_advance_1 : decode cX1_advance 1 = .ok (.iconst 1, 1) := by decide +kernel
theorem dX1_advance_2 : decode cX1_advance 2 = .ok (.sipush 1000, 3) := by decide +kernel
theorem dX1_advance_5 : decode cX1_advance 5 = .ok (.invokestatic 52, 3) := by decide +kernel
theorem dX1_advance_8 : decode cX1_advance 8 = .ok (.aload_n 0, 1) := by decide +kernel
theorem dX1_advance_9 : decode cX1_advance 9 = .ok (.getfield 35, 3) := by decide +kernel
theorem dX1_advance_12 : decode cX1_advance 12 = .ok (.iload_n 1, 1) := by decide +kernel
theorem dX1_advance_13 : decode cX1_advance 13 = .ok (.iadd, 1) := by decide +kernel
theorem dX1_advance_14 : decode cX1_advance 14 = .ok (.sipush 30000, 3) := by decide +kernel
theorem dX1_advance_17 : decode cX1_advance 17 = .ok (.if_icmp .le 13, 3) := by decide +kernel
theorem dX1_advance_20 : decode cX1_advance 20 = .ok (.new 56, 3) := by decide +kernel
theorem dX1_advance_23 : decode cX1_advance 23 = .ok (.dup, 1) := by decide +kernel
theorem dX1_advance_24 : decode cX1_advance 24 = .ok (.ldc 109, 2) := by decide +kernel
theorem dX1_advance_26 : decode cX1_advance 26 = .ok (.invokespecial 60, 3) := by decide +kernel
theorem dX1_advance_29 : decode cX1_advance 29 = .ok (.athrow, 1) := by decide +kernel
theorem dX1_advance_30 : decode cX1_advance 30 = .ok (.iconst 0, 1) := by decide +kernel
theorem dX1_advance_31 : decode cX1_advance 31 = .ok (.istore_n 2, 1) := by decide +kernel
theorem dX1_advance_32 : decode cX1_advance 32 = .ok (.iload_n 2, 1) := by decide +kernel
theorem dX1_advance_33 : decode cX1_advance 33 = .ok (.iload_n 1, 1) := by decide +kernel
theorem dX1_advance_34 : decode cX1_advance 34 = .ok (.if_icmp .ge 13, 3) := by decide +kernel
theorem dX1_advance_37 : decode cX1_advance 37 = .ok (.aload_n 0, 1) := by decide +kernel
theorem dX1_advance_38 : decode cX1_advance 38 = .ok (.invokevirtual 111, 3) := by decide +kernel
theorem dX1_advance_41 : decode cX1_advance 41 = .ok (.iinc 2 1, 3) := by decide +kernel
theorem dX1_advance_44 : decode cX1_advance 44 = .ok (.goto (-12), 3) := by decide +kernel
theorem dX1_advance_47 : decode cX1_advance 47 = .ok (.aload_n 0, 1) := by decide +kernel
theorem dX1_advance_48 : decode cX1_advance 48 = .ok (.getfield 35, 3) := by decide +kernel
theorem dX1_advance_51 : decode cX1_advance 51 = .ok (.ireturn, 1) := by decide +kernel
theorem dX1_minute_0 : decode cX1_minute 0 = .ok (.aload_n 0, 1) := by decide +kernel
theorem dX1_minute_1 : decode cX1_minute 1 = .ok (.getfield 35, 3) := by decide +kernel
theorem dX1_minute_4 : decode cX1_minute 4 = .ok (.ireturn, 1) := by decide +kernel
theorem dX1_leader_0 : decode cX1_leader 0 = .ok (.aload_n 0, 1) := by decide +kernel
theorem dX1_leader_1 : decode cX1_leader 1 = .ok (.getfield 35, 3) := by decide +kernel
theorem dX1_leader_4 : decode cX1_leader 4 = .ok (.aload_n 0, 1) := by decide +kernel
theorem dX1_leader_5 : decode cX1_leader 5 = .ok (.getfield 48, 3) := by decide +kernel
theorem dX1_leader_8 : decode cX1_leader 8 = .ok (.if_icmp .ge 10, 3) := by decide +kernel
theorem dX1_leader_11 : decode cX1_leader 11 = .ok (.aload_n 0, 1) := by decide +kernel
theorem dX1_leader_12 : decode cX1_leader 12 = .ok (.getfield 45, 3) := by decide +kernel
theorem dX1_leader_15 : decode cX1_leader 15 = .ok (.goto 4, 3) := by decide +kernel
theorem dX1_leader_18 : decode cX1_leader 18 = .ok (.iconst (-1), 1) := by decide +kernel
theorem dX1_leader_19 : decode cX1_leader 19 = .ok (.ireturn, 1) := by decide +kernel
theorem dX1_runs_0 : decode cX1_runs 0 = .ok (.aload_n 0, 1) := by decide +kernel
theorem dX1_runs_1 : decode cX1_runs 1 = .ok (.getfield 39, 3) := by decide +kernel
theorem dX1_runs_4 : decode cX1_runs 4 = .ok (.ireturn, 1) := by decide +kernel
theorem dX1_orders_0 : decode cX1_orders 0 = .ok (.aload_n 0, 1) := by decide +kernel
theorem dX1_orders_1 : decode cX1_orders 1 = .ok (.getfield 42, 3) := by decide +kernel
theorem dX1_orders_4 : decode cX1_orders 4 = .ok (.ireturn, 1) := by decide +kernel
set_option maxRecDepth 20000 in
theorem ggX1_orderAt_X1_requireIndex : GoodIn wsX1_orderAt wsX1_requireIndex := goodIn_ca (goodIn_r _ [6, 7, 8] (by decide +kernel) (by decide +kernel)) (goodIn_sub (fun _ h => List.mem_cons_of_mem _ (List.mem_append_right _ h)) (by decide +kernel))
set_option maxRecDepth 20000 in
theorem gX1_orderAt_X1_requireIndex : GoodIn wsX1_orderAt (va_wsS RX1 66 yX1_requireIndex wsX1_requireIndex) := goodIn_app (goodIn_of _ (by decide +kernel)) ggX1_orderAt_X1_requireIndex
theorem dX1_orderAt_0 : decode cX1_orderAt 0 = .ok (.iload_n 1, 1) := by decide +kernel
theorem dX1_orderAt_1 : decode cX1_orderAt 1 = .ok (.aload_n 0, 1) := by decide +kernel
theorem dX1_orderAt_2 : decode cX1_orderAt 2 = .ok (.getfield 42, 3) := by decide +kernel
theorem dX1_orderAt_5 : decode cX1_orderAt 5 = .ok (.invokestatic 66, 3) := by decide +kernel
theorem dX1_orderAt_8 : decode cX1_orderAt 8 = .ok (.aload_n 0, 1) := by decide +kernel
theorem dX1_orderAt_9 : decode cX1_orderAt 9 = .ok (.getfield 29, 3) := by decide +kernel
theorem dX1_orderAt_12 : decode cX1_orderAt 12 = .ok (.iload_n 1, 1) := by decide +kernel
theorem dX1_orderAt_13 : decode cX1_orderAt 13 = .ok (.iaload, 1) := by decide +kernel
theorem dX1_orderAt_14 : decode cX1_orderAt 14 = .ok (.ireturn, 1) := by decide +kernel
set_option maxRecDepth 20000 in
theorem ggX1_stateOf_X1_requireIndex : GoodIn wsX1_stateOf wsX1_requireIndex := goodIn_ca (goodIn_r _ [7, 8, 9] (by decide +kernel) (by decide +kernel)) (goodIn_sub (fun _ h => List.mem_cons_of_mem _ (List.mem_append_right _ h)) (by decide +kernel))
set_option maxRecDepth 20000 in
theorem gX1_stateOf_X1_requireIndex : GoodIn wsX1_stateOf (va_wsS RX1 66 yX1_requireIndex wsX1_requireIndex) := goodIn_app (goodIn_of _ (by decide +kernel)) ggX1_stateOf_X1_requireIndex
theorem dX1_stateOf_0 : decode cX1_stateOf 0 = .ok (.iload_n 1, 1) := by decide +kernel
theorem dX1_stateOf_1 : decode cX1_stateOf 1 = .ok (.aload_n 0, 1) := by decide +kernel
theorem dX1_stateOf_2 : decode cX1_stateOf 2 = .ok (.getfield 39, 3) := by decide +kernel
theorem dX1_stateOf_5 : decode cX1_stateOf 5 = .ok (.invokestatic 66, 3) := by decide +kernel
theorem dX1_stateOf_8 : decode cX1_stateOf 8 = .ok (.aload_n 0, 1) := by decide +kernel
theorem dX1_stateOf_9 : decode cX1_stateOf 9 = .ok (.getfield 11, 3) := by decide +kernel
theorem dX1_stateOf_12 : decode cX1_stateOf 12 = .ok (.iload_n 1, 1) := by decide +kernel
theorem dX1_stateOf_13 : decode cX1_stateOf 13 = .ok (.aaload, 1) := by decide +kernel
theorem dX1_stateOf_14 : decode cX1_stateOf 14 = .ok (.getfield 114, 3) := by decide +kernel
theorem dX1_stateOf_17 : decode cX1_stateOf 17 = .ok (.ireturn, 1) := by decide +kernel
set_option maxRecDepth 20000 in
theorem ggX1_busOf_X1_requireIndex : GoodIn wsX1_busOf wsX1_requireIndex := goodIn_ca (goodIn_r _ [7, 8, 9] (by decide +kernel) (by decide +kernel)) (goodIn_sub (fun _ h => List.mem_cons_of_mem _ (List.mem_append_right _ h)) (by decide +kernel))
set_option maxRecDepth 20000 in
theorem gX1_busOf_X1_requireIndex : GoodIn wsX1_busOf (va_wsS RX1 66 yX1_requireIndex wsX1_requireIndex) := goodIn_app (goodIn_of _ (by decide +kernel)) ggX1_busOf_X1_requireIndex
theorem dX1_busOf_0 : decode cX1_busOf 0 = .ok (.iload_n 1, 1) := by decide +kernel
theorem dX1_busOf_1 : decode cX1_busOf 1 = .ok (.aload_n 0, 1) := by decide +kernel
theorem dX1_busOf_2 : decode cX1_busOf 2 = .ok (.getfield 39, 3) := by decide +kernel
theorem dX1_busOf_5 : decode cX1_busOf 5 = .ok (.invokestatic 66, 3) := by decide +kernel
theorem dX1_busOf_8 : decode cX1_busOf 8 = .ok (.aload_n 0, 1) := by decide +kernel
theorem dX1_busOf_9 : decode cX1_busOf 9 = .ok (.getfield 11, 3) := by decide +kernel
theorem dX1_busOf_12 : decode cX1_busOf 12 = .ok (.iload_n 1, 1) := by decide +kernel
theorem dX1_busOf_13 : decode cX1_busOf 13 = .ok (.aaload, 1) := by decide +kernel
theorem dX1_busOf_14 : decode cX1_busOf 14 = .ok (.getfield 117, 3) := by decide +kernel
theorem dX1_busOf_17 : decode cX1_busOf 17 = .ok (.ireturn, 1) := by decide +kernel
set_option maxRecDepth 20000 in
theorem ggX1_driverOf_X1_requireIndex : GoodIn wsX1_driverOf wsX1_requireIndex := goodIn_ca (goodIn_r _ [7, 8, 9] (by decide +kernel) (by decide +kernel)) (goodIn_sub (fun _ h => List.mem_cons_of_mem _ (List.mem_append_right _ h)) (by decide +kernel))
set_option maxRecDepth 20000 in
theorem gX1_driverOf_X1_requireIndex : GoodIn wsX1_driverOf (va_wsS RX1 66 yX1_requireIndex wsX1_requireIndex) := goodIn_app (goodIn_of _ (by decide +kernel)) ggX1_driverOf_X1_requireIndex
theorem dX1_driverOf_0 : decode cX1_driverOf 0 = .ok (.iload_n 1, 1) := by decide +kernel
theorem dX1_driverOf_1 : decode cX1_driverOf 1 = .ok (.aload_n 0, 1) := by decide +kernel
theorem dX1_driverOf_2 : decode cX1_driverOf 2 = .ok (.getfield 39, 3) := by decide +kernel
theorem dX1_driverOf_5 : decode cX1_driverOf 5 = .ok (.invokestatic 66, 3) := by decide +kernel
theorem dX1_driverOf_8 : decode cX1_driverOf 8 = .ok (.aload_n 0, 1) := by decide +kernel
theorem dX1_driverOf_9 : decode cX1_driverOf 9 = .ok (.getfield 11, 3) := by decide +kernel
theorem dX1_driverOf_12 : decode cX1_driverOf 12 = .ok (.iload_n 1, 1) := by decide +kernel
theorem dX1_driverOf_13 : decode cX1_driverOf 13 = .ok (.aaload, 1) := by decide +kernel
theorem dX1_driverOf_14 : decode cX1_driverOf 14 = .ok (.getfield 120, 3) := by decide +kernel
theorem dX1_driverOf_17 : decode cX1_driverOf 17 = .ok (.ireturn, 1) := by decide +kernel
set_option maxRecDepth 20000 in
theorem ggX1_charge_X1_requireIndex : GoodIn wsX1_charge wsX1_requireIndex := goodIn_ca (goodIn_r _ [5, 6, 7] (by decide +kernel) (by decide +kernel)) (goodIn_sub (fun _ h => List.mem_cons_of_mem _ (List.mem_append_right _ h)) (by decide +kernel))
set_option maxRecDepth 20000 in
theorem gX1_charge_X1_requireIndex : GoodIn wsX1_charge (va_wsS RX1 66 yX1_requireIndex wsX1_requireIndex) := goodIn_app (goodIn_of _ (by decide +kernel)) ggX1_charge_X1_requireIndex
theorem dX1_charge_0 : decode cX1_charge 0 = .ok (.iload_n 1, 1) := by decide +kernel
theorem dX1_charge_1 : decode cX1_charge 1 = .ok (.iconst 5, 1) := by decide +kernel
theorem dX1_charge_2 : decode cX1_charge 2 = .ok (.invokestatic 66, 3) := by decide +kernel
theorem dX1_charge_5 : decode cX1_charge 5 = .ok (.aload_n 0, 1) := by decide +kernel
theorem dX1_charge_6 : decode cX1_charge 6 = .ok (.getfield 15, 3) := by decide +kernel
theorem dX1_charge_9 : decode cX1_charge 9 = .ok (.iload_n 1, 1) := by decide +kernel
theorem dX1_charge_10 : decode cX1_charge 10 = .ok (.iaload, 1) := by decide +kernel
theorem dX1_charge_11 : decode cX1_charge 11 = .ok (.ireturn, 1) := by decide +kernel
set_option maxRecDepth 20000 in
theorem ggX1_promised_X1_requireIndex : GoodIn wsX1_promised wsX1_requireIndex := goodIn_ca (goodIn_r _ [4, 5, 6] (by decide +kernel) (by decide +kernel)) (goodIn_sub (fun _ h => List.mem_cons_of_mem _ (List.mem_append_right _ h)) (by decide +kernel))
set_option maxRecDepth 20000 in
theorem gX1_promised_X1_requireIndex : GoodIn wsX1_promised (va_wsS RX1 66 yX1_requireIndex wsX1_requireIndex) := goodIn_app (goodIn_of _ (by decide +kernel)) ggX1_promised_X1_requireIndex
set_option maxRecDepth 20000 in
theorem ggX1_promised_X1_promisedCharge : GoodIn wsX1_promised wsX1_promisedCharge := goodIn_r _ [10, 11, 12, 13, 14, 15, 16, 17, 18, 19, 20, 21, 22, 23, 24, 25, 26, 27, 28, 29, 30, 31, 32, 33] (by decide +kernel) (by decide +kernel)
set_option maxRecDepth 20000 in
theorem gX1_promised_X1_promisedCharge : GoodIn wsX1_promised (wsV RX1 123 RX1 yX1_promisedCharge wsX1_promisedCharge) := goodIn_app (goodIn_of _ (by decide +kernel)) ggX1_promised_X1_promisedCharge
theorem dX1_promised_0 : decode cX1_promised 0 = .ok (.iload_n 1, 1) := by decide +kernel
theorem dX1_promised_1 : decode cX1_promised 1 = .ok (.iconst 5, 1) := by decide +kernel
theorem dX1_promised_2 : decode cX1_promised 2 = .ok (.invokestatic 66, 3) := by decide +kernel
theorem dX1_promised_5 : decode cX1_promised 5 = .ok (.aload_n 0, 1) := by decide +kernel
theorem dX1_promised_6 : decode cX1_promised 6 = .ok (.iload_n 1, 1) := by decide +kernel
theorem dX1_promised_7 : decode cX1_promised 7 = .ok (.invokevirtual 123, 3) := by decide +kernel
theorem dX1_promised_10 : decode cX1_promised 10 = .ok (.ireturn, 1) := by decide +kernel
set_option maxRecDepth 20000 in
theorem ggX1_minutesOf_X1_requireIndex : GoodIn wsX1_minutesOf wsX1_requireIndex := goodIn_ca (goodIn_r _ [4, 5, 6] (by decide +kernel) (by decide +kernel)) (goodIn_sub (fun _ h => List.mem_cons_of_mem _ (List.mem_append_right _ h)) (by decide +kernel))
set_option maxRecDepth 20000 in
theorem gX1_minutesOf_X1_requireIndex : GoodIn wsX1_minutesOf (va_wsS RX1 66 yX1_requireIndex wsX1_requireIndex) := goodIn_app (goodIn_of _ (by decide +kernel)) ggX1_minutesOf_X1_requireIndex
set_option maxRecDepth 20000 in
theorem ggX1_minutesOf_X1_workedMinutes : GoodIn wsX1_minutesOf wsX1_workedMinutes := goodIn_r _ [10, 11, 12, 13, 14, 15, 16, 17, 18, 19, 20, 21, 22, 23, 24, 25, 26, 27, 28, 29, 30, 31, 32, 33, 34, 35, 36, 37, 38, 39, 40, 41, 42, 43, 44, 45, 46] (by decide +kernel) (by decide +kernel)
set_option maxRecDepth 20000 in
theorem gX1_minutesOf_X1_workedMinutes : GoodIn wsX1_minutesOf (wsV RX1 127 RX1 yX1_workedMinutes wsX1_workedMinutes) := goodIn_app (goodIn_of _ (by decide +kernel)) ggX1_minutesOf_X1_workedMinutes
theorem dX1_minutesOf_0 : decode cX1_minutesOf 0 = .ok (.iload_n 1, 1) := by decide +kernel
theorem dX1_minutesOf_1 : decode cX1_minutesOf 1 = .ok (.iconst 5, 1) := by decide +kernel
theorem dX1_minutesOf_2 : decode cX1_minutesOf 2 = .ok (.invokestatic 66, 3) := by decide +kernel
theorem dX1_minutesOf_5 : decode cX1_minutesOf 5 = .ok (.aload_n 0, 1) := by decide +kernel
theorem dX1_minutesOf_6 : decode cX1_minutesOf 6 = .ok (.iload_n 1, 1) := by decide +kernel
theorem dX1_minutesOf_7 : decode cX1_minutesOf 7 = .ok (.iload_n 2, 1) := by decide +kernel
theorem dX1_minutesOf_8 : decode cX1_minutesOf 8 = .ok (.invokevirtual 127, 3) := by decide +kernel
theorem dX1_minutesOf_11 : decode cX1_minutesOf 11 = .ok (.ireturn, 1) := by decide +kernel
theorem dX1_requireIndex_0 : decode cX1_requireIndex 0 = .ok (.iload_n 0, 1) := by decide +kernel
theorem dX1_requireIndex_1 : decode cX1_requireIndex 1 = .ok (.ifCond .lt 8, 3) := by decide +kernel
theorem dX1_requireIndex_4 : decode cX1_requireIndex 4 = .ok (.iload_n 0, 1) := by decide +kernel
theorem dX1_requireIndex_5 : decode cX1_requireIndex 5 = .ok (.iload_n 1, 1) := by decide +kernel
theorem dX1_requireIndex_6 : decode cX1_requireIndex 6 = .ok (.if_icmp .lt 13, 3) := by decide +kernel
theorem dX1_requireIndex_9 : decode cX1_requireIndex 9 = .ok (.new 130, 3) := by decide +kernel
theorem dX1_requireIndex_12 : decode cX1_requireIndex 12 = .ok (.dup, 1) := by decide +kernel
theorem dX1_requireIndex_13 : decode cX1_requireIndex 13 = .ok (.ldc 132, 2) := by decide +kernel
theorem dX1_requireIndex_15 : decode cX1_requireIndex 15 = .ok (.invokespecial 134, 3) := by decide +kernel
theorem dX1_requireIndex_18 : decode cX1_requireIndex 18 = .ok (.athrow, 1) := by decide +kernel
theorem dX1_requireIndex_19 : decode cX1_requireIndex 19 = .ok (.return_, 1) := by decide +kernel
theorem dX1_requireRange_0 : decode cX1_requireRange 0 = .ok (.iload_n 0, 1) := by decide +kernel
theorem dX1_requireRange_1 : decode cX1_requireRange 1 = .ok (.iload_n 1, 1) := by decide +kernel
theorem dX1_requireRange_2 : decode cX1_requireRange 2 = .ok (.if_icmp .lt 8, 3) := by decide +kernel
theorem dX1_requireRange_5 : decode cX1_requireRange 5 = .ok (.iload_n 0, 1) := by decide +kernel
theorem dX1_requireRange_6 : decode cX1_requireRange 6 = .ok (.iload_n 2, 1) := by decide +kernel
theorem dX1_requireRange_7 : decode cX1_requireRange 7 = .ok (.if_icmp .le 13, 3) := by decide +kernel
theorem dX1_requireRange_10 : decode cX1_requireRange 10 = .ok (.new 135, 3) := by decide +kernel
theorem dX1_requireRange_13 : decode cX1_requireRange 13 = .ok (.dup, 1) := by decide +kernel
theorem dX1_requireRange_14 : decode cX1_requireRange 14 = .ok (.ldc 137, 2) := by decide +kernel
end
section
theorem dX1_requireRange_16 : decode cX1_requireRange 16 = .ok (.invokespecial 139, 3) := by decide +kernel
theorem dX1_requireRange_19 : decode cX1_requireRange 19 = .ok (.athrow, 1) := by decide +kernel
theorem dX1_requireRange_20 : decode cX1_requireRange 20 = .ok (.return_, 1) := by decide +kernel
theorem dX1_write_0 : decode cX1_write 0 = .ok (.aload_n 0, 1) := by decide +kernel
theorem dX1_write_1 : decode cX1_write 1 = .ok (.getfield 42, 3) := by decide +kernel
theorem dX1_write_4 : decode cX1_write 4 = .ok (.istore_n 3, 1) := by decide +kernel
theorem dX1_write_5 : decode cX1_write 5 = .ok (.iload_n 3, 1) := by decide +kernel
theorem dX1_write_6 : decode cX1_write 6 = .ok (.sipush 1000, 3) := by decide +kernel
theorem dX1_write_9 : decode cX1_write 9 = .ok (.if_icmp .ge 27, 3) := by decide +kernel
theorem dX1_write_12 : decode cX1_write 12 = .ok (.aload_n 0, 1) := by decide +kernel
theorem dX1_write_13 : decode cX1_write 13 = .ok (.getfield 29, 3) := by decide +kernel
theorem dX1_write_16 : decode cX1_write 16 = .ok (.iload_n 3, 1) := by decide +kernel
theorem dX1_write_17 : decode cX1_write 17 = .ok (.iload_n 2, 1) := by decide +kernel
theorem dX1_write_18 : decode cX1_write 18 = .ok (.iastore, 1) := by decide +kernel
theorem dX1_write_19 : decode cX1_write 19 = .ok (.aload_n 0, 1) := by decide +kernel
theorem dX1_write_20 : decode cX1_write 20 = .ok (.getfield 32, 3) := by decide +kernel
theorem dX1_write_23 : decode cX1_write 23 = .ok (.iload_n 1, 1) := by decide +kernel
theorem dX1_write_24 : decode cX1_write 24 = .ok (.iload_n 3, 1) := by decide +kernel
theorem dX1_write_25 : decode cX1_write 25 = .ok (.iastore, 1) := by decide +kernel
theorem dX1_write_26 : decode cX1_write 26 = .ok (.aload_n 0, 1) := by decide +kernel
theorem dX1_write_27 : decode cX1_write 27 = .ok (.dup, 1) := by decide +kernel
theorem dX1_write_28 : decode cX1_write 28 = .ok (.getfield 42, 3) := by decide +kernel
theorem dX1_write_31 : decode cX1_write 31 = .ok (.iconst 1, 1) := by decide +kernel
theorem dX1_write_32 : decode cX1_write 32 = .ok (.iadd, 1) := by decide +kernel
theorem dX1_write_33 : decode cX1_write 33 = .ok (.putfield 42, 3) := by decide +kernel
theorem dX1_write_36 : decode cX1_write 36 = .ok (.iload_n 3, 1) := by decide +kernel
theorem dX1_write_37 : decode cX1_write 37 = .ok (.ireturn, 1) := by decide +kernel
set_option maxRecDepth 20000 in
theorem ggX1_canBeOrdered_X1_isBusFit : GoodIn wsX1_canBeOrdered wsX1_isBusFit := goodIn_r _ [8, 9, 10, 11, 12, 13, 14, 15, 16, 7, 17, 18, 1, 19, 20, 21, 22, 23, 24, 25, 26, 27, 28, 29, 30, 31, 65, 66, 67, 68, 69, 70, 71, 72, 73, 74, 75, 76, 59, 60, 61, 62, 63, 64] (by decide +kernel) (by decide +kernel)
set_option maxRecDepth 20000 in
theorem gX1_canBeOrdered_X1_isBusFit : GoodIn wsX1_canBeOrdered (wsV RX1 143 RX1 yX1_isBusFit wsX1_isBusFit) := goodIn_app (goodIn_of _ (by decide +kernel)) ggX1_canBeOrdered_X1_isBusFit
set_option maxRecDepth 20000 in
theorem ggX1_canBeOrdered_X1_isDriverFit : GoodIn wsX1_canBeOrdered wsX1_isDriverFit := goodIn_r _ [35, 36, 12, 13, 37, 38, 39, 22, 40, 30, 41, 42, 43, 7, 44, 45, 46, 47, 48, 49, 50, 51, 52, 53, 54, 31, 55, 56, 57, 58, 65, 66, 67, 68, 69, 70, 71, 72, 73, 74, 75, 76, 59, 60, 61, 62, 63, 64] (by decide +kernel) (by decide +kernel)
set_option maxRecDepth 20000 in
theorem gX1_canBeOrdered_X1_isDriverFit : GoodIn wsX1_canBeOrdered (wsV RX1 147 RX1 yX1_isDriverFit wsX1_isDriverFit) := goodIn_app (goodIn_of _ (by decide +kernel)) ggX1_canBeOrdered_X1_isDriverFit
theorem dX1_canBeOrdered_0 : decode cX1_canBeOrdered 0 = .ok (.aload_n 1, 1) := by decide +kernel
theorem dX1_canBeOrdered_1 : decode cX1_canBeOrdered 1 = .ok (.getfield 114, 3) := by decide +kernel
theorem dX1_canBeOrdered_4 : decode cX1_canBeOrdered 4 = .ok (.ifCond .ne 36, 3) := by decide +kernel
theorem dX1_canBeOrdered_7 : decode cX1_canBeOrdered 7 = .ok (.aload_n 1, 1) := by decide +kernel
theorem dX1_canBeOrdered_8 : decode cX1_canBeOrdered 8 = .ok (.getfield 140, 3) := by decide +kernel
theorem dX1_canBeOrdered_11 : decode cX1_canBeOrdered 11 = .ok (.aload_n 0, 1) := by decide +kernel
theorem dX1_canBeOrdered_12 : decode cX1_canBeOrdered 12 = .ok (.getfield 35, 3) := by decide +kernel
theorem dX1_canBeOrdered_15 : decode cX1_canBeOrdered 15 = .ok (.if_icmp .le 25, 3) := by decide +kernel
theorem dX1_canBeOrdered_18 : decode cX1_canBeOrdered 18 = .ok (.aload_n 0, 1) := by decide +kernel
theorem dX1_canBeOrdered_19 : decode cX1_canBeOrdered 19 = .ok (.iload_n 2, 1) := by decide +kernel
theorem dX1_canBeOrdered_20 : decode cX1_canBeOrdered 20 = .ok (.aload_n 1, 1) := by decide +kernel
theorem dX1_canBeOrdered_21 : decode cX1_canBeOrdered 21 = .ok (.invokevirtual 143, 3) := by decide +kernel
theorem dX1_canBeOrdered_24 : decode cX1_canBeOrdered 24 = .ok (.ifCond .eq 16, 3) := by decide +kernel
theorem dX1_canBeOrdered_27 : decode cX1_canBeOrdered 27 = .ok (.aload_n 0, 1) := by decide +kernel
theorem dX1_canBeOrdered_28 : decode cX1_canBeOrdered 28 = .ok (.iload_n 3, 1) := by decide +kernel
theorem dX1_canBeOrdered_29 : decode cX1_canBeOrdered 29 = .ok (.aload_n 1, 1) := by decide +kernel
theorem dX1_canBeOrdered_30 : decode cX1_canBeOrdered 30 = .ok (.invokevirtual 147, 3) := by decide +kernel
theorem dX1_canBeOrdered_33 : decode cX1_canBeOrdered 33 = .ok (.ifCond .eq 7, 3) := by decide +kernel
theorem dX1_canBeOrdered_36 : decode cX1_canBeOrdered 36 = .ok (.iconst 1, 1) := by decide +kernel
theorem dX1_canBeOrdered_37 : decode cX1_canBeOrdered 37 = .ok (.goto 4, 3) := by decide +kernel
theorem dX1_canBeOrdered_40 : decode cX1_canBeOrdered 40 = .ok (.iconst 0, 1) := by decide +kernel
theorem dX1_canBeOrdered_41 : decode cX1_canBeOrdered 41 = .ok (.ireturn, 1) := by decide +kernel
set_option maxRecDepth 20000 in
theorem ggX1_isBusFit_X1_promisedCharge : GoodIn wsX1_isBusFit wsX1_promisedCharge := goodIn_r _ [10, 4, 5, 11, 12, 3, 26, 27, 28, 29, 30, 31, 32, 33, 34, 35, 36, 37, 38, 39, 40, 41, 42, 43] (by decide +kernel) (by decide +kernel)
set_option maxRecDepth 20000 in
theorem gX1_isBusFit_X1_promisedCharge : GoodIn wsX1_isBusFit (wsV RX1 123 RX1 yX1_promisedCharge wsX1_promisedCharge) := goodIn_app (goodIn_of _ (by decide +kernel)) ggX1_isBusFit_X1_promisedCharge
set_option maxRecDepth 20000 in
theorem ggX1_isBusFit_X0_holds : GoodIn wsX1_isBusFit wsX0_holds := goodIn_r _ [17, 18, 19, 38, 39, 40, 41, 42, 43] (by decide +kernel) (by decide +kernel)
set_option maxRecDepth 20000 in
theorem gX1_isBusFit_X0_holds : GoodIn wsX1_isBusFit (wsV RX1 153 RX0 yX0_holds wsX0_holds) := goodIn_app (goodIn_of _ (by decide +kernel)) ggX1_isBusFit_X0_holds
set_option maxRecDepth 20000 in
theorem ggX1_isBusFit_X0_meets : GoodIn wsX1_isBusFit wsX0_meets := goodIn_r _ [23, 24, 25, 38, 39, 40, 41, 42, 43] (by decide +kernel) (by decide +kernel)
set_option maxRecDepth 20000 in
theorem gX1_isBusFit_X0_meets : GoodIn wsX1_isBusFit (wsV RX1 156 RX0 yX0_meets wsX0_meets) := goodIn_app (goodIn_of _ (by decide +kernel)) ggX1_isBusFit_X0_meets
theorem dX1_isBusFit_0 : decode cX1_isBusFit 0 = .ok (.aload_n 0, 1) := by decide +kernel
theorem dX1_isBusFit_1 : decode cX1_isBusFit 1 = .ok (.getfield 19, 3) := by decide +kernel
theorem dX1_isBusFit_4 : decode cX1_isBusFit 4 = .ok (.iload_n 1, 1) := by decide +kernel
theorem dX1_isBusFit_5 : decode cX1_isBusFit 5 = .ok (.baload, 1) := by decide +kernel
theorem dX1_isBusFit_6 : decode cX1_isBusFit 6 = .ok (.ifCond .ne 22, 3) := by decide +kernel
theorem dX1_isBusFit_9 : decode cX1_isBusFit 9 = .ok (.aload_n 0, 1) := by decide +kernel
theorem dX1_isBusFit_10 : decode cX1_isBusFit 10 = .ok (.getfield 15, 3) := by decide +kernel
theorem dX1_isBusFit_13 : decode cX1_isBusFit 13 = .ok (.iload_n 1, 1) := by decide +kernel
theorem dX1_isBusFit_14 : decode cX1_isBusFit 14 = .ok (.iaload, 1) := by decide +kernel
theorem dX1_isBusFit_15 : decode cX1_isBusFit 15 = .ok (.aload_n 0, 1) := by decide +kernel
theorem dX1_isBusFit_16 : decode cX1_isBusFit 16 = .ok (.iload_n 1, 1) := by decide +kernel
theorem dX1_isBusFit_17 : decode cX1_isBusFit 17 = .ok (.invokevirtual 123, 3) := by decide +kernel
theorem dX1_isBusFit_20 : decode cX1_isBusFit 20 = .ok (.isub, 1) := by decide +kernel
theorem dX1_isBusFit_21 : decode cX1_isBusFit 21 = .ok (.aload_n 2, 1) := by decide +kernel
theorem dX1_isBusFit_22 : decode cX1_isBusFit 22 = .ok (.getfield 150, 3) := by decide +kernel
theorem dX1_isBusFit_25 : decode cX1_isBusFit 25 = .ok (.if_icmp .ge 5, 3) := by decide +kernel
theorem dX1_isBusFit_28 : decode cX1_isBusFit 28 = .ok (.iconst 0, 1) := by decide +kernel
theorem dX1_isBusFit_29 : decode cX1_isBusFit 29 = .ok (.ireturn, 1) := by decide +kernel
theorem dX1_isBusFit_30 : decode cX1_isBusFit 30 = .ok (.iconst 0, 1) := by decide +kernel
theorem dX1_isBusFit_31 : decode cX1_isBusFit 31 = .ok (.istore_n 3, 1) := by decide +kernel
theorem dX1_isBusFit_32 : decode cX1_isBusFit 32 = .ok (.iload_n 3, 1) := by decide +kernel
theorem dX1_isBusFit_33 : decode cX1_isBusFit 33 = .ok (.aload_n 0, 1) := by decide +kernel
theorem dX1_isBusFit_34 : decode cX1_isBusFit 34 = .ok (.getfield 39, 3) := by decide +kernel
theorem dX1_isBusFit_37 : decode cX1_isBusFit 37 = .ok (.if_icmp .ge 37, 3) := by decide +kernel
theorem dX1_isBusFit_40 : decode cX1_isBusFit 40 = .ok (.aload_n 0, 1) := by decide +kernel
theorem dX1_isBusFit_41 : decode cX1_isBusFit 41 = .ok (.getfield 11, 3) := by decide +kernel
theorem dX1_isBusFit_44 : decode cX1_isBusFit 44 = .ok (.iload_n 3, 1) := by decide +kernel
theorem dX1_isBusFit_45 : decode cX1_isBusFit 45 = .ok (.aaload, 1) := by decide +kernel
theorem dX1_isBusFit_46 : decode cX1_isBusFit 46 = .ok (.iload_n 1, 1) := by decide +kernel
theorem dX1_isBusFit_47 : decode cX1_isBusFit 47 = .ok (.invokevirtual 153, 3) := by decide +kernel
theorem dX1_isBusFit_50 : decode cX1_isBusFit 50 = .ok (.ifCond .eq 18, 3) := by decide +kernel
theorem dX1_isBusFit_53 : decode cX1_isBusFit 53 = .ok (.aload_n 0, 1) := by decide +kernel
theorem dX1_isBusFit_54 : decode cX1_isBusFit 54 = .ok (.getfield 11, 3) := by decide +kernel
theorem dX1_isBusFit_57 : decode cX1_isBusFit 57 = .ok (.iload_n 3, 1) := by decide +kernel
theorem dX1_isBusFit_58 : decode cX1_isBusFit 58 = .ok (.aaload, 1) := by decide +kernel
theorem dX1_isBusFit_59 : decode cX1_isBusFit 59 = .ok (.aload_n 2, 1) := by decide +kernel
theorem dX1_isBusFit_60 : decode cX1_isBusFit 60 = .ok (.invokevirtual 156, 3) := by decide +kernel
theorem dX1_isBusFit_63 : decode cX1_isBusFit 63 = .ok (.ifCond .eq 5, 3) := by decide +kernel
theorem dX1_isBusFit_66 : decode cX1_isBusFit 66 = .ok (.iconst 0, 1) := by decide +kernel
theorem dX1_isBusFit_67 : decode cX1_isBusFit 67 = .ok (.ireturn, 1) := by decide +kernel
theorem dX1_isBusFit_68 : decode cX1_isBusFit 68 = .ok (.iinc 3 1, 3) := by decide +kernel
theorem dX1_isBusFit_71 : decode cX1_isBusFit 71 = .ok (.goto (-39), 3) := by decide +kernel
theorem dX1_isBusFit_74 : decode cX1_isBusFit 74 = .ok (.iconst 1, 1) := by decide +kernel
theorem dX1_isBusFit_75 : decode cX1_isBusFit 75 = .ok (.ireturn, 1) := by decide +kernel
set_option maxRecDepth 20000 in
theorem ggX1_isDriverFit_X0_startDay : GoodIn wsX1_isDriverFit wsX0_startDay := goodIn_r _ [8, 9, 42, 43, 44, 45, 46, 47] (by decide +kernel) (by decide +kernel)
set_option maxRecDepth 20000 in
theorem gX1_isDriverFit_X0_startDay : GoodIn wsX1_isDriverFit (wsV RX1 160 RX0 yX0_startDay wsX0_startDay) := goodIn_app (goodIn_of _ (by decide +kernel)) ggX1_isDriverFit_X0_startDay
set_option maxRecDepth 20000 in
theorem ggX1_isDriverFit_X1_workedMinutes : GoodIn wsX1_isDriverFit wsX1_workedMinutes := goodIn_r _ [14, 2, 3, 15, 16, 17, 7, 18, 19, 20, 5, 6, 8, 9, 21, 22, 23, 24, 25, 30, 31, 32, 33, 34, 35, 36, 37, 38, 39, 40, 41, 42, 43, 44, 45, 46, 47] (by decide +kernel) (by decide +kernel)
set_option maxRecDepth 20000 in
theorem gX1_isDriverFit_X1_workedMinutes : GoodIn wsX1_isDriverFit (wsV RX1 127 RX1 yX1_workedMinutes wsX1_workedMinutes) := goodIn_app (goodIn_of _ (by decide +kernel)) ggX1_isDriverFit_X1_workedMinutes
set_option maxRecDepth 20000 in
theorem ggX1_isDriverFit_X0_length : GoodIn wsX1_isDriverFit wsX0_length := goodIn_r _ [24, 25, 9, 42, 43, 44, 45, 46, 47] (by decide +kernel) (by decide +kernel)
set_option maxRecDepth 20000 in
theorem gX1_isDriverFit_X0_length : GoodIn wsX1_isDriverFit (wsV RX1 163 RX0 yX0_length wsX0_length) := goodIn_app (goodIn_of _ (by decide +kernel)) ggX1_isDriverFit_X0_length
set_option maxRecDepth 20000 in
theorem ggX1_isDriverFit_X0_isWorkOf : GoodIn wsX1_isDriverFit wsX0_isWorkOf := goodIn_r _ [18, 19, 20, 5, 6, 7, 8, 9, 42, 43, 44, 45, 46, 47] (by decide +kernel) (by decide +kernel)
set_option maxRecDepth 20000 in
theorem gX1_isDriverFit_X0_isWorkOf : GoodIn wsX1_isDriverFit (wsV RX1 166 RX0 yX0_isWorkOf wsX0_isWorkOf) := goodIn_app (goodIn_of _ (by decide +kernel)) ggX1_isDriverFit_X0_isWorkOf
set_option maxRecDepth 20000 in
theorem ggX1_isDriverFit_X0_isRestedFrom : GoodIn wsX1_isDriverFit wsX0_isRestedFrom := goodIn_r _ [29, 25, 9, 42, 43, 44, 45, 46, 47] (by decide +kernel) (by decide +kernel)
set_option maxRecDepth 20000 in
theorem gX1_isDriverFit_X0_isRestedFrom : GoodIn wsX1_isDriverFit (wsV RX1 170 RX0 yX0_isRestedFrom wsX0_isRestedFrom) := goodIn_app (goodIn_of _ (by decide +kernel)) ggX1_isDriverFit_X0_isRestedFrom
theorem dX1_isDriverFit_0 : decode cX1_isDriverFit 0 = .ok (.aload_n 2, 1) := by decide +kernel
theorem dX1_isDriverFit_1 : decode cX1_isDriverFit 1 = .ok (.invokevirtual 160, 3) := by decide +kernel
theorem dX1_isDriverFit_4 : decode cX1_isDriverFit 4 = .ok (.istore_n 3, 1) := by decide +kernel
theorem dX1_isDriverFit_5 : decode cX1_isDriverFit 5 = .ok (.aload_n 0, 1) := by decide +kernel
theorem dX1_isDriverFit_6 : decode cX1_isDriverFit 6 = .ok (.getfield 23, 3) := by decide +kernel
theorem dX1_isDriverFit_9 : decode cX1_isDriverFit 9 = .ok (.iload_n 1, 1) := by decide +kernel
theorem dX1_isDriverFit_10 : decode cX1_isDriverFit 10 = .ok (.baload, 1) := by decide +kernel
theorem dX1_isDriverFit_11 : decode cX1_isDriverFit 11 = .ok (.ifCond .ne 20, 3) := by decide +kernel
theorem dX1_isDriverFit_14 : decode cX1_isDriverFit 14 = .ok (.aload_n 0, 1) := by decide +kernel
theorem dX1_isDriverFit_15 : decode cX1_isDriverFit 15 = .ok (.iload_n 1, 1) := by decide +kernel
theorem dX1_isDriverFit_16 : decode cX1_isDriverFit 16 = .ok (.iload_n 3, 1) := by decide +kernel
theorem dX1_isDriverFit_17 : decode cX1_isDriverFit 17 = .ok (.invokevirtual 127, 3) := by decide +kernel
theorem dX1_isDriverFit_20 : decode cX1_isDriverFit 20 = .ok (.aload_n 2, 1) := by decide +kernel
theorem dX1_isDriverFit_21 : decode cX1_isDriverFit 21 = .ok (.invokevirtual 163, 3) := by decide +kernel
theorem dX1_isDriverFit_24 : decode cX1_isDriverFit 24 = .ok (.iadd, 1) := by decide +kernel
theorem dX1_isDriverFit_25 : decode cX1_isDriverFit 25 = .ok (.sipush 480, 3) := by decide +kernel
theorem dX1_isDriverFit_28 : decode cX1_isDriverFit 28 = .ok (.if_icmp .le 5, 3) := by decide +kernel
theorem dX1_isDriverFit_31 : decode cX1_isDriverFit 31 = .ok (.iconst 0, 1) := by decide +kernel
theorem dX1_isDriverFit_32 : decode cX1_isDriverFit 32 = .ok (.ireturn, 1) := by decide +kernel
theorem dX1_isDriverFit_33 : decode cX1_isDriverFit 33 = .ok (.iconst 0, 1) := by decide +kernel
theorem dX1_isDriverFit_34 : decode cX1_isDriverFit 34 = .ok (.istore 4, 2) := by decide +kernel
theorem dX1_isDriverFit_36 : decode cX1_isDriverFit 36 = .ok (.iload 4, 2) := by decide +kernel
theorem dX1_isDriverFit_38 : decode cX1_isDriverFit 38 = .ok (.aload_n 0, 1) := by decide +kernel
theorem dX1_isDriverFit_39 : decode cX1_isDriverFit 39 = .ok (.getfield 39, 3) := by decide +kernel
theorem dX1_isDriverFit_42 : decode cX1_isDriverFit 42 = .ok (.if_icmp .ge 40, 3) := by decide +kernel
theorem dX1_isDriverFit_45 : decode cX1_isDriverFit 45 = .ok (.aload_n 0, 1) := by decide +kernel
theorem dX1_isDriverFit_46 : decode cX1_isDriverFit 46 = .ok (.getfield 11, 3) := by decide +kernel
theorem dX1_isDriverFit_49 : decode cX1_isDriverFit 49 = .ok (.iload 4, 2) := by decide +kernel
theorem dX1_isDriverFit_51 : decode cX1_isDriverFit 51 = .ok (.aaload, 1) := by decide +kernel
theorem dX1_isDriverFit_52 : decode cX1_isDriverFit 52 = .ok (.iload_n 1, 1) := by decide +kernel
theorem dX1_isDriverFit_53 : decode cX1_isDriverFit 53 = .ok (.iload_n 3, 1) := by decide +kernel
theorem dX1_isDriverFit_54 : decode cX1_isDriverFit 54 = .ok (.invokevirtual 166, 3) := by decide +kernel
theorem dX1_isDriverFit_57 : decode cX1_isDriverFit 57 = .ok (.ifCond .eq 19, 3) := by decide +kernel
theorem dX1_isDriverFit_60 : decode cX1_isDriverFit 60 = .ok (.aload_n 0, 1) := by decide +kernel
theorem dX1_isDriverFit_61 : decode cX1_isDriverFit 61 = .ok (.getfield 11, 3) := by decide +kernel
theorem dX1_isDriverFit_64 : decode cX1_isDriverFit 64 = .ok (.iload 4, 2) := by decide +kernel
theorem dX1_isDriverFit_66 : decode cX1_isDriverFit 66 = .ok (.aaload, 1) := by decide +kernel
theorem dX1_isDriverFit_67 : decode cX1_isDriverFit 67 = .ok (.aload_n 2, 1) := by decide +kernel
theorem dX1_isDriverFit_68 : decode cX1_isDriverFit 68 = .ok (.invokevirtual 170, 3) := by decide +kernel
theorem dX1_isDriverFit_71 : decode cX1_isDriverFit 71 = .ok (.ifCond .ne 5, 3) := by decide +kernel
theorem dX1_isDriverFit_74 : decode cX1_isDriverFit 74 = .ok (.iconst 0, 1) := by decide +kernel
theorem dX1_isDriverFit_75 : decode cX1_isDriverFit 75 = .ok (.ireturn, 1) := by decide +kernel
theorem dX1_isDriverFit_76 : decode cX1_isDriverFit 76 = .ok (.iinc 4 1, 3) := by decide +kernel
theorem dX1_isDriverFit_79 : decode cX1_isDriverFit 79 = .ok (.goto (-43), 3) := by decide +kernel
theorem dX1_isDriverFit_82 : decode cX1_isDriverFit 82 = .ok (.iconst 1, 1) := by decide +kernel
theorem dX1_isDriverFit_83 : decode cX1_isDriverFit 83 = .ok (.ireturn, 1) := by decide +kernel
set_option maxRecDepth 20000 in
theorem ggX1_lowestFitBus_X1_isBusFit : GoodIn wsX1_lowestFitBus wsX1_isBusFit := goodIn_r _ [5, 6, 7, 8, 9, 10, 11, 12, 13, 4, 14, 15, 16, 17, 18, 19, 20, 21, 22, 23, 24, 25, 26, 27, 28, 29, 30, 31, 32, 33, 34, 35, 36, 37, 38, 39, 40, 41, 42, 43, 44, 45, 46, 47] (by decide +kernel) (by decide +kernel)
set_option maxRecDepth 20000 in
theorem gX1_lowestFitBus_X1_isBusFit : GoodIn wsX1_lowestFitBus (wsV RX1 143 RX1 yX1_isBusFit wsX1_isBusFit) := goodIn_app (goodIn_of _ (by decide +kernel)) ggX1_lowestFitBus_X1_isBusFit
theorem dX1_lowestFitBus_0 : decode cX1_lowestFitBus 0 = .ok (.iconst 0, 1) := by decide +kernel
theorem dX1_lowestFitBus_1 : decode cX1_lowestFitBus 1 = .ok (.istore_n 2, 1) := by decide +kernel
theorem dX1_lowestFitBus_2 : decode cX1_lowestFitBus 2 = .ok (.iload_n 2, 1) := by decide +kernel
theorem dX1_lowestFitBus_3 : decode cX1_lowestFitBus 3 = .ok (.iconst 5, 1) := by decide +kernel
theorem dX1_lowestFitBus_4 : decode cX1_lowestFitBus 4 = .ok (.if_icmp .ge 20, 3) := by decide +kernel
theorem dX1_lowestFitBus_7 : decode cX1_lowestFitBus 7 = .ok (.aload_n 0, 1) := by decide +kernel
theorem dX1_lowestFitBus_8 : decode cX1_lowestFitBus 8 = .ok (.iload_n 2, 1) := by decide +kernel
theorem dX1_lowestFitBus_9 : decode cX1_lowestFitBus 9 = .ok (.aload_n 1, 1) := by decide +kernel
theorem dX1_lowestFitBus_10 : decode cX1_lowestFitBus 10 = .ok (.invokevirtual 143, 3) := by decide +kernel
theorem dX1_lowestFitBus_13 : decode cX1_lowestFitBus 13 = .ok (.ifCond .eq 5, 3) := by decide +kernel
theorem dX1_lowestFitBus_16 : decode cX1_lowestFitBus 16 = .ok (.iload_n 2, 1) := by decide +kernel
theorem dX1_lowestFitBus_17 : decode cX1_lowestFitBus 17 = .ok (.ireturn, 1) := by decide +kernel
theorem dX1_lowestFitBus_18 : decode cX1_lowestFitBus 18 = .ok (.iinc 2 1, 3) := by decide +kernel
theorem dX1_lowestFitBus_21 : decode cX1_lowestFitBus 21 = .ok (.goto (-19), 3) := by decide +kernel
theorem dX1_lowestFitBus_24 : decode cX1_lowestFitBus 24 = .ok (.iconst (-1), 1) := by decide +kernel
theorem dX1_lowestFitBus_25 : decode cX1_lowestFitBus 25 = .ok (.ireturn, 1) := by decide +kernel
set_option maxRecDepth 20000 in
theorem ggX1_lowestFitDriver_X1_isDriverFit : GoodIn wsX1_lowestFitDriver wsX1_isDriverFit := goodIn_r _ [5, 6, 7, 8, 9, 10, 11, 12, 13, 14, 15, 16, 17, 4, 18, 19, 20, 21, 22, 23, 24, 25, 26, 27, 28, 29, 30, 31, 32, 33, 34, 35, 36, 37, 38, 39, 40, 41, 42, 43, 44, 45, 46, 47, 48, 49, 50, 51] (by decide +kernel) (by decide +kernel)
set_option maxRecDepth 20000 in
theorem gX1_lowestFitDriver_X1_isDriverFit : GoodIn wsX1_lowestFitDriver (wsV RX1 147 RX1 yX1_isDriverFit wsX1_isDriverFit) := goodIn_app (goodIn_of _ (by decide +kernel)) ggX1_lowestFitDriver_X1_isDriverFit
theorem dX1_lowestFitDriver_0 : decode cX1_lowestFitDriver 0 = .ok (.iconst 0, 1) := by decide +kernel
theorem dX1_lowestFitDriver_1 : decode cX1_lowestFitDriver 1 = .ok (.istore_n 2, 1) := by decide +kernel
theorem dX1_lowestFitDriver_2 : decode cX1_lowestFitDriver 2 = .ok (.iload_n 2, 1) := by decide +kernel
theorem dX1_lowestFitDriver_3 : decode cX1_lowestFitDriver 3 = .ok (.iconst 5, 1) := by decide +kernel
theorem dX1_lowestFitDriver_4 : decode cX1_lowestFitDriver 4 = .ok (.if_icmp .ge 20, 3) := by decide +kernel
theorem dX1_lowestFitDriver_7 : decode cX1_lowestFitDriver 7 = .ok (.aload_n 0, 1) := by decide +kernel
theorem dX1_lowestFitDriver_8 : decode cX1_lowestFitDriver 8 = .ok (.iload_n 2, 1) := by decide +kernel
theorem dX1_lowestFitDriver_9 : decode cX1_lowestFitDriver 9 = .ok (.aload_n 1, 1) := by decide +kernel
theorem dX1_lowestFitDriver_10 : decode cX1_lowestFitDriver 10 = .ok (.invokevirtual 147, 3) := by decide +kernel
theorem dX1_lowestFitDriver_13 : decode cX1_lowestFitDriver 13 = .ok (.ifCond .eq 5, 3) := by decide +kernel
theorem dX1_lowestFitDriver_16 : decode cX1_lowestFitDriver 16 = .ok (.iload_n 2, 1) := by decide +kernel
theorem dX1_lowestFitDriver_17 : decode cX1_lowestFitDriver 17 = .ok (.ireturn, 1) := by decide +kernel
theorem dX1_lowestFitDriver_18 : decode cX1_lowestFitDriver 18 = .ok (.iinc 2 1, 3) := by decide +kernel
theorem dX1_lowestFitDriver_21 : decode cX1_lowestFitDriver 21 = .ok (.goto (-19), 3) := by decide +kernel
theorem dX1_lowestFitDriver_24 : decode cX1_lowestFitDriver 24 = .ok (.iconst (-1), 1) := by decide +kernel
theorem dX1_lowestFitDriver_25 : decode cX1_lowestFitDriver 25 = .ok (.ireturn, 1) := by decide +kernel
theorem dX1_promisedCharge_0 : decode cX1_promisedCharge 0 = .ok (.iconst 0, 1) := by decide +kernel
theorem dX1_promisedCharge_1 : decode cX1_promisedCharge 1 = .ok (.istore_n 2, 1) := by decide +kernel
theorem dX1_promisedCharge_2 : decode cX1_promisedCharge 2 = .ok (.iconst 0, 1) := by decide +kernel
theorem dX1_promisedCharge_3 : decode cX1_promisedCharge 3 = .ok (.istore_n 3, 1) := by decide +kernel
theorem dX1_promisedCharge_4 : decode cX1_promisedCharge 4 = .ok (.iload_n 3, 1) := by decide +kernel
theorem dX1_promisedCharge_5 : decode cX1_promisedCharge 5 = .ok (.aload_n 0, 1) := by decide +kernel
theorem dX1_promisedCharge_6 : decode cX1_promisedCharge 6 = .ok (.getfield 39, 3) := by decide +kernel
theorem dX1_promisedCharge_9 : decode cX1_promisedCharge 9 = .ok (.if_icmp .ge 47, 3) := by decide +kernel
theorem dX1_promisedCharge_12 : decode cX1_promisedCharge 12 = .ok (.aload_n 0, 1) := by decide +kernel
theorem dX1_promisedCharge_13 : decode cX1_promisedCharge 13 = .ok (.getfield 11, 3) := by decide +kernel
theorem dX1_promisedCharge_16 : decode cX1_promisedCharge 16 = .ok (.iload_n 3, 1) := by decide +kernel
theorem dX1_promisedCharge_17 : decode cX1_promisedCharge 17 = .ok (.aaload, 1) := by decide +kernel
theorem dX1_promisedCharge_18 : decode cX1_promisedCharge 18 = .ok (.getfield 117, 3) := by decide +kernel
theorem dX1_promisedCharge_21 : decode cX1_promisedCharge 21 = .ok (.iload_n 1, 1) := by decide +kernel
theorem dX1_promisedCharge_22 : decode cX1_promisedCharge 22 = .ok (.if_icmp .ne 28, 3) := by decide +kernel
theorem dX1_promisedCharge_25 : decode cX1_promisedCharge 25 = .ok (.aload_n 0, 1) := by decide +kernel
theorem dX1_promisedCharge_26 : decode cX1_promisedCharge 26 = .ok (.getfield 11, 3) := by decide +kernel
theorem dX1_promisedCharge_29 : decode cX1_promisedCharge 29 = .ok (.iload_n 3, 1) := by decide +kernel
theorem dX1_promisedCharge_30 : decode cX1_promisedCharge 30 = .ok (.aaload, 1) := by decide +kernel
theorem dX1_promisedCharge_31 : decode cX1_promisedCharge 31 = .ok (.getfield 114, 3) := by decide +kernel
theorem dX1_promisedCharge_34 : decode cX1_promisedCharge 34 = .ok (.iconst 1, 1) := by decide +kernel
theorem dX1_promisedCharge_35 : decode cX1_promisedCharge 35 = .ok (.if_icmp .ne 15, 3) := by decide +kernel
theorem dX1_promisedCharge_38 : decode cX1_promisedCharge 38 = .ok (.iload_n 2, 1) := by decide +kernel
theorem dX1_promisedCharge_39 : decode cX1_promisedCharge 39 = .ok (.aload_n 0, 1) := by decide +kernel
theorem dX1_promisedCharge_40 : decode cX1_promisedCharge 40 = .ok (.getfield 11, 3) := by decide +kernel
theorem dX1_promisedCharge_43 : decode cX1_promisedCharge 43 = .ok (.iload_n 3, 1) := by decide +kernel
theorem dX1_promisedCharge_44 : decode cX1_promisedCharge 44 = .ok (.aaload, 1) := by decide +kernel
theorem dX1_promisedCharge_45 : decode cX1_promisedCharge 45 = .ok (.getfield 150, 3) := by decide +kernel
theorem dX1_promisedCharge_48 : decode cX1_promisedCharge 48 = .ok (.iadd, 1) := by decide +kernel
theorem dX1_promisedCharge_49 : decode cX1_promisedCharge 49 = .ok (.istore_n 2, 1) := by decide +kernel
theorem dX1_promisedCharge_50 : decode cX1_promisedCharge 50 = .ok (.iinc 3 1, 3) := by decide +kernel
theorem dX1_promisedCharge_53 : decode cX1_promisedCharge 53 = .ok (.goto (-49), 3) := by decide +kernel
theorem dX1_promisedCharge_56 : decode cX1_promisedCharge 56 = .ok (.iload_n 2, 1) := by decide +kernel
theorem dX1_promisedCharge_57 : decode cX1_promisedCharge 57 = .ok (.ireturn, 1) := by decide +kernel
set_option maxRecDepth 20000 in
theorem ggX1_workedMinutes_X0_isWorkOf : GoodIn wsX1_workedMinutes wsX0_isWorkOf := goodIn_r _ [7, 8, 9, 10, 11, 6, 12, 13, 31, 32, 33, 34, 35, 36] (by decide +kernel) (by decide +kernel)
set_option maxRecDepth 20000 in
theorem gX1_workedMinutes_X0_isWorkOf : GoodIn wsX1_workedMinutes (wsV RX1 166 RX0 yX0_isWorkOf wsX0_isWorkOf) := goodIn_app (goodIn_of _ (by decide +kernel)) ggX1_workedMinutes_X0_isWorkOf
set_option maxRecDepth 20000 in
theorem ggX1_workedMinutes_X0_length : GoodIn wsX1_workedMinutes wsX0_length := goodIn_r _ [17, 18, 13, 31, 32, 33, 34, 35, 36] (by decide +kernel) (by decide +kernel)
set_option maxRecDepth 20000 in
theorem gX1_workedMinutes_X0_length : GoodIn wsX1_workedMinutes (wsV RX1 163 RX0 yX0_length wsX0_length) := goodIn_app (goodIn_of _ (by decide +kernel)) ggX1_workedMinutes_X0_length
theorem dX1_workedMinutes_0 : decode cX1_workedMinutes 0 = .ok (.iconst 0, 1) := by decide +kernel
theorem dX1_workedMinutes_1 : decode cX1_workedMinutes 1 = .ok (.istore_n 3, 1) := by decide +kernel
theorem dX1_workedMinutes_2 : decode cX1_workedMinutes 2 = .ok (.iconst 0, 1) := by decide +kernel
theorem dX1_workedMinutes_3 : decode cX1_workedMinutes 3 = .ok (.istore 4, 2) := by decide +kernel
theorem dX1_workedMinutes_5 : decode cX1_workedMinutes 5 = .ok (.iload 4, 2) := by decide +kernel
theorem dX1_workedMinutes_7 : decode cX1_workedMinutes 7 = .ok (.aload_n 0, 1) := by decide +kernel
theorem dX1_workedMinutes_8 : decode cX1_workedMinutes 8 = .ok (.getfield 39, 3) := by decide +kernel
theorem dX1_workedMinutes_11 : decode cX1_workedMinutes 11 = .ok (.if_icmp .ge 37, 3) := by decide +kernel
theorem dX1_workedMinutes_14 : decode cX1_workedMinutes 14 = .ok (.aload_n 0, 1) := by decide +kernel
theorem dX1_workedMinutes_15 : decode cX1_workedMinutes 15 = .ok (.getfield 11, 3) := by decide +kernel
theorem dX1_workedMinutes_18 : decode cX1_workedMinutes 18 = .ok (.iload 4, 2) := by decide +kernel
theorem dX1_workedMinutes_20 : decode cX1_workedMinutes 20 = .ok (.aaload, 1) := by decide +kernel
theorem dX1_workedMinutes_21 : decode cX1_workedMinutes 21 = .ok (.iload_n 1, 1) := by decide +kernel
theorem dX1_workedMinutes_22 : decode cX1_workedMinutes 22 = .ok (.iload_n 2, 1) := by decide +kernel
theorem dX1_workedMinutes_23 : decode cX1_workedMinutes 23 = .ok (.invokevirtual 166, 3) := by decide +kernel
theorem dX1_workedMinutes_26 : decode cX1_workedMinutes 26 = .ok (.ifCond .eq 16, 3) := by decide +kernel
theorem dX1_workedMinutes_29 : decode cX1_workedMinutes 29 = .ok (.iload_n 3, 1) := by decide +kernel
theorem dX1_workedMinutes_30 : decode cX1_workedMinutes 30 = .ok (.aload_n 0, 1) := by decide +kernel
theorem dX1_workedMinutes_31 : decode cX1_workedMinutes 31 = .ok (.getfield 11, 3) := by decide +kernel
theorem dX1_workedMinutes_34 : decode cX1_workedMinutes 34 = .ok (.iload 4, 2) := by decide +kernel
theorem dX1_workedMinutes_36 : decode cX1_workedMinutes 36 = .ok (.aaload, 1) := by decide +kernel
theorem dX1_workedMinutes_37 : decode cX1_workedMinutes 37 = .ok (.invokevirtual 163, 3) := by decide +kernel
theorem dX1_workedMinutes_40 : decode cX1_workedMinutes 40 = .ok (.iadd, 1) := by decide +kernel
theorem dX1_workedMinutes_41 : decode cX1_workedMinutes 41 = .ok (.istore_n 3, 1) := by decide +kernel
theorem dX1_workedMinutes_42 : decode cX1_workedMinutes 42 = .ok (.iinc 4 1, 3) := by decide +kernel
theorem dX1_workedMinutes_45 : decode cX1_workedMinutes 45 = .ok (.goto (-40), 3) := by decide +kernel
theorem dX1_workedMinutes_48 : decode cX1_workedMinutes 48 = .ok (.iload_n 3, 1) := by decide +kernel
theorem dX1_workedMinutes_49 : decode cX1_workedMinutes 49 = .ok (.ireturn, 1) := by decide +kernel
set_option maxRecDepth 20000 in
theorem ggX1_takeOrdersFromBus_X0_drop : GoodIn wsX1_takeOrdersFromBus wsX0_drop := goodIn_r _ [9, 10, 11, 12, 25, 26, 27, 28, 29, 30] (by decide +kernel) (by decide +kernel)
set_option maxRecDepth 20000 in
theorem gX1_takeOrdersFromBus_X0_drop : GoodIn wsX1_takeOrdersFromBus (wsV RX1 173 RX0 yX0_drop wsX0_drop) := goodIn_app (goodIn_of _ (by decide +kernel)) ggX1_takeOrdersFromBus_X0_drop
theorem dX1_takeOrdersFromBus_0 : decode cX1_takeOrdersFromBus 0 = .ok (.iconst 0, 1) := by decide +kernel
theorem dX1_takeOrdersFromBus_1 : decode cX1_takeOrdersFromBus 1 = .ok (.istore_n 2, 1) := by decide +kernel
theorem dX1_takeOrdersFromBus_2 : decode cX1_takeOrdersFromBus 2 = .ok (.iload_n 2, 1) := by decide +kernel
theorem dX1_takeOrdersFromBus_3 : decode cX1_takeOrdersFromBus 3 = .ok (.aload_n 0, 1) := by decide +kernel
theorem dX1_takeOrdersFromBus_4 : decode cX1_takeOrdersFromBus 4 = .ok (.getfield 39, 3) := by decide +kernel
theorem dX1_takeOrdersFromBus_7 : decode cX1_takeOrdersFromBus 7 = .ok (.if_icmp .ge 45, 3) := by decide +kernel
theorem dX1_takeOrdersFromBus_10 : decode cX1_takeOrdersFromBus 10 = .ok (.aload_n 0, 1) := by decide +kernel
theorem dX1_takeOrdersFromBus_11 : decode cX1_takeOrdersFromBus 11 = .ok (.getfield 11, 3) := by decide +kernel
theorem dX1_takeOrdersFromBus_14 : decode cX1_takeOrdersFromBus 14 = .ok (.iload_n 2, 1) := by decide +kernel
theorem dX1_takeOrdersFromBus_15 : decode cX1_takeOrdersFromBus 15 = .ok (.aaload, 1) := by decide +kernel
theorem dX1_takeOrdersFromBus_16 : decode cX1_takeOrdersFromBus 16 = .ok (.getfield 114, 3) := by decide +kernel
theorem dX1_takeOrdersFromBus_19 : decode cX1_takeOrdersFromBus 19 = .ok (.iconst 1, 1) := by decide +kernel
theorem dX1_takeOrdersFromBus_20 : decode cX1_takeOrdersFromBus 20 = .ok (.if_icmp .ne 26, 3) := by decide +kernel
theorem dX1_takeOrdersFromBus_23 : decode cX1_takeOrdersFromBus 23 = .ok (.aload_n 0, 1) := by decide +kernel
theorem dX1_takeOrdersFromBus_24 : decode cX1_takeOrdersFromBus 24 = .ok (.getfield 11, 3) := by decide +kernel
theorem dX1_takeOrdersFromBus_27 : decode cX1_takeOrdersFromBus 27 = .ok (.iload_n 2, 1) := by decide +kernel
theorem dX1_takeOrdersFromBus_28 : decode cX1_takeOrdersFromBus 28 = .ok (.aaload, 1) := by decide +kernel
theorem dX1_takeOrdersFromBus_29 : decode cX1_takeOrdersFromBus 29 = .ok (.getfield 117, 3) := by decide +kernel
theorem dX1_takeOrdersFromBus_32 : decode cX1_takeOrdersFromBus 32 = .ok (.iload_n 1, 1) := by decide +kernel
theorem dX1_takeOrdersFromBus_33 : decode cX1_takeOrdersFromBus 33 = .ok (.if_icmp .ne 13, 3) := by decide +kernel
theorem dX1_takeOrdersFromBus_36 : decode cX1_takeOrdersFromBus 36 = .ok (.aload_n 0, 1) := by decide +kernel
theorem dX1_takeOrdersFromBus_37 : decode cX1_takeOrdersFromBus 37 = .ok (.getfield 11, 3) := by decide +kernel
theorem dX1_takeOrdersFromBus_40 : decode cX1_takeOrdersFromBus 40 = .ok (.iload_n 2, 1) := by decide +kernel
theorem dX1_takeOrdersFromBus_41 : decode cX1_takeOrdersFromBus 41 = .ok (.aaload, 1) := by decide +kernel
theorem dX1_takeOrdersFromBus_42 : decode cX1_takeOrdersFromBus 42 = .ok (.iconst 0, 1) := by decide +kernel
theorem dX1_takeOrdersFromBus_43 : decode cX1_takeOrdersFromBus 43 = .ok (.invokevirtual 173, 3) := by decide +kernel
theorem dX1_takeOrdersFromBus_46 : decode cX1_takeOrdersFromBus 46 = .ok (.iinc 2 1, 3) := by decide +kernel
theorem dX1_takeOrdersFromBus_49 : decode cX1_takeOrdersFromBus 49 = .ok (.goto (-47), 3) := by decide +kernel
theorem dX1_takeOrdersFromBus_52 : decode cX1_takeOrdersFromBus 52 = .ok (.return_, 1) := by decide +kernel
set_option maxRecDepth 20000 in
theorem ggX1_takeOrdersFromDriver_X0_drop : GoodIn wsX1_takeOrdersFromDriver wsX0_drop := goodIn_r _ [9, 10, 11, 12, 25, 26, 27, 28, 29, 30] (by decide +kernel) (by decide +kernel)
set_option maxRecDepth 20000 in
theorem gX1_takeOrdersFromDriver_X0_drop : GoodIn wsX1_takeOrdersFromDriver (wsV RX1 173 RX0 yX0_drop wsX0_drop) := goodIn_app (goodIn_of _ (by decide +kernel)) ggX1_takeOrdersFromDriver_X0_drop
theorem dX1_takeOrdersFromDriver_0 : decode cX1_takeOrdersFromDriver 0 = .ok (.iconst 0, 1) := by decide +kernel
theorem dX1_takeOrdersFromDriver_1 : decode cX1_takeOrdersFromDriver 1 = .ok (.istore_n 2, 1) := by decide +kernel
theorem dX1_takeOrdersFromDriver_2 : decode cX1_takeOrdersFromDriver 2 = .ok (.iload_n 2, 1) := by decide +kernel
theorem dX1_takeOrdersFromDriver_3 : decode cX1_takeOrdersFromDriver 3 = .ok (.aload_n 0, 1) := by decide +kernel
theorem dX1_takeOrdersFromDriver_4 : decode cX1_takeOrdersFromDriver 4 = .ok (.getfield 39, 3) := by decide +kernel
theorem dX1_takeOrdersFromDriver_7 : decode cX1_takeOrdersFromDriver 7 = .ok (.if_icmp .ge 45, 3) := by decide +kernel
theorem dX1_takeOrdersFromDriver_10 : decode cX1_takeOrdersFromDriver 10 = .ok (.aload_n 0, 1) := by decide +kernel
theorem dX1_takeOrdersFromDriver_11 : decode cX1_takeOrdersFromDriver 11 = .ok (.getfield 11, 3) := by decide +kernel
theorem dX1_takeOrdersFromDriver_14 : decode cX1_takeOrdersFromDriver 14 = .ok (.iload_n 2, 1) := by decide +kernel
theorem dX1_takeOrdersFromDriver_15 : decode cX1_takeOrdersFromDriver 15 = .ok (.aaload, 1) := by decide +kernel
theorem dX1_takeOrdersFromDriver_16 : decode cX1_takeOrdersFromDriver 16 = .ok (.getfield 114, 3) := by decide +kernel
theorem dX1_takeOrdersFromDriver_19 : decode cX1_takeOrdersFromDriver 19 = .ok (.iconst 1, 1) := by decide +kernel
theorem dX1_takeOrdersFromDriver_20 : decode cX1_takeOrdersFromDriver 20 = .ok (.if_icmp .ne 26, 3) := by decide +kernel
theorem dX1_takeOrdersFromDriver_23 : decode cX1_takeOrdersFromDriver 23 = .ok (.aload_n 0, 1) := by decide +kernel
theorem dX1_takeOrdersFromDriver_24 : decode cX1_takeOrdersFromDriver 24 = .ok (.getfield 11, 3) := by decide +kernel
theorem dX1_takeOrdersFromDriver_27 : decode cX1_takeOrdersFromDriver 27 = .ok (.iload_n 2, 1) := by decide +kernel
theorem dX1_takeOrdersFromDriver_28 : decode cX1_takeOrdersFromDriver 28 = .ok (.aaload, 1) := by decide +kernel
theorem dX1_takeOrdersFromDriver_29 : decode cX1_takeOrdersFromDriver 29 = .ok (.getfield 120, 3) := by decide +kernel
theorem dX1_takeOrdersFromDriver_32 : decode cX1_takeOrdersFromDriver 32 = .ok (.iload_n 1, 1) := by decide +kernel
theorem dX1_takeOrdersFromDriver_33 : decode cX1_takeOrdersFromDriver 33 = .ok (.if_icmp .ne 13, 3) := by decide +kernel
theorem dX1_takeOrdersFromDriver_36 : decode cX1_takeOrdersFromDriver 36 = .ok (.aload_n 0, 1) := by decide +kernel
theorem dX1_takeOrdersFromDriver_37 : decode cX1_takeOrdersFromDriver 37 = .ok (.getfield 11, 3) := by decide +kernel
theorem dX1_takeOrdersFromDriver_40 : decode cX1_takeOrdersFromDriver 40 = .ok (.iload_n 2, 1) := by decide +kernel
theorem dX1_takeOrdersFromDriver_41 : decode cX1_takeOrdersFromDriver 41 = .ok (.aaload, 1) := by decide +kernel
theorem dX1_takeOrdersFromDriver_42 : decode cX1_takeOrdersFromDriver 42 = .ok (.iconst 0, 1) := by decide +kernel
theorem dX1_takeOrdersFromDriver_43 : decode cX1_takeOrdersFromDriver 43 = .ok (.invokevirtual 173, 3) := by decide +kernel
theorem dX1_takeOrdersFromDriver_46 : decode cX1_takeOrdersFromDriver 46 = .ok (.iinc 2 1, 3) := by decide +kernel
theorem dX1_takeOrdersFromDriver_49 : decode cX1_takeOrdersFromDriver 49 = .ok (.goto (-47), 3) := by decide +kernel
theorem dX1_takeOrdersFromDriver_52 : decode cX1_takeOrdersFromDriver 52 = .ok (.return_, 1) := by decide +kernel
set_option maxRecDepth 20000 in
theorem ggX1_swapBus_X1_giveOtherBus : GoodIn wsX1_swapBus wsX1_giveOtherBus := goodIn_r _ [9, 4, 10, 11, 12, 13, 8, 14, 15, 16, 17, 18, 19, 20, 1, 2, 21, 22, 23, 24, 3, 25, 26, 27, 28, 29, 30, 31, 32, 33, 34, 35, 36, 37, 38, 39, 40, 41, 42, 43, 44, 45, 46, 47, 48, 49, 50, 51, 64, 65, 66, 67, 68, 69, 52, 53, 54, 55, 56, 57, 58, 59, 60, 61, 62, 63] (by decide +kernel) (by decide +kernel)
set_option maxRecDepth 20000 in
theorem gX1_swapBus_X1_giveOtherBus : GoodIn wsX1_swapBus (wsV RX1 176 RX1 yX1_giveOtherBus wsX1_giveOtherBus) := goodIn_app (goodIn_of _ (by decide +kernel)) ggX1_swapBus_X1_giveOtherBus
theorem dX1_swapBus_0 : decode cX1_swapBus 0 = .ok (.iconst 0, 1) := by decide +kernel
theorem dX1_swapBus_1 : decode cX1_swapBus 1 = .ok (.istore_n 2, 1) := by decide +kernel
theorem dX1_swapBus_2 : decode cX1_swapBus 2 = .ok (.iload_n 2, 1) := by decide +kernel
theorem dX1_swapBus_3 : decode cX1_swapBus 3 = .ok (.aload_n 0, 1) := by decide +kernel
theorem dX1_swapBus_4 : decode cX1_swapBus 4 = .ok (.getfield 39, 3) := by decide +kernel
theorem dX1_swapBus_7 : decode cX1_swapBus 7 = .ok (.if_icmp .ge 45, 3) := by decide +kernel
theorem dX1_swapBus_10 : decode cX1_swapBus 10 = .ok (.aload_n 0, 1) := by decide +kernel
theorem dX1_swapBus_11 : decode cX1_swapBus 11 = .ok (.getfield 11, 3) := by decide +kernel
theorem dX1_swapBus_14 : decode cX1_swapBus 14 = .ok (.iload_n 2, 1) := by decide +kernel
theorem dX1_swapBus_15 : decode cX1_swapBus 15 = .ok (.aaload, 1) := by decide +kernel
theorem dX1_swapBus_16 : decode cX1_swapBus 16 = .ok (.getfield 114, 3) := by decide +kernel
theorem dX1_swapBus_19 : decode cX1_swapBus 19 = .ok (.iconst 2, 1) := by decide +kernel
theorem dX1_swapBus_20 : decode cX1_swapBus 20 = .ok (.if_icmp .ne 26, 3) := by decide +kernel
theorem dX1_swapBus_23 : decode cX1_swapBus 23 = .ok (.aload_n 0, 1) := by decide +kernel
theorem dX1_swapBus_24 : decode cX1_swapBus 24 = .ok (.getfield 11, 3) := by decide +kernel
theorem dX1_swapBus_27 : decode cX1_swapBus 27 = .ok (.iload_n 2, 1) := by decide +kernel
theorem dX1_swapBus_28 : decode cX1_swapBus 28 = .ok (.aaload, 1) := by decide +kernel
theorem dX1_swapBus_29 : decode cX1_swapBus 29 = .ok (.getfield 117, 3) := by decide +kernel
theorem dX1_swapBus_32 : decode cX1_swapBus 32 = .ok (.iload_n 1, 1) := by decide +kernel
theorem dX1_swapBus_33 : decode cX1_swapBus 33 = .ok (.if_icmp .ne 13, 3) := by decide +kernel
theorem dX1_swapBus_36 : decode cX1_swapBus 36 = .ok (.aload_n 0, 1) := by decide +kernel
theorem dX1_swapBus_37 : decode cX1_swapBus 37 = .ok (.aload_n 0, 1) := by decide +kernel
theorem dX1_swapBus_38 : decode cX1_swapBus 38 = .ok (.getfield 11, 3) := by decide +kernel
theorem dX1_swapBus_41 : decode cX1_swapBus 41 = .ok (.iload_n 2, 1) := by decide +kernel
theorem dX1_swapBus_42 : decode cX1_swapBus 42 = .ok (.aaload, 1) := by decide +kernel
theorem dX1_swapBus_43 : decode cX1_swapBus 43 = .ok (.invokevirtual 176, 3) := by decide +kernel
theorem dX1_swapBus_46 : decode cX1_swapBus 46 = .ok (.iinc 2 1, 3) := by decide +kernel
theorem dX1_swapBus_49 : decode cX1_swapBus 49 = .ok (.goto (-47), 3) := by decide +kernel
theorem dX1_swapBus_52 : decode cX1_swapBus 52 = .ok (.return_, 1) := by decide +kernel
set_option maxRecDepth 20000 in
theorem ggX1_giveOtherBus_X1_lowestFitBus : GoodIn wsX1_giveOtherBus wsX1_lowestFitBus := goodIn_r _ [7, 8, 9, 10, 6, 11, 12, 13, 2, 14, 15, 16, 17, 18, 19, 1, 20, 21, 22, 23, 24, 25, 26, 27, 28, 29, 30, 31, 32, 33, 54, 55, 56, 57, 58, 59, 60, 61, 62, 63, 64, 65, 48, 49, 50, 51, 52, 53] (by decide +kernel) (by decide +kernel)
set_option maxRecDepth 20000 in
theorem gX1_giveOtherBus_X1_lowestFitBus : GoodIn wsX1_giveOtherBus (wsV RX1 180 RX1 yX1_lowestFitBus wsX1_lowestFitBus) := goodIn_app (goodIn_of _ (by decide +kernel)) ggX1_giveOtherBus_X1_lowestFitBus
set_option maxRecDepth 20000 in
theorem ggX1_giveOtherBus_X0_drop : GoodIn wsX1_giveOtherBus wsX0_drop := goodIn_r _ [37, 27, 26, 38, 48, 49, 50, 51, 52, 53] (by decide +kernel) (by decide +kernel)
set_option maxRecDepth 20000 in
theorem gX1_giveOtherBus_X0_drop : GoodIn wsX1_giveOtherBus (wsV RX1 173 RX0 yX0_drop wsX0_drop) := goodIn_app (goodIn_of _ (by decide +kernel)) ggX1_giveOtherBus_X0_drop
set_option maxRecDepth 20000 in
theorem ggX1_giveOtherBus_X1_sendOut : GoodIn wsX1_giveOtherBus wsX1_sendOut := goodIn_r _ [42, 13, 43, 44, 45, 6, 46, 47, 54, 55, 56, 57, 58, 59, 60, 61, 62, 63, 64, 65] (by decide +kernel) (by decide +kernel)
set_option maxRecDepth 20000 in
theorem gX1_giveOtherBus_X1_sendOut : GoodIn wsX1_giveOtherBus (wsV RX1 184 RX1 yX1_sendOut wsX1_sendOut) := goodIn_app (goodIn_of _ (by decide +kernel)) ggX1_giveOtherBus_X1_sendOut
theorem dX1_giveOtherBus_0 : decode cX1_giveOtherBus 0 = .ok (.aload_n 1, 1) := by decide +kernel
theorem dX1_giveOtherBus_1 : decode cX1_giveOtherBus 1 = .ok (.iconst (-1), 1) := by decide +kernel
theorem dX1_giveOtherBus_2 : decode cX1_giveOtherBus 2 = .ok (.putfield 117, 3) := by decide +kernel
theorem dX1_giveOtherBus_5 : decode cX1_giveOtherBus 5 = .ok (.aload_n 0, 1) := by decide +kernel
theorem dX1_giveOtherBus_6 : decode cX1_giveOtherBus 6 = .ok (.aload_n 1, 1) := by decide +kernel
theorem dX1_giveOtherBus_7 : decode cX1_giveOtherBus 7 = .ok (.invokevirtual 180, 3) := by decide +kernel
theorem dX1_giveOtherBus_10 : decode cX1_giveOtherBus 10 = .ok (.istore_n 2, 1) := by decide +kernel
theorem dX1_giveOtherBus_11 : decode cX1_giveOtherBus 11 = .ok (.iload_n 2, 1) := by decide +kernel
theorem dX1_giveOtherBus_12 : decode cX1_giveOtherBus 12 = .ok (.iconst (-1), 1) := by decide +kernel
theorem dX1_giveOtherBus_13 : decode cX1_giveOtherBus 13 = .ok (.if_icmp .ne 11, 3) := by decide +kernel
theorem dX1_giveOtherBus_16 : decode cX1_giveOtherBus 16 = .ok (.aload_n 1, 1) := by decide +kernel
theorem dX1_giveOtherBus_17 : decode cX1_giveOtherBus 17 = .ok (.iconst 4, 1) := by decide +kernel
theorem dX1_giveOtherBus_18 : decode cX1_giveOtherBus 18 = .ok (.invokevirtual 173, 3) := by decide +kernel
theorem dX1_giveOtherBus_21 : decode cX1_giveOtherBus 21 = .ok (.goto 17, 3) := by decide +kernel
theorem dX1_giveOtherBus_24 : decode cX1_giveOtherBus 24 = .ok (.aload_n 1, 1) := by decide +kernel
theorem dX1_giveOtherBus_25 : decode cX1_giveOtherBus 25 = .ok (.iload_n 2, 1) := by decide +kernel
theorem dX1_giveOtherBus_26 : decode cX1_giveOtherBus 26 = .ok (.putfield 117, 3) := by decide +kernel
theorem dX1_giveOtherBus_29 : decode cX1_giveOtherBus 29 = .ok (.aload_n 0, 1) := by decide +kernel
theorem dX1_giveOtherBus_30 : decode cX1_giveOtherBus 30 = .ok (.iload_n 2, 1) := by decide +kernel
theorem dX1_giveOtherBus_31 : decode cX1_giveOtherBus 31 = .ok (.aload_n 1, 1) := by decide +kernel
theorem dX1_giveOtherBus_32 : decode cX1_giveOtherBus 32 = .ok (.getfield 150, 3) := by decide +kernel
theorem dX1_giveOtherBus_35 : decode cX1_giveOtherBus 35 = .ok (.invokevirtual 184, 3) := by decide +kernel
theorem dX1_giveOtherBus_38 : decode cX1_giveOtherBus 38 = .ok (.return_, 1) := by decide +kernel
set_option maxRecDepth 20000 in
theorem ggX1_swapDriver_X1_giveOtherDriver : GoodIn wsX1_swapDriver wsX1_giveOtherDriver := goodIn_r _ [9, 4, 10, 11, 12, 8, 13, 14, 15, 16, 17, 18, 1, 2, 19, 20, 21, 22, 23, 24, 25, 26, 27, 28, 29, 30, 31, 32, 33, 34, 35, 36, 37, 38, 39, 40, 41, 42, 43, 44, 45, 46, 47, 48, 49, 62, 63, 64, 65, 66, 67, 50, 51, 52, 53, 54, 55, 56, 57, 58, 59, 60, 61] (by decide +kernel) (by decide +kernel)
set_option maxRecDepth 20000 in
theorem gX1_swapDriver_X1_giveOtherDriver : GoodIn wsX1_swapDriver (wsV RX1 187 RX1 yX1_giveOtherDriver wsX1_giveOtherDriver) := goodIn_app (goodIn_of _ (by decide +kernel)) ggX1_swapDriver_X1_giveOtherDriver
theorem dX1_swapDriver_0 : decode cX1_swapDriver 0 = .ok (.iconst 0, 1) := by decide +kernel
theorem dX1_swapDriver_1 : decode cX1_swapDriver 1 = .ok (.istore_n 2, 1) := by decide +kernel
theorem dX1_swapDriver_2 : decode cX1_swapDriver 2 = .ok (.iload_n 2, 1) := by decide +kernel
theorem dX1_swapDriver_3 : decode cX1_swapDriver 3 = .ok (.aload_n 0, 1) := by decide +kernel
theorem dX1_swapDriver_4 : decode cX1_swapDriver 4 = .ok (.getfield 39, 3) := by decide +kernel
theorem dX1_swapDriver_7 : decode cX1_swapDriver 7 = .ok (.if_icmp .ge 45, 3) := by decide +kernel
theorem dX1_swapDriver_10 : decode cX1_swapDriver 10 = .ok (.aload_n 0, 1) := by decide +kernel
theorem dX1_swapDriver_11 : decode cX1_swapDriver 11 = .ok (.getfield 11, 3) := by decide +kernel
theorem dX1_swapDriver_14 : decode cX1_swapDriver 14 = .ok (.iload_n 2, 1) := by decide +kernel
theorem dX1_swapDriver_15 : decode cX1_swapDriver 15 = .ok (.aaload, 1) := by decide +kernel
theorem dX1_swapDriver_16 : decode cX1_swapDriver 16 = .ok (.getfield 114, 3) := by decide +kernel
theorem dX1_swapDriver_19 : decode cX1_swapDriver 19 = .ok (.iconst 2, 1) := by decide +kernel
theorem dX1_swapDriver_20 : decode cX1_swapDriver 20 = .ok (.if_icmp .ne 26, 3) := by decide +kernel
theorem dX1_swapDriver_23 : decode cX1_swapDriver 23 = .ok (.aload_n 0, 1) := by decide +kernel
theorem dX1_swapDriver_24 : decode cX1_swapDriver 24 = .ok (.getfield 11, 3) := by decide +kernel
theorem dX1_swapDriver_27 : decode cX1_swapDriver 27 = .ok (.iload_n 2, 1) := by decide +kernel
theorem dX1_swapDriver_28 : decode cX1_swapDriver 28 = .ok (.aaload, 1) := by decide +kernel
theorem dX1_swapDriver_29 : decode cX1_swapDriver 29 = .ok (.getfield 120, 3) := by decide +kernel
theorem dX1_swapDriver_32 : decode cX1_swapDriver 32 = .ok (.iload_n 1, 1) := by decide +kernel
theorem dX1_swapDriver_33 : decode cX1_swapDriver 33 = .ok (.if_icmp .ne 13, 3) := by decide +kernel
theorem dX1_swapDriver_36 : decode cX1_swapDriver 36 = .ok (.aload_n 0, 1) := by decide +kernel
theorem dX1_swapDriver_37 : decode cX1_swapDriver 37 = .ok (.aload_n 0, 1) := by decide +kernel
theorem dX1_swapDriver_38 : decode cX1_swapDriver 38 = .ok (.getfield 11, 3) := by decide +kernel
theorem dX1_swapDriver_41 : decode cX1_swapDriver 41 = .ok (.iload_n 2, 1) := by decide +kernel
theorem dX1_swapDriver_42 : decode cX1_swapDriver 42 = .ok (.aaload, 1) := by decide +kernel
theorem dX1_swapDriver_43 : decode cX1_swapDriver 43 = .ok (.invokevirtual 187, 3) := by decide +kernel
theorem dX1_swapDriver_46 : decode cX1_swapDriver 46 = .ok (.iinc 2 1, 3) := by decide +kernel
theorem dX1_swapDriver_49 : decode cX1_swapDriver 49 = .ok (.goto (-47), 3) := by decide +kernel
theorem dX1_swapDriver_52 : decode cX1_swapDriver 52 = .ok (.return_, 1) := by decide +kernel
set_option maxRecDepth 20000 in
theorem ggX1_giveOtherDriver_X1_lowestFitDriver : GoodIn wsX1_giveOtherDriver wsX1_lowestFitDriver := goodIn_r _ [6, 7, 8, 9, 5, 10, 11, 12, 13, 14, 15, 16, 17, 18, 19, 20, 21, 22, 23, 24, 25, 26, 27, 28, 29, 30, 31, 32, 33, 34, 35, 36, 37, 38, 51, 52, 53, 54, 55, 56, 57, 58, 59, 60, 61, 62, 45, 46, 47, 48, 49, 50] (by decide +kernel) (by decide +kernel)
set_option maxRecDepth 20000 in
theorem gX1_giveOtherDriver_X1_lowestFitDriver : GoodIn wsX1_giveOtherDriver (wsV RX1 190 RX1 yX1_lowestFitDriver wsX1_lowestFitDriver) := goodIn_app (goodIn_of _ (by decide +kernel)) ggX1_giveOtherDriver_X1_lowestFitDriver
set_option maxRecDepth 20000 in
theorem ggX1_giveOtherDriver_X0_drop : GoodIn wsX1_giveOtherDriver wsX0_drop := goodIn_r _ [42, 43, 44, 28, 45, 46, 47, 48, 49, 50] (by decide +kernel) (by decide +kernel)
set_option maxRecDepth 20000 in
theorem gX1_giveOtherDriver_X0_drop : GoodIn wsX1_giveOtherDriver (wsV RX1 173 RX0 yX0_drop wsX0_drop) := goodIn_app (goodIn_of _ (by decide +kernel)) ggX1_giveOtherDriver_X0_drop
theorem dX1_giveOtherDriver_0 : decode cX1_giveOtherDriver 0 = .ok (.aload_n 1, 1) := by decide +kernel
theorem dX1_giveOtherDriver_1 : decode cX1_giveOtherDriver 1 = .ok (.iconst (-1), 1) := by decide +kernel
theorem dX1_giveOtherDriver_2 : decode cX1_giveOtherDriver 2 = .ok (.putfield 120, 3) := by decide +kernel
theorem dX1_giveOtherDriver_5 : decode cX1_giveOtherDriver 5 = .ok (.aload_n 0, 1) := by decide +kernel
theorem dX1_giveOtherDriver_6 : decode cX1_giveOtherDriver 6 = .ok (.aload_n 1, 1) := by decide +kernel
theorem dX1_giveOtherDriver_7 : decode cX1_giveOtherDriver 7 = .ok (.invokevirtual 190, 3) := by decide +kernel
theorem dX1_giveOtherDriver_10 : decode cX1_giveOtherDriver 10 = .ok (.istore_n 2, 1) := by decide +kernel
theorem dX1_giveOtherDriver_11 : decode cX1_giveOtherDriver 11 = .ok (.iload_n 2, 1) := by decide +kernel
theorem dX1_giveOtherDriver_12 : decode cX1_giveOtherDriver 12 = .ok (.iconst (-1), 1) := by decide +kernel
theorem dX1_giveOtherDriver_13 : decode cX1_giveOtherDriver 13 = .ok (.if_icmp .ne 11, 3) := by decide +kernel
theorem dX1_giveOtherDriver_16 : decode cX1_giveOtherDriver 16 = .ok (.aload_n 1, 1) := by decide +kernel
theorem dX1_giveOtherDriver_17 : decode cX1_giveOtherDriver 17 = .ok (.iconst 4, 1) := by decide +kernel
theorem dX1_giveOtherDriver_18 : decode cX1_giveOtherDriver 18 = .ok (.invokevirtual 173, 3) := by decide +kernel
theorem dX1_giveOtherDriver_21 : decode cX1_giveOtherDriver 21 = .ok (.goto 8, 3) := by decide +kernel
theorem dX1_giveOtherDriver_24 : decode cX1_giveOtherDriver 24 = .ok (.aload_n 1, 1) := by decide +kernel
theorem dX1_giveOtherDriver_25 : decode cX1_giveOtherDriver 25 = .ok (.iload_n 2, 1) := by decide +kernel
theorem dX1_giveOtherDriver_26 : decode cX1_giveOtherDriver 26 = .ok (.putfield 120, 3) := by decide +kernel
theorem dX1_giveOtherDriver_29 : decode cX1_giveOtherDriver 29 = .ok (.return_, 1) := by decide +kernel
theorem dX1_isUnderWay_0 : decode cX1_isUnderWay 0 = .ok (.iconst 0, 1) := by decide +kernel
theorem dX1_isUnderWay_1 : decode cX1_isUnderWay 1 = .ok (.istore_n 2, 1) := by decide +kernel
theorem dX1_isUnderWay_2 : decode cX1_isUnderWay 2 = .ok (.iload_n 2, 1) := by decide +kernel
theorem dX1_isUnderWay_3 : decode cX1_isUnderWay 3 = .ok (.aload_n 0, 1) := by decide +kernel
theorem dX1_isUnderWay_4 : decode cX1_isUnderWay 4 = .ok (.getfield 39, 3) := by decide +kernel
theorem dX1_isUnderWay_7 : decode cX1_isUnderWay 7 = .ok (.if_icmp .ge 37, 3) := by decide +kernel
theorem dX1_isUnderWay_10 : decode cX1_isUnderWay 10 = .ok (.aload_n 0, 1) := by decide +kernel
theorem dX1_isUnderWay_11 : decode cX1_isUnderWay 11 = .ok (.getfield 11, 3) := by decide +kernel
theorem dX1_isUnderWay_14 : decode cX1_isUnderWay 14 = .ok (.iload_n 2, 1) := by decide +kernel
theorem dX1_isUnderWay_15 : decode cX1_isUnderWay 15 = .ok (.aaload, 1) := by decide +kernel
theorem dX1_isUnderWay_16 : decode cX1_isUnderWay 16 = .ok (.getfield 114, 3) := by decide +kernel
theorem dX1_isUnderWay_19 : decode cX1_isUnderWay 19 = .ok (.iconst 2, 1) := by decide +kernel
theorem dX1_isUnderWay_20 : decode cX1_isUnderWay 20 = .ok (.if_icmp .ne 18, 3) := by decide +kernel
theorem dX1_isUnderWay_23 : decode cX1_isUnderWay 23 = .ok (.aload_n 0, 1) := by decide +kernel
theorem dX1_isUnderWay_24 : decode cX1_isUnderWay 24 = .ok (.getfield 11, 3) := by decide +kernel
theorem dX1_isUnderWay_27 : decode cX1_isUnderWay 27 = .ok (.iload_n 2, 1) := by decide +kernel
theorem dX1_isUnderWay_28 : decode cX1_isUnderWay 28 = .ok (.aaload, 1) := by decide +kernel
theorem dX1_isUnderWay_29 : decode cX1_isUnderWay 29 = .ok (.getfield 117, 3) := by decide +kernel
theorem dX1_isUnderWay_32 : decode cX1_isUnderWay 32 = .ok (.iload_n 1, 1) := by decide +kernel
theorem dX1_isUnderWay_33 : decode cX1_isUnderWay 33 = .ok (.if_icmp .ne 5, 3) := by decide +kernel
theorem dX1_isUnderWay_36 : decode cX1_isUnderWay 36 = .ok (.iconst 1, 1) := by decide +kernel
theorem dX1_isUnderWay_37 : decode cX1_isUnderWay 37 = .ok (.ireturn, 1) := by decide +kernel
theorem dX1_isUnderWay_38 : decode cX1_isUnderWay 38 = .ok (.iinc 2 1, 3) := by decide +kernel
theorem dX1_isUnderWay_41 : decode cX1_isUnderWay 41 = .ok (.goto (-39), 3) := by decide +kernel
theorem dX1_isUnderWay_44 : decode cX1_isUnderWay 44 = .ok (.iconst 0, 1) := by decide +kernel
theorem dX1_isUnderWay_45 : decode cX1_isUnderWay 45 = .ok (.ireturn, 1) := by decide +kernel
theorem dX1_unplug_0 : decode cX1_unplug 0 = .ok (.iconst 0, 1) := by decide +kernel
theorem dX1_unplug_1 : decode cX1_unplug 1 = .ok (.istore_n 2, 1) := by decide +kernel
theorem dX1_unplug_2 : decode cX1_unplug 2 = .ok (.iload_n 2, 1) := by decide +kernel
theorem dX1_unplug_3 : decode cX1_unplug 3 = .ok (.iconst 2, 1) := by decide +kernel
theorem dX1_unplug_4 : decode cX1_unplug 4 = .ok (.if_icmp .ge 26, 3) := by decide +kernel
theorem dX1_unplug_7 : decode cX1_unplug 7 = .ok (.aload_n 0, 1) := by decide +kernel
theorem dX1_unplug_8 : decode cX1_unplug 8 = .ok (.getfield 26, 3) := by decide +kernel
theorem dX1_unplug_11 : decode cX1_unplug 11 = .ok (.iload_n 2, 1) := by decide +kernel
theorem dX1_unplug_12 : decode cX1_unplug 12 = .ok (.iaload, 1) := by decide +kernel
theorem dX1_unplug_13 : decode cX1_unplug 13 = .ok (.iload_n 1, 1) := by decide +kernel
theorem dX1_unplug_14 : decode cX1_unplug 14 = .ok (.if_icmp .ne 10, 3) := by decide +kernel
theorem dX1_unplug_17 : decode cX1_unplug 17 = .ok (.aload_n 0, 1) := by decide +kernel
theorem dX1_unplug_18 : decode cX1_unplug 18 = .ok (.getfield 26, 3) := by decide +kernel
theorem dX1_unplug_21 : decode cX1_unplug 21 = .ok (.iload_n 2, 1) := by decide +kernel
theorem dX1_unplug_22 : decode cX1_unplug 22 = .ok (.iconst (-1), 1) := by decide +kernel
theorem dX1_unplug_23 : decode cX1_unplug 23 = .ok (.iastore, 1) := by decide +kernel
theorem dX1_unplug_24 : decode cX1_unplug 24 = .ok (.iinc 2 1, 3) := by decide +kernel
theorem dX1_unplug_27 : decode cX1_unplug 27 = .ok (.goto (-25), 3) := by decide +kernel
theorem dX1_unplug_30 : decode cX1_unplug 30 = .ok (.return_, 1) := by decide +kernel
set_option maxRecDepth 20000 in
theorem ggX1_sendOut_X1_unplug : GoodIn wsX1_sendOut wsX1_unplug := goodIn_r _ [6, 7, 8, 9, 10, 11, 12, 13, 14, 15, 16, 17, 18, 19] (by decide +kernel) (by decide +kernel)
set_option maxRecDepth 20000 in
theorem gX1_sendOut_X1_unplug : GoodIn wsX1_sendOut (wsV RX1 87 RX1 yX1_unplug wsX1_unplug) := goodIn_app (goodIn_of _ (by decide +kernel)) ggX1_sendOut_X1_unplug
theorem dX1_sendOut_0 : decode cX1_sendOut 0 = .ok (.iload_n 1, 1) := by decide +kernel
theorem dX1_sendOut_1 : decode cX1_sendOut 1 = .ok (.ifCond .lt 23, 3) := by decide +kernel
theorem dX1_sendOut_4 : decode cX1_sendOut 4 = .ok (.iload_n 1, 1) := by decide +kernel
theorem dX1_sendOut_5 : decode cX1_sendOut 5 = .ok (.iconst 5, 1) := by decide +kernel
theorem dX1_sendOut_6 : decode cX1_sendOut 6 = .ok (.if_icmp .ge 18, 3) := by decide +kernel
theorem dX1_sendOut_9 : decode cX1_sendOut 9 = .ok (.aload_n 0, 1) := by decide +kernel
theorem dX1_sendOut_10 : decode cX1_sendOut 10 = .ok (.getfield 15, 3) := by decide +kernel
theorem dX1_sendOut_13 : decode cX1_sendOut 13 = .ok (.iload_n 1, 1) := by decide +kernel
theorem dX1_sendOut_14 : decode cX1_sendOut 14 = .ok (.dup2, 1) := by decide +kernel
theorem dX1_sendOut_15 : decode cX1_sendOut 15 = .ok (.iaload, 1) := by decide +kernel
theorem dX1_sendOut_16 : decode cX1_sendOut 16 = .ok (.iload_n 2, 1) := by decide +kernel
theorem dX1_sendOut_17 : decode cX1_sendOut 17 = .ok (.isub, 1) := by decide +kernel
theorem dX1_sendOut_18 : decode cX1_sendOut 18 = .ok (.iastore, 1) := by decide +kernel
theorem dX1_sendOut_19 : decode cX1_sendOut 19 = .ok (.aload_n 0, 1) := by decide +kernel
theorem dX1_sendOut_20 : decode cX1_sendOut 20 = .ok (.iload_n 1, 1) := by decide +kernel
theorem dX1_sendOut_21 : decode cX1_sendOut 21 = .ok (.invokevirtual 87, 3) := by decide +kernel
theorem dX1_sendOut_24 : decode cX1_sendOut 24 = .ok (.return_, 1) := by decide +kernel
set_option maxRecDepth 20000 in
theorem ggX1_passMinute_X1_loadAtChargers : GoodIn wsX1_passMinute wsX1_loadAtChargers := goodIn_r _ [6, 7, 8, 44, 45, 46, 47, 48, 49, 50, 51, 52, 53, 54, 55] (by decide +kernel) (by decide +kernel)
set_option maxRecDepth 20000 in
theorem gX1_passMinute_X1_loadAtChargers : GoodIn wsX1_passMinute (wsV RX1 193 RX1 yX1_loadAtChargers wsX1_loadAtChargers) := goodIn_app (goodIn_of _ (by decide +kernel)) ggX1_passMinute_X1_loadAtChargers
set_option maxRecDepth 20000 in
theorem ggX1_passMinute_X1_endRuns : GoodIn wsX1_passMinute wsX1_endRuns := goodIn_r _ [12, 13, 14, 15, 16, 1, 44, 45, 46, 47, 48, 49, 50, 51, 52, 53, 54, 55, 56, 57, 58, 59, 60, 61] (by decide +kernel) (by decide +kernel)
set_option maxRecDepth 20000 in
theorem gX1_passMinute_X1_endRuns : GoodIn wsX1_passMinute (wsV RX1 196 RX1 yX1_endRuns wsX1_endRuns) := goodIn_app (goodIn_of _ (by decide +kernel)) ggX1_passMinute_X1_endRuns
set_option maxRecDepth 20000 in
theorem ggX1_passMinute_X1_startRuns : GoodIn wsX1_passMinute wsX1_startRuns := goodIn_r _ [20, 13, 14, 21, 1, 22, 23, 24, 5, 25, 15, 26, 27, 28, 29, 30, 31, 8, 32, 33, 34, 35, 7, 36, 37, 38, 39, 40, 41, 42, 43, 44, 45, 46, 47, 48, 49, 50, 51, 52, 53, 54, 55, 56, 57, 58, 59, 60, 61] (by decide +kernel) (by decide +kernel)
set_option maxRecDepth 20000 in
theorem gX1_passMinute_X1_startRuns : GoodIn wsX1_passMinute (wsV RX1 199 RX1 yX1_startRuns wsX1_startRuns) := goodIn_app (goodIn_of _ (by decide +kernel)) ggX1_passMinute_X1_startRuns
theorem dX1_passMinute_0 : decode cX1_passMinute 0 = .ok (.aload_n 0, 1) := by decide +kernel
theorem dX1_passMinute_1 : decode cX1_passMinute 1 = .ok (.invokevirtual 193, 3) := by decide +kernel
theorem dX1_passMinute_4 : decode cX1_passMinute 4 = .ok (.aload_n 0, 1) := by decide +kernel
theorem dX1_passMinute_5 : decode cX1_passMinute 5 = .ok (.dup, 1) := by decide +kernel
theorem dX1_passMinute_6 : decode cX1_passMinute 6 = .ok (.getfield 35, 3) := by decide +kernel
theorem dX1_passMinute_9 : decode cX1_passMinute 9 = .ok (.iconst 1, 1) := by decide +kernel
theorem dX1_passMinute_10 : decode cX1_passMinute 10 = .ok (.iadd, 1) := by decide +kernel
theorem dX1_passMinute_11 : decode cX1_passMinute 11 = .ok (.putfield 35, 3) := by decide +kernel
theorem dX1_passMinute_14 : decode cX1_passMinute 14 = .ok (.aload_n 0, 1) := by decide +kernel
theorem dX1_passMinute_15 : decode cX1_passMinute 15 = .ok (.invokevirtual 196, 3) := by decide +kernel
theorem dX1_passMinute_18 : decode cX1_passMinute 18 = .ok (.aload_n 0, 1) := by decide +kernel
theorem dX1_passMinute_19 : decode cX1_passMinute 19 = .ok (.invokevirtual 199, 3) := by decide +kernel
theorem dX1_passMinute_22 : decode cX1_passMinute 22 = .ok (.return_, 1) := by decide +kernel
theorem dX1_loadAtChargers_0 : decode cX1_loadAtChargers 0 = .ok (.iconst 0, 1) := by decide +kernel
theorem dX1_loadAtChargers_1 : decode cX1_loadAtChargers 1 = .ok (.istore_n 1, 1) := by decide +kernel
theorem dX1_loadAtChargers_2 : decode cX1_loadAtChargers 2 = .ok (.iload_n 1, 1) := by decide +kernel
theorem dX1_loadAtChargers_3 : decode cX1_loadAtChargers 3 = .ok (.iconst 2, 1) := by decide +kernel
theorem dX1_loadAtChargers_4 : decode cX1_loadAtChargers 4 = .ok (.if_icmp .ge 46, 3) := by decide +kernel
theorem dX1_loadAtChargers_7 : decode cX1_loadAtChargers 7 = .ok (.aload_n 0, 1) := by decide +kernel
theorem dX1_loadAtChargers_8 : decode cX1_loadAtChargers 8 = .ok (.getfield 26, 3) := by decide +kernel
theorem dX1_loadAtChargers_11 : decode cX1_loadAtChargers 11 = .ok (.iload_n 1, 1) := by decide +kernel
theorem dX1_loadAtChargers_12 : decode cX1_loadAtChargers 12 = .ok (.iaload, 1) := by decide +kernel
theorem dX1_loadAtChargers_13 : decode cX1_loadAtChargers 13 = .ok (.istore_n 2, 1) := by decide +kernel
theorem dX1_loadAtChargers_14 : decode cX1_loadAtChargers 14 = .ok (.iload_n 2, 1) := by decide +kernel
theorem dX1_loadAtChargers_15 : decode cX1_loadAtChargers 15 = .ok (.ifCond .lt 29, 3) := by decide +kernel
theorem dX1_loadAtChargers_18 : decode cX1_loadAtChargers 18 = .ok (.iload_n 2, 1) := by decide +kernel
theorem dX1_loadAtChargers_19 : decode cX1_loadAtChargers 19 = .ok (.iconst 5, 1) := by decide +kernel
theorem dX1_loadAtChargers_20 : decode cX1_loadAtChargers 20 = .ok (.if_icmp .ge 24, 3) := by decide +kernel
theorem dX1_loadAtChargers_23 : decode cX1_loadAtChargers 23 = .ok (.aload_n 0, 1) := by decide +kernel
theorem dX1_loadAtChargers_24 : decode cX1_loadAtChargers 24 = .ok (.getfield 15, 3) := by decide +kernel
theorem dX1_loadAtChargers_27 : decode cX1_loadAtChargers 27 = .ok (.iload_n 2, 1) := by decide +kernel
theorem dX1_loadAtChargers_28 : decode cX1_loadAtChargers 28 = .ok (.iaload, 1) := by decide +kernel
theorem dX1_loadAtChargers_29 : decode cX1_loadAtChargers 29 = .ok (.bipush 100, 2) := by decide +kernel
theorem dX1_loadAtChargers_31 : decode cX1_loadAtChargers 31 = .ok (.if_icmp .ge 13, 3) := by decide +kernel
theorem dX1_loadAtChargers_34 : decode cX1_loadAtChargers 34 = .ok (.aload_n 0, 1) := by decide +kernel
theorem dX1_loadAtChargers_35 : decode cX1_loadAtChargers 35 = .ok (.getfield 15, 3) := by decide +kernel
theorem dX1_loadAtChargers_38 : decode cX1_loadAtChargers 38 = .ok (.iload_n 2, 1) := by decide +kernel
theorem dX1_loadAtChargers_39 : decode cX1_loadAtChargers 39 = .ok (.dup2, 1) := by decide +kernel
theorem dX1_loadAtChargers_40 : decode cX1_loadAtChargers 40 = .ok (.iaload, 1) := by decide +kernel
theorem dX1_loadAtChargers_41 : decode cX1_loadAtChargers 41 = .ok (.iconst 1, 1) := by decide +kernel
theorem dX1_loadAtChargers_42 : decode cX1_loadAtChargers 42 = .ok (.iadd, 1) := by decide +kernel
theorem dX1_loadAtChargers_43 : decode cX1_loadAtChargers 43 = .ok (.iastore, 1) := by decide +kernel
theorem dX1_loadAtChargers_44 : decode cX1_loadAtChargers 44 = .ok (.iinc 1 1, 3) := by decide +kernel
theorem dX1_loadAtChargers_47 : decode cX1_loadAtChargers 47 = .ok (.goto (-45), 3) := by decide +kernel
theorem dX1_loadAtChargers_50 : decode cX1_loadAtChargers 50 = .ok (.return_, 1) := by decide +kernel
theorem dX1_endRuns_0 : decode cX1_endRuns 0 = .ok (.iconst 0, 1) := by decide +kernel
theorem dX1_endRuns_1 : decode cX1_endRuns 1 = .ok (.istore_n 1, 1) := by decide +kernel
theorem dX1_endRuns_2 : decode cX1_endRuns 2 = .ok (.iload_n 1, 1) := by decide +kernel
theorem dX1_endRuns_3 : decode cX1_endRuns 3 = .ok (.aload_n 0, 1) := by decide +kernel
theorem dX1_endRuns_4 : decode cX1_endRuns 4 = .ok (.getfield 39, 3) := by decide +kernel
theorem dX1_endRuns_7 : decode cX1_endRuns 7 = .ok (.if_icmp .ge 48, 3) := by decide +kernel
theorem dX1_endRuns_10 : decode cX1_endRuns 10 = .ok (.aload_n 0, 1) := by decide +kernel
theorem dX1_endRuns_11 : decode cX1_endRuns 11 = .ok (.getfield 11, 3) := by decide +kernel
theorem dX1_endRuns_14 : decode cX1_endRuns 14 = .ok (.iload_n 1, 1) := by decide +kernel
theorem dX1_endRuns_15 : decode cX1_endRuns 15 = .ok (.aaload, 1) := by decide +kernel
theorem dX1_endRuns_16 : decode cX1_endRuns 16 = .ok (.getfield 114, 3) := by decide +kernel
theorem dX1_endRuns_19 : decode cX1_endRuns 19 = .ok (.iconst 2, 1) := by decide +kernel
theorem dX1_endRuns_20 : decode cX1_endRuns 20 = .ok (.if_icmp .ne 29, 3) := by decide +kernel
theorem dX1_endRuns_23 : decode cX1_endRuns 23 = .ok (.aload_n 0, 1) := by decide +kernel
theorem dX1_endRuns_24 : decode cX1_endRuns 24 = .ok (.getfield 11, 3) := by decide +kernel
theorem dX1_endRuns_27 : decode cX1_endRuns 27 = .ok (.iload_n 1, 1) := by decide +kernel
theorem dX1_endRuns_28 : decode cX1_endRuns 28 = .ok (.aaload, 1) := by decide +kernel
theorem dX1_endRuns_29 : decode cX1_endRuns 29 = .ok (.getfield 202, 3) := by decide +kernel
theorem dX1_endRuns_32 : decode cX1_endRuns 32 = .ok (.aload_n 0, 1) := by decide +kernel
theorem dX1_endRuns_33 : decode cX1_endRuns 33 = .ok (.getfield 35, 3) := by decide +kernel
theorem dX1_endRuns_36 : decode cX1_endRuns 36 = .ok (.if_icmp .ne 13, 3) := by decide +kernel
theorem dX1_endRuns_39 : decode cX1_endRuns 39 = .ok (.aload_n 0, 1) := by decide +kernel
theorem dX1_endRuns_40 : decode cX1_endRuns 40 = .ok (.getfield 11, 3) := by decide +kernel
theorem dX1_endRuns_43 : decode cX1_endRuns 43 = .ok (.iload_n 1, 1) := by decide +kernel
theorem dX1_endRuns_44 : decode cX1_endRuns 44 = .ok (.aaload, 1) := by decide +kernel
theorem dX1_endRuns_45 : decode cX1_endRuns 45 = .ok (.iconst 3, 1) := by decide +kernel
theorem dX1_endRuns_46 : decode cX1_endRuns 46 = .ok (.putfield 114, 3) := by decide +kernel
theorem dX1_endRuns_49 : decode cX1_endRuns 49 = .ok (.iinc 1 1, 3) := by decide +kernel
theorem dX1_endRuns_52 : decode cX1_endRuns 52 = .ok (.goto (-50), 3) := by decide +kernel
theorem dX1_endRuns_55 : decode cX1_endRuns 55 = .ok (.return_, 1) := by decide +kernel
set_option maxRecDepth 20000 in
theorem ggX1_startRuns_X1_startRun : GoodIn wsX1_startRuns wsX1_startRun := goodIn_r _ [9, 10, 11, 12, 13, 14, 15, 8, 16, 17, 18, 19, 20, 21, 22, 23, 24, 25, 26, 27, 28, 29, 30, 43, 44, 45, 46, 47, 48, 31, 32, 33, 34, 35, 36, 37, 38, 39, 40, 41, 42] (by decide +kernel) (by decide +kernel)
set_option maxRecDepth 20000 in
theorem gX1_startRuns_X1_startRun : GoodIn wsX1_startRuns (wsV RX1 205 RX1 yX1_startRun wsX1_startRun) := goodIn_app (goodIn_of _ (by decide +kernel)) ggX1_startRuns_X1_startRun
theorem dX1_startRuns_0 : decode cX1_startRuns 0 = .ok (.iconst 0, 1) := by decide +kernel
theorem dX1_startRuns_1 : decode cX1_startRuns 1 = .ok (.istore_n 1, 1) := by decide +kernel
theorem dX1_startRuns_2 : decode cX1_startRuns 2 = .ok (.iload_n 1, 1) := by decide +kernel
theorem dX1_startRuns_3 : decode cX1_startRuns 3 = .ok (.aload_n 0, 1) := by decide +kernel
theorem dX1_startRuns_4 : decode cX1_startRuns 4 = .ok (.getfield 39, 3) := by decide +kernel
theorem dX1_startRuns_7 : decode cX1_startRuns 7 = .ok (.if_icmp .ge 35, 3) := by decide +kernel
theorem dX1_startRuns_10 : decode cX1_startRuns 10 = .ok (.aload_n 0, 1) := by decide +kernel
theorem dX1_startRuns_11 : decode cX1_startRuns 11 = .ok (.getfield 11, 3) := by decide +kernel
theorem dX1_startRuns_14 : decode cX1_startRuns 14 = .ok (.iload_n 1, 1) := by decide +kernel
theorem dX1_startRuns_15 : decode cX1_startRuns 15 = .ok (.aaload, 1) := by decide +kernel
theorem dX1_startRuns_16 : decode cX1_startRuns 16 = .ok (.getfield 140, 3) := by decide +kernel
theorem dX1_startRuns_19 : decode cX1_startRuns 19 = .ok (.aload_n 0, 1) := by decide +kernel
theorem dX1_startRuns_20 : decode cX1_startRuns 20 = .ok (.getfield 35, 3) := by decide +kernel
theorem dX1_startRuns_23 : decode cX1_startRuns 23 = .ok (.if_icmp .ne 13, 3) := by decide +kernel
theorem dX1_startRuns_26 : decode cX1_startRuns 26 = .ok (.aload_n 0, 1) := by decide +kernel
theorem dX1_startRuns_27 : decode cX1_startRuns 27 = .ok (.aload_n 0, 1) := by decide +kernel
theorem dX1_startRuns_28 : decode cX1_startRuns 28 = .ok (.getfield 11, 3) := by decide +kernel
theorem dX1_startRuns_31 : decode cX1_startRuns 31 = .ok (.iload_n 1, 1) := by decide +kernel
theorem dX1_startRuns_32 : decode cX1_startRuns 32 = .ok (.aaload, 1) := by decide +kernel
theorem dX1_startRuns_33 : decode cX1_startRuns 33 = .ok (.invokevirtual 205, 3) := by decide +kernel
theorem dX1_startRuns_36 : decode cX1_startRuns 36 = .ok (.iinc 1 1, 3) := by decide +kernel
theorem dX1_startRuns_39 : decode cX1_startRuns 39 = .ok (.goto (-37), 3) := by decide +kernel
theorem dX1_startRuns_42 : decode cX1_startRuns 42 = .ok (.return_, 1) := by decide +kernel
set_option maxRecDepth 20000 in
theorem ggX1_startRun_X1_sendOut : GoodIn wsX1_startRun wsX1_sendOut := goodIn_r _ [8, 9, 10, 11, 12, 7, 13, 14, 29, 30, 31, 32, 33, 34, 35, 36, 37, 38, 39, 40] (by decide +kernel) (by decide +kernel)
set_option maxRecDepth 20000 in
theorem gX1_startRun_X1_sendOut : GoodIn wsX1_startRun (wsV RX1 184 RX1 yX1_sendOut wsX1_sendOut) := goodIn_app (goodIn_of _ (by decide +kernel)) ggX1_startRun_X1_sendOut
set_option maxRecDepth 20000 in
theorem ggX1_startRun_X0_drop : GoodIn wsX1_startRun wsX0_drop := goodIn_r _ [19, 20, 21, 22, 23, 24, 25, 26, 27, 28] (by decide +kernel) (by decide +kernel)
set_option maxRecDepth 20000 in
theorem gX1_startRun_X0_drop : GoodIn wsX1_startRun (wsV RX1 173 RX0 yX0_drop wsX0_drop) := goodIn_app (goodIn_of _ (by decide +kernel)) ggX1_startRun_X0_drop
theorem dX1_startRun_0 : decode cX1_startRun 0 = .ok (.aload_n 1, 1) := by decide +kernel
theorem dX1_startRun_1 : decode cX1_startRun 1 = .ok (.getfield 114, 3) := by decide +kernel
theorem dX1_startRun_4 : decode cX1_startRun 4 = .ok (.iconst 1, 1) := by decide +kernel
theorem dX1_startRun_5 : decode cX1_startRun 5 = .ok (.if_icmp .ne 23, 3) := by decide +kernel
theorem dX1_startRun_8 : decode cX1_startRun 8 = .ok (.aload_n 1, 1) := by decide +kernel
theorem dX1_startRun_9 : decode cX1_startRun 9 = .ok (.iconst 2, 1) := by decide +kernel
theorem dX1_startRun_10 : decode cX1_startRun 10 = .ok (.putfield 114, 3) := by decide +kernel
theorem dX1_startRun_13 : decode cX1_startRun 13 = .ok (.aload_n 0, 1) := by decide +kernel
theorem dX1_startRun_14 : decode cX1_startRun 14 = .ok (.aload_n 1, 1) := by decide +kernel
theorem dX1_startRun_15 : decode cX1_startRun 15 = .ok (.getfield 117, 3) := by decide +kernel
theorem dX1_startRun_18 : decode cX1_startRun 18 = .ok (.aload_n 1, 1) := by decide +kernel
theorem dX1_startRun_19 : decode cX1_startRun 19 = .ok (.getfield 150, 3) := by decide +kernel
theorem dX1_startRun_22 : decode cX1_startRun 22 = .ok (.invokevirtual 184, 3) := by decide +kernel
theorem dX1_startRun_25 : decode cX1_startRun 25 = .ok (.goto 15, 3) := by decide +kernel
theorem dX1_startRun_28 : decode cX1_startRun 28 = .ok (.aload_n 1, 1) := by decide +kernel
theorem dX1_startRun_29 : decode cX1_startRun 29 = .ok (.getfield 114, 3) := by decide +kernel
theorem dX1_startRun_32 : decode cX1_startRun 32 = .ok (.ifCond .ne 8, 3) := by decide +kernel
theorem dX1_startRun_35 : decode cX1_startRun 35 = .ok (.aload_n 1, 1) := by decide +kernel
theorem dX1_startRun_36 : decode cX1_startRun 36 = .ok (.iconst 4, 1) := by decide +kernel
theorem dX1_startRun_37 : decode cX1_startRun 37 = .ok (.invokevirtual 173, 3) := by decide +kernel
theorem dX1_startRun_40 : decode cX1_startRun 40 = .ok (.return_, 1) := by decide +kernel
theorem dL_leader_0 : decode cL_leader 0 = .ok (.aload_n 0, 1) := by decide +kernel
theorem dL_leader_1 : decode cL_leader 1 = .ok (.iconst 0, 1) := by decide +kernel
theorem dL_leader_2 : decode cL_leader 2 = .ok (.iaload, 1) := by decide +kernel
theorem dL_leader_3 : decode cL_leader 3 = .ok (.aload_n 0, 1) := by decide +kernel
theorem dL_leader_4 : decode cL_leader 4 = .ok (.iconst 4, 1) := by decide +kernel
theorem dL_leader_5 : decode cL_leader 5 = .ok (.iaload, 1) := by decide +kernel
theorem dL_leader_6 : decode cL_leader 6 = .ok (.if_icmp .ge 11, 3) := by decide +kernel
theorem dL_leader_9 : decode cL_leader 9 = .ok (.aload_n 0, 1) := by decide +kernel
theorem dL_leader_10 : decode cL_leader 10 = .ok (.iconst 3, 1) := by decide +kernel
end
section
theorem dL_leader_11 : decode cL_leader 11 = .ok (.iaload, 1) := by decide +kernel
theorem dL_leader_12 : decode cL_leader 12 = .ok (.iconst 1, 1) := by decide +kernel
theorem dL_leader_13 : decode cL_leader 13 = .ok (.isub, 1) := by decide +kernel
theorem dL_leader_14 : decode cL_leader 14 = .ok (.goto 4, 3) := by decide +kernel
theorem dL_leader_17 : decode cL_leader 17 = .ok (.iconst (-1), 1) := by decide +kernel
theorem dL_leader_18 : decode cL_leader 18 = .ok (.ireturn, 1) := by decide +kernel
theorem dL_promised_0 : decode cL_promised 0 = .ok (.iconst 0, 1) := by decide +kernel
theorem dL_promised_1 : decode cL_promised 1 = .ok (.istore 5, 2) := by decide +kernel
theorem dL_promised_3 : decode cL_promised 3 = .ok (.iconst 0, 1) := by decide +kernel
theorem dL_promised_4 : decode cL_promised 4 = .ok (.istore 6, 2) := by decide +kernel
theorem dL_promised_6 : decode cL_promised 6 = .ok (.iload 6, 2) := by decide +kernel
theorem dL_promised_8 : decode cL_promised 8 = .ok (.aload_n 0, 1) := by decide +kernel
theorem dL_promised_9 : decode cL_promised 9 = .ok (.iconst 1, 1) := by decide +kernel
theorem dL_promised_10 : decode cL_promised 10 = .ok (.iaload, 1) := by decide +kernel
theorem dL_promised_11 : decode cL_promised 11 = .ok (.if_icmp .ge 45, 3) := by decide +kernel
theorem dL_promised_14 : decode cL_promised 14 = .ok (.iload 5, 2) := by decide +kernel
theorem dL_promised_16 : decode cL_promised 16 = .ok (.aload_n 2, 1) := by decide +kernel
theorem dL_promised_17 : decode cL_promised 17 = .ok (.iload 6, 2) := by decide +kernel
theorem dL_promised_19 : decode cL_promised 19 = .ok (.iaload, 1) := by decide +kernel
theorem dL_promised_20 : decode cL_promised 20 = .ok (.iconst 1, 1) := by decide +kernel
theorem dL_promised_21 : decode cL_promised 21 = .ok (.if_icmp .ne 25, 3) := by decide +kernel
theorem dL_promised_24 : decode cL_promised 24 = .ok (.aload_n 3, 1) := by decide +kernel
theorem dL_promised_25 : decode cL_promised 25 = .ok (.iload 6, 2) := by decide +kernel
theorem dL_promised_27 : decode cL_promised 27 = .ok (.iaload, 1) := by decide +kernel
theorem dL_promised_28 : decode cL_promised 28 = .ok (.iload 4, 2) := by decide +kernel
theorem dL_promised_30 : decode cL_promised 30 = .ok (.iconst 1, 1) := by decide +kernel
theorem dL_promised_31 : decode cL_promised 31 = .ok (.iadd, 1) := by decide +kernel
theorem dL_promised_32 : decode cL_promised 32 = .ok (.if_icmp .ne 14, 3) := by decide +kernel
theorem dL_promised_35 : decode cL_promised 35 = .ok (.aload_n 1, 1) := by decide +kernel
theorem dL_promised_36 : decode cL_promised 36 = .ok (.iconst 3, 1) := by decide +kernel
theorem dL_promised_37 : decode cL_promised 37 = .ok (.iload 6, 2) := by decide +kernel
theorem dL_promised_39 : decode cL_promised 39 = .ok (.imul, 1) := by decide +kernel
theorem dL_promised_40 : decode cL_promised 40 = .ok (.iconst 2, 1) := by decide +kernel
theorem dL_promised_41 : decode cL_promised 41 = .ok (.iadd, 1) := by decide +kernel
theorem dL_promised_42 : decode cL_promised 42 = .ok (.iaload, 1) := by decide +kernel
theorem dL_promised_43 : decode cL_promised 43 = .ok (.goto 4, 3) := by decide +kernel
theorem dL_promised_46 : decode cL_promised 46 = .ok (.iconst 0, 1) := by decide +kernel
theorem dL_promised_47 : decode cL_promised 47 = .ok (.iadd, 1) := by decide +kernel
theorem dL_promised_48 : decode cL_promised 48 = .ok (.istore 5, 2) := by decide +kernel
theorem dL_promised_50 : decode cL_promised 50 = .ok (.iinc 6 1, 3) := by decide +kernel
theorem dL_promised_53 : decode cL_promised 53 = .ok (.goto (-47), 3) := by decide +kernel
theorem dL_promised_56 : decode cL_promised 56 = .ok (.iload 5, 2) := by decide +kernel
theorem dL_promised_58 : decode cL_promised 58 = .ok (.ireturn, 1) := by decide +kernel
set_option maxRecDepth 20000 in
theorem ggL_fitsBus_L_promised : GoodIn wsL_fitsBus wsL_promised := goodIn_r _ [4] (by decide +kernel) (by decide +kernel)
set_option maxRecDepth 20000 in
theorem gL_fitsBus_L_promised : GoodIn wsL_fitsBus (va_wsS RL 7 yL_promised wsL_promised) := goodIn_app (goodIn_of _ (by decide +kernel)) ggL_fitsBus_L_promised
theorem dL_fitsBus_0 : decode cL_fitsBus 0 = .ok (.iconst 0, 1) := by decide +kernel
theorem dL_fitsBus_1 : decode cL_fitsBus 1 = .ok (.istore 7, 2) := by decide +kernel
theorem dL_fitsBus_3 : decode cL_fitsBus 3 = .ok (.iconst 0, 1) := by decide +kernel
theorem dL_fitsBus_4 : decode cL_fitsBus 4 = .ok (.istore 8, 2) := by decide +kernel
theorem dL_fitsBus_6 : decode cL_fitsBus 6 = .ok (.iload 8, 2) := by decide +kernel
theorem dL_fitsBus_8 : decode cL_fitsBus 8 = .ok (.aload_n 0, 1) := by decide +kernel
theorem dL_fitsBus_9 : decode cL_fitsBus 9 = .ok (.iconst 1, 1) := by decide +kernel
theorem dL_fitsBus_10 : decode cL_fitsBus 10 = .ok (.iaload, 1) := by decide +kernel
theorem dL_fitsBus_11 : decode cL_fitsBus 11 = .ok (.if_icmp .ge 132, 3) := by decide +kernel
theorem dL_fitsBus_14 : decode cL_fitsBus 14 = .ok (.aload_n 1, 1) := by decide +kernel
theorem dL_fitsBus_15 : decode cL_fitsBus 15 = .ok (.iconst 3, 1) := by decide +kernel
theorem dL_fitsBus_16 : decode cL_fitsBus 16 = .ok (.iload 8, 2) := by decide +kernel
theorem dL_fitsBus_18 : decode cL_fitsBus 18 = .ok (.imul, 1) := by decide +kernel
theorem dL_fitsBus_19 : decode cL_fitsBus 19 = .ok (.iaload, 1) := by decide +kernel
theorem dL_fitsBus_20 : decode cL_fitsBus 20 = .ok (.aload_n 1, 1) := by decide +kernel
theorem dL_fitsBus_21 : decode cL_fitsBus 21 = .ok (.iconst 3, 1) := by decide +kernel
theorem dL_fitsBus_22 : decode cL_fitsBus 22 = .ok (.iload 6, 2) := by decide +kernel
theorem dL_fitsBus_24 : decode cL_fitsBus 24 = .ok (.imul, 1) := by decide +kernel
theorem dL_fitsBus_25 : decode cL_fitsBus 25 = .ok (.iaload, 1) := by decide +kernel
theorem dL_fitsBus_26 : decode cL_fitsBus 26 = .ok (.if_icmp .le 12, 3) := by decide +kernel
theorem dL_fitsBus_29 : decode cL_fitsBus 29 = .ok (.aload_n 1, 1) := by decide +kernel
theorem dL_fitsBus_30 : decode cL_fitsBus 30 = .ok (.iconst 3, 1) := by decide +kernel
theorem dL_fitsBus_31 : decode cL_fitsBus 31 = .ok (.iload 8, 2) := by decide +kernel
theorem dL_fitsBus_33 : decode cL_fitsBus 33 = .ok (.imul, 1) := by decide +kernel
theorem dL_fitsBus_34 : decode cL_fitsBus 34 = .ok (.iaload, 1) := by decide +kernel
theorem dL_fitsBus_35 : decode cL_fitsBus 35 = .ok (.goto 9, 3) := by decide +kernel
theorem dL_fitsBus_38 : decode cL_fitsBus 38 = .ok (.aload_n 1, 1) := by decide +kernel
theorem dL_fitsBus_39 : decode cL_fitsBus 39 = .ok (.iconst 3, 1) := by decide +kernel
theorem dL_fitsBus_40 : decode cL_fitsBus 40 = .ok (.iload 6, 2) := by decide +kernel
theorem dL_fitsBus_42 : decode cL_fitsBus 42 = .ok (.imul, 1) := by decide +kernel
theorem dL_fitsBus_43 : decode cL_fitsBus 43 = .ok (.iaload, 1) := by decide +kernel
theorem dL_fitsBus_44 : decode cL_fitsBus 44 = .ok (.istore 9, 2) := by decide +kernel
theorem dL_fitsBus_46 : decode cL_fitsBus 46 = .ok (.aload_n 1, 1) := by decide +kernel
theorem dL_fitsBus_47 : decode cL_fitsBus 47 = .ok (.iconst 3, 1) := by decide +kernel
theorem dL_fitsBus_48 : decode cL_fitsBus 48 = .ok (.iload 8, 2) := by decide +kernel
theorem dL_fitsBus_50 : decode cL_fitsBus 50 = .ok (.imul, 1) := by decide +kernel
theorem dL_fitsBus_51 : decode cL_fitsBus 51 = .ok (.iconst 1, 1) := by decide +kernel
theorem dL_fitsBus_52 : decode cL_fitsBus 52 = .ok (.iadd, 1) := by decide +kernel
theorem dL_fitsBus_53 : decode cL_fitsBus 53 = .ok (.iaload, 1) := by decide +kernel
theorem dL_fitsBus_54 : decode cL_fitsBus 54 = .ok (.aload_n 1, 1) := by decide +kernel
theorem dL_fitsBus_55 : decode cL_fitsBus 55 = .ok (.iconst 3, 1) := by decide +kernel
theorem dL_fitsBus_56 : decode cL_fitsBus 56 = .ok (.iload 6, 2) := by decide +kernel
theorem dL_fitsBus_58 : decode cL_fitsBus 58 = .ok (.imul, 1) := by decide +kernel
theorem dL_fitsBus_59 : decode cL_fitsBus 59 = .ok (.iconst 1, 1) := by decide +kernel
theorem dL_fitsBus_60 : decode cL_fitsBus 60 = .ok (.iadd, 1) := by decide +kernel
theorem dL_fitsBus_61 : decode cL_fitsBus 61 = .ok (.iaload, 1) := by decide +kernel
theorem dL_fitsBus_62 : decode cL_fitsBus 62 = .ok (.if_icmp .ge 14, 3) := by decide +kernel
theorem dL_fitsBus_65 : decode cL_fitsBus 65 = .ok (.aload_n 1, 1) := by decide +kernel
theorem dL_fitsBus_66 : decode cL_fitsBus 66 = .ok (.iconst 3, 1) := by decide +kernel
theorem dL_fitsBus_67 : decode cL_fitsBus 67 = .ok (.iload 8, 2) := by decide +kernel
theorem dL_fitsBus_69 : decode cL_fitsBus 69 = .ok (.imul, 1) := by decide +kernel
theorem dL_fitsBus_70 : decode cL_fitsBus 70 = .ok (.iconst 1, 1) := by decide +kernel
theorem dL_fitsBus_71 : decode cL_fitsBus 71 = .ok (.iadd, 1) := by decide +kernel
theorem dL_fitsBus_72 : decode cL_fitsBus 72 = .ok (.iaload, 1) := by decide +kernel
theorem dL_fitsBus_73 : decode cL_fitsBus 73 = .ok (.goto 11, 3) := by decide +kernel
theorem dL_fitsBus_76 : decode cL_fitsBus 76 = .ok (.aload_n 1, 1) := by decide +kernel
theorem dL_fitsBus_77 : decode cL_fitsBus 77 = .ok (.iconst 3, 1) := by decide +kernel
theorem dL_fitsBus_78 : decode cL_fitsBus 78 = .ok (.iload 6, 2) := by decide +kernel
theorem dL_fitsBus_80 : decode cL_fitsBus 80 = .ok (.imul, 1) := by decide +kernel
theorem dL_fitsBus_81 : decode cL_fitsBus 81 = .ok (.iconst 1, 1) := by decide +kernel
theorem dL_fitsBus_82 : decode cL_fitsBus 82 = .ok (.iadd, 1) := by decide +kernel
theorem dL_fitsBus_83 : decode cL_fitsBus 83 = .ok (.iaload, 1) := by decide +kernel
theorem dL_fitsBus_84 : decode cL_fitsBus 84 = .ok (.istore 10, 2) := by decide +kernel
theorem dL_fitsBus_86 : decode cL_fitsBus 86 = .ok (.iload 7, 2) := by decide +kernel
theorem dL_fitsBus_88 : decode cL_fitsBus 88 = .ok (.iload 8, 2) := by decide +kernel
theorem dL_fitsBus_90 : decode cL_fitsBus 90 = .ok (.iload 6, 2) := by decide +kernel
theorem dL_fitsBus_92 : decode cL_fitsBus 92 = .ok (.if_icmp .eq 41, 3) := by decide +kernel
theorem dL_fitsBus_95 : decode cL_fitsBus 95 = .ok (.aload_n 3, 1) := by decide +kernel
theorem dL_fitsBus_96 : decode cL_fitsBus 96 = .ok (.iload 8, 2) := by decide +kernel
theorem dL_fitsBus_98 : decode cL_fitsBus 98 = .ok (.iaload, 1) := by decide +kernel
theorem dL_fitsBus_99 : decode cL_fitsBus 99 = .ok (.iload 5, 2) := by decide +kernel
theorem dL_fitsBus_101 : decode cL_fitsBus 101 = .ok (.iconst 1, 1) := by decide +kernel
theorem dL_fitsBus_102 : decode cL_fitsBus 102 = .ok (.iadd, 1) := by decide +kernel
theorem dL_fitsBus_103 : decode cL_fitsBus 103 = .ok (.if_icmp .ne 30, 3) := by decide +kernel
theorem dL_fitsBus_106 : decode cL_fitsBus 106 = .ok (.aload_n 2, 1) := by decide +kernel
theorem dL_fitsBus_107 : decode cL_fitsBus 107 = .ok (.iload 8, 2) := by decide +kernel
theorem dL_fitsBus_109 : decode cL_fitsBus 109 = .ok (.iaload, 1) := by decide +kernel
theorem dL_fitsBus_110 : decode cL_fitsBus 110 = .ok (.iconst 1, 1) := by decide +kernel
theorem dL_fitsBus_111 : decode cL_fitsBus 111 = .ok (.if_icmp .eq 11, 3) := by decide +kernel
theorem dL_fitsBus_114 : decode cL_fitsBus 114 = .ok (.aload_n 2, 1) := by decide +kernel
theorem dL_fitsBus_115 : decode cL_fitsBus 115 = .ok (.iload 8, 2) := by decide +kernel
theorem dL_fitsBus_117 : decode cL_fitsBus 117 = .ok (.iaload, 1) := by decide +kernel
theorem dL_fitsBus_118 : decode cL_fitsBus 118 = .ok (.iconst 2, 1) := by decide +kernel
theorem dL_fitsBus_119 : decode cL_fitsBus 119 = .ok (.if_icmp .ne 14, 3) := by decide +kernel
theorem dL_fitsBus_122 : decode cL_fitsBus 122 = .ok (.iload 9, 2) := by decide +kernel
theorem dL_fitsBus_124 : decode cL_fitsBus 124 = .ok (.iload 10, 2) := by decide +kernel
theorem dL_fitsBus_126 : decode cL_fitsBus 126 = .ok (.if_icmp .ge 7, 3) := by decide +kernel
theorem dL_fitsBus_129 : decode cL_fitsBus 129 = .ok (.iconst 1, 1) := by decide +kernel
theorem dL_fitsBus_130 : decode cL_fitsBus 130 = .ok (.goto 4, 3) := by decide +kernel
theorem dL_fitsBus_133 : decode cL_fitsBus 133 = .ok (.iconst 0, 1) := by decide +kernel
theorem dL_fitsBus_134 : decode cL_fitsBus 134 = .ok (.iadd, 1) := by decide +kernel
theorem dL_fitsBus_135 : decode cL_fitsBus 135 = .ok (.istore 7, 2) := by decide +kernel
theorem dL_fitsBus_137 : decode cL_fitsBus 137 = .ok (.iinc 8 1, 3) := by decide +kernel
theorem dL_fitsBus_140 : decode cL_fitsBus 140 = .ok (.goto (-134), 3) := by decide +kernel
theorem dL_fitsBus_143 : decode cL_fitsBus 143 = .ok (.iload 7, 2) := by decide +kernel
theorem dL_fitsBus_145 : decode cL_fitsBus 145 = .ok (.ifCond .ne 47, 3) := by decide +kernel
theorem dL_fitsBus_148 : decode cL_fitsBus 148 = .ok (.aload 4, 2) := by decide +kernel
theorem dL_fitsBus_150 : decode cL_fitsBus 150 = .ok (.iconst 2, 1) := by decide +kernel
theorem dL_fitsBus_151 : decode cL_fitsBus 151 = .ok (.iload 5, 2) := by decide +kernel
theorem dL_fitsBus_153 : decode cL_fitsBus 153 = .ok (.imul, 1) := by decide +kernel
theorem dL_fitsBus_154 : decode cL_fitsBus 154 = .ok (.iconst 1, 1) := by decide +kernel
theorem dL_fitsBus_155 : decode cL_fitsBus 155 = .ok (.iadd, 1) := by decide +kernel
theorem dL_fitsBus_156 : decode cL_fitsBus 156 = .ok (.iaload, 1) := by decide +kernel
theorem dL_fitsBus_157 : decode cL_fitsBus 157 = .ok (.ifCond .ne 35, 3) := by decide +kernel
theorem dL_fitsBus_160 : decode cL_fitsBus 160 = .ok (.aload 4, 2) := by decide +kernel
theorem dL_fitsBus_162 : decode cL_fitsBus 162 = .ok (.iconst 2, 1) := by decide +kernel
theorem dL_fitsBus_163 : decode cL_fitsBus 163 = .ok (.iload 5, 2) := by decide +kernel
theorem dL_fitsBus_165 : decode cL_fitsBus 165 = .ok (.imul, 1) := by decide +kernel
theorem dL_fitsBus_166 : decode cL_fitsBus 166 = .ok (.iaload, 1) := by decide +kernel
theorem dL_fitsBus_167 : decode cL_fitsBus 167 = .ok (.aload_n 0, 1) := by decide +kernel
theorem dL_fitsBus_168 : decode cL_fitsBus 168 = .ok (.aload_n 1, 1) := by decide +kernel
theorem dL_fitsBus_169 : decode cL_fitsBus 169 = .ok (.aload_n 2, 1) := by decide +kernel
theorem dL_fitsBus_170 : decode cL_fitsBus 170 = .ok (.aload_n 3, 1) := by decide +kernel
theorem dL_fitsBus_171 : decode cL_fitsBus 171 = .ok (.iload 5, 2) := by decide +kernel
theorem dL_fitsBus_173 : decode cL_fitsBus 173 = .ok (.invokestatic 7, 3) := by decide +kernel
theorem dL_fitsBus_176 : decode cL_fitsBus 176 = .ok (.aload_n 1, 1) := by decide +kernel
theorem dL_fitsBus_177 : decode cL_fitsBus 177 = .ok (.iconst 3, 1) := by decide +kernel
theorem dL_fitsBus_178 : decode cL_fitsBus 178 = .ok (.iload 6, 2) := by decide +kernel
theorem dL_fitsBus_180 : decode cL_fitsBus 180 = .ok (.imul, 1) := by decide +kernel
theorem dL_fitsBus_181 : decode cL_fitsBus 181 = .ok (.iconst 2, 1) := by decide +kernel
theorem dL_fitsBus_182 : decode cL_fitsBus 182 = .ok (.iadd, 1) := by decide +kernel
theorem dL_fitsBus_183 : decode cL_fitsBus 183 = .ok (.iaload, 1) := by decide +kernel
theorem dL_fitsBus_184 : decode cL_fitsBus 184 = .ok (.iadd, 1) := by decide +kernel
theorem dL_fitsBus_185 : decode cL_fitsBus 185 = .ok (.if_icmp .lt 7, 3) := by decide +kernel
theorem dL_fitsBus_188 : decode cL_fitsBus 188 = .ok (.iconst 1, 1) := by decide +kernel
theorem dL_fitsBus_189 : decode cL_fitsBus 189 = .ok (.goto 4, 3) := by decide +kernel
theorem dL_fitsBus_192 : decode cL_fitsBus 192 = .ok (.iconst 0, 1) := by decide +kernel
theorem dL_fitsBus_193 : decode cL_fitsBus 193 = .ok (.ireturn, 1) := by decide +kernel
theorem dL_minutes_0 : decode cL_minutes 0 = .ok (.iconst 0, 1) := by decide +kernel
theorem dL_minutes_1 : decode cL_minutes 1 = .ok (.istore 7, 2) := by decide +kernel
theorem dL_minutes_3 : decode cL_minutes 3 = .ok (.iconst 0, 1) := by decide +kernel
theorem dL_minutes_4 : decode cL_minutes 4 = .ok (.istore 8, 2) := by decide +kernel
theorem dL_minutes_6 : decode cL_minutes 6 = .ok (.iload 8, 2) := by decide +kernel
theorem dL_minutes_8 : decode cL_minutes 8 = .ok (.aload_n 0, 1) := by decide +kernel
theorem dL_minutes_9 : decode cL_minutes 9 = .ok (.iconst 1, 1) := by decide +kernel
theorem dL_minutes_10 : decode cL_minutes 10 = .ok (.iaload, 1) := by decide +kernel
theorem dL_minutes_11 : decode cL_minutes 11 = .ok (.if_icmp .ge 93, 3) := by decide +kernel
theorem dL_minutes_14 : decode cL_minutes 14 = .ok (.iload 8, 2) := by decide +kernel
theorem dL_minutes_16 : decode cL_minutes 16 = .ok (.iload 6, 2) := by decide +kernel
theorem dL_minutes_18 : decode cL_minutes 18 = .ok (.if_icmp .eq 48, 3) := by decide +kernel
theorem dL_minutes_21 : decode cL_minutes 21 = .ok (.aload_n 3, 1) := by decide +kernel
theorem dL_minutes_22 : decode cL_minutes 22 = .ok (.iload 8, 2) := by decide +kernel
theorem dL_minutes_24 : decode cL_minutes 24 = .ok (.iaload, 1) := by decide +kernel
theorem dL_minutes_25 : decode cL_minutes 25 = .ok (.iload 4, 2) := by decide +kernel
theorem dL_minutes_27 : decode cL_minutes 27 = .ok (.iconst 1, 1) := by decide +kernel
theorem dL_minutes_28 : decode cL_minutes 28 = .ok (.iadd, 1) := by decide +kernel
theorem dL_minutes_29 : decode cL_minutes 29 = .ok (.if_icmp .ne 37, 3) := by decide +kernel
theorem dL_minutes_32 : decode cL_minutes 32 = .ok (.aload_n 2, 1) := by decide +kernel
theorem dL_minutes_33 : decode cL_minutes 33 = .ok (.iload 8, 2) := by decide +kernel
theorem dL_minutes_35 : decode cL_minutes 35 = .ok (.iaload, 1) := by decide +kernel
theorem dL_minutes_36 : decode cL_minutes 36 = .ok (.ifCond .le 30, 3) := by decide +kernel
theorem dL_minutes_39 : decode cL_minutes 39 = .ok (.aload_n 2, 1) := by decide +kernel
theorem dL_minutes_40 : decode cL_minutes 40 = .ok (.iload 8, 2) := by decide +kernel
theorem dL_minutes_42 : decode cL_minutes 42 = .ok (.iaload, 1) := by decide +kernel
theorem dL_minutes_43 : decode cL_minutes 43 = .ok (.iconst 4, 1) := by decide +kernel
theorem dL_minutes_44 : decode cL_minutes 44 = .ok (.if_icmp .ge 22, 3) := by decide +kernel
theorem dL_minutes_47 : decode cL_minutes 47 = .ok (.aload_n 1, 1) := by decide +kernel
theorem dL_minutes_48 : decode cL_minutes 48 = .ok (.iconst 3, 1) := by decide +kernel
theorem dL_minutes_49 : decode cL_minutes 49 = .ok (.iload 8, 2) := by decide +kernel
theorem dL_minutes_51 : decode cL_minutes 51 = .ok (.imul, 1) := by decide +kernel
theorem dL_minutes_52 : decode cL_minutes 52 = .ok (.iaload, 1) := by decide +kernel
theorem dL_minutes_53 : decode cL_minutes 53 = .ok (.sipush 1440, 3) := by decide +kernel
theorem dL_minutes_56 : decode cL_minutes 56 = .ok (.idiv, 1) := by decide +kernel
theorem dL_minutes_57 : decode cL_minutes 57 = .ok (.iload 5, 2) := by decide +kernel
theorem dL_minutes_59 : decode cL_minutes 59 = .ok (.if_icmp .ne 7, 3) := by decide +kernel
theorem dL_minutes_62 : decode cL_minutes 62 = .ok (.iconst 1, 1) := by decide +kernel
theorem dL_minutes_63 : decode cL_minutes 63 = .ok (.goto 4, 3) := by decide +kernel
theorem dL_minutes_66 : decode cL_minutes 66 = .ok (.iconst 0, 1) := by decide +kernel
theorem dL_minutes_67 : decode cL_minutes 67 = .ok (.istore 9, 2) := by decide +kernel
theorem dL_minutes_69 : decode cL_minutes 69 = .ok (.iload 7, 2) := by decide +kernel
theorem dL_minutes_71 : decode cL_minutes 71 = .ok (.iload 9, 2) := by decide +kernel
theorem dL_minutes_73 : decode cL_minutes 73 = .ok (.ifCond .eq 21, 3) := by decide +kernel
theorem dL_minutes_76 : decode cL_minutes 76 = .ok (.aload_n 1, 1) := by decide +kernel
theorem dL_minutes_77 : decode cL_minutes 77 = .ok (.iconst 3, 1) := by decide +kernel
theorem dL_minutes_78 : decode cL_minutes 78 = .ok (.iload 8, 2) := by decide +kernel
theorem dL_minutes_80 : decode cL_minutes 80 = .ok (.imul, 1) := by decide +kernel
theorem dL_minutes_81 : decode cL_minutes 81 = .ok (.iconst 1, 1) := by decide +kernel
theorem dL_minutes_82 : decode cL_minutes 82 = .ok (.iadd, 1) := by decide +kernel
theorem dL_minutes_83 : decode cL_minutes 83 = .ok (.iaload, 1) := by decide +kernel
theorem dL_minutes_84 : decode cL_minutes 84 = .ok (.aload_n 1, 1) := by decide +kernel
theorem dL_minutes_85 : decode cL_minutes 85 = .ok (.iconst 3, 1) := by decide +kernel
theorem dL_minutes_86 : decode cL_minutes 86 = .ok (.iload 8, 2) := by decide +kernel
theorem dL_minutes_88 : decode cL_minutes 88 = .ok (.imul, 1) := by decide +kernel
theorem dL_minutes_89 : decode cL_minutes 89 = .ok (.iaload, 1) := by decide +kernel
theorem dL_minutes_90 : decode cL_minutes 90 = .ok (.isub, 1) := by decide +kernel
theorem dL_minutes_91 : decode cL_minutes 91 = .ok (.goto 4, 3) := by decide +kernel
theorem dL_minutes_94 : decode cL_minutes 94 = .ok (.iconst 0, 1) := by decide +kernel
theorem dL_minutes_95 : decode cL_minutes 95 = .ok (.iadd, 1) := by decide +kernel
theorem dL_minutes_96 : decode cL_minutes 96 = .ok (.istore 7, 2) := by decide +kernel
theorem dL_minutes_98 : decode cL_minutes 98 = .ok (.iinc 8 1, 3) := by decide +kernel
theorem dL_minutes_101 : decode cL_minutes 101 = .ok (.goto (-95), 3) := by decide +kernel
theorem dL_minutes_104 : decode cL_minutes 104 = .ok (.iload 7, 2) := by decide +kernel
theorem dL_minutes_106 : decode cL_minutes 106 = .ok (.ireturn, 1) := by decide +kernel
set_option maxRecDepth 20000 in
theorem ggL_fitsDriver_L_minutes : GoodIn wsL_fitsDriver wsL_minutes := goodIn_r _ [4] (by decide +kernel) (by decide +kernel)
set_option maxRecDepth 20000 in
theorem gL_fitsDriver_L_minutes : GoodIn wsL_fitsDriver (va_wsS RL 13 yL_minutes wsL_minutes) := goodIn_app (goodIn_of _ (by decide +kernel)) ggL_fitsDriver_L_minutes
theorem dL_fitsDriver_0 : decode cL_fitsDriver 0 = .ok (.iconst 0, 1) := by decide +kernel
theorem dL_fitsDriver_1 : decode cL_fitsDriver 1 = .ok (.istore 7, 2) := by decide +kernel
theorem dL_fitsDriver_3 : decode cL_fitsDriver 3 = .ok (.iconst 0, 1) := by decide +kernel
theorem dL_fitsDriver_4 : decode cL_fitsDriver 4 = .ok (.istore 8, 2) := by decide +kernel
theorem dL_fitsDriver_6 : decode cL_fitsDriver 6 = .ok (.iload 8, 2) := by decide +kernel
theorem dL_fitsDriver_8 : decode cL_fitsDriver 8 = .ok (.aload_n 0, 1) := by decide +kernel
theorem dL_fitsDriver_9 : decode cL_fitsDriver 9 = .ok (.iconst 1, 1) := by decide +kernel
theorem dL_fitsDriver_10 : decode cL_fitsDriver 10 = .ok (.iaload, 1) := by decide +kernel
theorem dL_fitsDriver_11 : decode cL_fitsDriver 11 = .ok (.if_icmp .ge 169, 3) := by decide +kernel
theorem dL_fitsDriver_14 : decode cL_fitsDriver 14 = .ok (.iload 8, 2) := by decide +kernel
theorem dL_fitsDriver_16 : decode cL_fitsDriver 16 = .ok (.iload 6, 2) := by decide +kernel
theorem dL_fitsDriver_18 : decode cL_fitsDriver 18 = .ok (.if_icmp .eq 56, 3) := by decide +kernel
theorem dL_fitsDriver_21 : decode cL_fitsDriver 21 = .ok (.aload_n 3, 1) := by decide +kernel
theorem dL_fitsDriver_22 : decode cL_fitsDriver 22 = .ok (.iload 8, 2) := by decide +kernel
theorem dL_fitsDriver_24 : decode cL_fitsDriver 24 = .ok (.iaload, 1) := by decide +kernel
theorem dL_fitsDriver_25 : decode cL_fitsDriver 25 = .ok (.iload 5, 2) := by decide +kernel
theorem dL_fitsDriver_27 : decode cL_fitsDriver 27 = .ok (.iconst 1, 1) := by decide +kernel
theorem dL_fitsDriver_28 : decode cL_fitsDriver 28 = .ok (.iadd, 1) := by decide +kernel
theorem dL_fitsDriver_29 : decode cL_fitsDriver 29 = .ok (.if_icmp .ne 45, 3) := by decide +kernel
theorem dL_fitsDriver_32 : decode cL_fitsDriver 32 = .ok (.aload_n 2, 1) := by decide +kernel
theorem dL_fitsDriver_33 : decode cL_fitsDriver 33 = .ok (.iload 8, 2) := by decide +kernel
theorem dL_fitsDriver_35 : decode cL_fitsDriver 35 = .ok (.iaload, 1) := by decide +kernel
theorem dL_fitsDriver_36 : decode cL_fitsDriver 36 = .ok (.ifCond .le 38, 3) := by decide +kernel
theorem dL_fitsDriver_39 : decode cL_fitsDriver 39 = .ok (.aload_n 2, 1) := by decide +kernel
theorem dL_fitsDriver_40 : decode cL_fitsDriver 40 = .ok (.iload 8, 2) := by decide +kernel
theorem dL_fitsDriver_42 : decode cL_fitsDriver 42 = .ok (.iaload, 1) := by decide +kernel
theorem dL_fitsDriver_43 : decode cL_fitsDriver 43 = .ok (.iconst 4, 1) := by decide +kernel
theorem dL_fitsDriver_44 : decode cL_fitsDriver 44 = .ok (.if_icmp .ge 30, 3) := by decide +kernel
theorem dL_fitsDriver_47 : decode cL_fitsDriver 47 = .ok (.aload_n 1, 1) := by decide +kernel
theorem dL_fitsDriver_48 : decode cL_fitsDriver 48 = .ok (.iconst 3, 1) := by decide +kernel
theorem dL_fitsDriver_49 : decode cL_fitsDriver 49 = .ok (.iload 8, 2) := by decide +kernel
theorem dL_fitsDriver_51 : decode cL_fitsDriver 51 = .ok (.imul, 1) := by decide +kernel
theorem dL_fitsDriver_52 : decode cL_fitsDriver 52 = .ok (.iaload, 1) := by decide +kernel
theorem dL_fitsDriver_53 : decode cL_fitsDriver 53 = .ok (.sipush 1440, 3) := by decide +kernel
theorem dL_fitsDriver_56 : decode cL_fitsDriver 56 = .ok (.idiv, 1) := by decide +kernel
theorem dL_fitsDriver_57 : decode cL_fitsDriver 57 = .ok (.aload_n 1, 1) := by decide +kernel
theorem dL_fitsDriver_58 : decode cL_fitsDriver 58 = .ok (.iconst 3, 1) := by decide +kernel
theorem dL_fitsDriver_59 : decode cL_fitsDriver 59 = .ok (.iload 6, 2) := by decide +kernel
theorem dL_fitsDriver_61 : decode cL_fitsDriver 61 = .ok (.imul, 1) := by decide +kernel
theorem dL_fitsDriver_62 : decode cL_fitsDriver 62 = .ok (.iaload, 1) := by decide +kernel
theorem dL_fitsDriver_63 : decode cL_fitsDriver 63 = .ok (.sipush 1440, 3) := by decide +kernel
theorem dL_fitsDriver_66 : decode cL_fitsDriver 66 = .ok (.idiv, 1) := by decide +kernel
theorem dL_fitsDriver_67 : decode cL_fitsDriver 67 = .ok (.if_icmp .ne 7, 3) := by decide +kernel
theorem dL_fitsDriver_70 : decode cL_fitsDriver 70 = .ok (.iconst 1, 1) := by decide +kernel
theorem dL_fitsDriver_71 : decode cL_fitsDriver 71 = .ok (.goto 4, 3) := by decide +kernel
theorem dL_fitsDriver_74 : decode cL_fitsDriver 74 = .ok (.iconst 0, 1) := by decide +kernel
theorem dL_fitsDriver_75 : decode cL_fitsDriver 75 = .ok (.istore 9, 2) := by decide +kernel
theorem dL_fitsDriver_77 : decode cL_fitsDriver 77 = .ok (.aload_n 1, 1) := by decide +kernel
theorem dL_fitsDriver_78 : decode cL_fitsDriver 78 = .ok (.iconst 3, 1) := by decide +kernel
theorem dL_fitsDriver_79 : decode cL_fitsDriver 79 = .ok (.iload 8, 2) := by decide +kernel
theorem dL_fitsDriver_81 : decode cL_fitsDriver 81 = .ok (.imul, 1) := by decide +kernel
theorem dL_fitsDriver_82 : decode cL_fitsDriver 82 = .ok (.iaload, 1) := by decide +kernel
theorem dL_fitsDriver_83 : decode cL_fitsDriver 83 = .ok (.aload_n 1, 1) := by decide +kernel
theorem dL_fitsDriver_84 : decode cL_fitsDriver 84 = .ok (.iconst 3, 1) := by decide +kernel
theorem dL_fitsDriver_85 : decode cL_fitsDriver 85 = .ok (.iload 6, 2) := by decide +kernel
theorem dL_fitsDriver_87 : decode cL_fitsDriver 87 = .ok (.imul, 1) := by decide +kernel
theorem dL_fitsDriver_88 : decode cL_fitsDriver 88 = .ok (.iaload, 1) := by decide +kernel
theorem dL_fitsDriver_89 : decode cL_fitsDriver 89 = .ok (.if_icmp .le 12, 3) := by decide +kernel
theorem dL_fitsDriver_92 : decode cL_fitsDriver 92 = .ok (.aload_n 1, 1) := by decide +kernel
theorem dL_fitsDriver_93 : decode cL_fitsDriver 93 = .ok (.iconst 3, 1) := by decide +kernel
theorem dL_fitsDriver_94 : decode cL_fitsDriver 94 = .ok (.iload 8, 2) := by decide +kernel
theorem dL_fitsDriver_96 : decode cL_fitsDriver 96 = .ok (.imul, 1) := by decide +kernel
theorem dL_fitsDriver_97 : decode cL_fitsDriver 97 = .ok (.iaload, 1) := by decide +kernel
theorem dL_fitsDriver_98 : decode cL_fitsDriver 98 = .ok (.goto 9, 3) := by decide +kernel
theorem dL_fitsDriver_101 : decode cL_fitsDriver 101 = .ok (.aload_n 1, 1) := by decide +kernel
theorem dL_fitsDriver_102 : decode cL_fitsDriver 102 = .ok (.iconst 3, 1) := by decide +kernel
theorem dL_fitsDriver_103 : decode cL_fitsDriver 103 = .ok (.iload 6, 2) := by decide +kernel
theorem dL_fitsDriver_105 : decode cL_fitsDriver 105 = .ok (.imul, 1) := by decide +kernel
theorem dL_fitsDriver_106 : decode cL_fitsDriver 106 = .ok (.iaload, 1) := by decide +kernel
theorem dL_fitsDriver_107 : decode cL_fitsDriver 107 = .ok (.istore 10, 2) := by decide +kernel
theorem dL_fitsDriver_109 : decode cL_fitsDriver 109 = .ok (.aload_n 1, 1) := by decide +kernel
theorem dL_fitsDriver_110 : decode cL_fitsDriver 110 = .ok (.iconst 3, 1) := by decide +kernel
theorem dL_fitsDriver_111 : decode cL_fitsDriver 111 = .ok (.iload 8, 2) := by decide +kernel
theorem dL_fitsDriver_113 : decode cL_fitsDriver 113 = .ok (.imul, 1) := by decide +kernel
theorem dL_fitsDriver_114 : decode cL_fitsDriver 114 = .ok (.iconst 1, 1) := by decide +kernel
theorem dL_fitsDriver_115 : decode cL_fitsDriver 115 = .ok (.iadd, 1) := by decide +kernel
theorem dL_fitsDriver_116 : decode cL_fitsDriver 116 = .ok (.iaload, 1) := by decide +kernel
theorem dL_fitsDriver_117 : decode cL_fitsDriver 117 = .ok (.aload_n 1, 1) := by decide +kernel
theorem dL_fitsDriver_118 : decode cL_fitsDriver 118 = .ok (.iconst 3, 1) := by decide +kernel
theorem dL_fitsDriver_119 : decode cL_fitsDriver 119 = .ok (.iload 6, 2) := by decide +kernel
theorem dL_fitsDriver_121 : decode cL_fitsDriver 121 = .ok (.imul, 1) := by decide +kernel
theorem dL_fitsDriver_122 : decode cL_fitsDriver 122 = .ok (.iconst 1, 1) := by decide +kernel
theorem dL_fitsDriver_123 : decode cL_fitsDriver 123 = .ok (.iadd, 1) := by decide +kernel
theorem dL_fitsDriver_124 : decode cL_fitsDriver 124 = .ok (.iaload, 1) := by decide +kernel
theorem dL_fitsDriver_125 : decode cL_fitsDriver 125 = .ok (.if_icmp .ge 14, 3) := by decide +kernel
theorem dL_fitsDriver_128 : decode cL_fitsDriver 128 = .ok (.aload_n 1, 1) := by decide +kernel
theorem dL_fitsDriver_129 : decode cL_fitsDriver 129 = .ok (.iconst 3, 1) := by decide +kernel
theorem dL_fitsDriver_130 : decode cL_fitsDriver 130 = .ok (.iload 8, 2) := by decide +kernel
theorem dL_fitsDriver_132 : decode cL_fitsDriver 132 = .ok (.imul, 1) := by decide +kernel
theorem dL_fitsDriver_133 : decode cL_fitsDriver 133 = .ok (.iconst 1, 1) := by decide +kernel
theorem dL_fitsDriver_134 : decode cL_fitsDriver 134 = .ok (.iadd, 1) := by decide +kernel
theorem dL_fitsDriver_135 : decode cL_fitsDriver 135 = .ok (.iaload, 1) := by decide +kernel
theorem dL_fitsDriver_136 : decode cL_fitsDriver 136 = .ok (.goto 11, 3) := by decide +kernel
theorem dL_fitsDriver_139 : decode cL_fitsDriver 139 = .ok (.aload_n 1, 1) := by decide +kernel
theorem dL_fitsDriver_140 : decode cL_fitsDriver 140 = .ok (.iconst 3, 1) := by decide +kernel
theorem dL_fitsDriver_141 : decode cL_fitsDriver 141 = .ok (.iload 6, 2) := by decide +kernel
theorem dL_fitsDriver_143 : decode cL_fitsDriver 143 = .ok (.imul, 1) := by decide +kernel
theorem dL_fitsDriver_144 : decode cL_fitsDriver 144 = .ok (.iconst 1, 1) := by decide +kernel
theorem dL_fitsDriver_145 : decode cL_fitsDriver 145 = .ok (.iadd, 1) := by decide +kernel
theorem dL_fitsDriver_146 : decode cL_fitsDriver 146 = .ok (.iaload, 1) := by decide +kernel
theorem dL_fitsDriver_147 : decode cL_fitsDriver 147 = .ok (.istore 11, 2) := by decide +kernel
theorem dL_fitsDriver_149 : decode cL_fitsDriver 149 = .ok (.iload 7, 2) := by decide +kernel
theorem dL_fitsDriver_151 : decode cL_fitsDriver 151 = .ok (.iload 9, 2) := by decide +kernel
theorem dL_fitsDriver_153 : decode cL_fitsDriver 153 = .ok (.ifCond .eq 17, 3) := by decide +kernel
theorem dL_fitsDriver_156 : decode cL_fitsDriver 156 = .ok (.iload 10, 2) := by decide +kernel
theorem dL_fitsDriver_158 : decode cL_fitsDriver 158 = .ok (.iload 11, 2) := by decide +kernel
theorem dL_fitsDriver_160 : decode cL_fitsDriver 160 = .ok (.isub, 1) := by decide +kernel
theorem dL_fitsDriver_161 : decode cL_fitsDriver 161 = .ok (.bipush 30, 2) := by decide +kernel
theorem dL_fitsDriver_163 : decode cL_fitsDriver 163 = .ok (.if_icmp .ge 7, 3) := by decide +kernel
theorem dL_fitsDriver_166 : decode cL_fitsDriver 166 = .ok (.iconst 1, 1) := by decide +kernel
theorem dL_fitsDriver_167 : decode cL_fitsDriver 167 = .ok (.goto 4, 3) := by decide +kernel
theorem dL_fitsDriver_170 : decode cL_fitsDriver 170 = .ok (.iconst 0, 1) := by decide +kernel
theorem dL_fitsDriver_171 : decode cL_fitsDriver 171 = .ok (.iadd, 1) := by decide +kernel
theorem dL_fitsDriver_172 : decode cL_fitsDriver 172 = .ok (.istore 7, 2) := by decide +kernel
theorem dL_fitsDriver_174 : decode cL_fitsDriver 174 = .ok (.iinc 8 1, 3) := by decide +kernel
theorem dL_fitsDriver_177 : decode cL_fitsDriver 177 = .ok (.goto (-171), 3) := by decide +kernel
theorem dL_fitsDriver_180 : decode cL_fitsDriver 180 = .ok (.iload 7, 2) := by decide +kernel
theorem dL_fitsDriver_182 : decode cL_fitsDriver 182 = .ok (.ifCond .ne 58, 3) := by decide +kernel
theorem dL_fitsDriver_185 : decode cL_fitsDriver 185 = .ok (.aload 4, 2) := by decide +kernel
theorem dL_fitsDriver_187 : decode cL_fitsDriver 187 = .ok (.iload 5, 2) := by decide +kernel
theorem dL_fitsDriver_189 : decode cL_fitsDriver 189 = .ok (.iaload, 1) := by decide +kernel
theorem dL_fitsDriver_190 : decode cL_fitsDriver 190 = .ok (.ifCond .ne 50, 3) := by decide +kernel
theorem dL_fitsDriver_193 : decode cL_fitsDriver 193 = .ok (.aload_n 0, 1) := by decide +kernel
theorem dL_fitsDriver_194 : decode cL_fitsDriver 194 = .ok (.aload_n 1, 1) := by decide +kernel
theorem dL_fitsDriver_195 : decode cL_fitsDriver 195 = .ok (.aload_n 2, 1) := by decide +kernel
theorem dL_fitsDriver_196 : decode cL_fitsDriver 196 = .ok (.aload_n 3, 1) := by decide +kernel
theorem dL_fitsDriver_197 : decode cL_fitsDriver 197 = .ok (.iload 5, 2) := by decide +kernel
theorem dL_fitsDriver_199 : decode cL_fitsDriver 199 = .ok (.aload_n 1, 1) := by decide +kernel
theorem dL_fitsDriver_200 : decode cL_fitsDriver 200 = .ok (.iconst 3, 1) := by decide +kernel
theorem dL_fitsDriver_201 : decode cL_fitsDriver 201 = .ok (.iload 6, 2) := by decide +kernel
theorem dL_fitsDriver_203 : decode cL_fitsDriver 203 = .ok (.imul, 1) := by decide +kernel
theorem dL_fitsDriver_204 : decode cL_fitsDriver 204 = .ok (.iaload, 1) := by decide +kernel
theorem dL_fitsDriver_205 : decode cL_fitsDriver 205 = .ok (.sipush 1440, 3) := by decide +kernel
theorem dL_fitsDriver_208 : decode cL_fitsDriver 208 = .ok (.idiv, 1) := by decide +kernel
theorem dL_fitsDriver_209 : decode cL_fitsDriver 209 = .ok (.iload 6, 2) := by decide +kernel
theorem dL_fitsDriver_211 : decode cL_fitsDriver 211 = .ok (.invokestatic 13, 3) := by decide +kernel
theorem dL_fitsDriver_214 : decode cL_fitsDriver 214 = .ok (.aload_n 1, 1) := by decide +kernel
theorem dL_fitsDriver_215 : decode cL_fitsDriver 215 = .ok (.iconst 3, 1) := by decide +kernel
theorem dL_fitsDriver_216 : decode cL_fitsDriver 216 = .ok (.iload 6, 2) := by decide +kernel
theorem dL_fitsDriver_218 : decode cL_fitsDriver 218 = .ok (.imul, 1) := by decide +kernel
theorem dL_fitsDriver_219 : decode cL_fitsDriver 219 = .ok (.iconst 1, 1) := by decide +kernel
theorem dL_fitsDriver_220 : decode cL_fitsDriver 220 = .ok (.iadd, 1) := by decide +kernel
theorem dL_fitsDriver_221 : decode cL_fitsDriver 221 = .ok (.iaload, 1) := by decide +kernel
theorem dL_fitsDriver_222 : decode cL_fitsDriver 222 = .ok (.iadd, 1) := by decide +kernel
theorem dL_fitsDriver_223 : decode cL_fitsDriver 223 = .ok (.aload_n 1, 1) := by decide +kernel
theorem dL_fitsDriver_224 : decode cL_fitsDriver 224 = .ok (.iconst 3, 1) := by decide +kernel
theorem dL_fitsDriver_225 : decode cL_fitsDriver 225 = .ok (.iload 6, 2) := by decide +kernel
theorem dL_fitsDriver_227 : decode cL_fitsDriver 227 = .ok (.imul, 1) := by decide +kernel
theorem dL_fitsDriver_228 : decode cL_fitsDriver 228 = .ok (.iaload, 1) := by decide +kernel
theorem dL_fitsDriver_229 : decode cL_fitsDriver 229 = .ok (.isub, 1) := by decide +kernel
theorem dL_fitsDriver_230 : decode cL_fitsDriver 230 = .ok (.sipush 480, 3) := by decide +kernel
theorem dL_fitsDriver_233 : decode cL_fitsDriver 233 = .ok (.if_icmp .gt 7, 3) := by decide +kernel
theorem dL_fitsDriver_236 : decode cL_fitsDriver 236 = .ok (.iconst 1, 1) := by decide +kernel
theorem dL_fitsDriver_237 : decode cL_fitsDriver 237 = .ok (.goto 4, 3) := by decide +kernel
theorem dL_fitsDriver_240 : decode cL_fitsDriver 240 = .ok (.iconst 0, 1) := by decide +kernel
theorem dL_fitsDriver_241 : decode cL_fitsDriver 241 = .ok (.ireturn, 1) := by decide +kernel
theorem dL_leaves_0 : decode cL_leaves 0 = .ok (.aload_n 0, 1) := by decide +kernel
theorem dL_leaves_1 : decode cL_leaves 1 = .ok (.iconst 0, 1) := by decide +kernel
theorem dL_leaves_2 : decode cL_leaves 2 = .ok (.aload_n 0, 1) := by decide +kernel
theorem dL_leaves_3 : decode cL_leaves 3 = .ok (.iconst 0, 1) := by decide +kernel
theorem dL_leaves_4 : decode cL_leaves 4 = .ok (.iaload, 1) := by decide +kernel
theorem dL_leaves_5 : decode cL_leaves 5 = .ok (.iload_n 1, 1) := by decide +kernel
theorem dL_leaves_6 : decode cL_leaves 6 = .ok (.iconst 1, 1) := by decide +kernel
theorem dL_leaves_7 : decode cL_leaves 7 = .ok (.iadd, 1) := by decide +kernel
theorem dL_leaves_8 : decode cL_leaves 8 = .ok (.if_icmp .ne 7, 3) := by decide +kernel
theorem dL_leaves_11 : decode cL_leaves 11 = .ok (.iconst 0, 1) := by decide +kernel
theorem dL_leaves_12 : decode cL_leaves 12 = .ok (.goto 6, 3) := by decide +kernel
theorem dL_leaves_15 : decode cL_leaves 15 = .ok (.aload_n 0, 1) := by decide +kernel
theorem dL_leaves_16 : decode cL_leaves 16 = .ok (.iconst 0, 1) := by decide +kernel
theorem dL_leaves_17 : decode cL_leaves 17 = .ok (.iaload, 1) := by decide +kernel
theorem dL_leaves_18 : decode cL_leaves 18 = .ok (.iastore, 1) := by decide +kernel
theorem dL_leaves_19 : decode cL_leaves 19 = .ok (.aload_n 0, 1) := by decide +kernel
theorem dL_leaves_20 : decode cL_leaves 20 = .ok (.iconst 1, 1) := by decide +kernel
theorem dL_leaves_21 : decode cL_leaves 21 = .ok (.aload_n 0, 1) := by decide +kernel
theorem dL_leaves_22 : decode cL_leaves 22 = .ok (.iconst 1, 1) := by decide +kernel
theorem dL_leaves_23 : decode cL_leaves 23 = .ok (.iaload, 1) := by decide +kernel
theorem dL_leaves_24 : decode cL_leaves 24 = .ok (.iload_n 1, 1) := by decide +kernel
theorem dL_leaves_25 : decode cL_leaves 25 = .ok (.iconst 1, 1) := by decide +kernel
theorem dL_leaves_26 : decode cL_leaves 26 = .ok (.iadd, 1) := by decide +kernel
theorem dL_leaves_27 : decode cL_leaves 27 = .ok (.if_icmp .ne 7, 3) := by decide +kernel
theorem dL_leaves_30 : decode cL_leaves 30 = .ok (.iconst 0, 1) := by decide +kernel
theorem dL_leaves_31 : decode cL_leaves 31 = .ok (.goto 6, 3) := by decide +kernel
theorem dL_leaves_34 : decode cL_leaves 34 = .ok (.aload_n 0, 1) := by decide +kernel
theorem dL_leaves_35 : decode cL_leaves 35 = .ok (.iconst 1, 1) := by decide +kernel
theorem dL_leaves_36 : decode cL_leaves 36 = .ok (.iaload, 1) := by decide +kernel
theorem dL_leaves_37 : decode cL_leaves 37 = .ok (.iastore, 1) := by decide +kernel
theorem dL_leaves_38 : decode cL_leaves 38 = .ok (.return_, 1) := by decide +kernel
theorem dL_turns_0 : decode cL_turns 0 = .ok (.aload_n 0, 1) := by decide +kernel
theorem dL_turns_1 : decode cL_turns 1 = .ok (.iload_n 3, 1) := by decide +kernel
theorem dL_turns_2 : decode cL_turns 2 = .ok (.iload 4, 2) := by decide +kernel
theorem dL_turns_4 : decode cL_turns 4 = .ok (.iastore, 1) := by decide +kernel
theorem dL_turns_5 : decode cL_turns 5 = .ok (.aload_n 1, 1) := by decide +kernel
theorem dL_turns_6 : decode cL_turns 6 = .ok (.iload_n 3, 1) := by decide +kernel
theorem dL_turns_7 : decode cL_turns 7 = .ok (.iconst 0, 1) := by decide +kernel
theorem dL_turns_8 : decode cL_turns 8 = .ok (.iastore, 1) := by decide +kernel
theorem dL_turns_9 : decode cL_turns 9 = .ok (.aload_n 2, 1) := by decide +kernel
theorem dL_turns_10 : decode cL_turns 10 = .ok (.iload_n 3, 1) := by decide +kernel
theorem dL_turns_11 : decode cL_turns 11 = .ok (.iconst 0, 1) := by decide +kernel
theorem dL_turns_12 : decode cL_turns 12 = .ok (.iastore, 1) := by decide +kernel
theorem dL_turns_13 : decode cL_turns 13 = .ok (.return_, 1) := by decide +kernel
set_option maxRecDepth 20000 in
theorem ggL_breaks_L_leaves : GoodIn wsL_breaks wsL_leaves := goodIn_r _ [4] (by decide +kernel) (by decide +kernel)
set_option maxRecDepth 20000 in
theorem gL_breaks_L_leaves : GoodIn wsL_breaks (va_wsS RL 17 yL_leaves wsL_leaves) := goodIn_app (goodIn_of _ (by decide +kernel)) ggL_breaks_L_leaves
set_option maxRecDepth 20000 in
theorem ggL_breaks_L_turns : GoodIn wsL_breaks wsL_turns := goodIn_r _ [7] (by decide +kernel) (by decide +kernel)
set_option maxRecDepth 20000 in
theorem gL_breaks_L_turns : GoodIn wsL_breaks (va_wsS RL 21 yL_turns wsL_turns) := goodIn_app (goodIn_of _ (by decide +kernel)) ggL_breaks_L_turns
set_option maxRecDepth 20000 in
theorem ggL_breaks_L_fitsBus : GoodIn wsL_breaks wsL_fitsBus := goodIn_r _ [10, 11, 12, 3, 13] (by decide +kernel) (by decide +kernel)
set_option maxRecDepth 20000 in
theorem gL_breaks_L_fitsBus : GoodIn wsL_breaks (va_wsS RL 25 yL_fitsBus wsL_fitsBus) := goodIn_app (goodIn_of _ (by decide +kernel)) ggL_breaks_L_fitsBus
theorem dL_breaks_0 : decode cL_breaks 0 = .ok (.aload 6, 2) := by decide +kernel
theorem dL_breaks_2 : decode cL_breaks 2 = .ok (.iload 7, 2) := by decide +kernel
theorem dL_breaks_4 : decode cL_breaks 4 = .ok (.invokestatic 17, 3) := by decide +kernel
theorem dL_breaks_7 : decode cL_breaks 7 = .ok (.aload 5, 2) := by decide +kernel
theorem dL_breaks_9 : decode cL_breaks 9 = .ok (.iconst 2, 1) := by decide +kernel
theorem dL_breaks_10 : decode cL_breaks 10 = .ok (.iload 7, 2) := by decide +kernel
theorem dL_breaks_12 : decode cL_breaks 12 = .ok (.imul, 1) := by decide +kernel
theorem dL_breaks_13 : decode cL_breaks 13 = .ok (.iconst 1, 1) := by decide +kernel
theorem dL_breaks_14 : decode cL_breaks 14 = .ok (.iadd, 1) := by decide +kernel
theorem dL_breaks_15 : decode cL_breaks 15 = .ok (.iconst 1, 1) := by decide +kernel
theorem dL_breaks_16 : decode cL_breaks 16 = .ok (.iastore, 1) := by decide +kernel
theorem dL_breaks_17 : decode cL_breaks 17 = .ok (.iconst 0, 1) := by decide +kernel
theorem dL_breaks_18 : decode cL_breaks 18 = .ok (.istore 8, 2) := by decide +kernel
theorem dL_breaks_20 : decode cL_breaks 20 = .ok (.iload 8, 2) := by decide +kernel
theorem dL_breaks_22 : decode cL_breaks 22 = .ok (.aload_n 0, 1) := by decide +kernel
theorem dL_breaks_23 : decode cL_breaks 23 = .ok (.iconst 1, 1) := by decide +kernel
theorem dL_breaks_24 : decode cL_breaks 24 = .ok (.iaload, 1) := by decide +kernel
theorem dL_breaks_25 : decode cL_breaks 25 = .ok (.if_icmp .ge 38, 3) := by decide +kernel
theorem dL_breaks_28 : decode cL_breaks 28 = .ok (.aload_n 2, 1) := by decide +kernel
theorem dL_breaks_29 : decode cL_breaks 29 = .ok (.iload 8, 2) := by decide +kernel
theorem dL_breaks_31 : decode cL_breaks 31 = .ok (.iaload, 1) := by decide +kernel
theorem dL_breaks_32 : decode cL_breaks 32 = .ok (.iconst 1, 1) := by decide +kernel
theorem dL_breaks_33 : decode cL_breaks 33 = .ok (.if_icmp .ne 24, 3) := by decide +kernel
theorem dL_breaks_36 : decode cL_breaks 36 = .ok (.aload_n 3, 1) := by decide +kernel
theorem dL_breaks_37 : decode cL_breaks 37 = .ok (.iload 8, 2) := by decide +kernel
theorem dL_breaks_39 : decode cL_breaks 39 = .ok (.iaload, 1) := by decide +kernel
theorem dL_breaks_40 : decode cL_breaks 40 = .ok (.iload 7, 2) := by decide +kernel
theorem dL_breaks_42 : decode cL_breaks 42 = .ok (.iconst 1, 1) := by decide +kernel
theorem dL_breaks_43 : decode cL_breaks 43 = .ok (.iadd, 1) := by decide +kernel
theorem dL_breaks_44 : decode cL_breaks 44 = .ok (.if_icmp .ne 13, 3) := by decide +kernel
theorem dL_breaks_47 : decode cL_breaks 47 = .ok (.aload_n 2, 1) := by decide +kernel
theorem dL_breaks_48 : decode cL_breaks 48 = .ok (.aload_n 3, 1) := by decide +kernel
theorem dL_breaks_49 : decode cL_breaks 49 = .ok (.aload 4, 2) := by decide +kernel
theorem dL_breaks_51 : decode cL_breaks 51 = .ok (.iload 8, 2) := by decide +kernel
theorem dL_breaks_53 : decode cL_breaks 53 = .ok (.iconst 0, 1) := by decide +kernel
theorem dL_breaks_54 : decode cL_breaks 54 = .ok (.invokestatic 21, 3) := by decide +kernel
theorem dL_breaks_57 : decode cL_breaks 57 = .ok (.iinc 8 1, 3) := by decide +kernel
theorem dL_breaks_60 : decode cL_breaks 60 = .ok (.goto (-40), 3) := by decide +kernel
theorem dL_breaks_63 : decode cL_breaks 63 = .ok (.iconst 0, 1) := by decide +kernel
theorem dL_breaks_64 : decode cL_breaks 64 = .ok (.istore 8, 2) := by decide +kernel
theorem dL_breaks_66 : decode cL_breaks 66 = .ok (.iload 8, 2) := by decide +kernel
theorem dL_breaks_68 : decode cL_breaks 68 = .ok (.aload_n 0, 1) := by decide +kernel
theorem dL_breaks_69 : decode cL_breaks 69 = .ok (.iconst 1, 1) := by decide +kernel
theorem dL_breaks_70 : decode cL_breaks 70 = .ok (.iaload, 1) := by decide +kernel
theorem dL_breaks_71 : decode cL_breaks 71 = .ok (.if_icmp .ge 121, 3) := by decide +kernel
theorem dL_breaks_74 : decode cL_breaks 74 = .ok (.aload_n 2, 1) := by decide +kernel
theorem dL_breaks_75 : decode cL_breaks 75 = .ok (.iload 8, 2) := by decide +kernel
theorem dL_breaks_77 : decode cL_breaks 77 = .ok (.iaload, 1) := by decide +kernel
theorem dL_breaks_78 : decode cL_breaks 78 = .ok (.iconst 2, 1) := by decide +kernel
theorem dL_breaks_79 : decode cL_breaks 79 = .ok (.if_icmp .ne 107, 3) := by decide +kernel
theorem dL_breaks_82 : decode cL_breaks 82 = .ok (.aload_n 3, 1) := by decide +kernel
theorem dL_breaks_83 : decode cL_breaks 83 = .ok (.iload 8, 2) := by decide +kernel
theorem dL_breaks_85 : decode cL_breaks 85 = .ok (.iaload, 1) := by decide +kernel
theorem dL_breaks_86 : decode cL_breaks 86 = .ok (.iload 7, 2) := by decide +kernel
theorem dL_breaks_88 : decode cL_breaks 88 = .ok (.iconst 1, 1) := by decide +kernel
theorem dL_breaks_89 : decode cL_breaks 89 = .ok (.iadd, 1) := by decide +kernel
theorem dL_breaks_90 : decode cL_breaks 90 = .ok (.if_icmp .ne 96, 3) := by decide +kernel
theorem dL_breaks_93 : decode cL_breaks 93 = .ok (.iconst (-1), 1) := by decide +kernel
theorem dL_breaks_94 : decode cL_breaks 94 = .ok (.istore 9, 2) := by decide +kernel
theorem dL_breaks_96 : decode cL_breaks 96 = .ok (.iconst 4, 1) := by decide +kernel
theorem dL_breaks_97 : decode cL_breaks 97 = .ok (.istore 10, 2) := by decide +kernel
theorem dL_breaks_99 : decode cL_breaks 99 = .ok (.iload 10, 2) := by decide +kernel
theorem dL_breaks_101 : decode cL_breaks 101 = .ok (.ifCond .lt 34, 3) := by decide +kernel
theorem dL_breaks_104 : decode cL_breaks 104 = .ok (.aload_n 0, 1) := by decide +kernel
theorem dL_breaks_105 : decode cL_breaks 105 = .ok (.aload_n 1, 1) := by decide +kernel
theorem dL_breaks_106 : decode cL_breaks 106 = .ok (.aload_n 2, 1) := by decide +kernel
theorem dL_breaks_107 : decode cL_breaks 107 = .ok (.aload_n 3, 1) := by decide +kernel
theorem dL_breaks_108 : decode cL_breaks 108 = .ok (.aload 5, 2) := by decide +kernel
theorem dL_breaks_110 : decode cL_breaks 110 = .ok (.iload 10, 2) := by decide +kernel
theorem dL_breaks_112 : decode cL_breaks 112 = .ok (.iload 8, 2) := by decide +kernel
theorem dL_breaks_114 : decode cL_breaks 114 = .ok (.invokestatic 25, 3) := by decide +kernel
theorem dL_breaks_117 : decode cL_breaks 117 = .ok (.ifCond .eq 8, 3) := by decide +kernel
theorem dL_breaks_120 : decode cL_breaks 120 = .ok (.iload 10, 2) := by decide +kernel
theorem dL_breaks_122 : decode cL_breaks 122 = .ok (.goto 5, 3) := by decide +kernel
theorem dL_breaks_125 : decode cL_breaks 125 = .ok (.iload 9, 2) := by decide +kernel
theorem dL_breaks_127 : decode cL_breaks 127 = .ok (.istore 9, 2) := by decide +kernel
theorem dL_breaks_129 : decode cL_breaks 129 = .ok (.iinc 10 (-1), 3) := by decide +kernel
theorem dL_breaks_132 : decode cL_breaks 132 = .ok (.goto (-33), 3) := by decide +kernel
theorem dL_breaks_135 : decode cL_breaks 135 = .ok (.aload_n 3, 1) := by decide +kernel
theorem dL_breaks_136 : decode cL_breaks 136 = .ok (.iload 8, 2) := by decide +kernel
theorem dL_breaks_138 : decode cL_breaks 138 = .ok (.iload 9, 2) := by decide +kernel
theorem dL_breaks_140 : decode cL_breaks 140 = .ok (.iconst 1, 1) := by decide +kernel
theorem dL_breaks_141 : decode cL_breaks 141 = .ok (.iadd, 1) := by decide +kernel
theorem dL_breaks_142 : decode cL_breaks 142 = .ok (.iastore, 1) := by decide +kernel
theorem dL_breaks_143 : decode cL_breaks 143 = .ok (.iload 9, 2) := by decide +kernel
theorem dL_breaks_145 : decode cL_breaks 145 = .ok (.ifCond .ge 16, 3) := by decide +kernel
theorem dL_breaks_148 : decode cL_breaks 148 = .ok (.aload_n 2, 1) := by decide +kernel
theorem dL_breaks_149 : decode cL_breaks 149 = .ok (.aload_n 3, 1) := by decide +kernel
theorem dL_breaks_150 : decode cL_breaks 150 = .ok (.aload 4, 2) := by decide +kernel
theorem dL_breaks_152 : decode cL_breaks 152 = .ok (.iload 8, 2) := by decide +kernel
theorem dL_breaks_154 : decode cL_breaks 154 = .ok (.iconst 4, 1) := by decide +kernel
theorem dL_breaks_155 : decode cL_breaks 155 = .ok (.invokestatic 21, 3) := by decide +kernel
theorem dL_breaks_158 : decode cL_breaks 158 = .ok (.goto 28, 3) := by decide +kernel
theorem dL_breaks_161 : decode cL_breaks 161 = .ok (.aload 5, 2) := by decide +kernel
theorem dL_breaks_163 : decode cL_breaks 163 = .ok (.iconst 2, 1) := by decide +kernel
theorem dL_breaks_164 : decode cL_breaks 164 = .ok (.iload 9, 2) := by decide +kernel
theorem dL_breaks_166 : decode cL_breaks 166 = .ok (.imul, 1) := by decide +kernel
theorem dL_breaks_167 : decode cL_breaks 167 = .ok (.dup2, 1) := by decide +kernel
theorem dL_breaks_168 : decode cL_breaks 168 = .ok (.iaload, 1) := by decide +kernel
theorem dL_breaks_169 : decode cL_breaks 169 = .ok (.aload_n 1, 1) := by decide +kernel
theorem dL_breaks_170 : decode cL_breaks 170 = .ok (.iconst 3, 1) := by decide +kernel
theorem dL_breaks_171 : decode cL_breaks 171 = .ok (.iload 8, 2) := by decide +kernel
theorem dL_breaks_173 : decode cL_breaks 173 = .ok (.imul, 1) := by decide +kernel
theorem dL_breaks_174 : decode cL_breaks 174 = .ok (.iconst 2, 1) := by decide +kernel
theorem dL_breaks_175 : decode cL_breaks 175 = .ok (.iadd, 1) := by decide +kernel
theorem dL_breaks_176 : decode cL_breaks 176 = .ok (.iaload, 1) := by decide +kernel
theorem dL_breaks_177 : decode cL_breaks 177 = .ok (.isub, 1) := by decide +kernel
theorem dL_breaks_178 : decode cL_breaks 178 = .ok (.iastore, 1) := by decide +kernel
theorem dL_breaks_179 : decode cL_breaks 179 = .ok (.aload 6, 2) := by decide +kernel
theorem dL_breaks_181 : decode cL_breaks 181 = .ok (.iload 9, 2) := by decide +kernel
theorem dL_breaks_183 : decode cL_breaks 183 = .ok (.invokestatic 17, 3) := by decide +kernel
theorem dL_breaks_186 : decode cL_breaks 186 = .ok (.iinc 8 1, 3) := by decide +kernel
theorem dL_breaks_189 : decode cL_breaks 189 = .ok (.goto (-123), 3) := by decide +kernel
theorem dL_breaks_192 : decode cL_breaks 192 = .ok (.return_, 1) := by decide +kernel
set_option maxRecDepth 20000 in
theorem ggL_ails_L_turns : GoodIn wsL_ails wsL_turns := goodIn_r _ [4] (by decide +kernel) (by decide +kernel)
set_option maxRecDepth 20000 in
theorem gL_ails_L_turns : GoodIn wsL_ails (va_wsS RL 21 yL_turns wsL_turns) := goodIn_app (goodIn_of _ (by decide +kernel)) ggL_ails_L_turns
set_option maxRecDepth 20000 in
theorem ggL_ails_L_fitsDriver : GoodIn wsL_ails wsL_fitsDriver := goodIn_r _ [7, 8, 9, 3, 10] (by decide +kernel) (by decide +kernel)
set_option maxRecDepth 20000 in
theorem gL_ails_L_fitsDriver : GoodIn wsL_ails (va_wsS RL 29 yL_fitsDriver wsL_fitsDriver) := goodIn_app (goodIn_of _ (by decide +kernel)) ggL_ails_L_fitsDriver
theorem dL_ails_0 : decode cL_ails 0 = .ok (.aload 5, 2) := by decide +kernel
theorem dL_ails_2 : decode cL_ails 2 = .ok (.iload 6, 2) := by decide +kernel
theorem dL_ails_4 : decode cL_ails 4 = .ok (.iconst 1, 1) := by decide +kernel
theorem dL_ails_5 : decode cL_ails 5 = .ok (.iastore, 1) := by decide +kernel
theorem dL_ails_6 : decode cL_ails 6 = .ok (.iconst 0, 1) := by decide +kernel
theorem dL_ails_7 : decode cL_ails 7 = .ok (.istore 7, 2) := by decide +kernel
theorem dL_ails_9 : decode cL_ails 9 = .ok (.iload 7, 2) := by decide +kernel
theorem dL_ails_11 : decode cL_ails 11 = .ok (.aload_n 0, 1) := by decide +kernel
theorem dL_ails_12 : decode cL_ails 12 = .ok (.iconst 1, 1) := by decide +kernel
theorem dL_ails_13 : decode cL_ails 13 = .ok (.iaload, 1) := by decide +kernel
theorem dL_ails_14 : decode cL_ails 14 = .ok (.if_icmp .ge 39, 3) := by decide +kernel
theorem dL_ails_17 : decode cL_ails 17 = .ok (.aload_n 2, 1) := by decide +kernel
theorem dL_ails_18 : decode cL_ails 18 = .ok (.iload 7, 2) := by decide +kernel
theorem dL_ails_20 : decode cL_ails 20 = .ok (.iaload, 1) := by decide +kernel
theorem dL_ails_21 : decode cL_ails 21 = .ok (.iconst 1, 1) := by decide +kernel
theorem dL_ails_22 : decode cL_ails 22 = .ok (.if_icmp .ne 25, 3) := by decide +kernel
theorem dL_ails_25 : decode cL_ails 25 = .ok (.aload 4, 2) := by decide +kernel
theorem dL_ails_27 : decode cL_ails 27 = .ok (.iload 7, 2) := by decide +kernel
theorem dL_ails_29 : decode cL_ails 29 = .ok (.iaload, 1) := by decide +kernel
theorem dL_ails_30 : decode cL_ails 30 = .ok (.iload 6, 2) := by decide +kernel
theorem dL_ails_32 : decode cL_ails 32 = .ok (.iconst 1, 1) := by decide +kernel
theorem dL_ails_33 : decode cL_ails 33 = .ok (.iadd, 1) := by decide +kernel
theorem dL_ails_34 : decode cL_ails 34 = .ok (.if_icmp .ne 13, 3) := by decide +kernel
theorem dL_ails_37 : decode cL_ails 37 = .ok (.aload_n 2, 1) := by decide +kernel
theorem dL_ails_38 : decode cL_ails 38 = .ok (.aload_n 3, 1) := by decide +kernel
theorem dL_ails_39 : decode cL_ails 39 = .ok (.aload 4, 2) := by decide +kernel
theorem dL_ails_41 : decode cL_ails 41 = .ok (.iload 7, 2) := by decide +kernel
theorem dL_ails_43 : decode cL_ails 43 = .ok (.iconst 0, 1) := by decide +kernel
theorem dL_ails_44 : decode cL_ails 44 = .ok (.invokestatic 21, 3) := by decide +kernel
theorem dL_ails_47 : decode cL_ails 47 = .ok (.iinc 7 1, 3) := by decide +kernel
theorem dL_ails_50 : decode cL_ails 50 = .ok (.goto (-41), 3) := by decide +kernel
theorem dL_ails_53 : decode cL_ails 53 = .ok (.iconst 0, 1) := by decide +kernel
theorem dL_ails_54 : decode cL_ails 54 = .ok (.istore 7, 2) := by decide +kernel
theorem dL_ails_56 : decode cL_ails 56 = .ok (.iload 7, 2) := by decide +kernel
theorem dL_ails_58 : decode cL_ails 58 = .ok (.aload_n 0, 1) := by decide +kernel
theorem dL_ails_59 : decode cL_ails 59 = .ok (.iconst 1, 1) := by decide +kernel
theorem dL_ails_60 : decode cL_ails 60 = .ok (.iaload, 1) := by decide +kernel
theorem dL_ails_61 : decode cL_ails 61 = .ok (.if_icmp .ge 96, 3) := by decide +kernel
theorem dL_ails_64 : decode cL_ails 64 = .ok (.aload_n 2, 1) := by decide +kernel
theorem dL_ails_65 : decode cL_ails 65 = .ok (.iload 7, 2) := by decide +kernel
theorem dL_ails_67 : decode cL_ails 67 = .ok (.iaload, 1) := by decide +kernel
theorem dL_ails_68 : decode cL_ails 68 = .ok (.iconst 2, 1) := by decide +kernel
theorem dL_ails_69 : decode cL_ails 69 = .ok (.if_icmp .ne 82, 3) := by decide +kernel
theorem dL_ails_72 : decode cL_ails 72 = .ok (.aload 4, 2) := by decide +kernel
theorem dL_ails_74 : decode cL_ails 74 = .ok (.iload 7, 2) := by decide +kernel
theorem dL_ails_76 : decode cL_ails 76 = .ok (.iaload, 1) := by decide +kernel
theorem dL_ails_77 : decode cL_ails 77 = .ok (.iload 6, 2) := by decide +kernel
theorem dL_ails_79 : decode cL_ails 79 = .ok (.iconst 1, 1) := by decide +kernel
theorem dL_ails_80 : decode cL_ails 80 = .ok (.iadd, 1) := by decide +kernel
theorem dL_ails_81 : decode cL_ails 81 = .ok (.if_icmp .ne 70, 3) := by decide +kernel
theorem dL_ails_84 : decode cL_ails 84 = .ok (.iconst (-1), 1) := by decide +kernel
theorem dL_ails_85 : decode cL_ails 85 = .ok (.istore 8, 2) := by decide +kernel
theorem dL_ails_87 : decode cL_ails 87 = .ok (.iconst 4, 1) := by decide +kernel
theorem dL_ails_88 : decode cL_ails 88 = .ok (.istore 9, 2) := by decide +kernel
theorem dL_ails_90 : decode cL_ails 90 = .ok (.iload 9, 2) := by decide +kernel
theorem dL_ails_92 : decode cL_ails 92 = .ok (.ifCond .lt 35, 3) := by decide +kernel
theorem dL_ails_95 : decode cL_ails 95 = .ok (.aload_n 0, 1) := by decide +kernel
theorem dL_ails_96 : decode cL_ails 96 = .ok (.aload_n 1, 1) := by decide +kernel
theorem dL_ails_97 : decode cL_ails 97 = .ok (.aload_n 2, 1) := by decide +kernel
theorem dL_ails_98 : decode cL_ails 98 = .ok (.aload 4, 2) := by decide +kernel
theorem dL_ails_100 : decode cL_ails 100 = .ok (.aload 5, 2) := by decide +kernel
theorem dL_ails_102 : decode cL_ails 102 = .ok (.iload 9, 2) := by decide +kernel
theorem dL_ails_104 : decode cL_ails 104 = .ok (.iload 7, 2) := by decide +kernel
theorem dL_ails_106 : decode cL_ails 106 = .ok (.invokestatic 29, 3) := by decide +kernel
theorem dL_ails_109 : decode cL_ails 109 = .ok (.ifCond .eq 8, 3) := by decide +kernel
theorem dL_ails_112 : decode cL_ails 112 = .ok (.iload 9, 2) := by decide +kernel
theorem dL_ails_114 : decode cL_ails 114 = .ok (.goto 5, 3) := by decide +kernel
theorem dL_ails_117 : decode cL_ails 117 = .ok (.iload 8, 2) := by decide +kernel
theorem dL_ails_119 : decode cL_ails 119 = .ok (.istore 8, 2) := by decide +kernel
theorem dL_ails_121 : decode cL_ails 121 = .ok (.iinc 9 (-1), 3) := by decide +kernel
theorem dL_ails_124 : decode cL_ails 124 = .ok (.goto (-34), 3) := by decide +kernel
theorem dL_ails_127 : decode cL_ails 127 = .ok (.aload 4, 2) := by decide +kernel
theorem dL_ails_129 : decode cL_ails 129 = .ok (.iload 7, 2) := by decide +kernel
theorem dL_ails_131 : decode cL_ails 131 = .ok (.iload 8, 2) := by decide +kernel
theorem dL_ails_133 : decode cL_ails 133 = .ok (.iconst 1, 1) := by decide +kernel
theorem dL_ails_134 : decode cL_ails 134 = .ok (.iadd, 1) := by decide +kernel
theorem dL_ails_135 : decode cL_ails 135 = .ok (.iastore, 1) := by decide +kernel
theorem dL_ails_136 : decode cL_ails 136 = .ok (.iload 8, 2) := by decide +kernel
theorem dL_ails_138 : decode cL_ails 138 = .ok (.ifCond .ge 13, 3) := by decide +kernel
theorem dL_ails_141 : decode cL_ails 141 = .ok (.aload_n 2, 1) := by decide +kernel
theorem dL_ails_142 : decode cL_ails 142 = .ok (.aload_n 3, 1) := by decide +kernel
theorem dL_ails_143 : decode cL_ails 143 = .ok (.aload 4, 2) := by decide +kernel
theorem dL_ails_145 : decode cL_ails 145 = .ok (.iload 7, 2) := by decide +kernel
theorem dL_ails_147 : decode cL_ails 147 = .ok (.iconst 4, 1) := by decide +kernel
theorem dL_ails_148 : decode cL_ails 148 = .ok (.invokestatic 21, 3) := by decide +kernel
theorem dL_ails_151 : decode cL_ails 151 = .ok (.iinc 7 1, 3) := by decide +kernel
theorem dL_ails_154 : decode cL_ails 154 = .ok (.goto (-98), 3) := by decide +kernel
theorem dL_ails_157 : decode cL_ails 157 = .ok (.return_, 1) := by decide +kernel
set_option maxRecDepth 20000 in
theorem ggL_passes_L_leaves : GoodIn wsL_passes wsL_leaves := goodIn_r _ [4] (by decide +kernel) (by decide +kernel)
set_option maxRecDepth 20000 in
theorem gL_passes_L_leaves : GoodIn wsL_passes (va_wsS RL 17 yL_leaves wsL_leaves) := goodIn_app (goodIn_of _ (by decide +kernel)) ggL_passes_L_leaves
set_option maxRecDepth 20000 in
theorem ggL_passes_L_turns : GoodIn wsL_passes wsL_turns := goodIn_r _ [7] (by decide +kernel) (by decide +kernel)
set_option maxRecDepth 20000 in
theorem gL_passes_L_turns : GoodIn wsL_passes (va_wsS RL 21 yL_turns wsL_turns) := goodIn_app (goodIn_of _ (by decide +kernel)) ggL_passes_L_turns
theorem dL_passes_0 : decode cL_passes 0 = .ok (.aload_n 0, 1) := by decide +kernel
theorem dL_passes_1 : decode cL_passes 1 = .ok (.iconst 0, 1) := by decide +kernel
theorem dL_passes_2 : decode cL_passes 2 = .ok (.iaload, 1) := by decide +kernel
theorem dL_passes_3 : decode cL_passes 3 = .ok (.iload 7, 2) := by decide +kernel
theorem dL_passes_5 : decode cL_passes 5 = .ok (.if_icmp .ge 290, 3) := by decide +kernel
theorem dL_passes_8 : decode cL_passes 8 = .ok (.iload 7, 2) := by decide +kernel
theorem dL_passes_10 : decode cL_passes 10 = .ok (.istore 8, 2) := by decide +kernel
theorem dL_passes_12 : decode cL_passes 12 = .ok (.iconst 0, 1) := by decide +kernel
theorem dL_passes_13 : decode cL_passes 13 = .ok (.istore 9, 2) := by decide +kernel
theorem dL_passes_15 : decode cL_passes 15 = .ok (.iload 9, 2) := by decide +kernel
theorem dL_passes_17 : decode cL_passes 17 = .ok (.iconst 3, 1) := by decide +kernel
theorem dL_passes_18 : decode cL_passes 18 = .ok (.aload_n 0, 1) := by decide +kernel
theorem dL_passes_19 : decode cL_passes 19 = .ok (.iconst 1, 1) := by decide +kernel
theorem dL_passes_20 : decode cL_passes 20 = .ok (.iaload, 1) := by decide +kernel
theorem dL_passes_21 : decode cL_passes 21 = .ok (.imul, 1) := by decide +kernel
theorem dL_passes_22 : decode cL_passes 22 = .ok (.if_icmp .ge 47, 3) := by decide +kernel
theorem dL_passes_25 : decode cL_passes 25 = .ok (.iload 9, 2) := by decide +kernel
theorem dL_passes_27 : decode cL_passes 27 = .ok (.iconst 3, 1) := by decide +kernel
theorem dL_passes_28 : decode cL_passes 28 = .ok (.irem, 1) := by decide +kernel
theorem dL_passes_29 : decode cL_passes 29 = .ok (.iconst 2, 1) := by decide +kernel
theorem dL_passes_30 : decode cL_passes 30 = .ok (.if_icmp .ge 29, 3) := by decide +kernel
theorem dL_passes_33 : decode cL_passes 33 = .ok (.aload_n 1, 1) := by decide +kernel
theorem dL_passes_34 : decode cL_passes 34 = .ok (.iload 9, 2) := by decide +kernel
theorem dL_passes_36 : decode cL_passes 36 = .ok (.iaload, 1) := by decide +kernel
theorem dL_passes_37 : decode cL_passes 37 = .ok (.aload_n 0, 1) := by decide +kernel
theorem dL_passes_38 : decode cL_passes 38 = .ok (.iconst 0, 1) := by decide +kernel
end
section
theorem dL_passes_39 : decode cL_passes 39 = .ok (.iaload, 1) := by decide +kernel
theorem dL_passes_40 : decode cL_passes 40 = .ok (.if_icmp .le 19, 3) := by decide +kernel
theorem dL_passes_43 : decode cL_passes 43 = .ok (.aload_n 1, 1) := by decide +kernel
theorem dL_passes_44 : decode cL_passes 44 = .ok (.iload 9, 2) := by decide +kernel
theorem dL_passes_46 : decode cL_passes 46 = .ok (.iaload, 1) := by decide +kernel
theorem dL_passes_47 : decode cL_passes 47 = .ok (.iload 8, 2) := by decide +kernel
theorem dL_passes_49 : decode cL_passes 49 = .ok (.if_icmp .ge 10, 3) := by decide +kernel
theorem dL_passes_52 : decode cL_passes 52 = .ok (.aload_n 1, 1) := by decide +kernel
theorem dL_passes_53 : decode cL_passes 53 = .ok (.iload 9, 2) := by decide +kernel
theorem dL_passes_55 : decode cL_passes 55 = .ok (.iaload, 1) := by decide +kernel
theorem dL_passes_56 : decode cL_passes 56 = .ok (.goto 5, 3) := by decide +kernel
theorem dL_passes_59 : decode cL_passes 59 = .ok (.iload 8, 2) := by decide +kernel
theorem dL_passes_61 : decode cL_passes 61 = .ok (.istore 8, 2) := by decide +kernel
theorem dL_passes_63 : decode cL_passes 63 = .ok (.iinc 9 1, 3) := by decide +kernel
theorem dL_passes_66 : decode cL_passes 66 = .ok (.goto (-51), 3) := by decide +kernel
theorem dL_passes_69 : decode cL_passes 69 = .ok (.iconst 0, 1) := by decide +kernel
theorem dL_passes_70 : decode cL_passes 70 = .ok (.istore 9, 2) := by decide +kernel
theorem dL_passes_72 : decode cL_passes 72 = .ok (.iload 9, 2) := by decide +kernel
theorem dL_passes_74 : decode cL_passes 74 = .ok (.iconst 2, 1) := by decide +kernel
theorem dL_passes_75 : decode cL_passes 75 = .ok (.if_icmp .ge 60, 3) := by decide +kernel
theorem dL_passes_78 : decode cL_passes 78 = .ok (.aload 6, 2) := by decide +kernel
theorem dL_passes_80 : decode cL_passes 80 = .ok (.iload 9, 2) := by decide +kernel
theorem dL_passes_82 : decode cL_passes 82 = .ok (.iaload, 1) := by decide +kernel
theorem dL_passes_83 : decode cL_passes 83 = .ok (.iconst 1, 1) := by decide +kernel
theorem dL_passes_84 : decode cL_passes 84 = .ok (.isub, 1) := by decide +kernel
theorem dL_passes_85 : decode cL_passes 85 = .ok (.istore 10, 2) := by decide +kernel
theorem dL_passes_87 : decode cL_passes 87 = .ok (.iload 10, 2) := by decide +kernel
theorem dL_passes_89 : decode cL_passes 89 = .ok (.ifCond .lt 40, 3) := by decide +kernel
theorem dL_passes_92 : decode cL_passes 92 = .ok (.aload 5, 2) := by decide +kernel
theorem dL_passes_94 : decode cL_passes 94 = .ok (.iconst 2, 1) := by decide +kernel
theorem dL_passes_95 : decode cL_passes 95 = .ok (.iload 10, 2) := by decide +kernel
theorem dL_passes_97 : decode cL_passes 97 = .ok (.imul, 1) := by decide +kernel
theorem dL_passes_98 : decode cL_passes 98 = .ok (.iaload, 1) := by decide +kernel
theorem dL_passes_99 : decode cL_passes 99 = .ok (.iload 8, 2) := by decide +kernel
theorem dL_passes_101 : decode cL_passes 101 = .ok (.iadd, 1) := by decide +kernel
theorem dL_passes_102 : decode cL_passes 102 = .ok (.aload_n 0, 1) := by decide +kernel
theorem dL_passes_103 : decode cL_passes 103 = .ok (.iconst 0, 1) := by decide +kernel
theorem dL_passes_104 : decode cL_passes 104 = .ok (.iaload, 1) := by decide +kernel
theorem dL_passes_105 : decode cL_passes 105 = .ok (.isub, 1) := by decide +kernel
theorem dL_passes_106 : decode cL_passes 106 = .ok (.istore 11, 2) := by decide +kernel
theorem dL_passes_108 : decode cL_passes 108 = .ok (.aload 5, 2) := by decide +kernel
theorem dL_passes_110 : decode cL_passes 110 = .ok (.iconst 2, 1) := by decide +kernel
theorem dL_passes_111 : decode cL_passes 111 = .ok (.iload 10, 2) := by decide +kernel
theorem dL_passes_113 : decode cL_passes 113 = .ok (.imul, 1) := by decide +kernel
theorem dL_passes_114 : decode cL_passes 114 = .ok (.iload 11, 2) := by decide +kernel
theorem dL_passes_116 : decode cL_passes 116 = .ok (.bipush 100, 2) := by decide +kernel
theorem dL_passes_118 : decode cL_passes 118 = .ok (.if_icmp .le 8, 3) := by decide +kernel
theorem dL_passes_121 : decode cL_passes 121 = .ok (.bipush 100, 2) := by decide +kernel
theorem dL_passes_123 : decode cL_passes 123 = .ok (.goto 5, 3) := by decide +kernel
theorem dL_passes_126 : decode cL_passes 126 = .ok (.iload 11, 2) := by decide +kernel
theorem dL_passes_128 : decode cL_passes 128 = .ok (.iastore, 1) := by decide +kernel
theorem dL_passes_129 : decode cL_passes 129 = .ok (.iinc 9 1, 3) := by decide +kernel
theorem dL_passes_132 : decode cL_passes 132 = .ok (.goto (-60), 3) := by decide +kernel
theorem dL_passes_135 : decode cL_passes 135 = .ok (.aload_n 0, 1) := by decide +kernel
theorem dL_passes_136 : decode cL_passes 136 = .ok (.iconst 0, 1) := by decide +kernel
theorem dL_passes_137 : decode cL_passes 137 = .ok (.iload 8, 2) := by decide +kernel
theorem dL_passes_139 : decode cL_passes 139 = .ok (.iastore, 1) := by decide +kernel
theorem dL_passes_140 : decode cL_passes 140 = .ok (.iconst 0, 1) := by decide +kernel
theorem dL_passes_141 : decode cL_passes 141 = .ok (.istore 9, 2) := by decide +kernel
theorem dL_passes_143 : decode cL_passes 143 = .ok (.iload 9, 2) := by decide +kernel
theorem dL_passes_145 : decode cL_passes 145 = .ok (.aload_n 0, 1) := by decide +kernel
theorem dL_passes_146 : decode cL_passes 146 = .ok (.iconst 1, 1) := by decide +kernel
theorem dL_passes_147 : decode cL_passes 147 = .ok (.iaload, 1) := by decide +kernel
theorem dL_passes_148 : decode cL_passes 148 = .ok (.if_icmp .ge 42, 3) := by decide +kernel
theorem dL_passes_151 : decode cL_passes 151 = .ok (.aload_n 2, 1) := by decide +kernel
theorem dL_passes_152 : decode cL_passes 152 = .ok (.iload 9, 2) := by decide +kernel
theorem dL_passes_154 : decode cL_passes 154 = .ok (.aload_n 2, 1) := by decide +kernel
theorem dL_passes_155 : decode cL_passes 155 = .ok (.iload 9, 2) := by decide +kernel
theorem dL_passes_157 : decode cL_passes 157 = .ok (.iaload, 1) := by decide +kernel
theorem dL_passes_158 : decode cL_passes 158 = .ok (.iconst 2, 1) := by decide +kernel
theorem dL_passes_159 : decode cL_passes 159 = .ok (.if_icmp .ne 20, 3) := by decide +kernel
theorem dL_passes_162 : decode cL_passes 162 = .ok (.aload_n 1, 1) := by decide +kernel
theorem dL_passes_163 : decode cL_passes 163 = .ok (.iconst 3, 1) := by decide +kernel
theorem dL_passes_164 : decode cL_passes 164 = .ok (.iload 9, 2) := by decide +kernel
theorem dL_passes_166 : decode cL_passes 166 = .ok (.imul, 1) := by decide +kernel
theorem dL_passes_167 : decode cL_passes 167 = .ok (.iconst 1, 1) := by decide +kernel
theorem dL_passes_168 : decode cL_passes 168 = .ok (.iadd, 1) := by decide +kernel
theorem dL_passes_169 : decode cL_passes 169 = .ok (.iaload, 1) := by decide +kernel
theorem dL_passes_170 : decode cL_passes 170 = .ok (.iload 8, 2) := by decide +kernel
theorem dL_passes_172 : decode cL_passes 172 = .ok (.if_icmp .ne 7, 3) := by decide +kernel
theorem dL_passes_175 : decode cL_passes 175 = .ok (.iconst 3, 1) := by decide +kernel
theorem dL_passes_176 : decode cL_passes 176 = .ok (.goto 7, 3) := by decide +kernel
theorem dL_passes_179 : decode cL_passes 179 = .ok (.aload_n 2, 1) := by decide +kernel
theorem dL_passes_180 : decode cL_passes 180 = .ok (.iload 9, 2) := by decide +kernel
theorem dL_passes_182 : decode cL_passes 182 = .ok (.iaload, 1) := by decide +kernel
theorem dL_passes_183 : decode cL_passes 183 = .ok (.iastore, 1) := by decide +kernel
theorem dL_passes_184 : decode cL_passes 184 = .ok (.iinc 9 1, 3) := by decide +kernel
theorem dL_passes_187 : decode cL_passes 187 = .ok (.goto (-44), 3) := by decide +kernel
theorem dL_passes_190 : decode cL_passes 190 = .ok (.iconst 0, 1) := by decide +kernel
theorem dL_passes_191 : decode cL_passes 191 = .ok (.istore 9, 2) := by decide +kernel
theorem dL_passes_193 : decode cL_passes 193 = .ok (.iload 9, 2) := by decide +kernel
theorem dL_passes_195 : decode cL_passes 195 = .ok (.aload_n 0, 1) := by decide +kernel
theorem dL_passes_196 : decode cL_passes 196 = .ok (.iconst 1, 1) := by decide +kernel
theorem dL_passes_197 : decode cL_passes 197 = .ok (.iaload, 1) := by decide +kernel
theorem dL_passes_198 : decode cL_passes 198 = .ok (.if_icmp .ge 94, 3) := by decide +kernel
theorem dL_passes_201 : decode cL_passes 201 = .ok (.aload_n 1, 1) := by decide +kernel
theorem dL_passes_202 : decode cL_passes 202 = .ok (.iconst 3, 1) := by decide +kernel
theorem dL_passes_203 : decode cL_passes 203 = .ok (.iload 9, 2) := by decide +kernel
theorem dL_passes_205 : decode cL_passes 205 = .ok (.imul, 1) := by decide +kernel
theorem dL_passes_206 : decode cL_passes 206 = .ok (.iaload, 1) := by decide +kernel
theorem dL_passes_207 : decode cL_passes 207 = .ok (.iload 8, 2) := by decide +kernel
theorem dL_passes_209 : decode cL_passes 209 = .ok (.if_icmp .ne 49, 3) := by decide +kernel
theorem dL_passes_212 : decode cL_passes 212 = .ok (.aload_n 2, 1) := by decide +kernel
theorem dL_passes_213 : decode cL_passes 213 = .ok (.iload 9, 2) := by decide +kernel
theorem dL_passes_215 : decode cL_passes 215 = .ok (.iaload, 1) := by decide +kernel
theorem dL_passes_216 : decode cL_passes 216 = .ok (.iconst 1, 1) := by decide +kernel
theorem dL_passes_217 : decode cL_passes 217 = .ok (.if_icmp .ne 41, 3) := by decide +kernel
theorem dL_passes_220 : decode cL_passes 220 = .ok (.aload_n 2, 1) := by decide +kernel
theorem dL_passes_221 : decode cL_passes 221 = .ok (.iload 9, 2) := by decide +kernel
theorem dL_passes_223 : decode cL_passes 223 = .ok (.iconst 2, 1) := by decide +kernel
theorem dL_passes_224 : decode cL_passes 224 = .ok (.iastore, 1) := by decide +kernel
theorem dL_passes_225 : decode cL_passes 225 = .ok (.aload 5, 2) := by decide +kernel
theorem dL_passes_227 : decode cL_passes 227 = .ok (.iconst 2, 1) := by decide +kernel
theorem dL_passes_228 : decode cL_passes 228 = .ok (.aload_n 3, 1) := by decide +kernel
theorem dL_passes_229 : decode cL_passes 229 = .ok (.iload 9, 2) := by decide +kernel
theorem dL_passes_231 : decode cL_passes 231 = .ok (.iaload, 1) := by decide +kernel
theorem dL_passes_232 : decode cL_passes 232 = .ok (.imul, 1) := by decide +kernel
theorem dL_passes_233 : decode cL_passes 233 = .ok (.iconst 2, 1) := by decide +kernel
theorem dL_passes_234 : decode cL_passes 234 = .ok (.isub, 1) := by decide +kernel
theorem dL_passes_235 : decode cL_passes 235 = .ok (.dup2, 1) := by decide +kernel
theorem dL_passes_236 : decode cL_passes 236 = .ok (.iaload, 1) := by decide +kernel
theorem dL_passes_237 : decode cL_passes 237 = .ok (.aload_n 1, 1) := by decide +kernel
theorem dL_passes_238 : decode cL_passes 238 = .ok (.iconst 3, 1) := by decide +kernel
theorem dL_passes_239 : decode cL_passes 239 = .ok (.iload 9, 2) := by decide +kernel
theorem dL_passes_241 : decode cL_passes 241 = .ok (.imul, 1) := by decide +kernel
theorem dL_passes_242 : decode cL_passes 242 = .ok (.iconst 2, 1) := by decide +kernel
theorem dL_passes_243 : decode cL_passes 243 = .ok (.iadd, 1) := by decide +kernel
theorem dL_passes_244 : decode cL_passes 244 = .ok (.iaload, 1) := by decide +kernel
theorem dL_passes_245 : decode cL_passes 245 = .ok (.isub, 1) := by decide +kernel
theorem dL_passes_246 : decode cL_passes 246 = .ok (.iastore, 1) := by decide +kernel
theorem dL_passes_247 : decode cL_passes 247 = .ok (.aload 6, 2) := by decide +kernel
theorem dL_passes_249 : decode cL_passes 249 = .ok (.aload_n 3, 1) := by decide +kernel
theorem dL_passes_250 : decode cL_passes 250 = .ok (.iload 9, 2) := by decide +kernel
theorem dL_passes_252 : decode cL_passes 252 = .ok (.iaload, 1) := by decide +kernel
theorem dL_passes_253 : decode cL_passes 253 = .ok (.iconst 1, 1) := by decide +kernel
theorem dL_passes_254 : decode cL_passes 254 = .ok (.isub, 1) := by decide +kernel
theorem dL_passes_255 : decode cL_passes 255 = .ok (.invokestatic 17, 3) := by decide +kernel
theorem dL_passes_258 : decode cL_passes 258 = .ok (.aload_n 1, 1) := by decide +kernel
theorem dL_passes_259 : decode cL_passes 259 = .ok (.iconst 3, 1) := by decide +kernel
theorem dL_passes_260 : decode cL_passes 260 = .ok (.iload 9, 2) := by decide +kernel
theorem dL_passes_262 : decode cL_passes 262 = .ok (.imul, 1) := by decide +kernel
theorem dL_passes_263 : decode cL_passes 263 = .ok (.iaload, 1) := by decide +kernel
theorem dL_passes_264 : decode cL_passes 264 = .ok (.iload 8, 2) := by decide +kernel
theorem dL_passes_266 : decode cL_passes 266 = .ok (.if_icmp .ne 20, 3) := by decide +kernel
theorem dL_passes_269 : decode cL_passes 269 = .ok (.aload_n 2, 1) := by decide +kernel
theorem dL_passes_270 : decode cL_passes 270 = .ok (.iload 9, 2) := by decide +kernel
theorem dL_passes_272 : decode cL_passes 272 = .ok (.iaload, 1) := by decide +kernel
theorem dL_passes_273 : decode cL_passes 273 = .ok (.ifCond .ne 13, 3) := by decide +kernel
theorem dL_passes_276 : decode cL_passes 276 = .ok (.aload_n 2, 1) := by decide +kernel
theorem dL_passes_277 : decode cL_passes 277 = .ok (.aload_n 3, 1) := by decide +kernel
theorem dL_passes_278 : decode cL_passes 278 = .ok (.aload 4, 2) := by decide +kernel
theorem dL_passes_280 : decode cL_passes 280 = .ok (.iload 9, 2) := by decide +kernel
theorem dL_passes_282 : decode cL_passes 282 = .ok (.iconst 4, 1) := by decide +kernel
theorem dL_passes_283 : decode cL_passes 283 = .ok (.invokestatic 21, 3) := by decide +kernel
theorem dL_passes_286 : decode cL_passes 286 = .ok (.iinc 9 1, 3) := by decide +kernel
theorem dL_passes_289 : decode cL_passes 289 = .ok (.goto (-96), 3) := by decide +kernel
theorem dL_passes_292 : decode cL_passes 292 = .ok (.goto (-292), 3) := by decide +kernel
theorem dL_passes_295 : decode cL_passes 295 = .ok (.return_, 1) := by decide +kernel
set_option maxRecDepth 20000 in
theorem ggL_does_X1_run : GoodIn wsL_does wsX1_run := goodIn_ca (goodIn_ca (goodIn_r _ [8, 9, 10, 11, 12, 13, 14, 15, 7, 16, 17, 18, 19, 20, 21, 22, 23, 24, 25, 26, 154, 155, 156, 157, 158, 159, 160, 161, 162, 163, 164, 165, 166, 167, 168, 169, 170, 171] (by decide +kernel) (by decide +kernel)) (goodIn_sub (fun _ h => List.mem_cons_of_mem _ (List.mem_append_left _ (List.mem_append_left _ (List.mem_append_right _ h)))) (by decide +kernel))) (goodIn_sub (fun _ h => List.mem_cons_of_mem _ (List.mem_append_left _ (List.mem_append_right _ h))) (by decide +kernel))
set_option maxRecDepth 20000 in
theorem gL_does_X1_run : GoodIn wsL_does (wsV RL 32 RX1 yX1_run wsX1_run) := goodIn_app (goodIn_of _ (by decide +kernel)) ggL_does_X1_run
set_option maxRecDepth 20000 in
theorem ggL_does_X1_order : GoodIn wsL_does wsX1_order := goodIn_ca (goodIn_ca (goodIn_ca (goodIn_r _ [30, 9, 10, 12, 31, 13, 32, 33, 7, 34, 35, 36, 14, 15, 16, 17, 18, 37, 38, 39, 40, 11, 41, 42, 43, 44, 45, 46, 47, 48, 49, 50, 51, 52, 53, 54, 55, 56, 57, 58, 59, 60, 61, 62, 63, 22, 64, 65, 66, 67, 68, 69, 70, 24, 25, 71, 72, 73, 74, 75, 76, 77, 78, 79, 80, 81, 82, 83, 84, 85, 86, 87, 88, 89, 90, 91, 92, 93, 94, 95, 96, 97, 98, 99, 100, 101, 102, 103, 104, 105, 106, 107, 154, 155, 156, 157, 158, 159, 160, 161, 162, 163, 164, 165, 166, 167, 168, 169, 170, 171] (by decide +kernel) (by decide +kernel)) (goodIn_sub (fun _ h => List.mem_cons_of_mem _ (List.mem_append_left _ (List.mem_append_left _ (List.mem_append_right _ h)))) (by decide +kernel))) (goodIn_sub (fun _ h => List.mem_cons_of_mem _ (List.mem_append_right _ h)) (by decide +kernel))) (goodIn_sub (fun _ h => List.mem_cons_of_mem _ (List.mem_append_left _ (List.mem_append_right _ h))) (by decide +kernel))
set_option maxRecDepth 20000 in
theorem gL_does_X1_order : GoodIn wsL_does (wsV RL 38 RX1 yX1_order wsX1_order) := goodIn_app (goodIn_of _ (by decide +kernel)) ggL_does_X1_order
set_option maxRecDepth 20000 in
theorem ggL_does_X1_plug : GoodIn wsL_does wsX1_plug := goodIn_ca (goodIn_ca (goodIn_r _ [111, 9, 10, 112, 32, 33, 7, 34, 35, 36, 113, 114, 115, 116, 12, 13, 47, 60, 117, 118, 119, 120, 154, 155, 156, 157, 158, 159, 160, 161, 162, 163, 164, 165, 166, 167, 168, 169, 170, 171] (by decide +kernel) (by decide +kernel)) (goodIn_sub (fun _ h => List.mem_cons_of_mem _ (List.mem_append_left _ (List.mem_append_left _ (List.mem_append_right _ h)))) (by decide +kernel))) (goodIn_sub (fun _ h => List.mem_cons_of_mem _ (List.mem_append_right _ h)) (by decide +kernel))
set_option maxRecDepth 20000 in
theorem gL_does_X1_plug : GoodIn wsL_does (wsV RL 42 RX1 yX1_plug wsX1_plug) := goodIn_app (goodIn_of _ (by decide +kernel)) ggL_does_X1_plug
set_option maxRecDepth 20000 in
theorem ggL_does_X1_advance : GoodIn wsL_does wsX1_advance := goodIn_ca (goodIn_ca (goodIn_r _ [124, 9, 10, 11, 14, 15, 7, 16, 17, 18, 125, 126, 127, 128, 129, 130, 131, 132, 112, 54, 133, 134, 135, 136, 12, 13, 47, 137, 138, 139, 140, 141, 48, 142, 143, 144, 145, 60, 55, 146, 147, 148, 149, 117, 118, 119, 120, 150, 151, 152, 22, 153, 66, 65, 88, 154, 155, 156, 157, 158, 159, 160, 161, 162, 163, 164, 165, 166, 167, 168, 169, 170, 171] (by decide +kernel) (by decide +kernel)) (goodIn_sub (fun _ h => List.mem_cons_of_mem _ (List.mem_append_left _ (List.mem_append_left _ (List.mem_append_right _ h)))) (by decide +kernel))) (goodIn_sub (fun _ h => List.mem_cons_of_mem _ (List.mem_append_left _ (List.mem_append_right _ h))) (by decide +kernel))
set_option maxRecDepth 20000 in
theorem gL_does_X1_advance : GoodIn wsL_does (wsV RL 46 RX1 yX1_advance wsX1_advance) := goodIn_app (goodIn_of _ (by decide +kernel)) ggL_does_X1_advance
theorem dL_does_0 : decode cL_does 0 = .ok (.iload_n 1, 1) := by decide +kernel
theorem dL_does_1 : decode cL_does 1 = .ok (.ifCond .ne 14, 3) := by decide +kernel
theorem dL_does_4 : decode cL_does 4 = .ok (.aload_n 0, 1) := by decide +kernel
theorem dL_does_5 : decode cL_does 5 = .ok (.iload_n 2, 1) := by decide +kernel
theorem dL_does_6 : decode cL_does 6 = .ok (.iload_n 3, 1) := by decide +kernel
theorem dL_does_7 : decode cL_does 7 = .ok (.iload 4, 2) := by decide +kernel
theorem dL_does_9 : decode cL_does 9 = .ok (.invokevirtual 32, 3) := by decide +kernel
theorem dL_does_12 : decode cL_does 12 = .ok (.goto 42, 3) := by decide +kernel
theorem dL_does_15 : decode cL_does 15 = .ok (.iload_n 1, 1) := by decide +kernel
theorem dL_does_16 : decode cL_does 16 = .ok (.iconst 1, 1) := by decide +kernel
theorem dL_does_17 : decode cL_does 17 = .ok (.if_icmp .ne 18, 3) := by decide +kernel
theorem dL_does_20 : decode cL_does 20 = .ok (.aload_n 0, 1) := by decide +kernel
theorem dL_does_21 : decode cL_does 21 = .ok (.iload_n 2, 1) := by decide +kernel
theorem dL_does_22 : decode cL_does 22 = .ok (.iload_n 3, 1) := by decide +kernel
theorem dL_does_23 : decode cL_does 23 = .ok (.iload 4, 2) := by decide +kernel
theorem dL_does_25 : decode cL_does 25 = .ok (.iload 5, 2) := by decide +kernel
theorem dL_does_27 : decode cL_does 27 = .ok (.iload 6, 2) := by decide +kernel
theorem dL_does_29 : decode cL_does 29 = .ok (.invokevirtual 38, 3) := by decide +kernel
theorem dL_does_32 : decode cL_does 32 = .ok (.goto 22, 3) := by decide +kernel
theorem dL_does_35 : decode cL_does 35 = .ok (.iload_n 1, 1) := by decide +kernel
theorem dL_does_36 : decode cL_does 36 = .ok (.iconst 2, 1) := by decide +kernel
theorem dL_does_37 : decode cL_does 37 = .ok (.if_icmp .ne 12, 3) := by decide +kernel
theorem dL_does_40 : decode cL_does 40 = .ok (.aload_n 0, 1) := by decide +kernel
theorem dL_does_41 : decode cL_does 41 = .ok (.iload_n 2, 1) := by decide +kernel
theorem dL_does_42 : decode cL_does 42 = .ok (.iload_n 3, 1) := by decide +kernel
theorem dL_does_43 : decode cL_does 43 = .ok (.invokevirtual 42, 3) := by decide +kernel
theorem dL_does_46 : decode cL_does 46 = .ok (.goto 8, 3) := by decide +kernel
theorem dL_does_49 : decode cL_does 49 = .ok (.aload_n 0, 1) := by decide +kernel
theorem dL_does_50 : decode cL_does 50 = .ok (.iload_n 2, 1) := by decide +kernel
theorem dL_does_51 : decode cL_does 51 = .ok (.invokevirtual 46, 3) := by decide +kernel
theorem dL_does_54 : decode cL_does 54 = .ok (.ireturn, 1) := by decide +kernel
theorem dL_does_55 : decode cL_does 55 = .ok (.astore 7, 2) := by decide +kernel
theorem dL_does_57 : decode cL_does 57 = .ok (.bipush (-11), 2) := by decide +kernel
theorem dL_does_59 : decode cL_does 59 = .ok (.ireturn, 1) := by decide +kernel
theorem dL_does_60 : decode cL_does 60 = .ok (.astore 7, 2) := by decide +kernel
theorem dL_does_62 : decode cL_does 62 = .ok (.bipush (-12), 2) := by decide +kernel
theorem dL_does_64 : decode cL_does 64 = .ok (.ireturn, 1) := by decide +kernel
theorem dL_does_65 : decode cL_does 65 = .ok (.astore 7, 2) := by decide +kernel
theorem dL_does_67 : decode cL_does 67 = .ok (.bipush (-13), 2) := by decide +kernel
theorem dL_does_69 : decode cL_does 69 = .ok (.ireturn, 1) := by decide +kernel
set_option maxRecDepth 20000 in
theorem ggL_isDepot_X1_minute : GoodIn wsL_isDepot wsX1_minute := goodIn_r _ [5, 6, 97, 98, 99, 100, 101, 102, 103, 104, 105, 106, 107, 108] (by decide +kernel) (by decide +kernel)
set_option maxRecDepth 20000 in
theorem gL_isDepot_X1_minute : GoodIn wsL_isDepot (wsV RL 56 RX1 yX1_minute wsX1_minute) := goodIn_app (goodIn_of _ (by decide +kernel)) ggL_isDepot_X1_minute
set_option maxRecDepth 20000 in
theorem ggL_isDepot_X1_leader : GoodIn wsL_isDepot wsX1_leader := goodIn_r _ [10, 6, 11, 12, 97, 98, 99, 100, 101, 102, 103, 104, 105, 106, 107, 108] (by decide +kernel) (by decide +kernel)
set_option maxRecDepth 20000 in
theorem gL_isDepot_X1_leader : GoodIn wsL_isDepot (wsV RL 60 RX1 yX1_leader wsX1_leader) := goodIn_app (goodIn_of _ (by decide +kernel)) ggL_isDepot_X1_leader
set_option maxRecDepth 20000 in
theorem ggL_isDepot_L_leader : GoodIn wsL_isDepot wsL_leader := goodIn_r _ [16] (by decide +kernel) (by decide +kernel)
set_option maxRecDepth 20000 in
theorem gL_isDepot_L_leader : GoodIn wsL_isDepot (va_wsS RL 63 yL_leader wsL_leader) := goodIn_app (goodIn_of _ (by decide +kernel)) ggL_isDepot_L_leader
set_option maxRecDepth 20000 in
theorem ggL_isDepot_X1_runs : GoodIn wsL_isDepot wsX1_runs := goodIn_r _ [20, 21, 97, 98, 99, 100, 101, 102, 103, 104, 105, 106, 107, 108] (by decide +kernel) (by decide +kernel)
set_option maxRecDepth 20000 in
theorem gL_isDepot_X1_runs : GoodIn wsL_isDepot (wsV RL 66 RX1 yX1_runs wsX1_runs) := goodIn_app (goodIn_of _ (by decide +kernel)) ggL_isDepot_X1_runs
set_option maxRecDepth 20000 in
theorem ggL_isDepot_X1_orders : GoodIn wsL_isDepot wsX1_orders := goodIn_r _ [25, 26, 97, 98, 99, 100, 101, 102, 103, 104, 105, 106, 107, 108] (by decide +kernel) (by decide +kernel)
set_option maxRecDepth 20000 in
theorem gL_isDepot_X1_orders : GoodIn wsL_isDepot (wsV RL 69 RX1 yX1_orders wsX1_orders) := goodIn_app (goodIn_of _ (by decide +kernel)) ggL_isDepot_X1_orders
set_option maxRecDepth 20000 in
theorem ggL_isDepot_X1_stateOf : GoodIn wsL_isDepot wsX1_stateOf := goodIn_ca (goodIn_r _ [30, 21, 31, 32, 33, 34, 4, 35, 36, 37, 97, 98, 99, 100, 101, 102, 103, 104, 105, 106, 107, 108, 109, 110, 111, 112, 113, 114] (by decide +kernel) (by decide +kernel)) (goodIn_sub (fun _ h => List.mem_cons_of_mem _ (List.mem_append_right _ h)) (by decide +kernel))
set_option maxRecDepth 20000 in
theorem gL_isDepot_X1_stateOf : GoodIn wsL_isDepot (wsV RL 72 RX1 yX1_stateOf wsX1_stateOf) := goodIn_app (goodIn_of _ (by decide +kernel)) ggL_isDepot_X1_stateOf
set_option maxRecDepth 20000 in
theorem ggL_isDepot_X1_busOf : GoodIn wsL_isDepot wsX1_busOf := goodIn_ca (goodIn_r _ [41, 21, 31, 42, 33, 34, 4, 35, 36, 37, 97, 98, 99, 100, 101, 102, 103, 104, 105, 106, 107, 108, 109, 110, 111, 112, 113, 114] (by decide +kernel) (by decide +kernel)) (goodIn_sub (fun _ h => List.mem_cons_of_mem _ (List.mem_append_right _ h)) (by decide +kernel))
set_option maxRecDepth 20000 in
theorem gL_isDepot_X1_busOf : GoodIn wsL_isDepot (wsV RL 75 RX1 yX1_busOf wsX1_busOf) := goodIn_app (goodIn_of _ (by decide +kernel)) ggL_isDepot_X1_busOf
set_option maxRecDepth 20000 in
theorem ggL_isDepot_X1_driverOf : GoodIn wsL_isDepot wsX1_driverOf := goodIn_ca (goodIn_r _ [46, 21, 31, 47, 33, 34, 4, 35, 36, 37, 97, 98, 99, 100, 101, 102, 103, 104, 105, 106, 107, 108, 109, 110, 111, 112, 113, 114] (by decide +kernel) (by decide +kernel)) (goodIn_sub (fun _ h => List.mem_cons_of_mem _ (List.mem_append_right _ h)) (by decide +kernel))
set_option maxRecDepth 20000 in
theorem gL_isDepot_X1_driverOf : GoodIn wsL_isDepot (wsV RL 78 RX1 yX1_driverOf wsX1_driverOf) := goodIn_app (goodIn_of _ (by decide +kernel)) ggL_isDepot_X1_driverOf
set_option maxRecDepth 20000 in
theorem ggL_isDepot_X1_charge : GoodIn wsL_isDepot wsX1_charge := goodIn_ca (goodIn_r _ [51, 52, 33, 34, 4, 35, 36, 37, 97, 98, 99, 100, 101, 102, 103, 104, 105, 106, 107, 108] (by decide +kernel) (by decide +kernel)) (goodIn_sub (fun _ h => List.mem_cons_of_mem _ (List.mem_append_right _ h)) (by decide +kernel))
set_option maxRecDepth 20000 in
theorem gL_isDepot_X1_charge : GoodIn wsL_isDepot (wsV RL 81 RX1 yX1_charge wsX1_charge) := goodIn_app (goodIn_of _ (by decide +kernel)) ggL_isDepot_X1_charge
set_option maxRecDepth 20000 in
theorem ggL_isDepot_X1_promised : GoodIn wsL_isDepot wsX1_promised := goodIn_ca (goodIn_r _ [56, 33, 34, 4, 35, 36, 37, 57, 58, 59, 60, 21, 31, 42, 32, 61, 97, 98, 99, 100, 101, 102, 103, 104, 105, 106, 107, 108, 109, 110, 111, 112, 113, 114] (by decide +kernel) (by decide +kernel)) (goodIn_sub (fun _ h => List.mem_cons_of_mem _ (List.mem_append_right _ h)) (by decide +kernel))
set_option maxRecDepth 20000 in
theorem gL_isDepot_X1_promised : GoodIn wsL_isDepot (wsV RL 84 RX1 yX1_promised wsX1_promised) := goodIn_app (goodIn_of _ (by decide +kernel)) ggL_isDepot_X1_promised
set_option maxRecDepth 20000 in
theorem ggL_isDepot_L_promised : GoodIn wsL_isDepot wsL_promised := goodIn_r _ [64] (by decide +kernel) (by decide +kernel)
set_option maxRecDepth 20000 in
theorem gL_isDepot_L_promised : GoodIn wsL_isDepot (va_wsS RL 7 yL_promised wsL_promised) := goodIn_app (goodIn_of _ (by decide +kernel)) ggL_isDepot_L_promised
set_option maxRecDepth 20000 in
theorem ggL_isDepot_X1_minutesOf : GoodIn wsL_isDepot wsX1_minutesOf := goodIn_ca (goodIn_r _ [68, 33, 34, 4, 35, 36, 37, 69, 70, 71, 72, 21, 31, 73, 74, 75, 76, 77, 78, 79, 80, 81, 82, 83, 84, 85, 86, 87, 88, 97, 98, 99, 100, 101, 102, 103, 104, 105, 106, 107, 108, 109, 110, 111, 112, 113, 114] (by decide +kernel) (by decide +kernel)) (goodIn_sub (fun _ h => List.mem_cons_of_mem _ (List.mem_append_right _ h)) (by decide +kernel))
set_option maxRecDepth 20000 in
theorem gL_isDepot_X1_minutesOf : GoodIn wsL_isDepot (wsV RL 86 RX1 yX1_minutesOf wsX1_minutesOf) := goodIn_app (goodIn_of _ (by decide +kernel)) ggL_isDepot_X1_minutesOf
set_option maxRecDepth 20000 in
theorem ggL_isDepot_L_minutes : GoodIn wsL_isDepot wsL_minutes := goodIn_r _ [91] (by decide +kernel) (by decide +kernel)
set_option maxRecDepth 20000 in
theorem gL_isDepot_L_minutes : GoodIn wsL_isDepot (va_wsS RL 13 yL_minutes wsL_minutes) := goodIn_app (goodIn_of _ (by decide +kernel)) ggL_isDepot_L_minutes
set_option maxRecDepth 20000 in
theorem ggL_isDepot_X1_orderAt : GoodIn wsL_isDepot wsX1_orderAt := goodIn_ca (goodIn_r _ [95, 26, 96, 33, 34, 4, 35, 36, 37, 97, 98, 99, 100, 101, 102, 103, 104, 105, 106, 107, 108] (by decide +kernel) (by decide +kernel)) (goodIn_sub (fun _ h => List.mem_cons_of_mem _ (List.mem_append_right _ h)) (by decide +kernel))
set_option maxRecDepth 20000 in
theorem gL_isDepot_X1_orderAt : GoodIn wsL_isDepot (wsV RL 89 RX1 yX1_orderAt wsX1_orderAt) := goodIn_app (goodIn_of _ (by decide +kernel)) ggL_isDepot_X1_orderAt
theorem dL_isDepot_0 : decode cL_isDepot 0 = .ok (.aload_n 0, 1) := by decide +kernel
theorem dL_isDepot_1 : decode cL_isDepot 1 = .ok (.invokevirtual 56, 3) := by decide +kernel
theorem dL_isDepot_4 : decode cL_isDepot 4 = .ok (.aload_n 1, 1) := by decide +kernel
theorem dL_isDepot_5 : decode cL_isDepot 5 = .ok (.iconst 0, 1) := by decide +kernel
theorem dL_isDepot_6 : decode cL_isDepot 6 = .ok (.iaload, 1) := by decide +kernel
theorem dL_isDepot_7 : decode cL_isDepot 7 = .ok (.if_icmp .ne 38, 3) := by decide +kernel
theorem dL_isDepot_10 : decode cL_isDepot 10 = .ok (.aload_n 0, 1) := by decide +kernel
theorem dL_isDepot_11 : decode cL_isDepot 11 = .ok (.invokevirtual 60, 3) := by decide +kernel
theorem dL_isDepot_14 : decode cL_isDepot 14 = .ok (.aload_n 1, 1) := by decide +kernel
theorem dL_isDepot_15 : decode cL_isDepot 15 = .ok (.invokestatic 63, 3) := by decide +kernel
theorem dL_isDepot_18 : decode cL_isDepot 18 = .ok (.if_icmp .ne 27, 3) := by decide +kernel
theorem dL_isDepot_21 : decode cL_isDepot 21 = .ok (.aload_n 0, 1) := by decide +kernel
theorem dL_isDepot_22 : decode cL_isDepot 22 = .ok (.invokevirtual 66, 3) := by decide +kernel
theorem dL_isDepot_25 : decode cL_isDepot 25 = .ok (.aload_n 1, 1) := by decide +kernel
theorem dL_isDepot_26 : decode cL_isDepot 26 = .ok (.iconst 1, 1) := by decide +kernel
theorem dL_isDepot_27 : decode cL_isDepot 27 = .ok (.iaload, 1) := by decide +kernel
theorem dL_isDepot_28 : decode cL_isDepot 28 = .ok (.if_icmp .ne 17, 3) := by decide +kernel
theorem dL_isDepot_31 : decode cL_isDepot 31 = .ok (.aload_n 0, 1) := by decide +kernel
theorem dL_isDepot_32 : decode cL_isDepot 32 = .ok (.invokevirtual 69, 3) := by decide +kernel
theorem dL_isDepot_35 : decode cL_isDepot 35 = .ok (.aload_n 1, 1) := by decide +kernel
theorem dL_isDepot_36 : decode cL_isDepot 36 = .ok (.iconst 2, 1) := by decide +kernel
theorem dL_isDepot_37 : decode cL_isDepot 37 = .ok (.iaload, 1) := by decide +kernel
theorem dL_isDepot_38 : decode cL_isDepot 38 = .ok (.if_icmp .ne 7, 3) := by decide +kernel
theorem dL_isDepot_41 : decode cL_isDepot 41 = .ok (.iconst 1, 1) := by decide +kernel
theorem dL_isDepot_42 : decode cL_isDepot 42 = .ok (.goto 4, 3) := by decide +kernel
theorem dL_isDepot_45 : decode cL_isDepot 45 = .ok (.iconst 0, 1) := by decide +kernel
theorem dL_isDepot_46 : decode cL_isDepot 46 = .ok (.istore 9, 2) := by decide +kernel
theorem dL_isDepot_48 : decode cL_isDepot 48 = .ok (.iconst 0, 1) := by decide +kernel
theorem dL_isDepot_49 : decode cL_isDepot 49 = .ok (.istore 10, 2) := by decide +kernel
theorem dL_isDepot_51 : decode cL_isDepot 51 = .ok (.iload 10, 2) := by decide +kernel
theorem dL_isDepot_53 : decode cL_isDepot 53 = .ok (.aload_n 1, 1) := by decide +kernel
theorem dL_isDepot_54 : decode cL_isDepot 54 = .ok (.iconst 1, 1) := by decide +kernel
theorem dL_isDepot_55 : decode cL_isDepot 55 = .ok (.iaload, 1) := by decide +kernel
theorem dL_isDepot_56 : decode cL_isDepot 56 = .ok (.if_icmp .ge 66, 3) := by decide +kernel
theorem dL_isDepot_59 : decode cL_isDepot 59 = .ok (.iload 9, 2) := by decide +kernel
theorem dL_isDepot_61 : decode cL_isDepot 61 = .ok (.ifCond .eq 61, 3) := by decide +kernel
theorem dL_isDepot_64 : decode cL_isDepot 64 = .ok (.aload_n 0, 1) := by decide +kernel
theorem dL_isDepot_65 : decode cL_isDepot 65 = .ok (.iload 10, 2) := by decide +kernel
theorem dL_isDepot_67 : decode cL_isDepot 67 = .ok (.invokevirtual 72, 3) := by decide +kernel
theorem dL_isDepot_70 : decode cL_isDepot 70 = .ok (.aload_n 3, 1) := by decide +kernel
theorem dL_isDepot_71 : decode cL_isDepot 71 = .ok (.iload 10, 2) := by decide +kernel
theorem dL_isDepot_73 : decode cL_isDepot 73 = .ok (.iaload, 1) := by decide +kernel
theorem dL_isDepot_74 : decode cL_isDepot 74 = .ok (.if_icmp .ne 39, 3) := by decide +kernel
theorem dL_isDepot_77 : decode cL_isDepot 77 = .ok (.aload_n 0, 1) := by decide +kernel
theorem dL_isDepot_78 : decode cL_isDepot 78 = .ok (.iload 10, 2) := by decide +kernel
theorem dL_isDepot_80 : decode cL_isDepot 80 = .ok (.invokevirtual 75, 3) := by decide +kernel
theorem dL_isDepot_83 : decode cL_isDepot 83 = .ok (.aload 4, 2) := by decide +kernel
theorem dL_isDepot_85 : decode cL_isDepot 85 = .ok (.iload 10, 2) := by decide +kernel
theorem dL_isDepot_87 : decode cL_isDepot 87 = .ok (.iaload, 1) := by decide +kernel
theorem dL_isDepot_88 : decode cL_isDepot 88 = .ok (.iconst 1, 1) := by decide +kernel
theorem dL_isDepot_89 : decode cL_isDepot 89 = .ok (.isub, 1) := by decide +kernel
theorem dL_isDepot_90 : decode cL_isDepot 90 = .ok (.if_icmp .ne 23, 3) := by decide +kernel
theorem dL_isDepot_93 : decode cL_isDepot 93 = .ok (.aload_n 0, 1) := by decide +kernel
theorem dL_isDepot_94 : decode cL_isDepot 94 = .ok (.iload 10, 2) := by decide +kernel
theorem dL_isDepot_96 : decode cL_isDepot 96 = .ok (.invokevirtual 78, 3) := by decide +kernel
theorem dL_isDepot_99 : decode cL_isDepot 99 = .ok (.aload 5, 2) := by decide +kernel
theorem dL_isDepot_101 : decode cL_isDepot 101 = .ok (.iload 10, 2) := by decide +kernel
theorem dL_isDepot_103 : decode cL_isDepot 103 = .ok (.iaload, 1) := by decide +kernel
theorem dL_isDepot_104 : decode cL_isDepot 104 = .ok (.iconst 1, 1) := by decide +kernel
theorem dL_isDepot_105 : decode cL_isDepot 105 = .ok (.isub, 1) := by decide +kernel
theorem dL_isDepot_106 : decode cL_isDepot 106 = .ok (.if_icmp .ne 7, 3) := by decide +kernel
theorem dL_isDepot_109 : decode cL_isDepot 109 = .ok (.iconst 1, 1) := by decide +kernel
theorem dL_isDepot_110 : decode cL_isDepot 110 = .ok (.goto 4, 3) := by decide +kernel
theorem dL_isDepot_113 : decode cL_isDepot 113 = .ok (.iconst 0, 1) := by decide +kernel
theorem dL_isDepot_114 : decode cL_isDepot 114 = .ok (.istore 9, 2) := by decide +kernel
theorem dL_isDepot_116 : decode cL_isDepot 116 = .ok (.iinc 10 1, 3) := by decide +kernel
theorem dL_isDepot_119 : decode cL_isDepot 119 = .ok (.goto (-68), 3) := by decide +kernel
theorem dL_isDepot_122 : decode cL_isDepot 122 = .ok (.iconst 0, 1) := by decide +kernel
theorem dL_isDepot_123 : decode cL_isDepot 123 = .ok (.istore 10, 2) := by decide +kernel
theorem dL_isDepot_125 : decode cL_isDepot 125 = .ok (.iload 10, 2) := by decide +kernel
theorem dL_isDepot_127 : decode cL_isDepot 127 = .ok (.iconst 5, 1) := by decide +kernel
theorem dL_isDepot_128 : decode cL_isDepot 128 = .ok (.if_icmp .ge 99, 3) := by decide +kernel
theorem dL_isDepot_131 : decode cL_isDepot 131 = .ok (.iload 9, 2) := by decide +kernel
theorem dL_isDepot_133 : decode cL_isDepot 133 = .ok (.ifCond .eq 94, 3) := by decide +kernel
theorem dL_isDepot_136 : decode cL_isDepot 136 = .ok (.aload_n 1, 1) := by decide +kernel
theorem dL_isDepot_137 : decode cL_isDepot 137 = .ok (.iconst 0, 1) := by decide +kernel
theorem dL_isDepot_138 : decode cL_isDepot 138 = .ok (.iaload, 1) := by decide +kernel
theorem dL_isDepot_139 : decode cL_isDepot 139 = .ok (.sipush 1440, 3) := by decide +kernel
theorem dL_isDepot_142 : decode cL_isDepot 142 = .ok (.idiv, 1) := by decide +kernel
theorem dL_isDepot_143 : decode cL_isDepot 143 = .ok (.iload 8, 2) := by decide +kernel
theorem dL_isDepot_145 : decode cL_isDepot 145 = .ok (.iload 10, 2) := by decide +kernel
theorem dL_isDepot_147 : decode cL_isDepot 147 = .ok (.iadd, 1) := by decide +kernel
theorem dL_isDepot_148 : decode cL_isDepot 148 = .ok (.iconst 3, 1) := by decide +kernel
theorem dL_isDepot_149 : decode cL_isDepot 149 = .ok (.irem, 1) := by decide +kernel
theorem dL_isDepot_150 : decode cL_isDepot 150 = .ok (.iadd, 1) := by decide +kernel
theorem dL_isDepot_151 : decode cL_isDepot 151 = .ok (.iconst 1, 1) := by decide +kernel
theorem dL_isDepot_152 : decode cL_isDepot 152 = .ok (.isub, 1) := by decide +kernel
theorem dL_isDepot_153 : decode cL_isDepot 153 = .ok (.istore 11, 2) := by decide +kernel
theorem dL_isDepot_155 : decode cL_isDepot 155 = .ok (.aload_n 0, 1) := by decide +kernel
theorem dL_isDepot_156 : decode cL_isDepot 156 = .ok (.iload 10, 2) := by decide +kernel
theorem dL_isDepot_158 : decode cL_isDepot 158 = .ok (.invokevirtual 81, 3) := by decide +kernel
theorem dL_isDepot_161 : decode cL_isDepot 161 = .ok (.aload 6, 2) := by decide +kernel
theorem dL_isDepot_163 : decode cL_isDepot 163 = .ok (.iconst 2, 1) := by decide +kernel
theorem dL_isDepot_164 : decode cL_isDepot 164 = .ok (.iload 10, 2) := by decide +kernel
theorem dL_isDepot_166 : decode cL_isDepot 166 = .ok (.imul, 1) := by decide +kernel
theorem dL_isDepot_167 : decode cL_isDepot 167 = .ok (.iaload, 1) := by decide +kernel
theorem dL_isDepot_168 : decode cL_isDepot 168 = .ok (.if_icmp .ne 50, 3) := by decide +kernel
theorem dL_isDepot_171 : decode cL_isDepot 171 = .ok (.aload_n 0, 1) := by decide +kernel
theorem dL_isDepot_172 : decode cL_isDepot 172 = .ok (.iload 10, 2) := by decide +kernel
theorem dL_isDepot_174 : decode cL_isDepot 174 = .ok (.invokevirtual 84, 3) := by decide +kernel
theorem dL_isDepot_177 : decode cL_isDepot 177 = .ok (.aload_n 1, 1) := by decide +kernel
theorem dL_isDepot_178 : decode cL_isDepot 178 = .ok (.aload_n 2, 1) := by decide +kernel
theorem dL_isDepot_179 : decode cL_isDepot 179 = .ok (.aload_n 3, 1) := by decide +kernel
theorem dL_isDepot_180 : decode cL_isDepot 180 = .ok (.aload 4, 2) := by decide +kernel
theorem dL_isDepot_182 : decode cL_isDepot 182 = .ok (.iload 10, 2) := by decide +kernel
theorem dL_isDepot_184 : decode cL_isDepot 184 = .ok (.invokestatic 7, 3) := by decide +kernel
theorem dL_isDepot_187 : decode cL_isDepot 187 = .ok (.if_icmp .ne 31, 3) := by decide +kernel
theorem dL_isDepot_190 : decode cL_isDepot 190 = .ok (.aload_n 0, 1) := by decide +kernel
theorem dL_isDepot_191 : decode cL_isDepot 191 = .ok (.iload 10, 2) := by decide +kernel
theorem dL_isDepot_193 : decode cL_isDepot 193 = .ok (.iload 11, 2) := by decide +kernel
theorem dL_isDepot_195 : decode cL_isDepot 195 = .ok (.invokevirtual 86, 3) := by decide +kernel
theorem dL_isDepot_198 : decode cL_isDepot 198 = .ok (.aload_n 1, 1) := by decide +kernel
theorem dL_isDepot_199 : decode cL_isDepot 199 = .ok (.aload_n 2, 1) := by decide +kernel
theorem dL_isDepot_200 : decode cL_isDepot 200 = .ok (.aload_n 3, 1) := by decide +kernel
theorem dL_isDepot_201 : decode cL_isDepot 201 = .ok (.aload 5, 2) := by decide +kernel
theorem dL_isDepot_203 : decode cL_isDepot 203 = .ok (.iload 10, 2) := by decide +kernel
theorem dL_isDepot_205 : decode cL_isDepot 205 = .ok (.iload 11, 2) := by decide +kernel
theorem dL_isDepot_207 : decode cL_isDepot 207 = .ok (.iconst (-1), 1) := by decide +kernel
theorem dL_isDepot_208 : decode cL_isDepot 208 = .ok (.invokestatic 13, 3) := by decide +kernel
theorem dL_isDepot_211 : decode cL_isDepot 211 = .ok (.if_icmp .ne 7, 3) := by decide +kernel
theorem dL_isDepot_214 : decode cL_isDepot 214 = .ok (.iconst 1, 1) := by decide +kernel
theorem dL_isDepot_215 : decode cL_isDepot 215 = .ok (.goto 4, 3) := by decide +kernel
theorem dL_isDepot_218 : decode cL_isDepot 218 = .ok (.iconst 0, 1) := by decide +kernel
theorem dL_isDepot_219 : decode cL_isDepot 219 = .ok (.istore 9, 2) := by decide +kernel
theorem dL_isDepot_221 : decode cL_isDepot 221 = .ok (.iinc 10 1, 3) := by decide +kernel
theorem dL_isDepot_224 : decode cL_isDepot 224 = .ok (.goto (-99), 3) := by decide +kernel
theorem dL_isDepot_227 : decode cL_isDepot 227 = .ok (.iconst 0, 1) := by decide +kernel
theorem dL_isDepot_228 : decode cL_isDepot 228 = .ok (.istore 10, 2) := by decide +kernel
theorem dL_isDepot_230 : decode cL_isDepot 230 = .ok (.iload 10, 2) := by decide +kernel
theorem dL_isDepot_232 : decode cL_isDepot 232 = .ok (.aload_n 1, 1) := by decide +kernel
theorem dL_isDepot_233 : decode cL_isDepot 233 = .ok (.iconst 2, 1) := by decide +kernel
theorem dL_isDepot_234 : decode cL_isDepot 234 = .ok (.iaload, 1) := by decide +kernel
theorem dL_isDepot_235 : decode cL_isDepot 235 = .ok (.if_icmp .ge 35, 3) := by decide +kernel
theorem dL_isDepot_238 : decode cL_isDepot 238 = .ok (.iload 9, 2) := by decide +kernel
theorem dL_isDepot_240 : decode cL_isDepot 240 = .ok (.ifCond .eq 30, 3) := by decide +kernel
theorem dL_isDepot_243 : decode cL_isDepot 243 = .ok (.aload_n 0, 1) := by decide +kernel
theorem dL_isDepot_244 : decode cL_isDepot 244 = .ok (.iload 10, 2) := by decide +kernel
theorem dL_isDepot_246 : decode cL_isDepot 246 = .ok (.invokevirtual 89, 3) := by decide +kernel
theorem dL_isDepot_249 : decode cL_isDepot 249 = .ok (.aload 7, 2) := by decide +kernel
theorem dL_isDepot_251 : decode cL_isDepot 251 = .ok (.iload 10, 2) := by decide +kernel
theorem dL_isDepot_253 : decode cL_isDepot 253 = .ok (.iaload, 1) := by decide +kernel
theorem dL_isDepot_254 : decode cL_isDepot 254 = .ok (.if_icmp .ne 7, 3) := by decide +kernel
theorem dL_isDepot_257 : decode cL_isDepot 257 = .ok (.iconst 1, 1) := by decide +kernel
theorem dL_isDepot_258 : decode cL_isDepot 258 = .ok (.goto 4, 3) := by decide +kernel
theorem dL_isDepot_261 : decode cL_isDepot 261 = .ok (.iconst 0, 1) := by decide +kernel
theorem dL_isDepot_262 : decode cL_isDepot 262 = .ok (.istore 9, 2) := by decide +kernel
theorem dL_isDepot_264 : decode cL_isDepot 264 = .ok (.iinc 10 1, 3) := by decide +kernel
theorem dL_isDepot_267 : decode cL_isDepot 267 = .ok (.goto (-37), 3) := by decide +kernel
theorem dL_isDepot_270 : decode cL_isDepot 270 = .ok (.iload 9, 2) := by decide +kernel
theorem dL_isDepot_272 : decode cL_isDepot 272 = .ok (.ireturn, 1) := by decide +kernel
set_option maxRecDepth 20000 in
theorem ggL_law_X1_init : GoodIn wsL_law wsX1_init := goodIn_r _ [8, 9, 10, 11, 12, 13, 3, 14, 15, 16, 17, 18, 19, 20, 21, 22, 23, 24, 25, 26, 27, 28, 29, 30, 31, 32, 33, 293, 294, 295, 296, 297, 298, 299, 300, 301, 302, 303, 304, 305, 306, 307, 308, 309, 310] (by decide +kernel) (by decide +kernel)
set_option maxRecDepth 20000 in
theorem gL_law_X1_init : GoodIn wsL_law (wsX1_init) := ggL_law_X1_init
set_option maxRecDepth 20000 in
theorem ggL_law_L_isDepot : GoodIn wsL_law wsL_isDepot := goodIn_ca (goodIn_r _ [37, 38, 39, 40, 2, 41, 21, 42, 43, 44, 45, 25, 24, 46, 47, 36, 48, 49, 50, 51, 52, 22, 53, 54, 55, 56, 23, 57, 58, 59, 60, 13, 61, 62, 63, 64, 65, 66, 67, 68, 69, 70, 71, 72, 73, 74, 75, 76, 77, 78, 79, 80, 14, 81, 82, 83, 84, 85, 86, 87, 88, 89, 90, 91, 92, 93, 94, 95, 96, 97, 98, 99, 100, 101, 102, 103, 27, 104, 33, 105, 106, 107, 108, 109, 110, 111, 112, 113, 114, 115, 116, 117, 118, 119, 120, 121, 19, 293, 294, 295, 296, 297, 298, 299, 300, 301, 302, 303, 304, 305, 306, 307, 308, 309, 310] (by decide +kernel) (by decide +kernel)) (goodIn_sub (fun _ h => List.mem_append_left _ (List.mem_append_left _ (List.mem_append_right _ h))) (by decide +kernel))
set_option maxRecDepth 20000 in
theorem gL_law_L_isDepot : GoodIn wsL_law (va_wsS RL 93 yL_isDepot wsL_isDepot) := goodIn_app (goodIn_of _ (by decide +kernel)) ggL_law_L_isDepot
set_option maxRecDepth 20000 in
theorem ggL_law_L_does : GoodIn wsL_law wsL_does := goodIn_ca (goodIn_ca (goodIn_ca (goodIn_r _ [124, 125, 126, 127, 128, 129, 130, 2, 131, 132, 133, 21, 22, 13, 134, 135, 136, 137, 138, 139, 140, 141, 27, 142, 109, 114, 143, 144, 145, 146, 147, 20, 62, 63, 64, 65, 66, 148, 43, 44, 45, 25, 24, 149, 150, 151, 152, 61, 153, 154, 155, 156, 157, 16, 14, 89, 85, 86, 87, 88, 71, 158, 159, 160, 161, 32, 31, 162, 163, 164, 165, 166, 167, 168, 169, 17, 170, 106, 107, 108, 97, 98, 99, 100, 101, 102, 103, 104, 33, 105, 110, 111, 112, 113, 171, 172, 173, 174, 175, 176, 177, 178, 179, 180, 181, 182, 23, 19, 183, 184, 185, 186, 18, 187, 188, 189, 190, 191, 192, 193, 194, 195, 196, 197, 198, 199, 200, 201, 202, 203, 204, 205, 206, 207, 208, 209, 210, 211, 212, 213, 214, 215, 216, 217, 218, 219, 220, 221, 222, 223, 224, 225, 226, 227, 293, 294, 295, 296, 297, 298, 299, 300, 301, 302, 303, 304, 305, 306, 307, 308, 309, 310] (by decide +kernel) (by decide +kernel)) (goodIn_sub (fun _ h => List.mem_append_left _ (List.mem_append_right _ h)) (by decide +kernel))) (goodIn_sub (fun _ h => List.mem_append_right _ h) (by decide +kernel))) (goodIn_sub (fun _ h => List.mem_append_left _ (List.mem_append_left _ (List.mem_append_right _ h))) (by decide +kernel))
set_option maxRecDepth 20000 in
theorem gL_law_L_does : GoodIn wsL_law (va_wsS RL 99 yL_does wsL_does) := goodIn_app (goodIn_of _ (by decide +kernel)) ggL_law_L_does
set_option maxRecDepth 20000 in
theorem ggL_law_L_leader : GoodIn wsL_law wsL_leader := goodIn_r _ [48] (by decide +kernel) (by decide +kernel)
set_option maxRecDepth 20000 in
theorem gL_law_L_leader : GoodIn wsL_law (va_wsS RL 63 yL_leader wsL_leader) := goodIn_app (goodIn_of _ (by decide +kernel)) ggL_law_L_leader
set_option maxRecDepth 20000 in
theorem ggL_law_X1_lead : GoodIn wsL_law wsX1_lead := goodIn_ca (goodIn_ca (goodIn_r _ [231, 24, 21, 25, 62, 63, 2, 64, 65, 66, 134, 135, 136, 137, 138, 148, 43, 44, 45, 293, 294, 295, 296, 297, 298, 299, 300, 301, 302, 303, 304] (by decide +kernel) (by decide +kernel)) (goodIn_sub (fun _ h => List.mem_append_left _ (List.mem_append_left _ (List.mem_append_right _ h))) (by decide +kernel))) (goodIn_sub (fun _ h => List.mem_append_right _ h) (by decide +kernel))
set_option maxRecDepth 20000 in
theorem gL_law_X1_lead : GoodIn wsL_law (wsV RL 103 RX1 yX1_lead wsX1_lead) := goodIn_app (goodIn_of _ (by decide +kernel)) ggL_law_X1_lead
set_option maxRecDepth 20000 in
theorem ggL_law_L_fitsBus : GoodIn wsL_law wsL_fitsBus := goodIn_r _ [234, 90, 91, 36, 92] (by decide +kernel) (by decide +kernel)
set_option maxRecDepth 20000 in
theorem gL_law_L_fitsBus : GoodIn wsL_law (va_wsS RL 25 yL_fitsBus wsL_fitsBus) := goodIn_app (goodIn_of _ (by decide +kernel)) ggL_law_L_fitsBus
set_option maxRecDepth 20000 in
theorem ggL_law_L_fitsDriver : GoodIn wsL_law wsL_fitsDriver := goodIn_r _ [237, 115, 116, 36, 117] (by decide +kernel) (by decide +kernel)
set_option maxRecDepth 20000 in
theorem gL_law_L_fitsDriver : GoodIn wsL_law (va_wsS RL 29 yL_fitsDriver wsL_fitsDriver) := goodIn_app (goodIn_of _ (by decide +kernel)) ggL_law_L_fitsDriver
set_option maxRecDepth 20000 in
theorem ggL_law_L_breaks : GoodIn wsL_law wsL_breaks := goodIn_r _ [240, 241, 242, 36, 243, 244, 245, 246, 232, 233, 234, 90, 91, 92] (by decide +kernel) (by decide +kernel)
set_option maxRecDepth 20000 in
theorem gL_law_L_breaks : GoodIn wsL_law (va_wsS RL 107 yL_breaks wsL_breaks) := goodIn_app (goodIn_of _ (by decide +kernel)) ggL_law_L_breaks
set_option maxRecDepth 20000 in
theorem ggL_law_X1_breaks : GoodIn wsL_law wsX1_breaks := goodIn_ca (goodIn_r _ [250, 16, 62, 63, 2, 64, 65, 66, 191, 192, 193, 194, 18, 251, 252, 253, 254, 22, 13, 61, 71, 224, 225, 226, 27, 227, 31, 32, 33, 255, 256, 257, 258, 259, 260, 261, 262, 89, 263, 264, 265, 266, 154, 155, 156, 157, 14, 85, 86, 87, 88, 158, 159, 160, 161, 162, 163, 164, 165, 109, 114, 220, 221, 222, 223, 293, 294, 295, 296, 297, 298, 299, 300, 301, 302, 303, 304, 305, 306, 307, 308, 309, 310] (by decide +kernel) (by decide +kernel)) (goodIn_sub (fun _ h => List.mem_append_left _ (List.mem_append_left _ (List.mem_append_right _ h))) (by decide +kernel))
set_option maxRecDepth 20000 in
theorem gL_law_X1_breaks : GoodIn wsL_law (wsV RL 111 RX1 yX1_breaks wsX1_breaks) := goodIn_app (goodIn_of _ (by decide +kernel)) ggL_law_X1_breaks
set_option maxRecDepth 20000 in
theorem ggL_law_L_ails : GoodIn wsL_law wsL_ails := goodIn_r _ [269, 244, 245, 36, 246, 235, 236, 237, 115, 116, 117] (by decide +kernel) (by decide +kernel)
set_option maxRecDepth 20000 in
theorem gL_law_L_ails : GoodIn wsL_law (va_wsS RL 114 yL_ails wsL_ails) := goodIn_app (goodIn_of _ (by decide +kernel)) ggL_law_L_ails
set_option maxRecDepth 20000 in
theorem ggL_law_X1_ails : GoodIn wsL_law wsX1_ails := goodIn_ca (goodIn_r _ [273, 17, 62, 63, 2, 64, 65, 66, 274, 275, 276, 277, 22, 13, 61, 76, 224, 225, 226, 27, 227, 31, 32, 33, 278, 279, 280, 281, 282, 283, 284, 285, 286, 287, 288, 289, 166, 167, 168, 169, 170, 106, 107, 108, 109, 97, 98, 99, 100, 101, 102, 103, 104, 105, 110, 111, 112, 113, 114, 171, 172, 173, 174, 293, 294, 295, 296, 297, 298, 299, 300, 301, 302, 303, 304, 305, 306, 307, 308, 309, 310] (by decide +kernel) (by decide +kernel)) (goodIn_sub (fun _ h => List.mem_append_left _ (List.mem_append_left _ (List.mem_append_right _ h))) (by decide +kernel))
set_option maxRecDepth 20000 in
theorem gL_law_X1_ails : GoodIn wsL_law (wsV RL 118 RX1 yX1_ails wsX1_ails) := goodIn_app (goodIn_of _ (by decide +kernel)) ggL_law_X1_ails
set_option maxRecDepth 20000 in
theorem ggL_law_L_leaves : GoodIn wsL_law wsL_leaves := goodIn_r _ [243] (by decide +kernel) (by decide +kernel)
set_option maxRecDepth 20000 in
theorem gL_law_L_leaves : GoodIn wsL_law (va_wsS RL 17 yL_leaves wsL_leaves) := goodIn_app (goodIn_of _ (by decide +kernel)) ggL_law_L_leaves
set_option maxRecDepth 20000 in
theorem ggL_law_L_passes : GoodIn wsL_law wsL_passes := goodIn_r _ [292, 241, 242, 36, 243, 244, 245, 246] (by decide +kernel) (by decide +kernel)
set_option maxRecDepth 20000 in
theorem gL_law_L_passes : GoodIn wsL_law (va_wsS RL 120 yL_passes wsL_passes) := goodIn_app (goodIn_of _ (by decide +kernel)) ggL_law_L_passes
theorem dL_law_0 : decode cL_law 0 = .ok (.new 33, 3) := by decide +kernel
theorem dL_law_3 : decode cL_law 3 = .ok (.dup, 1) := by decide +kernel
theorem dL_law_4 : decode cL_law 4 = .ok (.invokespecial 92, 3) := by decide +kernel
theorem dL_law_7 : decode cL_law 7 = .ok (.astore_n 1, 1) := by decide +kernel
theorem dL_law_8 : decode cL_law 8 = .ok (.bipush 60, 2) := by decide +kernel
theorem dL_law_10 : decode cL_law 10 = .ok (.newarray .int, 2) := by decide +kernel
theorem dL_law_12 : decode cL_law 12 = .ok (.astore_n 2, 1) := by decide +kernel
theorem dL_law_13 : decode cL_law 13 = .ok (.bipush 20, 2) := by decide +kernel
theorem dL_law_15 : decode cL_law 15 = .ok (.newarray .int, 2) := by decide +kernel
theorem dL_law_17 : decode cL_law 17 = .ok (.astore_n 3, 1) := by decide +kernel
theorem dL_law_18 : decode cL_law 18 = .ok (.bipush 20, 2) := by decide +kernel
theorem dL_law_20 : decode cL_law 20 = .ok (.newarray .int, 2) := by decide +kernel
theorem dL_law_22 : decode cL_law 22 = .ok (.astore 4, 2) := by decide +kernel
theorem dL_law_24 : decode cL_law 24 = .ok (.bipush 20, 2) := by decide +kernel
theorem dL_law_26 : decode cL_law 26 = .ok (.newarray .int, 2) := by decide +kernel
theorem dL_law_28 : decode cL_law 28 = .ok (.astore 5, 2) := by decide +kernel
theorem dL_law_30 : decode cL_law 30 = .ok (.bipush 10, 2) := by decide +kernel
theorem dL_law_32 : decode cL_law 32 = .ok (.newarray .int, 2) := by decide +kernel
theorem dL_law_34 : decode cL_law 34 = .ok (.astore 6, 2) := by decide +kernel
theorem dL_law_36 : decode cL_law 36 = .ok (.iconst 5, 1) := by decide +kernel
theorem dL_law_37 : decode cL_law 37 = .ok (.newarray .int, 2) := by decide +kernel
theorem dL_law_39 : decode cL_law 39 = .ok (.astore 7, 2) := by decide +kernel
theorem dL_law_41 : decode cL_law 41 = .ok (.iconst 2, 1) := by decide +kernel
theorem dL_law_42 : decode cL_law 42 = .ok (.newarray .int, 2) := by decide +kernel
theorem dL_law_44 : decode cL_law 44 = .ok (.astore 8, 2) := by decide +kernel
theorem dL_law_46 : decode cL_law 46 = .ok (.bipush 60, 2) := by decide +kernel
theorem dL_law_48 : decode cL_law 48 = .ok (.newarray .int, 2) := by decide +kernel
theorem dL_law_50 : decode cL_law 50 = .ok (.astore 9, 2) := by decide +kernel
theorem dL_law_52 : decode cL_law 52 = .ok (.bipush 60, 2) := by decide +kernel
theorem dL_law_54 : decode cL_law 54 = .ok (.newarray .int, 2) := by decide +kernel
theorem dL_law_56 : decode cL_law 56 = .ok (.astore 10, 2) := by decide +kernel
theorem dL_law_58 : decode cL_law 58 = .ok (.iconst 5, 1) := by decide +kernel
theorem dL_law_59 : decode cL_law 59 = .ok (.newarray .int, 2) := by decide +kernel
theorem dL_law_61 : decode cL_law 61 = .ok (.astore 11, 2) := by decide +kernel
theorem dL_law_63 : decode cL_law 63 = .ok (.iconst 0, 1) := by decide +kernel
theorem dL_law_64 : decode cL_law 64 = .ok (.istore 12, 2) := by decide +kernel
theorem dL_law_66 : decode cL_law 66 = .ok (.iload 12, 2) := by decide +kernel
theorem dL_law_68 : decode cL_law 68 = .ok (.iconst 5, 1) := by decide +kernel
theorem dL_law_69 : decode cL_law 69 = .ok (.if_icmp .ge 18, 3) := by decide +kernel
theorem dL_law_72 : decode cL_law 72 = .ok (.aload 6, 2) := by decide +kernel
theorem dL_law_74 : decode cL_law 74 = .ok (.iconst 2, 1) := by decide +kernel
theorem dL_law_75 : decode cL_law 75 = .ok (.iload 12, 2) := by decide +kernel
theorem dL_law_77 : decode cL_law 77 = .ok (.imul, 1) := by decide +kernel
theorem dL_law_78 : decode cL_law 78 = .ok (.bipush 100, 2) := by decide +kernel
theorem dL_law_80 : decode cL_law 80 = .ok (.iastore, 1) := by decide +kernel
theorem dL_law_81 : decode cL_law 81 = .ok (.iinc 12 1, 3) := by decide +kernel
theorem dL_law_84 : decode cL_law 84 = .ok (.goto (-18), 3) := by decide +kernel
theorem dL_law_87 : decode cL_law 87 = .ok (.aload_n 1, 1) := by decide +kernel
theorem dL_law_88 : decode cL_law 88 = .ok (.aload 11, 2) := by decide +kernel
theorem dL_law_90 : decode cL_law 90 = .ok (.aload_n 2, 1) := by decide +kernel
theorem dL_law_91 : decode cL_law 91 = .ok (.aload_n 3, 1) := by decide +kernel
theorem dL_law_92 : decode cL_law 92 = .ok (.aload 4, 2) := by decide +kernel
theorem dL_law_94 : decode cL_law 94 = .ok (.aload 5, 2) := by decide +kernel
theorem dL_law_96 : decode cL_law 96 = .ok (.aload 6, 2) := by decide +kernel
theorem dL_law_98 : decode cL_law 98 = .ok (.aload 9, 2) := by decide +kernel
theorem dL_law_100 : decode cL_law 100 = .ok (.iconst 1, 1) := by decide +kernel
theorem dL_law_101 : decode cL_law 101 = .ok (.invokestatic 93, 3) := by decide +kernel
theorem dL_law_104 : decode cL_law 104 = .ok (.istore 12, 2) := by decide +kernel
theorem dL_law_106 : decode cL_law 106 = .ok (.iconst 0, 1) := by decide +kernel
theorem dL_law_107 : decode cL_law 107 = .ok (.istore 13, 2) := by decide +kernel
theorem dL_law_109 : decode cL_law 109 = .ok (.iload 13, 2) := by decide +kernel
theorem dL_law_111 : decode cL_law 111 = .ok (.sipush 130, 3) := by decide +kernel
theorem dL_law_114 : decode cL_law 114 = .ok (.if_icmp .ge 1435, 3) := by decide +kernel
theorem dL_law_117 : decode cL_law 117 = .ok (.iload 12, 2) := by decide +kernel
theorem dL_law_119 : decode cL_law 119 = .ok (.ifCond .eq 1430, 3) := by decide +kernel
theorem dL_law_122 : decode cL_law 122 = .ok (.iload 13, 2) := by decide +kernel
theorem dL_law_124 : decode cL_law 124 = .ok (.aload_n 0, 1) := by decide +kernel
theorem dL_law_125 : decode cL_law 125 = .ok (.arraylength, 1) := by decide +kernel
theorem dL_law_126 : decode cL_law 126 = .ok (.if_icmp .ge 13, 3) := by decide +kernel
theorem dL_law_129 : decode cL_law 129 = .ok (.aload_n 0, 1) := by decide +kernel
theorem dL_law_130 : decode cL_law 130 = .ok (.iload 13, 2) := by decide +kernel
theorem dL_law_132 : decode cL_law 132 = .ok (.iaload, 1) := by decide +kernel
theorem dL_law_133 : decode cL_law 133 = .ok (.ldc 97, 2) := by decide +kernel
theorem dL_law_135 : decode cL_law 135 = .ok (.iand, 1) := by decide +kernel
theorem dL_law_136 : decode cL_law 136 = .ok (.goto 24, 3) := by decide +kernel
theorem dL_law_139 : decode cL_law 139 = .ok (.ldc 98, 2) := by decide +kernel
theorem dL_law_141 : decode cL_law 141 = .ok (.iload 13, 2) := by decide +kernel
theorem dL_law_143 : decode cL_law 143 = .ok (.imul, 1) := by decide +kernel
theorem dL_law_144 : decode cL_law 144 = .ok (.iload 13, 2) := by decide +kernel
theorem dL_law_146 : decode cL_law 146 = .ok (.imul, 1) := by decide +kernel
theorem dL_law_147 : decode cL_law 147 = .ok (.sipush 7001, 3) := by decide +kernel
theorem dL_law_150 : decode cL_law 150 = .ok (.iload 13, 2) := by decide +kernel
theorem dL_law_152 : decode cL_law 152 = .ok (.imul, 1) := by decide +kernel
theorem dL_law_153 : decode cL_law 153 = .ok (.iadd, 1) := by decide +kernel
theorem dL_law_154 : decode cL_law 154 = .ok (.bipush 13, 2) := by decide +kernel
theorem dL_law_156 : decode cL_law 156 = .ok (.iadd, 1) := by decide +kernel
theorem dL_law_157 : decode cL_law 157 = .ok (.ldc 97, 2) := by decide +kernel
theorem dL_law_159 : decode cL_law 159 = .ok (.iand, 1) := by decide +kernel
theorem dL_law_160 : decode cL_law 160 = .ok (.istore 14, 2) := by decide +kernel
theorem dL_law_162 : decode cL_law 162 = .ok (.iload 13, 2) := by decide +kernel
theorem dL_law_164 : decode cL_law 164 = .ok (.iconst 4, 1) := by decide +kernel
theorem dL_law_165 : decode cL_law 165 = .ok (.if_icmp .ge 7, 3) := by decide +kernel
theorem dL_law_168 : decode cL_law 168 = .ok (.iconst 0, 1) := by decide +kernel
theorem dL_law_169 : decode cL_law 169 = .ok (.goto 8, 3) := by decide +kernel
theorem dL_law_172 : decode cL_law 172 = .ok (.iload 14, 2) := by decide +kernel
theorem dL_law_174 : decode cL_law 174 = .ok (.bipush 24, 2) := by decide +kernel
theorem dL_law_176 : decode cL_law 176 = .ok (.irem, 1) := by decide +kernel
theorem dL_law_177 : decode cL_law 177 = .ok (.istore 15, 2) := by decide +kernel
theorem dL_law_179 : decode cL_law 179 = .ok (.iload 14, 2) := by decide +kernel
theorem dL_law_181 : decode cL_law 181 = .ok (.bipush 24, 2) := by decide +kernel
theorem dL_law_183 : decode cL_law 183 = .ok (.idiv, 1) := by decide +kernel
theorem dL_law_184 : decode cL_law 184 = .ok (.istore 16, 2) := by decide +kernel
theorem dL_law_186 : decode cL_law 186 = .ok (.aload 11, 2) := by decide +kernel
theorem dL_law_188 : decode cL_law 188 = .ok (.iconst 1, 1) := by decide +kernel
theorem dL_law_189 : decode cL_law 189 = .ok (.iaload, 1) := by decide +kernel
theorem dL_law_190 : decode cL_law 190 = .ok (.ifCond .ne 7, 3) := by decide +kernel
theorem dL_law_193 : decode cL_law 193 = .ok (.iconst 0, 1) := by decide +kernel
theorem dL_law_194 : decode cL_law 194 = .ok (.goto 10, 3) := by decide +kernel
theorem dL_law_197 : decode cL_law 197 = .ok (.iload 16, 2) := by decide +kernel
theorem dL_law_199 : decode cL_law 199 = .ok (.aload 11, 2) := by decide +kernel
theorem dL_law_201 : decode cL_law 201 = .ok (.iconst 1, 1) := by decide +kernel
theorem dL_law_202 : decode cL_law 202 = .ok (.iaload, 1) := by decide +kernel
theorem dL_law_203 : decode cL_law 203 = .ok (.irem, 1) := by decide +kernel
theorem dL_law_204 : decode cL_law 204 = .ok (.istore 17, 2) := by decide +kernel
theorem dL_law_206 : decode cL_law 206 = .ok (.iload 16, 2) := by decide +kernel
theorem dL_law_208 : decode cL_law 208 = .ok (.bipush 20, 2) := by decide +kernel
theorem dL_law_210 : decode cL_law 210 = .ok (.idiv, 1) := by decide +kernel
theorem dL_law_211 : decode cL_law 211 = .ok (.iconst 5, 1) := by decide +kernel
theorem dL_law_212 : decode cL_law 212 = .ok (.irem, 1) := by decide +kernel
theorem dL_law_213 : decode cL_law 213 = .ok (.istore 18, 2) := by decide +kernel
theorem dL_law_215 : decode cL_law 215 = .ok (.iload 16, 2) := by decide +kernel
theorem dL_law_217 : decode cL_law 217 = .ok (.bipush 100, 2) := by decide +kernel
theorem dL_law_219 : decode cL_law 219 = .ok (.idiv, 1) := by decide +kernel
theorem dL_law_220 : decode cL_law 220 = .ok (.iconst 5, 1) := by decide +kernel
theorem dL_law_221 : decode cL_law 221 = .ok (.irem, 1) := by decide +kernel
theorem dL_law_222 : decode cL_law 222 = .ok (.istore 19, 2) := by decide +kernel
theorem dL_law_224 : decode cL_law 224 = .ok (.iconst 0, 1) := by decide +kernel
theorem dL_law_225 : decode cL_law 225 = .ok (.istore 20, 2) := by decide +kernel
theorem dL_law_227 : decode cL_law 227 = .ok (.iload 20, 2) := by decide +kernel
theorem dL_law_229 : decode cL_law 229 = .ok (.aload 11, 2) := by decide +kernel
theorem dL_law_231 : decode cL_law 231 = .ok (.iconst 1, 1) := by decide +kernel
theorem dL_law_232 : decode cL_law 232 = .ok (.iaload, 1) := by decide +kernel
theorem dL_law_233 : decode cL_law 233 = .ok (.if_icmp .ge 35, 3) := by decide +kernel
theorem dL_law_236 : decode cL_law 236 = .ok (.iload 16, 2) := by decide +kernel
theorem dL_law_238 : decode cL_law 238 = .ok (.bipush 7, 2) := by decide +kernel
theorem dL_law_240 : decode cL_law 240 = .ok (.irem, 1) := by decide +kernel
theorem dL_law_241 : decode cL_law 241 = .ok (.ifCond .le 27, 3) := by decide +kernel
theorem dL_law_244 : decode cL_law 244 = .ok (.aload_n 3, 1) := by decide +kernel
theorem dL_law_245 : decode cL_law 245 = .ok (.iload 17, 2) := by decide +kernel
theorem dL_law_247 : decode cL_law 247 = .ok (.iaload, 1) := by decide +kernel
theorem dL_law_248 : decode cL_law 248 = .ok (.ifCond .eq 20, 3) := by decide +kernel
theorem dL_law_251 : decode cL_law 251 = .ok (.iload 17, 2) := by decide +kernel
theorem dL_law_253 : decode cL_law 253 = .ok (.iconst 1, 1) := by decide +kernel
theorem dL_law_254 : decode cL_law 254 = .ok (.iadd, 1) := by decide +kernel
theorem dL_law_255 : decode cL_law 255 = .ok (.aload 11, 2) := by decide +kernel
theorem dL_law_257 : decode cL_law 257 = .ok (.iconst 1, 1) := by decide +kernel
theorem dL_law_258 : decode cL_law 258 = .ok (.iaload, 1) := by decide +kernel
theorem dL_law_259 : decode cL_law 259 = .ok (.irem, 1) := by decide +kernel
theorem dL_law_260 : decode cL_law 260 = .ok (.istore 17, 2) := by decide +kernel
theorem dL_law_262 : decode cL_law 262 = .ok (.iinc 20 1, 3) := by decide +kernel
theorem dL_law_265 : decode cL_law 265 = .ok (.goto (-38), 3) := by decide +kernel
theorem dL_law_268 : decode cL_law 268 = .ok (.iload 15, 2) := by decide +kernel
theorem dL_law_270 : decode cL_law 270 = .ok (.bipush 6, 2) := by decide +kernel
theorem dL_law_272 : decode cL_law 272 = .ok (.if_icmp .ge 208, 3) := by decide +kernel
theorem dL_law_275 : decode cL_law 275 = .ok (.aload 11, 2) := by decide +kernel
theorem dL_law_277 : decode cL_law 277 = .ok (.iconst 1, 1) := by decide +kernel
theorem dL_law_278 : decode cL_law 278 = .ok (.iaload, 1) := by decide +kernel
theorem dL_law_279 : decode cL_law 279 = .ok (.bipush 20, 2) := by decide +kernel
theorem dL_law_281 : decode cL_law 281 = .ok (.if_icmp .ge 199, 3) := by decide +kernel
theorem dL_law_284 : decode cL_law 284 = .ok (.aload 11, 2) := by decide +kernel
theorem dL_law_286 : decode cL_law 286 = .ok (.iconst 0, 1) := by decide +kernel
theorem dL_law_287 : decode cL_law 287 = .ok (.iaload, 1) := by decide +kernel
theorem dL_law_288 : decode cL_law 288 = .ok (.iconst 1, 1) := by decide +kernel
theorem dL_law_289 : decode cL_law 289 = .ok (.iadd, 1) := by decide +kernel
theorem dL_law_290 : decode cL_law 290 = .ok (.iload 16, 2) := by decide +kernel
theorem dL_law_292 : decode cL_law 292 = .ok (.iload 16, 2) := by decide +kernel
theorem dL_law_294 : decode cL_law 294 = .ok (.iconst 4, 1) := by decide +kernel
theorem dL_law_295 : decode cL_law 295 = .ok (.irem, 1) := by decide +kernel
theorem dL_law_296 : decode cL_law 296 = .ok (.ifCond .ne 9, 3) := by decide +kernel
theorem dL_law_299 : decode cL_law 299 = .ok (.sipush 3000, 3) := by decide +kernel
theorem dL_law_302 : decode cL_law 302 = .ok (.goto 6, 3) := by decide +kernel
theorem dL_law_305 : decode cL_law 305 = .ok (.sipush 250, 3) := by decide +kernel
theorem dL_law_308 : decode cL_law 308 = .ok (.irem, 1) := by decide +kernel
theorem dL_law_309 : decode cL_law 309 = .ok (.iadd, 1) := by decide +kernel
theorem dL_law_310 : decode cL_law 310 = .ok (.istore 20, 2) := by decide +kernel
theorem dL_law_312 : decode cL_law 312 = .ok (.iconst 1, 1) := by decide +kernel
theorem dL_law_313 : decode cL_law 313 = .ok (.iload 16, 2) := by decide +kernel
theorem dL_law_315 : decode cL_law 315 = .ok (.bipush 12, 2) := by decide +kernel
theorem dL_law_317 : decode cL_law 317 = .ok (.idiv, 1) := by decide +kernel
theorem dL_law_318 : decode cL_law 318 = .ok (.iload 16, 2) := by decide +kernel
theorem dL_law_320 : decode cL_law 320 = .ok (.iconst 5, 1) := by decide +kernel
theorem dL_law_321 : decode cL_law 321 = .ok (.irem, 1) := by decide +kernel
theorem dL_law_322 : decode cL_law 322 = .ok (.ifCond .ne 9, 3) := by decide +kernel
theorem dL_law_325 : decode cL_law 325 = .ok (.sipush 600, 3) := by decide +kernel
theorem dL_law_328 : decode cL_law 328 = .ok (.goto 6, 3) := by decide +kernel
theorem dL_law_331 : decode cL_law 331 = .ok (.sipush 200, 3) := by decide +kernel
theorem dL_law_334 : decode cL_law 334 = .ok (.irem, 1) := by decide +kernel
theorem dL_law_335 : decode cL_law 335 = .ok (.iadd, 1) := by decide +kernel
theorem dL_law_336 : decode cL_law 336 = .ok (.istore 21, 2) := by decide +kernel
theorem dL_law_338 : decode cL_law 338 = .ok (.iload 16, 2) := by decide +kernel
theorem dL_law_340 : decode cL_law 340 = .ok (.bipush 30, 2) := by decide +kernel
theorem dL_law_342 : decode cL_law 342 = .ok (.idiv, 1) := by decide +kernel
theorem dL_law_343 : decode cL_law 343 = .ok (.iload 16, 2) := by decide +kernel
theorem dL_law_345 : decode cL_law 345 = .ok (.iconst 3, 1) := by decide +kernel
theorem dL_law_346 : decode cL_law 346 = .ok (.irem, 1) := by decide +kernel
theorem dL_law_347 : decode cL_law 347 = .ok (.ifCond .ne 8, 3) := by decide +kernel
theorem dL_law_350 : decode cL_law 350 = .ok (.bipush 101, 2) := by decide +kernel
theorem dL_law_352 : decode cL_law 352 = .ok (.goto 5, 3) := by decide +kernel
theorem dL_law_355 : decode cL_law 355 = .ok (.bipush 40, 2) := by decide +kernel
theorem dL_law_357 : decode cL_law 357 = .ok (.irem, 1) := by decide +kernel
theorem dL_law_358 : decode cL_law 358 = .ok (.istore 22, 2) := by decide +kernel
theorem dL_law_360 : decode cL_law 360 = .ok (.iload 20, 2) := by decide +kernel
theorem dL_law_362 : decode cL_law 362 = .ok (.sipush 20000, 3) := by decide +kernel
theorem dL_law_365 : decode cL_law 365 = .ok (.if_icmp .gt 22, 3) := by decide +kernel
theorem dL_law_368 : decode cL_law 368 = .ok (.iload 20, 2) := by decide +kernel
theorem dL_law_370 : decode cL_law 370 = .ok (.sipush 1440, 3) := by decide +kernel
theorem dL_law_373 : decode cL_law 373 = .ok (.irem, 1) := by decide +kernel
theorem dL_law_374 : decode cL_law 374 = .ok (.sipush 1440, 3) := by decide +kernel
theorem dL_law_377 : decode cL_law 377 = .ok (.iload 21, 2) := by decide +kernel
theorem dL_law_379 : decode cL_law 379 = .ok (.isub, 1) := by decide +kernel
theorem dL_law_380 : decode cL_law 380 = .ok (.if_icmp .gt 7, 3) := by decide +kernel
theorem dL_law_383 : decode cL_law 383 = .ok (.iconst 1, 1) := by decide +kernel
theorem dL_law_384 : decode cL_law 384 = .ok (.goto 4, 3) := by decide +kernel
theorem dL_law_387 : decode cL_law 387 = .ok (.iconst 0, 1) := by decide +kernel
theorem dL_law_388 : decode cL_law 388 = .ok (.istore 23, 2) := by decide +kernel
theorem dL_law_390 : decode cL_law 390 = .ok (.aload_n 1, 1) := by decide +kernel
theorem dL_law_391 : decode cL_law 391 = .ok (.iconst 0, 1) := by decide +kernel
theorem dL_law_392 : decode cL_law 392 = .ok (.iload 20, 2) := by decide +kernel
theorem dL_law_394 : decode cL_law 394 = .ok (.iload 21, 2) := by decide +kernel
theorem dL_law_396 : decode cL_law 396 = .ok (.iload 22, 2) := by decide +kernel
theorem dL_law_398 : decode cL_law 398 = .ok (.iconst 0, 1) := by decide +kernel
theorem dL_law_399 : decode cL_law 399 = .ok (.iconst 0, 1) := by decide +kernel
theorem dL_law_400 : decode cL_law 400 = .ok (.invokestatic 99, 3) := by decide +kernel
theorem dL_law_403 : decode cL_law 403 = .ok (.iload 23, 2) := by decide +kernel
theorem dL_law_405 : decode cL_law 405 = .ok (.ifCond .eq 10, 3) := by decide +kernel
theorem dL_law_408 : decode cL_law 408 = .ok (.aload 11, 2) := by decide +kernel
theorem dL_law_410 : decode cL_law 410 = .ok (.iconst 1, 1) := by decide +kernel
theorem dL_law_411 : decode cL_law 411 = .ok (.iaload, 1) := by decide +kernel
end
section
theorem dL_law_412 : decode cL_law 412 = .ok (.goto 5, 3) := by decide +kernel
theorem dL_law_415 : decode cL_law 415 = .ok (.bipush (-12), 2) := by decide +kernel
theorem dL_law_417 : decode cL_law 417 = .ok (.if_icmp .ne 7, 3) := by decide +kernel
theorem dL_law_420 : decode cL_law 420 = .ok (.iconst 1, 1) := by decide +kernel
theorem dL_law_421 : decode cL_law 421 = .ok (.goto 4, 3) := by decide +kernel
theorem dL_law_424 : decode cL_law 424 = .ok (.iconst 0, 1) := by decide +kernel
theorem dL_law_425 : decode cL_law 425 = .ok (.istore 12, 2) := by decide +kernel
theorem dL_law_427 : decode cL_law 427 = .ok (.iload 23, 2) := by decide +kernel
theorem dL_law_429 : decode cL_law 429 = .ok (.ifCond .eq 48, 3) := by decide +kernel
theorem dL_law_432 : decode cL_law 432 = .ok (.aload_n 2, 1) := by decide +kernel
theorem dL_law_433 : decode cL_law 433 = .ok (.iconst 3, 1) := by decide +kernel
theorem dL_law_434 : decode cL_law 434 = .ok (.aload 11, 2) := by decide +kernel
theorem dL_law_436 : decode cL_law 436 = .ok (.iconst 1, 1) := by decide +kernel
theorem dL_law_437 : decode cL_law 437 = .ok (.iaload, 1) := by decide +kernel
theorem dL_law_438 : decode cL_law 438 = .ok (.imul, 1) := by decide +kernel
theorem dL_law_439 : decode cL_law 439 = .ok (.iload 20, 2) := by decide +kernel
theorem dL_law_441 : decode cL_law 441 = .ok (.iastore, 1) := by decide +kernel
theorem dL_law_442 : decode cL_law 442 = .ok (.aload_n 2, 1) := by decide +kernel
theorem dL_law_443 : decode cL_law 443 = .ok (.iconst 3, 1) := by decide +kernel
theorem dL_law_444 : decode cL_law 444 = .ok (.aload 11, 2) := by decide +kernel
theorem dL_law_446 : decode cL_law 446 = .ok (.iconst 1, 1) := by decide +kernel
theorem dL_law_447 : decode cL_law 447 = .ok (.iaload, 1) := by decide +kernel
theorem dL_law_448 : decode cL_law 448 = .ok (.imul, 1) := by decide +kernel
theorem dL_law_449 : decode cL_law 449 = .ok (.iconst 1, 1) := by decide +kernel
theorem dL_law_450 : decode cL_law 450 = .ok (.iadd, 1) := by decide +kernel
theorem dL_law_451 : decode cL_law 451 = .ok (.iload 20, 2) := by decide +kernel
theorem dL_law_453 : decode cL_law 453 = .ok (.iload 21, 2) := by decide +kernel
theorem dL_law_455 : decode cL_law 455 = .ok (.iadd, 1) := by decide +kernel
theorem dL_law_456 : decode cL_law 456 = .ok (.iastore, 1) := by decide +kernel
theorem dL_law_457 : decode cL_law 457 = .ok (.aload_n 2, 1) := by decide +kernel
theorem dL_law_458 : decode cL_law 458 = .ok (.iconst 3, 1) := by decide +kernel
theorem dL_law_459 : decode cL_law 459 = .ok (.aload 11, 2) := by decide +kernel
theorem dL_law_461 : decode cL_law 461 = .ok (.iconst 1, 1) := by decide +kernel
theorem dL_law_462 : decode cL_law 462 = .ok (.iaload, 1) := by decide +kernel
theorem dL_law_463 : decode cL_law 463 = .ok (.imul, 1) := by decide +kernel
theorem dL_law_464 : decode cL_law 464 = .ok (.iconst 2, 1) := by decide +kernel
theorem dL_law_465 : decode cL_law 465 = .ok (.iadd, 1) := by decide +kernel
theorem dL_law_466 : decode cL_law 466 = .ok (.iload 22, 2) := by decide +kernel
theorem dL_law_468 : decode cL_law 468 = .ok (.iastore, 1) := by decide +kernel
theorem dL_law_469 : decode cL_law 469 = .ok (.aload 11, 2) := by decide +kernel
theorem dL_law_471 : decode cL_law 471 = .ok (.iconst 1, 1) := by decide +kernel
theorem dL_law_472 : decode cL_law 472 = .ok (.dup2, 1) := by decide +kernel
theorem dL_law_473 : decode cL_law 473 = .ok (.iaload, 1) := by decide +kernel
theorem dL_law_474 : decode cL_law 474 = .ok (.iconst 1, 1) := by decide +kernel
theorem dL_law_475 : decode cL_law 475 = .ok (.iadd, 1) := by decide +kernel
theorem dL_law_476 : decode cL_law 476 = .ok (.iastore, 1) := by decide +kernel
theorem dL_law_477 : decode cL_law 477 = .ok (.goto 1025, 3) := by decide +kernel
theorem dL_law_480 : decode cL_law 480 = .ok (.iload 15, 2) := by decide +kernel
theorem dL_law_482 : decode cL_law 482 = .ok (.bipush 8, 2) := by decide +kernel
theorem dL_law_484 : decode cL_law 484 = .ok (.if_icmp .ge 124, 3) := by decide +kernel
theorem dL_law_487 : decode cL_law 487 = .ok (.iload 16, 2) := by decide +kernel
theorem dL_law_489 : decode cL_law 489 = .ok (.iconst 2, 1) := by decide +kernel
theorem dL_law_490 : decode cL_law 490 = .ok (.irem, 1) := by decide +kernel
theorem dL_law_491 : decode cL_law 491 = .ok (.istore 20, 2) := by decide +kernel
theorem dL_law_493 : decode cL_law 493 = .ok (.iconst 1, 1) := by decide +kernel
theorem dL_law_494 : decode cL_law 494 = .ok (.iload 16, 2) := by decide +kernel
theorem dL_law_496 : decode cL_law 496 = .ok (.iconst 2, 1) := by decide +kernel
theorem dL_law_497 : decode cL_law 497 = .ok (.idiv, 1) := by decide +kernel
theorem dL_law_498 : decode cL_law 498 = .ok (.iload 16, 2) := by decide +kernel
theorem dL_law_500 : decode cL_law 500 = .ok (.iconst 3, 1) := by decide +kernel
theorem dL_law_501 : decode cL_law 501 = .ok (.irem, 1) := by decide +kernel
theorem dL_law_502 : decode cL_law 502 = .ok (.ifCond .ne 9, 3) := by decide +kernel
theorem dL_law_505 : decode cL_law 505 = .ok (.sipush 1000, 3) := by decide +kernel
theorem dL_law_508 : decode cL_law 508 = .ok (.goto 5, 3) := by decide +kernel
theorem dL_law_511 : decode cL_law 511 = .ok (.bipush 100, 2) := by decide +kernel
theorem dL_law_513 : decode cL_law 513 = .ok (.irem, 1) := by decide +kernel
theorem dL_law_514 : decode cL_law 514 = .ok (.iadd, 1) := by decide +kernel
theorem dL_law_515 : decode cL_law 515 = .ok (.istore 21, 2) := by decide +kernel
theorem dL_law_517 : decode cL_law 517 = .ok (.aload 11, 2) := by decide +kernel
theorem dL_law_519 : decode cL_law 519 = .ok (.invokestatic 63, 3) := by decide +kernel
theorem dL_law_522 : decode cL_law 522 = .ok (.ifCond .lt 13, 3) := by decide +kernel
theorem dL_law_525 : decode cL_law 525 = .ok (.aload 11, 2) := by decide +kernel
theorem dL_law_527 : decode cL_law 527 = .ok (.invokestatic 63, 3) := by decide +kernel
theorem dL_law_530 : decode cL_law 530 = .ok (.iload 20, 2) := by decide +kernel
theorem dL_law_532 : decode cL_law 532 = .ok (.if_icmp .ne 7, 3) := by decide +kernel
theorem dL_law_535 : decode cL_law 535 = .ok (.iconst 1, 1) := by decide +kernel
theorem dL_law_536 : decode cL_law 536 = .ok (.goto 4, 3) := by decide +kernel
theorem dL_law_539 : decode cL_law 539 = .ok (.iconst 0, 1) := by decide +kernel
theorem dL_law_540 : decode cL_law 540 = .ok (.istore 22, 2) := by decide +kernel
theorem dL_law_542 : decode cL_law 542 = .ok (.aload_n 1, 1) := by decide +kernel
theorem dL_law_543 : decode cL_law 543 = .ok (.iload 20, 2) := by decide +kernel
theorem dL_law_545 : decode cL_law 545 = .ok (.iload 21, 2) := by decide +kernel
theorem dL_law_547 : decode cL_law 547 = .ok (.invokevirtual 103, 3) := by decide +kernel
theorem dL_law_550 : decode cL_law 550 = .ok (.iload 22, 2) := by decide +kernel
theorem dL_law_552 : decode cL_law 552 = .ok (.if_icmp .ne 7, 3) := by decide +kernel
theorem dL_law_555 : decode cL_law 555 = .ok (.iconst 1, 1) := by decide +kernel
theorem dL_law_556 : decode cL_law 556 = .ok (.goto 4, 3) := by decide +kernel
theorem dL_law_559 : decode cL_law 559 = .ok (.iconst 0, 1) := by decide +kernel
theorem dL_law_560 : decode cL_law 560 = .ok (.istore 12, 2) := by decide +kernel
theorem dL_law_562 : decode cL_law 562 = .ok (.aload 11, 2) := by decide +kernel
theorem dL_law_564 : decode cL_law 564 = .ok (.iconst 3, 1) := by decide +kernel
theorem dL_law_565 : decode cL_law 565 = .ok (.iload 22, 2) := by decide +kernel
theorem dL_law_567 : decode cL_law 567 = .ok (.ifCond .eq 10, 3) := by decide +kernel
theorem dL_law_570 : decode cL_law 570 = .ok (.iload 20, 2) := by decide +kernel
theorem dL_law_572 : decode cL_law 572 = .ok (.iconst 1, 1) := by decide +kernel
theorem dL_law_573 : decode cL_law 573 = .ok (.iadd, 1) := by decide +kernel
theorem dL_law_574 : decode cL_law 574 = .ok (.goto 7, 3) := by decide +kernel
theorem dL_law_577 : decode cL_law 577 = .ok (.aload 11, 2) := by decide +kernel
theorem dL_law_579 : decode cL_law 579 = .ok (.iconst 3, 1) := by decide +kernel
theorem dL_law_580 : decode cL_law 580 = .ok (.iaload, 1) := by decide +kernel
theorem dL_law_581 : decode cL_law 581 = .ok (.iastore, 1) := by decide +kernel
theorem dL_law_582 : decode cL_law 582 = .ok (.aload 11, 2) := by decide +kernel
theorem dL_law_584 : decode cL_law 584 = .ok (.iconst 4, 1) := by decide +kernel
theorem dL_law_585 : decode cL_law 585 = .ok (.iload 22, 2) := by decide +kernel
theorem dL_law_587 : decode cL_law 587 = .ok (.ifCond .eq 13, 3) := by decide +kernel
theorem dL_law_590 : decode cL_law 590 = .ok (.aload 11, 2) := by decide +kernel
theorem dL_law_592 : decode cL_law 592 = .ok (.iconst 0, 1) := by decide +kernel
theorem dL_law_593 : decode cL_law 593 = .ok (.iaload, 1) := by decide +kernel
theorem dL_law_594 : decode cL_law 594 = .ok (.iload 21, 2) := by decide +kernel
theorem dL_law_596 : decode cL_law 596 = .ok (.iadd, 1) := by decide +kernel
theorem dL_law_597 : decode cL_law 597 = .ok (.goto 7, 3) := by decide +kernel
theorem dL_law_600 : decode cL_law 600 = .ok (.aload 11, 2) := by decide +kernel
theorem dL_law_602 : decode cL_law 602 = .ok (.iconst 4, 1) := by decide +kernel
theorem dL_law_603 : decode cL_law 603 = .ok (.iaload, 1) := by decide +kernel
theorem dL_law_604 : decode cL_law 604 = .ok (.iastore, 1) := by decide +kernel
theorem dL_law_605 : decode cL_law 605 = .ok (.goto 897, 3) := by decide +kernel
theorem dL_law_608 : decode cL_law 608 = .ok (.iload 15, 2) := by decide +kernel
theorem dL_law_610 : decode cL_law 610 = .ok (.bipush 16, 2) := by decide +kernel
theorem dL_law_612 : decode cL_law 612 = .ok (.if_icmp .ge 428, 3) := by decide +kernel
theorem dL_law_615 : decode cL_law 615 = .ok (.aload 11, 2) := by decide +kernel
theorem dL_law_617 : decode cL_law 617 = .ok (.iconst 2, 1) := by decide +kernel
theorem dL_law_618 : decode cL_law 618 = .ok (.iaload, 1) := by decide +kernel
theorem dL_law_619 : decode cL_law 619 = .ok (.bipush 60, 2) := by decide +kernel
theorem dL_law_621 : decode cL_law 621 = .ok (.if_icmp .ge 419, 3) := by decide +kernel
theorem dL_law_624 : decode cL_law 624 = .ok (.iload 16, 2) := by decide +kernel
theorem dL_law_626 : decode cL_law 626 = .ok (.iconst 3, 1) := by decide +kernel
theorem dL_law_627 : decode cL_law 627 = .ok (.irem, 1) := by decide +kernel
theorem dL_law_628 : decode cL_law 628 = .ok (.ifCond .le 19, 3) := by decide +kernel
theorem dL_law_631 : decode cL_law 631 = .ok (.aload 11, 2) := by decide +kernel
theorem dL_law_633 : decode cL_law 633 = .ok (.invokestatic 63, 3) := by decide +kernel
theorem dL_law_636 : decode cL_law 636 = .ok (.ifCond .lt 11, 3) := by decide +kernel
theorem dL_law_639 : decode cL_law 639 = .ok (.aload 11, 2) := by decide +kernel
theorem dL_law_641 : decode cL_law 641 = .ok (.invokestatic 63, 3) := by decide +kernel
theorem dL_law_644 : decode cL_law 644 = .ok (.goto 7, 3) := by decide +kernel
theorem dL_law_647 : decode cL_law 647 = .ok (.iload 16, 2) := by decide +kernel
theorem dL_law_649 : decode cL_law 649 = .ok (.iconst 2, 1) := by decide +kernel
theorem dL_law_650 : decode cL_law 650 = .ok (.irem, 1) := by decide +kernel
theorem dL_law_651 : decode cL_law 651 = .ok (.istore 20, 2) := by decide +kernel
theorem dL_law_653 : decode cL_law 653 = .ok (.iload 16, 2) := by decide +kernel
theorem dL_law_655 : decode cL_law 655 = .ok (.bipush 11, 2) := by decide +kernel
theorem dL_law_657 : decode cL_law 657 = .ok (.irem, 1) := by decide +kernel
theorem dL_law_658 : decode cL_law 658 = .ok (.ifCond .ne 14, 3) := by decide +kernel
theorem dL_law_661 : decode cL_law 661 = .ok (.iload 16, 2) := by decide +kernel
theorem dL_law_663 : decode cL_law 663 = .ok (.bipush 11, 2) := by decide +kernel
theorem dL_law_665 : decode cL_law 665 = .ok (.idiv, 1) := by decide +kernel
theorem dL_law_666 : decode cL_law 666 = .ok (.bipush 20, 2) := by decide +kernel
theorem dL_law_668 : decode cL_law 668 = .ok (.irem, 1) := by decide +kernel
theorem dL_law_669 : decode cL_law 669 = .ok (.goto 11, 3) := by decide +kernel
theorem dL_law_672 : decode cL_law 672 = .ok (.iload 16, 2) := by decide +kernel
theorem dL_law_674 : decode cL_law 674 = .ok (.iconst 3, 1) := by decide +kernel
theorem dL_law_675 : decode cL_law 675 = .ok (.idiv, 1) := by decide +kernel
theorem dL_law_676 : decode cL_law 676 = .ok (.sipush 1000, 3) := by decide +kernel
theorem dL_law_679 : decode cL_law 679 = .ok (.irem, 1) := by decide +kernel
theorem dL_law_680 : decode cL_law 680 = .ok (.istore 21, 2) := by decide +kernel
theorem dL_law_682 : decode cL_law 682 = .ok (.iconst (-1), 1) := by decide +kernel
theorem dL_law_683 : decode cL_law 683 = .ok (.istore 22, 2) := by decide +kernel
theorem dL_law_685 : decode cL_law 685 = .ok (.iconst 0, 1) := by decide +kernel
theorem dL_law_686 : decode cL_law 686 = .ok (.istore 23, 2) := by decide +kernel
theorem dL_law_688 : decode cL_law 688 = .ok (.iload 23, 2) := by decide +kernel
theorem dL_law_690 : decode cL_law 690 = .ok (.aload 11, 2) := by decide +kernel
theorem dL_law_692 : decode cL_law 692 = .ok (.iconst 2, 1) := by decide +kernel
theorem dL_law_693 : decode cL_law 693 = .ok (.iaload, 1) := by decide +kernel
theorem dL_law_694 : decode cL_law 694 = .ok (.if_icmp .ge 28, 3) := by decide +kernel
theorem dL_law_697 : decode cL_law 697 = .ok (.aload 10, 2) := by decide +kernel
theorem dL_law_699 : decode cL_law 699 = .ok (.iload 23, 2) := by decide +kernel
theorem dL_law_701 : decode cL_law 701 = .ok (.iaload, 1) := by decide +kernel
theorem dL_law_702 : decode cL_law 702 = .ok (.iload 21, 2) := by decide +kernel
theorem dL_law_704 : decode cL_law 704 = .ok (.if_icmp .ne 8, 3) := by decide +kernel
theorem dL_law_707 : decode cL_law 707 = .ok (.iload 23, 2) := by decide +kernel
theorem dL_law_709 : decode cL_law 709 = .ok (.goto 5, 3) := by decide +kernel
theorem dL_law_712 : decode cL_law 712 = .ok (.iload 22, 2) := by decide +kernel
theorem dL_law_714 : decode cL_law 714 = .ok (.istore 22, 2) := by decide +kernel
theorem dL_law_716 : decode cL_law 716 = .ok (.iinc 23 1, 3) := by decide +kernel
theorem dL_law_719 : decode cL_law 719 = .ok (.goto (-31), 3) := by decide +kernel
theorem dL_law_722 : decode cL_law 722 = .ok (.iconst 0, 1) := by decide +kernel
theorem dL_law_723 : decode cL_law 723 = .ok (.istore 23, 2) := by decide +kernel
theorem dL_law_725 : decode cL_law 725 = .ok (.iload 23, 2) := by decide +kernel
theorem dL_law_727 : decode cL_law 727 = .ok (.iconst 5, 1) := by decide +kernel
theorem dL_law_728 : decode cL_law 728 = .ok (.if_icmp .ge 50, 3) := by decide +kernel
theorem dL_law_731 : decode cL_law 731 = .ok (.iload 16, 2) := by decide +kernel
theorem dL_law_733 : decode cL_law 733 = .ok (.bipush 13, 2) := by decide +kernel
theorem dL_law_735 : decode cL_law 735 = .ok (.irem, 1) := by decide +kernel
theorem dL_law_736 : decode cL_law 736 = .ok (.ifCond .le 42, 3) := by decide +kernel
theorem dL_law_739 : decode cL_law 739 = .ok (.aload 11, 2) := by decide +kernel
theorem dL_law_741 : decode cL_law 741 = .ok (.iconst 1, 1) := by decide +kernel
theorem dL_law_742 : decode cL_law 742 = .ok (.iaload, 1) := by decide +kernel
theorem dL_law_743 : decode cL_law 743 = .ok (.ifCond .le 35, 3) := by decide +kernel
theorem dL_law_746 : decode cL_law 746 = .ok (.aload 11, 2) := by decide +kernel
theorem dL_law_748 : decode cL_law 748 = .ok (.aload_n 2, 1) := by decide +kernel
theorem dL_law_749 : decode cL_law 749 = .ok (.aload_n 3, 1) := by decide +kernel
theorem dL_law_750 : decode cL_law 750 = .ok (.aload 4, 2) := by decide +kernel
theorem dL_law_752 : decode cL_law 752 = .ok (.aload 6, 2) := by decide +kernel
theorem dL_law_754 : decode cL_law 754 = .ok (.iload 18, 2) := by decide +kernel
theorem dL_law_756 : decode cL_law 756 = .ok (.iload 17, 2) := by decide +kernel
theorem dL_law_758 : decode cL_law 758 = .ok (.invokestatic 25, 3) := by decide +kernel
theorem dL_law_761 : decode cL_law 761 = .ok (.ifCond .ne 17, 3) := by decide +kernel
theorem dL_law_764 : decode cL_law 764 = .ok (.iload 18, 2) := by decide +kernel
theorem dL_law_766 : decode cL_law 766 = .ok (.iconst 1, 1) := by decide +kernel
theorem dL_law_767 : decode cL_law 767 = .ok (.iadd, 1) := by decide +kernel
theorem dL_law_768 : decode cL_law 768 = .ok (.iconst 5, 1) := by decide +kernel
theorem dL_law_769 : decode cL_law 769 = .ok (.irem, 1) := by decide +kernel
theorem dL_law_770 : decode cL_law 770 = .ok (.istore 18, 2) := by decide +kernel
theorem dL_law_772 : decode cL_law 772 = .ok (.iinc 23 1, 3) := by decide +kernel
theorem dL_law_775 : decode cL_law 775 = .ok (.goto (-50), 3) := by decide +kernel
theorem dL_law_778 : decode cL_law 778 = .ok (.iconst 0, 1) := by decide +kernel
theorem dL_law_779 : decode cL_law 779 = .ok (.istore 23, 2) := by decide +kernel
theorem dL_law_781 : decode cL_law 781 = .ok (.iload 23, 2) := by decide +kernel
theorem dL_law_783 : decode cL_law 783 = .ok (.iconst 5, 1) := by decide +kernel
theorem dL_law_784 : decode cL_law 784 = .ok (.if_icmp .ge 50, 3) := by decide +kernel
theorem dL_law_787 : decode cL_law 787 = .ok (.iload 16, 2) := by decide +kernel
theorem dL_law_789 : decode cL_law 789 = .ok (.bipush 17, 2) := by decide +kernel
theorem dL_law_791 : decode cL_law 791 = .ok (.irem, 1) := by decide +kernel
theorem dL_law_792 : decode cL_law 792 = .ok (.ifCond .le 42, 3) := by decide +kernel
theorem dL_law_795 : decode cL_law 795 = .ok (.aload 11, 2) := by decide +kernel
theorem dL_law_797 : decode cL_law 797 = .ok (.iconst 1, 1) := by decide +kernel
theorem dL_law_798 : decode cL_law 798 = .ok (.iaload, 1) := by decide +kernel
theorem dL_law_799 : decode cL_law 799 = .ok (.ifCond .le 35, 3) := by decide +kernel
theorem dL_law_802 : decode cL_law 802 = .ok (.aload 11, 2) := by decide +kernel
theorem dL_law_804 : decode cL_law 804 = .ok (.aload_n 2, 1) := by decide +kernel
theorem dL_law_805 : decode cL_law 805 = .ok (.aload_n 3, 1) := by decide +kernel
theorem dL_law_806 : decode cL_law 806 = .ok (.aload 5, 2) := by decide +kernel
theorem dL_law_808 : decode cL_law 808 = .ok (.aload 7, 2) := by decide +kernel
theorem dL_law_810 : decode cL_law 810 = .ok (.iload 19, 2) := by decide +kernel
theorem dL_law_812 : decode cL_law 812 = .ok (.iload 17, 2) := by decide +kernel
theorem dL_law_814 : decode cL_law 814 = .ok (.invokestatic 29, 3) := by decide +kernel
theorem dL_law_817 : decode cL_law 817 = .ok (.ifCond .ne 17, 3) := by decide +kernel
theorem dL_law_820 : decode cL_law 820 = .ok (.iload 19, 2) := by decide +kernel
theorem dL_law_822 : decode cL_law 822 = .ok (.iconst 1, 1) := by decide +kernel
theorem dL_law_823 : decode cL_law 823 = .ok (.iadd, 1) := by decide +kernel
theorem dL_law_824 : decode cL_law 824 = .ok (.iconst 5, 1) := by decide +kernel
theorem dL_law_825 : decode cL_law 825 = .ok (.irem, 1) := by decide +kernel
theorem dL_law_826 : decode cL_law 826 = .ok (.istore 19, 2) := by decide +kernel
theorem dL_law_828 : decode cL_law 828 = .ok (.iinc 23 1, 3) := by decide +kernel
theorem dL_law_831 : decode cL_law 831 = .ok (.goto (-50), 3) := by decide +kernel
theorem dL_law_834 : decode cL_law 834 = .ok (.aload 11, 2) := by decide +kernel
theorem dL_law_836 : decode cL_law 836 = .ok (.iconst 1, 1) := by decide +kernel
theorem dL_law_837 : decode cL_law 837 = .ok (.iaload, 1) := by decide +kernel
theorem dL_law_838 : decode cL_law 838 = .ok (.ifCond .le 60, 3) := by decide +kernel
theorem dL_law_841 : decode cL_law 841 = .ok (.aload 11, 2) := by decide +kernel
theorem dL_law_843 : decode cL_law 843 = .ok (.invokestatic 63, 3) := by decide +kernel
theorem dL_law_846 : decode cL_law 846 = .ok (.iload 20, 2) := by decide +kernel
theorem dL_law_848 : decode cL_law 848 = .ok (.if_icmp .ne 50, 3) := by decide +kernel
theorem dL_law_851 : decode cL_law 851 = .ok (.aload_n 3, 1) := by decide +kernel
theorem dL_law_852 : decode cL_law 852 = .ok (.iload 17, 2) := by decide +kernel
theorem dL_law_854 : decode cL_law 854 = .ok (.iaload, 1) := by decide +kernel
theorem dL_law_855 : decode cL_law 855 = .ok (.ifCond .ne 43, 3) := by decide +kernel
theorem dL_law_858 : decode cL_law 858 = .ok (.aload 11, 2) := by decide +kernel
theorem dL_law_860 : decode cL_law 860 = .ok (.aload_n 2, 1) := by decide +kernel
theorem dL_law_861 : decode cL_law 861 = .ok (.aload_n 3, 1) := by decide +kernel
theorem dL_law_862 : decode cL_law 862 = .ok (.aload 4, 2) := by decide +kernel
theorem dL_law_864 : decode cL_law 864 = .ok (.aload 6, 2) := by decide +kernel
theorem dL_law_866 : decode cL_law 866 = .ok (.iload 18, 2) := by decide +kernel
theorem dL_law_868 : decode cL_law 868 = .ok (.iload 17, 2) := by decide +kernel
theorem dL_law_870 : decode cL_law 870 = .ok (.invokestatic 25, 3) := by decide +kernel
theorem dL_law_873 : decode cL_law 873 = .ok (.ifCond .eq 25, 3) := by decide +kernel
theorem dL_law_876 : decode cL_law 876 = .ok (.aload 11, 2) := by decide +kernel
theorem dL_law_878 : decode cL_law 878 = .ok (.aload_n 2, 1) := by decide +kernel
theorem dL_law_879 : decode cL_law 879 = .ok (.aload_n 3, 1) := by decide +kernel
theorem dL_law_880 : decode cL_law 880 = .ok (.aload 5, 2) := by decide +kernel
theorem dL_law_882 : decode cL_law 882 = .ok (.aload 7, 2) := by decide +kernel
theorem dL_law_884 : decode cL_law 884 = .ok (.iload 19, 2) := by decide +kernel
theorem dL_law_886 : decode cL_law 886 = .ok (.iload 17, 2) := by decide +kernel
theorem dL_law_888 : decode cL_law 888 = .ok (.invokestatic 29, 3) := by decide +kernel
theorem dL_law_891 : decode cL_law 891 = .ok (.ifCond .eq 7, 3) := by decide +kernel
theorem dL_law_894 : decode cL_law 894 = .ok (.iconst 1, 1) := by decide +kernel
theorem dL_law_895 : decode cL_law 895 = .ok (.goto 4, 3) := by decide +kernel
theorem dL_law_898 : decode cL_law 898 = .ok (.iconst 0, 1) := by decide +kernel
theorem dL_law_899 : decode cL_law 899 = .ok (.istore 23, 2) := by decide +kernel
theorem dL_law_901 : decode cL_law 901 = .ok (.aload 11, 2) := by decide +kernel
theorem dL_law_903 : decode cL_law 903 = .ok (.iconst 1, 1) := by decide +kernel
theorem dL_law_904 : decode cL_law 904 = .ok (.iaload, 1) := by decide +kernel
theorem dL_law_905 : decode cL_law 905 = .ok (.ifCond .ne 8, 3) := by decide +kernel
theorem dL_law_908 : decode cL_law 908 = .ok (.bipush (-11), 2) := by decide +kernel
theorem dL_law_910 : decode cL_law 910 = .ok (.goto 27, 3) := by decide +kernel
theorem dL_law_913 : decode cL_law 913 = .ok (.iload 22, 2) := by decide +kernel
theorem dL_law_915 : decode cL_law 915 = .ok (.ifCond .lt 8, 3) := by decide +kernel
theorem dL_law_918 : decode cL_law 918 = .ok (.iload 22, 2) := by decide +kernel
theorem dL_law_920 : decode cL_law 920 = .ok (.goto 17, 3) := by decide +kernel
theorem dL_law_923 : decode cL_law 923 = .ok (.iload 23, 2) := by decide +kernel
theorem dL_law_925 : decode cL_law 925 = .ok (.ifCond .eq 10, 3) := by decide +kernel
theorem dL_law_928 : decode cL_law 928 = .ok (.aload 11, 2) := by decide +kernel
theorem dL_law_930 : decode cL_law 930 = .ok (.iconst 2, 1) := by decide +kernel
theorem dL_law_931 : decode cL_law 931 = .ok (.iaload, 1) := by decide +kernel
theorem dL_law_932 : decode cL_law 932 = .ok (.goto 5, 3) := by decide +kernel
theorem dL_law_935 : decode cL_law 935 = .ok (.bipush (-13), 2) := by decide +kernel
theorem dL_law_937 : decode cL_law 937 = .ok (.istore 24, 2) := by decide +kernel
theorem dL_law_939 : decode cL_law 939 = .ok (.iload 23, 2) := by decide +kernel
theorem dL_law_941 : decode cL_law 941 = .ok (.ifCond .eq 69, 3) := by decide +kernel
theorem dL_law_944 : decode cL_law 944 = .ok (.iload 22, 2) := by decide +kernel
theorem dL_law_946 : decode cL_law 946 = .ok (.ifCond .ge 64, 3) := by decide +kernel
theorem dL_law_949 : decode cL_law 949 = .ok (.aload_n 3, 1) := by decide +kernel
theorem dL_law_950 : decode cL_law 950 = .ok (.iload 17, 2) := by decide +kernel
theorem dL_law_952 : decode cL_law 952 = .ok (.iconst 1, 1) := by decide +kernel
theorem dL_law_953 : decode cL_law 953 = .ok (.iastore, 1) := by decide +kernel
theorem dL_law_954 : decode cL_law 954 = .ok (.aload 4, 2) := by decide +kernel
theorem dL_law_956 : decode cL_law 956 = .ok (.iload 17, 2) := by decide +kernel
theorem dL_law_958 : decode cL_law 958 = .ok (.iload 18, 2) := by decide +kernel
theorem dL_law_960 : decode cL_law 960 = .ok (.iconst 1, 1) := by decide +kernel
theorem dL_law_961 : decode cL_law 961 = .ok (.iadd, 1) := by decide +kernel
theorem dL_law_962 : decode cL_law 962 = .ok (.iastore, 1) := by decide +kernel
theorem dL_law_963 : decode cL_law 963 = .ok (.aload 5, 2) := by decide +kernel
theorem dL_law_965 : decode cL_law 965 = .ok (.iload 17, 2) := by decide +kernel
theorem dL_law_967 : decode cL_law 967 = .ok (.iload 19, 2) := by decide +kernel
theorem dL_law_969 : decode cL_law 969 = .ok (.iconst 1, 1) := by decide +kernel
theorem dL_law_970 : decode cL_law 970 = .ok (.iadd, 1) := by decide +kernel
theorem dL_law_971 : decode cL_law 971 = .ok (.iastore, 1) := by decide +kernel
theorem dL_law_972 : decode cL_law 972 = .ok (.aload 9, 2) := by decide +kernel
theorem dL_law_974 : decode cL_law 974 = .ok (.aload 11, 2) := by decide +kernel
theorem dL_law_976 : decode cL_law 976 = .ok (.iconst 2, 1) := by decide +kernel
theorem dL_law_977 : decode cL_law 977 = .ok (.iaload, 1) := by decide +kernel
theorem dL_law_978 : decode cL_law 978 = .ok (.bipush 100, 2) := by decide +kernel
theorem dL_law_980 : decode cL_law 980 = .ok (.iload 17, 2) := by decide +kernel
theorem dL_law_982 : decode cL_law 982 = .ok (.imul, 1) := by decide +kernel
theorem dL_law_983 : decode cL_law 983 = .ok (.bipush 10, 2) := by decide +kernel
theorem dL_law_985 : decode cL_law 985 = .ok (.iload 18, 2) := by decide +kernel
theorem dL_law_987 : decode cL_law 987 = .ok (.imul, 1) := by decide +kernel
theorem dL_law_988 : decode cL_law 988 = .ok (.iadd, 1) := by decide +kernel
theorem dL_law_989 : decode cL_law 989 = .ok (.iload 19, 2) := by decide +kernel
theorem dL_law_991 : decode cL_law 991 = .ok (.iadd, 1) := by decide +kernel
theorem dL_law_992 : decode cL_law 992 = .ok (.iastore, 1) := by decide +kernel
theorem dL_law_993 : decode cL_law 993 = .ok (.aload 10, 2) := by decide +kernel
theorem dL_law_995 : decode cL_law 995 = .ok (.aload 11, 2) := by decide +kernel
theorem dL_law_997 : decode cL_law 997 = .ok (.iconst 2, 1) := by decide +kernel
theorem dL_law_998 : decode cL_law 998 = .ok (.iaload, 1) := by decide +kernel
theorem dL_law_999 : decode cL_law 999 = .ok (.iload 21, 2) := by decide +kernel
theorem dL_law_1001 : decode cL_law 1001 = .ok (.iastore, 1) := by decide +kernel
theorem dL_law_1002 : decode cL_law 1002 = .ok (.aload 11, 2) := by decide +kernel
theorem dL_law_1004 : decode cL_law 1004 = .ok (.iconst 2, 1) := by decide +kernel
theorem dL_law_1005 : decode cL_law 1005 = .ok (.dup2, 1) := by decide +kernel
theorem dL_law_1006 : decode cL_law 1006 = .ok (.iaload, 1) := by decide +kernel
theorem dL_law_1007 : decode cL_law 1007 = .ok (.iconst 1, 1) := by decide +kernel
theorem dL_law_1008 : decode cL_law 1008 = .ok (.iadd, 1) := by decide +kernel
theorem dL_law_1009 : decode cL_law 1009 = .ok (.iastore, 1) := by decide +kernel
theorem dL_law_1010 : decode cL_law 1010 = .ok (.aload_n 1, 1) := by decide +kernel
theorem dL_law_1011 : decode cL_law 1011 = .ok (.iconst 1, 1) := by decide +kernel
theorem dL_law_1012 : decode cL_law 1012 = .ok (.iload 20, 2) := by decide +kernel
theorem dL_law_1014 : decode cL_law 1014 = .ok (.iload 21, 2) := by decide +kernel
theorem dL_law_1016 : decode cL_law 1016 = .ok (.iload 17, 2) := by decide +kernel
theorem dL_law_1018 : decode cL_law 1018 = .ok (.iload 18, 2) := by decide +kernel
theorem dL_law_1020 : decode cL_law 1020 = .ok (.iload 19, 2) := by decide +kernel
theorem dL_law_1022 : decode cL_law 1022 = .ok (.invokestatic 99, 3) := by decide +kernel
theorem dL_law_1025 : decode cL_law 1025 = .ok (.iload 24, 2) := by decide +kernel
theorem dL_law_1027 : decode cL_law 1027 = .ok (.if_icmp .ne 7, 3) := by decide +kernel
theorem dL_law_1030 : decode cL_law 1030 = .ok (.iconst 1, 1) := by decide +kernel
theorem dL_law_1031 : decode cL_law 1031 = .ok (.goto 4, 3) := by decide +kernel
theorem dL_law_1034 : decode cL_law 1034 = .ok (.iconst 0, 1) := by decide +kernel
theorem dL_law_1035 : decode cL_law 1035 = .ok (.istore 12, 2) := by decide +kernel
theorem dL_law_1037 : decode cL_law 1037 = .ok (.goto 465, 3) := by decide +kernel
theorem dL_law_1040 : decode cL_law 1040 = .ok (.iload 15, 2) := by decide +kernel
theorem dL_law_1042 : decode cL_law 1042 = .ok (.bipush 16, 2) := by decide +kernel
theorem dL_law_1044 : decode cL_law 1044 = .ok (.if_icmp .ne 101, 3) := by decide +kernel
theorem dL_law_1047 : decode cL_law 1047 = .ok (.iload 16, 2) := by decide +kernel
theorem dL_law_1049 : decode cL_law 1049 = .ok (.iconst 3, 1) := by decide +kernel
theorem dL_law_1050 : decode cL_law 1050 = .ok (.irem, 1) := by decide +kernel
theorem dL_law_1051 : decode cL_law 1051 = .ok (.ifCond .le 7, 3) := by decide +kernel
theorem dL_law_1054 : decode cL_law 1054 = .ok (.iconst 1, 1) := by decide +kernel
theorem dL_law_1055 : decode cL_law 1055 = .ok (.goto 4, 3) := by decide +kernel
theorem dL_law_1058 : decode cL_law 1058 = .ok (.iconst 0, 1) := by decide +kernel
theorem dL_law_1059 : decode cL_law 1059 = .ok (.istore 20, 2) := by decide +kernel
theorem dL_law_1061 : decode cL_law 1061 = .ok (.aload 6, 2) := by decide +kernel
theorem dL_law_1063 : decode cL_law 1063 = .ok (.iconst 2, 1) := by decide +kernel
theorem dL_law_1064 : decode cL_law 1064 = .ok (.iload 18, 2) := by decide +kernel
theorem dL_law_1066 : decode cL_law 1066 = .ok (.imul, 1) := by decide +kernel
theorem dL_law_1067 : decode cL_law 1067 = .ok (.iconst 1, 1) := by decide +kernel
theorem dL_law_1068 : decode cL_law 1068 = .ok (.iadd, 1) := by decide +kernel
theorem dL_law_1069 : decode cL_law 1069 = .ok (.iaload, 1) := by decide +kernel
theorem dL_law_1070 : decode cL_law 1070 = .ok (.iconst 1, 1) := by decide +kernel
theorem dL_law_1071 : decode cL_law 1071 = .ok (.if_icmp .ne 7, 3) := by decide +kernel
theorem dL_law_1074 : decode cL_law 1074 = .ok (.iconst 1, 1) := by decide +kernel
theorem dL_law_1075 : decode cL_law 1075 = .ok (.goto 4, 3) := by decide +kernel
theorem dL_law_1078 : decode cL_law 1078 = .ok (.iconst 0, 1) := by decide +kernel
theorem dL_law_1079 : decode cL_law 1079 = .ok (.istore 21, 2) := by decide +kernel
theorem dL_law_1081 : decode cL_law 1081 = .ok (.iload 20, 2) := by decide +kernel
theorem dL_law_1083 : decode cL_law 1083 = .ok (.ifCond .eq 20, 3) := by decide +kernel
theorem dL_law_1086 : decode cL_law 1086 = .ok (.aload 11, 2) := by decide +kernel
theorem dL_law_1088 : decode cL_law 1088 = .ok (.aload_n 2, 1) := by decide +kernel
theorem dL_law_1089 : decode cL_law 1089 = .ok (.aload_n 3, 1) := by decide +kernel
theorem dL_law_1090 : decode cL_law 1090 = .ok (.aload 4, 2) := by decide +kernel
theorem dL_law_1092 : decode cL_law 1092 = .ok (.aload 5, 2) := by decide +kernel
theorem dL_law_1094 : decode cL_law 1094 = .ok (.aload 6, 2) := by decide +kernel
theorem dL_law_1096 : decode cL_law 1096 = .ok (.aload 8, 2) := by decide +kernel
theorem dL_law_1098 : decode cL_law 1098 = .ok (.iload 18, 2) := by decide +kernel
theorem dL_law_1100 : decode cL_law 1100 = .ok (.invokestatic 107, 3) := by decide +kernel
theorem dL_law_1103 : decode cL_law 1103 = .ok (.aload 6, 2) := by decide +kernel
theorem dL_law_1105 : decode cL_law 1105 = .ok (.iconst 2, 1) := by decide +kernel
theorem dL_law_1106 : decode cL_law 1106 = .ok (.iload 18, 2) := by decide +kernel
theorem dL_law_1108 : decode cL_law 1108 = .ok (.imul, 1) := by decide +kernel
theorem dL_law_1109 : decode cL_law 1109 = .ok (.iconst 1, 1) := by decide +kernel
theorem dL_law_1110 : decode cL_law 1110 = .ok (.iadd, 1) := by decide +kernel
theorem dL_law_1111 : decode cL_law 1111 = .ok (.iload 20, 2) := by decide +kernel
theorem dL_law_1113 : decode cL_law 1113 = .ok (.ifCond .eq 7, 3) := by decide +kernel
theorem dL_law_1116 : decode cL_law 1116 = .ok (.iconst 1, 1) := by decide +kernel
theorem dL_law_1117 : decode cL_law 1117 = .ok (.goto 4, 3) := by decide +kernel
theorem dL_law_1120 : decode cL_law 1120 = .ok (.iconst 0, 1) := by decide +kernel
theorem dL_law_1121 : decode cL_law 1121 = .ok (.iastore, 1) := by decide +kernel
theorem dL_law_1122 : decode cL_law 1122 = .ok (.aload_n 1, 1) := by decide +kernel
theorem dL_law_1123 : decode cL_law 1123 = .ok (.iload 18, 2) := by decide +kernel
theorem dL_law_1125 : decode cL_law 1125 = .ok (.iload 20, 2) := by decide +kernel
theorem dL_law_1127 : decode cL_law 1127 = .ok (.invokevirtual 111, 3) := by decide +kernel
theorem dL_law_1130 : decode cL_law 1130 = .ok (.iload 21, 2) := by decide +kernel
theorem dL_law_1132 : decode cL_law 1132 = .ok (.if_icmp .ne 7, 3) := by decide +kernel
theorem dL_law_1135 : decode cL_law 1135 = .ok (.iconst 1, 1) := by decide +kernel
theorem dL_law_1136 : decode cL_law 1136 = .ok (.goto 4, 3) := by decide +kernel
theorem dL_law_1139 : decode cL_law 1139 = .ok (.iconst 0, 1) := by decide +kernel
theorem dL_law_1140 : decode cL_law 1140 = .ok (.istore 12, 2) := by decide +kernel
theorem dL_law_1142 : decode cL_law 1142 = .ok (.goto 360, 3) := by decide +kernel
theorem dL_law_1145 : decode cL_law 1145 = .ok (.iload 15, 2) := by decide +kernel
theorem dL_law_1147 : decode cL_law 1147 = .ok (.bipush 17, 2) := by decide +kernel
theorem dL_law_1149 : decode cL_law 1149 = .ok (.if_icmp .ne 96, 3) := by decide +kernel
theorem dL_law_1152 : decode cL_law 1152 = .ok (.iload 16, 2) := by decide +kernel
theorem dL_law_1154 : decode cL_law 1154 = .ok (.iconst 3, 1) := by decide +kernel
theorem dL_law_1155 : decode cL_law 1155 = .ok (.irem, 1) := by decide +kernel
theorem dL_law_1156 : decode cL_law 1156 = .ok (.ifCond .le 7, 3) := by decide +kernel
theorem dL_law_1159 : decode cL_law 1159 = .ok (.iconst 1, 1) := by decide +kernel
theorem dL_law_1160 : decode cL_law 1160 = .ok (.goto 4, 3) := by decide +kernel
theorem dL_law_1163 : decode cL_law 1163 = .ok (.iconst 0, 1) := by decide +kernel
theorem dL_law_1164 : decode cL_law 1164 = .ok (.istore 20, 2) := by decide +kernel
theorem dL_law_1166 : decode cL_law 1166 = .ok (.aload 7, 2) := by decide +kernel
theorem dL_law_1168 : decode cL_law 1168 = .ok (.iload 19, 2) := by decide +kernel
theorem dL_law_1170 : decode cL_law 1170 = .ok (.iaload, 1) := by decide +kernel
theorem dL_law_1171 : decode cL_law 1171 = .ok (.iconst 1, 1) := by decide +kernel
theorem dL_law_1172 : decode cL_law 1172 = .ok (.if_icmp .ne 7, 3) := by decide +kernel
theorem dL_law_1175 : decode cL_law 1175 = .ok (.iconst 1, 1) := by decide +kernel
theorem dL_law_1176 : decode cL_law 1176 = .ok (.goto 4, 3) := by decide +kernel
theorem dL_law_1179 : decode cL_law 1179 = .ok (.iconst 0, 1) := by decide +kernel
theorem dL_law_1180 : decode cL_law 1180 = .ok (.istore 21, 2) := by decide +kernel
theorem dL_law_1182 : decode cL_law 1182 = .ok (.iload 20, 2) := by decide +kernel
theorem dL_law_1184 : decode cL_law 1184 = .ok (.ifCond .eq 23, 3) := by decide +kernel
theorem dL_law_1187 : decode cL_law 1187 = .ok (.iload 21, 2) := by decide +kernel
theorem dL_law_1189 : decode cL_law 1189 = .ok (.ifCond .ne 18, 3) := by decide +kernel
theorem dL_law_1192 : decode cL_law 1192 = .ok (.aload 11, 2) := by decide +kernel
theorem dL_law_1194 : decode cL_law 1194 = .ok (.aload_n 2, 1) := by decide +kernel
theorem dL_law_1195 : decode cL_law 1195 = .ok (.aload_n 3, 1) := by decide +kernel
theorem dL_law_1196 : decode cL_law 1196 = .ok (.aload 4, 2) := by decide +kernel
theorem dL_law_1198 : decode cL_law 1198 = .ok (.aload 5, 2) := by decide +kernel
theorem dL_law_1200 : decode cL_law 1200 = .ok (.aload 7, 2) := by decide +kernel
theorem dL_law_1202 : decode cL_law 1202 = .ok (.iload 19, 2) := by decide +kernel
theorem dL_law_1204 : decode cL_law 1204 = .ok (.invokestatic 114, 3) := by decide +kernel
theorem dL_law_1207 : decode cL_law 1207 = .ok (.aload 7, 2) := by decide +kernel
theorem dL_law_1209 : decode cL_law 1209 = .ok (.iload 19, 2) := by decide +kernel
theorem dL_law_1211 : decode cL_law 1211 = .ok (.iload 20, 2) := by decide +kernel
theorem dL_law_1213 : decode cL_law 1213 = .ok (.ifCond .eq 7, 3) := by decide +kernel
theorem dL_law_1216 : decode cL_law 1216 = .ok (.iconst 1, 1) := by decide +kernel
theorem dL_law_1217 : decode cL_law 1217 = .ok (.goto 4, 3) := by decide +kernel
theorem dL_law_1220 : decode cL_law 1220 = .ok (.iconst 0, 1) := by decide +kernel
theorem dL_law_1221 : decode cL_law 1221 = .ok (.iastore, 1) := by decide +kernel
theorem dL_law_1222 : decode cL_law 1222 = .ok (.aload_n 1, 1) := by decide +kernel
theorem dL_law_1223 : decode cL_law 1223 = .ok (.iload 19, 2) := by decide +kernel
theorem dL_law_1225 : decode cL_law 1225 = .ok (.iload 20, 2) := by decide +kernel
theorem dL_law_1227 : decode cL_law 1227 = .ok (.invokevirtual 118, 3) := by decide +kernel
theorem dL_law_1230 : decode cL_law 1230 = .ok (.iload 21, 2) := by decide +kernel
theorem dL_law_1232 : decode cL_law 1232 = .ok (.if_icmp .ne 7, 3) := by decide +kernel
theorem dL_law_1235 : decode cL_law 1235 = .ok (.iconst 1, 1) := by decide +kernel
theorem dL_law_1236 : decode cL_law 1236 = .ok (.goto 4, 3) := by decide +kernel
theorem dL_law_1239 : decode cL_law 1239 = .ok (.iconst 0, 1) := by decide +kernel
theorem dL_law_1240 : decode cL_law 1240 = .ok (.istore 12, 2) := by decide +kernel
theorem dL_law_1242 : decode cL_law 1242 = .ok (.goto 260, 3) := by decide +kernel
theorem dL_law_1245 : decode cL_law 1245 = .ok (.iload 15, 2) := by decide +kernel
theorem dL_law_1247 : decode cL_law 1247 = .ok (.bipush 20, 2) := by decide +kernel
theorem dL_law_1249 : decode cL_law 1249 = .ok (.if_icmp .ge 143, 3) := by decide +kernel
theorem dL_law_1252 : decode cL_law 1252 = .ok (.iconst 0, 1) := by decide +kernel
theorem dL_law_1253 : decode cL_law 1253 = .ok (.istore 20, 2) := by decide +kernel
theorem dL_law_1255 : decode cL_law 1255 = .ok (.iconst 0, 1) := by decide +kernel
theorem dL_law_1256 : decode cL_law 1256 = .ok (.istore 21, 2) := by decide +kernel
theorem dL_law_1258 : decode cL_law 1258 = .ok (.iload 21, 2) := by decide +kernel
theorem dL_law_1260 : decode cL_law 1260 = .ok (.aload 11, 2) := by decide +kernel
theorem dL_law_1262 : decode cL_law 1262 = .ok (.iconst 1, 1) := by decide +kernel
theorem dL_law_1263 : decode cL_law 1263 = .ok (.iaload, 1) := by decide +kernel
theorem dL_law_1264 : decode cL_law 1264 = .ok (.if_icmp .ge 39, 3) := by decide +kernel
theorem dL_law_1267 : decode cL_law 1267 = .ok (.iload 20, 2) := by decide +kernel
theorem dL_law_1269 : decode cL_law 1269 = .ok (.aload_n 3, 1) := by decide +kernel
theorem dL_law_1270 : decode cL_law 1270 = .ok (.iload 21, 2) := by decide +kernel
theorem dL_law_1272 : decode cL_law 1272 = .ok (.iaload, 1) := by decide +kernel
theorem dL_law_1273 : decode cL_law 1273 = .ok (.iconst 2, 1) := by decide +kernel
theorem dL_law_1274 : decode cL_law 1274 = .ok (.if_icmp .ne 19, 3) := by decide +kernel
theorem dL_law_1277 : decode cL_law 1277 = .ok (.aload 4, 2) := by decide +kernel
theorem dL_law_1279 : decode cL_law 1279 = .ok (.iload 21, 2) := by decide +kernel
theorem dL_law_1281 : decode cL_law 1281 = .ok (.iaload, 1) := by decide +kernel
theorem dL_law_1282 : decode cL_law 1282 = .ok (.iload 18, 2) := by decide +kernel
theorem dL_law_1284 : decode cL_law 1284 = .ok (.iconst 1, 1) := by decide +kernel
theorem dL_law_1285 : decode cL_law 1285 = .ok (.iadd, 1) := by decide +kernel
theorem dL_law_1286 : decode cL_law 1286 = .ok (.if_icmp .ne 7, 3) := by decide +kernel
theorem dL_law_1289 : decode cL_law 1289 = .ok (.iconst 1, 1) := by decide +kernel
theorem dL_law_1290 : decode cL_law 1290 = .ok (.goto 4, 3) := by decide +kernel
theorem dL_law_1293 : decode cL_law 1293 = .ok (.iconst 0, 1) := by decide +kernel
theorem dL_law_1294 : decode cL_law 1294 = .ok (.iadd, 1) := by decide +kernel
theorem dL_law_1295 : decode cL_law 1295 = .ok (.istore 20, 2) := by decide +kernel
theorem dL_law_1297 : decode cL_law 1297 = .ok (.iinc 21 1, 3) := by decide +kernel
theorem dL_law_1300 : decode cL_law 1300 = .ok (.goto (-42), 3) := by decide +kernel
theorem dL_law_1303 : decode cL_law 1303 = .ok (.iload 16, 2) := by decide +kernel
theorem dL_law_1305 : decode cL_law 1305 = .ok (.iconst 2, 1) := by decide +kernel
theorem dL_law_1306 : decode cL_law 1306 = .ok (.irem, 1) := by decide +kernel
theorem dL_law_1307 : decode cL_law 1307 = .ok (.istore 21, 2) := by decide +kernel
theorem dL_law_1309 : decode cL_law 1309 = .ok (.iload 20, 2) := by decide +kernel
theorem dL_law_1311 : decode cL_law 1311 = .ok (.ifCond .le 8, 3) := by decide +kernel
theorem dL_law_1314 : decode cL_law 1314 = .ok (.bipush (-13), 2) := by decide +kernel
theorem dL_law_1316 : decode cL_law 1316 = .ok (.goto 26, 3) := by decide +kernel
theorem dL_law_1319 : decode cL_law 1319 = .ok (.aload 8, 2) := by decide +kernel
theorem dL_law_1321 : decode cL_law 1321 = .ok (.iload 21, 2) := by decide +kernel
theorem dL_law_1323 : decode cL_law 1323 = .ok (.iaload, 1) := by decide +kernel
theorem dL_law_1324 : decode cL_law 1324 = .ok (.iload 18, 2) := by decide +kernel
theorem dL_law_1326 : decode cL_law 1326 = .ok (.iconst 1, 1) := by decide +kernel
theorem dL_law_1327 : decode cL_law 1327 = .ok (.iadd, 1) := by decide +kernel
theorem dL_law_1328 : decode cL_law 1328 = .ok (.if_icmp .ne 7, 3) := by decide +kernel
theorem dL_law_1331 : decode cL_law 1331 = .ok (.iconst (-1), 1) := by decide +kernel
theorem dL_law_1332 : decode cL_law 1332 = .ok (.goto 10, 3) := by decide +kernel
theorem dL_law_1335 : decode cL_law 1335 = .ok (.aload 8, 2) := by decide +kernel
theorem dL_law_1337 : decode cL_law 1337 = .ok (.iload 21, 2) := by decide +kernel
theorem dL_law_1339 : decode cL_law 1339 = .ok (.iaload, 1) := by decide +kernel
theorem dL_law_1340 : decode cL_law 1340 = .ok (.iconst 1, 1) := by decide +kernel
theorem dL_law_1341 : decode cL_law 1341 = .ok (.isub, 1) := by decide +kernel
theorem dL_law_1342 : decode cL_law 1342 = .ok (.istore 22, 2) := by decide +kernel
theorem dL_law_1344 : decode cL_law 1344 = .ok (.iload 20, 2) := by decide +kernel
theorem dL_law_1346 : decode cL_law 1346 = .ok (.ifCond .ne 19, 3) := by decide +kernel
theorem dL_law_1349 : decode cL_law 1349 = .ok (.aload 8, 2) := by decide +kernel
theorem dL_law_1351 : decode cL_law 1351 = .ok (.iload 18, 2) := by decide +kernel
theorem dL_law_1353 : decode cL_law 1353 = .ok (.invokestatic 17, 3) := by decide +kernel
theorem dL_law_1356 : decode cL_law 1356 = .ok (.aload 8, 2) := by decide +kernel
theorem dL_law_1358 : decode cL_law 1358 = .ok (.iload 21, 2) := by decide +kernel
theorem dL_law_1360 : decode cL_law 1360 = .ok (.iload 18, 2) := by decide +kernel
theorem dL_law_1362 : decode cL_law 1362 = .ok (.iconst 1, 1) := by decide +kernel
theorem dL_law_1363 : decode cL_law 1363 = .ok (.iadd, 1) := by decide +kernel
theorem dL_law_1364 : decode cL_law 1364 = .ok (.iastore, 1) := by decide +kernel
theorem dL_law_1365 : decode cL_law 1365 = .ok (.aload_n 1, 1) := by decide +kernel
theorem dL_law_1366 : decode cL_law 1366 = .ok (.iconst 2, 1) := by decide +kernel
theorem dL_law_1367 : decode cL_law 1367 = .ok (.iload 18, 2) := by decide +kernel
theorem dL_law_1369 : decode cL_law 1369 = .ok (.iload 21, 2) := by decide +kernel
theorem dL_law_1371 : decode cL_law 1371 = .ok (.iconst 0, 1) := by decide +kernel
theorem dL_law_1372 : decode cL_law 1372 = .ok (.iconst 0, 1) := by decide +kernel
theorem dL_law_1373 : decode cL_law 1373 = .ok (.iconst 0, 1) := by decide +kernel
theorem dL_law_1374 : decode cL_law 1374 = .ok (.invokestatic 99, 3) := by decide +kernel
theorem dL_law_1377 : decode cL_law 1377 = .ok (.iload 22, 2) := by decide +kernel
theorem dL_law_1379 : decode cL_law 1379 = .ok (.if_icmp .ne 7, 3) := by decide +kernel
theorem dL_law_1382 : decode cL_law 1382 = .ok (.iconst 1, 1) := by decide +kernel
theorem dL_law_1383 : decode cL_law 1383 = .ok (.goto 4, 3) := by decide +kernel
theorem dL_law_1386 : decode cL_law 1386 = .ok (.iconst 0, 1) := by decide +kernel
theorem dL_law_1387 : decode cL_law 1387 = .ok (.istore 12, 2) := by decide +kernel
theorem dL_law_1389 : decode cL_law 1389 = .ok (.goto 113, 3) := by decide +kernel
theorem dL_law_1392 : decode cL_law 1392 = .ok (.iconst 1, 1) := by decide +kernel
theorem dL_law_1393 : decode cL_law 1393 = .ok (.iload 16, 2) := by decide +kernel
theorem dL_law_1395 : decode cL_law 1395 = .ok (.iload 16, 2) := by decide +kernel
theorem dL_law_1397 : decode cL_law 1397 = .ok (.bipush 6, 2) := by decide +kernel
theorem dL_law_1399 : decode cL_law 1399 = .ok (.irem, 1) := by decide +kernel
theorem dL_law_1400 : decode cL_law 1400 = .ok (.ifCond .ne 9, 3) := by decide +kernel
theorem dL_law_1403 : decode cL_law 1403 = .ok (.sipush 1000, 3) := by decide +kernel
theorem dL_law_1406 : decode cL_law 1406 = .ok (.goto 20, 3) := by decide +kernel
theorem dL_law_1409 : decode cL_law 1409 = .ok (.iload 16, 2) := by decide +kernel
theorem dL_law_1411 : decode cL_law 1411 = .ok (.bipush 6, 2) := by decide +kernel
theorem dL_law_1413 : decode cL_law 1413 = .ok (.irem, 1) := by decide +kernel
theorem dL_law_1414 : decode cL_law 1414 = .ok (.iconst 3, 1) := by decide +kernel
theorem dL_law_1415 : decode cL_law 1415 = .ok (.if_icmp .ge 8, 3) := by decide +kernel
theorem dL_law_1418 : decode cL_law 1418 = .ok (.bipush 30, 2) := by decide +kernel
theorem dL_law_1420 : decode cL_law 1420 = .ok (.goto 6, 3) := by decide +kernel
theorem dL_law_1423 : decode cL_law 1423 = .ok (.sipush 150, 3) := by decide +kernel
theorem dL_law_1426 : decode cL_law 1426 = .ok (.irem, 1) := by decide +kernel
theorem dL_law_1427 : decode cL_law 1427 = .ok (.iadd, 1) := by decide +kernel
theorem dL_law_1428 : decode cL_law 1428 = .ok (.istore 20, 2) := by decide +kernel
theorem dL_law_1430 : decode cL_law 1430 = .ok (.aload 11, 2) := by decide +kernel
theorem dL_law_1432 : decode cL_law 1432 = .ok (.iconst 0, 1) := by decide +kernel
theorem dL_law_1433 : decode cL_law 1433 = .ok (.iaload, 1) := by decide +kernel
theorem dL_law_1434 : decode cL_law 1434 = .ok (.iload 20, 2) := by decide +kernel
theorem dL_law_1436 : decode cL_law 1436 = .ok (.iadd, 1) := by decide +kernel
theorem dL_law_1437 : decode cL_law 1437 = .ok (.sipush 30000, 3) := by decide +kernel
theorem dL_law_1440 : decode cL_law 1440 = .ok (.if_icmp .le 8, 3) := by decide +kernel
theorem dL_law_1443 : decode cL_law 1443 = .ok (.bipush (-13), 2) := by decide +kernel
theorem dL_law_1445 : decode cL_law 1445 = .ok (.goto 10, 3) := by decide +kernel
theorem dL_law_1448 : decode cL_law 1448 = .ok (.aload 11, 2) := by decide +kernel
theorem dL_law_1450 : decode cL_law 1450 = .ok (.iconst 0, 1) := by decide +kernel
theorem dL_law_1451 : decode cL_law 1451 = .ok (.iaload, 1) := by decide +kernel
theorem dL_law_1452 : decode cL_law 1452 = .ok (.iload 20, 2) := by decide +kernel
theorem dL_law_1454 : decode cL_law 1454 = .ok (.iadd, 1) := by decide +kernel
theorem dL_law_1455 : decode cL_law 1455 = .ok (.istore 21, 2) := by decide +kernel
theorem dL_law_1457 : decode cL_law 1457 = .ok (.iload 21, 2) := by decide +kernel
theorem dL_law_1459 : decode cL_law 1459 = .ok (.ifCond .le 20, 3) := by decide +kernel
theorem dL_law_1462 : decode cL_law 1462 = .ok (.aload 11, 2) := by decide +kernel
theorem dL_law_1464 : decode cL_law 1464 = .ok (.aload_n 2, 1) := by decide +kernel
theorem dL_law_1465 : decode cL_law 1465 = .ok (.aload_n 3, 1) := by decide +kernel
theorem dL_law_1466 : decode cL_law 1466 = .ok (.aload 4, 2) := by decide +kernel
theorem dL_law_1468 : decode cL_law 1468 = .ok (.aload 5, 2) := by decide +kernel
theorem dL_law_1470 : decode cL_law 1470 = .ok (.aload 6, 2) := by decide +kernel
theorem dL_law_1472 : decode cL_law 1472 = .ok (.aload 8, 2) := by decide +kernel
theorem dL_law_1474 : decode cL_law 1474 = .ok (.iload 21, 2) := by decide +kernel
theorem dL_law_1476 : decode cL_law 1476 = .ok (.invokestatic 120, 3) := by decide +kernel
theorem dL_law_1479 : decode cL_law 1479 = .ok (.aload_n 1, 1) := by decide +kernel
theorem dL_law_1480 : decode cL_law 1480 = .ok (.iconst 3, 1) := by decide +kernel
theorem dL_law_1481 : decode cL_law 1481 = .ok (.iload 20, 2) := by decide +kernel
theorem dL_law_1483 : decode cL_law 1483 = .ok (.iconst 0, 1) := by decide +kernel
theorem dL_law_1484 : decode cL_law 1484 = .ok (.iconst 0, 1) := by decide +kernel
theorem dL_law_1485 : decode cL_law 1485 = .ok (.iconst 0, 1) := by decide +kernel
theorem dL_law_1486 : decode cL_law 1486 = .ok (.iconst 0, 1) := by decide +kernel
theorem dL_law_1487 : decode cL_law 1487 = .ok (.invokestatic 99, 3) := by decide +kernel
theorem dL_law_1490 : decode cL_law 1490 = .ok (.iload 21, 2) := by decide +kernel
theorem dL_law_1492 : decode cL_law 1492 = .ok (.if_icmp .ne 7, 3) := by decide +kernel
theorem dL_law_1495 : decode cL_law 1495 = .ok (.iconst 1, 1) := by decide +kernel
theorem dL_law_1496 : decode cL_law 1496 = .ok (.goto 4, 3) := by decide +kernel
theorem dL_law_1499 : decode cL_law 1499 = .ok (.iconst 0, 1) := by decide +kernel
theorem dL_law_1500 : decode cL_law 1500 = .ok (.istore 12, 2) := by decide +kernel
theorem dL_law_1502 : decode cL_law 1502 = .ok (.iload 12, 2) := by decide +kernel
theorem dL_law_1504 : decode cL_law 1504 = .ok (.ifCond .eq 36, 3) := by decide +kernel
theorem dL_law_1507 : decode cL_law 1507 = .ok (.iload 13, 2) := by decide +kernel
theorem dL_law_1509 : decode cL_law 1509 = .ok (.iconst 3, 1) := by decide +kernel
theorem dL_law_1510 : decode cL_law 1510 = .ok (.irem, 1) := by decide +kernel
theorem dL_law_1511 : decode cL_law 1511 = .ok (.iconst 2, 1) := by decide +kernel
theorem dL_law_1512 : decode cL_law 1512 = .ok (.if_icmp .lt 24, 3) := by decide +kernel
theorem dL_law_1515 : decode cL_law 1515 = .ok (.aload_n 1, 1) := by decide +kernel
theorem dL_law_1516 : decode cL_law 1516 = .ok (.aload 11, 2) := by decide +kernel
theorem dL_law_1518 : decode cL_law 1518 = .ok (.aload_n 2, 1) := by decide +kernel
theorem dL_law_1519 : decode cL_law 1519 = .ok (.aload_n 3, 1) := by decide +kernel
theorem dL_law_1520 : decode cL_law 1520 = .ok (.aload 4, 2) := by decide +kernel
theorem dL_law_1522 : decode cL_law 1522 = .ok (.aload 5, 2) := by decide +kernel
theorem dL_law_1524 : decode cL_law 1524 = .ok (.aload 6, 2) := by decide +kernel
theorem dL_law_1526 : decode cL_law 1526 = .ok (.aload 9, 2) := by decide +kernel
theorem dL_law_1528 : decode cL_law 1528 = .ok (.iload 16, 2) := by decide +kernel
theorem dL_law_1530 : decode cL_law 1530 = .ok (.invokestatic 93, 3) := by decide +kernel
theorem dL_law_1533 : decode cL_law 1533 = .ok (.ifCond .eq 7, 3) := by decide +kernel
theorem dL_law_1536 : decode cL_law 1536 = .ok (.iconst 1, 1) := by decide +kernel
theorem dL_law_1537 : decode cL_law 1537 = .ok (.goto 4, 3) := by decide +kernel
theorem dL_law_1540 : decode cL_law 1540 = .ok (.iconst 0, 1) := by decide +kernel
theorem dL_law_1541 : decode cL_law 1541 = .ok (.istore 12, 2) := by decide +kernel
theorem dL_law_1543 : decode cL_law 1543 = .ok (.iinc 13 1, 3) := by decide +kernel
theorem dL_law_1546 : decode cL_law 1546 = .ok (.goto (-1437), 3) := by decide +kernel
theorem dL_law_1549 : decode cL_law 1549 = .ok (.iload 12, 2) := by decide +kernel
theorem dL_law_1551 : decode cL_law 1551 = .ok (.ifCond .eq 28, 3) := by decide +kernel
theorem dL_law_1554 : decode cL_law 1554 = .ok (.aload_n 1, 1) := by decide +kernel
theorem dL_law_1555 : decode cL_law 1555 = .ok (.aload 11, 2) := by decide +kernel
theorem dL_law_1557 : decode cL_law 1557 = .ok (.aload_n 2, 1) := by decide +kernel
theorem dL_law_1558 : decode cL_law 1558 = .ok (.aload_n 3, 1) := by decide +kernel
theorem dL_law_1559 : decode cL_law 1559 = .ok (.aload 4, 2) := by decide +kernel
theorem dL_law_1561 : decode cL_law 1561 = .ok (.aload 5, 2) := by decide +kernel
theorem dL_law_1563 : decode cL_law 1563 = .ok (.aload 6, 2) := by decide +kernel
theorem dL_law_1565 : decode cL_law 1565 = .ok (.aload 9, 2) := by decide +kernel
theorem dL_law_1567 : decode cL_law 1567 = .ok (.bipush 7, 2) := by decide +kernel
theorem dL_law_1569 : decode cL_law 1569 = .ok (.invokestatic 93, 3) := by decide +kernel
theorem dL_law_1572 : decode cL_law 1572 = .ok (.ifCond .eq 7, 3) := by decide +kernel
theorem dL_law_1575 : decode cL_law 1575 = .ok (.iconst 1, 1) := by decide +kernel
theorem dL_law_1576 : decode cL_law 1576 = .ok (.goto 4, 3) := by decide +kernel
theorem dL_law_1579 : decode cL_law 1579 = .ok (.iconst 0, 1) := by decide +kernel
theorem dL_law_1580 : decode cL_law 1580 = .ok (.ireturn, 1) := by decide +kernel
abbrev vwCl : List vw_C := [(RX0, TX0, 6), (RX1, TX1, 12)]
end
section
/-! THE LAYER: goals over a world and a list of locals; heap, locations and slots hidden -/
theorem vP_iff {D : va_G} {cl : List vw_C} {ws : va_W} {H : Heap} : va_P D cl ws H ↔ ∀ q ∈ ws, va_at D cl q H := by
  refine ⟨fun h q hq => ?_, fun h k q hk => h q (List.mem_of_getElem? hk)⟩
  obtain ⟨i, hi⟩ := List.getElem?_of_mem hq
  exact h i q hi
theorem vD_iff {A : Nat → Prop} {ws : va_W} : va_D A ws ↔ (ws.map (·.1)).Nodup ∧ ∀ q ∈ ws, A q.1 := by
  constructor
  · intro h
    refine ⟨?_, fun q hq => ?_⟩
    · rw [List.nodup_iff_pairwise_ne, List.pairwise_iff_getElem]
      intro i j hi hj hij he
      simp only [List.length_map] at hi hj
      simp only [List.getElem_map] at he
      have := h.1 i j ws[i] ws[j] (List.getElem?_eq_getElem hi) (List.getElem?_eq_getElem hj) he
      omega
    · obtain ⟨i, hi⟩ := List.getElem?_of_mem hq
      exact h.2 i q hi
  · intro h
    obtain ⟨h1, h2⟩ := h
    refine ⟨fun i j p q hi hj hpq => ?_, fun k q hk => h2 q (List.mem_of_getElem? hk)⟩
    rw [List.nodup_iff_pairwise_ne, List.pairwise_iff_getElem] at h1
    obtain ⟨li, ei⟩ := List.getElem?_eq_some_iff.mp hi
    obtain ⟨lj, ej⟩ := List.getElem?_eq_some_iff.mp hj
    rcases Nat.lt_trichotomy i j with h | h | h
    · refine absurd ?_ (h1 i j (by simpa using li) (by simpa using lj) h)
      simp only [List.getElem_map]
      rw [ei, ej]
      exact hpq
    · exact h
    · refine absurd ?_ (h1 j i (by simpa using lj) (by simpa using li) h)
      simp only [List.getElem_map]
      rw [ei, ej]
      exact hpq.symm
/-- a callee's world inside the caller's, before and behind the call -/
theorem v_join {D : va_G} {cl : List vw_C} {A : Nat → Prop} {wl wc wr w1 : va_W} {H H1 : Heap} (hP : va_P D cl (wl ++ (wc ++ wr)) H) (hD : va_D A (wl ++ (wc ++ wr))) (hF : ∀ q, va_A wc H.size q → A q)
    (hk : ∀ q : Nat, q < H.size → ¬ va_A wc H.size q → H1[q]? = H[q]?) (hP1 : va_P D cl w1 H1) (hD1 : va_D (va_A wc H.size) w1) : va_P D cl (wl ++ (w1 ++ wr)) H1 ∧ va_D A (wl ++ (w1 ++ wr)) := by
  rw [vP_iff] at hP hP1
  rw [vD_iff] at hD
  have hD1' := hD1
  rw [vD_iff] at hD1
  obtain ⟨hn, hA⟩ := hD
  simp only [List.map_append, List.nodup_append, List.mem_append, List.mem_map] at hn
  have far : ∀ q, (q ∈ wl ∨ q ∈ wr) → q.1 < H.size ∧ ¬ va_A wc H.size q.1 := by
    intro q hq
    have hl : q.1 < H.size := (hP q (by simp only [List.mem_append]; rcases hq with h | h; exact Or.inl h; exact Or.inr (Or.inr h))).lt
    refine ⟨hl, fun h => ?_⟩
    rcases h with ⟨k, e, h⟩ | h
    · have hm : (q.1, e) ∈ wc := List.mem_of_getElem? h
      rcases hq with hq | hq
      · exact hn.2.2 q.1 ⟨q, hq, rfl⟩ q.1 (Or.inl ⟨(q.1, e), hm, rfl⟩) rfl
      · exact hn.2.1.2.2 q.1 ⟨(q.1, e), hm, rfl⟩ q.1 ⟨q, hq, rfl⟩ rfl
    · omega
  have old : ∀ q, (q ∈ wl ∨ q ∈ wr) → va_at D cl q H1 := by
    intro q hq
    obtain ⟨h1, h2⟩ := far q hq
    exact (hP q (by simp only [List.mem_append]; rcases hq with h | h; exact Or.inl h; exact Or.inr (Or.inr h))).kept (hk q.1 h1 h2)
  constructor
  · rw [vP_iff]
    intro q hq
    simp only [List.mem_append] at hq
    rcases hq with h | h | h
    · exact old q (Or.inl h)
    · exact hP1 q h
    · exact old q (Or.inr h)
  · rw [vD_iff]
    constructor
    · simp only [List.map_append, List.nodup_append, List.mem_append, List.mem_map]
      refine ⟨hn.1, ⟨hD1.1, hn.2.1.2.1, ?_⟩, ?_⟩
      · rintro a ⟨x, hx, rfl⟩ b ⟨y, hy, rfl⟩ hxy
        exact (far y (Or.inr hy)).2 (by rw [← hxy]; exact hD1.2 x hx)
      · rintro a ⟨x, hx, rfl⟩ b hb hxy
        rcases hb with ⟨y, hy, rfl⟩ | ⟨y, hy, rfl⟩
        · exact (far x (Or.inl hx)).2 (by rw [hxy]; exact hD1.2 y hy)
        · exact hn.2.2 x.1 ⟨x, hx, rfl⟩ y.1 (Or.inr ⟨y, hy, rfl⟩) hxy
    · intro q hq
      simp only [List.mem_append] at hq
      rcases hq with h | h | h
      · exact hA q (by simp [h])
      · exact hF _ (hD1.2 q h)
      · exact hA q (by simp [h])
theorem v_in {D : va_G} {cl : List vw_C} {A : Nat → Prop} {wl wc wr : va_W} {H : Heap} (hP : va_P D cl (wl ++ (wc ++ wr)) H) (hD : va_D A (wl ++ (wc ++ wr))) : va_P D cl wc H ∧ va_D A wc := by
  rw [vP_iff] at hP ⊢
  rw [vD_iff] at hD ⊢
  refine ⟨fun q hq => hP q (by simp [hq]), ?_, fun q hq => hD.2 q (by simp [hq])⟩
  have h := hD.1
  simp only [List.map_append, List.nodup_append] at h
  exact h.2.1.1
theorem v_free {A : Nat → Prop} {wc : va_W} {H0 H : Heap} {locs : List Loc} (hD : va_D A wc) (hS : va_S A H0 H locs) (hA : ∀ q : Nat, H0.size ≤ q → A q) : ∀ q, va_A wc H.size q → A q := by
  intro q h
  rcases h with ⟨k, e, h⟩ | h
  · exact hD.2 k (q, e) h
  · exact hA q (Nat.le_trans hS.1 h)
-- locals by their places
def lo_l (lo : List (Option Value)) : List (Nat × Value) := (List.range lo.length).filterMap (fun i => match lo[i]? with | some (some v) => some (i, v) | _ => none)
def lo_has (ls : Array Slot) (nL : Nat) (lo : List (Option Value)) : Prop := lv_has ls nL [] ∧ ∀ (i : Nat) (v : Value), lo[i]? = some (some v) → v.category = 1 ∧ ls[i]? = some (.val v)
theorem lo_mem {lo : List (Option Value)} {q : Nat × Value} : q ∈ lo_l lo ↔ lo[q.1]? = some (some q.2) := by
  obtain ⟨i, v⟩ := q
  unfold lo_l
  rw [List.mem_filterMap]
  constructor
  · rintro ⟨a, _, h⟩
    split at h
    next u hu => cases h; exact hu
    next => cases h
  · intro h
    refine ⟨i, List.mem_range.mpr (List.getElem?_eq_some_iff.mp h).1, ?_⟩
    dsimp only at h
    rw [h]
theorem lo_al {ls : Array Slot} {nL : Nat} {lo : List (Option Value)} (h : lo_has ls nL lo) : lv_has ls nL (lo_l lo) := ⟨h.1.1, h.1.2.1, fun q hq => (h.2 q.1 q.2 (lo_mem.mp hq)).2⟩
theorem lo_at {ls : Array Slot} {nL : Nat} {lo : List (Option Value)} (h : lo_has ls nL lo) {i : Nat} {v : Value} (hi : lo[i]? = some (some v)) : ls[i]? = some (.val v) := (h.2 i v hi).2
theorem lo_st {ls ls' : Array Slot} {nL : Nat} {lo : List (Option Value)} (h : lo_has ls nL lo) {i : Nat} {v : Value} (hc : v.category = 1) (h' : lv_has ls' nL ((i, v) :: (lo_l lo).filter (fun q => !(q.1 == i) && !(q.1 + 1 == i && q.2.category == 2)))) : lo_has ls' nL (lo.set i (some v)) := by
  refine ⟨⟨h'.1, h'.2.1, fun q hq => nomatch hq⟩, fun j u hj => ?_⟩
  rw [List.getElem?_set] at hj
  by_cases hij : i = j
  · subst hij
    rw [if_pos rfl] at hj
    split at hj
    · cases hj
      exact ⟨hc, h'.2.2 (i, v) List.mem_cons_self⟩
    · cases hj
  · rw [if_neg hij] at hj
    have hu := h.2 j u hj
    refine ⟨hu.1, h'.2.2 (j, u) (List.mem_cons_of_mem _ (List.mem_filter.mpr ⟨lo_mem.mpr hj, ?_⟩))⟩
    have h1 : (j == i) = false := by simp; omega
    simp [hu.1, h1]
theorem lo_sl (vs : List Value) (hc : ∀ v ∈ vs, v.category = 1) : lg_sl vs = vs.map Slot.val := by
  induction vs with
  | nil => rfl
  | cons v vs ih =>
    have h1 : ¬ v.category = 2 := by have := hc v List.mem_cons_self; omega
    have h2 := ih (fun u hu => hc u (List.mem_cons_of_mem _ hu))
    unfold lg_sl at h2 ⊢
    rw [List.flatMap_cons, if_neg h1, h2]
    rfl
theorem lo_entry (vs : List Value) {n : Nat} (hc : ∀ v ∈ vs, v.category = 1) (hn : vs.length ≤ n) : lo_has ((lg_sl vs ++ List.replicate (n - (lg_sl vs).length) Slot.unset).toArray) n (vs.map some ++ List.replicate (n - vs.length) none) := by
  have e := lo_sl vs hc
  have h := lv_entry vs (n := n) (by rw [e, List.length_map]; exact hn)
  refine ⟨⟨h.1, h.2.1, fun q hq => nomatch hq⟩, fun i v hi => ?_⟩
  by_cases hl : i < vs.length
  · rw [List.getElem?_append_left (by simpa using hl), List.getElem?_map] at hi
    cases hv : vs[i]? with
    | none => rw [hv] at hi; cases hi
    | some u =>
      rw [hv] at hi
      cases hi
      refine ⟨hc v (List.mem_of_getElem? hv), ?_⟩
      rw [e, List.getElem?_toArray, List.getElem?_append_left (by simpa using hl), List.getElem?_map, hv]
      rfl
  · rw [List.getElem?_append_right (by simpa using hl)] at hi
    have := List.eq_of_mem_replicate (List.mem_of_getElem? hi)
    cases this
abbrev tyL (cy : Nat → ClassId) : List (ClassId × FieldType) := [(cy 0, .int), (cy 1, .boolean), (cy 2, .object "DepotLog$Run")]
/-- what a walk stands on: the call's fixed things, the tables, the method's own -/
def vC (p : Program) (s : State) (m : MethodId) (args : Array Value) (meth : Method) (c : Code) (cc : ByteArray) (nL : Nat) (Ts : List Cond) (own : String) (ret : Option FieldType) (G : va_G) (cy : Nat → ClassId) (A : Nat → Prop) : Prop :=
  CallFix p m c cc nL s args Ts own ∧ va_K G vwCl (tyL cy) s ∧ (∀ q : Nat, s.heap.size ≤ q → A q) ∧ meth.sig.returnType = ret ∧ meth.locks = false
/-- the goal: from every heap that holds the world w, with these locals and this stack -/
def V (p : Program) (l : Launch) (e : Env) (R : Room) (s : State) (m : MethodId) (args : Array Value) (below : List Frame) (meth : Method) (c : Code) (nL : Nat) (G : va_G) (A : Nat → Prop) (Q : State → Prop) (w : va_W) (cells slots : Nat) (pc : Nat) (lo : List (Option Value)) (st : List Value) : Prop :=
  ∀ (H : Heap) (locs : List Loc) (ls : Array Slot), va_P G vwCl w H → va_D A w → va_S A s.heap H locs → lo_has ls nL lo → W p l e R s m args below meth c H locs cells slots Q (F0 m pc ls st)
section VL
variable {p : Program} {l : Launch} {e : Env} {R : Room} {s : State} {m : MethodId} {args : Array Value} {below : List Frame} {meth : Method} {c : Code} {cells slots : Nat} {Q : State → Prop} {cc : ByteArray} {nL : Nat} {Ts : List Cond} {own : String} {ret : Option FieldType} {G : va_G} {cy : Nat → ClassId} {A : Nat → Prop} {w w' : va_W} {pc : Nat} {lo lo' : List (Option Value)} {st st' : List Value}
theorem V.exec (C : vC p s m args meth c cc nL Ts own ret G cy A) : p.tables.exec = Jvm.exec := C.1.1
theorem V.ew (h : w = w') (k : V p l e R s m args below meth c nL G A Q w' cells slots pc lo st) : V p l e R s m args below meth c nL G A Q w cells slots pc lo st := h ▸ k
theorem V.el (h : lo = lo') (k : V p l e R s m args below meth c nL G A Q w cells slots pc lo' st) : V p l e R s m args below meth c nL G A Q w cells slots pc lo st := h ▸ k
theorem V.es (h : st = st') (k : V p l e R s m args below meth c nL G A Q w cells slots pc lo st') : V p l e R s m args below meth c nL G A Q w cells slots pc lo st := h ▸ k
theorem V.lof (i : Nat) (k : V p l e R s m args below meth c nL G A Q w cells slots pc (lo.set i none) st) : V p l e R s m args below meth c nL G A Q w cells slots pc lo st := fun H locs ls hP hD hS hl => k H locs ls hP hD hS ⟨hl.1, fun j v hj => hl.2 j v (by
  rw [List.getElem?_set] at hj
  split at hj
  · split at hj <;> cases hj
  · exact hj)⟩
theorem V.widen {k n : Nat} (h1 : cells ≤ k) (h2 : slots ≤ n) (kk : V p l e R s m args below meth c nL G A Q w k n pc lo st) : V p l e R s m args below meth c nL G A Q w cells slots pc lo st := fun H locs ls hP hD hS hl => W.widen h1 h2 (kk H locs ls hP hD hS hl)
/-- a loop: S the world, L the locals, P what holds, at the head of each round -/
theorem V.loop (S : Nat → va_W) (L : Nat → List (Option Value)) (P : Nat → Prop) (n : Nat)
    (step : ∀ k, k ≤ n → P k → (k < n → P (k + 1) → V p l e R s m args below meth c nL G A Q (S (k + 1)) cells slots pc (L (k + 1)) st) → V p l e R s m args below meth c nL G A Q (S k) cells slots pc (L k) st) (h0 : P 0) : V p l e R s m args below meth c nL G A Q (S 0) cells slots pc (L 0) st := by
  have key : ∀ (f k : Nat), n < k + f → k ≤ n → P k → V p l e R s m args below meth c nL G A Q (S k) cells slots pc (L k) st := by
    intro f
    induction f with
    | zero => intro k h1 h2; omega
    | succ f ih => intro k h1 h2 hp; exact step k h2 hp (fun h3 h4 => ih (k + 1) (by omega) (by omega) h4)
  exact key (n + 1) 0 (by omega) (by omega) h0

theorem v_iconst (C : vC p s m args meth c cc nL Ts own ret G cy A) {n : Int} (v : Int32) (hd : decode cc pc = .ok (.iconst n, 1)) (hv : Int32.ofInt n = v) (k : V p l e R s m args below meth c nL G A Q w cells slots (pc + 1) lo (.int v :: st)) : V p l e R s m args below meth c nL G A Q w cells slots (pc) lo (st) := fun H locs ls hP hD hS hl => lv_iconst C.1.1 C.1.2.1 hd hv (k H locs ls hP hD hS hl)
theorem v_bipush (C : vC p s m args meth c cc nL Ts own ret G cy A) {n : Int} (v : Int32) (hd : decode cc pc = .ok (.bipush n, 2)) (hv : (Int8.ofInt n).toInt32 = v) (k : V p l e R s m args below meth c nL G A Q w cells slots (pc + 2) lo (.int v :: st)) : V p l e R s m args below meth c nL G A Q w cells slots (pc) lo (st) := fun H locs ls hP hD hS hl => lv_bipush C.1.1 C.1.2.1 hd hv (k H locs ls hP hD hS hl)
theorem v_sipush (C : vC p s m args meth c cc nL Ts own ret G cy A) {n : Int} (v : Int32) (hd : decode cc pc = .ok (.sipush n, 3)) (hv : (Int16.ofInt n).toInt32 = v) (k : V p l e R s m args below meth c nL G A Q w cells slots (pc + 3) lo (.int v :: st)) : V p l e R s m args below meth c nL G A Q w cells slots (pc) lo (st) := fun H locs ls hP hD hS hl => lv_sipush C.1.1 C.1.2.1 hd hv (k H locs ls hP hD hS hl)
theorem v_iload_n (C : vC p s m args meth c cc nL Ts own ret G cy A) {j : Fin 4} {x : Int32} (hd : decode cc pc = .ok (.iload_n j, 1)) (hv : lo[(j : Nat)]? = some (some (.int x))) (k : V p l e R s m args below meth c nL G A Q w cells slots (pc + 1) lo (.int x :: st)) : V p l e R s m args below meth c nL G A Q w cells slots (pc) lo (st) := fun H locs ls hP hD hS hl => lv_iload_n C.1.1 C.1.2.1 hd rfl (lo_at hl hv) (k H locs ls hP hD hS hl)
theorem v_iload (C : vC p s m args meth c cc nL Ts own ret G cy A) {j : Nat} {x : Int32} (hd : decode cc pc = .ok (.iload j, 2)) (hv : lo[j]? = some (some (.int x))) (k : V p l e R s m args below meth c nL G A Q w cells slots (pc + 2) lo (.int x :: st)) : V p l e R s m args below meth c nL G A Q w cells slots (pc) lo (st) := fun H locs ls hP hD hS hl => lv_iload C.1.1 C.1.2.1 hd (lo_at hl hv) (k H locs ls hP hD hS hl)
theorem v_aload_n (C : vC p s m args meth c cc nL Ts own ret G cy A) {j : Fin 4} {x : Nat} (hd : decode cc pc = .ok (.aload_n j, 1)) (hv : lo[(j : Nat)]? = some (some (.ref x))) (k : V p l e R s m args below meth c nL G A Q w cells slots (pc + 1) lo (.ref x :: st)) : V p l e R s m args below meth c nL G A Q w cells slots (pc) lo (st) := fun H locs ls hP hD hS hl => lv_aload_n C.1.1 C.1.2.1 hd rfl (lo_at hl hv) (k H locs ls hP hD hS hl)
theorem v_aload (C : vC p s m args meth c cc nL Ts own ret G cy A) {j : Nat} {x : Nat} (hd : decode cc pc = .ok (.aload j, 2)) (hv : lo[j]? = some (some (.ref x))) (k : V p l e R s m args below meth c nL G A Q w cells slots (pc + 2) lo (.ref x :: st)) : V p l e R s m args below meth c nL G A Q w cells slots (pc) lo (st) := fun H locs ls hP hD hS hl => lv_aload C.1.1 C.1.2.1 hd (lo_at hl hv) (k H locs ls hP hD hS hl)
theorem v_istore_n (C : vC p s m args meth c cc nL Ts own ret G cy A) {j : Fin 4} {x : Int32} (hd : decode cc pc = .ok (.istore_n j, 1)) (hj : (j : Nat) < nL) (k : V p l e R s m args below meth c nL G A Q w cells slots (pc + 1) (lo.set (j : Nat) (some (.int x))) (st)) : V p l e R s m args below meth c nL G A Q w cells slots (pc) lo (.int x :: st) := fun H locs ls hP hD hS hl => lv_istore_n C.1.1 C.1.2.1 hd rfl (lo_al hl) hj rfl (fun ls' h' => k H locs ls' hP hD hS (lo_st hl rfl h'))
theorem v_istore (C : vC p s m args meth c cc nL Ts own ret G cy A) {j : Nat} {x : Int32} (hd : decode cc pc = .ok (.istore j, 2)) (hj : j < nL) (k : V p l e R s m args below meth c nL G A Q w cells slots (pc + 2) (lo.set j (some (.int x))) (st)) : V p l e R s m args below meth c nL G A Q w cells slots (pc) lo (.int x :: st) := fun H locs ls hP hD hS hl => lv_istore C.1.1 C.1.2.1 hd (lo_al hl) hj rfl (fun ls' h' => k H locs ls' hP hD hS (lo_st hl rfl h'))
theorem v_astore_n (C : vC p s m args meth c cc nL Ts own ret G cy A) {j : Fin 4} {x : Nat} (hd : decode cc pc = .ok (.astore_n j, 1)) (hj : (j : Nat) < nL) (k : V p l e R s m args below meth c nL G A Q w cells slots (pc + 1) (lo.set (j : Nat) (some (.ref x))) (st)) : V p l e R s m args below meth c nL G A Q w cells slots (pc) lo (.ref x :: st) := fun H locs ls hP hD hS hl => lv_astore_n C.1.1 C.1.2.1 hd rfl (lo_al hl) hj rfl (fun ls' h' => k H locs ls' hP hD hS (lo_st hl rfl h'))
theorem v_astore (C : vC p s m args meth c cc nL Ts own ret G cy A) {j : Nat} {x : Nat} (hd : decode cc pc = .ok (.astore j, 2)) (hj : j < nL) (k : V p l e R s m args below meth c nL G A Q w cells slots (pc + 2) (lo.set j (some (.ref x))) (st)) : V p l e R s m args below meth c nL G A Q w cells slots (pc) lo (.ref x :: st) := fun H locs ls hP hD hS hl => lv_astore C.1.1 C.1.2.1 hd (lo_al hl) hj rfl (fun ls' h' => k H locs ls' hP hD hS (lo_st hl rfl h'))
theorem v_iinc (C : vC p s m args meth c cc nL Ts own ret G cy A) {j : Nat} {n : Int} {x : Int32} (v : Int32) (hd : decode cc pc = .ok (.iinc j n, 3)) (hx : lo[j]? = some (some (.int x))) (hv : x + Int32.ofInt n = v) (hj : j < nL) (k : V p l e R s m args below meth c nL G A Q w cells slots (pc + 3) (lo.set j (some (.int v))) (st)) : V p l e R s m args below meth c nL G A Q w cells slots (pc) lo (st) := by
  intro H locs ls hP hD hS hl
  obtain ⟨i, hi⟩ := List.getElem?_of_mem (lo_mem.mpr hx : (j, Value.int x) ∈ lo_l lo)
  exact lv_iinc C.1.1 C.1.2.1 hd (lo_al hl) hi hv hj rfl (fun ls' h' => k H locs ls' hP hD hS (lo_st hl rfl h'))
theorem v_incN (C : vC p s m args meth c cc nL Ts own ret G cy A) {j : Nat} {a : Nat} (hd : decode cc pc = .ok (.iinc j 1, 3)) (hx : lo[j]? = some (some (.int (nI a)))) (hj : j < nL) (k : V p l e R s m args below meth c nL G A Q w cells slots (pc + 3) (lo.set j (some (.int (nI (a + 1))))) (st)) : V p l e R s m args below meth c nL G A Q w cells slots (pc) lo (st) := v_iinc C (nI (a + 1)) hd hx (nI_1 a) hj k
theorem v_iadd (C : vC p s m args meth c cc nL Ts own ret G cy A) {x y : Int32} (hd : decode cc pc = .ok (.iadd, 1)) (k : V p l e R s m args below meth c nL G A Q w cells slots (pc + 1) lo (.int (x + y) :: st)) : V p l e R s m args below meth c nL G A Q w cells slots (pc) lo (.int y :: .int x :: st) := fun H locs ls hP hD hS hl => lv_iadd C.1.1 C.1.2.1 hd (k H locs ls hP hD hS hl)
theorem v_isub (C : vC p s m args meth c cc nL Ts own ret G cy A) {x y : Int32} (hd : decode cc pc = .ok (.isub, 1)) (k : V p l e R s m args below meth c nL G A Q w cells slots (pc + 1) lo (.int (x - y) :: st)) : V p l e R s m args below meth c nL G A Q w cells slots (pc) lo (.int y :: .int x :: st) := fun H locs ls hP hD hS hl => lv_isub C.1.1 C.1.2.1 hd (k H locs ls hP hD hS hl)
theorem v_imul (C : vC p s m args meth c cc nL Ts own ret G cy A) {x y : Int32} (hd : decode cc pc = .ok (.imul, 1)) (k : V p l e R s m args below meth c nL G A Q w cells slots (pc + 1) lo (.int (x * y) :: st)) : V p l e R s m args below meth c nL G A Q w cells slots (pc) lo (.int y :: .int x :: st) := fun H locs ls hP hD hS hl => lv_imul C.1.1 C.1.2.1 hd (k H locs ls hP hD hS hl)
theorem v_idiv (C : vC p s m args meth c cc nL Ts own ret G cy A) {x y : Int32} (hd : decode cc pc = .ok (.idiv, 1)) (hne : ¬ y = 0) (k : V p l e R s m args below meth c nL G A Q w cells slots (pc + 1) lo (.int (x / y) :: st)) : V p l e R s m args below meth c nL G A Q w cells slots (pc) lo (.int y :: .int x :: st) := fun H locs ls hP hD hS hl => lv_idiv C.1.1 C.1.2.1 hd hne (k H locs ls hP hD hS hl)
theorem v_irem (C : vC p s m args meth c cc nL Ts own ret G cy A) {x y : Int32} (hd : decode cc pc = .ok (.irem, 1)) (hne : ¬ y = 0) (k : V p l e R s m args below meth c nL G A Q w cells slots (pc + 1) lo (.int (x - x / y * y) :: st)) : V p l e R s m args below meth c nL G A Q w cells slots (pc) lo (.int y :: .int x :: st) := fun H locs ls hP hD hS hl => lv_irem C.1.1 C.1.2.1 hd hne (k H locs ls hP hD hS hl)
theorem v_iand (C : vC p s m args meth c cc nL Ts own ret G cy A) {x y : Int32} (hd : decode cc pc = .ok (.iand, 1)) (k : V p l e R s m args below meth c nL G A Q w cells slots (pc + 1) lo (.int (x &&& y) :: st)) : V p l e R s m args below meth c nL G A Q w cells slots (pc) lo (.int y :: .int x :: st) := fun H locs ls hP hD hS hl => lv_iand C.1.1 C.1.2.1 hd (k H locs ls hP hD hS hl)
theorem v_i2l (C : vC p s m args meth c cc nL Ts own ret G cy A) {x : Int32} (hd : decode cc pc = .ok (.i2l, 1)) (k : V p l e R s m args below meth c nL G A Q w cells slots (pc + 1) lo (.long x.toInt64 :: st)) : V p l e R s m args below meth c nL G A Q w cells slots (pc) lo (.int x :: st) := fun H locs ls hP hD hS hl => lv_i2l C.1.1 C.1.2.1 hd rfl (k H locs ls hP hD hS hl)
theorem v_lconst (C : vC p s m args meth c cc nL Ts own ret G cy A) {n : Fin 2} (v : Int64) (hd : decode cc pc = .ok (.lconst n, 1)) (hv : Int64.ofNat (n : Nat) = v) (k : V p l e R s m args below meth c nL G A Q w cells slots (pc + 1) lo (.long v :: st)) : V p l e R s m args below meth c nL G A Q w cells slots (pc) lo (st) := fun H locs ls hP hD hS hl => lv_lconst C.1.1 C.1.2.1 hd hv (k H locs ls hP hD hS hl)
theorem v_lcmp (C : vC p s m args meth c cc nL Ts own ret G cy A) {x y : Int64} (hd : decode cc pc = .ok (.lcmp, 1)) (k : V p l e R s m args below meth c nL G A Q w cells slots (pc + 1) lo (.int (lg_cmp x y) :: st)) : V p l e R s m args below meth c nL G A Q w cells slots (pc) lo (.long y :: .long x :: st) := fun H locs ls hP hD hS hl => W.lcmp C.1.1 C.1.2.1 hd (k H locs ls hP hD hS hl)
theorem v_dup (C : vC p s m args meth c cc nL Ts own ret G cy A) {a : Value} (hd : decode cc pc = .ok (.dup, 1)) (ha : a.category = 1) (k : V p l e R s m args below meth c nL G A Q w cells slots (pc + 1) lo (a :: a :: st)) : V p l e R s m args below meth c nL G A Q w cells slots (pc) lo (a :: st) := fun H locs ls hP hD hS hl => lv_dup C.1.1 C.1.2.1 hd ha (k H locs ls hP hD hS hl)
theorem v_dup2 (C : vC p s m args meth c cc nL Ts own ret G cy A) {a b : Value} (hd : decode cc pc = .ok (.dup2, 1)) (ha : a.category = 1) (hb : b.category = 1) (k : V p l e R s m args below meth c nL G A Q w cells slots (pc + 1) lo (a :: b :: a :: b :: st)) : V p l e R s m args below meth c nL G A Q w cells slots (pc) lo (a :: b :: st) := fun H locs ls hP hD hS hl => lv_dup2_11 C.1.1 C.1.2.1 hd ha hb (k H locs ls hP hD hS hl)
theorem v_goto (C : vC p s m args meth c cc nL Ts own ret G cy A) {off : Int} (tgt : Nat) (hd : decode cc pc = .ok (.goto off, 3)) (ht : (pc : Int) + off = (tgt : Int)) (k : V p l e R s m args below meth c nL G A Q w cells slots (tgt) lo (st)) : V p l e R s m args below meth c nL G A Q w cells slots (pc) lo (st) := fun H locs ls hP hD hS hl => lv_goto C.1.1 C.1.2.1 hd ht (k H locs ls hP hD hS hl)
theorem v_if_eq (C : vC p s m args meth c cc nL Ts own ret G cy A) {x : Int32} {off : Int} (tgt : Nat) (hd : decode cc pc = .ok (.ifCond .eq off, 3)) (ht : (pc : Int) + off = (tgt : Int)) (kt : x = 0 → V p l e R s m args below meth c nL G A Q w cells slots (tgt) lo (st)) (kf : ¬ x = 0 → V p l e R s m args below meth c nL G A Q w cells slots (pc + 3) lo (st)) : V p l e R s m args below meth c nL G A Q w cells slots (pc) lo (.int x :: st) := fun H locs ls hP hD hS hl => lv_if_eq C.1.1 C.1.2.1 hd ht (fun h => kt h H locs ls hP hD hS hl) (fun h => kf h H locs ls hP hD hS hl)
theorem v_if_ne (C : vC p s m args meth c cc nL Ts own ret G cy A) {x : Int32} {off : Int} (tgt : Nat) (hd : decode cc pc = .ok (.ifCond .ne off, 3)) (ht : (pc : Int) + off = (tgt : Int)) (kt : ¬ x = 0 → V p l e R s m args below meth c nL G A Q w cells slots (tgt) lo (st)) (kf : x = 0 → V p l e R s m args below meth c nL G A Q w cells slots (pc + 3) lo (st)) : V p l e R s m args below meth c nL G A Q w cells slots (pc) lo (.int x :: st) := fun H locs ls hP hD hS hl => lv_if_ne C.1.1 C.1.2.1 hd ht (fun h => kt h H locs ls hP hD hS hl) (fun h => kf h H locs ls hP hD hS hl)
theorem v_if_lt (C : vC p s m args meth c cc nL Ts own ret G cy A) {x : Int32} {off : Int} (tgt : Nat) (hd : decode cc pc = .ok (.ifCond .lt off, 3)) (ht : (pc : Int) + off = (tgt : Int)) (kt : x < 0 → V p l e R s m args below meth c nL G A Q w cells slots (tgt) lo (st)) (kf : ¬ x < 0 → V p l e R s m args below meth c nL G A Q w cells slots (pc + 3) lo (st)) : V p l e R s m args below meth c nL G A Q w cells slots (pc) lo (.int x :: st) := fun H locs ls hP hD hS hl => lv_if_lt C.1.1 C.1.2.1 hd ht (fun h => kt h H locs ls hP hD hS hl) (fun h => kf h H locs ls hP hD hS hl)
theorem v_if_ge (C : vC p s m args meth c cc nL Ts own ret G cy A) {x : Int32} {off : Int} (tgt : Nat) (hd : decode cc pc = .ok (.ifCond .ge off, 3)) (ht : (pc : Int) + off = (tgt : Int)) (kt : ¬ x < 0 → V p l e R s m args below meth c nL G A Q w cells slots (tgt) lo (st)) (kf : x < 0 → V p l e R s m args below meth c nL G A Q w cells slots (pc + 3) lo (st)) : V p l e R s m args below meth c nL G A Q w cells slots (pc) lo (.int x :: st) := fun H locs ls hP hD hS hl => lv_if_ge C.1.1 C.1.2.1 hd ht (fun h => kt (Int32.not_lt.mpr h) H locs ls hP hD hS hl) (fun h => kf (Int32.not_le.mp h) H locs ls hP hD hS hl)
theorem v_if_gt (C : vC p s m args meth c cc nL Ts own ret G cy A) {x : Int32} {off : Int} (tgt : Nat) (hd : decode cc pc = .ok (.ifCond .gt off, 3)) (ht : (pc : Int) + off = (tgt : Int)) (kt : 0 < x → V p l e R s m args below meth c nL G A Q w cells slots (tgt) lo (st)) (kf : ¬ 0 < x → V p l e R s m args below meth c nL G A Q w cells slots (pc + 3) lo (st)) : V p l e R s m args below meth c nL G A Q w cells slots (pc) lo (.int x :: st) := fun H locs ls hP hD hS hl => lv_if_gt C.1.1 C.1.2.1 hd ht (fun h => kt h H locs ls hP hD hS hl) (fun h => kf h H locs ls hP hD hS hl)
theorem v_if_le (C : vC p s m args meth c cc nL Ts own ret G cy A) {x : Int32} {off : Int} (tgt : Nat) (hd : decode cc pc = .ok (.ifCond .le off, 3)) (ht : (pc : Int) + off = (tgt : Int)) (kt : ¬ 0 < x → V p l e R s m args below meth c nL G A Q w cells slots (tgt) lo (st)) (kf : 0 < x → V p l e R s m args below meth c nL G A Q w cells slots (pc + 3) lo (st)) : V p l e R s m args below meth c nL G A Q w cells slots (pc) lo (.int x :: st) := fun H locs ls hP hD hS hl => lv_if_le C.1.1 C.1.2.1 hd ht (fun h => kt (Int32.not_lt.mpr h) H locs ls hP hD hS hl) (fun h => kf (Int32.not_le.mp h) H locs ls hP hD hS hl)
theorem v_icmp_eq (C : vC p s m args meth c cc nL Ts own ret G cy A) {x y : Int32} {off : Int} (tgt : Nat) (hd : decode cc pc = .ok (.if_icmp .eq off, 3)) (ht : (pc : Int) + off = (tgt : Int)) (kt : x = y → V p l e R s m args below meth c nL G A Q w cells slots (tgt) lo (st)) (kf : ¬ x = y → V p l e R s m args below meth c nL G A Q w cells slots (pc + 3) lo (st)) : V p l e R s m args below meth c nL G A Q w cells slots (pc) lo (.int y :: .int x :: st) := fun H locs ls hP hD hS hl => lv_icmp_eq C.1.1 C.1.2.1 hd ht (fun h => kt h H locs ls hP hD hS hl) (fun h => kf h H locs ls hP hD hS hl)
theorem v_icmp_ne (C : vC p s m args meth c cc nL Ts own ret G cy A) {x y : Int32} {off : Int} (tgt : Nat) (hd : decode cc pc = .ok (.if_icmp .ne off, 3)) (ht : (pc : Int) + off = (tgt : Int)) (kt : ¬ x = y → V p l e R s m args below meth c nL G A Q w cells slots (tgt) lo (st)) (kf : x = y → V p l e R s m args below meth c nL G A Q w cells slots (pc + 3) lo (st)) : V p l e R s m args below meth c nL G A Q w cells slots (pc) lo (.int y :: .int x :: st) := fun H locs ls hP hD hS hl => lv_icmp_ne C.1.1 C.1.2.1 hd ht (fun h => kt h H locs ls hP hD hS hl) (fun h => kf h H locs ls hP hD hS hl)
theorem v_icmp_lt (C : vC p s m args meth c cc nL Ts own ret G cy A) {x y : Int32} {off : Int} (tgt : Nat) (hd : decode cc pc = .ok (.if_icmp .lt off, 3)) (ht : (pc : Int) + off = (tgt : Int)) (kt : x < y → V p l e R s m args below meth c nL G A Q w cells slots (tgt) lo (st)) (kf : ¬ x < y → V p l e R s m args below meth c nL G A Q w cells slots (pc + 3) lo (st)) : V p l e R s m args below meth c nL G A Q w cells slots (pc) lo (.int y :: .int x :: st) := fun H locs ls hP hD hS hl => lv_icmp_lt C.1.1 C.1.2.1 hd ht (fun h => kt h H locs ls hP hD hS hl) (fun h => kf h H locs ls hP hD hS hl)
theorem v_icmp_ge (C : vC p s m args meth c cc nL Ts own ret G cy A) {x y : Int32} {off : Int} (tgt : Nat) (hd : decode cc pc = .ok (.if_icmp .ge off, 3)) (ht : (pc : Int) + off = (tgt : Int)) (kt : ¬ x < y → V p l e R s m args below meth c nL G A Q w cells slots (tgt) lo (st)) (kf : x < y → V p l e R s m args below meth c nL G A Q w cells slots (pc + 3) lo (st)) : V p l e R s m args below meth c nL G A Q w cells slots (pc) lo (.int y :: .int x :: st) := fun H locs ls hP hD hS hl => lv_icmp_ge C.1.1 C.1.2.1 hd ht (fun h => kt (Int32.not_lt.mpr h) H locs ls hP hD hS hl) (fun h => kf (Int32.not_le.mp h) H locs ls hP hD hS hl)
theorem v_icmp_gt (C : vC p s m args meth c cc nL Ts own ret G cy A) {x y : Int32} {off : Int} (tgt : Nat) (hd : decode cc pc = .ok (.if_icmp .gt off, 3)) (ht : (pc : Int) + off = (tgt : Int)) (kt : y < x → V p l e R s m args below meth c nL G A Q w cells slots (tgt) lo (st)) (kf : ¬ y < x → V p l e R s m args below meth c nL G A Q w cells slots (pc + 3) lo (st)) : V p l e R s m args below meth c nL G A Q w cells slots (pc) lo (.int y :: .int x :: st) := fun H locs ls hP hD hS hl => lv_icmp_gt C.1.1 C.1.2.1 hd ht (fun h => kt h H locs ls hP hD hS hl) (fun h => kf h H locs ls hP hD hS hl)
theorem v_icmp_le (C : vC p s m args meth c cc nL Ts own ret G cy A) {x y : Int32} {off : Int} (tgt : Nat) (hd : decode cc pc = .ok (.if_icmp .le off, 3)) (ht : (pc : Int) + off = (tgt : Int)) (kt : ¬ y < x → V p l e R s m args below meth c nL G A Q w cells slots (tgt) lo (st)) (kf : y < x → V p l e R s m args below meth c nL G A Q w cells slots (pc + 3) lo (st)) : V p l e R s m args below meth c nL G A Q w cells slots (pc) lo (.int y :: .int x :: st) := fun H locs ls hP hD hS hl => lv_icmp_le C.1.1 C.1.2.1 hd ht (fun h => kt (Int32.not_lt.mpr h) H locs ls hP hD hS hl) (fun h => kf (Int32.not_le.mp h) H locs ls hP hD hS hl)
/-- the test of a loop's head -/
theorem v_geN (C : vC p s m args meth c cc nL Ts own ret G cy A) {x y : Int32} (a b : Nat) {off : Int} (tgt : Nat) (hd : decode cc pc = .ok (.if_icmp .ge off, 3)) (ht : (pc : Int) + off = (tgt : Int)) (hx : x = nI a) (hy : y = nI b) (ha : a < 2 ^ 31) (hb : b < 2 ^ 31) (kt : b ≤ a → V p l e R s m args below meth c nL G A Q w cells slots (tgt) lo (st)) (kf : a < b → V p l e R s m args below meth c nL G A Q w cells slots (pc + 3) lo (st)) : V p l e R s m args below meth c nL G A Q w cells slots (pc) lo (.int y :: .int x :: st) := by
  subst hx
  subst hy
  refine v_icmp_ge C tgt hd ht (fun h => kt ?_) (fun h => kf ?_)
  · rw [nI_ltI ha hb] at h
    omega
  · exact (nI_ltI ha hb).mp h

theorem v_get (C : vC p s m args meth c cc nL Ts own ret G cy A) (q0 f ci : Nat) {a : Nat} {fs : List Value} {Cn : String} {T : u_T} {N idx : Nat} {v : Value} (hc : vwCl[ci]? = some (Cn, T, N)) (he : w[q0]? = some (a, .inr (ci, fs))) (hf : f < N) (hv : fs[f]? = some v) (hin : ∀ x ∈ u_ws Cn T N, x ∈ Ts) (hm : Cond.fieldLink own idx (T f).1 (T f).2.1 (T f).2.2.1 ∈ Ts) (hd : decode cc pc = .ok (.getfield idx, 3)) (k : V p l e R s m args below meth c nL G A Q w cells slots (pc + 3) lo (v :: st)) : V p l e R s m args below meth c nL G A Q w cells slots (pc) lo (.ref a :: st) := fun H locs ls hP hD hS hl =>
  va_get (ref := (T f).1) C.1.1 C.1.2.1 C.1.2.2.2.2 hin C.1.2.2.2.1 C.2.1 hP q0 he hc f hf (C.1.2.2.2.2 _ hm) (fun _ h => h) hv hd (k H locs ls hP hD hS hl)
theorem v_put (C : vC p s m args meth c cc nL Ts own ret G cy A) (q0 f ci : Nat) {a : Nat} {fs : List Value} {Cn : String} {T : u_T} {N idx : Nat} {v : Value} (ty0 : Nat → FieldType) (hty : ∀ k, k < N → parseFieldDescriptor (T k).2.2.1 = some (ty0 k)) (hnm : ∀ a, a < N → ∀ b, b < N → a ≠ b → (T a).2.1 ≠ (T b).2.1) (hc : vwCl[ci]? = some (Cn, T, N)) (he : w[q0]? = some (a, .inr (ci, fs))) (hf : f < N) (hin : ∀ x ∈ u_ws Cn T N, x ∈ Ts) (hm : Cond.fieldLink own idx (T f).1 (T f).2.1 (T f).2.2.1 ∈ Ts) (hfin : (T f).2.2.2 = false) {ty : FieldType} (hp : parseFieldDescriptor (T f).2.2.1 = some ty) (hn : narrow ty v = v) (hfit : fits ty v = true) (hlen : f < fs.length) (hw : w.set q0 (a, .inr (ci, fs.set f v)) = w') (hd : decode cc pc = .ok (.putfield idx, 3)) (k : V p l e R s m args below meth c nL G A Q w' cells slots (pc + 3) lo (st)) : V p l e R s m args below meth c nL G A Q w cells slots (pc) lo (v :: .ref a :: st) := by
  subst hw
  exact fun H locs ls hP hD hS hl => va_put (ref := (T f).1) C.1.1 C.1.2.1 C.1.2.2.2.2 hin ty0 hty hnm C.1.2.2.2.1 C.2.1 hP hD hS q0 he hc f hf (C.1.2.2.2.2 _ hm) (fun _ h => h) hfin hp hn hfit hlen hd (fun H1 locs1 hP hD hS => k H1 locs1 ls hP hD hS hl)
theorem v_putF (C : vC p s m args meth c cc nL Ts own ret G cy A) (q0 f ci : Nat) {a : Nat} {fs : List Value} {Cn : String} {T : u_T} {N idx : Nat} {v : Value} (hin2 : meth.name = "<init>") (ty0 : Nat → FieldType) (hty : ∀ k, k < N → parseFieldDescriptor (T k).2.2.1 = some (ty0 k)) (hnm : ∀ a, a < N → ∀ b, b < N → a ≠ b → (T a).2.1 ≠ (T b).2.1) (hc : vwCl[ci]? = some (Cn, T, N)) (he : w[q0]? = some (a, .inr (ci, fs))) (hf : f < N) (hin : ∀ x ∈ u_ws Cn T N, x ∈ Ts) (hm : Cond.fieldLink own idx (T f).1 (T f).2.1 (T f).2.2.1 ∈ Ts) (hfin : (T f).2.2.2 = true) (hdecl : (T f).1 = own) {ty : FieldType} (hp : parseFieldDescriptor (T f).2.2.1 = some ty) (hn : narrow ty v = v) (hfit : fits ty v = true) (hlen : f < fs.length) (hw : w.set q0 (a, .inr (ci, fs.set f v)) = w') (hd : decode cc pc = .ok (.putfield idx, 3)) (k : V p l e R s m args below meth c nL G A Q w' cells slots (pc + 3) lo (st)) : V p l e R s m args below meth c nL G A Q w cells slots (pc) lo (v :: .ref a :: st) := by
  subst hw
  exact fun H locs ls hP hD hS hl => va_putF (ref := (T f).1) C.1.1 C.1.2.1 C.1.2.2.2.2 hin ty0 hty hnm C.1.2.2.2.1 C.2.1 hP hD hS q0 he hc f hf (C.1.2.2.2.2 _ hm) (fun _ h => h) hfin hin2 hdecl hp hn hfit hlen hd (fun H1 locs1 hP hD hS => k H1 locs1 ls hP hD hS hl)

theorem v_idx {i : Int32} {k n : Nat} (hi : i = nI k) (hk : k < n) (hn : n ≤ 1000) : vp_in i n ∧ i.toNatClampNeg = k := by
  subst hi
  exact ⟨vp_in_nI hk (by omega), nI_clamp (by omega)⟩
theorem v_iald (C : vC p s m args meth c cc nL Ts own ret G cy A) (q0 j : Nat) {a n : Nat} {f : Nat → Int32} {i : Int32} (ha : w[q0]? = some (a, .inl (cy 0, n, .inl f))) (hi : i = nI j) (hj : j < n) (hn : n ≤ 1000) (hd : decode cc pc = .ok (.iaload, 1)) (k : V p l e R s m args below meth c nL G A Q w cells slots (pc + 1) lo (.int (f j) :: st)) : V p l e R s m args below meth c nL G A Q w cells slots (pc) lo (.int i :: .ref a :: st) := by
  obtain ⟨h1, h2⟩ := v_idx hi hj hn
  exact fun H locs ls hP hD hS hl => va_iald C.1.1 C.1.2.1 C.2.1 hP q0 0 ha rfl h1 hd (by rw [h2]; exact k H locs ls hP hD hS hl)
theorem v_zald (C : vC p s m args meth c cc nL Ts own ret G cy A) (q0 j : Nat) {a n : Nat} {f : Nat → Int32} {i : Int32} (ha : w[q0]? = some (a, .inl (cy 1, n, .inl f))) (hi : i = nI j) (hj : j < n) (hn : n ≤ 1000) (hd : decode cc pc = .ok (.baload, 1)) (k : V p l e R s m args below meth c nL G A Q w cells slots (pc + 1) lo (.int (f j) :: st)) : V p l e R s m args below meth c nL G A Q w cells slots (pc) lo (.int i :: .ref a :: st) := by
  obtain ⟨h1, h2⟩ := v_idx hi hj hn
  exact fun H locs ls hP hD hS hl => va_zald C.1.1 C.1.2.1 C.2.1 hP q0 1 ha rfl h1 hd (by rw [h2]; exact k H locs ls hP hD hS hl)
theorem v_aald (C : vC p s m args meth c cc nL Ts own ret G cy A) (q0 j : Nat) {a n : Nat} {f : Nat → Option Nat} {i : Int32} (ha : w[q0]? = some (a, .inl (cy 2, n, .inr (.inr (.inr (.inr f)))))) (hi : i = nI j) (hj : j < n) (hn : n ≤ 1000) (hd : decode cc pc = .ok (.aaload, 1)) (k : V p l e R s m args below meth c nL G A Q w cells slots (pc + 1) lo (va_rf (f j) :: st)) : V p l e R s m args below meth c nL G A Q w cells slots (pc) lo (.int i :: .ref a :: st) := by
  obtain ⟨h1, h2⟩ := v_idx hi hj hn
  exact fun H locs ls hP hD hS hl => va_aldq C.1.1 C.1.2.1 C.2.1 hP q0 2 ha rfl h1 hd (by rw [h2]; exact k H locs ls hP hD hS hl)
theorem v_iast (C : vC p s m args meth c cc nL Ts own ret G cy A) (q0 j : Nat) {a n : Nat} {f : Nat → Int32} {i x : Int32} (ha : w[q0]? = some (a, .inl (cy 0, n, .inl f))) (hi : i = nI j) (hj : j < n) (hn : n ≤ 1000) (hw : w.set q0 (a, .inl (cy 0, n, .inl (upd f j x))) = w') (hd : decode cc pc = .ok (.iastore, 1)) (k : V p l e R s m args below meth c nL G A Q w' cells slots (pc + 1) lo (st)) : V p l e R s m args below meth c nL G A Q w cells slots (pc) lo (.int x :: .int i :: .ref a :: st) := by
  obtain ⟨h1, h2⟩ := v_idx hi hj hn
  subst hw
  rw [← h2] at k
  exact fun H locs ls hP hD hS hl => va_iast C.1.1 C.1.2.1 C.2.1 hP hD hS q0 0 ha rfl h1 hd (fun H1 locs1 hP hD hS => k H1 locs1 ls hP hD hS hl)
theorem v_zast (C : vC p s m args meth c cc nL Ts own ret G cy A) (q0 j : Nat) {a n : Nat} {f : Nat → Int32} {i x : Int32} (ha : w[q0]? = some (a, .inl (cy 1, n, .inl f))) (hi : i = nI j) (hj : j < n) (hn : n ≤ 1000) (hx : vp_nar .boolean x = x) (hw : w.set q0 (a, .inl (cy 1, n, .inl (upd f j x))) = w') (hd : decode cc pc = .ok (.bastore, 1)) (k : V p l e R s m args below meth c nL G A Q w' cells slots (pc + 1) lo (st)) : V p l e R s m args below meth c nL G A Q w cells slots (pc) lo (.int x :: .int i :: .ref a :: st) := by
  obtain ⟨h1, h2⟩ := v_idx hi hj hn
  subst hw
  rw [← h2] at k
  exact fun H locs ls hP hD hS hl => va_zast C.1.1 C.1.2.1 C.2.1 hP hD hS q0 1 ha rfl h1 hd (fun H1 locs1 hP hD hS => by rw [hx] at hP hD; exact k H1 locs1 ls hP hD hS hl)

/-- the world behind a method -/
def vO (G : va_G) (cy : Nat → ClassId) (A : Nat → Prop) (w' : va_W) (t : State) : Prop := va_P G vwCl w' t.heap ∧ va_K G vwCl (tyL cy) t ∧ va_D A w'
def QI (below : List Frame) (args : Array Value) (s : State) (G : va_G) (cy : Nat → ClassId) (A : Nat → Prop) (r : Int32) (w' : va_W) (mc ms : Nat) : State → Prop := MQ below (va_Qi (fun (r' : Int32) (_ : Unit) => r' = r) (fun _ => vO G cy A w') A) args s mc ms A
def QV (below : List Frame) (args : Array Value) (s : State) (G : va_G) (cy : Nat → ClassId) (A : Nat → Prop) (w' : va_W) (mc ms : Nat) : State → Prop := MQ below (va_Qv (fun (_ : Unit) => True) (fun _ => vO G cy A w') A) args s mc ms A
theorem v_ret0 {v r : Int32} {ty : FieldType} (C : vC p s m args meth c cc nL Ts own (some ty) G cy A) (hn : narrow ty (.int v) = .int v) (hd : decode cc pc = .ok (.ireturn, 1)) (hr : v = r) : V p l e R s m args below meth c nL G A (QI below args s G cy A r w cells slots) w cells slots pc lo [.int v] := by
  intro H locs ls hP hD hS hl
  exact W.zret C.1.1 C.1.2.1 C.2.2.2.1 hn (fun t ht hW => ⟨⟨v, (), rfl, hr, by rw [ht]; exact hP, va_K.moved hW.alike C.2.1, hD⟩, hS.F ht⟩) hS.2.2 hd C.2.2.2.2
theorem v_iret {v r : Int32} (C : vC p s m args meth c cc nL Ts own (some .int) G cy A) (hd : decode cc pc = .ok (.ireturn, 1)) (hr : v = r) : V p l e R s m args below meth c nL G A (QI below args s G cy A r w cells slots) w cells slots pc lo [.int v] := v_ret0 C rfl hd hr
theorem v_zret {v r : Int32} (C : vC p s m args meth c cc nL Ts own (some .boolean) G cy A) (hn : vp_nar .boolean v = v) (hd : decode cc pc = .ok (.ireturn, 1)) (hr : v = r) : V p l e R s m args below meth c nL G A (QI below args s G cy A r w cells slots) w cells slots pc lo [.int v] := v_ret0 C (by have h : narrow .boolean (.int v) = .int (vp_nar .boolean v) := rfl; rw [h, hn]) hd hr
theorem v_vret (C : vC p s m args meth c cc nL Ts own none G cy A) (hd : decode cc pc = .ok (.return_, 1)) : V p l e R s m args below meth c nL G A (QV below args s G cy A w cells slots) w cells slots pc lo [] := by
  intro H locs ls hP hD hS hl
  exact W.vret C.1.1 C.1.2.1 C.2.2.2.1 (fun t ht hW => ⟨⟨(), rfl, trivial, by rw [ht]; exact hP, va_K.moved hW.alike C.2.1, hD⟩, hS.F ht⟩) hS.2.2 hd C.2.2.2.2
end VL
abbrev vR (fr lc mc ms : Nat) : Room := { frames := fr, cells := mc, slots := ms, locals := lc }
def vI (G : va_G) (cy : Nat → ClassId) (w : va_W) (sz : Nat) (U : State) : Prop := U.heap.size = sz ∧ va_P G vwCl w U.heap ∧ va_K G vwCl (tyL cy) U ∧ va_D (fun _ => True) w
/-- contracts: an int (or boolean) answer; none -/
def KI (l : Launch) (G : va_G) (cy : Nat → ClassId) (y : MethodName) (ws : List Cond) (fr lc mc ms : Nat) (as : List Value) (w : va_W) (r : Int32) (w' : va_W) : Prop := ∀ sz : Nat, Met l y ws (vR fr lc mc ms) (va_Pc as (vI G cy w sz)) (va_Qi (fun (r' : Int32) (_ : Unit) => r' = r) (fun _ => vO G cy (va_A w sz) w') (va_A w sz)) mc ms (va_A w sz)
def KV (l : Launch) (G : va_G) (cy : Nat → ClassId) (y : MethodName) (ws : List Cond) (fr lc mc ms : Nat) (as : List Value) (w : va_W) (w' : va_W) : Prop := ∀ sz : Nat, Met l y ws (vR fr lc mc ms) (va_Pc as (vI G cy w sz)) (va_Qv (fun (_ : Unit) => True) (fun _ => vO G cy (va_A w sz) w') (va_A w sz)) mc ms (va_A w sz)
theorem vI_blind {G : va_G} {cy : Nat → ClassId} {w : va_W} {sz : Nat} {as : List Value} : FrameBlind (va_Pc as (vI G cy w sz)) := fun a U g mk q => by
  obtain ⟨q0, q1, qP, qK, qD⟩ := q
  exact ⟨q0, q1, qP, va_K.moved (u := U) (U := U.calling g mk a) (Vm.Alike.refl U.vm) qK, qD⟩
section VK
variable {l : Launch} {G : va_G} {cy : Nat → ClassId} {y : MethodName} {ws ws' : List Cond} {fr lc mc ms : Nat} {as : List Value} {w w' : va_W} {r : Int32} {cc : ByteArray} {maxL : Nat} {ret : Option FieldType}
theorem KI_of {own : String} {lo0 : List (Option Value)} (hy : plainName y.cls = true) (ho : y.cls = own) (hw : ws = Cond.code y cc maxL ret :: ws') (hc : ∀ v ∈ as, v.category = 1) (hn : as.length ≤ maxL) (hlo : as.map some ++ List.replicate (maxL - as.length) none = lo0)
    (body : ∀ (p : Program) (e : Env) (s : State) (m : MethodId) (args : Array Value) (below : List Frame) (meth : Method) (c : Code) (A : Nat → Prop), vC p s m args meth c cc maxL ws own ret G cy A → V p l e (vR fr lc mc ms) s m args below meth c maxL G A (QI below args s G cy A r w' mc ms) w 0 0 0 lo0 []) : KI l G cy y ws fr lc mc ms as w r w' := by
  intro sz
  refine Met.ofW (cc := cc) (maxL := maxL) (ret := ret) hy hw ?_
  intro p e s m args below meth c s₁ B hml hv
  obtain ⟨rfl, hsz, hP, hK, hD0⟩ := hv
  subst hsz
  have hown : s.vm.findClass own = some m.cls := by rw [← ho]; exact findClass_of_methodNamed B.named
  have C : vC p s m as.toArray meth c cc maxL ws own ret G cy (va_A w s.heap.size) := ⟨⟨B.exec, B.bytes, hml, hown, atoms_spec (ws := ws) B.pre⟩, hK, fun q h => Or.inr h, B.returns, B.notSynchronized⟩
  have hb := body p e s m as.toArray below meth c (va_A w s.heap.size) C
  have h := hb s.heap [] _ hP hD0.self va_S.rf (by rw [← hlo]; exact lo_entry as hc hn)
  rw [lg_entry_eq]
  exact h
theorem KV_of {own : String} {lo0 : List (Option Value)} (hy : plainName y.cls = true) (ho : y.cls = own) (hw : ws = Cond.code y cc maxL ret :: ws') (hc : ∀ v ∈ as, v.category = 1) (hn : as.length ≤ maxL) (hlo : as.map some ++ List.replicate (maxL - as.length) none = lo0)
    (body : ∀ (p : Program) (e : Env) (s : State) (m : MethodId) (args : Array Value) (below : List Frame) (meth : Method) (c : Code) (A : Nat → Prop), (y.name = "<init>" → meth.name = "<init>") → vC p s m args meth c cc maxL ws own ret G cy A → V p l e (vR fr lc mc ms) s m args below meth c maxL G A (QV below args s G cy A w' mc ms) w 0 0 0 lo0 []) : KV l G cy y ws fr lc mc ms as w w' := by
  intro sz
  refine Met.ofW (cc := cc) (maxL := maxL) (ret := ret) hy hw ?_
  intro p e s m args below meth c s₁ B hml hv
  obtain ⟨rfl, hsz, hP, hK, hD0⟩ := hv
  subst hsz
  have hown : s.vm.findClass own = some m.cls := by rw [← ho]; exact findClass_of_methodNamed B.named
  have C : vC p s m as.toArray meth c cc maxL ws own ret G cy (va_A w s.heap.size) := ⟨⟨B.exec, B.bytes, hml, hown, atoms_spec (ws := ws) B.pre⟩, hK, fun q h => Or.inr h, B.returns, B.notSynchronized⟩
  have hb := body p e s m as.toArray below meth c (va_A w s.heap.size) (fun h => (name_of_methodNamed B.named B.method).1.trans h) C
  have h := hb s.heap [] _ hP hD0.self va_S.rf (by rw [← hlo]; exact lo_entry as hc hn)
  rw [lg_entry_eq]
  exact h
end VK
section VCall
variable {p : Program} {l : Launch} {e : Env} {R : Room} {s : State} {m : MethodId} {args : Array Value} {below : List Frame} {meth : Method} {c : Code} {cells slots : Nat} {Q : State → Prop} {cc : ByteArray} {nL : Nat} {Ts : List Cond} {own : String} {ret : Option FieldType} {G : va_G} {cy : Nat → ClassId} {A : Nat → Prop} {w w2 wc w1 : va_W} {pc : Nat} {lo : List (Option Value)} {st rest : List Value}
variable {y : MethodName} {wsY wsY' : List Cond} {fr lc mc ms : Nat} {As : List Value} {r : Int32} {b : Nat} {bytes : ByteArray} {maxL idx nA : Nat} {retY : Option FieldType}
/-- invokevirtual of a method with a contract KI -/
theorem v_callVI (C : vC p s m args meth c cc nL Ts own ret G cy A) (wl wr : va_W) (k : KI l G cy y wsY fr lc mc ms (.ref b :: As) wc r w1) (hw : wsY = Cond.code y bytes maxL retY :: wsY') (hg : GoodIn Ts (wsV own idx y.cls y wsY))
    (hy : y.cls = y.cls ∧ y.cls ≠ "java/lang/invoke/MethodHandle" ∧ y.cls ≠ "java/lang/invoke/VarHandle" ∧ (parseMethodDescriptor y.desc).map (fun d => d.parameters.length) = some nA) (hna : As.length = nA) (hR : fr + 1 ≤ R.frames ∧ 8 + (maxL + 11) + lc ≤ R.locals) (hcs : cells + mc ≤ R.cells ∧ slots + ms ≤ R.slots)
    (hst : st = As.reverse ++ .ref b :: rest) (hcat : (rest.map fun v => v.category).sum ≤ 8) (q0 ci : Nat) {q : vw_C} {fs : List Value} (hrc : wc[q0]? = some (b, .inr (ci, fs))) (hci : vwCl[ci]? = some q) (hq : q.1 = y.cls)
    (hw0 : w = wl ++ (wc ++ wr)) (hw2 : wl ++ (w1 ++ wr) = w2) (hd : decode cc pc = .ok (.invokevirtual idx, 3)) (kk : V p l e R s m args below meth c nL G A Q w2 (cells + mc) (slots + ms) (pc + 3) lo (.int r :: rest)) : V p l e R s m args below meth c nL G A Q w cells slots pc lo st := by
  subst hst
  subst hw0
  subst hw2
  intro H locs ls hP hD hS hl
  obtain ⟨hPc, hDc⟩ := v_in hP hD
  have hFc := v_free hDc hS C.2.2.1
  obtain ⟨cell, r1, r2, r3⟩ := va_recv C.2.1 hPc hci hrc
  refine va_calli (va_runV (As := As) (rest := rest) C.1 (k H.size) (cwV nA C.1.2.2.2.2 hg hw rfl rfl hy hR) ⟨vI_blind, ⟨cell, r1, r2, by rw [← hq]; exact r3⟩, fun U hU hW => ⟨rfl, by rw [hU], by rw [hU]; exact hPc, va_K.moved hW.alike C.2.1, hDc.weaken (fun _ _ _ _ => trivial)⟩⟩ rfl hna (hl.1.1) rfl (lv_room hcat) hd hcs) hS (fun q _ h => hFc q h) hFc (fun r' u t H1 locs1 ht hvm hr' hB hz hk hS1 => ?_)
  obtain ⟨hP1, hK1, hD1⟩ := hB
  rw [ht] at hP1
  subst hr'
  obtain ⟨hP2, hD2⟩ := v_join hP hD hFc hk hP1 hD1
  exact kk H1 locs1 ls hP2 hD2 hS1 hl
theorem v_callVV (C : vC p s m args meth c cc nL Ts own ret G cy A) (wl wr : va_W) (k : KV l G cy y wsY fr lc mc ms (.ref b :: As) wc w1) (hw : wsY = Cond.code y bytes maxL retY :: wsY') (hg : GoodIn Ts (wsV own idx y.cls y wsY))
    (hy : y.cls = y.cls ∧ y.cls ≠ "java/lang/invoke/MethodHandle" ∧ y.cls ≠ "java/lang/invoke/VarHandle" ∧ (parseMethodDescriptor y.desc).map (fun d => d.parameters.length) = some nA) (hna : As.length = nA) (hR : fr + 1 ≤ R.frames ∧ 8 + (maxL + 11) + lc ≤ R.locals) (hcs : cells + mc ≤ R.cells ∧ slots + ms ≤ R.slots)
    (hst : st = As.reverse ++ .ref b :: rest) (hcat : (rest.map fun v => v.category).sum ≤ 8) (q0 ci : Nat) {q : vw_C} {fs : List Value} (hrc : wc[q0]? = some (b, .inr (ci, fs))) (hci : vwCl[ci]? = some q) (hq : q.1 = y.cls)
    (hw0 : w = wl ++ (wc ++ wr)) (hw2 : wl ++ (w1 ++ wr) = w2) (hd : decode cc pc = .ok (.invokevirtual idx, 3)) (kk : V p l e R s m args below meth c nL G A Q w2 (cells + mc) (slots + ms) (pc + 3) lo rest) : V p l e R s m args below meth c nL G A Q w cells slots pc lo st := by
  subst hst
  subst hw0
  subst hw2
  intro H locs ls hP hD hS hl
  obtain ⟨hPc, hDc⟩ := v_in hP hD
  have hFc := v_free hDc hS C.2.2.1
  obtain ⟨cell, r1, r2, r3⟩ := va_recv C.2.1 hPc hci hrc
  refine va_callv (va_runV (As := As) (rest := rest) C.1 (k H.size) (cwV nA C.1.2.2.2.2 hg hw rfl rfl hy hR) ⟨vI_blind, ⟨cell, r1, r2, by rw [← hq]; exact r3⟩, fun U hU hW => ⟨rfl, by rw [hU], by rw [hU]; exact hPc, va_K.moved hW.alike C.2.1, hDc.weaken (fun _ _ _ _ => trivial)⟩⟩ rfl hna (hl.1.1) rfl (lv_room hcat) hd hcs) hS (fun q _ h => hFc q h) hFc (fun u t H1 locs1 ht hvm hr' hB hz hk hS1 => ?_)
  obtain ⟨hP1, hK1, hD1⟩ := hB
  rw [ht] at hP1
  obtain ⟨hP2, hD2⟩ := v_join hP hD hFc hk hP1 hD1
  exact kk H1 locs1 ls hP2 hD2 hS1 hl
/-- invokestatic of a method with a contract KI -/
theorem v_callSI (C : vC p s m args meth c cc nL Ts own ret G cy A) (wl wr : va_W) (k : KI l G cy y wsY fr lc mc ms As wc r w1) (hw : wsY = Cond.code y bytes maxL retY :: wsY') (hg : GoodIn Ts (va_wsS own idx y wsY))
    (hy : y.cls ≠ "java/lang/invoke/MethodHandle" ∧ y.cls ≠ "java/lang/invoke/VarHandle" ∧ (parseMethodDescriptor y.desc).map (fun d => d.parameters.length) = some nA) (hna : As.length = nA) (hR : fr + 1 ≤ R.frames ∧ 8 + (maxL + 11) + lc ≤ R.locals) (hcs : cells + mc ≤ R.cells ∧ slots + ms ≤ R.slots)
    (hst : st = As.reverse ++ rest) (hcat : (rest.map fun v => v.category).sum ≤ 8)
    (hw0 : w = wl ++ (wc ++ wr)) (hw2 : wl ++ (w1 ++ wr) = w2) (hd : decode cc pc = .ok (.invokestatic idx, 3)) (kk : V p l e R s m args below meth c nL G A Q w2 (cells + mc) (slots + ms) (pc + 3) lo (.int r :: rest)) : V p l e R s m args below meth c nL G A Q w cells slots pc lo st := by
  subst hst
  subst hw0
  subst hw2
  intro H locs ls hP hD hS hl
  obtain ⟨hPc, hDc⟩ := v_in hP hD
  have hFc := v_free hDc hS C.2.2.1
  refine va_calli (va_runS (As := As) (rest := rest) C.1 (k H.size) (va_cwS nA C.1.2.2.2.2 hg hw rfl rfl hy hR) ⟨vI_blind, fun U hU hW => ⟨rfl, by rw [hU], by rw [hU]; exact hPc, va_K.moved hW.alike C.2.1, hDc.weaken (fun _ _ _ _ => trivial)⟩⟩ rfl hna (hl.1.1) rfl (lv_room hcat) hd hcs) hS (fun q _ h => hFc q h) hFc (fun r' u t H1 locs1 ht hvm hr' hB hz hk hS1 => ?_)
  obtain ⟨hP1, hK1, hD1⟩ := hB
  rw [ht] at hP1
  subst hr'
  obtain ⟨hP2, hD2⟩ := v_join hP hD hFc hk hP1 hD1
  exact kk H1 locs1 ls hP2 hD2 hS1 hl
end VCall
end
section
/-! THE STATE: sg f k: 0 minute, 1 runs, 2 orders, 3 holder, 4 leaseEnd, 5 thrown (at 0); 6 start, 7 end, 8 need, 9 state, 10 bus, 11 driver (of a run); 12 charge, 13 broken, 14 ill, 15 plugged, 16 log, 17 marks -/
abbrev Sg : Type := Nat → Nat → Int32
def su (x : Sg) (f k : Nat) (v : Int32) : Sg := fun f' k' => if f' = f then (if k' = k then v else x f' k') else x f' k'
theorem su_s (x : Sg) (f k : Nat) (v : Int32) : su x f k v f k = v := by simp [su]
theorem su_f (x : Sg) {f f' : Nat} (k k' : Nat) (v : Int32) (h : f' ≠ f) : su x f k v f' k' = x f' k' := by simp [su, h]
theorem su_F (x : Sg) {f f' : Nat} (k : Nat) (v : Int32) (h : f' ≠ f) : su x f k v f' = x f' := funext fun k' => su_f x k k' v h
theorem su_k (x : Sg) (f : Nat) {k k' : Nat} (v : Int32) (h : k' ≠ k) : su x f k v f k' = x f k' := by simp [su, h]
theorem su_u (x : Sg) (f k : Nat) (v : Int32) : upd (x f) k v = su x f k v f := by funext j; simp [upd, su]
theorem su_n (x : Sg) (f k : Nat) (v : Int32) (h : x f k = v) : su x f k v = x := by
  funext a b
  unfold su
  split
  · split
    · subst_vars; rfl
    · rfl
  · rfl
theorem map_set {α : Type} (g g' : Nat → α) (n k : Nat) (h : ∀ j, j ≠ k → g' j = g j) : ((List.range n).map g).set k (g' k) = (List.range n).map g' := by
  apply List.ext_getElem?
  intro j
  rw [List.getElem?_set]
  by_cases hj : k = j
  · subst hj
    by_cases hn : k < n
    · simp [hn]
    · simp [hn]
  · rw [if_neg hj]
    simp only [List.getElem?_map]
    by_cases hn : j < n
    · simp [hn, h j (fun q => hj q.symm)]
    · simp [hn]
/-- a run's cell -/
def wR (ad : Nat → Nat) (x : Sg) (k : Nat) : Nat × va_E := (ad (k + 8), .inr (0, [.int (x 6 k), .int (x 7 k), .int (x 8 k), .int (x 9 k), .int (x 10 k), .int (x 11 k)]))
def wD (cy : Nat → ClassId) (ad : Nat → Nat) (x : Sg) : va_W :=
  (ad 0, .inr (1, [.ref (ad 1), .ref (ad 2), .ref (ad 3), .ref (ad 4), .ref (ad 5), .ref (ad 6), .ref (ad 7), .int (x 0 0), .int (x 1 0), .int (x 2 0), .int (x 3 0), .int (x 4 0)])) ::
  (ad 1, .inl (cy 2, 30, .inr (.inr (.inr (.inr (fun k => some (ad (k + 8)))))))) ::
  (ad 2, .inl (cy 0, 5, .inl (x 12))) :: (ad 3, .inl (cy 1, 5, .inl (x 13))) :: (ad 4, .inl (cy 1, 5, .inl (x 14))) :: (ad 5, .inl (cy 0, 2, .inl (x 15))) :: (ad 6, .inl (cy 0, 1000, .inl (x 16))) :: (ad 7, .inl (cy 0, 1000, .inl (x 17))) ::
  (List.range 30).map (wR ad x)
theorem wD_run (cy : Nat → ClassId) (ad : Nat → Nat) (x : Sg) {k : Nat} (hk : k < 30) : (wD cy ad x)[k + 8]? = some (wR ad x k) := by
  show ((List.range 30).map (wR ad x))[k]? = _
  simp [hk]
theorem wD_runS (cy : Nat → ClassId) (ad : Nat → Nat) (x x' : Sg) {k : Nat} (h0 : ∀ f, f < 6 ∨ 11 < f → x' f = x f) (h : ∀ f j, j ≠ k → x' f j = x f j) : (wD cy ad x).set (k + 8) (wR ad x' k) = wD cy ad x' := by
  have e : (wD cy ad x).set (k + 8) (wR ad x' k) = (wD cy ad x).take 8 ++ ((List.range 30).map (wR ad x)).set k (wR ad x' k) := rfl
  rw [e, map_set (wR ad x) (wR ad x') 30 k (fun j hj => by simp only [wR, h _ j hj])]
  simp only [wD, List.take, List.cons_append, List.nil_append, h0 0 (by omega), h0 1 (by omega), h0 2 (by omega), h0 3 (by omega), h0 4 (by omega), h0 12 (by omega), h0 13 (by omega), h0 14 (by omega), h0 15 (by omega), h0 16 (by omega), h0 17 (by omega)]
theorem wR_su (ad : Nat → Nat) (x : Sg) (f k : Nat) (v : Int32) (h : f < 6 ∨ 11 < f) : wR ad (su x f k v) = wR ad x := by
  funext j
  simp only [wR, su_F x k v (show 6 ≠ f by omega), su_F x k v (show 7 ≠ f by omega), su_F x k v (show 8 ≠ f by omega), su_F x k v (show 9 ≠ f by omega), su_F x k v (show 10 ≠ f by omega), su_F x k v (show 11 ≠ f by omega)]
section WL
variable {p : Program} {l : Launch} {e : Env} {R : Room} {s : State} {m : MethodId} {args : Array Value} {below : List Frame} {meth : Method} {c : Code} {cells slots : Nat} {Q : State → Prop} {cc : ByteArray} {nL : Nat} {Ts : List Cond} {own : String} {ret : Option FieldType} {G : va_G} {cy : Nat → ClassId} {A : Nat → Prop} {pc : Nat} {lo : List (Option Value)} {st : List Value} {ad am : Nat → Nat} {x : Sg}
theorem vD_g_rows (C : vC p s m args meth c cc nL Ts own ret G cy A) (hin : ∀ x ∈ u_ws RX1 TX1 12, x ∈ Ts) {idx : Nat} (hm : Cond.fieldLink own idx "DepotLog" "rows" "[LDepotLog$Run;" ∈ Ts) (hd : decode cc pc = .ok (.getfield idx, 3)) (k : V p l e R s m args below meth c nL G A Q (wD cy ad x) cells slots (pc + 3) lo (.ref (ad 1) :: st)) : V p l e R s m args below meth c nL G A Q (wD cy ad x) cells slots (pc) lo (.ref (ad 0) :: st) := v_get C 0 0 1 rfl rfl (by decide) rfl hin hm hd k
theorem vD_g_charges (C : vC p s m args meth c cc nL Ts own ret G cy A) (hin : ∀ x ∈ u_ws RX1 TX1 12, x ∈ Ts) {idx : Nat} (hm : Cond.fieldLink own idx "DepotLog" "charges" "[I" ∈ Ts) (hd : decode cc pc = .ok (.getfield idx, 3)) (k : V p l e R s m args below meth c nL G A Q (wD cy ad x) cells slots (pc + 3) lo (.ref (ad 2) :: st)) : V p l e R s m args below meth c nL G A Q (wD cy ad x) cells slots (pc) lo (.ref (ad 0) :: st) := v_get C 0 1 1 rfl rfl (by decide) rfl hin hm hd k
theorem vD_g_broken (C : vC p s m args meth c cc nL Ts own ret G cy A) (hin : ∀ x ∈ u_ws RX1 TX1 12, x ∈ Ts) {idx : Nat} (hm : Cond.fieldLink own idx "DepotLog" "broken" "[Z" ∈ Ts) (hd : decode cc pc = .ok (.getfield idx, 3)) (k : V p l e R s m args below meth c nL G A Q (wD cy ad x) cells slots (pc + 3) lo (.ref (ad 3) :: st)) : V p l e R s m args below meth c nL G A Q (wD cy ad x) cells slots (pc) lo (.ref (ad 0) :: st) := v_get C 0 2 1 rfl rfl (by decide) rfl hin hm hd k
theorem vD_g_ill (C : vC p s m args meth c cc nL Ts own ret G cy A) (hin : ∀ x ∈ u_ws RX1 TX1 12, x ∈ Ts) {idx : Nat} (hm : Cond.fieldLink own idx "DepotLog" "ill" "[Z" ∈ Ts) (hd : decode cc pc = .ok (.getfield idx, 3)) (k : V p l e R s m args below meth c nL G A Q (wD cy ad x) cells slots (pc + 3) lo (.ref (ad 4) :: st)) : V p l e R s m args below meth c nL G A Q (wD cy ad x) cells slots (pc) lo (.ref (ad 0) :: st) := v_get C 0 3 1 rfl rfl (by decide) rfl hin hm hd k
theorem vD_g_busAtCharger (C : vC p s m args meth c cc nL Ts own ret G cy A) (hin : ∀ x ∈ u_ws RX1 TX1 12, x ∈ Ts) {idx : Nat} (hm : Cond.fieldLink own idx "DepotLog" "busAtCharger" "[I" ∈ Ts) (hd : decode cc pc = .ok (.getfield idx, 3)) (k : V p l e R s m args below meth c nL G A Q (wD cy ad x) cells slots (pc + 3) lo (.ref (ad 5) :: st)) : V p l e R s m args below meth c nL G A Q (wD cy ad x) cells slots (pc) lo (.ref (ad 0) :: st) := v_get C 0 4 1 rfl rfl (by decide) rfl hin hm hd k
theorem vD_g_log (C : vC p s m args meth c cc nL Ts own ret G cy A) (hin : ∀ x ∈ u_ws RX1 TX1 12, x ∈ Ts) {idx : Nat} (hm : Cond.fieldLink own idx "DepotLog" "log" "[I" ∈ Ts) (hd : decode cc pc = .ok (.getfield idx, 3)) (k : V p l e R s m args below meth c nL G A Q (wD cy ad x) cells slots (pc + 3) lo (.ref (ad 6) :: st)) : V p l e R s m args below meth c nL G A Q (wD cy ad x) cells slots (pc) lo (.ref (ad 0) :: st) := v_get C 0 5 1 rfl rfl (by decide) rfl hin hm hd k
theorem vD_g_numberOfMark (C : vC p s m args meth c cc nL Ts own ret G cy A) (hin : ∀ x ∈ u_ws RX1 TX1 12, x ∈ Ts) {idx : Nat} (hm : Cond.fieldLink own idx "DepotLog" "numberOfMark" "[I" ∈ Ts) (hd : decode cc pc = .ok (.getfield idx, 3)) (k : V p l e R s m args below meth c nL G A Q (wD cy ad x) cells slots (pc + 3) lo (.ref (ad 7) :: st)) : V p l e R s m args below meth c nL G A Q (wD cy ad x) cells slots (pc) lo (.ref (ad 0) :: st) := v_get C 0 6 1 rfl rfl (by decide) rfl hin hm hd k
theorem vD_g_minute (C : vC p s m args meth c cc nL Ts own ret G cy A) (hin : ∀ x ∈ u_ws RX1 TX1 12, x ∈ Ts) {idx : Nat} (hm : Cond.fieldLink own idx "DepotLog" "minute" "I" ∈ Ts) (hd : decode cc pc = .ok (.getfield idx, 3)) (k : V p l e R s m args below meth c nL G A Q (wD cy ad x) cells slots (pc + 3) lo (.int (x 0 0) :: st)) : V p l e R s m args below meth c nL G A Q (wD cy ad x) cells slots (pc) lo (.ref (ad 0) :: st) := v_get C 0 7 1 rfl rfl (by decide) rfl hin hm hd k
theorem vD_p_minute (C : vC p s m args meth c cc nL Ts own ret G cy A) (hin : ∀ x ∈ u_ws RX1 TX1 12, x ∈ Ts) {idx : Nat} {v : Int32} (hm : Cond.fieldLink own idx "DepotLog" "minute" "I" ∈ Ts) (hd : decode cc pc = .ok (.putfield idx, 3)) (k : V p l e R s m args below meth c nL G A Q (wD cy ad (su x 0 0 v)) cells slots (pc + 3) lo (st)) : V p l e R s m args below meth c nL G A Q (wD cy ad x) cells slots (pc) lo (.int v :: .ref (ad 0) :: st) := v_put C 0 7 1 tyX1 tyX1_ok nmX1 rfl rfl (by decide) hin hm rfl (by decide +kernel : parseFieldDescriptor (TX1 7).2.2.1 = some .int) rfl rfl (by decide : 7 < 12) (by simp only [wD, wR_su ad x 0 0 v (by decide), su_s, su_F x _ v (show 1 ≠ 0 by decide), su_F x _ v (show 2 ≠ 0 by decide), su_F x _ v (show 3 ≠ 0 by decide), su_F x _ v (show 4 ≠ 0 by decide), su_F x _ v (show 5 ≠ 0 by decide), su_F x _ v (show 6 ≠ 0 by decide), su_F x _ v (show 7 ≠ 0 by decide), su_F x _ v (show 8 ≠ 0 by decide), su_F x _ v (show 9 ≠ 0 by decide), su_F x _ v (show 10 ≠ 0 by decide), su_F x _ v (show 11 ≠ 0 by decide), su_F x _ v (show 12 ≠ 0 by decide), su_F x _ v (show 13 ≠ 0 by decide), su_F x _ v (show 14 ≠ 0 by decide), su_F x _ v (show 15 ≠ 0 by decide), su_F x _ v (show 16 ≠ 0 by decide), su_F x _ v (show 17 ≠ 0 by decide)]; rfl) hd k
theorem vD_g_runCount (C : vC p s m args meth c cc nL Ts own ret G cy A) (hin : ∀ x ∈ u_ws RX1 TX1 12, x ∈ Ts) {idx : Nat} (hm : Cond.fieldLink own idx "DepotLog" "runCount" "I" ∈ Ts) (hd : decode cc pc = .ok (.getfield idx, 3)) (k : V p l e R s m args below meth c nL G A Q (wD cy ad x) cells slots (pc + 3) lo (.int (x 1 0) :: st)) : V p l e R s m args below meth c nL G A Q (wD cy ad x) cells slots (pc) lo (.ref (ad 0) :: st) := v_get C 0 8 1 rfl rfl (by decide) rfl hin hm hd k
theorem vD_p_runCount (C : vC p s m args meth c cc nL Ts own ret G cy A) (hin : ∀ x ∈ u_ws RX1 TX1 12, x ∈ Ts) {idx : Nat} {v : Int32} (hm : Cond.fieldLink own idx "DepotLog" "runCount" "I" ∈ Ts) (hd : decode cc pc = .ok (.putfield idx, 3)) (k : V p l e R s m args below meth c nL G A Q (wD cy ad (su x 1 0 v)) cells slots (pc + 3) lo (st)) : V p l e R s m args below meth c nL G A Q (wD cy ad x) cells slots (pc) lo (.int v :: .ref (ad 0) :: st) := v_put C 0 8 1 tyX1 tyX1_ok nmX1 rfl rfl (by decide) hin hm rfl (by decide +kernel : parseFieldDescriptor (TX1 8).2.2.1 = some .int) rfl rfl (by decide : 8 < 12) (by simp only [wD, wR_su ad x 1 0 v (by decide), su_s, su_F x _ v (show 0 ≠ 1 by decide), su_F x _ v (show 2 ≠ 1 by decide), su_F x _ v (show 3 ≠ 1 by decide), su_F x _ v (show 4 ≠ 1 by decide), su_F x _ v (show 5 ≠ 1 by decide), su_F x _ v (show 6 ≠ 1 by decide), su_F x _ v (show 7 ≠ 1 by decide), su_F x _ v (show 8 ≠ 1 by decide), su_F x _ v (show 9 ≠ 1 by decide), su_F x _ v (show 10 ≠ 1 by decide), su_F x _ v (show 11 ≠ 1 by decide), su_F x _ v (show 12 ≠ 1 by decide), su_F x _ v (show 13 ≠ 1 by decide), su_F x _ v (show 14 ≠ 1 by decide), su_F x _ v (show 15 ≠ 1 by decide), su_F x _ v (show 16 ≠ 1 by decide), su_F x _ v (show 17 ≠ 1 by decide)]; rfl) hd k
theorem vD_g_orderCount (C : vC p s m args meth c cc nL Ts own ret G cy A) (hin : ∀ x ∈ u_ws RX1 TX1 12, x ∈ Ts) {idx : Nat} (hm : Cond.fieldLink own idx "DepotLog" "orderCount" "I" ∈ Ts) (hd : decode cc pc = .ok (.getfield idx, 3)) (k : V p l e R s m args below meth c nL G A Q (wD cy ad x) cells slots (pc + 3) lo (.int (x 2 0) :: st)) : V p l e R s m args below meth c nL G A Q (wD cy ad x) cells slots (pc) lo (.ref (ad 0) :: st) := v_get C 0 9 1 rfl rfl (by decide) rfl hin hm hd k
theorem vD_p_orderCount (C : vC p s m args meth c cc nL Ts own ret G cy A) (hin : ∀ x ∈ u_ws RX1 TX1 12, x ∈ Ts) {idx : Nat} {v : Int32} (hm : Cond.fieldLink own idx "DepotLog" "orderCount" "I" ∈ Ts) (hd : decode cc pc = .ok (.putfield idx, 3)) (k : V p l e R s m args below meth c nL G A Q (wD cy ad (su x 2 0 v)) cells slots (pc + 3) lo (st)) : V p l e R s m args below meth c nL G A Q (wD cy ad x) cells slots (pc) lo (.int v :: .ref (ad 0) :: st) := v_put C 0 9 1 tyX1 tyX1_ok nmX1 rfl rfl (by decide) hin hm rfl (by decide +kernel : parseFieldDescriptor (TX1 9).2.2.1 = some .int) rfl rfl (by decide : 9 < 12) (by simp only [wD, wR_su ad x 2 0 v (by decide), su_s, su_F x _ v (show 0 ≠ 2 by decide), su_F x _ v (show 1 ≠ 2 by decide), su_F x _ v (show 3 ≠ 2 by decide), su_F x _ v (show 4 ≠ 2 by decide), su_F x _ v (show 5 ≠ 2 by decide), su_F x _ v (show 6 ≠ 2 by decide), su_F x _ v (show 7 ≠ 2 by decide), su_F x _ v (show 8 ≠ 2 by decide), su_F x _ v (show 9 ≠ 2 by decide), su_F x _ v (show 10 ≠ 2 by decide), su_F x _ v (show 11 ≠ 2 by decide), su_F x _ v (show 12 ≠ 2 by decide), su_F x _ v (show 13 ≠ 2 by decide), su_F x _ v (show 14 ≠ 2 by decide), su_F x _ v (show 15 ≠ 2 by decide), su_F x _ v (show 16 ≠ 2 by decide), su_F x _ v (show 17 ≠ 2 by decide)]; rfl) hd k
theorem vD_g_holder (C : vC p s m args meth c cc nL Ts own ret G cy A) (hin : ∀ x ∈ u_ws RX1 TX1 12, x ∈ Ts) {idx : Nat} (hm : Cond.fieldLink own idx "DepotLog" "holder" "I" ∈ Ts) (hd : decode cc pc = .ok (.getfield idx, 3)) (k : V p l e R s m args below meth c nL G A Q (wD cy ad x) cells slots (pc + 3) lo (.int (x 3 0) :: st)) : V p l e R s m args below meth c nL G A Q (wD cy ad x) cells slots (pc) lo (.ref (ad 0) :: st) := v_get C 0 10 1 rfl rfl (by decide) rfl hin hm hd k
theorem vD_p_holder (C : vC p s m args meth c cc nL Ts own ret G cy A) (hin : ∀ x ∈ u_ws RX1 TX1 12, x ∈ Ts) {idx : Nat} {v : Int32} (hm : Cond.fieldLink own idx "DepotLog" "holder" "I" ∈ Ts) (hd : decode cc pc = .ok (.putfield idx, 3)) (k : V p l e R s m args below meth c nL G A Q (wD cy ad (su x 3 0 v)) cells slots (pc + 3) lo (st)) : V p l e R s m args below meth c nL G A Q (wD cy ad x) cells slots (pc) lo (.int v :: .ref (ad 0) :: st) := v_put C 0 10 1 tyX1 tyX1_ok nmX1 rfl rfl (by decide) hin hm rfl (by decide +kernel : parseFieldDescriptor (TX1 10).2.2.1 = some .int) rfl rfl (by decide : 10 < 12) (by simp only [wD, wR_su ad x 3 0 v (by decide), su_s, su_F x _ v (show 0 ≠ 3 by decide), su_F x _ v (show 1 ≠ 3 by decide), su_F x _ v (show 2 ≠ 3 by decide), su_F x _ v (show 4 ≠ 3 by decide), su_F x _ v (show 5 ≠ 3 by decide), su_F x _ v (show 6 ≠ 3 by decide), su_F x _ v (show 7 ≠ 3 by decide), su_F x _ v (show 8 ≠ 3 by decide), su_F x _ v (show 9 ≠ 3 by decide), su_F x _ v (show 10 ≠ 3 by decide), su_F x _ v (show 11 ≠ 3 by decide), su_F x _ v (show 12 ≠ 3 by decide), su_F x _ v (show 13 ≠ 3 by decide), su_F x _ v (show 14 ≠ 3 by decide), su_F x _ v (show 15 ≠ 3 by decide), su_F x _ v (show 16 ≠ 3 by decide), su_F x _ v (show 17 ≠ 3 by decide)]; rfl) hd k
theorem vD_g_leaseEnd (C : vC p s m args meth c cc nL Ts own ret G cy A) (hin : ∀ x ∈ u_ws RX1 TX1 12, x ∈ Ts) {idx : Nat} (hm : Cond.fieldLink own idx "DepotLog" "leaseEnd" "I" ∈ Ts) (hd : decode cc pc = .ok (.getfield idx, 3)) (k : V p l e R s m args below meth c nL G A Q (wD cy ad x) cells slots (pc + 3) lo (.int (x 4 0) :: st)) : V p l e R s m args below meth c nL G A Q (wD cy ad x) cells slots (pc) lo (.ref (ad 0) :: st) := v_get C 0 11 1 rfl rfl (by decide) rfl hin hm hd k
theorem vD_p_leaseEnd (C : vC p s m args meth c cc nL Ts own ret G cy A) (hin : ∀ x ∈ u_ws RX1 TX1 12, x ∈ Ts) {idx : Nat} {v : Int32} (hm : Cond.fieldLink own idx "DepotLog" "leaseEnd" "I" ∈ Ts) (hd : decode cc pc = .ok (.putfield idx, 3)) (k : V p l e R s m args below meth c nL G A Q (wD cy ad (su x 4 0 v)) cells slots (pc + 3) lo (st)) : V p l e R s m args below meth c nL G A Q (wD cy ad x) cells slots (pc) lo (.int v :: .ref (ad 0) :: st) := v_put C 0 11 1 tyX1 tyX1_ok nmX1 rfl rfl (by decide) hin hm rfl (by decide +kernel : parseFieldDescriptor (TX1 11).2.2.1 = some .int) rfl rfl (by decide : 11 < 12) (by simp only [wD, wR_su ad x 4 0 v (by decide), su_s, su_F x _ v (show 0 ≠ 4 by decide), su_F x _ v (show 1 ≠ 4 by decide), su_F x _ v (show 2 ≠ 4 by decide), su_F x _ v (show 3 ≠ 4 by decide), su_F x _ v (show 5 ≠ 4 by decide), su_F x _ v (show 6 ≠ 4 by decide), su_F x _ v (show 7 ≠ 4 by decide), su_F x _ v (show 8 ≠ 4 by decide), su_F x _ v (show 9 ≠ 4 by decide), su_F x _ v (show 10 ≠ 4 by decide), su_F x _ v (show 11 ≠ 4 by decide), su_F x _ v (show 12 ≠ 4 by decide), su_F x _ v (show 13 ≠ 4 by decide), su_F x _ v (show 14 ≠ 4 by decide), su_F x _ v (show 15 ≠ 4 by decide), su_F x _ v (show 16 ≠ 4 by decide), su_F x _ v (show 17 ≠ 4 by decide)]; rfl) hd k
theorem vR_g_start (C : vC p s m args meth c cc nL Ts own ret G cy A) (hin : ∀ x ∈ u_ws RX0 TX0 6, x ∈ Ts) {j : Nat} (hj : j < 30) {idx : Nat} (hm : Cond.fieldLink own idx "DepotLog$Run" "start" "I" ∈ Ts) (hd : decode cc pc = .ok (.getfield idx, 3)) (k : V p l e R s m args below meth c nL G A Q (wD cy ad x) cells slots (pc + 3) lo (.int (x 6 j) :: st)) : V p l e R s m args below meth c nL G A Q (wD cy ad x) cells slots (pc) lo (.ref (ad (j + 8)) :: st) := v_get C (j + 8) 0 0 rfl (wD_run cy ad x hj) (by decide) rfl hin hm hd k
theorem vR_p_start (C : vC p s m args meth c cc nL Ts own ret G cy A) (hin : ∀ x ∈ u_ws RX0 TX0 6, x ∈ Ts) {j : Nat} (hj : j < 30) {idx : Nat} {v : Int32} (hm : Cond.fieldLink own idx "DepotLog$Run" "start" "I" ∈ Ts) (hd : decode cc pc = .ok (.putfield idx, 3)) (k : V p l e R s m args below meth c nL G A Q (wD cy ad (su x 6 j v)) cells slots (pc + 3) lo (st)) : V p l e R s m args below meth c nL G A Q (wD cy ad x) cells slots (pc) lo (.int v :: .ref (ad (j + 8)) :: st) := v_put C (j + 8) 0 0 tyX0 tyX0_ok nmX0 rfl (wD_run cy ad x hj) (by decide) hin hm rfl (by decide +kernel : parseFieldDescriptor (TX0 0).2.2.1 = some .int) rfl rfl (by decide : 0 < 6) (by rw [← wD_runS cy ad x (su x 6 j v) (k := j) (fun f hf => su_F x j v (by omega)) (fun f i hi => by unfold su; simp [hi])]; simp only [wR, su_s, su_F x _ v (show 0 ≠ 6 by decide), su_F x _ v (show 1 ≠ 6 by decide), su_F x _ v (show 2 ≠ 6 by decide), su_F x _ v (show 3 ≠ 6 by decide), su_F x _ v (show 4 ≠ 6 by decide), su_F x _ v (show 5 ≠ 6 by decide), su_F x _ v (show 7 ≠ 6 by decide), su_F x _ v (show 8 ≠ 6 by decide), su_F x _ v (show 9 ≠ 6 by decide), su_F x _ v (show 10 ≠ 6 by decide), su_F x _ v (show 11 ≠ 6 by decide), su_F x _ v (show 12 ≠ 6 by decide), su_F x _ v (show 13 ≠ 6 by decide), su_F x _ v (show 14 ≠ 6 by decide), su_F x _ v (show 15 ≠ 6 by decide), su_F x _ v (show 16 ≠ 6 by decide), su_F x _ v (show 17 ≠ 6 by decide)]; rfl) hd k
theorem vR_g_end (C : vC p s m args meth c cc nL Ts own ret G cy A) (hin : ∀ x ∈ u_ws RX0 TX0 6, x ∈ Ts) {j : Nat} (hj : j < 30) {idx : Nat} (hm : Cond.fieldLink own idx "DepotLog$Run" "end" "I" ∈ Ts) (hd : decode cc pc = .ok (.getfield idx, 3)) (k : V p l e R s m args below meth c nL G A Q (wD cy ad x) cells slots (pc + 3) lo (.int (x 7 j) :: st)) : V p l e R s m args below meth c nL G A Q (wD cy ad x) cells slots (pc) lo (.ref (ad (j + 8)) :: st) := v_get C (j + 8) 1 0 rfl (wD_run cy ad x hj) (by decide) rfl hin hm hd k
theorem vR_p_end (C : vC p s m args meth c cc nL Ts own ret G cy A) (hin : ∀ x ∈ u_ws RX0 TX0 6, x ∈ Ts) {j : Nat} (hj : j < 30) {idx : Nat} {v : Int32} (hm : Cond.fieldLink own idx "DepotLog$Run" "end" "I" ∈ Ts) (hd : decode cc pc = .ok (.putfield idx, 3)) (k : V p l e R s m args below meth c nL G A Q (wD cy ad (su x 7 j v)) cells slots (pc + 3) lo (st)) : V p l e R s m args below meth c nL G A Q (wD cy ad x) cells slots (pc) lo (.int v :: .ref (ad (j + 8)) :: st) := v_put C (j + 8) 1 0 tyX0 tyX0_ok nmX0 rfl (wD_run cy ad x hj) (by decide) hin hm rfl (by decide +kernel : parseFieldDescriptor (TX0 1).2.2.1 = some .int) rfl rfl (by decide : 1 < 6) (by rw [← wD_runS cy ad x (su x 7 j v) (k := j) (fun f hf => su_F x j v (by omega)) (fun f i hi => by unfold su; simp [hi])]; simp only [wR, su_s, su_F x _ v (show 0 ≠ 7 by decide), su_F x _ v (show 1 ≠ 7 by decide), su_F x _ v (show 2 ≠ 7 by decide), su_F x _ v (show 3 ≠ 7 by decide), su_F x _ v (show 4 ≠ 7 by decide), su_F x _ v (show 5 ≠ 7 by decide), su_F x _ v (show 6 ≠ 7 by decide), su_F x _ v (show 8 ≠ 7 by decide), su_F x _ v (show 9 ≠ 7 by decide), su_F x _ v (show 10 ≠ 7 by decide), su_F x _ v (show 11 ≠ 7 by decide), su_F x _ v (show 12 ≠ 7 by decide), su_F x _ v (show 13 ≠ 7 by decide), su_F x _ v (show 14 ≠ 7 by decide), su_F x _ v (show 15 ≠ 7 by decide), su_F x _ v (show 16 ≠ 7 by decide), su_F x _ v (show 17 ≠ 7 by decide)]; rfl) hd k
theorem vR_g_need (C : vC p s m args meth c cc nL Ts own ret G cy A) (hin : ∀ x ∈ u_ws RX0 TX0 6, x ∈ Ts) {j : Nat} (hj : j < 30) {idx : Nat} (hm : Cond.fieldLink own idx "DepotLog$Run" "need" "I" ∈ Ts) (hd : decode cc pc = .ok (.getfield idx, 3)) (k : V p l e R s m args below meth c nL G A Q (wD cy ad x) cells slots (pc + 3) lo (.int (x 8 j) :: st)) : V p l e R s m args below meth c nL G A Q (wD cy ad x) cells slots (pc) lo (.ref (ad (j + 8)) :: st) := v_get C (j + 8) 2 0 rfl (wD_run cy ad x hj) (by decide) rfl hin hm hd k
theorem vR_p_need (C : vC p s m args meth c cc nL Ts own ret G cy A) (hin : ∀ x ∈ u_ws RX0 TX0 6, x ∈ Ts) {j : Nat} (hj : j < 30) {idx : Nat} {v : Int32} (hm : Cond.fieldLink own idx "DepotLog$Run" "need" "I" ∈ Ts) (hd : decode cc pc = .ok (.putfield idx, 3)) (k : V p l e R s m args below meth c nL G A Q (wD cy ad (su x 8 j v)) cells slots (pc + 3) lo (st)) : V p l e R s m args below meth c nL G A Q (wD cy ad x) cells slots (pc) lo (.int v :: .ref (ad (j + 8)) :: st) := v_put C (j + 8) 2 0 tyX0 tyX0_ok nmX0 rfl (wD_run cy ad x hj) (by decide) hin hm rfl (by decide +kernel : parseFieldDescriptor (TX0 2).2.2.1 = some .int) rfl rfl (by decide : 2 < 6) (by rw [← wD_runS cy ad x (su x 8 j v) (k := j) (fun f hf => su_F x j v (by omega)) (fun f i hi => by unfold su; simp [hi])]; simp only [wR, su_s, su_F x _ v (show 0 ≠ 8 by decide), su_F x _ v (show 1 ≠ 8 by decide), su_F x _ v (show 2 ≠ 8 by decide), su_F x _ v (show 3 ≠ 8 by decide), su_F x _ v (show 4 ≠ 8 by decide), su_F x _ v (show 5 ≠ 8 by decide), su_F x _ v (show 6 ≠ 8 by decide), su_F x _ v (show 7 ≠ 8 by decide), su_F x _ v (show 9 ≠ 8 by decide), su_F x _ v (show 10 ≠ 8 by decide), su_F x _ v (show 11 ≠ 8 by decide), su_F x _ v (show 12 ≠ 8 by decide), su_F x _ v (show 13 ≠ 8 by decide), su_F x _ v (show 14 ≠ 8 by decide), su_F x _ v (show 15 ≠ 8 by decide), su_F x _ v (show 16 ≠ 8 by decide), su_F x _ v (show 17 ≠ 8 by decide)]; rfl) hd k
theorem vR_g_state (C : vC p s m args meth c cc nL Ts own ret G cy A) (hin : ∀ x ∈ u_ws RX0 TX0 6, x ∈ Ts) {j : Nat} (hj : j < 30) {idx : Nat} (hm : Cond.fieldLink own idx "DepotLog$Run" "state" "I" ∈ Ts) (hd : decode cc pc = .ok (.getfield idx, 3)) (k : V p l e R s m args below meth c nL G A Q (wD cy ad x) cells slots (pc + 3) lo (.int (x 9 j) :: st)) : V p l e R s m args below meth c nL G A Q (wD cy ad x) cells slots (pc) lo (.ref (ad (j + 8)) :: st) := v_get C (j + 8) 3 0 rfl (wD_run cy ad x hj) (by decide) rfl hin hm hd k
theorem vR_p_state (C : vC p s m args meth c cc nL Ts own ret G cy A) (hin : ∀ x ∈ u_ws RX0 TX0 6, x ∈ Ts) {j : Nat} (hj : j < 30) {idx : Nat} {v : Int32} (hm : Cond.fieldLink own idx "DepotLog$Run" "state" "I" ∈ Ts) (hd : decode cc pc = .ok (.putfield idx, 3)) (k : V p l e R s m args below meth c nL G A Q (wD cy ad (su x 9 j v)) cells slots (pc + 3) lo (st)) : V p l e R s m args below meth c nL G A Q (wD cy ad x) cells slots (pc) lo (.int v :: .ref (ad (j + 8)) :: st) := v_put C (j + 8) 3 0 tyX0 tyX0_ok nmX0 rfl (wD_run cy ad x hj) (by decide) hin hm rfl (by decide +kernel : parseFieldDescriptor (TX0 3).2.2.1 = some .int) rfl rfl (by decide : 3 < 6) (by rw [← wD_runS cy ad x (su x 9 j v) (k := j) (fun f hf => su_F x j v (by omega)) (fun f i hi => by unfold su; simp [hi])]; simp only [wR, su_s, su_F x _ v (show 0 ≠ 9 by decide), su_F x _ v (show 1 ≠ 9 by decide), su_F x _ v (show 2 ≠ 9 by decide), su_F x _ v (show 3 ≠ 9 by decide), su_F x _ v (show 4 ≠ 9 by decide), su_F x _ v (show 5 ≠ 9 by decide), su_F x _ v (show 6 ≠ 9 by decide), su_F x _ v (show 7 ≠ 9 by decide), su_F x _ v (show 8 ≠ 9 by decide), su_F x _ v (show 10 ≠ 9 by decide), su_F x _ v (show 11 ≠ 9 by decide), su_F x _ v (show 12 ≠ 9 by decide), su_F x _ v (show 13 ≠ 9 by decide), su_F x _ v (show 14 ≠ 9 by decide), su_F x _ v (show 15 ≠ 9 by decide), su_F x _ v (show 16 ≠ 9 by decide), su_F x _ v (show 17 ≠ 9 by decide)]; rfl) hd k
theorem vR_g_bus (C : vC p s m args meth c cc nL Ts own ret G cy A) (hin : ∀ x ∈ u_ws RX0 TX0 6, x ∈ Ts) {j : Nat} (hj : j < 30) {idx : Nat} (hm : Cond.fieldLink own idx "DepotLog$Run" "bus" "I" ∈ Ts) (hd : decode cc pc = .ok (.getfield idx, 3)) (k : V p l e R s m args below meth c nL G A Q (wD cy ad x) cells slots (pc + 3) lo (.int (x 10 j) :: st)) : V p l e R s m args below meth c nL G A Q (wD cy ad x) cells slots (pc) lo (.ref (ad (j + 8)) :: st) := v_get C (j + 8) 4 0 rfl (wD_run cy ad x hj) (by decide) rfl hin hm hd k
theorem vR_p_bus (C : vC p s m args meth c cc nL Ts own ret G cy A) (hin : ∀ x ∈ u_ws RX0 TX0 6, x ∈ Ts) {j : Nat} (hj : j < 30) {idx : Nat} {v : Int32} (hm : Cond.fieldLink own idx "DepotLog$Run" "bus" "I" ∈ Ts) (hd : decode cc pc = .ok (.putfield idx, 3)) (k : V p l e R s m args below meth c nL G A Q (wD cy ad (su x 10 j v)) cells slots (pc + 3) lo (st)) : V p l e R s m args below meth c nL G A Q (wD cy ad x) cells slots (pc) lo (.int v :: .ref (ad (j + 8)) :: st) := v_put C (j + 8) 4 0 tyX0 tyX0_ok nmX0 rfl (wD_run cy ad x hj) (by decide) hin hm rfl (by decide +kernel : parseFieldDescriptor (TX0 4).2.2.1 = some .int) rfl rfl (by decide : 4 < 6) (by rw [← wD_runS cy ad x (su x 10 j v) (k := j) (fun f hf => su_F x j v (by omega)) (fun f i hi => by unfold su; simp [hi])]; simp only [wR, su_s, su_F x _ v (show 0 ≠ 10 by decide), su_F x _ v (show 1 ≠ 10 by decide), su_F x _ v (show 2 ≠ 10 by decide), su_F x _ v (show 3 ≠ 10 by decide), su_F x _ v (show 4 ≠ 10 by decide), su_F x _ v (show 5 ≠ 10 by decide), su_F x _ v (show 6 ≠ 10 by decide), su_F x _ v (show 7 ≠ 10 by decide), su_F x _ v (show 8 ≠ 10 by decide), su_F x _ v (show 9 ≠ 10 by decide), su_F x _ v (show 11 ≠ 10 by decide), su_F x _ v (show 12 ≠ 10 by decide), su_F x _ v (show 13 ≠ 10 by decide), su_F x _ v (show 14 ≠ 10 by decide), su_F x _ v (show 15 ≠ 10 by decide), su_F x _ v (show 16 ≠ 10 by decide), su_F x _ v (show 17 ≠ 10 by decide)]; rfl) hd k
theorem vR_g_driver (C : vC p s m args meth c cc nL Ts own ret G cy A) (hin : ∀ x ∈ u_ws RX0 TX0 6, x ∈ Ts) {j : Nat} (hj : j < 30) {idx : Nat} (hm : Cond.fieldLink own idx "DepotLog$Run" "driver" "I" ∈ Ts) (hd : decode cc pc = .ok (.getfield idx, 3)) (k : V p l e R s m args below meth c nL G A Q (wD cy ad x) cells slots (pc + 3) lo (.int (x 11 j) :: st)) : V p l e R s m args below meth c nL G A Q (wD cy ad x) cells slots (pc) lo (.ref (ad (j + 8)) :: st) := v_get C (j + 8) 5 0 rfl (wD_run cy ad x hj) (by decide) rfl hin hm hd k
theorem vR_p_driver (C : vC p s m args meth c cc nL Ts own ret G cy A) (hin : ∀ x ∈ u_ws RX0 TX0 6, x ∈ Ts) {j : Nat} (hj : j < 30) {idx : Nat} {v : Int32} (hm : Cond.fieldLink own idx "DepotLog$Run" "driver" "I" ∈ Ts) (hd : decode cc pc = .ok (.putfield idx, 3)) (k : V p l e R s m args below meth c nL G A Q (wD cy ad (su x 11 j v)) cells slots (pc + 3) lo (st)) : V p l e R s m args below meth c nL G A Q (wD cy ad x) cells slots (pc) lo (.int v :: .ref (ad (j + 8)) :: st) := v_put C (j + 8) 5 0 tyX0 tyX0_ok nmX0 rfl (wD_run cy ad x hj) (by decide) hin hm rfl (by decide +kernel : parseFieldDescriptor (TX0 5).2.2.1 = some .int) rfl rfl (by decide : 5 < 6) (by rw [← wD_runS cy ad x (su x 11 j v) (k := j) (fun f hf => su_F x j v (by omega)) (fun f i hi => by unfold su; simp [hi])]; simp only [wR, su_s, su_F x _ v (show 0 ≠ 11 by decide), su_F x _ v (show 1 ≠ 11 by decide), su_F x _ v (show 2 ≠ 11 by decide), su_F x _ v (show 3 ≠ 11 by decide), su_F x _ v (show 4 ≠ 11 by decide), su_F x _ v (show 5 ≠ 11 by decide), su_F x _ v (show 6 ≠ 11 by decide), su_F x _ v (show 7 ≠ 11 by decide), su_F x _ v (show 8 ≠ 11 by decide), su_F x _ v (show 9 ≠ 11 by decide), su_F x _ v (show 10 ≠ 11 by decide), su_F x _ v (show 12 ≠ 11 by decide), su_F x _ v (show 13 ≠ 11 by decide), su_F x _ v (show 14 ≠ 11 by decide), su_F x _ v (show 15 ≠ 11 by decide), su_F x _ v (show 16 ≠ 11 by decide), su_F x _ v (show 17 ≠ 11 by decide)]; rfl) hd k
theorem vD_aald (C : vC p s m args meth c cc nL Ts own ret G cy A) (j : Nat) {i : Int32} (hi : i = nI j) (hj : j < 30) (hd : decode cc pc = .ok (.aaload, 1)) (k : V p l e R s m args below meth c nL G A Q (wD cy ad x) cells slots (pc + 1) lo (.ref (ad (j + 8)) :: st)) : V p l e R s m args below meth c nL G A Q (wD cy ad x) cells slots (pc) lo (.int i :: .ref (ad 1) :: st) := v_aald C 1 j (n := 30) (f := fun k => some (ad (k + 8))) rfl hi hj (by decide) hd k
theorem vD_l_charges (C : vC p s m args meth c cc nL Ts own ret G cy A) (j : Nat) {i : Int32} (hi : i = nI j) (hj : j < 5) (hd : decode cc pc = .ok (.iaload, 1)) (k : V p l e R s m args below meth c nL G A Q (wD cy ad x) cells slots (pc + 1) lo (.int (x 12 j) :: st)) : V p l e R s m args below meth c nL G A Q (wD cy ad x) cells slots (pc) lo (.int i :: .ref (ad 2) :: st) := v_iald C 2 j (n := 5) (f := x 12) rfl hi hj (by decide) hd k
theorem vD_s_charges (C : vC p s m args meth c cc nL Ts own ret G cy A) (j : Nat) {i v : Int32} (hi : i = nI j) (hj : j < 5) (hd : decode cc pc = .ok (.iastore, 1)) (k : V p l e R s m args below meth c nL G A Q (wD cy ad (su x 12 j v)) cells slots (pc + 1) lo (st)) : V p l e R s m args below meth c nL G A Q (wD cy ad x) cells slots (pc) lo (.int v :: .int i :: .ref (ad 2) :: st) := v_iast C 2 j (n := 5) (f := x 12) rfl hi hj (by decide) (by rw [su_u]; simp only [wD, wR_su ad x 12 j v (by decide), su_F x _ v (show 0 ≠ 12 by decide), su_F x _ v (show 1 ≠ 12 by decide), su_F x _ v (show 2 ≠ 12 by decide), su_F x _ v (show 3 ≠ 12 by decide), su_F x _ v (show 4 ≠ 12 by decide), su_F x _ v (show 5 ≠ 12 by decide), su_F x _ v (show 6 ≠ 12 by decide), su_F x _ v (show 7 ≠ 12 by decide), su_F x _ v (show 8 ≠ 12 by decide), su_F x _ v (show 9 ≠ 12 by decide), su_F x _ v (show 10 ≠ 12 by decide), su_F x _ v (show 11 ≠ 12 by decide), su_F x _ v (show 13 ≠ 12 by decide), su_F x _ v (show 14 ≠ 12 by decide), su_F x _ v (show 15 ≠ 12 by decide), su_F x _ v (show 16 ≠ 12 by decide), su_F x _ v (show 17 ≠ 12 by decide)]; rfl) hd k
theorem vD_l_broken (C : vC p s m args meth c cc nL Ts own ret G cy A) (j : Nat) {i : Int32} (hi : i = nI j) (hj : j < 5) (hd : decode cc pc = .ok (.baload, 1)) (k : V p l e R s m args below meth c nL G A Q (wD cy ad x) cells slots (pc + 1) lo (.int (x 13 j) :: st)) : V p l e R s m args below meth c nL G A Q (wD cy ad x) cells slots (pc) lo (.int i :: .ref (ad 3) :: st) := v_zald C 3 j (n := 5) (f := x 13) rfl hi hj (by decide) hd k
theorem vD_s_broken (C : vC p s m args meth c cc nL Ts own ret G cy A) (j : Nat) {i v : Int32} (hi : i = nI j) (hj : j < 5) (hx : vp_nar .boolean v = v) (hd : decode cc pc = .ok (.bastore, 1)) (k : V p l e R s m args below meth c nL G A Q (wD cy ad (su x 13 j v)) cells slots (pc + 1) lo (st)) : V p l e R s m args below meth c nL G A Q (wD cy ad x) cells slots (pc) lo (.int v :: .int i :: .ref (ad 3) :: st) := v_zast C 3 j (n := 5) (f := x 13) rfl hi hj (by decide) hx (by rw [su_u]; simp only [wD, wR_su ad x 13 j v (by decide), su_F x _ v (show 0 ≠ 13 by decide), su_F x _ v (show 1 ≠ 13 by decide), su_F x _ v (show 2 ≠ 13 by decide), su_F x _ v (show 3 ≠ 13 by decide), su_F x _ v (show 4 ≠ 13 by decide), su_F x _ v (show 5 ≠ 13 by decide), su_F x _ v (show 6 ≠ 13 by decide), su_F x _ v (show 7 ≠ 13 by decide), su_F x _ v (show 8 ≠ 13 by decide), su_F x _ v (show 9 ≠ 13 by decide), su_F x _ v (show 10 ≠ 13 by decide), su_F x _ v (show 11 ≠ 13 by decide), su_F x _ v (show 12 ≠ 13 by decide), su_F x _ v (show 14 ≠ 13 by decide), su_F x _ v (show 15 ≠ 13 by decide), su_F x _ v (show 16 ≠ 13 by decide), su_F x _ v (show 17 ≠ 13 by decide)]; rfl) hd k
theorem vD_l_ill (C : vC p s m args meth c cc nL Ts own ret G cy A) (j : Nat) {i : Int32} (hi : i = nI j) (hj : j < 5) (hd : decode cc pc = .ok (.baload, 1)) (k : V p l e R s m args below meth c nL G A Q (wD cy ad x) cells slots (pc + 1) lo (.int (x 14 j) :: st)) : V p l e R s m args below meth c nL G A Q (wD cy ad x) cells slots (pc) lo (.int i :: .ref (ad 4) :: st) := v_zald C 4 j (n := 5) (f := x 14) rfl hi hj (by decide) hd k
theorem vD_s_ill (C : vC p s m args meth c cc nL Ts own ret G cy A) (j : Nat) {i v : Int32} (hi : i = nI j) (hj : j < 5) (hx : vp_nar .boolean v = v) (hd : decode cc pc = .ok (.bastore, 1)) (k : V p l e R s m args below meth c nL G A Q (wD cy ad (su x 14 j v)) cells slots (pc + 1) lo (st)) : V p l e R s m args below meth c nL G A Q (wD cy ad x) cells slots (pc) lo (.int v :: .int i :: .ref (ad 4) :: st) := v_zast C 4 j (n := 5) (f := x 14) rfl hi hj (by decide) hx (by rw [su_u]; simp only [wD, wR_su ad x 14 j v (by decide), su_F x _ v (show 0 ≠ 14 by decide), su_F x _ v (show 1 ≠ 14 by decide), su_F x _ v (show 2 ≠ 14 by decide), su_F x _ v (show 3 ≠ 14 by decide), su_F x _ v (show 4 ≠ 14 by decide), su_F x _ v (show 5 ≠ 14 by decide), su_F x _ v (show 6 ≠ 14 by decide), su_F x _ v (show 7 ≠ 14 by decide), su_F x _ v (show 8 ≠ 14 by decide), su_F x _ v (show 9 ≠ 14 by decide), su_F x _ v (show 10 ≠ 14 by decide), su_F x _ v (show 11 ≠ 14 by decide), su_F x _ v (show 12 ≠ 14 by decide), su_F x _ v (show 13 ≠ 14 by decide), su_F x _ v (show 15 ≠ 14 by decide), su_F x _ v (show 16 ≠ 14 by decide), su_F x _ v (show 17 ≠ 14 by decide)]; rfl) hd k
theorem vD_l_busAtCharger (C : vC p s m args meth c cc nL Ts own ret G cy A) (j : Nat) {i : Int32} (hi : i = nI j) (hj : j < 2) (hd : decode cc pc = .ok (.iaload, 1)) (k : V p l e R s m args below meth c nL G A Q (wD cy ad x) cells slots (pc + 1) lo (.int (x 15 j) :: st)) : V p l e R s m args below meth c nL G A Q (wD cy ad x) cells slots (pc) lo (.int i :: .ref (ad 5) :: st) := v_iald C 5 j (n := 2) (f := x 15) rfl hi hj (by decide) hd k
theorem vD_s_busAtCharger (C : vC p s m args meth c cc nL Ts own ret G cy A) (j : Nat) {i v : Int32} (hi : i = nI j) (hj : j < 2) (hd : decode cc pc = .ok (.iastore, 1)) (k : V p l e R s m args below meth c nL G A Q (wD cy ad (su x 15 j v)) cells slots (pc + 1) lo (st)) : V p l e R s m args below meth c nL G A Q (wD cy ad x) cells slots (pc) lo (.int v :: .int i :: .ref (ad 5) :: st) := v_iast C 5 j (n := 2) (f := x 15) rfl hi hj (by decide) (by rw [su_u]; simp only [wD, wR_su ad x 15 j v (by decide), su_F x _ v (show 0 ≠ 15 by decide), su_F x _ v (show 1 ≠ 15 by decide), su_F x _ v (show 2 ≠ 15 by decide), su_F x _ v (show 3 ≠ 15 by decide), su_F x _ v (show 4 ≠ 15 by decide), su_F x _ v (show 5 ≠ 15 by decide), su_F x _ v (show 6 ≠ 15 by decide), su_F x _ v (show 7 ≠ 15 by decide), su_F x _ v (show 8 ≠ 15 by decide), su_F x _ v (show 9 ≠ 15 by decide), su_F x _ v (show 10 ≠ 15 by decide), su_F x _ v (show 11 ≠ 15 by decide), su_F x _ v (show 12 ≠ 15 by decide), su_F x _ v (show 13 ≠ 15 by decide), su_F x _ v (show 14 ≠ 15 by decide), su_F x _ v (show 16 ≠ 15 by decide), su_F x _ v (show 17 ≠ 15 by decide)]; rfl) hd k
theorem vD_l_log (C : vC p s m args meth c cc nL Ts own ret G cy A) (j : Nat) {i : Int32} (hi : i = nI j) (hj : j < 1000) (hd : decode cc pc = .ok (.iaload, 1)) (k : V p l e R s m args below meth c nL G A Q (wD cy ad x) cells slots (pc + 1) lo (.int (x 16 j) :: st)) : V p l e R s m args below meth c nL G A Q (wD cy ad x) cells slots (pc) lo (.int i :: .ref (ad 6) :: st) := v_iald C 6 j (n := 1000) (f := x 16) rfl hi hj (by decide) hd k
theorem vD_s_log (C : vC p s m args meth c cc nL Ts own ret G cy A) (j : Nat) {i v : Int32} (hi : i = nI j) (hj : j < 1000) (hd : decode cc pc = .ok (.iastore, 1)) (k : V p l e R s m args below meth c nL G A Q (wD cy ad (su x 16 j v)) cells slots (pc + 1) lo (st)) : V p l e R s m args below meth c nL G A Q (wD cy ad x) cells slots (pc) lo (.int v :: .int i :: .ref (ad 6) :: st) := v_iast C 6 j (n := 1000) (f := x 16) rfl hi hj (by decide) (by rw [su_u]; simp only [wD, wR_su ad x 16 j v (by decide), su_F x _ v (show 0 ≠ 16 by decide), su_F x _ v (show 1 ≠ 16 by decide), su_F x _ v (show 2 ≠ 16 by decide), su_F x _ v (show 3 ≠ 16 by decide), su_F x _ v (show 4 ≠ 16 by decide), su_F x _ v (show 5 ≠ 16 by decide), su_F x _ v (show 6 ≠ 16 by decide), su_F x _ v (show 7 ≠ 16 by decide), su_F x _ v (show 8 ≠ 16 by decide), su_F x _ v (show 9 ≠ 16 by decide), su_F x _ v (show 10 ≠ 16 by decide), su_F x _ v (show 11 ≠ 16 by decide), su_F x _ v (show 12 ≠ 16 by decide), su_F x _ v (show 13 ≠ 16 by decide), su_F x _ v (show 14 ≠ 16 by decide), su_F x _ v (show 15 ≠ 16 by decide), su_F x _ v (show 17 ≠ 16 by decide)]; rfl) hd k
theorem vD_l_numberOfMark (C : vC p s m args meth c cc nL Ts own ret G cy A) (j : Nat) {i : Int32} (hi : i = nI j) (hj : j < 1000) (hd : decode cc pc = .ok (.iaload, 1)) (k : V p l e R s m args below meth c nL G A Q (wD cy ad x) cells slots (pc + 1) lo (.int (x 17 j) :: st)) : V p l e R s m args below meth c nL G A Q (wD cy ad x) cells slots (pc) lo (.int i :: .ref (ad 7) :: st) := v_iald C 7 j (n := 1000) (f := x 17) rfl hi hj (by decide) hd k
theorem vD_s_numberOfMark (C : vC p s m args meth c cc nL Ts own ret G cy A) (j : Nat) {i v : Int32} (hi : i = nI j) (hj : j < 1000) (hd : decode cc pc = .ok (.iastore, 1)) (k : V p l e R s m args below meth c nL G A Q (wD cy ad (su x 17 j v)) cells slots (pc + 1) lo (st)) : V p l e R s m args below meth c nL G A Q (wD cy ad x) cells slots (pc) lo (.int v :: .int i :: .ref (ad 7) :: st) := v_iast C 7 j (n := 1000) (f := x 17) rfl hi hj (by decide) (by rw [su_u]; simp only [wD, wR_su ad x 17 j v (by decide), su_F x _ v (show 0 ≠ 17 by decide), su_F x _ v (show 1 ≠ 17 by decide), su_F x _ v (show 2 ≠ 17 by decide), su_F x _ v (show 3 ≠ 17 by decide), su_F x _ v (show 4 ≠ 17 by decide), su_F x _ v (show 5 ≠ 17 by decide), su_F x _ v (show 6 ≠ 17 by decide), su_F x _ v (show 7 ≠ 17 by decide), su_F x _ v (show 8 ≠ 17 by decide), su_F x _ v (show 9 ≠ 17 by decide), su_F x _ v (show 10 ≠ 17 by decide), su_F x _ v (show 11 ≠ 17 by decide), su_F x _ v (show 12 ≠ 17 by decide), su_F x _ v (show 13 ≠ 17 by decide), su_F x _ v (show 14 ≠ 17 by decide), su_F x _ v (show 15 ≠ 17 by decide), su_F x _ v (show 16 ≠ 17 by decide)]; rfl) hd k
end WL
/-- truth as an int -/
noncomputable def b2i (P : Prop) : Int32 := @ite _ P (Classical.propDecidable P) 1 0
theorem b2i_t {P : Prop} (h : P) : b2i P = 1 := by unfold b2i; rw [if_pos h]
theorem b2i_f {P : Prop} (h : ¬ P) : b2i P = 0 := by unfold b2i; rw [if_neg h]
theorem b2i_c {P P' : Prop} (h : P ↔ P') : b2i P = b2i P' := by rw [propext h]
theorem b2i_n (P : Prop) : vp_nar .boolean (b2i P) = b2i P := by
  by_cases h : P
  · rw [b2i_t h]; decide
  · rw [b2i_f h]; decide
theorem b2i_0 {P : Prop} : b2i P = 0 ↔ ¬ P := by
  by_cases h : P
  · rw [b2i_t h]; simp [h]
  · rw [b2i_f h]; simp [h]
theorem b2i_1 {P : Prop} : b2i P = 1 ↔ P := by
  by_cases h : P
  · rw [b2i_t h]; simp [h]
  · rw [b2i_f h]; simp [h]
/-- choice by a proposition -/
noncomputable def pif {α : Sort _} (P : Prop) (a b : α) : α := @ite _ P (Classical.propDecidable P) a b
theorem pif_t {α : Sort _} {P : Prop} {a b : α} (h : P) : pif P a b = a := by unfold pif; rw [if_pos h]
theorem pif_f {α : Sort _} {P : Prop} {a b : α} (h : ¬ P) : pif P a b = b := by unfold pif; rw [if_neg h]
theorem pif_ap {α : Sort _} (P : Prop) (a b : α) (D : α → Prop) (h1 : P → D a) (h2 : ¬ P → D b) : D (pif P a b) := by
  by_cases h : P
  · rw [pif_t h]; exact h1 h
  · rw [pif_f h]; exact h2 h
/-- rounds of a loop, sums, the first that is -/
def it {α : Type} (f : Nat → α → α) : Nat → α → α | 0, x => x | n + 1, x => f n (it f n x)
theorem it_inv {α : Type} (f : Nat → α → α) (P : α → Prop) (n : Nat) (x : α) (h0 : P x) (hs : ∀ k y, k < n → P y → P (f k y)) : P (it f n x) := by
  induction n with
  | zero => exact h0
  | succ n ih => exact hs n _ (Nat.lt_succ_self n) (ih (fun k y hk hy => hs k y (Nat.lt_succ_of_lt hk) hy))
theorem it_keep {α β : Type} (f : Nat → α → α) (g : α → β) (n : Nat) (x : α) (hs : ∀ k y, k < n → g (f k y) = g y) : g (it f n x) = g x := it_inv f (fun y => g y = g x) n x rfl (fun k y hk hy => (hs k y hk).trans hy)
def sumF (g : Nat → Int32) : Nat → Int32 | 0 => 0 | k + 1 => sumF g k + g k
theorem sumF_c {g g' : Nat → Int32} {n : Nat} (h : ∀ k, k < n → g k = g' k) : sumF g n = sumF g' n := by
  induction n with
  | zero => rfl
  | succ n ih => simp only [sumF]; rw [ih (fun k hk => h k (Nat.lt_succ_of_lt hk)), h n (Nat.lt_succ_self n)]
noncomputable def lowF (P : Nat → Prop) : Nat → Nat → Int32 | 0, _ => -1 | m + 1, k => pif (P k) (nI k) (lowF P m (k + 1))
theorem V_nI0 : (0 : Int32) = nI 0 := rfl
section WC
variable {p : Program} {l : Launch} {e : Env} {R : Room} {s : State} {m : MethodId} {args : Array Value} {below : List Frame} {meth : Method} {c : Code} {cells slots : Nat} {Q : State → Prop} {cc : ByteArray} {nL : Nat} {Ts : List Cond} {own : String} {ret : Option FieldType} {G : va_G} {cy : Nat → ClassId} {A : Nat → Prop} {w w1 : va_W} {pc : Nat} {lo : List (Option Value)} {st rest : List Value} {ad am : Nat → Nat} {x : Sg}
variable {y : MethodName} {wsY wsY' : List Cond} {fr lc mc ms : Nat} {As : List Value} {r : Int32} {b : Nat} {bytes : ByteArray} {maxL idx nA : Nat} {retY : Option FieldType}
theorem vD_cI (C : vC p s m args meth c cc nL Ts own ret G cy A) (k : KI l G cy y wsY fr lc mc ms (.ref (ad 0) :: As) (wD cy ad x) r w1) (hw : wsY = Cond.code y bytes maxL retY :: wsY') (hg : GoodIn Ts (wsV own idx y.cls y wsY)) (hy : y.cls = y.cls ∧ y.cls ≠ "java/lang/invoke/MethodHandle" ∧ y.cls ≠ "java/lang/invoke/VarHandle" ∧ (parseMethodDescriptor y.desc).map (fun d => d.parameters.length) = some nA) (hna : As.length = nA) (hR : fr + 1 ≤ R.frames ∧ 8 + (maxL + 11) + lc ≤ R.locals) (hcs : cells + mc ≤ R.cells ∧ slots + ms ≤ R.slots) (hq : RX1 = y.cls) (hst : st = As.reverse ++ .ref (ad 0) :: rest) (hcat : (rest.map fun v => v.category).sum ≤ 8) (hd : decode cc pc = .ok (.invokevirtual idx, 3)) (kk : V p l e R s m args below meth c nL G A Q w1 (cells + mc) (slots + ms) (pc + 3) lo (.int r :: rest)) : V p l e R s m args below meth c nL G A Q (wD cy ad x) cells slots pc lo st := v_callVI C [] [] k hw hg hy hna hR hcs hst hcat 0 1 rfl rfl hq (by simp) (by simp) hd kk
theorem vR_cI (C : vC p s m args meth c cc nL Ts own ret G cy A) {j : Nat} (hj : j < 30) (k : KI l G cy y wsY fr lc mc ms (.ref (ad (j + 8)) :: As) (wD cy ad x) r w1) (hw : wsY = Cond.code y bytes maxL retY :: wsY') (hg : GoodIn Ts (wsV own idx y.cls y wsY)) (hy : y.cls = y.cls ∧ y.cls ≠ "java/lang/invoke/MethodHandle" ∧ y.cls ≠ "java/lang/invoke/VarHandle" ∧ (parseMethodDescriptor y.desc).map (fun d => d.parameters.length) = some nA) (hna : As.length = nA) (hR : fr + 1 ≤ R.frames ∧ 8 + (maxL + 11) + lc ≤ R.locals) (hcs : cells + mc ≤ R.cells ∧ slots + ms ≤ R.slots) (hq : RX0 = y.cls) (hst : st = As.reverse ++ .ref (ad (j + 8)) :: rest) (hcat : (rest.map fun v => v.category).sum ≤ 8) (hd : decode cc pc = .ok (.invokevirtual idx, 3)) (kk : V p l e R s m args below meth c nL G A Q w1 (cells + mc) (slots + ms) (pc + 3) lo (.int r :: rest)) : V p l e R s m args below meth c nL G A Q (wD cy ad x) cells slots pc lo st := v_callVI C [] [] k hw hg hy hna hR hcs hst hcat (j + 8) 0 (wD_run cy ad x hj) rfl hq (by simp) (by simp) hd kk
theorem vD_cV (C : vC p s m args meth c cc nL Ts own ret G cy A) (k : KV l G cy y wsY fr lc mc ms (.ref (ad 0) :: As) (wD cy ad x) w1) (hw : wsY = Cond.code y bytes maxL retY :: wsY') (hg : GoodIn Ts (wsV own idx y.cls y wsY)) (hy : y.cls = y.cls ∧ y.cls ≠ "java/lang/invoke/MethodHandle" ∧ y.cls ≠ "java/lang/invoke/VarHandle" ∧ (parseMethodDescriptor y.desc).map (fun d => d.parameters.length) = some nA) (hna : As.length = nA) (hR : fr + 1 ≤ R.frames ∧ 8 + (maxL + 11) + lc ≤ R.locals) (hcs : cells + mc ≤ R.cells ∧ slots + ms ≤ R.slots) (hq : RX1 = y.cls) (hst : st = As.reverse ++ .ref (ad 0) :: rest) (hcat : (rest.map fun v => v.category).sum ≤ 8) (hd : decode cc pc = .ok (.invokevirtual idx, 3)) (kk : V p l e R s m args below meth c nL G A Q w1 (cells + mc) (slots + ms) (pc + 3) lo rest) : V p l e R s m args below meth c nL G A Q (wD cy ad x) cells slots pc lo st := v_callVV C [] [] k hw hg hy hna hR hcs hst hcat 0 1 rfl rfl hq (by simp) (by simp) hd kk
theorem vR_cV (C : vC p s m args meth c cc nL Ts own ret G cy A) {j : Nat} (hj : j < 30) (k : KV l G cy y wsY fr lc mc ms (.ref (ad (j + 8)) :: As) (wD cy ad x) w1) (hw : wsY = Cond.code y bytes maxL retY :: wsY') (hg : GoodIn Ts (wsV own idx y.cls y wsY)) (hy : y.cls = y.cls ∧ y.cls ≠ "java/lang/invoke/MethodHandle" ∧ y.cls ≠ "java/lang/invoke/VarHandle" ∧ (parseMethodDescriptor y.desc).map (fun d => d.parameters.length) = some nA) (hna : As.length = nA) (hR : fr + 1 ≤ R.frames ∧ 8 + (maxL + 11) + lc ≤ R.locals) (hcs : cells + mc ≤ R.cells ∧ slots + ms ≤ R.slots) (hq : RX0 = y.cls) (hst : st = As.reverse ++ .ref (ad (j + 8)) :: rest) (hcat : (rest.map fun v => v.category).sum ≤ 8) (hd : decode cc pc = .ok (.invokevirtual idx, 3)) (kk : V p l e R s m args below meth c nL G A Q w1 (cells + mc) (slots + ms) (pc + 3) lo rest) : V p l e R s m args below meth c nL G A Q (wD cy ad x) cells slots pc lo st := v_callVV C [] [] k hw hg hy hna hR hcs hst hcat (j + 8) 0 (wD_run cy ad x hj) rfl hq (by simp) (by simp) hd kk
theorem v_sI (C : vC p s m args meth c cc nL Ts own ret G cy A) (k : KI l G cy y wsY fr lc mc ms As w r w1) (hw : wsY = Cond.code y bytes maxL retY :: wsY') (hg : GoodIn Ts (va_wsS own idx y wsY)) (hy : y.cls ≠ "java/lang/invoke/MethodHandle" ∧ y.cls ≠ "java/lang/invoke/VarHandle" ∧ (parseMethodDescriptor y.desc).map (fun d => d.parameters.length) = some nA) (hna : As.length = nA) (hR : fr + 1 ≤ R.frames ∧ 8 + (maxL + 11) + lc ≤ R.locals) (hcs : cells + mc ≤ R.cells ∧ slots + ms ≤ R.slots) (hst : st = As.reverse ++ rest) (hcat : (rest.map fun v => v.category).sum ≤ 8) (hd : decode cc pc = .ok (.invokestatic idx, 3)) (kk : V p l e R s m args below meth c nL G A Q w1 (cells + mc) (slots + ms) (pc + 3) lo (.int r :: rest)) : V p l e R s m args below meth c nL G A Q w cells slots pc lo st := v_callSI C [] [] k hw hg hy hna hR hcs hst hcat (by simp) (by simp) hd kk
end WC
end
section
/-! DepotLog$Run: its methods -/
/-! WHAT DepotLog's METHODS DO, as functions of the state; n: how many runs there are -/
theorem ix_of {x : Int32} {N : Nat} (hN : N < 2 ^ 31) (h0 : ¬ x < 0) (h : x < nI N) : x = nI x.toNatClampNeg ∧ x.toNatClampNeg < N := by
  obtain ⟨j, hj, rfl⟩ := nI_of h0
  rw [nI_clamp hj]
  exact ⟨rfl, (nI_ltI hj hN).mp h⟩
def fdrop (x : Sg) (j : Nat) (v : Int32) : Sg := su (su (su x 9 j v) 10 j (-1)) 11 j (-1)
def fgive (x : Sg) (j : Nat) (b d : Int32) : Sg := su (su (su x 9 j 1) 10 j b) 11 j d
def ftell (x : Sg) (j : Nat) (a m q : Int32) : Sg := su (su (su x 6 j a) 7 j (a + m)) 8 j q
def holds (x : Sg) (j : Nat) (b : Int32) : Prop := x 10 j = b ∧ (x 9 j = 1 ∨ x 9 j = 2)
def works (x : Sg) (j : Nat) (d day : Int32) : Prop := x 11 j = d ∧ x 6 j / 1440 = day
def meets (x : Sg) (j i : Nat) : Prop := x 6 j < x 7 i ∧ x 6 i < x 7 j
def rested (x : Sg) (j i : Nat) : Prop := ¬ x 6 i < x 7 j + 30 ∨ ¬ x 6 j < x 7 i + 30
noncomputable def gprom (x : Sg) (b : Int32) (k : Nat) : Int32 := pif (x 10 k = b ∧ x 9 k = 1) (x 8 k) 0
noncomputable def fprom (n : Nat) (x : Sg) (b : Int32) : Int32 := sumF (gprom x b) n
noncomputable def gwork (x : Sg) (d day : Int32) (k : Nat) : Int32 := pif (works x k d day) (x 7 k - x 6 k) 0
noncomputable def fwork (n : Nat) (x : Sg) (d day : Int32) : Int32 := sumF (gwork x d day) n
noncomputable def flead (x : Sg) : Int32 := pif (x 0 0 < x 4 0) (x 3 0) (-1)
def under (n : Nat) (x : Sg) (b : Int32) : Prop := ∃ k, k < n ∧ x 9 k = 2 ∧ x 10 k = b
def busfit (n : Nat) (x : Sg) (b : Nat) (r : Nat) : Prop := x 13 b = 0 ∧ ¬ x 12 b - fprom n x (nI b) < x 8 r ∧ ∀ k, k < n → ¬ (holds x k (nI b) ∧ meets x k r)
def drvfit (n : Nat) (x : Sg) (d : Nat) (r : Nat) : Prop := x 14 d = 0 ∧ ¬ 480 < fwork n x (nI d) (x 6 r / 1440) + (x 7 r - x 6 r) ∧ ∀ k, k < n → ¬ (works x k (nI d) (x 6 r / 1440) ∧ ¬ rested x k r)
noncomputable def lowbus (n : Nat) (x : Sg) (r : Nat) : Int32 := lowF (fun b => busfit n x b r) 5 0
noncomputable def lowdrv (n : Nat) (x : Sg) (r : Nat) : Int32 := lowF (fun d => drvfit n x d r) 5 0
noncomputable def sunplug (b : Int32) (c : Nat) (y : Sg) : Sg := pif (y 15 c = b) (su y 15 c (-1)) y
noncomputable def funplug (x : Sg) (b : Int32) : Sg := it (sunplug b) 2 x
noncomputable def fsend (x : Sg) (b q : Int32) : Sg := pif (¬ b < 0 ∧ b < 5) (funplug (su x 12 b.toNatClampNeg (x 12 b.toNatClampNeg - q)) b) x
noncomputable def stakeb (b : Int32) (k : Nat) (y : Sg) : Sg := pif (y 9 k = 1 ∧ y 10 k = b) (fdrop y k 0) y
noncomputable def staked (d : Int32) (k : Nat) (y : Sg) : Sg := pif (y 9 k = 1 ∧ y 11 k = d) (fdrop y k 0) y
noncomputable def fgiveb (n : Nat) (x : Sg) (r : Nat) : Sg := pif (lowbus n (su x 10 r (-1)) r = -1) (fdrop (su x 10 r (-1)) r 4) (fsend (su (su x 10 r (-1)) 10 r (lowbus n (su x 10 r (-1)) r)) (lowbus n (su x 10 r (-1)) r) (x 8 r))
noncomputable def fgived (n : Nat) (x : Sg) (r : Nat) : Sg := pif (lowdrv n (su x 11 r (-1)) r = -1) (fdrop (su x 11 r (-1)) r 4) (su (su x 11 r (-1)) 11 r (lowdrv n (su x 11 r (-1)) r))
noncomputable def sswapb (n : Nat) (b : Int32) (k : Nat) (y : Sg) : Sg := pif (y 9 k = 2 ∧ y 10 k = b) (fgiveb n y k) y
noncomputable def sswapd (n : Nat) (d : Int32) (k : Nat) (y : Sg) : Sg := pif (y 9 k = 2 ∧ y 11 k = d) (fgived n y k) y
noncomputable def sload (c : Nat) (y : Sg) : Sg := pif (¬ y 15 c < 0 ∧ y 15 c < 5 ∧ y 12 (y 15 c).toNatClampNeg < 100) (su y 12 (y 15 c).toNatClampNeg (y 12 (y 15 c).toNatClampNeg + 1)) y
noncomputable def send_ (k : Nat) (y : Sg) : Sg := pif (y 9 k = 2 ∧ y 7 k = y 0 0) (su y 9 k 3) y
noncomputable def fstart (y : Sg) (k : Nat) : Sg := pif (y 9 k = 1) (fsend (su y 9 k 2) (y 10 k) (y 8 k)) (pif (y 9 k = 0) (fdrop y k 4) y)
noncomputable def sstart (k : Nat) (y : Sg) : Sg := pif (y 6 k = y 0 0) (fstart y k) y
noncomputable def fminute (n : Nat) (x : Sg) : Sg := it sstart n (it send_ n (su (it sload 2 x) 0 0 (it sload 2 x 0 0 + 1)))

set_option maxHeartbeats 4000000 in
set_option maxRecDepth 100000 in
/-- drop(v) -/
theorem k_X0_drop (l : Launch) (G : va_G) (cy : Nat → ClassId) (ad : Nat → Nat) (x : Sg) (j : Nat) (hj : j < 30) (v : Int32) : KV l G cy yX0_drop wsX0_drop 0 0 0 0 [.ref (ad (j + 8)), .int v] (wD cy ad x) (wD cy ad (fdrop x j v)) := by
  have hin0 : ∀ q ∈ u_ws RX0 TX0 6, q ∈ wsX0_drop := by decide +kernel
  refine KV_of (own := RX0) (cc := cX0_drop) (maxL := 2) (ret := none) (lo0 := [some (.ref (ad (j + 8))), some (.int v)]) (by decide) rfl rfl (by simp [Value.category]) (Nat.le_of_ble_eq_true rfl) rfl (fun p e s m args below meth c A _ C => ?_)
  refine v_aload_n C dX0_drop_0 rfl ?_
  refine v_iload_n C dX0_drop_1 rfl ?_
  refine vR_p_state C hin0 (by omega) (by decide +kernel) dX0_drop_2 ?_
  refine v_aload_n C dX0_drop_5 rfl ?_
  refine v_iconst C (-1) dX0_drop_6 (by decide) ?_
  refine vR_p_bus C hin0 (by omega) (by decide +kernel) dX0_drop_7 ?_
  refine v_aload_n C dX0_drop_10 rfl ?_
  refine v_iconst C (-1) dX0_drop_11 (by decide) ?_
  refine vR_p_driver C hin0 (by omega) (by decide +kernel) dX0_drop_12 ?_
  exact v_vret C dX0_drop_15
set_option maxHeartbeats 4000000 in
set_option maxRecDepth 100000 in
/-- give(b, d) -/
theorem k_X0_give (l : Launch) (G : va_G) (cy : Nat → ClassId) (ad : Nat → Nat) (x : Sg) (j : Nat) (hj : j < 30) (b d : Int32) : KV l G cy yX0_give wsX0_give 0 0 0 0 [.ref (ad (j + 8)), .int b, .int d] (wD cy ad x) (wD cy ad (fgive x j b d)) := by
  have hin0 : ∀ q ∈ u_ws RX0 TX0 6, q ∈ wsX0_give := by decide +kernel
  refine KV_of (own := RX0) (cc := cX0_give) (maxL := 3) (ret := none) (lo0 := [some (.ref (ad (j + 8))), some (.int b), some (.int d)]) (by decide) rfl rfl (by simp [Value.category]) (Nat.le_of_ble_eq_true rfl) rfl (fun p e s m args below meth c A _ C => ?_)
  refine v_aload_n C dX0_give_0 rfl ?_
  refine v_iconst C (1) dX0_give_1 (by decide) ?_
  refine vR_p_state C hin0 (by omega) (by decide +kernel) dX0_give_2 ?_
  refine v_aload_n C dX0_give_5 rfl ?_
  refine v_iload_n C dX0_give_6 rfl ?_
  refine vR_p_bus C hin0 (by omega) (by decide +kernel) dX0_give_7 ?_
  refine v_aload_n C dX0_give_10 rfl ?_
  refine v_iload_n C dX0_give_11 rfl ?_
  refine vR_p_driver C hin0 (by omega) (by decide +kernel) dX0_give_12 ?_
  exact v_vret C dX0_give_15
set_option maxHeartbeats 4000000 in
set_option maxRecDepth 100000 in
/-- tell(a, m, q) -/
theorem k_X0_tell (l : Launch) (G : va_G) (cy : Nat → ClassId) (ad : Nat → Nat) (x : Sg) (j : Nat) (hj : j < 30) (a m q : Int32) : KV l G cy yX0_tell wsX0_tell 0 0 0 0 [.ref (ad (j + 8)), .int a, .int m, .int q] (wD cy ad x) (wD cy ad (ftell x j a m q)) := by
  have hin0 : ∀ q ∈ u_ws RX0 TX0 6, q ∈ wsX0_tell := by decide +kernel
  refine KV_of (own := RX0) (cc := cX0_tell) (maxL := 4) (ret := none) (lo0 := [some (.ref (ad (j + 8))), some (.int a), some (.int m), some (.int q)]) (by decide) rfl rfl (by simp [Value.category]) (Nat.le_of_ble_eq_true rfl) rfl (fun p e s m args below meth c A _ C => ?_)
  refine v_aload_n C dX0_tell_0 rfl ?_
  refine v_iload_n C dX0_tell_1 rfl ?_
  refine vR_p_start C hin0 (by omega) (by decide +kernel) dX0_tell_2 ?_
  refine v_aload_n C dX0_tell_5 rfl ?_
  refine v_iload_n C dX0_tell_6 rfl ?_
  refine v_iload_n C dX0_tell_7 rfl ?_
  refine v_iadd C dX0_tell_8 ?_
  refine vR_p_end C hin0 (by omega) (by decide +kernel) dX0_tell_9 ?_
  refine v_aload_n C dX0_tell_12 rfl ?_
  refine v_iload_n C dX0_tell_13 rfl ?_
  refine vR_p_need C hin0 (by omega) (by decide +kernel) dX0_tell_14 ?_
  exact v_vret C dX0_tell_17
set_option maxHeartbeats 4000000 in
set_option maxRecDepth 100000 in
/-- holds(b) -/
theorem k_X0_holds (l : Launch) (G : va_G) (cy : Nat → ClassId) (ad : Nat → Nat) (x : Sg) (j : Nat) (hj : j < 30) (b : Int32) : KI l G cy yX0_holds wsX0_holds 0 0 0 0 [.ref (ad (j + 8)), .int b] (wD cy ad x) (b2i (holds x j b)) (wD cy ad x) := by
  have hin0 : ∀ q ∈ u_ws RX0 TX0 6, q ∈ wsX0_holds := by decide +kernel
  refine KI_of (own := RX0) (cc := cX0_holds) (maxL := 2) (ret := (some .boolean)) (lo0 := [some (.ref (ad (j + 8))), some (.int b)]) (by decide) rfl rfl (by simp [Value.category]) (Nat.le_of_ble_eq_true rfl) rfl (fun p e s m args below meth c A C => ?_)
  refine v_aload_n C dX0_holds_0 rfl ?_
  refine vR_g_bus C hin0 (by omega) (by decide +kernel) dX0_holds_1 ?_
  refine v_iload_n C dX0_holds_4 rfl ?_
  refine v_icmp_ne C 28 dX0_holds_5 (by decide) (fun c1 => ?_) (fun c1 => ?_)
  · -- 5 t: ¬ (x 10 j) = b
    refine v_iconst C (0) dX0_holds_28 (by decide) ?_
    refine v_zret C rfl dX0_holds_29 ?_
    exact (b2i_f (by simp [c1, holds])).symm
  · -- 5 f: not ¬ (x 10 j) = b
    refine v_aload_n C dX0_holds_8 rfl ?_
    refine vR_g_state C hin0 (by omega) (by decide +kernel) dX0_holds_9 ?_
    refine v_iconst C (1) dX0_holds_12 (by decide) ?_
    refine v_icmp_eq C 24 dX0_holds_13 (by decide) (fun c2 => ?_) (fun c2 => ?_)
    · -- 13 t: (x 9 j) = 1
      refine v_iconst C (1) dX0_holds_24 (by decide) ?_
      refine v_goto C 29 dX0_holds_25 (by decide) ?_
      refine v_zret C rfl dX0_holds_29 ?_
      exact (b2i_t (by simp [c1, c2, holds])).symm
    · -- 13 f: not (x 9 j) = 1
      refine v_aload_n C dX0_holds_16 rfl ?_
      refine vR_g_state C hin0 (by omega) (by decide +kernel) dX0_holds_17 ?_
      refine v_iconst C (2) dX0_holds_20 (by decide) ?_
      refine v_icmp_ne C 28 dX0_holds_21 (by decide) (fun c3 => ?_) (fun c3 => ?_)
      · -- 21 t: ¬ (x 9 j) = 2
        refine v_iconst C (0) dX0_holds_28 (by decide) ?_
        refine v_zret C rfl dX0_holds_29 ?_
        exact (b2i_f (by simp [c1, c2, c3, holds])).symm
      · -- 21 f: not ¬ (x 9 j) = 2
        refine v_iconst C (1) dX0_holds_24 (by decide) ?_
        refine v_goto C 29 dX0_holds_25 (by decide) ?_
        refine v_zret C rfl dX0_holds_29 ?_
        exact (b2i_t (by simp [c1, c2, c3, holds])).symm
set_option maxHeartbeats 4000000 in
set_option maxRecDepth 100000 in
/-- startDay() -/
theorem k_X0_startDay (l : Launch) (G : va_G) (cy : Nat → ClassId) (ad : Nat → Nat) (x : Sg) (j : Nat) (hj : j < 30) : KI l G cy yX0_startDay wsX0_startDay 0 0 0 0 [.ref (ad (j + 8))] (wD cy ad x) (x 6 j / 1440) (wD cy ad x) := by
  have hin0 : ∀ q ∈ u_ws RX0 TX0 6, q ∈ wsX0_startDay := by decide +kernel
  refine KI_of (own := RX0) (cc := cX0_startDay) (maxL := 1) (ret := (some .int)) (lo0 := [some (.ref (ad (j + 8)))]) (by decide) rfl rfl (by simp [Value.category]) (Nat.le_of_ble_eq_true rfl) rfl (fun p e s m args below meth c A C => ?_)
  refine v_aload_n C dX0_startDay_0 rfl ?_
  refine vR_g_start C hin0 (by omega) (by decide +kernel) dX0_startDay_1 ?_
  refine v_sipush C (1440) dX0_startDay_4 (by decide) ?_
  refine v_idiv C dX0_startDay_7 (by decide) ?_
  refine v_iret C dX0_startDay_8 ?_
  rfl
set_option maxHeartbeats 4000000 in
set_option maxRecDepth 100000 in
/-- length() -/
theorem k_X0_length (l : Launch) (G : va_G) (cy : Nat → ClassId) (ad : Nat → Nat) (x : Sg) (j : Nat) (hj : j < 30) : KI l G cy yX0_length wsX0_length 0 0 0 0 [.ref (ad (j + 8))] (wD cy ad x) (x 7 j - x 6 j) (wD cy ad x) := by
  have hin0 : ∀ q ∈ u_ws RX0 TX0 6, q ∈ wsX0_length := by decide +kernel
  refine KI_of (own := RX0) (cc := cX0_length) (maxL := 1) (ret := (some .int)) (lo0 := [some (.ref (ad (j + 8)))]) (by decide) rfl rfl (by simp [Value.category]) (Nat.le_of_ble_eq_true rfl) rfl (fun p e s m args below meth c A C => ?_)
  refine v_aload_n C dX0_length_0 rfl ?_
  refine vR_g_end C hin0 (by omega) (by decide +kernel) dX0_length_1 ?_
  refine v_aload_n C dX0_length_4 rfl ?_
  refine vR_g_start C hin0 (by omega) (by decide +kernel) dX0_length_5 ?_
  refine v_isub C dX0_length_8 ?_
  refine v_iret C dX0_length_9 ?_
  rfl
set_option maxHeartbeats 4000000 in
set_option maxRecDepth 100000 in
/-- isWorkOf(d, day) -/
theorem k_X0_isWorkOf (l : Launch) (G : va_G) (cy : Nat → ClassId) (ad : Nat → Nat) (x : Sg) (j : Nat) (hj : j < 30) (d day : Int32) : KI l G cy yX0_isWorkOf wsX0_isWorkOf 1 20 0 0 [.ref (ad (j + 8)), .int d, .int day] (wD cy ad x) (b2i (works x j d day)) (wD cy ad x) := by
  have hin0 : ∀ q ∈ u_ws RX0 TX0 6, q ∈ wsX0_isWorkOf := by decide +kernel
  refine KI_of (own := RX0) (cc := cX0_isWorkOf) (maxL := 3) (ret := (some .boolean)) (lo0 := [some (.ref (ad (j + 8))), some (.int d), some (.int day)]) (by decide) rfl rfl (by simp [Value.category]) (Nat.le_of_ble_eq_true rfl) rfl (fun p e s m args below meth c A C => ?_)
  refine v_aload_n C dX0_isWorkOf_0 rfl ?_
  refine vR_g_driver C hin0 (by omega) (by decide +kernel) dX0_isWorkOf_1 ?_
  refine v_iload_n C dX0_isWorkOf_4 rfl ?_
  refine v_icmp_ne C 20 dX0_isWorkOf_5 (by decide) (fun c1 => ?_) (fun c1 => ?_)
  · -- 5 t: ¬ (x 11 j) = d
    refine v_iconst C (0) dX0_isWorkOf_20 (by decide) ?_
    refine v_zret C rfl dX0_isWorkOf_21 ?_
    exact (b2i_f (by simp [c1, works])).symm
  · -- 5 f: not ¬ (x 11 j) = d
    refine v_aload_n C dX0_isWorkOf_8 rfl ?_
    refine vR_cI C (by omega) (k_X0_startDay l G cy ad x j (by omega)) rfl gX0_isWorkOf_X0_startDay (nA := 0) (by decide +kernel) rfl (by decide) (by decide) rfl rfl (Nat.le_of_ble_eq_true rfl) dX0_isWorkOf_9 ?_
    refine v_iload_n C dX0_isWorkOf_12 rfl ?_
    refine v_icmp_ne C 20 dX0_isWorkOf_13 (by decide) (fun c2 => ?_) (fun c2 => ?_)
    · -- 13 t: ¬ (x 6 j / 1440) = day
      refine v_iconst C (0) dX0_isWorkOf_20 (by decide) ?_
      refine v_zret C rfl dX0_isWorkOf_21 ?_
      exact (b2i_f (by simp [c1, c2, works])).symm
    · -- 13 f: not ¬ (x 6 j / 1440) = day
      refine v_iconst C (1) dX0_isWorkOf_16 (by decide) ?_
      refine v_goto C 21 dX0_isWorkOf_17 (by decide) ?_
      refine v_zret C rfl dX0_isWorkOf_21 ?_
      exact (b2i_t (by simp [c1, c2, works])).symm
set_option maxHeartbeats 4000000 in
set_option maxRecDepth 100000 in
/-- meets(i) -/
theorem k_X0_meets (l : Launch) (G : va_G) (cy : Nat → ClassId) (ad : Nat → Nat) (x : Sg) (j : Nat) (hj : j < 30) (i : Nat) (hi : i < 30) : KI l G cy yX0_meets wsX0_meets 0 0 0 0 [.ref (ad (j + 8)), .ref (ad (i + 8))] (wD cy ad x) (b2i (meets x j i)) (wD cy ad x) := by
  have hin0 : ∀ q ∈ u_ws RX0 TX0 6, q ∈ wsX0_meets := by decide +kernel
  refine KI_of (own := RX0) (cc := cX0_meets) (maxL := 2) (ret := (some .boolean)) (lo0 := [some (.ref (ad (j + 8))), some (.ref (ad (i + 8)))]) (by decide) rfl rfl (by simp [Value.category]) (Nat.le_of_ble_eq_true rfl) rfl (fun p e s m args below meth c A C => ?_)
  refine v_aload_n C dX0_meets_0 rfl ?_
  refine vR_g_start C hin0 (by omega) (by decide +kernel) dX0_meets_1 ?_
  refine v_aload_n C dX0_meets_4 rfl ?_
  refine vR_g_end C hin0 (by omega) (by decide +kernel) dX0_meets_5 ?_
  refine v_icmp_ge C 26 dX0_meets_8 (by decide) (fun c1 => ?_) (fun c1 => ?_)
  · -- 8 t: ¬ (x 6 j) < (x 7 i)
    refine v_iconst C (0) dX0_meets_26 (by decide) ?_
    refine v_zret C rfl dX0_meets_27 ?_
    exact (b2i_f (by simp [c1, meets])).symm
  · -- 8 f: not ¬ (x 6 j) < (x 7 i)
    refine v_aload_n C dX0_meets_11 rfl ?_
    refine vR_g_start C hin0 (by omega) (by decide +kernel) dX0_meets_12 ?_
    refine v_aload_n C dX0_meets_15 rfl ?_
    refine vR_g_end C hin0 (by omega) (by decide +kernel) dX0_meets_16 ?_
    refine v_icmp_ge C 26 dX0_meets_19 (by decide) (fun c2 => ?_) (fun c2 => ?_)
    · -- 19 t: ¬ (x 6 i) < (x 7 j)
      refine v_iconst C (0) dX0_meets_26 (by decide) ?_
      refine v_zret C rfl dX0_meets_27 ?_
      exact (b2i_f (by simp [c1, c2, meets])).symm
    · -- 19 f: not ¬ (x 6 i) < (x 7 j)
      refine v_iconst C (1) dX0_meets_22 (by decide) ?_
      refine v_goto C 27 dX0_meets_23 (by decide) ?_
      refine v_zret C rfl dX0_meets_27 ?_
      exact (b2i_t (by simp [c1, c2, meets])).symm
set_option maxHeartbeats 4000000 in
set_option maxRecDepth 100000 in
/-- isRestedFrom(i) -/
theorem k_X0_isRestedFrom (l : Launch) (G : va_G) (cy : Nat → ClassId) (ad : Nat → Nat) (x : Sg) (j : Nat) (hj : j < 30) (i : Nat) (hi : i < 30) : KI l G cy yX0_isRestedFrom wsX0_isRestedFrom 0 0 0 0 [.ref (ad (j + 8)), .ref (ad (i + 8))] (wD cy ad x) (b2i (rested x j i)) (wD cy ad x) := by
  have hin0 : ∀ q ∈ u_ws RX0 TX0 6, q ∈ wsX0_isRestedFrom := by decide +kernel
  refine KI_of (own := RX0) (cc := cX0_isRestedFrom) (maxL := 2) (ret := (some .boolean)) (lo0 := [some (.ref (ad (j + 8))), some (.ref (ad (i + 8)))]) (by decide) rfl rfl (by simp [Value.category]) (Nat.le_of_ble_eq_true rfl) rfl (fun p e s m args below meth c A C => ?_)
  refine v_aload_n C dX0_isRestedFrom_0 rfl ?_
  refine vR_g_end C hin0 (by omega) (by decide +kernel) dX0_isRestedFrom_1 ?_
  refine v_bipush C (30) dX0_isRestedFrom_4 (by decide) ?_
  refine v_iadd C dX0_isRestedFrom_6 ?_
  refine v_aload_n C dX0_isRestedFrom_7 rfl ?_
  refine vR_g_start C hin0 (by omega) (by decide +kernel) dX0_isRestedFrom_8 ?_
  refine v_icmp_le C 28 dX0_isRestedFrom_11 (by decide) (fun c1 => ?_) (fun c1 => ?_)
  · -- 11 t: ¬ (x 6 i) < ((x 7 j) + 30)
    refine v_iconst C (1) dX0_isRestedFrom_28 (by decide) ?_
    refine v_goto C 33 dX0_isRestedFrom_29 (by decide) ?_
    refine v_zret C rfl dX0_isRestedFrom_33 ?_
    exact (b2i_t (by simp [c1, rested])).symm
  · -- 11 f: not ¬ (x 6 i) < ((x 7 j) + 30)
    refine v_aload_n C dX0_isRestedFrom_14 rfl ?_
    refine vR_g_end C hin0 (by omega) (by decide +kernel) dX0_isRestedFrom_15 ?_
    refine v_bipush C (30) dX0_isRestedFrom_18 (by decide) ?_
    refine v_iadd C dX0_isRestedFrom_20 ?_
    refine v_aload_n C dX0_isRestedFrom_21 rfl ?_
    refine vR_g_start C hin0 (by omega) (by decide +kernel) dX0_isRestedFrom_22 ?_
    refine v_icmp_gt C 32 dX0_isRestedFrom_25 (by decide) (fun c2 => ?_) (fun c2 => ?_)
    · -- 25 t: (x 6 j) < ((x 7 i) + 30)
      refine v_iconst C (0) dX0_isRestedFrom_32 (by decide) ?_
      refine v_zret C rfl dX0_isRestedFrom_33 ?_
      exact (b2i_f (by simp [c1, c2, rested])).symm
    · -- 25 f: not (x 6 j) < ((x 7 i) + 30)
      refine v_iconst C (1) dX0_isRestedFrom_28 (by decide) ?_
      refine v_goto C 33 dX0_isRestedFrom_29 (by decide) ?_
      refine v_zret C rfl dX0_isRestedFrom_33 ?_
      exact (b2i_t (by simp [c1, c2, rested])).symm
end
section
/-! DepotLog: what is read -/
set_option maxHeartbeats 4000000 in
set_option maxRecDepth 100000 in
/-- minute() -/
theorem k_X1_minute (l : Launch) (G : va_G) (cy : Nat → ClassId) (ad : Nat → Nat) (x : Sg) : KI l G cy yX1_minute wsX1_minute 0 0 0 0 [.ref (ad 0)] (wD cy ad x) (x 0 0) (wD cy ad x) := by
  have hin1 : ∀ q ∈ u_ws RX1 TX1 12, q ∈ wsX1_minute := by decide +kernel
  refine KI_of (own := RX1) (cc := cX1_minute) (maxL := 1) (ret := (some .int)) (lo0 := [some (.ref (ad 0))]) (by decide) rfl rfl (by simp [Value.category]) (Nat.le_of_ble_eq_true rfl) rfl (fun p e s m args below meth c A C => ?_)
  refine v_aload_n C dX1_minute_0 rfl ?_
  refine vD_g_minute C hin1 (by decide +kernel) dX1_minute_1 ?_
  refine v_iret C dX1_minute_4 ?_
  rfl
set_option maxHeartbeats 4000000 in
set_option maxRecDepth 100000 in
/-- runs() -/
theorem k_X1_runs (l : Launch) (G : va_G) (cy : Nat → ClassId) (ad : Nat → Nat) (x : Sg) : KI l G cy yX1_runs wsX1_runs 0 0 0 0 [.ref (ad 0)] (wD cy ad x) (x 1 0) (wD cy ad x) := by
  have hin1 : ∀ q ∈ u_ws RX1 TX1 12, q ∈ wsX1_runs := by decide +kernel
  refine KI_of (own := RX1) (cc := cX1_runs) (maxL := 1) (ret := (some .int)) (lo0 := [some (.ref (ad 0))]) (by decide) rfl rfl (by simp [Value.category]) (Nat.le_of_ble_eq_true rfl) rfl (fun p e s m args below meth c A C => ?_)
  refine v_aload_n C dX1_runs_0 rfl ?_
  refine vD_g_runCount C hin1 (by decide +kernel) dX1_runs_1 ?_
  refine v_iret C dX1_runs_4 ?_
  rfl
set_option maxHeartbeats 4000000 in
set_option maxRecDepth 100000 in
/-- orders() -/
theorem k_X1_orders (l : Launch) (G : va_G) (cy : Nat → ClassId) (ad : Nat → Nat) (x : Sg) : KI l G cy yX1_orders wsX1_orders 0 0 0 0 [.ref (ad 0)] (wD cy ad x) (x 2 0) (wD cy ad x) := by
  have hin1 : ∀ q ∈ u_ws RX1 TX1 12, q ∈ wsX1_orders := by decide +kernel
  refine KI_of (own := RX1) (cc := cX1_orders) (maxL := 1) (ret := (some .int)) (lo0 := [some (.ref (ad 0))]) (by decide) rfl rfl (by simp [Value.category]) (Nat.le_of_ble_eq_true rfl) rfl (fun p e s m args below meth c A C => ?_)
  refine v_aload_n C dX1_orders_0 rfl ?_
  refine vD_g_orderCount C hin1 (by decide +kernel) dX1_orders_1 ?_
  refine v_iret C dX1_orders_4 ?_
  rfl
set_option maxHeartbeats 4000000 in
set_option maxRecDepth 100000 in
/-- leader() -/
theorem k_X1_leader (l : Launch) (G : va_G) (cy : Nat → ClassId) (ad : Nat → Nat) (x : Sg) : KI l G cy yX1_leader wsX1_leader 0 0 0 0 [.ref (ad 0)] (wD cy ad x) (flead x) (wD cy ad x) := by
  have hin1 : ∀ q ∈ u_ws RX1 TX1 12, q ∈ wsX1_leader := by decide +kernel
  refine KI_of (own := RX1) (cc := cX1_leader) (maxL := 1) (ret := (some .int)) (lo0 := [some (.ref (ad 0))]) (by decide) rfl rfl (by simp [Value.category]) (Nat.le_of_ble_eq_true rfl) rfl (fun p e s m args below meth c A C => ?_)
  refine v_aload_n C dX1_leader_0 rfl ?_
  refine vD_g_minute C hin1 (by decide +kernel) dX1_leader_1 ?_
  refine v_aload_n C dX1_leader_4 rfl ?_
  refine vD_g_leaseEnd C hin1 (by decide +kernel) dX1_leader_5 ?_
  refine v_icmp_ge C 18 dX1_leader_8 (by decide) (fun c1 => ?_) (fun c1 => ?_)
  · -- 8 t: ¬ (x 0 0) < (x 4 0)
    refine v_iconst C (-1) dX1_leader_18 (by decide) ?_
    refine v_iret C dX1_leader_19 ?_
    exact (pif_f c1).symm
  · -- 8 f: not ¬ (x 0 0) < (x 4 0)
    refine v_aload_n C dX1_leader_11 rfl ?_
    refine vD_g_holder C hin1 (by decide +kernel) dX1_leader_12 ?_
    refine v_goto C 19 dX1_leader_15 (by decide) ?_
    refine v_iret C dX1_leader_19 ?_
    exact (pif_t c1).symm
set_option maxHeartbeats 4000000 in
set_option maxRecDepth 100000 in
/-- promisedCharge(b) -/
theorem k_X1_promisedCharge (l : Launch) (G : va_G) (cy : Nat → ClassId) (ad : Nat → Nat) (x : Sg) (n : Nat) (hn : x 1 0 = nI n) (h30 : n ≤ 30) (b : Int32) : KI l G cy yX1_promisedCharge wsX1_promisedCharge 0 0 0 0 [.ref (ad 0), .int b] (wD cy ad x) (fprom n x b) (wD cy ad x) := by
  have hin1 : ∀ q ∈ u_ws RX1 TX1 12, q ∈ wsX1_promisedCharge := by decide +kernel
  have hin0 : ∀ q ∈ u_ws RX0 TX0 6, q ∈ wsX1_promisedCharge := by decide +kernel
  refine KI_of (own := RX1) (cc := cX1_promisedCharge) (maxL := 4) (ret := (some .int)) (lo0 := [some (.ref (ad 0)), some (.int b), none, none]) (by decide) rfl rfl (by simp [Value.category]) (Nat.le_of_ble_eq_true rfl) rfl (fun p e s m args below meth c A C => ?_)
  refine v_iconst C (0) dX1_promisedCharge_0 (by decide) ?_
  refine v_istore_n C dX1_promisedCharge_1 (by decide) ?_
  refine v_iconst C (0) dX1_promisedCharge_2 (by decide) ?_
  refine v_istore_n C dX1_promisedCharge_3 (by decide) ?_
  refine V.loop (fun k : Nat => wD cy ad x) (fun k : Nat => ([some (.ref (ad 0)), some (.int b), some (.int (sumF (gprom x b) k)), some (.int (nI k))] : List (Option Value))) (fun k : Nat => True) n ?_ trivial
  intro k hle_k hP_k ih_k
  try dsimp only at hP_k ih_k ⊢
  refine v_iload_n C dX1_promisedCharge_4 rfl ?_
  refine v_aload_n C dX1_promisedCharge_5 rfl ?_
  refine vD_g_runCount C hin1 (by decide +kernel) dX1_promisedCharge_6 ?_
  refine v_geN C k n 56 dX1_promisedCharge_9 (by decide) rfl hn (by omega) (by omega) (fun c1 => ?_) (fun c1 => ?_)
  · -- loop 4 is over
    have e_k : n = k := by omega
    subst e_k
    refine v_iload_n C dX1_promisedCharge_56 rfl ?_
    refine v_iret C dX1_promisedCharge_57 ?_
    rfl
  · have hk : k < n := c1
    refine v_aload_n C dX1_promisedCharge_12 rfl ?_
    refine vD_g_rows C hin1 (by decide +kernel) dX1_promisedCharge_13 ?_
    refine v_iload_n C dX1_promisedCharge_16 rfl ?_
    refine vD_aald C k rfl (by omega) dX1_promisedCharge_17 ?_
    refine vR_g_bus C hin0 (by omega) (by decide +kernel) dX1_promisedCharge_18 ?_
    refine v_iload_n C dX1_promisedCharge_21 rfl ?_
    refine v_icmp_ne C 50 dX1_promisedCharge_22 (by decide) (fun c2 => ?_) (fun c2 => ?_)
    · -- 22 t: ¬ (x 10 k) = b
      refine v_incN C dX1_promisedCharge_50 rfl (by decide) ?_
      refine v_goto C 4 dX1_promisedCharge_53 (by decide) ?_
      have q := ih_k hk trivial
      have e : sumF (gprom x b) (k + 1) = sumF (gprom x b) k := by simp [sumF, gprom, pif, c2]
      rw [e] at q
      exact q
    · -- 22 f: not ¬ (x 10 k) = b
      refine v_aload_n C dX1_promisedCharge_25 rfl ?_
      refine vD_g_rows C hin1 (by decide +kernel) dX1_promisedCharge_26 ?_
      refine v_iload_n C dX1_promisedCharge_29 rfl ?_
      refine vD_aald C k rfl (by omega) dX1_promisedCharge_30 ?_
      refine vR_g_state C hin0 (by omega) (by decide +kernel) dX1_promisedCharge_31 ?_
      refine v_iconst C (1) dX1_promisedCharge_34 (by decide) ?_
      refine v_icmp_ne C 50 dX1_promisedCharge_35 (by decide) (fun c3 => ?_) (fun c3 => ?_)
      · -- 35 t: ¬ (x 9 k) = 1
        refine v_incN C dX1_promisedCharge_50 rfl (by decide) ?_
        refine v_goto C 4 dX1_promisedCharge_53 (by decide) ?_
        have q := ih_k hk trivial
        have e : sumF (gprom x b) (k + 1) = sumF (gprom x b) k := by simp [sumF, gprom, pif, c2, c3]
        rw [e] at q
        exact q
      · -- 35 f: not ¬ (x 9 k) = 1
        refine v_iload_n C dX1_promisedCharge_38 rfl ?_
        refine v_aload_n C dX1_promisedCharge_39 rfl ?_
        refine vD_g_rows C hin1 (by decide +kernel) dX1_promisedCharge_40 ?_
        refine v_iload_n C dX1_promisedCharge_43 rfl ?_
        refine vD_aald C k rfl (by omega) dX1_promisedCharge_44 ?_
        refine vR_g_need C hin0 (by omega) (by decide +kernel) dX1_promisedCharge_45 ?_
        refine v_iadd C dX1_promisedCharge_48 ?_
        refine v_istore_n C dX1_promisedCharge_49 (by decide) ?_
        refine v_incN C dX1_promisedCharge_50 rfl (by decide) ?_
        refine v_goto C 4 dX1_promisedCharge_53 (by decide) ?_
        have q := ih_k hk trivial
        have e : sumF (gprom x b) (k + 1) = (sumF (gprom x b) k) + (x 8 k) := by simp [sumF, gprom, pif, c2, c3]
        rw [e] at q
        exact q
set_option maxHeartbeats 4000000 in
set_option maxRecDepth 100000 in
/-- workedMinutes(d, day) -/
theorem k_X1_workedMinutes (l : Launch) (G : va_G) (cy : Nat → ClassId) (ad : Nat → Nat) (x : Sg) (n : Nat) (hn : x 1 0 = nI n) (h30 : n ≤ 30) (d day : Int32) : KI l G cy yX1_workedMinutes wsX1_workedMinutes 2 42 0 0 [.ref (ad 0), .int d, .int day] (wD cy ad x) (fwork n x d day) (wD cy ad x) := by
  have hin1 : ∀ q ∈ u_ws RX1 TX1 12, q ∈ wsX1_workedMinutes := by decide +kernel
  refine KI_of (own := RX1) (cc := cX1_workedMinutes) (maxL := 5) (ret := (some .int)) (lo0 := [some (.ref (ad 0)), some (.int d), some (.int day), none, none]) (by decide) rfl rfl (by simp [Value.category]) (Nat.le_of_ble_eq_true rfl) rfl (fun p e s m args below meth c A C => ?_)
  refine v_iconst C (0) dX1_workedMinutes_0 (by decide) ?_
  refine v_istore_n C dX1_workedMinutes_1 (by decide) ?_
  refine v_iconst C (0) dX1_workedMinutes_2 (by decide) ?_
  refine v_istore C dX1_workedMinutes_3 (by decide) ?_
  refine V.loop (fun k : Nat => wD cy ad x) (fun k : Nat => ([some (.ref (ad 0)), some (.int d), some (.int day), some (.int (sumF (gwork x d day) k)), some (.int (nI k))] : List (Option Value))) (fun k : Nat => True) n ?_ trivial
  intro k hle_k hP_k ih_k
  try dsimp only at hP_k ih_k ⊢
  refine v_iload C dX1_workedMinutes_5 rfl ?_
  refine v_aload_n C dX1_workedMinutes_7 rfl ?_
  refine vD_g_runCount C hin1 (by decide +kernel) dX1_workedMinutes_8 ?_
  refine v_geN C k n 48 dX1_workedMinutes_11 (by decide) rfl hn (by omega) (by omega) (fun c1 => ?_) (fun c1 => ?_)
  · -- loop 5 is over
    have e_k : n = k := by omega
    subst e_k
    refine v_iload_n C dX1_workedMinutes_48 rfl ?_
    refine v_iret C dX1_workedMinutes_49 ?_
    rfl
  · have hk : k < n := c1
    refine v_aload_n C dX1_workedMinutes_14 rfl ?_
    refine vD_g_rows C hin1 (by decide +kernel) dX1_workedMinutes_15 ?_
    refine v_iload C dX1_workedMinutes_18 rfl ?_
    refine vD_aald C k rfl (by omega) dX1_workedMinutes_20 ?_
    refine v_iload_n C dX1_workedMinutes_21 rfl ?_
    refine v_iload_n C dX1_workedMinutes_22 rfl ?_
    refine vR_cI C (by omega) (k_X0_isWorkOf l G cy ad x k (by omega) d day) rfl gX1_workedMinutes_X0_isWorkOf (nA := 2) (by decide +kernel) rfl (by decide) (by decide) rfl rfl (Nat.le_of_ble_eq_true rfl) dX1_workedMinutes_23 ?_
    refine v_if_eq C 42 dX1_workedMinutes_26 (by decide) (fun c2 => ?_) (fun c2 => ?_)
    · -- 26 t: (b2i (works x k d day)) = 0
      replace c2 := b2i_0.mp c2
      refine v_incN C dX1_workedMinutes_42 rfl (by decide) ?_
      refine v_goto C 5 dX1_workedMinutes_45 (by decide) ?_
      have q := ih_k hk trivial
      have e : sumF (gwork x d day) (k + 1) = sumF (gwork x d day) k := by simp [sumF, gwork, pif, c2]
      rw [e] at q
      exact q
    · -- 26 f: not (b2i (works x k d day)) = 0
      replace c2 := Classical.not_not.mp (fun z => c2 (b2i_0.mpr z))
      refine v_iload_n C dX1_workedMinutes_29 rfl ?_
      refine v_aload_n C dX1_workedMinutes_30 rfl ?_
      refine vD_g_rows C hin1 (by decide +kernel) dX1_workedMinutes_31 ?_
      refine v_iload C dX1_workedMinutes_34 rfl ?_
      refine vD_aald C k rfl (by omega) dX1_workedMinutes_36 ?_
      refine vR_cI C (by omega) (k_X0_length l G cy ad x k (by omega)) rfl gX1_workedMinutes_X0_length (nA := 0) (by decide +kernel) rfl (by decide) (by decide) rfl rfl (Nat.le_of_ble_eq_true rfl) dX1_workedMinutes_37 ?_
      refine v_iadd C dX1_workedMinutes_40 ?_
      refine v_istore_n C dX1_workedMinutes_41 (by decide) ?_
      refine v_incN C dX1_workedMinutes_42 rfl (by decide) ?_
      refine v_goto C 5 dX1_workedMinutes_45 (by decide) ?_
      have q := ih_k hk trivial
      have e : sumF (gwork x d day) (k + 1) = (sumF (gwork x d day) k) + (x 7 k - x 6 k) := by simp [sumF, gwork, pif, c2]
      rw [e] at q
      exact q
set_option maxHeartbeats 4000000 in
set_option maxRecDepth 100000 in
/-- isUnderWay(b) -/
theorem k_X1_isUnderWay (l : Launch) (G : va_G) (cy : Nat → ClassId) (ad : Nat → Nat) (x : Sg) (n : Nat) (hn : x 1 0 = nI n) (h30 : n ≤ 30) (b : Int32) : KI l G cy yX1_isUnderWay wsX1_isUnderWay 0 0 0 0 [.ref (ad 0), .int b] (wD cy ad x) (b2i (under n x b)) (wD cy ad x) := by
  have hin1 : ∀ q ∈ u_ws RX1 TX1 12, q ∈ wsX1_isUnderWay := by decide +kernel
  have hin0 : ∀ q ∈ u_ws RX0 TX0 6, q ∈ wsX1_isUnderWay := by decide +kernel
  refine KI_of (own := RX1) (cc := cX1_isUnderWay) (maxL := 3) (ret := (some .boolean)) (lo0 := [some (.ref (ad 0)), some (.int b), none]) (by decide) rfl rfl (by simp [Value.category]) (Nat.le_of_ble_eq_true rfl) rfl (fun p e s m args below meth c A C => ?_)
  refine v_iconst C (0) dX1_isUnderWay_0 (by decide) ?_
  refine v_istore_n C dX1_isUnderWay_1 (by decide) ?_
  refine V.loop (fun k : Nat => wD cy ad x) (fun k : Nat => ([some (.ref (ad 0)), some (.int b), some (.int (nI k))] : List (Option Value))) (fun k : Nat => ∀ q, q < k → ¬ (x 9 q = 2 ∧ x 10 q = b)) n ?_ lt_0
  intro k hle_k hP_k ih_k
  try dsimp only at hP_k ih_k ⊢
  refine v_iload_n C dX1_isUnderWay_2 rfl ?_
  refine v_aload_n C dX1_isUnderWay_3 rfl ?_
  refine vD_g_runCount C hin1 (by decide +kernel) dX1_isUnderWay_4 ?_
  refine v_geN C k n 44 dX1_isUnderWay_7 (by decide) rfl hn (by omega) (by omega) (fun c1 => ?_) (fun c1 => ?_)
  · -- loop 2 is over
    have e_k : n = k := by omega
    subst e_k
    refine v_iconst C (0) dX1_isUnderWay_44 (by decide) ?_
    refine v_zret C rfl dX1_isUnderWay_45 ?_
    exact (b2i_f (fun ⟨q, h1, h2⟩ => hP_k q h1 h2)).symm
  · have hk : k < n := c1
    refine v_aload_n C dX1_isUnderWay_10 rfl ?_
    refine vD_g_rows C hin1 (by decide +kernel) dX1_isUnderWay_11 ?_
    refine v_iload_n C dX1_isUnderWay_14 rfl ?_
    refine vD_aald C k rfl (by omega) dX1_isUnderWay_15 ?_
    refine vR_g_state C hin0 (by omega) (by decide +kernel) dX1_isUnderWay_16 ?_
    refine v_iconst C (2) dX1_isUnderWay_19 (by decide) ?_
    refine v_icmp_ne C 38 dX1_isUnderWay_20 (by decide) (fun c2 => ?_) (fun c2 => ?_)
    · -- 20 t: ¬ (x 9 k) = 2
      refine v_incN C dX1_isUnderWay_38 rfl (by decide) ?_
      refine v_goto C 2 dX1_isUnderWay_41 (by decide) ?_
      refine ih_k hk (lt_s hP_k ?_)
      simp [c2]
    · -- 20 f: not ¬ (x 9 k) = 2
      refine v_aload_n C dX1_isUnderWay_23 rfl ?_
      refine vD_g_rows C hin1 (by decide +kernel) dX1_isUnderWay_24 ?_
      refine v_iload_n C dX1_isUnderWay_27 rfl ?_
      refine vD_aald C k rfl (by omega) dX1_isUnderWay_28 ?_
      refine vR_g_bus C hin0 (by omega) (by decide +kernel) dX1_isUnderWay_29 ?_
      refine v_iload_n C dX1_isUnderWay_32 rfl ?_
      refine v_icmp_ne C 38 dX1_isUnderWay_33 (by decide) (fun c3 => ?_) (fun c3 => ?_)
      · -- 33 t: ¬ (x 10 k) = b
        refine v_incN C dX1_isUnderWay_38 rfl (by decide) ?_
        refine v_goto C 2 dX1_isUnderWay_41 (by decide) ?_
        refine ih_k hk (lt_s hP_k ?_)
        simp [c2, c3]
      · -- 33 f: not ¬ (x 10 k) = b
        refine v_iconst C (1) dX1_isUnderWay_36 (by decide) ?_
        refine v_zret C rfl dX1_isUnderWay_37 ?_
        exact (b2i_t ⟨k, hk, c2, c3⟩).symm
end
section
/-! DepotLog: what is done -/
/-! which fields stay -/
theorem pif_ap2 {P : Prop} (a b : Sg) (f k : Nat) : pif P a b f k = pif P (a f k) (b f k) := by
  by_cases h : P
  · rw [pif_t h, pif_t h]
  · rw [pif_f h, pif_f h]
theorem pif_s {α : Sort _} {P : Prop} (a : α) : pif P a a = a := by
  by_cases h : P
  · rw [pif_t h]
  · rw [pif_f h]
theorem fdrop_f {f k : Nat} (x : Sg) (j : Nat) (v : Int32) (h9 : f ≠ 9) (h10 : f ≠ 10) (h11 : f ≠ 11) : fdrop x j v f k = x f k := by simp [fdrop, su_f, h9, h10, h11]
theorem sunplug_f {f k : Nat} (b : Int32) (c : Nat) (y : Sg) (h15 : f ≠ 15) : sunplug b c y f k = y f k := by simp [sunplug, pif_ap2, su_f, h15, pif_s]
theorem funplug_f {f k : Nat} (x : Sg) (b : Int32) (h15 : f ≠ 15) : funplug x b f k = x f k := it_keep (sunplug b) (fun y => y f k) 2 x (fun q y _ => sunplug_f b q y h15)
theorem fsend_f {f k : Nat} (x : Sg) (b q : Int32) (h12 : f ≠ 12) (h15 : f ≠ 15) : fsend x b q f k = x f k := by simp [fsend, pif_ap2, funplug_f, su_f, h12, h15, pif_s]
theorem stakeb_f {f k : Nat} (b : Int32) (c : Nat) (y : Sg) (h9 : f ≠ 9) (h10 : f ≠ 10) (h11 : f ≠ 11) : stakeb b c y f k = y f k := by simp [stakeb, pif_ap2, fdrop_f, h9, h10, h11, pif_s]
theorem staked_f {f k : Nat} (b : Int32) (c : Nat) (y : Sg) (h9 : f ≠ 9) (h10 : f ≠ 10) (h11 : f ≠ 11) : staked b c y f k = y f k := by simp [staked, pif_ap2, fdrop_f, h9, h10, h11, pif_s]
theorem fgiveb_f {f k : Nat} (n : Nat) (x : Sg) (r : Nat) (h9 : f ≠ 9) (h10 : f ≠ 10) (h11 : f ≠ 11) (h12 : f ≠ 12) (h15 : f ≠ 15) : fgiveb n x r f k = x f k := by simp [fgiveb, pif_ap2, fdrop_f, fsend_f, su_f, h9, h10, h11, h12, h15, pif_s]
theorem fgived_f {f k : Nat} (n : Nat) (x : Sg) (r : Nat) (h9 : f ≠ 9) (h10 : f ≠ 10) (h11 : f ≠ 11) : fgived n x r f k = x f k := by simp [fgived, pif_ap2, fdrop_f, su_f, h9, h10, h11, pif_s]
theorem sswapb_f {f k : Nat} (n : Nat) (b : Int32) (r : Nat) (x : Sg) (h9 : f ≠ 9) (h10 : f ≠ 10) (h11 : f ≠ 11) (h12 : f ≠ 12) (h15 : f ≠ 15) : sswapb n b r x f k = x f k := by simp [sswapb, pif_ap2, fgiveb_f, h9, h10, h11, h12, h15, pif_s]
theorem sswapd_f {f k : Nat} (n : Nat) (b : Int32) (r : Nat) (x : Sg) (h9 : f ≠ 9) (h10 : f ≠ 10) (h11 : f ≠ 11) : sswapd n b r x f k = x f k := by simp [sswapd, pif_ap2, fgived_f, h9, h10, h11, pif_s]
theorem sload_f {f k : Nat} (c : Nat) (y : Sg) (h12 : f ≠ 12) : sload c y f k = y f k := by simp [sload, pif_ap2, su_f, h12, pif_s]
theorem send__f {f k : Nat} (c : Nat) (y : Sg) (h9 : f ≠ 9) : send_ c y f k = y f k := by simp [send_, pif_ap2, su_f, h9, pif_s]
theorem fstart_f {f k : Nat} (y : Sg) (c : Nat) (h9 : f ≠ 9) (h10 : f ≠ 10) (h11 : f ≠ 11) (h12 : f ≠ 12) (h15 : f ≠ 15) : fstart y c f k = y f k := by simp [fstart, pif_ap2, fsend_f, fdrop_f, su_f, h9, h10, h11, h12, h15, pif_s]
theorem sstart_f {f k : Nat} (c : Nat) (y : Sg) (h9 : f ≠ 9) (h10 : f ≠ 10) (h11 : f ≠ 11) (h12 : f ≠ 12) (h15 : f ≠ 15) : sstart c y f k = y f k := by simp [sstart, pif_ap2, fstart_f, h9, h10, h11, h12, h15, pif_s]
theorem it_f {g : Nat → Sg → Sg} {f k : Nat} (h : ∀ c y, g c y f k = y f k) (n : Nat) (x : Sg) : it g n x f k = x f k := it_keep g (fun y => y f k) n x (fun q y _ => h q y)
theorem fminute_f {f k : Nat} (n : Nat) (x : Sg) (h0 : f ≠ 0) (h9 : f ≠ 9) (h10 : f ≠ 10) (h11 : f ≠ 11) (h12 : f ≠ 12) (h15 : f ≠ 15) : fminute n x f k = x f k := by
  unfold fminute
  rw [it_f (fun c y => sstart_f c y h9 h10 h11 h12 h15), it_f (fun c y => send__f c y h9), su_f _ _ _ _ h0, it_f (fun c y => sload_f c y h12)]
theorem lowF_s {P : Nat → Prop} {k N : Nat} (hk : k < N) : lowF P (N - k) k = pif (P k) (nI k) (lowF P (N - (k + 1)) (k + 1)) := by
  rw [show N - k = (N - (k + 1)) + 1 by omega]
  rfl

set_option maxHeartbeats 4000000 in
set_option maxRecDepth 100000 in
/-- unplug(b) -/
theorem k_X1_unplug (l : Launch) (G : va_G) (cy : Nat → ClassId) (ad : Nat → Nat) (x : Sg) (b : Int32) : KV l G cy yX1_unplug wsX1_unplug 0 0 0 0 [.ref (ad 0), .int b] (wD cy ad x) (wD cy ad (funplug x b)) := by
  have hin1 : ∀ q ∈ u_ws RX1 TX1 12, q ∈ wsX1_unplug := by decide +kernel
  refine KV_of (own := RX1) (cc := cX1_unplug) (maxL := 3) (ret := none) (lo0 := [some (.ref (ad 0)), some (.int b), none]) (by decide) rfl rfl (by simp [Value.category]) (Nat.le_of_ble_eq_true rfl) rfl (fun p e s m args below meth c A _ C => ?_)
  refine v_iconst C (0) dX1_unplug_0 (by decide) ?_
  refine v_istore_n C dX1_unplug_1 (by decide) ?_
  refine V.loop (fun k : Nat => wD cy ad (it (sunplug b) k x)) (fun k : Nat => ([some (.ref (ad 0)), some (.int b), some (.int (nI k))] : List (Option Value))) (fun k : Nat => True) 2 ?_ trivial
  intro k hle_k hP_k ih_k
  try dsimp only at hP_k ih_k ⊢
  refine v_iload_n C dX1_unplug_2 rfl ?_
  refine v_iconst C (2) dX1_unplug_3 (by decide) ?_
  refine v_geN C k 2 30 dX1_unplug_4 (by decide) rfl rfl (by omega) (by omega) (fun c1 => ?_) (fun c1 => ?_)
  · -- loop 2 is over
    have e_k : 2 = k := by omega
    subst e_k
    exact v_vret C dX1_unplug_30
  · have hk : k < 2 := c1
    refine v_aload_n C dX1_unplug_7 rfl ?_
    refine vD_g_busAtCharger C hin1 (by decide +kernel) dX1_unplug_8 ?_
    refine v_iload_n C dX1_unplug_11 rfl ?_
    refine vD_l_busAtCharger C k rfl (by omega) dX1_unplug_12 ?_
    refine v_iload_n C dX1_unplug_13 rfl ?_
    refine v_icmp_ne C 24 dX1_unplug_14 (by decide) (fun c2 => ?_) (fun c2 => ?_)
    · -- 14 t: ¬ ((it (sunplug b) k x) 15 k) = b
      refine v_incN C dX1_unplug_24 rfl (by decide) ?_
      refine v_goto C 2 dX1_unplug_27 (by decide) ?_
      have q := ih_k hk trivial
      have e : it (sunplug b) (k + 1) x = it (sunplug b) k x := by
        show sunplug b k (it (sunplug b) k x) = it (sunplug b) k x
        simp [sunplug, pif, c2]
      rw [e] at q
      exact q
    · -- 14 f: not ¬ ((it (sunplug b) k x) 15 k) = b
      refine v_aload_n C dX1_unplug_17 rfl ?_
      refine vD_g_busAtCharger C hin1 (by decide +kernel) dX1_unplug_18 ?_
      refine v_iload_n C dX1_unplug_21 rfl ?_
      refine v_iconst C (-1) dX1_unplug_22 (by decide) ?_
      refine vD_s_busAtCharger C k rfl (by omega) dX1_unplug_23 ?_
      refine v_incN C dX1_unplug_24 rfl (by decide) ?_
      refine v_goto C 2 dX1_unplug_27 (by decide) ?_
      have q := ih_k hk trivial
      have e : it (sunplug b) (k + 1) x = su (it (sunplug b) k x) 15 k (-1) := by
        show sunplug b k (it (sunplug b) k x) = su (it (sunplug b) k x) 15 k (-1)
        simp [sunplug, pif, c2]
      rw [e] at q
      exact q
set_option maxHeartbeats 4000000 in
set_option maxRecDepth 100000 in
/-- sendOut(b, q) -/
theorem k_X1_sendOut (l : Launch) (G : va_G) (cy : Nat → ClassId) (ad : Nat → Nat) (x : Sg) (b q : Int32) : KV l G cy yX1_sendOut wsX1_sendOut 1 22 0 0 [.ref (ad 0), .int b, .int q] (wD cy ad x) (wD cy ad (fsend x b q)) := by
  have hin1 : ∀ q ∈ u_ws RX1 TX1 12, q ∈ wsX1_sendOut := by decide +kernel
  refine KV_of (own := RX1) (cc := cX1_sendOut) (maxL := 3) (ret := none) (lo0 := [some (.ref (ad 0)), some (.int b), some (.int q)]) (by decide) rfl rfl (by simp [Value.category]) (Nat.le_of_ble_eq_true rfl) rfl (fun p e s m args below meth c A _ C => ?_)
  refine v_iload_n C dX1_sendOut_0 rfl ?_
  refine v_if_lt C 24 dX1_sendOut_1 (by decide) (fun c1 => ?_) (fun c1 => ?_)
  · -- 1 t: b < 0
    have e : fsend x b q = x := by simp [fsend, pif, c1]
    rw [e]
    exact v_vret C dX1_sendOut_24
  · -- 1 f: not b < 0
    refine v_iload_n C dX1_sendOut_4 rfl ?_
    refine v_iconst C (5) dX1_sendOut_5 (by decide) ?_
    refine v_icmp_ge C 24 dX1_sendOut_6 (by decide) (fun c2 => ?_) (fun c2 => ?_)
    · -- 6 t: ¬ b < 5
      have e : fsend x b q = x := by simp [fsend, pif, c1, c2]
      rw [e]
      exact v_vret C dX1_sendOut_24
    · -- 6 f: not ¬ b < 5
      obtain ⟨hb, hb_lt⟩ := ix_of (N := 5) (by decide) c1 c2
      refine v_aload_n C dX1_sendOut_9 rfl ?_
      refine vD_g_charges C hin1 (by decide +kernel) dX1_sendOut_10 ?_
      refine v_iload_n C dX1_sendOut_13 rfl ?_
      refine v_dup2 C dX1_sendOut_14 rfl rfl ?_
      refine vD_l_charges C b.toNatClampNeg hb (by omega) dX1_sendOut_15 ?_
      refine v_iload_n C dX1_sendOut_16 rfl ?_
      refine v_isub C dX1_sendOut_17 ?_
      refine vD_s_charges C b.toNatClampNeg hb (by omega) dX1_sendOut_18 ?_
      refine v_aload_n C dX1_sendOut_19 rfl ?_
      refine v_iload_n C dX1_sendOut_20 rfl ?_
      refine vD_cV C (k_X1_unplug l G cy ad (su x 12 b.toNatClampNeg ((x 12 b.toNatClampNeg) - q)) b) rfl gX1_sendOut_X1_unplug (nA := 1) (by decide +kernel) rfl (by decide) (by decide) rfl rfl (Nat.le_of_ble_eq_true rfl) dX1_sendOut_21 ?_
      have e : fsend x b q = funplug (su x 12 b.toNatClampNeg ((x 12 b.toNatClampNeg) - q)) b := by simp [fsend, pif, c1, c2]
      rw [e]
      exact v_vret C dX1_sendOut_24
set_option maxHeartbeats 4000000 in
set_option maxRecDepth 100000 in
/-- loadAtChargers() -/
theorem k_X1_loadAtChargers (l : Launch) (G : va_G) (cy : Nat → ClassId) (ad : Nat → Nat) (x : Sg) : KV l G cy yX1_loadAtChargers wsX1_loadAtChargers 0 0 0 0 [.ref (ad 0)] (wD cy ad x) (wD cy ad (it sload 2 x)) := by
  have hin1 : ∀ q ∈ u_ws RX1 TX1 12, q ∈ wsX1_loadAtChargers := by decide +kernel
  refine KV_of (own := RX1) (cc := cX1_loadAtChargers) (maxL := 3) (ret := none) (lo0 := [some (.ref (ad 0)), none, none]) (by decide) rfl rfl (by simp [Value.category]) (Nat.le_of_ble_eq_true rfl) rfl (fun p e s m args below meth c A _ C => ?_)
  refine v_iconst C (0) dX1_loadAtChargers_0 (by decide) ?_
  refine v_istore_n C dX1_loadAtChargers_1 (by decide) ?_
  refine V.loop (fun k : Nat => wD cy ad (it (sload) k x)) (fun k : Nat => ([some (.ref (ad 0)), some (.int (nI k)), none] : List (Option Value))) (fun k : Nat => True) 2 ?_ trivial
  intro k hle_k hP_k ih_k
  try dsimp only at hP_k ih_k ⊢
  refine v_iload_n C dX1_loadAtChargers_2 rfl ?_
  refine v_iconst C (2) dX1_loadAtChargers_3 (by decide) ?_
  refine v_geN C k 2 50 dX1_loadAtChargers_4 (by decide) rfl rfl (by omega) (by omega) (fun c1 => ?_) (fun c1 => ?_)
  · -- loop 2 is over
    have e_k : 2 = k := by omega
    subst e_k
    exact v_vret C dX1_loadAtChargers_50
  · have hk : k < 2 := c1
    refine v_aload_n C dX1_loadAtChargers_7 rfl ?_
    refine vD_g_busAtCharger C hin1 (by decide +kernel) dX1_loadAtChargers_8 ?_
    refine v_iload_n C dX1_loadAtChargers_11 rfl ?_
    refine vD_l_busAtCharger C k rfl (by omega) dX1_loadAtChargers_12 ?_
    refine v_istore_n C dX1_loadAtChargers_13 (by decide) ?_
    refine v_iload_n C dX1_loadAtChargers_14 rfl ?_
    refine v_if_lt C 44 dX1_loadAtChargers_15 (by decide) (fun c2 => ?_) (fun c2 => ?_)
    · -- 15 t: ((it (sload) k x) 15 k) < 0
      refine v_incN C dX1_loadAtChargers_44 rfl (by decide) ?_
      refine v_goto C 2 dX1_loadAtChargers_47 (by decide) ?_
      have q := ih_k hk trivial
      have e : it (sload) (k + 1) x = it (sload) k x := by
        show sload k (it (sload) k x) = it (sload) k x
        simp [sload, pif, c2]
      rw [e] at q
      exact V.lof 2 (q)
    · -- 15 f: not ((it (sload) k x) 15 k) < 0
      refine v_iload_n C dX1_loadAtChargers_18 rfl ?_
      refine v_iconst C (5) dX1_loadAtChargers_19 (by decide) ?_
      refine v_icmp_ge C 44 dX1_loadAtChargers_20 (by decide) (fun c3 => ?_) (fun c3 => ?_)
      · -- 20 t: ¬ ((it (sload) k x) 15 k) < 5
        refine v_incN C dX1_loadAtChargers_44 rfl (by decide) ?_
        refine v_goto C 2 dX1_loadAtChargers_47 (by decide) ?_
        have q := ih_k hk trivial
        have e : it (sload) (k + 1) x = it (sload) k x := by
          show sload k (it (sload) k x) = it (sload) k x
          simp [sload, pif, c2, c3]
        rw [e] at q
        exact V.lof 2 (q)
      · -- 20 f: not ¬ ((it (sload) k x) 15 k) < 5
        obtain ⟨hb, hb_lt⟩ := ix_of (N := 5) (by decide) c2 c3
        refine v_aload_n C dX1_loadAtChargers_23 rfl ?_
        refine vD_g_charges C hin1 (by decide +kernel) dX1_loadAtChargers_24 ?_
        refine v_iload_n C dX1_loadAtChargers_27 rfl ?_
        refine vD_l_charges C ((((it (sload) k x) 15 k)).toNatClampNeg) hb (by omega) dX1_loadAtChargers_28 ?_
        refine v_bipush C (100) dX1_loadAtChargers_29 (by decide) ?_
        refine v_icmp_ge C 44 dX1_loadAtChargers_31 (by decide) (fun c4 => ?_) (fun c4 => ?_)
        · -- 31 t: ¬ ((it (sload) k x) 12 ((((it (sload) k x) 15 k)).toNatClampNeg)) < 100
          refine v_incN C dX1_loadAtChargers_44 rfl (by decide) ?_
          refine v_goto C 2 dX1_loadAtChargers_47 (by decide) ?_
          have q := ih_k hk trivial
          have e : it (sload) (k + 1) x = it (sload) k x := by
            show sload k (it (sload) k x) = it (sload) k x
            simp [sload, pif, c2, c3, c4]
          rw [e] at q
          exact V.lof 2 (q)
        · -- 31 f: not ¬ ((it (sload) k x) 12 ((((it (sload) k x) 15 k)).toNatClampNeg)) < 100
          refine v_aload_n C dX1_loadAtChargers_34 rfl ?_
          refine vD_g_charges C hin1 (by decide +kernel) dX1_loadAtChargers_35 ?_
          refine v_iload_n C dX1_loadAtChargers_38 rfl ?_
          refine v_dup2 C dX1_loadAtChargers_39 rfl rfl ?_
          refine vD_l_charges C ((((it (sload) k x) 15 k)).toNatClampNeg) hb (by omega) dX1_loadAtChargers_40 ?_
          refine v_iconst C (1) dX1_loadAtChargers_41 (by decide) ?_
          refine v_iadd C dX1_loadAtChargers_42 ?_
          refine vD_s_charges C ((((it (sload) k x) 15 k)).toNatClampNeg) hb (by omega) dX1_loadAtChargers_43 ?_
          refine v_incN C dX1_loadAtChargers_44 rfl (by decide) ?_
          refine v_goto C 2 dX1_loadAtChargers_47 (by decide) ?_
          have q := ih_k hk trivial
          have e : it (sload) (k + 1) x = su (it (sload) k x) 12 ((((it (sload) k x) 15 k)).toNatClampNeg) (((it (sload) k x) 12 ((((it (sload) k x) 15 k)).toNatClampNeg)) + 1) := by
            show sload k (it (sload) k x) = su (it (sload) k x) 12 ((((it (sload) k x) 15 k)).toNatClampNeg) (((it (sload) k x) 12 ((((it (sload) k x) 15 k)).toNatClampNeg)) + 1)
            simp [sload, pif, c2, c3, c4]
          rw [e] at q
          exact V.lof 2 (q)
set_option maxHeartbeats 4000000 in
set_option maxRecDepth 100000 in
/-- endRuns() -/
theorem k_X1_endRuns (l : Launch) (G : va_G) (cy : Nat → ClassId) (ad : Nat → Nat) (x : Sg) (n : Nat) (hn : x 1 0 = nI n) (h30 : n ≤ 30) : KV l G cy yX1_endRuns wsX1_endRuns 0 0 0 0 [.ref (ad 0)] (wD cy ad x) (wD cy ad (it send_ n x)) := by
  have hin1 : ∀ q ∈ u_ws RX1 TX1 12, q ∈ wsX1_endRuns := by decide +kernel
  have hin0 : ∀ q ∈ u_ws RX0 TX0 6, q ∈ wsX1_endRuns := by decide +kernel
  refine KV_of (own := RX1) (cc := cX1_endRuns) (maxL := 2) (ret := none) (lo0 := [some (.ref (ad 0)), none]) (by decide) rfl rfl (by simp [Value.category]) (Nat.le_of_ble_eq_true rfl) rfl (fun p e s m args below meth c A _ C => ?_)
  refine v_iconst C (0) dX1_endRuns_0 (by decide) ?_
  refine v_istore_n C dX1_endRuns_1 (by decide) ?_
  refine V.loop (fun k : Nat => wD cy ad (it (send_) k x)) (fun k : Nat => ([some (.ref (ad 0)), some (.int (nI k))] : List (Option Value))) (fun k : Nat => True) n ?_ trivial
  intro k hle_k hP_k ih_k
  try dsimp only at hP_k ih_k ⊢
  have hn_k : it (send_) k x 1 0 = nI n := (it_f (fun c y => send__f c y (by decide)) k x).trans hn
  refine v_iload_n C dX1_endRuns_2 rfl ?_
  refine v_aload_n C dX1_endRuns_3 rfl ?_
  refine vD_g_runCount C hin1 (by decide +kernel) dX1_endRuns_4 ?_
  refine v_geN C k n 55 dX1_endRuns_7 (by decide) rfl hn_k (by omega) (by omega) (fun c1 => ?_) (fun c1 => ?_)
  · -- loop 2 is over
    have e_k : n = k := by omega
    subst e_k
    exact v_vret C dX1_endRuns_55
  · have hk : k < n := c1
    refine v_aload_n C dX1_endRuns_10 rfl ?_
    refine vD_g_rows C hin1 (by decide +kernel) dX1_endRuns_11 ?_
    refine v_iload_n C dX1_endRuns_14 rfl ?_
    refine vD_aald C k rfl (by omega) dX1_endRuns_15 ?_
    refine vR_g_state C hin0 (by omega) (by decide +kernel) dX1_endRuns_16 ?_
    refine v_iconst C (2) dX1_endRuns_19 (by decide) ?_
    refine v_icmp_ne C 49 dX1_endRuns_20 (by decide) (fun c2 => ?_) (fun c2 => ?_)
    · -- 20 t: ¬ ((it (send_) k x) 9 k) = 2
      refine v_incN C dX1_endRuns_49 rfl (by decide) ?_
      refine v_goto C 2 dX1_endRuns_52 (by decide) ?_
      have q := ih_k hk trivial
      have e : it (send_) (k + 1) x = it (send_) k x := by
        show send_ k (it (send_) k x) = it (send_) k x
        simp [send_, pif, c2]
      rw [e] at q
      exact q
    · -- 20 f: not ¬ ((it (send_) k x) 9 k) = 2
      refine v_aload_n C dX1_endRuns_23 rfl ?_
      refine vD_g_rows C hin1 (by decide +kernel) dX1_endRuns_24 ?_
      refine v_iload_n C dX1_endRuns_27 rfl ?_
      refine vD_aald C k rfl (by omega) dX1_endRuns_28 ?_
      refine vR_g_end C hin0 (by omega) (by decide +kernel) dX1_endRuns_29 ?_
      refine v_aload_n C dX1_endRuns_32 rfl ?_
      refine vD_g_minute C hin1 (by decide +kernel) dX1_endRuns_33 ?_
      refine v_icmp_ne C 49 dX1_endRuns_36 (by decide) (fun c3 => ?_) (fun c3 => ?_)
      · -- 36 t: ¬ ((it (send_) k x) 7 k) = ((it (send_) k x) 0 0)
        refine v_incN C dX1_endRuns_49 rfl (by decide) ?_
        refine v_goto C 2 dX1_endRuns_52 (by decide) ?_
        have q := ih_k hk trivial
        have e : it (send_) (k + 1) x = it (send_) k x := by
          show send_ k (it (send_) k x) = it (send_) k x
          simp [send_, pif, c2, c3]
        rw [e] at q
        exact q
      · -- 36 f: not ¬ ((it (send_) k x) 7 k) = ((it (send_) k x) 0 0)
        refine v_aload_n C dX1_endRuns_39 rfl ?_
        refine vD_g_rows C hin1 (by decide +kernel) dX1_endRuns_40 ?_
        refine v_iload_n C dX1_endRuns_43 rfl ?_
        refine vD_aald C k rfl (by omega) dX1_endRuns_44 ?_
        refine v_iconst C (3) dX1_endRuns_45 (by decide) ?_
        refine vR_p_state C hin0 (by omega) (by decide +kernel) dX1_endRuns_46 ?_
        refine v_incN C dX1_endRuns_49 rfl (by decide) ?_
        refine v_goto C 2 dX1_endRuns_52 (by decide) ?_
        have q := ih_k hk trivial
        have e : it (send_) (k + 1) x = su (it (send_) k x) 9 k 3 := by
          show send_ k (it (send_) k x) = su (it (send_) k x) 9 k 3
          simp [send_, pif, c2, c3]
        rw [e] at q
        exact q
set_option maxHeartbeats 4000000 in
set_option maxRecDepth 100000 in
/-- startRun(j) -/
theorem k_X1_startRun (l : Launch) (G : va_G) (cy : Nat → ClassId) (ad : Nat → Nat) (x : Sg) (j : Nat) (hj : j < 30) : KV l G cy yX1_startRun wsX1_startRun 2 44 0 0 [.ref (ad 0), .ref (ad (j + 8))] (wD cy ad x) (wD cy ad (fstart x j)) := by
  have hin0 : ∀ q ∈ u_ws RX0 TX0 6, q ∈ wsX1_startRun := by decide +kernel
  refine KV_of (own := RX1) (cc := cX1_startRun) (maxL := 2) (ret := none) (lo0 := [some (.ref (ad 0)), some (.ref (ad (j + 8)))]) (by decide) rfl rfl (by simp [Value.category]) (Nat.le_of_ble_eq_true rfl) rfl (fun p e s m args below meth c A _ C => ?_)
  refine v_aload_n C dX1_startRun_0 rfl ?_
  refine vR_g_state C hin0 (by omega) (by decide +kernel) dX1_startRun_1 ?_
  refine v_iconst C (1) dX1_startRun_4 (by decide) ?_
  refine v_icmp_ne C 28 dX1_startRun_5 (by decide) (fun c1 => ?_) (fun c1 => ?_)
  · -- 5 t: ¬ (x 9 j) = 1
    refine v_aload_n C dX1_startRun_28 rfl ?_
    refine vR_g_state C hin0 (by omega) (by decide +kernel) dX1_startRun_29 ?_
    refine v_if_ne C 40 dX1_startRun_32 (by decide) (fun c2 => ?_) (fun c2 => ?_)
    · -- 32 t: ¬ (x 9 j) = 0
      have e : fstart x j = x := by simp [fstart, su_f, su_s, pif, c1, c2]
      rw [e]
      exact v_vret C dX1_startRun_40
    · -- 32 f: not ¬ (x 9 j) = 0
      refine v_aload_n C dX1_startRun_35 rfl ?_
      refine v_iconst C (4) dX1_startRun_36 (by decide) ?_
      refine vR_cV C (by omega) (k_X0_drop l G cy ad x j (by omega) 4) rfl gX1_startRun_X0_drop (nA := 1) (by decide +kernel) rfl (by decide) (by decide) rfl rfl (Nat.le_of_ble_eq_true rfl) dX1_startRun_37 ?_
      have e : fstart x j = fdrop x j 4 := by simp [fstart, su_f, su_s, pif, c1, c2]
      rw [e]
      exact v_vret C dX1_startRun_40
  · -- 5 f: not ¬ (x 9 j) = 1
    refine v_aload_n C dX1_startRun_8 rfl ?_
    refine v_iconst C (2) dX1_startRun_9 (by decide) ?_
    refine vR_p_state C hin0 (by omega) (by decide +kernel) dX1_startRun_10 ?_
    refine v_aload_n C dX1_startRun_13 rfl ?_
    refine v_aload_n C dX1_startRun_14 rfl ?_
    refine vR_g_bus C hin0 (by omega) (by decide +kernel) dX1_startRun_15 ?_
    refine v_aload_n C dX1_startRun_18 rfl ?_
    refine vR_g_need C hin0 (by omega) (by decide +kernel) dX1_startRun_19 ?_
    refine vD_cV C (k_X1_sendOut l G cy ad (su x 9 j 2) ((su x 9 j 2) 10 j) ((su x 9 j 2) 8 j)) rfl gX1_startRun_X1_sendOut (nA := 2) (by decide +kernel) rfl (by decide) (by decide) rfl rfl (Nat.le_of_ble_eq_true rfl) dX1_startRun_22 ?_
    refine v_goto C 40 dX1_startRun_25 (by decide) ?_
    have e : fstart x j = fsend (su x 9 j 2) ((su x 9 j 2) 10 j) ((su x 9 j 2) 8 j) := by simp [fstart, su_f, su_s, pif, c1]
    rw [e]
    exact v_vret C dX1_startRun_40
set_option maxHeartbeats 4000000 in
set_option maxRecDepth 100000 in
/-- startRuns() -/
theorem k_X1_startRuns (l : Launch) (G : va_G) (cy : Nat → ClassId) (ad : Nat → Nat) (x : Sg) (n : Nat) (hn : x 1 0 = nI n) (h30 : n ≤ 30) : KV l G cy yX1_startRuns wsX1_startRuns 3 65 0 0 [.ref (ad 0)] (wD cy ad x) (wD cy ad (it sstart n x)) := by
  have hin1 : ∀ q ∈ u_ws RX1 TX1 12, q ∈ wsX1_startRuns := by decide +kernel
  have hin0 : ∀ q ∈ u_ws RX0 TX0 6, q ∈ wsX1_startRuns := by decide +kernel
  refine KV_of (own := RX1) (cc := cX1_startRuns) (maxL := 2) (ret := none) (lo0 := [some (.ref (ad 0)), none]) (by decide) rfl rfl (by simp [Value.category]) (Nat.le_of_ble_eq_true rfl) rfl (fun p e s m args below meth c A _ C => ?_)
  refine v_iconst C (0) dX1_startRuns_0 (by decide) ?_
  refine v_istore_n C dX1_startRuns_1 (by decide) ?_
  refine V.loop (fun k : Nat => wD cy ad (it (sstart) k x)) (fun k : Nat => ([some (.ref (ad 0)), some (.int (nI k))] : List (Option Value))) (fun k : Nat => True) n ?_ trivial
  intro k hle_k hP_k ih_k
  try dsimp only at hP_k ih_k ⊢
  have hn_k : it (sstart) k x 1 0 = nI n := (it_f (fun c y => sstart_f c y (by decide) (by decide) (by decide) (by decide) (by decide)) k x).trans hn
  refine v_iload_n C dX1_startRuns_2 rfl ?_
  refine v_aload_n C dX1_startRuns_3 rfl ?_
  refine vD_g_runCount C hin1 (by decide +kernel) dX1_startRuns_4 ?_
  refine v_geN C k n 42 dX1_startRuns_7 (by decide) rfl hn_k (by omega) (by omega) (fun c1 => ?_) (fun c1 => ?_)
  · -- loop 2 is over
    have e_k : n = k := by omega
    subst e_k
    exact v_vret C dX1_startRuns_42
  · have hk : k < n := c1
    refine v_aload_n C dX1_startRuns_10 rfl ?_
    refine vD_g_rows C hin1 (by decide +kernel) dX1_startRuns_11 ?_
    refine v_iload_n C dX1_startRuns_14 rfl ?_
    refine vD_aald C k rfl (by omega) dX1_startRuns_15 ?_
    refine vR_g_start C hin0 (by omega) (by decide +kernel) dX1_startRuns_16 ?_
    refine v_aload_n C dX1_startRuns_19 rfl ?_
    refine vD_g_minute C hin1 (by decide +kernel) dX1_startRuns_20 ?_
    refine v_icmp_ne C 36 dX1_startRuns_23 (by decide) (fun c2 => ?_) (fun c2 => ?_)
    · -- 23 t: ¬ ((it (sstart) k x) 6 k) = ((it (sstart) k x) 0 0)
      refine v_incN C dX1_startRuns_36 rfl (by decide) ?_
      refine v_goto C 2 dX1_startRuns_39 (by decide) ?_
      have q := ih_k hk trivial
      have e : it (sstart) (k + 1) x = it (sstart) k x := by
        show sstart k (it (sstart) k x) = it (sstart) k x
        simp [sstart, pif, c2]
      rw [e] at q
      exact q
    · -- 23 f: not ¬ ((it (sstart) k x) 6 k) = ((it (sstart) k x) 0 0)
      refine v_aload_n C dX1_startRuns_26 rfl ?_
      refine v_aload_n C dX1_startRuns_27 rfl ?_
      refine vD_g_rows C hin1 (by decide +kernel) dX1_startRuns_28 ?_
      refine v_iload_n C dX1_startRuns_31 rfl ?_
      refine vD_aald C k rfl (by omega) dX1_startRuns_32 ?_
      refine vD_cV C (k_X1_startRun l G cy ad (it (sstart) k x) k (by omega)) rfl gX1_startRuns_X1_startRun (nA := 1) (by decide +kernel) rfl (by decide) (by decide) rfl rfl (Nat.le_of_ble_eq_true rfl) dX1_startRuns_33 ?_
      refine v_incN C dX1_startRuns_36 rfl (by decide) ?_
      refine v_goto C 2 dX1_startRuns_39 (by decide) ?_
      have q := ih_k hk trivial
      have e : it (sstart) (k + 1) x = fstart (it (sstart) k x) k := by
        show sstart k (it (sstart) k x) = fstart (it (sstart) k x) k
        simp [sstart, pif, c2]
      rw [e] at q
      exact q
set_option maxHeartbeats 4000000 in
set_option maxRecDepth 100000 in
/-- passMinute() -/
theorem k_X1_passMinute (l : Launch) (G : va_G) (cy : Nat → ClassId) (ad : Nat → Nat) (x : Sg) (n : Nat) (hn : x 1 0 = nI n) (h30 : n ≤ 30) : KV l G cy yX1_passMinute wsX1_passMinute 4 86 0 0 [.ref (ad 0)] (wD cy ad x) (wD cy ad (fminute n x)) := by
  have hin1 : ∀ q ∈ u_ws RX1 TX1 12, q ∈ wsX1_passMinute := by decide +kernel
  have hn1 : (su (it sload 2 x) 0 0 (it sload 2 x 0 0 + 1)) 1 0 = nI n := by rw [su_f _ _ _ _ (by decide), it_f (fun c y => sload_f c y (by decide))]; exact hn
  have hn2 : (it send_ n (su (it sload 2 x) 0 0 (it sload 2 x 0 0 + 1))) 1 0 = nI n := (it_f (fun c y => send__f c y (by decide)) _ _).trans hn1
  refine KV_of (own := RX1) (cc := cX1_passMinute) (maxL := 1) (ret := none) (lo0 := [some (.ref (ad 0))]) (by decide) rfl rfl (by simp [Value.category]) (Nat.le_of_ble_eq_true rfl) rfl (fun p e s m args below meth c A _ C => ?_)
  refine v_aload_n C dX1_passMinute_0 rfl ?_
  refine vD_cV C (k_X1_loadAtChargers l G cy ad x) rfl gX1_passMinute_X1_loadAtChargers (nA := 0) (by decide +kernel) rfl (by decide) (by decide) rfl rfl (Nat.le_of_ble_eq_true rfl) dX1_passMinute_1 ?_
  refine v_aload_n C dX1_passMinute_4 rfl ?_
  refine v_dup C dX1_passMinute_5 rfl ?_
  refine vD_g_minute C hin1 (by decide +kernel) dX1_passMinute_6 ?_
  refine v_iconst C (1) dX1_passMinute_9 (by decide) ?_
  refine v_iadd C dX1_passMinute_10 ?_
  refine vD_p_minute C hin1 (by decide +kernel) dX1_passMinute_11 ?_
  refine v_aload_n C dX1_passMinute_14 rfl ?_
  refine vD_cV C (k_X1_endRuns l G cy ad (su (it sload 2 x) 0 0 (((it sload 2 x) 0 0) + 1)) n hn1 h30) rfl gX1_passMinute_X1_endRuns (nA := 0) (by decide +kernel) rfl (by decide) (by decide) rfl rfl (Nat.le_of_ble_eq_true rfl) dX1_passMinute_15 ?_
  refine v_aload_n C dX1_passMinute_18 rfl ?_
  refine vD_cV C (k_X1_startRuns l G cy ad (it send_ n (su (it sload 2 x) 0 0 (((it sload 2 x) 0 0) + 1))) n hn2 h30) rfl gX1_passMinute_X1_startRuns (nA := 0) (by decide +kernel) rfl (by decide) (by decide) rfl rfl (Nat.le_of_ble_eq_true rfl) dX1_passMinute_19 ?_
  exact v_vret C dX1_passMinute_22
set_option maxHeartbeats 4000000 in
set_option maxRecDepth 100000 in
/-- takeOrdersFromBus(b) -/
theorem k_X1_takeOrdersFromBus (l : Launch) (G : va_G) (cy : Nat → ClassId) (ad : Nat → Nat) (x : Sg) (n : Nat) (hn : x 1 0 = nI n) (h30 : n ≤ 30) (b : Int32) : KV l G cy yX1_takeOrdersFromBus wsX1_takeOrdersFromBus 1 21 0 0 [.ref (ad 0), .int b] (wD cy ad x) (wD cy ad (it (stakeb b) n x)) := by
  have hin1 : ∀ q ∈ u_ws RX1 TX1 12, q ∈ wsX1_takeOrdersFromBus := by decide +kernel
  have hin0 : ∀ q ∈ u_ws RX0 TX0 6, q ∈ wsX1_takeOrdersFromBus := by decide +kernel
  refine KV_of (own := RX1) (cc := cX1_takeOrdersFromBus) (maxL := 3) (ret := none) (lo0 := [some (.ref (ad 0)), some (.int b), none]) (by decide) rfl rfl (by simp [Value.category]) (Nat.le_of_ble_eq_true rfl) rfl (fun p e s m args below meth c A _ C => ?_)
  refine v_iconst C (0) dX1_takeOrdersFromBus_0 (by decide) ?_
  refine v_istore_n C dX1_takeOrdersFromBus_1 (by decide) ?_
  refine V.loop (fun k : Nat => wD cy ad (it (stakeb b) k x)) (fun k : Nat => ([some (.ref (ad 0)), some (.int b), some (.int (nI k))] : List (Option Value))) (fun k : Nat => True) n ?_ trivial
  intro k hle_k hP_k ih_k
  try dsimp only at hP_k ih_k ⊢
  have hn_k : it (stakeb b) k x 1 0 = nI n := (it_f (fun c y => stakeb_f b c y (by decide) (by decide) (by decide)) k x).trans hn
  refine v_iload_n C dX1_takeOrdersFromBus_2 rfl ?_
  refine v_aload_n C dX1_takeOrdersFromBus_3 rfl ?_
  refine vD_g_runCount C hin1 (by decide +kernel) dX1_takeOrdersFromBus_4 ?_
  refine v_geN C k n 52 dX1_takeOrdersFromBus_7 (by decide) rfl hn_k (by omega) (by omega) (fun c1 => ?_) (fun c1 => ?_)
  · -- loop 2 is over
    have e_k : n = k := by omega
    subst e_k
    exact v_vret C dX1_takeOrdersFromBus_52
  · have hk : k < n := c1
    refine v_aload_n C dX1_takeOrdersFromBus_10 rfl ?_
    refine vD_g_rows C hin1 (by decide +kernel) dX1_takeOrdersFromBus_11 ?_
    refine v_iload_n C dX1_takeOrdersFromBus_14 rfl ?_
    refine vD_aald C k rfl (by omega) dX1_takeOrdersFromBus_15 ?_
    refine vR_g_state C hin0 (by omega) (by decide +kernel) dX1_takeOrdersFromBus_16 ?_
    refine v_iconst C (1) dX1_takeOrdersFromBus_19 (by decide) ?_
    refine v_icmp_ne C 46 dX1_takeOrdersFromBus_20 (by decide) (fun c2 => ?_) (fun c2 => ?_)
    · -- 20 t: ¬ ((it (stakeb b) k x) 9 k) = 1
      refine v_incN C dX1_takeOrdersFromBus_46 rfl (by decide) ?_
      refine v_goto C 2 dX1_takeOrdersFromBus_49 (by decide) ?_
      have q := ih_k hk trivial
      have e : it (stakeb b) (k + 1) x = it (stakeb b) k x := by
        show stakeb b k (it (stakeb b) k x) = it (stakeb b) k x
        simp [stakeb, pif, c2]
      rw [e] at q
      exact q
    · -- 20 f: not ¬ ((it (stakeb b) k x) 9 k) = 1
      refine v_aload_n C dX1_takeOrdersFromBus_23 rfl ?_
      refine vD_g_rows C hin1 (by decide +kernel) dX1_takeOrdersFromBus_24 ?_
      refine v_iload_n C dX1_takeOrdersFromBus_27 rfl ?_
      refine vD_aald C k rfl (by omega) dX1_takeOrdersFromBus_28 ?_
      refine vR_g_bus C hin0 (by omega) (by decide +kernel) dX1_takeOrdersFromBus_29 ?_
      refine v_iload_n C dX1_takeOrdersFromBus_32 rfl ?_
      refine v_icmp_ne C 46 dX1_takeOrdersFromBus_33 (by decide) (fun c3 => ?_) (fun c3 => ?_)
      · -- 33 t: ¬ ((it (stakeb b) k x) 10 k) = b
        refine v_incN C dX1_takeOrdersFromBus_46 rfl (by decide) ?_
        refine v_goto C 2 dX1_takeOrdersFromBus_49 (by decide) ?_
        have q := ih_k hk trivial
        have e : it (stakeb b) (k + 1) x = it (stakeb b) k x := by
          show stakeb b k (it (stakeb b) k x) = it (stakeb b) k x
          simp [stakeb, pif, c2, c3]
        rw [e] at q
        exact q
      · -- 33 f: not ¬ ((it (stakeb b) k x) 10 k) = b
        refine v_aload_n C dX1_takeOrdersFromBus_36 rfl ?_
        refine vD_g_rows C hin1 (by decide +kernel) dX1_takeOrdersFromBus_37 ?_
        refine v_iload_n C dX1_takeOrdersFromBus_40 rfl ?_
        refine vD_aald C k rfl (by omega) dX1_takeOrdersFromBus_41 ?_
        refine v_iconst C (0) dX1_takeOrdersFromBus_42 (by decide) ?_
        refine vR_cV C (by omega) (k_X0_drop l G cy ad (it (stakeb b) k x) k (by omega) 0) rfl gX1_takeOrdersFromBus_X0_drop (nA := 1) (by decide +kernel) rfl (by decide) (by decide) rfl rfl (Nat.le_of_ble_eq_true rfl) dX1_takeOrdersFromBus_43 ?_
        refine v_incN C dX1_takeOrdersFromBus_46 rfl (by decide) ?_
        refine v_goto C 2 dX1_takeOrdersFromBus_49 (by decide) ?_
        have q := ih_k hk trivial
        have e : it (stakeb b) (k + 1) x = fdrop (it (stakeb b) k x) k 0 := by
          show stakeb b k (it (stakeb b) k x) = fdrop (it (stakeb b) k x) k 0
          simp [stakeb, pif, c2, c3]
        rw [e] at q
        exact q
set_option maxHeartbeats 4000000 in
set_option maxRecDepth 100000 in
/-- takeOrdersFromDriver(b) -/
theorem k_X1_takeOrdersFromDriver (l : Launch) (G : va_G) (cy : Nat → ClassId) (ad : Nat → Nat) (x : Sg) (n : Nat) (hn : x 1 0 = nI n) (h30 : n ≤ 30) (b : Int32) : KV l G cy yX1_takeOrdersFromDriver wsX1_takeOrdersFromDriver 1 21 0 0 [.ref (ad 0), .int b] (wD cy ad x) (wD cy ad (it (staked b) n x)) := by
  have hin1 : ∀ q ∈ u_ws RX1 TX1 12, q ∈ wsX1_takeOrdersFromDriver := by decide +kernel
  have hin0 : ∀ q ∈ u_ws RX0 TX0 6, q ∈ wsX1_takeOrdersFromDriver := by decide +kernel
  refine KV_of (own := RX1) (cc := cX1_takeOrdersFromDriver) (maxL := 3) (ret := none) (lo0 := [some (.ref (ad 0)), some (.int b), none]) (by decide) rfl rfl (by simp [Value.category]) (Nat.le_of_ble_eq_true rfl) rfl (fun p e s m args below meth c A _ C => ?_)
  refine v_iconst C (0) dX1_takeOrdersFromDriver_0 (by decide) ?_
  refine v_istore_n C dX1_takeOrdersFromDriver_1 (by decide) ?_
  refine V.loop (fun k : Nat => wD cy ad (it (staked b) k x)) (fun k : Nat => ([some (.ref (ad 0)), some (.int b), some (.int (nI k))] : List (Option Value))) (fun k : Nat => True) n ?_ trivial
  intro k hle_k hP_k ih_k
  try dsimp only at hP_k ih_k ⊢
  have hn_k : it (staked b) k x 1 0 = nI n := (it_f (fun c y => staked_f b c y (by decide) (by decide) (by decide)) k x).trans hn
  refine v_iload_n C dX1_takeOrdersFromDriver_2 rfl ?_
  refine v_aload_n C dX1_takeOrdersFromDriver_3 rfl ?_
  refine vD_g_runCount C hin1 (by decide +kernel) dX1_takeOrdersFromDriver_4 ?_
  refine v_geN C k n 52 dX1_takeOrdersFromDriver_7 (by decide) rfl hn_k (by omega) (by omega) (fun c1 => ?_) (fun c1 => ?_)
  · -- loop 2 is over
    have e_k : n = k := by omega
    subst e_k
    exact v_vret C dX1_takeOrdersFromDriver_52
  · have hk : k < n := c1
    refine v_aload_n C dX1_takeOrdersFromDriver_10 rfl ?_
    refine vD_g_rows C hin1 (by decide +kernel) dX1_takeOrdersFromDriver_11 ?_
    refine v_iload_n C dX1_takeOrdersFromDriver_14 rfl ?_
    refine vD_aald C k rfl (by omega) dX1_takeOrdersFromDriver_15 ?_
    refine vR_g_state C hin0 (by omega) (by decide +kernel) dX1_takeOrdersFromDriver_16 ?_
    refine v_iconst C (1) dX1_takeOrdersFromDriver_19 (by decide) ?_
    refine v_icmp_ne C 46 dX1_takeOrdersFromDriver_20 (by decide) (fun c2 => ?_) (fun c2 => ?_)
    · -- 20 t: ¬ ((it (staked b) k x) 9 k) = 1
      refine v_incN C dX1_takeOrdersFromDriver_46 rfl (by decide) ?_
      refine v_goto C 2 dX1_takeOrdersFromDriver_49 (by decide) ?_
      have q := ih_k hk trivial
      have e : it (staked b) (k + 1) x = it (staked b) k x := by
        show staked b k (it (staked b) k x) = it (staked b) k x
        simp [staked, pif, c2]
      rw [e] at q
      exact q
    · -- 20 f: not ¬ ((it (staked b) k x) 9 k) = 1
      refine v_aload_n C dX1_takeOrdersFromDriver_23 rfl ?_
      refine vD_g_rows C hin1 (by decide +kernel) dX1_takeOrdersFromDriver_24 ?_
      refine v_iload_n C dX1_takeOrdersFromDriver_27 rfl ?_
      refine vD_aald C k rfl (by omega) dX1_takeOrdersFromDriver_28 ?_
      refine vR_g_driver C hin0 (by omega) (by decide +kernel) dX1_takeOrdersFromDriver_29 ?_
      refine v_iload_n C dX1_takeOrdersFromDriver_32 rfl ?_
      refine v_icmp_ne C 46 dX1_takeOrdersFromDriver_33 (by decide) (fun c3 => ?_) (fun c3 => ?_)
      · -- 33 t: ¬ ((it (staked b) k x) 11 k) = b
        refine v_incN C dX1_takeOrdersFromDriver_46 rfl (by decide) ?_
        refine v_goto C 2 dX1_takeOrdersFromDriver_49 (by decide) ?_
        have q := ih_k hk trivial
        have e : it (staked b) (k + 1) x = it (staked b) k x := by
          show staked b k (it (staked b) k x) = it (staked b) k x
          simp [staked, pif, c2, c3]
        rw [e] at q
        exact q
      · -- 33 f: not ¬ ((it (staked b) k x) 11 k) = b
        refine v_aload_n C dX1_takeOrdersFromDriver_36 rfl ?_
        refine vD_g_rows C hin1 (by decide +kernel) dX1_takeOrdersFromDriver_37 ?_
        refine v_iload_n C dX1_takeOrdersFromDriver_40 rfl ?_
        refine vD_aald C k rfl (by omega) dX1_takeOrdersFromDriver_41 ?_
        refine v_iconst C (0) dX1_takeOrdersFromDriver_42 (by decide) ?_
        refine vR_cV C (by omega) (k_X0_drop l G cy ad (it (staked b) k x) k (by omega) 0) rfl gX1_takeOrdersFromDriver_X0_drop (nA := 1) (by decide +kernel) rfl (by decide) (by decide) rfl rfl (Nat.le_of_ble_eq_true rfl) dX1_takeOrdersFromDriver_43 ?_
        refine v_incN C dX1_takeOrdersFromDriver_46 rfl (by decide) ?_
        refine v_goto C 2 dX1_takeOrdersFromDriver_49 (by decide) ?_
        have q := ih_k hk trivial
        have e : it (staked b) (k + 1) x = fdrop (it (staked b) k x) k 0 := by
          show staked b k (it (staked b) k x) = fdrop (it (staked b) k x) k 0
          simp [staked, pif, c2, c3]
        rw [e] at q
        exact q
end
section
/-! DepotLog: what is fit, and swaps -/
set_option maxHeartbeats 4000000 in
set_option maxRecDepth 100000 in
/-- isBusFit(b, r) -/
theorem k_X1_isBusFit (l : Launch) (G : va_G) (cy : Nat → ClassId) (ad : Nat → Nat) (x : Sg) (n : Nat) (hn : x 1 0 = nI n) (h30 : n ≤ 30) (b : Nat) (hb : b < 5) (r : Nat) (hr : r < 30) : KI l G cy yX1_isBusFit wsX1_isBusFit 1 23 0 0 [.ref (ad 0), .int (nI b), .ref (ad (r + 8))] (wD cy ad x) (b2i (busfit n x b r)) (wD cy ad x) := by
  have hin1 : ∀ q ∈ u_ws RX1 TX1 12, q ∈ wsX1_isBusFit := by decide +kernel
  have hin0 : ∀ q ∈ u_ws RX0 TX0 6, q ∈ wsX1_isBusFit := by decide +kernel
  refine KI_of (own := RX1) (cc := cX1_isBusFit) (maxL := 4) (ret := (some .boolean)) (lo0 := [some (.ref (ad 0)), some (.int (nI b)), some (.ref (ad (r + 8))), none]) (by decide) rfl rfl (by simp [Value.category]) (Nat.le_of_ble_eq_true rfl) rfl (fun p e s m args below meth c A C => ?_)
  refine v_aload_n C dX1_isBusFit_0 rfl ?_
  refine vD_g_broken C hin1 (by decide +kernel) dX1_isBusFit_1 ?_
  refine v_iload_n C dX1_isBusFit_4 rfl ?_
  refine vD_l_broken C b rfl (by omega) dX1_isBusFit_5 ?_
  refine v_if_ne C 28 dX1_isBusFit_6 (by decide) (fun c1 => ?_) (fun c1 => ?_)
  · -- 6 t: ¬ (x 13 b) = 0
    refine v_iconst C (0) dX1_isBusFit_28 (by decide) ?_
    refine v_zret C rfl dX1_isBusFit_29 ?_
    exact (b2i_f (fun h => c1 h.1)).symm
  · -- 6 f: not ¬ (x 13 b) = 0
    refine v_aload_n C dX1_isBusFit_9 rfl ?_
    refine vD_g_charges C hin1 (by decide +kernel) dX1_isBusFit_10 ?_
    refine v_iload_n C dX1_isBusFit_13 rfl ?_
    refine vD_l_charges C b rfl (by omega) dX1_isBusFit_14 ?_
    refine v_aload_n C dX1_isBusFit_15 rfl ?_
    refine v_iload_n C dX1_isBusFit_16 rfl ?_
    refine vD_cI C (k_X1_promisedCharge l G cy ad x n hn h30 (nI b)) rfl gX1_isBusFit_X1_promisedCharge (nA := 1) (by decide +kernel) rfl (by decide) (by decide) rfl rfl (Nat.le_of_ble_eq_true rfl) dX1_isBusFit_17 ?_
    refine v_isub C dX1_isBusFit_20 ?_
    refine v_aload_n C dX1_isBusFit_21 rfl ?_
    refine vR_g_need C hin0 (by omega) (by decide +kernel) dX1_isBusFit_22 ?_
    refine v_icmp_ge C 30 dX1_isBusFit_25 (by decide) (fun c2 => ?_) (fun c2 => ?_)
    · -- 25 t: ¬ ((x 12 b) - (fprom n x (nI b))) < (x 8 r)
      refine v_iconst C (0) dX1_isBusFit_30 (by decide) ?_
      refine v_istore_n C dX1_isBusFit_31 (by decide) ?_
      refine V.loop (fun k : Nat => wD cy ad x) (fun k : Nat => ([some (.ref (ad 0)), some (.int (nI b)), some (.ref (ad (r + 8))), some (.int (nI k))] : List (Option Value))) (fun k : Nat => ∀ q, q < k → ¬ (holds x q (nI b) ∧ meets x q r)) n ?_ lt_0
      intro k hle_k hP_k ih_k
      try dsimp only at hP_k ih_k ⊢
      refine v_iload_n C dX1_isBusFit_32 rfl ?_
      refine v_aload_n C dX1_isBusFit_33 rfl ?_
      refine vD_g_runCount C hin1 (by decide +kernel) dX1_isBusFit_34 ?_
      refine v_geN C k n 74 dX1_isBusFit_37 (by decide) rfl hn (by omega) (by omega) (fun c3 => ?_) (fun c3 => ?_)
      · -- loop 32 is over
        have e_k : n = k := by omega
        subst e_k
        refine v_iconst C (1) dX1_isBusFit_74 (by decide) ?_
        refine v_zret C rfl dX1_isBusFit_75 ?_
        exact (b2i_t ⟨c1, c2, hP_k⟩).symm
      · have hk : k < n := c3
        refine v_aload_n C dX1_isBusFit_40 rfl ?_
        refine vD_g_rows C hin1 (by decide +kernel) dX1_isBusFit_41 ?_
        refine v_iload_n C dX1_isBusFit_44 rfl ?_
        refine vD_aald C k rfl (by omega) dX1_isBusFit_45 ?_
        refine v_iload_n C dX1_isBusFit_46 rfl ?_
        refine vR_cI C (by omega) (k_X0_holds l G cy ad x k (by omega) (nI b)) rfl gX1_isBusFit_X0_holds (nA := 1) (by decide +kernel) rfl (by decide) (by decide) rfl rfl (Nat.le_of_ble_eq_true rfl) dX1_isBusFit_47 ?_
        refine v_if_eq C 68 dX1_isBusFit_50 (by decide) (fun c4 => ?_) (fun c4 => ?_)
        · -- 50 t: (b2i (holds x k (nI b))) = 0
          replace c4 := b2i_0.mp c4
          refine v_incN C dX1_isBusFit_68 rfl (by decide) ?_
          refine v_goto C 32 dX1_isBusFit_71 (by decide) ?_
          refine ih_k hk (lt_s hP_k ?_)
          simp [c1, c2, c4]
        · -- 50 f: not (b2i (holds x k (nI b))) = 0
          replace c4 := Classical.not_not.mp (fun z => c4 (b2i_0.mpr z))
          refine v_aload_n C dX1_isBusFit_53 rfl ?_
          refine vD_g_rows C hin1 (by decide +kernel) dX1_isBusFit_54 ?_
          refine v_iload_n C dX1_isBusFit_57 rfl ?_
          refine vD_aald C k rfl (by omega) dX1_isBusFit_58 ?_
          refine v_aload_n C dX1_isBusFit_59 rfl ?_
          refine vR_cI C (by omega) (k_X0_meets l G cy ad x k (by omega) r (by omega)) rfl gX1_isBusFit_X0_meets (nA := 1) (by decide +kernel) rfl (by decide) (by decide) rfl rfl (Nat.le_of_ble_eq_true rfl) dX1_isBusFit_60 ?_
          refine v_if_eq C 68 dX1_isBusFit_63 (by decide) (fun c5 => ?_) (fun c5 => ?_)
          · -- 63 t: (b2i (meets x k r)) = 0
            replace c5 := b2i_0.mp c5
            refine v_incN C dX1_isBusFit_68 rfl (by decide) ?_
            refine v_goto C 32 dX1_isBusFit_71 (by decide) ?_
            refine ih_k hk (lt_s hP_k ?_)
            simp [c1, c2, c4, c5]
          · -- 63 f: not (b2i (meets x k r)) = 0
            replace c5 := Classical.not_not.mp (fun z => c5 (b2i_0.mpr z))
            refine v_iconst C (0) dX1_isBusFit_66 (by decide) ?_
            refine v_zret C rfl dX1_isBusFit_67 ?_
            exact (b2i_f (fun h => h.2.2 k hk ⟨c4, c5⟩)).symm
    · -- 25 f: not ¬ ((x 12 b) - (fprom n x (nI b))) < (x 8 r)
      refine v_iconst C (0) dX1_isBusFit_28 (by decide) ?_
      refine v_zret C rfl dX1_isBusFit_29 ?_
      exact (b2i_f (fun h => h.2.1 c2)).symm
set_option maxHeartbeats 4000000 in
set_option maxRecDepth 100000 in
/-- isDriverFit(d, r) -/
theorem k_X1_isDriverFit (l : Launch) (G : va_G) (cy : Nat → ClassId) (ad : Nat → Nat) (x : Sg) (n : Nat) (hn : x 1 0 = nI n) (h30 : n ≤ 30) (d : Nat) (hd5 : d < 5) (r : Nat) (hr : r < 30) : KI l G cy yX1_isDriverFit wsX1_isDriverFit 3 66 0 0 [.ref (ad 0), .int (nI d), .ref (ad (r + 8))] (wD cy ad x) (b2i (drvfit n x d r)) (wD cy ad x) := by
  have hin1 : ∀ q ∈ u_ws RX1 TX1 12, q ∈ wsX1_isDriverFit := by decide +kernel
  refine KI_of (own := RX1) (cc := cX1_isDriverFit) (maxL := 5) (ret := (some .boolean)) (lo0 := [some (.ref (ad 0)), some (.int (nI d)), some (.ref (ad (r + 8))), none, none]) (by decide) rfl rfl (by simp [Value.category]) (Nat.le_of_ble_eq_true rfl) rfl (fun p e s m args below meth c A C => ?_)
  refine v_aload_n C dX1_isDriverFit_0 rfl ?_
  refine vR_cI C (by omega) (k_X0_startDay l G cy ad x r (by omega)) rfl gX1_isDriverFit_X0_startDay (nA := 0) (by decide +kernel) rfl (by decide) (by decide) rfl rfl (Nat.le_of_ble_eq_true rfl) dX1_isDriverFit_1 ?_
  refine v_istore_n C dX1_isDriverFit_4 (by decide) ?_
  refine v_aload_n C dX1_isDriverFit_5 rfl ?_
  refine vD_g_ill C hin1 (by decide +kernel) dX1_isDriverFit_6 ?_
  refine v_iload_n C dX1_isDriverFit_9 rfl ?_
  refine vD_l_ill C d rfl (by omega) dX1_isDriverFit_10 ?_
  refine v_if_ne C 31 dX1_isDriverFit_11 (by decide) (fun c1 => ?_) (fun c1 => ?_)
  · -- 11 t: ¬ (x 14 d) = 0
    refine v_iconst C (0) dX1_isDriverFit_31 (by decide) ?_
    refine v_zret C rfl dX1_isDriverFit_32 ?_
    exact (b2i_f (fun h => c1 h.1)).symm
  · -- 11 f: not ¬ (x 14 d) = 0
    refine v_aload_n C dX1_isDriverFit_14 rfl ?_
    refine v_iload_n C dX1_isDriverFit_15 rfl ?_
    refine v_iload_n C dX1_isDriverFit_16 rfl ?_
    refine vD_cI C (k_X1_workedMinutes l G cy ad x n hn h30 (nI d) (x 6 r / 1440)) rfl gX1_isDriverFit_X1_workedMinutes (nA := 2) (by decide +kernel) rfl (by decide) (by decide) rfl rfl (Nat.le_of_ble_eq_true rfl) dX1_isDriverFit_17 ?_
    refine v_aload_n C dX1_isDriverFit_20 rfl ?_
    refine vR_cI C (by omega) (k_X0_length l G cy ad x r (by omega)) rfl gX1_isDriverFit_X0_length (nA := 0) (by decide +kernel) rfl (by decide) (by decide) rfl rfl (Nat.le_of_ble_eq_true rfl) dX1_isDriverFit_21 ?_
    refine v_iadd C dX1_isDriverFit_24 ?_
    refine v_sipush C (480) dX1_isDriverFit_25 (by decide) ?_
    refine v_icmp_le C 33 dX1_isDriverFit_28 (by decide) (fun c2 => ?_) (fun c2 => ?_)
    · -- 28 t: ¬ 480 < ((fwork n x (nI d) (x 6 r / 1440)) + (x 7 r - x 6 r))
      refine v_iconst C (0) dX1_isDriverFit_33 (by decide) ?_
      refine v_istore C dX1_isDriverFit_34 (by decide) ?_
      refine V.loop (fun k : Nat => wD cy ad x) (fun k : Nat => ([some (.ref (ad 0)), some (.int (nI d)), some (.ref (ad (r + 8))), some (.int (x 6 r / 1440)), some (.int (nI k))] : List (Option Value))) (fun k : Nat => ∀ q, q < k → ¬ (works x q (nI d) (x 6 r / 1440) ∧ ¬ rested x q r)) n ?_ lt_0
      intro k hle_k hP_k ih_k
      try dsimp only at hP_k ih_k ⊢
      refine v_iload C dX1_isDriverFit_36 rfl ?_
      refine v_aload_n C dX1_isDriverFit_38 rfl ?_
      refine vD_g_runCount C hin1 (by decide +kernel) dX1_isDriverFit_39 ?_
      refine v_geN C k n 82 dX1_isDriverFit_42 (by decide) rfl hn (by omega) (by omega) (fun c3 => ?_) (fun c3 => ?_)
      · -- loop 36 is over
        have e_k : n = k := by omega
        subst e_k
        refine v_iconst C (1) dX1_isDriverFit_82 (by decide) ?_
        refine v_zret C rfl dX1_isDriverFit_83 ?_
        exact (b2i_t ⟨c1, c2, hP_k⟩).symm
      · have hk : k < n := c3
        refine v_aload_n C dX1_isDriverFit_45 rfl ?_
        refine vD_g_rows C hin1 (by decide +kernel) dX1_isDriverFit_46 ?_
        refine v_iload C dX1_isDriverFit_49 rfl ?_
        refine vD_aald C k rfl (by omega) dX1_isDriverFit_51 ?_
        refine v_iload_n C dX1_isDriverFit_52 rfl ?_
        refine v_iload_n C dX1_isDriverFit_53 rfl ?_
        refine vR_cI C (by omega) (k_X0_isWorkOf l G cy ad x k (by omega) (nI d) (x 6 r / 1440)) rfl gX1_isDriverFit_X0_isWorkOf (nA := 2) (by decide +kernel) rfl (by decide) (by decide) rfl rfl (Nat.le_of_ble_eq_true rfl) dX1_isDriverFit_54 ?_
        refine v_if_eq C 76 dX1_isDriverFit_57 (by decide) (fun c4 => ?_) (fun c4 => ?_)
        · -- 57 t: (b2i (works x k (nI d) (x 6 r / 1440))) = 0
          replace c4 := b2i_0.mp c4
          refine v_incN C dX1_isDriverFit_76 rfl (by decide) ?_
          refine v_goto C 36 dX1_isDriverFit_79 (by decide) ?_
          refine ih_k hk (lt_s hP_k ?_)
          simp [c1, c2, c4]
        · -- 57 f: not (b2i (works x k (nI d) (x 6 r / 1440))) = 0
          replace c4 := Classical.not_not.mp (fun z => c4 (b2i_0.mpr z))
          refine v_aload_n C dX1_isDriverFit_60 rfl ?_
          refine vD_g_rows C hin1 (by decide +kernel) dX1_isDriverFit_61 ?_
          refine v_iload C dX1_isDriverFit_64 rfl ?_
          refine vD_aald C k rfl (by omega) dX1_isDriverFit_66 ?_
          refine v_aload_n C dX1_isDriverFit_67 rfl ?_
          refine vR_cI C (by omega) (k_X0_isRestedFrom l G cy ad x k (by omega) r (by omega)) rfl gX1_isDriverFit_X0_isRestedFrom (nA := 1) (by decide +kernel) rfl (by decide) (by decide) rfl rfl (Nat.le_of_ble_eq_true rfl) dX1_isDriverFit_68 ?_
          refine v_if_ne C 76 dX1_isDriverFit_71 (by decide) (fun c5 => ?_) (fun c5 => ?_)
          · -- 71 t: ¬ (b2i (rested x k r)) = 0
            replace c5 := Classical.not_not.mp (fun z => c5 (b2i_0.mpr z))
            refine v_incN C dX1_isDriverFit_76 rfl (by decide) ?_
            refine v_goto C 36 dX1_isDriverFit_79 (by decide) ?_
            refine ih_k hk (lt_s hP_k ?_)
            simp [c1, c2, c4, c5]
          · -- 71 f: not ¬ (b2i (rested x k r)) = 0
            replace c5 := b2i_0.mp c5
            refine v_iconst C (0) dX1_isDriverFit_74 (by decide) ?_
            refine v_zret C rfl dX1_isDriverFit_75 ?_
            exact (b2i_f (fun h => h.2.2 k hk ⟨c4, c5⟩)).symm
    · -- 28 f: not ¬ 480 < ((fwork n x (nI d) (x 6 r / 1440)) + (x 7 r - x 6 r))
      refine v_iconst C (0) dX1_isDriverFit_31 (by decide) ?_
      refine v_zret C rfl dX1_isDriverFit_32 ?_
      exact (b2i_f (fun h => h.2.1 c2)).symm
set_option maxHeartbeats 4000000 in
set_option maxRecDepth 100000 in
/-- lowestFitBus(r) -/
theorem k_X1_lowestFitBus (l : Launch) (G : va_G) (cy : Nat → ClassId) (ad : Nat → Nat) (x : Sg) (n : Nat) (hn : x 1 0 = nI n) (h30 : n ≤ 30) (r : Nat) (hr : r < 30) : KI l G cy yX1_lowestFitBus wsX1_lowestFitBus 2 46 0 0 [.ref (ad 0), .ref (ad (r + 8))] (wD cy ad x) (lowbus n x r) (wD cy ad x) := by
  refine KI_of (own := RX1) (cc := cX1_lowestFitBus) (maxL := 3) (ret := (some .int)) (lo0 := [some (.ref (ad 0)), some (.ref (ad (r + 8))), none]) (by decide) rfl rfl (by simp [Value.category]) (Nat.le_of_ble_eq_true rfl) rfl (fun p e s m args below meth c A C => ?_)
  refine v_iconst C (0) dX1_lowestFitBus_0 (by decide) ?_
  refine v_istore_n C dX1_lowestFitBus_1 (by decide) ?_
  refine V.loop (fun k : Nat => wD cy ad x) (fun k : Nat => ([some (.ref (ad 0)), some (.ref (ad (r + 8))), some (.int (nI k))] : List (Option Value))) (fun k : Nat => lowbus n x r = lowF (fun b => busfit n x b r) (5 - k) k) 5 ?_ rfl
  intro k hle_k hP_k ih_k
  try dsimp only at hP_k ih_k ⊢
  refine v_iload_n C dX1_lowestFitBus_2 rfl ?_
  refine v_iconst C (5) dX1_lowestFitBus_3 (by decide) ?_
  refine v_geN C k 5 24 dX1_lowestFitBus_4 (by decide) rfl rfl (by omega) (by omega) (fun c1 => ?_) (fun c1 => ?_)
  · -- loop 2 is over
    have e_k : 5 = k := by omega
    subst e_k
    refine v_iconst C (-1) dX1_lowestFitBus_24 (by decide) ?_
    refine v_iret C dX1_lowestFitBus_25 ?_
    exact hP_k.symm
  · have hk : k < 5 := c1
    refine v_aload_n C dX1_lowestFitBus_7 rfl ?_
    refine v_iload_n C dX1_lowestFitBus_8 rfl ?_
    refine v_aload_n C dX1_lowestFitBus_9 rfl ?_
    refine vD_cI C (k_X1_isBusFit l G cy ad x n hn h30 k (by omega) r (by omega)) rfl gX1_lowestFitBus_X1_isBusFit (nA := 2) (by decide +kernel) rfl (by decide) (by decide) rfl rfl (Nat.le_of_ble_eq_true rfl) dX1_lowestFitBus_10 ?_
    refine v_if_eq C 18 dX1_lowestFitBus_13 (by decide) (fun c2 => ?_) (fun c2 => ?_)
    · -- 13 t: (b2i (busfit n x k r)) = 0
      replace c2 := b2i_0.mp c2
      refine v_incN C dX1_lowestFitBus_18 rfl (by decide) ?_
      refine v_goto C 2 dX1_lowestFitBus_21 (by decide) ?_
      refine ih_k hk (hP_k.trans ((lowF_s hk).trans (pif_f c2)))
    · -- 13 f: not (b2i (busfit n x k r)) = 0
      replace c2 := Classical.not_not.mp (fun z => c2 (b2i_0.mpr z))
      refine v_iload_n C dX1_lowestFitBus_16 rfl ?_
      refine v_iret C dX1_lowestFitBus_17 ?_
      exact (hP_k.trans ((lowF_s hk).trans (pif_t c2))).symm
set_option maxHeartbeats 4000000 in
set_option maxRecDepth 100000 in
/-- lowestFitDriver(r) -/
theorem k_X1_lowestFitDriver (l : Launch) (G : va_G) (cy : Nat → ClassId) (ad : Nat → Nat) (x : Sg) (n : Nat) (hn : x 1 0 = nI n) (h30 : n ≤ 30) (r : Nat) (hr : r < 30) : KI l G cy yX1_lowestFitDriver wsX1_lowestFitDriver 4 90 0 0 [.ref (ad 0), .ref (ad (r + 8))] (wD cy ad x) (lowdrv n x r) (wD cy ad x) := by
  refine KI_of (own := RX1) (cc := cX1_lowestFitDriver) (maxL := 3) (ret := (some .int)) (lo0 := [some (.ref (ad 0)), some (.ref (ad (r + 8))), none]) (by decide) rfl rfl (by simp [Value.category]) (Nat.le_of_ble_eq_true rfl) rfl (fun p e s m args below meth c A C => ?_)
  refine v_iconst C (0) dX1_lowestFitDriver_0 (by decide) ?_
  refine v_istore_n C dX1_lowestFitDriver_1 (by decide) ?_
  refine V.loop (fun k : Nat => wD cy ad x) (fun k : Nat => ([some (.ref (ad 0)), some (.ref (ad (r + 8))), some (.int (nI k))] : List (Option Value))) (fun k : Nat => lowdrv n x r = lowF (fun b => drvfit n x b r) (5 - k) k) 5 ?_ rfl
  intro k hle_k hP_k ih_k
  try dsimp only at hP_k ih_k ⊢
  refine v_iload_n C dX1_lowestFitDriver_2 rfl ?_
  refine v_iconst C (5) dX1_lowestFitDriver_3 (by decide) ?_
  refine v_geN C k 5 24 dX1_lowestFitDriver_4 (by decide) rfl rfl (by omega) (by omega) (fun c1 => ?_) (fun c1 => ?_)
  · -- loop 2 is over
    have e_k : 5 = k := by omega
    subst e_k
    refine v_iconst C (-1) dX1_lowestFitDriver_24 (by decide) ?_
    refine v_iret C dX1_lowestFitDriver_25 ?_
    exact hP_k.symm
  · have hk : k < 5 := c1
    refine v_aload_n C dX1_lowestFitDriver_7 rfl ?_
    refine v_iload_n C dX1_lowestFitDriver_8 rfl ?_
    refine v_aload_n C dX1_lowestFitDriver_9 rfl ?_
    refine vD_cI C (k_X1_isDriverFit l G cy ad x n hn h30 k (by omega) r (by omega)) rfl gX1_lowestFitDriver_X1_isDriverFit (nA := 2) (by decide +kernel) rfl (by decide) (by decide) rfl rfl (Nat.le_of_ble_eq_true rfl) dX1_lowestFitDriver_10 ?_
    refine v_if_eq C 18 dX1_lowestFitDriver_13 (by decide) (fun c2 => ?_) (fun c2 => ?_)
    · -- 13 t: (b2i (drvfit n x k r)) = 0
      replace c2 := b2i_0.mp c2
      refine v_incN C dX1_lowestFitDriver_18 rfl (by decide) ?_
      refine v_goto C 2 dX1_lowestFitDriver_21 (by decide) ?_
      refine ih_k hk (hP_k.trans ((lowF_s hk).trans (pif_f c2)))
    · -- 13 f: not (b2i (drvfit n x k r)) = 0
      replace c2 := Classical.not_not.mp (fun z => c2 (b2i_0.mpr z))
      refine v_iload_n C dX1_lowestFitDriver_16 rfl ?_
      refine v_iret C dX1_lowestFitDriver_17 ?_
      exact (hP_k.trans ((lowF_s hk).trans (pif_t c2))).symm
set_option maxHeartbeats 4000000 in
set_option maxRecDepth 100000 in
/-- giveOtherBus(r) -/
theorem k_X1_giveOtherBus (l : Launch) (G : va_G) (cy : Nat → ClassId) (ad : Nat → Nat) (x : Sg) (n : Nat) (hn : x 1 0 = nI n) (h30 : n ≤ 30) (r : Nat) (hr : r < 30) : KV l G cy yX1_giveOtherBus wsX1_giveOtherBus 3 68 0 0 [.ref (ad 0), .ref (ad (r + 8))] (wD cy ad x) (wD cy ad (fgiveb n x r)) := by
  have hin0 : ∀ q ∈ u_ws RX0 TX0 6, q ∈ wsX1_giveOtherBus := by decide +kernel
  have hn1 : (su x 10 r (-1)) 1 0 = nI n := by rw [su_f _ _ _ _ (by decide)]; exact hn
  refine KV_of (own := RX1) (cc := cX1_giveOtherBus) (maxL := 3) (ret := none) (lo0 := [some (.ref (ad 0)), some (.ref (ad (r + 8))), none]) (by decide) rfl rfl (by simp [Value.category]) (Nat.le_of_ble_eq_true rfl) rfl (fun p e s m args below meth c A _ C => ?_)
  refine v_aload_n C dX1_giveOtherBus_0 rfl ?_
  refine v_iconst C (-1) dX1_giveOtherBus_1 (by decide) ?_
  refine vR_p_bus C hin0 (by omega) (by decide +kernel) dX1_giveOtherBus_2 ?_
  refine v_aload_n C dX1_giveOtherBus_5 rfl ?_
  refine v_aload_n C dX1_giveOtherBus_6 rfl ?_
  refine vD_cI C (k_X1_lowestFitBus l G cy ad (su x 10 r (-1)) n hn1 h30 r (by omega)) rfl gX1_giveOtherBus_X1_lowestFitBus (nA := 1) (by decide +kernel) rfl (by decide) (by decide) rfl rfl (Nat.le_of_ble_eq_true rfl) dX1_giveOtherBus_7 ?_
  refine v_istore_n C dX1_giveOtherBus_10 (by decide) ?_
  refine v_iload_n C dX1_giveOtherBus_11 rfl ?_
  refine v_iconst C (-1) dX1_giveOtherBus_12 (by decide) ?_
  refine v_icmp_ne C 24 dX1_giveOtherBus_13 (by decide) (fun c1 => ?_) (fun c1 => ?_)
  · -- 13 t: ¬ (lowbus n (su x 10 r (-1)) r) = (-1)
    refine v_aload_n C dX1_giveOtherBus_24 rfl ?_
    refine v_iload_n C dX1_giveOtherBus_25 rfl ?_
    refine vR_p_bus C hin0 (by omega) (by decide +kernel) dX1_giveOtherBus_26 ?_
    refine v_aload_n C dX1_giveOtherBus_29 rfl ?_
    refine v_iload_n C dX1_giveOtherBus_30 rfl ?_
    refine v_aload_n C dX1_giveOtherBus_31 rfl ?_
    refine vR_g_need C hin0 (by omega) (by decide +kernel) dX1_giveOtherBus_32 ?_
    refine vD_cV C (k_X1_sendOut l G cy ad (su (su x 10 r (-1)) 10 r (lowbus n (su x 10 r (-1)) r)) (lowbus n (su x 10 r (-1)) r) ((su (su x 10 r (-1)) 10 r (lowbus n (su x 10 r (-1)) r)) 8 r)) rfl gX1_giveOtherBus_X1_sendOut (nA := 2) (by decide +kernel) rfl (by decide) (by decide) rfl rfl (Nat.le_of_ble_eq_true rfl) dX1_giveOtherBus_35 ?_
    have e : fgiveb n x r = fsend (su (su x 10 r (-1)) 10 r (lowbus n (su x 10 r (-1)) r)) (lowbus n (su x 10 r (-1)) r) ((su (su x 10 r (-1)) 10 r (lowbus n (su x 10 r (-1)) r)) 8 r) := by simp [fgiveb, su_f, su_s, pif, c1]
    rw [e]
    exact v_vret C dX1_giveOtherBus_38
  · -- 13 f: not ¬ (lowbus n (su x 10 r (-1)) r) = (-1)
    refine v_aload_n C dX1_giveOtherBus_16 rfl ?_
    refine v_iconst C (4) dX1_giveOtherBus_17 (by decide) ?_
    refine vR_cV C (by omega) (k_X0_drop l G cy ad (su x 10 r (-1)) r (by omega) 4) rfl gX1_giveOtherBus_X0_drop (nA := 1) (by decide +kernel) rfl (by decide) (by decide) rfl rfl (Nat.le_of_ble_eq_true rfl) dX1_giveOtherBus_18 ?_
    refine v_goto C 38 dX1_giveOtherBus_21 (by decide) ?_
    have e : fgiveb n x r = fdrop (su x 10 r (-1)) r 4 := by simp [fgiveb, su_f, su_s, pif, c1]
    rw [e]
    exact v_vret C dX1_giveOtherBus_38
set_option maxHeartbeats 4000000 in
set_option maxRecDepth 100000 in
/-- giveOtherDriver(r) -/
theorem k_X1_giveOtherDriver (l : Launch) (G : va_G) (cy : Nat → ClassId) (ad : Nat → Nat) (x : Sg) (n : Nat) (hn : x 1 0 = nI n) (h30 : n ≤ 30) (r : Nat) (hr : r < 30) : KV l G cy yX1_giveOtherDriver wsX1_giveOtherDriver 5 112 0 0 [.ref (ad 0), .ref (ad (r + 8))] (wD cy ad x) (wD cy ad (fgived n x r)) := by
  have hin0 : ∀ q ∈ u_ws RX0 TX0 6, q ∈ wsX1_giveOtherDriver := by decide +kernel
  have hn1 : (su x 11 r (-1)) 1 0 = nI n := by rw [su_f _ _ _ _ (by decide)]; exact hn
  refine KV_of (own := RX1) (cc := cX1_giveOtherDriver) (maxL := 3) (ret := none) (lo0 := [some (.ref (ad 0)), some (.ref (ad (r + 8))), none]) (by decide) rfl rfl (by simp [Value.category]) (Nat.le_of_ble_eq_true rfl) rfl (fun p e s m args below meth c A _ C => ?_)
  refine v_aload_n C dX1_giveOtherDriver_0 rfl ?_
  refine v_iconst C (-1) dX1_giveOtherDriver_1 (by decide) ?_
  refine vR_p_driver C hin0 (by omega) (by decide +kernel) dX1_giveOtherDriver_2 ?_
  refine v_aload_n C dX1_giveOtherDriver_5 rfl ?_
  refine v_aload_n C dX1_giveOtherDriver_6 rfl ?_
  refine vD_cI C (k_X1_lowestFitDriver l G cy ad (su x 11 r (-1)) n hn1 h30 r (by omega)) rfl gX1_giveOtherDriver_X1_lowestFitDriver (nA := 1) (by decide +kernel) rfl (by decide) (by decide) rfl rfl (Nat.le_of_ble_eq_true rfl) dX1_giveOtherDriver_7 ?_
  refine v_istore_n C dX1_giveOtherDriver_10 (by decide) ?_
  refine v_iload_n C dX1_giveOtherDriver_11 rfl ?_
  refine v_iconst C (-1) dX1_giveOtherDriver_12 (by decide) ?_
  refine v_icmp_ne C 24 dX1_giveOtherDriver_13 (by decide) (fun c1 => ?_) (fun c1 => ?_)
  · -- 13 t: ¬ (lowdrv n (su x 11 r (-1)) r) = (-1)
    refine v_aload_n C dX1_giveOtherDriver_24 rfl ?_
    refine v_iload_n C dX1_giveOtherDriver_25 rfl ?_
    refine vR_p_driver C hin0 (by omega) (by decide +kernel) dX1_giveOtherDriver_26 ?_
    have e : fgived n x r = su (su x 11 r (-1)) 11 r (lowdrv n (su x 11 r (-1)) r) := by simp [fgived, su_f, su_s, pif, c1]
    rw [e]
    exact v_vret C dX1_giveOtherDriver_29
  · -- 13 f: not ¬ (lowdrv n (su x 11 r (-1)) r) = (-1)
    refine v_aload_n C dX1_giveOtherDriver_16 rfl ?_
    refine v_iconst C (4) dX1_giveOtherDriver_17 (by decide) ?_
    refine vR_cV C (by omega) (k_X0_drop l G cy ad (su x 11 r (-1)) r (by omega) 4) rfl gX1_giveOtherDriver_X0_drop (nA := 1) (by decide +kernel) rfl (by decide) (by decide) rfl rfl (Nat.le_of_ble_eq_true rfl) dX1_giveOtherDriver_18 ?_
    refine v_goto C 29 dX1_giveOtherDriver_21 (by decide) ?_
    have e : fgived n x r = fdrop (su x 11 r (-1)) r 4 := by simp [fgived, su_f, su_s, pif, c1]
    rw [e]
    exact v_vret C dX1_giveOtherDriver_29
set_option maxHeartbeats 4000000 in
set_option maxRecDepth 100000 in
/-- swapBus(b) -/
theorem k_X1_swapBus (l : Launch) (G : va_G) (cy : Nat → ClassId) (ad : Nat → Nat) (x : Sg) (n : Nat) (hn : x 1 0 = nI n) (h30 : n ≤ 30) (b : Int32) : KV l G cy yX1_swapBus wsX1_swapBus 4 90 0 0 [.ref (ad 0), .int b] (wD cy ad x) (wD cy ad (it (sswapb n b) n x)) := by
  have hin1 : ∀ q ∈ u_ws RX1 TX1 12, q ∈ wsX1_swapBus := by decide +kernel
  have hin0 : ∀ q ∈ u_ws RX0 TX0 6, q ∈ wsX1_swapBus := by decide +kernel
  refine KV_of (own := RX1) (cc := cX1_swapBus) (maxL := 3) (ret := none) (lo0 := [some (.ref (ad 0)), some (.int b), none]) (by decide) rfl rfl (by simp [Value.category]) (Nat.le_of_ble_eq_true rfl) rfl (fun p e s m args below meth c A _ C => ?_)
  refine v_iconst C (0) dX1_swapBus_0 (by decide) ?_
  refine v_istore_n C dX1_swapBus_1 (by decide) ?_
  refine V.loop (fun k : Nat => wD cy ad (it (sswapb n b) k x)) (fun k : Nat => ([some (.ref (ad 0)), some (.int b), some (.int (nI k))] : List (Option Value))) (fun k : Nat => True) n ?_ trivial
  intro k hle_k hP_k ih_k
  try dsimp only at hP_k ih_k ⊢
  have hn_k : it (sswapb n b) k x 1 0 = nI n := (it_f (fun c y => sswapb_f n b c y (by decide) (by decide) (by decide) (by decide) (by decide)) k x).trans hn
  refine v_iload_n C dX1_swapBus_2 rfl ?_
  refine v_aload_n C dX1_swapBus_3 rfl ?_
  refine vD_g_runCount C hin1 (by decide +kernel) dX1_swapBus_4 ?_
  refine v_geN C k n 52 dX1_swapBus_7 (by decide) rfl hn_k (by omega) (by omega) (fun c1 => ?_) (fun c1 => ?_)
  · -- loop 2 is over
    have e_k : n = k := by omega
    subst e_k
    exact v_vret C dX1_swapBus_52
  · have hk : k < n := c1
    refine v_aload_n C dX1_swapBus_10 rfl ?_
    refine vD_g_rows C hin1 (by decide +kernel) dX1_swapBus_11 ?_
    refine v_iload_n C dX1_swapBus_14 rfl ?_
    refine vD_aald C k rfl (by omega) dX1_swapBus_15 ?_
    refine vR_g_state C hin0 (by omega) (by decide +kernel) dX1_swapBus_16 ?_
    refine v_iconst C (2) dX1_swapBus_19 (by decide) ?_
    refine v_icmp_ne C 46 dX1_swapBus_20 (by decide) (fun c2 => ?_) (fun c2 => ?_)
    · -- 20 t: ¬ ((it (sswapb n b) k x) 9 k) = 2
      refine v_incN C dX1_swapBus_46 rfl (by decide) ?_
      refine v_goto C 2 dX1_swapBus_49 (by decide) ?_
      have q := ih_k hk trivial
      have e : it (sswapb n b) (k + 1) x = it (sswapb n b) k x := by
        show sswapb n b k (it (sswapb n b) k x) = it (sswapb n b) k x
        simp [sswapb, pif, c2]
      rw [e] at q
      exact q
    · -- 20 f: not ¬ ((it (sswapb n b) k x) 9 k) = 2
      refine v_aload_n C dX1_swapBus_23 rfl ?_
      refine vD_g_rows C hin1 (by decide +kernel) dX1_swapBus_24 ?_
      refine v_iload_n C dX1_swapBus_27 rfl ?_
      refine vD_aald C k rfl (by omega) dX1_swapBus_28 ?_
      refine vR_g_bus C hin0 (by omega) (by decide +kernel) dX1_swapBus_29 ?_
      refine v_iload_n C dX1_swapBus_32 rfl ?_
      refine v_icmp_ne C 46 dX1_swapBus_33 (by decide) (fun c3 => ?_) (fun c3 => ?_)
      · -- 33 t: ¬ ((it (sswapb n b) k x) 10 k) = b
        refine v_incN C dX1_swapBus_46 rfl (by decide) ?_
        refine v_goto C 2 dX1_swapBus_49 (by decide) ?_
        have q := ih_k hk trivial
        have e : it (sswapb n b) (k + 1) x = it (sswapb n b) k x := by
          show sswapb n b k (it (sswapb n b) k x) = it (sswapb n b) k x
          simp [sswapb, pif, c2, c3]
        rw [e] at q
        exact q
      · -- 33 f: not ¬ ((it (sswapb n b) k x) 10 k) = b
        refine v_aload_n C dX1_swapBus_36 rfl ?_
        refine v_aload_n C dX1_swapBus_37 rfl ?_
        refine vD_g_rows C hin1 (by decide +kernel) dX1_swapBus_38 ?_
        refine v_iload_n C dX1_swapBus_41 rfl ?_
        refine vD_aald C k rfl (by omega) dX1_swapBus_42 ?_
        refine vD_cV C (k_X1_giveOtherBus l G cy ad (it (sswapb n b) k x) n hn_k h30 k (by omega)) rfl gX1_swapBus_X1_giveOtherBus (nA := 1) (by decide +kernel) rfl (by decide) (by decide) rfl rfl (Nat.le_of_ble_eq_true rfl) dX1_swapBus_43 ?_
        refine v_incN C dX1_swapBus_46 rfl (by decide) ?_
        refine v_goto C 2 dX1_swapBus_49 (by decide) ?_
        have q := ih_k hk trivial
        have e : it (sswapb n b) (k + 1) x = fgiveb n (it (sswapb n b) k x) k := by
          show sswapb n b k (it (sswapb n b) k x) = fgiveb n (it (sswapb n b) k x) k
          simp [sswapb, pif, c2, c3]
        rw [e] at q
        exact q
set_option maxHeartbeats 4000000 in
set_option maxRecDepth 100000 in
/-- swapDriver(b) -/
theorem k_X1_swapDriver (l : Launch) (G : va_G) (cy : Nat → ClassId) (ad : Nat → Nat) (x : Sg) (n : Nat) (hn : x 1 0 = nI n) (h30 : n ≤ 30) (b : Int32) : KV l G cy yX1_swapDriver wsX1_swapDriver 6 134 0 0 [.ref (ad 0), .int b] (wD cy ad x) (wD cy ad (it (sswapd n b) n x)) := by
  have hin1 : ∀ q ∈ u_ws RX1 TX1 12, q ∈ wsX1_swapDriver := by decide +kernel
  have hin0 : ∀ q ∈ u_ws RX0 TX0 6, q ∈ wsX1_swapDriver := by decide +kernel
  refine KV_of (own := RX1) (cc := cX1_swapDriver) (maxL := 3) (ret := none) (lo0 := [some (.ref (ad 0)), some (.int b), none]) (by decide) rfl rfl (by simp [Value.category]) (Nat.le_of_ble_eq_true rfl) rfl (fun p e s m args below meth c A _ C => ?_)
  refine v_iconst C (0) dX1_swapDriver_0 (by decide) ?_
  refine v_istore_n C dX1_swapDriver_1 (by decide) ?_
  refine V.loop (fun k : Nat => wD cy ad (it (sswapd n b) k x)) (fun k : Nat => ([some (.ref (ad 0)), some (.int b), some (.int (nI k))] : List (Option Value))) (fun k : Nat => True) n ?_ trivial
  intro k hle_k hP_k ih_k
  try dsimp only at hP_k ih_k ⊢
  have hn_k : it (sswapd n b) k x 1 0 = nI n := (it_f (fun c y => sswapd_f n b c y (by decide) (by decide) (by decide)) k x).trans hn
  refine v_iload_n C dX1_swapDriver_2 rfl ?_
  refine v_aload_n C dX1_swapDriver_3 rfl ?_
  refine vD_g_runCount C hin1 (by decide +kernel) dX1_swapDriver_4 ?_
  refine v_geN C k n 52 dX1_swapDriver_7 (by decide) rfl hn_k (by omega) (by omega) (fun c1 => ?_) (fun c1 => ?_)
  · -- loop 2 is over
    have e_k : n = k := by omega
    subst e_k
    exact v_vret C dX1_swapDriver_52
  · have hk : k < n := c1
    refine v_aload_n C dX1_swapDriver_10 rfl ?_
    refine vD_g_rows C hin1 (by decide +kernel) dX1_swapDriver_11 ?_
    refine v_iload_n C dX1_swapDriver_14 rfl ?_
    refine vD_aald C k rfl (by omega) dX1_swapDriver_15 ?_
    refine vR_g_state C hin0 (by omega) (by decide +kernel) dX1_swapDriver_16 ?_
    refine v_iconst C (2) dX1_swapDriver_19 (by decide) ?_
    refine v_icmp_ne C 46 dX1_swapDriver_20 (by decide) (fun c2 => ?_) (fun c2 => ?_)
    · -- 20 t: ¬ ((it (sswapd n b) k x) 9 k) = 2
      refine v_incN C dX1_swapDriver_46 rfl (by decide) ?_
      refine v_goto C 2 dX1_swapDriver_49 (by decide) ?_
      have q := ih_k hk trivial
      have e : it (sswapd n b) (k + 1) x = it (sswapd n b) k x := by
        show sswapd n b k (it (sswapd n b) k x) = it (sswapd n b) k x
        simp [sswapd, pif, c2]
      rw [e] at q
      exact q
    · -- 20 f: not ¬ ((it (sswapd n b) k x) 9 k) = 2
      refine v_aload_n C dX1_swapDriver_23 rfl ?_
      refine vD_g_rows C hin1 (by decide +kernel) dX1_swapDriver_24 ?_
      refine v_iload_n C dX1_swapDriver_27 rfl ?_
      refine vD_aald C k rfl (by omega) dX1_swapDriver_28 ?_
      refine vR_g_driver C hin0 (by omega) (by decide +kernel) dX1_swapDriver_29 ?_
      refine v_iload_n C dX1_swapDriver_32 rfl ?_
      refine v_icmp_ne C 46 dX1_swapDriver_33 (by decide) (fun c3 => ?_) (fun c3 => ?_)
      · -- 33 t: ¬ ((it (sswapd n b) k x) 11 k) = b
        refine v_incN C dX1_swapDriver_46 rfl (by decide) ?_
        refine v_goto C 2 dX1_swapDriver_49 (by decide) ?_
        have q := ih_k hk trivial
        have e : it (sswapd n b) (k + 1) x = it (sswapd n b) k x := by
          show sswapd n b k (it (sswapd n b) k x) = it (sswapd n b) k x
          simp [sswapd, pif, c2, c3]
        rw [e] at q
        exact q
      · -- 33 f: not ¬ ((it (sswapd n b) k x) 11 k) = b
        refine v_aload_n C dX1_swapDriver_36 rfl ?_
        refine v_aload_n C dX1_swapDriver_37 rfl ?_
        refine vD_g_rows C hin1 (by decide +kernel) dX1_swapDriver_38 ?_
        refine v_iload_n C dX1_swapDriver_41 rfl ?_
        refine vD_aald C k rfl (by omega) dX1_swapDriver_42 ?_
        refine vD_cV C (k_X1_giveOtherDriver l G cy ad (it (sswapd n b) k x) n hn_k h30 k (by omega)) rfl gX1_swapDriver_X1_giveOtherDriver (nA := 1) (by decide +kernel) rfl (by decide) (by decide) rfl rfl (Nat.le_of_ble_eq_true rfl) dX1_swapDriver_43 ?_
        refine v_incN C dX1_swapDriver_46 rfl (by decide) ?_
        refine v_goto C 2 dX1_swapDriver_49 (by decide) ?_
        have q := ih_k hk trivial
        have e : it (sswapd n b) (k + 1) x = fgived n (it (sswapd n b) k x) k := by
          show sswapd n b k (it (sswapd n b) k x) = fgived n (it (sswapd n b) k x) k
          simp [sswapd, pif, c2, c3]
        rw [e] at q
        exact q
def canord (n : Nat) (x : Sg) (r b d : Nat) : Prop := x 9 r = 0 ∧ x 0 0 < x 6 r ∧ busfit n x b r ∧ drvfit n x d r
set_option maxHeartbeats 4000000 in
set_option maxRecDepth 100000 in
/-- canBeOrdered(r, b, d) -/
theorem k_X1_canBeOrdered (l : Launch) (G : va_G) (cy : Nat → ClassId) (ad : Nat → Nat) (x : Sg) (n : Nat) (hn : x 1 0 = nI n) (h30 : n ≤ 30) (r : Nat) (hr : r < 30) (b : Nat) (hb : b < 5) (d : Nat) (hd5 : d < 5) : KI l G cy yX1_canBeOrdered wsX1_canBeOrdered 4 90 0 0 [.ref (ad 0), .ref (ad (r + 8)), .int (nI b), .int (nI d)] (wD cy ad x) (b2i (canord n x r b d)) (wD cy ad x) := by
  have hin1 : ∀ q ∈ u_ws RX1 TX1 12, q ∈ wsX1_canBeOrdered := by decide +kernel
  have hin0 : ∀ q ∈ u_ws RX0 TX0 6, q ∈ wsX1_canBeOrdered := by decide +kernel
  refine KI_of (own := RX1) (cc := cX1_canBeOrdered) (maxL := 4) (ret := (some .boolean)) (lo0 := [some (.ref (ad 0)), some (.ref (ad (r + 8))), some (.int (nI b)), some (.int (nI d))]) (by decide) rfl rfl (by simp [Value.category]) (Nat.le_of_ble_eq_true rfl) rfl (fun p e s m args below meth c A C => ?_)
  refine v_aload_n C dX1_canBeOrdered_0 rfl ?_
  refine vR_g_state C hin0 (by omega) (by decide +kernel) dX1_canBeOrdered_1 ?_
  refine v_if_ne C 40 dX1_canBeOrdered_4 (by decide) (fun c1 => ?_) (fun c1 => ?_)
  · -- 4 t: ¬ (x 9 r) = 0
    refine v_iconst C (0) dX1_canBeOrdered_40 (by decide) ?_
    refine v_zret C rfl dX1_canBeOrdered_41 ?_
    exact (b2i_f (fun h => c1 h.1)).symm
  · -- 4 f: not ¬ (x 9 r) = 0
    refine v_aload_n C dX1_canBeOrdered_7 rfl ?_
    refine vR_g_start C hin0 (by omega) (by decide +kernel) dX1_canBeOrdered_8 ?_
    refine v_aload_n C dX1_canBeOrdered_11 rfl ?_
    refine vD_g_minute C hin1 (by decide +kernel) dX1_canBeOrdered_12 ?_
    refine v_icmp_le C 40 dX1_canBeOrdered_15 (by decide) (fun c2 => ?_) (fun c2 => ?_)
    · -- 15 t: ¬ (x 0 0) < (x 6 r)
      refine v_iconst C (0) dX1_canBeOrdered_40 (by decide) ?_
      refine v_zret C rfl dX1_canBeOrdered_41 ?_
      exact (b2i_f (fun h => c2 h.2.1)).symm
    · -- 15 f: not ¬ (x 0 0) < (x 6 r)
      refine v_aload_n C dX1_canBeOrdered_18 rfl ?_
      refine v_iload_n C dX1_canBeOrdered_19 rfl ?_
      refine v_aload_n C dX1_canBeOrdered_20 rfl ?_
      refine vD_cI C (k_X1_isBusFit l G cy ad x n hn h30 b (by omega) r (by omega)) rfl gX1_canBeOrdered_X1_isBusFit (nA := 2) (by decide +kernel) rfl (by decide) (by decide) rfl rfl (Nat.le_of_ble_eq_true rfl) dX1_canBeOrdered_21 ?_
      refine v_if_eq C 40 dX1_canBeOrdered_24 (by decide) (fun c3 => ?_) (fun c3 => ?_)
      · -- 24 t: (b2i (busfit n x b r)) = 0
        replace c3 := b2i_0.mp c3
        refine v_iconst C (0) dX1_canBeOrdered_40 (by decide) ?_
        refine v_zret C rfl dX1_canBeOrdered_41 ?_
        exact (b2i_f (fun h => c3 h.2.2.1)).symm
      · -- 24 f: not (b2i (busfit n x b r)) = 0
        replace c3 := Classical.not_not.mp (fun z => c3 (b2i_0.mpr z))
        refine v_aload_n C dX1_canBeOrdered_27 rfl ?_
        refine v_iload_n C dX1_canBeOrdered_28 rfl ?_
        refine v_aload_n C dX1_canBeOrdered_29 rfl ?_
        refine vD_cI C (k_X1_isDriverFit l G cy ad x n hn h30 d (by omega) r (by omega)) rfl gX1_canBeOrdered_X1_isDriverFit (nA := 2) (by decide +kernel) rfl (by decide) (by decide) rfl rfl (Nat.le_of_ble_eq_true rfl) dX1_canBeOrdered_30 ?_
        refine v_if_eq C 40 dX1_canBeOrdered_33 (by decide) (fun c4 => ?_) (fun c4 => ?_)
        · -- 33 t: (b2i (drvfit n x d r)) = 0
          replace c4 := b2i_0.mp c4
          refine v_iconst C (0) dX1_canBeOrdered_40 (by decide) ?_
          refine v_zret C rfl dX1_canBeOrdered_41 ?_
          exact (b2i_f (fun h => c4 h.2.2.2)).symm
        · -- 33 f: not (b2i (drvfit n x d r)) = 0
          replace c4 := Classical.not_not.mp (fun z => c4 (b2i_0.mpr z))
          refine v_iconst C (1) dX1_canBeOrdered_36 (by decide) ?_
          refine v_goto C 41 dX1_canBeOrdered_37 (by decide) ?_
          refine v_zret C rfl dX1_canBeOrdered_41 ?_
          exact (b2i_t ⟨c1, c2, c3, c4⟩).symm
def fwrite (x : Sg) (om mk : Nat) (en : Int32) : Sg := su (su (su x 16 om en) 17 mk (x 2 0)) 2 0 (x 2 0 + 1)
set_option maxHeartbeats 4000000 in
set_option maxRecDepth 100000 in
/-- write(mark, entry) -/
theorem k_X1_write (l : Launch) (G : va_G) (cy : Nat → ClassId) (ad : Nat → Nat) (x : Sg) (om : Nat) (hom : x 2 0 = nI om) (hom1 : om < 1000) (mk : Nat) (hmk : mk < 1000) (en : Int32) : KI l G cy yX1_write wsX1_write 0 0 0 0 [.ref (ad 0), .int (nI mk), .int en] (wD cy ad x) (x 2 0) (wD cy ad (fwrite x om mk en)) := by
  have hin1 : ∀ q ∈ u_ws RX1 TX1 12, q ∈ wsX1_write := by decide +kernel
  refine KI_of (own := RX1) (cc := cX1_write) (maxL := 4) (ret := (some .int)) (lo0 := [some (.ref (ad 0)), some (.int (nI mk)), some (.int en), none]) (by decide) rfl rfl (by simp [Value.category]) (Nat.le_of_ble_eq_true rfl) rfl (fun p e s m args below meth c A C => ?_)
  refine v_aload_n C dX1_write_0 rfl ?_
  refine vD_g_orderCount C hin1 (by decide +kernel) dX1_write_1 ?_
  refine v_istore_n C dX1_write_4 (by decide) ?_
  refine v_iload_n C dX1_write_5 rfl ?_
  refine v_sipush C (1000) dX1_write_6 (by decide) ?_
  refine v_icmp_ge C 36 dX1_write_9 (by decide) (fun c1 => ?_) (fun c1 => ?_)
  · -- 9 t: ¬ (x 2 0) < 1000
    exact absurd ((nI_ltI (by omega) (by decide)).mpr hom1 : nI om < nI 1000) (by rw [← hom]; exact c1)
  · -- 9 f: not ¬ (x 2 0) < 1000
    refine v_aload_n C dX1_write_12 rfl ?_
    refine vD_g_log C hin1 (by decide +kernel) dX1_write_13 ?_
    refine v_iload_n C dX1_write_16 rfl ?_
    refine v_iload_n C dX1_write_17 rfl ?_
    refine vD_s_log C om hom (by omega) dX1_write_18 ?_
    refine v_aload_n C dX1_write_19 rfl ?_
    refine vD_g_numberOfMark C hin1 (by decide +kernel) dX1_write_20 ?_
    refine v_iload_n C dX1_write_23 rfl ?_
    refine v_iload_n C dX1_write_24 rfl ?_
    refine vD_s_numberOfMark C mk rfl (by omega) dX1_write_25 ?_
    refine v_aload_n C dX1_write_26 rfl ?_
    refine v_dup C dX1_write_27 rfl ?_
    refine vD_g_orderCount C hin1 (by decide +kernel) dX1_write_28 ?_
    refine v_iconst C (1) dX1_write_31 (by decide) ?_
    refine v_iadd C dX1_write_32 ?_
    refine vD_p_orderCount C hin1 (by decide +kernel) dX1_write_33 ?_
    refine v_iload_n C dX1_write_36 rfl ?_
    refine v_iret C dX1_write_37 ?_
    rfl
end
section
/-! THROWS: what they need of the tables and the statics, contracts that may throw, their calls -/
abbrev nIO : String := "java/lang/IndexOutOfBoundsException"
abbrev nIA : String := "java/lang/IllegalArgumentException"
abbrev nIS : String := "java/lang/IllegalStateException"
abbrev xNames : List String := ["java/lang/RuntimeException", "java/lang/Exception"]
def xWd : List Cond := [.castable nIO nIO, .castable nIA nIA, .castable nIS nIS, .declares (Bundle.initS "java/lang/RuntimeException"), .declares (Bundle.initS "java/lang/Exception"), .declares (Bundle.initS "java/lang/Throwable")]
def xStr : List (Nat × String) := [(58, "there are 30 runs"), (78, "the run can't be ordered so"), (107, "the bus has a run that goes"), (109, "the minute would be above 30000"), (132, "there is no such number"), (137, "an argument is out of range")]
def xT (A : Nat → Prop) (U : State) (H : Heap) : Prop := (∀ w ∈ xWd, va_Nw w U) ∧ (∀ q ∈ xStr, ∃ sa, vk_R RX1 q.1 q.2 sa U) ∧ vx_Zq Bundle.tN "UNASSIGNED_STACK" Bundle.steD A U H ∧ vx_Zq Bundle.tN "SUPPRESSED_SENTINEL" Bundle.listD A U H
theorem xT.warm {A B : Nat → Prop} {s U : State} {H H1 : Heap} (h : xT A s H) (hW : s.WarmedH U.vm) (hq : ∀ a : Nat, a < H.size → ¬ A a → H1[a]? = H[a]?) (hAB : ∀ q, B q → A q) : xT B U H1 := by
  obtain ⟨h1, h2, h3, h4⟩ := h
  refine ⟨fun w hw => ?_, fun q hq' => ?_, ((h3.moved hW.alike).kept hq).narrow hAB, ((h4.moved hW.alike).kept hq).narrow hAB⟩
  · have h9 := h1 w hw
    simp only [xWd, List.mem_cons, List.not_mem_nil, or_false] at hw
    rcases hw with rfl | rfl | rfl | rfl | rfl | rfl
    · exact va_Nw.warmC hW h9
    · exact va_Nw.warmC hW h9
    · exact va_Nw.warmC hW h9
    · exact va_Nw.warmD hW h9
    · exact va_Nw.warmD hW h9
    · exact va_Nw.warmD hW h9
  · obtain ⟨sa, k⟩ := h2 q hq'
    exact ⟨sa, k.warm hW⟩
theorem xT.word {A : Nat → Prop} {U : State} {H : Heap} (h : xT A U H) {args : Array Value} : ∀ w ∈ xWd, w.before args U = true := by
  intro w hw
  have h9 := h.1 w hw
  simp only [xWd, List.mem_cons, List.not_mem_nil, or_false] at hw
  rcases hw with rfl | rfl | rfl | rfl | rfl | rfl <;> exact va_Nw.use rfl h9
/-- which of the three classes are not each other's -/
def xN (U : State) : Prop := va_Nc nIS nIA U ∧ va_Nc nIA nIO U ∧ va_Nc nIS nIO U
theorem va_Nc.warm {C T : String} {s U : State} (hW : s.WarmedH U.vm) (h : va_Nc C T s) : va_Nc C T U := by
  obtain ⟨c, t, h1, h2, h3⟩ := h
  exact ⟨c, t, by rw [hW.alike.findClass]; exact h1, by rw [hW.alike.findClass]; exact h2, by rw [hW.alike.assignable]; exact h3⟩
theorem xN.warm {s U : State} (hW : s.WarmedH U.vm) (h : xN s) : xN U := ⟨va_Nc.warm hW h.1, va_Nc.warm hW h.2.1, va_Nc.warm hW h.2.2⟩
def vIx (G : va_G) (cy : Nat → ClassId) (w : va_W) (sz : Nat) (U : State) : Prop := vI G cy w sz U ∧ xT (va_A w sz) U U.heap
def vIw (G : va_G) (cy : Nat → ClassId) (w : va_W) (sz : Nat) (U : State) : Prop := vIx G cy w sz U ∧ xN U
theorem vIx_blind {G : va_G} {cy : Nat → ClassId} {w : va_W} {sz : Nat} {as : List Value} : FrameBlind (va_Pc as (vIx G cy w sz)) := fun a U g mk q => by
  obtain ⟨q0, ⟨q1, qP, qK, qD⟩, qX⟩ := q
  exact ⟨q0, ⟨q1, qP, va_K.moved (u := U) (U := U.calling g mk a) (Vm.Alike.refl U.vm) qK, qD⟩, qX.warm (U := U.calling g mk a) (State.WarmedH.refl U) (fun _ _ _ => rfl) (fun _ h => h)⟩
theorem vIw_blind {G : va_G} {cy : Nat → ClassId} {w : va_W} {sz : Nat} {as : List Value} : FrameBlind (va_Pc as (vIw G cy w sz)) := fun a U g mk q => by
  obtain ⟨q0, ⟨⟨q1, qP, qK, qD⟩, qX⟩, qN⟩ := q
  exact ⟨q0, ⟨⟨q1, qP, va_K.moved (u := U) (U := U.calling g mk a) (Vm.Alike.refl U.vm) qK, qD⟩, qX.warm (U := U.calling g mk a) (State.WarmedH.refl U) (fun _ _ _ => rfl) (fun _ h => h)⟩, qN.warm (U := U.calling g mk a) (State.WarmedH.refl U)⟩
/-- ends -/
def QXI (below : List Frame) (args : Array Value) (s : State) (G : va_G) (cy : Nat → ClassId) (A : Nat → Prop) (xo : Option String) (r : Int32) (w w' : va_W) (mc ms : Nat) : State → Prop := vx_MQ below (va_Qi (fun (r' : Int32) (_ : Unit) => xo = none ∧ r' = r) (fun _ => vO G cy A w') A) (vx_X (fun (_ : Unit) => True) (fun E _ t => xo = some E ∧ vO G cy A w t) A) args s mc ms A
def QXV (below : List Frame) (args : Array Value) (s : State) (G : va_G) (cy : Nat → ClassId) (A : Nat → Prop) (xo : Option String) (w w' : va_W) (mc ms : Nat) : State → Prop := vx_MQ below (va_Qv (fun (_ : Unit) => xo = none) (fun _ => vO G cy A w') A) (vx_X (fun (_ : Unit) => True) (fun E _ t => xo = some E ∧ vO G cy A w t) A) args s mc ms A
/-- contracts: an answer, or the exception xo with nothing changed -/
def KXI (l : Launch) (G : va_G) (cy : Nat → ClassId) (y : MethodName) (ws : List Cond) (fr lc mc ms : Nat) (as : List Value) (w : va_W) (xo : Option String) (r : Int32) (w' : va_W) : Prop := ∀ sz : Nat, vx_Met l y ws (vR fr lc mc ms) (va_Pc as (vIx G cy w sz)) (va_Qi (fun (r' : Int32) (_ : Unit) => xo = none ∧ r' = r) (fun _ => vO G cy (va_A w sz) w') (va_A w sz)) (vx_X (fun (_ : Unit) => True) (fun E _ t => xo = some E ∧ vO G cy (va_A w sz) w t) (va_A w sz)) mc ms (va_A w sz)
def KXV (l : Launch) (G : va_G) (cy : Nat → ClassId) (y : MethodName) (ws : List Cond) (fr lc mc ms : Nat) (as : List Value) (w : va_W) (xo : Option String) (w' : va_W) : Prop := ∀ sz : Nat, vx_Met l y ws (vR fr lc mc ms) (va_Pc as (vIx G cy w sz)) (va_Qv (fun (_ : Unit) => xo = none) (fun _ => vO G cy (va_A w sz) w') (va_A w sz)) (vx_X (fun (_ : Unit) => True) (fun E _ t => xo = some E ∧ vO G cy (va_A w sz) w t) (va_A w sz)) mc ms (va_A w sz)
/-- .. of a method that catches what it calls -/
def KW (l : Launch) (G : va_G) (cy : Nat → ClassId) (y : MethodName) (ws : List Cond) (fr lc mc ms : Nat) (as : List Value) (w : va_W) (r : Int32) (w' : va_W) : Prop := ∀ sz : Nat, Met l y ws (vR fr lc mc ms) (va_Pc as (vIw G cy w sz)) (va_Qi (fun (r' : Int32) (_ : Unit) => r' = r) (fun _ => vO G cy (va_A w sz) w') (va_A w sz)) mc ms (va_A w sz)
section VXK
variable {l : Launch} {G : va_G} {cy : Nat → ClassId} {y : MethodName} {ws ws' : List Cond} {fr lc mc ms : Nat} {as : List Value} {w w' : va_W} {xo : Option String} {r : Int32} {cc : ByteArray} {maxL : Nat} {ret : Option FieldType} {hh : List (Nat × Nat × Nat × Nat)}
theorem KXI_of {own : String} {lo0 : List (Option Value)} (hy : plainName y.cls = true) (ho : y.cls = own) (hw : ws = Cond.code y cc maxL ret :: ws') (hc : ∀ v ∈ as, v.category = 1) (hn : as.length ≤ maxL) (hlo : as.map some ++ List.replicate (maxL - as.length) none = lo0)
    (body : ∀ (p : Program) (e : Env) (s : State) (m : MethodId) (args : Array Value) (below : List Frame) (meth : Method) (c : Code) (A : Nat → Prop), vC p s m args meth c cc maxL ws own ret G cy A → xT A s s.heap → (∀ x ∈ c.exceptionTable.toList, False) → V p l e (vR fr lc mc ms) s m args below meth c maxL G A (QXI below args s G cy A xo r w w' mc ms) w 0 0 0 lo0 []) : KXI l G cy y ws fr lc mc ms as w xo r w' := by
  intro sz
  refine vx_ofW (cc := cc) (maxL := maxL) (ret := ret) hy hw ?_
  intro p e s m args below meth c s₁ B hml hT hv
  obtain ⟨rfl, ⟨hsz, hP, hK, hD0⟩, hX⟩ := hv
  subst hsz
  have hown : s.vm.findClass own = some m.cls := by rw [← ho]; exact findClass_of_methodNamed B.named
  have C : vC p s m as.toArray meth c cc maxL ws own ret G cy (va_A w s.heap.size) := ⟨⟨B.exec, B.bytes, hml, hown, atoms_spec (ws := ws) B.pre⟩, hK, fun q h => Or.inr h, B.returns, B.notSynchronized⟩
  have hb := body p e s m as.toArray below meth c (va_A w s.heap.size) C hX hT
  have h := hb s.heap [] _ hP hD0.self va_S.rf (by rw [← hlo]; exact lo_entry as hc hn)
  rw [lg_entry_eq]
  exact h
theorem KXV_of {own : String} {lo0 : List (Option Value)} (hy : plainName y.cls = true) (ho : y.cls = own) (hw : ws = Cond.code y cc maxL ret :: ws') (hc : ∀ v ∈ as, v.category = 1) (hn : as.length ≤ maxL) (hlo : as.map some ++ List.replicate (maxL - as.length) none = lo0)
    (body : ∀ (p : Program) (e : Env) (s : State) (m : MethodId) (args : Array Value) (below : List Frame) (meth : Method) (c : Code) (A : Nat → Prop), vC p s m args meth c cc maxL ws own ret G cy A → xT A s s.heap → (∀ x ∈ c.exceptionTable.toList, False) → V p l e (vR fr lc mc ms) s m args below meth c maxL G A (QXV below args s G cy A xo w w' mc ms) w 0 0 0 lo0 []) : KXV l G cy y ws fr lc mc ms as w xo w' := by
  intro sz
  refine vx_ofW (cc := cc) (maxL := maxL) (ret := ret) hy hw ?_
  intro p e s m args below meth c s₁ B hml hT hv
  obtain ⟨rfl, ⟨hsz, hP, hK, hD0⟩, hX⟩ := hv
  subst hsz
  have hown : s.vm.findClass own = some m.cls := by rw [← ho]; exact findClass_of_methodNamed B.named
  have C : vC p s m as.toArray meth c cc maxL ws own ret G cy (va_A w s.heap.size) := ⟨⟨B.exec, B.bytes, hml, hown, atoms_spec (ws := ws) B.pre⟩, hK, fun q h => Or.inr h, B.returns, B.notSynchronized⟩
  have hb := body p e s m as.toArray below meth c (va_A w s.heap.size) C hX hT
  have h := hb s.heap [] _ hP hD0.self va_S.rf (by rw [← hlo]; exact lo_entry as hc hn)
  rw [lg_entry_eq]
  exact h
theorem KW_of {own : String} {lo0 : List (Option Value)} (hy : plainName y.cls = true) (ho : y.cls = own) (hw : ws = Cond.codeWith y cc maxL ret hh :: ws') (hc : ∀ v ∈ as, v.category = 1) (hn : as.length ≤ maxL) (hlo : as.map some ++ List.replicate (maxL - as.length) none = lo0)
    (body : ∀ (p : Program) (e : Env) (s : State) (m : MethodId) (args : Array Value) (below : List Frame) (meth : Method) (c : Code) (A : Nat → Prop), vC p s m args meth c cc maxL ws own ret G cy A → xT A s s.heap → xN s → c.exceptionTable.toList = tableOf hh → V p l e (vR fr lc mc ms) s m args below meth c maxL G A (QI below args s G cy A r w' mc ms) w 0 0 0 lo0 []) : KW l G cy y ws fr lc mc ms as w r w' := by
  intro sz
  refine va_MetW (cc := cc) (maxL := maxL) (ret := ret) hy hw ?_
  intro p e s m args below meth c s₁ B hml hv
  obtain ⟨rfl, ⟨⟨hsz, hP, hK, hD0⟩, hX⟩, hN⟩ := hv
  subst hsz
  have hown : s.vm.findClass own = some m.cls := by rw [← ho]; exact findClass_of_methodNamed B.named
  have hts := atoms_spec (ws := ws) B.pre
  have C : vC p s m as.toArray meth c cc maxL ws own ret G cy (va_A w s.heap.size) := ⟨⟨B.exec, B.bytes, hml, hown, hts⟩, hK, fun q h => Or.inr h, B.returns, B.notSynchronized⟩
  have hb := body p e s m as.toArray below meth c (va_A w s.heap.size) C hX hN (vx_table (x := y) B (hts _ (by rw [hw]; exact List.mem_cons_self)))
  have h := hb s.heap [] _ hP hD0.self va_S.rf (by rw [← hlo]; exact lo_entry as hc hn)
  rw [lg_entry_eq]
  exact h
end VXK
section VXR
variable {p : Program} {l : Launch} {e : Env} {R : Room} {s : State} {m : MethodId} {args : Array Value} {below : List Frame} {meth : Method} {c : Code} {cells slots : Nat} {Q : State → Prop} {cc : ByteArray} {nL : Nat} {Ts : List Cond} {own : String} {ret : Option FieldType} {G : va_G} {cy : Nat → ClassId} {A : Nat → Prop} {w w' w2 wc w1 : va_W} {pc : Nat} {lo : List (Option Value)} {st rest : List Value} {xo xc : Option String} {mcM msM : Nat} {r0 : Int32}
variable {y : MethodName} {wsY wsY' : List Cond} {fr lc mc ms : Nat} {As : List Value} {r : Int32} {b : Nat} {bytes : ByteArray} {maxL idx nA : Nat} {retY : Option FieldType}
theorem v_xret0 {v r : Int32} {ty : FieldType} (C : vC p s m args meth c cc nL Ts own (some ty) G cy A) (hn : narrow ty (.int v) = .int v) (hd : decode cc pc = .ok (.ireturn, 1)) (hxo : xo = none) (hr : v = r) (h1 : cells ≤ mcM) (h2 : slots ≤ msM) : V p l e R s m args below meth c nL G A (QXI below args s G cy A xo r w w2 mcM msM) w2 cells slots (pc) lo ([.int v]) := by
  intro H locs ls hP hD hS hl
  refine W.widen h1 h2 ?_
  exact vx_ret (W.zret C.1.1 C.1.2.1 C.2.2.2.1 hn (fun t ht hW => ⟨⟨v, (), rfl, ⟨hxo, hr⟩, by rw [ht]; exact hP, va_K.moved hW.alike C.2.1, hD⟩, hS.F ht⟩) hS.2.2 hd C.2.2.2.2)
theorem v_xiret {v r : Int32} (C : vC p s m args meth c cc nL Ts own (some .int) G cy A) (hd : decode cc pc = .ok (.ireturn, 1)) (hxo : xo = none) (hr : v = r) (h1 : cells ≤ mcM) (h2 : slots ≤ msM) : V p l e R s m args below meth c nL G A (QXI below args s G cy A xo r w w2 mcM msM) w2 cells slots (pc) lo ([.int v]) := v_xret0 C rfl hd hxo hr h1 h2
theorem v_xzret {v r : Int32} (C : vC p s m args meth c cc nL Ts own (some .boolean) G cy A) (hn : vp_nar .boolean v = v) (hd : decode cc pc = .ok (.ireturn, 1)) (hxo : xo = none) (hr : v = r) (h1 : cells ≤ mcM) (h2 : slots ≤ msM) : V p l e R s m args below meth c nL G A (QXI below args s G cy A xo r w w2 mcM msM) w2 cells slots (pc) lo ([.int v]) := v_xret0 C (by have h : narrow .boolean (.int v) = .int (vp_nar .boolean v) := rfl; rw [h, hn]) hd hxo hr h1 h2
theorem v_xvret (C : vC p s m args meth c cc nL Ts own none G cy A) (hd : decode cc pc = .ok (.return_, 1)) (hxo : xo = none) (h1 : cells ≤ mcM) (h2 : slots ≤ msM) : V p l e R s m args below meth c nL G A (QXV below args s G cy A xo w w2 mcM msM) w2 cells slots (pc) lo ([]) := by
  intro H locs ls hP hD hS hl
  refine W.widen h1 h2 ?_
  exact vx_ret (W.vret C.1.1 C.1.2.1 C.2.2.2.1 (fun t ht hW => ⟨⟨(), rfl, hxo, by rw [ht]; exact hP, va_K.moved hW.alike C.2.1, hD⟩, hS.F ht⟩) hS.2.2 hd C.2.2.2.2)
theorem v_kept {H H1 : Heap} (hP : va_P G vwCl w H) (h : ∀ q : Nat, q < H.size → H1[q]? = H[q]?) : va_P G vwCl w H1 := by
  rw [vP_iff] at hP ⊢
  exact fun q hq => (hP q hq).kept (h q.1 (hP q hq).lt)
/-- throw new E("text"), with nothing changed -/
theorem v_xthrow (C : vC p s m args meth c cc nL Ts own ret G cy A) (hX : xT A s s.heap) (he : ∀ x ∈ c.exceptionTable.toList, False) (hl : l.stackTraces = false) {Qc : Array Value → State → Outcome → State → Prop} {ik is ic : Nat} {cls text : String} (hcls : Bundle.fit cls = true) (hk : Cond.classLink own ik cls ∈ Ts) (hini : Cond.initialized cls ∈ Ts) (hin : ∀ w ∈ (vx_atS own ic cls xNames).filter goodWord, w ∈ Ts)
    (hbad : ∀ w ∈ (vx_atS own ic cls xNames).filter (fun w => !goodWord w), w ∈ xWd) (hgood : ∀ w ∈ Cond.classLink own ik cls :: Cond.initialized cls :: vx_atS own ic cls xNames, vx_ot w = true) (ho : own = RX1) (hstr : (is, text) ∈ xStr)
    (d0 : decode cc pc = .ok (.new ik, 3)) (d3 : decode cc (pc + 3) = .ok (.dup, 1)) (d4 : decode cc (pc + 4) = .ok (.ldc is, 2)) (d6 : decode cc (pc + 6) = .ok (.invokespecial ic, 3)) (d9 : decode cc (pc + 9) = .ok (.athrow, 1))
    (hxo : xo = some cls) (hR : 5 < R.frames ∧ 82 ≤ R.locals) (hRc : cells + 1 ≤ R.cells ∧ slots + 6 ≤ R.slots) (hc : cells + 1 ≤ mcM) (hs : slots + 6 ≤ msM) : V p l e R s m args below meth c nL G A (vx_MQ below Qc (vx_X (fun (_ : Unit) => True) (fun E _ t => xo = some E ∧ vO G cy A w t) A) args s mcM msM A) w cells slots (pc) lo ([]) := by
  intro H locs ls hP hD hS hlo
  subst ho
  obtain ⟨x1, x2, x3, x4⟩ := id hX
  obtain ⟨sa, hsa⟩ := x2 _ hstr
  refine vx_throwS (names := xNames) C.1.1 C.1.2.1 hl C.1.2.2.2.1 hcls (by decide +kernel) (C.1.2.2.2.2 _ hk) (C.1.2.2.2.2 _ hini) hsa (vx_hat (fun w hw => C.1.2.2.2.2 _ (hin w hw)) hbad hX.word) hgood x3 x4 hS (hlo.1.1.trans C.1.2.2.1.symm) d0 d3 d4 d6 d9 (fun x hx => absurd (he x hx) id) (by simpa using hR.1) (by simpa using hR.2) hRc.1 hRc.2 C.2.2.2.2 (fun t ht1 ht2 ht3 => ?_) hS.2.2 hc hs
  exact ⟨(), trivial, ⟨hxo, v_kept hP ht3, va_K.moved ht1 C.2.1, hD⟩, Nat.le_trans hS.1 ht2, fun q h1 h2 => by rw [ht3 q (Nat.lt_of_lt_of_le h1 hS.1)]; exact hS.2.1 q h1 h2⟩
/-- a static call that may throw; what it throws goes on to the caller -/
theorem v_xSV (C : vC p s m args meth c cc nL Ts own ret G cy A) (hX : xT A s s.heap) (he : ∀ x ∈ c.exceptionTable.toList, False) {Qc : Array Value → State → Outcome → State → Prop} (k : KXV l G cy y wsY fr lc mc ms As w xc w) (hw : wsY = Cond.code y bytes maxL retY :: wsY') (hg : GoodIn Ts (va_wsS own idx y wsY))
    (hy : y.cls ≠ "java/lang/invoke/MethodHandle" ∧ y.cls ≠ "java/lang/invoke/VarHandle" ∧ (parseMethodDescriptor y.desc).map (fun d => d.parameters.length) = some nA) (hna : As.length = nA) (hR : fr + 1 ≤ R.frames ∧ 8 + (maxL + 11) + lc ≤ R.locals) (hcs : cells + mc ≤ R.cells ∧ slots + ms ≤ R.slots) (hcm : cells + mc ≤ mcM ∧ slots + ms ≤ msM)
    (hst : st = As.reverse ++ rest) (hcat : (rest.map fun v => v.category).sum ≤ 8) (hd : decode cc pc = .ok (.invokestatic idx, 3)) (kt : ∀ E, xc = some E → xo = some E) (kk : xc = none → V p l e R s m args below meth c nL G A (vx_MQ below Qc (vx_X (fun (_ : Unit) => True) (fun E _ t => xo = some E ∧ vO G cy A w t) A) args s mcM msM A) w (cells + mc) (slots + ms) (pc + 3) lo (rest)) : V p l e R s m args below meth c nL G A (vx_MQ below Qc (vx_X (fun (_ : Unit) => True) (fun E _ t => xo = some E ∧ vO G cy A w t) A) args s mcM msM A) w cells slots (pc) lo (st) := by
  subst hst
  intro H locs ls hP hD hS hl
  have hFc := v_free hD hS C.2.2.1
  refine vx_callv (vx_runS (As := As) (rest := rest) C.1 (k H.size) (va_cwS nA C.1.2.2.2.2 hg hw rfl rfl hy hR) ⟨vIx_blind, fun U hU hW => ⟨rfl, ⟨by rw [hU], by rw [hU]; exact hP, va_K.moved hW.alike C.2.1, hD.weaken (fun _ _ _ _ => trivial)⟩, hX.warm hW (fun a h1 h2 => by rw [hU]; exact hS.2.1 a h1 h2) hFc⟩⟩ rfl hna (hl.1.1) rfl (lv_room hcat) hd hcs) hS (fun q _ h => hFc q h) hFc (fun q _ h => hFc q h) (fun E ce q9 u t H1 locs1 ht hvm hp hB hz hk hS1 hce hcv hcl => ?_) (fun u t H1 locs1 ht hvm hp hB hz hk hS1 => ?_)
  · obtain ⟨hxE, hP1, hK1, hD1⟩ := hB
    rw [ht] at hP1
    have h9 := v_join (wl := []) (wr := []) (wc := w) (by simpa using hP) (by simpa using hD) hFc hk hP1 hD1
    simp only [List.nil_append, List.append_nil] at h9
    exact vx_out (fun x hx => absurd (he x hx) id) C.2.2.2.2 hce hcv hcl (fun t2 ht2 hv2 => ⟨(), trivial, ⟨kt E hxE, by rw [ht2]; exact h9.1, va_K.moved hv2 C.2.1, h9.2⟩, hS1.F ht2⟩) hS1.2.2 hcm.1 hcm.2
  · obtain ⟨hP1, hK1, hD1⟩ := hB
    rw [ht] at hP1
    have h9 := v_join (wl := []) (wr := []) (wc := w) (by simpa using hP) (by simpa using hD) hFc hk hP1 hD1
    simp only [List.nil_append, List.append_nil] at h9
    exact kk hp H1 locs1 ls h9.1 h9.2 hS1 hl
/-- how the table of a method takes E, thrown at pc: on with F at the handler -/
def xH (s : State) (args : Array Value) (c : Code) (own : String) (pc : Nat) (E : String) (F : Nat → Prop) : Prop := ∃ (pre : List ExceptionTableEntry) (x : ExceptionTableEntry) (suf : List ExceptionTableEntry) (nm : String), c.exceptionTable.toList = pre ++ x :: suf ∧ (∀ z ∈ pre, covers z pc = false ∨ (z.catchType ≠ 0 ∧ ∃ nm : String, (Cond.classLink own z.catchType nm).before args s = true ∧ va_Nc E nm s)) ∧ covers x pc = true ∧ x.catchType ≠ 0 ∧ (Cond.classLink own x.catchType nm).before args s = true ∧ (Cond.castable E nm).before args s = true ∧ F x.handlerPc
/-- a virtual call whose exceptions the method's own table takes -/
theorem v_tryVI (C : vC p s m args meth c cc nL Ts own ret G cy A) (hX : xT A s s.heap) (wl wr : va_W) (k : KXI l G cy y wsY fr lc mc ms (.ref b :: As) wc xc r w1) (hw : wsY = Cond.code y bytes maxL retY :: wsY') (hg : GoodIn Ts (wsV own idx y.cls y wsY))
    (hy : y.cls = y.cls ∧ y.cls ≠ "java/lang/invoke/MethodHandle" ∧ y.cls ≠ "java/lang/invoke/VarHandle" ∧ (parseMethodDescriptor y.desc).map (fun d => d.parameters.length) = some nA) (hna : As.length = nA) (hR : fr + 1 ≤ R.frames ∧ 8 + (maxL + 11) + lc ≤ R.locals) (hcs : cells + mc ≤ R.cells ∧ slots + ms ≤ R.slots)
    (hst : st = As.reverse ++ .ref b :: rest) (hcat : (rest.map fun v => v.category).sum ≤ 8) (q0 ci : Nat) {q : vw_C} {fs : List Value} (hrc : wc[q0]? = some (b, .inr (ci, fs))) (hci : vwCl[ci]? = some q) (hq : q.1 = y.cls)
    (hw0 : w = wl ++ (wc ++ wr)) (hw2 : wl ++ (w1 ++ wr) = w2) (hd : decode cc pc = .ok (.invokevirtual idx, 3)) (kx : ∀ E (a : Nat), xc = some E → xH s args c own pc E (fun hp => V p l e R s m args below meth c nL G A Q w (cells + mc) (slots + ms) (hp) lo ([.ref a]))) (kk : xc = none → V p l e R s m args below meth c nL G A Q w2 (cells + mc) (slots + ms) (pc + 3) lo (.int r :: rest)) : V p l e R s m args below meth c nL G A Q w cells slots (pc) lo (st) := by
  subst hst
  subst hw0
  subst hw2
  intro H locs ls hP hD hS hl
  obtain ⟨hPc, hDc⟩ := v_in hP hD
  have hFc := v_free hDc hS C.2.2.1
  obtain ⟨cell, r1, r2, r3⟩ := va_recv C.2.1 hPc hci hrc
  refine vx_calli (vx_runV (As := As) (rest := rest) C.1 (k H.size) (cwV nA C.1.2.2.2.2 hg hw rfl rfl hy hR) ⟨vIx_blind, ⟨cell, r1, r2, by rw [← hq]; exact r3⟩, fun U hU hW => ⟨rfl, ⟨by rw [hU], by rw [hU]; exact hPc, va_K.moved hW.alike C.2.1, hDc.weaken (fun _ _ _ _ => trivial)⟩, hX.warm hW (fun a h1 h2 => by rw [hU]; exact hS.2.1 a h1 h2) hFc⟩⟩ rfl hna (hl.1.1) rfl (lv_room hcat) hd hcs) hS (fun q _ h => hFc q h) hFc (fun q _ h => hFc q h) (fun E ce q9 u t H1 locs1 ht hvm hp hB hz hk hS1 hce hcv hcl => ?_) (fun r' u t H1 locs1 ht hvm hp hB hz hk hS1 => ?_)
  · obtain ⟨hxE, hP1, hK1, hD1⟩ := hB
    rw [ht] at hP1
    obtain ⟨hP2, hD2⟩ := v_join hP hD hFc hk hP1 hD1
    obtain ⟨pre, x, suf, nm, e1, e2, e3, e4, e5, e6, e7⟩ := kx E q9 hxE
    exact vx_catch C.1.2.2.2.1 pre x suf e1 e2 e3 e4 e5 e6 hce hcv hcl (e7 H1 locs1 ls hP2 hD2 hS1 hl)
  · obtain ⟨hP1, hK1, hD1⟩ := hB
    rw [ht] at hP1
    obtain ⟨hxn, rfl⟩ := hp
    obtain ⟨hP2, hD2⟩ := v_join hP hD hFc hk hP1 hD1
    exact kk hxn H1 locs1 ls hP2 hD2 hS1 hl
/-- a static call of a method with a table that catches all -/
theorem v_sW (C : vC p s m args meth c cc nL Ts own ret G cy A) (hX : xT A s s.heap) (hN : xN s) {hh : List (Nat × Nat × Nat × Nat)} (wl wr : va_W) (k : KW l G cy y wsY fr lc mc ms As wc r w1) (hw : wsY = Cond.codeWith y bytes maxL retY hh :: wsY') (hg : GoodIn Ts (va_wsS own idx y wsY))
    (hy : y.cls ≠ "java/lang/invoke/MethodHandle" ∧ y.cls ≠ "java/lang/invoke/VarHandle" ∧ (parseMethodDescriptor y.desc).map (fun d => d.parameters.length) = some nA) (hna : As.length = nA) (hR : fr + 1 ≤ R.frames ∧ 8 + (maxL + 11) + lc ≤ R.locals) (hcs : cells + mc ≤ R.cells ∧ slots + ms ≤ R.slots)
    (hst : st = As.reverse ++ rest) (hcat : (rest.map fun v => v.category).sum ≤ 8) (hw0 : w = wl ++ (wc ++ wr)) (hw2 : wl ++ (w1 ++ wr) = w2) (hd : decode cc pc = .ok (.invokestatic idx, 3)) (kk : V p l e R s m args below meth c nL G A Q w2 (cells + mc) (slots + ms) (pc + 3) lo (.int r :: rest)) : V p l e R s m args below meth c nL G A Q w cells slots (pc) lo (st) := by
  subst hst
  subst hw0
  subst hw2
  intro H locs ls hP hD hS hl
  obtain ⟨hPc, hDc⟩ := v_in hP hD
  have hFc := v_free hDc hS C.2.2.1
  refine va_calli (vx_runSW (As := As) (rest := rest) C.1 (k H.size) (vx_cwSW nA C.1.2.2.2.2 hg hw rfl rfl hy hR) ⟨vIw_blind, fun U hU hW => ⟨rfl, ⟨⟨by rw [hU], by rw [hU]; exact hPc, va_K.moved hW.alike C.2.1, hDc.weaken (fun _ _ _ _ => trivial)⟩, hX.warm hW (fun a h1 h2 => by rw [hU]; exact hS.2.1 a h1 h2) hFc⟩, hN.warm hW⟩⟩ rfl hna (hl.1.1) rfl (lv_room hcat) hd hcs) hS (fun q _ h => hFc q h) hFc (fun r' u t H1 locs1 ht hvm hr' hB hz hk hS1 => ?_)
  obtain ⟨hP1, hK1, hD1⟩ := hB
  rw [ht] at hP1
  subst hr'
  obtain ⟨hP2, hD2⟩ := v_join hP hD hFc hk hP1 hD1
  exact kk H1 locs1 ls hP2 hD2 hS1 hl
/-- paths that meet with one number on the stack -/
theorem V.join (w' : va_W) (pc' : Nat) (lo' : Int32 → List (Option Value)) (st' : Int32 → List Value) (T : Int32) (k : (∀ v, v = T → V p l e R s m args below meth c nL G A Q w' cells slots (pc') (lo' v) (st' v)) → V p l e R s m args below meth c nL G A Q w cells slots (pc) lo (st)) (j : V p l e R s m args below meth c nL G A Q w' cells slots (pc') (lo' T) (st' T)) : V p l e R s m args below meth c nL G A Q w cells slots (pc) lo (st) := k (fun v hv => hv ▸ j)
end VXR
-- what is thrown, in order
def xq (a b : Option String) : Option String := match a with | some e => some e | none => b
theorem xq_s {a b : Option String} {E : String} (h : a = some E) : xq a b = some E := by rw [h]; rfl
theorem xq_n {a b : Option String} (h : a = none) : xq a b = b := by rw [h]; rfl
noncomputable def xIdx (i c : Int32) : Option String := pif (¬ i < 0 ∧ i < c) none (some nIO)
noncomputable def xRng (v a b : Int32) : Option String := pif (¬ v < a ∧ ¬ b < v) none (some nIA)
theorem xIdx_n {i c : Int32} (h : xIdx i c = none) : ¬ i < 0 ∧ i < c := by
  unfold xIdx at h
  by_cases h1 : ¬ i < 0 ∧ i < c
  · exact h1
  · rw [pif_f h1] at h; cases h
theorem xRng_n {v a b : Int32} (h : xRng v a b = none) : ¬ v < a ∧ ¬ b < v := by
  unfold xRng at h
  by_cases h1 : ¬ v < a ∧ ¬ b < v
  · exact h1
  · rw [pif_f h1] at h; cases h
end
section
/-! DepotLog: its public methods -/
theorem nI_nm {k : Nat} (h : k < 2 ^ 31) : ¬ nI k = -1 := fun q => nI_pos h (by rw [q]; decide)
theorem ix_ex {x : Int32} {N : Nat} (hN : N < 2 ^ 31) (h0 : ¬ x < 0) (h : x < nI N) : ∃ j, j < N ∧ x = nI j := by
  obtain ⟨h1, h2⟩ := ix_of hN h0 h
  exact ⟨_, h2, h1⟩
theorem ix_exr {x : Int32} {N : Nat} (hN : N < 2 ^ 31) (h0 : ¬ x < 0) (h : ¬ nI N < x) : ∃ j, j ≤ N ∧ x = nI j := by
  obtain ⟨j, hj, rfl⟩ := nI_of h0
  exact ⟨j, by rw [nI_ltI hN hj] at h; omega, rfl⟩
theorem xb_IS : ∀ w ∈ (vx_atS RX1 60 nIS xNames).filter (fun w => !goodWord w), w ∈ xWd := by decide +kernel
theorem xg_IS : ∀ w ∈ Cond.classLink RX1 56 nIS :: Cond.initialized nIS :: vx_atS RX1 60 nIS xNames, vx_ot w = true := by decide +kernel
theorem xb_IO : ∀ w ∈ (vx_atS RX1 134 nIO xNames).filter (fun w => !goodWord w), w ∈ xWd := by decide +kernel
theorem xg_IO : ∀ w ∈ Cond.classLink RX1 130 nIO :: Cond.initialized nIO :: vx_atS RX1 134 nIO xNames, vx_ot w = true := by decide +kernel
theorem xb_IA : ∀ w ∈ (vx_atS RX1 139 nIA xNames).filter (fun w => !goodWord w), w ∈ xWd := by decide +kernel
theorem xg_IA : ∀ w ∈ Cond.classLink RX1 135 nIA :: Cond.initialized nIA :: vx_atS RX1 139 nIA xNames, vx_ot w = true := by decide +kernel
set_option maxHeartbeats 4000000 in
set_option maxRecDepth 100000 in
/-- requireIndex(i, c) -/
theorem k_X1_requireIndex (l : Launch) (G : va_G) (cy : Nat → ClassId) (hl : l.stackTraces = false) (w : va_W) (i c : Int32) : KXV l G cy yX1_requireIndex wsX1_requireIndex 6 82 1 6 [.int i, .int c] w (xIdx i c) w := by
  refine KXV_of (own := RX1) (cc := cX1_requireIndex) (maxL := 2) (ret := none) (lo0 := [some (.int i), some (.int c)]) (by decide) rfl rfl (by simp [Value.category]) (Nat.le_of_ble_eq_true rfl) rfl (fun p e s m args below meth c A C hX he => ?_)
  refine v_iload_n C dX1_requireIndex_0 rfl ?_
  refine v_if_lt C 9 dX1_requireIndex_1 (by decide) (fun c1 => ?_) (fun c1 => ?_)
  · -- 1 t: i < 0
    exact v_xthrow C hX he hl (by decide +kernel) (by decide +kernel) (by decide +kernel) (by decide +kernel) xb_IO xg_IO rfl (text := "there is no such number") (by decide +kernel) dX1_requireIndex_9 dX1_requireIndex_12 dX1_requireIndex_13 dX1_requireIndex_15 dX1_requireIndex_18 (by simp [xIdx, xq, pif, c1]) (by decide) (by decide) (by decide) (by decide)
  · -- 1 f: not i < 0
    refine v_iload_n C dX1_requireIndex_4 rfl ?_
    refine v_iload_n C dX1_requireIndex_5 rfl ?_
    refine v_icmp_lt C 19 dX1_requireIndex_6 (by decide) (fun c2 => ?_) (fun c2 => ?_)
    · -- 6 t: i < c
      exact v_xvret C dX1_requireIndex_19 (by simp [xIdx, xq, pif, c1, c2]) (by decide) (by decide)
    · -- 6 f: not i < c
      exact v_xthrow C hX he hl (by decide +kernel) (by decide +kernel) (by decide +kernel) (by decide +kernel) xb_IO xg_IO rfl (text := "there is no such number") (by decide +kernel) dX1_requireIndex_9 dX1_requireIndex_12 dX1_requireIndex_13 dX1_requireIndex_15 dX1_requireIndex_18 (by simp [xIdx, xq, pif, c1, c2]) (by decide) (by decide) (by decide) (by decide)
set_option maxHeartbeats 4000000 in
set_option maxRecDepth 100000 in
/-- requireRange(v, a, b) -/
theorem k_X1_requireRange (l : Launch) (G : va_G) (cy : Nat → ClassId) (hl : l.stackTraces = false) (w : va_W) (v a b : Int32) : KXV l G cy yX1_requireRange wsX1_requireRange 6 82 1 6 [.int v, .int a, .int b] w (xRng v a b) w := by
  refine KXV_of (own := RX1) (cc := cX1_requireRange) (maxL := 3) (ret := none) (lo0 := [some (.int v), some (.int a), some (.int b)]) (by decide) rfl rfl (by simp [Value.category]) (Nat.le_of_ble_eq_true rfl) rfl (fun p e s m args below meth c A C hX he => ?_)
  refine v_iload_n C dX1_requireRange_0 rfl ?_
  refine v_iload_n C dX1_requireRange_1 rfl ?_
  refine v_icmp_lt C 10 dX1_requireRange_2 (by decide) (fun c1 => ?_) (fun c1 => ?_)
  · -- 2 t: v < a
    exact v_xthrow C hX he hl (by decide +kernel) (by decide +kernel) (by decide +kernel) (by decide +kernel) xb_IA xg_IA rfl (text := "an argument is out of range") (by decide +kernel) dX1_requireRange_10 dX1_requireRange_13 dX1_requireRange_14 dX1_requireRange_16 dX1_requireRange_19 (by simp [xRng, xq, pif, c1]) (by decide) (by decide) (by decide) (by decide)
  · -- 2 f: not v < a
    refine v_iload_n C dX1_requireRange_5 rfl ?_
    refine v_iload_n C dX1_requireRange_6 rfl ?_
    refine v_icmp_le C 20 dX1_requireRange_7 (by decide) (fun c2 => ?_) (fun c2 => ?_)
    · -- 7 t: ¬ b < v
      exact v_xvret C dX1_requireRange_20 (by simp [xRng, xq, pif, c1, c2]) (by decide) (by decide)
    · -- 7 f: not ¬ b < v
      exact v_xthrow C hX he hl (by decide +kernel) (by decide +kernel) (by decide +kernel) (by decide +kernel) xb_IA xg_IA rfl (text := "an argument is out of range") (by decide +kernel) dX1_requireRange_10 dX1_requireRange_13 dX1_requireRange_14 dX1_requireRange_16 dX1_requireRange_19 (by simp [xRng, xq, pif, c1, c2]) (by decide) (by decide) (by decide) (by decide)
noncomputable def xrun (x : Sg) (st mi q : Int32) : Option String := xq (xRng st (x 0 0 + 1) 20000) (xq (xRng mi 1 600) (xq (xRng (st - st / 1440 * 1440 + mi) 1 1440) (xq (xRng q 0 100) (pif (x 1 0 < 30) none (some nIS)))))
def frun (n : Nat) (x : Sg) (st mi q : Int32) : Sg := su (ftell x n st mi q) 1 0 (ftell x n st mi q 1 0 + 1)
noncomputable def xlead (d mi : Int32) : Option String := xq (xIdx d 2) (xRng mi 1 1000)
def ledby (x : Sg) (d : Int32) : Prop := flead x = -1 ∨ flead x = d
noncomputable def fleads (x : Sg) (d mi : Int32) : Sg := pif (ledby x d) (su (su x 3 0 d) 4 0 (su x 3 0 d 0 0 + mi)) x
noncomputable def xorder (n : Nat) (x : Sg) (dp mk r b d : Int32) : Option String := xq (xIdx dp 2) (xq (xIdx r (x 1 0)) (xq (xIdx b 5) (xq (xIdx d 5) (xq (xRng mk 0 999) (pif (x 17 mk.toNatClampNeg = -1) (pif (flead x = dp) (pif (canord n x r.toNatClampNeg b.toNatClampNeg d.toNatClampNeg) none (some nIS)) (some nIS)) none)))))
noncomputable def rorder (x : Sg) (mk : Int32) : Int32 := pif (x 17 mk.toNatClampNeg = -1) (x 2 0) (x 17 mk.toNatClampNeg)
noncomputable def forder (om : Nat) (x : Sg) (mk r b d : Int32) : Sg := pif (x 17 mk.toNatClampNeg = -1) (fwrite (fgive x r.toNatClampNeg b d) om mk.toNatClampNeg (100 * r + 10 * b + d)) x
noncomputable def fbreaks (n : Nat) (x : Sg) (b v : Int32) : Sg := pif (v = 0) (su x 13 b.toNatClampNeg v) (it (sswapb n b) n (it (stakeb b) n (funplug (su x 13 b.toNatClampNeg v) b)))
noncomputable def fails (n : Nat) (x : Sg) (d v : Int32) : Sg := pif (v = 0) (su x 14 d.toNatClampNeg v) (it (sswapd n d) n (it (staked d) n (su x 14 d.toNatClampNeg v)))
noncomputable def xplug (n : Nat) (x : Sg) (b c : Int32) : Option String := xq (xIdx b 5) (xq (xIdx c 2) (pif (under n x b) (some nIS) none))
noncomputable def fplug (x : Sg) (b c : Int32) : Sg := su (funplug x b) 15 c.toNatClampNeg b
noncomputable def xadv (x : Sg) (m : Int32) : Option String := xq (xRng m 1 1000) (pif (30000 < x 0 0 + m) (some nIS) none)
noncomputable def fadv (n : Nat) (x : Sg) (m : Int32) : Sg := it (fun _ => fminute n) m.toNatClampNeg x
set_option maxHeartbeats 4000000 in
set_option maxRecDepth 100000 in
/-- run(st, mi, q) -/
theorem k_X1_run (l : Launch) (G : va_G) (cy : Nat → ClassId) (hl : l.stackTraces = false) (ad : Nat → Nat) (x : Sg) (n : Nat) (hn : x 1 0 = nI n) (h30 : n ≤ 30) (st mi q : Int32) : KXI l G cy yX1_run wsX1_run 7 104 8 48 [.ref (ad 0), .int st, .int mi, .int q] (wD cy ad x) (xrun x st mi q) (x 1 0) (wD cy ad (frun n x st mi q)) := by
  have hin1 : ∀ q ∈ u_ws RX1 TX1 12, q ∈ wsX1_run := by decide +kernel
  refine KXI_of (own := RX1) (cc := cX1_run) (maxL := 5) (ret := (some .int)) (lo0 := [some (.ref (ad 0)), some (.int st), some (.int mi), some (.int q), none]) (by decide) rfl rfl (by simp [Value.category]) (Nat.le_of_ble_eq_true rfl) rfl (fun p e s m args below meth c A C hX he => ?_)
  refine v_iload_n C dX1_run_0 rfl ?_
  refine v_aload_n C dX1_run_1 rfl ?_
  refine vD_g_minute C hin1 (by decide +kernel) dX1_run_2 ?_
  refine v_iconst C (1) dX1_run_5 (by decide) ?_
  refine v_iadd C dX1_run_6 ?_
  refine v_sipush C (20000) dX1_run_7 (by decide) ?_
  refine v_xSV C hX he (k_X1_requireRange l G cy hl (wD cy ad x) st ((x 0 0) + 1) 20000) rfl gX1_run_X1_requireRange (nA := 3) (by decide +kernel) rfl (by decide) (by decide) (by decide) rfl (Nat.le_of_ble_eq_true rfl) dX1_run_10 (fun E h => by simp [xrun, xq, pif, h]) (fun hx1 => ?_)
  refine v_iload_n C dX1_run_13 rfl ?_
  refine v_iconst C (1) dX1_run_14 (by decide) ?_
  refine v_sipush C (600) dX1_run_15 (by decide) ?_
  refine v_xSV C hX he (k_X1_requireRange l G cy hl (wD cy ad x) mi 1 600) rfl gX1_run_X1_requireRange (nA := 3) (by decide +kernel) rfl (by decide) (by decide) (by decide) rfl (Nat.le_of_ble_eq_true rfl) dX1_run_18 (fun E h => by simp [xrun, xq, pif, h, hx1]) (fun hx2 => ?_)
  refine v_iload_n C dX1_run_21 rfl ?_
  refine v_sipush C (1440) dX1_run_22 (by decide) ?_
  refine v_irem C dX1_run_25 (by decide) ?_
  refine v_iload_n C dX1_run_26 rfl ?_
  refine v_iadd C dX1_run_27 ?_
  refine v_iconst C (1) dX1_run_28 (by decide) ?_
  refine v_sipush C (1440) dX1_run_29 (by decide) ?_
  refine v_xSV C hX he (k_X1_requireRange l G cy hl (wD cy ad x) ((st - st / 1440 * 1440) + mi) 1 1440) rfl gX1_run_X1_requireRange (nA := 3) (by decide +kernel) rfl (by decide) (by decide) (by decide) rfl (Nat.le_of_ble_eq_true rfl) dX1_run_32 (fun E h => by simp [xrun, xq, pif, h, hx1, hx2]) (fun hx3 => ?_)
  refine v_iload_n C dX1_run_35 rfl ?_
  refine v_iconst C (0) dX1_run_36 (by decide) ?_
  refine v_bipush C (100) dX1_run_37 (by decide) ?_
  refine v_xSV C hX he (k_X1_requireRange l G cy hl (wD cy ad x) q 0 100) rfl gX1_run_X1_requireRange (nA := 3) (by decide +kernel) rfl (by decide) (by decide) (by decide) rfl (Nat.le_of_ble_eq_true rfl) dX1_run_39 (fun E h => by simp [xrun, xq, pif, h, hx1, hx2, hx3]) (fun hx4 => ?_)
  refine v_aload_n C dX1_run_42 rfl ?_
  refine vD_g_runCount C hin1 (by decide +kernel) dX1_run_43 ?_
  refine v_bipush C (30) dX1_run_46 (by decide) ?_
  refine v_icmp_lt C 61 dX1_run_48 (by decide) (fun c1 => ?_) (fun c1 => ?_)
  · -- 48 t: (x 1 0) < 30
    have hn30 : n < 30 := (nI_ltI (by omega) (by decide)).mp (by rw [← hn]; exact c1)
    refine v_aload_n C dX1_run_61 rfl ?_
    refine vD_g_runCount C hin1 (by decide +kernel) dX1_run_62 ?_
    refine v_istore C dX1_run_65 (by decide) ?_
    refine v_aload_n C dX1_run_67 rfl ?_
    refine vD_g_rows C hin1 (by decide +kernel) dX1_run_68 ?_
    refine v_iload C dX1_run_71 rfl ?_
    refine vD_aald C n hn (by omega) dX1_run_73 ?_
    refine v_iload_n C dX1_run_74 rfl ?_
    refine v_iload_n C dX1_run_75 rfl ?_
    refine v_iload_n C dX1_run_76 rfl ?_
    refine vR_cV C (by omega) (k_X0_tell l G cy ad x n (by omega) st mi q) rfl gX1_run_X0_tell (nA := 3) (by decide +kernel) rfl (by decide) (by decide) rfl rfl (Nat.le_of_ble_eq_true rfl) dX1_run_77 ?_
    refine v_aload_n C dX1_run_80 rfl ?_
    refine v_dup C dX1_run_81 rfl ?_
    refine vD_g_runCount C hin1 (by decide +kernel) dX1_run_82 ?_
    refine v_iconst C (1) dX1_run_85 (by decide) ?_
    refine v_iadd C dX1_run_86 ?_
    refine vD_p_runCount C hin1 (by decide +kernel) dX1_run_87 ?_
    refine v_iload C dX1_run_90 rfl ?_
    refine v_xiret C dX1_run_92 (by simp [xrun, xq, pif, hx1, hx2, hx3, hx4, c1]) ?_ (by decide) (by decide)
    rfl
  · -- 48 f: not (x 1 0) < 30
    exact v_xthrow C hX he hl (by decide +kernel) (by decide +kernel) (by decide +kernel) (by decide +kernel) xb_IS xg_IS rfl (text := "there are 30 runs") (by decide +kernel) dX1_run_51 dX1_run_54 dX1_run_55 dX1_run_57 dX1_run_60 (by simp [xrun, xq, pif, hx1, hx2, hx3, hx4, c1]) (by decide) (by decide) (by decide) (by decide)
set_option maxHeartbeats 4000000 in
set_option maxRecDepth 100000 in
/-- lead(d, mi) -/
theorem k_X1_lead (l : Launch) (G : va_G) (cy : Nat → ClassId) (hl : l.stackTraces = false) (ad : Nat → Nat) (x : Sg) (d mi : Int32) : KXI l G cy yX1_lead wsX1_lead 7 104 8 48 [.ref (ad 0), .int d, .int mi] (wD cy ad x) (xlead d mi) (b2i (ledby x d)) (wD cy ad (fleads x d mi)) := by
  have hin1 : ∀ q ∈ u_ws RX1 TX1 12, q ∈ wsX1_lead := by decide +kernel
  refine KXI_of (own := RX1) (cc := cX1_lead) (maxL := 4) (ret := (some .boolean)) (lo0 := [some (.ref (ad 0)), some (.int d), some (.int mi), none]) (by decide) rfl rfl (by simp [Value.category]) (Nat.le_of_ble_eq_true rfl) rfl (fun p e s m args below meth c A C hX he => ?_)
  refine v_iload_n C dX1_lead_0 rfl ?_
  refine v_iconst C (2) dX1_lead_1 (by decide) ?_
  refine v_xSV C hX he (k_X1_requireIndex l G cy hl (wD cy ad x) d 2) rfl gX1_lead_X1_requireIndex (nA := 2) (by decide +kernel) rfl (by decide) (by decide) (by decide) rfl (Nat.le_of_ble_eq_true rfl) dX1_lead_2 (fun E h => by simp [xlead, xq, pif, h]) (fun hx1 => ?_)
  refine v_iload_n C dX1_lead_5 rfl ?_
  refine v_iconst C (1) dX1_lead_6 (by decide) ?_
  refine v_sipush C (1000) dX1_lead_7 (by decide) ?_
  refine v_xSV C hX he (k_X1_requireRange l G cy hl (wD cy ad x) mi 1 1000) rfl gX1_lead_X1_requireRange (nA := 3) (by decide +kernel) rfl (by decide) (by decide) (by decide) rfl (Nat.le_of_ble_eq_true rfl) dX1_lead_10 (fun E h => by simp [xlead, xq, pif, h, hx1]) (fun hx2 => ?_)
  refine v_aload_n C dX1_lead_13 rfl ?_
  refine vD_cI C (k_X1_leader l G cy ad x) rfl gX1_lead_X1_leader (nA := 0) (by decide +kernel) rfl (by decide) (by decide) rfl rfl (Nat.le_of_ble_eq_true rfl) dX1_lead_14 ?_
  refine v_istore_n C dX1_lead_17 (by decide) ?_
  refine v_iload_n C dX1_lead_18 rfl ?_
  refine v_iconst C (-1) dX1_lead_19 (by decide) ?_
  refine v_icmp_eq C 30 dX1_lead_20 (by decide) (fun c1 => ?_) (fun c1 => ?_)
  · -- 20 t: (flead x) = (-1)
    refine v_aload_n C dX1_lead_30 rfl ?_
    refine v_iload_n C dX1_lead_31 rfl ?_
    refine vD_p_holder C hin1 (by decide +kernel) dX1_lead_32 ?_
    refine v_aload_n C dX1_lead_35 rfl ?_
    refine v_aload_n C dX1_lead_36 rfl ?_
    refine vD_g_minute C hin1 (by decide +kernel) dX1_lead_37 ?_
    refine v_iload_n C dX1_lead_40 rfl ?_
    refine v_iadd C dX1_lead_41 ?_
    refine vD_p_leaseEnd C hin1 (by decide +kernel) dX1_lead_42 ?_
    refine v_iconst C (1) dX1_lead_45 (by decide) ?_
    have e9 : fleads x d mi = su (su x 3 0 d) 4 0 (((su x 3 0 d) 0 0) + mi) := by simp [fleads, ledby, pif, c1]
    rw [e9]
    refine v_xzret C rfl dX1_lead_46 (by simp [xlead, xq, pif, hx1, hx2, c1]) ?_ (by decide) (by decide)
    exact (b2i_t (by simp [ledby, c1])).symm
  · -- 20 f: not (flead x) = (-1)
    refine v_iload_n C dX1_lead_23 rfl ?_
    refine v_iload_n C dX1_lead_24 rfl ?_
    refine v_icmp_eq C 30 dX1_lead_25 (by decide) (fun c2 => ?_) (fun c2 => ?_)
    · -- 25 t: (flead x) = d
      refine v_aload_n C dX1_lead_30 rfl ?_
      refine v_iload_n C dX1_lead_31 rfl ?_
      refine vD_p_holder C hin1 (by decide +kernel) dX1_lead_32 ?_
      refine v_aload_n C dX1_lead_35 rfl ?_
      refine v_aload_n C dX1_lead_36 rfl ?_
      refine vD_g_minute C hin1 (by decide +kernel) dX1_lead_37 ?_
      refine v_iload_n C dX1_lead_40 rfl ?_
      refine v_iadd C dX1_lead_41 ?_
      refine vD_p_leaseEnd C hin1 (by decide +kernel) dX1_lead_42 ?_
      refine v_iconst C (1) dX1_lead_45 (by decide) ?_
      have e9 : fleads x d mi = su (su x 3 0 d) 4 0 (((su x 3 0 d) 0 0) + mi) := by simp [fleads, ledby, pif, c1, c2]
      rw [e9]
      refine v_xzret C rfl dX1_lead_46 (by simp [xlead, xq, pif, hx1, hx2, c1, c2]) ?_ (by decide) (by decide)
      exact (b2i_t (by simp [ledby, c1, c2])).symm
    · -- 25 f: not (flead x) = d
      refine v_iconst C (0) dX1_lead_28 (by decide) ?_
      have e9 : fleads x d mi = x := by simp [fleads, ledby, pif, c1, c2]
      rw [e9]
      refine v_xzret C rfl dX1_lead_29 (by simp [xlead, xq, pif, hx1, hx2, c1, c2]) ?_ (by decide) (by decide)
      exact (b2i_f (by simp [ledby, c1, c2])).symm
set_option maxHeartbeats 4000000 in
set_option maxRecDepth 100000 in
/-- order(dp, mk, r, b, d) -/
theorem k_X1_order (l : Launch) (G : va_G) (cy : Nat → ClassId) (hl : l.stackTraces = false) (ad : Nat → Nat) (x : Sg) (n : Nat) (hn : x 1 0 = nI n) (h30 : n ≤ 30) (om : Nat) (hom : x 2 0 = nI om) (hom1 : om < 1000) (dp mk r b d : Int32) : KXI l G cy yX1_order wsX1_order 7 113 8 48 [.ref (ad 0), .int dp, .int mk, .int r, .int b, .int d] (wD cy ad x) (xorder n x dp mk r b d) (rorder x mk) (wD cy ad (forder om x mk r b d)) := by
  have hin1 : ∀ q ∈ u_ws RX1 TX1 12, q ∈ wsX1_order := by decide +kernel
  refine KXI_of (own := RX1) (cc := cX1_order) (maxL := 6) (ret := (some .int)) (lo0 := [some (.ref (ad 0)), some (.int dp), some (.int mk), some (.int r), some (.int b), some (.int d)]) (by decide) rfl rfl (by simp [Value.category]) (Nat.le_of_ble_eq_true rfl) rfl (fun p e s m args below meth c A C hX he => ?_)
  refine v_iload_n C dX1_order_0 rfl ?_
  refine v_iconst C (2) dX1_order_1 (by decide) ?_
  refine v_xSV C hX he (k_X1_requireIndex l G cy hl (wD cy ad x) dp 2) rfl gX1_order_X1_requireIndex (nA := 2) (by decide +kernel) rfl (by decide) (by decide) (by decide) rfl (Nat.le_of_ble_eq_true rfl) dX1_order_2 (fun E h => by simp [xorder, xq, pif, h]) (fun hx1 => ?_)
  refine v_iload_n C dX1_order_5 rfl ?_
  refine v_aload_n C dX1_order_6 rfl ?_
  refine vD_g_runCount C hin1 (by decide +kernel) dX1_order_7 ?_
  refine v_xSV C hX he (k_X1_requireIndex l G cy hl (wD cy ad x) r (x 1 0)) rfl gX1_order_X1_requireIndex (nA := 2) (by decide +kernel) rfl (by decide) (by decide) (by decide) rfl (Nat.le_of_ble_eq_true rfl) dX1_order_10 (fun E h => by simp [xorder, xq, pif, h, hx1]) (fun hx2 => ?_)
  obtain ⟨jr, hjr, rfl⟩ := ix_ex (N := n) (by omega) (xIdx_n hx2).1 (hn ▸ (xIdx_n hx2).2)
  have hcjr : (nI jr).toNatClampNeg = jr := nI_clamp (by omega)
  refine v_iload C dX1_order_13 rfl ?_
  refine v_iconst C (5) dX1_order_15 (by decide) ?_
  refine v_xSV C hX he (k_X1_requireIndex l G cy hl (wD cy ad x) b 5) rfl gX1_order_X1_requireIndex (nA := 2) (by decide +kernel) rfl (by decide) (by decide) (by decide) rfl (Nat.le_of_ble_eq_true rfl) dX1_order_16 (fun E h => by simp [xorder, xq, pif, h, hx1, hx2, hcjr]) (fun hx3 => ?_)
  obtain ⟨jb, hjb, rfl⟩ := ix_ex (N := 5) (by decide) (xIdx_n hx3).1 (xIdx_n hx3).2
  have hcjb : (nI jb).toNatClampNeg = jb := nI_clamp (by omega)
  refine v_iload C dX1_order_19 rfl ?_
  refine v_iconst C (5) dX1_order_21 (by decide) ?_
  refine v_xSV C hX he (k_X1_requireIndex l G cy hl (wD cy ad x) d 5) rfl gX1_order_X1_requireIndex (nA := 2) (by decide +kernel) rfl (by decide) (by decide) (by decide) rfl (Nat.le_of_ble_eq_true rfl) dX1_order_22 (fun E h => by simp [xorder, xq, pif, h, hx1, hx2, hx3, hcjr, hcjb]) (fun hx4 => ?_)
  obtain ⟨jd, hjd, rfl⟩ := ix_ex (N := 5) (by decide) (xIdx_n hx4).1 (xIdx_n hx4).2
  have hcjd : (nI jd).toNatClampNeg = jd := nI_clamp (by omega)
  refine v_iload_n C dX1_order_25 rfl ?_
  refine v_iconst C (0) dX1_order_26 (by decide) ?_
  refine v_sipush C (999) dX1_order_27 (by decide) ?_
  refine v_xSV C hX he (k_X1_requireRange l G cy hl (wD cy ad x) mk 0 999) rfl gX1_order_X1_requireRange (nA := 3) (by decide +kernel) rfl (by decide) (by decide) (by decide) rfl (Nat.le_of_ble_eq_true rfl) dX1_order_30 (fun E h => by simp [xorder, xq, pif, h, hx1, hx2, hx3, hx4, hcjr, hcjb, hcjd]) (fun hx5 => ?_)
  obtain ⟨jmk, hjmk, rfl⟩ := ix_exr (N := 999) (by decide) (xRng_n hx5).1 (xRng_n hx5).2
  have hcjmk : (nI jmk).toNatClampNeg = jmk := nI_clamp (by omega)
  refine v_aload_n C dX1_order_33 rfl ?_
  refine vD_g_numberOfMark C hin1 (by decide +kernel) dX1_order_34 ?_
  refine v_iload_n C dX1_order_37 rfl ?_
  refine vD_l_numberOfMark C jmk rfl (by omega) dX1_order_38 ?_
  refine v_iconst C (-1) dX1_order_39 (by decide) ?_
  refine v_icmp_eq C 50 dX1_order_40 (by decide) (fun c1 => ?_) (fun c1 => ?_)
  · -- 40 t: (x 17 jmk) = (-1)
    refine v_aload_n C dX1_order_50 rfl ?_
    refine vD_cI C (k_X1_leader l G cy ad x) rfl gX1_order_X1_leader (nA := 0) (by decide +kernel) rfl (by decide) (by decide) rfl rfl (Nat.le_of_ble_eq_true rfl) dX1_order_51 ?_
    refine v_iload_n C dX1_order_54 rfl ?_
    refine v_icmp_ne C 75 dX1_order_55 (by decide) (fun c2 => ?_) (fun c2 => ?_)
    · -- 55 t: ¬ (flead x) = dp
      exact v_xthrow C hX he hl (by decide +kernel) (by decide +kernel) (by decide +kernel) (by decide +kernel) xb_IS xg_IS rfl (text := "the run can't be ordered so") (by decide +kernel) dX1_order_75 dX1_order_78 dX1_order_79 dX1_order_81 dX1_order_84 (by simp [xorder, xq, pif, hx1, hx2, hx3, hx4, hx5, hcjr, hcjb, hcjd, hcjmk, c1, c2]) (by decide) (by decide) (by decide) (by decide)
    · -- 55 f: not ¬ (flead x) = dp
      refine v_aload_n C dX1_order_58 rfl ?_
      refine v_aload_n C dX1_order_59 rfl ?_
      refine vD_g_rows C hin1 (by decide +kernel) dX1_order_60 ?_
      refine v_iload_n C dX1_order_63 rfl ?_
      refine vD_aald C jr rfl (by omega) dX1_order_64 ?_
      refine v_iload C dX1_order_65 rfl ?_
      refine v_iload C dX1_order_67 rfl ?_
      refine vD_cI C (k_X1_canBeOrdered l G cy ad x n hn h30 jr (by omega) jb (by omega) jd (by omega)) rfl gX1_order_X1_canBeOrdered (nA := 3) (by decide +kernel) rfl (by decide) (by decide) rfl rfl (Nat.le_of_ble_eq_true rfl) dX1_order_69 ?_
      refine v_if_ne C 85 dX1_order_72 (by decide) (fun c3 => ?_) (fun c3 => ?_)
      · -- 72 t: ¬ (b2i (canord n x jr jb jd)) = 0
        replace c3 := Classical.not_not.mp (fun z => c3 (b2i_0.mpr z))
        refine v_aload_n C dX1_order_85 rfl ?_
        refine vD_g_rows C hin1 (by decide +kernel) dX1_order_86 ?_
        refine v_iload_n C dX1_order_89 rfl ?_
        refine vD_aald C jr rfl (by omega) dX1_order_90 ?_
        refine v_iload C dX1_order_91 rfl ?_
        refine v_iload C dX1_order_93 rfl ?_
        refine vR_cV C (by omega) (k_X0_give l G cy ad x jr (by omega) (nI jb) (nI jd)) rfl gX1_order_X0_give (nA := 2) (by decide +kernel) rfl (by decide) (by decide) rfl rfl (Nat.le_of_ble_eq_true rfl) dX1_order_95 ?_
        refine v_aload_n C dX1_order_98 rfl ?_
        refine v_iload_n C dX1_order_99 rfl ?_
        refine v_bipush C (100) dX1_order_100 (by decide) ?_
        refine v_iload_n C dX1_order_102 rfl ?_
        refine v_imul C dX1_order_103 ?_
        refine v_bipush C (10) dX1_order_104 (by decide) ?_
        refine v_iload C dX1_order_106 rfl ?_
        refine v_imul C dX1_order_108 ?_
        refine v_iadd C dX1_order_109 ?_
        refine v_iload C dX1_order_110 rfl ?_
        refine v_iadd C dX1_order_112 ?_
        refine vD_cI C (k_X1_write l G cy ad (fgive x jr (nI jb) (nI jd)) om (by rw [show (fgive x jr (nI jb) (nI jd)) 2 0 = x 2 0 from by simp [fgive, su_f]]; exact hom) hom1 jmk (by omega) (((100 * (nI jr)) + (10 * (nI jb))) + (nI jd))) rfl gX1_order_X1_write (nA := 2) (by decide +kernel) rfl (by decide) (by decide) rfl rfl (Nat.le_of_ble_eq_true rfl) dX1_order_113 ?_
        have e9 : forder om x (nI jmk) (nI jr) (nI jb) (nI jd) = fwrite (fgive x jr (nI jb) (nI jd)) om jmk (((100 * (nI jr)) + (10 * (nI jb))) + (nI jd)) := by simp [forder, hcjr, hcjmk, pif, c1, c2, c3]
        rw [e9]
        refine v_xiret C dX1_order_116 (by simp [xorder, xq, pif, hx1, hx2, hx3, hx4, hx5, hcjr, hcjb, hcjd, hcjmk, c1, c2, c3]) ?_ (by decide) (by decide)
        simp [rorder, hcjmk, pif, fgive, su_f, c1, c2, c3]
      · -- 72 f: not ¬ (b2i (canord n x jr jb jd)) = 0
        replace c3 := b2i_0.mp c3
        exact v_xthrow C hX he hl (by decide +kernel) (by decide +kernel) (by decide +kernel) (by decide +kernel) xb_IS xg_IS rfl (text := "the run can't be ordered so") (by decide +kernel) dX1_order_75 dX1_order_78 dX1_order_79 dX1_order_81 dX1_order_84 (by simp [xorder, xq, pif, hx1, hx2, hx3, hx4, hx5, hcjr, hcjb, hcjd, hcjmk, c1, c2, c3]) (by decide) (by decide) (by decide) (by decide)
  · -- 40 f: not (x 17 jmk) = (-1)
    refine v_aload_n C dX1_order_43 rfl ?_
    refine vD_g_numberOfMark C hin1 (by decide +kernel) dX1_order_44 ?_
    refine v_iload_n C dX1_order_47 rfl ?_
    refine vD_l_numberOfMark C jmk rfl (by omega) dX1_order_48 ?_
    have e9 : forder om x (nI jmk) (nI jr) (nI jb) (nI jd) = x := by simp [forder, hcjr, hcjmk, pif, c1]
    rw [e9]
    refine v_xiret C dX1_order_49 (by simp [xorder, xq, pif, hx1, hx2, hx3, hx4, hx5, hcjr, hcjb, hcjd, hcjmk, c1]) ?_ (by decide) (by decide)
    simp [rorder, hcjmk, pif, fgive, su_f, c1]
set_option maxHeartbeats 4000000 in
set_option maxRecDepth 100000 in
/-- breaks(b, v) -/
theorem k_X1_breaks (l : Launch) (G : va_G) (cy : Nat → ClassId) (hl : l.stackTraces = false) (ad : Nat → Nat) (x : Sg) (n : Nat) (hn : x 1 0 = nI n) (h30 : n ≤ 30) (hbo : ∀ k, vp_nar .boolean (x 13 k) = x 13 k) (v : Int32) (hv : vp_nar .boolean v = v) (b : Int32) : KXI l G cy yX1_breaks wsX1_breaks 7 112 8 48 [.ref (ad 0), .int b, .int v] (wD cy ad x) (xIdx b 5) (x 13 b.toNatClampNeg) (wD cy ad (fbreaks n x b v)) := by
  have hin1 : ∀ q ∈ u_ws RX1 TX1 12, q ∈ wsX1_breaks := by decide +kernel
  refine KXI_of (own := RX1) (cc := cX1_breaks) (maxL := 4) (ret := (some .boolean)) (lo0 := [some (.ref (ad 0)), some (.int b), some (.int v), none]) (by decide) rfl rfl (by simp [Value.category]) (Nat.le_of_ble_eq_true rfl) rfl (fun p e s m args below meth c A C hX he => ?_)
  refine v_iload_n C dX1_breaks_0 rfl ?_
  refine v_iconst C (5) dX1_breaks_1 (by decide) ?_
  refine v_xSV C hX he (k_X1_requireIndex l G cy hl (wD cy ad x) b 5) rfl gX1_breaks_X1_requireIndex (nA := 2) (by decide +kernel) rfl (by decide) (by decide) (by decide) rfl (Nat.le_of_ble_eq_true rfl) dX1_breaks_2 (fun E h => by simp [xq, pif, h]) (fun hx1 => ?_)
  obtain ⟨jb, hjb, rfl⟩ := ix_ex (N := 5) (by decide) (xIdx_n hx1).1 (xIdx_n hx1).2
  have hcjb : (nI jb).toNatClampNeg = jb := nI_clamp (by omega)
  refine v_aload_n C dX1_breaks_5 rfl ?_
  refine vD_g_broken C hin1 (by decide +kernel) dX1_breaks_6 ?_
  refine v_iload_n C dX1_breaks_9 rfl ?_
  refine vD_l_broken C jb rfl (by omega) dX1_breaks_10 ?_
  refine v_istore_n C dX1_breaks_11 (by decide) ?_
  refine v_aload_n C dX1_breaks_12 rfl ?_
  refine vD_g_broken C hin1 (by decide +kernel) dX1_breaks_13 ?_
  refine v_iload_n C dX1_breaks_16 rfl ?_
  refine v_iload_n C dX1_breaks_17 rfl ?_
  refine vD_s_broken C jb rfl (by omega) (by first | assumption | exact hbo _ | (simp [su]; assumption) | decide) dX1_breaks_18 ?_
  refine v_iload_n C dX1_breaks_19 rfl ?_
  refine v_if_eq C 38 dX1_breaks_20 (by decide) (fun c1 => ?_) (fun c1 => ?_)
  · -- 20 t: v = 0
    refine v_iload_n C dX1_breaks_38 rfl ?_
    have e9 : fbreaks n x (nI jb) v = su x 13 jb v := by simp [fbreaks, hcjb, pif, c1]
    rw [e9]
    refine v_xzret C (by first | assumption | exact hbo _ | (simp [su]; assumption) | decide) dX1_breaks_39 (by simp [xq, pif, hx1, hcjb, c1]) ?_ (by decide) (by decide)
    rw [hcjb]
  · -- 20 f: not v = 0
    have hn1 : (funplug (su x 13 jb v) (nI jb)) 1 0 = nI n := by rw [funplug_f _ _ (by decide), su_f _ _ _ _ (by decide)]; exact hn
    have hn2 : (it (stakeb (nI jb)) n (funplug (su x 13 jb v) (nI jb))) 1 0 = nI n := by rw [it_f (fun c y => stakeb_f _ c y (by decide) (by decide) (by decide))]; exact hn1
    refine v_aload_n C dX1_breaks_23 rfl ?_
    refine v_iload_n C dX1_breaks_24 rfl ?_
    refine vD_cV C (k_X1_unplug l G cy ad (su x 13 jb v) (nI jb)) rfl gX1_breaks_X1_unplug (nA := 1) (by decide +kernel) rfl (by decide) (by decide) rfl rfl (Nat.le_of_ble_eq_true rfl) dX1_breaks_25 ?_
    refine v_aload_n C dX1_breaks_28 rfl ?_
    refine v_iload_n C dX1_breaks_29 rfl ?_
    refine vD_cV C (k_X1_takeOrdersFromBus l G cy ad (funplug (su x 13 jb v) (nI jb)) n hn1 h30 (nI jb)) rfl gX1_breaks_X1_takeOrdersFromBus (nA := 1) (by decide +kernel) rfl (by decide) (by decide) rfl rfl (Nat.le_of_ble_eq_true rfl) dX1_breaks_30 ?_
    refine v_aload_n C dX1_breaks_33 rfl ?_
    refine v_iload_n C dX1_breaks_34 rfl ?_
    refine vD_cV C (k_X1_swapBus l G cy ad (it (stakeb (nI jb)) n (funplug (su x 13 jb v) (nI jb))) n hn2 h30 (nI jb)) rfl gX1_breaks_X1_swapBus (nA := 1) (by decide +kernel) rfl (by decide) (by decide) rfl rfl (Nat.le_of_ble_eq_true rfl) dX1_breaks_35 ?_
    refine v_iload_n C dX1_breaks_38 rfl ?_
    have e9 : fbreaks n x (nI jb) v = it (sswapb n (nI jb)) n (it (stakeb (nI jb)) n (funplug (su x 13 jb v) (nI jb))) := by simp [fbreaks, hcjb, pif, c1]
    rw [e9]
    refine v_xzret C (by first | assumption | exact hbo _ | (simp [su]; assumption) | decide) dX1_breaks_39 (by simp [xq, pif, hx1, hcjb, c1]) ?_ (by decide) (by decide)
    rw [hcjb]
set_option maxHeartbeats 4000000 in
set_option maxRecDepth 100000 in
/-- ails(d, v) -/
theorem k_X1_ails (l : Launch) (G : va_G) (cy : Nat → ClassId) (hl : l.stackTraces = false) (ad : Nat → Nat) (x : Sg) (n : Nat) (hn : x 1 0 = nI n) (h30 : n ≤ 30) (hbo : ∀ k, vp_nar .boolean (x 14 k) = x 14 k) (v : Int32) (hv : vp_nar .boolean v = v) (d : Int32) : KXI l G cy yX1_ails wsX1_ails 7 156 8 48 [.ref (ad 0), .int d, .int v] (wD cy ad x) (xIdx d 5) (x 14 d.toNatClampNeg) (wD cy ad (fails n x d v)) := by
  have hin1 : ∀ q ∈ u_ws RX1 TX1 12, q ∈ wsX1_ails := by decide +kernel
  refine KXI_of (own := RX1) (cc := cX1_ails) (maxL := 4) (ret := (some .boolean)) (lo0 := [some (.ref (ad 0)), some (.int d), some (.int v), none]) (by decide) rfl rfl (by simp [Value.category]) (Nat.le_of_ble_eq_true rfl) rfl (fun p e s m args below meth c A C hX he => ?_)
  refine v_iload_n C dX1_ails_0 rfl ?_
  refine v_iconst C (5) dX1_ails_1 (by decide) ?_
  refine v_xSV C hX he (k_X1_requireIndex l G cy hl (wD cy ad x) d 5) rfl gX1_ails_X1_requireIndex (nA := 2) (by decide +kernel) rfl (by decide) (by decide) (by decide) rfl (Nat.le_of_ble_eq_true rfl) dX1_ails_2 (fun E h => by simp [xq, pif, h]) (fun hx1 => ?_)
  obtain ⟨jd, hjd, rfl⟩ := ix_ex (N := 5) (by decide) (xIdx_n hx1).1 (xIdx_n hx1).2
  have hcjd : (nI jd).toNatClampNeg = jd := nI_clamp (by omega)
  refine v_aload_n C dX1_ails_5 rfl ?_
  refine vD_g_ill C hin1 (by decide +kernel) dX1_ails_6 ?_
  refine v_iload_n C dX1_ails_9 rfl ?_
  refine vD_l_ill C jd rfl (by omega) dX1_ails_10 ?_
  refine v_istore_n C dX1_ails_11 (by decide) ?_
  refine v_aload_n C dX1_ails_12 rfl ?_
  refine vD_g_ill C hin1 (by decide +kernel) dX1_ails_13 ?_
  refine v_iload_n C dX1_ails_16 rfl ?_
  refine v_iload_n C dX1_ails_17 rfl ?_
  refine vD_s_ill C jd rfl (by omega) (by first | assumption | exact hbo _ | (simp [su]; assumption) | decide) dX1_ails_18 ?_
  refine v_iload_n C dX1_ails_19 rfl ?_
  refine v_if_eq C 33 dX1_ails_20 (by decide) (fun c1 => ?_) (fun c1 => ?_)
  · -- 20 t: v = 0
    refine v_iload_n C dX1_ails_33 rfl ?_
    have e9 : fails n x (nI jd) v = su x 14 jd v := by simp [fails, hcjd, pif, c1]
    rw [e9]
    refine v_xzret C (by first | assumption | exact hbo _ | (simp [su]; assumption) | decide) dX1_ails_34 (by simp [xq, pif, hx1, hcjd, c1]) ?_ (by decide) (by decide)
    rw [hcjd]
  · -- 20 f: not v = 0
    have hn1 : (su x 14 jd v) 1 0 = nI n := by rw [su_f _ _ _ _ (by decide)]; exact hn
    have hn2 : (it (staked (nI jd)) n (su x 14 jd v)) 1 0 = nI n := by rw [it_f (fun c y => staked_f _ c y (by decide) (by decide) (by decide))]; exact hn1
    refine v_aload_n C dX1_ails_23 rfl ?_
    refine v_iload_n C dX1_ails_24 rfl ?_
    refine vD_cV C (k_X1_takeOrdersFromDriver l G cy ad (su x 14 jd v) n hn1 h30 (nI jd)) rfl gX1_ails_X1_takeOrdersFromDriver (nA := 1) (by decide +kernel) rfl (by decide) (by decide) rfl rfl (Nat.le_of_ble_eq_true rfl) dX1_ails_25 ?_
    refine v_aload_n C dX1_ails_28 rfl ?_
    refine v_iload_n C dX1_ails_29 rfl ?_
    refine vD_cV C (k_X1_swapDriver l G cy ad (it (staked (nI jd)) n (su x 14 jd v)) n hn2 h30 (nI jd)) rfl gX1_ails_X1_swapDriver (nA := 1) (by decide +kernel) rfl (by decide) (by decide) rfl rfl (Nat.le_of_ble_eq_true rfl) dX1_ails_30 ?_
    refine v_iload_n C dX1_ails_33 rfl ?_
    have e9 : fails n x (nI jd) v = it (sswapd n (nI jd)) n (it (staked (nI jd)) n (su x 14 jd v)) := by simp [fails, hcjd, pif, c1]
    rw [e9]
    refine v_xzret C (by first | assumption | exact hbo _ | (simp [su]; assumption) | decide) dX1_ails_34 (by simp [xq, pif, hx1, hcjd, c1]) ?_ (by decide) (by decide)
    rw [hcjd]
set_option maxHeartbeats 4000000 in
set_option maxRecDepth 100000 in
/-- plug(b, ch) -/
theorem k_X1_plug (l : Launch) (G : va_G) (cy : Nat → ClassId) (hl : l.stackTraces = false) (ad : Nat → Nat) (x : Sg) (n : Nat) (hn : x 1 0 = nI n) (h30 : n ≤ 30) (b ch : Int32) : KXI l G cy yX1_plug wsX1_plug 7 103 8 48 [.ref (ad 0), .int b, .int ch] (wD cy ad x) (xplug n x b ch) ((funplug x b) 15 ch.toNatClampNeg) (wD cy ad (fplug x b ch)) := by
  have hin1 : ∀ q ∈ u_ws RX1 TX1 12, q ∈ wsX1_plug := by decide +kernel
  refine KXI_of (own := RX1) (cc := cX1_plug) (maxL := 4) (ret := (some .int)) (lo0 := [some (.ref (ad 0)), some (.int b), some (.int ch), none]) (by decide) rfl rfl (by simp [Value.category]) (Nat.le_of_ble_eq_true rfl) rfl (fun p e s m args below meth c A C hX he => ?_)
  refine v_iload_n C dX1_plug_0 rfl ?_
  refine v_iconst C (5) dX1_plug_1 (by decide) ?_
  refine v_xSV C hX he (k_X1_requireIndex l G cy hl (wD cy ad x) b 5) rfl gX1_plug_X1_requireIndex (nA := 2) (by decide +kernel) rfl (by decide) (by decide) (by decide) rfl (Nat.le_of_ble_eq_true rfl) dX1_plug_2 (fun E h => by simp [xplug, xq, pif, h]) (fun hx1 => ?_)
  refine v_iload_n C dX1_plug_5 rfl ?_
  refine v_iconst C (2) dX1_plug_6 (by decide) ?_
  refine v_xSV C hX he (k_X1_requireIndex l G cy hl (wD cy ad x) ch 2) rfl gX1_plug_X1_requireIndex (nA := 2) (by decide +kernel) rfl (by decide) (by decide) (by decide) rfl (Nat.le_of_ble_eq_true rfl) dX1_plug_7 (fun E h => by simp [xplug, xq, pif, h, hx1]) (fun hx2 => ?_)
  obtain ⟨jch, hjch, rfl⟩ := ix_ex (N := 2) (by decide) (xIdx_n hx2).1 (xIdx_n hx2).2
  have hcjch : (nI jch).toNatClampNeg = jch := nI_clamp (by omega)
  refine v_aload_n C dX1_plug_10 rfl ?_
  refine v_iload_n C dX1_plug_11 rfl ?_
  refine vD_cI C (k_X1_isUnderWay l G cy ad x n hn h30 b) rfl gX1_plug_X1_isUnderWay (nA := 1) (by decide +kernel) rfl (by decide) (by decide) rfl rfl (Nat.le_of_ble_eq_true rfl) dX1_plug_12 ?_
  refine v_if_eq C 28 dX1_plug_15 (by decide) (fun c1 => ?_) (fun c1 => ?_)
  · -- 15 t: (b2i (under n x b)) = 0
    replace c1 := b2i_0.mp c1
    refine v_aload_n C dX1_plug_28 rfl ?_
    refine v_iload_n C dX1_plug_29 rfl ?_
    refine vD_cV C (k_X1_unplug l G cy ad x b) rfl gX1_plug_X1_unplug (nA := 1) (by decide +kernel) rfl (by decide) (by decide) rfl rfl (Nat.le_of_ble_eq_true rfl) dX1_plug_30 ?_
    refine v_aload_n C dX1_plug_33 rfl ?_
    refine vD_g_busAtCharger C hin1 (by decide +kernel) dX1_plug_34 ?_
    refine v_iload_n C dX1_plug_37 rfl ?_
    refine vD_l_busAtCharger C jch rfl (by omega) dX1_plug_38 ?_
    refine v_istore_n C dX1_plug_39 (by decide) ?_
    refine v_aload_n C dX1_plug_40 rfl ?_
    refine vD_g_busAtCharger C hin1 (by decide +kernel) dX1_plug_41 ?_
    refine v_iload_n C dX1_plug_44 rfl ?_
    refine v_iload_n C dX1_plug_45 rfl ?_
    refine vD_s_busAtCharger C jch rfl (by omega) dX1_plug_46 ?_
    refine v_iload_n C dX1_plug_47 rfl ?_
    have e9 : fplug x b (nI jch) = su (funplug x b) 15 jch b := by simp [fplug, hcjch, pif, c1]
    rw [e9]
    refine v_xiret C dX1_plug_48 (by simp [xplug, xq, pif, hx1, hx2, hcjch, c1]) ?_ (by decide) (by decide)
    rw [hcjch]
  · -- 15 f: not (b2i (under n x b)) = 0
    replace c1 := Classical.not_not.mp (fun z => c1 (b2i_0.mpr z))
    exact v_xthrow C hX he hl (by decide +kernel) (by decide +kernel) (by decide +kernel) (by decide +kernel) xb_IS xg_IS rfl (text := "the bus has a run that goes") (by decide +kernel) dX1_plug_18 dX1_plug_21 dX1_plug_22 dX1_plug_24 dX1_plug_27 (by simp [xplug, xq, pif, hx1, hx2, hcjch, c1]) (by decide) (by decide) (by decide) (by decide)
theorem m0_1 {m : Int32} (h : ¬ m < 1) : ¬ m < 0 := by
  rw [Int32.lt_iff_toInt_lt] at h ⊢
  rw [show (1 : Int32).toInt = 1 by decide] at h
  rw [show (0 : Int32).toInt = 0 by decide]
  omega
set_option maxHeartbeats 4000000 in
set_option maxRecDepth 100000 in
/-- advance(mi) -/
theorem k_X1_advance (l : Launch) (G : va_G) (cy : Nat → ClassId) (hl : l.stackTraces = false) (ad : Nat → Nat) (x : Sg) (n : Nat) (hn : x 1 0 = nI n) (h30 : n ≤ 30) (mi : Int32) : KXI l G cy yX1_advance wsX1_advance 7 106 8 48 [.ref (ad 0), .int mi] (wD cy ad x) (xadv x mi) (fadv n x mi 0 0) (wD cy ad (fadv n x mi)) := by
  have hin1 : ∀ q ∈ u_ws RX1 TX1 12, q ∈ wsX1_advance := by decide +kernel
  refine KXI_of (own := RX1) (cc := cX1_advance) (maxL := 3) (ret := (some .int)) (lo0 := [some (.ref (ad 0)), some (.int mi), none]) (by decide) rfl rfl (by simp [Value.category]) (Nat.le_of_ble_eq_true rfl) rfl (fun p e s m args below meth c A C hX he => ?_)
  refine v_iload_n C dX1_advance_0 rfl ?_
  refine v_iconst C (1) dX1_advance_1 (by decide) ?_
  refine v_sipush C (1000) dX1_advance_2 (by decide) ?_
  refine v_xSV C hX he (k_X1_requireRange l G cy hl (wD cy ad x) mi 1 1000) rfl gX1_advance_X1_requireRange (nA := 3) (by decide +kernel) rfl (by decide) (by decide) (by decide) rfl (Nat.le_of_ble_eq_true rfl) dX1_advance_5 (fun E h => by simp [xadv, xq, pif, h]) (fun hx1 => ?_)
  obtain ⟨jm, hjm, rfl⟩ := ix_exr (N := 1000) (by decide) (m0_1 (xRng_n hx1).1) (xRng_n hx1).2
  have hcjm : (nI jm).toNatClampNeg = jm := nI_clamp (by omega)
  refine v_aload_n C dX1_advance_8 rfl ?_
  refine vD_g_minute C hin1 (by decide +kernel) dX1_advance_9 ?_
  refine v_iload_n C dX1_advance_12 rfl ?_
  refine v_iadd C dX1_advance_13 ?_
  refine v_sipush C (30000) dX1_advance_14 (by decide) ?_
  refine v_icmp_le C 30 dX1_advance_17 (by decide) (fun c1 => ?_) (fun c1 => ?_)
  · -- 17 t: ¬ 30000 < ((x 0 0) + (nI jm))
    refine v_iconst C (0) dX1_advance_30 (by decide) ?_
    refine v_istore_n C dX1_advance_31 (by decide) ?_
    refine V.loop (fun k : Nat => wD cy ad (it (fun _ => fminute n) k x)) (fun k : Nat => ([some (.ref (ad 0)), some (.int (nI jm)), some (.int (nI k))] : List (Option Value))) (fun k : Nat => True) jm ?_ trivial
    intro k hle_k hP_k ih_k
    try dsimp only at hP_k ih_k ⊢
    have hn_k : it (fun _ => fminute n) k x 1 0 = nI n := (it_f (fun c y => fminute_f n y (by decide) (by decide) (by decide) (by decide) (by decide) (by decide)) k x).trans hn
    refine v_iload_n C dX1_advance_32 rfl ?_
    refine v_iload_n C dX1_advance_33 rfl ?_
    refine v_geN C k jm 47 dX1_advance_34 (by decide) rfl rfl (by omega) (by omega) (fun c2 => ?_) (fun c2 => ?_)
    · -- loop 32 is over
      have e_k : jm = k := by omega
      subst e_k
      refine v_aload_n C dX1_advance_47 rfl ?_
      refine vD_g_minute C hin1 (by decide +kernel) dX1_advance_48 ?_
      have e9 : fadv n x (nI jm) = it (fun _ => fminute n) jm x := by simp [fadv, hcjm, pif, c1]
      rw [e9]
      refine v_xiret C dX1_advance_51 (by simp [xadv, xq, pif, hx1, hcjm, c1]) ?_ (by decide) (by decide)
      rfl
    · have hk : k < jm := c2
      refine v_aload_n C dX1_advance_37 rfl ?_
      refine vD_cV C (k_X1_passMinute l G cy ad (it (fun _ => fminute n) k x) n hn_k h30) rfl gX1_advance_X1_passMinute (nA := 0) (by decide +kernel) rfl (by decide) (by decide) rfl rfl (Nat.le_of_ble_eq_true rfl) dX1_advance_38 ?_
      refine v_incN C dX1_advance_41 rfl (by decide) ?_
      refine v_goto C 32 dX1_advance_44 (by decide) ?_
      exact ih_k hk trivial
  · -- 17 f: not ¬ 30000 < ((x 0 0) + (nI jm))
    exact v_xthrow C hX he hl (by decide +kernel) (by decide +kernel) (by decide +kernel) (by decide +kernel) xb_IS xg_IS rfl (text := "the minute would be above 30000") (by decide +kernel) dX1_advance_20 dX1_advance_23 dX1_advance_24 dX1_advance_26 dX1_advance_29 (by simp [xadv, xq, pif, hx1, hcjm, c1]) (by decide) (by decide) (by decide) (by decide)
set_option maxHeartbeats 4000000 in
set_option maxRecDepth 100000 in
/-- orderAt(o) -/
theorem k_X1_orderAt (l : Launch) (G : va_G) (cy : Nat → ClassId) (hl : l.stackTraces = false) (ad : Nat → Nat) (x : Sg) (om : Nat) (hom : x 2 0 = nI om) (hom1 : om ≤ 1000) (o : Int32) : KXI l G cy yX1_orderAt wsX1_orderAt 7 103 8 48 [.ref (ad 0), .int o] (wD cy ad x) (xIdx o (x 2 0)) (x 16 o.toNatClampNeg) (wD cy ad x) := by
  have hin1 : ∀ q ∈ u_ws RX1 TX1 12, q ∈ wsX1_orderAt := by decide +kernel
  refine KXI_of (own := RX1) (cc := cX1_orderAt) (maxL := 2) (ret := (some .int)) (lo0 := [some (.ref (ad 0)), some (.int o)]) (by decide) rfl rfl (by simp [Value.category]) (Nat.le_of_ble_eq_true rfl) rfl (fun p e s m args below meth c A C hX he => ?_)
  refine v_iload_n C dX1_orderAt_0 rfl ?_
  refine v_aload_n C dX1_orderAt_1 rfl ?_
  refine vD_g_orderCount C hin1 (by decide +kernel) dX1_orderAt_2 ?_
  refine v_xSV C hX he (k_X1_requireIndex l G cy hl (wD cy ad x) o (x 2 0)) rfl gX1_orderAt_X1_requireIndex (nA := 2) (by decide +kernel) rfl (by decide) (by decide) (by decide) rfl (Nat.le_of_ble_eq_true rfl) dX1_orderAt_5 (fun E h => by simp [xq, pif, h]) (fun hx1 => ?_)
  obtain ⟨jo, hjo, rfl⟩ := ix_ex (N := om) (by omega) (xIdx_n hx1).1 (hom ▸ (xIdx_n hx1).2)
  have hcjo : (nI jo).toNatClampNeg = jo := nI_clamp (by omega)
  refine v_aload_n C dX1_orderAt_8 rfl ?_
  refine vD_g_log C hin1 (by decide +kernel) dX1_orderAt_9 ?_
  refine v_iload_n C dX1_orderAt_12 rfl ?_
  refine vD_l_log C jo rfl (by omega) dX1_orderAt_13 ?_
  refine v_xiret C dX1_orderAt_14 (by simp [xq, pif, hx1, hcjo]) ?_ (by decide) (by decide)
  rw [hcjo]
set_option maxHeartbeats 4000000 in
set_option maxRecDepth 100000 in
/-- stateOf(r) -/
theorem k_X1_stateOf (l : Launch) (G : va_G) (cy : Nat → ClassId) (hl : l.stackTraces = false) (ad : Nat → Nat) (x : Sg) (n : Nat) (hn : x 1 0 = nI n) (h30 : n ≤ 30) (r : Int32) : KXI l G cy yX1_stateOf wsX1_stateOf 7 103 8 48 [.ref (ad 0), .int r] (wD cy ad x) (xIdx r (x 1 0)) (x 9 r.toNatClampNeg) (wD cy ad x) := by
  have hin1 : ∀ q ∈ u_ws RX1 TX1 12, q ∈ wsX1_stateOf := by decide +kernel
  have hin0 : ∀ q ∈ u_ws RX0 TX0 6, q ∈ wsX1_stateOf := by decide +kernel
  refine KXI_of (own := RX1) (cc := cX1_stateOf) (maxL := 2) (ret := (some .int)) (lo0 := [some (.ref (ad 0)), some (.int r)]) (by decide) rfl rfl (by simp [Value.category]) (Nat.le_of_ble_eq_true rfl) rfl (fun p e s m args below meth c A C hX he => ?_)
  refine v_iload_n C dX1_stateOf_0 rfl ?_
  refine v_aload_n C dX1_stateOf_1 rfl ?_
  refine vD_g_runCount C hin1 (by decide +kernel) dX1_stateOf_2 ?_
  refine v_xSV C hX he (k_X1_requireIndex l G cy hl (wD cy ad x) r (x 1 0)) rfl gX1_stateOf_X1_requireIndex (nA := 2) (by decide +kernel) rfl (by decide) (by decide) (by decide) rfl (Nat.le_of_ble_eq_true rfl) dX1_stateOf_5 (fun E h => by simp [xq, pif, h]) (fun hx1 => ?_)
  obtain ⟨jr, hjr, rfl⟩ := ix_ex (N := n) (by omega) (xIdx_n hx1).1 (hn ▸ (xIdx_n hx1).2)
  have hcjr : (nI jr).toNatClampNeg = jr := nI_clamp (by omega)
  refine v_aload_n C dX1_stateOf_8 rfl ?_
  refine vD_g_rows C hin1 (by decide +kernel) dX1_stateOf_9 ?_
  refine v_iload_n C dX1_stateOf_12 rfl ?_
  refine vD_aald C jr rfl (by omega) dX1_stateOf_13 ?_
  refine vR_g_state C hin0 (by omega) (by decide +kernel) dX1_stateOf_14 ?_
  refine v_xiret C dX1_stateOf_17 (by simp [xq, pif, hx1, hcjr]) ?_ (by decide) (by decide)
  rw [hcjr]
set_option maxHeartbeats 4000000 in
set_option maxRecDepth 100000 in
/-- busOf(r) -/
theorem k_X1_busOf (l : Launch) (G : va_G) (cy : Nat → ClassId) (hl : l.stackTraces = false) (ad : Nat → Nat) (x : Sg) (n : Nat) (hn : x 1 0 = nI n) (h30 : n ≤ 30) (r : Int32) : KXI l G cy yX1_busOf wsX1_busOf 7 103 8 48 [.ref (ad 0), .int r] (wD cy ad x) (xIdx r (x 1 0)) (x 10 r.toNatClampNeg) (wD cy ad x) := by
  have hin1 : ∀ q ∈ u_ws RX1 TX1 12, q ∈ wsX1_busOf := by decide +kernel
  have hin0 : ∀ q ∈ u_ws RX0 TX0 6, q ∈ wsX1_busOf := by decide +kernel
  refine KXI_of (own := RX1) (cc := cX1_busOf) (maxL := 2) (ret := (some .int)) (lo0 := [some (.ref (ad 0)), some (.int r)]) (by decide) rfl rfl (by simp [Value.category]) (Nat.le_of_ble_eq_true rfl) rfl (fun p e s m args below meth c A C hX he => ?_)
  refine v_iload_n C dX1_busOf_0 rfl ?_
  refine v_aload_n C dX1_busOf_1 rfl ?_
  refine vD_g_runCount C hin1 (by decide +kernel) dX1_busOf_2 ?_
  refine v_xSV C hX he (k_X1_requireIndex l G cy hl (wD cy ad x) r (x 1 0)) rfl gX1_busOf_X1_requireIndex (nA := 2) (by decide +kernel) rfl (by decide) (by decide) (by decide) rfl (Nat.le_of_ble_eq_true rfl) dX1_busOf_5 (fun E h => by simp [xq, pif, h]) (fun hx1 => ?_)
  obtain ⟨jr, hjr, rfl⟩ := ix_ex (N := n) (by omega) (xIdx_n hx1).1 (hn ▸ (xIdx_n hx1).2)
  have hcjr : (nI jr).toNatClampNeg = jr := nI_clamp (by omega)
  refine v_aload_n C dX1_busOf_8 rfl ?_
  refine vD_g_rows C hin1 (by decide +kernel) dX1_busOf_9 ?_
  refine v_iload_n C dX1_busOf_12 rfl ?_
  refine vD_aald C jr rfl (by omega) dX1_busOf_13 ?_
  refine vR_g_bus C hin0 (by omega) (by decide +kernel) dX1_busOf_14 ?_
  refine v_xiret C dX1_busOf_17 (by simp [xq, pif, hx1, hcjr]) ?_ (by decide) (by decide)
  rw [hcjr]
set_option maxHeartbeats 4000000 in
set_option maxRecDepth 100000 in
/-- driverOf(r) -/
theorem k_X1_driverOf (l : Launch) (G : va_G) (cy : Nat → ClassId) (hl : l.stackTraces = false) (ad : Nat → Nat) (x : Sg) (n : Nat) (hn : x 1 0 = nI n) (h30 : n ≤ 30) (r : Int32) : KXI l G cy yX1_driverOf wsX1_driverOf 7 103 8 48 [.ref (ad 0), .int r] (wD cy ad x) (xIdx r (x 1 0)) (x 11 r.toNatClampNeg) (wD cy ad x) := by
  have hin1 : ∀ q ∈ u_ws RX1 TX1 12, q ∈ wsX1_driverOf := by decide +kernel
  have hin0 : ∀ q ∈ u_ws RX0 TX0 6, q ∈ wsX1_driverOf := by decide +kernel
  refine KXI_of (own := RX1) (cc := cX1_driverOf) (maxL := 2) (ret := (some .int)) (lo0 := [some (.ref (ad 0)), some (.int r)]) (by decide) rfl rfl (by simp [Value.category]) (Nat.le_of_ble_eq_true rfl) rfl (fun p e s m args below meth c A C hX he => ?_)
  refine v_iload_n C dX1_driverOf_0 rfl ?_
  refine v_aload_n C dX1_driverOf_1 rfl ?_
  refine vD_g_runCount C hin1 (by decide +kernel) dX1_driverOf_2 ?_
  refine v_xSV C hX he (k_X1_requireIndex l G cy hl (wD cy ad x) r (x 1 0)) rfl gX1_driverOf_X1_requireIndex (nA := 2) (by decide +kernel) rfl (by decide) (by decide) (by decide) rfl (Nat.le_of_ble_eq_true rfl) dX1_driverOf_5 (fun E h => by simp [xq, pif, h]) (fun hx1 => ?_)
  obtain ⟨jr, hjr, rfl⟩ := ix_ex (N := n) (by omega) (xIdx_n hx1).1 (hn ▸ (xIdx_n hx1).2)
  have hcjr : (nI jr).toNatClampNeg = jr := nI_clamp (by omega)
  refine v_aload_n C dX1_driverOf_8 rfl ?_
  refine vD_g_rows C hin1 (by decide +kernel) dX1_driverOf_9 ?_
  refine v_iload_n C dX1_driverOf_12 rfl ?_
  refine vD_aald C jr rfl (by omega) dX1_driverOf_13 ?_
  refine vR_g_driver C hin0 (by omega) (by decide +kernel) dX1_driverOf_14 ?_
  refine v_xiret C dX1_driverOf_17 (by simp [xq, pif, hx1, hcjr]) ?_ (by decide) (by decide)
  rw [hcjr]
set_option maxHeartbeats 4000000 in
set_option maxRecDepth 100000 in
/-- charge(b) -/
theorem k_X1_charge (l : Launch) (G : va_G) (cy : Nat → ClassId) (hl : l.stackTraces = false) (ad : Nat → Nat) (x : Sg) (b : Int32) : KXI l G cy yX1_charge wsX1_charge 7 103 8 48 [.ref (ad 0), .int b] (wD cy ad x) (xIdx b 5) (x 12 b.toNatClampNeg) (wD cy ad x) := by
  have hin1 : ∀ q ∈ u_ws RX1 TX1 12, q ∈ wsX1_charge := by decide +kernel
  refine KXI_of (own := RX1) (cc := cX1_charge) (maxL := 2) (ret := (some .int)) (lo0 := [some (.ref (ad 0)), some (.int b)]) (by decide) rfl rfl (by simp [Value.category]) (Nat.le_of_ble_eq_true rfl) rfl (fun p e s m args below meth c A C hX he => ?_)
  refine v_iload_n C dX1_charge_0 rfl ?_
  refine v_iconst C (5) dX1_charge_1 (by decide) ?_
  refine v_xSV C hX he (k_X1_requireIndex l G cy hl (wD cy ad x) b 5) rfl gX1_charge_X1_requireIndex (nA := 2) (by decide +kernel) rfl (by decide) (by decide) (by decide) rfl (Nat.le_of_ble_eq_true rfl) dX1_charge_2 (fun E h => by simp [xq, pif, h]) (fun hx1 => ?_)
  obtain ⟨jb, hjb, rfl⟩ := ix_ex (N := 5) (by decide) (xIdx_n hx1).1 (xIdx_n hx1).2
  have hcjb : (nI jb).toNatClampNeg = jb := nI_clamp (by omega)
  refine v_aload_n C dX1_charge_5 rfl ?_
  refine vD_g_charges C hin1 (by decide +kernel) dX1_charge_6 ?_
  refine v_iload_n C dX1_charge_9 rfl ?_
  refine vD_l_charges C jb rfl (by omega) dX1_charge_10 ?_
  refine v_xiret C dX1_charge_11 (by simp [xq, pif, hx1, hcjb]) ?_ (by decide) (by decide)
  rw [hcjb]
set_option maxHeartbeats 4000000 in
set_option maxRecDepth 100000 in
/-- promised(b) -/
theorem k_X1_promised (l : Launch) (G : va_G) (cy : Nat → ClassId) (hl : l.stackTraces = false) (ad : Nat → Nat) (x : Sg) (n : Nat) (hn : x 1 0 = nI n) (h30 : n ≤ 30) (b : Int32) : KXI l G cy yX1_promised wsX1_promised 7 103 8 48 [.ref (ad 0), .int b] (wD cy ad x) (xIdx b 5) (fprom n x b) (wD cy ad x) := by
  refine KXI_of (own := RX1) (cc := cX1_promised) (maxL := 2) (ret := (some .int)) (lo0 := [some (.ref (ad 0)), some (.int b)]) (by decide) rfl rfl (by simp [Value.category]) (Nat.le_of_ble_eq_true rfl) rfl (fun p e s m args below meth c A C hX he => ?_)
  refine v_iload_n C dX1_promised_0 rfl ?_
  refine v_iconst C (5) dX1_promised_1 (by decide) ?_
  refine v_xSV C hX he (k_X1_requireIndex l G cy hl (wD cy ad x) b 5) rfl gX1_promised_X1_requireIndex (nA := 2) (by decide +kernel) rfl (by decide) (by decide) (by decide) rfl (Nat.le_of_ble_eq_true rfl) dX1_promised_2 (fun E h => by simp [xq, pif, h]) (fun hx1 => ?_)
  refine v_aload_n C dX1_promised_5 rfl ?_
  refine v_iload_n C dX1_promised_6 rfl ?_
  refine vD_cI C (k_X1_promisedCharge l G cy ad x n hn h30 b) rfl gX1_promised_X1_promisedCharge (nA := 1) (by decide +kernel) rfl (by decide) (by decide) rfl rfl (Nat.le_of_ble_eq_true rfl) dX1_promised_7 ?_
  refine v_xiret C dX1_promised_10 (by simp [xq, pif, hx1]) ?_ (by decide) (by decide)
  rfl
set_option maxHeartbeats 4000000 in
set_option maxRecDepth 100000 in
/-- minutesOf(d, day) -/
theorem k_X1_minutesOf (l : Launch) (G : va_G) (cy : Nat → ClassId) (hl : l.stackTraces = false) (ad : Nat → Nat) (x : Sg) (n : Nat) (hn : x 1 0 = nI n) (h30 : n ≤ 30) (d day : Int32) : KXI l G cy yX1_minutesOf wsX1_minutesOf 7 103 8 48 [.ref (ad 0), .int d, .int day] (wD cy ad x) (xIdx d 5) (fwork n x d day) (wD cy ad x) := by
  refine KXI_of (own := RX1) (cc := cX1_minutesOf) (maxL := 3) (ret := (some .int)) (lo0 := [some (.ref (ad 0)), some (.int d), some (.int day)]) (by decide) rfl rfl (by simp [Value.category]) (Nat.le_of_ble_eq_true rfl) rfl (fun p e s m args below meth c A C hX he => ?_)
  refine v_iload_n C dX1_minutesOf_0 rfl ?_
  refine v_iconst C (5) dX1_minutesOf_1 (by decide) ?_
  refine v_xSV C hX he (k_X1_requireIndex l G cy hl (wD cy ad x) d 5) rfl gX1_minutesOf_X1_requireIndex (nA := 2) (by decide +kernel) rfl (by decide) (by decide) (by decide) rfl (Nat.le_of_ble_eq_true rfl) dX1_minutesOf_2 (fun E h => by simp [xq, pif, h]) (fun hx1 => ?_)
  refine v_aload_n C dX1_minutesOf_5 rfl ?_
  refine v_iload_n C dX1_minutesOf_6 rfl ?_
  refine v_iload_n C dX1_minutesOf_7 rfl ?_
  refine vD_cI C (k_X1_workedMinutes l G cy ad x n hn h30 d day) rfl gX1_minutesOf_X1_workedMinutes (nA := 2) (by decide +kernel) rfl (by decide) (by decide) rfl rfl (Nat.le_of_ble_eq_true rfl) dX1_minutesOf_8 ?_
  refine v_xiret C dX1_minutesOf_11 (by simp [xq, pif, hx1]) ?_ (by decide) (by decide)
  rfl
end
section
/-! PURE ROWS out of whole (what the model's methods do, as functions): they serve the states that calls lead to -/
def allb (P : Nat → Prop) : Nat → Prop | 0 => True | k + 1 => allb P k ∧ P k
def exb (P : Nat → Prop) : Nat → Prop | 0 => False | k + 1 => exb P k ∨ P k
theorem allb_iff {P : Nat → Prop} {n : Nat} : allb P n ↔ ∀ k, k < n → P k := by
  induction n with
  | zero => exact ⟨fun _ k h => absurd h (Nat.not_lt_zero k), fun _ => trivial⟩
  | succ n ih =>
    constructor
    · intro h k hk
      rcases Nat.lt_succ_iff_lt_or_eq.mp hk with h1 | rfl
      · exact ih.mp h.1 k h1
      · exact h.2
    · exact fun h => ⟨ih.mpr (fun k hk => h k (Nat.lt_succ_of_lt hk)), h n (Nat.lt_succ_self n)⟩
theorem exb_iff {P : Nat → Prop} {n : Nat} : exb P n ↔ ∃ k, k < n ∧ P k := by
  induction n with
  | zero => exact ⟨fun h => h.elim, fun ⟨k, h, _⟩ => absurd h (Nat.not_lt_zero k)⟩
  | succ n ih =>
    constructor
    · rintro (h | h)
      · obtain ⟨k, h1, h2⟩ := ih.mp h
        exact ⟨k, Nat.lt_succ_of_lt h1, h2⟩
      · exact ⟨n, Nat.lt_succ_self n, h⟩
    · rintro ⟨k, h1, h2⟩
      rcases Nat.lt_succ_iff_lt_or_eq.mp h1 with h | rfl
      · exact Or.inl (ih.mpr ⟨k, h, h2⟩)
      · exact Or.inr h2
def sumG (a : Int32) (g : Nat → Int32) : Nat → Int32 | 0 => a | k + 1 => sumG a g k + g k
def wkd (x : Sg) (k : Nat) : Prop := x 9 k = 1 ∨ x 9 k = 2 ∨ x 9 k = 3
def inr (a b v : Int32) : Prop := ¬ v < a ∧ ¬ b < v
def mbA (n : Nat) (x : Sg) (b r : Nat) : Prop := x 13 b = 0 ∧ ¬ x 12 b - fprom n x (nI b) < x 8 r
def mbP (x : Sg) (b r q : Nat) : Prop := ¬ ((¬ q = r ∧ x 10 q = nI b ∧ (x 9 q = 1 ∨ x 9 q = 2)) ∧ x 6 q < x 7 r ∧ x 6 r < x 7 q)
def mbK (n : Nat) (x : Sg) (b r k : Nat) : Prop := mbA n x b r ∧ allb (mbP x b r) k
def mbf (n : Nat) (x : Sg) (b r : Nat) : Prop := mbK n x b r n
def mdQ (x : Sg) (d r q : Nat) : Prop := ¬ q = r ∧ x 11 q = nI d ∧ wkd x q ∧ x 6 q / 1440 = x 6 r / 1440
def mdR (x : Sg) (r q : Nat) : Prop := ¬ x 6 r < x 7 q + 30 ∨ ¬ x 6 q < x 7 r + 30
def mdP (x : Sg) (d r q : Nat) : Prop := mdQ x d r q → mdR x r q
def mdK (x : Sg) (d r k : Nat) : Prop := x 14 d = 0 ∧ allb (mdP x d r) k
noncomputable def mdG (x : Sg) (d r q : Nat) : Int32 := pif (mdQ x d r q) (x 7 q - x 6 q) 0
def mdf (n : Nat) (x : Sg) (d r : Nat) : Prop := mdK x d r n ∧ ¬ 480 < sumG (x 7 r - x 6 r) (mdG x d r) n
def mgo (x : Sg) (b : Int32) (q : Nat) : Prop := x 9 q = 2 ∧ x 10 q = b
noncomputable def gmin (x : Sg) (d day : Int32) (k : Nat) : Int32 := pif (x 11 k = d ∧ wkd x k ∧ x 6 k / 1440 = day) (x 7 k - x 6 k) 0
theorem su_id (x : Sg) (f k : Nat) : su x f k (x f k) = x := su_n x f k _ rfl
theorem su_su (x : Sg) (f k : Nat) (v v' : Int32) : su (su x f k v) f k v' = su x f k v' := by
  funext a b
  unfold su
  split
  · split
    · rfl
    · rfl
  · rfl
theorem nneg : (-1 : Int32) < 0 := by decide
def mfree (x : Sg) (r : Nat) : Sg := su (su x 10 r (-1)) 11 r (-1)
noncomputable def srel (b d : Int32) (k : Nat) (y : Sg) : Sg := pif ((y 10 k = b ∨ y 11 k = d) ∧ y 9 k = 1) (fdrop y k 0) y
noncomputable def goF (b d : Int32) (x : Sg) : Nat → Int32 | 0 => -1 | k + 1 => pif ((it (srel b d) k x 10 k = b ∨ it (srel b d) k x 11 k = d) ∧ it (srel b d) k x 9 k = 2) (nI k) (goF b d x k)
theorem goF_or (b d : Int32) (x : Sg) (n : Nat) : goF b d x n = -1 ∨ ∃ g, g < n ∧ goF b d x n = nI g := by
  induction n with
  | zero => exact Or.inl rfl
  | succ n ih =>
    show pif _ _ _ = _ ∨ ∃ g, g < n + 1 ∧ pif _ _ _ = _
    by_cases h : (it (srel b d) n x 10 n = b ∨ it (srel b d) n x 11 n = d) ∧ it (srel b d) n x 9 n = 2
    · rw [pif_t h]
      exact Or.inr ⟨n, Nat.lt_succ_self n, rfl⟩
    · rw [pif_f h]
      rcases ih with h1 | ⟨g, h1, h2⟩
      · exact Or.inl h1
      · exact Or.inr ⟨g, Nat.lt_succ_of_lt h1, h2⟩
theorem srel_f {f k : Nat} (b d : Int32) (c : Nat) (y : Sg) (h9 : f ≠ 9) (h10 : f ≠ 10) (h11 : f ≠ 11) : srel b d c y f k = y f k := by simp [srel, pif_ap2, fdrop_f, h9, h10, h11, pif_s]
/-- a run that is ORDERED has a bus; what is at a charger is a bus -/
def okB (n : Nat) (y : Sg) : Prop := ∀ k, k < n → y 9 k = 1 → ∃ b, b < 5 ∧ y 10 k = nI b
def okP (y : Sg) : Prop := ∀ c, c < 2 → y 15 c = -1 ∨ ∃ b, b < 5 ∧ y 15 c = nI b
theorem it_row {g : Nat → Sg → Sg} {f : Nat} (h : ∀ c y j, j ≠ c → g c y f j = y f j) (x : Sg) {k j : Nat} (hj : k ≤ j) : it g k x f j = x f j := by
  induction k with
  | zero => rfl
  | succ k ih =>
    show g k (it g k x) f j = x f j
    rw [h k _ j (by omega)]
    exact ih (by omega)
theorem fdrop_r {f j : Nat} (x : Sg) (k : Nat) (v : Int32) (h : j ≠ k) : fdrop x k v f j = x f j := by
  simp only [fdrop, su]
  split
  · rename_i h1; subst h1; simp [h]
  · split
    · rename_i h1; subst h1; simp [h]
    · split
      · rename_i h1; subst h1; simp [h]
      · rfl
theorem su_r {f' j : Nat} (x : Sg) (f k : Nat) (v : Int32) (h : j ≠ k) : su x f k v f' j = x f' j := by
  simp only [su]
  split
  · simp [h]
  · rfl
theorem sstart_r {f j : Nat} (c : Nat) (y : Sg) (hj : j ≠ c) (h12 : f ≠ 12) (h15 : f ≠ 15) : sstart c y f j = y f j := by
  simp [sstart, fstart, pif_ap2, fsend_f, h12, h15, su_r _ _ _ _ hj, fdrop_r _ _ _ hj, pif_s]
theorem send__r {f j : Nat} (c : Nat) (y : Sg) (hj : j ≠ c) : send_ c y f j = y f j := by
  simp [send_, pif_ap2, su_r _ _ _ _ hj, pif_s]
theorem inr_ix {N : Nat} {v b : Int32} (hN : N < 2 ^ 31) (hb : b = nI N) (h : inr 0 b v) : ∃ j, j ≤ N ∧ v = nI j := by
  subst hb
  exact ix_exr hN h.1 h.2
theorem inr_run {n : Nat} {v : Int32} (hn : n ≤ 1000) (h : inr 0 (nI n - 1) v) : ∃ j, j < n ∧ v = nI j := by
  cases n with
  | zero =>
    obtain ⟨h1, h2⟩ := h
    refine absurd ?_ h2
    rw [show nI 0 - 1 = (-1 : Int32) by decide]
    rw [Int32.lt_iff_toInt_lt] at h1 ⊢
    rw [show (0 : Int32).toInt = 0 by decide] at h1
    rw [show (-1 : Int32).toInt = -1 by decide]
    omega
  | succ n =>
    rw [nI_pred] at h
    obtain ⟨j, h1, h2⟩ := inr_ix (by omega) rfl h
    exact ⟨j, by omega, h2⟩
theorem okB_f {n : Nat} {x y : Sg} (h9 : ∀ k, k < n → y 9 k = 1 → x 9 k = 1 ∧ y 10 k = x 10 k) (h : okB n x) : okB n y := fun k hk e => by
  obtain ⟨e1, e2⟩ := h9 k hk e
  obtain ⟨b, hb, e3⟩ := h k hk e1
  exact ⟨b, hb, e2.trans e3⟩
theorem okP_f {x y : Sg} (h : ∀ c, c < 2 → y 15 c = x 15 c ∨ y 15 c = -1) (hx : okP x) : okP y := fun c hc => by
  rcases h c hc with e | e
  · rw [e]; exact hx c hc
  · exact Or.inl e
theorem send_1 {Y : Sg} {j : Nat} (e1 : send_ j Y 9 j = 1) : Y 9 j = 1 := by
  unfold send_ at e1
  by_cases hc : Y 9 j = 2 ∧ Y 7 j = Y 0 0
  · rw [pif_t hc, su_s] at e1; exact absurd e1 (by decide)
  · rw [pif_f hc] at e1; exact e1
theorem sstart_1 {Y : Sg} {j : Nat} (e1 : sstart j Y 9 j = 1) : Y 9 j = 1 ∧ sstart j Y 10 j = Y 10 j := by
  unfold sstart fstart at e1 ⊢
  by_cases h1 : Y 6 j = Y 0 0
  · rw [pif_t h1] at e1 ⊢
    by_cases h2 : Y 9 j = 1
    · rw [pif_t h2, fsend_f _ _ _ (by decide) (by decide), su_s] at e1
      exact absurd e1 (by decide)
    · rw [pif_f h2] at e1 ⊢
      by_cases h3 : Y 9 j = 0
      · rw [pif_t h3] at e1
        simp [fdrop, su] at e1
      · rw [pif_f h3] at e1
        exact absurd e1 h2
  · rw [pif_f h1] at e1 ⊢
    exact ⟨e1, rfl⟩
theorem okB_send {n : Nat} {x : Sg} (h : okB n x) : ∀ k, okB n (it send_ k x) := by
  intro k
  induction k with
  | zero => exact h
  | succ k ih =>
    refine okB_f (x := it send_ k x) (fun j hj e => ?_) ih
    show _ ∧ send_ k (it send_ k x) 10 j = _
    rw [send__f _ _ (by decide)]
    refine ⟨?_, rfl⟩
    have e1 : send_ k (it send_ k x) 9 j = 1 := e
    by_cases hjk : j = k
    · subst hjk
      exact send_1 e1
    · rw [send__r _ _ hjk] at e1; exact e1
theorem okB_load {n : Nat} {x : Sg} (h : okB n x) (v : Int32) : okB n (su (it sload 2 x) 0 0 v) := okB_f (x := x) (fun j hj e => by
  rw [su_f _ _ _ _ (by decide), it_f (fun c y => sload_f c y (by decide))] at e
  rw [su_f _ _ _ _ (by decide), it_f (fun c y => sload_f c y (by decide))]
  exact ⟨e, rfl⟩) h
theorem fsend_okP {x : Sg} (b q : Int32) (c : Nat) : fsend x b q 15 c = x 15 c ∨ fsend x b q 15 c = -1 := by
  have hu : ∀ y : Sg, funplug y b 15 c = y 15 c ∨ funplug y b 15 c = -1 := fun y => by
    have st : ∀ k (z : Sg), sunplug b k z 15 c = z 15 c ∨ sunplug b k z 15 c = -1 := fun k z => by
      unfold sunplug
      refine pif_ap _ _ _ (fun (t : Sg) => t 15 c = z 15 c ∨ t 15 c = -1) (fun h => ?_) (fun _ => Or.inl rfl)
      by_cases hc : c = k
      · subst hc; exact Or.inr (su_s _ _ _ _)
      · exact Or.inl (su_k _ _ _ hc)
    show sunplug b 1 (sunplug b 0 y) 15 c = _ ∨ _
    rcases st 1 (sunplug b 0 y) with e | e
    · rw [show funplug y b 15 c = sunplug b 1 (sunplug b 0 y) 15 c from rfl, e]; exact st 0 y
    · exact Or.inr e
  unfold fsend
  refine pif_ap _ _ _ (fun (t : Sg) => t 15 c = x 15 c ∨ t 15 c = -1) (fun _ => ?_) (fun _ => Or.inl rfl)
  have := hu (su x 12 b.toNatClampNeg (x 12 b.toNatClampNeg - q))
  rw [su_f _ _ _ _ (by decide : (15 : Nat) ≠ 12)] at this
  exact this
theorem sstart_okP {y : Sg} (k c : Nat) : sstart k y 15 c = y 15 c ∨ sstart k y 15 c = -1 := by
  unfold sstart fstart
  refine pif_ap _ _ _ (fun (t : Sg) => t 15 c = y 15 c ∨ t 15 c = -1) (fun _ => ?_) (fun _ => Or.inl rfl)
  refine pif_ap _ _ _ (fun (t : Sg) => t 15 c = y 15 c ∨ t 15 c = -1) (fun _ => ?_) (fun _ => ?_)
  · have := fsend_okP (x := su y 9 k 2) (y 10 k) (y 8 k) c
    rw [su_f _ _ _ _ (by decide : (15 : Nat) ≠ 9)] at this
    exact this
  · refine pif_ap _ _ _ (fun (t : Sg) => t 15 c = y 15 c ∨ t 15 c = -1) (fun _ => ?_) (fun _ => Or.inl rfl)
    exact Or.inl (fdrop_f _ _ _ (by decide) (by decide) (by decide))
theorem okP_start {x : Sg} (h : okP x) : ∀ k, okP (it sstart k x) := by
  intro k
  induction k with
  | zero => exact h
  | succ k ih => exact okP_f (x := it sstart k x) (fun c _ => sstart_okP k c) ih
theorem sstart_okB {n : Nat} {x : Sg} (h : okB n x) : ∀ k, okB n (it sstart k x) := by
  intro k
  induction k with
  | zero => exact h
  | succ k ih =>
    refine okB_f (x := it sstart k x) (fun j hj e => ?_) ih
    have e1 : sstart k (it sstart k x) 9 j = 1 := e
    show _ ∧ sstart k (it sstart k x) 10 j = _
    by_cases hjk : j = k
    · subst hjk
      exact sstart_1 e1
    · rw [sstart_r _ _ hjk (by decide) (by decide)] at e1 ⊢
      exact ⟨e1, rfl⟩
theorem okP_min {n : Nat} {x : Sg} (h : okP x) : okP (fminute n x) := okP_start (okP_f (x := x) (fun c _ => Or.inl (by
  rw [it_f (fun c y => send__f c y (by decide)), su_f _ _ _ _ (by decide), it_f (fun c y => sload_f c y (by decide))])) h) n
theorem okB_min {n : Nat} {x : Sg} (h : okB n x) : okB n (fminute n x) := sstart_okB (okB_send (okB_load h _) n) n
theorem okP_mins {n : Nat} {x : Sg} (h : okP x) (k : Nat) : okP (it (fun _ => fminute n) k x) := it_inv _ okP k x h (fun _ _ _ hy => okP_min hy)
theorem okB_mins {n : Nat} {x : Sg} (h : okB n x) (k : Nat) : okB n (it (fun _ => fminute n) k x) := it_inv _ (okB n) k x h (fun _ _ _ hy => okB_min hy)
theorem fprom_5 (n : Nat) (x : Sg) (v b : Int32) : fprom n (su x 5 0 v) b = fprom n x b := sumF_c (fun k _ => by simp [gprom, su])
theorem gmin_5 (n : Nat) (x : Sg) (v d day : Int32) : sumF (gmin (su x 5 0 v) d day) n = sumF (gmin x d day) n := sumF_c (fun k _ => by simp [gmin, wkd, su])
theorem add1_1 (a : Int32) : a + 1 - 1 = a := by rw [Int32.add_sub_cancel]
def mokrun (x : Sg) (st mi q : Int32) : Prop := inr (x 0 0 + 1) 20000 st ∧ inr 1 600 mi ∧ ¬ 1440 < st - st / 1440 * 1440 + mi ∧ inr 0 100 q
noncomputable def mcrun (x : Sg) (st mi q : Int32) : Int32 := pif (mokrun x st mi q) (pif (x 1 0 = 30) 2 0) 1
def mrun (n : Nat) (y : Sg) (st mi q : Int32) : Sg := su (mfree (su (su (su (su y 6 n st) 7 n (st + mi)) 8 n q) 9 n 0) n) 1 0 (y 1 0 + 1)
noncomputable def mclead (d mi : Int32) : Int32 := pif (inr 0 1 d) (pif (inr 1 1000 mi) 0 2) 1
noncomputable def mlead (x : Sg) (d mi : Int32) : Sg := pif (inr 0 1 d ∧ inr 1 1000 mi) (fleads (su x 5 0 0) d mi) (su x 5 0 (mclead d mi))
noncomputable def mclplug (n : Nat) (x : Sg) (b ch : Int32) : Int32 := pif (inr 0 4 b ∧ inr 0 1 ch) (pif (under n x b) 2 0) 1
noncomputable def mplug (n : Nat) (x : Sg) (b ch : Int32) : Sg := pif (inr 0 4 b ∧ inr 0 1 ch ∧ ¬ under n x b) (fplug (su x 5 0 0) b ch) (su x 5 0 (mclplug n x b ch))
noncomputable def mcadv (x : Sg) (mi : Int32) : Int32 := pif (inr 1 1000 mi) (pif (30000 < x 0 0 + mi) 2 0) 1
noncomputable def madv (n : Nat) (x : Sg) (mi : Int32) : Sg := pif (inr 1 1000 mi ∧ ¬ 30000 < x 0 0 + mi) (fadv n (su x 5 0 0) mi) (su x 5 0 (mcadv x mi))
noncomputable def mcord (n : Nat) (x : Sg) (dp mk r b d : Int32) : Int32 := pif (inr 0 1 dp ∧ inr 0 (x 1 0 - 1) r ∧ inr 0 4 b ∧ inr 0 4 d) (pif (inr 0 999 mk) (pif (su x 5 0 0 17 mk.toNatClampNeg = -1) (pif (flead (su x 5 0 0) = dp ∧ su x 5 0 0 9 r.toNatClampNeg = 0 ∧ su x 5 0 0 0 0 < su x 5 0 0 6 r.toNatClampNeg ∧ mbf n (su x 5 0 0) b.toNatClampNeg r.toNatClampNeg ∧ mdf n (su x 5 0 0) d.toNatClampNeg r.toNatClampNeg) 0 3) 0) 2) 1
noncomputable def mord (n om : Nat) (x : Sg) (dp mk r b d : Int32) : Sg := pif (mcord n x dp mk r b d = 0) (forder om (su x 5 0 0) mk r b d) (su x 5 0 (mcord n x dp mk r b d))
noncomputable def mlowb (n : Nat) (y : Sg) (g : Nat) : Int32 := lowF (fun q => mbf n y q g) 5 0
noncomputable def mlowd (n : Nat) (y : Sg) (g : Nat) : Int32 := lowF (fun q => mdf n y q g) 5 0
noncomputable def mgiveb (n : Nat) (y : Sg) (g : Nat) : Sg := pif (mlowb n y g = -1) (fdrop y g 4) (funplug (su (su y 10 g (mlowb n y g)) 12 (mlowb n y g).toNatClampNeg (su y 10 g (mlowb n y g) 12 (mlowb n y g).toNatClampNeg - su y 10 g (mlowb n y g) 8 g)) (mlowb n y g))
noncomputable def mgived (n : Nat) (y : Sg) (g : Nat) : Sg := pif (mlowd n y g = -1) (fdrop y g 4) (su y 11 g (mlowd n y g))
noncomputable def mgob (n : Nat) (y : Sg) (g : Int32) : Sg := pif (g = -1) y (mgiveb n y g.toNatClampNeg)
noncomputable def mgod (n : Nat) (y : Sg) (g : Int32) : Sg := pif (g = -1) y (mgived n y g.toNatClampNeg)
noncomputable def mbrk (n : Nat) (z : Sg) (b v : Int32) : Sg := pif (v = 0) (su z 13 b.toNatClampNeg v) (mgob n (it (srel b 6) n (funplug (su z 13 b.toNatClampNeg v) b)) (goF b 6 (funplug (su z 13 b.toNatClampNeg v) b) n))
noncomputable def mail (n : Nat) (z : Sg) (d v : Int32) : Sg := pif (v = 0 ∨ ¬ z 14 d.toNatClampNeg = 0) (su z 14 d.toNatClampNeg v) (mgod n (it (srel 6 d) n (su z 14 d.toNatClampNeg v)) (goF 6 d (su z 14 d.toNatClampNeg v) n))
theorem s5_0 (x : Sg) (k : Nat) (v : Int32) : su x 5 0 v 0 k = x 0 k := rfl
theorem s5_6 (x : Sg) (k : Nat) (v : Int32) : su x 5 0 v 6 k = x 6 k := rfl
theorem s5_9 (x : Sg) (k : Nat) (v : Int32) : su x 5 0 v 9 k = x 9 k := rfl
theorem s5_17 (x : Sg) (k : Nat) (v : Int32) : su x 5 0 v 17 k = x 17 k := rfl
def oc {α : Type} (xo : Option String) (a b : α) : α := match xo with | none => a | some _ => b
/-- an exception's number among the classes ls -/
def cd (ls : List String) : Option String → Int32 | none => 0 | some E => nI (ls.idxOf E + 1)
noncomputable def bL (r : Int32) : Int64 := pif (r = 0) 0 1
end
section
/-! THE LAW'S OWN DEPOT: al 0 runs (start, end, charge), 1 states, 2 buses, 3 drivers, 4 charges and what is broken, 5 who is ill, 6 chargers, 7 log, 8 marks, 9 numbers; behind it any world wr -/
def rA (x : Sg) : Nat → Int32 := fun q => if q % 3 = 0 then x 6 (q / 3) else if q % 3 = 1 then x 7 (q / 3) else x 8 (q / 3)
def pA (x : Sg) (f : Nat) : Nat → Int32 := fun q => x f q + 1
def bA (x : Sg) : Nat → Int32 := fun q => if q % 2 = 0 then x 12 (q / 2) else x 13 (q / 2)
def nAr (x : Sg) : Nat → Int32 := fun q => if q = 0 then x 0 0 else if q = 1 then x 1 0 else if q = 2 then x 2 0 else if q = 3 then x 3 0 + 1 else if q = 4 then x 4 0 else 0
def wL (cy : Nat → ClassId) (al : Nat → Nat) (x : Sg) (wr : va_W) : va_W :=
  (al 0, .inl (cy 0, 60, .inl (rA x))) :: (al 1, .inl (cy 0, 20, .inl (x 9))) :: (al 2, .inl (cy 0, 20, .inl (pA x 10))) :: (al 3, .inl (cy 0, 20, .inl (pA x 11))) :: (al 4, .inl (cy 0, 10, .inl (bA x))) :: (al 5, .inl (cy 0, 5, .inl (x 14))) :: (al 6, .inl (cy 0, 2, .inl (pA x 15))) :: (al 7, .inl (cy 0, 60, .inl (x 16))) :: (al 8, .inl (cy 0, 60, .inl (x 18))) :: (al 9, .inl (cy 0, 5, .inl (nAr x))) :: wr
theorem rA_n (x : Sg) {f : Nat} (k : Nat) (v : Int32) (h6 : 6 ≠ f) (h7 : 7 ≠ f) (h8 : 8 ≠ f) : rA (su x f k v) = rA x := by
  unfold rA
  rw [su_F x k v h6, su_F x k v h7, su_F x k v h8]
theorem pA_n (x : Sg) {f g : Nat} (k : Nat) (v : Int32) (h : g ≠ f) : pA (su x f k v) g = pA x g := by
  unfold pA
  rw [su_F x k v h]
theorem bA_n (x : Sg) {f : Nat} (k : Nat) (v : Int32) (h12 : 12 ≠ f) (h13 : 13 ≠ f) : bA (su x f k v) = bA x := by
  unfold bA
  rw [su_F x k v h12, su_F x k v h13]
theorem nAr_n (x : Sg) {f : Nat} (k : Nat) (v : Int32) (h0 : 0 ≠ f) (h1 : 1 ≠ f) (h2 : 2 ≠ f) (h3 : 3 ≠ f) (h4 : 4 ≠ f) : nAr (su x f k v) = nAr x := by
  unfold nAr
  rw [su_F x k v h0, su_F x k v h1, su_F x k v h2, su_F x k v h3, su_F x k v h4]
theorem pA_u (x : Sg) (f j : Nat) (u : Int32) : upd (pA x f) j (u + 1) = pA (su x f j u) f := by
  funext q
  simp only [upd, pA, su]
  by_cases h : q = j
  · simp [h]
  · simp [h]
theorem p1_iff {a b : Int32} : a + 1 = b + 1 ↔ a = b := Int32.add_left_inj 1
theorem i3_0 {i : Int32} {j : Nat} (h : i = nI j) : 3 * i = nI (3 * j) := by rw [h]; exact (Int32.ofNat_mul 3 j).symm
theorem i3_1 {i : Int32} {j : Nat} (h : i = nI j) : 3 * i + 1 = nI (3 * j + 1) := by rw [i3_0 h]; exact nI_add _ 1
theorem i3_2 {i : Int32} {j : Nat} (h : i = nI j) : 3 * i + 2 = nI (3 * j + 2) := by rw [i3_0 h]; exact nI_add _ 2
theorem i2_0 {i : Int32} {j : Nat} (h : i = nI j) : 2 * i = nI (2 * j) := by rw [h]; exact (Int32.ofNat_mul 2 j).symm
theorem i2_1 {i : Int32} {j : Nat} (h : i = nI j) : 2 * i + 1 = nI (2 * j + 1) := by rw [i2_0 h]; exact nI_add _ 1
theorem i2_w {i : Int32} {j : Nat} (h : i = nI j) : 2 * (i + 1) - 2 = nI (2 * j) := by
  rw [h, nI_1, i2_0 rfl, show 2 * (j + 1) = 2 * j + 1 + 1 by omega, show nI (2 * j + 1 + 1) - 2 = nI (2 * j + 1 + 1) - 1 - 1 by rw [Int32.sub_sub]; rfl, nI_pred, nI_pred]

theorem rA_0 (x : Sg) (j : Nat) : rA x (3 * j) = x 6 j := by
  unfold rA
  have h1 : (3 * j) % 3 = 0 := by omega
  have h2 : (3 * j) / 3 = j := by omega
  simp [h1, h2]
theorem rA_u0 (x : Sg) (j : Nat) (v : Int32) : upd (rA x) (3 * j) v = rA (su x 6 j v) := by
  funext q
  simp only [upd, rA, su]
  by_cases h : q = 3 * j
  · subst h
    have h1 : (3 * j) % 3 = 0 := by omega
    have h2 : (3 * j) / 3 = j := by omega
    simp [h1, h2]
  · have h3 : q % 3 = 0 → q / 3 ≠ j := by omega
    rw [if_neg h]
    have h4 : q % 3 = 0 ∨ q % 3 = 1 ∨ q % 3 = 2 := by omega
    rcases h4 with h4 | h4 | h4 <;> simp [h4] at h3 ⊢ <;> simp [h3]
theorem rA_1 (x : Sg) (j : Nat) : rA x (3 * j + 1) = x 7 j := by
  unfold rA
  have h1 : (3 * j + 1) % 3 = 1 := by omega
  have h2 : (3 * j + 1) / 3 = j := by omega
  simp [h1, h2]
theorem rA_u1 (x : Sg) (j : Nat) (v : Int32) : upd (rA x) (3 * j + 1) v = rA (su x 7 j v) := by
  funext q
  simp only [upd, rA, su]
  by_cases h : q = 3 * j + 1
  · subst h
    have h1 : (3 * j + 1) % 3 = 1 := by omega
    have h2 : (3 * j + 1) / 3 = j := by omega
    simp [h1, h2]
  · have h3 : q % 3 = 1 → q / 3 ≠ j := by omega
    rw [if_neg h]
    have h4 : q % 3 = 0 ∨ q % 3 = 1 ∨ q % 3 = 2 := by omega
    rcases h4 with h4 | h4 | h4 <;> simp [h4] at h3 ⊢ <;> simp [h3]
theorem rA_2 (x : Sg) (j : Nat) : rA x (3 * j + 2) = x 8 j := by
  unfold rA
  have h1 : (3 * j + 2) % 3 = 2 := by omega
  have h2 : (3 * j + 2) / 3 = j := by omega
  simp [h1, h2]
theorem rA_u2 (x : Sg) (j : Nat) (v : Int32) : upd (rA x) (3 * j + 2) v = rA (su x 8 j v) := by
  funext q
  simp only [upd, rA, su]
  by_cases h : q = 3 * j + 2
  · subst h
    have h1 : (3 * j + 2) % 3 = 2 := by omega
    have h2 : (3 * j + 2) / 3 = j := by omega
    simp [h1, h2]
  · have h3 : q % 3 = 2 → q / 3 ≠ j := by omega
    rw [if_neg h]
    have h4 : q % 3 = 0 ∨ q % 3 = 1 ∨ q % 3 = 2 := by omega
    rcases h4 with h4 | h4 | h4 <;> simp [h4] at h3 ⊢ <;> simp [h3]
theorem bA_0 (x : Sg) (j : Nat) : bA x (2 * j) = x 12 j := by
  unfold bA
  have h1 : (2 * j) % 2 = 0 := by omega
  have h2 : (2 * j) / 2 = j := by omega
  simp [h1, h2]
theorem bA_u0 (x : Sg) (j : Nat) (v : Int32) : upd (bA x) (2 * j) v = bA (su x 12 j v) := by
  funext q
  simp only [upd, bA, su]
  by_cases h : q = 2 * j
  · subst h
    have h1 : (2 * j) % 2 = 0 := by omega
    have h2 : (2 * j) / 2 = j := by omega
    simp [h1, h2]
  · have h3 : q % 2 = 0 → q / 2 ≠ j := by omega
    rw [if_neg h]
    have h4 : q % 2 = 0 ∨ q % 2 = 1 := by omega
    rcases h4 with h4 | h4 <;> simp [h4] at h3 ⊢ <;> simp [h3]
theorem bA_1 (x : Sg) (j : Nat) : bA x (2 * j + 1) = x 13 j := by
  unfold bA
  have h1 : (2 * j + 1) % 2 = 1 := by omega
  have h2 : (2 * j + 1) / 2 = j := by omega
  simp [h1, h2]
theorem bA_u1 (x : Sg) (j : Nat) (v : Int32) : upd (bA x) (2 * j + 1) v = bA (su x 13 j v) := by
  funext q
  simp only [upd, bA, su]
  by_cases h : q = 2 * j + 1
  · subst h
    have h1 : (2 * j + 1) % 2 = 1 := by omega
    have h2 : (2 * j + 1) / 2 = j := by omega
    simp [h1, h2]
  · have h3 : q % 2 = 1 → q / 2 ≠ j := by omega
    rw [if_neg h]
    have h4 : q % 2 = 0 ∨ q % 2 = 1 := by omega
    rcases h4 with h4 | h4 <;> simp [h4] at h3 ⊢ <;> simp [h3]
theorem nAr_u0 (x : Sg) (v : Int32) : upd (nAr x) 0 v = nAr (su x 0 0 v) := by
  funext q
  simp only [upd, nAr, su]
  by_cases h : q = 0
  · subst h; simp
  · rw [if_neg h]
    by_cases h0 : q = 0
    · subst h0; first | exact absurd rfl h | simp
    by_cases h1 : q = 1
    · subst h1; first | exact absurd rfl h | simp
    by_cases h2 : q = 2
    · subst h2; first | exact absurd rfl h | simp
    by_cases h3 : q = 3
    · subst h3; first | exact absurd rfl h | simp
    by_cases h4 : q = 4
    · subst h4; first | exact absurd rfl h | simp
    simp [h0, h1, h2, h3, h4]
theorem nAr_u1 (x : Sg) (v : Int32) : upd (nAr x) 1 v = nAr (su x 1 0 v) := by
  funext q
  simp only [upd, nAr, su]
  by_cases h : q = 1
  · subst h; simp
  · rw [if_neg h]
    by_cases h0 : q = 0
    · subst h0; first | exact absurd rfl h | simp
    by_cases h1 : q = 1
    · subst h1; first | exact absurd rfl h | simp
    by_cases h2 : q = 2
    · subst h2; first | exact absurd rfl h | simp
    by_cases h3 : q = 3
    · subst h3; first | exact absurd rfl h | simp
    by_cases h4 : q = 4
    · subst h4; first | exact absurd rfl h | simp
    simp [h0, h1, h2, h3, h4]
theorem nAr_u2 (x : Sg) (v : Int32) : upd (nAr x) 2 v = nAr (su x 2 0 v) := by
  funext q
  simp only [upd, nAr, su]
  by_cases h : q = 2
  · subst h; simp
  · rw [if_neg h]
    by_cases h0 : q = 0
    · subst h0; first | exact absurd rfl h | simp
    by_cases h1 : q = 1
    · subst h1; first | exact absurd rfl h | simp
    by_cases h2 : q = 2
    · subst h2; first | exact absurd rfl h | simp
    by_cases h3 : q = 3
    · subst h3; first | exact absurd rfl h | simp
    by_cases h4 : q = 4
    · subst h4; first | exact absurd rfl h | simp
    simp [h0, h1, h2, h3, h4]
theorem nAr_u3 (x : Sg) (v : Int32) : upd (nAr x) 3 (v + 1) = nAr (su x 3 0 v) := by
  funext q
  simp only [upd, nAr, su]
  by_cases h : q = 3
  · subst h; simp
  · rw [if_neg h]
    by_cases h0 : q = 0
    · subst h0; first | exact absurd rfl h | simp
    by_cases h1 : q = 1
    · subst h1; first | exact absurd rfl h | simp
    by_cases h2 : q = 2
    · subst h2; first | exact absurd rfl h | simp
    by_cases h3 : q = 3
    · subst h3; first | exact absurd rfl h | simp
    by_cases h4 : q = 4
    · subst h4; first | exact absurd rfl h | simp
    simp [h0, h1, h2, h3, h4]
theorem nAr_u4 (x : Sg) (v : Int32) : upd (nAr x) 4 v = nAr (su x 4 0 v) := by
  funext q
  simp only [upd, nAr, su]
  by_cases h : q = 4
  · subst h; simp
  · rw [if_neg h]
    by_cases h0 : q = 0
    · subst h0; first | exact absurd rfl h | simp
    by_cases h1 : q = 1
    · subst h1; first | exact absurd rfl h | simp
    by_cases h2 : q = 2
    · subst h2; first | exact absurd rfl h | simp
    by_cases h3 : q = 3
    · subst h3; first | exact absurd rfl h | simp
    by_cases h4 : q = 4
    · subst h4; first | exact absurd rfl h | simp
    simp [h0, h1, h2, h3, h4]
section WLL
variable {p : Program} {l : Launch} {e : Env} {R : Room} {s : State} {m : MethodId} {args : Array Value} {below : List Frame} {meth : Method} {c : Code} {cells slots : Nat} {Q : State → Prop} {cc : ByteArray} {nL : Nat} {Ts : List Cond} {own : String} {ret : Option FieldType} {G : va_G} {cy : Nat → ClassId} {A : Nat → Prop} {pc : Nat} {lo : List (Option Value)} {st rest : List Value} {al : Nat → Nat} {x : Sg} {wr w w1 w2 wc : va_W}
variable {y : MethodName} {wsY wsY' : List Cond} {fr lc mc ms : Nat} {As : List Value} {r : Int32} {b : Nat} {bytes : ByteArray} {maxL idx nA : Nat} {retY : Option FieldType}
theorem vL_l_r0 (C : vC p s m args meth c cc nL Ts own ret G cy A) (j : Nat) {i : Int32} (hi : i = nI j) (hj : j < 20) (hd : decode cc pc = .ok (.iaload, 1)) (k : V p l e R s m args below meth c nL G A Q (wL cy al x wr) cells slots (pc + 1) lo (.int (x 6 j) :: st)) : V p l e R s m args below meth c nL G A Q (wL cy al x wr) cells slots (pc) lo (.int (3 * i) :: .ref (al 0) :: st) := v_iald C 0 (3 * j) (n := 60) (f := rA x) rfl (i3_0 hi) (by omega) (by decide) hd (by rw [rA_0]; exact k)
theorem vL_l_r1 (C : vC p s m args meth c cc nL Ts own ret G cy A) (j : Nat) {i : Int32} (hi : i = nI j) (hj : j < 20) (hd : decode cc pc = .ok (.iaload, 1)) (k : V p l e R s m args below meth c nL G A Q (wL cy al x wr) cells slots (pc + 1) lo (.int (x 7 j) :: st)) : V p l e R s m args below meth c nL G A Q (wL cy al x wr) cells slots (pc) lo (.int (3 * i + 1) :: .ref (al 0) :: st) := v_iald C 0 (3 * j + 1) (n := 60) (f := rA x) rfl (i3_1 hi) (by omega) (by decide) hd (by rw [rA_1]; exact k)
theorem vL_l_r2 (C : vC p s m args meth c cc nL Ts own ret G cy A) (j : Nat) {i : Int32} (hi : i = nI j) (hj : j < 20) (hd : decode cc pc = .ok (.iaload, 1)) (k : V p l e R s m args below meth c nL G A Q (wL cy al x wr) cells slots (pc + 1) lo (.int (x 8 j) :: st)) : V p l e R s m args below meth c nL G A Q (wL cy al x wr) cells slots (pc) lo (.int (3 * i + 2) :: .ref (al 0) :: st) := v_iald C 0 (3 * j + 2) (n := 60) (f := rA x) rfl (i3_2 hi) (by omega) (by decide) hd (by rw [rA_2]; exact k)
theorem vL_l_rq (C : vC p s m args meth c cc nL Ts own ret G cy A) (j : Nat) {i : Int32} (hi : i = nI j) (hj : j < 60) (hd : decode cc pc = .ok (.iaload, 1)) (k : V p l e R s m args below meth c nL G A Q (wL cy al x wr) cells slots (pc + 1) lo (.int (rA x j) :: st)) : V p l e R s m args below meth c nL G A Q (wL cy al x wr) cells slots (pc) lo (.int (i) :: .ref (al 0) :: st) := v_iald C 0 (j) (n := 60) (f := rA x) rfl hi (by omega) (by decide) hd k
theorem vL_l_s (C : vC p s m args meth c cc nL Ts own ret G cy A) (j : Nat) {i : Int32} (hi : i = nI j) (hj : j < 20) (hd : decode cc pc = .ok (.iaload, 1)) (k : V p l e R s m args below meth c nL G A Q (wL cy al x wr) cells slots (pc + 1) lo (.int (x 9 j) :: st)) : V p l e R s m args below meth c nL G A Q (wL cy al x wr) cells slots (pc) lo (.int (i) :: .ref (al 1) :: st) := v_iald C 1 (j) (n := 20) (f := x 9) rfl hi (by omega) (by decide) hd k
theorem vL_l_w (C : vC p s m args meth c cc nL Ts own ret G cy A) (j : Nat) {i : Int32} (hi : i = nI j) (hj : j < 20) (hd : decode cc pc = .ok (.iaload, 1)) (k : V p l e R s m args below meth c nL G A Q (wL cy al x wr) cells slots (pc + 1) lo (.int (x 10 j + 1) :: st)) : V p l e R s m args below meth c nL G A Q (wL cy al x wr) cells slots (pc) lo (.int (i) :: .ref (al 2) :: st) := v_iald C 2 (j) (n := 20) (f := pA x 10) rfl hi (by omega) (by decide) hd k
theorem vL_l_d (C : vC p s m args meth c cc nL Ts own ret G cy A) (j : Nat) {i : Int32} (hi : i = nI j) (hj : j < 20) (hd : decode cc pc = .ok (.iaload, 1)) (k : V p l e R s m args below meth c nL G A Q (wL cy al x wr) cells slots (pc + 1) lo (.int (x 11 j + 1) :: st)) : V p l e R s m args below meth c nL G A Q (wL cy al x wr) cells slots (pc) lo (.int (i) :: .ref (al 3) :: st) := v_iald C 3 (j) (n := 20) (f := pA x 11) rfl hi (by omega) (by decide) hd k
theorem vL_l_b0 (C : vC p s m args meth c cc nL Ts own ret G cy A) (j : Nat) {i : Int32} (hi : i = nI j) (hj : j < 5) (hd : decode cc pc = .ok (.iaload, 1)) (k : V p l e R s m args below meth c nL G A Q (wL cy al x wr) cells slots (pc + 1) lo (.int (x 12 j) :: st)) : V p l e R s m args below meth c nL G A Q (wL cy al x wr) cells slots (pc) lo (.int (2 * i) :: .ref (al 4) :: st) := v_iald C 4 (2 * j) (n := 10) (f := bA x) rfl (i2_0 hi) (by omega) (by decide) hd (by rw [bA_0]; exact k)
theorem vL_l_b1 (C : vC p s m args meth c cc nL Ts own ret G cy A) (j : Nat) {i : Int32} (hi : i = nI j) (hj : j < 5) (hd : decode cc pc = .ok (.iaload, 1)) (k : V p l e R s m args below meth c nL G A Q (wL cy al x wr) cells slots (pc + 1) lo (.int (x 13 j) :: st)) : V p l e R s m args below meth c nL G A Q (wL cy al x wr) cells slots (pc) lo (.int (2 * i + 1) :: .ref (al 4) :: st) := v_iald C 4 (2 * j + 1) (n := 10) (f := bA x) rfl (i2_1 hi) (by omega) (by decide) hd (by rw [bA_1]; exact k)
theorem vL_l_bw (C : vC p s m args meth c cc nL Ts own ret G cy A) (j : Nat) {i : Int32} (hi : i = nI j) (hj : j < 5) (hd : decode cc pc = .ok (.iaload, 1)) (k : V p l e R s m args below meth c nL G A Q (wL cy al x wr) cells slots (pc + 1) lo (.int (x 12 j) :: st)) : V p l e R s m args below meth c nL G A Q (wL cy al x wr) cells slots (pc) lo (.int (2 * (i + 1) - 2) :: .ref (al 4) :: st) := v_iald C 4 (2 * j) (n := 10) (f := bA x) rfl (i2_w hi) (by omega) (by decide) hd (by rw [bA_0]; exact k)
theorem vL_l_i (C : vC p s m args meth c cc nL Ts own ret G cy A) (j : Nat) {i : Int32} (hi : i = nI j) (hj : j < 5) (hd : decode cc pc = .ok (.iaload, 1)) (k : V p l e R s m args below meth c nL G A Q (wL cy al x wr) cells slots (pc + 1) lo (.int (x 14 j) :: st)) : V p l e R s m args below meth c nL G A Q (wL cy al x wr) cells slots (pc) lo (.int (i) :: .ref (al 5) :: st) := v_iald C 5 (j) (n := 5) (f := x 14) rfl hi (by omega) (by decide) hd k
theorem vL_l_g (C : vC p s m args meth c cc nL Ts own ret G cy A) (j : Nat) {i : Int32} (hi : i = nI j) (hj : j < 2) (hd : decode cc pc = .ok (.iaload, 1)) (k : V p l e R s m args below meth c nL G A Q (wL cy al x wr) cells slots (pc + 1) lo (.int (x 15 j + 1) :: st)) : V p l e R s m args below meth c nL G A Q (wL cy al x wr) cells slots (pc) lo (.int (i) :: .ref (al 6) :: st) := v_iald C 6 (j) (n := 2) (f := pA x 15) rfl hi (by omega) (by decide) hd k
theorem vL_l_l (C : vC p s m args meth c cc nL Ts own ret G cy A) (j : Nat) {i : Int32} (hi : i = nI j) (hj : j < 60) (hd : decode cc pc = .ok (.iaload, 1)) (k : V p l e R s m args below meth c nL G A Q (wL cy al x wr) cells slots (pc + 1) lo (.int (x 16 j) :: st)) : V p l e R s m args below meth c nL G A Q (wL cy al x wr) cells slots (pc) lo (.int (i) :: .ref (al 7) :: st) := v_iald C 7 (j) (n := 60) (f := x 16) rfl hi (by omega) (by decide) hd k
theorem vL_l_m (C : vC p s m args meth c cc nL Ts own ret G cy A) (j : Nat) {i : Int32} (hi : i = nI j) (hj : j < 60) (hd : decode cc pc = .ok (.iaload, 1)) (k : V p l e R s m args below meth c nL G A Q (wL cy al x wr) cells slots (pc + 1) lo (.int (x 18 j) :: st)) : V p l e R s m args below meth c nL G A Q (wL cy al x wr) cells slots (pc) lo (.int (i) :: .ref (al 8) :: st) := v_iald C 8 (j) (n := 60) (f := x 18) rfl hi (by omega) (by decide) hd k
theorem vL_l_n0 (C : vC p s m args meth c cc nL Ts own ret G cy A) (hd : decode cc pc = .ok (.iaload, 1)) (k : V p l e R s m args below meth c nL G A Q (wL cy al x wr) cells slots (pc + 1) lo (.int (x 0 0) :: st)) : V p l e R s m args below meth c nL G A Q (wL cy al x wr) cells slots (pc) lo (.int (0) :: .ref (al 9) :: st) := v_iald C 9 (0) (n := 5) (f := nAr x) rfl rfl (by decide) (by decide) hd k
theorem vL_l_n1 (C : vC p s m args meth c cc nL Ts own ret G cy A) (hd : decode cc pc = .ok (.iaload, 1)) (k : V p l e R s m args below meth c nL G A Q (wL cy al x wr) cells slots (pc + 1) lo (.int (x 1 0) :: st)) : V p l e R s m args below meth c nL G A Q (wL cy al x wr) cells slots (pc) lo (.int (1) :: .ref (al 9) :: st) := v_iald C 9 (1) (n := 5) (f := nAr x) rfl rfl (by decide) (by decide) hd k
theorem vL_l_n2 (C : vC p s m args meth c cc nL Ts own ret G cy A) (hd : decode cc pc = .ok (.iaload, 1)) (k : V p l e R s m args below meth c nL G A Q (wL cy al x wr) cells slots (pc + 1) lo (.int (x 2 0) :: st)) : V p l e R s m args below meth c nL G A Q (wL cy al x wr) cells slots (pc) lo (.int (2) :: .ref (al 9) :: st) := v_iald C 9 (2) (n := 5) (f := nAr x) rfl rfl (by decide) (by decide) hd k
theorem vL_l_n3 (C : vC p s m args meth c cc nL Ts own ret G cy A) (hd : decode cc pc = .ok (.iaload, 1)) (k : V p l e R s m args below meth c nL G A Q (wL cy al x wr) cells slots (pc + 1) lo (.int (x 3 0 + 1) :: st)) : V p l e R s m args below meth c nL G A Q (wL cy al x wr) cells slots (pc) lo (.int (3) :: .ref (al 9) :: st) := v_iald C 9 (3) (n := 5) (f := nAr x) rfl rfl (by decide) (by decide) hd k
theorem vL_l_n4 (C : vC p s m args meth c cc nL Ts own ret G cy A) (hd : decode cc pc = .ok (.iaload, 1)) (k : V p l e R s m args below meth c nL G A Q (wL cy al x wr) cells slots (pc + 1) lo (.int (x 4 0) :: st)) : V p l e R s m args below meth c nL G A Q (wL cy al x wr) cells slots (pc) lo (.int (4) :: .ref (al 9) :: st) := v_iald C 9 (4) (n := 5) (f := nAr x) rfl rfl (by decide) (by decide) hd k
theorem vL_s_r0 (C : vC p s m args meth c cc nL Ts own ret G cy A) (j : Nat) {i : Int32} (hi : i = nI j) (hj : j < 20) {v : Int32} (hd : decode cc pc = .ok (.iastore, 1)) (k : V p l e R s m args below meth c nL G A Q (wL cy al (su x 6 j v) wr) cells slots (pc + 1) lo (st)) : V p l e R s m args below meth c nL G A Q (wL cy al x wr) cells slots (pc) lo (.int v :: .int (3 * i) :: .ref (al 0) :: st) := by
  exact v_iast C 0 (3 * j) (n := 60) (f := rA x) rfl (i3_0 hi) (by omega) (by decide) (by rw [rA_u0]; simp only [wL, su_F x j v (show 9 ≠ 6 by decide), su_F x j v (show 14 ≠ 6 by decide), su_F x j v (show 16 ≠ 6 by decide), su_F x j v (show 18 ≠ 6 by decide), pA_n x j v (show 10 ≠ 6 by decide), pA_n x j v (show 11 ≠ 6 by decide), pA_n x j v (show 15 ≠ 6 by decide), bA_n x j v (show 12 ≠ 6 by decide) (show 13 ≠ 6 by decide), nAr_n x j v (show 0 ≠ 6 by decide) (show 1 ≠ 6 by decide) (show 2 ≠ 6 by decide) (show 3 ≠ 6 by decide) (show 4 ≠ 6 by decide)]; rfl) hd k
theorem vL_s_r1 (C : vC p s m args meth c cc nL Ts own ret G cy A) (j : Nat) {i : Int32} (hi : i = nI j) (hj : j < 20) {v : Int32} (hd : decode cc pc = .ok (.iastore, 1)) (k : V p l e R s m args below meth c nL G A Q (wL cy al (su x 7 j v) wr) cells slots (pc + 1) lo (st)) : V p l e R s m args below meth c nL G A Q (wL cy al x wr) cells slots (pc) lo (.int v :: .int (3 * i + 1) :: .ref (al 0) :: st) := by
  exact v_iast C 0 (3 * j + 1) (n := 60) (f := rA x) rfl (i3_1 hi) (by omega) (by decide) (by rw [rA_u1]; simp only [wL, su_F x j v (show 9 ≠ 7 by decide), su_F x j v (show 14 ≠ 7 by decide), su_F x j v (show 16 ≠ 7 by decide), su_F x j v (show 18 ≠ 7 by decide), pA_n x j v (show 10 ≠ 7 by decide), pA_n x j v (show 11 ≠ 7 by decide), pA_n x j v (show 15 ≠ 7 by decide), bA_n x j v (show 12 ≠ 7 by decide) (show 13 ≠ 7 by decide), nAr_n x j v (show 0 ≠ 7 by decide) (show 1 ≠ 7 by decide) (show 2 ≠ 7 by decide) (show 3 ≠ 7 by decide) (show 4 ≠ 7 by decide)]; rfl) hd k
theorem vL_s_r2 (C : vC p s m args meth c cc nL Ts own ret G cy A) (j : Nat) {i : Int32} (hi : i = nI j) (hj : j < 20) {v : Int32} (hd : decode cc pc = .ok (.iastore, 1)) (k : V p l e R s m args below meth c nL G A Q (wL cy al (su x 8 j v) wr) cells slots (pc + 1) lo (st)) : V p l e R s m args below meth c nL G A Q (wL cy al x wr) cells slots (pc) lo (.int v :: .int (3 * i + 2) :: .ref (al 0) :: st) := by
  exact v_iast C 0 (3 * j + 2) (n := 60) (f := rA x) rfl (i3_2 hi) (by omega) (by decide) (by rw [rA_u2]; simp only [wL, su_F x j v (show 9 ≠ 8 by decide), su_F x j v (show 14 ≠ 8 by decide), su_F x j v (show 16 ≠ 8 by decide), su_F x j v (show 18 ≠ 8 by decide), pA_n x j v (show 10 ≠ 8 by decide), pA_n x j v (show 11 ≠ 8 by decide), pA_n x j v (show 15 ≠ 8 by decide), bA_n x j v (show 12 ≠ 8 by decide) (show 13 ≠ 8 by decide), nAr_n x j v (show 0 ≠ 8 by decide) (show 1 ≠ 8 by decide) (show 2 ≠ 8 by decide) (show 3 ≠ 8 by decide) (show 4 ≠ 8 by decide)]; rfl) hd k
theorem vL_s_s (C : vC p s m args meth c cc nL Ts own ret G cy A) (j : Nat) {i : Int32} (hi : i = nI j) (hj : j < 20) {v : Int32} (hd : decode cc pc = .ok (.iastore, 1)) (k : V p l e R s m args below meth c nL G A Q (wL cy al (su x 9 j v) wr) cells slots (pc + 1) lo (st)) : V p l e R s m args below meth c nL G A Q (wL cy al x wr) cells slots (pc) lo (.int v :: .int (i) :: .ref (al 1) :: st) := by
  exact v_iast C 1 (j) (n := 20) (f := x 9) rfl hi (by omega) (by decide) (by rw [su_u]; simp only [wL, su_F x j v (show 14 ≠ 9 by decide), su_F x j v (show 16 ≠ 9 by decide), su_F x j v (show 18 ≠ 9 by decide), rA_n x j v (show 6 ≠ 9 by decide) (show 7 ≠ 9 by decide) (show 8 ≠ 9 by decide), pA_n x j v (show 10 ≠ 9 by decide), pA_n x j v (show 11 ≠ 9 by decide), pA_n x j v (show 15 ≠ 9 by decide), bA_n x j v (show 12 ≠ 9 by decide) (show 13 ≠ 9 by decide), nAr_n x j v (show 0 ≠ 9 by decide) (show 1 ≠ 9 by decide) (show 2 ≠ 9 by decide) (show 3 ≠ 9 by decide) (show 4 ≠ 9 by decide)]; rfl) hd k
theorem vL_s_w (C : vC p s m args meth c cc nL Ts own ret G cy A) (j : Nat) {i : Int32} (hi : i = nI j) (hj : j < 20) {u v : Int32} (hv : u = v + 1) (hd : decode cc pc = .ok (.iastore, 1)) (k : V p l e R s m args below meth c nL G A Q (wL cy al (su x 10 j v) wr) cells slots (pc + 1) lo (st)) : V p l e R s m args below meth c nL G A Q (wL cy al x wr) cells slots (pc) lo (.int u :: .int (i) :: .ref (al 2) :: st) := by
  subst hv; exact v_iast C 2 (j) (n := 20) (f := pA x 10) rfl hi (by omega) (by decide) (by rw [pA_u]; simp only [wL, su_F x j v (show 9 ≠ 10 by decide), su_F x j v (show 14 ≠ 10 by decide), su_F x j v (show 16 ≠ 10 by decide), su_F x j v (show 18 ≠ 10 by decide), rA_n x j v (show 6 ≠ 10 by decide) (show 7 ≠ 10 by decide) (show 8 ≠ 10 by decide), pA_n x j v (show 11 ≠ 10 by decide), pA_n x j v (show 15 ≠ 10 by decide), bA_n x j v (show 12 ≠ 10 by decide) (show 13 ≠ 10 by decide), nAr_n x j v (show 0 ≠ 10 by decide) (show 1 ≠ 10 by decide) (show 2 ≠ 10 by decide) (show 3 ≠ 10 by decide) (show 4 ≠ 10 by decide)]; rfl) hd k
theorem vL_s_d (C : vC p s m args meth c cc nL Ts own ret G cy A) (j : Nat) {i : Int32} (hi : i = nI j) (hj : j < 20) {u v : Int32} (hv : u = v + 1) (hd : decode cc pc = .ok (.iastore, 1)) (k : V p l e R s m args below meth c nL G A Q (wL cy al (su x 11 j v) wr) cells slots (pc + 1) lo (st)) : V p l e R s m args below meth c nL G A Q (wL cy al x wr) cells slots (pc) lo (.int u :: .int (i) :: .ref (al 3) :: st) := by
  subst hv; exact v_iast C 3 (j) (n := 20) (f := pA x 11) rfl hi (by omega) (by decide) (by rw [pA_u]; simp only [wL, su_F x j v (show 9 ≠ 11 by decide), su_F x j v (show 14 ≠ 11 by decide), su_F x j v (show 16 ≠ 11 by decide), su_F x j v (show 18 ≠ 11 by decide), rA_n x j v (show 6 ≠ 11 by decide) (show 7 ≠ 11 by decide) (show 8 ≠ 11 by decide), pA_n x j v (show 10 ≠ 11 by decide), pA_n x j v (show 15 ≠ 11 by decide), bA_n x j v (show 12 ≠ 11 by decide) (show 13 ≠ 11 by decide), nAr_n x j v (show 0 ≠ 11 by decide) (show 1 ≠ 11 by decide) (show 2 ≠ 11 by decide) (show 3 ≠ 11 by decide) (show 4 ≠ 11 by decide)]; rfl) hd k
theorem vL_s_b0 (C : vC p s m args meth c cc nL Ts own ret G cy A) (j : Nat) {i : Int32} (hi : i = nI j) (hj : j < 5) {v : Int32} (hd : decode cc pc = .ok (.iastore, 1)) (k : V p l e R s m args below meth c nL G A Q (wL cy al (su x 12 j v) wr) cells slots (pc + 1) lo (st)) : V p l e R s m args below meth c nL G A Q (wL cy al x wr) cells slots (pc) lo (.int v :: .int (2 * i) :: .ref (al 4) :: st) := by
  exact v_iast C 4 (2 * j) (n := 10) (f := bA x) rfl (i2_0 hi) (by omega) (by decide) (by rw [bA_u0]; simp only [wL, su_F x j v (show 9 ≠ 12 by decide), su_F x j v (show 14 ≠ 12 by decide), su_F x j v (show 16 ≠ 12 by decide), su_F x j v (show 18 ≠ 12 by decide), rA_n x j v (show 6 ≠ 12 by decide) (show 7 ≠ 12 by decide) (show 8 ≠ 12 by decide), pA_n x j v (show 10 ≠ 12 by decide), pA_n x j v (show 11 ≠ 12 by decide), pA_n x j v (show 15 ≠ 12 by decide), nAr_n x j v (show 0 ≠ 12 by decide) (show 1 ≠ 12 by decide) (show 2 ≠ 12 by decide) (show 3 ≠ 12 by decide) (show 4 ≠ 12 by decide)]; rfl) hd k
theorem vL_s_b1 (C : vC p s m args meth c cc nL Ts own ret G cy A) (j : Nat) {i : Int32} (hi : i = nI j) (hj : j < 5) {v : Int32} (hd : decode cc pc = .ok (.iastore, 1)) (k : V p l e R s m args below meth c nL G A Q (wL cy al (su x 13 j v) wr) cells slots (pc + 1) lo (st)) : V p l e R s m args below meth c nL G A Q (wL cy al x wr) cells slots (pc) lo (.int v :: .int (2 * i + 1) :: .ref (al 4) :: st) := by
  exact v_iast C 4 (2 * j + 1) (n := 10) (f := bA x) rfl (i2_1 hi) (by omega) (by decide) (by rw [bA_u1]; simp only [wL, su_F x j v (show 9 ≠ 13 by decide), su_F x j v (show 14 ≠ 13 by decide), su_F x j v (show 16 ≠ 13 by decide), su_F x j v (show 18 ≠ 13 by decide), rA_n x j v (show 6 ≠ 13 by decide) (show 7 ≠ 13 by decide) (show 8 ≠ 13 by decide), pA_n x j v (show 10 ≠ 13 by decide), pA_n x j v (show 11 ≠ 13 by decide), pA_n x j v (show 15 ≠ 13 by decide), nAr_n x j v (show 0 ≠ 13 by decide) (show 1 ≠ 13 by decide) (show 2 ≠ 13 by decide) (show 3 ≠ 13 by decide) (show 4 ≠ 13 by decide)]; rfl) hd k
theorem vL_s_bw (C : vC p s m args meth c cc nL Ts own ret G cy A) (j : Nat) {i : Int32} (hi : i = nI j) (hj : j < 5) {v : Int32} (hd : decode cc pc = .ok (.iastore, 1)) (k : V p l e R s m args below meth c nL G A Q (wL cy al (su x 12 j v) wr) cells slots (pc + 1) lo (st)) : V p l e R s m args below meth c nL G A Q (wL cy al x wr) cells slots (pc) lo (.int v :: .int (2 * (i + 1) - 2) :: .ref (al 4) :: st) := by
  exact v_iast C 4 (2 * j) (n := 10) (f := bA x) rfl (i2_w hi) (by omega) (by decide) (by rw [bA_u0]; simp only [wL, su_F x j v (show 9 ≠ 12 by decide), su_F x j v (show 14 ≠ 12 by decide), su_F x j v (show 16 ≠ 12 by decide), su_F x j v (show 18 ≠ 12 by decide), rA_n x j v (show 6 ≠ 12 by decide) (show 7 ≠ 12 by decide) (show 8 ≠ 12 by decide), pA_n x j v (show 10 ≠ 12 by decide), pA_n x j v (show 11 ≠ 12 by decide), pA_n x j v (show 15 ≠ 12 by decide), nAr_n x j v (show 0 ≠ 12 by decide) (show 1 ≠ 12 by decide) (show 2 ≠ 12 by decide) (show 3 ≠ 12 by decide) (show 4 ≠ 12 by decide)]; rfl) hd k
theorem vL_s_i (C : vC p s m args meth c cc nL Ts own ret G cy A) (j : Nat) {i : Int32} (hi : i = nI j) (hj : j < 5) {v : Int32} (hd : decode cc pc = .ok (.iastore, 1)) (k : V p l e R s m args below meth c nL G A Q (wL cy al (su x 14 j v) wr) cells slots (pc + 1) lo (st)) : V p l e R s m args below meth c nL G A Q (wL cy al x wr) cells slots (pc) lo (.int v :: .int (i) :: .ref (al 5) :: st) := by
  exact v_iast C 5 (j) (n := 5) (f := x 14) rfl hi (by omega) (by decide) (by rw [su_u]; simp only [wL, su_F x j v (show 9 ≠ 14 by decide), su_F x j v (show 16 ≠ 14 by decide), su_F x j v (show 18 ≠ 14 by decide), rA_n x j v (show 6 ≠ 14 by decide) (show 7 ≠ 14 by decide) (show 8 ≠ 14 by decide), pA_n x j v (show 10 ≠ 14 by decide), pA_n x j v (show 11 ≠ 14 by decide), pA_n x j v (show 15 ≠ 14 by decide), bA_n x j v (show 12 ≠ 14 by decide) (show 13 ≠ 14 by decide), nAr_n x j v (show 0 ≠ 14 by decide) (show 1 ≠ 14 by decide) (show 2 ≠ 14 by decide) (show 3 ≠ 14 by decide) (show 4 ≠ 14 by decide)]; rfl) hd k
theorem vL_s_g (C : vC p s m args meth c cc nL Ts own ret G cy A) (j : Nat) {i : Int32} (hi : i = nI j) (hj : j < 2) {u v : Int32} (hv : u = v + 1) (hd : decode cc pc = .ok (.iastore, 1)) (k : V p l e R s m args below meth c nL G A Q (wL cy al (su x 15 j v) wr) cells slots (pc + 1) lo (st)) : V p l e R s m args below meth c nL G A Q (wL cy al x wr) cells slots (pc) lo (.int u :: .int (i) :: .ref (al 6) :: st) := by
  subst hv; exact v_iast C 6 (j) (n := 2) (f := pA x 15) rfl hi (by omega) (by decide) (by rw [pA_u]; simp only [wL, su_F x j v (show 9 ≠ 15 by decide), su_F x j v (show 14 ≠ 15 by decide), su_F x j v (show 16 ≠ 15 by decide), su_F x j v (show 18 ≠ 15 by decide), rA_n x j v (show 6 ≠ 15 by decide) (show 7 ≠ 15 by decide) (show 8 ≠ 15 by decide), pA_n x j v (show 10 ≠ 15 by decide), pA_n x j v (show 11 ≠ 15 by decide), bA_n x j v (show 12 ≠ 15 by decide) (show 13 ≠ 15 by decide), nAr_n x j v (show 0 ≠ 15 by decide) (show 1 ≠ 15 by decide) (show 2 ≠ 15 by decide) (show 3 ≠ 15 by decide) (show 4 ≠ 15 by decide)]; rfl) hd k
theorem vL_s_l (C : vC p s m args meth c cc nL Ts own ret G cy A) (j : Nat) {i : Int32} (hi : i = nI j) (hj : j < 60) {v : Int32} (hd : decode cc pc = .ok (.iastore, 1)) (k : V p l e R s m args below meth c nL G A Q (wL cy al (su x 16 j v) wr) cells slots (pc + 1) lo (st)) : V p l e R s m args below meth c nL G A Q (wL cy al x wr) cells slots (pc) lo (.int v :: .int (i) :: .ref (al 7) :: st) := by
  exact v_iast C 7 (j) (n := 60) (f := x 16) rfl hi (by omega) (by decide) (by rw [su_u]; simp only [wL, su_F x j v (show 9 ≠ 16 by decide), su_F x j v (show 14 ≠ 16 by decide), su_F x j v (show 18 ≠ 16 by decide), rA_n x j v (show 6 ≠ 16 by decide) (show 7 ≠ 16 by decide) (show 8 ≠ 16 by decide), pA_n x j v (show 10 ≠ 16 by decide), pA_n x j v (show 11 ≠ 16 by decide), pA_n x j v (show 15 ≠ 16 by decide), bA_n x j v (show 12 ≠ 16 by decide) (show 13 ≠ 16 by decide), nAr_n x j v (show 0 ≠ 16 by decide) (show 1 ≠ 16 by decide) (show 2 ≠ 16 by decide) (show 3 ≠ 16 by decide) (show 4 ≠ 16 by decide)]; rfl) hd k
theorem vL_s_m (C : vC p s m args meth c cc nL Ts own ret G cy A) (j : Nat) {i : Int32} (hi : i = nI j) (hj : j < 60) {v : Int32} (hd : decode cc pc = .ok (.iastore, 1)) (k : V p l e R s m args below meth c nL G A Q (wL cy al (su x 18 j v) wr) cells slots (pc + 1) lo (st)) : V p l e R s m args below meth c nL G A Q (wL cy al x wr) cells slots (pc) lo (.int v :: .int (i) :: .ref (al 8) :: st) := by
  exact v_iast C 8 (j) (n := 60) (f := x 18) rfl hi (by omega) (by decide) (by rw [su_u]; simp only [wL, su_F x j v (show 9 ≠ 18 by decide), su_F x j v (show 14 ≠ 18 by decide), su_F x j v (show 16 ≠ 18 by decide), rA_n x j v (show 6 ≠ 18 by decide) (show 7 ≠ 18 by decide) (show 8 ≠ 18 by decide), pA_n x j v (show 10 ≠ 18 by decide), pA_n x j v (show 11 ≠ 18 by decide), pA_n x j v (show 15 ≠ 18 by decide), bA_n x j v (show 12 ≠ 18 by decide) (show 13 ≠ 18 by decide), nAr_n x j v (show 0 ≠ 18 by decide) (show 1 ≠ 18 by decide) (show 2 ≠ 18 by decide) (show 3 ≠ 18 by decide) (show 4 ≠ 18 by decide)]; rfl) hd k
theorem vL_s_n0 (C : vC p s m args meth c cc nL Ts own ret G cy A) {v : Int32} (hd : decode cc pc = .ok (.iastore, 1)) (k : V p l e R s m args below meth c nL G A Q (wL cy al (su x 0 0 v) wr) cells slots (pc + 1) lo (st)) : V p l e R s m args below meth c nL G A Q (wL cy al x wr) cells slots (pc) lo (.int v :: .int (0) :: .ref (al 9) :: st) := by
  exact v_iast C 9 (0) (n := 5) (f := nAr x) rfl rfl (by decide) (by decide) (by rw [nAr_u0]; simp only [wL, su_F x 0 v (show 9 ≠ 0 by decide), su_F x 0 v (show 14 ≠ 0 by decide), su_F x 0 v (show 16 ≠ 0 by decide), su_F x 0 v (show 18 ≠ 0 by decide), rA_n x 0 v (show 6 ≠ 0 by decide) (show 7 ≠ 0 by decide) (show 8 ≠ 0 by decide), pA_n x 0 v (show 10 ≠ 0 by decide), pA_n x 0 v (show 11 ≠ 0 by decide), pA_n x 0 v (show 15 ≠ 0 by decide), bA_n x 0 v (show 12 ≠ 0 by decide) (show 13 ≠ 0 by decide)]; rfl) hd k
theorem vL_s_n1 (C : vC p s m args meth c cc nL Ts own ret G cy A) {v : Int32} (hd : decode cc pc = .ok (.iastore, 1)) (k : V p l e R s m args below meth c nL G A Q (wL cy al (su x 1 0 v) wr) cells slots (pc + 1) lo (st)) : V p l e R s m args below meth c nL G A Q (wL cy al x wr) cells slots (pc) lo (.int v :: .int (1) :: .ref (al 9) :: st) := by
  exact v_iast C 9 (1) (n := 5) (f := nAr x) rfl rfl (by decide) (by decide) (by rw [nAr_u1]; simp only [wL, su_F x 0 v (show 9 ≠ 1 by decide), su_F x 0 v (show 14 ≠ 1 by decide), su_F x 0 v (show 16 ≠ 1 by decide), su_F x 0 v (show 18 ≠ 1 by decide), rA_n x 0 v (show 6 ≠ 1 by decide) (show 7 ≠ 1 by decide) (show 8 ≠ 1 by decide), pA_n x 0 v (show 10 ≠ 1 by decide), pA_n x 0 v (show 11 ≠ 1 by decide), pA_n x 0 v (show 15 ≠ 1 by decide), bA_n x 0 v (show 12 ≠ 1 by decide) (show 13 ≠ 1 by decide)]; rfl) hd k
theorem vL_s_n2 (C : vC p s m args meth c cc nL Ts own ret G cy A) {v : Int32} (hd : decode cc pc = .ok (.iastore, 1)) (k : V p l e R s m args below meth c nL G A Q (wL cy al (su x 2 0 v) wr) cells slots (pc + 1) lo (st)) : V p l e R s m args below meth c nL G A Q (wL cy al x wr) cells slots (pc) lo (.int v :: .int (2) :: .ref (al 9) :: st) := by
  exact v_iast C 9 (2) (n := 5) (f := nAr x) rfl rfl (by decide) (by decide) (by rw [nAr_u2]; simp only [wL, su_F x 0 v (show 9 ≠ 2 by decide), su_F x 0 v (show 14 ≠ 2 by decide), su_F x 0 v (show 16 ≠ 2 by decide), su_F x 0 v (show 18 ≠ 2 by decide), rA_n x 0 v (show 6 ≠ 2 by decide) (show 7 ≠ 2 by decide) (show 8 ≠ 2 by decide), pA_n x 0 v (show 10 ≠ 2 by decide), pA_n x 0 v (show 11 ≠ 2 by decide), pA_n x 0 v (show 15 ≠ 2 by decide), bA_n x 0 v (show 12 ≠ 2 by decide) (show 13 ≠ 2 by decide)]; rfl) hd k
theorem vL_s_n3 (C : vC p s m args meth c cc nL Ts own ret G cy A) {u v : Int32} (hv : u = v + 1) (hd : decode cc pc = .ok (.iastore, 1)) (k : V p l e R s m args below meth c nL G A Q (wL cy al (su x 3 0 v) wr) cells slots (pc + 1) lo (st)) : V p l e R s m args below meth c nL G A Q (wL cy al x wr) cells slots (pc) lo (.int u :: .int (3) :: .ref (al 9) :: st) := by
  subst hv; exact v_iast C 9 (3) (n := 5) (f := nAr x) rfl rfl (by decide) (by decide) (by rw [nAr_u3]; simp only [wL, su_F x 0 v (show 9 ≠ 3 by decide), su_F x 0 v (show 14 ≠ 3 by decide), su_F x 0 v (show 16 ≠ 3 by decide), su_F x 0 v (show 18 ≠ 3 by decide), rA_n x 0 v (show 6 ≠ 3 by decide) (show 7 ≠ 3 by decide) (show 8 ≠ 3 by decide), pA_n x 0 v (show 10 ≠ 3 by decide), pA_n x 0 v (show 11 ≠ 3 by decide), pA_n x 0 v (show 15 ≠ 3 by decide), bA_n x 0 v (show 12 ≠ 3 by decide) (show 13 ≠ 3 by decide)]; rfl) hd k
theorem vL_s_n4 (C : vC p s m args meth c cc nL Ts own ret G cy A) {v : Int32} (hd : decode cc pc = .ok (.iastore, 1)) (k : V p l e R s m args below meth c nL G A Q (wL cy al (su x 4 0 v) wr) cells slots (pc + 1) lo (st)) : V p l e R s m args below meth c nL G A Q (wL cy al x wr) cells slots (pc) lo (.int v :: .int (4) :: .ref (al 9) :: st) := by
  exact v_iast C 9 (4) (n := 5) (f := nAr x) rfl rfl (by decide) (by decide) (by rw [nAr_u4]; simp only [wL, su_F x 0 v (show 9 ≠ 4 by decide), su_F x 0 v (show 14 ≠ 4 by decide), su_F x 0 v (show 16 ≠ 4 by decide), su_F x 0 v (show 18 ≠ 4 by decide), rA_n x 0 v (show 6 ≠ 4 by decide) (show 7 ≠ 4 by decide) (show 8 ≠ 4 by decide), pA_n x 0 v (show 10 ≠ 4 by decide), pA_n x 0 v (show 11 ≠ 4 by decide), pA_n x 0 v (show 15 ≠ 4 by decide), bA_n x 0 v (show 12 ≠ 4 by decide) (show 13 ≠ 4 by decide)]; rfl) hd k
theorem v_callSV (C : vC p s m args meth c cc nL Ts own ret G cy A) (wl wr : va_W) (k : KV l G cy y wsY fr lc mc ms As wc w1) (hw : wsY = Cond.code y bytes maxL retY :: wsY') (hg : GoodIn Ts (va_wsS own idx y wsY))
    (hy : y.cls ≠ "java/lang/invoke/MethodHandle" ∧ y.cls ≠ "java/lang/invoke/VarHandle" ∧ (parseMethodDescriptor y.desc).map (fun d => d.parameters.length) = some nA) (hna : As.length = nA) (hR : fr + 1 ≤ R.frames ∧ 8 + (maxL + 11) + lc ≤ R.locals) (hcs : cells + mc ≤ R.cells ∧ slots + ms ≤ R.slots)
    (hst : st = As.reverse ++ rest) (hcat : (rest.map fun v => v.category).sum ≤ 8)
    (hw0 : w = wl ++ (wc ++ wr)) (hw2 : wl ++ (w1 ++ wr) = w2) (hd : decode cc pc = .ok (.invokestatic idx, 3)) (kk : V p l e R s m args below meth c nL G A Q w2 (cells + mc) (slots + ms) (pc + 3) lo (rest)) : V p l e R s m args below meth c nL G A Q w cells slots (pc) lo (st) := by
  subst hst
  subst hw0
  subst hw2
  intro H locs ls hP hD hS hl
  obtain ⟨hPc, hDc⟩ := v_in hP hD
  have hFc := v_free hDc hS C.2.2.1
  refine va_callv (va_runS (As := As) (rest := rest) C.1 (k H.size) (va_cwS nA C.1.2.2.2.2 hg hw rfl rfl hy hR) ⟨vI_blind, fun U hU hW => ⟨rfl, by rw [hU], by rw [hU]; exact hPc, va_K.moved hW.alike C.2.1, hDc.weaken (fun _ _ _ _ => trivial)⟩⟩ rfl hna (hl.1.1) rfl (lv_room hcat) hd hcs) hS (fun q _ h => hFc q h) hFc (fun u t H1 locs1 ht hvm hr' hB hz hk hS1 => ?_)
  obtain ⟨hP1, hK1, hD1⟩ := hB
  rw [ht] at hP1
  obtain ⟨hP2, hD2⟩ := v_join hP hD hFc hk hP1 hD1
  exact kk H1 locs1 ls hP2 hD2 hS1 hl
theorem v_sV (C : vC p s m args meth c cc nL Ts own ret G cy A) (k : KV l G cy y wsY fr lc mc ms As w w1) (hw : wsY = Cond.code y bytes maxL retY :: wsY') (hg : GoodIn Ts (va_wsS own idx y wsY)) (hy : y.cls ≠ "java/lang/invoke/MethodHandle" ∧ y.cls ≠ "java/lang/invoke/VarHandle" ∧ (parseMethodDescriptor y.desc).map (fun d => d.parameters.length) = some nA) (hna : As.length = nA) (hR : fr + 1 ≤ R.frames ∧ 8 + (maxL + 11) + lc ≤ R.locals) (hcs : cells + mc ≤ R.cells ∧ slots + ms ≤ R.slots) (hst : st = As.reverse ++ rest) (hcat : (rest.map fun v => v.category).sum ≤ 8) (hd : decode cc pc = .ok (.invokestatic idx, 3)) (kk : V p l e R s m args below meth c nL G A Q w1 (cells + mc) (slots + ms) (pc + 3) lo (rest)) : V p l e R s m args below meth c nL G A Q w cells slots (pc) lo (st) := v_callSV C [] [] k hw hg hy hna hR hcs hst hcat (by simp) (by simp) hd kk
theorem v_ldc (C : vC p s m args meth c cc nL Ts own ret G cy A) {i : Nat} {v : Int32} (hk : Cond.constant own i v ∈ Ts) (hd : decode cc pc = .ok (.ldc i, 2)) (k : V p l e R s m args below meth c nL G A Q w cells slots (pc + 2) lo (.int v :: st)) : V p l e R s m args below meth c nL G A Q w cells slots (pc) lo (st) := fun H locs ls hP hD hS hl => lv_ldc C.1.1 C.1.2.1 C.1.2.2.2.1 (C.1.2.2.2.2 _ hk) hd (k H locs ls hP hD hS hl)
end WLL
end
section
/-! THE LAW: what it reads of its own depot -/
noncomputable def lmax (x : Sg) (k r : Nat) : Int32 := pif (x 6 r < x 6 k) (x 6 k) (x 6 r)
noncomputable def lmin (x : Sg) (k r : Nat) : Int32 := pif (x 7 k < x 7 r) (x 7 k) (x 7 r)
def lmeet (x : Sg) (b r k : Nat) : Prop := ¬ nI k = nI r ∧ x 10 k = nI b ∧ (x 9 k = 1 ∨ x 9 k = 2) ∧ lmax x k r < lmin x k r
noncomputable def gmeet (x : Sg) (b r k : Nat) : Int32 := b2i (lmeet x b r k)
def lbf (n : Nat) (x : Sg) (b r : Nat) : Prop := sumF (gmeet x b r) n = 0 ∧ x 13 b = 0 ∧ ¬ x 12 b < fprom n x (nI b) + x 8 r
noncomputable def gmn (x : Sg) (d day but : Int32) (k : Nat) : Int32 := pif (¬ nI k = but ∧ x 11 k = d ∧ 0 < x 9 k ∧ x 9 k < 4 ∧ x 6 k / 1440 = day) (x 7 k - x 6 k) 0
noncomputable def fmn (n : Nat) (x : Sg) (d day but : Int32) : Int32 := sumF (gmn x d day but) n
def lwk (x : Sg) (d r k : Nat) : Prop := ¬ nI k = nI r ∧ x 11 k = nI d ∧ 0 < x 9 k ∧ x 9 k < 4 ∧ x 6 k / 1440 = x 6 r / 1440
def lnear (x : Sg) (d r k : Nat) : Prop := lwk x d r k ∧ lmax x k r - lmin x k r < 30
noncomputable def gnear (x : Sg) (d r k : Nat) : Int32 := b2i (lnear x d r k)
def ldf (n : Nat) (x : Sg) (d r : Nat) : Prop := sumF (gnear x d r) n = 0 ∧ x 14 d = 0 ∧ ¬ 480 < fmn n x (nI d) (x 6 r / 1440) (nI r) + x 7 r - x 6 r
set_option maxHeartbeats 4000000 in
set_option maxRecDepth 100000 in
/-- leader -/
theorem k_L_leader (l : Launch) (G : va_G) (cy : Nat → ClassId) (al : Nat → Nat) (x : Sg) (wr : va_W) : KI l G cy yL_leader wsL_leader 0 0 0 0 [.ref (al 9)] (wL cy al x wr) (flead x) (wL cy al x wr) := by
  refine KI_of (own := RL) (cc := cL_leader) (maxL := 1) (ret := (some .int)) (lo0 := [some (.ref (al 9))]) (by decide) rfl rfl (by simp [Value.category]) (Nat.le_of_ble_eq_true rfl) rfl (fun p e s m args below meth c A C => ?_)
  refine v_aload_n C dL_leader_0 rfl ?_
  refine v_iconst C (0) dL_leader_1 (by decide) ?_
  refine vL_l_n0 C dL_leader_2 ?_
  refine v_aload_n C dL_leader_3 rfl ?_
  refine v_iconst C (4) dL_leader_4 (by decide) ?_
  refine vL_l_n4 C dL_leader_5 ?_
  refine v_icmp_ge C 17 dL_leader_6 (by decide) (fun c1 => ?_) (fun c1 => ?_)
  · -- 6 t: ¬ (x 0 0) < (x 4 0)
    refine v_iconst C (-1) dL_leader_17 (by decide) ?_
    refine v_iret C dL_leader_18 ?_
    exact (pif_f c1).symm
  · -- 6 f: not ¬ (x 0 0) < (x 4 0)
    refine v_aload_n C dL_leader_9 rfl ?_
    refine v_iconst C (3) dL_leader_10 (by decide) ?_
    refine vL_l_n3 C dL_leader_11 ?_
    refine v_iconst C (1) dL_leader_12 (by decide) ?_
    refine v_isub C dL_leader_13 ?_
    refine v_goto C 18 dL_leader_14 (by decide) ?_
    refine v_iret C dL_leader_18 ?_
    exact (Int32.add_sub_cancel _ _).trans (pif_t c1).symm
set_option maxHeartbeats 4000000 in
set_option maxRecDepth 100000 in
/-- promised -/
theorem k_L_promised (l : Launch) (G : va_G) (cy : Nat → ClassId) (al : Nat → Nat) (x : Sg) (wr : va_W) (n : Nat) (hn : x 1 0 = nI n) (h20 : n ≤ 20) (b : Int32) : KI l G cy yL_promised wsL_promised 0 0 0 0 [.ref (al 9), .ref (al 0), .ref (al 1), .ref (al 2), .int b] (wL cy al x wr) (fprom n x b) (wL cy al x wr) := by
  refine KI_of (own := RL) (cc := cL_promised) (maxL := 7) (ret := (some .int)) (lo0 := [some (.ref (al 9)), some (.ref (al 0)), some (.ref (al 1)), some (.ref (al 2)), some (.int b), none, none]) (by decide) rfl rfl (by simp [Value.category]) (Nat.le_of_ble_eq_true rfl) rfl (fun p e s m args below meth c A C => ?_)
  refine v_iconst C (0) dL_promised_0 (by decide) ?_
  refine v_istore C dL_promised_1 (by decide) ?_
  refine v_iconst C (0) dL_promised_3 (by decide) ?_
  refine v_istore C dL_promised_4 (by decide) ?_
  refine V.loop (fun k : Nat => wL cy al x wr) (fun k : Nat => ([some (.ref (al 9)), some (.ref (al 0)), some (.ref (al 1)), some (.ref (al 2)), some (.int b), some (.int (sumF (gprom x b) k)), some (.int (nI k))] : List (Option Value))) (fun k : Nat => True) n ?_ trivial
  intro k hle_k hP_k ih_k
  try dsimp only at hP_k ih_k ⊢
  refine v_iload C dL_promised_6 rfl ?_
  refine v_aload_n C dL_promised_8 rfl ?_
  refine v_iconst C (1) dL_promised_9 (by decide) ?_
  refine vL_l_n1 C dL_promised_10 ?_
  refine v_geN C k n 56 dL_promised_11 (by decide) rfl hn (by omega) (by omega) (fun c1 => ?_) (fun c1 => ?_)
  · -- loop 6 is over
    have e_k : n = k := by omega
    subst e_k
    refine v_iload C dL_promised_56 rfl ?_
    refine v_iret C dL_promised_58 ?_
    rfl
  · have hk : k < n := c1
    refine v_iload C dL_promised_14 rfl ?_
    refine v_aload_n C dL_promised_16 rfl ?_
    refine v_iload C dL_promised_17 rfl ?_
    refine vL_l_s C k rfl (by omega) dL_promised_19 ?_
    refine v_iconst C (1) dL_promised_20 (by decide) ?_
    refine v_icmp_ne C 46 dL_promised_21 (by decide) (fun c2 => ?_) (fun c2 => ?_)
    · -- 21 t: ¬ (x 9 k) = 1
      refine v_iconst C (0) dL_promised_46 (by decide) ?_
      refine v_iadd C dL_promised_47 ?_
      refine v_istore C dL_promised_48 (by decide) ?_
      refine v_incN C dL_promised_50 rfl (by decide) ?_
      refine v_goto C 6 dL_promised_53 (by decide) ?_
      have q := ih_k hk trivial
      have e : sumF (gprom x b) (k + 1) = (sumF (gprom x b) k) + 0 := by simp [sumF, gprom, pif, c2]
      rw [e] at q
      exact q
    · -- 21 f: not ¬ (x 9 k) = 1
      refine v_aload_n C dL_promised_24 rfl ?_
      refine v_iload C dL_promised_25 rfl ?_
      refine vL_l_w C k rfl (by omega) dL_promised_27 ?_
      refine v_iload C dL_promised_28 rfl ?_
      refine v_iconst C (1) dL_promised_30 (by decide) ?_
      refine v_iadd C dL_promised_31 ?_
      refine v_icmp_ne C 46 dL_promised_32 (by decide) (fun c3 => ?_) (fun c3 => ?_)
      · -- 32 t: ¬ (x 10 k + 1) = (b + 1)
        replace c3 := mt p1_iff.mpr c3
        refine v_iconst C (0) dL_promised_46 (by decide) ?_
        refine v_iadd C dL_promised_47 ?_
        refine v_istore C dL_promised_48 (by decide) ?_
        refine v_incN C dL_promised_50 rfl (by decide) ?_
        refine v_goto C 6 dL_promised_53 (by decide) ?_
        have q := ih_k hk trivial
        have e : sumF (gprom x b) (k + 1) = (sumF (gprom x b) k) + 0 := by simp [sumF, gprom, pif, c2, c3]
        rw [e] at q
        exact q
      · -- 32 f: not ¬ (x 10 k + 1) = (b + 1)
        replace c3 := p1_iff.mp c3
        refine v_aload_n C dL_promised_35 rfl ?_
        refine v_iconst C (3) dL_promised_36 (by decide) ?_
        refine v_iload C dL_promised_37 rfl ?_
        refine v_imul C dL_promised_39 ?_
        refine v_iconst C (2) dL_promised_40 (by decide) ?_
        refine v_iadd C dL_promised_41 ?_
        refine vL_l_r2 C k rfl (by omega) dL_promised_42 ?_
        refine v_goto C 47 dL_promised_43 (by decide) ?_
        refine v_iadd C dL_promised_47 ?_
        refine v_istore C dL_promised_48 (by decide) ?_
        refine v_incN C dL_promised_50 rfl (by decide) ?_
        refine v_goto C 6 dL_promised_53 (by decide) ?_
        have q := ih_k hk trivial
        have e : sumF (gprom x b) (k + 1) = (sumF (gprom x b) k) + (x 8 k) := by simp [sumF, gprom, pif, c2, c3]
        rw [e] at q
        exact q
set_option maxHeartbeats 4000000 in
set_option maxRecDepth 100000 in
/-- fitsBus -/
theorem k_L_fitsBus (l : Launch) (G : va_G) (cy : Nat → ClassId) (al : Nat → Nat) (x : Sg) (wr : va_W) (n : Nat) (hn : x 1 0 = nI n) (h20 : n ≤ 20) (b : Nat) (hb : b < 5) (r : Nat) (hr : r < 20) : KI l G cy yL_fitsBus wsL_fitsBus 1 26 0 0 [.ref (al 9), .ref (al 0), .ref (al 1), .ref (al 2), .ref (al 4), .int (nI b), .int (nI r)] (wL cy al x wr) (b2i (lbf n x b r)) (wL cy al x wr) := by
  refine KI_of (own := RL) (cc := cL_fitsBus) (maxL := 11) (ret := (some .boolean)) (lo0 := [some (.ref (al 9)), some (.ref (al 0)), some (.ref (al 1)), some (.ref (al 2)), some (.ref (al 4)), some (.int (nI b)), some (.int (nI r)), none, none, none, none]) (by decide) rfl rfl (by simp [Value.category]) (Nat.le_of_ble_eq_true rfl) rfl (fun p e s m args below meth c A C => ?_)
  refine v_iconst C (0) dL_fitsBus_0 (by decide) ?_
  refine v_istore C dL_fitsBus_1 (by decide) ?_
  refine v_iconst C (0) dL_fitsBus_3 (by decide) ?_
  refine v_istore C dL_fitsBus_4 (by decide) ?_
  refine V.loop (fun k : Nat => wL cy al x wr) (fun k : Nat => ([some (.ref (al 9)), some (.ref (al 0)), some (.ref (al 1)), some (.ref (al 2)), some (.ref (al 4)), some (.int (nI b)), some (.int (nI r)), some (.int (sumF (gmeet x b r) k)), some (.int (nI k)), none, none] : List (Option Value))) (fun k : Nat => True) n ?_ trivial
  intro k hle_k hP_k ih_k
  try dsimp only at hP_k ih_k ⊢
  refine v_iload C dL_fitsBus_6 rfl ?_
  refine v_aload_n C dL_fitsBus_8 rfl ?_
  refine v_iconst C (1) dL_fitsBus_9 (by decide) ?_
  refine vL_l_n1 C dL_fitsBus_10 ?_
  refine v_geN C k n 143 dL_fitsBus_11 (by decide) rfl hn (by omega) (by omega) (fun c1 => ?_) (fun c1 => ?_)
  · -- loop 6 is over
    have e_k : n = k := by omega
    subst e_k
    refine v_iload C dL_fitsBus_143 rfl ?_
    refine v_if_ne C 192 dL_fitsBus_145 (by decide) (fun c2 => ?_) (fun c2 => ?_)
    · -- 145 t: ¬ (sumF (gmeet x b r) n) = 0
      refine v_iconst C (0) dL_fitsBus_192 (by decide) ?_
      refine v_zret C rfl dL_fitsBus_193 ?_
      exact (b2i_f (fun z => c2 z.1)).symm
    · -- 145 f: not ¬ (sumF (gmeet x b r) n) = 0
      refine v_aload C dL_fitsBus_148 rfl ?_
      refine v_iconst C (2) dL_fitsBus_150 (by decide) ?_
      refine v_iload C dL_fitsBus_151 rfl ?_
      refine v_imul C dL_fitsBus_153 ?_
      refine v_iconst C (1) dL_fitsBus_154 (by decide) ?_
      refine v_iadd C dL_fitsBus_155 ?_
      refine vL_l_b1 C b rfl (by omega) dL_fitsBus_156 ?_
      refine v_if_ne C 192 dL_fitsBus_157 (by decide) (fun c3 => ?_) (fun c3 => ?_)
      · -- 157 t: ¬ (x 13 b) = 0
        refine v_iconst C (0) dL_fitsBus_192 (by decide) ?_
        refine v_zret C rfl dL_fitsBus_193 ?_
        exact (b2i_f (fun z => c3 z.2.1)).symm
      · -- 157 f: not ¬ (x 13 b) = 0
        refine v_aload C dL_fitsBus_160 rfl ?_
        refine v_iconst C (2) dL_fitsBus_162 (by decide) ?_
        refine v_iload C dL_fitsBus_163 rfl ?_
        refine v_imul C dL_fitsBus_165 ?_
        refine vL_l_b0 C b rfl (by omega) dL_fitsBus_166 ?_
        refine v_aload_n C dL_fitsBus_167 rfl ?_
        refine v_aload_n C dL_fitsBus_168 rfl ?_
        refine v_aload_n C dL_fitsBus_169 rfl ?_
        refine v_aload_n C dL_fitsBus_170 rfl ?_
        refine v_iload C dL_fitsBus_171 rfl ?_
        refine v_sI C (k_L_promised l G cy al x wr n hn h20 (nI b)) rfl gL_fitsBus_L_promised (nA := 5) (by decide +kernel) rfl (by decide) (by decide) rfl (Nat.le_of_ble_eq_true rfl) dL_fitsBus_173 ?_
        refine v_aload_n C dL_fitsBus_176 rfl ?_
        refine v_iconst C (3) dL_fitsBus_177 (by decide) ?_
        refine v_iload C dL_fitsBus_178 rfl ?_
        refine v_imul C dL_fitsBus_180 ?_
        refine v_iconst C (2) dL_fitsBus_181 (by decide) ?_
        refine v_iadd C dL_fitsBus_182 ?_
        refine vL_l_r2 C r rfl (by omega) dL_fitsBus_183 ?_
        refine v_iadd C dL_fitsBus_184 ?_
        refine v_icmp_lt C 192 dL_fitsBus_185 (by decide) (fun c4 => ?_) (fun c4 => ?_)
        · -- 185 t: (x 12 b) < ((fprom n x (nI b)) + (x 8 r))
          refine v_iconst C (0) dL_fitsBus_192 (by decide) ?_
          refine v_zret C rfl dL_fitsBus_193 ?_
          exact (b2i_f (fun z => z.2.2 c4)).symm
        · -- 185 f: not (x 12 b) < ((fprom n x (nI b)) + (x 8 r))
          refine v_iconst C (1) dL_fitsBus_188 (by decide) ?_
          refine v_goto C 193 dL_fitsBus_189 (by decide) ?_
          refine v_zret C rfl dL_fitsBus_193 ?_
          exact (b2i_t ⟨c2, c3, c4⟩).symm
  · have hk : k < n := c1
    refine V.join (wL cy al x wr) 44 (fun _ => ([some (.ref (al 9)), some (.ref (al 0)), some (.ref (al 1)), some (.ref (al 2)), some (.ref (al 4)), some (.int (nI b)), some (.int (nI r)), some (.int (sumF (gmeet x b r) k)), some (.int (nI k)), none, none] : List (Option Value))) (fun v => (.int v :: [] : List Value)) (lmax x k r) (fun J1 => ?_) ?_
    · -- up to the join
      refine v_aload_n C dL_fitsBus_14 rfl ?_
      refine v_iconst C (3) dL_fitsBus_15 (by decide) ?_
      refine v_iload C dL_fitsBus_16 rfl ?_
      refine v_imul C dL_fitsBus_18 ?_
      refine vL_l_r0 C k rfl (by omega) dL_fitsBus_19 ?_
      refine v_aload_n C dL_fitsBus_20 rfl ?_
      refine v_iconst C (3) dL_fitsBus_21 (by decide) ?_
      refine v_iload C dL_fitsBus_22 rfl ?_
      refine v_imul C dL_fitsBus_24 ?_
      refine vL_l_r0 C r rfl (by omega) dL_fitsBus_25 ?_
      refine v_icmp_le C 38 dL_fitsBus_26 (by decide) (fun c5 => ?_) (fun c5 => ?_)
      · -- 26 t: ¬ (x 6 r) < (x 6 k)
        refine v_aload_n C dL_fitsBus_38 rfl ?_
        refine v_iconst C (3) dL_fitsBus_39 (by decide) ?_
        refine v_iload C dL_fitsBus_40 rfl ?_
        refine v_imul C dL_fitsBus_42 ?_
        refine vL_l_r0 C r rfl (by omega) dL_fitsBus_43 ?_
        refine J1 _ ?_
        exact (pif_f c5).symm
      · -- 26 f: not ¬ (x 6 r) < (x 6 k)
        refine v_aload_n C dL_fitsBus_29 rfl ?_
        refine v_iconst C (3) dL_fitsBus_30 (by decide) ?_
        refine v_iload C dL_fitsBus_31 rfl ?_
        refine v_imul C dL_fitsBus_33 ?_
        refine vL_l_r0 C k rfl (by omega) dL_fitsBus_34 ?_
        refine v_goto C 44 dL_fitsBus_35 (by decide) ?_
        refine J1 _ ?_
        exact (pif_t c5).symm
    · -- behind the join
      refine v_istore C dL_fitsBus_44 (by decide) ?_
      refine V.join (wL cy al x wr) 84 (fun _ => ([some (.ref (al 9)), some (.ref (al 0)), some (.ref (al 1)), some (.ref (al 2)), some (.ref (al 4)), some (.int (nI b)), some (.int (nI r)), some (.int (sumF (gmeet x b r) k)), some (.int (nI k)), some (.int (lmax x k r)), none] : List (Option Value))) (fun v => (.int v :: [] : List Value)) (lmin x k r) (fun J2 => ?_) ?_
      · -- up to the join
        refine v_aload_n C dL_fitsBus_46 rfl ?_
        refine v_iconst C (3) dL_fitsBus_47 (by decide) ?_
        refine v_iload C dL_fitsBus_48 rfl ?_
        refine v_imul C dL_fitsBus_50 ?_
        refine v_iconst C (1) dL_fitsBus_51 (by decide) ?_
        refine v_iadd C dL_fitsBus_52 ?_
        refine vL_l_r1 C k rfl (by omega) dL_fitsBus_53 ?_
        refine v_aload_n C dL_fitsBus_54 rfl ?_
        refine v_iconst C (3) dL_fitsBus_55 (by decide) ?_
        refine v_iload C dL_fitsBus_56 rfl ?_
        refine v_imul C dL_fitsBus_58 ?_
        refine v_iconst C (1) dL_fitsBus_59 (by decide) ?_
        refine v_iadd C dL_fitsBus_60 ?_
        refine vL_l_r1 C r rfl (by omega) dL_fitsBus_61 ?_
        refine v_icmp_ge C 76 dL_fitsBus_62 (by decide) (fun c6 => ?_) (fun c6 => ?_)
        · -- 62 t: ¬ (x 7 k) < (x 7 r)
          refine v_aload_n C dL_fitsBus_76 rfl ?_
          refine v_iconst C (3) dL_fitsBus_77 (by decide) ?_
          refine v_iload C dL_fitsBus_78 rfl ?_
          refine v_imul C dL_fitsBus_80 ?_
          refine v_iconst C (1) dL_fitsBus_81 (by decide) ?_
          refine v_iadd C dL_fitsBus_82 ?_
          refine vL_l_r1 C r rfl (by omega) dL_fitsBus_83 ?_
          refine J2 _ ?_
          exact (pif_f c6).symm
        · -- 62 f: not ¬ (x 7 k) < (x 7 r)
          refine v_aload_n C dL_fitsBus_65 rfl ?_
          refine v_iconst C (3) dL_fitsBus_66 (by decide) ?_
          refine v_iload C dL_fitsBus_67 rfl ?_
          refine v_imul C dL_fitsBus_69 ?_
          refine v_iconst C (1) dL_fitsBus_70 (by decide) ?_
          refine v_iadd C dL_fitsBus_71 ?_
          refine vL_l_r1 C k rfl (by omega) dL_fitsBus_72 ?_
          refine v_goto C 84 dL_fitsBus_73 (by decide) ?_
          refine J2 _ ?_
          exact (pif_t c6).symm
      · -- behind the join
        refine v_istore C dL_fitsBus_84 (by decide) ?_
        refine v_iload C dL_fitsBus_86 rfl ?_
        refine V.join (wL cy al x wr) 134 (fun _ => ([some (.ref (al 9)), some (.ref (al 0)), some (.ref (al 1)), some (.ref (al 2)), some (.ref (al 4)), some (.int (nI b)), some (.int (nI r)), some (.int (sumF (gmeet x b r) k)), some (.int (nI k)), some (.int (lmax x k r)), some (.int (lmin x k r))] : List (Option Value))) (fun v => (.int v :: [.int (sumF (gmeet x b r) k)] : List Value)) (b2i (lmeet x b r k)) (fun J3 => ?_) ?_
        · -- up to the join
          refine v_iload C dL_fitsBus_88 rfl ?_
          refine v_iload C dL_fitsBus_90 rfl ?_
          refine v_icmp_eq C 133 dL_fitsBus_92 (by decide) (fun c7 => ?_) (fun c7 => ?_)
          · -- 92 t: (nI k) = (nI r)
            refine v_iconst C (0) dL_fitsBus_133 (by decide) ?_
            refine J3 _ ?_
            exact (b2i_f (by simp [lmeet, c7])).symm
          · -- 92 f: not (nI k) = (nI r)
            refine v_aload_n C dL_fitsBus_95 rfl ?_
            refine v_iload C dL_fitsBus_96 rfl ?_
            refine vL_l_w C k rfl (by omega) dL_fitsBus_98 ?_
            refine v_iload C dL_fitsBus_99 rfl ?_
            refine v_iconst C (1) dL_fitsBus_101 (by decide) ?_
            refine v_iadd C dL_fitsBus_102 ?_
            refine v_icmp_ne C 133 dL_fitsBus_103 (by decide) (fun c8 => ?_) (fun c8 => ?_)
            · -- 103 t: ¬ (x 10 k + 1) = ((nI b) + 1)
              replace c8 := mt p1_iff.mpr c8
              refine v_iconst C (0) dL_fitsBus_133 (by decide) ?_
              refine J3 _ ?_
              exact (b2i_f (by simp [lmeet, c7, c8])).symm
            · -- 103 f: not ¬ (x 10 k + 1) = ((nI b) + 1)
              replace c8 := p1_iff.mp c8
              refine v_aload_n C dL_fitsBus_106 rfl ?_
              refine v_iload C dL_fitsBus_107 rfl ?_
              refine vL_l_s C k rfl (by omega) dL_fitsBus_109 ?_
              refine v_iconst C (1) dL_fitsBus_110 (by decide) ?_
              refine v_icmp_eq C 122 dL_fitsBus_111 (by decide) (fun c9 => ?_) (fun c9 => ?_)
              · -- 111 t: (x 9 k) = 1
                refine v_iload C dL_fitsBus_122 rfl ?_
                refine v_iload C dL_fitsBus_124 rfl ?_
                refine v_icmp_ge C 133 dL_fitsBus_126 (by decide) (fun c10 => ?_) (fun c10 => ?_)
                · -- 126 t: ¬ (lmax x k r) < (lmin x k r)
                  refine v_iconst C (0) dL_fitsBus_133 (by decide) ?_
                  refine J3 _ ?_
                  exact (b2i_f (by simp [lmeet, c7, c8, c9, c10])).symm
                · -- 126 f: not ¬ (lmax x k r) < (lmin x k r)
                  refine v_iconst C (1) dL_fitsBus_129 (by decide) ?_
                  refine v_goto C 134 dL_fitsBus_130 (by decide) ?_
                  refine J3 _ ?_
                  exact (b2i_t (by simp [lmeet, c7, c8, c9, c10])).symm
              · -- 111 f: not (x 9 k) = 1
                refine v_aload_n C dL_fitsBus_114 rfl ?_
                refine v_iload C dL_fitsBus_115 rfl ?_
                refine vL_l_s C k rfl (by omega) dL_fitsBus_117 ?_
                refine v_iconst C (2) dL_fitsBus_118 (by decide) ?_
                refine v_icmp_ne C 133 dL_fitsBus_119 (by decide) (fun c11 => ?_) (fun c11 => ?_)
                · -- 119 t: ¬ (x 9 k) = 2
                  refine v_iconst C (0) dL_fitsBus_133 (by decide) ?_
                  refine J3 _ ?_
                  exact (b2i_f (by simp [lmeet, c7, c8, c9, c11])).symm
                · -- 119 f: not ¬ (x 9 k) = 2
                  refine v_iload C dL_fitsBus_122 rfl ?_
                  refine v_iload C dL_fitsBus_124 rfl ?_
                  refine v_icmp_ge C 133 dL_fitsBus_126 (by decide) (fun c12 => ?_) (fun c12 => ?_)
                  · -- 126 t: ¬ (lmax x k r) < (lmin x k r)
                    refine v_iconst C (0) dL_fitsBus_133 (by decide) ?_
                    refine J3 _ ?_
                    exact (b2i_f (by simp [lmeet, c7, c8, c9, c11, c12])).symm
                  · -- 126 f: not ¬ (lmax x k r) < (lmin x k r)
                    refine v_iconst C (1) dL_fitsBus_129 (by decide) ?_
                    refine v_goto C 134 dL_fitsBus_130 (by decide) ?_
                    refine J3 _ ?_
                    exact (b2i_t (by simp [lmeet, c7, c8, c9, c11, c12])).symm
        · -- behind the join
          refine v_iadd C dL_fitsBus_134 ?_
          refine v_istore C dL_fitsBus_135 (by decide) ?_
          refine v_incN C dL_fitsBus_137 rfl (by decide) ?_
          refine v_goto C 6 dL_fitsBus_140 (by decide) ?_
          exact (V.lof 9 (V.lof 10 (ih_k hk trivial)))
set_option maxHeartbeats 4000000 in
set_option maxRecDepth 100000 in
/-- minutes -/
theorem k_L_minutes (l : Launch) (G : va_G) (cy : Nat → ClassId) (al : Nat → Nat) (x : Sg) (wr : va_W) (n : Nat) (hn : x 1 0 = nI n) (h20 : n ≤ 20) (d day but : Int32) : KI l G cy yL_minutes wsL_minutes 0 0 0 0 [.ref (al 9), .ref (al 0), .ref (al 1), .ref (al 3), .int d, .int day, .int but] (wL cy al x wr) (fmn n x d day but) (wL cy al x wr) := by
  refine KI_of (own := RL) (cc := cL_minutes) (maxL := 10) (ret := (some .int)) (lo0 := [some (.ref (al 9)), some (.ref (al 0)), some (.ref (al 1)), some (.ref (al 3)), some (.int d), some (.int day), some (.int but), none, none, none]) (by decide) rfl rfl (by simp [Value.category]) (Nat.le_of_ble_eq_true rfl) rfl (fun p e s m args below meth c A C => ?_)
  refine v_iconst C (0) dL_minutes_0 (by decide) ?_
  refine v_istore C dL_minutes_1 (by decide) ?_
  refine v_iconst C (0) dL_minutes_3 (by decide) ?_
  refine v_istore C dL_minutes_4 (by decide) ?_
  refine V.loop (fun k : Nat => wL cy al x wr) (fun k : Nat => ([some (.ref (al 9)), some (.ref (al 0)), some (.ref (al 1)), some (.ref (al 3)), some (.int d), some (.int day), some (.int but), some (.int (sumF (gmn x d day but) k)), some (.int (nI k)), none] : List (Option Value))) (fun k : Nat => True) n ?_ trivial
  intro k hle_k hP_k ih_k
  try dsimp only at hP_k ih_k ⊢
  refine v_iload C dL_minutes_6 rfl ?_
  refine v_aload_n C dL_minutes_8 rfl ?_
  refine v_iconst C (1) dL_minutes_9 (by decide) ?_
  refine vL_l_n1 C dL_minutes_10 ?_
  refine v_geN C k n 104 dL_minutes_11 (by decide) rfl hn (by omega) (by omega) (fun c1 => ?_) (fun c1 => ?_)
  · -- loop 6 is over
    have e_k : n = k := by omega
    subst e_k
    refine v_iload C dL_minutes_104 rfl ?_
    refine v_iret C dL_minutes_106 ?_
    rfl
  · have hk : k < n := c1
    refine v_iload C dL_minutes_14 rfl ?_
    refine v_iload C dL_minutes_16 rfl ?_
    refine v_icmp_eq C 66 dL_minutes_18 (by decide) (fun c2 => ?_) (fun c2 => ?_)
    · -- 18 t: (nI k) = but
      refine v_iconst C (0) dL_minutes_66 (by decide) ?_
      refine v_istore C dL_minutes_67 (by decide) ?_
      refine v_iload C dL_minutes_69 rfl ?_
      refine v_iload C dL_minutes_71 rfl ?_
      refine v_if_eq C 94 dL_minutes_73 (by decide) (fun z => ?_) (fun z => absurd z (by decide))
      refine v_iconst C (0) dL_minutes_94 (by decide) ?_
      refine v_iadd C dL_minutes_95 ?_
      refine v_istore C dL_minutes_96 (by decide) ?_
      refine v_incN C dL_minutes_98 rfl (by decide) ?_
      refine v_goto C 6 dL_minutes_101 (by decide) ?_
      have q := ih_k hk trivial
      have e : sumF (gmn x d day but) (k + 1) = (sumF (gmn x d day but) k) + 0 := by simp [sumF, gmn, pif, c2]
      rw [e] at q
      exact (V.lof 9 q)
    · -- 18 f: not (nI k) = but
      refine v_aload_n C dL_minutes_21 rfl ?_
      refine v_iload C dL_minutes_22 rfl ?_
      refine vL_l_d C k rfl (by omega) dL_minutes_24 ?_
      refine v_iload C dL_minutes_25 rfl ?_
      refine v_iconst C (1) dL_minutes_27 (by decide) ?_
      refine v_iadd C dL_minutes_28 ?_
      refine v_icmp_ne C 66 dL_minutes_29 (by decide) (fun c4 => ?_) (fun c4 => ?_)
      · -- 29 t: ¬ (x 11 k + 1) = (d + 1)
        replace c4 := mt p1_iff.mpr c4
        refine v_iconst C (0) dL_minutes_66 (by decide) ?_
        refine v_istore C dL_minutes_67 (by decide) ?_
        refine v_iload C dL_minutes_69 rfl ?_
        refine v_iload C dL_minutes_71 rfl ?_
        refine v_if_eq C 94 dL_minutes_73 (by decide) (fun z => ?_) (fun z => absurd z (by decide))
        refine v_iconst C (0) dL_minutes_94 (by decide) ?_
        refine v_iadd C dL_minutes_95 ?_
        refine v_istore C dL_minutes_96 (by decide) ?_
        refine v_incN C dL_minutes_98 rfl (by decide) ?_
        refine v_goto C 6 dL_minutes_101 (by decide) ?_
        have q := ih_k hk trivial
        have e : sumF (gmn x d day but) (k + 1) = (sumF (gmn x d day but) k) + 0 := by simp [sumF, gmn, pif, c2, c4]
        rw [e] at q
        exact (V.lof 9 q)
      · -- 29 f: not ¬ (x 11 k + 1) = (d + 1)
        replace c4 := p1_iff.mp c4
        refine v_aload_n C dL_minutes_32 rfl ?_
        refine v_iload C dL_minutes_33 rfl ?_
        refine vL_l_s C k rfl (by omega) dL_minutes_35 ?_
        refine v_if_le C 66 dL_minutes_36 (by decide) (fun c6 => ?_) (fun c6 => ?_)
        · -- 36 t: ¬ 0 < (x 9 k)
          refine v_iconst C (0) dL_minutes_66 (by decide) ?_
          refine v_istore C dL_minutes_67 (by decide) ?_
          refine v_iload C dL_minutes_69 rfl ?_
          refine v_iload C dL_minutes_71 rfl ?_
          refine v_if_eq C 94 dL_minutes_73 (by decide) (fun z => ?_) (fun z => absurd z (by decide))
          refine v_iconst C (0) dL_minutes_94 (by decide) ?_
          refine v_iadd C dL_minutes_95 ?_
          refine v_istore C dL_minutes_96 (by decide) ?_
          refine v_incN C dL_minutes_98 rfl (by decide) ?_
          refine v_goto C 6 dL_minutes_101 (by decide) ?_
          have q := ih_k hk trivial
          have e : sumF (gmn x d day but) (k + 1) = (sumF (gmn x d day but) k) + 0 := by simp [sumF, gmn, pif, c2, c4, c6]
          rw [e] at q
          exact (V.lof 9 q)
        · -- 36 f: not ¬ 0 < (x 9 k)
          refine v_aload_n C dL_minutes_39 rfl ?_
          refine v_iload C dL_minutes_40 rfl ?_
          refine vL_l_s C k rfl (by omega) dL_minutes_42 ?_
          refine v_iconst C (4) dL_minutes_43 (by decide) ?_
          refine v_icmp_ge C 66 dL_minutes_44 (by decide) (fun c8 => ?_) (fun c8 => ?_)
          · -- 44 t: ¬ (x 9 k) < 4
            refine v_iconst C (0) dL_minutes_66 (by decide) ?_
            refine v_istore C dL_minutes_67 (by decide) ?_
            refine v_iload C dL_minutes_69 rfl ?_
            refine v_iload C dL_minutes_71 rfl ?_
            refine v_if_eq C 94 dL_minutes_73 (by decide) (fun z => ?_) (fun z => absurd z (by decide))
            refine v_iconst C (0) dL_minutes_94 (by decide) ?_
            refine v_iadd C dL_minutes_95 ?_
            refine v_istore C dL_minutes_96 (by decide) ?_
            refine v_incN C dL_minutes_98 rfl (by decide) ?_
            refine v_goto C 6 dL_minutes_101 (by decide) ?_
            have q := ih_k hk trivial
            have e : sumF (gmn x d day but) (k + 1) = (sumF (gmn x d day but) k) + 0 := by simp [sumF, gmn, pif, c2, c4, c6, c8]
            rw [e] at q
            exact (V.lof 9 q)
          · -- 44 f: not ¬ (x 9 k) < 4
            refine v_aload_n C dL_minutes_47 rfl ?_
            refine v_iconst C (3) dL_minutes_48 (by decide) ?_
            refine v_iload C dL_minutes_49 rfl ?_
            refine v_imul C dL_minutes_51 ?_
            refine vL_l_r0 C k rfl (by omega) dL_minutes_52 ?_
            refine v_sipush C (1440) dL_minutes_53 (by decide) ?_
            refine v_idiv C dL_minutes_56 (by decide) ?_
            refine v_iload C dL_minutes_57 rfl ?_
            refine v_icmp_ne C 66 dL_minutes_59 (by decide) (fun c10 => ?_) (fun c10 => ?_)
            · -- 59 t: ¬ ((x 6 k) / 1440) = day
              refine v_iconst C (0) dL_minutes_66 (by decide) ?_
              refine v_istore C dL_minutes_67 (by decide) ?_
              refine v_iload C dL_minutes_69 rfl ?_
              refine v_iload C dL_minutes_71 rfl ?_
              refine v_if_eq C 94 dL_minutes_73 (by decide) (fun z => ?_) (fun z => absurd z (by decide))
              refine v_iconst C (0) dL_minutes_94 (by decide) ?_
              refine v_iadd C dL_minutes_95 ?_
              refine v_istore C dL_minutes_96 (by decide) ?_
              refine v_incN C dL_minutes_98 rfl (by decide) ?_
              refine v_goto C 6 dL_minutes_101 (by decide) ?_
              have q := ih_k hk trivial
              have e : sumF (gmn x d day but) (k + 1) = (sumF (gmn x d day but) k) + 0 := by simp [sumF, gmn, pif, c2, c4, c6, c8, c10]
              rw [e] at q
              exact (V.lof 9 q)
            · -- 59 f: not ¬ ((x 6 k) / 1440) = day
              refine v_iconst C (1) dL_minutes_62 (by decide) ?_
              refine v_goto C 67 dL_minutes_63 (by decide) ?_
              refine v_istore C dL_minutes_67 (by decide) ?_
              refine v_iload C dL_minutes_69 rfl ?_
              refine v_iload C dL_minutes_71 rfl ?_
              refine v_if_eq C 94 dL_minutes_73 (by decide) (fun z => absurd z (by decide)) (fun z => ?_)
              refine v_aload_n C dL_minutes_76 rfl ?_
              refine v_iconst C (3) dL_minutes_77 (by decide) ?_
              refine v_iload C dL_minutes_78 rfl ?_
              refine v_imul C dL_minutes_80 ?_
              refine v_iconst C (1) dL_minutes_81 (by decide) ?_
              refine v_iadd C dL_minutes_82 ?_
              refine vL_l_r1 C k rfl (by omega) dL_minutes_83 ?_
              refine v_aload_n C dL_minutes_84 rfl ?_
              refine v_iconst C (3) dL_minutes_85 (by decide) ?_
              refine v_iload C dL_minutes_86 rfl ?_
              refine v_imul C dL_minutes_88 ?_
              refine vL_l_r0 C k rfl (by omega) dL_minutes_89 ?_
              refine v_isub C dL_minutes_90 ?_
              refine v_goto C 95 dL_minutes_91 (by decide) ?_
              refine v_iadd C dL_minutes_95 ?_
              refine v_istore C dL_minutes_96 (by decide) ?_
              refine v_incN C dL_minutes_98 rfl (by decide) ?_
              refine v_goto C 6 dL_minutes_101 (by decide) ?_
              have q := ih_k hk trivial
              have e : sumF (gmn x d day but) (k + 1) = (sumF (gmn x d day but) k) + ((x 7 k) - (x 6 k)) := by simp [sumF, gmn, pif, c2, c4, c6, c8, c10]
              rw [e] at q
              exact (V.lof 9 q)
set_option maxHeartbeats 4000000 in
set_option maxRecDepth 100000 in
/-- fitsDriver -/
theorem k_L_fitsDriver (l : Launch) (G : va_G) (cy : Nat → ClassId) (al : Nat → Nat) (x : Sg) (wr : va_W) (n : Nat) (hn : x 1 0 = nI n) (h20 : n ≤ 20) (d : Nat) (hd5 : d < 5) (r : Nat) (hr : r < 20) : KI l G cy yL_fitsDriver wsL_fitsDriver 1 29 0 0 [.ref (al 9), .ref (al 0), .ref (al 1), .ref (al 3), .ref (al 5), .int (nI d), .int (nI r)] (wL cy al x wr) (b2i (ldf n x d r)) (wL cy al x wr) := by
  refine KI_of (own := RL) (cc := cL_fitsDriver) (maxL := 12) (ret := (some .boolean)) (lo0 := [some (.ref (al 9)), some (.ref (al 0)), some (.ref (al 1)), some (.ref (al 3)), some (.ref (al 5)), some (.int (nI d)), some (.int (nI r)), none, none, none, none, none]) (by decide) rfl rfl (by simp [Value.category]) (Nat.le_of_ble_eq_true rfl) rfl (fun p e s m args below meth c A C => ?_)
  refine v_iconst C (0) dL_fitsDriver_0 (by decide) ?_
  refine v_istore C dL_fitsDriver_1 (by decide) ?_
  refine v_iconst C (0) dL_fitsDriver_3 (by decide) ?_
  refine v_istore C dL_fitsDriver_4 (by decide) ?_
  refine V.loop (fun k : Nat => wL cy al x wr) (fun k : Nat => ([some (.ref (al 9)), some (.ref (al 0)), some (.ref (al 1)), some (.ref (al 3)), some (.ref (al 5)), some (.int (nI d)), some (.int (nI r)), some (.int (sumF (gnear x d r) k)), some (.int (nI k)), none, none, none] : List (Option Value))) (fun k : Nat => True) n ?_ trivial
  intro k hle_k hP_k ih_k
  try dsimp only at hP_k ih_k ⊢
  refine v_iload C dL_fitsDriver_6 rfl ?_
  refine v_aload_n C dL_fitsDriver_8 rfl ?_
  refine v_iconst C (1) dL_fitsDriver_9 (by decide) ?_
  refine vL_l_n1 C dL_fitsDriver_10 ?_
  refine v_geN C k n 180 dL_fitsDriver_11 (by decide) rfl hn (by omega) (by omega) (fun c1 => ?_) (fun c1 => ?_)
  · -- loop 6 is over
    have e_k : n = k := by omega
    subst e_k
    refine v_iload C dL_fitsDriver_180 rfl ?_
    refine v_if_ne C 240 dL_fitsDriver_182 (by decide) (fun c2 => ?_) (fun c2 => ?_)
    · -- 182 t: ¬ (sumF (gnear x d r) n) = 0
      refine v_iconst C (0) dL_fitsDriver_240 (by decide) ?_
      refine v_zret C rfl dL_fitsDriver_241 ?_
      exact (b2i_f (fun z => c2 z.1)).symm
    · -- 182 f: not ¬ (sumF (gnear x d r) n) = 0
      refine v_aload C dL_fitsDriver_185 rfl ?_
      refine v_iload C dL_fitsDriver_187 rfl ?_
      refine vL_l_i C d rfl (by omega) dL_fitsDriver_189 ?_
      refine v_if_ne C 240 dL_fitsDriver_190 (by decide) (fun c3 => ?_) (fun c3 => ?_)
      · -- 190 t: ¬ (x 14 d) = 0
        refine v_iconst C (0) dL_fitsDriver_240 (by decide) ?_
        refine v_zret C rfl dL_fitsDriver_241 ?_
        exact (b2i_f (fun z => c3 z.2.1)).symm
      · -- 190 f: not ¬ (x 14 d) = 0
        refine v_aload_n C dL_fitsDriver_193 rfl ?_
        refine v_aload_n C dL_fitsDriver_194 rfl ?_
        refine v_aload_n C dL_fitsDriver_195 rfl ?_
        refine v_aload_n C dL_fitsDriver_196 rfl ?_
        refine v_iload C dL_fitsDriver_197 rfl ?_
        refine v_aload_n C dL_fitsDriver_199 rfl ?_
        refine v_iconst C (3) dL_fitsDriver_200 (by decide) ?_
        refine v_iload C dL_fitsDriver_201 rfl ?_
        refine v_imul C dL_fitsDriver_203 ?_
        refine vL_l_r0 C r rfl (by omega) dL_fitsDriver_204 ?_
        refine v_sipush C (1440) dL_fitsDriver_205 (by decide) ?_
        refine v_idiv C dL_fitsDriver_208 (by decide) ?_
        refine v_iload C dL_fitsDriver_209 rfl ?_
        refine v_sI C (k_L_minutes l G cy al x wr n hn h20 (nI d) ((x 6 r) / 1440) (nI r)) rfl gL_fitsDriver_L_minutes (nA := 7) (by decide +kernel) rfl (by decide) (by decide) rfl (Nat.le_of_ble_eq_true rfl) dL_fitsDriver_211 ?_
        refine v_aload_n C dL_fitsDriver_214 rfl ?_
        refine v_iconst C (3) dL_fitsDriver_215 (by decide) ?_
        refine v_iload C dL_fitsDriver_216 rfl ?_
        refine v_imul C dL_fitsDriver_218 ?_
        refine v_iconst C (1) dL_fitsDriver_219 (by decide) ?_
        refine v_iadd C dL_fitsDriver_220 ?_
        refine vL_l_r1 C r rfl (by omega) dL_fitsDriver_221 ?_
        refine v_iadd C dL_fitsDriver_222 ?_
        refine v_aload_n C dL_fitsDriver_223 rfl ?_
        refine v_iconst C (3) dL_fitsDriver_224 (by decide) ?_
        refine v_iload C dL_fitsDriver_225 rfl ?_
        refine v_imul C dL_fitsDriver_227 ?_
        refine vL_l_r0 C r rfl (by omega) dL_fitsDriver_228 ?_
        refine v_isub C dL_fitsDriver_229 ?_
        refine v_sipush C (480) dL_fitsDriver_230 (by decide) ?_
        refine v_icmp_gt C 240 dL_fitsDriver_233 (by decide) (fun c4 => ?_) (fun c4 => ?_)
        · -- 233 t: 480 < (((fmn n x (nI d) ((x 6 r) / 1440) (nI r)) + (x 7 r)) - (x 6 r))
          refine v_iconst C (0) dL_fitsDriver_240 (by decide) ?_
          refine v_zret C rfl dL_fitsDriver_241 ?_
          exact (b2i_f (fun z => z.2.2 c4)).symm
        · -- 233 f: not 480 < (((fmn n x (nI d) ((x 6 r) / 1440) (nI r)) + (x 7 r)) - (x 6 r))
          refine v_iconst C (1) dL_fitsDriver_236 (by decide) ?_
          refine v_goto C 241 dL_fitsDriver_237 (by decide) ?_
          refine v_zret C rfl dL_fitsDriver_241 ?_
          exact (b2i_t ⟨c2, c3, c4⟩).symm
  · have hk : k < n := c1
    refine V.join (wL cy al x wr) 75 (fun _ => ([some (.ref (al 9)), some (.ref (al 0)), some (.ref (al 1)), some (.ref (al 3)), some (.ref (al 5)), some (.int (nI d)), some (.int (nI r)), some (.int (sumF (gnear x d r) k)), some (.int (nI k)), none, none, none] : List (Option Value))) (fun v => (.int v :: [] : List Value)) (b2i (lwk x d r k)) (fun J1 => ?_) ?_
    · -- up to the join
      refine v_iload C dL_fitsDriver_14 rfl ?_
      refine v_iload C dL_fitsDriver_16 rfl ?_
      refine v_icmp_eq C 74 dL_fitsDriver_18 (by decide) (fun c5 => ?_) (fun c5 => ?_)
      · -- 18 t: (nI k) = (nI r)
        refine v_iconst C (0) dL_fitsDriver_74 (by decide) ?_
        refine J1 _ ?_
        exact (b2i_f (by simp [lwk, c5])).symm
      · -- 18 f: not (nI k) = (nI r)
        refine v_aload_n C dL_fitsDriver_21 rfl ?_
        refine v_iload C dL_fitsDriver_22 rfl ?_
        refine vL_l_d C k rfl (by omega) dL_fitsDriver_24 ?_
        refine v_iload C dL_fitsDriver_25 rfl ?_
        refine v_iconst C (1) dL_fitsDriver_27 (by decide) ?_
        refine v_iadd C dL_fitsDriver_28 ?_
        refine v_icmp_ne C 74 dL_fitsDriver_29 (by decide) (fun c6 => ?_) (fun c6 => ?_)
        · -- 29 t: ¬ (x 11 k + 1) = ((nI d) + 1)
          replace c6 := mt p1_iff.mpr c6
          refine v_iconst C (0) dL_fitsDriver_74 (by decide) ?_
          refine J1 _ ?_
          exact (b2i_f (by simp [lwk, c5, c6])).symm
        · -- 29 f: not ¬ (x 11 k + 1) = ((nI d) + 1)
          replace c6 := p1_iff.mp c6
          refine v_aload_n C dL_fitsDriver_32 rfl ?_
          refine v_iload C dL_fitsDriver_33 rfl ?_
          refine vL_l_s C k rfl (by omega) dL_fitsDriver_35 ?_
          refine v_if_le C 74 dL_fitsDriver_36 (by decide) (fun c7 => ?_) (fun c7 => ?_)
          · -- 36 t: ¬ 0 < (x 9 k)
            refine v_iconst C (0) dL_fitsDriver_74 (by decide) ?_
            refine J1 _ ?_
            exact (b2i_f (by simp [lwk, c5, c6, c7])).symm
          · -- 36 f: not ¬ 0 < (x 9 k)
            refine v_aload_n C dL_fitsDriver_39 rfl ?_
            refine v_iload C dL_fitsDriver_40 rfl ?_
            refine vL_l_s C k rfl (by omega) dL_fitsDriver_42 ?_
            refine v_iconst C (4) dL_fitsDriver_43 (by decide) ?_
            refine v_icmp_ge C 74 dL_fitsDriver_44 (by decide) (fun c8 => ?_) (fun c8 => ?_)
            · -- 44 t: ¬ (x 9 k) < 4
              refine v_iconst C (0) dL_fitsDriver_74 (by decide) ?_
              refine J1 _ ?_
              exact (b2i_f (by simp [lwk, c5, c6, c7, c8])).symm
            · -- 44 f: not ¬ (x 9 k) < 4
              refine v_aload_n C dL_fitsDriver_47 rfl ?_
              refine v_iconst C (3) dL_fitsDriver_48 (by decide) ?_
              refine v_iload C dL_fitsDriver_49 rfl ?_
              refine v_imul C dL_fitsDriver_51 ?_
              refine vL_l_r0 C k rfl (by omega) dL_fitsDriver_52 ?_
              refine v_sipush C (1440) dL_fitsDriver_53 (by decide) ?_
              refine v_idiv C dL_fitsDriver_56 (by decide) ?_
              refine v_aload_n C dL_fitsDriver_57 rfl ?_
              refine v_iconst C (3) dL_fitsDriver_58 (by decide) ?_
              refine v_iload C dL_fitsDriver_59 rfl ?_
              refine v_imul C dL_fitsDriver_61 ?_
              refine vL_l_r0 C r rfl (by omega) dL_fitsDriver_62 ?_
              refine v_sipush C (1440) dL_fitsDriver_63 (by decide) ?_
              refine v_idiv C dL_fitsDriver_66 (by decide) ?_
              refine v_icmp_ne C 74 dL_fitsDriver_67 (by decide) (fun c9 => ?_) (fun c9 => ?_)
              · -- 67 t: ¬ ((x 6 k) / 1440) = ((x 6 r) / 1440)
                refine v_iconst C (0) dL_fitsDriver_74 (by decide) ?_
                refine J1 _ ?_
                exact (b2i_f (by simp [lwk, c5, c6, c7, c8, c9])).symm
              · -- 67 f: not ¬ ((x 6 k) / 1440) = ((x 6 r) / 1440)
                refine v_iconst C (1) dL_fitsDriver_70 (by decide) ?_
                refine v_goto C 75 dL_fitsDriver_71 (by decide) ?_
                refine J1 _ ?_
                exact (b2i_t (by simp [lwk, c5, c6, c7, c8, c9])).symm
    · -- behind the join
      refine v_istore C dL_fitsDriver_75 (by decide) ?_
      refine V.join (wL cy al x wr) 107 (fun _ => ([some (.ref (al 9)), some (.ref (al 0)), some (.ref (al 1)), some (.ref (al 3)), some (.ref (al 5)), some (.int (nI d)), some (.int (nI r)), some (.int (sumF (gnear x d r) k)), some (.int (nI k)), some (.int (b2i (lwk x d r k))), none, none] : List (Option Value))) (fun v => (.int v :: [] : List Value)) (lmax x k r) (fun J2 => ?_) ?_
      · -- up to the join
        refine v_aload_n C dL_fitsDriver_77 rfl ?_
        refine v_iconst C (3) dL_fitsDriver_78 (by decide) ?_
        refine v_iload C dL_fitsDriver_79 rfl ?_
        refine v_imul C dL_fitsDriver_81 ?_
        refine vL_l_r0 C k rfl (by omega) dL_fitsDriver_82 ?_
        refine v_aload_n C dL_fitsDriver_83 rfl ?_
        refine v_iconst C (3) dL_fitsDriver_84 (by decide) ?_
        refine v_iload C dL_fitsDriver_85 rfl ?_
        refine v_imul C dL_fitsDriver_87 ?_
        refine vL_l_r0 C r rfl (by omega) dL_fitsDriver_88 ?_
        refine v_icmp_le C 101 dL_fitsDriver_89 (by decide) (fun c10 => ?_) (fun c10 => ?_)
        · -- 89 t: ¬ (x 6 r) < (x 6 k)
          refine v_aload_n C dL_fitsDriver_101 rfl ?_
          refine v_iconst C (3) dL_fitsDriver_102 (by decide) ?_
          refine v_iload C dL_fitsDriver_103 rfl ?_
          refine v_imul C dL_fitsDriver_105 ?_
          refine vL_l_r0 C r rfl (by omega) dL_fitsDriver_106 ?_
          refine J2 _ ?_
          exact (pif_f c10).symm
        · -- 89 f: not ¬ (x 6 r) < (x 6 k)
          refine v_aload_n C dL_fitsDriver_92 rfl ?_
          refine v_iconst C (3) dL_fitsDriver_93 (by decide) ?_
          refine v_iload C dL_fitsDriver_94 rfl ?_
          refine v_imul C dL_fitsDriver_96 ?_
          refine vL_l_r0 C k rfl (by omega) dL_fitsDriver_97 ?_
          refine v_goto C 107 dL_fitsDriver_98 (by decide) ?_
          refine J2 _ ?_
          exact (pif_t c10).symm
      · -- behind the join
        refine v_istore C dL_fitsDriver_107 (by decide) ?_
        refine V.join (wL cy al x wr) 147 (fun _ => ([some (.ref (al 9)), some (.ref (al 0)), some (.ref (al 1)), some (.ref (al 3)), some (.ref (al 5)), some (.int (nI d)), some (.int (nI r)), some (.int (sumF (gnear x d r) k)), some (.int (nI k)), some (.int (b2i (lwk x d r k))), some (.int (lmax x k r)), none] : List (Option Value))) (fun v => (.int v :: [] : List Value)) (lmin x k r) (fun J3 => ?_) ?_
        · -- up to the join
          refine v_aload_n C dL_fitsDriver_109 rfl ?_
          refine v_iconst C (3) dL_fitsDriver_110 (by decide) ?_
          refine v_iload C dL_fitsDriver_111 rfl ?_
          refine v_imul C dL_fitsDriver_113 ?_
          refine v_iconst C (1) dL_fitsDriver_114 (by decide) ?_
          refine v_iadd C dL_fitsDriver_115 ?_
          refine vL_l_r1 C k rfl (by omega) dL_fitsDriver_116 ?_
          refine v_aload_n C dL_fitsDriver_117 rfl ?_
          refine v_iconst C (3) dL_fitsDriver_118 (by decide) ?_
          refine v_iload C dL_fitsDriver_119 rfl ?_
          refine v_imul C dL_fitsDriver_121 ?_
          refine v_iconst C (1) dL_fitsDriver_122 (by decide) ?_
          refine v_iadd C dL_fitsDriver_123 ?_
          refine vL_l_r1 C r rfl (by omega) dL_fitsDriver_124 ?_
          refine v_icmp_ge C 139 dL_fitsDriver_125 (by decide) (fun c11 => ?_) (fun c11 => ?_)
          · -- 125 t: ¬ (x 7 k) < (x 7 r)
            refine v_aload_n C dL_fitsDriver_139 rfl ?_
            refine v_iconst C (3) dL_fitsDriver_140 (by decide) ?_
            refine v_iload C dL_fitsDriver_141 rfl ?_
            refine v_imul C dL_fitsDriver_143 ?_
            refine v_iconst C (1) dL_fitsDriver_144 (by decide) ?_
            refine v_iadd C dL_fitsDriver_145 ?_
            refine vL_l_r1 C r rfl (by omega) dL_fitsDriver_146 ?_
            refine J3 _ ?_
            exact (pif_f c11).symm
          · -- 125 f: not ¬ (x 7 k) < (x 7 r)
            refine v_aload_n C dL_fitsDriver_128 rfl ?_
            refine v_iconst C (3) dL_fitsDriver_129 (by decide) ?_
            refine v_iload C dL_fitsDriver_130 rfl ?_
            refine v_imul C dL_fitsDriver_132 ?_
            refine v_iconst C (1) dL_fitsDriver_133 (by decide) ?_
            refine v_iadd C dL_fitsDriver_134 ?_
            refine vL_l_r1 C k rfl (by omega) dL_fitsDriver_135 ?_
            refine v_goto C 147 dL_fitsDriver_136 (by decide) ?_
            refine J3 _ ?_
            exact (pif_t c11).symm
        · -- behind the join
          refine v_istore C dL_fitsDriver_147 (by decide) ?_
          refine v_iload C dL_fitsDriver_149 rfl ?_
          refine V.join (wL cy al x wr) 171 (fun _ => ([some (.ref (al 9)), some (.ref (al 0)), some (.ref (al 1)), some (.ref (al 3)), some (.ref (al 5)), some (.int (nI d)), some (.int (nI r)), some (.int (sumF (gnear x d r) k)), some (.int (nI k)), some (.int (b2i (lwk x d r k))), some (.int (lmax x k r)), some (.int (lmin x k r))] : List (Option Value))) (fun v => (.int v :: [.int (sumF (gnear x d r) k)] : List Value)) (b2i (lnear x d r k)) (fun J4 => ?_) ?_
          · -- up to the join
            refine v_iload C dL_fitsDriver_151 rfl ?_
            refine v_if_eq C 170 dL_fitsDriver_153 (by decide) (fun c12 => ?_) (fun c12 => ?_)
            · -- 153 t: (b2i (lwk x d r k)) = 0
              replace c12 := b2i_0.mp c12
              refine v_iconst C (0) dL_fitsDriver_170 (by decide) ?_
              refine J4 _ ?_
              exact (b2i_f (by simp [lnear, c12])).symm
            · -- 153 f: not (b2i (lwk x d r k)) = 0
              replace c12 := Classical.not_not.mp (fun z => c12 (b2i_0.mpr z))
              refine v_iload C dL_fitsDriver_156 rfl ?_
              refine v_iload C dL_fitsDriver_158 rfl ?_
              refine v_isub C dL_fitsDriver_160 ?_
              refine v_bipush C (30) dL_fitsDriver_161 (by decide) ?_
              refine v_icmp_ge C 170 dL_fitsDriver_163 (by decide) (fun c13 => ?_) (fun c13 => ?_)
              · -- 163 t: ¬ ((lmax x k r) - (lmin x k r)) < 30
                refine v_iconst C (0) dL_fitsDriver_170 (by decide) ?_
                refine J4 _ ?_
                exact (b2i_f (by simp [lnear, c12, c13])).symm
              · -- 163 f: not ¬ ((lmax x k r) - (lmin x k r)) < 30
                refine v_iconst C (1) dL_fitsDriver_166 (by decide) ?_
                refine v_goto C 171 dL_fitsDriver_167 (by decide) ?_
                refine J4 _ ?_
                exact (b2i_t (by simp [lnear, c12, c13])).symm
          · -- behind the join
            refine v_iadd C dL_fitsDriver_171 ?_
            refine v_istore C dL_fitsDriver_172 (by decide) ?_
            refine v_incN C dL_fitsDriver_174 rfl (by decide) ?_
            refine v_goto C 6 dL_fitsDriver_177 (by decide) ?_
            exact (V.lof 9 (V.lof 10 (V.lof 11 (ih_k hk trivial))))
end
section
/-! THE LAW: what it does to its own depot -/
theorem su_15 (x : Sg) (v : Int32) : su x 15 0 v 15 1 = x 15 1 := su_k x 15 v (by decide)
theorem su_15n (x : Sg) (v : Int32) : su (su x 15 0 v) 15 1 (x 15 1) = su x 15 0 v := su_n _ _ _ _ (su_15 x v)
noncomputable def llowb (n : Nat) (y : Sg) (r : Nat) : Int32 := pif (lbf n y 0 r) 0 (pif (lbf n y 1 r) 1 (pif (lbf n y 2 r) 2 (pif (lbf n y 3 r) 3 (pif (lbf n y 4 r) 4 (-1)))))
noncomputable def llowd (n : Nat) (y : Sg) (r : Nat) : Int32 := pif (ldf n y 0 r) 0 (pif (ldf n y 1 r) 1 (pif (ldf n y 2 r) 2 (pif (ldf n y 3 r) 3 (pif (ldf n y 4 r) 4 (-1)))))
theorem llowb_lt (n : Nat) (y : Sg) (r : Nat) : llowb n y r < nI 5 := by
  unfold llowb
  refine pif_ap _ _ _ (fun z => z < nI 5) (fun _ => by decide) (fun _ => ?_)
  refine pif_ap _ _ _ (fun z => z < nI 5) (fun _ => by decide) (fun _ => ?_)
  refine pif_ap _ _ _ (fun z => z < nI 5) (fun _ => by decide) (fun _ => ?_)
  refine pif_ap _ _ _ (fun z => z < nI 5) (fun _ => by decide) (fun _ => ?_)
  exact pif_ap _ _ _ (fun z => z < nI 5) (fun _ => by decide) (fun _ => by decide)
noncomputable def lgiveb (n : Nat) (y : Sg) (j : Nat) : Sg := pif (llowb n y j < 0) (fdrop (su y 10 j (llowb n y j)) j 4) (funplug (su (su y 10 j (llowb n y j)) 12 (llowb n y j).toNatClampNeg (y 12 (llowb n y j).toNatClampNeg - y 8 j)) (llowb n y j))
noncomputable def lgived (n : Nat) (y : Sg) (j : Nat) : Sg := pif (llowd n y j < 0) (fdrop (su y 11 j (llowd n y j)) j 4) (su y 11 j (llowd n y j))
noncomputable def lswapb (n b : Nat) (k : Nat) (y : Sg) : Sg := pif (y 9 k = 2 ∧ y 10 k = nI b) (lgiveb n y k) y
noncomputable def lswapd (n d : Nat) (k : Nat) (y : Sg) : Sg := pif (y 9 k = 2 ∧ y 11 k = nI d) (lgived n y k) y
theorem lswapb_f {f k : Nat} (n b c : Nat) (x : Sg) (h9 : f ≠ 9) (h10 : f ≠ 10) (h11 : f ≠ 11) (h12 : f ≠ 12) (h15 : f ≠ 15) : lswapb n b c x f k = x f k := by simp [lswapb, lgiveb, pif_ap2, fdrop_f, funplug_f, su_f, h9, h10, h11, h12, h15, pif_s]
theorem lswapd_f {f k : Nat} (n b c : Nat) (x : Sg) (h9 : f ≠ 9) (h10 : f ≠ 10) (h11 : f ≠ 11) : lswapd n b c x f k = x f k := by simp [lswapd, lgived, pif_ap2, fdrop_f, su_f, h9, h10, h11, pif_s]
noncomputable def lbreaks (n : Nat) (x : Sg) (b : Nat) : Sg := it (lswapb n b) n (it (stakeb (nI b)) n (su (funplug x (nI b)) 13 b 1))
noncomputable def lails (n : Nat) (x : Sg) (d : Nat) : Sg := it (lswapd n d) n (it (staked (nI d)) n (su x 14 d 1))
set_option maxHeartbeats 4000000 in
set_option maxRecDepth 100000 in
/-- leaves -/
theorem k_L_leaves (l : Launch) (G : va_G) (cy : Nat → ClassId) (al : Nat → Nat) (x : Sg) (wr : va_W) (b : Int32) : KV l G cy yL_leaves wsL_leaves 0 0 0 0 [.ref (al 6), .int b] (wL cy al x wr) (wL cy al (funplug x b) wr) := by
  refine KV_of (own := RL) (cc := cL_leaves) (maxL := 2) (ret := none) (lo0 := [some (.ref (al 6)), some (.int b)]) (by decide) rfl rfl (by simp [Value.category]) (Nat.le_of_ble_eq_true rfl) rfl (fun p e s m args below meth c A _ C => ?_)
  refine v_aload_n C dL_leaves_0 rfl ?_
  refine v_iconst C (0) dL_leaves_1 (by decide) ?_
  refine v_aload_n C dL_leaves_2 rfl ?_
  refine v_iconst C (0) dL_leaves_3 (by decide) ?_
  refine vL_l_g C 0 rfl (by omega) dL_leaves_4 ?_
  refine v_iload_n C dL_leaves_5 rfl ?_
  refine v_iconst C (1) dL_leaves_6 (by decide) ?_
  refine v_iadd C dL_leaves_7 ?_
  refine v_icmp_ne C 15 dL_leaves_8 (by decide) (fun c1 => ?_) (fun c1 => ?_)
  · -- 8 t: ¬ (x 15 0 + 1) = (b + 1)
    replace c1 := mt p1_iff.mpr c1
    refine v_aload_n C dL_leaves_15 rfl ?_
    refine v_iconst C (0) dL_leaves_16 (by decide) ?_
    refine vL_l_g C 0 rfl (by omega) dL_leaves_17 ?_
    refine vL_s_g C 0 rfl (by omega) (v := x 15 0) rfl dL_leaves_18 ?_
    refine v_aload_n C dL_leaves_19 rfl ?_
    refine v_iconst C (1) dL_leaves_20 (by decide) ?_
    refine v_aload_n C dL_leaves_21 rfl ?_
    refine v_iconst C (1) dL_leaves_22 (by decide) ?_
    refine vL_l_g C 1 rfl (by omega) dL_leaves_23 ?_
    refine V.es (st' := [.int (x 15 1 + 1), .int 1, .ref (al 6)]) (by rw [su_k _ _ _ (by decide)]) ?_
    refine v_iload_n C dL_leaves_24 rfl ?_
    refine v_iconst C (1) dL_leaves_25 (by decide) ?_
    refine v_iadd C dL_leaves_26 ?_
    refine v_icmp_ne C 34 dL_leaves_27 (by decide) (fun c2 => ?_) (fun c2 => ?_)
    · -- 27 t: ¬ (x 15 1 + 1) = (b + 1)
      replace c2 := mt p1_iff.mpr c2
      refine v_aload_n C dL_leaves_34 rfl ?_
      refine v_iconst C (1) dL_leaves_35 (by decide) ?_
      refine vL_l_g C 1 rfl (by omega) dL_leaves_36 ?_
      refine V.es (st' := [.int (x 15 1 + 1), .int 1, .ref (al 6)]) (by rw [su_k _ _ _ (by decide)]) ?_
      refine vL_s_g C 1 rfl (by omega) (v := x 15 1) rfl dL_leaves_37 ?_
      have e : funplug x b = su (su x 15 0 (x 15 0)) 15 1 (x 15 1) := by simp [funplug, it, sunplug, su_id, su_15, su_15n, pif, c1, c2]
      rw [e]
      exact v_vret C dL_leaves_38
    · -- 27 f: not ¬ (x 15 1 + 1) = (b + 1)
      replace c2 := p1_iff.mp c2
      refine v_iconst C (0) dL_leaves_30 (by decide) ?_
      refine v_goto C 37 dL_leaves_31 (by decide) ?_
      refine vL_s_g C 1 rfl (by omega) (v := -1) (by decide : (0 : Int32) = -1 + 1) dL_leaves_37 ?_
      have e : funplug x b = su (su x 15 0 (x 15 0)) 15 1 (-1) := by simp [funplug, it, sunplug, su_id, su_15, su_15n, pif, c1, c2]
      rw [e]
      exact v_vret C dL_leaves_38
  · -- 8 f: not ¬ (x 15 0 + 1) = (b + 1)
    replace c1 := p1_iff.mp c1
    refine v_iconst C (0) dL_leaves_11 (by decide) ?_
    refine v_goto C 18 dL_leaves_12 (by decide) ?_
    refine vL_s_g C 0 rfl (by omega) (v := -1) (by decide : (0 : Int32) = -1 + 1) dL_leaves_18 ?_
    refine v_aload_n C dL_leaves_19 rfl ?_
    refine v_iconst C (1) dL_leaves_20 (by decide) ?_
    refine v_aload_n C dL_leaves_21 rfl ?_
    refine v_iconst C (1) dL_leaves_22 (by decide) ?_
    refine vL_l_g C 1 rfl (by omega) dL_leaves_23 ?_
    refine V.es (st' := [.int (x 15 1 + 1), .int 1, .ref (al 6)]) (by rw [su_k _ _ _ (by decide)]) ?_
    refine v_iload_n C dL_leaves_24 rfl ?_
    refine v_iconst C (1) dL_leaves_25 (by decide) ?_
    refine v_iadd C dL_leaves_26 ?_
    refine v_icmp_ne C 34 dL_leaves_27 (by decide) (fun c3 => ?_) (fun c3 => ?_)
    · -- 27 t: ¬ (x 15 1 + 1) = (b + 1)
      replace c3 := mt p1_iff.mpr c3
      refine v_aload_n C dL_leaves_34 rfl ?_
      refine v_iconst C (1) dL_leaves_35 (by decide) ?_
      refine vL_l_g C 1 rfl (by omega) dL_leaves_36 ?_
      refine V.es (st' := [.int (x 15 1 + 1), .int 1, .ref (al 6)]) (by rw [su_k _ _ _ (by decide)]) ?_
      refine vL_s_g C 1 rfl (by omega) (v := x 15 1) rfl dL_leaves_37 ?_
      have e : funplug x b = su (su x 15 0 (-1)) 15 1 (x 15 1) := by simp [funplug, it, sunplug, su_id, su_15, su_15n, pif, c1, c3]
      rw [e]
      exact v_vret C dL_leaves_38
    · -- 27 f: not ¬ (x 15 1 + 1) = (b + 1)
      replace c3 := p1_iff.mp c3
      refine v_iconst C (0) dL_leaves_30 (by decide) ?_
      refine v_goto C 37 dL_leaves_31 (by decide) ?_
      refine vL_s_g C 1 rfl (by omega) (v := -1) (by decide : (0 : Int32) = -1 + 1) dL_leaves_37 ?_
      have e : funplug x b = su (su x 15 0 (-1)) 15 1 (-1) := by simp [funplug, it, sunplug, su_id, su_15, su_15n, pif, c1, c3]
      rw [e]
      exact v_vret C dL_leaves_38
set_option maxHeartbeats 4000000 in
set_option maxRecDepth 100000 in
/-- turns -/
theorem k_L_turns (l : Launch) (G : va_G) (cy : Nat → ClassId) (al : Nat → Nat) (x : Sg) (wr : va_W) (j : Nat) (hj : j < 20) (v : Int32) : KV l G cy yL_turns wsL_turns 0 0 0 0 [.ref (al 1), .ref (al 2), .ref (al 3), .int (nI j), .int v] (wL cy al x wr) (wL cy al (fdrop x j v) wr) := by
  refine KV_of (own := RL) (cc := cL_turns) (maxL := 5) (ret := none) (lo0 := [some (.ref (al 1)), some (.ref (al 2)), some (.ref (al 3)), some (.int (nI j)), some (.int v)]) (by decide) rfl rfl (by simp [Value.category]) (Nat.le_of_ble_eq_true rfl) rfl (fun p e s m args below meth c A _ C => ?_)
  refine v_aload_n C dL_turns_0 rfl ?_
  refine v_iload_n C dL_turns_1 rfl ?_
  refine v_iload C dL_turns_2 rfl ?_
  refine vL_s_s C j rfl (by omega) dL_turns_4 ?_
  refine v_aload_n C dL_turns_5 rfl ?_
  refine v_iload_n C dL_turns_6 rfl ?_
  refine v_iconst C (0) dL_turns_7 (by decide) ?_
  refine vL_s_w C j rfl (by omega) (v := -1) (by decide : (0 : Int32) = -1 + 1) dL_turns_8 ?_
  refine v_aload_n C dL_turns_9 rfl ?_
  refine v_iload_n C dL_turns_10 rfl ?_
  refine v_iconst C (0) dL_turns_11 (by decide) ?_
  refine vL_s_d C j rfl (by omega) (v := -1) (by decide : (0 : Int32) = -1 + 1) dL_turns_12 ?_
  exact v_vret C dL_turns_13
set_option maxHeartbeats 4000000 in
set_option maxRecDepth 100000 in
/-- breaks -/
theorem k_L_breaks (l : Launch) (G : va_G) (cy : Nat → ClassId) (al : Nat → Nat) (x : Sg) (wr : va_W) (n : Nat) (hn : x 1 0 = nI n) (h20 : n ≤ 20) (b : Nat) (hb : b < 5) : KV l G cy yL_breaks wsL_breaks 2 56 0 0 [.ref (al 9), .ref (al 0), .ref (al 1), .ref (al 2), .ref (al 3), .ref (al 4), .ref (al 6), .int (nI b)] (wL cy al x wr) (wL cy al (lbreaks n x b) wr) := by
  refine KV_of (own := RL) (cc := cL_breaks) (maxL := 11) (ret := none) (lo0 := [some (.ref (al 9)), some (.ref (al 0)), some (.ref (al 1)), some (.ref (al 2)), some (.ref (al 3)), some (.ref (al 4)), some (.ref (al 6)), some (.int (nI b)), none, none, none]) (by decide) rfl rfl (by simp [Value.category]) (Nat.le_of_ble_eq_true rfl) rfl (fun p e s m args below meth c A _ C => ?_)
  refine v_aload C dL_breaks_0 rfl ?_
  refine v_iload C dL_breaks_2 rfl ?_
  refine v_sV C (k_L_leaves l G cy al x wr (nI b)) rfl gL_breaks_L_leaves (nA := 2) (by decide +kernel) rfl (by decide) (by decide) rfl (Nat.le_of_ble_eq_true rfl) dL_breaks_4 ?_
  refine v_aload C dL_breaks_7 rfl ?_
  refine v_iconst C (2) dL_breaks_9 (by decide) ?_
  refine v_iload C dL_breaks_10 rfl ?_
  refine v_imul C dL_breaks_12 ?_
  refine v_iconst C (1) dL_breaks_13 (by decide) ?_
  refine v_iadd C dL_breaks_14 ?_
  refine v_iconst C (1) dL_breaks_15 (by decide) ?_
  refine vL_s_b1 C b rfl (by omega) dL_breaks_16 ?_
  obtain ⟨z0, hz0⟩ : ∃ z0 : Sg, z0 = su (funplug x (nI b)) 13 b 1 := ⟨_, rfl⟩
  rw [← hz0]
  have hn_z0 : z0 1 0 = nI n := by rw [hz0, su_f _ _ _ _ (by decide), funplug_f _ _ (by decide)]; exact hn
  refine v_iconst C (0) dL_breaks_17 (by decide) ?_
  refine v_istore C dL_breaks_18 (by decide) ?_
  refine V.loop (fun k : Nat => wL cy al (it (stakeb (nI b)) k z0) wr) (fun k : Nat => ([some (.ref (al 9)), some (.ref (al 0)), some (.ref (al 1)), some (.ref (al 2)), some (.ref (al 3)), some (.ref (al 4)), some (.ref (al 6)), some (.int (nI b)), some (.int (nI k)), none, none] : List (Option Value))) (fun k : Nat => True) n ?_ trivial
  intro k hle_k hP_k ih_k
  try dsimp only at hP_k ih_k ⊢
  have hn_k : it (stakeb (nI b)) k z0 1 0 = nI n := (it_f (fun c y => stakeb_f (nI b) c y (by decide) (by decide) (by decide)) k z0).trans hn_z0
  refine v_iload C dL_breaks_20 rfl ?_
  refine v_aload_n C dL_breaks_22 rfl ?_
  refine v_iconst C (1) dL_breaks_23 (by decide) ?_
  refine vL_l_n1 C dL_breaks_24 ?_
  refine v_geN C k n 63 dL_breaks_25 (by decide) rfl hn_k (by omega) (by omega) (fun c1 => ?_) (fun c1 => ?_)
  · -- loop 20 is over
    have e_k : n = k := by omega
    subst e_k
    obtain ⟨z1, hz1⟩ : ∃ z1 : Sg, z1 = it (stakeb (nI b)) n z0 := ⟨_, rfl⟩
    rw [← hz1]
    have hn_z1 : z1 1 0 = nI n := by rw [hz1, it_f (fun c y => stakeb_f (nI b) c y (by decide) (by decide) (by decide))]; exact hn_z0
    refine v_iconst C (0) dL_breaks_63 (by decide) ?_
    refine v_istore C dL_breaks_64 (by decide) ?_
    refine V.loop (fun k : Nat => wL cy al (it (lswapb n b) k z1) wr) (fun k : Nat => ([some (.ref (al 9)), some (.ref (al 0)), some (.ref (al 1)), some (.ref (al 2)), some (.ref (al 3)), some (.ref (al 4)), some (.ref (al 6)), some (.int (nI b)), some (.int (nI k)), none, none] : List (Option Value))) (fun k : Nat => True) n ?_ trivial
    intro k hle_k hP_k ih_k
    try dsimp only at hP_k ih_k ⊢
    have hn_k : it (lswapb n b) k z1 1 0 = nI n := (it_f (fun c y => lswapb_f n b c y (by decide) (by decide) (by decide) (by decide) (by decide)) k z1).trans hn_z1
    refine v_iload C dL_breaks_66 rfl ?_
    refine v_aload_n C dL_breaks_68 rfl ?_
    refine v_iconst C (1) dL_breaks_69 (by decide) ?_
    refine vL_l_n1 C dL_breaks_70 ?_
    refine v_geN C k n 192 dL_breaks_71 (by decide) rfl hn_k (by omega) (by omega) (fun c2 => ?_) (fun c2 => ?_)
    · -- loop 66 is over
      have e_k : n = k := by omega
      subst e_k
      have e : lbreaks n x b = it (lswapb n b) n z1 := by rw [hz1, hz0]; rfl
      rw [e]
      exact v_vret C dL_breaks_192
    · have hk : k < n := c2
      refine v_aload_n C dL_breaks_74 rfl ?_
      refine v_iload C dL_breaks_75 rfl ?_
      refine vL_l_s C k rfl (by omega) dL_breaks_77 ?_
      refine v_iconst C (2) dL_breaks_78 (by decide) ?_
      refine v_icmp_ne C 186 dL_breaks_79 (by decide) (fun c3 => ?_) (fun c3 => ?_)
      · -- 79 t: ¬ ((it (lswapb n b) k z1) 9 k) = 2
        refine v_incN C dL_breaks_186 rfl (by decide) ?_
        refine v_goto C 66 dL_breaks_189 (by decide) ?_
        have q := ih_k hk trivial
        have e : it (lswapb n b) (k + 1) z1 = it (lswapb n b) k z1 := by
          show lswapb n b k (it (lswapb n b) k z1) = it (lswapb n b) k z1
          simp [lswapb, lgiveb, pif, c3]
        rw [e] at q
        exact (V.lof 9 (V.lof 10 q))
      · -- 79 f: not ¬ ((it (lswapb n b) k z1) 9 k) = 2
        refine v_aload_n C dL_breaks_82 rfl ?_
        refine v_iload C dL_breaks_83 rfl ?_
        refine vL_l_w C k rfl (by omega) dL_breaks_85 ?_
        refine v_iload C dL_breaks_86 rfl ?_
        refine v_iconst C (1) dL_breaks_88 (by decide) ?_
        refine v_iadd C dL_breaks_89 ?_
        refine v_icmp_ne C 186 dL_breaks_90 (by decide) (fun c4 => ?_) (fun c4 => ?_)
        · -- 90 t: ¬ ((it (lswapb n b) k z1) 10 k + 1) = ((nI b) + 1)
          replace c4 := mt p1_iff.mpr c4
          refine v_incN C dL_breaks_186 rfl (by decide) ?_
          refine v_goto C 66 dL_breaks_189 (by decide) ?_
          have q := ih_k hk trivial
          have e : it (lswapb n b) (k + 1) z1 = it (lswapb n b) k z1 := by
            show lswapb n b k (it (lswapb n b) k z1) = it (lswapb n b) k z1
            simp [lswapb, lgiveb, pif, c3, c4]
          rw [e] at q
          exact (V.lof 9 (V.lof 10 q))
        · -- 90 f: not ¬ ((it (lswapb n b) k z1) 10 k + 1) = ((nI b) + 1)
          replace c4 := p1_iff.mp c4
          refine v_iconst C (-1) dL_breaks_93 (by decide) ?_
          refine v_istore C dL_breaks_94 (by decide) ?_
          refine v_iconst C (4) dL_breaks_96 (by decide) ?_
          refine v_istore C dL_breaks_97 (by decide) ?_
          refine v_iload C dL_breaks_99 rfl ?_
          refine v_if_lt C 135 dL_breaks_101 (by decide) (fun z => absurd z (by decide)) (fun z => ?_)
          refine V.join (wL cy al (it (lswapb n b) k z1) wr) 127 (fun _ => ([some (.ref (al 9)), some (.ref (al 0)), some (.ref (al 1)), some (.ref (al 2)), some (.ref (al 3)), some (.ref (al 4)), some (.ref (al 6)), some (.int (nI b)), some (.int (nI k)), some (.int (-1)), some (.int 4)] : List (Option Value))) (fun v => (.int v :: [] : List Value)) (pif (lbf n (it (lswapb n b) k z1) 4 k) (4) (-1)) (fun J1 => ?_) ?_
          · -- up to the join
            refine v_aload_n C dL_breaks_104 rfl ?_
            refine v_aload_n C dL_breaks_105 rfl ?_
            refine v_aload_n C dL_breaks_106 rfl ?_
            refine v_aload_n C dL_breaks_107 rfl ?_
            refine v_aload C dL_breaks_108 rfl ?_
            refine v_iload C dL_breaks_110 rfl ?_
            refine v_iload C dL_breaks_112 rfl ?_
            refine v_sI C (k_L_fitsBus l G cy al (it (lswapb n b) k z1) wr n hn_k h20 4 (by omega) k (by omega)) rfl gL_breaks_L_fitsBus (nA := 7) (by decide +kernel) rfl (by decide) (by decide) rfl (Nat.le_of_ble_eq_true rfl) dL_breaks_114 ?_
            refine v_if_eq C 125 dL_breaks_117 (by decide) (fun c6 => ?_) (fun c6 => ?_)
            · -- 117 t: (b2i (lbf n (it (lswapb n b) k z1) 4 k)) = 0
              replace c6 := b2i_0.mp c6
              refine v_iload C dL_breaks_125 rfl ?_
              refine J1 _ ?_
              exact (pif_f c6).symm
            · -- 117 f: not (b2i (lbf n (it (lswapb n b) k z1) 4 k)) = 0
              replace c6 := Classical.not_not.mp (fun z => c6 (b2i_0.mpr z))
              refine v_iload C dL_breaks_120 rfl ?_
              refine v_goto C 127 dL_breaks_122 (by decide) ?_
              refine J1 _ ?_
              exact (pif_t c6).symm
          · -- behind the join
            refine v_istore C dL_breaks_127 (by decide) ?_
            refine v_iinc C (3) dL_breaks_129 rfl (by decide) (by decide) ?_
            refine v_goto C 99 dL_breaks_132 (by decide) ?_
            refine v_iload C dL_breaks_99 rfl ?_
            refine v_if_lt C 135 dL_breaks_101 (by decide) (fun z => absurd z (by decide)) (fun z => ?_)
            refine V.join (wL cy al (it (lswapb n b) k z1) wr) 127 (fun _ => ([some (.ref (al 9)), some (.ref (al 0)), some (.ref (al 1)), some (.ref (al 2)), some (.ref (al 3)), some (.ref (al 4)), some (.ref (al 6)), some (.int (nI b)), some (.int (nI k)), some (.int (pif (lbf n (it (lswapb n b) k z1) 4 k) (4) (-1))), some (.int 3)] : List (Option Value))) (fun v => (.int v :: [] : List Value)) (pif (lbf n (it (lswapb n b) k z1) 3 k) (3) (pif (lbf n (it (lswapb n b) k z1) 4 k) (4) (-1))) (fun J2 => ?_) ?_
            · -- up to the join
              refine v_aload_n C dL_breaks_104 rfl ?_
              refine v_aload_n C dL_breaks_105 rfl ?_
              refine v_aload_n C dL_breaks_106 rfl ?_
              refine v_aload_n C dL_breaks_107 rfl ?_
              refine v_aload C dL_breaks_108 rfl ?_
              refine v_iload C dL_breaks_110 rfl ?_
              refine v_iload C dL_breaks_112 rfl ?_
              refine v_sI C (k_L_fitsBus l G cy al (it (lswapb n b) k z1) wr n hn_k h20 3 (by omega) k (by omega)) rfl gL_breaks_L_fitsBus (nA := 7) (by decide +kernel) rfl (by decide) (by decide) rfl (Nat.le_of_ble_eq_true rfl) dL_breaks_114 ?_
              refine v_if_eq C 125 dL_breaks_117 (by decide) (fun c8 => ?_) (fun c8 => ?_)
              · -- 117 t: (b2i (lbf n (it (lswapb n b) k z1) 3 k)) = 0
                replace c8 := b2i_0.mp c8
                refine v_iload C dL_breaks_125 rfl ?_
                refine J2 _ ?_
                exact (pif_f c8).symm
              · -- 117 f: not (b2i (lbf n (it (lswapb n b) k z1) 3 k)) = 0
                replace c8 := Classical.not_not.mp (fun z => c8 (b2i_0.mpr z))
                refine v_iload C dL_breaks_120 rfl ?_
                refine v_goto C 127 dL_breaks_122 (by decide) ?_
                refine J2 _ ?_
                exact (pif_t c8).symm
            · -- behind the join
              refine v_istore C dL_breaks_127 (by decide) ?_
              refine v_iinc C (2) dL_breaks_129 rfl (by decide) (by decide) ?_
              refine v_goto C 99 dL_breaks_132 (by decide) ?_
              refine v_iload C dL_breaks_99 rfl ?_
              refine v_if_lt C 135 dL_breaks_101 (by decide) (fun z => absurd z (by decide)) (fun z => ?_)
              refine V.join (wL cy al (it (lswapb n b) k z1) wr) 127 (fun _ => ([some (.ref (al 9)), some (.ref (al 0)), some (.ref (al 1)), some (.ref (al 2)), some (.ref (al 3)), some (.ref (al 4)), some (.ref (al 6)), some (.int (nI b)), some (.int (nI k)), some (.int (pif (lbf n (it (lswapb n b) k z1) 3 k) (3) (pif (lbf n (it (lswapb n b) k z1) 4 k) (4) (-1)))), some (.int 2)] : List (Option Value))) (fun v => (.int v :: [] : List Value)) (pif (lbf n (it (lswapb n b) k z1) 2 k) (2) (pif (lbf n (it (lswapb n b) k z1) 3 k) (3) (pif (lbf n (it (lswapb n b) k z1) 4 k) (4) (-1)))) (fun J3 => ?_) ?_
              · -- up to the join
                refine v_aload_n C dL_breaks_104 rfl ?_
                refine v_aload_n C dL_breaks_105 rfl ?_
                refine v_aload_n C dL_breaks_106 rfl ?_
                refine v_aload_n C dL_breaks_107 rfl ?_
                refine v_aload C dL_breaks_108 rfl ?_
                refine v_iload C dL_breaks_110 rfl ?_
                refine v_iload C dL_breaks_112 rfl ?_
                refine v_sI C (k_L_fitsBus l G cy al (it (lswapb n b) k z1) wr n hn_k h20 2 (by omega) k (by omega)) rfl gL_breaks_L_fitsBus (nA := 7) (by decide +kernel) rfl (by decide) (by decide) rfl (Nat.le_of_ble_eq_true rfl) dL_breaks_114 ?_
                refine v_if_eq C 125 dL_breaks_117 (by decide) (fun c10 => ?_) (fun c10 => ?_)
                · -- 117 t: (b2i (lbf n (it (lswapb n b) k z1) 2 k)) = 0
                  replace c10 := b2i_0.mp c10
                  refine v_iload C dL_breaks_125 rfl ?_
                  refine J3 _ ?_
                  exact (pif_f c10).symm
                · -- 117 f: not (b2i (lbf n (it (lswapb n b) k z1) 2 k)) = 0
                  replace c10 := Classical.not_not.mp (fun z => c10 (b2i_0.mpr z))
                  refine v_iload C dL_breaks_120 rfl ?_
                  refine v_goto C 127 dL_breaks_122 (by decide) ?_
                  refine J3 _ ?_
                  exact (pif_t c10).symm
              · -- behind the join
                refine v_istore C dL_breaks_127 (by decide) ?_
                refine v_iinc C (1) dL_breaks_129 rfl (by decide) (by decide) ?_
                refine v_goto C 99 dL_breaks_132 (by decide) ?_
                refine v_iload C dL_breaks_99 rfl ?_
                refine v_if_lt C 135 dL_breaks_101 (by decide) (fun z => absurd z (by decide)) (fun z => ?_)
                refine V.join (wL cy al (it (lswapb n b) k z1) wr) 127 (fun _ => ([some (.ref (al 9)), some (.ref (al 0)), some (.ref (al 1)), some (.ref (al 2)), some (.ref (al 3)), some (.ref (al 4)), some (.ref (al 6)), some (.int (nI b)), some (.int (nI k)), some (.int (pif (lbf n (it (lswapb n b) k z1) 2 k) (2) (pif (lbf n (it (lswapb n b) k z1) 3 k) (3) (pif (lbf n (it (lswapb n b) k z1) 4 k) (4) (-1))))), some (.int 1)] : List (Option Value))) (fun v => (.int v :: [] : List Value)) (pif (lbf n (it (lswapb n b) k z1) 1 k) (1) (pif (lbf n (it (lswapb n b) k z1) 2 k) (2) (pif (lbf n (it (lswapb n b) k z1) 3 k) (3) (pif (lbf n (it (lswapb n b) k z1) 4 k) (4) (-1))))) (fun J4 => ?_) ?_
                · -- up to the join
                  refine v_aload_n C dL_breaks_104 rfl ?_
                  refine v_aload_n C dL_breaks_105 rfl ?_
                  refine v_aload_n C dL_breaks_106 rfl ?_
                  refine v_aload_n C dL_breaks_107 rfl ?_
                  refine v_aload C dL_breaks_108 rfl ?_
                  refine v_iload C dL_breaks_110 rfl ?_
                  refine v_iload C dL_breaks_112 rfl ?_
                  refine v_sI C (k_L_fitsBus l G cy al (it (lswapb n b) k z1) wr n hn_k h20 1 (by omega) k (by omega)) rfl gL_breaks_L_fitsBus (nA := 7) (by decide +kernel) rfl (by decide) (by decide) rfl (Nat.le_of_ble_eq_true rfl) dL_breaks_114 ?_
                  refine v_if_eq C 125 dL_breaks_117 (by decide) (fun c12 => ?_) (fun c12 => ?_)
                  · -- 117 t: (b2i (lbf n (it (lswapb n b) k z1) 1 k)) = 0
                    replace c12 := b2i_0.mp c12
                    refine v_iload C dL_breaks_125 rfl ?_
                    refine J4 _ ?_
                    exact (pif_f c12).symm
                  · -- 117 f: not (b2i (lbf n (it (lswapb n b) k z1) 1 k)) = 0
                    replace c12 := Classical.not_not.mp (fun z => c12 (b2i_0.mpr z))
                    refine v_iload C dL_breaks_120 rfl ?_
                    refine v_goto C 127 dL_breaks_122 (by decide) ?_
                    refine J4 _ ?_
                    exact (pif_t c12).symm
                · -- behind the join
                  refine v_istore C dL_breaks_127 (by decide) ?_
                  refine v_iinc C (0) dL_breaks_129 rfl (by decide) (by decide) ?_
                  refine v_goto C 99 dL_breaks_132 (by decide) ?_
                  refine v_iload C dL_breaks_99 rfl ?_
                  refine v_if_lt C 135 dL_breaks_101 (by decide) (fun z => absurd z (by decide)) (fun z => ?_)
                  refine V.join (wL cy al (it (lswapb n b) k z1) wr) 127 (fun _ => ([some (.ref (al 9)), some (.ref (al 0)), some (.ref (al 1)), some (.ref (al 2)), some (.ref (al 3)), some (.ref (al 4)), some (.ref (al 6)), some (.int (nI b)), some (.int (nI k)), some (.int (pif (lbf n (it (lswapb n b) k z1) 1 k) (1) (pif (lbf n (it (lswapb n b) k z1) 2 k) (2) (pif (lbf n (it (lswapb n b) k z1) 3 k) (3) (pif (lbf n (it (lswapb n b) k z1) 4 k) (4) (-1)))))), some (.int 0)] : List (Option Value))) (fun v => (.int v :: [] : List Value)) (pif (lbf n (it (lswapb n b) k z1) 0 k) (0) (pif (lbf n (it (lswapb n b) k z1) 1 k) (1) (pif (lbf n (it (lswapb n b) k z1) 2 k) (2) (pif (lbf n (it (lswapb n b) k z1) 3 k) (3) (pif (lbf n (it (lswapb n b) k z1) 4 k) (4) (-1)))))) (fun J5 => ?_) ?_
                  · -- up to the join
                    refine v_aload_n C dL_breaks_104 rfl ?_
                    refine v_aload_n C dL_breaks_105 rfl ?_
                    refine v_aload_n C dL_breaks_106 rfl ?_
                    refine v_aload_n C dL_breaks_107 rfl ?_
                    refine v_aload C dL_breaks_108 rfl ?_
                    refine v_iload C dL_breaks_110 rfl ?_
                    refine v_iload C dL_breaks_112 rfl ?_
                    refine v_sI C (k_L_fitsBus l G cy al (it (lswapb n b) k z1) wr n hn_k h20 0 (by omega) k (by omega)) rfl gL_breaks_L_fitsBus (nA := 7) (by decide +kernel) rfl (by decide) (by decide) rfl (Nat.le_of_ble_eq_true rfl) dL_breaks_114 ?_
                    refine v_if_eq C 125 dL_breaks_117 (by decide) (fun c14 => ?_) (fun c14 => ?_)
                    · -- 117 t: (b2i (lbf n (it (lswapb n b) k z1) 0 k)) = 0
                      replace c14 := b2i_0.mp c14
                      refine v_iload C dL_breaks_125 rfl ?_
                      refine J5 _ ?_
                      exact (pif_f c14).symm
                    · -- 117 f: not (b2i (lbf n (it (lswapb n b) k z1) 0 k)) = 0
                      replace c14 := Classical.not_not.mp (fun z => c14 (b2i_0.mpr z))
                      refine v_iload C dL_breaks_120 rfl ?_
                      refine v_goto C 127 dL_breaks_122 (by decide) ?_
                      refine J5 _ ?_
                      exact (pif_t c14).symm
                  · -- behind the join
                    refine v_istore C dL_breaks_127 (by decide) ?_
                    refine v_iinc C (-1) dL_breaks_129 rfl (by decide) (by decide) ?_
                    refine v_goto C 99 dL_breaks_132 (by decide) ?_
                    refine v_iload C dL_breaks_99 rfl ?_
                    refine v_if_lt C 135 dL_breaks_101 (by decide) (fun z => ?_) (fun z => absurd z (by decide))
                    refine V.el (lo' := [some (.ref (al 9)), some (.ref (al 0)), some (.ref (al 1)), some (.ref (al 2)), some (.ref (al 3)), some (.ref (al 4)), some (.ref (al 6)), some (.int (nI b)), some (.int (nI k)), some (.int (llowb n (it (lswapb n b) k z1) k)), some (.int (-1))]) rfl ?_
                    refine v_aload_n C dL_breaks_135 rfl ?_
                    refine v_iload C dL_breaks_136 rfl ?_
                    refine v_iload C dL_breaks_138 rfl ?_
                    refine v_iconst C (1) dL_breaks_140 (by decide) ?_
                    refine v_iadd C dL_breaks_141 ?_
                    refine vL_s_w C k rfl (by omega) (v := llowb n (it (lswapb n b) k z1) k) rfl dL_breaks_142 ?_
                    refine v_iload C dL_breaks_143 rfl ?_
                    refine v_if_ge C 161 dL_breaks_145 (by decide) (fun c16 => ?_) (fun c16 => ?_)
                    · -- 145 t: ¬ (llowb n (it (lswapb n b) k z1) k) < 0
                      obtain ⟨hq, hq_lt⟩ := ix_of (N := 5) (by decide) c16 (llowb_lt _ _ _)
                      refine v_aload C dL_breaks_161 rfl ?_
                      refine v_iconst C (2) dL_breaks_163 (by decide) ?_
                      refine v_iload C dL_breaks_164 rfl ?_
                      refine v_imul C dL_breaks_166 ?_
                      refine v_dup2 C dL_breaks_167 rfl rfl ?_
                      refine vL_l_b0 C ((llowb n (it (lswapb n b) k z1) k).toNatClampNeg) hq (by omega) dL_breaks_168 ?_
                      refine V.es (st' := [.int ((it (lswapb n b) k z1) 12 ((llowb n (it (lswapb n b) k z1) k).toNatClampNeg)), .int (2 * (llowb n (it (lswapb n b) k z1) k)), .ref (al 4)]) (by rw [su_f _ _ _ _ (by decide)]) ?_
                      refine v_aload_n C dL_breaks_169 rfl ?_
                      refine v_iconst C (3) dL_breaks_170 (by decide) ?_
                      refine v_iload C dL_breaks_171 rfl ?_
                      refine v_imul C dL_breaks_173 ?_
                      refine v_iconst C (2) dL_breaks_174 (by decide) ?_
                      refine v_iadd C dL_breaks_175 ?_
                      refine vL_l_r2 C k rfl (by omega) dL_breaks_176 ?_
                      refine V.es (st' := [.int ((it (lswapb n b) k z1) 8 k), .int ((it (lswapb n b) k z1) 12 ((llowb n (it (lswapb n b) k z1) k).toNatClampNeg)), .int (2 * (llowb n (it (lswapb n b) k z1) k)), .ref (al 4)]) (by rw [su_f _ _ _ _ (by decide)]) ?_
                      refine v_isub C dL_breaks_177 ?_
                      refine vL_s_b0 C ((llowb n (it (lswapb n b) k z1) k).toNatClampNeg) hq (by omega) dL_breaks_178 ?_
                      refine v_aload C dL_breaks_179 rfl ?_
                      refine v_iload C dL_breaks_181 rfl ?_
                      refine v_sV C (k_L_leaves l G cy al (su (su (it (lswapb n b) k z1) 10 k (llowb n (it (lswapb n b) k z1) k)) 12 ((llowb n (it (lswapb n b) k z1) k).toNatClampNeg) (((it (lswapb n b) k z1) 12 ((llowb n (it (lswapb n b) k z1) k).toNatClampNeg)) - ((it (lswapb n b) k z1) 8 k))) wr (llowb n (it (lswapb n b) k z1) k)) rfl gL_breaks_L_leaves (nA := 2) (by decide +kernel) rfl (by decide) (by decide) rfl (Nat.le_of_ble_eq_true rfl) dL_breaks_183 ?_
                      refine v_incN C dL_breaks_186 rfl (by decide) ?_
                      refine v_goto C 66 dL_breaks_189 (by decide) ?_
                      have q := ih_k hk trivial
                      have e : it (lswapb n b) (k + 1) z1 = funplug (su (su (it (lswapb n b) k z1) 10 k (llowb n (it (lswapb n b) k z1) k)) 12 ((llowb n (it (lswapb n b) k z1) k).toNatClampNeg) (((it (lswapb n b) k z1) 12 ((llowb n (it (lswapb n b) k z1) k).toNatClampNeg)) - ((it (lswapb n b) k z1) 8 k))) (llowb n (it (lswapb n b) k z1) k) := by
                        show lswapb n b k (it (lswapb n b) k z1) = funplug (su (su (it (lswapb n b) k z1) 10 k (llowb n (it (lswapb n b) k z1) k)) 12 ((llowb n (it (lswapb n b) k z1) k).toNatClampNeg) (((it (lswapb n b) k z1) 12 ((llowb n (it (lswapb n b) k z1) k).toNatClampNeg)) - ((it (lswapb n b) k z1) 8 k))) (llowb n (it (lswapb n b) k z1) k)
                        simp [lswapb, lgiveb, pif, c3, c4, c16]
                      rw [e] at q
                      exact (V.lof 9 (V.lof 10 q))
                    · -- 145 f: not ¬ (llowb n (it (lswapb n b) k z1) k) < 0
                      refine v_aload_n C dL_breaks_148 rfl ?_
                      refine v_aload_n C dL_breaks_149 rfl ?_
                      refine v_aload C dL_breaks_150 rfl ?_
                      refine v_iload C dL_breaks_152 rfl ?_
                      refine v_iconst C (4) dL_breaks_154 (by decide) ?_
                      refine v_sV C (k_L_turns l G cy al (su (it (lswapb n b) k z1) 10 k (llowb n (it (lswapb n b) k z1) k)) wr k (by omega) 4) rfl gL_breaks_L_turns (nA := 5) (by decide +kernel) rfl (by decide) (by decide) rfl (Nat.le_of_ble_eq_true rfl) dL_breaks_155 ?_
                      refine v_goto C 186 dL_breaks_158 (by decide) ?_
                      refine v_incN C dL_breaks_186 rfl (by decide) ?_
                      refine v_goto C 66 dL_breaks_189 (by decide) ?_
                      have q := ih_k hk trivial
                      have e : it (lswapb n b) (k + 1) z1 = fdrop (su (it (lswapb n b) k z1) 10 k (llowb n (it (lswapb n b) k z1) k)) k 4 := by
                        show lswapb n b k (it (lswapb n b) k z1) = fdrop (su (it (lswapb n b) k z1) 10 k (llowb n (it (lswapb n b) k z1) k)) k 4
                        simp [lswapb, lgiveb, pif, c3, c4, c16]
                      rw [e] at q
                      exact (V.lof 9 (V.lof 10 q))
  · have hk : k < n := c1
    refine v_aload_n C dL_breaks_28 rfl ?_
    refine v_iload C dL_breaks_29 rfl ?_
    refine vL_l_s C k rfl (by omega) dL_breaks_31 ?_
    refine v_iconst C (1) dL_breaks_32 (by decide) ?_
    refine v_icmp_ne C 57 dL_breaks_33 (by decide) (fun c17 => ?_) (fun c17 => ?_)
    · -- 33 t: ¬ ((it (stakeb (nI b)) k z0) 9 k) = 1
      refine v_incN C dL_breaks_57 rfl (by decide) ?_
      refine v_goto C 20 dL_breaks_60 (by decide) ?_
      have q := ih_k hk trivial
      have e : it (stakeb (nI b)) (k + 1) z0 = it (stakeb (nI b)) k z0 := by
        show stakeb (nI b) k (it (stakeb (nI b)) k z0) = it (stakeb (nI b)) k z0
        simp [stakeb, pif, c17]
      rw [e] at q
      exact q
    · -- 33 f: not ¬ ((it (stakeb (nI b)) k z0) 9 k) = 1
      refine v_aload_n C dL_breaks_36 rfl ?_
      refine v_iload C dL_breaks_37 rfl ?_
      refine vL_l_w C k rfl (by omega) dL_breaks_39 ?_
      refine v_iload C dL_breaks_40 rfl ?_
      refine v_iconst C (1) dL_breaks_42 (by decide) ?_
      refine v_iadd C dL_breaks_43 ?_
      refine v_icmp_ne C 57 dL_breaks_44 (by decide) (fun c18 => ?_) (fun c18 => ?_)
      · -- 44 t: ¬ ((it (stakeb (nI b)) k z0) 10 k + 1) = ((nI b) + 1)
        replace c18 := mt p1_iff.mpr c18
        refine v_incN C dL_breaks_57 rfl (by decide) ?_
        refine v_goto C 20 dL_breaks_60 (by decide) ?_
        have q := ih_k hk trivial
        have e : it (stakeb (nI b)) (k + 1) z0 = it (stakeb (nI b)) k z0 := by
          show stakeb (nI b) k (it (stakeb (nI b)) k z0) = it (stakeb (nI b)) k z0
          simp [stakeb, pif, c17, c18]
        rw [e] at q
        exact q
      · -- 44 f: not ¬ ((it (stakeb (nI b)) k z0) 10 k + 1) = ((nI b) + 1)
        replace c18 := p1_iff.mp c18
        refine v_aload_n C dL_breaks_47 rfl ?_
        refine v_aload_n C dL_breaks_48 rfl ?_
        refine v_aload C dL_breaks_49 rfl ?_
        refine v_iload C dL_breaks_51 rfl ?_
        refine v_iconst C (0) dL_breaks_53 (by decide) ?_
        refine v_sV C (k_L_turns l G cy al (it (stakeb (nI b)) k z0) wr k (by omega) 0) rfl gL_breaks_L_turns (nA := 5) (by decide +kernel) rfl (by decide) (by decide) rfl (Nat.le_of_ble_eq_true rfl) dL_breaks_54 ?_
        refine v_incN C dL_breaks_57 rfl (by decide) ?_
        refine v_goto C 20 dL_breaks_60 (by decide) ?_
        have q := ih_k hk trivial
        have e : it (stakeb (nI b)) (k + 1) z0 = fdrop (it (stakeb (nI b)) k z0) k 0 := by
          show stakeb (nI b) k (it (stakeb (nI b)) k z0) = fdrop (it (stakeb (nI b)) k z0) k 0
          simp [stakeb, pif, c17, c18]
        rw [e] at q
        exact q
set_option maxHeartbeats 4000000 in
set_option maxRecDepth 100000 in
/-- ails -/
theorem k_L_ails (l : Launch) (G : va_G) (cy : Nat → ClassId) (al : Nat → Nat) (x : Sg) (wr : va_W) (n : Nat) (hn : x 1 0 = nI n) (h20 : n ≤ 20) (d : Nat) (hd5 : d < 5) : KV l G cy yL_ails wsL_ails 2 60 0 0 [.ref (al 9), .ref (al 0), .ref (al 1), .ref (al 2), .ref (al 3), .ref (al 5), .int (nI d)] (wL cy al x wr) (wL cy al (lails n x d) wr) := by
  refine KV_of (own := RL) (cc := cL_ails) (maxL := 10) (ret := none) (lo0 := [some (.ref (al 9)), some (.ref (al 0)), some (.ref (al 1)), some (.ref (al 2)), some (.ref (al 3)), some (.ref (al 5)), some (.int (nI d)), none, none, none]) (by decide) rfl rfl (by simp [Value.category]) (Nat.le_of_ble_eq_true rfl) rfl (fun p e s m args below meth c A _ C => ?_)
  refine v_aload C dL_ails_0 rfl ?_
  refine v_iload C dL_ails_2 rfl ?_
  refine v_iconst C (1) dL_ails_4 (by decide) ?_
  refine vL_s_i C d rfl (by omega) dL_ails_5 ?_
  obtain ⟨z0, hz0⟩ : ∃ z0 : Sg, z0 = su x 14 d 1 := ⟨_, rfl⟩
  rw [← hz0]
  have hn_z0 : z0 1 0 = nI n := by rw [hz0, su_f _ _ _ _ (by decide)]; exact hn
  refine v_iconst C (0) dL_ails_6 (by decide) ?_
  refine v_istore C dL_ails_7 (by decide) ?_
  refine V.loop (fun k : Nat => wL cy al (it (staked (nI d)) k z0) wr) (fun k : Nat => ([some (.ref (al 9)), some (.ref (al 0)), some (.ref (al 1)), some (.ref (al 2)), some (.ref (al 3)), some (.ref (al 5)), some (.int (nI d)), some (.int (nI k)), none, none] : List (Option Value))) (fun k : Nat => True) n ?_ trivial
  intro k hle_k hP_k ih_k
  try dsimp only at hP_k ih_k ⊢
  have hn_k : it (staked (nI d)) k z0 1 0 = nI n := (it_f (fun c y => staked_f (nI d) c y (by decide) (by decide) (by decide)) k z0).trans hn_z0
  refine v_iload C dL_ails_9 rfl ?_
  refine v_aload_n C dL_ails_11 rfl ?_
  refine v_iconst C (1) dL_ails_12 (by decide) ?_
  refine vL_l_n1 C dL_ails_13 ?_
  refine v_geN C k n 53 dL_ails_14 (by decide) rfl hn_k (by omega) (by omega) (fun c1 => ?_) (fun c1 => ?_)
  · -- loop 9 is over
    have e_k : n = k := by omega
    subst e_k
    obtain ⟨z1, hz1⟩ : ∃ z1 : Sg, z1 = it (staked (nI d)) n z0 := ⟨_, rfl⟩
    rw [← hz1]
    have hn_z1 : z1 1 0 = nI n := by rw [hz1, it_f (fun c y => staked_f (nI d) c y (by decide) (by decide) (by decide))]; exact hn_z0
    refine v_iconst C (0) dL_ails_53 (by decide) ?_
    refine v_istore C dL_ails_54 (by decide) ?_
    refine V.loop (fun k : Nat => wL cy al (it (lswapd n d) k z1) wr) (fun k : Nat => ([some (.ref (al 9)), some (.ref (al 0)), some (.ref (al 1)), some (.ref (al 2)), some (.ref (al 3)), some (.ref (al 5)), some (.int (nI d)), some (.int (nI k)), none, none] : List (Option Value))) (fun k : Nat => True) n ?_ trivial
    intro k hle_k hP_k ih_k
    try dsimp only at hP_k ih_k ⊢
    have hn_k : it (lswapd n d) k z1 1 0 = nI n := (it_f (fun c y => lswapd_f n d c y (by decide) (by decide) (by decide)) k z1).trans hn_z1
    refine v_iload C dL_ails_56 rfl ?_
    refine v_aload_n C dL_ails_58 rfl ?_
    refine v_iconst C (1) dL_ails_59 (by decide) ?_
    refine vL_l_n1 C dL_ails_60 ?_
    refine v_geN C k n 157 dL_ails_61 (by decide) rfl hn_k (by omega) (by omega) (fun c2 => ?_) (fun c2 => ?_)
    · -- loop 56 is over
      have e_k : n = k := by omega
      subst e_k
      have e : lails n x d = it (lswapd n d) n z1 := by rw [hz1, hz0]; rfl
      rw [e]
      exact v_vret C dL_ails_157
    · have hk : k < n := c2
      refine v_aload_n C dL_ails_64 rfl ?_
      refine v_iload C dL_ails_65 rfl ?_
      refine vL_l_s C k rfl (by omega) dL_ails_67 ?_
      refine v_iconst C (2) dL_ails_68 (by decide) ?_
      refine v_icmp_ne C 151 dL_ails_69 (by decide) (fun c3 => ?_) (fun c3 => ?_)
      · -- 69 t: ¬ ((it (lswapd n d) k z1) 9 k) = 2
        refine v_incN C dL_ails_151 rfl (by decide) ?_
        refine v_goto C 56 dL_ails_154 (by decide) ?_
        have q := ih_k hk trivial
        have e : it (lswapd n d) (k + 1) z1 = it (lswapd n d) k z1 := by
          show lswapd n d k (it (lswapd n d) k z1) = it (lswapd n d) k z1
          simp [lswapd, lgived, pif, c3]
        rw [e] at q
        exact (V.lof 8 (V.lof 9 q))
      · -- 69 f: not ¬ ((it (lswapd n d) k z1) 9 k) = 2
        refine v_aload C dL_ails_72 rfl ?_
        refine v_iload C dL_ails_74 rfl ?_
        refine vL_l_d C k rfl (by omega) dL_ails_76 ?_
        refine v_iload C dL_ails_77 rfl ?_
        refine v_iconst C (1) dL_ails_79 (by decide) ?_
        refine v_iadd C dL_ails_80 ?_
        refine v_icmp_ne C 151 dL_ails_81 (by decide) (fun c4 => ?_) (fun c4 => ?_)
        · -- 81 t: ¬ ((it (lswapd n d) k z1) 11 k + 1) = ((nI d) + 1)
          replace c4 := mt p1_iff.mpr c4
          refine v_incN C dL_ails_151 rfl (by decide) ?_
          refine v_goto C 56 dL_ails_154 (by decide) ?_
          have q := ih_k hk trivial
          have e : it (lswapd n d) (k + 1) z1 = it (lswapd n d) k z1 := by
            show lswapd n d k (it (lswapd n d) k z1) = it (lswapd n d) k z1
            simp [lswapd, lgived, pif, c3, c4]
          rw [e] at q
          exact (V.lof 8 (V.lof 9 q))
        · -- 81 f: not ¬ ((it (lswapd n d) k z1) 11 k + 1) = ((nI d) + 1)
          replace c4 := p1_iff.mp c4
          refine v_iconst C (-1) dL_ails_84 (by decide) ?_
          refine v_istore C dL_ails_85 (by decide) ?_
          refine v_iconst C (4) dL_ails_87 (by decide) ?_
          refine v_istore C dL_ails_88 (by decide) ?_
          refine v_iload C dL_ails_90 rfl ?_
          refine v_if_lt C 127 dL_ails_92 (by decide) (fun z => absurd z (by decide)) (fun z => ?_)
          refine V.join (wL cy al (it (lswapd n d) k z1) wr) 119 (fun _ => ([some (.ref (al 9)), some (.ref (al 0)), some (.ref (al 1)), some (.ref (al 2)), some (.ref (al 3)), some (.ref (al 5)), some (.int (nI d)), some (.int (nI k)), some (.int (-1)), some (.int 4)] : List (Option Value))) (fun v => (.int v :: [] : List Value)) (pif (ldf n (it (lswapd n d) k z1) 4 k) (4) (-1)) (fun J1 => ?_) ?_
          · -- up to the join
            refine v_aload_n C dL_ails_95 rfl ?_
            refine v_aload_n C dL_ails_96 rfl ?_
            refine v_aload_n C dL_ails_97 rfl ?_
            refine v_aload C dL_ails_98 rfl ?_
            refine v_aload C dL_ails_100 rfl ?_
            refine v_iload C dL_ails_102 rfl ?_
            refine v_iload C dL_ails_104 rfl ?_
            refine v_sI C (k_L_fitsDriver l G cy al (it (lswapd n d) k z1) wr n hn_k h20 4 (by omega) k (by omega)) rfl gL_ails_L_fitsDriver (nA := 7) (by decide +kernel) rfl (by decide) (by decide) rfl (Nat.le_of_ble_eq_true rfl) dL_ails_106 ?_
            refine v_if_eq C 117 dL_ails_109 (by decide) (fun c6 => ?_) (fun c6 => ?_)
            · -- 109 t: (b2i (ldf n (it (lswapd n d) k z1) 4 k)) = 0
              replace c6 := b2i_0.mp c6
              refine v_iload C dL_ails_117 rfl ?_
              refine J1 _ ?_
              exact (pif_f c6).symm
            · -- 109 f: not (b2i (ldf n (it (lswapd n d) k z1) 4 k)) = 0
              replace c6 := Classical.not_not.mp (fun z => c6 (b2i_0.mpr z))
              refine v_iload C dL_ails_112 rfl ?_
              refine v_goto C 119 dL_ails_114 (by decide) ?_
              refine J1 _ ?_
              exact (pif_t c6).symm
          · -- behind the join
            refine v_istore C dL_ails_119 (by decide) ?_
            refine v_iinc C (3) dL_ails_121 rfl (by decide) (by decide) ?_
            refine v_goto C 90 dL_ails_124 (by decide) ?_
            refine v_iload C dL_ails_90 rfl ?_
            refine v_if_lt C 127 dL_ails_92 (by decide) (fun z => absurd z (by decide)) (fun z => ?_)
            refine V.join (wL cy al (it (lswapd n d) k z1) wr) 119 (fun _ => ([some (.ref (al 9)), some (.ref (al 0)), some (.ref (al 1)), some (.ref (al 2)), some (.ref (al 3)), some (.ref (al 5)), some (.int (nI d)), some (.int (nI k)), some (.int (pif (ldf n (it (lswapd n d) k z1) 4 k) (4) (-1))), some (.int 3)] : List (Option Value))) (fun v => (.int v :: [] : List Value)) (pif (ldf n (it (lswapd n d) k z1) 3 k) (3) (pif (ldf n (it (lswapd n d) k z1) 4 k) (4) (-1))) (fun J2 => ?_) ?_
            · -- up to the join
              refine v_aload_n C dL_ails_95 rfl ?_
              refine v_aload_n C dL_ails_96 rfl ?_
              refine v_aload_n C dL_ails_97 rfl ?_
              refine v_aload C dL_ails_98 rfl ?_
              refine v_aload C dL_ails_100 rfl ?_
              refine v_iload C dL_ails_102 rfl ?_
              refine v_iload C dL_ails_104 rfl ?_
              refine v_sI C (k_L_fitsDriver l G cy al (it (lswapd n d) k z1) wr n hn_k h20 3 (by omega) k (by omega)) rfl gL_ails_L_fitsDriver (nA := 7) (by decide +kernel) rfl (by decide) (by decide) rfl (Nat.le_of_ble_eq_true rfl) dL_ails_106 ?_
              refine v_if_eq C 117 dL_ails_109 (by decide) (fun c8 => ?_) (fun c8 => ?_)
              · -- 109 t: (b2i (ldf n (it (lswapd n d) k z1) 3 k)) = 0
                replace c8 := b2i_0.mp c8
                refine v_iload C dL_ails_117 rfl ?_
                refine J2 _ ?_
                exact (pif_f c8).symm
              · -- 109 f: not (b2i (ldf n (it (lswapd n d) k z1) 3 k)) = 0
                replace c8 := Classical.not_not.mp (fun z => c8 (b2i_0.mpr z))
                refine v_iload C dL_ails_112 rfl ?_
                refine v_goto C 119 dL_ails_114 (by decide) ?_
                refine J2 _ ?_
                exact (pif_t c8).symm
            · -- behind the join
              refine v_istore C dL_ails_119 (by decide) ?_
              refine v_iinc C (2) dL_ails_121 rfl (by decide) (by decide) ?_
              refine v_goto C 90 dL_ails_124 (by decide) ?_
              refine v_iload C dL_ails_90 rfl ?_
              refine v_if_lt C 127 dL_ails_92 (by decide) (fun z => absurd z (by decide)) (fun z => ?_)
              refine V.join (wL cy al (it (lswapd n d) k z1) wr) 119 (fun _ => ([some (.ref (al 9)), some (.ref (al 0)), some (.ref (al 1)), some (.ref (al 2)), some (.ref (al 3)), some (.ref (al 5)), some (.int (nI d)), some (.int (nI k)), some (.int (pif (ldf n (it (lswapd n d) k z1) 3 k) (3) (pif (ldf n (it (lswapd n d) k z1) 4 k) (4) (-1)))), some (.int 2)] : List (Option Value))) (fun v => (.int v :: [] : List Value)) (pif (ldf n (it (lswapd n d) k z1) 2 k) (2) (pif (ldf n (it (lswapd n d) k z1) 3 k) (3) (pif (ldf n (it (lswapd n d) k z1) 4 k) (4) (-1)))) (fun J3 => ?_) ?_
              · -- up to the join
                refine v_aload_n C dL_ails_95 rfl ?_
                refine v_aload_n C dL_ails_96 rfl ?_
                refine v_aload_n C dL_ails_97 rfl ?_
                refine v_aload C dL_ails_98 rfl ?_
                refine v_aload C dL_ails_100 rfl ?_
                refine v_iload C dL_ails_102 rfl ?_
                refine v_iload C dL_ails_104 rfl ?_
                refine v_sI C (k_L_fitsDriver l G cy al (it (lswapd n d) k z1) wr n hn_k h20 2 (by omega) k (by omega)) rfl gL_ails_L_fitsDriver (nA := 7) (by decide +kernel) rfl (by decide) (by decide) rfl (Nat.le_of_ble_eq_true rfl) dL_ails_106 ?_
                refine v_if_eq C 117 dL_ails_109 (by decide) (fun c10 => ?_) (fun c10 => ?_)
                · -- 109 t: (b2i (ldf n (it (lswapd n d) k z1) 2 k)) = 0
                  replace c10 := b2i_0.mp c10
                  refine v_iload C dL_ails_117 rfl ?_
                  refine J3 _ ?_
                  exact (pif_f c10).symm
                · -- 109 f: not (b2i (ldf n (it (lswapd n d) k z1) 2 k)) = 0
                  replace c10 := Classical.not_not.mp (fun z => c10 (b2i_0.mpr z))
                  refine v_iload C dL_ails_112 rfl ?_
                  refine v_goto C 119 dL_ails_114 (by decide) ?_
                  refine J3 _ ?_
                  exact (pif_t c10).symm
              · -- behind the join
                refine v_istore C dL_ails_119 (by decide) ?_
                refine v_iinc C (1) dL_ails_121 rfl (by decide) (by decide) ?_
                refine v_goto C 90 dL_ails_124 (by decide) ?_
                refine v_iload C dL_ails_90 rfl ?_
                refine v_if_lt C 127 dL_ails_92 (by decide) (fun z => absurd z (by decide)) (fun z => ?_)
                refine V.join (wL cy al (it (lswapd n d) k z1) wr) 119 (fun _ => ([some (.ref (al 9)), some (.ref (al 0)), some (.ref (al 1)), some (.ref (al 2)), some (.ref (al 3)), some (.ref (al 5)), some (.int (nI d)), some (.int (nI k)), some (.int (pif (ldf n (it (lswapd n d) k z1) 2 k) (2) (pif (ldf n (it (lswapd n d) k z1) 3 k) (3) (pif (ldf n (it (lswapd n d) k z1) 4 k) (4) (-1))))), some (.int 1)] : List (Option Value))) (fun v => (.int v :: [] : List Value)) (pif (ldf n (it (lswapd n d) k z1) 1 k) (1) (pif (ldf n (it (lswapd n d) k z1) 2 k) (2) (pif (ldf n (it (lswapd n d) k z1) 3 k) (3) (pif (ldf n (it (lswapd n d) k z1) 4 k) (4) (-1))))) (fun J4 => ?_) ?_
                · -- up to the join
                  refine v_aload_n C dL_ails_95 rfl ?_
                  refine v_aload_n C dL_ails_96 rfl ?_
                  refine v_aload_n C dL_ails_97 rfl ?_
                  refine v_aload C dL_ails_98 rfl ?_
                  refine v_aload C dL_ails_100 rfl ?_
                  refine v_iload C dL_ails_102 rfl ?_
                  refine v_iload C dL_ails_104 rfl ?_
                  refine v_sI C (k_L_fitsDriver l G cy al (it (lswapd n d) k z1) wr n hn_k h20 1 (by omega) k (by omega)) rfl gL_ails_L_fitsDriver (nA := 7) (by decide +kernel) rfl (by decide) (by decide) rfl (Nat.le_of_ble_eq_true rfl) dL_ails_106 ?_
                  refine v_if_eq C 117 dL_ails_109 (by decide) (fun c12 => ?_) (fun c12 => ?_)
                  · -- 109 t: (b2i (ldf n (it (lswapd n d) k z1) 1 k)) = 0
                    replace c12 := b2i_0.mp c12
                    refine v_iload C dL_ails_117 rfl ?_
                    refine J4 _ ?_
                    exact (pif_f c12).symm
                  · -- 109 f: not (b2i (ldf n (it (lswapd n d) k z1) 1 k)) = 0
                    replace c12 := Classical.not_not.mp (fun z => c12 (b2i_0.mpr z))
                    refine v_iload C dL_ails_112 rfl ?_
                    refine v_goto C 119 dL_ails_114 (by decide) ?_
                    refine J4 _ ?_
                    exact (pif_t c12).symm
                · -- behind the join
                  refine v_istore C dL_ails_119 (by decide) ?_
                  refine v_iinc C (0) dL_ails_121 rfl (by decide) (by decide) ?_
                  refine v_goto C 90 dL_ails_124 (by decide) ?_
                  refine v_iload C dL_ails_90 rfl ?_
                  refine v_if_lt C 127 dL_ails_92 (by decide) (fun z => absurd z (by decide)) (fun z => ?_)
                  refine V.join (wL cy al (it (lswapd n d) k z1) wr) 119 (fun _ => ([some (.ref (al 9)), some (.ref (al 0)), some (.ref (al 1)), some (.ref (al 2)), some (.ref (al 3)), some (.ref (al 5)), some (.int (nI d)), some (.int (nI k)), some (.int (pif (ldf n (it (lswapd n d) k z1) 1 k) (1) (pif (ldf n (it (lswapd n d) k z1) 2 k) (2) (pif (ldf n (it (lswapd n d) k z1) 3 k) (3) (pif (ldf n (it (lswapd n d) k z1) 4 k) (4) (-1)))))), some (.int 0)] : List (Option Value))) (fun v => (.int v :: [] : List Value)) (pif (ldf n (it (lswapd n d) k z1) 0 k) (0) (pif (ldf n (it (lswapd n d) k z1) 1 k) (1) (pif (ldf n (it (lswapd n d) k z1) 2 k) (2) (pif (ldf n (it (lswapd n d) k z1) 3 k) (3) (pif (ldf n (it (lswapd n d) k z1) 4 k) (4) (-1)))))) (fun J5 => ?_) ?_
                  · -- up to the join
                    refine v_aload_n C dL_ails_95 rfl ?_
                    refine v_aload_n C dL_ails_96 rfl ?_
                    refine v_aload_n C dL_ails_97 rfl ?_
                    refine v_aload C dL_ails_98 rfl ?_
                    refine v_aload C dL_ails_100 rfl ?_
                    refine v_iload C dL_ails_102 rfl ?_
                    refine v_iload C dL_ails_104 rfl ?_
                    refine v_sI C (k_L_fitsDriver l G cy al (it (lswapd n d) k z1) wr n hn_k h20 0 (by omega) k (by omega)) rfl gL_ails_L_fitsDriver (nA := 7) (by decide +kernel) rfl (by decide) (by decide) rfl (Nat.le_of_ble_eq_true rfl) dL_ails_106 ?_
                    refine v_if_eq C 117 dL_ails_109 (by decide) (fun c14 => ?_) (fun c14 => ?_)
                    · -- 109 t: (b2i (ldf n (it (lswapd n d) k z1) 0 k)) = 0
                      replace c14 := b2i_0.mp c14
                      refine v_iload C dL_ails_117 rfl ?_
                      refine J5 _ ?_
                      exact (pif_f c14).symm
                    · -- 109 f: not (b2i (ldf n (it (lswapd n d) k z1) 0 k)) = 0
                      replace c14 := Classical.not_not.mp (fun z => c14 (b2i_0.mpr z))
                      refine v_iload C dL_ails_112 rfl ?_
                      refine v_goto C 119 dL_ails_114 (by decide) ?_
                      refine J5 _ ?_
                      exact (pif_t c14).symm
                  · -- behind the join
                    refine v_istore C dL_ails_119 (by decide) ?_
                    refine v_iinc C (-1) dL_ails_121 rfl (by decide) (by decide) ?_
                    refine v_goto C 90 dL_ails_124 (by decide) ?_
                    refine v_iload C dL_ails_90 rfl ?_
                    refine v_if_lt C 127 dL_ails_92 (by decide) (fun z => ?_) (fun z => absurd z (by decide))
                    refine V.el (lo' := [some (.ref (al 9)), some (.ref (al 0)), some (.ref (al 1)), some (.ref (al 2)), some (.ref (al 3)), some (.ref (al 5)), some (.int (nI d)), some (.int (nI k)), some (.int (llowd n (it (lswapd n d) k z1) k)), some (.int (-1))]) rfl ?_
                    refine v_aload C dL_ails_127 rfl ?_
                    refine v_iload C dL_ails_129 rfl ?_
                    refine v_iload C dL_ails_131 rfl ?_
                    refine v_iconst C (1) dL_ails_133 (by decide) ?_
                    refine v_iadd C dL_ails_134 ?_
                    refine vL_s_d C k rfl (by omega) (v := llowd n (it (lswapd n d) k z1) k) rfl dL_ails_135 ?_
                    refine v_iload C dL_ails_136 rfl ?_
                    refine v_if_ge C 151 dL_ails_138 (by decide) (fun c16 => ?_) (fun c16 => ?_)
                    · -- 138 t: ¬ (llowd n (it (lswapd n d) k z1) k) < 0
                      refine v_incN C dL_ails_151 rfl (by decide) ?_
                      refine v_goto C 56 dL_ails_154 (by decide) ?_
                      have q := ih_k hk trivial
                      have e : it (lswapd n d) (k + 1) z1 = su (it (lswapd n d) k z1) 11 k (llowd n (it (lswapd n d) k z1) k) := by
                        show lswapd n d k (it (lswapd n d) k z1) = su (it (lswapd n d) k z1) 11 k (llowd n (it (lswapd n d) k z1) k)
                        simp [lswapd, lgived, pif, c3, c4, c16]
                      rw [e] at q
                      exact (V.lof 8 (V.lof 9 q))
                    · -- 138 f: not ¬ (llowd n (it (lswapd n d) k z1) k) < 0
                      refine v_aload_n C dL_ails_141 rfl ?_
                      refine v_aload_n C dL_ails_142 rfl ?_
                      refine v_aload C dL_ails_143 rfl ?_
                      refine v_iload C dL_ails_145 rfl ?_
                      refine v_iconst C (4) dL_ails_147 (by decide) ?_
                      refine v_sV C (k_L_turns l G cy al (su (it (lswapd n d) k z1) 11 k (llowd n (it (lswapd n d) k z1) k)) wr k (by omega) 4) rfl gL_ails_L_turns (nA := 5) (by decide +kernel) rfl (by decide) (by decide) rfl (Nat.le_of_ble_eq_true rfl) dL_ails_148 ?_
                      refine v_incN C dL_ails_151 rfl (by decide) ?_
                      refine v_goto C 56 dL_ails_154 (by decide) ?_
                      have q := ih_k hk trivial
                      have e : it (lswapd n d) (k + 1) z1 = fdrop (su (it (lswapd n d) k z1) 11 k (llowd n (it (lswapd n d) k z1) k)) k 4 := by
                        show lswapd n d k (it (lswapd n d) k z1) = fdrop (su (it (lswapd n d) k z1) 11 k (llowd n (it (lswapd n d) k z1) k)) k 4
                        simp [lswapd, lgived, pif, c3, c4, c16]
                      rw [e] at q
                      exact (V.lof 8 (V.lof 9 q))
  · have hk : k < n := c1
    refine v_aload_n C dL_ails_17 rfl ?_
    refine v_iload C dL_ails_18 rfl ?_
    refine vL_l_s C k rfl (by omega) dL_ails_20 ?_
    refine v_iconst C (1) dL_ails_21 (by decide) ?_
    refine v_icmp_ne C 47 dL_ails_22 (by decide) (fun c17 => ?_) (fun c17 => ?_)
    · -- 22 t: ¬ ((it (staked (nI d)) k z0) 9 k) = 1
      refine v_incN C dL_ails_47 rfl (by decide) ?_
      refine v_goto C 9 dL_ails_50 (by decide) ?_
      have q := ih_k hk trivial
      have e : it (staked (nI d)) (k + 1) z0 = it (staked (nI d)) k z0 := by
        show staked (nI d) k (it (staked (nI d)) k z0) = it (staked (nI d)) k z0
        simp [staked, pif, c17]
      rw [e] at q
      exact q
    · -- 22 f: not ¬ ((it (staked (nI d)) k z0) 9 k) = 1
      refine v_aload C dL_ails_25 rfl ?_
      refine v_iload C dL_ails_27 rfl ?_
      refine vL_l_d C k rfl (by omega) dL_ails_29 ?_
      refine v_iload C dL_ails_30 rfl ?_
      refine v_iconst C (1) dL_ails_32 (by decide) ?_
      refine v_iadd C dL_ails_33 ?_
      refine v_icmp_ne C 47 dL_ails_34 (by decide) (fun c18 => ?_) (fun c18 => ?_)
      · -- 34 t: ¬ ((it (staked (nI d)) k z0) 11 k + 1) = ((nI d) + 1)
        replace c18 := mt p1_iff.mpr c18
        refine v_incN C dL_ails_47 rfl (by decide) ?_
        refine v_goto C 9 dL_ails_50 (by decide) ?_
        have q := ih_k hk trivial
        have e : it (staked (nI d)) (k + 1) z0 = it (staked (nI d)) k z0 := by
          show staked (nI d) k (it (staked (nI d)) k z0) = it (staked (nI d)) k z0
          simp [staked, pif, c17, c18]
        rw [e] at q
        exact q
      · -- 34 f: not ¬ ((it (staked (nI d)) k z0) 11 k + 1) = ((nI d) + 1)
        replace c18 := p1_iff.mp c18
        refine v_aload_n C dL_ails_37 rfl ?_
        refine v_aload_n C dL_ails_38 rfl ?_
        refine v_aload C dL_ails_39 rfl ?_
        refine v_iload C dL_ails_41 rfl ?_
        refine v_iconst C (0) dL_ails_43 (by decide) ?_
        refine v_sV C (k_L_turns l G cy al (it (staked (nI d)) k z0) wr k (by omega) 0) rfl gL_ails_L_turns (nA := 5) (by decide +kernel) rfl (by decide) (by decide) rfl (Nat.le_of_ble_eq_true rfl) dL_ails_44 ?_
        refine v_incN C dL_ails_47 rfl (by decide) ?_
        refine v_goto C 9 dL_ails_50 (by decide) ?_
        have q := ih_k hk trivial
        have e : it (staked (nI d)) (k + 1) z0 = fdrop (it (staked (nI d)) k z0) k 0 := by
          show staked (nI d) k (it (staked (nI d)) k z0) = fdrop (it (staked (nI d)) k z0) k 0
          simp [staked, pif, c17, c18]
        rw [e] at q
        exact q
end
