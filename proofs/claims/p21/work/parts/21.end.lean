/-! THE CLAIM OUT OF ONE WALK OF THE LAW'S BODY. Your part is whole_start (and what it stands on); all else here is the same for every law, but numbers. -/
def R_law : String := "DepotLogLaw"
def lw_P (b : Addr) (xs : List Int32) (args : Array Value) (s : State) : Prop := args = #[.ref b] ∧ s.IntsAt b xs ∧ xs.length ≤ 260 ∧ (Jvm.Cond.and given_1 narrow_1).before args s = true
def lw_Q (_ : Array Value) (s : State) (o : Outcome) (t : State) : Prop := o = .returned (some (.int 1)) ∧ Framed s o t [] 600086 7301441
def lw_Z (below : List Frame) (a : Array Value) (s : State) : State → Prop := fun t => ∃ o, t.status = .running ∧ Ended t below o ∧ lw_Q a s o t
/-- the law's own end, with 1 on the stack, nothing written that was there before, its room as the claim has it -/
theorem lw_ret {p : Program} {l : Launch} {e : Env} {s : State} {m : MethodId} {below : List Frame} {meth : Method} {c : Code} {b : Nat} (hx : p.tables.exec = Jvm.exec) (hb : c.code = code) (hr : meth.sig.returnType = ret) (hlocks : meth.locks = false) {pc : Nat} {H : Heap} {ls : Array Slot} (hdg : decode code pc = .ok (.ireturn, 1)) : W p l e room_1 s m #[Value.ref b] below meth c H [] 600086 7301441 (lw_Z below #[Value.ref b] s) (F0 m pc ls [.int 1]) := by
  intro T hT X
  obtain ⟨fs, hret, hrun, hended, hW, hframe⟩ := X.leave (v := some (.int 1)) (hlocks := hlocks) (fun h => by rw [hr] at h; cases h)
  have hmeth' : T.vm.method? m = some meth := X.method'
  refine ⟨T.setFrames fs, ?_, .returned (some (.int 1)), hrun, hended, rfl, ⟨_, rfl⟩, hW, hframe⟩
  jvm_step X.here [X.here.top, hx, hb, hdg, hmeth', hr, ret, narrow_b1]
  (try refine ⟨rfl, ?_⟩); (try refine ⟨rfl, ?_⟩)
  first | (intro acts; rw [hret _ acts rfl rfl rfl]) | rw [hret _ _ rfl rfl rfl]
  exact Steps.refl _
/-- what holds at the law's entry: the machine, the code, the tables' words (any of lw_tbl by 'hts w (by decide +kernel)'), the script of L ints xs at the cell b, what the Statement gives of the start (any of its parts by flat_of_before) -/
def lw_At (p : Program) (s : State) (m : MethodId) (meth : Method) (c : Code) (b L : Nat) (xs : Nat → Int32) : Prop :=
  p.tables.exec = Jvm.exec ∧ c.code = code ∧ meth.sig.returnType = ret ∧ c.maxLocals = 25 ∧ s.vm.findClass R_law = some m.cls ∧ (∀ w ∈ lw_tbl, w.before #[Value.ref b] s = true) ∧ va_X b L xs s s.heap ∧ b < s.heap.size ∧ meth.locks = false ∧ (Jvm.Cond.and given_1 narrow_1).before #[Value.ref b] s = true
set_option maxHeartbeats 4000000 in
set_option maxRecDepth 100000 in
theorem whole_start {p : Program} {e : Env} {s : State} {m : MethodId} {below : List Frame} {meth : Method} {c : Code} (l : Launch) (hflags : l.flags = flags0) {b L : Nat} {xs : Nat → Int32} (hL : L ≤ 260) (C0 : lw_At p s m meth c b L xs) : W p l e room_1 s m #[Value.ref b] below meth c s.heap [] 0 0 (lw_Z below #[Value.ref b] s) (entryFrame m ([Value.ref b] : List Value).toArray 25) := by
  obtain ⟨hx, hb, hr, hml, hown, hts0, hXs, hbl, hlocks, hgv⟩ := id C0
  have hts : ∀ w ∈ wsL_law, w.before #[Value.ref b] s = true := fun w h => hts0 w (wsL_law_in w h)
  have hq := flat_of_before _ hgv
  have hlt : l.stackTraces = false := by unfold Launch.stackTraces; rw [hflags]; decide +kernel
  obtain ⟨c0, iS0, hKn0⟩ := u_known (C := RX0) (T := TX0) (N := 6) (n := 6) hts0 inX0 (hts0 (.instantiable RX0 6) (by decide +kernel))
  obtain ⟨c1, iS1, hKn1⟩ := u_known (C := RX1) (T := TX1) (N := 12) (n := 12) hts0 inX1 (hts0 (.instantiable RX1 12) (by decide +kernel))
  obtain ⟨a0, ak0, ac0, af0, ag0, ah0⟩ := Cond.arrayClass_spec (hts0 (.arrayClass .int) (by decide +kernel))
  obtain ⟨a1, ak1, ac1, af1, ag1, ah1⟩ := Cond.arrayClass_spec (hts0 (.arrayClass .boolean) (by decide +kernel))
  have hover : (Cond.arrayOver (.object "DepotLog$Run")).before #[Value.ref b] s = true := hts0 _ (by decide +kernel)
  obtain ⟨ac2, a2, ak2, ae2, -, ag2, ah2, af2⟩ := Cond.arrayOver_spec hover
  have hE : vE s := ⟨va_AO.of hover, va_Nw.of rfl (hts0 (.methodLinkNest RX1 51 yX0_init "DepotLog") (by decide +kernel))⟩
  obtain ⟨G, hG⟩ : ∃ G : va_G, G = (fun k => if k = 0 then c0 else c1, fun k => if k = 0 then iS0 else iS1) := ⟨_, rfl⟩
  obtain ⟨cy, hcy⟩ : ∃ cy : Nat → ClassId, cy = fun k => if k = 0 then a0 else if k = 1 then a1 else a2 := ⟨_, rfl⟩
  have hK : va_K G vwCl (tyL cy) s := by
    refine ⟨fun k q h => ?_, fun k q h => ?_⟩
    · rw [hG]
      match k, h with
      | 0, h => cases h; exact hKn0
      | 1, h => cases h; exact hKn1
      | k + 2, h => simp [vwCl] at h
    · rw [hcy] at h
      match k, h with
      | 0, h => cases h; exact ⟨fun N z => ⟨fun k h => (by cases h), ak0, ag0, ac0, ah0⟩, af0⟩
      | 1, h => cases h; exact ⟨fun N z => ⟨fun k h => (by cases h), ak1, ag1, ac1, ah1⟩, af1⟩
      | 2, h => cases h; exact ⟨fun N z => ⟨fun k h => (by cases h), ak2, ag2, ac2, ah2⟩, ak2, ac2, ag2, ah2, ae2, af2⟩
      | k + 3, h => simp [tyL] at h
  obtain ⟨A, hAd⟩ : ∃ A : Nat → Prop, A = fun q => s.heap.size ≤ q := ⟨_, rfl⟩
  have hA : ∀ q : Nat, s.heap.size ≤ q → A q := fun q h => by rw [hAd]; exact h
  have hAn : ∀ q : Nat, A q → s.heap.size ≤ q := fun q h => by rw [hAd] at h; exact h
  have hbA : ¬ A b := fun h => absurd (hAn b h) (Nat.not_le.mpr hbl)
  have hold : ∀ a : Nat, a < s.heap.size → ¬ A a := fun a ha h => absurd (hAn a h) (Nat.not_le.mpr ha)
  have hstr : ∀ q ∈ xStr, ∃ sa, vk_R RX1 q.1 q.2 sa s := by
    have one : ∀ (k : Nat) (tx : String), (Cond.stringRef RX1 k tx).before #[Value.ref b] s = true → (Cond.exactly (.string RX1 k) "java/lang/String").before #[Value.ref b] s = true → ∃ sa, vk_R RX1 k tx sa s := fun k tx h1 h2 => by
      obtain ⟨a, -, -, -, h3, -⟩ := Cond.exactly_spec h2
      exact ⟨a, vk_R.of h1 h3⟩
    intro q hq2
    simp only [xStr, List.mem_cons, List.not_mem_nil, or_false] at hq2
    rcases hq2 with rfl | rfl | rfl | rfl | rfl | rfl
    · exact one _ _ (hts0 _ (by decide +kernel)) (hq _ (by decide +kernel))
    · exact one _ _ (hts0 _ (by decide +kernel)) (hq _ (by decide +kernel))
    · exact one _ _ (hts0 _ (by decide +kernel)) (hq _ (by decide +kernel))
    · exact one _ _ (hts0 _ (by decide +kernel)) (hq _ (by decide +kernel))
    · exact one _ _ (hts0 _ (by decide +kernel)) (hq _ (by decide +kernel))
    · exact one _ _ (hts0 _ (by decide +kernel)) (hq _ (by decide +kernel))
  have hthr : (Cond.initialized Bundle.tN).before #[Value.ref b] s = true := hts0 _ (by decide +kernel)
  have hX : xT A s s.heap := ⟨fun w hw => va_Nw.of (by
      simp only [xWd, List.mem_cons, List.not_mem_nil, or_false] at hw
      rcases hw with rfl | rfl | rfl | rfl | rfl | rfl <;> rfl) (hts0 w ((show ∀ w ∈ xWd, w ∈ lw_tbl by decide +kernel) w hw)), hstr,
    vx_Zqof (hts0 (.laysStatic Bundle.tN "UNASSIGNED_STACK" Bundle.steD) (by decide +kernel)) hthr (hq _ (by decide +kernel)) hold,
    vx_Zqof (hts0 (.laysStatic Bundle.tN "SUPPRESSED_SENTINEL" Bundle.listD) (by decide +kernel)) hthr (hq _ (by decide +kernel)) hold⟩
  have hN : xN s := ⟨va_Nc.of (args := #[Value.ref b]) (hq _ (by decide +kernel)), va_Nc.of (args := #[Value.ref b]) (hq _ (by decide +kernel)), va_Nc.of (args := #[Value.ref b]) (hq _ (by decide +kernel))⟩
  have C : vC p s m #[Value.ref b] meth c cL_law 25 wsL_law RL ret G cy A := ⟨⟨hx, hb, hml, hown, hts⟩, hK, hA, hr, hlocks⟩
  have fin : ∀ (w : va_W) (cells slots : Nat) (lo : List (Option Value)), cells ≤ 600086 → slots ≤ 7301441 → V p l e room_1 s m #[Value.ref b] below meth c 25 G A (lw_Z below #[Value.ref b] s) w cells slots 1580 lo [.int 1] := fun w cells slots lo h1 h2 => by
    intro H locs ls hP hD hS hl
    refine va_forget (fun q hq => hAn _ (hS.2.2 q hq)) ?_
    refine W.widen h1 h2 ?_
    exact lw_ret hx hb hr hlocks dL_law_1580
  have main : V p l e room_1 s m #[Value.ref b] below meth c 25 G A (lw_Z below #[Value.ref b] s) [] 0 0 0 [some (.ref b), none, none, none, none, none, none, none, none, none, none, none, none, none, none, none, none, none, none, none, none, none, none, none, none] [] := by
    refine v_new C (fs := [.null, .null, .null, .null, .null, .null, .null, .int 0, .int 0, .int 0, .int 0, .int 0]) (ci := 1) inlX1 tyX1 tyX1_ok (by decide +kernel) (by decide +kernel) (by decide +kernel) rfl (fun j hj => by rcases (show j = 0 ∨ j = 1 ∨ j = 2 ∨ j = 3 ∨ j = 4 ∨ j = 5 ∨ j = 6 ∨ j = 7 ∨ j = 8 ∨ j = 9 ∨ j = 10 ∨ j = 11 by omega) with rfl | rfl | rfl | rfl | rfl | rfl | rfl | rfl | rfl | rfl | rfl | rfl <;> rfl) (by decide) (by decide) dL_law_0 (fun h1 => ?_)
    refine v_dup C dL_law_3 rfl ?_
    refine v_callIE C hE [] [] (k_X1_init l G cy h1) rfl gL_law_X1_init (by decide +kernel) (by decide +kernel) (by decide +kernel) rfl (by decide +kernel) (by decide) (by decide) (Nat.le_of_ble_eq_true rfl) rfl dL_law_4 (fun ad had => ?_)
    subst had
    refine V.ew (w' := wD cy ad xD) (by simp) ?_
    refine v_astore_n C dL_law_7 (by decide) ?_
    refine v_bipush C 60 dL_law_8 (by decide) ?_
    refine v_newaI C (by decide +kernel) 60 (by decide) (by decide +kernel) (by decide) (by decide) (by decide) dL_law_10 (fun q0 => ?_)
    refine v_astore_n C dL_law_12 (by decide) ?_
    refine v_bipush C 20 dL_law_13 (by decide) ?_
    refine v_newaI C (by decide +kernel) 20 (by decide) (by decide +kernel) (by decide) (by decide) (by decide) dL_law_15 (fun q1 => ?_)
    refine v_astore_n C dL_law_17 (by decide) ?_
    refine v_bipush C 20 dL_law_18 (by decide) ?_
    refine v_newaI C (by decide +kernel) 20 (by decide) (by decide +kernel) (by decide) (by decide) (by decide) dL_law_20 (fun q2 => ?_)
    refine v_astore C dL_law_22 (by decide) ?_
    refine v_bipush C 20 dL_law_24 (by decide) ?_
    refine v_newaI C (by decide +kernel) 20 (by decide) (by decide +kernel) (by decide) (by decide) (by decide) dL_law_26 (fun q3 => ?_)
    refine v_astore C dL_law_28 (by decide) ?_
    refine v_bipush C 10 dL_law_30 (by decide) ?_
    refine v_newaI C (by decide +kernel) 10 (by decide) (by decide +kernel) (by decide) (by decide) (by decide) dL_law_32 (fun q4 => ?_)
    refine v_astore C dL_law_34 (by decide) ?_
    refine v_iconst C 5 dL_law_36 (by decide) ?_
    refine v_newaI C (by decide +kernel) 5 (by decide) (by decide +kernel) (by decide) (by decide) (by decide) dL_law_37 (fun q5 => ?_)
    refine v_astore C dL_law_39 (by decide) ?_
    refine v_iconst C 2 dL_law_41 (by decide) ?_
    refine v_newaI C (by decide +kernel) 2 (by decide) (by decide +kernel) (by decide) (by decide) (by decide) dL_law_42 (fun q6 => ?_)
    refine v_astore C dL_law_44 (by decide) ?_
    refine v_bipush C 60 dL_law_46 (by decide) ?_
    refine v_newaI C (by decide +kernel) 60 (by decide) (by decide +kernel) (by decide) (by decide) (by decide) dL_law_48 (fun q7 => ?_)
    refine v_astore C dL_law_50 (by decide) ?_
    refine v_bipush C 60 dL_law_52 (by decide) ?_
    refine v_newaI C (by decide +kernel) 60 (by decide) (by decide +kernel) (by decide) (by decide) (by decide) dL_law_54 (fun q8 => ?_)
    refine v_astore C dL_law_56 (by decide) ?_
    refine v_iconst C 5 dL_law_58 (by decide) ?_
    refine v_newaI C (by decide +kernel) 5 (by decide) (by decide +kernel) (by decide) (by decide) (by decide) dL_law_59 (fun q9 => ?_)
    refine v_astore C dL_law_61 (by decide) ?_
    refine V.perm (w' := wL cy (alI q0 q1 q2 q3 q4 q5 q6 q7 q8 q9) xA (wD cy ad xD)) ?_ ?_
    · have e : wL cy (alI q0 q1 q2 q3 q4 q5 q6 q7 q8 q9) xA (wD cy ad xD) = [zA cy q0 60, zA cy q1 20, zA cy q2 20, zA cy q3 20, zA cy q4 10, zA cy q5 5, zA cy q6 2, zA cy q7 60, zA cy q8 60, zA cy q9 5] ++ wD cy ad xD := by rw [wL_z]; rfl
      rw [e]
      simp only [List.append_assoc, List.cons_append, List.nil_append]
      exact (List.perm_append_comm (l₁ := wD cy ad xD) (l₂ := [zA cy q0 60, zA cy q1 20, zA cy q2 20, zA cy q3 20, zA cy q4 10, zA cy q5 5, zA cy q6 2, zA cy q7 60, zA cy q8 60, zA cy q9 5]))
    exact V.widen (by decide) (by decide) (law_new (al := alI q0 q1 q2 q3 q4 q5 q6 q7 q8 q9) C hX hN hlt hXs hbl hbA hL fin)
  have h := main s.heap [] _ (fun k q h => by simp at h) ⟨fun i j p q h => by simp at h, fun k q h => by simp at h⟩ va_S.rf (lo_entry [Value.ref b] (by simp [Value.category]) (show 1 ≤ 25 by decide))
  rw [lg_entry_eq]
  exact h
-- ===== YOUR PART ENDS =====
set_option maxHeartbeats 4000000 in
theorem lw_walk (l : Launch) (hflags : l.flags = flags0) (b : Addr) (xs : List Int32) : MetFree l x (headSpec (Jvm.Cond.code x code maxLocals ret :: tables_1) room_1) (lw_P b xs) (fun _ _ _ _ _ => True) lw_Q := by
  refine MetFree.of_bodyS (code := code) (maxLocals := maxLocals) (ret := ret) (by decide) ?_ ?_
  · intro args s m h hn
    obtain ⟨meth, c, h1, h2, h3, h4, h5, h6, -, -⟩ := Cond.code_spec hn (atoms_spec (ws := Jvm.Cond.code x code maxLocals ret :: tables_1) h _ List.mem_cons_self)
    exact ⟨meth, c, h1, h2, h3, h4, h5, h6⟩
  · intro p e s m args below meth c s₁ B hml0 hP _
    obtain ⟨rfl, hx, hbd, hgv⟩ := hP
    obtain ⟨scr, harrAt, hlist, hof, hsmall⟩ := hx
    obtain ⟨hcb, hkn, -, -⟩ := State.arrayAt?_spec harrAt
    have hown : s.vm.findClass R_law = some m.cls := findClass_of_methodNamed B.named
    have hts0 : ∀ c ∈ (Jvm.Cond.code x code maxLocals ret :: tables_1), c.before #[Value.ref b] s = true := atoms_spec (ws := Jvm.Cond.code x code maxLocals ret :: tables_1) B.pre
    have hts : ∀ w ∈ lw_tbl, w.before #[Value.ref b] s = true := k2_hts_sels lw_privs (fun w hw => hts0 w (List.mem_cons_of_mem _ hw)) lw_privs_ok
    have hml : c.maxLocals = 25 := B.maxLocals_eq (hts0 _ List.mem_cons_self)
    have X₀ : Stand p l e room_1 s m #[Value.ref b] below meth c s₁ [] 0 0 := Stand.of_body B
    have hh0 : s₁.heap = s.heap := by rw [B.state]; rfl
    have hsz : scr.slots.size = xs.length := by rw [← Array.length_toList, hlist, List.length_map]
    have hval : ∀ j : Nat, j < xs.length → scr.slots[j]? = some (.int (xs.getD j 0)) := fun j hj => by
      rw [← Array.getElem?_toList, hlist]
      simp [hj]
    have hbl : b < s.heap.size := (Array.getElem?_eq_some_iff.mp hcb).1
    have hX : va_X b xs.length (fun j => xs.getD j 0) s s.heap := ⟨scr, hcb, hof, hkn, hsz, hval⟩
    have K : W p l e room_1 s m #[Value.ref b] below meth c s₁.heap [] 0 0 (lw_Z below #[Value.ref b] s) (entryFrame m ([Value.ref b] : List Value).toArray 25) := by
      rw [hh0]
      exact whole_start l hflags hbd ⟨B.exec, B.bytes, B.returns, hml, hown, hts, hX, hbl, B.notSynchronized, hgv⟩
    obtain ⟨t, a1, o, b1, b2, b3⟩ := K s₁ rfl X₀
    exact ⟨t, o, a1, b1, b2, b3⟩
theorem lw_pre_spec {args : Array Value} {s : State} (h : (Jvm.Cond.and given_1 narrow_1).before args s = true) (hr : rest_1_c.before args s = true) : ∃ (b : Addr) (xs : List Int32), lw_P b xs args s := by
  have hs := flat_of_before _ h
  have hq := flat_of_before _ hr
  have hc : (Cond.count 1).before args s = true := hs _ (by decide +kernel)
  have harr : (Cond.arrayOf (.arg 0) .int).before args s = true := hs _ (by decide +kernel)
  have hle : (Cond.le (.length (.arg 0)) (.int 260)).before args s = true := hs _ (by decide +kernel)
  have hlen : (Cond.isInt (.length (.arg 0))).before args s = true := hq _ (by decide +kernel)
  have hall : (Cond.all (.arg 0) (.isInt (.elem (.arg 0) (.index 0)))).before args s = true := hq _ (by decide +kernel)
  obtain ⟨b, xs, hb, hx⟩ := State.ints_of_pre rfl harr hlen hall
  have hsm : xs.length < 2 ^ 31 := hx.choose_spec.2.2.2
  have hev : (Term.length (.arg 0)).eval args s none [] s = some (.int xs.length.toInt32) := hx.length_eval hb
  have hv := Cond.le_ints hev (show (Term.int 260).eval args s none [] s = some (.int 260) from rfl)
  have hd : xs.length.toInt32 ≤ 260 := by
    simpa [Cond.before, Cond.holds, hv] using hle
  have hN : xs.length ≤ 260 := (Int32.ofNat_le_ofNat hsm (by decide)).mp (show Int32.ofNat xs.length ≤ Int32.ofNat 260 from hd)
  exact ⟨b, xs, Cond.one_arg hc (show args[0]? = some (.ref b) from hb), hx, hN, h⟩
theorem lw_comes (l : Launch) (hflags : l.flags = flags0) : Comes l x (Jvm.Cond.code x code maxLocals ret :: tables_1) room_1 (fun tb e args s => Calls_1 tb e args s ∧ rest_1 tb e args s ∧ Pre_1 tb e args s)
    (fun _ _ args s o t => lw_Q args s o t) := by
  intro p e ha hc hk s m args below hf hfit hheap happ hpre
  obtain ⟨b, xs, hP⟩ := lw_pre_spec hpre.2.2 hpre.2.1
  obtain ⟨k, o, h1, h2, h3, hQ⟩ := lw_walk l hflags b xs p e ha hc hk s m args below hf ((Spec.applies_iff_loose hf).mp happ).1 hP trivial
  exact ⟨k, o, h1, h2, h3, hQ⟩
theorem lw_frame {s t : State} {o : Outcome} {args : Array Value} (h : Framed s o t [] 600086 7301441) :
    Framed s o t (fieldLocs frame_1_writes args s ++ arrayLocs frame_1_arrays args s ++ staticLocs frame_1_statics s) 600086 7301441 := h
theorem lw_limb (L : Cond) (hL : ∀ (args : Array Value) (s t : State), L.after args s (.returned (some (.int 1))) t = true) :
    ArmFor flags0 classFile x code maxLocals ret World_1 tables_1 room_1 Calls_1 rest_1 Pre_1
      (fun tb e a s o t => postC L tb e a s o t ∧ Framed s o t (fieldLocs frame_1_writes a s ++ arrayLocs frame_1_arrays a s ++ staticLocs frame_1_statics s) 600086 7301441) := by
  intro l hflags _ _ p e ha hc hk s m args below hf hfit hheap happ hpre
  obtain ⟨k, o, h1, h2, h3, rfl, hF⟩ := lw_comes l hflags p e ha hc hk s m args below hf hfit hheap happ hpre
  exact ⟨k, _, h1, h2, h3, hL args s _, lw_frame hF⟩
theorem i_vc : Claimed_1_1 ∧ Claimed_1_2 := ⟨lw_limb limb_1_1 (fun args s t => by simp [limb_1_1, Cond.after, Cond.holds, Cond.value]), lw_limb limb_1_2 (fun args s t => Cond.after_iff.mpr (by
  first | (rw [show limb_1_2 = Cond.eq .result (.int 1) from rfl, Cond.eq_ints (x := 1) (y := 1) rfl rfl]; simp; done) | (simp [limb_1_2, Cond.value, Term.eval]; done)))⟩
