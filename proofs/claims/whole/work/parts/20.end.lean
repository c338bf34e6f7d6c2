/-! THE LAW: from its entry through its loop -/
section LE
variable {p : Program} {l : Launch} {e : Env} {R : Room} {s : State} {m : MethodId} {args : Array Value} {below : List Frame} {meth : Method} {c : Code} {cells slots : Nat} {Q : State → Prop} {cc : ByteArray} {nL : Nat} {Ts : List Cond} {own : String} {ret : Option FieldType} {G : va_G} {cy : Nat → ClassId} {A : Nat → Prop} {w w' wc : va_W} {pc : Nat} {lo : List (Option Value)} {st rest : List Value}
theorem V.perm (h : w.Perm w') (k : V p l e R s m args below meth c nL G A Q w' cells slots (pc) lo (st)) : V p l e R s m args below meth c nL G A Q w cells slots (pc) lo (st) := fun H locs ls hP hD hS hl => k H locs ls (by
  rw [vP_iff] at hP ⊢
  exact fun q hq => hP q (h.mem_iff.mpr hq)) (by
  rw [vD_iff] at hD ⊢
  exact ⟨(h.map (·.1)).nodup_iff.mp hD.1, fun q hq => hD.2 q (h.mem_iff.mpr hq)⟩) hS hl
/-- a constructor's call: what was made lies where some ad says -/
theorem v_callIE (C : vC p s m args meth c cc nL Ts own ret G cy A) (hE : vE s) (wl wr : va_W) {y : MethodName} {wsY wsY' : List Cond} {fr lc mc ms idx h0 maxL : Nat} {bytes : ByteArray} {Wf : (Nat → Nat) → va_W} (k : KE l G cy y wsY fr lc mc ms h0 wc Wf) (hw : wsY = Cond.code y bytes maxL none :: wsY') (hg : GoodIn Ts wsY) (hini : Cond.initialized y.cls ∈ Ts) (hlink : Cond.methodLink own idx y ∈ Ts) (hinst : Cond.instanceMethod y ∈ Ts) (hy1 : y.name = "<init>")
    (hy : y.cls ≠ "java/lang/invoke/MethodHandle" ∧ y.cls ≠ "java/lang/invoke/VarHandle" ∧ (parseMethodDescriptor y.desc).map (fun d => d.parameters.length) = some 0) (hR : fr + 1 ≤ R.frames ∧ 8 + (maxL + 11) + lc ≤ R.locals) (hcs : cells + mc ≤ R.cells ∧ slots + ms ≤ R.slots)
    (hcat : (rest.map fun v => v.category).sum ≤ 8) (hw0 : w = wl ++ (wc ++ wr)) (hd : decode cc pc = .ok (.invokespecial idx, 3)) (kk : ∀ ad : Nat → Nat, ad 0 = h0 → V p l e R s m args below meth c nL G A Q (wl ++ (Wf ad ++ wr)) (cells + mc) (slots + ms) (pc + 3) lo (rest)) : V p l e R s m args below meth c nL G A Q w cells slots (pc) lo (.ref h0 :: rest) := by
  subst hw0
  intro H locs ls hP hD hS hl
  obtain ⟨hPc, hDc⟩ := v_in hP hD
  have hFc := v_free hDc hS C.2.2.1
  refine va_callv (va_runI (As := []) (rest := rest) C.1 (k H.size) (cwI 0 C.1.2.2.2.2 hg hw rfl rfl (C.1.2.2.2.2 _ hini) (C.1.2.2.2.2 _ hlink) (C.1.2.2.2.2 _ hinst) hy1 hy hR) ⟨vIe_blind, fun U hU hW => ⟨rfl, ⟨by rw [hU], by rw [hU]; exact hPc, va_K.moved hW.alike C.2.1, hDc.weaken (fun _ _ _ _ => trivial)⟩, hE.warm hW⟩⟩ rfl rfl (hl.1.1) rfl (lv_room hcat) hd hcs) hS (fun q _ h => hFc q h) hFc (fun u t H1 locs1 ht hvm hr' hB hz hk hS1 => ?_)
  obtain ⟨hP1, hK1, hD1⟩ := hB
  rw [ht] at hP1
  obtain ⟨hP2, hD2⟩ := v_join hP hD hFc hk hP1 hD1
  exact kk u hr' H1 locs1 ls hP2 hD2 hS1 hl
end LE
theorem lt6 {L k : Nat} (hL : L ≤ 3072) (hk : k ≤ 1000) : nI L - 6 < nI (6 * k) ↔ L < 6 * k + 6 := by
  rw [Int32.lt_iff_toInt_lt, Int32.toInt_sub, nI_toInt (by omega), nI_toInt (by omega), show (6 : Int32).toInt = 6 by decide, Int.bmod_eq_of_le (by omega) (by omega)]
  omega
theorem and31 (v : Int32) (h : ∀ j : Nat, j < 18 → v ≠ nI j) : v.toInt < 0 ∨ 17 < v.toInt := by
  by_cases q : v.toInt < 0
  · exact Or.inl q
  · by_cases q2 : 17 < v.toInt
    · exact Or.inr q2
    · exfalso
      obtain ⟨j, hj⟩ := Int.eq_ofNat_of_zero_le (show 0 ≤ v.toInt by omega)
      refine h j (by omega) (Int32.toInt_inj.mp ?_)
      rw [nI_toInt (by omega), hj]
set_option maxHeartbeats 4000000 in
set_option maxRecDepth 100000 in
theorem law_loop {p : Program} {l : Launch} {e : Env} {s : State} {m : MethodId} {args : Array Value} {below : List Frame} {meth : Method} {c : Code} {Q : State → Prop} {ret : Option FieldType} {G : va_G} {cy : Nat → ClassId} {A : Nat → Prop} {ad am : Nat → Nat} {ao : Nat} (C : vC p s m args meth c cL_law 7 wsL_law RL ret G cy A) (hX : xT A s s.heap) (hN : xN s) (hl : l.stackTraces = false) {b0 L : Nat} {xs : Nat → Int32} (S : va_X b0 L xs s s.heap) (hbl : b0 < s.heap.size) (hbA : ¬ A b0) (hL : L ≤ 3072) (fin : ∀ (w : va_W) (cells slots : Nat) (lo : List (Option Value)), cells ≤ 601024 → slots ≤ 7293034 → V p l e room_1 s m args below meth c 7 G A Q w cells slots 1155 lo []) : ∀ (fu k n om t : Nat) (f : Nat → Int64) (x y : Sg), L < 6 * k + 6 * fu → 6 * k ≤ L + 6 → k ≤ 513 → om ≤ k → Rel n om t x y → V p l e room_1 s m args below meth c 7 G A Q (wL cy ao f ad x am y) (52 + 8 * k) (4455 + 48 * k) 23 [some (.ref b0), some (.ref (ad 0)), some (.ref (am 0)), some (.ref ao), some (.int (nI (6 * k))), none, none] [] := by
  intro fu
  induction fu with
  | zero =>
    intro k n om t f x y h1 h2 h3 h4 h
    refine v_iload C dL_law_23 rfl ?_
    refine v_aload_n C dL_law_25 rfl ?_
    refine v_slen C S hbl hbA dL_law_26 ?_
    refine v_bipush C 6 dL_law_27 (by decide) ?_
    refine v_isub C dL_law_29 ?_
    refine v_icmp_gt C 1155 dL_law_30 (by decide) (fun _ => fin _ _ _ _ (by omega) (by omega)) (fun z => absurd ((lt6 hL (by omega)).mpr (by omega)) z)
  | succ fu ih =>
    intro k n om t f x y h1 h2 h3 h4 h
    refine v_iload C dL_law_23 rfl ?_
    refine v_aload_n C dL_law_25 rfl ?_
    refine v_slen C S hbl hbA dL_law_26 ?_
    refine v_bipush C 6 dL_law_27 (by decide) ?_
    refine v_isub C dL_law_29 ?_
    refine v_icmp_gt C 1155 dL_law_30 (by decide) (fun _ => fin _ _ _ _ (by omega) (by omega)) (fun z => ?_)
    have hk : 6 * k + 6 ≤ L := by
      rcases Nat.lt_or_ge L (6 * k + 6) with q | q
      · exact absurd ((lt6 hL (by omega)).mpr q) z
      · exact q
    have nx : ∀ (n' om' t' : Nat) (x' y' : Sg) (f' : Nat → Int64), om' ≤ k + 1 → Rel n' om' t' x' y' → V p l e room_1 s m args below meth c 7 G A Q (wL cy ao f' ad x' am y') (52 + 8 * k + 8) (4455 + 48 * k + 48) 1149 [some (.ref b0), some (.ref (ad 0)), some (.ref (am 0)), some (.ref ao), some (.int (nI (6 * k))), none, none] [] := fun n' om' t' x' y' f' hle hrel => by
      refine v_iinc C (nI (6 * (k + 1))) dL_law_1149 rfl (nI_add (6 * k) 6) (by decide) ?_
      refine v_goto C 23 dL_law_1152 (by decide) ?_
      exact V.widen (by omega) (by omega) (ih (k + 1) n' om' t' f' x' y' (by omega) (by omega) (by omega) hle hrel)
    refine v_aload_n C dL_law_33 rfl ?_
    refine v_iload C dL_law_34 rfl ?_
    refine v_sld C S hbl hbA (6 * k) rfl (by omega) hL dL_law_36 ?_
    refine v_bipush C 31 dL_law_37 (by decide) ?_
    refine v_iand C dL_law_39 ?_
    generalize xs (6 * k) &&& 31 = v
    by_cases v0 : v = 0
    · subst v0
      refine v_tabIn C 128 dL_law_40 (by decide) (by decide) rfl (by decide) ?_
      exact law_run C hX hN hl S hbl hbA hL hk h4 h nx
    by_cases v1 : v = 1
    · subst v1
      refine v_tabIn C 208 dL_law_40 (by decide) (by decide) rfl (by decide) ?_
      exact law_lead C hX hN hl S hbl hbA hL hk h4 h nx
    by_cases v2 : v = 2
    · subst v2
      refine v_tabIn C 283 dL_law_40 (by decide) (by decide) rfl (by decide) ?_
      exact law_order C hX hN hl S hbl hbA hL hk h4 h nx
    by_cases v3 : v = 3
    · subst v3
      refine v_tabIn C 387 dL_law_40 (by decide) (by decide) rfl (by decide) ?_
      exact law_breaks C hX hN hl S hbl hbA hL hk h4 h nx
    by_cases v4 : v = 4
    · subst v4
      refine v_tabIn C 478 dL_law_40 (by decide) (by decide) rfl (by decide) ?_
      exact law_ails C hX hN hl S hbl hbA hL hk h4 h nx
    by_cases v5 : v = 5
    · subst v5
      refine v_tabIn C 569 dL_law_40 (by decide) (by decide) rfl (by decide) ?_
      exact law_plug C hX hN hl S hbl hbA hL hk h4 h nx
    by_cases v6 : v = 6
    · subst v6
      refine v_tabIn C 637 dL_law_40 (by decide) (by decide) rfl (by decide) ?_
      exact law_advance C hX hN hl S hbl hbA hL hk h4 h nx
    by_cases v7 : v = 7
    · subst v7
      refine v_tabIn C 693 dL_law_40 (by decide) (by decide) rfl (by decide) ?_
      exact law_minute C hX hN hl S hbl hbA hL hk h4 h nx
    by_cases v8 : v = 8
    · subst v8
      refine v_tabIn C 706 dL_law_40 (by decide) (by decide) rfl (by decide) ?_
      exact law_leader C hX hN hl S hbl hbA hL hk h4 h nx
    by_cases v9 : v = 9
    · subst v9
      refine v_tabIn C 719 dL_law_40 (by decide) (by decide) rfl (by decide) ?_
      exact law_runs C hX hN hl S hbl hbA hL hk h4 h nx
    by_cases v10 : v = 10
    · subst v10
      refine v_tabIn C 732 dL_law_40 (by decide) (by decide) rfl (by decide) ?_
      exact law_orders C hX hN hl S hbl hbA hL hk h4 h nx
    by_cases v11 : v = 11
    · subst v11
      refine v_tabIn C 745 dL_law_40 (by decide) (by decide) rfl (by decide) ?_
      exact law_orderAt C hX hN hl S hbl hbA hL hk h4 h nx
    by_cases v12 : v = 12
    · subst v12
      refine v_tabIn C 801 dL_law_40 (by decide) (by decide) rfl (by decide) ?_
      exact law_stateOf C hX hN hl S hbl hbA hL hk h4 h nx
    by_cases v13 : v = 13
    · subst v13
      refine v_tabIn C 857 dL_law_40 (by decide) (by decide) rfl (by decide) ?_
      exact law_busOf C hX hN hl S hbl hbA hL hk h4 h nx
    by_cases v14 : v = 14
    · subst v14
      refine v_tabIn C 913 dL_law_40 (by decide) (by decide) rfl (by decide) ?_
      exact law_driverOf C hX hN hl S hbl hbA hL hk h4 h nx
    by_cases v15 : v = 15
    · subst v15
      refine v_tabIn C 969 dL_law_40 (by decide) (by decide) rfl (by decide) ?_
      exact law_charge C hX hN hl S hbl hbA hL hk h4 h nx
    by_cases v16 : v = 16
    · subst v16
      refine v_tabIn C 1025 dL_law_40 (by decide) (by decide) rfl (by decide) ?_
      exact law_promised C hX hN hl S hbl hbA hL hk h4 h nx
    by_cases v17 : v = 17
    · subst v17
      refine v_tabIn C 1081 dL_law_40 (by decide) (by decide) rfl (by decide) ?_
      exact law_minutesOf C hX hN hl S hbl hbA hL hk h4 h nx
    refine v_tabOut C 1149 dL_law_40 (and31 v (fun j hj q => ?_)) (by decide) ?_
    · rcases (show j = 0 ∨ j = 1 ∨ j = 2 ∨ j = 3 ∨ j = 4 ∨ j = 5 ∨ j = 6 ∨ j = 7 ∨ j = 8 ∨ j = 9 ∨ j = 10 ∨ j = 11 ∨ j = 12 ∨ j = 13 ∨ j = 14 ∨ j = 15 ∨ j = 16 ∨ j = 17 by omega) with rfl | rfl | rfl | rfl | rfl | rfl | rfl | rfl | rfl | rfl | rfl | rfl | rfl | rfl | rfl | rfl | rfl | rfl
      · exact v0 q
      · exact v1 q
      · exact v2 q
      · exact v3 q
      · exact v4 q
      · exact v5 q
      · exact v6 q
      · exact v7 q
      · exact v8 q
      · exact v9 q
      · exact v10 q
      · exact v11 q
      · exact v12 q
      · exact v13 q
      · exact v14 q
      · exact v15 q
      · exact v16 q
      · exact v17 q
    · exact V.widen (by omega) (by omega) (nx n om t x y f (by omega) h)
/-! THE CLAIM OUT OF ONE WALK OF THE LAW'S BODY. Your part is whole_start (and what it stands on); all else here is the same for every law, but numbers. -/
def R_law : String := "DepotLogLaw"
def lw_P (b : Addr) (xs : List Int32) (args : Array Value) (s : State) : Prop := args = #[.ref b] ∧ s.IntsAt b xs ∧ xs.length ≤ 3072 ∧ (Jvm.Cond.and given_1 narrow_1).before args s = true
def lw_Q (_ : Array Value) (s : State) (o : Outcome) (t : State) : Prop := o = .returned (some (.int 1)) ∧ Framed s o t [] 601024 7293034
def lw_Z (below : List Frame) (a : Array Value) (s : State) : State → Prop := fun t => ∃ o, t.status = .running ∧ Ended t below o ∧ lw_Q a s o t
/-- the law's own end, with 1 on the stack, nothing written that was there before, its room as the claim has it -/
theorem lw_ret {p : Program} {l : Launch} {e : Env} {s : State} {m : MethodId} {below : List Frame} {meth : Method} {c : Code} {b : Nat} (hx : p.tables.exec = Jvm.exec) (hb : c.code = code) (hr : meth.sig.returnType = ret) (hlocks : meth.locks = false) {pc : Nat} {H : Heap} {ls : Array Slot} (hdg : decode code pc = .ok (.ireturn, 1)) : W p l e room_1 s m #[Value.ref b] below meth c H [] 601024 7293034 (lw_Z below #[Value.ref b] s) (F0 m pc ls [.int 1]) := by
  intro T hT X
  obtain ⟨fs, hret, hrun, hended, hW, hframe⟩ := X.leave (v := some (.int 1)) (hlocks := hlocks) (fun h => by rw [hr] at h; cases h)
  have hmeth' : T.vm.method? m = some meth := X.method'
  refine ⟨T.setFrames fs, ?_, .returned (some (.int 1)), hrun, hended, rfl, ⟨_, rfl⟩, hW, hframe⟩
  jvm_step X.here [X.here.top, hx, hb, hdg, hmeth', hr, ret, narrow_b1]
  (try refine ⟨rfl, ?_⟩); (try refine ⟨rfl, ?_⟩)
  first | (intro acts; rw [hret _ acts rfl rfl rfl]) | rw [hret _ _ rfl rfl rfl]
  exact Steps.refl _
/-- what holds at the law's entry: the machine, the code, the tables' words (any of lw_tbl by 'hts w (by decide +kernel)'), the script of L ints xs at the cell b, what the Statement gives of the start (any of its parts by flat_of_before) -/
def lw_At (p : Program) (s : State) (m : MethodId) (meth : Method) (c : Code) (b L : Nat) (xs : Nat → Int32) : Prop :=
  p.tables.exec = Jvm.exec ∧ c.code = code ∧ meth.sig.returnType = ret ∧ c.maxLocals = 7 ∧ s.vm.findClass R_law = some m.cls ∧ (∀ w ∈ lw_tbl, w.before #[Value.ref b] s = true) ∧ va_X b L xs s s.heap ∧ b < s.heap.size ∧ meth.locks = false ∧ (Jvm.Cond.and given_1 narrow_1).before #[Value.ref b] s = true
set_option maxHeartbeats 8000000 in
set_option maxRecDepth 100000 in
/-- THE LAW, from its entry -/
theorem whole_start {p : Program} {e : Env} {s : State} {m : MethodId} {below : List Frame} {meth : Method} {c : Code} (l : Launch) (hflags : l.flags = flags0) {b L : Nat} {xs : Nat → Int32} (hL : L ≤ 3072) (C0 : lw_At p s m meth c b L xs) : W p l e room_1 s m #[Value.ref b] below meth c s.heap [] 0 0 (lw_Z below #[Value.ref b] s) (entryFrame m ([Value.ref b] : List Value).toArray 7) := by
  obtain ⟨hx, hb, hr, hml, hown, hts0, hXs, hbl, hlocks, hgv⟩ := id C0
  have hts : ∀ w ∈ wsL_law, w.before #[Value.ref b] s = true := fun w h => hts0 w (wsL_law_in w h)
  have hq := flat_of_before _ hgv
  have hlt : l.stackTraces = false := by unfold Launch.stackTraces; rw [hflags]; decide +kernel
  obtain ⟨c0, iS0, hKn0⟩ := u_known (C := RX0) (T := TX0) (N := 6) (n := 6) hts0 inX0 (hts0 (.instantiable RX0 6) (wsL_law_k2 _ (by decide +kernel)))
  obtain ⟨c1, iS1, hKn1⟩ := u_known (C := RX1) (T := TX1) (N := 12) (n := 12) hts0 inX1 (hts0 (.instantiable RX1 12) (wsL_law_k1 _ (by decide +kernel)))
  obtain ⟨c2, iS2, hKn2⟩ := u_known (C := RX2) (T := TX2) (N := 18) (n := 18) hts0 inX2 (hts0 (.instantiable RX2 18) (wsL_law_k1 _ (by decide +kernel)))
  obtain ⟨a0, ak0, ac0, af0, ag0, ah0⟩ := Cond.arrayClass_spec (hts0 (.arrayClass .int) (wsL_law_k1 _ (by decide +kernel)))
  obtain ⟨a1, ak1, ac1, af1, ag1, ah1⟩ := Cond.arrayClass_spec (hts0 (.arrayClass .boolean) (wsL_law_k1 _ (by decide +kernel)))
  obtain ⟨a3, ak3, ac3, af3, ag3, ah3⟩ := Cond.arrayClass_spec (hts0 (.arrayClass .long) (wsL_law_k1 _ (by decide +kernel)))
  have hover : (Cond.arrayOver (.object "DepotLog$Run")).before #[Value.ref b] s = true := hts0 _ (by decide +kernel)
  obtain ⟨ac2, a2, ak2, ae2, -, ag2, ah2, af2⟩ := Cond.arrayOver_spec hover
  have hE : vE s := ⟨va_AO.of hover, va_Nw.of rfl (hts0 (.methodLinkNest RX1 51 yX0_init "DepotLog") (by decide +kernel))⟩
  obtain ⟨G, hG⟩ : ∃ G : va_G, G = (fun k => if k = 0 then c0 else if k = 1 then c1 else c2, fun k => if k = 0 then iS0 else if k = 1 then iS1 else iS2) := ⟨_, rfl⟩
  obtain ⟨cy, hcy⟩ : ∃ cy : Nat → ClassId, cy = fun k => if k = 0 then a0 else if k = 1 then a1 else if k = 2 then a2 else a3 := ⟨_, rfl⟩
  have hK : va_K G vwCl (tyL cy) s := by
    refine ⟨fun k q h => ?_, fun k q h => ?_⟩
    · rw [hG]
      match k, h with
      | 0, h => cases h; exact hKn0
      | 1, h => cases h; exact hKn1
      | 2, h => cases h; exact hKn2
      | k + 3, h => simp [vwCl] at h
    · rw [hcy] at h
      match k, h with
      | 0, h => cases h; exact ⟨fun N z => ⟨fun k h => (by cases h), ak0, ag0, ac0, ah0⟩, af0⟩
      | 1, h => cases h; exact ⟨fun N z => ⟨fun k h => (by cases h), ak1, ag1, ac1, ah1⟩, af1⟩
      | 2, h => cases h; exact ⟨fun N z => ⟨fun k h => (by cases h), ak2, ag2, ac2, ah2⟩, ak2, ac2, ag2, ah2, ae2, af2⟩
      | 3, h => cases h; exact ⟨fun N z => ⟨fun k h => (by cases h), ak3, ag3, ac3, ah3⟩, af3⟩
      | k + 4, h => simp [tyL] at h
  obtain ⟨A, hAd⟩ : ∃ A : Nat → Prop, A = fun q => s.heap.size ≤ q := ⟨_, rfl⟩
  have hA : ∀ q : Nat, s.heap.size ≤ q → A q := fun q h => by rw [hAd]; exact h
  have hAn : ∀ q : Nat, A q → s.heap.size ≤ q := fun q h => by rw [hAd] at h; exact h
  have hbA : ¬ A b := fun h => absurd (hAn b h) (Nat.not_le.mpr hbl)
  have hold : ∀ a : Nat, a < s.heap.size → ¬ A a := fun a ha h => absurd (hAn a h) (Nat.not_le.mpr ha)
  have hstr : ∀ q ∈ xStr, ∃ sa, vk_R RX1 q.1 q.2 sa s := by
    have one : ∀ (k : Nat) (tx : String), (Cond.stringRef RX1 k tx).before #[Value.ref b] s = true → (Cond.exactly (.string RX1 k) "java/lang/String").before #[Value.ref b] s = true → ∃ sa, vk_R RX1 k tx sa s := fun k tx h1 h2 => by
      obtain ⟨a, -, -, -, h3, -⟩ := Cond.exactly_spec h2
      exact ⟨a, vk_R.of h1 h3⟩
    intro q hq2
    simp only [xStr, List.mem_cons, List.not_mem_nil, or_false] at hq2
    rcases hq2 with rfl | rfl | rfl | rfl | rfl | rfl
    · exact one _ _ (hts0 _ (by decide +kernel)) (hq _ (by decide +kernel))
    · exact one _ _ (hts0 _ (by decide +kernel)) (hq _ (by decide +kernel))
    · exact one _ _ (hts0 _ (by decide +kernel)) (hq _ (by decide +kernel))
    · exact one _ _ (hts0 _ (by decide +kernel)) (hq _ (by decide +kernel))
    · exact one _ _ (hts0 _ (by decide +kernel)) (hq _ (by decide +kernel))
    · exact one _ _ (hts0 _ (by decide +kernel)) (hq _ (by decide +kernel))
  have hthr : (Cond.initialized Bundle.tN).before #[Value.ref b] s = true := hts0 _ (by decide +kernel)
  have hX : xT A s s.heap := ⟨fun w hw => va_Nw.of (by
      simp only [xWd, List.mem_cons, List.not_mem_nil, or_false] at hw
      rcases hw with rfl | rfl | rfl | rfl | rfl | rfl <;> rfl) (hts0 w ((show ∀ w ∈ xWd, w ∈ lw_tbl by decide +kernel) w hw)), hstr,
    vx_Zqof (hts0 (.laysStatic Bundle.tN "UNASSIGNED_STACK" Bundle.steD) (by decide +kernel)) hthr (hq _ (by decide +kernel)) hold,
    vx_Zqof (hts0 (.laysStatic Bundle.tN "SUPPRESSED_SENTINEL" Bundle.listD) (by decide +kernel)) hthr (hq _ (by decide +kernel)) hold⟩
  have hN : xN s := ⟨va_Nc.of (args := #[Value.ref b]) (hq _ (by decide +kernel)), va_Nc.of (args := #[Value.ref b]) (hq _ (by decide +kernel)), va_Nc.of (args := #[Value.ref b]) (hq _ (by decide +kernel))⟩
  have C : vC p s m #[Value.ref b] meth c cL_law 7 wsL_law RL ret G cy A := ⟨⟨hx, hb, hml, hown, hts⟩, hK, hA, hr, hlocks⟩
  have fin : ∀ (w : va_W) (cells slots : Nat) (lo : List (Option Value)), cells ≤ 601024 → slots ≤ 7293034 → V p l e room_1 s m #[Value.ref b] below meth c 7 G A (lw_Z below #[Value.ref b] s) w cells slots 1155 lo [] := fun w cells slots lo h1 h2 => by
    refine v_iconst C 1 dL_law_1155 (by decide) ?_
    intro H locs ls hP hD hS hl
    refine va_forget (fun q hq => hAn _ (hS.2.2 q hq)) ?_
    refine W.widen h1 h2 ?_
    exact lw_ret hx hb hr hlocks dL_law_1156
  have main : V p l e room_1 s m #[Value.ref b] below meth c 7 G A (lw_Z below #[Value.ref b] s) [] 0 0 0 [some (.ref b), none, none, none, none, none, none] [] := by
    refine v_new C (fs := [.null, .null, .null, .null, .null, .null, .null, .int 0, .int 0, .int 0, .int 0, .int 0]) (ci := 1) inlX1 tyX1 tyX1_ok (by decide +kernel) (by decide +kernel) (by decide +kernel) rfl (fun j hj => by rcases (show j = 0 ∨ j = 1 ∨ j = 2 ∨ j = 3 ∨ j = 4 ∨ j = 5 ∨ j = 6 ∨ j = 7 ∨ j = 8 ∨ j = 9 ∨ j = 10 ∨ j = 11 by omega) with rfl | rfl | rfl | rfl | rfl | rfl | rfl | rfl | rfl | rfl | rfl | rfl <;> rfl) (by decide) (by decide) dL_law_0 (fun h1 => ?_)
    refine v_dup C dL_law_3 rfl ?_
    refine v_callIE C hE [] [] (k_X1_init l G cy h1) rfl gL_law_X1_init (by decide +kernel) (by decide +kernel) (by decide +kernel) rfl (by decide +kernel) (by decide) (by decide) (Nat.le_of_ble_eq_true rfl) rfl dL_law_4 (fun ad had => ?_)
    subst had
    refine V.ew (w' := wD cy ad xD) (by simp) ?_
    refine v_astore_n C dL_law_7 (by decide) ?_
    refine v_new C (fs := [.int 0, .int 0, .null, .null, .null, .null, .null, .null, .null, .null, .null, .null, .int 0, .int 0, .int 0, .null, .null, .int 0]) (ci := 2) inlX2 tyX2 tyX2_ok (by decide +kernel) (by decide +kernel) (by decide +kernel) rfl (fun j hj => by rcases (show j = 0 ∨ j = 1 ∨ j = 2 ∨ j = 3 ∨ j = 4 ∨ j = 5 ∨ j = 6 ∨ j = 7 ∨ j = 8 ∨ j = 9 ∨ j = 10 ∨ j = 11 ∨ j = 12 ∨ j = 13 ∨ j = 14 ∨ j = 15 ∨ j = 16 ∨ j = 17 by omega) with rfl | rfl | rfl | rfl | rfl | rfl | rfl | rfl | rfl | rfl | rfl | rfl | rfl | rfl | rfl | rfl | rfl | rfl <;> rfl) (by decide) (by decide) dL_law_8 (fun h2 => ?_)
    refine v_dup C dL_law_11 rfl ?_
    refine v_callIE C hE (wD cy ad xD) [] (k_X2_init l G cy h2) rfl gL_law_X2_init (by decide +kernel) (by decide +kernel) (by decide +kernel) rfl (by decide +kernel) (by decide) (by decide) (Nat.le_of_ble_eq_true rfl) (by simp) dL_law_12 (fun am ham => ?_)
    subst ham
    refine v_astore_n C dL_law_15 (by decide) ?_
    refine v_iconst C 1 dL_law_16 (by decide) ?_
    refine v_newaL C (by decide +kernel) 1 (by decide) (by decide +kernel) (by decide) (by decide) (by decide) dL_law_17 (fun ao => ?_)
    refine V.perm (w' := wL cy ao (fun _ => 0) ad xD am xM) ?_ ?_
    · have e : wL cy ao (fun _ => 0) ad xD am xM = [(ao, .inl (cy 3, 1, .inr (.inl (fun _ => 0))))] ++ (wD cy ad xD ++ (wM cy am xM ++ [])) := by simp [wL, wOD]
      rw [e]
      exact List.perm_append_comm
    refine v_astore_n C dL_law_19 (by decide) ?_
    refine v_iconst C 0 dL_law_20 (by decide) ?_
    refine v_istore C dL_law_21 (by decide) ?_
    exact V.widen (by decide) (by decide) (law_loop C hX hN hlt hXs hbl hbA hL fin (L + 1) 0 0 0 0 (fun _ => 0) xD xM (by omega) (by omega) (by omega) (Nat.le_refl 0) Rel_new)
  have h := main s.heap [] _ (fun k q h => by simp at h) ⟨fun i j p q h => by simp at h, fun k q h => by simp at h⟩ va_S.rf (lo_entry [Value.ref b] (by simp [Value.category]) (show 1 ≤ 7 by decide))
  rw [lg_entry_eq]
  exact h
-- ===== YOUR PART ENDS =====
set_option maxHeartbeats 4000000 in
theorem lw_walk (l : Launch) (hflags : l.flags = flags0) (b : Addr) (xs : List Int32) : MetFree l x (headSpec (Jvm.Cond.code x code maxLocals ret :: tables_1) room_1) (lw_P b xs) (fun _ _ _ _ _ => True) lw_Q := by
  refine MetFree.of_bodyS (code := code) (maxLocals := maxLocals) (ret := ret) (by decide) ?_ ?_
  · intro args s m h hn
    obtain ⟨meth, c, h1, h2, h3, h4, h5, h6, -, -⟩ := Cond.code_spec hn (atoms_spec (ws := Jvm.Cond.code x code maxLocals ret :: tables_1) h _ List.mem_cons_self)
    exact ⟨meth, c, h1, h2, h3, h4, h5, h6⟩
  · intro p e s m args below meth c s₁ B hml0 hP _
    obtain ⟨rfl, hx, hbd, hgv⟩ := hP
    obtain ⟨scr, harrAt, hlist, hof, hsmall⟩ := hx
    obtain ⟨hcb, hkn, -, -⟩ := State.arrayAt?_spec harrAt
    have hown : s.vm.findClass R_law = some m.cls := findClass_of_methodNamed B.named
    have hts0 : ∀ c ∈ (Jvm.Cond.code x code maxLocals ret :: tables_1), c.before #[Value.ref b] s = true := atoms_spec (ws := Jvm.Cond.code x code maxLocals ret :: tables_1) B.pre
    have hts : ∀ w ∈ lw_tbl, w.before #[Value.ref b] s = true := k2_hts_sels lw_privs (fun w hw => hts0 w (List.mem_cons_of_mem _ hw)) lw_privs_ok
    have hml : c.maxLocals = 7 := B.maxLocals_eq (hts0 _ List.mem_cons_self)
    have X₀ : Stand p l e room_1 s m #[Value.ref b] below meth c s₁ [] 0 0 := Stand.of_body B
    have hh0 : s₁.heap = s.heap := by rw [B.state]; rfl
    have hsz : scr.slots.size = xs.length := by rw [← Array.length_toList, hlist, List.length_map]
    have hval : ∀ j : Nat, j < xs.length → scr.slots[j]? = some (.int (xs.getD j 0)) := fun j hj => by
      rw [← Array.getElem?_toList, hlist]
      simp [hj]
    have hbl : b < s.heap.size := (Array.getElem?_eq_some_iff.mp hcb).1
    have hX : va_X b xs.length (fun j => xs.getD j 0) s s.heap := ⟨scr, hcb, hof, hkn, hsz, hval⟩
    have K : W p l e room_1 s m #[Value.ref b] below meth c s₁.heap [] 0 0 (lw_Z below #[Value.ref b] s) (entryFrame m ([Value.ref b] : List Value).toArray 7) := by
      rw [hh0]
      exact whole_start l hflags hbd ⟨B.exec, B.bytes, B.returns, hml, hown, hts, hX, hbl, B.notSynchronized, hgv⟩
    obtain ⟨t, a1, o, b1, b2, b3⟩ := K s₁ rfl X₀
    exact ⟨t, o, a1, b1, b2, b3⟩
theorem lw_pre_spec {args : Array Value} {s : State} (h : (Jvm.Cond.and given_1 narrow_1).before args s = true) (hr : rest_1_c.before args s = true) : ∃ (b : Addr) (xs : List Int32), lw_P b xs args s := by
  have hs := flat_of_before _ h
  have hq := flat_of_before _ hr
  have hc : (Cond.count 1).before args s = true := hs _ (by decide +kernel)
  have harr : (Cond.arrayOf (.arg 0) .int).before args s = true := hs _ (by decide +kernel)
  have hle : (Cond.le (.length (.arg 0)) (.int 3072)).before args s = true := hs _ (by decide +kernel)
  have hlen : (Cond.isInt (.length (.arg 0))).before args s = true := hq _ (by decide +kernel)
  have hall : (Cond.all (.arg 0) (.isInt (.elem (.arg 0) (.index 0)))).before args s = true := hq _ (by decide +kernel)
  obtain ⟨b, xs, hb, hx⟩ := State.ints_of_pre rfl harr hlen hall
  have hsm : xs.length < 2 ^ 31 := hx.choose_spec.2.2.2
  have hev : (Term.length (.arg 0)).eval args s none [] s = some (.int xs.length.toInt32) := hx.length_eval hb
  have hv := Cond.le_ints hev (show (Term.int 3072).eval args s none [] s = some (.int 3072) from rfl)
  have hd : xs.length.toInt32 ≤ 3072 := by
    simpa [Cond.before, Cond.holds, hv] using hle
  have hN : xs.length ≤ 3072 := (Int32.ofNat_le_ofNat hsm (by decide)).mp (show Int32.ofNat xs.length ≤ Int32.ofNat 3072 from hd)
  exact ⟨b, xs, Cond.one_arg hc (show args[0]? = some (.ref b) from hb), hx, hN, h⟩
theorem lw_comes (l : Launch) (hflags : l.flags = flags0) : Comes l x (Jvm.Cond.code x code maxLocals ret :: tables_1) room_1 (fun tb e args s => Calls_1 tb e args s ∧ rest_1 tb e args s ∧ Pre_1 tb e args s)
    (fun _ _ args s o t => lw_Q args s o t) := by
  intro p e ha hc hk s m args below hf hfit hheap happ hpre
  obtain ⟨b, xs, hP⟩ := lw_pre_spec hpre.2.2 hpre.2.1
  obtain ⟨k, o, h1, h2, h3, hQ⟩ := lw_walk l hflags b xs p e ha hc hk s m args below hf ((Spec.applies_iff_loose hf).mp happ).1 hP trivial
  exact ⟨k, o, h1, h2, h3, hQ⟩
theorem lw_frame {s t : State} {o : Outcome} {args : Array Value} (h : Framed s o t [] 601024 7293034) :
    Framed s o t (fieldLocs frame_1_writes args s ++ arrayLocs frame_1_arrays args s ++ staticLocs frame_1_statics s) 601024 7293034 := h
theorem lw_limb (L : Cond) (hL : ∀ (args : Array Value) (s t : State), L.after args s (.returned (some (.int 1))) t = true) :
    ArmFor flags0 classFile x code maxLocals ret World_1 tables_1 room_1 Calls_1 rest_1 Pre_1
      (fun tb e a s o t => postC L tb e a s o t ∧ Framed s o t (fieldLocs frame_1_writes a s ++ arrayLocs frame_1_arrays a s ++ staticLocs frame_1_statics s) 601024 7293034) := by
  intro l hflags _ _ p e ha hc hk s m args below hf hfit hheap happ hpre
  obtain ⟨k, o, h1, h2, h3, rfl, hF⟩ := lw_comes l hflags p e ha hc hk s m args below hf hfit hheap happ hpre
  exact ⟨k, _, h1, h2, h3, hL args s _, lw_frame hF⟩
theorem i_vc : Claimed_1_1 ∧ Claimed_1_2 := ⟨lw_limb limb_1_1 (fun args s t => by simp [limb_1_1, Cond.after, Cond.holds, Cond.value]), lw_limb limb_1_2 (fun args s t => Cond.after_iff.mpr (by
  first | (rw [show limb_1_2 = Cond.eq .result (.int 1) from rfl, Cond.eq_ints (x := 1) (y := 1) rfl rfl]; simp; done) | (simp [limb_1_2, Cond.value, Term.eval]; done)))⟩
