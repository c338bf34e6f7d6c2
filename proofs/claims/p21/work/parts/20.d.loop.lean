/-! THE LAW: from its entry through its loop -/
section LE
variable {p : Program} {l : Launch} {e : Env} {R : Room} {s : State} {m : MethodId} {args : Array Value} {below : List Frame} {meth : Method} {c : Code} {cells slots : Nat} {Q : State → Prop} {cc : ByteArray} {nL : Nat} {Ts : List Cond} {own : String} {ret : Option FieldType} {G : va_G} {cy : Nat → ClassId} {A : Nat → Prop} {w w' wc : va_W} {pc : Nat} {lo : List (Option Value)} {st rest : List Value}
theorem V.perm (h : w.Perm w') (k : V p l e R s m args below meth c nL G A Q w' cells slots (pc) lo (st)) : V p l e R s m args below meth c nL G A Q w cells slots (pc) lo (st) := fun H locs ls hP hD hS hl => k H locs ls (by
  rw [vP_iff] at hP ⊢
  exact fun q hq => hP q (h.mem_iff.mpr hq)) (by
  rw [vD_iff] at hD ⊢
  exact ⟨(h.map (·.1)).nodup_iff.mp hD.1, fun q hq => hD.2 q (h.mem_iff.mpr hq)⟩) hS hl
/-- a constructor's call: what was made lies where some ad says -/
theorem v_callIE (C : vC p s m args meth c cc nL Ts own ret G cy A) (hE : vE s) (wl wr : va_W) {y : MethodName} {wsY wsY' : List Cond} {fr lc mc ms idx h0 maxL : Nat} {bytes : ByteArray} {Wf : (Nat → Nat) → va_W} (k : KE l G cy y wsY fr lc mc ms h0 wc Wf) (hw : wsY = Cond.code y bytes maxL none :: wsY') (hg : GoodIn Ts wsY) (hini : Cond.initialized y.cls ∈ Ts) (hlink : Cond.methodLink own idx y ∈ Ts) (hinst : Cond.instanceMethod y ∈ Ts) (hy1 : y.name = "<init>")
    (hy : y.cls ≠ "java/lang/invoke/MethodHandle" ∧ y.cls ≠ "java/lang/invoke/VarHandle" ∧ (parseMethodDescriptor y.desc).map (fun d => d.parameters.length) = some 0) (hR : fr + 1 ≤ R.frames ∧ 8 + (maxL + 11) + lc ≤ R.locals) (hcs : cells + mc ≤ R.cells ∧ slots + ms ≤ R.slots)
    (hcat : (rest.map fun v => v.category).sum ≤ 8) (hw0 : w = wl ++ (wc ++ wr)) (hd : decode cc pc = .ok (.invokespecial idx, 3)) (kk : ∀ ad : Nat → Nat, ad 0 = h0 → V p l e R s m args below meth c nL G A Q (wl ++ (Wf ad ++ wr)) (cells + mc) (slots + ms) (pc + 3) lo (rest)) : V p l e R s m args below meth c nL G A Q w cells slots (pc) lo (.ref h0 :: rest) := by
  subst hw0
  intro H locs ls hP hD hS hl
  obtain ⟨hPc, hDc⟩ := v_in hP hD
  have hFc := v_free hDc hS C.2.2.1
  refine va_callv (va_runI (As := []) (rest := rest) C.1 (k H.size) (cwI 0 C.1.2.2.2.2 hg hw rfl rfl (C.1.2.2.2.2 _ hini) (C.1.2.2.2.2 _ hlink) (C.1.2.2.2.2 _ hinst) hy1 hy hR) ⟨vIe_blind, fun U hU hW => ⟨rfl, ⟨by rw [hU], by rw [hU]; exact hPc, va_K.moved hW.alike C.2.1, hDc.weaken (fun _ _ _ _ => trivial)⟩, hE.warm hW⟩⟩ rfl rfl (hl.1.1) rfl (lv_room hcat) hd hcs) hS (fun q _ h => hFc q h) hFc (fun u t H1 locs1 ht hvm hr' hB hz hk hS1 => ?_)
  obtain ⟨hP1, hK1, hD1⟩ := hB
  rw [ht] at hP1
  obtain ⟨hP2, hD2⟩ := v_join hP hD hFc hk hP1 hD1
  exact kk u hr' H1 locs1 ls hP2 hD2 hS1 hl
end LE
def xA : Sg := fun f k => if f = 10 then -1 else if f = 11 then -1 else if f = 15 then -1 else if f = 3 then (if k = 0 then -1 else 0) else 0
def xB : Sg := fun f k => if f = 15 then -1 else xD f k
theorem rA_z : rA xA = fun _ => 0 := by funext q; unfold rA xA; simp
theorem pA_z {f : Nat} (h : f = 10 ∨ f = 11 ∨ f = 15) : pA xA f = fun _ => 0 := by
  funext q
  have e : xA f q = -1 := by
    unfold xA
    rcases h with rfl | rfl | rfl <;> simp
  show xA f q + 1 = 0
  rw [e]
  decide
theorem bA_z : bA xA = fun _ => 0 := by funext q; unfold bA xA; simp
theorem nAr_z : nAr xA = fun _ => 0 := by
  funext q
  unfold nAr xA
  by_cases h0 : q = 0
  · subst h0; decide
  by_cases h1 : q = 1
  · subst h1; decide
  by_cases h2 : q = 2
  · subst h2; decide
  by_cases h3 : q = 3
  · subst h3; decide
  by_cases h4 : q = 4
  · subst h4; decide
  simp [h0, h1, h2, h3, h4]
theorem fA_z {f : Nat} (h : f = 9 ∨ f = 14 ∨ f = 16 ∨ f = 18) : xA f = fun _ => 0 := by
  funext q
  unfold xA
  rcases h with rfl | rfl | rfl | rfl <;> simp
def alI (q0 q1 q2 q3 q4 q5 q6 q7 q8 q9 : Nat) : Nat → Nat := fun i => [q0, q1, q2, q3, q4, q5, q6, q7, q8, q9].getD i 0
def zA (cy : Nat → ClassId) (q n : Nat) : Nat × va_E := (q, .inl (cy 0, n, .inl (fun _ => 0)))
theorem wL_z (cy : Nat → ClassId) (q0 q1 q2 q3 q4 q5 q6 q7 q8 q9 : Nat) (wr : va_W) : wL cy (alI q0 q1 q2 q3 q4 q5 q6 q7 q8 q9) xA wr = zA cy q0 60 :: zA cy q1 20 :: zA cy q2 20 :: zA cy q3 20 :: zA cy q4 10 :: zA cy q5 5 :: zA cy q6 2 :: zA cy q7 60 :: zA cy q8 60 :: zA cy q9 5 :: wr := by
  unfold wL
  rw [rA_z, pA_z (Or.inl rfl), pA_z (Or.inr (Or.inl rfl)), pA_z (Or.inr (Or.inr rfl)), bA_z, nAr_z, fA_z (Or.inl rfl), fA_z (Or.inr (Or.inl rfl)), fA_z (Or.inr (Or.inr (Or.inl rfl))), fA_z (Or.inr (Or.inr (Or.inr rfl)))]
  rfl
theorem xB_c : ∀ f k, f ≠ 17 → xB f k = fillc 5 xA f k := by
  intro f k h17
  unfold xB
  by_cases h15 : f = 15
  · subst h15
    rw [if_pos rfl, fillc_f _ _ (by decide)]
    rfl
  · rw [if_neg h15]
    by_cases h12 : f = 12
    · subst h12
      unfold xD
      rw [fillm_f _ _ (by decide), fillp_f _ _ (by decide)]
      exact fill_c (fun k => by simp [xi0, xA]) 5 k
    · rw [xD_f h17 h15 h12, fillc_f _ _ h12]
      simp [xi0, xA, h15]
theorem arr_i {cA : ClassId} {n : Nat} {f g : Nat → Int32} (h : ∀ j, j < n → f j = g j) : vp_cell cA (n, .inl f) = vp_cell cA (n, .inl g) := by
  rw [vp_cell_i, vp_cell_i]
  unfold arrV
  congr 2
  funext j
  show Value.int (f j.val) = Value.int (g j.val)
  rw [h j.val j.isLt]
theorem xB_f {f : Nat} (h : f ≠ 15) : xB f = xD f := by funext k; unfold xB; rw [if_neg h]
theorem wL_B (G : va_G) (cy : Nat → ClassId) (al : Nat → Nat) (wr : va_W) (H : Heap) (hP : va_P G vwCl (wL cy al xB wr) H) : va_P G vwCl (wL cy al xD wr) H := by
  have e : wL cy al xB wr = (al 0, .inl (cy 0, 60, .inl (rA xD))) :: (al 1, .inl (cy 0, 20, .inl (xD 9))) :: (al 2, .inl (cy 0, 20, .inl (pA xD 10))) :: (al 3, .inl (cy 0, 20, .inl (pA xD 11))) :: (al 4, .inl (cy 0, 10, .inl (bA xD))) :: (al 5, .inl (cy 0, 5, .inl (xD 14))) :: (al 6, .inl (cy 0, 2, .inl (pA xB 15))) :: (al 7, .inl (cy 0, 60, .inl (xD 16))) :: (al 8, .inl (cy 0, 60, .inl (xD 18))) :: (al 9, .inl (cy 0, 5, .inl (nAr xD))) :: wr := by
    unfold wL
    have e1 : rA xB = rA xD := by unfold rA; rw [xB_f (by decide), xB_f (by decide), xB_f (by decide)]
    have e2 : bA xB = bA xD := by unfold bA; rw [xB_f (by decide), xB_f (by decide)]
    have e3 : nAr xB = nAr xD := by unfold nAr; rw [xB_f (by decide), xB_f (by decide), xB_f (by decide), xB_f (by decide), xB_f (by decide)]
    have e4 : ∀ f, f ≠ 15 → pA xB f = pA xD f := fun f h => by unfold pA; rw [xB_f h]
    rw [e1, e2, e3, e4 10 (by decide), e4 11 (by decide), xB_f (by decide), xB_f (by decide), xB_f (by decide), xB_f (by decide)]
  rw [e] at hP
  rw [vP_iff] at hP ⊢
  intro q hq
  unfold wL at hq
  rcases List.mem_cons.mp hq with rfl | hq
  · exact hP _ (by simp)
  rcases List.mem_cons.mp hq with rfl | hq
  · exact hP _ (by simp)
  rcases List.mem_cons.mp hq with rfl | hq
  · exact hP _ (by simp)
  rcases List.mem_cons.mp hq with rfl | hq
  · exact hP _ (by simp)
  rcases List.mem_cons.mp hq with rfl | hq
  · exact hP _ (by simp)
  rcases List.mem_cons.mp hq with rfl | hq
  · exact hP _ (by simp)
  rcases List.mem_cons.mp hq with rfl | hq
  · have h9 := hP (al 6, .inl (cy 0, 2, .inl (pA xB 15))) (by simp)
    show H[al 6]? = some (vp_cell (cy 0) (2, .inl (pA xD 15)))
    rw [arr_i (g := pA xB 15) (fun j hj => by
      unfold pA xB
      rw [if_pos rfl]
      rcases J_new.okp j hj with q | ⟨b, hb, q⟩
      · rw [q]
      · exfalso
        have e9 : xD 15 j = -1 := by
          unfold xD
          rw [fillm_f _ _ (by decide)]
          show su (su _ 15 0 (-1)) 15 1 (-1) 15 j = -1
          rcases (show j = 0 ∨ j = 1 by omega) with rfl | rfl
          · rw [su_k _ _ _ (by decide), su_s]
          · rw [su_s]
        rw [e9] at q
        exact nI_nm (by omega) q.symm)]
    exact h9
  rcases List.mem_cons.mp hq with rfl | hq
  · exact hP _ (by simp)
  rcases List.mem_cons.mp hq with rfl | hq
  · exact hP _ (by simp)
  rcases List.mem_cons.mp hq with rfl | hq
  · exact hP _ (by simp)
  exact hP q (by simp only [List.mem_cons]; exact Or.inr (Or.inr (Or.inr (Or.inr (Or.inr (Or.inr (Or.inr (Or.inr (Or.inr (Or.inr hq))))))))))
theorem wL_ad (cy : Nat → ClassId) (al : Nat → Nat) (x y : Sg) (wr : va_W) : (wL cy al x wr).map (·.1) = (wL cy al y wr).map (·.1) := rfl
theorem law_loop {p : Program} {l : Launch} {e : Env} {s : State} {m : MethodId} {args : Array Value} {below : List Frame} {meth : Method} {c : Code} {Q : State → Prop} {ret : Option FieldType} {G : va_G} {cy : Nat → ClassId} {A : Nat → Prop} {al ad : Nat → Nat} (C : vC p s m args meth c cL_law 25 wsL_law RL ret G cy A) (hX : xT A s s.heap) (hN : xN s) (hl : l.stackTraces = false) {b0 : Nat} {L : Nat} {xs : Nat → Int32} (S : va_X b0 L xs s s.heap) (hbl : b0 < s.heap.size) (hbA : ¬ A b0) (hL : L ≤ 260) (fin : ∀ (w : va_W) (cells slots : Nat) (lo : List (Option Value)), cells ≤ 600086 → slots ≤ 7301441 → V p l e room_1 s m args below meth c 25 G A Q w cells slots 1580 lo [.int 1]) : ∀ (fu k n om t : Nat) (x : Sg), 130 < k + fu → k ≤ 130 → J k n om t x → V p l e room_1 s m args below meth c 25 G A Q (wL cy al x (wD cy ad x)) (100 + 8 * k) (3000 + 48 * k) 109 [some (.ref b0), some (.ref (ad 0)), some (.ref (al 0)), some (.ref (al 1)), some (.ref (al 2)), some (.ref (al 3)), some (.ref (al 4)), some (.ref (al 5)), some (.ref (al 6)), some (.ref (al 7)), some (.ref (al 8)), some (.ref (al 9)), some (.int 1), some (.int (nI k)), none, none, none, none, none, none, none, none, none, none, none] [] := by
  intro fu
  induction fu with
  | zero => intro k n om t x h1 h2; omega
  | succ fu ih =>
    intro k n om t x h1 h2 h
    refine v_iload C dL_law_109 rfl ?_
    refine v_sipush C 130 dL_law_111 (by decide) ?_
    refine v_icmp_ge C 1549 dL_law_114 (by decide) (fun _ => law_last C hX hN hl h (by omega) (by omega) (by omega) fin) (fun z => ?_)
    have hk : k < 130 := (nI_ltI (b := 130) (by omega) (by decide)).mp z
    refine v_iload C dL_law_117 rfl ?_
    refine v_if_eq C 1549 dL_law_119 (by decide) (fun z => absurd z (by decide)) (fun _ => ?_)
    refine law_turn C hX hN hl h (by omega) (by omega) (by omega) hk S hbl hbA hL (fun Y n' om' t' x' hJ => ?_)
    refine law_behind C hX hN hl hJ (by omega) (by omega) (by omega) ?_
    exact V.widen (by omega) (by omega) (ih (k + 1) n' om' t' x' (by omega) (by omega) hJ)
/-- from the new depot and the new arrays on -/
theorem law_new {p : Program} {l : Launch} {e : Env} {s : State} {m : MethodId} {args : Array Value} {below : List Frame} {meth : Method} {c : Code} {Q : State → Prop} {ret : Option FieldType} {G : va_G} {cy : Nat → ClassId} {A : Nat → Prop} {al ad : Nat → Nat} (C : vC p s m args meth c cL_law 25 wsL_law RL ret G cy A) (hX : xT A s s.heap) (hN : xN s) (hl : l.stackTraces = false) {b0 : Nat} {L : Nat} {xs : Nat → Int32} (S : va_X b0 L xs s s.heap) (hbl : b0 < s.heap.size) (hbA : ¬ A b0) (hL : L ≤ 260) (fin : ∀ (w : va_W) (cells slots : Nat) (lo : List (Option Value)), cells ≤ 600086 → slots ≤ 7301441 → V p l e room_1 s m args below meth c 25 G A Q w cells slots 1580 lo [.int 1]) : V p l e room_1 s m args below meth c 25 G A Q (wL cy al xA (wD cy ad xD)) 48 2501 63 [some (.ref b0), some (.ref (ad 0)), some (.ref (al 0)), some (.ref (al 1)), some (.ref (al 2)), some (.ref (al 3)), some (.ref (al 4)), some (.ref (al 5)), some (.ref (al 6)), some (.ref (al 7)), some (.ref (al 8)), some (.ref (al 9)), none, none, none, none, none, none, none, none, none, none, none, none, none] [] := by
  refine v_iconst C 0 dL_law_63 (by decide) ?_
  refine v_istore C dL_law_64 (by decide) ?_
  refine V.loop (fun k : Nat => wL cy al (fillc k xA) (wD cy ad xD)) (fun k : Nat => ([some (.ref b0), some (.ref (ad 0)), some (.ref (al 0)), some (.ref (al 1)), some (.ref (al 2)), some (.ref (al 3)), some (.ref (al 4)), some (.ref (al 5)), some (.ref (al 6)), some (.ref (al 7)), some (.ref (al 8)), some (.ref (al 9)), some (.int (nI k)), none, none, none, none, none, none, none, none, none, none, none, none] : List (Option Value))) (fun _ => True) 5 ?_ trivial
  intro k hle hP ih
  try dsimp only at hP ih ⊢
  refine v_iload C dL_law_66 rfl ?_
  refine v_iconst C 5 dL_law_68 (by decide) ?_
  refine v_geN C k 5 87 dL_law_69 (by decide) rfl rfl (by omega) (by decide) (fun c1 => ?_) (fun c1 => ?_)
  · have e_k : 5 = k := by omega
    subst e_k
    refine V.ew (w' := wL cy al xB (wD cy ad xD)) (wL_c xB_c) ?_
    refine V.cong (w' := wL cy al xD (wD cy ad xD)) (fun H hP => wL_B G cy al _ H hP) (wL_ad _ _ _ _ _) ?_
    have h := J_new
    refine v_aload_n C dL_law_87 rfl ?_
    refine v_aload C dL_law_88 rfl ?_
    refine v_aload_n C dL_law_90 rfl ?_
    refine v_aload_n C dL_law_91 rfl ?_
    refine v_aload C dL_law_92 rfl ?_
    refine v_aload C dL_law_94 rfl ?_
    refine v_aload C dL_law_96 rfl ?_
    refine v_aload C dL_law_98 rfl ?_
    refine v_iconst C 1 dL_law_100 (by decide) ?_
    refine v_sI C (k_L_isDepot l G cy al ad xD 0 h.n1 h.n20 0 h.o2 h.o60 h.ri.2.2.1 1) rfl gL_law_L_isDepot (nA := 9) (by decide +kernel) rfl (by decide) (by decide) rfl (Nat.le_of_ble_eq_true rfl) dL_law_101 ?_
    refine v_istore C dL_law_104 (by decide) ?_
    refine v_iconst C 0 dL_law_106 (by decide) ?_
    refine v_istore C dL_law_107 (by decide) ?_
    exact V.widen (by decide) (by decide) (law_loop C hX hN hl S hbl hbA hL fin 131 0 0 0 0 xD (by decide) (by decide) J_new)
  · refine v_aload C dL_law_72 rfl ?_
    refine v_iconst C 2 dL_law_74 (by decide) ?_
    refine v_iload C dL_law_75 rfl ?_
    refine v_imul C dL_law_77 ?_
    refine v_bipush C 100 dL_law_78 (by decide) ?_
    refine vL_s_b0 C k rfl (by omega) dL_law_80 ?_
    refine v_incN C dL_law_81 rfl (by decide) ?_
    refine v_goto C 66 dL_law_84 (by decide) ?_
    exact ih c1 trivial
