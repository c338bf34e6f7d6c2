/-! THE LAW: rows over both worlds, one call after the other -/
def wL (cy : Nat → ClassId) (ao : Nat) (f : Nat → Int64) (ad : Nat → Nat) (x : Sg) (am : Nat → Nat) (y : Sg) : va_W := wOD cy ao f ad x ++ wM cy am y
section LW
variable {p : Program} {l : Launch} {e : Env} {R : Room} {s : State} {m : MethodId} {args : Array Value} {below : List Frame} {meth : Method} {c : Code} {cells slots : Nat} {Q : State → Prop} {cc : ByteArray} {nL : Nat} {Ts : List Cond} {own : String} {ret : Option FieldType} {G : va_G} {cy : Nat → ClassId} {A : Nat → Prop} {w w' w2 wc w1 : va_W} {pc : Nat} {lo : List (Option Value)} {st rest : List Value} {ad am : Nat → Nat} {ao : Nat} {f f' : Nat → Int64} {x x' y y' : Sg}
variable {mn : MethodName} {wsY wsY' : List Cond} {fr lc mc ms : Nat} {As : List Value} {r : Int32} {b : Nat} {bytes : ByteArray} {maxL idx nA : Nat} {retY : Option FieldType}
theorem v_sld (C : vC p s m args meth c cc nL Ts own ret G cy A) {b0 L : Nat} {xs : Nat → Int32} (S : va_X b0 L xs s s.heap) (hbl : b0 < s.heap.size) (hbA : ¬ A b0) (j : Nat) {i : Int32} (hi : i = nI j) (hj : j < L) (hL : L ≤ 3072) (hd : decode cc pc = .ok (.iaload, 1)) (k : V p l e R s m args below meth c nL G A Q w cells slots (pc + 1) lo (.int (xs j) :: st)) : V p l e R s m args below meth c nL G A Q w cells slots (pc) lo (.int i :: .ref b0 :: st) := by
  subst hi
  intro H locs ls hP hD hS hl
  refine va_sld C.1.1 C.1.2.1 S hbl hbA hS (vp_in_nI hj (by omega)) hd ?_
  rw [nI_clamp (by omega)]
  exact k H locs ls hP hD hS hl
theorem v_slen (C : vC p s m args meth c cc nL Ts own ret G cy A) {b0 L : Nat} {xs : Nat → Int32} (S : va_X b0 L xs s s.heap) (hbl : b0 < s.heap.size) (hbA : ¬ A b0) (hd : decode cc pc = .ok (.arraylength, 1)) (k : V p l e R s m args below meth c nL G A Q w cells slots (pc + 1) lo (.int (nI L) :: st)) : V p l e R s m args below meth c nL G A Q w cells slots (pc) lo (.ref b0 :: st) := fun H locs ls hP hD hS hl => va_slen C.1.1 C.1.2.1 S hbl hbA hS hd (k H locs ls hP hD hS hl)
theorem v_tabIn (C : vC p s m args meth c cc nL Ts own ret G cy A) {dflt lo0 hi : Int} {offs : Array Int} {len : Nat} {v : Int32} {off : Int} (tgt : Nat) (hd : decode cc pc = .ok (.tableswitch dflt lo0 hi offs, len)) (h1 : ¬ v.toInt < lo0) (h2 : ¬ hi < v.toInt) (ho : offs[(v.toInt - lo0).toNat]? = some off) (ht : (pc : Int) + off = (tgt : Int)) (k : V p l e R s m args below meth c nL G A Q w cells slots (tgt) lo (st)) : V p l e R s m args below meth c nL G A Q w cells slots (pc) lo (.int v :: st) := fun H locs ls hP hD hS hl => lv_tableIn C.1.1 C.1.2.1 hd h1 h2 ho ht (k H locs ls hP hD hS hl)
theorem v_tabOut (C : vC p s m args meth c cc nL Ts own ret G cy A) {dflt lo0 hi : Int} {offs : Array Int} {len : Nat} {v : Int32} (tgt : Nat) (hd : decode cc pc = .ok (.tableswitch dflt lo0 hi offs, len)) (h : v.toInt < lo0 ∨ hi < v.toInt) (ht : (pc : Int) + dflt = (tgt : Int)) (k : V p l e R s m args below meth c nL G A Q w cells slots (tgt) lo (st)) : V p l e R s m args below meth c nL G A Q w cells slots (pc) lo (.int v :: st) := fun H locs ls hP hD hS hl => lv_tableOut C.1.1 C.1.2.1 hd h ht (k H locs ls hP hD hS hl)
theorem vL_w (C : vC p s m args meth c cc nL Ts own ret G cy A) (hX : xT A s s.heap) (hN : xN s) {hh : List (Nat × Nat × Nat × Nat)} (k : KW l G cy mn wsY fr lc mc ms As (wOD cy ao f ad x) r (wOD cy ao f' ad x')) (hw : wsY = Cond.codeWith mn bytes maxL retY hh :: wsY') (hg : GoodIn Ts (va_wsS own idx mn wsY)) (hy : mn.cls ≠ "java/lang/invoke/MethodHandle" ∧ mn.cls ≠ "java/lang/invoke/VarHandle" ∧ (parseMethodDescriptor mn.desc).map (fun d => d.parameters.length) = some nA) (hna : As.length = nA) (hR : fr + 1 ≤ R.frames ∧ 8 + (maxL + 11) + lc ≤ R.locals) (hcs : cells + mc ≤ R.cells ∧ slots + ms ≤ R.slots) (hst : st = As.reverse ++ rest) (hcat : (rest.map fun v => v.category).sum ≤ 8) (hd : decode cc pc = .ok (.invokestatic idx, 3)) (kk : V p l e R s m args below meth c nL G A Q (wL cy ao f' ad x' am y) (cells + mc) (slots + ms) (pc + 3) lo (.int r :: rest)) : V p l e R s m args below meth c nL G A Q (wL cy ao f ad x am y) cells slots (pc) lo (st) :=
  v_sW C hX hN [] (wM cy am y) k hw hg hy hna hR hcs hst hcat rfl rfl hd kk
theorem vL_m (C : vC p s m args meth c cc nL Ts own ret G cy A) (k : KI l G cy mn wsY fr lc 0 0 (.ref (am 0) :: As) (wM cy am y) r (wM cy am y')) (hw : wsY = Cond.code mn bytes maxL retY :: wsY') (hg : GoodIn Ts (wsV own idx mn.cls mn wsY)) (hy : mn.cls = mn.cls ∧ mn.cls ≠ "java/lang/invoke/MethodHandle" ∧ mn.cls ≠ "java/lang/invoke/VarHandle" ∧ (parseMethodDescriptor mn.desc).map (fun d => d.parameters.length) = some nA) (hna : As.length = nA) (hR : fr + 1 ≤ R.frames ∧ 8 + (maxL + 11) + lc ≤ R.locals) (hcs : cells ≤ R.cells ∧ slots ≤ R.slots) (hq : RX2 = mn.cls) (hst : st = As.reverse ++ .ref (am 0) :: rest) (hcat : (rest.map fun v => v.category).sum ≤ 8) (hd : decode cc pc = .ok (.invokevirtual idx, 3)) (kk : V p l e R s m args below meth c nL G A Q (wL cy ao f ad x am y') cells slots (pc + 3) lo (.int r :: rest)) : V p l e R s m args below meth c nL G A Q (wL cy ao f ad x am y) cells slots (pc) lo (st) :=
  v_callVI C (wOD cy ao f ad x) [] k hw hg hy hna hR hcs hst hcat 0 2 rfl rfl hq (by simp [wL]) (by simp [wL]) hd kk
theorem vL_d (C : vC p s m args meth c cc nL Ts own ret G cy A) (k : KI l G cy mn wsY fr lc 0 0 (.ref (ad 0) :: As) (wD cy ad x) r (wD cy ad x)) (hw : wsY = Cond.code mn bytes maxL retY :: wsY') (hg : GoodIn Ts (wsV own idx mn.cls mn wsY)) (hy : mn.cls = mn.cls ∧ mn.cls ≠ "java/lang/invoke/MethodHandle" ∧ mn.cls ≠ "java/lang/invoke/VarHandle" ∧ (parseMethodDescriptor mn.desc).map (fun d => d.parameters.length) = some nA) (hna : As.length = nA) (hR : fr + 1 ≤ R.frames ∧ 8 + (maxL + 11) + lc ≤ R.locals) (hcs : cells ≤ R.cells ∧ slots ≤ R.slots) (hq : RX1 = mn.cls) (hst : st = As.reverse ++ .ref (ad 0) :: rest) (hcat : (rest.map fun v => v.category).sum ≤ 8) (hd : decode cc pc = .ok (.invokevirtual idx, 3)) (kk : V p l e R s m args below meth c nL G A Q (wL cy ao f ad x am y) cells slots (pc + 3) lo (.int r :: rest)) : V p l e R s m args below meth c nL G A Q (wL cy ao f ad x am y) cells slots (pc) lo (st) :=
  v_callVI C [(ao, .inl (cy 3, 1, .inr (.inl f)))] (wM cy am y) k hw hg hy hna hR hcs hst hcat 0 1 rfl rfl hq rfl rfl hd kk
end LW
theorem cd_0 {ls : List String} {xo : Option String} (hls : ls.length ≤ 1000) (h : cd ls xo = 0) : xo = none := by
  cases xo with
  | none => rfl
  | some E =>
    have h1 : ls.idxOf E ≤ ls.length := List.idxOf_le_length
    have h2 : nI (ls.idxOf E + 1) = 0 := h
    exact absurd h2 (nI_ne0 (by omega) (by omega))
theorem lg_self (v : Int64) : lg_cmp v v = 0 := by
  unfold lg_cmp
  rw [if_neg Int64.lt_irrefl, if_pos rfl]
theorem oc_0 (f : Nat → Int64) (v : Int64) : (oc none (vp_updL f 0 v) f : Nat → Int64) 0 = v := by
  show vp_updL f 0 v 0 = v
  simp [vp_updL]
noncomputable def bz (v : Int32) : Int32 := pif (v = 0) 0 1
theorem bz_n (v : Int32) : vp_nar .boolean (bz v) = bz v := by
  unfold bz
  by_cases h : v = 0
  · rw [pif_t h]; decide
  · rw [pif_f h]; decide
theorem e_q {a b : Option String} {E : String} (h : xq a b = some E) : a = some E ∨ b = some E := by
  cases a with
  | none => exact Or.inr h
  | some z => exact Or.inl h
theorem e_r {v a b : Int32} {E : String} (h : xRng v a b = some E) : E = nIA := by
  by_cases c : inr a b v
  · rw [xRng_t c] at h; cases h
  · rw [xRng_f c] at h; exact (Option.some.inj h).symm
theorem e_i {v a : Int32} {E : String} (h : xIdx v a = some E) : E = nIO := by
  by_cases c : ¬ v < 0 ∧ v < a
  · rw [xIdx_t c] at h; cases h
  · rw [xIdx_f c] at h; exact (Option.some.inj h).symm
theorem e_p {P : Prop} {a b : Option String} {E : String} (h : pif P a b = some E) : a = some E ∨ b = some E := by
  by_cases c : P
  · rw [pif_t c] at h; exact Or.inl h
  · rw [pif_f c] at h; exact Or.inr h
theorem hE_run {x : Sg} {st mi q : Int32} : ∀ E, xrun x st mi q = some E → E = nIA ∨ E = nIS := fun E h => by
  rcases e_q h with h | h
  · exact Or.inl (e_r h)
  rcases e_q h with h | h
  · exact Or.inl (e_r h)
  rcases e_q h with h | h
  · exact Or.inl (e_r h)
  rcases e_q h with h | h
  · exact Or.inl (e_r h)
  rcases e_p h with h | h
  · cases h
  · exact Or.inr (Option.some.inj h).symm
theorem hE_lead {d mi : Int32} : ∀ E, xlead d mi = some E → E = nIO ∨ E = nIA := fun E h => by
  rcases e_q h with h | h
  · exact Or.inl (e_i h)
  · exact Or.inr (e_r h)
theorem hE_order {n : Nat} {x : Sg} {dp mk r b d : Int32} : ∀ E, xorder n x dp mk r b d = some E → E = nIO ∨ E = nIA ∨ E = nIS := fun E h => by
  rcases e_q h with h | h
  · exact Or.inl (e_i h)
  rcases e_q h with h | h
  · exact Or.inl (e_i h)
  rcases e_q h with h | h
  · exact Or.inl (e_i h)
  rcases e_q h with h | h
  · exact Or.inl (e_i h)
  rcases e_q h with h | h
  · exact Or.inr (Or.inl (e_r h))
  rcases e_p h with h | h
  · rcases e_p h with h | h
    · rcases e_p h with h | h
      · cases h
      · exact Or.inr (Or.inr (Option.some.inj h).symm)
    · exact Or.inr (Or.inr (Option.some.inj h).symm)
  · cases h
theorem hE_idx {i a : Int32} : ∀ E, xIdx i a = some E → E = nIO := fun E h => e_i h
theorem hE_plug {n : Nat} {x : Sg} {b ch : Int32} : ∀ E, xplug n x b ch = some E → E = nIO ∨ E = nIS := fun E h => by
  rcases e_q h with h | h
  · exact Or.inl (e_i h)
  rcases e_q h with h | h
  · exact Or.inl (e_i h)
  rcases e_p h with h | h
  · exact Or.inr (Option.some.inj h).symm
  · cases h
theorem hE_adv {x : Sg} {mi : Int32} : ∀ E, xadv x mi = some E → E = nIA ∨ E = nIS := fun E h => by
  rcases e_q h with h | h
  · exact Or.inl (e_r h)
  rcases e_p h with h | h
  · exact Or.inr (Option.some.inj h).symm
  · cases h
section RA
variable {n om t : Nat} {x y : Sg}
theorem rel_y1 (h : Rel n om t x y) : y 1 0 = nI n := (ag_a h.2 1).trans h.1.1
theorem rel_y2 (h : Rel n om t x y) : y 2 0 = nI om := (ag_a h.2 2).trans h.1.2.2.1
theorem rel_okP (h : Rel n om t x y) : okP y := okP_f (x := x) (fun c _ => Or.inl (ag_a h.2 15)) h.1.2.2.2.2.2.2.1
theorem rel_okB (h : Rel n om t x y) : okB n y := fun k hk e => by
  rw [ag_a h.2 9] at e
  rcases h.1.2.2.2.2.2.1.2.2.1 k hk with ⟨q, -⟩ | ⟨-, ⟨b, hb, eb⟩, -⟩
  · rw [e] at q; rcases q with q | q <;> exact absurd q (by decide)
  · exact ⟨b, hb, (ag_r h.2 10 hk).trans eb⟩
theorem rel_b13 (h : Rel n om t x y) : ∀ k, vp_nar .boolean (x 13 k) = x 13 k := h.1.2.2.2.2.2.2.2.1
theorem rel_b14 (h : Rel n om t x y) : ∀ k, vp_nar .boolean (x 14 k) = x 14 k := h.1.2.2.2.2.2.2.2.2
theorem rel_c13 (h : Rel n om t x y) : ∀ k, vp_nar .boolean (y 13 k) = y 13 k := fun k => by rw [ag_a h.2 13]; exact rel_b13 h k
theorem rel_c14 (h : Rel n om t x y) : ∀ k, vp_nar .boolean (y 14 k) = y 14 k := fun k => by rw [ag_a h.2 14]; exact rel_b14 h k
end RA
theorem V.br {p : Program} {l : Launch} {e : Env} {R : Room} {s : State} {m : MethodId} {args : Array Value} {below : List Frame} {meth : Method} {c : Code} {cells slots : Nat} {Q : State → Prop} {nL : Nat} {G : va_G} {A : Nat → Prop} {pc : Nat} {st : List Value} (w : va_W) (pc' : Nat) (lo : List (Option Value)) (st' : Int32 → List Value) (T : Int32) (k : (∀ v, v = T → V p l e R s m args below meth c nL G A Q w cells slots (pc') lo (st' v)) → V p l e R s m args below meth c nL G A Q w cells slots (pc) lo (st)) (j : V p l e R s m args below meth c nL G A Q w cells slots (pc') lo (st' T)) : V p l e R s m args below meth c nL G A Q w cells slots (pc) lo (st) := k (fun v hv => hv ▸ j)
set_option maxHeartbeats 4000000 in
set_option maxRecDepth 100000 in
theorem law_run {p : Program} {l : Launch} {e : Env} {s : State} {m : MethodId} {args : Array Value} {below : List Frame} {meth : Method} {c : Code} {Q : State → Prop} {ret : Option FieldType} {G : va_G} {cy : Nat → ClassId} {A : Nat → Prop} {ad am : Nat → Nat} {ao : Nat} {f : Nat → Int64} {x y : Sg} (C : vC p s m args meth c cL_law 7 wsL_law RL ret G cy A) (hX : xT A s s.heap) (hN : xN s) (hl : l.stackTraces = false) {b0 L : Nat} {xs : Nat → Int32} (S : va_X b0 L xs s s.heap) (hbl : b0 < s.heap.size) (hbA : ¬ A b0) (hL : L ≤ 3072) {n om t k : Nat} (hk : 6 * k + 6 ≤ L) (hom : om ≤ k) (h : Rel n om t x y) (nx : ∀ (n' om' t' : Nat) (x' y' : Sg) (f' : Nat → Int64), om' ≤ k + 1 → Rel n' om' t' x' y' → V p l e room_1 s m args below meth c 7 G A Q (wL cy ao f' ad x' am y') (52 + 8 * k + 8) (4455 + 48 * k + 48) 1149 [some (.ref b0), some (.ref (ad 0)), some (.ref (am 0)), some (.ref ao), some (.int (nI (6 * k))), none, none] []) : V p l e room_1 s m args below meth c 7 G A Q (wL cy ao f ad x am y) (52 + 8 * k) (4455 + 48 * k) 128 [some (.ref b0), some (.ref (ad 0)), some (.ref (am 0)), some (.ref ao), some (.int (nI (6 * k))), none, none] [] := by
  obtain ⟨hcd, hr, n', om', t', hle, hrel⟩ := sim_run h (xs (6 * k + 1)) (xs (6 * k + 2)) (xs (6 * k + 3))
  refine v_aload_n C dL_law_128 rfl ?_
  refine v_aload_n C dL_law_129 rfl ?_
  refine v_iload C dL_law_130 rfl ?_
  refine v_iconst C 1 dL_law_132 (by decide) ?_
  refine v_iadd C dL_law_133 ?_
  refine v_sld C S hbl hbA (6 * k + 1) (nI_add (6 * k) 1) (by omega) hL dL_law_134 ?_
  refine v_aload_n C dL_law_135 rfl ?_
  refine v_iload C dL_law_136 rfl ?_
  refine v_iconst C 2 dL_law_138 (by decide) ?_
  refine v_iadd C dL_law_139 ?_
  refine v_sld C S hbl hbA (6 * k + 2) (nI_add (6 * k) 2) (by omega) hL dL_law_140 ?_
  refine v_aload_n C dL_law_141 rfl ?_
  refine v_iload C dL_law_142 rfl ?_
  refine v_iconst C 3 dL_law_144 (by decide) ?_
  refine v_iadd C dL_law_145 ?_
  refine v_sld C S hbl hbA (6 * k + 3) (nI_add (6 * k) 3) (by omega) hL dL_law_146 ?_
  refine v_aload_n C dL_law_147 rfl ?_
  refine vL_w C hX hN (k_L_run l G cy ad ao f x _ (xs (6 * k + 1)) (xs (6 * k + 2)) (xs (6 * k + 3)) _ _ hE_run (k_X1_run l G cy hl ad x n h.1.1 h.1.2.1 (xs (6 * k + 1)) (xs (6 * k + 2)) (xs (6 * k + 3)))) rfl gL_law_L_run (nA := 5) (by decide +kernel) rfl (by decide) (by constructor <;> simp only [room_1] <;> omega) rfl (Nat.le_of_ble_eq_true rfl) dL_law_148 ?_
  refine v_istore C dL_law_151 (by decide) ?_
  refine v_aload_n C dL_law_153 rfl ?_
  refine v_aload_n C dL_law_154 rfl ?_
  refine v_iload C dL_law_155 rfl ?_
  refine v_iconst C 1 dL_law_157 (by decide) ?_
  refine v_iadd C dL_law_158 ?_
  refine v_sld C S hbl hbA (6 * k + 1) (nI_add (6 * k) 1) (by omega) hL dL_law_159 ?_
  refine v_aload_n C dL_law_160 rfl ?_
  refine v_iload C dL_law_161 rfl ?_
  refine v_iconst C 2 dL_law_163 (by decide) ?_
  refine v_iadd C dL_law_164 ?_
  refine v_sld C S hbl hbA (6 * k + 2) (nI_add (6 * k) 2) (by omega) hL dL_law_165 ?_
  refine v_aload_n C dL_law_166 rfl ?_
  refine v_iload C dL_law_167 rfl ?_
  refine v_iconst C 3 dL_law_169 (by decide) ?_
  refine v_iadd C dL_law_170 ?_
  refine v_sld C S hbl hbA (6 * k + 3) (nI_add (6 * k) 3) (by omega) hL dL_law_171 ?_
  refine vL_m C (k_X2_run l G cy am y n (rel_y1 h) h.1.2.1 (xs (6 * k + 1)) (xs (6 * k + 2)) (xs (6 * k + 3))) rfl gL_law_X2_run (nA := 3) (by decide +kernel) rfl (by decide) (by constructor <;> simp only [room_1] <;> omega) rfl rfl (Nat.le_of_ble_eq_true rfl) dL_law_172 ?_
  refine v_istore C dL_law_175 (by decide) ?_
  refine v_aload_n C dL_law_177 rfl ?_
  refine vL_m C (k_X2_thrown l G cy am _) rfl gL_law_X2_thrown (nA := 0) (by decide +kernel) rfl (by decide) (by constructor <;> simp only [room_1] <;> omega) rfl rfl (Nat.le_of_ble_eq_true rfl) dL_law_178 ?_
  refine v_iload C dL_law_181 rfl ?_
  refine v_icmp_eq C 188 dL_law_183 (by decide) (fun _ => ?_) (fun z => absurd hcd.symm z)
  refine v_iload C dL_law_188 rfl ?_
  refine v_if_ne C 205 dL_law_190 (by decide) (fun _ => ?_) (fun z => ?_)
  · -- both have thrown
    refine v_goto C 1149 dL_law_205 (by decide) ?_
    exact V.lof 5 (V.lof 6 (nx n' om' t' _ _ _ (by omega) hrel))
  · have hxn := cd_0 (by decide) z
    refine v_aload_n C dL_law_193 rfl ?_
    refine v_iconst C 0 dL_law_194 (by decide) ?_
    refine v_lald C 0 0 rfl rfl (by decide) (by decide) dL_law_195 ?_
    rw [hxn] at hrel ⊢
    refine V.es (congrArg (fun z : Int64 => ([.long z] : List Value)) (oc_0 _ _)) ?_
    refine v_iload C dL_law_196 rfl ?_
    refine v_i2l C dL_law_198 ?_
    refine v_lcmp C dL_law_199 ?_
    refine v_if_eq C 205 dL_law_200 (by decide) (fun _ => ?_) (fun z => absurd (by rw [hr hxn]; exact lg_self _) z)
    refine v_goto C 1149 dL_law_205 (by decide) ?_
    exact V.lof 5 (V.lof 6 (nx n' om' t' _ _ _ (by omega) hrel))
set_option maxHeartbeats 4000000 in
set_option maxRecDepth 100000 in
theorem law_lead {p : Program} {l : Launch} {e : Env} {s : State} {m : MethodId} {args : Array Value} {below : List Frame} {meth : Method} {c : Code} {Q : State → Prop} {ret : Option FieldType} {G : va_G} {cy : Nat → ClassId} {A : Nat → Prop} {ad am : Nat → Nat} {ao : Nat} {f : Nat → Int64} {x y : Sg} (C : vC p s m args meth c cL_law 7 wsL_law RL ret G cy A) (hX : xT A s s.heap) (hN : xN s) (hl : l.stackTraces = false) {b0 L : Nat} {xs : Nat → Int32} (S : va_X b0 L xs s s.heap) (hbl : b0 < s.heap.size) (hbA : ¬ A b0) (hL : L ≤ 3072) {n om t k : Nat} (hk : 6 * k + 6 ≤ L) (hom : om ≤ k) (h : Rel n om t x y) (nx : ∀ (n' om' t' : Nat) (x' y' : Sg) (f' : Nat → Int64), om' ≤ k + 1 → Rel n' om' t' x' y' → V p l e room_1 s m args below meth c 7 G A Q (wL cy ao f' ad x' am y') (52 + 8 * k + 8) (4455 + 48 * k + 48) 1149 [some (.ref b0), some (.ref (ad 0)), some (.ref (am 0)), some (.ref ao), some (.int (nI (6 * k))), none, none] []) : V p l e room_1 s m args below meth c 7 G A Q (wL cy ao f ad x am y) (52 + 8 * k) (4455 + 48 * k) 208 [some (.ref b0), some (.ref (ad 0)), some (.ref (am 0)), some (.ref ao), some (.int (nI (6 * k))), none, none] [] := by
  obtain ⟨hcd, hr, n', om', t', hle, hrel⟩ := sim_lead h (xs (6 * k + 1)) (xs (6 * k + 2))
  refine v_aload_n C dL_law_208 rfl ?_
  refine v_aload_n C dL_law_209 rfl ?_
  refine v_iload C dL_law_210 rfl ?_
  refine v_iconst C 1 dL_law_212 (by decide) ?_
  refine v_iadd C dL_law_213 ?_
  refine v_sld C S hbl hbA (6 * k + 1) (nI_add (6 * k) 1) (by omega) hL dL_law_214 ?_
  refine v_aload_n C dL_law_215 rfl ?_
  refine v_iload C dL_law_216 rfl ?_
  refine v_iconst C 2 dL_law_218 (by decide) ?_
  refine v_iadd C dL_law_219 ?_
  refine v_sld C S hbl hbA (6 * k + 2) (nI_add (6 * k) 2) (by omega) hL dL_law_220 ?_
  refine v_aload_n C dL_law_221 rfl ?_
  refine vL_w C hX hN (k_L_lead l G cy ad ao f x _ (xs (6 * k + 1)) (xs (6 * k + 2)) _ _ hE_lead (k_X1_lead l G cy hl ad x (xs (6 * k + 1)) (xs (6 * k + 2)))) rfl gL_law_L_lead (nA := 4) (by decide +kernel) rfl (by decide) (by constructor <;> simp only [room_1] <;> omega) rfl (Nat.le_of_ble_eq_true rfl) dL_law_222 ?_
  refine v_istore C dL_law_225 (by decide) ?_
  refine v_aload_n C dL_law_227 rfl ?_
  refine v_aload_n C dL_law_228 rfl ?_
  refine v_iload C dL_law_229 rfl ?_
  refine v_iconst C 1 dL_law_231 (by decide) ?_
  refine v_iadd C dL_law_232 ?_
  refine v_sld C S hbl hbA (6 * k + 1) (nI_add (6 * k) 1) (by omega) hL dL_law_233 ?_
  refine v_aload_n C dL_law_234 rfl ?_
  refine v_iload C dL_law_235 rfl ?_
  refine v_iconst C 2 dL_law_237 (by decide) ?_
  refine v_iadd C dL_law_238 ?_
  refine v_sld C S hbl hbA (6 * k + 2) (nI_add (6 * k) 2) (by omega) hL dL_law_239 ?_
  refine vL_m C (k_X2_lead l G cy am y (xs (6 * k + 1)) (xs (6 * k + 2))) rfl gL_law_X2_lead (nA := 2) (by decide +kernel) rfl (by decide) (by constructor <;> simp only [room_1] <;> omega) rfl rfl (Nat.le_of_ble_eq_true rfl) dL_law_240 ?_
  refine v_istore C dL_law_243 (by decide) ?_
  refine v_aload_n C dL_law_245 rfl ?_
  refine vL_m C (k_X2_thrown l G cy am _) rfl gL_law_X2_thrown (nA := 0) (by decide +kernel) rfl (by decide) (by constructor <;> simp only [room_1] <;> omega) rfl rfl (Nat.le_of_ble_eq_true rfl) dL_law_246 ?_
  refine v_iload C dL_law_249 rfl ?_
  refine v_icmp_eq C 256 dL_law_251 (by decide) (fun _ => ?_) (fun z => absurd hcd.symm z)
  refine v_iload C dL_law_256 rfl ?_
  refine v_if_ne C 280 dL_law_258 (by decide) (fun _ => ?_) (fun z => ?_)
  · -- both have thrown
    refine v_goto C 1149 dL_law_280 (by decide) ?_
    exact V.lof 5 (V.lof 6 (nx n' om' t' _ _ _ (by omega) hrel))
  · have hxn := cd_0 (by decide) z
    refine v_aload_n C dL_law_261 rfl ?_
    refine v_iconst C 0 dL_law_262 (by decide) ?_
    refine v_lald C 0 0 rfl rfl (by decide) (by decide) dL_law_263 ?_
    rw [hxn] at hrel ⊢
    refine V.es (congrArg (fun z : Int64 => ([.long z] : List Value)) (oc_0 _ _)) ?_
    refine v_iload C dL_law_264 rfl ?_
    refine v_if_eq C 273 dL_law_266 (by decide) (fun c1 => ?_) (fun c1 => ?_)
    · refine v_lconst C 0 dL_law_273 (by decide) ?_
      refine v_lcmp C dL_law_274 ?_
      refine v_if_eq C 280 dL_law_275 (by decide) (fun _ => ?_) (fun z => absurd (by rw [← hr hxn, show bL _ = 0 from pif_t c1]; exact lg_self _) z)
      refine v_goto C 1149 dL_law_280 (by decide) ?_
      exact V.lof 5 (V.lof 6 (nx n' om' t' _ _ _ (by omega) hrel))
    · refine v_lconst C 1 dL_law_269 (by decide) ?_
      refine v_goto C 274 dL_law_270 (by decide) ?_
      refine v_lcmp C dL_law_274 ?_
      refine v_if_eq C 280 dL_law_275 (by decide) (fun _ => ?_) (fun z => absurd (by rw [← hr hxn, show bL _ = 1 from pif_f c1]; exact lg_self _) z)
      refine v_goto C 1149 dL_law_280 (by decide) ?_
      exact V.lof 5 (V.lof 6 (nx n' om' t' _ _ _ (by omega) hrel))
set_option maxHeartbeats 4000000 in
set_option maxRecDepth 100000 in
theorem law_order {p : Program} {l : Launch} {e : Env} {s : State} {m : MethodId} {args : Array Value} {below : List Frame} {meth : Method} {c : Code} {Q : State → Prop} {ret : Option FieldType} {G : va_G} {cy : Nat → ClassId} {A : Nat → Prop} {ad am : Nat → Nat} {ao : Nat} {f : Nat → Int64} {x y : Sg} (C : vC p s m args meth c cL_law 7 wsL_law RL ret G cy A) (hX : xT A s s.heap) (hN : xN s) (hl : l.stackTraces = false) {b0 L : Nat} {xs : Nat → Int32} (S : va_X b0 L xs s s.heap) (hbl : b0 < s.heap.size) (hbA : ¬ A b0) (hL : L ≤ 3072) {n om t k : Nat} (hk : 6 * k + 6 ≤ L) (hom : om ≤ k) (h : Rel n om t x y) (nx : ∀ (n' om' t' : Nat) (x' y' : Sg) (f' : Nat → Int64), om' ≤ k + 1 → Rel n' om' t' x' y' → V p l e room_1 s m args below meth c 7 G A Q (wL cy ao f' ad x' am y') (52 + 8 * k + 8) (4455 + 48 * k + 48) 1149 [some (.ref b0), some (.ref (ad 0)), some (.ref (am 0)), some (.ref ao), some (.int (nI (6 * k))), none, none] []) : V p l e room_1 s m args below meth c 7 G A Q (wL cy ao f ad x am y) (52 + 8 * k) (4455 + 48 * k) 283 [some (.ref b0), some (.ref (ad 0)), some (.ref (am 0)), some (.ref ao), some (.int (nI (6 * k))), none, none] [] := by
  obtain ⟨hcd, hr, n', om', t', hle, hrel⟩ := sim_order h (by omega) (xs (6 * k + 1)) (xs (6 * k + 2)) (xs (6 * k + 3)) (xs (6 * k + 4)) (xs (6 * k + 5))
  refine v_aload_n C dL_law_283 rfl ?_
  refine v_aload_n C dL_law_284 rfl ?_
  refine v_iload C dL_law_285 rfl ?_
  refine v_iconst C 1 dL_law_287 (by decide) ?_
  refine v_iadd C dL_law_288 ?_
  refine v_sld C S hbl hbA (6 * k + 1) (nI_add (6 * k) 1) (by omega) hL dL_law_289 ?_
  refine v_aload_n C dL_law_290 rfl ?_
  refine v_iload C dL_law_291 rfl ?_
  refine v_iconst C 2 dL_law_293 (by decide) ?_
  refine v_iadd C dL_law_294 ?_
  refine v_sld C S hbl hbA (6 * k + 2) (nI_add (6 * k) 2) (by omega) hL dL_law_295 ?_
  refine v_aload_n C dL_law_296 rfl ?_
  refine v_iload C dL_law_297 rfl ?_
  refine v_iconst C 3 dL_law_299 (by decide) ?_
  refine v_iadd C dL_law_300 ?_
  refine v_sld C S hbl hbA (6 * k + 3) (nI_add (6 * k) 3) (by omega) hL dL_law_301 ?_
  refine v_aload_n C dL_law_302 rfl ?_
  refine v_iload C dL_law_303 rfl ?_
  refine v_iconst C 4 dL_law_305 (by decide) ?_
  refine v_iadd C dL_law_306 ?_
  refine v_sld C S hbl hbA (6 * k + 4) (nI_add (6 * k) 4) (by omega) hL dL_law_307 ?_
  refine v_aload_n C dL_law_308 rfl ?_
  refine v_iload C dL_law_309 rfl ?_
  refine v_iconst C 5 dL_law_311 (by decide) ?_
  refine v_iadd C dL_law_312 ?_
  refine v_sld C S hbl hbA (6 * k + 5) (nI_add (6 * k) 5) (by omega) hL dL_law_313 ?_
  refine v_aload_n C dL_law_314 rfl ?_
  refine vL_w C hX hN (k_L_order l G cy ad ao f x _ (xs (6 * k + 1)) (xs (6 * k + 2)) (xs (6 * k + 3)) (xs (6 * k + 4)) (xs (6 * k + 5)) _ _ hE_order (k_X1_order l G cy hl ad x n h.1.1 h.1.2.1 om h.1.2.2.1 (by omega) (xs (6 * k + 1)) (xs (6 * k + 2)) (xs (6 * k + 3)) (xs (6 * k + 4)) (xs (6 * k + 5)))) rfl gL_law_L_order (nA := 7) (by decide +kernel) rfl (by decide) (by constructor <;> simp only [room_1] <;> omega) rfl (Nat.le_of_ble_eq_true rfl) dL_law_315 ?_
  refine v_istore C dL_law_318 (by decide) ?_
  refine v_aload_n C dL_law_320 rfl ?_
  refine v_aload_n C dL_law_321 rfl ?_
  refine v_iload C dL_law_322 rfl ?_
  refine v_iconst C 1 dL_law_324 (by decide) ?_
  refine v_iadd C dL_law_325 ?_
  refine v_sld C S hbl hbA (6 * k + 1) (nI_add (6 * k) 1) (by omega) hL dL_law_326 ?_
  refine v_aload_n C dL_law_327 rfl ?_
  refine v_iload C dL_law_328 rfl ?_
  refine v_iconst C 2 dL_law_330 (by decide) ?_
  refine v_iadd C dL_law_331 ?_
  refine v_sld C S hbl hbA (6 * k + 2) (nI_add (6 * k) 2) (by omega) hL dL_law_332 ?_
  refine v_aload_n C dL_law_333 rfl ?_
  refine v_iload C dL_law_334 rfl ?_
  refine v_iconst C 3 dL_law_336 (by decide) ?_
  refine v_iadd C dL_law_337 ?_
  refine v_sld C S hbl hbA (6 * k + 3) (nI_add (6 * k) 3) (by omega) hL dL_law_338 ?_
  refine v_aload_n C dL_law_339 rfl ?_
  refine v_iload C dL_law_340 rfl ?_
  refine v_iconst C 4 dL_law_342 (by decide) ?_
  refine v_iadd C dL_law_343 ?_
  refine v_sld C S hbl hbA (6 * k + 4) (nI_add (6 * k) 4) (by omega) hL dL_law_344 ?_
  refine v_aload_n C dL_law_345 rfl ?_
  refine v_iload C dL_law_346 rfl ?_
  refine v_iconst C 5 dL_law_348 (by decide) ?_
  refine v_iadd C dL_law_349 ?_
  refine v_sld C S hbl hbA (6 * k + 5) (nI_add (6 * k) 5) (by omega) hL dL_law_350 ?_
  refine vL_m C (k_X2_order l G cy am y n (rel_y1 h) h.1.2.1 om (rel_y2 h) (by omega) (xs (6 * k + 1)) (xs (6 * k + 2)) (xs (6 * k + 3)) (xs (6 * k + 4)) (xs (6 * k + 5))) rfl gL_law_X2_order (nA := 5) (by decide +kernel) rfl (by decide) (by constructor <;> simp only [room_1] <;> omega) rfl rfl (Nat.le_of_ble_eq_true rfl) dL_law_351 ?_
  refine v_istore C dL_law_354 (by decide) ?_
  refine v_aload_n C dL_law_356 rfl ?_
  refine vL_m C (k_X2_thrown l G cy am _) rfl gL_law_X2_thrown (nA := 0) (by decide +kernel) rfl (by decide) (by constructor <;> simp only [room_1] <;> omega) rfl rfl (Nat.le_of_ble_eq_true rfl) dL_law_357 ?_
  refine v_iload C dL_law_360 rfl ?_
  refine v_icmp_eq C 367 dL_law_362 (by decide) (fun _ => ?_) (fun z => absurd hcd.symm z)
  refine v_iload C dL_law_367 rfl ?_
  refine v_if_ne C 384 dL_law_369 (by decide) (fun _ => ?_) (fun z => ?_)
  · -- both have thrown
    refine v_goto C 1149 dL_law_384 (by decide) ?_
    exact V.lof 5 (V.lof 6 (nx n' om' t' _ _ _ (by omega) hrel))
  · have hxn := cd_0 (by decide) z
    refine v_aload_n C dL_law_372 rfl ?_
    refine v_iconst C 0 dL_law_373 (by decide) ?_
    refine v_lald C 0 0 rfl rfl (by decide) (by decide) dL_law_374 ?_
    rw [hxn] at hrel ⊢
    refine V.es (congrArg (fun z : Int64 => ([.long z] : List Value)) (oc_0 _ _)) ?_
    refine v_iload C dL_law_375 rfl ?_
    refine v_i2l C dL_law_377 ?_
    refine v_lcmp C dL_law_378 ?_
    refine v_if_eq C 384 dL_law_379 (by decide) (fun _ => ?_) (fun z => absurd (by rw [hr hxn]; exact lg_self _) z)
    refine v_goto C 1149 dL_law_384 (by decide) ?_
    exact V.lof 5 (V.lof 6 (nx n' om' t' _ _ _ (by omega) hrel))
set_option maxHeartbeats 4000000 in
set_option maxRecDepth 100000 in
theorem law_breaks {p : Program} {l : Launch} {e : Env} {s : State} {m : MethodId} {args : Array Value} {below : List Frame} {meth : Method} {c : Code} {Q : State → Prop} {ret : Option FieldType} {G : va_G} {cy : Nat → ClassId} {A : Nat → Prop} {ad am : Nat → Nat} {ao : Nat} {f : Nat → Int64} {x y : Sg} (C : vC p s m args meth c cL_law 7 wsL_law RL ret G cy A) (hX : xT A s s.heap) (hN : xN s) (hl : l.stackTraces = false) {b0 L : Nat} {xs : Nat → Int32} (S : va_X b0 L xs s s.heap) (hbl : b0 < s.heap.size) (hbA : ¬ A b0) (hL : L ≤ 3072) {n om t k : Nat} (hk : 6 * k + 6 ≤ L) (hom : om ≤ k) (h : Rel n om t x y) (nx : ∀ (n' om' t' : Nat) (x' y' : Sg) (f' : Nat → Int64), om' ≤ k + 1 → Rel n' om' t' x' y' → V p l e room_1 s m args below meth c 7 G A Q (wL cy ao f' ad x' am y') (52 + 8 * k + 8) (4455 + 48 * k + 48) 1149 [some (.ref b0), some (.ref (ad 0)), some (.ref (am 0)), some (.ref ao), some (.int (nI (6 * k))), none, none] []) : V p l e room_1 s m args below meth c 7 G A Q (wL cy ao f ad x am y) (52 + 8 * k) (4455 + 48 * k) 387 [some (.ref b0), some (.ref (ad 0)), some (.ref (am 0)), some (.ref ao), some (.int (nI (6 * k))), none, none] [] := by
  obtain ⟨hcd, hr, n', om', t', hle, hrel⟩ := sim_breaks h (bz (xs (6 * k + 2))) (bz_n _) (xs (6 * k + 1))
  refine v_aload_n C dL_law_387 rfl ?_
  refine v_aload_n C dL_law_388 rfl ?_
  refine v_iload C dL_law_389 rfl ?_
  refine v_iconst C 1 dL_law_391 (by decide) ?_
  refine v_iadd C dL_law_392 ?_
  refine v_sld C S hbl hbA (6 * k + 1) (nI_add (6 * k) 1) (by omega) hL dL_law_393 ?_
  refine v_aload_n C dL_law_394 rfl ?_
  refine v_iload C dL_law_395 rfl ?_
  refine v_iconst C 2 dL_law_397 (by decide) ?_
  refine v_iadd C dL_law_398 ?_
  refine v_sld C S hbl hbA (6 * k + 2) (nI_add (6 * k) 2) (by omega) hL dL_law_399 ?_
  refine V.br (wL cy ao f ad x am y) 408 [some (.ref b0), some (.ref (ad 0)), some (.ref (am 0)), some (.ref ao), some (.int (nI (6 * k))), none, none] (fun v => (.int v :: [.int (xs (6 * k + 1)), .ref (ad 0)] : List Value)) (bz (xs (6 * k + 2))) (fun J => ?_) ?_
  · refine v_if_eq C 407 dL_law_400 (by decide) (fun c1 => ?_) (fun c1 => ?_)
    · refine v_iconst C 0 dL_law_407 (by decide) ?_
      exact J 0 (pif_t c1).symm
    · refine v_iconst C 1 dL_law_403 (by decide) ?_
      refine v_goto C 408 dL_law_404 (by decide) ?_
      exact J 1 (pif_f c1).symm
  refine v_aload_n C dL_law_408 rfl ?_
  refine vL_w C hX hN (k_L_breaks l G cy ad ao f x _ (xs (6 * k + 1)) (bz (xs (6 * k + 2))) _ _ hE_idx (k_X1_breaks l G cy hl ad x n h.1.1 h.1.2.1 (rel_b13 h) (bz (xs (6 * k + 2))) (bz_n _) (xs (6 * k + 1)))) rfl gL_law_L_breaks (nA := 4) (by decide +kernel) rfl (by decide) (by constructor <;> simp only [room_1] <;> omega) rfl (Nat.le_of_ble_eq_true rfl) dL_law_409 ?_
  refine v_istore C dL_law_412 (by decide) ?_
  refine v_aload_n C dL_law_414 rfl ?_
  refine v_aload_n C dL_law_415 rfl ?_
  refine v_iload C dL_law_416 rfl ?_
  refine v_iconst C 1 dL_law_418 (by decide) ?_
  refine v_iadd C dL_law_419 ?_
  refine v_sld C S hbl hbA (6 * k + 1) (nI_add (6 * k) 1) (by omega) hL dL_law_420 ?_
  refine v_aload_n C dL_law_421 rfl ?_
  refine v_iload C dL_law_422 rfl ?_
  refine v_iconst C 2 dL_law_424 (by decide) ?_
  refine v_iadd C dL_law_425 ?_
  refine v_sld C S hbl hbA (6 * k + 2) (nI_add (6 * k) 2) (by omega) hL dL_law_426 ?_
  refine V.br _ 435 [some (.ref b0), some (.ref (ad 0)), some (.ref (am 0)), some (.ref ao), some (.int (nI (6 * k))), some (.int _), none] (fun v => (.int v :: [.int (xs (6 * k + 1)), .ref (am 0)] : List Value)) (bz (xs (6 * k + 2))) (fun J => ?_) ?_
  · refine v_if_eq C 434 dL_law_427 (by decide) (fun c1 => ?_) (fun c1 => ?_)
    · refine v_iconst C 0 dL_law_434 (by decide) ?_
      exact J 0 (pif_t c1).symm
    · refine v_iconst C 1 dL_law_430 (by decide) ?_
      refine v_goto C 435 dL_law_431 (by decide) ?_
      exact J 1 (pif_f c1).symm
  refine vL_m C (k_X2_breaks l G cy am y n (rel_y1 h) h.1.2.1 (rel_c13 h) (bz (xs (6 * k + 2))) (bz_n _) (xs (6 * k + 1))) rfl gL_law_X2_breaks (nA := 2) (by decide +kernel) rfl (by decide) (by constructor <;> simp only [room_1] <;> omega) rfl rfl (Nat.le_of_ble_eq_true rfl) dL_law_435 ?_
  refine v_istore C dL_law_438 (by decide) ?_
  refine v_aload_n C dL_law_440 rfl ?_
  refine vL_m C (k_X2_thrown l G cy am _) rfl gL_law_X2_thrown (nA := 0) (by decide +kernel) rfl (by decide) (by constructor <;> simp only [room_1] <;> omega) rfl rfl (Nat.le_of_ble_eq_true rfl) dL_law_441 ?_
  refine v_iload C dL_law_444 rfl ?_
  refine v_icmp_eq C 451 dL_law_446 (by decide) (fun _ => ?_) (fun z => absurd hcd.symm z)
  refine v_iload C dL_law_451 rfl ?_
  refine v_if_ne C 475 dL_law_453 (by decide) (fun _ => ?_) (fun z => ?_)
  · -- both have thrown
    refine v_goto C 1149 dL_law_475 (by decide) ?_
    exact V.lof 5 (V.lof 6 (nx n' om' t' _ _ _ (by omega) hrel))
  · have hxn := cd_0 (by decide) z
    refine v_aload_n C dL_law_456 rfl ?_
    refine v_iconst C 0 dL_law_457 (by decide) ?_
    refine v_lald C 0 0 rfl rfl (by decide) (by decide) dL_law_458 ?_
    rw [hxn] at hrel ⊢
    refine V.es (congrArg (fun z : Int64 => ([.long z] : List Value)) (oc_0 _ _)) ?_
    refine v_iload C dL_law_459 rfl ?_
    refine v_if_eq C 468 dL_law_461 (by decide) (fun c1 => ?_) (fun c1 => ?_)
    · refine v_lconst C 0 dL_law_468 (by decide) ?_
      refine v_lcmp C dL_law_469 ?_
      refine v_if_eq C 475 dL_law_470 (by decide) (fun _ => ?_) (fun z => absurd (by rw [← hr hxn, show bL _ = 0 from pif_t c1]; exact lg_self _) z)
      refine v_goto C 1149 dL_law_475 (by decide) ?_
      exact V.lof 5 (V.lof 6 (nx n' om' t' _ _ _ (by omega) hrel))
    · refine v_lconst C 1 dL_law_464 (by decide) ?_
      refine v_goto C 469 dL_law_465 (by decide) ?_
      refine v_lcmp C dL_law_469 ?_
      refine v_if_eq C 475 dL_law_470 (by decide) (fun _ => ?_) (fun z => absurd (by rw [← hr hxn, show bL _ = 1 from pif_f c1]; exact lg_self _) z)
      refine v_goto C 1149 dL_law_475 (by decide) ?_
      exact V.lof 5 (V.lof 6 (nx n' om' t' _ _ _ (by omega) hrel))
set_option maxHeartbeats 4000000 in
set_option maxRecDepth 100000 in
theorem law_ails {p : Program} {l : Launch} {e : Env} {s : State} {m : MethodId} {args : Array Value} {below : List Frame} {meth : Method} {c : Code} {Q : State → Prop} {ret : Option FieldType} {G : va_G} {cy : Nat → ClassId} {A : Nat → Prop} {ad am : Nat → Nat} {ao : Nat} {f : Nat → Int64} {x y : Sg} (C : vC p s m args meth c cL_law 7 wsL_law RL ret G cy A) (hX : xT A s s.heap) (hN : xN s) (hl : l.stackTraces = false) {b0 L : Nat} {xs : Nat → Int32} (S : va_X b0 L xs s s.heap) (hbl : b0 < s.heap.size) (hbA : ¬ A b0) (hL : L ≤ 3072) {n om t k : Nat} (hk : 6 * k + 6 ≤ L) (hom : om ≤ k) (h : Rel n om t x y) (nx : ∀ (n' om' t' : Nat) (x' y' : Sg) (f' : Nat → Int64), om' ≤ k + 1 → Rel n' om' t' x' y' → V p l e room_1 s m args below meth c 7 G A Q (wL cy ao f' ad x' am y') (52 + 8 * k + 8) (4455 + 48 * k + 48) 1149 [some (.ref b0), some (.ref (ad 0)), some (.ref (am 0)), some (.ref ao), some (.int (nI (6 * k))), none, none] []) : V p l e room_1 s m args below meth c 7 G A Q (wL cy ao f ad x am y) (52 + 8 * k) (4455 + 48 * k) 478 [some (.ref b0), some (.ref (ad 0)), some (.ref (am 0)), some (.ref ao), some (.int (nI (6 * k))), none, none] [] := by
  obtain ⟨hcd, hr, n', om', t', hle, hrel⟩ := sim_ails h (bz (xs (6 * k + 2))) (bz_n _) (xs (6 * k + 1))
  refine v_aload_n C dL_law_478 rfl ?_
  refine v_aload_n C dL_law_479 rfl ?_
  refine v_iload C dL_law_480 rfl ?_
  refine v_iconst C 1 dL_law_482 (by decide) ?_
  refine v_iadd C dL_law_483 ?_
  refine v_sld C S hbl hbA (6 * k + 1) (nI_add (6 * k) 1) (by omega) hL dL_law_484 ?_
  refine v_aload_n C dL_law_485 rfl ?_
  refine v_iload C dL_law_486 rfl ?_
  refine v_iconst C 2 dL_law_488 (by decide) ?_
  refine v_iadd C dL_law_489 ?_
  refine v_sld C S hbl hbA (6 * k + 2) (nI_add (6 * k) 2) (by omega) hL dL_law_490 ?_
  refine V.br (wL cy ao f ad x am y) 499 [some (.ref b0), some (.ref (ad 0)), some (.ref (am 0)), some (.ref ao), some (.int (nI (6 * k))), none, none] (fun v => (.int v :: [.int (xs (6 * k + 1)), .ref (ad 0)] : List Value)) (bz (xs (6 * k + 2))) (fun J => ?_) ?_
  · refine v_if_eq C 498 dL_law_491 (by decide) (fun c1 => ?_) (fun c1 => ?_)
    · refine v_iconst C 0 dL_law_498 (by decide) ?_
      exact J 0 (pif_t c1).symm
    · refine v_iconst C 1 dL_law_494 (by decide) ?_
      refine v_goto C 499 dL_law_495 (by decide) ?_
      exact J 1 (pif_f c1).symm
  refine v_aload_n C dL_law_499 rfl ?_
  refine vL_w C hX hN (k_L_ails l G cy ad ao f x _ (xs (6 * k + 1)) (bz (xs (6 * k + 2))) _ _ hE_idx (k_X1_ails l G cy hl ad x n h.1.1 h.1.2.1 (rel_b14 h) (bz (xs (6 * k + 2))) (bz_n _) (xs (6 * k + 1)))) rfl gL_law_L_ails (nA := 4) (by decide +kernel) rfl (by decide) (by constructor <;> simp only [room_1] <;> omega) rfl (Nat.le_of_ble_eq_true rfl) dL_law_500 ?_
  refine v_istore C dL_law_503 (by decide) ?_
  refine v_aload_n C dL_law_505 rfl ?_
  refine v_aload_n C dL_law_506 rfl ?_
  refine v_iload C dL_law_507 rfl ?_
  refine v_iconst C 1 dL_law_509 (by decide) ?_
  refine v_iadd C dL_law_510 ?_
  refine v_sld C S hbl hbA (6 * k + 1) (nI_add (6 * k) 1) (by omega) hL dL_law_511 ?_
  refine v_aload_n C dL_law_512 rfl ?_
  refine v_iload C dL_law_513 rfl ?_
  refine v_iconst C 2 dL_law_515 (by decide) ?_
  refine v_iadd C dL_law_516 ?_
  refine v_sld C S hbl hbA (6 * k + 2) (nI_add (6 * k) 2) (by omega) hL dL_law_517 ?_
  refine V.br _ 526 [some (.ref b0), some (.ref (ad 0)), some (.ref (am 0)), some (.ref ao), some (.int (nI (6 * k))), some (.int _), none] (fun v => (.int v :: [.int (xs (6 * k + 1)), .ref (am 0)] : List Value)) (bz (xs (6 * k + 2))) (fun J => ?_) ?_
  · refine v_if_eq C 525 dL_law_518 (by decide) (fun c1 => ?_) (fun c1 => ?_)
    · refine v_iconst C 0 dL_law_525 (by decide) ?_
      exact J 0 (pif_t c1).symm
    · refine v_iconst C 1 dL_law_521 (by decide) ?_
      refine v_goto C 526 dL_law_522 (by decide) ?_
      exact J 1 (pif_f c1).symm
  refine vL_m C (k_X2_ails l G cy am y n (rel_y1 h) h.1.2.1 (rel_c14 h) (bz (xs (6 * k + 2))) (bz_n _) (xs (6 * k + 1))) rfl gL_law_X2_ails (nA := 2) (by decide +kernel) rfl (by decide) (by constructor <;> simp only [room_1] <;> omega) rfl rfl (Nat.le_of_ble_eq_true rfl) dL_law_526 ?_
  refine v_istore C dL_law_529 (by decide) ?_
  refine v_aload_n C dL_law_531 rfl ?_
  refine vL_m C (k_X2_thrown l G cy am _) rfl gL_law_X2_thrown (nA := 0) (by decide +kernel) rfl (by decide) (by constructor <;> simp only [room_1] <;> omega) rfl rfl (Nat.le_of_ble_eq_true rfl) dL_law_532 ?_
  refine v_iload C dL_law_535 rfl ?_
  refine v_icmp_eq C 542 dL_law_537 (by decide) (fun _ => ?_) (fun z => absurd hcd.symm z)
  refine v_iload C dL_law_542 rfl ?_
  refine v_if_ne C 566 dL_law_544 (by decide) (fun _ => ?_) (fun z => ?_)
  · -- both have thrown
    refine v_goto C 1149 dL_law_566 (by decide) ?_
    exact V.lof 5 (V.lof 6 (nx n' om' t' _ _ _ (by omega) hrel))
  · have hxn := cd_0 (by decide) z
    refine v_aload_n C dL_law_547 rfl ?_
    refine v_iconst C 0 dL_law_548 (by decide) ?_
    refine v_lald C 0 0 rfl rfl (by decide) (by decide) dL_law_549 ?_
    rw [hxn] at hrel ⊢
    refine V.es (congrArg (fun z : Int64 => ([.long z] : List Value)) (oc_0 _ _)) ?_
    refine v_iload C dL_law_550 rfl ?_
    refine v_if_eq C 559 dL_law_552 (by decide) (fun c1 => ?_) (fun c1 => ?_)
    · refine v_lconst C 0 dL_law_559 (by decide) ?_
      refine v_lcmp C dL_law_560 ?_
      refine v_if_eq C 566 dL_law_561 (by decide) (fun _ => ?_) (fun z => absurd (by rw [← hr hxn, show bL _ = 0 from pif_t c1]; exact lg_self _) z)
      refine v_goto C 1149 dL_law_566 (by decide) ?_
      exact V.lof 5 (V.lof 6 (nx n' om' t' _ _ _ (by omega) hrel))
    · refine v_lconst C 1 dL_law_555 (by decide) ?_
      refine v_goto C 560 dL_law_556 (by decide) ?_
      refine v_lcmp C dL_law_560 ?_
      refine v_if_eq C 566 dL_law_561 (by decide) (fun _ => ?_) (fun z => absurd (by rw [← hr hxn, show bL _ = 1 from pif_f c1]; exact lg_self _) z)
      refine v_goto C 1149 dL_law_566 (by decide) ?_
      exact V.lof 5 (V.lof 6 (nx n' om' t' _ _ _ (by omega) hrel))
set_option maxHeartbeats 4000000 in
set_option maxRecDepth 100000 in
theorem law_plug {p : Program} {l : Launch} {e : Env} {s : State} {m : MethodId} {args : Array Value} {below : List Frame} {meth : Method} {c : Code} {Q : State → Prop} {ret : Option FieldType} {G : va_G} {cy : Nat → ClassId} {A : Nat → Prop} {ad am : Nat → Nat} {ao : Nat} {f : Nat → Int64} {x y : Sg} (C : vC p s m args meth c cL_law 7 wsL_law RL ret G cy A) (hX : xT A s s.heap) (hN : xN s) (hl : l.stackTraces = false) {b0 L : Nat} {xs : Nat → Int32} (S : va_X b0 L xs s s.heap) (hbl : b0 < s.heap.size) (hbA : ¬ A b0) (hL : L ≤ 3072) {n om t k : Nat} (hk : 6 * k + 6 ≤ L) (hom : om ≤ k) (h : Rel n om t x y) (nx : ∀ (n' om' t' : Nat) (x' y' : Sg) (f' : Nat → Int64), om' ≤ k + 1 → Rel n' om' t' x' y' → V p l e room_1 s m args below meth c 7 G A Q (wL cy ao f' ad x' am y') (52 + 8 * k + 8) (4455 + 48 * k + 48) 1149 [some (.ref b0), some (.ref (ad 0)), some (.ref (am 0)), some (.ref ao), some (.int (nI (6 * k))), none, none] []) : V p l e room_1 s m args below meth c 7 G A Q (wL cy ao f ad x am y) (52 + 8 * k) (4455 + 48 * k) 569 [some (.ref b0), some (.ref (ad 0)), some (.ref (am 0)), some (.ref ao), some (.int (nI (6 * k))), none, none] [] := by
  obtain ⟨hcd, hr, n', om', t', hle, hrel⟩ := sim_plug h (xs (6 * k + 1)) (xs (6 * k + 2))
  refine v_aload_n C dL_law_569 rfl ?_
  refine v_aload_n C dL_law_570 rfl ?_
  refine v_iload C dL_law_571 rfl ?_
  refine v_iconst C 1 dL_law_573 (by decide) ?_
  refine v_iadd C dL_law_574 ?_
  refine v_sld C S hbl hbA (6 * k + 1) (nI_add (6 * k) 1) (by omega) hL dL_law_575 ?_
  refine v_aload_n C dL_law_576 rfl ?_
  refine v_iload C dL_law_577 rfl ?_
  refine v_iconst C 2 dL_law_579 (by decide) ?_
  refine v_iadd C dL_law_580 ?_
  refine v_sld C S hbl hbA (6 * k + 2) (nI_add (6 * k) 2) (by omega) hL dL_law_581 ?_
  refine v_aload_n C dL_law_582 rfl ?_
  refine vL_w C hX hN (k_L_plug l G cy ad ao f x _ (xs (6 * k + 1)) (xs (6 * k + 2)) _ _ hE_plug (k_X1_plug l G cy hl ad x n h.1.1 h.1.2.1 (xs (6 * k + 1)) (xs (6 * k + 2)))) rfl gL_law_L_plug (nA := 4) (by decide +kernel) rfl (by decide) (by constructor <;> simp only [room_1] <;> omega) rfl (Nat.le_of_ble_eq_true rfl) dL_law_583 ?_
  refine v_istore C dL_law_586 (by decide) ?_
  refine v_aload_n C dL_law_588 rfl ?_
  refine v_aload_n C dL_law_589 rfl ?_
  refine v_iload C dL_law_590 rfl ?_
  refine v_iconst C 1 dL_law_592 (by decide) ?_
  refine v_iadd C dL_law_593 ?_
  refine v_sld C S hbl hbA (6 * k + 1) (nI_add (6 * k) 1) (by omega) hL dL_law_594 ?_
  refine v_aload_n C dL_law_595 rfl ?_
  refine v_iload C dL_law_596 rfl ?_
  refine v_iconst C 2 dL_law_598 (by decide) ?_
  refine v_iadd C dL_law_599 ?_
  refine v_sld C S hbl hbA (6 * k + 2) (nI_add (6 * k) 2) (by omega) hL dL_law_600 ?_
  refine vL_m C (k_X2_plug l G cy am y n (rel_y1 h) h.1.2.1 (xs (6 * k + 1)) (xs (6 * k + 2))) rfl gL_law_X2_plug (nA := 2) (by decide +kernel) rfl (by decide) (by constructor <;> simp only [room_1] <;> omega) rfl rfl (Nat.le_of_ble_eq_true rfl) dL_law_601 ?_
  refine v_istore C dL_law_604 (by decide) ?_
  refine v_aload_n C dL_law_606 rfl ?_
  refine vL_m C (k_X2_thrown l G cy am _) rfl gL_law_X2_thrown (nA := 0) (by decide +kernel) rfl (by decide) (by constructor <;> simp only [room_1] <;> omega) rfl rfl (Nat.le_of_ble_eq_true rfl) dL_law_607 ?_
  refine v_iload C dL_law_610 rfl ?_
  refine v_icmp_eq C 617 dL_law_612 (by decide) (fun _ => ?_) (fun z => absurd hcd.symm z)
  refine v_iload C dL_law_617 rfl ?_
  refine v_if_ne C 634 dL_law_619 (by decide) (fun _ => ?_) (fun z => ?_)
  · -- both have thrown
    refine v_goto C 1149 dL_law_634 (by decide) ?_
    exact V.lof 5 (V.lof 6 (nx n' om' t' _ _ _ (by omega) hrel))
  · have hxn := cd_0 (by decide) z
    refine v_aload_n C dL_law_622 rfl ?_
    refine v_iconst C 0 dL_law_623 (by decide) ?_
    refine v_lald C 0 0 rfl rfl (by decide) (by decide) dL_law_624 ?_
    rw [hxn] at hrel ⊢
    refine V.es (congrArg (fun z : Int64 => ([.long z] : List Value)) (oc_0 _ _)) ?_
    refine v_iload C dL_law_625 rfl ?_
    refine v_i2l C dL_law_627 ?_
    refine v_lcmp C dL_law_628 ?_
    refine v_if_eq C 634 dL_law_629 (by decide) (fun _ => ?_) (fun z => absurd (by rw [hr hxn]; exact lg_self _) z)
    refine v_goto C 1149 dL_law_634 (by decide) ?_
    exact V.lof 5 (V.lof 6 (nx n' om' t' _ _ _ (by omega) hrel))
set_option maxHeartbeats 4000000 in
set_option maxRecDepth 100000 in
theorem law_advance {p : Program} {l : Launch} {e : Env} {s : State} {m : MethodId} {args : Array Value} {below : List Frame} {meth : Method} {c : Code} {Q : State → Prop} {ret : Option FieldType} {G : va_G} {cy : Nat → ClassId} {A : Nat → Prop} {ad am : Nat → Nat} {ao : Nat} {f : Nat → Int64} {x y : Sg} (C : vC p s m args meth c cL_law 7 wsL_law RL ret G cy A) (hX : xT A s s.heap) (hN : xN s) (hl : l.stackTraces = false) {b0 L : Nat} {xs : Nat → Int32} (S : va_X b0 L xs s s.heap) (hbl : b0 < s.heap.size) (hbA : ¬ A b0) (hL : L ≤ 3072) {n om t k : Nat} (hk : 6 * k + 6 ≤ L) (hom : om ≤ k) (h : Rel n om t x y) (nx : ∀ (n' om' t' : Nat) (x' y' : Sg) (f' : Nat → Int64), om' ≤ k + 1 → Rel n' om' t' x' y' → V p l e room_1 s m args below meth c 7 G A Q (wL cy ao f' ad x' am y') (52 + 8 * k + 8) (4455 + 48 * k + 48) 1149 [some (.ref b0), some (.ref (ad 0)), some (.ref (am 0)), some (.ref ao), some (.int (nI (6 * k))), none, none] []) : V p l e room_1 s m args below meth c 7 G A Q (wL cy ao f ad x am y) (52 + 8 * k) (4455 + 48 * k) 637 [some (.ref b0), some (.ref (ad 0)), some (.ref (am 0)), some (.ref ao), some (.int (nI (6 * k))), none, none] [] := by
  obtain ⟨hcd, hr, n', om', t', hle, hrel⟩ := sim_advance h (xs (6 * k + 1))
  refine v_aload_n C dL_law_637 rfl ?_
  refine v_aload_n C dL_law_638 rfl ?_
  refine v_iload C dL_law_639 rfl ?_
  refine v_iconst C 1 dL_law_641 (by decide) ?_
  refine v_iadd C dL_law_642 ?_
  refine v_sld C S hbl hbA (6 * k + 1) (nI_add (6 * k) 1) (by omega) hL dL_law_643 ?_
  refine v_aload_n C dL_law_644 rfl ?_
  refine vL_w C hX hN (k_L_advance l G cy ad ao f x _ (xs (6 * k + 1)) _ _ hE_adv (k_X1_advance l G cy hl ad x n h.1.1 h.1.2.1 (xs (6 * k + 1)))) rfl gL_law_L_advance (nA := 3) (by decide +kernel) rfl (by decide) (by constructor <;> simp only [room_1] <;> omega) rfl (Nat.le_of_ble_eq_true rfl) dL_law_645 ?_
  refine v_istore C dL_law_648 (by decide) ?_
  refine v_aload_n C dL_law_650 rfl ?_
  refine v_aload_n C dL_law_651 rfl ?_
  refine v_iload C dL_law_652 rfl ?_
  refine v_iconst C 1 dL_law_654 (by decide) ?_
  refine v_iadd C dL_law_655 ?_
  refine v_sld C S hbl hbA (6 * k + 1) (nI_add (6 * k) 1) (by omega) hL dL_law_656 ?_
  refine vL_m C (k_X2_advance l G cy am y n (rel_y1 h) h.1.2.1 (rel_okP h) (rel_okB h) (xs (6 * k + 1))) rfl gL_law_X2_advance (nA := 1) (by decide +kernel) rfl (by decide) (by constructor <;> simp only [room_1] <;> omega) rfl rfl (Nat.le_of_ble_eq_true rfl) dL_law_657 ?_
  refine v_istore C dL_law_660 (by decide) ?_
  refine v_aload_n C dL_law_662 rfl ?_
  refine vL_m C (k_X2_thrown l G cy am _) rfl gL_law_X2_thrown (nA := 0) (by decide +kernel) rfl (by decide) (by constructor <;> simp only [room_1] <;> omega) rfl rfl (Nat.le_of_ble_eq_true rfl) dL_law_663 ?_
  refine v_iload C dL_law_666 rfl ?_
  refine v_icmp_eq C 673 dL_law_668 (by decide) (fun _ => ?_) (fun z => absurd hcd.symm z)
  refine v_iload C dL_law_673 rfl ?_
  refine v_if_ne C 690 dL_law_675 (by decide) (fun _ => ?_) (fun z => ?_)
  · -- both have thrown
    refine v_goto C 1149 dL_law_690 (by decide) ?_
    exact V.lof 5 (V.lof 6 (nx n' om' t' _ _ _ (by omega) hrel))
  · have hxn := cd_0 (by decide) z
    refine v_aload_n C dL_law_678 rfl ?_
    refine v_iconst C 0 dL_law_679 (by decide) ?_
    refine v_lald C 0 0 rfl rfl (by decide) (by decide) dL_law_680 ?_
    rw [hxn] at hrel ⊢
    refine V.es (congrArg (fun z : Int64 => ([.long z] : List Value)) (oc_0 _ _)) ?_
    refine v_iload C dL_law_681 rfl ?_
    refine v_i2l C dL_law_683 ?_
    refine v_lcmp C dL_law_684 ?_
    refine v_if_eq C 690 dL_law_685 (by decide) (fun _ => ?_) (fun z => absurd (by rw [hr hxn]; exact lg_self _) z)
    refine v_goto C 1149 dL_law_690 (by decide) ?_
    exact V.lof 5 (V.lof 6 (nx n' om' t' _ _ _ (by omega) hrel))
set_option maxHeartbeats 4000000 in
set_option maxRecDepth 100000 in
theorem law_orderAt {p : Program} {l : Launch} {e : Env} {s : State} {m : MethodId} {args : Array Value} {below : List Frame} {meth : Method} {c : Code} {Q : State → Prop} {ret : Option FieldType} {G : va_G} {cy : Nat → ClassId} {A : Nat → Prop} {ad am : Nat → Nat} {ao : Nat} {f : Nat → Int64} {x y : Sg} (C : vC p s m args meth c cL_law 7 wsL_law RL ret G cy A) (hX : xT A s s.heap) (hN : xN s) (hl : l.stackTraces = false) {b0 L : Nat} {xs : Nat → Int32} (S : va_X b0 L xs s s.heap) (hbl : b0 < s.heap.size) (hbA : ¬ A b0) (hL : L ≤ 3072) {n om t k : Nat} (hk : 6 * k + 6 ≤ L) (hom : om ≤ k) (h : Rel n om t x y) (nx : ∀ (n' om' t' : Nat) (x' y' : Sg) (f' : Nat → Int64), om' ≤ k + 1 → Rel n' om' t' x' y' → V p l e room_1 s m args below meth c 7 G A Q (wL cy ao f' ad x' am y') (52 + 8 * k + 8) (4455 + 48 * k + 48) 1149 [some (.ref b0), some (.ref (ad 0)), some (.ref (am 0)), some (.ref ao), some (.int (nI (6 * k))), none, none] []) : V p l e room_1 s m args below meth c 7 G A Q (wL cy ao f ad x am y) (52 + 8 * k) (4455 + 48 * k) 745 [some (.ref b0), some (.ref (ad 0)), some (.ref (am 0)), some (.ref ao), some (.int (nI (6 * k))), none, none] [] := by
  obtain ⟨hcd, hr, n', om', t', hle, hrel⟩ := sim_orderAt h (by omega) (xs (6 * k + 1))
  refine v_aload_n C dL_law_745 rfl ?_
  refine v_aload_n C dL_law_746 rfl ?_
  refine v_iload C dL_law_747 rfl ?_
  refine v_iconst C 1 dL_law_749 (by decide) ?_
  refine v_iadd C dL_law_750 ?_
  refine v_sld C S hbl hbA (6 * k + 1) (nI_add (6 * k) 1) (by omega) hL dL_law_751 ?_
  refine v_aload_n C dL_law_752 rfl ?_
  refine vL_w C hX hN (k_L_orderAt l G cy ad ao f x _ (xs (6 * k + 1)) _ _ hE_idx (k_X1_orderAt l G cy hl ad x om h.1.2.2.1 (by omega) (xs (6 * k + 1)))) rfl gL_law_L_orderAt (nA := 3) (by decide +kernel) rfl (by decide) (by constructor <;> simp only [room_1] <;> omega) rfl (Nat.le_of_ble_eq_true rfl) dL_law_753 ?_
  refine v_istore C dL_law_756 (by decide) ?_
  refine v_aload_n C dL_law_758 rfl ?_
  refine v_aload_n C dL_law_759 rfl ?_
  refine v_iload C dL_law_760 rfl ?_
  refine v_iconst C 1 dL_law_762 (by decide) ?_
  refine v_iadd C dL_law_763 ?_
  refine v_sld C S hbl hbA (6 * k + 1) (nI_add (6 * k) 1) (by omega) hL dL_law_764 ?_
  refine vL_m C (k_X2_orderAt l G cy am y om (rel_y2 h) (by omega) (xs (6 * k + 1))) rfl gL_law_X2_orderAt (nA := 1) (by decide +kernel) rfl (by decide) (by constructor <;> simp only [room_1] <;> omega) rfl rfl (Nat.le_of_ble_eq_true rfl) dL_law_765 ?_
  refine v_istore C dL_law_768 (by decide) ?_
  refine v_aload_n C dL_law_770 rfl ?_
  refine vL_m C (k_X2_thrown l G cy am _) rfl gL_law_X2_thrown (nA := 0) (by decide +kernel) rfl (by decide) (by constructor <;> simp only [room_1] <;> omega) rfl rfl (Nat.le_of_ble_eq_true rfl) dL_law_771 ?_
  refine v_iload C dL_law_774 rfl ?_
  refine v_icmp_eq C 781 dL_law_776 (by decide) (fun _ => ?_) (fun z => absurd hcd.symm z)
  refine v_iload C dL_law_781 rfl ?_
  refine v_if_ne C 798 dL_law_783 (by decide) (fun _ => ?_) (fun z => ?_)
  · -- both have thrown
    refine v_goto C 1149 dL_law_798 (by decide) ?_
    exact V.lof 5 (V.lof 6 (nx n' om' t' _ _ _ (by omega) hrel))
  · have hxn := cd_0 (by decide) z
    refine v_aload_n C dL_law_786 rfl ?_
    refine v_iconst C 0 dL_law_787 (by decide) ?_
    refine v_lald C 0 0 rfl rfl (by decide) (by decide) dL_law_788 ?_
    rw [hxn] at hrel ⊢
    refine V.es (congrArg (fun z : Int64 => ([.long z] : List Value)) (oc_0 _ _)) ?_
    refine v_iload C dL_law_789 rfl ?_
    refine v_i2l C dL_law_791 ?_
    refine v_lcmp C dL_law_792 ?_
    refine v_if_eq C 798 dL_law_793 (by decide) (fun _ => ?_) (fun z => absurd (by rw [hr hxn]; exact lg_self _) z)
    refine v_goto C 1149 dL_law_798 (by decide) ?_
    exact V.lof 5 (V.lof 6 (nx n' om' t' _ _ _ (by omega) hrel))
set_option maxHeartbeats 4000000 in
set_option maxRecDepth 100000 in
theorem law_stateOf {p : Program} {l : Launch} {e : Env} {s : State} {m : MethodId} {args : Array Value} {below : List Frame} {meth : Method} {c : Code} {Q : State → Prop} {ret : Option FieldType} {G : va_G} {cy : Nat → ClassId} {A : Nat → Prop} {ad am : Nat → Nat} {ao : Nat} {f : Nat → Int64} {x y : Sg} (C : vC p s m args meth c cL_law 7 wsL_law RL ret G cy A) (hX : xT A s s.heap) (hN : xN s) (hl : l.stackTraces = false) {b0 L : Nat} {xs : Nat → Int32} (S : va_X b0 L xs s s.heap) (hbl : b0 < s.heap.size) (hbA : ¬ A b0) (hL : L ≤ 3072) {n om t k : Nat} (hk : 6 * k + 6 ≤ L) (hom : om ≤ k) (h : Rel n om t x y) (nx : ∀ (n' om' t' : Nat) (x' y' : Sg) (f' : Nat → Int64), om' ≤ k + 1 → Rel n' om' t' x' y' → V p l e room_1 s m args below meth c 7 G A Q (wL cy ao f' ad x' am y') (52 + 8 * k + 8) (4455 + 48 * k + 48) 1149 [some (.ref b0), some (.ref (ad 0)), some (.ref (am 0)), some (.ref ao), some (.int (nI (6 * k))), none, none] []) : V p l e room_1 s m args below meth c 7 G A Q (wL cy ao f ad x am y) (52 + 8 * k) (4455 + 48 * k) 801 [some (.ref b0), some (.ref (ad 0)), some (.ref (am 0)), some (.ref ao), some (.int (nI (6 * k))), none, none] [] := by
  obtain ⟨hcd, hr, n', om', t', hle, hrel⟩ := sim_rowq h 9 (by decide) (xs (6 * k + 1))
  refine v_aload_n C dL_law_801 rfl ?_
  refine v_aload_n C dL_law_802 rfl ?_
  refine v_iload C dL_law_803 rfl ?_
  refine v_iconst C 1 dL_law_805 (by decide) ?_
  refine v_iadd C dL_law_806 ?_
  refine v_sld C S hbl hbA (6 * k + 1) (nI_add (6 * k) 1) (by omega) hL dL_law_807 ?_
  refine v_aload_n C dL_law_808 rfl ?_
  refine vL_w C hX hN (k_L_stateOf l G cy ad ao f x _ (xs (6 * k + 1)) _ _ hE_idx (k_X1_stateOf l G cy hl ad x n h.1.1 h.1.2.1 (xs (6 * k + 1)))) rfl gL_law_L_stateOf (nA := 3) (by decide +kernel) rfl (by decide) (by constructor <;> simp only [room_1] <;> omega) rfl (Nat.le_of_ble_eq_true rfl) dL_law_809 ?_
  refine v_istore C dL_law_812 (by decide) ?_
  refine v_aload_n C dL_law_814 rfl ?_
  refine v_aload_n C dL_law_815 rfl ?_
  refine v_iload C dL_law_816 rfl ?_
  refine v_iconst C 1 dL_law_818 (by decide) ?_
  refine v_iadd C dL_law_819 ?_
  refine v_sld C S hbl hbA (6 * k + 1) (nI_add (6 * k) 1) (by omega) hL dL_law_820 ?_
  refine vL_m C (k_X2_stateOf l G cy am y n (rel_y1 h) h.1.2.1 (xs (6 * k + 1))) rfl gL_law_X2_stateOf (nA := 1) (by decide +kernel) rfl (by decide) (by constructor <;> simp only [room_1] <;> omega) rfl rfl (Nat.le_of_ble_eq_true rfl) dL_law_821 ?_
  refine v_istore C dL_law_824 (by decide) ?_
  refine v_aload_n C dL_law_826 rfl ?_
  refine vL_m C (k_X2_thrown l G cy am _) rfl gL_law_X2_thrown (nA := 0) (by decide +kernel) rfl (by decide) (by constructor <;> simp only [room_1] <;> omega) rfl rfl (Nat.le_of_ble_eq_true rfl) dL_law_827 ?_
  refine v_iload C dL_law_830 rfl ?_
  refine v_icmp_eq C 837 dL_law_832 (by decide) (fun _ => ?_) (fun z => absurd hcd.symm z)
  refine v_iload C dL_law_837 rfl ?_
  refine v_if_ne C 854 dL_law_839 (by decide) (fun _ => ?_) (fun z => ?_)
  · -- both have thrown
    refine v_goto C 1149 dL_law_854 (by decide) ?_
    exact V.lof 5 (V.lof 6 (nx n' om' t' _ _ _ (by omega) hrel))
  · have hxn := cd_0 (by decide) z
    refine v_aload_n C dL_law_842 rfl ?_
    refine v_iconst C 0 dL_law_843 (by decide) ?_
    refine v_lald C 0 0 rfl rfl (by decide) (by decide) dL_law_844 ?_
    rw [hxn] at hrel ⊢
    refine V.es (congrArg (fun z : Int64 => ([.long z] : List Value)) (oc_0 _ _)) ?_
    refine v_iload C dL_law_845 rfl ?_
    refine v_i2l C dL_law_847 ?_
    refine v_lcmp C dL_law_848 ?_
    refine v_if_eq C 854 dL_law_849 (by decide) (fun _ => ?_) (fun z => absurd (by rw [hr hxn]; exact lg_self _) z)
    refine v_goto C 1149 dL_law_854 (by decide) ?_
    exact V.lof 5 (V.lof 6 (nx n' om' t' _ _ _ (by omega) hrel))
set_option maxHeartbeats 4000000 in
set_option maxRecDepth 100000 in
theorem law_busOf {p : Program} {l : Launch} {e : Env} {s : State} {m : MethodId} {args : Array Value} {below : List Frame} {meth : Method} {c : Code} {Q : State → Prop} {ret : Option FieldType} {G : va_G} {cy : Nat → ClassId} {A : Nat → Prop} {ad am : Nat → Nat} {ao : Nat} {f : Nat → Int64} {x y : Sg} (C : vC p s m args meth c cL_law 7 wsL_law RL ret G cy A) (hX : xT A s s.heap) (hN : xN s) (hl : l.stackTraces = false) {b0 L : Nat} {xs : Nat → Int32} (S : va_X b0 L xs s s.heap) (hbl : b0 < s.heap.size) (hbA : ¬ A b0) (hL : L ≤ 3072) {n om t k : Nat} (hk : 6 * k + 6 ≤ L) (hom : om ≤ k) (h : Rel n om t x y) (nx : ∀ (n' om' t' : Nat) (x' y' : Sg) (f' : Nat → Int64), om' ≤ k + 1 → Rel n' om' t' x' y' → V p l e room_1 s m args below meth c 7 G A Q (wL cy ao f' ad x' am y') (52 + 8 * k + 8) (4455 + 48 * k + 48) 1149 [some (.ref b0), some (.ref (ad 0)), some (.ref (am 0)), some (.ref ao), some (.int (nI (6 * k))), none, none] []) : V p l e room_1 s m args below meth c 7 G A Q (wL cy ao f ad x am y) (52 + 8 * k) (4455 + 48 * k) 857 [some (.ref b0), some (.ref (ad 0)), some (.ref (am 0)), some (.ref ao), some (.int (nI (6 * k))), none, none] [] := by
  obtain ⟨hcd, hr, n', om', t', hle, hrel⟩ := sim_rowq h 10 (by decide) (xs (6 * k + 1))
  refine v_aload_n C dL_law_857 rfl ?_
  refine v_aload_n C dL_law_858 rfl ?_
  refine v_iload C dL_law_859 rfl ?_
  refine v_iconst C 1 dL_law_861 (by decide) ?_
  refine v_iadd C dL_law_862 ?_
  refine v_sld C S hbl hbA (6 * k + 1) (nI_add (6 * k) 1) (by omega) hL dL_law_863 ?_
  refine v_aload_n C dL_law_864 rfl ?_
  refine vL_w C hX hN (k_L_busOf l G cy ad ao f x _ (xs (6 * k + 1)) _ _ hE_idx (k_X1_busOf l G cy hl ad x n h.1.1 h.1.2.1 (xs (6 * k + 1)))) rfl gL_law_L_busOf (nA := 3) (by decide +kernel) rfl (by decide) (by constructor <;> simp only [room_1] <;> omega) rfl (Nat.le_of_ble_eq_true rfl) dL_law_865 ?_
  refine v_istore C dL_law_868 (by decide) ?_
  refine v_aload_n C dL_law_870 rfl ?_
  refine v_aload_n C dL_law_871 rfl ?_
  refine v_iload C dL_law_872 rfl ?_
  refine v_iconst C 1 dL_law_874 (by decide) ?_
  refine v_iadd C dL_law_875 ?_
  refine v_sld C S hbl hbA (6 * k + 1) (nI_add (6 * k) 1) (by omega) hL dL_law_876 ?_
  refine vL_m C (k_X2_busOf l G cy am y n (rel_y1 h) h.1.2.1 (xs (6 * k + 1))) rfl gL_law_X2_busOf (nA := 1) (by decide +kernel) rfl (by decide) (by constructor <;> simp only [room_1] <;> omega) rfl rfl (Nat.le_of_ble_eq_true rfl) dL_law_877 ?_
  refine v_istore C dL_law_880 (by decide) ?_
  refine v_aload_n C dL_law_882 rfl ?_
  refine vL_m C (k_X2_thrown l G cy am _) rfl gL_law_X2_thrown (nA := 0) (by decide +kernel) rfl (by decide) (by constructor <;> simp only [room_1] <;> omega) rfl rfl (Nat.le_of_ble_eq_true rfl) dL_law_883 ?_
  refine v_iload C dL_law_886 rfl ?_
  refine v_icmp_eq C 893 dL_law_888 (by decide) (fun _ => ?_) (fun z => absurd hcd.symm z)
  refine v_iload C dL_law_893 rfl ?_
  refine v_if_ne C 910 dL_law_895 (by decide) (fun _ => ?_) (fun z => ?_)
  · -- both have thrown
    refine v_goto C 1149 dL_law_910 (by decide) ?_
    exact V.lof 5 (V.lof 6 (nx n' om' t' _ _ _ (by omega) hrel))
  · have hxn := cd_0 (by decide) z
    refine v_aload_n C dL_law_898 rfl ?_
    refine v_iconst C 0 dL_law_899 (by decide) ?_
    refine v_lald C 0 0 rfl rfl (by decide) (by decide) dL_law_900 ?_
    rw [hxn] at hrel ⊢
    refine V.es (congrArg (fun z : Int64 => ([.long z] : List Value)) (oc_0 _ _)) ?_
    refine v_iload C dL_law_901 rfl ?_
    refine v_i2l C dL_law_903 ?_
    refine v_lcmp C dL_law_904 ?_
    refine v_if_eq C 910 dL_law_905 (by decide) (fun _ => ?_) (fun z => absurd (by rw [hr hxn]; exact lg_self _) z)
    refine v_goto C 1149 dL_law_910 (by decide) ?_
    exact V.lof 5 (V.lof 6 (nx n' om' t' _ _ _ (by omega) hrel))
set_option maxHeartbeats 4000000 in
set_option maxRecDepth 100000 in
theorem law_driverOf {p : Program} {l : Launch} {e : Env} {s : State} {m : MethodId} {args : Array Value} {below : List Frame} {meth : Method} {c : Code} {Q : State → Prop} {ret : Option FieldType} {G : va_G} {cy : Nat → ClassId} {A : Nat → Prop} {ad am : Nat → Nat} {ao : Nat} {f : Nat → Int64} {x y : Sg} (C : vC p s m args meth c cL_law 7 wsL_law RL ret G cy A) (hX : xT A s s.heap) (hN : xN s) (hl : l.stackTraces = false) {b0 L : Nat} {xs : Nat → Int32} (S : va_X b0 L xs s s.heap) (hbl : b0 < s.heap.size) (hbA : ¬ A b0) (hL : L ≤ 3072) {n om t k : Nat} (hk : 6 * k + 6 ≤ L) (hom : om ≤ k) (h : Rel n om t x y) (nx : ∀ (n' om' t' : Nat) (x' y' : Sg) (f' : Nat → Int64), om' ≤ k + 1 → Rel n' om' t' x' y' → V p l e room_1 s m args below meth c 7 G A Q (wL cy ao f' ad x' am y') (52 + 8 * k + 8) (4455 + 48 * k + 48) 1149 [some (.ref b0), some (.ref (ad 0)), some (.ref (am 0)), some (.ref ao), some (.int (nI (6 * k))), none, none] []) : V p l e room_1 s m args below meth c 7 G A Q (wL cy ao f ad x am y) (52 + 8 * k) (4455 + 48 * k) 913 [some (.ref b0), some (.ref (ad 0)), some (.ref (am 0)), some (.ref ao), some (.int (nI (6 * k))), none, none] [] := by
  obtain ⟨hcd, hr, n', om', t', hle, hrel⟩ := sim_rowq h 11 (by decide) (xs (6 * k + 1))
  refine v_aload_n C dL_law_913 rfl ?_
  refine v_aload_n C dL_law_914 rfl ?_
  refine v_iload C dL_law_915 rfl ?_
  refine v_iconst C 1 dL_law_917 (by decide) ?_
  refine v_iadd C dL_law_918 ?_
  refine v_sld C S hbl hbA (6 * k + 1) (nI_add (6 * k) 1) (by omega) hL dL_law_919 ?_
  refine v_aload_n C dL_law_920 rfl ?_
  refine vL_w C hX hN (k_L_driverOf l G cy ad ao f x _ (xs (6 * k + 1)) _ _ hE_idx (k_X1_driverOf l G cy hl ad x n h.1.1 h.1.2.1 (xs (6 * k + 1)))) rfl gL_law_L_driverOf (nA := 3) (by decide +kernel) rfl (by decide) (by constructor <;> simp only [room_1] <;> omega) rfl (Nat.le_of_ble_eq_true rfl) dL_law_921 ?_
  refine v_istore C dL_law_924 (by decide) ?_
  refine v_aload_n C dL_law_926 rfl ?_
  refine v_aload_n C dL_law_927 rfl ?_
  refine v_iload C dL_law_928 rfl ?_
  refine v_iconst C 1 dL_law_930 (by decide) ?_
  refine v_iadd C dL_law_931 ?_
  refine v_sld C S hbl hbA (6 * k + 1) (nI_add (6 * k) 1) (by omega) hL dL_law_932 ?_
  refine vL_m C (k_X2_driverOf l G cy am y n (rel_y1 h) h.1.2.1 (xs (6 * k + 1))) rfl gL_law_X2_driverOf (nA := 1) (by decide +kernel) rfl (by decide) (by constructor <;> simp only [room_1] <;> omega) rfl rfl (Nat.le_of_ble_eq_true rfl) dL_law_933 ?_
  refine v_istore C dL_law_936 (by decide) ?_
  refine v_aload_n C dL_law_938 rfl ?_
  refine vL_m C (k_X2_thrown l G cy am _) rfl gL_law_X2_thrown (nA := 0) (by decide +kernel) rfl (by decide) (by constructor <;> simp only [room_1] <;> omega) rfl rfl (Nat.le_of_ble_eq_true rfl) dL_law_939 ?_
  refine v_iload C dL_law_942 rfl ?_
  refine v_icmp_eq C 949 dL_law_944 (by decide) (fun _ => ?_) (fun z => absurd hcd.symm z)
  refine v_iload C dL_law_949 rfl ?_
  refine v_if_ne C 966 dL_law_951 (by decide) (fun _ => ?_) (fun z => ?_)
  · -- both have thrown
    refine v_goto C 1149 dL_law_966 (by decide) ?_
    exact V.lof 5 (V.lof 6 (nx n' om' t' _ _ _ (by omega) hrel))
  · have hxn := cd_0 (by decide) z
    refine v_aload_n C dL_law_954 rfl ?_
    refine v_iconst C 0 dL_law_955 (by decide) ?_
    refine v_lald C 0 0 rfl rfl (by decide) (by decide) dL_law_956 ?_
    rw [hxn] at hrel ⊢
    refine V.es (congrArg (fun z : Int64 => ([.long z] : List Value)) (oc_0 _ _)) ?_
    refine v_iload C dL_law_957 rfl ?_
    refine v_i2l C dL_law_959 ?_
    refine v_lcmp C dL_law_960 ?_
    refine v_if_eq C 966 dL_law_961 (by decide) (fun _ => ?_) (fun z => absurd (by rw [hr hxn]; exact lg_self _) z)
    refine v_goto C 1149 dL_law_966 (by decide) ?_
    exact V.lof 5 (V.lof 6 (nx n' om' t' _ _ _ (by omega) hrel))
set_option maxHeartbeats 4000000 in
set_option maxRecDepth 100000 in
theorem law_charge {p : Program} {l : Launch} {e : Env} {s : State} {m : MethodId} {args : Array Value} {below : List Frame} {meth : Method} {c : Code} {Q : State → Prop} {ret : Option FieldType} {G : va_G} {cy : Nat → ClassId} {A : Nat → Prop} {ad am : Nat → Nat} {ao : Nat} {f : Nat → Int64} {x y : Sg} (C : vC p s m args meth c cL_law 7 wsL_law RL ret G cy A) (hX : xT A s s.heap) (hN : xN s) (hl : l.stackTraces = false) {b0 L : Nat} {xs : Nat → Int32} (S : va_X b0 L xs s s.heap) (hbl : b0 < s.heap.size) (hbA : ¬ A b0) (hL : L ≤ 3072) {n om t k : Nat} (hk : 6 * k + 6 ≤ L) (hom : om ≤ k) (h : Rel n om t x y) (nx : ∀ (n' om' t' : Nat) (x' y' : Sg) (f' : Nat → Int64), om' ≤ k + 1 → Rel n' om' t' x' y' → V p l e room_1 s m args below meth c 7 G A Q (wL cy ao f' ad x' am y') (52 + 8 * k + 8) (4455 + 48 * k + 48) 1149 [some (.ref b0), some (.ref (ad 0)), some (.ref (am 0)), some (.ref ao), some (.int (nI (6 * k))), none, none] []) : V p l e room_1 s m args below meth c 7 G A Q (wL cy ao f ad x am y) (52 + 8 * k) (4455 + 48 * k) 969 [some (.ref b0), some (.ref (ad 0)), some (.ref (am 0)), some (.ref ao), some (.int (nI (6 * k))), none, none] [] := by
  obtain ⟨hcd, hr, n', om', t', hle, hrel⟩ := sim_charge h (xs (6 * k + 1))
  refine v_aload_n C dL_law_969 rfl ?_
  refine v_aload_n C dL_law_970 rfl ?_
  refine v_iload C dL_law_971 rfl ?_
  refine v_iconst C 1 dL_law_973 (by decide) ?_
  refine v_iadd C dL_law_974 ?_
  refine v_sld C S hbl hbA (6 * k + 1) (nI_add (6 * k) 1) (by omega) hL dL_law_975 ?_
  refine v_aload_n C dL_law_976 rfl ?_
  refine vL_w C hX hN (k_L_charge l G cy ad ao f x _ (xs (6 * k + 1)) _ _ hE_idx (k_X1_charge l G cy hl ad x (xs (6 * k + 1)))) rfl gL_law_L_charge (nA := 3) (by decide +kernel) rfl (by decide) (by constructor <;> simp only [room_1] <;> omega) rfl (Nat.le_of_ble_eq_true rfl) dL_law_977 ?_
  refine v_istore C dL_law_980 (by decide) ?_
  refine v_aload_n C dL_law_982 rfl ?_
  refine v_aload_n C dL_law_983 rfl ?_
  refine v_iload C dL_law_984 rfl ?_
  refine v_iconst C 1 dL_law_986 (by decide) ?_
  refine v_iadd C dL_law_987 ?_
  refine v_sld C S hbl hbA (6 * k + 1) (nI_add (6 * k) 1) (by omega) hL dL_law_988 ?_
  refine vL_m C (k_X2_charge l G cy am y (xs (6 * k + 1))) rfl gL_law_X2_charge (nA := 1) (by decide +kernel) rfl (by decide) (by constructor <;> simp only [room_1] <;> omega) rfl rfl (Nat.le_of_ble_eq_true rfl) dL_law_989 ?_
  refine v_istore C dL_law_992 (by decide) ?_
  refine v_aload_n C dL_law_994 rfl ?_
  refine vL_m C (k_X2_thrown l G cy am _) rfl gL_law_X2_thrown (nA := 0) (by decide +kernel) rfl (by decide) (by constructor <;> simp only [room_1] <;> omega) rfl rfl (Nat.le_of_ble_eq_true rfl) dL_law_995 ?_
  refine v_iload C dL_law_998 rfl ?_
  refine v_icmp_eq C 1005 dL_law_1000 (by decide) (fun _ => ?_) (fun z => absurd hcd.symm z)
  refine v_iload C dL_law_1005 rfl ?_
  refine v_if_ne C 1022 dL_law_1007 (by decide) (fun _ => ?_) (fun z => ?_)
  · -- both have thrown
    refine v_goto C 1149 dL_law_1022 (by decide) ?_
    exact V.lof 5 (V.lof 6 (nx n' om' t' _ _ _ (by omega) hrel))
  · have hxn := cd_0 (by decide) z
    refine v_aload_n C dL_law_1010 rfl ?_
    refine v_iconst C 0 dL_law_1011 (by decide) ?_
    refine v_lald C 0 0 rfl rfl (by decide) (by decide) dL_law_1012 ?_
    rw [hxn] at hrel ⊢
    refine V.es (congrArg (fun z : Int64 => ([.long z] : List Value)) (oc_0 _ _)) ?_
    refine v_iload C dL_law_1013 rfl ?_
    refine v_i2l C dL_law_1015 ?_
    refine v_lcmp C dL_law_1016 ?_
    refine v_if_eq C 1022 dL_law_1017 (by decide) (fun _ => ?_) (fun z => absurd (by rw [hr hxn]; exact lg_self _) z)
    refine v_goto C 1149 dL_law_1022 (by decide) ?_
    exact V.lof 5 (V.lof 6 (nx n' om' t' _ _ _ (by omega) hrel))
set_option maxHeartbeats 4000000 in
set_option maxRecDepth 100000 in
theorem law_promised {p : Program} {l : Launch} {e : Env} {s : State} {m : MethodId} {args : Array Value} {below : List Frame} {meth : Method} {c : Code} {Q : State → Prop} {ret : Option FieldType} {G : va_G} {cy : Nat → ClassId} {A : Nat → Prop} {ad am : Nat → Nat} {ao : Nat} {f : Nat → Int64} {x y : Sg} (C : vC p s m args meth c cL_law 7 wsL_law RL ret G cy A) (hX : xT A s s.heap) (hN : xN s) (hl : l.stackTraces = false) {b0 L : Nat} {xs : Nat → Int32} (S : va_X b0 L xs s s.heap) (hbl : b0 < s.heap.size) (hbA : ¬ A b0) (hL : L ≤ 3072) {n om t k : Nat} (hk : 6 * k + 6 ≤ L) (hom : om ≤ k) (h : Rel n om t x y) (nx : ∀ (n' om' t' : Nat) (x' y' : Sg) (f' : Nat → Int64), om' ≤ k + 1 → Rel n' om' t' x' y' → V p l e room_1 s m args below meth c 7 G A Q (wL cy ao f' ad x' am y') (52 + 8 * k + 8) (4455 + 48 * k + 48) 1149 [some (.ref b0), some (.ref (ad 0)), some (.ref (am 0)), some (.ref ao), some (.int (nI (6 * k))), none, none] []) : V p l e room_1 s m args below meth c 7 G A Q (wL cy ao f ad x am y) (52 + 8 * k) (4455 + 48 * k) 1025 [some (.ref b0), some (.ref (ad 0)), some (.ref (am 0)), some (.ref ao), some (.int (nI (6 * k))), none, none] [] := by
  obtain ⟨hcd, hr, n', om', t', hle, hrel⟩ := sim_promised h (xs (6 * k + 1))
  refine v_aload_n C dL_law_1025 rfl ?_
  refine v_aload_n C dL_law_1026 rfl ?_
  refine v_iload C dL_law_1027 rfl ?_
  refine v_iconst C 1 dL_law_1029 (by decide) ?_
  refine v_iadd C dL_law_1030 ?_
  refine v_sld C S hbl hbA (6 * k + 1) (nI_add (6 * k) 1) (by omega) hL dL_law_1031 ?_
  refine v_aload_n C dL_law_1032 rfl ?_
  refine vL_w C hX hN (k_L_promised l G cy ad ao f x _ (xs (6 * k + 1)) _ _ hE_idx (k_X1_promised l G cy hl ad x n h.1.1 h.1.2.1 (xs (6 * k + 1)))) rfl gL_law_L_promised (nA := 3) (by decide +kernel) rfl (by decide) (by constructor <;> simp only [room_1] <;> omega) rfl (Nat.le_of_ble_eq_true rfl) dL_law_1033 ?_
  refine v_istore C dL_law_1036 (by decide) ?_
  refine v_aload_n C dL_law_1038 rfl ?_
  refine v_aload_n C dL_law_1039 rfl ?_
  refine v_iload C dL_law_1040 rfl ?_
  refine v_iconst C 1 dL_law_1042 (by decide) ?_
  refine v_iadd C dL_law_1043 ?_
  refine v_sld C S hbl hbA (6 * k + 1) (nI_add (6 * k) 1) (by omega) hL dL_law_1044 ?_
  refine vL_m C (k_X2_promised l G cy am y n (rel_y1 h) h.1.2.1 (xs (6 * k + 1))) rfl gL_law_X2_promised (nA := 1) (by decide +kernel) rfl (by decide) (by constructor <;> simp only [room_1] <;> omega) rfl rfl (Nat.le_of_ble_eq_true rfl) dL_law_1045 ?_
  refine v_istore C dL_law_1048 (by decide) ?_
  refine v_aload_n C dL_law_1050 rfl ?_
  refine vL_m C (k_X2_thrown l G cy am _) rfl gL_law_X2_thrown (nA := 0) (by decide +kernel) rfl (by decide) (by constructor <;> simp only [room_1] <;> omega) rfl rfl (Nat.le_of_ble_eq_true rfl) dL_law_1051 ?_
  refine v_iload C dL_law_1054 rfl ?_
  refine v_icmp_eq C 1061 dL_law_1056 (by decide) (fun _ => ?_) (fun z => absurd hcd.symm z)
  refine v_iload C dL_law_1061 rfl ?_
  refine v_if_ne C 1078 dL_law_1063 (by decide) (fun _ => ?_) (fun z => ?_)
  · -- both have thrown
    refine v_goto C 1149 dL_law_1078 (by decide) ?_
    exact V.lof 5 (V.lof 6 (nx n' om' t' _ _ _ (by omega) hrel))
  · have hxn := cd_0 (by decide) z
    refine v_aload_n C dL_law_1066 rfl ?_
    refine v_iconst C 0 dL_law_1067 (by decide) ?_
    refine v_lald C 0 0 rfl rfl (by decide) (by decide) dL_law_1068 ?_
    rw [hxn] at hrel ⊢
    refine V.es (congrArg (fun z : Int64 => ([.long z] : List Value)) (oc_0 _ _)) ?_
    refine v_iload C dL_law_1069 rfl ?_
    refine v_i2l C dL_law_1071 ?_
    refine v_lcmp C dL_law_1072 ?_
    refine v_if_eq C 1078 dL_law_1073 (by decide) (fun _ => ?_) (fun z => absurd (by rw [hr hxn]; exact lg_self _) z)
    refine v_goto C 1149 dL_law_1078 (by decide) ?_
    exact V.lof 5 (V.lof 6 (nx n' om' t' _ _ _ (by omega) hrel))
set_option maxHeartbeats 4000000 in
set_option maxRecDepth 100000 in
theorem law_minutesOf {p : Program} {l : Launch} {e : Env} {s : State} {m : MethodId} {args : Array Value} {below : List Frame} {meth : Method} {c : Code} {Q : State → Prop} {ret : Option FieldType} {G : va_G} {cy : Nat → ClassId} {A : Nat → Prop} {ad am : Nat → Nat} {ao : Nat} {f : Nat → Int64} {x y : Sg} (C : vC p s m args meth c cL_law 7 wsL_law RL ret G cy A) (hX : xT A s s.heap) (hN : xN s) (hl : l.stackTraces = false) {b0 L : Nat} {xs : Nat → Int32} (S : va_X b0 L xs s s.heap) (hbl : b0 < s.heap.size) (hbA : ¬ A b0) (hL : L ≤ 3072) {n om t k : Nat} (hk : 6 * k + 6 ≤ L) (hom : om ≤ k) (h : Rel n om t x y) (nx : ∀ (n' om' t' : Nat) (x' y' : Sg) (f' : Nat → Int64), om' ≤ k + 1 → Rel n' om' t' x' y' → V p l e room_1 s m args below meth c 7 G A Q (wL cy ao f' ad x' am y') (52 + 8 * k + 8) (4455 + 48 * k + 48) 1149 [some (.ref b0), some (.ref (ad 0)), some (.ref (am 0)), some (.ref ao), some (.int (nI (6 * k))), none, none] []) : V p l e room_1 s m args below meth c 7 G A Q (wL cy ao f ad x am y) (52 + 8 * k) (4455 + 48 * k) 1081 [some (.ref b0), some (.ref (ad 0)), some (.ref (am 0)), some (.ref ao), some (.int (nI (6 * k))), none, none] [] := by
  obtain ⟨hcd, hr, n', om', t', hle, hrel⟩ := sim_minutesOf h (xs (6 * k + 1)) (xs (6 * k + 2))
  refine v_aload_n C dL_law_1081 rfl ?_
  refine v_aload_n C dL_law_1082 rfl ?_
  refine v_iload C dL_law_1083 rfl ?_
  refine v_iconst C 1 dL_law_1085 (by decide) ?_
  refine v_iadd C dL_law_1086 ?_
  refine v_sld C S hbl hbA (6 * k + 1) (nI_add (6 * k) 1) (by omega) hL dL_law_1087 ?_
  refine v_aload_n C dL_law_1088 rfl ?_
  refine v_iload C dL_law_1089 rfl ?_
  refine v_iconst C 2 dL_law_1091 (by decide) ?_
  refine v_iadd C dL_law_1092 ?_
  refine v_sld C S hbl hbA (6 * k + 2) (nI_add (6 * k) 2) (by omega) hL dL_law_1093 ?_
  refine v_aload_n C dL_law_1094 rfl ?_
  refine vL_w C hX hN (k_L_minutesOf l G cy ad ao f x _ (xs (6 * k + 1)) (xs (6 * k + 2)) _ _ hE_idx (k_X1_minutesOf l G cy hl ad x n h.1.1 h.1.2.1 (xs (6 * k + 1)) (xs (6 * k + 2)))) rfl gL_law_L_minutesOf (nA := 4) (by decide +kernel) rfl (by decide) (by constructor <;> simp only [room_1] <;> omega) rfl (Nat.le_of_ble_eq_true rfl) dL_law_1095 ?_
  refine v_istore C dL_law_1098 (by decide) ?_
  refine v_aload_n C dL_law_1100 rfl ?_
  refine v_aload_n C dL_law_1101 rfl ?_
  refine v_iload C dL_law_1102 rfl ?_
  refine v_iconst C 1 dL_law_1104 (by decide) ?_
  refine v_iadd C dL_law_1105 ?_
  refine v_sld C S hbl hbA (6 * k + 1) (nI_add (6 * k) 1) (by omega) hL dL_law_1106 ?_
  refine v_aload_n C dL_law_1107 rfl ?_
  refine v_iload C dL_law_1108 rfl ?_
  refine v_iconst C 2 dL_law_1110 (by decide) ?_
  refine v_iadd C dL_law_1111 ?_
  refine v_sld C S hbl hbA (6 * k + 2) (nI_add (6 * k) 2) (by omega) hL dL_law_1112 ?_
  refine vL_m C (k_X2_minutesOf l G cy am y n (rel_y1 h) h.1.2.1 (xs (6 * k + 1)) (xs (6 * k + 2))) rfl gL_law_X2_minutesOf (nA := 2) (by decide +kernel) rfl (by decide) (by constructor <;> simp only [room_1] <;> omega) rfl rfl (Nat.le_of_ble_eq_true rfl) dL_law_1113 ?_
  refine v_istore C dL_law_1116 (by decide) ?_
  refine v_aload_n C dL_law_1118 rfl ?_
  refine vL_m C (k_X2_thrown l G cy am _) rfl gL_law_X2_thrown (nA := 0) (by decide +kernel) rfl (by decide) (by constructor <;> simp only [room_1] <;> omega) rfl rfl (Nat.le_of_ble_eq_true rfl) dL_law_1119 ?_
  refine v_iload C dL_law_1122 rfl ?_
  refine v_icmp_eq C 1129 dL_law_1124 (by decide) (fun _ => ?_) (fun z => absurd hcd.symm z)
  refine v_iload C dL_law_1129 rfl ?_
  refine v_if_ne C 1146 dL_law_1131 (by decide) (fun _ => ?_) (fun z => ?_)
  · -- both have thrown
    refine v_goto C 1149 dL_law_1146 (by decide) ?_
    exact V.lof 5 (V.lof 6 (nx n' om' t' _ _ _ (by omega) hrel))
  · have hxn := cd_0 (by decide) z
    refine v_aload_n C dL_law_1134 rfl ?_
    refine v_iconst C 0 dL_law_1135 (by decide) ?_
    refine v_lald C 0 0 rfl rfl (by decide) (by decide) dL_law_1136 ?_
    rw [hxn] at hrel ⊢
    refine V.es (congrArg (fun z : Int64 => ([.long z] : List Value)) (oc_0 _ _)) ?_
    refine v_iload C dL_law_1137 rfl ?_
    refine v_i2l C dL_law_1139 ?_
    refine v_lcmp C dL_law_1140 ?_
    refine v_if_eq C 1146 dL_law_1141 (by decide) (fun _ => ?_) (fun z => absurd (by rw [hr hxn]; exact lg_self _) z)
    refine v_goto C 1149 dL_law_1146 (by decide) ?_
    exact V.lof 5 (V.lof 6 (nx n' om' t' _ _ _ (by omega) hrel))
set_option maxHeartbeats 4000000 in
set_option maxRecDepth 100000 in
theorem law_minute {p : Program} {l : Launch} {e : Env} {s : State} {m : MethodId} {args : Array Value} {below : List Frame} {meth : Method} {c : Code} {Q : State → Prop} {ret : Option FieldType} {G : va_G} {cy : Nat → ClassId} {A : Nat → Prop} {ad am : Nat → Nat} {ao : Nat} {f : Nat → Int64} {x y : Sg} (C : vC p s m args meth c cL_law 7 wsL_law RL ret G cy A) (hX : xT A s s.heap) (hN : xN s) (hl : l.stackTraces = false) {b0 L : Nat} {xs : Nat → Int32} (S : va_X b0 L xs s s.heap) (hbl : b0 < s.heap.size) (hbA : ¬ A b0) (hL : L ≤ 3072) {n om t k : Nat} (hk : 6 * k + 6 ≤ L) (hom : om ≤ k) (h : Rel n om t x y) (nx : ∀ (n' om' t' : Nat) (x' y' : Sg) (f' : Nat → Int64), om' ≤ k + 1 → Rel n' om' t' x' y' → V p l e room_1 s m args below meth c 7 G A Q (wL cy ao f' ad x' am y') (52 + 8 * k + 8) (4455 + 48 * k + 48) 1149 [some (.ref b0), some (.ref (ad 0)), some (.ref (am 0)), some (.ref ao), some (.int (nI (6 * k))), none, none] []) : V p l e room_1 s m args below meth c 7 G A Q (wL cy ao f ad x am y) (52 + 8 * k) (4455 + 48 * k) 693 [some (.ref b0), some (.ref (ad 0)), some (.ref (am 0)), some (.ref ao), some (.int (nI (6 * k))), none, none] [] := by
  refine v_aload_n C dL_law_693 rfl ?_
  refine vL_d C (k_X1_minute l G cy ad x) rfl gL_law_X1_minute (nA := 0) (by decide +kernel) rfl (by decide) (by constructor <;> simp only [room_1] <;> omega) rfl rfl (Nat.le_of_ble_eq_true rfl) dL_law_694 ?_
  refine v_aload_n C dL_law_697 rfl ?_
  refine vL_m C (k_X2_minute l G cy am y) rfl gL_law_X2_minute (nA := 0) (by decide +kernel) rfl (by decide) (by constructor <;> simp only [room_1] <;> omega) rfl rfl (Nat.le_of_ble_eq_true rfl) dL_law_698 ?_
  refine v_icmp_eq C 1149 dL_law_701 (by decide) (fun _ => ?_) (fun z => absurd ((ag_a h.2 0).symm) z)
  exact V.widen (by omega) (by omega) (nx n om t _ _ _ (by omega) (h.thr 0))
set_option maxHeartbeats 4000000 in
set_option maxRecDepth 100000 in
theorem law_leader {p : Program} {l : Launch} {e : Env} {s : State} {m : MethodId} {args : Array Value} {below : List Frame} {meth : Method} {c : Code} {Q : State → Prop} {ret : Option FieldType} {G : va_G} {cy : Nat → ClassId} {A : Nat → Prop} {ad am : Nat → Nat} {ao : Nat} {f : Nat → Int64} {x y : Sg} (C : vC p s m args meth c cL_law 7 wsL_law RL ret G cy A) (hX : xT A s s.heap) (hN : xN s) (hl : l.stackTraces = false) {b0 L : Nat} {xs : Nat → Int32} (S : va_X b0 L xs s s.heap) (hbl : b0 < s.heap.size) (hbA : ¬ A b0) (hL : L ≤ 3072) {n om t k : Nat} (hk : 6 * k + 6 ≤ L) (hom : om ≤ k) (h : Rel n om t x y) (nx : ∀ (n' om' t' : Nat) (x' y' : Sg) (f' : Nat → Int64), om' ≤ k + 1 → Rel n' om' t' x' y' → V p l e room_1 s m args below meth c 7 G A Q (wL cy ao f' ad x' am y') (52 + 8 * k + 8) (4455 + 48 * k + 48) 1149 [some (.ref b0), some (.ref (ad 0)), some (.ref (am 0)), some (.ref ao), some (.int (nI (6 * k))), none, none] []) : V p l e room_1 s m args below meth c 7 G A Q (wL cy ao f ad x am y) (52 + 8 * k) (4455 + 48 * k) 706 [some (.ref b0), some (.ref (ad 0)), some (.ref (am 0)), some (.ref ao), some (.int (nI (6 * k))), none, none] [] := by
  refine v_aload_n C dL_law_706 rfl ?_
  refine vL_d C (k_X1_leader l G cy ad x) rfl gL_law_X1_leader (nA := 0) (by decide +kernel) rfl (by decide) (by constructor <;> simp only [room_1] <;> omega) rfl rfl (Nat.le_of_ble_eq_true rfl) dL_law_707 ?_
  refine v_aload_n C dL_law_710 rfl ?_
  refine vL_m C (k_X2_leader l G cy am y) rfl gL_law_X2_leader (nA := 0) (by decide +kernel) rfl (by decide) (by constructor <;> simp only [room_1] <;> omega) rfl rfl (Nat.le_of_ble_eq_true rfl) dL_law_711 ?_
  refine v_icmp_eq C 1149 dL_law_714 (by decide) (fun _ => ?_) (fun z => absurd ((ag_lead (ag_t h.2 0)).symm) z)
  exact V.widen (by omega) (by omega) (nx n om t _ _ _ (by omega) (h.thr 0))
set_option maxHeartbeats 4000000 in
set_option maxRecDepth 100000 in
theorem law_runs {p : Program} {l : Launch} {e : Env} {s : State} {m : MethodId} {args : Array Value} {below : List Frame} {meth : Method} {c : Code} {Q : State → Prop} {ret : Option FieldType} {G : va_G} {cy : Nat → ClassId} {A : Nat → Prop} {ad am : Nat → Nat} {ao : Nat} {f : Nat → Int64} {x y : Sg} (C : vC p s m args meth c cL_law 7 wsL_law RL ret G cy A) (hX : xT A s s.heap) (hN : xN s) (hl : l.stackTraces = false) {b0 L : Nat} {xs : Nat → Int32} (S : va_X b0 L xs s s.heap) (hbl : b0 < s.heap.size) (hbA : ¬ A b0) (hL : L ≤ 3072) {n om t k : Nat} (hk : 6 * k + 6 ≤ L) (hom : om ≤ k) (h : Rel n om t x y) (nx : ∀ (n' om' t' : Nat) (x' y' : Sg) (f' : Nat → Int64), om' ≤ k + 1 → Rel n' om' t' x' y' → V p l e room_1 s m args below meth c 7 G A Q (wL cy ao f' ad x' am y') (52 + 8 * k + 8) (4455 + 48 * k + 48) 1149 [some (.ref b0), some (.ref (ad 0)), some (.ref (am 0)), some (.ref ao), some (.int (nI (6 * k))), none, none] []) : V p l e room_1 s m args below meth c 7 G A Q (wL cy ao f ad x am y) (52 + 8 * k) (4455 + 48 * k) 719 [some (.ref b0), some (.ref (ad 0)), some (.ref (am 0)), some (.ref ao), some (.int (nI (6 * k))), none, none] [] := by
  refine v_aload_n C dL_law_719 rfl ?_
  refine vL_d C (k_X1_runs l G cy ad x) rfl gL_law_X1_runs (nA := 0) (by decide +kernel) rfl (by decide) (by constructor <;> simp only [room_1] <;> omega) rfl rfl (Nat.le_of_ble_eq_true rfl) dL_law_720 ?_
  refine v_aload_n C dL_law_723 rfl ?_
  refine vL_m C (k_X2_runs l G cy am y) rfl gL_law_X2_runs (nA := 0) (by decide +kernel) rfl (by decide) (by constructor <;> simp only [room_1] <;> omega) rfl rfl (Nat.le_of_ble_eq_true rfl) dL_law_724 ?_
  refine v_icmp_eq C 1149 dL_law_727 (by decide) (fun _ => ?_) (fun z => absurd ((ag_a h.2 1).symm) z)
  exact V.widen (by omega) (by omega) (nx n om t _ _ _ (by omega) (h.thr 0))
set_option maxHeartbeats 4000000 in
set_option maxRecDepth 100000 in
theorem law_orders {p : Program} {l : Launch} {e : Env} {s : State} {m : MethodId} {args : Array Value} {below : List Frame} {meth : Method} {c : Code} {Q : State → Prop} {ret : Option FieldType} {G : va_G} {cy : Nat → ClassId} {A : Nat → Prop} {ad am : Nat → Nat} {ao : Nat} {f : Nat → Int64} {x y : Sg} (C : vC p s m args meth c cL_law 7 wsL_law RL ret G cy A) (hX : xT A s s.heap) (hN : xN s) (hl : l.stackTraces = false) {b0 L : Nat} {xs : Nat → Int32} (S : va_X b0 L xs s s.heap) (hbl : b0 < s.heap.size) (hbA : ¬ A b0) (hL : L ≤ 3072) {n om t k : Nat} (hk : 6 * k + 6 ≤ L) (hom : om ≤ k) (h : Rel n om t x y) (nx : ∀ (n' om' t' : Nat) (x' y' : Sg) (f' : Nat → Int64), om' ≤ k + 1 → Rel n' om' t' x' y' → V p l e room_1 s m args below meth c 7 G A Q (wL cy ao f' ad x' am y') (52 + 8 * k + 8) (4455 + 48 * k + 48) 1149 [some (.ref b0), some (.ref (ad 0)), some (.ref (am 0)), some (.ref ao), some (.int (nI (6 * k))), none, none] []) : V p l e room_1 s m args below meth c 7 G A Q (wL cy ao f ad x am y) (52 + 8 * k) (4455 + 48 * k) 732 [some (.ref b0), some (.ref (ad 0)), some (.ref (am 0)), some (.ref ao), some (.int (nI (6 * k))), none, none] [] := by
  refine v_aload_n C dL_law_732 rfl ?_
  refine vL_d C (k_X1_orders l G cy ad x) rfl gL_law_X1_orders (nA := 0) (by decide +kernel) rfl (by decide) (by constructor <;> simp only [room_1] <;> omega) rfl rfl (Nat.le_of_ble_eq_true rfl) dL_law_733 ?_
  refine v_aload_n C dL_law_736 rfl ?_
  refine vL_m C (k_X2_orders l G cy am y) rfl gL_law_X2_orders (nA := 0) (by decide +kernel) rfl (by decide) (by constructor <;> simp only [room_1] <;> omega) rfl rfl (Nat.le_of_ble_eq_true rfl) dL_law_737 ?_
  refine v_icmp_eq C 1149 dL_law_740 (by decide) (fun _ => ?_) (fun z => absurd ((ag_a h.2 2).symm) z)
  exact V.widen (by omega) (by omega) (nx n om t _ _ _ (by omega) (h.thr 0))
