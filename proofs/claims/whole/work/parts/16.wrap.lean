/-! THE LAW'S CALLS: what the class answers, its exceptions as numbers -/
def wOD (cy : Nat → ClassId) (ao : Nat) (f : Nat → Int64) (ad : Nat → Nat) (x : Sg) : va_W := (ao, .inl (cy 3, 1, .inr (.inl f))) :: wD cy ad x
def oc {α : Type} (xo : Option String) (a b : α) : α := match xo with | none => a | some _ => b
/-- an exception's number among the classes ls -/
def cd (ls : List String) : Option String → Int32 | none => 0 | some E => nI (ls.idxOf E + 1)
noncomputable def bL (r : Int32) : Int64 := pif (r = 0) 0 1
set_option maxHeartbeats 4000000 in
set_option maxRecDepth 100000 in
theorem k_L_run (l : Launch) (G : va_G) (cy : Nat → ClassId) (ad : Nat → Nat) (ao : Nat) (f : Nat → Int64) (x x' : Sg) (a1 a2 a3 r : Int32) (xo : Option String) (hE : ∀ E, xo = some E → E = nIA ∨ E = nIS) (k : KXI l G cy yX1_run wsX1_run 7 104 8 48 [.ref (ad 0), .int a1, .int a2, .int a3] (wD cy ad x) xo r (wD cy ad x')) :
    KW l G cy yL_run wsL_run 8 128 8 48 [.ref (ad 0), .int a1, .int a2, .int a3, .ref ao] (wOD cy ao f ad x) (cd [nIA, nIS] xo) (wOD cy ao (oc xo (vp_updL f 0 (r.toInt64)) f) ad (oc xo x' x)) := by
  refine KW_of (own := RL) (cc := cL_run) (maxL := 6) (ret := some .int) (hh := [(0, 12, 15, 13), (0, 12, 19, 15)]) (lo0 := [some (.ref (ad 0)), some (.int a1), some (.int a2), some (.int a3), some (.ref ao), none]) (by decide) rfl rfl (by simp [Value.category]) (Nat.le_of_ble_eq_true rfl) rfl (fun p e s m args below meth c A C hX hN hT => ?_)
  refine v_aload C dL_run_0 rfl ?_
  refine v_iconst C 0 dL_run_2 (by decide) ?_
  refine v_aload_n C dL_run_3 rfl ?_
  refine v_iload_n C dL_run_4 rfl ?_
  refine v_iload_n C dL_run_5 rfl ?_
  refine v_iload_n C dL_run_6 rfl ?_
  refine v_tryVI C hX [(ao, .inl (cy 3, 1, .inr (.inl f)))] [] k rfl gL_run_X1_run (nA := 3) (by decide +kernel) rfl (by decide) (by decide) rfl (Nat.le_of_ble_eq_true rfl) 0 1 rfl rfl rfl (by simp [wOD]) rfl dL_run_7 (fun E a hxE => ?_) (fun hxn => ?_)
  · subst hxE
    rcases hE E rfl with rfl | rfl
    · -- nIA
      refine ⟨[], ⟨0, 12, 15, 13⟩, [⟨0, 12, 19, 15⟩], nIA, hT, (fun z hz => nomatch hz), by decide, by decide, C.1.2.2.2.2 _ (by decide +kernel), hX.word _ (by decide +kernel), ?_⟩
      dsimp only
      refine v_astore C dL_run_15 (by decide) ?_
      refine v_iconst C 1 dL_run_17 (by decide) ?_
      exact v_iret C dL_run_18 (by decide +kernel)
    · -- nIS
      refine ⟨[⟨0, 12, 15, 13⟩], ⟨0, 12, 19, 15⟩, [], nIS, hT, (fun z hz => by simp only [List.mem_cons, List.not_mem_nil, or_false] at hz; subst hz <;> first | exact Or.inr ⟨by decide, nIA, C.1.2.2.2.2 _ (by decide +kernel), hN.1⟩), by decide, by decide, C.1.2.2.2.2 _ (by decide +kernel), hX.word _ (by decide +kernel), ?_⟩
      dsimp only
      refine v_astore C dL_run_19 (by decide) ?_
      refine v_iconst C 2 dL_run_21 (by decide) ?_
      exact v_iret C dL_run_22 (by decide +kernel)
  · subst hxn
    refine v_i2l C dL_run_10 ?_
    refine v_last C 0 0 rfl rfl (by decide) (by decide) rfl dL_run_11 ?_
    refine v_goto C 23 dL_run_12 (by decide) ?_
    refine v_iconst C 0 dL_run_23 (by decide) ?_
    exact v_iret C dL_run_24 rfl
set_option maxHeartbeats 4000000 in
set_option maxRecDepth 100000 in
theorem k_L_lead (l : Launch) (G : va_G) (cy : Nat → ClassId) (ad : Nat → Nat) (ao : Nat) (f : Nat → Int64) (x x' : Sg) (a1 a2 r : Int32) (xo : Option String) (hE : ∀ E, xo = some E → E = nIO ∨ E = nIA) (k : KXI l G cy yX1_lead wsX1_lead 7 104 8 48 [.ref (ad 0), .int a1, .int a2] (wD cy ad x) xo r (wD cy ad x')) :
    KW l G cy yL_lead wsL_lead 8 127 8 48 [.ref (ad 0), .int a1, .int a2, .ref ao] (wOD cy ao f ad x) (cd [nIO, nIA] xo) (wOD cy ao (oc xo (vp_updL f 0 (bL r)) f) ad (oc xo x' x)) := by
  refine KW_of (own := RL) (cc := cL_lead) (maxL := 5) (ret := some .int) (hh := [(0, 17, 20, 21), (0, 17, 24, 13)]) (lo0 := [some (.ref (ad 0)), some (.int a1), some (.int a2), some (.ref ao), none]) (by decide) rfl rfl (by simp [Value.category]) (Nat.le_of_ble_eq_true rfl) rfl (fun p e s m args below meth c A C hX hN hT => ?_)
  refine v_aload_n C dL_lead_0 rfl ?_
  refine v_iconst C 0 dL_lead_1 (by decide) ?_
  refine v_aload_n C dL_lead_2 rfl ?_
  refine v_iload_n C dL_lead_3 rfl ?_
  refine v_iload_n C dL_lead_4 rfl ?_
  refine v_tryVI C hX [(ao, .inl (cy 3, 1, .inr (.inl f)))] [] k rfl gL_lead_X1_lead (nA := 2) (by decide +kernel) rfl (by decide) (by decide) rfl (Nat.le_of_ble_eq_true rfl) 0 1 rfl rfl rfl (by simp [wOD]) rfl dL_lead_5 (fun E a hxE => ?_) (fun hxn => ?_)
  · subst hxE
    rcases hE E rfl with rfl | rfl
    · -- nIO
      refine ⟨[], ⟨0, 17, 20, 21⟩, [⟨0, 17, 24, 13⟩], nIO, hT, (fun z hz => nomatch hz), by decide, by decide, C.1.2.2.2.2 _ (by decide +kernel), hX.word _ (by decide +kernel), ?_⟩
      dsimp only
      refine v_astore C dL_lead_20 (by decide) ?_
      refine v_iconst C 1 dL_lead_22 (by decide) ?_
      exact v_iret C dL_lead_23 (by decide +kernel)
    · -- nIA
      refine ⟨[⟨0, 17, 20, 21⟩], ⟨0, 17, 24, 13⟩, [], nIA, hT, (fun z hz => by simp only [List.mem_cons, List.not_mem_nil, or_false] at hz; subst hz <;> first | exact Or.inr ⟨by decide, nIO, C.1.2.2.2.2 _ (by decide +kernel), hN.2.1⟩), by decide, by decide, C.1.2.2.2.2 _ (by decide +kernel), hX.word _ (by decide +kernel), ?_⟩
      dsimp only
      refine v_astore C dL_lead_24 (by decide) ?_
      refine v_iconst C 2 dL_lead_26 (by decide) ?_
      exact v_iret C dL_lead_27 (by decide +kernel)
  · subst hxn
    refine v_if_eq C 15 dL_lead_8 (by decide) (fun c1 => ?_) (fun c1 => ?_)
    · rw [show bL r = 0 from pif_t c1]
      refine v_lconst C 0 dL_lead_15 (by decide) ?_
      refine v_last C 0 0 rfl rfl (by decide) (by decide) rfl dL_lead_16 ?_
      refine v_goto C 28 dL_lead_17 (by decide) ?_
      refine v_iconst C 0 dL_lead_28 (by decide) ?_
      exact v_iret C dL_lead_29 rfl
    · rw [show bL r = 1 from pif_f c1]
      refine v_lconst C 1 dL_lead_11 (by decide) ?_
      refine v_goto C 16 dL_lead_12 (by decide) ?_
      refine v_last C 0 0 rfl rfl (by decide) (by decide) rfl dL_lead_16 ?_
      refine v_goto C 28 dL_lead_17 (by decide) ?_
      refine v_iconst C 0 dL_lead_28 (by decide) ?_
      exact v_iret C dL_lead_29 rfl
set_option maxHeartbeats 4000000 in
set_option maxRecDepth 100000 in
theorem k_L_order (l : Launch) (G : va_G) (cy : Nat → ClassId) (ad : Nat → Nat) (ao : Nat) (f : Nat → Int64) (x x' : Sg) (a1 a2 a3 a4 a5 r : Int32) (xo : Option String) (hE : ∀ E, xo = some E → E = nIO ∨ E = nIA ∨ E = nIS) (k : KXI l G cy yX1_order wsX1_order 7 113 8 48 [.ref (ad 0), .int a1, .int a2, .int a3, .int a4, .int a5] (wD cy ad x) xo r (wD cy ad x')) :
    KW l G cy yL_order wsL_order 8 138 8 48 [.ref (ad 0), .int a1, .int a2, .int a3, .int a4, .int a5, .ref ao] (wOD cy ao f ad x) (cd [nIO, nIA, nIS] xo) (wOD cy ao (oc xo (vp_updL f 0 (r.toInt64)) f) ad (oc xo x' x)) := by
  refine KW_of (own := RL) (cc := cL_order) (maxL := 8) (ret := some .int) (hh := [(0, 16, 19, 21), (0, 16, 23, 13), (0, 16, 27, 15)]) (lo0 := [some (.ref (ad 0)), some (.int a1), some (.int a2), some (.int a3), some (.int a4), some (.int a5), some (.ref ao), none]) (by decide) rfl rfl (by simp [Value.category]) (Nat.le_of_ble_eq_true rfl) rfl (fun p e s m args below meth c A C hX hN hT => ?_)
  refine v_aload C dL_order_0 rfl ?_
  refine v_iconst C 0 dL_order_2 (by decide) ?_
  refine v_aload_n C dL_order_3 rfl ?_
  refine v_iload_n C dL_order_4 rfl ?_
  refine v_iload_n C dL_order_5 rfl ?_
  refine v_iload_n C dL_order_6 rfl ?_
  refine v_iload C dL_order_7 rfl ?_
  refine v_iload C dL_order_9 rfl ?_
  refine v_tryVI C hX [(ao, .inl (cy 3, 1, .inr (.inl f)))] [] k rfl gL_order_X1_order (nA := 5) (by decide +kernel) rfl (by decide) (by decide) rfl (Nat.le_of_ble_eq_true rfl) 0 1 rfl rfl rfl (by simp [wOD]) rfl dL_order_11 (fun E a hxE => ?_) (fun hxn => ?_)
  · subst hxE
    rcases hE E rfl with rfl | rfl | rfl
    · -- nIO
      refine ⟨[], ⟨0, 16, 19, 21⟩, [⟨0, 16, 23, 13⟩, ⟨0, 16, 27, 15⟩], nIO, hT, (fun z hz => nomatch hz), by decide, by decide, C.1.2.2.2.2 _ (by decide +kernel), hX.word _ (by decide +kernel), ?_⟩
      dsimp only
      refine v_astore C dL_order_19 (by decide) ?_
      refine v_iconst C 1 dL_order_21 (by decide) ?_
      exact v_iret C dL_order_22 (by decide +kernel)
    · -- nIA
      refine ⟨[⟨0, 16, 19, 21⟩], ⟨0, 16, 23, 13⟩, [⟨0, 16, 27, 15⟩], nIA, hT, (fun z hz => by simp only [List.mem_cons, List.not_mem_nil, or_false] at hz; subst hz <;> first | exact Or.inr ⟨by decide, nIO, C.1.2.2.2.2 _ (by decide +kernel), hN.2.1⟩), by decide, by decide, C.1.2.2.2.2 _ (by decide +kernel), hX.word _ (by decide +kernel), ?_⟩
      dsimp only
      refine v_astore C dL_order_23 (by decide) ?_
      refine v_iconst C 2 dL_order_25 (by decide) ?_
      exact v_iret C dL_order_26 (by decide +kernel)
    · -- nIS
      refine ⟨[⟨0, 16, 19, 21⟩, ⟨0, 16, 23, 13⟩], ⟨0, 16, 27, 15⟩, [], nIS, hT, (fun z hz => by simp only [List.mem_cons, List.not_mem_nil, or_false] at hz; rcases hz with rfl | rfl <;> first | exact Or.inr ⟨by decide, nIO, C.1.2.2.2.2 _ (by decide +kernel), hN.2.2⟩ | exact Or.inr ⟨by decide, nIA, C.1.2.2.2.2 _ (by decide +kernel), hN.1⟩), by decide, by decide, C.1.2.2.2.2 _ (by decide +kernel), hX.word _ (by decide +kernel), ?_⟩
      dsimp only
      refine v_astore C dL_order_27 (by decide) ?_
      refine v_iconst C 3 dL_order_29 (by decide) ?_
      exact v_iret C dL_order_30 (by decide +kernel)
  · subst hxn
    refine v_i2l C dL_order_14 ?_
    refine v_last C 0 0 rfl rfl (by decide) (by decide) rfl dL_order_15 ?_
    refine v_goto C 31 dL_order_16 (by decide) ?_
    refine v_iconst C 0 dL_order_31 (by decide) ?_
    exact v_iret C dL_order_32 rfl
set_option maxHeartbeats 4000000 in
set_option maxRecDepth 100000 in
theorem k_L_breaks (l : Launch) (G : va_G) (cy : Nat → ClassId) (ad : Nat → Nat) (ao : Nat) (f : Nat → Int64) (x x' : Sg) (a1 a2 r : Int32) (xo : Option String) (hE : ∀ E, xo = some E → E = nIO) (k : KXI l G cy yX1_breaks wsX1_breaks 7 112 8 48 [.ref (ad 0), .int a1, .int a2] (wD cy ad x) xo r (wD cy ad x')) :
    KW l G cy yL_breaks wsL_breaks 8 135 8 48 [.ref (ad 0), .int a1, .int a2, .ref ao] (wOD cy ao f ad x) (cd [nIO] xo) (wOD cy ao (oc xo (vp_updL f 0 (bL r)) f) ad (oc xo x' x)) := by
  refine KW_of (own := RL) (cc := cL_breaks) (maxL := 5) (ret := some .int) (hh := [(0, 17, 20, 21)]) (lo0 := [some (.ref (ad 0)), some (.int a1), some (.int a2), some (.ref ao), none]) (by decide) rfl rfl (by simp [Value.category]) (Nat.le_of_ble_eq_true rfl) rfl (fun p e s m args below meth c A C hX hN hT => ?_)
  refine v_aload_n C dL_breaks_0 rfl ?_
  refine v_iconst C 0 dL_breaks_1 (by decide) ?_
  refine v_aload_n C dL_breaks_2 rfl ?_
  refine v_iload_n C dL_breaks_3 rfl ?_
  refine v_iload_n C dL_breaks_4 rfl ?_
  refine v_tryVI C hX [(ao, .inl (cy 3, 1, .inr (.inl f)))] [] k rfl gL_breaks_X1_breaks (nA := 2) (by decide +kernel) rfl (by decide) (by decide) rfl (Nat.le_of_ble_eq_true rfl) 0 1 rfl rfl rfl (by simp [wOD]) rfl dL_breaks_5 (fun E a hxE => ?_) (fun hxn => ?_)
  · subst hxE
    have hE1 := hE E rfl
    subst hE1
    · -- nIO
      refine ⟨[], ⟨0, 17, 20, 21⟩, [], nIO, hT, (fun z hz => nomatch hz), by decide, by decide, C.1.2.2.2.2 _ (by decide +kernel), hX.word _ (by decide +kernel), ?_⟩
      dsimp only
      refine v_astore C dL_breaks_20 (by decide) ?_
      refine v_iconst C 1 dL_breaks_22 (by decide) ?_
      exact v_iret C dL_breaks_23 (by decide +kernel)
  · subst hxn
    refine v_if_eq C 15 dL_breaks_8 (by decide) (fun c1 => ?_) (fun c1 => ?_)
    · rw [show bL r = 0 from pif_t c1]
      refine v_lconst C 0 dL_breaks_15 (by decide) ?_
      refine v_last C 0 0 rfl rfl (by decide) (by decide) rfl dL_breaks_16 ?_
      refine v_goto C 24 dL_breaks_17 (by decide) ?_
      refine v_iconst C 0 dL_breaks_24 (by decide) ?_
      exact v_iret C dL_breaks_25 rfl
    · rw [show bL r = 1 from pif_f c1]
      refine v_lconst C 1 dL_breaks_11 (by decide) ?_
      refine v_goto C 16 dL_breaks_12 (by decide) ?_
      refine v_last C 0 0 rfl rfl (by decide) (by decide) rfl dL_breaks_16 ?_
      refine v_goto C 24 dL_breaks_17 (by decide) ?_
      refine v_iconst C 0 dL_breaks_24 (by decide) ?_
      exact v_iret C dL_breaks_25 rfl
set_option maxHeartbeats 4000000 in
set_option maxRecDepth 100000 in
theorem k_L_ails (l : Launch) (G : va_G) (cy : Nat → ClassId) (ad : Nat → Nat) (ao : Nat) (f : Nat → Int64) (x x' : Sg) (a1 a2 r : Int32) (xo : Option String) (hE : ∀ E, xo = some E → E = nIO) (k : KXI l G cy yX1_ails wsX1_ails 7 156 8 48 [.ref (ad 0), .int a1, .int a2] (wD cy ad x) xo r (wD cy ad x')) :
    KW l G cy yL_ails wsL_ails 8 179 8 48 [.ref (ad 0), .int a1, .int a2, .ref ao] (wOD cy ao f ad x) (cd [nIO] xo) (wOD cy ao (oc xo (vp_updL f 0 (bL r)) f) ad (oc xo x' x)) := by
  refine KW_of (own := RL) (cc := cL_ails) (maxL := 5) (ret := some .int) (hh := [(0, 17, 20, 21)]) (lo0 := [some (.ref (ad 0)), some (.int a1), some (.int a2), some (.ref ao), none]) (by decide) rfl rfl (by simp [Value.category]) (Nat.le_of_ble_eq_true rfl) rfl (fun p e s m args below meth c A C hX hN hT => ?_)
  refine v_aload_n C dL_ails_0 rfl ?_
  refine v_iconst C 0 dL_ails_1 (by decide) ?_
  refine v_aload_n C dL_ails_2 rfl ?_
  refine v_iload_n C dL_ails_3 rfl ?_
  refine v_iload_n C dL_ails_4 rfl ?_
  refine v_tryVI C hX [(ao, .inl (cy 3, 1, .inr (.inl f)))] [] k rfl gL_ails_X1_ails (nA := 2) (by decide +kernel) rfl (by decide) (by decide) rfl (Nat.le_of_ble_eq_true rfl) 0 1 rfl rfl rfl (by simp [wOD]) rfl dL_ails_5 (fun E a hxE => ?_) (fun hxn => ?_)
  · subst hxE
    have hE1 := hE E rfl
    subst hE1
    · -- nIO
      refine ⟨[], ⟨0, 17, 20, 21⟩, [], nIO, hT, (fun z hz => nomatch hz), by decide, by decide, C.1.2.2.2.2 _ (by decide +kernel), hX.word _ (by decide +kernel), ?_⟩
      dsimp only
      refine v_astore C dL_ails_20 (by decide) ?_
      refine v_iconst C 1 dL_ails_22 (by decide) ?_
      exact v_iret C dL_ails_23 (by decide +kernel)
  · subst hxn
    refine v_if_eq C 15 dL_ails_8 (by decide) (fun c1 => ?_) (fun c1 => ?_)
    · rw [show bL r = 0 from pif_t c1]
      refine v_lconst C 0 dL_ails_15 (by decide) ?_
      refine v_last C 0 0 rfl rfl (by decide) (by decide) rfl dL_ails_16 ?_
      refine v_goto C 24 dL_ails_17 (by decide) ?_
      refine v_iconst C 0 dL_ails_24 (by decide) ?_
      exact v_iret C dL_ails_25 rfl
    · rw [show bL r = 1 from pif_f c1]
      refine v_lconst C 1 dL_ails_11 (by decide) ?_
      refine v_goto C 16 dL_ails_12 (by decide) ?_
      refine v_last C 0 0 rfl rfl (by decide) (by decide) rfl dL_ails_16 ?_
      refine v_goto C 24 dL_ails_17 (by decide) ?_
      refine v_iconst C 0 dL_ails_24 (by decide) ?_
      exact v_iret C dL_ails_25 rfl
set_option maxHeartbeats 4000000 in
set_option maxRecDepth 100000 in
theorem k_L_plug (l : Launch) (G : va_G) (cy : Nat → ClassId) (ad : Nat → Nat) (ao : Nat) (f : Nat → Int64) (x x' : Sg) (a1 a2 r : Int32) (xo : Option String) (hE : ∀ E, xo = some E → E = nIO ∨ E = nIS) (k : KXI l G cy yX1_plug wsX1_plug 7 103 8 48 [.ref (ad 0), .int a1, .int a2] (wD cy ad x) xo r (wD cy ad x')) :
    KW l G cy yL_plug wsL_plug 8 126 8 48 [.ref (ad 0), .int a1, .int a2, .ref ao] (wOD cy ao f ad x) (cd [nIO, nIS] xo) (wOD cy ao (oc xo (vp_updL f 0 (r.toInt64)) f) ad (oc xo x' x)) := by
  refine KW_of (own := RL) (cc := cL_plug) (maxL := 5) (ret := some .int) (hh := [(0, 10, 13, 21), (0, 10, 17, 15)]) (lo0 := [some (.ref (ad 0)), some (.int a1), some (.int a2), some (.ref ao), none]) (by decide) rfl rfl (by simp [Value.category]) (Nat.le_of_ble_eq_true rfl) rfl (fun p e s m args below meth c A C hX hN hT => ?_)
  refine v_aload_n C dL_plug_0 rfl ?_
  refine v_iconst C 0 dL_plug_1 (by decide) ?_
  refine v_aload_n C dL_plug_2 rfl ?_
  refine v_iload_n C dL_plug_3 rfl ?_
  refine v_iload_n C dL_plug_4 rfl ?_
  refine v_tryVI C hX [(ao, .inl (cy 3, 1, .inr (.inl f)))] [] k rfl gL_plug_X1_plug (nA := 2) (by decide +kernel) rfl (by decide) (by decide) rfl (Nat.le_of_ble_eq_true rfl) 0 1 rfl rfl rfl (by simp [wOD]) rfl dL_plug_5 (fun E a hxE => ?_) (fun hxn => ?_)
  · subst hxE
    rcases hE E rfl with rfl | rfl
    · -- nIO
      refine ⟨[], ⟨0, 10, 13, 21⟩, [⟨0, 10, 17, 15⟩], nIO, hT, (fun z hz => nomatch hz), by decide, by decide, C.1.2.2.2.2 _ (by decide +kernel), hX.word _ (by decide +kernel), ?_⟩
      dsimp only
      refine v_astore C dL_plug_13 (by decide) ?_
      refine v_iconst C 1 dL_plug_15 (by decide) ?_
      exact v_iret C dL_plug_16 (by decide +kernel)
    · -- nIS
      refine ⟨[⟨0, 10, 13, 21⟩], ⟨0, 10, 17, 15⟩, [], nIS, hT, (fun z hz => by simp only [List.mem_cons, List.not_mem_nil, or_false] at hz; subst hz <;> first | exact Or.inr ⟨by decide, nIO, C.1.2.2.2.2 _ (by decide +kernel), hN.2.2⟩), by decide, by decide, C.1.2.2.2.2 _ (by decide +kernel), hX.word _ (by decide +kernel), ?_⟩
      dsimp only
      refine v_astore C dL_plug_17 (by decide) ?_
      refine v_iconst C 2 dL_plug_19 (by decide) ?_
      exact v_iret C dL_plug_20 (by decide +kernel)
  · subst hxn
    refine v_i2l C dL_plug_8 ?_
    refine v_last C 0 0 rfl rfl (by decide) (by decide) rfl dL_plug_9 ?_
    refine v_goto C 21 dL_plug_10 (by decide) ?_
    refine v_iconst C 0 dL_plug_21 (by decide) ?_
    exact v_iret C dL_plug_22 rfl
set_option maxHeartbeats 4000000 in
set_option maxRecDepth 100000 in
theorem k_L_advance (l : Launch) (G : va_G) (cy : Nat → ClassId) (ad : Nat → Nat) (ao : Nat) (f : Nat → Int64) (x x' : Sg) (a1 r : Int32) (xo : Option String) (hE : ∀ E, xo = some E → E = nIA ∨ E = nIS) (k : KXI l G cy yX1_advance wsX1_advance 7 106 8 48 [.ref (ad 0), .int a1] (wD cy ad x) xo r (wD cy ad x')) :
    KW l G cy yL_advance wsL_advance 8 128 8 48 [.ref (ad 0), .int a1, .ref ao] (wOD cy ao f ad x) (cd [nIA, nIS] xo) (wOD cy ao (oc xo (vp_updL f 0 (r.toInt64)) f) ad (oc xo x' x)) := by
  refine KW_of (own := RL) (cc := cL_advance) (maxL := 4) (ret := some .int) (hh := [(0, 9, 12, 13), (0, 9, 15, 15)]) (lo0 := [some (.ref (ad 0)), some (.int a1), some (.ref ao), none]) (by decide) rfl rfl (by simp [Value.category]) (Nat.le_of_ble_eq_true rfl) rfl (fun p e s m args below meth c A C hX hN hT => ?_)
  refine v_aload_n C dL_advance_0 rfl ?_
  refine v_iconst C 0 dL_advance_1 (by decide) ?_
  refine v_aload_n C dL_advance_2 rfl ?_
  refine v_iload_n C dL_advance_3 rfl ?_
  refine v_tryVI C hX [(ao, .inl (cy 3, 1, .inr (.inl f)))] [] k rfl gL_advance_X1_advance (nA := 1) (by decide +kernel) rfl (by decide) (by decide) rfl (Nat.le_of_ble_eq_true rfl) 0 1 rfl rfl rfl (by simp [wOD]) rfl dL_advance_4 (fun E a hxE => ?_) (fun hxn => ?_)
  · subst hxE
    rcases hE E rfl with rfl | rfl
    · -- nIA
      refine ⟨[], ⟨0, 9, 12, 13⟩, [⟨0, 9, 15, 15⟩], nIA, hT, (fun z hz => nomatch hz), by decide, by decide, C.1.2.2.2.2 _ (by decide +kernel), hX.word _ (by decide +kernel), ?_⟩
      dsimp only
      refine v_astore_n C dL_advance_12 (by decide) ?_
      refine v_iconst C 1 dL_advance_13 (by decide) ?_
      exact v_iret C dL_advance_14 (by decide +kernel)
    · -- nIS
      refine ⟨[⟨0, 9, 12, 13⟩], ⟨0, 9, 15, 15⟩, [], nIS, hT, (fun z hz => by simp only [List.mem_cons, List.not_mem_nil, or_false] at hz; subst hz <;> first | exact Or.inr ⟨by decide, nIA, C.1.2.2.2.2 _ (by decide +kernel), hN.1⟩), by decide, by decide, C.1.2.2.2.2 _ (by decide +kernel), hX.word _ (by decide +kernel), ?_⟩
      dsimp only
      refine v_astore_n C dL_advance_15 (by decide) ?_
      refine v_iconst C 2 dL_advance_16 (by decide) ?_
      exact v_iret C dL_advance_17 (by decide +kernel)
  · subst hxn
    refine v_i2l C dL_advance_7 ?_
    refine v_last C 0 0 rfl rfl (by decide) (by decide) rfl dL_advance_8 ?_
    refine v_goto C 18 dL_advance_9 (by decide) ?_
    refine v_iconst C 0 dL_advance_18 (by decide) ?_
    exact v_iret C dL_advance_19 rfl
set_option maxHeartbeats 4000000 in
set_option maxRecDepth 100000 in
theorem k_L_orderAt (l : Launch) (G : va_G) (cy : Nat → ClassId) (ad : Nat → Nat) (ao : Nat) (f : Nat → Int64) (x x' : Sg) (a1 r : Int32) (xo : Option String) (hE : ∀ E, xo = some E → E = nIO) (k : KXI l G cy yX1_orderAt wsX1_orderAt 7 103 8 48 [.ref (ad 0), .int a1] (wD cy ad x) xo r (wD cy ad x')) :
    KW l G cy yL_orderAt wsL_orderAt 8 124 8 48 [.ref (ad 0), .int a1, .ref ao] (wOD cy ao f ad x) (cd [nIO] xo) (wOD cy ao (oc xo (vp_updL f 0 (r.toInt64)) f) ad (oc xo x' x)) := by
  refine KW_of (own := RL) (cc := cL_orderAt) (maxL := 4) (ret := some .int) (hh := [(0, 9, 12, 21)]) (lo0 := [some (.ref (ad 0)), some (.int a1), some (.ref ao), none]) (by decide) rfl rfl (by simp [Value.category]) (Nat.le_of_ble_eq_true rfl) rfl (fun p e s m args below meth c A C hX hN hT => ?_)
  refine v_aload_n C dL_orderAt_0 rfl ?_
  refine v_iconst C 0 dL_orderAt_1 (by decide) ?_
  refine v_aload_n C dL_orderAt_2 rfl ?_
  refine v_iload_n C dL_orderAt_3 rfl ?_
  refine v_tryVI C hX [(ao, .inl (cy 3, 1, .inr (.inl f)))] [] k rfl gL_orderAt_X1_orderAt (nA := 1) (by decide +kernel) rfl (by decide) (by decide) rfl (Nat.le_of_ble_eq_true rfl) 0 1 rfl rfl rfl (by simp [wOD]) rfl dL_orderAt_4 (fun E a hxE => ?_) (fun hxn => ?_)
  · subst hxE
    have hE1 := hE E rfl
    subst hE1
    · -- nIO
      refine ⟨[], ⟨0, 9, 12, 21⟩, [], nIO, hT, (fun z hz => nomatch hz), by decide, by decide, C.1.2.2.2.2 _ (by decide +kernel), hX.word _ (by decide +kernel), ?_⟩
      dsimp only
      refine v_astore_n C dL_orderAt_12 (by decide) ?_
      refine v_iconst C 1 dL_orderAt_13 (by decide) ?_
      exact v_iret C dL_orderAt_14 (by decide +kernel)
  · subst hxn
    refine v_i2l C dL_orderAt_7 ?_
    refine v_last C 0 0 rfl rfl (by decide) (by decide) rfl dL_orderAt_8 ?_
    refine v_goto C 15 dL_orderAt_9 (by decide) ?_
    refine v_iconst C 0 dL_orderAt_15 (by decide) ?_
    exact v_iret C dL_orderAt_16 rfl
set_option maxHeartbeats 4000000 in
set_option maxRecDepth 100000 in
theorem k_L_stateOf (l : Launch) (G : va_G) (cy : Nat → ClassId) (ad : Nat → Nat) (ao : Nat) (f : Nat → Int64) (x x' : Sg) (a1 r : Int32) (xo : Option String) (hE : ∀ E, xo = some E → E = nIO) (k : KXI l G cy yX1_stateOf wsX1_stateOf 7 103 8 48 [.ref (ad 0), .int a1] (wD cy ad x) xo r (wD cy ad x')) :
    KW l G cy yL_stateOf wsL_stateOf 8 124 8 48 [.ref (ad 0), .int a1, .ref ao] (wOD cy ao f ad x) (cd [nIO] xo) (wOD cy ao (oc xo (vp_updL f 0 (r.toInt64)) f) ad (oc xo x' x)) := by
  refine KW_of (own := RL) (cc := cL_stateOf) (maxL := 4) (ret := some .int) (hh := [(0, 9, 12, 21)]) (lo0 := [some (.ref (ad 0)), some (.int a1), some (.ref ao), none]) (by decide) rfl rfl (by simp [Value.category]) (Nat.le_of_ble_eq_true rfl) rfl (fun p e s m args below meth c A C hX hN hT => ?_)
  refine v_aload_n C dL_stateOf_0 rfl ?_
  refine v_iconst C 0 dL_stateOf_1 (by decide) ?_
  refine v_aload_n C dL_stateOf_2 rfl ?_
  refine v_iload_n C dL_stateOf_3 rfl ?_
  refine v_tryVI C hX [(ao, .inl (cy 3, 1, .inr (.inl f)))] [] k rfl gL_stateOf_X1_stateOf (nA := 1) (by decide +kernel) rfl (by decide) (by decide) rfl (Nat.le_of_ble_eq_true rfl) 0 1 rfl rfl rfl (by simp [wOD]) rfl dL_stateOf_4 (fun E a hxE => ?_) (fun hxn => ?_)
  · subst hxE
    have hE1 := hE E rfl
    subst hE1
    · -- nIO
      refine ⟨[], ⟨0, 9, 12, 21⟩, [], nIO, hT, (fun z hz => nomatch hz), by decide, by decide, C.1.2.2.2.2 _ (by decide +kernel), hX.word _ (by decide +kernel), ?_⟩
      dsimp only
      refine v_astore_n C dL_stateOf_12 (by decide) ?_
      refine v_iconst C 1 dL_stateOf_13 (by decide) ?_
      exact v_iret C dL_stateOf_14 (by decide +kernel)
  · subst hxn
    refine v_i2l C dL_stateOf_7 ?_
    refine v_last C 0 0 rfl rfl (by decide) (by decide) rfl dL_stateOf_8 ?_
    refine v_goto C 15 dL_stateOf_9 (by decide) ?_
    refine v_iconst C 0 dL_stateOf_15 (by decide) ?_
    exact v_iret C dL_stateOf_16 rfl
set_option maxHeartbeats 4000000 in
set_option maxRecDepth 100000 in
theorem k_L_busOf (l : Launch) (G : va_G) (cy : Nat → ClassId) (ad : Nat → Nat) (ao : Nat) (f : Nat → Int64) (x x' : Sg) (a1 r : Int32) (xo : Option String) (hE : ∀ E, xo = some E → E = nIO) (k : KXI l G cy yX1_busOf wsX1_busOf 7 103 8 48 [.ref (ad 0), .int a1] (wD cy ad x) xo r (wD cy ad x')) :
    KW l G cy yL_busOf wsL_busOf 8 124 8 48 [.ref (ad 0), .int a1, .ref ao] (wOD cy ao f ad x) (cd [nIO] xo) (wOD cy ao (oc xo (vp_updL f 0 (r.toInt64)) f) ad (oc xo x' x)) := by
  refine KW_of (own := RL) (cc := cL_busOf) (maxL := 4) (ret := some .int) (hh := [(0, 9, 12, 21)]) (lo0 := [some (.ref (ad 0)), some (.int a1), some (.ref ao), none]) (by decide) rfl rfl (by simp [Value.category]) (Nat.le_of_ble_eq_true rfl) rfl (fun p e s m args below meth c A C hX hN hT => ?_)
  refine v_aload_n C dL_busOf_0 rfl ?_
  refine v_iconst C 0 dL_busOf_1 (by decide) ?_
  refine v_aload_n C dL_busOf_2 rfl ?_
  refine v_iload_n C dL_busOf_3 rfl ?_
  refine v_tryVI C hX [(ao, .inl (cy 3, 1, .inr (.inl f)))] [] k rfl gL_busOf_X1_busOf (nA := 1) (by decide +kernel) rfl (by decide) (by decide) rfl (Nat.le_of_ble_eq_true rfl) 0 1 rfl rfl rfl (by simp [wOD]) rfl dL_busOf_4 (fun E a hxE => ?_) (fun hxn => ?_)
  · subst hxE
    have hE1 := hE E rfl
    subst hE1
    · -- nIO
      refine ⟨[], ⟨0, 9, 12, 21⟩, [], nIO, hT, (fun z hz => nomatch hz), by decide, by decide, C.1.2.2.2.2 _ (by decide +kernel), hX.word _ (by decide +kernel), ?_⟩
      dsimp only
      refine v_astore_n C dL_busOf_12 (by decide) ?_
      refine v_iconst C 1 dL_busOf_13 (by decide) ?_
      exact v_iret C dL_busOf_14 (by decide +kernel)
  · subst hxn
    refine v_i2l C dL_busOf_7 ?_
    refine v_last C 0 0 rfl rfl (by decide) (by decide) rfl dL_busOf_8 ?_
    refine v_goto C 15 dL_busOf_9 (by decide) ?_
    refine v_iconst C 0 dL_busOf_15 (by decide) ?_
    exact v_iret C dL_busOf_16 rfl
set_option maxHeartbeats 4000000 in
set_option maxRecDepth 100000 in
theorem k_L_driverOf (l : Launch) (G : va_G) (cy : Nat → ClassId) (ad : Nat → Nat) (ao : Nat) (f : Nat → Int64) (x x' : Sg) (a1 r : Int32) (xo : Option String) (hE : ∀ E, xo = some E → E = nIO) (k : KXI l G cy yX1_driverOf wsX1_driverOf 7 103 8 48 [.ref (ad 0), .int a1] (wD cy ad x) xo r (wD cy ad x')) :
    KW l G cy yL_driverOf wsL_driverOf 8 124 8 48 [.ref (ad 0), .int a1, .ref ao] (wOD cy ao f ad x) (cd [nIO] xo) (wOD cy ao (oc xo (vp_updL f 0 (r.toInt64)) f) ad (oc xo x' x)) := by
  refine KW_of (own := RL) (cc := cL_driverOf) (maxL := 4) (ret := some .int) (hh := [(0, 9, 12, 21)]) (lo0 := [some (.ref (ad 0)), some (.int a1), some (.ref ao), none]) (by decide) rfl rfl (by simp [Value.category]) (Nat.le_of_ble_eq_true rfl) rfl (fun p e s m args below meth c A C hX hN hT => ?_)
  refine v_aload_n C dL_driverOf_0 rfl ?_
  refine v_iconst C 0 dL_driverOf_1 (by decide) ?_
  refine v_aload_n C dL_driverOf_2 rfl ?_
  refine v_iload_n C dL_driverOf_3 rfl ?_
  refine v_tryVI C hX [(ao, .inl (cy 3, 1, .inr (.inl f)))] [] k rfl gL_driverOf_X1_driverOf (nA := 1) (by decide +kernel) rfl (by decide) (by decide) rfl (Nat.le_of_ble_eq_true rfl) 0 1 rfl rfl rfl (by simp [wOD]) rfl dL_driverOf_4 (fun E a hxE => ?_) (fun hxn => ?_)
  · subst hxE
    have hE1 := hE E rfl
    subst hE1
    · -- nIO
      refine ⟨[], ⟨0, 9, 12, 21⟩, [], nIO, hT, (fun z hz => nomatch hz), by decide, by decide, C.1.2.2.2.2 _ (by decide +kernel), hX.word _ (by decide +kernel), ?_⟩
      dsimp only
      refine v_astore_n C dL_driverOf_12 (by decide) ?_
      refine v_iconst C 1 dL_driverOf_13 (by decide) ?_
      exact v_iret C dL_driverOf_14 (by decide +kernel)
  · subst hxn
    refine v_i2l C dL_driverOf_7 ?_
    refine v_last C 0 0 rfl rfl (by decide) (by decide) rfl dL_driverOf_8 ?_
    refine v_goto C 15 dL_driverOf_9 (by decide) ?_
    refine v_iconst C 0 dL_driverOf_15 (by decide) ?_
    exact v_iret C dL_driverOf_16 rfl
set_option maxHeartbeats 4000000 in
set_option maxRecDepth 100000 in
theorem k_L_charge (l : Launch) (G : va_G) (cy : Nat → ClassId) (ad : Nat → Nat) (ao : Nat) (f : Nat → Int64) (x x' : Sg) (a1 r : Int32) (xo : Option String) (hE : ∀ E, xo = some E → E = nIO) (k : KXI l G cy yX1_charge wsX1_charge 7 103 8 48 [.ref (ad 0), .int a1] (wD cy ad x) xo r (wD cy ad x')) :
    KW l G cy yL_charge wsL_charge 8 124 8 48 [.ref (ad 0), .int a1, .ref ao] (wOD cy ao f ad x) (cd [nIO] xo) (wOD cy ao (oc xo (vp_updL f 0 (r.toInt64)) f) ad (oc xo x' x)) := by
  refine KW_of (own := RL) (cc := cL_charge) (maxL := 4) (ret := some .int) (hh := [(0, 9, 12, 21)]) (lo0 := [some (.ref (ad 0)), some (.int a1), some (.ref ao), none]) (by decide) rfl rfl (by simp [Value.category]) (Nat.le_of_ble_eq_true rfl) rfl (fun p e s m args below meth c A C hX hN hT => ?_)
  refine v_aload_n C dL_charge_0 rfl ?_
  refine v_iconst C 0 dL_charge_1 (by decide) ?_
  refine v_aload_n C dL_charge_2 rfl ?_
  refine v_iload_n C dL_charge_3 rfl ?_
  refine v_tryVI C hX [(ao, .inl (cy 3, 1, .inr (.inl f)))] [] k rfl gL_charge_X1_charge (nA := 1) (by decide +kernel) rfl (by decide) (by decide) rfl (Nat.le_of_ble_eq_true rfl) 0 1 rfl rfl rfl (by simp [wOD]) rfl dL_charge_4 (fun E a hxE => ?_) (fun hxn => ?_)
  · subst hxE
    have hE1 := hE E rfl
    subst hE1
    · -- nIO
      refine ⟨[], ⟨0, 9, 12, 21⟩, [], nIO, hT, (fun z hz => nomatch hz), by decide, by decide, C.1.2.2.2.2 _ (by decide +kernel), hX.word _ (by decide +kernel), ?_⟩
      dsimp only
      refine v_astore_n C dL_charge_12 (by decide) ?_
      refine v_iconst C 1 dL_charge_13 (by decide) ?_
      exact v_iret C dL_charge_14 (by decide +kernel)
  · subst hxn
    refine v_i2l C dL_charge_7 ?_
    refine v_last C 0 0 rfl rfl (by decide) (by decide) rfl dL_charge_8 ?_
    refine v_goto C 15 dL_charge_9 (by decide) ?_
    refine v_iconst C 0 dL_charge_15 (by decide) ?_
    exact v_iret C dL_charge_16 rfl
set_option maxHeartbeats 4000000 in
set_option maxRecDepth 100000 in
theorem k_L_promised (l : Launch) (G : va_G) (cy : Nat → ClassId) (ad : Nat → Nat) (ao : Nat) (f : Nat → Int64) (x x' : Sg) (a1 r : Int32) (xo : Option String) (hE : ∀ E, xo = some E → E = nIO) (k : KXI l G cy yX1_promised wsX1_promised 7 103 8 48 [.ref (ad 0), .int a1] (wD cy ad x) xo r (wD cy ad x')) :
    KW l G cy yL_promised wsL_promised 8 124 8 48 [.ref (ad 0), .int a1, .ref ao] (wOD cy ao f ad x) (cd [nIO] xo) (wOD cy ao (oc xo (vp_updL f 0 (r.toInt64)) f) ad (oc xo x' x)) := by
  refine KW_of (own := RL) (cc := cL_promised) (maxL := 4) (ret := some .int) (hh := [(0, 9, 12, 21)]) (lo0 := [some (.ref (ad 0)), some (.int a1), some (.ref ao), none]) (by decide) rfl rfl (by simp [Value.category]) (Nat.le_of_ble_eq_true rfl) rfl (fun p e s m args below meth c A C hX hN hT => ?_)
  refine v_aload_n C dL_promised_0 rfl ?_
  refine v_iconst C 0 dL_promised_1 (by decide) ?_
  refine v_aload_n C dL_promised_2 rfl ?_
  refine v_iload_n C dL_promised_3 rfl ?_
  refine v_tryVI C hX [(ao, .inl (cy 3, 1, .inr (.inl f)))] [] k rfl gL_promised_X1_promised (nA := 1) (by decide +kernel) rfl (by decide) (by decide) rfl (Nat.le_of_ble_eq_true rfl) 0 1 rfl rfl rfl (by simp [wOD]) rfl dL_promised_4 (fun E a hxE => ?_) (fun hxn => ?_)
  · subst hxE
    have hE1 := hE E rfl
    subst hE1
    · -- nIO
      refine ⟨[], ⟨0, 9, 12, 21⟩, [], nIO, hT, (fun z hz => nomatch hz), by decide, by decide, C.1.2.2.2.2 _ (by decide +kernel), hX.word _ (by decide +kernel), ?_⟩
      dsimp only
      refine v_astore_n C dL_promised_12 (by decide) ?_
      refine v_iconst C 1 dL_promised_13 (by decide) ?_
      exact v_iret C dL_promised_14 (by decide +kernel)
  · subst hxn
    refine v_i2l C dL_promised_7 ?_
    refine v_last C 0 0 rfl rfl (by decide) (by decide) rfl dL_promised_8 ?_
    refine v_goto C 15 dL_promised_9 (by decide) ?_
    refine v_iconst C 0 dL_promised_15 (by decide) ?_
    exact v_iret C dL_promised_16 rfl
set_option maxHeartbeats 4000000 in
set_option maxRecDepth 100000 in
theorem k_L_minutesOf (l : Launch) (G : va_G) (cy : Nat → ClassId) (ad : Nat → Nat) (ao : Nat) (f : Nat → Int64) (x x' : Sg) (a1 a2 r : Int32) (xo : Option String) (hE : ∀ E, xo = some E → E = nIO) (k : KXI l G cy yX1_minutesOf wsX1_minutesOf 7 103 8 48 [.ref (ad 0), .int a1, .int a2] (wD cy ad x) xo r (wD cy ad x')) :
    KW l G cy yL_minutesOf wsL_minutesOf 8 125 8 48 [.ref (ad 0), .int a1, .int a2, .ref ao] (wOD cy ao f ad x) (cd [nIO] xo) (wOD cy ao (oc xo (vp_updL f 0 (r.toInt64)) f) ad (oc xo x' x)) := by
  refine KW_of (own := RL) (cc := cL_minutesOf) (maxL := 5) (ret := some .int) (hh := [(0, 10, 13, 21)]) (lo0 := [some (.ref (ad 0)), some (.int a1), some (.int a2), some (.ref ao), none]) (by decide) rfl rfl (by simp [Value.category]) (Nat.le_of_ble_eq_true rfl) rfl (fun p e s m args below meth c A C hX hN hT => ?_)
  refine v_aload_n C dL_minutesOf_0 rfl ?_
  refine v_iconst C 0 dL_minutesOf_1 (by decide) ?_
  refine v_aload_n C dL_minutesOf_2 rfl ?_
  refine v_iload_n C dL_minutesOf_3 rfl ?_
  refine v_iload_n C dL_minutesOf_4 rfl ?_
  refine v_tryVI C hX [(ao, .inl (cy 3, 1, .inr (.inl f)))] [] k rfl gL_minutesOf_X1_minutesOf (nA := 2) (by decide +kernel) rfl (by decide) (by decide) rfl (Nat.le_of_ble_eq_true rfl) 0 1 rfl rfl rfl (by simp [wOD]) rfl dL_minutesOf_5 (fun E a hxE => ?_) (fun hxn => ?_)
  · subst hxE
    have hE1 := hE E rfl
    subst hE1
    · -- nIO
      refine ⟨[], ⟨0, 10, 13, 21⟩, [], nIO, hT, (fun z hz => nomatch hz), by decide, by decide, C.1.2.2.2.2 _ (by decide +kernel), hX.word _ (by decide +kernel), ?_⟩
      dsimp only
      refine v_astore C dL_minutesOf_13 (by decide) ?_
      refine v_iconst C 1 dL_minutesOf_15 (by decide) ?_
      exact v_iret C dL_minutesOf_16 (by decide +kernel)
  · subst hxn
    refine v_i2l C dL_minutesOf_8 ?_
    refine v_last C 0 0 rfl rfl (by decide) (by decide) rfl dL_minutesOf_9 ?_
    refine v_goto C 17 dL_minutesOf_10 (by decide) ?_
    refine v_iconst C 0 dL_minutesOf_17 (by decide) ?_
    exact v_iret C dL_minutesOf_18 rfl
