/-! DepotLogModel: its public methods -/
theorem okB_f {n : Nat} {x y : Sg} (h9 : ∀ k, k < n → y 9 k = 1 → x 9 k = 1 ∧ y 10 k = x 10 k) (h : okB n x) : okB n y := fun k hk e => by
  obtain ⟨e1, e2⟩ := h9 k hk e
  obtain ⟨b, hb, e3⟩ := h k hk e1
  exact ⟨b, hb, e2.trans e3⟩
theorem okP_f {x y : Sg} (h : ∀ c, c < 2 → y 15 c = x 15 c ∨ y 15 c = -1) (hx : okP x) : okP y := fun c hc => by
  rcases h c hc with e | e
  · rw [e]; exact hx c hc
  · exact Or.inl e
theorem send_1 {Y : Sg} {j : Nat} (e1 : send_ j Y 9 j = 1) : Y 9 j = 1 := by
  unfold send_ at e1
  by_cases hc : Y 9 j = 2 ∧ Y 7 j = Y 0 0
  · rw [pif_t hc, su_s] at e1; exact absurd e1 (by decide)
  · rw [pif_f hc] at e1; exact e1
theorem sstart_1 {Y : Sg} {j : Nat} (e1 : sstart j Y 9 j = 1) : Y 9 j = 1 ∧ sstart j Y 10 j = Y 10 j := by
  unfold sstart fstart at e1 ⊢
  by_cases h1 : Y 6 j = Y 0 0
  · rw [pif_t h1] at e1 ⊢
    by_cases h2 : Y 9 j = 1
    · rw [pif_t h2, fsend_f _ _ _ (by decide) (by decide), su_s] at e1
      exact absurd e1 (by decide)
    · rw [pif_f h2] at e1 ⊢
      by_cases h3 : Y 9 j = 0
      · rw [pif_t h3] at e1
        simp [fdrop, su] at e1
      · rw [pif_f h3] at e1
        exact absurd e1 h2
  · rw [pif_f h1] at e1 ⊢
    exact ⟨e1, rfl⟩
theorem okB_send {n : Nat} {x : Sg} (h : okB n x) : ∀ k, okB n (it send_ k x) := by
  intro k
  induction k with
  | zero => exact h
  | succ k ih =>
    refine okB_f (x := it send_ k x) (fun j hj e => ?_) ih
    show _ ∧ send_ k (it send_ k x) 10 j = _
    rw [send__f _ _ (by decide)]
    refine ⟨?_, rfl⟩
    have e1 : send_ k (it send_ k x) 9 j = 1 := e
    by_cases hjk : j = k
    · subst hjk
      exact send_1 e1
    · rw [send__r _ _ hjk] at e1; exact e1
theorem okB_load {n : Nat} {x : Sg} (h : okB n x) (v : Int32) : okB n (su (it sload 2 x) 0 0 v) := okB_f (x := x) (fun j hj e => by
  rw [su_f _ _ _ _ (by decide), it_f (fun c y => sload_f c y (by decide))] at e
  rw [su_f _ _ _ _ (by decide), it_f (fun c y => sload_f c y (by decide))]
  exact ⟨e, rfl⟩) h
theorem fsend_okP {x : Sg} (b q : Int32) (c : Nat) : fsend x b q 15 c = x 15 c ∨ fsend x b q 15 c = -1 := by
  have hu : ∀ y : Sg, funplug y b 15 c = y 15 c ∨ funplug y b 15 c = -1 := fun y => by
    have st : ∀ k (z : Sg), sunplug b k z 15 c = z 15 c ∨ sunplug b k z 15 c = -1 := fun k z => by
      unfold sunplug
      refine pif_ap _ _ _ (fun (t : Sg) => t 15 c = z 15 c ∨ t 15 c = -1) (fun h => ?_) (fun _ => Or.inl rfl)
      by_cases hc : c = k
      · subst hc; exact Or.inr (su_s _ _ _ _)
      · exact Or.inl (su_k _ _ _ hc)
    show sunplug b 1 (sunplug b 0 y) 15 c = _ ∨ _
    rcases st 1 (sunplug b 0 y) with e | e
    · rw [show funplug y b 15 c = sunplug b 1 (sunplug b 0 y) 15 c from rfl, e]; exact st 0 y
    · exact Or.inr e
  unfold fsend
  refine pif_ap _ _ _ (fun (t : Sg) => t 15 c = x 15 c ∨ t 15 c = -1) (fun _ => ?_) (fun _ => Or.inl rfl)
  have := hu (su x 12 b.toNatClampNeg (x 12 b.toNatClampNeg - q))
  rw [su_f _ _ _ _ (by decide : (15 : Nat) ≠ 12)] at this
  exact this
theorem sstart_okP {y : Sg} (k c : Nat) : sstart k y 15 c = y 15 c ∨ sstart k y 15 c = -1 := by
  unfold sstart fstart
  refine pif_ap _ _ _ (fun (t : Sg) => t 15 c = y 15 c ∨ t 15 c = -1) (fun _ => ?_) (fun _ => Or.inl rfl)
  refine pif_ap _ _ _ (fun (t : Sg) => t 15 c = y 15 c ∨ t 15 c = -1) (fun _ => ?_) (fun _ => ?_)
  · have := fsend_okP (x := su y 9 k 2) (y 10 k) (y 8 k) c
    rw [su_f _ _ _ _ (by decide : (15 : Nat) ≠ 9)] at this
    exact this
  · refine pif_ap _ _ _ (fun (t : Sg) => t 15 c = y 15 c ∨ t 15 c = -1) (fun _ => ?_) (fun _ => Or.inl rfl)
    exact Or.inl (fdrop_f _ _ _ (by decide) (by decide) (by decide))
theorem okP_start {x : Sg} (h : okP x) : ∀ k, okP (it sstart k x) := by
  intro k
  induction k with
  | zero => exact h
  | succ k ih => exact okP_f (x := it sstart k x) (fun c _ => sstart_okP k c) ih
theorem sstart_okB {n : Nat} {x : Sg} (h : okB n x) : ∀ k, okB n (it sstart k x) := by
  intro k
  induction k with
  | zero => exact h
  | succ k ih =>
    refine okB_f (x := it sstart k x) (fun j hj e => ?_) ih
    have e1 : sstart k (it sstart k x) 9 j = 1 := e
    show _ ∧ sstart k (it sstart k x) 10 j = _
    by_cases hjk : j = k
    · subst hjk
      exact sstart_1 e1
    · rw [sstart_r _ _ hjk (by decide) (by decide)] at e1 ⊢
      exact ⟨e1, rfl⟩
theorem okP_min {n : Nat} {x : Sg} (h : okP x) : okP (fminute n x) := okP_start (okP_f (x := x) (fun c _ => Or.inl (by
  rw [it_f (fun c y => send__f c y (by decide)), su_f _ _ _ _ (by decide), it_f (fun c y => sload_f c y (by decide))])) h) n
theorem okB_min {n : Nat} {x : Sg} (h : okB n x) : okB n (fminute n x) := sstart_okB (okB_send (okB_load h _) n) n
theorem okP_mins {n : Nat} {x : Sg} (h : okP x) (k : Nat) : okP (it (fun _ => fminute n) k x) := it_inv _ okP k x h (fun _ _ _ hy => okP_min hy)
theorem okB_mins {n : Nat} {x : Sg} (h : okB n x) (k : Nat) : okB n (it (fun _ => fminute n) k x) := it_inv _ (okB n) k x h (fun _ _ _ hy => okB_min hy)
set_option maxHeartbeats 4000000 in
set_option maxRecDepth 100000 in
/-- minute() -/
theorem k_X2_minute (l : Launch) (G : va_G) (cy : Nat → ClassId) (am : Nat → Nat) (x : Sg) : KI l G cy yX2_minute wsX2_minute 0 0 0 0 [.ref (am 0)] (wM cy am x) (x 0 0) (wM cy am (su x 5 0 0)) := by
  have hin2 : ∀ q ∈ u_ws RX2 TX2 18, q ∈ wsX2_minute := by decide +kernel
  refine KI_of (own := RX2) (cc := cX2_minute) (maxL := 1) (ret := (some .int)) (lo0 := [some (.ref (am 0))]) (by decide) rfl rfl (by simp [Value.category]) (Nat.le_of_ble_eq_true rfl) rfl (fun p e s m args below meth c A C => ?_)
  refine v_aload_n C dX2_minute_0 rfl ?_
  refine v_iconst C (0) dX2_minute_1 (by decide) ?_
  refine vM_p_thrown C hin2 (by decide +kernel) dX2_minute_2 ?_
  refine v_aload_n C dX2_minute_5 rfl ?_
  refine vM_g_now C hin2 (by decide +kernel) dX2_minute_6 ?_
  refine v_iret C dX2_minute_9 ?_
  simp [su]
set_option maxHeartbeats 4000000 in
set_option maxRecDepth 100000 in
/-- leader() -/
theorem k_X2_leader (l : Launch) (G : va_G) (cy : Nat → ClassId) (am : Nat → Nat) (x : Sg) : KI l G cy yX2_leader wsX2_leader 1 20 0 0 [.ref (am 0)] (wM cy am x) (flead (su x 5 0 0)) (wM cy am (su x 5 0 0)) := by
  have hin2 : ∀ q ∈ u_ws RX2 TX2 18, q ∈ wsX2_leader := by decide +kernel
  refine KI_of (own := RX2) (cc := cX2_leader) (maxL := 1) (ret := (some .int)) (lo0 := [some (.ref (am 0))]) (by decide) rfl rfl (by simp [Value.category]) (Nat.le_of_ble_eq_true rfl) rfl (fun p e s m args below meth c A C => ?_)
  refine v_aload_n C dX2_leader_0 rfl ?_
  refine v_iconst C (0) dX2_leader_1 (by decide) ?_
  refine vM_p_thrown C hin2 (by decide +kernel) dX2_leader_2 ?_
  refine v_aload_n C dX2_leader_5 rfl ?_
  refine vM_cI C (k_X2_leads l G cy am (su x 5 0 0)) rfl gX2_leader_X2_leads (nA := 0) (by decide +kernel) rfl (by decide) (by decide) rfl rfl (Nat.le_of_ble_eq_true rfl) dX2_leader_6 ?_
  refine v_iret C dX2_leader_9 ?_
  rfl
set_option maxHeartbeats 4000000 in
set_option maxRecDepth 100000 in
/-- runs() -/
theorem k_X2_runs (l : Launch) (G : va_G) (cy : Nat → ClassId) (am : Nat → Nat) (x : Sg) : KI l G cy yX2_runs wsX2_runs 0 0 0 0 [.ref (am 0)] (wM cy am x) (x 1 0) (wM cy am (su x 5 0 0)) := by
  have hin2 : ∀ q ∈ u_ws RX2 TX2 18, q ∈ wsX2_runs := by decide +kernel
  refine KI_of (own := RX2) (cc := cX2_runs) (maxL := 1) (ret := (some .int)) (lo0 := [some (.ref (am 0))]) (by decide) rfl rfl (by simp [Value.category]) (Nat.le_of_ble_eq_true rfl) rfl (fun p e s m args below meth c A C => ?_)
  refine v_aload_n C dX2_runs_0 rfl ?_
  refine v_iconst C (0) dX2_runs_1 (by decide) ?_
  refine vM_p_thrown C hin2 (by decide +kernel) dX2_runs_2 ?_
  refine v_aload_n C dX2_runs_5 rfl ?_
  refine vM_g_runMany C hin2 (by decide +kernel) dX2_runs_6 ?_
  refine v_iret C dX2_runs_9 ?_
  simp [su]
set_option maxHeartbeats 4000000 in
set_option maxRecDepth 100000 in
/-- orders() -/
theorem k_X2_orders (l : Launch) (G : va_G) (cy : Nat → ClassId) (am : Nat → Nat) (x : Sg) : KI l G cy yX2_orders wsX2_orders 0 0 0 0 [.ref (am 0)] (wM cy am x) (x 2 0) (wM cy am (su x 5 0 0)) := by
  have hin2 : ∀ q ∈ u_ws RX2 TX2 18, q ∈ wsX2_orders := by decide +kernel
  refine KI_of (own := RX2) (cc := cX2_orders) (maxL := 1) (ret := (some .int)) (lo0 := [some (.ref (am 0))]) (by decide) rfl rfl (by simp [Value.category]) (Nat.le_of_ble_eq_true rfl) rfl (fun p e s m args below meth c A C => ?_)
  refine v_aload_n C dX2_orders_0 rfl ?_
  refine v_iconst C (0) dX2_orders_1 (by decide) ?_
  refine vM_p_thrown C hin2 (by decide +kernel) dX2_orders_2 ?_
  refine v_aload_n C dX2_orders_5 rfl ?_
  refine vM_g_orderMany C hin2 (by decide +kernel) dX2_orders_6 ?_
  refine v_iret C dX2_orders_9 ?_
  simp [su]
set_option maxHeartbeats 4000000 in
set_option maxRecDepth 100000 in
/-- orderAt -/
theorem k_X2_orderAt (l : Launch) (G : va_G) (cy : Nat → ClassId) (am : Nat → Nat) (x : Sg) (om : Nat) (hom : x 2 0 = nI om) (hom1 : om < 1000) (o : Int32) : KI l G cy yX2_orderAt wsX2_orderAt 1 22 0 0 [.ref (am 0), .int o] (wM cy am x) (pif (inr 0 (x 2 0 - 1) o) (x 16 o.toNatClampNeg) 0) (wM cy am (su x 5 0 (pif (inr 0 (x 2 0 - 1) o) 0 1))) := by
  have hin2 : ∀ q ∈ u_ws RX2 TX2 18, q ∈ wsX2_orderAt := by decide +kernel
  refine KI_of (own := RX2) (cc := cX2_orderAt) (maxL := 2) (ret := (some .int)) (lo0 := [some (.ref (am 0)), some (.int o)]) (by decide) rfl rfl (by simp [Value.category]) (Nat.le_of_ble_eq_true rfl) rfl (fun p e s m args below meth c A C => ?_)
  refine v_aload_n C dX2_orderAt_0 rfl ?_
  refine v_iload_n C dX2_orderAt_1 rfl ?_
  refine v_iconst C (0) dX2_orderAt_2 (by decide) ?_
  refine v_aload_n C dX2_orderAt_3 rfl ?_
  refine vM_g_orderMany C hin2 (by decide +kernel) dX2_orderAt_4 ?_
  refine v_iconst C (1) dX2_orderAt_7 (by decide) ?_
  refine v_isub C dX2_orderAt_8 ?_
  refine v_sI C (k_X2_in l G cy (wM cy am x) o 0 ((x 2 0) - 1)) rfl gX2_orderAt_X2_in (nA := 3) (by decide +kernel) rfl (by decide) (by decide) rfl (Nat.le_of_ble_eq_true rfl) dX2_orderAt_9 ?_
  refine v_if_eq C 19 dX2_orderAt_12 (by decide) (fun c1 => ?_) (fun c1 => ?_)
  · -- 12 t: (b2i (inr 0 ((x 2 0) - 1) o)) = 0
    replace c1 := b2i_0.mp c1
    refine v_iconst C (1) dX2_orderAt_19 (by decide) ?_
    refine vM_p_thrown C hin2 (by decide +kernel) dX2_orderAt_20 ?_
    refine v_aload_n C dX2_orderAt_23 rfl ?_
    refine vM_g_thrown C hin2 (by decide +kernel) dX2_orderAt_24 ?_
    refine V.es (st' := [.int 1]) (by rw [su_s]) ?_
    refine v_if_ne C 39 dX2_orderAt_27 (by decide) (fun z => ?_) (fun z => absurd z (by decide))
    refine v_iconst C (0) dX2_orderAt_39 (by decide) ?_
    have e9 : su x 5 0 (pif (inr 0 (x 2 0 - 1) o) 0 1) = su x 5 0 1 := by simp [pif, c1]
    rw [e9]
    refine v_iret C dX2_orderAt_40 ?_
    simp [su, pif, c1]
  · -- 12 f: not (b2i (inr 0 ((x 2 0) - 1) o)) = 0
    replace c1 := Classical.not_not.mp (fun z => c1 (b2i_0.mpr z))
    obtain ⟨jo, hjo, rfl⟩ := inr_run (n := om) (by omega) (hom ▸ c1)
    have hcjo : (nI jo).toNatClampNeg = jo := nI_clamp (by omega)
    refine v_iconst C (0) dX2_orderAt_15 (by decide) ?_
    refine v_goto C 20 dX2_orderAt_16 (by decide) ?_
    refine vM_p_thrown C hin2 (by decide +kernel) dX2_orderAt_20 ?_
    refine v_aload_n C dX2_orderAt_23 rfl ?_
    refine vM_g_thrown C hin2 (by decide +kernel) dX2_orderAt_24 ?_
    refine V.es (st' := [.int 0]) (by rw [su_s]) ?_
    refine v_if_ne C 39 dX2_orderAt_27 (by decide) (fun z => absurd z (by decide)) (fun z => ?_)
    refine v_aload_n C dX2_orderAt_30 rfl ?_
    refine vM_g_orders C hin2 (by decide +kernel) dX2_orderAt_31 ?_
    refine v_iload_n C dX2_orderAt_34 rfl ?_
    refine vM_l_orders C jo rfl (by omega) dX2_orderAt_35 ?_
    refine v_goto C 40 dX2_orderAt_36 (by decide) ?_
    have e9 : su x 5 0 (pif (inr 0 (x 2 0 - 1) (nI jo)) 0 1) = su x 5 0 0 := by simp [pif, c1, hcjo]
    rw [e9]
    refine v_iret C dX2_orderAt_40 ?_
    simp [su, pif, c1, hcjo]
set_option maxHeartbeats 4000000 in
set_option maxRecDepth 100000 in
/-- asksFor(r) -/
theorem k_X2_asksFor (l : Launch) (G : va_G) (cy : Nat → ClassId) (am : Nat → Nat) (x : Sg) (r : Int32) : KI l G cy yX2_asksFor wsX2_asksFor 2 43 0 0 [.ref (am 0), .int r] (wM cy am x) (b2i (inr 0 (x 1 0 - 1) r)) (wM cy am (su x 5 0 (pif (inr 0 (x 1 0 - 1) r) 0 1))) := by
  have hin2 : ∀ q ∈ u_ws RX2 TX2 18, q ∈ wsX2_asksFor := by decide +kernel
  refine KI_of (own := RX2) (cc := cX2_asksFor) (maxL := 2) (ret := (some .boolean)) (lo0 := [some (.ref (am 0)), some (.int r)]) (by decide) rfl rfl (by simp [Value.category]) (Nat.le_of_ble_eq_true rfl) rfl (fun p e s m args below meth c A C => ?_)
  refine v_aload_n C dX2_asksFor_0 rfl ?_
  refine v_aload_n C dX2_asksFor_1 rfl ?_
  refine v_iload_n C dX2_asksFor_2 rfl ?_
  refine vM_cI C (k_X2_isRun l G cy am x r) rfl gX2_asksFor_X2_isRun (nA := 1) (by decide +kernel) rfl (by decide) (by decide) rfl rfl (Nat.le_of_ble_eq_true rfl) dX2_asksFor_3 ?_
  refine v_if_eq C 13 dX2_asksFor_6 (by decide) (fun c1 => ?_) (fun c1 => ?_)
  · -- 6 t: (b2i (inr 0 (x 1 0 - 1) r)) = 0
    replace c1 := b2i_0.mp c1
    refine v_iconst C (1) dX2_asksFor_13 (by decide) ?_
    refine vM_p_thrown C hin2 (by decide +kernel) dX2_asksFor_14 ?_
    refine v_aload_n C dX2_asksFor_17 rfl ?_
    refine vM_g_thrown C hin2 (by decide +kernel) dX2_asksFor_18 ?_
    refine V.es (st' := [.int 1]) (by rw [su_s]) ?_
    refine v_if_ne C 28 dX2_asksFor_21 (by decide) (fun z => ?_) (fun z => absurd z (by decide))
    refine v_iconst C (0) dX2_asksFor_28 (by decide) ?_
    have e9 : su x 5 0 (pif (inr 0 (x 1 0 - 1) r) 0 1) = su x 5 0 1 := by simp [pif, c1]
    rw [e9]
    refine v_zret C rfl dX2_asksFor_29 ?_
    exact (b2i_f (by simp [c1])).symm
  · -- 6 f: not (b2i (inr 0 (x 1 0 - 1) r)) = 0
    replace c1 := Classical.not_not.mp (fun z => c1 (b2i_0.mpr z))
    refine v_iconst C (0) dX2_asksFor_9 (by decide) ?_
    refine v_goto C 14 dX2_asksFor_10 (by decide) ?_
    refine vM_p_thrown C hin2 (by decide +kernel) dX2_asksFor_14 ?_
    refine v_aload_n C dX2_asksFor_17 rfl ?_
    refine vM_g_thrown C hin2 (by decide +kernel) dX2_asksFor_18 ?_
    refine V.es (st' := [.int 0]) (by rw [su_s]) ?_
    refine v_if_ne C 28 dX2_asksFor_21 (by decide) (fun z => absurd z (by decide)) (fun z => ?_)
    refine v_iconst C (1) dX2_asksFor_24 (by decide) ?_
    refine v_goto C 29 dX2_asksFor_25 (by decide) ?_
    have e9 : su x 5 0 (pif (inr 0 (x 1 0 - 1) r) 0 1) = su x 5 0 0 := by simp [pif, c1]
    rw [e9]
    refine v_zret C rfl dX2_asksFor_29 ?_
    exact (b2i_t (by simp [c1])).symm
set_option maxHeartbeats 4000000 in
set_option maxRecDepth 100000 in
/-- stateOf(r) -/
theorem k_X2_stateOf (l : Launch) (G : va_G) (cy : Nat → ClassId) (am : Nat → Nat) (x : Sg) (n : Nat) (hn : x 1 0 = nI n) (h30 : n ≤ 30) (r : Int32) : KI l G cy yX2_stateOf wsX2_stateOf 3 64 0 0 [.ref (am 0), .int r] (wM cy am x) (pif (inr 0 (x 1 0 - 1) r) (x 9 r.toNatClampNeg) 0) (wM cy am (su x 5 0 (pif (inr 0 (x 1 0 - 1) r) 0 1))) := by
  have hin2 : ∀ q ∈ u_ws RX2 TX2 18, q ∈ wsX2_stateOf := by decide +kernel
  refine KI_of (own := RX2) (cc := cX2_stateOf) (maxL := 2) (ret := (some .int)) (lo0 := [some (.ref (am 0)), some (.int r)]) (by decide) rfl rfl (by simp [Value.category]) (Nat.le_of_ble_eq_true rfl) rfl (fun p e s m args below meth c A C => ?_)
  refine v_aload_n C dX2_stateOf_0 rfl ?_
  refine v_iload_n C dX2_stateOf_1 rfl ?_
  refine vM_cI C (k_X2_asksFor l G cy am x r) rfl gX2_stateOf_X2_asksFor (nA := 1) (by decide +kernel) rfl (by decide) (by decide) rfl rfl (Nat.le_of_ble_eq_true rfl) dX2_stateOf_2 ?_
  refine v_if_eq C 17 dX2_stateOf_5 (by decide) (fun c1 => ?_) (fun c1 => ?_)
  · -- 5 t: (b2i (inr 0 (x 1 0 - 1) r)) = 0
    replace c1 := b2i_0.mp c1
    refine v_iconst C (0) dX2_stateOf_17 (by decide) ?_
    refine v_iret C dX2_stateOf_18 ?_
    simp [su, pif, c1]
  · -- 5 f: not (b2i (inr 0 (x 1 0 - 1) r)) = 0
    replace c1 := Classical.not_not.mp (fun z => c1 (b2i_0.mpr z))
    obtain ⟨jr, hjr, rfl⟩ := inr_run (n := n) (by omega) (hn ▸ c1)
    have hcjr : (nI jr).toNatClampNeg = jr := nI_clamp (by omega)
    refine v_aload_n C dX2_stateOf_8 rfl ?_
    refine vM_g_states C hin2 (by decide +kernel) dX2_stateOf_9 ?_
    refine v_iload_n C dX2_stateOf_12 rfl ?_
    refine vM_l_states C jr rfl (by omega) dX2_stateOf_13 ?_
    refine v_goto C 18 dX2_stateOf_14 (by decide) ?_
    refine v_iret C dX2_stateOf_18 ?_
    simp [su, pif, c1, hcjr]
set_option maxHeartbeats 4000000 in
set_option maxRecDepth 100000 in
/-- busOf(r) -/
theorem k_X2_busOf (l : Launch) (G : va_G) (cy : Nat → ClassId) (am : Nat → Nat) (x : Sg) (n : Nat) (hn : x 1 0 = nI n) (h30 : n ≤ 30) (r : Int32) : KI l G cy yX2_busOf wsX2_busOf 3 64 0 0 [.ref (am 0), .int r] (wM cy am x) (pif (inr 0 (x 1 0 - 1) r) (x 10 r.toNatClampNeg) 0) (wM cy am (su x 5 0 (pif (inr 0 (x 1 0 - 1) r) 0 1))) := by
  have hin2 : ∀ q ∈ u_ws RX2 TX2 18, q ∈ wsX2_busOf := by decide +kernel
  refine KI_of (own := RX2) (cc := cX2_busOf) (maxL := 2) (ret := (some .int)) (lo0 := [some (.ref (am 0)), some (.int r)]) (by decide) rfl rfl (by simp [Value.category]) (Nat.le_of_ble_eq_true rfl) rfl (fun p e s m args below meth c A C => ?_)
  refine v_aload_n C dX2_busOf_0 rfl ?_
  refine v_iload_n C dX2_busOf_1 rfl ?_
  refine vM_cI C (k_X2_asksFor l G cy am x r) rfl gX2_busOf_X2_asksFor (nA := 1) (by decide +kernel) rfl (by decide) (by decide) rfl rfl (Nat.le_of_ble_eq_true rfl) dX2_busOf_2 ?_
  refine v_if_eq C 17 dX2_busOf_5 (by decide) (fun c1 => ?_) (fun c1 => ?_)
  · -- 5 t: (b2i (inr 0 (x 1 0 - 1) r)) = 0
    replace c1 := b2i_0.mp c1
    refine v_iconst C (0) dX2_busOf_17 (by decide) ?_
    refine v_iret C dX2_busOf_18 ?_
    simp [su, pif, c1]
  · -- 5 f: not (b2i (inr 0 (x 1 0 - 1) r)) = 0
    replace c1 := Classical.not_not.mp (fun z => c1 (b2i_0.mpr z))
    obtain ⟨jr, hjr, rfl⟩ := inr_run (n := n) (by omega) (hn ▸ c1)
    have hcjr : (nI jr).toNatClampNeg = jr := nI_clamp (by omega)
    refine v_aload_n C dX2_busOf_8 rfl ?_
    refine vM_g_buses C hin2 (by decide +kernel) dX2_busOf_9 ?_
    refine v_iload_n C dX2_busOf_12 rfl ?_
    refine vM_l_buses C jr rfl (by omega) dX2_busOf_13 ?_
    refine v_goto C 18 dX2_busOf_14 (by decide) ?_
    refine v_iret C dX2_busOf_18 ?_
    simp [su, pif, c1, hcjr]
set_option maxHeartbeats 4000000 in
set_option maxRecDepth 100000 in
/-- driverOf(r) -/
theorem k_X2_driverOf (l : Launch) (G : va_G) (cy : Nat → ClassId) (am : Nat → Nat) (x : Sg) (n : Nat) (hn : x 1 0 = nI n) (h30 : n ≤ 30) (r : Int32) : KI l G cy yX2_driverOf wsX2_driverOf 3 64 0 0 [.ref (am 0), .int r] (wM cy am x) (pif (inr 0 (x 1 0 - 1) r) (x 11 r.toNatClampNeg) 0) (wM cy am (su x 5 0 (pif (inr 0 (x 1 0 - 1) r) 0 1))) := by
  have hin2 : ∀ q ∈ u_ws RX2 TX2 18, q ∈ wsX2_driverOf := by decide +kernel
  refine KI_of (own := RX2) (cc := cX2_driverOf) (maxL := 2) (ret := (some .int)) (lo0 := [some (.ref (am 0)), some (.int r)]) (by decide) rfl rfl (by simp [Value.category]) (Nat.le_of_ble_eq_true rfl) rfl (fun p e s m args below meth c A C => ?_)
  refine v_aload_n C dX2_driverOf_0 rfl ?_
  refine v_iload_n C dX2_driverOf_1 rfl ?_
  refine vM_cI C (k_X2_asksFor l G cy am x r) rfl gX2_driverOf_X2_asksFor (nA := 1) (by decide +kernel) rfl (by decide) (by decide) rfl rfl (Nat.le_of_ble_eq_true rfl) dX2_driverOf_2 ?_
  refine v_if_eq C 17 dX2_driverOf_5 (by decide) (fun c1 => ?_) (fun c1 => ?_)
  · -- 5 t: (b2i (inr 0 (x 1 0 - 1) r)) = 0
    replace c1 := b2i_0.mp c1
    refine v_iconst C (0) dX2_driverOf_17 (by decide) ?_
    refine v_iret C dX2_driverOf_18 ?_
    simp [su, pif, c1]
  · -- 5 f: not (b2i (inr 0 (x 1 0 - 1) r)) = 0
    replace c1 := Classical.not_not.mp (fun z => c1 (b2i_0.mpr z))
    obtain ⟨jr, hjr, rfl⟩ := inr_run (n := n) (by omega) (hn ▸ c1)
    have hcjr : (nI jr).toNatClampNeg = jr := nI_clamp (by omega)
    refine v_aload_n C dX2_driverOf_8 rfl ?_
    refine vM_g_drivers C hin2 (by decide +kernel) dX2_driverOf_9 ?_
    refine v_iload_n C dX2_driverOf_12 rfl ?_
    refine vM_l_drivers C jr rfl (by omega) dX2_driverOf_13 ?_
    refine v_goto C 18 dX2_driverOf_14 (by decide) ?_
    refine v_iret C dX2_driverOf_18 ?_
    simp [su, pif, c1, hcjr]
set_option maxHeartbeats 4000000 in
set_option maxRecDepth 100000 in
/-- charge -/
theorem k_X2_charge (l : Launch) (G : va_G) (cy : Nat → ClassId) (am : Nat → Nat) (x : Sg) (b : Int32) : KI l G cy yX2_charge wsX2_charge 2 42 0 0 [.ref (am 0), .int b] (wM cy am x) (pif (inr 0 4 b) (x 12 b.toNatClampNeg) 0) (wM cy am (su x 5 0 (pif (inr 0 4 b) 0 1))) := by
  have hin2 : ∀ q ∈ u_ws RX2 TX2 18, q ∈ wsX2_charge := by decide +kernel
  refine KI_of (own := RX2) (cc := cX2_charge) (maxL := 2) (ret := (some .int)) (lo0 := [some (.ref (am 0)), some (.int b)]) (by decide) rfl rfl (by simp [Value.category]) (Nat.le_of_ble_eq_true rfl) rfl (fun p e s m args below meth c A C => ?_)
  refine v_aload_n C dX2_charge_0 rfl ?_
  refine v_iload_n C dX2_charge_1 rfl ?_
  refine v_sI C (k_X2_isBus l G cy (wM cy am x) b) rfl gX2_charge_X2_isBus (nA := 1) (by decide +kernel) rfl (by decide) (by decide) rfl (Nat.le_of_ble_eq_true rfl) dX2_charge_2 ?_
  refine v_if_eq C 12 dX2_charge_5 (by decide) (fun c1 => ?_) (fun c1 => ?_)
  · -- 5 t: (b2i (inr 0 4 b)) = 0
    replace c1 := b2i_0.mp c1
    refine v_iconst C (1) dX2_charge_12 (by decide) ?_
    refine vM_p_thrown C hin2 (by decide +kernel) dX2_charge_13 ?_
    refine v_aload_n C dX2_charge_16 rfl ?_
    refine vM_g_thrown C hin2 (by decide +kernel) dX2_charge_17 ?_
    refine V.es (st' := [.int 1]) (by rw [su_s]) ?_
    refine v_if_ne C 32 dX2_charge_20 (by decide) (fun z => ?_) (fun z => absurd z (by decide))
    refine v_iconst C (0) dX2_charge_32 (by decide) ?_
    have e9 : su x 5 0 (pif (inr 0 4 b) 0 1) = su x 5 0 1 := by simp [pif, c1]
    rw [e9]
    refine v_iret C dX2_charge_33 ?_
    simp [su, pif, c1]
  · -- 5 f: not (b2i (inr 0 4 b)) = 0
    replace c1 := Classical.not_not.mp (fun z => c1 (b2i_0.mpr z))
    obtain ⟨jb, hjb, rfl⟩ := inr_ix (N := 4) (by decide) rfl c1
    have hcjb : (nI jb).toNatClampNeg = jb := nI_clamp (by omega)
    refine v_iconst C (0) dX2_charge_8 (by decide) ?_
    refine v_goto C 13 dX2_charge_9 (by decide) ?_
    refine vM_p_thrown C hin2 (by decide +kernel) dX2_charge_13 ?_
    refine v_aload_n C dX2_charge_16 rfl ?_
    refine vM_g_thrown C hin2 (by decide +kernel) dX2_charge_17 ?_
    refine V.es (st' := [.int 0]) (by rw [su_s]) ?_
    refine v_if_ne C 32 dX2_charge_20 (by decide) (fun z => absurd z (by decide)) (fun z => ?_)
    refine v_aload_n C dX2_charge_23 rfl ?_
    refine vM_g_charges C hin2 (by decide +kernel) dX2_charge_24 ?_
    refine v_iload_n C dX2_charge_27 rfl ?_
    refine vM_l_charges C jb rfl (by omega) dX2_charge_28 ?_
    refine v_goto C 33 dX2_charge_29 (by decide) ?_
    have e9 : su x 5 0 (pif (inr 0 4 (nI jb)) 0 1) = su x 5 0 0 := by simp [pif, c1, hcjb]
    rw [e9]
    refine v_iret C dX2_charge_33 ?_
    simp [su, pif, c1, hcjb]
theorem fprom_5 (n : Nat) (x : Sg) (v b : Int32) : fprom n (su x 5 0 v) b = fprom n x b := sumF_c (fun k _ => by simp [gprom, su])
set_option maxHeartbeats 4000000 in
set_option maxRecDepth 100000 in
/-- promised(b) -/
theorem k_X2_promised (l : Launch) (G : va_G) (cy : Nat → ClassId) (am : Nat → Nat) (x : Sg) (n : Nat) (hn : x 1 0 = nI n) (h30 : n ≤ 30) (b : Int32) : KI l G cy yX2_promised wsX2_promised 2 42 0 0 [.ref (am 0), .int b] (wM cy am x) (pif (inr 0 4 b) (fprom n x b) 0) (wM cy am (su x 5 0 (pif (inr 0 4 b) 0 1))) := by
  have hin2 : ∀ q ∈ u_ws RX2 TX2 18, q ∈ wsX2_promised := by decide +kernel
  refine KI_of (own := RX2) (cc := cX2_promised) (maxL := 2) (ret := (some .int)) (lo0 := [some (.ref (am 0)), some (.int b)]) (by decide) rfl rfl (by simp [Value.category]) (Nat.le_of_ble_eq_true rfl) rfl (fun p e s m args below meth c A C => ?_)
  refine v_aload_n C dX2_promised_0 rfl ?_
  refine v_iload_n C dX2_promised_1 rfl ?_
  refine v_sI C (k_X2_isBus l G cy (wM cy am x) b) rfl gX2_promised_X2_isBus (nA := 1) (by decide +kernel) rfl (by decide) (by decide) rfl (Nat.le_of_ble_eq_true rfl) dX2_promised_2 ?_
  refine v_if_eq C 12 dX2_promised_5 (by decide) (fun c1 => ?_) (fun c1 => ?_)
  · -- 5 t: (b2i (inr 0 4 b)) = 0
    replace c1 := b2i_0.mp c1
    refine v_iconst C (1) dX2_promised_12 (by decide) ?_
    refine vM_p_thrown C hin2 (by decide +kernel) dX2_promised_13 ?_
    refine v_aload_n C dX2_promised_16 rfl ?_
    refine vM_g_thrown C hin2 (by decide +kernel) dX2_promised_17 ?_
    refine V.es (st' := [.int 1]) (by rw [su_s]) ?_
    refine v_if_ne C 31 dX2_promised_20 (by decide) (fun z => ?_) (fun z => absurd z (by decide))
    refine v_iconst C (0) dX2_promised_31 (by decide) ?_
    have e9 : su x 5 0 (pif (inr 0 4 b) 0 1) = su x 5 0 1 := by simp [pif, c1]
    rw [e9]
    refine v_iret C dX2_promised_32 ?_
    simp [fprom_5, pif, c1]
  · -- 5 f: not (b2i (inr 0 4 b)) = 0
    replace c1 := Classical.not_not.mp (fun z => c1 (b2i_0.mpr z))
    refine v_iconst C (0) dX2_promised_8 (by decide) ?_
    refine v_goto C 13 dX2_promised_9 (by decide) ?_
    refine vM_p_thrown C hin2 (by decide +kernel) dX2_promised_13 ?_
    refine v_aload_n C dX2_promised_16 rfl ?_
    refine vM_g_thrown C hin2 (by decide +kernel) dX2_promised_17 ?_
    refine V.es (st' := [.int 0]) (by rw [su_s]) ?_
    refine v_if_ne C 31 dX2_promised_20 (by decide) (fun z => absurd z (by decide)) (fun z => ?_)
    refine v_aload_n C dX2_promised_23 rfl ?_
    refine v_iload_n C dX2_promised_24 rfl ?_
    refine vM_cI C (k_X2_promisedOf l G cy am (su x 5 0 0) n (by rw [su_f _ _ _ _ (by decide)]; exact hn) h30 b) rfl gX2_promised_X2_promisedOf (nA := 1) (by decide +kernel) rfl (by decide) (by decide) rfl rfl (Nat.le_of_ble_eq_true rfl) dX2_promised_25 ?_
    refine v_goto C 32 dX2_promised_28 (by decide) ?_
    have e9 : su x 5 0 (pif (inr 0 4 b) 0 1) = su x 5 0 0 := by simp [pif, c1]
    rw [e9]
    refine v_iret C dX2_promised_32 ?_
    simp [fprom_5, pif, c1]
theorem gmin_5 (n : Nat) (x : Sg) (v d day : Int32) : sumF (gmin (su x 5 0 v) d day) n = sumF (gmin x d day) n := sumF_c (fun k _ => by simp [gmin, wkd, su])
set_option maxHeartbeats 4000000 in
set_option maxRecDepth 100000 in
/-- minutesOf(d, day) -/
theorem k_X2_minutesOf (l : Launch) (G : va_G) (cy : Nat → ClassId) (am : Nat → Nat) (x : Sg) (n : Nat) (hn : x 1 0 = nI n) (h30 : n ≤ 30) (d day : Int32) : KI l G cy yX2_minutesOf wsX2_minutesOf 2 42 0 0 [.ref (am 0), .int d, .int day] (wM cy am x) (pif (inr 0 4 d) (sumF (gmin x d day) n) 0) (wM cy am (su x 5 0 (pif (inr 0 4 d) 0 1))) := by
  have hin2 : ∀ q ∈ u_ws RX2 TX2 18, q ∈ wsX2_minutesOf := by decide +kernel
  refine KI_of (own := RX2) (cc := cX2_minutesOf) (maxL := 5) (ret := (some .int)) (lo0 := [some (.ref (am 0)), some (.int d), some (.int day), none, none]) (by decide) rfl rfl (by simp [Value.category]) (Nat.le_of_ble_eq_true rfl) rfl (fun p e s m args below meth c A C => ?_)
  refine v_aload_n C dX2_minutesOf_0 rfl ?_
  refine v_iload_n C dX2_minutesOf_1 rfl ?_
  refine v_sI C (k_X2_isDriver l G cy (wM cy am x) d) rfl gX2_minutesOf_X2_isDriver (nA := 1) (by decide +kernel) rfl (by decide) (by decide) rfl (Nat.le_of_ble_eq_true rfl) dX2_minutesOf_2 ?_
  refine v_if_eq C 12 dX2_minutesOf_5 (by decide) (fun c1 => ?_) (fun c1 => ?_)
  · -- 5 t: (b2i (inr 0 4 d)) = 0
    replace c1 := b2i_0.mp c1
    refine v_iconst C (1) dX2_minutesOf_12 (by decide) ?_
    refine vM_p_thrown C hin2 (by decide +kernel) dX2_minutesOf_13 ?_
    refine v_iconst C (0) dX2_minutesOf_16 (by decide) ?_
    refine v_istore_n C dX2_minutesOf_17 (by decide) ?_
    refine v_iconst C (0) dX2_minutesOf_18 (by decide) ?_
    refine v_istore C dX2_minutesOf_19 (by decide) ?_
    refine v_iload C dX2_minutesOf_21 rfl ?_
    refine v_aload_n C dX2_minutesOf_23 rfl ?_
    refine vM_g_runMany C hin2 (by decide +kernel) dX2_minutesOf_24 ?_
    refine v_icmp_ge C 100 dX2_minutesOf_27 (by decide) (fun c2 => ?_) (fun c2 => ?_)
    · -- 27 t: ¬ 0 < ((su x 5 0 1) 1 0)
      refine v_iload_n C dX2_minutesOf_100 rfl ?_
      have e9 : su x 5 0 (pif (inr 0 4 d) 0 1) = su x 5 0 1 := by simp [pif, c1, c2]
      rw [e9]
      refine v_iret C dX2_minutesOf_101 ?_
      simp [gmin_5, pif, c1, c2]
    · -- 27 f: not ¬ 0 < ((su x 5 0 1) 1 0)
      refine v_aload_n C dX2_minutesOf_30 rfl ?_
      refine vM_g_thrown C hin2 (by decide +kernel) dX2_minutesOf_31 ?_
      refine V.es (st' := [.int 1]) (by rw [su_s]) ?_
      refine v_if_ne C 100 dX2_minutesOf_34 (by decide) (fun z => ?_) (fun z => absurd z (by decide))
      refine v_iload_n C dX2_minutesOf_100 rfl ?_
      have e9 : su x 5 0 (pif (inr 0 4 d) 0 1) = su x 5 0 1 := by simp [pif, c1, c2]
      rw [e9]
      refine v_iret C dX2_minutesOf_101 ?_
      simp [gmin_5, pif, c1, c2]
  · -- 5 f: not (b2i (inr 0 4 d)) = 0
    replace c1 := Classical.not_not.mp (fun z => c1 (b2i_0.mpr z))
    obtain ⟨jd, hjd, rfl⟩ := inr_ix (N := 4) (by decide) rfl c1
    have hcjd : (nI jd).toNatClampNeg = jd := nI_clamp (by omega)
    refine v_iconst C (0) dX2_minutesOf_8 (by decide) ?_
    refine v_goto C 13 dX2_minutesOf_9 (by decide) ?_
    refine vM_p_thrown C hin2 (by decide +kernel) dX2_minutesOf_13 ?_
    refine v_iconst C (0) dX2_minutesOf_16 (by decide) ?_
    refine v_istore_n C dX2_minutesOf_17 (by decide) ?_
    refine v_iconst C (0) dX2_minutesOf_18 (by decide) ?_
    refine v_istore C dX2_minutesOf_19 (by decide) ?_
    refine V.loop (fun k : Nat => wM cy am (su x 5 0 0)) (fun k : Nat => ([some (.ref (am 0)), some (.int (nI jd)), some (.int day), some (.int (sumF (gmin (su x 5 0 0) (nI jd) day) k)), some (.int (nI k))] : List (Option Value))) (fun k : Nat => True) n ?_ trivial
    intro k hle_k hP_k ih_k
    try dsimp only at hP_k ih_k ⊢
    refine v_iload C dX2_minutesOf_21 rfl ?_
    refine v_aload_n C dX2_minutesOf_23 rfl ?_
    refine vM_g_runMany C hin2 (by decide +kernel) dX2_minutesOf_24 ?_
    refine v_geN C k n 100 dX2_minutesOf_27 (by decide) rfl (by rw [su_f _ _ _ _ (by decide)]; exact hn) (by omega) (by omega) (fun c4 => ?_) (fun c4 => ?_)
    · -- loop 21 is over
      have e_k : n = k := by omega
      subst e_k
      refine v_iload_n C dX2_minutesOf_100 rfl ?_
      have e9 : su x 5 0 (pif (inr 0 4 (nI jd)) 0 1) = su x 5 0 0 := by simp [pif, c1, hcjd]
      rw [e9]
      refine v_iret C dX2_minutesOf_101 ?_
      simp [gmin_5, pif, c1, hcjd]
    · have hk : k < n := c4
      refine v_aload_n C dX2_minutesOf_30 rfl ?_
      refine vM_g_thrown C hin2 (by decide +kernel) dX2_minutesOf_31 ?_
      refine V.es (st' := [.int 0]) (by rw [su_s]) ?_
      refine v_if_ne C 100 dX2_minutesOf_34 (by decide) (fun z => absurd z (by decide)) (fun z => ?_)
      refine v_iload_n C dX2_minutesOf_37 rfl ?_
      refine v_aload_n C dX2_minutesOf_38 rfl ?_
      refine vM_g_drivers C hin2 (by decide +kernel) dX2_minutesOf_39 ?_
      refine v_iload C dX2_minutesOf_42 rfl ?_
      refine vM_l_drivers C k rfl (by omega) dX2_minutesOf_44 ?_
      refine v_iload_n C dX2_minutesOf_45 rfl ?_
      refine v_icmp_ne C 91 dX2_minutesOf_46 (by decide) (fun c6 => ?_) (fun c6 => ?_)
      · -- 46 t: ¬ ((su x 5 0 0) 11 k) = (nI jd)
        refine v_iconst C (0) dX2_minutesOf_91 (by decide) ?_
        refine v_iadd C dX2_minutesOf_92 ?_
        refine v_istore_n C dX2_minutesOf_93 (by decide) ?_
        refine v_incN C dX2_minutesOf_94 rfl (by decide) ?_
        refine v_goto C 21 dX2_minutesOf_97 (by decide) ?_
        have q := ih_k hk trivial
        have e : sumF (gmin (su x 5 0 0) (nI jd) day) (k + 1) = (sumF (gmin (su x 5 0 0) (nI jd) day) k) + 0 := by simp [sumF, gmin, pif, c1, c6]
        rw [e] at q
        exact q
      · -- 46 f: not ¬ ((su x 5 0 0) 11 k) = (nI jd)
        refine v_aload_n C dX2_minutesOf_49 rfl ?_
        refine v_iload C dX2_minutesOf_50 rfl ?_
        refine vM_cI C (k_X2_isWorked l G cy am (su x 5 0 0) k (by omega)) rfl gX2_minutesOf_X2_isWorked (nA := 1) (by decide +kernel) rfl (by decide) (by decide) rfl rfl (Nat.le_of_ble_eq_true rfl) dX2_minutesOf_52 ?_
        refine v_if_eq C 91 dX2_minutesOf_55 (by decide) (fun c7 => ?_) (fun c7 => ?_)
        · -- 55 t: (b2i (wkd (su x 5 0 0) k)) = 0
          replace c7 := b2i_0.mp c7
          refine v_iconst C (0) dX2_minutesOf_91 (by decide) ?_
          refine v_iadd C dX2_minutesOf_92 ?_
          refine v_istore_n C dX2_minutesOf_93 (by decide) ?_
          refine v_incN C dX2_minutesOf_94 rfl (by decide) ?_
          refine v_goto C 21 dX2_minutesOf_97 (by decide) ?_
          have q := ih_k hk trivial
          have e : sumF (gmin (su x 5 0 0) (nI jd) day) (k + 1) = (sumF (gmin (su x 5 0 0) (nI jd) day) k) + 0 := by simp [sumF, gmin, pif, c1, c6, c7]
          rw [e] at q
          exact q
        · -- 55 f: not (b2i (wkd (su x 5 0 0) k)) = 0
          replace c7 := Classical.not_not.mp (fun z => c7 (b2i_0.mpr z))
          refine v_aload_n C dX2_minutesOf_58 rfl ?_
          refine vM_g_starts C hin2 (by decide +kernel) dX2_minutesOf_59 ?_
          refine v_iload C dX2_minutesOf_62 rfl ?_
          refine vM_l_starts C k rfl (by omega) dX2_minutesOf_64 ?_
          refine v_sipush C (1440) dX2_minutesOf_65 (by decide) ?_
          refine v_idiv C dX2_minutesOf_68 (by decide) ?_
          refine v_iload_n C dX2_minutesOf_69 rfl ?_
          refine v_icmp_ne C 91 dX2_minutesOf_70 (by decide) (fun c8 => ?_) (fun c8 => ?_)
          · -- 70 t: ¬ (((su x 5 0 0) 6 k) / 1440) = day
            refine v_iconst C (0) dX2_minutesOf_91 (by decide) ?_
            refine v_iadd C dX2_minutesOf_92 ?_
            refine v_istore_n C dX2_minutesOf_93 (by decide) ?_
            refine v_incN C dX2_minutesOf_94 rfl (by decide) ?_
            refine v_goto C 21 dX2_minutesOf_97 (by decide) ?_
            have q := ih_k hk trivial
            have e : sumF (gmin (su x 5 0 0) (nI jd) day) (k + 1) = (sumF (gmin (su x 5 0 0) (nI jd) day) k) + 0 := by simp [sumF, gmin, pif, c1, c6, c7, c8]
            rw [e] at q
            exact q
          · -- 70 f: not ¬ (((su x 5 0 0) 6 k) / 1440) = day
            refine v_aload_n C dX2_minutesOf_73 rfl ?_
            refine vM_g_ends C hin2 (by decide +kernel) dX2_minutesOf_74 ?_
            refine v_iload C dX2_minutesOf_77 rfl ?_
            refine vM_l_ends C k rfl (by omega) dX2_minutesOf_79 ?_
            refine v_aload_n C dX2_minutesOf_80 rfl ?_
            refine vM_g_starts C hin2 (by decide +kernel) dX2_minutesOf_81 ?_
            refine v_iload C dX2_minutesOf_84 rfl ?_
            refine vM_l_starts C k rfl (by omega) dX2_minutesOf_86 ?_
            refine v_isub C dX2_minutesOf_87 ?_
            refine v_goto C 92 dX2_minutesOf_88 (by decide) ?_
            refine v_iadd C dX2_minutesOf_92 ?_
            refine v_istore_n C dX2_minutesOf_93 (by decide) ?_
            refine v_incN C dX2_minutesOf_94 rfl (by decide) ?_
            refine v_goto C 21 dX2_minutesOf_97 (by decide) ?_
            have q := ih_k hk trivial
            have e : sumF (gmin (su x 5 0 0) (nI jd) day) (k + 1) = (sumF (gmin (su x 5 0 0) (nI jd) day) k) + (((su x 5 0 0) 7 k) - ((su x 5 0 0) 6 k)) := by simp [sumF, gmin, pif, c1, c6, c7, c8]
            rw [e] at q
            exact q
