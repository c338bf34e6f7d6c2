/-! DepotLog: what is read -/
set_option maxHeartbeats 4000000 in
set_option maxRecDepth 100000 in
/-- minute() -/
theorem k_X1_minute (l : Launch) (G : va_G) (cy : Nat → ClassId) (ad : Nat → Nat) (x : Sg) : KI l G cy yX1_minute wsX1_minute 0 0 0 0 [.ref (ad 0)] (wD cy ad x) (x 0 0) (wD cy ad x) := by
  have hin1 : ∀ q ∈ u_ws RX1 TX1 12, q ∈ wsX1_minute := by decide +kernel
  refine KI_of (own := RX1) (cc := cX1_minute) (maxL := 1) (ret := (some .int)) (lo0 := [some (.ref (ad 0))]) (by decide) rfl rfl (by simp [Value.category]) (Nat.le_of_ble_eq_true rfl) rfl (fun p e s m args below meth c A C => ?_)
  refine v_aload_n C dX1_minute_0 rfl ?_
  refine vD_g_minute C hin1 (by decide +kernel) dX1_minute_1 ?_
  refine v_iret C dX1_minute_4 ?_
  rfl
set_option maxHeartbeats 4000000 in
set_option maxRecDepth 100000 in
/-- runs() -/
theorem k_X1_runs (l : Launch) (G : va_G) (cy : Nat → ClassId) (ad : Nat → Nat) (x : Sg) : KI l G cy yX1_runs wsX1_runs 0 0 0 0 [.ref (ad 0)] (wD cy ad x) (x 1 0) (wD cy ad x) := by
  have hin1 : ∀ q ∈ u_ws RX1 TX1 12, q ∈ wsX1_runs := by decide +kernel
  refine KI_of (own := RX1) (cc := cX1_runs) (maxL := 1) (ret := (some .int)) (lo0 := [some (.ref (ad 0))]) (by decide) rfl rfl (by simp [Value.category]) (Nat.le_of_ble_eq_true rfl) rfl (fun p e s m args below meth c A C => ?_)
  refine v_aload_n C dX1_runs_0 rfl ?_
  refine vD_g_runCount C hin1 (by decide +kernel) dX1_runs_1 ?_
  refine v_iret C dX1_runs_4 ?_
  rfl
set_option maxHeartbeats 4000000 in
set_option maxRecDepth 100000 in
/-- orders() -/
theorem k_X1_orders (l : Launch) (G : va_G) (cy : Nat → ClassId) (ad : Nat → Nat) (x : Sg) : KI l G cy yX1_orders wsX1_orders 0 0 0 0 [.ref (ad 0)] (wD cy ad x) (x 2 0) (wD cy ad x) := by
  have hin1 : ∀ q ∈ u_ws RX1 TX1 12, q ∈ wsX1_orders := by decide +kernel
  refine KI_of (own := RX1) (cc := cX1_orders) (maxL := 1) (ret := (some .int)) (lo0 := [some (.ref (ad 0))]) (by decide) rfl rfl (by simp [Value.category]) (Nat.le_of_ble_eq_true rfl) rfl (fun p e s m args below meth c A C => ?_)
  refine v_aload_n C dX1_orders_0 rfl ?_
  refine vD_g_orderCount C hin1 (by decide +kernel) dX1_orders_1 ?_
  refine v_iret C dX1_orders_4 ?_
  rfl
set_option maxHeartbeats 4000000 in
set_option maxRecDepth 100000 in
/-- leader() -/
theorem k_X1_leader (l : Launch) (G : va_G) (cy : Nat → ClassId) (ad : Nat → Nat) (x : Sg) : KI l G cy yX1_leader wsX1_leader 0 0 0 0 [.ref (ad 0)] (wD cy ad x) (flead x) (wD cy ad x) := by
  have hin1 : ∀ q ∈ u_ws RX1 TX1 12, q ∈ wsX1_leader := by decide +kernel
  refine KI_of (own := RX1) (cc := cX1_leader) (maxL := 1) (ret := (some .int)) (lo0 := [some (.ref (ad 0))]) (by decide) rfl rfl (by simp [Value.category]) (Nat.le_of_ble_eq_true rfl) rfl (fun p e s m args below meth c A C => ?_)
  refine v_aload_n C dX1_leader_0 rfl ?_
  refine vD_g_minute C hin1 (by decide +kernel) dX1_leader_1 ?_
  refine v_aload_n C dX1_leader_4 rfl ?_
  refine vD_g_leaseEnd C hin1 (by decide +kernel) dX1_leader_5 ?_
  refine v_icmp_ge C 18 dX1_leader_8 (by decide) (fun c1 => ?_) (fun c1 => ?_)
  · -- 8 t: ¬ (x 0 0) < (x 4 0)
    refine v_iconst C (-1) dX1_leader_18 (by decide) ?_
    refine v_iret C dX1_leader_19 ?_
    exact (pif_f c1).symm
  · -- 8 f: not ¬ (x 0 0) < (x 4 0)
    refine v_aload_n C dX1_leader_11 rfl ?_
    refine vD_g_holder C hin1 (by decide +kernel) dX1_leader_12 ?_
    refine v_goto C 19 dX1_leader_15 (by decide) ?_
    refine v_iret C dX1_leader_19 ?_
    exact (pif_t c1).symm
set_option maxHeartbeats 4000000 in
set_option maxRecDepth 100000 in
/-- promisedCharge(b) -/
theorem k_X1_promisedCharge (l : Launch) (G : va_G) (cy : Nat → ClassId) (ad : Nat → Nat) (x : Sg) (n : Nat) (hn : x 1 0 = nI n) (h30 : n ≤ 30) (b : Int32) : KI l G cy yX1_promisedCharge wsX1_promisedCharge 0 0 0 0 [.ref (ad 0), .int b] (wD cy ad x) (fprom n x b) (wD cy ad x) := by
  have hin1 : ∀ q ∈ u_ws RX1 TX1 12, q ∈ wsX1_promisedCharge := by decide +kernel
  have hin0 : ∀ q ∈ u_ws RX0 TX0 6, q ∈ wsX1_promisedCharge := by decide +kernel
  refine KI_of (own := RX1) (cc := cX1_promisedCharge) (maxL := 4) (ret := (some .int)) (lo0 := [some (.ref (ad 0)), some (.int b), none, none]) (by decide) rfl rfl (by simp [Value.category]) (Nat.le_of_ble_eq_true rfl) rfl (fun p e s m args below meth c A C => ?_)
  refine v_iconst C (0) dX1_promisedCharge_0 (by decide) ?_
  refine v_istore_n C dX1_promisedCharge_1 (by decide) ?_
  refine v_iconst C (0) dX1_promisedCharge_2 (by decide) ?_
  refine v_istore_n C dX1_promisedCharge_3 (by decide) ?_
  refine V.loop (fun k : Nat => wD cy ad x) (fun k : Nat => ([some (.ref (ad 0)), some (.int b), some (.int (sumF (gprom x b) k)), some (.int (nI k))] : List (Option Value))) (fun k : Nat => True) n ?_ trivial
  intro k hle_k hP_k ih_k
  try dsimp only at hP_k ih_k ⊢
  refine v_iload_n C dX1_promisedCharge_4 rfl ?_
  refine v_aload_n C dX1_promisedCharge_5 rfl ?_
  refine vD_g_runCount C hin1 (by decide +kernel) dX1_promisedCharge_6 ?_
  refine v_geN C k n 56 dX1_promisedCharge_9 (by decide) rfl hn (by omega) (by omega) (fun c1 => ?_) (fun c1 => ?_)
  · -- loop 4 is over
    have e_k : n = k := by omega
    subst e_k
    refine v_iload_n C dX1_promisedCharge_56 rfl ?_
    refine v_iret C dX1_promisedCharge_57 ?_
    rfl
  · have hk : k < n := c1
    refine v_aload_n C dX1_promisedCharge_12 rfl ?_
    refine vD_g_rows C hin1 (by decide +kernel) dX1_promisedCharge_13 ?_
    refine v_iload_n C dX1_promisedCharge_16 rfl ?_
    refine vD_aald C k rfl (by omega) dX1_promisedCharge_17 ?_
    refine vR_g_bus C hin0 (by omega) (by decide +kernel) dX1_promisedCharge_18 ?_
    refine v_iload_n C dX1_promisedCharge_21 rfl ?_
    refine v_icmp_ne C 50 dX1_promisedCharge_22 (by decide) (fun c2 => ?_) (fun c2 => ?_)
    · -- 22 t: ¬ (x 10 k) = b
      refine v_incN C dX1_promisedCharge_50 rfl (by decide) ?_
      refine v_goto C 4 dX1_promisedCharge_53 (by decide) ?_
      have q := ih_k hk trivial
      have e : sumF (gprom x b) (k + 1) = sumF (gprom x b) k := by simp [sumF, gprom, pif, c2]
      rw [e] at q
      exact q
    · -- 22 f: not ¬ (x 10 k) = b
      refine v_aload_n C dX1_promisedCharge_25 rfl ?_
      refine vD_g_rows C hin1 (by decide +kernel) dX1_promisedCharge_26 ?_
      refine v_iload_n C dX1_promisedCharge_29 rfl ?_
      refine vD_aald C k rfl (by omega) dX1_promisedCharge_30 ?_
      refine vR_g_state C hin0 (by omega) (by decide +kernel) dX1_promisedCharge_31 ?_
      refine v_iconst C (1) dX1_promisedCharge_34 (by decide) ?_
      refine v_icmp_ne C 50 dX1_promisedCharge_35 (by decide) (fun c3 => ?_) (fun c3 => ?_)
      · -- 35 t: ¬ (x 9 k) = 1
        refine v_incN C dX1_promisedCharge_50 rfl (by decide) ?_
        refine v_goto C 4 dX1_promisedCharge_53 (by decide) ?_
        have q := ih_k hk trivial
        have e : sumF (gprom x b) (k + 1) = sumF (gprom x b) k := by simp [sumF, gprom, pif, c2, c3]
        rw [e] at q
        exact q
      · -- 35 f: not ¬ (x 9 k) = 1
        refine v_iload_n C dX1_promisedCharge_38 rfl ?_
        refine v_aload_n C dX1_promisedCharge_39 rfl ?_
        refine vD_g_rows C hin1 (by decide +kernel) dX1_promisedCharge_40 ?_
        refine v_iload_n C dX1_promisedCharge_43 rfl ?_
        refine vD_aald C k rfl (by omega) dX1_promisedCharge_44 ?_
        refine vR_g_need C hin0 (by omega) (by decide +kernel) dX1_promisedCharge_45 ?_
        refine v_iadd C dX1_promisedCharge_48 ?_
        refine v_istore_n C dX1_promisedCharge_49 (by decide) ?_
        refine v_incN C dX1_promisedCharge_50 rfl (by decide) ?_
        refine v_goto C 4 dX1_promisedCharge_53 (by decide) ?_
        have q := ih_k hk trivial
        have e : sumF (gprom x b) (k + 1) = (sumF (gprom x b) k) + (x 8 k) := by simp [sumF, gprom, pif, c2, c3]
        rw [e] at q
        exact q
set_option maxHeartbeats 4000000 in
set_option maxRecDepth 100000 in
/-- workedMinutes(d, day) -/
theorem k_X1_workedMinutes (l : Launch) (G : va_G) (cy : Nat → ClassId) (ad : Nat → Nat) (x : Sg) (n : Nat) (hn : x 1 0 = nI n) (h30 : n ≤ 30) (d day : Int32) : KI l G cy yX1_workedMinutes wsX1_workedMinutes 2 42 0 0 [.ref (ad 0), .int d, .int day] (wD cy ad x) (fwork n x d day) (wD cy ad x) := by
  have hin1 : ∀ q ∈ u_ws RX1 TX1 12, q ∈ wsX1_workedMinutes := by decide +kernel
  refine KI_of (own := RX1) (cc := cX1_workedMinutes) (maxL := 5) (ret := (some .int)) (lo0 := [some (.ref (ad 0)), some (.int d), some (.int day), none, none]) (by decide) rfl rfl (by simp [Value.category]) (Nat.le_of_ble_eq_true rfl) rfl (fun p e s m args below meth c A C => ?_)
  refine v_iconst C (0) dX1_workedMinutes_0 (by decide) ?_
  refine v_istore_n C dX1_workedMinutes_1 (by decide) ?_
  refine v_iconst C (0) dX1_workedMinutes_2 (by decide) ?_
  refine v_istore C dX1_workedMinutes_3 (by decide) ?_
  refine V.loop (fun k : Nat => wD cy ad x) (fun k : Nat => ([some (.ref (ad 0)), some (.int d), some (.int day), some (.int (sumF (gwork x d day) k)), some (.int (nI k))] : List (Option Value))) (fun k : Nat => True) n ?_ trivial
  intro k hle_k hP_k ih_k
  try dsimp only at hP_k ih_k ⊢
  refine v_iload C dX1_workedMinutes_5 rfl ?_
  refine v_aload_n C dX1_workedMinutes_7 rfl ?_
  refine vD_g_runCount C hin1 (by decide +kernel) dX1_workedMinutes_8 ?_
  refine v_geN C k n 48 dX1_workedMinutes_11 (by decide) rfl hn (by omega) (by omega) (fun c1 => ?_) (fun c1 => ?_)
  · -- loop 5 is over
    have e_k : n = k := by omega
    subst e_k
    refine v_iload_n C dX1_workedMinutes_48 rfl ?_
    refine v_iret C dX1_workedMinutes_49 ?_
    rfl
  · have hk : k < n := c1
    refine v_aload_n C dX1_workedMinutes_14 rfl ?_
    refine vD_g_rows C hin1 (by decide +kernel) dX1_workedMinutes_15 ?_
    refine v_iload C dX1_workedMinutes_18 rfl ?_
    refine vD_aald C k rfl (by omega) dX1_workedMinutes_20 ?_
    refine v_iload_n C dX1_workedMinutes_21 rfl ?_
    refine v_iload_n C dX1_workedMinutes_22 rfl ?_
    refine vR_cI C (by omega) (k_X0_isWorkOf l G cy ad x k (by omega) d day) rfl gX1_workedMinutes_X0_isWorkOf (nA := 2) (by decide +kernel) rfl (by decide) (by decide) rfl rfl (Nat.le_of_ble_eq_true rfl) dX1_workedMinutes_23 ?_
    refine v_if_eq C 42 dX1_workedMinutes_26 (by decide) (fun c2 => ?_) (fun c2 => ?_)
    · -- 26 t: (b2i (works x k d day)) = 0
      replace c2 := b2i_0.mp c2
      refine v_incN C dX1_workedMinutes_42 rfl (by decide) ?_
      refine v_goto C 5 dX1_workedMinutes_45 (by decide) ?_
      have q := ih_k hk trivial
      have e : sumF (gwork x d day) (k + 1) = sumF (gwork x d day) k := by simp [sumF, gwork, pif, c2]
      rw [e] at q
      exact q
    · -- 26 f: not (b2i (works x k d day)) = 0
      replace c2 := Classical.not_not.mp (fun z => c2 (b2i_0.mpr z))
      refine v_iload_n C dX1_workedMinutes_29 rfl ?_
      refine v_aload_n C dX1_workedMinutes_30 rfl ?_
      refine vD_g_rows C hin1 (by decide +kernel) dX1_workedMinutes_31 ?_
      refine v_iload C dX1_workedMinutes_34 rfl ?_
      refine vD_aald C k rfl (by omega) dX1_workedMinutes_36 ?_
      refine vR_cI C (by omega) (k_X0_length l G cy ad x k (by omega)) rfl gX1_workedMinutes_X0_length (nA := 0) (by decide +kernel) rfl (by decide) (by decide) rfl rfl (Nat.le_of_ble_eq_true rfl) dX1_workedMinutes_37 ?_
      refine v_iadd C dX1_workedMinutes_40 ?_
      refine v_istore_n C dX1_workedMinutes_41 (by decide) ?_
      refine v_incN C dX1_workedMinutes_42 rfl (by decide) ?_
      refine v_goto C 5 dX1_workedMinutes_45 (by decide) ?_
      have q := ih_k hk trivial
      have e : sumF (gwork x d day) (k + 1) = (sumF (gwork x d day) k) + (x 7 k - x 6 k) := by simp [sumF, gwork, pif, c2]
      rw [e] at q
      exact q
set_option maxHeartbeats 4000000 in
set_option maxRecDepth 100000 in
/-- isUnderWay(b) -/
theorem k_X1_isUnderWay (l : Launch) (G : va_G) (cy : Nat → ClassId) (ad : Nat → Nat) (x : Sg) (n : Nat) (hn : x 1 0 = nI n) (h30 : n ≤ 30) (b : Int32) : KI l G cy yX1_isUnderWay wsX1_isUnderWay 0 0 0 0 [.ref (ad 0), .int b] (wD cy ad x) (b2i (under n x b)) (wD cy ad x) := by
  have hin1 : ∀ q ∈ u_ws RX1 TX1 12, q ∈ wsX1_isUnderWay := by decide +kernel
  have hin0 : ∀ q ∈ u_ws RX0 TX0 6, q ∈ wsX1_isUnderWay := by decide +kernel
  refine KI_of (own := RX1) (cc := cX1_isUnderWay) (maxL := 3) (ret := (some .boolean)) (lo0 := [some (.ref (ad 0)), some (.int b), none]) (by decide) rfl rfl (by simp [Value.category]) (Nat.le_of_ble_eq_true rfl) rfl (fun p e s m args below meth c A C => ?_)
  refine v_iconst C (0) dX1_isUnderWay_0 (by decide) ?_
  refine v_istore_n C dX1_isUnderWay_1 (by decide) ?_
  refine V.loop (fun k : Nat => wD cy ad x) (fun k : Nat => ([some (.ref (ad 0)), some (.int b), some (.int (nI k))] : List (Option Value))) (fun k : Nat => ∀ q, q < k → ¬ (x 9 q = 2 ∧ x 10 q = b)) n ?_ lt_0
  intro k hle_k hP_k ih_k
  try dsimp only at hP_k ih_k ⊢
  refine v_iload_n C dX1_isUnderWay_2 rfl ?_
  refine v_aload_n C dX1_isUnderWay_3 rfl ?_
  refine vD_g_runCount C hin1 (by decide +kernel) dX1_isUnderWay_4 ?_
  refine v_geN C k n 44 dX1_isUnderWay_7 (by decide) rfl hn (by omega) (by omega) (fun c1 => ?_) (fun c1 => ?_)
  · -- loop 2 is over
    have e_k : n = k := by omega
    subst e_k
    refine v_iconst C (0) dX1_isUnderWay_44 (by decide) ?_
    refine v_zret C rfl dX1_isUnderWay_45 ?_
    exact (b2i_f (fun ⟨q, h1, h2⟩ => hP_k q h1 h2)).symm
  · have hk : k < n := c1
    refine v_aload_n C dX1_isUnderWay_10 rfl ?_
    refine vD_g_rows C hin1 (by decide +kernel) dX1_isUnderWay_11 ?_
    refine v_iload_n C dX1_isUnderWay_14 rfl ?_
    refine vD_aald C k rfl (by omega) dX1_isUnderWay_15 ?_
    refine vR_g_state C hin0 (by omega) (by decide +kernel) dX1_isUnderWay_16 ?_
    refine v_iconst C (2) dX1_isUnderWay_19 (by decide) ?_
    refine v_icmp_ne C 38 dX1_isUnderWay_20 (by decide) (fun c2 => ?_) (fun c2 => ?_)
    · -- 20 t: ¬ (x 9 k) = 2
      refine v_incN C dX1_isUnderWay_38 rfl (by decide) ?_
      refine v_goto C 2 dX1_isUnderWay_41 (by decide) ?_
      refine ih_k hk (lt_s hP_k ?_)
      simp [c2]
    · -- 20 f: not ¬ (x 9 k) = 2
      refine v_aload_n C dX1_isUnderWay_23 rfl ?_
      refine vD_g_rows C hin1 (by decide +kernel) dX1_isUnderWay_24 ?_
      refine v_iload_n C dX1_isUnderWay_27 rfl ?_
      refine vD_aald C k rfl (by omega) dX1_isUnderWay_28 ?_
      refine vR_g_bus C hin0 (by omega) (by decide +kernel) dX1_isUnderWay_29 ?_
      refine v_iload_n C dX1_isUnderWay_32 rfl ?_
      refine v_icmp_ne C 38 dX1_isUnderWay_33 (by decide) (fun c3 => ?_) (fun c3 => ?_)
      · -- 33 t: ¬ (x 10 k) = b
        refine v_incN C dX1_isUnderWay_38 rfl (by decide) ?_
        refine v_goto C 2 dX1_isUnderWay_41 (by decide) ?_
        refine ih_k hk (lt_s hP_k ?_)
        simp [c2, c3]
      · -- 33 f: not ¬ (x 10 k) = b
        refine v_iconst C (1) dX1_isUnderWay_36 (by decide) ?_
        refine v_zret C rfl dX1_isUnderWay_37 ?_
        exact (b2i_t ⟨k, hk, c2, c3⟩).symm
