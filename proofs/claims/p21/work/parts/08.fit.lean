/-! DepotLog: what is fit, and swaps -/
set_option maxHeartbeats 4000000 in
set_option maxRecDepth 100000 in
/-- isBusFit(b, r) -/
theorem k_X1_isBusFit (l : Launch) (G : va_G) (cy : Nat → ClassId) (ad : Nat → Nat) (x : Sg) (n : Nat) (hn : x 1 0 = nI n) (h30 : n ≤ 30) (b : Nat) (hb : b < 5) (r : Nat) (hr : r < 30) : KI l G cy yX1_isBusFit wsX1_isBusFit 1 23 0 0 [.ref (ad 0), .int (nI b), .ref (ad (r + 8))] (wD cy ad x) (b2i (busfit n x b r)) (wD cy ad x) := by
  have hin1 : ∀ q ∈ u_ws RX1 TX1 12, q ∈ wsX1_isBusFit := by decide +kernel
  have hin0 : ∀ q ∈ u_ws RX0 TX0 6, q ∈ wsX1_isBusFit := by decide +kernel
  refine KI_of (own := RX1) (cc := cX1_isBusFit) (maxL := 4) (ret := (some .boolean)) (lo0 := [some (.ref (ad 0)), some (.int (nI b)), some (.ref (ad (r + 8))), none]) (by decide) rfl rfl (by simp [Value.category]) (Nat.le_of_ble_eq_true rfl) rfl (fun p e s m args below meth c A C => ?_)
  refine v_aload_n C dX1_isBusFit_0 rfl ?_
  refine vD_g_broken C hin1 (by decide +kernel) dX1_isBusFit_1 ?_
  refine v_iload_n C dX1_isBusFit_4 rfl ?_
  refine vD_l_broken C b rfl (by omega) dX1_isBusFit_5 ?_
  refine v_if_ne C 28 dX1_isBusFit_6 (by decide) (fun c1 => ?_) (fun c1 => ?_)
  · -- 6 t: ¬ (x 13 b) = 0
    refine v_iconst C (0) dX1_isBusFit_28 (by decide) ?_
    refine v_zret C rfl dX1_isBusFit_29 ?_
    exact (b2i_f (fun h => c1 h.1)).symm
  · -- 6 f: not ¬ (x 13 b) = 0
    refine v_aload_n C dX1_isBusFit_9 rfl ?_
    refine vD_g_charges C hin1 (by decide +kernel) dX1_isBusFit_10 ?_
    refine v_iload_n C dX1_isBusFit_13 rfl ?_
    refine vD_l_charges C b rfl (by omega) dX1_isBusFit_14 ?_
    refine v_aload_n C dX1_isBusFit_15 rfl ?_
    refine v_iload_n C dX1_isBusFit_16 rfl ?_
    refine vD_cI C (k_X1_promisedCharge l G cy ad x n hn h30 (nI b)) rfl gX1_isBusFit_X1_promisedCharge (nA := 1) (by decide +kernel) rfl (by decide) (by decide) rfl rfl (Nat.le_of_ble_eq_true rfl) dX1_isBusFit_17 ?_
    refine v_isub C dX1_isBusFit_20 ?_
    refine v_aload_n C dX1_isBusFit_21 rfl ?_
    refine vR_g_need C hin0 (by omega) (by decide +kernel) dX1_isBusFit_22 ?_
    refine v_icmp_ge C 30 dX1_isBusFit_25 (by decide) (fun c2 => ?_) (fun c2 => ?_)
    · -- 25 t: ¬ ((x 12 b) - (fprom n x (nI b))) < (x 8 r)
      refine v_iconst C (0) dX1_isBusFit_30 (by decide) ?_
      refine v_istore_n C dX1_isBusFit_31 (by decide) ?_
      refine V.loop (fun k : Nat => wD cy ad x) (fun k : Nat => ([some (.ref (ad 0)), some (.int (nI b)), some (.ref (ad (r + 8))), some (.int (nI k))] : List (Option Value))) (fun k : Nat => ∀ q, q < k → ¬ (holds x q (nI b) ∧ meets x q r)) n ?_ lt_0
      intro k hle_k hP_k ih_k
      try dsimp only at hP_k ih_k ⊢
      refine v_iload_n C dX1_isBusFit_32 rfl ?_
      refine v_aload_n C dX1_isBusFit_33 rfl ?_
      refine vD_g_runCount C hin1 (by decide +kernel) dX1_isBusFit_34 ?_
      refine v_geN C k n 74 dX1_isBusFit_37 (by decide) rfl hn (by omega) (by omega) (fun c3 => ?_) (fun c3 => ?_)
      · -- loop 32 is over
        have e_k : n = k := by omega
        subst e_k
        refine v_iconst C (1) dX1_isBusFit_74 (by decide) ?_
        refine v_zret C rfl dX1_isBusFit_75 ?_
        exact (b2i_t ⟨c1, c2, hP_k⟩).symm
      · have hk : k < n := c3
        refine v_aload_n C dX1_isBusFit_40 rfl ?_
        refine vD_g_rows C hin1 (by decide +kernel) dX1_isBusFit_41 ?_
        refine v_iload_n C dX1_isBusFit_44 rfl ?_
        refine vD_aald C k rfl (by omega) dX1_isBusFit_45 ?_
        refine v_iload_n C dX1_isBusFit_46 rfl ?_
        refine vR_cI C (by omega) (k_X0_holds l G cy ad x k (by omega) (nI b)) rfl gX1_isBusFit_X0_holds (nA := 1) (by decide +kernel) rfl (by decide) (by decide) rfl rfl (Nat.le_of_ble_eq_true rfl) dX1_isBusFit_47 ?_
        refine v_if_eq C 68 dX1_isBusFit_50 (by decide) (fun c4 => ?_) (fun c4 => ?_)
        · -- 50 t: (b2i (holds x k (nI b))) = 0
          replace c4 := b2i_0.mp c4
          refine v_incN C dX1_isBusFit_68 rfl (by decide) ?_
          refine v_goto C 32 dX1_isBusFit_71 (by decide) ?_
          refine ih_k hk (lt_s hP_k ?_)
          simp [c1, c2, c4]
        · -- 50 f: not (b2i (holds x k (nI b))) = 0
          replace c4 := Classical.not_not.mp (fun z => c4 (b2i_0.mpr z))
          refine v_aload_n C dX1_isBusFit_53 rfl ?_
          refine vD_g_rows C hin1 (by decide +kernel) dX1_isBusFit_54 ?_
          refine v_iload_n C dX1_isBusFit_57 rfl ?_
          refine vD_aald C k rfl (by omega) dX1_isBusFit_58 ?_
          refine v_aload_n C dX1_isBusFit_59 rfl ?_
          refine vR_cI C (by omega) (k_X0_meets l G cy ad x k (by omega) r (by omega)) rfl gX1_isBusFit_X0_meets (nA := 1) (by decide +kernel) rfl (by decide) (by decide) rfl rfl (Nat.le_of_ble_eq_true rfl) dX1_isBusFit_60 ?_
          refine v_if_eq C 68 dX1_isBusFit_63 (by decide) (fun c5 => ?_) (fun c5 => ?_)
          · -- 63 t: (b2i (meets x k r)) = 0
            replace c5 := b2i_0.mp c5
            refine v_incN C dX1_isBusFit_68 rfl (by decide) ?_
            refine v_goto C 32 dX1_isBusFit_71 (by decide) ?_
            refine ih_k hk (lt_s hP_k ?_)
            simp [c1, c2, c4, c5]
          · -- 63 f: not (b2i (meets x k r)) = 0
            replace c5 := Classical.not_not.mp (fun z => c5 (b2i_0.mpr z))
            refine v_iconst C (0) dX1_isBusFit_66 (by decide) ?_
            refine v_zret C rfl dX1_isBusFit_67 ?_
            exact (b2i_f (fun h => h.2.2 k hk ⟨c4, c5⟩)).symm
    · -- 25 f: not ¬ ((x 12 b) - (fprom n x (nI b))) < (x 8 r)
      refine v_iconst C (0) dX1_isBusFit_28 (by decide) ?_
      refine v_zret C rfl dX1_isBusFit_29 ?_
      exact (b2i_f (fun h => h.2.1 c2)).symm
set_option maxHeartbeats 4000000 in
set_option maxRecDepth 100000 in
/-- isDriverFit(d, r) -/
theorem k_X1_isDriverFit (l : Launch) (G : va_G) (cy : Nat → ClassId) (ad : Nat → Nat) (x : Sg) (n : Nat) (hn : x 1 0 = nI n) (h30 : n ≤ 30) (d : Nat) (hd5 : d < 5) (r : Nat) (hr : r < 30) : KI l G cy yX1_isDriverFit wsX1_isDriverFit 3 66 0 0 [.ref (ad 0), .int (nI d), .ref (ad (r + 8))] (wD cy ad x) (b2i (drvfit n x d r)) (wD cy ad x) := by
  have hin1 : ∀ q ∈ u_ws RX1 TX1 12, q ∈ wsX1_isDriverFit := by decide +kernel
  refine KI_of (own := RX1) (cc := cX1_isDriverFit) (maxL := 5) (ret := (some .boolean)) (lo0 := [some (.ref (ad 0)), some (.int (nI d)), some (.ref (ad (r + 8))), none, none]) (by decide) rfl rfl (by simp [Value.category]) (Nat.le_of_ble_eq_true rfl) rfl (fun p e s m args below meth c A C => ?_)
  refine v_aload_n C dX1_isDriverFit_0 rfl ?_
  refine vR_cI C (by omega) (k_X0_startDay l G cy ad x r (by omega)) rfl gX1_isDriverFit_X0_startDay (nA := 0) (by decide +kernel) rfl (by decide) (by decide) rfl rfl (Nat.le_of_ble_eq_true rfl) dX1_isDriverFit_1 ?_
  refine v_istore_n C dX1_isDriverFit_4 (by decide) ?_
  refine v_aload_n C dX1_isDriverFit_5 rfl ?_
  refine vD_g_ill C hin1 (by decide +kernel) dX1_isDriverFit_6 ?_
  refine v_iload_n C dX1_isDriverFit_9 rfl ?_
  refine vD_l_ill C d rfl (by omega) dX1_isDriverFit_10 ?_
  refine v_if_ne C 31 dX1_isDriverFit_11 (by decide) (fun c1 => ?_) (fun c1 => ?_)
  · -- 11 t: ¬ (x 14 d) = 0
    refine v_iconst C (0) dX1_isDriverFit_31 (by decide) ?_
    refine v_zret C rfl dX1_isDriverFit_32 ?_
    exact (b2i_f (fun h => c1 h.1)).symm
  · -- 11 f: not ¬ (x 14 d) = 0
    refine v_aload_n C dX1_isDriverFit_14 rfl ?_
    refine v_iload_n C dX1_isDriverFit_15 rfl ?_
    refine v_iload_n C dX1_isDriverFit_16 rfl ?_
    refine vD_cI C (k_X1_workedMinutes l G cy ad x n hn h30 (nI d) (x 6 r / 1440)) rfl gX1_isDriverFit_X1_workedMinutes (nA := 2) (by decide +kernel) rfl (by decide) (by decide) rfl rfl (Nat.le_of_ble_eq_true rfl) dX1_isDriverFit_17 ?_
    refine v_aload_n C dX1_isDriverFit_20 rfl ?_
    refine vR_cI C (by omega) (k_X0_length l G cy ad x r (by omega)) rfl gX1_isDriverFit_X0_length (nA := 0) (by decide +kernel) rfl (by decide) (by decide) rfl rfl (Nat.le_of_ble_eq_true rfl) dX1_isDriverFit_21 ?_
    refine v_iadd C dX1_isDriverFit_24 ?_
    refine v_sipush C (480) dX1_isDriverFit_25 (by decide) ?_
    refine v_icmp_le C 33 dX1_isDriverFit_28 (by decide) (fun c2 => ?_) (fun c2 => ?_)
    · -- 28 t: ¬ 480 < ((fwork n x (nI d) (x 6 r / 1440)) + (x 7 r - x 6 r))
      refine v_iconst C (0) dX1_isDriverFit_33 (by decide) ?_
      refine v_istore C dX1_isDriverFit_34 (by decide) ?_
      refine V.loop (fun k : Nat => wD cy ad x) (fun k : Nat => ([some (.ref (ad 0)), some (.int (nI d)), some (.ref (ad (r + 8))), some (.int (x 6 r / 1440)), some (.int (nI k))] : List (Option Value))) (fun k : Nat => ∀ q, q < k → ¬ (works x q (nI d) (x 6 r / 1440) ∧ ¬ rested x q r)) n ?_ lt_0
      intro k hle_k hP_k ih_k
      try dsimp only at hP_k ih_k ⊢
      refine v_iload C dX1_isDriverFit_36 rfl ?_
      refine v_aload_n C dX1_isDriverFit_38 rfl ?_
      refine vD_g_runCount C hin1 (by decide +kernel) dX1_isDriverFit_39 ?_
      refine v_geN C k n 82 dX1_isDriverFit_42 (by decide) rfl hn (by omega) (by omega) (fun c3 => ?_) (fun c3 => ?_)
      · -- loop 36 is over
        have e_k : n = k := by omega
        subst e_k
        refine v_iconst C (1) dX1_isDriverFit_82 (by decide) ?_
        refine v_zret C rfl dX1_isDriverFit_83 ?_
        exact (b2i_t ⟨c1, c2, hP_k⟩).symm
      · have hk : k < n := c3
        refine v_aload_n C dX1_isDriverFit_45 rfl ?_
        refine vD_g_rows C hin1 (by decide +kernel) dX1_isDriverFit_46 ?_
        refine v_iload C dX1_isDriverFit_49 rfl ?_
        refine vD_aald C k rfl (by omega) dX1_isDriverFit_51 ?_
        refine v_iload_n C dX1_isDriverFit_52 rfl ?_
        refine v_iload_n C dX1_isDriverFit_53 rfl ?_
        refine vR_cI C (by omega) (k_X0_isWorkOf l G cy ad x k (by omega) (nI d) (x 6 r / 1440)) rfl gX1_isDriverFit_X0_isWorkOf (nA := 2) (by decide +kernel) rfl (by decide) (by decide) rfl rfl (Nat.le_of_ble_eq_true rfl) dX1_isDriverFit_54 ?_
        refine v_if_eq C 76 dX1_isDriverFit_57 (by decide) (fun c4 => ?_) (fun c4 => ?_)
        · -- 57 t: (b2i (works x k (nI d) (x 6 r / 1440))) = 0
          replace c4 := b2i_0.mp c4
          refine v_incN C dX1_isDriverFit_76 rfl (by decide) ?_
          refine v_goto C 36 dX1_isDriverFit_79 (by decide) ?_
          refine ih_k hk (lt_s hP_k ?_)
          simp [c1, c2, c4]
        · -- 57 f: not (b2i (works x k (nI d) (x 6 r / 1440))) = 0
          replace c4 := Classical.not_not.mp (fun z => c4 (b2i_0.mpr z))
          refine v_aload_n C dX1_isDriverFit_60 rfl ?_
          refine vD_g_rows C hin1 (by decide +kernel) dX1_isDriverFit_61 ?_
          refine v_iload C dX1_isDriverFit_64 rfl ?_
          refine vD_aald C k rfl (by omega) dX1_isDriverFit_66 ?_
          refine v_aload_n C dX1_isDriverFit_67 rfl ?_
          refine vR_cI C (by omega) (k_X0_isRestedFrom l G cy ad x k (by omega) r (by omega)) rfl gX1_isDriverFit_X0_isRestedFrom (nA := 1) (by decide +kernel) rfl (by decide) (by decide) rfl rfl (Nat.le_of_ble_eq_true rfl) dX1_isDriverFit_68 ?_
          refine v_if_ne C 76 dX1_isDriverFit_71 (by decide) (fun c5 => ?_) (fun c5 => ?_)
          · -- 71 t: ¬ (b2i (rested x k r)) = 0
            replace c5 := Classical.not_not.mp (fun z => c5 (b2i_0.mpr z))
            refine v_incN C dX1_isDriverFit_76 rfl (by decide) ?_
            refine v_goto C 36 dX1_isDriverFit_79 (by decide) ?_
            refine ih_k hk (lt_s hP_k ?_)
            simp [c1, c2, c4, c5]
          · -- 71 f: not ¬ (b2i (rested x k r)) = 0
            replace c5 := b2i_0.mp c5
            refine v_iconst C (0) dX1_isDriverFit_74 (by decide) ?_
            refine v_zret C rfl dX1_isDriverFit_75 ?_
            exact (b2i_f (fun h => h.2.2 k hk ⟨c4, c5⟩)).symm
    · -- 28 f: not ¬ 480 < ((fwork n x (nI d) (x 6 r / 1440)) + (x 7 r - x 6 r))
      refine v_iconst C (0) dX1_isDriverFit_31 (by decide) ?_
      refine v_zret C rfl dX1_isDriverFit_32 ?_
      exact (b2i_f (fun h => h.2.1 c2)).symm
set_option maxHeartbeats 4000000 in
set_option maxRecDepth 100000 in
/-- lowestFitBus(r) -/
theorem k_X1_lowestFitBus (l : Launch) (G : va_G) (cy : Nat → ClassId) (ad : Nat → Nat) (x : Sg) (n : Nat) (hn : x 1 0 = nI n) (h30 : n ≤ 30) (r : Nat) (hr : r < 30) : KI l G cy yX1_lowestFitBus wsX1_lowestFitBus 2 46 0 0 [.ref (ad 0), .ref (ad (r + 8))] (wD cy ad x) (lowbus n x r) (wD cy ad x) := by
  refine KI_of (own := RX1) (cc := cX1_lowestFitBus) (maxL := 3) (ret := (some .int)) (lo0 := [some (.ref (ad 0)), some (.ref (ad (r + 8))), none]) (by decide) rfl rfl (by simp [Value.category]) (Nat.le_of_ble_eq_true rfl) rfl (fun p e s m args below meth c A C => ?_)
  refine v_iconst C (0) dX1_lowestFitBus_0 (by decide) ?_
  refine v_istore_n C dX1_lowestFitBus_1 (by decide) ?_
  refine V.loop (fun k : Nat => wD cy ad x) (fun k : Nat => ([some (.ref (ad 0)), some (.ref (ad (r + 8))), some (.int (nI k))] : List (Option Value))) (fun k : Nat => lowbus n x r = lowF (fun b => busfit n x b r) (5 - k) k) 5 ?_ rfl
  intro k hle_k hP_k ih_k
  try dsimp only at hP_k ih_k ⊢
  refine v_iload_n C dX1_lowestFitBus_2 rfl ?_
  refine v_iconst C (5) dX1_lowestFitBus_3 (by decide) ?_
  refine v_geN C k 5 24 dX1_lowestFitBus_4 (by decide) rfl rfl (by omega) (by omega) (fun c1 => ?_) (fun c1 => ?_)
  · -- loop 2 is over
    have e_k : 5 = k := by omega
    subst e_k
    refine v_iconst C (-1) dX1_lowestFitBus_24 (by decide) ?_
    refine v_iret C dX1_lowestFitBus_25 ?_
    exact hP_k.symm
  · have hk : k < 5 := c1
    refine v_aload_n C dX1_lowestFitBus_7 rfl ?_
    refine v_iload_n C dX1_lowestFitBus_8 rfl ?_
    refine v_aload_n C dX1_lowestFitBus_9 rfl ?_
    refine vD_cI C (k_X1_isBusFit l G cy ad x n hn h30 k (by omega) r (by omega)) rfl gX1_lowestFitBus_X1_isBusFit (nA := 2) (by decide +kernel) rfl (by decide) (by decide) rfl rfl (Nat.le_of_ble_eq_true rfl) dX1_lowestFitBus_10 ?_
    refine v_if_eq C 18 dX1_lowestFitBus_13 (by decide) (fun c2 => ?_) (fun c2 => ?_)
    · -- 13 t: (b2i (busfit n x k r)) = 0
      replace c2 := b2i_0.mp c2
      refine v_incN C dX1_lowestFitBus_18 rfl (by decide) ?_
      refine v_goto C 2 dX1_lowestFitBus_21 (by decide) ?_
      refine ih_k hk (hP_k.trans ((lowF_s hk).trans (pif_f c2)))
    · -- 13 f: not (b2i (busfit n x k r)) = 0
      replace c2 := Classical.not_not.mp (fun z => c2 (b2i_0.mpr z))
      refine v_iload_n C dX1_lowestFitBus_16 rfl ?_
      refine v_iret C dX1_lowestFitBus_17 ?_
      exact (hP_k.trans ((lowF_s hk).trans (pif_t c2))).symm
set_option maxHeartbeats 4000000 in
set_option maxRecDepth 100000 in
/-- lowestFitDriver(r) -/
theorem k_X1_lowestFitDriver (l : Launch) (G : va_G) (cy : Nat → ClassId) (ad : Nat → Nat) (x : Sg) (n : Nat) (hn : x 1 0 = nI n) (h30 : n ≤ 30) (r : Nat) (hr : r < 30) : KI l G cy yX1_lowestFitDriver wsX1_lowestFitDriver 4 90 0 0 [.ref (ad 0), .ref (ad (r + 8))] (wD cy ad x) (lowdrv n x r) (wD cy ad x) := by
  refine KI_of (own := RX1) (cc := cX1_lowestFitDriver) (maxL := 3) (ret := (some .int)) (lo0 := [some (.ref (ad 0)), some (.ref (ad (r + 8))), none]) (by decide) rfl rfl (by simp [Value.category]) (Nat.le_of_ble_eq_true rfl) rfl (fun p e s m args below meth c A C => ?_)
  refine v_iconst C (0) dX1_lowestFitDriver_0 (by decide) ?_
  refine v_istore_n C dX1_lowestFitDriver_1 (by decide) ?_
  refine V.loop (fun k : Nat => wD cy ad x) (fun k : Nat => ([some (.ref (ad 0)), some (.ref (ad (r + 8))), some (.int (nI k))] : List (Option Value))) (fun k : Nat => lowdrv n x r = lowF (fun b => drvfit n x b r) (5 - k) k) 5 ?_ rfl
  intro k hle_k hP_k ih_k
  try dsimp only at hP_k ih_k ⊢
  refine v_iload_n C dX1_lowestFitDriver_2 rfl ?_
  refine v_iconst C (5) dX1_lowestFitDriver_3 (by decide) ?_
  refine v_geN C k 5 24 dX1_lowestFitDriver_4 (by decide) rfl rfl (by omega) (by omega) (fun c1 => ?_) (fun c1 => ?_)
  · -- loop 2 is over
    have e_k : 5 = k := by omega
    subst e_k
    refine v_iconst C (-1) dX1_lowestFitDriver_24 (by decide) ?_
    refine v_iret C dX1_lowestFitDriver_25 ?_
    exact hP_k.symm
  · have hk : k < 5 := c1
    refine v_aload_n C dX1_lowestFitDriver_7 rfl ?_
    refine v_iload_n C dX1_lowestFitDriver_8 rfl ?_
    refine v_aload_n C dX1_lowestFitDriver_9 rfl ?_
    refine vD_cI C (k_X1_isDriverFit l G cy ad x n hn h30 k (by omega) r (by omega)) rfl gX1_lowestFitDriver_X1_isDriverFit (nA := 2) (by decide +kernel) rfl (by decide) (by decide) rfl rfl (Nat.le_of_ble_eq_true rfl) dX1_lowestFitDriver_10 ?_
    refine v_if_eq C 18 dX1_lowestFitDriver_13 (by decide) (fun c2 => ?_) (fun c2 => ?_)
    · -- 13 t: (b2i (drvfit n x k r)) = 0
      replace c2 := b2i_0.mp c2
      refine v_incN C dX1_lowestFitDriver_18 rfl (by decide) ?_
      refine v_goto C 2 dX1_lowestFitDriver_21 (by decide) ?_
      refine ih_k hk (hP_k.trans ((lowF_s hk).trans (pif_f c2)))
    · -- 13 f: not (b2i (drvfit n x k r)) = 0
      replace c2 := Classical.not_not.mp (fun z => c2 (b2i_0.mpr z))
      refine v_iload_n C dX1_lowestFitDriver_16 rfl ?_
      refine v_iret C dX1_lowestFitDriver_17 ?_
      exact (hP_k.trans ((lowF_s hk).trans (pif_t c2))).symm
set_option maxHeartbeats 4000000 in
set_option maxRecDepth 100000 in
/-- giveOtherBus(r) -/
theorem k_X1_giveOtherBus (l : Launch) (G : va_G) (cy : Nat → ClassId) (ad : Nat → Nat) (x : Sg) (n : Nat) (hn : x 1 0 = nI n) (h30 : n ≤ 30) (r : Nat) (hr : r < 30) : KV l G cy yX1_giveOtherBus wsX1_giveOtherBus 3 68 0 0 [.ref (ad 0), .ref (ad (r + 8))] (wD cy ad x) (wD cy ad (fgiveb n x r)) := by
  have hin0 : ∀ q ∈ u_ws RX0 TX0 6, q ∈ wsX1_giveOtherBus := by decide +kernel
  have hn1 : (su x 10 r (-1)) 1 0 = nI n := by rw [su_f _ _ _ _ (by decide)]; exact hn
  refine KV_of (own := RX1) (cc := cX1_giveOtherBus) (maxL := 3) (ret := none) (lo0 := [some (.ref (ad 0)), some (.ref (ad (r + 8))), none]) (by decide) rfl rfl (by simp [Value.category]) (Nat.le_of_ble_eq_true rfl) rfl (fun p e s m args below meth c A _ C => ?_)
  refine v_aload_n C dX1_giveOtherBus_0 rfl ?_
  refine v_iconst C (-1) dX1_giveOtherBus_1 (by decide) ?_
  refine vR_p_bus C hin0 (by omega) (by decide +kernel) dX1_giveOtherBus_2 ?_
  refine v_aload_n C dX1_giveOtherBus_5 rfl ?_
  refine v_aload_n C dX1_giveOtherBus_6 rfl ?_
  refine vD_cI C (k_X1_lowestFitBus l G cy ad (su x 10 r (-1)) n hn1 h30 r (by omega)) rfl gX1_giveOtherBus_X1_lowestFitBus (nA := 1) (by decide +kernel) rfl (by decide) (by decide) rfl rfl (Nat.le_of_ble_eq_true rfl) dX1_giveOtherBus_7 ?_
  refine v_istore_n C dX1_giveOtherBus_10 (by decide) ?_
  refine v_iload_n C dX1_giveOtherBus_11 rfl ?_
  refine v_iconst C (-1) dX1_giveOtherBus_12 (by decide) ?_
  refine v_icmp_ne C 24 dX1_giveOtherBus_13 (by decide) (fun c1 => ?_) (fun c1 => ?_)
  · -- 13 t: ¬ (lowbus n (su x 10 r (-1)) r) = (-1)
    refine v_aload_n C dX1_giveOtherBus_24 rfl ?_
    refine v_iload_n C dX1_giveOtherBus_25 rfl ?_
    refine vR_p_bus C hin0 (by omega) (by decide +kernel) dX1_giveOtherBus_26 ?_
    refine v_aload_n C dX1_giveOtherBus_29 rfl ?_
    refine v_iload_n C dX1_giveOtherBus_30 rfl ?_
    refine v_aload_n C dX1_giveOtherBus_31 rfl ?_
    refine vR_g_need C hin0 (by omega) (by decide +kernel) dX1_giveOtherBus_32 ?_
    refine vD_cV C (k_X1_sendOut l G cy ad (su (su x 10 r (-1)) 10 r (lowbus n (su x 10 r (-1)) r)) (lowbus n (su x 10 r (-1)) r) ((su (su x 10 r (-1)) 10 r (lowbus n (su x 10 r (-1)) r)) 8 r)) rfl gX1_giveOtherBus_X1_sendOut (nA := 2) (by decide +kernel) rfl (by decide) (by decide) rfl rfl (Nat.le_of_ble_eq_true rfl) dX1_giveOtherBus_35 ?_
    have e : fgiveb n x r = fsend (su (su x 10 r (-1)) 10 r (lowbus n (su x 10 r (-1)) r)) (lowbus n (su x 10 r (-1)) r) ((su (su x 10 r (-1)) 10 r (lowbus n (su x 10 r (-1)) r)) 8 r) := by simp [fgiveb, su_f, su_s, pif, c1]
    rw [e]
    exact v_vret C dX1_giveOtherBus_38
  · -- 13 f: not ¬ (lowbus n (su x 10 r (-1)) r) = (-1)
    refine v_aload_n C dX1_giveOtherBus_16 rfl ?_
    refine v_iconst C (4) dX1_giveOtherBus_17 (by decide) ?_
    refine vR_cV C (by omega) (k_X0_drop l G cy ad (su x 10 r (-1)) r (by omega) 4) rfl gX1_giveOtherBus_X0_drop (nA := 1) (by decide +kernel) rfl (by decide) (by decide) rfl rfl (Nat.le_of_ble_eq_true rfl) dX1_giveOtherBus_18 ?_
    refine v_goto C 38 dX1_giveOtherBus_21 (by decide) ?_
    have e : fgiveb n x r = fdrop (su x 10 r (-1)) r 4 := by simp [fgiveb, su_f, su_s, pif, c1]
    rw [e]
    exact v_vret C dX1_giveOtherBus_38
set_option maxHeartbeats 4000000 in
set_option maxRecDepth 100000 in
/-- giveOtherDriver(r) -/
theorem k_X1_giveOtherDriver (l : Launch) (G : va_G) (cy : Nat → ClassId) (ad : Nat → Nat) (x : Sg) (n : Nat) (hn : x 1 0 = nI n) (h30 : n ≤ 30) (r : Nat) (hr : r < 30) : KV l G cy yX1_giveOtherDriver wsX1_giveOtherDriver 5 112 0 0 [.ref (ad 0), .ref (ad (r + 8))] (wD cy ad x) (wD cy ad (fgived n x r)) := by
  have hin0 : ∀ q ∈ u_ws RX0 TX0 6, q ∈ wsX1_giveOtherDriver := by decide +kernel
  have hn1 : (su x 11 r (-1)) 1 0 = nI n := by rw [su_f _ _ _ _ (by decide)]; exact hn
  refine KV_of (own := RX1) (cc := cX1_giveOtherDriver) (maxL := 3) (ret := none) (lo0 := [some (.ref (ad 0)), some (.ref (ad (r + 8))), none]) (by decide) rfl rfl (by simp [Value.category]) (Nat.le_of_ble_eq_true rfl) rfl (fun p e s m args below meth c A _ C => ?_)
  refine v_aload_n C dX1_giveOtherDriver_0 rfl ?_
  refine v_iconst C (-1) dX1_giveOtherDriver_1 (by decide) ?_
  refine vR_p_driver C hin0 (by omega) (by decide +kernel) dX1_giveOtherDriver_2 ?_
  refine v_aload_n C dX1_giveOtherDriver_5 rfl ?_
  refine v_aload_n C dX1_giveOtherDriver_6 rfl ?_
  refine vD_cI C (k_X1_lowestFitDriver l G cy ad (su x 11 r (-1)) n hn1 h30 r (by omega)) rfl gX1_giveOtherDriver_X1_lowestFitDriver (nA := 1) (by decide +kernel) rfl (by decide) (by decide) rfl rfl (Nat.le_of_ble_eq_true rfl) dX1_giveOtherDriver_7 ?_
  refine v_istore_n C dX1_giveOtherDriver_10 (by decide) ?_
  refine v_iload_n C dX1_giveOtherDriver_11 rfl ?_
  refine v_iconst C (-1) dX1_giveOtherDriver_12 (by decide) ?_
  refine v_icmp_ne C 24 dX1_giveOtherDriver_13 (by decide) (fun c1 => ?_) (fun c1 => ?_)
  · -- 13 t: ¬ (lowdrv n (su x 11 r (-1)) r) = (-1)
    refine v_aload_n C dX1_giveOtherDriver_24 rfl ?_
    refine v_iload_n C dX1_giveOtherDriver_25 rfl ?_
    refine vR_p_driver C hin0 (by omega) (by decide +kernel) dX1_giveOtherDriver_26 ?_
    have e : fgived n x r = su (su x 11 r (-1)) 11 r (lowdrv n (su x 11 r (-1)) r) := by simp [fgived, su_f, su_s, pif, c1]
    rw [e]
    exact v_vret C dX1_giveOtherDriver_29
  · -- 13 f: not ¬ (lowdrv n (su x 11 r (-1)) r) = (-1)
    refine v_aload_n C dX1_giveOtherDriver_16 rfl ?_
    refine v_iconst C (4) dX1_giveOtherDriver_17 (by decide) ?_
    refine vR_cV C (by omega) (k_X0_drop l G cy ad (su x 11 r (-1)) r (by omega) 4) rfl gX1_giveOtherDriver_X0_drop (nA := 1) (by decide +kernel) rfl (by decide) (by decide) rfl rfl (Nat.le_of_ble_eq_true rfl) dX1_giveOtherDriver_18 ?_
    refine v_goto C 29 dX1_giveOtherDriver_21 (by decide) ?_
    have e : fgived n x r = fdrop (su x 11 r (-1)) r 4 := by simp [fgived, su_f, su_s, pif, c1]
    rw [e]
    exact v_vret C dX1_giveOtherDriver_29
set_option maxHeartbeats 4000000 in
set_option maxRecDepth 100000 in
/-- swapBus(b) -/
theorem k_X1_swapBus (l : Launch) (G : va_G) (cy : Nat → ClassId) (ad : Nat → Nat) (x : Sg) (n : Nat) (hn : x 1 0 = nI n) (h30 : n ≤ 30) (b : Int32) : KV l G cy yX1_swapBus wsX1_swapBus 4 90 0 0 [.ref (ad 0), .int b] (wD cy ad x) (wD cy ad (it (sswapb n b) n x)) := by
  have hin1 : ∀ q ∈ u_ws RX1 TX1 12, q ∈ wsX1_swapBus := by decide +kernel
  have hin0 : ∀ q ∈ u_ws RX0 TX0 6, q ∈ wsX1_swapBus := by decide +kernel
  refine KV_of (own := RX1) (cc := cX1_swapBus) (maxL := 3) (ret := none) (lo0 := [some (.ref (ad 0)), some (.int b), none]) (by decide) rfl rfl (by simp [Value.category]) (Nat.le_of_ble_eq_true rfl) rfl (fun p e s m args below meth c A _ C => ?_)
  refine v_iconst C (0) dX1_swapBus_0 (by decide) ?_
  refine v_istore_n C dX1_swapBus_1 (by decide) ?_
  refine V.loop (fun k : Nat => wD cy ad (it (sswapb n b) k x)) (fun k : Nat => ([some (.ref (ad 0)), some (.int b), some (.int (nI k))] : List (Option Value))) (fun k : Nat => True) n ?_ trivial
  intro k hle_k hP_k ih_k
  try dsimp only at hP_k ih_k ⊢
  have hn_k : it (sswapb n b) k x 1 0 = nI n := (it_f (fun c y => sswapb_f n b c y (by decide) (by decide) (by decide) (by decide) (by decide)) k x).trans hn
  refine v_iload_n C dX1_swapBus_2 rfl ?_
  refine v_aload_n C dX1_swapBus_3 rfl ?_
  refine vD_g_runCount C hin1 (by decide +kernel) dX1_swapBus_4 ?_
  refine v_geN C k n 52 dX1_swapBus_7 (by decide) rfl hn_k (by omega) (by omega) (fun c1 => ?_) (fun c1 => ?_)
  · -- loop 2 is over
    have e_k : n = k := by omega
    subst e_k
    exact v_vret C dX1_swapBus_52
  · have hk : k < n := c1
    refine v_aload_n C dX1_swapBus_10 rfl ?_
    refine vD_g_rows C hin1 (by decide +kernel) dX1_swapBus_11 ?_
    refine v_iload_n C dX1_swapBus_14 rfl ?_
    refine vD_aald C k rfl (by omega) dX1_swapBus_15 ?_
    refine vR_g_state C hin0 (by omega) (by decide +kernel) dX1_swapBus_16 ?_
    refine v_iconst C (2) dX1_swapBus_19 (by decide) ?_
    refine v_icmp_ne C 46 dX1_swapBus_20 (by decide) (fun c2 => ?_) (fun c2 => ?_)
    · -- 20 t: ¬ ((it (sswapb n b) k x) 9 k) = 2
      refine v_incN C dX1_swapBus_46 rfl (by decide) ?_
      refine v_goto C 2 dX1_swapBus_49 (by decide) ?_
      have q := ih_k hk trivial
      have e : it (sswapb n b) (k + 1) x = it (sswapb n b) k x := by
        show sswapb n b k (it (sswapb n b) k x) = it (sswapb n b) k x
        simp [sswapb, pif, c2]
      rw [e] at q
      exact q
    · -- 20 f: not ¬ ((it (sswapb n b) k x) 9 k) = 2
      refine v_aload_n C dX1_swapBus_23 rfl ?_
      refine vD_g_rows C hin1 (by decide +kernel) dX1_swapBus_24 ?_
      refine v_iload_n C dX1_swapBus_27 rfl ?_
      refine vD_aald C k rfl (by omega) dX1_swapBus_28 ?_
      refine vR_g_bus C hin0 (by omega) (by decide +kernel) dX1_swapBus_29 ?_
      refine v_iload_n C dX1_swapBus_32 rfl ?_
      refine v_icmp_ne C 46 dX1_swapBus_33 (by decide) (fun c3 => ?_) (fun c3 => ?_)
      · -- 33 t: ¬ ((it (sswapb n b) k x) 10 k) = b
        refine v_incN C dX1_swapBus_46 rfl (by decide) ?_
        refine v_goto C 2 dX1_swapBus_49 (by decide) ?_
        have q := ih_k hk trivial
        have e : it (sswapb n b) (k + 1) x = it (sswapb n b) k x := by
          show sswapb n b k (it (sswapb n b) k x) = it (sswapb n b) k x
          simp [sswapb, pif, c2, c3]
        rw [e] at q
        exact q
      · -- 33 f: not ¬ ((it (sswapb n b) k x) 10 k) = b
        refine v_aload_n C dX1_swapBus_36 rfl ?_
        refine v_aload_n C dX1_swapBus_37 rfl ?_
        refine vD_g_rows C hin1 (by decide +kernel) dX1_swapBus_38 ?_
        refine v_iload_n C dX1_swapBus_41 rfl ?_
        refine vD_aald C k rfl (by omega) dX1_swapBus_42 ?_
        refine vD_cV C (k_X1_giveOtherBus l G cy ad (it (sswapb n b) k x) n hn_k h30 k (by omega)) rfl gX1_swapBus_X1_giveOtherBus (nA := 1) (by decide +kernel) rfl (by decide) (by decide) rfl rfl (Nat.le_of_ble_eq_true rfl) dX1_swapBus_43 ?_
        refine v_incN C dX1_swapBus_46 rfl (by decide) ?_
        refine v_goto C 2 dX1_swapBus_49 (by decide) ?_
        have q := ih_k hk trivial
        have e : it (sswapb n b) (k + 1) x = fgiveb n (it (sswapb n b) k x) k := by
          show sswapb n b k (it (sswapb n b) k x) = fgiveb n (it (sswapb n b) k x) k
          simp [sswapb, pif, c2, c3]
        rw [e] at q
        exact q
set_option maxHeartbeats 4000000 in
set_option maxRecDepth 100000 in
/-- swapDriver(b) -/
theorem k_X1_swapDriver (l : Launch) (G : va_G) (cy : Nat → ClassId) (ad : Nat → Nat) (x : Sg) (n : Nat) (hn : x 1 0 = nI n) (h30 : n ≤ 30) (b : Int32) : KV l G cy yX1_swapDriver wsX1_swapDriver 6 134 0 0 [.ref (ad 0), .int b] (wD cy ad x) (wD cy ad (it (sswapd n b) n x)) := by
  have hin1 : ∀ q ∈ u_ws RX1 TX1 12, q ∈ wsX1_swapDriver := by decide +kernel
  have hin0 : ∀ q ∈ u_ws RX0 TX0 6, q ∈ wsX1_swapDriver := by decide +kernel
  refine KV_of (own := RX1) (cc := cX1_swapDriver) (maxL := 3) (ret := none) (lo0 := [some (.ref (ad 0)), some (.int b), none]) (by decide) rfl rfl (by simp [Value.category]) (Nat.le_of_ble_eq_true rfl) rfl (fun p e s m args below meth c A _ C => ?_)
  refine v_iconst C (0) dX1_swapDriver_0 (by decide) ?_
  refine v_istore_n C dX1_swapDriver_1 (by decide) ?_
  refine V.loop (fun k : Nat => wD cy ad (it (sswapd n b) k x)) (fun k : Nat => ([some (.ref (ad 0)), some (.int b), some (.int (nI k))] : List (Option Value))) (fun k : Nat => True) n ?_ trivial
  intro k hle_k hP_k ih_k
  try dsimp only at hP_k ih_k ⊢
  have hn_k : it (sswapd n b) k x 1 0 = nI n := (it_f (fun c y => sswapd_f n b c y (by decide) (by decide) (by decide)) k x).trans hn
  refine v_iload_n C dX1_swapDriver_2 rfl ?_
  refine v_aload_n C dX1_swapDriver_3 rfl ?_
  refine vD_g_runCount C hin1 (by decide +kernel) dX1_swapDriver_4 ?_
  refine v_geN C k n 52 dX1_swapDriver_7 (by decide) rfl hn_k (by omega) (by omega) (fun c1 => ?_) (fun c1 => ?_)
  · -- loop 2 is over
    have e_k : n = k := by omega
    subst e_k
    exact v_vret C dX1_swapDriver_52
  · have hk : k < n := c1
    refine v_aload_n C dX1_swapDriver_10 rfl ?_
    refine vD_g_rows C hin1 (by decide +kernel) dX1_swapDriver_11 ?_
    refine v_iload_n C dX1_swapDriver_14 rfl ?_
    refine vD_aald C k rfl (by omega) dX1_swapDriver_15 ?_
    refine vR_g_state C hin0 (by omega) (by decide +kernel) dX1_swapDriver_16 ?_
    refine v_iconst C (2) dX1_swapDriver_19 (by decide) ?_
    refine v_icmp_ne C 46 dX1_swapDriver_20 (by decide) (fun c2 => ?_) (fun c2 => ?_)
    · -- 20 t: ¬ ((it (sswapd n b) k x) 9 k) = 2
      refine v_incN C dX1_swapDriver_46 rfl (by decide) ?_
      refine v_goto C 2 dX1_swapDriver_49 (by decide) ?_
      have q := ih_k hk trivial
      have e : it (sswapd n b) (k + 1) x = it (sswapd n b) k x := by
        show sswapd n b k (it (sswapd n b) k x) = it (sswapd n b) k x
        simp [sswapd, pif, c2]
      rw [e] at q
      exact q
    · -- 20 f: not ¬ ((it (sswapd n b) k x) 9 k) = 2
      refine v_aload_n C dX1_swapDriver_23 rfl ?_
      refine vD_g_rows C hin1 (by decide +kernel) dX1_swapDriver_24 ?_
      refine v_iload_n C dX1_swapDriver_27 rfl ?_
      refine vD_aald C k rfl (by omega) dX1_swapDriver_28 ?_
      refine vR_g_driver C hin0 (by omega) (by decide +kernel) dX1_swapDriver_29 ?_
      refine v_iload_n C dX1_swapDriver_32 rfl ?_
      refine v_icmp_ne C 46 dX1_swapDriver_33 (by decide) (fun c3 => ?_) (fun c3 => ?_)
      · -- 33 t: ¬ ((it (sswapd n b) k x) 11 k) = b
        refine v_incN C dX1_swapDriver_46 rfl (by decide) ?_
        refine v_goto C 2 dX1_swapDriver_49 (by decide) ?_
        have q := ih_k hk trivial
        have e : it (sswapd n b) (k + 1) x = it (sswapd n b) k x := by
          show sswapd n b k (it (sswapd n b) k x) = it (sswapd n b) k x
          simp [sswapd, pif, c2, c3]
        rw [e] at q
        exact q
      · -- 33 f: not ¬ ((it (sswapd n b) k x) 11 k) = b
        refine v_aload_n C dX1_swapDriver_36 rfl ?_
        refine v_aload_n C dX1_swapDriver_37 rfl ?_
        refine vD_g_rows C hin1 (by decide +kernel) dX1_swapDriver_38 ?_
        refine v_iload_n C dX1_swapDriver_41 rfl ?_
        refine vD_aald C k rfl (by omega) dX1_swapDriver_42 ?_
        refine vD_cV C (k_X1_giveOtherDriver l G cy ad (it (sswapd n b) k x) n hn_k h30 k (by omega)) rfl gX1_swapDriver_X1_giveOtherDriver (nA := 1) (by decide +kernel) rfl (by decide) (by decide) rfl rfl (Nat.le_of_ble_eq_true rfl) dX1_swapDriver_43 ?_
        refine v_incN C dX1_swapDriver_46 rfl (by decide) ?_
        refine v_goto C 2 dX1_swapDriver_49 (by decide) ?_
        have q := ih_k hk trivial
        have e : it (sswapd n b) (k + 1) x = fgived n (it (sswapd n b) k x) k := by
          show sswapd n b k (it (sswapd n b) k x) = fgived n (it (sswapd n b) k x) k
          simp [sswapd, pif, c2, c3]
        rw [e] at q
        exact q
def canord (n : Nat) (x : Sg) (r b d : Nat) : Prop := x 9 r = 0 ∧ x 0 0 < x 6 r ∧ busfit n x b r ∧ drvfit n x d r
set_option maxHeartbeats 4000000 in
set_option maxRecDepth 100000 in
/-- canBeOrdered(r, b, d) -/
theorem k_X1_canBeOrdered (l : Launch) (G : va_G) (cy : Nat → ClassId) (ad : Nat → Nat) (x : Sg) (n : Nat) (hn : x 1 0 = nI n) (h30 : n ≤ 30) (r : Nat) (hr : r < 30) (b : Nat) (hb : b < 5) (d : Nat) (hd5 : d < 5) : KI l G cy yX1_canBeOrdered wsX1_canBeOrdered 4 90 0 0 [.ref (ad 0), .ref (ad (r + 8)), .int (nI b), .int (nI d)] (wD cy ad x) (b2i (canord n x r b d)) (wD cy ad x) := by
  have hin1 : ∀ q ∈ u_ws RX1 TX1 12, q ∈ wsX1_canBeOrdered := by decide +kernel
  have hin0 : ∀ q ∈ u_ws RX0 TX0 6, q ∈ wsX1_canBeOrdered := by decide +kernel
  refine KI_of (own := RX1) (cc := cX1_canBeOrdered) (maxL := 4) (ret := (some .boolean)) (lo0 := [some (.ref (ad 0)), some (.ref (ad (r + 8))), some (.int (nI b)), some (.int (nI d))]) (by decide) rfl rfl (by simp [Value.category]) (Nat.le_of_ble_eq_true rfl) rfl (fun p e s m args below meth c A C => ?_)
  refine v_aload_n C dX1_canBeOrdered_0 rfl ?_
  refine vR_g_state C hin0 (by omega) (by decide +kernel) dX1_canBeOrdered_1 ?_
  refine v_if_ne C 40 dX1_canBeOrdered_4 (by decide) (fun c1 => ?_) (fun c1 => ?_)
  · -- 4 t: ¬ (x 9 r) = 0
    refine v_iconst C (0) dX1_canBeOrdered_40 (by decide) ?_
    refine v_zret C rfl dX1_canBeOrdered_41 ?_
    exact (b2i_f (fun h => c1 h.1)).symm
  · -- 4 f: not ¬ (x 9 r) = 0
    refine v_aload_n C dX1_canBeOrdered_7 rfl ?_
    refine vR_g_start C hin0 (by omega) (by decide +kernel) dX1_canBeOrdered_8 ?_
    refine v_aload_n C dX1_canBeOrdered_11 rfl ?_
    refine vD_g_minute C hin1 (by decide +kernel) dX1_canBeOrdered_12 ?_
    refine v_icmp_le C 40 dX1_canBeOrdered_15 (by decide) (fun c2 => ?_) (fun c2 => ?_)
    · -- 15 t: ¬ (x 0 0) < (x 6 r)
      refine v_iconst C (0) dX1_canBeOrdered_40 (by decide) ?_
      refine v_zret C rfl dX1_canBeOrdered_41 ?_
      exact (b2i_f (fun h => c2 h.2.1)).symm
    · -- 15 f: not ¬ (x 0 0) < (x 6 r)
      refine v_aload_n C dX1_canBeOrdered_18 rfl ?_
      refine v_iload_n C dX1_canBeOrdered_19 rfl ?_
      refine v_aload_n C dX1_canBeOrdered_20 rfl ?_
      refine vD_cI C (k_X1_isBusFit l G cy ad x n hn h30 b (by omega) r (by omega)) rfl gX1_canBeOrdered_X1_isBusFit (nA := 2) (by decide +kernel) rfl (by decide) (by decide) rfl rfl (Nat.le_of_ble_eq_true rfl) dX1_canBeOrdered_21 ?_
      refine v_if_eq C 40 dX1_canBeOrdered_24 (by decide) (fun c3 => ?_) (fun c3 => ?_)
      · -- 24 t: (b2i (busfit n x b r)) = 0
        replace c3 := b2i_0.mp c3
        refine v_iconst C (0) dX1_canBeOrdered_40 (by decide) ?_
        refine v_zret C rfl dX1_canBeOrdered_41 ?_
        exact (b2i_f (fun h => c3 h.2.2.1)).symm
      · -- 24 f: not (b2i (busfit n x b r)) = 0
        replace c3 := Classical.not_not.mp (fun z => c3 (b2i_0.mpr z))
        refine v_aload_n C dX1_canBeOrdered_27 rfl ?_
        refine v_iload_n C dX1_canBeOrdered_28 rfl ?_
        refine v_aload_n C dX1_canBeOrdered_29 rfl ?_
        refine vD_cI C (k_X1_isDriverFit l G cy ad x n hn h30 d (by omega) r (by omega)) rfl gX1_canBeOrdered_X1_isDriverFit (nA := 2) (by decide +kernel) rfl (by decide) (by decide) rfl rfl (Nat.le_of_ble_eq_true rfl) dX1_canBeOrdered_30 ?_
        refine v_if_eq C 40 dX1_canBeOrdered_33 (by decide) (fun c4 => ?_) (fun c4 => ?_)
        · -- 33 t: (b2i (drvfit n x d r)) = 0
          replace c4 := b2i_0.mp c4
          refine v_iconst C (0) dX1_canBeOrdered_40 (by decide) ?_
          refine v_zret C rfl dX1_canBeOrdered_41 ?_
          exact (b2i_f (fun h => c4 h.2.2.2)).symm
        · -- 33 f: not (b2i (drvfit n x d r)) = 0
          replace c4 := Classical.not_not.mp (fun z => c4 (b2i_0.mpr z))
          refine v_iconst C (1) dX1_canBeOrdered_36 (by decide) ?_
          refine v_goto C 41 dX1_canBeOrdered_37 (by decide) ?_
          refine v_zret C rfl dX1_canBeOrdered_41 ?_
          exact (b2i_t ⟨c1, c2, c3, c4⟩).symm
def fwrite (x : Sg) (om mk : Nat) (en : Int32) : Sg := su (su (su x 16 om en) 17 mk (x 2 0)) 2 0 (x 2 0 + 1)
set_option maxHeartbeats 4000000 in
set_option maxRecDepth 100000 in
/-- write(mark, entry) -/
theorem k_X1_write (l : Launch) (G : va_G) (cy : Nat → ClassId) (ad : Nat → Nat) (x : Sg) (om : Nat) (hom : x 2 0 = nI om) (hom1 : om < 1000) (mk : Nat) (hmk : mk < 1000) (en : Int32) : KI l G cy yX1_write wsX1_write 0 0 0 0 [.ref (ad 0), .int (nI mk), .int en] (wD cy ad x) (x 2 0) (wD cy ad (fwrite x om mk en)) := by
  have hin1 : ∀ q ∈ u_ws RX1 TX1 12, q ∈ wsX1_write := by decide +kernel
  refine KI_of (own := RX1) (cc := cX1_write) (maxL := 4) (ret := (some .int)) (lo0 := [some (.ref (ad 0)), some (.int (nI mk)), some (.int en), none]) (by decide) rfl rfl (by simp [Value.category]) (Nat.le_of_ble_eq_true rfl) rfl (fun p e s m args below meth c A C => ?_)
  refine v_aload_n C dX1_write_0 rfl ?_
  refine vD_g_orderCount C hin1 (by decide +kernel) dX1_write_1 ?_
  refine v_istore_n C dX1_write_4 (by decide) ?_
  refine v_iload_n C dX1_write_5 rfl ?_
  refine v_sipush C (1000) dX1_write_6 (by decide) ?_
  refine v_icmp_ge C 36 dX1_write_9 (by decide) (fun c1 => ?_) (fun c1 => ?_)
  · -- 9 t: ¬ (x 2 0) < 1000
    exact absurd ((nI_ltI (by omega) (by decide)).mpr hom1 : nI om < nI 1000) (by rw [← hom]; exact c1)
  · -- 9 f: not ¬ (x 2 0) < 1000
    refine v_aload_n C dX1_write_12 rfl ?_
    refine vD_g_log C hin1 (by decide +kernel) dX1_write_13 ?_
    refine v_iload_n C dX1_write_16 rfl ?_
    refine v_iload_n C dX1_write_17 rfl ?_
    refine vD_s_log C om hom (by omega) dX1_write_18 ?_
    refine v_aload_n C dX1_write_19 rfl ?_
    refine vD_g_numberOfMark C hin1 (by decide +kernel) dX1_write_20 ?_
    refine v_iload_n C dX1_write_23 rfl ?_
    refine v_iload_n C dX1_write_24 rfl ?_
    refine vD_s_numberOfMark C mk rfl (by omega) dX1_write_25 ?_
    refine v_aload_n C dX1_write_26 rfl ?_
    refine v_dup C dX1_write_27 rfl ?_
    refine vD_g_orderCount C hin1 (by decide +kernel) dX1_write_28 ?_
    refine v_iconst C (1) dX1_write_31 (by decide) ?_
    refine v_iadd C dX1_write_32 ?_
    refine vD_p_orderCount C hin1 (by decide +kernel) dX1_write_33 ?_
    refine v_iload_n C dX1_write_36 rfl ?_
    refine v_iret C dX1_write_37 ?_
    rfl
