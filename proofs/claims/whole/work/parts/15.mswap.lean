/-! DepotLogModel: order, breaks, ails -/
theorem s5_0 (x : Sg) (k : Nat) (v : Int32) : su x 5 0 v 0 k = x 0 k := rfl
theorem s5_6 (x : Sg) (k : Nat) (v : Int32) : su x 5 0 v 6 k = x 6 k := rfl
theorem s5_9 (x : Sg) (k : Nat) (v : Int32) : su x 5 0 v 9 k = x 9 k := rfl
theorem s5_17 (x : Sg) (k : Nat) (v : Int32) : su x 5 0 v 17 k = x 17 k := rfl
set_option maxHeartbeats 4000000 in
set_option maxRecDepth 100000 in
/-- order(dp, mk, r, b, d) -/
theorem k_X2_order (l : Launch) (G : va_G) (cy : Nat → ClassId) (am : Nat → Nat) (x : Sg) (n : Nat) (hn : x 1 0 = nI n) (h30 : n ≤ 30) (om : Nat) (hom : x 2 0 = nI om) (hom1 : om < 1000) (dp mk r b d : Int32) : KI l G cy yX2_order wsX2_order 2 48 0 0 [.ref (am 0), .int dp, .int mk, .int r, .int b, .int d] (wM cy am x) (pif (mcord n x dp mk r b d = 0) (rorder (su x 5 0 0) mk) 0) (wM cy am (mord n om x dp mk r b d)) := by
  have hin2 : ∀ q ∈ u_ws RX2 TX2 18, q ∈ wsX2_order := by decide +kernel
  refine KI_of (own := RX2) (cc := cX2_order) (maxL := 6) (ret := (some .int)) (lo0 := [some (.ref (am 0)), some (.int dp), some (.int mk), some (.int r), some (.int b), some (.int d)]) (by decide) rfl rfl (by simp [Value.category]) (Nat.le_of_ble_eq_true rfl) rfl (fun p e s m args below meth c A C => ?_)
  refine v_aload_n C dX2_order_0 rfl ?_
  refine v_iload_n C dX2_order_1 rfl ?_
  refine v_iconst C (0) dX2_order_2 (by decide) ?_
  refine v_iconst C (1) dX2_order_3 (by decide) ?_
  refine v_sI C (k_X2_in l G cy (wM cy am x) dp 0 1) rfl gX2_order_X2_in (nA := 3) (by decide +kernel) rfl (by decide) (by decide) rfl (Nat.le_of_ble_eq_true rfl) dX2_order_4 ?_
  refine v_if_eq C 34 dX2_order_7 (by decide) (fun c1 => ?_) (fun c1 => ?_)
  · -- 7 t: (b2i (inr 0 1 dp)) = 0
    replace c1 := b2i_0.mp c1
    refine v_iconst C (1) dX2_order_34 (by decide) ?_
    refine v_goto C 54 dX2_order_35 (by decide) ?_
    refine vM_p_thrown C hin2 (by decide +kernel) dX2_order_54 ?_
    refine v_aload_n C dX2_order_57 rfl ?_
    refine vM_g_thrown C hin2 (by decide +kernel) dX2_order_58 ?_
    refine V.es (st' := [.int 1]) (by rw [su_s]) ?_
    refine v_if_ne C 133 dX2_order_61 (by decide) (fun z => ?_) (fun z => absurd z (by decide))
    refine v_aload_n C dX2_order_133 rfl ?_
    refine vM_g_thrown C hin2 (by decide +kernel) dX2_order_134 ?_
    refine V.es (st' := [.int 1]) (by rw [su_s]) ?_
    refine v_if_le C 142 dX2_order_137 (by decide) (fun z => absurd z (by decide)) (fun z => ?_)
    refine v_iconst C (0) dX2_order_140 (by decide) ?_
    have e8 : mcord n x dp mk r b d = 1 := by simp [mcord, su_f, pif, c1]
    have e9 : mord n om x dp mk r b d = su x 5 0 1 := by simp [mord, e8, forder, fwrite, fgive, su_f, pif, c1]
    rw [e9, e8]
    refine v_iret C dX2_order_141 ?_
    simp [rorder, su_f, add1_1, pif, c1]
  · -- 7 f: not (b2i (inr 0 1 dp)) = 0
    replace c1 := Classical.not_not.mp (fun z => c1 (b2i_0.mpr z))
    refine v_aload_n C dX2_order_10 rfl ?_
    refine v_iload_n C dX2_order_11 rfl ?_
    refine vM_cI C (k_X2_isRun l G cy am x r) rfl gX2_order_X2_isRun (nA := 1) (by decide +kernel) rfl (by decide) (by decide) rfl rfl (Nat.le_of_ble_eq_true rfl) dX2_order_12 ?_
    refine v_if_eq C 34 dX2_order_15 (by decide) (fun c4 => ?_) (fun c4 => ?_)
    · -- 15 t: (b2i (inr 0 (x 1 0 - 1) r)) = 0
      replace c4 := b2i_0.mp c4
      refine v_iconst C (1) dX2_order_34 (by decide) ?_
      refine v_goto C 54 dX2_order_35 (by decide) ?_
      refine vM_p_thrown C hin2 (by decide +kernel) dX2_order_54 ?_
      refine v_aload_n C dX2_order_57 rfl ?_
      refine vM_g_thrown C hin2 (by decide +kernel) dX2_order_58 ?_
      refine V.es (st' := [.int 1]) (by rw [su_s]) ?_
      refine v_if_ne C 133 dX2_order_61 (by decide) (fun z => ?_) (fun z => absurd z (by decide))
      refine v_aload_n C dX2_order_133 rfl ?_
      refine vM_g_thrown C hin2 (by decide +kernel) dX2_order_134 ?_
      refine V.es (st' := [.int 1]) (by rw [su_s]) ?_
      refine v_if_le C 142 dX2_order_137 (by decide) (fun z => absurd z (by decide)) (fun z => ?_)
      refine v_iconst C (0) dX2_order_140 (by decide) ?_
      have e8 : mcord n x dp mk r b d = 1 := by simp [mcord, su_f, pif, c1, c4]
      have e9 : mord n om x dp mk r b d = su x 5 0 1 := by simp [mord, e8, forder, fwrite, fgive, su_f, pif, c1, c4]
      rw [e9, e8]
      refine v_iret C dX2_order_141 ?_
      simp [rorder, su_f, add1_1, pif, c1, c4]
    · -- 15 f: not (b2i (inr 0 (x 1 0 - 1) r)) = 0
      replace c4 := Classical.not_not.mp (fun z => c4 (b2i_0.mpr z))
      refine v_iload C dX2_order_18 rfl ?_
      refine v_sI C (k_X2_isBus l G cy (wM cy am x) b) rfl gX2_order_X2_isBus (nA := 1) (by decide +kernel) rfl (by decide) (by decide) rfl (Nat.le_of_ble_eq_true rfl) dX2_order_20 ?_
      refine v_if_eq C 34 dX2_order_23 (by decide) (fun c7 => ?_) (fun c7 => ?_)
      · -- 23 t: (b2i (inr 0 4 b)) = 0
        replace c7 := b2i_0.mp c7
        refine v_iconst C (1) dX2_order_34 (by decide) ?_
        refine v_goto C 54 dX2_order_35 (by decide) ?_
        refine vM_p_thrown C hin2 (by decide +kernel) dX2_order_54 ?_
        refine v_aload_n C dX2_order_57 rfl ?_
        refine vM_g_thrown C hin2 (by decide +kernel) dX2_order_58 ?_
        refine V.es (st' := [.int 1]) (by rw [su_s]) ?_
        refine v_if_ne C 133 dX2_order_61 (by decide) (fun z => ?_) (fun z => absurd z (by decide))
        refine v_aload_n C dX2_order_133 rfl ?_
        refine vM_g_thrown C hin2 (by decide +kernel) dX2_order_134 ?_
        refine V.es (st' := [.int 1]) (by rw [su_s]) ?_
        refine v_if_le C 142 dX2_order_137 (by decide) (fun z => absurd z (by decide)) (fun z => ?_)
        refine v_iconst C (0) dX2_order_140 (by decide) ?_
        have e8 : mcord n x dp mk r b d = 1 := by simp [mcord, su_f, pif, c1, c4, c7]
        have e9 : mord n om x dp mk r b d = su x 5 0 1 := by simp [mord, e8, forder, fwrite, fgive, su_f, pif, c1, c4, c7]
        rw [e9, e8]
        refine v_iret C dX2_order_141 ?_
        simp [rorder, su_f, add1_1, pif, c1, c4, c7]
      · -- 23 f: not (b2i (inr 0 4 b)) = 0
        replace c7 := Classical.not_not.mp (fun z => c7 (b2i_0.mpr z))
        refine v_iload C dX2_order_26 rfl ?_
        refine v_sI C (k_X2_isDriver l G cy (wM cy am x) d) rfl gX2_order_X2_isDriver (nA := 1) (by decide +kernel) rfl (by decide) (by decide) rfl (Nat.le_of_ble_eq_true rfl) dX2_order_28 ?_
        refine v_if_ne C 38 dX2_order_31 (by decide) (fun c10 => ?_) (fun c10 => ?_)
        · -- 31 t: ¬ (b2i (inr 0 4 d)) = 0
          replace c10 := Classical.not_not.mp (fun z => c10 (b2i_0.mpr z))
          refine v_iload_n C dX2_order_38 rfl ?_
          refine v_iconst C (0) dX2_order_39 (by decide) ?_
          refine v_sipush C (999) dX2_order_40 (by decide) ?_
          refine v_sI C (k_X2_in l G cy (wM cy am x) mk 0 999) rfl gX2_order_X2_in (nA := 3) (by decide +kernel) rfl (by decide) (by decide) rfl (Nat.le_of_ble_eq_true rfl) dX2_order_43 ?_
          refine v_if_ne C 53 dX2_order_46 (by decide) (fun c11 => ?_) (fun c11 => ?_)
          · -- 46 t: ¬ (b2i (inr 0 999 mk)) = 0
            replace c11 := Classical.not_not.mp (fun z => c11 (b2i_0.mpr z))
            obtain ⟨jr, hjr, rfl⟩ := inr_run (n := n) (by omega) (hn ▸ c4)
            have hcjr : (nI jr).toNatClampNeg = jr := nI_clamp (by omega)
            obtain ⟨jb, hjb, rfl⟩ := inr_ix (N := 4) (by decide) rfl c7
            have hcjb : (nI jb).toNatClampNeg = jb := nI_clamp (by omega)
            obtain ⟨jd, hjd, rfl⟩ := inr_ix (N := 4) (by decide) rfl c10
            have hcjd : (nI jd).toNatClampNeg = jd := nI_clamp (by omega)
            obtain ⟨jmk, hjmk, rfl⟩ := inr_ix (N := 999) (by decide) rfl c11
            have hcjmk : (nI jmk).toNatClampNeg = jmk := nI_clamp (by omega)
            refine v_iconst C (0) dX2_order_53 (by decide) ?_
            refine vM_p_thrown C hin2 (by decide +kernel) dX2_order_54 ?_
            refine v_aload_n C dX2_order_57 rfl ?_
            refine vM_g_thrown C hin2 (by decide +kernel) dX2_order_58 ?_
            refine V.es (st' := [.int 0]) (by rw [su_s]) ?_
            refine v_if_ne C 133 dX2_order_61 (by decide) (fun z => absurd z (by decide)) (fun z => ?_)
            refine v_aload_n C dX2_order_64 rfl ?_
            refine vM_g_marked C hin2 (by decide +kernel) dX2_order_65 ?_
            refine v_iload_n C dX2_order_68 rfl ?_
            refine vM_l_marked C jmk rfl (by omega) dX2_order_69 ?_
            refine v_iconst C (-1) dX2_order_70 (by decide) ?_
            refine v_icmp_ne C 133 dX2_order_71 (by decide) (fun c13 => ?_) (fun c13 => ?_)
            · -- 71 t: ¬ ((su x 5 0 0) 17 jmk) = (-1)
              simp only [s5_0, s5_6, s5_9, s5_17] at c13
              refine v_aload_n C dX2_order_133 rfl ?_
              refine vM_g_thrown C hin2 (by decide +kernel) dX2_order_134 ?_
              refine V.es (st' := [.int 0]) (by rw [su_s]) ?_
              refine v_if_le C 142 dX2_order_137 (by decide) (fun z => ?_) (fun z => absurd z (by decide))
              refine v_aload_n C dX2_order_142 rfl ?_
              refine vM_g_marked C hin2 (by decide +kernel) dX2_order_143 ?_
              refine v_iload_n C dX2_order_146 rfl ?_
              refine vM_l_marked C jmk rfl (by omega) dX2_order_147 ?_
              refine v_iconst C (-1) dX2_order_148 (by decide) ?_
              refine v_icmp_eq C 159 dX2_order_149 (by decide) (fun z => absurd z c13) (fun z => ?_)
              refine v_aload_n C dX2_order_152 rfl ?_
              refine vM_g_marked C hin2 (by decide +kernel) dX2_order_153 ?_
              refine v_iload_n C dX2_order_156 rfl ?_
              refine vM_l_marked C jmk rfl (by omega) dX2_order_157 ?_
              have e8 : mcord n x dp (nI jmk) (nI jr) (nI jb) (nI jd) = 0 := by simp [mcord, su_f, pif, c1, c4, c7, c10, c11, c13, hcjr, hcjb, hcjd, hcjmk]
              have e9 : mord n om x dp (nI jmk) (nI jr) (nI jb) (nI jd) = su x 5 0 0 := by simp [mord, e8, forder, fwrite, fgive, su_f, pif, c1, c4, c7, c10, c11, c13, hcjr, hcjb, hcjd, hcjmk]
              rw [e9, e8]
              refine v_iret C dX2_order_158 ?_
              simp [rorder, su_f, add1_1, pif, c1, c4, c7, c10, c11, c13, hcjr, hcjb, hcjd, hcjmk]
            · -- 71 f: not ¬ ((su x 5 0 0) 17 jmk) = (-1)
              simp only [s5_0, s5_6, s5_9, s5_17] at c13
              refine v_aload_n C dX2_order_74 rfl ?_
              refine v_aload_n C dX2_order_75 rfl ?_
              refine vM_cI C (k_X2_leads l G cy am (su x 5 0 0)) rfl gX2_order_X2_leads (nA := 0) (by decide +kernel) rfl (by decide) (by decide) rfl rfl (Nat.le_of_ble_eq_true rfl) dX2_order_76 ?_
              refine v_iload_n C dX2_order_79 rfl ?_
              refine v_icmp_ne C 125 dX2_order_80 (by decide) (fun c16 => ?_) (fun c16 => ?_)
              · -- 80 t: ¬ (flead (su x 5 0 0)) = dp
                refine v_iconst C (3) dX2_order_125 (by decide) ?_
                refine v_goto C 130 dX2_order_126 (by decide) ?_
                refine vM_p_thrown C hin2 (by decide +kernel) dX2_order_130 ?_
                refine V.ew (w' := wM cy am (su x 5 0 3)) (by rw [su_su]) ?_
                refine v_aload_n C dX2_order_133 rfl ?_
                refine vM_g_thrown C hin2 (by decide +kernel) dX2_order_134 ?_
                refine V.es (st' := [.int 3]) (by rw [su_s]) ?_
                refine v_if_le C 142 dX2_order_137 (by decide) (fun z => absurd z (by decide)) (fun z => ?_)
                refine v_iconst C (0) dX2_order_140 (by decide) ?_
                have e8 : mcord n x dp (nI jmk) (nI jr) (nI jb) (nI jd) = 3 := by simp [mcord, su_f, pif, c1, c4, c7, c10, c11, c13, c16, hcjr, hcjb, hcjd, hcjmk]
                have e9 : mord n om x dp (nI jmk) (nI jr) (nI jb) (nI jd) = su x 5 0 3 := by simp [mord, e8, forder, fwrite, fgive, su_f, pif, c1, c4, c7, c10, c11, c13, c16, hcjr, hcjb, hcjd, hcjmk]
                rw [e9, e8]
                refine v_iret C dX2_order_141 ?_
                simp [rorder, su_f, add1_1, pif, c1, c4, c7, c10, c11, c13, c16, hcjr, hcjb, hcjd, hcjmk]
              · -- 80 f: not ¬ (flead (su x 5 0 0)) = dp
                refine v_aload_n C dX2_order_83 rfl ?_
                refine vM_g_states C hin2 (by decide +kernel) dX2_order_84 ?_
                refine v_iload_n C dX2_order_87 rfl ?_
                refine vM_l_states C jr rfl (by omega) dX2_order_88 ?_
                refine v_if_ne C 125 dX2_order_89 (by decide) (fun c18 => ?_) (fun c18 => ?_)
                · -- 89 t: ¬ ((su x 5 0 0) 9 jr) = 0
                  simp only [s5_0, s5_6, s5_9, s5_17] at c18
                  refine v_iconst C (3) dX2_order_125 (by decide) ?_
                  refine v_goto C 130 dX2_order_126 (by decide) ?_
                  refine vM_p_thrown C hin2 (by decide +kernel) dX2_order_130 ?_
                  refine V.ew (w' := wM cy am (su x 5 0 3)) (by rw [su_su]) ?_
                  refine v_aload_n C dX2_order_133 rfl ?_
                  refine vM_g_thrown C hin2 (by decide +kernel) dX2_order_134 ?_
                  refine V.es (st' := [.int 3]) (by rw [su_s]) ?_
                  refine v_if_le C 142 dX2_order_137 (by decide) (fun z => absurd z (by decide)) (fun z => ?_)
                  refine v_iconst C (0) dX2_order_140 (by decide) ?_
                  have e8 : mcord n x dp (nI jmk) (nI jr) (nI jb) (nI jd) = 3 := by simp [mcord, su_f, pif, c1, c4, c7, c10, c11, c13, c16, c18, hcjr, hcjb, hcjd, hcjmk]
                  have e9 : mord n om x dp (nI jmk) (nI jr) (nI jb) (nI jd) = su x 5 0 3 := by simp [mord, e8, forder, fwrite, fgive, su_f, pif, c1, c4, c7, c10, c11, c13, c16, c18, hcjr, hcjb, hcjd, hcjmk]
                  rw [e9, e8]
                  refine v_iret C dX2_order_141 ?_
                  simp [rorder, su_f, add1_1, pif, c1, c4, c7, c10, c11, c13, c16, c18, hcjr, hcjb, hcjd, hcjmk]
                · -- 89 f: not ¬ ((su x 5 0 0) 9 jr) = 0
                  simp only [s5_0, s5_6, s5_9, s5_17] at c18
                  refine v_aload_n C dX2_order_92 rfl ?_
                  refine vM_g_starts C hin2 (by decide +kernel) dX2_order_93 ?_
                  refine v_iload_n C dX2_order_96 rfl ?_
                  refine vM_l_starts C jr rfl (by omega) dX2_order_97 ?_
                  refine v_aload_n C dX2_order_98 rfl ?_
                  refine vM_g_now C hin2 (by decide +kernel) dX2_order_99 ?_
                  refine v_icmp_le C 125 dX2_order_102 (by decide) (fun c20 => ?_) (fun c20 => ?_)
                  · -- 102 t: ¬ ((su x 5 0 0) 0 0) < ((su x 5 0 0) 6 jr)
                    simp only [s5_0, s5_6, s5_9, s5_17] at c20
                    refine v_iconst C (3) dX2_order_125 (by decide) ?_
                    refine v_goto C 130 dX2_order_126 (by decide) ?_
                    refine vM_p_thrown C hin2 (by decide +kernel) dX2_order_130 ?_
                    refine V.ew (w' := wM cy am (su x 5 0 3)) (by rw [su_su]) ?_
                    refine v_aload_n C dX2_order_133 rfl ?_
                    refine vM_g_thrown C hin2 (by decide +kernel) dX2_order_134 ?_
                    refine V.es (st' := [.int 3]) (by rw [su_s]) ?_
                    refine v_if_le C 142 dX2_order_137 (by decide) (fun z => absurd z (by decide)) (fun z => ?_)
                    refine v_iconst C (0) dX2_order_140 (by decide) ?_
                    have e8 : mcord n x dp (nI jmk) (nI jr) (nI jb) (nI jd) = 3 := by simp [mcord, su_f, pif, c1, c4, c7, c10, c11, c13, c16, c18, c20, hcjr, hcjb, hcjd, hcjmk]
                    have e9 : mord n om x dp (nI jmk) (nI jr) (nI jb) (nI jd) = su x 5 0 3 := by simp [mord, e8, forder, fwrite, fgive, su_f, pif, c1, c4, c7, c10, c11, c13, c16, c18, c20, hcjr, hcjb, hcjd, hcjmk]
                    rw [e9, e8]
                    refine v_iret C dX2_order_141 ?_
                    simp [rorder, su_f, add1_1, pif, c1, c4, c7, c10, c11, c13, c16, c18, c20, hcjr, hcjb, hcjd, hcjmk]
                  · -- 102 f: not ¬ ((su x 5 0 0) 0 0) < ((su x 5 0 0) 6 jr)
                    simp only [s5_0, s5_6, s5_9, s5_17] at c20
                    refine v_aload_n C dX2_order_105 rfl ?_
                    refine v_iload C dX2_order_106 rfl ?_
                    refine v_iload_n C dX2_order_108 rfl ?_
                    refine vM_cI C (k_X2_isFitBus l G cy am (su x 5 0 0) n (by rw [su_f _ _ _ _ (by decide)]; exact hn) h30 jb (by omega) jr (by omega)) rfl gX2_order_X2_isFitBus (nA := 2) (by decide +kernel) rfl (by decide) (by decide) rfl rfl (Nat.le_of_ble_eq_true rfl) dX2_order_109 ?_
                    refine v_if_eq C 125 dX2_order_112 (by decide) (fun c22 => ?_) (fun c22 => ?_)
                    · -- 112 t: (b2i (mbf n (su x 5 0 0) jb jr)) = 0
                      replace c22 := b2i_0.mp c22
                      refine v_iconst C (3) dX2_order_125 (by decide) ?_
                      refine v_goto C 130 dX2_order_126 (by decide) ?_
                      refine vM_p_thrown C hin2 (by decide +kernel) dX2_order_130 ?_
                      refine V.ew (w' := wM cy am (su x 5 0 3)) (by rw [su_su]) ?_
                      refine v_aload_n C dX2_order_133 rfl ?_
                      refine vM_g_thrown C hin2 (by decide +kernel) dX2_order_134 ?_
                      refine V.es (st' := [.int 3]) (by rw [su_s]) ?_
                      refine v_if_le C 142 dX2_order_137 (by decide) (fun z => absurd z (by decide)) (fun z => ?_)
                      refine v_iconst C (0) dX2_order_140 (by decide) ?_
                      have e8 : mcord n x dp (nI jmk) (nI jr) (nI jb) (nI jd) = 3 := by simp [mcord, su_f, pif, c1, c4, c7, c10, c11, c13, c16, c18, c20, c22, hcjr, hcjb, hcjd, hcjmk]
                      have e9 : mord n om x dp (nI jmk) (nI jr) (nI jb) (nI jd) = su x 5 0 3 := by simp [mord, e8, forder, fwrite, fgive, su_f, pif, c1, c4, c7, c10, c11, c13, c16, c18, c20, c22, hcjr, hcjb, hcjd, hcjmk]
                      rw [e9, e8]
                      refine v_iret C dX2_order_141 ?_
                      simp [rorder, su_f, add1_1, pif, c1, c4, c7, c10, c11, c13, c16, c18, c20, c22, hcjr, hcjb, hcjd, hcjmk]
                    · -- 112 f: not (b2i (mbf n (su x 5 0 0) jb jr)) = 0
                      replace c22 := Classical.not_not.mp (fun z => c22 (b2i_0.mpr z))
                      refine v_aload_n C dX2_order_115 rfl ?_
                      refine v_iload C dX2_order_116 rfl ?_
                      refine v_iload_n C dX2_order_118 rfl ?_
                      refine vM_cI C (k_X2_isFitDriver l G cy am (su x 5 0 0) n (by rw [su_f _ _ _ _ (by decide)]; exact hn) h30 jd (by omega) jr (by omega)) rfl gX2_order_X2_isFitDriver (nA := 2) (by decide +kernel) rfl (by decide) (by decide) rfl rfl (Nat.le_of_ble_eq_true rfl) dX2_order_119 ?_
                      refine v_if_ne C 129 dX2_order_122 (by decide) (fun c24 => ?_) (fun c24 => ?_)
                      · -- 122 t: ¬ (b2i (mdf n (su x 5 0 0) jd jr)) = 0
                        replace c24 := Classical.not_not.mp (fun z => c24 (b2i_0.mpr z))
                        refine v_iconst C (0) dX2_order_129 (by decide) ?_
                        refine vM_p_thrown C hin2 (by decide +kernel) dX2_order_130 ?_
                        refine V.ew (w' := wM cy am (su x 5 0 0)) (by rw [su_su]) ?_
                        refine v_aload_n C dX2_order_133 rfl ?_
                        refine vM_g_thrown C hin2 (by decide +kernel) dX2_order_134 ?_
                        refine V.es (st' := [.int 0]) (by rw [su_s]) ?_
                        refine v_if_le C 142 dX2_order_137 (by decide) (fun z => ?_) (fun z => absurd z (by decide))
                        refine v_aload_n C dX2_order_142 rfl ?_
                        refine vM_g_marked C hin2 (by decide +kernel) dX2_order_143 ?_
                        refine v_iload_n C dX2_order_146 rfl ?_
                        refine vM_l_marked C jmk rfl (by omega) dX2_order_147 ?_
                        refine v_iconst C (-1) dX2_order_148 (by decide) ?_
                        refine v_icmp_eq C 159 dX2_order_149 (by decide) (fun z => ?_) (fun z => absurd z (Classical.not_not.mpr c13))
                        refine v_aload_n C dX2_order_159 rfl ?_
                        refine vM_g_states C hin2 (by decide +kernel) dX2_order_160 ?_
                        refine v_iload_n C dX2_order_163 rfl ?_
                        refine v_iconst C (1) dX2_order_164 (by decide) ?_
                        refine vM_s_states C jr rfl (by omega) dX2_order_165 ?_
                        refine v_aload_n C dX2_order_166 rfl ?_
                        refine vM_g_buses C hin2 (by decide +kernel) dX2_order_167 ?_
                        refine v_iload_n C dX2_order_170 rfl ?_
                        refine v_iload C dX2_order_171 rfl ?_
                        refine vM_s_buses C jr rfl (by omega) dX2_order_173 ?_
                        refine v_aload_n C dX2_order_174 rfl ?_
                        refine vM_g_drivers C hin2 (by decide +kernel) dX2_order_175 ?_
                        refine v_iload_n C dX2_order_178 rfl ?_
                        refine v_iload C dX2_order_179 rfl ?_
                        refine vM_s_drivers C jr rfl (by omega) dX2_order_181 ?_
                        refine v_aload_n C dX2_order_182 rfl ?_
                        refine vM_g_orders C hin2 (by decide +kernel) dX2_order_183 ?_
                        refine v_aload_n C dX2_order_186 rfl ?_
                        refine vM_g_orderMany C hin2 (by decide +kernel) dX2_order_187 ?_
                        refine v_bipush C (100) dX2_order_190 (by decide) ?_
                        refine v_iload_n C dX2_order_192 rfl ?_
                        refine v_imul C dX2_order_193 ?_
                        refine v_bipush C (10) dX2_order_194 (by decide) ?_
                        refine v_iload C dX2_order_196 rfl ?_
                        refine v_imul C dX2_order_198 ?_
                        refine v_iadd C dX2_order_199 ?_
                        refine v_iload C dX2_order_200 rfl ?_
                        refine v_iadd C dX2_order_202 ?_
                        refine vM_s_orders C om (by rw [su_f _ _ _ _ (by decide), su_f _ _ _ _ (by decide), su_f _ _ _ _ (by decide), su_f _ _ _ _ (by decide)]; exact hom) (by omega) dX2_order_203 ?_
                        refine v_aload_n C dX2_order_204 rfl ?_
                        refine vM_g_marked C hin2 (by decide +kernel) dX2_order_205 ?_
                        refine v_iload_n C dX2_order_208 rfl ?_
                        refine v_aload_n C dX2_order_209 rfl ?_
                        refine vM_g_orderMany C hin2 (by decide +kernel) dX2_order_210 ?_
                        refine vM_s_marked C jmk rfl (by omega) dX2_order_213 ?_
                        refine v_aload_n C dX2_order_214 rfl ?_
                        refine v_dup C dX2_order_215 rfl ?_
                        refine vM_g_orderMany C hin2 (by decide +kernel) dX2_order_216 ?_
                        refine v_iconst C (1) dX2_order_219 (by decide) ?_
                        refine v_iadd C dX2_order_220 ?_
                        refine vM_p_orderMany C hin2 (by decide +kernel) dX2_order_221 ?_
                        refine v_aload_n C dX2_order_224 rfl ?_
                        refine vM_g_orderMany C hin2 (by decide +kernel) dX2_order_225 ?_
                        refine V.es (st' := [.int (((su (su (su (su (su (su x 5 0 0) 9 jr 1) 10 jr (nI jb)) 11 jr (nI jd)) 16 om (((100 * (nI jr)) + (10 * (nI jb))) + (nI jd))) 17 jmk ((su (su (su (su (su x 5 0 0) 9 jr 1) 10 jr (nI jb)) 11 jr (nI jd)) 16 om (((100 * (nI jr)) + (10 * (nI jb))) + (nI jd))) 2 0)) 2 0) + 1)]) (by rw [su_s]) ?_
                        refine v_iconst C (1) dX2_order_228 (by decide) ?_
                        refine v_isub C dX2_order_229 ?_
                        have e8 : mcord n x dp (nI jmk) (nI jr) (nI jb) (nI jd) = 0 := by simp [mcord, su_f, pif, c1, c4, c7, c10, c11, c13, c16, c18, c20, c22, c24, hcjr, hcjb, hcjd, hcjmk]
                        have e9 : mord n om x dp (nI jmk) (nI jr) (nI jb) (nI jd) = su (su (su (su (su (su (su x 5 0 0) 9 jr 1) 10 jr (nI jb)) 11 jr (nI jd)) 16 om (((100 * (nI jr)) + (10 * (nI jb))) + (nI jd))) 17 jmk ((su (su (su (su (su x 5 0 0) 9 jr 1) 10 jr (nI jb)) 11 jr (nI jd)) 16 om (((100 * (nI jr)) + (10 * (nI jb))) + (nI jd))) 2 0)) 2 0 (((su (su (su (su (su (su x 5 0 0) 9 jr 1) 10 jr (nI jb)) 11 jr (nI jd)) 16 om (((100 * (nI jr)) + (10 * (nI jb))) + (nI jd))) 17 jmk ((su (su (su (su (su x 5 0 0) 9 jr 1) 10 jr (nI jb)) 11 jr (nI jd)) 16 om (((100 * (nI jr)) + (10 * (nI jb))) + (nI jd))) 2 0)) 2 0) + 1) := by simp [mord, e8, forder, fwrite, fgive, su_f, pif, c1, c4, c7, c10, c11, c13, c16, c18, c20, c22, c24, hcjr, hcjb, hcjd, hcjmk]
                        rw [e9, e8]
                        refine v_iret C dX2_order_230 ?_
                        simp [rorder, su_f, add1_1, pif, c1, c4, c7, c10, c11, c13, c16, c18, c20, c22, c24, hcjr, hcjb, hcjd, hcjmk]
                      · -- 122 f: not ¬ (b2i (mdf n (su x 5 0 0) jd jr)) = 0
                        replace c24 := b2i_0.mp c24
                        refine v_iconst C (3) dX2_order_125 (by decide) ?_
                        refine v_goto C 130 dX2_order_126 (by decide) ?_
                        refine vM_p_thrown C hin2 (by decide +kernel) dX2_order_130 ?_
                        refine V.ew (w' := wM cy am (su x 5 0 3)) (by rw [su_su]) ?_
                        refine v_aload_n C dX2_order_133 rfl ?_
                        refine vM_g_thrown C hin2 (by decide +kernel) dX2_order_134 ?_
                        refine V.es (st' := [.int 3]) (by rw [su_s]) ?_
                        refine v_if_le C 142 dX2_order_137 (by decide) (fun z => absurd z (by decide)) (fun z => ?_)
                        refine v_iconst C (0) dX2_order_140 (by decide) ?_
                        have e8 : mcord n x dp (nI jmk) (nI jr) (nI jb) (nI jd) = 3 := by simp [mcord, su_f, pif, c1, c4, c7, c10, c11, c13, c16, c18, c20, c22, c24, hcjr, hcjb, hcjd, hcjmk]
                        have e9 : mord n om x dp (nI jmk) (nI jr) (nI jb) (nI jd) = su x 5 0 3 := by simp [mord, e8, forder, fwrite, fgive, su_f, pif, c1, c4, c7, c10, c11, c13, c16, c18, c20, c22, c24, hcjr, hcjb, hcjd, hcjmk]
                        rw [e9, e8]
                        refine v_iret C dX2_order_141 ?_
                        simp [rorder, su_f, add1_1, pif, c1, c4, c7, c10, c11, c13, c16, c18, c20, c22, c24, hcjr, hcjb, hcjd, hcjmk]
          · -- 46 f: not ¬ (b2i (inr 0 999 mk)) = 0
            replace c11 := b2i_0.mp c11
            refine v_iconst C (2) dX2_order_49 (by decide) ?_
            refine v_goto C 54 dX2_order_50 (by decide) ?_
            refine vM_p_thrown C hin2 (by decide +kernel) dX2_order_54 ?_
            refine v_aload_n C dX2_order_57 rfl ?_
            refine vM_g_thrown C hin2 (by decide +kernel) dX2_order_58 ?_
            refine V.es (st' := [.int 2]) (by rw [su_s]) ?_
            refine v_if_ne C 133 dX2_order_61 (by decide) (fun z => ?_) (fun z => absurd z (by decide))
            refine v_aload_n C dX2_order_133 rfl ?_
            refine vM_g_thrown C hin2 (by decide +kernel) dX2_order_134 ?_
            refine V.es (st' := [.int 2]) (by rw [su_s]) ?_
            refine v_if_le C 142 dX2_order_137 (by decide) (fun z => absurd z (by decide)) (fun z => ?_)
            refine v_iconst C (0) dX2_order_140 (by decide) ?_
            have e8 : mcord n x dp mk r b d = 2 := by simp [mcord, su_f, pif, c1, c4, c7, c10, c11]
            have e9 : mord n om x dp mk r b d = su x 5 0 2 := by simp [mord, e8, forder, fwrite, fgive, su_f, pif, c1, c4, c7, c10, c11]
            rw [e9, e8]
            refine v_iret C dX2_order_141 ?_
            simp [rorder, su_f, add1_1, pif, c1, c4, c7, c10, c11]
        · -- 31 f: not ¬ (b2i (inr 0 4 d)) = 0
          replace c10 := b2i_0.mp c10
          refine v_iconst C (1) dX2_order_34 (by decide) ?_
          refine v_goto C 54 dX2_order_35 (by decide) ?_
          refine vM_p_thrown C hin2 (by decide +kernel) dX2_order_54 ?_
          refine v_aload_n C dX2_order_57 rfl ?_
          refine vM_g_thrown C hin2 (by decide +kernel) dX2_order_58 ?_
          refine V.es (st' := [.int 1]) (by rw [su_s]) ?_
          refine v_if_ne C 133 dX2_order_61 (by decide) (fun z => ?_) (fun z => absurd z (by decide))
          refine v_aload_n C dX2_order_133 rfl ?_
          refine vM_g_thrown C hin2 (by decide +kernel) dX2_order_134 ?_
          refine V.es (st' := [.int 1]) (by rw [su_s]) ?_
          refine v_if_le C 142 dX2_order_137 (by decide) (fun z => absurd z (by decide)) (fun z => ?_)
          refine v_iconst C (0) dX2_order_140 (by decide) ?_
          have e8 : mcord n x dp mk r b d = 1 := by simp [mcord, su_f, pif, c1, c4, c7, c10]
          have e9 : mord n om x dp mk r b d = su x 5 0 1 := by simp [mord, e8, forder, fwrite, fgive, su_f, pif, c1, c4, c7, c10]
          rw [e9, e8]
          refine v_iret C dX2_order_141 ?_
          simp [rorder, su_f, add1_1, pif, c1, c4, c7, c10]
set_option maxHeartbeats 4000000 in
set_option maxRecDepth 100000 in
/-- breaks -/
theorem k_X2_breaks (l : Launch) (G : va_G) (cy : Nat → ClassId) (am : Nat → Nat) (x : Sg) (n : Nat) (hn : x 1 0 = nI n) (h30 : n ≤ 30) (hbo : ∀ k, vp_nar .boolean (x 13 k) = x 13 k) (v : Int32) (hv : vp_nar .boolean v = v) (b : Int32) : KI l G cy yX2_breaks wsX2_breaks 2 48 0 0 [.ref (am 0), .int b, .int v] (wM cy am x) (pif (inr 0 4 b) (x 13 b.toNatClampNeg) 0) (wM cy am (pif (inr 0 4 b) (mbrk n (su x 5 0 0) b v) (su x 5 0 1))) := by
  have hin2 : ∀ q ∈ u_ws RX2 TX2 18, q ∈ wsX2_breaks := by decide +kernel
  refine KI_of (own := RX2) (cc := cX2_breaks) (maxL := 6) (ret := (some .boolean)) (lo0 := [some (.ref (am 0)), some (.int b), some (.int v), none, none, none]) (by decide) rfl rfl (by simp [Value.category]) (Nat.le_of_ble_eq_true rfl) rfl (fun p e s m args below meth c A C => ?_)
  refine v_aload_n C dX2_breaks_0 rfl ?_
  refine v_iload_n C dX2_breaks_1 rfl ?_
  refine v_sI C (k_X2_isBus l G cy (wM cy am x) b) rfl gX2_breaks_X2_isBus (nA := 1) (by decide +kernel) rfl (by decide) (by decide) rfl (Nat.le_of_ble_eq_true rfl) dX2_breaks_2 ?_
  refine v_if_eq C 12 dX2_breaks_5 (by decide) (fun c1 => ?_) (fun c1 => ?_)
  · -- 5 t: (b2i (inr 0 4 b)) = 0
    replace c1 := b2i_0.mp c1
    refine v_iconst C (1) dX2_breaks_12 (by decide) ?_
    refine vM_p_thrown C hin2 (by decide +kernel) dX2_breaks_13 ?_
    refine v_aload_n C dX2_breaks_16 rfl ?_
    refine vM_g_thrown C hin2 (by decide +kernel) dX2_breaks_17 ?_
    refine V.es (st' := [.int 1]) (by rw [su_s]) ?_
    refine v_if_le C 25 dX2_breaks_20 (by decide) (fun z => absurd z (by decide)) (fun z => ?_)
    refine v_iconst C (0) dX2_breaks_23 (by decide) ?_
    have e9 : pif (inr 0 4 b) (mbrk n (su x 5 0 0) b v) (su x 5 0 1) = su x 5 0 1 := by simp [mbrk, mgob, mgiveb, pif, c1]
    rw [e9]
    refine v_zret C rfl dX2_breaks_24 ?_
    simp [su_f, pif, c1]
  · -- 5 f: not (b2i (inr 0 4 b)) = 0
    replace c1 := Classical.not_not.mp (fun z => c1 (b2i_0.mpr z))
    obtain ⟨jb, hjb, rfl⟩ := inr_ix (N := 4) (by decide) rfl c1
    have hcjb : (nI jb).toNatClampNeg = jb := nI_clamp (by omega)
    refine v_iconst C (0) dX2_breaks_8 (by decide) ?_
    refine v_goto C 13 dX2_breaks_9 (by decide) ?_
    refine vM_p_thrown C hin2 (by decide +kernel) dX2_breaks_13 ?_
    refine v_aload_n C dX2_breaks_16 rfl ?_
    refine vM_g_thrown C hin2 (by decide +kernel) dX2_breaks_17 ?_
    refine V.es (st' := [.int 0]) (by rw [su_s]) ?_
    refine v_if_le C 25 dX2_breaks_20 (by decide) (fun z => ?_) (fun z => absurd z (by decide))
    refine v_aload_n C dX2_breaks_25 rfl ?_
    refine vM_g_isBroken C hin2 (by decide +kernel) dX2_breaks_26 ?_
    refine v_iload_n C dX2_breaks_29 rfl ?_
    refine vM_l_isBroken C jb rfl (by omega) dX2_breaks_30 ?_
    refine v_istore_n C dX2_breaks_31 (by decide) ?_
    refine v_aload_n C dX2_breaks_32 rfl ?_
    refine vM_g_isBroken C hin2 (by decide +kernel) dX2_breaks_33 ?_
    refine v_iload_n C dX2_breaks_36 rfl ?_
    refine v_iload_n C dX2_breaks_37 rfl ?_
    refine vM_s_isBroken C jb rfl (by omega) (by first | assumption | exact hbo _ | simp [su, hbo] | (simp [su]; assumption) | decide) dX2_breaks_38 ?_
    refine v_iload_n C dX2_breaks_39 rfl ?_
    refine v_if_eq C 148 dX2_breaks_40 (by decide) (fun c4 => ?_) (fun c4 => ?_)
    · -- 40 t: v = 0
      refine v_iload_n C dX2_breaks_148 rfl ?_
      have e9 : pif (inr 0 4 (nI jb)) (mbrk n (su x 5 0 0) (nI jb) v) (su x 5 0 1) = su (su x 5 0 0) 13 jb v := by simp [mbrk, mgob, mgiveb, pif, c1, c4, hcjb]
      rw [e9]
      refine v_zret C (by first | assumption | exact hbo _ | simp [su, hbo] | (simp [su]; assumption) | decide) dX2_breaks_149 ?_
      simp [su_f, pif, c1, c4, hcjb]
    · -- 40 f: not v = 0
      refine v_aload_n C dX2_breaks_43 rfl ?_
      refine v_iload_n C dX2_breaks_44 rfl ?_
      refine vM_cV C (k_X2_unplug l G cy am (su (su x 5 0 0) 13 jb v) (nI jb)) rfl gX2_breaks_X2_unplug (nA := 1) (by decide +kernel) rfl (by decide) (by decide) rfl rfl (Nat.le_of_ble_eq_true rfl) dX2_breaks_45 ?_
      refine v_aload_n C dX2_breaks_48 rfl ?_
      refine v_iload_n C dX2_breaks_49 rfl ?_
      refine v_bipush C (6) dX2_breaks_50 (by decide) ?_
      refine vM_cI C (k_X2_release l G cy am (funplug (su (su x 5 0 0) 13 jb v) (nI jb)) n (by rw [funplug_f _ _ (by decide), su_f _ _ _ _ (by decide), su_f _ _ _ _ (by decide)]; exact hn) h30 (nI jb) 6) rfl gX2_breaks_X2_release (nA := 2) (by decide +kernel) rfl (by decide) (by decide) rfl rfl (Nat.le_of_ble_eq_true rfl) dX2_breaks_52 ?_
      refine v_istore C dX2_breaks_55 (by decide) ?_
      have hny : it (srel (nI jb) 6) n (funplug (su (su x 5 0 0) 13 jb v) (nI jb)) 1 0 = nI n := (it_f (fun c y => srel_f _ _ c y (by decide) (by decide) (by decide)) n _).trans (by rw [funplug_f _ _ (by decide), su_f _ _ _ _ (by decide), su_f _ _ _ _ (by decide)]; exact hn)
      rcases goF_or (nI jb) 6 (funplug (su (su x 5 0 0) 13 jb v) (nI jb)) n with hgo | ⟨g, hg, hgo⟩
      · refine V.el (lo' := [some (.ref (am 0)), some (.int (nI jb)), some (.int v), some (.int ((su x 5 0 0) 13 jb)), some (.int (-1)), none]) (by rw [hgo]; rfl) ?_
        refine v_iconst C (0) dX2_breaks_57 (by decide) ?_
        refine v_istore C dX2_breaks_58 (by decide) ?_
        refine v_iload C dX2_breaks_60 rfl ?_
        refine v_iconst C (-1) dX2_breaks_62 (by decide) ?_
        refine v_icmp_eq C 89 dX2_breaks_63 (by decide) (fun z => ?_) (fun z => absurd z (by decide))
        refine v_iload C dX2_breaks_89 rfl ?_
        refine v_iconst C (-1) dX2_breaks_91 (by decide) ?_
        refine v_icmp_eq C 110 dX2_breaks_92 (by decide) (fun z => ?_) (fun z => absurd z (by decide))
        refine v_iload C dX2_breaks_110 rfl ?_
        refine v_iconst C (-1) dX2_breaks_112 (by decide) ?_
        refine v_icmp_eq C 148 dX2_breaks_113 (by decide) (fun z => ?_) (fun z => absurd z (by decide))
        refine v_iload_n C dX2_breaks_148 rfl ?_
        have e9 : pif (inr 0 4 (nI jb)) (mbrk n (su x 5 0 0) (nI jb) v) (su x 5 0 1) = it (srel (nI jb) 6) n (funplug (su (su x 5 0 0) 13 jb v) (nI jb)) := by simp [mbrk, mgob, mgiveb, pif, c1, c4, hcjb, hgo]
        rw [e9]
        refine v_zret C (by first | assumption | exact hbo _ | simp [su, hbo] | (simp [su]; assumption) | decide) dX2_breaks_149 ?_
        simp [su_f, pif, c1, c4, hcjb, hgo]
      · refine V.el (lo' := [some (.ref (am 0)), some (.int (nI jb)), some (.int v), some (.int ((su x 5 0 0) 13 jb)), some (.int (nI g)), none]) (by rw [hgo]; rfl) ?_
        have hcg : (nI g).toNatClampNeg = g := nI_clamp (by omega)
        have hgm : ¬ nI g = -1 := nI_nm (by omega)
        refine v_iconst C (0) dX2_breaks_57 (by decide) ?_
        refine v_istore C dX2_breaks_58 (by decide) ?_
        refine V.loop (fun k : Nat => wM cy am (it (srel (nI jb) 6) n (funplug (su (su x 5 0 0) 13 jb v) (nI jb)))) (fun k : Nat => ([some (.ref (am 0)), some (.int (nI jb)), some (.int v), some (.int ((su x 5 0 0) 13 jb)), some (.int (nI g)), some (.int (nI k))] : List (Option Value))) (fun k : Nat => mlowb n (it (srel (nI jb) 6) n (funplug (su (su x 5 0 0) 13 jb v) (nI jb))) g = lowF (fun q => mbf n (it (srel (nI jb) 6) n (funplug (su (su x 5 0 0) 13 jb v) (nI jb))) q g) (5 - k) k) 5 ?_ rfl
        intro k hle_k hP_k ih_k
        try dsimp only at hP_k ih_k ⊢
        refine v_iload C dX2_breaks_60 rfl ?_
        refine v_iconst C (-1) dX2_breaks_62 (by decide) ?_
        refine v_icmp_eq C 89 dX2_breaks_63 (by decide) (fun z => absurd z (nI_nm (by omega))) (fun z => ?_)
        refine v_iload C dX2_breaks_66 rfl ?_
        refine v_iconst C (5) dX2_breaks_68 (by decide) ?_
        refine v_geN C k 5 89 dX2_breaks_69 (by decide) rfl rfl (by omega) (by omega) (fun c9 => ?_) (fun c9 => ?_)
        · -- loop 60 is over
          have e_k : 5 = k := by omega
          subst e_k
          have hlb : mlowb n (it (srel (nI jb) 6) n (funplug (su (su x 5 0 0) 13 jb v) (nI jb))) g = -1 := hP_k
          refine v_iload C dX2_breaks_89 rfl ?_
          refine v_iconst C (-1) dX2_breaks_91 (by decide) ?_
          refine v_icmp_eq C 110 dX2_breaks_92 (by decide) (fun z => absurd z (nI_nm (by omega))) (fun z => ?_)
          refine v_iload C dX2_breaks_95 rfl ?_
          refine v_iconst C (5) dX2_breaks_97 (by decide) ?_
          refine v_icmp_ne C 110 dX2_breaks_98 (by decide) (fun z => absurd z (by decide)) (fun z => ?_)
          refine v_aload_n C dX2_breaks_101 rfl ?_
          refine v_iload C dX2_breaks_102 rfl ?_
          refine vM_cV C (k_X2_lose l G cy am (it (srel (nI jb) 6) n (funplug (su (su x 5 0 0) 13 jb v) (nI jb))) g (by omega)) rfl gX2_breaks_X2_lose (nA := 1) (by decide +kernel) rfl (by decide) (by decide) rfl rfl (Nat.le_of_ble_eq_true rfl) dX2_breaks_104 ?_
          refine v_goto C 148 dX2_breaks_107 (by decide) ?_
          refine v_iload_n C dX2_breaks_148 rfl ?_
          have e9 : pif (inr 0 4 (nI jb)) (mbrk n (su x 5 0 0) (nI jb) v) (su x 5 0 1) = fdrop (it (srel (nI jb) 6) n (funplug (su (su x 5 0 0) 13 jb v) (nI jb))) g 4 := by simp [mbrk, mgob, mgiveb, pif, c1, c4, hcjb, hgo, hcg, hgm, hlb]
          rw [e9]
          refine v_zret C (by first | assumption | exact hbo _ | simp [su, hbo] | (simp [su]; assumption) | decide) dX2_breaks_149 ?_
          simp [su_f, pif, c1, c4, hcjb, hgo, hcg, hgm, hlb]
        · have hk : k < 5 := c9
          refine v_aload_n C dX2_breaks_72 rfl ?_
          refine v_iload C dX2_breaks_73 rfl ?_
          refine v_iload C dX2_breaks_75 rfl ?_
          refine vM_cI C (k_X2_isFitBus l G cy am (it (srel (nI jb) 6) n (funplug (su (su x 5 0 0) 13 jb v) (nI jb))) n hny h30 k (by omega) g (by omega)) rfl gX2_breaks_X2_isFitBus (nA := 2) (by decide +kernel) rfl (by decide) (by decide) rfl rfl (Nat.le_of_ble_eq_true rfl) dX2_breaks_77 ?_
          refine v_if_ne C 89 dX2_breaks_80 (by decide) (fun c12 => ?_) (fun c12 => ?_)
          · -- 80 t: ¬ (b2i (mbf n (it (srel (nI jb) 6) n (funplug (su (su x 5 0 0) 13 jb v) (nI jb))) k g)) = 0
            replace c12 := Classical.not_not.mp (fun z => c12 (b2i_0.mpr z))
            have hlb : mlowb n (it (srel (nI jb) 6) n (funplug (su (su x 5 0 0) 13 jb v) (nI jb))) g = nI k := hP_k.trans ((lowF_s hk).trans (pif_t c12))
            have hck : (nI k).toNatClampNeg = k := nI_clamp (by omega)
            have hkm : ¬ nI k = -1 := nI_nm (by omega)
            refine v_iload C dX2_breaks_89 rfl ?_
            refine v_iconst C (-1) dX2_breaks_91 (by decide) ?_
            refine v_icmp_eq C 110 dX2_breaks_92 (by decide) (fun z => absurd z (nI_nm (by omega))) (fun z => ?_)
            refine v_iload C dX2_breaks_95 rfl ?_
            refine v_iconst C (5) dX2_breaks_97 (by decide) ?_
            refine v_icmp_ne C 110 dX2_breaks_98 (by decide) (fun z => ?_) (fun z => absurd z (fun q => absurd ((nI_eq (show k < 2 ^ 31 by omega) (show (5 : Nat) < 2 ^ 31 by decide)).mp q) (by omega)))
            refine v_iload C dX2_breaks_110 rfl ?_
            refine v_iconst C (-1) dX2_breaks_112 (by decide) ?_
            refine v_icmp_eq C 148 dX2_breaks_113 (by decide) (fun z => absurd z (nI_nm (by omega))) (fun z => ?_)
            refine v_aload_n C dX2_breaks_116 rfl ?_
            refine vM_g_buses C hin2 (by decide +kernel) dX2_breaks_117 ?_
            refine v_iload C dX2_breaks_120 rfl ?_
            refine v_iload C dX2_breaks_122 rfl ?_
            refine vM_s_buses C g rfl (by omega) dX2_breaks_124 ?_
            refine v_aload_n C dX2_breaks_125 rfl ?_
            refine vM_g_charges C hin2 (by decide +kernel) dX2_breaks_126 ?_
            refine v_iload C dX2_breaks_129 rfl ?_
            refine v_dup2 C dX2_breaks_131 rfl rfl ?_
            refine vM_l_charges C k rfl (by omega) dX2_breaks_132 ?_
            refine v_aload_n C dX2_breaks_133 rfl ?_
            refine vM_g_needs C hin2 (by decide +kernel) dX2_breaks_134 ?_
            refine v_iload C dX2_breaks_137 rfl ?_
            refine vM_l_needs C g rfl (by omega) dX2_breaks_139 ?_
            refine v_isub C dX2_breaks_140 ?_
            refine vM_s_charges C k rfl (by omega) dX2_breaks_141 ?_
            refine v_aload_n C dX2_breaks_142 rfl ?_
            refine v_iload C dX2_breaks_143 rfl ?_
            refine vM_cV C (k_X2_unplug l G cy am (su (su (it (srel (nI jb) 6) n (funplug (su (su x 5 0 0) 13 jb v) (nI jb))) 10 g (nI k)) 12 k (((su (it (srel (nI jb) 6) n (funplug (su (su x 5 0 0) 13 jb v) (nI jb))) 10 g (nI k)) 12 k) - ((su (it (srel (nI jb) 6) n (funplug (su (su x 5 0 0) 13 jb v) (nI jb))) 10 g (nI k)) 8 g))) (nI k)) rfl gX2_breaks_X2_unplug (nA := 1) (by decide +kernel) rfl (by decide) (by decide) rfl rfl (Nat.le_of_ble_eq_true rfl) dX2_breaks_145 ?_
            refine v_iload_n C dX2_breaks_148 rfl ?_
            have e9 : pif (inr 0 4 (nI jb)) (mbrk n (su x 5 0 0) (nI jb) v) (su x 5 0 1) = funplug (su (su (it (srel (nI jb) 6) n (funplug (su (su x 5 0 0) 13 jb v) (nI jb))) 10 g (nI k)) 12 k (((su (it (srel (nI jb) 6) n (funplug (su (su x 5 0 0) 13 jb v) (nI jb))) 10 g (nI k)) 12 k) - ((su (it (srel (nI jb) 6) n (funplug (su (su x 5 0 0) 13 jb v) (nI jb))) 10 g (nI k)) 8 g))) (nI k) := by simp [mbrk, mgob, mgiveb, pif, c1, c4, c12, hcjb, hgo, hcg, hgm, hlb, hck, hkm]
            rw [e9]
            refine v_zret C (by first | assumption | exact hbo _ | simp [su, hbo] | (simp [su]; assumption) | decide) dX2_breaks_149 ?_
            simp [su_f, pif, c1, c4, c12, hcjb, hgo, hcg, hgm, hlb, hck, hkm]
          · -- 80 f: not ¬ (b2i (mbf n (it (srel (nI jb) 6) n (funplug (su (su x 5 0 0) 13 jb v) (nI jb))) k g)) = 0
            replace c12 := b2i_0.mp c12
            refine v_incN C dX2_breaks_83 rfl (by decide) ?_
            refine v_goto C 60 dX2_breaks_86 (by decide) ?_
            exact ih_k hk (hP_k.trans ((lowF_s hk).trans (pif_f c12)))
set_option maxHeartbeats 4000000 in
set_option maxRecDepth 100000 in
/-- ails -/
theorem k_X2_ails (l : Launch) (G : va_G) (cy : Nat → ClassId) (am : Nat → Nat) (x : Sg) (n : Nat) (hn : x 1 0 = nI n) (h30 : n ≤ 30) (hbo : ∀ k, vp_nar .boolean (x 14 k) = x 14 k) (v : Int32) (hv : vp_nar .boolean v = v) (d : Int32) : KI l G cy yX2_ails wsX2_ails 2 46 0 0 [.ref (am 0), .int d, .int v] (wM cy am x) (pif (inr 0 4 d) (x 14 d.toNatClampNeg) 0) (wM cy am (pif (inr 0 4 d) (mail n (su x 5 0 0) d v) (su x 5 0 1))) := by
  have hin2 : ∀ q ∈ u_ws RX2 TX2 18, q ∈ wsX2_ails := by decide +kernel
  refine KI_of (own := RX2) (cc := cX2_ails) (maxL := 6) (ret := (some .boolean)) (lo0 := [some (.ref (am 0)), some (.int d), some (.int v), none, none, none]) (by decide) rfl rfl (by simp [Value.category]) (Nat.le_of_ble_eq_true rfl) rfl (fun p e s m args below meth c A C => ?_)
  refine v_aload_n C dX2_ails_0 rfl ?_
  refine v_iload_n C dX2_ails_1 rfl ?_
  refine v_sI C (k_X2_isDriver l G cy (wM cy am x) d) rfl gX2_ails_X2_isDriver (nA := 1) (by decide +kernel) rfl (by decide) (by decide) rfl (Nat.le_of_ble_eq_true rfl) dX2_ails_2 ?_
  refine v_if_eq C 12 dX2_ails_5 (by decide) (fun c1 => ?_) (fun c1 => ?_)
  · -- 5 t: (b2i (inr 0 4 d)) = 0
    replace c1 := b2i_0.mp c1
    refine v_iconst C (1) dX2_ails_12 (by decide) ?_
    refine vM_p_thrown C hin2 (by decide +kernel) dX2_ails_13 ?_
    refine v_aload_n C dX2_ails_16 rfl ?_
    refine vM_g_thrown C hin2 (by decide +kernel) dX2_ails_17 ?_
    refine V.es (st' := [.int 1]) (by rw [su_s]) ?_
    refine v_if_le C 25 dX2_ails_20 (by decide) (fun z => absurd z (by decide)) (fun z => ?_)
    refine v_iconst C (0) dX2_ails_23 (by decide) ?_
    have e9 : pif (inr 0 4 d) (mail n (su x 5 0 0) d v) (su x 5 0 1) = su x 5 0 1 := by simp [mail, mgod, mgived, pif, c1]
    rw [e9]
    refine v_zret C rfl dX2_ails_24 ?_
    simp [su_f, pif, c1]
  · -- 5 f: not (b2i (inr 0 4 d)) = 0
    replace c1 := Classical.not_not.mp (fun z => c1 (b2i_0.mpr z))
    obtain ⟨jd, hjd, rfl⟩ := inr_ix (N := 4) (by decide) rfl c1
    have hcjd : (nI jd).toNatClampNeg = jd := nI_clamp (by omega)
    refine v_iconst C (0) dX2_ails_8 (by decide) ?_
    refine v_goto C 13 dX2_ails_9 (by decide) ?_
    refine vM_p_thrown C hin2 (by decide +kernel) dX2_ails_13 ?_
    refine v_aload_n C dX2_ails_16 rfl ?_
    refine vM_g_thrown C hin2 (by decide +kernel) dX2_ails_17 ?_
    refine V.es (st' := [.int 0]) (by rw [su_s]) ?_
    refine v_if_le C 25 dX2_ails_20 (by decide) (fun z => ?_) (fun z => absurd z (by decide))
    refine v_aload_n C dX2_ails_25 rfl ?_
    refine vM_g_isIll C hin2 (by decide +kernel) dX2_ails_26 ?_
    refine v_iload_n C dX2_ails_29 rfl ?_
    refine vM_l_isIll C jd rfl (by omega) dX2_ails_30 ?_
    refine v_istore_n C dX2_ails_31 (by decide) ?_
    refine v_aload_n C dX2_ails_32 rfl ?_
    refine vM_g_isIll C hin2 (by decide +kernel) dX2_ails_33 ?_
    refine v_iload_n C dX2_ails_36 rfl ?_
    refine v_iload_n C dX2_ails_37 rfl ?_
    refine vM_s_isIll C jd rfl (by omega) (by first | assumption | exact hbo _ | simp [su, hbo] | (simp [su]; assumption) | decide) dX2_ails_38 ?_
    refine v_iload_n C dX2_ails_39 rfl ?_
    refine v_if_eq C 124 dX2_ails_40 (by decide) (fun c4 => ?_) (fun c4 => ?_)
    · -- 40 t: v = 0
      refine v_iload_n C dX2_ails_124 rfl ?_
      have e9 : pif (inr 0 4 (nI jd)) (mail n (su x 5 0 0) (nI jd) v) (su x 5 0 1) = su (su x 5 0 0) 14 jd v := by simp [mail, mgod, mgived, pif, c1, c4, hcjd]
      rw [e9]
      refine v_zret C (by first | assumption | exact hbo _ | simp [su, hbo] | (simp [su]; assumption) | decide) dX2_ails_125 ?_
      simp [su_f, pif, c1, c4, hcjd]
    · -- 40 f: not v = 0
      refine v_iload_n C dX2_ails_43 rfl ?_
      refine v_if_ne C 124 dX2_ails_44 (by decide) (fun c5 => ?_) (fun c5 => ?_)
      · -- 44 t: ¬ ((su x 5 0 0) 14 jd) = 0
        refine v_iload_n C dX2_ails_124 rfl ?_
        have e9 : pif (inr 0 4 (nI jd)) (mail n (su x 5 0 0) (nI jd) v) (su x 5 0 1) = su (su x 5 0 0) 14 jd v := by simp [mail, mgod, mgived, pif, c1, c4, c5, hcjd]
        rw [e9]
        refine v_zret C (by first | assumption | exact hbo _ | simp [su, hbo] | (simp [su]; assumption) | decide) dX2_ails_125 ?_
        simp [su_f, pif, c1, c4, c5, hcjd]
      · -- 44 f: not ¬ ((su x 5 0 0) 14 jd) = 0
        refine v_aload_n C dX2_ails_47 rfl ?_
        refine v_bipush C (6) dX2_ails_48 (by decide) ?_
        refine v_iload_n C dX2_ails_50 rfl ?_
        refine vM_cI C (k_X2_release l G cy am (su (su x 5 0 0) 14 jd v) n (by rw [su_f _ _ _ _ (by decide), su_f _ _ _ _ (by decide)]; exact hn) h30 6 (nI jd)) rfl gX2_ails_X2_release (nA := 2) (by decide +kernel) rfl (by decide) (by decide) rfl rfl (Nat.le_of_ble_eq_true rfl) dX2_ails_51 ?_
        refine v_istore C dX2_ails_54 (by decide) ?_
        have hny : it (srel 6 (nI jd)) n (su (su x 5 0 0) 14 jd v) 1 0 = nI n := (it_f (fun c y => srel_f _ _ c y (by decide) (by decide) (by decide)) n _).trans (by rw [su_f _ _ _ _ (by decide), su_f _ _ _ _ (by decide)]; exact hn)
        rcases goF_or 6 (nI jd) (su (su x 5 0 0) 14 jd v) n with hgo | ⟨g, hg, hgo⟩
        · refine V.el (lo' := [some (.ref (am 0)), some (.int (nI jd)), some (.int v), some (.int ((su x 5 0 0) 14 jd)), some (.int (-1)), none]) (by rw [hgo]; rfl) ?_
          refine v_iconst C (0) dX2_ails_56 (by decide) ?_
          refine v_istore C dX2_ails_57 (by decide) ?_
          refine v_iload C dX2_ails_59 rfl ?_
          refine v_iconst C (-1) dX2_ails_61 (by decide) ?_
          refine v_icmp_eq C 88 dX2_ails_62 (by decide) (fun z => ?_) (fun z => absurd z (by decide))
          refine v_iload C dX2_ails_88 rfl ?_
          refine v_iconst C (-1) dX2_ails_90 (by decide) ?_
          refine v_icmp_eq C 109 dX2_ails_91 (by decide) (fun z => ?_) (fun z => absurd z (by decide))
          refine v_iload C dX2_ails_109 rfl ?_
          refine v_iconst C (-1) dX2_ails_111 (by decide) ?_
          refine v_icmp_eq C 124 dX2_ails_112 (by decide) (fun z => ?_) (fun z => absurd z (by decide))
          refine v_iload_n C dX2_ails_124 rfl ?_
          have e9 : pif (inr 0 4 (nI jd)) (mail n (su x 5 0 0) (nI jd) v) (su x 5 0 1) = it (srel 6 (nI jd)) n (su (su x 5 0 0) 14 jd v) := by simp [mail, mgod, mgived, pif, c1, c4, c5, hcjd, hgo]
          rw [e9]
          refine v_zret C (by first | assumption | exact hbo _ | simp [su, hbo] | (simp [su]; assumption) | decide) dX2_ails_125 ?_
          simp [su_f, pif, c1, c4, c5, hcjd, hgo]
        · refine V.el (lo' := [some (.ref (am 0)), some (.int (nI jd)), some (.int v), some (.int ((su x 5 0 0) 14 jd)), some (.int (nI g)), none]) (by rw [hgo]; rfl) ?_
          have hcg : (nI g).toNatClampNeg = g := nI_clamp (by omega)
          have hgm : ¬ nI g = -1 := nI_nm (by omega)
          refine v_iconst C (0) dX2_ails_56 (by decide) ?_
          refine v_istore C dX2_ails_57 (by decide) ?_
          refine V.loop (fun k : Nat => wM cy am (it (srel 6 (nI jd)) n (su (su x 5 0 0) 14 jd v))) (fun k : Nat => ([some (.ref (am 0)), some (.int (nI jd)), some (.int v), some (.int ((su x 5 0 0) 14 jd)), some (.int (nI g)), some (.int (nI k))] : List (Option Value))) (fun k : Nat => mlowd n (it (srel 6 (nI jd)) n (su (su x 5 0 0) 14 jd v)) g = lowF (fun q => mdf n (it (srel 6 (nI jd)) n (su (su x 5 0 0) 14 jd v)) q g) (5 - k) k) 5 ?_ rfl
          intro k hle_k hP_k ih_k
          try dsimp only at hP_k ih_k ⊢
          refine v_iload C dX2_ails_59 rfl ?_
          refine v_iconst C (-1) dX2_ails_61 (by decide) ?_
          refine v_icmp_eq C 88 dX2_ails_62 (by decide) (fun z => absurd z (nI_nm (by omega))) (fun z => ?_)
          refine v_iload C dX2_ails_65 rfl ?_
          refine v_iconst C (5) dX2_ails_67 (by decide) ?_
          refine v_geN C k 5 88 dX2_ails_68 (by decide) rfl rfl (by omega) (by omega) (fun c10 => ?_) (fun c10 => ?_)
          · -- loop 59 is over
            have e_k : 5 = k := by omega
            subst e_k
            have hlb : mlowd n (it (srel 6 (nI jd)) n (su (su x 5 0 0) 14 jd v)) g = -1 := hP_k
            refine v_iload C dX2_ails_88 rfl ?_
            refine v_iconst C (-1) dX2_ails_90 (by decide) ?_
            refine v_icmp_eq C 109 dX2_ails_91 (by decide) (fun z => absurd z (nI_nm (by omega))) (fun z => ?_)
            refine v_iload C dX2_ails_94 rfl ?_
            refine v_iconst C (5) dX2_ails_96 (by decide) ?_
            refine v_icmp_ne C 109 dX2_ails_97 (by decide) (fun z => absurd z (by decide)) (fun z => ?_)
            refine v_aload_n C dX2_ails_100 rfl ?_
            refine v_iload C dX2_ails_101 rfl ?_
            refine vM_cV C (k_X2_lose l G cy am (it (srel 6 (nI jd)) n (su (su x 5 0 0) 14 jd v)) g (by omega)) rfl gX2_ails_X2_lose (nA := 1) (by decide +kernel) rfl (by decide) (by decide) rfl rfl (Nat.le_of_ble_eq_true rfl) dX2_ails_103 ?_
            refine v_goto C 124 dX2_ails_106 (by decide) ?_
            refine v_iload_n C dX2_ails_124 rfl ?_
            have e9 : pif (inr 0 4 (nI jd)) (mail n (su x 5 0 0) (nI jd) v) (su x 5 0 1) = fdrop (it (srel 6 (nI jd)) n (su (su x 5 0 0) 14 jd v)) g 4 := by simp [mail, mgod, mgived, pif, c1, c4, c5, hcjd, hgo, hcg, hgm, hlb]
            rw [e9]
            refine v_zret C (by first | assumption | exact hbo _ | simp [su, hbo] | (simp [su]; assumption) | decide) dX2_ails_125 ?_
            simp [su_f, pif, c1, c4, c5, hcjd, hgo, hcg, hgm, hlb]
          · have hk : k < 5 := c10
            refine v_aload_n C dX2_ails_71 rfl ?_
            refine v_iload C dX2_ails_72 rfl ?_
            refine v_iload C dX2_ails_74 rfl ?_
            refine vM_cI C (k_X2_isFitDriver l G cy am (it (srel 6 (nI jd)) n (su (su x 5 0 0) 14 jd v)) n hny h30 k (by omega) g (by omega)) rfl gX2_ails_X2_isFitDriver (nA := 2) (by decide +kernel) rfl (by decide) (by decide) rfl rfl (Nat.le_of_ble_eq_true rfl) dX2_ails_76 ?_
            refine v_if_ne C 88 dX2_ails_79 (by decide) (fun c13 => ?_) (fun c13 => ?_)
            · -- 79 t: ¬ (b2i (mdf n (it (srel 6 (nI jd)) n (su (su x 5 0 0) 14 jd v)) k g)) = 0
              replace c13 := Classical.not_not.mp (fun z => c13 (b2i_0.mpr z))
              have hlb : mlowd n (it (srel 6 (nI jd)) n (su (su x 5 0 0) 14 jd v)) g = nI k := hP_k.trans ((lowF_s hk).trans (pif_t c13))
              have hck : (nI k).toNatClampNeg = k := nI_clamp (by omega)
              have hkm : ¬ nI k = -1 := nI_nm (by omega)
              refine v_iload C dX2_ails_88 rfl ?_
              refine v_iconst C (-1) dX2_ails_90 (by decide) ?_
              refine v_icmp_eq C 109 dX2_ails_91 (by decide) (fun z => absurd z (nI_nm (by omega))) (fun z => ?_)
              refine v_iload C dX2_ails_94 rfl ?_
              refine v_iconst C (5) dX2_ails_96 (by decide) ?_
              refine v_icmp_ne C 109 dX2_ails_97 (by decide) (fun z => ?_) (fun z => absurd z (fun q => absurd ((nI_eq (show k < 2 ^ 31 by omega) (show (5 : Nat) < 2 ^ 31 by decide)).mp q) (by omega)))
              refine v_iload C dX2_ails_109 rfl ?_
              refine v_iconst C (-1) dX2_ails_111 (by decide) ?_
              refine v_icmp_eq C 124 dX2_ails_112 (by decide) (fun z => absurd z (nI_nm (by omega))) (fun z => ?_)
              refine v_aload_n C dX2_ails_115 rfl ?_
              refine vM_g_drivers C hin2 (by decide +kernel) dX2_ails_116 ?_
              refine v_iload C dX2_ails_119 rfl ?_
              refine v_iload C dX2_ails_121 rfl ?_
              refine vM_s_drivers C g rfl (by omega) dX2_ails_123 ?_
              refine v_iload_n C dX2_ails_124 rfl ?_
              have e9 : pif (inr 0 4 (nI jd)) (mail n (su x 5 0 0) (nI jd) v) (su x 5 0 1) = su (it (srel 6 (nI jd)) n (su (su x 5 0 0) 14 jd v)) 11 g (nI k) := by simp [mail, mgod, mgived, pif, c1, c4, c5, c13, hcjd, hgo, hcg, hgm, hlb, hck, hkm]
              rw [e9]
              refine v_zret C (by first | assumption | exact hbo _ | simp [su, hbo] | (simp [su]; assumption) | decide) dX2_ails_125 ?_
              simp [su_f, pif, c1, c4, c5, c13, hcjd, hgo, hcg, hgm, hlb, hck, hkm]
            · -- 79 f: not ¬ (b2i (mdf n (it (srel 6 (nI jd)) n (su (su x 5 0 0) 14 jd v)) k g)) = 0
              replace c13 := b2i_0.mp c13
              refine v_incN C dX2_ails_82 rfl (by decide) ?_
              refine v_goto C 59 dX2_ails_85 (by decide) ?_
              exact ih_k hk (hP_k.trans ((lowF_s hk).trans (pif_f c13)))
