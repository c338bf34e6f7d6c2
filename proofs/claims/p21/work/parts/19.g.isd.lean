/-! THE LAW: is the class's depot its own? -/
set_option maxHeartbeats 4000000 in
set_option maxRecDepth 100000 in
/-- isDepot -/
theorem k_L_isDepot (l : Launch) (G : va_G) (cy : Nat → ClassId) (al ad : Nat → Nat) (x : Sg) (n : Nat) (hn : x 1 0 = nI n) (h20 : n ≤ 20) (om : Nat) (hom : x 2 0 = nI om) (hom1 : om ≤ 60) (hS : ∀ k, k < n → rowS x k) (xv : Int32) : KI l G cy yL_isDepot wsL_isDepot 4 88 0 0 [.ref (ad 0), .ref (al 9), .ref (al 0), .ref (al 1), .ref (al 2), .ref (al 3), .ref (al 4), .ref (al 7), .int xv] (wL cy al x (wD cy ad x)) 1 (wL cy al x (wD cy ad x)) := by
  refine KI_of (own := RL) (cc := cL_isDepot) (maxL := 12) (ret := (some .boolean)) (lo0 := [some (.ref (ad 0)), some (.ref (al 9)), some (.ref (al 0)), some (.ref (al 1)), some (.ref (al 2)), some (.ref (al 3)), some (.ref (al 4)), some (.ref (al 7)), some (.int xv), none, none, none]) (by decide) rfl rfl (by simp [Value.category]) (Nat.le_of_ble_eq_true rfl) rfl (fun p e s m args below meth c A C => ?_)
  refine v_aload_n C dL_isDepot_0 rfl ?_
  refine v_callVI C (wL cy al x []) [] (w2 := wL cy al x (wD cy ad x)) (k_X1_minute l G cy ad x) rfl gL_isDepot_X1_minute (nA := 0) (by decide +kernel) rfl (by decide) (by decide) rfl (Nat.le_of_ble_eq_true rfl) 0 1 rfl rfl rfl (by simp [wL]) (by simp [wL]) dL_isDepot_1 ?_
  refine v_aload_n C dL_isDepot_4 rfl ?_
  refine v_iconst C (0) dL_isDepot_5 (by decide) ?_
  refine vL_l_n0 C dL_isDepot_6 ?_
  refine v_icmp_ne C 45 dL_isDepot_7 (by decide) (fun z => absurd z (Classical.not_not.mpr rfl)) (fun z => ?_)
  refine v_aload_n C dL_isDepot_10 rfl ?_
  refine v_callVI C (wL cy al x []) [] (w2 := wL cy al x (wD cy ad x)) (k_X1_leader l G cy ad x) rfl gL_isDepot_X1_leader (nA := 0) (by decide +kernel) rfl (by decide) (by decide) rfl (Nat.le_of_ble_eq_true rfl) 0 1 rfl rfl rfl (by simp [wL]) (by simp [wL]) dL_isDepot_11 ?_
  refine v_aload_n C dL_isDepot_14 rfl ?_
  refine v_sI C (k_L_leader l G cy al x (wD cy ad x)) rfl gL_isDepot_L_leader (nA := 1) (by decide +kernel) rfl (by decide) (by decide) rfl (Nat.le_of_ble_eq_true rfl) dL_isDepot_15 ?_
  refine v_icmp_ne C 45 dL_isDepot_18 (by decide) (fun z => absurd z (Classical.not_not.mpr rfl)) (fun z => ?_)
  refine v_aload_n C dL_isDepot_21 rfl ?_
  refine v_callVI C (wL cy al x []) [] (w2 := wL cy al x (wD cy ad x)) (k_X1_runs l G cy ad x) rfl gL_isDepot_X1_runs (nA := 0) (by decide +kernel) rfl (by decide) (by decide) rfl (Nat.le_of_ble_eq_true rfl) 0 1 rfl rfl rfl (by simp [wL]) (by simp [wL]) dL_isDepot_22 ?_
  refine v_aload_n C dL_isDepot_25 rfl ?_
  refine v_iconst C (1) dL_isDepot_26 (by decide) ?_
  refine vL_l_n1 C dL_isDepot_27 ?_
  refine v_icmp_ne C 45 dL_isDepot_28 (by decide) (fun z => absurd z (Classical.not_not.mpr rfl)) (fun z => ?_)
  refine v_aload_n C dL_isDepot_31 rfl ?_
  refine v_callVI C (wL cy al x []) [] (w2 := wL cy al x (wD cy ad x)) (k_X1_orders l G cy ad x) rfl gL_isDepot_X1_orders (nA := 0) (by decide +kernel) rfl (by decide) (by decide) rfl (Nat.le_of_ble_eq_true rfl) 0 1 rfl rfl rfl (by simp [wL]) (by simp [wL]) dL_isDepot_32 ?_
  refine v_aload_n C dL_isDepot_35 rfl ?_
  refine v_iconst C (2) dL_isDepot_36 (by decide) ?_
  refine vL_l_n2 C dL_isDepot_37 ?_
  refine v_icmp_ne C 45 dL_isDepot_38 (by decide) (fun z => absurd z (Classical.not_not.mpr rfl)) (fun z => ?_)
  refine v_iconst C (1) dL_isDepot_41 (by decide) ?_
  refine v_goto C 46 dL_isDepot_42 (by decide) ?_
  refine v_istore C dL_isDepot_46 (by decide) ?_
  refine v_iconst C (0) dL_isDepot_48 (by decide) ?_
  refine v_istore C dL_isDepot_49 (by decide) ?_
  refine V.loop (fun k : Nat => wL cy al x (wD cy ad x)) (fun k : Nat => ([some (.ref (ad 0)), some (.ref (al 9)), some (.ref (al 0)), some (.ref (al 1)), some (.ref (al 2)), some (.ref (al 3)), some (.ref (al 4)), some (.ref (al 7)), some (.int xv), some (.int 1), some (.int (nI k)), none] : List (Option Value))) (fun k : Nat => True) n ?_ trivial
  intro k hle_k hP_k ih_k
  try dsimp only at hP_k ih_k ⊢
  refine v_iload C dL_isDepot_51 rfl ?_
  refine v_aload_n C dL_isDepot_53 rfl ?_
  refine v_iconst C (1) dL_isDepot_54 (by decide) ?_
  refine vL_l_n1 C dL_isDepot_55 ?_
  refine v_geN C k n 122 dL_isDepot_56 (by decide) rfl hn (by omega) (by omega) (fun c5 => ?_) (fun c5 => ?_)
  · -- loop 51 is over
    have e_k : n = k := by omega
    subst e_k
    refine v_iconst C (0) dL_isDepot_122 (by decide) ?_
    refine v_istore C dL_isDepot_123 (by decide) ?_
    refine V.loop (fun k : Nat => wL cy al x (wD cy ad x)) (fun k : Nat => ([some (.ref (ad 0)), some (.ref (al 9)), some (.ref (al 0)), some (.ref (al 1)), some (.ref (al 2)), some (.ref (al 3)), some (.ref (al 4)), some (.ref (al 7)), some (.int xv), some (.int 1), some (.int (nI k)), none] : List (Option Value))) (fun k : Nat => True) 5 ?_ trivial
    intro k hle_k hP_k ih_k
    try dsimp only at hP_k ih_k ⊢
    refine v_iload C dL_isDepot_125 rfl ?_
    refine v_iconst C (5) dL_isDepot_127 (by decide) ?_
    refine v_geN C k 5 227 dL_isDepot_128 (by decide) rfl rfl (by omega) (by omega) (fun c6 => ?_) (fun c6 => ?_)
    · -- loop 125 is over
      have e_k : 5 = k := by omega
      subst e_k
      refine v_iconst C (0) dL_isDepot_227 (by decide) ?_
      refine v_istore C dL_isDepot_228 (by decide) ?_
      refine V.loop (fun k : Nat => wL cy al x (wD cy ad x)) (fun k : Nat => ([some (.ref (ad 0)), some (.ref (al 9)), some (.ref (al 0)), some (.ref (al 1)), some (.ref (al 2)), some (.ref (al 3)), some (.ref (al 4)), some (.ref (al 7)), some (.int xv), some (.int 1), some (.int (nI k)), none] : List (Option Value))) (fun k : Nat => True) om ?_ trivial
      intro k hle_k hP_k ih_k
      try dsimp only at hP_k ih_k ⊢
      refine v_iload C dL_isDepot_230 rfl ?_
      refine v_aload_n C dL_isDepot_232 rfl ?_
      refine v_iconst C (2) dL_isDepot_233 (by decide) ?_
      refine vL_l_n2 C dL_isDepot_234 ?_
      refine v_geN C k om 270 dL_isDepot_235 (by decide) rfl hom (by omega) (by omega) (fun c7 => ?_) (fun c7 => ?_)
      · -- loop 230 is over
        have e_k : om = k := by omega
        subst e_k
        refine v_iload C dL_isDepot_270 rfl ?_
        refine v_zret C rfl dL_isDepot_272 ?_
        rfl
      · have hk : k < om := c7
        refine v_iload C dL_isDepot_238 rfl ?_
        refine v_if_eq C 270 dL_isDepot_240 (by decide) (fun z => absurd z (by decide)) (fun z => ?_)
        refine v_aload_n C dL_isDepot_243 rfl ?_
        refine v_iload C dL_isDepot_244 rfl ?_
        refine v_callVI C (wL cy al x []) [] (w2 := wL cy al x (wD cy ad x)) (k0_X1_orderAt l G cy ad x om hom (by omega) k (by omega)) rfl gL_isDepot_X1_orderAt (nA := 1) (by decide +kernel) rfl (by decide) (by decide) rfl (Nat.le_of_ble_eq_true rfl) 0 1 rfl rfl rfl (by simp [wL]) (by simp [wL]) dL_isDepot_246 ?_
        refine v_aload C dL_isDepot_249 rfl ?_
        refine v_iload C dL_isDepot_251 rfl ?_
        refine vL_l_l C k rfl (by omega) dL_isDepot_253 ?_
        refine v_icmp_ne C 261 dL_isDepot_254 (by decide) (fun z => absurd z (Classical.not_not.mpr rfl)) (fun z => ?_)
        refine v_iconst C (1) dL_isDepot_257 (by decide) ?_
        refine v_goto C 262 dL_isDepot_258 (by decide) ?_
        refine v_istore C dL_isDepot_262 (by decide) ?_
        refine v_incN C dL_isDepot_264 rfl (by decide) ?_
        refine v_goto C 230 dL_isDepot_267 (by decide) ?_
        exact (ih_k hk trivial)
    · have hk : k < 5 := c6
      refine v_iload C dL_isDepot_131 rfl ?_
      refine v_if_eq C 227 dL_isDepot_133 (by decide) (fun z => absurd z (by decide)) (fun z => ?_)
      refine v_aload_n C dL_isDepot_136 rfl ?_
      refine v_iconst C (0) dL_isDepot_137 (by decide) ?_
      refine vL_l_n0 C dL_isDepot_138 ?_
      refine v_sipush C (1440) dL_isDepot_139 (by decide) ?_
      refine v_idiv C dL_isDepot_142 (by decide) ?_
      refine v_iload C dL_isDepot_143 rfl ?_
      refine v_iload C dL_isDepot_145 rfl ?_
      refine v_iadd C dL_isDepot_147 ?_
      refine v_iconst C (3) dL_isDepot_148 (by decide) ?_
      refine v_irem C dL_isDepot_149 (by decide) ?_
      refine v_iadd C dL_isDepot_150 ?_
      refine v_iconst C (1) dL_isDepot_151 (by decide) ?_
      refine v_isub C dL_isDepot_152 ?_
      refine v_istore C dL_isDepot_153 (by decide) ?_
      refine v_aload_n C dL_isDepot_155 rfl ?_
      refine v_iload C dL_isDepot_156 rfl ?_
      refine v_callVI C (wL cy al x []) [] (w2 := wL cy al x (wD cy ad x)) (k0_X1_charge l G cy ad x k (by omega)) rfl gL_isDepot_X1_charge (nA := 1) (by decide +kernel) rfl (by decide) (by decide) rfl (Nat.le_of_ble_eq_true rfl) 0 1 rfl rfl rfl (by simp [wL]) (by simp [wL]) dL_isDepot_158 ?_
      refine v_aload C dL_isDepot_161 rfl ?_
      refine v_iconst C (2) dL_isDepot_163 (by decide) ?_
      refine v_iload C dL_isDepot_164 rfl ?_
      refine v_imul C dL_isDepot_166 ?_
      refine vL_l_b0 C k rfl (by omega) dL_isDepot_167 ?_
      refine v_icmp_ne C 218 dL_isDepot_168 (by decide) (fun z => absurd z (Classical.not_not.mpr rfl)) (fun z => ?_)
      refine v_aload_n C dL_isDepot_171 rfl ?_
      refine v_iload C dL_isDepot_172 rfl ?_
      refine v_callVI C (wL cy al x []) [] (w2 := wL cy al x (wD cy ad x)) (k0_X1_promised l G cy ad x n hn (by omega) k (by omega)) rfl gL_isDepot_X1_promised (nA := 1) (by decide +kernel) rfl (by decide) (by decide) rfl (Nat.le_of_ble_eq_true rfl) 0 1 rfl rfl rfl (by simp [wL]) (by simp [wL]) dL_isDepot_174 ?_
      refine v_aload_n C dL_isDepot_177 rfl ?_
      refine v_aload_n C dL_isDepot_178 rfl ?_
      refine v_aload_n C dL_isDepot_179 rfl ?_
      refine v_aload C dL_isDepot_180 rfl ?_
      refine v_iload C dL_isDepot_182 rfl ?_
      refine v_sI C (k_L_promised l G cy al x (wD cy ad x) n hn h20 (nI k)) rfl gL_isDepot_L_promised (nA := 5) (by decide +kernel) rfl (by decide) (by decide) rfl (Nat.le_of_ble_eq_true rfl) dL_isDepot_184 ?_
      refine v_icmp_ne C 218 dL_isDepot_187 (by decide) (fun z => absurd z (Classical.not_not.mpr rfl)) (fun z => ?_)
      refine v_aload_n C dL_isDepot_190 rfl ?_
      refine v_iload C dL_isDepot_191 rfl ?_
      refine v_iload C dL_isDepot_193 rfl ?_
      refine v_callVI C (wL cy al x []) [] (w2 := wL cy al x (wD cy ad x)) (k0_X1_minutesOf l G cy ad x n hn (by omega) k (by omega) ((((x 0 0) / 1440) + ((xv + (nI k)) - (xv + (nI k)) / 3 * 3)) - 1)) rfl gL_isDepot_X1_minutesOf (nA := 2) (by decide +kernel) rfl (by decide) (by decide) rfl (Nat.le_of_ble_eq_true rfl) 0 1 rfl rfl rfl (by simp [wL]) (by simp [wL]) dL_isDepot_195 ?_
      refine v_aload_n C dL_isDepot_198 rfl ?_
      refine v_aload_n C dL_isDepot_199 rfl ?_
      refine v_aload_n C dL_isDepot_200 rfl ?_
      refine v_aload C dL_isDepot_201 rfl ?_
      refine v_iload C dL_isDepot_203 rfl ?_
      refine v_iload C dL_isDepot_205 rfl ?_
      refine v_iconst C (-1) dL_isDepot_207 (by decide) ?_
      refine v_sI C (k_L_minutes l G cy al x (wD cy ad x) n hn h20 (nI k) ((((x 0 0) / 1440) + ((xv + (nI k)) - (xv + (nI k)) / 3 * 3)) - 1) (-1)) rfl gL_isDepot_L_minutes (nA := 7) (by decide +kernel) rfl (by decide) (by decide) rfl (Nat.le_of_ble_eq_true rfl) dL_isDepot_208 ?_
      refine V.es (st' := [.int (fwork n x (nI k) ((((x 0 0) / 1440) + ((xv + (nI k)) - (xv + (nI k)) / 3 * 3)) - 1)), .int (fwork n x (nI k) ((((x 0 0) / 1440) + ((xv + (nI k)) - (xv + (nI k)) / 3 * 3)) - 1))]) (by rw [fmn_all hS h20 (by omega)]) ?_
      refine v_icmp_ne C 218 dL_isDepot_211 (by decide) (fun z => absurd z (Classical.not_not.mpr rfl)) (fun z => ?_)
      refine v_iconst C (1) dL_isDepot_214 (by decide) ?_
      refine v_goto C 219 dL_isDepot_215 (by decide) ?_
      refine v_istore C dL_isDepot_219 (by decide) ?_
      refine v_incN C dL_isDepot_221 rfl (by decide) ?_
      refine v_goto C 125 dL_isDepot_224 (by decide) ?_
      exact (V.lof 11 (ih_k hk trivial))
  · have hk : k < n := c5
    refine v_iload C dL_isDepot_59 rfl ?_
    refine v_if_eq C 122 dL_isDepot_61 (by decide) (fun z => absurd z (by decide)) (fun z => ?_)
    refine v_aload_n C dL_isDepot_64 rfl ?_
    refine v_iload C dL_isDepot_65 rfl ?_
    refine v_callVI C (wL cy al x []) [] (w2 := wL cy al x (wD cy ad x)) (k0_X1_stateOf l G cy ad x n hn (by omega) k (by omega)) rfl gL_isDepot_X1_stateOf (nA := 1) (by decide +kernel) rfl (by decide) (by decide) rfl (Nat.le_of_ble_eq_true rfl) 0 1 rfl rfl rfl (by simp [wL]) (by simp [wL]) dL_isDepot_67 ?_
    refine v_aload_n C dL_isDepot_70 rfl ?_
    refine v_iload C dL_isDepot_71 rfl ?_
    refine vL_l_s C k rfl (by omega) dL_isDepot_73 ?_
    refine v_icmp_ne C 113 dL_isDepot_74 (by decide) (fun z => absurd z (Classical.not_not.mpr rfl)) (fun z => ?_)
    refine v_aload_n C dL_isDepot_77 rfl ?_
    refine v_iload C dL_isDepot_78 rfl ?_
    refine v_callVI C (wL cy al x []) [] (w2 := wL cy al x (wD cy ad x)) (k0_X1_busOf l G cy ad x n hn (by omega) k (by omega)) rfl gL_isDepot_X1_busOf (nA := 1) (by decide +kernel) rfl (by decide) (by decide) rfl (Nat.le_of_ble_eq_true rfl) 0 1 rfl rfl rfl (by simp [wL]) (by simp [wL]) dL_isDepot_80 ?_
    refine v_aload C dL_isDepot_83 rfl ?_
    refine v_iload C dL_isDepot_85 rfl ?_
    refine vL_l_w C k rfl (by omega) dL_isDepot_87 ?_
    refine v_iconst C (1) dL_isDepot_88 (by decide) ?_
    refine v_isub C dL_isDepot_89 ?_
    refine V.es (st' := [.int (x 10 k), .int (x 10 k)]) (by rw [Int32.add_sub_cancel]) ?_
    refine v_icmp_ne C 113 dL_isDepot_90 (by decide) (fun z => absurd z (Classical.not_not.mpr rfl)) (fun z => ?_)
    refine v_aload_n C dL_isDepot_93 rfl ?_
    refine v_iload C dL_isDepot_94 rfl ?_
    refine v_callVI C (wL cy al x []) [] (w2 := wL cy al x (wD cy ad x)) (k0_X1_driverOf l G cy ad x n hn (by omega) k (by omega)) rfl gL_isDepot_X1_driverOf (nA := 1) (by decide +kernel) rfl (by decide) (by decide) rfl (Nat.le_of_ble_eq_true rfl) 0 1 rfl rfl rfl (by simp [wL]) (by simp [wL]) dL_isDepot_96 ?_
    refine v_aload C dL_isDepot_99 rfl ?_
    refine v_iload C dL_isDepot_101 rfl ?_
    refine vL_l_d C k rfl (by omega) dL_isDepot_103 ?_
    refine v_iconst C (1) dL_isDepot_104 (by decide) ?_
    refine v_isub C dL_isDepot_105 ?_
    refine V.es (st' := [.int (x 11 k), .int (x 11 k)]) (by rw [Int32.add_sub_cancel]) ?_
    refine v_icmp_ne C 113 dL_isDepot_106 (by decide) (fun z => absurd z (Classical.not_not.mpr rfl)) (fun z => ?_)
    refine v_iconst C (1) dL_isDepot_109 (by decide) ?_
    refine v_goto C 114 dL_isDepot_110 (by decide) ?_
    refine v_istore C dL_isDepot_114 (by decide) ?_
    refine v_incN C dL_isDepot_116 rfl (by decide) ?_
    refine v_goto C 51 dL_isDepot_119 (by decide) ?_
    exact (ih_k hk trivial)
