/-! DepotLogModel: its public methods that change it -/
theorem add1_1 (a : Int32) : a + 1 - 1 = a := by rw [Int32.add_sub_cancel]
def mokrun (x : Sg) (st mi q : Int32) : Prop := inr (x 0 0 + 1) 20000 st ∧ inr 1 600 mi ∧ ¬ 1440 < st - st / 1440 * 1440 + mi ∧ inr 0 100 q
noncomputable def mcrun (x : Sg) (st mi q : Int32) : Int32 := pif (mokrun x st mi q) (pif (x 1 0 = 30) 2 0) 1
def mrun (n : Nat) (y : Sg) (st mi q : Int32) : Sg := su (mfree (su (su (su (su y 6 n st) 7 n (st + mi)) 8 n q) 9 n 0) n) 1 0 (y 1 0 + 1)
noncomputable def mclead (d mi : Int32) : Int32 := pif (inr 0 1 d) (pif (inr 1 1000 mi) 0 2) 1
noncomputable def mlead (x : Sg) (d mi : Int32) : Sg := pif (inr 0 1 d ∧ inr 1 1000 mi) (fleads (su x 5 0 0) d mi) (su x 5 0 (mclead d mi))
noncomputable def mclplug (n : Nat) (x : Sg) (b ch : Int32) : Int32 := pif (inr 0 4 b ∧ inr 0 1 ch) (pif (under n x b) 2 0) 1
noncomputable def mplug (n : Nat) (x : Sg) (b ch : Int32) : Sg := pif (inr 0 4 b ∧ inr 0 1 ch ∧ ¬ under n x b) (fplug (su x 5 0 0) b ch) (su x 5 0 (mclplug n x b ch))
noncomputable def mcadv (x : Sg) (mi : Int32) : Int32 := pif (inr 1 1000 mi) (pif (30000 < x 0 0 + mi) 2 0) 1
noncomputable def madv (n : Nat) (x : Sg) (mi : Int32) : Sg := pif (inr 1 1000 mi ∧ ¬ 30000 < x 0 0 + mi) (fadv n (su x 5 0 0) mi) (su x 5 0 (mcadv x mi))
noncomputable def mcord (n : Nat) (x : Sg) (dp mk r b d : Int32) : Int32 := pif (inr 0 1 dp ∧ inr 0 (x 1 0 - 1) r ∧ inr 0 4 b ∧ inr 0 4 d) (pif (inr 0 999 mk) (pif (su x 5 0 0 17 mk.toNatClampNeg = -1) (pif (flead (su x 5 0 0) = dp ∧ su x 5 0 0 9 r.toNatClampNeg = 0 ∧ su x 5 0 0 0 0 < su x 5 0 0 6 r.toNatClampNeg ∧ mbf n (su x 5 0 0) b.toNatClampNeg r.toNatClampNeg ∧ mdf n (su x 5 0 0) d.toNatClampNeg r.toNatClampNeg) 0 3) 0) 2) 1
noncomputable def mord (n om : Nat) (x : Sg) (dp mk r b d : Int32) : Sg := pif (mcord n x dp mk r b d = 0) (forder om (su x 5 0 0) mk r b d) (su x 5 0 (mcord n x dp mk r b d))
noncomputable def mlowb (n : Nat) (y : Sg) (g : Nat) : Int32 := lowF (fun q => mbf n y q g) 5 0
noncomputable def mlowd (n : Nat) (y : Sg) (g : Nat) : Int32 := lowF (fun q => mdf n y q g) 5 0
noncomputable def mgiveb (n : Nat) (y : Sg) (g : Nat) : Sg := pif (mlowb n y g = -1) (fdrop y g 4) (funplug (su (su y 10 g (mlowb n y g)) 12 (mlowb n y g).toNatClampNeg (su y 10 g (mlowb n y g) 12 (mlowb n y g).toNatClampNeg - su y 10 g (mlowb n y g) 8 g)) (mlowb n y g))
noncomputable def mgived (n : Nat) (y : Sg) (g : Nat) : Sg := pif (mlowd n y g = -1) (fdrop y g 4) (su y 11 g (mlowd n y g))
noncomputable def mgob (n : Nat) (y : Sg) (g : Int32) : Sg := pif (g = -1) y (mgiveb n y g.toNatClampNeg)
noncomputable def mgod (n : Nat) (y : Sg) (g : Int32) : Sg := pif (g = -1) y (mgived n y g.toNatClampNeg)
noncomputable def mbrk (n : Nat) (z : Sg) (b v : Int32) : Sg := pif (v = 0) (su z 13 b.toNatClampNeg v) (mgob n (it (srel b 6) n (funplug (su z 13 b.toNatClampNeg v) b)) (goF b 6 (funplug (su z 13 b.toNatClampNeg v) b) n))
noncomputable def mail (n : Nat) (z : Sg) (d v : Int32) : Sg := pif (v = 0 ∨ ¬ z 14 d.toNatClampNeg = 0) (su z 14 d.toNatClampNeg v) (mgod n (it (srel 6 d) n (su z 14 d.toNatClampNeg v)) (goF 6 d (su z 14 d.toNatClampNeg v) n))
set_option maxHeartbeats 4000000 in
set_option maxRecDepth 100000 in
/-- run(st, mi, q) -/
theorem k_X2_run (l : Launch) (G : va_G) (cy : Nat → ClassId) (am : Nat → Nat) (x : Sg) (n : Nat) (hn : x 1 0 = nI n) (h30 : n ≤ 30) (st mi q : Int32) : KI l G cy yX2_run wsX2_run 1 22 0 0 [.ref (am 0), .int st, .int mi, .int q] (wM cy am x) (pif (mcrun x st mi q = 0) (x 1 0) 0) (wM cy am (pif (mcrun x st mi q = 0) (mrun n (su x 5 0 0) st mi q) (su x 5 0 (mcrun x st mi q)))) := by
  have hin2 : ∀ q ∈ u_ws RX2 TX2 18, q ∈ wsX2_run := by decide +kernel
  refine KI_of (own := RX2) (cc := cX2_run) (maxL := 4) (ret := (some .int)) (lo0 := [some (.ref (am 0)), some (.int st), some (.int mi), some (.int q)]) (by decide) rfl rfl (by simp [Value.category]) (Nat.le_of_ble_eq_true rfl) rfl (fun p e s m args below meth c A C => ?_)
  refine v_aload_n C dX2_run_0 rfl ?_
  refine v_iload_n C dX2_run_1 rfl ?_
  refine v_aload_n C dX2_run_2 rfl ?_
  refine vM_g_now C hin2 (by decide +kernel) dX2_run_3 ?_
  refine v_iconst C (1) dX2_run_6 (by decide) ?_
  refine v_iadd C dX2_run_7 ?_
  refine v_sipush C (20000) dX2_run_8 (by decide) ?_
  refine v_sI C (k_X2_in l G cy (wM cy am x) st ((x 0 0) + 1) 20000) rfl gX2_run_X2_in (nA := 3) (by decide +kernel) rfl (by decide) (by decide) rfl (Nat.le_of_ble_eq_true rfl) dX2_run_11 ?_
  refine v_if_eq C 51 dX2_run_14 (by decide) (fun c1 => ?_) (fun c1 => ?_)
  · -- 14 t: (b2i (inr ((x 0 0) + 1) 20000 st)) = 0
    replace c1 := b2i_0.mp c1
    refine v_iconst C (1) dX2_run_51 (by decide) ?_
    refine v_goto C 69 dX2_run_52 (by decide) ?_
    refine vM_p_thrown C hin2 (by decide +kernel) dX2_run_69 ?_
    refine v_aload_n C dX2_run_72 rfl ?_
    refine vM_g_thrown C hin2 (by decide +kernel) dX2_run_73 ?_
    refine V.es (st' := [.int 1]) (by rw [su_s]) ?_
    refine v_if_le C 81 dX2_run_76 (by decide) (fun z => absurd z (by decide)) (fun z => ?_)
    refine v_iconst C (0) dX2_run_79 (by decide) ?_
    have e9 : pif (mcrun x st mi q = 0) (mrun n (su x 5 0 0) st mi q) (su x 5 0 (mcrun x st mi q)) = su x 5 0 1 := by simp [mcrun, mokrun, mrun, mfree, su_f, pif, c1]
    rw [e9]
    refine v_iret C dX2_run_80 ?_
    simp [mcrun, mokrun, mfree, su_f, add1_1, pif, c1]
  · -- 14 f: not (b2i (inr ((x 0 0) + 1) 20000 st)) = 0
    replace c1 := Classical.not_not.mp (fun z => c1 (b2i_0.mpr z))
    refine v_iload_n C dX2_run_17 rfl ?_
    refine v_iconst C (1) dX2_run_18 (by decide) ?_
    refine v_sipush C (600) dX2_run_19 (by decide) ?_
    refine v_sI C (k_X2_in l G cy (wM cy am x) mi 1 600) rfl gX2_run_X2_in (nA := 3) (by decide +kernel) rfl (by decide) (by decide) rfl (Nat.le_of_ble_eq_true rfl) dX2_run_22 ?_
    refine v_if_eq C 51 dX2_run_25 (by decide) (fun c3 => ?_) (fun c3 => ?_)
    · -- 25 t: (b2i (inr 1 600 mi)) = 0
      replace c3 := b2i_0.mp c3
      refine v_iconst C (1) dX2_run_51 (by decide) ?_
      refine v_goto C 69 dX2_run_52 (by decide) ?_
      refine vM_p_thrown C hin2 (by decide +kernel) dX2_run_69 ?_
      refine v_aload_n C dX2_run_72 rfl ?_
      refine vM_g_thrown C hin2 (by decide +kernel) dX2_run_73 ?_
      refine V.es (st' := [.int 1]) (by rw [su_s]) ?_
      refine v_if_le C 81 dX2_run_76 (by decide) (fun z => absurd z (by decide)) (fun z => ?_)
      refine v_iconst C (0) dX2_run_79 (by decide) ?_
      have e9 : pif (mcrun x st mi q = 0) (mrun n (su x 5 0 0) st mi q) (su x 5 0 (mcrun x st mi q)) = su x 5 0 1 := by simp [mcrun, mokrun, mrun, mfree, su_f, pif, c1, c3]
      rw [e9]
      refine v_iret C dX2_run_80 ?_
      simp [mcrun, mokrun, mfree, su_f, add1_1, pif, c1, c3]
    · -- 25 f: not (b2i (inr 1 600 mi)) = 0
      replace c3 := Classical.not_not.mp (fun z => c3 (b2i_0.mpr z))
      refine v_iload_n C dX2_run_28 rfl ?_
      refine v_sipush C (1440) dX2_run_29 (by decide) ?_
      refine v_irem C dX2_run_32 (by decide) ?_
      refine v_iload_n C dX2_run_33 rfl ?_
      refine v_iadd C dX2_run_34 ?_
      refine v_sipush C (1440) dX2_run_35 (by decide) ?_
      refine v_icmp_gt C 51 dX2_run_38 (by decide) (fun c5 => ?_) (fun c5 => ?_)
      · -- 38 t: 1440 < ((st - st / 1440 * 1440) + mi)
        refine v_iconst C (1) dX2_run_51 (by decide) ?_
        refine v_goto C 69 dX2_run_52 (by decide) ?_
        refine vM_p_thrown C hin2 (by decide +kernel) dX2_run_69 ?_
        refine v_aload_n C dX2_run_72 rfl ?_
        refine vM_g_thrown C hin2 (by decide +kernel) dX2_run_73 ?_
        refine V.es (st' := [.int 1]) (by rw [su_s]) ?_
        refine v_if_le C 81 dX2_run_76 (by decide) (fun z => absurd z (by decide)) (fun z => ?_)
        refine v_iconst C (0) dX2_run_79 (by decide) ?_
        have e9 : pif (mcrun x st mi q = 0) (mrun n (su x 5 0 0) st mi q) (su x 5 0 (mcrun x st mi q)) = su x 5 0 1 := by simp [mcrun, mokrun, mrun, mfree, su_f, pif, c1, c3, c5]
        rw [e9]
        refine v_iret C dX2_run_80 ?_
        simp [mcrun, mokrun, mfree, su_f, add1_1, pif, c1, c3, c5]
      · -- 38 f: not 1440 < ((st - st / 1440 * 1440) + mi)
        refine v_iload_n C dX2_run_41 rfl ?_
        refine v_iconst C (0) dX2_run_42 (by decide) ?_
        refine v_bipush C (100) dX2_run_43 (by decide) ?_
        refine v_sI C (k_X2_in l G cy (wM cy am x) q 0 100) rfl gX2_run_X2_in (nA := 3) (by decide +kernel) rfl (by decide) (by decide) rfl (Nat.le_of_ble_eq_true rfl) dX2_run_45 ?_
        refine v_if_ne C 55 dX2_run_48 (by decide) (fun c7 => ?_) (fun c7 => ?_)
        · -- 48 t: ¬ (b2i (inr 0 100 q)) = 0
          replace c7 := Classical.not_not.mp (fun z => c7 (b2i_0.mpr z))
          refine v_aload_n C dX2_run_55 rfl ?_
          refine vM_g_runMany C hin2 (by decide +kernel) dX2_run_56 ?_
          refine v_bipush C (30) dX2_run_59 (by decide) ?_
          refine v_icmp_ne C 68 dX2_run_61 (by decide) (fun c8 => ?_) (fun c8 => ?_)
          · -- 61 t: ¬ (x 1 0) = 30
            have hn30 : n < 30 := by
              rcases Nat.lt_or_ge n 30 with q | q
              · exact q
              · exact absurd (by rw [hn, show n = 30 by omega]; rfl : x 1 0 = 30) c8
            refine v_iconst C (0) dX2_run_68 (by decide) ?_
            refine vM_p_thrown C hin2 (by decide +kernel) dX2_run_69 ?_
            refine v_aload_n C dX2_run_72 rfl ?_
            refine vM_g_thrown C hin2 (by decide +kernel) dX2_run_73 ?_
            refine V.es (st' := [.int 0]) (by rw [su_s]) ?_
            refine v_if_le C 81 dX2_run_76 (by decide) (fun z => ?_) (fun z => absurd z (by decide))
            refine v_aload_n C dX2_run_81 rfl ?_
            refine vM_g_starts C hin2 (by decide +kernel) dX2_run_82 ?_
            refine v_aload_n C dX2_run_85 rfl ?_
            refine vM_g_runMany C hin2 (by decide +kernel) dX2_run_86 ?_
            refine v_iload_n C dX2_run_89 rfl ?_
            refine vM_s_starts C n (by rw [su_f _ _ _ _ (by decide)]; exact hn) (by omega) dX2_run_90 ?_
            refine v_aload_n C dX2_run_91 rfl ?_
            refine vM_g_ends C hin2 (by decide +kernel) dX2_run_92 ?_
            refine v_aload_n C dX2_run_95 rfl ?_
            refine vM_g_runMany C hin2 (by decide +kernel) dX2_run_96 ?_
            refine v_iload_n C dX2_run_99 rfl ?_
            refine v_iload_n C dX2_run_100 rfl ?_
            refine v_iadd C dX2_run_101 ?_
            refine vM_s_ends C n (by rw [su_f _ _ _ _ (by decide), su_f _ _ _ _ (by decide)]; exact hn) (by omega) dX2_run_102 ?_
            refine v_aload_n C dX2_run_103 rfl ?_
            refine vM_g_needs C hin2 (by decide +kernel) dX2_run_104 ?_
            refine v_aload_n C dX2_run_107 rfl ?_
            refine vM_g_runMany C hin2 (by decide +kernel) dX2_run_108 ?_
            refine v_iload_n C dX2_run_111 rfl ?_
            refine vM_s_needs C n (by rw [su_f _ _ _ _ (by decide), su_f _ _ _ _ (by decide), su_f _ _ _ _ (by decide)]; exact hn) (by omega) dX2_run_112 ?_
            refine v_aload_n C dX2_run_113 rfl ?_
            refine vM_g_states C hin2 (by decide +kernel) dX2_run_114 ?_
            refine v_aload_n C dX2_run_117 rfl ?_
            refine vM_g_runMany C hin2 (by decide +kernel) dX2_run_118 ?_
            refine v_iconst C (0) dX2_run_121 (by decide) ?_
            refine vM_s_states C n (by rw [su_f _ _ _ _ (by decide), su_f _ _ _ _ (by decide), su_f _ _ _ _ (by decide), su_f _ _ _ _ (by decide)]; exact hn) (by omega) dX2_run_122 ?_
            refine v_aload_n C dX2_run_123 rfl ?_
            refine v_aload_n C dX2_run_124 rfl ?_
            refine vM_g_runMany C hin2 (by decide +kernel) dX2_run_125 ?_
            refine V.es (st' := [.int (nI n), .ref (am 0)]) (by rw [show (su (su (su (su (su x 5 0 0) 6 n st) 7 n (st + mi)) 8 n q) 9 n 0) 1 0 = nI n from (by rw [su_f _ _ _ _ (by decide), su_f _ _ _ _ (by decide), su_f _ _ _ _ (by decide), su_f _ _ _ _ (by decide), su_f _ _ _ _ (by decide)]; exact hn)]) ?_
            refine vM_cV C (k_X2_free l G cy am (su (su (su (su (su x 5 0 0) 6 n st) 7 n (st + mi)) 8 n q) 9 n 0) n (by omega)) rfl gX2_run_X2_free (nA := 1) (by decide +kernel) rfl (by decide) (by decide) rfl rfl (Nat.le_of_ble_eq_true rfl) dX2_run_128 ?_
            refine v_aload_n C dX2_run_131 rfl ?_
            refine v_dup C dX2_run_132 rfl ?_
            refine vM_g_runMany C hin2 (by decide +kernel) dX2_run_133 ?_
            refine v_iconst C (1) dX2_run_136 (by decide) ?_
            refine v_iadd C dX2_run_137 ?_
            refine vM_p_runMany C hin2 (by decide +kernel) dX2_run_138 ?_
            refine v_aload_n C dX2_run_141 rfl ?_
            refine vM_g_runMany C hin2 (by decide +kernel) dX2_run_142 ?_
            refine V.es (st' := [.int (((mfree (su (su (su (su (su x 5 0 0) 6 n st) 7 n (st + mi)) 8 n q) 9 n 0) n) 1 0) + 1)]) (by rw [su_s]) ?_
            refine v_iconst C (1) dX2_run_145 (by decide) ?_
            refine v_isub C dX2_run_146 ?_
            have e9 : pif (mcrun x st mi q = 0) (mrun n (su x 5 0 0) st mi q) (su x 5 0 (mcrun x st mi q)) = su (mfree (su (su (su (su (su x 5 0 0) 6 n st) 7 n (st + mi)) 8 n q) 9 n 0) n) 1 0 (((mfree (su (su (su (su (su x 5 0 0) 6 n st) 7 n (st + mi)) 8 n q) 9 n 0) n) 1 0) + 1) := by simp [mcrun, mokrun, mrun, mfree, su_f, pif, c1, c3, c5, c7, c8]
            rw [e9]
            refine v_iret C dX2_run_147 ?_
            simp [mcrun, mokrun, mfree, su_f, add1_1, pif, c1, c3, c5, c7, c8]
          · -- 61 f: not ¬ (x 1 0) = 30
            refine v_iconst C (2) dX2_run_64 (by decide) ?_
            refine v_goto C 69 dX2_run_65 (by decide) ?_
            refine vM_p_thrown C hin2 (by decide +kernel) dX2_run_69 ?_
            refine v_aload_n C dX2_run_72 rfl ?_
            refine vM_g_thrown C hin2 (by decide +kernel) dX2_run_73 ?_
            refine V.es (st' := [.int 2]) (by rw [su_s]) ?_
            refine v_if_le C 81 dX2_run_76 (by decide) (fun z => absurd z (by decide)) (fun z => ?_)
            refine v_iconst C (0) dX2_run_79 (by decide) ?_
            have e9 : pif (mcrun x st mi q = 0) (mrun n (su x 5 0 0) st mi q) (su x 5 0 (mcrun x st mi q)) = su x 5 0 2 := by simp [mcrun, mokrun, mrun, mfree, su_f, pif, c1, c3, c5, c7, c8]
            rw [e9]
            refine v_iret C dX2_run_80 ?_
            simp [mcrun, mokrun, mfree, su_f, add1_1, pif, c1, c3, c5, c7, c8]
        · -- 48 f: not ¬ (b2i (inr 0 100 q)) = 0
          replace c7 := b2i_0.mp c7
          refine v_iconst C (1) dX2_run_51 (by decide) ?_
          refine v_goto C 69 dX2_run_52 (by decide) ?_
          refine vM_p_thrown C hin2 (by decide +kernel) dX2_run_69 ?_
          refine v_aload_n C dX2_run_72 rfl ?_
          refine vM_g_thrown C hin2 (by decide +kernel) dX2_run_73 ?_
          refine V.es (st' := [.int 1]) (by rw [su_s]) ?_
          refine v_if_le C 81 dX2_run_76 (by decide) (fun z => absurd z (by decide)) (fun z => ?_)
          refine v_iconst C (0) dX2_run_79 (by decide) ?_
          have e9 : pif (mcrun x st mi q = 0) (mrun n (su x 5 0 0) st mi q) (su x 5 0 (mcrun x st mi q)) = su x 5 0 1 := by simp [mcrun, mokrun, mrun, mfree, su_f, pif, c1, c3, c5, c7]
          rw [e9]
          refine v_iret C dX2_run_80 ?_
          simp [mcrun, mokrun, mfree, su_f, add1_1, pif, c1, c3, c5, c7]
set_option maxHeartbeats 4000000 in
set_option maxRecDepth 100000 in
/-- lead(d, mi) -/
theorem k_X2_lead (l : Launch) (G : va_G) (cy : Nat → ClassId) (am : Nat → Nat) (x : Sg) (d mi : Int32) : KI l G cy yX2_lead wsX2_lead 1 22 0 0 [.ref (am 0), .int d, .int mi] (wM cy am x) (b2i ((inr 0 1 d ∧ inr 1 1000 mi) ∧ ledby (su x 5 0 0) d)) (wM cy am (mlead x d mi)) := by
  have hin2 : ∀ q ∈ u_ws RX2 TX2 18, q ∈ wsX2_lead := by decide +kernel
  refine KI_of (own := RX2) (cc := cX2_lead) (maxL := 3) (ret := (some .boolean)) (lo0 := [some (.ref (am 0)), some (.int d), some (.int mi)]) (by decide) rfl rfl (by simp [Value.category]) (Nat.le_of_ble_eq_true rfl) rfl (fun p e s m args below meth c A C => ?_)
  refine v_aload_n C dX2_lead_0 rfl ?_
  refine v_iload_n C dX2_lead_1 rfl ?_
  refine v_iconst C (0) dX2_lead_2 (by decide) ?_
  refine v_iconst C (1) dX2_lead_3 (by decide) ?_
  refine v_sI C (k_X2_in l G cy (wM cy am x) d 0 1) rfl gX2_lead_X2_in (nA := 3) (by decide +kernel) rfl (by decide) (by decide) rfl (Nat.le_of_ble_eq_true rfl) dX2_lead_4 ?_
  refine v_if_ne C 14 dX2_lead_7 (by decide) (fun c1 => ?_) (fun c1 => ?_)
  · -- 7 t: ¬ (b2i (inr 0 1 d)) = 0
    replace c1 := Classical.not_not.mp (fun z => c1 (b2i_0.mpr z))
    refine v_iload_n C dX2_lead_14 rfl ?_
    refine v_iconst C (1) dX2_lead_15 (by decide) ?_
    refine v_sipush C (1000) dX2_lead_16 (by decide) ?_
    refine v_sI C (k_X2_in l G cy (wM cy am x) mi 1 1000) rfl gX2_lead_X2_in (nA := 3) (by decide +kernel) rfl (by decide) (by decide) rfl (Nat.le_of_ble_eq_true rfl) dX2_lead_19 ?_
    refine v_if_ne C 29 dX2_lead_22 (by decide) (fun c2 => ?_) (fun c2 => ?_)
    · -- 22 t: ¬ (b2i (inr 1 1000 mi)) = 0
      replace c2 := Classical.not_not.mp (fun z => c2 (b2i_0.mpr z))
      refine v_iconst C (0) dX2_lead_29 (by decide) ?_
      refine vM_p_thrown C hin2 (by decide +kernel) dX2_lead_30 ?_
      refine v_aload_n C dX2_lead_33 rfl ?_
      refine vM_g_thrown C hin2 (by decide +kernel) dX2_lead_34 ?_
      refine V.es (st' := [.int 0]) (by rw [su_s]) ?_
      refine v_if_gt C 56 dX2_lead_37 (by decide) (fun z => absurd z (by decide)) (fun z => ?_)
      refine v_aload_n C dX2_lead_40 rfl ?_
      refine vM_cI C (k_X2_leads l G cy am (su x 5 0 0)) rfl gX2_lead_X2_leads (nA := 0) (by decide +kernel) rfl (by decide) (by decide) rfl rfl (Nat.le_of_ble_eq_true rfl) dX2_lead_41 ?_
      refine v_iconst C (-1) dX2_lead_44 (by decide) ?_
      refine v_icmp_eq C 58 dX2_lead_45 (by decide) (fun c4 => ?_) (fun c4 => ?_)
      · -- 45 t: (flead (su x 5 0 0)) = (-1)
        refine v_aload_n C dX2_lead_58 rfl ?_
        refine v_iload_n C dX2_lead_59 rfl ?_
        refine vM_p_holder C hin2 (by decide +kernel) dX2_lead_60 ?_
        refine v_aload_n C dX2_lead_63 rfl ?_
        refine v_aload_n C dX2_lead_64 rfl ?_
        refine vM_g_now C hin2 (by decide +kernel) dX2_lead_65 ?_
        refine v_iload_n C dX2_lead_68 rfl ?_
        refine v_iadd C dX2_lead_69 ?_
        refine vM_p_leaseEnd C hin2 (by decide +kernel) dX2_lead_70 ?_
        refine v_iconst C (1) dX2_lead_73 (by decide) ?_
        have e9 : mlead x d mi = su (su (su x 5 0 0) 3 0 d) 4 0 (((su (su x 5 0 0) 3 0 d) 0 0) + mi) := by simp [mlead, mclead, fleads, ledby, pif, c1, c2, c4]
        rw [e9]
        refine v_zret C rfl dX2_lead_74 ?_
        exact (b2i_t (by simp [ledby, c1, c2, c4])).symm
      · -- 45 f: not (flead (su x 5 0 0)) = (-1)
        refine v_aload_n C dX2_lead_48 rfl ?_
        refine vM_cI C (k_X2_leads l G cy am (su x 5 0 0)) rfl gX2_lead_X2_leads (nA := 0) (by decide +kernel) rfl (by decide) (by decide) rfl rfl (Nat.le_of_ble_eq_true rfl) dX2_lead_49 ?_
        refine v_iload_n C dX2_lead_52 rfl ?_
        refine v_icmp_eq C 58 dX2_lead_53 (by decide) (fun c5 => ?_) (fun c5 => ?_)
        · -- 53 t: (flead (su x 5 0 0)) = d
          refine v_aload_n C dX2_lead_58 rfl ?_
          refine v_iload_n C dX2_lead_59 rfl ?_
          refine vM_p_holder C hin2 (by decide +kernel) dX2_lead_60 ?_
          refine v_aload_n C dX2_lead_63 rfl ?_
          refine v_aload_n C dX2_lead_64 rfl ?_
          refine vM_g_now C hin2 (by decide +kernel) dX2_lead_65 ?_
          refine v_iload_n C dX2_lead_68 rfl ?_
          refine v_iadd C dX2_lead_69 ?_
          refine vM_p_leaseEnd C hin2 (by decide +kernel) dX2_lead_70 ?_
          refine v_iconst C (1) dX2_lead_73 (by decide) ?_
          have e9 : mlead x d mi = su (su (su x 5 0 0) 3 0 d) 4 0 (((su (su x 5 0 0) 3 0 d) 0 0) + mi) := by simp [mlead, mclead, fleads, ledby, pif, c1, c2, c4, c5]
          rw [e9]
          refine v_zret C rfl dX2_lead_74 ?_
          exact (b2i_t (by simp [ledby, c1, c2, c4, c5])).symm
        · -- 53 f: not (flead (su x 5 0 0)) = d
          refine v_iconst C (0) dX2_lead_56 (by decide) ?_
          have e9 : mlead x d mi = su x 5 0 0 := by simp [mlead, mclead, fleads, ledby, pif, c1, c2, c4, c5]
          rw [e9]
          refine v_zret C rfl dX2_lead_57 ?_
          exact (b2i_f (by simp [ledby, c1, c2, c4, c5])).symm
    · -- 22 f: not ¬ (b2i (inr 1 1000 mi)) = 0
      replace c2 := b2i_0.mp c2
      refine v_iconst C (2) dX2_lead_25 (by decide) ?_
      refine v_goto C 30 dX2_lead_26 (by decide) ?_
      refine vM_p_thrown C hin2 (by decide +kernel) dX2_lead_30 ?_
      refine v_aload_n C dX2_lead_33 rfl ?_
      refine vM_g_thrown C hin2 (by decide +kernel) dX2_lead_34 ?_
      refine V.es (st' := [.int 2]) (by rw [su_s]) ?_
      refine v_if_gt C 56 dX2_lead_37 (by decide) (fun z => ?_) (fun z => absurd z (by decide))
      refine v_iconst C (0) dX2_lead_56 (by decide) ?_
      have e9 : mlead x d mi = su x 5 0 2 := by simp [mlead, mclead, fleads, ledby, pif, c1, c2]
      rw [e9]
      refine v_zret C rfl dX2_lead_57 ?_
      exact (b2i_f (by simp [ledby, c1, c2])).symm
  · -- 7 f: not ¬ (b2i (inr 0 1 d)) = 0
    replace c1 := b2i_0.mp c1
    refine v_iconst C (1) dX2_lead_10 (by decide) ?_
    refine v_goto C 30 dX2_lead_11 (by decide) ?_
    refine vM_p_thrown C hin2 (by decide +kernel) dX2_lead_30 ?_
    refine v_aload_n C dX2_lead_33 rfl ?_
    refine vM_g_thrown C hin2 (by decide +kernel) dX2_lead_34 ?_
    refine V.es (st' := [.int 1]) (by rw [su_s]) ?_
    refine v_if_gt C 56 dX2_lead_37 (by decide) (fun z => ?_) (fun z => absurd z (by decide))
    refine v_iconst C (0) dX2_lead_56 (by decide) ?_
    have e9 : mlead x d mi = su x 5 0 1 := by simp [mlead, mclead, fleads, ledby, pif, c1]
    rw [e9]
    refine v_zret C rfl dX2_lead_57 ?_
    exact (b2i_f (by simp [ledby, c1])).symm
set_option maxHeartbeats 4000000 in
set_option maxRecDepth 100000 in
/-- plug(b, ch) -/
theorem k_X2_plug (l : Launch) (G : va_G) (cy : Nat → ClassId) (am : Nat → Nat) (x : Sg) (n : Nat) (hn : x 1 0 = nI n) (h30 : n ≤ 30) (b ch : Int32) : KI l G cy yX2_plug wsX2_plug 2 42 0 0 [.ref (am 0), .int b, .int ch] (wM cy am x) (pif (inr 0 4 b ∧ inr 0 1 ch ∧ ¬ under n x b) (pif (x 15 ch.toNatClampNeg = b) (-1) (x 15 ch.toNatClampNeg)) 0) (wM cy am (mplug n x b ch)) := by
  have hin2 : ∀ q ∈ u_ws RX2 TX2 18, q ∈ wsX2_plug := by decide +kernel
  refine KI_of (own := RX2) (cc := cX2_plug) (maxL := 4) (ret := (some .int)) (lo0 := [some (.ref (am 0)), some (.int b), some (.int ch), none]) (by decide) rfl rfl (by simp [Value.category]) (Nat.le_of_ble_eq_true rfl) rfl (fun p e s m args below meth c A C => ?_)
  refine v_aload_n C dX2_plug_0 rfl ?_
  refine v_iload_n C dX2_plug_1 rfl ?_
  refine v_sI C (k_X2_isBus l G cy (wM cy am x) b) rfl gX2_plug_X2_isBus (nA := 1) (by decide +kernel) rfl (by decide) (by decide) rfl (Nat.le_of_ble_eq_true rfl) dX2_plug_2 ?_
  refine v_if_eq C 17 dX2_plug_5 (by decide) (fun c1 => ?_) (fun c1 => ?_)
  · -- 5 t: (b2i (inr 0 4 b)) = 0
    replace c1 := b2i_0.mp c1
    refine v_iconst C (1) dX2_plug_17 (by decide) ?_
    refine v_goto C 34 dX2_plug_18 (by decide) ?_
    refine vM_p_thrown C hin2 (by decide +kernel) dX2_plug_34 ?_
    refine v_aload_n C dX2_plug_37 rfl ?_
    refine vM_g_thrown C hin2 (by decide +kernel) dX2_plug_38 ?_
    refine V.es (st' := [.int 1]) (by rw [su_s]) ?_
    refine v_if_le C 46 dX2_plug_41 (by decide) (fun z => absurd z (by decide)) (fun z => ?_)
    refine v_iconst C (0) dX2_plug_44 (by decide) ?_
    have e9 : mplug n x b ch = su x 5 0 1 := by simp [mplug, mclplug, fplug, su_f, pif, c1]
    rw [e9]
    refine v_iret C dX2_plug_45 ?_
    simp [su_f, pif, c1]
  · -- 5 f: not (b2i (inr 0 4 b)) = 0
    replace c1 := Classical.not_not.mp (fun z => c1 (b2i_0.mpr z))
    refine v_iload_n C dX2_plug_8 rfl ?_
    refine v_iconst C (0) dX2_plug_9 (by decide) ?_
    refine v_iconst C (1) dX2_plug_10 (by decide) ?_
    refine v_sI C (k_X2_in l G cy (wM cy am x) ch 0 1) rfl gX2_plug_X2_in (nA := 3) (by decide +kernel) rfl (by decide) (by decide) rfl (Nat.le_of_ble_eq_true rfl) dX2_plug_11 ?_
    refine v_if_ne C 21 dX2_plug_14 (by decide) (fun c3 => ?_) (fun c3 => ?_)
    · -- 14 t: ¬ (b2i (inr 0 1 ch)) = 0
      replace c3 := Classical.not_not.mp (fun z => c3 (b2i_0.mpr z))
      refine v_aload_n C dX2_plug_21 rfl ?_
      refine v_iload_n C dX2_plug_22 rfl ?_
      refine vM_cI C (k_X2_isGoing l G cy am x n hn h30 b) rfl gX2_plug_X2_isGoing (nA := 1) (by decide +kernel) rfl (by decide) (by decide) rfl rfl (Nat.le_of_ble_eq_true rfl) dX2_plug_23 ?_
      refine v_if_eq C 33 dX2_plug_26 (by decide) (fun c4 => ?_) (fun c4 => ?_)
      · -- 26 t: (b2i (under n x b)) = 0
        replace c4 := b2i_0.mp c4
        obtain ⟨jch, hjch, rfl⟩ := inr_ix (N := 1) (by decide) rfl c3
        have hcjch : (nI jch).toNatClampNeg = jch := nI_clamp (by omega)
        refine v_iconst C (0) dX2_plug_33 (by decide) ?_
        refine vM_p_thrown C hin2 (by decide +kernel) dX2_plug_34 ?_
        refine v_aload_n C dX2_plug_37 rfl ?_
        refine vM_g_thrown C hin2 (by decide +kernel) dX2_plug_38 ?_
        refine V.es (st' := [.int 0]) (by rw [su_s]) ?_
        refine v_if_le C 46 dX2_plug_41 (by decide) (fun z => ?_) (fun z => absurd z (by decide))
        refine v_aload_n C dX2_plug_46 rfl ?_
        refine vM_g_plugged C hin2 (by decide +kernel) dX2_plug_47 ?_
        refine v_iload_n C dX2_plug_50 rfl ?_
        refine vM_l_plugged C jch rfl (by omega) dX2_plug_51 ?_
        refine v_istore_n C dX2_plug_52 (by decide) ?_
        refine v_aload_n C dX2_plug_53 rfl ?_
        refine v_iload_n C dX2_plug_54 rfl ?_
        refine vM_cV C (k_X2_unplug l G cy am (su x 5 0 0) b) rfl gX2_plug_X2_unplug (nA := 1) (by decide +kernel) rfl (by decide) (by decide) rfl rfl (Nat.le_of_ble_eq_true rfl) dX2_plug_55 ?_
        refine v_aload_n C dX2_plug_58 rfl ?_
        refine vM_g_plugged C hin2 (by decide +kernel) dX2_plug_59 ?_
        refine v_iload_n C dX2_plug_62 rfl ?_
        refine v_iload_n C dX2_plug_63 rfl ?_
        refine vM_s_plugged C jch rfl (by omega) dX2_plug_64 ?_
        refine v_iload_n C dX2_plug_65 rfl ?_
        refine v_iload_n C dX2_plug_66 rfl ?_
        refine v_icmp_ne C 74 dX2_plug_67 (by decide) (fun c6 => ?_) (fun c6 => ?_)
        · -- 67 t: ¬ ((su x 5 0 0) 15 jch) = b
          rw [su_f _ _ _ _ (by decide)] at c6
          refine v_iload_n C dX2_plug_74 rfl ?_
          have e9 : mplug n x b (nI jch) = su (funplug (su x 5 0 0) b) 15 jch b := by simp [mplug, mclplug, fplug, su_f, pif, c1, c3, c4, c6, hcjch]
          rw [e9]
          refine v_iret C dX2_plug_75 ?_
          simp [su_f, pif, c1, c3, c4, c6, hcjch]
        · -- 67 f: not ¬ ((su x 5 0 0) 15 jch) = b
          rw [su_f _ _ _ _ (by decide)] at c6
          refine v_iconst C (-1) dX2_plug_70 (by decide) ?_
          refine v_goto C 75 dX2_plug_71 (by decide) ?_
          have e9 : mplug n x b (nI jch) = su (funplug (su x 5 0 0) b) 15 jch b := by simp [mplug, mclplug, fplug, su_f, pif, c1, c3, c4, c6, hcjch]
          rw [e9]
          refine v_iret C dX2_plug_75 ?_
          simp [su_f, pif, c1, c3, c4, c6, hcjch]
      · -- 26 f: not (b2i (under n x b)) = 0
        replace c4 := Classical.not_not.mp (fun z => c4 (b2i_0.mpr z))
        refine v_iconst C (2) dX2_plug_29 (by decide) ?_
        refine v_goto C 34 dX2_plug_30 (by decide) ?_
        refine vM_p_thrown C hin2 (by decide +kernel) dX2_plug_34 ?_
        refine v_aload_n C dX2_plug_37 rfl ?_
        refine vM_g_thrown C hin2 (by decide +kernel) dX2_plug_38 ?_
        refine V.es (st' := [.int 2]) (by rw [su_s]) ?_
        refine v_if_le C 46 dX2_plug_41 (by decide) (fun z => absurd z (by decide)) (fun z => ?_)
        refine v_iconst C (0) dX2_plug_44 (by decide) ?_
        have e9 : mplug n x b ch = su x 5 0 2 := by simp [mplug, mclplug, fplug, su_f, pif, c1, c3, c4]
        rw [e9]
        refine v_iret C dX2_plug_45 ?_
        simp [su_f, pif, c1, c3, c4]
    · -- 14 f: not ¬ (b2i (inr 0 1 ch)) = 0
      replace c3 := b2i_0.mp c3
      refine v_iconst C (1) dX2_plug_17 (by decide) ?_
      refine v_goto C 34 dX2_plug_18 (by decide) ?_
      refine vM_p_thrown C hin2 (by decide +kernel) dX2_plug_34 ?_
      refine v_aload_n C dX2_plug_37 rfl ?_
      refine vM_g_thrown C hin2 (by decide +kernel) dX2_plug_38 ?_
      refine V.es (st' := [.int 1]) (by rw [su_s]) ?_
      refine v_if_le C 46 dX2_plug_41 (by decide) (fun z => absurd z (by decide)) (fun z => ?_)
      refine v_iconst C (0) dX2_plug_44 (by decide) ?_
      have e9 : mplug n x b ch = su x 5 0 1 := by simp [mplug, mclplug, fplug, su_f, pif, c1, c3]
      rw [e9]
      refine v_iret C dX2_plug_45 ?_
      simp [su_f, pif, c1, c3]
set_option maxHeartbeats 4000000 in
set_option maxRecDepth 100000 in
/-- advance(mi) -/
theorem k_X2_advance (l : Launch) (G : va_G) (cy : Nat → ClassId) (am : Nat → Nat) (x : Sg) (n : Nat) (hn : x 1 0 = nI n) (h30 : n ≤ 30) (hP : okP x) (hB : okB n x) (mi : Int32) : KI l G cy yX2_advance wsX2_advance 3 63 0 0 [.ref (am 0), .int mi] (wM cy am x) (pif (inr 1 1000 mi ∧ ¬ 30000 < x 0 0 + mi) (fadv n (su x 5 0 0) mi 0 0) 0) (wM cy am (madv n x mi)) := by
  have hin2 : ∀ q ∈ u_ws RX2 TX2 18, q ∈ wsX2_advance := by decide +kernel
  refine KI_of (own := RX2) (cc := cX2_advance) (maxL := 5) (ret := (some .int)) (lo0 := [some (.ref (am 0)), some (.int mi), none, none, none]) (by decide) rfl rfl (by simp [Value.category]) (Nat.le_of_ble_eq_true rfl) rfl (fun p e s m args below meth c A C => ?_)
  refine v_aload_n C dX2_advance_0 rfl ?_
  refine v_iload_n C dX2_advance_1 rfl ?_
  refine v_iconst C (1) dX2_advance_2 (by decide) ?_
  refine v_sipush C (1000) dX2_advance_3 (by decide) ?_
  refine v_sI C (k_X2_in l G cy (wM cy am x) mi 1 1000) rfl gX2_advance_X2_in (nA := 3) (by decide +kernel) rfl (by decide) (by decide) rfl (Nat.le_of_ble_eq_true rfl) dX2_advance_6 ?_
  refine v_if_ne C 16 dX2_advance_9 (by decide) (fun c1 => ?_) (fun c1 => ?_)
  · -- 9 t: ¬ (b2i (inr 1 1000 mi)) = 0
    replace c1 := Classical.not_not.mp (fun z => c1 (b2i_0.mpr z))
    refine v_aload_n C dX2_advance_16 rfl ?_
    refine vM_g_now C hin2 (by decide +kernel) dX2_advance_17 ?_
    refine v_iload_n C dX2_advance_20 rfl ?_
    refine v_iadd C dX2_advance_21 ?_
    refine v_sipush C (30000) dX2_advance_22 (by decide) ?_
    refine v_icmp_le C 32 dX2_advance_25 (by decide) (fun c2 => ?_) (fun c2 => ?_)
    · -- 25 t: ¬ 30000 < ((x 0 0) + mi)
      refine v_iconst C (0) dX2_advance_32 (by decide) ?_
      refine vM_p_thrown C hin2 (by decide +kernel) dX2_advance_33 ?_
      obtain ⟨jm, hjm, rfl⟩ := ix_exr (N := 1000) (by decide) (m0_1 c1.1) c1.2
      have hcjm : (nI jm).toNatClampNeg = jm := nI_clamp (by omega)
      have hP0 : okP (su x 5 0 0) := okP_f (x := x) (fun c _ => Or.inl (su_f _ _ _ _ (by decide))) hP
      have hB0 : okB n (su x 5 0 0) := okB_f (x := x) (fun j _ e => ⟨by rw [su_f _ _ _ _ (by decide)] at e; exact e, su_f _ _ _ _ (by decide)⟩) hB
      refine v_iconst C (0) dX2_advance_36 (by decide) ?_
      refine v_istore_n C dX2_advance_37 (by decide) ?_
      refine V.loop (fun k : Nat => wM cy am (it (fun _ => fminute n) k (su x 5 0 0))) (fun k : Nat => ([some (.ref (am 0)), some (.int (nI jm)), some (.int (nI k)), none, none] : List (Option Value))) (fun k : Nat => True) jm ?_ trivial
      intro k hle_k hP_k ih_k
      try dsimp only at hP_k ih_k ⊢
      have hn_k : it (fun _ => fminute n) k (su x 5 0 0) 1 0 = nI n := (it_f (fun c y => fminute_f n y (by decide) (by decide) (by decide) (by decide) (by decide) (by decide)) k _).trans ((su_f _ _ _ _ (by decide)).trans hn)
      have h5_k : it (fun _ => fminute n) k (su x 5 0 0) 5 0 = 0 := (it_f (fun c y => fminute_f n y (by decide) (by decide) (by decide) (by decide) (by decide) (by decide)) k _).trans (su_s _ _ _ _)
      have hP_k0 : okP (it (fun _ => fminute n) k (su x 5 0 0)) := okP_mins hP0 k
      have hB_k0 : okB n (it (fun _ => fminute n) k (su x 5 0 0)) := okB_mins hB0 k
      refine v_iload_n C dX2_advance_38 rfl ?_
      refine v_iload_n C dX2_advance_39 rfl ?_
      refine v_geN C k jm 175 dX2_advance_40 (by decide) rfl rfl (by omega) (by omega) (fun c3 => ?_) (fun c3 => ?_)
      · -- loop 38 is over
        have e_k : jm = k := by omega
        subst e_k
        refine v_aload_n C dX2_advance_175 rfl ?_
        refine vM_g_thrown C hin2 (by decide +kernel) dX2_advance_176 ?_
        refine V.es (st' := [.int 0]) (by rw [h5_k]) ?_
        refine v_if_ne C 189 dX2_advance_179 (by decide) (fun z => absurd z (by decide)) (fun z => ?_)
        refine v_aload_n C dX2_advance_182 rfl ?_
        refine vM_g_now C hin2 (by decide +kernel) dX2_advance_183 ?_
        refine v_goto C 190 dX2_advance_186 (by decide) ?_
        have e9 : madv n x (nI jm) = it (fun _ => fminute n) jm (su x 5 0 0) := by simp [madv, mcadv, fadv, pif, c1, c2, hcjm]
        rw [e9]
        refine v_iret C dX2_advance_190 ?_
        simp [fadv, pif, c1, c2, hcjm]
      · have hk : k < jm := c3
        refine v_aload_n C dX2_advance_43 rfl ?_
        refine vM_g_thrown C hin2 (by decide +kernel) dX2_advance_44 ?_
        refine V.es (st' := [.int 0]) (by rw [h5_k]) ?_
        refine v_if_ne C 175 dX2_advance_47 (by decide) (fun z => absurd z (by decide)) (fun z => ?_)
        refine v_iconst C (0) dX2_advance_50 (by decide) ?_
        refine v_istore_n C dX2_advance_51 (by decide) ?_
        refine V.loop (fun c : Nat => wM cy am (it sload c (it (fun _ => fminute n) k (su x 5 0 0)))) (fun c : Nat => ([some (.ref (am 0)), some (.int (nI jm)), some (.int (nI k)), some (.int (nI c)), none] : List (Option Value))) (fun c : Nat => True) 2 ?_ trivial
        intro c hle_c hP_c ih_c
        try dsimp only at hP_c ih_c ⊢
        refine v_iload_n C dX2_advance_52 rfl ?_
        refine v_iconst C (2) dX2_advance_53 (by decide) ?_
        refine v_geN C c 2 100 dX2_advance_54 (by decide) rfl rfl (by omega) (by omega) (fun c6 => ?_) (fun c6 => ?_)
        · -- loop 52 is over
          have e_c : 2 = c := by omega
          subst e_c
          refine v_aload_n C dX2_advance_100 rfl ?_
          refine v_dup C dX2_advance_101 rfl ?_
          refine vM_g_now C hin2 (by decide +kernel) dX2_advance_102 ?_
          refine v_iconst C (1) dX2_advance_105 (by decide) ?_
          refine v_iadd C dX2_advance_106 ?_
          refine vM_p_now C hin2 (by decide +kernel) dX2_advance_107 ?_
          refine v_iconst C (0) dX2_advance_110 (by decide) ?_
          refine v_istore_n C dX2_advance_111 (by decide) ?_
          refine V.loop (fun r : Nat => wM cy am (it send_ r (su (it sload 2 (it (fun _ => fminute n) k (su x 5 0 0))) 0 0 ((it sload 2 (it (fun _ => fminute n) k (su x 5 0 0))) 0 0 + 1)))) (fun r : Nat => ([some (.ref (am 0)), some (.int (nI jm)), some (.int (nI k)), some (.int (nI r)), none] : List (Option Value))) (fun r : Nat => True) n ?_ trivial
          intro r hle_r hP_r ih_r
          try dsimp only at hP_r ih_r ⊢
          have hn_r : it send_ r (su (it sload 2 (it (fun _ => fminute n) k (su x 5 0 0))) 0 0 ((it sload 2 (it (fun _ => fminute n) k (su x 5 0 0))) 0 0 + 1)) 1 0 = nI n := (it_f (fun c y => send__f c y (by decide)) r _).trans ((su_f _ _ _ _ (by decide)).trans ((it_f (fun c y => sload_f c y (by decide)) 2 _).trans hn_k))
          refine v_iload_n C dX2_advance_112 rfl ?_
          refine v_aload_n C dX2_advance_113 rfl ?_
          refine vM_g_runMany C hin2 (by decide +kernel) dX2_advance_114 ?_
          refine v_geN C r n 165 dX2_advance_117 (by decide) rfl hn_r (by omega) (by omega) (fun c7 => ?_) (fun c7 => ?_)
          · -- loop 112 is over
            have e_r : n = r := by omega
            subst e_r
            have hn_e : it send_ n (su (it sload 2 (it (fun _ => fminute n) k (su x 5 0 0))) 0 0 ((it sload 2 (it (fun _ => fminute n) k (su x 5 0 0))) 0 0 + 1)) 1 0 = nI n := (it_f (fun c y => send__f c y (by decide)) n _).trans ((su_f _ _ _ _ (by decide)).trans ((it_f (fun c y => sload_f c y (by decide)) 2 _).trans hn_k))
            refine v_aload_n C dX2_advance_165 rfl ?_
            refine vM_cV C (k_X2_beginRuns l G cy am (it send_ n (su (it sload 2 (it (fun _ => fminute n) k (su x 5 0 0))) 0 0 ((it sload 2 (it (fun _ => fminute n) k (su x 5 0 0))) 0 0 + 1))) n hn_e h30 (okB_send (okB_load hB_k0 _) n)) rfl gX2_advance_X2_beginRuns (nA := 0) (by decide +kernel) rfl (by decide) (by decide) rfl rfl (Nat.le_of_ble_eq_true rfl) dX2_advance_166 ?_
            refine v_incN C dX2_advance_169 rfl (by decide) ?_
            refine v_goto C 38 dX2_advance_172 (by decide) ?_
            exact V.lof 3 (ih_k hk trivial)
          · have hr : r < n := c7
            refine v_aload_n C dX2_advance_120 rfl ?_
            refine vM_g_states C hin2 (by decide +kernel) dX2_advance_121 ?_
            refine v_iload_n C dX2_advance_124 rfl ?_
            refine v_aload_n C dX2_advance_125 rfl ?_
            refine vM_g_states C hin2 (by decide +kernel) dX2_advance_126 ?_
            refine v_iload_n C dX2_advance_129 rfl ?_
            refine vM_l_states C r rfl (by omega) dX2_advance_130 ?_
            refine v_iconst C (2) dX2_advance_131 (by decide) ?_
            refine v_icmp_ne C 152 dX2_advance_132 (by decide) (fun c8 => ?_) (fun c8 => ?_)
            · -- 132 t: ¬ ((it send_ r (su (it sload 2 (it (fun _ => fminute n) k (su x 5 0 0))) 0 0 ((it sload 2 (it (fun _ => fminute n) k (su x 5 0 0))) 0 0 + 1))) 9 r) = 2
              refine v_aload_n C dX2_advance_152 rfl ?_
              refine vM_g_states C hin2 (by decide +kernel) dX2_advance_153 ?_
              refine v_iload_n C dX2_advance_156 rfl ?_
              refine vM_l_states C r rfl (by omega) dX2_advance_157 ?_
              refine vM_s_states C r rfl (by omega) dX2_advance_158 ?_
              refine v_incN C dX2_advance_159 rfl (by decide) ?_
              refine v_goto C 112 dX2_advance_162 (by decide) ?_
              have q := ih_r hr trivial
              have e : it (send_) (r + 1) (su (it sload 2 (it (fun _ => fminute n) k (su x 5 0 0))) 0 0 ((it sload 2 (it (fun _ => fminute n) k (su x 5 0 0))) 0 0 + 1)) = su (it send_ r (su (it sload 2 (it (fun _ => fminute n) k (su x 5 0 0))) 0 0 ((it sload 2 (it (fun _ => fminute n) k (su x 5 0 0))) 0 0 + 1))) 9 r ((it send_ r (su (it sload 2 (it (fun _ => fminute n) k (su x 5 0 0))) 0 0 ((it sload 2 (it (fun _ => fminute n) k (su x 5 0 0))) 0 0 + 1))) 9 r) := by
                show (send_) r (it (send_) r (su (it sload 2 (it (fun _ => fminute n) k (su x 5 0 0))) 0 0 ((it sload 2 (it (fun _ => fminute n) k (su x 5 0 0))) 0 0 + 1))) = su (it send_ r (su (it sload 2 (it (fun _ => fminute n) k (su x 5 0 0))) 0 0 ((it sload 2 (it (fun _ => fminute n) k (su x 5 0 0))) 0 0 + 1))) 9 r ((it send_ r (su (it sload 2 (it (fun _ => fminute n) k (su x 5 0 0))) 0 0 ((it sload 2 (it (fun _ => fminute n) k (su x 5 0 0))) 0 0 + 1))) 9 r)
                rw [su_id]
                simp [send_, su_id, pif, c1, c2, c8, hcjm]
              rw [e] at q
              exact q
            · -- 132 f: not ¬ ((it send_ r (su (it sload 2 (it (fun _ => fminute n) k (su x 5 0 0))) 0 0 ((it sload 2 (it (fun _ => fminute n) k (su x 5 0 0))) 0 0 + 1))) 9 r) = 2
              refine v_aload_n C dX2_advance_135 rfl ?_
              refine vM_g_ends C hin2 (by decide +kernel) dX2_advance_136 ?_
              refine v_iload_n C dX2_advance_139 rfl ?_
              refine vM_l_ends C r rfl (by omega) dX2_advance_140 ?_
              refine v_aload_n C dX2_advance_141 rfl ?_
              refine vM_g_now C hin2 (by decide +kernel) dX2_advance_142 ?_
              refine v_icmp_ne C 152 dX2_advance_145 (by decide) (fun c9 => ?_) (fun c9 => ?_)
              · -- 145 t: ¬ ((it send_ r (su (it sload 2 (it (fun _ => fminute n) k (su x 5 0 0))) 0 0 ((it sload 2 (it (fun _ => fminute n) k (su x 5 0 0))) 0 0 + 1))) 7 r) = ((it send_ r (su (it sload 2 (it (fun _ => fminute n) k (su x 5 0 0))) 0 0 ((it sload 2 (it (fun _ => fminute n) k (su x 5 0 0))) 0 0 + 1))) 0 0)
                refine v_aload_n C dX2_advance_152 rfl ?_
                refine vM_g_states C hin2 (by decide +kernel) dX2_advance_153 ?_
                refine v_iload_n C dX2_advance_156 rfl ?_
                refine vM_l_states C r rfl (by omega) dX2_advance_157 ?_
                refine vM_s_states C r rfl (by omega) dX2_advance_158 ?_
                refine v_incN C dX2_advance_159 rfl (by decide) ?_
                refine v_goto C 112 dX2_advance_162 (by decide) ?_
                have q := ih_r hr trivial
                have e : it (send_) (r + 1) (su (it sload 2 (it (fun _ => fminute n) k (su x 5 0 0))) 0 0 ((it sload 2 (it (fun _ => fminute n) k (su x 5 0 0))) 0 0 + 1)) = su (it send_ r (su (it sload 2 (it (fun _ => fminute n) k (su x 5 0 0))) 0 0 ((it sload 2 (it (fun _ => fminute n) k (su x 5 0 0))) 0 0 + 1))) 9 r ((it send_ r (su (it sload 2 (it (fun _ => fminute n) k (su x 5 0 0))) 0 0 ((it sload 2 (it (fun _ => fminute n) k (su x 5 0 0))) 0 0 + 1))) 9 r) := by
                  show (send_) r (it (send_) r (su (it sload 2 (it (fun _ => fminute n) k (su x 5 0 0))) 0 0 ((it sload 2 (it (fun _ => fminute n) k (su x 5 0 0))) 0 0 + 1))) = su (it send_ r (su (it sload 2 (it (fun _ => fminute n) k (su x 5 0 0))) 0 0 ((it sload 2 (it (fun _ => fminute n) k (su x 5 0 0))) 0 0 + 1))) 9 r ((it send_ r (su (it sload 2 (it (fun _ => fminute n) k (su x 5 0 0))) 0 0 ((it sload 2 (it (fun _ => fminute n) k (su x 5 0 0))) 0 0 + 1))) 9 r)
                  rw [su_id]
                  simp [send_, su_id, pif, c1, c2, c8, c9, hcjm]
                rw [e] at q
                exact q
              · -- 145 f: not ¬ ((it send_ r (su (it sload 2 (it (fun _ => fminute n) k (su x 5 0 0))) 0 0 ((it sload 2 (it (fun _ => fminute n) k (su x 5 0 0))) 0 0 + 1))) 7 r) = ((it send_ r (su (it sload 2 (it (fun _ => fminute n) k (su x 5 0 0))) 0 0 ((it sload 2 (it (fun _ => fminute n) k (su x 5 0 0))) 0 0 + 1))) 0 0)
                refine v_iconst C (3) dX2_advance_148 (by decide) ?_
                refine v_goto C 158 dX2_advance_149 (by decide) ?_
                refine vM_s_states C r rfl (by omega) dX2_advance_158 ?_
                refine v_incN C dX2_advance_159 rfl (by decide) ?_
                refine v_goto C 112 dX2_advance_162 (by decide) ?_
                have q := ih_r hr trivial
                have e : it (send_) (r + 1) (su (it sload 2 (it (fun _ => fminute n) k (su x 5 0 0))) 0 0 ((it sload 2 (it (fun _ => fminute n) k (su x 5 0 0))) 0 0 + 1)) = su (it send_ r (su (it sload 2 (it (fun _ => fminute n) k (su x 5 0 0))) 0 0 ((it sload 2 (it (fun _ => fminute n) k (su x 5 0 0))) 0 0 + 1))) 9 r 3 := by
                  show (send_) r (it (send_) r (su (it sload 2 (it (fun _ => fminute n) k (su x 5 0 0))) 0 0 ((it sload 2 (it (fun _ => fminute n) k (su x 5 0 0))) 0 0 + 1))) = su (it send_ r (su (it sload 2 (it (fun _ => fminute n) k (su x 5 0 0))) 0 0 ((it sload 2 (it (fun _ => fminute n) k (su x 5 0 0))) 0 0 + 1))) 9 r 3
                  simp [send_, su_id, pif, c1, c2, c8, c9, hcjm]
                rw [e] at q
                exact q
        · have hc : c < 2 := c6
          refine v_aload_n C dX2_advance_57 rfl ?_
          refine vM_g_plugged C hin2 (by decide +kernel) dX2_advance_58 ?_
          refine v_iload_n C dX2_advance_61 rfl ?_
          refine vM_l_plugged C c rfl (by omega) dX2_advance_62 ?_
          refine v_istore C dX2_advance_63 (by decide) ?_
          have hY : it sload c (it (fun _ => fminute n) k (su x 5 0 0)) 15 c = it (fun _ => fminute n) k (su x 5 0 0) 15 c := it_f (fun c y => sload_f c y (by decide)) c _
          rcases hP_k0 c (by omega) with hq | ⟨b, hb5, hq⟩
          · refine V.el (lo' := [some (.ref (am 0)), some (.int (nI jm)), some (.int (nI k)), some (.int (nI c)), some (.int (-1))]) (by rw [hY, hq]; rfl) ?_
            have hZ : it sload c (it (fun _ => fminute n) k (su x 5 0 0)) 15 c = -1 := hY.trans hq
            refine v_iload C dX2_advance_65 rfl ?_
            refine v_iconst C (-1) dX2_advance_67 (by decide) ?_
            refine v_icmp_eq C 94 dX2_advance_68 (by decide) (fun z => ?_) (fun z => absurd z (by decide))
            refine v_incN C dX2_advance_94 rfl (by decide) ?_
            refine v_goto C 52 dX2_advance_97 (by decide) ?_
            have q := ih_c hc trivial
            have e : it (sload) (c + 1) (it (fun _ => fminute n) k (su x 5 0 0)) = it sload c (it (fun _ => fminute n) k (su x 5 0 0)) := by
              show (sload) c (it (sload) c (it (fun _ => fminute n) k (su x 5 0 0))) = it sload c (it (fun _ => fminute n) k (su x 5 0 0))
              simp [sload, pif, c1, c2, hcjm, hZ, nneg]
            rw [e] at q
            exact V.lof 4 (q)
          · refine V.el (lo' := [some (.ref (am 0)), some (.int (nI jm)), some (.int (nI k)), some (.int (nI c)), some (.int (nI b))]) (by rw [hY, hq]; rfl) ?_
            have hZ : it sload c (it (fun _ => fminute n) k (su x 5 0 0)) 15 c = (nI b) := hY.trans hq
            have hcb : (nI b).toNatClampNeg = b := nI_clamp (by omega)
            have hb0 : ¬ nI b < 0 := nI_pos (by omega)
            have hb5i : nI b < 5 := (nI_ltI (by omega) (by decide)).mpr hb5
            refine v_iload C dX2_advance_65 rfl ?_
            refine v_iconst C (-1) dX2_advance_67 (by decide) ?_
            refine v_icmp_eq C 94 dX2_advance_68 (by decide) (fun z => absurd z (nI_nm (by omega))) (fun z => ?_)
            refine v_aload_n C dX2_advance_71 rfl ?_
            refine vM_g_charges C hin2 (by decide +kernel) dX2_advance_72 ?_
            refine v_iload C dX2_advance_75 rfl ?_
            refine vM_l_charges C b rfl (by omega) dX2_advance_77 ?_
            refine v_bipush C (100) dX2_advance_78 (by decide) ?_
            refine v_icmp_ge C 94 dX2_advance_80 (by decide) (fun c12 => ?_) (fun c12 => ?_)
            · -- 80 t: ¬ ((it sload c (it (fun _ => fminute n) k (su x 5 0 0))) 12 b) < 100
              refine v_incN C dX2_advance_94 rfl (by decide) ?_
              refine v_goto C 52 dX2_advance_97 (by decide) ?_
              have q := ih_c hc trivial
              have e : it (sload) (c + 1) (it (fun _ => fminute n) k (su x 5 0 0)) = it sload c (it (fun _ => fminute n) k (su x 5 0 0)) := by
                show (sload) c (it (sload) c (it (fun _ => fminute n) k (su x 5 0 0))) = it sload c (it (fun _ => fminute n) k (su x 5 0 0))
                simp [sload, pif, c1, c2, c12, hcjm, hZ, hcb, hb0, hb5i]
              rw [e] at q
              exact V.lof 4 (q)
            · -- 80 f: not ¬ ((it sload c (it (fun _ => fminute n) k (su x 5 0 0))) 12 b) < 100
              refine v_aload_n C dX2_advance_83 rfl ?_
              refine vM_g_charges C hin2 (by decide +kernel) dX2_advance_84 ?_
              refine v_iload C dX2_advance_87 rfl ?_
              refine v_dup2 C dX2_advance_89 rfl rfl ?_
              refine vM_l_charges C b rfl (by omega) dX2_advance_90 ?_
              refine v_iconst C (1) dX2_advance_91 (by decide) ?_
              refine v_iadd C dX2_advance_92 ?_
              refine vM_s_charges C b rfl (by omega) dX2_advance_93 ?_
              refine v_incN C dX2_advance_94 rfl (by decide) ?_
              refine v_goto C 52 dX2_advance_97 (by decide) ?_
              have q := ih_c hc trivial
              have e : it (sload) (c + 1) (it (fun _ => fminute n) k (su x 5 0 0)) = su (it sload c (it (fun _ => fminute n) k (su x 5 0 0))) 12 b (((it sload c (it (fun _ => fminute n) k (su x 5 0 0))) 12 b) + 1) := by
                show (sload) c (it (sload) c (it (fun _ => fminute n) k (su x 5 0 0))) = su (it sload c (it (fun _ => fminute n) k (su x 5 0 0))) 12 b (((it sload c (it (fun _ => fminute n) k (su x 5 0 0))) 12 b) + 1)
                simp [sload, pif, c1, c2, c12, hcjm, hZ, hcb, hb0, hb5i]
              rw [e] at q
              exact V.lof 4 (q)
    · -- 25 f: not ¬ 30000 < ((x 0 0) + mi)
      refine v_iconst C (2) dX2_advance_28 (by decide) ?_
      refine v_goto C 33 dX2_advance_29 (by decide) ?_
      refine vM_p_thrown C hin2 (by decide +kernel) dX2_advance_33 ?_
      refine v_iconst C (0) dX2_advance_36 (by decide) ?_
      refine v_istore_n C dX2_advance_37 (by decide) ?_
      refine v_iload_n C dX2_advance_38 rfl ?_
      refine v_iload_n C dX2_advance_39 rfl ?_
      refine v_icmp_ge C 175 dX2_advance_40 (by decide) (fun c13 => ?_) (fun c13 => ?_)
      · -- 40 t: ¬ 0 < mi
        refine v_aload_n C dX2_advance_175 rfl ?_
        refine vM_g_thrown C hin2 (by decide +kernel) dX2_advance_176 ?_
        refine V.es (st' := [.int 2]) (by rw [su_s]) ?_
        refine v_if_ne C 189 dX2_advance_179 (by decide) (fun z => ?_) (fun z => absurd z (by decide))
        refine v_iconst C (0) dX2_advance_189 (by decide) ?_
        have e9 : madv n x mi = su x 5 0 2 := by simp [madv, mcadv, fadv, pif, c1, c2, c13]
        rw [e9]
        refine v_iret C dX2_advance_190 ?_
        simp [fadv, pif, c1, c2, c13]
      · -- 40 f: not ¬ 0 < mi
        refine v_aload_n C dX2_advance_43 rfl ?_
        refine vM_g_thrown C hin2 (by decide +kernel) dX2_advance_44 ?_
        refine V.es (st' := [.int 2]) (by rw [su_s]) ?_
        refine v_if_ne C 175 dX2_advance_47 (by decide) (fun z => ?_) (fun z => absurd z (by decide))
        refine v_aload_n C dX2_advance_175 rfl ?_
        refine vM_g_thrown C hin2 (by decide +kernel) dX2_advance_176 ?_
        refine V.es (st' := [.int 2]) (by rw [su_s]) ?_
        refine v_if_ne C 189 dX2_advance_179 (by decide) (fun z => ?_) (fun z => absurd z (by decide))
        refine v_iconst C (0) dX2_advance_189 (by decide) ?_
        have e9 : madv n x mi = su x 5 0 2 := by simp [madv, mcadv, fadv, pif, c1, c2, c13]
        rw [e9]
        refine v_iret C dX2_advance_190 ?_
        simp [fadv, pif, c1, c2, c13]
  · -- 9 f: not ¬ (b2i (inr 1 1000 mi)) = 0
    replace c1 := b2i_0.mp c1
    refine v_iconst C (1) dX2_advance_12 (by decide) ?_
    refine v_goto C 33 dX2_advance_13 (by decide) ?_
    refine vM_p_thrown C hin2 (by decide +kernel) dX2_advance_33 ?_
    refine v_iconst C (0) dX2_advance_36 (by decide) ?_
    refine v_istore_n C dX2_advance_37 (by decide) ?_
    refine v_iload_n C dX2_advance_38 rfl ?_
    refine v_iload_n C dX2_advance_39 rfl ?_
    refine v_icmp_ge C 175 dX2_advance_40 (by decide) (fun c17 => ?_) (fun c17 => ?_)
    · -- 40 t: ¬ 0 < mi
      refine v_aload_n C dX2_advance_175 rfl ?_
      refine vM_g_thrown C hin2 (by decide +kernel) dX2_advance_176 ?_
      refine V.es (st' := [.int 1]) (by rw [su_s]) ?_
      refine v_if_ne C 189 dX2_advance_179 (by decide) (fun z => ?_) (fun z => absurd z (by decide))
      refine v_iconst C (0) dX2_advance_189 (by decide) ?_
      have e9 : madv n x mi = su x 5 0 1 := by simp [madv, mcadv, fadv, pif, c1, c17]
      rw [e9]
      refine v_iret C dX2_advance_190 ?_
      simp [fadv, pif, c1, c17]
    · -- 40 f: not ¬ 0 < mi
      refine v_aload_n C dX2_advance_43 rfl ?_
      refine vM_g_thrown C hin2 (by decide +kernel) dX2_advance_44 ?_
      refine V.es (st' := [.int 1]) (by rw [su_s]) ?_
      refine v_if_ne C 175 dX2_advance_47 (by decide) (fun z => ?_) (fun z => absurd z (by decide))
      refine v_aload_n C dX2_advance_175 rfl ?_
      refine vM_g_thrown C hin2 (by decide +kernel) dX2_advance_176 ?_
      refine V.es (st' := [.int 1]) (by rw [su_s]) ?_
      refine v_if_ne C 189 dX2_advance_179 (by decide) (fun z => ?_) (fun z => absurd z (by decide))
      refine v_iconst C (0) dX2_advance_189 (by decide) ?_
      have e9 : madv n x mi = su x 5 0 1 := by simp [madv, mcadv, fadv, pif, c1, c17]
      rw [e9]
      refine v_iret C dX2_advance_190 ?_
      simp [fadv, pif, c1, c17]
