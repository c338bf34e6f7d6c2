/-! DepotLog: its public methods -/
theorem nI_nm {k : Nat} (h : k < 2 ^ 31) : ¬ nI k = -1 := fun q => nI_pos h (by rw [q]; decide)
theorem ix_ex {x : Int32} {N : Nat} (hN : N < 2 ^ 31) (h0 : ¬ x < 0) (h : x < nI N) : ∃ j, j < N ∧ x = nI j := by
  obtain ⟨h1, h2⟩ := ix_of hN h0 h
  exact ⟨_, h2, h1⟩
theorem ix_exr {x : Int32} {N : Nat} (hN : N < 2 ^ 31) (h0 : ¬ x < 0) (h : ¬ nI N < x) : ∃ j, j ≤ N ∧ x = nI j := by
  obtain ⟨j, hj, rfl⟩ := nI_of h0
  exact ⟨j, by rw [nI_ltI hN hj] at h; omega, rfl⟩
theorem xb_IS : ∀ w ∈ (vx_atS RX1 60 nIS xNames).filter (fun w => !goodWord w), w ∈ xWd := by decide +kernel
theorem xg_IS : ∀ w ∈ Cond.classLink RX1 56 nIS :: Cond.initialized nIS :: vx_atS RX1 60 nIS xNames, vx_ot w = true := by decide +kernel
theorem xb_IO : ∀ w ∈ (vx_atS RX1 134 nIO xNames).filter (fun w => !goodWord w), w ∈ xWd := by decide +kernel
theorem xg_IO : ∀ w ∈ Cond.classLink RX1 130 nIO :: Cond.initialized nIO :: vx_atS RX1 134 nIO xNames, vx_ot w = true := by decide +kernel
theorem xb_IA : ∀ w ∈ (vx_atS RX1 139 nIA xNames).filter (fun w => !goodWord w), w ∈ xWd := by decide +kernel
theorem xg_IA : ∀ w ∈ Cond.classLink RX1 135 nIA :: Cond.initialized nIA :: vx_atS RX1 139 nIA xNames, vx_ot w = true := by decide +kernel
set_option maxHeartbeats 4000000 in
set_option maxRecDepth 100000 in
/-- requireIndex(i, c) -/
theorem k_X1_requireIndex (l : Launch) (G : va_G) (cy : Nat → ClassId) (hl : l.stackTraces = false) (w : va_W) (i c : Int32) : KXV l G cy yX1_requireIndex wsX1_requireIndex 6 82 1 6 [.int i, .int c] w (xIdx i c) w := by
  refine KXV_of (own := RX1) (cc := cX1_requireIndex) (maxL := 2) (ret := none) (lo0 := [some (.int i), some (.int c)]) (by decide) rfl rfl (by simp [Value.category]) (Nat.le_of_ble_eq_true rfl) rfl (fun p e s m args below meth c A C hX he => ?_)
  refine v_iload_n C dX1_requireIndex_0 rfl ?_
  refine v_if_lt C 9 dX1_requireIndex_1 (by decide) (fun c1 => ?_) (fun c1 => ?_)
  · -- 1 t: i < 0
    exact v_xthrow C hX he hl (by decide +kernel) (by decide +kernel) (by decide +kernel) (by decide +kernel) xb_IO xg_IO rfl (text := "there is no such number") (by decide +kernel) dX1_requireIndex_9 dX1_requireIndex_12 dX1_requireIndex_13 dX1_requireIndex_15 dX1_requireIndex_18 (by simp [xIdx, xq, pif, c1]) (by decide) (by decide) (by decide) (by decide)
  · -- 1 f: not i < 0
    refine v_iload_n C dX1_requireIndex_4 rfl ?_
    refine v_iload_n C dX1_requireIndex_5 rfl ?_
    refine v_icmp_lt C 19 dX1_requireIndex_6 (by decide) (fun c2 => ?_) (fun c2 => ?_)
    · -- 6 t: i < c
      exact v_xvret C dX1_requireIndex_19 (by simp [xIdx, xq, pif, c1, c2]) (by decide) (by decide)
    · -- 6 f: not i < c
      exact v_xthrow C hX he hl (by decide +kernel) (by decide +kernel) (by decide +kernel) (by decide +kernel) xb_IO xg_IO rfl (text := "there is no such number") (by decide +kernel) dX1_requireIndex_9 dX1_requireIndex_12 dX1_requireIndex_13 dX1_requireIndex_15 dX1_requireIndex_18 (by simp [xIdx, xq, pif, c1, c2]) (by decide) (by decide) (by decide) (by decide)
set_option maxHeartbeats 4000000 in
set_option maxRecDepth 100000 in
/-- requireRange(v, a, b) -/
theorem k_X1_requireRange (l : Launch) (G : va_G) (cy : Nat → ClassId) (hl : l.stackTraces = false) (w : va_W) (v a b : Int32) : KXV l G cy yX1_requireRange wsX1_requireRange 6 82 1 6 [.int v, .int a, .int b] w (xRng v a b) w := by
  refine KXV_of (own := RX1) (cc := cX1_requireRange) (maxL := 3) (ret := none) (lo0 := [some (.int v), some (.int a), some (.int b)]) (by decide) rfl rfl (by simp [Value.category]) (Nat.le_of_ble_eq_true rfl) rfl (fun p e s m args below meth c A C hX he => ?_)
  refine v_iload_n C dX1_requireRange_0 rfl ?_
  refine v_iload_n C dX1_requireRange_1 rfl ?_
  refine v_icmp_lt C 10 dX1_requireRange_2 (by decide) (fun c1 => ?_) (fun c1 => ?_)
  · -- 2 t: v < a
    exact v_xthrow C hX he hl (by decide +kernel) (by decide +kernel) (by decide +kernel) (by decide +kernel) xb_IA xg_IA rfl (text := "an argument is out of range") (by decide +kernel) dX1_requireRange_10 dX1_requireRange_13 dX1_requireRange_14 dX1_requireRange_16 dX1_requireRange_19 (by simp [xRng, xq, pif, c1]) (by decide) (by decide) (by decide) (by decide)
  · -- 2 f: not v < a
    refine v_iload_n C dX1_requireRange_5 rfl ?_
    refine v_iload_n C dX1_requireRange_6 rfl ?_
    refine v_icmp_le C 20 dX1_requireRange_7 (by decide) (fun c2 => ?_) (fun c2 => ?_)
    · -- 7 t: ¬ b < v
      exact v_xvret C dX1_requireRange_20 (by simp [xRng, xq, pif, c1, c2]) (by decide) (by decide)
    · -- 7 f: not ¬ b < v
      exact v_xthrow C hX he hl (by decide +kernel) (by decide +kernel) (by decide +kernel) (by decide +kernel) xb_IA xg_IA rfl (text := "an argument is out of range") (by decide +kernel) dX1_requireRange_10 dX1_requireRange_13 dX1_requireRange_14 dX1_requireRange_16 dX1_requireRange_19 (by simp [xRng, xq, pif, c1, c2]) (by decide) (by decide) (by decide) (by decide)
noncomputable def xrun (x : Sg) (st mi q : Int32) : Option String := xq (xRng st (x 0 0 + 1) 20000) (xq (xRng mi 1 600) (xq (xRng (st - st / 1440 * 1440 + mi) 1 1440) (xq (xRng q 0 100) (pif (x 1 0 < 30) none (some nIS)))))
def frun (n : Nat) (x : Sg) (st mi q : Int32) : Sg := su (ftell x n st mi q) 1 0 (ftell x n st mi q 1 0 + 1)
noncomputable def xlead (d mi : Int32) : Option String := xq (xIdx d 2) (xRng mi 1 1000)
def ledby (x : Sg) (d : Int32) : Prop := flead x = -1 ∨ flead x = d
noncomputable def fleads (x : Sg) (d mi : Int32) : Sg := pif (ledby x d) (su (su x 3 0 d) 4 0 (su x 3 0 d 0 0 + mi)) x
noncomputable def xorder (n : Nat) (x : Sg) (dp mk r b d : Int32) : Option String := xq (xIdx dp 2) (xq (xIdx r (x 1 0)) (xq (xIdx b 5) (xq (xIdx d 5) (xq (xRng mk 0 999) (pif (x 17 mk.toNatClampNeg = -1) (pif (flead x = dp) (pif (canord n x r.toNatClampNeg b.toNatClampNeg d.toNatClampNeg) none (some nIS)) (some nIS)) none)))))
noncomputable def rorder (x : Sg) (mk : Int32) : Int32 := pif (x 17 mk.toNatClampNeg = -1) (x 2 0) (x 17 mk.toNatClampNeg)
noncomputable def forder (om : Nat) (x : Sg) (mk r b d : Int32) : Sg := pif (x 17 mk.toNatClampNeg = -1) (fwrite (fgive x r.toNatClampNeg b d) om mk.toNatClampNeg (100 * r + 10 * b + d)) x
noncomputable def fbreaks (n : Nat) (x : Sg) (b v : Int32) : Sg := pif (v = 0) (su x 13 b.toNatClampNeg v) (it (sswapb n b) n (it (stakeb b) n (funplug (su x 13 b.toNatClampNeg v) b)))
noncomputable def fails (n : Nat) (x : Sg) (d v : Int32) : Sg := pif (v = 0) (su x 14 d.toNatClampNeg v) (it (sswapd n d) n (it (staked d) n (su x 14 d.toNatClampNeg v)))
noncomputable def xplug (n : Nat) (x : Sg) (b c : Int32) : Option String := xq (xIdx b 5) (xq (xIdx c 2) (pif (under n x b) (some nIS) none))
noncomputable def fplug (x : Sg) (b c : Int32) : Sg := su (funplug x b) 15 c.toNatClampNeg b
noncomputable def xadv (x : Sg) (m : Int32) : Option String := xq (xRng m 1 1000) (pif (30000 < x 0 0 + m) (some nIS) none)
noncomputable def fadv (n : Nat) (x : Sg) (m : Int32) : Sg := it (fun _ => fminute n) m.toNatClampNeg x
set_option maxHeartbeats 4000000 in
set_option maxRecDepth 100000 in
/-- run(st, mi, q) -/
theorem k_X1_run (l : Launch) (G : va_G) (cy : Nat → ClassId) (hl : l.stackTraces = false) (ad : Nat → Nat) (x : Sg) (n : Nat) (hn : x 1 0 = nI n) (h30 : n ≤ 30) (st mi q : Int32) : KXI l G cy yX1_run wsX1_run 7 104 8 48 [.ref (ad 0), .int st, .int mi, .int q] (wD cy ad x) (xrun x st mi q) (x 1 0) (wD cy ad (frun n x st mi q)) := by
  have hin1 : ∀ q ∈ u_ws RX1 TX1 12, q ∈ wsX1_run := by decide +kernel
  refine KXI_of (own := RX1) (cc := cX1_run) (maxL := 5) (ret := (some .int)) (lo0 := [some (.ref (ad 0)), some (.int st), some (.int mi), some (.int q), none]) (by decide) rfl rfl (by simp [Value.category]) (Nat.le_of_ble_eq_true rfl) rfl (fun p e s m args below meth c A C hX he => ?_)
  refine v_iload_n C dX1_run_0 rfl ?_
  refine v_aload_n C dX1_run_1 rfl ?_
  refine vD_g_minute C hin1 (by decide +kernel) dX1_run_2 ?_
  refine v_iconst C (1) dX1_run_5 (by decide) ?_
  refine v_iadd C dX1_run_6 ?_
  refine v_sipush C (20000) dX1_run_7 (by decide) ?_
  refine v_xSV C hX he (k_X1_requireRange l G cy hl (wD cy ad x) st ((x 0 0) + 1) 20000) rfl gX1_run_X1_requireRange (nA := 3) (by decide +kernel) rfl (by decide) (by decide) (by decide) rfl (Nat.le_of_ble_eq_true rfl) dX1_run_10 (fun E h => by simp [xrun, xq, pif, h]) (fun hx1 => ?_)
  refine v_iload_n C dX1_run_13 rfl ?_
  refine v_iconst C (1) dX1_run_14 (by decide) ?_
  refine v_sipush C (600) dX1_run_15 (by decide) ?_
  refine v_xSV C hX he (k_X1_requireRange l G cy hl (wD cy ad x) mi 1 600) rfl gX1_run_X1_requireRange (nA := 3) (by decide +kernel) rfl (by decide) (by decide) (by decide) rfl (Nat.le_of_ble_eq_true rfl) dX1_run_18 (fun E h => by simp [xrun, xq, pif, h, hx1]) (fun hx2 => ?_)
  refine v_iload_n C dX1_run_21 rfl ?_
  refine v_sipush C (1440) dX1_run_22 (by decide) ?_
  refine v_irem C dX1_run_25 (by decide) ?_
  refine v_iload_n C dX1_run_26 rfl ?_
  refine v_iadd C dX1_run_27 ?_
  refine v_iconst C (1) dX1_run_28 (by decide) ?_
  refine v_sipush C (1440) dX1_run_29 (by decide) ?_
  refine v_xSV C hX he (k_X1_requireRange l G cy hl (wD cy ad x) ((st - st / 1440 * 1440) + mi) 1 1440) rfl gX1_run_X1_requireRange (nA := 3) (by decide +kernel) rfl (by decide) (by decide) (by decide) rfl (Nat.le_of_ble_eq_true rfl) dX1_run_32 (fun E h => by simp [xrun, xq, pif, h, hx1, hx2]) (fun hx3 => ?_)
  refine v_iload_n C dX1_run_35 rfl ?_
  refine v_iconst C (0) dX1_run_36 (by decide) ?_
  refine v_bipush C (100) dX1_run_37 (by decide) ?_
  refine v_xSV C hX he (k_X1_requireRange l G cy hl (wD cy ad x) q 0 100) rfl gX1_run_X1_requireRange (nA := 3) (by decide +kernel) rfl (by decide) (by decide) (by decide) rfl (Nat.le_of_ble_eq_true rfl) dX1_run_39 (fun E h => by simp [xrun, xq, pif, h, hx1, hx2, hx3]) (fun hx4 => ?_)
  refine v_aload_n C dX1_run_42 rfl ?_
  refine vD_g_runCount C hin1 (by decide +kernel) dX1_run_43 ?_
  refine v_bipush C (30) dX1_run_46 (by decide) ?_
  refine v_icmp_lt C 61 dX1_run_48 (by decide) (fun c1 => ?_) (fun c1 => ?_)
  · -- 48 t: (x 1 0) < 30
    have hn30 : n < 30 := (nI_ltI (by omega) (by decide)).mp (by rw [← hn]; exact c1)
    refine v_aload_n C dX1_run_61 rfl ?_
    refine vD_g_runCount C hin1 (by decide +kernel) dX1_run_62 ?_
    refine v_istore C dX1_run_65 (by decide) ?_
    refine v_aload_n C dX1_run_67 rfl ?_
    refine vD_g_rows C hin1 (by decide +kernel) dX1_run_68 ?_
    refine v_iload C dX1_run_71 rfl ?_
    refine vD_aald C n hn (by omega) dX1_run_73 ?_
    refine v_iload_n C dX1_run_74 rfl ?_
    refine v_iload_n C dX1_run_75 rfl ?_
    refine v_iload_n C dX1_run_76 rfl ?_
    refine vR_cV C (by omega) (k_X0_tell l G cy ad x n (by omega) st mi q) rfl gX1_run_X0_tell (nA := 3) (by decide +kernel) rfl (by decide) (by decide) rfl rfl (Nat.le_of_ble_eq_true rfl) dX1_run_77 ?_
    refine v_aload_n C dX1_run_80 rfl ?_
    refine v_dup C dX1_run_81 rfl ?_
    refine vD_g_runCount C hin1 (by decide +kernel) dX1_run_82 ?_
    refine v_iconst C (1) dX1_run_85 (by decide) ?_
    refine v_iadd C dX1_run_86 ?_
    refine vD_p_runCount C hin1 (by decide +kernel) dX1_run_87 ?_
    refine v_iload C dX1_run_90 rfl ?_
    refine v_xiret C dX1_run_92 (by simp [xrun, xq, pif, hx1, hx2, hx3, hx4, c1]) ?_ (by decide) (by decide)
    rfl
  · -- 48 f: not (x 1 0) < 30
    exact v_xthrow C hX he hl (by decide +kernel) (by decide +kernel) (by decide +kernel) (by decide +kernel) xb_IS xg_IS rfl (text := "there are 30 runs") (by decide +kernel) dX1_run_51 dX1_run_54 dX1_run_55 dX1_run_57 dX1_run_60 (by simp [xrun, xq, pif, hx1, hx2, hx3, hx4, c1]) (by decide) (by decide) (by decide) (by decide)
set_option maxHeartbeats 4000000 in
set_option maxRecDepth 100000 in
/-- lead(d, mi) -/
theorem k_X1_lead (l : Launch) (G : va_G) (cy : Nat → ClassId) (hl : l.stackTraces = false) (ad : Nat → Nat) (x : Sg) (d mi : Int32) : KXI l G cy yX1_lead wsX1_lead 7 104 8 48 [.ref (ad 0), .int d, .int mi] (wD cy ad x) (xlead d mi) (b2i (ledby x d)) (wD cy ad (fleads x d mi)) := by
  have hin1 : ∀ q ∈ u_ws RX1 TX1 12, q ∈ wsX1_lead := by decide +kernel
  refine KXI_of (own := RX1) (cc := cX1_lead) (maxL := 4) (ret := (some .boolean)) (lo0 := [some (.ref (ad 0)), some (.int d), some (.int mi), none]) (by decide) rfl rfl (by simp [Value.category]) (Nat.le_of_ble_eq_true rfl) rfl (fun p e s m args below meth c A C hX he => ?_)
  refine v_iload_n C dX1_lead_0 rfl ?_
  refine v_iconst C (2) dX1_lead_1 (by decide) ?_
  refine v_xSV C hX he (k_X1_requireIndex l G cy hl (wD cy ad x) d 2) rfl gX1_lead_X1_requireIndex (nA := 2) (by decide +kernel) rfl (by decide) (by decide) (by decide) rfl (Nat.le_of_ble_eq_true rfl) dX1_lead_2 (fun E h => by simp [xlead, xq, pif, h]) (fun hx1 => ?_)
  refine v_iload_n C dX1_lead_5 rfl ?_
  refine v_iconst C (1) dX1_lead_6 (by decide) ?_
  refine v_sipush C (1000) dX1_lead_7 (by decide) ?_
  refine v_xSV C hX he (k_X1_requireRange l G cy hl (wD cy ad x) mi 1 1000) rfl gX1_lead_X1_requireRange (nA := 3) (by decide +kernel) rfl (by decide) (by decide) (by decide) rfl (Nat.le_of_ble_eq_true rfl) dX1_lead_10 (fun E h => by simp [xlead, xq, pif, h, hx1]) (fun hx2 => ?_)
  refine v_aload_n C dX1_lead_13 rfl ?_
  refine vD_cI C (k_X1_leader l G cy ad x) rfl gX1_lead_X1_leader (nA := 0) (by decide +kernel) rfl (by decide) (by decide) rfl rfl (Nat.le_of_ble_eq_true rfl) dX1_lead_14 ?_
  refine v_istore_n C dX1_lead_17 (by decide) ?_
  refine v_iload_n C dX1_lead_18 rfl ?_
  refine v_iconst C (-1) dX1_lead_19 (by decide) ?_
  refine v_icmp_eq C 30 dX1_lead_20 (by decide) (fun c1 => ?_) (fun c1 => ?_)
  · -- 20 t: (flead x) = (-1)
    refine v_aload_n C dX1_lead_30 rfl ?_
    refine v_iload_n C dX1_lead_31 rfl ?_
    refine vD_p_holder C hin1 (by decide +kernel) dX1_lead_32 ?_
    refine v_aload_n C dX1_lead_35 rfl ?_
    refine v_aload_n C dX1_lead_36 rfl ?_
    refine vD_g_minute C hin1 (by decide +kernel) dX1_lead_37 ?_
    refine v_iload_n C dX1_lead_40 rfl ?_
    refine v_iadd C dX1_lead_41 ?_
    refine vD_p_leaseEnd C hin1 (by decide +kernel) dX1_lead_42 ?_
    refine v_iconst C (1) dX1_lead_45 (by decide) ?_
    have e9 : fleads x d mi = su (su x 3 0 d) 4 0 (((su x 3 0 d) 0 0) + mi) := by simp [fleads, ledby, pif, c1]
    rw [e9]
    refine v_xzret C rfl dX1_lead_46 (by simp [xlead, xq, pif, hx1, hx2, c1]) ?_ (by decide) (by decide)
    exact (b2i_t (by simp [ledby, c1])).symm
  · -- 20 f: not (flead x) = (-1)
    refine v_iload_n C dX1_lead_23 rfl ?_
    refine v_iload_n C dX1_lead_24 rfl ?_
    refine v_icmp_eq C 30 dX1_lead_25 (by decide) (fun c2 => ?_) (fun c2 => ?_)
    · -- 25 t: (flead x) = d
      refine v_aload_n C dX1_lead_30 rfl ?_
      refine v_iload_n C dX1_lead_31 rfl ?_
      refine vD_p_holder C hin1 (by decide +kernel) dX1_lead_32 ?_
      refine v_aload_n C dX1_lead_35 rfl ?_
      refine v_aload_n C dX1_lead_36 rfl ?_
      refine vD_g_minute C hin1 (by decide +kernel) dX1_lead_37 ?_
      refine v_iload_n C dX1_lead_40 rfl ?_
      refine v_iadd C dX1_lead_41 ?_
      refine vD_p_leaseEnd C hin1 (by decide +kernel) dX1_lead_42 ?_
      refine v_iconst C (1) dX1_lead_45 (by decide) ?_
      have e9 : fleads x d mi = su (su x 3 0 d) 4 0 (((su x 3 0 d) 0 0) + mi) := by simp [fleads, ledby, pif, c1, c2]
      rw [e9]
      refine v_xzret C rfl dX1_lead_46 (by simp [xlead, xq, pif, hx1, hx2, c1, c2]) ?_ (by decide) (by decide)
      exact (b2i_t (by simp [ledby, c1, c2])).symm
    · -- 25 f: not (flead x) = d
      refine v_iconst C (0) dX1_lead_28 (by decide) ?_
      have e9 : fleads x d mi = x := by simp [fleads, ledby, pif, c1, c2]
      rw [e9]
      refine v_xzret C rfl dX1_lead_29 (by simp [xlead, xq, pif, hx1, hx2, c1, c2]) ?_ (by decide) (by decide)
      exact (b2i_f (by simp [ledby, c1, c2])).symm
set_option maxHeartbeats 4000000 in
set_option maxRecDepth 100000 in
/-- order(dp, mk, r, b, d) -/
theorem k_X1_order (l : Launch) (G : va_G) (cy : Nat → ClassId) (hl : l.stackTraces = false) (ad : Nat → Nat) (x : Sg) (n : Nat) (hn : x 1 0 = nI n) (h30 : n ≤ 30) (om : Nat) (hom : x 2 0 = nI om) (hom1 : om < 1000) (dp mk r b d : Int32) : KXI l G cy yX1_order wsX1_order 7 113 8 48 [.ref (ad 0), .int dp, .int mk, .int r, .int b, .int d] (wD cy ad x) (xorder n x dp mk r b d) (rorder x mk) (wD cy ad (forder om x mk r b d)) := by
  have hin1 : ∀ q ∈ u_ws RX1 TX1 12, q ∈ wsX1_order := by decide +kernel
  refine KXI_of (own := RX1) (cc := cX1_order) (maxL := 6) (ret := (some .int)) (lo0 := [some (.ref (ad 0)), some (.int dp), some (.int mk), some (.int r), some (.int b), some (.int d)]) (by decide) rfl rfl (by simp [Value.category]) (Nat.le_of_ble_eq_true rfl) rfl (fun p e s m args below meth c A C hX he => ?_)
  refine v_iload_n C dX1_order_0 rfl ?_
  refine v_iconst C (2) dX1_order_1 (by decide) ?_
  refine v_xSV C hX he (k_X1_requireIndex l G cy hl (wD cy ad x) dp 2) rfl gX1_order_X1_requireIndex (nA := 2) (by decide +kernel) rfl (by decide) (by decide) (by decide) rfl (Nat.le_of_ble_eq_true rfl) dX1_order_2 (fun E h => by simp [xorder, xq, pif, h]) (fun hx1 => ?_)
  refine v_iload_n C dX1_order_5 rfl ?_
  refine v_aload_n C dX1_order_6 rfl ?_
  refine vD_g_runCount C hin1 (by decide +kernel) dX1_order_7 ?_
  refine v_xSV C hX he (k_X1_requireIndex l G cy hl (wD cy ad x) r (x 1 0)) rfl gX1_order_X1_requireIndex (nA := 2) (by decide +kernel) rfl (by decide) (by decide) (by decide) rfl (Nat.le_of_ble_eq_true rfl) dX1_order_10 (fun E h => by simp [xorder, xq, pif, h, hx1]) (fun hx2 => ?_)
  obtain ⟨jr, hjr, rfl⟩ := ix_ex (N := n) (by omega) (xIdx_n hx2).1 (hn ▸ (xIdx_n hx2).2)
  have hcjr : (nI jr).toNatClampNeg = jr := nI_clamp (by omega)
  refine v_iload C dX1_order_13 rfl ?_
  refine v_iconst C (5) dX1_order_15 (by decide) ?_
  refine v_xSV C hX he (k_X1_requireIndex l G cy hl (wD cy ad x) b 5) rfl gX1_order_X1_requireIndex (nA := 2) (by decide +kernel) rfl (by decide) (by decide) (by decide) rfl (Nat.le_of_ble_eq_true rfl) dX1_order_16 (fun E h => by simp [xorder, xq, pif, h, hx1, hx2, hcjr]) (fun hx3 => ?_)
  obtain ⟨jb, hjb, rfl⟩ := ix_ex (N := 5) (by decide) (xIdx_n hx3).1 (xIdx_n hx3).2
  have hcjb : (nI jb).toNatClampNeg = jb := nI_clamp (by omega)
  refine v_iload C dX1_order_19 rfl ?_
  refine v_iconst C (5) dX1_order_21 (by decide) ?_
  refine v_xSV C hX he (k_X1_requireIndex l G cy hl (wD cy ad x) d 5) rfl gX1_order_X1_requireIndex (nA := 2) (by decide +kernel) rfl (by decide) (by decide) (by decide) rfl (Nat.le_of_ble_eq_true rfl) dX1_order_22 (fun E h => by simp [xorder, xq, pif, h, hx1, hx2, hx3, hcjr, hcjb]) (fun hx4 => ?_)
  obtain ⟨jd, hjd, rfl⟩ := ix_ex (N := 5) (by decide) (xIdx_n hx4).1 (xIdx_n hx4).2
  have hcjd : (nI jd).toNatClampNeg = jd := nI_clamp (by omega)
  refine v_iload_n C dX1_order_25 rfl ?_
  refine v_iconst C (0) dX1_order_26 (by decide) ?_
  refine v_sipush C (999) dX1_order_27 (by decide) ?_
  refine v_xSV C hX he (k_X1_requireRange l G cy hl (wD cy ad x) mk 0 999) rfl gX1_order_X1_requireRange (nA := 3) (by decide +kernel) rfl (by decide) (by decide) (by decide) rfl (Nat.le_of_ble_eq_true rfl) dX1_order_30 (fun E h => by simp [xorder, xq, pif, h, hx1, hx2, hx3, hx4, hcjr, hcjb, hcjd]) (fun hx5 => ?_)
  obtain ⟨jmk, hjmk, rfl⟩ := ix_exr (N := 999) (by decide) (xRng_n hx5).1 (xRng_n hx5).2
  have hcjmk : (nI jmk).toNatClampNeg = jmk := nI_clamp (by omega)
  refine v_aload_n C dX1_order_33 rfl ?_
  refine vD_g_numberOfMark C hin1 (by decide +kernel) dX1_order_34 ?_
  refine v_iload_n C dX1_order_37 rfl ?_
  refine vD_l_numberOfMark C jmk rfl (by omega) dX1_order_38 ?_
  refine v_iconst C (-1) dX1_order_39 (by decide) ?_
  refine v_icmp_eq C 50 dX1_order_40 (by decide) (fun c1 => ?_) (fun c1 => ?_)
  · -- 40 t: (x 17 jmk) = (-1)
    refine v_aload_n C dX1_order_50 rfl ?_
    refine vD_cI C (k_X1_leader l G cy ad x) rfl gX1_order_X1_leader (nA := 0) (by decide +kernel) rfl (by decide) (by decide) rfl rfl (Nat.le_of_ble_eq_true rfl) dX1_order_51 ?_
    refine v_iload_n C dX1_order_54 rfl ?_
    refine v_icmp_ne C 75 dX1_order_55 (by decide) (fun c2 => ?_) (fun c2 => ?_)
    · -- 55 t: ¬ (flead x) = dp
      exact v_xthrow C hX he hl (by decide +kernel) (by decide +kernel) (by decide +kernel) (by decide +kernel) xb_IS xg_IS rfl (text := "the run can't be ordered so") (by decide +kernel) dX1_order_75 dX1_order_78 dX1_order_79 dX1_order_81 dX1_order_84 (by simp [xorder, xq, pif, hx1, hx2, hx3, hx4, hx5, hcjr, hcjb, hcjd, hcjmk, c1, c2]) (by decide) (by decide) (by decide) (by decide)
    · -- 55 f: not ¬ (flead x) = dp
      refine v_aload_n C dX1_order_58 rfl ?_
      refine v_aload_n C dX1_order_59 rfl ?_
      refine vD_g_rows C hin1 (by decide +kernel) dX1_order_60 ?_
      refine v_iload_n C dX1_order_63 rfl ?_
      refine vD_aald C jr rfl (by omega) dX1_order_64 ?_
      refine v_iload C dX1_order_65 rfl ?_
      refine v_iload C dX1_order_67 rfl ?_
      refine vD_cI C (k_X1_canBeOrdered l G cy ad x n hn h30 jr (by omega) jb (by omega) jd (by omega)) rfl gX1_order_X1_canBeOrdered (nA := 3) (by decide +kernel) rfl (by decide) (by decide) rfl rfl (Nat.le_of_ble_eq_true rfl) dX1_order_69 ?_
      refine v_if_ne C 85 dX1_order_72 (by decide) (fun c3 => ?_) (fun c3 => ?_)
      · -- 72 t: ¬ (b2i (canord n x jr jb jd)) = 0
        replace c3 := Classical.not_not.mp (fun z => c3 (b2i_0.mpr z))
        refine v_aload_n C dX1_order_85 rfl ?_
        refine vD_g_rows C hin1 (by decide +kernel) dX1_order_86 ?_
        refine v_iload_n C dX1_order_89 rfl ?_
        refine vD_aald C jr rfl (by omega) dX1_order_90 ?_
        refine v_iload C dX1_order_91 rfl ?_
        refine v_iload C dX1_order_93 rfl ?_
        refine vR_cV C (by omega) (k_X0_give l G cy ad x jr (by omega) (nI jb) (nI jd)) rfl gX1_order_X0_give (nA := 2) (by decide +kernel) rfl (by decide) (by decide) rfl rfl (Nat.le_of_ble_eq_true rfl) dX1_order_95 ?_
        refine v_aload_n C dX1_order_98 rfl ?_
        refine v_iload_n C dX1_order_99 rfl ?_
        refine v_bipush C (100) dX1_order_100 (by decide) ?_
        refine v_iload_n C dX1_order_102 rfl ?_
        refine v_imul C dX1_order_103 ?_
        refine v_bipush C (10) dX1_order_104 (by decide) ?_
        refine v_iload C dX1_order_106 rfl ?_
        refine v_imul C dX1_order_108 ?_
        refine v_iadd C dX1_order_109 ?_
        refine v_iload C dX1_order_110 rfl ?_
        refine v_iadd C dX1_order_112 ?_
        refine vD_cI C (k_X1_write l G cy ad (fgive x jr (nI jb) (nI jd)) om (by rw [show (fgive x jr (nI jb) (nI jd)) 2 0 = x 2 0 from by simp [fgive, su_f]]; exact hom) hom1 jmk (by omega) (((100 * (nI jr)) + (10 * (nI jb))) + (nI jd))) rfl gX1_order_X1_write (nA := 2) (by decide +kernel) rfl (by decide) (by decide) rfl rfl (Nat.le_of_ble_eq_true rfl) dX1_order_113 ?_
        have e9 : forder om x (nI jmk) (nI jr) (nI jb) (nI jd) = fwrite (fgive x jr (nI jb) (nI jd)) om jmk (((100 * (nI jr)) + (10 * (nI jb))) + (nI jd)) := by simp [forder, hcjr, hcjmk, pif, c1, c2, c3]
        rw [e9]
        refine v_xiret C dX1_order_116 (by simp [xorder, xq, pif, hx1, hx2, hx3, hx4, hx5, hcjr, hcjb, hcjd, hcjmk, c1, c2, c3]) ?_ (by decide) (by decide)
        simp [rorder, hcjmk, pif, fgive, su_f, c1, c2, c3]
      · -- 72 f: not ¬ (b2i (canord n x jr jb jd)) = 0
        replace c3 := b2i_0.mp c3
        exact v_xthrow C hX he hl (by decide +kernel) (by decide +kernel) (by decide +kernel) (by decide +kernel) xb_IS xg_IS rfl (text := "the run can't be ordered so") (by decide +kernel) dX1_order_75 dX1_order_78 dX1_order_79 dX1_order_81 dX1_order_84 (by simp [xorder, xq, pif, hx1, hx2, hx3, hx4, hx5, hcjr, hcjb, hcjd, hcjmk, c1, c2, c3]) (by decide) (by decide) (by decide) (by decide)
  · -- 40 f: not (x 17 jmk) = (-1)
    refine v_aload_n C dX1_order_43 rfl ?_
    refine vD_g_numberOfMark C hin1 (by decide +kernel) dX1_order_44 ?_
    refine v_iload_n C dX1_order_47 rfl ?_
    refine vD_l_numberOfMark C jmk rfl (by omega) dX1_order_48 ?_
    have e9 : forder om x (nI jmk) (nI jr) (nI jb) (nI jd) = x := by simp [forder, hcjr, hcjmk, pif, c1]
    rw [e9]
    refine v_xiret C dX1_order_49 (by simp [xorder, xq, pif, hx1, hx2, hx3, hx4, hx5, hcjr, hcjb, hcjd, hcjmk, c1]) ?_ (by decide) (by decide)
    simp [rorder, hcjmk, pif, fgive, su_f, c1]
set_option maxHeartbeats 4000000 in
set_option maxRecDepth 100000 in
/-- breaks(b, v) -/
theorem k_X1_breaks (l : Launch) (G : va_G) (cy : Nat → ClassId) (hl : l.stackTraces = false) (ad : Nat → Nat) (x : Sg) (n : Nat) (hn : x 1 0 = nI n) (h30 : n ≤ 30) (hbo : ∀ k, vp_nar .boolean (x 13 k) = x 13 k) (v : Int32) (hv : vp_nar .boolean v = v) (b : Int32) : KXI l G cy yX1_breaks wsX1_breaks 7 112 8 48 [.ref (ad 0), .int b, .int v] (wD cy ad x) (xIdx b 5) (x 13 b.toNatClampNeg) (wD cy ad (fbreaks n x b v)) := by
  have hin1 : ∀ q ∈ u_ws RX1 TX1 12, q ∈ wsX1_breaks := by decide +kernel
  refine KXI_of (own := RX1) (cc := cX1_breaks) (maxL := 4) (ret := (some .boolean)) (lo0 := [some (.ref (ad 0)), some (.int b), some (.int v), none]) (by decide) rfl rfl (by simp [Value.category]) (Nat.le_of_ble_eq_true rfl) rfl (fun p e s m args below meth c A C hX he => ?_)
  refine v_iload_n C dX1_breaks_0 rfl ?_
  refine v_iconst C (5) dX1_breaks_1 (by decide) ?_
  refine v_xSV C hX he (k_X1_requireIndex l G cy hl (wD cy ad x) b 5) rfl gX1_breaks_X1_requireIndex (nA := 2) (by decide +kernel) rfl (by decide) (by decide) (by decide) rfl (Nat.le_of_ble_eq_true rfl) dX1_breaks_2 (fun E h => by simp [xq, pif, h]) (fun hx1 => ?_)
  obtain ⟨jb, hjb, rfl⟩ := ix_ex (N := 5) (by decide) (xIdx_n hx1).1 (xIdx_n hx1).2
  have hcjb : (nI jb).toNatClampNeg = jb := nI_clamp (by omega)
  refine v_aload_n C dX1_breaks_5 rfl ?_
  refine vD_g_broken C hin1 (by decide +kernel) dX1_breaks_6 ?_
  refine v_iload_n C dX1_breaks_9 rfl ?_
  refine vD_l_broken C jb rfl (by omega) dX1_breaks_10 ?_
  refine v_istore_n C dX1_breaks_11 (by decide) ?_
  refine v_aload_n C dX1_breaks_12 rfl ?_
  refine vD_g_broken C hin1 (by decide +kernel) dX1_breaks_13 ?_
  refine v_iload_n C dX1_breaks_16 rfl ?_
  refine v_iload_n C dX1_breaks_17 rfl ?_
  refine vD_s_broken C jb rfl (by omega) (by first | assumption | exact hbo _ | (simp [su]; assumption) | decide) dX1_breaks_18 ?_
  refine v_iload_n C dX1_breaks_19 rfl ?_
  refine v_if_eq C 38 dX1_breaks_20 (by decide) (fun c1 => ?_) (fun c1 => ?_)
  · -- 20 t: v = 0
    refine v_iload_n C dX1_breaks_38 rfl ?_
    have e9 : fbreaks n x (nI jb) v = su x 13 jb v := by simp [fbreaks, hcjb, pif, c1]
    rw [e9]
    refine v_xzret C (by first | assumption | exact hbo _ | (simp [su]; assumption) | decide) dX1_breaks_39 (by simp [xq, pif, hx1, hcjb, c1]) ?_ (by decide) (by decide)
    rw [hcjb]
  · -- 20 f: not v = 0
    have hn1 : (funplug (su x 13 jb v) (nI jb)) 1 0 = nI n := by rw [funplug_f _ _ (by decide), su_f _ _ _ _ (by decide)]; exact hn
    have hn2 : (it (stakeb (nI jb)) n (funplug (su x 13 jb v) (nI jb))) 1 0 = nI n := by rw [it_f (fun c y => stakeb_f _ c y (by decide) (by decide) (by decide))]; exact hn1
    refine v_aload_n C dX1_breaks_23 rfl ?_
    refine v_iload_n C dX1_breaks_24 rfl ?_
    refine vD_cV C (k_X1_unplug l G cy ad (su x 13 jb v) (nI jb)) rfl gX1_breaks_X1_unplug (nA := 1) (by decide +kernel) rfl (by decide) (by decide) rfl rfl (Nat.le_of_ble_eq_true rfl) dX1_breaks_25 ?_
    refine v_aload_n C dX1_breaks_28 rfl ?_
    refine v_iload_n C dX1_breaks_29 rfl ?_
    refine vD_cV C (k_X1_takeOrdersFromBus l G cy ad (funplug (su x 13 jb v) (nI jb)) n hn1 h30 (nI jb)) rfl gX1_breaks_X1_takeOrdersFromBus (nA := 1) (by decide +kernel) rfl (by decide) (by decide) rfl rfl (Nat.le_of_ble_eq_true rfl) dX1_breaks_30 ?_
    refine v_aload_n C dX1_breaks_33 rfl ?_
    refine v_iload_n C dX1_breaks_34 rfl ?_
    refine vD_cV C (k_X1_swapBus l G cy ad (it (stakeb (nI jb)) n (funplug (su x 13 jb v) (nI jb))) n hn2 h30 (nI jb)) rfl gX1_breaks_X1_swapBus (nA := 1) (by decide +kernel) rfl (by decide) (by decide) rfl rfl (Nat.le_of_ble_eq_true rfl) dX1_breaks_35 ?_
    refine v_iload_n C dX1_breaks_38 rfl ?_
    have e9 : fbreaks n x (nI jb) v = it (sswapb n (nI jb)) n (it (stakeb (nI jb)) n (funplug (su x 13 jb v) (nI jb))) := by simp [fbreaks, hcjb, pif, c1]
    rw [e9]
    refine v_xzret C (by first | assumption | exact hbo _ | (simp [su]; assumption) | decide) dX1_breaks_39 (by simp [xq, pif, hx1, hcjb, c1]) ?_ (by decide) (by decide)
    rw [hcjb]
set_option maxHeartbeats 4000000 in
set_option maxRecDepth 100000 in
/-- ails(d, v) -/
theorem k_X1_ails (l : Launch) (G : va_G) (cy : Nat → ClassId) (hl : l.stackTraces = false) (ad : Nat → Nat) (x : Sg) (n : Nat) (hn : x 1 0 = nI n) (h30 : n ≤ 30) (hbo : ∀ k, vp_nar .boolean (x 14 k) = x 14 k) (v : Int32) (hv : vp_nar .boolean v = v) (d : Int32) : KXI l G cy yX1_ails wsX1_ails 7 156 8 48 [.ref (ad 0), .int d, .int v] (wD cy ad x) (xIdx d 5) (x 14 d.toNatClampNeg) (wD cy ad (fails n x d v)) := by
  have hin1 : ∀ q ∈ u_ws RX1 TX1 12, q ∈ wsX1_ails := by decide +kernel
  refine KXI_of (own := RX1) (cc := cX1_ails) (maxL := 4) (ret := (some .boolean)) (lo0 := [some (.ref (ad 0)), some (.int d), some (.int v), none]) (by decide) rfl rfl (by simp [Value.category]) (Nat.le_of_ble_eq_true rfl) rfl (fun p e s m args below meth c A C hX he => ?_)
  refine v_iload_n C dX1_ails_0 rfl ?_
  refine v_iconst C (5) dX1_ails_1 (by decide) ?_
  refine v_xSV C hX he (k_X1_requireIndex l G cy hl (wD cy ad x) d 5) rfl gX1_ails_X1_requireIndex (nA := 2) (by decide +kernel) rfl (by decide) (by decide) (by decide) rfl (Nat.le_of_ble_eq_true rfl) dX1_ails_2 (fun E h => by simp [xq, pif, h]) (fun hx1 => ?_)
  obtain ⟨jd, hjd, rfl⟩ := ix_ex (N := 5) (by decide) (xIdx_n hx1).1 (xIdx_n hx1).2
  have hcjd : (nI jd).toNatClampNeg = jd := nI_clamp (by omega)
  refine v_aload_n C dX1_ails_5 rfl ?_
  refine vD_g_ill C hin1 (by decide +kernel) dX1_ails_6 ?_
  refine v_iload_n C dX1_ails_9 rfl ?_
  refine vD_l_ill C jd rfl (by omega) dX1_ails_10 ?_
  refine v_istore_n C dX1_ails_11 (by decide) ?_
  refine v_aload_n C dX1_ails_12 rfl ?_
  refine vD_g_ill C hin1 (by decide +kernel) dX1_ails_13 ?_
  refine v_iload_n C dX1_ails_16 rfl ?_
  refine v_iload_n C dX1_ails_17 rfl ?_
  refine vD_s_ill C jd rfl (by omega) (by first | assumption | exact hbo _ | (simp [su]; assumption) | decide) dX1_ails_18 ?_
  refine v_iload_n C dX1_ails_19 rfl ?_
  refine v_if_eq C 33 dX1_ails_20 (by decide) (fun c1 => ?_) (fun c1 => ?_)
  · -- 20 t: v = 0
    refine v_iload_n C dX1_ails_33 rfl ?_
    have e9 : fails n x (nI jd) v = su x 14 jd v := by simp [fails, hcjd, pif, c1]
    rw [e9]
    refine v_xzret C (by first | assumption | exact hbo _ | (simp [su]; assumption) | decide) dX1_ails_34 (by simp [xq, pif, hx1, hcjd, c1]) ?_ (by decide) (by decide)
    rw [hcjd]
  · -- 20 f: not v = 0
    have hn1 : (su x 14 jd v) 1 0 = nI n := by rw [su_f _ _ _ _ (by decide)]; exact hn
    have hn2 : (it (staked (nI jd)) n (su x 14 jd v)) 1 0 = nI n := by rw [it_f (fun c y => staked_f _ c y (by decide) (by decide) (by decide))]; exact hn1
    refine v_aload_n C dX1_ails_23 rfl ?_
    refine v_iload_n C dX1_ails_24 rfl ?_
    refine vD_cV C (k_X1_takeOrdersFromDriver l G cy ad (su x 14 jd v) n hn1 h30 (nI jd)) rfl gX1_ails_X1_takeOrdersFromDriver (nA := 1) (by decide +kernel) rfl (by decide) (by decide) rfl rfl (Nat.le_of_ble_eq_true rfl) dX1_ails_25 ?_
    refine v_aload_n C dX1_ails_28 rfl ?_
    refine v_iload_n C dX1_ails_29 rfl ?_
    refine vD_cV C (k_X1_swapDriver l G cy ad (it (staked (nI jd)) n (su x 14 jd v)) n hn2 h30 (nI jd)) rfl gX1_ails_X1_swapDriver (nA := 1) (by decide +kernel) rfl (by decide) (by decide) rfl rfl (Nat.le_of_ble_eq_true rfl) dX1_ails_30 ?_
    refine v_iload_n C dX1_ails_33 rfl ?_
    have e9 : fails n x (nI jd) v = it (sswapd n (nI jd)) n (it (staked (nI jd)) n (su x 14 jd v)) := by simp [fails, hcjd, pif, c1]
    rw [e9]
    refine v_xzret C (by first | assumption | exact hbo _ | (simp [su]; assumption) | decide) dX1_ails_34 (by simp [xq, pif, hx1, hcjd, c1]) ?_ (by decide) (by decide)
    rw [hcjd]
set_option maxHeartbeats 4000000 in
set_option maxRecDepth 100000 in
/-- plug(b, ch) -/
theorem k_X1_plug (l : Launch) (G : va_G) (cy : Nat → ClassId) (hl : l.stackTraces = false) (ad : Nat → Nat) (x : Sg) (n : Nat) (hn : x 1 0 = nI n) (h30 : n ≤ 30) (b ch : Int32) : KXI l G cy yX1_plug wsX1_plug 7 103 8 48 [.ref (ad 0), .int b, .int ch] (wD cy ad x) (xplug n x b ch) ((funplug x b) 15 ch.toNatClampNeg) (wD cy ad (fplug x b ch)) := by
  have hin1 : ∀ q ∈ u_ws RX1 TX1 12, q ∈ wsX1_plug := by decide +kernel
  refine KXI_of (own := RX1) (cc := cX1_plug) (maxL := 4) (ret := (some .int)) (lo0 := [some (.ref (ad 0)), some (.int b), some (.int ch), none]) (by decide) rfl rfl (by simp [Value.category]) (Nat.le_of_ble_eq_true rfl) rfl (fun p e s m args below meth c A C hX he => ?_)
  refine v_iload_n C dX1_plug_0 rfl ?_
  refine v_iconst C (5) dX1_plug_1 (by decide) ?_
  refine v_xSV C hX he (k_X1_requireIndex l G cy hl (wD cy ad x) b 5) rfl gX1_plug_X1_requireIndex (nA := 2) (by decide +kernel) rfl (by decide) (by decide) (by decide) rfl (Nat.le_of_ble_eq_true rfl) dX1_plug_2 (fun E h => by simp [xplug, xq, pif, h]) (fun hx1 => ?_)
  refine v_iload_n C dX1_plug_5 rfl ?_
  refine v_iconst C (2) dX1_plug_6 (by decide) ?_
  refine v_xSV C hX he (k_X1_requireIndex l G cy hl (wD cy ad x) ch 2) rfl gX1_plug_X1_requireIndex (nA := 2) (by decide +kernel) rfl (by decide) (by decide) (by decide) rfl (Nat.le_of_ble_eq_true rfl) dX1_plug_7 (fun E h => by simp [xplug, xq, pif, h, hx1]) (fun hx2 => ?_)
  obtain ⟨jch, hjch, rfl⟩ := ix_ex (N := 2) (by decide) (xIdx_n hx2).1 (xIdx_n hx2).2
  have hcjch : (nI jch).toNatClampNeg = jch := nI_clamp (by omega)
  refine v_aload_n C dX1_plug_10 rfl ?_
  refine v_iload_n C dX1_plug_11 rfl ?_
  refine vD_cI C (k_X1_isUnderWay l G cy ad x n hn h30 b) rfl gX1_plug_X1_isUnderWay (nA := 1) (by decide +kernel) rfl (by decide) (by decide) rfl rfl (Nat.le_of_ble_eq_true rfl) dX1_plug_12 ?_
  refine v_if_eq C 28 dX1_plug_15 (by decide) (fun c1 => ?_) (fun c1 => ?_)
  · -- 15 t: (b2i (under n x b)) = 0
    replace c1 := b2i_0.mp c1
    refine v_aload_n C dX1_plug_28 rfl ?_
    refine v_iload_n C dX1_plug_29 rfl ?_
    refine vD_cV C (k_X1_unplug l G cy ad x b) rfl gX1_plug_X1_unplug (nA := 1) (by decide +kernel) rfl (by decide) (by decide) rfl rfl (Nat.le_of_ble_eq_true rfl) dX1_plug_30 ?_
    refine v_aload_n C dX1_plug_33 rfl ?_
    refine vD_g_busAtCharger C hin1 (by decide +kernel) dX1_plug_34 ?_
    refine v_iload_n C dX1_plug_37 rfl ?_
    refine vD_l_busAtCharger C jch rfl (by omega) dX1_plug_38 ?_
    refine v_istore_n C dX1_plug_39 (by decide) ?_
    refine v_aload_n C dX1_plug_40 rfl ?_
    refine vD_g_busAtCharger C hin1 (by decide +kernel) dX1_plug_41 ?_
    refine v_iload_n C dX1_plug_44 rfl ?_
    refine v_iload_n C dX1_plug_45 rfl ?_
    refine vD_s_busAtCharger C jch rfl (by omega) dX1_plug_46 ?_
    refine v_iload_n C dX1_plug_47 rfl ?_
    have e9 : fplug x b (nI jch) = su (funplug x b) 15 jch b := by simp [fplug, hcjch, pif, c1]
    rw [e9]
    refine v_xiret C dX1_plug_48 (by simp [xplug, xq, pif, hx1, hx2, hcjch, c1]) ?_ (by decide) (by decide)
    rw [hcjch]
  · -- 15 f: not (b2i (under n x b)) = 0
    replace c1 := Classical.not_not.mp (fun z => c1 (b2i_0.mpr z))
    exact v_xthrow C hX he hl (by decide +kernel) (by decide +kernel) (by decide +kernel) (by decide +kernel) xb_IS xg_IS rfl (text := "the bus has a run that goes") (by decide +kernel) dX1_plug_18 dX1_plug_21 dX1_plug_22 dX1_plug_24 dX1_plug_27 (by simp [xplug, xq, pif, hx1, hx2, hcjch, c1]) (by decide) (by decide) (by decide) (by decide)
theorem m0_1 {m : Int32} (h : ¬ m < 1) : ¬ m < 0 := by
  rw [Int32.lt_iff_toInt_lt] at h ⊢
  rw [show (1 : Int32).toInt = 1 by decide] at h
  rw [show (0 : Int32).toInt = 0 by decide]
  omega
set_option maxHeartbeats 4000000 in
set_option maxRecDepth 100000 in
/-- advance(mi) -/
theorem k_X1_advance (l : Launch) (G : va_G) (cy : Nat → ClassId) (hl : l.stackTraces = false) (ad : Nat → Nat) (x : Sg) (n : Nat) (hn : x 1 0 = nI n) (h30 : n ≤ 30) (mi : Int32) : KXI l G cy yX1_advance wsX1_advance 7 106 8 48 [.ref (ad 0), .int mi] (wD cy ad x) (xadv x mi) (fadv n x mi 0 0) (wD cy ad (fadv n x mi)) := by
  have hin1 : ∀ q ∈ u_ws RX1 TX1 12, q ∈ wsX1_advance := by decide +kernel
  refine KXI_of (own := RX1) (cc := cX1_advance) (maxL := 3) (ret := (some .int)) (lo0 := [some (.ref (ad 0)), some (.int mi), none]) (by decide) rfl rfl (by simp [Value.category]) (Nat.le_of_ble_eq_true rfl) rfl (fun p e s m args below meth c A C hX he => ?_)
  refine v_iload_n C dX1_advance_0 rfl ?_
  refine v_iconst C (1) dX1_advance_1 (by decide) ?_
  refine v_sipush C (1000) dX1_advance_2 (by decide) ?_
  refine v_xSV C hX he (k_X1_requireRange l G cy hl (wD cy ad x) mi 1 1000) rfl gX1_advance_X1_requireRange (nA := 3) (by decide +kernel) rfl (by decide) (by decide) (by decide) rfl (Nat.le_of_ble_eq_true rfl) dX1_advance_5 (fun E h => by simp [xadv, xq, pif, h]) (fun hx1 => ?_)
  obtain ⟨jm, hjm, rfl⟩ := ix_exr (N := 1000) (by decide) (m0_1 (xRng_n hx1).1) (xRng_n hx1).2
  have hcjm : (nI jm).toNatClampNeg = jm := nI_clamp (by omega)
  refine v_aload_n C dX1_advance_8 rfl ?_
  refine vD_g_minute C hin1 (by decide +kernel) dX1_advance_9 ?_
  refine v_iload_n C dX1_advance_12 rfl ?_
  refine v_iadd C dX1_advance_13 ?_
  refine v_sipush C (30000) dX1_advance_14 (by decide) ?_
  refine v_icmp_le C 30 dX1_advance_17 (by decide) (fun c1 => ?_) (fun c1 => ?_)
  · -- 17 t: ¬ 30000 < ((x 0 0) + (nI jm))
    refine v_iconst C (0) dX1_advance_30 (by decide) ?_
    refine v_istore_n C dX1_advance_31 (by decide) ?_
    refine V.loop (fun k : Nat => wD cy ad (it (fun _ => fminute n) k x)) (fun k : Nat => ([some (.ref (ad 0)), some (.int (nI jm)), some (.int (nI k))] : List (Option Value))) (fun k : Nat => True) jm ?_ trivial
    intro k hle_k hP_k ih_k
    try dsimp only at hP_k ih_k ⊢
    have hn_k : it (fun _ => fminute n) k x 1 0 = nI n := (it_f (fun c y => fminute_f n y (by decide) (by decide) (by decide) (by decide) (by decide) (by decide)) k x).trans hn
    refine v_iload_n C dX1_advance_32 rfl ?_
    refine v_iload_n C dX1_advance_33 rfl ?_
    refine v_geN C k jm 47 dX1_advance_34 (by decide) rfl rfl (by omega) (by omega) (fun c2 => ?_) (fun c2 => ?_)
    · -- loop 32 is over
      have e_k : jm = k := by omega
      subst e_k
      refine v_aload_n C dX1_advance_47 rfl ?_
      refine vD_g_minute C hin1 (by decide +kernel) dX1_advance_48 ?_
      have e9 : fadv n x (nI jm) = it (fun _ => fminute n) jm x := by simp [fadv, hcjm, pif, c1]
      rw [e9]
      refine v_xiret C dX1_advance_51 (by simp [xadv, xq, pif, hx1, hcjm, c1]) ?_ (by decide) (by decide)
      rfl
    · have hk : k < jm := c2
      refine v_aload_n C dX1_advance_37 rfl ?_
      refine vD_cV C (k_X1_passMinute l G cy ad (it (fun _ => fminute n) k x) n hn_k h30) rfl gX1_advance_X1_passMinute (nA := 0) (by decide +kernel) rfl (by decide) (by decide) rfl rfl (Nat.le_of_ble_eq_true rfl) dX1_advance_38 ?_
      refine v_incN C dX1_advance_41 rfl (by decide) ?_
      refine v_goto C 32 dX1_advance_44 (by decide) ?_
      exact ih_k hk trivial
  · -- 17 f: not ¬ 30000 < ((x 0 0) + (nI jm))
    exact v_xthrow C hX he hl (by decide +kernel) (by decide +kernel) (by decide +kernel) (by decide +kernel) xb_IS xg_IS rfl (text := "the minute would be above 30000") (by decide +kernel) dX1_advance_20 dX1_advance_23 dX1_advance_24 dX1_advance_26 dX1_advance_29 (by simp [xadv, xq, pif, hx1, hcjm, c1]) (by decide) (by decide) (by decide) (by decide)
set_option maxHeartbeats 4000000 in
set_option maxRecDepth 100000 in
/-- orderAt(o) -/
theorem k_X1_orderAt (l : Launch) (G : va_G) (cy : Nat → ClassId) (hl : l.stackTraces = false) (ad : Nat → Nat) (x : Sg) (om : Nat) (hom : x 2 0 = nI om) (hom1 : om ≤ 1000) (o : Int32) : KXI l G cy yX1_orderAt wsX1_orderAt 7 103 8 48 [.ref (ad 0), .int o] (wD cy ad x) (xIdx o (x 2 0)) (x 16 o.toNatClampNeg) (wD cy ad x) := by
  have hin1 : ∀ q ∈ u_ws RX1 TX1 12, q ∈ wsX1_orderAt := by decide +kernel
  refine KXI_of (own := RX1) (cc := cX1_orderAt) (maxL := 2) (ret := (some .int)) (lo0 := [some (.ref (ad 0)), some (.int o)]) (by decide) rfl rfl (by simp [Value.category]) (Nat.le_of_ble_eq_true rfl) rfl (fun p e s m args below meth c A C hX he => ?_)
  refine v_iload_n C dX1_orderAt_0 rfl ?_
  refine v_aload_n C dX1_orderAt_1 rfl ?_
  refine vD_g_orderCount C hin1 (by decide +kernel) dX1_orderAt_2 ?_
  refine v_xSV C hX he (k_X1_requireIndex l G cy hl (wD cy ad x) o (x 2 0)) rfl gX1_orderAt_X1_requireIndex (nA := 2) (by decide +kernel) rfl (by decide) (by decide) (by decide) rfl (Nat.le_of_ble_eq_true rfl) dX1_orderAt_5 (fun E h => by simp [xq, pif, h]) (fun hx1 => ?_)
  obtain ⟨jo, hjo, rfl⟩ := ix_ex (N := om) (by omega) (xIdx_n hx1).1 (hom ▸ (xIdx_n hx1).2)
  have hcjo : (nI jo).toNatClampNeg = jo := nI_clamp (by omega)
  refine v_aload_n C dX1_orderAt_8 rfl ?_
  refine vD_g_log C hin1 (by decide +kernel) dX1_orderAt_9 ?_
  refine v_iload_n C dX1_orderAt_12 rfl ?_
  refine vD_l_log C jo rfl (by omega) dX1_orderAt_13 ?_
  refine v_xiret C dX1_orderAt_14 (by simp [xq, pif, hx1, hcjo]) ?_ (by decide) (by decide)
  rw [hcjo]
set_option maxHeartbeats 4000000 in
set_option maxRecDepth 100000 in
/-- stateOf(r) -/
theorem k_X1_stateOf (l : Launch) (G : va_G) (cy : Nat → ClassId) (hl : l.stackTraces = false) (ad : Nat → Nat) (x : Sg) (n : Nat) (hn : x 1 0 = nI n) (h30 : n ≤ 30) (r : Int32) : KXI l G cy yX1_stateOf wsX1_stateOf 7 103 8 48 [.ref (ad 0), .int r] (wD cy ad x) (xIdx r (x 1 0)) (x 9 r.toNatClampNeg) (wD cy ad x) := by
  have hin1 : ∀ q ∈ u_ws RX1 TX1 12, q ∈ wsX1_stateOf := by decide +kernel
  have hin0 : ∀ q ∈ u_ws RX0 TX0 6, q ∈ wsX1_stateOf := by decide +kernel
  refine KXI_of (own := RX1) (cc := cX1_stateOf) (maxL := 2) (ret := (some .int)) (lo0 := [some (.ref (ad 0)), some (.int r)]) (by decide) rfl rfl (by simp [Value.category]) (Nat.le_of_ble_eq_true rfl) rfl (fun p e s m args below meth c A C hX he => ?_)
  refine v_iload_n C dX1_stateOf_0 rfl ?_
  refine v_aload_n C dX1_stateOf_1 rfl ?_
  refine vD_g_runCount C hin1 (by decide +kernel) dX1_stateOf_2 ?_
  refine v_xSV C hX he (k_X1_requireIndex l G cy hl (wD cy ad x) r (x 1 0)) rfl gX1_stateOf_X1_requireIndex (nA := 2) (by decide +kernel) rfl (by decide) (by decide) (by decide) rfl (Nat.le_of_ble_eq_true rfl) dX1_stateOf_5 (fun E h => by simp [xq, pif, h]) (fun hx1 => ?_)
  obtain ⟨jr, hjr, rfl⟩ := ix_ex (N := n) (by omega) (xIdx_n hx1).1 (hn ▸ (xIdx_n hx1).2)
  have hcjr : (nI jr).toNatClampNeg = jr := nI_clamp (by omega)
  refine v_aload_n C dX1_stateOf_8 rfl ?_
  refine vD_g_rows C hin1 (by decide +kernel) dX1_stateOf_9 ?_
  refine v_iload_n C dX1_stateOf_12 rfl ?_
  refine vD_aald C jr rfl (by omega) dX1_stateOf_13 ?_
  refine vR_g_state C hin0 (by omega) (by decide +kernel) dX1_stateOf_14 ?_
  refine v_xiret C dX1_stateOf_17 (by simp [xq, pif, hx1, hcjr]) ?_ (by decide) (by decide)
  rw [hcjr]
set_option maxHeartbeats 4000000 in
set_option maxRecDepth 100000 in
/-- busOf(r) -/
theorem k_X1_busOf (l : Launch) (G : va_G) (cy : Nat → ClassId) (hl : l.stackTraces = false) (ad : Nat → Nat) (x : Sg) (n : Nat) (hn : x 1 0 = nI n) (h30 : n ≤ 30) (r : Int32) : KXI l G cy yX1_busOf wsX1_busOf 7 103 8 48 [.ref (ad 0), .int r] (wD cy ad x) (xIdx r (x 1 0)) (x 10 r.toNatClampNeg) (wD cy ad x) := by
  have hin1 : ∀ q ∈ u_ws RX1 TX1 12, q ∈ wsX1_busOf := by decide +kernel
  have hin0 : ∀ q ∈ u_ws RX0 TX0 6, q ∈ wsX1_busOf := by decide +kernel
  refine KXI_of (own := RX1) (cc := cX1_busOf) (maxL := 2) (ret := (some .int)) (lo0 := [some (.ref (ad 0)), some (.int r)]) (by decide) rfl rfl (by simp [Value.category]) (Nat.le_of_ble_eq_true rfl) rfl (fun p e s m args below meth c A C hX he => ?_)
  refine v_iload_n C dX1_busOf_0 rfl ?_
  refine v_aload_n C dX1_busOf_1 rfl ?_
  refine vD_g_runCount C hin1 (by decide +kernel) dX1_busOf_2 ?_
  refine v_xSV C hX he (k_X1_requireIndex l G cy hl (wD cy ad x) r (x 1 0)) rfl gX1_busOf_X1_requireIndex (nA := 2) (by decide +kernel) rfl (by decide) (by decide) (by decide) rfl (Nat.le_of_ble_eq_true rfl) dX1_busOf_5 (fun E h => by simp [xq, pif, h]) (fun hx1 => ?_)
  obtain ⟨jr, hjr, rfl⟩ := ix_ex (N := n) (by omega) (xIdx_n hx1).1 (hn ▸ (xIdx_n hx1).2)
  have hcjr : (nI jr).toNatClampNeg = jr := nI_clamp (by omega)
  refine v_aload_n C dX1_busOf_8 rfl ?_
  refine vD_g_rows C hin1 (by decide +kernel) dX1_busOf_9 ?_
  refine v_iload_n C dX1_busOf_12 rfl ?_
  refine vD_aald C jr rfl (by omega) dX1_busOf_13 ?_
  refine vR_g_bus C hin0 (by omega) (by decide +kernel) dX1_busOf_14 ?_
  refine v_xiret C dX1_busOf_17 (by simp [xq, pif, hx1, hcjr]) ?_ (by decide) (by decide)
  rw [hcjr]
set_option maxHeartbeats 4000000 in
set_option maxRecDepth 100000 in
/-- driverOf(r) -/
theorem k_X1_driverOf (l : Launch) (G : va_G) (cy : Nat → ClassId) (hl : l.stackTraces = false) (ad : Nat → Nat) (x : Sg) (n : Nat) (hn : x 1 0 = nI n) (h30 : n ≤ 30) (r : Int32) : KXI l G cy yX1_driverOf wsX1_driverOf 7 103 8 48 [.ref (ad 0), .int r] (wD cy ad x) (xIdx r (x 1 0)) (x 11 r.toNatClampNeg) (wD cy ad x) := by
  have hin1 : ∀ q ∈ u_ws RX1 TX1 12, q ∈ wsX1_driverOf := by decide +kernel
  have hin0 : ∀ q ∈ u_ws RX0 TX0 6, q ∈ wsX1_driverOf := by decide +kernel
  refine KXI_of (own := RX1) (cc := cX1_driverOf) (maxL := 2) (ret := (some .int)) (lo0 := [some (.ref (ad 0)), some (.int r)]) (by decide) rfl rfl (by simp [Value.category]) (Nat.le_of_ble_eq_true rfl) rfl (fun p e s m args below meth c A C hX he => ?_)
  refine v_iload_n C dX1_driverOf_0 rfl ?_
  refine v_aload_n C dX1_driverOf_1 rfl ?_
  refine vD_g_runCount C hin1 (by decide +kernel) dX1_driverOf_2 ?_
  refine v_xSV C hX he (k_X1_requireIndex l G cy hl (wD cy ad x) r (x 1 0)) rfl gX1_driverOf_X1_requireIndex (nA := 2) (by decide +kernel) rfl (by decide) (by decide) (by decide) rfl (Nat.le_of_ble_eq_true rfl) dX1_driverOf_5 (fun E h => by simp [xq, pif, h]) (fun hx1 => ?_)
  obtain ⟨jr, hjr, rfl⟩ := ix_ex (N := n) (by omega) (xIdx_n hx1).1 (hn ▸ (xIdx_n hx1).2)
  have hcjr : (nI jr).toNatClampNeg = jr := nI_clamp (by omega)
  refine v_aload_n C dX1_driverOf_8 rfl ?_
  refine vD_g_rows C hin1 (by decide +kernel) dX1_driverOf_9 ?_
  refine v_iload_n C dX1_driverOf_12 rfl ?_
  refine vD_aald C jr rfl (by omega) dX1_driverOf_13 ?_
  refine vR_g_driver C hin0 (by omega) (by decide +kernel) dX1_driverOf_14 ?_
  refine v_xiret C dX1_driverOf_17 (by simp [xq, pif, hx1, hcjr]) ?_ (by decide) (by decide)
  rw [hcjr]
set_option maxHeartbeats 4000000 in
set_option maxRecDepth 100000 in
/-- charge(b) -/
theorem k_X1_charge (l : Launch) (G : va_G) (cy : Nat → ClassId) (hl : l.stackTraces = false) (ad : Nat → Nat) (x : Sg) (b : Int32) : KXI l G cy yX1_charge wsX1_charge 7 103 8 48 [.ref (ad 0), .int b] (wD cy ad x) (xIdx b 5) (x 12 b.toNatClampNeg) (wD cy ad x) := by
  have hin1 : ∀ q ∈ u_ws RX1 TX1 12, q ∈ wsX1_charge := by decide +kernel
  refine KXI_of (own := RX1) (cc := cX1_charge) (maxL := 2) (ret := (some .int)) (lo0 := [some (.ref (ad 0)), some (.int b)]) (by decide) rfl rfl (by simp [Value.category]) (Nat.le_of_ble_eq_true rfl) rfl (fun p e s m args below meth c A C hX he => ?_)
  refine v_iload_n C dX1_charge_0 rfl ?_
  refine v_iconst C (5) dX1_charge_1 (by decide) ?_
  refine v_xSV C hX he (k_X1_requireIndex l G cy hl (wD cy ad x) b 5) rfl gX1_charge_X1_requireIndex (nA := 2) (by decide +kernel) rfl (by decide) (by decide) (by decide) rfl (Nat.le_of_ble_eq_true rfl) dX1_charge_2 (fun E h => by simp [xq, pif, h]) (fun hx1 => ?_)
  obtain ⟨jb, hjb, rfl⟩ := ix_ex (N := 5) (by decide) (xIdx_n hx1).1 (xIdx_n hx1).2
  have hcjb : (nI jb).toNatClampNeg = jb := nI_clamp (by omega)
  refine v_aload_n C dX1_charge_5 rfl ?_
  refine vD_g_charges C hin1 (by decide +kernel) dX1_charge_6 ?_
  refine v_iload_n C dX1_charge_9 rfl ?_
  refine vD_l_charges C jb rfl (by omega) dX1_charge_10 ?_
  refine v_xiret C dX1_charge_11 (by simp [xq, pif, hx1, hcjb]) ?_ (by decide) (by decide)
  rw [hcjb]
set_option maxHeartbeats 4000000 in
set_option maxRecDepth 100000 in
/-- promised(b) -/
theorem k_X1_promised (l : Launch) (G : va_G) (cy : Nat → ClassId) (hl : l.stackTraces = false) (ad : Nat → Nat) (x : Sg) (n : Nat) (hn : x 1 0 = nI n) (h30 : n ≤ 30) (b : Int32) : KXI l G cy yX1_promised wsX1_promised 7 103 8 48 [.ref (ad 0), .int b] (wD cy ad x) (xIdx b 5) (fprom n x b) (wD cy ad x) := by
  refine KXI_of (own := RX1) (cc := cX1_promised) (maxL := 2) (ret := (some .int)) (lo0 := [some (.ref (ad 0)), some (.int b)]) (by decide) rfl rfl (by simp [Value.category]) (Nat.le_of_ble_eq_true rfl) rfl (fun p e s m args below meth c A C hX he => ?_)
  refine v_iload_n C dX1_promised_0 rfl ?_
  refine v_iconst C (5) dX1_promised_1 (by decide) ?_
  refine v_xSV C hX he (k_X1_requireIndex l G cy hl (wD cy ad x) b 5) rfl gX1_promised_X1_requireIndex (nA := 2) (by decide +kernel) rfl (by decide) (by decide) (by decide) rfl (Nat.le_of_ble_eq_true rfl) dX1_promised_2 (fun E h => by simp [xq, pif, h]) (fun hx1 => ?_)
  refine v_aload_n C dX1_promised_5 rfl ?_
  refine v_iload_n C dX1_promised_6 rfl ?_
  refine vD_cI C (k_X1_promisedCharge l G cy ad x n hn h30 b) rfl gX1_promised_X1_promisedCharge (nA := 1) (by decide +kernel) rfl (by decide) (by decide) rfl rfl (Nat.le_of_ble_eq_true rfl) dX1_promised_7 ?_
  refine v_xiret C dX1_promised_10 (by simp [xq, pif, hx1]) ?_ (by decide) (by decide)
  rfl
set_option maxHeartbeats 4000000 in
set_option maxRecDepth 100000 in
/-- minutesOf(d, day) -/
theorem k_X1_minutesOf (l : Launch) (G : va_G) (cy : Nat → ClassId) (hl : l.stackTraces = false) (ad : Nat → Nat) (x : Sg) (n : Nat) (hn : x 1 0 = nI n) (h30 : n ≤ 30) (d day : Int32) : KXI l G cy yX1_minutesOf wsX1_minutesOf 7 103 8 48 [.ref (ad 0), .int d, .int day] (wD cy ad x) (xIdx d 5) (fwork n x d day) (wD cy ad x) := by
  refine KXI_of (own := RX1) (cc := cX1_minutesOf) (maxL := 3) (ret := (some .int)) (lo0 := [some (.ref (ad 0)), some (.int d), some (.int day)]) (by decide) rfl rfl (by simp [Value.category]) (Nat.le_of_ble_eq_true rfl) rfl (fun p e s m args below meth c A C hX he => ?_)
  refine v_iload_n C dX1_minutesOf_0 rfl ?_
  refine v_iconst C (5) dX1_minutesOf_1 (by decide) ?_
  refine v_xSV C hX he (k_X1_requireIndex l G cy hl (wD cy ad x) d 5) rfl gX1_minutesOf_X1_requireIndex (nA := 2) (by decide +kernel) rfl (by decide) (by decide) (by decide) rfl (Nat.le_of_ble_eq_true rfl) dX1_minutesOf_2 (fun E h => by simp [xq, pif, h]) (fun hx1 => ?_)
  refine v_aload_n C dX1_minutesOf_5 rfl ?_
  refine v_iload_n C dX1_minutesOf_6 rfl ?_
  refine v_iload_n C dX1_minutesOf_7 rfl ?_
  refine vD_cI C (k_X1_workedMinutes l G cy ad x n hn h30 d day) rfl gX1_minutesOf_X1_workedMinutes (nA := 2) (by decide +kernel) rfl (by decide) (by decide) rfl rfl (Nat.le_of_ble_eq_true rfl) dX1_minutesOf_8 ?_
  refine v_xiret C dX1_minutesOf_11 (by simp [xq, pif, hx1]) ?_ (by decide) (by decide)
  rfl
