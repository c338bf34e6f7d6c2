/-! DepotLog: what is done -/
/-! which fields stay -/
theorem pif_ap2 {P : Prop} (a b : Sg) (f k : Nat) : pif P a b f k = pif P (a f k) (b f k) := by
  by_cases h : P
  · rw [pif_t h, pif_t h]
  · rw [pif_f h, pif_f h]
theorem pif_s {α : Sort _} {P : Prop} (a : α) : pif P a a = a := by
  by_cases h : P
  · rw [pif_t h]
  · rw [pif_f h]
theorem fdrop_f {f k : Nat} (x : Sg) (j : Nat) (v : Int32) (h9 : f ≠ 9) (h10 : f ≠ 10) (h11 : f ≠ 11) : fdrop x j v f k = x f k := by simp [fdrop, su_f, h9, h10, h11]
theorem sunplug_f {f k : Nat} (b : Int32) (c : Nat) (y : Sg) (h15 : f ≠ 15) : sunplug b c y f k = y f k := by simp [sunplug, pif_ap2, su_f, h15, pif_s]
theorem funplug_f {f k : Nat} (x : Sg) (b : Int32) (h15 : f ≠ 15) : funplug x b f k = x f k := it_keep (sunplug b) (fun y => y f k) 2 x (fun q y _ => sunplug_f b q y h15)
theorem fsend_f {f k : Nat} (x : Sg) (b q : Int32) (h12 : f ≠ 12) (h15 : f ≠ 15) : fsend x b q f k = x f k := by simp [fsend, pif_ap2, funplug_f, su_f, h12, h15, pif_s]
theorem stakeb_f {f k : Nat} (b : Int32) (c : Nat) (y : Sg) (h9 : f ≠ 9) (h10 : f ≠ 10) (h11 : f ≠ 11) : stakeb b c y f k = y f k := by simp [stakeb, pif_ap2, fdrop_f, h9, h10, h11, pif_s]
theorem staked_f {f k : Nat} (b : Int32) (c : Nat) (y : Sg) (h9 : f ≠ 9) (h10 : f ≠ 10) (h11 : f ≠ 11) : staked b c y f k = y f k := by simp [staked, pif_ap2, fdrop_f, h9, h10, h11, pif_s]
theorem fgiveb_f {f k : Nat} (n : Nat) (x : Sg) (r : Nat) (h9 : f ≠ 9) (h10 : f ≠ 10) (h11 : f ≠ 11) (h12 : f ≠ 12) (h15 : f ≠ 15) : fgiveb n x r f k = x f k := by simp [fgiveb, pif_ap2, fdrop_f, fsend_f, su_f, h9, h10, h11, h12, h15, pif_s]
theorem fgived_f {f k : Nat} (n : Nat) (x : Sg) (r : Nat) (h9 : f ≠ 9) (h10 : f ≠ 10) (h11 : f ≠ 11) : fgived n x r f k = x f k := by simp [fgived, pif_ap2, fdrop_f, su_f, h9, h10, h11, pif_s]
theorem sswapb_f {f k : Nat} (n : Nat) (b : Int32) (r : Nat) (x : Sg) (h9 : f ≠ 9) (h10 : f ≠ 10) (h11 : f ≠ 11) (h12 : f ≠ 12) (h15 : f ≠ 15) : sswapb n b r x f k = x f k := by simp [sswapb, pif_ap2, fgiveb_f, h9, h10, h11, h12, h15, pif_s]
theorem sswapd_f {f k : Nat} (n : Nat) (b : Int32) (r : Nat) (x : Sg) (h9 : f ≠ 9) (h10 : f ≠ 10) (h11 : f ≠ 11) : sswapd n b r x f k = x f k := by simp [sswapd, pif_ap2, fgived_f, h9, h10, h11, pif_s]
theorem sload_f {f k : Nat} (c : Nat) (y : Sg) (h12 : f ≠ 12) : sload c y f k = y f k := by simp [sload, pif_ap2, su_f, h12, pif_s]
theorem send__f {f k : Nat} (c : Nat) (y : Sg) (h9 : f ≠ 9) : send_ c y f k = y f k := by simp [send_, pif_ap2, su_f, h9, pif_s]
theorem fstart_f {f k : Nat} (y : Sg) (c : Nat) (h9 : f ≠ 9) (h10 : f ≠ 10) (h11 : f ≠ 11) (h12 : f ≠ 12) (h15 : f ≠ 15) : fstart y c f k = y f k := by simp [fstart, pif_ap2, fsend_f, fdrop_f, su_f, h9, h10, h11, h12, h15, pif_s]
theorem sstart_f {f k : Nat} (c : Nat) (y : Sg) (h9 : f ≠ 9) (h10 : f ≠ 10) (h11 : f ≠ 11) (h12 : f ≠ 12) (h15 : f ≠ 15) : sstart c y f k = y f k := by simp [sstart, pif_ap2, fstart_f, h9, h10, h11, h12, h15, pif_s]
theorem it_f {g : Nat → Sg → Sg} {f k : Nat} (h : ∀ c y, g c y f k = y f k) (n : Nat) (x : Sg) : it g n x f k = x f k := it_keep g (fun y => y f k) n x (fun q y _ => h q y)
theorem fminute_f {f k : Nat} (n : Nat) (x : Sg) (h0 : f ≠ 0) (h9 : f ≠ 9) (h10 : f ≠ 10) (h11 : f ≠ 11) (h12 : f ≠ 12) (h15 : f ≠ 15) : fminute n x f k = x f k := by
  unfold fminute
  rw [it_f (fun c y => sstart_f c y h9 h10 h11 h12 h15), it_f (fun c y => send__f c y h9), su_f _ _ _ _ h0, it_f (fun c y => sload_f c y h12)]
theorem lowF_s {P : Nat → Prop} {k N : Nat} (hk : k < N) : lowF P (N - k) k = pif (P k) (nI k) (lowF P (N - (k + 1)) (k + 1)) := by
  rw [show N - k = (N - (k + 1)) + 1 by omega]
  rfl

set_option maxHeartbeats 4000000 in
set_option maxRecDepth 100000 in
/-- unplug(b) -/
theorem k_X1_unplug (l : Launch) (G : va_G) (cy : Nat → ClassId) (ad : Nat → Nat) (x : Sg) (b : Int32) : KV l G cy yX1_unplug wsX1_unplug 0 0 0 0 [.ref (ad 0), .int b] (wD cy ad x) (wD cy ad (funplug x b)) := by
  have hin1 : ∀ q ∈ u_ws RX1 TX1 12, q ∈ wsX1_unplug := by decide +kernel
  refine KV_of (own := RX1) (cc := cX1_unplug) (maxL := 3) (ret := none) (lo0 := [some (.ref (ad 0)), some (.int b), none]) (by decide) rfl rfl (by simp [Value.category]) (Nat.le_of_ble_eq_true rfl) rfl (fun p e s m args below meth c A _ C => ?_)
  refine v_iconst C (0) dX1_unplug_0 (by decide) ?_
  refine v_istore_n C dX1_unplug_1 (by decide) ?_
  refine V.loop (fun k : Nat => wD cy ad (it (sunplug b) k x)) (fun k : Nat => ([some (.ref (ad 0)), some (.int b), some (.int (nI k))] : List (Option Value))) (fun k : Nat => True) 2 ?_ trivial
  intro k hle_k hP_k ih_k
  try dsimp only at hP_k ih_k ⊢
  refine v_iload_n C dX1_unplug_2 rfl ?_
  refine v_iconst C (2) dX1_unplug_3 (by decide) ?_
  refine v_geN C k 2 30 dX1_unplug_4 (by decide) rfl rfl (by omega) (by omega) (fun c1 => ?_) (fun c1 => ?_)
  · -- loop 2 is over
    have e_k : 2 = k := by omega
    subst e_k
    exact v_vret C dX1_unplug_30
  · have hk : k < 2 := c1
    refine v_aload_n C dX1_unplug_7 rfl ?_
    refine vD_g_busAtCharger C hin1 (by decide +kernel) dX1_unplug_8 ?_
    refine v_iload_n C dX1_unplug_11 rfl ?_
    refine vD_l_busAtCharger C k rfl (by omega) dX1_unplug_12 ?_
    refine v_iload_n C dX1_unplug_13 rfl ?_
    refine v_icmp_ne C 24 dX1_unplug_14 (by decide) (fun c2 => ?_) (fun c2 => ?_)
    · -- 14 t: ¬ ((it (sunplug b) k x) 15 k) = b
      refine v_incN C dX1_unplug_24 rfl (by decide) ?_
      refine v_goto C 2 dX1_unplug_27 (by decide) ?_
      have q := ih_k hk trivial
      have e : it (sunplug b) (k + 1) x = it (sunplug b) k x := by
        show sunplug b k (it (sunplug b) k x) = it (sunplug b) k x
        simp [sunplug, pif, c2]
      rw [e] at q
      exact q
    · -- 14 f: not ¬ ((it (sunplug b) k x) 15 k) = b
      refine v_aload_n C dX1_unplug_17 rfl ?_
      refine vD_g_busAtCharger C hin1 (by decide +kernel) dX1_unplug_18 ?_
      refine v_iload_n C dX1_unplug_21 rfl ?_
      refine v_iconst C (-1) dX1_unplug_22 (by decide) ?_
      refine vD_s_busAtCharger C k rfl (by omega) dX1_unplug_23 ?_
      refine v_incN C dX1_unplug_24 rfl (by decide) ?_
      refine v_goto C 2 dX1_unplug_27 (by decide) ?_
      have q := ih_k hk trivial
      have e : it (sunplug b) (k + 1) x = su (it (sunplug b) k x) 15 k (-1) := by
        show sunplug b k (it (sunplug b) k x) = su (it (sunplug b) k x) 15 k (-1)
        simp [sunplug, pif, c2]
      rw [e] at q
      exact q
set_option maxHeartbeats 4000000 in
set_option maxRecDepth 100000 in
/-- sendOut(b, q) -/
theorem k_X1_sendOut (l : Launch) (G : va_G) (cy : Nat → ClassId) (ad : Nat → Nat) (x : Sg) (b q : Int32) : KV l G cy yX1_sendOut wsX1_sendOut 1 22 0 0 [.ref (ad 0), .int b, .int q] (wD cy ad x) (wD cy ad (fsend x b q)) := by
  have hin1 : ∀ q ∈ u_ws RX1 TX1 12, q ∈ wsX1_sendOut := by decide +kernel
  refine KV_of (own := RX1) (cc := cX1_sendOut) (maxL := 3) (ret := none) (lo0 := [some (.ref (ad 0)), some (.int b), some (.int q)]) (by decide) rfl rfl (by simp [Value.category]) (Nat.le_of_ble_eq_true rfl) rfl (fun p e s m args below meth c A _ C => ?_)
  refine v_iload_n C dX1_sendOut_0 rfl ?_
  refine v_if_lt C 24 dX1_sendOut_1 (by decide) (fun c1 => ?_) (fun c1 => ?_)
  · -- 1 t: b < 0
    have e : fsend x b q = x := by simp [fsend, pif, c1]
    rw [e]
    exact v_vret C dX1_sendOut_24
  · -- 1 f: not b < 0
    refine v_iload_n C dX1_sendOut_4 rfl ?_
    refine v_iconst C (5) dX1_sendOut_5 (by decide) ?_
    refine v_icmp_ge C 24 dX1_sendOut_6 (by decide) (fun c2 => ?_) (fun c2 => ?_)
    · -- 6 t: ¬ b < 5
      have e : fsend x b q = x := by simp [fsend, pif, c1, c2]
      rw [e]
      exact v_vret C dX1_sendOut_24
    · -- 6 f: not ¬ b < 5
      obtain ⟨hb, hb_lt⟩ := ix_of (N := 5) (by decide) c1 c2
      refine v_aload_n C dX1_sendOut_9 rfl ?_
      refine vD_g_charges C hin1 (by decide +kernel) dX1_sendOut_10 ?_
      refine v_iload_n C dX1_sendOut_13 rfl ?_
      refine v_dup2 C dX1_sendOut_14 rfl rfl ?_
      refine vD_l_charges C b.toNatClampNeg hb (by omega) dX1_sendOut_15 ?_
      refine v_iload_n C dX1_sendOut_16 rfl ?_
      refine v_isub C dX1_sendOut_17 ?_
      refine vD_s_charges C b.toNatClampNeg hb (by omega) dX1_sendOut_18 ?_
      refine v_aload_n C dX1_sendOut_19 rfl ?_
      refine v_iload_n C dX1_sendOut_20 rfl ?_
      refine vD_cV C (k_X1_unplug l G cy ad (su x 12 b.toNatClampNeg ((x 12 b.toNatClampNeg) - q)) b) rfl gX1_sendOut_X1_unplug (nA := 1) (by decide +kernel) rfl (by decide) (by decide) rfl rfl (Nat.le_of_ble_eq_true rfl) dX1_sendOut_21 ?_
      have e : fsend x b q = funplug (su x 12 b.toNatClampNeg ((x 12 b.toNatClampNeg) - q)) b := by simp [fsend, pif, c1, c2]
      rw [e]
      exact v_vret C dX1_sendOut_24
set_option maxHeartbeats 4000000 in
set_option maxRecDepth 100000 in
/-- loadAtChargers() -/
theorem k_X1_loadAtChargers (l : Launch) (G : va_G) (cy : Nat → ClassId) (ad : Nat → Nat) (x : Sg) : KV l G cy yX1_loadAtChargers wsX1_loadAtChargers 0 0 0 0 [.ref (ad 0)] (wD cy ad x) (wD cy ad (it sload 2 x)) := by
  have hin1 : ∀ q ∈ u_ws RX1 TX1 12, q ∈ wsX1_loadAtChargers := by decide +kernel
  refine KV_of (own := RX1) (cc := cX1_loadAtChargers) (maxL := 3) (ret := none) (lo0 := [some (.ref (ad 0)), none, none]) (by decide) rfl rfl (by simp [Value.category]) (Nat.le_of_ble_eq_true rfl) rfl (fun p e s m args below meth c A _ C => ?_)
  refine v_iconst C (0) dX1_loadAtChargers_0 (by decide) ?_
  refine v_istore_n C dX1_loadAtChargers_1 (by decide) ?_
  refine V.loop (fun k : Nat => wD cy ad (it (sload) k x)) (fun k : Nat => ([some (.ref (ad 0)), some (.int (nI k)), none] : List (Option Value))) (fun k : Nat => True) 2 ?_ trivial
  intro k hle_k hP_k ih_k
  try dsimp only at hP_k ih_k ⊢
  refine v_iload_n C dX1_loadAtChargers_2 rfl ?_
  refine v_iconst C (2) dX1_loadAtChargers_3 (by decide) ?_
  refine v_geN C k 2 50 dX1_loadAtChargers_4 (by decide) rfl rfl (by omega) (by omega) (fun c1 => ?_) (fun c1 => ?_)
  · -- loop 2 is over
    have e_k : 2 = k := by omega
    subst e_k
    exact v_vret C dX1_loadAtChargers_50
  · have hk : k < 2 := c1
    refine v_aload_n C dX1_loadAtChargers_7 rfl ?_
    refine vD_g_busAtCharger C hin1 (by decide +kernel) dX1_loadAtChargers_8 ?_
    refine v_iload_n C dX1_loadAtChargers_11 rfl ?_
    refine vD_l_busAtCharger C k rfl (by omega) dX1_loadAtChargers_12 ?_
    refine v_istore_n C dX1_loadAtChargers_13 (by decide) ?_
    refine v_iload_n C dX1_loadAtChargers_14 rfl ?_
    refine v_if_lt C 44 dX1_loadAtChargers_15 (by decide) (fun c2 => ?_) (fun c2 => ?_)
    · -- 15 t: ((it (sload) k x) 15 k) < 0
      refine v_incN C dX1_loadAtChargers_44 rfl (by decide) ?_
      refine v_goto C 2 dX1_loadAtChargers_47 (by decide) ?_
      have q := ih_k hk trivial
      have e : it (sload) (k + 1) x = it (sload) k x := by
        show sload k (it (sload) k x) = it (sload) k x
        simp [sload, pif, c2]
      rw [e] at q
      exact V.lof 2 (q)
    · -- 15 f: not ((it (sload) k x) 15 k) < 0
      refine v_iload_n C dX1_loadAtChargers_18 rfl ?_
      refine v_iconst C (5) dX1_loadAtChargers_19 (by decide) ?_
      refine v_icmp_ge C 44 dX1_loadAtChargers_20 (by decide) (fun c3 => ?_) (fun c3 => ?_)
      · -- 20 t: ¬ ((it (sload) k x) 15 k) < 5
        refine v_incN C dX1_loadAtChargers_44 rfl (by decide) ?_
        refine v_goto C 2 dX1_loadAtChargers_47 (by decide) ?_
        have q := ih_k hk trivial
        have e : it (sload) (k + 1) x = it (sload) k x := by
          show sload k (it (sload) k x) = it (sload) k x
          simp [sload, pif, c2, c3]
        rw [e] at q
        exact V.lof 2 (q)
      · -- 20 f: not ¬ ((it (sload) k x) 15 k) < 5
        obtain ⟨hb, hb_lt⟩ := ix_of (N := 5) (by decide) c2 c3
        refine v_aload_n C dX1_loadAtChargers_23 rfl ?_
        refine vD_g_charges C hin1 (by decide +kernel) dX1_loadAtChargers_24 ?_
        refine v_iload_n C dX1_loadAtChargers_27 rfl ?_
        refine vD_l_charges C ((((it (sload) k x) 15 k)).toNatClampNeg) hb (by omega) dX1_loadAtChargers_28 ?_
        refine v_bipush C (100) dX1_loadAtChargers_29 (by decide) ?_
        refine v_icmp_ge C 44 dX1_loadAtChargers_31 (by decide) (fun c4 => ?_) (fun c4 => ?_)
        · -- 31 t: ¬ ((it (sload) k x) 12 ((((it (sload) k x) 15 k)).toNatClampNeg)) < 100
          refine v_incN C dX1_loadAtChargers_44 rfl (by decide) ?_
          refine v_goto C 2 dX1_loadAtChargers_47 (by decide) ?_
          have q := ih_k hk trivial
          have e : it (sload) (k + 1) x = it (sload) k x := by
            show sload k (it (sload) k x) = it (sload) k x
            simp [sload, pif, c2, c3, c4]
          rw [e] at q
          exact V.lof 2 (q)
        · -- 31 f: not ¬ ((it (sload) k x) 12 ((((it (sload) k x) 15 k)).toNatClampNeg)) < 100
          refine v_aload_n C dX1_loadAtChargers_34 rfl ?_
          refine vD_g_charges C hin1 (by decide +kernel) dX1_loadAtChargers_35 ?_
          refine v_iload_n C dX1_loadAtChargers_38 rfl ?_
          refine v_dup2 C dX1_loadAtChargers_39 rfl rfl ?_
          refine vD_l_charges C ((((it (sload) k x) 15 k)).toNatClampNeg) hb (by omega) dX1_loadAtChargers_40 ?_
          refine v_iconst C (1) dX1_loadAtChargers_41 (by decide) ?_
          refine v_iadd C dX1_loadAtChargers_42 ?_
          refine vD_s_charges C ((((it (sload) k x) 15 k)).toNatClampNeg) hb (by omega) dX1_loadAtChargers_43 ?_
          refine v_incN C dX1_loadAtChargers_44 rfl (by decide) ?_
          refine v_goto C 2 dX1_loadAtChargers_47 (by decide) ?_
          have q := ih_k hk trivial
          have e : it (sload) (k + 1) x = su (it (sload) k x) 12 ((((it (sload) k x) 15 k)).toNatClampNeg) (((it (sload) k x) 12 ((((it (sload) k x) 15 k)).toNatClampNeg)) + 1) := by
            show sload k (it (sload) k x) = su (it (sload) k x) 12 ((((it (sload) k x) 15 k)).toNatClampNeg) (((it (sload) k x) 12 ((((it (sload) k x) 15 k)).toNatClampNeg)) + 1)
            simp [sload, pif, c2, c3, c4]
          rw [e] at q
          exact V.lof 2 (q)
set_option maxHeartbeats 4000000 in
set_option maxRecDepth 100000 in
/-- endRuns() -/
theorem k_X1_endRuns (l : Launch) (G : va_G) (cy : Nat → ClassId) (ad : Nat → Nat) (x : Sg) (n : Nat) (hn : x 1 0 = nI n) (h30 : n ≤ 30) : KV l G cy yX1_endRuns wsX1_endRuns 0 0 0 0 [.ref (ad 0)] (wD cy ad x) (wD cy ad (it send_ n x)) := by
  have hin1 : ∀ q ∈ u_ws RX1 TX1 12, q ∈ wsX1_endRuns := by decide +kernel
  have hin0 : ∀ q ∈ u_ws RX0 TX0 6, q ∈ wsX1_endRuns := by decide +kernel
  refine KV_of (own := RX1) (cc := cX1_endRuns) (maxL := 2) (ret := none) (lo0 := [some (.ref (ad 0)), none]) (by decide) rfl rfl (by simp [Value.category]) (Nat.le_of_ble_eq_true rfl) rfl (fun p e s m args below meth c A _ C => ?_)
  refine v_iconst C (0) dX1_endRuns_0 (by decide) ?_
  refine v_istore_n C dX1_endRuns_1 (by decide) ?_
  refine V.loop (fun k : Nat => wD cy ad (it (send_) k x)) (fun k : Nat => ([some (.ref (ad 0)), some (.int (nI k))] : List (Option Value))) (fun k : Nat => True) n ?_ trivial
  intro k hle_k hP_k ih_k
  try dsimp only at hP_k ih_k ⊢
  have hn_k : it (send_) k x 1 0 = nI n := (it_f (fun c y => send__f c y (by decide)) k x).trans hn
  refine v_iload_n C dX1_endRuns_2 rfl ?_
  refine v_aload_n C dX1_endRuns_3 rfl ?_
  refine vD_g_runCount C hin1 (by decide +kernel) dX1_endRuns_4 ?_
  refine v_geN C k n 55 dX1_endRuns_7 (by decide) rfl hn_k (by omega) (by omega) (fun c1 => ?_) (fun c1 => ?_)
  · -- loop 2 is over
    have e_k : n = k := by omega
    subst e_k
    exact v_vret C dX1_endRuns_55
  · have hk : k < n := c1
    refine v_aload_n C dX1_endRuns_10 rfl ?_
    refine vD_g_rows C hin1 (by decide +kernel) dX1_endRuns_11 ?_
    refine v_iload_n C dX1_endRuns_14 rfl ?_
    refine vD_aald C k rfl (by omega) dX1_endRuns_15 ?_
    refine vR_g_state C hin0 (by omega) (by decide +kernel) dX1_endRuns_16 ?_
    refine v_iconst C (2) dX1_endRuns_19 (by decide) ?_
    refine v_icmp_ne C 49 dX1_endRuns_20 (by decide) (fun c2 => ?_) (fun c2 => ?_)
    · -- 20 t: ¬ ((it (send_) k x) 9 k) = 2
      refine v_incN C dX1_endRuns_49 rfl (by decide) ?_
      refine v_goto C 2 dX1_endRuns_52 (by decide) ?_
      have q := ih_k hk trivial
      have e : it (send_) (k + 1) x = it (send_) k x := by
        show send_ k (it (send_) k x) = it (send_) k x
        simp [send_, pif, c2]
      rw [e] at q
      exact q
    · -- 20 f: not ¬ ((it (send_) k x) 9 k) = 2
      refine v_aload_n C dX1_endRuns_23 rfl ?_
      refine vD_g_rows C hin1 (by decide +kernel) dX1_endRuns_24 ?_
      refine v_iload_n C dX1_endRuns_27 rfl ?_
      refine vD_aald C k rfl (by omega) dX1_endRuns_28 ?_
      refine vR_g_end C hin0 (by omega) (by decide +kernel) dX1_endRuns_29 ?_
      refine v_aload_n C dX1_endRuns_32 rfl ?_
      refine vD_g_minute C hin1 (by decide +kernel) dX1_endRuns_33 ?_
      refine v_icmp_ne C 49 dX1_endRuns_36 (by decide) (fun c3 => ?_) (fun c3 => ?_)
      · -- 36 t: ¬ ((it (send_) k x) 7 k) = ((it (send_) k x) 0 0)
        refine v_incN C dX1_endRuns_49 rfl (by decide) ?_
        refine v_goto C 2 dX1_endRuns_52 (by decide) ?_
        have q := ih_k hk trivial
        have e : it (send_) (k + 1) x = it (send_) k x := by
          show send_ k (it (send_) k x) = it (send_) k x
          simp [send_, pif, c2, c3]
        rw [e] at q
        exact q
      · -- 36 f: not ¬ ((it (send_) k x) 7 k) = ((it (send_) k x) 0 0)
        refine v_aload_n C dX1_endRuns_39 rfl ?_
        refine vD_g_rows C hin1 (by decide +kernel) dX1_endRuns_40 ?_
        refine v_iload_n C dX1_endRuns_43 rfl ?_
        refine vD_aald C k rfl (by omega) dX1_endRuns_44 ?_
        refine v_iconst C (3) dX1_endRuns_45 (by decide) ?_
        refine vR_p_state C hin0 (by omega) (by decide +kernel) dX1_endRuns_46 ?_
        refine v_incN C dX1_endRuns_49 rfl (by decide) ?_
        refine v_goto C 2 dX1_endRuns_52 (by decide) ?_
        have q := ih_k hk trivial
        have e : it (send_) (k + 1) x = su (it (send_) k x) 9 k 3 := by
          show send_ k (it (send_) k x) = su (it (send_) k x) 9 k 3
          simp [send_, pif, c2, c3]
        rw [e] at q
        exact q
set_option maxHeartbeats 4000000 in
set_option maxRecDepth 100000 in
/-- startRun(j) -/
theorem k_X1_startRun (l : Launch) (G : va_G) (cy : Nat → ClassId) (ad : Nat → Nat) (x : Sg) (j : Nat) (hj : j < 30) : KV l G cy yX1_startRun wsX1_startRun 2 44 0 0 [.ref (ad 0), .ref (ad (j + 8))] (wD cy ad x) (wD cy ad (fstart x j)) := by
  have hin0 : ∀ q ∈ u_ws RX0 TX0 6, q ∈ wsX1_startRun := by decide +kernel
  refine KV_of (own := RX1) (cc := cX1_startRun) (maxL := 2) (ret := none) (lo0 := [some (.ref (ad 0)), some (.ref (ad (j + 8)))]) (by decide) rfl rfl (by simp [Value.category]) (Nat.le_of_ble_eq_true rfl) rfl (fun p e s m args below meth c A _ C => ?_)
  refine v_aload_n C dX1_startRun_0 rfl ?_
  refine vR_g_state C hin0 (by omega) (by decide +kernel) dX1_startRun_1 ?_
  refine v_iconst C (1) dX1_startRun_4 (by decide) ?_
  refine v_icmp_ne C 28 dX1_startRun_5 (by decide) (fun c1 => ?_) (fun c1 => ?_)
  · -- 5 t: ¬ (x 9 j) = 1
    refine v_aload_n C dX1_startRun_28 rfl ?_
    refine vR_g_state C hin0 (by omega) (by decide +kernel) dX1_startRun_29 ?_
    refine v_if_ne C 40 dX1_startRun_32 (by decide) (fun c2 => ?_) (fun c2 => ?_)
    · -- 32 t: ¬ (x 9 j) = 0
      have e : fstart x j = x := by simp [fstart, su_f, su_s, pif, c1, c2]
      rw [e]
      exact v_vret C dX1_startRun_40
    · -- 32 f: not ¬ (x 9 j) = 0
      refine v_aload_n C dX1_startRun_35 rfl ?_
      refine v_iconst C (4) dX1_startRun_36 (by decide) ?_
      refine vR_cV C (by omega) (k_X0_drop l G cy ad x j (by omega) 4) rfl gX1_startRun_X0_drop (nA := 1) (by decide +kernel) rfl (by decide) (by decide) rfl rfl (Nat.le_of_ble_eq_true rfl) dX1_startRun_37 ?_
      have e : fstart x j = fdrop x j 4 := by simp [fstart, su_f, su_s, pif, c1, c2]
      rw [e]
      exact v_vret C dX1_startRun_40
  · -- 5 f: not ¬ (x 9 j) = 1
    refine v_aload_n C dX1_startRun_8 rfl ?_
    refine v_iconst C (2) dX1_startRun_9 (by decide) ?_
    refine vR_p_state C hin0 (by omega) (by decide +kernel) dX1_startRun_10 ?_
    refine v_aload_n C dX1_startRun_13 rfl ?_
    refine v_aload_n C dX1_startRun_14 rfl ?_
    refine vR_g_bus C hin0 (by omega) (by decide +kernel) dX1_startRun_15 ?_
    refine v_aload_n C dX1_startRun_18 rfl ?_
    refine vR_g_need C hin0 (by omega) (by decide +kernel) dX1_startRun_19 ?_
    refine vD_cV C (k_X1_sendOut l G cy ad (su x 9 j 2) ((su x 9 j 2) 10 j) ((su x 9 j 2) 8 j)) rfl gX1_startRun_X1_sendOut (nA := 2) (by decide +kernel) rfl (by decide) (by decide) rfl rfl (Nat.le_of_ble_eq_true rfl) dX1_startRun_22 ?_
    refine v_goto C 40 dX1_startRun_25 (by decide) ?_
    have e : fstart x j = fsend (su x 9 j 2) ((su x 9 j 2) 10 j) ((su x 9 j 2) 8 j) := by simp [fstart, su_f, su_s, pif, c1]
    rw [e]
    exact v_vret C dX1_startRun_40
set_option maxHeartbeats 4000000 in
set_option maxRecDepth 100000 in
/-- startRuns() -/
theorem k_X1_startRuns (l : Launch) (G : va_G) (cy : Nat → ClassId) (ad : Nat → Nat) (x : Sg) (n : Nat) (hn : x 1 0 = nI n) (h30 : n ≤ 30) : KV l G cy yX1_startRuns wsX1_startRuns 3 65 0 0 [.ref (ad 0)] (wD cy ad x) (wD cy ad (it sstart n x)) := by
  have hin1 : ∀ q ∈ u_ws RX1 TX1 12, q ∈ wsX1_startRuns := by decide +kernel
  have hin0 : ∀ q ∈ u_ws RX0 TX0 6, q ∈ wsX1_startRuns := by decide +kernel
  refine KV_of (own := RX1) (cc := cX1_startRuns) (maxL := 2) (ret := none) (lo0 := [some (.ref (ad 0)), none]) (by decide) rfl rfl (by simp [Value.category]) (Nat.le_of_ble_eq_true rfl) rfl (fun p e s m args below meth c A _ C => ?_)
  refine v_iconst C (0) dX1_startRuns_0 (by decide) ?_
  refine v_istore_n C dX1_startRuns_1 (by decide) ?_
  refine V.loop (fun k : Nat => wD cy ad (it (sstart) k x)) (fun k : Nat => ([some (.ref (ad 0)), some (.int (nI k))] : List (Option Value))) (fun k : Nat => True) n ?_ trivial
  intro k hle_k hP_k ih_k
  try dsimp only at hP_k ih_k ⊢
  have hn_k : it (sstart) k x 1 0 = nI n := (it_f (fun c y => sstart_f c y (by decide) (by decide) (by decide) (by decide) (by decide)) k x).trans hn
  refine v_iload_n C dX1_startRuns_2 rfl ?_
  refine v_aload_n C dX1_startRuns_3 rfl ?_
  refine vD_g_runCount C hin1 (by decide +kernel) dX1_startRuns_4 ?_
  refine v_geN C k n 42 dX1_startRuns_7 (by decide) rfl hn_k (by omega) (by omega) (fun c1 => ?_) (fun c1 => ?_)
  · -- loop 2 is over
    have e_k : n = k := by omega
    subst e_k
    exact v_vret C dX1_startRuns_42
  · have hk : k < n := c1
    refine v_aload_n C dX1_startRuns_10 rfl ?_
    refine vD_g_rows C hin1 (by decide +kernel) dX1_startRuns_11 ?_
    refine v_iload_n C dX1_startRuns_14 rfl ?_
    refine vD_aald C k rfl (by omega) dX1_startRuns_15 ?_
    refine vR_g_start C hin0 (by omega) (by decide +kernel) dX1_startRuns_16 ?_
    refine v_aload_n C dX1_startRuns_19 rfl ?_
    refine vD_g_minute C hin1 (by decide +kernel) dX1_startRuns_20 ?_
    refine v_icmp_ne C 36 dX1_startRuns_23 (by decide) (fun c2 => ?_) (fun c2 => ?_)
    · -- 23 t: ¬ ((it (sstart) k x) 6 k) = ((it (sstart) k x) 0 0)
      refine v_incN C dX1_startRuns_36 rfl (by decide) ?_
      refine v_goto C 2 dX1_startRuns_39 (by decide) ?_
      have q := ih_k hk trivial
      have e : it (sstart) (k + 1) x = it (sstart) k x := by
        show sstart k (it (sstart) k x) = it (sstart) k x
        simp [sstart, pif, c2]
      rw [e] at q
      exact q
    · -- 23 f: not ¬ ((it (sstart) k x) 6 k) = ((it (sstart) k x) 0 0)
      refine v_aload_n C dX1_startRuns_26 rfl ?_
      refine v_aload_n C dX1_startRuns_27 rfl ?_
      refine vD_g_rows C hin1 (by decide +kernel) dX1_startRuns_28 ?_
      refine v_iload_n C dX1_startRuns_31 rfl ?_
      refine vD_aald C k rfl (by omega) dX1_startRuns_32 ?_
      refine vD_cV C (k_X1_startRun l G cy ad (it (sstart) k x) k (by omega)) rfl gX1_startRuns_X1_startRun (nA := 1) (by decide +kernel) rfl (by decide) (by decide) rfl rfl (Nat.le_of_ble_eq_true rfl) dX1_startRuns_33 ?_
      refine v_incN C dX1_startRuns_36 rfl (by decide) ?_
      refine v_goto C 2 dX1_startRuns_39 (by decide) ?_
      have q := ih_k hk trivial
      have e : it (sstart) (k + 1) x = fstart (it (sstart) k x) k := by
        show sstart k (it (sstart) k x) = fstart (it (sstart) k x) k
        simp [sstart, pif, c2]
      rw [e] at q
      exact q
set_option maxHeartbeats 4000000 in
set_option maxRecDepth 100000 in
/-- passMinute() -/
theorem k_X1_passMinute (l : Launch) (G : va_G) (cy : Nat → ClassId) (ad : Nat → Nat) (x : Sg) (n : Nat) (hn : x 1 0 = nI n) (h30 : n ≤ 30) : KV l G cy yX1_passMinute wsX1_passMinute 4 86 0 0 [.ref (ad 0)] (wD cy ad x) (wD cy ad (fminute n x)) := by
  have hin1 : ∀ q ∈ u_ws RX1 TX1 12, q ∈ wsX1_passMinute := by decide +kernel
  have hn1 : (su (it sload 2 x) 0 0 (it sload 2 x 0 0 + 1)) 1 0 = nI n := by rw [su_f _ _ _ _ (by decide), it_f (fun c y => sload_f c y (by decide))]; exact hn
  have hn2 : (it send_ n (su (it sload 2 x) 0 0 (it sload 2 x 0 0 + 1))) 1 0 = nI n := (it_f (fun c y => send__f c y (by decide)) _ _).trans hn1
  refine KV_of (own := RX1) (cc := cX1_passMinute) (maxL := 1) (ret := none) (lo0 := [some (.ref (ad 0))]) (by decide) rfl rfl (by simp [Value.category]) (Nat.le_of_ble_eq_true rfl) rfl (fun p e s m args below meth c A _ C => ?_)
  refine v_aload_n C dX1_passMinute_0 rfl ?_
  refine vD_cV C (k_X1_loadAtChargers l G cy ad x) rfl gX1_passMinute_X1_loadAtChargers (nA := 0) (by decide +kernel) rfl (by decide) (by decide) rfl rfl (Nat.le_of_ble_eq_true rfl) dX1_passMinute_1 ?_
  refine v_aload_n C dX1_passMinute_4 rfl ?_
  refine v_dup C dX1_passMinute_5 rfl ?_
  refine vD_g_minute C hin1 (by decide +kernel) dX1_passMinute_6 ?_
  refine v_iconst C (1) dX1_passMinute_9 (by decide) ?_
  refine v_iadd C dX1_passMinute_10 ?_
  refine vD_p_minute C hin1 (by decide +kernel) dX1_passMinute_11 ?_
  refine v_aload_n C dX1_passMinute_14 rfl ?_
  refine vD_cV C (k_X1_endRuns l G cy ad (su (it sload 2 x) 0 0 (((it sload 2 x) 0 0) + 1)) n hn1 h30) rfl gX1_passMinute_X1_endRuns (nA := 0) (by decide +kernel) rfl (by decide) (by decide) rfl rfl (Nat.le_of_ble_eq_true rfl) dX1_passMinute_15 ?_
  refine v_aload_n C dX1_passMinute_18 rfl ?_
  refine vD_cV C (k_X1_startRuns l G cy ad (it send_ n (su (it sload 2 x) 0 0 (((it sload 2 x) 0 0) + 1))) n hn2 h30) rfl gX1_passMinute_X1_startRuns (nA := 0) (by decide +kernel) rfl (by decide) (by decide) rfl rfl (Nat.le_of_ble_eq_true rfl) dX1_passMinute_19 ?_
  exact v_vret C dX1_passMinute_22
set_option maxHeartbeats 4000000 in
set_option maxRecDepth 100000 in
/-- takeOrdersFromBus(b) -/
theorem k_X1_takeOrdersFromBus (l : Launch) (G : va_G) (cy : Nat → ClassId) (ad : Nat → Nat) (x : Sg) (n : Nat) (hn : x 1 0 = nI n) (h30 : n ≤ 30) (b : Int32) : KV l G cy yX1_takeOrdersFromBus wsX1_takeOrdersFromBus 1 21 0 0 [.ref (ad 0), .int b] (wD cy ad x) (wD cy ad (it (stakeb b) n x)) := by
  have hin1 : ∀ q ∈ u_ws RX1 TX1 12, q ∈ wsX1_takeOrdersFromBus := by decide +kernel
  have hin0 : ∀ q ∈ u_ws RX0 TX0 6, q ∈ wsX1_takeOrdersFromBus := by decide +kernel
  refine KV_of (own := RX1) (cc := cX1_takeOrdersFromBus) (maxL := 3) (ret := none) (lo0 := [some (.ref (ad 0)), some (.int b), none]) (by decide) rfl rfl (by simp [Value.category]) (Nat.le_of_ble_eq_true rfl) rfl (fun p e s m args below meth c A _ C => ?_)
  refine v_iconst C (0) dX1_takeOrdersFromBus_0 (by decide) ?_
  refine v_istore_n C dX1_takeOrdersFromBus_1 (by decide) ?_
  refine V.loop (fun k : Nat => wD cy ad (it (stakeb b) k x)) (fun k : Nat => ([some (.ref (ad 0)), some (.int b), some (.int (nI k))] : List (Option Value))) (fun k : Nat => True) n ?_ trivial
  intro k hle_k hP_k ih_k
  try dsimp only at hP_k ih_k ⊢
  have hn_k : it (stakeb b) k x 1 0 = nI n := (it_f (fun c y => stakeb_f b c y (by decide) (by decide) (by decide)) k x).trans hn
  refine v_iload_n C dX1_takeOrdersFromBus_2 rfl ?_
  refine v_aload_n C dX1_takeOrdersFromBus_3 rfl ?_
  refine vD_g_runCount C hin1 (by decide +kernel) dX1_takeOrdersFromBus_4 ?_
  refine v_geN C k n 52 dX1_takeOrdersFromBus_7 (by decide) rfl hn_k (by omega) (by omega) (fun c1 => ?_) (fun c1 => ?_)
  · -- loop 2 is over
    have e_k : n = k := by omega
    subst e_k
    exact v_vret C dX1_takeOrdersFromBus_52
  · have hk : k < n := c1
    refine v_aload_n C dX1_takeOrdersFromBus_10 rfl ?_
    refine vD_g_rows C hin1 (by decide +kernel) dX1_takeOrdersFromBus_11 ?_
    refine v_iload_n C dX1_takeOrdersFromBus_14 rfl ?_
    refine vD_aald C k rfl (by omega) dX1_takeOrdersFromBus_15 ?_
    refine vR_g_state C hin0 (by omega) (by decide +kernel) dX1_takeOrdersFromBus_16 ?_
    refine v_iconst C (1) dX1_takeOrdersFromBus_19 (by decide) ?_
    refine v_icmp_ne C 46 dX1_takeOrdersFromBus_20 (by decide) (fun c2 => ?_) (fun c2 => ?_)
    · -- 20 t: ¬ ((it (stakeb b) k x) 9 k) = 1
      refine v_incN C dX1_takeOrdersFromBus_46 rfl (by decide) ?_
      refine v_goto C 2 dX1_takeOrdersFromBus_49 (by decide) ?_
      have q := ih_k hk trivial
      have e : it (stakeb b) (k + 1) x = it (stakeb b) k x := by
        show stakeb b k (it (stakeb b) k x) = it (stakeb b) k x
        simp [stakeb, pif, c2]
      rw [e] at q
      exact q
    · -- 20 f: not ¬ ((it (stakeb b) k x) 9 k) = 1
      refine v_aload_n C dX1_takeOrdersFromBus_23 rfl ?_
      refine vD_g_rows C hin1 (by decide +kernel) dX1_takeOrdersFromBus_24 ?_
      refine v_iload_n C dX1_takeOrdersFromBus_27 rfl ?_
      refine vD_aald C k rfl (by omega) dX1_takeOrdersFromBus_28 ?_
      refine vR_g_bus C hin0 (by omega) (by decide +kernel) dX1_takeOrdersFromBus_29 ?_
      refine v_iload_n C dX1_takeOrdersFromBus_32 rfl ?_
      refine v_icmp_ne C 46 dX1_takeOrdersFromBus_33 (by decide) (fun c3 => ?_) (fun c3 => ?_)
      · -- 33 t: ¬ ((it (stakeb b) k x) 10 k) = b
        refine v_incN C dX1_takeOrdersFromBus_46 rfl (by decide) ?_
        refine v_goto C 2 dX1_takeOrdersFromBus_49 (by decide) ?_
        have q := ih_k hk trivial
        have e : it (stakeb b) (k + 1) x = it (stakeb b) k x := by
          show stakeb b k (it (stakeb b) k x) = it (stakeb b) k x
          simp [stakeb, pif, c2, c3]
        rw [e] at q
        exact q
      · -- 33 f: not ¬ ((it (stakeb b) k x) 10 k) = b
        refine v_aload_n C dX1_takeOrdersFromBus_36 rfl ?_
        refine vD_g_rows C hin1 (by decide +kernel) dX1_takeOrdersFromBus_37 ?_
        refine v_iload_n C dX1_takeOrdersFromBus_40 rfl ?_
        refine vD_aald C k rfl (by omega) dX1_takeOrdersFromBus_41 ?_
        refine v_iconst C (0) dX1_takeOrdersFromBus_42 (by decide) ?_
        refine vR_cV C (by omega) (k_X0_drop l G cy ad (it (stakeb b) k x) k (by omega) 0) rfl gX1_takeOrdersFromBus_X0_drop (nA := 1) (by decide +kernel) rfl (by decide) (by decide) rfl rfl (Nat.le_of_ble_eq_true rfl) dX1_takeOrdersFromBus_43 ?_
        refine v_incN C dX1_takeOrdersFromBus_46 rfl (by decide) ?_
        refine v_goto C 2 dX1_takeOrdersFromBus_49 (by decide) ?_
        have q := ih_k hk trivial
        have e : it (stakeb b) (k + 1) x = fdrop (it (stakeb b) k x) k 0 := by
          show stakeb b k (it (stakeb b) k x) = fdrop (it (stakeb b) k x) k 0
          simp [stakeb, pif, c2, c3]
        rw [e] at q
        exact q
set_option maxHeartbeats 4000000 in
set_option maxRecDepth 100000 in
/-- takeOrdersFromDriver(b) -/
theorem k_X1_takeOrdersFromDriver (l : Launch) (G : va_G) (cy : Nat → ClassId) (ad : Nat → Nat) (x : Sg) (n : Nat) (hn : x 1 0 = nI n) (h30 : n ≤ 30) (b : Int32) : KV l G cy yX1_takeOrdersFromDriver wsX1_takeOrdersFromDriver 1 21 0 0 [.ref (ad 0), .int b] (wD cy ad x) (wD cy ad (it (staked b) n x)) := by
  have hin1 : ∀ q ∈ u_ws RX1 TX1 12, q ∈ wsX1_takeOrdersFromDriver := by decide +kernel
  have hin0 : ∀ q ∈ u_ws RX0 TX0 6, q ∈ wsX1_takeOrdersFromDriver := by decide +kernel
  refine KV_of (own := RX1) (cc := cX1_takeOrdersFromDriver) (maxL := 3) (ret := none) (lo0 := [some (.ref (ad 0)), some (.int b), none]) (by decide) rfl rfl (by simp [Value.category]) (Nat.le_of_ble_eq_true rfl) rfl (fun p e s m args below meth c A _ C => ?_)
  refine v_iconst C (0) dX1_takeOrdersFromDriver_0 (by decide) ?_
  refine v_istore_n C dX1_takeOrdersFromDriver_1 (by decide) ?_
  refine V.loop (fun k : Nat => wD cy ad (it (staked b) k x)) (fun k : Nat => ([some (.ref (ad 0)), some (.int b), some (.int (nI k))] : List (Option Value))) (fun k : Nat => True) n ?_ trivial
  intro k hle_k hP_k ih_k
  try dsimp only at hP_k ih_k ⊢
  have hn_k : it (staked b) k x 1 0 = nI n := (it_f (fun c y => staked_f b c y (by decide) (by decide) (by decide)) k x).trans hn
  refine v_iload_n C dX1_takeOrdersFromDriver_2 rfl ?_
  refine v_aload_n C dX1_takeOrdersFromDriver_3 rfl ?_
  refine vD_g_runCount C hin1 (by decide +kernel) dX1_takeOrdersFromDriver_4 ?_
  refine v_geN C k n 52 dX1_takeOrdersFromDriver_7 (by decide) rfl hn_k (by omega) (by omega) (fun c1 => ?_) (fun c1 => ?_)
  · -- loop 2 is over
    have e_k : n = k := by omega
    subst e_k
    exact v_vret C dX1_takeOrdersFromDriver_52
  · have hk : k < n := c1
    refine v_aload_n C dX1_takeOrdersFromDriver_10 rfl ?_
    refine vD_g_rows C hin1 (by decide +kernel) dX1_takeOrdersFromDriver_11 ?_
    refine v_iload_n C dX1_takeOrdersFromDriver_14 rfl ?_
    refine vD_aald C k rfl (by omega) dX1_takeOrdersFromDriver_15 ?_
    refine vR_g_state C hin0 (by omega) (by decide +kernel) dX1_takeOrdersFromDriver_16 ?_
    refine v_iconst C (1) dX1_takeOrdersFromDriver_19 (by decide) ?_
    refine v_icmp_ne C 46 dX1_takeOrdersFromDriver_20 (by decide) (fun c2 => ?_) (fun c2 => ?_)
    · -- 20 t: ¬ ((it (staked b) k x) 9 k) = 1
      refine v_incN C dX1_takeOrdersFromDriver_46 rfl (by decide) ?_
      refine v_goto C 2 dX1_takeOrdersFromDriver_49 (by decide) ?_
      have q := ih_k hk trivial
      have e : it (staked b) (k + 1) x = it (staked b) k x := by
        show staked b k (it (staked b) k x) = it (staked b) k x
        simp [staked, pif, c2]
      rw [e] at q
      exact q
    · -- 20 f: not ¬ ((it (staked b) k x) 9 k) = 1
      refine v_aload_n C dX1_takeOrdersFromDriver_23 rfl ?_
      refine vD_g_rows C hin1 (by decide +kernel) dX1_takeOrdersFromDriver_24 ?_
      refine v_iload_n C dX1_takeOrdersFromDriver_27 rfl ?_
      refine vD_aald C k rfl (by omega) dX1_takeOrdersFromDriver_28 ?_
      refine vR_g_driver C hin0 (by omega) (by decide +kernel) dX1_takeOrdersFromDriver_29 ?_
      refine v_iload_n C dX1_takeOrdersFromDriver_32 rfl ?_
      refine v_icmp_ne C 46 dX1_takeOrdersFromDriver_33 (by decide) (fun c3 => ?_) (fun c3 => ?_)
      · -- 33 t: ¬ ((it (staked b) k x) 11 k) = b
        refine v_incN C dX1_takeOrdersFromDriver_46 rfl (by decide) ?_
        refine v_goto C 2 dX1_takeOrdersFromDriver_49 (by decide) ?_
        have q := ih_k hk trivial
        have e : it (staked b) (k + 1) x = it (staked b) k x := by
          show staked b k (it (staked b) k x) = it (staked b) k x
          simp [staked, pif, c2, c3]
        rw [e] at q
        exact q
      · -- 33 f: not ¬ ((it (staked b) k x) 11 k) = b
        refine v_aload_n C dX1_takeOrdersFromDriver_36 rfl ?_
        refine vD_g_rows C hin1 (by decide +kernel) dX1_takeOrdersFromDriver_37 ?_
        refine v_iload_n C dX1_takeOrdersFromDriver_40 rfl ?_
        refine vD_aald C k rfl (by omega) dX1_takeOrdersFromDriver_41 ?_
        refine v_iconst C (0) dX1_takeOrdersFromDriver_42 (by decide) ?_
        refine vR_cV C (by omega) (k_X0_drop l G cy ad (it (staked b) k x) k (by omega) 0) rfl gX1_takeOrdersFromDriver_X0_drop (nA := 1) (by decide +kernel) rfl (by decide) (by decide) rfl rfl (Nat.le_of_ble_eq_true rfl) dX1_takeOrdersFromDriver_43 ?_
        refine v_incN C dX1_takeOrdersFromDriver_46 rfl (by decide) ?_
        refine v_goto C 2 dX1_takeOrdersFromDriver_49 (by decide) ?_
        have q := ih_k hk trivial
        have e : it (staked b) (k + 1) x = fdrop (it (staked b) k x) k 0 := by
          show staked b k (it (staked b) k x) = fdrop (it (staked b) k x) k 0
          simp [staked, pif, c2, c3]
        rw [e] at q
        exact q
