/-! THE LAW: what it does to its own depot -/
theorem su_15 (x : Sg) (v : Int32) : su x 15 0 v 15 1 = x 15 1 := su_k x 15 v (by decide)
theorem su_15n (x : Sg) (v : Int32) : su (su x 15 0 v) 15 1 (x 15 1) = su x 15 0 v := su_n _ _ _ _ (su_15 x v)
noncomputable def llowb (n : Nat) (y : Sg) (r : Nat) : Int32 := pif (lbf n y 0 r) 0 (pif (lbf n y 1 r) 1 (pif (lbf n y 2 r) 2 (pif (lbf n y 3 r) 3 (pif (lbf n y 4 r) 4 (-1)))))
noncomputable def llowd (n : Nat) (y : Sg) (r : Nat) : Int32 := pif (ldf n y 0 r) 0 (pif (ldf n y 1 r) 1 (pif (ldf n y 2 r) 2 (pif (ldf n y 3 r) 3 (pif (ldf n y 4 r) 4 (-1)))))
theorem llowb_lt (n : Nat) (y : Sg) (r : Nat) : llowb n y r < nI 5 := by
  unfold llowb
  refine pif_ap _ _ _ (fun z => z < nI 5) (fun _ => by decide) (fun _ => ?_)
  refine pif_ap _ _ _ (fun z => z < nI 5) (fun _ => by decide) (fun _ => ?_)
  refine pif_ap _ _ _ (fun z => z < nI 5) (fun _ => by decide) (fun _ => ?_)
  refine pif_ap _ _ _ (fun z => z < nI 5) (fun _ => by decide) (fun _ => ?_)
  exact pif_ap _ _ _ (fun z => z < nI 5) (fun _ => by decide) (fun _ => by decide)
noncomputable def lgiveb (n : Nat) (y : Sg) (j : Nat) : Sg := pif (llowb n y j < 0) (fdrop (su y 10 j (llowb n y j)) j 4) (funplug (su (su y 10 j (llowb n y j)) 12 (llowb n y j).toNatClampNeg (y 12 (llowb n y j).toNatClampNeg - y 8 j)) (llowb n y j))
noncomputable def lgived (n : Nat) (y : Sg) (j : Nat) : Sg := pif (llowd n y j < 0) (fdrop (su y 11 j (llowd n y j)) j 4) (su y 11 j (llowd n y j))
noncomputable def lswapb (n b : Nat) (k : Nat) (y : Sg) : Sg := pif (y 9 k = 2 ∧ y 10 k = nI b) (lgiveb n y k) y
noncomputable def lswapd (n d : Nat) (k : Nat) (y : Sg) : Sg := pif (y 9 k = 2 ∧ y 11 k = nI d) (lgived n y k) y
theorem lswapb_f {f k : Nat} (n b c : Nat) (x : Sg) (h9 : f ≠ 9) (h10 : f ≠ 10) (h11 : f ≠ 11) (h12 : f ≠ 12) (h15 : f ≠ 15) : lswapb n b c x f k = x f k := by simp [lswapb, lgiveb, pif_ap2, fdrop_f, funplug_f, su_f, h9, h10, h11, h12, h15, pif_s]
theorem lswapd_f {f k : Nat} (n b c : Nat) (x : Sg) (h9 : f ≠ 9) (h10 : f ≠ 10) (h11 : f ≠ 11) : lswapd n b c x f k = x f k := by simp [lswapd, lgived, pif_ap2, fdrop_f, su_f, h9, h10, h11, pif_s]
noncomputable def lbreaks (n : Nat) (x : Sg) (b : Nat) : Sg := it (lswapb n b) n (it (stakeb (nI b)) n (su (funplug x (nI b)) 13 b 1))
noncomputable def lails (n : Nat) (x : Sg) (d : Nat) : Sg := it (lswapd n d) n (it (staked (nI d)) n (su x 14 d 1))
set_option maxHeartbeats 4000000 in
set_option maxRecDepth 100000 in
/-- leaves -/
theorem k_L_leaves (l : Launch) (G : va_G) (cy : Nat → ClassId) (al : Nat → Nat) (x : Sg) (wr : va_W) (b : Int32) : KV l G cy yL_leaves wsL_leaves 0 0 0 0 [.ref (al 6), .int b] (wL cy al x wr) (wL cy al (funplug x b) wr) := by
  refine KV_of (own := RL) (cc := cL_leaves) (maxL := 2) (ret := none) (lo0 := [some (.ref (al 6)), some (.int b)]) (by decide) rfl rfl (by simp [Value.category]) (Nat.le_of_ble_eq_true rfl) rfl (fun p e s m args below meth c A _ C => ?_)
  refine v_aload_n C dL_leaves_0 rfl ?_
  refine v_iconst C (0) dL_leaves_1 (by decide) ?_
  refine v_aload_n C dL_leaves_2 rfl ?_
  refine v_iconst C (0) dL_leaves_3 (by decide) ?_
  refine vL_l_g C 0 rfl (by omega) dL_leaves_4 ?_
  refine v_iload_n C dL_leaves_5 rfl ?_
  refine v_iconst C (1) dL_leaves_6 (by decide) ?_
  refine v_iadd C dL_leaves_7 ?_
  refine v_icmp_ne C 15 dL_leaves_8 (by decide) (fun c1 => ?_) (fun c1 => ?_)
  · -- 8 t: ¬ (x 15 0 + 1) = (b + 1)
    replace c1 := mt p1_iff.mpr c1
    refine v_aload_n C dL_leaves_15 rfl ?_
    refine v_iconst C (0) dL_leaves_16 (by decide) ?_
    refine vL_l_g C 0 rfl (by omega) dL_leaves_17 ?_
    refine vL_s_g C 0 rfl (by omega) (v := x 15 0) rfl dL_leaves_18 ?_
    refine v_aload_n C dL_leaves_19 rfl ?_
    refine v_iconst C (1) dL_leaves_20 (by decide) ?_
    refine v_aload_n C dL_leaves_21 rfl ?_
    refine v_iconst C (1) dL_leaves_22 (by decide) ?_
    refine vL_l_g C 1 rfl (by omega) dL_leaves_23 ?_
    refine V.es (st' := [.int (x 15 1 + 1), .int 1, .ref (al 6)]) (by rw [su_k _ _ _ (by decide)]) ?_
    refine v_iload_n C dL_leaves_24 rfl ?_
    refine v_iconst C (1) dL_leaves_25 (by decide) ?_
    refine v_iadd C dL_leaves_26 ?_
    refine v_icmp_ne C 34 dL_leaves_27 (by decide) (fun c2 => ?_) (fun c2 => ?_)
    · -- 27 t: ¬ (x 15 1 + 1) = (b + 1)
      replace c2 := mt p1_iff.mpr c2
      refine v_aload_n C dL_leaves_34 rfl ?_
      refine v_iconst C (1) dL_leaves_35 (by decide) ?_
      refine vL_l_g C 1 rfl (by omega) dL_leaves_36 ?_
      refine V.es (st' := [.int (x 15 1 + 1), .int 1, .ref (al 6)]) (by rw [su_k _ _ _ (by decide)]) ?_
      refine vL_s_g C 1 rfl (by omega) (v := x 15 1) rfl dL_leaves_37 ?_
      have e : funplug x b = su (su x 15 0 (x 15 0)) 15 1 (x 15 1) := by simp [funplug, it, sunplug, su_id, su_15, su_15n, pif, c1, c2]
      rw [e]
      exact v_vret C dL_leaves_38
    · -- 27 f: not ¬ (x 15 1 + 1) = (b + 1)
      replace c2 := p1_iff.mp c2
      refine v_iconst C (0) dL_leaves_30 (by decide) ?_
      refine v_goto C 37 dL_leaves_31 (by decide) ?_
      refine vL_s_g C 1 rfl (by omega) (v := -1) (by decide : (0 : Int32) = -1 + 1) dL_leaves_37 ?_
      have e : funplug x b = su (su x 15 0 (x 15 0)) 15 1 (-1) := by simp [funplug, it, sunplug, su_id, su_15, su_15n, pif, c1, c2]
      rw [e]
      exact v_vret C dL_leaves_38
  · -- 8 f: not ¬ (x 15 0 + 1) = (b + 1)
    replace c1 := p1_iff.mp c1
    refine v_iconst C (0) dL_leaves_11 (by decide) ?_
    refine v_goto C 18 dL_leaves_12 (by decide) ?_
    refine vL_s_g C 0 rfl (by omega) (v := -1) (by decide : (0 : Int32) = -1 + 1) dL_leaves_18 ?_
    refine v_aload_n C dL_leaves_19 rfl ?_
    refine v_iconst C (1) dL_leaves_20 (by decide) ?_
    refine v_aload_n C dL_leaves_21 rfl ?_
    refine v_iconst C (1) dL_leaves_22 (by decide) ?_
    refine vL_l_g C 1 rfl (by omega) dL_leaves_23 ?_
    refine V.es (st' := [.int (x 15 1 + 1), .int 1, .ref (al 6)]) (by rw [su_k _ _ _ (by decide)]) ?_
    refine v_iload_n C dL_leaves_24 rfl ?_
    refine v_iconst C (1) dL_leaves_25 (by decide) ?_
    refine v_iadd C dL_leaves_26 ?_
    refine v_icmp_ne C 34 dL_leaves_27 (by decide) (fun c3 => ?_) (fun c3 => ?_)
    · -- 27 t: ¬ (x 15 1 + 1) = (b + 1)
      replace c3 := mt p1_iff.mpr c3
      refine v_aload_n C dL_leaves_34 rfl ?_
      refine v_iconst C (1) dL_leaves_35 (by decide) ?_
      refine vL_l_g C 1 rfl (by omega) dL_leaves_36 ?_
      refine V.es (st' := [.int (x 15 1 + 1), .int 1, .ref (al 6)]) (by rw [su_k _ _ _ (by decide)]) ?_
      refine vL_s_g C 1 rfl (by omega) (v := x 15 1) rfl dL_leaves_37 ?_
      have e : funplug x b = su (su x 15 0 (-1)) 15 1 (x 15 1) := by simp [funplug, it, sunplug, su_id, su_15, su_15n, pif, c1, c3]
      rw [e]
      exact v_vret C dL_leaves_38
    · -- 27 f: not ¬ (x 15 1 + 1) = (b + 1)
      replace c3 := p1_iff.mp c3
      refine v_iconst C (0) dL_leaves_30 (by decide) ?_
      refine v_goto C 37 dL_leaves_31 (by decide) ?_
      refine vL_s_g C 1 rfl (by omega) (v := -1) (by decide : (0 : Int32) = -1 + 1) dL_leaves_37 ?_
      have e : funplug x b = su (su x 15 0 (-1)) 15 1 (-1) := by simp [funplug, it, sunplug, su_id, su_15, su_15n, pif, c1, c3]
      rw [e]
      exact v_vret C dL_leaves_38
set_option maxHeartbeats 4000000 in
set_option maxRecDepth 100000 in
/-- turns -/
theorem k_L_turns (l : Launch) (G : va_G) (cy : Nat → ClassId) (al : Nat → Nat) (x : Sg) (wr : va_W) (j : Nat) (hj : j < 20) (v : Int32) : KV l G cy yL_turns wsL_turns 0 0 0 0 [.ref (al 1), .ref (al 2), .ref (al 3), .int (nI j), .int v] (wL cy al x wr) (wL cy al (fdrop x j v) wr) := by
  refine KV_of (own := RL) (cc := cL_turns) (maxL := 5) (ret := none) (lo0 := [some (.ref (al 1)), some (.ref (al 2)), some (.ref (al 3)), some (.int (nI j)), some (.int v)]) (by decide) rfl rfl (by simp [Value.category]) (Nat.le_of_ble_eq_true rfl) rfl (fun p e s m args below meth c A _ C => ?_)
  refine v_aload_n C dL_turns_0 rfl ?_
  refine v_iload_n C dL_turns_1 rfl ?_
  refine v_iload C dL_turns_2 rfl ?_
  refine vL_s_s C j rfl (by omega) dL_turns_4 ?_
  refine v_aload_n C dL_turns_5 rfl ?_
  refine v_iload_n C dL_turns_6 rfl ?_
  refine v_iconst C (0) dL_turns_7 (by decide) ?_
  refine vL_s_w C j rfl (by omega) (v := -1) (by decide : (0 : Int32) = -1 + 1) dL_turns_8 ?_
  refine v_aload_n C dL_turns_9 rfl ?_
  refine v_iload_n C dL_turns_10 rfl ?_
  refine v_iconst C (0) dL_turns_11 (by decide) ?_
  refine vL_s_d C j rfl (by omega) (v := -1) (by decide : (0 : Int32) = -1 + 1) dL_turns_12 ?_
  exact v_vret C dL_turns_13
set_option maxHeartbeats 4000000 in
set_option maxRecDepth 100000 in
/-- breaks -/
theorem k_L_breaks (l : Launch) (G : va_G) (cy : Nat → ClassId) (al : Nat → Nat) (x : Sg) (wr : va_W) (n : Nat) (hn : x 1 0 = nI n) (h20 : n ≤ 20) (b : Nat) (hb : b < 5) : KV l G cy yL_breaks wsL_breaks 2 56 0 0 [.ref (al 9), .ref (al 0), .ref (al 1), .ref (al 2), .ref (al 3), .ref (al 4), .ref (al 6), .int (nI b)] (wL cy al x wr) (wL cy al (lbreaks n x b) wr) := by
  refine KV_of (own := RL) (cc := cL_breaks) (maxL := 11) (ret := none) (lo0 := [some (.ref (al 9)), some (.ref (al 0)), some (.ref (al 1)), some (.ref (al 2)), some (.ref (al 3)), some (.ref (al 4)), some (.ref (al 6)), some (.int (nI b)), none, none, none]) (by decide) rfl rfl (by simp [Value.category]) (Nat.le_of_ble_eq_true rfl) rfl (fun p e s m args below meth c A _ C => ?_)
  refine v_aload C dL_breaks_0 rfl ?_
  refine v_iload C dL_breaks_2 rfl ?_
  refine v_sV C (k_L_leaves l G cy al x wr (nI b)) rfl gL_breaks_L_leaves (nA := 2) (by decide +kernel) rfl (by decide) (by decide) rfl (Nat.le_of_ble_eq_true rfl) dL_breaks_4 ?_
  refine v_aload C dL_breaks_7 rfl ?_
  refine v_iconst C (2) dL_breaks_9 (by decide) ?_
  refine v_iload C dL_breaks_10 rfl ?_
  refine v_imul C dL_breaks_12 ?_
  refine v_iconst C (1) dL_breaks_13 (by decide) ?_
  refine v_iadd C dL_breaks_14 ?_
  refine v_iconst C (1) dL_breaks_15 (by decide) ?_
  refine vL_s_b1 C b rfl (by omega) dL_breaks_16 ?_
  obtain ⟨z0, hz0⟩ : ∃ z0 : Sg, z0 = su (funplug x (nI b)) 13 b 1 := ⟨_, rfl⟩
  rw [← hz0]
  have hn_z0 : z0 1 0 = nI n := by rw [hz0, su_f _ _ _ _ (by decide), funplug_f _ _ (by decide)]; exact hn
  refine v_iconst C (0) dL_breaks_17 (by decide) ?_
  refine v_istore C dL_breaks_18 (by decide) ?_
  refine V.loop (fun k : Nat => wL cy al (it (stakeb (nI b)) k z0) wr) (fun k : Nat => ([some (.ref (al 9)), some (.ref (al 0)), some (.ref (al 1)), some (.ref (al 2)), some (.ref (al 3)), some (.ref (al 4)), some (.ref (al 6)), some (.int (nI b)), some (.int (nI k)), none, none] : List (Option Value))) (fun k : Nat => True) n ?_ trivial
  intro k hle_k hP_k ih_k
  try dsimp only at hP_k ih_k ⊢
  have hn_k : it (stakeb (nI b)) k z0 1 0 = nI n := (it_f (fun c y => stakeb_f (nI b) c y (by decide) (by decide) (by decide)) k z0).trans hn_z0
  refine v_iload C dL_breaks_20 rfl ?_
  refine v_aload_n C dL_breaks_22 rfl ?_
  refine v_iconst C (1) dL_breaks_23 (by decide) ?_
  refine vL_l_n1 C dL_breaks_24 ?_
  refine v_geN C k n 63 dL_breaks_25 (by decide) rfl hn_k (by omega) (by omega) (fun c1 => ?_) (fun c1 => ?_)
  · -- loop 20 is over
    have e_k : n = k := by omega
    subst e_k
    obtain ⟨z1, hz1⟩ : ∃ z1 : Sg, z1 = it (stakeb (nI b)) n z0 := ⟨_, rfl⟩
    rw [← hz1]
    have hn_z1 : z1 1 0 = nI n := by rw [hz1, it_f (fun c y => stakeb_f (nI b) c y (by decide) (by decide) (by decide))]; exact hn_z0
    refine v_iconst C (0) dL_breaks_63 (by decide) ?_
    refine v_istore C dL_breaks_64 (by decide) ?_
    refine V.loop (fun k : Nat => wL cy al (it (lswapb n b) k z1) wr) (fun k : Nat => ([some (.ref (al 9)), some (.ref (al 0)), some (.ref (al 1)), some (.ref (al 2)), some (.ref (al 3)), some (.ref (al 4)), some (.ref (al 6)), some (.int (nI b)), some (.int (nI k)), none, none] : List (Option Value))) (fun k : Nat => True) n ?_ trivial
    intro k hle_k hP_k ih_k
    try dsimp only at hP_k ih_k ⊢
    have hn_k : it (lswapb n b) k z1 1 0 = nI n := (it_f (fun c y => lswapb_f n b c y (by decide) (by decide) (by decide) (by decide) (by decide)) k z1).trans hn_z1
    refine v_iload C dL_breaks_66 rfl ?_
    refine v_aload_n C dL_breaks_68 rfl ?_
    refine v_iconst C (1) dL_breaks_69 (by decide) ?_
    refine vL_l_n1 C dL_breaks_70 ?_
    refine v_geN C k n 192 dL_breaks_71 (by decide) rfl hn_k (by omega) (by omega) (fun c2 => ?_) (fun c2 => ?_)
    · -- loop 66 is over
      have e_k : n = k := by omega
      subst e_k
      have e : lbreaks n x b = it (lswapb n b) n z1 := by rw [hz1, hz0]; rfl
      rw [e]
      exact v_vret C dL_breaks_192
    · have hk : k < n := c2
      refine v_aload_n C dL_breaks_74 rfl ?_
      refine v_iload C dL_breaks_75 rfl ?_
      refine vL_l_s C k rfl (by omega) dL_breaks_77 ?_
      refine v_iconst C (2) dL_breaks_78 (by decide) ?_
      refine v_icmp_ne C 186 dL_breaks_79 (by decide) (fun c3 => ?_) (fun c3 => ?_)
      · -- 79 t: ¬ ((it (lswapb n b) k z1) 9 k) = 2
        refine v_incN C dL_breaks_186 rfl (by decide) ?_
        refine v_goto C 66 dL_breaks_189 (by decide) ?_
        have q := ih_k hk trivial
        have e : it (lswapb n b) (k + 1) z1 = it (lswapb n b) k z1 := by
          show lswapb n b k (it (lswapb n b) k z1) = it (lswapb n b) k z1
          simp [lswapb, lgiveb, pif, c3]
        rw [e] at q
        exact (V.lof 9 (V.lof 10 q))
      · -- 79 f: not ¬ ((it (lswapb n b) k z1) 9 k) = 2
        refine v_aload_n C dL_breaks_82 rfl ?_
        refine v_iload C dL_breaks_83 rfl ?_
        refine vL_l_w C k rfl (by omega) dL_breaks_85 ?_
        refine v_iload C dL_breaks_86 rfl ?_
        refine v_iconst C (1) dL_breaks_88 (by decide) ?_
        refine v_iadd C dL_breaks_89 ?_
        refine v_icmp_ne C 186 dL_breaks_90 (by decide) (fun c4 => ?_) (fun c4 => ?_)
        · -- 90 t: ¬ ((it (lswapb n b) k z1) 10 k + 1) = ((nI b) + 1)
          replace c4 := mt p1_iff.mpr c4
          refine v_incN C dL_breaks_186 rfl (by decide) ?_
          refine v_goto C 66 dL_breaks_189 (by decide) ?_
          have q := ih_k hk trivial
          have e : it (lswapb n b) (k + 1) z1 = it (lswapb n b) k z1 := by
            show lswapb n b k (it (lswapb n b) k z1) = it (lswapb n b) k z1
            simp [lswapb, lgiveb, pif, c3, c4]
          rw [e] at q
          exact (V.lof 9 (V.lof 10 q))
        · -- 90 f: not ¬ ((it (lswapb n b) k z1) 10 k + 1) = ((nI b) + 1)
          replace c4 := p1_iff.mp c4
          refine v_iconst C (-1) dL_breaks_93 (by decide) ?_
          refine v_istore C dL_breaks_94 (by decide) ?_
          refine v_iconst C (4) dL_breaks_96 (by decide) ?_
          refine v_istore C dL_breaks_97 (by decide) ?_
          refine v_iload C dL_breaks_99 rfl ?_
          refine v_if_lt C 135 dL_breaks_101 (by decide) (fun z => absurd z (by decide)) (fun z => ?_)
          refine V.join (wL cy al (it (lswapb n b) k z1) wr) 127 (fun _ => ([some (.ref (al 9)), some (.ref (al 0)), some (.ref (al 1)), some (.ref (al 2)), some (.ref (al 3)), some (.ref (al 4)), some (.ref (al 6)), some (.int (nI b)), some (.int (nI k)), some (.int (-1)), some (.int 4)] : List (Option Value))) (fun v => (.int v :: [] : List Value)) (pif (lbf n (it (lswapb n b) k z1) 4 k) (4) (-1)) (fun J1 => ?_) ?_
          · -- up to the join
            refine v_aload_n C dL_breaks_104 rfl ?_
            refine v_aload_n C dL_breaks_105 rfl ?_
            refine v_aload_n C dL_breaks_106 rfl ?_
            refine v_aload_n C dL_breaks_107 rfl ?_
            refine v_aload C dL_breaks_108 rfl ?_
            refine v_iload C dL_breaks_110 rfl ?_
            refine v_iload C dL_breaks_112 rfl ?_
            refine v_sI C (k_L_fitsBus l G cy al (it (lswapb n b) k z1) wr n hn_k h20 4 (by omega) k (by omega)) rfl gL_breaks_L_fitsBus (nA := 7) (by decide +kernel) rfl (by decide) (by decide) rfl (Nat.le_of_ble_eq_true rfl) dL_breaks_114 ?_
            refine v_if_eq C 125 dL_breaks_117 (by decide) (fun c6 => ?_) (fun c6 => ?_)
            · -- 117 t: (b2i (lbf n (it (lswapb n b) k z1) 4 k)) = 0
              replace c6 := b2i_0.mp c6
              refine v_iload C dL_breaks_125 rfl ?_
              refine J1 _ ?_
              exact (pif_f c6).symm
            · -- 117 f: not (b2i (lbf n (it (lswapb n b) k z1) 4 k)) = 0
              replace c6 := Classical.not_not.mp (fun z => c6 (b2i_0.mpr z))
              refine v_iload C dL_breaks_120 rfl ?_
              refine v_goto C 127 dL_breaks_122 (by decide) ?_
              refine J1 _ ?_
              exact (pif_t c6).symm
          · -- behind the join
            refine v_istore C dL_breaks_127 (by decide) ?_
            refine v_iinc C (3) dL_breaks_129 rfl (by decide) (by decide) ?_
            refine v_goto C 99 dL_breaks_132 (by decide) ?_
            refine v_iload C dL_breaks_99 rfl ?_
            refine v_if_lt C 135 dL_breaks_101 (by decide) (fun z => absurd z (by decide)) (fun z => ?_)
            refine V.join (wL cy al (it (lswapb n b) k z1) wr) 127 (fun _ => ([some (.ref (al 9)), some (.ref (al 0)), some (.ref (al 1)), some (.ref (al 2)), some (.ref (al 3)), some (.ref (al 4)), some (.ref (al 6)), some (.int (nI b)), some (.int (nI k)), some (.int (pif (lbf n (it (lswapb n b) k z1) 4 k) (4) (-1))), some (.int 3)] : List (Option Value))) (fun v => (.int v :: [] : List Value)) (pif (lbf n (it (lswapb n b) k z1) 3 k) (3) (pif (lbf n (it (lswapb n b) k z1) 4 k) (4) (-1))) (fun J2 => ?_) ?_
            · -- up to the join
              refine v_aload_n C dL_breaks_104 rfl ?_
              refine v_aload_n C dL_breaks_105 rfl ?_
              refine v_aload_n C dL_breaks_106 rfl ?_
              refine v_aload_n C dL_breaks_107 rfl ?_
              refine v_aload C dL_breaks_108 rfl ?_
              refine v_iload C dL_breaks_110 rfl ?_
              refine v_iload C dL_breaks_112 rfl ?_
              refine v_sI C (k_L_fitsBus l G cy al (it (lswapb n b) k z1) wr n hn_k h20 3 (by omega) k (by omega)) rfl gL_breaks_L_fitsBus (nA := 7) (by decide +kernel) rfl (by decide) (by decide) rfl (Nat.le_of_ble_eq_true rfl) dL_breaks_114 ?_
              refine v_if_eq C 125 dL_breaks_117 (by decide) (fun c8 => ?_) (fun c8 => ?_)
              · -- 117 t: (b2i (lbf n (it (lswapb n b) k z1) 3 k)) = 0
                replace c8 := b2i_0.mp c8
                refine v_iload C dL_breaks_125 rfl ?_
                refine J2 _ ?_
                exact (pif_f c8).symm
              · -- 117 f: not (b2i (lbf n (it (lswapb n b) k z1) 3 k)) = 0
                replace c8 := Classical.not_not.mp (fun z => c8 (b2i_0.mpr z))
                refine v_iload C dL_breaks_120 rfl ?_
                refine v_goto C 127 dL_breaks_122 (by decide) ?_
                refine J2 _ ?_
                exact (pif_t c8).symm
            · -- behind the join
              refine v_istore C dL_breaks_127 (by decide) ?_
              refine v_iinc C (2) dL_breaks_129 rfl (by decide) (by decide) ?_
              refine v_goto C 99 dL_breaks_132 (by decide) ?_
              refine v_iload C dL_breaks_99 rfl ?_
              refine v_if_lt C 135 dL_breaks_101 (by decide) (fun z => absurd z (by decide)) (fun z => ?_)
              refine V.join (wL cy al (it (lswapb n b) k z1) wr) 127 (fun _ => ([some (.ref (al 9)), some (.ref (al 0)), some (.ref (al 1)), some (.ref (al 2)), some (.ref (al 3)), some (.ref (al 4)), some (.ref (al 6)), some (.int (nI b)), some (.int (nI k)), some (.int (pif (lbf n (it (lswapb n b) k z1) 3 k) (3) (pif (lbf n (it (lswapb n b) k z1) 4 k) (4) (-1)))), some (.int 2)] : List (Option Value))) (fun v => (.int v :: [] : List Value)) (pif (lbf n (it (lswapb n b) k z1) 2 k) (2) (pif (lbf n (it (lswapb n b) k z1) 3 k) (3) (pif (lbf n (it (lswapb n b) k z1) 4 k) (4) (-1)))) (fun J3 => ?_) ?_
              · -- up to the join
                refine v_aload_n C dL_breaks_104 rfl ?_
                refine v_aload_n C dL_breaks_105 rfl ?_
                refine v_aload_n C dL_breaks_106 rfl ?_
                refine v_aload_n C dL_breaks_107 rfl ?_
                refine v_aload C dL_breaks_108 rfl ?_
                refine v_iload C dL_breaks_110 rfl ?_
                refine v_iload C dL_breaks_112 rfl ?_
                refine v_sI C (k_L_fitsBus l G cy al (it (lswapb n b) k z1) wr n hn_k h20 2 (by omega) k (by omega)) rfl gL_breaks_L_fitsBus (nA := 7) (by decide +kernel) rfl (by decide) (by decide) rfl (Nat.le_of_ble_eq_true rfl) dL_breaks_114 ?_
                refine v_if_eq C 125 dL_breaks_117 (by decide) (fun c10 => ?_) (fun c10 => ?_)
                · -- 117 t: (b2i (lbf n (it (lswapb n b) k z1) 2 k)) = 0
                  replace c10 := b2i_0.mp c10
                  refine v_iload C dL_breaks_125 rfl ?_
                  refine J3 _ ?_
                  exact (pif_f c10).symm
                · -- 117 f: not (b2i (lbf n (it (lswapb n b) k z1) 2 k)) = 0
                  replace c10 := Classical.not_not.mp (fun z => c10 (b2i_0.mpr z))
                  refine v_iload C dL_breaks_120 rfl ?_
                  refine v_goto C 127 dL_breaks_122 (by decide) ?_
                  refine J3 _ ?_
                  exact (pif_t c10).symm
              · -- behind the join
                refine v_istore C dL_breaks_127 (by decide) ?_
                refine v_iinc C (1) dL_breaks_129 rfl (by decide) (by decide) ?_
                refine v_goto C 99 dL_breaks_132 (by decide) ?_
                refine v_iload C dL_breaks_99 rfl ?_
                refine v_if_lt C 135 dL_breaks_101 (by decide) (fun z => absurd z (by decide)) (fun z => ?_)
                refine V.join (wL cy al (it (lswapb n b) k z1) wr) 127 (fun _ => ([some (.ref (al 9)), some (.ref (al 0)), some (.ref (al 1)), some (.ref (al 2)), some (.ref (al 3)), some (.ref (al 4)), some (.ref (al 6)), some (.int (nI b)), some (.int (nI k)), some (.int (pif (lbf n (it (lswapb n b) k z1) 2 k) (2) (pif (lbf n (it (lswapb n b) k z1) 3 k) (3) (pif (lbf n (it (lswapb n b) k z1) 4 k) (4) (-1))))), some (.int 1)] : List (Option Value))) (fun v => (.int v :: [] : List Value)) (pif (lbf n (it (lswapb n b) k z1) 1 k) (1) (pif (lbf n (it (lswapb n b) k z1) 2 k) (2) (pif (lbf n (it (lswapb n b) k z1) 3 k) (3) (pif (lbf n (it (lswapb n b) k z1) 4 k) (4) (-1))))) (fun J4 => ?_) ?_
                · -- up to the join
                  refine v_aload_n C dL_breaks_104 rfl ?_
                  refine v_aload_n C dL_breaks_105 rfl ?_
                  refine v_aload_n C dL_breaks_106 rfl ?_
                  refine v_aload_n C dL_breaks_107 rfl ?_
                  refine v_aload C dL_breaks_108 rfl ?_
                  refine v_iload C dL_breaks_110 rfl ?_
                  refine v_iload C dL_breaks_112 rfl ?_
                  refine v_sI C (k_L_fitsBus l G cy al (it (lswapb n b) k z1) wr n hn_k h20 1 (by omega) k (by omega)) rfl gL_breaks_L_fitsBus (nA := 7) (by decide +kernel) rfl (by decide) (by decide) rfl (Nat.le_of_ble_eq_true rfl) dL_breaks_114 ?_
                  refine v_if_eq C 125 dL_breaks_117 (by decide) (fun c12 => ?_) (fun c12 => ?_)
                  · -- 117 t: (b2i (lbf n (it (lswapb n b) k z1) 1 k)) = 0
                    replace c12 := b2i_0.mp c12
                    refine v_iload C dL_breaks_125 rfl ?_
                    refine J4 _ ?_
                    exact (pif_f c12).symm
                  · -- 117 f: not (b2i (lbf n (it (lswapb n b) k z1) 1 k)) = 0
                    replace c12 := Classical.not_not.mp (fun z => c12 (b2i_0.mpr z))
                    refine v_iload C dL_breaks_120 rfl ?_
                    refine v_goto C 127 dL_breaks_122 (by decide) ?_
                    refine J4 _ ?_
                    exact (pif_t c12).symm
                · -- behind the join
                  refine v_istore C dL_breaks_127 (by decide) ?_
                  refine v_iinc C (0) dL_breaks_129 rfl (by decide) (by decide) ?_
                  refine v_goto C 99 dL_breaks_132 (by decide) ?_
                  refine v_iload C dL_breaks_99 rfl ?_
                  refine v_if_lt C 135 dL_breaks_101 (by decide) (fun z => absurd z (by decide)) (fun z => ?_)
                  refine V.join (wL cy al (it (lswapb n b) k z1) wr) 127 (fun _ => ([some (.ref (al 9)), some (.ref (al 0)), some (.ref (al 1)), some (.ref (al 2)), some (.ref (al 3)), some (.ref (al 4)), some (.ref (al 6)), some (.int (nI b)), some (.int (nI k)), some (.int (pif (lbf n (it (lswapb n b) k z1) 1 k) (1) (pif (lbf n (it (lswapb n b) k z1) 2 k) (2) (pif (lbf n (it (lswapb n b) k z1) 3 k) (3) (pif (lbf n (it (lswapb n b) k z1) 4 k) (4) (-1)))))), some (.int 0)] : List (Option Value))) (fun v => (.int v :: [] : List Value)) (pif (lbf n (it (lswapb n b) k z1) 0 k) (0) (pif (lbf n (it (lswapb n b) k z1) 1 k) (1) (pif (lbf n (it (lswapb n b) k z1) 2 k) (2) (pif (lbf n (it (lswapb n b) k z1) 3 k) (3) (pif (lbf n (it (lswapb n b) k z1) 4 k) (4) (-1)))))) (fun J5 => ?_) ?_
                  · -- up to the join
                    refine v_aload_n C dL_breaks_104 rfl ?_
                    refine v_aload_n C dL_breaks_105 rfl ?_
                    refine v_aload_n C dL_breaks_106 rfl ?_
                    refine v_aload_n C dL_breaks_107 rfl ?_
                    refine v_aload C dL_breaks_108 rfl ?_
                    refine v_iload C dL_breaks_110 rfl ?_
                    refine v_iload C dL_breaks_112 rfl ?_
                    refine v_sI C (k_L_fitsBus l G cy al (it (lswapb n b) k z1) wr n hn_k h20 0 (by omega) k (by omega)) rfl gL_breaks_L_fitsBus (nA := 7) (by decide +kernel) rfl (by decide) (by decide) rfl (Nat.le_of_ble_eq_true rfl) dL_breaks_114 ?_
                    refine v_if_eq C 125 dL_breaks_117 (by decide) (fun c14 => ?_) (fun c14 => ?_)
                    · -- 117 t: (b2i (lbf n (it (lswapb n b) k z1) 0 k)) = 0
                      replace c14 := b2i_0.mp c14
                      refine v_iload C dL_breaks_125 rfl ?_
                      refine J5 _ ?_
                      exact (pif_f c14).symm
                    · -- 117 f: not (b2i (lbf n (it (lswapb n b) k z1) 0 k)) = 0
                      replace c14 := Classical.not_not.mp (fun z => c14 (b2i_0.mpr z))
                      refine v_iload C dL_breaks_120 rfl ?_
                      refine v_goto C 127 dL_breaks_122 (by decide) ?_
                      refine J5 _ ?_
                      exact (pif_t c14).symm
                  · -- behind the join
                    refine v_istore C dL_breaks_127 (by decide) ?_
                    refine v_iinc C (-1) dL_breaks_129 rfl (by decide) (by decide) ?_
                    refine v_goto C 99 dL_breaks_132 (by decide) ?_
                    refine v_iload C dL_breaks_99 rfl ?_
                    refine v_if_lt C 135 dL_breaks_101 (by decide) (fun z => ?_) (fun z => absurd z (by decide))
                    refine V.el (lo' := [some (.ref (al 9)), some (.ref (al 0)), some (.ref (al 1)), some (.ref (al 2)), some (.ref (al 3)), some (.ref (al 4)), some (.ref (al 6)), some (.int (nI b)), some (.int (nI k)), some (.int (llowb n (it (lswapb n b) k z1) k)), some (.int (-1))]) rfl ?_
                    refine v_aload_n C dL_breaks_135 rfl ?_
                    refine v_iload C dL_breaks_136 rfl ?_
                    refine v_iload C dL_breaks_138 rfl ?_
                    refine v_iconst C (1) dL_breaks_140 (by decide) ?_
                    refine v_iadd C dL_breaks_141 ?_
                    refine vL_s_w C k rfl (by omega) (v := llowb n (it (lswapb n b) k z1) k) rfl dL_breaks_142 ?_
                    refine v_iload C dL_breaks_143 rfl ?_
                    refine v_if_ge C 161 dL_breaks_145 (by decide) (fun c16 => ?_) (fun c16 => ?_)
                    · -- 145 t: ¬ (llowb n (it (lswapb n b) k z1) k) < 0
                      obtain ⟨hq, hq_lt⟩ := ix_of (N := 5) (by decide) c16 (llowb_lt _ _ _)
                      refine v_aload C dL_breaks_161 rfl ?_
                      refine v_iconst C (2) dL_breaks_163 (by decide) ?_
                      refine v_iload C dL_breaks_164 rfl ?_
                      refine v_imul C dL_breaks_166 ?_
                      refine v_dup2 C dL_breaks_167 rfl rfl ?_
                      refine vL_l_b0 C ((llowb n (it (lswapb n b) k z1) k).toNatClampNeg) hq (by omega) dL_breaks_168 ?_
                      refine V.es (st' := [.int ((it (lswapb n b) k z1) 12 ((llowb n (it (lswapb n b) k z1) k).toNatClampNeg)), .int (2 * (llowb n (it (lswapb n b) k z1) k)), .ref (al 4)]) (by rw [su_f _ _ _ _ (by decide)]) ?_
                      refine v_aload_n C dL_breaks_169 rfl ?_
                      refine v_iconst C (3) dL_breaks_170 (by decide) ?_
                      refine v_iload C dL_breaks_171 rfl ?_
                      refine v_imul C dL_breaks_173 ?_
                      refine v_iconst C (2) dL_breaks_174 (by decide) ?_
                      refine v_iadd C dL_breaks_175 ?_
                      refine vL_l_r2 C k rfl (by omega) dL_breaks_176 ?_
                      refine V.es (st' := [.int ((it (lswapb n b) k z1) 8 k), .int ((it (lswapb n b) k z1) 12 ((llowb n (it (lswapb n b) k z1) k).toNatClampNeg)), .int (2 * (llowb n (it (lswapb n b) k z1) k)), .ref (al 4)]) (by rw [su_f _ _ _ _ (by decide)]) ?_
                      refine v_isub C dL_breaks_177 ?_
                      refine vL_s_b0 C ((llowb n (it (lswapb n b) k z1) k).toNatClampNeg) hq (by omega) dL_breaks_178 ?_
                      refine v_aload C dL_breaks_179 rfl ?_
                      refine v_iload C dL_breaks_181 rfl ?_
                      refine v_sV C (k_L_leaves l G cy al (su (su (it (lswapb n b) k z1) 10 k (llowb n (it (lswapb n b) k z1) k)) 12 ((llowb n (it (lswapb n b) k z1) k).toNatClampNeg) (((it (lswapb n b) k z1) 12 ((llowb n (it (lswapb n b) k z1) k).toNatClampNeg)) - ((it (lswapb n b) k z1) 8 k))) wr (llowb n (it (lswapb n b) k z1) k)) rfl gL_breaks_L_leaves (nA := 2) (by decide +kernel) rfl (by decide) (by decide) rfl (Nat.le_of_ble_eq_true rfl) dL_breaks_183 ?_
                      refine v_incN C dL_breaks_186 rfl (by decide) ?_
                      refine v_goto C 66 dL_breaks_189 (by decide) ?_
                      have q := ih_k hk trivial
                      have e : it (lswapb n b) (k + 1) z1 = funplug (su (su (it (lswapb n b) k z1) 10 k (llowb n (it (lswapb n b) k z1) k)) 12 ((llowb n (it (lswapb n b) k z1) k).toNatClampNeg) (((it (lswapb n b) k z1) 12 ((llowb n (it (lswapb n b) k z1) k).toNatClampNeg)) - ((it (lswapb n b) k z1) 8 k))) (llowb n (it (lswapb n b) k z1) k) := by
                        show lswapb n b k (it (lswapb n b) k z1) = funplug (su (su (it (lswapb n b) k z1) 10 k (llowb n (it (lswapb n b) k z1) k)) 12 ((llowb n (it (lswapb n b) k z1) k).toNatClampNeg) (((it (lswapb n b) k z1) 12 ((llowb n (it (lswapb n b) k z1) k).toNatClampNeg)) - ((it (lswapb n b) k z1) 8 k))) (llowb n (it (lswapb n b) k z1) k)
                        simp [lswapb, lgiveb, pif, c3, c4, c16]
                      rw [e] at q
                      exact (V.lof 9 (V.lof 10 q))
                    · -- 145 f: not ¬ (llowb n (it (lswapb n b) k z1) k) < 0
                      refine v_aload_n C dL_breaks_148 rfl ?_
                      refine v_aload_n C dL_breaks_149 rfl ?_
                      refine v_aload C dL_breaks_150 rfl ?_
                      refine v_iload C dL_breaks_152 rfl ?_
                      refine v_iconst C (4) dL_breaks_154 (by decide) ?_
                      refine v_sV C (k_L_turns l G cy al (su (it (lswapb n b) k z1) 10 k (llowb n (it (lswapb n b) k z1) k)) wr k (by omega) 4) rfl gL_breaks_L_turns (nA := 5) (by decide +kernel) rfl (by decide) (by decide) rfl (Nat.le_of_ble_eq_true rfl) dL_breaks_155 ?_
                      refine v_goto C 186 dL_breaks_158 (by decide) ?_
                      refine v_incN C dL_breaks_186 rfl (by decide) ?_
                      refine v_goto C 66 dL_breaks_189 (by decide) ?_
                      have q := ih_k hk trivial
                      have e : it (lswapb n b) (k + 1) z1 = fdrop (su (it (lswapb n b) k z1) 10 k (llowb n (it (lswapb n b) k z1) k)) k 4 := by
                        show lswapb n b k (it (lswapb n b) k z1) = fdrop (su (it (lswapb n b) k z1) 10 k (llowb n (it (lswapb n b) k z1) k)) k 4
                        simp [lswapb, lgiveb, pif, c3, c4, c16]
                      rw [e] at q
                      exact (V.lof 9 (V.lof 10 q))
  · have hk : k < n := c1
    refine v_aload_n C dL_breaks_28 rfl ?_
    refine v_iload C dL_breaks_29 rfl ?_
    refine vL_l_s C k rfl (by omega) dL_breaks_31 ?_
    refine v_iconst C (1) dL_breaks_32 (by decide) ?_
    refine v_icmp_ne C 57 dL_breaks_33 (by decide) (fun c17 => ?_) (fun c17 => ?_)
    · -- 33 t: ¬ ((it (stakeb (nI b)) k z0) 9 k) = 1
      refine v_incN C dL_breaks_57 rfl (by decide) ?_
      refine v_goto C 20 dL_breaks_60 (by decide) ?_
      have q := ih_k hk trivial
      have e : it (stakeb (nI b)) (k + 1) z0 = it (stakeb (nI b)) k z0 := by
        show stakeb (nI b) k (it (stakeb (nI b)) k z0) = it (stakeb (nI b)) k z0
        simp [stakeb, pif, c17]
      rw [e] at q
      exact q
    · -- 33 f: not ¬ ((it (stakeb (nI b)) k z0) 9 k) = 1
      refine v_aload_n C dL_breaks_36 rfl ?_
      refine v_iload C dL_breaks_37 rfl ?_
      refine vL_l_w C k rfl (by omega) dL_breaks_39 ?_
      refine v_iload C dL_breaks_40 rfl ?_
      refine v_iconst C (1) dL_breaks_42 (by decide) ?_
      refine v_iadd C dL_breaks_43 ?_
      refine v_icmp_ne C 57 dL_breaks_44 (by decide) (fun c18 => ?_) (fun c18 => ?_)
      · -- 44 t: ¬ ((it (stakeb (nI b)) k z0) 10 k + 1) = ((nI b) + 1)
        replace c18 := mt p1_iff.mpr c18
        refine v_incN C dL_breaks_57 rfl (by decide) ?_
        refine v_goto C 20 dL_breaks_60 (by decide) ?_
        have q := ih_k hk trivial
        have e : it (stakeb (nI b)) (k + 1) z0 = it (stakeb (nI b)) k z0 := by
          show stakeb (nI b) k (it (stakeb (nI b)) k z0) = it (stakeb (nI b)) k z0
          simp [stakeb, pif, c17, c18]
        rw [e] at q
        exact q
      · -- 44 f: not ¬ ((it (stakeb (nI b)) k z0) 10 k + 1) = ((nI b) + 1)
        replace c18 := p1_iff.mp c18
        refine v_aload_n C dL_breaks_47 rfl ?_
        refine v_aload_n C dL_breaks_48 rfl ?_
        refine v_aload C dL_breaks_49 rfl ?_
        refine v_iload C dL_breaks_51 rfl ?_
        refine v_iconst C (0) dL_breaks_53 (by decide) ?_
        refine v_sV C (k_L_turns l G cy al (it (stakeb (nI b)) k z0) wr k (by omega) 0) rfl gL_breaks_L_turns (nA := 5) (by decide +kernel) rfl (by decide) (by decide) rfl (Nat.le_of_ble_eq_true rfl) dL_breaks_54 ?_
        refine v_incN C dL_breaks_57 rfl (by decide) ?_
        refine v_goto C 20 dL_breaks_60 (by decide) ?_
        have q := ih_k hk trivial
        have e : it (stakeb (nI b)) (k + 1) z0 = fdrop (it (stakeb (nI b)) k z0) k 0 := by
          show stakeb (nI b) k (it (stakeb (nI b)) k z0) = fdrop (it (stakeb (nI b)) k z0) k 0
          simp [stakeb, pif, c17, c18]
        rw [e] at q
        exact q
set_option maxHeartbeats 4000000 in
set_option maxRecDepth 100000 in
/-- ails -/
theorem k_L_ails (l : Launch) (G : va_G) (cy : Nat → ClassId) (al : Nat → Nat) (x : Sg) (wr : va_W) (n : Nat) (hn : x 1 0 = nI n) (h20 : n ≤ 20) (d : Nat) (hd5 : d < 5) : KV l G cy yL_ails wsL_ails 2 60 0 0 [.ref (al 9), .ref (al 0), .ref (al 1), .ref (al 2), .ref (al 3), .ref (al 5), .int (nI d)] (wL cy al x wr) (wL cy al (lails n x d) wr) := by
  refine KV_of (own := RL) (cc := cL_ails) (maxL := 10) (ret := none) (lo0 := [some (.ref (al 9)), some (.ref (al 0)), some (.ref (al 1)), some (.ref (al 2)), some (.ref (al 3)), some (.ref (al 5)), some (.int (nI d)), none, none, none]) (by decide) rfl rfl (by simp [Value.category]) (Nat.le_of_ble_eq_true rfl) rfl (fun p e s m args below meth c A _ C => ?_)
  refine v_aload C dL_ails_0 rfl ?_
  refine v_iload C dL_ails_2 rfl ?_
  refine v_iconst C (1) dL_ails_4 (by decide) ?_
  refine vL_s_i C d rfl (by omega) dL_ails_5 ?_
  obtain ⟨z0, hz0⟩ : ∃ z0 : Sg, z0 = su x 14 d 1 := ⟨_, rfl⟩
  rw [← hz0]
  have hn_z0 : z0 1 0 = nI n := by rw [hz0, su_f _ _ _ _ (by decide)]; exact hn
  refine v_iconst C (0) dL_ails_6 (by decide) ?_
  refine v_istore C dL_ails_7 (by decide) ?_
  refine V.loop (fun k : Nat => wL cy al (it (staked (nI d)) k z0) wr) (fun k : Nat => ([some (.ref (al 9)), some (.ref (al 0)), some (.ref (al 1)), some (.ref (al 2)), some (.ref (al 3)), some (.ref (al 5)), some (.int (nI d)), some (.int (nI k)), none, none] : List (Option Value))) (fun k : Nat => True) n ?_ trivial
  intro k hle_k hP_k ih_k
  try dsimp only at hP_k ih_k ⊢
  have hn_k : it (staked (nI d)) k z0 1 0 = nI n := (it_f (fun c y => staked_f (nI d) c y (by decide) (by decide) (by decide)) k z0).trans hn_z0
  refine v_iload C dL_ails_9 rfl ?_
  refine v_aload_n C dL_ails_11 rfl ?_
  refine v_iconst C (1) dL_ails_12 (by decide) ?_
  refine vL_l_n1 C dL_ails_13 ?_
  refine v_geN C k n 53 dL_ails_14 (by decide) rfl hn_k (by omega) (by omega) (fun c1 => ?_) (fun c1 => ?_)
  · -- loop 9 is over
    have e_k : n = k := by omega
    subst e_k
    obtain ⟨z1, hz1⟩ : ∃ z1 : Sg, z1 = it (staked (nI d)) n z0 := ⟨_, rfl⟩
    rw [← hz1]
    have hn_z1 : z1 1 0 = nI n := by rw [hz1, it_f (fun c y => staked_f (nI d) c y (by decide) (by decide) (by decide))]; exact hn_z0
    refine v_iconst C (0) dL_ails_53 (by decide) ?_
    refine v_istore C dL_ails_54 (by decide) ?_
    refine V.loop (fun k : Nat => wL cy al (it (lswapd n d) k z1) wr) (fun k : Nat => ([some (.ref (al 9)), some (.ref (al 0)), some (.ref (al 1)), some (.ref (al 2)), some (.ref (al 3)), some (.ref (al 5)), some (.int (nI d)), some (.int (nI k)), none, none] : List (Option Value))) (fun k : Nat => True) n ?_ trivial
    intro k hle_k hP_k ih_k
    try dsimp only at hP_k ih_k ⊢
    have hn_k : it (lswapd n d) k z1 1 0 = nI n := (it_f (fun c y => lswapd_f n d c y (by decide) (by decide) (by decide)) k z1).trans hn_z1
    refine v_iload C dL_ails_56 rfl ?_
    refine v_aload_n C dL_ails_58 rfl ?_
    refine v_iconst C (1) dL_ails_59 (by decide) ?_
    refine vL_l_n1 C dL_ails_60 ?_
    refine v_geN C k n 157 dL_ails_61 (by decide) rfl hn_k (by omega) (by omega) (fun c2 => ?_) (fun c2 => ?_)
    · -- loop 56 is over
      have e_k : n = k := by omega
      subst e_k
      have e : lails n x d = it (lswapd n d) n z1 := by rw [hz1, hz0]; rfl
      rw [e]
      exact v_vret C dL_ails_157
    · have hk : k < n := c2
      refine v_aload_n C dL_ails_64 rfl ?_
      refine v_iload C dL_ails_65 rfl ?_
      refine vL_l_s C k rfl (by omega) dL_ails_67 ?_
      refine v_iconst C (2) dL_ails_68 (by decide) ?_
      refine v_icmp_ne C 151 dL_ails_69 (by decide) (fun c3 => ?_) (fun c3 => ?_)
      · -- 69 t: ¬ ((it (lswapd n d) k z1) 9 k) = 2
        refine v_incN C dL_ails_151 rfl (by decide) ?_
        refine v_goto C 56 dL_ails_154 (by decide) ?_
        have q := ih_k hk trivial
        have e : it (lswapd n d) (k + 1) z1 = it (lswapd n d) k z1 := by
          show lswapd n d k (it (lswapd n d) k z1) = it (lswapd n d) k z1
          simp [lswapd, lgived, pif, c3]
        rw [e] at q
        exact (V.lof 8 (V.lof 9 q))
      · -- 69 f: not ¬ ((it (lswapd n d) k z1) 9 k) = 2
        refine v_aload C dL_ails_72 rfl ?_
        refine v_iload C dL_ails_74 rfl ?_
        refine vL_l_d C k rfl (by omega) dL_ails_76 ?_
        refine v_iload C dL_ails_77 rfl ?_
        refine v_iconst C (1) dL_ails_79 (by decide) ?_
        refine v_iadd C dL_ails_80 ?_
        refine v_icmp_ne C 151 dL_ails_81 (by decide) (fun c4 => ?_) (fun c4 => ?_)
        · -- 81 t: ¬ ((it (lswapd n d) k z1) 11 k + 1) = ((nI d) + 1)
          replace c4 := mt p1_iff.mpr c4
          refine v_incN C dL_ails_151 rfl (by decide) ?_
          refine v_goto C 56 dL_ails_154 (by decide) ?_
          have q := ih_k hk trivial
          have e : it (lswapd n d) (k + 1) z1 = it (lswapd n d) k z1 := by
            show lswapd n d k (it (lswapd n d) k z1) = it (lswapd n d) k z1
            simp [lswapd, lgived, pif, c3, c4]
          rw [e] at q
          exact (V.lof 8 (V.lof 9 q))
        · -- 81 f: not ¬ ((it (lswapd n d) k z1) 11 k + 1) = ((nI d) + 1)
          replace c4 := p1_iff.mp c4
          refine v_iconst C (-1) dL_ails_84 (by decide) ?_
          refine v_istore C dL_ails_85 (by decide) ?_
          refine v_iconst C (4) dL_ails_87 (by decide) ?_
          refine v_istore C dL_ails_88 (by decide) ?_
          refine v_iload C dL_ails_90 rfl ?_
          refine v_if_lt C 127 dL_ails_92 (by decide) (fun z => absurd z (by decide)) (fun z => ?_)
          refine V.join (wL cy al (it (lswapd n d) k z1) wr) 119 (fun _ => ([some (.ref (al 9)), some (.ref (al 0)), some (.ref (al 1)), some (.ref (al 2)), some (.ref (al 3)), some (.ref (al 5)), some (.int (nI d)), some (.int (nI k)), some (.int (-1)), some (.int 4)] : List (Option Value))) (fun v => (.int v :: [] : List Value)) (pif (ldf n (it (lswapd n d) k z1) 4 k) (4) (-1)) (fun J1 => ?_) ?_
          · -- up to the join
            refine v_aload_n C dL_ails_95 rfl ?_
            refine v_aload_n C dL_ails_96 rfl ?_
            refine v_aload_n C dL_ails_97 rfl ?_
            refine v_aload C dL_ails_98 rfl ?_
            refine v_aload C dL_ails_100 rfl ?_
            refine v_iload C dL_ails_102 rfl ?_
            refine v_iload C dL_ails_104 rfl ?_
            refine v_sI C (k_L_fitsDriver l G cy al (it (lswapd n d) k z1) wr n hn_k h20 4 (by omega) k (by omega)) rfl gL_ails_L_fitsDriver (nA := 7) (by decide +kernel) rfl (by decide) (by decide) rfl (Nat.le_of_ble_eq_true rfl) dL_ails_106 ?_
            refine v_if_eq C 117 dL_ails_109 (by decide) (fun c6 => ?_) (fun c6 => ?_)
            · -- 109 t: (b2i (ldf n (it (lswapd n d) k z1) 4 k)) = 0
              replace c6 := b2i_0.mp c6
              refine v_iload C dL_ails_117 rfl ?_
              refine J1 _ ?_
              exact (pif_f c6).symm
            · -- 109 f: not (b2i (ldf n (it (lswapd n d) k z1) 4 k)) = 0
              replace c6 := Classical.not_not.mp (fun z => c6 (b2i_0.mpr z))
              refine v_iload C dL_ails_112 rfl ?_
              refine v_goto C 119 dL_ails_114 (by decide) ?_
              refine J1 _ ?_
              exact (pif_t c6).symm
          · -- behind the join
            refine v_istore C dL_ails_119 (by decide) ?_
            refine v_iinc C (3) dL_ails_121 rfl (by decide) (by decide) ?_
            refine v_goto C 90 dL_ails_124 (by decide) ?_
            refine v_iload C dL_ails_90 rfl ?_
            refine v_if_lt C 127 dL_ails_92 (by decide) (fun z => absurd z (by decide)) (fun z => ?_)
            refine V.join (wL cy al (it (lswapd n d) k z1) wr) 119 (fun _ => ([some (.ref (al 9)), some (.ref (al 0)), some (.ref (al 1)), some (.ref (al 2)), some (.ref (al 3)), some (.ref (al 5)), some (.int (nI d)), some (.int (nI k)), some (.int (pif (ldf n (it (lswapd n d) k z1) 4 k) (4) (-1))), some (.int 3)] : List (Option Value))) (fun v => (.int v :: [] : List Value)) (pif (ldf n (it (lswapd n d) k z1) 3 k) (3) (pif (ldf n (it (lswapd n d) k z1) 4 k) (4) (-1))) (fun J2 => ?_) ?_
            · -- up to the join
              refine v_aload_n C dL_ails_95 rfl ?_
              refine v_aload_n C dL_ails_96 rfl ?_
              refine v_aload_n C dL_ails_97 rfl ?_
              refine v_aload C dL_ails_98 rfl ?_
              refine v_aload C dL_ails_100 rfl ?_
              refine v_iload C dL_ails_102 rfl ?_
              refine v_iload C dL_ails_104 rfl ?_
              refine v_sI C (k_L_fitsDriver l G cy al (it (lswapd n d) k z1) wr n hn_k h20 3 (by omega) k (by omega)) rfl gL_ails_L_fitsDriver (nA := 7) (by decide +kernel) rfl (by decide) (by decide) rfl (Nat.le_of_ble_eq_true rfl) dL_ails_106 ?_
              refine v_if_eq C 117 dL_ails_109 (by decide) (fun c8 => ?_) (fun c8 => ?_)
              · -- 109 t: (b2i (ldf n (it (lswapd n d) k z1) 3 k)) = 0
                replace c8 := b2i_0.mp c8
                refine v_iload C dL_ails_117 rfl ?_
                refine J2 _ ?_
                exact (pif_f c8).symm
              · -- 109 f: not (b2i (ldf n (it (lswapd n d) k z1) 3 k)) = 0
                replace c8 := Classical.not_not.mp (fun z => c8 (b2i_0.mpr z))
                refine v_iload C dL_ails_112 rfl ?_
                refine v_goto C 119 dL_ails_114 (by decide) ?_
                refine J2 _ ?_
                exact (pif_t c8).symm
            · -- behind the join
              refine v_istore C dL_ails_119 (by decide) ?_
              refine v_iinc C (2) dL_ails_121 rfl (by decide) (by decide) ?_
              refine v_goto C 90 dL_ails_124 (by decide) ?_
              refine v_iload C dL_ails_90 rfl ?_
              refine v_if_lt C 127 dL_ails_92 (by decide) (fun z => absurd z (by decide)) (fun z => ?_)
              refine V.join (wL cy al (it (lswapd n d) k z1) wr) 119 (fun _ => ([some (.ref (al 9)), some (.ref (al 0)), some (.ref (al 1)), some (.ref (al 2)), some (.ref (al 3)), some (.ref (al 5)), some (.int (nI d)), some (.int (nI k)), some (.int (pif (ldf n (it (lswapd n d) k z1) 3 k) (3) (pif (ldf n (it (lswapd n d) k z1) 4 k) (4) (-1)))), some (.int 2)] : List (Option Value))) (fun v => (.int v :: [] : List Value)) (pif (ldf n (it (lswapd n d) k z1) 2 k) (2) (pif (ldf n (it (lswapd n d) k z1) 3 k) (3) (pif (ldf n (it (lswapd n d) k z1) 4 k) (4) (-1)))) (fun J3 => ?_) ?_
              · -- up to the join
                refine v_aload_n C dL_ails_95 rfl ?_
                refine v_aload_n C dL_ails_96 rfl ?_
                refine v_aload_n C dL_ails_97 rfl ?_
                refine v_aload C dL_ails_98 rfl ?_
                refine v_aload C dL_ails_100 rfl ?_
                refine v_iload C dL_ails_102 rfl ?_
                refine v_iload C dL_ails_104 rfl ?_
                refine v_sI C (k_L_fitsDriver l G cy al (it (lswapd n d) k z1) wr n hn_k h20 2 (by omega) k (by omega)) rfl gL_ails_L_fitsDriver (nA := 7) (by decide +kernel) rfl (by decide) (by decide) rfl (Nat.le_of_ble_eq_true rfl) dL_ails_106 ?_
                refine v_if_eq C 117 dL_ails_109 (by decide) (fun c10 => ?_) (fun c10 => ?_)
                · -- 109 t: (b2i (ldf n (it (lswapd n d) k z1) 2 k)) = 0
                  replace c10 := b2i_0.mp c10
                  refine v_iload C dL_ails_117 rfl ?_
                  refine J3 _ ?_
                  exact (pif_f c10).symm
                · -- 109 f: not (b2i (ldf n (it (lswapd n d) k z1) 2 k)) = 0
                  replace c10 := Classical.not_not.mp (fun z => c10 (b2i_0.mpr z))
                  refine v_iload C dL_ails_112 rfl ?_
                  refine v_goto C 119 dL_ails_114 (by decide) ?_
                  refine J3 _ ?_
                  exact (pif_t c10).symm
              · -- behind the join
                refine v_istore C dL_ails_119 (by decide) ?_
                refine v_iinc C (1) dL_ails_121 rfl (by decide) (by decide) ?_
                refine v_goto C 90 dL_ails_124 (by decide) ?_
                refine v_iload C dL_ails_90 rfl ?_
                refine v_if_lt C 127 dL_ails_92 (by decide) (fun z => absurd z (by decide)) (fun z => ?_)
                refine V.join (wL cy al (it (lswapd n d) k z1) wr) 119 (fun _ => ([some (.ref (al 9)), some (.ref (al 0)), some (.ref (al 1)), some (.ref (al 2)), some (.ref (al 3)), some (.ref (al 5)), some (.int (nI d)), some (.int (nI k)), some (.int (pif (ldf n (it (lswapd n d) k z1) 2 k) (2) (pif (ldf n (it (lswapd n d) k z1) 3 k) (3) (pif (ldf n (it (lswapd n d) k z1) 4 k) (4) (-1))))), some (.int 1)] : List (Option Value))) (fun v => (.int v :: [] : List Value)) (pif (ldf n (it (lswapd n d) k z1) 1 k) (1) (pif (ldf n (it (lswapd n d) k z1) 2 k) (2) (pif (ldf n (it (lswapd n d) k z1) 3 k) (3) (pif (ldf n (it (lswapd n d) k z1) 4 k) (4) (-1))))) (fun J4 => ?_) ?_
                · -- up to the join
                  refine v_aload_n C dL_ails_95 rfl ?_
                  refine v_aload_n C dL_ails_96 rfl ?_
                  refine v_aload_n C dL_ails_97 rfl ?_
                  refine v_aload C dL_ails_98 rfl ?_
                  refine v_aload C dL_ails_100 rfl ?_
                  refine v_iload C dL_ails_102 rfl ?_
                  refine v_iload C dL_ails_104 rfl ?_
                  refine v_sI C (k_L_fitsDriver l G cy al (it (lswapd n d) k z1) wr n hn_k h20 1 (by omega) k (by omega)) rfl gL_ails_L_fitsDriver (nA := 7) (by decide +kernel) rfl (by decide) (by decide) rfl (Nat.le_of_ble_eq_true rfl) dL_ails_106 ?_
                  refine v_if_eq C 117 dL_ails_109 (by decide) (fun c12 => ?_) (fun c12 => ?_)
                  · -- 109 t: (b2i (ldf n (it (lswapd n d) k z1) 1 k)) = 0
                    replace c12 := b2i_0.mp c12
                    refine v_iload C dL_ails_117 rfl ?_
                    refine J4 _ ?_
                    exact (pif_f c12).symm
                  · -- 109 f: not (b2i (ldf n (it (lswapd n d) k z1) 1 k)) = 0
                    replace c12 := Classical.not_not.mp (fun z => c12 (b2i_0.mpr z))
                    refine v_iload C dL_ails_112 rfl ?_
                    refine v_goto C 119 dL_ails_114 (by decide) ?_
                    refine J4 _ ?_
                    exact (pif_t c12).symm
                · -- behind the join
                  refine v_istore C dL_ails_119 (by decide) ?_
                  refine v_iinc C (0) dL_ails_121 rfl (by decide) (by decide) ?_
                  refine v_goto C 90 dL_ails_124 (by decide) ?_
                  refine v_iload C dL_ails_90 rfl ?_
                  refine v_if_lt C 127 dL_ails_92 (by decide) (fun z => absurd z (by decide)) (fun z => ?_)
                  refine V.join (wL cy al (it (lswapd n d) k z1) wr) 119 (fun _ => ([some (.ref (al 9)), some (.ref (al 0)), some (.ref (al 1)), some (.ref (al 2)), some (.ref (al 3)), some (.ref (al 5)), some (.int (nI d)), some (.int (nI k)), some (.int (pif (ldf n (it (lswapd n d) k z1) 1 k) (1) (pif (ldf n (it (lswapd n d) k z1) 2 k) (2) (pif (ldf n (it (lswapd n d) k z1) 3 k) (3) (pif (ldf n (it (lswapd n d) k z1) 4 k) (4) (-1)))))), some (.int 0)] : List (Option Value))) (fun v => (.int v :: [] : List Value)) (pif (ldf n (it (lswapd n d) k z1) 0 k) (0) (pif (ldf n (it (lswapd n d) k z1) 1 k) (1) (pif (ldf n (it (lswapd n d) k z1) 2 k) (2) (pif (ldf n (it (lswapd n d) k z1) 3 k) (3) (pif (ldf n (it (lswapd n d) k z1) 4 k) (4) (-1)))))) (fun J5 => ?_) ?_
                  · -- up to the join
                    refine v_aload_n C dL_ails_95 rfl ?_
                    refine v_aload_n C dL_ails_96 rfl ?_
                    refine v_aload_n C dL_ails_97 rfl ?_
                    refine v_aload C dL_ails_98 rfl ?_
                    refine v_aload C dL_ails_100 rfl ?_
                    refine v_iload C dL_ails_102 rfl ?_
                    refine v_iload C dL_ails_104 rfl ?_
                    refine v_sI C (k_L_fitsDriver l G cy al (it (lswapd n d) k z1) wr n hn_k h20 0 (by omega) k (by omega)) rfl gL_ails_L_fitsDriver (nA := 7) (by decide +kernel) rfl (by decide) (by decide) rfl (Nat.le_of_ble_eq_true rfl) dL_ails_106 ?_
                    refine v_if_eq C 117 dL_ails_109 (by decide) (fun c14 => ?_) (fun c14 => ?_)
                    · -- 109 t: (b2i (ldf n (it (lswapd n d) k z1) 0 k)) = 0
                      replace c14 := b2i_0.mp c14
                      refine v_iload C dL_ails_117 rfl ?_
                      refine J5 _ ?_
                      exact (pif_f c14).symm
                    · -- 109 f: not (b2i (ldf n (it (lswapd n d) k z1) 0 k)) = 0
                      replace c14 := Classical.not_not.mp (fun z => c14 (b2i_0.mpr z))
                      refine v_iload C dL_ails_112 rfl ?_
                      refine v_goto C 119 dL_ails_114 (by decide) ?_
                      refine J5 _ ?_
                      exact (pif_t c14).symm
                  · -- behind the join
                    refine v_istore C dL_ails_119 (by decide) ?_
                    refine v_iinc C (-1) dL_ails_121 rfl (by decide) (by decide) ?_
                    refine v_goto C 90 dL_ails_124 (by decide) ?_
                    refine v_iload C dL_ails_90 rfl ?_
                    refine v_if_lt C 127 dL_ails_92 (by decide) (fun z => ?_) (fun z => absurd z (by decide))
                    refine V.el (lo' := [some (.ref (al 9)), some (.ref (al 0)), some (.ref (al 1)), some (.ref (al 2)), some (.ref (al 3)), some (.ref (al 5)), some (.int (nI d)), some (.int (nI k)), some (.int (llowd n (it (lswapd n d) k z1) k)), some (.int (-1))]) rfl ?_
                    refine v_aload C dL_ails_127 rfl ?_
                    refine v_iload C dL_ails_129 rfl ?_
                    refine v_iload C dL_ails_131 rfl ?_
                    refine v_iconst C (1) dL_ails_133 (by decide) ?_
                    refine v_iadd C dL_ails_134 ?_
                    refine vL_s_d C k rfl (by omega) (v := llowd n (it (lswapd n d) k z1) k) rfl dL_ails_135 ?_
                    refine v_iload C dL_ails_136 rfl ?_
                    refine v_if_ge C 151 dL_ails_138 (by decide) (fun c16 => ?_) (fun c16 => ?_)
                    · -- 138 t: ¬ (llowd n (it (lswapd n d) k z1) k) < 0
                      refine v_incN C dL_ails_151 rfl (by decide) ?_
                      refine v_goto C 56 dL_ails_154 (by decide) ?_
                      have q := ih_k hk trivial
                      have e : it (lswapd n d) (k + 1) z1 = su (it (lswapd n d) k z1) 11 k (llowd n (it (lswapd n d) k z1) k) := by
                        show lswapd n d k (it (lswapd n d) k z1) = su (it (lswapd n d) k z1) 11 k (llowd n (it (lswapd n d) k z1) k)
                        simp [lswapd, lgived, pif, c3, c4, c16]
                      rw [e] at q
                      exact (V.lof 8 (V.lof 9 q))
                    · -- 138 f: not ¬ (llowd n (it (lswapd n d) k z1) k) < 0
                      refine v_aload_n C dL_ails_141 rfl ?_
                      refine v_aload_n C dL_ails_142 rfl ?_
                      refine v_aload C dL_ails_143 rfl ?_
                      refine v_iload C dL_ails_145 rfl ?_
                      refine v_iconst C (4) dL_ails_147 (by decide) ?_
                      refine v_sV C (k_L_turns l G cy al (su (it (lswapd n d) k z1) 11 k (llowd n (it (lswapd n d) k z1) k)) wr k (by omega) 4) rfl gL_ails_L_turns (nA := 5) (by decide +kernel) rfl (by decide) (by decide) rfl (Nat.le_of_ble_eq_true rfl) dL_ails_148 ?_
                      refine v_incN C dL_ails_151 rfl (by decide) ?_
                      refine v_goto C 56 dL_ails_154 (by decide) ?_
                      have q := ih_k hk trivial
                      have e : it (lswapd n d) (k + 1) z1 = fdrop (su (it (lswapd n d) k z1) 11 k (llowd n (it (lswapd n d) k z1) k)) k 4 := by
                        show lswapd n d k (it (lswapd n d) k z1) = fdrop (su (it (lswapd n d) k z1) 11 k (llowd n (it (lswapd n d) k z1) k)) k 4
                        simp [lswapd, lgived, pif, c3, c4, c16]
                      rw [e] at q
                      exact (V.lof 8 (V.lof 9 q))
  · have hk : k < n := c1
    refine v_aload_n C dL_ails_17 rfl ?_
    refine v_iload C dL_ails_18 rfl ?_
    refine vL_l_s C k rfl (by omega) dL_ails_20 ?_
    refine v_iconst C (1) dL_ails_21 (by decide) ?_
    refine v_icmp_ne C 47 dL_ails_22 (by decide) (fun c17 => ?_) (fun c17 => ?_)
    · -- 22 t: ¬ ((it (staked (nI d)) k z0) 9 k) = 1
      refine v_incN C dL_ails_47 rfl (by decide) ?_
      refine v_goto C 9 dL_ails_50 (by decide) ?_
      have q := ih_k hk trivial
      have e : it (staked (nI d)) (k + 1) z0 = it (staked (nI d)) k z0 := by
        show staked (nI d) k (it (staked (nI d)) k z0) = it (staked (nI d)) k z0
        simp [staked, pif, c17]
      rw [e] at q
      exact q
    · -- 22 f: not ¬ ((it (staked (nI d)) k z0) 9 k) = 1
      refine v_aload C dL_ails_25 rfl ?_
      refine v_iload C dL_ails_27 rfl ?_
      refine vL_l_d C k rfl (by omega) dL_ails_29 ?_
      refine v_iload C dL_ails_30 rfl ?_
      refine v_iconst C (1) dL_ails_32 (by decide) ?_
      refine v_iadd C dL_ails_33 ?_
      refine v_icmp_ne C 47 dL_ails_34 (by decide) (fun c18 => ?_) (fun c18 => ?_)
      · -- 34 t: ¬ ((it (staked (nI d)) k z0) 11 k + 1) = ((nI d) + 1)
        replace c18 := mt p1_iff.mpr c18
        refine v_incN C dL_ails_47 rfl (by decide) ?_
        refine v_goto C 9 dL_ails_50 (by decide) ?_
        have q := ih_k hk trivial
        have e : it (staked (nI d)) (k + 1) z0 = it (staked (nI d)) k z0 := by
          show staked (nI d) k (it (staked (nI d)) k z0) = it (staked (nI d)) k z0
          simp [staked, pif, c17, c18]
        rw [e] at q
        exact q
      · -- 34 f: not ¬ ((it (staked (nI d)) k z0) 11 k + 1) = ((nI d) + 1)
        replace c18 := p1_iff.mp c18
        refine v_aload_n C dL_ails_37 rfl ?_
        refine v_aload_n C dL_ails_38 rfl ?_
        refine v_aload C dL_ails_39 rfl ?_
        refine v_iload C dL_ails_41 rfl ?_
        refine v_iconst C (0) dL_ails_43 (by decide) ?_
        refine v_sV C (k_L_turns l G cy al (it (staked (nI d)) k z0) wr k (by omega) 0) rfl gL_ails_L_turns (nA := 5) (by decide +kernel) rfl (by decide) (by decide) rfl (Nat.le_of_ble_eq_true rfl) dL_ails_44 ?_
        refine v_incN C dL_ails_47 rfl (by decide) ?_
        refine v_goto C 9 dL_ails_50 (by decide) ?_
        have q := ih_k hk trivial
        have e : it (staked (nI d)) (k + 1) z0 = fdrop (it (staked (nI d)) k z0) k 0 := by
          show staked (nI d) k (it (staked (nI d)) k z0) = fdrop (it (staked (nI d)) k z0) k 0
          simp [staked, pif, c17, c18]
        rw [e] at q
        exact q
