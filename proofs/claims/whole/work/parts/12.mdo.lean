/-! DepotLogModel: what it does -/
theorem su_id (x : Sg) (f k : Nat) : su x f k (x f k) = x := su_n x f k _ rfl
theorem su_su (x : Sg) (f k : Nat) (v v' : Int32) : su (su x f k v) f k v' = su x f k v' := by
  funext a b
  unfold su
  split
  · split
    · rfl
    · rfl
  · rfl
theorem nneg : (-1 : Int32) < 0 := by decide
def mfree (x : Sg) (r : Nat) : Sg := su (su x 10 r (-1)) 11 r (-1)
noncomputable def srel (b d : Int32) (k : Nat) (y : Sg) : Sg := pif ((y 10 k = b ∨ y 11 k = d) ∧ y 9 k = 1) (fdrop y k 0) y
noncomputable def goF (b d : Int32) (x : Sg) : Nat → Int32 | 0 => -1 | k + 1 => pif ((it (srel b d) k x 10 k = b ∨ it (srel b d) k x 11 k = d) ∧ it (srel b d) k x 9 k = 2) (nI k) (goF b d x k)
theorem goF_or (b d : Int32) (x : Sg) (n : Nat) : goF b d x n = -1 ∨ ∃ g, g < n ∧ goF b d x n = nI g := by
  induction n with
  | zero => exact Or.inl rfl
  | succ n ih =>
    show pif _ _ _ = _ ∨ ∃ g, g < n + 1 ∧ pif _ _ _ = _
    by_cases h : (it (srel b d) n x 10 n = b ∨ it (srel b d) n x 11 n = d) ∧ it (srel b d) n x 9 n = 2
    · rw [pif_t h]
      exact Or.inr ⟨n, Nat.lt_succ_self n, rfl⟩
    · rw [pif_f h]
      rcases ih with h1 | ⟨g, h1, h2⟩
      · exact Or.inl h1
      · exact Or.inr ⟨g, Nat.lt_succ_of_lt h1, h2⟩
theorem srel_f {f k : Nat} (b d : Int32) (c : Nat) (y : Sg) (h9 : f ≠ 9) (h10 : f ≠ 10) (h11 : f ≠ 11) : srel b d c y f k = y f k := by simp [srel, pif_ap2, fdrop_f, h9, h10, h11, pif_s]
/-- a run that is ORDERED has a bus; what is at a charger is a bus -/
def okB (n : Nat) (y : Sg) : Prop := ∀ k, k < n → y 9 k = 1 → ∃ b, b < 5 ∧ y 10 k = nI b
def okP (y : Sg) : Prop := ∀ c, c < 2 → y 15 c = -1 ∨ ∃ b, b < 5 ∧ y 15 c = nI b
theorem it_row {g : Nat → Sg → Sg} {f : Nat} (h : ∀ c y j, j ≠ c → g c y f j = y f j) (x : Sg) {k j : Nat} (hj : k ≤ j) : it g k x f j = x f j := by
  induction k with
  | zero => rfl
  | succ k ih =>
    show g k (it g k x) f j = x f j
    rw [h k _ j (by omega)]
    exact ih (by omega)
theorem fdrop_r {f j : Nat} (x : Sg) (k : Nat) (v : Int32) (h : j ≠ k) : fdrop x k v f j = x f j := by
  simp only [fdrop, su]
  split
  · rename_i h1; subst h1; simp [h]
  · split
    · rename_i h1; subst h1; simp [h]
    · split
      · rename_i h1; subst h1; simp [h]
      · rfl
theorem su_r {f' j : Nat} (x : Sg) (f k : Nat) (v : Int32) (h : j ≠ k) : su x f k v f' j = x f' j := by
  simp only [su]
  split
  · simp [h]
  · rfl
theorem sstart_r {f j : Nat} (c : Nat) (y : Sg) (hj : j ≠ c) (h12 : f ≠ 12) (h15 : f ≠ 15) : sstart c y f j = y f j := by
  simp [sstart, fstart, pif_ap2, fsend_f, h12, h15, su_r _ _ _ _ hj, fdrop_r _ _ _ hj, pif_s]
theorem send__r {f j : Nat} (c : Nat) (y : Sg) (hj : j ≠ c) : send_ c y f j = y f j := by
  simp [send_, pif_ap2, su_r _ _ _ _ hj, pif_s]
theorem inr_ix {N : Nat} {v b : Int32} (hN : N < 2 ^ 31) (hb : b = nI N) (h : inr 0 b v) : ∃ j, j ≤ N ∧ v = nI j := by
  subst hb
  exact ix_exr hN h.1 h.2
theorem inr_run {n : Nat} {v : Int32} (hn : n ≤ 1000) (h : inr 0 (nI n - 1) v) : ∃ j, j < n ∧ v = nI j := by
  cases n with
  | zero =>
    obtain ⟨h1, h2⟩ := h
    refine absurd ?_ h2
    rw [show nI 0 - 1 = (-1 : Int32) by decide]
    rw [Int32.lt_iff_toInt_lt] at h1 ⊢
    rw [show (0 : Int32).toInt = 0 by decide] at h1
    rw [show (-1 : Int32).toInt = -1 by decide]
    omega
  | succ n =>
    rw [nI_pred] at h
    obtain ⟨j, h1, h2⟩ := inr_ix (by omega) rfl h
    exact ⟨j, by omega, h2⟩
set_option maxHeartbeats 4000000 in
set_option maxRecDepth 100000 in
/-- free(r) -/
theorem k_X2_free (l : Launch) (G : va_G) (cy : Nat → ClassId) (am : Nat → Nat) (x : Sg) (r : Nat) (hr : r < 30) : KV l G cy yX2_free wsX2_free 0 0 0 0 [.ref (am 0), .int (nI r)] (wM cy am x) (wM cy am (mfree x r)) := by
  have hin2 : ∀ q ∈ u_ws RX2 TX2 18, q ∈ wsX2_free := by decide +kernel
  refine KV_of (own := RX2) (cc := cX2_free) (maxL := 2) (ret := none) (lo0 := [some (.ref (am 0)), some (.int (nI r))]) (by decide) rfl rfl (by simp [Value.category]) (Nat.le_of_ble_eq_true rfl) rfl (fun p e s m args below meth c A _ C => ?_)
  refine v_aload_n C dX2_free_0 rfl ?_
  refine vM_g_buses C hin2 (by decide +kernel) dX2_free_1 ?_
  refine v_iload_n C dX2_free_4 rfl ?_
  refine v_iconst C (-1) dX2_free_5 (by decide) ?_
  refine vM_s_buses C r rfl (by omega) dX2_free_6 ?_
  refine v_aload_n C dX2_free_7 rfl ?_
  refine vM_g_drivers C hin2 (by decide +kernel) dX2_free_8 ?_
  refine v_iload_n C dX2_free_11 rfl ?_
  refine v_iconst C (-1) dX2_free_12 (by decide) ?_
  refine vM_s_drivers C r rfl (by omega) dX2_free_13 ?_
  exact v_vret C dX2_free_14
set_option maxHeartbeats 4000000 in
set_option maxRecDepth 100000 in
/-- lose(r) -/
theorem k_X2_lose (l : Launch) (G : va_G) (cy : Nat → ClassId) (am : Nat → Nat) (x : Sg) (r : Nat) (hr : r < 30) : KV l G cy yX2_lose wsX2_lose 1 21 0 0 [.ref (am 0), .int (nI r)] (wM cy am x) (wM cy am (fdrop x r 4)) := by
  have hin2 : ∀ q ∈ u_ws RX2 TX2 18, q ∈ wsX2_lose := by decide +kernel
  refine KV_of (own := RX2) (cc := cX2_lose) (maxL := 2) (ret := none) (lo0 := [some (.ref (am 0)), some (.int (nI r))]) (by decide) rfl rfl (by simp [Value.category]) (Nat.le_of_ble_eq_true rfl) rfl (fun p e s m args below meth c A _ C => ?_)
  refine v_aload_n C dX2_lose_0 rfl ?_
  refine vM_g_states C hin2 (by decide +kernel) dX2_lose_1 ?_
  refine v_iload_n C dX2_lose_4 rfl ?_
  refine v_iconst C (4) dX2_lose_5 (by decide) ?_
  refine vM_s_states C r rfl (by omega) dX2_lose_6 ?_
  refine v_aload_n C dX2_lose_7 rfl ?_
  refine v_iload_n C dX2_lose_8 rfl ?_
  refine vM_cV C (k_X2_free l G cy am (su x 9 r 4) r (by omega)) rfl gX2_lose_X2_free (nA := 1) (by decide +kernel) rfl (by decide) (by decide) rfl rfl (Nat.le_of_ble_eq_true rfl) dX2_lose_9 ?_
  exact v_vret C dX2_lose_12
set_option maxHeartbeats 4000000 in
set_option maxRecDepth 100000 in
/-- unplug(b) -/
theorem k_X2_unplug (l : Launch) (G : va_G) (cy : Nat → ClassId) (am : Nat → Nat) (x : Sg) (b : Int32) : KV l G cy yX2_unplug wsX2_unplug 0 0 0 0 [.ref (am 0), .int b] (wM cy am x) (wM cy am (funplug x b)) := by
  have hin2 : ∀ q ∈ u_ws RX2 TX2 18, q ∈ wsX2_unplug := by decide +kernel
  refine KV_of (own := RX2) (cc := cX2_unplug) (maxL := 3) (ret := none) (lo0 := [some (.ref (am 0)), some (.int b), none]) (by decide) rfl rfl (by simp [Value.category]) (Nat.le_of_ble_eq_true rfl) rfl (fun p e s m args below meth c A _ C => ?_)
  refine v_iconst C (0) dX2_unplug_0 (by decide) ?_
  refine v_istore_n C dX2_unplug_1 (by decide) ?_
  refine V.loop (fun k : Nat => wM cy am (it (sunplug b) k x)) (fun k : Nat => ([some (.ref (am 0)), some (.int b), some (.int (nI k))] : List (Option Value))) (fun k : Nat => True) 2 ?_ trivial
  intro k hle_k hP_k ih_k
  try dsimp only at hP_k ih_k ⊢
  refine v_iload_n C dX2_unplug_2 rfl ?_
  refine v_iconst C (2) dX2_unplug_3 (by decide) ?_
  refine v_geN C k 2 39 dX2_unplug_4 (by decide) rfl rfl (by omega) (by omega) (fun c1 => ?_) (fun c1 => ?_)
  · -- loop 2 is over
    have e_k : 2 = k := by omega
    subst e_k
    exact v_vret C dX2_unplug_39
  · have hk : k < 2 := c1
    refine v_aload_n C dX2_unplug_7 rfl ?_
    refine vM_g_plugged C hin2 (by decide +kernel) dX2_unplug_8 ?_
    refine v_iload_n C dX2_unplug_11 rfl ?_
    refine v_aload_n C dX2_unplug_12 rfl ?_
    refine vM_g_plugged C hin2 (by decide +kernel) dX2_unplug_13 ?_
    refine v_iload_n C dX2_unplug_16 rfl ?_
    refine vM_l_plugged C k rfl (by omega) dX2_unplug_17 ?_
    refine v_iload_n C dX2_unplug_18 rfl ?_
    refine v_icmp_ne C 26 dX2_unplug_19 (by decide) (fun c2 => ?_) (fun c2 => ?_)
    · -- 19 t: ¬ ((it (sunplug b) k x) 15 k) = b
      refine v_aload_n C dX2_unplug_26 rfl ?_
      refine vM_g_plugged C hin2 (by decide +kernel) dX2_unplug_27 ?_
      refine v_iload_n C dX2_unplug_30 rfl ?_
      refine vM_l_plugged C k rfl (by omega) dX2_unplug_31 ?_
      refine vM_s_plugged C k rfl (by omega) dX2_unplug_32 ?_
      refine v_incN C dX2_unplug_33 rfl (by decide) ?_
      refine v_goto C 2 dX2_unplug_36 (by decide) ?_
      have q := ih_k hk trivial
      have e : it (sunplug b) (k + 1) x = su (it (sunplug b) k x) 15 k ((it (sunplug b) k x) 15 k) := by
        show (sunplug b) k (it (sunplug b) k x) = su (it (sunplug b) k x) 15 k ((it (sunplug b) k x) 15 k)
        simp [sunplug, su_id, pif, c2]
      rw [e] at q
      exact q
    · -- 19 f: not ¬ ((it (sunplug b) k x) 15 k) = b
      refine v_iconst C (-1) dX2_unplug_22 (by decide) ?_
      refine v_goto C 32 dX2_unplug_23 (by decide) ?_
      refine vM_s_plugged C k rfl (by omega) dX2_unplug_32 ?_
      refine v_incN C dX2_unplug_33 rfl (by decide) ?_
      refine v_goto C 2 dX2_unplug_36 (by decide) ?_
      have q := ih_k hk trivial
      have e : it (sunplug b) (k + 1) x = su (it (sunplug b) k x) 15 k (-1) := by
        show (sunplug b) k (it (sunplug b) k x) = su (it (sunplug b) k x) 15 k (-1)
        simp [sunplug, su_id, pif, c2]
      rw [e] at q
      exact q
set_option maxHeartbeats 4000000 in
set_option maxRecDepth 100000 in
/-- release(b, d) -/
theorem k_X2_release (l : Launch) (G : va_G) (cy : Nat → ClassId) (am : Nat → Nat) (x : Sg) (n : Nat) (hn : x 1 0 = nI n) (h30 : n ≤ 30) (b d : Int32) : KI l G cy yX2_release wsX2_release 1 21 0 0 [.ref (am 0), .int b, .int d] (wM cy am x) (goF b d x n) (wM cy am (it (srel b d) n x)) := by
  have hin2 : ∀ q ∈ u_ws RX2 TX2 18, q ∈ wsX2_release := by decide +kernel
  refine KI_of (own := RX2) (cc := cX2_release) (maxL := 6) (ret := (some .int)) (lo0 := [some (.ref (am 0)), some (.int b), some (.int d), none, none, none]) (by decide) rfl rfl (by simp [Value.category]) (Nat.le_of_ble_eq_true rfl) rfl (fun p e s m args below meth c A C => ?_)
  refine v_iconst C (-1) dX2_release_0 (by decide) ?_
  refine v_istore_n C dX2_release_1 (by decide) ?_
  refine v_iconst C (0) dX2_release_2 (by decide) ?_
  refine v_istore C dX2_release_3 (by decide) ?_
  refine V.loop (fun k : Nat => wM cy am (it (srel b d) k x)) (fun k : Nat => ([some (.ref (am 0)), some (.int b), some (.int d), some (.int (goF b d x k)), some (.int (nI k)), none] : List (Option Value))) (fun k : Nat => True) n ?_ trivial
  intro k hle_k hP_k ih_k
  try dsimp only at hP_k ih_k ⊢
  have hn_k : it (srel b d) k x 1 0 = nI n := (it_f (fun c y => srel_f b d c y (by decide) (by decide) (by decide)) k _).trans hn
  refine v_iload C dX2_release_5 rfl ?_
  refine v_aload_n C dX2_release_7 rfl ?_
  refine vM_g_runMany C hin2 (by decide +kernel) dX2_release_8 ?_
  refine v_geN C k n 102 dX2_release_11 (by decide) rfl hn_k (by omega) (by omega) (fun c1 => ?_) (fun c1 => ?_)
  · -- loop 5 is over
    have e_k : n = k := by omega
    subst e_k
    refine v_iload_n C dX2_release_102 rfl ?_
    refine v_iret C dX2_release_103 ?_
    rfl
  · have hk : k < n := c1
    refine v_aload_n C dX2_release_14 rfl ?_
    refine vM_g_buses C hin2 (by decide +kernel) dX2_release_15 ?_
    refine v_iload C dX2_release_18 rfl ?_
    refine vM_l_buses C k rfl (by omega) dX2_release_20 ?_
    refine v_iload_n C dX2_release_21 rfl ?_
    refine v_icmp_eq C 36 dX2_release_22 (by decide) (fun c2 => ?_) (fun c2 => ?_)
    · -- 22 t: ((it (srel b d) k x) 10 k) = b
      refine v_iconst C (1) dX2_release_36 (by decide) ?_
      refine v_goto C 41 dX2_release_37 (by decide) ?_
      refine v_istore C dX2_release_41 (by decide) ?_
      refine v_iload C dX2_release_43 rfl ?_
      refine v_if_eq C 64 dX2_release_45 (by decide) (fun z => absurd z (by decide)) (fun z => ?_)
      refine v_aload_n C dX2_release_48 rfl ?_
      refine vM_g_states C hin2 (by decide +kernel) dX2_release_49 ?_
      refine v_iload C dX2_release_52 rfl ?_
      refine vM_l_states C k rfl (by omega) dX2_release_54 ?_
      refine v_iconst C (2) dX2_release_55 (by decide) ?_
      refine v_icmp_ne C 64 dX2_release_56 (by decide) (fun c4 => ?_) (fun c4 => ?_)
      · -- 56 t: ¬ ((it (srel b d) k x) 9 k) = 2
        refine v_iload_n C dX2_release_64 rfl ?_
        refine v_istore_n C dX2_release_65 (by decide) ?_
        refine v_iload C dX2_release_66 rfl ?_
        refine v_if_eq C 96 dX2_release_68 (by decide) (fun z => absurd z (by decide)) (fun z => ?_)
        refine v_aload_n C dX2_release_71 rfl ?_
        refine vM_g_states C hin2 (by decide +kernel) dX2_release_72 ?_
        refine v_iload C dX2_release_75 rfl ?_
        refine vM_l_states C k rfl (by omega) dX2_release_77 ?_
        refine v_iconst C (1) dX2_release_78 (by decide) ?_
        refine v_icmp_ne C 96 dX2_release_79 (by decide) (fun c6 => ?_) (fun c6 => ?_)
        · -- 79 t: ¬ ((it (srel b d) k x) 9 k) = 1
          refine v_incN C dX2_release_96 rfl (by decide) ?_
          refine v_goto C 5 dX2_release_99 (by decide) ?_
          have q := ih_k hk trivial
          have e : it (srel b d) (k + 1) x = it (srel b d) k x := by
            show (srel b d) k (it (srel b d) k x) = it (srel b d) k x
            simp [srel, fdrop, mfree, pif, c2, c4, c6]
          have e2 : goF b d x (k + 1) = goF b d x k := by simp [goF, pif, c2, c4, c6]
          rw [e, e2] at q
          exact V.lof 5 (q)
        · -- 79 f: not ¬ ((it (srel b d) k x) 9 k) = 1
          refine v_aload_n C dX2_release_82 rfl ?_
          refine vM_g_states C hin2 (by decide +kernel) dX2_release_83 ?_
          refine v_iload C dX2_release_86 rfl ?_
          refine v_iconst C (0) dX2_release_88 (by decide) ?_
          refine vM_s_states C k rfl (by omega) dX2_release_89 ?_
          refine v_aload_n C dX2_release_90 rfl ?_
          refine v_iload C dX2_release_91 rfl ?_
          refine vM_cV C (k_X2_free l G cy am (su (it (srel b d) k x) 9 k 0) k (by omega)) rfl gX2_release_X2_free (nA := 1) (by decide +kernel) rfl (by decide) (by decide) rfl rfl (Nat.le_of_ble_eq_true rfl) dX2_release_93 ?_
          refine v_incN C dX2_release_96 rfl (by decide) ?_
          refine v_goto C 5 dX2_release_99 (by decide) ?_
          have q := ih_k hk trivial
          have e : it (srel b d) (k + 1) x = mfree (su (it (srel b d) k x) 9 k 0) k := by
            show (srel b d) k (it (srel b d) k x) = mfree (su (it (srel b d) k x) 9 k 0) k
            simp [srel, fdrop, mfree, pif, c2, c4, c6]
          have e2 : goF b d x (k + 1) = goF b d x k := by simp [goF, pif, c2, c4, c6]
          rw [e, e2] at q
          exact V.lof 5 (q)
      · -- 56 f: not ¬ ((it (srel b d) k x) 9 k) = 2
        refine v_iload C dX2_release_59 rfl ?_
        refine v_goto C 65 dX2_release_61 (by decide) ?_
        refine v_istore_n C dX2_release_65 (by decide) ?_
        refine v_iload C dX2_release_66 rfl ?_
        refine v_if_eq C 96 dX2_release_68 (by decide) (fun z => absurd z (by decide)) (fun z => ?_)
        refine v_aload_n C dX2_release_71 rfl ?_
        refine vM_g_states C hin2 (by decide +kernel) dX2_release_72 ?_
        refine v_iload C dX2_release_75 rfl ?_
        refine vM_l_states C k rfl (by omega) dX2_release_77 ?_
        refine v_iconst C (1) dX2_release_78 (by decide) ?_
        refine v_icmp_ne C 96 dX2_release_79 (by decide) (fun c8 => ?_) (fun c8 => ?_)
        · -- 79 t: ¬ ((it (srel b d) k x) 9 k) = 1
          refine v_incN C dX2_release_96 rfl (by decide) ?_
          refine v_goto C 5 dX2_release_99 (by decide) ?_
          have q := ih_k hk trivial
          have e : it (srel b d) (k + 1) x = it (srel b d) k x := by
            show (srel b d) k (it (srel b d) k x) = it (srel b d) k x
            simp [srel, fdrop, mfree, pif, c2, c4, c8]
          have e2 : goF b d x (k + 1) = nI k := by simp [goF, pif, c2, c4, c8]
          rw [e, e2] at q
          exact V.lof 5 (q)
        · -- 79 f: not ¬ ((it (srel b d) k x) 9 k) = 1
          exact absurd (c4.symm.trans c8) (by decide)
    · -- 22 f: not ((it (srel b d) k x) 10 k) = b
      refine v_aload_n C dX2_release_25 rfl ?_
      refine vM_g_drivers C hin2 (by decide +kernel) dX2_release_26 ?_
      refine v_iload C dX2_release_29 rfl ?_
      refine vM_l_drivers C k rfl (by omega) dX2_release_31 ?_
      refine v_iload_n C dX2_release_32 rfl ?_
      refine v_icmp_ne C 40 dX2_release_33 (by decide) (fun c9 => ?_) (fun c9 => ?_)
      · -- 33 t: ¬ ((it (srel b d) k x) 11 k) = d
        refine v_iconst C (0) dX2_release_40 (by decide) ?_
        refine v_istore C dX2_release_41 (by decide) ?_
        refine v_iload C dX2_release_43 rfl ?_
        refine v_if_eq C 64 dX2_release_45 (by decide) (fun z => ?_) (fun z => absurd z (by decide))
        refine v_iload_n C dX2_release_64 rfl ?_
        refine v_istore_n C dX2_release_65 (by decide) ?_
        refine v_iload C dX2_release_66 rfl ?_
        refine v_if_eq C 96 dX2_release_68 (by decide) (fun z => ?_) (fun z => absurd z (by decide))
        refine v_incN C dX2_release_96 rfl (by decide) ?_
        refine v_goto C 5 dX2_release_99 (by decide) ?_
        have q := ih_k hk trivial
        have e : it (srel b d) (k + 1) x = it (srel b d) k x := by
          show (srel b d) k (it (srel b d) k x) = it (srel b d) k x
          simp [srel, fdrop, mfree, pif, c2, c9]
        have e2 : goF b d x (k + 1) = goF b d x k := by simp [goF, pif, c2, c9]
        rw [e, e2] at q
        exact V.lof 5 (q)
      · -- 33 f: not ¬ ((it (srel b d) k x) 11 k) = d
        refine v_iconst C (1) dX2_release_36 (by decide) ?_
        refine v_goto C 41 dX2_release_37 (by decide) ?_
        refine v_istore C dX2_release_41 (by decide) ?_
        refine v_iload C dX2_release_43 rfl ?_
        refine v_if_eq C 64 dX2_release_45 (by decide) (fun z => absurd z (by decide)) (fun z => ?_)
        refine v_aload_n C dX2_release_48 rfl ?_
        refine vM_g_states C hin2 (by decide +kernel) dX2_release_49 ?_
        refine v_iload C dX2_release_52 rfl ?_
        refine vM_l_states C k rfl (by omega) dX2_release_54 ?_
        refine v_iconst C (2) dX2_release_55 (by decide) ?_
        refine v_icmp_ne C 64 dX2_release_56 (by decide) (fun c13 => ?_) (fun c13 => ?_)
        · -- 56 t: ¬ ((it (srel b d) k x) 9 k) = 2
          refine v_iload_n C dX2_release_64 rfl ?_
          refine v_istore_n C dX2_release_65 (by decide) ?_
          refine v_iload C dX2_release_66 rfl ?_
          refine v_if_eq C 96 dX2_release_68 (by decide) (fun z => absurd z (by decide)) (fun z => ?_)
          refine v_aload_n C dX2_release_71 rfl ?_
          refine vM_g_states C hin2 (by decide +kernel) dX2_release_72 ?_
          refine v_iload C dX2_release_75 rfl ?_
          refine vM_l_states C k rfl (by omega) dX2_release_77 ?_
          refine v_iconst C (1) dX2_release_78 (by decide) ?_
          refine v_icmp_ne C 96 dX2_release_79 (by decide) (fun c15 => ?_) (fun c15 => ?_)
          · -- 79 t: ¬ ((it (srel b d) k x) 9 k) = 1
            refine v_incN C dX2_release_96 rfl (by decide) ?_
            refine v_goto C 5 dX2_release_99 (by decide) ?_
            have q := ih_k hk trivial
            have e : it (srel b d) (k + 1) x = it (srel b d) k x := by
              show (srel b d) k (it (srel b d) k x) = it (srel b d) k x
              simp [srel, fdrop, mfree, pif, c2, c9, c13, c15]
            have e2 : goF b d x (k + 1) = goF b d x k := by simp [goF, pif, c2, c9, c13, c15]
            rw [e, e2] at q
            exact V.lof 5 (q)
          · -- 79 f: not ¬ ((it (srel b d) k x) 9 k) = 1
            refine v_aload_n C dX2_release_82 rfl ?_
            refine vM_g_states C hin2 (by decide +kernel) dX2_release_83 ?_
            refine v_iload C dX2_release_86 rfl ?_
            refine v_iconst C (0) dX2_release_88 (by decide) ?_
            refine vM_s_states C k rfl (by omega) dX2_release_89 ?_
            refine v_aload_n C dX2_release_90 rfl ?_
            refine v_iload C dX2_release_91 rfl ?_
            refine vM_cV C (k_X2_free l G cy am (su (it (srel b d) k x) 9 k 0) k (by omega)) rfl gX2_release_X2_free (nA := 1) (by decide +kernel) rfl (by decide) (by decide) rfl rfl (Nat.le_of_ble_eq_true rfl) dX2_release_93 ?_
            refine v_incN C dX2_release_96 rfl (by decide) ?_
            refine v_goto C 5 dX2_release_99 (by decide) ?_
            have q := ih_k hk trivial
            have e : it (srel b d) (k + 1) x = mfree (su (it (srel b d) k x) 9 k 0) k := by
              show (srel b d) k (it (srel b d) k x) = mfree (su (it (srel b d) k x) 9 k 0) k
              simp [srel, fdrop, mfree, pif, c2, c9, c13, c15]
            have e2 : goF b d x (k + 1) = goF b d x k := by simp [goF, pif, c2, c9, c13, c15]
            rw [e, e2] at q
            exact V.lof 5 (q)
        · -- 56 f: not ¬ ((it (srel b d) k x) 9 k) = 2
          refine v_iload C dX2_release_59 rfl ?_
          refine v_goto C 65 dX2_release_61 (by decide) ?_
          refine v_istore_n C dX2_release_65 (by decide) ?_
          refine v_iload C dX2_release_66 rfl ?_
          refine v_if_eq C 96 dX2_release_68 (by decide) (fun z => absurd z (by decide)) (fun z => ?_)
          refine v_aload_n C dX2_release_71 rfl ?_
          refine vM_g_states C hin2 (by decide +kernel) dX2_release_72 ?_
          refine v_iload C dX2_release_75 rfl ?_
          refine vM_l_states C k rfl (by omega) dX2_release_77 ?_
          refine v_iconst C (1) dX2_release_78 (by decide) ?_
          refine v_icmp_ne C 96 dX2_release_79 (by decide) (fun c17 => ?_) (fun c17 => ?_)
          · -- 79 t: ¬ ((it (srel b d) k x) 9 k) = 1
            refine v_incN C dX2_release_96 rfl (by decide) ?_
            refine v_goto C 5 dX2_release_99 (by decide) ?_
            have q := ih_k hk trivial
            have e : it (srel b d) (k + 1) x = it (srel b d) k x := by
              show (srel b d) k (it (srel b d) k x) = it (srel b d) k x
              simp [srel, fdrop, mfree, pif, c2, c9, c13, c17]
            have e2 : goF b d x (k + 1) = nI k := by simp [goF, pif, c2, c9, c13, c17]
            rw [e, e2] at q
            exact V.lof 5 (q)
          · -- 79 f: not ¬ ((it (srel b d) k x) 9 k) = 1
            exact absurd (c13.symm.trans c17) (by decide)
set_option maxHeartbeats 4000000 in
set_option maxRecDepth 100000 in
/-- beginRuns() -/
theorem k_X2_beginRuns (l : Launch) (G : va_G) (cy : Nat → ClassId) (am : Nat → Nat) (x : Sg) (n : Nat) (hn : x 1 0 = nI n) (h30 : n ≤ 30) (hB : okB n x) : KV l G cy yX2_beginRuns wsX2_beginRuns 2 42 0 0 [.ref (am 0)] (wM cy am x) (wM cy am (it sstart n x)) := by
  have hin2 : ∀ q ∈ u_ws RX2 TX2 18, q ∈ wsX2_beginRuns := by decide +kernel
  refine KV_of (own := RX2) (cc := cX2_beginRuns) (maxL := 2) (ret := none) (lo0 := [some (.ref (am 0)), none]) (by decide) rfl rfl (by simp [Value.category]) (Nat.le_of_ble_eq_true rfl) rfl (fun p e s m args below meth c A _ C => ?_)
  refine v_iconst C (0) dX2_beginRuns_0 (by decide) ?_
  refine v_istore_n C dX2_beginRuns_1 (by decide) ?_
  refine V.loop (fun k : Nat => wM cy am (it (sstart) k x)) (fun k : Nat => ([some (.ref (am 0)), some (.int (nI k))] : List (Option Value))) (fun k : Nat => True) n ?_ trivial
  intro k hle_k hP_k ih_k
  try dsimp only at hP_k ih_k ⊢
  have hn_k : it (sstart) k x 1 0 = nI n := (it_f (fun c y => sstart_f c y (by decide) (by decide) (by decide) (by decide) (by decide)) k _).trans hn
  refine v_iload_n C dX2_beginRuns_2 rfl ?_
  refine v_aload_n C dX2_beginRuns_3 rfl ?_
  refine vM_g_runMany C hin2 (by decide +kernel) dX2_beginRuns_4 ?_
  refine v_geN C k n 106 dX2_beginRuns_7 (by decide) rfl hn_k (by omega) (by omega) (fun c1 => ?_) (fun c1 => ?_)
  · -- loop 2 is over
    have e_k : n = k := by omega
    subst e_k
    exact v_vret C dX2_beginRuns_106
  · have hk : k < n := c1
    refine v_aload_n C dX2_beginRuns_10 rfl ?_
    refine vM_g_starts C hin2 (by decide +kernel) dX2_beginRuns_11 ?_
    refine v_iload_n C dX2_beginRuns_14 rfl ?_
    refine vM_l_starts C k rfl (by omega) dX2_beginRuns_15 ?_
    refine v_aload_n C dX2_beginRuns_16 rfl ?_
    refine vM_g_now C hin2 (by decide +kernel) dX2_beginRuns_17 ?_
    refine v_icmp_ne C 73 dX2_beginRuns_20 (by decide) (fun c2 => ?_) (fun c2 => ?_)
    · -- 20 t: ¬ ((it (sstart) k x) 6 k) = ((it (sstart) k x) 0 0)
      refine v_aload_n C dX2_beginRuns_73 rfl ?_
      refine vM_g_starts C hin2 (by decide +kernel) dX2_beginRuns_74 ?_
      refine v_iload_n C dX2_beginRuns_77 rfl ?_
      refine vM_l_starts C k rfl (by omega) dX2_beginRuns_78 ?_
      refine v_aload_n C dX2_beginRuns_79 rfl ?_
      refine vM_g_now C hin2 (by decide +kernel) dX2_beginRuns_80 ?_
      refine v_icmp_ne C 100 dX2_beginRuns_83 (by decide) (fun z => ?_) (fun z => absurd z c2)
      refine v_incN C dX2_beginRuns_100 rfl (by decide) ?_
      refine v_goto C 2 dX2_beginRuns_103 (by decide) ?_
      have q := ih_k hk trivial
      have e : it (sstart) (k + 1) x = it (sstart) k x := by
        show (sstart) k (it (sstart) k x) = it (sstart) k x
        simp [sstart, fstart, fsend, pif, c2]
      rw [e] at q
      exact q
    · -- 20 f: not ¬ ((it (sstart) k x) 6 k) = ((it (sstart) k x) 0 0)
      refine v_aload_n C dX2_beginRuns_23 rfl ?_
      refine vM_g_states C hin2 (by decide +kernel) dX2_beginRuns_24 ?_
      refine v_iload_n C dX2_beginRuns_27 rfl ?_
      refine vM_l_states C k rfl (by omega) dX2_beginRuns_28 ?_
      refine v_iconst C (1) dX2_beginRuns_29 (by decide) ?_
      refine v_icmp_ne C 73 dX2_beginRuns_30 (by decide) (fun c4 => ?_) (fun c4 => ?_)
      · -- 30 t: ¬ ((it (sstart) k x) 9 k) = 1
        refine v_aload_n C dX2_beginRuns_73 rfl ?_
        refine vM_g_starts C hin2 (by decide +kernel) dX2_beginRuns_74 ?_
        refine v_iload_n C dX2_beginRuns_77 rfl ?_
        refine vM_l_starts C k rfl (by omega) dX2_beginRuns_78 ?_
        refine v_aload_n C dX2_beginRuns_79 rfl ?_
        refine vM_g_now C hin2 (by decide +kernel) dX2_beginRuns_80 ?_
        refine v_icmp_ne C 100 dX2_beginRuns_83 (by decide) (fun z => absurd z (Classical.not_not.mpr c2)) (fun z => ?_)
        refine v_aload_n C dX2_beginRuns_86 rfl ?_
        refine vM_g_states C hin2 (by decide +kernel) dX2_beginRuns_87 ?_
        refine v_iload_n C dX2_beginRuns_90 rfl ?_
        refine vM_l_states C k rfl (by omega) dX2_beginRuns_91 ?_
        refine v_if_ne C 100 dX2_beginRuns_92 (by decide) (fun c6 => ?_) (fun c6 => ?_)
        · -- 92 t: ¬ ((it (sstart) k x) 9 k) = 0
          refine v_incN C dX2_beginRuns_100 rfl (by decide) ?_
          refine v_goto C 2 dX2_beginRuns_103 (by decide) ?_
          have q := ih_k hk trivial
          have e : it (sstart) (k + 1) x = it (sstart) k x := by
            show (sstart) k (it (sstart) k x) = it (sstart) k x
            simp [sstart, fstart, fsend, pif, c2, c4, c6]
          rw [e] at q
          exact q
        · -- 92 f: not ¬ ((it (sstart) k x) 9 k) = 0
          refine v_aload_n C dX2_beginRuns_95 rfl ?_
          refine v_iload_n C dX2_beginRuns_96 rfl ?_
          refine vM_cV C (k_X2_lose l G cy am (it (sstart) k x) k (by omega)) rfl gX2_beginRuns_X2_lose (nA := 1) (by decide +kernel) rfl (by decide) (by decide) rfl rfl (Nat.le_of_ble_eq_true rfl) dX2_beginRuns_97 ?_
          refine v_incN C dX2_beginRuns_100 rfl (by decide) ?_
          refine v_goto C 2 dX2_beginRuns_103 (by decide) ?_
          have q := ih_k hk trivial
          have e : it (sstart) (k + 1) x = fdrop (it (sstart) k x) k 4 := by
            show (sstart) k (it (sstart) k x) = fdrop (it (sstart) k x) k 4
            simp [sstart, fstart, fsend, pif, c2, c4, c6]
          rw [e] at q
          exact q
      · -- 30 f: not ¬ ((it (sstart) k x) 9 k) = 1
        have r9 : it sstart k x 9 k = x 9 k := it_row (fun c y j hj => sstart_r c y hj (by decide) (by decide)) x (Nat.le_refl k)
        have r10 : it sstart k x 10 k = x 10 k := it_row (fun c y j hj => sstart_r c y hj (by decide) (by decide)) x (Nat.le_refl k)
        obtain ⟨b, hb5, hb⟩ := hB k hk (r9.symm.trans c4)
        have hbY : it sstart k x 10 k = nI b := r10.trans hb
        have hbZ : su (it sstart k x) 9 k 2 10 k = nI b := by rw [su_f _ _ _ _ (by decide)]; exact hbY
        have hcb : (nI b).toNatClampNeg = b := nI_clamp (by omega)
        have hb0 : ¬ nI b < 0 := nI_pos (by omega)
        have hb5i : nI b < 5 := (nI_ltI (by omega) (by decide)).mpr hb5
        refine v_aload_n C dX2_beginRuns_33 rfl ?_
        refine vM_g_states C hin2 (by decide +kernel) dX2_beginRuns_34 ?_
        refine v_iload_n C dX2_beginRuns_37 rfl ?_
        refine v_iconst C (2) dX2_beginRuns_38 (by decide) ?_
        refine vM_s_states C k rfl (by omega) dX2_beginRuns_39 ?_
        refine v_aload_n C dX2_beginRuns_40 rfl ?_
        refine vM_g_charges C hin2 (by decide +kernel) dX2_beginRuns_41 ?_
        refine v_aload_n C dX2_beginRuns_44 rfl ?_
        refine vM_g_buses C hin2 (by decide +kernel) dX2_beginRuns_45 ?_
        refine v_iload_n C dX2_beginRuns_48 rfl ?_
        refine vM_l_buses C k rfl (by omega) dX2_beginRuns_49 ?_
        refine v_dup2 C dX2_beginRuns_50 rfl rfl ?_
        refine vM_l_charges C b hbZ (by omega) dX2_beginRuns_51 ?_
        refine v_aload_n C dX2_beginRuns_52 rfl ?_
        refine vM_g_needs C hin2 (by decide +kernel) dX2_beginRuns_53 ?_
        refine v_iload_n C dX2_beginRuns_56 rfl ?_
        refine vM_l_needs C k rfl (by omega) dX2_beginRuns_57 ?_
        refine v_isub C dX2_beginRuns_58 ?_
        refine vM_s_charges C b hbZ (by omega) dX2_beginRuns_59 ?_
        refine v_aload_n C dX2_beginRuns_60 rfl ?_
        refine v_aload_n C dX2_beginRuns_61 rfl ?_
        refine vM_g_buses C hin2 (by decide +kernel) dX2_beginRuns_62 ?_
        refine v_iload_n C dX2_beginRuns_65 rfl ?_
        refine vM_l_buses C k rfl (by omega) dX2_beginRuns_66 ?_
        refine vM_cV C (k_X2_unplug l G cy am (su (su (it (sstart) k x) 9 k 2) 12 b (((su (it (sstart) k x) 9 k 2) 12 b) - ((su (it (sstart) k x) 9 k 2) 8 k))) ((su (su (it (sstart) k x) 9 k 2) 12 b (((su (it (sstart) k x) 9 k 2) 12 b) - ((su (it (sstart) k x) 9 k 2) 8 k))) 10 k)) rfl gX2_beginRuns_X2_unplug (nA := 1) (by decide +kernel) rfl (by decide) (by decide) rfl rfl (Nat.le_of_ble_eq_true rfl) dX2_beginRuns_67 ?_
        refine v_goto C 100 dX2_beginRuns_70 (by decide) ?_
        refine v_incN C dX2_beginRuns_100 rfl (by decide) ?_
        refine v_goto C 2 dX2_beginRuns_103 (by decide) ?_
        have q := ih_k hk trivial
        have e : it (sstart) (k + 1) x = funplug (su (su (it (sstart) k x) 9 k 2) 12 b (((su (it (sstart) k x) 9 k 2) 12 b) - ((su (it (sstart) k x) 9 k 2) 8 k))) ((su (su (it (sstart) k x) 9 k 2) 12 b (((su (it (sstart) k x) 9 k 2) 12 b) - ((su (it (sstart) k x) 9 k 2) 8 k))) 10 k) := by
          show (sstart) k (it (sstart) k x) = funplug (su (su (it (sstart) k x) 9 k 2) 12 b (((su (it (sstart) k x) 9 k 2) 12 b) - ((su (it (sstart) k x) 9 k 2) 8 k))) ((su (su (it (sstart) k x) 9 k 2) 12 b (((su (it (sstart) k x) 9 k 2) 12 b) - ((su (it (sstart) k x) 9 k 2) 8 k))) 10 k)
          simp [sstart, fstart, fsend, pif, c2, c4, hbY, hcb, hb0, hb5i, su_f]
        rw [e] at q
        exact q
