/-! THE LAW: what it reads of its own depot -/
noncomputable def lmax (x : Sg) (k r : Nat) : Int32 := pif (x 6 r < x 6 k) (x 6 k) (x 6 r)
noncomputable def lmin (x : Sg) (k r : Nat) : Int32 := pif (x 7 k < x 7 r) (x 7 k) (x 7 r)
def lmeet (x : Sg) (b r k : Nat) : Prop := ¬ nI k = nI r ∧ x 10 k = nI b ∧ (x 9 k = 1 ∨ x 9 k = 2) ∧ lmax x k r < lmin x k r
noncomputable def gmeet (x : Sg) (b r k : Nat) : Int32 := b2i (lmeet x b r k)
def lbf (n : Nat) (x : Sg) (b r : Nat) : Prop := sumF (gmeet x b r) n = 0 ∧ x 13 b = 0 ∧ ¬ x 12 b < fprom n x (nI b) + x 8 r
noncomputable def gmn (x : Sg) (d day but : Int32) (k : Nat) : Int32 := pif (¬ nI k = but ∧ x 11 k = d ∧ 0 < x 9 k ∧ x 9 k < 4 ∧ x 6 k / 1440 = day) (x 7 k - x 6 k) 0
noncomputable def fmn (n : Nat) (x : Sg) (d day but : Int32) : Int32 := sumF (gmn x d day but) n
def lwk (x : Sg) (d r k : Nat) : Prop := ¬ nI k = nI r ∧ x 11 k = nI d ∧ 0 < x 9 k ∧ x 9 k < 4 ∧ x 6 k / 1440 = x 6 r / 1440
def lnear (x : Sg) (d r k : Nat) : Prop := lwk x d r k ∧ lmax x k r - lmin x k r < 30
noncomputable def gnear (x : Sg) (d r k : Nat) : Int32 := b2i (lnear x d r k)
def ldf (n : Nat) (x : Sg) (d r : Nat) : Prop := sumF (gnear x d r) n = 0 ∧ x 14 d = 0 ∧ ¬ 480 < fmn n x (nI d) (x 6 r / 1440) (nI r) + x 7 r - x 6 r
set_option maxHeartbeats 4000000 in
set_option maxRecDepth 100000 in
/-- leader -/
theorem k_L_leader (l : Launch) (G : va_G) (cy : Nat → ClassId) (al : Nat → Nat) (x : Sg) (wr : va_W) : KI l G cy yL_leader wsL_leader 0 0 0 0 [.ref (al 9)] (wL cy al x wr) (flead x) (wL cy al x wr) := by
  refine KI_of (own := RL) (cc := cL_leader) (maxL := 1) (ret := (some .int)) (lo0 := [some (.ref (al 9))]) (by decide) rfl rfl (by simp [Value.category]) (Nat.le_of_ble_eq_true rfl) rfl (fun p e s m args below meth c A C => ?_)
  refine v_aload_n C dL_leader_0 rfl ?_
  refine v_iconst C (0) dL_leader_1 (by decide) ?_
  refine vL_l_n0 C dL_leader_2 ?_
  refine v_aload_n C dL_leader_3 rfl ?_
  refine v_iconst C (4) dL_leader_4 (by decide) ?_
  refine vL_l_n4 C dL_leader_5 ?_
  refine v_icmp_ge C 17 dL_leader_6 (by decide) (fun c1 => ?_) (fun c1 => ?_)
  · -- 6 t: ¬ (x 0 0) < (x 4 0)
    refine v_iconst C (-1) dL_leader_17 (by decide) ?_
    refine v_iret C dL_leader_18 ?_
    exact (pif_f c1).symm
  · -- 6 f: not ¬ (x 0 0) < (x 4 0)
    refine v_aload_n C dL_leader_9 rfl ?_
    refine v_iconst C (3) dL_leader_10 (by decide) ?_
    refine vL_l_n3 C dL_leader_11 ?_
    refine v_iconst C (1) dL_leader_12 (by decide) ?_
    refine v_isub C dL_leader_13 ?_
    refine v_goto C 18 dL_leader_14 (by decide) ?_
    refine v_iret C dL_leader_18 ?_
    exact (Int32.add_sub_cancel _ _).trans (pif_t c1).symm
set_option maxHeartbeats 4000000 in
set_option maxRecDepth 100000 in
/-- promised -/
theorem k_L_promised (l : Launch) (G : va_G) (cy : Nat → ClassId) (al : Nat → Nat) (x : Sg) (wr : va_W) (n : Nat) (hn : x 1 0 = nI n) (h20 : n ≤ 20) (b : Int32) : KI l G cy yL_promised wsL_promised 0 0 0 0 [.ref (al 9), .ref (al 0), .ref (al 1), .ref (al 2), .int b] (wL cy al x wr) (fprom n x b) (wL cy al x wr) := by
  refine KI_of (own := RL) (cc := cL_promised) (maxL := 7) (ret := (some .int)) (lo0 := [some (.ref (al 9)), some (.ref (al 0)), some (.ref (al 1)), some (.ref (al 2)), some (.int b), none, none]) (by decide) rfl rfl (by simp [Value.category]) (Nat.le_of_ble_eq_true rfl) rfl (fun p e s m args below meth c A C => ?_)
  refine v_iconst C (0) dL_promised_0 (by decide) ?_
  refine v_istore C dL_promised_1 (by decide) ?_
  refine v_iconst C (0) dL_promised_3 (by decide) ?_
  refine v_istore C dL_promised_4 (by decide) ?_
  refine V.loop (fun k : Nat => wL cy al x wr) (fun k : Nat => ([some (.ref (al 9)), some (.ref (al 0)), some (.ref (al 1)), some (.ref (al 2)), some (.int b), some (.int (sumF (gprom x b) k)), some (.int (nI k))] : List (Option Value))) (fun k : Nat => True) n ?_ trivial
  intro k hle_k hP_k ih_k
  try dsimp only at hP_k ih_k ⊢
  refine v_iload C dL_promised_6 rfl ?_
  refine v_aload_n C dL_promised_8 rfl ?_
  refine v_iconst C (1) dL_promised_9 (by decide) ?_
  refine vL_l_n1 C dL_promised_10 ?_
  refine v_geN C k n 56 dL_promised_11 (by decide) rfl hn (by omega) (by omega) (fun c1 => ?_) (fun c1 => ?_)
  · -- loop 6 is over
    have e_k : n = k := by omega
    subst e_k
    refine v_iload C dL_promised_56 rfl ?_
    refine v_iret C dL_promised_58 ?_
    rfl
  · have hk : k < n := c1
    refine v_iload C dL_promised_14 rfl ?_
    refine v_aload_n C dL_promised_16 rfl ?_
    refine v_iload C dL_promised_17 rfl ?_
    refine vL_l_s C k rfl (by omega) dL_promised_19 ?_
    refine v_iconst C (1) dL_promised_20 (by decide) ?_
    refine v_icmp_ne C 46 dL_promised_21 (by decide) (fun c2 => ?_) (fun c2 => ?_)
    · -- 21 t: ¬ (x 9 k) = 1
      refine v_iconst C (0) dL_promised_46 (by decide) ?_
      refine v_iadd C dL_promised_47 ?_
      refine v_istore C dL_promised_48 (by decide) ?_
      refine v_incN C dL_promised_50 rfl (by decide) ?_
      refine v_goto C 6 dL_promised_53 (by decide) ?_
      have q := ih_k hk trivial
      have e : sumF (gprom x b) (k + 1) = (sumF (gprom x b) k) + 0 := by simp [sumF, gprom, pif, c2]
      rw [e] at q
      exact q
    · -- 21 f: not ¬ (x 9 k) = 1
      refine v_aload_n C dL_promised_24 rfl ?_
      refine v_iload C dL_promised_25 rfl ?_
      refine vL_l_w C k rfl (by omega) dL_promised_27 ?_
      refine v_iload C dL_promised_28 rfl ?_
      refine v_iconst C (1) dL_promised_30 (by decide) ?_
      refine v_iadd C dL_promised_31 ?_
      refine v_icmp_ne C 46 dL_promised_32 (by decide) (fun c3 => ?_) (fun c3 => ?_)
      · -- 32 t: ¬ (x 10 k + 1) = (b + 1)
        replace c3 := mt p1_iff.mpr c3
        refine v_iconst C (0) dL_promised_46 (by decide) ?_
        refine v_iadd C dL_promised_47 ?_
        refine v_istore C dL_promised_48 (by decide) ?_
        refine v_incN C dL_promised_50 rfl (by decide) ?_
        refine v_goto C 6 dL_promised_53 (by decide) ?_
        have q := ih_k hk trivial
        have e : sumF (gprom x b) (k + 1) = (sumF (gprom x b) k) + 0 := by simp [sumF, gprom, pif, c2, c3]
        rw [e] at q
        exact q
      · -- 32 f: not ¬ (x 10 k + 1) = (b + 1)
        replace c3 := p1_iff.mp c3
        refine v_aload_n C dL_promised_35 rfl ?_
        refine v_iconst C (3) dL_promised_36 (by decide) ?_
        refine v_iload C dL_promised_37 rfl ?_
        refine v_imul C dL_promised_39 ?_
        refine v_iconst C (2) dL_promised_40 (by decide) ?_
        refine v_iadd C dL_promised_41 ?_
        refine vL_l_r2 C k rfl (by omega) dL_promised_42 ?_
        refine v_goto C 47 dL_promised_43 (by decide) ?_
        refine v_iadd C dL_promised_47 ?_
        refine v_istore C dL_promised_48 (by decide) ?_
        refine v_incN C dL_promised_50 rfl (by decide) ?_
        refine v_goto C 6 dL_promised_53 (by decide) ?_
        have q := ih_k hk trivial
        have e : sumF (gprom x b) (k + 1) = (sumF (gprom x b) k) + (x 8 k) := by simp [sumF, gprom, pif, c2, c3]
        rw [e] at q
        exact q
set_option maxHeartbeats 4000000 in
set_option maxRecDepth 100000 in
/-- fitsBus -/
theorem k_L_fitsBus (l : Launch) (G : va_G) (cy : Nat → ClassId) (al : Nat → Nat) (x : Sg) (wr : va_W) (n : Nat) (hn : x 1 0 = nI n) (h20 : n ≤ 20) (b : Nat) (hb : b < 5) (r : Nat) (hr : r < 20) : KI l G cy yL_fitsBus wsL_fitsBus 1 26 0 0 [.ref (al 9), .ref (al 0), .ref (al 1), .ref (al 2), .ref (al 4), .int (nI b), .int (nI r)] (wL cy al x wr) (b2i (lbf n x b r)) (wL cy al x wr) := by
  refine KI_of (own := RL) (cc := cL_fitsBus) (maxL := 11) (ret := (some .boolean)) (lo0 := [some (.ref (al 9)), some (.ref (al 0)), some (.ref (al 1)), some (.ref (al 2)), some (.ref (al 4)), some (.int (nI b)), some (.int (nI r)), none, none, none, none]) (by decide) rfl rfl (by simp [Value.category]) (Nat.le_of_ble_eq_true rfl) rfl (fun p e s m args below meth c A C => ?_)
  refine v_iconst C (0) dL_fitsBus_0 (by decide) ?_
  refine v_istore C dL_fitsBus_1 (by decide) ?_
  refine v_iconst C (0) dL_fitsBus_3 (by decide) ?_
  refine v_istore C dL_fitsBus_4 (by decide) ?_
  refine V.loop (fun k : Nat => wL cy al x wr) (fun k : Nat => ([some (.ref (al 9)), some (.ref (al 0)), some (.ref (al 1)), some (.ref (al 2)), some (.ref (al 4)), some (.int (nI b)), some (.int (nI r)), some (.int (sumF (gmeet x b r) k)), some (.int (nI k)), none, none] : List (Option Value))) (fun k : Nat => True) n ?_ trivial
  intro k hle_k hP_k ih_k
  try dsimp only at hP_k ih_k ⊢
  refine v_iload C dL_fitsBus_6 rfl ?_
  refine v_aload_n C dL_fitsBus_8 rfl ?_
  refine v_iconst C (1) dL_fitsBus_9 (by decide) ?_
  refine vL_l_n1 C dL_fitsBus_10 ?_
  refine v_geN C k n 143 dL_fitsBus_11 (by decide) rfl hn (by omega) (by omega) (fun c1 => ?_) (fun c1 => ?_)
  · -- loop 6 is over
    have e_k : n = k := by omega
    subst e_k
    refine v_iload C dL_fitsBus_143 rfl ?_
    refine v_if_ne C 192 dL_fitsBus_145 (by decide) (fun c2 => ?_) (fun c2 => ?_)
    · -- 145 t: ¬ (sumF (gmeet x b r) n) = 0
      refine v_iconst C (0) dL_fitsBus_192 (by decide) ?_
      refine v_zret C rfl dL_fitsBus_193 ?_
      exact (b2i_f (fun z => c2 z.1)).symm
    · -- 145 f: not ¬ (sumF (gmeet x b r) n) = 0
      refine v_aload C dL_fitsBus_148 rfl ?_
      refine v_iconst C (2) dL_fitsBus_150 (by decide) ?_
      refine v_iload C dL_fitsBus_151 rfl ?_
      refine v_imul C dL_fitsBus_153 ?_
      refine v_iconst C (1) dL_fitsBus_154 (by decide) ?_
      refine v_iadd C dL_fitsBus_155 ?_
      refine vL_l_b1 C b rfl (by omega) dL_fitsBus_156 ?_
      refine v_if_ne C 192 dL_fitsBus_157 (by decide) (fun c3 => ?_) (fun c3 => ?_)
      · -- 157 t: ¬ (x 13 b) = 0
        refine v_iconst C (0) dL_fitsBus_192 (by decide) ?_
        refine v_zret C rfl dL_fitsBus_193 ?_
        exact (b2i_f (fun z => c3 z.2.1)).symm
      · -- 157 f: not ¬ (x 13 b) = 0
        refine v_aload C dL_fitsBus_160 rfl ?_
        refine v_iconst C (2) dL_fitsBus_162 (by decide) ?_
        refine v_iload C dL_fitsBus_163 rfl ?_
        refine v_imul C dL_fitsBus_165 ?_
        refine vL_l_b0 C b rfl (by omega) dL_fitsBus_166 ?_
        refine v_aload_n C dL_fitsBus_167 rfl ?_
        refine v_aload_n C dL_fitsBus_168 rfl ?_
        refine v_aload_n C dL_fitsBus_169 rfl ?_
        refine v_aload_n C dL_fitsBus_170 rfl ?_
        refine v_iload C dL_fitsBus_171 rfl ?_
        refine v_sI C (k_L_promised l G cy al x wr n hn h20 (nI b)) rfl gL_fitsBus_L_promised (nA := 5) (by decide +kernel) rfl (by decide) (by decide) rfl (Nat.le_of_ble_eq_true rfl) dL_fitsBus_173 ?_
        refine v_aload_n C dL_fitsBus_176 rfl ?_
        refine v_iconst C (3) dL_fitsBus_177 (by decide) ?_
        refine v_iload C dL_fitsBus_178 rfl ?_
        refine v_imul C dL_fitsBus_180 ?_
        refine v_iconst C (2) dL_fitsBus_181 (by decide) ?_
        refine v_iadd C dL_fitsBus_182 ?_
        refine vL_l_r2 C r rfl (by omega) dL_fitsBus_183 ?_
        refine v_iadd C dL_fitsBus_184 ?_
        refine v_icmp_lt C 192 dL_fitsBus_185 (by decide) (fun c4 => ?_) (fun c4 => ?_)
        · -- 185 t: (x 12 b) < ((fprom n x (nI b)) + (x 8 r))
          refine v_iconst C (0) dL_fitsBus_192 (by decide) ?_
          refine v_zret C rfl dL_fitsBus_193 ?_
          exact (b2i_f (fun z => z.2.2 c4)).symm
        · -- 185 f: not (x 12 b) < ((fprom n x (nI b)) + (x 8 r))
          refine v_iconst C (1) dL_fitsBus_188 (by decide) ?_
          refine v_goto C 193 dL_fitsBus_189 (by decide) ?_
          refine v_zret C rfl dL_fitsBus_193 ?_
          exact (b2i_t ⟨c2, c3, c4⟩).symm
  · have hk : k < n := c1
    refine V.join (wL cy al x wr) 44 (fun _ => ([some (.ref (al 9)), some (.ref (al 0)), some (.ref (al 1)), some (.ref (al 2)), some (.ref (al 4)), some (.int (nI b)), some (.int (nI r)), some (.int (sumF (gmeet x b r) k)), some (.int (nI k)), none, none] : List (Option Value))) (fun v => (.int v :: [] : List Value)) (lmax x k r) (fun J1 => ?_) ?_
    · -- up to the join
      refine v_aload_n C dL_fitsBus_14 rfl ?_
      refine v_iconst C (3) dL_fitsBus_15 (by decide) ?_
      refine v_iload C dL_fitsBus_16 rfl ?_
      refine v_imul C dL_fitsBus_18 ?_
      refine vL_l_r0 C k rfl (by omega) dL_fitsBus_19 ?_
      refine v_aload_n C dL_fitsBus_20 rfl ?_
      refine v_iconst C (3) dL_fitsBus_21 (by decide) ?_
      refine v_iload C dL_fitsBus_22 rfl ?_
      refine v_imul C dL_fitsBus_24 ?_
      refine vL_l_r0 C r rfl (by omega) dL_fitsBus_25 ?_
      refine v_icmp_le C 38 dL_fitsBus_26 (by decide) (fun c5 => ?_) (fun c5 => ?_)
      · -- 26 t: ¬ (x 6 r) < (x 6 k)
        refine v_aload_n C dL_fitsBus_38 rfl ?_
        refine v_iconst C (3) dL_fitsBus_39 (by decide) ?_
        refine v_iload C dL_fitsBus_40 rfl ?_
        refine v_imul C dL_fitsBus_42 ?_
        refine vL_l_r0 C r rfl (by omega) dL_fitsBus_43 ?_
        refine J1 _ ?_
        exact (pif_f c5).symm
      · -- 26 f: not ¬ (x 6 r) < (x 6 k)
        refine v_aload_n C dL_fitsBus_29 rfl ?_
        refine v_iconst C (3) dL_fitsBus_30 (by decide) ?_
        refine v_iload C dL_fitsBus_31 rfl ?_
        refine v_imul C dL_fitsBus_33 ?_
        refine vL_l_r0 C k rfl (by omega) dL_fitsBus_34 ?_
        refine v_goto C 44 dL_fitsBus_35 (by decide) ?_
        refine J1 _ ?_
        exact (pif_t c5).symm
    · -- behind the join
      refine v_istore C dL_fitsBus_44 (by decide) ?_
      refine V.join (wL cy al x wr) 84 (fun _ => ([some (.ref (al 9)), some (.ref (al 0)), some (.ref (al 1)), some (.ref (al 2)), some (.ref (al 4)), some (.int (nI b)), some (.int (nI r)), some (.int (sumF (gmeet x b r) k)), some (.int (nI k)), some (.int (lmax x k r)), none] : List (Option Value))) (fun v => (.int v :: [] : List Value)) (lmin x k r) (fun J2 => ?_) ?_
      · -- up to the join
        refine v_aload_n C dL_fitsBus_46 rfl ?_
        refine v_iconst C (3) dL_fitsBus_47 (by decide) ?_
        refine v_iload C dL_fitsBus_48 rfl ?_
        refine v_imul C dL_fitsBus_50 ?_
        refine v_iconst C (1) dL_fitsBus_51 (by decide) ?_
        refine v_iadd C dL_fitsBus_52 ?_
        refine vL_l_r1 C k rfl (by omega) dL_fitsBus_53 ?_
        refine v_aload_n C dL_fitsBus_54 rfl ?_
        refine v_iconst C (3) dL_fitsBus_55 (by decide) ?_
        refine v_iload C dL_fitsBus_56 rfl ?_
        refine v_imul C dL_fitsBus_58 ?_
        refine v_iconst C (1) dL_fitsBus_59 (by decide) ?_
        refine v_iadd C dL_fitsBus_60 ?_
        refine vL_l_r1 C r rfl (by omega) dL_fitsBus_61 ?_
        refine v_icmp_ge C 76 dL_fitsBus_62 (by decide) (fun c6 => ?_) (fun c6 => ?_)
        · -- 62 t: ¬ (x 7 k) < (x 7 r)
          refine v_aload_n C dL_fitsBus_76 rfl ?_
          refine v_iconst C (3) dL_fitsBus_77 (by decide) ?_
          refine v_iload C dL_fitsBus_78 rfl ?_
          refine v_imul C dL_fitsBus_80 ?_
          refine v_iconst C (1) dL_fitsBus_81 (by decide) ?_
          refine v_iadd C dL_fitsBus_82 ?_
          refine vL_l_r1 C r rfl (by omega) dL_fitsBus_83 ?_
          refine J2 _ ?_
          exact (pif_f c6).symm
        · -- 62 f: not ¬ (x 7 k) < (x 7 r)
          refine v_aload_n C dL_fitsBus_65 rfl ?_
          refine v_iconst C (3) dL_fitsBus_66 (by decide) ?_
          refine v_iload C dL_fitsBus_67 rfl ?_
          refine v_imul C dL_fitsBus_69 ?_
          refine v_iconst C (1) dL_fitsBus_70 (by decide) ?_
          refine v_iadd C dL_fitsBus_71 ?_
          refine vL_l_r1 C k rfl (by omega) dL_fitsBus_72 ?_
          refine v_goto C 84 dL_fitsBus_73 (by decide) ?_
          refine J2 _ ?_
          exact (pif_t c6).symm
      · -- behind the join
        refine v_istore C dL_fitsBus_84 (by decide) ?_
        refine v_iload C dL_fitsBus_86 rfl ?_
        refine V.join (wL cy al x wr) 134 (fun _ => ([some (.ref (al 9)), some (.ref (al 0)), some (.ref (al 1)), some (.ref (al 2)), some (.ref (al 4)), some (.int (nI b)), some (.int (nI r)), some (.int (sumF (gmeet x b r) k)), some (.int (nI k)), some (.int (lmax x k r)), some (.int (lmin x k r))] : List (Option Value))) (fun v => (.int v :: [.int (sumF (gmeet x b r) k)] : List Value)) (b2i (lmeet x b r k)) (fun J3 => ?_) ?_
        · -- up to the join
          refine v_iload C dL_fitsBus_88 rfl ?_
          refine v_iload C dL_fitsBus_90 rfl ?_
          refine v_icmp_eq C 133 dL_fitsBus_92 (by decide) (fun c7 => ?_) (fun c7 => ?_)
          · -- 92 t: (nI k) = (nI r)
            refine v_iconst C (0) dL_fitsBus_133 (by decide) ?_
            refine J3 _ ?_
            exact (b2i_f (by simp [lmeet, c7])).symm
          · -- 92 f: not (nI k) = (nI r)
            refine v_aload_n C dL_fitsBus_95 rfl ?_
            refine v_iload C dL_fitsBus_96 rfl ?_
            refine vL_l_w C k rfl (by omega) dL_fitsBus_98 ?_
            refine v_iload C dL_fitsBus_99 rfl ?_
            refine v_iconst C (1) dL_fitsBus_101 (by decide) ?_
            refine v_iadd C dL_fitsBus_102 ?_
            refine v_icmp_ne C 133 dL_fitsBus_103 (by decide) (fun c8 => ?_) (fun c8 => ?_)
            · -- 103 t: ¬ (x 10 k + 1) = ((nI b) + 1)
              replace c8 := mt p1_iff.mpr c8
              refine v_iconst C (0) dL_fitsBus_133 (by decide) ?_
              refine J3 _ ?_
              exact (b2i_f (by simp [lmeet, c7, c8])).symm
            · -- 103 f: not ¬ (x 10 k + 1) = ((nI b) + 1)
              replace c8 := p1_iff.mp c8
              refine v_aload_n C dL_fitsBus_106 rfl ?_
              refine v_iload C dL_fitsBus_107 rfl ?_
              refine vL_l_s C k rfl (by omega) dL_fitsBus_109 ?_
              refine v_iconst C (1) dL_fitsBus_110 (by decide) ?_
              refine v_icmp_eq C 122 dL_fitsBus_111 (by decide) (fun c9 => ?_) (fun c9 => ?_)
              · -- 111 t: (x 9 k) = 1
                refine v_iload C dL_fitsBus_122 rfl ?_
                refine v_iload C dL_fitsBus_124 rfl ?_
                refine v_icmp_ge C 133 dL_fitsBus_126 (by decide) (fun c10 => ?_) (fun c10 => ?_)
                · -- 126 t: ¬ (lmax x k r) < (lmin x k r)
                  refine v_iconst C (0) dL_fitsBus_133 (by decide) ?_
                  refine J3 _ ?_
                  exact (b2i_f (by simp [lmeet, c7, c8, c9, c10])).symm
                · -- 126 f: not ¬ (lmax x k r) < (lmin x k r)
                  refine v_iconst C (1) dL_fitsBus_129 (by decide) ?_
                  refine v_goto C 134 dL_fitsBus_130 (by decide) ?_
                  refine J3 _ ?_
                  exact (b2i_t (by simp [lmeet, c7, c8, c9, c10])).symm
              · -- 111 f: not (x 9 k) = 1
                refine v_aload_n C dL_fitsBus_114 rfl ?_
                refine v_iload C dL_fitsBus_115 rfl ?_
                refine vL_l_s C k rfl (by omega) dL_fitsBus_117 ?_
                refine v_iconst C (2) dL_fitsBus_118 (by decide) ?_
                refine v_icmp_ne C 133 dL_fitsBus_119 (by decide) (fun c11 => ?_) (fun c11 => ?_)
                · -- 119 t: ¬ (x 9 k) = 2
                  refine v_iconst C (0) dL_fitsBus_133 (by decide) ?_
                  refine J3 _ ?_
                  exact (b2i_f (by simp [lmeet, c7, c8, c9, c11])).symm
                · -- 119 f: not ¬ (x 9 k) = 2
                  refine v_iload C dL_fitsBus_122 rfl ?_
                  refine v_iload C dL_fitsBus_124 rfl ?_
                  refine v_icmp_ge C 133 dL_fitsBus_126 (by decide) (fun c12 => ?_) (fun c12 => ?_)
                  · -- 126 t: ¬ (lmax x k r) < (lmin x k r)
                    refine v_iconst C (0) dL_fitsBus_133 (by decide) ?_
                    refine J3 _ ?_
                    exact (b2i_f (by simp [lmeet, c7, c8, c9, c11, c12])).symm
                  · -- 126 f: not ¬ (lmax x k r) < (lmin x k r)
                    refine v_iconst C (1) dL_fitsBus_129 (by decide) ?_
                    refine v_goto C 134 dL_fitsBus_130 (by decide) ?_
                    refine J3 _ ?_
                    exact (b2i_t (by simp [lmeet, c7, c8, c9, c11, c12])).symm
        · -- behind the join
          refine v_iadd C dL_fitsBus_134 ?_
          refine v_istore C dL_fitsBus_135 (by decide) ?_
          refine v_incN C dL_fitsBus_137 rfl (by decide) ?_
          refine v_goto C 6 dL_fitsBus_140 (by decide) ?_
          exact (V.lof 9 (V.lof 10 (ih_k hk trivial)))
set_option maxHeartbeats 4000000 in
set_option maxRecDepth 100000 in
/-- minutes -/
theorem k_L_minutes (l : Launch) (G : va_G) (cy : Nat → ClassId) (al : Nat → Nat) (x : Sg) (wr : va_W) (n : Nat) (hn : x 1 0 = nI n) (h20 : n ≤ 20) (d day but : Int32) : KI l G cy yL_minutes wsL_minutes 0 0 0 0 [.ref (al 9), .ref (al 0), .ref (al 1), .ref (al 3), .int d, .int day, .int but] (wL cy al x wr) (fmn n x d day but) (wL cy al x wr) := by
  refine KI_of (own := RL) (cc := cL_minutes) (maxL := 10) (ret := (some .int)) (lo0 := [some (.ref (al 9)), some (.ref (al 0)), some (.ref (al 1)), some (.ref (al 3)), some (.int d), some (.int day), some (.int but), none, none, none]) (by decide) rfl rfl (by simp [Value.category]) (Nat.le_of_ble_eq_true rfl) rfl (fun p e s m args below meth c A C => ?_)
  refine v_iconst C (0) dL_minutes_0 (by decide) ?_
  refine v_istore C dL_minutes_1 (by decide) ?_
  refine v_iconst C (0) dL_minutes_3 (by decide) ?_
  refine v_istore C dL_minutes_4 (by decide) ?_
  refine V.loop (fun k : Nat => wL cy al x wr) (fun k : Nat => ([some (.ref (al 9)), some (.ref (al 0)), some (.ref (al 1)), some (.ref (al 3)), some (.int d), some (.int day), some (.int but), some (.int (sumF (gmn x d day but) k)), some (.int (nI k)), none] : List (Option Value))) (fun k : Nat => True) n ?_ trivial
  intro k hle_k hP_k ih_k
  try dsimp only at hP_k ih_k ⊢
  refine v_iload C dL_minutes_6 rfl ?_
  refine v_aload_n C dL_minutes_8 rfl ?_
  refine v_iconst C (1) dL_minutes_9 (by decide) ?_
  refine vL_l_n1 C dL_minutes_10 ?_
  refine v_geN C k n 104 dL_minutes_11 (by decide) rfl hn (by omega) (by omega) (fun c1 => ?_) (fun c1 => ?_)
  · -- loop 6 is over
    have e_k : n = k := by omega
    subst e_k
    refine v_iload C dL_minutes_104 rfl ?_
    refine v_iret C dL_minutes_106 ?_
    rfl
  · have hk : k < n := c1
    refine v_iload C dL_minutes_14 rfl ?_
    refine v_iload C dL_minutes_16 rfl ?_
    refine v_icmp_eq C 66 dL_minutes_18 (by decide) (fun c2 => ?_) (fun c2 => ?_)
    · -- 18 t: (nI k) = but
      refine v_iconst C (0) dL_minutes_66 (by decide) ?_
      refine v_istore C dL_minutes_67 (by decide) ?_
      refine v_iload C dL_minutes_69 rfl ?_
      refine v_iload C dL_minutes_71 rfl ?_
      refine v_if_eq C 94 dL_minutes_73 (by decide) (fun z => ?_) (fun z => absurd z (by decide))
      refine v_iconst C (0) dL_minutes_94 (by decide) ?_
      refine v_iadd C dL_minutes_95 ?_
      refine v_istore C dL_minutes_96 (by decide) ?_
      refine v_incN C dL_minutes_98 rfl (by decide) ?_
      refine v_goto C 6 dL_minutes_101 (by decide) ?_
      have q := ih_k hk trivial
      have e : sumF (gmn x d day but) (k + 1) = (sumF (gmn x d day but) k) + 0 := by simp [sumF, gmn, pif, c2]
      rw [e] at q
      exact (V.lof 9 q)
    · -- 18 f: not (nI k) = but
      refine v_aload_n C dL_minutes_21 rfl ?_
      refine v_iload C dL_minutes_22 rfl ?_
      refine vL_l_d C k rfl (by omega) dL_minutes_24 ?_
      refine v_iload C dL_minutes_25 rfl ?_
      refine v_iconst C (1) dL_minutes_27 (by decide) ?_
      refine v_iadd C dL_minutes_28 ?_
      refine v_icmp_ne C 66 dL_minutes_29 (by decide) (fun c4 => ?_) (fun c4 => ?_)
      · -- 29 t: ¬ (x 11 k + 1) = (d + 1)
        replace c4 := mt p1_iff.mpr c4
        refine v_iconst C (0) dL_minutes_66 (by decide) ?_
        refine v_istore C dL_minutes_67 (by decide) ?_
        refine v_iload C dL_minutes_69 rfl ?_
        refine v_iload C dL_minutes_71 rfl ?_
        refine v_if_eq C 94 dL_minutes_73 (by decide) (fun z => ?_) (fun z => absurd z (by decide))
        refine v_iconst C (0) dL_minutes_94 (by decide) ?_
        refine v_iadd C dL_minutes_95 ?_
        refine v_istore C dL_minutes_96 (by decide) ?_
        refine v_incN C dL_minutes_98 rfl (by decide) ?_
        refine v_goto C 6 dL_minutes_101 (by decide) ?_
        have q := ih_k hk trivial
        have e : sumF (gmn x d day but) (k + 1) = (sumF (gmn x d day but) k) + 0 := by simp [sumF, gmn, pif, c2, c4]
        rw [e] at q
        exact (V.lof 9 q)
      · -- 29 f: not ¬ (x 11 k + 1) = (d + 1)
        replace c4 := p1_iff.mp c4
        refine v_aload_n C dL_minutes_32 rfl ?_
        refine v_iload C dL_minutes_33 rfl ?_
        refine vL_l_s C k rfl (by omega) dL_minutes_35 ?_
        refine v_if_le C 66 dL_minutes_36 (by decide) (fun c6 => ?_) (fun c6 => ?_)
        · -- 36 t: ¬ 0 < (x 9 k)
          refine v_iconst C (0) dL_minutes_66 (by decide) ?_
          refine v_istore C dL_minutes_67 (by decide) ?_
          refine v_iload C dL_minutes_69 rfl ?_
          refine v_iload C dL_minutes_71 rfl ?_
          refine v_if_eq C 94 dL_minutes_73 (by decide) (fun z => ?_) (fun z => absurd z (by decide))
          refine v_iconst C (0) dL_minutes_94 (by decide) ?_
          refine v_iadd C dL_minutes_95 ?_
          refine v_istore C dL_minutes_96 (by decide) ?_
          refine v_incN C dL_minutes_98 rfl (by decide) ?_
          refine v_goto C 6 dL_minutes_101 (by decide) ?_
          have q := ih_k hk trivial
          have e : sumF (gmn x d day but) (k + 1) = (sumF (gmn x d day but) k) + 0 := by simp [sumF, gmn, pif, c2, c4, c6]
          rw [e] at q
          exact (V.lof 9 q)
        · -- 36 f: not ¬ 0 < (x 9 k)
          refine v_aload_n C dL_minutes_39 rfl ?_
          refine v_iload C dL_minutes_40 rfl ?_
          refine vL_l_s C k rfl (by omega) dL_minutes_42 ?_
          refine v_iconst C (4) dL_minutes_43 (by decide) ?_
          refine v_icmp_ge C 66 dL_minutes_44 (by decide) (fun c8 => ?_) (fun c8 => ?_)
          · -- 44 t: ¬ (x 9 k) < 4
            refine v_iconst C (0) dL_minutes_66 (by decide) ?_
            refine v_istore C dL_minutes_67 (by decide) ?_
            refine v_iload C dL_minutes_69 rfl ?_
            refine v_iload C dL_minutes_71 rfl ?_
            refine v_if_eq C 94 dL_minutes_73 (by decide) (fun z => ?_) (fun z => absurd z (by decide))
            refine v_iconst C (0) dL_minutes_94 (by decide) ?_
            refine v_iadd C dL_minutes_95 ?_
            refine v_istore C dL_minutes_96 (by decide) ?_
            refine v_incN C dL_minutes_98 rfl (by decide) ?_
            refine v_goto C 6 dL_minutes_101 (by decide) ?_
            have q := ih_k hk trivial
            have e : sumF (gmn x d day but) (k + 1) = (sumF (gmn x d day but) k) + 0 := by simp [sumF, gmn, pif, c2, c4, c6, c8]
            rw [e] at q
            exact (V.lof 9 q)
          · -- 44 f: not ¬ (x 9 k) < 4
            refine v_aload_n C dL_minutes_47 rfl ?_
            refine v_iconst C (3) dL_minutes_48 (by decide) ?_
            refine v_iload C dL_minutes_49 rfl ?_
            refine v_imul C dL_minutes_51 ?_
            refine vL_l_r0 C k rfl (by omega) dL_minutes_52 ?_
            refine v_sipush C (1440) dL_minutes_53 (by decide) ?_
            refine v_idiv C dL_minutes_56 (by decide) ?_
            refine v_iload C dL_minutes_57 rfl ?_
            refine v_icmp_ne C 66 dL_minutes_59 (by decide) (fun c10 => ?_) (fun c10 => ?_)
            · -- 59 t: ¬ ((x 6 k) / 1440) = day
              refine v_iconst C (0) dL_minutes_66 (by decide) ?_
              refine v_istore C dL_minutes_67 (by decide) ?_
              refine v_iload C dL_minutes_69 rfl ?_
              refine v_iload C dL_minutes_71 rfl ?_
              refine v_if_eq C 94 dL_minutes_73 (by decide) (fun z => ?_) (fun z => absurd z (by decide))
              refine v_iconst C (0) dL_minutes_94 (by decide) ?_
              refine v_iadd C dL_minutes_95 ?_
              refine v_istore C dL_minutes_96 (by decide) ?_
              refine v_incN C dL_minutes_98 rfl (by decide) ?_
              refine v_goto C 6 dL_minutes_101 (by decide) ?_
              have q := ih_k hk trivial
              have e : sumF (gmn x d day but) (k + 1) = (sumF (gmn x d day but) k) + 0 := by simp [sumF, gmn, pif, c2, c4, c6, c8, c10]
              rw [e] at q
              exact (V.lof 9 q)
            · -- 59 f: not ¬ ((x 6 k) / 1440) = day
              refine v_iconst C (1) dL_minutes_62 (by decide) ?_
              refine v_goto C 67 dL_minutes_63 (by decide) ?_
              refine v_istore C dL_minutes_67 (by decide) ?_
              refine v_iload C dL_minutes_69 rfl ?_
              refine v_iload C dL_minutes_71 rfl ?_
              refine v_if_eq C 94 dL_minutes_73 (by decide) (fun z => absurd z (by decide)) (fun z => ?_)
              refine v_aload_n C dL_minutes_76 rfl ?_
              refine v_iconst C (3) dL_minutes_77 (by decide) ?_
              refine v_iload C dL_minutes_78 rfl ?_
              refine v_imul C dL_minutes_80 ?_
              refine v_iconst C (1) dL_minutes_81 (by decide) ?_
              refine v_iadd C dL_minutes_82 ?_
              refine vL_l_r1 C k rfl (by omega) dL_minutes_83 ?_
              refine v_aload_n C dL_minutes_84 rfl ?_
              refine v_iconst C (3) dL_minutes_85 (by decide) ?_
              refine v_iload C dL_minutes_86 rfl ?_
              refine v_imul C dL_minutes_88 ?_
              refine vL_l_r0 C k rfl (by omega) dL_minutes_89 ?_
              refine v_isub C dL_minutes_90 ?_
              refine v_goto C 95 dL_minutes_91 (by decide) ?_
              refine v_iadd C dL_minutes_95 ?_
              refine v_istore C dL_minutes_96 (by decide) ?_
              refine v_incN C dL_minutes_98 rfl (by decide) ?_
              refine v_goto C 6 dL_minutes_101 (by decide) ?_
              have q := ih_k hk trivial
              have e : sumF (gmn x d day but) (k + 1) = (sumF (gmn x d day but) k) + ((x 7 k) - (x 6 k)) := by simp [sumF, gmn, pif, c2, c4, c6, c8, c10]
              rw [e] at q
              exact (V.lof 9 q)
set_option maxHeartbeats 4000000 in
set_option maxRecDepth 100000 in
/-- fitsDriver -/
theorem k_L_fitsDriver (l : Launch) (G : va_G) (cy : Nat → ClassId) (al : Nat → Nat) (x : Sg) (wr : va_W) (n : Nat) (hn : x 1 0 = nI n) (h20 : n ≤ 20) (d : Nat) (hd5 : d < 5) (r : Nat) (hr : r < 20) : KI l G cy yL_fitsDriver wsL_fitsDriver 1 29 0 0 [.ref (al 9), .ref (al 0), .ref (al 1), .ref (al 3), .ref (al 5), .int (nI d), .int (nI r)] (wL cy al x wr) (b2i (ldf n x d r)) (wL cy al x wr) := by
  refine KI_of (own := RL) (cc := cL_fitsDriver) (maxL := 12) (ret := (some .boolean)) (lo0 := [some (.ref (al 9)), some (.ref (al 0)), some (.ref (al 1)), some (.ref (al 3)), some (.ref (al 5)), some (.int (nI d)), some (.int (nI r)), none, none, none, none, none]) (by decide) rfl rfl (by simp [Value.category]) (Nat.le_of_ble_eq_true rfl) rfl (fun p e s m args below meth c A C => ?_)
  refine v_iconst C (0) dL_fitsDriver_0 (by decide) ?_
  refine v_istore C dL_fitsDriver_1 (by decide) ?_
  refine v_iconst C (0) dL_fitsDriver_3 (by decide) ?_
  refine v_istore C dL_fitsDriver_4 (by decide) ?_
  refine V.loop (fun k : Nat => wL cy al x wr) (fun k : Nat => ([some (.ref (al 9)), some (.ref (al 0)), some (.ref (al 1)), some (.ref (al 3)), some (.ref (al 5)), some (.int (nI d)), some (.int (nI r)), some (.int (sumF (gnear x d r) k)), some (.int (nI k)), none, none, none] : List (Option Value))) (fun k : Nat => True) n ?_ trivial
  intro k hle_k hP_k ih_k
  try dsimp only at hP_k ih_k ⊢
  refine v_iload C dL_fitsDriver_6 rfl ?_
  refine v_aload_n C dL_fitsDriver_8 rfl ?_
  refine v_iconst C (1) dL_fitsDriver_9 (by decide) ?_
  refine vL_l_n1 C dL_fitsDriver_10 ?_
  refine v_geN C k n 180 dL_fitsDriver_11 (by decide) rfl hn (by omega) (by omega) (fun c1 => ?_) (fun c1 => ?_)
  · -- loop 6 is over
    have e_k : n = k := by omega
    subst e_k
    refine v_iload C dL_fitsDriver_180 rfl ?_
    refine v_if_ne C 240 dL_fitsDriver_182 (by decide) (fun c2 => ?_) (fun c2 => ?_)
    · -- 182 t: ¬ (sumF (gnear x d r) n) = 0
      refine v_iconst C (0) dL_fitsDriver_240 (by decide) ?_
      refine v_zret C rfl dL_fitsDriver_241 ?_
      exact (b2i_f (fun z => c2 z.1)).symm
    · -- 182 f: not ¬ (sumF (gnear x d r) n) = 0
      refine v_aload C dL_fitsDriver_185 rfl ?_
      refine v_iload C dL_fitsDriver_187 rfl ?_
      refine vL_l_i C d rfl (by omega) dL_fitsDriver_189 ?_
      refine v_if_ne C 240 dL_fitsDriver_190 (by decide) (fun c3 => ?_) (fun c3 => ?_)
      · -- 190 t: ¬ (x 14 d) = 0
        refine v_iconst C (0) dL_fitsDriver_240 (by decide) ?_
        refine v_zret C rfl dL_fitsDriver_241 ?_
        exact (b2i_f (fun z => c3 z.2.1)).symm
      · -- 190 f: not ¬ (x 14 d) = 0
        refine v_aload_n C dL_fitsDriver_193 rfl ?_
        refine v_aload_n C dL_fitsDriver_194 rfl ?_
        refine v_aload_n C dL_fitsDriver_195 rfl ?_
        refine v_aload_n C dL_fitsDriver_196 rfl ?_
        refine v_iload C dL_fitsDriver_197 rfl ?_
        refine v_aload_n C dL_fitsDriver_199 rfl ?_
        refine v_iconst C (3) dL_fitsDriver_200 (by decide) ?_
        refine v_iload C dL_fitsDriver_201 rfl ?_
        refine v_imul C dL_fitsDriver_203 ?_
        refine vL_l_r0 C r rfl (by omega) dL_fitsDriver_204 ?_
        refine v_sipush C (1440) dL_fitsDriver_205 (by decide) ?_
        refine v_idiv C dL_fitsDriver_208 (by decide) ?_
        refine v_iload C dL_fitsDriver_209 rfl ?_
        refine v_sI C (k_L_minutes l G cy al x wr n hn h20 (nI d) ((x 6 r) / 1440) (nI r)) rfl gL_fitsDriver_L_minutes (nA := 7) (by decide +kernel) rfl (by decide) (by decide) rfl (Nat.le_of_ble_eq_true rfl) dL_fitsDriver_211 ?_
        refine v_aload_n C dL_fitsDriver_214 rfl ?_
        refine v_iconst C (3) dL_fitsDriver_215 (by decide) ?_
        refine v_iload C dL_fitsDriver_216 rfl ?_
        refine v_imul C dL_fitsDriver_218 ?_
        refine v_iconst C (1) dL_fitsDriver_219 (by decide) ?_
        refine v_iadd C dL_fitsDriver_220 ?_
        refine vL_l_r1 C r rfl (by omega) dL_fitsDriver_221 ?_
        refine v_iadd C dL_fitsDriver_222 ?_
        refine v_aload_n C dL_fitsDriver_223 rfl ?_
        refine v_iconst C (3) dL_fitsDriver_224 (by decide) ?_
        refine v_iload C dL_fitsDriver_225 rfl ?_
        refine v_imul C dL_fitsDriver_227 ?_
        refine vL_l_r0 C r rfl (by omega) dL_fitsDriver_228 ?_
        refine v_isub C dL_fitsDriver_229 ?_
        refine v_sipush C (480) dL_fitsDriver_230 (by decide) ?_
        refine v_icmp_gt C 240 dL_fitsDriver_233 (by decide) (fun c4 => ?_) (fun c4 => ?_)
        · -- 233 t: 480 < (((fmn n x (nI d) ((x 6 r) / 1440) (nI r)) + (x 7 r)) - (x 6 r))
          refine v_iconst C (0) dL_fitsDriver_240 (by decide) ?_
          refine v_zret C rfl dL_fitsDriver_241 ?_
          exact (b2i_f (fun z => z.2.2 c4)).symm
        · -- 233 f: not 480 < (((fmn n x (nI d) ((x 6 r) / 1440) (nI r)) + (x 7 r)) - (x 6 r))
          refine v_iconst C (1) dL_fitsDriver_236 (by decide) ?_
          refine v_goto C 241 dL_fitsDriver_237 (by decide) ?_
          refine v_zret C rfl dL_fitsDriver_241 ?_
          exact (b2i_t ⟨c2, c3, c4⟩).symm
  · have hk : k < n := c1
    refine V.join (wL cy al x wr) 75 (fun _ => ([some (.ref (al 9)), some (.ref (al 0)), some (.ref (al 1)), some (.ref (al 3)), some (.ref (al 5)), some (.int (nI d)), some (.int (nI r)), some (.int (sumF (gnear x d r) k)), some (.int (nI k)), none, none, none] : List (Option Value))) (fun v => (.int v :: [] : List Value)) (b2i (lwk x d r k)) (fun J1 => ?_) ?_
    · -- up to the join
      refine v_iload C dL_fitsDriver_14 rfl ?_
      refine v_iload C dL_fitsDriver_16 rfl ?_
      refine v_icmp_eq C 74 dL_fitsDriver_18 (by decide) (fun c5 => ?_) (fun c5 => ?_)
      · -- 18 t: (nI k) = (nI r)
        refine v_iconst C (0) dL_fitsDriver_74 (by decide) ?_
        refine J1 _ ?_
        exact (b2i_f (by simp [lwk, c5])).symm
      · -- 18 f: not (nI k) = (nI r)
        refine v_aload_n C dL_fitsDriver_21 rfl ?_
        refine v_iload C dL_fitsDriver_22 rfl ?_
        refine vL_l_d C k rfl (by omega) dL_fitsDriver_24 ?_
        refine v_iload C dL_fitsDriver_25 rfl ?_
        refine v_iconst C (1) dL_fitsDriver_27 (by decide) ?_
        refine v_iadd C dL_fitsDriver_28 ?_
        refine v_icmp_ne C 74 dL_fitsDriver_29 (by decide) (fun c6 => ?_) (fun c6 => ?_)
        · -- 29 t: ¬ (x 11 k + 1) = ((nI d) + 1)
          replace c6 := mt p1_iff.mpr c6
          refine v_iconst C (0) dL_fitsDriver_74 (by decide) ?_
          refine J1 _ ?_
          exact (b2i_f (by simp [lwk, c5, c6])).symm
        · -- 29 f: not ¬ (x 11 k + 1) = ((nI d) + 1)
          replace c6 := p1_iff.mp c6
          refine v_aload_n C dL_fitsDriver_32 rfl ?_
          refine v_iload C dL_fitsDriver_33 rfl ?_
          refine vL_l_s C k rfl (by omega) dL_fitsDriver_35 ?_
          refine v_if_le C 74 dL_fitsDriver_36 (by decide) (fun c7 => ?_) (fun c7 => ?_)
          · -- 36 t: ¬ 0 < (x 9 k)
            refine v_iconst C (0) dL_fitsDriver_74 (by decide) ?_
            refine J1 _ ?_
            exact (b2i_f (by simp [lwk, c5, c6, c7])).symm
          · -- 36 f: not ¬ 0 < (x 9 k)
            refine v_aload_n C dL_fitsDriver_39 rfl ?_
            refine v_iload C dL_fitsDriver_40 rfl ?_
            refine vL_l_s C k rfl (by omega) dL_fitsDriver_42 ?_
            refine v_iconst C (4) dL_fitsDriver_43 (by decide) ?_
            refine v_icmp_ge C 74 dL_fitsDriver_44 (by decide) (fun c8 => ?_) (fun c8 => ?_)
            · -- 44 t: ¬ (x 9 k) < 4
              refine v_iconst C (0) dL_fitsDriver_74 (by decide) ?_
              refine J1 _ ?_
              exact (b2i_f (by simp [lwk, c5, c6, c7, c8])).symm
            · -- 44 f: not ¬ (x 9 k) < 4
              refine v_aload_n C dL_fitsDriver_47 rfl ?_
              refine v_iconst C (3) dL_fitsDriver_48 (by decide) ?_
              refine v_iload C dL_fitsDriver_49 rfl ?_
              refine v_imul C dL_fitsDriver_51 ?_
              refine vL_l_r0 C k rfl (by omega) dL_fitsDriver_52 ?_
              refine v_sipush C (1440) dL_fitsDriver_53 (by decide) ?_
              refine v_idiv C dL_fitsDriver_56 (by decide) ?_
              refine v_aload_n C dL_fitsDriver_57 rfl ?_
              refine v_iconst C (3) dL_fitsDriver_58 (by decide) ?_
              refine v_iload C dL_fitsDriver_59 rfl ?_
              refine v_imul C dL_fitsDriver_61 ?_
              refine vL_l_r0 C r rfl (by omega) dL_fitsDriver_62 ?_
              refine v_sipush C (1440) dL_fitsDriver_63 (by decide) ?_
              refine v_idiv C dL_fitsDriver_66 (by decide) ?_
              refine v_icmp_ne C 74 dL_fitsDriver_67 (by decide) (fun c9 => ?_) (fun c9 => ?_)
              · -- 67 t: ¬ ((x 6 k) / 1440) = ((x 6 r) / 1440)
                refine v_iconst C (0) dL_fitsDriver_74 (by decide) ?_
                refine J1 _ ?_
                exact (b2i_f (by simp [lwk, c5, c6, c7, c8, c9])).symm
              · -- 67 f: not ¬ ((x 6 k) / 1440) = ((x 6 r) / 1440)
                refine v_iconst C (1) dL_fitsDriver_70 (by decide) ?_
                refine v_goto C 75 dL_fitsDriver_71 (by decide) ?_
                refine J1 _ ?_
                exact (b2i_t (by simp [lwk, c5, c6, c7, c8, c9])).symm
    · -- behind the join
      refine v_istore C dL_fitsDriver_75 (by decide) ?_
      refine V.join (wL cy al x wr) 107 (fun _ => ([some (.ref (al 9)), some (.ref (al 0)), some (.ref (al 1)), some (.ref (al 3)), some (.ref (al 5)), some (.int (nI d)), some (.int (nI r)), some (.int (sumF (gnear x d r) k)), some (.int (nI k)), some (.int (b2i (lwk x d r k))), none, none] : List (Option Value))) (fun v => (.int v :: [] : List Value)) (lmax x k r) (fun J2 => ?_) ?_
      · -- up to the join
        refine v_aload_n C dL_fitsDriver_77 rfl ?_
        refine v_iconst C (3) dL_fitsDriver_78 (by decide) ?_
        refine v_iload C dL_fitsDriver_79 rfl ?_
        refine v_imul C dL_fitsDriver_81 ?_
        refine vL_l_r0 C k rfl (by omega) dL_fitsDriver_82 ?_
        refine v_aload_n C dL_fitsDriver_83 rfl ?_
        refine v_iconst C (3) dL_fitsDriver_84 (by decide) ?_
        refine v_iload C dL_fitsDriver_85 rfl ?_
        refine v_imul C dL_fitsDriver_87 ?_
        refine vL_l_r0 C r rfl (by omega) dL_fitsDriver_88 ?_
        refine v_icmp_le C 101 dL_fitsDriver_89 (by decide) (fun c10 => ?_) (fun c10 => ?_)
        · -- 89 t: ¬ (x 6 r) < (x 6 k)
          refine v_aload_n C dL_fitsDriver_101 rfl ?_
          refine v_iconst C (3) dL_fitsDriver_102 (by decide) ?_
          refine v_iload C dL_fitsDriver_103 rfl ?_
          refine v_imul C dL_fitsDriver_105 ?_
          refine vL_l_r0 C r rfl (by omega) dL_fitsDriver_106 ?_
          refine J2 _ ?_
          exact (pif_f c10).symm
        · -- 89 f: not ¬ (x 6 r) < (x 6 k)
          refine v_aload_n C dL_fitsDriver_92 rfl ?_
          refine v_iconst C (3) dL_fitsDriver_93 (by decide) ?_
          refine v_iload C dL_fitsDriver_94 rfl ?_
          refine v_imul C dL_fitsDriver_96 ?_
          refine vL_l_r0 C k rfl (by omega) dL_fitsDriver_97 ?_
          refine v_goto C 107 dL_fitsDriver_98 (by decide) ?_
          refine J2 _ ?_
          exact (pif_t c10).symm
      · -- behind the join
        refine v_istore C dL_fitsDriver_107 (by decide) ?_
        refine V.join (wL cy al x wr) 147 (fun _ => ([some (.ref (al 9)), some (.ref (al 0)), some (.ref (al 1)), some (.ref (al 3)), some (.ref (al 5)), some (.int (nI d)), some (.int (nI r)), some (.int (sumF (gnear x d r) k)), some (.int (nI k)), some (.int (b2i (lwk x d r k))), some (.int (lmax x k r)), none] : List (Option Value))) (fun v => (.int v :: [] : List Value)) (lmin x k r) (fun J3 => ?_) ?_
        · -- up to the join
          refine v_aload_n C dL_fitsDriver_109 rfl ?_
          refine v_iconst C (3) dL_fitsDriver_110 (by decide) ?_
          refine v_iload C dL_fitsDriver_111 rfl ?_
          refine v_imul C dL_fitsDriver_113 ?_
          refine v_iconst C (1) dL_fitsDriver_114 (by decide) ?_
          refine v_iadd C dL_fitsDriver_115 ?_
          refine vL_l_r1 C k rfl (by omega) dL_fitsDriver_116 ?_
          refine v_aload_n C dL_fitsDriver_117 rfl ?_
          refine v_iconst C (3) dL_fitsDriver_118 (by decide) ?_
          refine v_iload C dL_fitsDriver_119 rfl ?_
          refine v_imul C dL_fitsDriver_121 ?_
          refine v_iconst C (1) dL_fitsDriver_122 (by decide) ?_
          refine v_iadd C dL_fitsDriver_123 ?_
          refine vL_l_r1 C r rfl (by omega) dL_fitsDriver_124 ?_
          refine v_icmp_ge C 139 dL_fitsDriver_125 (by decide) (fun c11 => ?_) (fun c11 => ?_)
          · -- 125 t: ¬ (x 7 k) < (x 7 r)
            refine v_aload_n C dL_fitsDriver_139 rfl ?_
            refine v_iconst C (3) dL_fitsDriver_140 (by decide) ?_
            refine v_iload C dL_fitsDriver_141 rfl ?_
            refine v_imul C dL_fitsDriver_143 ?_
            refine v_iconst C (1) dL_fitsDriver_144 (by decide) ?_
            refine v_iadd C dL_fitsDriver_145 ?_
            refine vL_l_r1 C r rfl (by omega) dL_fitsDriver_146 ?_
            refine J3 _ ?_
            exact (pif_f c11).symm
          · -- 125 f: not ¬ (x 7 k) < (x 7 r)
            refine v_aload_n C dL_fitsDriver_128 rfl ?_
            refine v_iconst C (3) dL_fitsDriver_129 (by decide) ?_
            refine v_iload C dL_fitsDriver_130 rfl ?_
            refine v_imul C dL_fitsDriver_132 ?_
            refine v_iconst C (1) dL_fitsDriver_133 (by decide) ?_
            refine v_iadd C dL_fitsDriver_134 ?_
            refine vL_l_r1 C k rfl (by omega) dL_fitsDriver_135 ?_
            refine v_goto C 147 dL_fitsDriver_136 (by decide) ?_
            refine J3 _ ?_
            exact (pif_t c11).symm
        · -- behind the join
          refine v_istore C dL_fitsDriver_147 (by decide) ?_
          refine v_iload C dL_fitsDriver_149 rfl ?_
          refine V.join (wL cy al x wr) 171 (fun _ => ([some (.ref (al 9)), some (.ref (al 0)), some (.ref (al 1)), some (.ref (al 3)), some (.ref (al 5)), some (.int (nI d)), some (.int (nI r)), some (.int (sumF (gnear x d r) k)), some (.int (nI k)), some (.int (b2i (lwk x d r k))), some (.int (lmax x k r)), some (.int (lmin x k r))] : List (Option Value))) (fun v => (.int v :: [.int (sumF (gnear x d r) k)] : List Value)) (b2i (lnear x d r k)) (fun J4 => ?_) ?_
          · -- up to the join
            refine v_iload C dL_fitsDriver_151 rfl ?_
            refine v_if_eq C 170 dL_fitsDriver_153 (by decide) (fun c12 => ?_) (fun c12 => ?_)
            · -- 153 t: (b2i (lwk x d r k)) = 0
              replace c12 := b2i_0.mp c12
              refine v_iconst C (0) dL_fitsDriver_170 (by decide) ?_
              refine J4 _ ?_
              exact (b2i_f (by simp [lnear, c12])).symm
            · -- 153 f: not (b2i (lwk x d r k)) = 0
              replace c12 := Classical.not_not.mp (fun z => c12 (b2i_0.mpr z))
              refine v_iload C dL_fitsDriver_156 rfl ?_
              refine v_iload C dL_fitsDriver_158 rfl ?_
              refine v_isub C dL_fitsDriver_160 ?_
              refine v_bipush C (30) dL_fitsDriver_161 (by decide) ?_
              refine v_icmp_ge C 170 dL_fitsDriver_163 (by decide) (fun c13 => ?_) (fun c13 => ?_)
              · -- 163 t: ¬ ((lmax x k r) - (lmin x k r)) < 30
                refine v_iconst C (0) dL_fitsDriver_170 (by decide) ?_
                refine J4 _ ?_
                exact (b2i_f (by simp [lnear, c12, c13])).symm
              · -- 163 f: not ¬ ((lmax x k r) - (lmin x k r)) < 30
                refine v_iconst C (1) dL_fitsDriver_166 (by decide) ?_
                refine v_goto C 171 dL_fitsDriver_167 (by decide) ?_
                refine J4 _ ?_
                exact (b2i_t (by simp [lnear, c12, c13])).symm
          · -- behind the join
            refine v_iadd C dL_fitsDriver_171 ?_
            refine v_istore C dL_fitsDriver_172 (by decide) ?_
            refine v_incN C dL_fitsDriver_174 rfl (by decide) ?_
            refine v_goto C 6 dL_fitsDriver_177 (by decide) ?_
            exact (V.lof 9 (V.lof 10 (V.lof 11 (ih_k hk trivial))))
