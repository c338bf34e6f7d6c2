/-! DepotLogModel: what is read -/
def allb (P : Nat → Prop) : Nat → Prop | 0 => True | k + 1 => allb P k ∧ P k
def exb (P : Nat → Prop) : Nat → Prop | 0 => False | k + 1 => exb P k ∨ P k
theorem allb_iff {P : Nat → Prop} {n : Nat} : allb P n ↔ ∀ k, k < n → P k := by
  induction n with
  | zero => exact ⟨fun _ k h => absurd h (Nat.not_lt_zero k), fun _ => trivial⟩
  | succ n ih =>
    constructor
    · intro h k hk
      rcases Nat.lt_succ_iff_lt_or_eq.mp hk with h1 | rfl
      · exact ih.mp h.1 k h1
      · exact h.2
    · exact fun h => ⟨ih.mpr (fun k hk => h k (Nat.lt_succ_of_lt hk)), h n (Nat.lt_succ_self n)⟩
theorem exb_iff {P : Nat → Prop} {n : Nat} : exb P n ↔ ∃ k, k < n ∧ P k := by
  induction n with
  | zero => exact ⟨fun h => h.elim, fun ⟨k, h, _⟩ => absurd h (Nat.not_lt_zero k)⟩
  | succ n ih =>
    constructor
    · rintro (h | h)
      · obtain ⟨k, h1, h2⟩ := ih.mp h
        exact ⟨k, Nat.lt_succ_of_lt h1, h2⟩
      · exact ⟨n, Nat.lt_succ_self n, h⟩
    · rintro ⟨k, h1, h2⟩
      rcases Nat.lt_succ_iff_lt_or_eq.mp h1 with h | rfl
      · exact Or.inl (ih.mpr ⟨k, h, h2⟩)
      · exact Or.inr h2
def sumG (a : Int32) (g : Nat → Int32) : Nat → Int32 | 0 => a | k + 1 => sumG a g k + g k
def wkd (x : Sg) (k : Nat) : Prop := x 9 k = 1 ∨ x 9 k = 2 ∨ x 9 k = 3
def inr (a b v : Int32) : Prop := ¬ v < a ∧ ¬ b < v
def mbA (n : Nat) (x : Sg) (b r : Nat) : Prop := x 13 b = 0 ∧ ¬ x 12 b - fprom n x (nI b) < x 8 r
def mbP (x : Sg) (b r q : Nat) : Prop := ¬ ((¬ q = r ∧ x 10 q = nI b ∧ (x 9 q = 1 ∨ x 9 q = 2)) ∧ x 6 q < x 7 r ∧ x 6 r < x 7 q)
def mbK (n : Nat) (x : Sg) (b r k : Nat) : Prop := mbA n x b r ∧ allb (mbP x b r) k
def mbf (n : Nat) (x : Sg) (b r : Nat) : Prop := mbK n x b r n
def mdQ (x : Sg) (d r q : Nat) : Prop := ¬ q = r ∧ x 11 q = nI d ∧ wkd x q ∧ x 6 q / 1440 = x 6 r / 1440
def mdR (x : Sg) (r q : Nat) : Prop := ¬ x 6 r < x 7 q + 30 ∨ ¬ x 6 q < x 7 r + 30
def mdP (x : Sg) (d r q : Nat) : Prop := mdQ x d r q → mdR x r q
def mdK (x : Sg) (d r k : Nat) : Prop := x 14 d = 0 ∧ allb (mdP x d r) k
noncomputable def mdG (x : Sg) (d r q : Nat) : Int32 := pif (mdQ x d r q) (x 7 q - x 6 q) 0
def mdf (n : Nat) (x : Sg) (d r : Nat) : Prop := mdK x d r n ∧ ¬ 480 < sumG (x 7 r - x 6 r) (mdG x d r) n
def mgo (x : Sg) (b : Int32) (q : Nat) : Prop := x 9 q = 2 ∧ x 10 q = b
noncomputable def gmin (x : Sg) (d day : Int32) (k : Nat) : Int32 := pif (x 11 k = d ∧ wkd x k ∧ x 6 k / 1440 = day) (x 7 k - x 6 k) 0
set_option maxHeartbeats 4000000 in
set_option maxRecDepth 100000 in
/-- thrown() -/
theorem k_X2_thrown (l : Launch) (G : va_G) (cy : Nat → ClassId) (am : Nat → Nat) (x : Sg) : KI l G cy yX2_thrown wsX2_thrown 0 0 0 0 [.ref (am 0)] (wM cy am x) (x 5 0) (wM cy am x) := by
  have hin2 : ∀ q ∈ u_ws RX2 TX2 18, q ∈ wsX2_thrown := by decide +kernel
  refine KI_of (own := RX2) (cc := cX2_thrown) (maxL := 1) (ret := (some .int)) (lo0 := [some (.ref (am 0))]) (by decide) rfl rfl (by simp [Value.category]) (Nat.le_of_ble_eq_true rfl) rfl (fun p e s m args below meth c A C => ?_)
  refine v_aload_n C dX2_thrown_0 rfl ?_
  refine vM_g_thrown C hin2 (by decide +kernel) dX2_thrown_1 ?_
  refine v_iret C dX2_thrown_4 ?_
  rfl
set_option maxHeartbeats 4000000 in
set_option maxRecDepth 100000 in
/-- in(v, a, b) -/
theorem k_X2_in (l : Launch) (G : va_G) (cy : Nat → ClassId) (w : va_W) (v a b : Int32) : KI l G cy yX2_in wsX2_in 0 0 0 0 [.int v, .int a, .int b] w (b2i (inr a b v)) w := by
  refine KI_of (own := RX2) (cc := cX2_in) (maxL := 3) (ret := (some .boolean)) (lo0 := [some (.int v), some (.int a), some (.int b)]) (by decide) rfl rfl (by simp [Value.category]) (Nat.le_of_ble_eq_true rfl) rfl (fun p e s m args below meth c A C => ?_)
  refine v_iload_n C dX2_in_0 rfl ?_
  refine v_iload_n C dX2_in_1 rfl ?_
  refine v_icmp_lt C 14 dX2_in_2 (by decide) (fun c1 => ?_) (fun c1 => ?_)
  · -- 2 t: v < a
    refine v_iconst C (0) dX2_in_14 (by decide) ?_
    refine v_zret C rfl dX2_in_15 ?_
    exact (b2i_f (by simp [inr, c1])).symm
  · -- 2 f: not v < a
    refine v_iload_n C dX2_in_5 rfl ?_
    refine v_iload_n C dX2_in_6 rfl ?_
    refine v_icmp_gt C 14 dX2_in_7 (by decide) (fun c2 => ?_) (fun c2 => ?_)
    · -- 7 t: b < v
      refine v_iconst C (0) dX2_in_14 (by decide) ?_
      refine v_zret C rfl dX2_in_15 ?_
      exact (b2i_f (by simp [inr, c1, c2])).symm
    · -- 7 f: not b < v
      refine v_iconst C (1) dX2_in_10 (by decide) ?_
      refine v_goto C 15 dX2_in_11 (by decide) ?_
      refine v_zret C rfl dX2_in_15 ?_
      exact (b2i_t (by simp [inr, c1, c2])).symm
set_option maxHeartbeats 4000000 in
set_option maxRecDepth 100000 in
/-- isRun(r) -/
theorem k_X2_isRun (l : Launch) (G : va_G) (cy : Nat → ClassId) (am : Nat → Nat) (x : Sg) (r : Int32) : KI l G cy yX2_isRun wsX2_isRun 1 22 0 0 [.ref (am 0), .int r] (wM cy am x) (b2i (inr 0 (x 1 0 - 1) r)) (wM cy am x) := by
  have hin2 : ∀ q ∈ u_ws RX2 TX2 18, q ∈ wsX2_isRun := by decide +kernel
  refine KI_of (own := RX2) (cc := cX2_isRun) (maxL := 2) (ret := (some .boolean)) (lo0 := [some (.ref (am 0)), some (.int r)]) (by decide) rfl rfl (by simp [Value.category]) (Nat.le_of_ble_eq_true rfl) rfl (fun p e s m args below meth c A C => ?_)
  refine v_iload_n C dX2_isRun_0 rfl ?_
  refine v_iconst C (0) dX2_isRun_1 (by decide) ?_
  refine v_aload_n C dX2_isRun_2 rfl ?_
  refine vM_g_runMany C hin2 (by decide +kernel) dX2_isRun_3 ?_
  refine v_iconst C (1) dX2_isRun_6 (by decide) ?_
  refine v_isub C dX2_isRun_7 ?_
  refine v_sI C (k_X2_in l G cy (wM cy am x) r 0 ((x 1 0) - 1)) rfl gX2_isRun_X2_in (nA := 3) (by decide +kernel) rfl (by decide) (by decide) rfl (Nat.le_of_ble_eq_true rfl) dX2_isRun_8 ?_
  refine v_zret C (b2i_n _) dX2_isRun_11 ?_
  rfl
set_option maxHeartbeats 4000000 in
set_option maxRecDepth 100000 in
/-- isBus(b) -/
theorem k_X2_isBus (l : Launch) (G : va_G) (cy : Nat → ClassId) (w : va_W) (b : Int32) : KI l G cy yX2_isBus wsX2_isBus 1 22 0 0 [.int b] w (b2i (inr 0 4 b)) w := by
  refine KI_of (own := RX2) (cc := cX2_isBus) (maxL := 1) (ret := (some .boolean)) (lo0 := [some (.int b)]) (by decide) rfl rfl (by simp [Value.category]) (Nat.le_of_ble_eq_true rfl) rfl (fun p e s m args below meth c A C => ?_)
  refine v_iload_n C dX2_isBus_0 rfl ?_
  refine v_iconst C (0) dX2_isBus_1 (by decide) ?_
  refine v_iconst C (4) dX2_isBus_2 (by decide) ?_
  refine v_sI C (k_X2_in l G cy (w) b 0 4) rfl gX2_isBus_X2_in (nA := 3) (by decide +kernel) rfl (by decide) (by decide) rfl (Nat.le_of_ble_eq_true rfl) dX2_isBus_3 ?_
  refine v_zret C (b2i_n _) dX2_isBus_6 ?_
  rfl
set_option maxHeartbeats 4000000 in
set_option maxRecDepth 100000 in
/-- isDriver(d) -/
theorem k_X2_isDriver (l : Launch) (G : va_G) (cy : Nat → ClassId) (w : va_W) (d : Int32) : KI l G cy yX2_isDriver wsX2_isDriver 1 22 0 0 [.int d] w (b2i (inr 0 4 d)) w := by
  refine KI_of (own := RX2) (cc := cX2_isDriver) (maxL := 1) (ret := (some .boolean)) (lo0 := [some (.int d)]) (by decide) rfl rfl (by simp [Value.category]) (Nat.le_of_ble_eq_true rfl) rfl (fun p e s m args below meth c A C => ?_)
  refine v_iload_n C dX2_isDriver_0 rfl ?_
  refine v_iconst C (0) dX2_isDriver_1 (by decide) ?_
  refine v_iconst C (4) dX2_isDriver_2 (by decide) ?_
  refine v_sI C (k_X2_in l G cy (w) d 0 4) rfl gX2_isDriver_X2_in (nA := 3) (by decide +kernel) rfl (by decide) (by decide) rfl (Nat.le_of_ble_eq_true rfl) dX2_isDriver_3 ?_
  refine v_zret C (b2i_n _) dX2_isDriver_6 ?_
  rfl
set_option maxHeartbeats 4000000 in
set_option maxRecDepth 100000 in
/-- leads() -/
theorem k_X2_leads (l : Launch) (G : va_G) (cy : Nat → ClassId) (am : Nat → Nat) (x : Sg) : KI l G cy yX2_leads wsX2_leads 0 0 0 0 [.ref (am 0)] (wM cy am x) (flead x) (wM cy am x) := by
  have hin2 : ∀ q ∈ u_ws RX2 TX2 18, q ∈ wsX2_leads := by decide +kernel
  refine KI_of (own := RX2) (cc := cX2_leads) (maxL := 1) (ret := (some .int)) (lo0 := [some (.ref (am 0))]) (by decide) rfl rfl (by simp [Value.category]) (Nat.le_of_ble_eq_true rfl) rfl (fun p e s m args below meth c A C => ?_)
  refine v_aload_n C dX2_leads_0 rfl ?_
  refine vM_g_holder C hin2 (by decide +kernel) dX2_leads_1 ?_
  refine v_iconst C (-1) dX2_leads_4 (by decide) ?_
  refine v_icmp_eq C 26 dX2_leads_5 (by decide) (fun c1 => ?_) (fun c1 => ?_)
  · -- 5 t: (x 3 0) = (-1)
    refine v_iconst C (-1) dX2_leads_26 (by decide) ?_
    refine v_iret C dX2_leads_27 ?_
    simp [flead, pif, c1]
  · -- 5 f: not (x 3 0) = (-1)
    refine v_aload_n C dX2_leads_8 rfl ?_
    refine vM_g_now C hin2 (by decide +kernel) dX2_leads_9 ?_
    refine v_aload_n C dX2_leads_12 rfl ?_
    refine vM_g_leaseEnd C hin2 (by decide +kernel) dX2_leads_13 ?_
    refine v_icmp_ge C 26 dX2_leads_16 (by decide) (fun c2 => ?_) (fun c2 => ?_)
    · -- 16 t: ¬ (x 0 0) < (x 4 0)
      refine v_iconst C (-1) dX2_leads_26 (by decide) ?_
      refine v_iret C dX2_leads_27 ?_
      simp [flead, pif, c1, c2]
    · -- 16 f: not ¬ (x 0 0) < (x 4 0)
      refine v_aload_n C dX2_leads_19 rfl ?_
      refine vM_g_holder C hin2 (by decide +kernel) dX2_leads_20 ?_
      refine v_goto C 27 dX2_leads_23 (by decide) ?_
      refine v_iret C dX2_leads_27 ?_
      simp [flead, pif, c1, c2]
set_option maxHeartbeats 4000000 in
set_option maxRecDepth 100000 in
/-- promisedOf(b) -/
theorem k_X2_promisedOf (l : Launch) (G : va_G) (cy : Nat → ClassId) (am : Nat → Nat) (x : Sg) (n : Nat) (hn : x 1 0 = nI n) (h30 : n ≤ 30) (b : Int32) : KI l G cy yX2_promisedOf wsX2_promisedOf 0 0 0 0 [.ref (am 0), .int b] (wM cy am x) (fprom n x b) (wM cy am x) := by
  have hin2 : ∀ q ∈ u_ws RX2 TX2 18, q ∈ wsX2_promisedOf := by decide +kernel
  refine KI_of (own := RX2) (cc := cX2_promisedOf) (maxL := 4) (ret := (some .int)) (lo0 := [some (.ref (am 0)), some (.int b), none, none]) (by decide) rfl rfl (by simp [Value.category]) (Nat.le_of_ble_eq_true rfl) rfl (fun p e s m args below meth c A C => ?_)
  refine v_iconst C (0) dX2_promisedOf_0 (by decide) ?_
  refine v_istore_n C dX2_promisedOf_1 (by decide) ?_
  refine v_iconst C (0) dX2_promisedOf_2 (by decide) ?_
  refine v_istore_n C dX2_promisedOf_3 (by decide) ?_
  refine V.loop (fun k : Nat => wM cy am x) (fun k : Nat => ([some (.ref (am 0)), some (.int b), some (.int (sumF (gprom x b) k)), some (.int (nI k))] : List (Option Value))) (fun k : Nat => True) n ?_ trivial
  intro k hle_k hP_k ih_k
  try dsimp only at hP_k ih_k ⊢
  refine v_iload_n C dX2_promisedOf_4 rfl ?_
  refine v_aload_n C dX2_promisedOf_5 rfl ?_
  refine vM_g_runMany C hin2 (by decide +kernel) dX2_promisedOf_6 ?_
  refine v_geN C k n 51 dX2_promisedOf_9 (by decide) rfl hn (by omega) (by omega) (fun c1 => ?_) (fun c1 => ?_)
  · -- loop 4 is over
    have e_k : n = k := by omega
    subst e_k
    refine v_iload_n C dX2_promisedOf_51 rfl ?_
    refine v_iret C dX2_promisedOf_52 ?_
    rfl
  · have hk : k < n := c1
    refine v_iload_n C dX2_promisedOf_12 rfl ?_
    refine v_aload_n C dX2_promisedOf_13 rfl ?_
    refine vM_g_states C hin2 (by decide +kernel) dX2_promisedOf_14 ?_
    refine v_iload_n C dX2_promisedOf_17 rfl ?_
    refine vM_l_states C k rfl (by omega) dX2_promisedOf_18 ?_
    refine v_iconst C (1) dX2_promisedOf_19 (by decide) ?_
    refine v_icmp_ne C 42 dX2_promisedOf_20 (by decide) (fun c2 => ?_) (fun c2 => ?_)
    · -- 20 t: ¬ (x 9 k) = 1
      refine v_iconst C (0) dX2_promisedOf_42 (by decide) ?_
      refine v_iadd C dX2_promisedOf_43 ?_
      refine v_istore_n C dX2_promisedOf_44 (by decide) ?_
      refine v_incN C dX2_promisedOf_45 rfl (by decide) ?_
      refine v_goto C 4 dX2_promisedOf_48 (by decide) ?_
      have q := ih_k hk trivial
      have e : sumF (gprom x b) (k + 1) = (sumF (gprom x b) k) + 0 := by simp [sumF, gprom, pif, c2]
      rw [e] at q
      exact q
    · -- 20 f: not ¬ (x 9 k) = 1
      refine v_aload_n C dX2_promisedOf_23 rfl ?_
      refine vM_g_buses C hin2 (by decide +kernel) dX2_promisedOf_24 ?_
      refine v_iload_n C dX2_promisedOf_27 rfl ?_
      refine vM_l_buses C k rfl (by omega) dX2_promisedOf_28 ?_
      refine v_iload_n C dX2_promisedOf_29 rfl ?_
      refine v_icmp_ne C 42 dX2_promisedOf_30 (by decide) (fun c3 => ?_) (fun c3 => ?_)
      · -- 30 t: ¬ (x 10 k) = b
        refine v_iconst C (0) dX2_promisedOf_42 (by decide) ?_
        refine v_iadd C dX2_promisedOf_43 ?_
        refine v_istore_n C dX2_promisedOf_44 (by decide) ?_
        refine v_incN C dX2_promisedOf_45 rfl (by decide) ?_
        refine v_goto C 4 dX2_promisedOf_48 (by decide) ?_
        have q := ih_k hk trivial
        have e : sumF (gprom x b) (k + 1) = (sumF (gprom x b) k) + 0 := by simp [sumF, gprom, pif, c2, c3]
        rw [e] at q
        exact q
      · -- 30 f: not ¬ (x 10 k) = b
        refine v_aload_n C dX2_promisedOf_33 rfl ?_
        refine vM_g_needs C hin2 (by decide +kernel) dX2_promisedOf_34 ?_
        refine v_iload_n C dX2_promisedOf_37 rfl ?_
        refine vM_l_needs C k rfl (by omega) dX2_promisedOf_38 ?_
        refine v_goto C 43 dX2_promisedOf_39 (by decide) ?_
        refine v_iadd C dX2_promisedOf_43 ?_
        refine v_istore_n C dX2_promisedOf_44 (by decide) ?_
        refine v_incN C dX2_promisedOf_45 rfl (by decide) ?_
        refine v_goto C 4 dX2_promisedOf_48 (by decide) ?_
        have q := ih_k hk trivial
        have e : sumF (gprom x b) (k + 1) = (sumF (gprom x b) k) + (x 8 k) := by simp [sumF, gprom, pif, c2, c3]
        rw [e] at q
        exact q
set_option maxHeartbeats 4000000 in
set_option maxRecDepth 100000 in
/-- isWorked(r) -/
theorem k_X2_isWorked (l : Launch) (G : va_G) (cy : Nat → ClassId) (am : Nat → Nat) (x : Sg) (r : Nat) (hr : r < 30) : KI l G cy yX2_isWorked wsX2_isWorked 0 0 0 0 [.ref (am 0), .int (nI r)] (wM cy am x) (b2i (wkd x r)) (wM cy am x) := by
  have hin2 : ∀ q ∈ u_ws RX2 TX2 18, q ∈ wsX2_isWorked := by decide +kernel
  refine KI_of (own := RX2) (cc := cX2_isWorked) (maxL := 2) (ret := (some .boolean)) (lo0 := [some (.ref (am 0)), some (.int (nI r))]) (by decide) rfl rfl (by simp [Value.category]) (Nat.le_of_ble_eq_true rfl) rfl (fun p e s m args below meth c A C => ?_)
  refine v_aload_n C dX2_isWorked_0 rfl ?_
  refine vM_g_states C hin2 (by decide +kernel) dX2_isWorked_1 ?_
  refine v_iload_n C dX2_isWorked_4 rfl ?_
  refine vM_l_states C r rfl (by omega) dX2_isWorked_5 ?_
  refine v_iconst C (1) dX2_isWorked_6 (by decide) ?_
  refine v_icmp_eq C 30 dX2_isWorked_7 (by decide) (fun c1 => ?_) (fun c1 => ?_)
  · -- 7 t: (x 9 r) = 1
    refine v_iconst C (1) dX2_isWorked_30 (by decide) ?_
    refine v_goto C 35 dX2_isWorked_31 (by decide) ?_
    refine v_zret C rfl dX2_isWorked_35 ?_
    exact (b2i_t (by simp [wkd, c1])).symm
  · -- 7 f: not (x 9 r) = 1
    refine v_aload_n C dX2_isWorked_10 rfl ?_
    refine vM_g_states C hin2 (by decide +kernel) dX2_isWorked_11 ?_
    refine v_iload_n C dX2_isWorked_14 rfl ?_
    refine vM_l_states C r rfl (by omega) dX2_isWorked_15 ?_
    refine v_iconst C (2) dX2_isWorked_16 (by decide) ?_
    refine v_icmp_eq C 30 dX2_isWorked_17 (by decide) (fun c2 => ?_) (fun c2 => ?_)
    · -- 17 t: (x 9 r) = 2
      refine v_iconst C (1) dX2_isWorked_30 (by decide) ?_
      refine v_goto C 35 dX2_isWorked_31 (by decide) ?_
      refine v_zret C rfl dX2_isWorked_35 ?_
      exact (b2i_t (by simp [wkd, c1, c2])).symm
    · -- 17 f: not (x 9 r) = 2
      refine v_aload_n C dX2_isWorked_20 rfl ?_
      refine vM_g_states C hin2 (by decide +kernel) dX2_isWorked_21 ?_
      refine v_iload_n C dX2_isWorked_24 rfl ?_
      refine vM_l_states C r rfl (by omega) dX2_isWorked_25 ?_
      refine v_iconst C (3) dX2_isWorked_26 (by decide) ?_
      refine v_icmp_ne C 34 dX2_isWorked_27 (by decide) (fun c3 => ?_) (fun c3 => ?_)
      · -- 27 t: ¬ (x 9 r) = 3
        refine v_iconst C (0) dX2_isWorked_34 (by decide) ?_
        refine v_zret C rfl dX2_isWorked_35 ?_
        exact (b2i_f (by simp [wkd, c1, c2, c3])).symm
      · -- 27 f: not ¬ (x 9 r) = 3
        refine v_iconst C (1) dX2_isWorked_30 (by decide) ?_
        refine v_goto C 35 dX2_isWorked_31 (by decide) ?_
        refine v_zret C rfl dX2_isWorked_35 ?_
        exact (b2i_t (by simp [wkd, c1, c2, c3])).symm
set_option maxHeartbeats 4000000 in
set_option maxRecDepth 100000 in
/-- isFitBus(b, r) -/
theorem k_X2_isFitBus (l : Launch) (G : va_G) (cy : Nat → ClassId) (am : Nat → Nat) (x : Sg) (n : Nat) (hn : x 1 0 = nI n) (h30 : n ≤ 30) (b : Nat) (hb : b < 5) (r : Nat) (hr : r < 30) : KI l G cy yX2_isFitBus wsX2_isFitBus 1 23 0 0 [.ref (am 0), .int (nI b), .int (nI r)] (wM cy am x) (b2i (mbf n x b r)) (wM cy am x) := by
  have hin2 : ∀ q ∈ u_ws RX2 TX2 18, q ∈ wsX2_isFitBus := by decide +kernel
  refine KI_of (own := RX2) (cc := cX2_isFitBus) (maxL := 6) (ret := (some .boolean)) (lo0 := [some (.ref (am 0)), some (.int (nI b)), some (.int (nI r)), none, none, none]) (by decide) rfl rfl (by simp [Value.category]) (Nat.le_of_ble_eq_true rfl) rfl (fun p e s m args below meth c A C => ?_)
  refine V.join (wM cy am x) 35 (fun _ => ([some (.ref (am 0)), some (.int (nI b)), some (.int (nI r)), none, none, none] : List (Option Value))) (fun v => (.int v :: [] : List Value)) (b2i (mbK n x b r 0)) (fun J1 => ?_) ?_
  · -- up to the join
    refine v_aload_n C dX2_isFitBus_0 rfl ?_
    refine vM_g_isBroken C hin2 (by decide +kernel) dX2_isFitBus_1 ?_
    refine v_iload_n C dX2_isFitBus_4 rfl ?_
    refine vM_l_isBroken C b rfl (by omega) dX2_isFitBus_5 ?_
    refine v_if_ne C 34 dX2_isFitBus_6 (by decide) (fun c1 => ?_) (fun c1 => ?_)
    · -- 6 t: ¬ (x 13 b) = 0
      refine v_iconst C (0) dX2_isFitBus_34 (by decide) ?_
      refine J1 _ ?_
      exact (b2i_f (by simp [mbK, mbA, allb, c1])).symm
    · -- 6 f: not ¬ (x 13 b) = 0
      refine v_aload_n C dX2_isFitBus_9 rfl ?_
      refine vM_g_charges C hin2 (by decide +kernel) dX2_isFitBus_10 ?_
      refine v_iload_n C dX2_isFitBus_13 rfl ?_
      refine vM_l_charges C b rfl (by omega) dX2_isFitBus_14 ?_
      refine v_aload_n C dX2_isFitBus_15 rfl ?_
      refine v_iload_n C dX2_isFitBus_16 rfl ?_
      refine vM_cI C (k_X2_promisedOf l G cy am x n hn h30 (nI b)) rfl gX2_isFitBus_X2_promisedOf (nA := 1) (by decide +kernel) rfl (by decide) (by decide) rfl rfl (Nat.le_of_ble_eq_true rfl) dX2_isFitBus_17 ?_
      refine v_isub C dX2_isFitBus_20 ?_
      refine v_aload_n C dX2_isFitBus_21 rfl ?_
      refine vM_g_needs C hin2 (by decide +kernel) dX2_isFitBus_22 ?_
      refine v_iload_n C dX2_isFitBus_25 rfl ?_
      refine vM_l_needs C r rfl (by omega) dX2_isFitBus_26 ?_
      refine v_icmp_lt C 34 dX2_isFitBus_27 (by decide) (fun c2 => ?_) (fun c2 => ?_)
      · -- 27 t: ((x 12 b) - (fprom n x (nI b))) < (x 8 r)
        refine v_iconst C (0) dX2_isFitBus_34 (by decide) ?_
        refine J1 _ ?_
        exact (b2i_f (by simp [mbK, mbA, allb, c1, c2])).symm
      · -- 27 f: not ((x 12 b) - (fprom n x (nI b))) < (x 8 r)
        refine v_iconst C (1) dX2_isFitBus_30 (by decide) ?_
        refine v_goto C 35 dX2_isFitBus_31 (by decide) ?_
        refine J1 _ ?_
        exact (b2i_t (by simp [mbK, mbA, allb, c1, c2])).symm
  · -- behind the join
    refine v_istore_n C dX2_isFitBus_35 (by decide) ?_
    refine v_iconst C (0) dX2_isFitBus_36 (by decide) ?_
    refine v_istore C dX2_isFitBus_37 (by decide) ?_
    refine V.loop (fun k : Nat => wM cy am x) (fun k : Nat => ([some (.ref (am 0)), some (.int (nI b)), some (.int (nI r)), some (.int (b2i (mbK n x b r k))), some (.int (nI k)), none] : List (Option Value))) (fun k : Nat => True) n ?_ trivial
    intro k hle_k hP_k ih_k
    try dsimp only at hP_k ih_k ⊢
    refine v_iload C dX2_isFitBus_39 rfl ?_
    refine v_aload_n C dX2_isFitBus_41 rfl ?_
    refine vM_g_runMany C hin2 (by decide +kernel) dX2_isFitBus_42 ?_
    refine v_geN C k n 147 dX2_isFitBus_45 (by decide) rfl hn (by omega) (by omega) (fun c3 => ?_) (fun c3 => ?_)
    · -- loop 39 is over
      have e_k : n = k := by omega
      subst e_k
      refine v_iload_n C dX2_isFitBus_147 rfl ?_
      refine v_zret C (b2i_n _) dX2_isFitBus_148 ?_
      rfl
    · have hk : k < n := c3
      refine v_iload C dX2_isFitBus_48 rfl ?_
      refine v_iload_n C dX2_isFitBus_50 rfl ?_
      refine v_icmp_eq C 91 dX2_isFitBus_51 (by decide) (fun c4 => ?_) (fun c4 => ?_)
      · -- 51 t: (nI k) = (nI r)
        refine v_iconst C (0) dX2_isFitBus_91 (by decide) ?_
        refine v_istore C dX2_isFitBus_92 (by decide) ?_
        refine v_iload_n C dX2_isFitBus_94 rfl ?_
        refine v_if_eq C 139 dX2_isFitBus_95 (by decide) (fun c5 => ?_) (fun c5 => ?_)
        · -- 95 t: (b2i (mbK n x b r k)) = 0
          replace c5 := b2i_0.mp c5
          refine v_iconst C (0) dX2_isFitBus_139 (by decide) ?_
          refine v_istore_n C dX2_isFitBus_140 (by decide) ?_
          refine v_incN C dX2_isFitBus_141 rfl (by decide) ?_
          refine v_goto C 39 dX2_isFitBus_144 (by decide) ?_
          rw [nI_eq (show k < 2 ^ 31 by omega) (show r < 2 ^ 31 by omega)] at c4
          have e : b2i (mbK n x b r (k + 1)) = 0 := by
            exact b2i_f (by simp_all [mbK, allb, mbP])
          have q := ih_k hk trivial
          rw [e] at q
          exact V.lof 5 q
        · -- 95 f: not (b2i (mbK n x b r k)) = 0
          replace c5 := Classical.not_not.mp (fun z => c5 (b2i_0.mpr z))
          refine v_iload C dX2_isFitBus_98 rfl ?_
          refine v_if_eq C 135 dX2_isFitBus_100 (by decide) (fun z => ?_) (fun z => absurd z (by decide))
          refine v_iconst C (1) dX2_isFitBus_135 (by decide) ?_
          refine v_goto C 140 dX2_isFitBus_136 (by decide) ?_
          refine v_istore_n C dX2_isFitBus_140 (by decide) ?_
          refine v_incN C dX2_isFitBus_141 rfl (by decide) ?_
          refine v_goto C 39 dX2_isFitBus_144 (by decide) ?_
          rw [nI_eq (show k < 2 ^ 31 by omega) (show r < 2 ^ 31 by omega)] at c4
          have e : b2i (mbK n x b r (k + 1)) = 1 := by
            first
              | exact b2i_t ⟨c5.1, c5.2, fun z => by obtain ⟨⟨z1, z2, z3 | z3⟩, z4, z5⟩ := z <;> contradiction⟩
              | exact b2i_t (by simp_all [mbK, allb, mbP])
          have q := ih_k hk trivial
          rw [e] at q
          exact V.lof 5 q
      · -- 51 f: not (nI k) = (nI r)
        refine v_aload_n C dX2_isFitBus_54 rfl ?_
        refine vM_g_buses C hin2 (by decide +kernel) dX2_isFitBus_55 ?_
        refine v_iload C dX2_isFitBus_58 rfl ?_
        refine vM_l_buses C k rfl (by omega) dX2_isFitBus_60 ?_
        refine v_iload_n C dX2_isFitBus_61 rfl ?_
        refine v_icmp_ne C 91 dX2_isFitBus_62 (by decide) (fun c7 => ?_) (fun c7 => ?_)
        · -- 62 t: ¬ (x 10 k) = (nI b)
          refine v_iconst C (0) dX2_isFitBus_91 (by decide) ?_
          refine v_istore C dX2_isFitBus_92 (by decide) ?_
          refine v_iload_n C dX2_isFitBus_94 rfl ?_
          refine v_if_eq C 139 dX2_isFitBus_95 (by decide) (fun c8 => ?_) (fun c8 => ?_)
          · -- 95 t: (b2i (mbK n x b r k)) = 0
            replace c8 := b2i_0.mp c8
            refine v_iconst C (0) dX2_isFitBus_139 (by decide) ?_
            refine v_istore_n C dX2_isFitBus_140 (by decide) ?_
            refine v_incN C dX2_isFitBus_141 rfl (by decide) ?_
            refine v_goto C 39 dX2_isFitBus_144 (by decide) ?_
            rw [nI_eq (show k < 2 ^ 31 by omega) (show r < 2 ^ 31 by omega)] at c4
            have e : b2i (mbK n x b r (k + 1)) = 0 := by
              exact b2i_f (by simp_all [mbK, allb, mbP])
            have q := ih_k hk trivial
            rw [e] at q
            exact V.lof 5 q
          · -- 95 f: not (b2i (mbK n x b r k)) = 0
            replace c8 := Classical.not_not.mp (fun z => c8 (b2i_0.mpr z))
            refine v_iload C dX2_isFitBus_98 rfl ?_
            refine v_if_eq C 135 dX2_isFitBus_100 (by decide) (fun z => ?_) (fun z => absurd z (by decide))
            refine v_iconst C (1) dX2_isFitBus_135 (by decide) ?_
            refine v_goto C 140 dX2_isFitBus_136 (by decide) ?_
            refine v_istore_n C dX2_isFitBus_140 (by decide) ?_
            refine v_incN C dX2_isFitBus_141 rfl (by decide) ?_
            refine v_goto C 39 dX2_isFitBus_144 (by decide) ?_
            rw [nI_eq (show k < 2 ^ 31 by omega) (show r < 2 ^ 31 by omega)] at c4
            have e : b2i (mbK n x b r (k + 1)) = 1 := by
              first
                | exact b2i_t ⟨c8.1, c8.2, fun z => by obtain ⟨⟨z1, z2, z3 | z3⟩, z4, z5⟩ := z <;> contradiction⟩
                | exact b2i_t (by simp_all [mbK, allb, mbP])
            have q := ih_k hk trivial
            rw [e] at q
            exact V.lof 5 q
        · -- 62 f: not ¬ (x 10 k) = (nI b)
          refine v_aload_n C dX2_isFitBus_65 rfl ?_
          refine vM_g_states C hin2 (by decide +kernel) dX2_isFitBus_66 ?_
          refine v_iload C dX2_isFitBus_69 rfl ?_
          refine vM_l_states C k rfl (by omega) dX2_isFitBus_71 ?_
          refine v_iconst C (1) dX2_isFitBus_72 (by decide) ?_
          refine v_icmp_eq C 87 dX2_isFitBus_73 (by decide) (fun c10 => ?_) (fun c10 => ?_)
          · -- 73 t: (x 9 k) = 1
            refine v_iconst C (1) dX2_isFitBus_87 (by decide) ?_
            refine v_goto C 92 dX2_isFitBus_88 (by decide) ?_
            refine v_istore C dX2_isFitBus_92 (by decide) ?_
            refine v_iload_n C dX2_isFitBus_94 rfl ?_
            refine v_if_eq C 139 dX2_isFitBus_95 (by decide) (fun c11 => ?_) (fun c11 => ?_)
            · -- 95 t: (b2i (mbK n x b r k)) = 0
              replace c11 := b2i_0.mp c11
              refine v_iconst C (0) dX2_isFitBus_139 (by decide) ?_
              refine v_istore_n C dX2_isFitBus_140 (by decide) ?_
              refine v_incN C dX2_isFitBus_141 rfl (by decide) ?_
              refine v_goto C 39 dX2_isFitBus_144 (by decide) ?_
              rw [nI_eq (show k < 2 ^ 31 by omega) (show r < 2 ^ 31 by omega)] at c4
              have e : b2i (mbK n x b r (k + 1)) = 0 := by
                exact b2i_f (by simp_all [mbK, allb, mbP])
              have q := ih_k hk trivial
              rw [e] at q
              exact V.lof 5 q
            · -- 95 f: not (b2i (mbK n x b r k)) = 0
              replace c11 := Classical.not_not.mp (fun z => c11 (b2i_0.mpr z))
              refine v_iload C dX2_isFitBus_98 rfl ?_
              refine v_if_eq C 135 dX2_isFitBus_100 (by decide) (fun z => absurd z (by decide)) (fun z => ?_)
              refine v_aload_n C dX2_isFitBus_103 rfl ?_
              refine vM_g_starts C hin2 (by decide +kernel) dX2_isFitBus_104 ?_
              refine v_iload C dX2_isFitBus_107 rfl ?_
              refine vM_l_starts C k rfl (by omega) dX2_isFitBus_109 ?_
              refine v_aload_n C dX2_isFitBus_110 rfl ?_
              refine vM_g_ends C hin2 (by decide +kernel) dX2_isFitBus_111 ?_
              refine v_iload_n C dX2_isFitBus_114 rfl ?_
              refine vM_l_ends C r rfl (by omega) dX2_isFitBus_115 ?_
              refine v_icmp_ge C 135 dX2_isFitBus_116 (by decide) (fun c13 => ?_) (fun c13 => ?_)
              · -- 116 t: ¬ (x 6 k) < (x 7 r)
                refine v_iconst C (1) dX2_isFitBus_135 (by decide) ?_
                refine v_goto C 140 dX2_isFitBus_136 (by decide) ?_
                refine v_istore_n C dX2_isFitBus_140 (by decide) ?_
                refine v_incN C dX2_isFitBus_141 rfl (by decide) ?_
                refine v_goto C 39 dX2_isFitBus_144 (by decide) ?_
                rw [nI_eq (show k < 2 ^ 31 by omega) (show r < 2 ^ 31 by omega)] at c4
                have e : b2i (mbK n x b r (k + 1)) = 1 := by
                  first
                    | exact b2i_t ⟨c11.1, c11.2, fun z => by obtain ⟨⟨z1, z2, z3 | z3⟩, z4, z5⟩ := z <;> contradiction⟩
                    | exact b2i_t (by simp_all [mbK, allb, mbP])
                have q := ih_k hk trivial
                rw [e] at q
                exact V.lof 5 q
              · -- 116 f: not ¬ (x 6 k) < (x 7 r)
                refine v_aload_n C dX2_isFitBus_119 rfl ?_
                refine vM_g_starts C hin2 (by decide +kernel) dX2_isFitBus_120 ?_
                refine v_iload_n C dX2_isFitBus_123 rfl ?_
                refine vM_l_starts C r rfl (by omega) dX2_isFitBus_124 ?_
                refine v_aload_n C dX2_isFitBus_125 rfl ?_
                refine vM_g_ends C hin2 (by decide +kernel) dX2_isFitBus_126 ?_
                refine v_iload C dX2_isFitBus_129 rfl ?_
                refine vM_l_ends C k rfl (by omega) dX2_isFitBus_131 ?_
                refine v_icmp_lt C 139 dX2_isFitBus_132 (by decide) (fun c14 => ?_) (fun c14 => ?_)
                · -- 132 t: (x 6 r) < (x 7 k)
                  refine v_iconst C (0) dX2_isFitBus_139 (by decide) ?_
                  refine v_istore_n C dX2_isFitBus_140 (by decide) ?_
                  refine v_incN C dX2_isFitBus_141 rfl (by decide) ?_
                  refine v_goto C 39 dX2_isFitBus_144 (by decide) ?_
                  rw [nI_eq (show k < 2 ^ 31 by omega) (show r < 2 ^ 31 by omega)] at c4
                  have e : b2i (mbK n x b r (k + 1)) = 0 := by
                    exact b2i_f (by simp_all [mbK, allb, mbP])
                  have q := ih_k hk trivial
                  rw [e] at q
                  exact V.lof 5 q
                · -- 132 f: not (x 6 r) < (x 7 k)
                  refine v_iconst C (1) dX2_isFitBus_135 (by decide) ?_
                  refine v_goto C 140 dX2_isFitBus_136 (by decide) ?_
                  refine v_istore_n C dX2_isFitBus_140 (by decide) ?_
                  refine v_incN C dX2_isFitBus_141 rfl (by decide) ?_
                  refine v_goto C 39 dX2_isFitBus_144 (by decide) ?_
                  rw [nI_eq (show k < 2 ^ 31 by omega) (show r < 2 ^ 31 by omega)] at c4
                  have e : b2i (mbK n x b r (k + 1)) = 1 := by
                    first
                      | exact b2i_t ⟨c11.1, c11.2, fun z => by obtain ⟨⟨z1, z2, z3 | z3⟩, z4, z5⟩ := z <;> contradiction⟩
                      | exact b2i_t (by simp_all [mbK, allb, mbP])
                  have q := ih_k hk trivial
                  rw [e] at q
                  exact V.lof 5 q
          · -- 73 f: not (x 9 k) = 1
            refine v_aload_n C dX2_isFitBus_76 rfl ?_
            refine vM_g_states C hin2 (by decide +kernel) dX2_isFitBus_77 ?_
            refine v_iload C dX2_isFitBus_80 rfl ?_
            refine vM_l_states C k rfl (by omega) dX2_isFitBus_82 ?_
            refine v_iconst C (2) dX2_isFitBus_83 (by decide) ?_
            refine v_icmp_ne C 91 dX2_isFitBus_84 (by decide) (fun c15 => ?_) (fun c15 => ?_)
            · -- 84 t: ¬ (x 9 k) = 2
              refine v_iconst C (0) dX2_isFitBus_91 (by decide) ?_
              refine v_istore C dX2_isFitBus_92 (by decide) ?_
              refine v_iload_n C dX2_isFitBus_94 rfl ?_
              refine v_if_eq C 139 dX2_isFitBus_95 (by decide) (fun c16 => ?_) (fun c16 => ?_)
              · -- 95 t: (b2i (mbK n x b r k)) = 0
                replace c16 := b2i_0.mp c16
                refine v_iconst C (0) dX2_isFitBus_139 (by decide) ?_
                refine v_istore_n C dX2_isFitBus_140 (by decide) ?_
                refine v_incN C dX2_isFitBus_141 rfl (by decide) ?_
                refine v_goto C 39 dX2_isFitBus_144 (by decide) ?_
                rw [nI_eq (show k < 2 ^ 31 by omega) (show r < 2 ^ 31 by omega)] at c4
                have e : b2i (mbK n x b r (k + 1)) = 0 := by
                  exact b2i_f (by simp_all [mbK, allb, mbP])
                have q := ih_k hk trivial
                rw [e] at q
                exact V.lof 5 q
              · -- 95 f: not (b2i (mbK n x b r k)) = 0
                replace c16 := Classical.not_not.mp (fun z => c16 (b2i_0.mpr z))
                refine v_iload C dX2_isFitBus_98 rfl ?_
                refine v_if_eq C 135 dX2_isFitBus_100 (by decide) (fun z => ?_) (fun z => absurd z (by decide))
                refine v_iconst C (1) dX2_isFitBus_135 (by decide) ?_
                refine v_goto C 140 dX2_isFitBus_136 (by decide) ?_
                refine v_istore_n C dX2_isFitBus_140 (by decide) ?_
                refine v_incN C dX2_isFitBus_141 rfl (by decide) ?_
                refine v_goto C 39 dX2_isFitBus_144 (by decide) ?_
                rw [nI_eq (show k < 2 ^ 31 by omega) (show r < 2 ^ 31 by omega)] at c4
                have e : b2i (mbK n x b r (k + 1)) = 1 := by
                  first
                    | exact b2i_t ⟨c16.1, c16.2, fun z => by obtain ⟨⟨z1, z2, z3 | z3⟩, z4, z5⟩ := z <;> contradiction⟩
                    | exact b2i_t (by simp_all [mbK, allb, mbP])
                have q := ih_k hk trivial
                rw [e] at q
                exact V.lof 5 q
            · -- 84 f: not ¬ (x 9 k) = 2
              refine v_iconst C (1) dX2_isFitBus_87 (by decide) ?_
              refine v_goto C 92 dX2_isFitBus_88 (by decide) ?_
              refine v_istore C dX2_isFitBus_92 (by decide) ?_
              refine v_iload_n C dX2_isFitBus_94 rfl ?_
              refine v_if_eq C 139 dX2_isFitBus_95 (by decide) (fun c18 => ?_) (fun c18 => ?_)
              · -- 95 t: (b2i (mbK n x b r k)) = 0
                replace c18 := b2i_0.mp c18
                refine v_iconst C (0) dX2_isFitBus_139 (by decide) ?_
                refine v_istore_n C dX2_isFitBus_140 (by decide) ?_
                refine v_incN C dX2_isFitBus_141 rfl (by decide) ?_
                refine v_goto C 39 dX2_isFitBus_144 (by decide) ?_
                rw [nI_eq (show k < 2 ^ 31 by omega) (show r < 2 ^ 31 by omega)] at c4
                have e : b2i (mbK n x b r (k + 1)) = 0 := by
                  exact b2i_f (by simp_all [mbK, allb, mbP])
                have q := ih_k hk trivial
                rw [e] at q
                exact V.lof 5 q
              · -- 95 f: not (b2i (mbK n x b r k)) = 0
                replace c18 := Classical.not_not.mp (fun z => c18 (b2i_0.mpr z))
                refine v_iload C dX2_isFitBus_98 rfl ?_
                refine v_if_eq C 135 dX2_isFitBus_100 (by decide) (fun z => absurd z (by decide)) (fun z => ?_)
                refine v_aload_n C dX2_isFitBus_103 rfl ?_
                refine vM_g_starts C hin2 (by decide +kernel) dX2_isFitBus_104 ?_
                refine v_iload C dX2_isFitBus_107 rfl ?_
                refine vM_l_starts C k rfl (by omega) dX2_isFitBus_109 ?_
                refine v_aload_n C dX2_isFitBus_110 rfl ?_
                refine vM_g_ends C hin2 (by decide +kernel) dX2_isFitBus_111 ?_
                refine v_iload_n C dX2_isFitBus_114 rfl ?_
                refine vM_l_ends C r rfl (by omega) dX2_isFitBus_115 ?_
                refine v_icmp_ge C 135 dX2_isFitBus_116 (by decide) (fun c20 => ?_) (fun c20 => ?_)
                · -- 116 t: ¬ (x 6 k) < (x 7 r)
                  refine v_iconst C (1) dX2_isFitBus_135 (by decide) ?_
                  refine v_goto C 140 dX2_isFitBus_136 (by decide) ?_
                  refine v_istore_n C dX2_isFitBus_140 (by decide) ?_
                  refine v_incN C dX2_isFitBus_141 rfl (by decide) ?_
                  refine v_goto C 39 dX2_isFitBus_144 (by decide) ?_
                  rw [nI_eq (show k < 2 ^ 31 by omega) (show r < 2 ^ 31 by omega)] at c4
                  have e : b2i (mbK n x b r (k + 1)) = 1 := by
                    first
                      | exact b2i_t ⟨c18.1, c18.2, fun z => by obtain ⟨⟨z1, z2, z3 | z3⟩, z4, z5⟩ := z <;> contradiction⟩
                      | exact b2i_t (by simp_all [mbK, allb, mbP])
                  have q := ih_k hk trivial
                  rw [e] at q
                  exact V.lof 5 q
                · -- 116 f: not ¬ (x 6 k) < (x 7 r)
                  refine v_aload_n C dX2_isFitBus_119 rfl ?_
                  refine vM_g_starts C hin2 (by decide +kernel) dX2_isFitBus_120 ?_
                  refine v_iload_n C dX2_isFitBus_123 rfl ?_
                  refine vM_l_starts C r rfl (by omega) dX2_isFitBus_124 ?_
                  refine v_aload_n C dX2_isFitBus_125 rfl ?_
                  refine vM_g_ends C hin2 (by decide +kernel) dX2_isFitBus_126 ?_
                  refine v_iload C dX2_isFitBus_129 rfl ?_
                  refine vM_l_ends C k rfl (by omega) dX2_isFitBus_131 ?_
                  refine v_icmp_lt C 139 dX2_isFitBus_132 (by decide) (fun c21 => ?_) (fun c21 => ?_)
                  · -- 132 t: (x 6 r) < (x 7 k)
                    refine v_iconst C (0) dX2_isFitBus_139 (by decide) ?_
                    refine v_istore_n C dX2_isFitBus_140 (by decide) ?_
                    refine v_incN C dX2_isFitBus_141 rfl (by decide) ?_
                    refine v_goto C 39 dX2_isFitBus_144 (by decide) ?_
                    rw [nI_eq (show k < 2 ^ 31 by omega) (show r < 2 ^ 31 by omega)] at c4
                    have e : b2i (mbK n x b r (k + 1)) = 0 := by
                      exact b2i_f (by simp_all [mbK, allb, mbP])
                    have q := ih_k hk trivial
                    rw [e] at q
                    exact V.lof 5 q
                  · -- 132 f: not (x 6 r) < (x 7 k)
                    refine v_iconst C (1) dX2_isFitBus_135 (by decide) ?_
                    refine v_goto C 140 dX2_isFitBus_136 (by decide) ?_
                    refine v_istore_n C dX2_isFitBus_140 (by decide) ?_
                    refine v_incN C dX2_isFitBus_141 rfl (by decide) ?_
                    refine v_goto C 39 dX2_isFitBus_144 (by decide) ?_
                    rw [nI_eq (show k < 2 ^ 31 by omega) (show r < 2 ^ 31 by omega)] at c4
                    have e : b2i (mbK n x b r (k + 1)) = 1 := by
                      first
                        | exact b2i_t ⟨c18.1, c18.2, fun z => by obtain ⟨⟨z1, z2, z3 | z3⟩, z4, z5⟩ := z <;> contradiction⟩
                        | exact b2i_t (by simp_all [mbK, allb, mbP])
                    have q := ih_k hk trivial
                    rw [e] at q
                    exact V.lof 5 q
set_option maxHeartbeats 4000000 in
set_option maxRecDepth 100000 in
/-- isFitDriver(d, r) -/
theorem k_X2_isFitDriver (l : Launch) (G : va_G) (cy : Nat → ClassId) (am : Nat → Nat) (x : Sg) (n : Nat) (hn : x 1 0 = nI n) (h30 : n ≤ 30) (d : Nat) (hd5 : d < 5) (r : Nat) (hr : r < 30) : KI l G cy yX2_isFitDriver wsX2_isFitDriver 1 21 0 0 [.ref (am 0), .int (nI d), .int (nI r)] (wM cy am x) (b2i (mdf n x d r)) (wM cy am x) := by
  have hin2 : ∀ q ∈ u_ws RX2 TX2 18, q ∈ wsX2_isFitDriver := by decide +kernel
  refine KI_of (own := RX2) (cc := cX2_isFitDriver) (maxL := 6) (ret := (some .boolean)) (lo0 := [some (.ref (am 0)), some (.int (nI d)), some (.int (nI r)), none, none, none]) (by decide) rfl rfl (by simp [Value.category]) (Nat.le_of_ble_eq_true rfl) rfl (fun p e s m args below meth c A C => ?_)
  refine V.join (wM cy am x) 14 (fun _ => ([some (.ref (am 0)), some (.int (nI d)), some (.int (nI r)), none, none, none] : List (Option Value))) (fun v => (.int v :: [] : List Value)) (b2i (mdK x d r 0)) (fun J1 => ?_) ?_
  · -- up to the join
    refine v_aload_n C dX2_isFitDriver_0 rfl ?_
    refine vM_g_isIll C hin2 (by decide +kernel) dX2_isFitDriver_1 ?_
    refine v_iload_n C dX2_isFitDriver_4 rfl ?_
    refine vM_l_isIll C d rfl (by omega) dX2_isFitDriver_5 ?_
    refine v_if_ne C 13 dX2_isFitDriver_6 (by decide) (fun c1 => ?_) (fun c1 => ?_)
    · -- 6 t: ¬ (x 14 d) = 0
      refine v_iconst C (0) dX2_isFitDriver_13 (by decide) ?_
      refine J1 _ ?_
      exact (b2i_f (by simp [mdK, allb, c1])).symm
    · -- 6 f: not ¬ (x 14 d) = 0
      refine v_iconst C (1) dX2_isFitDriver_9 (by decide) ?_
      refine v_goto C 14 dX2_isFitDriver_10 (by decide) ?_
      refine J1 _ ?_
      exact (b2i_t (by simp [mdK, allb, c1])).symm
  · -- behind the join
    refine v_istore_n C dX2_isFitDriver_14 (by decide) ?_
    refine v_aload_n C dX2_isFitDriver_15 rfl ?_
    refine vM_g_ends C hin2 (by decide +kernel) dX2_isFitDriver_16 ?_
    refine v_iload_n C dX2_isFitDriver_19 rfl ?_
    refine vM_l_ends C r rfl (by omega) dX2_isFitDriver_20 ?_
    refine v_aload_n C dX2_isFitDriver_21 rfl ?_
    refine vM_g_starts C hin2 (by decide +kernel) dX2_isFitDriver_22 ?_
    refine v_iload_n C dX2_isFitDriver_25 rfl ?_
    refine vM_l_starts C r rfl (by omega) dX2_isFitDriver_26 ?_
    refine v_isub C dX2_isFitDriver_27 ?_
    refine v_istore C dX2_isFitDriver_28 (by decide) ?_
    refine v_iconst C (0) dX2_isFitDriver_30 (by decide) ?_
    refine v_istore C dX2_isFitDriver_31 (by decide) ?_
    refine V.loop (fun k : Nat => wM cy am x) (fun k : Nat => ([some (.ref (am 0)), some (.int (nI d)), some (.int (nI r)), some (.int (b2i (mdK x d r k))), some (.int (sumG (x 7 r - x 6 r) (mdG x d r) k)), some (.int (nI k))] : List (Option Value))) (fun k : Nat => True) n ?_ trivial
    intro k hle_k hP_k ih_k
    try dsimp only at hP_k ih_k ⊢
    refine v_iload C dX2_isFitDriver_33 rfl ?_
    refine v_aload_n C dX2_isFitDriver_35 rfl ?_
    refine vM_g_runMany C hin2 (by decide +kernel) dX2_isFitDriver_36 ?_
    refine v_geN C k n 166 dX2_isFitDriver_39 (by decide) rfl hn (by omega) (by omega) (fun c2 => ?_) (fun c2 => ?_)
    · -- loop 33 is over
      have e_k : n = k := by omega
      subst e_k
      refine v_iload_n C dX2_isFitDriver_166 rfl ?_
      refine v_if_eq C 182 dX2_isFitDriver_167 (by decide) (fun c3 => ?_) (fun c3 => ?_)
      · -- 167 t: (b2i (mdK x d r n)) = 0
        replace c3 := b2i_0.mp c3
        refine v_iconst C (0) dX2_isFitDriver_182 (by decide) ?_
        refine v_zret C rfl dX2_isFitDriver_183 ?_
        exact (b2i_f (by simp [mdf, c3])).symm
      · -- 167 f: not (b2i (mdK x d r n)) = 0
        replace c3 := Classical.not_not.mp (fun z => c3 (b2i_0.mpr z))
        refine v_iload C dX2_isFitDriver_170 rfl ?_
        refine v_sipush C (480) dX2_isFitDriver_172 (by decide) ?_
        refine v_icmp_gt C 182 dX2_isFitDriver_175 (by decide) (fun c4 => ?_) (fun c4 => ?_)
        · -- 175 t: 480 < (sumG (x 7 r - x 6 r) (mdG x d r) n)
          refine v_iconst C (0) dX2_isFitDriver_182 (by decide) ?_
          refine v_zret C rfl dX2_isFitDriver_183 ?_
          exact (b2i_f (by simp [mdf, c3, c4])).symm
        · -- 175 f: not 480 < (sumG (x 7 r - x 6 r) (mdG x d r) n)
          refine v_iconst C (1) dX2_isFitDriver_178 (by decide) ?_
          refine v_goto C 183 dX2_isFitDriver_179 (by decide) ?_
          refine v_zret C rfl dX2_isFitDriver_183 ?_
          exact (b2i_t (by simp [mdf, c3, c4])).symm
    · have hk : k < n := c2
      refine v_iload C dX2_isFitDriver_42 rfl ?_
      refine v_iload_n C dX2_isFitDriver_44 rfl ?_
      refine v_icmp_eq C 160 dX2_isFitDriver_45 (by decide) (fun c5 => ?_) (fun c5 => ?_)
      · -- 45 t: (nI k) = (nI r)
        refine v_incN C dX2_isFitDriver_160 rfl (by decide) ?_
        refine v_goto C 33 dX2_isFitDriver_163 (by decide) ?_
        rw [nI_eq (show k < 2 ^ 31 by omega) (show r < 2 ^ 31 by omega)] at c5
        have e : b2i (mdK x d r (k + 1)) = b2i (mdK x d r k) := b2i_c (by simp_all [mdK, allb, mdP, mdQ, mdR])
        have e2 : sumG (x 7 r - x 6 r) (mdG x d r) (k + 1) = sumG (x 7 r - x 6 r) (mdG x d r) k := by simp_all [sumG, mdG, mdQ, pif]
        have q := ih_k hk trivial
        rw [e, e2] at q
        exact q
      · -- 45 f: not (nI k) = (nI r)
        refine v_aload_n C dX2_isFitDriver_48 rfl ?_
        refine vM_g_drivers C hin2 (by decide +kernel) dX2_isFitDriver_49 ?_
        refine v_iload C dX2_isFitDriver_52 rfl ?_
        refine vM_l_drivers C k rfl (by omega) dX2_isFitDriver_54 ?_
        refine v_iload_n C dX2_isFitDriver_55 rfl ?_
        refine v_icmp_ne C 160 dX2_isFitDriver_56 (by decide) (fun c6 => ?_) (fun c6 => ?_)
        · -- 56 t: ¬ (x 11 k) = (nI d)
          refine v_incN C dX2_isFitDriver_160 rfl (by decide) ?_
          refine v_goto C 33 dX2_isFitDriver_163 (by decide) ?_
          rw [nI_eq (show k < 2 ^ 31 by omega) (show r < 2 ^ 31 by omega)] at c5
          have e : b2i (mdK x d r (k + 1)) = b2i (mdK x d r k) := b2i_c (by simp_all [mdK, allb, mdP, mdQ, mdR])
          have e2 : sumG (x 7 r - x 6 r) (mdG x d r) (k + 1) = sumG (x 7 r - x 6 r) (mdG x d r) k := by simp_all [sumG, mdG, mdQ, pif]
          have q := ih_k hk trivial
          rw [e, e2] at q
          exact q
        · -- 56 f: not ¬ (x 11 k) = (nI d)
          refine v_aload_n C dX2_isFitDriver_59 rfl ?_
          refine v_iload C dX2_isFitDriver_60 rfl ?_
          refine vM_cI C (k_X2_isWorked l G cy am x k (by omega)) rfl gX2_isFitDriver_X2_isWorked (nA := 1) (by decide +kernel) rfl (by decide) (by decide) rfl rfl (Nat.le_of_ble_eq_true rfl) dX2_isFitDriver_62 ?_
          refine v_if_eq C 160 dX2_isFitDriver_65 (by decide) (fun c7 => ?_) (fun c7 => ?_)
          · -- 65 t: (b2i (wkd x k)) = 0
            replace c7 := b2i_0.mp c7
            refine v_incN C dX2_isFitDriver_160 rfl (by decide) ?_
            refine v_goto C 33 dX2_isFitDriver_163 (by decide) ?_
            rw [nI_eq (show k < 2 ^ 31 by omega) (show r < 2 ^ 31 by omega)] at c5
            have e : b2i (mdK x d r (k + 1)) = b2i (mdK x d r k) := b2i_c (by simp_all [mdK, allb, mdP, mdQ, mdR])
            have e2 : sumG (x 7 r - x 6 r) (mdG x d r) (k + 1) = sumG (x 7 r - x 6 r) (mdG x d r) k := by simp_all [sumG, mdG, mdQ, pif]
            have q := ih_k hk trivial
            rw [e, e2] at q
            exact q
          · -- 65 f: not (b2i (wkd x k)) = 0
            replace c7 := Classical.not_not.mp (fun z => c7 (b2i_0.mpr z))
            refine v_aload_n C dX2_isFitDriver_68 rfl ?_
            refine vM_g_starts C hin2 (by decide +kernel) dX2_isFitDriver_69 ?_
            refine v_iload C dX2_isFitDriver_72 rfl ?_
            refine vM_l_starts C k rfl (by omega) dX2_isFitDriver_74 ?_
            refine v_sipush C (1440) dX2_isFitDriver_75 (by decide) ?_
            refine v_idiv C dX2_isFitDriver_78 (by decide) ?_
            refine v_aload_n C dX2_isFitDriver_79 rfl ?_
            refine vM_g_starts C hin2 (by decide +kernel) dX2_isFitDriver_80 ?_
            refine v_iload_n C dX2_isFitDriver_83 rfl ?_
            refine vM_l_starts C r rfl (by omega) dX2_isFitDriver_84 ?_
            refine v_sipush C (1440) dX2_isFitDriver_85 (by decide) ?_
            refine v_idiv C dX2_isFitDriver_88 (by decide) ?_
            refine v_icmp_ne C 160 dX2_isFitDriver_89 (by decide) (fun c8 => ?_) (fun c8 => ?_)
            · -- 89 t: ¬ ((x 6 k) / 1440) = ((x 6 r) / 1440)
              refine v_incN C dX2_isFitDriver_160 rfl (by decide) ?_
              refine v_goto C 33 dX2_isFitDriver_163 (by decide) ?_
              rw [nI_eq (show k < 2 ^ 31 by omega) (show r < 2 ^ 31 by omega)] at c5
              have e : b2i (mdK x d r (k + 1)) = b2i (mdK x d r k) := b2i_c (by simp_all [mdK, allb, mdP, mdQ, mdR])
              have e2 : sumG (x 7 r - x 6 r) (mdG x d r) (k + 1) = sumG (x 7 r - x 6 r) (mdG x d r) k := by simp_all [sumG, mdG, mdQ, pif]
              have q := ih_k hk trivial
              rw [e, e2] at q
              exact q
            · -- 89 f: not ¬ ((x 6 k) / 1440) = ((x 6 r) / 1440)
              refine v_iload C dX2_isFitDriver_92 rfl ?_
              refine v_aload_n C dX2_isFitDriver_94 rfl ?_
              refine vM_g_ends C hin2 (by decide +kernel) dX2_isFitDriver_95 ?_
              refine v_iload C dX2_isFitDriver_98 rfl ?_
              refine vM_l_ends C k rfl (by omega) dX2_isFitDriver_100 ?_
              refine v_aload_n C dX2_isFitDriver_101 rfl ?_
              refine vM_g_starts C hin2 (by decide +kernel) dX2_isFitDriver_102 ?_
              refine v_iload C dX2_isFitDriver_105 rfl ?_
              refine vM_l_starts C k rfl (by omega) dX2_isFitDriver_107 ?_
              refine v_isub C dX2_isFitDriver_108 ?_
              refine v_iadd C dX2_isFitDriver_109 ?_
              refine v_istore C dX2_isFitDriver_110 (by decide) ?_
              refine v_iload_n C dX2_isFitDriver_112 rfl ?_
              refine v_if_eq C 158 dX2_isFitDriver_113 (by decide) (fun c9 => ?_) (fun c9 => ?_)
              · -- 113 t: (b2i (mdK x d r k)) = 0
                replace c9 := b2i_0.mp c9
                refine v_iconst C (0) dX2_isFitDriver_158 (by decide) ?_
                refine v_istore_n C dX2_isFitDriver_159 (by decide) ?_
                refine v_incN C dX2_isFitDriver_160 rfl (by decide) ?_
                refine v_goto C 33 dX2_isFitDriver_163 (by decide) ?_
                rw [nI_eq (show k < 2 ^ 31 by omega) (show r < 2 ^ 31 by omega)] at c5
                have e : b2i (mdK x d r (k + 1)) = 0 := b2i_f (by simp_all [mdK, allb, mdP, mdQ, mdR])
                have e2 : sumG (x 7 r - x 6 r) (mdG x d r) (k + 1) = (sumG (x 7 r - x 6 r) (mdG x d r) k) + ((x 7 k) - (x 6 k)) := by simp_all [sumG, mdG, mdQ, pif]
                have q := ih_k hk trivial
                rw [e, e2] at q
                exact q
              · -- 113 f: not (b2i (mdK x d r k)) = 0
                replace c9 := Classical.not_not.mp (fun z => c9 (b2i_0.mpr z))
                refine v_aload_n C dX2_isFitDriver_116 rfl ?_
                refine vM_g_ends C hin2 (by decide +kernel) dX2_isFitDriver_117 ?_
                refine v_iload C dX2_isFitDriver_120 rfl ?_
                refine vM_l_ends C k rfl (by omega) dX2_isFitDriver_122 ?_
                refine v_bipush C (30) dX2_isFitDriver_123 (by decide) ?_
                refine v_iadd C dX2_isFitDriver_125 ?_
                refine v_aload_n C dX2_isFitDriver_126 rfl ?_
                refine vM_g_starts C hin2 (by decide +kernel) dX2_isFitDriver_127 ?_
                refine v_iload_n C dX2_isFitDriver_130 rfl ?_
                refine vM_l_starts C r rfl (by omega) dX2_isFitDriver_131 ?_
                refine v_icmp_le C 154 dX2_isFitDriver_132 (by decide) (fun c10 => ?_) (fun c10 => ?_)
                · -- 132 t: ¬ (x 6 r) < ((x 7 k) + 30)
                  refine v_iconst C (1) dX2_isFitDriver_154 (by decide) ?_
                  refine v_goto C 159 dX2_isFitDriver_155 (by decide) ?_
                  refine v_istore_n C dX2_isFitDriver_159 (by decide) ?_
                  refine v_incN C dX2_isFitDriver_160 rfl (by decide) ?_
                  refine v_goto C 33 dX2_isFitDriver_163 (by decide) ?_
                  rw [nI_eq (show k < 2 ^ 31 by omega) (show r < 2 ^ 31 by omega)] at c5
                  have e : b2i (mdK x d r (k + 1)) = 1 := b2i_t (by simp_all [mdK, allb, mdP, mdQ, mdR])
                  have e2 : sumG (x 7 r - x 6 r) (mdG x d r) (k + 1) = (sumG (x 7 r - x 6 r) (mdG x d r) k) + ((x 7 k) - (x 6 k)) := by simp_all [sumG, mdG, mdQ, pif]
                  have q := ih_k hk trivial
                  rw [e, e2] at q
                  exact q
                · -- 132 f: not ¬ (x 6 r) < ((x 7 k) + 30)
                  refine v_aload_n C dX2_isFitDriver_135 rfl ?_
                  refine vM_g_ends C hin2 (by decide +kernel) dX2_isFitDriver_136 ?_
                  refine v_iload_n C dX2_isFitDriver_139 rfl ?_
                  refine vM_l_ends C r rfl (by omega) dX2_isFitDriver_140 ?_
                  refine v_bipush C (30) dX2_isFitDriver_141 (by decide) ?_
                  refine v_iadd C dX2_isFitDriver_143 ?_
                  refine v_aload_n C dX2_isFitDriver_144 rfl ?_
                  refine vM_g_starts C hin2 (by decide +kernel) dX2_isFitDriver_145 ?_
                  refine v_iload C dX2_isFitDriver_148 rfl ?_
                  refine vM_l_starts C k rfl (by omega) dX2_isFitDriver_150 ?_
                  refine v_icmp_gt C 158 dX2_isFitDriver_151 (by decide) (fun c11 => ?_) (fun c11 => ?_)
                  · -- 151 t: (x 6 k) < ((x 7 r) + 30)
                    refine v_iconst C (0) dX2_isFitDriver_158 (by decide) ?_
                    refine v_istore_n C dX2_isFitDriver_159 (by decide) ?_
                    refine v_incN C dX2_isFitDriver_160 rfl (by decide) ?_
                    refine v_goto C 33 dX2_isFitDriver_163 (by decide) ?_
                    rw [nI_eq (show k < 2 ^ 31 by omega) (show r < 2 ^ 31 by omega)] at c5
                    have e : b2i (mdK x d r (k + 1)) = 0 := b2i_f (by simp_all [mdK, allb, mdP, mdQ, mdR])
                    have e2 : sumG (x 7 r - x 6 r) (mdG x d r) (k + 1) = (sumG (x 7 r - x 6 r) (mdG x d r) k) + ((x 7 k) - (x 6 k)) := by simp_all [sumG, mdG, mdQ, pif]
                    have q := ih_k hk trivial
                    rw [e, e2] at q
                    exact q
                  · -- 151 f: not (x 6 k) < ((x 7 r) + 30)
                    refine v_iconst C (1) dX2_isFitDriver_154 (by decide) ?_
                    refine v_goto C 159 dX2_isFitDriver_155 (by decide) ?_
                    refine v_istore_n C dX2_isFitDriver_159 (by decide) ?_
                    refine v_incN C dX2_isFitDriver_160 rfl (by decide) ?_
                    refine v_goto C 33 dX2_isFitDriver_163 (by decide) ?_
                    rw [nI_eq (show k < 2 ^ 31 by omega) (show r < 2 ^ 31 by omega)] at c5
                    have e : b2i (mdK x d r (k + 1)) = 1 := b2i_t (by simp_all [mdK, allb, mdP, mdQ, mdR])
                    have e2 : sumG (x 7 r - x 6 r) (mdG x d r) (k + 1) = (sumG (x 7 r - x 6 r) (mdG x d r) k) + ((x 7 k) - (x 6 k)) := by simp_all [sumG, mdG, mdQ, pif]
                    have q := ih_k hk trivial
                    rw [e, e2] at q
                    exact q
set_option maxHeartbeats 4000000 in
set_option maxRecDepth 100000 in
/-- isGoing(b) -/
theorem k_X2_isGoing (l : Launch) (G : va_G) (cy : Nat → ClassId) (am : Nat → Nat) (x : Sg) (n : Nat) (hn : x 1 0 = nI n) (h30 : n ≤ 30) (b : Int32) : KI l G cy yX2_isGoing wsX2_isGoing 0 0 0 0 [.ref (am 0), .int b] (wM cy am x) (b2i (under n x b)) (wM cy am x) := by
  have hin2 : ∀ q ∈ u_ws RX2 TX2 18, q ∈ wsX2_isGoing := by decide +kernel
  refine KI_of (own := RX2) (cc := cX2_isGoing) (maxL := 4) (ret := (some .boolean)) (lo0 := [some (.ref (am 0)), some (.int b), none, none]) (by decide) rfl rfl (by simp [Value.category]) (Nat.le_of_ble_eq_true rfl) rfl (fun p e s m args below meth c A C => ?_)
  refine v_iconst C (0) dX2_isGoing_0 (by decide) ?_
  refine v_istore_n C dX2_isGoing_1 (by decide) ?_
  refine v_iconst C (0) dX2_isGoing_2 (by decide) ?_
  refine v_istore_n C dX2_isGoing_3 (by decide) ?_
  refine V.el (lo' := [some (.ref (am 0)), some (.int b), some (.int (b2i (exb (mgo x b) 0))), some (.int (nI 0))]) (by rw [show b2i (exb (mgo x b) 0) = 0 from b2i_f id]; rfl) ?_
  refine V.loop (fun k : Nat => wM cy am x) (fun k : Nat => ([some (.ref (am 0)), some (.int b), some (.int (b2i (exb (mgo x b) k))), some (.int (nI k))] : List (Option Value))) (fun k : Nat => True) n ?_ trivial
  intro k hle_k hP_k ih_k
  try dsimp only at hP_k ih_k ⊢
  refine v_iload_n C dX2_isGoing_4 rfl ?_
  refine v_aload_n C dX2_isGoing_5 rfl ?_
  refine vM_g_runMany C hin2 (by decide +kernel) dX2_isGoing_6 ?_
  refine v_geN C k n 48 dX2_isGoing_9 (by decide) rfl hn (by omega) (by omega) (fun c1 => ?_) (fun c1 => ?_)
  · -- loop 4 is over
    have e_k : n = k := by omega
    subst e_k
    refine v_iload_n C dX2_isGoing_48 rfl ?_
    refine v_zret C (b2i_n _) dX2_isGoing_49 ?_
    exact b2i_c exb_iff
  · have hk : k < n := c1
    refine v_iload_n C dX2_isGoing_12 rfl ?_
    refine v_if_ne C 36 dX2_isGoing_13 (by decide) (fun c2 => ?_) (fun c2 => ?_)
    · -- 13 t: ¬ (b2i (exb (mgo x b) k)) = 0
      replace c2 := Classical.not_not.mp (fun z => c2 (b2i_0.mpr z))
      refine v_iconst C (1) dX2_isGoing_36 (by decide) ?_
      refine v_goto C 41 dX2_isGoing_37 (by decide) ?_
      refine v_istore_n C dX2_isGoing_41 (by decide) ?_
      refine v_incN C dX2_isGoing_42 rfl (by decide) ?_
      refine v_goto C 4 dX2_isGoing_45 (by decide) ?_
      have e : b2i (exb (mgo x b) (k + 1)) = 1 := b2i_t (by simp_all [exb, mgo])
      have q := ih_k hk trivial
      rw [e] at q
      exact q
    · -- 13 f: not ¬ (b2i (exb (mgo x b) k)) = 0
      replace c2 := b2i_0.mp c2
      refine v_aload_n C dX2_isGoing_16 rfl ?_
      refine vM_g_states C hin2 (by decide +kernel) dX2_isGoing_17 ?_
      refine v_iload_n C dX2_isGoing_20 rfl ?_
      refine vM_l_states C k rfl (by omega) dX2_isGoing_21 ?_
      refine v_iconst C (2) dX2_isGoing_22 (by decide) ?_
      refine v_icmp_ne C 40 dX2_isGoing_23 (by decide) (fun c3 => ?_) (fun c3 => ?_)
      · -- 23 t: ¬ (x 9 k) = 2
        refine v_iconst C (0) dX2_isGoing_40 (by decide) ?_
        refine v_istore_n C dX2_isGoing_41 (by decide) ?_
        refine v_incN C dX2_isGoing_42 rfl (by decide) ?_
        refine v_goto C 4 dX2_isGoing_45 (by decide) ?_
        have e : b2i (exb (mgo x b) (k + 1)) = 0 := b2i_f (by simp_all [exb, mgo])
        have q := ih_k hk trivial
        rw [e] at q
        exact q
      · -- 23 f: not ¬ (x 9 k) = 2
        refine v_aload_n C dX2_isGoing_26 rfl ?_
        refine vM_g_buses C hin2 (by decide +kernel) dX2_isGoing_27 ?_
        refine v_iload_n C dX2_isGoing_30 rfl ?_
        refine vM_l_buses C k rfl (by omega) dX2_isGoing_31 ?_
        refine v_iload_n C dX2_isGoing_32 rfl ?_
        refine v_icmp_ne C 40 dX2_isGoing_33 (by decide) (fun c4 => ?_) (fun c4 => ?_)
        · -- 33 t: ¬ (x 10 k) = b
          refine v_iconst C (0) dX2_isGoing_40 (by decide) ?_
          refine v_istore_n C dX2_isGoing_41 (by decide) ?_
          refine v_incN C dX2_isGoing_42 rfl (by decide) ?_
          refine v_goto C 4 dX2_isGoing_45 (by decide) ?_
          have e : b2i (exb (mgo x b) (k + 1)) = 0 := b2i_f (by simp_all [exb, mgo])
          have q := ih_k hk trivial
          rw [e] at q
          exact q
        · -- 33 f: not ¬ (x 10 k) = b
          refine v_iconst C (1) dX2_isGoing_36 (by decide) ?_
          refine v_goto C 41 dX2_isGoing_37 (by decide) ?_
          refine v_istore_n C dX2_isGoing_41 (by decide) ?_
          refine v_incN C dX2_isGoing_42 rfl (by decide) ?_
          refine v_goto C 4 dX2_isGoing_45 (by decide) ?_
          have e : b2i (exb (mgo x b) (k + 1)) = 1 := b2i_t (by simp_all [exb, mgo])
          have q := ih_k hk trivial
          rw [e] at q
          exact q
