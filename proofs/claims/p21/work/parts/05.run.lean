/-! DepotLog$Run: its methods -/
/-! WHAT DepotLog's METHODS DO, as functions of the state; n: how many runs there are -/
theorem ix_of {x : Int32} {N : Nat} (hN : N < 2 ^ 31) (h0 : ¬ x < 0) (h : x < nI N) : x = nI x.toNatClampNeg ∧ x.toNatClampNeg < N := by
  obtain ⟨j, hj, rfl⟩ := nI_of h0
  rw [nI_clamp hj]
  exact ⟨rfl, (nI_ltI hj hN).mp h⟩
def fdrop (x : Sg) (j : Nat) (v : Int32) : Sg := su (su (su x 9 j v) 10 j (-1)) 11 j (-1)
def fgive (x : Sg) (j : Nat) (b d : Int32) : Sg := su (su (su x 9 j 1) 10 j b) 11 j d
def ftell (x : Sg) (j : Nat) (a m q : Int32) : Sg := su (su (su x 6 j a) 7 j (a + m)) 8 j q
def holds (x : Sg) (j : Nat) (b : Int32) : Prop := x 10 j = b ∧ (x 9 j = 1 ∨ x 9 j = 2)
def works (x : Sg) (j : Nat) (d day : Int32) : Prop := x 11 j = d ∧ x 6 j / 1440 = day
def meets (x : Sg) (j i : Nat) : Prop := x 6 j < x 7 i ∧ x 6 i < x 7 j
def rested (x : Sg) (j i : Nat) : Prop := ¬ x 6 i < x 7 j + 30 ∨ ¬ x 6 j < x 7 i + 30
noncomputable def gprom (x : Sg) (b : Int32) (k : Nat) : Int32 := pif (x 10 k = b ∧ x 9 k = 1) (x 8 k) 0
noncomputable def fprom (n : Nat) (x : Sg) (b : Int32) : Int32 := sumF (gprom x b) n
noncomputable def gwork (x : Sg) (d day : Int32) (k : Nat) : Int32 := pif (works x k d day) (x 7 k - x 6 k) 0
noncomputable def fwork (n : Nat) (x : Sg) (d day : Int32) : Int32 := sumF (gwork x d day) n
noncomputable def flead (x : Sg) : Int32 := pif (x 0 0 < x 4 0) (x 3 0) (-1)
def under (n : Nat) (x : Sg) (b : Int32) : Prop := ∃ k, k < n ∧ x 9 k = 2 ∧ x 10 k = b
def busfit (n : Nat) (x : Sg) (b : Nat) (r : Nat) : Prop := x 13 b = 0 ∧ ¬ x 12 b - fprom n x (nI b) < x 8 r ∧ ∀ k, k < n → ¬ (holds x k (nI b) ∧ meets x k r)
def drvfit (n : Nat) (x : Sg) (d : Nat) (r : Nat) : Prop := x 14 d = 0 ∧ ¬ 480 < fwork n x (nI d) (x 6 r / 1440) + (x 7 r - x 6 r) ∧ ∀ k, k < n → ¬ (works x k (nI d) (x 6 r / 1440) ∧ ¬ rested x k r)
noncomputable def lowbus (n : Nat) (x : Sg) (r : Nat) : Int32 := lowF (fun b => busfit n x b r) 5 0
noncomputable def lowdrv (n : Nat) (x : Sg) (r : Nat) : Int32 := lowF (fun d => drvfit n x d r) 5 0
noncomputable def sunplug (b : Int32) (c : Nat) (y : Sg) : Sg := pif (y 15 c = b) (su y 15 c (-1)) y
noncomputable def funplug (x : Sg) (b : Int32) : Sg := it (sunplug b) 2 x
noncomputable def fsend (x : Sg) (b q : Int32) : Sg := pif (¬ b < 0 ∧ b < 5) (funplug (su x 12 b.toNatClampNeg (x 12 b.toNatClampNeg - q)) b) x
noncomputable def stakeb (b : Int32) (k : Nat) (y : Sg) : Sg := pif (y 9 k = 1 ∧ y 10 k = b) (fdrop y k 0) y
noncomputable def staked (d : Int32) (k : Nat) (y : Sg) : Sg := pif (y 9 k = 1 ∧ y 11 k = d) (fdrop y k 0) y
noncomputable def fgiveb (n : Nat) (x : Sg) (r : Nat) : Sg := pif (lowbus n (su x 10 r (-1)) r = -1) (fdrop (su x 10 r (-1)) r 4) (fsend (su (su x 10 r (-1)) 10 r (lowbus n (su x 10 r (-1)) r)) (lowbus n (su x 10 r (-1)) r) (x 8 r))
noncomputable def fgived (n : Nat) (x : Sg) (r : Nat) : Sg := pif (lowdrv n (su x 11 r (-1)) r = -1) (fdrop (su x 11 r (-1)) r 4) (su (su x 11 r (-1)) 11 r (lowdrv n (su x 11 r (-1)) r))
noncomputable def sswapb (n : Nat) (b : Int32) (k : Nat) (y : Sg) : Sg := pif (y 9 k = 2 ∧ y 10 k = b) (fgiveb n y k) y
noncomputable def sswapd (n : Nat) (d : Int32) (k : Nat) (y : Sg) : Sg := pif (y 9 k = 2 ∧ y 11 k = d) (fgived n y k) y
noncomputable def sload (c : Nat) (y : Sg) : Sg := pif (¬ y 15 c < 0 ∧ y 15 c < 5 ∧ y 12 (y 15 c).toNatClampNeg < 100) (su y 12 (y 15 c).toNatClampNeg (y 12 (y 15 c).toNatClampNeg + 1)) y
noncomputable def send_ (k : Nat) (y : Sg) : Sg := pif (y 9 k = 2 ∧ y 7 k = y 0 0) (su y 9 k 3) y
noncomputable def fstart (y : Sg) (k : Nat) : Sg := pif (y 9 k = 1) (fsend (su y 9 k 2) (y 10 k) (y 8 k)) (pif (y 9 k = 0) (fdrop y k 4) y)
noncomputable def sstart (k : Nat) (y : Sg) : Sg := pif (y 6 k = y 0 0) (fstart y k) y
noncomputable def fminute (n : Nat) (x : Sg) : Sg := it sstart n (it send_ n (su (it sload 2 x) 0 0 (it sload 2 x 0 0 + 1)))

set_option maxHeartbeats 4000000 in
set_option maxRecDepth 100000 in
/-- drop(v) -/
theorem k_X0_drop (l : Launch) (G : va_G) (cy : Nat → ClassId) (ad : Nat → Nat) (x : Sg) (j : Nat) (hj : j < 30) (v : Int32) : KV l G cy yX0_drop wsX0_drop 0 0 0 0 [.ref (ad (j + 8)), .int v] (wD cy ad x) (wD cy ad (fdrop x j v)) := by
  have hin0 : ∀ q ∈ u_ws RX0 TX0 6, q ∈ wsX0_drop := by decide +kernel
  refine KV_of (own := RX0) (cc := cX0_drop) (maxL := 2) (ret := none) (lo0 := [some (.ref (ad (j + 8))), some (.int v)]) (by decide) rfl rfl (by simp [Value.category]) (Nat.le_of_ble_eq_true rfl) rfl (fun p e s m args below meth c A _ C => ?_)
  refine v_aload_n C dX0_drop_0 rfl ?_
  refine v_iload_n C dX0_drop_1 rfl ?_
  refine vR_p_state C hin0 (by omega) (by decide +kernel) dX0_drop_2 ?_
  refine v_aload_n C dX0_drop_5 rfl ?_
  refine v_iconst C (-1) dX0_drop_6 (by decide) ?_
  refine vR_p_bus C hin0 (by omega) (by decide +kernel) dX0_drop_7 ?_
  refine v_aload_n C dX0_drop_10 rfl ?_
  refine v_iconst C (-1) dX0_drop_11 (by decide) ?_
  refine vR_p_driver C hin0 (by omega) (by decide +kernel) dX0_drop_12 ?_
  exact v_vret C dX0_drop_15
set_option maxHeartbeats 4000000 in
set_option maxRecDepth 100000 in
/-- give(b, d) -/
theorem k_X0_give (l : Launch) (G : va_G) (cy : Nat → ClassId) (ad : Nat → Nat) (x : Sg) (j : Nat) (hj : j < 30) (b d : Int32) : KV l G cy yX0_give wsX0_give 0 0 0 0 [.ref (ad (j + 8)), .int b, .int d] (wD cy ad x) (wD cy ad (fgive x j b d)) := by
  have hin0 : ∀ q ∈ u_ws RX0 TX0 6, q ∈ wsX0_give := by decide +kernel
  refine KV_of (own := RX0) (cc := cX0_give) (maxL := 3) (ret := none) (lo0 := [some (.ref (ad (j + 8))), some (.int b), some (.int d)]) (by decide) rfl rfl (by simp [Value.category]) (Nat.le_of_ble_eq_true rfl) rfl (fun p e s m args below meth c A _ C => ?_)
  refine v_aload_n C dX0_give_0 rfl ?_
  refine v_iconst C (1) dX0_give_1 (by decide) ?_
  refine vR_p_state C hin0 (by omega) (by decide +kernel) dX0_give_2 ?_
  refine v_aload_n C dX0_give_5 rfl ?_
  refine v_iload_n C dX0_give_6 rfl ?_
  refine vR_p_bus C hin0 (by omega) (by decide +kernel) dX0_give_7 ?_
  refine v_aload_n C dX0_give_10 rfl ?_
  refine v_iload_n C dX0_give_11 rfl ?_
  refine vR_p_driver C hin0 (by omega) (by decide +kernel) dX0_give_12 ?_
  exact v_vret C dX0_give_15
set_option maxHeartbeats 4000000 in
set_option maxRecDepth 100000 in
/-- tell(a, m, q) -/
theorem k_X0_tell (l : Launch) (G : va_G) (cy : Nat → ClassId) (ad : Nat → Nat) (x : Sg) (j : Nat) (hj : j < 30) (a m q : Int32) : KV l G cy yX0_tell wsX0_tell 0 0 0 0 [.ref (ad (j + 8)), .int a, .int m, .int q] (wD cy ad x) (wD cy ad (ftell x j a m q)) := by
  have hin0 : ∀ q ∈ u_ws RX0 TX0 6, q ∈ wsX0_tell := by decide +kernel
  refine KV_of (own := RX0) (cc := cX0_tell) (maxL := 4) (ret := none) (lo0 := [some (.ref (ad (j + 8))), some (.int a), some (.int m), some (.int q)]) (by decide) rfl rfl (by simp [Value.category]) (Nat.le_of_ble_eq_true rfl) rfl (fun p e s m args below meth c A _ C => ?_)
  refine v_aload_n C dX0_tell_0 rfl ?_
  refine v_iload_n C dX0_tell_1 rfl ?_
  refine vR_p_start C hin0 (by omega) (by decide +kernel) dX0_tell_2 ?_
  refine v_aload_n C dX0_tell_5 rfl ?_
  refine v_iload_n C dX0_tell_6 rfl ?_
  refine v_iload_n C dX0_tell_7 rfl ?_
  refine v_iadd C dX0_tell_8 ?_
  refine vR_p_end C hin0 (by omega) (by decide +kernel) dX0_tell_9 ?_
  refine v_aload_n C dX0_tell_12 rfl ?_
  refine v_iload_n C dX0_tell_13 rfl ?_
  refine vR_p_need C hin0 (by omega) (by decide +kernel) dX0_tell_14 ?_
  exact v_vret C dX0_tell_17
set_option maxHeartbeats 4000000 in
set_option maxRecDepth 100000 in
/-- holds(b) -/
theorem k_X0_holds (l : Launch) (G : va_G) (cy : Nat → ClassId) (ad : Nat → Nat) (x : Sg) (j : Nat) (hj : j < 30) (b : Int32) : KI l G cy yX0_holds wsX0_holds 0 0 0 0 [.ref (ad (j + 8)), .int b] (wD cy ad x) (b2i (holds x j b)) (wD cy ad x) := by
  have hin0 : ∀ q ∈ u_ws RX0 TX0 6, q ∈ wsX0_holds := by decide +kernel
  refine KI_of (own := RX0) (cc := cX0_holds) (maxL := 2) (ret := (some .boolean)) (lo0 := [some (.ref (ad (j + 8))), some (.int b)]) (by decide) rfl rfl (by simp [Value.category]) (Nat.le_of_ble_eq_true rfl) rfl (fun p e s m args below meth c A C => ?_)
  refine v_aload_n C dX0_holds_0 rfl ?_
  refine vR_g_bus C hin0 (by omega) (by decide +kernel) dX0_holds_1 ?_
  refine v_iload_n C dX0_holds_4 rfl ?_
  refine v_icmp_ne C 28 dX0_holds_5 (by decide) (fun c1 => ?_) (fun c1 => ?_)
  · -- 5 t: ¬ (x 10 j) = b
    refine v_iconst C (0) dX0_holds_28 (by decide) ?_
    refine v_zret C rfl dX0_holds_29 ?_
    exact (b2i_f (by simp [c1, holds])).symm
  · -- 5 f: not ¬ (x 10 j) = b
    refine v_aload_n C dX0_holds_8 rfl ?_
    refine vR_g_state C hin0 (by omega) (by decide +kernel) dX0_holds_9 ?_
    refine v_iconst C (1) dX0_holds_12 (by decide) ?_
    refine v_icmp_eq C 24 dX0_holds_13 (by decide) (fun c2 => ?_) (fun c2 => ?_)
    · -- 13 t: (x 9 j) = 1
      refine v_iconst C (1) dX0_holds_24 (by decide) ?_
      refine v_goto C 29 dX0_holds_25 (by decide) ?_
      refine v_zret C rfl dX0_holds_29 ?_
      exact (b2i_t (by simp [c1, c2, holds])).symm
    · -- 13 f: not (x 9 j) = 1
      refine v_aload_n C dX0_holds_16 rfl ?_
      refine vR_g_state C hin0 (by omega) (by decide +kernel) dX0_holds_17 ?_
      refine v_iconst C (2) dX0_holds_20 (by decide) ?_
      refine v_icmp_ne C 28 dX0_holds_21 (by decide) (fun c3 => ?_) (fun c3 => ?_)
      · -- 21 t: ¬ (x 9 j) = 2
        refine v_iconst C (0) dX0_holds_28 (by decide) ?_
        refine v_zret C rfl dX0_holds_29 ?_
        exact (b2i_f (by simp [c1, c2, c3, holds])).symm
      · -- 21 f: not ¬ (x 9 j) = 2
        refine v_iconst C (1) dX0_holds_24 (by decide) ?_
        refine v_goto C 29 dX0_holds_25 (by decide) ?_
        refine v_zret C rfl dX0_holds_29 ?_
        exact (b2i_t (by simp [c1, c2, c3, holds])).symm
set_option maxHeartbeats 4000000 in
set_option maxRecDepth 100000 in
/-- startDay() -/
theorem k_X0_startDay (l : Launch) (G : va_G) (cy : Nat → ClassId) (ad : Nat → Nat) (x : Sg) (j : Nat) (hj : j < 30) : KI l G cy yX0_startDay wsX0_startDay 0 0 0 0 [.ref (ad (j + 8))] (wD cy ad x) (x 6 j / 1440) (wD cy ad x) := by
  have hin0 : ∀ q ∈ u_ws RX0 TX0 6, q ∈ wsX0_startDay := by decide +kernel
  refine KI_of (own := RX0) (cc := cX0_startDay) (maxL := 1) (ret := (some .int)) (lo0 := [some (.ref (ad (j + 8)))]) (by decide) rfl rfl (by simp [Value.category]) (Nat.le_of_ble_eq_true rfl) rfl (fun p e s m args below meth c A C => ?_)
  refine v_aload_n C dX0_startDay_0 rfl ?_
  refine vR_g_start C hin0 (by omega) (by decide +kernel) dX0_startDay_1 ?_
  refine v_sipush C (1440) dX0_startDay_4 (by decide) ?_
  refine v_idiv C dX0_startDay_7 (by decide) ?_
  refine v_iret C dX0_startDay_8 ?_
  rfl
set_option maxHeartbeats 4000000 in
set_option maxRecDepth 100000 in
/-- length() -/
theorem k_X0_length (l : Launch) (G : va_G) (cy : Nat → ClassId) (ad : Nat → Nat) (x : Sg) (j : Nat) (hj : j < 30) : KI l G cy yX0_length wsX0_length 0 0 0 0 [.ref (ad (j + 8))] (wD cy ad x) (x 7 j - x 6 j) (wD cy ad x) := by
  have hin0 : ∀ q ∈ u_ws RX0 TX0 6, q ∈ wsX0_length := by decide +kernel
  refine KI_of (own := RX0) (cc := cX0_length) (maxL := 1) (ret := (some .int)) (lo0 := [some (.ref (ad (j + 8)))]) (by decide) rfl rfl (by simp [Value.category]) (Nat.le_of_ble_eq_true rfl) rfl (fun p e s m args below meth c A C => ?_)
  refine v_aload_n C dX0_length_0 rfl ?_
  refine vR_g_end C hin0 (by omega) (by decide +kernel) dX0_length_1 ?_
  refine v_aload_n C dX0_length_4 rfl ?_
  refine vR_g_start C hin0 (by omega) (by decide +kernel) dX0_length_5 ?_
  refine v_isub C dX0_length_8 ?_
  refine v_iret C dX0_length_9 ?_
  rfl
set_option maxHeartbeats 4000000 in
set_option maxRecDepth 100000 in
/-- isWorkOf(d, day) -/
theorem k_X0_isWorkOf (l : Launch) (G : va_G) (cy : Nat → ClassId) (ad : Nat → Nat) (x : Sg) (j : Nat) (hj : j < 30) (d day : Int32) : KI l G cy yX0_isWorkOf wsX0_isWorkOf 1 20 0 0 [.ref (ad (j + 8)), .int d, .int day] (wD cy ad x) (b2i (works x j d day)) (wD cy ad x) := by
  have hin0 : ∀ q ∈ u_ws RX0 TX0 6, q ∈ wsX0_isWorkOf := by decide +kernel
  refine KI_of (own := RX0) (cc := cX0_isWorkOf) (maxL := 3) (ret := (some .boolean)) (lo0 := [some (.ref (ad (j + 8))), some (.int d), some (.int day)]) (by decide) rfl rfl (by simp [Value.category]) (Nat.le_of_ble_eq_true rfl) rfl (fun p e s m args below meth c A C => ?_)
  refine v_aload_n C dX0_isWorkOf_0 rfl ?_
  refine vR_g_driver C hin0 (by omega) (by decide +kernel) dX0_isWorkOf_1 ?_
  refine v_iload_n C dX0_isWorkOf_4 rfl ?_
  refine v_icmp_ne C 20 dX0_isWorkOf_5 (by decide) (fun c1 => ?_) (fun c1 => ?_)
  · -- 5 t: ¬ (x 11 j) = d
    refine v_iconst C (0) dX0_isWorkOf_20 (by decide) ?_
    refine v_zret C rfl dX0_isWorkOf_21 ?_
    exact (b2i_f (by simp [c1, works])).symm
  · -- 5 f: not ¬ (x 11 j) = d
    refine v_aload_n C dX0_isWorkOf_8 rfl ?_
    refine vR_cI C (by omega) (k_X0_startDay l G cy ad x j (by omega)) rfl gX0_isWorkOf_X0_startDay (nA := 0) (by decide +kernel) rfl (by decide) (by decide) rfl rfl (Nat.le_of_ble_eq_true rfl) dX0_isWorkOf_9 ?_
    refine v_iload_n C dX0_isWorkOf_12 rfl ?_
    refine v_icmp_ne C 20 dX0_isWorkOf_13 (by decide) (fun c2 => ?_) (fun c2 => ?_)
    · -- 13 t: ¬ (x 6 j / 1440) = day
      refine v_iconst C (0) dX0_isWorkOf_20 (by decide) ?_
      refine v_zret C rfl dX0_isWorkOf_21 ?_
      exact (b2i_f (by simp [c1, c2, works])).symm
    · -- 13 f: not ¬ (x 6 j / 1440) = day
      refine v_iconst C (1) dX0_isWorkOf_16 (by decide) ?_
      refine v_goto C 21 dX0_isWorkOf_17 (by decide) ?_
      refine v_zret C rfl dX0_isWorkOf_21 ?_
      exact (b2i_t (by simp [c1, c2, works])).symm
set_option maxHeartbeats 4000000 in
set_option maxRecDepth 100000 in
/-- meets(i) -/
theorem k_X0_meets (l : Launch) (G : va_G) (cy : Nat → ClassId) (ad : Nat → Nat) (x : Sg) (j : Nat) (hj : j < 30) (i : Nat) (hi : i < 30) : KI l G cy yX0_meets wsX0_meets 0 0 0 0 [.ref (ad (j + 8)), .ref (ad (i + 8))] (wD cy ad x) (b2i (meets x j i)) (wD cy ad x) := by
  have hin0 : ∀ q ∈ u_ws RX0 TX0 6, q ∈ wsX0_meets := by decide +kernel
  refine KI_of (own := RX0) (cc := cX0_meets) (maxL := 2) (ret := (some .boolean)) (lo0 := [some (.ref (ad (j + 8))), some (.ref (ad (i + 8)))]) (by decide) rfl rfl (by simp [Value.category]) (Nat.le_of_ble_eq_true rfl) rfl (fun p e s m args below meth c A C => ?_)
  refine v_aload_n C dX0_meets_0 rfl ?_
  refine vR_g_start C hin0 (by omega) (by decide +kernel) dX0_meets_1 ?_
  refine v_aload_n C dX0_meets_4 rfl ?_
  refine vR_g_end C hin0 (by omega) (by decide +kernel) dX0_meets_5 ?_
  refine v_icmp_ge C 26 dX0_meets_8 (by decide) (fun c1 => ?_) (fun c1 => ?_)
  · -- 8 t: ¬ (x 6 j) < (x 7 i)
    refine v_iconst C (0) dX0_meets_26 (by decide) ?_
    refine v_zret C rfl dX0_meets_27 ?_
    exact (b2i_f (by simp [c1, meets])).symm
  · -- 8 f: not ¬ (x 6 j) < (x 7 i)
    refine v_aload_n C dX0_meets_11 rfl ?_
    refine vR_g_start C hin0 (by omega) (by decide +kernel) dX0_meets_12 ?_
    refine v_aload_n C dX0_meets_15 rfl ?_
    refine vR_g_end C hin0 (by omega) (by decide +kernel) dX0_meets_16 ?_
    refine v_icmp_ge C 26 dX0_meets_19 (by decide) (fun c2 => ?_) (fun c2 => ?_)
    · -- 19 t: ¬ (x 6 i) < (x 7 j)
      refine v_iconst C (0) dX0_meets_26 (by decide) ?_
      refine v_zret C rfl dX0_meets_27 ?_
      exact (b2i_f (by simp [c1, c2, meets])).symm
    · -- 19 f: not ¬ (x 6 i) < (x 7 j)
      refine v_iconst C (1) dX0_meets_22 (by decide) ?_
      refine v_goto C 27 dX0_meets_23 (by decide) ?_
      refine v_zret C rfl dX0_meets_27 ?_
      exact (b2i_t (by simp [c1, c2, meets])).symm
set_option maxHeartbeats 4000000 in
set_option maxRecDepth 100000 in
/-- isRestedFrom(i) -/
theorem k_X0_isRestedFrom (l : Launch) (G : va_G) (cy : Nat → ClassId) (ad : Nat → Nat) (x : Sg) (j : Nat) (hj : j < 30) (i : Nat) (hi : i < 30) : KI l G cy yX0_isRestedFrom wsX0_isRestedFrom 0 0 0 0 [.ref (ad (j + 8)), .ref (ad (i + 8))] (wD cy ad x) (b2i (rested x j i)) (wD cy ad x) := by
  have hin0 : ∀ q ∈ u_ws RX0 TX0 6, q ∈ wsX0_isRestedFrom := by decide +kernel
  refine KI_of (own := RX0) (cc := cX0_isRestedFrom) (maxL := 2) (ret := (some .boolean)) (lo0 := [some (.ref (ad (j + 8))), some (.ref (ad (i + 8)))]) (by decide) rfl rfl (by simp [Value.category]) (Nat.le_of_ble_eq_true rfl) rfl (fun p e s m args below meth c A C => ?_)
  refine v_aload_n C dX0_isRestedFrom_0 rfl ?_
  refine vR_g_end C hin0 (by omega) (by decide +kernel) dX0_isRestedFrom_1 ?_
  refine v_bipush C (30) dX0_isRestedFrom_4 (by decide) ?_
  refine v_iadd C dX0_isRestedFrom_6 ?_
  refine v_aload_n C dX0_isRestedFrom_7 rfl ?_
  refine vR_g_start C hin0 (by omega) (by decide +kernel) dX0_isRestedFrom_8 ?_
  refine v_icmp_le C 28 dX0_isRestedFrom_11 (by decide) (fun c1 => ?_) (fun c1 => ?_)
  · -- 11 t: ¬ (x 6 i) < ((x 7 j) + 30)
    refine v_iconst C (1) dX0_isRestedFrom_28 (by decide) ?_
    refine v_goto C 33 dX0_isRestedFrom_29 (by decide) ?_
    refine v_zret C rfl dX0_isRestedFrom_33 ?_
    exact (b2i_t (by simp [c1, rested])).symm
  · -- 11 f: not ¬ (x 6 i) < ((x 7 j) + 30)
    refine v_aload_n C dX0_isRestedFrom_14 rfl ?_
    refine vR_g_end C hin0 (by omega) (by decide +kernel) dX0_isRestedFrom_15 ?_
    refine v_bipush C (30) dX0_isRestedFrom_18 (by decide) ?_
    refine v_iadd C dX0_isRestedFrom_20 ?_
    refine v_aload_n C dX0_isRestedFrom_21 rfl ?_
    refine vR_g_start C hin0 (by omega) (by decide +kernel) dX0_isRestedFrom_22 ?_
    refine v_icmp_gt C 32 dX0_isRestedFrom_25 (by decide) (fun c2 => ?_) (fun c2 => ?_)
    · -- 25 t: (x 6 j) < ((x 7 i) + 30)
      refine v_iconst C (0) dX0_isRestedFrom_32 (by decide) ?_
      refine v_zret C rfl dX0_isRestedFrom_33 ?_
      exact (b2i_f (by simp [c1, c2, rested])).symm
    · -- 25 f: not (x 6 j) < ((x 7 i) + 30)
      refine v_iconst C (1) dX0_isRestedFrom_28 (by decide) ?_
      refine v_goto C 33 dX0_isRestedFrom_29 (by decide) ?_
      refine v_zret C rfl dX0_isRestedFrom_33 ?_
      exact (b2i_t (by simp [c1, c2, rested])).symm
