/-! READERS with numbers that there are; the call that catches -/
theorem k0_X1_requireIndex (l : Launch) (G : va_G) (cy : Nat → ClassId) (w : va_W) (i cn : Int32) (h : ¬ i < 0 ∧ i < cn) : KV l G cy yX1_requireIndex wsX1_requireIndex 0 0 0 0 [.int i, .int cn] w w := by
  refine KV_of (own := RX1) (cc := cX1_requireIndex) (maxL := 2) (ret := none) (lo0 := [some (.int i), some (.int cn)]) (by decide) rfl rfl (by simp [Value.category]) (Nat.le_of_ble_eq_true rfl) rfl (fun p e s m args below meth c A _ C => ?_)
  refine v_iload_n C dX1_requireIndex_0 rfl ?_
  refine v_if_lt C 9 dX1_requireIndex_1 (by decide) (fun z => absurd z h.1) (fun _ => ?_)
  refine v_iload_n C dX1_requireIndex_4 rfl ?_
  refine v_iload_n C dX1_requireIndex_5 rfl ?_
  exact v_icmp_lt C 19 dX1_requireIndex_6 (by decide) (fun _ => v_vret C dX1_requireIndex_19) (fun z => absurd h.2 z)
theorem in5 {b : Nat} (hb : b < 5) : ¬ nI b < 0 ∧ nI b < 5 := ⟨nI_pos (by omega), (nI_ltI (by omega) (show (5 : Nat) < 2 ^ 31 by decide)).mpr hb⟩
theorem inn {v : Int32} {n j : Nat} (e : v = nI n) (hn : n ≤ 1000) (hj : j < n) : ¬ nI j < 0 ∧ nI j < v := ⟨nI_pos (by omega), by rw [e]; exact (nI_ltI (by omega) (by omega)).mpr hj⟩
set_option maxHeartbeats 4000000 in
set_option maxRecDepth 100000 in
/-- stateOf -/
theorem k0_X1_stateOf (l : Launch) (G : va_G) (cy : Nat → ClassId) (ad : Nat → Nat) (x : Sg) (n : Nat) (hn : x 1 0 = nI n) (h30 : n ≤ 30) (j : Nat) (hj : j < n) : KI l G cy yX1_stateOf wsX1_stateOf 1 21 0 0 [.ref (ad 0), .int (nI j)] (wD cy ad x) (x 9 j) (wD cy ad x) := by
  have hin1 : ∀ q ∈ u_ws RX1 TX1 12, q ∈ wsX1_stateOf := by decide +kernel
  have hin0 : ∀ q ∈ u_ws RX0 TX0 6, q ∈ wsX1_stateOf := by decide +kernel
  refine KI_of (own := RX1) (cc := cX1_stateOf) (maxL := 2) (ret := (some .int)) (lo0 := [some (.ref (ad 0)), some (.int (nI j))]) (by decide) rfl rfl (by simp [Value.category]) (Nat.le_of_ble_eq_true rfl) rfl (fun p e s m args below meth c A C => ?_)
  refine v_iload_n C dX1_stateOf_0 rfl ?_
  refine v_aload_n C dX1_stateOf_1 rfl ?_
  refine vD_g_runCount C hin1 (by decide +kernel) dX1_stateOf_2 ?_
  refine v_sV C (k0_X1_requireIndex l G cy (wD cy ad x) (nI j) (x 1 0) (inn hn (by omega) hj)) rfl gX1_stateOf_X1_requireIndex (nA := 2) (by decide +kernel) rfl (by decide) (by decide) rfl (Nat.le_of_ble_eq_true rfl) dX1_stateOf_5 ?_
  refine v_aload_n C dX1_stateOf_8 rfl ?_
  refine vD_g_rows C hin1 (by decide +kernel) dX1_stateOf_9 ?_
  refine v_iload_n C dX1_stateOf_12 rfl ?_
  refine vD_aald C j rfl (by omega) dX1_stateOf_13 ?_
  refine vR_g_state C hin0 (by omega) (by decide +kernel) dX1_stateOf_14 ?_
  refine v_iret C dX1_stateOf_17 ?_
  rfl
set_option maxHeartbeats 4000000 in
set_option maxRecDepth 100000 in
/-- busOf -/
theorem k0_X1_busOf (l : Launch) (G : va_G) (cy : Nat → ClassId) (ad : Nat → Nat) (x : Sg) (n : Nat) (hn : x 1 0 = nI n) (h30 : n ≤ 30) (j : Nat) (hj : j < n) : KI l G cy yX1_busOf wsX1_busOf 1 21 0 0 [.ref (ad 0), .int (nI j)] (wD cy ad x) (x 10 j) (wD cy ad x) := by
  have hin1 : ∀ q ∈ u_ws RX1 TX1 12, q ∈ wsX1_busOf := by decide +kernel
  have hin0 : ∀ q ∈ u_ws RX0 TX0 6, q ∈ wsX1_busOf := by decide +kernel
  refine KI_of (own := RX1) (cc := cX1_busOf) (maxL := 2) (ret := (some .int)) (lo0 := [some (.ref (ad 0)), some (.int (nI j))]) (by decide) rfl rfl (by simp [Value.category]) (Nat.le_of_ble_eq_true rfl) rfl (fun p e s m args below meth c A C => ?_)
  refine v_iload_n C dX1_busOf_0 rfl ?_
  refine v_aload_n C dX1_busOf_1 rfl ?_
  refine vD_g_runCount C hin1 (by decide +kernel) dX1_busOf_2 ?_
  refine v_sV C (k0_X1_requireIndex l G cy (wD cy ad x) (nI j) (x 1 0) (inn hn (by omega) hj)) rfl gX1_busOf_X1_requireIndex (nA := 2) (by decide +kernel) rfl (by decide) (by decide) rfl (Nat.le_of_ble_eq_true rfl) dX1_busOf_5 ?_
  refine v_aload_n C dX1_busOf_8 rfl ?_
  refine vD_g_rows C hin1 (by decide +kernel) dX1_busOf_9 ?_
  refine v_iload_n C dX1_busOf_12 rfl ?_
  refine vD_aald C j rfl (by omega) dX1_busOf_13 ?_
  refine vR_g_bus C hin0 (by omega) (by decide +kernel) dX1_busOf_14 ?_
  refine v_iret C dX1_busOf_17 ?_
  rfl
set_option maxHeartbeats 4000000 in
set_option maxRecDepth 100000 in
/-- driverOf -/
theorem k0_X1_driverOf (l : Launch) (G : va_G) (cy : Nat → ClassId) (ad : Nat → Nat) (x : Sg) (n : Nat) (hn : x 1 0 = nI n) (h30 : n ≤ 30) (j : Nat) (hj : j < n) : KI l G cy yX1_driverOf wsX1_driverOf 1 21 0 0 [.ref (ad 0), .int (nI j)] (wD cy ad x) (x 11 j) (wD cy ad x) := by
  have hin1 : ∀ q ∈ u_ws RX1 TX1 12, q ∈ wsX1_driverOf := by decide +kernel
  have hin0 : ∀ q ∈ u_ws RX0 TX0 6, q ∈ wsX1_driverOf := by decide +kernel
  refine KI_of (own := RX1) (cc := cX1_driverOf) (maxL := 2) (ret := (some .int)) (lo0 := [some (.ref (ad 0)), some (.int (nI j))]) (by decide) rfl rfl (by simp [Value.category]) (Nat.le_of_ble_eq_true rfl) rfl (fun p e s m args below meth c A C => ?_)
  refine v_iload_n C dX1_driverOf_0 rfl ?_
  refine v_aload_n C dX1_driverOf_1 rfl ?_
  refine vD_g_runCount C hin1 (by decide +kernel) dX1_driverOf_2 ?_
  refine v_sV C (k0_X1_requireIndex l G cy (wD cy ad x) (nI j) (x 1 0) (inn hn (by omega) hj)) rfl gX1_driverOf_X1_requireIndex (nA := 2) (by decide +kernel) rfl (by decide) (by decide) rfl (Nat.le_of_ble_eq_true rfl) dX1_driverOf_5 ?_
  refine v_aload_n C dX1_driverOf_8 rfl ?_
  refine vD_g_rows C hin1 (by decide +kernel) dX1_driverOf_9 ?_
  refine v_iload_n C dX1_driverOf_12 rfl ?_
  refine vD_aald C j rfl (by omega) dX1_driverOf_13 ?_
  refine vR_g_driver C hin0 (by omega) (by decide +kernel) dX1_driverOf_14 ?_
  refine v_iret C dX1_driverOf_17 ?_
  rfl
set_option maxHeartbeats 4000000 in
set_option maxRecDepth 100000 in
/-- charge -/
theorem k0_X1_charge (l : Launch) (G : va_G) (cy : Nat → ClassId) (ad : Nat → Nat) (x : Sg) (b : Nat) (hb : b < 5) : KI l G cy yX1_charge wsX1_charge 1 21 0 0 [.ref (ad 0), .int (nI b)] (wD cy ad x) (x 12 b) (wD cy ad x) := by
  have hin1 : ∀ q ∈ u_ws RX1 TX1 12, q ∈ wsX1_charge := by decide +kernel
  refine KI_of (own := RX1) (cc := cX1_charge) (maxL := 2) (ret := (some .int)) (lo0 := [some (.ref (ad 0)), some (.int (nI b))]) (by decide) rfl rfl (by simp [Value.category]) (Nat.le_of_ble_eq_true rfl) rfl (fun p e s m args below meth c A C => ?_)
  refine v_iload_n C dX1_charge_0 rfl ?_
  refine v_iconst C (5) dX1_charge_1 (by decide) ?_
  refine v_sV C (k0_X1_requireIndex l G cy (wD cy ad x) (nI b) 5 (in5 hb)) rfl gX1_charge_X1_requireIndex (nA := 2) (by decide +kernel) rfl (by decide) (by decide) rfl (Nat.le_of_ble_eq_true rfl) dX1_charge_2 ?_
  refine v_aload_n C dX1_charge_5 rfl ?_
  refine vD_g_charges C hin1 (by decide +kernel) dX1_charge_6 ?_
  refine v_iload_n C dX1_charge_9 rfl ?_
  refine vD_l_charges C b rfl (by omega) dX1_charge_10 ?_
  refine v_iret C dX1_charge_11 ?_
  rfl
set_option maxHeartbeats 4000000 in
set_option maxRecDepth 100000 in
/-- promised -/
theorem k0_X1_promised (l : Launch) (G : va_G) (cy : Nat → ClassId) (ad : Nat → Nat) (x : Sg) (n : Nat) (hn : x 1 0 = nI n) (h30 : n ≤ 30) (b : Nat) (hb : b < 5) : KI l G cy yX1_promised wsX1_promised 1 23 0 0 [.ref (ad 0), .int (nI b)] (wD cy ad x) (fprom n x (nI b)) (wD cy ad x) := by
  refine KI_of (own := RX1) (cc := cX1_promised) (maxL := 2) (ret := (some .int)) (lo0 := [some (.ref (ad 0)), some (.int (nI b))]) (by decide) rfl rfl (by simp [Value.category]) (Nat.le_of_ble_eq_true rfl) rfl (fun p e s m args below meth c A C => ?_)
  refine v_iload_n C dX1_promised_0 rfl ?_
  refine v_iconst C (5) dX1_promised_1 (by decide) ?_
  refine v_sV C (k0_X1_requireIndex l G cy (wD cy ad x) (nI b) 5 (in5 hb)) rfl gX1_promised_X1_requireIndex (nA := 2) (by decide +kernel) rfl (by decide) (by decide) rfl (Nat.le_of_ble_eq_true rfl) dX1_promised_2 ?_
  refine v_aload_n C dX1_promised_5 rfl ?_
  refine v_iload_n C dX1_promised_6 rfl ?_
  refine vD_cI C (k_X1_promisedCharge l G cy ad x n hn h30 (nI b)) rfl gX1_promised_X1_promisedCharge (nA := 1) (by decide +kernel) rfl (by decide) (by decide) rfl rfl (Nat.le_of_ble_eq_true rfl) dX1_promised_7 ?_
  refine v_iret C dX1_promised_10 ?_
  rfl
set_option maxHeartbeats 4000000 in
set_option maxRecDepth 100000 in
/-- minutesOf -/
theorem k0_X1_minutesOf (l : Launch) (G : va_G) (cy : Nat → ClassId) (ad : Nat → Nat) (x : Sg) (n : Nat) (hn : x 1 0 = nI n) (h30 : n ≤ 30) (d : Nat) (hb : d < 5) (day : Int32) : KI l G cy yX1_minutesOf wsX1_minutesOf 3 66 0 0 [.ref (ad 0), .int (nI d), .int day] (wD cy ad x) (fwork n x (nI d) day) (wD cy ad x) := by
  refine KI_of (own := RX1) (cc := cX1_minutesOf) (maxL := 3) (ret := (some .int)) (lo0 := [some (.ref (ad 0)), some (.int (nI d)), some (.int day)]) (by decide) rfl rfl (by simp [Value.category]) (Nat.le_of_ble_eq_true rfl) rfl (fun p e s m args below meth c A C => ?_)
  refine v_iload_n C dX1_minutesOf_0 rfl ?_
  refine v_iconst C (5) dX1_minutesOf_1 (by decide) ?_
  refine v_sV C (k0_X1_requireIndex l G cy (wD cy ad x) (nI d) 5 (in5 hb)) rfl gX1_minutesOf_X1_requireIndex (nA := 2) (by decide +kernel) rfl (by decide) (by decide) rfl (Nat.le_of_ble_eq_true rfl) dX1_minutesOf_2 ?_
  refine v_aload_n C dX1_minutesOf_5 rfl ?_
  refine v_iload_n C dX1_minutesOf_6 rfl ?_
  refine v_iload_n C dX1_minutesOf_7 rfl ?_
  refine vD_cI C (k_X1_workedMinutes l G cy ad x n hn h30 (nI d) day) rfl gX1_minutesOf_X1_workedMinutes (nA := 2) (by decide +kernel) rfl (by decide) (by decide) rfl rfl (Nat.le_of_ble_eq_true rfl) dX1_minutesOf_8 ?_
  refine v_iret C dX1_minutesOf_11 ?_
  rfl
set_option maxHeartbeats 4000000 in
set_option maxRecDepth 100000 in
/-- orderAt -/
theorem k0_X1_orderAt (l : Launch) (G : va_G) (cy : Nat → ClassId) (ad : Nat → Nat) (x : Sg) (om : Nat) (hom : x 2 0 = nI om) (hom1 : om ≤ 1000) (j : Nat) (hj : j < om) : KI l G cy yX1_orderAt wsX1_orderAt 1 21 0 0 [.ref (ad 0), .int (nI j)] (wD cy ad x) (x 16 j) (wD cy ad x) := by
  have hin1 : ∀ q ∈ u_ws RX1 TX1 12, q ∈ wsX1_orderAt := by decide +kernel
  refine KI_of (own := RX1) (cc := cX1_orderAt) (maxL := 2) (ret := (some .int)) (lo0 := [some (.ref (ad 0)), some (.int (nI j))]) (by decide) rfl rfl (by simp [Value.category]) (Nat.le_of_ble_eq_true rfl) rfl (fun p e s m args below meth c A C => ?_)
  refine v_iload_n C dX1_orderAt_0 rfl ?_
  refine v_aload_n C dX1_orderAt_1 rfl ?_
  refine vD_g_orderCount C hin1 (by decide +kernel) dX1_orderAt_2 ?_
  refine v_sV C (k0_X1_requireIndex l G cy (wD cy ad x) (nI j) (x 2 0) (inn hom (by omega) hj)) rfl gX1_orderAt_X1_requireIndex (nA := 2) (by decide +kernel) rfl (by decide) (by decide) rfl (Nat.le_of_ble_eq_true rfl) dX1_orderAt_5 ?_
  refine v_aload_n C dX1_orderAt_8 rfl ?_
  refine vD_g_log C hin1 (by decide +kernel) dX1_orderAt_9 ?_
  refine v_iload_n C dX1_orderAt_12 rfl ?_
  refine vD_l_log C j rfl (by omega) dX1_orderAt_13 ?_
  refine v_iret C dX1_orderAt_14 ?_
  rfl
/-- an exception as a number -/
def dcd : Option String → Int32 → Int32 | none, r => r | some E, _ => if E = nIO then -11 else if E = nIA then -12 else -13
set_option maxHeartbeats 4000000 in
set_option maxRecDepth 100000 in
theorem k_L_does_run (l : Launch) (G : va_G) (cy : Nat → ClassId) (ad : Nat → Nat) (x x' : Sg) (a1 a2 a3 a4 a5 r : Int32) (xo : Option String) (hE : ∀ E, xo = some E → E = nIO ∨ E = nIA ∨ E = nIS) (k : KXI l G cy yX1_run wsX1_run 7 104 8 48 [.ref (ad 0), .int a1, .int a2, .int a3] (wD cy ad x) xo r (wD cy ad x')) :
    KW l G cy yL_does wsL_does 8 128 8 48 [.ref (ad 0), .int 0, .int a1, .int a2, .int a3, .int a4, .int a5] (wD cy ad x) (dcd xo r) (wD cy ad (oc xo x' x)) := by
  refine KW_of (own := RL) (cc := cL_does) (maxL := 8) (ret := some .int) (hh := [(0, 54, 55, 50), (0, 54, 60, 52), (0, 54, 65, 54)]) (lo0 := [some (.ref (ad 0)), some (.int 0), some (.int a1), some (.int a2), some (.int a3), some (.int a4), some (.int a5), none]) (by decide) rfl rfl (by simp [Value.category]) (Nat.le_of_ble_eq_true rfl) rfl (fun p e s m args below meth c A C hX hN hT => ?_)
  refine v_iload_n C dL_does_0 rfl ?_
  refine v_if_ne C 15 dL_does_1 (by decide) (fun z => absurd z (by decide)) (fun _ => ?_)
  refine v_aload_n C dL_does_4 rfl ?_
  refine v_iload_n C dL_does_5 rfl ?_
  refine v_iload_n C dL_does_6 rfl ?_
  refine v_iload C dL_does_7 rfl ?_
  refine v_tryVI C hX [] [] (w2 := wD cy ad x') k rfl gL_does_X1_run (nA := 3) (by decide +kernel) rfl (by decide) (by decide) rfl (Nat.le_of_ble_eq_true rfl) 0 1 rfl rfl rfl (by simp) (by simp) dL_does_9 (fun E a hxE => ?_) (fun hxn => ?_)
  · subst hxE
    rcases hE E rfl with rfl | rfl | rfl
    · -- nIO
      refine ⟨[], ⟨0, 54, 55, 50⟩, [⟨0, 54, 60, 52⟩, ⟨0, 54, 65, 54⟩], nIO, hT, (fun z hz => nomatch hz), by decide, by decide, C.1.2.2.2.2 _ (by decide +kernel), hX.word _ (by decide +kernel), ?_⟩
      dsimp only
      refine v_astore C dL_does_55 (by decide) ?_
      refine v_bipush C (-11) dL_does_57 (by decide) ?_
      exact v_iret C dL_does_59 rfl
    · -- nIA
      refine ⟨[⟨0, 54, 55, 50⟩], ⟨0, 54, 60, 52⟩, [⟨0, 54, 65, 54⟩], nIA, hT, (fun z hz => by simp only [List.mem_cons, List.not_mem_nil, or_false] at hz; subst hz <;> first | exact Or.inr ⟨by decide, nIO, C.1.2.2.2.2 _ (by decide +kernel), hN.2.1⟩), by decide, by decide, C.1.2.2.2.2 _ (by decide +kernel), hX.word _ (by decide +kernel), ?_⟩
      dsimp only
      refine v_astore C dL_does_60 (by decide) ?_
      refine v_bipush C (-12) dL_does_62 (by decide) ?_
      exact v_iret C dL_does_64 rfl
    · -- nIS
      refine ⟨[⟨0, 54, 55, 50⟩, ⟨0, 54, 60, 52⟩], ⟨0, 54, 65, 54⟩, [], nIS, hT, (fun z hz => by simp only [List.mem_cons, List.not_mem_nil, or_false] at hz; rcases hz with rfl | rfl <;> first | exact Or.inr ⟨by decide, nIO, C.1.2.2.2.2 _ (by decide +kernel), hN.2.2⟩ | exact Or.inr ⟨by decide, nIA, C.1.2.2.2.2 _ (by decide +kernel), hN.1⟩), by decide, by decide, C.1.2.2.2.2 _ (by decide +kernel), hX.word _ (by decide +kernel), ?_⟩
      dsimp only
      refine v_astore C dL_does_65 (by decide) ?_
      refine v_bipush C (-13) dL_does_67 (by decide) ?_
      exact v_iret C dL_does_69 rfl
  · subst hxn
    refine v_goto C 54 dL_does_12 (by decide) ?_
    exact v_iret C dL_does_54 rfl
set_option maxHeartbeats 4000000 in
set_option maxRecDepth 100000 in
theorem k_L_does_order (l : Launch) (G : va_G) (cy : Nat → ClassId) (ad : Nat → Nat) (x x' : Sg) (a1 a2 a3 a4 a5 r : Int32) (xo : Option String) (hE : ∀ E, xo = some E → E = nIO ∨ E = nIA ∨ E = nIS) (k : KXI l G cy yX1_order wsX1_order 7 113 8 48 [.ref (ad 0), .int a1, .int a2, .int a3, .int a4, .int a5] (wD cy ad x) xo r (wD cy ad x')) :
    KW l G cy yL_does wsL_does 8 138 8 48 [.ref (ad 0), .int 1, .int a1, .int a2, .int a3, .int a4, .int a5] (wD cy ad x) (dcd xo r) (wD cy ad (oc xo x' x)) := by
  refine KW_of (own := RL) (cc := cL_does) (maxL := 8) (ret := some .int) (hh := [(0, 54, 55, 50), (0, 54, 60, 52), (0, 54, 65, 54)]) (lo0 := [some (.ref (ad 0)), some (.int 1), some (.int a1), some (.int a2), some (.int a3), some (.int a4), some (.int a5), none]) (by decide) rfl rfl (by simp [Value.category]) (Nat.le_of_ble_eq_true rfl) rfl (fun p e s m args below meth c A C hX hN hT => ?_)
  refine v_iload_n C dL_does_0 rfl ?_
  refine v_if_ne C 15 dL_does_1 (by decide) (fun _ => ?_) (fun z => absurd z (by decide))
  refine v_iload_n C dL_does_15 rfl ?_
  refine v_iconst C 1 dL_does_16 (by decide) ?_
  refine v_icmp_ne C 35 dL_does_17 (by decide) (fun z => absurd z (by decide)) (fun _ => ?_)
  refine v_aload_n C dL_does_20 rfl ?_
  refine v_iload_n C dL_does_21 rfl ?_
  refine v_iload_n C dL_does_22 rfl ?_
  refine v_iload C dL_does_23 rfl ?_
  refine v_iload C dL_does_25 rfl ?_
  refine v_iload C dL_does_27 rfl ?_
  refine v_tryVI C hX [] [] (w2 := wD cy ad x') k rfl gL_does_X1_order (nA := 5) (by decide +kernel) rfl (by decide) (by decide) rfl (Nat.le_of_ble_eq_true rfl) 0 1 rfl rfl rfl (by simp) (by simp) dL_does_29 (fun E a hxE => ?_) (fun hxn => ?_)
  · subst hxE
    rcases hE E rfl with rfl | rfl | rfl
    · -- nIO
      refine ⟨[], ⟨0, 54, 55, 50⟩, [⟨0, 54, 60, 52⟩, ⟨0, 54, 65, 54⟩], nIO, hT, (fun z hz => nomatch hz), by decide, by decide, C.1.2.2.2.2 _ (by decide +kernel), hX.word _ (by decide +kernel), ?_⟩
      dsimp only
      refine v_astore C dL_does_55 (by decide) ?_
      refine v_bipush C (-11) dL_does_57 (by decide) ?_
      exact v_iret C dL_does_59 rfl
    · -- nIA
      refine ⟨[⟨0, 54, 55, 50⟩], ⟨0, 54, 60, 52⟩, [⟨0, 54, 65, 54⟩], nIA, hT, (fun z hz => by simp only [List.mem_cons, List.not_mem_nil, or_false] at hz; subst hz <;> first | exact Or.inr ⟨by decide, nIO, C.1.2.2.2.2 _ (by decide +kernel), hN.2.1⟩), by decide, by decide, C.1.2.2.2.2 _ (by decide +kernel), hX.word _ (by decide +kernel), ?_⟩
      dsimp only
      refine v_astore C dL_does_60 (by decide) ?_
      refine v_bipush C (-12) dL_does_62 (by decide) ?_
      exact v_iret C dL_does_64 rfl
    · -- nIS
      refine ⟨[⟨0, 54, 55, 50⟩, ⟨0, 54, 60, 52⟩], ⟨0, 54, 65, 54⟩, [], nIS, hT, (fun z hz => by simp only [List.mem_cons, List.not_mem_nil, or_false] at hz; rcases hz with rfl | rfl <;> first | exact Or.inr ⟨by decide, nIO, C.1.2.2.2.2 _ (by decide +kernel), hN.2.2⟩ | exact Or.inr ⟨by decide, nIA, C.1.2.2.2.2 _ (by decide +kernel), hN.1⟩), by decide, by decide, C.1.2.2.2.2 _ (by decide +kernel), hX.word _ (by decide +kernel), ?_⟩
      dsimp only
      refine v_astore C dL_does_65 (by decide) ?_
      refine v_bipush C (-13) dL_does_67 (by decide) ?_
      exact v_iret C dL_does_69 rfl
  · subst hxn
    refine v_goto C 54 dL_does_32 (by decide) ?_
    exact v_iret C dL_does_54 rfl
set_option maxHeartbeats 4000000 in
set_option maxRecDepth 100000 in
theorem k_L_does_plug (l : Launch) (G : va_G) (cy : Nat → ClassId) (ad : Nat → Nat) (x x' : Sg) (a1 a2 a3 a4 a5 r : Int32) (xo : Option String) (hE : ∀ E, xo = some E → E = nIO ∨ E = nIA ∨ E = nIS) (k : KXI l G cy yX1_plug wsX1_plug 7 103 8 48 [.ref (ad 0), .int a1, .int a2] (wD cy ad x) xo r (wD cy ad x')) :
    KW l G cy yL_does wsL_does 8 126 8 48 [.ref (ad 0), .int 2, .int a1, .int a2, .int a3, .int a4, .int a5] (wD cy ad x) (dcd xo r) (wD cy ad (oc xo x' x)) := by
  refine KW_of (own := RL) (cc := cL_does) (maxL := 8) (ret := some .int) (hh := [(0, 54, 55, 50), (0, 54, 60, 52), (0, 54, 65, 54)]) (lo0 := [some (.ref (ad 0)), some (.int 2), some (.int a1), some (.int a2), some (.int a3), some (.int a4), some (.int a5), none]) (by decide) rfl rfl (by simp [Value.category]) (Nat.le_of_ble_eq_true rfl) rfl (fun p e s m args below meth c A C hX hN hT => ?_)
  refine v_iload_n C dL_does_0 rfl ?_
  refine v_if_ne C 15 dL_does_1 (by decide) (fun _ => ?_) (fun z => absurd z (by decide))
  refine v_iload_n C dL_does_15 rfl ?_
  refine v_iconst C 1 dL_does_16 (by decide) ?_
  refine v_icmp_ne C 35 dL_does_17 (by decide) (fun _ => ?_) (fun z => absurd z (by decide))
  refine v_iload_n C dL_does_35 rfl ?_
  refine v_iconst C 2 dL_does_36 (by decide) ?_
  refine v_icmp_ne C 49 dL_does_37 (by decide) (fun z => absurd z (by decide)) (fun _ => ?_)
  refine v_aload_n C dL_does_40 rfl ?_
  refine v_iload_n C dL_does_41 rfl ?_
  refine v_iload_n C dL_does_42 rfl ?_
  refine v_tryVI C hX [] [] (w2 := wD cy ad x') k rfl gL_does_X1_plug (nA := 2) (by decide +kernel) rfl (by decide) (by decide) rfl (Nat.le_of_ble_eq_true rfl) 0 1 rfl rfl rfl (by simp) (by simp) dL_does_43 (fun E a hxE => ?_) (fun hxn => ?_)
  · subst hxE
    rcases hE E rfl with rfl | rfl | rfl
    · -- nIO
      refine ⟨[], ⟨0, 54, 55, 50⟩, [⟨0, 54, 60, 52⟩, ⟨0, 54, 65, 54⟩], nIO, hT, (fun z hz => nomatch hz), by decide, by decide, C.1.2.2.2.2 _ (by decide +kernel), hX.word _ (by decide +kernel), ?_⟩
      dsimp only
      refine v_astore C dL_does_55 (by decide) ?_
      refine v_bipush C (-11) dL_does_57 (by decide) ?_
      exact v_iret C dL_does_59 rfl
    · -- nIA
      refine ⟨[⟨0, 54, 55, 50⟩], ⟨0, 54, 60, 52⟩, [⟨0, 54, 65, 54⟩], nIA, hT, (fun z hz => by simp only [List.mem_cons, List.not_mem_nil, or_false] at hz; subst hz <;> first | exact Or.inr ⟨by decide, nIO, C.1.2.2.2.2 _ (by decide +kernel), hN.2.1⟩), by decide, by decide, C.1.2.2.2.2 _ (by decide +kernel), hX.word _ (by decide +kernel), ?_⟩
      dsimp only
      refine v_astore C dL_does_60 (by decide) ?_
      refine v_bipush C (-12) dL_does_62 (by decide) ?_
      exact v_iret C dL_does_64 rfl
    · -- nIS
      refine ⟨[⟨0, 54, 55, 50⟩, ⟨0, 54, 60, 52⟩], ⟨0, 54, 65, 54⟩, [], nIS, hT, (fun z hz => by simp only [List.mem_cons, List.not_mem_nil, or_false] at hz; rcases hz with rfl | rfl <;> first | exact Or.inr ⟨by decide, nIO, C.1.2.2.2.2 _ (by decide +kernel), hN.2.2⟩ | exact Or.inr ⟨by decide, nIA, C.1.2.2.2.2 _ (by decide +kernel), hN.1⟩), by decide, by decide, C.1.2.2.2.2 _ (by decide +kernel), hX.word _ (by decide +kernel), ?_⟩
      dsimp only
      refine v_astore C dL_does_65 (by decide) ?_
      refine v_bipush C (-13) dL_does_67 (by decide) ?_
      exact v_iret C dL_does_69 rfl
  · subst hxn
    refine v_goto C 54 dL_does_46 (by decide) ?_
    exact v_iret C dL_does_54 rfl
set_option maxHeartbeats 4000000 in
set_option maxRecDepth 100000 in
theorem k_L_does_advance (l : Launch) (G : va_G) (cy : Nat → ClassId) (ad : Nat → Nat) (x x' : Sg) (a1 a2 a3 a4 a5 r : Int32) (xo : Option String) (hE : ∀ E, xo = some E → E = nIO ∨ E = nIA ∨ E = nIS) (k : KXI l G cy yX1_advance wsX1_advance 7 106 8 48 [.ref (ad 0), .int a1] (wD cy ad x) xo r (wD cy ad x')) :
    KW l G cy yL_does wsL_does 8 128 8 48 [.ref (ad 0), .int 3, .int a1, .int a2, .int a3, .int a4, .int a5] (wD cy ad x) (dcd xo r) (wD cy ad (oc xo x' x)) := by
  refine KW_of (own := RL) (cc := cL_does) (maxL := 8) (ret := some .int) (hh := [(0, 54, 55, 50), (0, 54, 60, 52), (0, 54, 65, 54)]) (lo0 := [some (.ref (ad 0)), some (.int 3), some (.int a1), some (.int a2), some (.int a3), some (.int a4), some (.int a5), none]) (by decide) rfl rfl (by simp [Value.category]) (Nat.le_of_ble_eq_true rfl) rfl (fun p e s m args below meth c A C hX hN hT => ?_)
  refine v_iload_n C dL_does_0 rfl ?_
  refine v_if_ne C 15 dL_does_1 (by decide) (fun _ => ?_) (fun z => absurd z (by decide))
  refine v_iload_n C dL_does_15 rfl ?_
  refine v_iconst C 1 dL_does_16 (by decide) ?_
  refine v_icmp_ne C 35 dL_does_17 (by decide) (fun _ => ?_) (fun z => absurd z (by decide))
  refine v_iload_n C dL_does_35 rfl ?_
  refine v_iconst C 2 dL_does_36 (by decide) ?_
  refine v_icmp_ne C 49 dL_does_37 (by decide) (fun _ => ?_) (fun z => absurd z (by decide))
  refine v_aload_n C dL_does_49 rfl ?_
  refine v_iload_n C dL_does_50 rfl ?_
  refine v_tryVI C hX [] [] (w2 := wD cy ad x') k rfl gL_does_X1_advance (nA := 1) (by decide +kernel) rfl (by decide) (by decide) rfl (Nat.le_of_ble_eq_true rfl) 0 1 rfl rfl rfl (by simp) (by simp) dL_does_51 (fun E a hxE => ?_) (fun hxn => ?_)
  · subst hxE
    rcases hE E rfl with rfl | rfl | rfl
    · -- nIO
      refine ⟨[], ⟨0, 54, 55, 50⟩, [⟨0, 54, 60, 52⟩, ⟨0, 54, 65, 54⟩], nIO, hT, (fun z hz => nomatch hz), by decide, by decide, C.1.2.2.2.2 _ (by decide +kernel), hX.word _ (by decide +kernel), ?_⟩
      dsimp only
      refine v_astore C dL_does_55 (by decide) ?_
      refine v_bipush C (-11) dL_does_57 (by decide) ?_
      exact v_iret C dL_does_59 rfl
    · -- nIA
      refine ⟨[⟨0, 54, 55, 50⟩], ⟨0, 54, 60, 52⟩, [⟨0, 54, 65, 54⟩], nIA, hT, (fun z hz => by simp only [List.mem_cons, List.not_mem_nil, or_false] at hz; subst hz <;> first | exact Or.inr ⟨by decide, nIO, C.1.2.2.2.2 _ (by decide +kernel), hN.2.1⟩), by decide, by decide, C.1.2.2.2.2 _ (by decide +kernel), hX.word _ (by decide +kernel), ?_⟩
      dsimp only
      refine v_astore C dL_does_60 (by decide) ?_
      refine v_bipush C (-12) dL_does_62 (by decide) ?_
      exact v_iret C dL_does_64 rfl
    · -- nIS
      refine ⟨[⟨0, 54, 55, 50⟩, ⟨0, 54, 60, 52⟩], ⟨0, 54, 65, 54⟩, [], nIS, hT, (fun z hz => by simp only [List.mem_cons, List.not_mem_nil, or_false] at hz; rcases hz with rfl | rfl <;> first | exact Or.inr ⟨by decide, nIO, C.1.2.2.2.2 _ (by decide +kernel), hN.2.2⟩ | exact Or.inr ⟨by decide, nIA, C.1.2.2.2.2 _ (by decide +kernel), hN.1⟩), by decide, by decide, C.1.2.2.2.2 _ (by decide +kernel), hX.word _ (by decide +kernel), ?_⟩
      dsimp only
      refine v_astore C dL_does_65 (by decide) ?_
      refine v_bipush C (-13) dL_does_67 (by decide) ?_
      exact v_iret C dL_does_69 rfl
  · subst hxn
    exact v_iret C dL_does_54 rfl
