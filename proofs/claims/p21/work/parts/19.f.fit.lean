/-! WHAT IS FIT: the law's sums and ends against the class's -/
theorem Ag_r (n : Nat) (x : Sg) : Ag n x x := fun _ _ _ _ => rfl
theorem sumB {g : Nat → Int32} {P : Nat → Prop} (hg : ∀ k, g k = b2i (P k)) : ∀ n, n ≤ 1000 → ∃ m, m ≤ n ∧ sumF g n = nI m ∧ (m = 0 ↔ ∀ k, k < n → ¬ P k) := by
  intro n
  induction n with
  | zero => exact fun _ => ⟨0, Nat.le_refl 0, rfl, ⟨fun _ k hk => absurd hk (Nat.not_lt_zero k), fun _ => rfl⟩⟩
  | succ n ih =>
    intro hn
    obtain ⟨m, h1, h2, h3⟩ := ih (by omega)
    by_cases hp : P n
    · refine ⟨m + 1, by omega, ?_, ⟨fun z => absurd z (by omega), fun z => absurd hp (z n (Nat.lt_succ_self n))⟩⟩
      show sumF g n + g n = _
      rw [h2, hg, b2i_t hp, nI_1]
    · refine ⟨m, by omega, ?_, ⟨fun z k hk => ?_, fun z => h3.mpr (fun k hk => z k (by omega))⟩⟩
      · show sumF g n + g n = _
        rw [h2, hg, b2i_f hp, Int32.add_zero]
      · rcases Nat.lt_succ_iff_lt_or_eq.mp hk with hk | rfl
        · exact h3.mp z k hk
        · exact hp
theorem sumB0 {g : Nat → Int32} {P : Nat → Prop} (hg : ∀ k, g k = b2i (P k)) {n : Nat} (hn : n ≤ 1000) : sumF g n = 0 ↔ ∀ k, k < n → ¬ P k := by
  obtain ⟨m, h1, h2, h3⟩ := sumB hg n hn
  rw [h2, ← h3, ← nI_0]
  exact nI_eq (by omega) (by decide)
theorem pmax {a b : Nat} (ha : a < 2 ^ 31) (hb : b < 2 ^ 31) : pif (nI b < nI a) (nI a) (nI b) = nI (max a b) := by
  by_cases h : b < a
  · rw [pif_t ((nI_ltI hb ha).mpr h)]; congr 1; omega
  · rw [pif_f (fun z => h ((nI_ltI hb ha).mp z))]; congr 1; omega
theorem pmin {a b : Nat} (ha : a < 2 ^ 31) (hb : b < 2 ^ 31) : pif (nI a < nI b) (nI a) (nI b) = nI (min a b) := by
  by_cases h : a < b
  · rw [pif_t ((nI_ltI ha hb).mpr h)]; congr 1; omega
  · rw [pif_f (fun z => h ((nI_ltI ha hb).mp z))]; congr 1; omega
theorem meet_iff {x : Sg} {t k r : Nat} (hk : rowT x t k) (hr : rowT x t r) : lmax x k r < lmin x k r ↔ x 6 k < x 7 r ∧ x 6 r < x 7 k := by
  obtain ⟨a, l, h1, h2, h3, h4, h5, h6, -⟩ := hk
  obtain ⟨b, m, g1, g2, g3, g4, g5, g6, -⟩ := hr
  unfold lmax lmin
  rw [h5, h6, g5, g6, pmax (by omega) (by omega), pmin (by omega) (by omega), nI_ltI (by omega) (by omega), nI_ltI (by omega) (by omega), nI_ltI (by omega) (by omega)]
  omega
theorem near_iff {x : Sg} {t k r : Nat} (hk : rowT x t k) (hr : rowT x t r) : lmax x k r - lmin x k r < 30 ↔ ¬ mdR x r k := by
  obtain ⟨a, l, h1, h2, h3, h4, h5, h6, -⟩ := hk
  obtain ⟨b, m, g1, g2, g3, g4, g5, g6, -⟩ := hr
  unfold lmax lmin mdR
  rw [h5, h6, g5, g6, pmax (by omega) (by omega), pmin (by omega) (by omega), show (30 : Int32) = nI 30 from rfl, nI_add, nI_add, nI_ltI (by omega) (by omega), nI_ltI (by omega) (by omega), Int32.lt_iff_toInt_lt, Int32.toInt_sub, nI_toInt (by omega), nI_toInt (by omega), nI_toInt (by omega), Int.bmod_eq_of_le (by omega) (by omega)]
  omega
theorem fprom_nI {n : Nat} {x : Sg} (h : nd n x) (b : Int32) : ∀ m, m ≤ n → ∃ p, p ≤ 100 * m ∧ sumF (gprom x b) m = nI p := by
  intro m
  induction m with
  | zero => exact fun _ => ⟨0, Nat.le_refl 0, rfl⟩
  | succ m ih =>
    intro hm
    obtain ⟨p, h1, h2⟩ := ih (by omega)
    obtain ⟨q, h3, h4⟩ := h m (by omega)
    show ∃ p, p ≤ 100 * (m + 1) ∧ sumF (gprom x b) m + gprom x b m = nI p
    rw [h2]
    unfold gprom
    by_cases hc : x 10 m = b ∧ x 9 m = 1
    · rw [pif_t hc, h4]; exact ⟨p + q, by omega, nI_add p q⟩
    · rw [pif_f hc, Int32.add_zero]; exact ⟨p, by omega, rfl⟩
theorem room_iff {n lo b r : Nat} {x : Sg} (h : nd n x) (hc : cb lo x) (hl : lo ≤ 1000000000) (hn : n ≤ 30) (hb : b < 5) (hr : r < n) : x 12 b < fprom n x (nI b) + x 8 r ↔ x 12 b - fprom n x (nI b) < x 8 r := by
  obtain ⟨p, h1, h2⟩ := fprom_nI h (nI b) n (Nat.le_refl n)
  obtain ⟨q, h3, h4⟩ := h r hr
  have h5 := hc b hb
  have h2' : fprom n x (nI b) = nI p := h2
  rw [h2', h4, nI_add, Int32.lt_iff_toInt_lt, Int32.lt_iff_toInt_lt, Int32.toInt_sub, nI_toInt (by omega), nI_toInt (by omega), nI_toInt (by omega), Int.bmod_eq_of_le (by omega) (by omega)]
  omega
theorem lbf_mbf {n t lo b r : Nat} {x : Sg} (hT : ∀ k, k < n → rowT x t k) (h : nd n x) (hc : cb lo x) (hl : lo ≤ 1000000000) (hn : n ≤ 20) (hb : b < 5) (hr : r < n) : lbf n x b r ↔ mbf n x b r := by
  unfold lbf mbf mbK mbA
  rw [sumB0 (g := gmeet x b r) (P := lmeet x b r) (n := n) (fun _ => rfl) (by omega), allb_iff, room_iff h hc hl (by omega) hb hr]
  have e : (∀ k, k < n → ¬ lmeet x b r k) ↔ ∀ k, k < n → mbP x b r k := by
    refine forall_congr' (fun k => forall_congr' (fun hk => ?_))
    unfold lmeet mbP
    rw [meet_iff (hT k hk) (hT r hr), nI_eq (show k < 2 ^ 31 by omega) (show r < 2 ^ 31 by omega)]
    exact not_congr ⟨fun z => ⟨⟨z.1, z.2.1, z.2.2.1⟩, z.2.2.2⟩, fun z => ⟨z.1.1, z.1.2.1, z.1.2.2, z.2⟩⟩
  rw [e]
  exact ⟨fun z => ⟨z.2, z.1⟩, fun z => ⟨z.2, z.1⟩⟩
theorem st_iff {x : Sg} {k : Nat} (h : rowS x k) : (0 < x 9 k ∧ x 9 k < 4) ↔ wkd x k := by
  rcases h with ⟨h | h, -⟩ | ⟨h, -⟩
  · unfold wkd; rw [h]; decide
  · unfold wkd; rw [h]; decide
  · exact ⟨fun _ => h, fun _ => by rcases h with h | h | h <;> rw [h] <;> decide⟩
theorem lwk_iff {n d r k : Nat} {x : Sg} (hS : ∀ k, k < n → rowS x k) (hn : n ≤ 20) (hk : k < n) (hr : r < n) : (¬ nI k = nI r ∧ x 11 k = nI d ∧ 0 < x 9 k ∧ x 9 k < 4 ∧ x 6 k / 1440 = x 6 r / 1440) ↔ mdQ x d r k := by
  unfold mdQ
  rw [nI_eq (show k < 2 ^ 31 by omega) (show r < 2 ^ 31 by omega), ← st_iff (hS k hk)]
  exact ⟨fun z => ⟨z.1, z.2.1, ⟨z.2.2.1, z.2.2.2.1⟩, z.2.2.2.2⟩, fun z => ⟨z.1, z.2.1, z.2.2.1.1, z.2.2.1.2, z.2.2.2⟩⟩
theorem rot3 (a b c : Int32) : a + b - c = (b - c) + a := by
  rw [Int32.sub_eq_add_neg, Int32.sub_eq_add_neg, Int32.add_assoc, Int32.add_comm]
theorem ldf_mdf {n t d r : Nat} {x : Sg} (hT : ∀ k, k < n → rowT x t k) (hS : ∀ k, k < n → rowS x k) (hn : n ≤ 20) (hr : r < n) : ldf n x d r ↔ mdf n x d r := by
  unfold ldf mdf mdK
  rw [sumB0 (g := gnear x d r) (P := lnear x d r) (n := n) (fun _ => rfl) (by omega), allb_iff]
  have e : (∀ k, k < n → ¬ lnear x d r k) ↔ ∀ k, k < n → mdP x d r k := by
    refine forall_congr' (fun k => forall_congr' (fun hk => ?_))
    unfold lnear lwk mdP
    rw [near_iff (hT k hk) (hT r hr), lwk_iff hS hn hk hr]
    exact ⟨fun z q => Classical.not_not.mp (fun w => z ⟨q, w⟩), fun z w => w.2 (z w.1)⟩
  have e2 : fmn n x (nI d) (x 6 r / 1440) (nI r) + x 7 r - x 6 r = sumG (x 7 r - x 6 r) (mdG x d r) n := by
    rw [sumG_eq, rot3]
    congr 1
    refine sumF_c (fun k hk => ?_)
    unfold gmn mdG
    exact pif_c (lwk_iff hS hn hk hr) _ _
  rw [e, e2]
  exact ⟨fun z => ⟨⟨z.2.1, z.1⟩, z.2.2⟩, fun z => ⟨z.1.2, z.1.1, z.2⟩⟩
theorem fmn_all {n d : Nat} {x : Sg} (hS : ∀ k, k < n → rowS x k) (hn : n ≤ 20) (hd : d < 5) (day : Int32) : fmn n x (nI d) day (-1) = fwork n x (nI d) day := by
  refine sumF_c (fun k hk => ?_)
  unfold gmn gwork works
  refine pif_c ⟨fun z => ⟨z.2.1, z.2.2.2.2⟩, fun z => ?_⟩ _ _
  have hw : wkd x k := by
    rcases hS k hk with ⟨-, -, q⟩ | ⟨q, -⟩
    · rw [q] at z; exact absurd z.1.symm (nI_nm (by omega))
    · exact q
  have := (st_iff (hS k hk)).mpr hw
  exact ⟨nI_nm (by omega), z.1, this.1, this.2, z.2⟩
theorem llowb_eq {n t lo r : Nat} {x : Sg} (hT : ∀ k, k < n → rowT x t k) (h : nd n x) (hc : cb lo x) (hl : lo ≤ 1000000000) (hn : n ≤ 20) (hr : r < n) (h1 : x 9 r ≠ 1) : llowb n x r = lowbus n (su x 10 r (-1)) r :=
  low_eq (P := fun q => lbf n x q r) (P' := fun q => busfit n (su x 10 r (-1)) q r) (fun q hq => (lbf_mbf hT h hc hl hn hq hr).trans (fitB_eq (Ag_r n x) hq h1))
theorem llowd_eq {n t r : Nat} {x : Sg} (hT : ∀ k, k < n → rowT x t k) (hS : ∀ k, k < n → rowS x k) (hn : n ≤ 20) (hr : r < n) : llowd n x r = lowdrv n (su x 11 r (-1)) r :=
  low_eq (P := fun q => ldf n x q r) (P' := fun q => drvfit n (su x 11 r (-1)) q r) (fun q hq => (ldf_mdf hT hS hn hr).trans (fitD_eq (Ag_r n x) hS hq))
theorem low5 (P : Nat → Prop) : lowF P 5 0 = -1 ∨ ∃ q, q < 5 ∧ P q ∧ lowF P 5 0 = nI q := low_or P
theorem giveb_l {n t lo r : Nat} {x : Sg} (hT : ∀ k, k < n → rowT x t k) (h : nd n x) (hc : cb lo x) (hl : lo ≤ 1000000000) (hn : n ≤ 20) (hr : r < n) (h2 : x 9 r = 2) : lgiveb n x r = fgiveb n x r := by
  have e1 : llowb n x r = lowbus n (su x 10 r (-1)) r := llowb_eq hT h hc hl hn hr (by rw [h2]; decide)
  unfold lgiveb fgiveb
  rw [← e1]
  rcases low5 (fun q => lbf n x q r) with q | ⟨q, hq, -, e⟩
  · have q' : llowb n x r = -1 := q
    rw [q', pif_t nneg, pif_t rfl]
  · have e' : llowb n x r = nI q := e
    have i := in5 hq
    rw [e', pif_f i.1, pif_f (nI_nm (by omega)), su_su]
    unfold fsend
    rw [pif_t i, nI_clamp (by omega), su_f _ _ _ _ (show 12 ≠ 10 by decide)]
theorem gived_l {n t r : Nat} {x : Sg} (hT : ∀ k, k < n → rowT x t k) (hS : ∀ k, k < n → rowS x k) (hn : n ≤ 20) (hr : r < n) : lgived n x r = fgived n x r := by
  have e1 : llowd n x r = lowdrv n (su x 11 r (-1)) r := llowd_eq hT hS hn hr
  unfold lgived fgived
  rw [← e1]
  rcases low5 (fun q => ldf n x q r) with q | ⟨q, hq, -, e⟩
  · have q' : llowd n x r = -1 := q
    rw [q', pif_t nneg, pif_t rfl]
  · have e' : llowd n x r = nI q := e
    rw [e', pif_f (in5 hq).1, pif_f (nI_nm (by omega)), su_su]
