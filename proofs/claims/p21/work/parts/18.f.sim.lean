section SIM2
variable {n om t : Nat} {x y : Sg}
theorem fmin_0 (n : Nat) (x : Sg) : fminute n x 0 0 = x 0 0 + 1 := by
  unfold fminute
  rw [it_f (fun c y => sstart_f c y (by decide) (by decide) (by decide) (by decide) (by decide)), it_f (fun c y => send__f c y (by decide)), su_s, it_f (fun c y => sload_f c y (by decide))]
theorem mins_inv (h : RI n t x) (h0 : x 0 0 = nI t) (m : Nat) (hm : t + m < 100000) : RI n (t + m) (it (fun _ => fminute n) m x) ∧ it (fun _ => fminute n) m x 0 0 = nI (t + m) := by
  induction m with
  | zero => exact ⟨h, h0⟩
  | succ m ih =>
    obtain ⟨i1, i2⟩ := ih (by omega)
    refine ⟨RI_min (t := t + m) i1 i2 (by omega), ?_⟩
    show fminute n (it (fun _ => fminute n) m x) 0 0 = _
    rw [fmin_0, i2, nI_1]
    rfl
theorem fmins_f {f k : Nat} (m : Nat) (h0 : f ≠ 0) (h9 : f ≠ 9) (h10 : f ≠ 10) (h11 : f ≠ 11) (h12 : f ≠ 12) (h15 : f ≠ 15) : it (fun _ => fminute n) m x f k = x f k := it_f (fun c y => fminute_f n y h0 h9 h10 h11 h12 h15) m x
theorem le30 {a m : Nat} (ha : a ≤ 30000) (hm : m ≤ 1000) : ¬ (30000 : Int32) < nI a + nI m ↔ a + m ≤ 30000 := by
  rw [nI_add, show (30000 : Int32) = nI 30000 from rfl, nI_ltI (by decide) (by omega)]
  omega
theorem sim_advance (h : Rel n om t x y) (mi : Int32) : Res [nIA, nIS] om (xadv x mi) (pif (inr 1 1000 mi ∧ ¬ 30000 < y 0 0 + mi) (fadv n (su y 5 0 0) mi 0 0) 0) (fadv n x mi 0 0) (fadv n x mi) x (madv n y mi) := by
  unfold xadv madv mcadv
  obtain ⟨i1, i2, i3, i4, i5, i6, i7, i8, i9⟩ := id h.1
  rw [ag_a h.2 0]
  by_cases c1 : inr 1 1000 mi
  · rw [xRng_t c1, xq_n rfl, pif_t c1]
    by_cases c2 : 30000 < x 0 0 + mi
    · have c3 : ¬ (inr 1 1000 mi ∧ ¬ 30000 < x 0 0 + mi) := fun q => q.2 c2
      rw [pif_t c2, pif_f c3, pif_f c3, pif_t c2]
      exact Res_thr h (by decide +kernel)
    · have c3 : inr 1 1000 mi ∧ ¬ 30000 < x 0 0 + mi := ⟨c1, c2⟩
      rw [pif_f c2, pif_t c3, pif_t c3]
      obtain ⟨m, hm, rfl⟩ := ix_exr (N := 1000) (by decide) (m0_1 c1.1) c1.2
      have hc : (nI m).toNatClampNeg = m := nI_clamp (by omega)
      rw [i4] at c2
      have hle := (le30 i5 hm).mp c2
      have hA := ag_mins (ag_t h.2 0) m
      obtain ⟨hR, h0⟩ := mins_inv i6 i4 m (by omega)
      unfold fadv
      rw [hc]
      refine ⟨?_, fun _ => ag_a hA 0, n, om, t + m, Nat.le_succ om, ?_, hA⟩
      · rw [fmins_f m (by decide) (by decide) (by decide) (by decide) (by decide) (by decide), su_s]; rfl
      · refine Inv_n h.1 (fmins_f m (by decide) (by decide) (by decide) (by decide) (by decide) (by decide)) ((fmins_f m (by decide) (by decide) (by decide) (by decide) (by decide) (by decide)).trans i3) h0 hle hR (okP_mins i7 m) (fun k => ?_) (fun k => ?_)
        · show vp_nar .boolean (it (fun _ => fminute n) m x 13 k) = it (fun _ => fminute n) m x 13 k
          rw [fmins_f m (by decide) (by decide) (by decide) (by decide) (by decide) (by decide)]; exact i8 k
        · show vp_nar .boolean (it (fun _ => fminute n) m x 14 k) = it (fun _ => fminute n) m x 14 k
          rw [fmins_f m (by decide) (by decide) (by decide) (by decide) (by decide) (by decide)]; exact i9 k
  · rw [xq_s (xRng_f c1), pif_f (fun (q : inr 1 1000 mi ∧ ¬ 30000 < x 0 0 + mi) => c1 q.1), pif_f (fun (q : inr 1 1000 mi ∧ ¬ 30000 < x 0 0 + mi) => c1 q.1), pif_f c1]
    exact Res_thr h (by decide +kernel)
/-! questions -/
theorem Res_q (h : Rel n om t x y) {P : Prop} {xo : Option String} {r' r : Int32} (ht : P → xo = none) (hf : ¬ P → xo = some nIO) (hr : P → r' = r) : Res [nIO] om xo (pif P r' 0) r x x (su y 5 0 (pif P 0 1)) := by
  by_cases c : P
  · rw [ht c, pif_t c, pif_t c]
    exact Res_ask h (hr c)
  · rw [hf c, pif_f c, pif_f c]
    exact Res_thr h (by decide +kernel)
theorem sim_orderAt (h : Rel n om t x y) (hom : om ≤ 1000) (o : Int32) : Res [nIO] om (xIdx o (x 2 0)) (pif (inr 0 (y 2 0 - 1) o) (y 16 o.toNatClampNeg) 0) (x 16 o.toNatClampNeg) x x (su y 5 0 (pif (inr 0 (y 2 0 - 1) o) 0 1)) := by
  have e : inr 0 (y 2 0 - 1) o ↔ ¬ o < 0 ∧ o < x 2 0 := by rw [ag_a h.2 2, h.1.2.2.1]; exact ixn hom o
  exact Res_q h (fun q => xIdx_t (e.mp q)) (fun q => xIdx_f (fun z => q (e.mpr z))) (fun _ => ag_a h.2 16)
theorem run_iff (h : Rel n om t x y) (r : Int32) : inr 0 (y 1 0 - 1) r ↔ ¬ r < 0 ∧ r < x 1 0 := by
  have := h.1.2.1
  rw [ag_a h.2 1, h.1.1]
  exact ixn (by omega) r
theorem sim_rowq (h : Rel n om t x y) (f : Nat) (hf : f ≠ 5) (r : Int32) : Res [nIO] om (xIdx r (x 1 0)) (pif (inr 0 (y 1 0 - 1) r) (y f r.toNatClampNeg) 0) (x f r.toNatClampNeg) x x (su y 5 0 (pif (inr 0 (y 1 0 - 1) r) 0 1)) := by
  have e := run_iff h r
  refine Res_q h (fun q => xIdx_t (e.mp q)) (fun q => xIdx_f (fun z => q (e.mpr z))) (fun q => ?_)
  have hn := h.1.2.1
  rw [ag_a h.2 1, h.1.1] at q
  obtain ⟨j, hj, rfl⟩ := inr_run (by omega) q
  rw [nI_clamp (show j < 2 ^ 31 by omega)]
  exact ag_r h.2 f hj hf
theorem sim_charge (h : Rel n om t x y) (b : Int32) : Res [nIO] om (xIdx b 5) (pif (inr 0 4 b) (y 12 b.toNatClampNeg) 0) (x 12 b.toNatClampNeg) x x (su y 5 0 (pif (inr 0 4 b) 0 1)) :=
  Res_q h (fun q => xIdx_t ((ix5 b).mp q)) (fun q => xIdx_f (fun z => q ((ix5 b).mpr z))) (fun _ => ag_a h.2 12)
theorem sim_promised (h : Rel n om t x y) (b : Int32) : Res [nIO] om (xIdx b 5) (pif (inr 0 4 b) (fprom n y b) 0) (fprom n x b) x x (su y 5 0 (pif (inr 0 4 b) 0 1)) :=
  Res_q h (fun q => xIdx_t ((ix5 b).mp q)) (fun q => xIdx_f (fun z => q ((ix5 b).mpr z))) (fun _ => ag_prom h.2 b)
theorem sim_minutesOf (h : Rel n om t x y) (d day : Int32) : Res [nIO] om (xIdx d 5) (pif (inr 0 4 d) (sumF (gmin y d day) n) 0) (fwork n x d day) x x (su y 5 0 (pif (inr 0 4 d) 0 1)) := by
  refine Res_q h (fun q => xIdx_t ((ix5 d).mp q)) (fun q => xIdx_f (fun z => q ((ix5 d).mpr z))) (fun q => sumF_c (fun k hk => ?_))
  obtain ⟨j, hj, rfl⟩ := inr_ix (N := 4) (by decide) rfl q
  unfold gmin gwork works
  rw [ag_r h.2 11 hk, ag_a h.2 6, ag_a h.2 7]
  refine pif_c ⟨fun z => ⟨z.1, z.2.2⟩, fun z => ⟨z.1, ?_, z.2⟩⟩ _ _
  unfold wkd
  rw [ag_a h.2 9]
  rcases h.1.2.2.2.2.2.1.2.2.1 k hk with ⟨-, -, w⟩ | ⟨w, -⟩
  · rw [z.1] at w
    exact absurd w (nI_nm (by omega))
  · exact w
/-! a run told -/
theorem RI_run (h : RI n t x) {a l : Nat} (q : Int32) (h1 : 1 ≤ l) (h2 : l ≤ 600) (h3 : a % 1440 + l ≤ 1440) (h4 : a ≤ 20000) : RI (n + 1) t (frun n x (nI a) (nI l) q) := by
  have fo : ∀ f k, f ≠ 6 → f ≠ 7 → f ≠ 8 → f ≠ 1 → frun n x (nI a) (nI l) q f k = x f k := fun f k q6 q7 q8 q1 => by unfold frun ftell; rw [su_f _ _ _ _ q1, su_f _ _ _ _ q8, su_f _ _ _ _ q7, su_f _ _ _ _ q6]
  have fr : ∀ f k, k ≠ n → f ≠ 1 → frun n x (nI a) (nI l) q f k = x f k := fun f k hk q1 => by unfold frun ftell; rw [su_f _ _ _ _ q1, su_r _ _ _ _ hk, su_r _ _ _ _ hk, su_r _ _ _ _ hk]
  have e6 : frun n x (nI a) (nI l) q 6 n = nI a := by unfold frun ftell; rw [su_f _ _ _ _ (by decide), su_f _ _ _ _ (by decide), su_f _ _ _ _ (by decide), su_s]
  have e7 : frun n x (nI a) (nI l) q 7 n = nI (a + l) := by unfold frun ftell; rw [su_f _ _ _ _ (by decide), su_f _ _ _ _ (by decide), su_s, nI_add]
  generalize frun n x (nI a) (nI l) q = X at fo fr e6 e7 ⊢
  obtain ⟨r1, r2, r3, r4, r5⟩ := h
  have n9 : X 9 n = 0 := (fo 9 n (by decide) (by decide) (by decide) (by decide)).trans (r1 n (Nat.le_refl n)).1
  have nact : ¬ act X n := fun z => by unfold act at z; rw [n9] at z; rcases z with z | z <;> exact absurd z (by decide)
  have nwk : ¬ wkd X n := fun z => by unfold wkd at z; rw [n9] at z; rcases z with z | z | z <;> exact absurd z (by decide)
  refine ⟨fun k hk => ?_, fun k hk => ?_, fun k hk => ?_, fun j k hj hk hjk => ?_, fun k hk ha d hd e => ?_⟩
  · rw [fo _ _ (by decide) (by decide) (by decide) (by decide), fo _ _ (by decide) (by decide) (by decide) (by decide), fo _ _ (by decide) (by decide) (by decide) (by decide)]
    exact r1 k (by omega)
  · by_cases hkn : k = n
    · subst hkn
      exact ⟨a, l, h1, h2, h3, h4, e6, e7, fun z => by rw [n9] at z; exact absurd z (by decide)⟩
    · exact rowT_r (fr _ _ hkn (by decide)) (fr _ _ hkn (by decide)) (fun z => by rw [fr _ _ hkn (by decide)] at z; exact z) (r2 k (by omega))
  · by_cases hkn : k = n
    · subst hkn
      refine Or.inl ⟨Or.inl n9, ?_, ?_⟩
      · rw [fo _ _ (by decide) (by decide) (by decide) (by decide)]; exact (r1 k (Nat.le_refl k)).2.1
      · rw [fo _ _ (by decide) (by decide) (by decide) (by decide)]; exact (r1 k (Nat.le_refl k)).2.2
    · exact rowS_r (fr _ _ hkn (by decide)) (fr _ _ hkn (by decide)) (fr _ _ hkn (by decide)) (r3 k (by omega))
  · by_cases hjn : j = n
    · subst hjn
      exact ⟨fun z => absurd z nact, fun z => absurd z nwk⟩
    · by_cases hkn : k = n
      · subst hkn
        exact ⟨fun _ z => absurd z nact, fun _ z => absurd z nwk⟩
      · have := r4 j k (by omega) (by omega) hjk
        unfold pairB pairD act wkd meets rested at this ⊢
        simp only [fr _ j hjn (show (6 : Nat) ≠ 1 by decide), fr _ j hjn (show (7 : Nat) ≠ 1 by decide), fr _ j hjn (show (9 : Nat) ≠ 1 by decide), fr _ j hjn (show (10 : Nat) ≠ 1 by decide), fr _ j hjn (show (11 : Nat) ≠ 1 by decide), fr _ k hkn (show (6 : Nat) ≠ 1 by decide), fr _ k hkn (show (7 : Nat) ≠ 1 by decide), fr _ k hkn (show (9 : Nat) ≠ 1 by decide), fr _ k hkn (show (10 : Nat) ≠ 1 by decide), fr _ k hkn (show (11 : Nat) ≠ 1 by decide)]
        exact this
  · by_cases hkn : k = n
    · subst hkn; exact absurd ha nact
    · rw [fo _ _ (by decide) (by decide) (by decide) (by decide)]
      unfold act at ha
      rw [fr _ _ hkn (by decide)] at ha e
      exact r5 k (by omega) ha d hd e
theorem ag_run {z : Sg} (h : Ag n x z) (hr : RI n t x) (st mi q : Int32) : Ag (n + 1) (frun n x st mi q) (mrun n z st mi q) := by
  intro f k h5 hk
  unfold frun mrun ftell mfree
  by_cases h1 : f = 1
  · subst h1
    by_cases hk0 : k = 0
    · subst hk0
      rw [su_s, su_s, ag_a h 1, su_f _ _ _ _ (by decide), su_f _ _ _ _ (by decide), su_f _ _ _ _ (by decide)]
    · rw [su_k _ _ _ hk0, su_k _ _ _ hk0]
      simp [su, ag_a h 1]
  · rw [su_f _ _ _ _ h1, su_f _ _ _ _ h1]
    by_cases hkn : k = n
    · subst hkn
      obtain ⟨g1, g2, g3⟩ := hr.1 k (Nat.le_refl k)
      by_cases h11 : f = 11
      · subst h11; simp [su, g3]
      by_cases h10 : f = 10
      · subst h10; simp [su, g2]
      by_cases h9 : f = 9
      · subst h9; simp [su, g1]
      by_cases h8 : f = 8
      · subst h8; simp [su]
      by_cases h7 : f = 7
      · subst h7; simp [su]
      by_cases h6 : f = 6
      · subst h6; simp [su]
      simp [su, h11, h10, h9, h8, h7, h6, ag_a h f h5 h10 h11]
    · rw [su_r _ _ _ _ hkn, su_r _ _ _ _ hkn, su_r _ _ _ _ hkn, su_r _ _ _ _ hkn, su_r _ _ _ _ hkn, su_r _ _ _ _ hkn, su_r _ _ _ _ hkn, su_r _ _ _ _ hkn, su_r _ _ _ _ hkn]
      exact h f k h5 (fun z => by have := hk z; omega)
theorem nI_mod {a : Nat} (h : a < 2 ^ 31) : nI a - nI a / 1440 * 1440 = nI (a % 1440) := by
  apply Int32.toInt_inj.mp
  rw [rem_toInt, nI_toInt h, nI_toInt (by omega), show (1440 : Int32).toInt = 1440 by decide, Int.tmod_eq_emod_of_nonneg (by omega)]
  omega
theorem sim_run (h : Rel n om t x y) (st mi q : Int32) : Res [nIA, nIS] om (xrun x st mi q) (pif (mcrun y st mi q = 0) (y 1 0) 0) (x 1 0) (frun n x st mi q) x (pif (mcrun y st mi q = 0) (mrun n (su y 5 0 0) st mi q) (su y 5 0 (mcrun y st mi q))) := by
  obtain ⟨i1, i2, i3, i4, i5, i6, i7, i8, i9⟩ := id h.1
  have bad : ∀ v, ¬ v = 0 → mcrun y st mi q = v → ∀ E, cd [nIA, nIS] (some E) = v → xrun x st mi q = some E → Res [nIA, nIS] om (xrun x st mi q) (pif (mcrun y st mi q = 0) (y 1 0) 0) (x 1 0) (frun n x st mi q) x (pif (mcrun y st mi q = 0) (mrun n (su y 5 0 0) st mi q) (su y 5 0 (mcrun y st mi q))) := fun v hv e E hE hx => by
    rw [e, hx, pif_f hv, pif_f hv]
    exact Res_thr h hE
  by_cases c1 : inr (x 0 0 + 1) 20000 st
  · by_cases c2 : inr 1 600 mi
    · obtain ⟨l, hl, rfl⟩ := ix_exr (N := 600) (by decide) (m0_1 c2.1) c2.2
      have hst0 : ¬ st < 0 := by
        have := c1.1
        rw [i4, nI_1] at this
        intro z
        apply this
        rw [Int32.lt_iff_toInt_lt] at z ⊢
        rw [show (0 : Int32).toInt = 0 by decide] at z
        rw [nI_toInt (by omega)]
        omega
      obtain ⟨a, ha, rfl⟩ := ix_exr (N := 20000) (by decide) hst0 c1.2
      have hl1 : 1 ≤ l := by
        have := c2.1
        rw [show (1 : Int32) = nI 1 from rfl, nI_ltI (by omega) (by decide)] at this
        omega
      have hD : nI a - nI a / 1440 * 1440 + nI l = nI (a % 1440 + l) := by rw [nI_mod (by omega), nI_add]
      by_cases c3 : 1440 < nI a - nI a / 1440 * 1440 + nI l
      · refine bad 1 (by decide) ?_ nIA (by decide +kernel) ?_
        · unfold mcrun mokrun
          rw [pif_f (fun z => z.2.2.1 c3)]
        · unfold xrun
          rw [xRng_t c1, xRng_t c2, xq_n rfl, xq_n rfl, xq_s (xRng_f (fun z => z.2 c3))]
      · have c3' : inr 1 1440 (nI a - nI a / 1440 * 1440 + nI l) := ⟨by
          rw [hD, show (1 : Int32) = nI 1 from rfl, nI_ltI (by omega) (by decide)]
          omega, c3⟩
        by_cases c4 : inr 0 100 q
        · have hok : mokrun y (nI a) (nI l) q := by
            unfold mokrun
            rw [ag_a h.2 0]
            exact ⟨c1, c2, c3, c4⟩
          by_cases c5 : n = 30
          · refine bad 2 (by decide) ?_ nIS (by decide +kernel) ?_
            · unfold mcrun
              rw [pif_t hok, pif_t (by rw [ag_a h.2 1, i1, c5]; rfl)]
            · unfold xrun
              rw [xRng_t c1, xRng_t c2, xRng_t c3', xRng_t c4, xq_n rfl, xq_n rfl, xq_n rfl, xq_n rfl, pif_f (by rw [i1, c5]; decide)]
          · have em : mcrun y (nI a) (nI l) q = 0 := by
              unfold mcrun
              rw [pif_t hok, pif_f (fun z => by
                rw [ag_a h.2 1, i1] at z
                exact c5 ((nI_eq (show n < 2 ^ 31 by omega) (show (30 : Nat) < 2 ^ 31 by decide)).mp z))]
            have ex : xrun x (nI a) (nI l) q = none := by
              unfold xrun
              rw [xRng_t c1, xRng_t c2, xRng_t c3', xRng_t c4, xq_n rfl, xq_n rfl, xq_n rfl, xq_n rfl, pif_t (by
                rw [i1]
                exact (nI_ltI (show n < 2 ^ 31 by omega) (show (30 : Nat) < 2 ^ 31 by decide)).mpr (by omega))]
            rw [em, ex, pif_t rfl, pif_t rfl]
            have h3 : a % 1440 + l ≤ 1440 := by
              rw [hD, show (1440 : Int32) = nI 1440 from rfl, nI_ltI (by decide) (by omega)] at c3
              omega
            have fo : ∀ f k, f ≠ 6 → f ≠ 7 → f ≠ 8 → f ≠ 1 → frun n x (nI a) (nI l) q f k = x f k := fun f k q6 q7 q8 q1 => by unfold frun ftell; rw [su_f _ _ _ _ q1, su_f _ _ _ _ q8, su_f _ _ _ _ q7, su_f _ _ _ _ q6]
            refine ⟨?_, fun _ => ag_a h.2 1, n + 1, om, t, Nat.le_succ om, ⟨?_, by omega, ?_, ?_, i5, RI_run i6 q hl1 hl h3 ha, ?_, fun k => ?_, fun k => ?_⟩, ag_run (ag_t h.2 0) i6 _ _ _⟩
            · unfold mrun mfree
              simp only [su_f _ _ _ _ (show (5 : Nat) ≠ 1 by decide), su_f _ _ _ _ (show (5 : Nat) ≠ 6 by decide), su_f _ _ _ _ (show (5 : Nat) ≠ 7 by decide), su_f _ _ _ _ (show (5 : Nat) ≠ 8 by decide), su_f _ _ _ _ (show (5 : Nat) ≠ 9 by decide), su_f _ _ _ _ (show (5 : Nat) ≠ 10 by decide), su_f _ _ _ _ (show (5 : Nat) ≠ 11 by decide), su_s]
              rfl
            · show frun n x (nI a) (nI l) q 1 0 = _
              unfold frun ftell
              rw [su_s, su_f _ _ _ _ (by decide), su_f _ _ _ _ (by decide), su_f _ _ _ _ (by decide), i1, nI_1]
            · exact (fo 2 0 (by decide) (by decide) (by decide) (by decide)).trans i3
            · exact (fo 0 0 (by decide) (by decide) (by decide) (by decide)).trans i4
            · exact okP_f (x := x) (fun c _ => Or.inl (fo 15 c (by decide) (by decide) (by decide) (by decide))) i7
            · show vp_nar .boolean (frun n x (nI a) (nI l) q 13 k) = frun n x (nI a) (nI l) q 13 k
              rw [fo _ _ (by decide) (by decide) (by decide) (by decide)]; exact i8 k
            · show vp_nar .boolean (frun n x (nI a) (nI l) q 14 k) = frun n x (nI a) (nI l) q 14 k
              rw [fo _ _ (by decide) (by decide) (by decide) (by decide)]; exact i9 k
        · refine bad 1 (by decide) ?_ nIA (by decide +kernel) ?_
          · unfold mcrun mokrun
            rw [pif_f (fun z => c4 z.2.2.2)]
          · unfold xrun
            rw [xRng_t c1, xRng_t c2, xRng_t c3', xq_n rfl, xq_n rfl, xq_n rfl, xq_s (xRng_f c4)]
    · refine bad 1 (by decide) ?_ nIA (by decide +kernel) ?_
      · unfold mcrun mokrun
        rw [pif_f (fun z => c2 z.2.1)]
      · unfold xrun
        rw [xRng_t c1, xq_n rfl, xq_s (xRng_f c2)]
  · refine bad 1 (by decide) ?_ nIA (by decide +kernel) ?_
    · unfold mcrun mokrun
      rw [pif_f (fun z => c1 (by rw [← ag_a h.2 0]; exact z.1))]
    · unfold xrun
      rw [xq_s (xRng_f c1)]
end SIM2
