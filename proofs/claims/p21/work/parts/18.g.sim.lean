section SIM3
variable {n om t : Nat} {x y : Sg}
theorem canord_eq {z : Sg} (h : Ag n x z) (hr : RI n t x) {dp : Int32} {r b d : Nat} (hrn : r < n) (hb : b < 5) (hd : d < 5) : (flead z = dp ∧ z 9 r = 0 ∧ z 0 0 < z 6 r ∧ mbf n z b r ∧ mdf n z d r) ↔ (flead x = dp ∧ canord n x r b d) := by
  unfold canord
  rw [ag_lead h, ag_a h 9, ag_a h 0, ag_a h 6]
  have key : x 9 r = 0 → ((mbf n z b r ↔ busfit n x b r) ∧ (mdf n z d r ↔ drvfit n x d r)) := fun h0 => by
    have hs : x 10 r = -1 ∧ x 11 r = -1 := by
      rcases hr.2.2.1 r hrn with ⟨-, q⟩ | ⟨q, -⟩
      · exact q
      · unfold wkd at q
        rw [h0] at q
        rcases q with q | q | q <;> exact absurd q (by decide)
    have e1 := fitB_eq (g := r) h hb (by rw [h0]; decide)
    have e2 := fitD_eq (g := r) h hr.2.2.1 hd
    rw [su_n x 10 r (-1) hs.1] at e1
    rw [su_n x 11 r (-1) hs.2] at e2
    exact ⟨e1, e2⟩
  constructor
  · rintro ⟨h1, h2, h3, h4, h5⟩
    obtain ⟨k1, k2⟩ := key h2
    exact ⟨h1, h2, h3, k1.mp h4, k2.mp h5⟩
  · rintro ⟨h1, h2, h3, h4, h5⟩
    obtain ⟨k1, k2⟩ := key h2
    exact ⟨h1, h2, h3, k1.mpr h4, k2.mpr h5⟩
theorem sim_order (h : Rel n om t x y) (hom : om < 1000) (dp mk r b d : Int32) : Res [nIO, nIA, nIS] om (xorder n x dp mk r b d) (pif (mcord n y dp mk r b d = 0) (rorder (su y 5 0 0) mk) 0) (rorder x mk) (forder om x mk r b d) x (mord n om y dp mk r b d) := by
  obtain ⟨i1, i2, i3, i4, i5, i6, i7, i8, i9⟩ := id h.1
  have hz := ag_t h.2 0
  have bad : ∀ v, ¬ v = 0 → mcord n y dp mk r b d = v → ∀ E, cd [nIO, nIA, nIS] (some E) = v → xorder n x dp mk r b d = some E → Res [nIO, nIA, nIS] om (xorder n x dp mk r b d) (pif (mcord n y dp mk r b d = 0) (rorder (su y 5 0 0) mk) 0) (rorder x mk) (forder om x mk r b d) x (mord n om y dp mk r b d) := fun v hv e E hE hx => by
    unfold mord
    rw [e, hx, pif_f hv, pif_f hv]
    exact Res_thr h hE
  by_cases c1 : inr 0 1 dp
  · by_cases c2 : inr 0 (y 1 0 - 1) r
    · by_cases c3 : inr 0 4 b
      · by_cases c4 : inr 0 4 d
        · have hall : inr 0 1 dp ∧ inr 0 (y 1 0 - 1) r ∧ inr 0 4 b ∧ inr 0 4 d := ⟨c1, c2, c3, c4⟩
          have hx0 : xorder n x dp mk r b d = xq (xRng mk 0 999) (pif (x 17 mk.toNatClampNeg = -1) (pif (flead x = dp) (pif (canord n x r.toNatClampNeg b.toNatClampNeg d.toNatClampNeg) none (some nIS)) (some nIS)) none) := by
            unfold xorder
            rw [xIdx_t ((ix2 dp).mp c1), xIdx_t ((run_iff h r).mp c2), xIdx_t ((ix5 b).mp c3), xIdx_t ((ix5 d).mp c4), xq_n rfl, xq_n rfl, xq_n rfl, xq_n rfl]
          by_cases c5 : inr 0 999 mk
          · obtain ⟨jm, hjm, rfl⟩ := inr_ix (N := 999) (by decide) rfl c5
            have hcm : (nI jm).toNatClampNeg = jm := nI_clamp (by omega)
            by_cases c6 : x 17 jm = -1
            · have c2' := c2
              rw [ag_a h.2 1, i1] at c2'
              obtain ⟨jr, hjr, rfl⟩ := inr_run (by omega) c2'
              obtain ⟨jb, hjb, rfl⟩ := inr_ix (N := 4) (by decide) rfl c3
              obtain ⟨jd, hjd, rfl⟩ := inr_ix (N := 4) (by decide) rfl c4
              have hcr : (nI jr).toNatClampNeg = jr := nI_clamp (by omega)
              have hcb : (nI jb).toNatClampNeg = jb := nI_clamp (by omega)
              have hcd : (nI jd).toNatClampNeg = jd := nI_clamp (by omega)
              have heq := canord_eq (dp := dp) hz i6 hjr (show jb < 5 by omega) (show jd < 5 by omega)
              by_cases c7 : flead x = dp ∧ canord n x jr jb jd
              · have em : mcord n y dp (nI jm) (nI jr) (nI jb) (nI jd) = 0 := by
                  unfold mcord
                  rw [pif_t hall, pif_t c5, hcm, hcr, hcb, hcd, pif_t (by rw [ag_a hz 17]; exact c6), pif_t (heq.mpr c7)]
                have ex : xorder n x dp (nI jm) (nI jr) (nI jb) (nI jd) = none := by
                  rw [hx0, xRng_t c5, xq_n rfl, hcm, hcr, hcb, hcd, pif_t c6, pif_t c7.1, pif_t c7.2]
                unfold mord
                rw [em, ex, pif_t rfl, pif_t rfl]
                obtain ⟨k1, k2, k3, k4⟩ := c7.2
                have ef : forder om x (nI jm) (nI jr) (nI jb) (nI jd) = fwrite (fgive x jr (nI jb) (nI jd)) om jm (100 * nI jr + 10 * nI jb + nI jd) := by
                  unfold forder
                  rw [hcm, hcr, pif_t c6]
                have eg : forder om (su y 5 0 0) (nI jm) (nI jr) (nI jb) (nI jd) = fwrite (fgive (su y 5 0 0) jr (nI jb) (nI jd)) om jm (100 * nI jr + 10 * nI jb + nI jd) := by
                  unfold forder
                  rw [hcm, hcr, pif_t (by rw [ag_a hz 17]; exact c6)]
                rw [ef, eg]
                have hg : Ag n (fgive x jr (nI jb) (nI jd)) (fgive (su y 5 0 0) jr (nI jb) (nI jd)) := ag_su (ag_su (ag_su hz _ _ _) _ _ _) _ _ _
                have gf : ∀ (z : Sg) f k, f ≠ 9 → f ≠ 10 → f ≠ 11 → fgive z jr (nI jb) (nI jd) f k = z f k := fun z f k q9 q10 q11 => by unfold fgive; rw [su_f _ _ _ _ q11, su_f _ _ _ _ q10, su_f _ _ _ _ q9]
                have wf : ∀ (z : Sg) (en : Int32) f k, f ≠ 2 → f ≠ 16 → f ≠ 17 → fwrite z om jm en f k = z f k := fun z en f k q2 q16 q17 => by unfold fwrite; rw [su_f _ _ _ _ q2, su_f _ _ _ _ q17, su_f _ _ _ _ q16]
                have hR : RI n t (fgive x jr (nI jb) (nI jd)) := RI_give i6 hjr (sv := 1) (Or.inl rfl) (fun q => absurd q (by decide)) (show jb < 5 by omega) (show jd < 5 by omega)
                  (fun k hk hkr ha e m => k3.2.2 k hk ⟨⟨e, ha⟩, m⟩) (fun k hk hkr hw e ed => Classical.not_not.mp (fun z => k4.2.2 k hk ⟨⟨e, ed⟩, z⟩)) k4.1
                refine ⟨?_, fun _ => ?_, n, om + 1, t, Nat.le_refl _, ?_, ?_⟩
                · rw [wf _ _ _ _ (by decide) (by decide) (by decide), gf _ _ _ (by decide) (by decide) (by decide), su_s]; rfl
                · unfold rorder
                  rw [hcm, ag_a hz 17, ag_a hz 2]
                · show Inv n (om + 1) t (fwrite (fgive x jr (nI jb) (nI jd)) om jm _)
                  generalize 100 * nI jr + 10 * nI jb + nI jd = en
                  refine Inv_n h.1 ?_ ?_ ?_ i5 (RI_f hR ?_ ?_ ?_ ?_ ?_ ?_) ?_ (fun k => ?_) (fun k => ?_)
                  · rw [wf _ _ _ _ (by decide) (by decide) (by decide), gf _ _ _ (by decide) (by decide) (by decide)]
                  · unfold fwrite
                    rw [su_s, gf _ _ _ (by decide) (by decide) (by decide), i3, nI_1]
                  · rw [wf _ _ _ _ (by decide) (by decide) (by decide), gf _ _ _ (by decide) (by decide) (by decide)]; exact i4
                  · exact fun k => wf _ _ _ _ (by decide) (by decide) (by decide)
                  · exact fun k => wf _ _ _ _ (by decide) (by decide) (by decide)
                  · exact fun k => wf _ _ _ _ (by decide) (by decide) (by decide)
                  · exact fun k => wf _ _ _ _ (by decide) (by decide) (by decide)
                  · exact fun k => wf _ _ _ _ (by decide) (by decide) (by decide)
                  · exact fun k => wf _ _ _ _ (by decide) (by decide) (by decide)
                  · exact okP_f (x := x) (fun c _ => Or.inl (by rw [wf _ _ _ _ (by decide) (by decide) (by decide), gf _ _ _ (by decide) (by decide) (by decide)])) i7
                  · rw [wf _ _ _ _ (by decide) (by decide) (by decide), gf _ _ _ (by decide) (by decide) (by decide)]; exact i8 k
                  · rw [wf _ _ _ _ (by decide) (by decide) (by decide), gf _ _ _ (by decide) (by decide) (by decide)]; exact i9 k
                · show Ag n (fwrite _ om jm _) (fwrite _ om jm _)
                  unfold fwrite
                  have h2 : fgive (su y 5 0 0) jr (nI jb) (nI jd) 2 0 = fgive x jr (nI jb) (nI jd) 2 0 := ag_a hg 2
                  rw [h2]
                  exact ag_su (ag_su (ag_su hg _ _ _) _ _ _) _ _ _
              · refine bad 3 (by decide) ?_ nIS (by decide +kernel) ?_
                · unfold mcord
                  rw [pif_t hall, pif_t c5, hcm, hcr, hcb, hcd, pif_t (by rw [ag_a hz 17]; exact c6), pif_f (fun q => c7 (heq.mp q))]
                · rw [hx0, xRng_t c5, xq_n rfl, hcm, hcr, hcb, hcd, pif_t c6]
                  by_cases c8 : flead x = dp
                  · rw [pif_t c8, pif_f (fun q => c7 ⟨c8, q⟩)]
                  · rw [pif_f c8]
            · have em : mcord n y dp (nI jm) r b d = 0 := by
                unfold mcord
                rw [pif_t hall, pif_t c5, hcm, pif_f (fun q => c6 (by rw [ag_a hz 17] at q; exact q))]
              have ex : xorder n x dp (nI jm) r b d = none := by
                rw [hx0, xRng_t c5, xq_n rfl, hcm, pif_f c6]
              have ef : forder om (su y 5 0 0) (nI jm) r b d = su y 5 0 0 := by
                unfold forder
                rw [hcm, pif_f (fun q => c6 (by rw [ag_a hz 17] at q; exact q))]
              have eg : forder om x (nI jm) r b d = x := by
                unfold forder
                rw [hcm, pif_f c6]
              unfold mord
              rw [em, ex, pif_t rfl, pif_t rfl, ef, eg]
              refine Res_ask h ?_
              unfold rorder
              rw [hcm, ag_a hz 17, ag_a hz 2]
          · refine bad 2 (by decide) ?_ nIA (by decide +kernel) ?_
            · unfold mcord
              rw [pif_t hall, pif_f c5]
            · rw [hx0, xq_s (xRng_f c5)]
        · refine bad 1 (by decide) ?_ nIO (by decide +kernel) ?_
          · unfold mcord
            rw [pif_f (fun (q : inr 0 1 dp ∧ inr 0 (y 1 0 - 1) r ∧ inr 0 4 b ∧ inr 0 4 d) => c4 q.2.2.2)]
          · unfold xorder
            rw [xIdx_t ((ix2 dp).mp c1), xIdx_t ((run_iff h r).mp c2), xIdx_t ((ix5 b).mp c3), xq_n rfl, xq_n rfl, xq_n rfl, xq_s (xIdx_f (fun q => c4 ((ix5 d).mpr q)))]
      · refine bad 1 (by decide) ?_ nIO (by decide +kernel) ?_
        · unfold mcord
          rw [pif_f (fun (q : inr 0 1 dp ∧ inr 0 (y 1 0 - 1) r ∧ inr 0 4 b ∧ inr 0 4 d) => c3 q.2.2.1)]
        · unfold xorder
          rw [xIdx_t ((ix2 dp).mp c1), xIdx_t ((run_iff h r).mp c2), xq_n rfl, xq_n rfl, xq_s (xIdx_f (fun q => c3 ((ix5 b).mpr q)))]
    · refine bad 1 (by decide) ?_ nIO (by decide +kernel) ?_
      · unfold mcord
        rw [pif_f (fun (q : inr 0 1 dp ∧ inr 0 (y 1 0 - 1) r ∧ inr 0 4 b ∧ inr 0 4 d) => c2 q.2.1)]
      · unfold xorder
        rw [xIdx_t ((ix2 dp).mp c1), xq_n rfl, xq_s (xIdx_f (fun q => c2 ((run_iff h r).mpr q)))]
  · refine bad 1 (by decide) ?_ nIO (by decide +kernel) ?_
    · unfold mcord
      rw [pif_f (fun (q : inr 0 1 dp ∧ inr 0 (y 1 0 - 1) r ∧ inr 0 4 b ∧ inr 0 4 d) => c1 q.1)]
    · unfold xorder
      rw [xq_s (xIdx_f (fun q => c1 ((ix2 dp).mpr q)))]
end SIM3
/-! the new objects -/
theorem fill_c {x y : Sg} {f g : Nat} {v : Int32} (h : ∀ k, y f k = x f k) : ∀ m k, it (fun c z => su z g c v) m y f k = it (fun c z => su z g c v) m x f k := by
  intro m
  induction m with
  | zero => exact h
  | succ m ih =>
    intro k
    show su (it (fun c z => su z g c v) m y) g m v f k = su (it (fun c z => su z g c v) m x) g m v f k
    unfold su
    split
    · split
      · rfl
      · exact ih k
    · exact ih k
theorem fillm_f {f k : Nat} (m : Nat) (x : Sg) (h : f ≠ 17) : fillm m x f k = x f k := it_f (fun c y => su_f _ _ _ _ h) m x
theorem fillp_f {f k : Nat} (m : Nat) (x : Sg) (h : f ≠ 15) : fillp m x f k = x f k := it_f (fun c y => su_f _ _ _ _ h) m x
theorem fillc_f {f k : Nat} (m : Nat) (x : Sg) (h : f ≠ 12) : fillc m x f k = x f k := it_f (fun c y => su_f _ _ _ _ h) m x
theorem xD_f {f k : Nat} (h17 : f ≠ 17) (h15 : f ≠ 15) (h12 : f ≠ 12) : xD f k = xi0 f k := by unfold xD; rw [fillm_f _ _ h17, fillp_f _ _ h15, fillc_f _ _ h12]
theorem Rel_new : Rel 0 0 0 xD xM := by
  refine ⟨⟨?_, by decide, ?_, ?_, by decide, ⟨fun k _ => ⟨?_, ?_, ?_⟩, fun k hk => absurd hk (Nat.not_lt_zero k), fun k hk => absurd hk (Nat.not_lt_zero k), fun j k hj => absurd hj (Nat.not_lt_zero j), fun k hk => absurd hk (Nat.not_lt_zero k)⟩, fun c hc => Or.inl ?_, fun k => ?_, fun k => ?_⟩, ?_⟩
  · rw [xD_f (by decide) (by decide) (by decide)]; rfl
  · rw [xD_f (by decide) (by decide) (by decide)]; rfl
  · rw [xD_f (by decide) (by decide) (by decide)]; rfl
  · rw [xD_f (by decide) (by decide) (by decide)]; rfl
  · rw [xD_f (by decide) (by decide) (by decide)]; rfl
  · rw [xD_f (by decide) (by decide) (by decide)]; rfl
  · unfold xD
    rw [fillm_f _ _ (by decide)]
    show su (su _ 15 0 (-1)) 15 1 (-1) 15 c = -1
    rcases (show c = 0 ∨ c = 1 by omega) with rfl | rfl
    · rw [su_k _ _ _ (by decide), su_s]
    · rw [su_s]
  · rw [xD_f (by decide) (by decide) (by decide)]; show vp_nar .boolean (0 : Int32) = 0; decide
  · rw [xD_f (by decide) (by decide) (by decide)]; show vp_nar .boolean (0 : Int32) = 0; decide
  · intro f k h5 hk
    have h10 : f ≠ 10 := fun q => absurd (hk (Or.inl q)) (Nat.not_lt_zero k)
    have h11 : f ≠ 11 := fun q => absurd (hk (Or.inr q)) (Nat.not_lt_zero k)
    by_cases h3 : f = 3
    · subst h3
      rw [xD_f (by decide) (by decide) (by decide)]
      unfold xM
      by_cases hk0 : k = 0
      · subst hk0; rw [su_s]; rfl
      · rw [su_k _ _ _ hk0, fillm_f _ _ (by decide), fillp_f _ _ (by decide), fillc_f _ _ (by decide)]
        simp [xi0, xm0, hk0]
    · unfold xM xD
      rw [su_f _ _ _ _ h3]
      exact fill_c (fill_c (fill_c (fun k => by simp [xi0, xm0, h3, h10, h11]) 5) 2) 1000 k
