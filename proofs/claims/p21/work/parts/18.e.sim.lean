theorem Inv_n {n om om' t t' : Nat} {x y : Sg} (h : Inv n om t x) (e1 : y 1 0 = x 1 0) (e2 : y 2 0 = nI om') (e0 : y 0 0 = nI t') (ht : t' ≤ 30000) (hR : RI n t' y) (hP : okP y) (e13 : ∀ k, vp_nar .boolean (y 13 k) = y 13 k) (e14 : ∀ k, vp_nar .boolean (y 14 k) = y 14 k) : Inv n om' t' y :=
  ⟨e1.trans h.1, h.2.1, e2, e0, ht, hR, hP, e13, e14⟩
theorem okP_brk {n j : Nat} {x : Sg} (v : Int32) (h : okP x) : okP (fbreaks n x (nI j) v) := by
  have up : ∀ (z : Sg) (b : Int32), okP z → okP (funplug z b) := fun z b hz => okP_f (x := z) (fun c hc => by
    show sunplug b 1 (sunplug b 0 z) 15 c = z 15 c ∨ sunplug b 1 (sunplug b 0 z) 15 c = -1
    have st : ∀ k (w : Sg), sunplug b k w 15 c = w 15 c ∨ sunplug b k w 15 c = -1 := fun k w => by
      unfold sunplug
      refine pif_ap _ _ _ (fun (t : Sg) => t 15 c = w 15 c ∨ t 15 c = -1) (fun h => ?_) (fun _ => Or.inl rfl)
      by_cases hc : c = k
      · subst hc; exact Or.inr (su_s _ _ _ _)
      · exact Or.inl (su_k _ _ _ hc)
    rcases st 1 (sunplug b 0 z) with e | e
    · rw [e]; exact st 0 z
    · exact Or.inr e) hz
  have us : ∀ (z : Sg) (f k : Nat) (w : Int32), f ≠ 15 → okP z → okP (su z f k w) := fun z f k w hf hz => okP_f (x := z) (fun c _ => Or.inl (su_f _ _ _ _ (fun q => hf q.symm))) hz
  have ud : ∀ (z : Sg) (k : Nat) (w : Int32), okP z → okP (fdrop z k w) := fun z k w hz => okP_f (x := z) (fun c _ => Or.inl (fdrop_f _ _ _ (by decide) (by decide) (by decide))) hz
  have ue : ∀ (z : Sg) (b q : Int32), okP z → okP (fsend z b q) := fun z b q hz => okP_f (x := z) (fun c _ => fsend_okP b q c) hz
  unfold fbreaks
  refine pif_ap _ _ _ okP (fun _ => us _ _ _ _ (by decide) h) (fun _ => ?_)
  refine it_inv _ okP n _ (it_inv _ okP n _ (up _ _ (us _ _ _ _ (by decide) h)) (fun k z _ hz => ?_)) (fun k z _ hz => ?_)
  · exact pif_ap _ _ _ okP (fun _ => ud _ _ _ hz) (fun _ => hz)
  · refine pif_ap _ _ _ okP (fun _ => ?_) (fun _ => hz)
    exact pif_ap _ _ _ okP (fun _ => ud _ _ _ (us _ _ _ _ (by decide) hz)) (fun _ => ue _ _ _ (us _ _ _ _ (by decide) (us _ _ _ _ (by decide) hz)))
theorem cd_none (ls : List String) : cd ls none = 0 := rfl
section SIM
variable {n om t : Nat} {x y : Sg}
theorem Res_thr (h : Rel n om t x y) {ls : List String} {E : String} {r' r v : Int32} {x' : Sg} (hv : cd ls (some E) = v) : Res ls om (some E) r' r x' x (su y 5 0 v) :=
  ⟨by rw [su_s]; exact hv, fun q => (by cases q), n, om, t, Nat.le_succ om, h.thr v⟩
/-- questions: nothing changes -/
theorem Res_ask (h : Rel n om t x y) {ls : List String} {r' r : Int32} (hr : r' = r) : Res ls om none r' r x x (su y 5 0 0) :=
  ⟨(su_s _ _ _ _).symm, fun _ => hr, n, om, t, Nat.le_succ om, h.thr 0⟩
theorem sim_lead (h : Rel n om t x y) (d mi : Int32) : Res [nIO, nIA] om (xlead d mi) (b2i ((inr 0 1 d ∧ inr 1 1000 mi) ∧ ledby (su y 5 0 0) d)) (b2i (ledby x d)) (fleads x d mi) x (mlead y d mi) := by
  unfold xlead mlead mclead
  by_cases c1 : inr 0 1 d
  · rw [xIdx_t ((ix2 d).mp c1), xq_n rfl, pif_t c1]
    by_cases c2 : inr 1 1000 mi
    · rw [xRng_t c2, pif_t ⟨c1, c2⟩]
      have hA := ag_t h.2 0
      have hl : ledby (su y 5 0 0) d ↔ ledby x d := by unfold ledby; rw [ag_lead hA]
      have e5 : fleads (su y 5 0 0) d mi 5 0 = 0 := by
        unfold fleads
        refine pif_ap _ _ _ (fun (z : Sg) => z 5 0 = 0) (fun _ => ?_) (fun _ => su_s _ _ _ _)
        rw [su_f _ _ _ _ (by decide), su_f _ _ _ _ (by decide), su_s]
      refine ⟨by rw [e5]; rfl, fun _ => b2i_c ⟨fun q => hl.mp q.2, fun q => ⟨⟨c1, c2⟩, hl.mpr q⟩⟩, n, om, t, Nat.le_succ om, ?_, ?_⟩
      · show Inv n om t (fleads x d mi)
        have hf : ∀ f k, f ≠ 3 → f ≠ 4 → fleads x d mi f k = x f k := fun f k q3 q4 => by
          unfold fleads
          refine pif_ap _ _ _ (fun (z : Sg) => z f k = x f k) (fun _ => ?_) (fun _ => rfl)
          rw [su_f _ _ _ _ q4, su_f _ _ _ _ q3]
        obtain ⟨i1, i2, i3, i4, i5, i6, i7, i8, i9⟩ := h.1
        exact Inv_n h.1 (hf _ _ (by decide) (by decide)) ((hf _ _ (by decide) (by decide)).trans i3) ((hf _ _ (by decide) (by decide)).trans i4) i5 (RI_f i6 (fun k => hf _ _ (by decide) (by decide)) (fun k => hf _ _ (by decide) (by decide)) (fun k => hf _ _ (by decide) (by decide)) (fun k => hf _ _ (by decide) (by decide)) (fun k => hf _ _ (by decide) (by decide)) (fun k => hf _ _ (by decide) (by decide))) (okP_f (fun c _ => Or.inl (hf _ _ (by decide) (by decide))) i7) (fun k => by rw [hf _ _ (by decide) (by decide)]; exact i8 k) (fun k => by rw [hf _ _ (by decide) (by decide)]; exact i9 k)
      · show Ag n (fleads x d mi) (fleads (su y 5 0 0) d mi)
        unfold fleads
        refine ag_pif hl (fun _ => ag_su' (ag_su hA _ _ _) _ _ ?_) (fun _ => hA)
        rw [ag_a (ag_su hA 3 0 d) 0]
    · rw [xRng_f c2, pif_f (fun q => c2 q.2), pif_f c2]
      exact Res_thr h (by decide +kernel)
  · rw [xq_s (xIdx_f (fun q => c1 ((ix2 d).mpr q))), pif_f (fun q => c1 q.1), pif_f c1]
    exact Res_thr h (by decide +kernel)
theorem sim_breaks (h : Rel n om t x y) (v : Int32) (hv : vp_nar .boolean v = v) (b : Int32) : Res [nIO] om (xIdx b 5) (pif (inr 0 4 b) (y 13 b.toNatClampNeg) 0) (x 13 b.toNatClampNeg) (fbreaks n x b v) x (pif (inr 0 4 b) (mbrk n (su y 5 0 0) b v) (su y 5 0 1)) := by
  by_cases c1 : inr 0 4 b
  · rw [pif_t c1, pif_t c1]
    obtain ⟨j, hj, rfl⟩ := inr_ix (N := 4) (by decide) rfl c1
    rw [xIdx_t ((ix5 _).mp c1)]
    have hj5 : j < 5 := by omega
    obtain ⟨i1, i2, i3, i4, i5, i6, i7, i8, i9⟩ := id h.1
    obtain ⟨hA, hR⟩ := brk_eq v i2 hj5 (ag_t h.2 0) i6
    have fm : ∀ (z : Sg) f k, f ≠ 9 → f ≠ 10 → f ≠ 11 → f ≠ 12 → f ≠ 13 → f ≠ 15 → mbrk n z (nI j) v f k = z f k := fun z f k q9 q10 q11 q12 q13 q15 => by
      unfold mbrk mgob mgiveb
      simp [pif_ap2, su_f, funplug_f, fdrop_f, it_f (fun c y => srel_f _ _ c y q9 q10 q11), q9, q10, q11, q12, q13, q15, pif_s]
    have fd : ∀ f k, f ≠ 9 → f ≠ 10 → f ≠ 11 → f ≠ 12 → f ≠ 13 → f ≠ 15 → fbreaks n x (nI j) v f k = x f k := fun f k q9 q10 q11 q12 q13 q15 => by
      unfold fbreaks
      simp [pif_ap2, su_f, funplug_f, it_f (fun c y => stakeb_f _ c y q9 q10 q11), it_f (fun c y => sswapb_f n _ c y q9 q10 q11 q12 q15), q13, q15, pif_s]
    have f13 : ∀ k, fbreaks n x (nI j) v 13 k = su x 13 j v 13 k := fun k => by
      unfold fbreaks
      simp [pif_ap2, funplug_f, it_f (fun c y => stakeb_f _ c y (show (13 : Nat) ≠ 9 by decide) (by decide) (by decide)), it_f (fun c y => sswapb_f n _ c y (show (13 : Nat) ≠ 9 by decide) (by decide) (by decide) (by decide) (by decide)), pif_s, nI_clamp (show j < 2 ^ 31 by omega)]
    refine ⟨by rw [fm _ _ _ (by decide) (by decide) (by decide) (by decide) (by decide) (by decide), su_s]; rfl, fun _ => ag_a h.2 13, n, om, t, Nat.le_succ om, ?_, hA⟩
    refine Inv_n h.1 (fd _ _ (by decide) (by decide) (by decide) (by decide) (by decide) (by decide)) ((fd _ _ (by decide) (by decide) (by decide) (by decide) (by decide) (by decide)).trans i3) ((fd _ _ (by decide) (by decide) (by decide) (by decide) (by decide) (by decide)).trans i4) i5 hR (okP_brk v i7) (fun k => ?_) (fun k => by show vp_nar .boolean (fbreaks n x (nI j) v 14 k) = fbreaks n x (nI j) v 14 k; rw [fd _ _ (by decide) (by decide) (by decide) (by decide) (by decide) (by decide)]; exact i9 k)
    show vp_nar .boolean (fbreaks n x (nI j) v 13 k) = fbreaks n x (nI j) v 13 k
    rw [f13]
    by_cases hk : k = j
    · subst hk; rw [su_s]; exact hv
    · rw [su_k _ _ _ hk]; exact i8 k
  · rw [pif_f c1, pif_f c1, xIdx_f (fun q => c1 ((ix5 b).mpr q))]
    exact Res_thr h (by decide +kernel)
theorem sim_ails (h : Rel n om t x y) (v : Int32) (hv : vp_nar .boolean v = v) (d : Int32) : Res [nIO] om (xIdx d 5) (pif (inr 0 4 d) (y 14 d.toNatClampNeg) 0) (x 14 d.toNatClampNeg) (fails n x d v) x (pif (inr 0 4 d) (mail n (su y 5 0 0) d v) (su y 5 0 1)) := by
  by_cases c1 : inr 0 4 d
  · rw [pif_t c1, pif_t c1]
    obtain ⟨j, hj, rfl⟩ := inr_ix (N := 4) (by decide) rfl c1
    rw [xIdx_t ((ix5 _).mp c1)]
    have hj5 : j < 5 := by omega
    obtain ⟨i1, i2, i3, i4, i5, i6, i7, i8, i9⟩ := id h.1
    obtain ⟨hA, hR⟩ := ail_eq v i2 hj5 (ag_t h.2 0) i6
    have fm : ∀ (z : Sg) f k, f ≠ 9 → f ≠ 10 → f ≠ 11 → f ≠ 14 → mail n z (nI j) v f k = z f k := fun z f k q9 q10 q11 q14 => by
      unfold mail mgod mgived
      simp [pif_ap2, su_f, fdrop_f, it_f (fun c y => srel_f _ _ c y q9 q10 q11), q9, q10, q11, q14, pif_s]
    have fd : ∀ f k, f ≠ 9 → f ≠ 10 → f ≠ 11 → f ≠ 14 → fails n x (nI j) v f k = x f k := fun f k q9 q10 q11 q14 => by
      unfold fails
      simp [pif_ap2, su_f, it_f (fun c y => staked_f _ c y q9 q10 q11), it_f (fun c y => sswapd_f n _ c y q9 q10 q11), q14, pif_s]
    have f14 : ∀ k, fails n x (nI j) v 14 k = su x 14 j v 14 k := fun k => by
      unfold fails
      simp [pif_ap2, it_f (fun c y => staked_f _ c y (show (14 : Nat) ≠ 9 by decide) (by decide) (by decide)), it_f (fun c y => sswapd_f n _ c y (show (14 : Nat) ≠ 9 by decide) (by decide) (by decide)), pif_s, nI_clamp (show j < 2 ^ 31 by omega)]
    refine ⟨by rw [fm _ _ _ (by decide) (by decide) (by decide) (by decide), su_s]; rfl, fun _ => ag_a h.2 14, n, om, t, Nat.le_succ om, ?_, hA⟩
    refine Inv_n h.1 (fd _ _ (by decide) (by decide) (by decide) (by decide)) ((fd _ _ (by decide) (by decide) (by decide) (by decide)).trans i3) ((fd _ _ (by decide) (by decide) (by decide) (by decide)).trans i4) i5 hR (okP_f (x := x) (fun c _ => Or.inl (fd _ _ (by decide) (by decide) (by decide) (by decide))) i7) (fun k => by show vp_nar .boolean (fails n x (nI j) v 13 k) = fails n x (nI j) v 13 k; rw [fd _ _ (by decide) (by decide) (by decide) (by decide)]; exact i8 k) (fun k => ?_)
    show vp_nar .boolean (fails n x (nI j) v 14 k) = fails n x (nI j) v 14 k
    rw [f14]
    by_cases hk : k = j
    · subst hk; rw [su_s]; exact hv
    · rw [su_k _ _ _ hk]; exact i9 k
  · rw [pif_f c1, pif_f c1, xIdx_f (fun q => c1 ((ix5 d).mpr q))]
    exact Res_thr h (by decide +kernel)
theorem funplug_15 (x : Sg) (b : Int32) {c : Nat} (hc : c < 2) : funplug x b 15 c = pif (x 15 c = b) (-1) (x 15 c) := by
  show sunplug b 1 (sunplug b 0 x) 15 c = _
  have o : ∀ (k : Nat) (z : Sg), c ≠ k → sunplug b k z 15 c = z 15 c := fun k z hk => by unfold sunplug; rw [pif_ap2, su_k _ _ _ hk, pif_s]
  have s : ∀ (z : Sg), sunplug b c z 15 c = pif (z 15 c = b) (-1) (z 15 c) := fun z => by unfold sunplug; rw [pif_ap2, su_s]
  rcases (show c = 0 ∨ c = 1 by omega) with rfl | rfl
  · rw [o 1 _ (by decide), s]
  · rw [s, o 0 _ (by decide)]
theorem okP_unplug (b : Int32) (h : okP x) : okP (funplug x b) := okP_f (x := x) (fun c hc => by
  rw [funplug_15 x b hc]
  by_cases e : x 15 c = b
  · rw [pif_t e]; exact Or.inr rfl
  · rw [pif_f e]; exact Or.inl rfl) h
theorem sim_plug (h : Rel n om t x y) (b ch : Int32) : Res [nIO, nIS] om (xplug n x b ch) (pif (inr 0 4 b ∧ inr 0 1 ch ∧ ¬ under n y b) (pif (y 15 ch.toNatClampNeg = b) (-1) (y 15 ch.toNatClampNeg)) 0) (funplug x b 15 ch.toNatClampNeg) (fplug x b ch) x (mplug n y b ch) := by
  have hu : under n y b ↔ under n x b := by
    unfold under
    constructor <;> rintro ⟨k, h1, h2, h3⟩ <;> refine ⟨k, h1, ?_, ?_⟩
    · rw [← ag_a h.2 9]; exact h2
    · rw [← ag_r h.2 10 h1]; exact h3
    · rw [ag_a h.2 9]; exact h2
    · rw [ag_r h.2 10 h1]; exact h3
  unfold xplug mplug mclplug
  by_cases c1 : inr 0 4 b
  · by_cases c2 : inr 0 1 ch
    · rw [xIdx_t ((ix5 b).mp c1), xIdx_t ((ix2 ch).mp c2), xq_n rfl, xq_n rfl, pif_t (⟨c1, c2⟩ : inr 0 4 b ∧ inr 0 1 ch)]
      by_cases c3 : under n x b
      · rw [pif_t c3, pif_f (fun (q : inr 0 4 b ∧ inr 0 1 ch ∧ ¬ under n y b) => q.2.2 (hu.mpr c3)), pif_f (fun (q : inr 0 4 b ∧ inr 0 1 ch ∧ ¬ under n y b) => q.2.2 (hu.mpr c3)), pif_t (hu.mpr c3)]
        exact Res_thr h (by decide +kernel)
      · have c4 : inr 0 4 b ∧ inr 0 1 ch ∧ ¬ under n y b := ⟨c1, c2, fun q => c3 (hu.mp q)⟩
        rw [pif_f c3, pif_t c4, pif_t c4]
        obtain ⟨j, hj, rfl⟩ := inr_ix (N := 4) (by decide) rfl c1
        obtain ⟨q, hq, rfl⟩ := inr_ix (N := 1) (by decide) rfl c2
        have hc : (nI q).toNatClampNeg = q := nI_clamp (by omega)
        obtain ⟨i1, i2, i3, i4, i5, i6, i7, i8, i9⟩ := id h.1
        have fp : ∀ f k, f ≠ 15 → fplug x (nI j) (nI q) f k = x f k := fun f k q => by unfold fplug; rw [su_f _ _ _ _ q, funplug_f _ _ q]
        refine ⟨?_, fun _ => ?_, n, om, t, Nat.le_succ om, ?_, ?_⟩
        · unfold fplug
          rw [su_f _ _ _ _ (by decide), funplug_f _ _ (by decide), su_s]; rfl
        · rw [hc, funplug_15 x _ (by omega), ag_a h.2 15]
        · refine Inv_n h.1 (fp _ _ (by decide)) ((fp _ _ (by decide)).trans i3) ((fp _ _ (by decide)).trans i4) i5 (RI_f i6 (fun k => fp _ _ (by decide)) (fun k => fp _ _ (by decide)) (fun k => fp _ _ (by decide)) (fun k => fp _ _ (by decide)) (fun k => fp _ _ (by decide)) (fun k => fp _ _ (by decide))) ?_ (fun k => by show vp_nar .boolean (fplug x (nI j) (nI q) 13 k) = fplug x (nI j) (nI q) 13 k; rw [fp _ _ (by decide)]; exact i8 k) (fun k => by show vp_nar .boolean (fplug x (nI j) (nI q) 14 k) = fplug x (nI j) (nI q) 14 k; rw [fp _ _ (by decide)]; exact i9 k)
          intro c hc2
          show fplug x (nI j) (nI q) 15 c = -1 ∨ ∃ b, b < 5 ∧ fplug x (nI j) (nI q) 15 c = nI b
          unfold fplug
          by_cases e : c = (nI q).toNatClampNeg
          · subst e; rw [su_s]; exact Or.inr ⟨j, by omega, rfl⟩
          · rw [su_k _ _ _ e]; exact okP_unplug (nI j) i7 c hc2
        · exact ag_su (ag_unplug (ag_t h.2 0) _) _ _ _
    · rw [xIdx_t ((ix5 b).mp c1), xq_n rfl, xq_s (xIdx_f (fun q => c2 ((ix2 ch).mpr q))), pif_f (fun q => c2 q.2.1), pif_f (fun q => c2 q.2.1), pif_f (fun (q : inr 0 4 b ∧ inr 0 1 ch) => c2 q.2)]
      exact Res_thr h (by decide +kernel)
  · rw [xq_s (xIdx_f (fun q => c1 ((ix5 b).mpr q))), pif_f (fun q => c1 q.1), pif_f (fun q => c1 q.1), pif_f (fun (q : inr 0 4 b ∧ inr 0 1 ch) => c1 q.1)]
    exact Res_thr h (by decide +kernel)
end SIM
