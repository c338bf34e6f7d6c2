/-! A minute, and who goes alone -/
theorem sstart_no {Y : Sg} {k : Nat} (h : ¬ Y 6 k = Y 0 0) : sstart k Y = Y := by unfold sstart; rw [pif_f h]
theorem sstart_go {Y : Sg} {k : Nat} (h : Y 6 k = Y 0 0) (h1 : Y 9 k = 1) : sstart k Y = fsend (su Y 9 k 2) (Y 10 k) (Y 8 k) := by unfold sstart fstart; rw [pif_t h, pif_t h1]
theorem sstart_lost {Y : Sg} {k : Nat} (h : Y 6 k = Y 0 0) (h1 : Y 9 k = 0) : sstart k Y = fdrop Y k 4 := by
  unfold sstart fstart
  rw [pif_t h, pif_f (by rw [h1]; decide), pif_t h1]
theorem sstart_else {Y : Sg} {k : Nat} (h1 : ¬ Y 9 k = 1) (h0 : ¬ Y 9 k = 0) : sstart k Y = Y := by
  by_cases h : Y 6 k = Y 0 0
  · unfold sstart fstart; rw [pif_t h, pif_f h1, pif_f h0]
  · exact sstart_no h
theorem min_row {n t k : Nat} {x : Sg} (hk : k < n) (h0 : x 0 0 = nI t) : (fminute n x 6 k = x 6 k ∧ fminute n x 7 k = x 7 k) ∧
    ((fminute n x 9 k = x 9 k ∧ fminute n x 10 k = x 10 k ∧ fminute n x 11 k = x 11 k ∧ ¬ (x 9 k = 2 ∧ x 7 k = nI (t + 1))) ∨
     (x 9 k = 2 ∧ fminute n x 9 k = 3 ∧ fminute n x 10 k = x 10 k ∧ fminute n x 11 k = x 11 k) ∨
     (x 9 k = 1 ∧ x 6 k = nI (t + 1) ∧ fminute n x 9 k = 2 ∧ fminute n x 10 k = x 10 k ∧ fminute n x 11 k = x 11 k) ∨
     (x 9 k = 0 ∧ fminute n x 9 k = 4 ∧ fminute n x 10 k = -1 ∧ fminute n x 11 k = -1)) := by
  refine ⟨⟨fminute_f n x (by decide) (by decide) (by decide) (by decide) (by decide) (by decide), fminute_f n x (by decide) (by decide) (by decide) (by decide) (by decide) (by decide)⟩, ?_⟩
  obtain ⟨z1, hz1⟩ : ∃ z, z = su (it sload 2 x) 0 0 (it sload 2 x 0 0 + 1) := ⟨_, rfl⟩
  have zf : ∀ f j, f ≠ 0 → f ≠ 12 → z1 f j = x f j := fun f j q0 q12 => by rw [hz1, su_f _ _ _ _ q0, it_f (fun c y => sload_f c y q12)]
  have z0 : z1 0 0 = nI (t + 1) := by rw [hz1, su_s, it_f (fun c y => sload_f c y (by decide)), h0, nI_1]
  obtain ⟨z2, hz2⟩ : ∃ z, z = it send_ n z1 := ⟨_, rfl⟩
  have hm : fminute n x = it sstart n z2 := by rw [hz2, hz1]; rfl
  have z2f : ∀ f j, f ≠ 9 → z2 f j = z1 f j := fun f j q => by rw [hz2, it_f (fun c y => send__f c y q)]
  have z29 : z2 9 k = pif (x 9 k = 2 ∧ x 7 k = nI (t + 1)) 3 (x 9 k) := by
    rw [hz2, it_own (fun c y j hj => send__r c y hj) z1 hk]
    have e9 : it send_ k z1 9 k = x 9 k := (it_row (fun c y j hj => send__r c y hj) z1 (Nat.le_refl k)).trans (zf 9 k (by decide) (by decide))
    have e7 : it send_ k z1 7 k = x 7 k := (it_f (fun c y => send__f c y (by decide)) k z1).trans (zf 7 k (by decide) (by decide))
    have e0 : it send_ k z1 0 0 = nI (t + 1) := (it_f (fun c y => send__f c y (by decide)) k z1).trans z0
    unfold send_ at e9 e7 e0 ⊢
    rw [e9, e7, e0]
    by_cases hc : x 9 k = 2 ∧ x 7 k = nI (t + 1)
    · rw [pif_t hc, pif_t hc, su_s]
    · rw [pif_f hc, pif_f hc, e9]
  obtain ⟨Y, hY⟩ : ∃ z, z = it sstart k z2 := ⟨_, rfl⟩
  have y9 : Y 9 k = z2 9 k := by rw [hY, it_row (fun c y j hj => sstart_r c y hj (by decide) (by decide)) z2 (Nat.le_refl k)]
  have y6 : Y 6 k = x 6 k := by rw [hY, it_f (fun c y => sstart_f c y (by decide) (by decide) (by decide) (by decide) (by decide)), z2f _ _ (by decide), zf _ _ (by decide) (by decide)]
  have y0 : Y 0 0 = nI (t + 1) := by rw [hY, it_f (fun c y => sstart_f c y (by decide) (by decide) (by decide) (by decide) (by decide)), z2f _ _ (by decide), z0]
  have y10 : Y 10 k = x 10 k := by rw [hY, it_row (fun c y j hj => sstart_r c y hj (by decide) (by decide)) z2 (Nat.le_refl k), z2f _ _ (by decide), zf _ _ (by decide) (by decide)]
  have y11 : Y 11 k = x 11 k := by rw [hY, it_row (fun c y j hj => sstart_r c y hj (by decide) (by decide)) z2 (Nat.le_refl k), z2f _ _ (by decide), zf _ _ (by decide) (by decide)]
  have m9 : fminute n x 9 k = sstart k Y 9 k := by rw [hm, hY, it_own (fun c y j hj => sstart_r c y hj (by decide) (by decide)) z2 hk]
  have m10 : fminute n x 10 k = sstart k Y 10 k := by rw [hm, hY, it_own (fun c y j hj => sstart_r c y hj (by decide) (by decide)) z2 hk]
  have m11 : fminute n x 11 k = sstart k Y 11 k := by rw [hm, hY, it_own (fun c y j hj => sstart_r c y hj (by decide) (by decide)) z2 hk]
  rw [m9, m10, m11]
  by_cases hA : x 9 k = 2 ∧ x 7 k = nI (t + 1)
  · rw [pif_t hA] at z29
    rw [z29] at y9
    rw [sstart_else (by rw [y9]; decide) (by rw [y9]; decide)]
    exact Or.inr (Or.inl ⟨hA.1, y9, y10, y11⟩)
  · rw [pif_f hA] at z29
    rw [z29] at y9
    by_cases hB : x 6 k = nI (t + 1)
    · by_cases h1 : x 9 k = 1
      · rw [sstart_go (y6.trans (hB.trans y0.symm)) (y9.trans h1)]
        refine Or.inr (Or.inr (Or.inl ⟨h1, hB, ?_, ?_, ?_⟩))
        · rw [fsend_f _ _ _ (by decide) (by decide), su_s]
        · rw [fsend_f _ _ _ (by decide) (by decide), su_f _ _ _ _ (by decide)]; exact y10
        · rw [fsend_f _ _ _ (by decide) (by decide), su_f _ _ _ _ (by decide)]; exact y11
      · by_cases h2 : x 9 k = 0
        · rw [sstart_lost (y6.trans (hB.trans y0.symm)) (y9.trans h2)]
          exact Or.inr (Or.inr (Or.inr ⟨h2, fd_9 _ _ _, fd_10 _ _ _, fd_11 _ _ _⟩))
        · rw [sstart_else (by rw [y9]; exact h1) (by rw [y9]; exact h2)]
          exact Or.inl ⟨y9, y10, y11, hA⟩
    · rw [sstart_no (by rw [y6, y0]; exact hB)]
      exact Or.inl ⟨y9, y10, y11, hA⟩
theorem min_ge {n k f : Nat} {x : Sg} (hk : n ≤ k) (h0 : f ≠ 0) (h12 : f ≠ 12) (h15 : f ≠ 15) : fminute n x f k = x f k := by
  unfold fminute
  rw [it_row (fun c y j hj => sstart_r c y hj h12 h15) _ hk, it_row (fun c y j hj => send__r c y hj) _ hk, su_f _ _ _ _ h0, it_f (fun c y => sload_f c y h12)]
theorem RI_min {n t : Nat} {x : Sg} (h : RI n t x) (h0 : x 0 0 = nI t) (ht : t < 100000) : RI n (t + 1) (fminute n x) := by
  refine RI_wk h (fun k hk => ?_) (fun k hk => ?_) (fun k hk => ?_) (fun k hk => ?_) (fun k => fminute_f n x (by decide) (by decide) (by decide) (by decide) (by decide) (by decide))
  · rw [min_ge hk (by decide) (by decide) (by decide), min_ge hk (by decide) (by decide) (by decide), min_ge hk (by decide) (by decide) (by decide)]
    exact h.1 k hk
  · obtain ⟨⟨e6, e7⟩, hc⟩ := min_row hk h0
    obtain ⟨a, l, h1, h2, h3, h4, h5, h6, h7⟩ := h.2.1 k hk
    refine ⟨a, l, h1, h2, h3, h4, by rw [e6]; exact h5, by rw [e7]; exact h6, fun e => ?_⟩
    rcases hc with ⟨c1, c2, c3, c4⟩ | ⟨c1, c2, c3, c4⟩ | ⟨c1, c2, c3, c4, c5⟩ | ⟨c1, c2, c3, c4⟩
    · rw [c1] at e
      obtain ⟨g1, g2⟩ := h7 e
      have : a + l ≠ t + 1 := fun q => c4 ⟨e, by rw [h6, q]⟩
      omega
    · rw [c2] at e; exact absurd e (by decide)
    · rw [h5] at c2
      have := (nI_eq (show a < 2 ^ 31 by omega) (show t + 1 < 2 ^ 31 by omega)).mp c2
      omega
    · rw [c2] at e; exact absurd e (by decide)
  · obtain ⟨-, hc⟩ := min_row hk h0
    have hs := h.2.2.1 k hk
    rcases hc with ⟨c1, c2, c3, c4⟩ | ⟨c1, c2, c3, c4⟩ | ⟨c1, c2, c3, c4, c5⟩ | ⟨c1, c2, c3, c4⟩
    · exact rowS_r c1 c2 c3 hs
    · rcases hs with ⟨q, -⟩ | ⟨-, q⟩
      · rw [c1] at q; rcases q with q | q <;> exact absurd q (by decide)
      · exact Or.inr ⟨by unfold wkd; rw [c2]; exact Or.inr (Or.inr rfl), by rw [c3, c4]; exact q⟩
    · rcases hs with ⟨q, -⟩ | ⟨-, q⟩
      · rw [c1] at q; rcases q with q | q <;> exact absurd q (by decide)
      · exact Or.inr ⟨by unfold wkd; rw [c3]; exact Or.inr (Or.inl rfl), by rw [c4, c5]; exact q⟩
    · exact Or.inl ⟨by rw [c2]; exact Or.inr rfl, c3, c4⟩
  · obtain ⟨⟨e6, e7⟩, hc⟩ := min_row hk h0
    refine ⟨e6, e7, fun ha => ?_, fun hw => ?_⟩
    · rcases hc with ⟨c1, c2, c3, c4⟩ | ⟨c1, c2, c3, c4⟩ | ⟨c1, c2, c3, c4, c5⟩ | ⟨c1, c2, c3, c4⟩
      · unfold act at ha ⊢; rw [c1] at ha; exact ⟨ha, c2⟩
      · exact ⟨Or.inr c1, c3⟩
      · exact ⟨Or.inl c1, c4⟩
      · unfold act at ha; rw [c2] at ha; rcases ha with q | q <;> exact absurd q (by decide)
    · rcases hc with ⟨c1, c2, c3, c4⟩ | ⟨c1, c2, c3, c4⟩ | ⟨c1, c2, c3, c4, c5⟩ | ⟨c1, c2, c3, c4⟩
      · unfold wkd at hw ⊢; rw [c1] at hw; exact ⟨hw, c3⟩
      · exact ⟨Or.inr (Or.inl c1), c4⟩
      · exact ⟨Or.inl c1, c5⟩
      · unfold wkd at hw; rw [c2] at hw; rcases hw with q | q | q <;> exact absurd q (by decide)
theorem nI_day {a : Nat} (h : a < 2 ^ 31) : nI a / 1440 = nI (a / 1440) := by
  apply Int32.toInt_inj.mp
  rw [Int32.toInt_div_of_ne_right _ _ (by decide), nI_toInt h, nI_toInt (by omega), show (1440 : Int32).toInt = 1440 by decide, Int.tdiv_eq_ediv_of_nonneg (by omega)]
  omega
theorem uniqB {n t : Nat} {x : Sg} (h : RI n t x) {j k : Nat} (hj : j < n) (hk : k < n) (sj : x 9 j = 2) (sk : x 9 k = 2) (e : x 10 j = x 10 k) : j = k := by
  by_cases hjk : j = k
  · exact hjk
  · refine absurd ?_ ((h.2.2.2.1 j k hj hk hjk).1 (Or.inr sj) (Or.inr sk) e)
    obtain ⟨a, l, h1, h2, h3, h4, h5, h6, h7⟩ := h.2.1 j hj
    obtain ⟨a', l', g1, g2, g3, g4, g5, g6, g7⟩ := h.2.1 k hk
    obtain ⟨i1, i2⟩ := h7 sj
    obtain ⟨i3, i4⟩ := g7 sk
    unfold meets
    rw [h5, h6, g5, g6]
    exact ⟨(nI_ltI (by omega) (by omega)).mpr (by omega), (nI_ltI (by omega) (by omega)).mpr (by omega)⟩
theorem uniqD {n t : Nat} {x : Sg} (h : RI n t x) {j k : Nat} (hj : j < n) (hk : k < n) (sj : x 9 j = 2) (sk : x 9 k = 2) (e : x 11 j = x 11 k) : j = k := by
  by_cases hjk : j = k
  · exact hjk
  · obtain ⟨a, l, h1, h2, h3, h4, h5, h6, h7⟩ := h.2.1 j hj
    obtain ⟨a', l', g1, g2, g3, g4, g5, g6, g7⟩ := h.2.1 k hk
    obtain ⟨i1, i2⟩ := h7 sj
    obtain ⟨i3, i4⟩ := g7 sk
    have hd : x 6 j / 1440 = x 6 k / 1440 := by
      rw [h5, g5, nI_day (by omega), nI_day (by omega)]
      congr 1
      omega
    have hr := (h.2.2.2.1 j k hj hk hjk).2 (Or.inr (Or.inl sj)) (Or.inr (Or.inl sk)) e hd
    unfold rested at hr
    rw [h5, h6, g5, g6, show (30 : Int32) = nI 30 from rfl, nI_add, nI_add, nI_ltI (by omega) (by omega), nI_ltI (by omega) (by omega)] at hr
    omega
