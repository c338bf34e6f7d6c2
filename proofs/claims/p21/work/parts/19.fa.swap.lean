/-! BREAKDOWNS: the law's against the class's -/
theorem it_eq {f g : Nat → Sg → Sg} (P : Nat → Sg → Prop) {n : Nat} (st : ∀ k y, k < n → P k y → f k y = g k y ∧ P (k + 1) (f k y)) {x : Sg} (h0 : P 0 x) : ∀ m, m ≤ n → it f m x = it g m x ∧ P m (it f m x) := by
  intro m
  induction m with
  | zero => exact fun _ => ⟨rfl, h0⟩
  | succ m ih =>
    intro hm
    obtain ⟨h1, h2⟩ := ih (by omega)
    obtain ⟨h3, h4⟩ := st m _ (by omega) h2
    exact ⟨by show f m (it f m x) = g m (it g m x); rw [h3, h1], h4⟩
theorem cb_give {n t lo r : Nat} {x : Sg} (h : nd n x) (hc : cb lo x) (hl : lo ≤ 1000000000) (hr : r < n) : cb (lo + 100) (fgiveb n x r) := by
  obtain ⟨q, hq, e⟩ := h r hr
  unfold fgiveb
  rw [e]
  refine pif_ap _ _ _ (cb (lo + 100)) (fun _ => ?_) (fun _ => ?_)
  · exact cb_le (cb_f hc (fun k => by rw [fdrop_f _ _ _ (by decide) (by decide) (by decide), su_f _ _ _ _ (by decide)])) (by omega)
  · exact cb_send (cb_f hc (fun k => by rw [su_f _ _ _ _ (by decide), su_f _ _ _ _ (by decide)])) hl hq _
theorem funplug_13 (x : Sg) (b v : Int32) (j : Nat) : funplug (su x 13 j v) b = su (funplug x b) 13 j v := by
  have one : ∀ c (y : Sg), sunplug b c (su y 13 j v) = su (sunplug b c y) 13 j v := fun c y => by
    unfold sunplug
    rw [su_f _ _ _ _ (show 15 ≠ 13 by decide)]
    by_cases h : y 15 c = b
    · rw [pif_t h, pif_t h, su_comm _ _ _ _ _ (show 13 ≠ 15 by decide)]
    · rw [pif_f h, pif_f h]
  show sunplug b 1 (sunplug b 0 (su x 13 j v)) = su (sunplug b 1 (sunplug b 0 x)) 13 j v
  rw [one, one]
/-- what the swaps stand on -/
def SB (lo n t : Nat) (x : Sg) : Prop := RI n t x ∧ nd n x ∧ cb lo x
theorem SB_take {lo n t k : Nat} {x : Sg} (b : Int32) (h : SB lo n t x) (hk : k < n) : SB lo n t (stakeb b k x) := by
  obtain ⟨h1, h2, h3⟩ := h
  refine ⟨(stakeb_1 (y := x) (Ag_r n x) h1 b hk).2, nd_f h2 (fun j => ?_), cb_f h3 (fun j => ?_)⟩ <;> exact stakeb_f b k x (by decide) (by decide) (by decide)
theorem SB_takes {lo n t : Nat} {x : Sg} (b : Int32) (h : SB lo n t x) : ∀ m, m ≤ n → SB lo n t (it (stakeb b) m x) := by
  intro m
  induction m with
  | zero => exact fun _ => h
  | succ m ih => exact fun hm => SB_take b (ih (by omega)) (by omega)
theorem swapb_1 {lo n t b k : Nat} {x : Sg} (hn : n ≤ 20) (hl : lo ≤ 1000000000) (hk : k < n) (h : SB lo n t x) : sswapb n (nI b) k x = lswapb n b k x ∧ SB (lo + 100) n t (sswapb n (nI b) k x) := by
  obtain ⟨h1, h2, h3⟩ := h
  unfold sswapb lswapb
  by_cases hc : x 9 k = 2 ∧ x 10 k = nI b
  · rw [pif_t hc, pif_t hc, giveb_l h1.2.1 h2 h3 hl hn hk hc.1]
    exact ⟨rfl, (giveb_eq (Ag_r n x) h1 hk hc.1).2, nd_f h2 (fun j => fgiveb_f n x k (by decide) (by decide) (by decide) (by decide) (by decide)), cb_give (t := t) h2 h3 hl hk⟩
  · rw [pif_f hc, pif_f hc]
    exact ⟨rfl, h1, h2, cb_le h3 (by omega)⟩
theorem swapb_eq {lo n t b : Nat} {x : Sg} (hn : n ≤ 20) (hl : lo ≤ 900000000) (h : SB lo n t x) : it (sswapb n (nI b)) n x = it (lswapb n b) n x ∧ SB (lo + 100 * n) n t (it (sswapb n (nI b)) n x) :=
  it_eq (fun k y => SB (lo + 100 * k) n t y) (fun k y hk hy => swapb_1 (lo := lo + 100 * k) hn (by omega) hk hy) h n (Nat.le_refl n)
theorem breaks_eq {lo n t b : Nat} {x : Sg} (hn : n ≤ 20) (hl : lo ≤ 900000000) (hb : b < 5) (h : SB lo n t x) : fbreaks n x (nI b) 1 = lbreaks n x b ∧ SB (lo + 100 * n) n t (fbreaks n x (nI b) 1) := by
  have h0 : SB lo n t (su (funplug x (nI b)) 13 b 1) := by
    obtain ⟨h1, h2, h3⟩ := h
    refine ⟨RI_f h1 ?_ ?_ ?_ ?_ ?_ ?_, nd_f h2 ?_, cb_f h3 ?_⟩ <;> intro k <;> rw [su_f _ _ _ _ (by decide), funplug_f _ _ (by decide)]
  have h1 := SB_takes (nI b) h0 n (Nat.le_refl n)
  have h2 := swapb_eq (b := b) hn hl h1
  have e : fbreaks n x (nI b) 1 = it (sswapb n (nI b)) n (it (stakeb (nI b)) n (su (funplug x (nI b)) 13 b 1)) := by
    unfold fbreaks
    rw [pif_f (by decide), nI_clamp (by omega), funplug_13]
  rw [e]
  exact h2
/-- rows alone -/
def RTS (n t : Nat) (x : Sg) : Prop := (∀ k, k < n → rowT x t k) ∧ ∀ k, k < n → rowS x k
theorem RTS_taked {n t k : Nat} {x : Sg} (d : Int32) (h : RTS n t x) : RTS n t (staked d k x) := by
  obtain ⟨h1, h2⟩ := h
  refine ⟨fun j hj => ?_, fun j hj => ?_⟩
  · refine rowT_r (x := x) (staked_f d k x (by decide) (by decide) (by decide)) (staked_f d k x (by decide) (by decide) (by decide)) (fun e => ?_) (h1 j hj)
    by_cases hjk : j = k
    · subst hjk
      unfold staked at e
      by_cases hc : x 9 j = 1 ∧ x 11 j = d
      · rw [pif_t hc, fd_9] at e; exact absurd e (by decide)
      · rw [pif_f hc] at e; exact e
    · rw [staked_r _ _ hjk] at e; exact e
  · by_cases hjk : j = k
    · subst hjk
      unfold staked
      by_cases hc : x 9 j = 1 ∧ x 11 j = d
      · rw [pif_t hc]; exact Or.inl ⟨Or.inl (fd_9 _ _ _), fd_10 _ _ _, fd_11 _ _ _⟩
      · rw [pif_f hc]; exact h2 j hj
    · exact rowS_r (staked_r _ _ hjk) (staked_r _ _ hjk) (staked_r _ _ hjk) (h2 j hj)
theorem RTS_gived {n t k : Nat} {x : Sg} (h : RTS n t x) (hk : k < n) (h9 : x 9 k = 2) : RTS n t (fgived n x k) := by
  obtain ⟨h1, h2⟩ := h
  have e6 : ∀ j, fgived n x k 6 j = x 6 j := fun j => fgived_f n x k (by decide) (by decide) (by decide)
  have e7 : ∀ j, fgived n x k 7 j = x 7 j := fun j => fgived_f n x k (by decide) (by decide) (by decide)
  have hb : ∃ b, b < 5 ∧ x 10 k = nI b := by
    rcases h2 k hk with ⟨q, -, -⟩ | ⟨-, q, -⟩
    · rw [h9] at q; rcases q with q | q <;> exact absurd q (by decide)
    · exact q
  have hrow : (fgived n x k 9 k = 4 ∧ fgived n x k 10 k = -1 ∧ fgived n x k 11 k = -1) ∨ (fgived n x k 9 k = 2 ∧ fgived n x k 10 k = x 10 k ∧ ∃ d, d < 5 ∧ fgived n x k 11 k = nI d) := by
    unfold fgived
    rcases low5 (fun q => drvfit n (su x 11 k (-1)) q k) with q | ⟨q, hq, -, e⟩
    · have q' : lowdrv n (su x 11 k (-1)) k = -1 := q
      rw [pif_t q']
      exact Or.inl ⟨fd_9 _ _ _, fd_10 _ _ _, fd_11 _ _ _⟩
    · have q' : lowdrv n (su x 11 k (-1)) k = nI q := e
      rw [pif_f (by rw [q']; exact nI_nm (by omega)), q', su_su, su_s, su_f _ _ _ _ (show 9 ≠ 11 by decide), su_f _ _ _ _ (show 10 ≠ 11 by decide)]
      exact Or.inr ⟨h9, rfl, q, hq, rfl⟩
  refine ⟨fun j hj => ?_, fun j hj => ?_⟩
  · refine rowT_r (x := x) (e6 j) (e7 j) (fun e => ?_) (h1 j hj)
    by_cases hjk : j = k
    · rw [hjk]; exact h9
    · rw [fgived_r _ _ hjk] at e; exact e
  · by_cases hjk : j = k
    · subst hjk
      rcases hrow with ⟨q1, q2, q3⟩ | ⟨q1, q2, q3⟩
      · exact Or.inl ⟨Or.inr q1, q2, q3⟩
      · exact Or.inr ⟨Or.inr (Or.inl q1), by rw [q2]; exact hb, q3⟩
    · exact rowS_r (fgived_r _ _ hjk) (fgived_r _ _ hjk) (fgived_r _ _ hjk) (h2 j hj)
theorem swapd_1 {n t d k : Nat} {x : Sg} (hn : n ≤ 20) (hk : k < n) (h : RTS n t x) : sswapd n (nI d) k x = lswapd n d k x ∧ RTS n t (sswapd n (nI d) k x) := by
  unfold sswapd lswapd
  by_cases hc : x 9 k = 2 ∧ x 11 k = nI d
  · rw [pif_t hc, pif_t hc, gived_l h.1 h.2 hn hk]
    exact ⟨rfl, RTS_gived h hk hc.1⟩
  · rw [pif_f hc, pif_f hc]
    exact ⟨rfl, h⟩
theorem ails_eq {n t d : Nat} {x : Sg} (hn : n ≤ 20) (hd : d < 5) (h : RI n t x) : fails n x (nI d) 1 = lails n x d := by
  have h0 : RTS n t (su x 14 d 1) := ⟨fun k hk => rowT_r (x := x) (su_f _ _ _ _ (by decide)) (su_f _ _ _ _ (by decide)) (fun e => by rw [su_f _ _ _ _ (by decide)] at e; exact e) (h.2.1 k hk), fun k hk => rowS_r (x := x) (su_f _ _ _ _ (by decide)) (su_f _ _ _ _ (by decide)) (su_f _ _ _ _ (by decide)) (h.2.2.1 k hk)⟩
  have h1 : RTS n t (it (staked (nI d)) n (su x 14 d 1)) := it_inv _ (RTS n t) n _ h0 (fun k y _ hy => RTS_taked (nI d) hy)
  have h2 := (it_eq (f := sswapd n (nI d)) (g := lswapd n d) (fun _ y => RTS n t y) (fun k y hk hy => swapd_1 hn hk hy) h1 n (Nat.le_refl n)).1
  unfold fails lails
  rw [pif_f (by decide), nI_clamp (by omega), h2]
theorem fails_ill {n t d : Nat} {x : Sg} (v : Int32) (hv : ¬ v = 0) (hd : d < 5) (h : RI n t x) (hw : ¬ x 14 d = 0) : fails n x (nI d) v = su x 14 d v := by
  have hno : ∀ k, k < n → act x k → ¬ x 11 k = nI d := fun k hk ha e => hw (h.2.2.2.2 k hk ha d hd e)
  have e1 : it (staked (nI d)) n (su x 14 d v) = su x 14 d v := it_id (fun k hk => by
    unfold staked
    rw [su_f _ _ _ _ (show (9 : Nat) ≠ 14 by decide), su_f _ _ _ _ (show (11 : Nat) ≠ 14 by decide), pif_f (fun q => hno k hk (Or.inl q.1) q.2)])
  have e2 : it (sswapd n (nI d)) n (su x 14 d v) = su x 14 d v := it_id (fun k hk => by
    unfold sswapd
    rw [su_f _ _ _ _ (show (9 : Nat) ≠ 14 by decide), su_f _ _ _ _ (show (11 : Nat) ≠ 14 by decide), pif_f (fun q => hno k hk (Or.inr q.1) q.2)])
  unfold fails
  rw [pif_f hv, nI_clamp (by omega), e1, e2]
/-! who waits, waits for a start that comes -/
def WT (n : Nat) (x : Sg) : Prop := ∀ k, k < n → x 9 k = 0 ∨ x 9 k = 1 → x 0 0 < x 6 k
theorem WT_f {n : Nat} {x y : Sg} (h : WT n x) (e0 : y 0 0 = x 0 0) (e6 : ∀ k, y 6 k = x 6 k) (e9 : ∀ k, k < n → y 9 k = 0 ∨ y 9 k = 1 → x 9 k = 0 ∨ x 9 k = 1) : WT n y := fun k hk hy => by
  rw [e0, e6]
  exact h k hk (e9 k hk hy)
/-- states 0 and 1 come from 0 and 1 -/
def W9 (x y : Sg) : Prop := ∀ k, y 9 k = 0 ∨ y 9 k = 1 → x 9 k = 0 ∨ x 9 k = 1
theorem W9_it {f : Nat → Sg → Sg} (h : ∀ c y, W9 y (f c y)) (n : Nat) (x : Sg) : W9 x (it f n x) := by
  induction n with
  | zero => exact fun _ h => h
  | succ n ih => exact fun k hk => ih k (h n _ k hk)
theorem W9_drop (x : Sg) (j : Nat) (v : Int32) (h : v = 4 ∨ x 9 j = 1 ∨ x 9 j = 0) : W9 x (fdrop x j v) := fun k hk => by
  by_cases e : k = j
  · subst e
    rw [fd_9] at hk
    rcases h with h | h | h
    · rw [h] at hk; rcases hk with hk | hk <;> exact absurd hk (by decide)
    · exact Or.inr h
    · exact Or.inl h
  · rw [fdrop_r _ _ _ e] at hk; exact hk
theorem W9_stakeb (b : Int32) (c : Nat) (y : Sg) : W9 y (stakeb b c y) := by
  unfold stakeb
  by_cases h : y 9 c = 1 ∧ y 10 c = b
  · rw [pif_t h]; exact W9_drop _ _ _ (Or.inr (Or.inl h.1))
  · rw [pif_f h]; exact fun _ h => h
theorem W9_staked (b : Int32) (c : Nat) (y : Sg) : W9 y (staked b c y) := by
  unfold staked
  by_cases h : y 9 c = 1 ∧ y 11 c = b
  · rw [pif_t h]; exact W9_drop _ _ _ (Or.inr (Or.inl h.1))
  · rw [pif_f h]; exact fun _ h => h
theorem W9_e {x y : Sg} (h : ∀ k, y 9 k = x 9 k) : W9 x y := fun k hk => by rw [h] at hk; exact hk
theorem W9_t {x y z : Sg} (h1 : W9 x y) (h2 : W9 y z) : W9 x z := fun k hk => h1 k (h2 k hk)
theorem W9_giveb (n c : Nat) (y : Sg) : W9 y (fgiveb n y c) := by
  unfold fgiveb
  refine pif_ap _ _ _ (W9 y) (fun _ => ?_) (fun _ => W9_e (fun k => ?_))
  · exact W9_t (y := su y 10 c (-1)) (W9_e (fun k => su_f _ _ _ _ (by decide))) (W9_drop _ _ _ (Or.inl rfl))
  · rw [fsend_f _ _ _ (by decide) (by decide), su_f _ _ _ _ (by decide), su_f _ _ _ _ (by decide)]
theorem W9_gived (n c : Nat) (y : Sg) : W9 y (fgived n y c) := by
  unfold fgived
  refine pif_ap _ _ _ (W9 y) (fun _ => ?_) (fun _ => W9_e (fun k => ?_))
  · exact W9_t (y := su y 11 c (-1)) (W9_e (fun k => su_f _ _ _ _ (by decide))) (W9_drop _ _ _ (Or.inl rfl))
  · rw [su_f _ _ _ _ (by decide), su_f _ _ _ _ (by decide)]
theorem W9_breaks (n : Nat) (x : Sg) (b v : Int32) : W9 x (fbreaks n x b v) := by
  unfold fbreaks
  refine pif_ap _ _ _ (W9 x) (fun _ => W9_e (fun k => su_f _ _ _ _ (by decide))) (fun _ => ?_)
  refine W9_t (y := funplug (su x 13 b.toNatClampNeg v) b) (W9_e (fun k => by rw [funplug_f _ _ (by decide), su_f _ _ _ _ (by decide)])) ?_
  refine W9_t (W9_it (W9_stakeb b) n _) (W9_it (fun c y => ?_) n _)
  unfold sswapb
  exact pif_ap _ _ _ (W9 y) (fun _ => W9_giveb n c y) (fun _ => fun _ h => h)
theorem W9_ails (n : Nat) (x : Sg) (b v : Int32) : W9 x (fails n x b v) := by
  unfold fails
  refine pif_ap _ _ _ (W9 x) (fun _ => W9_e (fun k => su_f _ _ _ _ (by decide))) (fun _ => ?_)
  refine W9_t (y := su x 14 b.toNatClampNeg v) (W9_e (fun k => su_f _ _ _ _ (by decide))) ?_
  refine W9_t (W9_it (W9_staked b) n _) (W9_it (fun c y => ?_) n _)
  unfold sswapd
  exact pif_ap _ _ _ (W9 y) (fun _ => W9_gived n c y) (fun _ => fun _ h => h)
theorem fbreaks_f {f k n : Nat} (x : Sg) (b v : Int32) (h9 : f ≠ 9) (h10 : f ≠ 10) (h11 : f ≠ 11) (h12 : f ≠ 12) (h13 : f ≠ 13) (h15 : f ≠ 15) : fbreaks n x b v f k = x f k := by
  unfold fbreaks
  rw [pif_ap2, it_f (fun c y => sswapb_f n b c y h9 h10 h11 h12 h15), it_f (fun c y => stakeb_f b c y h9 h10 h11), funplug_f _ _ h15, su_f _ _ _ _ h13, pif_s]
theorem fails_f {f k n : Nat} (x : Sg) (b v : Int32) (h9 : f ≠ 9) (h10 : f ≠ 10) (h11 : f ≠ 11) (h14 : f ≠ 14) : fails n x b v f k = x f k := by
  unfold fails
  rw [pif_ap2, it_f (fun c y => sswapd_f n b c y h9 h10 h11), it_f (fun c y => staked_f b c y h9 h10 h11), su_f _ _ _ _ h14, pif_s]
/-- a start whose minute has come no longer waits -/
theorem min_gone {n t k : Nat} {x : Sg} (hk : k < n) (h0 : x 0 0 = nI t) (h6 : x 6 k = nI (t + 1)) : ¬ (fminute n x 9 k = 0 ∨ fminute n x 9 k = 1) := by
  obtain ⟨z2, hz2⟩ : ∃ z, z = it send_ n (su (it sload 2 x) 0 0 (it sload 2 x 0 0 + 1)) := ⟨_, rfl⟩
  have hm : fminute n x = it sstart n z2 := by rw [hz2]; rfl
  obtain ⟨Y, hY⟩ : ∃ z, z = it sstart k z2 := ⟨_, rfl⟩
  have e6 : z2 6 k = x 6 k := by rw [hz2, it_f (fun c y => send__f c y (by decide)), su_f _ _ _ _ (by decide), it_f (fun c y => sload_f c y (by decide))]
  have e0 : z2 0 0 = nI (t + 1) := by rw [hz2, it_f (fun c y => send__f c y (by decide)), su_s, it_f (fun c y => sload_f c y (by decide)), h0, nI_1]
  have y6 : Y 6 k = Y 0 0 := by rw [hY, it_f (fun c y => sstart_f c y (by decide) (by decide) (by decide) (by decide) (by decide)), it_f (fun c y => sstart_f c y (by decide) (by decide) (by decide) (by decide) (by decide)), e6, e0, h6]
  have m9 : fminute n x 9 k = sstart k Y 9 k := by rw [hm, hY, it_own (fun c y j hj => sstart_r c y hj (by decide) (by decide)) z2 hk]
  rw [m9]
  by_cases h1 : Y 9 k = 1
  · rw [sstart_go y6 h1, fsend_f _ _ _ (by decide) (by decide), su_s]; decide
  · by_cases h2 : Y 9 k = 0
    · rw [sstart_lost y6 h2, fd_9]; decide
    · rw [sstart_else h1 h2]; exact fun z => z.elim h2 h1
theorem WT_min {n t : Nat} {x : Sg} (h : WT n x) (h0 : x 0 0 = nI t) (hr : RI n t x) (ht : t ≤ 30000) : WT n (fminute n x) := fun k hk hy => by
  obtain ⟨⟨e6, e7⟩, hc⟩ := min_row hk h0
  obtain ⟨a, l, h1, h2, h3, h4, h5, h6, h7⟩ := hr.2.1 k hk
  have hold : x 9 k = 0 ∨ x 9 k = 1 := by
    rcases hc with ⟨c1, -⟩ | ⟨-, c2, -⟩ | ⟨c1, -⟩ | ⟨c1, -⟩
    · rw [c1] at hy; exact hy
    · rw [c2] at hy; rcases hy with hy | hy <;> exact absurd hy (by decide)
    · exact Or.inr c1
    · exact Or.inl c1
  have hlt := h k hk hold
  rw [h0, h5, nI_ltI (by omega) (by omega)] at hlt
  have hne : ¬ x 6 k = nI (t + 1) := fun e => min_gone hk h0 e hy
  rw [h5, nI_eq (by omega) (by omega)] at hne
  rw [fmin_0, h0, e6, h5, nI_1, nI_ltI (by omega) (by omega)]
  omega
theorem WT_mins {u n t : Nat} {x : Sg} (h : WT n x) (hP : PI u n t x) (hu : u ≤ 1000) : ∀ m, t + m ≤ 30000 → WT n (it (fun _ => fminute n) m x) := by
  intro m
  induction m with
  | zero => exact fun _ => h
  | succ m ih =>
    intro hm
    have hp := PI_mins hP hu m (by omega)
    exact WT_min (ih (by omega)) hp.2.2.1 hp.2.2.2.2.1 hp.2.2.2.1
