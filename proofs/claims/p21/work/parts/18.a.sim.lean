/-! CLASS AND MODEL: their states agree, but for what was thrown last, and for the bus and driver of runs that there aren't -/
def Ag (n : Nat) (x y : Sg) : Prop := ∀ f k, f ≠ 5 → ((f = 10 ∨ f = 11) → k < n) → y f k = x f k
section AG
variable {n : Nat} {x y a a' b b' : Sg}
theorem ag_a (h : Ag n x y) (f : Nat) {k : Nat} (h5 : f ≠ 5 := by decide) (h10 : f ≠ 10 := by decide) (h11 : f ≠ 11 := by decide) : y f k = x f k := h f k h5 (fun q => by rcases q with q | q <;> contradiction)
theorem ag_r (h : Ag n x y) (f : Nat) {k : Nat} (hk : k < n) (h5 : f ≠ 5 := by decide) : y f k = x f k := h f k h5 (fun _ => hk)
theorem ag_su' (h : Ag n x y) (g j : Nat) {v v' : Int32} (hv : v' = v) : Ag n (su x g j v) (su y g j v') := fun f' k' h5 hk => by
  subst hv
  unfold su
  split
  · split
    · rfl
    · exact h f' k' h5 hk
  · exact h f' k' h5 hk
theorem ag_su (h : Ag n x y) (g j : Nat) (v : Int32) : Ag n (su x g j v) (su y g j v) := ag_su' h g j rfl
theorem ag_t (h : Ag n x y) (v : Int32) : Ag n x (su y 5 0 v) := fun f k h5 hk => by rw [su_f _ _ _ _ h5]; exact h f k h5 hk
theorem ag_pif {P P' : Prop} (hp : P' ↔ P) (h1 : P → Ag n a a') (h2 : ¬ P → Ag n b b') : Ag n (pif P a b) (pif P' a' b') := by
  rw [propext hp]
  by_cases h : P
  · rw [pif_t h, pif_t h]; exact h1 h
  · rw [pif_f h, pif_f h]; exact h2 h
theorem ag_it {g g' : Nat → Sg → Sg} (h : Ag n x y) (m : Nat) (st : ∀ k x y, k < m → Ag n x y → Ag n (g k x) (g' k y)) : Ag n (it g m x) (it g' m y) := by
  induction m with
  | zero => exact h
  | succ m ih => exact st m _ _ (Nat.lt_succ_self m) (ih (fun k x y hk => st k x y (Nat.lt_succ_of_lt hk)))
theorem ag_drop (h : Ag n x y) (j : Nat) (v : Int32) : Ag n (fdrop x j v) (fdrop y j v) := ag_su (ag_su (ag_su h _ _ _) _ _ _) _ _ _
theorem ag_prom (h : Ag n x y) (b : Int32) : fprom n y b = fprom n x b := sumF_c (fun k hk => by
  unfold gprom
  rw [ag_r h 10 hk, ag_a h 9, ag_a h 8])
theorem ag_unplug (h : Ag n x y) (b : Int32) : Ag n (funplug x b) (funplug y b) := ag_it h 2 (fun k x y _ h => by
  unfold sunplug
  rw [ag_a h 15]
  exact ag_pif Iff.rfl (fun _ => ag_su h _ _ _) (fun _ => h))
theorem ag_send (h : Ag n x y) (b q : Int32) : Ag n (fsend x b q) (fsend y b q) := by
  unfold fsend
  rw [ag_a h 12]
  exact ag_pif Iff.rfl (fun _ => ag_unplug (ag_su h _ _ _) b) (fun _ => h)
theorem ag_load (h : Ag n x y) (c : Nat) : Ag n (sload c x) (sload c y) := by
  unfold sload
  rw [ag_a h 15 (k := c), ag_a h 12]
  exact ag_pif Iff.rfl (fun _ => ag_su h _ _ _) (fun _ => h)
theorem ag_send_ (h : Ag n x y) (k : Nat) : Ag n (send_ k x) (send_ k y) := by
  unfold send_
  rw [ag_a h 9, ag_a h 7, ag_a h 0]
  exact ag_pif Iff.rfl (fun _ => ag_su h _ _ _) (fun _ => h)
theorem ag_start (h : Ag n x y) {k : Nat} (hk : k < n) : Ag n (sstart k x) (sstart k y) := by
  unfold sstart fstart
  rw [ag_a h 6, ag_a h 0, ag_a h 9, ag_r h 10 hk, ag_a h 8]
  exact ag_pif Iff.rfl (fun _ => ag_pif Iff.rfl (fun _ => ag_send (ag_su h _ _ _) _ _) (fun _ => ag_pif Iff.rfl (fun _ => ag_drop h _ _) (fun _ => h))) (fun _ => h)
theorem ag_min (h : Ag n x y) : Ag n (fminute n x) (fminute n y) := by
  have h1 : Ag n (it sload 2 x) (it sload 2 y) := ag_it h 2 (fun c _ _ _ h => ag_load h c)
  have h2 := ag_su' h1 0 0 (show it sload 2 y 0 0 + 1 = it sload 2 x 0 0 + 1 by rw [ag_a h1 0])
  exact ag_it (ag_it h2 n (fun k _ _ _ h => ag_send_ h k)) n (fun k _ _ hk h => ag_start h hk)
theorem ag_mins (h : Ag n x y) (m : Nat) : Ag n (it (fun _ => fminute n) m x) (it (fun _ => fminute n) m y) := ag_it h m (fun _ _ _ _ h => ag_min h)
theorem ag_lead (h : Ag n x y) : flead y = flead x := by
  unfold flead
  rw [ag_a h 0, ag_a h 4, ag_a h 3]
theorem it_own {g : Nat → Sg → Sg} {f : Nat} (h : ∀ c y j, j ≠ c → g c y f j = y f j) (x : Sg) {n k : Nat} (hk : k < n) : it g n x f k = g k (it g k x) f k := by
  induction n with
  | zero => exact absurd hk (Nat.not_lt_zero k)
  | succ n ih =>
    by_cases e : k = n
    · subst e; rfl
    · show g n (it g n x) f k = _
      rw [h n _ k e]
      exact ih (by omega)
end AG
/-! WHAT HOLDS of every state that calls lead to -/
def act (x : Sg) (k : Nat) : Prop := x 9 k = 1 ∨ x 9 k = 2
def rowT (x : Sg) (t k : Nat) : Prop := ∃ a l : Nat, 1 ≤ l ∧ l ≤ 600 ∧ a % 1440 + l ≤ 1440 ∧ a ≤ 20000 ∧ x 6 k = nI a ∧ x 7 k = nI (a + l) ∧ (x 9 k = 2 → a ≤ t ∧ t < a + l)
def rowS (x : Sg) (k : Nat) : Prop := ((x 9 k = 0 ∨ x 9 k = 4) ∧ x 10 k = -1 ∧ x 11 k = -1) ∨ (wkd x k ∧ (∃ b, b < 5 ∧ x 10 k = nI b) ∧ ∃ d, d < 5 ∧ x 11 k = nI d)
def pairB (x : Sg) (j k : Nat) : Prop := act x j → act x k → x 10 j = x 10 k → ¬ meets x j k
def pairD (x : Sg) (j k : Nat) : Prop := wkd x j → wkd x k → x 11 j = x 11 k → x 6 j / 1440 = x 6 k / 1440 → rested x j k
def RI (n t : Nat) (x : Sg) : Prop := (∀ k, n ≤ k → x 9 k = 0 ∧ x 10 k = -1 ∧ x 11 k = -1) ∧ (∀ k, k < n → rowT x t k) ∧ (∀ k, k < n → rowS x k) ∧ (∀ j k, j < n → k < n → j ≠ k → pairB x j k ∧ pairD x j k) ∧ (∀ k, k < n → act x k → ∀ d, d < 5 → x 11 k = nI d → x 14 d = 0)
def Wk (x y : Sg) (k : Nat) : Prop := y 6 k = x 6 k ∧ y 7 k = x 7 k ∧ (act y k → act x k ∧ y 10 k = x 10 k) ∧ (wkd y k → wkd x k ∧ y 11 k = x 11 k)
theorem act_wkd {x : Sg} {k : Nat} (h : act x k) : wkd x k := by
  rcases h with h | h
  · exact Or.inl h
  · exact Or.inr (Or.inl h)
theorem RI_wk {n t t' : Nat} {x y : Sg} (h : RI n t x) (hge : ∀ k, n ≤ k → y 9 k = 0 ∧ y 10 k = -1 ∧ y 11 k = -1) (hT : ∀ k, k < n → rowT y t' k) (hS : ∀ k, k < n → rowS y k) (hw : ∀ k, k < n → Wk x y k) (h14 : ∀ k, y 14 k = x 14 k) : RI n t' y := by
  obtain ⟨-, -, -, h4, h5⟩ := h
  refine ⟨hge, hT, hS, fun j k hj hk hjk => ?_, fun k hk ha d hd e => ?_⟩
  · obtain ⟨a1, a2, a3, a4⟩ := hw j hj
    obtain ⟨b1, b2, b3, b4⟩ := hw k hk
    refine ⟨fun ja ka e => ?_, fun jw kw e ed => ?_⟩
    · obtain ⟨c1, c2⟩ := a3 ja
      obtain ⟨c3, c4⟩ := b3 ka
      have := (h4 j k hj hk hjk).1 c1 c3 (by rw [← c2, ← c4]; exact e)
      unfold meets at this ⊢
      rw [a1, a2, b1, b2]
      exact this
    · obtain ⟨c1, c2⟩ := a4 jw
      obtain ⟨c3, c4⟩ := b4 kw
      have := (h4 j k hj hk hjk).2 c1 c3 (by rw [← c2, ← c4]; exact e) (by rw [← a1, ← b1]; exact ed)
      unfold rested at this ⊢
      rw [a1, a2, b1, b2]
      exact this
  · obtain ⟨b1, b2, b3, b4⟩ := hw k hk
    rw [h14]
    exact h5 k hk (b3 ha).1 d hd (by rw [← (b4 (act_wkd ha)).2]; exact e)
theorem RI_f {n t : Nat} {x y : Sg} (h : RI n t x) (h6 : ∀ k, y 6 k = x 6 k) (h7 : ∀ k, y 7 k = x 7 k) (h9 : ∀ k, y 9 k = x 9 k) (h10 : ∀ k, y 10 k = x 10 k) (h11 : ∀ k, y 11 k = x 11 k) (h14 : ∀ k, y 14 k = x 14 k) : RI n t y := by
  refine RI_wk h (fun k hk => by rw [h9, h10, h11]; exact h.1 k hk) (fun k hk => ?_) (fun k hk => ?_) (fun k hk => ⟨h6 k, h7 k, fun ha => ⟨?_, h10 k⟩, fun hw => ⟨?_, h11 k⟩⟩) h14
  · have := h.2.1 k hk
    unfold rowT at this ⊢
    rw [h6, h7, h9]
    exact this
  · have := h.2.2.1 k hk
    unfold rowS wkd at this ⊢
    rw [h9, h10, h11]
    exact this
  · unfold act at ha ⊢
    rw [h9] at ha
    exact ha
  · unfold wkd at hw ⊢
    rw [h9] at hw
    exact hw
theorem fd_9 (x : Sg) (k : Nat) (v : Int32) : fdrop x k v 9 k = v := by simp [fdrop, su]
theorem fd_10 (x : Sg) (k : Nat) (v : Int32) : fdrop x k v 10 k = -1 := by simp [fdrop, su]
theorem fd_11 (x : Sg) (k : Nat) (v : Int32) : fdrop x k v 11 k = -1 := by simp [fdrop, su]
theorem Wk_refl (x : Sg) (k : Nat) : Wk x x k := ⟨rfl, rfl, fun h => ⟨h, rfl⟩, fun h => ⟨h, rfl⟩⟩
theorem rowT_r {x y : Sg} {t k : Nat} (h6 : y 6 k = x 6 k) (h7 : y 7 k = x 7 k) (h9 : y 9 k = 2 → x 9 k = 2) (h : rowT x t k) : rowT y t k := by
  obtain ⟨a, l, h1, h2, h3, h4, h5, h8, hb⟩ := h
  exact ⟨a, l, h1, h2, h3, h4, by rw [h6]; exact h5, by rw [h7]; exact h8, fun e => hb (h9 e)⟩
theorem rowS_r {x y : Sg} {k : Nat} (h9 : y 9 k = x 9 k) (h10 : y 10 k = x 10 k) (h11 : y 11 k = x 11 k) (h : rowS x k) : rowS y k := by
  unfold rowS wkd at h ⊢
  rw [h9, h10, h11]
  exact h
theorem Wk_r {x y : Sg} {k : Nat} (h6 : y 6 k = x 6 k) (h7 : y 7 k = x 7 k) (h9 : y 9 k = x 9 k) (h10 : y 10 k = x 10 k) (h11 : y 11 k = x 11 k) : Wk x y k :=
  ⟨h6, h7, fun h => ⟨by unfold act at h ⊢; rw [← h9]; exact h, h10⟩, fun h => ⟨by unfold wkd at h ⊢; rw [← h9]; exact h, h11⟩⟩
theorem RI_drop {n t : Nat} {x : Sg} (h : RI n t x) (k : Nat) (v : Int32) (hv : v = 0 ∨ v = 4) (hk : k < n) : RI n t (fdrop x k v) := by
  refine RI_wk h (fun j hj => ?_) (fun j hj => ?_) (fun j hj => ?_) (fun j hj => ?_) (fun j => fdrop_f _ _ _ (by decide) (by decide) (by decide))
  · have e : j ≠ k := by omega
    rw [fdrop_r _ _ _ e, fdrop_r _ _ _ e, fdrop_r _ _ _ e]
    exact h.1 j hj
  · refine rowT_r (x := x) (fdrop_f _ _ _ (by decide) (by decide) (by decide)) (fdrop_f _ _ _ (by decide) (by decide) (by decide)) (fun e => ?_) (h.2.1 j hj)
    by_cases hjk : j = k
    · subst hjk
      rw [fd_9] at e
      subst e
      rcases hv with hv | hv <;> exact absurd hv (by decide)
    · rw [fdrop_r _ _ _ hjk] at e; exact e
  · by_cases hjk : j = k
    · subst hjk
      exact Or.inl ⟨by rw [fd_9]; exact hv, fd_10 _ _ _, fd_11 _ _ _⟩
    · exact rowS_r (fdrop_r _ _ _ hjk) (fdrop_r _ _ _ hjk) (fdrop_r _ _ _ hjk) (h.2.2.1 j hj)
  · by_cases hjk : j = k
    · subst hjk
      refine ⟨fdrop_f _ _ _ (by decide) (by decide) (by decide), fdrop_f _ _ _ (by decide) (by decide) (by decide), fun e => ?_, fun e => ?_⟩
      · unfold act at e
        rw [fd_9] at e
        rcases hv with rfl | rfl <;> rcases e with e | e <;> exact absurd e (by decide)
      · unfold wkd at e
        rw [fd_9] at e
        rcases hv with rfl | rfl <;> rcases e with e | e | e <;> exact absurd e (by decide)
    · exact Wk_r (fdrop_r _ _ _ hjk) (fdrop_r _ _ _ hjk) (fdrop_r _ _ _ hjk) (fdrop_r _ _ _ hjk) (fdrop_r _ _ _ hjk)
theorem rested_symm {x : Sg} {j k : Nat} (h : rested x j k) : rested x k j := h.symm
theorem meets_symm {x : Sg} {j k : Nat} (h : meets x j k) : meets x k j := ⟨h.2, h.1⟩
/-- a run gets a bus and a driver that are fit for it -/
theorem RI_give {n t : Nat} {x : Sg} (h : RI n t x) {g : Nat} (hg : g < n) {sv : Int32} {b d : Nat} (hs : sv = 1 ∨ sv = 2) (hs2 : sv = 2 → x 9 g = 2) (hb : b < 5) (hd : d < 5) (fB : ∀ k, k < n → k ≠ g → act x k → x 10 k = nI b → ¬ meets x k g) (fD : ∀ k, k < n → k ≠ g → wkd x k → x 11 k = nI d → x 6 k / 1440 = x 6 g / 1440 → rested x k g) (hi : x 14 d = 0) : RI n t (su (su (su x 9 g sv) 10 g (nI b)) 11 g (nI d)) := by
  generalize hy : su (su (su x 9 g sv) 10 g (nI b)) 11 g (nI d) = y
  have r : ∀ f j, j ≠ g → y f j = x f j := fun f j hj => by rw [← hy, su_r _ _ _ _ hj, su_r _ _ _ _ hj, su_r _ _ _ _ hj]
  have e6 : ∀ j, y 6 j = x 6 j := fun j => by rw [← hy]; simp [su]
  have e7 : ∀ j, y 7 j = x 7 j := fun j => by rw [← hy]; simp [su]
  have e14 : ∀ j, y 14 j = x 14 j := fun j => by rw [← hy]; simp [su]
  have e9 : y 9 g = sv := by rw [← hy]; simp [su]
  have e10 : y 10 g = nI b := by rw [← hy]; simp [su]
  have e11 : y 11 g = nI d := by rw [← hy]; simp [su]
  obtain ⟨h1, h2, h3, h4, h5⟩ := h
  have ra : ∀ j, j ≠ g → (act y j ↔ act x j) := fun j hj => by unfold act; rw [r 9 j hj]
  have rw_ : ∀ j, j ≠ g → (wkd y j ↔ wkd x j) := fun j hj => by unfold wkd; rw [r 9 j hj]
  refine ⟨fun k hk => ?_, fun k hk => ?_, fun k hk => ?_, fun j k hj hk hjk => ?_, fun k hk ha d' hd' e => ?_⟩
  · have e : k ≠ g := by omega
    rw [r _ _ e, r _ _ e, r _ _ e]; exact h1 k hk
  · refine rowT_r (x := x) (e6 k) (e7 k) (fun e => ?_) (h2 k hk)
    by_cases hkg : k = g
    · subst hkg; rw [e9] at e; exact hs2 e
    · rw [r _ _ hkg] at e; exact e
  · by_cases hkg : k = g
    · subst hkg
      refine Or.inr ⟨?_, ⟨b, hb, e10⟩, d, hd, e11⟩
      unfold wkd
      rw [e9]
      rcases hs with hs | hs
      · exact Or.inl hs
      · exact Or.inr (Or.inl hs)
    · exact rowS_r (r _ _ hkg) (r _ _ hkg) (r _ _ hkg) (h3 k hk)
  · unfold pairB pairD meets rested
    simp only [e6, e7]
    by_cases hjg : j = g
    · subst hjg
      have hkg : k ≠ j := fun q => hjk q.symm
      rw [e10, e11, r 10 k hkg, r 11 k hkg, ra k hkg, rw_ k hkg]
      exact ⟨fun _ ka e m => fB k hk hkg ka e.symm ⟨m.2, m.1⟩, fun _ kw e ed => (fD k hk hkg kw e.symm ed.symm).symm⟩
    · by_cases hkg : k = g
      · subst hkg
        rw [e10, e11, r 10 j hjg, r 11 j hjg, ra j hjg, rw_ j hjg]
        exact ⟨fun ja _ e m => fB j hj hjg ja e m, fun jw _ e ed => fD j hj hjg jw e ed⟩
      · rw [r 10 j hjg, r 11 j hjg, ra j hjg, rw_ j hjg, r 10 k hkg, r 11 k hkg, ra k hkg, rw_ k hkg]
        exact h4 j k hj hk hjk
  · rw [e14]
    by_cases hkg : k = g
    · subst hkg
      rw [e11] at e
      rw [← (nI_eq (show d < 2 ^ 31 by omega) (show d' < 2 ^ 31 by omega)).mp e]
      exact hi
    · rw [r 11 k hkg] at e
      exact h5 k hk ((ra k hkg).mp ha) d' hd' e
