/-! CALL BY CALL: class and model answer alike, and their states still agree -/
def Inv (n om t : Nat) (x : Sg) : Prop := x 1 0 = nI n ∧ n ≤ 30 ∧ x 2 0 = nI om ∧ x 0 0 = nI t ∧ t ≤ 30000 ∧ RI n t x ∧ okP x ∧ (∀ k, vp_nar .boolean (x 13 k) = x 13 k) ∧ (∀ k, vp_nar .boolean (x 14 k) = x 14 k)
def Rel (n om t : Nat) (x y : Sg) : Prop := Inv n om t x ∧ Ag n x y
def Res (ls : List String) (om : Nat) (xo : Option String) (r' r : Int32) (x' x y' : Sg) : Prop := cd ls xo = y' 5 0 ∧ (xo = none → r' = r) ∧ ∃ n' om' t', om' ≤ om + 1 ∧ Rel n' om' t' (oc xo x' x) y'
theorem Rel.thr {n om t : Nat} {x y : Sg} (h : Rel n om t x y) (v : Int32) : Rel n om t x (su y 5 0 v) := ⟨h.1, ag_t h.2 v⟩
theorem xRng_t {v a b : Int32} (h : inr a b v) : xRng v a b = none := pif_t h
theorem xRng_f {v a b : Int32} (h : ¬ inr a b v) : xRng v a b = some nIA := pif_f h
theorem xIdx_t {i c : Int32} (h : ¬ i < 0 ∧ i < c) : xIdx i c = none := pif_t h
theorem xIdx_f {i c : Int32} (h : ¬ (¬ i < 0 ∧ i < c)) : xIdx i c = some nIO := pif_f h
theorem ix5 (b : Int32) : inr 0 4 b ↔ ¬ b < 0 ∧ b < 5 := by
  unfold inr
  rw [Int32.lt_iff_toInt_lt, Int32.lt_iff_toInt_lt, Int32.lt_iff_toInt_lt, show (4 : Int32).toInt = 4 by decide, show (5 : Int32).toInt = 5 by decide]
  constructor <;> rintro ⟨h1, h2⟩ <;> exact ⟨h1, by omega⟩
theorem ix2 (b : Int32) : inr 0 1 b ↔ ¬ b < 0 ∧ b < 2 := by
  unfold inr
  rw [Int32.lt_iff_toInt_lt, Int32.lt_iff_toInt_lt, Int32.lt_iff_toInt_lt, show (1 : Int32).toInt = 1 by decide, show (2 : Int32).toInt = 2 by decide]
  constructor <;> rintro ⟨h1, h2⟩ <;> exact ⟨h1, by omega⟩
theorem ixn {n : Nat} (hn : n ≤ 1000) (r : Int32) : inr 0 (nI n - 1) r ↔ ¬ r < 0 ∧ r < nI n := by
  constructor
  · intro h
    obtain ⟨j, h1, rfl⟩ := inr_run hn h
    exact ⟨nI_pos (by omega), (nI_ltI (by omega) (by omega)).mpr h1⟩
  · rintro ⟨h1, h2⟩
    obtain ⟨j, hj, rfl⟩ := nI_of h1
    rw [nI_ltI hj (by omega)] at h2
    cases n with
    | zero => omega
    | succ n =>
      rw [nI_pred]
      refine ⟨h1, ?_⟩
      rw [nI_ltI (by omega) hj]
      omega
/-- breaks -/
theorem stakeb_hit {n : Nat} {x : Sg} (b : Int32) {k : Nat} (hk : k < n) : (it (stakeb b) n x 9 k = 2 ∧ it (stakeb b) n x 10 k = b) ↔ (x 9 k = 2 ∧ x 10 k = b) := by
  rw [it_own (fun c y j hj => stakeb_r c y hj) x hk, it_own (fun c y j hj => stakeb_r c y hj) x hk]
  have e9 := it_row (f := 9) (fun c y j hj => stakeb_r (b := b) c y hj) x (Nat.le_refl k)
  have e10 := it_row (f := 10) (fun c y j hj => stakeb_r (b := b) c y hj) x (Nat.le_refl k)
  generalize it (stakeb b) k x = Y at e9 e10 ⊢
  unfold stakeb
  by_cases h : Y 9 k = 1 ∧ Y 10 k = b
  · rw [pif_t h, fd_9, ← e9, h.1]
    constructor <;> rintro ⟨q, -⟩ <;> exact absurd q (by decide)
  · rw [pif_f h, e9, e10]
theorem staked_hit {n : Nat} {x : Sg} (b : Int32) {k : Nat} (hk : k < n) : (it (staked b) n x 9 k = 2 ∧ it (staked b) n x 11 k = b) ↔ (x 9 k = 2 ∧ x 11 k = b) := by
  rw [it_own (fun c y j hj => staked_r c y hj) x hk, it_own (fun c y j hj => staked_r c y hj) x hk]
  have e9 := it_row (f := 9) (fun c y j hj => staked_r (b := b) c y hj) x (Nat.le_refl k)
  have e10 := it_row (f := 11) (fun c y j hj => staked_r (b := b) c y hj) x (Nat.le_refl k)
  generalize it (staked b) k x = Y at e9 e10 ⊢
  unfold staked
  by_cases h : Y 9 k = 1 ∧ Y 11 k = b
  · rw [pif_t h, fd_9, ← e9, h.1]
    constructor <;> rintro ⟨q, -⟩ <;> exact absurd q (by decide)
  · rw [pif_f h, e9, e10]
theorem brk_eq {n t j : Nat} {x z : Sg} (v : Int32) (hn30 : n ≤ 30) (hj : j < 5) (h : Ag n x z) (hr : RI n t x) : Ag n (fbreaks n x (nI j) v) (mbrk n z (nI j) v) ∧ RI n t (fbreaks n x (nI j) v) := by
  have hc : (nI j).toNatClampNeg = j := nI_clamp (by omega)
  unfold fbreaks mbrk
  rw [hc]
  by_cases hv : v = 0
  · rw [pif_t hv, pif_t hv]
    refine ⟨ag_su h _ _ _, RI_f hr ?_ ?_ ?_ ?_ ?_ ?_⟩ <;> intro k <;> exact su_f _ _ _ _ (by decide)
  · rw [pif_f hv, pif_f hv]
    have hA := ag_unplug (ag_su h 13 j v) (nI j)
    have hR : RI n t (funplug (su x 13 j v) (nI j)) := by
      refine RI_f hr ?_ ?_ ?_ ?_ ?_ ?_ <;> intro k <;> rw [funplug_f _ _ (by decide), su_f _ _ _ _ (by decide)]
    generalize funplug (su x 13 j v) (nI j) = X at hA hR ⊢
    generalize funplug (su z 13 j v) (nI j) = Z at hA ⊢
    obtain ⟨hA2, hR2⟩ := ag_rel (n := n) (t := t) (S := stakeb (nI j)) (S' := srel (nI j) 6) (fun x y m h hr hm => stakeb_1 h hr (nI j) hm) hA hR n (Nat.le_refl n)
    have hh : ∀ k, k < n → (hitg Z (nI j) 6 k ↔ X 9 k = 2 ∧ X 10 k = nI j) := fun k hk => by
      unfold hitg
      rw [ag_r hA 10 hk, ag_r hA 11 hk, ag_a hA 9]
      constructor
      · rintro ⟨h1 | h1, h2⟩
        · exact ⟨h2, h1⟩
        · rcases hR.2.2.1 k hk with ⟨-, -, q⟩ | ⟨-, -, d, hd, q⟩
          · rw [q] at h1; exact absurd h1 (by decide)
          · rw [q] at h1
            have := (nI_eq (show d < 2 ^ 31 by omega) (show (6 : Nat) < 2 ^ 31 by decide)).mp h1
            omega
      · rintro ⟨h1, h2⟩; exact ⟨Or.inl h2, h1⟩
    by_cases hg : ∃ g, g < n ∧ X 9 g = 2 ∧ X 10 g = nI j
    · obtain ⟨g, hg, hg1, hg2⟩ := hg
      have hu : ∀ k, k < n → X 9 k = 2 ∧ X 10 k = nI j → k = g := fun k hk q => uniqB hR hk hg q.1 hg1 (q.2.trans hg2.symm)
      rw [goF_hit hg ((hh g hg).mpr ⟨hg1, hg2⟩) (fun k hk q => hu k hk ((hh k hk).mp q))]
      unfold mgob
      rw [pif_f (nI_nm (by omega)), nI_clamp (show g < 2 ^ 31 by omega)]
      have hs := (stakeb_hit (n := n) (x := X) (nI j) hg).mpr ⟨hg1, hg2⟩
      have e : it (sswapb n (nI j)) n (it (stakeb (nI j)) n X) = fgiveb n (it (stakeb (nI j)) n X) g := by
        refine it_one hg (fun k hk => ?_) ?_ (fun k h1 h2 => ?_)
        · unfold sswapb
          rw [pif_f]
          intro q
          have := hu k (by omega) ((stakeb_hit (n := n) (x := X) (nI j) (by omega)).mp q)
          omega
        · unfold sswapb; rw [pif_t hs]
        · unfold sswapb
          rw [pif_f]
          intro q
          have hne : k ≠ g := by omega
          rw [fgiveb_r _ _ hne (by decide) (by decide), fgiveb_r _ _ hne (by decide) (by decide)] at q
          have := hu k h2 ((stakeb_hit (n := n) (x := X) (nI j) h2).mp q)
          omega
      rw [e]
      exact giveb_eq hA2 hR2 hg hs.1
    · have hno : ∀ k, k < n → ¬ (X 9 k = 2 ∧ X 10 k = nI j) := fun k hk q => hg ⟨k, hk, q⟩
      rw [goF_none (fun k hk q => hno k hk ((hh k hk).mp q))]
      unfold mgob
      rw [pif_t rfl, it_id (fun k hk => by unfold sswapb; rw [pif_f (fun q => hno k hk ((stakeb_hit (n := n) (x := X) (nI j) hk).mp q))])]
      exact ⟨hA2, hR2⟩
/-- ails -/
theorem ail_eq {n t j : Nat} {x z : Sg} (v : Int32) (hn30 : n ≤ 30) (hj : j < 5) (h : Ag n x z) (hr : RI n t x) : Ag n (fails n x (nI j) v) (mail n z (nI j) v) ∧ RI n t (fails n x (nI j) v) := by
  have hc : (nI j).toNatClampNeg = j := nI_clamp (by omega)
  unfold fails mail
  rw [hc, ag_a h 14]
  by_cases hv : v = 0
  · rw [pif_t hv, pif_t (Or.inl hv)]
    exact ⟨ag_su h _ _ _, RI_14 hr (Or.inl hv)⟩
  · rw [pif_f hv]
    by_cases hw : x 14 j = 0
    · rw [pif_f (fun q => q.elim hv (fun q => q hw))]
      -- the runs that are ordered wait again; told first with the driver still well
      have hA := ag_su h 14 j v
      have key : ∀ m, m ≤ n → Ag n (it (staked (nI j)) m (su x 14 j v)) (it (srel 6 (nI j)) m (su z 14 j v)) ∧ it (staked (nI j)) m (su x 14 j v) = su (it (staked (nI j)) m x) 14 j v ∧ RI n t (it (staked (nI j)) m x) := by
        intro m
        induction m with
        | zero => exact fun _ => ⟨hA, rfl, hr⟩
        | succ m ih =>
          intro hm
          obtain ⟨i1, i2, i3⟩ := ih (by omega)
          have e0 : staked (nI j) m (su (it (staked (nI j)) m x) 14 j v) = su (staked (nI j) m (it (staked (nI j)) m x)) 14 j v := by
            generalize it (staked (nI j)) m x = Y
            unfold staked
            rw [su_f _ _ _ _ (show (9 : Nat) ≠ 14 by decide), su_f _ _ _ _ (show (11 : Nat) ≠ 14 by decide)]
            by_cases hq : Y 9 m = 1 ∧ Y 11 m = nI j
            · rw [pif_t hq, pif_t hq]
              funext f k
              unfold fdrop su
              by_cases h14 : f = 14
              · subst h14; simp
              · simp [h14]
            · rw [pif_f hq, pif_f hq]
          have hcnd : ∀ (X Y : Sg), Ag n X Y → rowS X m → Ag n (staked (nI j) m X) (srel 6 (nI j) m Y) := fun X Y hXY hS => by
            unfold staked srel
            refine ag_pif ?_ (fun _ => ag_drop hXY _ _) (fun _ => hXY)
            rw [ag_r hXY 10 (show m < n by omega), ag_r hXY 11 (show m < n by omega), ag_a hXY 9]
            constructor
            · rintro ⟨h1 | h1, h2⟩
              · rcases hS with ⟨-, q, -⟩ | ⟨-, ⟨b, hb, q⟩, -⟩
                · rw [q] at h1; exact absurd h1 (by decide)
                · rw [q] at h1
                  have := (nI_eq (show b < 2 ^ 31 by omega) (show (6 : Nat) < 2 ^ 31 by decide)).mp h1
                  omega
              · exact ⟨h2, h1⟩
            · rintro ⟨h1, h2⟩; exact ⟨Or.inr h2, h1⟩
          refine ⟨hcnd _ _ i1 ?_, ?_, (staked_1 (y := it (staked (nI j)) m x) (fun f k _ _ => rfl) i3 (nI j) (by omega)).2⟩
          · rw [i2]
            exact rowS_r (su_f _ _ _ _ (by decide)) (su_f _ _ _ _ (by decide)) (su_f _ _ _ _ (by decide)) (i3.2.2.1 m (by omega))
          · show staked (nI j) m (it (staked (nI j)) m (su x 14 j v)) = _
            rw [i2]
            exact e0
      obtain ⟨hA2, hE, hR2⟩ := key n (Nat.le_refl n)
      have hX9 : ∀ k, su x 14 j v 9 k = x 9 k := fun k => su_f _ _ _ _ (by decide)
      have hX11 : ∀ k, su x 14 j v 11 k = x 11 k := fun k => su_f _ _ _ _ (by decide)
      have hh : ∀ k, k < n → (hitg (su z 14 j v) 6 (nI j) k ↔ x 9 k = 2 ∧ x 11 k = nI j) := fun k hk => by
        unfold hitg
        rw [ag_r hA 10 hk, ag_r hA 11 hk, ag_a hA 9, hX9, hX11, su_f _ _ _ _ (show (10 : Nat) ≠ 14 by decide)]
        constructor
        · rintro ⟨h1 | h1, h2⟩
          · rcases hr.2.2.1 k hk with ⟨-, q, -⟩ | ⟨-, ⟨b, hb, q⟩, -⟩
            · rw [q] at h1; exact absurd h1 (by decide)
            · rw [q] at h1
              have := (nI_eq (show b < 2 ^ 31 by omega) (show (6 : Nat) < 2 ^ 31 by decide)).mp h1
              omega
          · exact ⟨h2, h1⟩
        · rintro ⟨h1, h2⟩; exact ⟨Or.inr h2, h1⟩
      have hsh : ∀ k, k < n → ((it (staked (nI j)) n (su x 14 j v) 9 k = 2 ∧ it (staked (nI j)) n (su x 14 j v) 11 k = nI j) ↔ (x 9 k = 2 ∧ x 11 k = nI j)) := fun k hk => by
        rw [staked_hit (n := n) (x := su x 14 j v) (nI j) hk, hX9, hX11]
      have hord : ∀ k, k < n → it (staked (nI j)) n x 9 k = 1 → ¬ it (staked (nI j)) n x 11 k = nI j := fun k hk => by
        rw [it_own (fun c y j hj => staked_r c y hj) x hk, it_own (fun c y j hj => staked_r c y hj) x hk]
        generalize it (staked (nI j)) k x = Y
        unfold staked
        by_cases hq : Y 9 k = 1 ∧ Y 11 k = nI j
        · rw [pif_t hq, fd_9]; exact fun q => absurd q (by decide)
        · rw [pif_f hq]; exact fun q1 q2 => hq ⟨q1, q2⟩
      by_cases hg : ∃ g, g < n ∧ x 9 g = 2 ∧ x 11 g = nI j
      · obtain ⟨g, hg, hg1, hg2⟩ := hg
        have hu : ∀ k, k < n → x 9 k = 2 ∧ x 11 k = nI j → k = g := fun k hk q => uniqD hr hk hg q.1 hg1 (q.2.trans hg2.symm)
        rw [goF_hit hg ((hh g hg).mpr ⟨hg1, hg2⟩) (fun k hk q => hu k hk ((hh k hk).mp q))]
        unfold mgod
        rw [pif_f (nI_nm (by omega)), nI_clamp (show g < 2 ^ 31 by omega)]
        have hs := (hsh g hg).mpr ⟨hg1, hg2⟩
        have e : it (sswapd n (nI j)) n (it (staked (nI j)) n (su x 14 j v)) = fgived n (it (staked (nI j)) n (su x 14 j v)) g := by
          refine it_one hg (fun k hk => ?_) ?_ (fun k h1 h2 => ?_)
          · unfold sswapd
            rw [pif_f]
            intro q
            have := hu k (by omega) ((hsh k (by omega)).mp q)
            omega
          · unfold sswapd; rw [pif_t hs]
          · unfold sswapd
            rw [pif_f]
            intro q
            have hne : k ≠ g := by omega
            rw [fgived_r _ _ hne, fgived_r _ _ hne] at q
            have := hu k h2 ((hsh k h2).mp q)
            omega
        rw [e]
        -- the run that goes is set apart: lost first, then seen with its new driver
        exact ill_give hA2 hE hR2 hg ((staked_hit (n := n) (x := x) (nI j) hg).mpr ⟨hg1, hg2⟩).1 hj hv hord (fun k hk q => hu k hk ((staked_hit (n := n) (x := x) (nI j) hk).mp q))
      · have hno : ∀ k, k < n → ¬ (x 9 k = 2 ∧ x 11 k = nI j) := fun k hk q => hg ⟨k, hk, q⟩
        rw [goF_none (fun k hk q => hno k hk ((hh k hk).mp q))]
        unfold mgod
        rw [pif_t rfl, it_id (fun k hk => by unfold sswapd; rw [pif_f (fun q => hno k hk ((hsh k hk).mp q))])]
        refine ⟨hA2, ?_⟩
        rw [hE]
        refine RI_14 hR2 (Or.inr (fun k hk ha e => ?_))
        rcases ha with ha | ha
        · exact hord k hk ha e
        · exact hno k hk ((staked_hit (n := n) (x := x) (nI j) hk).mp ⟨ha, e⟩)
    · rw [pif_t (Or.inr hw)]
      -- the driver was ill: it has no run that is ordered or goes
      have hno : ∀ k, k < n → act x k → ¬ x 11 k = nI j := fun k hk ha e => hw (hr.2.2.2.2 k hk ha j hj e)
      have e1 : it (staked (nI j)) n (su x 14 j v) = su x 14 j v := it_id (fun k hk => by
        unfold staked
        rw [su_f _ _ _ _ (show (9 : Nat) ≠ 14 by decide), su_f _ _ _ _ (show (11 : Nat) ≠ 14 by decide), pif_f (fun q => hno k hk (Or.inl q.1) q.2)])
      have e2 : it (sswapd n (nI j)) n (su x 14 j v) = su x 14 j v := it_id (fun k hk => by
        unfold sswapd
        rw [su_f _ _ _ _ (show (9 : Nat) ≠ 14 by decide), su_f _ _ _ _ (show (11 : Nat) ≠ 14 by decide), pif_f (fun q => hno k hk (Or.inr q.1) q.2)])
      rw [e1, e2]
      exact ⟨ag_su h _ _ _, RI_14 hr (Or.inr hno)⟩
