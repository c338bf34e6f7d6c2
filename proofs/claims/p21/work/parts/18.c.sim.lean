/-! What is fit, asked by the class and by the model -/
theorem pif_c {α : Sort _} {P P' : Prop} (h : P ↔ P') (a b : α) : pif P a b = pif P' a b := by rw [propext h]
theorem sumG_eq (a : Int32) (g : Nat → Int32) (n : Nat) : sumG a g n = a + sumF g n := by
  induction n with
  | zero => simp [sumG, sumF]
  | succ n ih => simp only [sumG, sumF]; rw [ih, Int32.add_assoc]
theorem fprom_su {n g : Nat} {x : Sg} (b v : Int32) (h : x 9 g ≠ 1) : fprom n (su x 10 g v) b = fprom n x b := sumF_c (fun k _ => by
  unfold gprom
  by_cases e : k = g
  · subst e
    rw [pif_f (fun q => h (by have := q.2; rw [su_f _ _ _ _ (by decide)] at this; exact this)), pif_f (fun q => h q.2)]
  · rw [su_k _ _ _ e, su_f _ _ _ _ (by decide), su_f _ _ _ _ (by decide)])
theorem fitB_eq {n g b : Nat} {x y : Sg} (h : Ag n x y) (hb : b < 5) (hx : x 9 g ≠ 1) : mbf n y b g ↔ busfit n (su x 10 g (-1)) b g := by
  unfold mbf mbK mbA busfit
  rw [allb_iff, ag_prom h, ag_a h 13, ag_a h 12, ag_a h 8, fprom_su _ _ hx, su_f _ _ _ _ (show 13 ≠ 10 by decide), su_f _ _ _ _ (show 12 ≠ 10 by decide), su_f _ _ _ _ (show 8 ≠ 10 by decide)]
  constructor
  · rintro ⟨⟨h1, h2⟩, h3⟩
    refine ⟨h1, h2, fun k hk hh => ?_⟩
    obtain ⟨⟨q1, q2⟩, q3, q4⟩ := hh
    by_cases e : k = g
    · subst e
      rw [su_s] at q1
      exact nI_nm (show b < 2 ^ 31 by omega) q1.symm
    · rw [su_k _ _ _ e] at q1
      refine h3 k hk ⟨⟨e, by rw [ag_r h 10 hk]; exact q1, by rw [ag_a h 9]; exact q2⟩, ?_, ?_⟩
      · rw [ag_a h 6, ag_a h 7]; exact q3
      · rw [ag_a h 6, ag_a h 7]; exact q4
  · rintro ⟨h1, h2, h3⟩
    refine ⟨⟨h1, h2⟩, fun k hk hh => ?_⟩
    obtain ⟨⟨q1, q2, q3⟩, q4, q5⟩ := hh
    rw [ag_r h 10 hk] at q2
    rw [ag_a h 9] at q3
    rw [ag_a h 6, ag_a h 7] at q4 q5
    refine h3 k hk ⟨⟨by rw [su_k _ _ _ q1]; exact q2, q3⟩, q4, q5⟩
theorem fitQ_eq {n g d k : Nat} {x y : Sg} (h : Ag n x y) (hS : ∀ k, k < n → rowS x k) (hk : k < n) (hd : d < 5) : mdQ y d g k ↔ works (su x 11 g (-1)) k (nI d) (x 6 g / 1440) := by
  unfold mdQ works
  rw [ag_r h 11 hk, ag_a h 6, ag_a h 6, su_f _ _ _ _ (show 6 ≠ 11 by decide)]
  constructor
  · rintro ⟨h1, h2, h3, h4⟩
    exact ⟨by rw [su_k _ _ _ h1]; exact h2, h4⟩
  · rintro ⟨h1, h2⟩
    by_cases e : k = g
    · subst e
      rw [su_s] at h1
      exact absurd h1.symm (nI_nm (by omega))
    · rw [su_k _ _ _ e] at h1
      refine ⟨e, h1, ?_, h2⟩
      unfold wkd
      rw [ag_a h 9]
      rcases hS k hk with ⟨-, -, q⟩ | ⟨q, -⟩
      · rw [h1] at q
        exact absurd q (nI_nm (by omega))
      · exact q
theorem fitD_eq {n g d : Nat} {x y : Sg} (h : Ag n x y) (hS : ∀ k, k < n → rowS x k) (hd : d < 5) : mdf n y d g ↔ drvfit n (su x 11 g (-1)) d g := by
  have e1 : sumG (y 7 g - y 6 g) (mdG y d g) n = fwork n (su x 11 g (-1)) (nI d) (x 6 g / 1440) + (x 7 g - x 6 g) := by
    rw [sumG_eq, Int32.add_comm, ag_a h 7, ag_a h 6]
    congr 1
    refine sumF_c (fun k hk => ?_)
    unfold mdG gwork
    rw [pif_c (fitQ_eq (g := g) h hS hk hd), ag_a h 7, ag_a h 6, su_f _ _ _ _ (show 7 ≠ 11 by decide), su_f _ _ _ _ (show 6 ≠ 11 by decide)]
  unfold mdf mdK drvfit
  rw [allb_iff, e1, ag_a h 14, su_f _ _ _ _ (show 14 ≠ 11 by decide), su_f _ _ _ _ (show 6 ≠ 11 by decide), su_f _ _ _ _ (show 7 ≠ 11 by decide)]
  constructor
  · rintro ⟨⟨h1, h2⟩, h3⟩
    refine ⟨h1, h3, fun k hk hh => hh.2 ?_⟩
    have := h2 k hk ((fitQ_eq (g := g) h hS hk hd).mpr hh.1)
    unfold mdR at this
    rw [ag_a h 6, ag_a h 7, ag_a h 6, ag_a h 7] at this
    exact this
  · rintro ⟨h1, h2, h3⟩
    refine ⟨⟨h1, fun k hk hq => ?_⟩, h2⟩
    have hw := (fitQ_eq (g := g) h hS hk hd).mp hq
    have := Classical.not_not.mp (fun q => h3 k hk ⟨hw, q⟩)
    unfold mdR
    rw [ag_a h 6, ag_a h 7, ag_a h 6, ag_a h 7]
    exact this
theorem low_eq {P P' : Nat → Prop} (h : ∀ q, q < 5 → (P q ↔ P' q)) : lowF P 5 0 = lowF P' 5 0 := by
  show pif (P 0) _ (pif (P 1) _ (pif (P 2) _ (pif (P 3) _ (pif (P 4) _ _)))) = pif (P' 0) _ (pif (P' 1) _ (pif (P' 2) _ (pif (P' 3) _ (pif (P' 4) _ _))))
  rw [propext (h 0 (by decide)), propext (h 1 (by decide)), propext (h 2 (by decide)), propext (h 3 (by decide)), propext (h 4 (by decide))]
  rfl
theorem low_or (P : Nat → Prop) : lowF P 5 0 = -1 ∨ ∃ q, q < 5 ∧ P q ∧ lowF P 5 0 = nI q := by
  show pif (P 0) _ (pif (P 1) _ (pif (P 2) _ (pif (P 3) _ (pif (P 4) _ _)))) = _ ∨ ∃ q, q < 5 ∧ P q ∧ pif (P 0) _ (pif (P 1) _ (pif (P 2) _ (pif (P 3) _ (pif (P 4) _ _)))) = nI q
  by_cases h0 : P 0
  · rw [pif_t h0]; exact Or.inr ⟨0, by decide, h0, rfl⟩
  rw [pif_f h0]
  by_cases h1 : P 1
  · rw [pif_t h1]; exact Or.inr ⟨1, by decide, h1, rfl⟩
  rw [pif_f h1]
  by_cases h2 : P 2
  · rw [pif_t h2]; exact Or.inr ⟨2, by decide, h2, rfl⟩
  rw [pif_f h2]
  by_cases h3 : P 3
  · rw [pif_t h3]; exact Or.inr ⟨3, by decide, h3, rfl⟩
  rw [pif_f h3]
  by_cases h4 : P 4
  · rw [pif_t h4]; exact Or.inr ⟨4, by decide, h4, rfl⟩
  rw [pif_f h4]
  exact Or.inl rfl
/-! Orders that wait again -/
theorem stakeb_1 {n t : Nat} {x y : Sg} (h : Ag n x y) (hr : RI n t x) (b : Int32) {m : Nat} (hm : m < n) : Ag n (stakeb b m x) (srel b 6 m y) ∧ RI n t (stakeb b m x) := by
  unfold stakeb srel
  refine ⟨ag_pif ?_ (fun _ => ag_drop h _ _) (fun _ => h), pif_ap _ _ _ (fun (z : Sg) => RI n t z) (fun _ => RI_drop hr m 0 (Or.inl rfl) hm) (fun _ => hr)⟩
  rw [ag_r h 10 hm, ag_r h 11 hm, ag_a h 9]
  constructor
  · rintro ⟨h1 | h1, h2⟩
    · exact ⟨h2, h1⟩
    · rcases hr.2.2.1 m hm with ⟨-, -, q⟩ | ⟨-, -, d, hd, q⟩
      · rw [q] at h1; exact absurd h1 (by decide)
      · rw [q] at h1
        have := (nI_eq (show d < 2 ^ 31 by omega) (show (6 : Nat) < 2 ^ 31 by decide)).mp h1
        omega
  · rintro ⟨h1, h2⟩
    exact ⟨Or.inl h2, h1⟩
theorem staked_1 {n t : Nat} {x y : Sg} (h : Ag n x y) (hr : RI n t x) (d : Int32) {m : Nat} (hm : m < n) : Ag n (staked d m x) (srel 6 d m y) ∧ RI n t (staked d m x) := by
  unfold staked srel
  refine ⟨ag_pif ?_ (fun _ => ag_drop h _ _) (fun _ => h), pif_ap _ _ _ (fun (z : Sg) => RI n t z) (fun _ => RI_drop hr m 0 (Or.inl rfl) hm) (fun _ => hr)⟩
  rw [ag_r h 10 hm, ag_r h 11 hm, ag_a h 9]
  constructor
  · rintro ⟨h1 | h1, h2⟩
    · rcases hr.2.2.1 m hm with ⟨-, q, -⟩ | ⟨-, ⟨b, hb, q⟩, -⟩
      · rw [q] at h1; exact absurd h1 (by decide)
      · rw [q] at h1
        have := (nI_eq (show b < 2 ^ 31 by omega) (show (6 : Nat) < 2 ^ 31 by decide)).mp h1
        omega
    · exact ⟨h2, h1⟩
  · rintro ⟨h1, h2⟩
    exact ⟨Or.inr h2, h1⟩
theorem ag_rel {n t : Nat} {x y : Sg} {S S' : Nat → Sg → Sg} (st : ∀ (x y : Sg) (m : Nat), Ag n x y → RI n t x → m < n → Ag n (S m x) (S' m y) ∧ RI n t (S m x)) (h : Ag n x y) (hr : RI n t x) : ∀ m, m ≤ n → Ag n (it S m x) (it S' m y) ∧ RI n t (it S m x) := by
  intro m
  induction m with
  | zero => exact fun _ => ⟨h, hr⟩
  | succ m ih =>
    intro hm
    obtain ⟨h1, h2⟩ := ih (by omega)
    exact st _ _ m h1 h2 (by omega)
theorem srel_r {b d : Int32} {f j : Nat} (c : Nat) (y : Sg) (h : j ≠ c) : srel b d c y f j = y f j := by simp [srel, pif_ap2, fdrop_r _ _ _ h, pif_s]
theorem stakeb_r {b : Int32} {f j : Nat} (c : Nat) (y : Sg) (h : j ≠ c) : stakeb b c y f j = y f j := by simp [stakeb, pif_ap2, fdrop_r _ _ _ h, pif_s]
theorem staked_r {b : Int32} {f j : Nat} (c : Nat) (y : Sg) (h : j ≠ c) : staked b c y f j = y f j := by simp [staked, pif_ap2, fdrop_r _ _ _ h, pif_s]
/-! The one that goes -/
def hitg (y : Sg) (b d : Int32) (k : Nat) : Prop := (y 10 k = b ∨ y 11 k = d) ∧ y 9 k = 2
theorem goF_s (b d : Int32) (y : Sg) (m : Nat) : goF b d y (m + 1) = pif (hitg y b d m) (nI m) (goF b d y m) := by
  show pif _ _ _ = _
  unfold hitg
  rw [it_row (fun c y j hj => srel_r c y hj) y (Nat.le_refl m), it_row (fun c y j hj => srel_r c y hj) y (Nat.le_refl m), it_row (fun c y j hj => srel_r c y hj) y (Nat.le_refl m)]
theorem goF_none {b d : Int32} {y : Sg} {n : Nat} (h : ∀ k, k < n → ¬ hitg y b d k) : goF b d y n = -1 := by
  induction n with
  | zero => rfl
  | succ n ih =>
    rw [goF_s, pif_f (h n (Nat.lt_succ_self n))]
    exact ih (fun k hk => h k (Nat.lt_succ_of_lt hk))
theorem goF_hit {b d : Int32} {y : Sg} {n g : Nat} (hg : g < n) (hh : hitg y b d g) (hu : ∀ k, k < n → hitg y b d k → k = g) : goF b d y n = nI g := by
  induction n with
  | zero => exact absurd hg (Nat.not_lt_zero g)
  | succ n ih =>
    rw [goF_s]
    by_cases e : g = n
    · subst e; rw [pif_t hh]
    · rw [pif_f (fun q => e (hu n (Nat.lt_succ_self n) q).symm)]
      exact ih (by omega) (fun k hk q => hu k (by omega) q)
theorem it_id {S : Nat → Sg → Sg} {X : Sg} {n : Nat} (h : ∀ k, k < n → S k X = X) : it S n X = X := by
  induction n with
  | zero => rfl
  | succ n ih =>
    show S n (it S n X) = X
    rw [ih (fun k hk => h k (Nat.lt_succ_of_lt hk))]
    exact h n (Nat.lt_succ_self n)
theorem it_one {S : Nat → Sg → Sg} {X F : Sg} {g n : Nat} (hg : g < n) (h0 : ∀ k, k < g → S k X = X) (h1 : S g X = F) (h2 : ∀ k, g < k → k < n → S k F = F) : it S n X = F := by
  induction n with
  | zero => exact absurd hg (Nat.not_lt_zero g)
  | succ n ih =>
    show S n (it S n X) = F
    by_cases e : g = n
    · subst e
      rw [it_id h0, h1]
    · rw [ih (by omega) (fun k a b => h2 k a (by omega))]
      exact h2 n (by omega) (Nat.lt_succ_self n)
/-! Another bus, another driver -/
theorem fdrop_su10 (x : Sg) (g : Nat) (v w : Int32) : fdrop (su x 10 g w) g v = fdrop x g v := by
  funext f k
  unfold fdrop su
  by_cases h11 : f = 11
  · subst h11; simp
  · by_cases h10 : f = 10
    · subst h10; by_cases hk : k = g <;> simp [hk]
    · by_cases h9 : f = 9
      · subst h9; simp
      · simp [h9, h10, h11]
theorem fdrop_su11 (x : Sg) (g : Nat) (v w : Int32) : fdrop (su x 11 g w) g v = fdrop x g v := by
  funext f k
  unfold fdrop su
  by_cases h11 : f = 11
  · subst h11; by_cases hk : k = g <;> simp [hk]
  · by_cases h10 : f = 10
    · subst h10; simp
    · by_cases h9 : f = 9
      · subst h9; simp
      · simp [h9, h10, h11]
theorem giveb_eq {n t g : Nat} {x y : Sg} (h : Ag n x y) (hr : RI n t x) (hg : g < n) (hs : x 9 g = 2) : Ag n (fgiveb n x g) (mgiveb n y g) ∧ RI n t (fgiveb n x g) := by
  have e1 : lowbus n (su x 10 g (-1)) g = mlowb n y g := (low_eq (fun q hq => fitB_eq h hq (by rw [hs]; decide))).symm
  unfold fgiveb mgiveb
  rw [e1]
  rcases low_or (fun q => mbf n y q g) with hl | ⟨q, hq, hf, hl⟩
  · have hl : mlowb n y g = -1 := hl
    rw [hl, pif_t rfl, pif_t rfl, fdrop_su10]
    exact ⟨ag_drop h _ _, RI_drop hr g 4 (Or.inr rfl) hg⟩
  · have hl : mlowb n y g = nI q := hl
    have hq1 : ¬ nI q = -1 := nI_nm (by omega)
    rw [hl, pif_f hq1, pif_f hq1, su_su]
    have hc : (nI q).toNatClampNeg = q := nI_clamp (by omega)
    have hp : ¬ nI q < 0 ∧ nI q < 5 := ⟨nI_pos (by omega), (nI_ltI (by omega) (show (5 : Nat) < 2 ^ 31 by decide)).mpr hq⟩
    unfold fsend
    rw [pif_t hp, hc]
    have hb := ag_su h 10 g (nI q)
    have hv : su y 10 g (nI q) 12 q - su y 10 g (nI q) 8 g = su x 10 g (nI q) 12 q - x 8 g := by rw [ag_a hb 12, ag_a hb 8, su_f _ _ _ _ (show 8 ≠ 10 by decide)]
    refine ⟨ag_unplug (ag_su' hb 12 q hv) _, ?_⟩
    have hz : RI n t (su x 10 g (nI q)) := by
      obtain ⟨d, hd, ed⟩ : ∃ d, d < 5 ∧ x 11 g = nI d := by
        rcases hr.2.2.1 g hg with ⟨q1, -, -⟩ | ⟨-, -, d, hd, ed⟩
        · rw [hs] at q1; rcases q1 with q1 | q1 <;> exact absurd q1 (by decide)
        · exact ⟨d, hd, ed⟩
      have hw : wkd x g := Or.inr (Or.inl hs)
      have hfit := ((fitB_eq h hq (by rw [hs]; decide)).mp hf).2.2
      have := RI_give hr hg (sv := 2) (b := q) (d := d) (Or.inr rfl) (fun _ => hs) hq hd (fun k hk hkg ha e m => by
          refine hfit k hk ⟨⟨?_, ?_⟩, ?_⟩
          · rw [su_k _ _ _ hkg]; exact e
          · exact ha
          · exact m)
        (fun k hk hkg hkw e ed' => (hr.2.2.2.1 k g hk hg hkg).2 hkw hw (by rw [e, ed]) ed') (hr.2.2.2.2 g hg (Or.inr hs) d hd ed)
      rw [su_n x 9 g 2 hs, su_n (su x 10 g (nI q)) 11 g (nI d) (by rw [su_f _ _ _ _ (by decide)]; exact ed)] at this
      exact this
    refine RI_f hz ?_ ?_ ?_ ?_ ?_ ?_ <;> intro k <;> rw [funplug_f _ _ (by decide), su_f _ _ _ _ (by decide)]
theorem RI_14 {n t j : Nat} {v : Int32} {W : Sg} (hW : RI n t W) (hno : v = 0 ∨ ∀ k, k < n → act W k → ¬ W 11 k = nI j) : RI n t (su W 14 j v) := by
  obtain ⟨r1, r2, r3, r4, r5⟩ := hW
  refine ⟨fun k hk => by rw [su_f _ _ _ _ (by decide), su_f _ _ _ _ (by decide), su_f _ _ _ _ (by decide)]; exact r1 k hk, fun k hk => rowT_r (su_f _ _ _ _ (by decide)) (su_f _ _ _ _ (by decide)) (fun e => by rw [su_f _ _ _ _ (by decide)] at e; exact e) (r2 k hk), fun k hk => rowS_r (su_f _ _ _ _ (by decide)) (su_f _ _ _ _ (by decide)) (su_f _ _ _ _ (by decide)) (r3 k hk), fun a k ha hk hak => ?_, fun k hk ha d hd e => ?_⟩
  · have := r4 a k ha hk hak
    unfold pairB pairD act wkd meets rested at this ⊢
    simp only [su_f _ _ _ _ (show (6 : Nat) ≠ 14 by decide), su_f _ _ _ _ (show (7 : Nat) ≠ 14 by decide), su_f _ _ _ _ (show (9 : Nat) ≠ 14 by decide), su_f _ _ _ _ (show (10 : Nat) ≠ 14 by decide), su_f _ _ _ _ (show (11 : Nat) ≠ 14 by decide)]
    exact this
  · unfold act at ha
    rw [su_f _ _ _ _ (by decide)] at ha
    rw [su_f _ _ _ _ (by decide)] at e
    by_cases hdj : d = j
    · subst hdj
      rw [su_s]
      rcases hno with q | q
      · exact q
      · exact absurd e (q k hk ha)
    · rw [su_k _ _ _ hdj]; exact r5 k hk ha d hd e
theorem su_comm (x : Sg) {f f' : Nat} (k k' : Nat) (v v' : Int32) (h : f ≠ f') : su (su x f k v) f' k' v' = su (su x f' k' v') f k v := by
  funext a b
  unfold su
  by_cases h1 : a = f
  · subst h1
    simp [h]
  · by_cases h2 : a = f'
    · subst h2
      simp [h1]
    · simp [h1, h2]
theorem fdrop_14 (x : Sg) (g j : Nat) (s v : Int32) : fdrop (su x 14 j v) g s = su (fdrop x g s) 14 j v := by
  unfold fdrop
  rw [su_comm x j g v s (show (14 : Nat) ≠ 9 by decide), su_comm _ j g v (-1) (show (14 : Nat) ≠ 10 by decide), su_comm _ j g v (-1) (show (14 : Nat) ≠ 11 by decide)]
/-- the driver j is ill now; its run that goes gets another one -/
theorem ill_give {n t g j : Nat} {v : Int32} {X Y W : Sg} (h : Ag n X Y) (hE : X = su W 14 j v) (hR : RI n t W) (hg : g < n) (hs : W 9 g = 2) (hj : j < 5) (hv : ¬ v = 0) (hord : ∀ k, k < n → W 9 k = 1 → ¬ W 11 k = nI j) (hu : ∀ k, k < n → W 9 k = 2 ∧ W 11 k = nI j → k = g) : Ag n (fgived n X g) (mgived n Y g) ∧ RI n t (fgived n X g) := by
  have hS : ∀ k, k < n → rowS X k := fun k hk => by
    rw [hE]
    exact rowS_r (su_f _ _ _ _ (by decide)) (su_f _ _ _ _ (by decide)) (su_f _ _ _ _ (by decide)) (hR.2.2.1 k hk)
  have e1 : lowdrv n (su X 11 g (-1)) g = mlowd n Y g := (low_eq (fun q hq => fitD_eq h hS hq)).symm
  unfold fgived mgived
  rw [e1]
  rcases low_or (fun q => mdf n Y q g) with hl | ⟨q, hq, hf, hl⟩
  · have hl : mlowd n Y g = -1 := hl
    rw [hl, pif_t rfl, pif_t rfl, fdrop_su11]
    refine ⟨ag_drop h _ _, ?_⟩
    rw [hE, fdrop_14]
    refine RI_14 (RI_drop hR g 4 (Or.inr rfl) hg) (Or.inr (fun k hk ha e => ?_))
    by_cases hkg : k = g
    · subst hkg
      rw [fd_11] at e
      exact absurd e.symm (nI_nm (by omega))
    · unfold act at ha
      rw [fdrop_r _ _ _ hkg] at ha e
      rcases ha with ha | ha
      · exact hord k hk ha e
      · exact hkg (hu k hk ⟨ha, e⟩)
  · have hl : mlowd n Y g = nI q := hl
    have hq1 : ¬ nI q = -1 := nI_nm (by omega)
    rw [hl, pif_f hq1, pif_f hq1, su_su]
    refine ⟨ag_su h 11 g (nI q), ?_⟩
    obtain ⟨b, hb, eb⟩ : ∃ b, b < 5 ∧ W 10 g = nI b := by
      rcases hR.2.2.1 g hg with ⟨q1, -, -⟩ | ⟨-, ⟨b, hb, eb⟩, -⟩
      · rw [hs] at q1; rcases q1 with q1 | q1 <;> exact absurd q1 (by decide)
      · exact ⟨b, hb, eb⟩
    obtain ⟨f1, f2, f3⟩ := (fitD_eq h hS hq).mp hf
    rw [su_f _ _ _ _ (by decide), hE] at f1
    have hqj : q ≠ j := fun z => by subst z; rw [su_s] at f1; exact hv f1
    rw [su_k _ _ _ hqj] at f1
    have hz := RI_give hR hg (sv := 2) (b := b) (d := q) (Or.inr rfl) (fun _ => hs) hb hq (fun k hk hkg ha e m => (hR.2.2.2.1 k g hk hg hkg).1 ha (Or.inr hs) (by rw [e, eb]) m)
      (fun k hk hkg hkw e ed' => Classical.not_not.mp (fun z => f3 k hk ⟨⟨by rw [su_k _ _ _ hkg, hE, su_f _ _ _ _ (by decide)]; exact e, by rw [su_f _ _ _ _ (by decide), su_f _ _ _ _ (by decide), hE, su_f _ _ _ _ (by decide), su_f _ _ _ _ (by decide)]; exact ed'⟩, fun r => z (by
        unfold rested at r ⊢
        simp only [hE, su_f _ _ _ _ (show (6 : Nat) ≠ 11 by decide), su_f _ _ _ _ (show (7 : Nat) ≠ 11 by decide), su_f _ _ _ _ (show (6 : Nat) ≠ 14 by decide), su_f _ _ _ _ (show (7 : Nat) ≠ 14 by decide)] at r
        exact r)⟩)) f1
    rw [su_n W 9 g 2 hs, su_n W 10 g (nI b) eb] at hz
    rw [hE, su_comm W j g v (nI q) (show (14 : Nat) ≠ 11 by decide)]
    refine RI_14 hz (Or.inr (fun k hk ha e => ?_))
    by_cases hkg : k = g
    · subst hkg
      rw [su_s] at e
      exact hqj ((nI_eq (by omega) (by omega)).mp e)
    · unfold act at ha
      rw [su_f _ _ _ _ (by decide)] at ha
      rw [su_k _ _ _ hkg] at e
      rcases ha with ha | ha
      · exact hord k hk ha e
      · exact hkg (hu k hk ⟨ha, e⟩)
theorem fgiveb_r {n : Nat} {f j : Nat} (x : Sg) (g : Nat) (h : j ≠ g) (h12 : f ≠ 12) (h15 : f ≠ 15) : fgiveb n x g f j = x f j := by
  simp [fgiveb, pif_ap2, fsend_f, h12, h15, su_r _ _ _ _ h, fdrop_r _ _ _ h, pif_s]
theorem fgived_r {n : Nat} {f j : Nat} (x : Sg) (g : Nat) (h : j ≠ g) : fgived n x g f j = x f j := by
  simp [fgived, pif_ap2, su_r _ _ _ _ h, fdrop_r _ _ _ h, pif_s]
