/-! PURE ROWS out of whole (what the model's methods do, as functions): they serve the states that calls lead to -/
def allb (P : Nat → Prop) : Nat → Prop | 0 => True | k + 1 => allb P k ∧ P k
def exb (P : Nat → Prop) : Nat → Prop | 0 => False | k + 1 => exb P k ∨ P k
theorem allb_iff {P : Nat → Prop} {n : Nat} : allb P n ↔ ∀ k, k < n → P k := by
  induction n with
  | zero => exact ⟨fun _ k h => absurd h (Nat.not_lt_zero k), fun _ => trivial⟩
  | succ n ih =>
    constructor
    · intro h k hk
      rcases Nat.lt_succ_iff_lt_or_eq.mp hk with h1 | rfl
      · exact ih.mp h.1 k h1
      · exact h.2
    · exact fun h => ⟨ih.mpr (fun k hk => h k (Nat.lt_succ_of_lt hk)), h n (Nat.lt_succ_self n)⟩
theorem exb_iff {P : Nat → Prop} {n : Nat} : exb P n ↔ ∃ k, k < n ∧ P k := by
  induction n with
  | zero => exact ⟨fun h => h.elim, fun ⟨k, h, _⟩ => absurd h (Nat.not_lt_zero k)⟩
  | succ n ih =>
    constructor
    · rintro (h | h)
      · obtain ⟨k, h1, h2⟩ := ih.mp h
        exact ⟨k, Nat.lt_succ_of_lt h1, h2⟩
      · exact ⟨n, Nat.lt_succ_self n, h⟩
    · rintro ⟨k, h1, h2⟩
      rcases Nat.lt_succ_iff_lt_or_eq.mp h1 with h | rfl
      · exact Or.inl (ih.mpr ⟨k, h, h2⟩)
      · exact Or.inr h2
def sumG (a : Int32) (g : Nat → Int32) : Nat → Int32 | 0 => a | k + 1 => sumG a g k + g k
def wkd (x : Sg) (k : Nat) : Prop := x 9 k = 1 ∨ x 9 k = 2 ∨ x 9 k = 3
def inr (a b v : Int32) : Prop := ¬ v < a ∧ ¬ b < v
def mbA (n : Nat) (x : Sg) (b r : Nat) : Prop := x 13 b = 0 ∧ ¬ x 12 b - fprom n x (nI b) < x 8 r
def mbP (x : Sg) (b r q : Nat) : Prop := ¬ ((¬ q = r ∧ x 10 q = nI b ∧ (x 9 q = 1 ∨ x 9 q = 2)) ∧ x 6 q < x 7 r ∧ x 6 r < x 7 q)
def mbK (n : Nat) (x : Sg) (b r k : Nat) : Prop := mbA n x b r ∧ allb (mbP x b r) k
def mbf (n : Nat) (x : Sg) (b r : Nat) : Prop := mbK n x b r n
def mdQ (x : Sg) (d r q : Nat) : Prop := ¬ q = r ∧ x 11 q = nI d ∧ wkd x q ∧ x 6 q / 1440 = x 6 r / 1440
def mdR (x : Sg) (r q : Nat) : Prop := ¬ x 6 r < x 7 q + 30 ∨ ¬ x 6 q < x 7 r + 30
def mdP (x : Sg) (d r q : Nat) : Prop := mdQ x d r q → mdR x r q
def mdK (x : Sg) (d r k : Nat) : Prop := x 14 d = 0 ∧ allb (mdP x d r) k
noncomputable def mdG (x : Sg) (d r q : Nat) : Int32 := pif (mdQ x d r q) (x 7 q - x 6 q) 0
def mdf (n : Nat) (x : Sg) (d r : Nat) : Prop := mdK x d r n ∧ ¬ 480 < sumG (x 7 r - x 6 r) (mdG x d r) n
def mgo (x : Sg) (b : Int32) (q : Nat) : Prop := x 9 q = 2 ∧ x 10 q = b
noncomputable def gmin (x : Sg) (d day : Int32) (k : Nat) : Int32 := pif (x 11 k = d ∧ wkd x k ∧ x 6 k / 1440 = day) (x 7 k - x 6 k) 0
theorem su_id (x : Sg) (f k : Nat) : su x f k (x f k) = x := su_n x f k _ rfl
theorem su_su (x : Sg) (f k : Nat) (v v' : Int32) : su (su x f k v) f k v' = su x f k v' := by
  funext a b
  unfold su
  split
  · split
    · rfl
    · rfl
  · rfl
theorem nneg : (-1 : Int32) < 0 := by decide
def mfree (x : Sg) (r : Nat) : Sg := su (su x 10 r (-1)) 11 r (-1)
noncomputable def srel (b d : Int32) (k : Nat) (y : Sg) : Sg := pif ((y 10 k = b ∨ y 11 k = d) ∧ y 9 k = 1) (fdrop y k 0) y
noncomputable def goF (b d : Int32) (x : Sg) : Nat → Int32 | 0 => -1 | k + 1 => pif ((it (srel b d) k x 10 k = b ∨ it (srel b d) k x 11 k = d) ∧ it (srel b d) k x 9 k = 2) (nI k) (goF b d x k)
theorem goF_or (b d : Int32) (x : Sg) (n : Nat) : goF b d x n = -1 ∨ ∃ g, g < n ∧ goF b d x n = nI g := by
  induction n with
  | zero => exact Or.inl rfl
  | succ n ih =>
    show pif _ _ _ = _ ∨ ∃ g, g < n + 1 ∧ pif _ _ _ = _
    by_cases h : (it (srel b d) n x 10 n = b ∨ it (srel b d) n x 11 n = d) ∧ it (srel b d) n x 9 n = 2
    · rw [pif_t h]
      exact Or.inr ⟨n, Nat.lt_succ_self n, rfl⟩
    · rw [pif_f h]
      rcases ih with h1 | ⟨g, h1, h2⟩
      · exact Or.inl h1
      · exact Or.inr ⟨g, Nat.lt_succ_of_lt h1, h2⟩
theorem srel_f {f k : Nat} (b d : Int32) (c : Nat) (y : Sg) (h9 : f ≠ 9) (h10 : f ≠ 10) (h11 : f ≠ 11) : srel b d c y f k = y f k := by simp [srel, pif_ap2, fdrop_f, h9, h10, h11, pif_s]
/-- a run that is ORDERED has a bus; what is at a charger is a bus -/
def okB (n : Nat) (y : Sg) : Prop := ∀ k, k < n → y 9 k = 1 → ∃ b, b < 5 ∧ y 10 k = nI b
def okP (y : Sg) : Prop := ∀ c, c < 2 → y 15 c = -1 ∨ ∃ b, b < 5 ∧ y 15 c = nI b
theorem it_row {g : Nat → Sg → Sg} {f : Nat} (h : ∀ c y j, j ≠ c → g c y f j = y f j) (x : Sg) {k j : Nat} (hj : k ≤ j) : it g k x f j = x f j := by
  induction k with
  | zero => rfl
  | succ k ih =>
    show g k (it g k x) f j = x f j
    rw [h k _ j (by omega)]
    exact ih (by omega)
theorem fdrop_r {f j : Nat} (x : Sg) (k : Nat) (v : Int32) (h : j ≠ k) : fdrop x k v f j = x f j := by
  simp only [fdrop, su]
  split
  · rename_i h1; subst h1; simp [h]
  · split
    · rename_i h1; subst h1; simp [h]
    · split
      · rename_i h1; subst h1; simp [h]
      · rfl
theorem su_r {f' j : Nat} (x : Sg) (f k : Nat) (v : Int32) (h : j ≠ k) : su x f k v f' j = x f' j := by
  simp only [su]
  split
  · simp [h]
  · rfl
theorem sstart_r {f j : Nat} (c : Nat) (y : Sg) (hj : j ≠ c) (h12 : f ≠ 12) (h15 : f ≠ 15) : sstart c y f j = y f j := by
  simp [sstart, fstart, pif_ap2, fsend_f, h12, h15, su_r _ _ _ _ hj, fdrop_r _ _ _ hj, pif_s]
theorem send__r {f j : Nat} (c : Nat) (y : Sg) (hj : j ≠ c) : send_ c y f j = y f j := by
  simp [send_, pif_ap2, su_r _ _ _ _ hj, pif_s]
theorem inr_ix {N : Nat} {v b : Int32} (hN : N < 2 ^ 31) (hb : b = nI N) (h : inr 0 b v) : ∃ j, j ≤ N ∧ v = nI j := by
  subst hb
  exact ix_exr hN h.1 h.2
theorem inr_run {n : Nat} {v : Int32} (hn : n ≤ 1000) (h : inr 0 (nI n - 1) v) : ∃ j, j < n ∧ v = nI j := by
  cases n with
  | zero =>
    obtain ⟨h1, h2⟩ := h
    refine absurd ?_ h2
    rw [show nI 0 - 1 = (-1 : Int32) by decide]
    rw [Int32.lt_iff_toInt_lt] at h1 ⊢
    rw [show (0 : Int32).toInt = 0 by decide] at h1
    rw [show (-1 : Int32).toInt = -1 by decide]
    omega
  | succ n =>
    rw [nI_pred] at h
    obtain ⟨j, h1, h2⟩ := inr_ix (by omega) rfl h
    exact ⟨j, by omega, h2⟩
theorem okB_f {n : Nat} {x y : Sg} (h9 : ∀ k, k < n → y 9 k = 1 → x 9 k = 1 ∧ y 10 k = x 10 k) (h : okB n x) : okB n y := fun k hk e => by
  obtain ⟨e1, e2⟩ := h9 k hk e
  obtain ⟨b, hb, e3⟩ := h k hk e1
  exact ⟨b, hb, e2.trans e3⟩
theorem okP_f {x y : Sg} (h : ∀ c, c < 2 → y 15 c = x 15 c ∨ y 15 c = -1) (hx : okP x) : okP y := fun c hc => by
  rcases h c hc with e | e
  · rw [e]; exact hx c hc
  · exact Or.inl e
theorem send_1 {Y : Sg} {j : Nat} (e1 : send_ j Y 9 j = 1) : Y 9 j = 1 := by
  unfold send_ at e1
  by_cases hc : Y 9 j = 2 ∧ Y 7 j = Y 0 0
  · rw [pif_t hc, su_s] at e1; exact absurd e1 (by decide)
  · rw [pif_f hc] at e1; exact e1
theorem sstart_1 {Y : Sg} {j : Nat} (e1 : sstart j Y 9 j = 1) : Y 9 j = 1 ∧ sstart j Y 10 j = Y 10 j := by
  unfold sstart fstart at e1 ⊢
  by_cases h1 : Y 6 j = Y 0 0
  · rw [pif_t h1] at e1 ⊢
    by_cases h2 : Y 9 j = 1
    · rw [pif_t h2, fsend_f _ _ _ (by decide) (by decide), su_s] at e1
      exact absurd e1 (by decide)
    · rw [pif_f h2] at e1 ⊢
      by_cases h3 : Y 9 j = 0
      · rw [pif_t h3] at e1
        simp [fdrop, su] at e1
      · rw [pif_f h3] at e1
        exact absurd e1 h2
  · rw [pif_f h1] at e1 ⊢
    exact ⟨e1, rfl⟩
theorem okB_send {n : Nat} {x : Sg} (h : okB n x) : ∀ k, okB n (it send_ k x) := by
  intro k
  induction k with
  | zero => exact h
  | succ k ih =>
    refine okB_f (x := it send_ k x) (fun j hj e => ?_) ih
    show _ ∧ send_ k (it send_ k x) 10 j = _
    rw [send__f _ _ (by decide)]
    refine ⟨?_, rfl⟩
    have e1 : send_ k (it send_ k x) 9 j = 1 := e
    by_cases hjk : j = k
    · subst hjk
      exact send_1 e1
    · rw [send__r _ _ hjk] at e1; exact e1
theorem okB_load {n : Nat} {x : Sg} (h : okB n x) (v : Int32) : okB n (su (it sload 2 x) 0 0 v) := okB_f (x := x) (fun j hj e => by
  rw [su_f _ _ _ _ (by decide), it_f (fun c y => sload_f c y (by decide))] at e
  rw [su_f _ _ _ _ (by decide), it_f (fun c y => sload_f c y (by decide))]
  exact ⟨e, rfl⟩) h
theorem fsend_okP {x : Sg} (b q : Int32) (c : Nat) : fsend x b q 15 c = x 15 c ∨ fsend x b q 15 c = -1 := by
  have hu : ∀ y : Sg, funplug y b 15 c = y 15 c ∨ funplug y b 15 c = -1 := fun y => by
    have st : ∀ k (z : Sg), sunplug b k z 15 c = z 15 c ∨ sunplug b k z 15 c = -1 := fun k z => by
      unfold sunplug
      refine pif_ap _ _ _ (fun (t : Sg) => t 15 c = z 15 c ∨ t 15 c = -1) (fun h => ?_) (fun _ => Or.inl rfl)
      by_cases hc : c = k
      · subst hc; exact Or.inr (su_s _ _ _ _)
      · exact Or.inl (su_k _ _ _ hc)
    show sunplug b 1 (sunplug b 0 y) 15 c = _ ∨ _
    rcases st 1 (sunplug b 0 y) with e | e
    · rw [show funplug y b 15 c = sunplug b 1 (sunplug b 0 y) 15 c from rfl, e]; exact st 0 y
    · exact Or.inr e
  unfold fsend
  refine pif_ap _ _ _ (fun (t : Sg) => t 15 c = x 15 c ∨ t 15 c = -1) (fun _ => ?_) (fun _ => Or.inl rfl)
  have := hu (su x 12 b.toNatClampNeg (x 12 b.toNatClampNeg - q))
  rw [su_f _ _ _ _ (by decide : (15 : Nat) ≠ 12)] at this
  exact this
theorem sstart_okP {y : Sg} (k c : Nat) : sstart k y 15 c = y 15 c ∨ sstart k y 15 c = -1 := by
  unfold sstart fstart
  refine pif_ap _ _ _ (fun (t : Sg) => t 15 c = y 15 c ∨ t 15 c = -1) (fun _ => ?_) (fun _ => Or.inl rfl)
  refine pif_ap _ _ _ (fun (t : Sg) => t 15 c = y 15 c ∨ t 15 c = -1) (fun _ => ?_) (fun _ => ?_)
  · have := fsend_okP (x := su y 9 k 2) (y 10 k) (y 8 k) c
    rw [su_f _ _ _ _ (by decide : (15 : Nat) ≠ 9)] at this
    exact this
  · refine pif_ap _ _ _ (fun (t : Sg) => t 15 c = y 15 c ∨ t 15 c = -1) (fun _ => ?_) (fun _ => Or.inl rfl)
    exact Or.inl (fdrop_f _ _ _ (by decide) (by decide) (by decide))
theorem okP_start {x : Sg} (h : okP x) : ∀ k, okP (it sstart k x) := by
  intro k
  induction k with
  | zero => exact h
  | succ k ih => exact okP_f (x := it sstart k x) (fun c _ => sstart_okP k c) ih
theorem sstart_okB {n : Nat} {x : Sg} (h : okB n x) : ∀ k, okB n (it sstart k x) := by
  intro k
  induction k with
  | zero => exact h
  | succ k ih =>
    refine okB_f (x := it sstart k x) (fun j hj e => ?_) ih
    have e1 : sstart k (it sstart k x) 9 j = 1 := e
    show _ ∧ sstart k (it sstart k x) 10 j = _
    by_cases hjk : j = k
    · subst hjk
      exact sstart_1 e1
    · rw [sstart_r _ _ hjk (by decide) (by decide)] at e1 ⊢
      exact ⟨e1, rfl⟩
theorem okP_min {n : Nat} {x : Sg} (h : okP x) : okP (fminute n x) := okP_start (okP_f (x := x) (fun c _ => Or.inl (by
  rw [it_f (fun c y => send__f c y (by decide)), su_f _ _ _ _ (by decide), it_f (fun c y => sload_f c y (by decide))])) h) n
theorem okB_min {n : Nat} {x : Sg} (h : okB n x) : okB n (fminute n x) := sstart_okB (okB_send (okB_load h _) n) n
theorem okP_mins {n : Nat} {x : Sg} (h : okP x) (k : Nat) : okP (it (fun _ => fminute n) k x) := it_inv _ okP k x h (fun _ _ _ hy => okP_min hy)
theorem okB_mins {n : Nat} {x : Sg} (h : okB n x) (k : Nat) : okB n (it (fun _ => fminute n) k x) := it_inv _ (okB n) k x h (fun _ _ _ hy => okB_min hy)
theorem fprom_5 (n : Nat) (x : Sg) (v b : Int32) : fprom n (su x 5 0 v) b = fprom n x b := sumF_c (fun k _ => by simp [gprom, su])
theorem gmin_5 (n : Nat) (x : Sg) (v d day : Int32) : sumF (gmin (su x 5 0 v) d day) n = sumF (gmin x d day) n := sumF_c (fun k _ => by simp [gmin, wkd, su])
theorem add1_1 (a : Int32) : a + 1 - 1 = a := by rw [Int32.add_sub_cancel]
def mokrun (x : Sg) (st mi q : Int32) : Prop := inr (x 0 0 + 1) 20000 st ∧ inr 1 600 mi ∧ ¬ 1440 < st - st / 1440 * 1440 + mi ∧ inr 0 100 q
noncomputable def mcrun (x : Sg) (st mi q : Int32) : Int32 := pif (mokrun x st mi q) (pif (x 1 0 = 30) 2 0) 1
def mrun (n : Nat) (y : Sg) (st mi q : Int32) : Sg := su (mfree (su (su (su (su y 6 n st) 7 n (st + mi)) 8 n q) 9 n 0) n) 1 0 (y 1 0 + 1)
noncomputable def mclead (d mi : Int32) : Int32 := pif (inr 0 1 d) (pif (inr 1 1000 mi) 0 2) 1
noncomputable def mlead (x : Sg) (d mi : Int32) : Sg := pif (inr 0 1 d ∧ inr 1 1000 mi) (fleads (su x 5 0 0) d mi) (su x 5 0 (mclead d mi))
noncomputable def mclplug (n : Nat) (x : Sg) (b ch : Int32) : Int32 := pif (inr 0 4 b ∧ inr 0 1 ch) (pif (under n x b) 2 0) 1
noncomputable def mplug (n : Nat) (x : Sg) (b ch : Int32) : Sg := pif (inr 0 4 b ∧ inr 0 1 ch ∧ ¬ under n x b) (fplug (su x 5 0 0) b ch) (su x 5 0 (mclplug n x b ch))
noncomputable def mcadv (x : Sg) (mi : Int32) : Int32 := pif (inr 1 1000 mi) (pif (30000 < x 0 0 + mi) 2 0) 1
noncomputable def madv (n : Nat) (x : Sg) (mi : Int32) : Sg := pif (inr 1 1000 mi ∧ ¬ 30000 < x 0 0 + mi) (fadv n (su x 5 0 0) mi) (su x 5 0 (mcadv x mi))
noncomputable def mcord (n : Nat) (x : Sg) (dp mk r b d : Int32) : Int32 := pif (inr 0 1 dp ∧ inr 0 (x 1 0 - 1) r ∧ inr 0 4 b ∧ inr 0 4 d) (pif (inr 0 999 mk) (pif (su x 5 0 0 17 mk.toNatClampNeg = -1) (pif (flead (su x 5 0 0) = dp ∧ su x 5 0 0 9 r.toNatClampNeg = 0 ∧ su x 5 0 0 0 0 < su x 5 0 0 6 r.toNatClampNeg ∧ mbf n (su x 5 0 0) b.toNatClampNeg r.toNatClampNeg ∧ mdf n (su x 5 0 0) d.toNatClampNeg r.toNatClampNeg) 0 3) 0) 2) 1
noncomputable def mord (n om : Nat) (x : Sg) (dp mk r b d : Int32) : Sg := pif (mcord n x dp mk r b d = 0) (forder om (su x 5 0 0) mk r b d) (su x 5 0 (mcord n x dp mk r b d))
noncomputable def mlowb (n : Nat) (y : Sg) (g : Nat) : Int32 := lowF (fun q => mbf n y q g) 5 0
noncomputable def mlowd (n : Nat) (y : Sg) (g : Nat) : Int32 := lowF (fun q => mdf n y q g) 5 0
noncomputable def mgiveb (n : Nat) (y : Sg) (g : Nat) : Sg := pif (mlowb n y g = -1) (fdrop y g 4) (funplug (su (su y 10 g (mlowb n y g)) 12 (mlowb n y g).toNatClampNeg (su y 10 g (mlowb n y g) 12 (mlowb n y g).toNatClampNeg - su y 10 g (mlowb n y g) 8 g)) (mlowb n y g))
noncomputable def mgived (n : Nat) (y : Sg) (g : Nat) : Sg := pif (mlowd n y g = -1) (fdrop y g 4) (su y 11 g (mlowd n y g))
noncomputable def mgob (n : Nat) (y : Sg) (g : Int32) : Sg := pif (g = -1) y (mgiveb n y g.toNatClampNeg)
noncomputable def mgod (n : Nat) (y : Sg) (g : Int32) : Sg := pif (g = -1) y (mgived n y g.toNatClampNeg)
noncomputable def mbrk (n : Nat) (z : Sg) (b v : Int32) : Sg := pif (v = 0) (su z 13 b.toNatClampNeg v) (mgob n (it (srel b 6) n (funplug (su z 13 b.toNatClampNeg v) b)) (goF b 6 (funplug (su z 13 b.toNatClampNeg v) b) n))
noncomputable def mail (n : Nat) (z : Sg) (d v : Int32) : Sg := pif (v = 0 ∨ ¬ z 14 d.toNatClampNeg = 0) (su z 14 d.toNatClampNeg v) (mgod n (it (srel 6 d) n (su z 14 d.toNatClampNeg v)) (goF 6 d (su z 14 d.toNatClampNeg v) n))
theorem s5_0 (x : Sg) (k : Nat) (v : Int32) : su x 5 0 v 0 k = x 0 k := rfl
theorem s5_6 (x : Sg) (k : Nat) (v : Int32) : su x 5 0 v 6 k = x 6 k := rfl
theorem s5_9 (x : Sg) (k : Nat) (v : Int32) : su x 5 0 v 9 k = x 9 k := rfl
theorem s5_17 (x : Sg) (k : Nat) (v : Int32) : su x 5 0 v 17 k = x 17 k := rfl
def oc {α : Type} (xo : Option String) (a b : α) : α := match xo with | none => a | some _ => b
/-- an exception's number among the classes ls -/
def cd (ls : List String) : Option String → Int32 | none => 0 | some E => nI (ls.idxOf E + 1)
noncomputable def bL (r : Int32) : Int64 := pif (r = 0) 0 1
