/-! MINUTES AT ONCE: what loads in d minutes, and that minutes in which nothing starts or ends load alone -/
theorem ofI {n : Int} (h1 : -2147483648 ≤ n) (h2 : n < 2147483648) : (Int32.ofInt n).toInt = n := Int32.toInt_ofInt_of_le (by omega) (by omega)
def capI (v : Int32) (d : Nat) : Int32 := Int32.ofInt (min 100 (v.toInt + d))
theorem capI_t (v : Int32) (d : Nat) : (capI v d).toInt = min 100 (v.toInt + d) := by
  have := Int32.le_toInt v
  exact ofI (by omega) (by omega)
theorem capI_0 {v : Int32} (h : v.toInt ≤ 100) : capI v 0 = v := by
  apply Int32.toInt_inj.mp
  rw [capI_t]
  omega
theorem capI_a (v : Int32) (d e : Nat) : capI (capI v d) e = capI v (d + e) := by
  apply Int32.toInt_inj.mp
  rw [capI_t, capI_t, capI_t]
  omega
theorem t100 : (100 : Int32).toInt = 100 := by decide
theorem cap_1 {v : Int32} (h : v.toInt ≤ 100) (hl : v < 100) : v + 1 = capI v 1 := by
  apply Int32.toInt_inj.mp
  have h1 := Int32.le_toInt v
  have h2 := Int32.lt_iff_toInt_lt.mp hl
  rw [t100] at h2
  rw [capI_t, Int32.toInt_add, show (1 : Int32).toInt = 1 by decide, Int.bmod_eq_of_le (by omega) (by omega)]
  omega
theorem cap_n {v : Int32} (h : v.toInt ≤ 100) (hl : ¬ v < 100) : v = capI v 1 := by
  apply Int32.toInt_inj.mp
  have h2 : ¬ v.toInt < 100 := fun q => hl (Int32.lt_iff_toInt_lt.mpr (by rw [t100]; exact q))
  rw [capI_t]
  omega
theorem cap_q {v : Int32} {t q : Nat} (h : v.toInt ≤ 100) (htq : t ≤ q) (hq : q ≤ 40000) : pif (100 < v + nI q - nI t) 100 (v + nI q - nI t) = capI v (q - t) := by
  have h1 := Int32.le_toInt v
  have e : (v + nI q - nI t).toInt = v.toInt + ((q - t : Nat) : Int) := by
    have e2 : v + nI q - nI t = v + nI (q - t) := by
      have e3 : nI q = nI (q - t) + nI t := by rw [nI_add]; congr 1; omega
      rw [e3, ← Int32.add_assoc, Int32.add_sub_cancel]
    rw [e2, Int32.toInt_add, nI_toInt (by omega), Int.bmod_eq_of_le (by omega) (by omega)]
  have e4 : (100 < v + nI q - nI t) ↔ 100 < v.toInt + ((q - t : Nat) : Int) := by rw [Int32.lt_iff_toInt_lt, e, t100]
  apply Int32.toInt_inj.mp
  rw [capI_t]
  by_cases hc : 100 < v.toInt + ((q - t : Nat) : Int)
  · rw [pif_t (e4.mpr hc), t100]; omega
  · rw [pif_f (fun z => hc (e4.mp z)), e]; omega
noncomputable def lcap (c d : Nat) (y : Sg) : Sg := pif (¬ y 15 c < 0) (su y 12 (y 15 c).toNatClampNeg (capI (y 12 (y 15 c).toNatClampNeg) d)) y
noncomputable def lload (t q : Int32) (c : Nat) (y : Sg) : Sg := pif (¬ y 15 c < 0) (su y 12 (y 15 c).toNatClampNeg (pif (100 < y 12 (y 15 c).toNatClampNeg + q - t) 100 (y 12 (y 15 c).toNatClampNeg + q - t))) y
def c100 (y : Sg) : Prop := ∀ b, b < 5 → (y 12 b).toInt ≤ 100
theorem lcap_f {f k : Nat} (c d : Nat) (y : Sg) (h : f ≠ 12) : lcap c d y f k = y f k := by simp [lcap, pif_ap2, su_f, h, pif_s]
theorem lload_f {f k : Nat} (t q : Int32) (c : Nat) (y : Sg) (h : f ≠ 12) : lload t q c y f k = y f k := by simp [lload, pif_ap2, su_f, h, pif_s]
theorem okP_lt {y : Sg} (h : okP y) {c : Nat} (hc : c < 2) : y 15 c < nI 5 := by
  rcases h c hc with q | ⟨b, hb, q⟩
  · rw [q]; decide
  · rw [q]; exact (nI_ltI (by omega) (by decide)).mpr hb
theorem okP_ix {y : Sg} (h : okP y) {c : Nat} (hc : c < 2) (hn : ¬ y 15 c < 0) : ∃ b, b < 5 ∧ y 15 c = nI b ∧ (y 15 c).toNatClampNeg = b := by
  rcases h c hc with q | ⟨b, hb, q⟩
  · rw [q] at hn; exact absurd nneg hn
  · exact ⟨b, hb, q, by rw [q]; exact nI_clamp (by omega)⟩
theorem lcap_okP {c d : Nat} {y : Sg} (h : okP y) : okP (lcap c d y) := okP_f (x := y) (fun k _ => Or.inl (lcap_f _ _ _ (by decide))) h
theorem lcap_100 {c d : Nat} {y : Sg} (h : c100 y) : c100 (lcap c d y) := fun b hb => by
  unfold lcap
  by_cases hn : ¬ y 15 c < 0
  · rw [pif_t hn]
    by_cases e : b = (y 15 c).toNatClampNeg
    · rw [← e, su_s, capI_t]; omega
    · rw [su_k _ _ _ e]; exact h b hb
  · rw [pif_f hn]; exact h b hb
theorem lcap_0 {c : Nat} {y : Sg} (hP : okP y) (hc : c < 2) (h : c100 y) : lcap c 0 y = y := by
  unfold lcap
  by_cases hn : ¬ y 15 c < 0
  · obtain ⟨b, hb, e1, e2⟩ := okP_ix hP hc hn
    rw [pif_t hn, e2, capI_0 (h b hb), su_id]
  · rw [pif_f hn]
theorem sload_cap {c : Nat} {y : Sg} (hP : okP y) (hc : c < 2) (h : c100 y) : sload c y = lcap c 1 y := by
  unfold sload lcap
  by_cases hn : ¬ y 15 c < 0
  · obtain ⟨b, hb, e1, e2⟩ := okP_ix hP hc hn
    rw [pif_t hn, e2]
    have h5 : y 15 c < 5 := okP_lt hP hc
    by_cases hl : y 12 b < 100
    · rw [pif_t ⟨hn, h5, hl⟩, cap_1 (h b hb) hl]
    · rw [pif_f (fun z => hl z.2.2), ← cap_n (h b hb) hl, su_id]
  · rw [pif_f hn, pif_f (fun z => hn z.1)]
theorem lload_cap {c t q : Nat} {y : Sg} (hP : okP y) (hc : c < 2) (h : c100 y) (htq : t ≤ q) (hq : q ≤ 40000) : lload (nI t) (nI q) c y = lcap c (q - t) y := by
  unfold lload lcap
  by_cases hn : ¬ y 15 c < 0
  · obtain ⟨b, hb, e1, e2⟩ := okP_ix hP hc hn
    rw [pif_t hn, pif_t hn, e2, cap_q (h b hb) htq hq]
  · rw [pif_f hn, pif_f hn]
theorem lcap_cap (c d e : Nat) (y : Sg) : lcap c d (lcap c e y) = lcap c (e + d) y := by
  by_cases hn : ¬ y 15 c < 0
  · have e1 : lcap c e y = su y 12 (y 15 c).toNatClampNeg (capI (y 12 (y 15 c).toNatClampNeg) e) := pif_t hn
    have e2 : lcap c (e + d) y = su y 12 (y 15 c).toNatClampNeg (capI (y 12 (y 15 c).toNatClampNeg) (e + d)) := pif_t hn
    rw [e1, e2]
    unfold lcap
    rw [su_f _ _ _ _ (show 15 ≠ 12 by decide), pif_t hn, su_s, su_su, capI_a]
  · have e1 : ∀ d, lcap c d y = y := fun d => pif_f hn
    rw [e1, e1, e1]
theorem su_commk (x : Sg) (f : Nat) {k k' : Nat} (v v' : Int32) (h : k ≠ k') : su (su x f k v) f k' v' = su (su x f k' v') f k v := by
  funext a b
  unfold su
  by_cases ha : a = f
  · by_cases hb : b = k
    · have : b ≠ k' := fun z => h (hb ▸ z)
      simp [ha, hb, h]
    · by_cases hb2 : b = k' <;> simp [ha, hb, hb2, h, Ne.symm h]
  · simp [ha]
theorem lcap_comm (c d c' e : Nat) (y : Sg) : lcap c d (lcap c' e y) = lcap c' e (lcap c d y) := by
  by_cases hn : ¬ y 15 c < 0
  · by_cases hm : ¬ y 15 c' < 0
    · have a1 : lcap c d y = su y 12 (y 15 c).toNatClampNeg (capI (y 12 (y 15 c).toNatClampNeg) d) := pif_t hn
      have a2 : lcap c' e y = su y 12 (y 15 c').toNatClampNeg (capI (y 12 (y 15 c').toNatClampNeg) e) := pif_t hm
      rw [a1, a2]
      unfold lcap
      rw [su_f _ _ _ _ (show 15 ≠ 12 by decide), su_f _ _ _ _ (show 15 ≠ 12 by decide), pif_t hn, pif_t hm]
      by_cases hb : (y 15 c).toNatClampNeg = (y 15 c').toNatClampNeg
      · rw [hb, su_s, su_s, su_su, su_su, capI_a, capI_a, Nat.add_comm]
      · rw [su_k _ _ _ hb, su_k _ _ _ (fun z => hb z.symm), su_commk _ _ _ _ (fun z => hb z.symm)]
    · have a2 : ∀ y', y' 15 c' = y 15 c' → lcap c' e y' = y' := fun y' h => pif_f (by rw [h]; exact hm)
      rw [a2 y rfl, a2 _ (lcap_f _ _ _ (by decide))]
  · have a2 : ∀ y', y' 15 c = y 15 c → lcap c d y' = y' := fun y' h => pif_f (by rw [h]; exact hn)
    rw [a2 y rfl, a2 _ (lcap_f _ _ _ (by decide))]
theorem lcap_su0 (c d : Nat) (y : Sg) (v : Int32) : lcap c d (su y 0 0 v) = su (lcap c d y) 0 0 v := by
  unfold lcap
  rw [su_f _ _ _ _ (show 15 ≠ 0 by decide), su_f _ _ _ _ (show 12 ≠ 0 by decide)]
  by_cases hn : ¬ y 15 c < 0
  · rw [pif_t hn, pif_t hn, su_comm _ _ _ _ _ (show 0 ≠ 12 by decide)]
  · rw [pif_f hn, pif_f hn]
noncomputable def LD (d : Nat) (x : Sg) : Sg := lcap 1 d (lcap 0 d x)
theorem LD_f {f k : Nat} (d : Nat) (x : Sg) (h : f ≠ 12) : LD d x f k = x f k := by unfold LD; rw [lcap_f _ _ _ h, lcap_f _ _ _ h]
theorem LD_okP {d : Nat} {x : Sg} (h : okP x) : okP (LD d x) := lcap_okP (lcap_okP h)
theorem LD_100 {d : Nat} {x : Sg} (h : c100 x) : c100 (LD d x) := lcap_100 (lcap_100 h)
theorem LD_s {x : Sg} (hP : okP x) (h : c100 x) (d : Nat) (v : Int32) : it sload 2 (su (LD d x) 0 0 v) = su (LD (d + 1) x) 0 0 v := by
  have k1 : okP (su (LD d x) 0 0 v) := okP_f (x := LD d x) (fun c _ => Or.inl (su_f _ _ _ _ (by decide))) (LD_okP hP)
  have k2 : c100 (su (LD d x) 0 0 v) := fun b hb => by rw [su_f _ _ _ _ (by decide)]; exact LD_100 h b hb
  show sload 1 (sload 0 (su (LD d x) 0 0 v)) = _
  rw [sload_cap k1 (by decide) k2, sload_cap (lcap_okP k1) (by decide) (lcap_100 k2), lcap_su0, lcap_su0]
  unfold LD
  rw [lcap_comm 0 1 1 d, lcap_cap, lcap_cap]
theorem LD_l {x : Sg} (hP : okP x) (h : c100 x) {t q : Nat} (htq : t ≤ q) (hq : q ≤ 40000) : it (lload (nI t) (nI q)) 2 x = LD (q - t) x := by
  show lload (nI t) (nI q) 1 (lload (nI t) (nI q) 0 x) = _
  rw [lload_cap hP (by decide) h htq hq, lload_cap (lcap_okP hP) (by decide) (lcap_100 h) htq hq]
  rfl
theorem fmin_LD {n : Nat} {x : Sg} (hP : okP x) (h : c100 x) (d v : Nat) : fminute n (su (LD d x) 0 0 (nI v)) = it sstart n (it send_ n (su (LD (d + 1) x) 0 0 (nI (v + 1)))) := by
  unfold fminute
  rw [LD_s hP h, su_s, su_su, nI_1]
theorem quiet {n t : Nat} {x : Sg} (hP : okP x) (h : c100 x) (h0 : x 0 0 = nI t) : ∀ d, (∀ k m, k < n → t < m → m ≤ t + d → ¬ x 6 k = nI m ∧ ¬ x 7 k = nI m) → it (fun _ => fminute n) d x = su (LD d x) 0 0 (nI (t + d)) := by
  intro d
  induction d with
  | zero =>
    intro _
    show x = su (lcap 1 0 (lcap 0 0 x)) 0 0 (nI t)
    rw [lcap_0 hP (by decide) h, lcap_0 hP (by decide) h, su_n _ _ _ _ h0]
  | succ d ih =>
    intro hno
    show fminute n (it (fun _ => fminute n) d x) = _
    rw [ih (fun k m hk h1 h2 => hno k m hk h1 (by omega)), fmin_LD hP h]
    have e1 : it send_ n (su (LD (d + 1) x) 0 0 (nI (t + d + 1))) = su (LD (d + 1) x) 0 0 (nI (t + d + 1)) := it_id (fun k hk => by
      unfold send_
      rw [pif_f]
      intro q
      have := q.2
      rw [su_s, su_f _ _ _ _ (show 7 ≠ 0 by decide), LD_f _ _ (by decide)] at this
      exact (hno k (t + d + 1) hk (by omega) (by omega)).2 this)
    rw [e1]
    exact it_id (fun k hk => by
      refine sstart_no (fun q => ?_)
      rw [su_s, su_f _ _ _ _ (show 6 ≠ 0 by decide), LD_f _ _ (by decide)] at q
      exact (hno k (t + d + 1) hk (by omega) (by omega)).1 q)
theorem lround_eq {n t q : Nat} {x : Sg} (hP : okP x) (h : c100 x) (h0 : x 0 0 = nI t) (htq : t < q) (hq : q ≤ 40000) (hno : ∀ k m, k < n → t < m → m < q → ¬ x 6 k = nI m ∧ ¬ x 7 k = nI m) : it sstart n (it send_ n (su (it (lload (nI t) (nI q)) 2 x) 0 0 (nI q))) = it (fun _ => fminute n) (q - t) x := by
  have e : q - t = (q - t - 1) + 1 := by omega
  rw [LD_l hP h (by omega) hq, e]
  show _ = fminute n (it (fun _ => fminute n) (q - t - 1) x)
  rw [quiet hP h h0 (q - t - 1) (fun k m hk h1 h2 => hno k m hk h1 (by omega)), fmin_LD hP h, show t + (q - t - 1) + 1 = q by omega, show q - t - 1 + 1 = q - t - 1 + 1 from rfl]
/-! bounds of the charges -/
def nd (n : Nat) (x : Sg) : Prop := ∀ k, k < n → ∃ q : Nat, q ≤ 100 ∧ x 8 k = nI q
def cb (lo : Nat) (x : Sg) : Prop := ∀ b, b < 5 → -(lo : Int) ≤ (x 12 b).toInt ∧ (x 12 b).toInt ≤ 100
theorem cb.c100 {lo : Nat} {x : Sg} (h : cb lo x) : c100 x := fun b hb => (h b hb).2
theorem cb_f {lo : Nat} {x y : Sg} (h : cb lo x) (e : ∀ b, y 12 b = x 12 b) : cb lo y := fun b hb => by rw [e]; exact h b hb
theorem cb_le {lo lo' : Nat} {x : Sg} (h : cb lo x) (e : lo ≤ lo') : cb lo' x := fun b hb => ⟨by have := (h b hb).1; omega, (h b hb).2⟩
theorem nd_f {n : Nat} {x y : Sg} (h : nd n x) (e : ∀ k, y 8 k = x 8 k) : nd n y := fun k hk => by rw [e]; exact h k hk
theorem cb_cap {lo : Nat} {x : Sg} (c d : Nat) (h : cb lo x) : cb lo (lcap c d x) := fun b hb => by
  unfold lcap
  by_cases hn : ¬ x 15 c < 0
  · rw [pif_t hn]
    by_cases e : b = (x 15 c).toNatClampNeg
    · rw [← e, su_s, capI_t]; have := h b hb; omega
    · rw [su_k _ _ _ e]; exact h b hb
  · rw [pif_f hn]; exact h b hb
theorem sub_q {v : Int32} {q lo : Nat} (h1 : -(lo : Int) ≤ v.toInt) (h2 : v.toInt ≤ 100) (hl : lo ≤ 1000000000) (hq : q ≤ 100) : (v - nI q).toInt = v.toInt - q := by
  rw [Int32.toInt_sub, nI_toInt (by omega), Int.bmod_eq_of_le (by omega) (by omega)]
theorem cb_sub {lo b q : Nat} {x : Sg} (h : cb lo x) (hl : lo ≤ 1000000000) (hq : q ≤ 100) : cb (lo + 100) (su x 12 b (x 12 b - nI q)) := fun k hk => by
  by_cases e : k = b
  · subst e
    have := h k hk
    rw [su_s, sub_q this.1 this.2 hl hq]
    omega
  · rw [su_k _ _ _ e]; have := h k hk; omega
theorem cb_send {lo q : Nat} {x : Sg} (h : cb lo x) (hl : lo ≤ 1000000000) (hq : q ≤ 100) (b : Int32) : cb (lo + 100) (fsend x b (nI q)) := by
  unfold fsend
  refine pif_ap _ _ _ (cb (lo + 100)) (fun _ => ?_) (fun _ => cb_le h (by omega))
  exact cb_f (cb_sub h hl hq) (fun k => funplug_f _ _ (by decide))
theorem cb_start {lo n k : Nat} {x : Sg} (h : cb lo x) (hl : lo ≤ 1000000000) (hd : nd n x) (hk : k < n) : cb (lo + 100) (sstart k x) := by
  obtain ⟨q, hq, e⟩ := hd k hk
  unfold sstart fstart
  rw [e]
  refine pif_ap _ _ _ (cb (lo + 100)) (fun _ => ?_) (fun _ => cb_le h (by omega))
  refine pif_ap _ _ _ (cb (lo + 100)) (fun _ => ?_) (fun _ => ?_)
  · exact cb_send (cb_f h (fun k => su_f _ _ _ _ (by decide))) hl hq _
  · refine pif_ap _ _ _ (cb (lo + 100)) (fun _ => ?_) (fun _ => cb_le h (by omega))
    exact cb_le (cb_f h (fun k => fdrop_f _ _ _ (by decide) (by decide) (by decide))) (by omega)
theorem sstart_8 (k : Nat) (x : Sg) (j : Nat) : sstart k x 8 j = x 8 j := sstart_f k x (by decide) (by decide) (by decide) (by decide) (by decide)
theorem cb_starts {lo n : Nat} {x : Sg} (h : cb lo x) (hl : lo ≤ 900000000) (hn : n ≤ 30) (hd : nd n x) : ∀ m, m ≤ n → cb (lo + 100 * m) (it sstart m x) := by
  intro m
  induction m with
  | zero => intro _; exact h
  | succ m ih =>
    intro hm
    exact cb_start (lo := lo + 100 * m) (ih (by omega)) (by omega) (nd_f hd (fun k => it_f (fun c y => sstart_8 c y k) m x)) (by omega)
theorem cb_min {lo n : Nat} {x : Sg} (h : cb lo x) (hl : lo ≤ 900000000) (hP : okP x) (hn : n ≤ 20) (hd : nd n x) : cb (lo + 2000) (fminute n x) := by
  have e : it sload 2 x = lcap 1 1 (lcap 0 1 x) := by
    show sload 1 (sload 0 x) = _
    rw [sload_cap hP (by decide) h.c100, sload_cap (lcap_okP hP) (by decide) (lcap_100 h.c100)]
  unfold fminute
  rw [e]
  refine cb_le (cb_starts (n := n) (cb_f (cb_cap 1 1 (cb_cap 0 1 h)) (fun b => ?_)) hl (by omega) (nd_f hd (fun k => ?_)) n (Nat.le_refl n)) (by omega)
  · rw [it_f (fun c y => send__f c y (by decide)), su_f _ _ _ _ (by decide)]
  · rw [it_f (fun c y => send__f c y (by decide)), su_f _ _ _ _ (by decide), lcap_f _ _ _ (by decide), lcap_f _ _ _ (by decide)]
/-- what holds of a state between minutes; u: how many calls there were -/
def PI (u n t : Nat) (x : Sg) : Prop := x 1 0 = nI n ∧ n ≤ 20 ∧ x 0 0 = nI t ∧ t ≤ 30000 ∧ RI n t x ∧ okP x ∧ nd n x ∧ cb (2000 * (t + u)) x
theorem PI_min {u n t : Nat} {x : Sg} (h : PI u n t x) (hu : u ≤ 1000) (ht : t + 1 ≤ 30000) : PI u n (t + 1) (fminute n x) := by
  obtain ⟨h1, h2, h3, h4, h5, h6, h7, h8⟩ := h
  refine ⟨?_, h2, ?_, ht, RI_min h5 h3 (by omega), okP_min h6, nd_f h7 (fun k => ?_), ?_⟩
  · rw [fminute_f n x (by decide) (by decide) (by decide) (by decide) (by decide) (by decide)]; exact h1
  · rw [fmin_0, h3, nI_1]
  · exact fminute_f n x (by decide) (by decide) (by decide) (by decide) (by decide) (by decide)
  · exact cb_le (cb_min h8 (by omega) h6 h2 h7) (by omega)
theorem PI_mins {u n t : Nat} {x : Sg} (h : PI u n t x) (hu : u ≤ 1000) : ∀ m, t + m ≤ 30000 → PI u n (t + m) (it (fun _ => fminute n) m x) := by
  intro m
  induction m with
  | zero => exact fun _ => h
  | succ m ih => exact fun hm => PI_min (ih (by omega)) hu (by omega)
theorem it_c {f : Sg → Sg} (x : Sg) (a b : Nat) : it (fun _ => f) a (it (fun _ => f) b x) = it (fun _ => f) (b + a) x := by
  induction a with
  | zero => rfl
  | succ a ih => show f (it (fun _ => f) a (it (fun _ => f) b x)) = f (it (fun _ => f) (b + a) x); rw [ih]
/-- the next minute that matters -/
noncomputable def nxt (x : Sg) (t T : Int32) : Nat → Int32 | 0 => T | j + 1 => pif (nI j - nI j / 3 * 3 < 2 ∧ t < rA x j ∧ rA x j < nxt x t T j) (rA x j) (nxt x t T j)
theorem rA_nI {n t j : Nat} {x : Sg} (hr : RI n t x) (hj : j < 3 * n) (hm : j % 3 < 2) : ∃ e, e ≤ 20600 ∧ rA x j = nI e := by
  obtain ⟨a, l, h1, h2, h3, h4, h5, h6, h7⟩ := hr.2.1 (j / 3) (by omega)
  have hj3 : j % 3 = 0 ∨ j % 3 = 1 := by omega
  rcases hj3 with q | q
  · exact ⟨a, by omega, by unfold rA; rw [if_pos q]; exact h5⟩
  · exact ⟨a + l, by omega, by unfold rA; rw [if_neg (by omega), if_pos q]; exact h6⟩
theorem mod3 {j : Nat} (hj : j < 1000) : nI j - nI j / 3 * 3 < 2 ↔ j % 3 < 2 := by
  have e1 : nI j / 3 = nI (j / 3) := by
    apply Int32.toInt_inj.mp
    rw [Int32.toInt_div_of_ne_right _ _ (by decide), nI_toInt (by omega), nI_toInt (by omega), show (3 : Int32).toInt = 3 by decide, Int.tdiv_eq_ediv_of_nonneg (by omega)]
    omega
  have e2 : nI j - nI (j / 3) * 3 = nI (j % 3) := by
    apply Int32.toInt_inj.mp
    have e3 : nI (j / 3) * 3 = nI (j / 3 * 3) := (Int32.ofNat_mul (j / 3) 3).symm
    rw [e3, Int32.toInt_sub, nI_toInt (by omega), nI_toInt (by omega), nI_toInt (by omega), Int.bmod_eq_of_le (by omega) (by omega)]
    omega
  rw [e1, e2]
  exact nI_ltI (by omega) (by decide)
theorem nxt_ok {n t T : Nat} {x : Sg} (hr : RI n t x) (hn : n ≤ 20) (htT : t < T) (hT : T ≤ 30000) : ∀ j, j ≤ 3 * n → ∃ q, t < q ∧ q ≤ T ∧ nxt x (nI t) (nI T) j = nI q ∧ ∀ i e, i < j → i % 3 < 2 → rA x i = nI e → e ≤ 20600 → t < e → q ≤ e := by
  intro j
  induction j with
  | zero => exact fun _ => ⟨T, htT, Nat.le_refl T, rfl, fun i e h => absurd h (Nat.not_lt_zero i)⟩
  | succ j ih =>
    intro hj
    obtain ⟨q, h1, h2, h3, h4⟩ := ih (by omega)
    show ∃ q, t < q ∧ q ≤ T ∧ pif _ _ _ = nI q ∧ _
    by_cases hc : nI j - nI j / 3 * 3 < 2 ∧ nI t < rA x j ∧ rA x j < nxt x (nI t) (nI T) j
    · rw [pif_t hc]
      have hm := (mod3 (by omega)).mp hc.1
      obtain ⟨e, he, ee⟩ := rA_nI hr (show j < 3 * n by omega) hm
      have g1 : t < e := (nI_ltI (by omega) (by omega)).mp (by rw [← ee]; exact hc.2.1)
      have g2 : e < q := (nI_ltI (by omega) (by omega)).mp (by rw [← ee, ← h3]; exact hc.2.2)
      refine ⟨e, g1, by omega, ee, fun i e' hi hi3 hie he' hte => ?_⟩
      by_cases hij : i = j
      · subst hij
        rw [ee] at hie
        have := (nI_eq (show e < 2 ^ 31 by omega) (show e' < 2 ^ 31 by omega)).mp hie
        omega
      · have := h4 i e' (by omega) hi3 hie he' hte
        omega
    · rw [pif_f hc]
      refine ⟨q, h1, h2, h3, fun i e' hi hi3 hie he' hte => ?_⟩
      by_cases hij : i = j
      · subst hij
        rcases Nat.lt_or_ge e' q with g | g
        · exact absurd ⟨(mod3 (by omega)).mpr hi3, by rw [hie]; exact (nI_ltI (by omega) (by omega)).mpr hte, by rw [hie, h3]; exact (nI_ltI (by omega) (by omega)).mpr g⟩ hc
        · exact g
      · exact h4 i e' (by omega) hi3 hie he' hte
theorem nxt_no {n t T : Nat} {x : Sg} (hr : RI n t x) (hn : n ≤ 20) (htT : t < T) (hT : T ≤ 30000) : ∃ q, t < q ∧ q ≤ T ∧ nxt x (nI t) (nI T) (3 * n) = nI q ∧ ∀ k m, k < n → t < m → m < q → ¬ x 6 k = nI m ∧ ¬ x 7 k = nI m := by
  obtain ⟨q, h1, h2, h3, h4⟩ := nxt_ok hr hn htT hT (3 * n) (Nat.le_refl _)
  refine ⟨q, h1, h2, h3, fun k m hk hm1 hm2 => ?_⟩
  have small : ∀ e, e ≤ 20600 → nI e = nI m → m ≤ 20600 := fun e he ee => by
    have := (nI_eq (show e < 2 ^ 31 by omega) (show m < 2 ^ 31 by omega)).mp ee
    omega
  obtain ⟨a, l, g1, g2, g3, g4, g5, g6, g7⟩ := hr.2.1 k hk
  refine ⟨fun e => ?_, fun e => ?_⟩
  · have hm := small a (by omega) (g5.symm.trans e)
    have := h4 (3 * k) m (by omega) (by omega) (by rw [rA_0]; exact e) hm hm1
    omega
  · have hm := small (a + l) (by omega) (g6.symm.trans e)
    have := h4 (3 * k + 1) m (by omega) (by omega) (by rw [rA_1]; exact e) hm hm1
    omega
theorem fsend_go {y : Sg} {k b : Nat} (hb : b < 5) (e : y 10 k = nI b) : fsend (su y 9 k 2) (y 10 k) (y 8 k) = funplug (su (su y 9 k 2) 12 b (y 12 b - y 8 k)) (y 10 k) := by
  unfold fsend
  have hp : ¬ nI b < 0 ∧ nI b < 5 := ⟨nI_pos (by omega), (nI_ltI (by omega) (show (5 : Nat) < 2 ^ 31 by decide)).mpr hb⟩
  rw [e, pif_t hp, nI_clamp (by omega), su_f _ _ _ _ (show 12 ≠ 9 by decide)]
