/-! WHAT HOLDS BETWEEN THE DEEDS; u: how many there were -/
def BW (x : Sg) : Prop := (∀ k, x 13 k = 0 ∨ x 13 k = 1) ∧ ∀ k, x 14 k = 0 ∨ x 14 k = 1
def HD (x : Sg) : Prop := x 3 0 = -1 ∨ x 3 0 = 0 ∨ x 3 0 = 1
/-- the marks: 17 the class's, 18 the law's -/
def MK (om : Nat) (x : Sg) : Prop := (∀ j, j < om → ∃ mk : Nat, mk < 1000 ∧ x 18 j = nI mk ∧ x 17 mk = nI j) ∧ ∀ mk : Nat, mk < 1000 → x 17 mk = -1 ∨ ∃ j, j < om ∧ x 17 mk = nI j ∧ x 18 j = nI mk
def J (u n om t : Nat) (x : Sg) : Prop := PI u n t x ∧ x 2 0 = nI om ∧ om ≤ 60 ∧ WT n x ∧ BW x ∧ HD x ∧ MK om x
section JS
variable {u n om t : Nat} {x : Sg}
theorem J.pi (h : J u n om t x) : PI u n t x := h.1
theorem J.n1 (h : J u n om t x) : x 1 0 = nI n := h.1.1
theorem J.n20 (h : J u n om t x) : n ≤ 20 := h.1.2.1
theorem J.t0 (h : J u n om t x) : x 0 0 = nI t := h.1.2.2.1
theorem J.t30 (h : J u n om t x) : t ≤ 30000 := h.1.2.2.2.1
theorem J.ri (h : J u n om t x) : RI n t x := h.1.2.2.2.2.1
theorem J.okp (h : J u n om t x) : okP x := h.1.2.2.2.2.2.1
theorem J.nd (h : J u n om t x) : nd n x := h.1.2.2.2.2.2.2.1
theorem J.cb (h : J u n om t x) : cb (2000 * (t + u)) x := h.1.2.2.2.2.2.2.2
theorem J.o2 (h : J u n om t x) : x 2 0 = nI om := h.2.1
theorem J.o60 (h : J u n om t x) : om ≤ 60 := h.2.2.1
theorem J.wt (h : J u n om t x) : WT n x := h.2.2.2.1
theorem J.bw (h : J u n om t x) : BW x := h.2.2.2.2.1
theorem J.hd (h : J u n om t x) : HD x := h.2.2.2.2.2.1
theorem J.mk (h : J u n om t x) : MK om x := h.2.2.2.2.2.2
theorem BW_nar {v : Int32} (h : v = 0 ∨ v = 1) : vp_nar .boolean v = v := by rcases h with h | h <;> rw [h] <;> decide
theorem J.b13 (h : J u n om t x) : ∀ k, vp_nar .boolean (x 13 k) = x 13 k := fun k => BW_nar (h.bw.1 k)
theorem J.b14 (h : J u n om t x) : ∀ k, vp_nar .boolean (x 14 k) = x 14 k := fun k => BW_nar (h.bw.2 k)
theorem MK_f {om : Nat} {x y : Sg} (h : MK om x) (e17 : ∀ k, y 17 k = x 17 k) (e18 : ∀ k, y 18 k = x 18 k) : MK om y := by
  unfold MK at h ⊢
  simp only [e17, e18]
  exact h
theorem HD_f {x y : Sg} (h : HD x) (e : y 3 0 = x 3 0) : HD y := by unfold HD at h ⊢; rw [e]; exact h
theorem J.up (h : J u n om t x) : J (u + 1) n om t x := by
  obtain ⟨⟨h1, h2, h3, h4, h5, h6, h7, h8⟩, h9⟩ := h
  exact ⟨⟨h1, h2, h3, h4, h5, h6, h7, cb_le h8 (by omega)⟩, h9⟩
/-- a state in which the rows and charges are as they were -/
theorem J.same {y : Sg} (h : J u n om t x) (e0 : y 0 0 = x 0 0) (e1 : y 1 0 = x 1 0) (e2 : y 2 0 = x 2 0) (er : ∀ f k, 6 ≤ f → f ≤ 14 → y f k = x f k) (hP : okP y) (h3 : HD y) (e17 : ∀ k, y 17 k = x 17 k) (e18 : ∀ k, y 18 k = x 18 k) : J (u + 1) n om t y := by
  have g := h.up
  refine ⟨⟨e1.trans g.n1, g.n20, e0.trans g.t0, g.t30, RI_f g.ri (fun k => er _ _ (by decide) (by decide)) (fun k => er _ _ (by decide) (by decide)) (fun k => er _ _ (by decide) (by decide)) (fun k => er _ _ (by decide) (by decide)) (fun k => er _ _ (by decide) (by decide)) (fun k => er _ _ (by decide) (by decide)), hP, nd_f g.nd (fun k => er _ _ (by decide) (by decide)), cb_f g.cb (fun k => er _ _ (by decide) (by decide))⟩, e2.trans g.o2, g.o60, ?_, ?_, h3, MK_f g.mk e17 e18⟩
  · exact WT_f g.wt e0 (fun k => er _ _ (by decide) (by decide)) (fun k _ hk => by rw [er _ _ (by decide) (by decide)] at hk; exact hk)
  · exact ⟨fun k => by rw [er _ _ (by decide) (by decide)]; exact g.bw.1 k, fun k => by rw [er _ _ (by decide) (by decide)]; exact g.bw.2 k⟩
theorem J_run {a l q : Nat} (h : J u n om t x) (hn : n < 20) (ha : t < a) (h1 : 1 ≤ l) (h2 : l ≤ 600) (h3 : a % 1440 + l ≤ 1440) (h4 : a ≤ 20000) (hq : q ≤ 100) : J (u + 1) (n + 1) om t (frun n x (nI a) (nI l) (nI q)) := by
  have fo : ∀ f k, f ≠ 6 → f ≠ 7 → f ≠ 8 → f ≠ 1 → frun n x (nI a) (nI l) (nI q) f k = x f k := fun f k q6 q7 q8 q1 => by unfold frun ftell; rw [su_f _ _ _ _ q1, su_f _ _ _ _ q8, su_f _ _ _ _ q7, su_f _ _ _ _ q6]
  have fr : ∀ f k, k ≠ n → f ≠ 1 → frun n x (nI a) (nI l) (nI q) f k = x f k := fun f k hk q1 => by unfold frun ftell; rw [su_f _ _ _ _ q1, su_r _ _ _ _ hk, su_r _ _ _ _ hk, su_r _ _ _ _ hk]
  have e6 : frun n x (nI a) (nI l) (nI q) 6 n = nI a := by unfold frun ftell; rw [su_f _ _ _ _ (by decide), su_f _ _ _ _ (by decide), su_f _ _ _ _ (by decide), su_s]
  have e8 : frun n x (nI a) (nI l) (nI q) 8 n = nI q := by unfold frun ftell; rw [su_f _ _ _ _ (by decide), su_s]
  have e1 : frun n x (nI a) (nI l) (nI q) 1 0 = nI (n + 1) := by unfold frun ftell; rw [su_s, su_f _ _ _ _ (by decide), su_f _ _ _ _ (by decide), su_f _ _ _ _ (by decide), h.n1, nI_1]
  refine ⟨⟨e1, by omega, (fo _ _ (by decide) (by decide) (by decide) (by decide)).trans h.t0, h.t30, RI_run h.ri (nI q) h1 h2 h3 h4, okP_f (x := x) (fun c _ => Or.inl (fo _ _ (by decide) (by decide) (by decide) (by decide))) h.okp, fun k hk => ?_, cb_f (cb_le h.cb (by omega)) (fun k => fo _ _ (by decide) (by decide) (by decide) (by decide))⟩, (fo _ _ (by decide) (by decide) (by decide) (by decide)).trans h.o2, h.o60, fun k hk hy => ?_, ?_, HD_f h.hd (fo _ _ (by decide) (by decide) (by decide) (by decide)), MK_f h.mk (fun k => fo _ _ (by decide) (by decide) (by decide) (by decide)) (fun k => fo _ _ (by decide) (by decide) (by decide) (by decide))⟩
  · by_cases e : k = n
    · subst e; exact ⟨q, hq, e8⟩
    · rw [fr _ _ e (by decide)]; exact h.nd k (by omega)
  · rw [fo 0 0 (by decide) (by decide) (by decide) (by decide)]
    by_cases e : k = n
    · subst e
      rw [e6, h.t0, nI_ltI (by have := h.t30; omega) (by omega)]
      exact ha
    · rw [fr _ _ e (by decide)] at hy ⊢
      exact h.wt k (by omega) hy
  · exact ⟨fun k => by rw [fo _ _ (by decide) (by decide) (by decide) (by decide)]; exact h.bw.1 k, fun k => by rw [fo _ _ (by decide) (by decide) (by decide) (by decide)]; exact h.bw.2 k⟩
theorem J_lead {d : Nat} (h : J u n om t x) (hd : d < 2) (mi : Int32) : J (u + 1) n om t (fleads x (nI d) mi) := by
  unfold fleads
  refine pif_ap _ _ _ (J (u + 1) n om t) (fun _ => ?_) (fun _ => h.up)
  have fo : ∀ f k v, f ≠ 3 → f ≠ 4 → su (su x 3 0 (nI d)) 4 0 v f k = x f k := fun f k v q3 q4 => by rw [su_f _ _ _ _ q4, su_f _ _ _ _ q3]
  refine h.same (fo _ _ _ (by decide) (by decide)) (fo _ _ _ (by decide) (by decide)) (fo _ _ _ (by decide) (by decide)) (fun f k h1 h2 => fo _ _ _ (by omega) (by omega)) (okP_f (x := x) (fun c _ => Or.inl (fo _ _ _ (by decide) (by decide))) h.okp) ?_ (fun k => fo _ _ _ (by decide) (by decide)) (fun k => fo _ _ _ (by decide) (by decide))
  unfold HD
  rw [su_f _ _ _ _ (by decide), su_s]
  rcases (show d = 0 ∨ d = 1 by omega) with rfl | rfl
  · exact Or.inr (Or.inl rfl)
  · exact Or.inr (Or.inr rfl)
theorem J_plug {b c : Nat} (h : J u n om t x) (hb : b < 5) (hc : c < 2) : J (u + 1) n om t (fplug x (nI b) (nI c)) := by
  have fp : ∀ f k, f ≠ 15 → fplug x (nI b) (nI c) f k = x f k := fun f k q => by unfold fplug; rw [su_f _ _ _ _ q, funplug_f _ _ q]
  refine h.same (fp _ _ (by decide)) (fp _ _ (by decide)) (fp _ _ (by decide)) (fun f k h1 h2 => fp _ _ (by omega)) (fun k hk => ?_) (HD_f h.hd (fp _ _ (by decide))) (fun k => fp _ _ (by decide)) (fun k => fp _ _ (by decide))
  unfold fplug
  rw [nI_clamp (show c < 2 ^ 31 by omega)]
  by_cases e : k = c
  · subst e; rw [su_s]; exact Or.inr ⟨b, hb, rfl⟩
  · rw [su_k _ _ _ e]; exact okP_unplug (nI b) h.okp k hk
theorem J_adv {m : Nat} (h : J u n om t x) (hu : u ≤ 1000) (hm : t + m ≤ 30000) : J (u + 1) n om (t + m) (it (fun _ => fminute n) m x) := by
  have fo : ∀ f k, f ≠ 0 → f ≠ 9 → f ≠ 10 → f ≠ 11 → f ≠ 12 → f ≠ 15 → it (fun _ => fminute n) m x f k = x f k := fun f k a b c d e g => fmins_f m a b c d e g
  have hp := PI_mins h.pi hu m hm
  obtain ⟨p1, p2, p3, p4, p5, p6, p7, p8⟩ := hp
  refine ⟨⟨p1, p2, p3, p4, p5, p6, p7, cb_le p8 (by omega)⟩, (fo _ _ (by decide) (by decide) (by decide) (by decide) (by decide) (by decide)).trans h.o2, h.o60, WT_mins h.wt h.pi hu m hm, ?_, HD_f h.hd (fo _ _ (by decide) (by decide) (by decide) (by decide) (by decide) (by decide)), MK_f h.mk (fun k => fo _ _ (by decide) (by decide) (by decide) (by decide) (by decide) (by decide)) (fun k => fo _ _ (by decide) (by decide) (by decide) (by decide) (by decide) (by decide))⟩
  exact ⟨fun k => by rw [fo _ _ (by decide) (by decide) (by decide) (by decide) (by decide) (by decide)]; exact h.bw.1 k, fun k => by rw [fo _ _ (by decide) (by decide) (by decide) (by decide) (by decide) (by decide)]; exact h.bw.2 k⟩
theorem fbreaks_13 {k b : Nat} (v : Int32) (hb : b < 5) : fbreaks n x (nI b) v 13 k = su x 13 b v 13 k := by
  unfold fbreaks
  rw [pif_ap2, it_f (fun c y => sswapb_f n _ c y (by decide) (by decide) (by decide) (by decide) (by decide)), it_f (fun c y => stakeb_f _ c y (by decide) (by decide) (by decide)), funplug_f _ _ (by decide), pif_s, nI_clamp (by omega)]
theorem fails_14 {k d : Nat} (v : Int32) (hd : d < 5) : fails n x (nI d) v 14 k = su x 14 d v 14 k := by
  unfold fails
  rw [pif_ap2, it_f (fun c y => sswapd_f n _ c y (by decide) (by decide) (by decide)), it_f (fun c y => staked_f _ c y (by decide) (by decide) (by decide)), pif_s, nI_clamp (by omega)]
theorem bit_su {x : Sg} {f b : Nat} {v : Int32} (h : ∀ k, x f k = 0 ∨ x f k = 1) (hv : v = 0 ∨ v = 1) (k : Nat) : su x f b v f k = 0 ∨ su x f b v f k = 1 := by
  by_cases e : k = b
  · rw [e, su_s]; exact hv
  · rw [su_k _ _ _ e]; exact h k
theorem J_breaks {b : Nat} (h : J u n om t x) (hu : u ≤ 1000) (hb : b < 5) : J (u + 1) n om t (fbreaks n x (nI b) 1) := by
  have hs : SB (2000 * (t + u)) n t x := ⟨h.ri, h.nd, h.cb⟩
  have h30 := h.t30
  have h20 := h.n20
  obtain ⟨-, s1, s2, s3⟩ := breaks_eq h20 (by omega) hb hs
  have fo : ∀ f k, f ≠ 9 → f ≠ 10 → f ≠ 11 → f ≠ 12 → f ≠ 13 → f ≠ 15 → fbreaks n x (nI b) 1 f k = x f k := fun f k a b c d e g => fbreaks_f x _ _ a b c d e g
  refine ⟨⟨(fo _ _ (by decide) (by decide) (by decide) (by decide) (by decide) (by decide)).trans h.n1, h20, (fo _ _ (by decide) (by decide) (by decide) (by decide) (by decide) (by decide)).trans h.t0, h30, s1, okP_brk 1 h.okp, s2, cb_le s3 (by omega)⟩, (fo _ _ (by decide) (by decide) (by decide) (by decide) (by decide) (by decide)).trans h.o2, h.o60, ?_, ?_, HD_f h.hd (fo _ _ (by decide) (by decide) (by decide) (by decide) (by decide) (by decide)), MK_f h.mk (fun k => fo _ _ (by decide) (by decide) (by decide) (by decide) (by decide) (by decide)) (fun k => fo _ _ (by decide) (by decide) (by decide) (by decide) (by decide) (by decide))⟩
  · exact WT_f h.wt (fo _ _ (by decide) (by decide) (by decide) (by decide) (by decide) (by decide)) (fun k => fo _ _ (by decide) (by decide) (by decide) (by decide) (by decide) (by decide)) (fun k _ hk => W9_breaks n x _ _ k hk)
  · exact ⟨fun k => by rw [fbreaks_13 1 hb]; exact bit_su h.bw.1 (Or.inr rfl) k, fun k => by rw [fo _ _ (by decide) (by decide) (by decide) (by decide) (by decide) (by decide)]; exact h.bw.2 k⟩
theorem fbreaks_0 {b : Nat} (hb : b < 5) : fbreaks n x (nI b) 0 = su x 13 b 0 := by unfold fbreaks; rw [pif_t rfl, nI_clamp (by omega)]
theorem fails_0 {d : Nat} (hd : d < 5) : fails n x (nI d) 0 = su x 14 d 0 := by unfold fails; rw [pif_t rfl, nI_clamp (by omega)]
theorem J_breaks0 {b : Nat} (h : J u n om t x) (hb : b < 5) : J (u + 1) n om t (su x 13 b 0) := by
  have g := h.up
  have fo : ∀ f k, f ≠ 13 → su x 13 b 0 f k = x f k := fun f k q => su_f _ _ _ _ q
  refine ⟨⟨(fo _ _ (by decide)).trans g.n1, g.n20, (fo _ _ (by decide)).trans g.t0, g.t30, RI_f g.ri (fun k => fo _ _ (by decide)) (fun k => fo _ _ (by decide)) (fun k => fo _ _ (by decide)) (fun k => fo _ _ (by decide)) (fun k => fo _ _ (by decide)) (fun k => fo _ _ (by decide)), okP_f (x := x) (fun c _ => Or.inl (fo _ _ (by decide))) g.okp, nd_f g.nd (fun k => fo _ _ (by decide)), cb_f g.cb (fun k => fo _ _ (by decide))⟩, (fo _ _ (by decide)).trans g.o2, g.o60, WT_f g.wt (fo _ _ (by decide)) (fun k => fo _ _ (by decide)) (fun k _ hk => by rw [fo _ _ (by decide)] at hk; exact hk), ⟨bit_su g.bw.1 (Or.inl rfl), fun k => by rw [fo _ _ (by decide)]; exact g.bw.2 k⟩, HD_f g.hd (fo _ _ (by decide)), MK_f g.mk (fun k => fo _ _ (by decide)) (fun k => fo _ _ (by decide))⟩
theorem J_ails {d : Nat} (v : Int32) (hv : v = 0 ∨ v = 1) (h : J u n om t x) (hd : d < 5) : J (u + 1) n om t (fails n x (nI d) v) := by
  have g := h.up
  have h20 := h.n20
  have fo : ∀ f k, f ≠ 9 → f ≠ 10 → f ≠ 11 → f ≠ 14 → fails n x (nI d) v f k = x f k := fun f k a b c e => fails_f x _ _ a b c e
  have hri := (ail_eq v (by omega) hd (Ag_r n x) h.ri).2
  refine ⟨⟨(fo _ _ (by decide) (by decide) (by decide) (by decide)).trans g.n1, g.n20, (fo _ _ (by decide) (by decide) (by decide) (by decide)).trans g.t0, g.t30, hri, okP_f (x := x) (fun c _ => Or.inl (fo _ _ (by decide) (by decide) (by decide) (by decide))) g.okp, nd_f g.nd (fun k => fo _ _ (by decide) (by decide) (by decide) (by decide)), cb_f g.cb (fun k => fo _ _ (by decide) (by decide) (by decide) (by decide))⟩, (fo _ _ (by decide) (by decide) (by decide) (by decide)).trans g.o2, g.o60, WT_f g.wt (fo _ _ (by decide) (by decide) (by decide) (by decide)) (fun k => fo _ _ (by decide) (by decide) (by decide) (by decide)) (fun k _ hk => W9_ails n x _ _ k hk), ⟨fun k => by rw [fo _ _ (by decide) (by decide) (by decide) (by decide)]; exact g.bw.1 k, fun k => by rw [fails_14 v hd]; exact bit_su g.bw.2 hv k⟩, HD_f g.hd (fo _ _ (by decide) (by decide) (by decide) (by decide)), MK_f g.mk (fun k => fo _ _ (by decide) (by decide) (by decide) (by decide)) (fun k => fo _ _ (by decide) (by decide) (by decide) (by decide))⟩
/-- the law's state behind an order: the class's, with the mark noted -/
noncomputable def yord (om : Nat) (x : Sg) (mk r b d : Nat) : Sg := su (forder om x (nI mk) (nI r) (nI b) (nI d)) 18 om (nI mk)
theorem canord_l {r b d : Nat} (h : J u n om t x) (hr : r < n) (hb : b < 5) (hd : d < 5) (hu : u ≤ 1000) (dp : Int32) : (flead x = dp ∧ x 9 r = 0 ∧ lbf n x b r ∧ ldf n x d r) ↔ (flead x = dp ∧ canord n x r b d) := by
  have h30 := h.t30
  rw [← canord_eq (Ag_r n x) h.ri hr hb hd, lbf_mbf h.ri.2.1 h.nd h.cb (by omega) h.n20 hb hr, ldf_mdf h.ri.2.1 h.ri.2.2.1 h.n20 hr]
  exact ⟨fun z => ⟨z.1, z.2.1, h.wt r hr (Or.inl z.2.1), z.2.2⟩, fun z => ⟨z.1, z.2.1, z.2.2.2⟩⟩
theorem J_order {mk r b d : Nat} {dp : Int32} (h : J u n om t x) (ho : om < 60) (hmk : mk < 1000) (hr : r < n) (hb : b < 5) (hd : d < 5) (hx : xorder n x dp (nI mk) (nI r) (nI b) (nI d) = none) (hnew : x 17 mk = -1) : J (u + 1) n (om + 1) t (yord om x mk r b d) := by
  have h30 := h.t30
  have h20 := h.n20
  have g := h.up
  have c1 : (nI mk).toNatClampNeg = mk := nI_clamp (by omega)
  have c2 : (nI r).toNatClampNeg = r := nI_clamp (by omega)
  have eF : forder om x (nI mk) (nI r) (nI b) (nI d) = su (su (su (fgive x r (nI b) (nI d)) 16 om (100 * nI r + 10 * nI b + nI d)) 17 mk (x 2 0)) 2 0 (x 2 0 + 1) := by
    unfold forder
    rw [c1, c2, pif_t hnew]
    unfold fwrite fgive
    rw [su_f _ _ _ _ (show 2 ≠ 11 by decide), su_f _ _ _ _ (show 2 ≠ 10 by decide), su_f _ _ _ _ (show 2 ≠ 9 by decide)]
  have hInv : Inv n om t x := ⟨h.n1, by omega, h.o2, h.t0, h30, h.ri, h.okp, h.b13, h.b14⟩
  have hRI : RI n t (forder om x (nI mk) (nI r) (nI b) (nI d)) := by
    obtain ⟨-, -, n', om', t', -, q, -⟩ := sim_order ⟨hInv, Ag_r n x⟩ (by omega) dp (nI mk) (nI r) (nI b) (nI d)
    rw [hx] at q
    have q' : Inv n' om' t' (forder om x (nI mk) (nI r) (nI b) (nI d)) := q
    obtain ⟨q1, q2, -, q4, q5, q6, -⟩ := q'
    have e1 : forder om x (nI mk) (nI r) (nI b) (nI d) 1 0 = nI n := by rw [eF]; unfold fgive; simp [su_f]; exact h.n1
    have e0 : forder om x (nI mk) (nI r) (nI b) (nI d) 0 0 = nI t := by rw [eF]; unfold fgive; simp [su_f]; exact h.t0
    have n1 : n' = n := (nI_eq (by omega) (by omega)).mp (q1.symm.trans e1)
    have t1 : t' = t := (nI_eq (by omega) (by omega)).mp (q4.symm.trans e0)
    rw [← n1, ← t1]
    exact q6
  have fo : ∀ f k, f ≠ 9 → f ≠ 10 → f ≠ 11 → f ≠ 16 → f ≠ 17 → f ≠ 2 → f ≠ 18 → yord om x mk r b d f k = x f k := fun f k a1 a2 a3 a4 a5 a6 a7 => by
    unfold yord
    rw [eF]
    unfold fgive
    rw [su_f _ _ _ _ a7, su_f _ _ _ _ a6, su_f _ _ _ _ a5, su_f _ _ _ _ a4, su_f _ _ _ _ a3, su_f _ _ _ _ a2, su_f _ _ _ _ a1]
  have e9 : ∀ k, yord om x mk r b d 9 k = su x 9 r 1 9 k := fun k => by
    unfold yord
    rw [eF]
    unfold fgive
    rw [su_f _ _ _ _ (by decide), su_f _ _ _ _ (by decide), su_f _ _ _ _ (by decide), su_f _ _ _ _ (by decide), su_f _ _ _ _ (by decide), su_f _ _ _ _ (by decide)]
  have hRI2 : RI n t (yord om x mk r b d) := RI_f hRI (fun k => su_f _ _ _ _ (by decide)) (fun k => su_f _ _ _ _ (by decide)) (fun k => su_f _ _ _ _ (by decide)) (fun k => su_f _ _ _ _ (by decide)) (fun k => su_f _ _ _ _ (by decide)) (fun k => su_f _ _ _ _ (by decide))
  have e17 : ∀ k, yord om x mk r b d 17 k = su x 17 mk (nI om) 17 k := fun k => by
    unfold yord
    rw [eF, su_f _ _ _ _ (by decide), su_f _ _ _ _ (by decide), h.o2]
    by_cases e : k = mk
    · rw [e, su_s, su_s]
    · rw [su_k _ _ _ e, su_k _ _ _ e]
      unfold fgive
      rw [su_f _ _ _ _ (by decide), su_f _ _ _ _ (by decide), su_f _ _ _ _ (by decide), su_f _ _ _ _ (by decide)]
  have e18 : ∀ k, yord om x mk r b d 18 k = su x 18 om (nI mk) 18 k := fun k => by
    unfold yord
    by_cases e : k = om
    · rw [e, su_s, su_s]
    · rw [su_k _ _ _ e, su_k _ _ _ e, eF]
      unfold fgive
      rw [su_f _ _ _ _ (by decide), su_f _ _ _ _ (by decide), su_f _ _ _ _ (by decide), su_f _ _ _ _ (by decide), su_f _ _ _ _ (by decide), su_f _ _ _ _ (by decide)]
  have e2 : yord om x mk r b d 2 0 = nI (om + 1) := by
    unfold yord
    rw [eF, su_f _ _ _ _ (by decide), su_s, h.o2, nI_1]
  have F : ∀ f k, f ≠ 9 ∧ f ≠ 10 ∧ f ≠ 11 ∧ f ≠ 16 ∧ f ≠ 17 ∧ f ≠ 2 ∧ f ≠ 18 → yord om x mk r b d f k = x f k := fun f k a => fo f k a.1 a.2.1 a.2.2.1 a.2.2.2.1 a.2.2.2.2.1 a.2.2.2.2.2.1 a.2.2.2.2.2.2
  have hwt : x 0 0 < x 6 r := by
    have hc : flead x = dp ∧ canord n x r b d := by
      unfold xorder at hx
      rw [c1, c2, nI_clamp (show b < 2 ^ 31 by omega), nI_clamp (show d < 2 ^ 31 by omega), pif_t hnew] at hx
      by_cases k1 : flead x = dp
      · by_cases k2 : canord n x r b d
        · exact ⟨k1, k2⟩
        · rw [pif_t k1, pif_f k2] at hx
          unfold xq at hx
          repeat (first | (split at hx) | (cases hx))
      · rw [pif_f k1] at hx
        unfold xq at hx
        repeat (first | (split at hx) | (cases hx))
    exact hc.2.2.1
  refine ⟨⟨(F _ _ (by decide)).trans h.n1, h20, (F _ _ (by decide)).trans h.t0, h30, hRI2, okP_f (x := x) (fun c _ => Or.inl (F _ _ (by decide))) h.okp, nd_f h.nd (fun k => F _ _ (by decide)), cb_f g.cb (fun k => F _ _ (by decide))⟩, e2, by omega, fun k hk hy => ?_, ⟨fun k => by rw [F _ _ (by decide)]; exact h.bw.1 k, fun k => by rw [F _ _ (by decide)]; exact h.bw.2 k⟩, HD_f h.hd (F _ _ (by decide)), fun j hj => ?_, fun m hm => ?_⟩
  · rw [F 0 0 (by decide), F 6 k (by decide)]
    by_cases e : k = r
    · rw [e]; exact hwt
    · rw [e9, su_k _ _ _ e] at hy
      exact h.wt k hk hy
  · by_cases e : j = om
    · subst e
      exact ⟨mk, hmk, by rw [e18, su_s], by rw [e17, su_s]⟩
    · obtain ⟨m, h1, h2, h3⟩ := h.mk.1 j (by omega)
      have hne : m ≠ mk := fun z => by rw [z, hnew] at h3; exact absurd h3.symm (nI_nm (by omega))
      exact ⟨m, h1, by rw [e18, su_k _ _ _ e]; exact h2, by rw [e17, su_k _ _ _ hne]; exact h3⟩
  · by_cases e : m = mk
    · subst e
      exact Or.inr ⟨om, Nat.lt_succ_self om, by rw [e17, su_s], by rw [e18, su_s]⟩
    · rcases h.mk.2 m hm with q | ⟨j, h1, h2, h3⟩
      · exact Or.inl (by rw [e17, su_k _ _ _ e]; exact q)
      · exact Or.inr ⟨j, by omega, by rw [e17, su_k _ _ _ e]; exact h2, by rw [e18, su_k _ _ _ (show j ≠ om by omega)]; exact h3⟩
end JS
/-- what the law finds of a mark -/
noncomputable def hadF (x : Sg) (mk : Int32) : Nat → Int32 | 0 => -1 | j + 1 => pif (x 18 j = mk) (nI j) (hadF x mk j)
theorem had_eq {om mk : Nat} {x : Sg} (h : MK om x) (ho : om ≤ 60) (hmk : mk < 1000) : hadF x (nI mk) om = x 17 mk := by
  have key : ∀ m, m ≤ om → (hadF x (nI mk) m = -1 ∧ ∀ j, j < m → ¬ x 18 j = nI mk) ∨ ∃ j, j < m ∧ x 18 j = nI mk ∧ hadF x (nI mk) m = nI j := by
    intro m
    induction m with
    | zero => exact fun _ => Or.inl ⟨rfl, fun j hj => absurd hj (Nat.not_lt_zero j)⟩
    | succ m ih =>
      intro hm
      show (pif _ _ _ = _ ∧ _) ∨ ∃ j, j < m + 1 ∧ _ ∧ pif _ _ _ = _
      by_cases hc : x 18 m = nI mk
      · rw [pif_t hc]; exact Or.inr ⟨m, Nat.lt_succ_self m, hc, rfl⟩
      · rw [pif_f hc]
        rcases ih (by omega) with ⟨h1, h2⟩ | ⟨j, h1, h2, h3⟩
        · refine Or.inl ⟨h1, fun j hj => ?_⟩
          rcases Nat.lt_succ_iff_lt_or_eq.mp hj with g | rfl
          · exact h2 j g
          · exact hc
        · exact Or.inr ⟨j, by omega, h2, h3⟩
  rcases key om (Nat.le_refl om) with ⟨h1, h2⟩ | ⟨j, h1, h2, h3⟩
  · rw [h1]
    rcases h.2 mk hmk with q | ⟨j, g1, g2, g3⟩
    · exact q.symm
    · exact absurd g3 (h2 j g1)
  · rw [h3]
    obtain ⟨m, g1, g2, g3⟩ := h.1 j h1
    have : m = mk := (nI_eq (by omega) (by omega)).mp (g2.symm.trans h2)
    rw [← this, g3]
/-! the two worlds see what they see -/
theorem wL_c {cy : Nat → ClassId} {al : Nat → Nat} {x y : Sg} {wr : va_W} (h : ∀ f k, f ≠ 17 → y f k = x f k) : wL cy al x wr = wL cy al y wr := by
  have e : ∀ f, f ≠ 17 → x f = y f := fun f hf => (funext (fun k => h f k hf)).symm
  unfold wL rA pA bA nAr
  rw [e 0 (by decide), e 1 (by decide), e 2 (by decide), e 3 (by decide), e 4 (by decide), e 6 (by decide), e 7 (by decide), e 8 (by decide), e 9 (by decide), e 10 (by decide), e 11 (by decide), e 12 (by decide), e 13 (by decide), e 14 (by decide), e 15 (by decide), e 16 (by decide), e 18 (by decide)]
theorem wD_c {cy : Nat → ClassId} {ad : Nat → Nat} {x y : Sg} (h : ∀ f k, f ≠ 18 → y f k = x f k) : wD cy ad x = wD cy ad y := by
  have e : ∀ f, f ≠ 18 → x f = y f := fun f hf => (funext (fun k => h f k hf)).symm
  unfold wD
  have er : wR ad x = wR ad y := by
    funext k
    unfold wR
    rw [e 6 (by decide), e 7 (by decide), e 8 (by decide), e 9 (by decide), e 10 (by decide), e 11 (by decide)]
  rw [er, e 0 (by decide), e 1 (by decide), e 2 (by decide), e 3 (by decide), e 4 (by decide), e 12 (by decide), e 13 (by decide), e 14 (by decide), e 15 (by decide), e 16 (by decide), e 17 (by decide)]
theorem J_new : J 0 0 0 0 xD := by
  obtain ⟨⟨h1, h2, h3, h4, h5, h6, h7, h8, h9⟩, -⟩ := Rel_new
  refine ⟨⟨h1, by decide, h4, by decide, h6, h7, fun k hk => absurd hk (Nat.not_lt_zero k), fun b hb => ?_⟩, h3, by decide, fun k hk => absurd hk (Nat.not_lt_zero k), ⟨fun k => Or.inl ?_, fun k => Or.inl ?_⟩, Or.inl ?_, fun j hj => absurd hj (Nat.not_lt_zero j), fun mk hmk => Or.inl ?_⟩
  · have e : xD 12 b = 100 := by
      unfold xD
      rw [fillm_f _ _ (by decide), fillp_f _ _ (by decide)]
      unfold fillc
      rw [it_own (fun c y j hj => su_r _ _ _ _ hj) xi0 hb, su_s]
    rw [e, t100]
    exact ⟨by omega, Int.le_refl _⟩
  · rw [xD_f (by decide) (by decide) (by decide)]; rfl
  · rw [xD_f (by decide) (by decide) (by decide)]; rfl
  · rw [xD_f (by decide) (by decide) (by decide)]; rfl
  · unfold xD fillm
    rw [it_own (fun c y j hj => su_r _ _ _ _ hj) _ hmk, su_s]
