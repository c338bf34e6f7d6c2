/-! THE CLASS'S ANSWERS to what the law asks -/
theorem e_q {a b : Option String} {E : String} (h : xq a b = some E) : a = some E ∨ b = some E := by
  cases a with
  | none => exact Or.inr h
  | some z => exact Or.inl h
theorem e_r {v a b : Int32} {E : String} (h : xRng v a b = some E) : E = nIA := by
  by_cases c : inr a b v
  · rw [xRng_t c] at h; cases h
  · rw [xRng_f c] at h; exact (Option.some.inj h).symm
theorem e_i {v a : Int32} {E : String} (h : xIdx v a = some E) : E = nIO := by
  by_cases c : ¬ v < 0 ∧ v < a
  · rw [xIdx_t c] at h; cases h
  · rw [xIdx_f c] at h; exact (Option.some.inj h).symm
theorem e_p {P : Prop} {a b : Option String} {E : String} (h : pif P a b = some E) : a = some E ∨ b = some E := by
  by_cases c : P
  · rw [pif_t c] at h; exact Or.inl h
  · rw [pif_f c] at h; exact Or.inr h
theorem hE_run {x : Sg} {st mi q : Int32} : ∀ E, xrun x st mi q = some E → E = nIO ∨ E = nIA ∨ E = nIS := fun E h => by
  rcases e_q h with h | h
  · exact Or.inr (Or.inl (e_r h))
  rcases e_q h with h | h
  · exact Or.inr (Or.inl (e_r h))
  rcases e_q h with h | h
  · exact Or.inr (Or.inl (e_r h))
  rcases e_q h with h | h
  · exact Or.inr (Or.inl (e_r h))
  rcases e_p h with h | h
  · cases h
  · exact Or.inr (Or.inr (Option.some.inj h).symm)
theorem hE_order {n : Nat} {x : Sg} {dp mk r b d : Int32} : ∀ E, xorder n x dp mk r b d = some E → E = nIO ∨ E = nIA ∨ E = nIS := fun E h => by
  rcases e_q h with h | h
  · exact Or.inl (e_i h)
  rcases e_q h with h | h
  · exact Or.inl (e_i h)
  rcases e_q h with h | h
  · exact Or.inl (e_i h)
  rcases e_q h with h | h
  · exact Or.inl (e_i h)
  rcases e_q h with h | h
  · exact Or.inr (Or.inl (e_r h))
  rcases e_p h with h | h
  · rcases e_p h with h | h
    · rcases e_p h with h | h
      · cases h
      · exact Or.inr (Or.inr (Option.some.inj h).symm)
    · exact Or.inr (Or.inr (Option.some.inj h).symm)
  · cases h
theorem hE_plug {n : Nat} {x : Sg} {b ch : Int32} : ∀ E, xplug n x b ch = some E → E = nIO ∨ E = nIA ∨ E = nIS := fun E h => by
  rcases e_q h with h | h
  · exact Or.inl (e_i h)
  rcases e_q h with h | h
  · exact Or.inl (e_i h)
  rcases e_p h with h | h
  · exact Or.inr (Or.inr (Option.some.inj h).symm)
  · cases h
theorem hE_adv {x : Sg} {mi : Int32} : ∀ E, xadv x mi = some E → E = nIO ∨ E = nIA ∨ E = nIS := fun E h => by
  rcases e_q h with h | h
  · exact Or.inr (Or.inl (e_r h))
  rcases e_p h with h | h
  · exact Or.inr (Or.inr (Option.some.inj h).symm)
  · cases h
theorem inrN {a b v : Nat} (ha : a < 2 ^ 31) (hb : b < 2 ^ 31) (hv : v < 2 ^ 31) : inr (nI a) (nI b) (nI v) ↔ a ≤ v ∧ v ≤ b := by
  unfold inr
  rw [nI_ltI hv ha, nI_ltI hb hv]
  omega
theorem xr {a b v : Nat} (ha : a < 2 ^ 31) (hb : b < 2 ^ 31) (h1 : a ≤ v) (h2 : v ≤ b) : xRng (nI v) (nI a) (nI b) = none := xRng_t ((inrN ha hb (by omega)).mpr ⟨h1, h2⟩)
theorem xr_f {a b v : Nat} (ha : a < 2 ^ 31) (hb : b < 2 ^ 31) (hv : v < 2 ^ 31) (h : ¬ (a ≤ v ∧ v ≤ b)) : xRng (nI v) (nI a) (nI b) = some nIA := xRng_f (fun z => h ((inrN ha hb hv).mp z))
theorem xi {c v : Nat} (hc : c < 2 ^ 31) (h : v < c) : xIdx (nI v) (nI c) = none := xIdx_t ⟨nI_pos (by omega), (nI_ltI (by omega) hc).mpr h⟩
section AN
variable {u n om t : Nat} {x : Sg}
theorem xrun_1 {a : Nat} (h : J u n om t x) (ha : t < a) (h2 : a ≤ 20000) : xRng (nI a) (x 0 0 + 1) 20000 = none := by
  rw [h.t0, nI_1]
  exact xr (b := 20000) (by omega) (by decide) ha h2
theorem xrun_3 {a l : Nat} (ha : a < 2 ^ 30) (h1 : 1 ≤ l) (h2 : l ≤ 600) (h3 : a % 1440 + l ≤ 1440) : xRng (nI a - nI a / 1440 * 1440 + nI l) 1 1440 = none := by
  rw [nI_mod (by omega), nI_add]
  exact xr (a := 1) (b := 1440) (by decide) (by decide) (by omega) h3
theorem xrun_ok {a l q : Nat} (h : J u n om t x) (hn : n < 20) (ha : t < a) (h4 : a ≤ 20000) (h1 : 1 ≤ l) (h2 : l ≤ 600) (h3 : a % 1440 + l ≤ 1440) (hq : q ≤ 100) : xrun x (nI a) (nI l) (nI q) = none := by
  have e2 : xRng (nI l) 1 600 = none := xr (a := 1) (b := 600) (by decide) (by decide) h1 h2
  have e4 : xRng (nI q) 0 100 = none := xr (a := 0) (b := 100) (by decide) (by decide) (Nat.zero_le q) hq
  have e5 : x 1 0 < 30 := by rw [h.n1]; exact (nI_ltI (by omega) (show (30 : Nat) < 2 ^ 31 by decide)).mpr (by omega)
  unfold xrun
  rw [xq_n (xrun_1 h ha h4), xq_n e2, xq_n (xrun_3 (by omega) h1 h2 h3), xq_n e4, pif_t e5]
theorem xrun_bad {a l q : Nat} (h : J u n om t x) (ha : t < a) (ha2 : a < 2 ^ 30) (h1 : 1 ≤ l) (h2 : l ≤ 600) (hb : ¬ (a ≤ 20000 ∧ a % 1440 + l ≤ 1440)) : xrun x (nI a) (nI l) (nI q) = some nIA := by
  have ht := h.t30
  have e2 : xRng (nI l) 1 600 = none := xr (a := 1) (b := 600) (by decide) (by decide) h1 h2
  unfold xrun
  by_cases h4 : a ≤ 20000
  · rw [xq_n (xrun_1 h ha h4), xq_n e2]
    refine xq_s ?_
    rw [nI_mod (by omega), nI_add]
    exact xr_f (a := 1) (b := 1440) (by decide) (by decide) (by omega) (by omega)
  · refine xq_s ?_
    rw [h.t0, nI_1]
    exact xr_f (b := 20000) (by omega) (by decide) (by omega) (by omega)
theorem xlead_ok {d l : Nat} (hd : d < 2) (h1 : 1 ≤ l) (h2 : l ≤ 1000) : xlead (nI d) (nI l) = none := by
  have e1 : xIdx (nI d) 2 = none := xi (c := 2) (by decide) hd
  have e2 : xRng (nI l) 1 1000 = none := xr (a := 1) (b := 1000) (by decide) (by decide) h1 h2
  unfold xlead
  rw [xq_n e1, e2]
theorem xidx5 {b : Nat} (hb : b < 5) : xIdx (nI b) 5 = none := xi (c := 5) (by decide) hb
theorem xplug_eq {b c : Nat} (hb : b < 5) (hc : c < 2) : xplug n x (nI b) (nI c) = pif (under n x (nI b)) (some nIS) none := by
  have e2 : xIdx (nI c) 2 = none := xi (c := 2) (by decide) hc
  unfold xplug
  rw [xq_n (xidx5 hb), xq_n e2]
theorem xadv_eq {m : Nat} (h1 : 1 ≤ m) (h2 : m ≤ 1000) : xadv x (nI m) = pif (30000 < x 0 0 + nI m) (some nIS) none := by
  have e2 : xRng (nI m) 1 1000 = none := xr (a := 1) (b := 1000) (by decide) (by decide) h1 h2
  unfold xadv
  rw [xq_n e2]
theorem xorder_eq {dp mk r b d : Nat} (h : J u n om t x) (hdp : dp < 2) (hmk : mk < 1000) (hr : r < n) (hb : b < 5) (hd : d < 5) : xorder n x (nI dp) (nI mk) (nI r) (nI b) (nI d) = pif (x 17 mk = -1) (pif (flead x = nI dp) (pif (canord n x r b d) none (some nIS)) (some nIS)) none := by
  have h20 := h.n20
  have e1 : xIdx (nI dp) 2 = none := xi (c := 2) (by decide) hdp
  have e2 : xIdx (nI r) (x 1 0) = none := by rw [h.n1]; exact xi (by omega) hr
  have e3 : xRng (nI mk) 0 999 = none := xr (a := 0) (b := 999) (by decide) (by decide) (Nat.zero_le mk) (by omega)
  unfold xorder
  rw [xq_n e1, xq_n e2, xq_n (xidx5 hb), xq_n (xidx5 hd), xq_n e3, nI_clamp (show mk < 2 ^ 31 by omega), nI_clamp (show r < 2 ^ 31 by omega), nI_clamp (show b < 2 ^ 31 by omega), nI_clamp (show d < 2 ^ 31 by omega)]
theorem xorder_io {dp r : Nat} {mk b d : Int32} (h : J u n om t x) (hdp : dp < 2) (hn : n = 0) (hr : r < 2 ^ 31) : xorder n x (nI dp) mk (nI r) b d = some nIO := by
  have e1 : xIdx (nI dp) 2 = none := xi (c := 2) (by decide) hdp
  have e2 : xIdx (nI r) (x 1 0) = some nIO := xIdx_f (fun z => by
    have := z.2
    rw [h.n1, hn, nI_ltI hr (by decide)] at this
    omega)
  unfold xorder
  rw [xq_n e1]
  exact xq_s e2
theorem lead_neg (h : HD x) (hl : flead x < 0) : flead x = -1 := by
  unfold flead at hl ⊢
  by_cases c : x 0 0 < x 4 0
  · rw [pif_t c] at hl ⊢
    rcases h with h | h | h
    · exact h
    · rw [h] at hl; exact absurd hl (by decide)
    · rw [h] at hl; exact absurd hl (by decide)
  · rw [pif_f c]
theorem lead_pos (h : HD x) (hl : ¬ flead x < 0) : ∃ d, d < 2 ∧ flead x = nI d := by
  unfold flead at hl ⊢
  by_cases c : x 0 0 < x 4 0
  · rw [pif_t c] at hl ⊢
    rcases h with h | h | h
    · rw [h] at hl; exact absurd nneg hl
    · exact ⟨0, by decide, h⟩
    · exact ⟨1, by decide, h⟩
  · rw [pif_f c] at hl; exact absurd nneg hl
theorem under_iff {b : Int32} (hn : n ≤ 20) : 0 < sumF (fun k => b2i (x 9 k = 2 ∧ x 10 k = b)) n ↔ under n x b := by
  obtain ⟨m, h1, h2, h3⟩ := sumB (g := fun k => b2i (x 9 k = 2 ∧ x 10 k = b)) (P := fun k => x 9 k = 2 ∧ x 10 k = b) (fun _ => rfl) n (by omega)
  rw [h2, show (0 : Int32) = nI 0 from rfl, nI_ltI (by decide) (by omega)]
  constructor
  · intro hm
    refine Classical.byContradiction (fun z => ?_)
    have : m = 0 := h3.mpr (fun k hk q => z ⟨k, hk, q⟩)
    omega
  · rintro ⟨k, hk, q⟩
    rcases Nat.eq_zero_or_pos m with hm | hm
    · exact absurd q (h3.mp hm k hk)
    · exact hm
theorem go0_iff {b : Int32} (hn : n ≤ 20) : sumF (fun k => b2i (x 9 k = 2 ∧ x 10 k = b)) n = 0 ↔ ¬ under n x b := by
  rw [sumB0 (g := fun k => b2i (x 9 k = 2 ∧ x 10 k = b)) (P := fun k => x 9 k = 2 ∧ x 10 k = b) (n := n) (fun _ => rfl) (by omega)]
  exact ⟨fun z w => by obtain ⟨k, hk, q⟩ := w; exact z k hk q, fun z k hk q => z ⟨k, hk, q⟩⟩
end AN
theorem dcd_IO (r : Int32) : dcd (some nIO) r = -11 := by
  show (if nIO = nIO then (-11 : Int32) else if nIO = nIA then -12 else -13) = -11
  rw [if_pos rfl]
theorem dcd_IA (r : Int32) : dcd (some nIA) r = -12 := by
  show (if nIA = nIO then (-11 : Int32) else if nIA = nIA then -12 else -13) = -12
  rw [if_neg (by decide), if_pos rfl]
theorem dcd_IS (r : Int32) : dcd (some nIS) r = -13 := by
  show (if nIS = nIO then (-11 : Int32) else if nIS = nIA then -12 else -13) = -13
  rw [if_neg (by decide), if_neg (by decide)]
theorem no_x {xo : Option String} {E : String} {P : Prop} (h0 : xo = none) (h : xo = some E) : P := by rw [h0] at h; cases h
/-! numbers -/
theorem addN {x y : Int32} {a b : Nat} (hx : x = nI a) (hy : y = nI b) : x + y = nI (a + b) := by rw [hx, hy, nI_add]
theorem divN {x : Int32} {a m : Nat} (hx : x = nI a) (ha : a < 2 ^ 31) (hm : m < 2 ^ 31) : x / nI m = nI (a / m) := by
  rw [hx]
  have h1 : a / m ≤ a := Nat.div_le_self a m
  apply Int32.toInt_inj.mp
  rw [Int32.toInt_div_of_ne_right _ _ (nI_nm hm), nI_toInt ha, nI_toInt hm, nI_toInt (by omega), Int.tdiv_eq_ediv_of_nonneg (by omega)]
  exact (Int.natCast_ediv a m).symm
theorem remN {x : Int32} {a m : Nat} (hx : x = nI a) (ha : a < 2 ^ 31) (hm : m < 2 ^ 31) : x - x / nI m * nI m = nI (a % m) := by
  rw [divN hx ha hm, hx]
  have e : nI (a / m) * nI m = nI (a / m * m) := (Int32.ofNat_mul (a / m) m).symm
  rw [e]
  have h1 : a / m * m ≤ a := Nat.div_mul_le_self a m
  have h2 : a % m = a - a / m * m := by rw [Nat.mod_eq_sub_mul_div, Nat.mul_comm]
  rw [h2]
  have e3 : nI a = nI (a - a / m * m) + nI (a / m * m) := by rw [nI_add]; congr 1; omega
  rw [e3, Int32.add_sub_cancel]
theorem over_iff {a l : Nat} (ha : a < 2 ^ 30) (hl : l ≤ 600) : (1440 : Int32) - nI l < nI a - nI a / 1440 * 1440 ↔ 1440 < a % 1440 + l := by
  have hm : a % 1440 < 1440 := Nat.mod_lt a (by decide)
  rw [nI_mod (by omega), Int32.lt_iff_toInt_lt, Int32.toInt_sub, nI_toInt (by omega), nI_toInt (by omega), show (1440 : Int32).toInt = 1440 by decide, Int.bmod_eq_of_le (by omega) (by omega)]
  omega
theorem and_max (v : Int32) : ∃ z : Nat, z < 2 ^ 31 ∧ v &&& 2147483647 = nI z := pk_andE v 31 (by decide +kernel)
