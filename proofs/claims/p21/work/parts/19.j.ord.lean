/-! AN ORDER: the class's answers and states -/
def CAN (n : Nat) (x : Sg) (dp bs dv rn : Nat) : Prop := 0 < n ∧ flead x = nI dp ∧ x 9 rn = 0 ∧ lbf n x bs rn ∧ ldf n x dv rn
section OR
variable {u n om t : Nat} {x : Sg}
theorem pos_iff (h : J u n om t x) : 0 < x 1 0 ↔ 0 < n := by
  have := h.n20
  rw [h.n1, show (0 : Int32) = nI 0 from rfl]
  exact nI_ltI (by decide) (by omega)
theorem can_cls {dp bs dv rn : Nat} (h : J u n om t x) (hu : u ≤ 1000) (hr : rn < n) (hb : bs < 5) (hd : dv < 5) (c : CAN n x dp bs dv rn) : flead x = nI dp ∧ canord n x rn bs dv := (canord_l h hr hb hd hu (nI dp)).mp c.2
theorem can_not {dp bs dv rn : Nat} (h : J u n om t x) (hu : u ≤ 1000) (hr : rn < n) (hb : bs < 5) (hd : dv < 5) (c : ¬ CAN n x dp bs dv rn) : ¬ (flead x = nI dp ∧ canord n x rn bs dv) := fun z => c ⟨by omega, (canord_l h hr hb hd hu (nI dp)).mpr z⟩
theorem mk_neg {mk : Nat} (h : J u n om t x) (hmk : mk < 1000) (c : x 17 mk < 0) : x 17 mk = -1 := by
  rcases h.mk.2 mk hmk with q | ⟨j, h1, h2, -⟩
  · exact q
  · have := h.o60
    rw [h2] at c
    exact absurd c (nI_pos (by omega))
theorem mk_old {mk : Nat} (c : ¬ x 17 mk < 0) : ¬ x 17 mk = -1 := fun z => c (by rw [z]; exact nneg)
theorem xord_can {dp mk r b d : Nat} (h : J u n om t x) (hdp : dp < 2) (hmk : mk < 1000) (hr : r < n) (hb : b < 5) (hd : d < 5) (hnew : x 17 mk = -1) (c : flead x = nI dp ∧ canord n x r b d) : xorder n x (nI dp) (nI mk) (nI r) (nI b) (nI d) = none := by
  rw [xorder_eq h hdp hmk hr hb hd, pif_t hnew, pif_t c.1, pif_t c.2]
theorem xord_not {dp mk r b d : Nat} (h : J u n om t x) (hdp : dp < 2) (hmk : mk < 1000) (hr : r < n) (hb : b < 5) (hd : d < 5) (hnew : x 17 mk = -1) (c : ¬ (flead x = nI dp ∧ canord n x r b d)) : xorder n x (nI dp) (nI mk) (nI r) (nI b) (nI d) = some nIS := by
  rw [xorder_eq h hdp hmk hr hb hd, pif_t hnew]
  by_cases c1 : flead x = nI dp
  · rw [pif_t c1, pif_f (fun z => c ⟨c1, z⟩)]
  · rw [pif_f c1]
theorem xord_old {dp mk r b d : Nat} (h : J u n om t x) (hdp : dp < 2) (hmk : mk < 1000) (hr : r < n) (hb : b < 5) (hd : d < 5) (hold : ¬ x 17 mk = -1) : xorder n x (nI dp) (nI mk) (nI r) (nI b) (nI d) = none := by
  rw [xorder_eq h hdp hmk hr hb hd, pif_f hold]
theorem ror_old {mk : Nat} (hmk : mk < 1000) (hold : ¬ x 17 mk = -1) : rorder x (nI mk) = x 17 mk := by
  unfold rorder
  rw [nI_clamp (show mk < 2 ^ 31 by omega), pif_f hold]
theorem ror_new {mk : Nat} (hmk : mk < 1000) (hnew : x 17 mk = -1) : rorder x (nI mk) = x 2 0 := by
  unfold rorder
  rw [nI_clamp (show mk < 2 ^ 31 by omega), pif_t hnew]
theorem ford_old {mk : Nat} {r b d : Int32} (hmk : mk < 1000) (hold : ¬ x 17 mk = -1) : forder om x (nI mk) r b d = x := by
  unfold forder
  rw [nI_clamp (show mk < 2 ^ 31 by omega), pif_f hold]
theorem ford_new {mk r : Nat} {b d : Int32} (hmk : mk < 1000) (hr : r < 2 ^ 31) (hnew : x 17 mk = -1) : forder om x (nI mk) (nI r) b d = su (su (su (su (su (su x 9 r 1) 10 r b) 11 r d) 16 om (100 * nI r + 10 * b + d)) 17 mk (x 2 0)) 2 0 (x 2 0 + 1) := by
  unfold forder
  rw [nI_clamp (show mk < 2 ^ 31 by omega), nI_clamp hr, pif_t hnew]
  unfold fwrite fgive
  rw [su_f _ _ _ _ (show 2 ≠ 11 by decide), su_f _ _ _ _ (show 2 ≠ 10 by decide), su_f _ _ _ _ (show 2 ≠ 9 by decide)]
theorem yord_L {cy : Nat → ClassId} {al : Nat → Nat} {wr : va_W} {mk r b d : Nat} (hmk : mk < 1000) (hr : r < 2 ^ 31) (hnew : x 17 mk = -1) : wL cy al (su (su (su (su (su (su x 9 r 1) 10 r (nI b)) 11 r (nI d)) 16 om (100 * nI r + 10 * nI b + nI d)) 18 om (nI mk)) 2 0 (x 2 0 + 1)) wr = wL cy al (yord om x mk r b d) wr := wL_c (fun f k hf => by
  unfold yord
  rw [ford_new hmk hr hnew]
  generalize su (su (su (su x 9 r 1) 10 r (nI b)) 11 r (nI d)) 16 om (100 * nI r + 10 * nI b + nI d) = X
  by_cases h18 : f = 18
  · subst h18
    by_cases hk : k = om
    · subst hk; rw [su_s, su_f _ _ _ _ (show 18 ≠ 2 by decide), su_s]
    · rw [su_k _ _ _ hk, su_f _ _ _ _ (show 18 ≠ 2 by decide), su_f _ _ _ _ (show 18 ≠ 17 by decide), su_f _ _ _ _ (show 18 ≠ 2 by decide), su_k _ _ _ hk]
  · rw [su_f _ _ _ _ h18]
    by_cases h2 : f = 2
    · subst h2
      by_cases hk : k = 0
      · subst hk; rw [su_s, su_s]
      · rw [su_k _ _ _ hk, su_k _ _ _ hk, su_f _ _ _ _ (show 2 ≠ 17 by decide), su_f _ _ _ _ (show 2 ≠ 18 by decide)]
    · rw [su_f _ _ _ _ h2, su_f _ _ _ _ h2, su_f _ _ _ _ hf, su_f _ _ _ _ h18])
theorem yord_D {cy : Nat → ClassId} {ad : Nat → Nat} {mk r b d : Nat} : wD cy ad (forder om x (nI mk) (nI r) (nI b) (nI d)) = wD cy ad (yord om x mk r b d) := wD_c (fun f k hf => su_f _ _ _ _ hf)
end OR
