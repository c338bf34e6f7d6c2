/-! THE LAW'S OWN DEPOT: al 0 runs (start, end, charge), 1 states, 2 buses, 3 drivers, 4 charges and what is broken, 5 who is ill, 6 chargers, 7 log, 8 marks, 9 numbers; behind it any world wr -/
def rA (x : Sg) : Nat → Int32 := fun q => if q % 3 = 0 then x 6 (q / 3) else if q % 3 = 1 then x 7 (q / 3) else x 8 (q / 3)
def pA (x : Sg) (f : Nat) : Nat → Int32 := fun q => x f q + 1
def bA (x : Sg) : Nat → Int32 := fun q => if q % 2 = 0 then x 12 (q / 2) else x 13 (q / 2)
def nAr (x : Sg) : Nat → Int32 := fun q => if q = 0 then x 0 0 else if q = 1 then x 1 0 else if q = 2 then x 2 0 else if q = 3 then x 3 0 + 1 else if q = 4 then x 4 0 else 0
def wL (cy : Nat → ClassId) (al : Nat → Nat) (x : Sg) (wr : va_W) : va_W :=
  (al 0, .inl (cy 0, 60, .inl (rA x))) :: (al 1, .inl (cy 0, 20, .inl (x 9))) :: (al 2, .inl (cy 0, 20, .inl (pA x 10))) :: (al 3, .inl (cy 0, 20, .inl (pA x 11))) :: (al 4, .inl (cy 0, 10, .inl (bA x))) :: (al 5, .inl (cy 0, 5, .inl (x 14))) :: (al 6, .inl (cy 0, 2, .inl (pA x 15))) :: (al 7, .inl (cy 0, 60, .inl (x 16))) :: (al 8, .inl (cy 0, 60, .inl (x 18))) :: (al 9, .inl (cy 0, 5, .inl (nAr x))) :: wr
theorem rA_n (x : Sg) {f : Nat} (k : Nat) (v : Int32) (h6 : 6 ≠ f) (h7 : 7 ≠ f) (h8 : 8 ≠ f) : rA (su x f k v) = rA x := by
  unfold rA
  rw [su_F x k v h6, su_F x k v h7, su_F x k v h8]
theorem pA_n (x : Sg) {f g : Nat} (k : Nat) (v : Int32) (h : g ≠ f) : pA (su x f k v) g = pA x g := by
  unfold pA
  rw [su_F x k v h]
theorem bA_n (x : Sg) {f : Nat} (k : Nat) (v : Int32) (h12 : 12 ≠ f) (h13 : 13 ≠ f) : bA (su x f k v) = bA x := by
  unfold bA
  rw [su_F x k v h12, su_F x k v h13]
theorem nAr_n (x : Sg) {f : Nat} (k : Nat) (v : Int32) (h0 : 0 ≠ f) (h1 : 1 ≠ f) (h2 : 2 ≠ f) (h3 : 3 ≠ f) (h4 : 4 ≠ f) : nAr (su x f k v) = nAr x := by
  unfold nAr
  rw [su_F x k v h0, su_F x k v h1, su_F x k v h2, su_F x k v h3, su_F x k v h4]
theorem pA_u (x : Sg) (f j : Nat) (u : Int32) : upd (pA x f) j (u + 1) = pA (su x f j u) f := by
  funext q
  simp only [upd, pA, su]
  by_cases h : q = j
  · simp [h]
  · simp [h]
theorem p1_iff {a b : Int32} : a + 1 = b + 1 ↔ a = b := Int32.add_left_inj 1
theorem i3_0 {i : Int32} {j : Nat} (h : i = nI j) : 3 * i = nI (3 * j) := by rw [h]; exact (Int32.ofNat_mul 3 j).symm
theorem i3_1 {i : Int32} {j : Nat} (h : i = nI j) : 3 * i + 1 = nI (3 * j + 1) := by rw [i3_0 h]; exact nI_add _ 1
theorem i3_2 {i : Int32} {j : Nat} (h : i = nI j) : 3 * i + 2 = nI (3 * j + 2) := by rw [i3_0 h]; exact nI_add _ 2
theorem i2_0 {i : Int32} {j : Nat} (h : i = nI j) : 2 * i = nI (2 * j) := by rw [h]; exact (Int32.ofNat_mul 2 j).symm
theorem i2_1 {i : Int32} {j : Nat} (h : i = nI j) : 2 * i + 1 = nI (2 * j + 1) := by rw [i2_0 h]; exact nI_add _ 1
theorem i2_w {i : Int32} {j : Nat} (h : i = nI j) : 2 * (i + 1) - 2 = nI (2 * j) := by
  rw [h, nI_1, i2_0 rfl, show 2 * (j + 1) = 2 * j + 1 + 1 by omega, show nI (2 * j + 1 + 1) - 2 = nI (2 * j + 1 + 1) - 1 - 1 by rw [Int32.sub_sub]; rfl, nI_pred, nI_pred]

theorem rA_0 (x : Sg) (j : Nat) : rA x (3 * j) = x 6 j := by
  unfold rA
  have h1 : (3 * j) % 3 = 0 := by omega
  have h2 : (3 * j) / 3 = j := by omega
  simp [h1, h2]
theorem rA_u0 (x : Sg) (j : Nat) (v : Int32) : upd (rA x) (3 * j) v = rA (su x 6 j v) := by
  funext q
  simp only [upd, rA, su]
  by_cases h : q = 3 * j
  · subst h
    have h1 : (3 * j) % 3 = 0 := by omega
    have h2 : (3 * j) / 3 = j := by omega
    simp [h1, h2]
  · have h3 : q % 3 = 0 → q / 3 ≠ j := by omega
    rw [if_neg h]
    have h4 : q % 3 = 0 ∨ q % 3 = 1 ∨ q % 3 = 2 := by omega
    rcases h4 with h4 | h4 | h4 <;> simp [h4] at h3 ⊢ <;> simp [h3]
theorem rA_1 (x : Sg) (j : Nat) : rA x (3 * j + 1) = x 7 j := by
  unfold rA
  have h1 : (3 * j + 1) % 3 = 1 := by omega
  have h2 : (3 * j + 1) / 3 = j := by omega
  simp [h1, h2]
theorem rA_u1 (x : Sg) (j : Nat) (v : Int32) : upd (rA x) (3 * j + 1) v = rA (su x 7 j v) := by
  funext q
  simp only [upd, rA, su]
  by_cases h : q = 3 * j + 1
  · subst h
    have h1 : (3 * j + 1) % 3 = 1 := by omega
    have h2 : (3 * j + 1) / 3 = j := by omega
    simp [h1, h2]
  · have h3 : q % 3 = 1 → q / 3 ≠ j := by omega
    rw [if_neg h]
    have h4 : q % 3 = 0 ∨ q % 3 = 1 ∨ q % 3 = 2 := by omega
    rcases h4 with h4 | h4 | h4 <;> simp [h4] at h3 ⊢ <;> simp [h3]
theorem rA_2 (x : Sg) (j : Nat) : rA x (3 * j + 2) = x 8 j := by
  unfold rA
  have h1 : (3 * j + 2) % 3 = 2 := by omega
  have h2 : (3 * j + 2) / 3 = j := by omega
  simp [h1, h2]
theorem rA_u2 (x : Sg) (j : Nat) (v : Int32) : upd (rA x) (3 * j + 2) v = rA (su x 8 j v) := by
  funext q
  simp only [upd, rA, su]
  by_cases h : q = 3 * j + 2
  · subst h
    have h1 : (3 * j + 2) % 3 = 2 := by omega
    have h2 : (3 * j + 2) / 3 = j := by omega
    simp [h1, h2]
  · have h3 : q % 3 = 2 → q / 3 ≠ j := by omega
    rw [if_neg h]
    have h4 : q % 3 = 0 ∨ q % 3 = 1 ∨ q % 3 = 2 := by omega
    rcases h4 with h4 | h4 | h4 <;> simp [h4] at h3 ⊢ <;> simp [h3]
theorem bA_0 (x : Sg) (j : Nat) : bA x (2 * j) = x 12 j := by
  unfold bA
  have h1 : (2 * j) % 2 = 0 := by omega
  have h2 : (2 * j) / 2 = j := by omega
  simp [h1, h2]
theorem bA_u0 (x : Sg) (j : Nat) (v : Int32) : upd (bA x) (2 * j) v = bA (su x 12 j v) := by
  funext q
  simp only [upd, bA, su]
  by_cases h : q = 2 * j
  · subst h
    have h1 : (2 * j) % 2 = 0 := by omega
    have h2 : (2 * j) / 2 = j := by omega
    simp [h1, h2]
  · have h3 : q % 2 = 0 → q / 2 ≠ j := by omega
    rw [if_neg h]
    have h4 : q % 2 = 0 ∨ q % 2 = 1 := by omega
    rcases h4 with h4 | h4 <;> simp [h4] at h3 ⊢ <;> simp [h3]
theorem bA_1 (x : Sg) (j : Nat) : bA x (2 * j + 1) = x 13 j := by
  unfold bA
  have h1 : (2 * j + 1) % 2 = 1 := by omega
  have h2 : (2 * j + 1) / 2 = j := by omega
  simp [h1, h2]
theorem bA_u1 (x : Sg) (j : Nat) (v : Int32) : upd (bA x) (2 * j + 1) v = bA (su x 13 j v) := by
  funext q
  simp only [upd, bA, su]
  by_cases h : q = 2 * j + 1
  · subst h
    have h1 : (2 * j + 1) % 2 = 1 := by omega
    have h2 : (2 * j + 1) / 2 = j := by omega
    simp [h1, h2]
  · have h3 : q % 2 = 1 → q / 2 ≠ j := by omega
    rw [if_neg h]
    have h4 : q % 2 = 0 ∨ q % 2 = 1 := by omega
    rcases h4 with h4 | h4 <;> simp [h4] at h3 ⊢ <;> simp [h3]
theorem nAr_u0 (x : Sg) (v : Int32) : upd (nAr x) 0 v = nAr (su x 0 0 v) := by
  funext q
  simp only [upd, nAr, su]
  by_cases h : q = 0
  · subst h; simp
  · rw [if_neg h]
    by_cases h0 : q = 0
    · subst h0; first | exact absurd rfl h | simp
    by_cases h1 : q = 1
    · subst h1; first | exact absurd rfl h | simp
    by_cases h2 : q = 2
    · subst h2; first | exact absurd rfl h | simp
    by_cases h3 : q = 3
    · subst h3; first | exact absurd rfl h | simp
    by_cases h4 : q = 4
    · subst h4; first | exact absurd rfl h | simp
    simp [h0, h1, h2, h3, h4]
theorem nAr_u1 (x : Sg) (v : Int32) : upd (nAr x) 1 v = nAr (su x 1 0 v) := by
  funext q
  simp only [upd, nAr, su]
  by_cases h : q = 1
  · subst h; simp
  · rw [if_neg h]
    by_cases h0 : q = 0
    · subst h0; first | exact absurd rfl h | simp
    by_cases h1 : q = 1
    · subst h1; first | exact absurd rfl h | simp
    by_cases h2 : q = 2
    · subst h2; first | exact absurd rfl h | simp
    by_cases h3 : q = 3
    · subst h3; first | exact absurd rfl h | simp
    by_cases h4 : q = 4
    · subst h4; first | exact absurd rfl h | simp
    simp [h0, h1, h2, h3, h4]
theorem nAr_u2 (x : Sg) (v : Int32) : upd (nAr x) 2 v = nAr (su x 2 0 v) := by
  funext q
  simp only [upd, nAr, su]
  by_cases h : q = 2
  · subst h; simp
  · rw [if_neg h]
    by_cases h0 : q = 0
    · subst h0; first | exact absurd rfl h | simp
    by_cases h1 : q = 1
    · subst h1; first | exact absurd rfl h | simp
    by_cases h2 : q = 2
    · subst h2; first | exact absurd rfl h | simp
    by_cases h3 : q = 3
    · subst h3; first | exact absurd rfl h | simp
    by_cases h4 : q = 4
    · subst h4; first | exact absurd rfl h | simp
    simp [h0, h1, h2, h3, h4]
theorem nAr_u3 (x : Sg) (v : Int32) : upd (nAr x) 3 (v + 1) = nAr (su x 3 0 v) := by
  funext q
  simp only [upd, nAr, su]
  by_cases h : q = 3
  · subst h; simp
  · rw [if_neg h]
    by_cases h0 : q = 0
    · subst h0; first | exact absurd rfl h | simp
    by_cases h1 : q = 1
    · subst h1; first | exact absurd rfl h | simp
    by_cases h2 : q = 2
    · subst h2; first | exact absurd rfl h | simp
    by_cases h3 : q = 3
    · subst h3; first | exact absurd rfl h | simp
    by_cases h4 : q = 4
    · subst h4; first | exact absurd rfl h | simp
    simp [h0, h1, h2, h3, h4]
theorem nAr_u4 (x : Sg) (v : Int32) : upd (nAr x) 4 v = nAr (su x 4 0 v) := by
  funext q
  simp only [upd, nAr, su]
  by_cases h : q = 4
  · subst h; simp
  · rw [if_neg h]
    by_cases h0 : q = 0
    · subst h0; first | exact absurd rfl h | simp
    by_cases h1 : q = 1
    · subst h1; first | exact absurd rfl h | simp
    by_cases h2 : q = 2
    · subst h2; first | exact absurd rfl h | simp
    by_cases h3 : q = 3
    · subst h3; first | exact absurd rfl h | simp
    by_cases h4 : q = 4
    · subst h4; first | exact absurd rfl h | simp
    simp [h0, h1, h2, h3, h4]
section WLL
variable {p : Program} {l : Launch} {e : Env} {R : Room} {s : State} {m : MethodId} {args : Array Value} {below : List Frame} {meth : Method} {c : Code} {cells slots : Nat} {Q : State → Prop} {cc : ByteArray} {nL : Nat} {Ts : List Cond} {own : String} {ret : Option FieldType} {G : va_G} {cy : Nat → ClassId} {A : Nat → Prop} {pc : Nat} {lo : List (Option Value)} {st rest : List Value} {al : Nat → Nat} {x : Sg} {wr w w1 w2 wc : va_W}
variable {y : MethodName} {wsY wsY' : List Cond} {fr lc mc ms : Nat} {As : List Value} {r : Int32} {b : Nat} {bytes : ByteArray} {maxL idx nA : Nat} {retY : Option FieldType}
theorem vL_l_r0 (C : vC p s m args meth c cc nL Ts own ret G cy A) (j : Nat) {i : Int32} (hi : i = nI j) (hj : j < 20) (hd : decode cc pc = .ok (.iaload, 1)) (k : V p l e R s m args below meth c nL G A Q (wL cy al x wr) cells slots (pc + 1) lo (.int (x 6 j) :: st)) : V p l e R s m args below meth c nL G A Q (wL cy al x wr) cells slots (pc) lo (.int (3 * i) :: .ref (al 0) :: st) := v_iald C 0 (3 * j) (n := 60) (f := rA x) rfl (i3_0 hi) (by omega) (by decide) hd (by rw [rA_0]; exact k)
theorem vL_l_r1 (C : vC p s m args meth c cc nL Ts own ret G cy A) (j : Nat) {i : Int32} (hi : i = nI j) (hj : j < 20) (hd : decode cc pc = .ok (.iaload, 1)) (k : V p l e R s m args below meth c nL G A Q (wL cy al x wr) cells slots (pc + 1) lo (.int (x 7 j) :: st)) : V p l e R s m args below meth c nL G A Q (wL cy al x wr) cells slots (pc) lo (.int (3 * i + 1) :: .ref (al 0) :: st) := v_iald C 0 (3 * j + 1) (n := 60) (f := rA x) rfl (i3_1 hi) (by omega) (by decide) hd (by rw [rA_1]; exact k)
theorem vL_l_r2 (C : vC p s m args meth c cc nL Ts own ret G cy A) (j : Nat) {i : Int32} (hi : i = nI j) (hj : j < 20) (hd : decode cc pc = .ok (.iaload, 1)) (k : V p l e R s m args below meth c nL G A Q (wL cy al x wr) cells slots (pc + 1) lo (.int (x 8 j) :: st)) : V p l e R s m args below meth c nL G A Q (wL cy al x wr) cells slots (pc) lo (.int (3 * i + 2) :: .ref (al 0) :: st) := v_iald C 0 (3 * j + 2) (n := 60) (f := rA x) rfl (i3_2 hi) (by omega) (by decide) hd (by rw [rA_2]; exact k)
theorem vL_l_rq (C : vC p s m args meth c cc nL Ts own ret G cy A) (j : Nat) {i : Int32} (hi : i = nI j) (hj : j < 60) (hd : decode cc pc = .ok (.iaload, 1)) (k : V p l e R s m args below meth c nL G A Q (wL cy al x wr) cells slots (pc + 1) lo (.int (rA x j) :: st)) : V p l e R s m args below meth c nL G A Q (wL cy al x wr) cells slots (pc) lo (.int (i) :: .ref (al 0) :: st) := v_iald C 0 (j) (n := 60) (f := rA x) rfl hi (by omega) (by decide) hd k
theorem vL_l_s (C : vC p s m args meth c cc nL Ts own ret G cy A) (j : Nat) {i : Int32} (hi : i = nI j) (hj : j < 20) (hd : decode cc pc = .ok (.iaload, 1)) (k : V p l e R s m args below meth c nL G A Q (wL cy al x wr) cells slots (pc + 1) lo (.int (x 9 j) :: st)) : V p l e R s m args below meth c nL G A Q (wL cy al x wr) cells slots (pc) lo (.int (i) :: .ref (al 1) :: st) := v_iald C 1 (j) (n := 20) (f := x 9) rfl hi (by omega) (by decide) hd k
theorem vL_l_w (C : vC p s m args meth c cc nL Ts own ret G cy A) (j : Nat) {i : Int32} (hi : i = nI j) (hj : j < 20) (hd : decode cc pc = .ok (.iaload, 1)) (k : V p l e R s m args below meth c nL G A Q (wL cy al x wr) cells slots (pc + 1) lo (.int (x 10 j + 1) :: st)) : V p l e R s m args below meth c nL G A Q (wL cy al x wr) cells slots (pc) lo (.int (i) :: .ref (al 2) :: st) := v_iald C 2 (j) (n := 20) (f := pA x 10) rfl hi (by omega) (by decide) hd k
theorem vL_l_d (C : vC p s m args meth c cc nL Ts own ret G cy A) (j : Nat) {i : Int32} (hi : i = nI j) (hj : j < 20) (hd : decode cc pc = .ok (.iaload, 1)) (k : V p l e R s m args below meth c nL G A Q (wL cy al x wr) cells slots (pc + 1) lo (.int (x 11 j + 1) :: st)) : V p l e R s m args below meth c nL G A Q (wL cy al x wr) cells slots (pc) lo (.int (i) :: .ref (al 3) :: st) := v_iald C 3 (j) (n := 20) (f := pA x 11) rfl hi (by omega) (by decide) hd k
theorem vL_l_b0 (C : vC p s m args meth c cc nL Ts own ret G cy A) (j : Nat) {i : Int32} (hi : i = nI j) (hj : j < 5) (hd : decode cc pc = .ok (.iaload, 1)) (k : V p l e R s m args below meth c nL G A Q (wL cy al x wr) cells slots (pc + 1) lo (.int (x 12 j) :: st)) : V p l e R s m args below meth c nL G A Q (wL cy al x wr) cells slots (pc) lo (.int (2 * i) :: .ref (al 4) :: st) := v_iald C 4 (2 * j) (n := 10) (f := bA x) rfl (i2_0 hi) (by omega) (by decide) hd (by rw [bA_0]; exact k)
theorem vL_l_b1 (C : vC p s m args meth c cc nL Ts own ret G cy A) (j : Nat) {i : Int32} (hi : i = nI j) (hj : j < 5) (hd : decode cc pc = .ok (.iaload, 1)) (k : V p l e R s m args below meth c nL G A Q (wL cy al x wr) cells slots (pc + 1) lo (.int (x 13 j) :: st)) : V p l e R s m args below meth c nL G A Q (wL cy al x wr) cells slots (pc) lo (.int (2 * i + 1) :: .ref (al 4) :: st) := v_iald C 4 (2 * j + 1) (n := 10) (f := bA x) rfl (i2_1 hi) (by omega) (by decide) hd (by rw [bA_1]; exact k)
theorem vL_l_bw (C : vC p s m args meth c cc nL Ts own ret G cy A) (j : Nat) {i : Int32} (hi : i = nI j) (hj : j < 5) (hd : decode cc pc = .ok (.iaload, 1)) (k : V p l e R s m args below meth c nL G A Q (wL cy al x wr) cells slots (pc + 1) lo (.int (x 12 j) :: st)) : V p l e R s m args below meth c nL G A Q (wL cy al x wr) cells slots (pc) lo (.int (2 * (i + 1) - 2) :: .ref (al 4) :: st) := v_iald C 4 (2 * j) (n := 10) (f := bA x) rfl (i2_w hi) (by omega) (by decide) hd (by rw [bA_0]; exact k)
theorem vL_l_i (C : vC p s m args meth c cc nL Ts own ret G cy A) (j : Nat) {i : Int32} (hi : i = nI j) (hj : j < 5) (hd : decode cc pc = .ok (.iaload, 1)) (k : V p l e R s m args below meth c nL G A Q (wL cy al x wr) cells slots (pc + 1) lo (.int (x 14 j) :: st)) : V p l e R s m args below meth c nL G A Q (wL cy al x wr) cells slots (pc) lo (.int (i) :: .ref (al 5) :: st) := v_iald C 5 (j) (n := 5) (f := x 14) rfl hi (by omega) (by decide) hd k
theorem vL_l_g (C : vC p s m args meth c cc nL Ts own ret G cy A) (j : Nat) {i : Int32} (hi : i = nI j) (hj : j < 2) (hd : decode cc pc = .ok (.iaload, 1)) (k : V p l e R s m args below meth c nL G A Q (wL cy al x wr) cells slots (pc + 1) lo (.int (x 15 j + 1) :: st)) : V p l e R s m args below meth c nL G A Q (wL cy al x wr) cells slots (pc) lo (.int (i) :: .ref (al 6) :: st) := v_iald C 6 (j) (n := 2) (f := pA x 15) rfl hi (by omega) (by decide) hd k
theorem vL_l_l (C : vC p s m args meth c cc nL Ts own ret G cy A) (j : Nat) {i : Int32} (hi : i = nI j) (hj : j < 60) (hd : decode cc pc = .ok (.iaload, 1)) (k : V p l e R s m args below meth c nL G A Q (wL cy al x wr) cells slots (pc + 1) lo (.int (x 16 j) :: st)) : V p l e R s m args below meth c nL G A Q (wL cy al x wr) cells slots (pc) lo (.int (i) :: .ref (al 7) :: st) := v_iald C 7 (j) (n := 60) (f := x 16) rfl hi (by omega) (by decide) hd k
theorem vL_l_m (C : vC p s m args meth c cc nL Ts own ret G cy A) (j : Nat) {i : Int32} (hi : i = nI j) (hj : j < 60) (hd : decode cc pc = .ok (.iaload, 1)) (k : V p l e R s m args below meth c nL G A Q (wL cy al x wr) cells slots (pc + 1) lo (.int (x 18 j) :: st)) : V p l e R s m args below meth c nL G A Q (wL cy al x wr) cells slots (pc) lo (.int (i) :: .ref (al 8) :: st) := v_iald C 8 (j) (n := 60) (f := x 18) rfl hi (by omega) (by decide) hd k
theorem vL_l_n0 (C : vC p s m args meth c cc nL Ts own ret G cy A) (hd : decode cc pc = .ok (.iaload, 1)) (k : V p l e R s m args below meth c nL G A Q (wL cy al x wr) cells slots (pc + 1) lo (.int (x 0 0) :: st)) : V p l e R s m args below meth c nL G A Q (wL cy al x wr) cells slots (pc) lo (.int (0) :: .ref (al 9) :: st) := v_iald C 9 (0) (n := 5) (f := nAr x) rfl rfl (by decide) (by decide) hd k
theorem vL_l_n1 (C : vC p s m args meth c cc nL Ts own ret G cy A) (hd : decode cc pc = .ok (.iaload, 1)) (k : V p l e R s m args below meth c nL G A Q (wL cy al x wr) cells slots (pc + 1) lo (.int (x 1 0) :: st)) : V p l e R s m args below meth c nL G A Q (wL cy al x wr) cells slots (pc) lo (.int (1) :: .ref (al 9) :: st) := v_iald C 9 (1) (n := 5) (f := nAr x) rfl rfl (by decide) (by decide) hd k
theorem vL_l_n2 (C : vC p s m args meth c cc nL Ts own ret G cy A) (hd : decode cc pc = .ok (.iaload, 1)) (k : V p l e R s m args below meth c nL G A Q (wL cy al x wr) cells slots (pc + 1) lo (.int (x 2 0) :: st)) : V p l e R s m args below meth c nL G A Q (wL cy al x wr) cells slots (pc) lo (.int (2) :: .ref (al 9) :: st) := v_iald C 9 (2) (n := 5) (f := nAr x) rfl rfl (by decide) (by decide) hd k
theorem vL_l_n3 (C : vC p s m args meth c cc nL Ts own ret G cy A) (hd : decode cc pc = .ok (.iaload, 1)) (k : V p l e R s m args below meth c nL G A Q (wL cy al x wr) cells slots (pc + 1) lo (.int (x 3 0 + 1) :: st)) : V p l e R s m args below meth c nL G A Q (wL cy al x wr) cells slots (pc) lo (.int (3) :: .ref (al 9) :: st) := v_iald C 9 (3) (n := 5) (f := nAr x) rfl rfl (by decide) (by decide) hd k
theorem vL_l_n4 (C : vC p s m args meth c cc nL Ts own ret G cy A) (hd : decode cc pc = .ok (.iaload, 1)) (k : V p l e R s m args below meth c nL G A Q (wL cy al x wr) cells slots (pc + 1) lo (.int (x 4 0) :: st)) : V p l e R s m args below meth c nL G A Q (wL cy al x wr) cells slots (pc) lo (.int (4) :: .ref (al 9) :: st) := v_iald C 9 (4) (n := 5) (f := nAr x) rfl rfl (by decide) (by decide) hd k
theorem vL_s_r0 (C : vC p s m args meth c cc nL Ts own ret G cy A) (j : Nat) {i : Int32} (hi : i = nI j) (hj : j < 20) {v : Int32} (hd : decode cc pc = .ok (.iastore, 1)) (k : V p l e R s m args below meth c nL G A Q (wL cy al (su x 6 j v) wr) cells slots (pc + 1) lo (st)) : V p l e R s m args below meth c nL G A Q (wL cy al x wr) cells slots (pc) lo (.int v :: .int (3 * i) :: .ref (al 0) :: st) := by
  exact v_iast C 0 (3 * j) (n := 60) (f := rA x) rfl (i3_0 hi) (by omega) (by decide) (by rw [rA_u0]; simp only [wL, su_F x j v (show 9 ≠ 6 by decide), su_F x j v (show 14 ≠ 6 by decide), su_F x j v (show 16 ≠ 6 by decide), su_F x j v (show 18 ≠ 6 by decide), pA_n x j v (show 10 ≠ 6 by decide), pA_n x j v (show 11 ≠ 6 by decide), pA_n x j v (show 15 ≠ 6 by decide), bA_n x j v (show 12 ≠ 6 by decide) (show 13 ≠ 6 by decide), nAr_n x j v (show 0 ≠ 6 by decide) (show 1 ≠ 6 by decide) (show 2 ≠ 6 by decide) (show 3 ≠ 6 by decide) (show 4 ≠ 6 by decide)]; rfl) hd k
theorem vL_s_r1 (C : vC p s m args meth c cc nL Ts own ret G cy A) (j : Nat) {i : Int32} (hi : i = nI j) (hj : j < 20) {v : Int32} (hd : decode cc pc = .ok (.iastore, 1)) (k : V p l e R s m args below meth c nL G A Q (wL cy al (su x 7 j v) wr) cells slots (pc + 1) lo (st)) : V p l e R s m args below meth c nL G A Q (wL cy al x wr) cells slots (pc) lo (.int v :: .int (3 * i + 1) :: .ref (al 0) :: st) := by
  exact v_iast C 0 (3 * j + 1) (n := 60) (f := rA x) rfl (i3_1 hi) (by omega) (by decide) (by rw [rA_u1]; simp only [wL, su_F x j v (show 9 ≠ 7 by decide), su_F x j v (show 14 ≠ 7 by decide), su_F x j v (show 16 ≠ 7 by decide), su_F x j v (show 18 ≠ 7 by decide), pA_n x j v (show 10 ≠ 7 by decide), pA_n x j v (show 11 ≠ 7 by decide), pA_n x j v (show 15 ≠ 7 by decide), bA_n x j v (show 12 ≠ 7 by decide) (show 13 ≠ 7 by decide), nAr_n x j v (show 0 ≠ 7 by decide) (show 1 ≠ 7 by decide) (show 2 ≠ 7 by decide) (show 3 ≠ 7 by decide) (show 4 ≠ 7 by decide)]; rfl) hd k
theorem vL_s_r2 (C : vC p s m args meth c cc nL Ts own ret G cy A) (j : Nat) {i : Int32} (hi : i = nI j) (hj : j < 20) {v : Int32} (hd : decode cc pc = .ok (.iastore, 1)) (k : V p l e R s m args below meth c nL G A Q (wL cy al (su x 8 j v) wr) cells slots (pc + 1) lo (st)) : V p l e R s m args below meth c nL G A Q (wL cy al x wr) cells slots (pc) lo (.int v :: .int (3 * i + 2) :: .ref (al 0) :: st) := by
  exact v_iast C 0 (3 * j + 2) (n := 60) (f := rA x) rfl (i3_2 hi) (by omega) (by decide) (by rw [rA_u2]; simp only [wL, su_F x j v (show 9 ≠ 8 by decide), su_F x j v (show 14 ≠ 8 by decide), su_F x j v (show 16 ≠ 8 by decide), su_F x j v (show 18 ≠ 8 by decide), pA_n x j v (show 10 ≠ 8 by decide), pA_n x j v (show 11 ≠ 8 by decide), pA_n x j v (show 15 ≠ 8 by decide), bA_n x j v (show 12 ≠ 8 by decide) (show 13 ≠ 8 by decide), nAr_n x j v (show 0 ≠ 8 by decide) (show 1 ≠ 8 by decide) (show 2 ≠ 8 by decide) (show 3 ≠ 8 by decide) (show 4 ≠ 8 by decide)]; rfl) hd k
theorem vL_s_s (C : vC p s m args meth c cc nL Ts own ret G cy A) (j : Nat) {i : Int32} (hi : i = nI j) (hj : j < 20) {v : Int32} (hd : decode cc pc = .ok (.iastore, 1)) (k : V p l e R s m args below meth c nL G A Q (wL cy al (su x 9 j v) wr) cells slots (pc + 1) lo (st)) : V p l e R s m args below meth c nL G A Q (wL cy al x wr) cells slots (pc) lo (.int v :: .int (i) :: .ref (al 1) :: st) := by
  exact v_iast C 1 (j) (n := 20) (f := x 9) rfl hi (by omega) (by decide) (by rw [su_u]; simp only [wL, su_F x j v (show 14 ≠ 9 by decide), su_F x j v (show 16 ≠ 9 by decide), su_F x j v (show 18 ≠ 9 by decide), rA_n x j v (show 6 ≠ 9 by decide) (show 7 ≠ 9 by decide) (show 8 ≠ 9 by decide), pA_n x j v (show 10 ≠ 9 by decide), pA_n x j v (show 11 ≠ 9 by decide), pA_n x j v (show 15 ≠ 9 by decide), bA_n x j v (show 12 ≠ 9 by decide) (show 13 ≠ 9 by decide), nAr_n x j v (show 0 ≠ 9 by decide) (show 1 ≠ 9 by decide) (show 2 ≠ 9 by decide) (show 3 ≠ 9 by decide) (show 4 ≠ 9 by decide)]; rfl) hd k
theorem vL_s_w (C : vC p s m args meth c cc nL Ts own ret G cy A) (j : Nat) {i : Int32} (hi : i = nI j) (hj : j < 20) {u v : Int32} (hv : u = v + 1) (hd : decode cc pc = .ok (.iastore, 1)) (k : V p l e R s m args below meth c nL G A Q (wL cy al (su x 10 j v) wr) cells slots (pc + 1) lo (st)) : V p l e R s m args below meth c nL G A Q (wL cy al x wr) cells slots (pc) lo (.int u :: .int (i) :: .ref (al 2) :: st) := by
  subst hv; exact v_iast C 2 (j) (n := 20) (f := pA x 10) rfl hi (by omega) (by decide) (by rw [pA_u]; simp only [wL, su_F x j v (show 9 ≠ 10 by decide), su_F x j v (show 14 ≠ 10 by decide), su_F x j v (show 16 ≠ 10 by decide), su_F x j v (show 18 ≠ 10 by decide), rA_n x j v (show 6 ≠ 10 by decide) (show 7 ≠ 10 by decide) (show 8 ≠ 10 by decide), pA_n x j v (show 11 ≠ 10 by decide), pA_n x j v (show 15 ≠ 10 by decide), bA_n x j v (show 12 ≠ 10 by decide) (show 13 ≠ 10 by decide), nAr_n x j v (show 0 ≠ 10 by decide) (show 1 ≠ 10 by decide) (show 2 ≠ 10 by decide) (show 3 ≠ 10 by decide) (show 4 ≠ 10 by decide)]; rfl) hd k
theorem vL_s_d (C : vC p s m args meth c cc nL Ts own ret G cy A) (j : Nat) {i : Int32} (hi : i = nI j) (hj : j < 20) {u v : Int32} (hv : u = v + 1) (hd : decode cc pc = .ok (.iastore, 1)) (k : V p l e R s m args below meth c nL G A Q (wL cy al (su x 11 j v) wr) cells slots (pc + 1) lo (st)) : V p l e R s m args below meth c nL G A Q (wL cy al x wr) cells slots (pc) lo (.int u :: .int (i) :: .ref (al 3) :: st) := by
  subst hv; exact v_iast C 3 (j) (n := 20) (f := pA x 11) rfl hi (by omega) (by decide) (by rw [pA_u]; simp only [wL, su_F x j v (show 9 ≠ 11 by decide), su_F x j v (show 14 ≠ 11 by decide), su_F x j v (show 16 ≠ 11 by decide), su_F x j v (show 18 ≠ 11 by decide), rA_n x j v (show 6 ≠ 11 by decide) (show 7 ≠ 11 by decide) (show 8 ≠ 11 by decide), pA_n x j v (show 10 ≠ 11 by decide), pA_n x j v (show 15 ≠ 11 by decide), bA_n x j v (show 12 ≠ 11 by decide) (show 13 ≠ 11 by decide), nAr_n x j v (show 0 ≠ 11 by decide) (show 1 ≠ 11 by decide) (show 2 ≠ 11 by decide) (show 3 ≠ 11 by decide) (show 4 ≠ 11 by decide)]; rfl) hd k
theorem vL_s_b0 (C : vC p s m args meth c cc nL Ts own ret G cy A) (j : Nat) {i : Int32} (hi : i = nI j) (hj : j < 5) {v : Int32} (hd : decode cc pc = .ok (.iastore, 1)) (k : V p l e R s m args below meth c nL G A Q (wL cy al (su x 12 j v) wr) cells slots (pc + 1) lo (st)) : V p l e R s m args below meth c nL G A Q (wL cy al x wr) cells slots (pc) lo (.int v :: .int (2 * i) :: .ref (al 4) :: st) := by
  exact v_iast C 4 (2 * j) (n := 10) (f := bA x) rfl (i2_0 hi) (by omega) (by decide) (by rw [bA_u0]; simp only [wL, su_F x j v (show 9 ≠ 12 by decide), su_F x j v (show 14 ≠ 12 by decide), su_F x j v (show 16 ≠ 12 by decide), su_F x j v (show 18 ≠ 12 by decide), rA_n x j v (show 6 ≠ 12 by decide) (show 7 ≠ 12 by decide) (show 8 ≠ 12 by decide), pA_n x j v (show 10 ≠ 12 by decide), pA_n x j v (show 11 ≠ 12 by decide), pA_n x j v (show 15 ≠ 12 by decide), nAr_n x j v (show 0 ≠ 12 by decide) (show 1 ≠ 12 by decide) (show 2 ≠ 12 by decide) (show 3 ≠ 12 by decide) (show 4 ≠ 12 by decide)]; rfl) hd k
theorem vL_s_b1 (C : vC p s m args meth c cc nL Ts own ret G cy A) (j : Nat) {i : Int32} (hi : i = nI j) (hj : j < 5) {v : Int32} (hd : decode cc pc = .ok (.iastore, 1)) (k : V p l e R s m args below meth c nL G A Q (wL cy al (su x 13 j v) wr) cells slots (pc + 1) lo (st)) : V p l e R s m args below meth c nL G A Q (wL cy al x wr) cells slots (pc) lo (.int v :: .int (2 * i + 1) :: .ref (al 4) :: st) := by
  exact v_iast C 4 (2 * j + 1) (n := 10) (f := bA x) rfl (i2_1 hi) (by omega) (by decide) (by rw [bA_u1]; simp only [wL, su_F x j v (show 9 ≠ 13 by decide), su_F x j v (show 14 ≠ 13 by decide), su_F x j v (show 16 ≠ 13 by decide), su_F x j v (show 18 ≠ 13 by decide), rA_n x j v (show 6 ≠ 13 by decide) (show 7 ≠ 13 by decide) (show 8 ≠ 13 by decide), pA_n x j v (show 10 ≠ 13 by decide), pA_n x j v (show 11 ≠ 13 by decide), pA_n x j v (show 15 ≠ 13 by decide), nAr_n x j v (show 0 ≠ 13 by decide) (show 1 ≠ 13 by decide) (show 2 ≠ 13 by decide) (show 3 ≠ 13 by decide) (show 4 ≠ 13 by decide)]; rfl) hd k
theorem vL_s_bw (C : vC p s m args meth c cc nL Ts own ret G cy A) (j : Nat) {i : Int32} (hi : i = nI j) (hj : j < 5) {v : Int32} (hd : decode cc pc = .ok (.iastore, 1)) (k : V p l e R s m args below meth c nL G A Q (wL cy al (su x 12 j v) wr) cells slots (pc + 1) lo (st)) : V p l e R s m args below meth c nL G A Q (wL cy al x wr) cells slots (pc) lo (.int v :: .int (2 * (i + 1) - 2) :: .ref (al 4) :: st) := by
  exact v_iast C 4 (2 * j) (n := 10) (f := bA x) rfl (i2_w hi) (by omega) (by decide) (by rw [bA_u0]; simp only [wL, su_F x j v (show 9 ≠ 12 by decide), su_F x j v (show 14 ≠ 12 by decide), su_F x j v (show 16 ≠ 12 by decide), su_F x j v (show 18 ≠ 12 by decide), rA_n x j v (show 6 ≠ 12 by decide) (show 7 ≠ 12 by decide) (show 8 ≠ 12 by decide), pA_n x j v (show 10 ≠ 12 by decide), pA_n x j v (show 11 ≠ 12 by decide), pA_n x j v (show 15 ≠ 12 by decide), nAr_n x j v (show 0 ≠ 12 by decide) (show 1 ≠ 12 by decide) (show 2 ≠ 12 by decide) (show 3 ≠ 12 by decide) (show 4 ≠ 12 by decide)]; rfl) hd k
theorem vL_s_i (C : vC p s m args meth c cc nL Ts own ret G cy A) (j : Nat) {i : Int32} (hi : i = nI j) (hj : j < 5) {v : Int32} (hd : decode cc pc = .ok (.iastore, 1)) (k : V p l e R s m args below meth c nL G A Q (wL cy al (su x 14 j v) wr) cells slots (pc + 1) lo (st)) : V p l e R s m args below meth c nL G A Q (wL cy al x wr) cells slots (pc) lo (.int v :: .int (i) :: .ref (al 5) :: st) := by
  exact v_iast C 5 (j) (n := 5) (f := x 14) rfl hi (by omega) (by decide) (by rw [su_u]; simp only [wL, su_F x j v (show 9 ≠ 14 by decide), su_F x j v (show 16 ≠ 14 by decide), su_F x j v (show 18 ≠ 14 by decide), rA_n x j v (show 6 ≠ 14 by decide) (show 7 ≠ 14 by decide) (show 8 ≠ 14 by decide), pA_n x j v (show 10 ≠ 14 by decide), pA_n x j v (show 11 ≠ 14 by decide), pA_n x j v (show 15 ≠ 14 by decide), bA_n x j v (show 12 ≠ 14 by decide) (show 13 ≠ 14 by decide), nAr_n x j v (show 0 ≠ 14 by decide) (show 1 ≠ 14 by decide) (show 2 ≠ 14 by decide) (show 3 ≠ 14 by decide) (show 4 ≠ 14 by decide)]; rfl) hd k
theorem vL_s_g (C : vC p s m args meth c cc nL Ts own ret G cy A) (j : Nat) {i : Int32} (hi : i = nI j) (hj : j < 2) {u v : Int32} (hv : u = v + 1) (hd : decode cc pc = .ok (.iastore, 1)) (k : V p l e R s m args below meth c nL G A Q (wL cy al (su x 15 j v) wr) cells slots (pc + 1) lo (st)) : V p l e R s m args below meth c nL G A Q (wL cy al x wr) cells slots (pc) lo (.int u :: .int (i) :: .ref (al 6) :: st) := by
  subst hv; exact v_iast C 6 (j) (n := 2) (f := pA x 15) rfl hi (by omega) (by decide) (by rw [pA_u]; simp only [wL, su_F x j v (show 9 ≠ 15 by decide), su_F x j v (show 14 ≠ 15 by decide), su_F x j v (show 16 ≠ 15 by decide), su_F x j v (show 18 ≠ 15 by decide), rA_n x j v (show 6 ≠ 15 by decide) (show 7 ≠ 15 by decide) (show 8 ≠ 15 by decide), pA_n x j v (show 10 ≠ 15 by decide), pA_n x j v (show 11 ≠ 15 by decide), bA_n x j v (show 12 ≠ 15 by decide) (show 13 ≠ 15 by decide), nAr_n x j v (show 0 ≠ 15 by decide) (show 1 ≠ 15 by decide) (show 2 ≠ 15 by decide) (show 3 ≠ 15 by decide) (show 4 ≠ 15 by decide)]; rfl) hd k
theorem vL_s_l (C : vC p s m args meth c cc nL Ts own ret G cy A) (j : Nat) {i : Int32} (hi : i = nI j) (hj : j < 60) {v : Int32} (hd : decode cc pc = .ok (.iastore, 1)) (k : V p l e R s m args below meth c nL G A Q (wL cy al (su x 16 j v) wr) cells slots (pc + 1) lo (st)) : V p l e R s m args below meth c nL G A Q (wL cy al x wr) cells slots (pc) lo (.int v :: .int (i) :: .ref (al 7) :: st) := by
  exact v_iast C 7 (j) (n := 60) (f := x 16) rfl hi (by omega) (by decide) (by rw [su_u]; simp only [wL, su_F x j v (show 9 ≠ 16 by decide), su_F x j v (show 14 ≠ 16 by decide), su_F x j v (show 18 ≠ 16 by decide), rA_n x j v (show 6 ≠ 16 by decide) (show 7 ≠ 16 by decide) (show 8 ≠ 16 by decide), pA_n x j v (show 10 ≠ 16 by decide), pA_n x j v (show 11 ≠ 16 by decide), pA_n x j v (show 15 ≠ 16 by decide), bA_n x j v (show 12 ≠ 16 by decide) (show 13 ≠ 16 by decide), nAr_n x j v (show 0 ≠ 16 by decide) (show 1 ≠ 16 by decide) (show 2 ≠ 16 by decide) (show 3 ≠ 16 by decide) (show 4 ≠ 16 by decide)]; rfl) hd k
theorem vL_s_m (C : vC p s m args meth c cc nL Ts own ret G cy A) (j : Nat) {i : Int32} (hi : i = nI j) (hj : j < 60) {v : Int32} (hd : decode cc pc = .ok (.iastore, 1)) (k : V p l e R s m args below meth c nL G A Q (wL cy al (su x 18 j v) wr) cells slots (pc + 1) lo (st)) : V p l e R s m args below meth c nL G A Q (wL cy al x wr) cells slots (pc) lo (.int v :: .int (i) :: .ref (al 8) :: st) := by
  exact v_iast C 8 (j) (n := 60) (f := x 18) rfl hi (by omega) (by decide) (by rw [su_u]; simp only [wL, su_F x j v (show 9 ≠ 18 by decide), su_F x j v (show 14 ≠ 18 by decide), su_F x j v (show 16 ≠ 18 by decide), rA_n x j v (show 6 ≠ 18 by decide) (show 7 ≠ 18 by decide) (show 8 ≠ 18 by decide), pA_n x j v (show 10 ≠ 18 by decide), pA_n x j v (show 11 ≠ 18 by decide), pA_n x j v (show 15 ≠ 18 by decide), bA_n x j v (show 12 ≠ 18 by decide) (show 13 ≠ 18 by decide), nAr_n x j v (show 0 ≠ 18 by decide) (show 1 ≠ 18 by decide) (show 2 ≠ 18 by decide) (show 3 ≠ 18 by decide) (show 4 ≠ 18 by decide)]; rfl) hd k
theorem vL_s_n0 (C : vC p s m args meth c cc nL Ts own ret G cy A) {v : Int32} (hd : decode cc pc = .ok (.iastore, 1)) (k : V p l e R s m args below meth c nL G A Q (wL cy al (su x 0 0 v) wr) cells slots (pc + 1) lo (st)) : V p l e R s m args below meth c nL G A Q (wL cy al x wr) cells slots (pc) lo (.int v :: .int (0) :: .ref (al 9) :: st) := by
  exact v_iast C 9 (0) (n := 5) (f := nAr x) rfl rfl (by decide) (by decide) (by rw [nAr_u0]; simp only [wL, su_F x 0 v (show 9 ≠ 0 by decide), su_F x 0 v (show 14 ≠ 0 by decide), su_F x 0 v (show 16 ≠ 0 by decide), su_F x 0 v (show 18 ≠ 0 by decide), rA_n x 0 v (show 6 ≠ 0 by decide) (show 7 ≠ 0 by decide) (show 8 ≠ 0 by decide), pA_n x 0 v (show 10 ≠ 0 by decide), pA_n x 0 v (show 11 ≠ 0 by decide), pA_n x 0 v (show 15 ≠ 0 by decide), bA_n x 0 v (show 12 ≠ 0 by decide) (show 13 ≠ 0 by decide)]; rfl) hd k
theorem vL_s_n1 (C : vC p s m args meth c cc nL Ts own ret G cy A) {v : Int32} (hd : decode cc pc = .ok (.iastore, 1)) (k : V p l e R s m args below meth c nL G A Q (wL cy al (su x 1 0 v) wr) cells slots (pc + 1) lo (st)) : V p l e R s m args below meth c nL G A Q (wL cy al x wr) cells slots (pc) lo (.int v :: .int (1) :: .ref (al 9) :: st) := by
  exact v_iast C 9 (1) (n := 5) (f := nAr x) rfl rfl (by decide) (by decide) (by rw [nAr_u1]; simp only [wL, su_F x 0 v (show 9 ≠ 1 by decide), su_F x 0 v (show 14 ≠ 1 by decide), su_F x 0 v (show 16 ≠ 1 by decide), su_F x 0 v (show 18 ≠ 1 by decide), rA_n x 0 v (show 6 ≠ 1 by decide) (show 7 ≠ 1 by decide) (show 8 ≠ 1 by decide), pA_n x 0 v (show 10 ≠ 1 by decide), pA_n x 0 v (show 11 ≠ 1 by decide), pA_n x 0 v (show 15 ≠ 1 by decide), bA_n x 0 v (show 12 ≠ 1 by decide) (show 13 ≠ 1 by decide)]; rfl) hd k
theorem vL_s_n2 (C : vC p s m args meth c cc nL Ts own ret G cy A) {v : Int32} (hd : decode cc pc = .ok (.iastore, 1)) (k : V p l e R s m args below meth c nL G A Q (wL cy al (su x 2 0 v) wr) cells slots (pc + 1) lo (st)) : V p l e R s m args below meth c nL G A Q (wL cy al x wr) cells slots (pc) lo (.int v :: .int (2) :: .ref (al 9) :: st) := by
  exact v_iast C 9 (2) (n := 5) (f := nAr x) rfl rfl (by decide) (by decide) (by rw [nAr_u2]; simp only [wL, su_F x 0 v (show 9 ≠ 2 by decide), su_F x 0 v (show 14 ≠ 2 by decide), su_F x 0 v (show 16 ≠ 2 by decide), su_F x 0 v (show 18 ≠ 2 by decide), rA_n x 0 v (show 6 ≠ 2 by decide) (show 7 ≠ 2 by decide) (show 8 ≠ 2 by decide), pA_n x 0 v (show 10 ≠ 2 by decide), pA_n x 0 v (show 11 ≠ 2 by decide), pA_n x 0 v (show 15 ≠ 2 by decide), bA_n x 0 v (show 12 ≠ 2 by decide) (show 13 ≠ 2 by decide)]; rfl) hd k
theorem vL_s_n3 (C : vC p s m args meth c cc nL Ts own ret G cy A) {u v : Int32} (hv : u = v + 1) (hd : decode cc pc = .ok (.iastore, 1)) (k : V p l e R s m args below meth c nL G A Q (wL cy al (su x 3 0 v) wr) cells slots (pc + 1) lo (st)) : V p l e R s m args below meth c nL G A Q (wL cy al x wr) cells slots (pc) lo (.int u :: .int (3) :: .ref (al 9) :: st) := by
  subst hv; exact v_iast C 9 (3) (n := 5) (f := nAr x) rfl rfl (by decide) (by decide) (by rw [nAr_u3]; simp only [wL, su_F x 0 v (show 9 ≠ 3 by decide), su_F x 0 v (show 14 ≠ 3 by decide), su_F x 0 v (show 16 ≠ 3 by decide), su_F x 0 v (show 18 ≠ 3 by decide), rA_n x 0 v (show 6 ≠ 3 by decide) (show 7 ≠ 3 by decide) (show 8 ≠ 3 by decide), pA_n x 0 v (show 10 ≠ 3 by decide), pA_n x 0 v (show 11 ≠ 3 by decide), pA_n x 0 v (show 15 ≠ 3 by decide), bA_n x 0 v (show 12 ≠ 3 by decide) (show 13 ≠ 3 by decide)]; rfl) hd k
theorem vL_s_n4 (C : vC p s m args meth c cc nL Ts own ret G cy A) {v : Int32} (hd : decode cc pc = .ok (.iastore, 1)) (k : V p l e R s m args below meth c nL G A Q (wL cy al (su x 4 0 v) wr) cells slots (pc + 1) lo (st)) : V p l e R s m args below meth c nL G A Q (wL cy al x wr) cells slots (pc) lo (.int v :: .int (4) :: .ref (al 9) :: st) := by
  exact v_iast C 9 (4) (n := 5) (f := nAr x) rfl rfl (by decide) (by decide) (by rw [nAr_u4]; simp only [wL, su_F x 0 v (show 9 ≠ 4 by decide), su_F x 0 v (show 14 ≠ 4 by decide), su_F x 0 v (show 16 ≠ 4 by decide), su_F x 0 v (show 18 ≠ 4 by decide), rA_n x 0 v (show 6 ≠ 4 by decide) (show 7 ≠ 4 by decide) (show 8 ≠ 4 by decide), pA_n x 0 v (show 10 ≠ 4 by decide), pA_n x 0 v (show 11 ≠ 4 by decide), pA_n x 0 v (show 15 ≠ 4 by decide), bA_n x 0 v (show 12 ≠ 4 by decide) (show 13 ≠ 4 by decide)]; rfl) hd k
theorem v_callSV (C : vC p s m args meth c cc nL Ts own ret G cy A) (wl wr : va_W) (k : KV l G cy y wsY fr lc mc ms As wc w1) (hw : wsY = Cond.code y bytes maxL retY :: wsY') (hg : GoodIn Ts (va_wsS own idx y wsY))
    (hy : y.cls ≠ "java/lang/invoke/MethodHandle" ∧ y.cls ≠ "java/lang/invoke/VarHandle" ∧ (parseMethodDescriptor y.desc).map (fun d => d.parameters.length) = some nA) (hna : As.length = nA) (hR : fr + 1 ≤ R.frames ∧ 8 + (maxL + 11) + lc ≤ R.locals) (hcs : cells + mc ≤ R.cells ∧ slots + ms ≤ R.slots)
    (hst : st = As.reverse ++ rest) (hcat : (rest.map fun v => v.category).sum ≤ 8)
    (hw0 : w = wl ++ (wc ++ wr)) (hw2 : wl ++ (w1 ++ wr) = w2) (hd : decode cc pc = .ok (.invokestatic idx, 3)) (kk : V p l e R s m args below meth c nL G A Q w2 (cells + mc) (slots + ms) (pc + 3) lo (rest)) : V p l e R s m args below meth c nL G A Q w cells slots (pc) lo (st) := by
  subst hst
  subst hw0
  subst hw2
  intro H locs ls hP hD hS hl
  obtain ⟨hPc, hDc⟩ := v_in hP hD
  have hFc := v_free hDc hS C.2.2.1
  refine va_callv (va_runS (As := As) (rest := rest) C.1 (k H.size) (va_cwS nA C.1.2.2.2.2 hg hw rfl rfl hy hR) ⟨vI_blind, fun U hU hW => ⟨rfl, by rw [hU], by rw [hU]; exact hPc, va_K.moved hW.alike C.2.1, hDc.weaken (fun _ _ _ _ => trivial)⟩⟩ rfl hna (hl.1.1) rfl (lv_room hcat) hd hcs) hS (fun q _ h => hFc q h) hFc (fun u t H1 locs1 ht hvm hr' hB hz hk hS1 => ?_)
  obtain ⟨hP1, hK1, hD1⟩ := hB
  rw [ht] at hP1
  obtain ⟨hP2, hD2⟩ := v_join hP hD hFc hk hP1 hD1
  exact kk H1 locs1 ls hP2 hD2 hS1 hl
theorem v_sV (C : vC p s m args meth c cc nL Ts own ret G cy A) (k : KV l G cy y wsY fr lc mc ms As w w1) (hw : wsY = Cond.code y bytes maxL retY :: wsY') (hg : GoodIn Ts (va_wsS own idx y wsY)) (hy : y.cls ≠ "java/lang/invoke/MethodHandle" ∧ y.cls ≠ "java/lang/invoke/VarHandle" ∧ (parseMethodDescriptor y.desc).map (fun d => d.parameters.length) = some nA) (hna : As.length = nA) (hR : fr + 1 ≤ R.frames ∧ 8 + (maxL + 11) + lc ≤ R.locals) (hcs : cells + mc ≤ R.cells ∧ slots + ms ≤ R.slots) (hst : st = As.reverse ++ rest) (hcat : (rest.map fun v => v.category).sum ≤ 8) (hd : decode cc pc = .ok (.invokestatic idx, 3)) (kk : V p l e R s m args below meth c nL G A Q w1 (cells + mc) (slots + ms) (pc + 3) lo (rest)) : V p l e R s m args below meth c nL G A Q w cells slots (pc) lo (st) := v_callSV C [] [] k hw hg hy hna hR hcs hst hcat (by simp) (by simp) hd kk
theorem v_ldc (C : vC p s m args meth c cc nL Ts own ret G cy A) {i : Nat} {v : Int32} (hk : Cond.constant own i v ∈ Ts) (hd : decode cc pc = .ok (.ldc i, 2)) (k : V p l e R s m args below meth c nL G A Q w cells slots (pc + 2) lo (.int v :: st)) : V p l e R s m args below meth c nL G A Q w cells slots (pc) lo (st) := fun H locs ls hP hD hS hl => lv_ldc C.1.1 C.1.2.1 C.1.2.2.2.1 (C.1.2.2.2.2 _ hk) hd (k H locs ls hP hD hS hl)
end WLL
