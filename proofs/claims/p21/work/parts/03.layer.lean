/-! THE LAYER: goals over a world and a list of locals; heap, locations and slots hidden -/
theorem vP_iff {D : va_G} {cl : List vw_C} {ws : va_W} {H : Heap} : va_P D cl ws H ↔ ∀ q ∈ ws, va_at D cl q H := by
  refine ⟨fun h q hq => ?_, fun h k q hk => h q (List.mem_of_getElem? hk)⟩
  obtain ⟨i, hi⟩ := List.getElem?_of_mem hq
  exact h i q hi
theorem vD_iff {A : Nat → Prop} {ws : va_W} : va_D A ws ↔ (ws.map (·.1)).Nodup ∧ ∀ q ∈ ws, A q.1 := by
  constructor
  · intro h
    refine ⟨?_, fun q hq => ?_⟩
    · rw [List.nodup_iff_pairwise_ne, List.pairwise_iff_getElem]
      intro i j hi hj hij he
      simp only [List.length_map] at hi hj
      simp only [List.getElem_map] at he
      have := h.1 i j ws[i] ws[j] (List.getElem?_eq_getElem hi) (List.getElem?_eq_getElem hj) he
      omega
    · obtain ⟨i, hi⟩ := List.getElem?_of_mem hq
      exact h.2 i q hi
  · intro h
    obtain ⟨h1, h2⟩ := h
    refine ⟨fun i j p q hi hj hpq => ?_, fun k q hk => h2 q (List.mem_of_getElem? hk)⟩
    rw [List.nodup_iff_pairwise_ne, List.pairwise_iff_getElem] at h1
    obtain ⟨li, ei⟩ := List.getElem?_eq_some_iff.mp hi
    obtain ⟨lj, ej⟩ := List.getElem?_eq_some_iff.mp hj
    rcases Nat.lt_trichotomy i j with h | h | h
    · refine absurd ?_ (h1 i j (by simpa using li) (by simpa using lj) h)
      simp only [List.getElem_map]
      rw [ei, ej]
      exact hpq
    · exact h
    · refine absurd ?_ (h1 j i (by simpa using lj) (by simpa using li) h)
      simp only [List.getElem_map]
      rw [ei, ej]
      exact hpq.symm
/-- a callee's world inside the caller's, before and behind the call -/
theorem v_join {D : va_G} {cl : List vw_C} {A : Nat → Prop} {wl wc wr w1 : va_W} {H H1 : Heap} (hP : va_P D cl (wl ++ (wc ++ wr)) H) (hD : va_D A (wl ++ (wc ++ wr))) (hF : ∀ q, va_A wc H.size q → A q)
    (hk : ∀ q : Nat, q < H.size → ¬ va_A wc H.size q → H1[q]? = H[q]?) (hP1 : va_P D cl w1 H1) (hD1 : va_D (va_A wc H.size) w1) : va_P D cl (wl ++ (w1 ++ wr)) H1 ∧ va_D A (wl ++ (w1 ++ wr)) := by
  rw [vP_iff] at hP hP1
  rw [vD_iff] at hD
  have hD1' := hD1
  rw [vD_iff] at hD1
  obtain ⟨hn, hA⟩ := hD
  simp only [List.map_append, List.nodup_append, List.mem_append, List.mem_map] at hn
  have far : ∀ q, (q ∈ wl ∨ q ∈ wr) → q.1 < H.size ∧ ¬ va_A wc H.size q.1 := by
    intro q hq
    have hl : q.1 < H.size := (hP q (by simp only [List.mem_append]; rcases hq with h | h; exact Or.inl h; exact Or.inr (Or.inr h))).lt
    refine ⟨hl, fun h => ?_⟩
    rcases h with ⟨k, e, h⟩ | h
    · have hm : (q.1, e) ∈ wc := List.mem_of_getElem? h
      rcases hq with hq | hq
      · exact hn.2.2 q.1 ⟨q, hq, rfl⟩ q.1 (Or.inl ⟨(q.1, e), hm, rfl⟩) rfl
      · exact hn.2.1.2.2 q.1 ⟨(q.1, e), hm, rfl⟩ q.1 ⟨q, hq, rfl⟩ rfl
    · omega
  have old : ∀ q, (q ∈ wl ∨ q ∈ wr) → va_at D cl q H1 := by
    intro q hq
    obtain ⟨h1, h2⟩ := far q hq
    exact (hP q (by simp only [List.mem_append]; rcases hq with h | h; exact Or.inl h; exact Or.inr (Or.inr h))).kept (hk q.1 h1 h2)
  constructor
  · rw [vP_iff]
    intro q hq
    simp only [List.mem_append] at hq
    rcases hq with h | h | h
    · exact old q (Or.inl h)
    · exact hP1 q h
    · exact old q (Or.inr h)
  · rw [vD_iff]
    constructor
    · simp only [List.map_append, List.nodup_append, List.mem_append, List.mem_map]
      refine ⟨hn.1, ⟨hD1.1, hn.2.1.2.1, ?_⟩, ?_⟩
      · rintro a ⟨x, hx, rfl⟩ b ⟨y, hy, rfl⟩ hxy
        exact (far y (Or.inr hy)).2 (by rw [← hxy]; exact hD1.2 x hx)
      · rintro a ⟨x, hx, rfl⟩ b hb hxy
        rcases hb with ⟨y, hy, rfl⟩ | ⟨y, hy, rfl⟩
        · exact (far x (Or.inl hx)).2 (by rw [hxy]; exact hD1.2 y hy)
        · exact hn.2.2 x.1 ⟨x, hx, rfl⟩ y.1 (Or.inr ⟨y, hy, rfl⟩) hxy
    · intro q hq
      simp only [List.mem_append] at hq
      rcases hq with h | h | h
      · exact hA q (by simp [h])
      · exact hF _ (hD1.2 q h)
      · exact hA q (by simp [h])
theorem v_in {D : va_G} {cl : List vw_C} {A : Nat → Prop} {wl wc wr : va_W} {H : Heap} (hP : va_P D cl (wl ++ (wc ++ wr)) H) (hD : va_D A (wl ++ (wc ++ wr))) : va_P D cl wc H ∧ va_D A wc := by
  rw [vP_iff] at hP ⊢
  rw [vD_iff] at hD ⊢
  refine ⟨fun q hq => hP q (by simp [hq]), ?_, fun q hq => hD.2 q (by simp [hq])⟩
  have h := hD.1
  simp only [List.map_append, List.nodup_append] at h
  exact h.2.1.1
theorem v_free {A : Nat → Prop} {wc : va_W} {H0 H : Heap} {locs : List Loc} (hD : va_D A wc) (hS : va_S A H0 H locs) (hA : ∀ q : Nat, H0.size ≤ q → A q) : ∀ q, va_A wc H.size q → A q := by
  intro q h
  rcases h with ⟨k, e, h⟩ | h
  · exact hD.2 k (q, e) h
  · exact hA q (Nat.le_trans hS.1 h)
-- locals by their places
def lo_l (lo : List (Option Value)) : List (Nat × Value) := (List.range lo.length).filterMap (fun i => match lo[i]? with | some (some v) => some (i, v) | _ => none)
def lo_has (ls : Array Slot) (nL : Nat) (lo : List (Option Value)) : Prop := lv_has ls nL [] ∧ ∀ (i : Nat) (v : Value), lo[i]? = some (some v) → v.category = 1 ∧ ls[i]? = some (.val v)
theorem lo_mem {lo : List (Option Value)} {q : Nat × Value} : q ∈ lo_l lo ↔ lo[q.1]? = some (some q.2) := by
  obtain ⟨i, v⟩ := q
  unfold lo_l
  rw [List.mem_filterMap]
  constructor
  · rintro ⟨a, _, h⟩
    split at h
    next u hu => cases h; exact hu
    next => cases h
  · intro h
    refine ⟨i, List.mem_range.mpr (List.getElem?_eq_some_iff.mp h).1, ?_⟩
    dsimp only at h
    rw [h]
theorem lo_al {ls : Array Slot} {nL : Nat} {lo : List (Option Value)} (h : lo_has ls nL lo) : lv_has ls nL (lo_l lo) := ⟨h.1.1, h.1.2.1, fun q hq => (h.2 q.1 q.2 (lo_mem.mp hq)).2⟩
theorem lo_at {ls : Array Slot} {nL : Nat} {lo : List (Option Value)} (h : lo_has ls nL lo) {i : Nat} {v : Value} (hi : lo[i]? = some (some v)) : ls[i]? = some (.val v) := (h.2 i v hi).2
theorem lo_st {ls ls' : Array Slot} {nL : Nat} {lo : List (Option Value)} (h : lo_has ls nL lo) {i : Nat} {v : Value} (hc : v.category = 1) (h' : lv_has ls' nL ((i, v) :: (lo_l lo).filter (fun q => !(q.1 == i) && !(q.1 + 1 == i && q.2.category == 2)))) : lo_has ls' nL (lo.set i (some v)) := by
  refine ⟨⟨h'.1, h'.2.1, fun q hq => nomatch hq⟩, fun j u hj => ?_⟩
  rw [List.getElem?_set] at hj
  by_cases hij : i = j
  · subst hij
    rw [if_pos rfl] at hj
    split at hj
    · cases hj
      exact ⟨hc, h'.2.2 (i, v) List.mem_cons_self⟩
    · cases hj
  · rw [if_neg hij] at hj
    have hu := h.2 j u hj
    refine ⟨hu.1, h'.2.2 (j, u) (List.mem_cons_of_mem _ (List.mem_filter.mpr ⟨lo_mem.mpr hj, ?_⟩))⟩
    have h1 : (j == i) = false := by simp; omega
    simp [hu.1, h1]
theorem lo_sl (vs : List Value) (hc : ∀ v ∈ vs, v.category = 1) : lg_sl vs = vs.map Slot.val := by
  induction vs with
  | nil => rfl
  | cons v vs ih =>
    have h1 : ¬ v.category = 2 := by have := hc v List.mem_cons_self; omega
    have h2 := ih (fun u hu => hc u (List.mem_cons_of_mem _ hu))
    unfold lg_sl at h2 ⊢
    rw [List.flatMap_cons, if_neg h1, h2]
    rfl
theorem lo_entry (vs : List Value) {n : Nat} (hc : ∀ v ∈ vs, v.category = 1) (hn : vs.length ≤ n) : lo_has ((lg_sl vs ++ List.replicate (n - (lg_sl vs).length) Slot.unset).toArray) n (vs.map some ++ List.replicate (n - vs.length) none) := by
  have e := lo_sl vs hc
  have h := lv_entry vs (n := n) (by rw [e, List.length_map]; exact hn)
  refine ⟨⟨h.1, h.2.1, fun q hq => nomatch hq⟩, fun i v hi => ?_⟩
  by_cases hl : i < vs.length
  · rw [List.getElem?_append_left (by simpa using hl), List.getElem?_map] at hi
    cases hv : vs[i]? with
    | none => rw [hv] at hi; cases hi
    | some u =>
      rw [hv] at hi
      cases hi
      refine ⟨hc v (List.mem_of_getElem? hv), ?_⟩
      rw [e, List.getElem?_toArray, List.getElem?_append_left (by simpa using hl), List.getElem?_map, hv]
      rfl
  · rw [List.getElem?_append_right (by simpa using hl)] at hi
    have := List.eq_of_mem_replicate (List.mem_of_getElem? hi)
    cases this
abbrev tyL (cy : Nat → ClassId) : List (ClassId × FieldType) := [(cy 0, .int), (cy 1, .boolean), (cy 2, .object "DepotLog$Run")]
/-- what a walk stands on: the call's fixed things, the tables, the method's own -/
def vC (p : Program) (s : State) (m : MethodId) (args : Array Value) (meth : Method) (c : Code) (cc : ByteArray) (nL : Nat) (Ts : List Cond) (own : String) (ret : Option FieldType) (G : va_G) (cy : Nat → ClassId) (A : Nat → Prop) : Prop :=
  CallFix p m c cc nL s args Ts own ∧ va_K G vwCl (tyL cy) s ∧ (∀ q : Nat, s.heap.size ≤ q → A q) ∧ meth.sig.returnType = ret ∧ meth.locks = false
/-- the goal: from every heap that holds the world w, with these locals and this stack -/
def V (p : Program) (l : Launch) (e : Env) (R : Room) (s : State) (m : MethodId) (args : Array Value) (below : List Frame) (meth : Method) (c : Code) (nL : Nat) (G : va_G) (A : Nat → Prop) (Q : State → Prop) (w : va_W) (cells slots : Nat) (pc : Nat) (lo : List (Option Value)) (st : List Value) : Prop :=
  ∀ (H : Heap) (locs : List Loc) (ls : Array Slot), va_P G vwCl w H → va_D A w → va_S A s.heap H locs → lo_has ls nL lo → W p l e R s m args below meth c H locs cells slots Q (F0 m pc ls st)
section VL
variable {p : Program} {l : Launch} {e : Env} {R : Room} {s : State} {m : MethodId} {args : Array Value} {below : List Frame} {meth : Method} {c : Code} {cells slots : Nat} {Q : State → Prop} {cc : ByteArray} {nL : Nat} {Ts : List Cond} {own : String} {ret : Option FieldType} {G : va_G} {cy : Nat → ClassId} {A : Nat → Prop} {w w' : va_W} {pc : Nat} {lo lo' : List (Option Value)} {st st' : List Value}
theorem V.exec (C : vC p s m args meth c cc nL Ts own ret G cy A) : p.tables.exec = Jvm.exec := C.1.1
theorem V.ew (h : w = w') (k : V p l e R s m args below meth c nL G A Q w' cells slots pc lo st) : V p l e R s m args below meth c nL G A Q w cells slots pc lo st := h ▸ k
theorem V.el (h : lo = lo') (k : V p l e R s m args below meth c nL G A Q w cells slots pc lo' st) : V p l e R s m args below meth c nL G A Q w cells slots pc lo st := h ▸ k
theorem V.es (h : st = st') (k : V p l e R s m args below meth c nL G A Q w cells slots pc lo st') : V p l e R s m args below meth c nL G A Q w cells slots pc lo st := h ▸ k
theorem V.lof (i : Nat) (k : V p l e R s m args below meth c nL G A Q w cells slots pc (lo.set i none) st) : V p l e R s m args below meth c nL G A Q w cells slots pc lo st := fun H locs ls hP hD hS hl => k H locs ls hP hD hS ⟨hl.1, fun j v hj => hl.2 j v (by
  rw [List.getElem?_set] at hj
  split at hj
  · split at hj <;> cases hj
  · exact hj)⟩
theorem V.widen {k n : Nat} (h1 : cells ≤ k) (h2 : slots ≤ n) (kk : V p l e R s m args below meth c nL G A Q w k n pc lo st) : V p l e R s m args below meth c nL G A Q w cells slots pc lo st := fun H locs ls hP hD hS hl => W.widen h1 h2 (kk H locs ls hP hD hS hl)
/-- a loop: S the world, L the locals, P what holds, at the head of each round -/
theorem V.loop (S : Nat → va_W) (L : Nat → List (Option Value)) (P : Nat → Prop) (n : Nat)
    (step : ∀ k, k ≤ n → P k → (k < n → P (k + 1) → V p l e R s m args below meth c nL G A Q (S (k + 1)) cells slots pc (L (k + 1)) st) → V p l e R s m args below meth c nL G A Q (S k) cells slots pc (L k) st) (h0 : P 0) : V p l e R s m args below meth c nL G A Q (S 0) cells slots pc (L 0) st := by
  have key : ∀ (f k : Nat), n < k + f → k ≤ n → P k → V p l e R s m args below meth c nL G A Q (S k) cells slots pc (L k) st := by
    intro f
    induction f with
    | zero => intro k h1 h2; omega
    | succ f ih => intro k h1 h2 hp; exact step k h2 hp (fun h3 h4 => ih (k + 1) (by omega) (by omega) h4)
  exact key (n + 1) 0 (by omega) (by omega) h0

theorem v_iconst (C : vC p s m args meth c cc nL Ts own ret G cy A) {n : Int} (v : Int32) (hd : decode cc pc = .ok (.iconst n, 1)) (hv : Int32.ofInt n = v) (k : V p l e R s m args below meth c nL G A Q w cells slots (pc + 1) lo (.int v :: st)) : V p l e R s m args below meth c nL G A Q w cells slots (pc) lo (st) := fun H locs ls hP hD hS hl => lv_iconst C.1.1 C.1.2.1 hd hv (k H locs ls hP hD hS hl)
theorem v_bipush (C : vC p s m args meth c cc nL Ts own ret G cy A) {n : Int} (v : Int32) (hd : decode cc pc = .ok (.bipush n, 2)) (hv : (Int8.ofInt n).toInt32 = v) (k : V p l e R s m args below meth c nL G A Q w cells slots (pc + 2) lo (.int v :: st)) : V p l e R s m args below meth c nL G A Q w cells slots (pc) lo (st) := fun H locs ls hP hD hS hl => lv_bipush C.1.1 C.1.2.1 hd hv (k H locs ls hP hD hS hl)
theorem v_sipush (C : vC p s m args meth c cc nL Ts own ret G cy A) {n : Int} (v : Int32) (hd : decode cc pc = .ok (.sipush n, 3)) (hv : (Int16.ofInt n).toInt32 = v) (k : V p l e R s m args below meth c nL G A Q w cells slots (pc + 3) lo (.int v :: st)) : V p l e R s m args below meth c nL G A Q w cells slots (pc) lo (st) := fun H locs ls hP hD hS hl => lv_sipush C.1.1 C.1.2.1 hd hv (k H locs ls hP hD hS hl)
theorem v_iload_n (C : vC p s m args meth c cc nL Ts own ret G cy A) {j : Fin 4} {x : Int32} (hd : decode cc pc = .ok (.iload_n j, 1)) (hv : lo[(j : Nat)]? = some (some (.int x))) (k : V p l e R s m args below meth c nL G A Q w cells slots (pc + 1) lo (.int x :: st)) : V p l e R s m args below meth c nL G A Q w cells slots (pc) lo (st) := fun H locs ls hP hD hS hl => lv_iload_n C.1.1 C.1.2.1 hd rfl (lo_at hl hv) (k H locs ls hP hD hS hl)
theorem v_iload (C : vC p s m args meth c cc nL Ts own ret G cy A) {j : Nat} {x : Int32} (hd : decode cc pc = .ok (.iload j, 2)) (hv : lo[j]? = some (some (.int x))) (k : V p l e R s m args below meth c nL G A Q w cells slots (pc + 2) lo (.int x :: st)) : V p l e R s m args below meth c nL G A Q w cells slots (pc) lo (st) := fun H locs ls hP hD hS hl => lv_iload C.1.1 C.1.2.1 hd (lo_at hl hv) (k H locs ls hP hD hS hl)
theorem v_aload_n (C : vC p s m args meth c cc nL Ts own ret G cy A) {j : Fin 4} {x : Nat} (hd : decode cc pc = .ok (.aload_n j, 1)) (hv : lo[(j : Nat)]? = some (some (.ref x))) (k : V p l e R s m args below meth c nL G A Q w cells slots (pc + 1) lo (.ref x :: st)) : V p l e R s m args below meth c nL G A Q w cells slots (pc) lo (st) := fun H locs ls hP hD hS hl => lv_aload_n C.1.1 C.1.2.1 hd rfl (lo_at hl hv) (k H locs ls hP hD hS hl)
theorem v_aload (C : vC p s m args meth c cc nL Ts own ret G cy A) {j : Nat} {x : Nat} (hd : decode cc pc = .ok (.aload j, 2)) (hv : lo[j]? = some (some (.ref x))) (k : V p l e R s m args below meth c nL G A Q w cells slots (pc + 2) lo (.ref x :: st)) : V p l e R s m args below meth c nL G A Q w cells slots (pc) lo (st) := fun H locs ls hP hD hS hl => lv_aload C.1.1 C.1.2.1 hd (lo_at hl hv) (k H locs ls hP hD hS hl)
theorem v_istore_n (C : vC p s m args meth c cc nL Ts own ret G cy A) {j : Fin 4} {x : Int32} (hd : decode cc pc = .ok (.istore_n j, 1)) (hj : (j : Nat) < nL) (k : V p l e R s m args below meth c nL G A Q w cells slots (pc + 1) (lo.set (j : Nat) (some (.int x))) (st)) : V p l e R s m args below meth c nL G A Q w cells slots (pc) lo (.int x :: st) := fun H locs ls hP hD hS hl => lv_istore_n C.1.1 C.1.2.1 hd rfl (lo_al hl) hj rfl (fun ls' h' => k H locs ls' hP hD hS (lo_st hl rfl h'))
theorem v_istore (C : vC p s m args meth c cc nL Ts own ret G cy A) {j : Nat} {x : Int32} (hd : decode cc pc = .ok (.istore j, 2)) (hj : j < nL) (k : V p l e R s m args below meth c nL G A Q w cells slots (pc + 2) (lo.set j (some (.int x))) (st)) : V p l e R s m args below meth c nL G A Q w cells slots (pc) lo (.int x :: st) := fun H locs ls hP hD hS hl => lv_istore C.1.1 C.1.2.1 hd (lo_al hl) hj rfl (fun ls' h' => k H locs ls' hP hD hS (lo_st hl rfl h'))
theorem v_astore_n (C : vC p s m args meth c cc nL Ts own ret G cy A) {j : Fin 4} {x : Nat} (hd : decode cc pc = .ok (.astore_n j, 1)) (hj : (j : Nat) < nL) (k : V p l e R s m args below meth c nL G A Q w cells slots (pc + 1) (lo.set (j : Nat) (some (.ref x))) (st)) : V p l e R s m args below meth c nL G A Q w cells slots (pc) lo (.ref x :: st) := fun H locs ls hP hD hS hl => lv_astore_n C.1.1 C.1.2.1 hd rfl (lo_al hl) hj rfl (fun ls' h' => k H locs ls' hP hD hS (lo_st hl rfl h'))
theorem v_astore (C : vC p s m args meth c cc nL Ts own ret G cy A) {j : Nat} {x : Nat} (hd : decode cc pc = .ok (.astore j, 2)) (hj : j < nL) (k : V p l e R s m args below meth c nL G A Q w cells slots (pc + 2) (lo.set j (some (.ref x))) (st)) : V p l e R s m args below meth c nL G A Q w cells slots (pc) lo (.ref x :: st) := fun H locs ls hP hD hS hl => lv_astore C.1.1 C.1.2.1 hd (lo_al hl) hj rfl (fun ls' h' => k H locs ls' hP hD hS (lo_st hl rfl h'))
theorem v_iinc (C : vC p s m args meth c cc nL Ts own ret G cy A) {j : Nat} {n : Int} {x : Int32} (v : Int32) (hd : decode cc pc = .ok (.iinc j n, 3)) (hx : lo[j]? = some (some (.int x))) (hv : x + Int32.ofInt n = v) (hj : j < nL) (k : V p l e R s m args below meth c nL G A Q w cells slots (pc + 3) (lo.set j (some (.int v))) (st)) : V p l e R s m args below meth c nL G A Q w cells slots (pc) lo (st) := by
  intro H locs ls hP hD hS hl
  obtain ⟨i, hi⟩ := List.getElem?_of_mem (lo_mem.mpr hx : (j, Value.int x) ∈ lo_l lo)
  exact lv_iinc C.1.1 C.1.2.1 hd (lo_al hl) hi hv hj rfl (fun ls' h' => k H locs ls' hP hD hS (lo_st hl rfl h'))
theorem v_incN (C : vC p s m args meth c cc nL Ts own ret G cy A) {j : Nat} {a : Nat} (hd : decode cc pc = .ok (.iinc j 1, 3)) (hx : lo[j]? = some (some (.int (nI a)))) (hj : j < nL) (k : V p l e R s m args below meth c nL G A Q w cells slots (pc + 3) (lo.set j (some (.int (nI (a + 1))))) (st)) : V p l e R s m args below meth c nL G A Q w cells slots (pc) lo (st) := v_iinc C (nI (a + 1)) hd hx (nI_1 a) hj k
theorem v_iadd (C : vC p s m args meth c cc nL Ts own ret G cy A) {x y : Int32} (hd : decode cc pc = .ok (.iadd, 1)) (k : V p l e R s m args below meth c nL G A Q w cells slots (pc + 1) lo (.int (x + y) :: st)) : V p l e R s m args below meth c nL G A Q w cells slots (pc) lo (.int y :: .int x :: st) := fun H locs ls hP hD hS hl => lv_iadd C.1.1 C.1.2.1 hd (k H locs ls hP hD hS hl)
theorem v_isub (C : vC p s m args meth c cc nL Ts own ret G cy A) {x y : Int32} (hd : decode cc pc = .ok (.isub, 1)) (k : V p l e R s m args below meth c nL G A Q w cells slots (pc + 1) lo (.int (x - y) :: st)) : V p l e R s m args below meth c nL G A Q w cells slots (pc) lo (.int y :: .int x :: st) := fun H locs ls hP hD hS hl => lv_isub C.1.1 C.1.2.1 hd (k H locs ls hP hD hS hl)
theorem v_imul (C : vC p s m args meth c cc nL Ts own ret G cy A) {x y : Int32} (hd : decode cc pc = .ok (.imul, 1)) (k : V p l e R s m args below meth c nL G A Q w cells slots (pc + 1) lo (.int (x * y) :: st)) : V p l e R s m args below meth c nL G A Q w cells slots (pc) lo (.int y :: .int x :: st) := fun H locs ls hP hD hS hl => lv_imul C.1.1 C.1.2.1 hd (k H locs ls hP hD hS hl)
theorem v_idiv (C : vC p s m args meth c cc nL Ts own ret G cy A) {x y : Int32} (hd : decode cc pc = .ok (.idiv, 1)) (hne : ¬ y = 0) (k : V p l e R s m args below meth c nL G A Q w cells slots (pc + 1) lo (.int (x / y) :: st)) : V p l e R s m args below meth c nL G A Q w cells slots (pc) lo (.int y :: .int x :: st) := fun H locs ls hP hD hS hl => lv_idiv C.1.1 C.1.2.1 hd hne (k H locs ls hP hD hS hl)
theorem v_irem (C : vC p s m args meth c cc nL Ts own ret G cy A) {x y : Int32} (hd : decode cc pc = .ok (.irem, 1)) (hne : ¬ y = 0) (k : V p l e R s m args below meth c nL G A Q w cells slots (pc + 1) lo (.int (x - x / y * y) :: st)) : V p l e R s m args below meth c nL G A Q w cells slots (pc) lo (.int y :: .int x :: st) := fun H locs ls hP hD hS hl => lv_irem C.1.1 C.1.2.1 hd hne (k H locs ls hP hD hS hl)
theorem v_iand (C : vC p s m args meth c cc nL Ts own ret G cy A) {x y : Int32} (hd : decode cc pc = .ok (.iand, 1)) (k : V p l e R s m args below meth c nL G A Q w cells slots (pc + 1) lo (.int (x &&& y) :: st)) : V p l e R s m args below meth c nL G A Q w cells slots (pc) lo (.int y :: .int x :: st) := fun H locs ls hP hD hS hl => lv_iand C.1.1 C.1.2.1 hd (k H locs ls hP hD hS hl)
theorem v_i2l (C : vC p s m args meth c cc nL Ts own ret G cy A) {x : Int32} (hd : decode cc pc = .ok (.i2l, 1)) (k : V p l e R s m args below meth c nL G A Q w cells slots (pc + 1) lo (.long x.toInt64 :: st)) : V p l e R s m args below meth c nL G A Q w cells slots (pc) lo (.int x :: st) := fun H locs ls hP hD hS hl => lv_i2l C.1.1 C.1.2.1 hd rfl (k H locs ls hP hD hS hl)
theorem v_lconst (C : vC p s m args meth c cc nL Ts own ret G cy A) {n : Fin 2} (v : Int64) (hd : decode cc pc = .ok (.lconst n, 1)) (hv : Int64.ofNat (n : Nat) = v) (k : V p l e R s m args below meth c nL G A Q w cells slots (pc + 1) lo (.long v :: st)) : V p l e R s m args below meth c nL G A Q w cells slots (pc) lo (st) := fun H locs ls hP hD hS hl => lv_lconst C.1.1 C.1.2.1 hd hv (k H locs ls hP hD hS hl)
theorem v_lcmp (C : vC p s m args meth c cc nL Ts own ret G cy A) {x y : Int64} (hd : decode cc pc = .ok (.lcmp, 1)) (k : V p l e R s m args below meth c nL G A Q w cells slots (pc + 1) lo (.int (lg_cmp x y) :: st)) : V p l e R s m args below meth c nL G A Q w cells slots (pc) lo (.long y :: .long x :: st) := fun H locs ls hP hD hS hl => W.lcmp C.1.1 C.1.2.1 hd (k H locs ls hP hD hS hl)
theorem v_dup (C : vC p s m args meth c cc nL Ts own ret G cy A) {a : Value} (hd : decode cc pc = .ok (.dup, 1)) (ha : a.category = 1) (k : V p l e R s m args below meth c nL G A Q w cells slots (pc + 1) lo (a :: a :: st)) : V p l e R s m args below meth c nL G A Q w cells slots (pc) lo (a :: st) := fun H locs ls hP hD hS hl => lv_dup C.1.1 C.1.2.1 hd ha (k H locs ls hP hD hS hl)
theorem v_dup2 (C : vC p s m args meth c cc nL Ts own ret G cy A) {a b : Value} (hd : decode cc pc = .ok (.dup2, 1)) (ha : a.category = 1) (hb : b.category = 1) (k : V p l e R s m args below meth c nL G A Q w cells slots (pc + 1) lo (a :: b :: a :: b :: st)) : V p l e R s m args below meth c nL G A Q w cells slots (pc) lo (a :: b :: st) := fun H locs ls hP hD hS hl => lv_dup2_11 C.1.1 C.1.2.1 hd ha hb (k H locs ls hP hD hS hl)
theorem v_goto (C : vC p s m args meth c cc nL Ts own ret G cy A) {off : Int} (tgt : Nat) (hd : decode cc pc = .ok (.goto off, 3)) (ht : (pc : Int) + off = (tgt : Int)) (k : V p l e R s m args below meth c nL G A Q w cells slots (tgt) lo (st)) : V p l e R s m args below meth c nL G A Q w cells slots (pc) lo (st) := fun H locs ls hP hD hS hl => lv_goto C.1.1 C.1.2.1 hd ht (k H locs ls hP hD hS hl)
theorem v_if_eq (C : vC p s m args meth c cc nL Ts own ret G cy A) {x : Int32} {off : Int} (tgt : Nat) (hd : decode cc pc = .ok (.ifCond .eq off, 3)) (ht : (pc : Int) + off = (tgt : Int)) (kt : x = 0 → V p l e R s m args below meth c nL G A Q w cells slots (tgt) lo (st)) (kf : ¬ x = 0 → V p l e R s m args below meth c nL G A Q w cells slots (pc + 3) lo (st)) : V p l e R s m args below meth c nL G A Q w cells slots (pc) lo (.int x :: st) := fun H locs ls hP hD hS hl => lv_if_eq C.1.1 C.1.2.1 hd ht (fun h => kt h H locs ls hP hD hS hl) (fun h => kf h H locs ls hP hD hS hl)
theorem v_if_ne (C : vC p s m args meth c cc nL Ts own ret G cy A) {x : Int32} {off : Int} (tgt : Nat) (hd : decode cc pc = .ok (.ifCond .ne off, 3)) (ht : (pc : Int) + off = (tgt : Int)) (kt : ¬ x = 0 → V p l e R s m args below meth c nL G A Q w cells slots (tgt) lo (st)) (kf : x = 0 → V p l e R s m args below meth c nL G A Q w cells slots (pc + 3) lo (st)) : V p l e R s m args below meth c nL G A Q w cells slots (pc) lo (.int x :: st) := fun H locs ls hP hD hS hl => lv_if_ne C.1.1 C.1.2.1 hd ht (fun h => kt h H locs ls hP hD hS hl) (fun h => kf h H locs ls hP hD hS hl)
theorem v_if_lt (C : vC p s m args meth c cc nL Ts own ret G cy A) {x : Int32} {off : Int} (tgt : Nat) (hd : decode cc pc = .ok (.ifCond .lt off, 3)) (ht : (pc : Int) + off = (tgt : Int)) (kt : x < 0 → V p l e R s m args below meth c nL G A Q w cells slots (tgt) lo (st)) (kf : ¬ x < 0 → V p l e R s m args below meth c nL G A Q w cells slots (pc + 3) lo (st)) : V p l e R s m args below meth c nL G A Q w cells slots (pc) lo (.int x :: st) := fun H locs ls hP hD hS hl => lv_if_lt C.1.1 C.1.2.1 hd ht (fun h => kt h H locs ls hP hD hS hl) (fun h => kf h H locs ls hP hD hS hl)
theorem v_if_ge (C : vC p s m args meth c cc nL Ts own ret G cy A) {x : Int32} {off : Int} (tgt : Nat) (hd : decode cc pc = .ok (.ifCond .ge off, 3)) (ht : (pc : Int) + off = (tgt : Int)) (kt : ¬ x < 0 → V p l e R s m args below meth c nL G A Q w cells slots (tgt) lo (st)) (kf : x < 0 → V p l e R s m args below meth c nL G A Q w cells slots (pc + 3) lo (st)) : V p l e R s m args below meth c nL G A Q w cells slots (pc) lo (.int x :: st) := fun H locs ls hP hD hS hl => lv_if_ge C.1.1 C.1.2.1 hd ht (fun h => kt (Int32.not_lt.mpr h) H locs ls hP hD hS hl) (fun h => kf (Int32.not_le.mp h) H locs ls hP hD hS hl)
theorem v_if_gt (C : vC p s m args meth c cc nL Ts own ret G cy A) {x : Int32} {off : Int} (tgt : Nat) (hd : decode cc pc = .ok (.ifCond .gt off, 3)) (ht : (pc : Int) + off = (tgt : Int)) (kt : 0 < x → V p l e R s m args below meth c nL G A Q w cells slots (tgt) lo (st)) (kf : ¬ 0 < x → V p l e R s m args below meth c nL G A Q w cells slots (pc + 3) lo (st)) : V p l e R s m args below meth c nL G A Q w cells slots (pc) lo (.int x :: st) := fun H locs ls hP hD hS hl => lv_if_gt C.1.1 C.1.2.1 hd ht (fun h => kt h H locs ls hP hD hS hl) (fun h => kf h H locs ls hP hD hS hl)
theorem v_if_le (C : vC p s m args meth c cc nL Ts own ret G cy A) {x : Int32} {off : Int} (tgt : Nat) (hd : decode cc pc = .ok (.ifCond .le off, 3)) (ht : (pc : Int) + off = (tgt : Int)) (kt : ¬ 0 < x → V p l e R s m args below meth c nL G A Q w cells slots (tgt) lo (st)) (kf : 0 < x → V p l e R s m args below meth c nL G A Q w cells slots (pc + 3) lo (st)) : V p l e R s m args below meth c nL G A Q w cells slots (pc) lo (.int x :: st) := fun H locs ls hP hD hS hl => lv_if_le C.1.1 C.1.2.1 hd ht (fun h => kt (Int32.not_lt.mpr h) H locs ls hP hD hS hl) (fun h => kf (Int32.not_le.mp h) H locs ls hP hD hS hl)
theorem v_icmp_eq (C : vC p s m args meth c cc nL Ts own ret G cy A) {x y : Int32} {off : Int} (tgt : Nat) (hd : decode cc pc = .ok (.if_icmp .eq off, 3)) (ht : (pc : Int) + off = (tgt : Int)) (kt : x = y → V p l e R s m args below meth c nL G A Q w cells slots (tgt) lo (st)) (kf : ¬ x = y → V p l e R s m args below meth c nL G A Q w cells slots (pc + 3) lo (st)) : V p l e R s m args below meth c nL G A Q w cells slots (pc) lo (.int y :: .int x :: st) := fun H locs ls hP hD hS hl => lv_icmp_eq C.1.1 C.1.2.1 hd ht (fun h => kt h H locs ls hP hD hS hl) (fun h => kf h H locs ls hP hD hS hl)
theorem v_icmp_ne (C : vC p s m args meth c cc nL Ts own ret G cy A) {x y : Int32} {off : Int} (tgt : Nat) (hd : decode cc pc = .ok (.if_icmp .ne off, 3)) (ht : (pc : Int) + off = (tgt : Int)) (kt : ¬ x = y → V p l e R s m args below meth c nL G A Q w cells slots (tgt) lo (st)) (kf : x = y → V p l e R s m args below meth c nL G A Q w cells slots (pc + 3) lo (st)) : V p l e R s m args below meth c nL G A Q w cells slots (pc) lo (.int y :: .int x :: st) := fun H locs ls hP hD hS hl => lv_icmp_ne C.1.1 C.1.2.1 hd ht (fun h => kt h H locs ls hP hD hS hl) (fun h => kf h H locs ls hP hD hS hl)
theorem v_icmp_lt (C : vC p s m args meth c cc nL Ts own ret G cy A) {x y : Int32} {off : Int} (tgt : Nat) (hd : decode cc pc = .ok (.if_icmp .lt off, 3)) (ht : (pc : Int) + off = (tgt : Int)) (kt : x < y → V p l e R s m args below meth c nL G A Q w cells slots (tgt) lo (st)) (kf : ¬ x < y → V p l e R s m args below meth c nL G A Q w cells slots (pc + 3) lo (st)) : V p l e R s m args below meth c nL G A Q w cells slots (pc) lo (.int y :: .int x :: st) := fun H locs ls hP hD hS hl => lv_icmp_lt C.1.1 C.1.2.1 hd ht (fun h => kt h H locs ls hP hD hS hl) (fun h => kf h H locs ls hP hD hS hl)
theorem v_icmp_ge (C : vC p s m args meth c cc nL Ts own ret G cy A) {x y : Int32} {off : Int} (tgt : Nat) (hd : decode cc pc = .ok (.if_icmp .ge off, 3)) (ht : (pc : Int) + off = (tgt : Int)) (kt : ¬ x < y → V p l e R s m args below meth c nL G A Q w cells slots (tgt) lo (st)) (kf : x < y → V p l e R s m args below meth c nL G A Q w cells slots (pc + 3) lo (st)) : V p l e R s m args below meth c nL G A Q w cells slots (pc) lo (.int y :: .int x :: st) := fun H locs ls hP hD hS hl => lv_icmp_ge C.1.1 C.1.2.1 hd ht (fun h => kt (Int32.not_lt.mpr h) H locs ls hP hD hS hl) (fun h => kf (Int32.not_le.mp h) H locs ls hP hD hS hl)
theorem v_icmp_gt (C : vC p s m args meth c cc nL Ts own ret G cy A) {x y : Int32} {off : Int} (tgt : Nat) (hd : decode cc pc = .ok (.if_icmp .gt off, 3)) (ht : (pc : Int) + off = (tgt : Int)) (kt : y < x → V p l e R s m args below meth c nL G A Q w cells slots (tgt) lo (st)) (kf : ¬ y < x → V p l e R s m args below meth c nL G A Q w cells slots (pc + 3) lo (st)) : V p l e R s m args below meth c nL G A Q w cells slots (pc) lo (.int y :: .int x :: st) := fun H locs ls hP hD hS hl => lv_icmp_gt C.1.1 C.1.2.1 hd ht (fun h => kt h H locs ls hP hD hS hl) (fun h => kf h H locs ls hP hD hS hl)
theorem v_icmp_le (C : vC p s m args meth c cc nL Ts own ret G cy A) {x y : Int32} {off : Int} (tgt : Nat) (hd : decode cc pc = .ok (.if_icmp .le off, 3)) (ht : (pc : Int) + off = (tgt : Int)) (kt : ¬ y < x → V p l e R s m args below meth c nL G A Q w cells slots (tgt) lo (st)) (kf : y < x → V p l e R s m args below meth c nL G A Q w cells slots (pc + 3) lo (st)) : V p l e R s m args below meth c nL G A Q w cells slots (pc) lo (.int y :: .int x :: st) := fun H locs ls hP hD hS hl => lv_icmp_le C.1.1 C.1.2.1 hd ht (fun h => kt (Int32.not_lt.mpr h) H locs ls hP hD hS hl) (fun h => kf (Int32.not_le.mp h) H locs ls hP hD hS hl)
/-- the test of a loop's head -/
theorem v_geN (C : vC p s m args meth c cc nL Ts own ret G cy A) {x y : Int32} (a b : Nat) {off : Int} (tgt : Nat) (hd : decode cc pc = .ok (.if_icmp .ge off, 3)) (ht : (pc : Int) + off = (tgt : Int)) (hx : x = nI a) (hy : y = nI b) (ha : a < 2 ^ 31) (hb : b < 2 ^ 31) (kt : b ≤ a → V p l e R s m args below meth c nL G A Q w cells slots (tgt) lo (st)) (kf : a < b → V p l e R s m args below meth c nL G A Q w cells slots (pc + 3) lo (st)) : V p l e R s m args below meth c nL G A Q w cells slots (pc) lo (.int y :: .int x :: st) := by
  subst hx
  subst hy
  refine v_icmp_ge C tgt hd ht (fun h => kt ?_) (fun h => kf ?_)
  · rw [nI_ltI ha hb] at h
    omega
  · exact (nI_ltI ha hb).mp h

theorem v_get (C : vC p s m args meth c cc nL Ts own ret G cy A) (q0 f ci : Nat) {a : Nat} {fs : List Value} {Cn : String} {T : u_T} {N idx : Nat} {v : Value} (hc : vwCl[ci]? = some (Cn, T, N)) (he : w[q0]? = some (a, .inr (ci, fs))) (hf : f < N) (hv : fs[f]? = some v) (hin : ∀ x ∈ u_ws Cn T N, x ∈ Ts) (hm : Cond.fieldLink own idx (T f).1 (T f).2.1 (T f).2.2.1 ∈ Ts) (hd : decode cc pc = .ok (.getfield idx, 3)) (k : V p l e R s m args below meth c nL G A Q w cells slots (pc + 3) lo (v :: st)) : V p l e R s m args below meth c nL G A Q w cells slots (pc) lo (.ref a :: st) := fun H locs ls hP hD hS hl =>
  va_get (ref := (T f).1) C.1.1 C.1.2.1 C.1.2.2.2.2 hin C.1.2.2.2.1 C.2.1 hP q0 he hc f hf (C.1.2.2.2.2 _ hm) (fun _ h => h) hv hd (k H locs ls hP hD hS hl)
theorem v_put (C : vC p s m args meth c cc nL Ts own ret G cy A) (q0 f ci : Nat) {a : Nat} {fs : List Value} {Cn : String} {T : u_T} {N idx : Nat} {v : Value} (ty0 : Nat → FieldType) (hty : ∀ k, k < N → parseFieldDescriptor (T k).2.2.1 = some (ty0 k)) (hnm : ∀ a, a < N → ∀ b, b < N → a ≠ b → (T a).2.1 ≠ (T b).2.1) (hc : vwCl[ci]? = some (Cn, T, N)) (he : w[q0]? = some (a, .inr (ci, fs))) (hf : f < N) (hin : ∀ x ∈ u_ws Cn T N, x ∈ Ts) (hm : Cond.fieldLink own idx (T f).1 (T f).2.1 (T f).2.2.1 ∈ Ts) (hfin : (T f).2.2.2 = false) {ty : FieldType} (hp : parseFieldDescriptor (T f).2.2.1 = some ty) (hn : narrow ty v = v) (hfit : fits ty v = true) (hlen : f < fs.length) (hw : w.set q0 (a, .inr (ci, fs.set f v)) = w') (hd : decode cc pc = .ok (.putfield idx, 3)) (k : V p l e R s m args below meth c nL G A Q w' cells slots (pc + 3) lo (st)) : V p l e R s m args below meth c nL G A Q w cells slots (pc) lo (v :: .ref a :: st) := by
  subst hw
  exact fun H locs ls hP hD hS hl => va_put (ref := (T f).1) C.1.1 C.1.2.1 C.1.2.2.2.2 hin ty0 hty hnm C.1.2.2.2.1 C.2.1 hP hD hS q0 he hc f hf (C.1.2.2.2.2 _ hm) (fun _ h => h) hfin hp hn hfit hlen hd (fun H1 locs1 hP hD hS => k H1 locs1 ls hP hD hS hl)
theorem v_putF (C : vC p s m args meth c cc nL Ts own ret G cy A) (q0 f ci : Nat) {a : Nat} {fs : List Value} {Cn : String} {T : u_T} {N idx : Nat} {v : Value} (hin2 : meth.name = "<init>") (ty0 : Nat → FieldType) (hty : ∀ k, k < N → parseFieldDescriptor (T k).2.2.1 = some (ty0 k)) (hnm : ∀ a, a < N → ∀ b, b < N → a ≠ b → (T a).2.1 ≠ (T b).2.1) (hc : vwCl[ci]? = some (Cn, T, N)) (he : w[q0]? = some (a, .inr (ci, fs))) (hf : f < N) (hin : ∀ x ∈ u_ws Cn T N, x ∈ Ts) (hm : Cond.fieldLink own idx (T f).1 (T f).2.1 (T f).2.2.1 ∈ Ts) (hfin : (T f).2.2.2 = true) (hdecl : (T f).1 = own) {ty : FieldType} (hp : parseFieldDescriptor (T f).2.2.1 = some ty) (hn : narrow ty v = v) (hfit : fits ty v = true) (hlen : f < fs.length) (hw : w.set q0 (a, .inr (ci, fs.set f v)) = w') (hd : decode cc pc = .ok (.putfield idx, 3)) (k : V p l e R s m args below meth c nL G A Q w' cells slots (pc + 3) lo (st)) : V p l e R s m args below meth c nL G A Q w cells slots (pc) lo (v :: .ref a :: st) := by
  subst hw
  exact fun H locs ls hP hD hS hl => va_putF (ref := (T f).1) C.1.1 C.1.2.1 C.1.2.2.2.2 hin ty0 hty hnm C.1.2.2.2.1 C.2.1 hP hD hS q0 he hc f hf (C.1.2.2.2.2 _ hm) (fun _ h => h) hfin hin2 hdecl hp hn hfit hlen hd (fun H1 locs1 hP hD hS => k H1 locs1 ls hP hD hS hl)

theorem v_idx {i : Int32} {k n : Nat} (hi : i = nI k) (hk : k < n) (hn : n ≤ 1000) : vp_in i n ∧ i.toNatClampNeg = k := by
  subst hi
  exact ⟨vp_in_nI hk (by omega), nI_clamp (by omega)⟩
theorem v_iald (C : vC p s m args meth c cc nL Ts own ret G cy A) (q0 j : Nat) {a n : Nat} {f : Nat → Int32} {i : Int32} (ha : w[q0]? = some (a, .inl (cy 0, n, .inl f))) (hi : i = nI j) (hj : j < n) (hn : n ≤ 1000) (hd : decode cc pc = .ok (.iaload, 1)) (k : V p l e R s m args below meth c nL G A Q w cells slots (pc + 1) lo (.int (f j) :: st)) : V p l e R s m args below meth c nL G A Q w cells slots (pc) lo (.int i :: .ref a :: st) := by
  obtain ⟨h1, h2⟩ := v_idx hi hj hn
  exact fun H locs ls hP hD hS hl => va_iald C.1.1 C.1.2.1 C.2.1 hP q0 0 ha rfl h1 hd (by rw [h2]; exact k H locs ls hP hD hS hl)
theorem v_zald (C : vC p s m args meth c cc nL Ts own ret G cy A) (q0 j : Nat) {a n : Nat} {f : Nat → Int32} {i : Int32} (ha : w[q0]? = some (a, .inl (cy 1, n, .inl f))) (hi : i = nI j) (hj : j < n) (hn : n ≤ 1000) (hd : decode cc pc = .ok (.baload, 1)) (k : V p l e R s m args below meth c nL G A Q w cells slots (pc + 1) lo (.int (f j) :: st)) : V p l e R s m args below meth c nL G A Q w cells slots (pc) lo (.int i :: .ref a :: st) := by
  obtain ⟨h1, h2⟩ := v_idx hi hj hn
  exact fun H locs ls hP hD hS hl => va_zald C.1.1 C.1.2.1 C.2.1 hP q0 1 ha rfl h1 hd (by rw [h2]; exact k H locs ls hP hD hS hl)
theorem v_aald (C : vC p s m args meth c cc nL Ts own ret G cy A) (q0 j : Nat) {a n : Nat} {f : Nat → Option Nat} {i : Int32} (ha : w[q0]? = some (a, .inl (cy 2, n, .inr (.inr (.inr (.inr f)))))) (hi : i = nI j) (hj : j < n) (hn : n ≤ 1000) (hd : decode cc pc = .ok (.aaload, 1)) (k : V p l e R s m args below meth c nL G A Q w cells slots (pc + 1) lo (va_rf (f j) :: st)) : V p l e R s m args below meth c nL G A Q w cells slots (pc) lo (.int i :: .ref a :: st) := by
  obtain ⟨h1, h2⟩ := v_idx hi hj hn
  exact fun H locs ls hP hD hS hl => va_aldq C.1.1 C.1.2.1 C.2.1 hP q0 2 ha rfl h1 hd (by rw [h2]; exact k H locs ls hP hD hS hl)
theorem v_iast (C : vC p s m args meth c cc nL Ts own ret G cy A) (q0 j : Nat) {a n : Nat} {f : Nat → Int32} {i x : Int32} (ha : w[q0]? = some (a, .inl (cy 0, n, .inl f))) (hi : i = nI j) (hj : j < n) (hn : n ≤ 1000) (hw : w.set q0 (a, .inl (cy 0, n, .inl (upd f j x))) = w') (hd : decode cc pc = .ok (.iastore, 1)) (k : V p l e R s m args below meth c nL G A Q w' cells slots (pc + 1) lo (st)) : V p l e R s m args below meth c nL G A Q w cells slots (pc) lo (.int x :: .int i :: .ref a :: st) := by
  obtain ⟨h1, h2⟩ := v_idx hi hj hn
  subst hw
  rw [← h2] at k
  exact fun H locs ls hP hD hS hl => va_iast C.1.1 C.1.2.1 C.2.1 hP hD hS q0 0 ha rfl h1 hd (fun H1 locs1 hP hD hS => k H1 locs1 ls hP hD hS hl)
theorem v_zast (C : vC p s m args meth c cc nL Ts own ret G cy A) (q0 j : Nat) {a n : Nat} {f : Nat → Int32} {i x : Int32} (ha : w[q0]? = some (a, .inl (cy 1, n, .inl f))) (hi : i = nI j) (hj : j < n) (hn : n ≤ 1000) (hx : vp_nar .boolean x = x) (hw : w.set q0 (a, .inl (cy 1, n, .inl (upd f j x))) = w') (hd : decode cc pc = .ok (.bastore, 1)) (k : V p l e R s m args below meth c nL G A Q w' cells slots (pc + 1) lo (st)) : V p l e R s m args below meth c nL G A Q w cells slots (pc) lo (.int x :: .int i :: .ref a :: st) := by
  obtain ⟨h1, h2⟩ := v_idx hi hj hn
  subst hw
  rw [← h2] at k
  exact fun H locs ls hP hD hS hl => va_zast C.1.1 C.1.2.1 C.2.1 hP hD hS q0 1 ha rfl h1 hd (fun H1 locs1 hP hD hS => by rw [hx] at hP hD; exact k H1 locs1 ls hP hD hS hl)

/-- the world behind a method -/
def vO (G : va_G) (cy : Nat → ClassId) (A : Nat → Prop) (w' : va_W) (t : State) : Prop := va_P G vwCl w' t.heap ∧ va_K G vwCl (tyL cy) t ∧ va_D A w'
def QI (below : List Frame) (args : Array Value) (s : State) (G : va_G) (cy : Nat → ClassId) (A : Nat → Prop) (r : Int32) (w' : va_W) (mc ms : Nat) : State → Prop := MQ below (va_Qi (fun (r' : Int32) (_ : Unit) => r' = r) (fun _ => vO G cy A w') A) args s mc ms A
def QV (below : List Frame) (args : Array Value) (s : State) (G : va_G) (cy : Nat → ClassId) (A : Nat → Prop) (w' : va_W) (mc ms : Nat) : State → Prop := MQ below (va_Qv (fun (_ : Unit) => True) (fun _ => vO G cy A w') A) args s mc ms A
theorem v_ret0 {v r : Int32} {ty : FieldType} (C : vC p s m args meth c cc nL Ts own (some ty) G cy A) (hn : narrow ty (.int v) = .int v) (hd : decode cc pc = .ok (.ireturn, 1)) (hr : v = r) : V p l e R s m args below meth c nL G A (QI below args s G cy A r w cells slots) w cells slots pc lo [.int v] := by
  intro H locs ls hP hD hS hl
  exact W.zret C.1.1 C.1.2.1 C.2.2.2.1 hn (fun t ht hW => ⟨⟨v, (), rfl, hr, by rw [ht]; exact hP, va_K.moved hW.alike C.2.1, hD⟩, hS.F ht⟩) hS.2.2 hd C.2.2.2.2
theorem v_iret {v r : Int32} (C : vC p s m args meth c cc nL Ts own (some .int) G cy A) (hd : decode cc pc = .ok (.ireturn, 1)) (hr : v = r) : V p l e R s m args below meth c nL G A (QI below args s G cy A r w cells slots) w cells slots pc lo [.int v] := v_ret0 C rfl hd hr
theorem v_zret {v r : Int32} (C : vC p s m args meth c cc nL Ts own (some .boolean) G cy A) (hn : vp_nar .boolean v = v) (hd : decode cc pc = .ok (.ireturn, 1)) (hr : v = r) : V p l e R s m args below meth c nL G A (QI below args s G cy A r w cells slots) w cells slots pc lo [.int v] := v_ret0 C (by have h : narrow .boolean (.int v) = .int (vp_nar .boolean v) := rfl; rw [h, hn]) hd hr
theorem v_vret (C : vC p s m args meth c cc nL Ts own none G cy A) (hd : decode cc pc = .ok (.return_, 1)) : V p l e R s m args below meth c nL G A (QV below args s G cy A w cells slots) w cells slots pc lo [] := by
  intro H locs ls hP hD hS hl
  exact W.vret C.1.1 C.1.2.1 C.2.2.2.1 (fun t ht hW => ⟨⟨(), rfl, trivial, by rw [ht]; exact hP, va_K.moved hW.alike C.2.1, hD⟩, hS.F ht⟩) hS.2.2 hd C.2.2.2.2
end VL
abbrev vR (fr lc mc ms : Nat) : Room := { frames := fr, cells := mc, slots := ms, locals := lc }
def vI (G : va_G) (cy : Nat → ClassId) (w : va_W) (sz : Nat) (U : State) : Prop := U.heap.size = sz ∧ va_P G vwCl w U.heap ∧ va_K G vwCl (tyL cy) U ∧ va_D (fun _ => True) w
/-- contracts: an int (or boolean) answer; none -/
def KI (l : Launch) (G : va_G) (cy : Nat → ClassId) (y : MethodName) (ws : List Cond) (fr lc mc ms : Nat) (as : List Value) (w : va_W) (r : Int32) (w' : va_W) : Prop := ∀ sz : Nat, Met l y ws (vR fr lc mc ms) (va_Pc as (vI G cy w sz)) (va_Qi (fun (r' : Int32) (_ : Unit) => r' = r) (fun _ => vO G cy (va_A w sz) w') (va_A w sz)) mc ms (va_A w sz)
def KV (l : Launch) (G : va_G) (cy : Nat → ClassId) (y : MethodName) (ws : List Cond) (fr lc mc ms : Nat) (as : List Value) (w : va_W) (w' : va_W) : Prop := ∀ sz : Nat, Met l y ws (vR fr lc mc ms) (va_Pc as (vI G cy w sz)) (va_Qv (fun (_ : Unit) => True) (fun _ => vO G cy (va_A w sz) w') (va_A w sz)) mc ms (va_A w sz)
theorem vI_blind {G : va_G} {cy : Nat → ClassId} {w : va_W} {sz : Nat} {as : List Value} : FrameBlind (va_Pc as (vI G cy w sz)) := fun a U g mk q => by
  obtain ⟨q0, q1, qP, qK, qD⟩ := q
  exact ⟨q0, q1, qP, va_K.moved (u := U) (U := U.calling g mk a) (Vm.Alike.refl U.vm) qK, qD⟩
section VK
variable {l : Launch} {G : va_G} {cy : Nat → ClassId} {y : MethodName} {ws ws' : List Cond} {fr lc mc ms : Nat} {as : List Value} {w w' : va_W} {r : Int32} {cc : ByteArray} {maxL : Nat} {ret : Option FieldType}
theorem KI_of {own : String} {lo0 : List (Option Value)} (hy : plainName y.cls = true) (ho : y.cls = own) (hw : ws = Cond.code y cc maxL ret :: ws') (hc : ∀ v ∈ as, v.category = 1) (hn : as.length ≤ maxL) (hlo : as.map some ++ List.replicate (maxL - as.length) none = lo0)
    (body : ∀ (p : Program) (e : Env) (s : State) (m : MethodId) (args : Array Value) (below : List Frame) (meth : Method) (c : Code) (A : Nat → Prop), vC p s m args meth c cc maxL ws own ret G cy A → V p l e (vR fr lc mc ms) s m args below meth c maxL G A (QI below args s G cy A r w' mc ms) w 0 0 0 lo0 []) : KI l G cy y ws fr lc mc ms as w r w' := by
  intro sz
  refine Met.ofW (cc := cc) (maxL := maxL) (ret := ret) hy hw ?_
  intro p e s m args below meth c s₁ B hml hv
  obtain ⟨rfl, hsz, hP, hK, hD0⟩ := hv
  subst hsz
  have hown : s.vm.findClass own = some m.cls := by rw [← ho]; exact findClass_of_methodNamed B.named
  have C : vC p s m as.toArray meth c cc maxL ws own ret G cy (va_A w s.heap.size) := ⟨⟨B.exec, B.bytes, hml, hown, atoms_spec (ws := ws) B.pre⟩, hK, fun q h => Or.inr h, B.returns, B.notSynchronized⟩
  have hb := body p e s m as.toArray below meth c (va_A w s.heap.size) C
  have h := hb s.heap [] _ hP hD0.self va_S.rf (by rw [← hlo]; exact lo_entry as hc hn)
  rw [lg_entry_eq]
  exact h
theorem KV_of {own : String} {lo0 : List (Option Value)} (hy : plainName y.cls = true) (ho : y.cls = own) (hw : ws = Cond.code y cc maxL ret :: ws') (hc : ∀ v ∈ as, v.category = 1) (hn : as.length ≤ maxL) (hlo : as.map some ++ List.replicate (maxL - as.length) none = lo0)
    (body : ∀ (p : Program) (e : Env) (s : State) (m : MethodId) (args : Array Value) (below : List Frame) (meth : Method) (c : Code) (A : Nat → Prop), (y.name = "<init>" → meth.name = "<init>") → vC p s m args meth c cc maxL ws own ret G cy A → V p l e (vR fr lc mc ms) s m args below meth c maxL G A (QV below args s G cy A w' mc ms) w 0 0 0 lo0 []) : KV l G cy y ws fr lc mc ms as w w' := by
  intro sz
  refine Met.ofW (cc := cc) (maxL := maxL) (ret := ret) hy hw ?_
  intro p e s m args below meth c s₁ B hml hv
  obtain ⟨rfl, hsz, hP, hK, hD0⟩ := hv
  subst hsz
  have hown : s.vm.findClass own = some m.cls := by rw [← ho]; exact findClass_of_methodNamed B.named
  have C : vC p s m as.toArray meth c cc maxL ws own ret G cy (va_A w s.heap.size) := ⟨⟨B.exec, B.bytes, hml, hown, atoms_spec (ws := ws) B.pre⟩, hK, fun q h => Or.inr h, B.returns, B.notSynchronized⟩
  have hb := body p e s m as.toArray below meth c (va_A w s.heap.size) (fun h => (name_of_methodNamed B.named B.method).1.trans h) C
  have h := hb s.heap [] _ hP hD0.self va_S.rf (by rw [← hlo]; exact lo_entry as hc hn)
  rw [lg_entry_eq]
  exact h
end VK
section VCall
variable {p : Program} {l : Launch} {e : Env} {R : Room} {s : State} {m : MethodId} {args : Array Value} {below : List Frame} {meth : Method} {c : Code} {cells slots : Nat} {Q : State → Prop} {cc : ByteArray} {nL : Nat} {Ts : List Cond} {own : String} {ret : Option FieldType} {G : va_G} {cy : Nat → ClassId} {A : Nat → Prop} {w w2 wc w1 : va_W} {pc : Nat} {lo : List (Option Value)} {st rest : List Value}
variable {y : MethodName} {wsY wsY' : List Cond} {fr lc mc ms : Nat} {As : List Value} {r : Int32} {b : Nat} {bytes : ByteArray} {maxL idx nA : Nat} {retY : Option FieldType}
/-- invokevirtual of a method with a contract KI -/
theorem v_callVI (C : vC p s m args meth c cc nL Ts own ret G cy A) (wl wr : va_W) (k : KI l G cy y wsY fr lc mc ms (.ref b :: As) wc r w1) (hw : wsY = Cond.code y bytes maxL retY :: wsY') (hg : GoodIn Ts (wsV own idx y.cls y wsY))
    (hy : y.cls = y.cls ∧ y.cls ≠ "java/lang/invoke/MethodHandle" ∧ y.cls ≠ "java/lang/invoke/VarHandle" ∧ (parseMethodDescriptor y.desc).map (fun d => d.parameters.length) = some nA) (hna : As.length = nA) (hR : fr + 1 ≤ R.frames ∧ 8 + (maxL + 11) + lc ≤ R.locals) (hcs : cells + mc ≤ R.cells ∧ slots + ms ≤ R.slots)
    (hst : st = As.reverse ++ .ref b :: rest) (hcat : (rest.map fun v => v.category).sum ≤ 8) (q0 ci : Nat) {q : vw_C} {fs : List Value} (hrc : wc[q0]? = some (b, .inr (ci, fs))) (hci : vwCl[ci]? = some q) (hq : q.1 = y.cls)
    (hw0 : w = wl ++ (wc ++ wr)) (hw2 : wl ++ (w1 ++ wr) = w2) (hd : decode cc pc = .ok (.invokevirtual idx, 3)) (kk : V p l e R s m args below meth c nL G A Q w2 (cells + mc) (slots + ms) (pc + 3) lo (.int r :: rest)) : V p l e R s m args below meth c nL G A Q w cells slots pc lo st := by
  subst hst
  subst hw0
  subst hw2
  intro H locs ls hP hD hS hl
  obtain ⟨hPc, hDc⟩ := v_in hP hD
  have hFc := v_free hDc hS C.2.2.1
  obtain ⟨cell, r1, r2, r3⟩ := va_recv C.2.1 hPc hci hrc
  refine va_calli (va_runV (As := As) (rest := rest) C.1 (k H.size) (cwV nA C.1.2.2.2.2 hg hw rfl rfl hy hR) ⟨vI_blind, ⟨cell, r1, r2, by rw [← hq]; exact r3⟩, fun U hU hW => ⟨rfl, by rw [hU], by rw [hU]; exact hPc, va_K.moved hW.alike C.2.1, hDc.weaken (fun _ _ _ _ => trivial)⟩⟩ rfl hna (hl.1.1) rfl (lv_room hcat) hd hcs) hS (fun q _ h => hFc q h) hFc (fun r' u t H1 locs1 ht hvm hr' hB hz hk hS1 => ?_)
  obtain ⟨hP1, hK1, hD1⟩ := hB
  rw [ht] at hP1
  subst hr'
  obtain ⟨hP2, hD2⟩ := v_join hP hD hFc hk hP1 hD1
  exact kk H1 locs1 ls hP2 hD2 hS1 hl
theorem v_callVV (C : vC p s m args meth c cc nL Ts own ret G cy A) (wl wr : va_W) (k : KV l G cy y wsY fr lc mc ms (.ref b :: As) wc w1) (hw : wsY = Cond.code y bytes maxL retY :: wsY') (hg : GoodIn Ts (wsV own idx y.cls y wsY))
    (hy : y.cls = y.cls ∧ y.cls ≠ "java/lang/invoke/MethodHandle" ∧ y.cls ≠ "java/lang/invoke/VarHandle" ∧ (parseMethodDescriptor y.desc).map (fun d => d.parameters.length) = some nA) (hna : As.length = nA) (hR : fr + 1 ≤ R.frames ∧ 8 + (maxL + 11) + lc ≤ R.locals) (hcs : cells + mc ≤ R.cells ∧ slots + ms ≤ R.slots)
    (hst : st = As.reverse ++ .ref b :: rest) (hcat : (rest.map fun v => v.category).sum ≤ 8) (q0 ci : Nat) {q : vw_C} {fs : List Value} (hrc : wc[q0]? = some (b, .inr (ci, fs))) (hci : vwCl[ci]? = some q) (hq : q.1 = y.cls)
    (hw0 : w = wl ++ (wc ++ wr)) (hw2 : wl ++ (w1 ++ wr) = w2) (hd : decode cc pc = .ok (.invokevirtual idx, 3)) (kk : V p l e R s m args below meth c nL G A Q w2 (cells + mc) (slots + ms) (pc + 3) lo rest) : V p l e R s m args below meth c nL G A Q w cells slots pc lo st := by
  subst hst
  subst hw0
  subst hw2
  intro H locs ls hP hD hS hl
  obtain ⟨hPc, hDc⟩ := v_in hP hD
  have hFc := v_free hDc hS C.2.2.1
  obtain ⟨cell, r1, r2, r3⟩ := va_recv C.2.1 hPc hci hrc
  refine va_callv (va_runV (As := As) (rest := rest) C.1 (k H.size) (cwV nA C.1.2.2.2.2 hg hw rfl rfl hy hR) ⟨vI_blind, ⟨cell, r1, r2, by rw [← hq]; exact r3⟩, fun U hU hW => ⟨rfl, by rw [hU], by rw [hU]; exact hPc, va_K.moved hW.alike C.2.1, hDc.weaken (fun _ _ _ _ => trivial)⟩⟩ rfl hna (hl.1.1) rfl (lv_room hcat) hd hcs) hS (fun q _ h => hFc q h) hFc (fun u t H1 locs1 ht hvm hr' hB hz hk hS1 => ?_)
  obtain ⟨hP1, hK1, hD1⟩ := hB
  rw [ht] at hP1
  obtain ⟨hP2, hD2⟩ := v_join hP hD hFc hk hP1 hD1
  exact kk H1 locs1 ls hP2 hD2 hS1 hl
/-- invokestatic of a method with a contract KI -/
theorem v_callSI (C : vC p s m args meth c cc nL Ts own ret G cy A) (wl wr : va_W) (k : KI l G cy y wsY fr lc mc ms As wc r w1) (hw : wsY = Cond.code y bytes maxL retY :: wsY') (hg : GoodIn Ts (va_wsS own idx y wsY))
    (hy : y.cls ≠ "java/lang/invoke/MethodHandle" ∧ y.cls ≠ "java/lang/invoke/VarHandle" ∧ (parseMethodDescriptor y.desc).map (fun d => d.parameters.length) = some nA) (hna : As.length = nA) (hR : fr + 1 ≤ R.frames ∧ 8 + (maxL + 11) + lc ≤ R.locals) (hcs : cells + mc ≤ R.cells ∧ slots + ms ≤ R.slots)
    (hst : st = As.reverse ++ rest) (hcat : (rest.map fun v => v.category).sum ≤ 8)
    (hw0 : w = wl ++ (wc ++ wr)) (hw2 : wl ++ (w1 ++ wr) = w2) (hd : decode cc pc = .ok (.invokestatic idx, 3)) (kk : V p l e R s m args below meth c nL G A Q w2 (cells + mc) (slots + ms) (pc + 3) lo (.int r :: rest)) : V p l e R s m args below meth c nL G A Q w cells slots pc lo st := by
  subst hst
  subst hw0
  subst hw2
  intro H locs ls hP hD hS hl
  obtain ⟨hPc, hDc⟩ := v_in hP hD
  have hFc := v_free hDc hS C.2.2.1
  refine va_calli (va_runS (As := As) (rest := rest) C.1 (k H.size) (va_cwS nA C.1.2.2.2.2 hg hw rfl rfl hy hR) ⟨vI_blind, fun U hU hW => ⟨rfl, by rw [hU], by rw [hU]; exact hPc, va_K.moved hW.alike C.2.1, hDc.weaken (fun _ _ _ _ => trivial)⟩⟩ rfl hna (hl.1.1) rfl (lv_room hcat) hd hcs) hS (fun q _ h => hFc q h) hFc (fun r' u t H1 locs1 ht hvm hr' hB hz hk hS1 => ?_)
  obtain ⟨hP1, hK1, hD1⟩ := hB
  rw [ht] at hP1
  subst hr'
  obtain ⟨hP2, hD2⟩ := v_join hP hD hFc hk hP1 hD1
  exact kk H1 locs1 ls hP2 hD2 hS1 hl
end VCall

