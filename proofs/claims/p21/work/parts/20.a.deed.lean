/-! THE LAW: its deeds -/
section LX
variable {p : Program} {l : Launch} {e : Env} {R : Room} {s : State} {m : MethodId} {args : Array Value} {below : List Frame} {meth : Method} {c : Code} {cells slots : Nat} {Q : State → Prop} {cc : ByteArray} {nL : Nat} {Ts : List Cond} {own : String} {ret : Option FieldType} {G : va_G} {cy : Nat → ClassId} {A : Nat → Prop} {w w' : va_W} {pc : Nat} {lo : List (Option Value)} {st : List Value}
/-- paths that meet with a number of which P is known -/
theorem V.joinP (P : Int32 → Prop) (w' : va_W) (pc' : Nat) (lo' : List (Option Value)) (st' : List Value) (k : (∀ v, P v → V p l e R s m args below meth c nL G A Q w' cells slots (pc') lo' (.int v :: st')) → V p l e R s m args below meth c nL G A Q w cells slots (pc) lo (st)) (j : ∀ v, P v → V p l e R s m args below meth c nL G A Q w' cells slots (pc') lo' (.int v :: st')) : V p l e R s m args below meth c nL G A Q w cells slots (pc) lo (st) := k j
/-- a loop whose number changes in a way that isn't told -/
theorem V.loopE {α : Type} (S : Nat → α → va_W) (L : Nat → α → List (Option Value)) (P : Nat → α → Prop) (n : Nat)
    (step : ∀ k a, k ≤ n → P k a → (k < n → ∀ a', P (k + 1) a' → V p l e R s m args below meth c nL G A Q (S (k + 1) a') cells slots pc (L (k + 1) a') st) → V p l e R s m args below meth c nL G A Q (S k a) cells slots pc (L k a) st) (a0 : α) (h0 : P 0 a0) : V p l e R s m args below meth c nL G A Q (S 0 a0) cells slots pc (L 0 a0) st := by
  have key : ∀ (f k : Nat) (a : α), n < k + f → k ≤ n → P k a → V p l e R s m args below meth c nL G A Q (S k a) cells slots pc (L k a) st := by
    intro f
    induction f with
    | zero => intro k a h1 h2; omega
    | succ f ih => intro k a h1 h2 hp; exact step k a h2 hp (fun h3 a' h4 => ih (k + 1) a' (by omega) (by omega) h4)
  exact key (n + 1) 0 a0 (by omega) (by omega) h0
theorem v_sld (C : vC p s m args meth c cc nL Ts own ret G cy A) {b0 L : Nat} {xs : Nat → Int32} (S : va_X b0 L xs s s.heap) (hbl : b0 < s.heap.size) (hbA : ¬ A b0) (j : Nat) {i : Int32} (hi : i = nI j) (hj : j < L) (hL : L ≤ 3072) (hd : decode cc pc = .ok (.iaload, 1)) (k : V p l e R s m args below meth c nL G A Q w cells slots (pc + 1) lo (.int (xs j) :: st)) : V p l e R s m args below meth c nL G A Q w cells slots (pc) lo (.int i :: .ref b0 :: st) := by
  subst hi
  intro H locs ls hP hD hS hl
  refine va_sld C.1.1 C.1.2.1 S hbl hbA hS (vp_in_nI hj (by omega)) hd ?_
  rw [nI_clamp (by omega)]
  exact k H locs ls hP hD hS hl
theorem v_slen (C : vC p s m args meth c cc nL Ts own ret G cy A) {b0 L : Nat} {xs : Nat → Int32} (S : va_X b0 L xs s s.heap) (hbl : b0 < s.heap.size) (hbA : ¬ A b0) (hd : decode cc pc = .ok (.arraylength, 1)) (k : V p l e R s m args below meth c nL G A Q w cells slots (pc + 1) lo (.int (nI L) :: st)) : V p l e R s m args below meth c nL G A Q w cells slots (pc) lo (.ref b0 :: st) := fun H locs ls hP hD hS hl => va_slen C.1.1 C.1.2.1 S hbl hbA hS hd (k H locs ls hP hD hS hl)
end LX
theorem HC0 {c s : Nat} (h1 : c + 8 ≤ 600086) (h2 : s + 48 ≤ 7301441) : c + 0 ≤ room_1.cells ∧ s + 0 ≤ room_1.slots := ⟨by show c + 0 ≤ 600086; omega, by show s + 0 ≤ 7301441; omega⟩
theorem HC8 {c s : Nat} (h1 : c + 8 ≤ 600086) (h2 : s + 48 ≤ 7301441) : c + 8 ≤ room_1.cells ∧ s + 48 ≤ room_1.slots := ⟨by show c + 8 ≤ 600086; omega, by show s + 48 ≤ 7301441; omega⟩
set_option maxHeartbeats 4000000 in
set_option maxRecDepth 100000 in
theorem law_run {p : Program} {l : Launch} {e : Env} {s : State} {m : MethodId} {args : Array Value} {below : List Frame} {meth : Method} {c : Code} {Q : State → Prop} {ret : Option FieldType} {G : va_G} {cy : Nat → ClassId} {A : Nat → Prop} {al ad : Nat → Nat} {x : Sg} (C : vC p s m args meth c cL_law 25 wsL_law RL ret G cy A) (hX : xT A s s.heap) (hN : xN s) (hl : l.stackTraces = false) {b0 k Y rn bs dv : Nat} {kv : Int32} {u n om t cells slots : Nat} (h : J u n om t x) (hu : u ≤ 1000) (hY : Y < 2 ^ 31) (hrn : rn < 20) (hrn2 : 0 < n → rn < n) (hbs : bs < 5) (hdv : dv < 5) (hcc : cells + 8 ≤ 600086) (hss : slots + 48 ≤ 7301441) (hn20 : n < 20) (nx : ∀ (n' om' t' : Nat) (x' : Sg), J (u + 1) n' om' t' x' → V p l e room_1 s m args below meth c 25 G A Q (wL cy al x' (wD cy ad x')) (cells + 8) (slots + 48) 1502 [some (.ref b0), some (.ref (ad 0)), some (.ref (al 0)), some (.ref (al 1)), some (.ref (al 2)), some (.ref (al 3)), some (.ref (al 4)), some (.ref (al 5)), some (.ref (al 6)), some (.ref (al 7)), some (.ref (al 8)), some (.ref (al 9)), some (.int 1), some (.int (nI k)), none, none, some (.int (nI Y)), none, none, none, none, none, none, none, none] []) : V p l e room_1 s m args below meth c 25 G A Q (wL cy al x (wD cy ad x)) cells slots 284 [some (.ref b0), some (.ref (ad 0)), some (.ref (al 0)), some (.ref (al 1)), some (.ref (al 2)), some (.ref (al 3)), some (.ref (al 4)), some (.ref (al 5)), some (.ref (al 6)), some (.ref (al 7)), some (.ref (al 8)), some (.ref (al 9)), some (.int 1), some (.int (nI k)), none, some (.int kv), some (.int (nI Y)), some (.int (nI rn)), some (.int (nI bs)), some (.int (nI dv)), none, none, none, none, none] [] := by
  have ht30 := h.t30
  have h20 := h.n20
  have ho60 := h.o60
  refine V.joinP (fun v : Int32 => ∃ a : Nat, t < a ∧ a ≤ t + 3001 ∧ v = nI a) (wL cy al x (wD cy ad x)) 310 ([some (.ref b0), some (.ref (ad 0)), some (.ref (al 0)), some (.ref (al 1)), some (.ref (al 2)), some (.ref (al 3)), some (.ref (al 4)), some (.ref (al 5)), some (.ref (al 6)), some (.ref (al 7)), some (.ref (al 8)), some (.ref (al 9)), some (.int 1), some (.int (nI k)), none, some (.int kv), some (.int (nI Y)), some (.int (nI rn)), some (.int (nI bs)), some (.int (nI dv)), none, none, none, none, none] : List (Option Value)) ([] : List Value) (fun J1 => ?_) (fun v hv => ?_)
  · -- up to the join
    refine v_aload C dL_law_284 rfl ?_
    refine v_iconst C (0) dL_law_286 (by decide) ?_
    refine vL_l_n0 C dL_law_287 ?_
    refine v_iconst C (1) dL_law_288 (by decide) ?_
    refine v_iadd C dL_law_289 ?_
    refine v_iload C dL_law_290 rfl ?_
    refine v_iload C dL_law_292 rfl ?_
    refine v_iconst C (4) dL_law_294 (by decide) ?_
    refine v_irem C dL_law_295 (by decide) ?_
    refine v_if_ne C 305 dL_law_296 (by decide) (fun c1 => ?_) (fun c1 => ?_)
    · -- 296 t: ¬ ((nI Y) - (nI Y) / 4 * 4) = 0
      refine v_sipush C (250) dL_law_305 (by decide) ?_
      refine v_irem C dL_law_308 (by decide) ?_
      refine v_iadd C dL_law_309 ?_
      refine J1 _ ?_
      exact ⟨(t + 1) + (Y % 250), by omega, by omega, (addN (addN h.t0 rfl) (remN (a := Y) (m := 250) rfl (by omega) (by omega)))⟩
    · -- 296 f: not ¬ ((nI Y) - (nI Y) / 4 * 4) = 0
      refine v_sipush C (3000) dL_law_299 (by decide) ?_
      refine v_goto C 308 dL_law_302 (by decide) ?_
      refine v_irem C dL_law_308 (by decide) ?_
      refine v_iadd C dL_law_309 ?_
      refine J1 _ ?_
      exact ⟨(t + 1) + (Y % 3000), by omega, by omega, (addN (addN h.t0 rfl) (remN (a := Y) (m := 3000) rfl (by omega) (by omega)))⟩
  · -- behind the join
    obtain ⟨a, ha1, ha2, rfl⟩ := hv
    refine v_istore C dL_law_310 (by decide) ?_
    refine V.joinP (fun v : Int32 => ∃ mi : Nat, 1 ≤ mi ∧ mi ≤ 600 ∧ v = nI mi) (wL cy al x (wD cy ad x)) 336 ([some (.ref b0), some (.ref (ad 0)), some (.ref (al 0)), some (.ref (al 1)), some (.ref (al 2)), some (.ref (al 3)), some (.ref (al 4)), some (.ref (al 5)), some (.ref (al 6)), some (.ref (al 7)), some (.ref (al 8)), some (.ref (al 9)), some (.int 1), some (.int (nI k)), none, some (.int kv), some (.int (nI Y)), some (.int (nI rn)), some (.int (nI bs)), some (.int (nI dv)), some (.int (nI a)), none, none, none, none] : List (Option Value)) ([] : List Value) (fun J2 => ?_) (fun v hv => ?_)
    · -- up to the join
      refine v_iconst C (1) dL_law_312 (by decide) ?_
      refine v_iload C dL_law_313 rfl ?_
      refine v_bipush C (12) dL_law_315 (by decide) ?_
      refine v_idiv C dL_law_317 (by decide) ?_
      refine v_iload C dL_law_318 rfl ?_
      refine v_iconst C (5) dL_law_320 (by decide) ?_
      refine v_irem C dL_law_321 (by decide) ?_
      refine v_if_ne C 331 dL_law_322 (by decide) (fun c2 => ?_) (fun c2 => ?_)
      · -- 322 t: ¬ ((nI Y) - (nI Y) / 5 * 5) = 0
        refine v_sipush C (200) dL_law_331 (by decide) ?_
        refine v_irem C dL_law_334 (by decide) ?_
        refine v_iadd C dL_law_335 ?_
        refine J2 _ ?_
        exact ⟨1 + ((Y / 12) % 200), by omega, by omega, (addN rfl (remN (a := (Y / 12)) (m := 200) (divN (a := Y) (m := 12) rfl (by omega) (by omega)) (by omega) (by omega)))⟩
      · -- 322 f: not ¬ ((nI Y) - (nI Y) / 5 * 5) = 0
        refine v_sipush C (600) dL_law_325 (by decide) ?_
        refine v_goto C 334 dL_law_328 (by decide) ?_
        refine v_irem C dL_law_334 (by decide) ?_
        refine v_iadd C dL_law_335 ?_
        refine J2 _ ?_
        exact ⟨1 + ((Y / 12) % 600), by omega, by omega, (addN rfl (remN (a := (Y / 12)) (m := 600) (divN (a := Y) (m := 12) rfl (by omega) (by omega)) (by omega) (by omega)))⟩
    · -- behind the join
      obtain ⟨mi, hm1, hm2, rfl⟩ := hv
      refine v_istore C dL_law_336 (by decide) ?_
      refine V.joinP (fun v : Int32 => ∃ q : Nat, q ≤ 100 ∧ v = nI q) (wL cy al x (wD cy ad x)) 358 ([some (.ref b0), some (.ref (ad 0)), some (.ref (al 0)), some (.ref (al 1)), some (.ref (al 2)), some (.ref (al 3)), some (.ref (al 4)), some (.ref (al 5)), some (.ref (al 6)), some (.ref (al 7)), some (.ref (al 8)), some (.ref (al 9)), some (.int 1), some (.int (nI k)), none, some (.int kv), some (.int (nI Y)), some (.int (nI rn)), some (.int (nI bs)), some (.int (nI dv)), some (.int (nI a)), some (.int (nI mi)), none, none, none] : List (Option Value)) ([] : List Value) (fun J3 => ?_) (fun v hv => ?_)
      · -- up to the join
        refine v_iload C dL_law_338 rfl ?_
        refine v_bipush C (30) dL_law_340 (by decide) ?_
        refine v_idiv C dL_law_342 (by decide) ?_
        refine v_iload C dL_law_343 rfl ?_
        refine v_iconst C (3) dL_law_345 (by decide) ?_
        refine v_irem C dL_law_346 (by decide) ?_
        refine v_if_ne C 355 dL_law_347 (by decide) (fun c3 => ?_) (fun c3 => ?_)
        · -- 347 t: ¬ ((nI Y) - (nI Y) / 3 * 3) = 0
          refine v_bipush C (40) dL_law_355 (by decide) ?_
          refine v_irem C dL_law_357 (by decide) ?_
          refine J3 _ ?_
          exact ⟨(Y / 30) % 40, by omega, (remN (a := (Y / 30)) (m := 40) (divN (a := Y) (m := 30) rfl (by omega) (by omega)) (by omega) (by omega))⟩
        · -- 347 f: not ¬ ((nI Y) - (nI Y) / 3 * 3) = 0
          refine v_bipush C (101) dL_law_350 (by decide) ?_
          refine v_goto C 357 dL_law_352 (by decide) ?_
          refine v_irem C dL_law_357 (by decide) ?_
          refine J3 _ ?_
          exact ⟨(Y / 30) % 101, by omega, (remN (a := (Y / 30)) (m := 101) (divN (a := Y) (m := 30) rfl (by omega) (by omega)) (by omega) (by omega))⟩
      · -- behind the join
        obtain ⟨q, hq, rfl⟩ := hv
        refine v_istore C dL_law_358 (by decide) ?_
        refine v_iload C dL_law_360 rfl ?_
        refine v_sipush C (20000) dL_law_362 (by decide) ?_
        refine v_icmp_gt C 387 dL_law_365 (by decide) (fun c4 => ?_) (fun c4 => ?_)
        · -- 365 t: 20000 < (nI a)
          have hbad : ¬ (a ≤ 20000 ∧ a % 1440 + mi ≤ 1440) := by have := (nI_ltI (a := 20000) (by decide) (by omega)).mp c4; omega
          refine v_iconst C (0) dL_law_387 (by decide) ?_
          refine v_istore C dL_law_388 (by decide) ?_
          refine v_aload_n C dL_law_390 rfl ?_
          refine v_iconst C (0) dL_law_391 (by decide) ?_
          refine v_iload C dL_law_392 rfl ?_
          refine v_iload C dL_law_394 rfl ?_
          refine v_iload C dL_law_396 rfl ?_
          refine v_iconst C (0) dL_law_398 (by decide) ?_
          refine v_iconst C (0) dL_law_399 (by decide) ?_
          have hxo : xrun x (nI a) (nI mi) (nI q) = some nIA := xrun_bad h ha1 (by omega) hm1 hm2 hbad
          refine v_sW C hX hN (wL cy al x []) [] (w2 := wL cy al x (wD cy ad (oc (xrun x (nI a) (nI mi) (nI q)) (frun n x (nI a) (nI mi) (nI q)) x))) (k_L_does_run l G cy ad x (frun n x (nI a) (nI mi) (nI q)) (nI a) (nI mi) (nI q) 0 0 (x 1 0) (xrun x (nI a) (nI mi) (nI q)) hE_run (k_X1_run l G cy hl ad x n h.n1 (by omega) (nI a) (nI mi) (nI q))) rfl gL_law_L_does (nA := 7) (by decide +kernel) rfl (by decide) (HC8 hcc hss) rfl (Nat.le_of_ble_eq_true rfl) (by simp [wL]) (by simp [wL]) dL_law_400 ?_
          rw [hxo]
          refine V.ew (w' := wL cy al x (wD cy ad x)) rfl ?_
          refine V.es (st' := [.int (-12)]) (by rw [dcd_IA]) ?_
          refine v_iload C dL_law_403 rfl ?_
          refine v_if_eq C 415 dL_law_405 (by decide) (fun z => ?_) (fun z => absurd z (by decide))
          refine v_bipush C (-12) dL_law_415 (by decide) ?_
          refine v_icmp_ne C 424 dL_law_417 (by decide) (fun z => absurd z (by decide)) (fun z => ?_)
          refine v_iconst C (1) dL_law_420 (by decide) ?_
          refine v_goto C 425 dL_law_421 (by decide) ?_
          refine v_istore C dL_law_425 (by decide) ?_
          refine v_iload C dL_law_427 rfl ?_
          refine v_if_eq C 477 dL_law_429 (by decide) (fun z => ?_) (fun z => absurd z (by decide))
          refine v_goto C 1502 dL_law_477 (by decide) ?_
          refine V.ew (w' := wL cy al x (wD cy ad x)) ?_ ?_
          · have eS : x = x := rfl
            have eC : x = x := rfl
            rw [eS, eC]
          exact (V.lof 15 (V.lof 17 (V.lof 18 (V.lof 19 (V.lof 20 (V.lof 21 (V.lof 22 (V.lof 23 (V.widen (k := cells + 8) (n := slots + 48) (by omega) (by omega) (nx _ _ _ _ h.up))))))))))
        · -- 365 f: not 20000 < (nI a)
          have ha3 : a ≤ 20000 := by have := mt (nI_ltI (a := 20000) (by decide) (by omega)).mpr c4; omega
          refine v_iload C dL_law_368 rfl ?_
          refine v_sipush C (1440) dL_law_370 (by decide) ?_
          refine v_irem C dL_law_373 (by decide) ?_
          refine v_sipush C (1440) dL_law_374 (by decide) ?_
          refine v_iload C dL_law_377 rfl ?_
          refine v_isub C dL_law_379 ?_
          refine v_icmp_gt C 387 dL_law_380 (by decide) (fun c8 => ?_) (fun c8 => ?_)
          · -- 380 t: (1440 - (nI mi)) < ((nI a) - (nI a) / 1440 * 1440)
            have hbad : ¬ (a ≤ 20000 ∧ a % 1440 + mi ≤ 1440) := by have := (over_iff (by omega) hm2).mp c8; omega
            refine v_iconst C (0) dL_law_387 (by decide) ?_
            refine v_istore C dL_law_388 (by decide) ?_
            refine v_aload_n C dL_law_390 rfl ?_
            refine v_iconst C (0) dL_law_391 (by decide) ?_
            refine v_iload C dL_law_392 rfl ?_
            refine v_iload C dL_law_394 rfl ?_
            refine v_iload C dL_law_396 rfl ?_
            refine v_iconst C (0) dL_law_398 (by decide) ?_
            refine v_iconst C (0) dL_law_399 (by decide) ?_
            have hxo : xrun x (nI a) (nI mi) (nI q) = some nIA := xrun_bad h ha1 (by omega) hm1 hm2 hbad
            refine v_sW C hX hN (wL cy al x []) [] (w2 := wL cy al x (wD cy ad (oc (xrun x (nI a) (nI mi) (nI q)) (frun n x (nI a) (nI mi) (nI q)) x))) (k_L_does_run l G cy ad x (frun n x (nI a) (nI mi) (nI q)) (nI a) (nI mi) (nI q) 0 0 (x 1 0) (xrun x (nI a) (nI mi) (nI q)) hE_run (k_X1_run l G cy hl ad x n h.n1 (by omega) (nI a) (nI mi) (nI q))) rfl gL_law_L_does (nA := 7) (by decide +kernel) rfl (by decide) (HC8 hcc hss) rfl (Nat.le_of_ble_eq_true rfl) (by simp [wL]) (by simp [wL]) dL_law_400 ?_
            rw [hxo]
            refine V.ew (w' := wL cy al x (wD cy ad x)) rfl ?_
            refine V.es (st' := [.int (-12)]) (by rw [dcd_IA]) ?_
            refine v_iload C dL_law_403 rfl ?_
            refine v_if_eq C 415 dL_law_405 (by decide) (fun z => ?_) (fun z => absurd z (by decide))
            refine v_bipush C (-12) dL_law_415 (by decide) ?_
            refine v_icmp_ne C 424 dL_law_417 (by decide) (fun z => absurd z (by decide)) (fun z => ?_)
            refine v_iconst C (1) dL_law_420 (by decide) ?_
            refine v_goto C 425 dL_law_421 (by decide) ?_
            refine v_istore C dL_law_425 (by decide) ?_
            refine v_iload C dL_law_427 rfl ?_
            refine v_if_eq C 477 dL_law_429 (by decide) (fun z => ?_) (fun z => absurd z (by decide))
            refine v_goto C 1502 dL_law_477 (by decide) ?_
            refine V.ew (w' := wL cy al x (wD cy ad x)) ?_ ?_
            · have eS : x = x := rfl
              have eC : x = x := rfl
              rw [eS, eC]
            exact (V.lof 15 (V.lof 17 (V.lof 18 (V.lof 19 (V.lof 20 (V.lof 21 (V.lof 22 (V.lof 23 (V.widen (k := cells + 8) (n := slots + 48) (by omega) (by omega) (nx _ _ _ _ h.up))))))))))
          · -- 380 f: not (1440 - (nI mi)) < ((nI a) - (nI a) / 1440 * 1440)
            have hok : a % 1440 + mi ≤ 1440 := by have := mt (over_iff (by omega) hm2).mpr c8; omega
            refine v_iconst C (1) dL_law_383 (by decide) ?_
            refine v_goto C 388 dL_law_384 (by decide) ?_
            refine v_istore C dL_law_388 (by decide) ?_
            refine v_aload_n C dL_law_390 rfl ?_
            refine v_iconst C (0) dL_law_391 (by decide) ?_
            refine v_iload C dL_law_392 rfl ?_
            refine v_iload C dL_law_394 rfl ?_
            refine v_iload C dL_law_396 rfl ?_
            refine v_iconst C (0) dL_law_398 (by decide) ?_
            refine v_iconst C (0) dL_law_399 (by decide) ?_
            have hxo : xrun x (nI a) (nI mi) (nI q) = none := xrun_ok h hn20 ha1 ha3 hm1 hm2 hok hq
            refine v_sW C hX hN (wL cy al x []) [] (w2 := wL cy al x (wD cy ad (oc (xrun x (nI a) (nI mi) (nI q)) (frun n x (nI a) (nI mi) (nI q)) x))) (k_L_does_run l G cy ad x (frun n x (nI a) (nI mi) (nI q)) (nI a) (nI mi) (nI q) 0 0 (x 1 0) (xrun x (nI a) (nI mi) (nI q)) hE_run (k_X1_run l G cy hl ad x n h.n1 (by omega) (nI a) (nI mi) (nI q))) rfl gL_law_L_does (nA := 7) (by decide +kernel) rfl (by decide) (HC8 hcc hss) rfl (Nat.le_of_ble_eq_true rfl) (by simp [wL]) (by simp [wL]) dL_law_400 ?_
            rw [hxo]
            refine V.ew (w' := wL cy al x (wD cy ad (frun n x (nI a) (nI mi) (nI q)))) rfl ?_
            refine V.es (st' := [.int (x 1 0)]) rfl ?_
            refine v_iload C dL_law_403 rfl ?_
            refine v_if_eq C 415 dL_law_405 (by decide) (fun z => absurd z (by decide)) (fun z => ?_)
            refine v_aload C dL_law_408 rfl ?_
            refine v_iconst C (1) dL_law_410 (by decide) ?_
            refine vL_l_n1 C dL_law_411 ?_
            refine v_goto C 417 dL_law_412 (by decide) ?_
            refine v_icmp_ne C 424 dL_law_417 (by decide) (fun z => absurd z (Classical.not_not.mpr rfl)) (fun z => ?_)
            refine v_iconst C (1) dL_law_420 (by decide) ?_
            refine v_goto C 425 dL_law_421 (by decide) ?_
            refine v_istore C dL_law_425 (by decide) ?_
            refine v_iload C dL_law_427 rfl ?_
            refine v_if_eq C 477 dL_law_429 (by decide) (fun z => absurd z (by decide)) (fun z => ?_)
            refine v_aload_n C dL_law_432 rfl ?_
            refine v_iconst C (3) dL_law_433 (by decide) ?_
            refine v_aload C dL_law_434 rfl ?_
            refine v_iconst C (1) dL_law_436 (by decide) ?_
            refine vL_l_n1 C dL_law_437 ?_
            refine v_imul C dL_law_438 ?_
            refine v_iload C dL_law_439 rfl ?_
            refine vL_s_r0 C n h.n1 (by omega) dL_law_441 ?_
            refine v_aload_n C dL_law_442 rfl ?_
            refine v_iconst C (3) dL_law_443 (by decide) ?_
            refine v_aload C dL_law_444 rfl ?_
            refine v_iconst C (1) dL_law_446 (by decide) ?_
            refine vL_l_n1 C dL_law_447 ?_
            refine V.es (st' := [.int (x 1 0), .int 3, .ref (al 0)]) (by rw [su_f _ _ _ _ (by decide)]) ?_
            refine v_imul C dL_law_448 ?_
            refine v_iconst C (1) dL_law_449 (by decide) ?_
            refine v_iadd C dL_law_450 ?_
            refine v_iload C dL_law_451 rfl ?_
            refine v_iload C dL_law_453 rfl ?_
            refine v_iadd C dL_law_455 ?_
            refine vL_s_r1 C n h.n1 (by omega) dL_law_456 ?_
            refine v_aload_n C dL_law_457 rfl ?_
            refine v_iconst C (3) dL_law_458 (by decide) ?_
            refine v_aload C dL_law_459 rfl ?_
            refine v_iconst C (1) dL_law_461 (by decide) ?_
            refine vL_l_n1 C dL_law_462 ?_
            refine V.es (st' := [.int (x 1 0), .int 3, .ref (al 0)]) (by rw [su_f _ _ _ _ (by decide), su_f _ _ _ _ (by decide)]) ?_
            refine v_imul C dL_law_463 ?_
            refine v_iconst C (2) dL_law_464 (by decide) ?_
            refine v_iadd C dL_law_465 ?_
            refine v_iload C dL_law_466 rfl ?_
            refine vL_s_r2 C n h.n1 (by omega) dL_law_468 ?_
            refine v_aload C dL_law_469 rfl ?_
            refine v_iconst C (1) dL_law_471 (by decide) ?_
            refine v_dup2 C dL_law_472 rfl rfl ?_
            refine vL_l_n1 C dL_law_473 ?_
            refine V.es (st' := [.int (x 1 0), .int 1, .ref (al 9)]) (by rw [su_f _ _ _ _ (by decide), su_f _ _ _ _ (by decide), su_f _ _ _ _ (by decide)]) ?_
            refine v_iconst C (1) dL_law_474 (by decide) ?_
            refine v_iadd C dL_law_475 ?_
            refine vL_s_n1 C dL_law_476 ?_
            refine v_goto C 1502 dL_law_477 (by decide) ?_
            refine V.ew (w' := wL cy al (frun n x (nI a) (nI mi) (nI q)) (wD cy ad (frun n x (nI a) (nI mi) (nI q)))) ?_ ?_
            · have eS : su (su (su (su x 6 n (nI a)) 7 n ((nI a) + (nI mi))) 8 n (nI q)) 1 0 ((x 1 0) + 1) = frun n x (nI a) (nI mi) (nI q) := by simp [frun, ftell, su_f]
              have eC : frun n x (nI a) (nI mi) (nI q) = frun n x (nI a) (nI mi) (nI q) := rfl
              rw [eS, eC]
            exact (V.lof 15 (V.lof 17 (V.lof 18 (V.lof 19 (V.lof 20 (V.lof 21 (V.lof 22 (V.lof 23 (V.widen (k := cells + 8) (n := slots + 48) (by omega) (by omega) (nx _ _ _ _ (J_run h hn20 ha1 hm1 hm2 hok ha3 hq)))))))))))
set_option maxHeartbeats 4000000 in
set_option maxRecDepth 100000 in
theorem law_lead {p : Program} {l : Launch} {e : Env} {s : State} {m : MethodId} {args : Array Value} {below : List Frame} {meth : Method} {c : Code} {Q : State → Prop} {ret : Option FieldType} {G : va_G} {cy : Nat → ClassId} {A : Nat → Prop} {al ad : Nat → Nat} {x : Sg} (C : vC p s m args meth c cL_law 25 wsL_law RL ret G cy A) (hX : xT A s s.heap) (hN : xN s) (hl : l.stackTraces = false) {b0 k Y rn bs dv : Nat} {kv : Int32} {u n om t cells slots : Nat} (h : J u n om t x) (hu : u ≤ 1000) (hY : Y < 2 ^ 31) (hrn : rn < 20) (hrn2 : 0 < n → rn < n) (hbs : bs < 5) (hdv : dv < 5) (hcc : cells + 8 ≤ 600086) (hss : slots + 48 ≤ 7301441) (nx : ∀ (n' om' t' : Nat) (x' : Sg), J (u + 1) n' om' t' x' → V p l e room_1 s m args below meth c 25 G A Q (wL cy al x' (wD cy ad x')) (cells + 8) (slots + 48) 1502 [some (.ref b0), some (.ref (ad 0)), some (.ref (al 0)), some (.ref (al 1)), some (.ref (al 2)), some (.ref (al 3)), some (.ref (al 4)), some (.ref (al 5)), some (.ref (al 6)), some (.ref (al 7)), some (.ref (al 8)), some (.ref (al 9)), some (.int 1), some (.int (nI k)), none, none, some (.int (nI Y)), none, none, none, none, none, none, none, none] []) : V p l e room_1 s m args below meth c 25 G A Q (wL cy al x (wD cy ad x)) cells slots 487 [some (.ref b0), some (.ref (ad 0)), some (.ref (al 0)), some (.ref (al 1)), some (.ref (al 2)), some (.ref (al 3)), some (.ref (al 4)), some (.ref (al 5)), some (.ref (al 6)), some (.ref (al 7)), some (.ref (al 8)), some (.ref (al 9)), some (.int 1), some (.int (nI k)), none, some (.int kv), some (.int (nI Y)), some (.int (nI rn)), some (.int (nI bs)), some (.int (nI dv)), none, none, none, none, none] [] := by
  have ht30 := h.t30
  have h20 := h.n20
  have ho60 := h.o60
  refine v_iload C dL_law_487 rfl ?_
  refine v_iconst C (2) dL_law_489 (by decide) ?_
  refine v_irem C dL_law_490 (by decide) ?_
  obtain ⟨d, hd2, e_d⟩ : ∃ d : Nat, d < 2 ∧ (nI Y) - (nI Y) / 2 * 2 = nI d := ⟨Y % 2, by omega, (remN (a := Y) (m := 2) rfl (by omega) (by omega))⟩
  refine V.es (st' := [.int (nI d)]) (by rw [e_d]) ?_
  refine v_istore C dL_law_491 (by decide) ?_
  refine V.joinP (fun v : Int32 => ∃ mi : Nat, 1 ≤ mi ∧ mi ≤ 1000 ∧ v = nI mi) (wL cy al x (wD cy ad x)) 515 ([some (.ref b0), some (.ref (ad 0)), some (.ref (al 0)), some (.ref (al 1)), some (.ref (al 2)), some (.ref (al 3)), some (.ref (al 4)), some (.ref (al 5)), some (.ref (al 6)), some (.ref (al 7)), some (.ref (al 8)), some (.ref (al 9)), some (.int 1), some (.int (nI k)), none, some (.int kv), some (.int (nI Y)), some (.int (nI rn)), some (.int (nI bs)), some (.int (nI dv)), some (.int (nI d)), none, none, none, none] : List (Option Value)) ([] : List Value) (fun J1 => ?_) (fun v hv => ?_)
  · -- up to the join
    refine v_iconst C (1) dL_law_493 (by decide) ?_
    refine v_iload C dL_law_494 rfl ?_
    refine v_iconst C (2) dL_law_496 (by decide) ?_
    refine v_idiv C dL_law_497 (by decide) ?_
    refine v_iload C dL_law_498 rfl ?_
    refine v_iconst C (3) dL_law_500 (by decide) ?_
    refine v_irem C dL_law_501 (by decide) ?_
    refine v_if_ne C 511 dL_law_502 (by decide) (fun c1 => ?_) (fun c1 => ?_)
    · -- 502 t: ¬ ((nI Y) - (nI Y) / 3 * 3) = 0
      refine v_bipush C (100) dL_law_511 (by decide) ?_
      refine v_irem C dL_law_513 (by decide) ?_
      refine v_iadd C dL_law_514 ?_
      refine J1 _ ?_
      exact ⟨1 + ((Y / 2) % 100), by omega, by omega, (addN rfl (remN (a := (Y / 2)) (m := 100) (divN (a := Y) (m := 2) rfl (by omega) (by omega)) (by omega) (by omega)))⟩
    · -- 502 f: not ¬ ((nI Y) - (nI Y) / 3 * 3) = 0
      refine v_sipush C (1000) dL_law_505 (by decide) ?_
      refine v_goto C 513 dL_law_508 (by decide) ?_
      refine v_irem C dL_law_513 (by decide) ?_
      refine v_iadd C dL_law_514 ?_
      refine J1 _ ?_
      exact ⟨1 + ((Y / 2) % 1000), by omega, by omega, (addN rfl (remN (a := (Y / 2)) (m := 1000) (divN (a := Y) (m := 2) rfl (by omega) (by omega)) (by omega) (by omega)))⟩
  · -- behind the join
    obtain ⟨mi, hm1, hm2, rfl⟩ := hv
    refine v_istore C dL_law_515 (by decide) ?_
    refine v_aload C dL_law_517 rfl ?_
    refine v_sI C (k_L_leader l G cy al x (wD cy ad x)) rfl gL_law_L_leader (nA := 1) (by decide +kernel) rfl (by decide) (HC0 hcc hss) rfl (Nat.le_of_ble_eq_true rfl) dL_law_519 ?_
    refine v_if_lt C 535 dL_law_522 (by decide) (fun c2 => ?_) (fun c2 => ?_)
    · -- 522 t: (flead x) < 0
      have hled : ledby x (nI d) := Or.inl (lead_neg h.hd c2)
      refine v_iconst C (1) dL_law_535 (by decide) ?_
      refine v_goto C 540 dL_law_536 (by decide) ?_
      refine v_istore C dL_law_540 (by decide) ?_
      refine v_aload_n C dL_law_542 rfl ?_
      refine v_iload C dL_law_543 rfl ?_
      refine v_iload C dL_law_545 rfl ?_
      have hxo : xlead (nI d) (nI mi) = none := xlead_ok hd2 hm1 hm2
      refine v_tryVI C hX (wL cy al x []) [] (w2 := wL cy al x (wD cy ad (fleads x (nI d) (nI mi)))) (k_X1_lead l G cy hl ad x (nI d) (nI mi)) rfl gL_law_X1_lead (nA := 2) (by decide +kernel) rfl (by decide) (HC8 hcc hss) rfl (Nat.le_of_ble_eq_true rfl) 0 1 rfl rfl rfl (by simp [wL]) (by simp [wL]) dL_law_547 (fun E a hxE => no_x hxo hxE) (fun _ => ?_)
      refine V.es (st' := [.int 1]) (by rw [b2i_t hled]) ?_
      refine v_iload C dL_law_550 rfl ?_
      refine v_icmp_ne C 559 dL_law_552 (by decide) (fun z => absurd z (by decide)) (fun z => ?_)
      refine v_iconst C (1) dL_law_555 (by decide) ?_
      refine v_goto C 560 dL_law_556 (by decide) ?_
      refine v_istore C dL_law_560 (by decide) ?_
      refine v_aload C dL_law_562 rfl ?_
      refine v_iconst C (3) dL_law_564 (by decide) ?_
      refine v_iload C dL_law_565 rfl ?_
      refine v_if_eq C 577 dL_law_567 (by decide) (fun z => absurd z (by decide)) (fun z => ?_)
      refine v_iload C dL_law_570 rfl ?_
      refine v_iconst C (1) dL_law_572 (by decide) ?_
      refine v_iadd C dL_law_573 ?_
      refine v_goto C 581 dL_law_574 (by decide) ?_
      refine vL_s_n3 C (v := nI d) rfl dL_law_581 ?_
      refine v_aload C dL_law_582 rfl ?_
      refine v_iconst C (4) dL_law_584 (by decide) ?_
      refine v_iload C dL_law_585 rfl ?_
      refine v_if_eq C 600 dL_law_587 (by decide) (fun z => absurd z (by decide)) (fun z => ?_)
      refine v_aload C dL_law_590 rfl ?_
      refine v_iconst C (0) dL_law_592 (by decide) ?_
      refine vL_l_n0 C dL_law_593 ?_
      refine V.es (st' := [.int (x 0 0), .int 4, .ref (al 9)]) (by rw [su_f _ _ _ _ (by decide)]) ?_
      refine v_iload C dL_law_594 rfl ?_
      refine v_iadd C dL_law_596 ?_
      refine v_goto C 604 dL_law_597 (by decide) ?_
      refine vL_s_n4 C dL_law_604 ?_
      refine v_goto C 1502 dL_law_605 (by decide) ?_
      refine V.ew (w' := wL cy al (fleads x (nI d) (nI mi)) (wD cy ad (fleads x (nI d) (nI mi)))) ?_ ?_
      · have eS : su (su x 3 0 (nI d)) 4 0 ((x 0 0) + (nI mi)) = fleads x (nI d) (nI mi) := by unfold fleads; rw [pif_t hled, su_f _ _ _ _ (show 0 ≠ 3 by decide)]
        have eC : fleads x (nI d) (nI mi) = fleads x (nI d) (nI mi) := rfl
        rw [eS, eC]
      exact (V.lof 15 (V.lof 17 (V.lof 18 (V.lof 19 (V.lof 20 (V.lof 21 (V.lof 22 (V.widen (k := cells + 8) (n := slots + 48) (by omega) (by omega) (nx _ _ _ _ (J_lead h hd2 (nI mi)))))))))))
    · -- 522 f: not (flead x) < 0
      refine v_aload C dL_law_525 rfl ?_
      refine v_sI C (k_L_leader l G cy al x (wD cy ad x)) rfl gL_law_L_leader (nA := 1) (by decide +kernel) rfl (by decide) (HC0 hcc hss) rfl (Nat.le_of_ble_eq_true rfl) dL_law_527 ?_
      refine v_iload C dL_law_530 rfl ?_
      refine v_icmp_ne C 539 dL_law_532 (by decide) (fun c6 => ?_) (fun c6 => ?_)
      · -- 532 t: ¬ (flead x) = (nI d)
        have hnl : ¬ ledby x (nI d) := fun z => z.elim (fun z => c2 (by rw [z]; exact nneg)) c6
        refine v_iconst C (0) dL_law_539 (by decide) ?_
        refine v_istore C dL_law_540 (by decide) ?_
        refine v_aload_n C dL_law_542 rfl ?_
        refine v_iload C dL_law_543 rfl ?_
        refine v_iload C dL_law_545 rfl ?_
        have hxo : xlead (nI d) (nI mi) = none := xlead_ok hd2 hm1 hm2
        refine v_tryVI C hX (wL cy al x []) [] (w2 := wL cy al x (wD cy ad (fleads x (nI d) (nI mi)))) (k_X1_lead l G cy hl ad x (nI d) (nI mi)) rfl gL_law_X1_lead (nA := 2) (by decide +kernel) rfl (by decide) (HC8 hcc hss) rfl (Nat.le_of_ble_eq_true rfl) 0 1 rfl rfl rfl (by simp [wL]) (by simp [wL]) dL_law_547 (fun E a hxE => no_x hxo hxE) (fun _ => ?_)
        refine V.es (st' := [.int 0]) (by rw [b2i_f hnl]) ?_
        refine v_iload C dL_law_550 rfl ?_
        refine v_icmp_ne C 559 dL_law_552 (by decide) (fun z => absurd z (by decide)) (fun z => ?_)
        refine v_iconst C (1) dL_law_555 (by decide) ?_
        refine v_goto C 560 dL_law_556 (by decide) ?_
        refine v_istore C dL_law_560 (by decide) ?_
        refine v_aload C dL_law_562 rfl ?_
        refine v_iconst C (3) dL_law_564 (by decide) ?_
        refine v_iload C dL_law_565 rfl ?_
        refine v_if_eq C 577 dL_law_567 (by decide) (fun z => ?_) (fun z => absurd z (by decide))
        refine v_aload C dL_law_577 rfl ?_
        refine v_iconst C (3) dL_law_579 (by decide) ?_
        refine vL_l_n3 C dL_law_580 ?_
        refine vL_s_n3 C (v := x 3 0) rfl dL_law_581 ?_
        refine v_aload C dL_law_582 rfl ?_
        refine v_iconst C (4) dL_law_584 (by decide) ?_
        refine v_iload C dL_law_585 rfl ?_
        refine v_if_eq C 600 dL_law_587 (by decide) (fun z => ?_) (fun z => absurd z (by decide))
        refine v_aload C dL_law_600 rfl ?_
        refine v_iconst C (4) dL_law_602 (by decide) ?_
        refine vL_l_n4 C dL_law_603 ?_
        refine V.es (st' := [.int (x 4 0), .int 4, .ref (al 9)]) (by rw [su_f _ _ _ _ (by decide)]) ?_
        refine vL_s_n4 C dL_law_604 ?_
        refine v_goto C 1502 dL_law_605 (by decide) ?_
        refine V.ew (w' := wL cy al (fleads x (nI d) (nI mi)) (wD cy ad (fleads x (nI d) (nI mi)))) ?_ ?_
        · have eS : su (su x 3 0 (x 3 0)) 4 0 (x 4 0) = fleads x (nI d) (nI mi) := by unfold fleads; rw [pif_f hnl, su_id, su_id]
          have eC : fleads x (nI d) (nI mi) = fleads x (nI d) (nI mi) := rfl
          rw [eS, eC]
        exact (V.lof 15 (V.lof 17 (V.lof 18 (V.lof 19 (V.lof 20 (V.lof 21 (V.lof 22 (V.widen (k := cells + 8) (n := slots + 48) (by omega) (by omega) (nx _ _ _ _ (J_lead h hd2 (nI mi)))))))))))
      · -- 532 f: not ¬ (flead x) = (nI d)
        have hled : ledby x (nI d) := Or.inr c6
        refine v_iconst C (1) dL_law_535 (by decide) ?_
        refine v_goto C 540 dL_law_536 (by decide) ?_
        refine v_istore C dL_law_540 (by decide) ?_
        refine v_aload_n C dL_law_542 rfl ?_
        refine v_iload C dL_law_543 rfl ?_
        refine v_iload C dL_law_545 rfl ?_
        have hxo : xlead (nI d) (nI mi) = none := xlead_ok hd2 hm1 hm2
        refine v_tryVI C hX (wL cy al x []) [] (w2 := wL cy al x (wD cy ad (fleads x (nI d) (nI mi)))) (k_X1_lead l G cy hl ad x (nI d) (nI mi)) rfl gL_law_X1_lead (nA := 2) (by decide +kernel) rfl (by decide) (HC8 hcc hss) rfl (Nat.le_of_ble_eq_true rfl) 0 1 rfl rfl rfl (by simp [wL]) (by simp [wL]) dL_law_547 (fun E a hxE => no_x hxo hxE) (fun _ => ?_)
        refine V.es (st' := [.int 1]) (by rw [b2i_t hled]) ?_
        refine v_iload C dL_law_550 rfl ?_
        refine v_icmp_ne C 559 dL_law_552 (by decide) (fun z => absurd z (by decide)) (fun z => ?_)
        refine v_iconst C (1) dL_law_555 (by decide) ?_
        refine v_goto C 560 dL_law_556 (by decide) ?_
        refine v_istore C dL_law_560 (by decide) ?_
        refine v_aload C dL_law_562 rfl ?_
        refine v_iconst C (3) dL_law_564 (by decide) ?_
        refine v_iload C dL_law_565 rfl ?_
        refine v_if_eq C 577 dL_law_567 (by decide) (fun z => absurd z (by decide)) (fun z => ?_)
        refine v_iload C dL_law_570 rfl ?_
        refine v_iconst C (1) dL_law_572 (by decide) ?_
        refine v_iadd C dL_law_573 ?_
        refine v_goto C 581 dL_law_574 (by decide) ?_
        refine vL_s_n3 C (v := nI d) rfl dL_law_581 ?_
        refine v_aload C dL_law_582 rfl ?_
        refine v_iconst C (4) dL_law_584 (by decide) ?_
        refine v_iload C dL_law_585 rfl ?_
        refine v_if_eq C 600 dL_law_587 (by decide) (fun z => absurd z (by decide)) (fun z => ?_)
        refine v_aload C dL_law_590 rfl ?_
        refine v_iconst C (0) dL_law_592 (by decide) ?_
        refine vL_l_n0 C dL_law_593 ?_
        refine V.es (st' := [.int (x 0 0), .int 4, .ref (al 9)]) (by rw [su_f _ _ _ _ (by decide)]) ?_
        refine v_iload C dL_law_594 rfl ?_
        refine v_iadd C dL_law_596 ?_
        refine v_goto C 604 dL_law_597 (by decide) ?_
        refine vL_s_n4 C dL_law_604 ?_
        refine v_goto C 1502 dL_law_605 (by decide) ?_
        refine V.ew (w' := wL cy al (fleads x (nI d) (nI mi)) (wD cy ad (fleads x (nI d) (nI mi)))) ?_ ?_
        · have eS : su (su x 3 0 (nI d)) 4 0 ((x 0 0) + (nI mi)) = fleads x (nI d) (nI mi) := by unfold fleads; rw [pif_t hled, su_f _ _ _ _ (show 0 ≠ 3 by decide)]
          have eC : fleads x (nI d) (nI mi) = fleads x (nI d) (nI mi) := rfl
          rw [eS, eC]
        exact (V.lof 15 (V.lof 17 (V.lof 18 (V.lof 19 (V.lof 20 (V.lof 21 (V.lof 22 (V.widen (k := cells + 8) (n := slots + 48) (by omega) (by omega) (nx _ _ _ _ (J_lead h hd2 (nI mi)))))))))))
set_option maxHeartbeats 4000000 in
set_option maxRecDepth 100000 in
theorem law_breaks {p : Program} {l : Launch} {e : Env} {s : State} {m : MethodId} {args : Array Value} {below : List Frame} {meth : Method} {c : Code} {Q : State → Prop} {ret : Option FieldType} {G : va_G} {cy : Nat → ClassId} {A : Nat → Prop} {al ad : Nat → Nat} {x : Sg} (C : vC p s m args meth c cL_law 25 wsL_law RL ret G cy A) (hX : xT A s s.heap) (hN : xN s) (hl : l.stackTraces = false) {b0 k Y rn bs dv : Nat} {kv : Int32} {u n om t cells slots : Nat} (h : J u n om t x) (hu : u ≤ 1000) (hY : Y < 2 ^ 31) (hrn : rn < 20) (hrn2 : 0 < n → rn < n) (hbs : bs < 5) (hdv : dv < 5) (hcc : cells + 8 ≤ 600086) (hss : slots + 48 ≤ 7301441) (nx : ∀ (n' om' t' : Nat) (x' : Sg), J (u + 1) n' om' t' x' → V p l e room_1 s m args below meth c 25 G A Q (wL cy al x' (wD cy ad x')) (cells + 8) (slots + 48) 1502 [some (.ref b0), some (.ref (ad 0)), some (.ref (al 0)), some (.ref (al 1)), some (.ref (al 2)), some (.ref (al 3)), some (.ref (al 4)), some (.ref (al 5)), some (.ref (al 6)), some (.ref (al 7)), some (.ref (al 8)), some (.ref (al 9)), some (.int 1), some (.int (nI k)), none, none, some (.int (nI Y)), none, none, none, none, none, none, none, none] []) : V p l e room_1 s m args below meth c 25 G A Q (wL cy al x (wD cy ad x)) cells slots 1047 [some (.ref b0), some (.ref (ad 0)), some (.ref (al 0)), some (.ref (al 1)), some (.ref (al 2)), some (.ref (al 3)), some (.ref (al 4)), some (.ref (al 5)), some (.ref (al 6)), some (.ref (al 7)), some (.ref (al 8)), some (.ref (al 9)), some (.int 1), some (.int (nI k)), none, some (.int kv), some (.int (nI Y)), some (.int (nI rn)), some (.int (nI bs)), some (.int (nI dv)), none, none, none, none, none] [] := by
  have ht30 := h.t30
  have h20 := h.n20
  have ho60 := h.o60
  refine v_iload C dL_law_1047 rfl ?_
  refine v_iconst C (3) dL_law_1049 (by decide) ?_
  refine v_irem C dL_law_1050 (by decide) ?_
  refine v_if_le C 1058 dL_law_1051 (by decide) (fun c1 => ?_) (fun c1 => ?_)
  · -- 1051 t: ¬ 0 < ((nI Y) - (nI Y) / 3 * 3)
    refine v_iconst C (0) dL_law_1058 (by decide) ?_
    refine v_istore C dL_law_1059 (by decide) ?_
    refine v_aload C dL_law_1061 rfl ?_
    refine v_iconst C (2) dL_law_1063 (by decide) ?_
    refine v_iload C dL_law_1064 rfl ?_
    refine v_imul C dL_law_1066 ?_
    refine v_iconst C (1) dL_law_1067 (by decide) ?_
    refine v_iadd C dL_law_1068 ?_
    refine vL_l_b1 C bs rfl (by omega) dL_law_1069 ?_
    refine v_iconst C (1) dL_law_1070 (by decide) ?_
    refine v_icmp_ne C 1078 dL_law_1071 (by decide) (fun c2 => ?_) (fun c2 => ?_)
    · -- 1071 t: ¬ (x 13 bs) = 1
      have hw : x 13 bs = 0 := (h.bw.1 bs).elim id (fun z => absurd z c2)
      refine v_iconst C (0) dL_law_1078 (by decide) ?_
      refine v_istore C dL_law_1079 (by decide) ?_
      refine v_iload C dL_law_1081 rfl ?_
      refine v_if_eq C 1103 dL_law_1083 (by decide) (fun z => ?_) (fun z => absurd z (by decide))
      refine v_aload C dL_law_1103 rfl ?_
      refine v_iconst C (2) dL_law_1105 (by decide) ?_
      refine v_iload C dL_law_1106 rfl ?_
      refine v_imul C dL_law_1108 ?_
      refine v_iconst C (1) dL_law_1109 (by decide) ?_
      refine v_iadd C dL_law_1110 ?_
      refine v_iload C dL_law_1111 rfl ?_
      refine v_if_eq C 1120 dL_law_1113 (by decide) (fun z => ?_) (fun z => absurd z (by decide))
      refine v_iconst C (0) dL_law_1120 (by decide) ?_
      refine vL_s_b1 C bs rfl (by omega) dL_law_1121 ?_
      refine v_aload_n C dL_law_1122 rfl ?_
      refine v_iload C dL_law_1123 rfl ?_
      refine v_iload C dL_law_1125 rfl ?_
      have hxo : xIdx (nI bs) 5 = none := xidx5 hbs
      refine v_tryVI C hX (wL cy al (su x 13 bs 0) []) [] (w2 := wL cy al (su x 13 bs 0) (wD cy ad (fbreaks n x (nI bs) 0))) (k_X1_breaks l G cy hl ad x n h.n1 (by omega) h.b13 0 (by decide) (nI bs)) rfl gL_law_X1_breaks (nA := 2) (by decide +kernel) rfl (by decide) (HC8 hcc hss) rfl (Nat.le_of_ble_eq_true rfl) 0 1 rfl rfl rfl (by simp [wL]) (by simp [wL]) dL_law_1127 (fun E a hxE => no_x hxo hxE) (fun _ => ?_)
      refine V.es (st' := [.int 0]) (by rw [nI_clamp (by omega), hw]) ?_
      refine v_iload C dL_law_1130 rfl ?_
      refine v_icmp_ne C 1139 dL_law_1132 (by decide) (fun z => absurd z (by decide)) (fun z => ?_)
      refine v_iconst C (1) dL_law_1135 (by decide) ?_
      refine v_goto C 1140 dL_law_1136 (by decide) ?_
      refine v_istore C dL_law_1140 (by decide) ?_
      refine v_goto C 1502 dL_law_1142 (by decide) ?_
      refine V.ew (w' := wL cy al (fbreaks n x (nI bs) 0) (wD cy ad (fbreaks n x (nI bs) 0))) ?_ ?_
      · have eS : su x 13 bs 0 = fbreaks n x (nI bs) 0 := (fbreaks_0 hbs).symm
        have eC : fbreaks n x (nI bs) 0 = fbreaks n x (nI bs) 0 := rfl
        rw [eS, eC]
      exact (V.lof 15 (V.lof 17 (V.lof 18 (V.lof 19 (V.lof 20 (V.lof 21 (V.widen (k := cells + 8) (n := slots + 48) (by omega) (by omega) (nx _ _ _ _ (by rw [fbreaks_0 hbs]; exact J_breaks0 h hbs)))))))))
    · -- 1071 f: not ¬ (x 13 bs) = 1
      have hw : x 13 bs = 1 := c2
      refine v_iconst C (1) dL_law_1074 (by decide) ?_
      refine v_goto C 1079 dL_law_1075 (by decide) ?_
      refine v_istore C dL_law_1079 (by decide) ?_
      refine v_iload C dL_law_1081 rfl ?_
      refine v_if_eq C 1103 dL_law_1083 (by decide) (fun z => ?_) (fun z => absurd z (by decide))
      refine v_aload C dL_law_1103 rfl ?_
      refine v_iconst C (2) dL_law_1105 (by decide) ?_
      refine v_iload C dL_law_1106 rfl ?_
      refine v_imul C dL_law_1108 ?_
      refine v_iconst C (1) dL_law_1109 (by decide) ?_
      refine v_iadd C dL_law_1110 ?_
      refine v_iload C dL_law_1111 rfl ?_
      refine v_if_eq C 1120 dL_law_1113 (by decide) (fun z => ?_) (fun z => absurd z (by decide))
      refine v_iconst C (0) dL_law_1120 (by decide) ?_
      refine vL_s_b1 C bs rfl (by omega) dL_law_1121 ?_
      refine v_aload_n C dL_law_1122 rfl ?_
      refine v_iload C dL_law_1123 rfl ?_
      refine v_iload C dL_law_1125 rfl ?_
      have hxo : xIdx (nI bs) 5 = none := xidx5 hbs
      refine v_tryVI C hX (wL cy al (su x 13 bs 0) []) [] (w2 := wL cy al (su x 13 bs 0) (wD cy ad (fbreaks n x (nI bs) 0))) (k_X1_breaks l G cy hl ad x n h.n1 (by omega) h.b13 0 (by decide) (nI bs)) rfl gL_law_X1_breaks (nA := 2) (by decide +kernel) rfl (by decide) (HC8 hcc hss) rfl (Nat.le_of_ble_eq_true rfl) 0 1 rfl rfl rfl (by simp [wL]) (by simp [wL]) dL_law_1127 (fun E a hxE => no_x hxo hxE) (fun _ => ?_)
      refine V.es (st' := [.int 1]) (by rw [nI_clamp (by omega), hw]) ?_
      refine v_iload C dL_law_1130 rfl ?_
      refine v_icmp_ne C 1139 dL_law_1132 (by decide) (fun z => absurd z (by decide)) (fun z => ?_)
      refine v_iconst C (1) dL_law_1135 (by decide) ?_
      refine v_goto C 1140 dL_law_1136 (by decide) ?_
      refine v_istore C dL_law_1140 (by decide) ?_
      refine v_goto C 1502 dL_law_1142 (by decide) ?_
      refine V.ew (w' := wL cy al (fbreaks n x (nI bs) 0) (wD cy ad (fbreaks n x (nI bs) 0))) ?_ ?_
      · have eS : su x 13 bs 0 = fbreaks n x (nI bs) 0 := (fbreaks_0 hbs).symm
        have eC : fbreaks n x (nI bs) 0 = fbreaks n x (nI bs) 0 := rfl
        rw [eS, eC]
      exact (V.lof 15 (V.lof 17 (V.lof 18 (V.lof 19 (V.lof 20 (V.lof 21 (V.widen (k := cells + 8) (n := slots + 48) (by omega) (by omega) (nx _ _ _ _ (by rw [fbreaks_0 hbs]; exact J_breaks0 h hbs)))))))))
  · -- 1051 f: not ¬ 0 < ((nI Y) - (nI Y) / 3 * 3)
    refine v_iconst C (1) dL_law_1054 (by decide) ?_
    refine v_goto C 1059 dL_law_1055 (by decide) ?_
    refine v_istore C dL_law_1059 (by decide) ?_
    refine v_aload C dL_law_1061 rfl ?_
    refine v_iconst C (2) dL_law_1063 (by decide) ?_
    refine v_iload C dL_law_1064 rfl ?_
    refine v_imul C dL_law_1066 ?_
    refine v_iconst C (1) dL_law_1067 (by decide) ?_
    refine v_iadd C dL_law_1068 ?_
    refine vL_l_b1 C bs rfl (by omega) dL_law_1069 ?_
    refine v_iconst C (1) dL_law_1070 (by decide) ?_
    refine v_icmp_ne C 1078 dL_law_1071 (by decide) (fun c9 => ?_) (fun c9 => ?_)
    · -- 1071 t: ¬ (x 13 bs) = 1
      have hw : x 13 bs = 0 := (h.bw.1 bs).elim id (fun z => absurd z c9)
      refine v_iconst C (0) dL_law_1078 (by decide) ?_
      refine v_istore C dL_law_1079 (by decide) ?_
      refine v_iload C dL_law_1081 rfl ?_
      refine v_if_eq C 1103 dL_law_1083 (by decide) (fun z => absurd z (by decide)) (fun z => ?_)
      refine v_aload C dL_law_1086 rfl ?_
      refine v_aload_n C dL_law_1088 rfl ?_
      refine v_aload_n C dL_law_1089 rfl ?_
      refine v_aload C dL_law_1090 rfl ?_
      refine v_aload C dL_law_1092 rfl ?_
      refine v_aload C dL_law_1094 rfl ?_
      refine v_aload C dL_law_1096 rfl ?_
      refine v_iload C dL_law_1098 rfl ?_
      refine v_sV C (k_L_breaks l G cy al x (wD cy ad x) n h.n1 h20 bs (by omega)) rfl gL_law_L_breaks (nA := 8) (by decide +kernel) rfl (by decide) (HC0 hcc hss) rfl (Nat.le_of_ble_eq_true rfl) dL_law_1100 ?_
      refine v_aload C dL_law_1103 rfl ?_
      refine v_iconst C (2) dL_law_1105 (by decide) ?_
      refine v_iload C dL_law_1106 rfl ?_
      refine v_imul C dL_law_1108 ?_
      refine v_iconst C (1) dL_law_1109 (by decide) ?_
      refine v_iadd C dL_law_1110 ?_
      refine v_iload C dL_law_1111 rfl ?_
      refine v_if_eq C 1120 dL_law_1113 (by decide) (fun z => absurd z (by decide)) (fun z => ?_)
      refine v_iconst C (1) dL_law_1116 (by decide) ?_
      refine v_goto C 1121 dL_law_1117 (by decide) ?_
      refine vL_s_b1 C bs rfl (by omega) dL_law_1121 ?_
      refine v_aload_n C dL_law_1122 rfl ?_
      refine v_iload C dL_law_1123 rfl ?_
      refine v_iload C dL_law_1125 rfl ?_
      have hxo : xIdx (nI bs) 5 = none := xidx5 hbs
      refine v_tryVI C hX (wL cy al (su (lbreaks n x bs) 13 bs 1) []) [] (w2 := wL cy al (su (lbreaks n x bs) 13 bs 1) (wD cy ad (fbreaks n x (nI bs) 1))) (k_X1_breaks l G cy hl ad x n h.n1 (by omega) h.b13 1 (by decide) (nI bs)) rfl gL_law_X1_breaks (nA := 2) (by decide +kernel) rfl (by decide) (HC8 hcc hss) rfl (Nat.le_of_ble_eq_true rfl) 0 1 rfl rfl rfl (by simp [wL]) (by simp [wL]) dL_law_1127 (fun E a hxE => no_x hxo hxE) (fun _ => ?_)
      refine V.es (st' := [.int 0]) (by rw [nI_clamp (by omega), hw]) ?_
      refine v_iload C dL_law_1130 rfl ?_
      refine v_icmp_ne C 1139 dL_law_1132 (by decide) (fun z => absurd z (by decide)) (fun z => ?_)
      refine v_iconst C (1) dL_law_1135 (by decide) ?_
      refine v_goto C 1140 dL_law_1136 (by decide) ?_
      refine v_istore C dL_law_1140 (by decide) ?_
      refine v_goto C 1502 dL_law_1142 (by decide) ?_
      refine V.ew (w' := wL cy al (fbreaks n x (nI bs) 1) (wD cy ad (fbreaks n x (nI bs) 1))) ?_ ?_
      · have eS : su (lbreaks n x bs) 13 bs 1 = fbreaks n x (nI bs) 1 := by have e1 := (breaks_eq h20 (lo := 2000 * (t + u)) (by omega) hbs ⟨h.ri, h.nd, h.cb⟩).1; rw [← e1]; exact su_n _ _ _ _ (by rw [fbreaks_13 1 hbs, su_s])
        have eC : fbreaks n x (nI bs) 1 = fbreaks n x (nI bs) 1 := rfl
        rw [eS, eC]
      exact (V.lof 15 (V.lof 17 (V.lof 18 (V.lof 19 (V.lof 20 (V.lof 21 (V.widen (k := cells + 8) (n := slots + 48) (by omega) (by omega) (nx _ _ _ _ (J_breaks h hu hbs)))))))))
    · -- 1071 f: not ¬ (x 13 bs) = 1
      have hw : x 13 bs = 1 := c9
      refine v_iconst C (1) dL_law_1074 (by decide) ?_
      refine v_goto C 1079 dL_law_1075 (by decide) ?_
      refine v_istore C dL_law_1079 (by decide) ?_
      refine v_iload C dL_law_1081 rfl ?_
      refine v_if_eq C 1103 dL_law_1083 (by decide) (fun z => absurd z (by decide)) (fun z => ?_)
      refine v_aload C dL_law_1086 rfl ?_
      refine v_aload_n C dL_law_1088 rfl ?_
      refine v_aload_n C dL_law_1089 rfl ?_
      refine v_aload C dL_law_1090 rfl ?_
      refine v_aload C dL_law_1092 rfl ?_
      refine v_aload C dL_law_1094 rfl ?_
      refine v_aload C dL_law_1096 rfl ?_
      refine v_iload C dL_law_1098 rfl ?_
      refine v_sV C (k_L_breaks l G cy al x (wD cy ad x) n h.n1 h20 bs (by omega)) rfl gL_law_L_breaks (nA := 8) (by decide +kernel) rfl (by decide) (HC0 hcc hss) rfl (Nat.le_of_ble_eq_true rfl) dL_law_1100 ?_
      refine v_aload C dL_law_1103 rfl ?_
      refine v_iconst C (2) dL_law_1105 (by decide) ?_
      refine v_iload C dL_law_1106 rfl ?_
      refine v_imul C dL_law_1108 ?_
      refine v_iconst C (1) dL_law_1109 (by decide) ?_
      refine v_iadd C dL_law_1110 ?_
      refine v_iload C dL_law_1111 rfl ?_
      refine v_if_eq C 1120 dL_law_1113 (by decide) (fun z => absurd z (by decide)) (fun z => ?_)
      refine v_iconst C (1) dL_law_1116 (by decide) ?_
      refine v_goto C 1121 dL_law_1117 (by decide) ?_
      refine vL_s_b1 C bs rfl (by omega) dL_law_1121 ?_
      refine v_aload_n C dL_law_1122 rfl ?_
      refine v_iload C dL_law_1123 rfl ?_
      refine v_iload C dL_law_1125 rfl ?_
      have hxo : xIdx (nI bs) 5 = none := xidx5 hbs
      refine v_tryVI C hX (wL cy al (su (lbreaks n x bs) 13 bs 1) []) [] (w2 := wL cy al (su (lbreaks n x bs) 13 bs 1) (wD cy ad (fbreaks n x (nI bs) 1))) (k_X1_breaks l G cy hl ad x n h.n1 (by omega) h.b13 1 (by decide) (nI bs)) rfl gL_law_X1_breaks (nA := 2) (by decide +kernel) rfl (by decide) (HC8 hcc hss) rfl (Nat.le_of_ble_eq_true rfl) 0 1 rfl rfl rfl (by simp [wL]) (by simp [wL]) dL_law_1127 (fun E a hxE => no_x hxo hxE) (fun _ => ?_)
      refine V.es (st' := [.int 1]) (by rw [nI_clamp (by omega), hw]) ?_
      refine v_iload C dL_law_1130 rfl ?_
      refine v_icmp_ne C 1139 dL_law_1132 (by decide) (fun z => absurd z (by decide)) (fun z => ?_)
      refine v_iconst C (1) dL_law_1135 (by decide) ?_
      refine v_goto C 1140 dL_law_1136 (by decide) ?_
      refine v_istore C dL_law_1140 (by decide) ?_
      refine v_goto C 1502 dL_law_1142 (by decide) ?_
      refine V.ew (w' := wL cy al (fbreaks n x (nI bs) 1) (wD cy ad (fbreaks n x (nI bs) 1))) ?_ ?_
      · have eS : su (lbreaks n x bs) 13 bs 1 = fbreaks n x (nI bs) 1 := by have e1 := (breaks_eq h20 (lo := 2000 * (t + u)) (by omega) hbs ⟨h.ri, h.nd, h.cb⟩).1; rw [← e1]; exact su_n _ _ _ _ (by rw [fbreaks_13 1 hbs, su_s])
        have eC : fbreaks n x (nI bs) 1 = fbreaks n x (nI bs) 1 := rfl
        rw [eS, eC]
      exact (V.lof 15 (V.lof 17 (V.lof 18 (V.lof 19 (V.lof 20 (V.lof 21 (V.widen (k := cells + 8) (n := slots + 48) (by omega) (by omega) (nx _ _ _ _ (J_breaks h hu hbs)))))))))
set_option maxHeartbeats 4000000 in
set_option maxRecDepth 100000 in
theorem law_ails {p : Program} {l : Launch} {e : Env} {s : State} {m : MethodId} {args : Array Value} {below : List Frame} {meth : Method} {c : Code} {Q : State → Prop} {ret : Option FieldType} {G : va_G} {cy : Nat → ClassId} {A : Nat → Prop} {al ad : Nat → Nat} {x : Sg} (C : vC p s m args meth c cL_law 25 wsL_law RL ret G cy A) (hX : xT A s s.heap) (hN : xN s) (hl : l.stackTraces = false) {b0 k Y rn bs dv : Nat} {kv : Int32} {u n om t cells slots : Nat} (h : J u n om t x) (hu : u ≤ 1000) (hY : Y < 2 ^ 31) (hrn : rn < 20) (hrn2 : 0 < n → rn < n) (hbs : bs < 5) (hdv : dv < 5) (hcc : cells + 8 ≤ 600086) (hss : slots + 48 ≤ 7301441) (nx : ∀ (n' om' t' : Nat) (x' : Sg), J (u + 1) n' om' t' x' → V p l e room_1 s m args below meth c 25 G A Q (wL cy al x' (wD cy ad x')) (cells + 8) (slots + 48) 1502 [some (.ref b0), some (.ref (ad 0)), some (.ref (al 0)), some (.ref (al 1)), some (.ref (al 2)), some (.ref (al 3)), some (.ref (al 4)), some (.ref (al 5)), some (.ref (al 6)), some (.ref (al 7)), some (.ref (al 8)), some (.ref (al 9)), some (.int 1), some (.int (nI k)), none, none, some (.int (nI Y)), none, none, none, none, none, none, none, none] []) : V p l e room_1 s m args below meth c 25 G A Q (wL cy al x (wD cy ad x)) cells slots 1152 [some (.ref b0), some (.ref (ad 0)), some (.ref (al 0)), some (.ref (al 1)), some (.ref (al 2)), some (.ref (al 3)), some (.ref (al 4)), some (.ref (al 5)), some (.ref (al 6)), some (.ref (al 7)), some (.ref (al 8)), some (.ref (al 9)), some (.int 1), some (.int (nI k)), none, some (.int kv), some (.int (nI Y)), some (.int (nI rn)), some (.int (nI bs)), some (.int (nI dv)), none, none, none, none, none] [] := by
  have ht30 := h.t30
  have h20 := h.n20
  have ho60 := h.o60
  refine v_iload C dL_law_1152 rfl ?_
  refine v_iconst C (3) dL_law_1154 (by decide) ?_
  refine v_irem C dL_law_1155 (by decide) ?_
  refine v_if_le C 1163 dL_law_1156 (by decide) (fun c1 => ?_) (fun c1 => ?_)
  · -- 1156 t: ¬ 0 < ((nI Y) - (nI Y) / 3 * 3)
    refine v_iconst C (0) dL_law_1163 (by decide) ?_
    refine v_istore C dL_law_1164 (by decide) ?_
    refine v_aload C dL_law_1166 rfl ?_
    refine v_iload C dL_law_1168 rfl ?_
    refine vL_l_i C dv rfl (by omega) dL_law_1170 ?_
    refine v_iconst C (1) dL_law_1171 (by decide) ?_
    refine v_icmp_ne C 1179 dL_law_1172 (by decide) (fun c2 => ?_) (fun c2 => ?_)
    · -- 1172 t: ¬ (x 14 dv) = 1
      have hw : x 14 dv = 0 := (h.bw.2 dv).elim id (fun z => absurd z c2)
      refine v_iconst C (0) dL_law_1179 (by decide) ?_
      refine v_istore C dL_law_1180 (by decide) ?_
      refine v_iload C dL_law_1182 rfl ?_
      refine v_if_eq C 1207 dL_law_1184 (by decide) (fun z => ?_) (fun z => absurd z (by decide))
      refine v_aload C dL_law_1207 rfl ?_
      refine v_iload C dL_law_1209 rfl ?_
      refine v_iload C dL_law_1211 rfl ?_
      refine v_if_eq C 1220 dL_law_1213 (by decide) (fun z => ?_) (fun z => absurd z (by decide))
      refine v_iconst C (0) dL_law_1220 (by decide) ?_
      refine vL_s_i C dv rfl (by omega) dL_law_1221 ?_
      refine v_aload_n C dL_law_1222 rfl ?_
      refine v_iload C dL_law_1223 rfl ?_
      refine v_iload C dL_law_1225 rfl ?_
      have hxo : xIdx (nI dv) 5 = none := xidx5 hdv
      refine v_tryVI C hX (wL cy al (su x 14 dv 0) []) [] (w2 := wL cy al (su x 14 dv 0) (wD cy ad (fails n x (nI dv) 0))) (k_X1_ails l G cy hl ad x n h.n1 (by omega) h.b14 0 (by decide) (nI dv)) rfl gL_law_X1_ails (nA := 2) (by decide +kernel) rfl (by decide) (HC8 hcc hss) rfl (Nat.le_of_ble_eq_true rfl) 0 1 rfl rfl rfl (by simp [wL]) (by simp [wL]) dL_law_1227 (fun E a hxE => no_x hxo hxE) (fun _ => ?_)
      refine V.es (st' := [.int 0]) (by rw [nI_clamp (by omega), hw]) ?_
      refine v_iload C dL_law_1230 rfl ?_
      refine v_icmp_ne C 1239 dL_law_1232 (by decide) (fun z => absurd z (by decide)) (fun z => ?_)
      refine v_iconst C (1) dL_law_1235 (by decide) ?_
      refine v_goto C 1240 dL_law_1236 (by decide) ?_
      refine v_istore C dL_law_1240 (by decide) ?_
      refine v_goto C 1502 dL_law_1242 (by decide) ?_
      refine V.ew (w' := wL cy al (fails n x (nI dv) 0) (wD cy ad (fails n x (nI dv) 0))) ?_ ?_
      · have eS : su x 14 dv 0 = fails n x (nI dv) 0 := (fails_0 hdv).symm
        have eC : fails n x (nI dv) 0 = fails n x (nI dv) 0 := rfl
        rw [eS, eC]
      exact (V.lof 15 (V.lof 17 (V.lof 18 (V.lof 19 (V.lof 20 (V.lof 21 (V.widen (k := cells + 8) (n := slots + 48) (by omega) (by omega) (nx _ _ _ _ (J_ails 0 (by decide) h hdv)))))))))
    · -- 1172 f: not ¬ (x 14 dv) = 1
      have hw : x 14 dv = 1 := c2
      refine v_iconst C (1) dL_law_1175 (by decide) ?_
      refine v_goto C 1180 dL_law_1176 (by decide) ?_
      refine v_istore C dL_law_1180 (by decide) ?_
      refine v_iload C dL_law_1182 rfl ?_
      refine v_if_eq C 1207 dL_law_1184 (by decide) (fun z => ?_) (fun z => absurd z (by decide))
      refine v_aload C dL_law_1207 rfl ?_
      refine v_iload C dL_law_1209 rfl ?_
      refine v_iload C dL_law_1211 rfl ?_
      refine v_if_eq C 1220 dL_law_1213 (by decide) (fun z => ?_) (fun z => absurd z (by decide))
      refine v_iconst C (0) dL_law_1220 (by decide) ?_
      refine vL_s_i C dv rfl (by omega) dL_law_1221 ?_
      refine v_aload_n C dL_law_1222 rfl ?_
      refine v_iload C dL_law_1223 rfl ?_
      refine v_iload C dL_law_1225 rfl ?_
      have hxo : xIdx (nI dv) 5 = none := xidx5 hdv
      refine v_tryVI C hX (wL cy al (su x 14 dv 0) []) [] (w2 := wL cy al (su x 14 dv 0) (wD cy ad (fails n x (nI dv) 0))) (k_X1_ails l G cy hl ad x n h.n1 (by omega) h.b14 0 (by decide) (nI dv)) rfl gL_law_X1_ails (nA := 2) (by decide +kernel) rfl (by decide) (HC8 hcc hss) rfl (Nat.le_of_ble_eq_true rfl) 0 1 rfl rfl rfl (by simp [wL]) (by simp [wL]) dL_law_1227 (fun E a hxE => no_x hxo hxE) (fun _ => ?_)
      refine V.es (st' := [.int 1]) (by rw [nI_clamp (by omega), hw]) ?_
      refine v_iload C dL_law_1230 rfl ?_
      refine v_icmp_ne C 1239 dL_law_1232 (by decide) (fun z => absurd z (by decide)) (fun z => ?_)
      refine v_iconst C (1) dL_law_1235 (by decide) ?_
      refine v_goto C 1240 dL_law_1236 (by decide) ?_
      refine v_istore C dL_law_1240 (by decide) ?_
      refine v_goto C 1502 dL_law_1242 (by decide) ?_
      refine V.ew (w' := wL cy al (fails n x (nI dv) 0) (wD cy ad (fails n x (nI dv) 0))) ?_ ?_
      · have eS : su x 14 dv 0 = fails n x (nI dv) 0 := (fails_0 hdv).symm
        have eC : fails n x (nI dv) 0 = fails n x (nI dv) 0 := rfl
        rw [eS, eC]
      exact (V.lof 15 (V.lof 17 (V.lof 18 (V.lof 19 (V.lof 20 (V.lof 21 (V.widen (k := cells + 8) (n := slots + 48) (by omega) (by omega) (nx _ _ _ _ (J_ails 0 (by decide) h hdv)))))))))
  · -- 1156 f: not ¬ 0 < ((nI Y) - (nI Y) / 3 * 3)
    refine v_iconst C (1) dL_law_1159 (by decide) ?_
    refine v_goto C 1164 dL_law_1160 (by decide) ?_
    refine v_istore C dL_law_1164 (by decide) ?_
    refine v_aload C dL_law_1166 rfl ?_
    refine v_iload C dL_law_1168 rfl ?_
    refine vL_l_i C dv rfl (by omega) dL_law_1170 ?_
    refine v_iconst C (1) dL_law_1171 (by decide) ?_
    refine v_icmp_ne C 1179 dL_law_1172 (by decide) (fun c9 => ?_) (fun c9 => ?_)
    · -- 1172 t: ¬ (x 14 dv) = 1
      have hw : x 14 dv = 0 := (h.bw.2 dv).elim id (fun z => absurd z c9)
      refine v_iconst C (0) dL_law_1179 (by decide) ?_
      refine v_istore C dL_law_1180 (by decide) ?_
      refine v_iload C dL_law_1182 rfl ?_
      refine v_if_eq C 1207 dL_law_1184 (by decide) (fun z => absurd z (by decide)) (fun z => ?_)
      refine v_iload C dL_law_1187 rfl ?_
      refine v_if_ne C 1207 dL_law_1189 (by decide) (fun z => absurd z (by decide)) (fun z => ?_)
      refine v_aload C dL_law_1192 rfl ?_
      refine v_aload_n C dL_law_1194 rfl ?_
      refine v_aload_n C dL_law_1195 rfl ?_
      refine v_aload C dL_law_1196 rfl ?_
      refine v_aload C dL_law_1198 rfl ?_
      refine v_aload C dL_law_1200 rfl ?_
      refine v_iload C dL_law_1202 rfl ?_
      refine v_sV C (k_L_ails l G cy al x (wD cy ad x) n h.n1 h20 dv (by omega)) rfl gL_law_L_ails (nA := 7) (by decide +kernel) rfl (by decide) (HC0 hcc hss) rfl (Nat.le_of_ble_eq_true rfl) dL_law_1204 ?_
      refine v_aload C dL_law_1207 rfl ?_
      refine v_iload C dL_law_1209 rfl ?_
      refine v_iload C dL_law_1211 rfl ?_
      refine v_if_eq C 1220 dL_law_1213 (by decide) (fun z => absurd z (by decide)) (fun z => ?_)
      refine v_iconst C (1) dL_law_1216 (by decide) ?_
      refine v_goto C 1221 dL_law_1217 (by decide) ?_
      refine vL_s_i C dv rfl (by omega) dL_law_1221 ?_
      refine v_aload_n C dL_law_1222 rfl ?_
      refine v_iload C dL_law_1223 rfl ?_
      refine v_iload C dL_law_1225 rfl ?_
      have hxo : xIdx (nI dv) 5 = none := xidx5 hdv
      refine v_tryVI C hX (wL cy al (su (lails n x dv) 14 dv 1) []) [] (w2 := wL cy al (su (lails n x dv) 14 dv 1) (wD cy ad (fails n x (nI dv) 1))) (k_X1_ails l G cy hl ad x n h.n1 (by omega) h.b14 1 (by decide) (nI dv)) rfl gL_law_X1_ails (nA := 2) (by decide +kernel) rfl (by decide) (HC8 hcc hss) rfl (Nat.le_of_ble_eq_true rfl) 0 1 rfl rfl rfl (by simp [wL]) (by simp [wL]) dL_law_1227 (fun E a hxE => no_x hxo hxE) (fun _ => ?_)
      refine V.es (st' := [.int 0]) (by rw [nI_clamp (by omega), hw]) ?_
      refine v_iload C dL_law_1230 rfl ?_
      refine v_icmp_ne C 1239 dL_law_1232 (by decide) (fun z => absurd z (by decide)) (fun z => ?_)
      refine v_iconst C (1) dL_law_1235 (by decide) ?_
      refine v_goto C 1240 dL_law_1236 (by decide) ?_
      refine v_istore C dL_law_1240 (by decide) ?_
      refine v_goto C 1502 dL_law_1242 (by decide) ?_
      refine V.ew (w' := wL cy al (fails n x (nI dv) 1) (wD cy ad (fails n x (nI dv) 1))) ?_ ?_
      · have eS : su (lails n x dv) 14 dv 1 = fails n x (nI dv) 1 := by rw [← ails_eq h20 hdv h.ri]; exact su_n _ _ _ _ (by rw [fails_14 1 hdv, su_s])
        have eC : fails n x (nI dv) 1 = fails n x (nI dv) 1 := rfl
        rw [eS, eC]
      exact (V.lof 15 (V.lof 17 (V.lof 18 (V.lof 19 (V.lof 20 (V.lof 21 (V.widen (k := cells + 8) (n := slots + 48) (by omega) (by omega) (nx _ _ _ _ (J_ails 1 (by decide) h hdv)))))))))
    · -- 1172 f: not ¬ (x 14 dv) = 1
      have hw : x 14 dv = 1 := c9
      refine v_iconst C (1) dL_law_1175 (by decide) ?_
      refine v_goto C 1180 dL_law_1176 (by decide) ?_
      refine v_istore C dL_law_1180 (by decide) ?_
      refine v_iload C dL_law_1182 rfl ?_
      refine v_if_eq C 1207 dL_law_1184 (by decide) (fun z => absurd z (by decide)) (fun z => ?_)
      refine v_iload C dL_law_1187 rfl ?_
      refine v_if_ne C 1207 dL_law_1189 (by decide) (fun z => ?_) (fun z => absurd z (by decide))
      refine v_aload C dL_law_1207 rfl ?_
      refine v_iload C dL_law_1209 rfl ?_
      refine v_iload C dL_law_1211 rfl ?_
      refine v_if_eq C 1220 dL_law_1213 (by decide) (fun z => absurd z (by decide)) (fun z => ?_)
      refine v_iconst C (1) dL_law_1216 (by decide) ?_
      refine v_goto C 1221 dL_law_1217 (by decide) ?_
      refine vL_s_i C dv rfl (by omega) dL_law_1221 ?_
      refine v_aload_n C dL_law_1222 rfl ?_
      refine v_iload C dL_law_1223 rfl ?_
      refine v_iload C dL_law_1225 rfl ?_
      have hxo : xIdx (nI dv) 5 = none := xidx5 hdv
      refine v_tryVI C hX (wL cy al (su x 14 dv 1) []) [] (w2 := wL cy al (su x 14 dv 1) (wD cy ad (fails n x (nI dv) 1))) (k_X1_ails l G cy hl ad x n h.n1 (by omega) h.b14 1 (by decide) (nI dv)) rfl gL_law_X1_ails (nA := 2) (by decide +kernel) rfl (by decide) (HC8 hcc hss) rfl (Nat.le_of_ble_eq_true rfl) 0 1 rfl rfl rfl (by simp [wL]) (by simp [wL]) dL_law_1227 (fun E a hxE => no_x hxo hxE) (fun _ => ?_)
      refine V.es (st' := [.int 1]) (by rw [nI_clamp (by omega), hw]) ?_
      refine v_iload C dL_law_1230 rfl ?_
      refine v_icmp_ne C 1239 dL_law_1232 (by decide) (fun z => absurd z (by decide)) (fun z => ?_)
      refine v_iconst C (1) dL_law_1235 (by decide) ?_
      refine v_goto C 1240 dL_law_1236 (by decide) ?_
      refine v_istore C dL_law_1240 (by decide) ?_
      refine v_goto C 1502 dL_law_1242 (by decide) ?_
      refine V.ew (w' := wL cy al (fails n x (nI dv) 1) (wD cy ad (fails n x (nI dv) 1))) ?_ ?_
      · have eS : su x 14 dv 1 = fails n x (nI dv) 1 := (fails_ill 1 (by decide) hdv h.ri (by rw [hw]; decide)).symm
        have eC : fails n x (nI dv) 1 = fails n x (nI dv) 1 := rfl
        rw [eS, eC]
      exact (V.lof 15 (V.lof 17 (V.lof 18 (V.lof 19 (V.lof 20 (V.lof 21 (V.widen (k := cells + 8) (n := slots + 48) (by omega) (by omega) (nx _ _ _ _ (J_ails 1 (by decide) h hdv)))))))))
set_option maxHeartbeats 4000000 in
set_option maxRecDepth 100000 in
theorem law_plug {p : Program} {l : Launch} {e : Env} {s : State} {m : MethodId} {args : Array Value} {below : List Frame} {meth : Method} {c : Code} {Q : State → Prop} {ret : Option FieldType} {G : va_G} {cy : Nat → ClassId} {A : Nat → Prop} {al ad : Nat → Nat} {x : Sg} (C : vC p s m args meth c cL_law 25 wsL_law RL ret G cy A) (hX : xT A s s.heap) (hN : xN s) (hl : l.stackTraces = false) {b0 k Y rn bs dv : Nat} {kv : Int32} {u n om t cells slots : Nat} (h : J u n om t x) (hu : u ≤ 1000) (hY : Y < 2 ^ 31) (hrn : rn < 20) (hrn2 : 0 < n → rn < n) (hbs : bs < 5) (hdv : dv < 5) (hcc : cells + 8 ≤ 600086) (hss : slots + 48 ≤ 7301441) (nx : ∀ (n' om' t' : Nat) (x' : Sg), J (u + 1) n' om' t' x' → V p l e room_1 s m args below meth c 25 G A Q (wL cy al x' (wD cy ad x')) (cells + 8) (slots + 48) 1502 [some (.ref b0), some (.ref (ad 0)), some (.ref (al 0)), some (.ref (al 1)), some (.ref (al 2)), some (.ref (al 3)), some (.ref (al 4)), some (.ref (al 5)), some (.ref (al 6)), some (.ref (al 7)), some (.ref (al 8)), some (.ref (al 9)), some (.int 1), some (.int (nI k)), none, none, some (.int (nI Y)), none, none, none, none, none, none, none, none] []) : V p l e room_1 s m args below meth c 25 G A Q (wL cy al x (wD cy ad x)) cells slots 1252 [some (.ref b0), some (.ref (ad 0)), some (.ref (al 0)), some (.ref (al 1)), some (.ref (al 2)), some (.ref (al 3)), some (.ref (al 4)), some (.ref (al 5)), some (.ref (al 6)), some (.ref (al 7)), some (.ref (al 8)), some (.ref (al 9)), some (.int 1), some (.int (nI k)), none, some (.int kv), some (.int (nI Y)), some (.int (nI rn)), some (.int (nI bs)), some (.int (nI dv)), none, none, none, none, none] [] := by
  have ht30 := h.t30
  have h20 := h.n20
  have ho60 := h.o60
  refine v_iconst C (0) dL_law_1252 (by decide) ?_
  refine v_istore C dL_law_1253 (by decide) ?_
  refine v_iconst C (0) dL_law_1255 (by decide) ?_
  refine v_istore C dL_law_1256 (by decide) ?_
  refine V.loop (fun kk : Nat => wL cy al x (wD cy ad x)) (fun kk : Nat => ([some (.ref b0), some (.ref (ad 0)), some (.ref (al 0)), some (.ref (al 1)), some (.ref (al 2)), some (.ref (al 3)), some (.ref (al 4)), some (.ref (al 5)), some (.ref (al 6)), some (.ref (al 7)), some (.ref (al 8)), some (.ref (al 9)), some (.int 1), some (.int (nI k)), none, some (.int kv), some (.int (nI Y)), some (.int (nI rn)), some (.int (nI bs)), some (.int (nI dv)), some (.int (sumF (fun k => b2i (x 9 k = 2 ∧ x 10 k = nI bs)) kk)), some (.int (nI kk)), none, none, none] : List (Option Value))) (fun kk : Nat => True) n ?_ trivial
  intro kk hle_kk hP_kk ih_kk
  try dsimp only at hP_kk ih_kk ⊢
  refine v_iload C dL_law_1258 rfl ?_
  refine v_aload C dL_law_1260 rfl ?_
  refine v_iconst C (1) dL_law_1262 (by decide) ?_
  refine vL_l_n1 C dL_law_1263 ?_
  refine v_geN C kk n 1303 dL_law_1264 (by decide) rfl h.n1 (by omega) (by omega) (fun c1 => ?_) (fun c1 => ?_)
  · -- loop 1258 is over
    have e_kk : n = kk := by omega
    subst e_kk
    refine v_iload C dL_law_1303 rfl ?_
    refine v_iconst C (2) dL_law_1305 (by decide) ?_
    refine v_irem C dL_law_1306 (by decide) ?_
    obtain ⟨ch, hch, e_ch⟩ : ∃ ch : Nat, ch < 2 ∧ (nI Y) - (nI Y) / 2 * 2 = nI ch := ⟨Y % 2, by omega, (remN (a := Y) (m := 2) rfl (by omega) (by omega))⟩
    refine V.es (st' := [.int (nI ch)]) (by rw [e_ch]) ?_
    refine v_istore C dL_law_1307 (by decide) ?_
    refine v_iload C dL_law_1309 rfl ?_
    refine v_if_le C 1319 dL_law_1311 (by decide) (fun c2 => ?_) (fun c2 => ?_)
    · -- 1311 t: ¬ 0 < (sumF (fun k => b2i (x 9 k = 2 ∧ x 10 k = nI bs)) n)
      have hnu : ¬ under n x (nI bs) := fun z => c2 ((under_iff h20).mpr z)
      refine v_aload C dL_law_1319 rfl ?_
      refine v_iload C dL_law_1321 rfl ?_
      refine vL_l_g C ch rfl (by omega) dL_law_1323 ?_
      refine v_iload C dL_law_1324 rfl ?_
      refine v_iconst C (1) dL_law_1326 (by decide) ?_
      refine v_iadd C dL_law_1327 ?_
      refine v_icmp_ne C 1335 dL_law_1328 (by decide) (fun c3 => ?_) (fun c3 => ?_)
      · -- 1328 t: ¬ (x 15 ch + 1) = ((nI bs) + 1)
        replace c3 := mt p1_iff.mpr c3
        refine v_aload C dL_law_1335 rfl ?_
        refine v_iload C dL_law_1337 rfl ?_
        refine vL_l_g C ch rfl (by omega) dL_law_1339 ?_
        refine v_iconst C (1) dL_law_1340 (by decide) ?_
        refine v_isub C dL_law_1341 ?_
        refine V.es (st' := [.int (x 15 ch)]) (by rw [Int32.add_sub_cancel]) ?_
        refine v_istore C dL_law_1342 (by decide) ?_
        refine v_iload C dL_law_1344 rfl ?_
        refine v_if_ne C 1365 dL_law_1346 (by decide) (fun c4 => ?_) (fun c4 => ?_)
        · -- 1346 t: ¬ (sumF (fun k => b2i (x 9 k = 2 ∧ x 10 k = nI bs)) n) = 0
          exact absurd ((go0_iff h20).mpr hnu) c4
        · -- 1346 f: not ¬ (sumF (fun k => b2i (x 9 k = 2 ∧ x 10 k = nI bs)) n) = 0
          refine v_aload C dL_law_1349 rfl ?_
          refine v_iload C dL_law_1351 rfl ?_
          refine v_sV C (k_L_leaves l G cy al x (wD cy ad x) (nI bs)) rfl gL_law_L_leaves (nA := 2) (by decide +kernel) rfl (by decide) (HC0 hcc hss) rfl (Nat.le_of_ble_eq_true rfl) dL_law_1353 ?_
          refine v_aload C dL_law_1356 rfl ?_
          refine v_iload C dL_law_1358 rfl ?_
          refine v_iload C dL_law_1360 rfl ?_
          refine v_iconst C (1) dL_law_1362 (by decide) ?_
          refine v_iadd C dL_law_1363 ?_
          refine vL_s_g C ch rfl (by omega) (v := nI bs) rfl dL_law_1364 ?_
          refine v_aload_n C dL_law_1365 rfl ?_
          refine v_iconst C (2) dL_law_1366 (by decide) ?_
          refine v_iload C dL_law_1367 rfl ?_
          refine v_iload C dL_law_1369 rfl ?_
          refine v_iconst C (0) dL_law_1371 (by decide) ?_
          refine v_iconst C (0) dL_law_1372 (by decide) ?_
          refine v_iconst C (0) dL_law_1373 (by decide) ?_
          have hxo : xplug n x (nI bs) (nI ch) = none := (xplug_eq hbs hch).trans (pif_f hnu)
          refine v_sW C hX hN (wL cy al (su (funplug x (nI bs)) 15 ch (nI bs)) []) [] (w2 := wL cy al (su (funplug x (nI bs)) 15 ch (nI bs)) (wD cy ad (oc (xplug n x (nI bs) (nI ch)) (fplug x (nI bs) (nI ch)) x))) (k_L_does_plug l G cy ad x (fplug x (nI bs) (nI ch)) (nI bs) (nI ch) 0 0 0 (funplug x (nI bs) 15 (nI ch).toNatClampNeg) (xplug n x (nI bs) (nI ch)) hE_plug (k_X1_plug l G cy hl ad x n h.n1 (by omega) (nI bs) (nI ch))) rfl gL_law_L_does (nA := 7) (by decide +kernel) rfl (by decide) (HC8 hcc hss) rfl (Nat.le_of_ble_eq_true rfl) (by simp [wL]) (by simp [wL]) dL_law_1374 ?_
          rw [hxo]
          refine V.ew (w' := wL cy al (su (funplug x (nI bs)) 15 ch (nI bs)) (wD cy ad (fplug x (nI bs) (nI ch)))) rfl ?_
          refine V.es (st' := [.int (funplug x (nI bs) 15 (nI ch).toNatClampNeg)]) rfl ?_
          refine V.es (st' := [.int (x 15 ch)]) (by rw [nI_clamp (show ch < 2 ^ 31 by omega), funplug_15 x _ hch, pif_f c3]) ?_
          refine v_iload C dL_law_1377 rfl ?_
          refine v_icmp_ne C 1386 dL_law_1379 (by decide) (fun z => absurd z (Classical.not_not.mpr rfl)) (fun z => ?_)
          refine v_iconst C (1) dL_law_1382 (by decide) ?_
          refine v_goto C 1387 dL_law_1383 (by decide) ?_
          refine v_istore C dL_law_1387 (by decide) ?_
          refine v_goto C 1502 dL_law_1389 (by decide) ?_
          refine V.ew (w' := wL cy al (fplug x (nI bs) (nI ch)) (wD cy ad (fplug x (nI bs) (nI ch)))) ?_ ?_
          · have eS : su (funplug x (nI bs)) 15 ch (nI bs) = fplug x (nI bs) (nI ch) := by unfold fplug; rw [nI_clamp (show ch < 2 ^ 31 by omega)]
            have eC : fplug x (nI bs) (nI ch) = fplug x (nI bs) (nI ch) := rfl
            rw [eS, eC]
          exact (V.lof 15 (V.lof 17 (V.lof 18 (V.lof 19 (V.lof 20 (V.lof 21 (V.lof 22 (V.widen (k := cells + 8) (n := slots + 48) (by omega) (by omega) (nx _ _ _ _ (J_plug h hbs hch))))))))))
      · -- 1328 f: not ¬ (x 15 ch + 1) = ((nI bs) + 1)
        replace c3 := p1_iff.mp c3
        refine v_iconst C (-1) dL_law_1331 (by decide) ?_
        refine v_goto C 1342 dL_law_1332 (by decide) ?_
        refine v_istore C dL_law_1342 (by decide) ?_
        refine v_iload C dL_law_1344 rfl ?_
        refine v_if_ne C 1365 dL_law_1346 (by decide) (fun c6 => ?_) (fun c6 => ?_)
        · -- 1346 t: ¬ (sumF (fun k => b2i (x 9 k = 2 ∧ x 10 k = nI bs)) n) = 0
          exact absurd ((go0_iff h20).mpr hnu) c6
        · -- 1346 f: not ¬ (sumF (fun k => b2i (x 9 k = 2 ∧ x 10 k = nI bs)) n) = 0
          refine v_aload C dL_law_1349 rfl ?_
          refine v_iload C dL_law_1351 rfl ?_
          refine v_sV C (k_L_leaves l G cy al x (wD cy ad x) (nI bs)) rfl gL_law_L_leaves (nA := 2) (by decide +kernel) rfl (by decide) (HC0 hcc hss) rfl (Nat.le_of_ble_eq_true rfl) dL_law_1353 ?_
          refine v_aload C dL_law_1356 rfl ?_
          refine v_iload C dL_law_1358 rfl ?_
          refine v_iload C dL_law_1360 rfl ?_
          refine v_iconst C (1) dL_law_1362 (by decide) ?_
          refine v_iadd C dL_law_1363 ?_
          refine vL_s_g C ch rfl (by omega) (v := nI bs) rfl dL_law_1364 ?_
          refine v_aload_n C dL_law_1365 rfl ?_
          refine v_iconst C (2) dL_law_1366 (by decide) ?_
          refine v_iload C dL_law_1367 rfl ?_
          refine v_iload C dL_law_1369 rfl ?_
          refine v_iconst C (0) dL_law_1371 (by decide) ?_
          refine v_iconst C (0) dL_law_1372 (by decide) ?_
          refine v_iconst C (0) dL_law_1373 (by decide) ?_
          have hxo : xplug n x (nI bs) (nI ch) = none := (xplug_eq hbs hch).trans (pif_f hnu)
          refine v_sW C hX hN (wL cy al (su (funplug x (nI bs)) 15 ch (nI bs)) []) [] (w2 := wL cy al (su (funplug x (nI bs)) 15 ch (nI bs)) (wD cy ad (oc (xplug n x (nI bs) (nI ch)) (fplug x (nI bs) (nI ch)) x))) (k_L_does_plug l G cy ad x (fplug x (nI bs) (nI ch)) (nI bs) (nI ch) 0 0 0 (funplug x (nI bs) 15 (nI ch).toNatClampNeg) (xplug n x (nI bs) (nI ch)) hE_plug (k_X1_plug l G cy hl ad x n h.n1 (by omega) (nI bs) (nI ch))) rfl gL_law_L_does (nA := 7) (by decide +kernel) rfl (by decide) (HC8 hcc hss) rfl (Nat.le_of_ble_eq_true rfl) (by simp [wL]) (by simp [wL]) dL_law_1374 ?_
          rw [hxo]
          refine V.ew (w' := wL cy al (su (funplug x (nI bs)) 15 ch (nI bs)) (wD cy ad (fplug x (nI bs) (nI ch)))) rfl ?_
          refine V.es (st' := [.int (funplug x (nI bs) 15 (nI ch).toNatClampNeg)]) rfl ?_
          refine V.es (st' := [.int (-1)]) (by rw [nI_clamp (show ch < 2 ^ 31 by omega), funplug_15 x _ hch, pif_t c3]) ?_
          refine v_iload C dL_law_1377 rfl ?_
          refine v_icmp_ne C 1386 dL_law_1379 (by decide) (fun z => absurd z (by decide)) (fun z => ?_)
          refine v_iconst C (1) dL_law_1382 (by decide) ?_
          refine v_goto C 1387 dL_law_1383 (by decide) ?_
          refine v_istore C dL_law_1387 (by decide) ?_
          refine v_goto C 1502 dL_law_1389 (by decide) ?_
          refine V.ew (w' := wL cy al (fplug x (nI bs) (nI ch)) (wD cy ad (fplug x (nI bs) (nI ch)))) ?_ ?_
          · have eS : su (funplug x (nI bs)) 15 ch (nI bs) = fplug x (nI bs) (nI ch) := by unfold fplug; rw [nI_clamp (show ch < 2 ^ 31 by omega)]
            have eC : fplug x (nI bs) (nI ch) = fplug x (nI bs) (nI ch) := rfl
            rw [eS, eC]
          exact (V.lof 15 (V.lof 17 (V.lof 18 (V.lof 19 (V.lof 20 (V.lof 21 (V.lof 22 (V.widen (k := cells + 8) (n := slots + 48) (by omega) (by omega) (nx _ _ _ _ (J_plug h hbs hch))))))))))
    · -- 1311 f: not ¬ 0 < (sumF (fun k => b2i (x 9 k = 2 ∧ x 10 k = nI bs)) n)
      have hun : under n x (nI bs) := (under_iff h20).mp c2
      refine v_bipush C (-13) dL_law_1314 (by decide) ?_
      refine v_goto C 1342 dL_law_1316 (by decide) ?_
      refine v_istore C dL_law_1342 (by decide) ?_
      refine v_iload C dL_law_1344 rfl ?_
      refine v_if_ne C 1365 dL_law_1346 (by decide) (fun c8 => ?_) (fun c8 => ?_)
      · -- 1346 t: ¬ (sumF (fun k => b2i (x 9 k = 2 ∧ x 10 k = nI bs)) n) = 0
        refine v_aload_n C dL_law_1365 rfl ?_
        refine v_iconst C (2) dL_law_1366 (by decide) ?_
        refine v_iload C dL_law_1367 rfl ?_
        refine v_iload C dL_law_1369 rfl ?_
        refine v_iconst C (0) dL_law_1371 (by decide) ?_
        refine v_iconst C (0) dL_law_1372 (by decide) ?_
        refine v_iconst C (0) dL_law_1373 (by decide) ?_
        have hxo : xplug n x (nI bs) (nI ch) = some nIS := (xplug_eq hbs hch).trans (pif_t hun)
        refine v_sW C hX hN (wL cy al x []) [] (w2 := wL cy al x (wD cy ad (oc (xplug n x (nI bs) (nI ch)) (fplug x (nI bs) (nI ch)) x))) (k_L_does_plug l G cy ad x (fplug x (nI bs) (nI ch)) (nI bs) (nI ch) 0 0 0 (funplug x (nI bs) 15 (nI ch).toNatClampNeg) (xplug n x (nI bs) (nI ch)) hE_plug (k_X1_plug l G cy hl ad x n h.n1 (by omega) (nI bs) (nI ch))) rfl gL_law_L_does (nA := 7) (by decide +kernel) rfl (by decide) (HC8 hcc hss) rfl (Nat.le_of_ble_eq_true rfl) (by simp [wL]) (by simp [wL]) dL_law_1374 ?_
        rw [hxo]
        refine V.ew (w' := wL cy al x (wD cy ad x)) rfl ?_
        refine V.es (st' := [.int (-13)]) (by rw [dcd_IS]) ?_
        refine v_iload C dL_law_1377 rfl ?_
        refine v_icmp_ne C 1386 dL_law_1379 (by decide) (fun z => absurd z (by decide)) (fun z => ?_)
        refine v_iconst C (1) dL_law_1382 (by decide) ?_
        refine v_goto C 1387 dL_law_1383 (by decide) ?_
        refine v_istore C dL_law_1387 (by decide) ?_
        refine v_goto C 1502 dL_law_1389 (by decide) ?_
        refine V.ew (w' := wL cy al x (wD cy ad x)) ?_ ?_
        · have eS : x = x := rfl
          have eC : x = x := rfl
          rw [eS, eC]
        exact (V.lof 15 (V.lof 17 (V.lof 18 (V.lof 19 (V.lof 20 (V.lof 21 (V.lof 22 (V.widen (k := cells + 8) (n := slots + 48) (by omega) (by omega) (nx _ _ _ _ h.up)))))))))
      · -- 1346 f: not ¬ (sumF (fun k => b2i (x 9 k = 2 ∧ x 10 k = nI bs)) n) = 0
        exact absurd hun ((go0_iff h20).mp c8)
  · have hkk : kk < n := c1
    refine v_iload C dL_law_1267 rfl ?_
    refine V.join (wL cy al x (wD cy ad x)) 1294 (fun _ => ([some (.ref b0), some (.ref (ad 0)), some (.ref (al 0)), some (.ref (al 1)), some (.ref (al 2)), some (.ref (al 3)), some (.ref (al 4)), some (.ref (al 5)), some (.ref (al 6)), some (.ref (al 7)), some (.ref (al 8)), some (.ref (al 9)), some (.int 1), some (.int (nI k)), none, some (.int kv), some (.int (nI Y)), some (.int (nI rn)), some (.int (nI bs)), some (.int (nI dv)), some (.int (sumF (fun k => b2i (x 9 k = 2 ∧ x 10 k = nI bs)) kk)), some (.int (nI kk)), none, none, none] : List (Option Value))) (fun v => (.int v :: [.int (sumF (fun k => b2i (x 9 k = 2 ∧ x 10 k = nI bs)) kk)] : List Value)) (b2i (x 9 kk = 2 ∧ x 10 kk = nI bs)) (fun J1 => ?_) ?_
    · -- up to the join
      refine v_aload_n C dL_law_1269 rfl ?_
      refine v_iload C dL_law_1270 rfl ?_
      refine vL_l_s C kk rfl (by omega) dL_law_1272 ?_
      refine v_iconst C (2) dL_law_1273 (by decide) ?_
      refine v_icmp_ne C 1293 dL_law_1274 (by decide) (fun c10 => ?_) (fun c10 => ?_)
      · -- 1274 t: ¬ (x 9 kk) = 2
        refine v_iconst C (0) dL_law_1293 (by decide) ?_
        refine J1 _ ?_
        exact (b2i_f (by simp [c10])).symm
      · -- 1274 f: not ¬ (x 9 kk) = 2
        refine v_aload C dL_law_1277 rfl ?_
        refine v_iload C dL_law_1279 rfl ?_
        refine vL_l_w C kk rfl (by omega) dL_law_1281 ?_
        refine v_iload C dL_law_1282 rfl ?_
        refine v_iconst C (1) dL_law_1284 (by decide) ?_
        refine v_iadd C dL_law_1285 ?_
        refine v_icmp_ne C 1293 dL_law_1286 (by decide) (fun c11 => ?_) (fun c11 => ?_)
        · -- 1286 t: ¬ (x 10 kk + 1) = ((nI bs) + 1)
          replace c11 := mt p1_iff.mpr c11
          refine v_iconst C (0) dL_law_1293 (by decide) ?_
          refine J1 _ ?_
          exact (b2i_f (by simp [c10, c11])).symm
        · -- 1286 f: not ¬ (x 10 kk + 1) = ((nI bs) + 1)
          replace c11 := p1_iff.mp c11
          refine v_iconst C (1) dL_law_1289 (by decide) ?_
          refine v_goto C 1294 dL_law_1290 (by decide) ?_
          refine J1 _ ?_
          exact (b2i_t (by simp [c10, c11])).symm
    · -- behind the join
      refine v_iadd C dL_law_1294 ?_
      refine v_istore C dL_law_1295 (by decide) ?_
      refine v_incN C dL_law_1297 rfl (by decide) ?_
      refine v_goto C 1258 dL_law_1300 (by decide) ?_
      exact (ih_kk hkk trivial)
set_option maxHeartbeats 4000000 in
set_option maxRecDepth 100000 in
theorem law_adv {p : Program} {l : Launch} {e : Env} {s : State} {m : MethodId} {args : Array Value} {below : List Frame} {meth : Method} {c : Code} {Q : State → Prop} {ret : Option FieldType} {G : va_G} {cy : Nat → ClassId} {A : Nat → Prop} {al ad : Nat → Nat} {x : Sg} (C : vC p s m args meth c cL_law 25 wsL_law RL ret G cy A) (hX : xT A s s.heap) (hN : xN s) (hl : l.stackTraces = false) {b0 k Y rn bs dv : Nat} {kv : Int32} {u n om t cells slots : Nat} (h : J u n om t x) (hu : u ≤ 1000) (hY : Y < 2 ^ 31) (hrn : rn < 20) (hrn2 : 0 < n → rn < n) (hbs : bs < 5) (hdv : dv < 5) (hcc : cells + 8 ≤ 600086) (hss : slots + 48 ≤ 7301441) (nx : ∀ (n' om' t' : Nat) (x' : Sg), J (u + 1) n' om' t' x' → V p l e room_1 s m args below meth c 25 G A Q (wL cy al x' (wD cy ad x')) (cells + 8) (slots + 48) 1502 [some (.ref b0), some (.ref (ad 0)), some (.ref (al 0)), some (.ref (al 1)), some (.ref (al 2)), some (.ref (al 3)), some (.ref (al 4)), some (.ref (al 5)), some (.ref (al 6)), some (.ref (al 7)), some (.ref (al 8)), some (.ref (al 9)), some (.int 1), some (.int (nI k)), none, none, some (.int (nI Y)), none, none, none, none, none, none, none, none] []) : V p l e room_1 s m args below meth c 25 G A Q (wL cy al x (wD cy ad x)) cells slots 1392 [some (.ref b0), some (.ref (ad 0)), some (.ref (al 0)), some (.ref (al 1)), some (.ref (al 2)), some (.ref (al 3)), some (.ref (al 4)), some (.ref (al 5)), some (.ref (al 6)), some (.ref (al 7)), some (.ref (al 8)), some (.ref (al 9)), some (.int 1), some (.int (nI k)), none, some (.int kv), some (.int (nI Y)), some (.int (nI rn)), some (.int (nI bs)), some (.int (nI dv)), none, none, none, none, none] [] := by
  have ht30 := h.t30
  have h20 := h.n20
  have ho60 := h.o60
  refine V.joinP (fun v : Int32 => ∃ mi : Nat, 1 ≤ mi ∧ mi ≤ 1000 ∧ v = nI mi) (wL cy al x (wD cy ad x)) 1428 ([some (.ref b0), some (.ref (ad 0)), some (.ref (al 0)), some (.ref (al 1)), some (.ref (al 2)), some (.ref (al 3)), some (.ref (al 4)), some (.ref (al 5)), some (.ref (al 6)), some (.ref (al 7)), some (.ref (al 8)), some (.ref (al 9)), some (.int 1), some (.int (nI k)), none, some (.int kv), some (.int (nI Y)), some (.int (nI rn)), some (.int (nI bs)), some (.int (nI dv)), none, none, none, none, none] : List (Option Value)) ([] : List Value) (fun J1 => ?_) (fun v hv => ?_)
  · -- up to the join
    refine v_iconst C (1) dL_law_1392 (by decide) ?_
    refine v_iload C dL_law_1393 rfl ?_
    refine v_iload C dL_law_1395 rfl ?_
    refine v_bipush C (6) dL_law_1397 (by decide) ?_
    refine v_irem C dL_law_1399 (by decide) ?_
    refine v_if_ne C 1409 dL_law_1400 (by decide) (fun c1 => ?_) (fun c1 => ?_)
    · -- 1400 t: ¬ ((nI Y) - (nI Y) / 6 * 6) = 0
      refine v_iload C dL_law_1409 rfl ?_
      refine v_bipush C (6) dL_law_1411 (by decide) ?_
      refine v_irem C dL_law_1413 (by decide) ?_
      refine v_iconst C (3) dL_law_1414 (by decide) ?_
      refine v_icmp_ge C 1423 dL_law_1415 (by decide) (fun c2 => ?_) (fun c2 => ?_)
      · -- 1415 t: ¬ ((nI Y) - (nI Y) / 6 * 6) < 3
        refine v_sipush C (150) dL_law_1423 (by decide) ?_
        refine v_irem C dL_law_1426 (by decide) ?_
        refine v_iadd C dL_law_1427 ?_
        refine J1 _ ?_
        exact ⟨1 + (Y % 150), by omega, by omega, (addN rfl (remN (a := Y) (m := 150) rfl (by omega) (by omega)))⟩
      · -- 1415 f: not ¬ ((nI Y) - (nI Y) / 6 * 6) < 3
        refine v_bipush C (30) dL_law_1418 (by decide) ?_
        refine v_goto C 1426 dL_law_1420 (by decide) ?_
        refine v_irem C dL_law_1426 (by decide) ?_
        refine v_iadd C dL_law_1427 ?_
        refine J1 _ ?_
        exact ⟨1 + (Y % 30), by omega, by omega, (addN rfl (remN (a := Y) (m := 30) rfl (by omega) (by omega)))⟩
    · -- 1400 f: not ¬ ((nI Y) - (nI Y) / 6 * 6) = 0
      refine v_sipush C (1000) dL_law_1403 (by decide) ?_
      refine v_goto C 1426 dL_law_1406 (by decide) ?_
      refine v_irem C dL_law_1426 (by decide) ?_
      refine v_iadd C dL_law_1427 ?_
      refine J1 _ ?_
      exact ⟨1 + (Y % 1000), by omega, by omega, (addN rfl (remN (a := Y) (m := 1000) rfl (by omega) (by omega)))⟩
  · -- behind the join
    obtain ⟨mi, hm1, hm2, rfl⟩ := hv
    refine v_istore C dL_law_1428 (by decide) ?_
    refine v_aload C dL_law_1430 rfl ?_
    refine v_iconst C (0) dL_law_1432 (by decide) ?_
    refine vL_l_n0 C dL_law_1433 ?_
    refine v_iload C dL_law_1434 rfl ?_
    refine v_iadd C dL_law_1436 ?_
    refine v_sipush C (30000) dL_law_1437 (by decide) ?_
    refine v_icmp_le C 1448 dL_law_1440 (by decide) (fun c3 => ?_) (fun c3 => ?_)
    · -- 1440 t: ¬ 30000 < ((x 0 0) + (nI mi))
      have hle : t + mi ≤ 30000 := by have := mt (nI_ltI (a := 30000) (b := t + mi) (by decide) (by omega)).mpr (by rw [← nI_add, ← h.t0]; exact c3); omega
      have hng : ¬ 30000 < x 0 0 + nI mi := c3
      refine v_aload C dL_law_1448 rfl ?_
      refine v_iconst C (0) dL_law_1450 (by decide) ?_
      refine vL_l_n0 C dL_law_1451 ?_
      refine v_iload C dL_law_1452 rfl ?_
      refine v_iadd C dL_law_1454 ?_
      refine V.es (st' := [.int (nI (t + mi))]) (by rw [h.t0, nI_add]) ?_
      refine v_istore C dL_law_1455 (by decide) ?_
      refine v_iload C dL_law_1457 rfl ?_
      refine v_if_le C 1479 dL_law_1459 (by decide) (fun c4 => ?_) (fun c4 => ?_)
      · -- 1459 t: ¬ 0 < (nI (t + mi))
        exact absurd ((nI_ltI (a := 0) (by decide) (by omega)).mpr (by omega)) c4
      · -- 1459 f: not ¬ 0 < (nI (t + mi))
        refine v_aload C dL_law_1462 rfl ?_
        refine v_aload_n C dL_law_1464 rfl ?_
        refine v_aload_n C dL_law_1465 rfl ?_
        refine v_aload C dL_law_1466 rfl ?_
        refine v_aload C dL_law_1468 rfl ?_
        refine v_aload C dL_law_1470 rfl ?_
        refine v_aload C dL_law_1472 rfl ?_
        refine v_iload C dL_law_1474 rfl ?_
        refine v_sV C (k_L_passes l G cy al x (wD cy ad x) u n t (t + mi) hu h.pi (by omega) hle) rfl gL_law_L_passes (nA := 8) (by decide +kernel) rfl (by decide) (HC0 hcc hss) rfl (Nat.le_of_ble_eq_true rfl) dL_law_1476 ?_
        refine V.ew (w' := wL cy al (it (fun _ => fminute n) mi x) (wD cy ad x)) (by rw [show t + mi - t = mi by omega]) ?_
        refine v_aload_n C dL_law_1479 rfl ?_
        refine v_iconst C (3) dL_law_1480 (by decide) ?_
        refine v_iload C dL_law_1481 rfl ?_
        refine v_iconst C (0) dL_law_1483 (by decide) ?_
        refine v_iconst C (0) dL_law_1484 (by decide) ?_
        refine v_iconst C (0) dL_law_1485 (by decide) ?_
        refine v_iconst C (0) dL_law_1486 (by decide) ?_
        have hxo : xadv x (nI mi) = none := (xadv_eq hm1 hm2).trans (pif_f hng)
        have eF : fadv n x (nI mi) = it (fun _ => fminute n) mi x := by unfold fadv; rw [nI_clamp (show mi < 2 ^ 31 by omega)]
        refine v_sW C hX hN (wL cy al (it (fun _ => fminute n) mi x) []) [] (w2 := wL cy al (it (fun _ => fminute n) mi x) (wD cy ad (oc (xadv x (nI mi)) (fadv n x (nI mi)) x))) (k_L_does_advance l G cy ad x (fadv n x (nI mi)) (nI mi) 0 0 0 0 (fadv n x (nI mi) 0 0) (xadv x (nI mi)) hE_adv (k_X1_advance l G cy hl ad x n h.n1 (by omega) (nI mi))) rfl gL_law_L_does (nA := 7) (by decide +kernel) rfl (by decide) (HC8 hcc hss) rfl (Nat.le_of_ble_eq_true rfl) (by simp [wL]) (by simp [wL]) dL_law_1487 ?_
        rw [hxo]
        refine V.ew (w' := wL cy al (it (fun _ => fminute n) mi x) (wD cy ad (fadv n x (nI mi)))) rfl ?_
        refine V.es (st' := [.int (fadv n x (nI mi) 0 0)]) rfl ?_
        refine V.es (st' := [.int (nI (t + mi))]) (by rw [eF, (PI_mins h.pi hu mi hle).2.2.1]) ?_
        refine v_iload C dL_law_1490 rfl ?_
        refine v_icmp_ne C 1499 dL_law_1492 (by decide) (fun z => absurd z (Classical.not_not.mpr rfl)) (fun z => ?_)
        refine v_iconst C (1) dL_law_1495 (by decide) ?_
        refine v_goto C 1500 dL_law_1496 (by decide) ?_
        refine v_istore C dL_law_1500 (by decide) ?_
        refine V.ew (w' := wL cy al (it (fun _ => fminute n) mi x) (wD cy ad (it (fun _ => fminute n) mi x))) ?_ ?_
        · have eS : it (fun _ => fminute n) mi x = it (fun _ => fminute n) mi x := rfl
          have eC : fadv n x (nI mi) = it (fun _ => fminute n) mi x := eF
          rw [eS, eC]
        exact (V.lof 15 (V.lof 17 (V.lof 18 (V.lof 19 (V.lof 20 (V.lof 21 (V.widen (k := cells + 8) (n := slots + 48) (by omega) (by omega) (nx _ _ _ _ (J_adv h hu hle)))))))))
    · -- 1440 f: not ¬ 30000 < ((x 0 0) + (nI mi))
      have hgt : 30000 < x 0 0 + nI mi := c3
      refine v_bipush C (-13) dL_law_1443 (by decide) ?_
      refine v_goto C 1455 dL_law_1445 (by decide) ?_
      refine v_istore C dL_law_1455 (by decide) ?_
      refine v_iload C dL_law_1457 rfl ?_
      refine v_if_le C 1479 dL_law_1459 (by decide) (fun z => ?_) (fun z => absurd z (by decide))
      refine v_aload_n C dL_law_1479 rfl ?_
      refine v_iconst C (3) dL_law_1480 (by decide) ?_
      refine v_iload C dL_law_1481 rfl ?_
      refine v_iconst C (0) dL_law_1483 (by decide) ?_
      refine v_iconst C (0) dL_law_1484 (by decide) ?_
      refine v_iconst C (0) dL_law_1485 (by decide) ?_
      refine v_iconst C (0) dL_law_1486 (by decide) ?_
      have hxo : xadv x (nI mi) = some nIS := (xadv_eq hm1 hm2).trans (pif_t hgt)
      refine v_sW C hX hN (wL cy al x []) [] (w2 := wL cy al x (wD cy ad (oc (xadv x (nI mi)) (fadv n x (nI mi)) x))) (k_L_does_advance l G cy ad x (fadv n x (nI mi)) (nI mi) 0 0 0 0 (fadv n x (nI mi) 0 0) (xadv x (nI mi)) hE_adv (k_X1_advance l G cy hl ad x n h.n1 (by omega) (nI mi))) rfl gL_law_L_does (nA := 7) (by decide +kernel) rfl (by decide) (HC8 hcc hss) rfl (Nat.le_of_ble_eq_true rfl) (by simp [wL]) (by simp [wL]) dL_law_1487 ?_
      rw [hxo]
      refine V.ew (w' := wL cy al x (wD cy ad x)) rfl ?_
      refine V.es (st' := [.int (-13)]) (by rw [dcd_IS]) ?_
      refine v_iload C dL_law_1490 rfl ?_
      refine v_icmp_ne C 1499 dL_law_1492 (by decide) (fun z => absurd z (by decide)) (fun z => ?_)
      refine v_iconst C (1) dL_law_1495 (by decide) ?_
      refine v_goto C 1500 dL_law_1496 (by decide) ?_
      refine v_istore C dL_law_1500 (by decide) ?_
      refine V.ew (w' := wL cy al x (wD cy ad x)) ?_ ?_
      · have eS : x = x := rfl
        have eC : x = x := rfl
        rw [eS, eC]
      exact (V.lof 15 (V.lof 17 (V.lof 18 (V.lof 19 (V.lof 20 (V.lof 21 (V.widen (k := cells + 8) (n := slots + 48) (by omega) (by omega) (nx _ _ _ _ h.up))))))))
