/-! THE LAW: a turn -/
set_option maxHeartbeats 4000000 in
set_option maxRecDepth 100000 in
theorem law_sel {p : Program} {l : Launch} {e : Env} {s : State} {m : MethodId} {args : Array Value} {below : List Frame} {meth : Method} {c : Code} {Q : State → Prop} {ret : Option FieldType} {G : va_G} {cy : Nat → ClassId} {A : Nat → Prop} {al ad : Nat → Nat} {x : Sg} (C : vC p s m args meth c cL_law 25 wsL_law RL ret G cy A) (hX : xT A s s.heap) (hN : xN s) (hl : l.stackTraces = false) {b0 k Y rn bs dv : Nat} {kv : Int32} {u n om t cells slots : Nat} (h : J u n om t x) (hu : u ≤ 1000) (hY : Y < 2 ^ 31) (hrn : rn < 20) (hrn2 : 0 < n → rn < n) (hbs : bs < 5) (hdv : dv < 5) (hcc : cells + 8 ≤ 600086) (hss : slots + 48 ≤ 7301441) (K : ∀ r, r < 20 → (0 < n → r < n) → V p l e room_1 s m args below meth c 25 G A Q (wL cy al x (wD cy ad x)) cells slots 268 [some (.ref b0), some (.ref (ad 0)), some (.ref (al 0)), some (.ref (al 1)), some (.ref (al 2)), some (.ref (al 3)), some (.ref (al 4)), some (.ref (al 5)), some (.ref (al 6)), some (.ref (al 7)), some (.ref (al 8)), some (.ref (al 9)), some (.int 1), some (.int (nI k)), none, some (.int kv), some (.int (nI Y)), some (.int (nI r)), some (.int (nI bs)), some (.int (nI dv)), none, none, none, none, none] []) : V p l e room_1 s m args below meth c 25 G A Q (wL cy al x (wD cy ad x)) cells slots 227 [some (.ref b0), some (.ref (ad 0)), some (.ref (al 0)), some (.ref (al 1)), some (.ref (al 2)), some (.ref (al 3)), some (.ref (al 4)), some (.ref (al 5)), some (.ref (al 6)), some (.ref (al 7)), some (.ref (al 8)), some (.ref (al 9)), some (.int 1), some (.int (nI k)), none, some (.int kv), some (.int (nI Y)), some (.int (nI rn)), some (.int (nI bs)), some (.int (nI dv)), some (.int 0), none, none, none, none] [] := by
  have ht30 := h.t30
  have h20 := h.n20
  have ho60 := h.o60
  refine V.loopE (fun (_ : Nat) (_ : Nat) => wL cy al x (wD cy ad x)) (fun (j : Nat) (r : Nat) => ([some (.ref b0), some (.ref (ad 0)), some (.ref (al 0)), some (.ref (al 1)), some (.ref (al 2)), some (.ref (al 3)), some (.ref (al 4)), some (.ref (al 5)), some (.ref (al 6)), some (.ref (al 7)), some (.ref (al 8)), some (.ref (al 9)), some (.int 1), some (.int (nI k)), none, some (.int kv), some (.int (nI Y)), some (.int (nI r)), some (.int (nI bs)), some (.int (nI dv)), some (.int (nI j)), none, none, none, none] : List (Option Value))) (fun _ r => r < 20 ∧ (0 < n → r < n)) n ?_ rn ⟨hrn, hrn2⟩
  intro j r hj hr ih
  try dsimp only at hr ih ⊢
  have hr1 := hr.1
  refine v_iload C dL_law_227 rfl ?_
  refine v_aload C dL_law_229 rfl ?_
  refine v_iconst C (1) dL_law_231 (by decide) ?_
  refine vL_l_n1 C dL_law_232 ?_
  refine v_icmp_ge C 268 dL_law_233 (by decide) (fun c1 => ?_) (fun c1 => ?_)
  · -- 233 t: ¬ (nI j) < (x 1 0)
    exact V.lof 20 (K r hr.1 hr.2)
  · -- 233 f: not ¬ (nI j) < (x 1 0)
    have hkn : j < n := by rw [h.n1] at c1; exact (nI_ltI (by omega) (by omega)).mp c1
    refine v_iload C dL_law_236 rfl ?_
    refine v_bipush C (7) dL_law_238 (by decide) ?_
    refine v_irem C dL_law_240 (by decide) ?_
    refine v_if_le C 268 dL_law_241 (by decide) (fun c2 => ?_) (fun c2 => ?_)
    · -- 241 t: ¬ 0 < ((nI Y) - (nI Y) / 7 * 7)
      exact V.lof 20 (K r hr.1 hr.2)
    · -- 241 f: not ¬ 0 < ((nI Y) - (nI Y) / 7 * 7)
      refine v_aload_n C dL_law_244 rfl ?_
      refine v_iload C dL_law_245 rfl ?_
      refine vL_l_s C r rfl (by omega) dL_law_247 ?_
      refine v_if_eq C 268 dL_law_248 (by decide) (fun c3 => ?_) (fun c3 => ?_)
      · -- 248 t: (x 9 r) = 0
        exact V.lof 20 (K r hr.1 hr.2)
      · -- 248 f: not (x 9 r) = 0
        refine v_iload C dL_law_251 rfl ?_
        refine v_iconst C (1) dL_law_253 (by decide) ?_
        refine v_iadd C dL_law_254 ?_
        refine v_aload C dL_law_255 rfl ?_
        refine v_iconst C (1) dL_law_257 (by decide) ?_
        refine vL_l_n1 C dL_law_258 ?_
        have hnp : 0 < n := by omega
        refine V.es (st' := [.int (nI n), .int ((nI r) + 1)]) (by rw [h.n1]) ?_
        refine v_irem C dL_law_259 (nI_ne0 (by omega) (by omega)) ?_
        obtain ⟨r2, hr2, e_r2⟩ : ∃ r2 : Nat, r2 < n ∧ ((nI r) + 1) - ((nI r) + 1) / (nI n) * (nI n) = nI r2 := ⟨(r + 1) % n, Nat.mod_lt _ hnp, (remN (a := (r + 1)) (m := n) (addN (a := r) (b := 1) rfl rfl) (by omega) (by omega))⟩
        refine V.es (st' := [.int (nI r2)]) (by rw [e_r2]) ?_
        refine v_istore C dL_law_260 (by decide) ?_
        refine v_incN C dL_law_262 rfl (by decide) ?_
        refine v_goto C 227 dL_law_265 (by decide) ?_
        exact ih hkn r2 ⟨by omega, fun _ => hr2⟩
set_option maxHeartbeats 4000000 in
set_option maxRecDepth 100000 in
theorem law_disp {p : Program} {l : Launch} {e : Env} {s : State} {m : MethodId} {args : Array Value} {below : List Frame} {meth : Method} {c : Code} {Q : State → Prop} {ret : Option FieldType} {G : va_G} {cy : Nat → ClassId} {A : Nat → Prop} {al ad : Nat → Nat} {x : Sg} (C : vC p s m args meth c cL_law 25 wsL_law RL ret G cy A) (hX : xT A s s.heap) (hN : xN s) (hl : l.stackTraces = false) {b0 k Y rn bs dv : Nat} {kv : Int32} {u n om t cells slots : Nat} (h : J u n om t x) (hu : u ≤ 1000) (hY : Y < 2 ^ 31) (hrn : rn < 20) (hrn2 : 0 < n → rn < n) (hbs : bs < 5) (hdv : dv < 5) (hcc : cells + 8 ≤ 600086) (hss : slots + 48 ≤ 7301441) (nx : ∀ (n' om' t' : Nat) (x' : Sg), J (u + 1) n' om' t' x' → V p l e room_1 s m args below meth c 25 G A Q (wL cy al x' (wD cy ad x')) (cells + 8) (slots + 48) 1502 [some (.ref b0), some (.ref (ad 0)), some (.ref (al 0)), some (.ref (al 1)), some (.ref (al 2)), some (.ref (al 3)), some (.ref (al 4)), some (.ref (al 5)), some (.ref (al 6)), some (.ref (al 7)), some (.ref (al 8)), some (.ref (al 9)), some (.int 1), some (.int (nI k)), none, none, some (.int (nI Y)), none, none, none, none, none, none, none, none] []) : V p l e room_1 s m args below meth c 25 G A Q (wL cy al x (wD cy ad x)) cells slots 268 [some (.ref b0), some (.ref (ad 0)), some (.ref (al 0)), some (.ref (al 1)), some (.ref (al 2)), some (.ref (al 3)), some (.ref (al 4)), some (.ref (al 5)), some (.ref (al 6)), some (.ref (al 7)), some (.ref (al 8)), some (.ref (al 9)), some (.int 1), some (.int (nI k)), none, some (.int kv), some (.int (nI Y)), some (.int (nI rn)), some (.int (nI bs)), some (.int (nI dv)), none, none, none, none, none] [] := by
  have ht30 := h.t30
  have h20 := h.n20
  have ho60 := h.o60
  refine v_iload C dL_law_268 rfl ?_
  refine v_bipush C (6) dL_law_270 (by decide) ?_
  refine v_icmp_ge C 480 dL_law_272 (by decide) (fun c1 => ?_) (fun c1 => ?_)
  · -- 272 t: ¬ kv < 6
    refine v_iload C dL_law_480 rfl ?_
    refine v_bipush C (8) dL_law_482 (by decide) ?_
    refine v_icmp_ge C 608 dL_law_484 (by decide) (fun c2 => ?_) (fun c2 => ?_)
    · -- 484 t: ¬ kv < 8
      refine v_iload C dL_law_608 rfl ?_
      refine v_bipush C (16) dL_law_610 (by decide) ?_
      refine v_icmp_ge C 1040 dL_law_612 (by decide) (fun c3 => ?_) (fun c3 => ?_)
      · -- 612 t: ¬ kv < 16
        refine v_iload C dL_law_1040 rfl ?_
        refine v_bipush C (16) dL_law_1042 (by decide) ?_
        refine v_icmp_ne C 1145 dL_law_1044 (by decide) (fun c4 => ?_) (fun c4 => ?_)
        · -- 1044 t: ¬ kv = 16
          refine v_iload C dL_law_1145 rfl ?_
          refine v_bipush C (17) dL_law_1147 (by decide) ?_
          refine v_icmp_ne C 1245 dL_law_1149 (by decide) (fun c5 => ?_) (fun c5 => ?_)
          · -- 1149 t: ¬ kv = 17
            refine v_iload C dL_law_1245 rfl ?_
            refine v_bipush C (20) dL_law_1247 (by decide) ?_
            refine v_icmp_ge C 1392 dL_law_1249 (by decide) (fun c6 => ?_) (fun c6 => ?_)
            · -- 1249 t: ¬ kv < 20
              exact law_adv C hX hN hl h hu hY hrn hrn2 hbs hdv hcc hss nx
            · -- 1249 f: not ¬ kv < 20
              exact law_plug C hX hN hl h hu hY hrn hrn2 hbs hdv hcc hss nx
          · -- 1149 f: not ¬ kv = 17
            exact law_ails C hX hN hl h hu hY hrn hrn2 hbs hdv hcc hss nx
        · -- 1044 f: not ¬ kv = 16
          exact law_breaks C hX hN hl h hu hY hrn hrn2 hbs hdv hcc hss nx
      · -- 612 f: not ¬ kv < 16
        refine v_aload C dL_law_615 rfl ?_
        refine v_iconst C (2) dL_law_617 (by decide) ?_
        refine vL_l_n2 C dL_law_618 ?_
        refine v_bipush C (60) dL_law_619 (by decide) ?_
        refine v_icmp_ge C 1040 dL_law_621 (by decide) (fun c7 => ?_) (fun c7 => ?_)
        · -- 621 t: ¬ (x 2 0) < 60
          refine v_iload C dL_law_1040 rfl ?_
          refine v_bipush C (16) dL_law_1042 (by decide) ?_
          refine v_icmp_ne C 1145 dL_law_1044 (by decide) (fun c8 => ?_) (fun c8 => ?_)
          · -- 1044 t: ¬ kv = 16
            refine v_iload C dL_law_1145 rfl ?_
            refine v_bipush C (17) dL_law_1147 (by decide) ?_
            refine v_icmp_ne C 1245 dL_law_1149 (by decide) (fun c9 => ?_) (fun c9 => ?_)
            · -- 1149 t: ¬ kv = 17
              refine v_iload C dL_law_1245 rfl ?_
              refine v_bipush C (20) dL_law_1247 (by decide) ?_
              refine v_icmp_ge C 1392 dL_law_1249 (by decide) (fun c10 => ?_) (fun c10 => ?_)
              · -- 1249 t: ¬ kv < 20
                exact law_adv C hX hN hl h hu hY hrn hrn2 hbs hdv hcc hss nx
              · -- 1249 f: not ¬ kv < 20
                exact law_plug C hX hN hl h hu hY hrn hrn2 hbs hdv hcc hss nx
            · -- 1149 f: not ¬ kv = 17
              exact law_ails C hX hN hl h hu hY hrn hrn2 hbs hdv hcc hss nx
          · -- 1044 f: not ¬ kv = 16
            exact law_breaks C hX hN hl h hu hY hrn hrn2 hbs hdv hcc hss nx
        · -- 621 f: not ¬ (x 2 0) < 60
          have ho6 : om < 60 := by rw [h.o2] at c7; exact (nI_ltI (b := 60) (by omega) (by decide)).mp c7
          exact law_order C hX hN hl h hu hY hrn hrn2 hbs hdv hcc hss ho6 nx
    · -- 484 f: not ¬ kv < 8
      exact law_lead C hX hN hl h hu hY hrn hrn2 hbs hdv hcc hss nx
  · -- 272 f: not ¬ kv < 6
    refine v_aload C dL_law_275 rfl ?_
    refine v_iconst C (1) dL_law_277 (by decide) ?_
    refine vL_l_n1 C dL_law_278 ?_
    refine v_bipush C (20) dL_law_279 (by decide) ?_
    refine v_icmp_ge C 480 dL_law_281 (by decide) (fun c11 => ?_) (fun c11 => ?_)
    · -- 281 t: ¬ (x 1 0) < 20
      refine v_iload C dL_law_480 rfl ?_
      refine v_bipush C (8) dL_law_482 (by decide) ?_
      refine v_icmp_ge C 608 dL_law_484 (by decide) (fun c12 => ?_) (fun c12 => ?_)
      · -- 484 t: ¬ kv < 8
        refine v_iload C dL_law_608 rfl ?_
        refine v_bipush C (16) dL_law_610 (by decide) ?_
        refine v_icmp_ge C 1040 dL_law_612 (by decide) (fun c13 => ?_) (fun c13 => ?_)
        · -- 612 t: ¬ kv < 16
          refine v_iload C dL_law_1040 rfl ?_
          refine v_bipush C (16) dL_law_1042 (by decide) ?_
          refine v_icmp_ne C 1145 dL_law_1044 (by decide) (fun c14 => ?_) (fun c14 => ?_)
          · -- 1044 t: ¬ kv = 16
            refine v_iload C dL_law_1145 rfl ?_
            refine v_bipush C (17) dL_law_1147 (by decide) ?_
            refine v_icmp_ne C 1245 dL_law_1149 (by decide) (fun c15 => ?_) (fun c15 => ?_)
            · -- 1149 t: ¬ kv = 17
              refine v_iload C dL_law_1245 rfl ?_
              refine v_bipush C (20) dL_law_1247 (by decide) ?_
              refine v_icmp_ge C 1392 dL_law_1249 (by decide) (fun c16 => ?_) (fun c16 => ?_)
              · -- 1249 t: ¬ kv < 20
                exact law_adv C hX hN hl h hu hY hrn hrn2 hbs hdv hcc hss nx
              · -- 1249 f: not ¬ kv < 20
                exact law_plug C hX hN hl h hu hY hrn hrn2 hbs hdv hcc hss nx
            · -- 1149 f: not ¬ kv = 17
              exact law_ails C hX hN hl h hu hY hrn hrn2 hbs hdv hcc hss nx
          · -- 1044 f: not ¬ kv = 16
            exact law_breaks C hX hN hl h hu hY hrn hrn2 hbs hdv hcc hss nx
        · -- 612 f: not ¬ kv < 16
          refine v_aload C dL_law_615 rfl ?_
          refine v_iconst C (2) dL_law_617 (by decide) ?_
          refine vL_l_n2 C dL_law_618 ?_
          refine v_bipush C (60) dL_law_619 (by decide) ?_
          refine v_icmp_ge C 1040 dL_law_621 (by decide) (fun c17 => ?_) (fun c17 => ?_)
          · -- 621 t: ¬ (x 2 0) < 60
            refine v_iload C dL_law_1040 rfl ?_
            refine v_bipush C (16) dL_law_1042 (by decide) ?_
            refine v_icmp_ne C 1145 dL_law_1044 (by decide) (fun c18 => ?_) (fun c18 => ?_)
            · -- 1044 t: ¬ kv = 16
              refine v_iload C dL_law_1145 rfl ?_
              refine v_bipush C (17) dL_law_1147 (by decide) ?_
              refine v_icmp_ne C 1245 dL_law_1149 (by decide) (fun c19 => ?_) (fun c19 => ?_)
              · -- 1149 t: ¬ kv = 17
                refine v_iload C dL_law_1245 rfl ?_
                refine v_bipush C (20) dL_law_1247 (by decide) ?_
                refine v_icmp_ge C 1392 dL_law_1249 (by decide) (fun c20 => ?_) (fun c20 => ?_)
                · -- 1249 t: ¬ kv < 20
                  exact law_adv C hX hN hl h hu hY hrn hrn2 hbs hdv hcc hss nx
                · -- 1249 f: not ¬ kv < 20
                  exact law_plug C hX hN hl h hu hY hrn hrn2 hbs hdv hcc hss nx
              · -- 1149 f: not ¬ kv = 17
                exact law_ails C hX hN hl h hu hY hrn hrn2 hbs hdv hcc hss nx
            · -- 1044 f: not ¬ kv = 16
              exact law_breaks C hX hN hl h hu hY hrn hrn2 hbs hdv hcc hss nx
          · -- 621 f: not ¬ (x 2 0) < 60
            have ho6 : om < 60 := by rw [h.o2] at c17; exact (nI_ltI (b := 60) (by omega) (by decide)).mp c17
            exact law_order C hX hN hl h hu hY hrn hrn2 hbs hdv hcc hss ho6 nx
      · -- 484 f: not ¬ kv < 8
        exact law_lead C hX hN hl h hu hY hrn hrn2 hbs hdv hcc hss nx
    · -- 281 f: not ¬ (x 1 0) < 20
      have hn20 : n < 20 := by rw [h.n1] at c11; exact (nI_ltI (b := 20) (by omega) (by decide)).mp c11
      exact law_run C hX hN hl h hu hY hrn hrn2 hbs hdv hcc hss hn20 nx
set_option maxHeartbeats 4000000 in
set_option maxRecDepth 100000 in
theorem law_turn {p : Program} {l : Launch} {e : Env} {s : State} {m : MethodId} {args : Array Value} {below : List Frame} {meth : Method} {c : Code} {Q : State → Prop} {ret : Option FieldType} {G : va_G} {cy : Nat → ClassId} {A : Nat → Prop} {al ad : Nat → Nat} {x : Sg} (C : vC p s m args meth c cL_law 25 wsL_law RL ret G cy A) (hX : xT A s s.heap) (hN : xN s) (hl : l.stackTraces = false) {b0 k : Nat} {u n om t cells slots : Nat} (h : J u n om t x) (hu : u ≤ 1000) (hcc : cells + 8 ≤ 600086) (hss : slots + 48 ≤ 7301441) (hk : k < 130) {L : Nat} {xs : Nat → Int32} (S : va_X b0 L xs s s.heap) (hbl : b0 < s.heap.size) (hbA : ¬ A b0) (hL : L ≤ 260) (nx : ∀ (Y n' om' t' : Nat) (x' : Sg), J (u + 1) n' om' t' x' → V p l e room_1 s m args below meth c 25 G A Q (wL cy al x' (wD cy ad x')) (cells + 8) (slots + 48) 1502 [some (.ref b0), some (.ref (ad 0)), some (.ref (al 0)), some (.ref (al 1)), some (.ref (al 2)), some (.ref (al 3)), some (.ref (al 4)), some (.ref (al 5)), some (.ref (al 6)), some (.ref (al 7)), some (.ref (al 8)), some (.ref (al 9)), some (.int 1), some (.int (nI k)), none, none, some (.int (nI Y)), none, none, none, none, none, none, none, none] []) : V p l e room_1 s m args below meth c 25 G A Q (wL cy al x (wD cy ad x)) cells slots 122 [some (.ref b0), some (.ref (ad 0)), some (.ref (al 0)), some (.ref (al 1)), some (.ref (al 2)), some (.ref (al 3)), some (.ref (al 4)), some (.ref (al 5)), some (.ref (al 6)), some (.ref (al 7)), some (.ref (al 8)), some (.ref (al 9)), some (.int 1), some (.int (nI k)), none, none, none, none, none, none, none, none, none, none, none] [] := by
  have ht30 := h.t30
  have h20 := h.n20
  have ho60 := h.o60
  refine V.joinP (fun v : Int32 => ∃ z : Nat, z < 2 ^ 31 ∧ v = nI z) (wL cy al x (wD cy ad x)) 160 ([some (.ref b0), some (.ref (ad 0)), some (.ref (al 0)), some (.ref (al 1)), some (.ref (al 2)), some (.ref (al 3)), some (.ref (al 4)), some (.ref (al 5)), some (.ref (al 6)), some (.ref (al 7)), some (.ref (al 8)), some (.ref (al 9)), some (.int 1), some (.int (nI k)), none, none, none, none, none, none, none, none, none, none, none] : List (Option Value)) ([] : List Value) (fun J1 => ?_) (fun v hv => ?_)
  · -- up to the join
    refine v_iload C dL_law_122 rfl ?_
    refine v_aload_n C dL_law_124 rfl ?_
    refine v_slen C S hbl hbA dL_law_125 ?_
    refine v_icmp_ge C 139 dL_law_126 (by decide) (fun c1 => ?_) (fun c1 => ?_)
    · -- 126 t: ¬ (nI k) < (nI L)
      refine v_ldc C (i := 98) (v := 53017) (by decide +kernel) dL_law_139 ?_
      refine v_iload C dL_law_141 rfl ?_
      refine v_imul C dL_law_143 ?_
      refine v_iload C dL_law_144 rfl ?_
      refine v_imul C dL_law_146 ?_
      refine v_sipush C (7001) dL_law_147 (by decide) ?_
      refine v_iload C dL_law_150 rfl ?_
      refine v_imul C dL_law_152 ?_
      refine v_iadd C dL_law_153 ?_
      refine v_bipush C (13) dL_law_154 (by decide) ?_
      refine v_iadd C dL_law_156 ?_
      refine v_ldc C (i := 97) (v := 2147483647) (by decide +kernel) dL_law_157 ?_
      refine v_iand C dL_law_159 ?_
      refine J1 _ ?_
      exact and_max _
    · -- 126 f: not ¬ (nI k) < (nI L)
      have hkL : k < L := (nI_ltI (by omega) (by omega)).mp c1
      refine v_aload_n C dL_law_129 rfl ?_
      refine v_iload C dL_law_130 rfl ?_
      refine v_sld C S hbl hbA k rfl hkL (by omega) dL_law_132 ?_
      refine v_ldc C (i := 97) (v := 2147483647) (by decide +kernel) dL_law_133 ?_
      refine v_iand C dL_law_135 ?_
      refine v_goto C 160 dL_law_136 (by decide) ?_
      refine J1 _ ?_
      exact and_max _
  · -- behind the join
    obtain ⟨z, hz, rfl⟩ := hv
    refine v_istore C dL_law_160 (by decide) ?_
    refine V.joinP (fun v : Int32 => True) (wL cy al x (wD cy ad x)) 177 ([some (.ref b0), some (.ref (ad 0)), some (.ref (al 0)), some (.ref (al 1)), some (.ref (al 2)), some (.ref (al 3)), some (.ref (al 4)), some (.ref (al 5)), some (.ref (al 6)), some (.ref (al 7)), some (.ref (al 8)), some (.ref (al 9)), some (.int 1), some (.int (nI k)), some (.int (nI z)), none, none, none, none, none, none, none, none, none, none] : List (Option Value)) ([] : List Value) (fun J2 => ?_) (fun v hv => ?_)
    · -- up to the join
      refine v_iload C dL_law_162 rfl ?_
      refine v_iconst C (4) dL_law_164 (by decide) ?_
      refine v_icmp_ge C 172 dL_law_165 (by decide) (fun c2 => ?_) (fun c2 => ?_)
      · -- 165 t: ¬ (nI k) < 4
        refine v_iload C dL_law_172 rfl ?_
        refine v_bipush C (24) dL_law_174 (by decide) ?_
        refine v_irem C dL_law_176 (by decide) ?_
        refine J2 _ ?_
        exact trivial
      · -- 165 f: not ¬ (nI k) < 4
        refine v_iconst C (0) dL_law_168 (by decide) ?_
        refine v_goto C 177 dL_law_169 (by decide) ?_
        refine J2 _ ?_
        exact trivial
    · -- behind the join
      obtain ⟨kv, hkv⟩ : ∃ kv : Int32, kv = v := ⟨v, rfl⟩
      subst hkv
      refine v_istore C dL_law_177 (by decide) ?_
      refine v_iload C dL_law_179 rfl ?_
      refine v_bipush C (24) dL_law_181 (by decide) ?_
      refine v_idiv C dL_law_183 (by decide) ?_
      obtain ⟨Y, hY, e_Y⟩ : ∃ Y : Nat, Y < 2 ^ 31 ∧ (nI z) / 24 = nI Y := ⟨z / 24, by omega, (divN (a := z) (m := 24) rfl (by omega) (by omega))⟩
      refine V.es (st' := [.int (nI Y)]) (by rw [e_Y]) ?_
      refine v_istore C dL_law_184 (by decide) ?_
      refine V.joinP (fun v : Int32 => ∃ rn : Nat, rn < 20 ∧ (0 < n → rn < n) ∧ v = nI rn) (wL cy al x (wD cy ad x)) 204 ([some (.ref b0), some (.ref (ad 0)), some (.ref (al 0)), some (.ref (al 1)), some (.ref (al 2)), some (.ref (al 3)), some (.ref (al 4)), some (.ref (al 5)), some (.ref (al 6)), some (.ref (al 7)), some (.ref (al 8)), some (.ref (al 9)), some (.int 1), some (.int (nI k)), some (.int (nI z)), some (.int kv), some (.int (nI Y)), none, none, none, none, none, none, none, none] : List (Option Value)) ([] : List Value) (fun J3 => ?_) (fun v hv => ?_)
      · -- up to the join
        refine v_aload C dL_law_186 rfl ?_
        refine v_iconst C (1) dL_law_188 (by decide) ?_
        refine vL_l_n1 C dL_law_189 ?_
        refine v_if_ne C 197 dL_law_190 (by decide) (fun c3 => ?_) (fun c3 => ?_)
        · -- 190 t: ¬ (x 1 0) = 0
          have hnp : 0 < n := by
            rcases Nat.eq_zero_or_pos n with z | z
            · exact absurd (h.n1.trans (by rw [z]; rfl)) c3
            · exact z
          refine v_iload C dL_law_197 rfl ?_
          refine v_aload C dL_law_199 rfl ?_
          refine v_iconst C (1) dL_law_201 (by decide) ?_
          refine vL_l_n1 C dL_law_202 ?_
          refine V.es (st' := [.int (nI n), .int (nI Y)]) (by rw [h.n1]) ?_
          refine v_irem C dL_law_203 (nI_ne0 (by omega) (by omega)) ?_
          refine J3 _ ?_
          exact ⟨Y % n, by have := Nat.mod_lt Y hnp; omega, fun _ => Nat.mod_lt Y hnp, (remN (a := Y) (m := n) rfl (by omega) (by omega))⟩
        · -- 190 f: not ¬ (x 1 0) = 0
          refine v_iconst C (0) dL_law_193 (by decide) ?_
          refine v_goto C 204 dL_law_194 (by decide) ?_
          refine J3 _ ?_
          exact ⟨0, by omega, fun z => z, rfl⟩
      · -- behind the join
        obtain ⟨rn, hrn, hrn2, rfl⟩ := hv
        refine v_istore C dL_law_204 (by decide) ?_
        refine v_iload C dL_law_206 rfl ?_
        refine v_bipush C (20) dL_law_208 (by decide) ?_
        refine v_idiv C dL_law_210 (by decide) ?_
        refine v_iconst C (5) dL_law_211 (by decide) ?_
        refine v_irem C dL_law_212 (by decide) ?_
        obtain ⟨bs, hbs, e_bs⟩ : ∃ bs : Nat, bs < 5 ∧ ((nI Y) / 20) - ((nI Y) / 20) / 5 * 5 = nI bs := ⟨(Y / 20) % 5, by omega, (remN (a := (Y / 20)) (m := 5) (divN (a := Y) (m := 20) rfl (by omega) (by omega)) (by omega) (by omega))⟩
        refine V.es (st' := [.int (nI bs)]) (by rw [e_bs]) ?_
        refine v_istore C dL_law_213 (by decide) ?_
        refine v_iload C dL_law_215 rfl ?_
        refine v_bipush C (100) dL_law_217 (by decide) ?_
        refine v_idiv C dL_law_219 (by decide) ?_
        refine v_iconst C (5) dL_law_220 (by decide) ?_
        refine v_irem C dL_law_221 (by decide) ?_
        obtain ⟨dv, hdv, e_dv⟩ : ∃ dv : Nat, dv < 5 ∧ ((nI Y) / 100) - ((nI Y) / 100) / 5 * 5 = nI dv := ⟨(Y / 100) % 5, by omega, (remN (a := (Y / 100)) (m := 5) (divN (a := Y) (m := 100) rfl (by omega) (by omega)) (by omega) (by omega))⟩
        refine V.es (st' := [.int (nI dv)]) (by rw [e_dv]) ?_
        refine v_istore C dL_law_222 (by decide) ?_
        refine v_iconst C (0) dL_law_224 (by decide) ?_
        refine v_istore C dL_law_225 (by decide) ?_
        exact V.lof 14 (law_sel C hX hN hl h hu hY hrn hrn2 hbs hdv hcc hss (fun r h1 h2 => law_disp C hX hN hl h hu hY h1 h2 hbs hdv hcc hss (nx _)))
set_option maxHeartbeats 4000000 in
set_option maxRecDepth 100000 in
theorem law_behind {p : Program} {l : Launch} {e : Env} {s : State} {m : MethodId} {args : Array Value} {below : List Frame} {meth : Method} {c : Code} {Q : State → Prop} {ret : Option FieldType} {G : va_G} {cy : Nat → ClassId} {A : Nat → Prop} {al ad : Nat → Nat} {x : Sg} (C : vC p s m args meth c cL_law 25 wsL_law RL ret G cy A) (hX : xT A s s.heap) (hN : xN s) (hl : l.stackTraces = false) {b0 k Y : Nat} {u n om t cells slots : Nat} (h : J u n om t x) (hu : u ≤ 1000) (hcc : cells + 8 ≤ 600086) (hss : slots + 48 ≤ 7301441) (nx : V p l e room_1 s m args below meth c 25 G A Q (wL cy al x (wD cy ad x)) cells slots 109 [some (.ref b0), some (.ref (ad 0)), some (.ref (al 0)), some (.ref (al 1)), some (.ref (al 2)), some (.ref (al 3)), some (.ref (al 4)), some (.ref (al 5)), some (.ref (al 6)), some (.ref (al 7)), some (.ref (al 8)), some (.ref (al 9)), some (.int 1), some (.int (nI (k + 1))), none, none, none, none, none, none, none, none, none, none, none] []) : V p l e room_1 s m args below meth c 25 G A Q (wL cy al x (wD cy ad x)) cells slots 1502 [some (.ref b0), some (.ref (ad 0)), some (.ref (al 0)), some (.ref (al 1)), some (.ref (al 2)), some (.ref (al 3)), some (.ref (al 4)), some (.ref (al 5)), some (.ref (al 6)), some (.ref (al 7)), some (.ref (al 8)), some (.ref (al 9)), some (.int 1), some (.int (nI k)), none, none, some (.int (nI Y)), none, none, none, none, none, none, none, none] [] := by
  have ht30 := h.t30
  have h20 := h.n20
  have ho60 := h.o60
  refine v_iload C dL_law_1502 rfl ?_
  refine v_if_eq C 1540 dL_law_1504 (by decide) (fun z => absurd z (by decide)) (fun z => ?_)
  refine v_iload C dL_law_1507 rfl ?_
  refine v_iconst C (3) dL_law_1509 (by decide) ?_
  refine v_irem C dL_law_1510 (by decide) ?_
  refine v_iconst C (2) dL_law_1511 (by decide) ?_
  refine v_icmp_lt C 1536 dL_law_1512 (by decide) (fun c2 => ?_) (fun c2 => ?_)
  · -- 1512 t: ((nI k) - (nI k) / 3 * 3) < 2
    refine v_iconst C (1) dL_law_1536 (by decide) ?_
    refine v_goto C 1541 dL_law_1537 (by decide) ?_
    refine v_istore C dL_law_1541 (by decide) ?_
    refine v_incN C dL_law_1543 rfl (by decide) ?_
    refine v_goto C 109 dL_law_1546 (by decide) ?_
    exact V.lof 16 nx
  · -- 1512 f: not ((nI k) - (nI k) / 3 * 3) < 2
    refine v_aload_n C dL_law_1515 rfl ?_
    refine v_aload C dL_law_1516 rfl ?_
    refine v_aload_n C dL_law_1518 rfl ?_
    refine v_aload_n C dL_law_1519 rfl ?_
    refine v_aload C dL_law_1520 rfl ?_
    refine v_aload C dL_law_1522 rfl ?_
    refine v_aload C dL_law_1524 rfl ?_
    refine v_aload C dL_law_1526 rfl ?_
    refine v_iload C dL_law_1528 rfl ?_
    refine v_sI C (k_L_isDepot l G cy al ad x n h.n1 h20 om h.o2 h.o60 h.ri.2.2.1 (nI Y)) rfl gL_law_L_isDepot (nA := 9) (by decide +kernel) rfl (by decide) (HC0 hcc hss) rfl (Nat.le_of_ble_eq_true rfl) dL_law_1530 ?_
    refine v_if_eq C 1540 dL_law_1533 (by decide) (fun z => absurd z (by decide)) (fun z => ?_)
    refine v_iconst C (1) dL_law_1536 (by decide) ?_
    refine v_goto C 1541 dL_law_1537 (by decide) ?_
    refine v_istore C dL_law_1541 (by decide) ?_
    refine v_incN C dL_law_1543 rfl (by decide) ?_
    refine v_goto C 109 dL_law_1546 (by decide) ?_
    exact V.lof 16 nx
set_option maxHeartbeats 4000000 in
set_option maxRecDepth 100000 in
theorem law_last {p : Program} {l : Launch} {e : Env} {s : State} {m : MethodId} {args : Array Value} {below : List Frame} {meth : Method} {c : Code} {Q : State → Prop} {ret : Option FieldType} {G : va_G} {cy : Nat → ClassId} {A : Nat → Prop} {al ad : Nat → Nat} {x : Sg} (C : vC p s m args meth c cL_law 25 wsL_law RL ret G cy A) (hX : xT A s s.heap) (hN : xN s) (hl : l.stackTraces = false) {b0 k : Nat} {u n om t cells slots : Nat} (h : J u n om t x) (hu : u ≤ 1000) (hcc : cells + 8 ≤ 600086) (hss : slots + 48 ≤ 7301441) (fin : ∀ (w : va_W) (cells slots : Nat) (lo : List (Option Value)), cells ≤ 600086 → slots ≤ 7301441 → V p l e room_1 s m args below meth c 25 G A Q w cells slots 1580 lo [.int 1]) : V p l e room_1 s m args below meth c 25 G A Q (wL cy al x (wD cy ad x)) cells slots 1549 [some (.ref b0), some (.ref (ad 0)), some (.ref (al 0)), some (.ref (al 1)), some (.ref (al 2)), some (.ref (al 3)), some (.ref (al 4)), some (.ref (al 5)), some (.ref (al 6)), some (.ref (al 7)), some (.ref (al 8)), some (.ref (al 9)), some (.int 1), some (.int (nI k)), none, none, none, none, none, none, none, none, none, none, none] [] := by
  have ht30 := h.t30
  have h20 := h.n20
  have ho60 := h.o60
  refine v_iload C dL_law_1549 rfl ?_
  refine v_if_eq C 1579 dL_law_1551 (by decide) (fun z => absurd z (by decide)) (fun z => ?_)
  refine v_aload_n C dL_law_1554 rfl ?_
  refine v_aload C dL_law_1555 rfl ?_
  refine v_aload_n C dL_law_1557 rfl ?_
  refine v_aload_n C dL_law_1558 rfl ?_
  refine v_aload C dL_law_1559 rfl ?_
  refine v_aload C dL_law_1561 rfl ?_
  refine v_aload C dL_law_1563 rfl ?_
  refine v_aload C dL_law_1565 rfl ?_
  refine v_bipush C (7) dL_law_1567 (by decide) ?_
  refine v_sI C (k_L_isDepot l G cy al ad x n h.n1 h20 om h.o2 h.o60 h.ri.2.2.1 7) rfl gL_law_L_isDepot (nA := 9) (by decide +kernel) rfl (by decide) (HC0 hcc hss) rfl (Nat.le_of_ble_eq_true rfl) dL_law_1569 ?_
  refine v_if_eq C 1579 dL_law_1572 (by decide) (fun z => absurd z (by decide)) (fun z => ?_)
  refine v_iconst C (1) dL_law_1575 (by decide) ?_
  refine v_goto C 1580 dL_law_1576 (by decide) ?_
  exact fin _ _ _ _ (by omega) (by omega)
