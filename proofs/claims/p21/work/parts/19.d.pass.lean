/-! THE LAW: minutes pass -/
theorem RI_okB {n t : Nat} {x : Sg} (h : RI n t x) : okB n x := fun k hk e => by
  rcases h.2.2.1 k hk with ⟨q, -⟩ | ⟨-, q, -⟩
  · rw [e] at q; rcases q with q | q <;> exact absurd q (by decide)
  · exact q
set_option maxHeartbeats 4000000 in
set_option maxRecDepth 100000 in
/-- passes(to): every minute up to T -/
theorem k_L_passes (l : Launch) (G : va_G) (cy : Nat → ClassId) (al : Nat → Nat) (x : Sg) (wr : va_W) (u n t T : Nat) (hu : u ≤ 1000) (hP : PI u n t x) (htT0 : t ≤ T) (hT : T ≤ 30000) : KV l G cy yL_passes wsL_passes 1 24 0 0 [.ref (al 9), .ref (al 0), .ref (al 1), .ref (al 2), .ref (al 3), .ref (al 4), .ref (al 6), .int (nI T)] (wL cy al x wr) (wL cy al (it (fun _ => fminute n) (T - t) x) wr) := by
  generalize hY : it (fun _ => fminute n) (T - t) x = Y
  refine KV_of (own := RL) (cc := cL_passes) (maxL := 12) (ret := none) (lo0 := [some (.ref (al 9)), some (.ref (al 0)), some (.ref (al 1)), some (.ref (al 2)), some (.ref (al 3)), some (.ref (al 4)), some (.ref (al 6)), some (.int (nI T)), none, none, none, none]) (by decide) rfl rfl (by simp [Value.category]) (Nat.le_of_ble_eq_true rfl) rfl (fun p e s m args below meth c A _ C => ?_)
  have key : ∀ (fu t : Nat) (x : Sg), T < t + fu → t ≤ T → PI u n t x → it (fun _ => fminute n) (T - t) x = Y → V p l e (vR 1 24 0 0) s m args below meth c 12 G A (QV below args s G cy A (wL cy al Y wr) 0 0) (wL cy al x wr) 0 0 0 [some (.ref (al 9)), some (.ref (al 0)), some (.ref (al 1)), some (.ref (al 2)), some (.ref (al 3)), some (.ref (al 4)), some (.ref (al 6)), some (.int (nI T)), none, none, none, none] [] := by
    intro fu
    induction fu with
    | zero => intro t x h1 h2; omega
    | succ fu ih =>
      intro t x h1 h2 hP hY
      have h20 := hP.2.1
      have hn := hP.1
      have h0 := hP.2.2.1
      refine v_aload_n C dL_passes_0 rfl ?_
      refine v_iconst C (0) dL_passes_1 (by decide) ?_
      refine vL_l_n0 C dL_passes_2 ?_
      refine V.es (st' := [.int (nI t)]) (by rw [h0]) ?_
      refine v_iload C dL_passes_3 rfl ?_
      refine v_icmp_ge C 295 dL_passes_5 (by decide) (fun c1 => ?_) (fun c1 => ?_)
      · -- 5 t: ¬ (nI t) < (nI T)
        have e9 : T = t := by
          rcases Nat.lt_or_ge t T with g | g
          · exact absurd ((nI_ltI (by omega) (by omega)).mpr g) c1
          · omega
        subst e9
        have e8 : x = Y := by rw [← hY, Nat.sub_self]; rfl
        subst e8
        exact v_vret C dL_passes_295
      · -- 5 f: not ¬ (nI t) < (nI T)
        have htT : t < T := (nI_ltI (by omega) (by omega)).mp c1
        refine v_iload C dL_passes_8 rfl ?_
        refine v_istore C dL_passes_10 (by decide) ?_
        refine v_iconst C (0) dL_passes_12 (by decide) ?_
        refine v_istore C dL_passes_13 (by decide) ?_
        refine V.loop (fun k : Nat => wL cy al x wr) (fun k : Nat => ([some (.ref (al 9)), some (.ref (al 0)), some (.ref (al 1)), some (.ref (al 2)), some (.ref (al 3)), some (.ref (al 4)), some (.ref (al 6)), some (.int (nI T)), some (.int (nxt x (nI t) (nI T) k)), some (.int (nI k)), none, none] : List (Option Value))) (fun k : Nat => True) (3 * n) ?_ trivial
        intro k hle_k hP_k ih_k
        try dsimp only at hP_k ih_k ⊢
        refine v_iload C dL_passes_15 rfl ?_
        refine v_iconst C (3) dL_passes_17 (by decide) ?_
        refine v_aload_n C dL_passes_18 rfl ?_
        refine v_iconst C (1) dL_passes_19 (by decide) ?_
        refine vL_l_n1 C dL_passes_20 ?_
        refine v_imul C dL_passes_21 ?_
        refine v_geN C k (3 * n) 69 dL_passes_22 (by decide) rfl (i3_0 hn) (by omega) (by omega) (fun c2 => ?_) (fun c2 => ?_)
        · -- loop 15 is over
          have e_k : 3 * n = k := by omega
          subst e_k
          obtain ⟨q, hq1, hq2, hqe, hqn⟩ := nxt_no hP.2.2.2.2.1 hP.2.1 htT hT
          refine V.el (lo' := [some (.ref (al 9)), some (.ref (al 0)), some (.ref (al 1)), some (.ref (al 2)), some (.ref (al 3)), some (.ref (al 4)), some (.ref (al 6)), some (.int (nI T)), some (.int (nI q)), some (.int (nI (3 * n))), none, none]) (by rw [hqe]) ?_
          refine v_iconst C (0) dL_passes_69 (by decide) ?_
          refine v_istore C dL_passes_70 (by decide) ?_
          refine V.loop (fun k : Nat => wL cy al (it (lload (nI t) (nI q)) k x) wr) (fun k : Nat => ([some (.ref (al 9)), some (.ref (al 0)), some (.ref (al 1)), some (.ref (al 2)), some (.ref (al 3)), some (.ref (al 4)), some (.ref (al 6)), some (.int (nI T)), some (.int (nI q)), some (.int (nI k)), none, none] : List (Option Value))) (fun k : Nat => True) 2 ?_ trivial
          intro k hle_k hP_k ih_k
          try dsimp only at hP_k ih_k ⊢
          have h0_k : it (lload (nI t) (nI q)) k x 0 0 = nI t := (it_f (fun c y => lload_f _ _ c y (by decide)) k x).trans h0
          have hp_k : okP (it (lload (nI t) (nI q)) k x) := okP_f (x := x) (fun c _ => Or.inl (it_f (fun c y => lload_f _ _ c y (by decide)) k x)) hP.2.2.2.2.2.1
          refine v_iload C dL_passes_72 rfl ?_
          refine v_iconst C (2) dL_passes_74 (by decide) ?_
          refine v_geN C k 2 135 dL_passes_75 (by decide) rfl rfl (by omega) (by omega) (fun c3 => ?_) (fun c3 => ?_)
          · -- loop 72 is over
            have e_k : 2 = k := by omega
            subst e_k
            refine v_aload_n C dL_passes_135 rfl ?_
            refine v_iconst C (0) dL_passes_136 (by decide) ?_
            refine v_iload C dL_passes_137 rfl ?_
            refine vL_s_n0 C dL_passes_139 ?_
            obtain ⟨z1, hz1⟩ : ∃ z1 : Sg, z1 = su (it (lload (nI t) (nI q)) 2 x) 0 0 (nI q) := ⟨_, rfl⟩
            rw [← hz1]
            have hn_z1 : z1 1 0 = nI n := by rw [hz1, su_f _ _ _ _ (by decide), it_f (fun c y => lload_f _ _ c y (by decide))]; exact hn
            have h0_z1 : z1 0 0 = nI q := by rw [hz1, su_s]
            have hB_z1 : okB n z1 := okB_f (x := x) (fun k _ e => ⟨by rw [hz1, su_f _ _ _ _ (by decide), it_f (fun c y => lload_f _ _ c y (by decide))] at e; exact e, by rw [hz1, su_f _ _ _ _ (by decide), it_f (fun c y => lload_f _ _ c y (by decide))]⟩) (RI_okB hP.2.2.2.2.1)
            refine v_iconst C (0) dL_passes_140 (by decide) ?_
            refine v_istore C dL_passes_141 (by decide) ?_
            refine V.loop (fun k : Nat => wL cy al (it send_ k z1) wr) (fun k : Nat => ([some (.ref (al 9)), some (.ref (al 0)), some (.ref (al 1)), some (.ref (al 2)), some (.ref (al 3)), some (.ref (al 4)), some (.ref (al 6)), some (.int (nI T)), some (.int (nI q)), some (.int (nI k)), none, none] : List (Option Value))) (fun k : Nat => True) n ?_ trivial
            intro k hle_k hP_k ih_k
            try dsimp only at hP_k ih_k ⊢
            have hn_k : it send_ k z1 1 0 = nI n := (it_f (fun c y => send__f c y (by decide)) k z1).trans hn_z1
            have h0_k : it send_ k z1 0 0 = nI q := (it_f (fun c y => send__f c y (by decide)) k z1).trans h0_z1
            refine v_iload C dL_passes_143 rfl ?_
            refine v_aload_n C dL_passes_145 rfl ?_
            refine v_iconst C (1) dL_passes_146 (by decide) ?_
            refine vL_l_n1 C dL_passes_147 ?_
            refine v_geN C k n 190 dL_passes_148 (by decide) rfl hn_k (by omega) (by omega) (fun c4 => ?_) (fun c4 => ?_)
            · -- loop 143 is over
              have e_k : n = k := by omega
              subst e_k
              obtain ⟨z2, hz2⟩ : ∃ z2 : Sg, z2 = it send_ n z1 := ⟨_, rfl⟩
              rw [← hz2]
              have hn_z2 : z2 1 0 = nI n := by rw [hz2, it_f (fun c y => send__f c y (by decide))]; exact hn_z1
              have h0_z2 : z2 0 0 = nI q := by rw [hz2, it_f (fun c y => send__f c y (by decide))]; exact h0_z1
              have hB_z2 : okB n z2 := by rw [hz2]; exact okB_send hB_z1 n
              refine v_iconst C (0) dL_passes_190 (by decide) ?_
              refine v_istore C dL_passes_191 (by decide) ?_
              refine V.loop (fun k : Nat => wL cy al (it sstart k z2) wr) (fun k : Nat => ([some (.ref (al 9)), some (.ref (al 0)), some (.ref (al 1)), some (.ref (al 2)), some (.ref (al 3)), some (.ref (al 4)), some (.ref (al 6)), some (.int (nI T)), some (.int (nI q)), some (.int (nI k)), none, none] : List (Option Value))) (fun k : Nat => True) n ?_ trivial
              intro k hle_k hP_k ih_k
              try dsimp only at hP_k ih_k ⊢
              have hn_k : it sstart k z2 1 0 = nI n := (it_f (fun c y => sstart_f c y (by decide) (by decide) (by decide) (by decide) (by decide)) k z2).trans hn_z2
              have h0_k : it sstart k z2 0 0 = nI q := (it_f (fun c y => sstart_f c y (by decide) (by decide) (by decide) (by decide) (by decide)) k z2).trans h0_z2
              have hB_k : okB n (it sstart k z2) := sstart_okB hB_z2 k
              refine v_iload C dL_passes_193 rfl ?_
              refine v_aload_n C dL_passes_195 rfl ?_
              refine v_iconst C (1) dL_passes_196 (by decide) ?_
              refine vL_l_n1 C dL_passes_197 ?_
              refine v_geN C k n 292 dL_passes_198 (by decide) rfl hn_k (by omega) (by omega) (fun c5 => ?_) (fun c5 => ?_)
              · -- loop 193 is over
                have e_k : n = k := by omega
                subst e_k
                refine v_goto C 0 dL_passes_292 (by decide) ?_
                have eR : it sstart n z2 = it (fun _ => fminute n) (q - t) x := by rw [hz2, hz1]; exact lround_eq hP.2.2.2.2.2.1 hP.2.2.2.2.2.2.2.c100 h0 hq1 (by omega) hqn
                rw [eR]
                have hP2 := PI_mins hP hu (q - t) (by omega)
                rw [show t + (q - t) = q by omega] at hP2
                exact V.lof 8 (V.lof 9 (ih q _ (by omega) (by omega) hP2 (by rw [it_c, show q - t + (T - q) = T - t by omega]; exact hY)))
              · have hk : k < n := c5
                refine v_aload_n C dL_passes_201 rfl ?_
                refine v_iconst C (3) dL_passes_202 (by decide) ?_
                refine v_iload C dL_passes_203 rfl ?_
                refine v_imul C dL_passes_205 ?_
                refine vL_l_r0 C k rfl (by omega) dL_passes_206 ?_
                refine v_iload C dL_passes_207 rfl ?_
                refine v_icmp_ne C 258 dL_passes_209 (by decide) (fun c6 => ?_) (fun c6 => ?_)
                · -- 209 t: ¬ ((it sstart k z2) 6 k) = (nI q)
                  refine v_aload_n C dL_passes_258 rfl ?_
                  refine v_iconst C (3) dL_passes_259 (by decide) ?_
                  refine v_iload C dL_passes_260 rfl ?_
                  refine v_imul C dL_passes_262 ?_
                  refine vL_l_r0 C k rfl (by omega) dL_passes_263 ?_
                  refine v_iload C dL_passes_264 rfl ?_
                  refine v_icmp_ne C 286 dL_passes_266 (by decide) (fun z => ?_) (fun z => absurd z c6)
                  refine v_incN C dL_passes_286 rfl (by decide) ?_
                  refine v_goto C 193 dL_passes_289 (by decide) ?_
                  have q9 := ih_k hk trivial
                  have e : it sstart (k + 1) z2 = it sstart k z2 := sstart_no (fun z => c6 (z.trans h0_k))
                  rw [e] at q9
                  exact q9
                · -- 209 f: not ¬ ((it sstart k z2) 6 k) = (nI q)
                  refine v_aload_n C dL_passes_212 rfl ?_
                  refine v_iload C dL_passes_213 rfl ?_
                  refine vL_l_s C k rfl (by omega) dL_passes_215 ?_
                  refine v_iconst C (1) dL_passes_216 (by decide) ?_
                  refine v_icmp_ne C 258 dL_passes_217 (by decide) (fun c8 => ?_) (fun c8 => ?_)
                  · -- 217 t: ¬ ((it sstart k z2) 9 k) = 1
                    refine v_aload_n C dL_passes_258 rfl ?_
                    refine v_iconst C (3) dL_passes_259 (by decide) ?_
                    refine v_iload C dL_passes_260 rfl ?_
                    refine v_imul C dL_passes_262 ?_
                    refine vL_l_r0 C k rfl (by omega) dL_passes_263 ?_
                    refine v_iload C dL_passes_264 rfl ?_
                    refine v_icmp_ne C 286 dL_passes_266 (by decide) (fun z => absurd z (Classical.not_not.mpr c6)) (fun z => ?_)
                    refine v_aload_n C dL_passes_269 rfl ?_
                    refine v_iload C dL_passes_270 rfl ?_
                    refine vL_l_s C k rfl (by omega) dL_passes_272 ?_
                    refine v_if_ne C 286 dL_passes_273 (by decide) (fun c10 => ?_) (fun c10 => ?_)
                    · -- 273 t: ¬ ((it sstart k z2) 9 k) = 0
                      refine v_incN C dL_passes_286 rfl (by decide) ?_
                      refine v_goto C 193 dL_passes_289 (by decide) ?_
                      have q9 := ih_k hk trivial
                      have e : it sstart (k + 1) z2 = it sstart k z2 := sstart_else c8 c10
                      rw [e] at q9
                      exact q9
                    · -- 273 f: not ¬ ((it sstart k z2) 9 k) = 0
                      refine v_aload_n C dL_passes_276 rfl ?_
                      refine v_aload_n C dL_passes_277 rfl ?_
                      refine v_aload C dL_passes_278 rfl ?_
                      refine v_iload C dL_passes_280 rfl ?_
                      refine v_iconst C (4) dL_passes_282 (by decide) ?_
                      refine v_sV C (k_L_turns l G cy al (it sstart k z2) wr k (by omega) 4) rfl gL_passes_L_turns (nA := 5) (by decide +kernel) rfl (by decide) (by decide) rfl (Nat.le_of_ble_eq_true rfl) dL_passes_283 ?_
                      refine v_incN C dL_passes_286 rfl (by decide) ?_
                      refine v_goto C 193 dL_passes_289 (by decide) ?_
                      have q9 := ih_k hk trivial
                      have e : it sstart (k + 1) z2 = fdrop (it sstart k z2) k 4 := sstart_lost (c6.trans h0_k.symm) c10
                      rw [e] at q9
                      exact q9
                  · -- 217 f: not ¬ ((it sstart k z2) 9 k) = 1
                    obtain ⟨b, hb5, hbe⟩ := hB_k k hk c8
                    refine v_aload_n C dL_passes_220 rfl ?_
                    refine v_iload C dL_passes_221 rfl ?_
                    refine v_iconst C (2) dL_passes_223 (by decide) ?_
                    refine vL_s_s C k rfl (by omega) dL_passes_224 ?_
                    refine v_aload C dL_passes_225 rfl ?_
                    refine v_iconst C (2) dL_passes_227 (by decide) ?_
                    refine v_aload_n C dL_passes_228 rfl ?_
                    refine v_iload C dL_passes_229 rfl ?_
                    refine vL_l_w C k rfl (by omega) dL_passes_231 ?_
                    refine V.es (st' := [.int ((it sstart k z2) 10 k + 1), .int 2, .ref (al 4)]) (by rw [su_f _ _ _ _ (by decide)]) ?_
                    refine v_imul C dL_passes_232 ?_
                    refine v_iconst C (2) dL_passes_233 (by decide) ?_
                    refine v_isub C dL_passes_234 ?_
                    refine v_dup2 C dL_passes_235 rfl rfl ?_
                    refine vL_l_bw C b hbe (by omega) dL_passes_236 ?_
                    refine V.es (st' := [.int ((it sstart k z2) 12 b), .int ((2 * ((it sstart k z2) 10 k + 1)) - 2), .ref (al 4)]) (by rw [su_f _ _ _ _ (by decide)]) ?_
                    refine v_aload_n C dL_passes_237 rfl ?_
                    refine v_iconst C (3) dL_passes_238 (by decide) ?_
                    refine v_iload C dL_passes_239 rfl ?_
                    refine v_imul C dL_passes_241 ?_
                    refine v_iconst C (2) dL_passes_242 (by decide) ?_
                    refine v_iadd C dL_passes_243 ?_
                    refine vL_l_r2 C k rfl (by omega) dL_passes_244 ?_
                    refine V.es (st' := [.int ((it sstart k z2) 8 k), .int ((it sstart k z2) 12 b), .int ((2 * ((it sstart k z2) 10 k + 1)) - 2), .ref (al 4)]) (by rw [su_f _ _ _ _ (by decide)]) ?_
                    refine v_isub C dL_passes_245 ?_
                    refine vL_s_bw C b hbe (by omega) dL_passes_246 ?_
                    refine v_aload C dL_passes_247 rfl ?_
                    refine v_aload_n C dL_passes_249 rfl ?_
                    refine v_iload C dL_passes_250 rfl ?_
                    refine vL_l_w C k rfl (by omega) dL_passes_252 ?_
                    refine V.es (st' := [.int ((it sstart k z2) 10 k + 1), .ref (al 6)]) (by rw [su_f _ _ _ _ (by decide), su_f _ _ _ _ (by decide)]) ?_
                    refine v_iconst C (1) dL_passes_253 (by decide) ?_
                    refine v_isub C dL_passes_254 ?_
                    refine V.es (st' := [.int ((it sstart k z2) 10 k), .ref (al 6)]) (by rw [Int32.add_sub_cancel]) ?_
                    refine v_sV C (k_L_leaves l G cy al (su (su (it sstart k z2) 9 k 2) 12 b (((it sstart k z2) 12 b) - ((it sstart k z2) 8 k))) wr ((it sstart k z2) 10 k)) rfl gL_passes_L_leaves (nA := 2) (by decide +kernel) rfl (by decide) (by decide) rfl (Nat.le_of_ble_eq_true rfl) dL_passes_255 ?_
                    refine v_aload_n C dL_passes_258 rfl ?_
                    refine v_iconst C (3) dL_passes_259 (by decide) ?_
                    refine v_iload C dL_passes_260 rfl ?_
                    refine v_imul C dL_passes_262 ?_
                    refine vL_l_r0 C k rfl (by omega) dL_passes_263 ?_
                    refine V.es (st' := [.int ((it sstart k z2) 6 k)]) (by rw [funplug_f _ _ (by decide), su_f _ _ _ _ (by decide), su_f _ _ _ _ (by decide)]) ?_
                    refine v_iload C dL_passes_264 rfl ?_
                    refine v_icmp_ne C 286 dL_passes_266 (by decide) (fun z => absurd z (Classical.not_not.mpr c6)) (fun z => ?_)
                    refine v_aload_n C dL_passes_269 rfl ?_
                    refine v_iload C dL_passes_270 rfl ?_
                    refine vL_l_s C k rfl (by omega) dL_passes_272 ?_
                    refine V.es (st' := [.int 2]) (by rw [funplug_f _ _ (by decide), su_f _ _ _ _ (by decide), su_s]) ?_
                    refine v_if_ne C 286 dL_passes_273 (by decide) (fun z => ?_) (fun z => absurd z (by decide))
                    refine v_incN C dL_passes_286 rfl (by decide) ?_
                    refine v_goto C 193 dL_passes_289 (by decide) ?_
                    have q9 := ih_k hk trivial
                    have e : it sstart (k + 1) z2 = funplug (su (su (it sstart k z2) 9 k 2) 12 b (((it sstart k z2) 12 b) - ((it sstart k z2) 8 k))) ((it sstart k z2) 10 k) := (sstart_go (c6.trans h0_k.symm) c8).trans (fsend_go hb5 hbe)
                    rw [e] at q9
                    exact q9
            · have hk : k < n := c4
              refine v_aload_n C dL_passes_151 rfl ?_
              refine v_iload C dL_passes_152 rfl ?_
              refine v_aload_n C dL_passes_154 rfl ?_
              refine v_iload C dL_passes_155 rfl ?_
              refine vL_l_s C k rfl (by omega) dL_passes_157 ?_
              refine v_iconst C (2) dL_passes_158 (by decide) ?_
              refine v_icmp_ne C 179 dL_passes_159 (by decide) (fun c13 => ?_) (fun c13 => ?_)
              · -- 159 t: ¬ ((it send_ k z1) 9 k) = 2
                refine v_aload_n C dL_passes_179 rfl ?_
                refine v_iload C dL_passes_180 rfl ?_
                refine vL_l_s C k rfl (by omega) dL_passes_182 ?_
                refine vL_s_s C k rfl (by omega) dL_passes_183 ?_
                refine v_incN C dL_passes_184 rfl (by decide) ?_
                refine v_goto C 143 dL_passes_187 (by decide) ?_
                have q9 := ih_k hk trivial
                have e : it send_ (k + 1) z1 = su (it send_ k z1) 9 k ((it send_ k z1) 9 k) := (show send_ k (it send_ k z1) = su (it send_ k z1) 9 k ((it send_ k z1) 9 k) from (pif_f (fun z => c13 z.1)).trans (su_id _ _ _).symm)
                rw [e] at q9
                exact q9
              · -- 159 f: not ¬ ((it send_ k z1) 9 k) = 2
                refine v_aload_n C dL_passes_162 rfl ?_
                refine v_iconst C (3) dL_passes_163 (by decide) ?_
                refine v_iload C dL_passes_164 rfl ?_
                refine v_imul C dL_passes_166 ?_
                refine v_iconst C (1) dL_passes_167 (by decide) ?_
                refine v_iadd C dL_passes_168 ?_
                refine vL_l_r1 C k rfl (by omega) dL_passes_169 ?_
                refine v_iload C dL_passes_170 rfl ?_
                refine v_icmp_ne C 179 dL_passes_172 (by decide) (fun c14 => ?_) (fun c14 => ?_)
                · -- 172 t: ¬ ((it send_ k z1) 7 k) = (nI q)
                  refine v_aload_n C dL_passes_179 rfl ?_
                  refine v_iload C dL_passes_180 rfl ?_
                  refine vL_l_s C k rfl (by omega) dL_passes_182 ?_
                  refine vL_s_s C k rfl (by omega) dL_passes_183 ?_
                  refine v_incN C dL_passes_184 rfl (by decide) ?_
                  refine v_goto C 143 dL_passes_187 (by decide) ?_
                  have q9 := ih_k hk trivial
                  have e : it send_ (k + 1) z1 = su (it send_ k z1) 9 k ((it send_ k z1) 9 k) := (show send_ k (it send_ k z1) = su (it send_ k z1) 9 k ((it send_ k z1) 9 k) from (pif_f (fun z => c14 (z.2.trans h0_k))).trans (su_id _ _ _).symm)
                  rw [e] at q9
                  exact q9
                · -- 172 f: not ¬ ((it send_ k z1) 7 k) = (nI q)
                  refine v_iconst C (3) dL_passes_175 (by decide) ?_
                  refine v_goto C 183 dL_passes_176 (by decide) ?_
                  refine vL_s_s C k rfl (by omega) dL_passes_183 ?_
                  refine v_incN C dL_passes_184 rfl (by decide) ?_
                  refine v_goto C 143 dL_passes_187 (by decide) ?_
                  have q9 := ih_k hk trivial
                  have e : it send_ (k + 1) z1 = su (it send_ k z1) 9 k 3 := (show send_ k (it send_ k z1) = su (it send_ k z1) 9 k 3 from pif_t ⟨c13, c14.trans h0_k.symm⟩)
                  rw [e] at q9
                  exact q9
          · have hk : k < 2 := c3
            refine v_aload C dL_passes_78 rfl ?_
            refine v_iload C dL_passes_80 rfl ?_
            refine vL_l_g C k rfl (by omega) dL_passes_82 ?_
            refine v_iconst C (1) dL_passes_83 (by decide) ?_
            refine v_isub C dL_passes_84 ?_
            refine V.es (st' := [.int ((it (lload (nI t) (nI q)) k x) 15 k)]) (by rw [Int32.add_sub_cancel]) ?_
            refine v_istore C dL_passes_85 (by decide) ?_
            refine v_iload C dL_passes_87 rfl ?_
            refine v_if_lt C 129 dL_passes_89 (by decide) (fun c15 => ?_) (fun c15 => ?_)
            · -- 89 t: ((it (lload (nI t) (nI q)) k x) 15 k) < 0
              refine v_incN C dL_passes_129 rfl (by decide) ?_
              refine v_goto C 72 dL_passes_132 (by decide) ?_
              have q9 := ih_k hk trivial
              have e : it (lload (nI t) (nI q)) (k + 1) x = it (lload (nI t) (nI q)) k x := by
                show lload (nI t) (nI q) k (it (lload (nI t) (nI q)) k x) = it (lload (nI t) (nI q)) k x
                simp [lload, pif, h0_k, c15]
              rw [e] at q9
              exact (V.lof 10 (V.lof 11 q9))
            · -- 89 f: not ((it (lload (nI t) (nI q)) k x) 15 k) < 0
              obtain ⟨hb, hb_lt⟩ := ix_of (N := 5) (by decide) c15 (okP_lt hp_k hk)
              refine v_aload C dL_passes_92 rfl ?_
              refine v_iconst C (2) dL_passes_94 (by decide) ?_
              refine v_iload C dL_passes_95 rfl ?_
              refine v_imul C dL_passes_97 ?_
              refine vL_l_b0 C (((it (lload (nI t) (nI q)) k x) 15 k).toNatClampNeg) hb (by omega) dL_passes_98 ?_
              refine v_iload C dL_passes_99 rfl ?_
              refine v_iadd C dL_passes_101 ?_
              refine v_aload_n C dL_passes_102 rfl ?_
              refine v_iconst C (0) dL_passes_103 (by decide) ?_
              refine vL_l_n0 C dL_passes_104 ?_
              refine V.es (st' := [.int (nI t), .int (((it (lload (nI t) (nI q)) k x) 12 (((it (lload (nI t) (nI q)) k x) 15 k).toNatClampNeg)) + (nI q))]) (by rw [h0_k]) ?_
              refine v_isub C dL_passes_105 ?_
              refine v_istore C dL_passes_106 (by decide) ?_
              refine v_aload C dL_passes_108 rfl ?_
              refine v_iconst C (2) dL_passes_110 (by decide) ?_
              refine v_iload C dL_passes_111 rfl ?_
              refine v_imul C dL_passes_113 ?_
              refine v_iload C dL_passes_114 rfl ?_
              refine v_bipush C (100) dL_passes_116 (by decide) ?_
              refine v_icmp_le C 126 dL_passes_118 (by decide) (fun c16 => ?_) (fun c16 => ?_)
              · -- 118 t: ¬ 100 < ((((it (lload (nI t) (nI q)) k x) 12 (((it (lload (nI t) (nI q)) k x) 15 k).toNatClampNeg)) + (nI q)) - (nI t))
                refine v_iload C dL_passes_126 rfl ?_
                refine vL_s_b0 C (((it (lload (nI t) (nI q)) k x) 15 k).toNatClampNeg) hb (by omega) dL_passes_128 ?_
                refine v_incN C dL_passes_129 rfl (by decide) ?_
                refine v_goto C 72 dL_passes_132 (by decide) ?_
                have q9 := ih_k hk trivial
                have e : it (lload (nI t) (nI q)) (k + 1) x = su (it (lload (nI t) (nI q)) k x) 12 (((it (lload (nI t) (nI q)) k x) 15 k).toNatClampNeg) ((((it (lload (nI t) (nI q)) k x) 12 (((it (lload (nI t) (nI q)) k x) 15 k).toNatClampNeg)) + (nI q)) - (nI t)) := by
                  show lload (nI t) (nI q) k (it (lload (nI t) (nI q)) k x) = su (it (lload (nI t) (nI q)) k x) 12 (((it (lload (nI t) (nI q)) k x) 15 k).toNatClampNeg) ((((it (lload (nI t) (nI q)) k x) 12 (((it (lload (nI t) (nI q)) k x) 15 k).toNatClampNeg)) + (nI q)) - (nI t))
                  simp [lload, pif, h0_k, c15, c16]
                rw [e] at q9
                exact (V.lof 10 (V.lof 11 q9))
              · -- 118 f: not ¬ 100 < ((((it (lload (nI t) (nI q)) k x) 12 (((it (lload (nI t) (nI q)) k x) 15 k).toNatClampNeg)) + (nI q)) - (nI t))
                refine v_bipush C (100) dL_passes_121 (by decide) ?_
                refine v_goto C 128 dL_passes_123 (by decide) ?_
                refine vL_s_b0 C (((it (lload (nI t) (nI q)) k x) 15 k).toNatClampNeg) hb (by omega) dL_passes_128 ?_
                refine v_incN C dL_passes_129 rfl (by decide) ?_
                refine v_goto C 72 dL_passes_132 (by decide) ?_
                have q9 := ih_k hk trivial
                have e : it (lload (nI t) (nI q)) (k + 1) x = su (it (lload (nI t) (nI q)) k x) 12 (((it (lload (nI t) (nI q)) k x) 15 k).toNatClampNeg) 100 := by
                  show lload (nI t) (nI q) k (it (lload (nI t) (nI q)) k x) = su (it (lload (nI t) (nI q)) k x) 12 (((it (lload (nI t) (nI q)) k x) 15 k).toNatClampNeg) 100
                  simp [lload, pif, h0_k, c15, c16]
                rw [e] at q9
                exact (V.lof 10 (V.lof 11 q9))
        · have hk : k < 3 * n := c2
          refine v_iload C dL_passes_25 rfl ?_
          refine v_iconst C (3) dL_passes_27 (by decide) ?_
          refine v_irem C dL_passes_28 (by decide) ?_
          refine v_iconst C (2) dL_passes_29 (by decide) ?_
          refine v_icmp_ge C 59 dL_passes_30 (by decide) (fun c17 => ?_) (fun c17 => ?_)
          · -- 30 t: ¬ ((nI k) - (nI k) / 3 * 3) < 2
            refine v_iload C dL_passes_59 rfl ?_
            refine v_istore C dL_passes_61 (by decide) ?_
            refine v_incN C dL_passes_63 rfl (by decide) ?_
            refine v_goto C 15 dL_passes_66 (by decide) ?_
            have q := ih_k hk trivial
            have e : nxt x (nI t) (nI T) (k + 1) = nxt x (nI t) (nI T) k := by simp [nxt, pif, c1, c17]
            rw [e] at q
            exact q
          · -- 30 f: not ¬ ((nI k) - (nI k) / 3 * 3) < 2
            refine v_aload_n C dL_passes_33 rfl ?_
            refine v_iload C dL_passes_34 rfl ?_
            refine vL_l_rq C k rfl (by omega) dL_passes_36 ?_
            refine v_aload_n C dL_passes_37 rfl ?_
            refine v_iconst C (0) dL_passes_38 (by decide) ?_
            refine vL_l_n0 C dL_passes_39 ?_
            refine V.es (st' := [.int (nI t), .int (rA x k)]) (by rw [h0]) ?_
            refine v_icmp_le C 59 dL_passes_40 (by decide) (fun c18 => ?_) (fun c18 => ?_)
            · -- 40 t: ¬ (nI t) < (rA x k)
              refine v_iload C dL_passes_59 rfl ?_
              refine v_istore C dL_passes_61 (by decide) ?_
              refine v_incN C dL_passes_63 rfl (by decide) ?_
              refine v_goto C 15 dL_passes_66 (by decide) ?_
              have q := ih_k hk trivial
              have e : nxt x (nI t) (nI T) (k + 1) = nxt x (nI t) (nI T) k := by simp [nxt, pif, c1, c17, c18]
              rw [e] at q
              exact q
            · -- 40 f: not ¬ (nI t) < (rA x k)
              refine v_aload_n C dL_passes_43 rfl ?_
              refine v_iload C dL_passes_44 rfl ?_
              refine vL_l_rq C k rfl (by omega) dL_passes_46 ?_
              refine v_iload C dL_passes_47 rfl ?_
              refine v_icmp_ge C 59 dL_passes_49 (by decide) (fun c19 => ?_) (fun c19 => ?_)
              · -- 49 t: ¬ (rA x k) < (nxt x (nI t) (nI T) k)
                refine v_iload C dL_passes_59 rfl ?_
                refine v_istore C dL_passes_61 (by decide) ?_
                refine v_incN C dL_passes_63 rfl (by decide) ?_
                refine v_goto C 15 dL_passes_66 (by decide) ?_
                have q := ih_k hk trivial
                have e : nxt x (nI t) (nI T) (k + 1) = nxt x (nI t) (nI T) k := by simp [nxt, pif, c1, c17, c18, c19]
                rw [e] at q
                exact q
              · -- 49 f: not ¬ (rA x k) < (nxt x (nI t) (nI T) k)
                refine v_aload_n C dL_passes_52 rfl ?_
                refine v_iload C dL_passes_53 rfl ?_
                refine vL_l_rq C k rfl (by omega) dL_passes_55 ?_
                refine v_goto C 61 dL_passes_56 (by decide) ?_
                refine v_istore C dL_passes_61 (by decide) ?_
                refine v_incN C dL_passes_63 rfl (by decide) ?_
                refine v_goto C 15 dL_passes_66 (by decide) ?_
                have q := ih_k hk trivial
                have e : nxt x (nI t) (nI T) (k + 1) = rA x k := by simp [nxt, pif, c1, c17, c18, c19]
                rw [e] at q
                exact q
  exact key (T - t + 1) t x (by omega) htT0 hP hY
