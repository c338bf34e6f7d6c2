/-! THE LAW: its order -/
set_option maxHeartbeats 4000000 in
set_option maxRecDepth 100000 in
theorem law_o3 {p : Program} {l : Launch} {e : Env} {s : State} {m : MethodId} {args : Array Value} {below : List Frame} {meth : Method} {c : Code} {Q : State → Prop} {ret : Option FieldType} {G : va_G} {cy : Nat → ClassId} {A : Nat → Prop} {al ad : Nat → Nat} {x : Sg} (C : vC p s m args meth c cL_law 25 wsL_law RL ret G cy A) (hX : xT A s s.heap) (hN : xN s) (hl : l.stackTraces = false) {b0 k Y rn bs dv : Nat} {kv : Int32} {u n om t cells slots : Nat} (h : J u n om t x) (hu : u ≤ 1000) (hY : Y < 2 ^ 31) (hrn : rn < 20) (hrn2 : 0 < n → rn < n) (hbs : bs < 5) (hdv : dv < 5) (hcc : cells + 8 ≤ 600086) (hss : slots + 48 ≤ 7301441)  {dp mk : Nat} (hdp : dp < 2) (hmk : mk < 1000) (ho6 : om < 60) (nx : ∀ (n' om' t' : Nat) (x' : Sg), J (u + 1) n' om' t' x' → V p l e room_1 s m args below meth c 25 G A Q (wL cy al x' (wD cy ad x')) (cells + 8) (slots + 48) 1502 [some (.ref b0), some (.ref (ad 0)), some (.ref (al 0)), some (.ref (al 1)), some (.ref (al 2)), some (.ref (al 3)), some (.ref (al 4)), some (.ref (al 5)), some (.ref (al 6)), some (.ref (al 7)), some (.ref (al 8)), some (.ref (al 9)), some (.int 1), some (.int (nI k)), none, none, some (.int (nI Y)), none, none, none, none, none, none, none, none] []) : V p l e room_1 s m args below meth c 25 G A Q (wL cy al x (wD cy ad x)) cells slots 834 [some (.ref b0), some (.ref (ad 0)), some (.ref (al 0)), some (.ref (al 1)), some (.ref (al 2)), some (.ref (al 3)), some (.ref (al 4)), some (.ref (al 5)), some (.ref (al 6)), some (.ref (al 7)), some (.ref (al 8)), some (.ref (al 9)), some (.int 1), some (.int (nI k)), none, some (.int kv), some (.int (nI Y)), some (.int (nI rn)), some (.int (nI bs)), some (.int (nI dv)), some (.int (nI dp)), some (.int (nI mk)), some (.int (x 17 mk)), none, none] [] := by
  have ht30 := h.t30
  have h20 := h.n20
  have ho60 := h.o60
  refine V.join (wL cy al x (wD cy ad x)) 899 (fun _ => ([some (.ref b0), some (.ref (ad 0)), some (.ref (al 0)), some (.ref (al 1)), some (.ref (al 2)), some (.ref (al 3)), some (.ref (al 4)), some (.ref (al 5)), some (.ref (al 6)), some (.ref (al 7)), some (.ref (al 8)), some (.ref (al 9)), some (.int 1), some (.int (nI k)), none, some (.int kv), some (.int (nI Y)), some (.int (nI rn)), some (.int (nI bs)), some (.int (nI dv)), some (.int (nI dp)), some (.int (nI mk)), some (.int (x 17 mk)), none, none] : List (Option Value))) (fun v => (.int v :: [] : List Value)) (b2i (CAN n x dp bs dv rn)) (fun J1 => ?_) ?_
  · -- up to the join
    refine v_aload C dL_law_834 rfl ?_
    refine v_iconst C (1) dL_law_836 (by decide) ?_
    refine vL_l_n1 C dL_law_837 ?_
    refine v_if_le C 898 dL_law_838 (by decide) (fun c1 => ?_) (fun c1 => ?_)
    · -- 838 t: ¬ 0 < (x 1 0)
      refine v_iconst C (0) dL_law_898 (by decide) ?_
      refine J1 _ ?_
      exact (b2i_f (fun z => c1 ((pos_iff h).mpr z.1))).symm
    · -- 838 f: not ¬ 0 < (x 1 0)
      refine v_aload C dL_law_841 rfl ?_
      refine v_sI C (k_L_leader l G cy al x (wD cy ad x)) rfl gL_law_L_leader (nA := 1) (by decide +kernel) rfl (by decide) (HC0 hcc hss) rfl (Nat.le_of_ble_eq_true rfl) dL_law_843 ?_
      refine v_iload C dL_law_846 rfl ?_
      refine v_icmp_ne C 898 dL_law_848 (by decide) (fun c2 => ?_) (fun c2 => ?_)
      · -- 848 t: ¬ (flead x) = (nI dp)
        refine v_iconst C (0) dL_law_898 (by decide) ?_
        refine J1 _ ?_
        exact (b2i_f (fun z => c2 z.2.1)).symm
      · -- 848 f: not ¬ (flead x) = (nI dp)
        refine v_aload_n C dL_law_851 rfl ?_
        refine v_iload C dL_law_852 rfl ?_
        refine vL_l_s C rn rfl (by omega) dL_law_854 ?_
        refine v_if_ne C 898 dL_law_855 (by decide) (fun c3 => ?_) (fun c3 => ?_)
        · -- 855 t: ¬ (x 9 rn) = 0
          refine v_iconst C (0) dL_law_898 (by decide) ?_
          refine J1 _ ?_
          exact (b2i_f (fun z => c3 z.2.2.1)).symm
        · -- 855 f: not ¬ (x 9 rn) = 0
          refine v_aload C dL_law_858 rfl ?_
          refine v_aload_n C dL_law_860 rfl ?_
          refine v_aload_n C dL_law_861 rfl ?_
          refine v_aload C dL_law_862 rfl ?_
          refine v_aload C dL_law_864 rfl ?_
          refine v_iload C dL_law_866 rfl ?_
          refine v_iload C dL_law_868 rfl ?_
          refine v_sI C (k_L_fitsBus l G cy al x (wD cy ad x) n h.n1 h20 bs (by omega) rn (by omega)) rfl gL_law_L_fitsBus (nA := 7) (by decide +kernel) rfl (by decide) (HC0 hcc hss) rfl (Nat.le_of_ble_eq_true rfl) dL_law_870 ?_
          refine v_if_eq C 898 dL_law_873 (by decide) (fun c4 => ?_) (fun c4 => ?_)
          · -- 873 t: (b2i (lbf n x bs rn)) = 0
            replace c4 := b2i_0.mp c4
            refine v_iconst C (0) dL_law_898 (by decide) ?_
            refine J1 _ ?_
            exact (b2i_f (fun z => c4 z.2.2.2.1)).symm
          · -- 873 f: not (b2i (lbf n x bs rn)) = 0
            replace c4 := Classical.not_not.mp (fun z => c4 (b2i_0.mpr z))
            refine v_aload C dL_law_876 rfl ?_
            refine v_aload_n C dL_law_878 rfl ?_
            refine v_aload_n C dL_law_879 rfl ?_
            refine v_aload C dL_law_880 rfl ?_
            refine v_aload C dL_law_882 rfl ?_
            refine v_iload C dL_law_884 rfl ?_
            refine v_iload C dL_law_886 rfl ?_
            refine v_sI C (k_L_fitsDriver l G cy al x (wD cy ad x) n h.n1 h20 dv (by omega) rn (by omega)) rfl gL_law_L_fitsDriver (nA := 7) (by decide +kernel) rfl (by decide) (HC0 hcc hss) rfl (Nat.le_of_ble_eq_true rfl) dL_law_888 ?_
            refine v_if_eq C 898 dL_law_891 (by decide) (fun c5 => ?_) (fun c5 => ?_)
            · -- 891 t: (b2i (ldf n x dv rn)) = 0
              replace c5 := b2i_0.mp c5
              refine v_iconst C (0) dL_law_898 (by decide) ?_
              refine J1 _ ?_
              exact (b2i_f (fun z => c5 z.2.2.2.2)).symm
            · -- 891 f: not (b2i (ldf n x dv rn)) = 0
              replace c5 := Classical.not_not.mp (fun z => c5 (b2i_0.mpr z))
              refine v_iconst C (1) dL_law_894 (by decide) ?_
              refine v_goto C 899 dL_law_895 (by decide) ?_
              refine J1 _ ?_
              exact (b2i_t ⟨(pos_iff h).mp c1, c2, c3, c4, c5⟩).symm
  · -- behind the join
    refine v_istore C dL_law_899 (by decide) ?_
    refine v_aload C dL_law_901 rfl ?_
    refine v_iconst C (1) dL_law_903 (by decide) ?_
    refine vL_l_n1 C dL_law_904 ?_
    refine v_if_ne C 913 dL_law_905 (by decide) (fun c6 => ?_) (fun c6 => ?_)
    · -- 905 t: ¬ (x 1 0) = 0
      have hnp : 0 < n := by
        rcases Nat.eq_zero_or_pos n with z | z
        · exact absurd (h.n1.trans (by rw [z]; rfl)) c6
        · exact z
      have hr : rn < n := hrn2 hnp
      refine v_iload C dL_law_913 rfl ?_
      refine v_if_lt C 923 dL_law_915 (by decide) (fun c7 => ?_) (fun c7 => ?_)
      · -- 915 t: (x 17 mk) < 0
        have hnew : x 17 mk = -1 := mk_neg h hmk c7
        refine v_iload C dL_law_923 rfl ?_
        refine v_if_eq C 935 dL_law_925 (by decide) (fun c8 => ?_) (fun c8 => ?_)
        · -- 925 t: (b2i (CAN n x dp bs dv rn)) = 0
          replace c8 := b2i_0.mp c8
          refine v_bipush C (-13) dL_law_935 (by decide) ?_
          refine v_istore C dL_law_937 (by decide) ?_
          refine v_iload C dL_law_939 rfl ?_
          refine v_if_eq C 1010 dL_law_941 (by decide) (fun z => ?_) (fun z => absurd z (Classical.not_not.mpr (b2i_0.mpr c8)))
          refine v_aload_n C dL_law_1010 rfl ?_
          refine v_iconst C (1) dL_law_1011 (by decide) ?_
          refine v_iload C dL_law_1012 rfl ?_
          refine v_iload C dL_law_1014 rfl ?_
          refine v_iload C dL_law_1016 rfl ?_
          refine v_iload C dL_law_1018 rfl ?_
          refine v_iload C dL_law_1020 rfl ?_
          have hxo : xorder n x (nI dp) (nI mk) (nI rn) (nI bs) (nI dv) = some nIS := xord_not h hdp hmk hr hbs hdv hnew (can_not h hu hr hbs hdv c8)
          refine v_sW C hX hN (wL cy al x []) [] (w2 := wL cy al x (wD cy ad (oc (xorder n x (nI dp) (nI mk) (nI rn) (nI bs) (nI dv)) (forder om x (nI mk) (nI rn) (nI bs) (nI dv)) x))) (k_L_does_order l G cy ad x (forder om x (nI mk) (nI rn) (nI bs) (nI dv)) (nI dp) (nI mk) (nI rn) (nI bs) (nI dv) (rorder x (nI mk)) (xorder n x (nI dp) (nI mk) (nI rn) (nI bs) (nI dv)) hE_order (k_X1_order l G cy hl ad x n h.n1 (by omega) om h.o2 (by omega) (nI dp) (nI mk) (nI rn) (nI bs) (nI dv))) rfl gL_law_L_does (nA := 7) (by decide +kernel) rfl (by decide) (HC8 hcc hss) rfl (Nat.le_of_ble_eq_true rfl) (by simp [wL]) (by simp [wL]) dL_law_1022 ?_
          rw [hxo]
          refine V.ew (w' := wL cy al x (wD cy ad x)) rfl ?_
          refine V.es (st' := [.int (-13)]) (by rw [dcd_IS]) ?_
          refine v_iload C dL_law_1025 rfl ?_
          refine v_icmp_ne C 1034 dL_law_1027 (by decide) (fun z => absurd z (by decide)) (fun z => ?_)
          refine v_iconst C (1) dL_law_1030 (by decide) ?_
          refine v_goto C 1035 dL_law_1031 (by decide) ?_
          refine v_istore C dL_law_1035 (by decide) ?_
          refine v_goto C 1502 dL_law_1037 (by decide) ?_
          refine V.ew (w' := wL cy al x (wD cy ad x)) ?_ ?_
          · have eS : x = x := rfl
            have eC : x = x := rfl
            rw [eS, eC]
          exact (V.lof 15 (V.lof 17 (V.lof 18 (V.lof 19 (V.lof 20 (V.lof 21 (V.lof 22 (V.lof 23 (V.lof 24 (V.widen (k := cells + 8) (n := slots + 48) (by omega) (by omega) (nx _ _ _ _ h.up)))))))))))
        · -- 925 f: not (b2i (CAN n x dp bs dv rn)) = 0
          replace c8 := Classical.not_not.mp (fun z => c8 (b2i_0.mpr z))
          refine v_aload C dL_law_928 rfl ?_
          refine v_iconst C (2) dL_law_930 (by decide) ?_
          refine vL_l_n2 C dL_law_931 ?_
          refine v_goto C 937 dL_law_932 (by decide) ?_
          refine v_istore C dL_law_937 (by decide) ?_
          refine v_iload C dL_law_939 rfl ?_
          refine v_if_eq C 1010 dL_law_941 (by decide) (fun z => absurd z (fun z => b2i_0.mp z c8)) (fun z => ?_)
          refine v_iload C dL_law_944 rfl ?_
          refine v_if_ge C 1010 dL_law_946 (by decide) (fun z => absurd z (Classical.not_not.mpr c7)) (fun z => ?_)
          refine v_aload_n C dL_law_949 rfl ?_
          refine v_iload C dL_law_950 rfl ?_
          refine v_iconst C (1) dL_law_952 (by decide) ?_
          refine vL_s_s C rn rfl (by omega) dL_law_953 ?_
          refine v_aload C dL_law_954 rfl ?_
          refine v_iload C dL_law_956 rfl ?_
          refine v_iload C dL_law_958 rfl ?_
          refine v_iconst C (1) dL_law_960 (by decide) ?_
          refine v_iadd C dL_law_961 ?_
          refine vL_s_w C rn rfl (by omega) (v := nI bs) rfl dL_law_962 ?_
          refine v_aload C dL_law_963 rfl ?_
          refine v_iload C dL_law_965 rfl ?_
          refine v_iload C dL_law_967 rfl ?_
          refine v_iconst C (1) dL_law_969 (by decide) ?_
          refine v_iadd C dL_law_970 ?_
          refine vL_s_d C rn rfl (by omega) (v := nI dv) rfl dL_law_971 ?_
          refine v_aload C dL_law_972 rfl ?_
          refine v_aload C dL_law_974 rfl ?_
          refine v_iconst C (2) dL_law_976 (by decide) ?_
          refine vL_l_n2 C dL_law_977 ?_
          refine V.es (st' := [.int (x 2 0), .ref (al 7)]) (by rw [su_f _ _ _ _ (by decide), su_f _ _ _ _ (by decide), su_f _ _ _ _ (by decide)]) ?_
          refine v_bipush C (100) dL_law_978 (by decide) ?_
          refine v_iload C dL_law_980 rfl ?_
          refine v_imul C dL_law_982 ?_
          refine v_bipush C (10) dL_law_983 (by decide) ?_
          refine v_iload C dL_law_985 rfl ?_
          refine v_imul C dL_law_987 ?_
          refine v_iadd C dL_law_988 ?_
          refine v_iload C dL_law_989 rfl ?_
          refine v_iadd C dL_law_991 ?_
          refine vL_s_l C om h.o2 (by omega) dL_law_992 ?_
          refine v_aload C dL_law_993 rfl ?_
          refine v_aload C dL_law_995 rfl ?_
          refine v_iconst C (2) dL_law_997 (by decide) ?_
          refine vL_l_n2 C dL_law_998 ?_
          refine V.es (st' := [.int (x 2 0), .ref (al 8)]) (by rw [su_f _ _ _ _ (by decide), su_f _ _ _ _ (by decide), su_f _ _ _ _ (by decide), su_f _ _ _ _ (by decide)]) ?_
          refine v_iload C dL_law_999 rfl ?_
          refine vL_s_m C om h.o2 (by omega) dL_law_1001 ?_
          refine v_aload C dL_law_1002 rfl ?_
          refine v_iconst C (2) dL_law_1004 (by decide) ?_
          refine v_dup2 C dL_law_1005 rfl rfl ?_
          refine vL_l_n2 C dL_law_1006 ?_
          refine V.es (st' := [.int (x 2 0), .int 2, .ref (al 9)]) (by rw [su_f _ _ _ _ (by decide), su_f _ _ _ _ (by decide), su_f _ _ _ _ (by decide), su_f _ _ _ _ (by decide), su_f _ _ _ _ (by decide)]) ?_
          refine v_iconst C (1) dL_law_1007 (by decide) ?_
          refine v_iadd C dL_law_1008 ?_
          refine vL_s_n2 C dL_law_1009 ?_
          refine v_aload_n C dL_law_1010 rfl ?_
          refine v_iconst C (1) dL_law_1011 (by decide) ?_
          refine v_iload C dL_law_1012 rfl ?_
          refine v_iload C dL_law_1014 rfl ?_
          refine v_iload C dL_law_1016 rfl ?_
          refine v_iload C dL_law_1018 rfl ?_
          refine v_iload C dL_law_1020 rfl ?_
          have hxo : xorder n x (nI dp) (nI mk) (nI rn) (nI bs) (nI dv) = none := xord_can h hdp hmk hr hbs hdv hnew (can_cls h hu hr hbs hdv c8)
          refine v_sW C hX hN (wL cy al (su (su (su (su (su (su x 9 rn 1) 10 rn (nI bs)) 11 rn (nI dv)) 16 om (((100 * (nI rn)) + (10 * (nI bs))) + (nI dv))) 18 om (nI mk)) 2 0 ((x 2 0) + 1)) []) [] (w2 := wL cy al (su (su (su (su (su (su x 9 rn 1) 10 rn (nI bs)) 11 rn (nI dv)) 16 om (((100 * (nI rn)) + (10 * (nI bs))) + (nI dv))) 18 om (nI mk)) 2 0 ((x 2 0) + 1)) (wD cy ad (oc (xorder n x (nI dp) (nI mk) (nI rn) (nI bs) (nI dv)) (forder om x (nI mk) (nI rn) (nI bs) (nI dv)) x))) (k_L_does_order l G cy ad x (forder om x (nI mk) (nI rn) (nI bs) (nI dv)) (nI dp) (nI mk) (nI rn) (nI bs) (nI dv) (rorder x (nI mk)) (xorder n x (nI dp) (nI mk) (nI rn) (nI bs) (nI dv)) hE_order (k_X1_order l G cy hl ad x n h.n1 (by omega) om h.o2 (by omega) (nI dp) (nI mk) (nI rn) (nI bs) (nI dv))) rfl gL_law_L_does (nA := 7) (by decide +kernel) rfl (by decide) (HC8 hcc hss) rfl (Nat.le_of_ble_eq_true rfl) (by simp [wL]) (by simp [wL]) dL_law_1022 ?_
          rw [hxo]
          refine V.ew (w' := wL cy al (su (su (su (su (su (su x 9 rn 1) 10 rn (nI bs)) 11 rn (nI dv)) 16 om (((100 * (nI rn)) + (10 * (nI bs))) + (nI dv))) 18 om (nI mk)) 2 0 ((x 2 0) + 1)) (wD cy ad (forder om x (nI mk) (nI rn) (nI bs) (nI dv)))) rfl ?_
          refine V.es (st' := [.int (rorder x (nI mk))]) rfl ?_
          refine V.es (st' := [.int (x 2 0)]) (by rw [ror_new hmk hnew]) ?_
          refine v_iload C dL_law_1025 rfl ?_
          refine v_icmp_ne C 1034 dL_law_1027 (by decide) (fun z => absurd z (Classical.not_not.mpr rfl)) (fun z => ?_)
          refine v_iconst C (1) dL_law_1030 (by decide) ?_
          refine v_goto C 1035 dL_law_1031 (by decide) ?_
          refine v_istore C dL_law_1035 (by decide) ?_
          refine v_goto C 1502 dL_law_1037 (by decide) ?_
          refine V.ew (w' := wL cy al (yord om x mk rn bs dv) (wD cy ad (yord om x mk rn bs dv))) ?_ ?_
          · rw [yord_D]; exact yord_L hmk (by omega) hnew
          exact (V.lof 15 (V.lof 17 (V.lof 18 (V.lof 19 (V.lof 20 (V.lof 21 (V.lof 22 (V.lof 23 (V.lof 24 (V.widen (k := cells + 8) (n := slots + 48) (by omega) (by omega) (nx _ _ _ _ (J_order h ho6 hmk hr hbs hdv hxo hnew))))))))))))
      · -- 915 f: not (x 17 mk) < 0
        have hold : ¬ x 17 mk = -1 := mk_old c7
        refine v_iload C dL_law_918 rfl ?_
        refine v_goto C 937 dL_law_920 (by decide) ?_
        refine v_istore C dL_law_937 (by decide) ?_
        refine v_iload C dL_law_939 rfl ?_
        refine v_if_eq C 1010 dL_law_941 (by decide) (fun c14 => ?_) (fun c14 => ?_)
        · -- 941 t: (b2i (CAN n x dp bs dv rn)) = 0
          replace c14 := b2i_0.mp c14
          refine v_aload_n C dL_law_1010 rfl ?_
          refine v_iconst C (1) dL_law_1011 (by decide) ?_
          refine v_iload C dL_law_1012 rfl ?_
          refine v_iload C dL_law_1014 rfl ?_
          refine v_iload C dL_law_1016 rfl ?_
          refine v_iload C dL_law_1018 rfl ?_
          refine v_iload C dL_law_1020 rfl ?_
          have hxo : xorder n x (nI dp) (nI mk) (nI rn) (nI bs) (nI dv) = none := xord_old h hdp hmk hr hbs hdv hold
          refine v_sW C hX hN (wL cy al x []) [] (w2 := wL cy al x (wD cy ad (oc (xorder n x (nI dp) (nI mk) (nI rn) (nI bs) (nI dv)) (forder om x (nI mk) (nI rn) (nI bs) (nI dv)) x))) (k_L_does_order l G cy ad x (forder om x (nI mk) (nI rn) (nI bs) (nI dv)) (nI dp) (nI mk) (nI rn) (nI bs) (nI dv) (rorder x (nI mk)) (xorder n x (nI dp) (nI mk) (nI rn) (nI bs) (nI dv)) hE_order (k_X1_order l G cy hl ad x n h.n1 (by omega) om h.o2 (by omega) (nI dp) (nI mk) (nI rn) (nI bs) (nI dv))) rfl gL_law_L_does (nA := 7) (by decide +kernel) rfl (by decide) (HC8 hcc hss) rfl (Nat.le_of_ble_eq_true rfl) (by simp [wL]) (by simp [wL]) dL_law_1022 ?_
          rw [hxo]
          refine V.ew (w' := wL cy al x (wD cy ad (forder om x (nI mk) (nI rn) (nI bs) (nI dv)))) rfl ?_
          refine V.es (st' := [.int (rorder x (nI mk))]) rfl ?_
          refine V.es (st' := [.int (x 17 mk)]) (by rw [ror_old hmk hold]) ?_
          refine v_iload C dL_law_1025 rfl ?_
          refine v_icmp_ne C 1034 dL_law_1027 (by decide) (fun z => absurd z (Classical.not_not.mpr rfl)) (fun z => ?_)
          refine v_iconst C (1) dL_law_1030 (by decide) ?_
          refine v_goto C 1035 dL_law_1031 (by decide) ?_
          refine v_istore C dL_law_1035 (by decide) ?_
          refine v_goto C 1502 dL_law_1037 (by decide) ?_
          refine V.ew (w' := wL cy al x (wD cy ad x)) ?_ ?_
          · have eS : x = x := rfl
            have eC : forder om x (nI mk) (nI rn) (nI bs) (nI dv) = x := ford_old hmk hold
            rw [eS, eC]
          exact (V.lof 15 (V.lof 17 (V.lof 18 (V.lof 19 (V.lof 20 (V.lof 21 (V.lof 22 (V.lof 23 (V.lof 24 (V.widen (k := cells + 8) (n := slots + 48) (by omega) (by omega) (nx _ _ _ _ h.up)))))))))))
        · -- 941 f: not (b2i (CAN n x dp bs dv rn)) = 0
          replace c14 := Classical.not_not.mp (fun z => c14 (b2i_0.mpr z))
          refine v_iload C dL_law_944 rfl ?_
          refine v_if_ge C 1010 dL_law_946 (by decide) (fun z => ?_) (fun z => absurd z c7)
          refine v_aload_n C dL_law_1010 rfl ?_
          refine v_iconst C (1) dL_law_1011 (by decide) ?_
          refine v_iload C dL_law_1012 rfl ?_
          refine v_iload C dL_law_1014 rfl ?_
          refine v_iload C dL_law_1016 rfl ?_
          refine v_iload C dL_law_1018 rfl ?_
          refine v_iload C dL_law_1020 rfl ?_
          have hxo : xorder n x (nI dp) (nI mk) (nI rn) (nI bs) (nI dv) = none := xord_old h hdp hmk hr hbs hdv hold
          refine v_sW C hX hN (wL cy al x []) [] (w2 := wL cy al x (wD cy ad (oc (xorder n x (nI dp) (nI mk) (nI rn) (nI bs) (nI dv)) (forder om x (nI mk) (nI rn) (nI bs) (nI dv)) x))) (k_L_does_order l G cy ad x (forder om x (nI mk) (nI rn) (nI bs) (nI dv)) (nI dp) (nI mk) (nI rn) (nI bs) (nI dv) (rorder x (nI mk)) (xorder n x (nI dp) (nI mk) (nI rn) (nI bs) (nI dv)) hE_order (k_X1_order l G cy hl ad x n h.n1 (by omega) om h.o2 (by omega) (nI dp) (nI mk) (nI rn) (nI bs) (nI dv))) rfl gL_law_L_does (nA := 7) (by decide +kernel) rfl (by decide) (HC8 hcc hss) rfl (Nat.le_of_ble_eq_true rfl) (by simp [wL]) (by simp [wL]) dL_law_1022 ?_
          rw [hxo]
          refine V.ew (w' := wL cy al x (wD cy ad (forder om x (nI mk) (nI rn) (nI bs) (nI dv)))) rfl ?_
          refine V.es (st' := [.int (rorder x (nI mk))]) rfl ?_
          refine V.es (st' := [.int (x 17 mk)]) (by rw [ror_old hmk hold]) ?_
          refine v_iload C dL_law_1025 rfl ?_
          refine v_icmp_ne C 1034 dL_law_1027 (by decide) (fun z => absurd z (Classical.not_not.mpr rfl)) (fun z => ?_)
          refine v_iconst C (1) dL_law_1030 (by decide) ?_
          refine v_goto C 1035 dL_law_1031 (by decide) ?_
          refine v_istore C dL_law_1035 (by decide) ?_
          refine v_goto C 1502 dL_law_1037 (by decide) ?_
          refine V.ew (w' := wL cy al x (wD cy ad x)) ?_ ?_
          · have eS : x = x := rfl
            have eC : forder om x (nI mk) (nI rn) (nI bs) (nI dv) = x := ford_old hmk hold
            rw [eS, eC]
          exact (V.lof 15 (V.lof 17 (V.lof 18 (V.lof 19 (V.lof 20 (V.lof 21 (V.lof 22 (V.lof 23 (V.lof 24 (V.widen (k := cells + 8) (n := slots + 48) (by omega) (by omega) (nx _ _ _ _ h.up)))))))))))
    · -- 905 f: not ¬ (x 1 0) = 0
      have hn0 : n = 0 := (nI_eq (b := 0) (by omega) (by decide)).mp (h.n1.symm.trans c6)
      refine v_bipush C (-11) dL_law_908 (by decide) ?_
      refine v_goto C 937 dL_law_910 (by decide) ?_
      refine v_istore C dL_law_937 (by decide) ?_
      refine v_iload C dL_law_939 rfl ?_
      refine v_if_eq C 1010 dL_law_941 (by decide) (fun c18 => ?_) (fun c18 => ?_)
      · -- 941 t: (b2i (CAN n x dp bs dv rn)) = 0
        replace c18 := b2i_0.mp c18
        refine v_aload_n C dL_law_1010 rfl ?_
        refine v_iconst C (1) dL_law_1011 (by decide) ?_
        refine v_iload C dL_law_1012 rfl ?_
        refine v_iload C dL_law_1014 rfl ?_
        refine v_iload C dL_law_1016 rfl ?_
        refine v_iload C dL_law_1018 rfl ?_
        refine v_iload C dL_law_1020 rfl ?_
        have hxo : xorder n x (nI dp) (nI mk) (nI rn) (nI bs) (nI dv) = some nIO := xorder_io h hdp hn0 (by omega)
        refine v_sW C hX hN (wL cy al x []) [] (w2 := wL cy al x (wD cy ad (oc (xorder n x (nI dp) (nI mk) (nI rn) (nI bs) (nI dv)) (forder om x (nI mk) (nI rn) (nI bs) (nI dv)) x))) (k_L_does_order l G cy ad x (forder om x (nI mk) (nI rn) (nI bs) (nI dv)) (nI dp) (nI mk) (nI rn) (nI bs) (nI dv) (rorder x (nI mk)) (xorder n x (nI dp) (nI mk) (nI rn) (nI bs) (nI dv)) hE_order (k_X1_order l G cy hl ad x n h.n1 (by omega) om h.o2 (by omega) (nI dp) (nI mk) (nI rn) (nI bs) (nI dv))) rfl gL_law_L_does (nA := 7) (by decide +kernel) rfl (by decide) (HC8 hcc hss) rfl (Nat.le_of_ble_eq_true rfl) (by simp [wL]) (by simp [wL]) dL_law_1022 ?_
        rw [hxo]
        refine V.ew (w' := wL cy al x (wD cy ad x)) rfl ?_
        refine V.es (st' := [.int (-11)]) (by rw [dcd_IO]) ?_
        refine v_iload C dL_law_1025 rfl ?_
        refine v_icmp_ne C 1034 dL_law_1027 (by decide) (fun z => absurd z (by decide)) (fun z => ?_)
        refine v_iconst C (1) dL_law_1030 (by decide) ?_
        refine v_goto C 1035 dL_law_1031 (by decide) ?_
        refine v_istore C dL_law_1035 (by decide) ?_
        refine v_goto C 1502 dL_law_1037 (by decide) ?_
        refine V.ew (w' := wL cy al x (wD cy ad x)) ?_ ?_
        · have eS : x = x := rfl
          have eC : x = x := rfl
          rw [eS, eC]
        exact (V.lof 15 (V.lof 17 (V.lof 18 (V.lof 19 (V.lof 20 (V.lof 21 (V.lof 22 (V.lof 23 (V.lof 24 (V.widen (k := cells + 8) (n := slots + 48) (by omega) (by omega) (nx _ _ _ _ h.up)))))))))))
      · -- 941 f: not (b2i (CAN n x dp bs dv rn)) = 0
        replace c18 := Classical.not_not.mp (fun z => c18 (b2i_0.mpr z))
        exact absurd c18.1 (by omega)
set_option maxHeartbeats 4000000 in
set_option maxRecDepth 100000 in
theorem law_o2 {p : Program} {l : Launch} {e : Env} {s : State} {m : MethodId} {args : Array Value} {below : List Frame} {meth : Method} {c : Code} {Q : State → Prop} {ret : Option FieldType} {G : va_G} {cy : Nat → ClassId} {A : Nat → Prop} {al ad : Nat → Nat} {x : Sg} (C : vC p s m args meth c cL_law 25 wsL_law RL ret G cy A) (hX : xT A s s.heap) (hN : xN s) (hl : l.stackTraces = false) {b0 k Y rn bs dv : Nat} {kv : Int32} {u n om t cells slots : Nat} (h : J u n om t x) (hu : u ≤ 1000) (hY : Y < 2 ^ 31) (hrn : rn < 20) (hrn2 : 0 < n → rn < n) (hbs : bs < 5) (hdv : dv < 5) (hcc : cells + 8 ≤ 600086) (hss : slots + 48 ≤ 7301441)  {dp mk : Nat} (hdp : dp < 2) (hmk : mk < 1000)  (ho6 : om < 60) (nx : ∀ (n' om' t' : Nat) (x' : Sg), J (u + 1) n' om' t' x' → V p l e room_1 s m args below meth c 25 G A Q (wL cy al x' (wD cy ad x')) (cells + 8) (slots + 48) 1502 [some (.ref b0), some (.ref (ad 0)), some (.ref (al 0)), some (.ref (al 1)), some (.ref (al 2)), some (.ref (al 3)), some (.ref (al 4)), some (.ref (al 5)), some (.ref (al 6)), some (.ref (al 7)), some (.ref (al 8)), some (.ref (al 9)), some (.int 1), some (.int (nI k)), none, none, some (.int (nI Y)), none, none, none, none, none, none, none, none] []) : V p l e room_1 s m args below meth c 25 G A Q (wL cy al x (wD cy ad x)) cells slots 778 [some (.ref b0), some (.ref (ad 0)), some (.ref (al 0)), some (.ref (al 1)), some (.ref (al 2)), some (.ref (al 3)), some (.ref (al 4)), some (.ref (al 5)), some (.ref (al 6)), some (.ref (al 7)), some (.ref (al 8)), some (.ref (al 9)), some (.int 1), some (.int (nI k)), none, some (.int kv), some (.int (nI Y)), some (.int (nI rn)), some (.int (nI bs)), some (.int (nI dv)), some (.int (nI dp)), some (.int (nI mk)), some (.int (x 17 mk)), none, none] [] := by
  have ht30 := h.t30
  have h20 := h.n20
  have ho60 := h.o60
  refine v_iconst C 0 dL_law_778 (by decide) ?_
  refine v_istore C dL_law_779 (by decide) ?_
  refine V.loopE (fun (_ : Nat) (_ : Nat) => wL cy al x (wD cy ad x)) (fun (j : Nat) (b : Nat) => ([some (.ref b0), some (.ref (ad 0)), some (.ref (al 0)), some (.ref (al 1)), some (.ref (al 2)), some (.ref (al 3)), some (.ref (al 4)), some (.ref (al 5)), some (.ref (al 6)), some (.ref (al 7)), some (.ref (al 8)), some (.ref (al 9)), some (.int 1), some (.int (nI k)), none, some (.int kv), some (.int (nI Y)), some (.int (nI rn)), some (.int (nI bs)), some (.int (nI b)), some (.int (nI dp)), some (.int (nI mk)), some (.int (x 17 mk)), some (.int (nI j)), none] : List (Option Value))) (fun _ b => b < 5) 5 ?_ dv hdv
  intro j b hj hb ih
  try dsimp only at hb ih ⊢
  refine v_iload C dL_law_781 rfl ?_
  refine v_iconst C (5) dL_law_783 (by decide) ?_
  refine v_icmp_ge C 834 dL_law_784 (by decide) (fun c1 => ?_) (fun c1 => ?_)
  · -- 784 t: ¬ (nI j) < 5
    exact V.lof 23 (law_o3 C hX hN hl h hu hY hrn hrn2 hbs hb hcc hss hdp hmk ho6 nx)
  · -- 784 f: not ¬ (nI j) < 5
    have hj5 : j < 5 := (nI_ltI (b := 5) (by omega) (by decide)).mp c1
    refine v_iload C dL_law_787 rfl ?_
    refine v_bipush C (17) dL_law_789 (by decide) ?_
    refine v_irem C dL_law_791 (by decide) ?_
    refine v_if_le C 834 dL_law_792 (by decide) (fun c2 => ?_) (fun c2 => ?_)
    · -- 792 t: ¬ 0 < ((nI Y) - (nI Y) / 17 * 17)
      exact V.lof 23 (law_o3 C hX hN hl h hu hY hrn hrn2 hbs hb hcc hss hdp hmk ho6 nx)
    · -- 792 f: not ¬ 0 < ((nI Y) - (nI Y) / 17 * 17)
      refine v_aload C dL_law_795 rfl ?_
      refine v_iconst C (1) dL_law_797 (by decide) ?_
      refine vL_l_n1 C dL_law_798 ?_
      refine v_if_le C 834 dL_law_799 (by decide) (fun c3 => ?_) (fun c3 => ?_)
      · -- 799 t: ¬ 0 < (x 1 0)
        exact V.lof 23 (law_o3 C hX hN hl h hu hY hrn hrn2 hbs hb hcc hss hdp hmk ho6 nx)
      · -- 799 f: not ¬ 0 < (x 1 0)
        refine v_aload C dL_law_802 rfl ?_
        refine v_aload_n C dL_law_804 rfl ?_
        refine v_aload_n C dL_law_805 rfl ?_
        refine v_aload C dL_law_806 rfl ?_
        refine v_aload C dL_law_808 rfl ?_
        refine v_iload C dL_law_810 rfl ?_
        refine v_iload C dL_law_812 rfl ?_
        refine v_sI C (k_L_fitsDriver l G cy al x (wD cy ad x) n h.n1 h20 b (by omega) rn (by omega)) rfl gL_law_L_fitsDriver (nA := 7) (by decide +kernel) rfl (by decide) (HC0 hcc hss) rfl (Nat.le_of_ble_eq_true rfl) dL_law_814 ?_
        refine v_if_ne C 834 dL_law_817 (by decide) (fun c4 => ?_) (fun c4 => ?_)
        · -- 817 t: ¬ (b2i (ldf n x b rn)) = 0
          replace c4 := Classical.not_not.mp (fun z => c4 (b2i_0.mpr z))
          exact V.lof 23 (law_o3 C hX hN hl h hu hY hrn hrn2 hbs hb hcc hss hdp hmk ho6 nx)
        · -- 817 f: not ¬ (b2i (ldf n x b rn)) = 0
          replace c4 := b2i_0.mp c4
          refine v_iload C dL_law_820 rfl ?_
          refine v_iconst C (1) dL_law_822 (by decide) ?_
          refine v_iadd C dL_law_823 ?_
          refine v_iconst C (5) dL_law_824 (by decide) ?_
          refine v_irem C dL_law_825 (by decide) ?_
          obtain ⟨b2, hb2, e_b2⟩ : ∃ b2 : Nat, b2 < 5 ∧ ((nI b) + 1) - ((nI b) + 1) / 5 * 5 = nI b2 := ⟨(b + 1) % 5, by omega, (remN (a := (b + 1)) (m := 5) (addN (a := b) (b := 1) rfl rfl) (by omega) (by omega))⟩
          refine V.es (st' := [.int (nI b2)]) (by rw [e_b2]) ?_
          refine v_istore C dL_law_826 (by decide) ?_
          refine v_incN C dL_law_828 rfl (by decide) ?_
          refine v_goto C 781 dL_law_831 (by decide) ?_
          exact ih (by omega) b2 hb2
set_option maxHeartbeats 4000000 in
set_option maxRecDepth 100000 in
theorem law_o1 {p : Program} {l : Launch} {e : Env} {s : State} {m : MethodId} {args : Array Value} {below : List Frame} {meth : Method} {c : Code} {Q : State → Prop} {ret : Option FieldType} {G : va_G} {cy : Nat → ClassId} {A : Nat → Prop} {al ad : Nat → Nat} {x : Sg} (C : vC p s m args meth c cL_law 25 wsL_law RL ret G cy A) (hX : xT A s s.heap) (hN : xN s) (hl : l.stackTraces = false) {b0 k Y rn bs dv : Nat} {kv : Int32} {u n om t cells slots : Nat} (h : J u n om t x) (hu : u ≤ 1000) (hY : Y < 2 ^ 31) (hrn : rn < 20) (hrn2 : 0 < n → rn < n) (hbs : bs < 5) (hdv : dv < 5) (hcc : cells + 8 ≤ 600086) (hss : slots + 48 ≤ 7301441)  {dp mk : Nat} (hdp : dp < 2) (hmk : mk < 1000)  (ho6 : om < 60) (nx : ∀ (n' om' t' : Nat) (x' : Sg), J (u + 1) n' om' t' x' → V p l e room_1 s m args below meth c 25 G A Q (wL cy al x' (wD cy ad x')) (cells + 8) (slots + 48) 1502 [some (.ref b0), some (.ref (ad 0)), some (.ref (al 0)), some (.ref (al 1)), some (.ref (al 2)), some (.ref (al 3)), some (.ref (al 4)), some (.ref (al 5)), some (.ref (al 6)), some (.ref (al 7)), some (.ref (al 8)), some (.ref (al 9)), some (.int 1), some (.int (nI k)), none, none, some (.int (nI Y)), none, none, none, none, none, none, none, none] []) : V p l e room_1 s m args below meth c 25 G A Q (wL cy al x (wD cy ad x)) cells slots 722 [some (.ref b0), some (.ref (ad 0)), some (.ref (al 0)), some (.ref (al 1)), some (.ref (al 2)), some (.ref (al 3)), some (.ref (al 4)), some (.ref (al 5)), some (.ref (al 6)), some (.ref (al 7)), some (.ref (al 8)), some (.ref (al 9)), some (.int 1), some (.int (nI k)), none, some (.int kv), some (.int (nI Y)), some (.int (nI rn)), some (.int (nI bs)), some (.int (nI dv)), some (.int (nI dp)), some (.int (nI mk)), some (.int (x 17 mk)), none, none] [] := by
  have ht30 := h.t30
  have h20 := h.n20
  have ho60 := h.o60
  refine v_iconst C 0 dL_law_722 (by decide) ?_
  refine v_istore C dL_law_723 (by decide) ?_
  refine V.loopE (fun (_ : Nat) (_ : Nat) => wL cy al x (wD cy ad x)) (fun (j : Nat) (b : Nat) => ([some (.ref b0), some (.ref (ad 0)), some (.ref (al 0)), some (.ref (al 1)), some (.ref (al 2)), some (.ref (al 3)), some (.ref (al 4)), some (.ref (al 5)), some (.ref (al 6)), some (.ref (al 7)), some (.ref (al 8)), some (.ref (al 9)), some (.int 1), some (.int (nI k)), none, some (.int kv), some (.int (nI Y)), some (.int (nI rn)), some (.int (nI b)), some (.int (nI dv)), some (.int (nI dp)), some (.int (nI mk)), some (.int (x 17 mk)), some (.int (nI j)), none] : List (Option Value))) (fun _ b => b < 5) 5 ?_ bs hbs
  intro j b hj hb ih
  try dsimp only at hb ih ⊢
  refine v_iload C dL_law_725 rfl ?_
  refine v_iconst C (5) dL_law_727 (by decide) ?_
  refine v_icmp_ge C 778 dL_law_728 (by decide) (fun c1 => ?_) (fun c1 => ?_)
  · -- 728 t: ¬ (nI j) < 5
    exact V.lof 23 (law_o2 C hX hN hl h hu hY hrn hrn2 hb hdv hcc hss hdp hmk ho6 nx)
  · -- 728 f: not ¬ (nI j) < 5
    have hj5 : j < 5 := (nI_ltI (b := 5) (by omega) (by decide)).mp c1
    refine v_iload C dL_law_731 rfl ?_
    refine v_bipush C (13) dL_law_733 (by decide) ?_
    refine v_irem C dL_law_735 (by decide) ?_
    refine v_if_le C 778 dL_law_736 (by decide) (fun c2 => ?_) (fun c2 => ?_)
    · -- 736 t: ¬ 0 < ((nI Y) - (nI Y) / 13 * 13)
      exact V.lof 23 (law_o2 C hX hN hl h hu hY hrn hrn2 hb hdv hcc hss hdp hmk ho6 nx)
    · -- 736 f: not ¬ 0 < ((nI Y) - (nI Y) / 13 * 13)
      refine v_aload C dL_law_739 rfl ?_
      refine v_iconst C (1) dL_law_741 (by decide) ?_
      refine vL_l_n1 C dL_law_742 ?_
      refine v_if_le C 778 dL_law_743 (by decide) (fun c3 => ?_) (fun c3 => ?_)
      · -- 743 t: ¬ 0 < (x 1 0)
        exact V.lof 23 (law_o2 C hX hN hl h hu hY hrn hrn2 hb hdv hcc hss hdp hmk ho6 nx)
      · -- 743 f: not ¬ 0 < (x 1 0)
        refine v_aload C dL_law_746 rfl ?_
        refine v_aload_n C dL_law_748 rfl ?_
        refine v_aload_n C dL_law_749 rfl ?_
        refine v_aload C dL_law_750 rfl ?_
        refine v_aload C dL_law_752 rfl ?_
        refine v_iload C dL_law_754 rfl ?_
        refine v_iload C dL_law_756 rfl ?_
        refine v_sI C (k_L_fitsBus l G cy al x (wD cy ad x) n h.n1 h20 b (by omega) rn (by omega)) rfl gL_law_L_fitsBus (nA := 7) (by decide +kernel) rfl (by decide) (HC0 hcc hss) rfl (Nat.le_of_ble_eq_true rfl) dL_law_758 ?_
        refine v_if_ne C 778 dL_law_761 (by decide) (fun c4 => ?_) (fun c4 => ?_)
        · -- 761 t: ¬ (b2i (lbf n x b rn)) = 0
          replace c4 := Classical.not_not.mp (fun z => c4 (b2i_0.mpr z))
          exact V.lof 23 (law_o2 C hX hN hl h hu hY hrn hrn2 hb hdv hcc hss hdp hmk ho6 nx)
        · -- 761 f: not ¬ (b2i (lbf n x b rn)) = 0
          replace c4 := b2i_0.mp c4
          refine v_iload C dL_law_764 rfl ?_
          refine v_iconst C (1) dL_law_766 (by decide) ?_
          refine v_iadd C dL_law_767 ?_
          refine v_iconst C (5) dL_law_768 (by decide) ?_
          refine v_irem C dL_law_769 (by decide) ?_
          obtain ⟨b2, hb2, e_b2⟩ : ∃ b2 : Nat, b2 < 5 ∧ ((nI b) + 1) - ((nI b) + 1) / 5 * 5 = nI b2 := ⟨(b + 1) % 5, by omega, (remN (a := (b + 1)) (m := 5) (addN (a := b) (b := 1) rfl rfl) (by omega) (by omega))⟩
          refine V.es (st' := [.int (nI b2)]) (by rw [e_b2]) ?_
          refine v_istore C dL_law_770 (by decide) ?_
          refine v_incN C dL_law_772 rfl (by decide) ?_
          refine v_goto C 725 dL_law_775 (by decide) ?_
          exact ih (by omega) b2 hb2
set_option maxHeartbeats 4000000 in
set_option maxRecDepth 100000 in
theorem law_order {p : Program} {l : Launch} {e : Env} {s : State} {m : MethodId} {args : Array Value} {below : List Frame} {meth : Method} {c : Code} {Q : State → Prop} {ret : Option FieldType} {G : va_G} {cy : Nat → ClassId} {A : Nat → Prop} {al ad : Nat → Nat} {x : Sg} (C : vC p s m args meth c cL_law 25 wsL_law RL ret G cy A) (hX : xT A s s.heap) (hN : xN s) (hl : l.stackTraces = false) {b0 k Y rn bs dv : Nat} {kv : Int32} {u n om t cells slots : Nat} (h : J u n om t x) (hu : u ≤ 1000) (hY : Y < 2 ^ 31) (hrn : rn < 20) (hrn2 : 0 < n → rn < n) (hbs : bs < 5) (hdv : dv < 5) (hcc : cells + 8 ≤ 600086) (hss : slots + 48 ≤ 7301441) (ho6 : om < 60) (nx : ∀ (n' om' t' : Nat) (x' : Sg), J (u + 1) n' om' t' x' → V p l e room_1 s m args below meth c 25 G A Q (wL cy al x' (wD cy ad x')) (cells + 8) (slots + 48) 1502 [some (.ref b0), some (.ref (ad 0)), some (.ref (al 0)), some (.ref (al 1)), some (.ref (al 2)), some (.ref (al 3)), some (.ref (al 4)), some (.ref (al 5)), some (.ref (al 6)), some (.ref (al 7)), some (.ref (al 8)), some (.ref (al 9)), some (.int 1), some (.int (nI k)), none, none, some (.int (nI Y)), none, none, none, none, none, none, none, none] []) : V p l e room_1 s m args below meth c 25 G A Q (wL cy al x (wD cy ad x)) cells slots 624 [some (.ref b0), some (.ref (ad 0)), some (.ref (al 0)), some (.ref (al 1)), some (.ref (al 2)), some (.ref (al 3)), some (.ref (al 4)), some (.ref (al 5)), some (.ref (al 6)), some (.ref (al 7)), some (.ref (al 8)), some (.ref (al 9)), some (.int 1), some (.int (nI k)), none, some (.int kv), some (.int (nI Y)), some (.int (nI rn)), some (.int (nI bs)), some (.int (nI dv)), none, none, none, none, none] [] := by
  have ht30 := h.t30
  have h20 := h.n20
  have ho60 := h.o60
  refine V.joinP (fun v : Int32 => ∃ dp : Nat, dp < 2 ∧ v = nI dp) (wL cy al x (wD cy ad x)) 651 ([some (.ref b0), some (.ref (ad 0)), some (.ref (al 0)), some (.ref (al 1)), some (.ref (al 2)), some (.ref (al 3)), some (.ref (al 4)), some (.ref (al 5)), some (.ref (al 6)), some (.ref (al 7)), some (.ref (al 8)), some (.ref (al 9)), some (.int 1), some (.int (nI k)), none, some (.int kv), some (.int (nI Y)), some (.int (nI rn)), some (.int (nI bs)), some (.int (nI dv)), none, none, none, none, none] : List (Option Value)) ([] : List Value) (fun J1 => ?_) (fun v hv => ?_)
  · -- up to the join
    refine v_iload C dL_law_624 rfl ?_
    refine v_iconst C (3) dL_law_626 (by decide) ?_
    refine v_irem C dL_law_627 (by decide) ?_
    refine v_if_le C 647 dL_law_628 (by decide) (fun c1 => ?_) (fun c1 => ?_)
    · -- 628 t: ¬ 0 < ((nI Y) - (nI Y) / 3 * 3)
      refine v_iload C dL_law_647 rfl ?_
      refine v_iconst C (2) dL_law_649 (by decide) ?_
      refine v_irem C dL_law_650 (by decide) ?_
      refine J1 _ ?_
      exact ⟨Y % 2, by omega, (remN (a := Y) (m := 2) rfl (by omega) (by omega))⟩
    · -- 628 f: not ¬ 0 < ((nI Y) - (nI Y) / 3 * 3)
      refine v_aload C dL_law_631 rfl ?_
      refine v_sI C (k_L_leader l G cy al x (wD cy ad x)) rfl gL_law_L_leader (nA := 1) (by decide +kernel) rfl (by decide) (HC0 hcc hss) rfl (Nat.le_of_ble_eq_true rfl) dL_law_633 ?_
      refine v_if_lt C 647 dL_law_636 (by decide) (fun c2 => ?_) (fun c2 => ?_)
      · -- 636 t: (flead x) < 0
        refine v_iload C dL_law_647 rfl ?_
        refine v_iconst C (2) dL_law_649 (by decide) ?_
        refine v_irem C dL_law_650 (by decide) ?_
        refine J1 _ ?_
        exact ⟨Y % 2, by omega, (remN (a := Y) (m := 2) rfl (by omega) (by omega))⟩
      · -- 636 f: not (flead x) < 0
        refine v_aload C dL_law_639 rfl ?_
        refine v_sI C (k_L_leader l G cy al x (wD cy ad x)) rfl gL_law_L_leader (nA := 1) (by decide +kernel) rfl (by decide) (HC0 hcc hss) rfl (Nat.le_of_ble_eq_true rfl) dL_law_641 ?_
        refine v_goto C 651 dL_law_644 (by decide) ?_
        refine J1 _ ?_
        exact lead_pos h.hd c2
  · -- behind the join
    obtain ⟨dp, hdp, rfl⟩ := hv
    refine v_istore C dL_law_651 (by decide) ?_
    refine V.joinP (fun v : Int32 => ∃ mk : Nat, mk < 1000 ∧ v = nI mk) (wL cy al x (wD cy ad x)) 680 ([some (.ref b0), some (.ref (ad 0)), some (.ref (al 0)), some (.ref (al 1)), some (.ref (al 2)), some (.ref (al 3)), some (.ref (al 4)), some (.ref (al 5)), some (.ref (al 6)), some (.ref (al 7)), some (.ref (al 8)), some (.ref (al 9)), some (.int 1), some (.int (nI k)), none, some (.int kv), some (.int (nI Y)), some (.int (nI rn)), some (.int (nI bs)), some (.int (nI dv)), some (.int (nI dp)), none, none, none, none] : List (Option Value)) ([] : List Value) (fun J2 => ?_) (fun v hv => ?_)
    · -- up to the join
      refine v_iload C dL_law_653 rfl ?_
      refine v_bipush C (11) dL_law_655 (by decide) ?_
      refine v_irem C dL_law_657 (by decide) ?_
      refine v_if_ne C 672 dL_law_658 (by decide) (fun c3 => ?_) (fun c3 => ?_)
      · -- 658 t: ¬ ((nI Y) - (nI Y) / 11 * 11) = 0
        refine v_iload C dL_law_672 rfl ?_
        refine v_iconst C (3) dL_law_674 (by decide) ?_
        refine v_idiv C dL_law_675 (by decide) ?_
        refine v_sipush C (1000) dL_law_676 (by decide) ?_
        refine v_irem C dL_law_679 (by decide) ?_
        refine J2 _ ?_
        exact ⟨(Y / 3) % 1000, by omega, (remN (a := (Y / 3)) (m := 1000) (divN (a := Y) (m := 3) rfl (by omega) (by omega)) (by omega) (by omega))⟩
      · -- 658 f: not ¬ ((nI Y) - (nI Y) / 11 * 11) = 0
        refine v_iload C dL_law_661 rfl ?_
        refine v_bipush C (11) dL_law_663 (by decide) ?_
        refine v_idiv C dL_law_665 (by decide) ?_
        refine v_bipush C (20) dL_law_666 (by decide) ?_
        refine v_irem C dL_law_668 (by decide) ?_
        refine v_goto C 680 dL_law_669 (by decide) ?_
        refine J2 _ ?_
        exact ⟨(Y / 11) % 20, by omega, (remN (a := (Y / 11)) (m := 20) (divN (a := Y) (m := 11) rfl (by omega) (by omega)) (by omega) (by omega))⟩
    · -- behind the join
      obtain ⟨mk, hmk, rfl⟩ := hv
      refine v_istore C dL_law_680 (by decide) ?_
      refine v_iconst C (-1) dL_law_682 (by decide) ?_
      refine v_istore C dL_law_683 (by decide) ?_
      refine v_iconst C (0) dL_law_685 (by decide) ?_
      refine v_istore C dL_law_686 (by decide) ?_
      refine V.loop (fun kk : Nat => wL cy al x (wD cy ad x)) (fun kk : Nat => ([some (.ref b0), some (.ref (ad 0)), some (.ref (al 0)), some (.ref (al 1)), some (.ref (al 2)), some (.ref (al 3)), some (.ref (al 4)), some (.ref (al 5)), some (.ref (al 6)), some (.ref (al 7)), some (.ref (al 8)), some (.ref (al 9)), some (.int 1), some (.int (nI k)), none, some (.int kv), some (.int (nI Y)), some (.int (nI rn)), some (.int (nI bs)), some (.int (nI dv)), some (.int (nI dp)), some (.int (nI mk)), some (.int (hadF x (nI mk) kk)), some (.int (nI kk)), none] : List (Option Value))) (fun kk : Nat => True) om ?_ trivial
      intro kk hle_kk hP_kk ih_kk
      try dsimp only at hP_kk ih_kk ⊢
      refine v_iload C dL_law_688 rfl ?_
      refine v_aload C dL_law_690 rfl ?_
      refine v_iconst C (2) dL_law_692 (by decide) ?_
      refine vL_l_n2 C dL_law_693 ?_
      refine v_geN C kk om 722 dL_law_694 (by decide) rfl h.o2 (by omega) (by omega) (fun c4 => ?_) (fun c4 => ?_)
      · -- loop 688 is over
        have e_kk : om = kk := by omega
        subst e_kk
        refine V.el (lo' := [some (.ref b0), some (.ref (ad 0)), some (.ref (al 0)), some (.ref (al 1)), some (.ref (al 2)), some (.ref (al 3)), some (.ref (al 4)), some (.ref (al 5)), some (.ref (al 6)), some (.ref (al 7)), some (.ref (al 8)), some (.ref (al 9)), some (.int 1), some (.int (nI k)), none, some (.int kv), some (.int (nI Y)), some (.int (nI rn)), some (.int (nI bs)), some (.int (nI dv)), some (.int (nI dp)), some (.int (nI mk)), some (.int (x 17 mk)), some (.int (nI om)), none]) (by rw [had_eq h.mk ho60 hmk]) ?_
        exact V.lof 23 (law_o1 C hX hN hl h hu hY hrn hrn2 hbs hdv hcc hss hdp hmk ho6 nx)
      · have hkk : kk < om := c4
        refine v_aload C dL_law_697 rfl ?_
        refine v_iload C dL_law_699 rfl ?_
        refine vL_l_m C kk rfl (by omega) dL_law_701 ?_
        refine v_iload C dL_law_702 rfl ?_
        refine v_icmp_ne C 712 dL_law_704 (by decide) (fun c5 => ?_) (fun c5 => ?_)
        · -- 704 t: ¬ (x 18 kk) = (nI mk)
          refine v_iload C dL_law_712 rfl ?_
          refine v_istore C dL_law_714 (by decide) ?_
          refine v_incN C dL_law_716 rfl (by decide) ?_
          refine v_goto C 688 dL_law_719 (by decide) ?_
          have q9 := ih_kk hkk trivial
          have e9 : hadF x (nI mk) (kk + 1) = hadF x (nI mk) kk := by simp [hadF, pif, c5]
          rw [e9] at q9
          exact q9
        · -- 704 f: not ¬ (x 18 kk) = (nI mk)
          refine v_iload C dL_law_707 rfl ?_
          refine v_goto C 714 dL_law_709 (by decide) ?_
          refine v_istore C dL_law_714 (by decide) ?_
          refine v_incN C dL_law_716 rfl (by decide) ?_
          refine v_goto C 688 dL_law_719 (by decide) ?_
          have q9 := ih_kk hkk trivial
          have e9 : hadF x (nI mk) (kk + 1) = nI kk := by simp [hadF, pif, c5]
          rw [e9] at q9
          exact q9
