set_option maxHeartbeats 1000000 in
set_option maxRecDepth 100000 in
theorem k_X7_pair (l : Launch) (D : va_G) (cI cS : ClassId) (tys : List (ClassId × FieldType)) (ht0 : tys[0]? = some (cI, .int)) (o : Nat → Nat) (G : St) (K : Nat → Int32) (h : Nat → Int32) (hn : Int32) (T : Nat → Int32) (tn : Int32) (f : Nat → Int32) (a1 : Int32) (hI : Inv G) : xI l yX7_pair wsX7_pair 2 D tys [.ref (o 0), .int a1] (mR cI o (fl G) K h hn T tn f) (parI G a1) (mR cI o (fl G) K h hn T tn f) := by
  refine x_inI (cc := cX7_pair) (maxL := 5) (ret := (some .int)) (by decide) rfl (Nat.le_of_ble_eq_true rfl) ?_
  intro p e s m args below meth c A ls C w hl
  have C : xC p s m meth c args cX7_pair 5 wsX7_pair RX7 D tys (some .int) := C
  have hx := C.1.1
  have hb := C.1.2.1
  have hts := C.1.2.2.2.2
  have hown := C.1.2.2.2.1
  have w : xW D A s.heap (mR cI o (fl G) K h hn T tn f) s.heap [] := w
  have hl : lv_has ls 5 [(0, .ref (o 0)), (1, .int a1)] := hl
  have hmle := mN_le G 2
  refine lv_iload_n hx hb dX7_pair_0 rfl (lv_at hl 1 rfl) ?_
  refine lv_i2l (v := Int32.toInt64 a1) hx hb dX7_pair_1 rfl ?_
  refine lv_lconst (v := 0) hx hb dX7_pair_2 (by decide +kernel) ?_
  refine lv_lconst (v := 1) hx hb dX7_pair_3 (by decide +kernel) ?_
  refine x_callSi (wr := mR cI o (fl G) K h hn T tn f) (w2 := mR cI o (fl G) K h hn T tn f) (rest := []) (n := 3) C w hl [.long (Int32.toInt64 a1), .long 0, .long 1] (k_X7_in l D cI cS tys ht0 (Int32.toInt64 a1) 0 1 ) gX7_pair_X7_in rfl (by decide +kernel) ⟨Nat.le_of_ble_eq_true rfl, Nat.le_of_ble_eq_true rfl⟩ rfl rfl (Nat.le_of_ble_eq_true rfl) [] [0, 1, 2, 3, 4] (by decide) rfl rfl (by decide) (by decide) [0, 1, 2, 3, 4] (by decide) rfl ⟨Nat.zero_le _, Nat.zero_le _⟩ dX7_pair_4 (fun H locs w => ?_)
  refine x_top (y := bI (wth a1 0 1 = true)) (bI_c (lg_wth a1 0 1 (by decide) (by decide))) ?_
  refine x_ifB_ne (P := wth a1 0 1 = true) (tgt := 13) hx hb dX7_pair_7 (by decide) (fun c7_1 => ?_) (fun c7_1 => ?_)
  ·
    refine lv_aload_n hx hb dX7_pair_13 rfl (lv_at hl 0 rfl) ?_
    refine lv_iconst (v := 2) hx hb dX7_pair_14 (by decide +kernel) ?_
    refine x_callVi (wr := []) (w2 := mR cI o (fl G) K h hn T tn f) (rest := []) (n := 1) C w hl [.int 2] (k_X7_many l D cI cS tys ht0 o G K h hn T tn f 2 ) gX7_pair_X7_many rfl (by decide +kernel) ⟨Nat.le_of_ble_eq_true rfl, Nat.le_of_ble_eq_true rfl⟩ 0 7 rfl rfl rfl rfl (Nat.le_of_ble_eq_true rfl) [0, 1, 2, 3, 4] [] (by decide) rfl rfl (by decide) (by decide) [0, 1, 2, 3, 4] (by decide) rfl ⟨Nat.zero_le _, Nat.zero_le _⟩ dX7_pair_15 (fun H locs w => ?_)
    refine lv_iconst (v := 2) hx hb dX7_pair_18 (by decide +kernel) ?_
    refine x_icN_ge (i := mN G 2) (j := 2) (tgt := 25) hx hb (by omega) (by omega) dX7_pair_19 (by decide) (fun c19_2 => ?_) (fun c19_2 => ?_)
    ·
      have h2m : ¬ mN G 2 < 2 := by omega
      refine lv_iconst (v := -1) hx hb dX7_pair_25 (by decide +kernel) ?_
      refine lv_istore_n (lv' := [(2, .int (-1)), (0, .ref (o 0)), (1, .int a1)]) hx hb dX7_pair_26 rfl hl (by decide) rfl (fun ls hl => ?_)
      refine lv_iconst (v := 0) hx hb dX7_pair_27 (by decide +kernel) ?_
      refine lv_istore_n (lv' := [(3, .int 0), (2, .int (-1)), (0, .ref (o 0)), (1, .int a1)]) hx hb dX7_pair_28 rfl hl (by decide) rfl (fun ls hl => ?_)
      have loop_29 : ∀ (n : Nat) (i : Nat), 8 - i < n → (i ≤ 8) → ∀ (H : Heap) (locs : List Loc), xW D A s.heap (mR cI o (fl G) K h hn T tn f) H locs → ∀ ls : Array Slot, lv_has ls 5 [(3, .int (nI i)), (2, .int ((nprF G i).1)), (0, .ref (o 0)), (1, .int a1)] → W p l e (rmd 2) s m args below meth c H locs 0 0 (MQ below (xQi D tys (parI G a1) (mR cI o (fl G) K h hn T tn f) A) args s 0 0 A) (F0 m 29 ls []) := by
        intro n
        induction n with
        | zero => intro i hm; exact absurd hm (Nat.not_lt_zero _)
        | succ n ih =>
          intro i hm hi H locs w ls hl
          refine lv_iload_n hx hb dX7_pair_29 rfl (lv_at hl 0 rfl) ?_
          refine lv_bipush (v := 8) hx hb dX7_pair_30 (by decide +kernel) ?_
          refine x_icN_ge (i := i) (j := 8) (tgt := 116) hx hb (by omega) (by omega) dX7_pair_32 (by decide) (fun c32_3 => ?_) (fun c32_3 => ?_)
          ·
            have hE : i = 8 := (by omega)
            obtain ⟨l8, m8, hl8, hd8, en8, hm8, em8, ed8⟩ := npr_8 hI h2m
            refine lv_iload_n hx hb dX7_pair_116 rfl (lv_at hl 3 rfl) ?_
            refine x_ifR_ne (x := a1) (tgt := 124) hx hb dX7_pair_117 (by decide) (fun c117_4 => ?_) (fun c117_4 => ?_)
            ·
              refine lv_aload_n hx hb dX7_pair_124 rfl (lv_at hl 2 rfl) ?_
              refine lv_iload_n hx hb dX7_pair_125 rfl (lv_at hl 1 rfl) ?_
              refine x_top (y := nI l8) (by rw [hE]; exact en8) ?_
              refine x_callVi (wr := []) (w2 := mR cI o (fl G) K h hn T tn f) (rest := []) (n := 1) C w hl [.int (nI l8)] (k_X7_nearest l D cI cS tys ht0 o G K h hn T tn f l8 hl8) gX7_pair_X7_nearest rfl (by decide +kernel) ⟨Nat.le_of_ble_eq_true rfl, Nat.le_of_ble_eq_true rfl⟩ 0 7 rfl rfl rfl rfl (Nat.le_of_ble_eq_true rfl) [0, 1, 2, 3, 4] [] (by decide) rfl rfl (by decide) (by decide) [0, 1, 2, 3, 4] (by decide) rfl ⟨Nat.zero_le _, Nat.zero_le _⟩ dX7_pair_126 (fun H locs w => ?_)
              exact x_iret C w (par_1 c7_1 hl8 en8 c117_4) rfl dX7_pair_129
            ·
              refine lv_iload_n hx hb dX7_pair_120 rfl (lv_at hl 1 rfl) ?_
              refine lv_goto (tgt := 129) hx hb dX7_pair_121 (by decide) ?_
              exact x_iret C w (by rw [hE]; exact par_0 c7_1 hl8 en8 c117_4) rfl dX7_pair_129
          ·
            refine lv_aload_n hx hb dX7_pair_35 rfl (lv_at hl 2 rfl) ?_
            refine x_get (v := .ref (o 1)) (T := TX7) C w 0 0 rfl rfl (fun _ h => List.mem_cons_of_mem _ (List.mem_append_right _ (h))) (List.mem_of_getElem? (i := 3) rfl) (by decide) rfl dX7_pair_36 ?_
            refine lv_sipush (v := 128) hx hb dX7_pair_39 (by decide +kernel) ?_
            refine lv_iload_n hx hb dX7_pair_42 rfl (lv_at hl 0 rfl) ?_
            refine x_iaddN (i := 128) (j := i) hx hb dX7_pair_43 ?_
            refine x_iald (v := G 2 i) C w 1 0 (128 + i) rfl ht0 rfl (by omega) (by decide) (fl_r2 _ (by omega)) dX7_pair_44 ?_
            refine lv_iconst (v := 2) hx hb dX7_pair_45 (by decide +kernel) ?_
            refine x_icR_ne (x := G 2 i) (y := 2) (tgt := 110) hx hb dX7_pair_46 (by decide) (fun c46_5 => ?_) (fun c46_5 => ?_)
            ·
              refine lv_iinc (v := nI (i + 1)) (lv' := [(3, .int (nI (i + 1))), (2, .int ((nprF G i).1)), (0, .ref (o 0)), (1, .int a1)]) hx hb dX7_pair_110 hl (k := 0) rfl (nI_add i 1) (by decide) rfl (fun ls hl => ?_)
              refine lv_goto (tgt := 29) hx hb dX7_pair_113 (by decide) ?_
              have q6 : ((nprF G i).1) = (((nprF G (i + 1)).1) : Int32) := (by first | exact npr_no hI h2m (by omega) c46_5 | exact npr_first hI h2m (by omega) c46_5 hx | exact npr_lt (by omega) c46_5 ed9 em0 hm9 hm0 hx | exact npr_ge (by omega) c46_5 ed9 em0 hm9 hm0 hx hx | exact npr_ey (by omega) c46_5 ed9 em0 hm9 hm0 hx hl0 en0 hx | exact npr_en (by omega) c46_5 ed9 em0 hm9 hm0 hx hl0 en0 hx)
              have hl : lv_has ls 5 [(3, .int (nI (i + 1))), (2, .int ((nprF G (i + 1)).1)), (0, .ref (o 0)), (1, .int a1)] := lv_eqL (lv_sub (l' := [(3, .int (nI (i + 1))), (2, .int ((nprF G i).1)), (0, .ref (o 0)), (1, .int a1)]) hl [0, 1, 2, 3] rfl) (cg2 List.cons rfl (cg2 List.cons (congrArg (fun z => ((2 : Nat), Value.int z)) q6) (cg2 List.cons rfl (cg2 List.cons rfl rfl))))
              exact ih (i + 1) (by omega) (by omega) _ _ w _ hl
            ·
              refine lv_iload_n hx hb dX7_pair_49 rfl (lv_at hl 1 rfl) ?_
              refine lv_iconst (v := -1) hx hb dX7_pair_50 (by decide +kernel) ?_
              refine x_icR_ne (x := ((nprF G i).1)) (y := (-1)) (tgt := 58) hx hb dX7_pair_51 (by decide) (fun c51_7 => ?_) (fun c51_7 => ?_)
              ·
                obtain ⟨l0, m0, hl0, hd0, en0, hm0, em0, ed0⟩ := npr_some hI h2m hi c51_7
                obtain ⟨m9, hm9, ed9⟩ := dtd_lt hI h2m (show i < 8 by omega) c46_5
                refine lv_aload_n hx hb dX7_pair_58 rfl (lv_at hl 2 rfl) ?_
                refine lv_iload_n hx hb dX7_pair_59 rfl (lv_at hl 0 rfl) ?_
                refine x_callVi (wr := []) (w2 := mR cI o (fl G) K h hn T tn f) (rest := []) (n := 1) C w hl [.int (nI i)] (k_X7_nearest l D cI cS tys ht0 o G K h hn T tn f i (by omega)) gX7_pair_X7_nearest rfl (by decide +kernel) ⟨Nat.le_of_ble_eq_true rfl, Nat.le_of_ble_eq_true rfl⟩ 0 7 rfl rfl rfl rfl (Nat.le_of_ble_eq_true rfl) [0, 1, 2, 3, 4] [] (by decide) rfl rfl (by decide) (by decide) [0, 1, 2, 3, 4] (by decide) rfl ⟨Nat.zero_le _, Nat.zero_le _⟩ dX7_pair_60 (fun H locs w => ?_)
                refine x_top (y := nI m9) ed9 ?_
                refine lv_aload_n hx hb dX7_pair_63 rfl (lv_at hl 2 rfl) ?_
                refine lv_iload_n hx hb dX7_pair_64 rfl (lv_at hl 1 rfl) ?_
                refine x_top (y := nI l0) en0 ?_
                refine x_callVi (wr := []) (w2 := mR cI o (fl G) K h hn T tn f) (rest := [.int (nI m9)]) (n := 1) C w hl [.int (nI l0)] (k_X7_nearest l D cI cS tys ht0 o G K h hn T tn f l0 hl0) gX7_pair_X7_nearest rfl (by decide +kernel) ⟨Nat.le_of_ble_eq_true rfl, Nat.le_of_ble_eq_true rfl⟩ 0 7 rfl rfl rfl rfl (Nat.le_of_ble_eq_true rfl) [0, 1, 2, 3, 4] [] (by decide) rfl rfl (by decide) (by decide) [0, 1, 2, 3, 4] (by decide) rfl ⟨Nat.zero_le _, Nat.zero_le _⟩ dX7_pair_65 (fun H locs w => ?_)
                refine x_top (y := nI m0) ed0 ?_
                refine lv_isub (x := nI m9) (y := nI m0) hx hb dX7_pair_68 ?_
                refine lv_istore (lv' := [(4, .int ((nI m9) - (nI m0))), (3, .int (nI i)), (2, .int ((nprF G i).1)), (0, .ref (o 0)), (1, .int a1)]) hx hb dX7_pair_69 hl (by decide) rfl (fun ls hl => ?_)
                refine lv_iload hx hb dX7_pair_71 (lv_at hl 0 rfl) ?_
                refine x_ifR_lt (x := ((nI m9) - (nI m0))) (tgt := 104) hx hb dX7_pair_73 (by decide) (fun c73_8 => ?_) (fun c73_8 => ?_)
                ·
                  refine lv_iload_n hx hb dX7_pair_104 rfl (lv_at hl 1 rfl) ?_
                  refine lv_goto (tgt := 109) hx hb dX7_pair_105 (by decide) ?_
                  refine lv_istore_n (lv' := [(2, .int (nI i)), (4, .int ((nI m9) - (nI m0))), (3, .int (nI i)), (0, .ref (o 0)), (1, .int a1)]) hx hb dX7_pair_109 rfl hl (by decide) rfl (fun ls hl => ?_)
                  refine lv_iinc (v := nI (i + 1)) (lv' := [(3, .int (nI (i + 1))), (2, .int (nI i)), (4, .int ((nI m9) - (nI m0))), (0, .ref (o 0)), (1, .int a1)]) hx hb dX7_pair_110 hl (k := 2) rfl (nI_add i 1) (by decide) rfl (fun ls hl => ?_)
                  refine lv_goto (tgt := 29) hx hb dX7_pair_113 (by decide) ?_
                  have q9 : nI i = (((nprF G (i + 1)).1) : Int32) := (by first | exact npr_no hI h2m (by omega) c46_5 | exact npr_first hI h2m (by omega) c46_5 c51_7 | exact npr_lt (by omega) c46_5 ed9 em0 hm9 hm0 c73_8 | exact npr_ge (by omega) c46_5 ed9 em0 hm9 hm0 c73_8 hx | exact npr_ey (by omega) c46_5 ed9 em0 hm9 hm0 hx hl0 en0 hx | exact npr_en (by omega) c46_5 ed9 em0 hm9 hm0 hx hl0 en0 hx)
                  have hl : lv_has ls 5 [(3, .int (nI (i + 1))), (2, .int ((nprF G (i + 1)).1)), (0, .ref (o 0)), (1, .int a1)] := lv_eqL (lv_sub (l' := [(3, .int (nI (i + 1))), (2, .int (nI i)), (0, .ref (o 0)), (1, .int a1)]) hl [0, 1, 3, 4] rfl) (cg2 List.cons rfl (cg2 List.cons (congrArg (fun z => ((2 : Nat), Value.int z)) q9) (cg2 List.cons rfl (cg2 List.cons rfl rfl))))
                  exact ih (i + 1) (by omega) (by omega) _ _ w _ hl
                ·
                  refine lv_iload hx hb dX7_pair_76 (lv_at hl 0 rfl) ?_
                  refine x_ifR_ne (x := ((nI m9) - (nI m0))) (tgt := 108) hx hb dX7_pair_78 (by decide) (fun c78_10 => ?_) (fun c78_10 => ?_)
                  ·
                    refine lv_iload_n hx hb dX7_pair_108 rfl (lv_at hl 2 rfl) ?_
                    refine lv_istore_n (lv' := [(2, .int ((nprF G i).1)), (4, .int ((nI m9) - (nI m0))), (3, .int (nI i)), (0, .ref (o 0)), (1, .int a1)]) hx hb dX7_pair_109 rfl hl (by decide) rfl (fun ls hl => ?_)
                    refine lv_iinc (v := nI (i + 1)) (lv' := [(3, .int (nI (i + 1))), (2, .int ((nprF G i).1)), (4, .int ((nI m9) - (nI m0))), (0, .ref (o 0)), (1, .int a1)]) hx hb dX7_pair_110 hl (k := 2) rfl (nI_add i 1) (by decide) rfl (fun ls hl => ?_)
                    refine lv_goto (tgt := 29) hx hb dX7_pair_113 (by decide) ?_
                    have q11 : ((nprF G i).1) = (((nprF G (i + 1)).1) : Int32) := (by first | exact npr_no hI h2m (by omega) c46_5 | exact npr_first hI h2m (by omega) c46_5 c51_7 | exact npr_lt (by omega) c46_5 ed9 em0 hm9 hm0 c73_8 | exact npr_ge (by omega) c46_5 ed9 em0 hm9 hm0 c73_8 c78_10 | exact npr_ey (by omega) c46_5 ed9 em0 hm9 hm0 c78_10 hl0 en0 hx | exact npr_en (by omega) c46_5 ed9 em0 hm9 hm0 c78_10 hl0 en0 hx)
                    have hl : lv_has ls 5 [(3, .int (nI (i + 1))), (2, .int ((nprF G (i + 1)).1)), (0, .ref (o 0)), (1, .int a1)] := lv_eqL (lv_sub (l' := [(3, .int (nI (i + 1))), (2, .int ((nprF G i).1)), (0, .ref (o 0)), (1, .int a1)]) hl [0, 1, 3, 4] rfl) (cg2 List.cons rfl (cg2 List.cons (congrArg (fun z => ((2 : Nat), Value.int z)) q11) (cg2 List.cons rfl (cg2 List.cons rfl rfl))))
                    exact ih (i + 1) (by omega) (by omega) _ _ w _ hl
                  ·
                    refine lv_aload_n hx hb dX7_pair_81 rfl (lv_at hl 3 rfl) ?_
                    refine x_get (v := .ref (o 1)) (T := TX7) C w 0 0 rfl rfl (fun _ h => List.mem_cons_of_mem _ (List.mem_append_right _ (h))) (List.mem_of_getElem? (i := 3) rfl) (by decide) rfl dX7_pair_82 ?_
                    refine lv_sipush (v := 152) hx hb dX7_pair_85 (by decide +kernel) ?_
                    refine lv_iload_n hx hb dX7_pair_88 rfl (lv_at hl 1 rfl) ?_
                    refine x_iaddN (i := 152) (j := i) hx hb dX7_pair_89 ?_
                    refine x_iald (v := G 5 i) C w 1 0 (152 + i) rfl ht0 rfl (by omega) (by decide) (fl_r5 _ (by omega)) dX7_pair_90 ?_
                    refine lv_aload_n hx hb dX7_pair_91 rfl (lv_at hl 3 rfl) ?_
                    refine x_get (v := .ref (o 1)) (T := TX7) C w 0 0 rfl rfl (fun _ h => List.mem_cons_of_mem _ (List.mem_append_right _ (h))) (List.mem_of_getElem? (i := 3) rfl) (by decide) rfl dX7_pair_92 ?_
                    refine lv_sipush (v := 152) hx hb dX7_pair_95 (by decide +kernel) ?_
                    refine lv_iload_n hx hb dX7_pair_98 rfl (lv_at hl 2 rfl) ?_
                    refine x_top (y := nI l0) en0 ?_
                    refine x_iaddN (i := 152) (j := l0) hx hb dX7_pair_99 ?_
                    refine x_iald (v := G 5 l0) C w 1 0 (152 + l0) rfl ht0 rfl (by omega) (by decide) (fl_r5 _ (by omega)) dX7_pair_100 ?_
                    refine x_icR_ge (x := G 5 i) (y := G 5 l0) (tgt := 108) hx hb dX7_pair_101 (by decide) (fun c101_12 => ?_) (fun c101_12 => ?_)
                    ·
                      refine lv_iload_n hx hb dX7_pair_108 rfl (lv_at hl 2 rfl) ?_
                      refine lv_istore_n (lv' := [(2, .int ((nprF G i).1)), (4, .int ((nI m9) - (nI m0))), (3, .int (nI i)), (0, .ref (o 0)), (1, .int a1)]) hx hb dX7_pair_109 rfl hl (by decide) rfl (fun ls hl => ?_)
                      refine lv_iinc (v := nI (i + 1)) (lv' := [(3, .int (nI (i + 1))), (2, .int ((nprF G i).1)), (4, .int ((nI m9) - (nI m0))), (0, .ref (o 0)), (1, .int a1)]) hx hb dX7_pair_110 hl (k := 2) rfl (nI_add i 1) (by decide) rfl (fun ls hl => ?_)
                      refine lv_goto (tgt := 29) hx hb dX7_pair_113 (by decide) ?_
                      have q13 : ((nprF G i).1) = (((nprF G (i + 1)).1) : Int32) := (by first | exact npr_no hI h2m (by omega) c46_5 | exact npr_first hI h2m (by omega) c46_5 c51_7 | exact npr_lt (by omega) c46_5 ed9 em0 hm9 hm0 c73_8 | exact npr_ge (by omega) c46_5 ed9 em0 hm9 hm0 c73_8 c78_10 | exact npr_ey (by omega) c46_5 ed9 em0 hm9 hm0 c78_10 hl0 en0 c101_12 | exact npr_en (by omega) c46_5 ed9 em0 hm9 hm0 c78_10 hl0 en0 c101_12)
                      have hl : lv_has ls 5 [(3, .int (nI (i + 1))), (2, .int ((nprF G (i + 1)).1)), (0, .ref (o 0)), (1, .int a1)] := lv_eqL (lv_sub (l' := [(3, .int (nI (i + 1))), (2, .int ((nprF G i).1)), (0, .ref (o 0)), (1, .int a1)]) hl [0, 1, 3, 4] rfl) (cg2 List.cons rfl (cg2 List.cons (congrArg (fun z => ((2 : Nat), Value.int z)) q13) (cg2 List.cons rfl (cg2 List.cons rfl rfl))))
                      exact ih (i + 1) (by omega) (by omega) _ _ w _ hl
                    ·
                      refine lv_iload_n hx hb dX7_pair_104 rfl (lv_at hl 1 rfl) ?_
                      refine lv_goto (tgt := 109) hx hb dX7_pair_105 (by decide) ?_
                      refine lv_istore_n (lv' := [(2, .int (nI i)), (4, .int ((nI m9) - (nI m0))), (3, .int (nI i)), (0, .ref (o 0)), (1, .int a1)]) hx hb dX7_pair_109 rfl hl (by decide) rfl (fun ls hl => ?_)
                      refine lv_iinc (v := nI (i + 1)) (lv' := [(3, .int (nI (i + 1))), (2, .int (nI i)), (4, .int ((nI m9) - (nI m0))), (0, .ref (o 0)), (1, .int a1)]) hx hb dX7_pair_110 hl (k := 2) rfl (nI_add i 1) (by decide) rfl (fun ls hl => ?_)
                      refine lv_goto (tgt := 29) hx hb dX7_pair_113 (by decide) ?_
                      have q14 : nI i = (((nprF G (i + 1)).1) : Int32) := (by first | exact npr_no hI h2m (by omega) c46_5 | exact npr_first hI h2m (by omega) c46_5 c51_7 | exact npr_lt (by omega) c46_5 ed9 em0 hm9 hm0 c73_8 | exact npr_ge (by omega) c46_5 ed9 em0 hm9 hm0 c73_8 c78_10 | exact npr_ey (by omega) c46_5 ed9 em0 hm9 hm0 c78_10 hl0 en0 c101_12 | exact npr_en (by omega) c46_5 ed9 em0 hm9 hm0 c78_10 hl0 en0 c101_12)
                      have hl : lv_has ls 5 [(3, .int (nI (i + 1))), (2, .int ((nprF G (i + 1)).1)), (0, .ref (o 0)), (1, .int a1)] := lv_eqL (lv_sub (l' := [(3, .int (nI (i + 1))), (2, .int (nI i)), (0, .ref (o 0)), (1, .int a1)]) hl [0, 1, 3, 4] rfl) (cg2 List.cons rfl (cg2 List.cons (congrArg (fun z => ((2 : Nat), Value.int z)) q14) (cg2 List.cons rfl (cg2 List.cons rfl rfl))))
                      exact ih (i + 1) (by omega) (by omega) _ _ w _ hl
              ·
                refine lv_iconst (v := -1) hx hb dX7_pair_54 (by decide +kernel) ?_
                refine lv_goto (tgt := 69) hx hb dX7_pair_55 (by decide) ?_
                refine lv_istore (lv' := [(4, .int (-1)), (3, .int (nI i)), (2, .int ((nprF G i).1)), (0, .ref (o 0)), (1, .int a1)]) hx hb dX7_pair_69 hl (by decide) rfl (fun ls hl => ?_)
                refine lv_iload hx hb dX7_pair_71 (lv_at hl 0 rfl) ?_
                refine x_ifR_lt (x := (-1)) (tgt := 104) hx hb dX7_pair_73 (by decide) (fun _ => ?_) (fun h => absurd h (by decide))
                refine lv_iload_n hx hb dX7_pair_104 rfl (lv_at hl 1 rfl) ?_
                refine lv_goto (tgt := 109) hx hb dX7_pair_105 (by decide) ?_
                refine lv_istore_n (lv' := [(2, .int (nI i)), (4, .int (-1)), (3, .int (nI i)), (0, .ref (o 0)), (1, .int a1)]) hx hb dX7_pair_109 rfl hl (by decide) rfl (fun ls hl => ?_)
                refine lv_iinc (v := nI (i + 1)) (lv' := [(3, .int (nI (i + 1))), (2, .int (nI i)), (4, .int (-1)), (0, .ref (o 0)), (1, .int a1)]) hx hb dX7_pair_110 hl (k := 2) rfl (nI_add i 1) (by decide) rfl (fun ls hl => ?_)
                refine lv_goto (tgt := 29) hx hb dX7_pair_113 (by decide) ?_
                have q16 : nI i = (((nprF G (i + 1)).1) : Int32) := (by first | exact npr_no hI h2m (by omega) c46_5 | exact npr_first hI h2m (by omega) c46_5 c51_7 | exact npr_lt (by omega) c46_5 ed9 em0 hm9 hm0 hx | exact npr_ge (by omega) c46_5 ed9 em0 hm9 hm0 hx hx | exact npr_ey (by omega) c46_5 ed9 em0 hm9 hm0 hx hl0 en0 hx | exact npr_en (by omega) c46_5 ed9 em0 hm9 hm0 hx hl0 en0 hx)
                have hl : lv_has ls 5 [(3, .int (nI (i + 1))), (2, .int ((nprF G (i + 1)).1)), (0, .ref (o 0)), (1, .int a1)] := lv_eqL (lv_sub (l' := [(3, .int (nI (i + 1))), (2, .int (nI i)), (0, .ref (o 0)), (1, .int a1)]) hl [0, 1, 3, 4] rfl) (cg2 List.cons rfl (cg2 List.cons (congrArg (fun z => ((2 : Nat), Value.int z)) q16) (cg2 List.cons rfl (cg2 List.cons rfl rfl))))
                exact ih (i + 1) (by omega) (by omega) _ _ w _ hl
      have q17 : 0 = (nI 0 : Int32) := rfl
      have q18 : (-1) = (((nprF G 0).1) : Int32) := rfl
      have hl : lv_has ls 5 [(3, .int (nI 0)), (2, .int ((nprF G 0).1)), (0, .ref (o 0)), (1, .int a1)] := lv_eqL (lv_sub (l' := [(3, .int 0), (2, .int (-1)), (0, .ref (o 0)), (1, .int a1)]) hl [0, 1, 2, 3] rfl) (cg2 List.cons (congrArg (fun z => ((3 : Nat), Value.int z)) q17) (cg2 List.cons (congrArg (fun z => ((2 : Nat), Value.int z)) q18) (cg2 List.cons rfl (cg2 List.cons rfl rfl))))
      exact loop_29 (9) 0 (by omega) (by omega) _ _ w _ hl
    ·
      refine lv_ldc (v := -1000004) hx hb hown (hts _ (List.mem_of_getElem? (i := 2) rfl)) dX7_pair_22 ?_
      exact x_iret C w (par_few hI (by omega) c7_1) rfl dX7_pair_24
  ·
    refine lv_ldc (v := -1000001) hx hb hown (hts _ (List.mem_of_getElem? (i := 1) rfl)) dX7_pair_10 ?_
    exact x_iret C w (par_no c7_1) rfl dX7_pair_12
set_option maxHeartbeats 1000000 in
set_option maxRecDepth 100000 in
theorem k_X7_read_ok (l : Launch) (D : va_G) (cI cS : ClassId) (tys : List (ClassId × FieldType)) (ht0 : tys[0]? = some (cI, .int)) (o : Nat → Nat) (G : St) (K : Nat → Int32) (h : Nat → Int32) (T : Nat → Int32) (tn : Int32) (f : Nat → Int32) (pl : Nat) (k : Nat) (hp : pl < 64) (hI : Inv G) (hk : k ≤ 4) : xI l yX7_read wsX7_read 5 D tys [.ref (o 0), .int (nI pl)] (mR cI o (fl G) K h (nI k) T tn f) (rdpI G (nI pl)) (mR cI o (fl (lnfG G (nI pl))) (fl G) (hpF k h (fl G)) (nI (kpN k)) T tn f) := by
  refine x_inI (cc := cX7_read) (maxL := 2) (ret := (some .int)) (by decide) rfl (Nat.le_of_ble_eq_true rfl) ?_
  intro p e s m args below meth c A ls C w hl
  have C : xC p s m meth c args cX7_read 2 wsX7_read RX7 D tys (some .int) := C
  have hx := C.1.1
  have hb := C.1.2.1
  have hts := C.1.2.2.2.2
  have hown := C.1.2.2.2.1
  have w : xW D A s.heap (mR cI o (fl G) K h (nI k) T tn f) s.heap [] := w
  have hl : lv_has ls 2 [(0, .ref (o 0)), (1, .int (nI pl))] := hl
  refine lv_aload_n hx hb dX7_read_0 rfl (lv_at hl 0 rfl) ?_
  refine x_callVv (wr := []) (w2 := mR cI o (fl G) (fl G) h (nI k) T tn f) (rest := []) (n := 0) C w hl [] (k_X7_keep l D cI cS tys ht0 o G K h (nI k) T tn f ) gX7_read_X7_keep rfl (by decide +kernel) ⟨Nat.le_of_ble_eq_true rfl, Nat.le_of_ble_eq_true rfl⟩ 0 7 rfl rfl rfl rfl (Nat.le_of_ble_eq_true rfl) [0, 1, 2, 3, 4] [] (by decide) rfl rfl (by decide) (by decide) [0, 1, 2, 3, 4] (by decide) rfl ⟨Nat.zero_le _, Nat.zero_le _⟩ dX7_read_1 (fun H locs w => ?_)
  refine lv_aload_n hx hb dX7_read_4 rfl (lv_at hl 0 rfl) ?_
  refine lv_aload_n hx hb dX7_read_5 rfl (lv_at hl 0 rfl) ?_
  refine lv_iload_n hx hb dX7_read_6 rfl (lv_at hl 1 rfl) ?_
  refine x_callVi (wr := []) (w2 := mR cI o (fl (lnfG G (nI pl))) (fl G) h (nI k) T tn f) (rest := [.ref (o 0)]) (n := 1) C w hl [.int (nI pl)] (k_X7_doRead l D cI cS tys ht0 o G (fl G) h (nI k) T tn f pl hp hI) gX7_read_X7_doRead rfl (by decide +kernel) ⟨Nat.le_of_ble_eq_true rfl, Nat.le_of_ble_eq_true rfl⟩ 0 7 rfl rfl rfl rfl (Nat.le_of_ble_eq_true rfl) [0, 1, 2, 3, 4] [] (by decide) rfl rfl (by decide) (by decide) [0, 1, 2, 3, 4] (by decide) rfl ⟨Nat.zero_le _, Nat.zero_le _⟩ dX7_read_7 (fun H locs w => ?_)
  refine x_callVi (wr := []) (w2 := mR cI o (fl (lnfG G (nI pl))) (fl G) (hpF k h (fl G)) (nI (kpN k)) T tn f) (rest := []) (n := 1) C w hl [.int (rdpI G (nI pl))] (k_X7_changed l D cI cS tys ht0 o (lnfG G (nI pl)) (fl G) h T tn f (rdpI G (nI pl)) k (vN_ok (by decide) (rdp_vN hI hp)) hk) gX7_read_X7_changed rfl (by decide +kernel) ⟨Nat.le_of_ble_eq_true rfl, Nat.le_of_ble_eq_true rfl⟩ 0 7 rfl rfl rfl rfl (Nat.le_of_ble_eq_true rfl) [0, 1, 2, 3, 4] [] (by decide) rfl rfl (by decide) (by decide) [0, 1, 2, 3, 4] (by decide) rfl ⟨Nat.zero_le _, Nat.zero_le _⟩ dX7_read_10 (fun H locs w => ?_)
  exact x_iret C w (by first | rfl | contradiction | (simp []; done)) rfl dX7_read_13
set_option maxHeartbeats 1000000 in
set_option maxRecDepth 100000 in
theorem k_X7_read_no (l : Launch) (D : va_G) (cI cS : ClassId) (tys : List (ClassId × FieldType)) (ht0 : tys[0]? = some (cI, .int)) (o : Nat → Nat) (G : St) (K : Nat → Int32) (h : Nat → Int32) (hn : Int32) (T : Nat → Int32) (tn : Int32) (f : Nat → Int32) (a1 : Int32) (hno : ¬ rg a1 64 = true) : xI l yX7_read wsX7_read 5 D tys [.ref (o 0), .int a1] (mR cI o (fl G) K h hn T tn f) (-1000001) (mR cI o (fl G) (fl G) h hn T tn f) := by
  refine x_inI (cc := cX7_read) (maxL := 2) (ret := (some .int)) (by decide) rfl (Nat.le_of_ble_eq_true rfl) ?_
  intro p e s m args below meth c A ls C w hl
  have C : xC p s m meth c args cX7_read 2 wsX7_read RX7 D tys (some .int) := C
  have hx := C.1.1
  have hb := C.1.2.1
  have hts := C.1.2.2.2.2
  have hown := C.1.2.2.2.1
  have w : xW D A s.heap (mR cI o (fl G) K h hn T tn f) s.heap [] := w
  have hl : lv_has ls 2 [(0, .ref (o 0)), (1, .int a1)] := hl
  refine lv_aload_n hx hb dX7_read_0 rfl (lv_at hl 0 rfl) ?_
  refine x_callVv (wr := []) (w2 := mR cI o (fl G) (fl G) h hn T tn f) (rest := []) (n := 0) C w hl [] (k_X7_keep l D cI cS tys ht0 o G K h hn T tn f ) gX7_read_X7_keep rfl (by decide +kernel) ⟨Nat.le_of_ble_eq_true rfl, Nat.le_of_ble_eq_true rfl⟩ 0 7 rfl rfl rfl rfl (Nat.le_of_ble_eq_true rfl) [0, 1, 2, 3, 4] [] (by decide) rfl rfl (by decide) (by decide) [0, 1, 2, 3, 4] (by decide) rfl ⟨Nat.zero_le _, Nat.zero_le _⟩ dX7_read_1 (fun H locs w => ?_)
  refine lv_aload_n hx hb dX7_read_4 rfl (lv_at hl 0 rfl) ?_
  refine lv_aload_n hx hb dX7_read_5 rfl (lv_at hl 0 rfl) ?_
  refine lv_iload_n hx hb dX7_read_6 rfl (lv_at hl 1 rfl) ?_
  refine x_callVi (wr := []) (w2 := mR cI o (fl G) (fl G) h hn T tn f) (rest := [.ref (o 0)]) (n := 1) C w hl [.int a1] (k_X7_doRead_no l D cI cS tys ht0 o G (fl G) h hn T tn f a1 hno) gX7_read_X7_doRead rfl (by decide +kernel) ⟨Nat.le_of_ble_eq_true rfl, Nat.le_of_ble_eq_true rfl⟩ 0 7 rfl rfl rfl rfl (Nat.le_of_ble_eq_true rfl) [0, 1, 2, 3, 4] [] (by decide) rfl rfl (by decide) (by decide) [0, 1, 2, 3, 4] (by decide) rfl ⟨Nat.zero_le _, Nat.zero_le _⟩ dX7_read_7 (fun H locs w => ?_)
  refine x_callVi (wr := []) (w2 := mR cI o (fl G) (fl G) h hn T tn f) (rest := []) (n := 1) C w hl [.int (-1000001)] (k_X7_changed_er l D cI cS tys ht0 o G (fl G) h hn T tn f (-1000001) (by decide)) gX7_read_X7_changed rfl (by decide +kernel) ⟨Nat.le_of_ble_eq_true rfl, Nat.le_of_ble_eq_true rfl⟩ 0 7 rfl rfl rfl rfl (Nat.le_of_ble_eq_true rfl) [0, 1, 2, 3, 4] [] (by decide) rfl rfl (by decide) (by decide) [0, 1, 2, 3, 4] (by decide) rfl ⟨Nat.zero_le _, Nat.zero_le _⟩ dX7_read_10 (fun H locs w => ?_)
  exact x_iret C w rfl rfl dX7_read_13
set_option maxHeartbeats 1000000 in
set_option maxRecDepth 100000 in
theorem k_X7_write_ok (l : Launch) (D : va_G) (cI cS : ClassId) (tys : List (ClassId × FieldType)) (ht0 : tys[0]? = some (cI, .int)) (o : Nat → Nat) (G : St) (K : Nat → Int32) (h : Nat → Int32) (T : Nat → Int32) (tn : Int32) (f : Nat → Int32) (pl : Nat) (v : Int32) (k : Nat) (hp : pl < 64) (hv : wth v 0 999 = true) (hI : Inv G) (hk : k ≤ 4) : xI l yX7_write wsX7_write 5 D tys [.ref (o 0), .int (nI pl), .int v] (mR cI o (fl G) K h (nI k) T tn f) (wptI G (nI pl) v) (mR cI o (fl (wptG G (nI pl) v)) (fl G) (hpF k h (fl G)) (nI (kpN k)) T tn f) := by
  refine x_inI (cc := cX7_write) (maxL := 3) (ret := (some .int)) (by decide) rfl (Nat.le_of_ble_eq_true rfl) ?_
  intro p e s m args below meth c A ls C w hl
  have C : xC p s m meth c args cX7_write 3 wsX7_write RX7 D tys (some .int) := C
  have hx := C.1.1
  have hb := C.1.2.1
  have hts := C.1.2.2.2.2
  have hown := C.1.2.2.2.1
  have w : xW D A s.heap (mR cI o (fl G) K h (nI k) T tn f) s.heap [] := w
  have hl : lv_has ls 3 [(0, .ref (o 0)), (1, .int (nI pl)), (2, .int v)] := hl
  refine lv_aload_n hx hb dX7_write_0 rfl (lv_at hl 0 rfl) ?_
  refine x_callVv (wr := []) (w2 := mR cI o (fl G) (fl G) h (nI k) T tn f) (rest := []) (n := 0) C w hl [] (k_X7_keep l D cI cS tys ht0 o G K h (nI k) T tn f ) gX7_write_X7_keep rfl (by decide +kernel) ⟨Nat.le_of_ble_eq_true rfl, Nat.le_of_ble_eq_true rfl⟩ 0 7 rfl rfl rfl rfl (Nat.le_of_ble_eq_true rfl) [0, 1, 2, 3, 4] [] (by decide) rfl rfl (by decide) (by decide) [0, 1, 2, 3, 4] (by decide) rfl ⟨Nat.zero_le _, Nat.zero_le _⟩ dX7_write_1 (fun H locs w => ?_)
  refine lv_aload_n hx hb dX7_write_4 rfl (lv_at hl 0 rfl) ?_
  refine lv_aload_n hx hb dX7_write_5 rfl (lv_at hl 0 rfl) ?_
  refine lv_iload_n hx hb dX7_write_6 rfl (lv_at hl 1 rfl) ?_
  refine lv_iload_n hx hb dX7_write_7 rfl (lv_at hl 2 rfl) ?_
  refine x_callVi (wr := []) (w2 := mR cI o (fl (wptG G (nI pl) v)) (fl G) h (nI k) T tn f) (rest := [.ref (o 0)]) (n := 2) C w hl [.int (nI pl), .int v] (k_X7_doWrite l D cI cS tys ht0 o G (fl G) h (nI k) T tn f pl v hp hv hI) gX7_write_X7_doWrite rfl (by decide +kernel) ⟨Nat.le_of_ble_eq_true rfl, Nat.le_of_ble_eq_true rfl⟩ 0 7 rfl rfl rfl rfl (Nat.le_of_ble_eq_true rfl) [0, 1, 2, 3, 4] [] (by decide) rfl rfl (by decide) (by decide) [0, 1, 2, 3, 4] (by decide) rfl ⟨Nat.zero_le _, Nat.zero_le _⟩ dX7_write_8 (fun H locs w => ?_)
  refine x_callVi (wr := []) (w2 := mR cI o (fl (wptG G (nI pl) v)) (fl G) (hpF k h (fl G)) (nI (kpN k)) T tn f) (rest := []) (n := 1) C w hl [.int (wptI G (nI pl) v)] (k_X7_changed l D cI cS tys ht0 o (wptG G (nI pl) v) (fl G) h T tn f (wptI G (nI pl) v) k (vN_ok (by decide) (wpt_vN _ _ _)) hk) gX7_write_X7_changed rfl (by decide +kernel) ⟨Nat.le_of_ble_eq_true rfl, Nat.le_of_ble_eq_true rfl⟩ 0 7 rfl rfl rfl rfl (Nat.le_of_ble_eq_true rfl) [0, 1, 2, 3, 4] [] (by decide) rfl rfl (by decide) (by decide) [0, 1, 2, 3, 4] (by decide) rfl ⟨Nat.zero_le _, Nat.zero_le _⟩ dX7_write_11 (fun H locs w => ?_)
  exact x_iret C w (by first | rfl | contradiction | (simp []; done)) rfl dX7_write_14
set_option maxHeartbeats 1000000 in
set_option maxRecDepth 100000 in
theorem k_X7_write_no (l : Launch) (D : va_G) (cI cS : ClassId) (tys : List (ClassId × FieldType)) (ht0 : tys[0]? = some (cI, .int)) (o : Nat → Nat) (G : St) (K : Nat → Int32) (h : Nat → Int32) (hn : Int32) (T : Nat → Int32) (tn : Int32) (f : Nat → Int32) (a1 : Int32) (a2 : Int32) (hno : ¬ (rg a1 64 = true ∧ wth a2 0 999 = true)) : xI l yX7_write wsX7_write 5 D tys [.ref (o 0), .int a1, .int a2] (mR cI o (fl G) K h hn T tn f) (-1000001) (mR cI o (fl G) (fl G) h hn T tn f) := by
  refine x_inI (cc := cX7_write) (maxL := 3) (ret := (some .int)) (by decide) rfl (Nat.le_of_ble_eq_true rfl) ?_
  intro p e s m args below meth c A ls C w hl
  have C : xC p s m meth c args cX7_write 3 wsX7_write RX7 D tys (some .int) := C
  have hx := C.1.1
  have hb := C.1.2.1
  have hts := C.1.2.2.2.2
  have hown := C.1.2.2.2.1
  have w : xW D A s.heap (mR cI o (fl G) K h hn T tn f) s.heap [] := w
  have hl : lv_has ls 3 [(0, .ref (o 0)), (1, .int a1), (2, .int a2)] := hl
  refine lv_aload_n hx hb dX7_write_0 rfl (lv_at hl 0 rfl) ?_
  refine x_callVv (wr := []) (w2 := mR cI o (fl G) (fl G) h hn T tn f) (rest := []) (n := 0) C w hl [] (k_X7_keep l D cI cS tys ht0 o G K h hn T tn f ) gX7_write_X7_keep rfl (by decide +kernel) ⟨Nat.le_of_ble_eq_true rfl, Nat.le_of_ble_eq_true rfl⟩ 0 7 rfl rfl rfl rfl (Nat.le_of_ble_eq_true rfl) [0, 1, 2, 3, 4] [] (by decide) rfl rfl (by decide) (by decide) [0, 1, 2, 3, 4] (by decide) rfl ⟨Nat.zero_le _, Nat.zero_le _⟩ dX7_write_1 (fun H locs w => ?_)
  refine lv_aload_n hx hb dX7_write_4 rfl (lv_at hl 0 rfl) ?_
  refine lv_aload_n hx hb dX7_write_5 rfl (lv_at hl 0 rfl) ?_
  refine lv_iload_n hx hb dX7_write_6 rfl (lv_at hl 1 rfl) ?_
  refine lv_iload_n hx hb dX7_write_7 rfl (lv_at hl 2 rfl) ?_
  refine x_callVi (wr := []) (w2 := mR cI o (fl G) (fl G) h hn T tn f) (rest := [.ref (o 0)]) (n := 2) C w hl [.int a1, .int a2] (k_X7_doWrite_no l D cI cS tys ht0 o G (fl G) h hn T tn f a1 a2 hno) gX7_write_X7_doWrite rfl (by decide +kernel) ⟨Nat.le_of_ble_eq_true rfl, Nat.le_of_ble_eq_true rfl⟩ 0 7 rfl rfl rfl rfl (Nat.le_of_ble_eq_true rfl) [0, 1, 2, 3, 4] [] (by decide) rfl rfl (by decide) (by decide) [0, 1, 2, 3, 4] (by decide) rfl ⟨Nat.zero_le _, Nat.zero_le _⟩ dX7_write_8 (fun H locs w => ?_)
  refine x_callVi (wr := []) (w2 := mR cI o (fl G) (fl G) h hn T tn f) (rest := []) (n := 1) C w hl [.int (-1000001)] (k_X7_changed_er l D cI cS tys ht0 o G (fl G) h hn T tn f (-1000001) (by decide)) gX7_write_X7_changed rfl (by decide +kernel) ⟨Nat.le_of_ble_eq_true rfl, Nat.le_of_ble_eq_true rfl⟩ 0 7 rfl rfl rfl rfl (Nat.le_of_ble_eq_true rfl) [0, 1, 2, 3, 4] [] (by decide) rfl rfl (by decide) (by decide) [0, 1, 2, 3, 4] (by decide) rfl ⟨Nat.zero_le _, Nat.zero_le _⟩ dX7_write_11 (fun H locs w => ?_)
  exact x_iret C w rfl rfl dX7_write_14
set_option maxHeartbeats 1000000 in
set_option maxRecDepth 100000 in
theorem k_X7_flush_ok (l : Launch) (D : va_G) (cI cS : ClassId) (tys : List (ClassId × FieldType)) (ht0 : tys[0]? = some (cI, .int)) (o : Nat → Nat) (G : St) (K : Nat → Int32) (h : Nat → Int32) (T : Nat → Int32) (tn : Int32) (f : Nat → Int32) (l1 : Nat) (k : Nat) (hl1 : l1 < 8) (h2 : G 2 l1 = 2) (hI : Inv G) (hk : k ≤ 4) : xI l yX7_flush wsX7_flush 4 D tys [.ref (o 0), .int (nI l1)] (mR cI o (fl G) K h (nI k) T tn f) (nofI (fluG G (nI l1)) 2) (mR cI o (fl (fluG G (nI l1))) (fl G) (hpF k h (fl G)) (nI (kpN k)) T tn f) := by
  refine x_inI (cc := cX7_flush) (maxL := 2) (ret := (some .int)) (by decide) rfl (Nat.le_of_ble_eq_true rfl) ?_
  intro p e s m args below meth c A ls C w hl
  have C : xC p s m meth c args cX7_flush 2 wsX7_flush RX7 D tys (some .int) := C
  have hx := C.1.1
  have hb := C.1.2.1
  have hts := C.1.2.2.2.2
  have hown := C.1.2.2.2.1
  have w : xW D A s.heap (mR cI o (fl G) K h (nI k) T tn f) s.heap [] := w
  have hl : lv_has ls 2 [(0, .ref (o 0)), (1, .int (nI l1))] := hl
  refine lv_aload_n hx hb dX7_flush_0 rfl (lv_at hl 0 rfl) ?_
  refine x_callVv (wr := []) (w2 := mR cI o (fl G) (fl G) h (nI k) T tn f) (rest := []) (n := 0) C w hl [] (k_X7_keep l D cI cS tys ht0 o G K h (nI k) T tn f ) gX7_flush_X7_keep rfl (by decide +kernel) ⟨Nat.le_of_ble_eq_true rfl, Nat.le_of_ble_eq_true rfl⟩ 0 7 rfl rfl rfl rfl (Nat.le_of_ble_eq_true rfl) [0, 1, 2, 3, 4] [] (by decide) rfl rfl (by decide) (by decide) [0, 1, 2, 3, 4] (by decide) rfl ⟨Nat.zero_le _, Nat.zero_le _⟩ dX7_flush_1 (fun H locs w => ?_)
  refine lv_aload_n hx hb dX7_flush_4 rfl (lv_at hl 0 rfl) ?_
  refine lv_aload_n hx hb dX7_flush_5 rfl (lv_at hl 0 rfl) ?_
  refine lv_iload_n hx hb dX7_flush_6 rfl (lv_at hl 1 rfl) ?_
  refine x_callVi (wr := []) (w2 := mR cI o (fl (fluG G (nI l1))) (fl G) h (nI k) T tn f) (rest := [.ref (o 0)]) (n := 1) C w hl [.int (nI l1)] (k_X7_doFlush l D cI cS tys ht0 o G (fl G) h (nI k) T tn f l1 hl1 h2 hI) gX7_flush_X7_doFlush rfl (by decide +kernel) ⟨Nat.le_of_ble_eq_true rfl, Nat.le_of_ble_eq_true rfl⟩ 0 7 rfl rfl rfl rfl (Nat.le_of_ble_eq_true rfl) [0, 1, 2, 3, 4] [] (by decide) rfl rfl (by decide) (by decide) [0, 1, 2, 3, 4] (by decide) rfl ⟨Nat.zero_le _, Nat.zero_le _⟩ dX7_flush_7 (fun H locs w => ?_)
  refine x_callVi (wr := []) (w2 := mR cI o (fl (fluG G (nI l1))) (fl G) (hpF k h (fl G)) (nI (kpN k)) T tn f) (rest := []) (n := 1) C w hl [.int (nofI (fluG G (nI l1)) 2)] (k_X7_changed l D cI cS tys ht0 o (fluG G (nI l1)) (fl G) h T tn f (nofI (fluG G (nI l1)) 2) k (vN_ok (by decide) (nof_vN _ _)) hk) gX7_flush_X7_changed rfl (by decide +kernel) ⟨Nat.le_of_ble_eq_true rfl, Nat.le_of_ble_eq_true rfl⟩ 0 7 rfl rfl rfl rfl (Nat.le_of_ble_eq_true rfl) [0, 1, 2, 3, 4] [] (by decide) rfl rfl (by decide) (by decide) [0, 1, 2, 3, 4] (by decide) rfl ⟨Nat.zero_le _, Nat.zero_le _⟩ dX7_flush_10 (fun H locs w => ?_)
  exact x_iret C w (by first | rfl | contradiction | (simp []; done)) rfl dX7_flush_13
set_option maxHeartbeats 1000000 in
set_option maxRecDepth 100000 in
theorem k_X7_flush_no (l : Launch) (D : va_G) (cI cS : ClassId) (tys : List (ClassId × FieldType)) (ht0 : tys[0]? = some (cI, .int)) (o : Nat → Nat) (G : St) (K : Nat → Int32) (h : Nat → Int32) (hn : Int32) (T : Nat → Int32) (tn : Int32) (f : Nat → Int32) (a1 : Int32) (hno : ¬ rg a1 8 = true) : xI l yX7_flush wsX7_flush 4 D tys [.ref (o 0), .int a1] (mR cI o (fl G) K h hn T tn f) (-1000001) (mR cI o (fl G) (fl G) h hn T tn f) := by
  refine x_inI (cc := cX7_flush) (maxL := 2) (ret := (some .int)) (by decide) rfl (Nat.le_of_ble_eq_true rfl) ?_
  intro p e s m args below meth c A ls C w hl
  have C : xC p s m meth c args cX7_flush 2 wsX7_flush RX7 D tys (some .int) := C
  have hx := C.1.1
  have hb := C.1.2.1
  have hts := C.1.2.2.2.2
  have hown := C.1.2.2.2.1
  have w : xW D A s.heap (mR cI o (fl G) K h hn T tn f) s.heap [] := w
  have hl : lv_has ls 2 [(0, .ref (o 0)), (1, .int a1)] := hl
  refine lv_aload_n hx hb dX7_flush_0 rfl (lv_at hl 0 rfl) ?_
  refine x_callVv (wr := []) (w2 := mR cI o (fl G) (fl G) h hn T tn f) (rest := []) (n := 0) C w hl [] (k_X7_keep l D cI cS tys ht0 o G K h hn T tn f ) gX7_flush_X7_keep rfl (by decide +kernel) ⟨Nat.le_of_ble_eq_true rfl, Nat.le_of_ble_eq_true rfl⟩ 0 7 rfl rfl rfl rfl (Nat.le_of_ble_eq_true rfl) [0, 1, 2, 3, 4] [] (by decide) rfl rfl (by decide) (by decide) [0, 1, 2, 3, 4] (by decide) rfl ⟨Nat.zero_le _, Nat.zero_le _⟩ dX7_flush_1 (fun H locs w => ?_)
  refine lv_aload_n hx hb dX7_flush_4 rfl (lv_at hl 0 rfl) ?_
  refine lv_aload_n hx hb dX7_flush_5 rfl (lv_at hl 0 rfl) ?_
  refine lv_iload_n hx hb dX7_flush_6 rfl (lv_at hl 1 rfl) ?_
  refine x_callVi (wr := []) (w2 := mR cI o (fl G) (fl G) h hn T tn f) (rest := [.ref (o 0)]) (n := 1) C w hl [.int a1] (k_X7_doFlush_no l D cI cS tys ht0 o G (fl G) h hn T tn f a1 hno) gX7_flush_X7_doFlush rfl (by decide +kernel) ⟨Nat.le_of_ble_eq_true rfl, Nat.le_of_ble_eq_true rfl⟩ 0 7 rfl rfl rfl rfl (Nat.le_of_ble_eq_true rfl) [0, 1, 2, 3, 4] [] (by decide) rfl rfl (by decide) (by decide) [0, 1, 2, 3, 4] (by decide) rfl ⟨Nat.zero_le _, Nat.zero_le _⟩ dX7_flush_7 (fun H locs w => ?_)
  refine x_callVi (wr := []) (w2 := mR cI o (fl G) (fl G) h hn T tn f) (rest := []) (n := 1) C w hl [.int (-1000001)] (k_X7_changed_er l D cI cS tys ht0 o G (fl G) h hn T tn f (-1000001) (by decide)) gX7_flush_X7_changed rfl (by decide +kernel) ⟨Nat.le_of_ble_eq_true rfl, Nat.le_of_ble_eq_true rfl⟩ 0 7 rfl rfl rfl rfl (Nat.le_of_ble_eq_true rfl) [0, 1, 2, 3, 4] [] (by decide) rfl rfl (by decide) (by decide) [0, 1, 2, 3, 4] (by decide) rfl ⟨Nat.zero_le _, Nat.zero_le _⟩ dX7_flush_10 (fun H locs w => ?_)
  exact x_iret C w rfl rfl dX7_flush_13
set_option maxHeartbeats 1000000 in
set_option maxRecDepth 100000 in
theorem k_X7_flush_np (l : Launch) (D : va_G) (cI cS : ClassId) (tys : List (ClassId × FieldType)) (ht0 : tys[0]? = some (cI, .int)) (o : Nat → Nat) (G : St) (K : Nat → Int32) (h : Nat → Int32) (hn : Int32) (T : Nat → Int32) (tn : Int32) (f : Nat → Int32) (l1 : Nat) (hl1 : l1 < 8) (h2 : ¬ G 2 l1 = 2) : xI l yX7_flush wsX7_flush 4 D tys [.ref (o 0), .int (nI l1)] (mR cI o (fl G) K h hn T tn f) (-1000002) (mR cI o (fl G) (fl G) h hn T tn f) := by
  refine x_inI (cc := cX7_flush) (maxL := 2) (ret := (some .int)) (by decide) rfl (Nat.le_of_ble_eq_true rfl) ?_
  intro p e s m args below meth c A ls C w hl
  have C : xC p s m meth c args cX7_flush 2 wsX7_flush RX7 D tys (some .int) := C
  have hx := C.1.1
  have hb := C.1.2.1
  have hts := C.1.2.2.2.2
  have hown := C.1.2.2.2.1
  have w : xW D A s.heap (mR cI o (fl G) K h hn T tn f) s.heap [] := w
  have hl : lv_has ls 2 [(0, .ref (o 0)), (1, .int (nI l1))] := hl
  refine lv_aload_n hx hb dX7_flush_0 rfl (lv_at hl 0 rfl) ?_
  refine x_callVv (wr := []) (w2 := mR cI o (fl G) (fl G) h hn T tn f) (rest := []) (n := 0) C w hl [] (k_X7_keep l D cI cS tys ht0 o G K h hn T tn f ) gX7_flush_X7_keep rfl (by decide +kernel) ⟨Nat.le_of_ble_eq_true rfl, Nat.le_of_ble_eq_true rfl⟩ 0 7 rfl rfl rfl rfl (Nat.le_of_ble_eq_true rfl) [0, 1, 2, 3, 4] [] (by decide) rfl rfl (by decide) (by decide) [0, 1, 2, 3, 4] (by decide) rfl ⟨Nat.zero_le _, Nat.zero_le _⟩ dX7_flush_1 (fun H locs w => ?_)
  refine lv_aload_n hx hb dX7_flush_4 rfl (lv_at hl 0 rfl) ?_
  refine lv_aload_n hx hb dX7_flush_5 rfl (lv_at hl 0 rfl) ?_
  refine lv_iload_n hx hb dX7_flush_6 rfl (lv_at hl 1 rfl) ?_
  refine x_callVi (wr := []) (w2 := mR cI o (fl G) (fl G) h hn T tn f) (rest := [.ref (o 0)]) (n := 1) C w hl [.int (nI l1)] (k_X7_doFlush_np l D cI cS tys ht0 o G (fl G) h hn T tn f l1 hl1 h2) gX7_flush_X7_doFlush rfl (by decide +kernel) ⟨Nat.le_of_ble_eq_true rfl, Nat.le_of_ble_eq_true rfl⟩ 0 7 rfl rfl rfl rfl (Nat.le_of_ble_eq_true rfl) [0, 1, 2, 3, 4] [] (by decide) rfl rfl (by decide) (by decide) [0, 1, 2, 3, 4] (by decide) rfl ⟨Nat.zero_le _, Nat.zero_le _⟩ dX7_flush_7 (fun H locs w => ?_)
  refine x_callVi (wr := []) (w2 := mR cI o (fl G) (fl G) h hn T tn f) (rest := []) (n := 1) C w hl [.int (-1000002)] (k_X7_changed_er l D cI cS tys ht0 o G (fl G) h hn T tn f (-1000002) (by decide)) gX7_flush_X7_changed rfl (by decide +kernel) ⟨Nat.le_of_ble_eq_true rfl, Nat.le_of_ble_eq_true rfl⟩ 0 7 rfl rfl rfl rfl (Nat.le_of_ble_eq_true rfl) [0, 1, 2, 3, 4] [] (by decide) rfl rfl (by decide) (by decide) [0, 1, 2, 3, 4] (by decide) rfl ⟨Nat.zero_le _, Nat.zero_le _⟩ dX7_flush_10 (fun H locs w => ?_)
  exact x_iret C w rfl rfl dX7_flush_13
set_option maxHeartbeats 1000000 in
set_option maxRecDepth 100000 in
theorem k_X7_tick_ok (l : Launch) (D : va_G) (cI cS : ClassId) (tys : List (ClassId × FieldType)) (ht0 : tys[0]? = some (cI, .int)) (o : Nat → Nat) (G : St) (K : Nat → Int32) (h : Nat → Int32) (T : Nat → Int32) (tn : Int32) (f : Nat → Int32) (a1 : Int32) (k : Nat) (hok : wth a1 1 99 = true) (hI : Inv G) (hk : k ≤ 4) : xI l yX7_tick wsX7_tick 6 D tys [.ref (o 0), .int a1] (mR cI o (fl G) K h (nI k) T tn f) ((tksG G (ix a1)) 7 3 - G 7 3) (mR cI o (fl (tksG G (ix a1))) (fl G) (hpF k h (fl G)) (nI (kpN k)) T tn f) := by
  refine x_inI (cc := cX7_tick) (maxL := 2) (ret := (some .int)) (by decide) rfl (Nat.le_of_ble_eq_true rfl) ?_
  intro p e s m args below meth c A ls C w hl
  have C : xC p s m meth c args cX7_tick 2 wsX7_tick RX7 D tys (some .int) := C
  have hx := C.1.1
  have hb := C.1.2.1
  have hts := C.1.2.2.2.2
  have hown := C.1.2.2.2.1
  have w : xW D A s.heap (mR cI o (fl G) K h (nI k) T tn f) s.heap [] := w
  have hl : lv_has ls 2 [(0, .ref (o 0)), (1, .int a1)] := hl
  refine lv_aload_n hx hb dX7_tick_0 rfl (lv_at hl 0 rfl) ?_
  refine x_callVv (wr := []) (w2 := mR cI o (fl G) (fl G) h (nI k) T tn f) (rest := []) (n := 0) C w hl [] (k_X7_keep l D cI cS tys ht0 o G K h (nI k) T tn f ) gX7_tick_X7_keep rfl (by decide +kernel) ⟨Nat.le_of_ble_eq_true rfl, Nat.le_of_ble_eq_true rfl⟩ 0 7 rfl rfl rfl rfl (Nat.le_of_ble_eq_true rfl) [0, 1, 2, 3, 4] [] (by decide) rfl rfl (by decide) (by decide) [0, 1, 2, 3, 4] (by decide) rfl ⟨Nat.zero_le _, Nat.zero_le _⟩ dX7_tick_1 (fun H locs w => ?_)
  refine lv_aload_n hx hb dX7_tick_4 rfl (lv_at hl 0 rfl) ?_
  refine lv_aload_n hx hb dX7_tick_5 rfl (lv_at hl 0 rfl) ?_
  refine lv_iload_n hx hb dX7_tick_6 rfl (lv_at hl 1 rfl) ?_
  refine x_callVi (wr := []) (w2 := mR cI o (fl (tksG G (ix a1))) (fl G) h (nI k) T tn f) (rest := [.ref (o 0)]) (n := 1) C w hl [.int a1] (k_X7_doTick l D cI cS tys ht0 o G (fl G) h (nI k) T tn f a1 hok hI) gX7_tick_X7_doTick rfl (by decide +kernel) ⟨Nat.le_of_ble_eq_true rfl, Nat.le_of_ble_eq_true rfl⟩ 0 7 rfl rfl rfl rfl (Nat.le_of_ble_eq_true rfl) [0, 1, 2, 3, 4] [] (by decide) rfl rfl (by decide) (by decide) [0, 1, 2, 3, 4] (by decide) rfl ⟨Nat.zero_le _, Nat.zero_le _⟩ dX7_tick_7 (fun H locs w => ?_)
  refine x_callVi (wr := []) (w2 := mR cI o (fl (tksG G (ix a1))) (fl G) (hpF k h (fl G)) (nI (kpN k)) T tn f) (rest := []) (n := 1) C w hl [.int ((tksG G (ix a1)) 7 3 - G 7 3)] (k_X7_changed l D cI cS tys ht0 o (tksG G (ix a1)) (fl G) h T tn f ((tksG G (ix a1)) 7 3 - G 7 3) k (tks_ok hI hok) hk) gX7_tick_X7_changed rfl (by decide +kernel) ⟨Nat.le_of_ble_eq_true rfl, Nat.le_of_ble_eq_true rfl⟩ 0 7 rfl rfl rfl rfl (Nat.le_of_ble_eq_true rfl) [0, 1, 2, 3, 4] [] (by decide) rfl rfl (by decide) (by decide) [0, 1, 2, 3, 4] (by decide) rfl ⟨Nat.zero_le _, Nat.zero_le _⟩ dX7_tick_10 (fun H locs w => ?_)
  exact x_iret C w rfl rfl dX7_tick_13
set_option maxHeartbeats 1000000 in
set_option maxRecDepth 100000 in
theorem k_X7_tick_no (l : Launch) (D : va_G) (cI cS : ClassId) (tys : List (ClassId × FieldType)) (ht0 : tys[0]? = some (cI, .int)) (o : Nat → Nat) (G : St) (K : Nat → Int32) (h : Nat → Int32) (hn : Int32) (T : Nat → Int32) (tn : Int32) (f : Nat → Int32) (a1 : Int32) (hno : ¬ wth a1 1 99 = true) : xI l yX7_tick wsX7_tick 6 D tys [.ref (o 0), .int a1] (mR cI o (fl G) K h hn T tn f) (-1000001) (mR cI o (fl G) (fl G) h hn T tn f) := by
  refine x_inI (cc := cX7_tick) (maxL := 2) (ret := (some .int)) (by decide) rfl (Nat.le_of_ble_eq_true rfl) ?_
  intro p e s m args below meth c A ls C w hl
  have C : xC p s m meth c args cX7_tick 2 wsX7_tick RX7 D tys (some .int) := C
  have hx := C.1.1
  have hb := C.1.2.1
  have hts := C.1.2.2.2.2
  have hown := C.1.2.2.2.1
  have w : xW D A s.heap (mR cI o (fl G) K h hn T tn f) s.heap [] := w
  have hl : lv_has ls 2 [(0, .ref (o 0)), (1, .int a1)] := hl
  refine lv_aload_n hx hb dX7_tick_0 rfl (lv_at hl 0 rfl) ?_
  refine x_callVv (wr := []) (w2 := mR cI o (fl G) (fl G) h hn T tn f) (rest := []) (n := 0) C w hl [] (k_X7_keep l D cI cS tys ht0 o G K h hn T tn f ) gX7_tick_X7_keep rfl (by decide +kernel) ⟨Nat.le_of_ble_eq_true rfl, Nat.le_of_ble_eq_true rfl⟩ 0 7 rfl rfl rfl rfl (Nat.le_of_ble_eq_true rfl) [0, 1, 2, 3, 4] [] (by decide) rfl rfl (by decide) (by decide) [0, 1, 2, 3, 4] (by decide) rfl ⟨Nat.zero_le _, Nat.zero_le _⟩ dX7_tick_1 (fun H locs w => ?_)
  refine lv_aload_n hx hb dX7_tick_4 rfl (lv_at hl 0 rfl) ?_
  refine lv_aload_n hx hb dX7_tick_5 rfl (lv_at hl 0 rfl) ?_
  refine lv_iload_n hx hb dX7_tick_6 rfl (lv_at hl 1 rfl) ?_
  refine x_callVi (wr := []) (w2 := mR cI o (fl G) (fl G) h hn T tn f) (rest := [.ref (o 0)]) (n := 1) C w hl [.int a1] (k_X7_doTick_no l D cI cS tys ht0 o G (fl G) h hn T tn f a1 hno) gX7_tick_X7_doTick rfl (by decide +kernel) ⟨Nat.le_of_ble_eq_true rfl, Nat.le_of_ble_eq_true rfl⟩ 0 7 rfl rfl rfl rfl (Nat.le_of_ble_eq_true rfl) [0, 1, 2, 3, 4] [] (by decide) rfl rfl (by decide) (by decide) [0, 1, 2, 3, 4] (by decide) rfl ⟨Nat.zero_le _, Nat.zero_le _⟩ dX7_tick_7 (fun H locs w => ?_)
  refine x_callVi (wr := []) (w2 := mR cI o (fl G) (fl G) h hn T tn f) (rest := []) (n := 1) C w hl [.int (-1000001)] (k_X7_changed_er l D cI cS tys ht0 o G (fl G) h hn T tn f (-1000001) (by decide)) gX7_tick_X7_changed rfl (by decide +kernel) ⟨Nat.le_of_ble_eq_true rfl, Nat.le_of_ble_eq_true rfl⟩ 0 7 rfl rfl rfl rfl (Nat.le_of_ble_eq_true rfl) [0, 1, 2, 3, 4] [] (by decide) rfl rfl (by decide) (by decide) [0, 1, 2, 3, 4] (by decide) rfl ⟨Nat.zero_le _, Nat.zero_le _⟩ dX7_tick_10 (fun H locs w => ?_)
  exact x_iret C w rfl rfl dX7_tick_13
set_option maxHeartbeats 1000000 in
set_option maxRecDepth 100000 in
theorem k_X7_load_ok (l : Launch) (D : va_G) (cI cS : ClassId) (tys : List (ClassId × FieldType)) (ht0 : tys[0]? = some (cI, .int)) (o : Nat → Nat) (G : St) (K : Nat → Int32) (h : Nat → Int32) (T : Nat → Int32) (tn : Int32) (f : Nat → Int32) (a1 : Int32) (k : Nat) (hok : wth a1 1 999 = true) (hI : Inv G) (hk : k ≤ 4) : xI l yX7_load wsX7_load 5 D tys [.ref (o 0), .int a1] (mR cI o (fl G) K h (nI k) T tn f) (tooI (useG G a1)) (mR cI o (fl (loaG G a1)) (fl G) (hpF k h (fl G)) (nI (kpN k)) T tn f) := by
  refine x_inI (cc := cX7_load) (maxL := 2) (ret := (some .int)) (by decide) rfl (Nat.le_of_ble_eq_true rfl) ?_
  intro p e s m args below meth c A ls C w hl
  have C : xC p s m meth c args cX7_load 2 wsX7_load RX7 D tys (some .int) := C
  have hx := C.1.1
  have hb := C.1.2.1
  have hts := C.1.2.2.2.2
  have hown := C.1.2.2.2.1
  have w : xW D A s.heap (mR cI o (fl G) K h (nI k) T tn f) s.heap [] := w
  have hl : lv_has ls 2 [(0, .ref (o 0)), (1, .int a1)] := hl
  refine lv_aload_n hx hb dX7_load_0 rfl (lv_at hl 0 rfl) ?_
  refine x_callVv (wr := []) (w2 := mR cI o (fl G) (fl G) h (nI k) T tn f) (rest := []) (n := 0) C w hl [] (k_X7_keep l D cI cS tys ht0 o G K h (nI k) T tn f ) gX7_load_X7_keep rfl (by decide +kernel) ⟨Nat.le_of_ble_eq_true rfl, Nat.le_of_ble_eq_true rfl⟩ 0 7 rfl rfl rfl rfl (Nat.le_of_ble_eq_true rfl) [0, 1, 2, 3, 4] [] (by decide) rfl rfl (by decide) (by decide) [0, 1, 2, 3, 4] (by decide) rfl ⟨Nat.zero_le _, Nat.zero_le _⟩ dX7_load_1 (fun H locs w => ?_)
  refine lv_aload_n hx hb dX7_load_4 rfl (lv_at hl 0 rfl) ?_
  refine lv_aload_n hx hb dX7_load_5 rfl (lv_at hl 0 rfl) ?_
  refine lv_iload_n hx hb dX7_load_6 rfl (lv_at hl 1 rfl) ?_
  refine x_callVi (wr := []) (w2 := mR cI o (fl (loaG G a1)) (fl G) h (nI k) T tn f) (rest := [.ref (o 0)]) (n := 1) C w hl [.int a1] (k_X7_doLoad l D cI cS tys ht0 o G (fl G) h (nI k) T tn f a1 hok hI) gX7_load_X7_doLoad rfl (by decide +kernel) ⟨Nat.le_of_ble_eq_true rfl, Nat.le_of_ble_eq_true rfl⟩ 0 7 rfl rfl rfl rfl (Nat.le_of_ble_eq_true rfl) [0, 1, 2, 3, 4] [] (by decide) rfl rfl (by decide) (by decide) [0, 1, 2, 3, 4] (by decide) rfl ⟨Nat.zero_le _, Nat.zero_le _⟩ dX7_load_7 (fun H locs w => ?_)
  refine x_callVi (wr := []) (w2 := mR cI o (fl (loaG G a1)) (fl G) (hpF k h (fl G)) (nI (kpN k)) T tn f) (rest := []) (n := 1) C w hl [.int (tooI (useG G a1))] (k_X7_changed l D cI cS tys ht0 o (loaG G a1) (fl G) h T tn f (tooI (useG G a1)) k (ix_ok _) hk) gX7_load_X7_changed rfl (by decide +kernel) ⟨Nat.le_of_ble_eq_true rfl, Nat.le_of_ble_eq_true rfl⟩ 0 7 rfl rfl rfl rfl (Nat.le_of_ble_eq_true rfl) [0, 1, 2, 3, 4] [] (by decide) rfl rfl (by decide) (by decide) [0, 1, 2, 3, 4] (by decide) rfl ⟨Nat.zero_le _, Nat.zero_le _⟩ dX7_load_10 (fun H locs w => ?_)
  exact x_iret C w (by first | rfl | contradiction | (simp []; done)) rfl dX7_load_13
set_option maxHeartbeats 1000000 in
set_option maxRecDepth 100000 in
theorem k_X7_load_no (l : Launch) (D : va_G) (cI cS : ClassId) (tys : List (ClassId × FieldType)) (ht0 : tys[0]? = some (cI, .int)) (o : Nat → Nat) (G : St) (K : Nat → Int32) (h : Nat → Int32) (hn : Int32) (T : Nat → Int32) (tn : Int32) (f : Nat → Int32) (a1 : Int32) (hno : ¬ wth a1 1 999 = true) : xI l yX7_load wsX7_load 5 D tys [.ref (o 0), .int a1] (mR cI o (fl G) K h hn T tn f) (-1000001) (mR cI o (fl G) (fl G) h hn T tn f) := by
  refine x_inI (cc := cX7_load) (maxL := 2) (ret := (some .int)) (by decide) rfl (Nat.le_of_ble_eq_true rfl) ?_
  intro p e s m args below meth c A ls C w hl
  have C : xC p s m meth c args cX7_load 2 wsX7_load RX7 D tys (some .int) := C
  have hx := C.1.1
  have hb := C.1.2.1
  have hts := C.1.2.2.2.2
  have hown := C.1.2.2.2.1
  have w : xW D A s.heap (mR cI o (fl G) K h hn T tn f) s.heap [] := w
  have hl : lv_has ls 2 [(0, .ref (o 0)), (1, .int a1)] := hl
  refine lv_aload_n hx hb dX7_load_0 rfl (lv_at hl 0 rfl) ?_
  refine x_callVv (wr := []) (w2 := mR cI o (fl G) (fl G) h hn T tn f) (rest := []) (n := 0) C w hl [] (k_X7_keep l D cI cS tys ht0 o G K h hn T tn f ) gX7_load_X7_keep rfl (by decide +kernel) ⟨Nat.le_of_ble_eq_true rfl, Nat.le_of_ble_eq_true rfl⟩ 0 7 rfl rfl rfl rfl (Nat.le_of_ble_eq_true rfl) [0, 1, 2, 3, 4] [] (by decide) rfl rfl (by decide) (by decide) [0, 1, 2, 3, 4] (by decide) rfl ⟨Nat.zero_le _, Nat.zero_le _⟩ dX7_load_1 (fun H locs w => ?_)
  refine lv_aload_n hx hb dX7_load_4 rfl (lv_at hl 0 rfl) ?_
  refine lv_aload_n hx hb dX7_load_5 rfl (lv_at hl 0 rfl) ?_
  refine lv_iload_n hx hb dX7_load_6 rfl (lv_at hl 1 rfl) ?_
  refine x_callVi (wr := []) (w2 := mR cI o (fl G) (fl G) h hn T tn f) (rest := [.ref (o 0)]) (n := 1) C w hl [.int a1] (k_X7_doLoad_no l D cI cS tys ht0 o G (fl G) h hn T tn f a1 hno) gX7_load_X7_doLoad rfl (by decide +kernel) ⟨Nat.le_of_ble_eq_true rfl, Nat.le_of_ble_eq_true rfl⟩ 0 7 rfl rfl rfl rfl (Nat.le_of_ble_eq_true rfl) [0, 1, 2, 3, 4] [] (by decide) rfl rfl (by decide) (by decide) [0, 1, 2, 3, 4] (by decide) rfl ⟨Nat.zero_le _, Nat.zero_le _⟩ dX7_load_7 (fun H locs w => ?_)
  refine x_callVi (wr := []) (w2 := mR cI o (fl G) (fl G) h hn T tn f) (rest := []) (n := 1) C w hl [.int (-1000001)] (k_X7_changed_er l D cI cS tys ht0 o G (fl G) h hn T tn f (-1000001) (by decide)) gX7_load_X7_changed rfl (by decide +kernel) ⟨Nat.le_of_ble_eq_true rfl, Nat.le_of_ble_eq_true rfl⟩ 0 7 rfl rfl rfl rfl (Nat.le_of_ble_eq_true rfl) [0, 1, 2, 3, 4] [] (by decide) rfl rfl (by decide) (by decide) [0, 1, 2, 3, 4] (by decide) rfl ⟨Nat.zero_le _, Nat.zero_le _⟩ dX7_load_10 (fun H locs w => ?_)
  exact x_iret C w rfl rfl dX7_load_13
set_option maxHeartbeats 1000000 in
set_option maxRecDepth 100000 in
theorem k_X7_learn_ok (l : Launch) (D : va_G) (cI cS : ClassId) (tys : List (ClassId × FieldType)) (ht0 : tys[0]? = some (cI, .int)) (o : Nat → Nat) (G : St) (K : Nat → Int32) (h : Nat → Int32) (T : Nat → Int32) (tn : Int32) (f : Nat → Int32) (k : Nat) (hok : G 6 2 = 0) (hI : Inv G) (hk : k ≤ 4) : xI l yX7_learn wsX7_learn 5 D tys [.ref (o 0)] (mR cI o (fl G) K h (nI k) T tn f) (tooI (s2 G 6 2 1)) (mR cI o (fl (bgcG G)) (fl G) (hpF k h (fl G)) (nI (kpN k)) T tn f) := by
  refine x_inI (cc := cX7_learn) (maxL := 1) (ret := (some .int)) (by decide) rfl (Nat.le_of_ble_eq_true rfl) ?_
  intro p e s m args below meth c A ls C w hl
  have C : xC p s m meth c args cX7_learn 1 wsX7_learn RX7 D tys (some .int) := C
  have hx := C.1.1
  have hb := C.1.2.1
  have hts := C.1.2.2.2.2
  have hown := C.1.2.2.2.1
  have w : xW D A s.heap (mR cI o (fl G) K h (nI k) T tn f) s.heap [] := w
  have hl : lv_has ls 1 [(0, .ref (o 0))] := hl
  refine lv_aload_n hx hb dX7_learn_0 rfl (lv_at hl 0 rfl) ?_
  refine x_callVv (wr := []) (w2 := mR cI o (fl G) (fl G) h (nI k) T tn f) (rest := []) (n := 0) C w hl [] (k_X7_keep l D cI cS tys ht0 o G K h (nI k) T tn f ) gX7_learn_X7_keep rfl (by decide +kernel) ⟨Nat.le_of_ble_eq_true rfl, Nat.le_of_ble_eq_true rfl⟩ 0 7 rfl rfl rfl rfl (Nat.le_of_ble_eq_true rfl) [0, 1, 2, 3, 4] [] (by decide) rfl rfl (by decide) (by decide) [0, 1, 2, 3, 4] (by decide) rfl ⟨Nat.zero_le _, Nat.zero_le _⟩ dX7_learn_1 (fun H locs w => ?_)
  refine lv_aload_n hx hb dX7_learn_4 rfl (lv_at hl 0 rfl) ?_
  refine lv_aload_n hx hb dX7_learn_5 rfl (lv_at hl 0 rfl) ?_
  refine x_callVi (wr := []) (w2 := mR cI o (fl (bgcG G)) (fl G) h (nI k) T tn f) (rest := [.ref (o 0)]) (n := 0) C w hl [] (k_X7_doLearn l D cI cS tys ht0 o G (fl G) h (nI k) T tn f hok hI) gX7_learn_X7_doLearn rfl (by decide +kernel) ⟨Nat.le_of_ble_eq_true rfl, Nat.le_of_ble_eq_true rfl⟩ 0 7 rfl rfl rfl rfl (Nat.le_of_ble_eq_true rfl) [0, 1, 2, 3, 4] [] (by decide) rfl rfl (by decide) (by decide) [0, 1, 2, 3, 4] (by decide) rfl ⟨Nat.zero_le _, Nat.zero_le _⟩ dX7_learn_6 (fun H locs w => ?_)
  refine x_callVi (wr := []) (w2 := mR cI o (fl (bgcG G)) (fl G) (hpF k h (fl G)) (nI (kpN k)) T tn f) (rest := []) (n := 1) C w hl [.int (tooI (s2 G 6 2 1))] (k_X7_changed l D cI cS tys ht0 o (bgcG G) (fl G) h T tn f (tooI (s2 G 6 2 1)) k (ix_ok _) hk) gX7_learn_X7_changed rfl (by decide +kernel) ⟨Nat.le_of_ble_eq_true rfl, Nat.le_of_ble_eq_true rfl⟩ 0 7 rfl rfl rfl rfl (Nat.le_of_ble_eq_true rfl) [0, 1, 2, 3, 4] [] (by decide) rfl rfl (by decide) (by decide) [0, 1, 2, 3, 4] (by decide) rfl ⟨Nat.zero_le _, Nat.zero_le _⟩ dX7_learn_9 (fun H locs w => ?_)
  exact x_iret C w (by first | rfl | contradiction | (simp []; done)) rfl dX7_learn_12
set_option maxHeartbeats 1000000 in
set_option maxRecDepth 100000 in
theorem k_X7_learn_np (l : Launch) (D : va_G) (cI cS : ClassId) (tys : List (ClassId × FieldType)) (ht0 : tys[0]? = some (cI, .int)) (o : Nat → Nat) (G : St) (K : Nat → Int32) (h : Nat → Int32) (hn : Int32) (T : Nat → Int32) (tn : Int32) (f : Nat → Int32) (hno : ¬ G 6 2 = 0) : xI l yX7_learn wsX7_learn 5 D tys [.ref (o 0)] (mR cI o (fl G) K h hn T tn f) (-1000002) (mR cI o (fl G) (fl G) h hn T tn f) := by
  refine x_inI (cc := cX7_learn) (maxL := 1) (ret := (some .int)) (by decide) rfl (Nat.le_of_ble_eq_true rfl) ?_
  intro p e s m args below meth c A ls C w hl
  have C : xC p s m meth c args cX7_learn 1 wsX7_learn RX7 D tys (some .int) := C
  have hx := C.1.1
  have hb := C.1.2.1
  have hts := C.1.2.2.2.2
  have hown := C.1.2.2.2.1
  have w : xW D A s.heap (mR cI o (fl G) K h hn T tn f) s.heap [] := w
  have hl : lv_has ls 1 [(0, .ref (o 0))] := hl
  refine lv_aload_n hx hb dX7_learn_0 rfl (lv_at hl 0 rfl) ?_
  refine x_callVv (wr := []) (w2 := mR cI o (fl G) (fl G) h hn T tn f) (rest := []) (n := 0) C w hl [] (k_X7_keep l D cI cS tys ht0 o G K h hn T tn f ) gX7_learn_X7_keep rfl (by decide +kernel) ⟨Nat.le_of_ble_eq_true rfl, Nat.le_of_ble_eq_true rfl⟩ 0 7 rfl rfl rfl rfl (Nat.le_of_ble_eq_true rfl) [0, 1, 2, 3, 4] [] (by decide) rfl rfl (by decide) (by decide) [0, 1, 2, 3, 4] (by decide) rfl ⟨Nat.zero_le _, Nat.zero_le _⟩ dX7_learn_1 (fun H locs w => ?_)
  refine lv_aload_n hx hb dX7_learn_4 rfl (lv_at hl 0 rfl) ?_
  refine lv_aload_n hx hb dX7_learn_5 rfl (lv_at hl 0 rfl) ?_
  refine x_callVi (wr := []) (w2 := mR cI o (fl G) (fl G) h hn T tn f) (rest := [.ref (o 0)]) (n := 0) C w hl [] (k_X7_doLearn_np l D cI cS tys ht0 o G (fl G) h hn T tn f hno) gX7_learn_X7_doLearn rfl (by decide +kernel) ⟨Nat.le_of_ble_eq_true rfl, Nat.le_of_ble_eq_true rfl⟩ 0 7 rfl rfl rfl rfl (Nat.le_of_ble_eq_true rfl) [0, 1, 2, 3, 4] [] (by decide) rfl rfl (by decide) (by decide) [0, 1, 2, 3, 4] (by decide) rfl ⟨Nat.zero_le _, Nat.zero_le _⟩ dX7_learn_6 (fun H locs w => ?_)
  refine x_callVi (wr := []) (w2 := mR cI o (fl G) (fl G) h hn T tn f) (rest := []) (n := 1) C w hl [.int (-1000002)] (k_X7_changed_er l D cI cS tys ht0 o G (fl G) h hn T tn f (-1000002) (by decide)) gX7_learn_X7_changed rfl (by decide +kernel) ⟨Nat.le_of_ble_eq_true rfl, Nat.le_of_ble_eq_true rfl⟩ 0 7 rfl rfl rfl rfl (Nat.le_of_ble_eq_true rfl) [0, 1, 2, 3, 4] [] (by decide) rfl rfl (by decide) (by decide) [0, 1, 2, 3, 4] (by decide) rfl ⟨Nat.zero_le _, Nat.zero_le _⟩ dX7_learn_9 (fun H locs w => ?_)
  exact x_iret C w rfl rfl dX7_learn_12
set_option maxHeartbeats 1000000 in
set_option maxRecDepth 100000 in
theorem k_X7_cut_ok (l : Launch) (D : va_G) (cI cS : ClassId) (tys : List (ClassId × FieldType)) (ht0 : tys[0]? = some (cI, .int)) (o : Nat → Nat) (G : St) (K : Nat → Int32) (h : Nat → Int32) (T : Nat → Int32) (tn : Int32) (f : Nat → Int32) (k : Nat) (hI : Inv G) (hk : k ≤ 4) : xI l yX7_cut wsX7_cut 4 D tys [.ref (o 0)] (mR cI o (fl G) K h (nI k) T tn f) (cutI G) (mR cI o (fl (cutG G)) (fl G) (hpF k h (fl G)) (nI (kpN k)) T tn f) := by
  refine x_inI (cc := cX7_cut) (maxL := 1) (ret := (some .int)) (by decide) rfl (Nat.le_of_ble_eq_true rfl) ?_
  intro p e s m args below meth c A ls C w hl
  have C : xC p s m meth c args cX7_cut 1 wsX7_cut RX7 D tys (some .int) := C
  have hx := C.1.1
  have hb := C.1.2.1
  have hts := C.1.2.2.2.2
  have hown := C.1.2.2.2.1
  have w : xW D A s.heap (mR cI o (fl G) K h (nI k) T tn f) s.heap [] := w
  have hl : lv_has ls 1 [(0, .ref (o 0))] := hl
  refine lv_aload_n hx hb dX7_cut_0 rfl (lv_at hl 0 rfl) ?_
  refine x_callVv (wr := []) (w2 := mR cI o (fl G) (fl G) h (nI k) T tn f) (rest := []) (n := 0) C w hl [] (k_X7_keep l D cI cS tys ht0 o G K h (nI k) T tn f ) gX7_cut_X7_keep rfl (by decide +kernel) ⟨Nat.le_of_ble_eq_true rfl, Nat.le_of_ble_eq_true rfl⟩ 0 7 rfl rfl rfl rfl (Nat.le_of_ble_eq_true rfl) [0, 1, 2, 3, 4] [] (by decide) rfl rfl (by decide) (by decide) [0, 1, 2, 3, 4] (by decide) rfl ⟨Nat.zero_le _, Nat.zero_le _⟩ dX7_cut_1 (fun H locs w => ?_)
  refine lv_aload_n hx hb dX7_cut_4 rfl (lv_at hl 0 rfl) ?_
  refine lv_aload_n hx hb dX7_cut_5 rfl (lv_at hl 0 rfl) ?_
  refine x_callVi (wr := []) (w2 := mR cI o (fl (cutG G)) (fl G) h (nI k) T tn f) (rest := [.ref (o 0)]) (n := 0) C w hl [] (k_X7_doCut l D cI cS tys ht0 o G (fl G) h (nI k) T tn f hI) gX7_cut_X7_doCut rfl (by decide +kernel) ⟨Nat.le_of_ble_eq_true rfl, Nat.le_of_ble_eq_true rfl⟩ 0 7 rfl rfl rfl rfl (Nat.le_of_ble_eq_true rfl) [0, 1, 2, 3, 4] [] (by decide) rfl rfl (by decide) (by decide) [0, 1, 2, 3, 4] (by decide) rfl ⟨Nat.zero_le _, Nat.zero_le _⟩ dX7_cut_6 (fun H locs w => ?_)
  refine x_callVi (wr := []) (w2 := mR cI o (fl (cutG G)) (fl G) (hpF k h (fl G)) (nI (kpN k)) T tn f) (rest := []) (n := 1) C w hl [.int (cutI G)] (k_X7_changed l D cI cS tys ht0 o (cutG G) (fl G) h T tn f (cutI G) k (vN_ok (by decide) (nof_vN _ _)) hk) gX7_cut_X7_changed rfl (by decide +kernel) ⟨Nat.le_of_ble_eq_true rfl, Nat.le_of_ble_eq_true rfl⟩ 0 7 rfl rfl rfl rfl (Nat.le_of_ble_eq_true rfl) [0, 1, 2, 3, 4] [] (by decide) rfl rfl (by decide) (by decide) [0, 1, 2, 3, 4] (by decide) rfl ⟨Nat.zero_le _, Nat.zero_le _⟩ dX7_cut_9 (fun H locs w => ?_)
  exact x_iret C w (by first | rfl | contradiction | (simp []; done)) rfl dX7_cut_12
set_option maxHeartbeats 1000000 in
set_option maxRecDepth 100000 in
theorem k_X7_set_0 (l : Launch) (D : va_G) (cI cS : ClassId) (tys : List (ClassId × FieldType)) (ht0 : tys[0]? = some (cI, .int)) (o : Nat → Nat) (G : St) (K : Nat → Int32) (h : Nat → Int32) (T : Nat → Int32) (tn : Int32) (f : Nat → Int32) (a2 : Int32) (k : Nat) (hok : wth a2 1 500 = true) (hI : Inv G) (hk : k ≤ 4) : xI l yX7_set wsX7_set 2 D tys [.ref (o 0), .int 0, .int a2] (mR cI o (fl G) K h (nI k) T tn f) (G 8 0) (mR cI o (fl (s2 G 8 0 a2)) (fl G) (hpF k h (fl G)) (nI (kpN k)) T tn f) := by
  refine x_inI (cc := cX7_set) (maxL := 3) (ret := (some .int)) (by decide) rfl (Nat.le_of_ble_eq_true rfl) ?_
  intro p e s m args below meth c A ls C w hl
  have C : xC p s m meth c args cX7_set 3 wsX7_set RX7 D tys (some .int) := C
  have hx := C.1.1
  have hb := C.1.2.1
  have hts := C.1.2.2.2.2
  have hown := C.1.2.2.2.1
  have w : xW D A s.heap (mR cI o (fl G) K h (nI k) T tn f) s.heap [] := w
  have hl : lv_has ls 3 [(0, .ref (o 0)), (1, .int 0), (2, .int a2)] := hl
  refine lv_aload_n hx hb dX7_set_0 rfl (lv_at hl 0 rfl) ?_
  refine x_callVv (wr := []) (w2 := mR cI o (fl G) (fl G) h (nI k) T tn f) (rest := []) (n := 0) C w hl [] (k_X7_keep l D cI cS tys ht0 o G K h (nI k) T tn f ) gX7_set_X7_keep rfl (by decide +kernel) ⟨Nat.le_of_ble_eq_true rfl, Nat.le_of_ble_eq_true rfl⟩ 0 7 rfl rfl rfl rfl (Nat.le_of_ble_eq_true rfl) [0, 1, 2, 3, 4] [] (by decide) rfl rfl (by decide) (by decide) [0, 1, 2, 3, 4] (by decide) rfl ⟨Nat.zero_le _, Nat.zero_le _⟩ dX7_set_1 (fun H locs w => ?_)
  refine lv_aload_n hx hb dX7_set_4 rfl (lv_at hl 0 rfl) ?_
  refine lv_aload_n hx hb dX7_set_5 rfl (lv_at hl 0 rfl) ?_
  refine lv_iload_n hx hb dX7_set_6 rfl (lv_at hl 1 rfl) ?_
  refine lv_iload_n hx hb dX7_set_7 rfl (lv_at hl 2 rfl) ?_
  refine x_callVi (wr := []) (w2 := mR cI o (fl (s2 G 8 0 a2)) (fl G) h (nI k) T tn f) (rest := [.ref (o 0)]) (n := 2) C w hl [.int 0, .int a2] (k_X7_doSet_0 l D cI cS tys ht0 o G (fl G) h (nI k) T tn f a2 hok) gX7_set_X7_doSet rfl (by decide +kernel) ⟨Nat.le_of_ble_eq_true rfl, Nat.le_of_ble_eq_true rfl⟩ 0 7 rfl rfl rfl rfl (Nat.le_of_ble_eq_true rfl) [0, 1, 2, 3, 4] [] (by decide) rfl rfl (by decide) (by decide) [0, 1, 2, 3, 4] (by decide) rfl ⟨Nat.zero_le _, Nat.zero_le _⟩ dX7_set_8 (fun H locs w => ?_)
  refine x_callVi (wr := []) (w2 := mR cI o (fl (s2 G 8 0 a2)) (fl G) (hpF k h (fl G)) (nI (kpN k)) T tn f) (rest := []) (n := 1) C w hl [.int (G 8 0)] (k_X7_changed l D cI cS tys ht0 o (s2 G 8 0 a2) (fl G) h T tn f (G 8 0) k (vN_ok (m := 500) (by decide) (by obtain ⟨n, -, h1, e⟩ := hI.2.2.2.2.1; exact ⟨n, h1, e⟩)) hk) gX7_set_X7_changed rfl (by decide +kernel) ⟨Nat.le_of_ble_eq_true rfl, Nat.le_of_ble_eq_true rfl⟩ 0 7 rfl rfl rfl rfl (Nat.le_of_ble_eq_true rfl) [0, 1, 2, 3, 4] [] (by decide) rfl rfl (by decide) (by decide) [0, 1, 2, 3, 4] (by decide) rfl ⟨Nat.zero_le _, Nat.zero_le _⟩ dX7_set_11 (fun H locs w => ?_)
  exact x_iret C w (by first | rfl | contradiction | (simp []; done)) rfl dX7_set_14
set_option maxHeartbeats 1000000 in
set_option maxRecDepth 100000 in
theorem k_X7_set_n0 (l : Launch) (D : va_G) (cI cS : ClassId) (tys : List (ClassId × FieldType)) (ht0 : tys[0]? = some (cI, .int)) (o : Nat → Nat) (G : St) (K : Nat → Int32) (h : Nat → Int32) (hn : Int32) (T : Nat → Int32) (tn : Int32) (f : Nat → Int32) (a2 : Int32) (hno : ¬ wth a2 1 500 = true) : xI l yX7_set wsX7_set 2 D tys [.ref (o 0), .int 0, .int a2] (mR cI o (fl G) K h hn T tn f) (-1000001) (mR cI o (fl G) (fl G) h hn T tn f) := by
  refine x_inI (cc := cX7_set) (maxL := 3) (ret := (some .int)) (by decide) rfl (Nat.le_of_ble_eq_true rfl) ?_
  intro p e s m args below meth c A ls C w hl
  have C : xC p s m meth c args cX7_set 3 wsX7_set RX7 D tys (some .int) := C
  have hx := C.1.1
  have hb := C.1.2.1
  have hts := C.1.2.2.2.2
  have hown := C.1.2.2.2.1
  have w : xW D A s.heap (mR cI o (fl G) K h hn T tn f) s.heap [] := w
  have hl : lv_has ls 3 [(0, .ref (o 0)), (1, .int 0), (2, .int a2)] := hl
  refine lv_aload_n hx hb dX7_set_0 rfl (lv_at hl 0 rfl) ?_
  refine x_callVv (wr := []) (w2 := mR cI o (fl G) (fl G) h hn T tn f) (rest := []) (n := 0) C w hl [] (k_X7_keep l D cI cS tys ht0 o G K h hn T tn f ) gX7_set_X7_keep rfl (by decide +kernel) ⟨Nat.le_of_ble_eq_true rfl, Nat.le_of_ble_eq_true rfl⟩ 0 7 rfl rfl rfl rfl (Nat.le_of_ble_eq_true rfl) [0, 1, 2, 3, 4] [] (by decide) rfl rfl (by decide) (by decide) [0, 1, 2, 3, 4] (by decide) rfl ⟨Nat.zero_le _, Nat.zero_le _⟩ dX7_set_1 (fun H locs w => ?_)
  refine lv_aload_n hx hb dX7_set_4 rfl (lv_at hl 0 rfl) ?_
  refine lv_aload_n hx hb dX7_set_5 rfl (lv_at hl 0 rfl) ?_
  refine lv_iload_n hx hb dX7_set_6 rfl (lv_at hl 1 rfl) ?_
  refine lv_iload_n hx hb dX7_set_7 rfl (lv_at hl 2 rfl) ?_
  refine x_callVi (wr := []) (w2 := mR cI o (fl G) (fl G) h hn T tn f) (rest := [.ref (o 0)]) (n := 2) C w hl [.int 0, .int a2] (k_X7_doSet_n0 l D cI cS tys ht0 o G (fl G) h hn T tn f a2 hno) gX7_set_X7_doSet rfl (by decide +kernel) ⟨Nat.le_of_ble_eq_true rfl, Nat.le_of_ble_eq_true rfl⟩ 0 7 rfl rfl rfl rfl (Nat.le_of_ble_eq_true rfl) [0, 1, 2, 3, 4] [] (by decide) rfl rfl (by decide) (by decide) [0, 1, 2, 3, 4] (by decide) rfl ⟨Nat.zero_le _, Nat.zero_le _⟩ dX7_set_8 (fun H locs w => ?_)
  refine x_callVi (wr := []) (w2 := mR cI o (fl G) (fl G) h hn T tn f) (rest := []) (n := 1) C w hl [.int (-1000001)] (k_X7_changed_er l D cI cS tys ht0 o G (fl G) h hn T tn f (-1000001) (by decide)) gX7_set_X7_changed rfl (by decide +kernel) ⟨Nat.le_of_ble_eq_true rfl, Nat.le_of_ble_eq_true rfl⟩ 0 7 rfl rfl rfl rfl (Nat.le_of_ble_eq_true rfl) [0, 1, 2, 3, 4] [] (by decide) rfl rfl (by decide) (by decide) [0, 1, 2, 3, 4] (by decide) rfl ⟨Nat.zero_le _, Nat.zero_le _⟩ dX7_set_11 (fun H locs w => ?_)
  exact x_iret C w rfl rfl dX7_set_14
set_option maxHeartbeats 1000000 in
set_option maxRecDepth 100000 in
theorem k_X7_set_1 (l : Launch) (D : va_G) (cI cS : ClassId) (tys : List (ClassId × FieldType)) (ht0 : tys[0]? = some (cI, .int)) (o : Nat → Nat) (G : St) (K : Nat → Int32) (h : Nat → Int32) (T : Nat → Int32) (tn : Int32) (f : Nat → Int32) (a2 : Int32) (k : Nat) (hok : wth a2 0 500 = true) (hI : Inv G) (hk : k ≤ 4) : xI l yX7_set wsX7_set 2 D tys [.ref (o 0), .int 1, .int a2] (mR cI o (fl G) K h (nI k) T tn f) (G 8 1) (mR cI o (fl (s2 G 8 1 a2)) (fl G) (hpF k h (fl G)) (nI (kpN k)) T tn f) := by
  refine x_inI (cc := cX7_set) (maxL := 3) (ret := (some .int)) (by decide) rfl (Nat.le_of_ble_eq_true rfl) ?_
  intro p e s m args below meth c A ls C w hl
  have C : xC p s m meth c args cX7_set 3 wsX7_set RX7 D tys (some .int) := C
  have hx := C.1.1
  have hb := C.1.2.1
  have hts := C.1.2.2.2.2
  have hown := C.1.2.2.2.1
  have w : xW D A s.heap (mR cI o (fl G) K h (nI k) T tn f) s.heap [] := w
  have hl : lv_has ls 3 [(0, .ref (o 0)), (1, .int 1), (2, .int a2)] := hl
  refine lv_aload_n hx hb dX7_set_0 rfl (lv_at hl 0 rfl) ?_
  refine x_callVv (wr := []) (w2 := mR cI o (fl G) (fl G) h (nI k) T tn f) (rest := []) (n := 0) C w hl [] (k_X7_keep l D cI cS tys ht0 o G K h (nI k) T tn f ) gX7_set_X7_keep rfl (by decide +kernel) ⟨Nat.le_of_ble_eq_true rfl, Nat.le_of_ble_eq_true rfl⟩ 0 7 rfl rfl rfl rfl (Nat.le_of_ble_eq_true rfl) [0, 1, 2, 3, 4] [] (by decide) rfl rfl (by decide) (by decide) [0, 1, 2, 3, 4] (by decide) rfl ⟨Nat.zero_le _, Nat.zero_le _⟩ dX7_set_1 (fun H locs w => ?_)
  refine lv_aload_n hx hb dX7_set_4 rfl (lv_at hl 0 rfl) ?_
  refine lv_aload_n hx hb dX7_set_5 rfl (lv_at hl 0 rfl) ?_
  refine lv_iload_n hx hb dX7_set_6 rfl (lv_at hl 1 rfl) ?_
  refine lv_iload_n hx hb dX7_set_7 rfl (lv_at hl 2 rfl) ?_
  refine x_callVi (wr := []) (w2 := mR cI o (fl (s2 G 8 1 a2)) (fl G) h (nI k) T tn f) (rest := [.ref (o 0)]) (n := 2) C w hl [.int 1, .int a2] (k_X7_doSet_1 l D cI cS tys ht0 o G (fl G) h (nI k) T tn f a2 hok) gX7_set_X7_doSet rfl (by decide +kernel) ⟨Nat.le_of_ble_eq_true rfl, Nat.le_of_ble_eq_true rfl⟩ 0 7 rfl rfl rfl rfl (Nat.le_of_ble_eq_true rfl) [0, 1, 2, 3, 4] [] (by decide) rfl rfl (by decide) (by decide) [0, 1, 2, 3, 4] (by decide) rfl ⟨Nat.zero_le _, Nat.zero_le _⟩ dX7_set_8 (fun H locs w => ?_)
  refine x_callVi (wr := []) (w2 := mR cI o (fl (s2 G 8 1 a2)) (fl G) (hpF k h (fl G)) (nI (kpN k)) T tn f) (rest := []) (n := 1) C w hl [.int (G 8 1)] (k_X7_changed l D cI cS tys ht0 o (s2 G 8 1 a2) (fl G) h T tn f (G 8 1) k (vN_ok (by decide) hI.2.2.2.2.2.1) hk) gX7_set_X7_changed rfl (by decide +kernel) ⟨Nat.le_of_ble_eq_true rfl, Nat.le_of_ble_eq_true rfl⟩ 0 7 rfl rfl rfl rfl (Nat.le_of_ble_eq_true rfl) [0, 1, 2, 3, 4] [] (by decide) rfl rfl (by decide) (by decide) [0, 1, 2, 3, 4] (by decide) rfl ⟨Nat.zero_le _, Nat.zero_le _⟩ dX7_set_11 (fun H locs w => ?_)
  exact x_iret C w (by first | rfl | contradiction | (simp []; done)) rfl dX7_set_14
set_option maxHeartbeats 1000000 in
set_option maxRecDepth 100000 in
theorem k_X7_set_n1 (l : Launch) (D : va_G) (cI cS : ClassId) (tys : List (ClassId × FieldType)) (ht0 : tys[0]? = some (cI, .int)) (o : Nat → Nat) (G : St) (K : Nat → Int32) (h : Nat → Int32) (hn : Int32) (T : Nat → Int32) (tn : Int32) (f : Nat → Int32) (a2 : Int32) (hno : ¬ wth a2 0 500 = true) : xI l yX7_set wsX7_set 2 D tys [.ref (o 0), .int 1, .int a2] (mR cI o (fl G) K h hn T tn f) (-1000001) (mR cI o (fl G) (fl G) h hn T tn f) := by
  refine x_inI (cc := cX7_set) (maxL := 3) (ret := (some .int)) (by decide) rfl (Nat.le_of_ble_eq_true rfl) ?_
  intro p e s m args below meth c A ls C w hl
  have C : xC p s m meth c args cX7_set 3 wsX7_set RX7 D tys (some .int) := C
  have hx := C.1.1
  have hb := C.1.2.1
  have hts := C.1.2.2.2.2
  have hown := C.1.2.2.2.1
  have w : xW D A s.heap (mR cI o (fl G) K h hn T tn f) s.heap [] := w
  have hl : lv_has ls 3 [(0, .ref (o 0)), (1, .int 1), (2, .int a2)] := hl
  refine lv_aload_n hx hb dX7_set_0 rfl (lv_at hl 0 rfl) ?_
  refine x_callVv (wr := []) (w2 := mR cI o (fl G) (fl G) h hn T tn f) (rest := []) (n := 0) C w hl [] (k_X7_keep l D cI cS tys ht0 o G K h hn T tn f ) gX7_set_X7_keep rfl (by decide +kernel) ⟨Nat.le_of_ble_eq_true rfl, Nat.le_of_ble_eq_true rfl⟩ 0 7 rfl rfl rfl rfl (Nat.le_of_ble_eq_true rfl) [0, 1, 2, 3, 4] [] (by decide) rfl rfl (by decide) (by decide) [0, 1, 2, 3, 4] (by decide) rfl ⟨Nat.zero_le _, Nat.zero_le _⟩ dX7_set_1 (fun H locs w => ?_)
  refine lv_aload_n hx hb dX7_set_4 rfl (lv_at hl 0 rfl) ?_
  refine lv_aload_n hx hb dX7_set_5 rfl (lv_at hl 0 rfl) ?_
  refine lv_iload_n hx hb dX7_set_6 rfl (lv_at hl 1 rfl) ?_
  refine lv_iload_n hx hb dX7_set_7 rfl (lv_at hl 2 rfl) ?_
  refine x_callVi (wr := []) (w2 := mR cI o (fl G) (fl G) h hn T tn f) (rest := [.ref (o 0)]) (n := 2) C w hl [.int 1, .int a2] (k_X7_doSet_n1 l D cI cS tys ht0 o G (fl G) h hn T tn f a2 hno) gX7_set_X7_doSet rfl (by decide +kernel) ⟨Nat.le_of_ble_eq_true rfl, Nat.le_of_ble_eq_true rfl⟩ 0 7 rfl rfl rfl rfl (Nat.le_of_ble_eq_true rfl) [0, 1, 2, 3, 4] [] (by decide) rfl rfl (by decide) (by decide) [0, 1, 2, 3, 4] (by decide) rfl ⟨Nat.zero_le _, Nat.zero_le _⟩ dX7_set_8 (fun H locs w => ?_)
  refine x_callVi (wr := []) (w2 := mR cI o (fl G) (fl G) h hn T tn f) (rest := []) (n := 1) C w hl [.int (-1000001)] (k_X7_changed_er l D cI cS tys ht0 o G (fl G) h hn T tn f (-1000001) (by decide)) gX7_set_X7_changed rfl (by decide +kernel) ⟨Nat.le_of_ble_eq_true rfl, Nat.le_of_ble_eq_true rfl⟩ 0 7 rfl rfl rfl rfl (Nat.le_of_ble_eq_true rfl) [0, 1, 2, 3, 4] [] (by decide) rfl rfl (by decide) (by decide) [0, 1, 2, 3, 4] (by decide) rfl ⟨Nat.zero_le _, Nat.zero_le _⟩ dX7_set_11 (fun H locs w => ?_)
  exact x_iret C w rfl rfl dX7_set_14
set_option maxHeartbeats 1000000 in
set_option maxRecDepth 100000 in
theorem k_X7_set_2 (l : Launch) (D : va_G) (cI cS : ClassId) (tys : List (ClassId × FieldType)) (ht0 : tys[0]? = some (cI, .int)) (o : Nat → Nat) (G : St) (K : Nat → Int32) (h : Nat → Int32) (T : Nat → Int32) (tn : Int32) (f : Nat → Int32) (a2 : Int32) (k : Nat) (hok : wth a2 0 200 = true) (hI : Inv G) (hk : k ≤ 4) : xI l yX7_set wsX7_set 2 D tys [.ref (o 0), .int 2, .int a2] (mR cI o (fl G) K h (nI k) T tn f) (G 8 2) (mR cI o (fl (s2 G 8 2 a2)) (fl G) (hpF k h (fl G)) (nI (kpN k)) T tn f) := by
  refine x_inI (cc := cX7_set) (maxL := 3) (ret := (some .int)) (by decide) rfl (Nat.le_of_ble_eq_true rfl) ?_
  intro p e s m args below meth c A ls C w hl
  have C : xC p s m meth c args cX7_set 3 wsX7_set RX7 D tys (some .int) := C
  have hx := C.1.1
  have hb := C.1.2.1
  have hts := C.1.2.2.2.2
  have hown := C.1.2.2.2.1
  have w : xW D A s.heap (mR cI o (fl G) K h (nI k) T tn f) s.heap [] := w
  have hl : lv_has ls 3 [(0, .ref (o 0)), (1, .int 2), (2, .int a2)] := hl
  refine lv_aload_n hx hb dX7_set_0 rfl (lv_at hl 0 rfl) ?_
  refine x_callVv (wr := []) (w2 := mR cI o (fl G) (fl G) h (nI k) T tn f) (rest := []) (n := 0) C w hl [] (k_X7_keep l D cI cS tys ht0 o G K h (nI k) T tn f ) gX7_set_X7_keep rfl (by decide +kernel) ⟨Nat.le_of_ble_eq_true rfl, Nat.le_of_ble_eq_true rfl⟩ 0 7 rfl rfl rfl rfl (Nat.le_of_ble_eq_true rfl) [0, 1, 2, 3, 4] [] (by decide) rfl rfl (by decide) (by decide) [0, 1, 2, 3, 4] (by decide) rfl ⟨Nat.zero_le _, Nat.zero_le _⟩ dX7_set_1 (fun H locs w => ?_)
  refine lv_aload_n hx hb dX7_set_4 rfl (lv_at hl 0 rfl) ?_
  refine lv_aload_n hx hb dX7_set_5 rfl (lv_at hl 0 rfl) ?_
  refine lv_iload_n hx hb dX7_set_6 rfl (lv_at hl 1 rfl) ?_
  refine lv_iload_n hx hb dX7_set_7 rfl (lv_at hl 2 rfl) ?_
  refine x_callVi (wr := []) (w2 := mR cI o (fl (s2 G 8 2 a2)) (fl G) h (nI k) T tn f) (rest := [.ref (o 0)]) (n := 2) C w hl [.int 2, .int a2] (k_X7_doSet_2 l D cI cS tys ht0 o G (fl G) h (nI k) T tn f a2 hok) gX7_set_X7_doSet rfl (by decide +kernel) ⟨Nat.le_of_ble_eq_true rfl, Nat.le_of_ble_eq_true rfl⟩ 0 7 rfl rfl rfl rfl (Nat.le_of_ble_eq_true rfl) [0, 1, 2, 3, 4] [] (by decide) rfl rfl (by decide) (by decide) [0, 1, 2, 3, 4] (by decide) rfl ⟨Nat.zero_le _, Nat.zero_le _⟩ dX7_set_8 (fun H locs w => ?_)
  refine x_callVi (wr := []) (w2 := mR cI o (fl (s2 G 8 2 a2)) (fl G) (hpF k h (fl G)) (nI (kpN k)) T tn f) (rest := []) (n := 1) C w hl [.int (G 8 2)] (k_X7_changed l D cI cS tys ht0 o (s2 G 8 2 a2) (fl G) h T tn f (G 8 2) k (vN_ok (by decide) hI.2.2.2.2.2.2.1) hk) gX7_set_X7_changed rfl (by decide +kernel) ⟨Nat.le_of_ble_eq_true rfl, Nat.le_of_ble_eq_true rfl⟩ 0 7 rfl rfl rfl rfl (Nat.le_of_ble_eq_true rfl) [0, 1, 2, 3, 4] [] (by decide) rfl rfl (by decide) (by decide) [0, 1, 2, 3, 4] (by decide) rfl ⟨Nat.zero_le _, Nat.zero_le _⟩ dX7_set_11 (fun H locs w => ?_)
  exact x_iret C w (by first | rfl | contradiction | (simp []; done)) rfl dX7_set_14
set_option maxHeartbeats 1000000 in
set_option maxRecDepth 100000 in
theorem k_X7_set_n2 (l : Launch) (D : va_G) (cI cS : ClassId) (tys : List (ClassId × FieldType)) (ht0 : tys[0]? = some (cI, .int)) (o : Nat → Nat) (G : St) (K : Nat → Int32) (h : Nat → Int32) (hn : Int32) (T : Nat → Int32) (tn : Int32) (f : Nat → Int32) (a2 : Int32) (hno : ¬ wth a2 0 200 = true) : xI l yX7_set wsX7_set 2 D tys [.ref (o 0), .int 2, .int a2] (mR cI o (fl G) K h hn T tn f) (-1000001) (mR cI o (fl G) (fl G) h hn T tn f) := by
  refine x_inI (cc := cX7_set) (maxL := 3) (ret := (some .int)) (by decide) rfl (Nat.le_of_ble_eq_true rfl) ?_
  intro p e s m args below meth c A ls C w hl
  have C : xC p s m meth c args cX7_set 3 wsX7_set RX7 D tys (some .int) := C
  have hx := C.1.1
  have hb := C.1.2.1
  have hts := C.1.2.2.2.2
  have hown := C.1.2.2.2.1
  have w : xW D A s.heap (mR cI o (fl G) K h hn T tn f) s.heap [] := w
  have hl : lv_has ls 3 [(0, .ref (o 0)), (1, .int 2), (2, .int a2)] := hl
  refine lv_aload_n hx hb dX7_set_0 rfl (lv_at hl 0 rfl) ?_
  refine x_callVv (wr := []) (w2 := mR cI o (fl G) (fl G) h hn T tn f) (rest := []) (n := 0) C w hl [] (k_X7_keep l D cI cS tys ht0 o G K h hn T tn f ) gX7_set_X7_keep rfl (by decide +kernel) ⟨Nat.le_of_ble_eq_true rfl, Nat.le_of_ble_eq_true rfl⟩ 0 7 rfl rfl rfl rfl (Nat.le_of_ble_eq_true rfl) [0, 1, 2, 3, 4] [] (by decide) rfl rfl (by decide) (by decide) [0, 1, 2, 3, 4] (by decide) rfl ⟨Nat.zero_le _, Nat.zero_le _⟩ dX7_set_1 (fun H locs w => ?_)
  refine lv_aload_n hx hb dX7_set_4 rfl (lv_at hl 0 rfl) ?_
  refine lv_aload_n hx hb dX7_set_5 rfl (lv_at hl 0 rfl) ?_
  refine lv_iload_n hx hb dX7_set_6 rfl (lv_at hl 1 rfl) ?_
  refine lv_iload_n hx hb dX7_set_7 rfl (lv_at hl 2 rfl) ?_
  refine x_callVi (wr := []) (w2 := mR cI o (fl G) (fl G) h hn T tn f) (rest := [.ref (o 0)]) (n := 2) C w hl [.int 2, .int a2] (k_X7_doSet_n2 l D cI cS tys ht0 o G (fl G) h hn T tn f a2 hno) gX7_set_X7_doSet rfl (by decide +kernel) ⟨Nat.le_of_ble_eq_true rfl, Nat.le_of_ble_eq_true rfl⟩ 0 7 rfl rfl rfl rfl (Nat.le_of_ble_eq_true rfl) [0, 1, 2, 3, 4] [] (by decide) rfl rfl (by decide) (by decide) [0, 1, 2, 3, 4] (by decide) rfl ⟨Nat.zero_le _, Nat.zero_le _⟩ dX7_set_8 (fun H locs w => ?_)
  refine x_callVi (wr := []) (w2 := mR cI o (fl G) (fl G) h hn T tn f) (rest := []) (n := 1) C w hl [.int (-1000001)] (k_X7_changed_er l D cI cS tys ht0 o G (fl G) h hn T tn f (-1000001) (by decide)) gX7_set_X7_changed rfl (by decide +kernel) ⟨Nat.le_of_ble_eq_true rfl, Nat.le_of_ble_eq_true rfl⟩ 0 7 rfl rfl rfl rfl (Nat.le_of_ble_eq_true rfl) [0, 1, 2, 3, 4] [] (by decide) rfl rfl (by decide) (by decide) [0, 1, 2, 3, 4] (by decide) rfl ⟨Nat.zero_le _, Nat.zero_le _⟩ dX7_set_11 (fun H locs w => ?_)
  exact x_iret C w rfl rfl dX7_set_14
set_option maxHeartbeats 1000000 in
set_option maxRecDepth 100000 in
theorem k_X7_set_3 (l : Launch) (D : va_G) (cI cS : ClassId) (tys : List (ClassId × FieldType)) (ht0 : tys[0]? = some (cI, .int)) (o : Nat → Nat) (G : St) (K : Nat → Int32) (h : Nat → Int32) (T : Nat → Int32) (tn : Int32) (f : Nat → Int32) (a2 : Int32) (k : Nat) (hok : wth a2 1 500 = true) (hI : Inv G) (hk : k ≤ 4) : xI l yX7_set wsX7_set 2 D tys [.ref (o 0), .int 3, .int a2] (mR cI o (fl G) K h (nI k) T tn f) (G 8 3) (mR cI o (fl (s2 G 8 3 a2)) (fl G) (hpF k h (fl G)) (nI (kpN k)) T tn f) := by
  refine x_inI (cc := cX7_set) (maxL := 3) (ret := (some .int)) (by decide) rfl (Nat.le_of_ble_eq_true rfl) ?_
  intro p e s m args below meth c A ls C w hl
  have C : xC p s m meth c args cX7_set 3 wsX7_set RX7 D tys (some .int) := C
  have hx := C.1.1
  have hb := C.1.2.1
  have hts := C.1.2.2.2.2
  have hown := C.1.2.2.2.1
  have w : xW D A s.heap (mR cI o (fl G) K h (nI k) T tn f) s.heap [] := w
  have hl : lv_has ls 3 [(0, .ref (o 0)), (1, .int 3), (2, .int a2)] := hl
  refine lv_aload_n hx hb dX7_set_0 rfl (lv_at hl 0 rfl) ?_
  refine x_callVv (wr := []) (w2 := mR cI o (fl G) (fl G) h (nI k) T tn f) (rest := []) (n := 0) C w hl [] (k_X7_keep l D cI cS tys ht0 o G K h (nI k) T tn f ) gX7_set_X7_keep rfl (by decide +kernel) ⟨Nat.le_of_ble_eq_true rfl, Nat.le_of_ble_eq_true rfl⟩ 0 7 rfl rfl rfl rfl (Nat.le_of_ble_eq_true rfl) [0, 1, 2, 3, 4] [] (by decide) rfl rfl (by decide) (by decide) [0, 1, 2, 3, 4] (by decide) rfl ⟨Nat.zero_le _, Nat.zero_le _⟩ dX7_set_1 (fun H locs w => ?_)
  refine lv_aload_n hx hb dX7_set_4 rfl (lv_at hl 0 rfl) ?_
  refine lv_aload_n hx hb dX7_set_5 rfl (lv_at hl 0 rfl) ?_
  refine lv_iload_n hx hb dX7_set_6 rfl (lv_at hl 1 rfl) ?_
  refine lv_iload_n hx hb dX7_set_7 rfl (lv_at hl 2 rfl) ?_
  refine x_callVi (wr := []) (w2 := mR cI o (fl (s2 G 8 3 a2)) (fl G) h (nI k) T tn f) (rest := [.ref (o 0)]) (n := 2) C w hl [.int 3, .int a2] (k_X7_doSet_3 l D cI cS tys ht0 o G (fl G) h (nI k) T tn f a2 hok) gX7_set_X7_doSet rfl (by decide +kernel) ⟨Nat.le_of_ble_eq_true rfl, Nat.le_of_ble_eq_true rfl⟩ 0 7 rfl rfl rfl rfl (Nat.le_of_ble_eq_true rfl) [0, 1, 2, 3, 4] [] (by decide) rfl rfl (by decide) (by decide) [0, 1, 2, 3, 4] (by decide) rfl ⟨Nat.zero_le _, Nat.zero_le _⟩ dX7_set_8 (fun H locs w => ?_)
  refine x_callVi (wr := []) (w2 := mR cI o (fl (s2 G 8 3 a2)) (fl G) (hpF k h (fl G)) (nI (kpN k)) T tn f) (rest := []) (n := 1) C w hl [.int (G 8 3)] (k_X7_changed l D cI cS tys ht0 o (s2 G 8 3 a2) (fl G) h T tn f (G 8 3) k (vN_ok (m := 500) (by decide) (by obtain ⟨n, -, h1, e⟩ := hI.2.2.2.2.2.2.2; exact ⟨n, h1, e⟩)) hk) gX7_set_X7_changed rfl (by decide +kernel) ⟨Nat.le_of_ble_eq_true rfl, Nat.le_of_ble_eq_true rfl⟩ 0 7 rfl rfl rfl rfl (Nat.le_of_ble_eq_true rfl) [0, 1, 2, 3, 4] [] (by decide) rfl rfl (by decide) (by decide) [0, 1, 2, 3, 4] (by decide) rfl ⟨Nat.zero_le _, Nat.zero_le _⟩ dX7_set_11 (fun H locs w => ?_)
  exact x_iret C w (by first | rfl | contradiction | (simp []; done)) rfl dX7_set_14
set_option maxHeartbeats 1000000 in
set_option maxRecDepth 100000 in
theorem k_X7_set_n3 (l : Launch) (D : va_G) (cI cS : ClassId) (tys : List (ClassId × FieldType)) (ht0 : tys[0]? = some (cI, .int)) (o : Nat → Nat) (G : St) (K : Nat → Int32) (h : Nat → Int32) (hn : Int32) (T : Nat → Int32) (tn : Int32) (f : Nat → Int32) (a2 : Int32) (hno : ¬ wth a2 1 500 = true) : xI l yX7_set wsX7_set 2 D tys [.ref (o 0), .int 3, .int a2] (mR cI o (fl G) K h hn T tn f) (-1000001) (mR cI o (fl G) (fl G) h hn T tn f) := by
  refine x_inI (cc := cX7_set) (maxL := 3) (ret := (some .int)) (by decide) rfl (Nat.le_of_ble_eq_true rfl) ?_
  intro p e s m args below meth c A ls C w hl
  have C : xC p s m meth c args cX7_set 3 wsX7_set RX7 D tys (some .int) := C
  have hx := C.1.1
  have hb := C.1.2.1
  have hts := C.1.2.2.2.2
  have hown := C.1.2.2.2.1
  have w : xW D A s.heap (mR cI o (fl G) K h hn T tn f) s.heap [] := w
  have hl : lv_has ls 3 [(0, .ref (o 0)), (1, .int 3), (2, .int a2)] := hl
  refine lv_aload_n hx hb dX7_set_0 rfl (lv_at hl 0 rfl) ?_
  refine x_callVv (wr := []) (w2 := mR cI o (fl G) (fl G) h hn T tn f) (rest := []) (n := 0) C w hl [] (k_X7_keep l D cI cS tys ht0 o G K h hn T tn f ) gX7_set_X7_keep rfl (by decide +kernel) ⟨Nat.le_of_ble_eq_true rfl, Nat.le_of_ble_eq_true rfl⟩ 0 7 rfl rfl rfl rfl (Nat.le_of_ble_eq_true rfl) [0, 1, 2, 3, 4] [] (by decide) rfl rfl (by decide) (by decide) [0, 1, 2, 3, 4] (by decide) rfl ⟨Nat.zero_le _, Nat.zero_le _⟩ dX7_set_1 (fun H locs w => ?_)
  refine lv_aload_n hx hb dX7_set_4 rfl (lv_at hl 0 rfl) ?_
  refine lv_aload_n hx hb dX7_set_5 rfl (lv_at hl 0 rfl) ?_
  refine lv_iload_n hx hb dX7_set_6 rfl (lv_at hl 1 rfl) ?_
  refine lv_iload_n hx hb dX7_set_7 rfl (lv_at hl 2 rfl) ?_
  refine x_callVi (wr := []) (w2 := mR cI o (fl G) (fl G) h hn T tn f) (rest := [.ref (o 0)]) (n := 2) C w hl [.int 3, .int a2] (k_X7_doSet_n3 l D cI cS tys ht0 o G (fl G) h hn T tn f a2 hno) gX7_set_X7_doSet rfl (by decide +kernel) ⟨Nat.le_of_ble_eq_true rfl, Nat.le_of_ble_eq_true rfl⟩ 0 7 rfl rfl rfl rfl (Nat.le_of_ble_eq_true rfl) [0, 1, 2, 3, 4] [] (by decide) rfl rfl (by decide) (by decide) [0, 1, 2, 3, 4] (by decide) rfl ⟨Nat.zero_le _, Nat.zero_le _⟩ dX7_set_8 (fun H locs w => ?_)
  refine x_callVi (wr := []) (w2 := mR cI o (fl G) (fl G) h hn T tn f) (rest := []) (n := 1) C w hl [.int (-1000001)] (k_X7_changed_er l D cI cS tys ht0 o G (fl G) h hn T tn f (-1000001) (by decide)) gX7_set_X7_changed rfl (by decide +kernel) ⟨Nat.le_of_ble_eq_true rfl, Nat.le_of_ble_eq_true rfl⟩ 0 7 rfl rfl rfl rfl (Nat.le_of_ble_eq_true rfl) [0, 1, 2, 3, 4] [] (by decide) rfl rfl (by decide) (by decide) [0, 1, 2, 3, 4] (by decide) rfl ⟨Nat.zero_le _, Nat.zero_le _⟩ dX7_set_11 (fun H locs w => ?_)
  exact x_iret C w rfl rfl dX7_set_14
set_option maxHeartbeats 1000000 in
set_option maxRecDepth 100000 in
theorem k_X7_set_nx (l : Launch) (D : va_G) (cI cS : ClassId) (tys : List (ClassId × FieldType)) (ht0 : tys[0]? = some (cI, .int)) (o : Nat → Nat) (G : St) (K : Nat → Int32) (h : Nat → Int32) (hn : Int32) (T : Nat → Int32) (tn : Int32) (f : Nat → Int32) (a1 : Int32) (a2 : Int32) (g0 : ¬ a1 = 0) (g1 : ¬ a1 = 1) (g2 : ¬ a1 = 2) (g3 : ¬ a1 = 3) : xI l yX7_set wsX7_set 2 D tys [.ref (o 0), .int a1, .int a2] (mR cI o (fl G) K h hn T tn f) (-1000001) (mR cI o (fl G) (fl G) h hn T tn f) := by
  refine x_inI (cc := cX7_set) (maxL := 3) (ret := (some .int)) (by decide) rfl (Nat.le_of_ble_eq_true rfl) ?_
  intro p e s m args below meth c A ls C w hl
  have C : xC p s m meth c args cX7_set 3 wsX7_set RX7 D tys (some .int) := C
  have hx := C.1.1
  have hb := C.1.2.1
  have hts := C.1.2.2.2.2
  have hown := C.1.2.2.2.1
  have w : xW D A s.heap (mR cI o (fl G) K h hn T tn f) s.heap [] := w
  have hl : lv_has ls 3 [(0, .ref (o 0)), (1, .int a1), (2, .int a2)] := hl
  refine lv_aload_n hx hb dX7_set_0 rfl (lv_at hl 0 rfl) ?_
  refine x_callVv (wr := []) (w2 := mR cI o (fl G) (fl G) h hn T tn f) (rest := []) (n := 0) C w hl [] (k_X7_keep l D cI cS tys ht0 o G K h hn T tn f ) gX7_set_X7_keep rfl (by decide +kernel) ⟨Nat.le_of_ble_eq_true rfl, Nat.le_of_ble_eq_true rfl⟩ 0 7 rfl rfl rfl rfl (Nat.le_of_ble_eq_true rfl) [0, 1, 2, 3, 4] [] (by decide) rfl rfl (by decide) (by decide) [0, 1, 2, 3, 4] (by decide) rfl ⟨Nat.zero_le _, Nat.zero_le _⟩ dX7_set_1 (fun H locs w => ?_)
  refine lv_aload_n hx hb dX7_set_4 rfl (lv_at hl 0 rfl) ?_
  refine lv_aload_n hx hb dX7_set_5 rfl (lv_at hl 0 rfl) ?_
  refine lv_iload_n hx hb dX7_set_6 rfl (lv_at hl 1 rfl) ?_
  refine lv_iload_n hx hb dX7_set_7 rfl (lv_at hl 2 rfl) ?_
  refine x_callVi (wr := []) (w2 := mR cI o (fl G) (fl G) h hn T tn f) (rest := [.ref (o 0)]) (n := 2) C w hl [.int a1, .int a2] (k_X7_doSet_nx l D cI cS tys ht0 o G (fl G) h hn T tn f a1 a2 g0 g1 g2 g3) gX7_set_X7_doSet rfl (by decide +kernel) ⟨Nat.le_of_ble_eq_true rfl, Nat.le_of_ble_eq_true rfl⟩ 0 7 rfl rfl rfl rfl (Nat.le_of_ble_eq_true rfl) [0, 1, 2, 3, 4] [] (by decide) rfl rfl (by decide) (by decide) [0, 1, 2, 3, 4] (by decide) rfl ⟨Nat.zero_le _, Nat.zero_le _⟩ dX7_set_8 (fun H locs w => ?_)
  refine x_callVi (wr := []) (w2 := mR cI o (fl G) (fl G) h hn T tn f) (rest := []) (n := 1) C w hl [.int (-1000001)] (k_X7_changed_er l D cI cS tys ht0 o G (fl G) h hn T tn f (-1000001) (by decide)) gX7_set_X7_changed rfl (by decide +kernel) ⟨Nat.le_of_ble_eq_true rfl, Nat.le_of_ble_eq_true rfl⟩ 0 7 rfl rfl rfl rfl (Nat.le_of_ble_eq_true rfl) [0, 1, 2, 3, 4] [] (by decide) rfl rfl (by decide) (by decide) [0, 1, 2, 3, 4] (by decide) rfl ⟨Nat.zero_le _, Nat.zero_le _⟩ dX7_set_11 (fun H locs w => ?_)
  exact x_iret C w rfl rfl dX7_set_14
