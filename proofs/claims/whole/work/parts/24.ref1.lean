set_option maxHeartbeats 1000000 in
set_option maxRecDepth 100000 in
theorem k_X7_in (l : Launch) (D : va_G) (cI cS : ClassId) (tys : List (ClassId × FieldType)) (ht0 : tys[0]? = some (cI, .int)) (v : Int64) (lo : Int64) (hi : Int64)  : xI l yX7_in wsX7_in 0 D tys [.long v, .long lo, .long hi] (([] : va_W)) (bI (inB v lo hi = true)) (([] : va_W)) := by
  refine x_inI (cc := cX7_in) (maxL := 6) (ret := (some .boolean)) (by decide) rfl (Nat.le_of_ble_eq_true rfl) ?_
  intro p e s m args below meth c A ls C w hl
  have C : xC p s m meth c args cX7_in 6 wsX7_in RX7 D tys (some .boolean) := C
  have hx := C.1.1
  have hb := C.1.2.1
  have hts := C.1.2.2.2.2
  have hown := C.1.2.2.2.1
  have w : xW D A s.heap (([] : va_W)) s.heap [] := w
  have hl : lv_has ls 6 [(0, .long v), (2, .long lo), (4, .long hi)] := hl
  refine lv_lload_n hx hb dX7_in_0 rfl (lv_at hl 0 rfl) ?_
  refine lv_lload_n hx hb dX7_in_1 rfl (lv_at hl 1 rfl) ?_
  refine W.lcmp (x := v) (y := lo) hx hb dX7_in_2 ?_
  refine x_ifR_lt (x := (lg_cmp v lo)) (tgt := 17) hx hb dX7_in_3 (by decide) (fun c3_1 => ?_) (fun c3_1 => ?_)
  ·
    have c3_1b := (lg_cmp_lt _ _).mp c3_1
    refine lv_iconst (v := 0) hx hb dX7_in_17 (by decide +kernel) ?_
    exact x_zret C w (Or.inl rfl) (by simp [bI, inB, c3_1b]) rfl dX7_in_18
  ·
    have c3_1b := mt (lg_cmp_lt _ _).mpr c3_1
    refine lv_lload_n hx hb dX7_in_6 rfl (lv_at hl 0 rfl) ?_
    refine lv_lload hx hb dX7_in_7 (lv_at hl 2 rfl) ?_
    refine W.lcmp (x := v) (y := hi) hx hb dX7_in_9 ?_
    refine x_ifR_gt (x := (lg_cmp v hi)) (tgt := 17) hx hb dX7_in_10 (by decide) (fun c10_2 => ?_) (fun c10_2 => ?_)
    ·
      have c10_2b := (lg_cmp_gt _ _).mp c10_2
      refine lv_iconst (v := 0) hx hb dX7_in_17 (by decide +kernel) ?_
      exact x_zret C w (Or.inl rfl) (by simp [bI, inB, c3_1b, c10_2b]) rfl dX7_in_18
    ·
      have c10_2b := mt (lg_cmp_gt _ _).mpr c10_2
      refine lv_iconst (v := 1) hx hb dX7_in_13 (by decide +kernel) ?_
      refine lv_goto (tgt := 18) hx hb dX7_in_14 (by decide) ?_
      exact x_zret C w (Or.inr rfl) (by simp [bI, inB, c3_1b, c10_2b]) rfl dX7_in_18
set_option maxHeartbeats 1000000 in
set_option maxRecDepth 100000 in
theorem k_X7_counts (l : Launch) (D : va_G) (cI cS : ClassId) (tys : List (ClassId × FieldType)) (ht0 : tys[0]? = some (cI, .int)) (o : Nat → Nat) (G : St) (K : Nat → Int32) (h : Nat → Int32) (hn : Int32) (T : Nat → Int32) (tn : Int32) (f : Nat → Int32) (w1 : Nat) (hw : w1 < 10) : xV l yX7_counts wsX7_counts 0 D tys [.ref (o 0), .int (nI w1)] (mR cI o (fl G) K h hn T tn f) (mR cI o (fl (s2 G 7 w1 (G 7 w1 + 1))) K h hn T tn f) := by
  refine x_inV (cc := cX7_counts) (maxL := 2) (ret := none) (by decide) rfl (Nat.le_of_ble_eq_true rfl) ?_
  intro p e s m args below meth c A ls C w hl
  have C : xC p s m meth c args cX7_counts 2 wsX7_counts RX7 D tys none := C
  have hx := C.1.1
  have hb := C.1.2.1
  have hts := C.1.2.2.2.2
  have hown := C.1.2.2.2.1
  have w : xW D A s.heap (mR cI o (fl G) K h hn T tn f) s.heap [] := w
  have hl : lv_has ls 2 [(0, .ref (o 0)), (1, .int (nI w1))] := hl
  refine lv_aload_n hx hb dX7_counts_0 rfl (lv_at hl 0 rfl) ?_
  refine x_get (v := .ref (o 1)) (T := TX7) C w 0 0 rfl rfl (fun _ h => List.mem_cons_of_mem _ (List.mem_append_right _ (h))) (List.mem_of_getElem? (i := 1) rfl) (by decide) rfl dX7_counts_1 ?_
  refine lv_sipush (v := 164) hx hb dX7_counts_4 (by decide +kernel) ?_
  refine lv_iload_n hx hb dX7_counts_7 rfl (lv_at hl 1 rfl) ?_
  refine x_iaddN (i := 164) (j := w1) hx hb dX7_counts_8 ?_
  refine lv_dup2_11 hx hb dX7_counts_9 rfl rfl ?_
  refine x_iald (v := G 7 w1) C w 1 0 (164 + w1) rfl ht0 rfl (by omega) (by decide) (fl_r7 _ (by omega)) dX7_counts_10 ?_
  refine lv_iconst (v := 1) hx hb dX7_counts_11 (by decide +kernel) ?_
  refine lv_iadd (x := G 7 w1) (y := 1) hx hb dX7_counts_12 ?_
  refine x_iast (ws2 := mR cI o (fl (s2 G 7 w1 ((G 7 w1) + 1))) K h hn T tn f) C w 1 0 (164 + w1) rfl ht0 rfl (by omega) (by decide) (congrArg (fun z => mR cI o z K h hn T tn f) (fl_u7 _ (i := w1) (by omega) _)) dX7_counts_13 (fun H locs w => ?_)
  exact x_vret C w (congrArg (fun z => mR cI o (fl z) K h hn T tn f) (by first | rfl | contradiction | (simp []; done))) dX7_counts_14
set_option maxHeartbeats 1000000 in
set_option maxRecDepth 100000 in
theorem k_X7_setting (l : Launch) (D : va_G) (cI cS : ClassId) (tys : List (ClassId × FieldType)) (ht0 : tys[0]? = some (cI, .int)) (o : Nat → Nat) (G : St) (K : Nat → Int32) (h : Nat → Int32) (hn : Int32) (T : Nat → Int32) (tn : Int32) (f : Nat → Int32) (w1 : Nat) (hw : w1 < 6) : xI l yX7_setting wsX7_setting 0 D tys [.ref (o 0), .int (nI w1)] (mR cI o (fl G) K h hn T tn f) (G 8 w1) (mR cI o (fl G) K h hn T tn f) := by
  refine x_inI (cc := cX7_setting) (maxL := 2) (ret := (some .int)) (by decide) rfl (Nat.le_of_ble_eq_true rfl) ?_
  intro p e s m args below meth c A ls C w hl
  have C : xC p s m meth c args cX7_setting 2 wsX7_setting RX7 D tys (some .int) := C
  have hx := C.1.1
  have hb := C.1.2.1
  have hts := C.1.2.2.2.2
  have hown := C.1.2.2.2.1
  have w : xW D A s.heap (mR cI o (fl G) K h hn T tn f) s.heap [] := w
  have hl : lv_has ls 2 [(0, .ref (o 0)), (1, .int (nI w1))] := hl
  refine lv_aload_n hx hb dX7_setting_0 rfl (lv_at hl 0 rfl) ?_
  refine x_get (v := .ref (o 1)) (T := TX7) C w 0 0 rfl rfl (fun _ h => List.mem_cons_of_mem _ (List.mem_append_right _ (h))) (List.mem_of_getElem? (i := 1) rfl) (by decide) rfl dX7_setting_1 ?_
  refine lv_sipush (v := 174) hx hb dX7_setting_4 (by decide +kernel) ?_
  refine lv_iload_n hx hb dX7_setting_7 rfl (lv_at hl 1 rfl) ?_
  refine x_iaddN (i := 174) (j := w1) hx hb dX7_setting_8 ?_
  refine x_iald (v := G 8 w1) C w 1 0 (174 + w1) rfl ht0 rfl (by omega) (by decide) (fl_r8 _ (by omega)) dX7_setting_9 ?_
  exact x_iret C w rfl rfl dX7_setting_10
set_option maxHeartbeats 1000000 in
set_option maxRecDepth 100000 in
theorem k_X7_many (l : Launch) (D : va_G) (cI cS : ClassId) (tys : List (ClassId × FieldType)) (ht0 : tys[0]? = some (cI, .int)) (o : Nat → Nat) (G : St) (K : Nat → Int32) (h : Nat → Int32) (hn : Int32) (T : Nat → Int32) (tn : Int32) (f : Nat → Int32) (k : Int32)  : xI l yX7_many wsX7_many 0 D tys [.ref (o 0), .int k] (mR cI o (fl G) K h hn T tn f) (nI (mN G k)) (mR cI o (fl G) K h hn T tn f) := by
  refine x_inI (cc := cX7_many) (maxL := 4) (ret := (some .int)) (by decide) rfl (Nat.le_of_ble_eq_true rfl) ?_
  intro p e s m args below meth c A ls C w hl
  have C : xC p s m meth c args cX7_many 4 wsX7_many RX7 D tys (some .int) := C
  have hx := C.1.1
  have hb := C.1.2.1
  have hts := C.1.2.2.2.2
  have hown := C.1.2.2.2.1
  have w : xW D A s.heap (mR cI o (fl G) K h hn T tn f) s.heap [] := w
  have hl : lv_has ls 4 [(0, .ref (o 0)), (1, .int k)] := hl
  refine lv_iconst (v := 0) hx hb dX7_many_0 (by decide +kernel) ?_
  refine lv_istore_n (lv' := [(2, .int 0), (0, .ref (o 0)), (1, .int k)]) hx hb dX7_many_1 rfl hl (by decide) rfl (fun ls hl => ?_)
  refine lv_iconst (v := 0) hx hb dX7_many_2 (by decide +kernel) ?_
  refine lv_istore_n (lv' := [(3, .int 0), (2, .int 0), (0, .ref (o 0)), (1, .int k)]) hx hb dX7_many_3 rfl hl (by decide) rfl (fun ls hl => ?_)
  have loop_4 : ∀ (n : Nat) (i : Nat), 8 - i < n → (i ≤ 8) → ∀ (H : Heap) (locs : List Loc), xW D A s.heap (mR cI o (fl G) K h hn T tn f) H locs → ∀ ls : Array Slot, lv_has ls 4 [(3, .int (nI i)), (2, .int (nI (cntN (fun j => G 2 j = k) i))), (0, .ref (o 0)), (1, .int k)] → W p l e (rmd 0) s m args below meth c H locs 0 0 (MQ below (xQi D tys (nI (mN G k)) (mR cI o (fl G) K h hn T tn f) A) args s 0 0 A) (F0 m 4 ls []) := by
    intro n
    induction n with
    | zero => intro i hm; exact absurd hm (Nat.not_lt_zero _)
    | succ n ih =>
      intro i hm hi H locs w ls hl
      refine lv_iload_n hx hb dX7_many_4 rfl (lv_at hl 0 rfl) ?_
      refine lv_bipush (v := 8) hx hb dX7_many_5 (by decide +kernel) ?_
      refine x_icN_ge (i := i) (j := 8) (tgt := 38) hx hb (by omega) (by omega) dX7_many_7 (by decide) (fun c7_1 => ?_) (fun c7_1 => ?_)
      ·
        have hE : i = 8 := (by omega)
        refine lv_iload_n hx hb dX7_many_38 rfl (lv_at hl 1 rfl) ?_
        exact x_iret C w (by rw [hE]; rfl) rfl dX7_many_39
      ·
        refine lv_iload_n hx hb dX7_many_10 rfl (lv_at hl 1 rfl) ?_
        refine lv_aload_n hx hb dX7_many_11 rfl (lv_at hl 2 rfl) ?_
        refine x_get (v := .ref (o 1)) (T := TX7) C w 0 0 rfl rfl (fun _ h => List.mem_cons_of_mem _ (List.mem_append_right _ (h))) (List.mem_of_getElem? (i := 1) rfl) (by decide) rfl dX7_many_12 ?_
        refine lv_sipush (v := 128) hx hb dX7_many_15 (by decide +kernel) ?_
        refine lv_iload_n hx hb dX7_many_18 rfl (lv_at hl 0 rfl) ?_
        refine x_iaddN (i := 128) (j := i) hx hb dX7_many_19 ?_
        refine x_iald (v := G 2 i) C w 1 0 (128 + i) rfl ht0 rfl (by omega) (by decide) (fl_r2 _ (by omega)) dX7_many_20 ?_
        refine lv_iload_n hx hb dX7_many_21 rfl (lv_at hl 3 rfl) ?_
        refine x_icR_ne (x := G 2 i) (y := k) (tgt := 29) hx hb dX7_many_22 (by decide) (fun c22_2 => ?_) (fun c22_2 => ?_)
        ·
          refine lv_iconst (v := 0) hx hb dX7_many_29 (by decide +kernel) ?_
          refine x_iaddN (i := cntN (fun j => G 2 j = k) i) (j := 0) hx hb dX7_many_30 ?_
          refine lv_istore_n (lv' := [(2, .int (nI ((cntN (fun j => G 2 j = k) i) + 0))), (3, .int (nI i)), (0, .ref (o 0)), (1, .int k)]) hx hb dX7_many_31 rfl hl (by decide) rfl (fun ls hl => ?_)
          refine lv_iinc (v := nI (i + 1)) (lv' := [(3, .int (nI (i + 1))), (2, .int (nI ((cntN (fun j => G 2 j = k) i) + 0))), (0, .ref (o 0)), (1, .int k)]) hx hb dX7_many_32 hl (k := 1) rfl (nI_add i 1) (by decide) rfl (fun ls hl => ?_)
          refine lv_goto (tgt := 4) hx hb dX7_many_35 (by decide) ?_
          have q3 : nI ((cntN (fun j => G 2 j = k) i) + 0) = (nI (cntN (fun j => G 2 j = k) (i + 1)) : Int32) := (by simp [cntN, c7_1, c22_2])
          have hl : lv_has ls 4 [(3, .int (nI (i + 1))), (2, .int (nI (cntN (fun j => G 2 j = k) (i + 1)))), (0, .ref (o 0)), (1, .int k)] := lv_eqL (lv_sub (l' := [(3, .int (nI (i + 1))), (2, .int (nI ((cntN (fun j => G 2 j = k) i) + 0))), (0, .ref (o 0)), (1, .int k)]) hl [0, 1, 2, 3] rfl) (cg2 List.cons rfl (cg2 List.cons (congrArg (fun z => ((2 : Nat), Value.int z)) q3) (cg2 List.cons rfl (cg2 List.cons rfl rfl))))
          exact ih (i + 1) (by omega) (by omega) _ _ w _ hl
        ·
          refine lv_iconst (v := 1) hx hb dX7_many_25 (by decide +kernel) ?_
          refine lv_goto (tgt := 30) hx hb dX7_many_26 (by decide) ?_
          refine x_iaddN (i := cntN (fun j => G 2 j = k) i) (j := 1) hx hb dX7_many_30 ?_
          refine lv_istore_n (lv' := [(2, .int (nI ((cntN (fun j => G 2 j = k) i) + 1))), (3, .int (nI i)), (0, .ref (o 0)), (1, .int k)]) hx hb dX7_many_31 rfl hl (by decide) rfl (fun ls hl => ?_)
          refine lv_iinc (v := nI (i + 1)) (lv' := [(3, .int (nI (i + 1))), (2, .int (nI ((cntN (fun j => G 2 j = k) i) + 1))), (0, .ref (o 0)), (1, .int k)]) hx hb dX7_many_32 hl (k := 1) rfl (nI_add i 1) (by decide) rfl (fun ls hl => ?_)
          refine lv_goto (tgt := 4) hx hb dX7_many_35 (by decide) ?_
          have q4 : nI ((cntN (fun j => G 2 j = k) i) + 1) = (nI (cntN (fun j => G 2 j = k) (i + 1)) : Int32) := (by simp [cntN, c7_1, c22_2])
          have hl : lv_has ls 4 [(3, .int (nI (i + 1))), (2, .int (nI (cntN (fun j => G 2 j = k) (i + 1)))), (0, .ref (o 0)), (1, .int k)] := lv_eqL (lv_sub (l' := [(3, .int (nI (i + 1))), (2, .int (nI ((cntN (fun j => G 2 j = k) i) + 1))), (0, .ref (o 0)), (1, .int k)]) hl [0, 1, 2, 3] rfl) (cg2 List.cons rfl (cg2 List.cons (congrArg (fun z => ((2 : Nat), Value.int z)) q4) (cg2 List.cons rfl (cg2 List.cons rfl rfl))))
          exact ih (i + 1) (by omega) (by omega) _ _ w _ hl
  have q5 : 0 = (nI 0 : Int32) := (by first | rfl | contradiction | (simp []; done))
  have q6 : 0 = (nI (cntN (fun j => G 2 j = k) 0) : Int32) := (by first | rfl | contradiction | (simp []; done))
  have hl : lv_has ls 4 [(3, .int (nI 0)), (2, .int (nI (cntN (fun j => G 2 j = k) 0))), (0, .ref (o 0)), (1, .int k)] := lv_eqL (lv_sub (l' := [(3, .int 0), (2, .int 0), (0, .ref (o 0)), (1, .int k)]) hl [0, 1, 2, 3] rfl) (cg2 List.cons (congrArg (fun z => ((3 : Nat), Value.int z)) q5) (cg2 List.cons (congrArg (fun z => ((2 : Nat), Value.int z)) q6) (cg2 List.cons rfl (cg2 List.cons rfl rfl))))
  exact loop_4 (9) 0 (by omega) (by omega) _ _ w _ hl
set_option maxHeartbeats 1000000 in
set_option maxRecDepth 100000 in
theorem k_X7_oldest (l : Launch) (D : va_G) (cI cS : ClassId) (tys : List (ClassId × FieldType)) (ht0 : tys[0]? = some (cI, .int)) (o : Nat → Nat) (G : St) (K : Nat → Int32) (h : Nat → Int32) (hn : Int32) (T : Nat → Int32) (tn : Int32) (f : Nat → Int32) (k : Int32)  : xI l yX7_oldest wsX7_oldest 0 D tys [.ref (o 0), .int k] (mR cI o (fl G) K h hn T tn f) (oldI G k 8) (mR cI o (fl G) K h hn T tn f) := by
  refine x_inI (cc := cX7_oldest) (maxL := 4) (ret := (some .int)) (by decide) rfl (Nat.le_of_ble_eq_true rfl) ?_
  intro p e s m args below meth c A ls C w hl
  have C : xC p s m meth c args cX7_oldest 4 wsX7_oldest RX7 D tys (some .int) := C
  have hx := C.1.1
  have hb := C.1.2.1
  have hts := C.1.2.2.2.2
  have hown := C.1.2.2.2.1
  have w : xW D A s.heap (mR cI o (fl G) K h hn T tn f) s.heap [] := w
  have hl : lv_has ls 4 [(0, .ref (o 0)), (1, .int k)] := hl
  refine lv_iconst (v := -1) hx hb dX7_oldest_0 (by decide +kernel) ?_
  refine lv_istore_n (lv' := [(2, .int (-1)), (0, .ref (o 0)), (1, .int k)]) hx hb dX7_oldest_1 rfl hl (by decide) rfl (fun ls hl => ?_)
  refine lv_iconst (v := 0) hx hb dX7_oldest_2 (by decide +kernel) ?_
  refine lv_istore_n (lv' := [(3, .int 0), (2, .int (-1)), (0, .ref (o 0)), (1, .int k)]) hx hb dX7_oldest_3 rfl hl (by decide) rfl (fun ls hl => ?_)
  have loop_4 : ∀ (n : Nat) (i : Nat), 8 - i < n → (i ≤ 8) → ∀ (H : Heap) (locs : List Loc), xW D A s.heap (mR cI o (fl G) K h hn T tn f) H locs → ∀ ls : Array Slot, lv_has ls 4 [(3, .int (nI i)), (2, .int (oldI G k i)), (0, .ref (o 0)), (1, .int k)] → W p l e (rmd 0) s m args below meth c H locs 0 0 (MQ below (xQi D tys (oldI G k 8) (mR cI o (fl G) K h hn T tn f) A) args s 0 0 A) (F0 m 4 ls []) := by
    intro n
    induction n with
    | zero => intro i hm; exact absurd hm (Nat.not_lt_zero _)
    | succ n ih =>
      intro i hm hi H locs w ls hl
      refine lv_iload_n hx hb dX7_oldest_4 rfl (lv_at hl 0 rfl) ?_
      refine lv_bipush (v := 8) hx hb dX7_oldest_5 (by decide +kernel) ?_
      refine x_icN_ge (i := i) (j := 8) (tgt := 64) hx hb (by omega) (by omega) dX7_oldest_7 (by decide) (fun c7_1 => ?_) (fun c7_1 => ?_)
      ·
        have hE : i = 8 := (by omega)
        refine lv_iload_n hx hb dX7_oldest_64 rfl (lv_at hl 1 rfl) ?_
        exact x_iret C w (by rw [hE]) rfl dX7_oldest_65
      ·
        refine lv_aload_n hx hb dX7_oldest_10 rfl (lv_at hl 2 rfl) ?_
        refine x_get (v := .ref (o 1)) (T := TX7) C w 0 0 rfl rfl (fun _ h => List.mem_cons_of_mem _ (List.mem_append_right _ (h))) (List.mem_of_getElem? (i := 1) rfl) (by decide) rfl dX7_oldest_11 ?_
        refine lv_sipush (v := 128) hx hb dX7_oldest_14 (by decide +kernel) ?_
        refine lv_iload_n hx hb dX7_oldest_17 rfl (lv_at hl 0 rfl) ?_
        refine x_iaddN (i := 128) (j := i) hx hb dX7_oldest_18 ?_
        refine x_iald (v := G 2 i) C w 1 0 (128 + i) rfl ht0 rfl (by omega) (by decide) (fl_r2 _ (by omega)) dX7_oldest_19 ?_
        refine lv_iload_n hx hb dX7_oldest_20 rfl (lv_at hl 3 rfl) ?_
        refine x_icR_ne (x := G 2 i) (y := k) (tgt := 56) hx hb dX7_oldest_21 (by decide) (fun c21_2 => ?_) (fun c21_2 => ?_)
        ·
          refine lv_iload_n hx hb dX7_oldest_56 rfl (lv_at hl 1 rfl) ?_
          refine lv_istore_n (lv' := [(2, .int (oldI G k i)), (3, .int (nI i)), (0, .ref (o 0)), (1, .int k)]) hx hb dX7_oldest_57 rfl hl (by decide) rfl (fun ls hl => ?_)
          refine lv_iinc (v := nI (i + 1)) (lv' := [(3, .int (nI (i + 1))), (2, .int (oldI G k i)), (0, .ref (o 0)), (1, .int k)]) hx hb dX7_oldest_58 hl (k := 1) rfl (nI_add i 1) (by decide) rfl (fun ls hl => ?_)
          refine lv_goto (tgt := 4) hx hb dX7_oldest_61 (by decide) ?_
          have q3 : oldI G k i = (oldI G k (i + 1) : Int32) := (by simp [oldI, c7_1, c21_2])
          have hl : lv_has ls 4 [(3, .int (nI (i + 1))), (2, .int (oldI G k (i + 1))), (0, .ref (o 0)), (1, .int k)] := lv_eqL (lv_sub (l' := [(3, .int (nI (i + 1))), (2, .int (oldI G k i)), (0, .ref (o 0)), (1, .int k)]) hl [0, 1, 2, 3] rfl) (cg2 List.cons rfl (cg2 List.cons (congrArg (fun z => ((2 : Nat), Value.int z)) q3) (cg2 List.cons rfl (cg2 List.cons rfl rfl))))
          exact ih (i + 1) (by omega) (by omega) _ _ w _ hl
        ·
          refine lv_iload_n hx hb dX7_oldest_24 rfl (lv_at hl 1 rfl) ?_
          refine lv_iconst (v := -1) hx hb dX7_oldest_25 (by decide +kernel) ?_
          refine x_icR_eq (x := oldI G k i) (y := (-1)) (tgt := 52) hx hb dX7_oldest_26 (by decide) (fun c26_4 => ?_) (fun c26_4 => ?_)
          ·
            refine lv_iload_n hx hb dX7_oldest_52 rfl (lv_at hl 0 rfl) ?_
            refine lv_goto (tgt := 57) hx hb dX7_oldest_53 (by decide) ?_
            refine lv_istore_n (lv' := [(2, .int (nI i)), (3, .int (nI i)), (0, .ref (o 0)), (1, .int k)]) hx hb dX7_oldest_57 rfl hl (by decide) rfl (fun ls hl => ?_)
            refine lv_iinc (v := nI (i + 1)) (lv' := [(3, .int (nI (i + 1))), (2, .int (nI i)), (0, .ref (o 0)), (1, .int k)]) hx hb dX7_oldest_58 hl (k := 1) rfl (nI_add i 1) (by decide) rfl (fun ls hl => ?_)
            refine lv_goto (tgt := 4) hx hb dX7_oldest_61 (by decide) ?_
            have q5 : nI i = (oldI G k (i + 1) : Int32) := (by simp [oldI, c7_1, c21_2, c26_4])
            have hl : lv_has ls 4 [(3, .int (nI (i + 1))), (2, .int (oldI G k (i + 1))), (0, .ref (o 0)), (1, .int k)] := lv_eqL (lv_sub (l' := [(3, .int (nI (i + 1))), (2, .int (nI i)), (0, .ref (o 0)), (1, .int k)]) hl [0, 1, 2, 3] rfl) (cg2 List.cons rfl (cg2 List.cons (congrArg (fun z => ((2 : Nat), Value.int z)) q5) (cg2 List.cons rfl (cg2 List.cons rfl rfl))))
            exact ih (i + 1) (by omega) (by omega) _ _ w _ hl
          ·
            obtain ⟨l0, hl0, e0⟩ : ∃ l, l < 8 ∧ oldI G k i = nI l := old_ne hi c26_4
            refine lv_aload_n hx hb dX7_oldest_29 rfl (lv_at hl 2 rfl) ?_
            refine x_get (v := .ref (o 1)) (T := TX7) C w 0 0 rfl rfl (fun _ h => List.mem_cons_of_mem _ (List.mem_append_right _ (h))) (List.mem_of_getElem? (i := 1) rfl) (by decide) rfl dX7_oldest_30 ?_
            refine lv_sipush (v := 152) hx hb dX7_oldest_33 (by decide +kernel) ?_
            refine lv_iload_n hx hb dX7_oldest_36 rfl (lv_at hl 0 rfl) ?_
            refine x_iaddN (i := 152) (j := i) hx hb dX7_oldest_37 ?_
            refine x_iald (v := G 5 i) C w 1 0 (152 + i) rfl ht0 rfl (by omega) (by decide) (fl_r5 _ (by omega)) dX7_oldest_38 ?_
            refine lv_aload_n hx hb dX7_oldest_39 rfl (lv_at hl 2 rfl) ?_
            refine x_get (v := .ref (o 1)) (T := TX7) C w 0 0 rfl rfl (fun _ h => List.mem_cons_of_mem _ (List.mem_append_right _ (h))) (List.mem_of_getElem? (i := 1) rfl) (by decide) rfl dX7_oldest_40 ?_
            refine lv_sipush (v := 152) hx hb dX7_oldest_43 (by decide +kernel) ?_
            refine lv_iload_n hx hb dX7_oldest_46 rfl (lv_at hl 1 rfl) ?_
            refine x_top (y := nI l0) e0 ?_
            refine x_iaddN (i := 152) (j := l0) hx hb dX7_oldest_47 ?_
            refine x_iald (v := G 5 l0) C w 1 0 (152 + l0) rfl ht0 rfl (by omega) (by decide) (fl_r5 _ (by omega)) dX7_oldest_48 ?_
            refine x_top (y := btI G (oldI G k i)) (bt_eq hl0 e0) ?_
            refine x_icR_ge (x := G 5 i) (y := btI G (oldI G k i)) (tgt := 56) hx hb dX7_oldest_49 (by decide) (fun c49_6 => ?_) (fun c49_6 => ?_)
            ·
              refine lv_iload_n hx hb dX7_oldest_56 rfl (lv_at hl 1 rfl) ?_
              refine lv_istore_n (lv' := [(2, .int (oldI G k i)), (3, .int (nI i)), (0, .ref (o 0)), (1, .int k)]) hx hb dX7_oldest_57 rfl hl (by decide) rfl (fun ls hl => ?_)
              refine lv_iinc (v := nI (i + 1)) (lv' := [(3, .int (nI (i + 1))), (2, .int (oldI G k i)), (0, .ref (o 0)), (1, .int k)]) hx hb dX7_oldest_58 hl (k := 1) rfl (nI_add i 1) (by decide) rfl (fun ls hl => ?_)
              refine lv_goto (tgt := 4) hx hb dX7_oldest_61 (by decide) ?_
              have q7 : oldI G k i = (oldI G k (i + 1) : Int32) := (by simp [oldI, c7_1, c21_2, c26_4, c49_6])
              have hl : lv_has ls 4 [(3, .int (nI (i + 1))), (2, .int (oldI G k (i + 1))), (0, .ref (o 0)), (1, .int k)] := lv_eqL (lv_sub (l' := [(3, .int (nI (i + 1))), (2, .int (oldI G k i)), (0, .ref (o 0)), (1, .int k)]) hl [0, 1, 2, 3] rfl) (cg2 List.cons rfl (cg2 List.cons (congrArg (fun z => ((2 : Nat), Value.int z)) q7) (cg2 List.cons rfl (cg2 List.cons rfl rfl))))
              exact ih (i + 1) (by omega) (by omega) _ _ w _ hl
            ·
              refine lv_iload_n hx hb dX7_oldest_52 rfl (lv_at hl 0 rfl) ?_
              refine lv_goto (tgt := 57) hx hb dX7_oldest_53 (by decide) ?_
              refine lv_istore_n (lv' := [(2, .int (nI i)), (3, .int (nI i)), (0, .ref (o 0)), (1, .int k)]) hx hb dX7_oldest_57 rfl hl (by decide) rfl (fun ls hl => ?_)
              refine lv_iinc (v := nI (i + 1)) (lv' := [(3, .int (nI (i + 1))), (2, .int (nI i)), (0, .ref (o 0)), (1, .int k)]) hx hb dX7_oldest_58 hl (k := 1) rfl (nI_add i 1) (by decide) rfl (fun ls hl => ?_)
              refine lv_goto (tgt := 4) hx hb dX7_oldest_61 (by decide) ?_
              have q8 : nI i = (oldI G k (i + 1) : Int32) := (by simp [oldI, c7_1, c21_2, c26_4, c49_6])
              have hl : lv_has ls 4 [(3, .int (nI (i + 1))), (2, .int (oldI G k (i + 1))), (0, .ref (o 0)), (1, .int k)] := lv_eqL (lv_sub (l' := [(3, .int (nI (i + 1))), (2, .int (nI i)), (0, .ref (o 0)), (1, .int k)]) hl [0, 1, 2, 3] rfl) (cg2 List.cons rfl (cg2 List.cons (congrArg (fun z => ((2 : Nat), Value.int z)) q8) (cg2 List.cons rfl (cg2 List.cons rfl rfl))))
              exact ih (i + 1) (by omega) (by omega) _ _ w _ hl
  have q9 : 0 = (nI 0 : Int32) := (by first | rfl | contradiction | (simp []; done))
  have q10 : (-1) = (oldI G k 0 : Int32) := (by first | rfl | contradiction | (simp []; done))
  have hl : lv_has ls 4 [(3, .int (nI 0)), (2, .int (oldI G k 0)), (0, .ref (o 0)), (1, .int k)] := lv_eqL (lv_sub (l' := [(3, .int 0), (2, .int (-1)), (0, .ref (o 0)), (1, .int k)]) hl [0, 1, 2, 3] rfl) (cg2 List.cons (congrArg (fun z => ((3 : Nat), Value.int z)) q9) (cg2 List.cons (congrArg (fun z => ((2 : Nat), Value.int z)) q10) (cg2 List.cons rfl (cg2 List.cons rfl rfl))))
  exact loop_4 (9) 0 (by omega) (by omega) _ _ w _ hl
set_option maxHeartbeats 1000000 in
set_option maxRecDepth 100000 in
theorem k_X7_holder (l : Launch) (D : va_G) (cI cS : ClassId) (tys : List (ClassId × FieldType)) (ht0 : tys[0]? = some (cI, .int)) (o : Nat → Nat) (G : St) (K : Nat → Int32) (h : Nat → Int32) (hn : Int32) (T : Nat → Int32) (tn : Int32) (f : Nat → Int32) (pl : Int32)  : xI l yX7_holder wsX7_holder 0 D tys [.ref (o 0), .int pl] (mR cI o (fl G) K h hn T tn f) (hldI G pl) (mR cI o (fl G) K h hn T tn f) := by
  refine x_inI (cc := cX7_holder) (maxL := 3) (ret := (some .int)) (by decide) rfl (Nat.le_of_ble_eq_true rfl) ?_
  intro p e s m args below meth c A ls C w hl
  have C : xC p s m meth c args cX7_holder 3 wsX7_holder RX7 D tys (some .int) := C
  have hx := C.1.1
  have hb := C.1.2.1
  have hts := C.1.2.2.2.2
  have hown := C.1.2.2.2.1
  have w : xW D A s.heap (mR cI o (fl G) K h hn T tn f) s.heap [] := w
  have hl : lv_has ls 3 [(0, .ref (o 0)), (1, .int pl)] := hl
  refine lv_iconst (v := 0) hx hb dX7_holder_0 (by decide +kernel) ?_
  refine lv_istore_n (lv' := [(2, .int 0), (0, .ref (o 0)), (1, .int pl)]) hx hb dX7_holder_1 rfl hl (by decide) rfl (fun ls hl => ?_)
  have loop_2 : ∀ (n : Nat) (k : Nat) (i : Nat), k < n → (k + i = 8) → (fndI (fun j => ¬ G 2 j = 0 ∧ G 3 j = pl) k i = fndI (fun j => ¬ G 2 j = 0 ∧ G 3 j = pl) 8 0) → ∀ (H : Heap) (locs : List Loc), xW D A s.heap (mR cI o (fl G) K h hn T tn f) H locs → ∀ ls : Array Slot, lv_has ls 3 [(2, .int (nI i)), (0, .ref (o 0)), (1, .int pl)] → W p l e (rmd 0) s m args below meth c H locs 0 0 (MQ below (xQi D tys (hldI G pl) (mR cI o (fl G) K h hn T tn f) A) args s 0 0 A) (F0 m 2 ls []) := by
    intro n
    induction n with
    | zero => intro k i hm; exact absurd hm (Nat.not_lt_zero _)
    | succ n ih =>
      intro k i hm hk hq H locs w ls hl
      refine lv_iload_n hx hb dX7_holder_2 rfl (lv_at hl 0 rfl) ?_
      refine lv_bipush (v := 8) hx hb dX7_holder_3 (by decide +kernel) ?_
      refine x_icN_ge (i := i) (j := 8) (tgt := 43) hx hb (by omega) (by omega) dX7_holder_5 (by decide) (fun c5_1 => ?_) (fun c5_1 => ?_)
      ·
        obtain rfl : k = 0 := by omega
        refine lv_iconst (v := -1) hx hb dX7_holder_43 (by decide +kernel) ?_
        exact x_iret C w (by rw [fndI] at hq; exact hq) rfl dX7_holder_44
      ·
        obtain ⟨k', rfl⟩ : ∃ z, k = z + 1 := ⟨k - 1, by omega⟩
        rw [fndI] at hq
        refine lv_aload_n hx hb dX7_holder_8 rfl (lv_at hl 1 rfl) ?_
        refine x_get (v := .ref (o 1)) (T := TX7) C w 0 0 rfl rfl (fun _ h => List.mem_cons_of_mem _ (List.mem_append_right _ (h))) (List.mem_of_getElem? (i := 1) rfl) (by decide) rfl dX7_holder_9 ?_
        refine lv_sipush (v := 128) hx hb dX7_holder_12 (by decide +kernel) ?_
        refine lv_iload_n hx hb dX7_holder_15 rfl (lv_at hl 0 rfl) ?_
        refine x_iaddN (i := 128) (j := i) hx hb dX7_holder_16 ?_
        refine x_iald (v := G 2 i) C w 1 0 (128 + i) rfl ht0 rfl (by omega) (by decide) (fl_r2 _ (by omega)) dX7_holder_17 ?_
        refine x_ifR_eq (x := G 2 i) (tgt := 37) hx hb dX7_holder_18 (by decide) (fun c18_2 => ?_) (fun c18_2 => ?_)
        ·
          refine lv_iinc (v := nI (i + 1)) (lv' := [(2, .int (nI (i + 1))), (0, .ref (o 0)), (1, .int pl)]) hx hb dX7_holder_37 hl (k := 0) rfl (nI_add i 1) (by decide) rfl (fun ls hl => ?_)
          refine lv_goto (tgt := 2) hx hb dX7_holder_40 (by decide) ?_
          have hl : lv_has ls 3 [(2, .int (nI (i + 1))), (0, .ref (o 0)), (1, .int pl)] := lv_eqL (lv_sub (l' := [(2, .int (nI (i + 1))), (0, .ref (o 0)), (1, .int pl)]) hl [0, 1, 2] rfl) (cg2 List.cons rfl (cg2 List.cons rfl (cg2 List.cons rfl rfl)))
          exact ih k' (i + 1) (by omega) (by omega) (by simpa [c5_1, c18_2] using hq) _ _ w _ hl
        ·
          refine lv_aload_n hx hb dX7_holder_21 rfl (lv_at hl 1 rfl) ?_
          refine x_get (v := .ref (o 1)) (T := TX7) C w 0 0 rfl rfl (fun _ h => List.mem_cons_of_mem _ (List.mem_append_right _ (h))) (List.mem_of_getElem? (i := 1) rfl) (by decide) rfl dX7_holder_22 ?_
          refine lv_sipush (v := 136) hx hb dX7_holder_25 (by decide +kernel) ?_
          refine lv_iload_n hx hb dX7_holder_28 rfl (lv_at hl 0 rfl) ?_
          refine x_iaddN (i := 136) (j := i) hx hb dX7_holder_29 ?_
          refine x_iald (v := G 3 i) C w 1 0 (136 + i) rfl ht0 rfl (by omega) (by decide) (fl_r3 _ (by omega)) dX7_holder_30 ?_
          refine lv_iload_n hx hb dX7_holder_31 rfl (lv_at hl 2 rfl) ?_
          refine x_icR_ne (x := G 3 i) (y := pl) (tgt := 37) hx hb dX7_holder_32 (by decide) (fun c32_3 => ?_) (fun c32_3 => ?_)
          ·
            refine lv_iinc (v := nI (i + 1)) (lv' := [(2, .int (nI (i + 1))), (0, .ref (o 0)), (1, .int pl)]) hx hb dX7_holder_37 hl (k := 0) rfl (nI_add i 1) (by decide) rfl (fun ls hl => ?_)
            refine lv_goto (tgt := 2) hx hb dX7_holder_40 (by decide) ?_
            have hl : lv_has ls 3 [(2, .int (nI (i + 1))), (0, .ref (o 0)), (1, .int pl)] := lv_eqL (lv_sub (l' := [(2, .int (nI (i + 1))), (0, .ref (o 0)), (1, .int pl)]) hl [0, 1, 2] rfl) (cg2 List.cons rfl (cg2 List.cons rfl (cg2 List.cons rfl rfl)))
            exact ih k' (i + 1) (by omega) (by omega) (by simpa [c5_1, c18_2, c32_3] using hq) _ _ w _ hl
          ·
            refine lv_iload_n hx hb dX7_holder_35 rfl (lv_at hl 0 rfl) ?_
            exact x_iret C w (by unfold hldI; simpa [c5_1, c18_2, c32_3] using hq) rfl dX7_holder_36
  have q4 : 0 = (nI 0 : Int32) := (by first | rfl | contradiction | (simp []; done))
  have hl : lv_has ls 3 [(2, .int (nI 0)), (0, .ref (o 0)), (1, .int pl)] := lv_eqL (lv_sub (l' := [(2, .int 0), (0, .ref (o 0)), (1, .int pl)]) hl [0, 1, 2] rfl) (cg2 List.cons (congrArg (fun z => ((2 : Nat), Value.int z)) q4) (cg2 List.cons rfl (cg2 List.cons rfl rfl)))
  exact loop_2 (9) 8 0 (by omega) rfl rfl _ _ w _ hl
set_option maxHeartbeats 1000000 in
set_option maxRecDepth 100000 in
theorem k_X7_turns (l : Launch) (D : va_G) (cI cS : ClassId) (tys : List (ClassId × FieldType)) (ht0 : tys[0]? = some (cI, .int)) (o : Nat → Nat) (G : St) (K : Nat → Int32) (h : Nat → Int32) (hn : Int32) (T : Nat → Int32) (tn : Int32) (f : Nat → Int32) (l1 : Nat) (hl1 : l1 < 8) : xV l yX7_turns wsX7_turns 0 D tys [.ref (o 0), .int (nI l1)] (mR cI o (fl G) K h hn T tn f) (mR cI o (fl (trnG G (nI l1))) K h hn T tn f) := by
  refine x_inV (cc := cX7_turns) (maxL := 2) (ret := none) (by decide) rfl (Nat.le_of_ble_eq_true rfl) ?_
  intro p e s m args below meth c A ls C w hl
  have C : xC p s m meth c args cX7_turns 2 wsX7_turns RX7 D tys none := C
  have hx := C.1.1
  have hb := C.1.2.1
  have hts := C.1.2.2.2.2
  have hown := C.1.2.2.2.1
  have w : xW D A s.heap (mR cI o (fl G) K h hn T tn f) s.heap [] := w
  have hl : lv_has ls 2 [(0, .ref (o 0)), (1, .int (nI l1))] := hl
  refine lv_aload_n hx hb dX7_turns_0 rfl (lv_at hl 0 rfl) ?_
  refine x_get (v := .ref (o 1)) (T := TX7) C w 0 0 rfl rfl (fun _ h => List.mem_cons_of_mem _ (List.mem_append_right _ (h))) (List.mem_of_getElem? (i := 1) rfl) (by decide) rfl dX7_turns_1 ?_
  refine lv_sipush (v := 152) hx hb dX7_turns_4 (by decide +kernel) ?_
  refine lv_iload_n hx hb dX7_turns_7 rfl (lv_at hl 1 rfl) ?_
  refine x_iaddN (i := 152) (j := l1) hx hb dX7_turns_8 ?_
  refine lv_aload_n hx hb dX7_turns_9 rfl (lv_at hl 0 rfl) ?_
  refine x_get (v := .ref (o 1)) (T := TX7) C w 0 0 rfl rfl (fun _ h => List.mem_cons_of_mem _ (List.mem_append_right _ (h))) (List.mem_of_getElem? (i := 1) rfl) (by decide) rfl dX7_turns_10 ?_
  refine lv_sipush (v := 163) hx hb dX7_turns_13 (by decide +kernel) ?_
  refine x_iald (v := (G 9 0 + 1)) C w 1 0 (163) rfl ht0 rfl (by omega) (by decide) rfl dX7_turns_16 ?_
  refine x_iast (ws2 := mR cI o (fl (s2 G 5 l1 (G 9 0 + 1))) K h hn T tn f) C w 1 0 (152 + l1) rfl ht0 rfl (by omega) (by decide) (congrArg (fun z => mR cI o z K h hn T tn f) (fl_u5 _ (i := l1) (by omega) _)) dX7_turns_17 (fun H locs w => ?_)
  refine lv_aload_n hx hb dX7_turns_18 rfl (lv_at hl 0 rfl) ?_
  refine x_get (v := .ref (o 1)) (T := TX7) C w 0 0 rfl rfl (fun _ h => List.mem_cons_of_mem _ (List.mem_append_right _ (h))) (List.mem_of_getElem? (i := 1) rfl) (by decide) rfl dX7_turns_19 ?_
  refine lv_sipush (v := 163) hx hb dX7_turns_22 (by decide +kernel) ?_
  refine lv_dup2_11 hx hb dX7_turns_25 rfl rfl ?_
  refine x_iald (v := (G 9 0 + 1)) C w 1 0 (163) rfl ht0 rfl (by omega) (by decide) rfl dX7_turns_26 ?_
  refine lv_iconst (v := 1) hx hb dX7_turns_27 (by decide +kernel) ?_
  refine lv_iadd (x := (G 9 0 + 1)) (y := 1) hx hb dX7_turns_28 ?_
  refine x_iast (ws2 := mR cI o (fl (s2 (s2 G 5 l1 (G 9 0 + 1)) 9 0 (G 9 0 + 1))) K h hn T tn f) C w 1 0 (163) rfl ht0 rfl (by omega) (by decide) (congrArg (fun z => mR cI o z K h hn T tn f) (fl_u9 _ _)) dX7_turns_29 (fun H locs w => ?_)
  exact x_vret C w (congrArg (fun z => mR cI o (fl z) K h hn T tn f) (by rw [trn_yes G hl1])) dX7_turns_30
set_option maxHeartbeats 1000000 in
set_option maxRecDepth 100000 in
theorem k_X7_isPlace (l : Launch) (D : va_G) (cI cS : ClassId) (tys : List (ClassId × FieldType)) (ht0 : tys[0]? = some (cI, .int)) (x : Int32)  : xI l yX7_isPlace wsX7_isPlace 1 D tys [.int x] (([] : va_W)) (bI (rg x 64 = true)) (([] : va_W)) := by
  refine x_inI (cc := cX7_isPlace) (maxL := 1) (ret := (some .boolean)) (by decide) rfl (Nat.le_of_ble_eq_true rfl) ?_
  intro p e s m args below meth c A ls C w hl
  have C : xC p s m meth c args cX7_isPlace 1 wsX7_isPlace RX7 D tys (some .boolean) := C
  have hx := C.1.1
  have hb := C.1.2.1
  have hts := C.1.2.2.2.2
  have hown := C.1.2.2.2.1
  have w : xW D A s.heap (([] : va_W)) s.heap [] := w
  have hl : lv_has ls 1 [(0, .int x)] := hl
  refine lv_iload_n hx hb dX7_isPlace_0 rfl (lv_at hl 0 rfl) ?_
  refine lv_i2l (v := Int32.toInt64 x) hx hb dX7_isPlace_1 rfl ?_
  refine lv_lconst (v := 0) hx hb dX7_isPlace_2 (by decide +kernel) ?_
  refine lv_ldc2 (v := 63) hx hb hown (hts _ (List.mem_of_getElem? (i := 1) rfl)) dX7_isPlace_3 ?_
  refine x_callSi (wr := []) (w2 := ([] : va_W)) (rest := []) (n := 3) C w hl [.long (Int32.toInt64 x), .long 0, .long 63] (k_X7_in l D cI cS tys ht0 (Int32.toInt64 x) 0 63 ) gX7_isPlace_X7_in rfl (by decide +kernel) ⟨Nat.le_of_ble_eq_true rfl, Nat.le_of_ble_eq_true rfl⟩ rfl rfl (Nat.le_of_ble_eq_true rfl) [] [] (by decide) rfl rfl (by decide) (by decide) [] (by decide) rfl ⟨Nat.zero_le _, Nat.zero_le _⟩ dX7_isPlace_6 (fun H locs w => ?_)
  refine x_top (y := bI (rg x 64 = true)) (bI_c (lg_rg x)) ?_
  exact x_zret C w (bI_01 _) rfl rfl dX7_isPlace_9
set_option maxHeartbeats 1000000 in
set_option maxRecDepth 100000 in
theorem k_X7_isLine (l : Launch) (D : va_G) (cI cS : ClassId) (tys : List (ClassId × FieldType)) (ht0 : tys[0]? = some (cI, .int)) (x : Int32)  : xI l yX7_isLine wsX7_isLine 1 D tys [.int x] (([] : va_W)) (bI (rg x 8 = true)) (([] : va_W)) := by
  refine x_inI (cc := cX7_isLine) (maxL := 1) (ret := (some .boolean)) (by decide) rfl (Nat.le_of_ble_eq_true rfl) ?_
  intro p e s m args below meth c A ls C w hl
  have C : xC p s m meth c args cX7_isLine 1 wsX7_isLine RX7 D tys (some .boolean) := C
  have hx := C.1.1
  have hb := C.1.2.1
  have hts := C.1.2.2.2.2
  have hown := C.1.2.2.2.1
  have w : xW D A s.heap (([] : va_W)) s.heap [] := w
  have hl : lv_has ls 1 [(0, .int x)] := hl
  refine lv_iload_n hx hb dX7_isLine_0 rfl (lv_at hl 0 rfl) ?_
  refine lv_i2l (v := Int32.toInt64 x) hx hb dX7_isLine_1 rfl ?_
  refine lv_lconst (v := 0) hx hb dX7_isLine_2 (by decide +kernel) ?_
  refine lv_ldc2 (v := 7) hx hb hown (hts _ (List.mem_of_getElem? (i := 1) rfl)) dX7_isLine_3 ?_
  refine x_callSi (wr := []) (w2 := ([] : va_W)) (rest := []) (n := 3) C w hl [.long (Int32.toInt64 x), .long 0, .long 7] (k_X7_in l D cI cS tys ht0 (Int32.toInt64 x) 0 7 ) gX7_isLine_X7_in rfl (by decide +kernel) ⟨Nat.le_of_ble_eq_true rfl, Nat.le_of_ble_eq_true rfl⟩ rfl rfl (Nat.le_of_ble_eq_true rfl) [] [] (by decide) rfl rfl (by decide) (by decide) [] (by decide) rfl ⟨Nat.zero_le _, Nat.zero_le _⟩ dX7_isLine_6 (fun H locs w => ?_)
  refine x_top (y := bI (rg x 8 = true)) (bI_c (lg_rg8 x)) ?_
  exact x_zret C w (bI_01 _) rfl rfl dX7_isLine_9
set_option maxHeartbeats 1000000 in
set_option maxRecDepth 100000 in
theorem k_X7_lays (l : Launch) (D : va_G) (cI cS : ClassId) (tys : List (ClassId × FieldType)) (ht0 : tys[0]? = some (cI, .int)) (o : Nat → Nat) (G : St) (K : Nat → Int32) (h : Nat → Int32) (hn : Int32) (T : Nat → Int32) (tn : Int32) (f : Nat → Int32) (pl : Nat) (v : Int32) (hp : pl < 64) : xV l yX7_lays wsX7_lays 1 D tys [.ref (o 0), .int (nI pl), .int v] (mR cI o (fl G) K h hn T tn f) (mR cI o (fl (layG G (nI pl) v)) K h hn T tn f) := by
  refine x_inV (cc := cX7_lays) (maxL := 3) (ret := none) (by decide) rfl (Nat.le_of_ble_eq_true rfl) ?_
  intro p e s m args below meth c A ls C w hl
  have C : xC p s m meth c args cX7_lays 3 wsX7_lays RX7 D tys none := C
  have hx := C.1.1
  have hb := C.1.2.1
  have hts := C.1.2.2.2.2
  have hown := C.1.2.2.2.1
  have w : xW D A s.heap (mR cI o (fl G) K h hn T tn f) s.heap [] := w
  have hl : lv_has ls 3 [(0, .ref (o 0)), (1, .int (nI pl)), (2, .int v)] := hl
  refine lv_aload_n hx hb dX7_lays_0 rfl (lv_at hl 0 rfl) ?_
  refine x_get (v := .ref (o 1)) (T := TX7) C w 0 0 rfl rfl (fun _ h => List.mem_cons_of_mem _ (List.mem_append_right _ (h))) (List.mem_of_getElem? (i := 1) rfl) (by decide) rfl dX7_lays_1 ?_
  refine lv_iconst (v := 0) hx hb dX7_lays_4 (by decide +kernel) ?_
  refine lv_iload_n hx hb dX7_lays_5 rfl (lv_at hl 1 rfl) ?_
  refine x_iaddN (i := 0) (j := pl) hx hb dX7_lays_6 ?_
  refine lv_iload_n hx hb dX7_lays_7 rfl (lv_at hl 2 rfl) ?_
  refine x_iast (ws2 := mR cI o (fl (s2 G 0 pl v)) K h hn T tn f) C w 1 0 (0 + pl) rfl ht0 rfl (by omega) (by decide) (congrArg (fun z => mR cI o z K h hn T tn f) (fl_u0 _ (i := pl) (by omega) _)) dX7_lays_8 (fun H locs w => ?_)
  refine lv_aload_n hx hb dX7_lays_9 rfl (lv_at hl 0 rfl) ?_
  refine x_get (v := .ref (o 1)) (T := TX7) C w 0 0 rfl rfl (fun _ h => List.mem_cons_of_mem _ (List.mem_append_right _ (h))) (List.mem_of_getElem? (i := 1) rfl) (by decide) rfl dX7_lays_10 ?_
  refine lv_bipush (v := 64) hx hb dX7_lays_13 (by decide +kernel) ?_
  refine lv_iload_n hx hb dX7_lays_15 rfl (lv_at hl 1 rfl) ?_
  refine x_iaddN (i := 64) (j := pl) hx hb dX7_lays_16 ?_
  refine lv_dup2_11 hx hb dX7_lays_17 rfl rfl ?_
  refine x_iald (v := G 1 pl) C w 1 0 (64 + pl) rfl ht0 rfl (by omega) (by decide) (fl_r1 _ (by omega)) dX7_lays_18 ?_
  refine lv_iconst (v := 1) hx hb dX7_lays_19 (by decide +kernel) ?_
  refine lv_iadd (x := G 1 pl) (y := 1) hx hb dX7_lays_20 ?_
  refine x_iast (ws2 := mR cI o (fl (s2 (s2 G 0 pl v) 1 pl ((G 1 pl) + 1))) K h hn T tn f) C w 1 0 (64 + pl) rfl ht0 rfl (by omega) (by decide) (congrArg (fun z => mR cI o z K h hn T tn f) (fl_u1 _ (i := pl) (by omega) _)) dX7_lays_21 (fun H locs w => ?_)
  refine lv_aload_n hx hb dX7_lays_22 rfl (lv_at hl 0 rfl) ?_
  refine lv_bipush (v := 8) hx hb dX7_lays_23 (by decide +kernel) ?_
  refine x_callVv (wr := []) (w2 := mR cI o (fl (s2 (s2 (s2 G 0 pl v) 1 pl ((G 1 pl) + 1)) 7 8 (G 7 8 + 1))) K h hn T tn f) (rest := []) (n := 1) C w hl [.int 8] (k_X7_counts l D cI cS tys ht0 o (s2 (s2 G 0 pl v) 1 pl ((G 1 pl) + 1)) K h hn T tn f 8 (by decide)) gX7_lays_X7_counts rfl (by decide +kernel) ⟨Nat.le_of_ble_eq_true rfl, Nat.le_of_ble_eq_true rfl⟩ 0 7 rfl rfl rfl rfl (Nat.le_of_ble_eq_true rfl) [0, 1, 2, 3, 4] [] (by decide) rfl rfl (by decide) (by decide) [0, 1, 2, 3, 4] (by decide) rfl ⟨Nat.zero_le _, Nat.zero_le _⟩ dX7_lays_25 (fun H locs w => ?_)
  exact x_vret C w (congrArg (fun z => mR cI o (fl z) K h hn T tn f) (by rw [lay_yes G hp])) dX7_lays_28
set_option maxHeartbeats 1000000 in
set_option maxRecDepth 100000 in
theorem k_X7_allowance (l : Launch) (D : va_G) (cI cS : ClassId) (tys : List (ClassId × FieldType)) (ht0 : tys[0]? = some (cI, .int)) (o : Nat → Nat) (G : St) (K : Nat → Int32) (h : Nat → Int32) (hn : Int32) (T : Nat → Int32) (tn : Int32) (f : Nat → Int32) (hI : Inv G) : xI l yX7_allowance wsX7_allowance 1 D tys [.ref (o 0)] (mR cI o (fl G) K h hn T tn f) (alwI G) (mR cI o (fl G) K h hn T tn f) := by
  refine x_inI (cc := cX7_allowance) (maxL := 2) (ret := (some .int)) (by decide) rfl (Nat.le_of_ble_eq_true rfl) ?_
  intro p e s m args below meth c A ls C w hl
  have C : xC p s m meth c args cX7_allowance 2 wsX7_allowance RX7 D tys (some .int) := C
  have hx := C.1.1
  have hb := C.1.2.1
  have hts := C.1.2.2.2.2
  have hown := C.1.2.2.2.1
  have w : xW D A s.heap (mR cI o (fl G) K h hn T tn f) s.heap [] := w
  have hl : lv_has ls 2 [(0, .ref (o 0))] := hl
  obtain ⟨a9, ha1, ha2, e9⟩ := hI.2.2.2.2.1
  have h80 : ¬ G 8 0 < 1 := fun z => by rw [e9] at z; have := (nI_ltI (a := a9) (b := 1) (by omega) (by decide)).mp z; omega
  have h80n : ¬ G 8 0 = 0 := fun z => by rw [e9] at z; exact nI_ne0 (by omega) (by omega) z
  refine lv_aload_n hx hb dX7_allowance_0 rfl (lv_at hl 0 rfl) ?_
  refine x_get (v := .ref (o 1)) (T := TX7) C w 0 0 rfl rfl (fun _ h => List.mem_cons_of_mem _ (List.mem_append_right _ (h))) (List.mem_of_getElem? (i := 1) rfl) (by decide) rfl dX7_allowance_1 ?_
  refine lv_sipush (v := 162) hx hb dX7_allowance_4 (by decide +kernel) ?_
  refine x_iald (v := G 6 2) C w 1 0 (162) rfl ht0 rfl (by omega) (by decide) rfl dX7_allowance_7 ?_
  refine x_ifR_ne (x := G 6 2) (tgt := 27) hx hb dX7_allowance_8 (by decide) (fun c8_1 => ?_) (fun c8_1 => ?_)
  ·
    refine lv_iconst (v := 0) hx hb dX7_allowance_27 (by decide +kernel) ?_
    exact x_iret C w (by simp [alwI, savI, miI, h80, c8_1]) rfl dX7_allowance_28
  ·
    refine lv_aload_n hx hb dX7_allowance_11 rfl (lv_at hl 0 rfl) ?_
    refine x_get (v := .ref (o 1)) (T := TX7) C w 0 0 rfl rfl (fun _ h => List.mem_cons_of_mem _ (List.mem_append_right _ (h))) (List.mem_of_getElem? (i := 1) rfl) (by decide) rfl dX7_allowance_12 ?_
    refine lv_sipush (v := 160) hx hb dX7_allowance_15 (by decide +kernel) ?_
    refine x_iald (v := G 6 0) C w 1 0 (160) rfl ht0 rfl (by omega) (by decide) rfl dX7_allowance_18 ?_
    refine lv_aload_n hx hb dX7_allowance_19 rfl (lv_at hl 0 rfl) ?_
    refine lv_iconst (v := 1) hx hb dX7_allowance_20 (by decide +kernel) ?_
    refine x_callVi (wr := []) (w2 := mR cI o (fl G) K h hn T tn f) (rest := [.int (G 6 0)]) (n := 1) C w hl [.int 1] (k_X7_setting l D cI cS tys ht0 o G K h hn T tn f 1 (by decide)) gX7_allowance_X7_setting rfl (by decide +kernel) ⟨Nat.le_of_ble_eq_true rfl, Nat.le_of_ble_eq_true rfl⟩ 0 7 rfl rfl rfl rfl (Nat.le_of_ble_eq_true rfl) [0, 1, 2, 3, 4] [] (by decide) rfl rfl (by decide) (by decide) [0, 1, 2, 3, 4] (by decide) rfl ⟨Nat.zero_le _, Nat.zero_le _⟩ dX7_allowance_21 (fun H locs w => ?_)
    refine x_icR_ge (x := G 6 0) (y := G 8 1) (tgt := 29) hx hb dX7_allowance_24 (by decide) (fun c24_2 => ?_) (fun c24_2 => ?_)
    ·
      refine lv_aload_n hx hb dX7_allowance_29 rfl (lv_at hl 0 rfl) ?_
      refine x_get (v := .ref (o 1)) (T := TX7) C w 0 0 rfl rfl (fun _ h => List.mem_cons_of_mem _ (List.mem_append_right _ (h))) (List.mem_of_getElem? (i := 1) rfl) (by decide) rfl dX7_allowance_30 ?_
      refine lv_sipush (v := 160) hx hb dX7_allowance_33 (by decide +kernel) ?_
      refine x_iald (v := G 6 0) C w 1 0 (160) rfl ht0 rfl (by omega) (by decide) rfl dX7_allowance_36 ?_
      refine lv_aload_n hx hb dX7_allowance_37 rfl (lv_at hl 0 rfl) ?_
      refine lv_iconst (v := 1) hx hb dX7_allowance_38 (by decide +kernel) ?_
      refine x_callVi (wr := []) (w2 := mR cI o (fl G) K h hn T tn f) (rest := [.int (G 6 0)]) (n := 1) C w hl [.int 1] (k_X7_setting l D cI cS tys ht0 o G K h hn T tn f 1 (by decide)) gX7_allowance_X7_setting rfl (by decide +kernel) ⟨Nat.le_of_ble_eq_true rfl, Nat.le_of_ble_eq_true rfl⟩ 0 7 rfl rfl rfl rfl (Nat.le_of_ble_eq_true rfl) [0, 1, 2, 3, 4] [] (by decide) rfl rfl (by decide) (by decide) [0, 1, 2, 3, 4] (by decide) rfl ⟨Nat.zero_le _, Nat.zero_le _⟩ dX7_allowance_39 (fun H locs w => ?_)
      refine lv_isub (x := G 6 0) (y := G 8 1) hx hb dX7_allowance_42 ?_
      refine lv_aload_n hx hb dX7_allowance_43 rfl (lv_at hl 0 rfl) ?_
      refine lv_iconst (v := 0) hx hb dX7_allowance_44 (by decide +kernel) ?_
      refine x_callVi (wr := []) (w2 := mR cI o (fl G) K h hn T tn f) (rest := [.int ((G 6 0) - (G 8 1))]) (n := 1) C w hl [.int 0] (k_X7_setting l D cI cS tys ht0 o G K h hn T tn f 0 (by decide)) gX7_allowance_X7_setting rfl (by decide +kernel) ⟨Nat.le_of_ble_eq_true rfl, Nat.le_of_ble_eq_true rfl⟩ 0 7 rfl rfl rfl rfl (Nat.le_of_ble_eq_true rfl) [0, 1, 2, 3, 4] [] (by decide) rfl rfl (by decide) (by decide) [0, 1, 2, 3, 4] (by decide) rfl ⟨Nat.zero_le _, Nat.zero_le _⟩ dX7_allowance_45 (fun H locs w => ?_)
      refine lv_idiv (x := ((G 6 0) - (G 8 1))) (y := G 8 0) hx hb dX7_allowance_48 h80n ?_
      refine lv_istore_n (lv' := [(1, .int (((G 6 0) - (G 8 1)) / (G 8 0))), (0, .ref (o 0))]) hx hb dX7_allowance_49 rfl hl (by decide) rfl (fun ls hl => ?_)
      refine lv_iload_n hx hb dX7_allowance_50 rfl (lv_at hl 0 rfl) ?_
      refine lv_bipush (v := 8) hx hb dX7_allowance_51 (by decide +kernel) ?_
      refine x_icR_le (x := (((G 6 0) - (G 8 1)) / (G 8 0))) (y := 8) (tgt := 61) hx hb dX7_allowance_53 (by decide) (fun c53_3 => ?_) (fun c53_3 => ?_)
      ·
        refine lv_iload_n hx hb dX7_allowance_61 rfl (lv_at hl 0 rfl) ?_
        exact x_iret C w (by simp [alwI, savI, miI, h80, c8_1, c24_2, c53_3]) rfl dX7_allowance_62
      ·
        refine lv_bipush (v := 8) hx hb dX7_allowance_56 (by decide +kernel) ?_
        refine lv_goto (tgt := 62) hx hb dX7_allowance_58 (by decide) ?_
        exact x_iret C w (by simp [alwI, savI, miI, h80, c8_1, c24_2, c53_3]) rfl dX7_allowance_62
    ·
      refine lv_iconst (v := 0) hx hb dX7_allowance_27 (by decide +kernel) ?_
      exact x_iret C w (by simp [alwI, savI, miI, h80, c8_1, c24_2]) rfl dX7_allowance_28
set_option maxHeartbeats 1000000 in
set_option maxRecDepth 100000 in
theorem k_X7_flushes (l : Launch) (D : va_G) (cI cS : ClassId) (tys : List (ClassId × FieldType)) (ht0 : tys[0]? = some (cI, .int)) (o : Nat → Nat) (G : St) (K : Nat → Int32) (h : Nat → Int32) (hn : Int32) (T : Nat → Int32) (tn : Int32) (f : Nat → Int32) (l1 : Nat) (hl1 : l1 < 8) (h2 : G 2 l1 = 2) (hI : Inv G) : xV l yX7_flushes wsX7_flushes 2 D tys [.ref (o 0), .int (nI l1)] (mR cI o (fl G) K h hn T tn f) (mR cI o (fl (fluG G (nI l1))) K h hn T tn f) := by
  refine x_inV (cc := cX7_flushes) (maxL := 2) (ret := none) (by decide) rfl (Nat.le_of_ble_eq_true rfl) ?_
  intro p e s m args below meth c A ls C w hl
  have C : xC p s m meth c args cX7_flushes 2 wsX7_flushes RX7 D tys none := C
  have hx := C.1.1
  have hb := C.1.2.1
  have hts := C.1.2.2.2.2
  have hown := C.1.2.2.2.1
  have w : xW D A s.heap (mR cI o (fl G) K h hn T tn f) s.heap [] := w
  have hl : lv_has ls 2 [(0, .ref (o 0)), (1, .int (nI l1))] := hl
  obtain ⟨p0, hp0, e3⟩ := hI.1.1 l1
  refine lv_aload_n hx hb dX7_flushes_0 rfl (lv_at hl 0 rfl) ?_
  refine lv_aload_n hx hb dX7_flushes_1 rfl (lv_at hl 0 rfl) ?_
  refine x_get (v := .ref (o 1)) (T := TX7) C w 0 0 rfl rfl (fun _ h => List.mem_cons_of_mem _ (List.mem_append_right _ (h))) (List.mem_of_getElem? (i := 1) rfl) (by decide) rfl dX7_flushes_2 ?_
  refine lv_sipush (v := 136) hx hb dX7_flushes_5 (by decide +kernel) ?_
  refine lv_iload_n hx hb dX7_flushes_8 rfl (lv_at hl 1 rfl) ?_
  refine x_iaddN (i := 136) (j := l1) hx hb dX7_flushes_9 ?_
  refine x_iald (v := G 3 l1) C w 1 0 (136 + l1) rfl ht0 rfl (by omega) (by decide) (fl_r3 _ (by omega)) dX7_flushes_10 ?_
  refine x_top (y := nI p0) e3 ?_
  refine lv_aload_n hx hb dX7_flushes_11 rfl (lv_at hl 0 rfl) ?_
  refine x_get (v := .ref (o 1)) (T := TX7) C w 0 0 rfl rfl (fun _ h => List.mem_cons_of_mem _ (List.mem_append_right _ (h))) (List.mem_of_getElem? (i := 1) rfl) (by decide) rfl dX7_flushes_12 ?_
  refine lv_sipush (v := 144) hx hb dX7_flushes_15 (by decide +kernel) ?_
  refine lv_iload_n hx hb dX7_flushes_18 rfl (lv_at hl 1 rfl) ?_
  refine x_iaddN (i := 144) (j := l1) hx hb dX7_flushes_19 ?_
  refine x_iald (v := G 4 l1) C w 1 0 (144 + l1) rfl ht0 rfl (by omega) (by decide) (fl_r4 _ (by omega)) dX7_flushes_20 ?_
  refine x_callVv (wr := []) (w2 := mR cI o (fl (layG G (nI p0) (G 4 l1))) K h hn T tn f) (rest := []) (n := 2) C w hl [.int (nI p0), .int (G 4 l1)] (k_X7_lays l D cI cS tys ht0 o G K h hn T tn f p0 (G 4 l1) (by omega)) gX7_flushes_X7_lays rfl (by decide +kernel) ⟨Nat.le_of_ble_eq_true rfl, Nat.le_of_ble_eq_true rfl⟩ 0 7 rfl rfl rfl rfl (Nat.le_of_ble_eq_true rfl) [0, 1, 2, 3, 4] [] (by decide) rfl rfl (by decide) (by decide) [0, 1, 2, 3, 4] (by decide) rfl ⟨Nat.zero_le _, Nat.zero_le _⟩ dX7_flushes_21 (fun H locs w => ?_)
  refine lv_aload_n hx hb dX7_flushes_24 rfl (lv_at hl 0 rfl) ?_
  refine x_get (v := .ref (o 1)) (T := TX7) C w 0 0 rfl rfl (fun _ h => List.mem_cons_of_mem _ (List.mem_append_right _ (h))) (List.mem_of_getElem? (i := 1) rfl) (by decide) rfl dX7_flushes_25 ?_
  refine lv_sipush (v := 128) hx hb dX7_flushes_28 (by decide +kernel) ?_
  refine lv_iload_n hx hb dX7_flushes_31 rfl (lv_at hl 1 rfl) ?_
  refine x_iaddN (i := 128) (j := l1) hx hb dX7_flushes_32 ?_
  refine lv_iconst (v := 1) hx hb dX7_flushes_33 (by decide +kernel) ?_
  refine x_iast (ws2 := mR cI o (fl (s2 (layG G (nI p0) (G 4 l1)) 2 l1 1)) K h hn T tn f) C w 1 0 (128 + l1) rfl ht0 rfl (by omega) (by decide) (congrArg (fun z => mR cI o z K h hn T tn f) (fl_u2 _ (i := l1) (by omega) _)) dX7_flushes_34 (fun H locs w => ?_)
  refine lv_aload_n hx hb dX7_flushes_35 rfl (lv_at hl 0 rfl) ?_
  refine lv_iconst (v := 3) hx hb dX7_flushes_36 (by decide +kernel) ?_
  refine x_callVv (wr := []) (w2 := mR cI o (fl (s2 (s2 (layG G (nI p0) (G 4 l1)) 2 l1 1) 7 3 ((layG G (nI p0) (G 4 l1)) 7 3 + 1))) K h hn T tn f) (rest := []) (n := 1) C w hl [.int 3] (k_X7_counts l D cI cS tys ht0 o (s2 (layG G (nI p0) (G 4 l1)) 2 l1 1) K h hn T tn f 3 (by decide)) gX7_flushes_X7_counts rfl (by decide +kernel) ⟨Nat.le_of_ble_eq_true rfl, Nat.le_of_ble_eq_true rfl⟩ 0 7 rfl rfl rfl rfl (Nat.le_of_ble_eq_true rfl) [0, 1, 2, 3, 4] [] (by decide) rfl rfl (by decide) (by decide) [0, 1, 2, 3, 4] (by decide) rfl ⟨Nat.zero_le _, Nat.zero_le _⟩ dX7_flushes_37 (fun H locs w => ?_)
  exact x_vret C w (congrArg (fun z => mR cI o (fl z) K h hn T tn f) (flu_eq hl1 h2 (by omega) e3)) dX7_flushes_40
set_option maxHeartbeats 1000000 in
set_option maxRecDepth 100000 in
theorem k_X7_flushesToo (l : Launch) (D : va_G) (cI cS : ClassId) (tys : List (ClassId × FieldType)) (ht0 : tys[0]? = some (cI, .int)) (o : Nat → Nat) (G : St) (K : Nat → Int32) (h : Nat → Int32) (hn : Int32) (T : Nat → Int32) (tn : Int32) (f : Nat → Int32) (hI : Inv G) : xI l yX7_flushesToo wsX7_flushesToo 3 D tys [.ref (o 0)] (mR cI o (fl G) K h hn T tn f) (tooI G) (mR cI o (fl (flsG G (ix (tooI G)))) K h hn T tn f) := by
  refine x_inI (cc := cX7_flushesToo) (maxL := 2) (ret := (some .int)) (by decide) rfl (Nat.le_of_ble_eq_true rfl) ?_
  intro p e s m args below meth c A ls C w hl
  have C : xC p s m meth c args cX7_flushesToo 2 wsX7_flushesToo RX7 D tys (some .int) := C
  have hx := C.1.1
  have hb := C.1.2.1
  have hts := C.1.2.2.2.2
  have hown := C.1.2.2.2.1
  have w : xW D A s.heap (mR cI o (fl G) K h hn T tn f) s.heap [] := w
  have hl : lv_has ls 2 [(0, .ref (o 0))] := hl
  obtain ⟨a0, ha, ea⟩ := alw_ex hI
  have hmle := mN_le G 2
  refine lv_iconst (v := 0) hx hb dX7_flushesToo_0 (by decide +kernel) ?_
  refine lv_istore_n (lv' := [(1, .int 0), (0, .ref (o 0))]) hx hb dX7_flushesToo_1 rfl hl (by decide) rfl (fun ls hl => ?_)
  have loop_2 : ∀ (n : Nat) (i : Nat), mN G 2 - a0 - i < n → (i ≤ mN G 2 - a0) → ∀ (H : Heap) (locs : List Loc), xW D A s.heap (mR cI o (fl (flsG G i)) K h hn T tn f) H locs → ∀ ls : Array Slot, lv_has ls 2 [(1, .int (nI i)), (0, .ref (o 0))] → W p l e (rmd 3) s m args below meth c H locs 0 0 (MQ below (xQi D tys (tooI G) (mR cI o (fl (flsG G (ix (tooI G)))) K h hn T tn f) A) args s 0 0 A) (F0 m 2 ls []) := by
    intro n
    induction n with
    | zero => intro i hm; exact absurd hm (Nat.not_lt_zero _)
    | succ n ih =>
      intro i hm hi H locs w ls hl
      obtain ⟨hI1, r6, r8, hm, -⟩ := fls_facts hI i (by omega)
      have ea1 : alwI (flsG G i) = nI a0 := (alw_row r6 r8).trans ea
      refine lv_aload_n hx hb dX7_flushesToo_2 rfl (lv_at hl 1 rfl) ?_
      refine lv_iconst (v := 2) hx hb dX7_flushesToo_3 (by decide +kernel) ?_
      refine x_callVi (wr := []) (w2 := mR cI o (fl (flsG G i)) K h hn T tn f) (rest := []) (n := 1) C w hl [.int 2] (k_X7_many l D cI cS tys ht0 o (flsG G i) K h hn T tn f 2 ) gX7_flushesToo_X7_many rfl (by decide +kernel) ⟨Nat.le_of_ble_eq_true rfl, Nat.le_of_ble_eq_true rfl⟩ 0 7 rfl rfl rfl rfl (Nat.le_of_ble_eq_true rfl) [0, 1, 2, 3, 4] [] (by decide) rfl rfl (by decide) (by decide) [0, 1, 2, 3, 4] (by decide) rfl ⟨Nat.zero_le _, Nat.zero_le _⟩ dX7_flushesToo_4 (fun H locs w => ?_)
      refine lv_aload_n hx hb dX7_flushesToo_7 rfl (lv_at hl 1 rfl) ?_
      refine x_callVi (wr := []) (w2 := mR cI o (fl (flsG G i)) K h hn T tn f) (rest := [.int (nI (mN (flsG G i) 2))]) (n := 0) C w hl [] (k_X7_allowance l D cI cS tys ht0 o (flsG G i) K h hn T tn f hI1) gX7_flushesToo_X7_allowance rfl (by decide +kernel) ⟨Nat.le_of_ble_eq_true rfl, Nat.le_of_ble_eq_true rfl⟩ 0 7 rfl rfl rfl rfl (Nat.le_of_ble_eq_true rfl) [0, 1, 2, 3, 4] [] (by decide) rfl rfl (by decide) (by decide) [0, 1, 2, 3, 4] (by decide) rfl ⟨Nat.zero_le _, Nat.zero_le _⟩ dX7_flushesToo_8 (fun H locs w => ?_)
      refine x_top (y := nI a0) ea1 ?_
      refine x_icN_le (i := mN (flsG G i) 2) (j := a0) (tgt := 29) hx hb (by omega) (by omega) dX7_flushesToo_11 (by decide) (fun c11_1 => ?_) (fun c11_1 => ?_)
      ·
        have hE : i = mN G 2 - a0 := (by omega)
        refine lv_iload_n hx hb dX7_flushesToo_29 rfl (lv_at hl 0 rfl) ?_
        exact x_iret C w (by rw [too_a ha ea, hE]) (congrArg (fun z => mR cI o (fl z) K h hn T tn f) (by rw [too_ix ha ea, hE])) dX7_flushesToo_30
      ·
        obtain ⟨l0, hl0, h20, e0⟩ := dirty_old (G := flsG G i) (by omega)
        refine lv_aload_n hx hb dX7_flushesToo_14 rfl (lv_at hl 1 rfl) ?_
        refine lv_aload_n hx hb dX7_flushesToo_15 rfl (lv_at hl 1 rfl) ?_
        refine lv_iconst (v := 2) hx hb dX7_flushesToo_16 (by decide +kernel) ?_
        refine x_callVi (wr := []) (w2 := mR cI o (fl (flsG G i)) K h hn T tn f) (rest := [.ref (o 0)]) (n := 1) C w hl [.int 2] (k_X7_oldest l D cI cS tys ht0 o (flsG G i) K h hn T tn f 2 ) gX7_flushesToo_X7_oldest rfl (by decide +kernel) ⟨Nat.le_of_ble_eq_true rfl, Nat.le_of_ble_eq_true rfl⟩ 0 7 rfl rfl rfl rfl (Nat.le_of_ble_eq_true rfl) [0, 1, 2, 3, 4] [] (by decide) rfl rfl (by decide) (by decide) [0, 1, 2, 3, 4] (by decide) rfl ⟨Nat.zero_le _, Nat.zero_le _⟩ dX7_flushesToo_17 (fun H locs w => ?_)
        refine x_top (y := nI l0) e0 ?_
        refine x_callVv (wr := []) (w2 := mR cI o (fl (fluG (flsG G i) (nI l0))) K h hn T tn f) (rest := []) (n := 1) C w hl [.int (nI l0)] (k_X7_flushes l D cI cS tys ht0 o (flsG G i) K h hn T tn f l0 hl0 h20 hI1) gX7_flushesToo_X7_flushes rfl (by decide +kernel) ⟨Nat.le_of_ble_eq_true rfl, Nat.le_of_ble_eq_true rfl⟩ 0 7 rfl rfl rfl rfl (Nat.le_of_ble_eq_true rfl) [0, 1, 2, 3, 4] [] (by decide) rfl rfl (by decide) (by decide) [0, 1, 2, 3, 4] (by decide) rfl ⟨Nat.zero_le _, Nat.zero_le _⟩ dX7_flushesToo_20 (fun H locs w => ?_)
        refine lv_iinc (v := nI (i + 1)) (lv' := [(1, .int (nI (i + 1))), (0, .ref (o 0))]) hx hb dX7_flushesToo_23 hl (k := 0) rfl (nI_add i 1) (by decide) rfl (fun ls hl => ?_)
        refine lv_goto (tgt := 2) hx hb dX7_flushesToo_26 (by decide) ?_
        have hl : lv_has ls 2 [(1, .int (nI (i + 1))), (0, .ref (o 0))] := lv_eqL (lv_sub (l' := [(1, .int (nI (i + 1))), (0, .ref (o 0))]) hl [0, 1] rfl) (cg2 List.cons rfl (cg2 List.cons rfl rfl))
        have w : xW D A s.heap (mR cI o (fl (flsG G (i + 1))) K h hn T tn f) _ _ := x_ws (congrArg (fun z => mR cI o (fl z) K h hn T tn f) (by show _ = fluG (flsG G i) (oldI (flsG G i) 2 8); rw [e0])) w
        exact ih (i + 1) (by omega) (by omega) _ _ w _ hl
  have q2 : 0 = (nI 0 : Int32) := (by first | rfl | contradiction | (simp []; done))
  have hl : lv_has ls 2 [(1, .int (nI 0)), (0, .ref (o 0))] := lv_eqL (lv_sub (l' := [(1, .int 0), (0, .ref (o 0))]) hl [0, 1] rfl) (cg2 List.cons (congrArg (fun z => ((1 : Nat), Value.int z)) q2) (cg2 List.cons rfl rfl))
  have w : xW D A s.heap (mR cI o (fl (flsG G 0)) K h hn T tn f) _ _ := x_ws (congrArg (fun z => mR cI o (fl z) K h hn T tn f) (by first | rfl | contradiction | (simp []; done))) w
  exact loop_2 (mN G 2 - a0 + 1) 0 (by omega) (by omega) _ _ w _ hl
set_option maxHeartbeats 1000000 in
set_option maxRecDepth 100000 in
theorem k_X7_touches (l : Launch) (D : va_G) (cI cS : ClassId) (tys : List (ClassId × FieldType)) (ht0 : tys[0]? = some (cI, .int)) (o : Nat → Nat) (G : St) (K : Nat → Int32) (h : Nat → Int32) (hn : Int32) (T : Nat → Int32) (tn : Int32) (f : Nat → Int32) (pl : Nat) (hp : pl < 64) (hI : Inv G) : xI l yX7_touches wsX7_touches 3 D tys [.ref (o 0), .int (nI pl)] (mR cI o (fl G) K h hn T tn f) (lnfI G (nI pl)) (mR cI o (fl (lnfG G (nI pl))) K h hn T tn f) := by
  refine x_inI (cc := cX7_touches) (maxL := 3) (ret := (some .int)) (by decide) rfl (Nat.le_of_ble_eq_true rfl) ?_
  intro p e s m args below meth c A ls C w hl
  have C : xC p s m meth c args cX7_touches 3 wsX7_touches RX7 D tys (some .int) := C
  have hx := C.1.1
  have hb := C.1.2.1
  have hts := C.1.2.2.2.2
  have hown := C.1.2.2.2.1
  have w : xW D A s.heap (mR cI o (fl G) K h hn T tn f) s.heap [] := w
  have hl : lv_has ls 3 [(0, .ref (o 0)), (1, .int (nI pl))] := hl
  refine lv_aload_n hx hb dX7_touches_0 rfl (lv_at hl 0 rfl) ?_
  refine lv_iload_n hx hb dX7_touches_1 rfl (lv_at hl 1 rfl) ?_
  refine x_callVi (wr := []) (w2 := mR cI o (fl G) K h hn T tn f) (rest := []) (n := 1) C w hl [.int (nI pl)] (k_X7_holder l D cI cS tys ht0 o G K h hn T tn f (nI pl) ) gX7_touches_X7_holder rfl (by decide +kernel) ⟨Nat.le_of_ble_eq_true rfl, Nat.le_of_ble_eq_true rfl⟩ 0 7 rfl rfl rfl rfl (Nat.le_of_ble_eq_true rfl) [0, 1, 2, 3, 4] [] (by decide) rfl rfl (by decide) (by decide) [0, 1, 2, 3, 4] (by decide) rfl ⟨Nat.zero_le _, Nat.zero_le _⟩ dX7_touches_2 (fun H locs w => ?_)
  rcases hld_cases G (nI pl) with eh | ⟨l0, hl0, eh, -, -⟩
  ·
    refine x_top (y := (-1)) eh ?_
    refine lv_istore_n (lv' := [(2, .int (-1)), (0, .ref (o 0)), (1, .int (nI pl))]) hx hb dX7_touches_5 rfl hl (by decide) rfl (fun ls hl => ?_)
    refine lv_aload_n hx hb dX7_touches_6 rfl (lv_at hl 1 rfl) ?_
    refine lv_iload_n hx hb dX7_touches_7 rfl (lv_at hl 0 rfl) ?_
    refine lv_iconst (v := -1) hx hb dX7_touches_8 (by decide +kernel) ?_
    refine x_icR_ne (x := (-1)) (y := (-1)) (tgt := 16) hx hb dX7_touches_9 (by decide) (fun h => absurd h (by decide)) (fun _ => ?_)
    refine lv_iconst (v := 2) hx hb dX7_touches_12 (by decide +kernel) ?_
    refine lv_goto (tgt := 17) hx hb dX7_touches_13 (by decide) ?_
    refine x_callVv (wr := []) (w2 := mR cI o (fl (s2 G 7 2 (G 7 2 + 1))) K h hn T tn f) (rest := []) (n := 1) C w hl [.int 2] (k_X7_counts l D cI cS tys ht0 o G K h hn T tn f 2 (by decide)) gX7_touches_X7_counts rfl (by decide +kernel) ⟨Nat.le_of_ble_eq_true rfl, Nat.le_of_ble_eq_true rfl⟩ 0 7 rfl rfl rfl rfl (Nat.le_of_ble_eq_true rfl) [0, 1, 2, 3, 4] [] (by decide) rfl rfl (by decide) (by decide) [0, 1, 2, 3, 4] (by decide) rfl ⟨Nat.zero_le _, Nat.zero_le _⟩ dX7_touches_17 (fun H locs w => ?_)
    refine lv_iload_n hx hb dX7_touches_20 rfl (lv_at hl 0 rfl) ?_
    refine lv_iconst (v := -1) hx hb dX7_touches_21 (by decide +kernel) ?_
    refine x_icR_ne (x := (-1)) (y := (-1)) (tgt := 124) hx hb dX7_touches_22 (by decide) (fun h => absurd h (by decide)) (fun _ => ?_)
    have w : xW D A s.heap (mR cI o (fl (misG G)) K h hn T tn f) _ _ := w
    refine lv_iconst (v := 0) hx hb dX7_touches_25 (by decide +kernel) ?_
    refine lv_istore_n (lv' := [(2, .int 0), (0, .ref (o 0)), (1, .int (nI pl))]) hx hb dX7_touches_26 rfl hl (by decide) rfl (fun ls hl => ?_)
    have loop_27 : ∀ (n : Nat) (k : Nat) (i : Nat), k < n → (k + i = 8) → (fndI (fun j => misG G 2 j = 0) k i = lowI (misG G)) → ∀ (H : Heap) (locs : List Loc), xW D A s.heap (mR cI o (fl (misG G)) K h hn T tn f) H locs → ∀ ls : Array Slot, lv_has ls 3 [(2, .int (nI i)), (0, .ref (o 0)), (1, .int (nI pl))] → W p l e (rmd 3) s m args below meth c H locs 0 0 (MQ below (xQi D tys (lnfI G (nI pl)) (mR cI o (fl (lnfG G (nI pl))) K h hn T tn f) A) args s 0 0 A) (F0 m 27 ls []) := by
      intro n
      induction n with
      | zero => intro k i hm; exact absurd hm (Nat.not_lt_zero _)
      | succ n ih =>
        intro k i hm hk hq H locs w ls hl
        refine lv_iload_n hx hb dX7_touches_27 rfl (lv_at hl 0 rfl) ?_
        refine lv_bipush (v := 8) hx hb dX7_touches_28 (by decide +kernel) ?_
        refine x_icN_ge (i := i) (j := 8) (tgt := 52) hx hb (by omega) (by omega) dX7_touches_30 (by decide) (fun c30_3 => ?_) (fun c30_3 => ?_)
        ·
          obtain rfl : k = 0 := by omega
          have hlow : lowI (misG G) = -1 := by rw [← hq]; rfl
          refine lv_iload_n hx hb dX7_touches_52 rfl (lv_at hl 0 rfl) ?_
          refine lv_bipush (v := 8) hx hb dX7_touches_53 (by decide +kernel) ?_
          refine x_icN_ge (i := i) (j := 8) (tgt := 62) hx hb (by omega) (by omega) dX7_touches_55 (by decide) (fun c55_4 => ?_) (fun c55_4 => ?_)
          ·
            refine lv_aload_n hx hb dX7_touches_62 rfl (lv_at hl 1 rfl) ?_
            refine lv_iconst (v := 1) hx hb dX7_touches_63 (by decide +kernel) ?_
            refine x_callVi (wr := []) (w2 := mR cI o (fl (misG G)) K h hn T tn f) (rest := []) (n := 1) C w hl [.int 1] (k_X7_oldest l D cI cS tys ht0 o (misG G) K h hn T tn f 1 ) gX7_touches_X7_oldest rfl (by decide +kernel) ⟨Nat.le_of_ble_eq_true rfl, Nat.le_of_ble_eq_true rfl⟩ 0 7 rfl rfl rfl rfl (Nat.le_of_ble_eq_true rfl) [0, 1, 2, 3, 4] [] (by decide) rfl rfl (by decide) (by decide) [0, 1, 2, 3, 4] (by decide) rfl ⟨Nat.zero_le _, Nat.zero_le _⟩ dX7_touches_64 (fun H locs w => ?_)
            rcases old_cases (misG G) 1 8 with ⟨e1, -⟩ | ⟨l1, hl1, h21, e1⟩
            ·
              refine x_top (y := (-1)) e1 ?_
              refine lv_istore_n (lv' := [(2, .int (-1)), (0, .ref (o 0)), (1, .int (nI pl))]) hx hb dX7_touches_67 rfl hl (by decide) rfl (fun ls hl => ?_)
              refine lv_iload_n hx hb dX7_touches_68 rfl (lv_at hl 0 rfl) ?_
              refine lv_iconst (v := -1) hx hb dX7_touches_69 (by decide +kernel) ?_
              refine x_icR_ne (x := (-1)) (y := (-1)) (tgt := 84) hx hb dX7_touches_70 (by decide) (fun h => absurd h (by decide)) (fun _ => ?_)
              obtain ⟨l2, hl2, h22, e2⟩ := all_dirty (Inv_mis hI) (low_m1 hlow) e1
              refine lv_aload_n hx hb dX7_touches_73 rfl (lv_at hl 1 rfl) ?_
              refine lv_iconst (v := 2) hx hb dX7_touches_74 (by decide +kernel) ?_
              refine x_callVi (wr := []) (w2 := mR cI o (fl (misG G)) K h hn T tn f) (rest := []) (n := 1) C w hl [.int 2] (k_X7_oldest l D cI cS tys ht0 o (misG G) K h hn T tn f 2 ) gX7_touches_X7_oldest rfl (by decide +kernel) ⟨Nat.le_of_ble_eq_true rfl, Nat.le_of_ble_eq_true rfl⟩ 0 7 rfl rfl rfl rfl (Nat.le_of_ble_eq_true rfl) [0, 1, 2, 3, 4] [] (by decide) rfl rfl (by decide) (by decide) [0, 1, 2, 3, 4] (by decide) rfl ⟨Nat.zero_le _, Nat.zero_le _⟩ dX7_touches_75 (fun H locs w => ?_)
              refine x_top (y := nI l2) e2 ?_
              refine lv_istore_n (lv' := [(2, .int (nI l2)), (0, .ref (o 0)), (1, .int (nI pl))]) hx hb dX7_touches_78 rfl hl (by decide) rfl (fun ls hl => ?_)
              refine lv_aload_n hx hb dX7_touches_79 rfl (lv_at hl 1 rfl) ?_
              refine lv_iload_n hx hb dX7_touches_80 rfl (lv_at hl 0 rfl) ?_
              refine x_callVv (wr := []) (w2 := mR cI o (fl (fluG (misG G) (nI l2))) K h hn T tn f) (rest := []) (n := 1) C w hl [.int (nI l2)] (k_X7_flushes l D cI cS tys ht0 o (misG G) K h hn T tn f l2 hl2 h22 (Inv_mis hI)) gX7_touches_X7_flushes rfl (by decide +kernel) ⟨Nat.le_of_ble_eq_true rfl, Nat.le_of_ble_eq_true rfl⟩ 0 7 rfl rfl rfl rfl (Nat.le_of_ble_eq_true rfl) [0, 1, 2, 3, 4] [] (by decide) rfl rfl (by decide) (by decide) [0, 1, 2, 3, 4] (by decide) rfl ⟨Nat.zero_le _, Nat.zero_le _⟩ dX7_touches_81 (fun H locs w => ?_)
              have et : takI (misG G) = nI l2 := by unfold takI; rw [if_pos hlow, if_pos e1, e2]
              have hl9 : l2 < 8 := hl2
              refine lv_aload_n hx hb dX7_touches_84 rfl (lv_at hl 1 rfl) ?_
              refine x_get (v := .ref (o 1)) (T := TX7) C w 0 0 rfl rfl (fun _ h => List.mem_cons_of_mem _ (List.mem_append_right _ (h))) (List.mem_of_getElem? (i := 1) rfl) (by decide) rfl dX7_touches_85 ?_
              refine lv_sipush (v := 128) hx hb dX7_touches_88 (by decide +kernel) ?_
              refine lv_iload_n hx hb dX7_touches_91 rfl (lv_at hl 0 rfl) ?_
              refine x_iaddN (i := 128) (j := l2) hx hb dX7_touches_92 ?_
              refine lv_iconst (v := 1) hx hb dX7_touches_93 (by decide +kernel) ?_
              refine x_iast (ws2 := mR cI o (fl (s2 (fluG (misG G) (nI l2)) 2 l2 1)) K h hn T tn f) C w 1 0 (128 + l2) rfl ht0 rfl (by omega) (by decide) (congrArg (fun z => mR cI o z K h hn T tn f) (fl_u2 _ (i := l2) (by omega) _)) dX7_touches_94 (fun H locs w => ?_)
              refine lv_aload_n hx hb dX7_touches_95 rfl (lv_at hl 1 rfl) ?_
              refine x_get (v := .ref (o 1)) (T := TX7) C w 0 0 rfl rfl (fun _ h => List.mem_cons_of_mem _ (List.mem_append_right _ (h))) (List.mem_of_getElem? (i := 1) rfl) (by decide) rfl dX7_touches_96 ?_
              refine lv_sipush (v := 136) hx hb dX7_touches_99 (by decide +kernel) ?_
              refine lv_iload_n hx hb dX7_touches_102 rfl (lv_at hl 0 rfl) ?_
              refine x_iaddN (i := 136) (j := l2) hx hb dX7_touches_103 ?_
              refine lv_iload_n hx hb dX7_touches_104 rfl (lv_at hl 2 rfl) ?_
              refine x_iast (ws2 := mR cI o (fl (s2 (s2 (fluG (misG G) (nI l2)) 2 l2 1) 3 l2 (nI pl))) K h hn T tn f) C w 1 0 (136 + l2) rfl ht0 rfl (by omega) (by decide) (congrArg (fun z => mR cI o z K h hn T tn f) (fl_u3 _ (i := l2) (by omega) _)) dX7_touches_105 (fun H locs w => ?_)
              refine lv_aload_n hx hb dX7_touches_106 rfl (lv_at hl 1 rfl) ?_
              refine x_get (v := .ref (o 1)) (T := TX7) C w 0 0 rfl rfl (fun _ h => List.mem_cons_of_mem _ (List.mem_append_right _ (h))) (List.mem_of_getElem? (i := 1) rfl) (by decide) rfl dX7_touches_107 ?_
              refine lv_sipush (v := 144) hx hb dX7_touches_110 (by decide +kernel) ?_
              refine lv_iload_n hx hb dX7_touches_113 rfl (lv_at hl 0 rfl) ?_
              refine x_iaddN (i := 144) (j := l2) hx hb dX7_touches_114 ?_
              refine lv_aload_n hx hb dX7_touches_115 rfl (lv_at hl 1 rfl) ?_
              refine x_get (v := .ref (o 1)) (T := TX7) C w 0 0 rfl rfl (fun _ h => List.mem_cons_of_mem _ (List.mem_append_right _ (h))) (List.mem_of_getElem? (i := 1) rfl) (by decide) rfl dX7_touches_116 ?_
              refine lv_iconst (v := 0) hx hb dX7_touches_119 (by decide +kernel) ?_
              refine lv_iload_n hx hb dX7_touches_120 rfl (lv_at hl 2 rfl) ?_
              refine x_iaddN (i := 0) (j := pl) hx hb dX7_touches_121 ?_
              refine x_iald (v := (fluG (misG G) (nI l2)) 0 pl) C w 1 0 (0 + pl) rfl ht0 rfl (by omega) (by decide) (fl_r0 _ (by omega)) dX7_touches_122 ?_
              refine x_iast (ws2 := mR cI o (fl (s2 (s2 (s2 (fluG (misG G) (nI l2)) 2 l2 1) 3 l2 (nI pl)) 4 l2 ((fluG (misG G) (nI l2)) 0 pl))) K h hn T tn f) C w 1 0 (144 + l2) rfl ht0 rfl (by omega) (by decide) (congrArg (fun z => mR cI o z K h hn T tn f) (fl_u4 _ (i := l2) (by omega) _)) dX7_touches_123 (fun H locs w => ?_)
              have w : xW D A s.heap (mR cI o (fl (linG (fluG (misG G) (nI l2)) (nI l2) (nI pl))) K h hn T tn f) _ _ := x_ws (congrArg (fun z => mR cI o (fl z) K h hn T tn f) (by rw [lin_yes _ hl9 hp])) w
              refine lv_aload_n hx hb dX7_touches_124 rfl (lv_at hl 1 rfl) ?_
              refine lv_iload_n hx hb dX7_touches_125 rfl (lv_at hl 0 rfl) ?_
              refine x_callVv (wr := []) (w2 := mR cI o (fl (trnG (linG (fluG (misG G) (nI l2)) (nI l2) (nI pl)) (nI l2))) K h hn T tn f) (rest := []) (n := 1) C w hl [.int (nI l2)] (k_X7_turns l D cI cS tys ht0 o (linG (fluG (misG G) (nI l2)) (nI l2) (nI pl)) K h hn T tn f l2 hl9) gX7_touches_X7_turns rfl (by decide +kernel) ⟨Nat.le_of_ble_eq_true rfl, Nat.le_of_ble_eq_true rfl⟩ 0 7 rfl rfl rfl rfl (Nat.le_of_ble_eq_true rfl) [0, 1, 2, 3, 4] [] (by decide) rfl rfl (by decide) (by decide) [0, 1, 2, 3, 4] (by decide) rfl ⟨Nat.zero_le _, Nat.zero_le _⟩ dX7_touches_126 (fun H locs w => ?_)
              refine lv_iload_n hx hb dX7_touches_129 rfl (lv_at hl 0 rfl) ?_
              exact x_iret C w (by unfold lnfI; rw [eh, if_neg (rg_m1 8), et]) (congrArg (fun z => mR cI o (fl z) K h hn T tn f) (by unfold lnfG lnf1 lnfI; rw [eh, if_neg (rg_m1 8), if_neg (rg_m1 8), et])) dX7_touches_130
            ·
              refine x_top (y := nI l1) e1 ?_
              refine lv_istore_n (lv' := [(2, .int (nI l1)), (0, .ref (o 0)), (1, .int (nI pl))]) hx hb dX7_touches_67 rfl hl (by decide) rfl (fun ls hl => ?_)
              refine lv_iload_n hx hb dX7_touches_68 rfl (lv_at hl 0 rfl) ?_
              refine lv_iconst (v := -1) hx hb dX7_touches_69 (by decide +kernel) ?_
              refine x_icR_ne (x := nI l1) (y := (-1)) (tgt := 84) hx hb dX7_touches_70 (by decide) (fun c70_6 => ?_) (fun c70_6 => ?_)
              ·
                have et : takI (misG G) = nI l1 := by unfold takI; rw [if_pos hlow, e1, if_neg (nI_nm1 (by omega))]
                have hl9 : l1 < 8 := hl1
                have hnd : ¬ misG G 2 l1 = 2 := fun z => by rw [z] at h21; exact absurd h21 (by decide)
                have w : xW D A s.heap (mR cI o (fl (fluG (misG G) (nI l1))) K h hn T tn f) _ _ := x_ws (congrArg (fun z => mR cI o (fl z) K h hn T tn f) (flu_no2 hl9 hnd).symm) w
                refine lv_aload_n hx hb dX7_touches_84 rfl (lv_at hl 1 rfl) ?_
                refine x_get (v := .ref (o 1)) (T := TX7) C w 0 0 rfl rfl (fun _ h => List.mem_cons_of_mem _ (List.mem_append_right _ (h))) (List.mem_of_getElem? (i := 1) rfl) (by decide) rfl dX7_touches_85 ?_
                refine lv_sipush (v := 128) hx hb dX7_touches_88 (by decide +kernel) ?_
                refine lv_iload_n hx hb dX7_touches_91 rfl (lv_at hl 0 rfl) ?_
                refine x_iaddN (i := 128) (j := l1) hx hb dX7_touches_92 ?_
                refine lv_iconst (v := 1) hx hb dX7_touches_93 (by decide +kernel) ?_
                refine x_iast (ws2 := mR cI o (fl (s2 (fluG (misG G) (nI l1)) 2 l1 1)) K h hn T tn f) C w 1 0 (128 + l1) rfl ht0 rfl (by omega) (by decide) (congrArg (fun z => mR cI o z K h hn T tn f) (fl_u2 _ (i := l1) (by omega) _)) dX7_touches_94 (fun H locs w => ?_)
                refine lv_aload_n hx hb dX7_touches_95 rfl (lv_at hl 1 rfl) ?_
                refine x_get (v := .ref (o 1)) (T := TX7) C w 0 0 rfl rfl (fun _ h => List.mem_cons_of_mem _ (List.mem_append_right _ (h))) (List.mem_of_getElem? (i := 1) rfl) (by decide) rfl dX7_touches_96 ?_
                refine lv_sipush (v := 136) hx hb dX7_touches_99 (by decide +kernel) ?_
                refine lv_iload_n hx hb dX7_touches_102 rfl (lv_at hl 0 rfl) ?_
                refine x_iaddN (i := 136) (j := l1) hx hb dX7_touches_103 ?_
                refine lv_iload_n hx hb dX7_touches_104 rfl (lv_at hl 2 rfl) ?_
                refine x_iast (ws2 := mR cI o (fl (s2 (s2 (fluG (misG G) (nI l1)) 2 l1 1) 3 l1 (nI pl))) K h hn T tn f) C w 1 0 (136 + l1) rfl ht0 rfl (by omega) (by decide) (congrArg (fun z => mR cI o z K h hn T tn f) (fl_u3 _ (i := l1) (by omega) _)) dX7_touches_105 (fun H locs w => ?_)
                refine lv_aload_n hx hb dX7_touches_106 rfl (lv_at hl 1 rfl) ?_
                refine x_get (v := .ref (o 1)) (T := TX7) C w 0 0 rfl rfl (fun _ h => List.mem_cons_of_mem _ (List.mem_append_right _ (h))) (List.mem_of_getElem? (i := 1) rfl) (by decide) rfl dX7_touches_107 ?_
                refine lv_sipush (v := 144) hx hb dX7_touches_110 (by decide +kernel) ?_
                refine lv_iload_n hx hb dX7_touches_113 rfl (lv_at hl 0 rfl) ?_
                refine x_iaddN (i := 144) (j := l1) hx hb dX7_touches_114 ?_
                refine lv_aload_n hx hb dX7_touches_115 rfl (lv_at hl 1 rfl) ?_
                refine x_get (v := .ref (o 1)) (T := TX7) C w 0 0 rfl rfl (fun _ h => List.mem_cons_of_mem _ (List.mem_append_right _ (h))) (List.mem_of_getElem? (i := 1) rfl) (by decide) rfl dX7_touches_116 ?_
                refine lv_iconst (v := 0) hx hb dX7_touches_119 (by decide +kernel) ?_
                refine lv_iload_n hx hb dX7_touches_120 rfl (lv_at hl 2 rfl) ?_
                refine x_iaddN (i := 0) (j := pl) hx hb dX7_touches_121 ?_
                refine x_iald (v := (fluG (misG G) (nI l1)) 0 pl) C w 1 0 (0 + pl) rfl ht0 rfl (by omega) (by decide) (fl_r0 _ (by omega)) dX7_touches_122 ?_
                refine x_iast (ws2 := mR cI o (fl (s2 (s2 (s2 (fluG (misG G) (nI l1)) 2 l1 1) 3 l1 (nI pl)) 4 l1 ((fluG (misG G) (nI l1)) 0 pl))) K h hn T tn f) C w 1 0 (144 + l1) rfl ht0 rfl (by omega) (by decide) (congrArg (fun z => mR cI o z K h hn T tn f) (fl_u4 _ (i := l1) (by omega) _)) dX7_touches_123 (fun H locs w => ?_)
                have w : xW D A s.heap (mR cI o (fl (linG (fluG (misG G) (nI l1)) (nI l1) (nI pl))) K h hn T tn f) _ _ := x_ws (congrArg (fun z => mR cI o (fl z) K h hn T tn f) (by rw [lin_yes _ hl9 hp])) w
                refine lv_aload_n hx hb dX7_touches_124 rfl (lv_at hl 1 rfl) ?_
                refine lv_iload_n hx hb dX7_touches_125 rfl (lv_at hl 0 rfl) ?_
                refine x_callVv (wr := []) (w2 := mR cI o (fl (trnG (linG (fluG (misG G) (nI l1)) (nI l1) (nI pl)) (nI l1))) K h hn T tn f) (rest := []) (n := 1) C w hl [.int (nI l1)] (k_X7_turns l D cI cS tys ht0 o (linG (fluG (misG G) (nI l1)) (nI l1) (nI pl)) K h hn T tn f l1 hl9) gX7_touches_X7_turns rfl (by decide +kernel) ⟨Nat.le_of_ble_eq_true rfl, Nat.le_of_ble_eq_true rfl⟩ 0 7 rfl rfl rfl rfl (Nat.le_of_ble_eq_true rfl) [0, 1, 2, 3, 4] [] (by decide) rfl rfl (by decide) (by decide) [0, 1, 2, 3, 4] (by decide) rfl ⟨Nat.zero_le _, Nat.zero_le _⟩ dX7_touches_126 (fun H locs w => ?_)
                refine lv_iload_n hx hb dX7_touches_129 rfl (lv_at hl 0 rfl) ?_
                exact x_iret C w (by unfold lnfI; rw [eh, if_neg (rg_m1 8), et]) (congrArg (fun z => mR cI o (fl z) K h hn T tn f) (by unfold lnfG lnf1 lnfI; rw [eh, if_neg (rg_m1 8), if_neg (rg_m1 8), et])) dX7_touches_130
              ·
                exact absurd c70_6 (nI_nm1 (by omega))
          ·
            exact absurd c55_4 (by omega)
        ·
          obtain ⟨k', rfl⟩ : ∃ z, k = z + 1 := ⟨k - 1, by omega⟩
          rw [fndI] at hq
          refine lv_aload_n hx hb dX7_touches_33 rfl (lv_at hl 1 rfl) ?_
          refine x_get (v := .ref (o 1)) (T := TX7) C w 0 0 rfl rfl (fun _ h => List.mem_cons_of_mem _ (List.mem_append_right _ (h))) (List.mem_of_getElem? (i := 1) rfl) (by decide) rfl dX7_touches_34 ?_
          refine lv_sipush (v := 128) hx hb dX7_touches_37 (by decide +kernel) ?_
          refine lv_iload_n hx hb dX7_touches_40 rfl (lv_at hl 0 rfl) ?_
          refine x_iaddN (i := 128) (j := i) hx hb dX7_touches_41 ?_
          refine x_iald (v := (misG G) 2 i) C w 1 0 (128 + i) rfl ht0 rfl (by omega) (by decide) (fl_r2 _ (by omega)) dX7_touches_42 ?_
          refine x_ifR_eq (x := (misG G) 2 i) (tgt := 52) hx hb dX7_touches_43 (by decide) (fun c43_7 => ?_) (fun c43_7 => ?_)
          ·
            have hki := c43_7
            have hlow : lowI (misG G) = nI i := by rw [← hq, if_pos hki]
            refine lv_iload_n hx hb dX7_touches_52 rfl (lv_at hl 0 rfl) ?_
            refine lv_bipush (v := 8) hx hb dX7_touches_53 (by decide +kernel) ?_
            refine x_icN_ge (i := i) (j := 8) (tgt := 62) hx hb (by omega) (by omega) dX7_touches_55 (by decide) (fun c55_8 => ?_) (fun c55_8 => ?_)
            ·
              exact absurd (show i < 8 by omega) c55_8
            ·
              refine lv_iload_n hx hb dX7_touches_58 rfl (lv_at hl 0 rfl) ?_
              refine lv_goto (tgt := 67) hx hb dX7_touches_59 (by decide) ?_
              refine lv_istore_n (lv' := [(2, .int (nI i)), (0, .ref (o 0)), (1, .int (nI pl))]) hx hb dX7_touches_67 rfl hl (by decide) rfl (fun ls hl => ?_)
              refine lv_iload_n hx hb dX7_touches_68 rfl (lv_at hl 0 rfl) ?_
              refine lv_iconst (v := -1) hx hb dX7_touches_69 (by decide +kernel) ?_
              refine x_icR_ne (x := nI i) (y := (-1)) (tgt := 84) hx hb dX7_touches_70 (by decide) (fun c70_9 => ?_) (fun c70_9 => ?_)
              ·
                have et : takI (misG G) = nI i := by unfold takI; rw [hlow, if_neg (nI_nm1 (by omega))]
                have hl9 : i < 8 := by omega
                have hnd : ¬ misG G 2 i = 2 := fun z => by rw [z] at hki; exact absurd hki (by decide)
                have w : xW D A s.heap (mR cI o (fl (fluG (misG G) (nI i))) K h hn T tn f) _ _ := x_ws (congrArg (fun z => mR cI o (fl z) K h hn T tn f) (flu_no2 hl9 hnd).symm) w
                refine lv_aload_n hx hb dX7_touches_84 rfl (lv_at hl 1 rfl) ?_
                refine x_get (v := .ref (o 1)) (T := TX7) C w 0 0 rfl rfl (fun _ h => List.mem_cons_of_mem _ (List.mem_append_right _ (h))) (List.mem_of_getElem? (i := 1) rfl) (by decide) rfl dX7_touches_85 ?_
                refine lv_sipush (v := 128) hx hb dX7_touches_88 (by decide +kernel) ?_
                refine lv_iload_n hx hb dX7_touches_91 rfl (lv_at hl 0 rfl) ?_
                refine x_iaddN (i := 128) (j := i) hx hb dX7_touches_92 ?_
                refine lv_iconst (v := 1) hx hb dX7_touches_93 (by decide +kernel) ?_
                refine x_iast (ws2 := mR cI o (fl (s2 (fluG (misG G) (nI i)) 2 i 1)) K h hn T tn f) C w 1 0 (128 + i) rfl ht0 rfl (by omega) (by decide) (congrArg (fun z => mR cI o z K h hn T tn f) (fl_u2 _ (i := i) (by omega) _)) dX7_touches_94 (fun H locs w => ?_)
                refine lv_aload_n hx hb dX7_touches_95 rfl (lv_at hl 1 rfl) ?_
                refine x_get (v := .ref (o 1)) (T := TX7) C w 0 0 rfl rfl (fun _ h => List.mem_cons_of_mem _ (List.mem_append_right _ (h))) (List.mem_of_getElem? (i := 1) rfl) (by decide) rfl dX7_touches_96 ?_
                refine lv_sipush (v := 136) hx hb dX7_touches_99 (by decide +kernel) ?_
                refine lv_iload_n hx hb dX7_touches_102 rfl (lv_at hl 0 rfl) ?_
                refine x_iaddN (i := 136) (j := i) hx hb dX7_touches_103 ?_
                refine lv_iload_n hx hb dX7_touches_104 rfl (lv_at hl 2 rfl) ?_
                refine x_iast (ws2 := mR cI o (fl (s2 (s2 (fluG (misG G) (nI i)) 2 i 1) 3 i (nI pl))) K h hn T tn f) C w 1 0 (136 + i) rfl ht0 rfl (by omega) (by decide) (congrArg (fun z => mR cI o z K h hn T tn f) (fl_u3 _ (i := i) (by omega) _)) dX7_touches_105 (fun H locs w => ?_)
                refine lv_aload_n hx hb dX7_touches_106 rfl (lv_at hl 1 rfl) ?_
                refine x_get (v := .ref (o 1)) (T := TX7) C w 0 0 rfl rfl (fun _ h => List.mem_cons_of_mem _ (List.mem_append_right _ (h))) (List.mem_of_getElem? (i := 1) rfl) (by decide) rfl dX7_touches_107 ?_
                refine lv_sipush (v := 144) hx hb dX7_touches_110 (by decide +kernel) ?_
                refine lv_iload_n hx hb dX7_touches_113 rfl (lv_at hl 0 rfl) ?_
                refine x_iaddN (i := 144) (j := i) hx hb dX7_touches_114 ?_
                refine lv_aload_n hx hb dX7_touches_115 rfl (lv_at hl 1 rfl) ?_
                refine x_get (v := .ref (o 1)) (T := TX7) C w 0 0 rfl rfl (fun _ h => List.mem_cons_of_mem _ (List.mem_append_right _ (h))) (List.mem_of_getElem? (i := 1) rfl) (by decide) rfl dX7_touches_116 ?_
                refine lv_iconst (v := 0) hx hb dX7_touches_119 (by decide +kernel) ?_
                refine lv_iload_n hx hb dX7_touches_120 rfl (lv_at hl 2 rfl) ?_
                refine x_iaddN (i := 0) (j := pl) hx hb dX7_touches_121 ?_
                refine x_iald (v := (fluG (misG G) (nI i)) 0 pl) C w 1 0 (0 + pl) rfl ht0 rfl (by omega) (by decide) (fl_r0 _ (by omega)) dX7_touches_122 ?_
                refine x_iast (ws2 := mR cI o (fl (s2 (s2 (s2 (fluG (misG G) (nI i)) 2 i 1) 3 i (nI pl)) 4 i ((fluG (misG G) (nI i)) 0 pl))) K h hn T tn f) C w 1 0 (144 + i) rfl ht0 rfl (by omega) (by decide) (congrArg (fun z => mR cI o z K h hn T tn f) (fl_u4 _ (i := i) (by omega) _)) dX7_touches_123 (fun H locs w => ?_)
                have w : xW D A s.heap (mR cI o (fl (linG (fluG (misG G) (nI i)) (nI i) (nI pl))) K h hn T tn f) _ _ := x_ws (congrArg (fun z => mR cI o (fl z) K h hn T tn f) (by rw [lin_yes _ hl9 hp])) w
                refine lv_aload_n hx hb dX7_touches_124 rfl (lv_at hl 1 rfl) ?_
                refine lv_iload_n hx hb dX7_touches_125 rfl (lv_at hl 0 rfl) ?_
                refine x_callVv (wr := []) (w2 := mR cI o (fl (trnG (linG (fluG (misG G) (nI i)) (nI i) (nI pl)) (nI i))) K h hn T tn f) (rest := []) (n := 1) C w hl [.int (nI i)] (k_X7_turns l D cI cS tys ht0 o (linG (fluG (misG G) (nI i)) (nI i) (nI pl)) K h hn T tn f i hl9) gX7_touches_X7_turns rfl (by decide +kernel) ⟨Nat.le_of_ble_eq_true rfl, Nat.le_of_ble_eq_true rfl⟩ 0 7 rfl rfl rfl rfl (Nat.le_of_ble_eq_true rfl) [0, 1, 2, 3, 4] [] (by decide) rfl rfl (by decide) (by decide) [0, 1, 2, 3, 4] (by decide) rfl ⟨Nat.zero_le _, Nat.zero_le _⟩ dX7_touches_126 (fun H locs w => ?_)
                refine lv_iload_n hx hb dX7_touches_129 rfl (lv_at hl 0 rfl) ?_
                exact x_iret C w (by unfold lnfI; rw [eh, if_neg (rg_m1 8), et]) (congrArg (fun z => mR cI o (fl z) K h hn T tn f) (by unfold lnfG lnf1 lnfI; rw [eh, if_neg (rg_m1 8), if_neg (rg_m1 8), et])) dX7_touches_130
              ·
                exact absurd c70_9 (nI_nm1 (by omega))
          ·
            refine lv_iinc (v := nI (i + 1)) (lv' := [(2, .int (nI (i + 1))), (0, .ref (o 0)), (1, .int (nI pl))]) hx hb dX7_touches_46 hl (k := 0) rfl (nI_add i 1) (by decide) rfl (fun ls hl => ?_)
            refine lv_goto (tgt := 27) hx hb dX7_touches_49 (by decide) ?_
            have hl : lv_has ls 3 [(2, .int (nI (i + 1))), (0, .ref (o 0)), (1, .int (nI pl))] := lv_eqL (lv_sub (l' := [(2, .int (nI (i + 1))), (0, .ref (o 0)), (1, .int (nI pl))]) hl [0, 1, 2] rfl) (cg2 List.cons rfl (cg2 List.cons rfl (cg2 List.cons rfl rfl)))
            exact ih k' (i + 1) (by omega) (by omega) (by simpa [c30_3, c43_7] using hq) _ _ w _ hl
    have q10 : 0 = (nI 0 : Int32) := (by first | rfl | contradiction | (simp []; done))
    have hl : lv_has ls 3 [(2, .int (nI 0)), (0, .ref (o 0)), (1, .int (nI pl))] := lv_eqL (lv_sub (l' := [(2, .int 0), (0, .ref (o 0)), (1, .int (nI pl))]) hl [0, 1, 2] rfl) (cg2 List.cons (congrArg (fun z => ((2 : Nat), Value.int z)) q10) (cg2 List.cons rfl (cg2 List.cons rfl rfl)))
    exact loop_27 (9) 8 0 (by omega) rfl rfl _ _ w _ hl
  ·
    refine x_top (y := nI l0) eh ?_
    refine lv_istore_n (lv' := [(2, .int (nI l0)), (0, .ref (o 0)), (1, .int (nI pl))]) hx hb dX7_touches_5 rfl hl (by decide) rfl (fun ls hl => ?_)
    refine lv_aload_n hx hb dX7_touches_6 rfl (lv_at hl 1 rfl) ?_
    refine lv_iload_n hx hb dX7_touches_7 rfl (lv_at hl 0 rfl) ?_
    refine lv_iconst (v := -1) hx hb dX7_touches_8 (by decide +kernel) ?_
    refine x_icR_ne (x := nI l0) (y := (-1)) (tgt := 16) hx hb dX7_touches_9 (by decide) (fun c9_11 => ?_) (fun c9_11 => ?_)
    ·
      refine lv_iconst (v := 1) hx hb dX7_touches_16 (by decide +kernel) ?_
      refine x_callVv (wr := []) (w2 := mR cI o (fl (s2 G 7 1 (G 7 1 + 1))) K h hn T tn f) (rest := []) (n := 1) C w hl [.int 1] (k_X7_counts l D cI cS tys ht0 o G K h hn T tn f 1 (by decide)) gX7_touches_X7_counts rfl (by decide +kernel) ⟨Nat.le_of_ble_eq_true rfl, Nat.le_of_ble_eq_true rfl⟩ 0 7 rfl rfl rfl rfl (Nat.le_of_ble_eq_true rfl) [0, 1, 2, 3, 4] [] (by decide) rfl rfl (by decide) (by decide) [0, 1, 2, 3, 4] (by decide) rfl ⟨Nat.zero_le _, Nat.zero_le _⟩ dX7_touches_17 (fun H locs w => ?_)
      refine lv_iload_n hx hb dX7_touches_20 rfl (lv_at hl 0 rfl) ?_
      refine lv_iconst (v := -1) hx hb dX7_touches_21 (by decide +kernel) ?_
      refine x_icR_ne (x := nI l0) (y := (-1)) (tgt := 124) hx hb dX7_touches_22 (by decide) (fun c22_12 => ?_) (fun c22_12 => ?_)
      ·
        refine lv_aload_n hx hb dX7_touches_124 rfl (lv_at hl 1 rfl) ?_
        refine lv_iload_n hx hb dX7_touches_125 rfl (lv_at hl 0 rfl) ?_
        refine x_callVv (wr := []) (w2 := mR cI o (fl (trnG (s2 G 7 1 (G 7 1 + 1)) (nI l0))) K h hn T tn f) (rest := []) (n := 1) C w hl [.int (nI l0)] (k_X7_turns l D cI cS tys ht0 o (s2 G 7 1 (G 7 1 + 1)) K h hn T tn f l0 hl0) gX7_touches_X7_turns rfl (by decide +kernel) ⟨Nat.le_of_ble_eq_true rfl, Nat.le_of_ble_eq_true rfl⟩ 0 7 rfl rfl rfl rfl (Nat.le_of_ble_eq_true rfl) [0, 1, 2, 3, 4] [] (by decide) rfl rfl (by decide) (by decide) [0, 1, 2, 3, 4] (by decide) rfl ⟨Nat.zero_le _, Nat.zero_le _⟩ dX7_touches_126 (fun H locs w => ?_)
        refine lv_iload_n hx hb dX7_touches_129 rfl (lv_at hl 0 rfl) ?_
        exact x_iret C w (by unfold lnfI; rw [eh, if_pos (rg_nI (n := 8) (b := 8) rfl hl0 (by decide))]) (congrArg (fun z => mR cI o (fl z) K h hn T tn f) (by unfold lnfG lnf1 lnfI; rw [eh, if_pos (rg_nI (n := 8) (b := 8) rfl hl0 (by decide)), if_pos (rg_nI (n := 8) (b := 8) rfl hl0 (by decide))])) dX7_touches_130
      ·
        exact absurd c22_12 (nI_nm1 (by omega))
    ·
      exact absurd c9_11 (nI_nm1 (by omega))
