set_option maxHeartbeats 1000000 in
set_option maxRecDepth 100000 in
theorem k_X7_lowerTurns (l : Launch) (D : va_G) (cI cS : ClassId) (tys : List (ClassId × FieldType)) (ht0 : tys[0]? = some (cI, .int)) (o : Nat → Nat) (G : St) (K : Nat → Int32) (h : Nat → Int32) (hn : Int32) (T : Nat → Int32) (tn : Int32) (f : Nat → Int32) (l1 : Nat) (hl1 : l1 < 8) : xI l yX7_lowerTurns wsX7_lowerTurns 0 D tys [.ref (o 0), .int (nI l1)] (mR cI o (fl G) K h hn T tn f) (nI (cntN (fun j => ¬ G 2 j = 0 ∧ G 5 j < G 5 l1) 8)) (mR cI o (fl G) K h hn T tn f) := by
  refine x_inI (cc := cX7_lowerTurns) (maxL := 4) (ret := (some .int)) (by decide) rfl (Nat.le_of_ble_eq_true rfl) ?_
  intro p e s m args below meth c A ls C w hl
  have C : xC p s m meth c args cX7_lowerTurns 4 wsX7_lowerTurns RX7 D tys (some .int) := C
  have hx := C.1.1
  have hb := C.1.2.1
  have hts := C.1.2.2.2.2
  have hown := C.1.2.2.2.1
  have w : xW D A s.heap (mR cI o (fl G) K h hn T tn f) s.heap [] := w
  have hl : lv_has ls 4 [(0, .ref (o 0)), (1, .int (nI l1))] := hl
  refine lv_iconst (v := 0) hx hb dX7_lowerTurns_0 (by decide +kernel) ?_
  refine lv_istore_n (lv' := [(2, .int 0), (0, .ref (o 0)), (1, .int (nI l1))]) hx hb dX7_lowerTurns_1 rfl hl (by decide) rfl (fun ls hl => ?_)
  refine lv_iconst (v := 0) hx hb dX7_lowerTurns_2 (by decide +kernel) ?_
  refine lv_istore_n (lv' := [(3, .int 0), (2, .int 0), (0, .ref (o 0)), (1, .int (nI l1))]) hx hb dX7_lowerTurns_3 rfl hl (by decide) rfl (fun ls hl => ?_)
  have loop_4 : ∀ (n : Nat) (i : Nat), 8 - i < n → (i ≤ 8) → ∀ (H : Heap) (locs : List Loc), xW D A s.heap (mR cI o (fl G) K h hn T tn f) H locs → ∀ ls : Array Slot, lv_has ls 4 [(3, .int (nI i)), (2, .int (nI (cntN (fun j => ¬ G 2 j = 0 ∧ G 5 j < G 5 l1) i))), (0, .ref (o 0)), (1, .int (nI l1))] → W p l e (rmd 0) s m args below meth c H locs 0 0 (MQ below (xQi D tys (nI (cntN (fun j => ¬ G 2 j = 0 ∧ G 5 j < G 5 l1) 8)) (mR cI o (fl G) K h hn T tn f) A) args s 0 0 A) (F0 m 4 ls []) := by
    intro n
    induction n with
    | zero => intro i hm; exact absurd hm (Nat.not_lt_zero _)
    | succ n ih =>
      intro i hm hi H locs w ls hl
      refine lv_iload_n hx hb dX7_lowerTurns_4 rfl (lv_at hl 0 rfl) ?_
      refine lv_bipush (v := 8) hx hb dX7_lowerTurns_5 (by decide +kernel) ?_
      refine x_icN_ge (i := i) (j := 8) (tgt := 60) hx hb (by omega) (by omega) dX7_lowerTurns_7 (by decide) (fun c7_1 => ?_) (fun c7_1 => ?_)
      ·
        have hE : i = 8 := (by omega)
        refine lv_iload_n hx hb dX7_lowerTurns_60 rfl (lv_at hl 1 rfl) ?_
        exact x_iret C w (by rw [hE]) rfl dX7_lowerTurns_61
      ·
        refine lv_iload_n hx hb dX7_lowerTurns_10 rfl (lv_at hl 1 rfl) ?_
        refine lv_aload_n hx hb dX7_lowerTurns_11 rfl (lv_at hl 2 rfl) ?_
        refine x_get (v := .ref (o 1)) (T := TX7) C w 0 0 rfl rfl (fun _ h => List.mem_cons_of_mem _ (List.mem_append_right _ (h))) (List.mem_of_getElem? (i := 1) rfl) (by decide) rfl dX7_lowerTurns_12 ?_
        refine lv_sipush (v := 128) hx hb dX7_lowerTurns_15 (by decide +kernel) ?_
        refine lv_iload_n hx hb dX7_lowerTurns_18 rfl (lv_at hl 0 rfl) ?_
        refine x_iaddN (i := 128) (j := i) hx hb dX7_lowerTurns_19 ?_
        refine x_iald (v := G 2 i) C w 1 0 (128 + i) rfl ht0 rfl (by omega) (by decide) (fl_r2 _ (by omega)) dX7_lowerTurns_20 ?_
        refine x_ifR_eq (x := G 2 i) (tgt := 51) hx hb dX7_lowerTurns_21 (by decide) (fun c21_2 => ?_) (fun c21_2 => ?_)
        ·
          refine lv_iconst (v := 0) hx hb dX7_lowerTurns_51 (by decide +kernel) ?_
          refine x_iaddN (i := cntN (fun j => ¬ G 2 j = 0 ∧ G 5 j < G 5 l1) i) (j := 0) hx hb dX7_lowerTurns_52 ?_
          refine lv_istore_n (lv' := [(2, .int (nI ((cntN (fun j => ¬ G 2 j = 0 ∧ G 5 j < G 5 l1) i) + 0))), (3, .int (nI i)), (0, .ref (o 0)), (1, .int (nI l1))]) hx hb dX7_lowerTurns_53 rfl hl (by decide) rfl (fun ls hl => ?_)
          refine lv_iinc (v := nI (i + 1)) (lv' := [(3, .int (nI (i + 1))), (2, .int (nI ((cntN (fun j => ¬ G 2 j = 0 ∧ G 5 j < G 5 l1) i) + 0))), (0, .ref (o 0)), (1, .int (nI l1))]) hx hb dX7_lowerTurns_54 hl (k := 1) rfl (nI_add i 1) (by decide) rfl (fun ls hl => ?_)
          refine lv_goto (tgt := 4) hx hb dX7_lowerTurns_57 (by decide) ?_
          have q3 : nI ((cntN (fun j => ¬ G 2 j = 0 ∧ G 5 j < G 5 l1) i) + 0) = (nI (cntN (fun j => ¬ G 2 j = 0 ∧ G 5 j < G 5 l1) (i + 1)) : Int32) := (by first | (rw [cntN, if_pos ⟨c21_2, hx⟩]; done) | (rw [cntN, if_neg (fun z => hx z.2)] <;> rfl) | (rw [cntN, if_neg (fun z => z.1 c21_2)] <;> rfl) | (rw [cntN, if_neg (fun z => c21_2 z.1)] <;> rfl))
          have hl : lv_has ls 4 [(3, .int (nI (i + 1))), (2, .int (nI (cntN (fun j => ¬ G 2 j = 0 ∧ G 5 j < G 5 l1) (i + 1)))), (0, .ref (o 0)), (1, .int (nI l1))] := lv_eqL (lv_sub (l' := [(3, .int (nI (i + 1))), (2, .int (nI ((cntN (fun j => ¬ G 2 j = 0 ∧ G 5 j < G 5 l1) i) + 0))), (0, .ref (o 0)), (1, .int (nI l1))]) hl [0, 1, 2, 3] rfl) (cg2 List.cons rfl (cg2 List.cons (congrArg (fun z => ((2 : Nat), Value.int z)) q3) (cg2 List.cons rfl (cg2 List.cons rfl rfl))))
          exact ih (i + 1) (by omega) (by omega) _ _ w _ hl
        ·
          refine lv_aload_n hx hb dX7_lowerTurns_24 rfl (lv_at hl 2 rfl) ?_
          refine x_get (v := .ref (o 1)) (T := TX7) C w 0 0 rfl rfl (fun _ h => List.mem_cons_of_mem _ (List.mem_append_right _ (h))) (List.mem_of_getElem? (i := 1) rfl) (by decide) rfl dX7_lowerTurns_25 ?_
          refine lv_sipush (v := 152) hx hb dX7_lowerTurns_28 (by decide +kernel) ?_
          refine lv_iload_n hx hb dX7_lowerTurns_31 rfl (lv_at hl 0 rfl) ?_
          refine x_iaddN (i := 152) (j := i) hx hb dX7_lowerTurns_32 ?_
          refine x_iald (v := G 5 i) C w 1 0 (152 + i) rfl ht0 rfl (by omega) (by decide) (fl_r5 _ (by omega)) dX7_lowerTurns_33 ?_
          refine lv_aload_n hx hb dX7_lowerTurns_34 rfl (lv_at hl 2 rfl) ?_
          refine x_get (v := .ref (o 1)) (T := TX7) C w 0 0 rfl rfl (fun _ h => List.mem_cons_of_mem _ (List.mem_append_right _ (h))) (List.mem_of_getElem? (i := 1) rfl) (by decide) rfl dX7_lowerTurns_35 ?_
          refine lv_sipush (v := 152) hx hb dX7_lowerTurns_38 (by decide +kernel) ?_
          refine lv_iload_n hx hb dX7_lowerTurns_41 rfl (lv_at hl 3 rfl) ?_
          refine x_iaddN (i := 152) (j := l1) hx hb dX7_lowerTurns_42 ?_
          refine x_iald (v := G 5 l1) C w 1 0 (152 + l1) rfl ht0 rfl (by omega) (by decide) (fl_r5 _ (by omega)) dX7_lowerTurns_43 ?_
          refine x_icR_ge (x := G 5 i) (y := G 5 l1) (tgt := 51) hx hb dX7_lowerTurns_44 (by decide) (fun c44_4 => ?_) (fun c44_4 => ?_)
          ·
            refine lv_iconst (v := 0) hx hb dX7_lowerTurns_51 (by decide +kernel) ?_
            refine x_iaddN (i := cntN (fun j => ¬ G 2 j = 0 ∧ G 5 j < G 5 l1) i) (j := 0) hx hb dX7_lowerTurns_52 ?_
            refine lv_istore_n (lv' := [(2, .int (nI ((cntN (fun j => ¬ G 2 j = 0 ∧ G 5 j < G 5 l1) i) + 0))), (3, .int (nI i)), (0, .ref (o 0)), (1, .int (nI l1))]) hx hb dX7_lowerTurns_53 rfl hl (by decide) rfl (fun ls hl => ?_)
            refine lv_iinc (v := nI (i + 1)) (lv' := [(3, .int (nI (i + 1))), (2, .int (nI ((cntN (fun j => ¬ G 2 j = 0 ∧ G 5 j < G 5 l1) i) + 0))), (0, .ref (o 0)), (1, .int (nI l1))]) hx hb dX7_lowerTurns_54 hl (k := 1) rfl (nI_add i 1) (by decide) rfl (fun ls hl => ?_)
            refine lv_goto (tgt := 4) hx hb dX7_lowerTurns_57 (by decide) ?_
            have q5 : nI ((cntN (fun j => ¬ G 2 j = 0 ∧ G 5 j < G 5 l1) i) + 0) = (nI (cntN (fun j => ¬ G 2 j = 0 ∧ G 5 j < G 5 l1) (i + 1)) : Int32) := (by first | (rw [cntN, if_pos ⟨c21_2, c44_4⟩]; done) | (rw [cntN, if_neg (fun z => c44_4 z.2)] <;> rfl) | (rw [cntN, if_neg (fun z => z.1 c21_2)] <;> rfl) | (rw [cntN, if_neg (fun z => c21_2 z.1)] <;> rfl))
            have hl : lv_has ls 4 [(3, .int (nI (i + 1))), (2, .int (nI (cntN (fun j => ¬ G 2 j = 0 ∧ G 5 j < G 5 l1) (i + 1)))), (0, .ref (o 0)), (1, .int (nI l1))] := lv_eqL (lv_sub (l' := [(3, .int (nI (i + 1))), (2, .int (nI ((cntN (fun j => ¬ G 2 j = 0 ∧ G 5 j < G 5 l1) i) + 0))), (0, .ref (o 0)), (1, .int (nI l1))]) hl [0, 1, 2, 3] rfl) (cg2 List.cons rfl (cg2 List.cons (congrArg (fun z => ((2 : Nat), Value.int z)) q5) (cg2 List.cons rfl (cg2 List.cons rfl rfl))))
            exact ih (i + 1) (by omega) (by omega) _ _ w _ hl
          ·
            refine lv_iconst (v := 1) hx hb dX7_lowerTurns_47 (by decide +kernel) ?_
            refine lv_goto (tgt := 52) hx hb dX7_lowerTurns_48 (by decide) ?_
            refine x_iaddN (i := cntN (fun j => ¬ G 2 j = 0 ∧ G 5 j < G 5 l1) i) (j := 1) hx hb dX7_lowerTurns_52 ?_
            refine lv_istore_n (lv' := [(2, .int (nI ((cntN (fun j => ¬ G 2 j = 0 ∧ G 5 j < G 5 l1) i) + 1))), (3, .int (nI i)), (0, .ref (o 0)), (1, .int (nI l1))]) hx hb dX7_lowerTurns_53 rfl hl (by decide) rfl (fun ls hl => ?_)
            refine lv_iinc (v := nI (i + 1)) (lv' := [(3, .int (nI (i + 1))), (2, .int (nI ((cntN (fun j => ¬ G 2 j = 0 ∧ G 5 j < G 5 l1) i) + 1))), (0, .ref (o 0)), (1, .int (nI l1))]) hx hb dX7_lowerTurns_54 hl (k := 1) rfl (nI_add i 1) (by decide) rfl (fun ls hl => ?_)
            refine lv_goto (tgt := 4) hx hb dX7_lowerTurns_57 (by decide) ?_
            have q6 : nI ((cntN (fun j => ¬ G 2 j = 0 ∧ G 5 j < G 5 l1) i) + 1) = (nI (cntN (fun j => ¬ G 2 j = 0 ∧ G 5 j < G 5 l1) (i + 1)) : Int32) := (by first | (rw [cntN, if_pos ⟨c21_2, c44_4⟩]; done) | (rw [cntN, if_neg (fun z => c44_4 z.2)] <;> rfl) | (rw [cntN, if_neg (fun z => z.1 c21_2)] <;> rfl) | (rw [cntN, if_neg (fun z => c21_2 z.1)] <;> rfl))
            have hl : lv_has ls 4 [(3, .int (nI (i + 1))), (2, .int (nI (cntN (fun j => ¬ G 2 j = 0 ∧ G 5 j < G 5 l1) (i + 1)))), (0, .ref (o 0)), (1, .int (nI l1))] := lv_eqL (lv_sub (l' := [(3, .int (nI (i + 1))), (2, .int (nI ((cntN (fun j => ¬ G 2 j = 0 ∧ G 5 j < G 5 l1) i) + 1))), (0, .ref (o 0)), (1, .int (nI l1))]) hl [0, 1, 2, 3] rfl) (cg2 List.cons rfl (cg2 List.cons (congrArg (fun z => ((2 : Nat), Value.int z)) q6) (cg2 List.cons rfl (cg2 List.cons rfl rfl))))
            exact ih (i + 1) (by omega) (by omega) _ _ w _ hl
  have q7 : 0 = (nI 0 : Int32) := (by first | rfl | contradiction | (simp []; done))
  have q8 : 0 = (nI (cntN (fun j => ¬ G 2 j = 0 ∧ G 5 j < G 5 l1) 0) : Int32) := (by first | rfl | contradiction | (simp []; done))
  have hl : lv_has ls 4 [(3, .int (nI 0)), (2, .int (nI (cntN (fun j => ¬ G 2 j = 0 ∧ G 5 j < G 5 l1) 0))), (0, .ref (o 0)), (1, .int (nI l1))] := lv_eqL (lv_sub (l' := [(3, .int 0), (2, .int 0), (0, .ref (o 0)), (1, .int (nI l1))]) hl [0, 1, 2, 3] rfl) (cg2 List.cons (congrArg (fun z => ((3 : Nat), Value.int z)) q7) (cg2 List.cons (congrArg (fun z => ((2 : Nat), Value.int z)) q8) (cg2 List.cons rfl (cg2 List.cons rfl rfl))))
  exact loop_4 (9) 0 (by omega) (by omega) _ _ w _ hl
set_option maxHeartbeats 1000000 in
set_option maxRecDepth 100000 in
theorem k_X7_dirtyBefore (l : Launch) (D : va_G) (cI cS : ClassId) (tys : List (ClassId × FieldType)) (ht0 : tys[0]? = some (cI, .int)) (o : Nat → Nat) (G : St) (K : Nat → Int32) (h : Nat → Int32) (hn : Int32) (T : Nat → Int32) (tn : Int32) (f : Nat → Int32) (l1 : Nat) (hl1 : l1 < 8) : xI l yX7_dirtyBefore wsX7_dirtyBefore 0 D tys [.ref (o 0), .int (nI l1)] (mR cI o (fl G) K h hn T tn f) (nI (cntN (fun j => G 2 j = 2 ∧ G 5 j < G 5 l1) 8)) (mR cI o (fl G) K h hn T tn f) := by
  refine x_inI (cc := cX7_dirtyBefore) (maxL := 4) (ret := (some .int)) (by decide) rfl (Nat.le_of_ble_eq_true rfl) ?_
  intro p e s m args below meth c A ls C w hl
  have C : xC p s m meth c args cX7_dirtyBefore 4 wsX7_dirtyBefore RX7 D tys (some .int) := C
  have hx := C.1.1
  have hb := C.1.2.1
  have hts := C.1.2.2.2.2
  have hown := C.1.2.2.2.1
  have w : xW D A s.heap (mR cI o (fl G) K h hn T tn f) s.heap [] := w
  have hl : lv_has ls 4 [(0, .ref (o 0)), (1, .int (nI l1))] := hl
  refine lv_iconst (v := 0) hx hb dX7_dirtyBefore_0 (by decide +kernel) ?_
  refine lv_istore_n (lv' := [(2, .int 0), (0, .ref (o 0)), (1, .int (nI l1))]) hx hb dX7_dirtyBefore_1 rfl hl (by decide) rfl (fun ls hl => ?_)
  refine lv_iconst (v := 0) hx hb dX7_dirtyBefore_2 (by decide +kernel) ?_
  refine lv_istore_n (lv' := [(3, .int 0), (2, .int 0), (0, .ref (o 0)), (1, .int (nI l1))]) hx hb dX7_dirtyBefore_3 rfl hl (by decide) rfl (fun ls hl => ?_)
  have loop_4 : ∀ (n : Nat) (i : Nat), 8 - i < n → (i ≤ 8) → ∀ (H : Heap) (locs : List Loc), xW D A s.heap (mR cI o (fl G) K h hn T tn f) H locs → ∀ ls : Array Slot, lv_has ls 4 [(3, .int (nI i)), (2, .int (nI (cntN (fun j => G 2 j = 2 ∧ G 5 j < G 5 l1) i))), (0, .ref (o 0)), (1, .int (nI l1))] → W p l e (rmd 0) s m args below meth c H locs 0 0 (MQ below (xQi D tys (nI (cntN (fun j => G 2 j = 2 ∧ G 5 j < G 5 l1) 8)) (mR cI o (fl G) K h hn T tn f) A) args s 0 0 A) (F0 m 4 ls []) := by
    intro n
    induction n with
    | zero => intro i hm; exact absurd hm (Nat.not_lt_zero _)
    | succ n ih =>
      intro i hm hi H locs w ls hl
      refine lv_iload_n hx hb dX7_dirtyBefore_4 rfl (lv_at hl 0 rfl) ?_
      refine lv_bipush (v := 8) hx hb dX7_dirtyBefore_5 (by decide +kernel) ?_
      refine x_icN_ge (i := i) (j := 8) (tgt := 61) hx hb (by omega) (by omega) dX7_dirtyBefore_7 (by decide) (fun c7_1 => ?_) (fun c7_1 => ?_)
      ·
        have hE : i = 8 := (by omega)
        refine lv_iload_n hx hb dX7_dirtyBefore_61 rfl (lv_at hl 1 rfl) ?_
        exact x_iret C w (by rw [hE]) rfl dX7_dirtyBefore_62
      ·
        refine lv_iload_n hx hb dX7_dirtyBefore_10 rfl (lv_at hl 1 rfl) ?_
        refine lv_aload_n hx hb dX7_dirtyBefore_11 rfl (lv_at hl 2 rfl) ?_
        refine x_get (v := .ref (o 1)) (T := TX7) C w 0 0 rfl rfl (fun _ h => List.mem_cons_of_mem _ (List.mem_append_right _ (h))) (List.mem_of_getElem? (i := 1) rfl) (by decide) rfl dX7_dirtyBefore_12 ?_
        refine lv_sipush (v := 128) hx hb dX7_dirtyBefore_15 (by decide +kernel) ?_
        refine lv_iload_n hx hb dX7_dirtyBefore_18 rfl (lv_at hl 0 rfl) ?_
        refine x_iaddN (i := 128) (j := i) hx hb dX7_dirtyBefore_19 ?_
        refine x_iald (v := G 2 i) C w 1 0 (128 + i) rfl ht0 rfl (by omega) (by decide) (fl_r2 _ (by omega)) dX7_dirtyBefore_20 ?_
        refine lv_iconst (v := 2) hx hb dX7_dirtyBefore_21 (by decide +kernel) ?_
        refine x_icR_ne (x := G 2 i) (y := 2) (tgt := 52) hx hb dX7_dirtyBefore_22 (by decide) (fun c22_2 => ?_) (fun c22_2 => ?_)
        ·
          refine lv_iconst (v := 0) hx hb dX7_dirtyBefore_52 (by decide +kernel) ?_
          refine x_iaddN (i := cntN (fun j => G 2 j = 2 ∧ G 5 j < G 5 l1) i) (j := 0) hx hb dX7_dirtyBefore_53 ?_
          refine lv_istore_n (lv' := [(2, .int (nI ((cntN (fun j => G 2 j = 2 ∧ G 5 j < G 5 l1) i) + 0))), (3, .int (nI i)), (0, .ref (o 0)), (1, .int (nI l1))]) hx hb dX7_dirtyBefore_54 rfl hl (by decide) rfl (fun ls hl => ?_)
          refine lv_iinc (v := nI (i + 1)) (lv' := [(3, .int (nI (i + 1))), (2, .int (nI ((cntN (fun j => G 2 j = 2 ∧ G 5 j < G 5 l1) i) + 0))), (0, .ref (o 0)), (1, .int (nI l1))]) hx hb dX7_dirtyBefore_55 hl (k := 1) rfl (nI_add i 1) (by decide) rfl (fun ls hl => ?_)
          refine lv_goto (tgt := 4) hx hb dX7_dirtyBefore_58 (by decide) ?_
          have q3 : nI ((cntN (fun j => G 2 j = 2 ∧ G 5 j < G 5 l1) i) + 0) = (nI (cntN (fun j => G 2 j = 2 ∧ G 5 j < G 5 l1) (i + 1)) : Int32) := (by first | (rw [cntN, if_pos ⟨c22_2, hx⟩]; done) | (rw [cntN, if_neg (fun z => hx z.2)] <;> rfl) | (rw [cntN, if_neg (fun z => z.1 c22_2)] <;> rfl) | (rw [cntN, if_neg (fun z => c22_2 z.1)] <;> rfl))
          have hl : lv_has ls 4 [(3, .int (nI (i + 1))), (2, .int (nI (cntN (fun j => G 2 j = 2 ∧ G 5 j < G 5 l1) (i + 1)))), (0, .ref (o 0)), (1, .int (nI l1))] := lv_eqL (lv_sub (l' := [(3, .int (nI (i + 1))), (2, .int (nI ((cntN (fun j => G 2 j = 2 ∧ G 5 j < G 5 l1) i) + 0))), (0, .ref (o 0)), (1, .int (nI l1))]) hl [0, 1, 2, 3] rfl) (cg2 List.cons rfl (cg2 List.cons (congrArg (fun z => ((2 : Nat), Value.int z)) q3) (cg2 List.cons rfl (cg2 List.cons rfl rfl))))
          exact ih (i + 1) (by omega) (by omega) _ _ w _ hl
        ·
          refine lv_aload_n hx hb dX7_dirtyBefore_25 rfl (lv_at hl 2 rfl) ?_
          refine x_get (v := .ref (o 1)) (T := TX7) C w 0 0 rfl rfl (fun _ h => List.mem_cons_of_mem _ (List.mem_append_right _ (h))) (List.mem_of_getElem? (i := 1) rfl) (by decide) rfl dX7_dirtyBefore_26 ?_
          refine lv_sipush (v := 152) hx hb dX7_dirtyBefore_29 (by decide +kernel) ?_
          refine lv_iload_n hx hb dX7_dirtyBefore_32 rfl (lv_at hl 0 rfl) ?_
          refine x_iaddN (i := 152) (j := i) hx hb dX7_dirtyBefore_33 ?_
          refine x_iald (v := G 5 i) C w 1 0 (152 + i) rfl ht0 rfl (by omega) (by decide) (fl_r5 _ (by omega)) dX7_dirtyBefore_34 ?_
          refine lv_aload_n hx hb dX7_dirtyBefore_35 rfl (lv_at hl 2 rfl) ?_
          refine x_get (v := .ref (o 1)) (T := TX7) C w 0 0 rfl rfl (fun _ h => List.mem_cons_of_mem _ (List.mem_append_right _ (h))) (List.mem_of_getElem? (i := 1) rfl) (by decide) rfl dX7_dirtyBefore_36 ?_
          refine lv_sipush (v := 152) hx hb dX7_dirtyBefore_39 (by decide +kernel) ?_
          refine lv_iload_n hx hb dX7_dirtyBefore_42 rfl (lv_at hl 3 rfl) ?_
          refine x_iaddN (i := 152) (j := l1) hx hb dX7_dirtyBefore_43 ?_
          refine x_iald (v := G 5 l1) C w 1 0 (152 + l1) rfl ht0 rfl (by omega) (by decide) (fl_r5 _ (by omega)) dX7_dirtyBefore_44 ?_
          refine x_icR_ge (x := G 5 i) (y := G 5 l1) (tgt := 52) hx hb dX7_dirtyBefore_45 (by decide) (fun c45_4 => ?_) (fun c45_4 => ?_)
          ·
            refine lv_iconst (v := 0) hx hb dX7_dirtyBefore_52 (by decide +kernel) ?_
            refine x_iaddN (i := cntN (fun j => G 2 j = 2 ∧ G 5 j < G 5 l1) i) (j := 0) hx hb dX7_dirtyBefore_53 ?_
            refine lv_istore_n (lv' := [(2, .int (nI ((cntN (fun j => G 2 j = 2 ∧ G 5 j < G 5 l1) i) + 0))), (3, .int (nI i)), (0, .ref (o 0)), (1, .int (nI l1))]) hx hb dX7_dirtyBefore_54 rfl hl (by decide) rfl (fun ls hl => ?_)
            refine lv_iinc (v := nI (i + 1)) (lv' := [(3, .int (nI (i + 1))), (2, .int (nI ((cntN (fun j => G 2 j = 2 ∧ G 5 j < G 5 l1) i) + 0))), (0, .ref (o 0)), (1, .int (nI l1))]) hx hb dX7_dirtyBefore_55 hl (k := 1) rfl (nI_add i 1) (by decide) rfl (fun ls hl => ?_)
            refine lv_goto (tgt := 4) hx hb dX7_dirtyBefore_58 (by decide) ?_
            have q5 : nI ((cntN (fun j => G 2 j = 2 ∧ G 5 j < G 5 l1) i) + 0) = (nI (cntN (fun j => G 2 j = 2 ∧ G 5 j < G 5 l1) (i + 1)) : Int32) := (by first | (rw [cntN, if_pos ⟨c22_2, c45_4⟩]; done) | (rw [cntN, if_neg (fun z => c45_4 z.2)] <;> rfl) | (rw [cntN, if_neg (fun z => z.1 c22_2)] <;> rfl) | (rw [cntN, if_neg (fun z => c22_2 z.1)] <;> rfl))
            have hl : lv_has ls 4 [(3, .int (nI (i + 1))), (2, .int (nI (cntN (fun j => G 2 j = 2 ∧ G 5 j < G 5 l1) (i + 1)))), (0, .ref (o 0)), (1, .int (nI l1))] := lv_eqL (lv_sub (l' := [(3, .int (nI (i + 1))), (2, .int (nI ((cntN (fun j => G 2 j = 2 ∧ G 5 j < G 5 l1) i) + 0))), (0, .ref (o 0)), (1, .int (nI l1))]) hl [0, 1, 2, 3] rfl) (cg2 List.cons rfl (cg2 List.cons (congrArg (fun z => ((2 : Nat), Value.int z)) q5) (cg2 List.cons rfl (cg2 List.cons rfl rfl))))
            exact ih (i + 1) (by omega) (by omega) _ _ w _ hl
          ·
            refine lv_iconst (v := 1) hx hb dX7_dirtyBefore_48 (by decide +kernel) ?_
            refine lv_goto (tgt := 53) hx hb dX7_dirtyBefore_49 (by decide) ?_
            refine x_iaddN (i := cntN (fun j => G 2 j = 2 ∧ G 5 j < G 5 l1) i) (j := 1) hx hb dX7_dirtyBefore_53 ?_
            refine lv_istore_n (lv' := [(2, .int (nI ((cntN (fun j => G 2 j = 2 ∧ G 5 j < G 5 l1) i) + 1))), (3, .int (nI i)), (0, .ref (o 0)), (1, .int (nI l1))]) hx hb dX7_dirtyBefore_54 rfl hl (by decide) rfl (fun ls hl => ?_)
            refine lv_iinc (v := nI (i + 1)) (lv' := [(3, .int (nI (i + 1))), (2, .int (nI ((cntN (fun j => G 2 j = 2 ∧ G 5 j < G 5 l1) i) + 1))), (0, .ref (o 0)), (1, .int (nI l1))]) hx hb dX7_dirtyBefore_55 hl (k := 1) rfl (nI_add i 1) (by decide) rfl (fun ls hl => ?_)
            refine lv_goto (tgt := 4) hx hb dX7_dirtyBefore_58 (by decide) ?_
            have q6 : nI ((cntN (fun j => G 2 j = 2 ∧ G 5 j < G 5 l1) i) + 1) = (nI (cntN (fun j => G 2 j = 2 ∧ G 5 j < G 5 l1) (i + 1)) : Int32) := (by first | (rw [cntN, if_pos ⟨c22_2, c45_4⟩]; done) | (rw [cntN, if_neg (fun z => c45_4 z.2)] <;> rfl) | (rw [cntN, if_neg (fun z => z.1 c22_2)] <;> rfl) | (rw [cntN, if_neg (fun z => c22_2 z.1)] <;> rfl))
            have hl : lv_has ls 4 [(3, .int (nI (i + 1))), (2, .int (nI (cntN (fun j => G 2 j = 2 ∧ G 5 j < G 5 l1) (i + 1)))), (0, .ref (o 0)), (1, .int (nI l1))] := lv_eqL (lv_sub (l' := [(3, .int (nI (i + 1))), (2, .int (nI ((cntN (fun j => G 2 j = 2 ∧ G 5 j < G 5 l1) i) + 1))), (0, .ref (o 0)), (1, .int (nI l1))]) hl [0, 1, 2, 3] rfl) (cg2 List.cons rfl (cg2 List.cons (congrArg (fun z => ((2 : Nat), Value.int z)) q6) (cg2 List.cons rfl (cg2 List.cons rfl rfl))))
            exact ih (i + 1) (by omega) (by omega) _ _ w _ hl
  have q7 : 0 = (nI 0 : Int32) := (by first | rfl | contradiction | (simp []; done))
  have q8 : 0 = (nI (cntN (fun j => G 2 j = 2 ∧ G 5 j < G 5 l1) 0) : Int32) := (by first | rfl | contradiction | (simp []; done))
  have hl : lv_has ls 4 [(3, .int (nI 0)), (2, .int (nI (cntN (fun j => G 2 j = 2 ∧ G 5 j < G 5 l1) 0))), (0, .ref (o 0)), (1, .int (nI l1))] := lv_eqL (lv_sub (l' := [(3, .int 0), (2, .int 0), (0, .ref (o 0)), (1, .int (nI l1))]) hl [0, 1, 2, 3] rfl) (cg2 List.cons (congrArg (fun z => ((3 : Nat), Value.int z)) q7) (cg2 List.cons (congrArg (fun z => ((2 : Nat), Value.int z)) q8) (cg2 List.cons rfl (cg2 List.cons rfl rfl))))
  exact loop_4 (9) 0 (by omega) (by omega) _ _ w _ hl
set_option maxHeartbeats 1000000 in
set_option maxRecDepth 100000 in
theorem k_X7_setOf (l : Launch) (D : va_G) (cI cS : ClassId) (tys : List (ClassId × FieldType)) (ht0 : tys[0]? = some (cI, .int)) (o : Nat → Nat) (G : St) (K : Nat → Int32) (h : Nat → Int32) (hn : Int32) (T : Nat → Int32) (tn : Int32) (f : Nat → Int32) (k : Int32)  : xI l yX7_setOf wsX7_setOf 0 D tys [.ref (o 0), .int k] (mR cI o (fl G) K h hn T tn f) (setI G k) (mR cI o (fl G) K h hn T tn f) := by
  refine x_inI (cc := cX7_setOf) (maxL := 4) (ret := (some .int)) (by decide) rfl (Nat.le_of_ble_eq_true rfl) ?_
  intro p e s m args below meth c A ls C w hl
  have C : xC p s m meth c args cX7_setOf 4 wsX7_setOf RX7 D tys (some .int) := C
  have hx := C.1.1
  have hb := C.1.2.1
  have hts := C.1.2.2.2.2
  have hown := C.1.2.2.2.1
  have w : xW D A s.heap (mR cI o (fl G) K h hn T tn f) s.heap [] := w
  have hl : lv_has ls 4 [(0, .ref (o 0)), (1, .int k)] := hl
  refine lv_iconst (v := 0) hx hb dX7_setOf_0 (by decide +kernel) ?_
  refine lv_istore_n (lv' := [(2, .int 0), (0, .ref (o 0)), (1, .int k)]) hx hb dX7_setOf_1 rfl hl (by decide) rfl (fun ls hl => ?_)
  refine lv_iconst (v := 0) hx hb dX7_setOf_2 (by decide +kernel) ?_
  refine lv_istore_n (lv' := [(3, .int 0), (2, .int 0), (0, .ref (o 0)), (1, .int k)]) hx hb dX7_setOf_3 rfl hl (by decide) rfl (fun ls hl => ?_)
  have loop_4 : ∀ (n : Nat) (i : Nat), 8 - i < n → (i ≤ 8) → ∀ (H : Heap) (locs : List Loc), xW D A s.heap (mR cI o (fl G) K h hn T tn f) H locs → ∀ ls : Array Slot, lv_has ls 4 [(3, .int (nI i)), (2, .int (setP (fun j => G 2 j = k) i)), (0, .ref (o 0)), (1, .int k)] → W p l e (rmd 0) s m args below meth c H locs 0 0 (MQ below (xQi D tys (setI G k) (mR cI o (fl G) K h hn T tn f) A) args s 0 0 A) (F0 m 4 ls []) := by
    intro n
    induction n with
    | zero => intro i hm; exact absurd hm (Nat.not_lt_zero _)
    | succ n ih =>
      intro i hm hi H locs w ls hl
      refine lv_iload_n hx hb dX7_setOf_4 rfl (lv_at hl 0 rfl) ?_
      refine lv_bipush (v := 8) hx hb dX7_setOf_5 (by decide +kernel) ?_
      refine x_icN_ge (i := i) (j := 8) (tgt := 40) hx hb (by omega) (by omega) dX7_setOf_7 (by decide) (fun c7_1 => ?_) (fun c7_1 => ?_)
      ·
        have hE : i = 8 := (by omega)
        refine lv_iload_n hx hb dX7_setOf_40 rfl (lv_at hl 1 rfl) ?_
        exact x_iret C w (by rw [hE]; rfl) rfl dX7_setOf_41
      ·
        refine lv_iload_n hx hb dX7_setOf_10 rfl (lv_at hl 1 rfl) ?_
        refine lv_aload_n hx hb dX7_setOf_11 rfl (lv_at hl 2 rfl) ?_
        refine x_get (v := .ref (o 1)) (T := TX7) C w 0 0 rfl rfl (fun _ h => List.mem_cons_of_mem _ (List.mem_append_right _ (h))) (List.mem_of_getElem? (i := 1) rfl) (by decide) rfl dX7_setOf_12 ?_
        refine lv_sipush (v := 128) hx hb dX7_setOf_15 (by decide +kernel) ?_
        refine lv_iload_n hx hb dX7_setOf_18 rfl (lv_at hl 0 rfl) ?_
        refine x_iaddN (i := 128) (j := i) hx hb dX7_setOf_19 ?_
        refine x_iald (v := G 2 i) C w 1 0 (128 + i) rfl ht0 rfl (by omega) (by decide) (fl_r2 _ (by omega)) dX7_setOf_20 ?_
        refine lv_iload_n hx hb dX7_setOf_21 rfl (lv_at hl 3 rfl) ?_
        refine x_icR_ne (x := G 2 i) (y := k) (tgt := 31) hx hb dX7_setOf_22 (by decide) (fun c22_2 => ?_) (fun c22_2 => ?_)
        ·
          refine lv_iconst (v := 0) hx hb dX7_setOf_31 (by decide +kernel) ?_
          refine lv_ior (x := setP (fun j => G 2 j = k) i) (y := 0) hx hb dX7_setOf_32 ?_
          refine lv_istore_n (lv' := [(2, .int ((setP (fun j => G 2 j = k) i) ||| 0)), (3, .int (nI i)), (0, .ref (o 0)), (1, .int k)]) hx hb dX7_setOf_33 rfl hl (by decide) rfl (fun ls hl => ?_)
          refine lv_iinc (v := nI (i + 1)) (lv' := [(3, .int (nI (i + 1))), (2, .int ((setP (fun j => G 2 j = k) i) ||| 0)), (0, .ref (o 0)), (1, .int k)]) hx hb dX7_setOf_34 hl (k := 1) rfl (nI_add i 1) (by decide) rfl (fun ls hl => ?_)
          refine lv_goto (tgt := 4) hx hb dX7_setOf_37 (by decide) ?_
          have q3 : ((setP (fun j => G 2 j = k) i) ||| 0) = (setP (fun j => G 2 j = k) (i + 1) : Int32) := (by first | (rw [setP, if_pos c22_2]; done) | (rw [setP, if_neg c22_2, or0]; done))
          have hl : lv_has ls 4 [(3, .int (nI (i + 1))), (2, .int (setP (fun j => G 2 j = k) (i + 1))), (0, .ref (o 0)), (1, .int k)] := lv_eqL (lv_sub (l' := [(3, .int (nI (i + 1))), (2, .int ((setP (fun j => G 2 j = k) i) ||| 0)), (0, .ref (o 0)), (1, .int k)]) hl [0, 1, 2, 3] rfl) (cg2 List.cons rfl (cg2 List.cons (congrArg (fun z => ((2 : Nat), Value.int z)) q3) (cg2 List.cons rfl (cg2 List.cons rfl rfl))))
          exact ih (i + 1) (by omega) (by omega) _ _ w _ hl
        ·
          refine lv_iconst (v := 1) hx hb dX7_setOf_25 (by decide +kernel) ?_
          refine lv_iload_n hx hb dX7_setOf_26 rfl (lv_at hl 0 rfl) ?_
          refine lv_ishl (x := 1) (y := nI i) hx hb dX7_setOf_27 ?_
          refine lv_goto (tgt := 32) hx hb dX7_setOf_28 (by decide) ?_
          refine lv_ior (x := setP (fun j => G 2 j = k) i) (y := (1 <<< ((nI i) &&& 31))) hx hb dX7_setOf_32 ?_
          refine lv_istore_n (lv' := [(2, .int ((setP (fun j => G 2 j = k) i) ||| (1 <<< ((nI i) &&& 31)))), (3, .int (nI i)), (0, .ref (o 0)), (1, .int k)]) hx hb dX7_setOf_33 rfl hl (by decide) rfl (fun ls hl => ?_)
          refine lv_iinc (v := nI (i + 1)) (lv' := [(3, .int (nI (i + 1))), (2, .int ((setP (fun j => G 2 j = k) i) ||| (1 <<< ((nI i) &&& 31)))), (0, .ref (o 0)), (1, .int k)]) hx hb dX7_setOf_34 hl (k := 1) rfl (nI_add i 1) (by decide) rfl (fun ls hl => ?_)
          refine lv_goto (tgt := 4) hx hb dX7_setOf_37 (by decide) ?_
          have q4 : ((setP (fun j => G 2 j = k) i) ||| (1 <<< ((nI i) &&& 31))) = (setP (fun j => G 2 j = k) (i + 1) : Int32) := (by first | (rw [setP, if_pos c22_2]; done) | (rw [setP, if_neg c22_2, or0]; done))
          have hl : lv_has ls 4 [(3, .int (nI (i + 1))), (2, .int (setP (fun j => G 2 j = k) (i + 1))), (0, .ref (o 0)), (1, .int k)] := lv_eqL (lv_sub (l' := [(3, .int (nI (i + 1))), (2, .int ((setP (fun j => G 2 j = k) i) ||| (1 <<< ((nI i) &&& 31)))), (0, .ref (o 0)), (1, .int k)]) hl [0, 1, 2, 3] rfl) (cg2 List.cons rfl (cg2 List.cons (congrArg (fun z => ((2 : Nat), Value.int z)) q4) (cg2 List.cons rfl (cg2 List.cons rfl rfl))))
          exact ih (i + 1) (by omega) (by omega) _ _ w _ hl
  have q5 : 0 = (nI 0 : Int32) := (by first | rfl | contradiction | (simp []; done))
  have q6 : 0 = (setP (fun j => G 2 j = k) 0 : Int32) := (by first | rfl | contradiction | (simp []; done))
  have hl : lv_has ls 4 [(3, .int (nI 0)), (2, .int (setP (fun j => G 2 j = k) 0)), (0, .ref (o 0)), (1, .int k)] := lv_eqL (lv_sub (l' := [(3, .int 0), (2, .int 0), (0, .ref (o 0)), (1, .int k)]) hl [0, 1, 2, 3] rfl) (cg2 List.cons (congrArg (fun z => ((3 : Nat), Value.int z)) q5) (cg2 List.cons (congrArg (fun z => ((2 : Nat), Value.int z)) q6) (cg2 List.cons rfl (cg2 List.cons rfl rfl))))
  exact loop_4 (9) 0 (by omega) (by omega) _ _ w _ hl
set_option maxHeartbeats 1000000 in
set_option maxRecDepth 100000 in
theorem k_X7_apart (l : Launch) (D : va_G) (cI cS : ClassId) (tys : List (ClassId × FieldType)) (ht0 : tys[0]? = some (cI, .int)) (o : Nat → Nat) (G : St) (K : Nat → Int32) (h : Nat → Int32) (hn : Int32) (T : Nat → Int32) (tn : Int32) (f : Nat → Int32) (i1 : Nat) (l1 : Nat) (hi1 : i1 < 8) (hl1 : l1 < 8) : xI l yX7_apart wsX7_apart 0 D tys [.ref (o 0), .int (nI i1), .int (nI l1)] (mR cI o (fl G) K h hn T tn f) (abI (G 3 i1 - G 3 l1)) (mR cI o (fl G) K h hn T tn f) := by
  refine x_inI (cc := cX7_apart) (maxL := 4) (ret := (some .int)) (by decide) rfl (Nat.le_of_ble_eq_true rfl) ?_
  intro p e s m args below meth c A ls C w hl
  have C : xC p s m meth c args cX7_apart 4 wsX7_apart RX7 D tys (some .int) := C
  have hx := C.1.1
  have hb := C.1.2.1
  have hts := C.1.2.2.2.2
  have hown := C.1.2.2.2.1
  have w : xW D A s.heap (mR cI o (fl G) K h hn T tn f) s.heap [] := w
  have hl : lv_has ls 4 [(0, .ref (o 0)), (1, .int (nI i1)), (2, .int (nI l1))] := hl
  refine lv_aload_n hx hb dX7_apart_0 rfl (lv_at hl 0 rfl) ?_
  refine x_get (v := .ref (o 1)) (T := TX7) C w 0 0 rfl rfl (fun _ h => List.mem_cons_of_mem _ (List.mem_append_right _ (h))) (List.mem_of_getElem? (i := 1) rfl) (by decide) rfl dX7_apart_1 ?_
  refine lv_sipush (v := 136) hx hb dX7_apart_4 (by decide +kernel) ?_
  refine lv_iload_n hx hb dX7_apart_7 rfl (lv_at hl 1 rfl) ?_
  refine x_iaddN (i := 136) (j := i1) hx hb dX7_apart_8 ?_
  refine x_iald (v := G 3 i1) C w 1 0 (136 + i1) rfl ht0 rfl (by omega) (by decide) (fl_r3 _ (by omega)) dX7_apart_9 ?_
  refine lv_aload_n hx hb dX7_apart_10 rfl (lv_at hl 0 rfl) ?_
  refine x_get (v := .ref (o 1)) (T := TX7) C w 0 0 rfl rfl (fun _ h => List.mem_cons_of_mem _ (List.mem_append_right _ (h))) (List.mem_of_getElem? (i := 1) rfl) (by decide) rfl dX7_apart_11 ?_
  refine lv_sipush (v := 136) hx hb dX7_apart_14 (by decide +kernel) ?_
  refine lv_iload_n hx hb dX7_apart_17 rfl (lv_at hl 2 rfl) ?_
  refine x_iaddN (i := 136) (j := l1) hx hb dX7_apart_18 ?_
  refine x_iald (v := G 3 l1) C w 1 0 (136 + l1) rfl ht0 rfl (by omega) (by decide) (fl_r3 _ (by omega)) dX7_apart_19 ?_
  refine lv_isub (x := G 3 i1) (y := G 3 l1) hx hb dX7_apart_20 ?_
  refine lv_istore_n (lv' := [(3, .int ((G 3 i1) - (G 3 l1))), (0, .ref (o 0)), (1, .int (nI i1)), (2, .int (nI l1))]) hx hb dX7_apart_21 rfl hl (by decide) rfl (fun ls hl => ?_)
  refine lv_iload_n hx hb dX7_apart_22 rfl (lv_at hl 0 rfl) ?_
  refine x_ifR_ge (x := ((G 3 i1) - (G 3 l1))) (tgt := 31) hx hb dX7_apart_23 (by decide) (fun c23_1 => ?_) (fun c23_1 => ?_)
  ·
    refine lv_iload_n hx hb dX7_apart_31 rfl (lv_at hl 0 rfl) ?_
    exact x_iret C w (ab_ge c23_1).symm rfl dX7_apart_32
  ·
    refine lv_iload_n hx hb dX7_apart_26 rfl (lv_at hl 0 rfl) ?_
    refine lv_ineg hx hb dX7_apart_27 ?_
    refine lv_goto (tgt := 32) hx hb dX7_apart_28 (by decide) ?_
    exact x_iret C w (ab_lt c23_1).symm rfl dX7_apart_32
set_option maxHeartbeats 1000000 in
set_option maxRecDepth 100000 in
theorem k_X7_clearText (l : Launch) (D : va_G) (cI cS : ClassId) (tys : List (ClassId × FieldType)) (ht0 : tys[0]? = some (cI, .int)) (o : Nat → Nat) (G : St) (K : Nat → Int32) (h : Nat → Int32) (hn : Int32) (T : Nat → Int32) (tn : Int32) (f : Nat → Int32)  : xI l yX7_clearText wsX7_clearText 0 D tys [.ref (o 0)] (mR cI o (fl G) K h hn T tn f) tn (mR cI o (fl G) K h hn T 0 f) := by
  refine x_inI (cc := cX7_clearText) (maxL := 2) (ret := (some .int)) (by decide) rfl (Nat.le_of_ble_eq_true rfl) ?_
  intro p e s m args below meth c A ls C w hl
  have C : xC p s m meth c args cX7_clearText 2 wsX7_clearText RX7 D tys (some .int) := C
  have hx := C.1.1
  have hb := C.1.2.1
  have hts := C.1.2.2.2.2
  have hown := C.1.2.2.2.1
  have w : xW D A s.heap (mR cI o (fl G) K h hn T tn f) s.heap [] := w
  have hl : lv_has ls 2 [(0, .ref (o 0))] := hl
  refine lv_aload_n hx hb dX7_clearText_0 rfl (lv_at hl 0 rfl) ?_
  refine x_get (v := .int tn) (T := TX7) C w 0 5 rfl rfl (fun _ h => List.mem_cons_of_mem _ (List.mem_append_right _ (h))) (List.mem_of_getElem? (i := 1) rfl) (by decide) rfl dX7_clearText_1 ?_
  refine lv_istore_n (lv' := [(1, .int tn), (0, .ref (o 0))]) hx hb dX7_clearText_4 rfl hl (by decide) rfl (fun ls hl => ?_)
  refine lv_aload_n hx hb dX7_clearText_5 rfl (lv_at hl 1 rfl) ?_
  refine lv_iconst (v := 0) hx hb dX7_clearText_6 (by decide +kernel) ?_
  refine x_put (v := .int 0) (ty := .int) (T := TX7) (ws2 := mR cI o (fl G) K h hn T 0 f) C w 0 5 rfl rfl (fun _ h => List.mem_cons_of_mem _ (List.mem_append_right _ (h))) tyX7 tyX7_ok nmX7 (List.mem_of_getElem? (i := 1) rfl) (by decide) (Nat.le_of_ble_eq_true rfl) rfl (by decide +kernel) rfl rfl (mRs5 _ _ _ _ _ _ _ _ _ _) dX7_clearText_7 (fun H locs w => ?_)
  refine lv_iload_n hx hb dX7_clearText_10 rfl (lv_at hl 0 rfl) ?_
  exact x_iret C w rfl rfl dX7_clearText_11
set_option maxHeartbeats 1000000 in
set_option maxRecDepth 100000 in
theorem k_X7_saved (l : Launch) (D : va_G) (cI cS : ClassId) (tys : List (ClassId × FieldType)) (ht0 : tys[0]? = some (cI, .int)) (o : Nat → Nat) (G : St) (K : Nat → Int32) (h : Nat → Int32) (hn : Int32) (T : Nat → Int32) (tn : Int32) (f : Nat → Int32) (hI : Inv G) : xI l yX7_saved wsX7_saved 1 D tys [.ref (o 0)] (mR cI o (fl G) K h hn T tn f) (sbcI G) (mR cI o (fl G) K h hn T tn f) := by
  refine x_inI (cc := cX7_saved) (maxL := 2) (ret := (some .int)) (by decide) rfl (Nat.le_of_ble_eq_true rfl) ?_
  intro p e s m args below meth c A ls C w hl
  have C : xC p s m meth c args cX7_saved 2 wsX7_saved RX7 D tys (some .int) := C
  have hx := C.1.1
  have hb := C.1.2.1
  have hts := C.1.2.2.2.2
  have hown := C.1.2.2.2.1
  have w : xW D A s.heap (mR cI o (fl G) K h hn T tn f) s.heap [] := w
  have hl : lv_has ls 2 [(0, .ref (o 0))] := hl
  obtain ⟨c9, hc9, e0⟩ := hI.2.1
  obtain ⟨a9, ha91, ha9, e1⟩ := hI.2.2.2.2.1
  obtain ⟨k9, hk9, e2⟩ := hI.2.2.2.2.2.1
  have hmle := mN_le G 2
  have hdv := Nat.div_le_self (c9 - k9) a9
  refine lv_aload_n hx hb dX7_saved_0 rfl (lv_at hl 0 rfl) ?_
  refine x_get (v := .ref (o 1)) (T := TX7) C w 0 0 rfl rfl (fun _ h => List.mem_cons_of_mem _ (List.mem_append_right _ (h))) (List.mem_of_getElem? (i := 1) rfl) (by decide) rfl dX7_saved_1 ?_
  refine lv_sipush (v := 160) hx hb dX7_saved_4 (by decide +kernel) ?_
  refine x_iald (v := G 6 0) C w 1 0 (160) rfl ht0 rfl (by omega) (by decide) rfl dX7_saved_7 ?_
  refine x_top (y := nI c9) e0 ?_
  refine lv_aload_n hx hb dX7_saved_8 rfl (lv_at hl 0 rfl) ?_
  refine lv_iconst (v := 1) hx hb dX7_saved_9 (by decide +kernel) ?_
  refine x_callVi (wr := []) (w2 := mR cI o (fl G) K h hn T tn f) (rest := [.int (nI c9)]) (n := 1) C w hl [.int 1] (k_X7_setting l D cI cS tys ht0 o G K h hn T tn f 1 (by decide)) gX7_saved_X7_setting rfl (by decide +kernel) ⟨Nat.le_of_ble_eq_true rfl, Nat.le_of_ble_eq_true rfl⟩ 0 7 rfl rfl rfl rfl (Nat.le_of_ble_eq_true rfl) [0, 1, 2, 3, 4] [] (by decide) rfl rfl (by decide) (by decide) [0, 1, 2, 3, 4] (by decide) rfl ⟨Nat.zero_le _, Nat.zero_le _⟩ dX7_saved_10 (fun H locs w => ?_)
  refine x_top (y := nI k9) e2 ?_
  refine x_icN_ge (i := c9) (j := k9) (tgt := 18) hx hb (by omega) (by omega) dX7_saved_13 (by decide) (fun c13_1 => ?_) (fun c13_1 => ?_)
  ·
    refine lv_aload_n hx hb dX7_saved_18 rfl (lv_at hl 0 rfl) ?_
    refine x_get (v := .ref (o 1)) (T := TX7) C w 0 0 rfl rfl (fun _ h => List.mem_cons_of_mem _ (List.mem_append_right _ (h))) (List.mem_of_getElem? (i := 1) rfl) (by decide) rfl dX7_saved_19 ?_
    refine lv_sipush (v := 160) hx hb dX7_saved_22 (by decide +kernel) ?_
    refine x_iald (v := G 6 0) C w 1 0 (160) rfl ht0 rfl (by omega) (by decide) rfl dX7_saved_25 ?_
    refine x_top (y := nI c9) e0 ?_
    refine lv_aload_n hx hb dX7_saved_26 rfl (lv_at hl 0 rfl) ?_
    refine lv_iconst (v := 1) hx hb dX7_saved_27 (by decide +kernel) ?_
    refine x_callVi (wr := []) (w2 := mR cI o (fl G) K h hn T tn f) (rest := [.int (nI c9)]) (n := 1) C w hl [.int 1] (k_X7_setting l D cI cS tys ht0 o G K h hn T tn f 1 (by decide)) gX7_saved_X7_setting rfl (by decide +kernel) ⟨Nat.le_of_ble_eq_true rfl, Nat.le_of_ble_eq_true rfl⟩ 0 7 rfl rfl rfl rfl (Nat.le_of_ble_eq_true rfl) [0, 1, 2, 3, 4] [] (by decide) rfl rfl (by decide) (by decide) [0, 1, 2, 3, 4] (by decide) rfl ⟨Nat.zero_le _, Nat.zero_le _⟩ dX7_saved_28 (fun H locs w => ?_)
    refine x_top (y := nI k9) e2 ?_
    refine x_isubN (i := c9) (j := k9) hx hb (by omega) dX7_saved_31 ?_
    refine lv_aload_n hx hb dX7_saved_32 rfl (lv_at hl 0 rfl) ?_
    refine lv_iconst (v := 0) hx hb dX7_saved_33 (by decide +kernel) ?_
    refine x_callVi (wr := []) (w2 := mR cI o (fl G) K h hn T tn f) (rest := [.int (nI (c9 - k9))]) (n := 1) C w hl [.int 0] (k_X7_setting l D cI cS tys ht0 o G K h hn T tn f 0 (by decide)) gX7_saved_X7_setting rfl (by decide +kernel) ⟨Nat.le_of_ble_eq_true rfl, Nat.le_of_ble_eq_true rfl⟩ 0 7 rfl rfl rfl rfl (Nat.le_of_ble_eq_true rfl) [0, 1, 2, 3, 4] [] (by decide) rfl rfl (by decide) (by decide) [0, 1, 2, 3, 4] (by decide) rfl ⟨Nat.zero_le _, Nat.zero_le _⟩ dX7_saved_34 (fun H locs w => ?_)
    refine x_top (y := nI a9) e1 ?_
    refine lv_idiv (x := nI (c9 - k9)) (y := nI a9) hx hb dX7_saved_37 (nI_ne0 (by omega) (by omega)) ?_
    refine x_top (y := nI ((c9 - k9) / a9)) (pk_div (by omega) (by omega) (by omega)) ?_
    refine lv_istore_n (lv' := [(1, .int (nI ((c9 - k9) / a9))), (0, .ref (o 0))]) hx hb dX7_saved_38 rfl hl (by decide) rfl (fun ls hl => ?_)
    refine lv_iload_n hx hb dX7_saved_39 rfl (lv_at hl 0 rfl) ?_
    refine lv_aload_n hx hb dX7_saved_40 rfl (lv_at hl 1 rfl) ?_
    refine lv_iconst (v := 2) hx hb dX7_saved_41 (by decide +kernel) ?_
    refine x_callVi (wr := []) (w2 := mR cI o (fl G) K h hn T tn f) (rest := [.int (nI ((c9 - k9) / a9))]) (n := 1) C w hl [.int 2] (k_X7_many l D cI cS tys ht0 o G K h hn T tn f 2 ) gX7_saved_X7_many rfl (by decide +kernel) ⟨Nat.le_of_ble_eq_true rfl, Nat.le_of_ble_eq_true rfl⟩ 0 7 rfl rfl rfl rfl (Nat.le_of_ble_eq_true rfl) [0, 1, 2, 3, 4] [] (by decide) rfl rfl (by decide) (by decide) [0, 1, 2, 3, 4] (by decide) rfl ⟨Nat.zero_le _, Nat.zero_le _⟩ dX7_saved_42 (fun H locs w => ?_)
    refine x_icN_ge (i := (c9 - k9) / a9) (j := mN G 2) (tgt := 52) hx hb (by omega) (by omega) dX7_saved_45 (by decide) (fun c45_2 => ?_) (fun c45_2 => ?_)
    ·
      refine lv_aload_n hx hb dX7_saved_52 rfl (lv_at hl 1 rfl) ?_
      refine lv_iconst (v := 2) hx hb dX7_saved_53 (by decide +kernel) ?_
      refine x_callVi (wr := []) (w2 := mR cI o (fl G) K h hn T tn f) (rest := []) (n := 1) C w hl [.int 2] (k_X7_many l D cI cS tys ht0 o G K h hn T tn f 2 ) gX7_saved_X7_many rfl (by decide +kernel) ⟨Nat.le_of_ble_eq_true rfl, Nat.le_of_ble_eq_true rfl⟩ 0 7 rfl rfl rfl rfl (Nat.le_of_ble_eq_true rfl) [0, 1, 2, 3, 4] [] (by decide) rfl rfl (by decide) (by decide) [0, 1, 2, 3, 4] (by decide) rfl ⟨Nat.zero_le _, Nat.zero_le _⟩ dX7_saved_54 (fun H locs w => ?_)
      exact x_iret C w (by rw [sbc_nI hc9 ha91 ha9 hk9 e0 e1 e2, show sN c9 k9 a9 = min ((c9 - k9) / a9) 8 from if_neg c13_1]; exact congrArg nI (by omega)) rfl dX7_saved_57
    ·
      refine lv_iload_n hx hb dX7_saved_48 rfl (lv_at hl 0 rfl) ?_
      refine lv_goto (tgt := 57) hx hb dX7_saved_49 (by decide) ?_
      exact x_iret C w (by rw [sbc_nI hc9 ha91 ha9 hk9 e0 e1 e2, show sN c9 k9 a9 = min ((c9 - k9) / a9) 8 from if_neg c13_1]; exact congrArg nI (by omega)) rfl dX7_saved_57
  ·
    refine lv_iconst (v := 0) hx hb dX7_saved_16 (by decide +kernel) ?_
    exact x_iret C w (by rw [sbc_nI hc9 ha91 ha9 hk9 e0 e1 e2, show sN c9 k9 a9 = 0 from if_pos c13_1, Nat.min_zero]; rfl) rfl dX7_saved_17
set_option maxHeartbeats 1000000 in
set_option maxRecDepth 100000 in
theorem k_X7_nearest (l : Launch) (D : va_G) (cI cS : ClassId) (tys : List (ClassId × FieldType)) (ht0 : tys[0]? = some (cI, .int)) (o : Nat → Nat) (G : St) (K : Nat → Int32) (h : Nat → Int32) (hn : Int32) (T : Nat → Int32) (tn : Int32) (f : Nat → Int32) (l1 : Nat) (hl1 : l1 < 8) : xI l yX7_nearest wsX7_nearest 1 D tys [.ref (o 0), .int (nI l1)] (mR cI o (fl G) K h hn T tn f) (dtdF G (nI l1) 8) (mR cI o (fl G) K h hn T tn f) := by
  refine x_inI (cc := cX7_nearest) (maxL := 4) (ret := (some .int)) (by decide) rfl (Nat.le_of_ble_eq_true rfl) ?_
  intro p e s m args below meth c A ls C w hl
  have C : xC p s m meth c args cX7_nearest 4 wsX7_nearest RX7 D tys (some .int) := C
  have hx := C.1.1
  have hb := C.1.2.1
  have hts := C.1.2.2.2.2
  have hown := C.1.2.2.2.1
  have w : xW D A s.heap (mR cI o (fl G) K h hn T tn f) s.heap [] := w
  have hl : lv_has ls 4 [(0, .ref (o 0)), (1, .int (nI l1))] := hl
  refine lv_bipush (v := 64) hx hb dX7_nearest_0 (by decide +kernel) ?_
  refine lv_istore_n (lv' := [(2, .int 64), (0, .ref (o 0)), (1, .int (nI l1))]) hx hb dX7_nearest_2 rfl hl (by decide) rfl (fun ls hl => ?_)
  refine lv_iconst (v := 0) hx hb dX7_nearest_3 (by decide +kernel) ?_
  refine lv_istore_n (lv' := [(3, .int 0), (2, .int 64), (0, .ref (o 0)), (1, .int (nI l1))]) hx hb dX7_nearest_4 rfl hl (by decide) rfl (fun ls hl => ?_)
  have loop_5 : ∀ (n : Nat) (i : Nat), 8 - i < n → (i ≤ 8) → ∀ (H : Heap) (locs : List Loc), xW D A s.heap (mR cI o (fl G) K h hn T tn f) H locs → ∀ ls : Array Slot, lv_has ls 4 [(3, .int (nI i)), (2, .int (dtdF G (nI l1) i)), (0, .ref (o 0)), (1, .int (nI l1))] → W p l e (rmd 1) s m args below meth c H locs 0 0 (MQ below (xQi D tys (dtdF G (nI l1) 8) (mR cI o (fl G) K h hn T tn f) A) args s 0 0 A) (F0 m 5 ls []) := by
    intro n
    induction n with
    | zero => intro i hm; exact absurd hm (Nat.not_lt_zero _)
    | succ n ih =>
      intro i hm hi H locs w ls hl
      refine lv_iload_n hx hb dX7_nearest_5 rfl (lv_at hl 0 rfl) ?_
      refine lv_bipush (v := 8) hx hb dX7_nearest_6 (by decide +kernel) ?_
      refine x_icN_ge (i := i) (j := 8) (tgt := 57) hx hb (by omega) (by omega) dX7_nearest_8 (by decide) (fun c8_1 => ?_) (fun c8_1 => ?_)
      ·
        have hE : i = 8 := (by omega)
        refine lv_iload_n hx hb dX7_nearest_57 rfl (lv_at hl 1 rfl) ?_
        exact x_iret C w (by rw [hE]) rfl dX7_nearest_58
      ·
        refine lv_iload_n hx hb dX7_nearest_11 rfl (lv_at hl 0 rfl) ?_
        refine lv_iload_n hx hb dX7_nearest_12 rfl (lv_at hl 3 rfl) ?_
        refine x_icN_eq (i := i) (j := l1) (tgt := 49) hx hb (by omega) (by omega) dX7_nearest_13 (by decide) (fun c13_2 => ?_) (fun c13_2 => ?_)
        ·
          refine lv_iload_n hx hb dX7_nearest_49 rfl (lv_at hl 1 rfl) ?_
          refine lv_istore_n (lv' := [(2, .int (dtdF G (nI l1) i)), (3, .int (nI i)), (0, .ref (o 0)), (1, .int (nI l1))]) hx hb dX7_nearest_50 rfl hl (by decide) rfl (fun ls hl => ?_)
          refine lv_iinc (v := nI (i + 1)) (lv' := [(3, .int (nI (i + 1))), (2, .int (dtdF G (nI l1) i)), (0, .ref (o 0)), (1, .int (nI l1))]) hx hb dX7_nearest_51 hl (k := 1) rfl (nI_add i 1) (by decide) rfl (fun ls hl => ?_)
          refine lv_goto (tgt := 5) hx hb dX7_nearest_54 (by decide) ?_
          have q3 : (dtdF G (nI l1) i) = ((dtdF G (nI l1) (i + 1)) : Int32) := (by first | (rw [dtdF, if_pos ⟨fun z => c13_2 ((nI_eq (by omega) (by omega)).mp z), hx⟩, ix_nI (n := l1) (by omega), miI, if_pos hx]; done) | (rw [dtdF, if_pos ⟨fun z => c13_2 ((nI_eq (by omega) (by omega)).mp z), hx⟩, ix_nI (n := l1) (by omega), miI, if_neg hx]; done) | (rw [dtdF, if_neg (fun z => hx z.2)]; done) | (rw [dtdF, if_neg (fun z => z.1 (congrArg nI c13_2))]; done))
          have hl : lv_has ls 4 [(3, .int (nI (i + 1))), (2, .int (dtdF G (nI l1) (i + 1))), (0, .ref (o 0)), (1, .int (nI l1))] := lv_eqL (lv_sub (l' := [(3, .int (nI (i + 1))), (2, .int (dtdF G (nI l1) i)), (0, .ref (o 0)), (1, .int (nI l1))]) hl [0, 1, 2, 3] rfl) (cg2 List.cons rfl (cg2 List.cons (congrArg (fun z => ((2 : Nat), Value.int z)) q3) (cg2 List.cons rfl (cg2 List.cons rfl rfl))))
          exact ih (i + 1) (by omega) (by omega) _ _ w _ hl
        ·
          refine lv_aload_n hx hb dX7_nearest_16 rfl (lv_at hl 2 rfl) ?_
          refine x_get (v := .ref (o 1)) (T := TX7) C w 0 0 rfl rfl (fun _ h => List.mem_cons_of_mem _ (List.mem_append_right _ (h))) (List.mem_of_getElem? (i := 1) rfl) (by decide) rfl dX7_nearest_17 ?_
          refine lv_sipush (v := 128) hx hb dX7_nearest_20 (by decide +kernel) ?_
          refine lv_iload_n hx hb dX7_nearest_23 rfl (lv_at hl 0 rfl) ?_
          refine x_iaddN (i := 128) (j := i) hx hb dX7_nearest_24 ?_
          refine x_iald (v := G 2 i) C w 1 0 (128 + i) rfl ht0 rfl (by omega) (by decide) (fl_r2 _ (by omega)) dX7_nearest_25 ?_
          refine lv_iconst (v := 2) hx hb dX7_nearest_26 (by decide +kernel) ?_
          refine x_icR_ne (x := G 2 i) (y := 2) (tgt := 49) hx hb dX7_nearest_27 (by decide) (fun c27_4 => ?_) (fun c27_4 => ?_)
          ·
            refine lv_iload_n hx hb dX7_nearest_49 rfl (lv_at hl 1 rfl) ?_
            refine lv_istore_n (lv' := [(2, .int (dtdF G (nI l1) i)), (3, .int (nI i)), (0, .ref (o 0)), (1, .int (nI l1))]) hx hb dX7_nearest_50 rfl hl (by decide) rfl (fun ls hl => ?_)
            refine lv_iinc (v := nI (i + 1)) (lv' := [(3, .int (nI (i + 1))), (2, .int (dtdF G (nI l1) i)), (0, .ref (o 0)), (1, .int (nI l1))]) hx hb dX7_nearest_51 hl (k := 1) rfl (nI_add i 1) (by decide) rfl (fun ls hl => ?_)
            refine lv_goto (tgt := 5) hx hb dX7_nearest_54 (by decide) ?_
            have q5 : (dtdF G (nI l1) i) = ((dtdF G (nI l1) (i + 1)) : Int32) := (by first | (rw [dtdF, if_pos ⟨fun z => c13_2 ((nI_eq (by omega) (by omega)).mp z), c27_4⟩, ix_nI (n := l1) (by omega), miI, if_pos hx]; done) | (rw [dtdF, if_pos ⟨fun z => c13_2 ((nI_eq (by omega) (by omega)).mp z), c27_4⟩, ix_nI (n := l1) (by omega), miI, if_neg hx]; done) | (rw [dtdF, if_neg (fun z => c27_4 z.2)]; done) | (rw [dtdF, if_neg (fun z => z.1 (congrArg nI c13_2))]; done))
            have hl : lv_has ls 4 [(3, .int (nI (i + 1))), (2, .int (dtdF G (nI l1) (i + 1))), (0, .ref (o 0)), (1, .int (nI l1))] := lv_eqL (lv_sub (l' := [(3, .int (nI (i + 1))), (2, .int (dtdF G (nI l1) i)), (0, .ref (o 0)), (1, .int (nI l1))]) hl [0, 1, 2, 3] rfl) (cg2 List.cons rfl (cg2 List.cons (congrArg (fun z => ((2 : Nat), Value.int z)) q5) (cg2 List.cons rfl (cg2 List.cons rfl rfl))))
            exact ih (i + 1) (by omega) (by omega) _ _ w _ hl
          ·
            refine lv_aload_n hx hb dX7_nearest_30 rfl (lv_at hl 2 rfl) ?_
            refine lv_iload_n hx hb dX7_nearest_31 rfl (lv_at hl 0 rfl) ?_
            refine lv_iload_n hx hb dX7_nearest_32 rfl (lv_at hl 3 rfl) ?_
            refine x_callVi (wr := []) (w2 := mR cI o (fl G) K h hn T tn f) (rest := []) (n := 2) C w hl [.int (nI i), .int (nI l1)] (k_X7_apart l D cI cS tys ht0 o G K h hn T tn f i l1 (by omega) hl1) gX7_nearest_X7_apart rfl (by decide +kernel) ⟨Nat.le_of_ble_eq_true rfl, Nat.le_of_ble_eq_true rfl⟩ 0 7 rfl rfl rfl rfl (Nat.le_of_ble_eq_true rfl) [0, 1, 2, 3, 4] [] (by decide) rfl rfl (by decide) (by decide) [0, 1, 2, 3, 4] (by decide) rfl ⟨Nat.zero_le _, Nat.zero_le _⟩ dX7_nearest_33 (fun H locs w => ?_)
            refine lv_iload_n hx hb dX7_nearest_36 rfl (lv_at hl 1 rfl) ?_
            refine x_icR_ge (x := (abI (G 3 i - G 3 l1))) (y := (dtdF G (nI l1) i)) (tgt := 49) hx hb dX7_nearest_37 (by decide) (fun c37_6 => ?_) (fun c37_6 => ?_)
            ·
              refine lv_iload_n hx hb dX7_nearest_49 rfl (lv_at hl 1 rfl) ?_
              refine lv_istore_n (lv' := [(2, .int (dtdF G (nI l1) i)), (3, .int (nI i)), (0, .ref (o 0)), (1, .int (nI l1))]) hx hb dX7_nearest_50 rfl hl (by decide) rfl (fun ls hl => ?_)
              refine lv_iinc (v := nI (i + 1)) (lv' := [(3, .int (nI (i + 1))), (2, .int (dtdF G (nI l1) i)), (0, .ref (o 0)), (1, .int (nI l1))]) hx hb dX7_nearest_51 hl (k := 1) rfl (nI_add i 1) (by decide) rfl (fun ls hl => ?_)
              refine lv_goto (tgt := 5) hx hb dX7_nearest_54 (by decide) ?_
              have q7 : (dtdF G (nI l1) i) = ((dtdF G (nI l1) (i + 1)) : Int32) := (by first | (rw [dtdF, if_pos ⟨fun z => c13_2 ((nI_eq (by omega) (by omega)).mp z), c27_4⟩, ix_nI (n := l1) (by omega), miI, if_pos c37_6]; done) | (rw [dtdF, if_pos ⟨fun z => c13_2 ((nI_eq (by omega) (by omega)).mp z), c27_4⟩, ix_nI (n := l1) (by omega), miI, if_neg c37_6]; done) | (rw [dtdF, if_neg (fun z => c27_4 z.2)]; done) | (rw [dtdF, if_neg (fun z => z.1 (congrArg nI c13_2))]; done))
              have hl : lv_has ls 4 [(3, .int (nI (i + 1))), (2, .int (dtdF G (nI l1) (i + 1))), (0, .ref (o 0)), (1, .int (nI l1))] := lv_eqL (lv_sub (l' := [(3, .int (nI (i + 1))), (2, .int (dtdF G (nI l1) i)), (0, .ref (o 0)), (1, .int (nI l1))]) hl [0, 1, 2, 3] rfl) (cg2 List.cons rfl (cg2 List.cons (congrArg (fun z => ((2 : Nat), Value.int z)) q7) (cg2 List.cons rfl (cg2 List.cons rfl rfl))))
              exact ih (i + 1) (by omega) (by omega) _ _ w _ hl
            ·
              refine lv_aload_n hx hb dX7_nearest_40 rfl (lv_at hl 2 rfl) ?_
              refine lv_iload_n hx hb dX7_nearest_41 rfl (lv_at hl 0 rfl) ?_
              refine lv_iload_n hx hb dX7_nearest_42 rfl (lv_at hl 3 rfl) ?_
              refine x_callVi (wr := []) (w2 := mR cI o (fl G) K h hn T tn f) (rest := []) (n := 2) C w hl [.int (nI i), .int (nI l1)] (k_X7_apart l D cI cS tys ht0 o G K h hn T tn f i l1 (by omega) hl1) gX7_nearest_X7_apart rfl (by decide +kernel) ⟨Nat.le_of_ble_eq_true rfl, Nat.le_of_ble_eq_true rfl⟩ 0 7 rfl rfl rfl rfl (Nat.le_of_ble_eq_true rfl) [0, 1, 2, 3, 4] [] (by decide) rfl rfl (by decide) (by decide) [0, 1, 2, 3, 4] (by decide) rfl ⟨Nat.zero_le _, Nat.zero_le _⟩ dX7_nearest_43 (fun H locs w => ?_)
              refine lv_goto (tgt := 50) hx hb dX7_nearest_46 (by decide) ?_
              refine lv_istore_n (lv' := [(2, .int (abI (G 3 i - G 3 l1))), (3, .int (nI i)), (0, .ref (o 0)), (1, .int (nI l1))]) hx hb dX7_nearest_50 rfl hl (by decide) rfl (fun ls hl => ?_)
              refine lv_iinc (v := nI (i + 1)) (lv' := [(3, .int (nI (i + 1))), (2, .int (abI (G 3 i - G 3 l1))), (0, .ref (o 0)), (1, .int (nI l1))]) hx hb dX7_nearest_51 hl (k := 1) rfl (nI_add i 1) (by decide) rfl (fun ls hl => ?_)
              refine lv_goto (tgt := 5) hx hb dX7_nearest_54 (by decide) ?_
              have q8 : (abI (G 3 i - G 3 l1)) = ((dtdF G (nI l1) (i + 1)) : Int32) := (by first | (rw [dtdF, if_pos ⟨fun z => c13_2 ((nI_eq (by omega) (by omega)).mp z), c27_4⟩, ix_nI (n := l1) (by omega), miI, if_pos c37_6]; done) | (rw [dtdF, if_pos ⟨fun z => c13_2 ((nI_eq (by omega) (by omega)).mp z), c27_4⟩, ix_nI (n := l1) (by omega), miI, if_neg c37_6]; done) | (rw [dtdF, if_neg (fun z => c27_4 z.2)]; done) | (rw [dtdF, if_neg (fun z => z.1 (congrArg nI c13_2))]; done))
              have hl : lv_has ls 4 [(3, .int (nI (i + 1))), (2, .int (dtdF G (nI l1) (i + 1))), (0, .ref (o 0)), (1, .int (nI l1))] := lv_eqL (lv_sub (l' := [(3, .int (nI (i + 1))), (2, .int (abI (G 3 i - G 3 l1))), (0, .ref (o 0)), (1, .int (nI l1))]) hl [0, 1, 2, 3] rfl) (cg2 List.cons rfl (cg2 List.cons (congrArg (fun z => ((2 : Nat), Value.int z)) q8) (cg2 List.cons rfl (cg2 List.cons rfl rfl))))
              exact ih (i + 1) (by omega) (by omega) _ _ w _ hl
  have q9 : 0 = (nI 0 : Int32) := rfl
  have q10 : 64 = ((dtdF G (nI l1) 0) : Int32) := rfl
  have hl : lv_has ls 4 [(3, .int (nI 0)), (2, .int (dtdF G (nI l1) 0)), (0, .ref (o 0)), (1, .int (nI l1))] := lv_eqL (lv_sub (l' := [(3, .int 0), (2, .int 64), (0, .ref (o 0)), (1, .int (nI l1))]) hl [0, 1, 2, 3] rfl) (cg2 List.cons (congrArg (fun z => ((3 : Nat), Value.int z)) q9) (cg2 List.cons (congrArg (fun z => ((2 : Nat), Value.int z)) q10) (cg2 List.cons rfl (cg2 List.cons rfl rfl))))
  exact loop_5 (9) 0 (by omega) (by omega) _ _ w _ hl
set_option maxHeartbeats 1000000 in
set_option maxRecDepth 100000 in
theorem k_X7_count (l : Launch) (D : va_G) (cI cS : ClassId) (tys : List (ClassId × FieldType)) (ht0 : tys[0]? = some (cI, .int)) (o : Nat → Nat) (G : St) (K : Nat → Int32) (h : Nat → Int32) (hn : Int32) (T : Nat → Int32) (tn : Int32) (f : Nat → Int32) (a1 : Int32)  : xI l yX7_count wsX7_count 1 D tys [.ref (o 0), .int a1] (mR cI o (fl G) K h hn T tn f) (conI G hn tn a1) (mR cI o (fl G) K h hn T tn f) := by
  refine x_inI (cc := cX7_count) (maxL := 2) (ret := (some .int)) (by decide) rfl (Nat.le_of_ble_eq_true rfl) ?_
  intro p e s m args below meth c A ls C w hl
  have C : xC p s m meth c args cX7_count 2 wsX7_count RX7 D tys (some .int) := C
  have hx := C.1.1
  have hb := C.1.2.1
  have hts := C.1.2.2.2.2
  have hown := C.1.2.2.2.1
  have w : xW D A s.heap (mR cI o (fl G) K h hn T tn f) s.heap [] := w
  have hl : lv_has ls 2 [(0, .ref (o 0)), (1, .int a1)] := hl
  refine lv_iload_n hx hb dX7_count_0 rfl (lv_at hl 1 rfl) ?_
  refine lv_i2l (v := Int32.toInt64 a1) hx hb dX7_count_1 rfl ?_
  refine lv_lconst (v := 0) hx hb dX7_count_2 (by decide +kernel) ?_
  refine lv_ldc2 (v := 8) hx hb hown (hts _ (List.mem_of_getElem? (i := 1) rfl)) dX7_count_3 ?_
  refine x_callSi (wr := mR cI o (fl G) K h hn T tn f) (w2 := mR cI o (fl G) K h hn T tn f) (rest := []) (n := 3) C w hl [.long (Int32.toInt64 a1), .long 0, .long 8] (k_X7_in l D cI cS tys ht0 (Int32.toInt64 a1) 0 8 ) gX7_count_X7_in rfl (by decide +kernel) ⟨Nat.le_of_ble_eq_true rfl, Nat.le_of_ble_eq_true rfl⟩ rfl rfl (Nat.le_of_ble_eq_true rfl) [] [0, 1, 2, 3, 4] (by decide) rfl rfl (by decide) (by decide) [0, 1, 2, 3, 4] (by decide) rfl ⟨Nat.zero_le _, Nat.zero_le _⟩ dX7_count_6 (fun H locs w => ?_)
  refine x_top (y := bI (wth a1 0 8 = true)) (bI_c (lg_wth a1 0 8 (by decide) (by decide))) ?_
  refine x_ifB_eq (P := wth a1 0 8 = true) (tgt := 23) hx hb dX7_count_9 (by decide) (fun c9_1 => ?_) (fun c9_1 => ?_)
  ·
    refine lv_iload_n hx hb dX7_count_23 rfl (lv_at hl 1 rfl) ?_
    refine lv_bipush (v := 9) hx hb dX7_count_24 (by decide +kernel) ?_
    refine x_icR_ne (x := a1) (y := 9) (tgt := 36) hx hb dX7_count_26 (by decide) (fun c26_2 => ?_) (fun c26_2 => ?_)
    ·
      refine lv_iload_n hx hb dX7_count_36 rfl (lv_at hl 1 rfl) ?_
      refine lv_bipush (v := 10) hx hb dX7_count_37 (by decide +kernel) ?_
      refine x_icR_ne (x := a1) (y := 10) (tgt := 49) hx hb dX7_count_39 (by decide) (fun c39_3 => ?_) (fun c39_3 => ?_)
      ·
        refine lv_iload_n hx hb dX7_count_49 rfl (lv_at hl 1 rfl) ?_
        refine lv_i2l (v := Int32.toInt64 a1) hx hb dX7_count_50 rfl ?_
        refine lv_ldc2 (v := 20) hx hb hown (hts _ (List.mem_of_getElem? (i := 5) rfl)) dX7_count_51 ?_
        refine lv_ldc2 (v := 23) hx hb hown (hts _ (List.mem_of_getElem? (i := 6) rfl)) dX7_count_54 ?_
        refine x_callSi (wr := mR cI o (fl G) K h hn T tn f) (w2 := mR cI o (fl G) K h hn T tn f) (rest := []) (n := 3) C w hl [.long (Int32.toInt64 a1), .long 20, .long 23] (k_X7_in l D cI cS tys ht0 (Int32.toInt64 a1) 20 23 ) gX7_count_X7_in rfl (by decide +kernel) ⟨Nat.le_of_ble_eq_true rfl, Nat.le_of_ble_eq_true rfl⟩ rfl rfl (Nat.le_of_ble_eq_true rfl) [] [0, 1, 2, 3, 4] (by decide) rfl rfl (by decide) (by decide) [0, 1, 2, 3, 4] (by decide) rfl ⟨Nat.zero_le _, Nat.zero_le _⟩ dX7_count_57 (fun H locs w => ?_)
        refine x_top (y := bI (wth a1 20 23 = true)) (bI_c (lg_wth a1 20 23 (by decide) (by decide))) ?_
        refine x_ifB_eq (P := wth a1 20 23 = true) (tgt := 79) hx hb dX7_count_60 (by decide) (fun c60_4 => ?_) (fun c60_4 => ?_)
        ·
          refine lv_ldc (v := -1000001) hx hb hown (hts _ (List.mem_of_getElem? (i := 7) rfl)) dX7_count_79 ?_
          exact x_iret C w (con_no G hn tn c9_1 c26_2 c39_3 c60_4) rfl dX7_count_81
        ·
          obtain ⟨n1, hn1, en1⟩ := wth_vN (lo := 20) (hi := 23) (n := 23) (by decide) rfl (by decide) c60_4
          have hn20 : 20 ≤ n1 := wth_lo (a := 20) (hi := 23) rfl (by omega) (by decide) (by rw [← en1]; exact c60_4)
          obtain ⟨u1, hu1⟩ : ∃ z, n1 = 20 + z := ⟨n1 - 20, by omega⟩
          refine lv_aload_n hx hb dX7_count_63 rfl (lv_at hl 0 rfl) ?_
          refine x_get (v := .ref (o 1)) (T := TX7) C w 0 0 rfl rfl (fun _ h => List.mem_cons_of_mem _ (List.mem_append_right _ (h))) (List.mem_of_getElem? (i := 2) rfl) (by decide) rfl dX7_count_64 ?_
          refine lv_sipush (v := 174) hx hb dX7_count_67 (by decide +kernel) ?_
          refine lv_iload_n hx hb dX7_count_70 rfl (lv_at hl 1 rfl) ?_
          refine x_top (y := nI n1) en1 ?_
          refine x_iaddN (i := 174) (j := n1) hx hb dX7_count_71 ?_
          refine lv_bipush (v := 20) hx hb dX7_count_72 (by decide +kernel) ?_
          refine x_isubN (i := 174 + n1) (j := 20) hx hb (by omega) dX7_count_74 ?_
          refine x_top (y := nI (174 + u1)) (congrArg nI (by omega)) ?_
          refine x_iald (v := G 8 u1) C w 1 0 (174 + u1) rfl ht0 rfl (by omega) (by decide) (fl_r8 _ (by omega)) dX7_count_75 ?_
          refine lv_goto (tgt := 81) hx hb dX7_count_76 (by decide) ?_
          exact x_iret C w (by rw [en1, hu1]; exact con_s G hn tn (by omega)) rfl dX7_count_81
      ·
        refine lv_aload_n hx hb dX7_count_42 rfl (lv_at hl 0 rfl) ?_
        refine x_get (v := .int tn) (T := TX7) C w 0 5 rfl rfl (fun _ h => List.mem_cons_of_mem _ (List.mem_append_right _ (h))) (List.mem_of_getElem? (i := 4) rfl) (by decide) rfl dX7_count_43 ?_
        refine lv_goto (tgt := 81) hx hb dX7_count_46 (by decide) ?_
        exact x_iret C w (by rw [c39_3]; exact con_10 G hn tn) rfl dX7_count_81
    ·
      refine lv_aload_n hx hb dX7_count_29 rfl (lv_at hl 0 rfl) ?_
      refine x_get (v := .int hn) (T := TX7) C w 0 3 rfl rfl (fun _ h => List.mem_cons_of_mem _ (List.mem_append_right _ (h))) (List.mem_of_getElem? (i := 3) rfl) (by decide) rfl dX7_count_30 ?_
      refine lv_goto (tgt := 81) hx hb dX7_count_33 (by decide) ?_
      exact x_iret C w (by rw [c26_2]; exact con_9 G hn tn) rfl dX7_count_81
  ·
    obtain ⟨n1, hn1, en1⟩ := wth_vN (lo := 0) (hi := 8) (n := 8) (by decide) rfl (by decide) c9_1
    refine lv_aload_n hx hb dX7_count_12 rfl (lv_at hl 0 rfl) ?_
    refine x_get (v := .ref (o 1)) (T := TX7) C w 0 0 rfl rfl (fun _ h => List.mem_cons_of_mem _ (List.mem_append_right _ (h))) (List.mem_of_getElem? (i := 2) rfl) (by decide) rfl dX7_count_13 ?_
    refine lv_sipush (v := 164) hx hb dX7_count_16 (by decide +kernel) ?_
    refine lv_iload_n hx hb dX7_count_19 rfl (lv_at hl 1 rfl) ?_
    refine x_top (y := nI n1) en1 ?_
    refine x_iaddN (i := 164) (j := n1) hx hb dX7_count_20 ?_
    refine x_iald (v := G 7 n1) C w 1 0 (164 + n1) rfl ht0 rfl (by omega) (by decide) (fl_r7 _ (by omega)) dX7_count_21 ?_
    exact x_iret C w (by rw [en1]; exact con_8 G hn tn (by omega)) rfl dX7_count_22
set_option maxHeartbeats 1000000 in
set_option maxRecDepth 100000 in
theorem k_X7_type_no (l : Launch) (D : va_G) (cI cS : ClassId) (tys : List (ClassId × FieldType)) (ht0 : tys[0]? = some (cI, .int)) (o : Nat → Nat) (G : St) (K : Nat → Int32) (h : Nat → Int32) (hn : Int32) (T : Nat → Int32) (tn : Int32) (f : Nat → Int32) (a1 : Int32) (hno : ¬ wth a1 32 126 = true) : xI l yX7_type wsX7_type 1 D tys [.ref (o 0), .int a1] (mR cI o (fl G) K h hn T tn f) (-1000001) (mR cI o (fl G) K h hn T tn f) := by
  refine x_inI (cc := cX7_type) (maxL := 2) (ret := (some .int)) (by decide) rfl (Nat.le_of_ble_eq_true rfl) ?_
  intro p e s m args below meth c A ls C w hl
  have C : xC p s m meth c args cX7_type 2 wsX7_type RX7 D tys (some .int) := C
  have hx := C.1.1
  have hb := C.1.2.1
  have hts := C.1.2.2.2.2
  have hown := C.1.2.2.2.1
  have w : xW D A s.heap (mR cI o (fl G) K h hn T tn f) s.heap [] := w
  have hl : lv_has ls 2 [(0, .ref (o 0)), (1, .int a1)] := hl
  refine lv_iload_n hx hb dX7_type_0 rfl (lv_at hl 1 rfl) ?_
  refine lv_i2l (v := Int32.toInt64 a1) hx hb dX7_type_1 rfl ?_
  refine lv_ldc2 (v := 32) hx hb hown (hts _ (List.mem_of_getElem? (i := 1) rfl)) dX7_type_2 ?_
  refine lv_ldc2 (v := 126) hx hb hown (hts _ (List.mem_of_getElem? (i := 2) rfl)) dX7_type_5 ?_
  refine x_callSi (wr := mR cI o (fl G) K h hn T tn f) (w2 := mR cI o (fl G) K h hn T tn f) (rest := []) (n := 3) C w hl [.long (Int32.toInt64 a1), .long 32, .long 126] (k_X7_in l D cI cS tys ht0 (Int32.toInt64 a1) 32 126 ) gX7_type_X7_in rfl (by decide +kernel) ⟨Nat.le_of_ble_eq_true rfl, Nat.le_of_ble_eq_true rfl⟩ rfl rfl (Nat.le_of_ble_eq_true rfl) [] [0, 1, 2, 3, 4] (by decide) rfl rfl (by decide) (by decide) [0, 1, 2, 3, 4] (by decide) rfl ⟨Nat.zero_le _, Nat.zero_le _⟩ dX7_type_8 (fun H locs w => ?_)
  refine x_top (y := bI (wth a1 32 126 = true)) (bI_c (lg_wth a1 32 126 (by decide) (by decide))) ?_
  refine x_ifB_ne (P := wth a1 32 126 = true) (tgt := 17) hx hb dX7_type_11 (by decide) (fun c11_1 => ?_) (fun c11_1 => ?_)
  ·
    exact absurd c11_1 hno
  ·
    refine lv_ldc (v := -1000001) hx hb hown (hts _ (List.mem_of_getElem? (i := 3) rfl)) dX7_type_14 ?_
    exact x_iret C w rfl rfl dX7_type_16
set_option maxHeartbeats 1000000 in
set_option maxRecDepth 100000 in
theorem k_X7_type_li (l : Launch) (D : va_G) (cI cS : ClassId) (tys : List (ClassId × FieldType)) (ht0 : tys[0]? = some (cI, .int)) (o : Nat → Nat) (G : St) (K : Nat → Int32) (h : Nat → Int32) (hn : Int32) (T : Nat → Int32) (f : Nat → Int32) (a1 : Int32) (k : Nat) (hok : wth a1 32 126 = true) (hk : k = 60) : xI l yX7_type wsX7_type 1 D tys [.ref (o 0), .int a1] (mR cI o (fl G) K h hn T (nI k) f) (-1000003) (mR cI o (fl G) K h hn T (nI k) f) := by
  refine x_inI (cc := cX7_type) (maxL := 2) (ret := (some .int)) (by decide) rfl (Nat.le_of_ble_eq_true rfl) ?_
  intro p e s m args below meth c A ls C w hl
  have C : xC p s m meth c args cX7_type 2 wsX7_type RX7 D tys (some .int) := C
  have hx := C.1.1
  have hb := C.1.2.1
  have hts := C.1.2.2.2.2
  have hown := C.1.2.2.2.1
  have w : xW D A s.heap (mR cI o (fl G) K h hn T (nI k) f) s.heap [] := w
  have hl : lv_has ls 2 [(0, .ref (o 0)), (1, .int a1)] := hl
  refine lv_iload_n hx hb dX7_type_0 rfl (lv_at hl 1 rfl) ?_
  refine lv_i2l (v := Int32.toInt64 a1) hx hb dX7_type_1 rfl ?_
  refine lv_ldc2 (v := 32) hx hb hown (hts _ (List.mem_of_getElem? (i := 1) rfl)) dX7_type_2 ?_
  refine lv_ldc2 (v := 126) hx hb hown (hts _ (List.mem_of_getElem? (i := 2) rfl)) dX7_type_5 ?_
  refine x_callSi (wr := mR cI o (fl G) K h hn T (nI k) f) (w2 := mR cI o (fl G) K h hn T (nI k) f) (rest := []) (n := 3) C w hl [.long (Int32.toInt64 a1), .long 32, .long 126] (k_X7_in l D cI cS tys ht0 (Int32.toInt64 a1) 32 126 ) gX7_type_X7_in rfl (by decide +kernel) ⟨Nat.le_of_ble_eq_true rfl, Nat.le_of_ble_eq_true rfl⟩ rfl rfl (Nat.le_of_ble_eq_true rfl) [] [0, 1, 2, 3, 4] (by decide) rfl rfl (by decide) (by decide) [0, 1, 2, 3, 4] (by decide) rfl ⟨Nat.zero_le _, Nat.zero_le _⟩ dX7_type_8 (fun H locs w => ?_)
  refine x_top (y := bI (wth a1 32 126 = true)) (bI_c (lg_wth a1 32 126 (by decide) (by decide))) ?_
  refine x_ifB_ne (P := wth a1 32 126 = true) (tgt := 17) hx hb dX7_type_11 (by decide) (fun c11_1 => ?_) (fun c11_1 => ?_)
  ·
    refine lv_aload_n hx hb dX7_type_17 rfl (lv_at hl 0 rfl) ?_
    refine x_get (v := .int (nI k)) (T := TX7) C w 0 5 rfl rfl (fun _ h => List.mem_cons_of_mem _ (List.mem_append_right _ (h))) (List.mem_of_getElem? (i := 4) rfl) (by decide) rfl dX7_type_18 ?_
    refine lv_bipush (v := 60) hx hb dX7_type_21 (by decide +kernel) ?_
    refine x_icN_ne (i := k) (j := 60) (tgt := 29) hx hb (by omega) (by omega) dX7_type_23 (by decide) (fun c23_2 => ?_) (fun c23_2 => ?_)
    ·
      exact absurd hk c23_2
    ·
      refine lv_ldc (v := -1000003) hx hb hown (hts _ (List.mem_of_getElem? (i := 5) rfl)) dX7_type_26 ?_
      exact x_iret C w rfl rfl dX7_type_28
  ·
    exact absurd hok c11_1
set_option maxHeartbeats 1000000 in
set_option maxRecDepth 100000 in
theorem k_X7_type_ok (l : Launch) (D : va_G) (cI cS : ClassId) (tys : List (ClassId × FieldType)) (ht0 : tys[0]? = some (cI, .int)) (o : Nat → Nat) (G : St) (K : Nat → Int32) (h : Nat → Int32) (hn : Int32) (T : Nat → Int32) (f : Nat → Int32) (a1 : Int32) (k : Nat) (hok : wth a1 32 126 = true) (hk : k < 60) : xI l yX7_type wsX7_type 1 D tys [.ref (o 0), .int a1] (mR cI o (fl G) K h hn T (nI k) f) (appN (nI k)) (mR cI o (fl G) K h hn (appT T (nI k) a1) (appN (nI k)) f) := by
  refine x_inI (cc := cX7_type) (maxL := 2) (ret := (some .int)) (by decide) rfl (Nat.le_of_ble_eq_true rfl) ?_
  intro p e s m args below meth c A ls C w hl
  have C : xC p s m meth c args cX7_type 2 wsX7_type RX7 D tys (some .int) := C
  have hx := C.1.1
  have hb := C.1.2.1
  have hts := C.1.2.2.2.2
  have hown := C.1.2.2.2.1
  have w : xW D A s.heap (mR cI o (fl G) K h hn T (nI k) f) s.heap [] := w
  have hl : lv_has ls 2 [(0, .ref (o 0)), (1, .int a1)] := hl
  refine lv_iload_n hx hb dX7_type_0 rfl (lv_at hl 1 rfl) ?_
  refine lv_i2l (v := Int32.toInt64 a1) hx hb dX7_type_1 rfl ?_
  refine lv_ldc2 (v := 32) hx hb hown (hts _ (List.mem_of_getElem? (i := 1) rfl)) dX7_type_2 ?_
  refine lv_ldc2 (v := 126) hx hb hown (hts _ (List.mem_of_getElem? (i := 2) rfl)) dX7_type_5 ?_
  refine x_callSi (wr := mR cI o (fl G) K h hn T (nI k) f) (w2 := mR cI o (fl G) K h hn T (nI k) f) (rest := []) (n := 3) C w hl [.long (Int32.toInt64 a1), .long 32, .long 126] (k_X7_in l D cI cS tys ht0 (Int32.toInt64 a1) 32 126 ) gX7_type_X7_in rfl (by decide +kernel) ⟨Nat.le_of_ble_eq_true rfl, Nat.le_of_ble_eq_true rfl⟩ rfl rfl (Nat.le_of_ble_eq_true rfl) [] [0, 1, 2, 3, 4] (by decide) rfl rfl (by decide) (by decide) [0, 1, 2, 3, 4] (by decide) rfl ⟨Nat.zero_le _, Nat.zero_le _⟩ dX7_type_8 (fun H locs w => ?_)
  refine x_top (y := bI (wth a1 32 126 = true)) (bI_c (lg_wth a1 32 126 (by decide) (by decide))) ?_
  refine x_ifB_ne (P := wth a1 32 126 = true) (tgt := 17) hx hb dX7_type_11 (by decide) (fun c11_1 => ?_) (fun c11_1 => ?_)
  ·
    refine lv_aload_n hx hb dX7_type_17 rfl (lv_at hl 0 rfl) ?_
    refine x_get (v := .int (nI k)) (T := TX7) C w 0 5 rfl rfl (fun _ h => List.mem_cons_of_mem _ (List.mem_append_right _ (h))) (List.mem_of_getElem? (i := 4) rfl) (by decide) rfl dX7_type_18 ?_
    refine lv_bipush (v := 60) hx hb dX7_type_21 (by decide +kernel) ?_
    refine x_icN_ne (i := k) (j := 60) (tgt := 29) hx hb (by omega) (by omega) dX7_type_23 (by decide) (fun c23_2 => ?_) (fun c23_2 => ?_)
    ·
      refine lv_aload_n hx hb dX7_type_29 rfl (lv_at hl 0 rfl) ?_
      refine x_get (v := .ref (o 4)) (T := TX7) C w 0 4 rfl rfl (fun _ h => List.mem_cons_of_mem _ (List.mem_append_right _ (h))) (List.mem_of_getElem? (i := 6) rfl) (by decide) rfl dX7_type_30 ?_
      refine lv_aload_n hx hb dX7_type_33 rfl (lv_at hl 0 rfl) ?_
      refine x_get (v := .int (nI k)) (T := TX7) C w 0 5 rfl rfl (fun _ h => List.mem_cons_of_mem _ (List.mem_append_right _ (h))) (List.mem_of_getElem? (i := 4) rfl) (by decide) rfl dX7_type_34 ?_
      refine lv_iload_n hx hb dX7_type_37 rfl (lv_at hl 1 rfl) ?_
      refine x_iast (ws2 := mR cI o (fl G) K h hn (upd T k a1) (nI k) f) C w 4 0 (k) rfl ht0 rfl (by omega) (by decide) rfl dX7_type_38 (fun H locs w => ?_)
      refine lv_aload_n hx hb dX7_type_39 rfl (lv_at hl 0 rfl) ?_
      refine lv_dup hx hb dX7_type_40 rfl ?_
      refine x_get (v := .int (nI k)) (T := TX7) C w 0 5 rfl rfl (fun _ h => List.mem_cons_of_mem _ (List.mem_append_right _ (h))) (List.mem_of_getElem? (i := 4) rfl) (by decide) rfl dX7_type_41 ?_
      refine lv_iconst (v := 1) hx hb dX7_type_44 (by decide +kernel) ?_
      refine x_iaddN (i := k) (j := 1) hx hb dX7_type_45 ?_
      refine x_put (v := .int (nI (k + 1))) (ty := .int) (T := TX7) (ws2 := mR cI o (fl G) K h hn (upd T k a1) (nI (k + 1)) f) C w 0 5 rfl rfl (fun _ h => List.mem_cons_of_mem _ (List.mem_append_right _ (h))) tyX7 tyX7_ok nmX7 (List.mem_of_getElem? (i := 4) rfl) (by decide) (Nat.le_of_ble_eq_true rfl) rfl (by decide +kernel) rfl rfl (mRs5 _ _ _ _ _ _ _ _ _ _) dX7_type_46 (fun H locs w => ?_)
      refine lv_aload_n hx hb dX7_type_49 rfl (lv_at hl 0 rfl) ?_
      refine x_get (v := .int (nI (k + 1))) (T := TX7) C w 0 5 rfl rfl (fun _ h => List.mem_cons_of_mem _ (List.mem_append_right _ (h))) (List.mem_of_getElem? (i := 4) rfl) (by decide) rfl dX7_type_50 ?_
      exact x_iret C w (app_y hk T a1).2.symm (by rw [(app_y hk T a1).1, (app_y hk T a1).2]) dX7_type_53
    ·
      exact absurd c23_2 (by omega)
  ·
    exact absurd hok c11_1
set_option maxHeartbeats 1000000 in
set_option maxRecDepth 100000 in
theorem k_X7_lineOf_no (l : Launch) (D : va_G) (cI cS : ClassId) (tys : List (ClassId × FieldType)) (ht0 : tys[0]? = some (cI, .int)) (o : Nat → Nat) (G : St) (K : Nat → Int32) (h : Nat → Int32) (hn : Int32) (T : Nat → Int32) (tn : Int32) (f : Nat → Int32) (a1 : Int32) (a2 : Int32) (hno : ¬ (rg a1 8 = true ∧ wth a2 0 4 = true)) : xI l yX7_lineOf wsX7_lineOf 2 D tys [.ref (o 0), .int a1, .int a2] (mR cI o (fl G) K h hn T tn f) (-1000001) (mR cI o (fl G) K h hn T tn f) := by
  refine x_inI (cc := cX7_lineOf) (maxL := 3) (ret := (some .int)) (by decide) rfl (Nat.le_of_ble_eq_true rfl) ?_
  intro p e s m args below meth c A ls C w hl
  have C : xC p s m meth c args cX7_lineOf 3 wsX7_lineOf RX7 D tys (some .int) := C
  have hx := C.1.1
  have hb := C.1.2.1
  have hts := C.1.2.2.2.2
  have hown := C.1.2.2.2.1
  have w : xW D A s.heap (mR cI o (fl G) K h hn T tn f) s.heap [] := w
  have hl : lv_has ls 3 [(0, .ref (o 0)), (1, .int a1), (2, .int a2)] := hl
  refine lv_iload_n hx hb dX7_lineOf_0 rfl (lv_at hl 1 rfl) ?_
  refine x_callSi (wr := mR cI o (fl G) K h hn T tn f) (w2 := mR cI o (fl G) K h hn T tn f) (rest := []) (n := 1) C w hl [.int a1] (k_X7_isLine l D cI cS tys ht0 a1 ) gX7_lineOf_X7_isLine rfl (by decide +kernel) ⟨Nat.le_of_ble_eq_true rfl, Nat.le_of_ble_eq_true rfl⟩ rfl rfl (Nat.le_of_ble_eq_true rfl) [] [0, 1, 2, 3, 4] (by decide) rfl rfl (by decide) (by decide) [0, 1, 2, 3, 4] (by decide) rfl ⟨Nat.zero_le _, Nat.zero_le _⟩ dX7_lineOf_1 (fun H locs w => ?_)
  refine x_ifB_eq (P := rg a1 8 = true) (tgt := 19) hx hb dX7_lineOf_4 (by decide) (fun c4_1 => ?_) (fun c4_1 => ?_)
  ·
    refine lv_ldc (v := -1000001) hx hb hown (hts _ (List.mem_of_getElem? (i := 2) rfl)) dX7_lineOf_19 ?_
    exact x_iret C w rfl rfl dX7_lineOf_21
  ·
    refine lv_iload_n hx hb dX7_lineOf_7 rfl (lv_at hl 2 rfl) ?_
    refine lv_i2l (v := Int32.toInt64 a2) hx hb dX7_lineOf_8 rfl ?_
    refine lv_lconst (v := 0) hx hb dX7_lineOf_9 (by decide +kernel) ?_
    refine lv_ldc2 (v := 4) hx hb hown (hts _ (List.mem_of_getElem? (i := 1) rfl)) dX7_lineOf_10 ?_
    refine x_callSi (wr := mR cI o (fl G) K h hn T tn f) (w2 := mR cI o (fl G) K h hn T tn f) (rest := []) (n := 3) C w hl [.long (Int32.toInt64 a2), .long 0, .long 4] (k_X7_in l D cI cS tys ht0 (Int32.toInt64 a2) 0 4 ) gX7_lineOf_X7_in rfl (by decide +kernel) ⟨Nat.le_of_ble_eq_true rfl, Nat.le_of_ble_eq_true rfl⟩ rfl rfl (Nat.le_of_ble_eq_true rfl) [] [0, 1, 2, 3, 4] (by decide) rfl rfl (by decide) (by decide) [0, 1, 2, 3, 4] (by decide) rfl ⟨Nat.zero_le _, Nat.zero_le _⟩ dX7_lineOf_13 (fun H locs w => ?_)
    refine x_top (y := bI (wth a2 0 4 = true)) (bI_c (lg_wth a2 0 4 (by decide) (by decide))) ?_
    refine x_ifB_ne (P := wth a2 0 4 = true) (tgt := 22) hx hb dX7_lineOf_16 (by decide) (fun c16_2 => ?_) (fun c16_2 => ?_)
    ·
      exact absurd ⟨c4_1, c16_2⟩ hno
    ·
      refine lv_ldc (v := -1000001) hx hb hown (hts _ (List.mem_of_getElem? (i := 2) rfl)) dX7_lineOf_19 ?_
      exact x_iret C w rfl rfl dX7_lineOf_21
set_option maxHeartbeats 1000000 in
set_option maxRecDepth 100000 in
theorem k_X7_lineOf_ok (l : Launch) (D : va_G) (cI cS : ClassId) (tys : List (ClassId × FieldType)) (ht0 : tys[0]? = some (cI, .int)) (o : Nat → Nat) (G : St) (K : Nat → Int32) (h : Nat → Int32) (hn : Int32) (T : Nat → Int32) (tn : Int32) (f : Nat → Int32) (l1 : Nat) (a2 : Int32) (hl1 : l1 < 8) (hok : wth a2 0 4 = true) (hI : Inv G) : xI l yX7_lineOf wsX7_lineOf 2 D tys [.ref (o 0), .int (nI l1), .int a2] (mR cI o (fl G) K h hn T tn f) (lofI G (nI l1) a2) (mR cI o (fl G) K h hn T tn f) := by
  refine x_inI (cc := cX7_lineOf) (maxL := 3) (ret := (some .int)) (by decide) rfl (Nat.le_of_ble_eq_true rfl) ?_
  intro p e s m args below meth c A ls C w hl
  have C : xC p s m meth c args cX7_lineOf 3 wsX7_lineOf RX7 D tys (some .int) := C
  have hx := C.1.1
  have hb := C.1.2.1
  have hts := C.1.2.2.2.2
  have hown := C.1.2.2.2.1
  have w : xW D A s.heap (mR cI o (fl G) K h hn T tn f) s.heap [] := w
  have hl : lv_has ls 3 [(0, .ref (o 0)), (1, .int (nI l1)), (2, .int a2)] := hl
  refine lv_iload_n hx hb dX7_lineOf_0 rfl (lv_at hl 1 rfl) ?_
  refine x_callSi (wr := mR cI o (fl G) K h hn T tn f) (w2 := mR cI o (fl G) K h hn T tn f) (rest := []) (n := 1) C w hl [.int (nI l1)] (k_X7_isLine l D cI cS tys ht0 (nI l1) ) gX7_lineOf_X7_isLine rfl (by decide +kernel) ⟨Nat.le_of_ble_eq_true rfl, Nat.le_of_ble_eq_true rfl⟩ rfl rfl (Nat.le_of_ble_eq_true rfl) [] [0, 1, 2, 3, 4] (by decide) rfl rfl (by decide) (by decide) [0, 1, 2, 3, 4] (by decide) rfl ⟨Nat.zero_le _, Nat.zero_le _⟩ dX7_lineOf_1 (fun H locs w => ?_)
  refine x_ifB_eq (P := rg (nI l1) 8 = true) (tgt := 19) hx hb dX7_lineOf_4 (by decide) (fun c4_1 => ?_) (fun c4_1 => ?_)
  ·
    exact absurd (rg_nI (n := 8) (b := 8) rfl hl1 (by decide)) c4_1
  ·
    refine lv_iload_n hx hb dX7_lineOf_7 rfl (lv_at hl 2 rfl) ?_
    refine lv_i2l (v := Int32.toInt64 a2) hx hb dX7_lineOf_8 rfl ?_
    refine lv_lconst (v := 0) hx hb dX7_lineOf_9 (by decide +kernel) ?_
    refine lv_ldc2 (v := 4) hx hb hown (hts _ (List.mem_of_getElem? (i := 1) rfl)) dX7_lineOf_10 ?_
    refine x_callSi (wr := mR cI o (fl G) K h hn T tn f) (w2 := mR cI o (fl G) K h hn T tn f) (rest := []) (n := 3) C w hl [.long (Int32.toInt64 a2), .long 0, .long 4] (k_X7_in l D cI cS tys ht0 (Int32.toInt64 a2) 0 4 ) gX7_lineOf_X7_in rfl (by decide +kernel) ⟨Nat.le_of_ble_eq_true rfl, Nat.le_of_ble_eq_true rfl⟩ rfl rfl (Nat.le_of_ble_eq_true rfl) [] [0, 1, 2, 3, 4] (by decide) rfl rfl (by decide) (by decide) [0, 1, 2, 3, 4] (by decide) rfl ⟨Nat.zero_le _, Nat.zero_le _⟩ dX7_lineOf_13 (fun H locs w => ?_)
    refine x_top (y := bI (wth a2 0 4 = true)) (bI_c (lg_wth a2 0 4 (by decide) (by decide))) ?_
    refine x_ifB_ne (P := wth a2 0 4 = true) (tgt := 22) hx hb dX7_lineOf_16 (by decide) (fun c16_2 => ?_) (fun c16_2 => ?_)
    ·
      refine lv_iload_n hx hb dX7_lineOf_22 rfl (lv_at hl 2 rfl) ?_
      refine x_ifR_ne (x := a2) (tgt := 37) hx hb dX7_lineOf_23 (by decide) (fun c23_3 => ?_) (fun c23_3 => ?_)
      ·
        refine lv_aload_n hx hb dX7_lineOf_37 rfl (lv_at hl 0 rfl) ?_
        refine x_get (v := .ref (o 1)) (T := TX7) C w 0 0 rfl rfl (fun _ h => List.mem_cons_of_mem _ (List.mem_append_right _ (h))) (List.mem_of_getElem? (i := 3) rfl) (by decide) rfl dX7_lineOf_38 ?_
        refine lv_sipush (v := 128) hx hb dX7_lineOf_41 (by decide +kernel) ?_
        refine lv_iload_n hx hb dX7_lineOf_44 rfl (lv_at hl 1 rfl) ?_
        refine x_iaddN (i := 128) (j := l1) hx hb dX7_lineOf_45 ?_
        refine x_iald (v := G 2 l1) C w 1 0 (128 + l1) rfl ht0 rfl (by omega) (by decide) (fl_r2 _ (by omega)) dX7_lineOf_46 ?_
        refine x_ifR_ne (x := G 2 l1) (tgt := 53) hx hb dX7_lineOf_47 (by decide) (fun c47_4 => ?_) (fun c47_4 => ?_)
        ·
          refine lv_iload_n hx hb dX7_lineOf_53 rfl (lv_at hl 2 rfl) ?_
          refine lv_iconst (v := 1) hx hb dX7_lineOf_54 (by decide +kernel) ?_
          refine x_icR_ne (x := a2) (y := 1) (tgt := 71) hx hb dX7_lineOf_55 (by decide) (fun c55_5 => ?_) (fun c55_5 => ?_)
          ·
            refine lv_iload_n hx hb dX7_lineOf_71 rfl (lv_at hl 2 rfl) ?_
            refine lv_iconst (v := 2) hx hb dX7_lineOf_72 (by decide +kernel) ?_
            refine x_icR_ne (x := a2) (y := 2) (tgt := 89) hx hb dX7_lineOf_73 (by decide) (fun c73_6 => ?_) (fun c73_6 => ?_)
            ·
              refine lv_iload_n hx hb dX7_lineOf_89 rfl (lv_at hl 2 rfl) ?_
              refine lv_iconst (v := 3) hx hb dX7_lineOf_90 (by decide +kernel) ?_
              refine x_icR_ne (x := a2) (y := 3) (tgt := 107) hx hb dX7_lineOf_91 (by decide) (fun c91_7 => ?_) (fun c91_7 => ?_)
              ·
                refine lv_aload_n hx hb dX7_lineOf_107 rfl (lv_at hl 0 rfl) ?_
                refine lv_iload_n hx hb dX7_lineOf_108 rfl (lv_at hl 1 rfl) ?_
                refine x_callVi (wr := []) (w2 := mR cI o (fl G) K h hn T tn f) (rest := []) (n := 1) C w hl [.int (nI l1)] (k_X7_lowerTurns l D cI cS tys ht0 o G K h hn T tn f l1 hl1) gX7_lineOf_X7_lowerTurns rfl (by decide +kernel) ⟨Nat.le_of_ble_eq_true rfl, Nat.le_of_ble_eq_true rfl⟩ 0 7 rfl rfl rfl rfl (Nat.le_of_ble_eq_true rfl) [0, 1, 2, 3, 4] [] (by decide) rfl rfl (by decide) (by decide) [0, 1, 2, 3, 4] (by decide) rfl ⟨Nat.zero_le _, Nat.zero_le _⟩ dX7_lineOf_109 (fun H locs w => ?_)
                refine x_top (y := (lahI G (nI l1) 1)) (lah_1 hI hl1) ?_
                exact x_iret C w (by unfold lofI; rw [if_pos (rg_nI (n := 8) (b := 8) rfl hl1 (by decide)), if_pos hok, ix_nI (by omega)]; simp only [if_pos c4_1, if_pos c16_2, if_neg c23_3, if_neg c47_4, if_neg c55_5, if_neg c73_6, if_neg c91_7]) rfl dX7_lineOf_112
              ·
                refine lv_aload_n hx hb dX7_lineOf_94 rfl (lv_at hl 0 rfl) ?_
                refine x_get (v := .ref (o 1)) (T := TX7) C w 0 0 rfl rfl (fun _ h => List.mem_cons_of_mem _ (List.mem_append_right _ (h))) (List.mem_of_getElem? (i := 3) rfl) (by decide) rfl dX7_lineOf_95 ?_
                refine lv_sipush (v := 152) hx hb dX7_lineOf_98 (by decide +kernel) ?_
                refine lv_iload_n hx hb dX7_lineOf_101 rfl (lv_at hl 1 rfl) ?_
                refine x_iaddN (i := 152) (j := l1) hx hb dX7_lineOf_102 ?_
                refine x_iald (v := G 5 l1) C w 1 0 (152 + l1) rfl ht0 rfl (by omega) (by decide) (fl_r5 _ (by omega)) dX7_lineOf_103 ?_
                refine lv_goto (tgt := 112) hx hb dX7_lineOf_104 (by decide) ?_
                exact x_iret C w (by unfold lofI; rw [if_pos (rg_nI (n := 8) (b := 8) rfl hl1 (by decide)), if_pos hok, ix_nI (by omega)]; simp only [if_pos c4_1, if_pos c16_2, if_neg c23_3, if_neg c47_4, if_neg c55_5, if_neg c73_6, if_pos c91_7]) rfl dX7_lineOf_112
            ·
              refine lv_aload_n hx hb dX7_lineOf_76 rfl (lv_at hl 0 rfl) ?_
              refine x_get (v := .ref (o 1)) (T := TX7) C w 0 0 rfl rfl (fun _ h => List.mem_cons_of_mem _ (List.mem_append_right _ (h))) (List.mem_of_getElem? (i := 3) rfl) (by decide) rfl dX7_lineOf_77 ?_
              refine lv_sipush (v := 144) hx hb dX7_lineOf_80 (by decide +kernel) ?_
              refine lv_iload_n hx hb dX7_lineOf_83 rfl (lv_at hl 1 rfl) ?_
              refine x_iaddN (i := 144) (j := l1) hx hb dX7_lineOf_84 ?_
              refine x_iald (v := G 4 l1) C w 1 0 (144 + l1) rfl ht0 rfl (by omega) (by decide) (fl_r4 _ (by omega)) dX7_lineOf_85 ?_
              refine lv_goto (tgt := 112) hx hb dX7_lineOf_86 (by decide) ?_
              exact x_iret C w (by unfold lofI; rw [if_pos (rg_nI (n := 8) (b := 8) rfl hl1 (by decide)), if_pos hok, ix_nI (by omega)]; simp only [if_pos c4_1, if_pos c16_2, if_neg c23_3, if_neg c47_4, if_neg c55_5, if_pos c73_6]) rfl dX7_lineOf_112
          ·
            refine lv_aload_n hx hb dX7_lineOf_58 rfl (lv_at hl 0 rfl) ?_
            refine x_get (v := .ref (o 1)) (T := TX7) C w 0 0 rfl rfl (fun _ h => List.mem_cons_of_mem _ (List.mem_append_right _ (h))) (List.mem_of_getElem? (i := 3) rfl) (by decide) rfl dX7_lineOf_59 ?_
            refine lv_sipush (v := 136) hx hb dX7_lineOf_62 (by decide +kernel) ?_
            refine lv_iload_n hx hb dX7_lineOf_65 rfl (lv_at hl 1 rfl) ?_
            refine x_iaddN (i := 136) (j := l1) hx hb dX7_lineOf_66 ?_
            refine x_iald (v := G 3 l1) C w 1 0 (136 + l1) rfl ht0 rfl (by omega) (by decide) (fl_r3 _ (by omega)) dX7_lineOf_67 ?_
            refine lv_goto (tgt := 112) hx hb dX7_lineOf_68 (by decide) ?_
            exact x_iret C w (by unfold lofI; rw [if_pos (rg_nI (n := 8) (b := 8) rfl hl1 (by decide)), if_pos hok, ix_nI (by omega)]; simp only [if_pos c4_1, if_pos c16_2, if_neg c23_3, if_neg c47_4, if_pos c55_5]) rfl dX7_lineOf_112
        ·
          refine lv_ldc (v := -1000004) hx hb hown (hts _ (List.mem_of_getElem? (i := 4) rfl)) dX7_lineOf_50 ?_
          exact x_iret C w (by unfold lofI; rw [if_pos (rg_nI (n := 8) (b := 8) rfl hl1 (by decide)), if_pos hok, ix_nI (by omega)]; simp only [if_pos c4_1, if_pos c16_2, if_neg c23_3, if_pos c47_4]) rfl dX7_lineOf_52
      ·
        refine lv_aload_n hx hb dX7_lineOf_26 rfl (lv_at hl 0 rfl) ?_
        refine x_get (v := .ref (o 1)) (T := TX7) C w 0 0 rfl rfl (fun _ h => List.mem_cons_of_mem _ (List.mem_append_right _ (h))) (List.mem_of_getElem? (i := 3) rfl) (by decide) rfl dX7_lineOf_27 ?_
        refine lv_sipush (v := 128) hx hb dX7_lineOf_30 (by decide +kernel) ?_
        refine lv_iload_n hx hb dX7_lineOf_33 rfl (lv_at hl 1 rfl) ?_
        refine x_iaddN (i := 128) (j := l1) hx hb dX7_lineOf_34 ?_
        refine x_iald (v := G 2 l1) C w 1 0 (128 + l1) rfl ht0 rfl (by omega) (by decide) (fl_r2 _ (by omega)) dX7_lineOf_35 ?_
        exact x_iret C w (by unfold lofI; rw [if_pos (rg_nI (n := 8) (b := 8) rfl hl1 (by decide)), if_pos hok, ix_nI (by omega)]; simp only [if_pos c4_1, if_pos c16_2, if_pos c23_3]) rfl dX7_lineOf_36
    ·
      exact absurd hok c16_2
set_option maxHeartbeats 1000000 in
set_option maxRecDepth 100000 in
theorem k_X7_placeOf_no (l : Launch) (D : va_G) (cI cS : ClassId) (tys : List (ClassId × FieldType)) (ht0 : tys[0]? = some (cI, .int)) (o : Nat → Nat) (G : St) (K : Nat → Int32) (h : Nat → Int32) (hn : Int32) (T : Nat → Int32) (tn : Int32) (f : Nat → Int32) (a1 : Int32) (a2 : Int32) (hno : ¬ (rg a1 64 = true ∧ wth a2 0 3 = true)) : xI l yX7_placeOf wsX7_placeOf 2 D tys [.ref (o 0), .int a1, .int a2] (mR cI o (fl G) K h hn T tn f) (-1000001) (mR cI o (fl G) K h hn T tn f) := by
  refine x_inI (cc := cX7_placeOf) (maxL := 4) (ret := (some .int)) (by decide) rfl (Nat.le_of_ble_eq_true rfl) ?_
  intro p e s m args below meth c A ls C w hl
  have C : xC p s m meth c args cX7_placeOf 4 wsX7_placeOf RX7 D tys (some .int) := C
  have hx := C.1.1
  have hb := C.1.2.1
  have hts := C.1.2.2.2.2
  have hown := C.1.2.2.2.1
  have w : xW D A s.heap (mR cI o (fl G) K h hn T tn f) s.heap [] := w
  have hl : lv_has ls 4 [(0, .ref (o 0)), (1, .int a1), (2, .int a2)] := hl
  refine lv_iload_n hx hb dX7_placeOf_0 rfl (lv_at hl 1 rfl) ?_
  refine x_callSi (wr := mR cI o (fl G) K h hn T tn f) (w2 := mR cI o (fl G) K h hn T tn f) (rest := []) (n := 1) C w hl [.int a1] (k_X7_isPlace l D cI cS tys ht0 a1 ) gX7_placeOf_X7_isPlace rfl (by decide +kernel) ⟨Nat.le_of_ble_eq_true rfl, Nat.le_of_ble_eq_true rfl⟩ rfl rfl (Nat.le_of_ble_eq_true rfl) [] [0, 1, 2, 3, 4] (by decide) rfl rfl (by decide) (by decide) [0, 1, 2, 3, 4] (by decide) rfl ⟨Nat.zero_le _, Nat.zero_le _⟩ dX7_placeOf_1 (fun H locs w => ?_)
  refine x_ifB_eq (P := rg a1 64 = true) (tgt := 19) hx hb dX7_placeOf_4 (by decide) (fun c4_1 => ?_) (fun c4_1 => ?_)
  ·
    refine lv_ldc (v := -1000001) hx hb hown (hts _ (List.mem_of_getElem? (i := 2) rfl)) dX7_placeOf_19 ?_
    exact x_iret C w rfl rfl dX7_placeOf_21
  ·
    refine lv_iload_n hx hb dX7_placeOf_7 rfl (lv_at hl 2 rfl) ?_
    refine lv_i2l (v := Int32.toInt64 a2) hx hb dX7_placeOf_8 rfl ?_
    refine lv_lconst (v := 0) hx hb dX7_placeOf_9 (by decide +kernel) ?_
    refine lv_ldc2 (v := 3) hx hb hown (hts _ (List.mem_of_getElem? (i := 1) rfl)) dX7_placeOf_10 ?_
    refine x_callSi (wr := mR cI o (fl G) K h hn T tn f) (w2 := mR cI o (fl G) K h hn T tn f) (rest := []) (n := 3) C w hl [.long (Int32.toInt64 a2), .long 0, .long 3] (k_X7_in l D cI cS tys ht0 (Int32.toInt64 a2) 0 3 ) gX7_placeOf_X7_in rfl (by decide +kernel) ⟨Nat.le_of_ble_eq_true rfl, Nat.le_of_ble_eq_true rfl⟩ rfl rfl (Nat.le_of_ble_eq_true rfl) [] [0, 1, 2, 3, 4] (by decide) rfl rfl (by decide) (by decide) [0, 1, 2, 3, 4] (by decide) rfl ⟨Nat.zero_le _, Nat.zero_le _⟩ dX7_placeOf_13 (fun H locs w => ?_)
    refine x_top (y := bI (wth a2 0 3 = true)) (bI_c (lg_wth a2 0 3 (by decide) (by decide))) ?_
    refine x_ifB_ne (P := wth a2 0 3 = true) (tgt := 22) hx hb dX7_placeOf_16 (by decide) (fun c16_2 => ?_) (fun c16_2 => ?_)
    ·
      exact absurd ⟨c4_1, c16_2⟩ hno
    ·
      refine lv_ldc (v := -1000001) hx hb hown (hts _ (List.mem_of_getElem? (i := 2) rfl)) dX7_placeOf_19 ?_
      exact x_iret C w rfl rfl dX7_placeOf_21
set_option maxHeartbeats 1000000 in
set_option maxRecDepth 100000 in
theorem k_X7_placeOf_ok (l : Launch) (D : va_G) (cI cS : ClassId) (tys : List (ClassId × FieldType)) (ht0 : tys[0]? = some (cI, .int)) (o : Nat → Nat) (G : St) (K : Nat → Int32) (h : Nat → Int32) (hn : Int32) (T : Nat → Int32) (tn : Int32) (f : Nat → Int32) (pl : Nat) (a2 : Int32) (hp : pl < 64) (hok : wth a2 0 3 = true) (hI : Inv G) : xI l yX7_placeOf wsX7_placeOf 2 D tys [.ref (o 0), .int (nI pl), .int a2] (mR cI o (fl G) K h hn T tn f) (pofI G (nI pl) a2) (mR cI o (fl G) K h hn T tn f) := by
  refine x_inI (cc := cX7_placeOf) (maxL := 4) (ret := (some .int)) (by decide) rfl (Nat.le_of_ble_eq_true rfl) ?_
  intro p e s m args below meth c A ls C w hl
  have C : xC p s m meth c args cX7_placeOf 4 wsX7_placeOf RX7 D tys (some .int) := C
  have hx := C.1.1
  have hb := C.1.2.1
  have hts := C.1.2.2.2.2
  have hown := C.1.2.2.2.1
  have w : xW D A s.heap (mR cI o (fl G) K h hn T tn f) s.heap [] := w
  have hl : lv_has ls 4 [(0, .ref (o 0)), (1, .int (nI pl)), (2, .int a2)] := hl
  refine lv_iload_n hx hb dX7_placeOf_0 rfl (lv_at hl 1 rfl) ?_
  refine x_callSi (wr := mR cI o (fl G) K h hn T tn f) (w2 := mR cI o (fl G) K h hn T tn f) (rest := []) (n := 1) C w hl [.int (nI pl)] (k_X7_isPlace l D cI cS tys ht0 (nI pl) ) gX7_placeOf_X7_isPlace rfl (by decide +kernel) ⟨Nat.le_of_ble_eq_true rfl, Nat.le_of_ble_eq_true rfl⟩ rfl rfl (Nat.le_of_ble_eq_true rfl) [] [0, 1, 2, 3, 4] (by decide) rfl rfl (by decide) (by decide) [0, 1, 2, 3, 4] (by decide) rfl ⟨Nat.zero_le _, Nat.zero_le _⟩ dX7_placeOf_1 (fun H locs w => ?_)
  refine x_ifB_eq (P := rg (nI pl) 64 = true) (tgt := 19) hx hb dX7_placeOf_4 (by decide) (fun c4_1 => ?_) (fun c4_1 => ?_)
  ·
    exact absurd (rg_nI (n := 64) (b := 64) rfl hp (by decide)) c4_1
  ·
    refine lv_iload_n hx hb dX7_placeOf_7 rfl (lv_at hl 2 rfl) ?_
    refine lv_i2l (v := Int32.toInt64 a2) hx hb dX7_placeOf_8 rfl ?_
    refine lv_lconst (v := 0) hx hb dX7_placeOf_9 (by decide +kernel) ?_
    refine lv_ldc2 (v := 3) hx hb hown (hts _ (List.mem_of_getElem? (i := 1) rfl)) dX7_placeOf_10 ?_
    refine x_callSi (wr := mR cI o (fl G) K h hn T tn f) (w2 := mR cI o (fl G) K h hn T tn f) (rest := []) (n := 3) C w hl [.long (Int32.toInt64 a2), .long 0, .long 3] (k_X7_in l D cI cS tys ht0 (Int32.toInt64 a2) 0 3 ) gX7_placeOf_X7_in rfl (by decide +kernel) ⟨Nat.le_of_ble_eq_true rfl, Nat.le_of_ble_eq_true rfl⟩ rfl rfl (Nat.le_of_ble_eq_true rfl) [] [0, 1, 2, 3, 4] (by decide) rfl rfl (by decide) (by decide) [0, 1, 2, 3, 4] (by decide) rfl ⟨Nat.zero_le _, Nat.zero_le _⟩ dX7_placeOf_13 (fun H locs w => ?_)
    refine x_top (y := bI (wth a2 0 3 = true)) (bI_c (lg_wth a2 0 3 (by decide) (by decide))) ?_
    refine x_ifB_ne (P := wth a2 0 3 = true) (tgt := 22) hx hb dX7_placeOf_16 (by decide) (fun c16_2 => ?_) (fun c16_2 => ?_)
    ·
      refine lv_aload_n hx hb dX7_placeOf_22 rfl (lv_at hl 0 rfl) ?_
      refine lv_iload_n hx hb dX7_placeOf_23 rfl (lv_at hl 1 rfl) ?_
      refine x_callVi (wr := []) (w2 := mR cI o (fl G) K h hn T tn f) (rest := []) (n := 1) C w hl [.int (nI pl)] (k_X7_holder l D cI cS tys ht0 o G K h hn T tn f (nI pl) ) gX7_placeOf_X7_holder rfl (by decide +kernel) ⟨Nat.le_of_ble_eq_true rfl, Nat.le_of_ble_eq_true rfl⟩ 0 7 rfl rfl rfl rfl (Nat.le_of_ble_eq_true rfl) [0, 1, 2, 3, 4] [] (by decide) rfl rfl (by decide) (by decide) [0, 1, 2, 3, 4] (by decide) rfl ⟨Nat.zero_le _, Nat.zero_le _⟩ dX7_placeOf_24 (fun H locs w => ?_)
      rcases hld_cases G (nI pl) with eh | ⟨l0, hl0, eh, -, -⟩
      ·
        refine x_top (y := (-1)) eh ?_
        refine lv_istore_n (lv' := [(3, .int (-1)), (0, .ref (o 0)), (1, .int (nI pl)), (2, .int a2)]) hx hb dX7_placeOf_27 rfl hl (by decide) rfl (fun ls hl => ?_)
        refine lv_iload_n hx hb dX7_placeOf_28 rfl (lv_at hl 3 rfl) ?_
        by_cases c29_3 : a2 = (0 : Int32)
        ·
          refine x_top (y := 0) c29_3 ?_
          refine lv_tableIn (x := 0) (off := 27) (tgt := 56) hx hb dX7_placeOf_29 (by decide) (by decide) rfl (by decide) ?_
          refine lv_aload_n hx hb dX7_placeOf_56 rfl (lv_at hl 1 rfl) ?_
          refine x_get (v := .ref (o 1)) (T := TX7) C w 0 0 rfl rfl (fun _ h => List.mem_cons_of_mem _ (List.mem_append_right _ (h))) (List.mem_of_getElem? (i := 3) rfl) (by decide) rfl dX7_placeOf_57 ?_
          refine lv_iconst (v := 0) hx hb dX7_placeOf_60 (by decide +kernel) ?_
          refine lv_iload_n hx hb dX7_placeOf_61 rfl (lv_at hl 2 rfl) ?_
          refine x_iaddN (i := 0) (j := pl) hx hb dX7_placeOf_62 ?_
          refine x_iald (v := G 0 pl) C w 1 0 (0 + pl) rfl ht0 rfl (by omega) (by decide) (fl_r0 _ (by omega)) dX7_placeOf_63 ?_
          exact x_iret C w (by unfold pofI; rw [eh, if_pos (rg_nI (n := 64) (b := 64) rfl hp (by decide)), if_pos hok, ix_nI (n := pl) (by omega)]; simp only [if_pos c4_1, if_pos c16_2, if_pos c29_3] <;> first | done | (rw [if_neg (rg_m1 8)]) | (rw [if_neg (rg_m1 8)])) rfl dX7_placeOf_64
        ·
          by_cases c29_4 : a2 = (1 : Int32)
          ·
            refine x_top (y := 1) c29_4 ?_
            refine lv_tableIn (x := 1) (off := 36) (tgt := 65) hx hb dX7_placeOf_29 (by decide) (by decide) rfl (by decide) ?_
            refine lv_iload_n hx hb dX7_placeOf_65 rfl (lv_at hl 0 rfl) ?_
            refine lv_iconst (v := -1) hx hb dX7_placeOf_66 (by decide +kernel) ?_
            refine x_icR_ne (x := (-1)) (y := (-1)) (tgt := 81) hx hb dX7_placeOf_67 (by decide) (fun h => absurd h (by decide)) (fun _ => ?_)
            refine lv_aload_n hx hb dX7_placeOf_70 rfl (lv_at hl 1 rfl) ?_
            refine x_get (v := .ref (o 1)) (T := TX7) C w 0 0 rfl rfl (fun _ h => List.mem_cons_of_mem _ (List.mem_append_right _ (h))) (List.mem_of_getElem? (i := 3) rfl) (by decide) rfl dX7_placeOf_71 ?_
            refine lv_iconst (v := 0) hx hb dX7_placeOf_74 (by decide +kernel) ?_
            refine lv_iload_n hx hb dX7_placeOf_75 rfl (lv_at hl 2 rfl) ?_
            refine x_iaddN (i := 0) (j := pl) hx hb dX7_placeOf_76 ?_
            refine x_iald (v := G 0 pl) C w 1 0 (0 + pl) rfl ht0 rfl (by omega) (by decide) (fl_r0 _ (by omega)) dX7_placeOf_77 ?_
            refine lv_goto (tgt := 91) hx hb dX7_placeOf_78 (by decide) ?_
            exact x_iret C w (by unfold pofI; rw [eh, if_pos (rg_nI (n := 64) (b := 64) rfl hp (by decide)), if_pos hok, ix_nI (n := pl) (by omega)]; simp only [if_pos c4_1, if_pos c16_2, if_neg c29_3, if_pos c29_4] <;> first | done | (rw [if_neg (rg_m1 8)]) | (rw [if_neg (rg_m1 8)])) rfl dX7_placeOf_91
          ·
            by_cases c29_6 : a2 = (2 : Int32)
            ·
              refine x_top (y := 2) c29_6 ?_
              refine lv_tableIn (x := 2) (off := 63) (tgt := 92) hx hb dX7_placeOf_29 (by decide) (by decide) rfl (by decide) ?_
              refine lv_iload_n hx hb dX7_placeOf_92 rfl (lv_at hl 0 rfl) ?_
              refine lv_iconst (v := -1) hx hb dX7_placeOf_93 (by decide +kernel) ?_
              refine x_icR_ne (x := (-1)) (y := (-1)) (tgt := 102) hx hb dX7_placeOf_94 (by decide) (fun h => absurd h (by decide)) (fun _ => ?_)
              refine lv_ldc (v := -1000004) hx hb hown (hts _ (List.mem_of_getElem? (i := 4) rfl)) dX7_placeOf_97 ?_
              refine lv_goto (tgt := 103) hx hb dX7_placeOf_99 (by decide) ?_
              exact x_iret C w (by unfold pofI; rw [eh, if_pos (rg_nI (n := 64) (b := 64) rfl hp (by decide)), if_pos hok, ix_nI (n := pl) (by omega)]; simp only [if_pos c4_1, if_pos c16_2, if_neg c29_3, if_neg c29_4, if_pos c29_6] <;> first | done | (rw [if_neg (rg_m1 8)]) | (rw [if_neg (rg_m1 8)])) rfl dX7_placeOf_103
            ·
              refine lv_tableOut (x := a2) (tgt := 104) hx hb dX7_placeOf_29 (by have z0 := lv_neT (a := 0) c29_3 (by decide); have z1 := lv_neT (a := 1) c29_4 (by decide); have z2 := lv_neT (a := 2) c29_6 (by decide); omega) (by decide) ?_
              refine lv_aload_n hx hb dX7_placeOf_104 rfl (lv_at hl 1 rfl) ?_
              refine x_get (v := .ref (o 1)) (T := TX7) C w 0 0 rfl rfl (fun _ h => List.mem_cons_of_mem _ (List.mem_append_right _ (h))) (List.mem_of_getElem? (i := 3) rfl) (by decide) rfl dX7_placeOf_105 ?_
              refine lv_bipush (v := 64) hx hb dX7_placeOf_108 (by decide +kernel) ?_
              refine lv_iload_n hx hb dX7_placeOf_110 rfl (lv_at hl 2 rfl) ?_
              refine x_iaddN (i := 64) (j := pl) hx hb dX7_placeOf_111 ?_
              refine x_iald (v := G 1 pl) C w 1 0 (64 + pl) rfl ht0 rfl (by omega) (by decide) (fl_r1 _ (by omega)) dX7_placeOf_112 ?_
              exact x_iret C w (by unfold pofI; rw [eh, if_pos (rg_nI (n := 64) (b := 64) rfl hp (by decide)), if_pos hok, ix_nI (n := pl) (by omega)]; simp only [if_pos c4_1, if_pos c16_2, if_neg c29_3, if_neg c29_4, if_neg c29_6] <;> first | done | (rw [if_neg (rg_m1 8)]) | (rw [if_neg (rg_m1 8)])) rfl dX7_placeOf_113
      ·
        refine x_top (y := nI l0) eh ?_
        refine lv_istore_n (lv' := [(3, .int (nI l0)), (0, .ref (o 0)), (1, .int (nI pl)), (2, .int a2)]) hx hb dX7_placeOf_27 rfl hl (by decide) rfl (fun ls hl => ?_)
        refine lv_iload_n hx hb dX7_placeOf_28 rfl (lv_at hl 3 rfl) ?_
        by_cases c29_8 : a2 = (0 : Int32)
        ·
          refine x_top (y := 0) c29_8 ?_
          refine lv_tableIn (x := 0) (off := 27) (tgt := 56) hx hb dX7_placeOf_29 (by decide) (by decide) rfl (by decide) ?_
          refine lv_aload_n hx hb dX7_placeOf_56 rfl (lv_at hl 1 rfl) ?_
          refine x_get (v := .ref (o 1)) (T := TX7) C w 0 0 rfl rfl (fun _ h => List.mem_cons_of_mem _ (List.mem_append_right _ (h))) (List.mem_of_getElem? (i := 3) rfl) (by decide) rfl dX7_placeOf_57 ?_
          refine lv_iconst (v := 0) hx hb dX7_placeOf_60 (by decide +kernel) ?_
          refine lv_iload_n hx hb dX7_placeOf_61 rfl (lv_at hl 2 rfl) ?_
          refine x_iaddN (i := 0) (j := pl) hx hb dX7_placeOf_62 ?_
          refine x_iald (v := G 0 pl) C w 1 0 (0 + pl) rfl ht0 rfl (by omega) (by decide) (fl_r0 _ (by omega)) dX7_placeOf_63 ?_
          exact x_iret C w (by unfold pofI; rw [eh, if_pos (rg_nI (n := 64) (b := 64) rfl hp (by decide)), if_pos hok, ix_nI (n := pl) (by omega)]; simp only [if_pos c4_1, if_pos c16_2, if_pos c29_8] <;> first | done | (rw [if_pos (rg_nI (n := 8) (b := 8) rfl hl0 (by decide)), ix_nI (n := l0) (by omega)]) | (rw [if_pos (rg_nI (n := 8) (b := 8) rfl hl0 (by decide))])) rfl dX7_placeOf_64
        ·
          by_cases c29_9 : a2 = (1 : Int32)
          ·
            refine x_top (y := 1) c29_9 ?_
            refine lv_tableIn (x := 1) (off := 36) (tgt := 65) hx hb dX7_placeOf_29 (by decide) (by decide) rfl (by decide) ?_
            refine lv_iload_n hx hb dX7_placeOf_65 rfl (lv_at hl 0 rfl) ?_
            refine lv_iconst (v := -1) hx hb dX7_placeOf_66 (by decide +kernel) ?_
            refine x_icR_ne (x := nI l0) (y := (-1)) (tgt := 81) hx hb dX7_placeOf_67 (by decide) (fun c67_10 => ?_) (fun c67_10 => ?_)
            ·
              refine lv_aload_n hx hb dX7_placeOf_81 rfl (lv_at hl 1 rfl) ?_
              refine x_get (v := .ref (o 1)) (T := TX7) C w 0 0 rfl rfl (fun _ h => List.mem_cons_of_mem _ (List.mem_append_right _ (h))) (List.mem_of_getElem? (i := 3) rfl) (by decide) rfl dX7_placeOf_82 ?_
              refine lv_sipush (v := 144) hx hb dX7_placeOf_85 (by decide +kernel) ?_
              refine lv_iload_n hx hb dX7_placeOf_88 rfl (lv_at hl 0 rfl) ?_
              refine x_iaddN (i := 144) (j := l0) hx hb dX7_placeOf_89 ?_
              refine x_iald (v := G 4 l0) C w 1 0 (144 + l0) rfl ht0 rfl (by omega) (by decide) (fl_r4 _ (by omega)) dX7_placeOf_90 ?_
              exact x_iret C w (by unfold pofI; rw [eh, if_pos (rg_nI (n := 64) (b := 64) rfl hp (by decide)), if_pos hok, ix_nI (n := pl) (by omega)]; simp only [if_pos c4_1, if_pos c16_2, if_neg c29_8, if_pos c29_9, if_neg c67_10] <;> first | done | (rw [if_pos (rg_nI (n := 8) (b := 8) rfl hl0 (by decide)), ix_nI (n := l0) (by omega)]) | (rw [if_pos (rg_nI (n := 8) (b := 8) rfl hl0 (by decide))])) rfl dX7_placeOf_91
            ·
              exact absurd c67_10 (nI_nm1 (by omega))
          ·
            by_cases c29_11 : a2 = (2 : Int32)
            ·
              refine x_top (y := 2) c29_11 ?_
              refine lv_tableIn (x := 2) (off := 63) (tgt := 92) hx hb dX7_placeOf_29 (by decide) (by decide) rfl (by decide) ?_
              refine lv_iload_n hx hb dX7_placeOf_92 rfl (lv_at hl 0 rfl) ?_
              refine lv_iconst (v := -1) hx hb dX7_placeOf_93 (by decide +kernel) ?_
              refine x_icR_ne (x := nI l0) (y := (-1)) (tgt := 102) hx hb dX7_placeOf_94 (by decide) (fun c94_12 => ?_) (fun c94_12 => ?_)
              ·
                refine lv_iload_n hx hb dX7_placeOf_102 rfl (lv_at hl 0 rfl) ?_
                exact x_iret C w (by unfold pofI; rw [eh, if_pos (rg_nI (n := 64) (b := 64) rfl hp (by decide)), if_pos hok, ix_nI (n := pl) (by omega)]; simp only [if_pos c4_1, if_pos c16_2, if_neg c29_8, if_neg c29_9, if_pos c29_11, if_neg c94_12] <;> first | done | (rw [if_pos (rg_nI (n := 8) (b := 8) rfl hl0 (by decide)), ix_nI (n := l0) (by omega)]) | (rw [if_pos (rg_nI (n := 8) (b := 8) rfl hl0 (by decide))])) rfl dX7_placeOf_103
              ·
                exact absurd c94_12 (nI_nm1 (by omega))
            ·
              refine lv_tableOut (x := a2) (tgt := 104) hx hb dX7_placeOf_29 (by have z0 := lv_neT (a := 0) c29_8 (by decide); have z1 := lv_neT (a := 1) c29_9 (by decide); have z2 := lv_neT (a := 2) c29_11 (by decide); omega) (by decide) ?_
              refine lv_aload_n hx hb dX7_placeOf_104 rfl (lv_at hl 1 rfl) ?_
              refine x_get (v := .ref (o 1)) (T := TX7) C w 0 0 rfl rfl (fun _ h => List.mem_cons_of_mem _ (List.mem_append_right _ (h))) (List.mem_of_getElem? (i := 3) rfl) (by decide) rfl dX7_placeOf_105 ?_
              refine lv_bipush (v := 64) hx hb dX7_placeOf_108 (by decide +kernel) ?_
              refine lv_iload_n hx hb dX7_placeOf_110 rfl (lv_at hl 2 rfl) ?_
              refine x_iaddN (i := 64) (j := pl) hx hb dX7_placeOf_111 ?_
              refine x_iald (v := G 1 pl) C w 1 0 (64 + pl) rfl ht0 rfl (by omega) (by decide) (fl_r1 _ (by omega)) dX7_placeOf_112 ?_
              exact x_iret C w (by unfold pofI; rw [eh, if_pos (rg_nI (n := 64) (b := 64) rfl hp (by decide)), if_pos hok, ix_nI (n := pl) (by omega)]; simp only [if_pos c4_1, if_pos c16_2, if_neg c29_8, if_neg c29_9, if_neg c29_11] <;> first | done | (rw [if_pos (rg_nI (n := 8) (b := 8) rfl hl0 (by decide)), ix_nI (n := l0) (by omega)]) | (rw [if_pos (rg_nI (n := 8) (b := 8) rfl hl0 (by decide))])) rfl dX7_placeOf_113
    ·
      exact absurd hok c16_2
set_option maxHeartbeats 1000000 in
set_option maxRecDepth 100000 in
theorem k_X7_battery (l : Launch) (D : va_G) (cI cS : ClassId) (tys : List (ClassId × FieldType)) (ht0 : tys[0]? = some (cI, .int)) (o : Nat → Nat) (G : St) (K : Nat → Int32) (h : Nat → Int32) (hn : Int32) (T : Nat → Int32) (tn : Int32) (f : Nat → Int32) (a1 : Int32) (hI : Inv G) : xI l yX7_battery wsX7_battery 2 D tys [.ref (o 0), .int a1] (mR cI o (fl G) K h hn T tn f) (batI G a1) (mR cI o (fl G) K h hn T tn f) := by
  refine x_inI (cc := cX7_battery) (maxL := 2) (ret := (some .int)) (by decide) rfl (Nat.le_of_ble_eq_true rfl) ?_
  intro p e s m args below meth c A ls C w hl
  have C : xC p s m meth c args cX7_battery 2 wsX7_battery RX7 D tys (some .int) := C
  have hx := C.1.1
  have hb := C.1.2.1
  have hts := C.1.2.2.2.2
  have hown := C.1.2.2.2.1
  have w : xW D A s.heap (mR cI o (fl G) K h hn T tn f) s.heap [] := w
  have hl : lv_has ls 2 [(0, .ref (o 0)), (1, .int a1)] := hl
  refine lv_iload_n hx hb dX7_battery_0 rfl (lv_at hl 1 rfl) ?_
  by_cases c1_1 : a1 = (0 : Int32)
  ·
    refine x_top (y := 0) c1_1 ?_
    refine lv_tableIn (x := 0) (off := 39) (tgt := 40) hx hb dX7_battery_1 (by decide) (by decide) rfl (by decide) ?_
    refine lv_aload_n hx hb dX7_battery_40 rfl (lv_at hl 0 rfl) ?_
    refine x_get (v := .ref (o 1)) (T := TX7) C w 0 0 rfl rfl (fun _ h => List.mem_cons_of_mem _ (List.mem_append_right _ (h))) (List.mem_of_getElem? (i := 1) rfl) (by decide) rfl dX7_battery_41 ?_
    refine lv_sipush (v := 160) hx hb dX7_battery_44 (by decide +kernel) ?_
    refine x_iald (v := G 6 0) C w 1 0 (160) rfl ht0 rfl (by omega) (by decide) rfl dX7_battery_47 ?_
    exact x_iret C w (by unfold batI; simp only [if_pos c1_1]) rfl dX7_battery_48
  ·
    by_cases c1_2 : a1 = (1 : Int32)
    ·
      refine x_top (y := 1) c1_2 ?_
      refine lv_tableIn (x := 1) (off := 48) (tgt := 49) hx hb dX7_battery_1 (by decide) (by decide) rfl (by decide) ?_
      refine lv_aload_n hx hb dX7_battery_49 rfl (lv_at hl 0 rfl) ?_
      refine x_callVi (wr := []) (w2 := mR cI o (fl G) K h hn T tn f) (rest := []) (n := 0) C w hl [] (k_X7_capacity l D cI cS tys ht0 o G K h hn T tn f ) gX7_battery_X7_capacity rfl (by decide +kernel) ⟨Nat.le_of_ble_eq_true rfl, Nat.le_of_ble_eq_true rfl⟩ 0 7 rfl rfl rfl rfl (Nat.le_of_ble_eq_true rfl) [0, 1, 2, 3, 4] [] (by decide) rfl rfl (by decide) (by decide) [0, 1, 2, 3, 4] (by decide) rfl ⟨Nat.zero_le _, Nat.zero_le _⟩ dX7_battery_50 (fun H locs w => ?_)
      exact x_iret C w (by unfold batI; simp only [if_neg c1_1, if_pos c1_2]) rfl dX7_battery_53
    ·
      by_cases c1_3 : a1 = (2 : Int32)
      ·
        refine x_top (y := 2) c1_3 ?_
        refine lv_tableIn (x := 2) (off := 53) (tgt := 54) hx hb dX7_battery_1 (by decide) (by decide) rfl (by decide) ?_
        refine lv_aload_n hx hb dX7_battery_54 rfl (lv_at hl 0 rfl) ?_
        refine x_get (v := .ref (o 1)) (T := TX7) C w 0 0 rfl rfl (fun _ h => List.mem_cons_of_mem _ (List.mem_append_right _ (h))) (List.mem_of_getElem? (i := 1) rfl) (by decide) rfl dX7_battery_55 ?_
        refine lv_sipush (v := 161) hx hb dX7_battery_58 (by decide +kernel) ?_
        refine x_iald (v := G 6 1) C w 1 0 (161) rfl ht0 rfl (by omega) (by decide) rfl dX7_battery_61 ?_
        exact x_iret C w (by unfold batI; simp only [if_neg c1_1, if_neg c1_2, if_pos c1_3]) rfl dX7_battery_62
      ·
        by_cases c1_4 : a1 = (3 : Int32)
        ·
          refine x_top (y := 3) c1_4 ?_
          refine lv_tableIn (x := 3) (off := 62) (tgt := 63) hx hb dX7_battery_1 (by decide) (by decide) rfl (by decide) ?_
          refine lv_aload_n hx hb dX7_battery_63 rfl (lv_at hl 0 rfl) ?_
          refine x_callVi (wr := []) (w2 := mR cI o (fl G) K h hn T tn f) (rest := []) (n := 0) C w hl [] (k_X7_allowance l D cI cS tys ht0 o G K h hn T tn f hI) gX7_battery_X7_allowance rfl (by decide +kernel) ⟨Nat.le_of_ble_eq_true rfl, Nat.le_of_ble_eq_true rfl⟩ 0 7 rfl rfl rfl rfl (Nat.le_of_ble_eq_true rfl) [0, 1, 2, 3, 4] [] (by decide) rfl rfl (by decide) (by decide) [0, 1, 2, 3, 4] (by decide) rfl ⟨Nat.zero_le _, Nat.zero_le _⟩ dX7_battery_64 (fun H locs w => ?_)
          exact x_iret C w (by unfold batI; simp only [if_neg c1_1, if_neg c1_2, if_neg c1_3, if_pos c1_4]) rfl dX7_battery_67
        ·
          by_cases c1_5 : a1 = (4 : Int32)
          ·
            refine x_top (y := 4) c1_5 ?_
            refine lv_tableIn (x := 4) (off := 67) (tgt := 68) hx hb dX7_battery_1 (by decide) (by decide) rfl (by decide) ?_
            refine lv_aload_n hx hb dX7_battery_68 rfl (lv_at hl 0 rfl) ?_
            refine x_get (v := .ref (o 1)) (T := TX7) C w 0 0 rfl rfl (fun _ h => List.mem_cons_of_mem _ (List.mem_append_right _ (h))) (List.mem_of_getElem? (i := 1) rfl) (by decide) rfl dX7_battery_69 ?_
            refine lv_sipush (v := 162) hx hb dX7_battery_72 (by decide +kernel) ?_
            refine x_iald (v := G 6 2) C w 1 0 (162) rfl ht0 rfl (by omega) (by decide) rfl dX7_battery_75 ?_
            exact x_iret C w (by unfold batI; simp only [if_neg c1_1, if_neg c1_2, if_neg c1_3, if_neg c1_4, if_pos c1_5]) rfl dX7_battery_76
          ·
            by_cases c1_6 : a1 = (5 : Int32)
            ·
              refine x_top (y := 5) c1_6 ?_
              refine lv_tableIn (x := 5) (off := 76) (tgt := 77) hx hb dX7_battery_1 (by decide) (by decide) rfl (by decide) ?_
              refine lv_aload_n hx hb dX7_battery_77 rfl (lv_at hl 0 rfl) ?_
              refine x_callVi (wr := []) (w2 := mR cI o (fl G) K h hn T tn f) (rest := []) (n := 0) C w hl [] (k_X7_saved l D cI cS tys ht0 o G K h hn T tn f hI) gX7_battery_X7_saved rfl (by decide +kernel) ⟨Nat.le_of_ble_eq_true rfl, Nat.le_of_ble_eq_true rfl⟩ 0 7 rfl rfl rfl rfl (Nat.le_of_ble_eq_true rfl) [0, 1, 2, 3, 4] [] (by decide) rfl rfl (by decide) (by decide) [0, 1, 2, 3, 4] (by decide) rfl ⟨Nat.zero_le _, Nat.zero_le _⟩ dX7_battery_78 (fun H locs w => ?_)
              exact x_iret C w (by unfold batI; simp only [if_neg c1_1, if_neg c1_2, if_neg c1_3, if_neg c1_4, if_neg c1_5, if_pos c1_6]) rfl dX7_battery_81
            ·
              refine lv_tableOut (x := a1) (tgt := 82) hx hb dX7_battery_1 (by have z0 := lv_neT (a := 0) c1_1 (by decide); have z1 := lv_neT (a := 1) c1_2 (by decide); have z2 := lv_neT (a := 2) c1_3 (by decide); have z3 := lv_neT (a := 3) c1_4 (by decide); have z4 := lv_neT (a := 4) c1_5 (by decide); have z5 := lv_neT (a := 5) c1_6 (by decide); omega) (by decide) ?_
              refine lv_ldc (v := -1000001) hx hb hown (hts _ (List.mem_of_getElem? (i := 2) rfl)) dX7_battery_82 ?_
              exact x_iret C w (by unfold batI; simp only [if_neg c1_1, if_neg c1_2, if_neg c1_3, if_neg c1_4, if_neg c1_5, if_neg c1_6]) rfl dX7_battery_84
set_option maxHeartbeats 1000000 in
set_option maxRecDepth 100000 in
theorem k_X7_losable (l : Launch) (D : va_G) (cI cS : ClassId) (tys : List (ClassId × FieldType)) (ht0 : tys[0]? = some (cI, .int)) (o : Nat → Nat) (G : St) (K : Nat → Int32) (h : Nat → Int32) (hn : Int32) (T : Nat → Int32) (tn : Int32) (f : Nat → Int32) (hI : Inv G) : xI l yX7_losable wsX7_losable 2 D tys [.ref (o 0)] (mR cI o (fl G) K h hn T tn f) (losI G) (mR cI o (fl G) K h hn T tn f) := by
  refine x_inI (cc := cX7_losable) (maxL := 3) (ret := (some .int)) (by decide) rfl (Nat.le_of_ble_eq_true rfl) ?_
  intro p e s m args below meth c A ls C w hl
  have C : xC p s m meth c args cX7_losable 3 wsX7_losable RX7 D tys (some .int) := C
  have hx := C.1.1
  have hb := C.1.2.1
  have hts := C.1.2.2.2.2
  have hown := C.1.2.2.2.1
  have w : xW D A s.heap (mR cI o (fl G) K h hn T tn f) s.heap [] := w
  have hl : lv_has ls 3 [(0, .ref (o 0))] := hl
  refine lv_iconst (v := 0) hx hb dX7_losable_0 (by decide +kernel) ?_
  refine lv_istore_n (lv' := [(1, .int 0), (0, .ref (o 0))]) hx hb dX7_losable_1 rfl hl (by decide) rfl (fun ls hl => ?_)
  refine lv_iconst (v := 0) hx hb dX7_losable_2 (by decide +kernel) ?_
  refine lv_istore_n (lv' := [(2, .int 0), (1, .int 0), (0, .ref (o 0))]) hx hb dX7_losable_3 rfl hl (by decide) rfl (fun ls hl => ?_)
  have loop_4 : ∀ (n : Nat) (i : Nat), 8 - i < n → (i ≤ 8) → ∀ (H : Heap) (locs : List Loc), xW D A s.heap (mR cI o (fl G) K h hn T tn f) H locs → ∀ ls : Array Slot, lv_has ls 3 [(2, .int (nI i)), (1, .int (setP (fun j => G 2 j = 2 ∧ ¬ lahI G (nI j) 2 < sbcI G) i)), (0, .ref (o 0))] → W p l e (rmd 2) s m args below meth c H locs 0 0 (MQ below (xQi D tys (losI G) (mR cI o (fl G) K h hn T tn f) A) args s 0 0 A) (F0 m 4 ls []) := by
    intro n
    induction n with
    | zero => intro i hm; exact absurd hm (Nat.not_lt_zero _)
    | succ n ih =>
      intro i hm hi H locs w ls hl
      refine lv_iload_n hx hb dX7_losable_4 rfl (lv_at hl 0 rfl) ?_
      refine lv_bipush (v := 8) hx hb dX7_losable_5 (by decide +kernel) ?_
      refine x_icN_ge (i := i) (j := 8) (tgt := 52) hx hb (by omega) (by omega) dX7_losable_7 (by decide) (fun c7_1 => ?_) (fun c7_1 => ?_)
      ·
        have hE : i = 8 := (by omega)
        refine lv_iload_n hx hb dX7_losable_52 rfl (lv_at hl 1 rfl) ?_
        exact x_iret C w (by rw [hE]; rfl) rfl dX7_losable_53
      ·
        refine lv_iload_n hx hb dX7_losable_10 rfl (lv_at hl 1 rfl) ?_
        refine lv_aload_n hx hb dX7_losable_11 rfl (lv_at hl 2 rfl) ?_
        refine x_get (v := .ref (o 1)) (T := TX7) C w 0 0 rfl rfl (fun _ h => List.mem_cons_of_mem _ (List.mem_append_right _ (h))) (List.mem_of_getElem? (i := 1) rfl) (by decide) rfl dX7_losable_12 ?_
        refine lv_sipush (v := 128) hx hb dX7_losable_15 (by decide +kernel) ?_
        refine lv_iload_n hx hb dX7_losable_18 rfl (lv_at hl 0 rfl) ?_
        refine x_iaddN (i := 128) (j := i) hx hb dX7_losable_19 ?_
        refine x_iald (v := G 2 i) C w 1 0 (128 + i) rfl ht0 rfl (by omega) (by decide) (fl_r2 _ (by omega)) dX7_losable_20 ?_
        refine lv_iconst (v := 2) hx hb dX7_losable_21 (by decide +kernel) ?_
        refine x_icR_ne (x := G 2 i) (y := 2) (tgt := 43) hx hb dX7_losable_22 (by decide) (fun c22_2 => ?_) (fun c22_2 => ?_)
        ·
          refine lv_iconst (v := 0) hx hb dX7_losable_43 (by decide +kernel) ?_
          refine lv_ior (x := setP (fun j => G 2 j = 2 ∧ ¬ lahI G (nI j) 2 < sbcI G) i) (y := 0) hx hb dX7_losable_44 ?_
          refine lv_istore_n (lv' := [(1, .int ((setP (fun j => G 2 j = 2 ∧ ¬ lahI G (nI j) 2 < sbcI G) i) ||| 0)), (2, .int (nI i)), (0, .ref (o 0))]) hx hb dX7_losable_45 rfl hl (by decide) rfl (fun ls hl => ?_)
          refine lv_iinc (v := nI (i + 1)) (lv' := [(2, .int (nI (i + 1))), (1, .int ((setP (fun j => G 2 j = 2 ∧ ¬ lahI G (nI j) 2 < sbcI G) i) ||| 0)), (0, .ref (o 0))]) hx hb dX7_losable_46 hl (k := 1) rfl (nI_add i 1) (by decide) rfl (fun ls hl => ?_)
          refine lv_goto (tgt := 4) hx hb dX7_losable_49 (by decide) ?_
          have q3 : ((setP (fun j => G 2 j = 2 ∧ ¬ lahI G (nI j) 2 < sbcI G) i) ||| 0) = (setP (fun j => G 2 j = 2 ∧ ¬ lahI G (nI j) 2 < sbcI G) (i + 1) : Int32) := (by first | (rw [setP, if_pos ⟨c22_2, hx⟩]; done) | (rw [setP, if_neg (fun z => z.2 hx), or0]; done) | (rw [setP, if_neg (fun z => c22_2 z.1), or0]; done))
          have hl : lv_has ls 3 [(2, .int (nI (i + 1))), (1, .int (setP (fun j => G 2 j = 2 ∧ ¬ lahI G (nI j) 2 < sbcI G) (i + 1))), (0, .ref (o 0))] := lv_eqL (lv_sub (l' := [(2, .int (nI (i + 1))), (1, .int ((setP (fun j => G 2 j = 2 ∧ ¬ lahI G (nI j) 2 < sbcI G) i) ||| 0)), (0, .ref (o 0))]) hl [0, 1, 2] rfl) (cg2 List.cons rfl (cg2 List.cons (congrArg (fun z => ((1 : Nat), Value.int z)) q3) (cg2 List.cons rfl rfl)))
          exact ih (i + 1) (by omega) (by omega) _ _ w _ hl
        ·
          refine lv_aload_n hx hb dX7_losable_25 rfl (lv_at hl 2 rfl) ?_
          refine lv_iload_n hx hb dX7_losable_26 rfl (lv_at hl 0 rfl) ?_
          refine x_callVi (wr := []) (w2 := mR cI o (fl G) K h hn T tn f) (rest := [.int (setP (fun j => G 2 j = 2 ∧ ¬ lahI G (nI j) 2 < sbcI G) i)]) (n := 1) C w hl [.int (nI i)] (k_X7_dirtyBefore l D cI cS tys ht0 o G K h hn T tn f i (by omega)) gX7_losable_X7_dirtyBefore rfl (by decide +kernel) ⟨Nat.le_of_ble_eq_true rfl, Nat.le_of_ble_eq_true rfl⟩ 0 7 rfl rfl rfl rfl (Nat.le_of_ble_eq_true rfl) [0, 1, 2, 3, 4] [] (by decide) rfl rfl (by decide) (by decide) [0, 1, 2, 3, 4] (by decide) rfl ⟨Nat.zero_le _, Nat.zero_le _⟩ dX7_losable_27 (fun H locs w => ?_)
          refine x_top (y := (lahI G (nI i) 2)) (lah_2 hI (by omega)) ?_
          refine lv_aload_n hx hb dX7_losable_30 rfl (lv_at hl 2 rfl) ?_
          refine x_callVi (wr := []) (w2 := mR cI o (fl G) K h hn T tn f) (rest := [.int (lahI G (nI i) 2), .int (setP (fun j => G 2 j = 2 ∧ ¬ lahI G (nI j) 2 < sbcI G) i)]) (n := 0) C w hl [] (k_X7_saved l D cI cS tys ht0 o G K h hn T tn f hI) gX7_losable_X7_saved rfl (by decide +kernel) ⟨Nat.le_of_ble_eq_true rfl, Nat.le_of_ble_eq_true rfl⟩ 0 7 rfl rfl rfl rfl (Nat.le_of_ble_eq_true rfl) [0, 1, 2, 3, 4] [] (by decide) rfl rfl (by decide) (by decide) [0, 1, 2, 3, 4] (by decide) rfl ⟨Nat.zero_le _, Nat.zero_le _⟩ dX7_losable_31 (fun H locs w => ?_)
          refine x_icR_lt (x := (lahI G (nI i) 2)) (y := sbcI G) (tgt := 43) hx hb dX7_losable_34 (by decide) (fun c34_4 => ?_) (fun c34_4 => ?_)
          ·
            refine lv_iconst (v := 0) hx hb dX7_losable_43 (by decide +kernel) ?_
            refine lv_ior (x := setP (fun j => G 2 j = 2 ∧ ¬ lahI G (nI j) 2 < sbcI G) i) (y := 0) hx hb dX7_losable_44 ?_
            refine lv_istore_n (lv' := [(1, .int ((setP (fun j => G 2 j = 2 ∧ ¬ lahI G (nI j) 2 < sbcI G) i) ||| 0)), (2, .int (nI i)), (0, .ref (o 0))]) hx hb dX7_losable_45 rfl hl (by decide) rfl (fun ls hl => ?_)
            refine lv_iinc (v := nI (i + 1)) (lv' := [(2, .int (nI (i + 1))), (1, .int ((setP (fun j => G 2 j = 2 ∧ ¬ lahI G (nI j) 2 < sbcI G) i) ||| 0)), (0, .ref (o 0))]) hx hb dX7_losable_46 hl (k := 1) rfl (nI_add i 1) (by decide) rfl (fun ls hl => ?_)
            refine lv_goto (tgt := 4) hx hb dX7_losable_49 (by decide) ?_
            have q5 : ((setP (fun j => G 2 j = 2 ∧ ¬ lahI G (nI j) 2 < sbcI G) i) ||| 0) = (setP (fun j => G 2 j = 2 ∧ ¬ lahI G (nI j) 2 < sbcI G) (i + 1) : Int32) := (by first | (rw [setP, if_pos ⟨c22_2, c34_4⟩]; done) | (rw [setP, if_neg (fun z => z.2 c34_4), or0]; done) | (rw [setP, if_neg (fun z => c22_2 z.1), or0]; done))
            have hl : lv_has ls 3 [(2, .int (nI (i + 1))), (1, .int (setP (fun j => G 2 j = 2 ∧ ¬ lahI G (nI j) 2 < sbcI G) (i + 1))), (0, .ref (o 0))] := lv_eqL (lv_sub (l' := [(2, .int (nI (i + 1))), (1, .int ((setP (fun j => G 2 j = 2 ∧ ¬ lahI G (nI j) 2 < sbcI G) i) ||| 0)), (0, .ref (o 0))]) hl [0, 1, 2] rfl) (cg2 List.cons rfl (cg2 List.cons (congrArg (fun z => ((1 : Nat), Value.int z)) q5) (cg2 List.cons rfl rfl)))
            exact ih (i + 1) (by omega) (by omega) _ _ w _ hl
          ·
            refine lv_iconst (v := 1) hx hb dX7_losable_37 (by decide +kernel) ?_
            refine lv_iload_n hx hb dX7_losable_38 rfl (lv_at hl 0 rfl) ?_
            refine lv_ishl (x := 1) (y := nI i) hx hb dX7_losable_39 ?_
            refine lv_goto (tgt := 44) hx hb dX7_losable_40 (by decide) ?_
            refine lv_ior (x := setP (fun j => G 2 j = 2 ∧ ¬ lahI G (nI j) 2 < sbcI G) i) (y := (1 <<< ((nI i) &&& 31))) hx hb dX7_losable_44 ?_
            refine lv_istore_n (lv' := [(1, .int ((setP (fun j => G 2 j = 2 ∧ ¬ lahI G (nI j) 2 < sbcI G) i) ||| (1 <<< ((nI i) &&& 31)))), (2, .int (nI i)), (0, .ref (o 0))]) hx hb dX7_losable_45 rfl hl (by decide) rfl (fun ls hl => ?_)
            refine lv_iinc (v := nI (i + 1)) (lv' := [(2, .int (nI (i + 1))), (1, .int ((setP (fun j => G 2 j = 2 ∧ ¬ lahI G (nI j) 2 < sbcI G) i) ||| (1 <<< ((nI i) &&& 31)))), (0, .ref (o 0))]) hx hb dX7_losable_46 hl (k := 1) rfl (nI_add i 1) (by decide) rfl (fun ls hl => ?_)
            refine lv_goto (tgt := 4) hx hb dX7_losable_49 (by decide) ?_
            have q6 : ((setP (fun j => G 2 j = 2 ∧ ¬ lahI G (nI j) 2 < sbcI G) i) ||| (1 <<< ((nI i) &&& 31))) = (setP (fun j => G 2 j = 2 ∧ ¬ lahI G (nI j) 2 < sbcI G) (i + 1) : Int32) := (by first | (rw [setP, if_pos ⟨c22_2, c34_4⟩]; done) | (rw [setP, if_neg (fun z => z.2 c34_4), or0]; done) | (rw [setP, if_neg (fun z => c22_2 z.1), or0]; done))
            have hl : lv_has ls 3 [(2, .int (nI (i + 1))), (1, .int (setP (fun j => G 2 j = 2 ∧ ¬ lahI G (nI j) 2 < sbcI G) (i + 1))), (0, .ref (o 0))] := lv_eqL (lv_sub (l' := [(2, .int (nI (i + 1))), (1, .int ((setP (fun j => G 2 j = 2 ∧ ¬ lahI G (nI j) 2 < sbcI G) i) ||| (1 <<< ((nI i) &&& 31)))), (0, .ref (o 0))]) hl [0, 1, 2] rfl) (cg2 List.cons rfl (cg2 List.cons (congrArg (fun z => ((1 : Nat), Value.int z)) q6) (cg2 List.cons rfl rfl)))
            exact ih (i + 1) (by omega) (by omega) _ _ w _ hl
  have q7 : 0 = (nI 0 : Int32) := (by first | rfl | contradiction | (simp []; done))
  have q8 : 0 = (setP (fun j => G 2 j = 2 ∧ ¬ lahI G (nI j) 2 < sbcI G) 0 : Int32) := (by first | rfl | contradiction | (simp []; done))
  have hl : lv_has ls 3 [(2, .int (nI 0)), (1, .int (setP (fun j => G 2 j = 2 ∧ ¬ lahI G (nI j) 2 < sbcI G) 0)), (0, .ref (o 0))] := lv_eqL (lv_sub (l' := [(2, .int 0), (1, .int 0), (0, .ref (o 0))]) hl [0, 1, 2] rfl) (cg2 List.cons (congrArg (fun z => ((2 : Nat), Value.int z)) q7) (cg2 List.cons (congrArg (fun z => ((1 : Nat), Value.int z)) q8) (cg2 List.cons rfl rfl)))
  exact loop_4 (9) 0 (by omega) (by omega) _ _ w _ hl
set_option maxHeartbeats 1000000 in
set_option maxRecDepth 100000 in
theorem k_X7_lines (l : Launch) (D : va_G) (cI cS : ClassId) (tys : List (ClassId × FieldType)) (ht0 : tys[0]? = some (cI, .int)) (o : Nat → Nat) (G : St) (K : Nat → Int32) (h : Nat → Int32) (hn : Int32) (T : Nat → Int32) (tn : Int32) (f : Nat → Int32) (a1 : Int32) (hI : Inv G) : xI l yX7_lines wsX7_lines 3 D tys [.ref (o 0), .int a1] (mR cI o (fl G) K h hn T tn f) (linI G a1) (mR cI o (fl G) K h hn T tn f) := by
  refine x_inI (cc := cX7_lines) (maxL := 2) (ret := (some .int)) (by decide) rfl (Nat.le_of_ble_eq_true rfl) ?_
  intro p e s m args below meth c A ls C w hl
  have C : xC p s m meth c args cX7_lines 2 wsX7_lines RX7 D tys (some .int) := C
  have hx := C.1.1
  have hb := C.1.2.1
  have hts := C.1.2.2.2.2
  have hown := C.1.2.2.2.1
  have w : xW D A s.heap (mR cI o (fl G) K h hn T tn f) s.heap [] := w
  have hl : lv_has ls 2 [(0, .ref (o 0)), (1, .int a1)] := hl
  refine lv_iload_n hx hb dX7_lines_0 rfl (lv_at hl 1 rfl) ?_
  refine lv_i2l (v := Int32.toInt64 a1) hx hb dX7_lines_1 rfl ?_
  refine lv_lconst (v := 0) hx hb dX7_lines_2 (by decide +kernel) ?_
  refine lv_ldc2 (v := 3) hx hb hown (hts _ (List.mem_of_getElem? (i := 1) rfl)) dX7_lines_3 ?_
  refine x_callSi (wr := mR cI o (fl G) K h hn T tn f) (w2 := mR cI o (fl G) K h hn T tn f) (rest := []) (n := 3) C w hl [.long (Int32.toInt64 a1), .long 0, .long 3] (k_X7_in l D cI cS tys ht0 (Int32.toInt64 a1) 0 3 ) gX7_lines_X7_in rfl (by decide +kernel) ⟨Nat.le_of_ble_eq_true rfl, Nat.le_of_ble_eq_true rfl⟩ rfl rfl (Nat.le_of_ble_eq_true rfl) [] [0, 1, 2, 3, 4] (by decide) rfl rfl (by decide) (by decide) [0, 1, 2, 3, 4] (by decide) rfl ⟨Nat.zero_le _, Nat.zero_le _⟩ dX7_lines_6 (fun H locs w => ?_)
  refine x_top (y := bI (wth a1 0 3 = true)) (bI_c (lg_wth a1 0 3 (by decide) (by decide))) ?_
  refine x_ifB_ne (P := wth a1 0 3 = true) (tgt := 17) hx hb dX7_lines_9 (by decide) (fun c9_1 => ?_) (fun c9_1 => ?_)
  ·
    refine lv_iload_n hx hb dX7_lines_17 rfl (lv_at hl 1 rfl) ?_
    refine lv_iconst (v := 3) hx hb dX7_lines_18 (by decide +kernel) ?_
    refine x_icR_ne (x := a1) (y := 3) (tgt := 29) hx hb dX7_lines_19 (by decide) (fun c19_2 => ?_) (fun c19_2 => ?_)
    ·
      refine lv_aload_n hx hb dX7_lines_29 rfl (lv_at hl 0 rfl) ?_
      refine lv_iload_n hx hb dX7_lines_30 rfl (lv_at hl 1 rfl) ?_
      refine x_callVi (wr := []) (w2 := mR cI o (fl G) K h hn T tn f) (rest := []) (n := 1) C w hl [.int a1] (k_X7_setOf l D cI cS tys ht0 o G K h hn T tn f a1 ) gX7_lines_X7_setOf rfl (by decide +kernel) ⟨Nat.le_of_ble_eq_true rfl, Nat.le_of_ble_eq_true rfl⟩ 0 7 rfl rfl rfl rfl (Nat.le_of_ble_eq_true rfl) [0, 1, 2, 3, 4] [] (by decide) rfl rfl (by decide) (by decide) [0, 1, 2, 3, 4] (by decide) rfl ⟨Nat.zero_le _, Nat.zero_le _⟩ dX7_lines_31 (fun H locs w => ?_)
      exact x_iret C w (lin_eq c9_1 c19_2) rfl dX7_lines_34
    ·
      refine lv_aload_n hx hb dX7_lines_22 rfl (lv_at hl 0 rfl) ?_
      refine x_callVi (wr := []) (w2 := mR cI o (fl G) K h hn T tn f) (rest := []) (n := 0) C w hl [] (k_X7_losable l D cI cS tys ht0 o G K h hn T tn f hI) gX7_lines_X7_losable rfl (by decide +kernel) ⟨Nat.le_of_ble_eq_true rfl, Nat.le_of_ble_eq_true rfl⟩ 0 7 rfl rfl rfl rfl (Nat.le_of_ble_eq_true rfl) [0, 1, 2, 3, 4] [] (by decide) rfl rfl (by decide) (by decide) [0, 1, 2, 3, 4] (by decide) rfl ⟨Nat.zero_le _, Nat.zero_le _⟩ dX7_lines_23 (fun H locs w => ?_)
      refine lv_goto (tgt := 34) hx hb dX7_lines_26 (by decide) ?_
      exact x_iret C w (lin_3 G c19_2) rfl dX7_lines_34
  ·
    refine lv_ldc (v := -1000001) hx hb hown (hts _ (List.mem_of_getElem? (i := 2) rfl)) dX7_lines_12 ?_
    refine lv_goto (tgt := 34) hx hb dX7_lines_14 (by decide) ?_
    exact x_iret C w (lin_no c9_1) rfl dX7_lines_34
set_option maxHeartbeats 1000000 in
set_option maxRecDepth 100000 in
theorem k_X7_wouldFlush (l : Launch) (D : va_G) (cI cS : ClassId) (tys : List (ClassId × FieldType)) (ht0 : tys[0]? = some (cI, .int)) (o : Nat → Nat) (G : St) (K : Nat → Int32) (h : Nat → Int32) (hn : Int32) (T : Nat → Int32) (tn : Int32) (f : Nat → Int32) (a1 : Int32) (hok : wth a1 1 999 = true) (hI : Inv G) : xI l yX7_wouldFlush wsX7_wouldFlush 5 D tys [.ref (o 0), .int a1] (mR cI o (fl G) K h hn T tn f) (wfI G a1) (mR cI o (fl G) (fl G) h hn T tn f) := by
  refine x_inI (cc := cX7_wouldFlush) (maxL := 3) (ret := (some .int)) (by decide) rfl (Nat.le_of_ble_eq_true rfl) ?_
  intro p e s m args below meth c A ls C w hl
  have C : xC p s m meth c args cX7_wouldFlush 3 wsX7_wouldFlush RX7 D tys (some .int) := C
  have hx := C.1.1
  have hb := C.1.2.1
  have hts := C.1.2.2.2.2
  have hown := C.1.2.2.2.1
  have w : xW D A s.heap (mR cI o (fl G) K h hn T tn f) s.heap [] := w
  have hl : lv_has ls 3 [(0, .ref (o 0)), (1, .int a1)] := hl
  refine lv_aload_n hx hb dX7_wouldFlush_0 rfl (lv_at hl 0 rfl) ?_
  refine x_callVv (wr := []) (w2 := mR cI o (fl G) (fl G) h hn T tn f) (rest := []) (n := 0) C w hl [] (k_X7_keep l D cI cS tys ht0 o G K h hn T tn f ) gX7_wouldFlush_X7_keep rfl (by decide +kernel) ⟨Nat.le_of_ble_eq_true rfl, Nat.le_of_ble_eq_true rfl⟩ 0 7 rfl rfl rfl rfl (Nat.le_of_ble_eq_true rfl) [0, 1, 2, 3, 4] [] (by decide) rfl rfl (by decide) (by decide) [0, 1, 2, 3, 4] (by decide) rfl ⟨Nat.zero_le _, Nat.zero_le _⟩ dX7_wouldFlush_1 (fun H locs w => ?_)
  refine lv_aload_n hx hb dX7_wouldFlush_4 rfl (lv_at hl 0 rfl) ?_
  refine lv_iload_n hx hb dX7_wouldFlush_5 rfl (lv_at hl 1 rfl) ?_
  refine x_callVi (wr := []) (w2 := mR cI o (fl (loaG G a1)) (fl G) h hn T tn f) (rest := []) (n := 1) C w hl [.int a1] (k_X7_doLoad l D cI cS tys ht0 o G (fl G) h hn T tn f a1 hok hI) gX7_wouldFlush_X7_doLoad rfl (by decide +kernel) ⟨Nat.le_of_ble_eq_true rfl, Nat.le_of_ble_eq_true rfl⟩ 0 7 rfl rfl rfl rfl (Nat.le_of_ble_eq_true rfl) [0, 1, 2, 3, 4] [] (by decide) rfl rfl (by decide) (by decide) [0, 1, 2, 3, 4] (by decide) rfl ⟨Nat.zero_le _, Nat.zero_le _⟩ dX7_wouldFlush_6 (fun H locs w => ?_)
  refine x_top (y := (wfI G a1)) (wf_eq G a1) ?_
  refine lv_istore_n (lv' := [(2, .int (wfI G a1)), (0, .ref (o 0)), (1, .int a1)]) hx hb dX7_wouldFlush_9 rfl hl (by decide) rfl (fun ls hl => ?_)
  refine lv_aload_n hx hb dX7_wouldFlush_10 rfl (lv_at hl 1 rfl) ?_
  refine x_callVv (wr := []) (w2 := mR cI o (fl G) (fl G) h hn T tn f) (rest := []) (n := 0) C w hl [] (k_X7_giveBack l D cI cS tys ht0 o (loaG G a1) h hn T tn f G ) gX7_wouldFlush_X7_giveBack rfl (by decide +kernel) ⟨Nat.le_of_ble_eq_true rfl, Nat.le_of_ble_eq_true rfl⟩ 0 7 rfl rfl rfl rfl (Nat.le_of_ble_eq_true rfl) [0, 1, 2, 3, 4] [] (by decide) rfl rfl (by decide) (by decide) [0, 1, 2, 3, 4] (by decide) rfl ⟨Nat.zero_le _, Nat.zero_le _⟩ dX7_wouldFlush_11 (fun H locs w => ?_)
  refine lv_iload_n hx hb dX7_wouldFlush_14 rfl (lv_at hl 0 rfl) ?_
  exact x_iret C w (by first | rfl | contradiction | (simp []; done)) rfl dX7_wouldFlush_15
set_option maxHeartbeats 1000000 in
set_option maxRecDepth 100000 in
theorem k_X7_wouldFlush_no (l : Launch) (D : va_G) (cI cS : ClassId) (tys : List (ClassId × FieldType)) (ht0 : tys[0]? = some (cI, .int)) (o : Nat → Nat) (G : St) (K : Nat → Int32) (h : Nat → Int32) (hn : Int32) (T : Nat → Int32) (tn : Int32) (f : Nat → Int32) (a1 : Int32) (hno : ¬ wth a1 1 999 = true) : xI l yX7_wouldFlush wsX7_wouldFlush 5 D tys [.ref (o 0), .int a1] (mR cI o (fl G) K h hn T tn f) (-1000001) (mR cI o (fl G) (fl G) h hn T tn f) := by
  refine x_inI (cc := cX7_wouldFlush) (maxL := 3) (ret := (some .int)) (by decide) rfl (Nat.le_of_ble_eq_true rfl) ?_
  intro p e s m args below meth c A ls C w hl
  have C : xC p s m meth c args cX7_wouldFlush 3 wsX7_wouldFlush RX7 D tys (some .int) := C
  have hx := C.1.1
  have hb := C.1.2.1
  have hts := C.1.2.2.2.2
  have hown := C.1.2.2.2.1
  have w : xW D A s.heap (mR cI o (fl G) K h hn T tn f) s.heap [] := w
  have hl : lv_has ls 3 [(0, .ref (o 0)), (1, .int a1)] := hl
  refine lv_aload_n hx hb dX7_wouldFlush_0 rfl (lv_at hl 0 rfl) ?_
  refine x_callVv (wr := []) (w2 := mR cI o (fl G) (fl G) h hn T tn f) (rest := []) (n := 0) C w hl [] (k_X7_keep l D cI cS tys ht0 o G K h hn T tn f ) gX7_wouldFlush_X7_keep rfl (by decide +kernel) ⟨Nat.le_of_ble_eq_true rfl, Nat.le_of_ble_eq_true rfl⟩ 0 7 rfl rfl rfl rfl (Nat.le_of_ble_eq_true rfl) [0, 1, 2, 3, 4] [] (by decide) rfl rfl (by decide) (by decide) [0, 1, 2, 3, 4] (by decide) rfl ⟨Nat.zero_le _, Nat.zero_le _⟩ dX7_wouldFlush_1 (fun H locs w => ?_)
  refine lv_aload_n hx hb dX7_wouldFlush_4 rfl (lv_at hl 0 rfl) ?_
  refine lv_iload_n hx hb dX7_wouldFlush_5 rfl (lv_at hl 1 rfl) ?_
  refine x_callVi (wr := []) (w2 := mR cI o (fl G) (fl G) h hn T tn f) (rest := []) (n := 1) C w hl [.int a1] (k_X7_doLoad_no l D cI cS tys ht0 o G (fl G) h hn T tn f a1 hno) gX7_wouldFlush_X7_doLoad rfl (by decide +kernel) ⟨Nat.le_of_ble_eq_true rfl, Nat.le_of_ble_eq_true rfl⟩ 0 7 rfl rfl rfl rfl (Nat.le_of_ble_eq_true rfl) [0, 1, 2, 3, 4] [] (by decide) rfl rfl (by decide) (by decide) [0, 1, 2, 3, 4] (by decide) rfl ⟨Nat.zero_le _, Nat.zero_le _⟩ dX7_wouldFlush_6 (fun H locs w => ?_)
  refine lv_istore_n (lv' := [(2, .int (-1000001)), (0, .ref (o 0)), (1, .int a1)]) hx hb dX7_wouldFlush_9 rfl hl (by decide) rfl (fun ls hl => ?_)
  refine lv_aload_n hx hb dX7_wouldFlush_10 rfl (lv_at hl 1 rfl) ?_
  refine x_callVv (wr := []) (w2 := mR cI o (fl G) (fl G) h hn T tn f) (rest := []) (n := 0) C w hl [] (k_X7_giveBack l D cI cS tys ht0 o G h hn T tn f G ) gX7_wouldFlush_X7_giveBack rfl (by decide +kernel) ⟨Nat.le_of_ble_eq_true rfl, Nat.le_of_ble_eq_true rfl⟩ 0 7 rfl rfl rfl rfl (Nat.le_of_ble_eq_true rfl) [0, 1, 2, 3, 4] [] (by decide) rfl rfl (by decide) (by decide) [0, 1, 2, 3, 4] (by decide) rfl ⟨Nat.zero_le _, Nat.zero_le _⟩ dX7_wouldFlush_11 (fun H locs w => ?_)
  refine lv_iload_n hx hb dX7_wouldFlush_14 rfl (lv_at hl 0 rfl) ?_
  exact x_iret C w rfl rfl dX7_wouldFlush_15
set_option maxHeartbeats 1000000 in
set_option maxRecDepth 100000 in
theorem k_X7_ticksUntil_no (l : Launch) (D : va_G) (cI cS : ClassId) (tys : List (ClassId × FieldType)) (ht0 : tys[0]? = some (cI, .int)) (o : Nat → Nat) (G : St) (K : Nat → Int32) (h : Nat → Int32) (hn : Int32) (T : Nat → Int32) (tn : Int32) (f : Nat → Int32) (a1 : Int32) (hno : ¬ wth a1 0 8 = true) : xI l yX7_ticksUntil wsX7_ticksUntil 5 D tys [.ref (o 0), .int a1] (mR cI o (fl G) K h hn T tn f) (-1000001) (mR cI o (fl G) K h hn T tn f) := by
  refine x_inI (cc := cX7_ticksUntil) (maxL := 4) (ret := (some .int)) (by decide) rfl (Nat.le_of_ble_eq_true rfl) ?_
  intro p e s m args below meth c A ls C w hl
  have C : xC p s m meth c args cX7_ticksUntil 4 wsX7_ticksUntil RX7 D tys (some .int) := C
  have hx := C.1.1
  have hb := C.1.2.1
  have hts := C.1.2.2.2.2
  have hown := C.1.2.2.2.1
  have w : xW D A s.heap (mR cI o (fl G) K h hn T tn f) s.heap [] := w
  have hl : lv_has ls 4 [(0, .ref (o 0)), (1, .int a1)] := hl
  refine lv_iload_n hx hb dX7_ticksUntil_0 rfl (lv_at hl 1 rfl) ?_
  refine lv_i2l (v := Int32.toInt64 a1) hx hb dX7_ticksUntil_1 rfl ?_
  refine lv_lconst (v := 0) hx hb dX7_ticksUntil_2 (by decide +kernel) ?_
  refine lv_ldc2 (v := 8) hx hb hown (hts _ (List.mem_of_getElem? (i := 1) rfl)) dX7_ticksUntil_3 ?_
  refine x_callSi (wr := mR cI o (fl G) K h hn T tn f) (w2 := mR cI o (fl G) K h hn T tn f) (rest := []) (n := 3) C w hl [.long (Int32.toInt64 a1), .long 0, .long 8] (k_X7_in l D cI cS tys ht0 (Int32.toInt64 a1) 0 8 ) gX7_ticksUntil_X7_in rfl (by decide +kernel) ⟨Nat.le_of_ble_eq_true rfl, Nat.le_of_ble_eq_true rfl⟩ rfl rfl (Nat.le_of_ble_eq_true rfl) [] [0, 1, 2, 3, 4] (by decide) rfl rfl (by decide) (by decide) [0, 1, 2, 3, 4] (by decide) rfl ⟨Nat.zero_le _, Nat.zero_le _⟩ dX7_ticksUntil_6 (fun H locs w => ?_)
  refine x_top (y := bI (wth a1 0 8 = true)) (bI_c (lg_wth a1 0 8 (by decide) (by decide))) ?_
  refine x_ifB_ne (P := wth a1 0 8 = true) (tgt := 15) hx hb dX7_ticksUntil_9 (by decide) (fun c9_1 => ?_) (fun c9_1 => ?_)
  ·
    exact absurd c9_1 hno
  ·
    refine lv_ldc (v := -1000001) hx hb hown (hts _ (List.mem_of_getElem? (i := 2) rfl)) dX7_ticksUntil_12 ?_
    exact x_iret C w rfl rfl dX7_ticksUntil_14
set_option maxHeartbeats 1000000 in
set_option maxRecDepth 100000 in
theorem k_X7_ticksUntil_ok (l : Launch) (D : va_G) (cI cS : ClassId) (tys : List (ClassId × FieldType)) (ht0 : tys[0]? = some (cI, .int)) (o : Nat → Nat) (G : St) (K : Nat → Int32) (h : Nat → Int32) (hn : Int32) (T : Nat → Int32) (tn : Int32) (f : Nat → Int32) (a1 : Int32) (hok : wth a1 0 8 = true) (hI : Inv G) : xI l yX7_ticksUntil wsX7_ticksUntil 5 D tys [.ref (o 0), .int a1] (mR cI o (fl G) K h hn T tn f) (tuF G a1 401 0) (mR cI o (fl G) (fl G) h hn T tn f) := by
  refine x_inI (cc := cX7_ticksUntil) (maxL := 4) (ret := (some .int)) (by decide) rfl (Nat.le_of_ble_eq_true rfl) ?_
  intro p e s m args below meth c A ls C w hl
  have C : xC p s m meth c args cX7_ticksUntil 4 wsX7_ticksUntil RX7 D tys (some .int) := C
  have hx := C.1.1
  have hb := C.1.2.1
  have hts := C.1.2.2.2.2
  have hown := C.1.2.2.2.1
  have w : xW D A s.heap (mR cI o (fl G) K h hn T tn f) s.heap [] := w
  have hl : lv_has ls 4 [(0, .ref (o 0)), (1, .int a1)] := hl
  refine lv_iload_n hx hb dX7_ticksUntil_0 rfl (lv_at hl 1 rfl) ?_
  refine lv_i2l (v := Int32.toInt64 a1) hx hb dX7_ticksUntil_1 rfl ?_
  refine lv_lconst (v := 0) hx hb dX7_ticksUntil_2 (by decide +kernel) ?_
  refine lv_ldc2 (v := 8) hx hb hown (hts _ (List.mem_of_getElem? (i := 1) rfl)) dX7_ticksUntil_3 ?_
  refine x_callSi (wr := mR cI o (fl G) K h hn T tn f) (w2 := mR cI o (fl G) K h hn T tn f) (rest := []) (n := 3) C w hl [.long (Int32.toInt64 a1), .long 0, .long 8] (k_X7_in l D cI cS tys ht0 (Int32.toInt64 a1) 0 8 ) gX7_ticksUntil_X7_in rfl (by decide +kernel) ⟨Nat.le_of_ble_eq_true rfl, Nat.le_of_ble_eq_true rfl⟩ rfl rfl (Nat.le_of_ble_eq_true rfl) [] [0, 1, 2, 3, 4] (by decide) rfl rfl (by decide) (by decide) [0, 1, 2, 3, 4] (by decide) rfl ⟨Nat.zero_le _, Nat.zero_le _⟩ dX7_ticksUntil_6 (fun H locs w => ?_)
  refine x_top (y := bI (wth a1 0 8 = true)) (bI_c (lg_wth a1 0 8 (by decide) (by decide))) ?_
  refine x_ifB_ne (P := wth a1 0 8 = true) (tgt := 15) hx hb dX7_ticksUntil_9 (by decide) (fun c9_1 => ?_) (fun c9_1 => ?_)
  ·
    refine lv_aload_n hx hb dX7_ticksUntil_15 rfl (lv_at hl 0 rfl) ?_
    refine x_callVv (wr := []) (w2 := mR cI o (fl G) (fl G) h hn T tn f) (rest := []) (n := 0) C w hl [] (k_X7_keep l D cI cS tys ht0 o G K h hn T tn f ) gX7_ticksUntil_X7_keep rfl (by decide +kernel) ⟨Nat.le_of_ble_eq_true rfl, Nat.le_of_ble_eq_true rfl⟩ 0 7 rfl rfl rfl rfl (Nat.le_of_ble_eq_true rfl) [0, 1, 2, 3, 4] [] (by decide) rfl rfl (by decide) (by decide) [0, 1, 2, 3, 4] (by decide) rfl ⟨Nat.zero_le _, Nat.zero_le _⟩ dX7_ticksUntil_16 (fun H locs w => ?_)
    refine lv_iconst (v := 0) hx hb dX7_ticksUntil_19 (by decide +kernel) ?_
    refine lv_istore_n (lv' := [(2, .int 0), (0, .ref (o 0)), (1, .int a1)]) hx hb dX7_ticksUntil_20 rfl hl (by decide) rfl (fun ls hl => ?_)
    have loop_21 : ∀ (n : Nat) (m1 : Nat) (i : Nat), m1 < n → (m1 + i = 401) → (i ≤ 400) → (tuF G a1 m1 i = tuF G a1 401 0) → ∀ (H : Heap) (locs : List Loc), xW D A s.heap (mR cI o (fl (tksG G i)) (fl G) h hn T tn f) H locs → ∀ ls : Array Slot, lv_has ls 4 [(2, .int (nI i)), (0, .ref (o 0)), (1, .int a1)] → W p l e (rmd 5) s m args below meth c H locs 0 0 (MQ below (xQi D tys (tuF G a1 401 0) (mR cI o (fl G) (fl G) h hn T tn f) A) args s 0 0 A) (F0 m 21 ls []) := by
      intro n
      induction n with
      | zero => intro m1 i hm; exact absurd hm (Nat.not_lt_zero _)
      | succ n ih =>
        intro m1 i hm hm1 hi hq H locs w ls hl
        obtain ⟨m2, rfl⟩ : ∃ z, m1 = z + 1 := ⟨m1 - 1, by omega⟩
        refine lv_iload_n hx hb dX7_ticksUntil_21 rfl (lv_at hl 0 rfl) ?_
        refine lv_sipush (v := 400) hx hb dX7_ticksUntil_22 (by decide +kernel) ?_
        refine x_icN_ge (i := i) (j := 400) (tgt := 47) hx hb (by omega) (by omega) dX7_ticksUntil_25 (by decide) (fun c25_2 => ?_) (fun c25_2 => ?_)
        ·
          refine lv_aload_n hx hb dX7_ticksUntil_47 rfl (lv_at hl 1 rfl) ?_
          refine x_callVi (wr := []) (w2 := mR cI o (fl (tksG G i)) (fl G) h hn T tn f) (rest := []) (n := 0) C w hl [] (k_X7_allowance l D cI cS tys ht0 o (tksG G i) (fl G) h hn T tn f (Inv_tks hI i)) gX7_ticksUntil_X7_allowance rfl (by decide +kernel) ⟨Nat.le_of_ble_eq_true rfl, Nat.le_of_ble_eq_true rfl⟩ 0 7 rfl rfl rfl rfl (Nat.le_of_ble_eq_true rfl) [0, 1, 2, 3, 4] [] (by decide) rfl rfl (by decide) (by decide) [0, 1, 2, 3, 4] (by decide) rfl ⟨Nat.zero_le _, Nat.zero_le _⟩ dX7_ticksUntil_48 (fun H locs w => ?_)
          refine x_top (y := (alwI (tkbG G i))) (alw_tkb G i) ?_
          refine lv_iload_n hx hb dX7_ticksUntil_51 rfl (lv_at hl 2 rfl) ?_
          refine x_icR_lt (x := (alwI (tkbG G i))) (y := a1) (tgt := 59) hx hb dX7_ticksUntil_52 (by decide) (fun c52_3 => ?_) (fun c52_3 => ?_)
          ·
            refine lv_iconst (v := 0) hx hb dX7_ticksUntil_59 (by decide +kernel) ?_
            refine lv_istore_n (lv' := [(3, .int 0), (2, .int (nI i)), (0, .ref (o 0)), (1, .int a1)]) hx hb dX7_ticksUntil_60 rfl hl (by decide) rfl (fun ls hl => ?_)
            refine lv_aload_n hx hb dX7_ticksUntil_61 rfl (lv_at hl 2 rfl) ?_
            refine x_callVv (wr := []) (w2 := mR cI o (fl G) (fl G) h hn T tn f) (rest := []) (n := 0) C w hl [] (k_X7_giveBack l D cI cS tys ht0 o (tksG G i) h hn T tn f G ) gX7_ticksUntil_X7_giveBack rfl (by decide +kernel) ⟨Nat.le_of_ble_eq_true rfl, Nat.le_of_ble_eq_true rfl⟩ 0 7 rfl rfl rfl rfl (Nat.le_of_ble_eq_true rfl) [0, 1, 2, 3, 4] [] (by decide) rfl rfl (by decide) (by decide) [0, 1, 2, 3, 4] (by decide) rfl ⟨Nat.zero_le _, Nat.zero_le _⟩ dX7_ticksUntil_62 (fun H locs w => ?_)
            refine lv_iload_n hx hb dX7_ticksUntil_65 rfl (lv_at hl 0 rfl) ?_
            refine x_ifR_eq (x := 0) (tgt := 73) hx hb dX7_ticksUntil_66 (by decide) (fun _ => ?_) (fun h => absurd h (by decide))
            refine lv_ldc (v := -1000004) hx hb hown (hts _ (List.mem_of_getElem? (i := 3) rfl)) dX7_ticksUntil_73 ?_
            exact x_iret C w (by rw [← hq, tuF, if_pos c52_3, show m2 = 0 by omega]; rfl) rfl dX7_ticksUntil_75
          ·
            refine lv_iconst (v := 1) hx hb dX7_ticksUntil_55 (by decide +kernel) ?_
            refine lv_goto (tgt := 60) hx hb dX7_ticksUntil_56 (by decide) ?_
            refine lv_istore_n (lv' := [(3, .int 1), (2, .int (nI i)), (0, .ref (o 0)), (1, .int a1)]) hx hb dX7_ticksUntil_60 rfl hl (by decide) rfl (fun ls hl => ?_)
            refine lv_aload_n hx hb dX7_ticksUntil_61 rfl (lv_at hl 2 rfl) ?_
            refine x_callVv (wr := []) (w2 := mR cI o (fl G) (fl G) h hn T tn f) (rest := []) (n := 0) C w hl [] (k_X7_giveBack l D cI cS tys ht0 o (tksG G i) h hn T tn f G ) gX7_ticksUntil_X7_giveBack rfl (by decide +kernel) ⟨Nat.le_of_ble_eq_true rfl, Nat.le_of_ble_eq_true rfl⟩ 0 7 rfl rfl rfl rfl (Nat.le_of_ble_eq_true rfl) [0, 1, 2, 3, 4] [] (by decide) rfl rfl (by decide) (by decide) [0, 1, 2, 3, 4] (by decide) rfl ⟨Nat.zero_le _, Nat.zero_le _⟩ dX7_ticksUntil_62 (fun H locs w => ?_)
            refine lv_iload_n hx hb dX7_ticksUntil_65 rfl (lv_at hl 0 rfl) ?_
            refine x_ifR_eq (x := 1) (tgt := 73) hx hb dX7_ticksUntil_66 (by decide) (fun h => absurd h (by decide)) (fun _ => ?_)
            refine lv_iload_n hx hb dX7_ticksUntil_69 rfl (lv_at hl 1 rfl) ?_
            refine lv_goto (tgt := 75) hx hb dX7_ticksUntil_70 (by decide) ?_
            exact x_iret C w (by rw [← hq, tuF, if_neg c52_3]) rfl dX7_ticksUntil_75
        ·
          refine lv_aload_n hx hb dX7_ticksUntil_28 rfl (lv_at hl 1 rfl) ?_
          refine x_callVi (wr := []) (w2 := mR cI o (fl (tksG G i)) (fl G) h hn T tn f) (rest := []) (n := 0) C w hl [] (k_X7_allowance l D cI cS tys ht0 o (tksG G i) (fl G) h hn T tn f (Inv_tks hI i)) gX7_ticksUntil_X7_allowance rfl (by decide +kernel) ⟨Nat.le_of_ble_eq_true rfl, Nat.le_of_ble_eq_true rfl⟩ 0 7 rfl rfl rfl rfl (Nat.le_of_ble_eq_true rfl) [0, 1, 2, 3, 4] [] (by decide) rfl rfl (by decide) (by decide) [0, 1, 2, 3, 4] (by decide) rfl ⟨Nat.zero_le _, Nat.zero_le _⟩ dX7_ticksUntil_29 (fun H locs w => ?_)
          refine x_top (y := (alwI (tkbG G i))) (alw_tkb G i) ?_
          refine lv_iload_n hx hb dX7_ticksUntil_32 rfl (lv_at hl 2 rfl) ?_
          refine x_icR_ge (x := (alwI (tkbG G i))) (y := a1) (tgt := 47) hx hb dX7_ticksUntil_33 (by decide) (fun c33_6 => ?_) (fun c33_6 => ?_)
          ·
            refine lv_aload_n hx hb dX7_ticksUntil_47 rfl (lv_at hl 1 rfl) ?_
            refine x_callVi (wr := []) (w2 := mR cI o (fl (tksG G i)) (fl G) h hn T tn f) (rest := []) (n := 0) C w hl [] (k_X7_allowance l D cI cS tys ht0 o (tksG G i) (fl G) h hn T tn f (Inv_tks hI i)) gX7_ticksUntil_X7_allowance rfl (by decide +kernel) ⟨Nat.le_of_ble_eq_true rfl, Nat.le_of_ble_eq_true rfl⟩ 0 7 rfl rfl rfl rfl (Nat.le_of_ble_eq_true rfl) [0, 1, 2, 3, 4] [] (by decide) rfl rfl (by decide) (by decide) [0, 1, 2, 3, 4] (by decide) rfl ⟨Nat.zero_le _, Nat.zero_le _⟩ dX7_ticksUntil_48 (fun H locs w => ?_)
            refine x_top (y := (alwI (tkbG G i))) (alw_tkb G i) ?_
            refine lv_iload_n hx hb dX7_ticksUntil_51 rfl (lv_at hl 2 rfl) ?_
            refine x_icR_lt (x := (alwI (tkbG G i))) (y := a1) (tgt := 59) hx hb dX7_ticksUntil_52 (by decide) (fun c52_7 => ?_) (fun c52_7 => ?_)
            ·
              exact absurd c52_7 c33_6
            ·
              refine lv_iconst (v := 1) hx hb dX7_ticksUntil_55 (by decide +kernel) ?_
              refine lv_goto (tgt := 60) hx hb dX7_ticksUntil_56 (by decide) ?_
              refine lv_istore_n (lv' := [(3, .int 1), (2, .int (nI i)), (0, .ref (o 0)), (1, .int a1)]) hx hb dX7_ticksUntil_60 rfl hl (by decide) rfl (fun ls hl => ?_)
              refine lv_aload_n hx hb dX7_ticksUntil_61 rfl (lv_at hl 2 rfl) ?_
              refine x_callVv (wr := []) (w2 := mR cI o (fl G) (fl G) h hn T tn f) (rest := []) (n := 0) C w hl [] (k_X7_giveBack l D cI cS tys ht0 o (tksG G i) h hn T tn f G ) gX7_ticksUntil_X7_giveBack rfl (by decide +kernel) ⟨Nat.le_of_ble_eq_true rfl, Nat.le_of_ble_eq_true rfl⟩ 0 7 rfl rfl rfl rfl (Nat.le_of_ble_eq_true rfl) [0, 1, 2, 3, 4] [] (by decide) rfl rfl (by decide) (by decide) [0, 1, 2, 3, 4] (by decide) rfl ⟨Nat.zero_le _, Nat.zero_le _⟩ dX7_ticksUntil_62 (fun H locs w => ?_)
              refine lv_iload_n hx hb dX7_ticksUntil_65 rfl (lv_at hl 0 rfl) ?_
              refine x_ifR_eq (x := 1) (tgt := 73) hx hb dX7_ticksUntil_66 (by decide) (fun h => absurd h (by decide)) (fun _ => ?_)
              refine lv_iload_n hx hb dX7_ticksUntil_69 rfl (lv_at hl 1 rfl) ?_
              refine lv_goto (tgt := 75) hx hb dX7_ticksUntil_70 (by decide) ?_
              exact x_iret C w (by rw [← hq, tuF, if_neg c52_7]) rfl dX7_ticksUntil_75
          ·
            refine lv_aload_n hx hb dX7_ticksUntil_36 rfl (lv_at hl 1 rfl) ?_
            refine x_callVi (wr := []) (w2 := mR cI o (fl (tk1 (tksG G i))) (fl G) h hn T tn f) (rest := []) (n := 0) C w hl [] (k_X7_ticksOn l D cI cS tys ht0 o (tksG G i) (fl G) h hn T tn f (Inv_tks hI i)) gX7_ticksUntil_X7_ticksOn rfl (by decide +kernel) ⟨Nat.le_of_ble_eq_true rfl, Nat.le_of_ble_eq_true rfl⟩ 0 7 rfl rfl rfl rfl (Nat.le_of_ble_eq_true rfl) [0, 1, 2, 3, 4] [] (by decide) rfl rfl (by decide) (by decide) [0, 1, 2, 3, 4] (by decide) rfl ⟨Nat.zero_le _, Nat.zero_le _⟩ dX7_ticksUntil_37 (fun H locs w => ?_)
            refine lv_istore_n (lv' := [(3, .int (tooI (tk0 (tksG G i)))), (2, .int (nI i)), (0, .ref (o 0)), (1, .int a1)]) hx hb dX7_ticksUntil_40 rfl hl (by decide) rfl (fun ls hl => ?_)
            refine lv_iinc (v := nI (i + 1)) (lv' := [(2, .int (nI (i + 1))), (3, .int (tooI (tk0 (tksG G i)))), (0, .ref (o 0)), (1, .int a1)]) hx hb dX7_ticksUntil_41 hl (k := 1) rfl (nI_add i 1) (by decide) rfl (fun ls hl => ?_)
            refine lv_goto (tgt := 21) hx hb dX7_ticksUntil_44 (by decide) ?_
            have hl : lv_has ls 4 [(2, .int (nI (i + 1))), (0, .ref (o 0)), (1, .int a1)] := lv_eqL (lv_sub (l' := [(2, .int (nI (i + 1))), (0, .ref (o 0)), (1, .int a1)]) hl [0, 2, 3] rfl) (cg2 List.cons rfl (cg2 List.cons rfl (cg2 List.cons rfl rfl)))
            have w : xW D A s.heap (mR cI o (fl (tksG G (i + 1))) (fl G) h hn T tn f) _ _ := x_ws (congrArg (fun z => mR cI o (fl z) (fl G) h hn T tn f) rfl) w
            exact ih m2 (i + 1) (by omega) (by omega) (by omega) (by rw [← hq, tuF, if_pos c33_6]) _ _ w _ hl
    have q9 : 0 = (nI 0 : Int32) := (by first | rfl | contradiction | (simp [c9_1]; done))
    have hl : lv_has ls 4 [(2, .int (nI 0)), (0, .ref (o 0)), (1, .int a1)] := lv_eqL (lv_sub (l' := [(2, .int 0), (0, .ref (o 0)), (1, .int a1)]) hl [0, 1, 2] rfl) (cg2 List.cons (congrArg (fun z => ((2 : Nat), Value.int z)) q9) (cg2 List.cons rfl (cg2 List.cons rfl rfl)))
    have w : xW D A s.heap (mR cI o (fl (tksG G 0)) (fl G) h hn T tn f) _ _ := x_ws (congrArg (fun z => mR cI o (fl z) (fl G) h hn T tn f) rfl) w
    exact loop_21 (402) 401 0 (by omega) rfl (Nat.zero_le _) rfl _ _ w _ hl
  ·
    exact absurd hok c9_1
set_option maxHeartbeats 1000000 in
set_option maxRecDepth 100000 in
theorem k_X7_critical (l : Launch) (D : va_G) (cI cS : ClassId) (tys : List (ClassId × FieldType)) (ht0 : tys[0]? = some (cI, .int)) (o : Nat → Nat) (G : St) (K : Nat → Int32) (h : Nat → Int32) (hn : Int32) (T : Nat → Int32) (tn : Int32) (f : Nat → Int32) (hI : Inv G) (hN : NoD G) : xI l yX7_critical wsX7_critical 6 D tys [.ref (o 0)] (mR cI o (fl G) K h hn T tn f) (criI G) (mR cI o (fl G) (fl G) h hn T tn f) := by
  refine x_inI (cc := cX7_critical) (maxL := 2) (ret := (some .int)) (by decide) rfl (Nat.le_of_ble_eq_true rfl) ?_
  intro p e s m args below meth c A ls C w hl
  have C : xC p s m meth c args cX7_critical 2 wsX7_critical RX7 D tys (some .int) := C
  have hx := C.1.1
  have hb := C.1.2.1
  have hts := C.1.2.2.2.2
  have hown := C.1.2.2.2.1
  have w : xW D A s.heap (mR cI o (fl G) K h hn T tn f) s.heap [] := w
  have hl : lv_has ls 2 [(0, .ref (o 0))] := hl
  refine lv_iconst (v := 1) hx hb dX7_critical_0 (by decide +kernel) ?_
  refine lv_istore_n (lv' := [(1, .int 1), (0, .ref (o 0))]) hx hb dX7_critical_1 rfl hl (by decide) rfl (fun ls hl => ?_)
  have loop_2 : ∀ (n : Nat) (i : Nat) (Kx : Nat → Int32), 1000 - i < n → (1 ≤ i) → (i ≤ 1000) → (0 < mN G 2 → i ≤ spN G + 1) → (i = 1 ∨ Kx = fl G) → ∀ (H : Heap) (locs : List Loc), xW D A s.heap (mR cI o (fl G) Kx h hn T tn f) H locs → ∀ ls : Array Slot, lv_has ls 2 [(1, .int (nI i)), (0, .ref (o 0))] → W p l e (rmd 6) s m args below meth c H locs 0 0 (MQ below (xQi D tys (criI G) (mR cI o (fl G) (fl G) h hn T tn f) A) args s 0 0 A) (F0 m 2 ls []) := by
    intro n
    induction n with
    | zero => intro i Kx hm; exact absurd hm (Nat.not_lt_zero _)
    | succ n ih =>
      intro i Kx hm h1i hi hq hK H locs w ls hl
      refine lv_iload_n hx hb dX7_critical_2 rfl (lv_at hl 0 rfl) ?_
      refine lv_sipush (v := 999) hx hb dX7_critical_3 (by decide +kernel) ?_
      refine x_icN_gt (i := i) (j := 999) (tgt := 25) hx hb (by omega) (by omega) dX7_critical_6 (by decide) (fun c6_1 => ?_) (fun c6_1 => ?_)
      ·
        have hE : i = 1000 := (by omega)
        have hK2 : Kx = fl G := hK.resolve_left (by omega)
        have w : xW D A s.heap (mR cI o (fl G) (fl G) h hn T tn f) _ _ := x_ws (by rw [hK2]) w
        refine lv_ldc (v := -1000004) hx hb hown (hts _ (List.mem_of_getElem? (i := 1) rfl)) dX7_critical_25 ?_
        exact x_iret C w (cri_n hI (fun z => by have q1 := hq z; omega)) rfl dX7_critical_27
      ·
        refine lv_aload_n hx hb dX7_critical_9 rfl (lv_at hl 1 rfl) ?_
        refine lv_iload_n hx hb dX7_critical_10 rfl (lv_at hl 0 rfl) ?_
        refine x_callVi (wr := []) (w2 := mR cI o (fl G) (fl G) h hn T tn f) (rest := []) (n := 1) C w hl [.int (nI i)] (k_X7_wouldFlush l D cI cS tys ht0 o G Kx h hn T tn f (nI i) (wth_n (a := 1) (b := 999) rfl rfl (by omega) (by omega) (by decide)) hI) gX7_critical_X7_wouldFlush rfl (by decide +kernel) ⟨Nat.le_of_ble_eq_true rfl, Nat.le_of_ble_eq_true rfl⟩ 0 7 rfl rfl rfl rfl (Nat.le_of_ble_eq_true rfl) [0, 1, 2, 3, 4] [] (by decide) rfl rfl (by decide) (by decide) [0, 1, 2, 3, 4] (by decide) rfl ⟨Nat.zero_le _, Nat.zero_le _⟩ dX7_critical_11 (fun H locs w => ?_)
        refine x_ifR_le (x := wfI G (nI i)) (tgt := 19) hx hb dX7_critical_14 (by decide) (fun c14_2 => ?_) (fun c14_2 => ?_)
        ·
          have hn9 := mt (wf_pos hI hN h1i (by omega)).mpr c14_2
          refine lv_iinc (v := nI (i + 1)) (lv' := [(1, .int (nI (i + 1))), (0, .ref (o 0))]) hx hb dX7_critical_19 hl (k := 0) rfl (nI_add i 1) (by decide) rfl (fun ls hl => ?_)
          refine lv_goto (tgt := 2) hx hb dX7_critical_22 (by decide) ?_
          have hl : lv_has ls 2 [(1, .int (nI (i + 1))), (0, .ref (o 0))] := lv_eqL (lv_sub (l' := [(1, .int (nI (i + 1))), (0, .ref (o 0))]) hl [0, 1] rfl) (cg2 List.cons rfl (cg2 List.cons rfl rfl))
          exact ih (i + 1) (fl G) (by omega) (by omega) (by omega) (fun z => by have q1 := hq z; have q2 : ¬ spN G < i := fun y => hn9 ⟨z, y⟩; omega) (Or.inr rfl) _ _ w _ hl
        ·
          have hp9 := (wf_pos hI hN h1i (by omega)).mp c14_2
          refine lv_iload_n hx hb dX7_critical_17 rfl (lv_at hl 0 rfl) ?_
          exact x_iret C w (cri_y hI (by omega) hp9.1 hp9.2 (hq hp9.1)) rfl dX7_critical_18
  have q3 : 1 = (nI 1 : Int32) := (by first | rfl | contradiction | (simp []; done))
  have hl : lv_has ls 2 [(1, .int (nI 1)), (0, .ref (o 0))] := lv_eqL (lv_sub (l' := [(1, .int 1), (0, .ref (o 0))]) hl [0, 1] rfl) (cg2 List.cons (congrArg (fun z => ((1 : Nat), Value.int z)) q3) (cg2 List.cons rfl rfl))
  exact loop_2 (1000) 1 K (by omega) (Nat.le_refl _) (by omega) (fun _ => by omega) (Or.inl rfl) _ _ w _ hl
