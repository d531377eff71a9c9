set_option maxHeartbeats 1000000 in
set_option maxRecDepth 100000 in
theorem k_X7_keep (l : Launch) (D : va_G) (cI cS : ClassId) (tys : List (ClassId × FieldType)) (ht0 : tys[0]? = some (cI, .int)) (o : Nat → Nat) (G : St) (K : Nat → Int32) (h : Nat → Int32) (hn : Int32) (T : Nat → Int32) (tn : Int32) (f : Nat → Int32)  : xV l yX7_keep wsX7_keep 0 D tys [.ref (o 0)] (mR cI o (fl G) K h hn T tn f) (mR cI o (fl G) (fl G) h hn T tn f) := by
  refine x_inV (cc := cX7_keep) (maxL := 2) (ret := none) (by decide) rfl (Nat.le_of_ble_eq_true rfl) ?_
  intro p e s m args below meth c A ls C w hl
  have C : xC p s m meth c args cX7_keep 2 wsX7_keep RX7 D tys none := C
  have hx := C.1.1
  have hb := C.1.2.1
  have hts := C.1.2.2.2.2
  have hown := C.1.2.2.2.1
  have w : xW D A s.heap (mR cI o (fl G) K h hn T tn f) s.heap [] := w
  have hl : lv_has ls 2 [(0, .ref (o 0))] := hl
  refine lv_iconst (v := 0) hx hb dX7_keep_0 (by decide +kernel) ?_
  refine lv_istore_n (lv' := [(1, .int 0), (0, .ref (o 0))]) hx hb dX7_keep_1 rfl hl (by decide) rfl (fun ls hl => ?_)
  have loop_2 : ∀ (n : Nat) (i : Nat), 180 - i < n → (i ≤ 180) → ∀ (H : Heap) (locs : List Loc), xW D A s.heap (mR cI o (fl G) (kpF (fl G) K i) h hn T tn f) H locs → ∀ ls : Array Slot, lv_has ls 2 [(1, .int (nI i)), (0, .ref (o 0))] → W p l e (rmd 0) s m args below meth c H locs 0 0 (MQ below (xQv D tys (mR cI o (fl G) (fl G) h hn T tn f) A) args s 0 0 A) (F0 m 2 ls []) := by
    intro n
    induction n with
    | zero => intro i hm; exact absurd hm (Nat.not_lt_zero _)
    | succ n ih =>
      intro i hm hi H locs w ls hl
      refine lv_iload_n hx hb dX7_keep_2 rfl (lv_at hl 0 rfl) ?_
      refine lv_sipush (v := 180) hx hb dX7_keep_3 (by decide +kernel) ?_
      refine x_icN_ge (i := i) (j := 180) (tgt := 27) hx hb (by omega) (by omega) dX7_keep_6 (by decide) (fun c6_1 => ?_) (fun c6_1 => ?_)
      ·
        have hE : i = 180 := (by omega)
        have w : xW D A s.heap (mR cI o (fl G) (fl G) h hn T tn f) _ _ := x_ext w 2 rfl (fun j hj => (by unfold kpF; rw [if_pos (by omega)])) rfl
        exact x_vret C w rfl dX7_keep_27
      ·
        refine lv_aload_n hx hb dX7_keep_9 rfl (lv_at hl 1 rfl) ?_
        refine x_get (v := .ref (o 2)) (T := TX7) C w 0 1 rfl rfl (fun _ h => List.mem_cons_of_mem _ (List.mem_append_right _ (h))) (List.mem_of_getElem? (i := 1) rfl) (by decide) rfl dX7_keep_10 ?_
        refine lv_iload_n hx hb dX7_keep_13 rfl (lv_at hl 0 rfl) ?_
        refine lv_aload_n hx hb dX7_keep_14 rfl (lv_at hl 1 rfl) ?_
        refine x_get (v := .ref (o 1)) (T := TX7) C w 0 0 rfl rfl (fun _ h => List.mem_cons_of_mem _ (List.mem_append_right _ (h))) (List.mem_of_getElem? (i := 2) rfl) (by decide) rfl dX7_keep_15 ?_
        refine lv_iload_n hx hb dX7_keep_18 rfl (lv_at hl 0 rfl) ?_
        refine x_iald (v := (fl G) i) C w 1 0 (i) rfl ht0 rfl (by omega) (by decide) rfl dX7_keep_19 ?_
        refine x_iast (ws2 := mR cI o (fl G) (upd (kpF (fl G) K i) i ((fl G) i)) h hn T tn f) C w 2 0 (i) rfl ht0 rfl (by omega) (by decide) rfl dX7_keep_20 (fun H locs w => ?_)
        refine lv_iinc (v := nI (i + 1)) (lv' := [(1, .int (nI (i + 1))), (0, .ref (o 0))]) hx hb dX7_keep_21 hl (k := 0) rfl (nI_add i 1) (by decide) rfl (fun ls hl => ?_)
        refine lv_goto (tgt := 2) hx hb dX7_keep_24 (by decide) ?_
        have hl : lv_has ls 2 [(1, .int (nI (i + 1))), (0, .ref (o 0))] := lv_eqL (lv_sub (l' := [(1, .int (nI (i + 1))), (0, .ref (o 0))]) hl [0, 1] rfl) (cg2 List.cons rfl (cg2 List.cons rfl rfl))
        have w : xW D A s.heap (mR cI o (fl G) (kpF (fl G) K (i + 1)) h hn T tn f) _ _ := x_ws (congrArg (fun z => mR cI o (fl G) z h hn T tn f) (kpF_s (fl G) K i)) w
        exact ih (i + 1) (by omega) (by omega) _ _ w _ hl
  have q2 : 0 = (nI 0 : Int32) := (by first | rfl | contradiction | (simp []; done))
  have hl : lv_has ls 2 [(1, .int (nI 0)), (0, .ref (o 0))] := lv_eqL (lv_sub (l' := [(1, .int 0), (0, .ref (o 0))]) hl [0, 1] rfl) (cg2 List.cons (congrArg (fun z => ((1 : Nat), Value.int z)) q2) (cg2 List.cons rfl rfl))
  have w : xW D A s.heap (mR cI o (fl G) (kpF (fl G) K 0) h hn T tn f) _ _ := x_ws (congrArg (fun z => mR cI o (fl G) z h hn T tn f) (kpF_0 (fl G) K)) w
  exact loop_2 (181) 0 (by omega) (by omega) _ _ w _ hl
set_option maxHeartbeats 1000000 in
set_option maxRecDepth 100000 in
theorem k_X7_giveBack (l : Launch) (D : va_G) (cI cS : ClassId) (tys : List (ClassId × FieldType)) (ht0 : tys[0]? = some (cI, .int)) (o : Nat → Nat) (G : St) (h : Nat → Int32) (hn : Int32) (T : Nat → Int32) (tn : Int32) (f : Nat → Int32) (G0 : St)  : xV l yX7_giveBack wsX7_giveBack 0 D tys [.ref (o 0)] (mR cI o (fl G) (fl G0) h hn T tn f) (mR cI o (fl G0) (fl G0) h hn T tn f) := by
  refine x_inV (cc := cX7_giveBack) (maxL := 2) (ret := none) (by decide) rfl (Nat.le_of_ble_eq_true rfl) ?_
  intro p e s m args below meth c A ls C w hl
  have C : xC p s m meth c args cX7_giveBack 2 wsX7_giveBack RX7 D tys none := C
  have hx := C.1.1
  have hb := C.1.2.1
  have hts := C.1.2.2.2.2
  have hown := C.1.2.2.2.1
  have w : xW D A s.heap (mR cI o (fl G) (fl G0) h hn T tn f) s.heap [] := w
  have hl : lv_has ls 2 [(0, .ref (o 0))] := hl
  refine lv_iconst (v := 0) hx hb dX7_giveBack_0 (by decide +kernel) ?_
  refine lv_istore_n (lv' := [(1, .int 0), (0, .ref (o 0))]) hx hb dX7_giveBack_1 rfl hl (by decide) rfl (fun ls hl => ?_)
  have loop_2 : ∀ (n : Nat) (i : Nat), 180 - i < n → (i ≤ 180) → ∀ (H : Heap) (locs : List Loc), xW D A s.heap (mR cI o (kpF (fl G0) (fl G) i) (fl G0) h hn T tn f) H locs → ∀ ls : Array Slot, lv_has ls 2 [(1, .int (nI i)), (0, .ref (o 0))] → W p l e (rmd 0) s m args below meth c H locs 0 0 (MQ below (xQv D tys (mR cI o (fl G0) (fl G0) h hn T tn f) A) args s 0 0 A) (F0 m 2 ls []) := by
    intro n
    induction n with
    | zero => intro i hm; exact absurd hm (Nat.not_lt_zero _)
    | succ n ih =>
      intro i hm hi H locs w ls hl
      refine lv_iload_n hx hb dX7_giveBack_2 rfl (lv_at hl 0 rfl) ?_
      refine lv_sipush (v := 180) hx hb dX7_giveBack_3 (by decide +kernel) ?_
      refine x_icN_ge (i := i) (j := 180) (tgt := 27) hx hb (by omega) (by omega) dX7_giveBack_6 (by decide) (fun c6_1 => ?_) (fun c6_1 => ?_)
      ·
        have hE : i = 180 := (by omega)
        have w : xW D A s.heap (mR cI o (fl G0) (fl G0) h hn T tn f) _ _ := x_ext w 1 rfl (fun j hj => (by unfold kpF; rw [if_pos (by omega)])) rfl
        exact x_vret C w rfl dX7_giveBack_27
      ·
        refine lv_aload_n hx hb dX7_giveBack_9 rfl (lv_at hl 1 rfl) ?_
        refine x_get (v := .ref (o 1)) (T := TX7) C w 0 0 rfl rfl (fun _ h => List.mem_cons_of_mem _ (List.mem_append_right _ (h))) (List.mem_of_getElem? (i := 1) rfl) (by decide) rfl dX7_giveBack_10 ?_
        refine lv_iload_n hx hb dX7_giveBack_13 rfl (lv_at hl 0 rfl) ?_
        refine lv_aload_n hx hb dX7_giveBack_14 rfl (lv_at hl 1 rfl) ?_
        refine x_get (v := .ref (o 2)) (T := TX7) C w 0 1 rfl rfl (fun _ h => List.mem_cons_of_mem _ (List.mem_append_right _ (h))) (List.mem_of_getElem? (i := 2) rfl) (by decide) rfl dX7_giveBack_15 ?_
        refine lv_iload_n hx hb dX7_giveBack_18 rfl (lv_at hl 0 rfl) ?_
        refine x_iald (v := (fl G0) i) C w 2 0 (i) rfl ht0 rfl (by omega) (by decide) rfl dX7_giveBack_19 ?_
        refine x_iast (ws2 := mR cI o (upd (kpF (fl G0) (fl G) i) i ((fl G0) i)) (fl G0) h hn T tn f) C w 1 0 (i) rfl ht0 rfl (by omega) (by decide) rfl dX7_giveBack_20 (fun H locs w => ?_)
        refine lv_iinc (v := nI (i + 1)) (lv' := [(1, .int (nI (i + 1))), (0, .ref (o 0))]) hx hb dX7_giveBack_21 hl (k := 0) rfl (nI_add i 1) (by decide) rfl (fun ls hl => ?_)
        refine lv_goto (tgt := 2) hx hb dX7_giveBack_24 (by decide) ?_
        have hl : lv_has ls 2 [(1, .int (nI (i + 1))), (0, .ref (o 0))] := lv_eqL (lv_sub (l' := [(1, .int (nI (i + 1))), (0, .ref (o 0))]) hl [0, 1] rfl) (cg2 List.cons rfl (cg2 List.cons rfl rfl))
        have w : xW D A s.heap (mR cI o (kpF (fl G0) (fl G) (i + 1)) (fl G0) h hn T tn f) _ _ := x_ws (congrArg (fun z => mR cI o z (fl G0) h hn T tn f) (kpF_s (fl G0) (fl G) i)) w
        exact ih (i + 1) (by omega) (by omega) _ _ w _ hl
  have q2 : 0 = (nI 0 : Int32) := (by first | rfl | contradiction | (simp []; done))
  have hl : lv_has ls 2 [(1, .int (nI 0)), (0, .ref (o 0))] := lv_eqL (lv_sub (l' := [(1, .int 0), (0, .ref (o 0))]) hl [0, 1] rfl) (cg2 List.cons (congrArg (fun z => ((1 : Nat), Value.int z)) q2) (cg2 List.cons rfl rfl))
  have w : xW D A s.heap (mR cI o (kpF (fl G0) (fl G) 0) (fl G0) h hn T tn f) _ _ := x_ws (congrArg (fun z => mR cI o z (fl G0) h hn T tn f) (kpF_0 (fl G0) (fl G))) w
  exact loop_2 (181) 0 (by omega) (by omega) _ _ w _ hl
set_option maxHeartbeats 1000000 in
set_option maxRecDepth 100000 in
theorem k_X7_changed_er (l : Launch) (D : va_G) (cI cS : ClassId) (tys : List (ClassId × FieldType)) (ht0 : tys[0]? = some (cI, .int)) (o : Nat → Nat) (G : St) (K : Nat → Int32) (h : Nat → Int32) (hn : Int32) (T : Nat → Int32) (tn : Int32) (f : Nat → Int32) (a1 : Int32) (her : a1 < -1000000) : xI l yX7_changed wsX7_changed 0 D tys [.ref (o 0), .int a1] (mR cI o (fl G) K h hn T tn f) a1 (mR cI o (fl G) K h hn T tn f) := by
  refine x_inI (cc := cX7_changed) (maxL := 3) (ret := (some .int)) (by decide) rfl (Nat.le_of_ble_eq_true rfl) ?_
  intro p e s m args below meth c A ls C w hl
  have C : xC p s m meth c args cX7_changed 3 wsX7_changed RX7 D tys (some .int) := C
  have hx := C.1.1
  have hb := C.1.2.1
  have hts := C.1.2.2.2.2
  have hown := C.1.2.2.2.1
  have w : xW D A s.heap (mR cI o (fl G) K h hn T tn f) s.heap [] := w
  have hl : lv_has ls 3 [(0, .ref (o 0)), (1, .int a1)] := hl
  refine lv_iload_n hx hb dX7_changed_0 rfl (lv_at hl 1 rfl) ?_
  refine lv_ldc (v := -1000000) hx hb hown (hts _ (List.mem_of_getElem? (i := 1) rfl)) dX7_changed_1 ?_
  refine x_icR_ge (x := a1) (y := (-1000000)) (tgt := 8) hx hb dX7_changed_3 (by decide) (fun c3_1 => ?_) (fun c3_1 => ?_)
  ·
    exact absurd her c3_1
  ·
    refine lv_iload_n hx hb dX7_changed_6 rfl (lv_at hl 1 rfl) ?_
    exact x_iret C w rfl rfl dX7_changed_7
set_option maxHeartbeats 1000000 in
set_option maxRecDepth 100000 in
theorem k_X7_changed_lt (l : Launch) (D : va_G) (cI cS : ClassId) (tys : List (ClassId × FieldType)) (ht0 : tys[0]? = some (cI, .int)) (o : Nat → Nat) (G : St) (K : Nat → Int32) (h : Nat → Int32) (T : Nat → Int32) (tn : Int32) (f : Nat → Int32) (a1 : Int32) (k : Nat) (hok : ¬ a1 < -1000000) (hk : k < 4) : xI l yX7_changed wsX7_changed 0 D tys [.ref (o 0), .int a1] (mR cI o (fl G) K h (nI k) T tn f) a1 (mR cI o (fl G) K (hpF k h K) (nI (kpN k)) T tn f) := by
  refine x_inI (cc := cX7_changed) (maxL := 3) (ret := (some .int)) (by decide) rfl (Nat.le_of_ble_eq_true rfl) ?_
  intro p e s m args below meth c A ls C w hl
  have C : xC p s m meth c args cX7_changed 3 wsX7_changed RX7 D tys (some .int) := C
  have hx := C.1.1
  have hb := C.1.2.1
  have hts := C.1.2.2.2.2
  have hown := C.1.2.2.2.1
  have w : xW D A s.heap (mR cI o (fl G) K h (nI k) T tn f) s.heap [] := w
  have hl : lv_has ls 3 [(0, .ref (o 0)), (1, .int a1)] := hl
  refine lv_iload_n hx hb dX7_changed_0 rfl (lv_at hl 1 rfl) ?_
  refine lv_ldc (v := -1000000) hx hb hown (hts _ (List.mem_of_getElem? (i := 1) rfl)) dX7_changed_1 ?_
  refine x_icR_ge (x := a1) (y := (-1000000)) (tgt := 8) hx hb dX7_changed_3 (by decide) (fun c3_1 => ?_) (fun c3_1 => ?_)
  ·
    refine lv_aload_n hx hb dX7_changed_8 rfl (lv_at hl 0 rfl) ?_
    refine x_get (v := .int (nI k)) (T := TX7) C w 0 3 rfl rfl (fun _ h => List.mem_cons_of_mem _ (List.mem_append_right _ (h))) (List.mem_of_getElem? (i := 2) rfl) (by decide) rfl dX7_changed_9 ?_
    refine lv_iconst (v := 4) hx hb dX7_changed_12 (by decide +kernel) ?_
    refine x_icN_ne (i := k) (j := 4) (tgt := 57) hx hb (by omega) (by omega) dX7_changed_13 (by decide) (fun c13_2 => ?_) (fun c13_2 => ?_)
    ·
      refine lv_iconst (v := 0) hx hb dX7_changed_57 (by decide +kernel) ?_
      refine lv_istore_n (lv' := [(2, .int 0), (0, .ref (o 0)), (1, .int a1)]) hx hb dX7_changed_58 rfl hl (by decide) rfl (fun ls hl => ?_)
      have loop_59 : ∀ (n : Nat) (i : Nat), 180 - i < n → (i ≤ 180) → ∀ (H : Heap) (locs : List Loc), xW D A s.heap (mR cI o (fl G) K (ptF h (180 * k) K i) (nI k) T tn f) H locs → ∀ ls : Array Slot, lv_has ls 3 [(2, .int (nI i)), (0, .ref (o 0)), (1, .int a1)] → W p l e (rmd 0) s m args below meth c H locs 0 0 (MQ below (xQi D tys a1 (mR cI o (fl G) K (hpF k h K) (nI (kpN k)) T tn f) A) args s 0 0 A) (F0 m 59 ls []) := by
        intro n
        induction n with
        | zero => intro i hm; exact absurd hm (Nat.not_lt_zero _)
        | succ n ih =>
          intro i hm hi H locs w ls hl
          refine lv_iload_n hx hb dX7_changed_59 rfl (lv_at hl 0 rfl) ?_
          refine lv_sipush (v := 180) hx hb dX7_changed_60 (by decide +kernel) ?_
          refine x_icN_ge (i := i) (j := 180) (tgt := 93) hx hb (by omega) (by omega) dX7_changed_63 (by decide) (fun c63_3 => ?_) (fun c63_3 => ?_)
          ·
            have hE : i = 180 := (by omega)
            refine lv_aload_n hx hb dX7_changed_93 rfl (lv_at hl 1 rfl) ?_
            refine lv_dup hx hb dX7_changed_94 rfl ?_
            refine x_get (v := .int (nI k)) (T := TX7) C w 0 3 rfl rfl (fun _ h => List.mem_cons_of_mem _ (List.mem_append_right _ (h))) (List.mem_of_getElem? (i := 2) rfl) (by decide) rfl dX7_changed_95 ?_
            refine lv_iconst (v := 1) hx hb dX7_changed_98 (by decide +kernel) ?_
            refine x_iaddN (i := k) (j := 1) hx hb dX7_changed_99 ?_
            refine x_put (v := .int (nI (k + 1))) (ty := .int) (T := TX7) (ws2 := mR cI o (fl G) K (ptF h (180 * k) K i) (nI (k + 1)) T tn f) C w 0 3 rfl rfl (fun _ h => List.mem_cons_of_mem _ (List.mem_append_right _ (h))) tyX7 tyX7_ok nmX7 (List.mem_of_getElem? (i := 2) rfl) (by decide) (Nat.le_of_ble_eq_true rfl) rfl (by decide +kernel) rfl rfl (mRs3 _ _ _ _ _ _ _ _ _ _) dX7_changed_100 (fun H locs w => ?_)
            refine lv_iload_n hx hb dX7_changed_103 rfl (lv_at hl 2 rfl) ?_
            exact x_iret C w rfl (by rw [hE, hp_n hk, kp_n hk]) dX7_changed_104
          ·
            refine lv_aload_n hx hb dX7_changed_66 rfl (lv_at hl 1 rfl) ?_
            refine x_get (v := .ref (o 3)) (T := TX7) C w 0 2 rfl rfl (fun _ h => List.mem_cons_of_mem _ (List.mem_append_right _ (h))) (List.mem_of_getElem? (i := 3) rfl) (by decide) rfl dX7_changed_67 ?_
            refine lv_sipush (v := 180) hx hb dX7_changed_70 (by decide +kernel) ?_
            refine lv_aload_n hx hb dX7_changed_73 rfl (lv_at hl 1 rfl) ?_
            refine x_get (v := .int (nI k)) (T := TX7) C w 0 3 rfl rfl (fun _ h => List.mem_cons_of_mem _ (List.mem_append_right _ (h))) (List.mem_of_getElem? (i := 2) rfl) (by decide) rfl dX7_changed_74 ?_
            refine x_imulN (i := 180) (j := k) hx hb dX7_changed_77 ?_
            refine lv_iload_n hx hb dX7_changed_78 rfl (lv_at hl 0 rfl) ?_
            refine x_iaddN (i := 180 * k) (j := i) hx hb dX7_changed_79 ?_
            refine lv_aload_n hx hb dX7_changed_80 rfl (lv_at hl 1 rfl) ?_
            refine x_get (v := .ref (o 2)) (T := TX7) C w 0 1 rfl rfl (fun _ h => List.mem_cons_of_mem _ (List.mem_append_right _ (h))) (List.mem_of_getElem? (i := 4) rfl) (by decide) rfl dX7_changed_81 ?_
            refine lv_iload_n hx hb dX7_changed_84 rfl (lv_at hl 0 rfl) ?_
            refine x_iald (v := K i) C w 2 0 (i) rfl ht0 rfl (by omega) (by decide) rfl dX7_changed_85 ?_
            refine x_iast (ws2 := mR cI o (fl G) K (upd (ptF h (180 * k) K i) ((180 * k) + i) (K i)) (nI k) T tn f) C w 3 0 ((180 * k) + i) rfl ht0 rfl (by omega) (by decide) rfl dX7_changed_86 (fun H locs w => ?_)
            refine lv_iinc (v := nI (i + 1)) (lv' := [(2, .int (nI (i + 1))), (0, .ref (o 0)), (1, .int a1)]) hx hb dX7_changed_87 hl (k := 0) rfl (nI_add i 1) (by decide) rfl (fun ls hl => ?_)
            refine lv_goto (tgt := 59) hx hb dX7_changed_90 (by decide) ?_
            have hl : lv_has ls 3 [(2, .int (nI (i + 1))), (0, .ref (o 0)), (1, .int a1)] := lv_eqL (lv_sub (l' := [(2, .int (nI (i + 1))), (0, .ref (o 0)), (1, .int a1)]) hl [0, 1, 2] rfl) (cg2 List.cons rfl (cg2 List.cons rfl (cg2 List.cons rfl rfl)))
            have w : xW D A s.heap (mR cI o (fl G) K (ptF h (180 * k) K (i + 1)) (nI k) T tn f) _ _ := x_ws (congrArg (fun z => mR cI o (fl G) K z (nI k) T tn f) (ptF_s h (180 * k) K i)) w
            exact ih (i + 1) (by omega) (by omega) _ _ w _ hl
      have q4 : 0 = (nI 0 : Int32) := (by first | rfl | contradiction | (simp [c3_1, c13_2]; done))
      have hl : lv_has ls 3 [(2, .int (nI 0)), (0, .ref (o 0)), (1, .int a1)] := lv_eqL (lv_sub (l' := [(2, .int 0), (0, .ref (o 0)), (1, .int a1)]) hl [0, 1, 2] rfl) (cg2 List.cons (congrArg (fun z => ((2 : Nat), Value.int z)) q4) (cg2 List.cons rfl (cg2 List.cons rfl rfl)))
      have w : xW D A s.heap (mR cI o (fl G) K (ptF h (180 * k) K 0) (nI k) T tn f) _ _ := x_ws (congrArg (fun z => mR cI o (fl G) K z (nI k) T tn f) (ptF_0 h (180 * k) K)) w
      exact loop_59 (181) 0 (by omega) (by omega) _ _ w _ hl
    ·
      exact absurd c13_2 (by omega)
  ·
    exact absurd c3_1 hok
set_option maxHeartbeats 1000000 in
set_option maxRecDepth 100000 in
theorem k_X7_changed_4 (l : Launch) (D : va_G) (cI cS : ClassId) (tys : List (ClassId × FieldType)) (ht0 : tys[0]? = some (cI, .int)) (o : Nat → Nat) (G : St) (K : Nat → Int32) (h : Nat → Int32) (T : Nat → Int32) (tn : Int32) (f : Nat → Int32) (a1 : Int32) (hok : ¬ a1 < -1000000) : xI l yX7_changed wsX7_changed 0 D tys [.ref (o 0), .int a1] (mR cI o (fl G) K h (nI 4) T tn f) a1 (mR cI o (fl G) K (hpF 4 h K) (nI (kpN 4)) T tn f) := by
  refine x_inI (cc := cX7_changed) (maxL := 3) (ret := (some .int)) (by decide) rfl (Nat.le_of_ble_eq_true rfl) ?_
  intro p e s m args below meth c A ls C w hl
  have C : xC p s m meth c args cX7_changed 3 wsX7_changed RX7 D tys (some .int) := C
  have hx := C.1.1
  have hb := C.1.2.1
  have hts := C.1.2.2.2.2
  have hown := C.1.2.2.2.1
  have w : xW D A s.heap (mR cI o (fl G) K h (nI 4) T tn f) s.heap [] := w
  have hl : lv_has ls 3 [(0, .ref (o 0)), (1, .int a1)] := hl
  refine lv_iload_n hx hb dX7_changed_0 rfl (lv_at hl 1 rfl) ?_
  refine lv_ldc (v := -1000000) hx hb hown (hts _ (List.mem_of_getElem? (i := 1) rfl)) dX7_changed_1 ?_
  refine x_icR_ge (x := a1) (y := (-1000000)) (tgt := 8) hx hb dX7_changed_3 (by decide) (fun c3_1 => ?_) (fun c3_1 => ?_)
  ·
    refine lv_aload_n hx hb dX7_changed_8 rfl (lv_at hl 0 rfl) ?_
    refine x_get (v := .int (nI 4)) (T := TX7) C w 0 3 rfl rfl (fun _ h => List.mem_cons_of_mem _ (List.mem_append_right _ (h))) (List.mem_of_getElem? (i := 2) rfl) (by decide) rfl dX7_changed_9 ?_
    refine lv_iconst (v := 4) hx hb dX7_changed_12 (by decide +kernel) ?_
    refine x_icN_ne (i := 4) (j := 4) (tgt := 57) hx hb (by omega) (by omega) dX7_changed_13 (by decide) (fun c13_2 => ?_) (fun c13_2 => ?_)
    ·
      exact absurd rfl c13_2
    ·
      refine lv_iconst (v := 0) hx hb dX7_changed_16 (by decide +kernel) ?_
      refine lv_istore_n (lv' := [(2, .int 0), (0, .ref (o 0)), (1, .int a1)]) hx hb dX7_changed_17 rfl hl (by decide) rfl (fun ls hl => ?_)
      have loop_18 : ∀ (n : Nat) (i : Nat), 540 - i < n → (i ≤ 540) → ∀ (H : Heap) (locs : List Loc), xW D A s.heap (mR cI o (fl G) K (shF h i) (nI 4) T tn f) H locs → ∀ ls : Array Slot, lv_has ls 3 [(2, .int (nI i)), (0, .ref (o 0)), (1, .int a1)] → W p l e (rmd 0) s m args below meth c H locs 0 0 (MQ below (xQi D tys a1 (mR cI o (fl G) K (hpF 4 h K) (nI (kpN 4)) T tn f) A) args s 0 0 A) (F0 m 18 ls []) := by
        intro n
        induction n with
        | zero => intro i hm; exact absurd hm (Nat.not_lt_zero _)
        | succ n ih =>
          intro i hm hi H locs w ls hl
          refine lv_iload_n hx hb dX7_changed_18 rfl (lv_at hl 0 rfl) ?_
          refine lv_sipush (v := 540) hx hb dX7_changed_19 (by decide +kernel) ?_
          refine x_icN_ge (i := i) (j := 540) (tgt := 47) hx hb (by omega) (by omega) dX7_changed_22 (by decide) (fun c22_3 => ?_) (fun c22_3 => ?_)
          ·
            have hE : i = 540 := (by omega)
            have w : xW D A s.heap (mR cI o (fl G) K (shF h 540) (nI 4) T tn f) _ _ := x_ws (by rw [hE]) w
            refine lv_aload_n hx hb dX7_changed_47 rfl (lv_at hl 1 rfl) ?_
            refine lv_dup hx hb dX7_changed_48 rfl ?_
            refine x_get (v := .int (nI 4)) (T := TX7) C w 0 3 rfl rfl (fun _ h => List.mem_cons_of_mem _ (List.mem_append_right _ (h))) (List.mem_of_getElem? (i := 2) rfl) (by decide) rfl dX7_changed_49 ?_
            refine lv_iconst (v := 1) hx hb dX7_changed_52 (by decide +kernel) ?_
            refine x_isubN (i := 4) (j := 1) hx hb (by decide) dX7_changed_53 ?_
            refine x_put (v := .int (nI (4 - 1))) (ty := .int) (T := TX7) (ws2 := mR cI o (fl G) K (shF h 540) (nI (4 - 1)) T tn f) C w 0 3 rfl rfl (fun _ h => List.mem_cons_of_mem _ (List.mem_append_right _ (h))) tyX7 tyX7_ok nmX7 (List.mem_of_getElem? (i := 2) rfl) (by decide) (Nat.le_of_ble_eq_true rfl) rfl (by decide +kernel) rfl rfl (mRs3 _ _ _ _ _ _ _ _ _ _) dX7_changed_54 (fun H locs w => ?_)
            refine lv_iconst (v := 0) hx hb dX7_changed_57 (by decide +kernel) ?_
            refine lv_istore_n (lv' := [(2, .int 0), (0, .ref (o 0)), (1, .int a1)]) hx hb dX7_changed_58 rfl hl (by decide) rfl (fun ls hl => ?_)
            have loop_59 : ∀ (n : Nat) (i : Nat), 180 - i < n → (i ≤ 180) → ∀ (H : Heap) (locs : List Loc), xW D A s.heap (mR cI o (fl G) K (ptF (shF h 540) (180 * (4 - 1)) K i) (nI (4 - 1)) T tn f) H locs → ∀ ls : Array Slot, lv_has ls 3 [(2, .int (nI i)), (0, .ref (o 0)), (1, .int a1)] → W p l e (rmd 0) s m args below meth c H locs 0 0 (MQ below (xQi D tys a1 (mR cI o (fl G) K (hpF 4 h K) (nI (kpN 4)) T tn f) A) args s 0 0 A) (F0 m 59 ls []) := by
              intro n
              induction n with
              | zero => intro i hm; exact absurd hm (Nat.not_lt_zero _)
              | succ n ih =>
                intro i hm hi H locs w ls hl
                refine lv_iload_n hx hb dX7_changed_59 rfl (lv_at hl 0 rfl) ?_
                refine lv_sipush (v := 180) hx hb dX7_changed_60 (by decide +kernel) ?_
                refine x_icN_ge (i := i) (j := 180) (tgt := 93) hx hb (by omega) (by omega) dX7_changed_63 (by decide) (fun c63_4 => ?_) (fun c63_4 => ?_)
                ·
                  have hE : i = 180 := (by omega)
                  refine lv_aload_n hx hb dX7_changed_93 rfl (lv_at hl 1 rfl) ?_
                  refine lv_dup hx hb dX7_changed_94 rfl ?_
                  refine x_get (v := .int (nI (4 - 1))) (T := TX7) C w 0 3 rfl rfl (fun _ h => List.mem_cons_of_mem _ (List.mem_append_right _ (h))) (List.mem_of_getElem? (i := 2) rfl) (by decide) rfl dX7_changed_95 ?_
                  refine lv_iconst (v := 1) hx hb dX7_changed_98 (by decide +kernel) ?_
                  refine x_iaddN (i := 4 - 1) (j := 1) hx hb dX7_changed_99 ?_
                  refine x_put (v := .int (nI ((4 - 1) + 1))) (ty := .int) (T := TX7) (ws2 := mR cI o (fl G) K (ptF (shF h 540) (180 * (4 - 1)) K i) (nI ((4 - 1) + 1)) T tn f) C w 0 3 rfl rfl (fun _ h => List.mem_cons_of_mem _ (List.mem_append_right _ (h))) tyX7 tyX7_ok nmX7 (List.mem_of_getElem? (i := 2) rfl) (by decide) (Nat.le_of_ble_eq_true rfl) rfl (by decide +kernel) rfl rfl (mRs3 _ _ _ _ _ _ _ _ _ _) dX7_changed_100 (fun H locs w => ?_)
                  refine lv_iload_n hx hb dX7_changed_103 rfl (lv_at hl 2 rfl) ?_
                  exact x_iret C w rfl (by rw [hE]; rfl) dX7_changed_104
                ·
                  refine lv_aload_n hx hb dX7_changed_66 rfl (lv_at hl 1 rfl) ?_
                  refine x_get (v := .ref (o 3)) (T := TX7) C w 0 2 rfl rfl (fun _ h => List.mem_cons_of_mem _ (List.mem_append_right _ (h))) (List.mem_of_getElem? (i := 3) rfl) (by decide) rfl dX7_changed_67 ?_
                  refine lv_sipush (v := 180) hx hb dX7_changed_70 (by decide +kernel) ?_
                  refine lv_aload_n hx hb dX7_changed_73 rfl (lv_at hl 1 rfl) ?_
                  refine x_get (v := .int (nI (4 - 1))) (T := TX7) C w 0 3 rfl rfl (fun _ h => List.mem_cons_of_mem _ (List.mem_append_right _ (h))) (List.mem_of_getElem? (i := 2) rfl) (by decide) rfl dX7_changed_74 ?_
                  refine x_imulN (i := 180) (j := 4 - 1) hx hb dX7_changed_77 ?_
                  refine lv_iload_n hx hb dX7_changed_78 rfl (lv_at hl 0 rfl) ?_
                  refine x_iaddN (i := 180 * (4 - 1)) (j := i) hx hb dX7_changed_79 ?_
                  refine lv_aload_n hx hb dX7_changed_80 rfl (lv_at hl 1 rfl) ?_
                  refine x_get (v := .ref (o 2)) (T := TX7) C w 0 1 rfl rfl (fun _ h => List.mem_cons_of_mem _ (List.mem_append_right _ (h))) (List.mem_of_getElem? (i := 4) rfl) (by decide) rfl dX7_changed_81 ?_
                  refine lv_iload_n hx hb dX7_changed_84 rfl (lv_at hl 0 rfl) ?_
                  refine x_iald (v := K i) C w 2 0 (i) rfl ht0 rfl (by omega) (by decide) rfl dX7_changed_85 ?_
                  refine x_iast (ws2 := mR cI o (fl G) K (upd (ptF (shF h 540) (180 * (4 - 1)) K i) ((180 * (4 - 1)) + i) (K i)) (nI (4 - 1)) T tn f) C w 3 0 ((180 * (4 - 1)) + i) rfl ht0 rfl (by omega) (by decide) rfl dX7_changed_86 (fun H locs w => ?_)
                  refine lv_iinc (v := nI (i + 1)) (lv' := [(2, .int (nI (i + 1))), (0, .ref (o 0)), (1, .int a1)]) hx hb dX7_changed_87 hl (k := 0) rfl (nI_add i 1) (by decide) rfl (fun ls hl => ?_)
                  refine lv_goto (tgt := 59) hx hb dX7_changed_90 (by decide) ?_
                  have hl : lv_has ls 3 [(2, .int (nI (i + 1))), (0, .ref (o 0)), (1, .int a1)] := lv_eqL (lv_sub (l' := [(2, .int (nI (i + 1))), (0, .ref (o 0)), (1, .int a1)]) hl [0, 1, 2] rfl) (cg2 List.cons rfl (cg2 List.cons rfl (cg2 List.cons rfl rfl)))
                  have w : xW D A s.heap (mR cI o (fl G) K (ptF (shF h 540) (180 * (4 - 1)) K (i + 1)) (nI (4 - 1)) T tn f) _ _ := x_ws (congrArg (fun z => mR cI o (fl G) K z (nI (4 - 1)) T tn f) (ptF_s (shF h 540) (180 * (4 - 1)) K i)) w
                  exact ih (i + 1) (by omega) (by omega) _ _ w _ hl
            have q5 : 0 = (nI 0 : Int32) := (by first | rfl | contradiction | (simp [c3_1, c13_2, c22_3, hE]; done))
            have hl : lv_has ls 3 [(2, .int (nI 0)), (0, .ref (o 0)), (1, .int a1)] := lv_eqL (lv_sub (l' := [(2, .int 0), (0, .ref (o 0)), (1, .int a1)]) hl [0, 1, 2] rfl) (cg2 List.cons (congrArg (fun z => ((2 : Nat), Value.int z)) q5) (cg2 List.cons rfl (cg2 List.cons rfl rfl)))
            have w : xW D A s.heap (mR cI o (fl G) K (ptF (shF h 540) (180 * (4 - 1)) K 0) (nI (4 - 1)) T tn f) _ _ := x_ws (congrArg (fun z => mR cI o (fl G) K z (nI (4 - 1)) T tn f) (ptF_0 (shF h 540) (180 * (4 - 1)) K)) w
            exact loop_59 (181) 0 (by omega) (by omega) _ _ w _ hl
          ·
            refine lv_aload_n hx hb dX7_changed_25 rfl (lv_at hl 1 rfl) ?_
            refine x_get (v := .ref (o 3)) (T := TX7) C w 0 2 rfl rfl (fun _ h => List.mem_cons_of_mem _ (List.mem_append_right _ (h))) (List.mem_of_getElem? (i := 3) rfl) (by decide) rfl dX7_changed_26 ?_
            refine lv_iload_n hx hb dX7_changed_29 rfl (lv_at hl 0 rfl) ?_
            refine lv_aload_n hx hb dX7_changed_30 rfl (lv_at hl 1 rfl) ?_
            refine x_get (v := .ref (o 3)) (T := TX7) C w 0 2 rfl rfl (fun _ h => List.mem_cons_of_mem _ (List.mem_append_right _ (h))) (List.mem_of_getElem? (i := 3) rfl) (by decide) rfl dX7_changed_31 ?_
            refine lv_iload_n hx hb dX7_changed_34 rfl (lv_at hl 0 rfl) ?_
            refine lv_sipush (v := 180) hx hb dX7_changed_35 (by decide +kernel) ?_
            refine x_iaddN (i := i) (j := 180) hx hb dX7_changed_38 ?_
            refine x_iald (v := (shF h i) (i + 180)) C w 3 0 (i + 180) rfl ht0 rfl (by omega) (by decide) rfl dX7_changed_39 ?_
            refine x_iast (ws2 := mR cI o (fl G) K (upd (shF h i) i ((shF h i) (i + 180))) (nI 4) T tn f) C w 3 0 (i) rfl ht0 rfl (by omega) (by decide) rfl dX7_changed_40 (fun H locs w => ?_)
            refine lv_iinc (v := nI (i + 1)) (lv' := [(2, .int (nI (i + 1))), (0, .ref (o 0)), (1, .int a1)]) hx hb dX7_changed_41 hl (k := 0) rfl (nI_add i 1) (by decide) rfl (fun ls hl => ?_)
            refine lv_goto (tgt := 18) hx hb dX7_changed_44 (by decide) ?_
            have hl : lv_has ls 3 [(2, .int (nI (i + 1))), (0, .ref (o 0)), (1, .int a1)] := lv_eqL (lv_sub (l' := [(2, .int (nI (i + 1))), (0, .ref (o 0)), (1, .int a1)]) hl [0, 1, 2] rfl) (cg2 List.cons rfl (cg2 List.cons rfl (cg2 List.cons rfl rfl)))
            have w : xW D A s.heap (mR cI o (fl G) K (shF h (i + 1)) (nI 4) T tn f) _ _ := x_ws (congrArg (fun z => mR cI o (fl G) K z (nI 4) T tn f) (shF_s h i)) w
            exact ih (i + 1) (by omega) (by omega) _ _ w _ hl
      have q6 : 0 = (nI 0 : Int32) := (by first | rfl | contradiction | (simp [c3_1, c13_2]; done))
      have hl : lv_has ls 3 [(2, .int (nI 0)), (0, .ref (o 0)), (1, .int a1)] := lv_eqL (lv_sub (l' := [(2, .int 0), (0, .ref (o 0)), (1, .int a1)]) hl [0, 1, 2] rfl) (cg2 List.cons (congrArg (fun z => ((2 : Nat), Value.int z)) q6) (cg2 List.cons rfl (cg2 List.cons rfl rfl)))
      have w : xW D A s.heap (mR cI o (fl G) K (shF h 0) (nI 4) T tn f) _ _ := x_ws (congrArg (fun z => mR cI o (fl G) K z (nI 4) T tn f) (shF_0 h)) w
      exact loop_18 (541) 0 (by omega) (by omega) _ _ w _ hl
  ·
    exact absurd c3_1 hok
set_option maxHeartbeats 1000000 in
set_option maxRecDepth 100000 in
theorem k_X7_changed (l : Launch) (D : va_G) (cI cS : ClassId) (tys : List (ClassId × FieldType)) (ht0 : tys[0]? = some (cI, .int)) (o : Nat → Nat) (G : St) (K : Nat → Int32) (h : Nat → Int32) (T : Nat → Int32) (tn : Int32) (f : Nat → Int32) (a1 : Int32) (k : Nat) (hok : ¬ a1 < -1000000) (hk : k ≤ 4) : xI l yX7_changed wsX7_changed 0 D tys [.ref (o 0), .int a1] (mR cI o (fl G) K h (nI k) T tn f) a1 (mR cI o (fl G) K (hpF k h K) (nI (kpN k)) T tn f) := by
  by_cases q : k = 4
  · subst q
    exact k_X7_changed_4 l D cI cS tys ht0 o G K h T tn f a1 hok
  · exact k_X7_changed_lt l D cI cS tys ht0 o G K h T tn f a1 k hok (by omega)
set_option maxHeartbeats 1000000 in
set_option maxRecDepth 100000 in
theorem k_X7_undo_np (l : Launch) (D : va_G) (cI cS : ClassId) (tys : List (ClassId × FieldType)) (ht0 : tys[0]? = some (cI, .int)) (o : Nat → Nat) (G : St) (K : Nat → Int32) (h : Nat → Int32) (T : Nat → Int32) (tn : Int32) (f : Nat → Int32) (k : Nat) (h0 : k = 0) : xI l yX7_undo wsX7_undo 0 D tys [.ref (o 0)] (mR cI o (fl G) K h (nI k) T tn f) (-1000002) (mR cI o (fl G) K h (nI k) T tn f) := by
  refine x_inI (cc := cX7_undo) (maxL := 2) (ret := (some .int)) (by decide) rfl (Nat.le_of_ble_eq_true rfl) ?_
  intro p e s m args below meth c A ls C w hl
  have C : xC p s m meth c args cX7_undo 2 wsX7_undo RX7 D tys (some .int) := C
  have hx := C.1.1
  have hb := C.1.2.1
  have hts := C.1.2.2.2.2
  have hown := C.1.2.2.2.1
  have w : xW D A s.heap (mR cI o (fl G) K h (nI k) T tn f) s.heap [] := w
  have hl : lv_has ls 2 [(0, .ref (o 0))] := hl
  refine lv_aload_n hx hb dX7_undo_0 rfl (lv_at hl 0 rfl) ?_
  refine x_get (v := .int (nI k)) (T := TX7) C w 0 3 rfl rfl (fun _ h => List.mem_cons_of_mem _ (List.mem_append_right _ (h))) (List.mem_of_getElem? (i := 1) rfl) (by decide) rfl dX7_undo_1 ?_
  refine x_ifR_ne (x := nI k) (tgt := 10) hx hb dX7_undo_4 (by decide) (fun c4_1 => ?_) (fun c4_1 => ?_)
  ·
    exact absurd (by rw [h0]; rfl) c4_1
  ·
    refine lv_ldc (v := -1000002) hx hb hown (hts _ (List.mem_of_getElem? (i := 2) rfl)) dX7_undo_7 ?_
    exact x_iret C w rfl rfl dX7_undo_9
set_option maxHeartbeats 1000000 in
set_option maxRecDepth 100000 in
theorem k_X7_undo_ok (l : Launch) (D : va_G) (cI cS : ClassId) (tys : List (ClassId × FieldType)) (ht0 : tys[0]? = some (cI, .int)) (o : Nat → Nat) (G : St) (K : Nat → Int32) (h : Nat → Int32) (T : Nat → Int32) (tn : Int32) (f : Nat → Int32) (k : Nat) (G2 : St) (hk1 : 1 ≤ k) (hk : k ≤ 4) (hrel : ∀ j, j < 180 → h (180 * (k - 1) + j) = fl G2 j) : xI l yX7_undo wsX7_undo 0 D tys [.ref (o 0)] (mR cI o (fl G) K h (nI k) T tn f) (nI (k - 1)) (mR cI o (fl G2) K h (nI (k - 1)) T tn f) := by
  refine x_inI (cc := cX7_undo) (maxL := 2) (ret := (some .int)) (by decide) rfl (Nat.le_of_ble_eq_true rfl) ?_
  intro p e s m args below meth c A ls C w hl
  have C : xC p s m meth c args cX7_undo 2 wsX7_undo RX7 D tys (some .int) := C
  have hx := C.1.1
  have hb := C.1.2.1
  have hts := C.1.2.2.2.2
  have hown := C.1.2.2.2.1
  have w : xW D A s.heap (mR cI o (fl G) K h (nI k) T tn f) s.heap [] := w
  have hl : lv_has ls 2 [(0, .ref (o 0))] := hl
  refine lv_aload_n hx hb dX7_undo_0 rfl (lv_at hl 0 rfl) ?_
  refine x_get (v := .int (nI k)) (T := TX7) C w 0 3 rfl rfl (fun _ h => List.mem_cons_of_mem _ (List.mem_append_right _ (h))) (List.mem_of_getElem? (i := 1) rfl) (by decide) rfl dX7_undo_1 ?_
  refine x_ifR_ne (x := nI k) (tgt := 10) hx hb dX7_undo_4 (by decide) (fun c4_1 => ?_) (fun c4_1 => ?_)
  ·
    refine lv_aload_n hx hb dX7_undo_10 rfl (lv_at hl 0 rfl) ?_
    refine lv_dup hx hb dX7_undo_11 rfl ?_
    refine x_get (v := .int (nI k)) (T := TX7) C w 0 3 rfl rfl (fun _ h => List.mem_cons_of_mem _ (List.mem_append_right _ (h))) (List.mem_of_getElem? (i := 1) rfl) (by decide) rfl dX7_undo_12 ?_
    refine lv_iconst (v := 1) hx hb dX7_undo_15 (by decide +kernel) ?_
    refine x_isubN (i := k) (j := 1) hx hb hk1 dX7_undo_16 ?_
    refine x_put (v := .int (nI (k - 1))) (ty := .int) (T := TX7) (ws2 := mR cI o (fl G) K h (nI (k - 1)) T tn f) C w 0 3 rfl rfl (fun _ h => List.mem_cons_of_mem _ (List.mem_append_right _ (h))) tyX7 tyX7_ok nmX7 (List.mem_of_getElem? (i := 1) rfl) (by decide) (Nat.le_of_ble_eq_true rfl) rfl (by decide +kernel) rfl rfl (mRs3 _ _ _ _ _ _ _ _ _ _) dX7_undo_17 (fun H locs w => ?_)
    refine lv_iconst (v := 0) hx hb dX7_undo_20 (by decide +kernel) ?_
    refine lv_istore_n (lv' := [(1, .int 0), (0, .ref (o 0))]) hx hb dX7_undo_21 rfl hl (by decide) rfl (fun ls hl => ?_)
    have loop_22 : ∀ (n : Nat) (i : Nat), 180 - i < n → (i ≤ 180) → ∀ (H : Heap) (locs : List Loc), xW D A s.heap (mR cI o (kpF (fun j => h (180 * (k - 1) + j)) (fl G) i) K h (nI (k - 1)) T tn f) H locs → ∀ ls : Array Slot, lv_has ls 2 [(1, .int (nI i)), (0, .ref (o 0))] → W p l e (rmd 0) s m args below meth c H locs 0 0 (MQ below (xQi D tys (nI (k - 1)) (mR cI o (fl G2) K h (nI (k - 1)) T tn f) A) args s 0 0 A) (F0 m 22 ls []) := by
      intro n
      induction n with
      | zero => intro i hm; exact absurd hm (Nat.not_lt_zero _)
      | succ n ih =>
        intro i hm hi H locs w ls hl
        refine lv_iload_n hx hb dX7_undo_22 rfl (lv_at hl 0 rfl) ?_
        refine lv_sipush (v := 180) hx hb dX7_undo_23 (by decide +kernel) ?_
        refine x_icN_ge (i := i) (j := 180) (tgt := 56) hx hb (by omega) (by omega) dX7_undo_26 (by decide) (fun c26_2 => ?_) (fun c26_2 => ?_)
        ·
          have hE : i = 180 := (by omega)
          have w : xW D A s.heap (mR cI o (fl G2) K h (nI (k - 1)) T tn f) _ _ := x_ext w 1 rfl (fun j hj => (by unfold kpF; rw [if_pos (by omega)]; exact hrel j hj)) rfl
          refine lv_aload_n hx hb dX7_undo_56 rfl (lv_at hl 1 rfl) ?_
          refine x_get (v := .int (nI (k - 1))) (T := TX7) C w 0 3 rfl rfl (fun _ h => List.mem_cons_of_mem _ (List.mem_append_right _ (h))) (List.mem_of_getElem? (i := 1) rfl) (by decide) rfl dX7_undo_57 ?_
          exact x_iret C w rfl rfl dX7_undo_60
        ·
          refine lv_aload_n hx hb dX7_undo_29 rfl (lv_at hl 1 rfl) ?_
          refine x_get (v := .ref (o 1)) (T := TX7) C w 0 0 rfl rfl (fun _ h => List.mem_cons_of_mem _ (List.mem_append_right _ (h))) (List.mem_of_getElem? (i := 3) rfl) (by decide) rfl dX7_undo_30 ?_
          refine lv_iload_n hx hb dX7_undo_33 rfl (lv_at hl 0 rfl) ?_
          refine lv_aload_n hx hb dX7_undo_34 rfl (lv_at hl 1 rfl) ?_
          refine x_get (v := .ref (o 3)) (T := TX7) C w 0 2 rfl rfl (fun _ h => List.mem_cons_of_mem _ (List.mem_append_right _ (h))) (List.mem_of_getElem? (i := 4) rfl) (by decide) rfl dX7_undo_35 ?_
          refine lv_sipush (v := 180) hx hb dX7_undo_38 (by decide +kernel) ?_
          refine lv_aload_n hx hb dX7_undo_41 rfl (lv_at hl 1 rfl) ?_
          refine x_get (v := .int (nI (k - 1))) (T := TX7) C w 0 3 rfl rfl (fun _ h => List.mem_cons_of_mem _ (List.mem_append_right _ (h))) (List.mem_of_getElem? (i := 1) rfl) (by decide) rfl dX7_undo_42 ?_
          refine x_imulN (i := 180) (j := k - 1) hx hb dX7_undo_45 ?_
          refine lv_iload_n hx hb dX7_undo_46 rfl (lv_at hl 0 rfl) ?_
          refine x_iaddN (i := 180 * (k - 1)) (j := i) hx hb dX7_undo_47 ?_
          refine x_iald (v := h ((180 * (k - 1)) + i)) C w 3 0 ((180 * (k - 1)) + i) rfl ht0 rfl (by omega) (by decide) rfl dX7_undo_48 ?_
          refine x_iast (ws2 := mR cI o (upd (kpF (fun j => h (180 * (k - 1) + j)) (fl G) i) i (h ((180 * (k - 1)) + i))) K h (nI (k - 1)) T tn f) C w 1 0 (i) rfl ht0 rfl (by omega) (by decide) rfl dX7_undo_49 (fun H locs w => ?_)
          refine lv_iinc (v := nI (i + 1)) (lv' := [(1, .int (nI (i + 1))), (0, .ref (o 0))]) hx hb dX7_undo_50 hl (k := 0) rfl (nI_add i 1) (by decide) rfl (fun ls hl => ?_)
          refine lv_goto (tgt := 22) hx hb dX7_undo_53 (by decide) ?_
          have hl : lv_has ls 2 [(1, .int (nI (i + 1))), (0, .ref (o 0))] := lv_eqL (lv_sub (l' := [(1, .int (nI (i + 1))), (0, .ref (o 0))]) hl [0, 1] rfl) (cg2 List.cons rfl (cg2 List.cons rfl rfl))
          have w : xW D A s.heap (mR cI o (kpF (fun j => h (180 * (k - 1) + j)) (fl G) (i + 1)) K h (nI (k - 1)) T tn f) _ _ := x_ws (congrArg (fun z => mR cI o z K h (nI (k - 1)) T tn f) (kpF_s (fun j => h (180 * (k - 1) + j)) (fl G) i)) w
          exact ih (i + 1) (by omega) (by omega) _ _ w _ hl
    have q3 : 0 = (nI 0 : Int32) := (by first | rfl | contradiction | (simp [c4_1]; done))
    have hl : lv_has ls 2 [(1, .int (nI 0)), (0, .ref (o 0))] := lv_eqL (lv_sub (l' := [(1, .int 0), (0, .ref (o 0))]) hl [0, 1] rfl) (cg2 List.cons (congrArg (fun z => ((1 : Nat), Value.int z)) q3) (cg2 List.cons rfl rfl))
    have w : xW D A s.heap (mR cI o (kpF (fun j => h (180 * (k - 1) + j)) (fl G) 0) K h (nI (k - 1)) T tn f) _ _ := x_ws (congrArg (fun z => mR cI o z K h (nI (k - 1)) T tn f) (kpF_0 (fun j => h (180 * (k - 1) + j)) (fl G))) w
    exact loop_22 (181) 0 (by omega) (by omega) _ _ w _ hl
  ·
    exact absurd c4_1 (nI_ne0 (by omega) (by omega))
set_option maxHeartbeats 1000000 in
set_option maxRecDepth 100000 in
theorem k_X7_doSet_0 (l : Launch) (D : va_G) (cI cS : ClassId) (tys : List (ClassId × FieldType)) (ht0 : tys[0]? = some (cI, .int)) (o : Nat → Nat) (G : St) (K : Nat → Int32) (h : Nat → Int32) (hn : Int32) (T : Nat → Int32) (tn : Int32) (f : Nat → Int32) (a2 : Int32) (hok : wth a2 1 500 = true) : xI l yX7_doSet wsX7_doSet 1 D tys [.ref (o 0), .int 0, .int a2] (mR cI o (fl G) K h hn T tn f) (G 8 0) (mR cI o (fl (s2 G 8 0 a2)) K h hn T tn f) := by
  refine x_inI (cc := cX7_doSet) (maxL := 5) (ret := (some .int)) (by decide) rfl (Nat.le_of_ble_eq_true rfl) ?_
  intro p e s m args below meth c A ls C w hl
  have C : xC p s m meth c args cX7_doSet 5 wsX7_doSet RX7 D tys (some .int) := C
  have hx := C.1.1
  have hb := C.1.2.1
  have hts := C.1.2.2.2.2
  have hown := C.1.2.2.2.1
  have w : xW D A s.heap (mR cI o (fl G) K h hn T tn f) s.heap [] := w
  have hl : lv_has ls 5 [(0, .ref (o 0)), (1, .int 0), (2, .int a2)] := hl
  refine lv_iload_n hx hb dX7_doSet_0 rfl (lv_at hl 1 rfl) ?_
  refine x_ifR_eq (x := 0) (tgt := 9) hx hb dX7_doSet_1 (by decide) (fun _ => ?_) (fun h => absurd h (by decide))
  refine lv_iload_n hx hb dX7_doSet_9 rfl (lv_at hl 2 rfl) ?_
  refine lv_i2l (v := Int32.toInt64 a2) hx hb dX7_doSet_10 rfl ?_
  refine lv_lconst (v := 1) hx hb dX7_doSet_11 (by decide +kernel) ?_
  refine lv_ldc2 (v := 500) hx hb hown (hts _ (List.mem_of_getElem? (i := 1) rfl)) dX7_doSet_12 ?_
  refine x_callSi (wr := mR cI o (fl G) K h hn T tn f) (w2 := mR cI o (fl G) K h hn T tn f) (rest := []) (n := 3) C w hl [.long (Int32.toInt64 a2), .long 1, .long 500] (k_X7_in l D cI cS tys ht0 (Int32.toInt64 a2) 1 500 ) gX7_doSet_X7_in rfl (by decide +kernel) ⟨Nat.le_of_ble_eq_true rfl, Nat.le_of_ble_eq_true rfl⟩ rfl rfl (Nat.le_of_ble_eq_true rfl) [] [0, 1, 2, 3, 4] (by decide) rfl rfl (by decide) (by decide) [0, 1, 2, 3, 4] (by decide) rfl ⟨Nat.zero_le _, Nat.zero_le _⟩ dX7_doSet_15 (fun H locs w => ?_)
  refine x_top (y := bI (wth a2 1 500 = true)) (bI_c (lg_wth a2 1 500 (by decide) (by decide))) ?_
  refine lv_goto (tgt := 60) hx hb dX7_doSet_18 (by decide) ?_
  refine lv_istore_n (lv' := [(3, .int (bI (wth a2 1 500 = true))), (0, .ref (o 0)), (1, .int 0), (2, .int a2)]) hx hb dX7_doSet_60 rfl hl (by decide) rfl (fun ls hl => ?_)
  refine lv_iload_n hx hb dX7_doSet_61 rfl (lv_at hl 0 rfl) ?_
  refine x_ifB_ne (P := wth a2 1 500 = true) (tgt := 68) hx hb dX7_doSet_62 (by decide) (fun c62_2 => ?_) (fun c62_2 => ?_)
  ·
    refine lv_aload_n hx hb dX7_doSet_68 rfl (lv_at hl 1 rfl) ?_
    refine x_get (v := .ref (o 1)) (T := TX7) C w 0 0 rfl rfl (fun _ h => List.mem_cons_of_mem _ (List.mem_append_right _ (h))) (List.mem_of_getElem? (i := 4) rfl) (by decide) rfl dX7_doSet_69 ?_
    refine lv_sipush (v := 174) hx hb dX7_doSet_72 (by decide +kernel) ?_
    refine lv_iload_n hx hb dX7_doSet_75 rfl (lv_at hl 2 rfl) ?_
    refine lv_iadd (x := 174) (y := 0) hx hb dX7_doSet_76 ?_
    refine x_top (y := 174) (by decide +kernel) ?_
    refine x_iald (v := G 8 0) C w 1 0 (174) rfl ht0 rfl (by omega) (by decide) rfl dX7_doSet_77 ?_
    refine lv_istore (lv' := [(4, .int (G 8 0)), (3, .int (bI (wth a2 1 500 = true))), (0, .ref (o 0)), (1, .int 0), (2, .int a2)]) hx hb dX7_doSet_78 hl (by decide) rfl (fun ls hl => ?_)
    refine lv_aload_n hx hb dX7_doSet_80 rfl (lv_at hl 2 rfl) ?_
    refine x_get (v := .ref (o 1)) (T := TX7) C w 0 0 rfl rfl (fun _ h => List.mem_cons_of_mem _ (List.mem_append_right _ (h))) (List.mem_of_getElem? (i := 4) rfl) (by decide) rfl dX7_doSet_81 ?_
    refine lv_sipush (v := 174) hx hb dX7_doSet_84 (by decide +kernel) ?_
    refine lv_iload_n hx hb dX7_doSet_87 rfl (lv_at hl 3 rfl) ?_
    refine lv_iadd (x := 174) (y := 0) hx hb dX7_doSet_88 ?_
    refine x_top (y := 174) (by decide +kernel) ?_
    refine lv_iload_n hx hb dX7_doSet_89 rfl (lv_at hl 4 rfl) ?_
    refine x_iast (ws2 := mR cI o (fl (s2 G 8 0 a2)) K h hn T tn f) C w 1 0 (174) rfl ht0 rfl (by omega) (by decide) (congrArg (fun z => mR cI o z K h hn T tn f) (fl_u8 _ (i := 0) (by decide) _)) dX7_doSet_90 (fun H locs w => ?_)
    refine lv_iload hx hb dX7_doSet_91 (lv_at hl 0 rfl) ?_
    exact x_iret C w rfl rfl dX7_doSet_93
  ·
    exact absurd hok c62_2
set_option maxHeartbeats 1000000 in
set_option maxRecDepth 100000 in
theorem k_X7_doSet_n0 (l : Launch) (D : va_G) (cI cS : ClassId) (tys : List (ClassId × FieldType)) (ht0 : tys[0]? = some (cI, .int)) (o : Nat → Nat) (G : St) (K : Nat → Int32) (h : Nat → Int32) (hn : Int32) (T : Nat → Int32) (tn : Int32) (f : Nat → Int32) (a2 : Int32) (hno : ¬ wth a2 1 500 = true) : xI l yX7_doSet wsX7_doSet 1 D tys [.ref (o 0), .int 0, .int a2] (mR cI o (fl G) K h hn T tn f) (-1000001) (mR cI o (fl G) K h hn T tn f) := by
  refine x_inI (cc := cX7_doSet) (maxL := 5) (ret := (some .int)) (by decide) rfl (Nat.le_of_ble_eq_true rfl) ?_
  intro p e s m args below meth c A ls C w hl
  have C : xC p s m meth c args cX7_doSet 5 wsX7_doSet RX7 D tys (some .int) := C
  have hx := C.1.1
  have hb := C.1.2.1
  have hts := C.1.2.2.2.2
  have hown := C.1.2.2.2.1
  have w : xW D A s.heap (mR cI o (fl G) K h hn T tn f) s.heap [] := w
  have hl : lv_has ls 5 [(0, .ref (o 0)), (1, .int 0), (2, .int a2)] := hl
  refine lv_iload_n hx hb dX7_doSet_0 rfl (lv_at hl 1 rfl) ?_
  refine x_ifR_eq (x := 0) (tgt := 9) hx hb dX7_doSet_1 (by decide) (fun _ => ?_) (fun h => absurd h (by decide))
  refine lv_iload_n hx hb dX7_doSet_9 rfl (lv_at hl 2 rfl) ?_
  refine lv_i2l (v := Int32.toInt64 a2) hx hb dX7_doSet_10 rfl ?_
  refine lv_lconst (v := 1) hx hb dX7_doSet_11 (by decide +kernel) ?_
  refine lv_ldc2 (v := 500) hx hb hown (hts _ (List.mem_of_getElem? (i := 1) rfl)) dX7_doSet_12 ?_
  refine x_callSi (wr := mR cI o (fl G) K h hn T tn f) (w2 := mR cI o (fl G) K h hn T tn f) (rest := []) (n := 3) C w hl [.long (Int32.toInt64 a2), .long 1, .long 500] (k_X7_in l D cI cS tys ht0 (Int32.toInt64 a2) 1 500 ) gX7_doSet_X7_in rfl (by decide +kernel) ⟨Nat.le_of_ble_eq_true rfl, Nat.le_of_ble_eq_true rfl⟩ rfl rfl (Nat.le_of_ble_eq_true rfl) [] [0, 1, 2, 3, 4] (by decide) rfl rfl (by decide) (by decide) [0, 1, 2, 3, 4] (by decide) rfl ⟨Nat.zero_le _, Nat.zero_le _⟩ dX7_doSet_15 (fun H locs w => ?_)
  refine x_top (y := bI (wth a2 1 500 = true)) (bI_c (lg_wth a2 1 500 (by decide) (by decide))) ?_
  refine lv_goto (tgt := 60) hx hb dX7_doSet_18 (by decide) ?_
  refine lv_istore_n (lv' := [(3, .int (bI (wth a2 1 500 = true))), (0, .ref (o 0)), (1, .int 0), (2, .int a2)]) hx hb dX7_doSet_60 rfl hl (by decide) rfl (fun ls hl => ?_)
  refine lv_iload_n hx hb dX7_doSet_61 rfl (lv_at hl 0 rfl) ?_
  refine x_ifB_ne (P := wth a2 1 500 = true) (tgt := 68) hx hb dX7_doSet_62 (by decide) (fun c62_2 => ?_) (fun c62_2 => ?_)
  ·
    exact absurd c62_2 hno
  ·
    refine lv_ldc (v := -1000001) hx hb hown (hts _ (List.mem_of_getElem? (i := 3) rfl)) dX7_doSet_65 ?_
    exact x_iret C w rfl rfl dX7_doSet_67
set_option maxHeartbeats 1000000 in
set_option maxRecDepth 100000 in
theorem k_X7_doSet_1 (l : Launch) (D : va_G) (cI cS : ClassId) (tys : List (ClassId × FieldType)) (ht0 : tys[0]? = some (cI, .int)) (o : Nat → Nat) (G : St) (K : Nat → Int32) (h : Nat → Int32) (hn : Int32) (T : Nat → Int32) (tn : Int32) (f : Nat → Int32) (a2 : Int32) (hok : wth a2 0 500 = true) : xI l yX7_doSet wsX7_doSet 1 D tys [.ref (o 0), .int 1, .int a2] (mR cI o (fl G) K h hn T tn f) (G 8 1) (mR cI o (fl (s2 G 8 1 a2)) K h hn T tn f) := by
  refine x_inI (cc := cX7_doSet) (maxL := 5) (ret := (some .int)) (by decide) rfl (Nat.le_of_ble_eq_true rfl) ?_
  intro p e s m args below meth c A ls C w hl
  have C : xC p s m meth c args cX7_doSet 5 wsX7_doSet RX7 D tys (some .int) := C
  have hx := C.1.1
  have hb := C.1.2.1
  have hts := C.1.2.2.2.2
  have hown := C.1.2.2.2.1
  have w : xW D A s.heap (mR cI o (fl G) K h hn T tn f) s.heap [] := w
  have hl : lv_has ls 5 [(0, .ref (o 0)), (1, .int 1), (2, .int a2)] := hl
  refine lv_iload_n hx hb dX7_doSet_0 rfl (lv_at hl 1 rfl) ?_
  refine x_ifR_eq (x := 1) (tgt := 9) hx hb dX7_doSet_1 (by decide) (fun h => absurd h (by decide)) (fun _ => ?_)
  refine lv_iload_n hx hb dX7_doSet_4 rfl (lv_at hl 1 rfl) ?_
  refine lv_iconst (v := 3) hx hb dX7_doSet_5 (by decide +kernel) ?_
  refine x_icR_ne (x := 1) (y := 3) (tgt := 21) hx hb dX7_doSet_6 (by decide) (fun _ => ?_) (fun h => absurd h (by decide))
  refine lv_iload_n hx hb dX7_doSet_21 rfl (lv_at hl 1 rfl) ?_
  refine lv_iconst (v := 1) hx hb dX7_doSet_22 (by decide +kernel) ?_
  refine x_icR_ne (x := 1) (y := 1) (tgt := 38) hx hb dX7_doSet_23 (by decide) (fun h => absurd h (by decide)) (fun _ => ?_)
  refine lv_iload_n hx hb dX7_doSet_26 rfl (lv_at hl 2 rfl) ?_
  refine lv_i2l (v := Int32.toInt64 a2) hx hb dX7_doSet_27 rfl ?_
  refine lv_lconst (v := 0) hx hb dX7_doSet_28 (by decide +kernel) ?_
  refine lv_ldc2 (v := 500) hx hb hown (hts _ (List.mem_of_getElem? (i := 1) rfl)) dX7_doSet_29 ?_
  refine x_callSi (wr := mR cI o (fl G) K h hn T tn f) (w2 := mR cI o (fl G) K h hn T tn f) (rest := []) (n := 3) C w hl [.long (Int32.toInt64 a2), .long 0, .long 500] (k_X7_in l D cI cS tys ht0 (Int32.toInt64 a2) 0 500 ) gX7_doSet_X7_in rfl (by decide +kernel) ⟨Nat.le_of_ble_eq_true rfl, Nat.le_of_ble_eq_true rfl⟩ rfl rfl (Nat.le_of_ble_eq_true rfl) [] [0, 1, 2, 3, 4] (by decide) rfl rfl (by decide) (by decide) [0, 1, 2, 3, 4] (by decide) rfl ⟨Nat.zero_le _, Nat.zero_le _⟩ dX7_doSet_32 (fun H locs w => ?_)
  refine x_top (y := bI (wth a2 0 500 = true)) (bI_c (lg_wth a2 0 500 (by decide) (by decide))) ?_
  refine lv_goto (tgt := 60) hx hb dX7_doSet_35 (by decide) ?_
  refine lv_istore_n (lv' := [(3, .int (bI (wth a2 0 500 = true))), (0, .ref (o 0)), (1, .int 1), (2, .int a2)]) hx hb dX7_doSet_60 rfl hl (by decide) rfl (fun ls hl => ?_)
  refine lv_iload_n hx hb dX7_doSet_61 rfl (lv_at hl 0 rfl) ?_
  refine x_ifB_ne (P := wth a2 0 500 = true) (tgt := 68) hx hb dX7_doSet_62 (by decide) (fun c62_4 => ?_) (fun c62_4 => ?_)
  ·
    refine lv_aload_n hx hb dX7_doSet_68 rfl (lv_at hl 1 rfl) ?_
    refine x_get (v := .ref (o 1)) (T := TX7) C w 0 0 rfl rfl (fun _ h => List.mem_cons_of_mem _ (List.mem_append_right _ (h))) (List.mem_of_getElem? (i := 4) rfl) (by decide) rfl dX7_doSet_69 ?_
    refine lv_sipush (v := 174) hx hb dX7_doSet_72 (by decide +kernel) ?_
    refine lv_iload_n hx hb dX7_doSet_75 rfl (lv_at hl 2 rfl) ?_
    refine lv_iadd (x := 174) (y := 1) hx hb dX7_doSet_76 ?_
    refine x_top (y := 175) (by decide +kernel) ?_
    refine x_iald (v := G 8 1) C w 1 0 (175) rfl ht0 rfl (by omega) (by decide) rfl dX7_doSet_77 ?_
    refine lv_istore (lv' := [(4, .int (G 8 1)), (3, .int (bI (wth a2 0 500 = true))), (0, .ref (o 0)), (1, .int 1), (2, .int a2)]) hx hb dX7_doSet_78 hl (by decide) rfl (fun ls hl => ?_)
    refine lv_aload_n hx hb dX7_doSet_80 rfl (lv_at hl 2 rfl) ?_
    refine x_get (v := .ref (o 1)) (T := TX7) C w 0 0 rfl rfl (fun _ h => List.mem_cons_of_mem _ (List.mem_append_right _ (h))) (List.mem_of_getElem? (i := 4) rfl) (by decide) rfl dX7_doSet_81 ?_
    refine lv_sipush (v := 174) hx hb dX7_doSet_84 (by decide +kernel) ?_
    refine lv_iload_n hx hb dX7_doSet_87 rfl (lv_at hl 3 rfl) ?_
    refine lv_iadd (x := 174) (y := 1) hx hb dX7_doSet_88 ?_
    refine x_top (y := 175) (by decide +kernel) ?_
    refine lv_iload_n hx hb dX7_doSet_89 rfl (lv_at hl 4 rfl) ?_
    refine x_iast (ws2 := mR cI o (fl (s2 G 8 1 a2)) K h hn T tn f) C w 1 0 (175) rfl ht0 rfl (by omega) (by decide) (congrArg (fun z => mR cI o z K h hn T tn f) (fl_u8 _ (i := 1) (by decide) _)) dX7_doSet_90 (fun H locs w => ?_)
    refine lv_iload hx hb dX7_doSet_91 (lv_at hl 0 rfl) ?_
    exact x_iret C w rfl rfl dX7_doSet_93
  ·
    exact absurd hok c62_4
set_option maxHeartbeats 1000000 in
set_option maxRecDepth 100000 in
theorem k_X7_doSet_n1 (l : Launch) (D : va_G) (cI cS : ClassId) (tys : List (ClassId × FieldType)) (ht0 : tys[0]? = some (cI, .int)) (o : Nat → Nat) (G : St) (K : Nat → Int32) (h : Nat → Int32) (hn : Int32) (T : Nat → Int32) (tn : Int32) (f : Nat → Int32) (a2 : Int32) (hno : ¬ wth a2 0 500 = true) : xI l yX7_doSet wsX7_doSet 1 D tys [.ref (o 0), .int 1, .int a2] (mR cI o (fl G) K h hn T tn f) (-1000001) (mR cI o (fl G) K h hn T tn f) := by
  refine x_inI (cc := cX7_doSet) (maxL := 5) (ret := (some .int)) (by decide) rfl (Nat.le_of_ble_eq_true rfl) ?_
  intro p e s m args below meth c A ls C w hl
  have C : xC p s m meth c args cX7_doSet 5 wsX7_doSet RX7 D tys (some .int) := C
  have hx := C.1.1
  have hb := C.1.2.1
  have hts := C.1.2.2.2.2
  have hown := C.1.2.2.2.1
  have w : xW D A s.heap (mR cI o (fl G) K h hn T tn f) s.heap [] := w
  have hl : lv_has ls 5 [(0, .ref (o 0)), (1, .int 1), (2, .int a2)] := hl
  refine lv_iload_n hx hb dX7_doSet_0 rfl (lv_at hl 1 rfl) ?_
  refine x_ifR_eq (x := 1) (tgt := 9) hx hb dX7_doSet_1 (by decide) (fun h => absurd h (by decide)) (fun _ => ?_)
  refine lv_iload_n hx hb dX7_doSet_4 rfl (lv_at hl 1 rfl) ?_
  refine lv_iconst (v := 3) hx hb dX7_doSet_5 (by decide +kernel) ?_
  refine x_icR_ne (x := 1) (y := 3) (tgt := 21) hx hb dX7_doSet_6 (by decide) (fun _ => ?_) (fun h => absurd h (by decide))
  refine lv_iload_n hx hb dX7_doSet_21 rfl (lv_at hl 1 rfl) ?_
  refine lv_iconst (v := 1) hx hb dX7_doSet_22 (by decide +kernel) ?_
  refine x_icR_ne (x := 1) (y := 1) (tgt := 38) hx hb dX7_doSet_23 (by decide) (fun h => absurd h (by decide)) (fun _ => ?_)
  refine lv_iload_n hx hb dX7_doSet_26 rfl (lv_at hl 2 rfl) ?_
  refine lv_i2l (v := Int32.toInt64 a2) hx hb dX7_doSet_27 rfl ?_
  refine lv_lconst (v := 0) hx hb dX7_doSet_28 (by decide +kernel) ?_
  refine lv_ldc2 (v := 500) hx hb hown (hts _ (List.mem_of_getElem? (i := 1) rfl)) dX7_doSet_29 ?_
  refine x_callSi (wr := mR cI o (fl G) K h hn T tn f) (w2 := mR cI o (fl G) K h hn T tn f) (rest := []) (n := 3) C w hl [.long (Int32.toInt64 a2), .long 0, .long 500] (k_X7_in l D cI cS tys ht0 (Int32.toInt64 a2) 0 500 ) gX7_doSet_X7_in rfl (by decide +kernel) ⟨Nat.le_of_ble_eq_true rfl, Nat.le_of_ble_eq_true rfl⟩ rfl rfl (Nat.le_of_ble_eq_true rfl) [] [0, 1, 2, 3, 4] (by decide) rfl rfl (by decide) (by decide) [0, 1, 2, 3, 4] (by decide) rfl ⟨Nat.zero_le _, Nat.zero_le _⟩ dX7_doSet_32 (fun H locs w => ?_)
  refine x_top (y := bI (wth a2 0 500 = true)) (bI_c (lg_wth a2 0 500 (by decide) (by decide))) ?_
  refine lv_goto (tgt := 60) hx hb dX7_doSet_35 (by decide) ?_
  refine lv_istore_n (lv' := [(3, .int (bI (wth a2 0 500 = true))), (0, .ref (o 0)), (1, .int 1), (2, .int a2)]) hx hb dX7_doSet_60 rfl hl (by decide) rfl (fun ls hl => ?_)
  refine lv_iload_n hx hb dX7_doSet_61 rfl (lv_at hl 0 rfl) ?_
  refine x_ifB_ne (P := wth a2 0 500 = true) (tgt := 68) hx hb dX7_doSet_62 (by decide) (fun c62_4 => ?_) (fun c62_4 => ?_)
  ·
    exact absurd c62_4 hno
  ·
    refine lv_ldc (v := -1000001) hx hb hown (hts _ (List.mem_of_getElem? (i := 3) rfl)) dX7_doSet_65 ?_
    exact x_iret C w rfl rfl dX7_doSet_67
set_option maxHeartbeats 1000000 in
set_option maxRecDepth 100000 in
theorem k_X7_doSet_2 (l : Launch) (D : va_G) (cI cS : ClassId) (tys : List (ClassId × FieldType)) (ht0 : tys[0]? = some (cI, .int)) (o : Nat → Nat) (G : St) (K : Nat → Int32) (h : Nat → Int32) (hn : Int32) (T : Nat → Int32) (tn : Int32) (f : Nat → Int32) (a2 : Int32) (hok : wth a2 0 200 = true) : xI l yX7_doSet wsX7_doSet 1 D tys [.ref (o 0), .int 2, .int a2] (mR cI o (fl G) K h hn T tn f) (G 8 2) (mR cI o (fl (s2 G 8 2 a2)) K h hn T tn f) := by
  refine x_inI (cc := cX7_doSet) (maxL := 5) (ret := (some .int)) (by decide) rfl (Nat.le_of_ble_eq_true rfl) ?_
  intro p e s m args below meth c A ls C w hl
  have C : xC p s m meth c args cX7_doSet 5 wsX7_doSet RX7 D tys (some .int) := C
  have hx := C.1.1
  have hb := C.1.2.1
  have hts := C.1.2.2.2.2
  have hown := C.1.2.2.2.1
  have w : xW D A s.heap (mR cI o (fl G) K h hn T tn f) s.heap [] := w
  have hl : lv_has ls 5 [(0, .ref (o 0)), (1, .int 2), (2, .int a2)] := hl
  refine lv_iload_n hx hb dX7_doSet_0 rfl (lv_at hl 1 rfl) ?_
  refine x_ifR_eq (x := 2) (tgt := 9) hx hb dX7_doSet_1 (by decide) (fun h => absurd h (by decide)) (fun _ => ?_)
  refine lv_iload_n hx hb dX7_doSet_4 rfl (lv_at hl 1 rfl) ?_
  refine lv_iconst (v := 3) hx hb dX7_doSet_5 (by decide +kernel) ?_
  refine x_icR_ne (x := 2) (y := 3) (tgt := 21) hx hb dX7_doSet_6 (by decide) (fun _ => ?_) (fun h => absurd h (by decide))
  refine lv_iload_n hx hb dX7_doSet_21 rfl (lv_at hl 1 rfl) ?_
  refine lv_iconst (v := 1) hx hb dX7_doSet_22 (by decide +kernel) ?_
  refine x_icR_ne (x := 2) (y := 1) (tgt := 38) hx hb dX7_doSet_23 (by decide) (fun _ => ?_) (fun h => absurd h (by decide))
  refine lv_iload_n hx hb dX7_doSet_38 rfl (lv_at hl 1 rfl) ?_
  refine lv_iconst (v := 2) hx hb dX7_doSet_39 (by decide +kernel) ?_
  refine x_icR_ne (x := 2) (y := 2) (tgt := 59) hx hb dX7_doSet_40 (by decide) (fun h => absurd h (by decide)) (fun _ => ?_)
  refine lv_iload_n hx hb dX7_doSet_43 rfl (lv_at hl 2 rfl) ?_
  refine lv_i2l (v := Int32.toInt64 a2) hx hb dX7_doSet_44 rfl ?_
  refine lv_lconst (v := 0) hx hb dX7_doSet_45 (by decide +kernel) ?_
  refine lv_ldc2 (v := 200) hx hb hown (hts _ (List.mem_of_getElem? (i := 2) rfl)) dX7_doSet_46 ?_
  refine x_callSi (wr := mR cI o (fl G) K h hn T tn f) (w2 := mR cI o (fl G) K h hn T tn f) (rest := []) (n := 3) C w hl [.long (Int32.toInt64 a2), .long 0, .long 200] (k_X7_in l D cI cS tys ht0 (Int32.toInt64 a2) 0 200 ) gX7_doSet_X7_in rfl (by decide +kernel) ⟨Nat.le_of_ble_eq_true rfl, Nat.le_of_ble_eq_true rfl⟩ rfl rfl (Nat.le_of_ble_eq_true rfl) [] [0, 1, 2, 3, 4] (by decide) rfl rfl (by decide) (by decide) [0, 1, 2, 3, 4] (by decide) rfl ⟨Nat.zero_le _, Nat.zero_le _⟩ dX7_doSet_49 (fun H locs w => ?_)
  refine x_top (y := bI (wth a2 0 200 = true)) (bI_c (lg_wth a2 0 200 (by decide) (by decide))) ?_
  refine x_ifB_eq (P := wth a2 0 200 = true) (tgt := 59) hx hb dX7_doSet_52 (by decide) (fun c52_5 => ?_) (fun c52_5 => ?_)
  ·
    exact absurd hok c52_5
  ·
    refine lv_iconst (v := 1) hx hb dX7_doSet_55 (by decide +kernel) ?_
    refine lv_goto (tgt := 60) hx hb dX7_doSet_56 (by decide) ?_
    refine lv_istore_n (lv' := [(3, .int 1), (0, .ref (o 0)), (1, .int 2), (2, .int a2)]) hx hb dX7_doSet_60 rfl hl (by decide) rfl (fun ls hl => ?_)
    refine lv_iload_n hx hb dX7_doSet_61 rfl (lv_at hl 0 rfl) ?_
    refine x_ifR_ne (x := 1) (tgt := 68) hx hb dX7_doSet_62 (by decide) (fun _ => ?_) (fun h => absurd h (by decide))
    refine lv_aload_n hx hb dX7_doSet_68 rfl (lv_at hl 1 rfl) ?_
    refine x_get (v := .ref (o 1)) (T := TX7) C w 0 0 rfl rfl (fun _ h => List.mem_cons_of_mem _ (List.mem_append_right _ (h))) (List.mem_of_getElem? (i := 4) rfl) (by decide) rfl dX7_doSet_69 ?_
    refine lv_sipush (v := 174) hx hb dX7_doSet_72 (by decide +kernel) ?_
    refine lv_iload_n hx hb dX7_doSet_75 rfl (lv_at hl 2 rfl) ?_
    refine lv_iadd (x := 174) (y := 2) hx hb dX7_doSet_76 ?_
    refine x_top (y := 176) (by decide +kernel) ?_
    refine x_iald (v := G 8 2) C w 1 0 (176) rfl ht0 rfl (by omega) (by decide) rfl dX7_doSet_77 ?_
    refine lv_istore (lv' := [(4, .int (G 8 2)), (3, .int 1), (0, .ref (o 0)), (1, .int 2), (2, .int a2)]) hx hb dX7_doSet_78 hl (by decide) rfl (fun ls hl => ?_)
    refine lv_aload_n hx hb dX7_doSet_80 rfl (lv_at hl 2 rfl) ?_
    refine x_get (v := .ref (o 1)) (T := TX7) C w 0 0 rfl rfl (fun _ h => List.mem_cons_of_mem _ (List.mem_append_right _ (h))) (List.mem_of_getElem? (i := 4) rfl) (by decide) rfl dX7_doSet_81 ?_
    refine lv_sipush (v := 174) hx hb dX7_doSet_84 (by decide +kernel) ?_
    refine lv_iload_n hx hb dX7_doSet_87 rfl (lv_at hl 3 rfl) ?_
    refine lv_iadd (x := 174) (y := 2) hx hb dX7_doSet_88 ?_
    refine x_top (y := 176) (by decide +kernel) ?_
    refine lv_iload_n hx hb dX7_doSet_89 rfl (lv_at hl 4 rfl) ?_
    refine x_iast (ws2 := mR cI o (fl (s2 G 8 2 a2)) K h hn T tn f) C w 1 0 (176) rfl ht0 rfl (by omega) (by decide) (congrArg (fun z => mR cI o z K h hn T tn f) (fl_u8 _ (i := 2) (by decide) _)) dX7_doSet_90 (fun H locs w => ?_)
    refine lv_iload hx hb dX7_doSet_91 (lv_at hl 0 rfl) ?_
    exact x_iret C w rfl rfl dX7_doSet_93
set_option maxHeartbeats 1000000 in
set_option maxRecDepth 100000 in
theorem k_X7_doSet_n2 (l : Launch) (D : va_G) (cI cS : ClassId) (tys : List (ClassId × FieldType)) (ht0 : tys[0]? = some (cI, .int)) (o : Nat → Nat) (G : St) (K : Nat → Int32) (h : Nat → Int32) (hn : Int32) (T : Nat → Int32) (tn : Int32) (f : Nat → Int32) (a2 : Int32) (hno : ¬ wth a2 0 200 = true) : xI l yX7_doSet wsX7_doSet 1 D tys [.ref (o 0), .int 2, .int a2] (mR cI o (fl G) K h hn T tn f) (-1000001) (mR cI o (fl G) K h hn T tn f) := by
  refine x_inI (cc := cX7_doSet) (maxL := 5) (ret := (some .int)) (by decide) rfl (Nat.le_of_ble_eq_true rfl) ?_
  intro p e s m args below meth c A ls C w hl
  have C : xC p s m meth c args cX7_doSet 5 wsX7_doSet RX7 D tys (some .int) := C
  have hx := C.1.1
  have hb := C.1.2.1
  have hts := C.1.2.2.2.2
  have hown := C.1.2.2.2.1
  have w : xW D A s.heap (mR cI o (fl G) K h hn T tn f) s.heap [] := w
  have hl : lv_has ls 5 [(0, .ref (o 0)), (1, .int 2), (2, .int a2)] := hl
  refine lv_iload_n hx hb dX7_doSet_0 rfl (lv_at hl 1 rfl) ?_
  refine x_ifR_eq (x := 2) (tgt := 9) hx hb dX7_doSet_1 (by decide) (fun h => absurd h (by decide)) (fun _ => ?_)
  refine lv_iload_n hx hb dX7_doSet_4 rfl (lv_at hl 1 rfl) ?_
  refine lv_iconst (v := 3) hx hb dX7_doSet_5 (by decide +kernel) ?_
  refine x_icR_ne (x := 2) (y := 3) (tgt := 21) hx hb dX7_doSet_6 (by decide) (fun _ => ?_) (fun h => absurd h (by decide))
  refine lv_iload_n hx hb dX7_doSet_21 rfl (lv_at hl 1 rfl) ?_
  refine lv_iconst (v := 1) hx hb dX7_doSet_22 (by decide +kernel) ?_
  refine x_icR_ne (x := 2) (y := 1) (tgt := 38) hx hb dX7_doSet_23 (by decide) (fun _ => ?_) (fun h => absurd h (by decide))
  refine lv_iload_n hx hb dX7_doSet_38 rfl (lv_at hl 1 rfl) ?_
  refine lv_iconst (v := 2) hx hb dX7_doSet_39 (by decide +kernel) ?_
  refine x_icR_ne (x := 2) (y := 2) (tgt := 59) hx hb dX7_doSet_40 (by decide) (fun h => absurd h (by decide)) (fun _ => ?_)
  refine lv_iload_n hx hb dX7_doSet_43 rfl (lv_at hl 2 rfl) ?_
  refine lv_i2l (v := Int32.toInt64 a2) hx hb dX7_doSet_44 rfl ?_
  refine lv_lconst (v := 0) hx hb dX7_doSet_45 (by decide +kernel) ?_
  refine lv_ldc2 (v := 200) hx hb hown (hts _ (List.mem_of_getElem? (i := 2) rfl)) dX7_doSet_46 ?_
  refine x_callSi (wr := mR cI o (fl G) K h hn T tn f) (w2 := mR cI o (fl G) K h hn T tn f) (rest := []) (n := 3) C w hl [.long (Int32.toInt64 a2), .long 0, .long 200] (k_X7_in l D cI cS tys ht0 (Int32.toInt64 a2) 0 200 ) gX7_doSet_X7_in rfl (by decide +kernel) ⟨Nat.le_of_ble_eq_true rfl, Nat.le_of_ble_eq_true rfl⟩ rfl rfl (Nat.le_of_ble_eq_true rfl) [] [0, 1, 2, 3, 4] (by decide) rfl rfl (by decide) (by decide) [0, 1, 2, 3, 4] (by decide) rfl ⟨Nat.zero_le _, Nat.zero_le _⟩ dX7_doSet_49 (fun H locs w => ?_)
  refine x_top (y := bI (wth a2 0 200 = true)) (bI_c (lg_wth a2 0 200 (by decide) (by decide))) ?_
  refine x_ifB_eq (P := wth a2 0 200 = true) (tgt := 59) hx hb dX7_doSet_52 (by decide) (fun c52_5 => ?_) (fun c52_5 => ?_)
  ·
    refine lv_iconst (v := 0) hx hb dX7_doSet_59 (by decide +kernel) ?_
    refine lv_istore_n (lv' := [(3, .int 0), (0, .ref (o 0)), (1, .int 2), (2, .int a2)]) hx hb dX7_doSet_60 rfl hl (by decide) rfl (fun ls hl => ?_)
    refine lv_iload_n hx hb dX7_doSet_61 rfl (lv_at hl 0 rfl) ?_
    refine x_ifR_ne (x := 0) (tgt := 68) hx hb dX7_doSet_62 (by decide) (fun h => absurd h (by decide)) (fun _ => ?_)
    refine lv_ldc (v := -1000001) hx hb hown (hts _ (List.mem_of_getElem? (i := 3) rfl)) dX7_doSet_65 ?_
    exact x_iret C w rfl rfl dX7_doSet_67
  ·
    exact absurd c52_5 hno
set_option maxHeartbeats 1000000 in
set_option maxRecDepth 100000 in
theorem k_X7_doSet_3 (l : Launch) (D : va_G) (cI cS : ClassId) (tys : List (ClassId × FieldType)) (ht0 : tys[0]? = some (cI, .int)) (o : Nat → Nat) (G : St) (K : Nat → Int32) (h : Nat → Int32) (hn : Int32) (T : Nat → Int32) (tn : Int32) (f : Nat → Int32) (a2 : Int32) (hok : wth a2 1 500 = true) : xI l yX7_doSet wsX7_doSet 1 D tys [.ref (o 0), .int 3, .int a2] (mR cI o (fl G) K h hn T tn f) (G 8 3) (mR cI o (fl (s2 G 8 3 a2)) K h hn T tn f) := by
  refine x_inI (cc := cX7_doSet) (maxL := 5) (ret := (some .int)) (by decide) rfl (Nat.le_of_ble_eq_true rfl) ?_
  intro p e s m args below meth c A ls C w hl
  have C : xC p s m meth c args cX7_doSet 5 wsX7_doSet RX7 D tys (some .int) := C
  have hx := C.1.1
  have hb := C.1.2.1
  have hts := C.1.2.2.2.2
  have hown := C.1.2.2.2.1
  have w : xW D A s.heap (mR cI o (fl G) K h hn T tn f) s.heap [] := w
  have hl : lv_has ls 5 [(0, .ref (o 0)), (1, .int 3), (2, .int a2)] := hl
  refine lv_iload_n hx hb dX7_doSet_0 rfl (lv_at hl 1 rfl) ?_
  refine x_ifR_eq (x := 3) (tgt := 9) hx hb dX7_doSet_1 (by decide) (fun h => absurd h (by decide)) (fun _ => ?_)
  refine lv_iload_n hx hb dX7_doSet_4 rfl (lv_at hl 1 rfl) ?_
  refine lv_iconst (v := 3) hx hb dX7_doSet_5 (by decide +kernel) ?_
  refine x_icR_ne (x := 3) (y := 3) (tgt := 21) hx hb dX7_doSet_6 (by decide) (fun h => absurd h (by decide)) (fun _ => ?_)
  refine lv_iload_n hx hb dX7_doSet_9 rfl (lv_at hl 2 rfl) ?_
  refine lv_i2l (v := Int32.toInt64 a2) hx hb dX7_doSet_10 rfl ?_
  refine lv_lconst (v := 1) hx hb dX7_doSet_11 (by decide +kernel) ?_
  refine lv_ldc2 (v := 500) hx hb hown (hts _ (List.mem_of_getElem? (i := 1) rfl)) dX7_doSet_12 ?_
  refine x_callSi (wr := mR cI o (fl G) K h hn T tn f) (w2 := mR cI o (fl G) K h hn T tn f) (rest := []) (n := 3) C w hl [.long (Int32.toInt64 a2), .long 1, .long 500] (k_X7_in l D cI cS tys ht0 (Int32.toInt64 a2) 1 500 ) gX7_doSet_X7_in rfl (by decide +kernel) ⟨Nat.le_of_ble_eq_true rfl, Nat.le_of_ble_eq_true rfl⟩ rfl rfl (Nat.le_of_ble_eq_true rfl) [] [0, 1, 2, 3, 4] (by decide) rfl rfl (by decide) (by decide) [0, 1, 2, 3, 4] (by decide) rfl ⟨Nat.zero_le _, Nat.zero_le _⟩ dX7_doSet_15 (fun H locs w => ?_)
  refine x_top (y := bI (wth a2 1 500 = true)) (bI_c (lg_wth a2 1 500 (by decide) (by decide))) ?_
  refine lv_goto (tgt := 60) hx hb dX7_doSet_18 (by decide) ?_
  refine lv_istore_n (lv' := [(3, .int (bI (wth a2 1 500 = true))), (0, .ref (o 0)), (1, .int 3), (2, .int a2)]) hx hb dX7_doSet_60 rfl hl (by decide) rfl (fun ls hl => ?_)
  refine lv_iload_n hx hb dX7_doSet_61 rfl (lv_at hl 0 rfl) ?_
  refine x_ifB_ne (P := wth a2 1 500 = true) (tgt := 68) hx hb dX7_doSet_62 (by decide) (fun c62_3 => ?_) (fun c62_3 => ?_)
  ·
    refine lv_aload_n hx hb dX7_doSet_68 rfl (lv_at hl 1 rfl) ?_
    refine x_get (v := .ref (o 1)) (T := TX7) C w 0 0 rfl rfl (fun _ h => List.mem_cons_of_mem _ (List.mem_append_right _ (h))) (List.mem_of_getElem? (i := 4) rfl) (by decide) rfl dX7_doSet_69 ?_
    refine lv_sipush (v := 174) hx hb dX7_doSet_72 (by decide +kernel) ?_
    refine lv_iload_n hx hb dX7_doSet_75 rfl (lv_at hl 2 rfl) ?_
    refine lv_iadd (x := 174) (y := 3) hx hb dX7_doSet_76 ?_
    refine x_top (y := 177) (by decide +kernel) ?_
    refine x_iald (v := G 8 3) C w 1 0 (177) rfl ht0 rfl (by omega) (by decide) rfl dX7_doSet_77 ?_
    refine lv_istore (lv' := [(4, .int (G 8 3)), (3, .int (bI (wth a2 1 500 = true))), (0, .ref (o 0)), (1, .int 3), (2, .int a2)]) hx hb dX7_doSet_78 hl (by decide) rfl (fun ls hl => ?_)
    refine lv_aload_n hx hb dX7_doSet_80 rfl (lv_at hl 2 rfl) ?_
    refine x_get (v := .ref (o 1)) (T := TX7) C w 0 0 rfl rfl (fun _ h => List.mem_cons_of_mem _ (List.mem_append_right _ (h))) (List.mem_of_getElem? (i := 4) rfl) (by decide) rfl dX7_doSet_81 ?_
    refine lv_sipush (v := 174) hx hb dX7_doSet_84 (by decide +kernel) ?_
    refine lv_iload_n hx hb dX7_doSet_87 rfl (lv_at hl 3 rfl) ?_
    refine lv_iadd (x := 174) (y := 3) hx hb dX7_doSet_88 ?_
    refine x_top (y := 177) (by decide +kernel) ?_
    refine lv_iload_n hx hb dX7_doSet_89 rfl (lv_at hl 4 rfl) ?_
    refine x_iast (ws2 := mR cI o (fl (s2 G 8 3 a2)) K h hn T tn f) C w 1 0 (177) rfl ht0 rfl (by omega) (by decide) (congrArg (fun z => mR cI o z K h hn T tn f) (fl_u8 _ (i := 3) (by decide) _)) dX7_doSet_90 (fun H locs w => ?_)
    refine lv_iload hx hb dX7_doSet_91 (lv_at hl 0 rfl) ?_
    exact x_iret C w rfl rfl dX7_doSet_93
  ·
    exact absurd hok c62_3
set_option maxHeartbeats 1000000 in
set_option maxRecDepth 100000 in
theorem k_X7_doSet_n3 (l : Launch) (D : va_G) (cI cS : ClassId) (tys : List (ClassId × FieldType)) (ht0 : tys[0]? = some (cI, .int)) (o : Nat → Nat) (G : St) (K : Nat → Int32) (h : Nat → Int32) (hn : Int32) (T : Nat → Int32) (tn : Int32) (f : Nat → Int32) (a2 : Int32) (hno : ¬ wth a2 1 500 = true) : xI l yX7_doSet wsX7_doSet 1 D tys [.ref (o 0), .int 3, .int a2] (mR cI o (fl G) K h hn T tn f) (-1000001) (mR cI o (fl G) K h hn T tn f) := by
  refine x_inI (cc := cX7_doSet) (maxL := 5) (ret := (some .int)) (by decide) rfl (Nat.le_of_ble_eq_true rfl) ?_
  intro p e s m args below meth c A ls C w hl
  have C : xC p s m meth c args cX7_doSet 5 wsX7_doSet RX7 D tys (some .int) := C
  have hx := C.1.1
  have hb := C.1.2.1
  have hts := C.1.2.2.2.2
  have hown := C.1.2.2.2.1
  have w : xW D A s.heap (mR cI o (fl G) K h hn T tn f) s.heap [] := w
  have hl : lv_has ls 5 [(0, .ref (o 0)), (1, .int 3), (2, .int a2)] := hl
  refine lv_iload_n hx hb dX7_doSet_0 rfl (lv_at hl 1 rfl) ?_
  refine x_ifR_eq (x := 3) (tgt := 9) hx hb dX7_doSet_1 (by decide) (fun h => absurd h (by decide)) (fun _ => ?_)
  refine lv_iload_n hx hb dX7_doSet_4 rfl (lv_at hl 1 rfl) ?_
  refine lv_iconst (v := 3) hx hb dX7_doSet_5 (by decide +kernel) ?_
  refine x_icR_ne (x := 3) (y := 3) (tgt := 21) hx hb dX7_doSet_6 (by decide) (fun h => absurd h (by decide)) (fun _ => ?_)
  refine lv_iload_n hx hb dX7_doSet_9 rfl (lv_at hl 2 rfl) ?_
  refine lv_i2l (v := Int32.toInt64 a2) hx hb dX7_doSet_10 rfl ?_
  refine lv_lconst (v := 1) hx hb dX7_doSet_11 (by decide +kernel) ?_
  refine lv_ldc2 (v := 500) hx hb hown (hts _ (List.mem_of_getElem? (i := 1) rfl)) dX7_doSet_12 ?_
  refine x_callSi (wr := mR cI o (fl G) K h hn T tn f) (w2 := mR cI o (fl G) K h hn T tn f) (rest := []) (n := 3) C w hl [.long (Int32.toInt64 a2), .long 1, .long 500] (k_X7_in l D cI cS tys ht0 (Int32.toInt64 a2) 1 500 ) gX7_doSet_X7_in rfl (by decide +kernel) ⟨Nat.le_of_ble_eq_true rfl, Nat.le_of_ble_eq_true rfl⟩ rfl rfl (Nat.le_of_ble_eq_true rfl) [] [0, 1, 2, 3, 4] (by decide) rfl rfl (by decide) (by decide) [0, 1, 2, 3, 4] (by decide) rfl ⟨Nat.zero_le _, Nat.zero_le _⟩ dX7_doSet_15 (fun H locs w => ?_)
  refine x_top (y := bI (wth a2 1 500 = true)) (bI_c (lg_wth a2 1 500 (by decide) (by decide))) ?_
  refine lv_goto (tgt := 60) hx hb dX7_doSet_18 (by decide) ?_
  refine lv_istore_n (lv' := [(3, .int (bI (wth a2 1 500 = true))), (0, .ref (o 0)), (1, .int 3), (2, .int a2)]) hx hb dX7_doSet_60 rfl hl (by decide) rfl (fun ls hl => ?_)
  refine lv_iload_n hx hb dX7_doSet_61 rfl (lv_at hl 0 rfl) ?_
  refine x_ifB_ne (P := wth a2 1 500 = true) (tgt := 68) hx hb dX7_doSet_62 (by decide) (fun c62_3 => ?_) (fun c62_3 => ?_)
  ·
    exact absurd c62_3 hno
  ·
    refine lv_ldc (v := -1000001) hx hb hown (hts _ (List.mem_of_getElem? (i := 3) rfl)) dX7_doSet_65 ?_
    exact x_iret C w rfl rfl dX7_doSet_67
set_option maxHeartbeats 1000000 in
set_option maxRecDepth 100000 in
theorem k_X7_doSet_nx (l : Launch) (D : va_G) (cI cS : ClassId) (tys : List (ClassId × FieldType)) (ht0 : tys[0]? = some (cI, .int)) (o : Nat → Nat) (G : St) (K : Nat → Int32) (h : Nat → Int32) (hn : Int32) (T : Nat → Int32) (tn : Int32) (f : Nat → Int32) (a1 : Int32) (a2 : Int32) (g0 : ¬ a1 = 0) (g1 : ¬ a1 = 1) (g2 : ¬ a1 = 2) (g3 : ¬ a1 = 3) : xI l yX7_doSet wsX7_doSet 1 D tys [.ref (o 0), .int a1, .int a2] (mR cI o (fl G) K h hn T tn f) (-1000001) (mR cI o (fl G) K h hn T tn f) := by
  refine x_inI (cc := cX7_doSet) (maxL := 5) (ret := (some .int)) (by decide) rfl (Nat.le_of_ble_eq_true rfl) ?_
  intro p e s m args below meth c A ls C w hl
  have C : xC p s m meth c args cX7_doSet 5 wsX7_doSet RX7 D tys (some .int) := C
  have hx := C.1.1
  have hb := C.1.2.1
  have hts := C.1.2.2.2.2
  have hown := C.1.2.2.2.1
  have w : xW D A s.heap (mR cI o (fl G) K h hn T tn f) s.heap [] := w
  have hl : lv_has ls 5 [(0, .ref (o 0)), (1, .int a1), (2, .int a2)] := hl
  refine lv_iload_n hx hb dX7_doSet_0 rfl (lv_at hl 1 rfl) ?_
  refine x_ifR_eq (x := a1) (tgt := 9) hx hb dX7_doSet_1 (by decide) (fun c1_1 => ?_) (fun c1_1 => ?_)
  ·
    exact absurd c1_1 g0
  ·
    refine lv_iload_n hx hb dX7_doSet_4 rfl (lv_at hl 1 rfl) ?_
    refine lv_iconst (v := 3) hx hb dX7_doSet_5 (by decide +kernel) ?_
    refine x_icR_ne (x := a1) (y := 3) (tgt := 21) hx hb dX7_doSet_6 (by decide) (fun c6_2 => ?_) (fun c6_2 => ?_)
    ·
      refine lv_iload_n hx hb dX7_doSet_21 rfl (lv_at hl 1 rfl) ?_
      refine lv_iconst (v := 1) hx hb dX7_doSet_22 (by decide +kernel) ?_
      refine x_icR_ne (x := a1) (y := 1) (tgt := 38) hx hb dX7_doSet_23 (by decide) (fun c23_3 => ?_) (fun c23_3 => ?_)
      ·
        refine lv_iload_n hx hb dX7_doSet_38 rfl (lv_at hl 1 rfl) ?_
        refine lv_iconst (v := 2) hx hb dX7_doSet_39 (by decide +kernel) ?_
        refine x_icR_ne (x := a1) (y := 2) (tgt := 59) hx hb dX7_doSet_40 (by decide) (fun c40_4 => ?_) (fun c40_4 => ?_)
        ·
          refine lv_iconst (v := 0) hx hb dX7_doSet_59 (by decide +kernel) ?_
          refine lv_istore_n (lv' := [(3, .int 0), (0, .ref (o 0)), (1, .int a1), (2, .int a2)]) hx hb dX7_doSet_60 rfl hl (by decide) rfl (fun ls hl => ?_)
          refine lv_iload_n hx hb dX7_doSet_61 rfl (lv_at hl 0 rfl) ?_
          refine x_ifR_ne (x := 0) (tgt := 68) hx hb dX7_doSet_62 (by decide) (fun h => absurd h (by decide)) (fun _ => ?_)
          refine lv_ldc (v := -1000001) hx hb hown (hts _ (List.mem_of_getElem? (i := 3) rfl)) dX7_doSet_65 ?_
          exact x_iret C w rfl rfl dX7_doSet_67
        ·
          exact absurd c40_4 g2
      ·
        exact absurd c23_3 g1
    ·
      exact absurd c6_2 g3
set_option maxHeartbeats 1000000 in
set_option maxRecDepth 100000 in
theorem k_X7_doRead_no (l : Launch) (D : va_G) (cI cS : ClassId) (tys : List (ClassId × FieldType)) (ht0 : tys[0]? = some (cI, .int)) (o : Nat → Nat) (G : St) (K : Nat → Int32) (h : Nat → Int32) (hn : Int32) (T : Nat → Int32) (tn : Int32) (f : Nat → Int32) (a1 : Int32) (hno : ¬ rg a1 64 = true) : xI l yX7_doRead wsX7_doRead 4 D tys [.ref (o 0), .int a1] (mR cI o (fl G) K h hn T tn f) (-1000001) (mR cI o (fl G) K h hn T tn f) := by
  refine x_inI (cc := cX7_doRead) (maxL := 2) (ret := (some .int)) (by decide) rfl (Nat.le_of_ble_eq_true rfl) ?_
  intro p e s m args below meth c A ls C w hl
  have C : xC p s m meth c args cX7_doRead 2 wsX7_doRead RX7 D tys (some .int) := C
  have hx := C.1.1
  have hb := C.1.2.1
  have hts := C.1.2.2.2.2
  have hown := C.1.2.2.2.1
  have w : xW D A s.heap (mR cI o (fl G) K h hn T tn f) s.heap [] := w
  have hl : lv_has ls 2 [(0, .ref (o 0)), (1, .int a1)] := hl
  refine lv_iload_n hx hb dX7_doRead_0 rfl (lv_at hl 1 rfl) ?_
  refine x_callSi (wr := mR cI o (fl G) K h hn T tn f) (w2 := mR cI o (fl G) K h hn T tn f) (rest := []) (n := 1) C w hl [.int a1] (k_X7_isPlace l D cI cS tys ht0 a1 ) gX7_doRead_X7_isPlace rfl (by decide +kernel) ⟨Nat.le_of_ble_eq_true rfl, Nat.le_of_ble_eq_true rfl⟩ rfl rfl (Nat.le_of_ble_eq_true rfl) [] [0, 1, 2, 3, 4] (by decide) rfl rfl (by decide) (by decide) [0, 1, 2, 3, 4] (by decide) rfl ⟨Nat.zero_le _, Nat.zero_le _⟩ dX7_doRead_1 (fun H locs w => ?_)
  refine x_ifB_eq (P := rg a1 64 = true) (tgt := 24) hx hb dX7_doRead_4 (by decide) (fun c4_1 => ?_) (fun c4_1 => ?_)
  ·
    refine lv_ldc (v := -1000001) hx hb hown (hts _ (List.mem_of_getElem? (i := 2) rfl)) dX7_doRead_24 ?_
    exact x_iret C w rfl rfl dX7_doRead_26
  ·
    exact absurd c4_1 hno
set_option maxHeartbeats 1000000 in
set_option maxRecDepth 100000 in
theorem k_X7_doWrite_no (l : Launch) (D : va_G) (cI cS : ClassId) (tys : List (ClassId × FieldType)) (ht0 : tys[0]? = some (cI, .int)) (o : Nat → Nat) (G : St) (K : Nat → Int32) (h : Nat → Int32) (hn : Int32) (T : Nat → Int32) (tn : Int32) (f : Nat → Int32) (a1 : Int32) (a2 : Int32) (hno : ¬ (rg a1 64 = true ∧ wth a2 0 999 = true)) : xI l yX7_doWrite wsX7_doWrite 4 D tys [.ref (o 0), .int a1, .int a2] (mR cI o (fl G) K h hn T tn f) (-1000001) (mR cI o (fl G) K h hn T tn f) := by
  refine x_inI (cc := cX7_doWrite) (maxL := 4) (ret := (some .int)) (by decide) rfl (Nat.le_of_ble_eq_true rfl) ?_
  intro p e s m args below meth c A ls C w hl
  have C : xC p s m meth c args cX7_doWrite 4 wsX7_doWrite RX7 D tys (some .int) := C
  have hx := C.1.1
  have hb := C.1.2.1
  have hts := C.1.2.2.2.2
  have hown := C.1.2.2.2.1
  have w : xW D A s.heap (mR cI o (fl G) K h hn T tn f) s.heap [] := w
  have hl : lv_has ls 4 [(0, .ref (o 0)), (1, .int a1), (2, .int a2)] := hl
  refine lv_iload_n hx hb dX7_doWrite_0 rfl (lv_at hl 1 rfl) ?_
  refine x_callSi (wr := mR cI o (fl G) K h hn T tn f) (w2 := mR cI o (fl G) K h hn T tn f) (rest := []) (n := 1) C w hl [.int a1] (k_X7_isPlace l D cI cS tys ht0 a1 ) gX7_doWrite_X7_isPlace rfl (by decide +kernel) ⟨Nat.le_of_ble_eq_true rfl, Nat.le_of_ble_eq_true rfl⟩ rfl rfl (Nat.le_of_ble_eq_true rfl) [] [0, 1, 2, 3, 4] (by decide) rfl rfl (by decide) (by decide) [0, 1, 2, 3, 4] (by decide) rfl ⟨Nat.zero_le _, Nat.zero_le _⟩ dX7_doWrite_1 (fun H locs w => ?_)
  refine x_ifB_eq (P := rg a1 64 = true) (tgt := 19) hx hb dX7_doWrite_4 (by decide) (fun c4_1 => ?_) (fun c4_1 => ?_)
  ·
    refine lv_ldc (v := -1000001) hx hb hown (hts _ (List.mem_of_getElem? (i := 2) rfl)) dX7_doWrite_19 ?_
    exact x_iret C w rfl rfl dX7_doWrite_21
  ·
    refine lv_iload_n hx hb dX7_doWrite_7 rfl (lv_at hl 2 rfl) ?_
    refine lv_i2l (v := Int32.toInt64 a2) hx hb dX7_doWrite_8 rfl ?_
    refine lv_lconst (v := 0) hx hb dX7_doWrite_9 (by decide +kernel) ?_
    refine lv_ldc2 (v := 999) hx hb hown (hts _ (List.mem_of_getElem? (i := 1) rfl)) dX7_doWrite_10 ?_
    refine x_callSi (wr := mR cI o (fl G) K h hn T tn f) (w2 := mR cI o (fl G) K h hn T tn f) (rest := []) (n := 3) C w hl [.long (Int32.toInt64 a2), .long 0, .long 999] (k_X7_in l D cI cS tys ht0 (Int32.toInt64 a2) 0 999 ) gX7_doWrite_X7_in rfl (by decide +kernel) ⟨Nat.le_of_ble_eq_true rfl, Nat.le_of_ble_eq_true rfl⟩ rfl rfl (Nat.le_of_ble_eq_true rfl) [] [0, 1, 2, 3, 4] (by decide) rfl rfl (by decide) (by decide) [0, 1, 2, 3, 4] (by decide) rfl ⟨Nat.zero_le _, Nat.zero_le _⟩ dX7_doWrite_13 (fun H locs w => ?_)
    refine x_top (y := bI (wth a2 0 999 = true)) (bI_c (lg_wth a2 0 999 (by decide) (by decide))) ?_
    refine x_ifB_ne (P := wth a2 0 999 = true) (tgt := 22) hx hb dX7_doWrite_16 (by decide) (fun c16_2 => ?_) (fun c16_2 => ?_)
    ·
      exact absurd ⟨c4_1, c16_2⟩ hno
    ·
      refine lv_ldc (v := -1000001) hx hb hown (hts _ (List.mem_of_getElem? (i := 2) rfl)) dX7_doWrite_19 ?_
      exact x_iret C w rfl rfl dX7_doWrite_21
set_option maxHeartbeats 1000000 in
set_option maxRecDepth 100000 in
theorem k_X7_doTick_no (l : Launch) (D : va_G) (cI cS : ClassId) (tys : List (ClassId × FieldType)) (ht0 : tys[0]? = some (cI, .int)) (o : Nat → Nat) (G : St) (K : Nat → Int32) (h : Nat → Int32) (hn : Int32) (T : Nat → Int32) (tn : Int32) (f : Nat → Int32) (a1 : Int32) (hno : ¬ wth a1 1 99 = true) : xI l yX7_doTick wsX7_doTick 5 D tys [.ref (o 0), .int a1] (mR cI o (fl G) K h hn T tn f) (-1000001) (mR cI o (fl G) K h hn T tn f) := by
  refine x_inI (cc := cX7_doTick) (maxL := 4) (ret := (some .int)) (by decide) rfl (Nat.le_of_ble_eq_true rfl) ?_
  intro p e s m args below meth c A ls C w hl
  have C : xC p s m meth c args cX7_doTick 4 wsX7_doTick RX7 D tys (some .int) := C
  have hx := C.1.1
  have hb := C.1.2.1
  have hts := C.1.2.2.2.2
  have hown := C.1.2.2.2.1
  have w : xW D A s.heap (mR cI o (fl G) K h hn T tn f) s.heap [] := w
  have hl : lv_has ls 4 [(0, .ref (o 0)), (1, .int a1)] := hl
  refine lv_iload_n hx hb dX7_doTick_0 rfl (lv_at hl 1 rfl) ?_
  refine lv_i2l (v := Int32.toInt64 a1) hx hb dX7_doTick_1 rfl ?_
  refine lv_lconst (v := 1) hx hb dX7_doTick_2 (by decide +kernel) ?_
  refine lv_ldc2 (v := 99) hx hb hown (hts _ (List.mem_of_getElem? (i := 1) rfl)) dX7_doTick_3 ?_
  refine x_callSi (wr := mR cI o (fl G) K h hn T tn f) (w2 := mR cI o (fl G) K h hn T tn f) (rest := []) (n := 3) C w hl [.long (Int32.toInt64 a1), .long 1, .long 99] (k_X7_in l D cI cS tys ht0 (Int32.toInt64 a1) 1 99 ) gX7_doTick_X7_in rfl (by decide +kernel) ⟨Nat.le_of_ble_eq_true rfl, Nat.le_of_ble_eq_true rfl⟩ rfl rfl (Nat.le_of_ble_eq_true rfl) [] [0, 1, 2, 3, 4] (by decide) rfl rfl (by decide) (by decide) [0, 1, 2, 3, 4] (by decide) rfl ⟨Nat.zero_le _, Nat.zero_le _⟩ dX7_doTick_6 (fun H locs w => ?_)
  refine x_top (y := bI (wth a1 1 99 = true)) (bI_c (lg_wth a1 1 99 (by decide) (by decide))) ?_
  refine x_ifB_ne (P := wth a1 1 99 = true) (tgt := 15) hx hb dX7_doTick_9 (by decide) (fun c9_1 => ?_) (fun c9_1 => ?_)
  ·
    exact absurd c9_1 hno
  ·
    refine lv_ldc (v := -1000001) hx hb hown (hts _ (List.mem_of_getElem? (i := 2) rfl)) dX7_doTick_12 ?_
    exact x_iret C w rfl rfl dX7_doTick_14
set_option maxHeartbeats 1000000 in
set_option maxRecDepth 100000 in
theorem k_X7_doLoad_no (l : Launch) (D : va_G) (cI cS : ClassId) (tys : List (ClassId × FieldType)) (ht0 : tys[0]? = some (cI, .int)) (o : Nat → Nat) (G : St) (K : Nat → Int32) (h : Nat → Int32) (hn : Int32) (T : Nat → Int32) (tn : Int32) (f : Nat → Int32) (a1 : Int32) (hno : ¬ wth a1 1 999 = true) : xI l yX7_doLoad wsX7_doLoad 4 D tys [.ref (o 0), .int a1] (mR cI o (fl G) K h hn T tn f) (-1000001) (mR cI o (fl G) K h hn T tn f) := by
  refine x_inI (cc := cX7_doLoad) (maxL := 2) (ret := (some .int)) (by decide) rfl (Nat.le_of_ble_eq_true rfl) ?_
  intro p e s m args below meth c A ls C w hl
  have C : xC p s m meth c args cX7_doLoad 2 wsX7_doLoad RX7 D tys (some .int) := C
  have hx := C.1.1
  have hb := C.1.2.1
  have hts := C.1.2.2.2.2
  have hown := C.1.2.2.2.1
  have w : xW D A s.heap (mR cI o (fl G) K h hn T tn f) s.heap [] := w
  have hl : lv_has ls 2 [(0, .ref (o 0)), (1, .int a1)] := hl
  refine lv_iload_n hx hb dX7_doLoad_0 rfl (lv_at hl 1 rfl) ?_
  refine lv_i2l (v := Int32.toInt64 a1) hx hb dX7_doLoad_1 rfl ?_
  refine lv_lconst (v := 1) hx hb dX7_doLoad_2 (by decide +kernel) ?_
  refine lv_ldc2 (v := 999) hx hb hown (hts _ (List.mem_of_getElem? (i := 1) rfl)) dX7_doLoad_3 ?_
  refine x_callSi (wr := mR cI o (fl G) K h hn T tn f) (w2 := mR cI o (fl G) K h hn T tn f) (rest := []) (n := 3) C w hl [.long (Int32.toInt64 a1), .long 1, .long 999] (k_X7_in l D cI cS tys ht0 (Int32.toInt64 a1) 1 999 ) gX7_doLoad_X7_in rfl (by decide +kernel) ⟨Nat.le_of_ble_eq_true rfl, Nat.le_of_ble_eq_true rfl⟩ rfl rfl (Nat.le_of_ble_eq_true rfl) [] [0, 1, 2, 3, 4] (by decide) rfl rfl (by decide) (by decide) [0, 1, 2, 3, 4] (by decide) rfl ⟨Nat.zero_le _, Nat.zero_le _⟩ dX7_doLoad_6 (fun H locs w => ?_)
  refine x_top (y := bI (wth a1 1 999 = true)) (bI_c (lg_wth a1 1 999 (by decide) (by decide))) ?_
  refine x_ifB_ne (P := wth a1 1 999 = true) (tgt := 15) hx hb dX7_doLoad_9 (by decide) (fun c9_1 => ?_) (fun c9_1 => ?_)
  ·
    exact absurd c9_1 hno
  ·
    refine lv_ldc (v := -1000001) hx hb hown (hts _ (List.mem_of_getElem? (i := 2) rfl)) dX7_doLoad_12 ?_
    exact x_iret C w rfl rfl dX7_doLoad_14
set_option maxHeartbeats 1000000 in
set_option maxRecDepth 100000 in
theorem k_X7_doLearn_np (l : Launch) (D : va_G) (cI cS : ClassId) (tys : List (ClassId × FieldType)) (ht0 : tys[0]? = some (cI, .int)) (o : Nat → Nat) (G : St) (K : Nat → Int32) (h : Nat → Int32) (hn : Int32) (T : Nat → Int32) (tn : Int32) (f : Nat → Int32) (hno : ¬ G 6 2 = 0) : xI l yX7_doLearn wsX7_doLearn 4 D tys [.ref (o 0)] (mR cI o (fl G) K h hn T tn f) (-1000002) (mR cI o (fl G) K h hn T tn f) := by
  refine x_inI (cc := cX7_doLearn) (maxL := 1) (ret := (some .int)) (by decide) rfl (Nat.le_of_ble_eq_true rfl) ?_
  intro p e s m args below meth c A ls C w hl
  have C : xC p s m meth c args cX7_doLearn 1 wsX7_doLearn RX7 D tys (some .int) := C
  have hx := C.1.1
  have hb := C.1.2.1
  have hts := C.1.2.2.2.2
  have hown := C.1.2.2.2.1
  have w : xW D A s.heap (mR cI o (fl G) K h hn T tn f) s.heap [] := w
  have hl : lv_has ls 1 [(0, .ref (o 0))] := hl
  refine lv_aload_n hx hb dX7_doLearn_0 rfl (lv_at hl 0 rfl) ?_
  refine x_get (v := .ref (o 1)) (T := TX7) C w 0 0 rfl rfl (fun _ h => List.mem_cons_of_mem _ (List.mem_append_right _ (h))) (List.mem_of_getElem? (i := 1) rfl) (by decide) rfl dX7_doLearn_1 ?_
  refine lv_sipush (v := 162) hx hb dX7_doLearn_4 (by decide +kernel) ?_
  refine x_iald (v := G 6 2) C w 1 0 (162) rfl ht0 rfl (by omega) (by decide) rfl dX7_doLearn_7 ?_
  refine x_ifR_eq (x := G 6 2) (tgt := 14) hx hb dX7_doLearn_8 (by decide) (fun c8_1 => ?_) (fun c8_1 => ?_)
  ·
    exact absurd c8_1 hno
  ·
    refine lv_ldc (v := -1000002) hx hb hown (hts _ (List.mem_of_getElem? (i := 2) rfl)) dX7_doLearn_11 ?_
    exact x_iret C w rfl rfl dX7_doLearn_13
set_option maxHeartbeats 1000000 in
set_option maxRecDepth 100000 in
theorem k_X7_doFlush_no (l : Launch) (D : va_G) (cI cS : ClassId) (tys : List (ClassId × FieldType)) (ht0 : tys[0]? = some (cI, .int)) (o : Nat → Nat) (G : St) (K : Nat → Int32) (h : Nat → Int32) (hn : Int32) (T : Nat → Int32) (tn : Int32) (f : Nat → Int32) (a1 : Int32) (hno : ¬ rg a1 8 = true) : xI l yX7_doFlush wsX7_doFlush 3 D tys [.ref (o 0), .int a1] (mR cI o (fl G) K h hn T tn f) (-1000001) (mR cI o (fl G) K h hn T tn f) := by
  refine x_inI (cc := cX7_doFlush) (maxL := 2) (ret := (some .int)) (by decide) rfl (Nat.le_of_ble_eq_true rfl) ?_
  intro p e s m args below meth c A ls C w hl
  have C : xC p s m meth c args cX7_doFlush 2 wsX7_doFlush RX7 D tys (some .int) := C
  have hx := C.1.1
  have hb := C.1.2.1
  have hts := C.1.2.2.2.2
  have hown := C.1.2.2.2.1
  have w : xW D A s.heap (mR cI o (fl G) K h hn T tn f) s.heap [] := w
  have hl : lv_has ls 2 [(0, .ref (o 0)), (1, .int a1)] := hl
  refine lv_iload_n hx hb dX7_doFlush_0 rfl (lv_at hl 1 rfl) ?_
  refine x_callSi (wr := mR cI o (fl G) K h hn T tn f) (w2 := mR cI o (fl G) K h hn T tn f) (rest := []) (n := 1) C w hl [.int a1] (k_X7_isLine l D cI cS tys ht0 a1 ) gX7_doFlush_X7_isLine rfl (by decide +kernel) ⟨Nat.le_of_ble_eq_true rfl, Nat.le_of_ble_eq_true rfl⟩ rfl rfl (Nat.le_of_ble_eq_true rfl) [] [0, 1, 2, 3, 4] (by decide) rfl rfl (by decide) (by decide) [0, 1, 2, 3, 4] (by decide) rfl ⟨Nat.zero_le _, Nat.zero_le _⟩ dX7_doFlush_1 (fun H locs w => ?_)
  refine x_ifB_ne (P := rg a1 8 = true) (tgt := 10) hx hb dX7_doFlush_4 (by decide) (fun c4_1 => ?_) (fun c4_1 => ?_)
  ·
    exact absurd c4_1 hno
  ·
    refine lv_ldc (v := -1000001) hx hb hown (hts _ (List.mem_of_getElem? (i := 1) rfl)) dX7_doFlush_7 ?_
    exact x_iret C w rfl rfl dX7_doFlush_9
set_option maxHeartbeats 1000000 in
set_option maxRecDepth 100000 in
theorem k_X7_doFlush_np (l : Launch) (D : va_G) (cI cS : ClassId) (tys : List (ClassId × FieldType)) (ht0 : tys[0]? = some (cI, .int)) (o : Nat → Nat) (G : St) (K : Nat → Int32) (h : Nat → Int32) (hn : Int32) (T : Nat → Int32) (tn : Int32) (f : Nat → Int32) (l1 : Nat) (hl1 : l1 < 8) (h2 : ¬ G 2 l1 = 2) : xI l yX7_doFlush wsX7_doFlush 3 D tys [.ref (o 0), .int (nI l1)] (mR cI o (fl G) K h hn T tn f) (-1000002) (mR cI o (fl G) K h hn T tn f) := by
  refine x_inI (cc := cX7_doFlush) (maxL := 2) (ret := (some .int)) (by decide) rfl (Nat.le_of_ble_eq_true rfl) ?_
  intro p e s m args below meth c A ls C w hl
  have C : xC p s m meth c args cX7_doFlush 2 wsX7_doFlush RX7 D tys (some .int) := C
  have hx := C.1.1
  have hb := C.1.2.1
  have hts := C.1.2.2.2.2
  have hown := C.1.2.2.2.1
  have w : xW D A s.heap (mR cI o (fl G) K h hn T tn f) s.heap [] := w
  have hl : lv_has ls 2 [(0, .ref (o 0)), (1, .int (nI l1))] := hl
  refine lv_iload_n hx hb dX7_doFlush_0 rfl (lv_at hl 1 rfl) ?_
  refine x_callSi (wr := mR cI o (fl G) K h hn T tn f) (w2 := mR cI o (fl G) K h hn T tn f) (rest := []) (n := 1) C w hl [.int (nI l1)] (k_X7_isLine l D cI cS tys ht0 (nI l1) ) gX7_doFlush_X7_isLine rfl (by decide +kernel) ⟨Nat.le_of_ble_eq_true rfl, Nat.le_of_ble_eq_true rfl⟩ rfl rfl (Nat.le_of_ble_eq_true rfl) [] [0, 1, 2, 3, 4] (by decide) rfl rfl (by decide) (by decide) [0, 1, 2, 3, 4] (by decide) rfl ⟨Nat.zero_le _, Nat.zero_le _⟩ dX7_doFlush_1 (fun H locs w => ?_)
  refine x_ifB_ne (P := rg (nI l1) 8 = true) (tgt := 10) hx hb dX7_doFlush_4 (by decide) (fun c4_1 => ?_) (fun c4_1 => ?_)
  ·
    refine lv_aload_n hx hb dX7_doFlush_10 rfl (lv_at hl 0 rfl) ?_
    refine x_get (v := .ref (o 1)) (T := TX7) C w 0 0 rfl rfl (fun _ h => List.mem_cons_of_mem _ (List.mem_append_right _ (h))) (List.mem_of_getElem? (i := 2) rfl) (by decide) rfl dX7_doFlush_11 ?_
    refine lv_sipush (v := 128) hx hb dX7_doFlush_14 (by decide +kernel) ?_
    refine lv_iload_n hx hb dX7_doFlush_17 rfl (lv_at hl 1 rfl) ?_
    refine x_iaddN (i := 128) (j := l1) hx hb dX7_doFlush_18 ?_
    refine x_iald (v := G 2 l1) C w 1 0 (128 + l1) rfl ht0 rfl (by omega) (by decide) (fl_r2 _ (by omega)) dX7_doFlush_19 ?_
    refine lv_iconst (v := 2) hx hb dX7_doFlush_20 (by decide +kernel) ?_
    refine x_icR_eq (x := G 2 l1) (y := 2) (tgt := 27) hx hb dX7_doFlush_21 (by decide) (fun c21_2 => ?_) (fun c21_2 => ?_)
    ·
      exact absurd c21_2 h2
    ·
      refine lv_ldc (v := -1000002) hx hb hown (hts _ (List.mem_of_getElem? (i := 3) rfl)) dX7_doFlush_24 ?_
      exact x_iret C w rfl rfl dX7_doFlush_26
  ·
    exact absurd (rg_nI (n := 8) (b := 8) rfl hl1 (by decide)) c4_1
