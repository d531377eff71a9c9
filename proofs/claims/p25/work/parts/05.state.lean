set_option maxHeartbeats 1000000 in
set_option maxRecDepth 100000 in
theorem k_X4_holderOf (l : Launch) (D : va_G) (cI cS : ClassId) (tys : List (ClassId × FieldType)) (ht0 : tys[0]? = some (cI, .int)) (o : Nat → Nat) (G : St) (pl : Int32)  : xI l yX4_holderOf wsX4_holderOf 0 D tys [.ref (o 0), .int pl] (sW cI o G) (hldI G pl) (sW cI o G) := by
  refine x_inI (cc := cX4_holderOf) (maxL := 3) (ret := (some .int)) (by decide) rfl (Nat.le_of_ble_eq_true rfl) ?_
  intro p e s m args below meth c A ls C w hl
  have C : xC p s m meth c args cX4_holderOf 3 wsX4_holderOf RX4 D tys (some .int) := C
  have hx := C.1.1
  have hb := C.1.2.1
  have hts := C.1.2.2.2.2
  have hown := C.1.2.2.2.1
  have w : xW D A s.heap (sW cI o G) s.heap [] := w
  have hl : lv_has ls 3 [(0, .ref (o 0)), (1, .int pl)] := hl
  refine lv_iconst (v := 0) hx hb dX4_holderOf_0 (by decide +kernel) ?_
  refine lv_istore_n (lv' := [(2, .int 0), (0, .ref (o 0)), (1, .int pl)]) hx hb dX4_holderOf_1 rfl hl (by decide) rfl (fun ls hl => ?_)
  have loop_2 : ∀ (n : Nat) (k : Nat) (i : Nat), k < n → k + i = 8 → fndI (fun j => ¬ G 2 j = 0 ∧ G 3 j = pl) k i = fndI (fun j => ¬ G 2 j = 0 ∧ G 3 j = pl) 8 0 → ∀ (H : Heap) (locs : List Loc), xW D A s.heap (sW cI o G) H locs → ∀ ls : Array Slot, lv_has ls 3 [(2, .int (nI i)), (0, .ref (o 0)), (1, .int pl)] → W p l e (rmd 0) s m args below meth c H locs 0 0 (MQ below (xQi D tys (hldI G pl) (sW cI o G) A) args s 0 0 A) (F0 m 2 ls []) := by
    intro n
    induction n with
    | zero => intro k i hm; exact absurd hm (Nat.not_lt_zero _)
    | succ n ih =>
      intro k i hm hk hq H locs w ls hl
      refine lv_iload_n hx hb dX4_holderOf_2 rfl (lv_at hl 0 rfl) ?_
      refine lv_bipush (v := 8) hx hb dX4_holderOf_3 (by decide +kernel) ?_
      refine x_icN_ge (i := i) (j := 8) (tgt := 35) hx hb (by omega) (by omega) dX4_holderOf_5 (by decide) (fun c5_1 => ?_) (fun c5_1 => ?_)
      ·
        obtain rfl : k = 0 := by omega
        refine lv_iconst (v := -1) hx hb dX4_holderOf_35 (by decide +kernel) ?_
        exact x_iret C w (by rw [fndI] at hq; exact hq) rfl dX4_holderOf_36
      ·
        obtain ⟨k', rfl⟩ : ∃ z, k = z + 1 := ⟨k - 1, by omega⟩
        rw [fndI] at hq
        refine lv_aload_n hx hb dX4_holderOf_8 rfl (lv_at hl 1 rfl) ?_
        refine x_get (v := .ref (o 4)) (T := TX4) C w 0 3 rfl rfl (fun _ h => List.mem_cons_of_mem _ (List.mem_append_right _ (h))) (List.mem_of_getElem? (i := 1) rfl) (by decide) rfl dX4_holderOf_9 ?_
        refine lv_iload_n hx hb dX4_holderOf_12 rfl (lv_at hl 0 rfl) ?_
        refine x_iald (v := G 2 i) C w 4 0 (i) rfl ht0 rfl (by omega) (by decide) rfl dX4_holderOf_13 ?_
        refine x_ifR_eq (x := G 2 i) (tgt := 29) hx hb dX4_holderOf_14 (by decide) (fun c14_2 => ?_) (fun c14_2 => ?_)
        ·
          refine lv_iinc (v := nI (i + 1)) (lv' := [(2, .int (nI (i + 1))), (0, .ref (o 0)), (1, .int pl)]) hx hb dX4_holderOf_29 hl (k := 0) rfl (nI_add i 1) (by decide) rfl (fun ls hl => ?_)
          refine lv_goto (tgt := 2) hx hb dX4_holderOf_32 (by decide) ?_
          have hl : lv_has ls 3 [(2, .int (nI (i + 1))), (0, .ref (o 0)), (1, .int pl)] := lv_eqL (lv_sub (l' := [(2, .int (nI (i + 1))), (0, .ref (o 0)), (1, .int pl)]) hl [0, 1, 2] rfl) (cg2 List.cons rfl (cg2 List.cons rfl (cg2 List.cons rfl rfl)))
          exact ih k' (i + 1) (by omega) (by omega) (by simpa [c5_1, c14_2] using hq) _ _ w _ hl
        ·
          refine lv_aload_n hx hb dX4_holderOf_17 rfl (lv_at hl 1 rfl) ?_
          refine x_get (v := .ref (o 5)) (T := TX4) C w 0 4 rfl rfl (fun _ h => List.mem_cons_of_mem _ (List.mem_append_right _ (h))) (List.mem_of_getElem? (i := 2) rfl) (by decide) rfl dX4_holderOf_18 ?_
          refine lv_iload_n hx hb dX4_holderOf_21 rfl (lv_at hl 0 rfl) ?_
          refine x_iald (v := G 3 i) C w 5 0 (i) rfl ht0 rfl (by omega) (by decide) rfl dX4_holderOf_22 ?_
          refine lv_iload_n hx hb dX4_holderOf_23 rfl (lv_at hl 2 rfl) ?_
          refine x_icR_ne (x := G 3 i) (y := pl) (tgt := 29) hx hb dX4_holderOf_24 (by decide) (fun c24_3 => ?_) (fun c24_3 => ?_)
          ·
            refine lv_iinc (v := nI (i + 1)) (lv' := [(2, .int (nI (i + 1))), (0, .ref (o 0)), (1, .int pl)]) hx hb dX4_holderOf_29 hl (k := 0) rfl (nI_add i 1) (by decide) rfl (fun ls hl => ?_)
            refine lv_goto (tgt := 2) hx hb dX4_holderOf_32 (by decide) ?_
            have hl : lv_has ls 3 [(2, .int (nI (i + 1))), (0, .ref (o 0)), (1, .int pl)] := lv_eqL (lv_sub (l' := [(2, .int (nI (i + 1))), (0, .ref (o 0)), (1, .int pl)]) hl [0, 1, 2] rfl) (cg2 List.cons rfl (cg2 List.cons rfl (cg2 List.cons rfl rfl)))
            exact ih k' (i + 1) (by omega) (by omega) (by simpa [c5_1, c14_2, c24_3] using hq) _ _ w _ hl
          ·
            refine lv_iload_n hx hb dX4_holderOf_27 rfl (lv_at hl 0 rfl) ?_
            exact x_iret C w (by unfold hldI; simpa [c5_1, c14_2, c24_3] using hq) rfl dX4_holderOf_28
  have q4 : 0 = (nI 0 : Int32) := (by first | rfl | contradiction | (simp []; done))
  have hl : lv_has ls 3 [(2, .int (nI 0)), (0, .ref (o 0)), (1, .int pl)] := lv_eqL (lv_sub (l' := [(2, .int 0), (0, .ref (o 0)), (1, .int pl)]) hl [0, 1, 2] rfl) (cg2 List.cons (congrArg (fun z => ((2 : Nat), Value.int z)) q4) (cg2 List.cons rfl (cg2 List.cons rfl rfl)))
  exact loop_2 (9) 8 0 (by omega) rfl rfl _ _ w _ hl
set_option maxHeartbeats 1000000 in
set_option maxRecDepth 100000 in
theorem k_X4_lowestEmpty (l : Launch) (D : va_G) (cI cS : ClassId) (tys : List (ClassId × FieldType)) (ht0 : tys[0]? = some (cI, .int)) (o : Nat → Nat) (G : St)  : xI l yX4_lowestEmpty wsX4_lowestEmpty 0 D tys [.ref (o 0)] (sW cI o G) (lowI G) (sW cI o G) := by
  refine x_inI (cc := cX4_lowestEmpty) (maxL := 2) (ret := (some .int)) (by decide) rfl (Nat.le_of_ble_eq_true rfl) ?_
  intro p e s m args below meth c A ls C w hl
  have C : xC p s m meth c args cX4_lowestEmpty 2 wsX4_lowestEmpty RX4 D tys (some .int) := C
  have hx := C.1.1
  have hb := C.1.2.1
  have hts := C.1.2.2.2.2
  have hown := C.1.2.2.2.1
  have w : xW D A s.heap (sW cI o G) s.heap [] := w
  have hl : lv_has ls 2 [(0, .ref (o 0))] := hl
  refine lv_iconst (v := 0) hx hb dX4_lowestEmpty_0 (by decide +kernel) ?_
  refine lv_istore_n (lv' := [(1, .int 0), (0, .ref (o 0))]) hx hb dX4_lowestEmpty_1 rfl hl (by decide) rfl (fun ls hl => ?_)
  have loop_2 : ∀ (n : Nat) (k : Nat) (i : Nat), k < n → k + i = 8 → fndI (fun j => G 2 j = 0) k i = fndI (fun j => G 2 j = 0) 8 0 → ∀ (H : Heap) (locs : List Loc), xW D A s.heap (sW cI o G) H locs → ∀ ls : Array Slot, lv_has ls 2 [(1, .int (nI i)), (0, .ref (o 0))] → W p l e (rmd 0) s m args below meth c H locs 0 0 (MQ below (xQi D tys (lowI G) (sW cI o G) A) args s 0 0 A) (F0 m 2 ls []) := by
    intro n
    induction n with
    | zero => intro k i hm; exact absurd hm (Nat.not_lt_zero _)
    | succ n ih =>
      intro k i hm hk hq H locs w ls hl
      refine lv_iload_n hx hb dX4_lowestEmpty_2 rfl (lv_at hl 0 rfl) ?_
      refine lv_bipush (v := 8) hx hb dX4_lowestEmpty_3 (by decide +kernel) ?_
      refine x_icN_ge (i := i) (j := 8) (tgt := 25) hx hb (by omega) (by omega) dX4_lowestEmpty_5 (by decide) (fun c5_1 => ?_) (fun c5_1 => ?_)
      ·
        obtain rfl : k = 0 := by omega
        refine lv_iconst (v := -1) hx hb dX4_lowestEmpty_25 (by decide +kernel) ?_
        exact x_iret C w (by rw [fndI] at hq; exact hq) rfl dX4_lowestEmpty_26
      ·
        obtain ⟨k', rfl⟩ : ∃ z, k = z + 1 := ⟨k - 1, by omega⟩
        rw [fndI] at hq
        refine lv_aload_n hx hb dX4_lowestEmpty_8 rfl (lv_at hl 1 rfl) ?_
        refine x_get (v := .ref (o 4)) (T := TX4) C w 0 3 rfl rfl (fun _ h => List.mem_cons_of_mem _ (List.mem_append_right _ (h))) (List.mem_of_getElem? (i := 1) rfl) (by decide) rfl dX4_lowestEmpty_9 ?_
        refine lv_iload_n hx hb dX4_lowestEmpty_12 rfl (lv_at hl 0 rfl) ?_
        refine x_iald (v := G 2 i) C w 4 0 (i) rfl ht0 rfl (by omega) (by decide) rfl dX4_lowestEmpty_13 ?_
        refine x_ifR_ne (x := G 2 i) (tgt := 19) hx hb dX4_lowestEmpty_14 (by decide) (fun c14_2 => ?_) (fun c14_2 => ?_)
        ·
          refine lv_iinc (v := nI (i + 1)) (lv' := [(1, .int (nI (i + 1))), (0, .ref (o 0))]) hx hb dX4_lowestEmpty_19 hl (k := 0) rfl (nI_add i 1) (by decide) rfl (fun ls hl => ?_)
          refine lv_goto (tgt := 2) hx hb dX4_lowestEmpty_22 (by decide) ?_
          have hl : lv_has ls 2 [(1, .int (nI (i + 1))), (0, .ref (o 0))] := lv_eqL (lv_sub (l' := [(1, .int (nI (i + 1))), (0, .ref (o 0))]) hl [0, 1] rfl) (cg2 List.cons rfl (cg2 List.cons rfl rfl))
          exact ih k' (i + 1) (by omega) (by omega) (by simpa [c5_1, c14_2] using hq) _ _ w _ hl
        ·
          refine lv_iload_n hx hb dX4_lowestEmpty_17 rfl (lv_at hl 0 rfl) ?_
          exact x_iret C w (by unfold lowI; simpa [c5_1, c14_2] using hq) rfl dX4_lowestEmpty_18
  have q3 : 0 = (nI 0 : Int32) := (by first | rfl | contradiction | (simp []; done))
  have hl : lv_has ls 2 [(1, .int (nI 0)), (0, .ref (o 0))] := lv_eqL (lv_sub (l' := [(1, .int 0), (0, .ref (o 0))]) hl [0, 1] rfl) (cg2 List.cons (congrArg (fun z => ((1 : Nat), Value.int z)) q3) (cg2 List.cons rfl rfl))
  exact loop_2 (9) 8 0 (by omega) rfl rfl _ _ w _ hl
set_option maxHeartbeats 1000000 in
set_option maxRecDepth 100000 in
theorem k_X4_lowestTurn (l : Launch) (D : va_G) (cI cS : ClassId) (tys : List (ClassId × FieldType)) (ht0 : tys[0]? = some (cI, .int)) (o : Nat → Nat) (G : St) (k : Int32)  : xI l yX4_lowestTurn wsX4_lowestTurn 0 D tys [.ref (o 0), .int k] (sW cI o G) (oldI G k 8) (sW cI o G) := by
  refine x_inI (cc := cX4_lowestTurn) (maxL := 5) (ret := (some .int)) (by decide) rfl (Nat.le_of_ble_eq_true rfl) ?_
  intro p e s m args below meth c A ls C w hl
  have C : xC p s m meth c args cX4_lowestTurn 5 wsX4_lowestTurn RX4 D tys (some .int) := C
  have hx := C.1.1
  have hb := C.1.2.1
  have hts := C.1.2.2.2.2
  have hown := C.1.2.2.2.1
  have w : xW D A s.heap (sW cI o G) s.heap [] := w
  have hl : lv_has ls 5 [(0, .ref (o 0)), (1, .int k)] := hl
  refine lv_iconst (v := -1) hx hb dX4_lowestTurn_0 (by decide +kernel) ?_
  refine lv_istore_n (lv' := [(2, .int (-1)), (0, .ref (o 0)), (1, .int k)]) hx hb dX4_lowestTurn_1 rfl hl (by decide) rfl (fun ls hl => ?_)
  refine lv_iconst (v := 0) hx hb dX4_lowestTurn_2 (by decide +kernel) ?_
  refine lv_istore_n (lv' := [(3, .int 0), (2, .int (-1)), (0, .ref (o 0)), (1, .int k)]) hx hb dX4_lowestTurn_3 rfl hl (by decide) rfl (fun ls hl => ?_)
  refine lv_iconst (v := 0) hx hb dX4_lowestTurn_4 (by decide +kernel) ?_
  refine lv_istore (lv' := [(4, .int 0), (3, .int 0), (2, .int (-1)), (0, .ref (o 0)), (1, .int k)]) hx hb dX4_lowestTurn_5 hl (by decide) rfl (fun ls hl => ?_)
  have loop_7 : ∀ (n : Nat) (i : Nat), 8 - i < n → i ≤ 8 → ∀ (H : Heap) (locs : List Loc), xW D A s.heap (sW cI o G) H locs → ∀ ls : Array Slot, lv_has ls 5 [(4, .int (nI i)), (3, .int (btI G (oldI G k i))), (2, .int (oldI G k i)), (0, .ref (o 0)), (1, .int k)] → W p l e (rmd 0) s m args below meth c H locs 0 0 (MQ below (xQi D tys (oldI G k 8) (sW cI o G) A) args s 0 0 A) (F0 m 7 ls []) := by
    intro n
    induction n with
    | zero => intro i hm; exact absurd hm (Nat.not_lt_zero _)
    | succ n ih =>
      intro i hm hi H locs w ls hl
      refine lv_iload hx hb dX4_lowestTurn_7 (lv_at hl 0 rfl) ?_
      refine lv_bipush (v := 8) hx hb dX4_lowestTurn_9 (by decide +kernel) ?_
      refine x_icN_ge (i := i) (j := 8) (tgt := 58) hx hb (by omega) (by omega) dX4_lowestTurn_11 (by decide) (fun c11_1 => ?_) (fun c11_1 => ?_)
      ·
        have hE : i = 8 := (by omega)
        refine lv_iload_n hx hb dX4_lowestTurn_58 rfl (lv_at hl 2 rfl) ?_
        exact x_iret C w (by first | (rw [hE]; done) | (rw [hE]; rfl) | contradiction | (simp [c11_1, hE]; done) | rfl) rfl dX4_lowestTurn_59
      ·
        refine lv_aload_n hx hb dX4_lowestTurn_14 rfl (lv_at hl 3 rfl) ?_
        refine x_get (v := .ref (o 4)) (T := TX4) C w 0 3 rfl rfl (fun _ h => List.mem_cons_of_mem _ (List.mem_append_right _ (h))) (List.mem_of_getElem? (i := 1) rfl) (by decide) rfl dX4_lowestTurn_15 ?_
        refine lv_iload hx hb dX4_lowestTurn_18 (lv_at hl 0 rfl) ?_
        refine x_iald (v := G 2 i) C w 4 0 (i) rfl ht0 rfl (by omega) (by decide) rfl dX4_lowestTurn_20 ?_
        refine lv_iload_n hx hb dX4_lowestTurn_21 rfl (lv_at hl 4 rfl) ?_
        refine x_icR_ne (x := G 2 i) (y := k) (tgt := 52) hx hb dX4_lowestTurn_22 (by decide) (fun c22_2 => ?_) (fun c22_2 => ?_)
        ·
          refine lv_iinc (v := nI (i + 1)) (lv' := [(4, .int (nI (i + 1))), (3, .int (btI G (oldI G k i))), (2, .int (oldI G k i)), (0, .ref (o 0)), (1, .int k)]) hx hb dX4_lowestTurn_52 hl (k := 0) rfl (nI_add i 1) (by decide) rfl (fun ls hl => ?_)
          refine lv_goto (tgt := 7) hx hb dX4_lowestTurn_55 (by decide) ?_
          have q3 : btI G (oldI G k i) = (btI G (oldI G k (i + 1)) : Int32) := (by first | (simp [oldI, c11_1, c22_2]; done) | (have e9 : oldI G k (i + 1) = nI i := (by simp [oldI, c11_1, c22_2]); rw [e9]; simp [btI, nI_nm1 (show i < 2147483648 by omega), ix_nI (show i < 2147483648 by omega)]))
          have q4 : oldI G k i = (oldI G k (i + 1) : Int32) := (by first | (simp [oldI, c11_1, c22_2]; done) | (have e9 : oldI G k (i + 1) = nI i := (by simp [oldI, c11_1, c22_2]); rw [e9]; simp [btI, nI_nm1 (show i < 2147483648 by omega), ix_nI (show i < 2147483648 by omega)]))
          have hl : lv_has ls 5 [(4, .int (nI (i + 1))), (3, .int (btI G (oldI G k (i + 1)))), (2, .int (oldI G k (i + 1))), (0, .ref (o 0)), (1, .int k)] := lv_eqL (lv_sub (l' := [(4, .int (nI (i + 1))), (3, .int (btI G (oldI G k i))), (2, .int (oldI G k i)), (0, .ref (o 0)), (1, .int k)]) hl [0, 1, 2, 3, 4] rfl) (cg2 List.cons rfl (cg2 List.cons (congrArg (fun z => ((3 : Nat), Value.int z)) q3) (cg2 List.cons (congrArg (fun z => ((2 : Nat), Value.int z)) q4) (cg2 List.cons rfl (cg2 List.cons rfl rfl)))))
          exact ih (i + 1) (by omega) (by omega) _ _ w _ hl
        ·
          refine lv_iload_n hx hb dX4_lowestTurn_25 rfl (lv_at hl 2 rfl) ?_
          refine lv_iconst (v := -1) hx hb dX4_lowestTurn_26 (by decide +kernel) ?_
          refine x_icR_eq (x := oldI G k i) (y := (-1)) (tgt := 41) hx hb dX4_lowestTurn_27 (by decide) (fun c27_5 => ?_) (fun c27_5 => ?_)
          ·
            refine lv_iload hx hb dX4_lowestTurn_41 (lv_at hl 0 rfl) ?_
            refine lv_istore_n (lv' := [(2, .int (nI i)), (4, .int (nI i)), (3, .int (btI G (oldI G k i))), (0, .ref (o 0)), (1, .int k)]) hx hb dX4_lowestTurn_43 rfl hl (by decide) rfl (fun ls hl => ?_)
            refine lv_aload_n hx hb dX4_lowestTurn_44 rfl (lv_at hl 3 rfl) ?_
            refine x_get (v := .ref (o 7)) (T := TX4) C w 0 6 rfl rfl (fun _ h => List.mem_cons_of_mem _ (List.mem_append_right _ (h))) (List.mem_of_getElem? (i := 2) rfl) (by decide) rfl dX4_lowestTurn_45 ?_
            refine lv_iload hx hb dX4_lowestTurn_48 (lv_at hl 1 rfl) ?_
            refine x_iald (v := G 5 i) C w 7 0 (i) rfl ht0 rfl (by omega) (by decide) rfl dX4_lowestTurn_50 ?_
            refine lv_istore_n (lv' := [(3, .int (G 5 i)), (2, .int (nI i)), (4, .int (nI i)), (0, .ref (o 0)), (1, .int k)]) hx hb dX4_lowestTurn_51 rfl hl (by decide) rfl (fun ls hl => ?_)
            refine lv_iinc (v := nI (i + 1)) (lv' := [(4, .int (nI (i + 1))), (3, .int (G 5 i)), (2, .int (nI i)), (0, .ref (o 0)), (1, .int k)]) hx hb dX4_lowestTurn_52 hl (k := 2) rfl (nI_add i 1) (by decide) rfl (fun ls hl => ?_)
            refine lv_goto (tgt := 7) hx hb dX4_lowestTurn_55 (by decide) ?_
            have q6 : G 5 i = (btI G (oldI G k (i + 1)) : Int32) := (by first | (simp [oldI, c11_1, c22_2, c27_5]; done) | (have e9 : oldI G k (i + 1) = nI i := (by simp [oldI, c11_1, c22_2, c27_5]); rw [e9]; simp [btI, nI_nm1 (show i < 2147483648 by omega), ix_nI (show i < 2147483648 by omega)]))
            have q7 : nI i = (oldI G k (i + 1) : Int32) := (by first | (simp [oldI, c11_1, c22_2, c27_5]; done) | (have e9 : oldI G k (i + 1) = nI i := (by simp [oldI, c11_1, c22_2, c27_5]); rw [e9]; simp [btI, nI_nm1 (show i < 2147483648 by omega), ix_nI (show i < 2147483648 by omega)]))
            have hl : lv_has ls 5 [(4, .int (nI (i + 1))), (3, .int (btI G (oldI G k (i + 1)))), (2, .int (oldI G k (i + 1))), (0, .ref (o 0)), (1, .int k)] := lv_eqL (lv_sub (l' := [(4, .int (nI (i + 1))), (3, .int (G 5 i)), (2, .int (nI i)), (0, .ref (o 0)), (1, .int k)]) hl [0, 1, 2, 3, 4] rfl) (cg2 List.cons rfl (cg2 List.cons (congrArg (fun z => ((3 : Nat), Value.int z)) q6) (cg2 List.cons (congrArg (fun z => ((2 : Nat), Value.int z)) q7) (cg2 List.cons rfl (cg2 List.cons rfl rfl)))))
            exact ih (i + 1) (by omega) (by omega) _ _ w _ hl
          ·
            refine lv_aload_n hx hb dX4_lowestTurn_30 rfl (lv_at hl 3 rfl) ?_
            refine x_get (v := .ref (o 7)) (T := TX4) C w 0 6 rfl rfl (fun _ h => List.mem_cons_of_mem _ (List.mem_append_right _ (h))) (List.mem_of_getElem? (i := 2) rfl) (by decide) rfl dX4_lowestTurn_31 ?_
            refine lv_iload hx hb dX4_lowestTurn_34 (lv_at hl 0 rfl) ?_
            refine x_iald (v := G 5 i) C w 7 0 (i) rfl ht0 rfl (by omega) (by decide) rfl dX4_lowestTurn_36 ?_
            refine lv_iload_n hx hb dX4_lowestTurn_37 rfl (lv_at hl 1 rfl) ?_
            refine x_icR_ge (x := G 5 i) (y := btI G (oldI G k i)) (tgt := 52) hx hb dX4_lowestTurn_38 (by decide) (fun c38_8 => ?_) (fun c38_8 => ?_)
            ·
              refine lv_iinc (v := nI (i + 1)) (lv' := [(4, .int (nI (i + 1))), (3, .int (btI G (oldI G k i))), (2, .int (oldI G k i)), (0, .ref (o 0)), (1, .int k)]) hx hb dX4_lowestTurn_52 hl (k := 0) rfl (nI_add i 1) (by decide) rfl (fun ls hl => ?_)
              refine lv_goto (tgt := 7) hx hb dX4_lowestTurn_55 (by decide) ?_
              have q9 : btI G (oldI G k i) = (btI G (oldI G k (i + 1)) : Int32) := (by first | (simp [oldI, c11_1, c22_2, c27_5, c38_8]; done) | (have e9 : oldI G k (i + 1) = nI i := (by simp [oldI, c11_1, c22_2, c27_5, c38_8]); rw [e9]; simp [btI, nI_nm1 (show i < 2147483648 by omega), ix_nI (show i < 2147483648 by omega)]))
              have q10 : oldI G k i = (oldI G k (i + 1) : Int32) := (by first | (simp [oldI, c11_1, c22_2, c27_5, c38_8]; done) | (have e9 : oldI G k (i + 1) = nI i := (by simp [oldI, c11_1, c22_2, c27_5, c38_8]); rw [e9]; simp [btI, nI_nm1 (show i < 2147483648 by omega), ix_nI (show i < 2147483648 by omega)]))
              have hl : lv_has ls 5 [(4, .int (nI (i + 1))), (3, .int (btI G (oldI G k (i + 1)))), (2, .int (oldI G k (i + 1))), (0, .ref (o 0)), (1, .int k)] := lv_eqL (lv_sub (l' := [(4, .int (nI (i + 1))), (3, .int (btI G (oldI G k i))), (2, .int (oldI G k i)), (0, .ref (o 0)), (1, .int k)]) hl [0, 1, 2, 3, 4] rfl) (cg2 List.cons rfl (cg2 List.cons (congrArg (fun z => ((3 : Nat), Value.int z)) q9) (cg2 List.cons (congrArg (fun z => ((2 : Nat), Value.int z)) q10) (cg2 List.cons rfl (cg2 List.cons rfl rfl)))))
              exact ih (i + 1) (by omega) (by omega) _ _ w _ hl
            ·
              refine lv_iload hx hb dX4_lowestTurn_41 (lv_at hl 0 rfl) ?_
              refine lv_istore_n (lv' := [(2, .int (nI i)), (4, .int (nI i)), (3, .int (btI G (oldI G k i))), (0, .ref (o 0)), (1, .int k)]) hx hb dX4_lowestTurn_43 rfl hl (by decide) rfl (fun ls hl => ?_)
              refine lv_aload_n hx hb dX4_lowestTurn_44 rfl (lv_at hl 3 rfl) ?_
              refine x_get (v := .ref (o 7)) (T := TX4) C w 0 6 rfl rfl (fun _ h => List.mem_cons_of_mem _ (List.mem_append_right _ (h))) (List.mem_of_getElem? (i := 2) rfl) (by decide) rfl dX4_lowestTurn_45 ?_
              refine lv_iload hx hb dX4_lowestTurn_48 (lv_at hl 1 rfl) ?_
              refine x_iald (v := G 5 i) C w 7 0 (i) rfl ht0 rfl (by omega) (by decide) rfl dX4_lowestTurn_50 ?_
              refine lv_istore_n (lv' := [(3, .int (G 5 i)), (2, .int (nI i)), (4, .int (nI i)), (0, .ref (o 0)), (1, .int k)]) hx hb dX4_lowestTurn_51 rfl hl (by decide) rfl (fun ls hl => ?_)
              refine lv_iinc (v := nI (i + 1)) (lv' := [(4, .int (nI (i + 1))), (3, .int (G 5 i)), (2, .int (nI i)), (0, .ref (o 0)), (1, .int k)]) hx hb dX4_lowestTurn_52 hl (k := 2) rfl (nI_add i 1) (by decide) rfl (fun ls hl => ?_)
              refine lv_goto (tgt := 7) hx hb dX4_lowestTurn_55 (by decide) ?_
              have q11 : G 5 i = (btI G (oldI G k (i + 1)) : Int32) := (by first | (simp [oldI, c11_1, c22_2, c27_5, c38_8]; done) | (have e9 : oldI G k (i + 1) = nI i := (by simp [oldI, c11_1, c22_2, c27_5, c38_8]); rw [e9]; simp [btI, nI_nm1 (show i < 2147483648 by omega), ix_nI (show i < 2147483648 by omega)]))
              have q12 : nI i = (oldI G k (i + 1) : Int32) := (by first | (simp [oldI, c11_1, c22_2, c27_5, c38_8]; done) | (have e9 : oldI G k (i + 1) = nI i := (by simp [oldI, c11_1, c22_2, c27_5, c38_8]); rw [e9]; simp [btI, nI_nm1 (show i < 2147483648 by omega), ix_nI (show i < 2147483648 by omega)]))
              have hl : lv_has ls 5 [(4, .int (nI (i + 1))), (3, .int (btI G (oldI G k (i + 1)))), (2, .int (oldI G k (i + 1))), (0, .ref (o 0)), (1, .int k)] := lv_eqL (lv_sub (l' := [(4, .int (nI (i + 1))), (3, .int (G 5 i)), (2, .int (nI i)), (0, .ref (o 0)), (1, .int k)]) hl [0, 1, 2, 3, 4] rfl) (cg2 List.cons rfl (cg2 List.cons (congrArg (fun z => ((3 : Nat), Value.int z)) q11) (cg2 List.cons (congrArg (fun z => ((2 : Nat), Value.int z)) q12) (cg2 List.cons rfl (cg2 List.cons rfl rfl)))))
              exact ih (i + 1) (by omega) (by omega) _ _ w _ hl
  have q13 : 0 = (nI 0 : Int32) := (by first | rfl | simp [oldI, btI])
  have q14 : 0 = (btI G (oldI G k 0) : Int32) := (by first | rfl | simp [oldI, btI])
  have q15 : (-1) = (oldI G k 0 : Int32) := (by first | rfl | simp [oldI, btI])
  have hl : lv_has ls 5 [(4, .int (nI 0)), (3, .int (btI G (oldI G k 0))), (2, .int (oldI G k 0)), (0, .ref (o 0)), (1, .int k)] := lv_eqL (lv_sub (l' := [(4, .int 0), (3, .int 0), (2, .int (-1)), (0, .ref (o 0)), (1, .int k)]) hl [0, 1, 2, 3, 4] rfl) (cg2 List.cons (congrArg (fun z => ((4 : Nat), Value.int z)) q13) (cg2 List.cons (congrArg (fun z => ((3 : Nat), Value.int z)) q14) (cg2 List.cons (congrArg (fun z => ((2 : Nat), Value.int z)) q15) (cg2 List.cons rfl (cg2 List.cons rfl rfl)))))
  exact loop_7 (9) 0 (by omega) (by omega) _ _ w _ hl
set_option maxHeartbeats 1000000 in
set_option maxRecDepth 100000 in
theorem k_X4_setOf (l : Launch) (D : va_G) (cI cS : ClassId) (tys : List (ClassId × FieldType)) (ht0 : tys[0]? = some (cI, .int)) (o : Nat → Nat) (G : St) (k : Int32)  : xI l yX4_setOf wsX4_setOf 0 D tys [.ref (o 0), .int k] (sW cI o G) (setI G k) (sW cI o G) := by
  refine x_inI (cc := cX4_setOf) (maxL := 4) (ret := (some .int)) (by decide) rfl (Nat.le_of_ble_eq_true rfl) ?_
  intro p e s m args below meth c A ls C w hl
  have C : xC p s m meth c args cX4_setOf 4 wsX4_setOf RX4 D tys (some .int) := C
  have hx := C.1.1
  have hb := C.1.2.1
  have hts := C.1.2.2.2.2
  have hown := C.1.2.2.2.1
  have w : xW D A s.heap (sW cI o G) s.heap [] := w
  have hl : lv_has ls 4 [(0, .ref (o 0)), (1, .int k)] := hl
  refine lv_iconst (v := 0) hx hb dX4_setOf_0 (by decide +kernel) ?_
  refine lv_istore_n (lv' := [(2, .int 0), (0, .ref (o 0)), (1, .int k)]) hx hb dX4_setOf_1 rfl hl (by decide) rfl (fun ls hl => ?_)
  refine lv_iconst (v := 0) hx hb dX4_setOf_2 (by decide +kernel) ?_
  refine lv_istore_n (lv' := [(3, .int 0), (2, .int 0), (0, .ref (o 0)), (1, .int k)]) hx hb dX4_setOf_3 rfl hl (by decide) rfl (fun ls hl => ?_)
  have loop_4 : ∀ (n : Nat) (i : Nat), 8 - i < n → i ≤ 8 → ∀ (H : Heap) (locs : List Loc), xW D A s.heap (sW cI o G) H locs → ∀ ls : Array Slot, lv_has ls 4 [(3, .int (nI i)), (2, .int (setP (fun j => G 2 j = k) i)), (0, .ref (o 0)), (1, .int k)] → W p l e (rmd 0) s m args below meth c H locs 0 0 (MQ below (xQi D tys (setI G k) (sW cI o G) A) args s 0 0 A) (F0 m 4 ls []) := by
    intro n
    induction n with
    | zero => intro i hm; exact absurd hm (Nat.not_lt_zero _)
    | succ n ih =>
      intro i hm hi H locs w ls hl
      refine lv_iload_n hx hb dX4_setOf_4 rfl (lv_at hl 0 rfl) ?_
      refine lv_bipush (v := 8) hx hb dX4_setOf_5 (by decide +kernel) ?_
      refine x_icN_ge (i := i) (j := 8) (tgt := 32) hx hb (by omega) (by omega) dX4_setOf_7 (by decide) (fun c7_1 => ?_) (fun c7_1 => ?_)
      ·
        have hE : i = 8 := (by omega)
        refine lv_iload_n hx hb dX4_setOf_32 rfl (lv_at hl 1 rfl) ?_
        exact x_iret C w (by first | (rw [hE]; done) | (rw [hE]; rfl) | contradiction | (simp [c7_1, hE]; done) | rfl) rfl dX4_setOf_33
      ·
        refine lv_aload_n hx hb dX4_setOf_10 rfl (lv_at hl 2 rfl) ?_
        refine x_get (v := .ref (o 4)) (T := TX4) C w 0 3 rfl rfl (fun _ h => List.mem_cons_of_mem _ (List.mem_append_right _ (h))) (List.mem_of_getElem? (i := 1) rfl) (by decide) rfl dX4_setOf_11 ?_
        refine lv_iload_n hx hb dX4_setOf_14 rfl (lv_at hl 0 rfl) ?_
        refine x_iald (v := G 2 i) C w 4 0 (i) rfl ht0 rfl (by omega) (by decide) rfl dX4_setOf_15 ?_
        refine lv_iload_n hx hb dX4_setOf_16 rfl (lv_at hl 3 rfl) ?_
        refine x_icR_ne (x := G 2 i) (y := k) (tgt := 26) hx hb dX4_setOf_17 (by decide) (fun c17_2 => ?_) (fun c17_2 => ?_)
        ·
          refine lv_iinc (v := nI (i + 1)) (lv' := [(3, .int (nI (i + 1))), (2, .int (setP (fun j => G 2 j = k) i)), (0, .ref (o 0)), (1, .int k)]) hx hb dX4_setOf_26 hl (k := 0) rfl (nI_add i 1) (by decide) rfl (fun ls hl => ?_)
          refine lv_goto (tgt := 4) hx hb dX4_setOf_29 (by decide) ?_
          have q3 : setP (fun j => G 2 j = k) i = (setP (fun j => G 2 j = k) (i + 1) : Int32) := (by simp [setP, c7_1, c17_2])
          have hl : lv_has ls 4 [(3, .int (nI (i + 1))), (2, .int (setP (fun j => G 2 j = k) (i + 1))), (0, .ref (o 0)), (1, .int k)] := lv_eqL (lv_sub (l' := [(3, .int (nI (i + 1))), (2, .int (setP (fun j => G 2 j = k) i)), (0, .ref (o 0)), (1, .int k)]) hl [0, 1, 2, 3] rfl) (cg2 List.cons rfl (cg2 List.cons (congrArg (fun z => ((2 : Nat), Value.int z)) q3) (cg2 List.cons rfl (cg2 List.cons rfl rfl))))
          exact ih (i + 1) (by omega) (by omega) _ _ w _ hl
        ·
          refine lv_iload_n hx hb dX4_setOf_20 rfl (lv_at hl 1 rfl) ?_
          refine lv_iconst (v := 1) hx hb dX4_setOf_21 (by decide +kernel) ?_
          refine lv_iload_n hx hb dX4_setOf_22 rfl (lv_at hl 0 rfl) ?_
          refine lv_ishl (x := 1) (y := nI i) hx hb dX4_setOf_23 ?_
          refine lv_ior (x := setP (fun j => G 2 j = k) i) (y := (1 <<< ((nI i) &&& 31))) hx hb dX4_setOf_24 ?_
          refine lv_istore_n (lv' := [(2, .int ((setP (fun j => G 2 j = k) i) ||| (1 <<< ((nI i) &&& 31)))), (3, .int (nI i)), (0, .ref (o 0)), (1, .int k)]) hx hb dX4_setOf_25 rfl hl (by decide) rfl (fun ls hl => ?_)
          refine lv_iinc (v := nI (i + 1)) (lv' := [(3, .int (nI (i + 1))), (2, .int ((setP (fun j => G 2 j = k) i) ||| (1 <<< ((nI i) &&& 31)))), (0, .ref (o 0)), (1, .int k)]) hx hb dX4_setOf_26 hl (k := 1) rfl (nI_add i 1) (by decide) rfl (fun ls hl => ?_)
          refine lv_goto (tgt := 4) hx hb dX4_setOf_29 (by decide) ?_
          have q4 : ((setP (fun j => G 2 j = k) i) ||| (1 <<< ((nI i) &&& 31))) = (setP (fun j => G 2 j = k) (i + 1) : Int32) := (by simp [setP, c7_1, c17_2])
          have hl : lv_has ls 4 [(3, .int (nI (i + 1))), (2, .int (setP (fun j => G 2 j = k) (i + 1))), (0, .ref (o 0)), (1, .int k)] := lv_eqL (lv_sub (l' := [(3, .int (nI (i + 1))), (2, .int ((setP (fun j => G 2 j = k) i) ||| (1 <<< ((nI i) &&& 31)))), (0, .ref (o 0)), (1, .int k)]) hl [0, 1, 2, 3] rfl) (cg2 List.cons rfl (cg2 List.cons (congrArg (fun z => ((2 : Nat), Value.int z)) q4) (cg2 List.cons rfl (cg2 List.cons rfl rfl))))
          exact ih (i + 1) (by omega) (by omega) _ _ w _ hl
  have q5 : 0 = (nI 0 : Int32) := (by first | rfl | contradiction | (simp []; done))
  have q6 : 0 = (setP (fun j => G 2 j = k) 0 : Int32) := (by first | rfl | contradiction | (simp []; done))
  have hl : lv_has ls 4 [(3, .int (nI 0)), (2, .int (setP (fun j => G 2 j = k) 0)), (0, .ref (o 0)), (1, .int k)] := lv_eqL (lv_sub (l' := [(3, .int 0), (2, .int 0), (0, .ref (o 0)), (1, .int k)]) hl [0, 1, 2, 3] rfl) (cg2 List.cons (congrArg (fun z => ((3 : Nat), Value.int z)) q5) (cg2 List.cons (congrArg (fun z => ((2 : Nat), Value.int z)) q6) (cg2 List.cons rfl (cg2 List.cons rfl rfl))))
  exact loop_4 (9) 0 (by omega) (by omega) _ _ w _ hl
set_option maxHeartbeats 1000000 in
set_option maxRecDepth 100000 in
theorem k_X4_numberOf (l : Launch) (D : va_G) (cI cS : ClassId) (tys : List (ClassId × FieldType)) (ht0 : tys[0]? = some (cI, .int)) (o : Nat → Nat) (G : St) (k : Int32)  : xI l yX4_numberOf wsX4_numberOf 1 D tys [.ref (o 0), .int k] (sW cI o G) (nofI G k) (sW cI o G) := by
  refine x_inI (cc := cX4_numberOf) (maxL := 2) (ret := (some .int)) (by decide) rfl (Nat.le_of_ble_eq_true rfl) ?_
  intro p e s m args below meth c A ls C w hl
  have C : xC p s m meth c args cX4_numberOf 2 wsX4_numberOf RX4 D tys (some .int) := C
  have hx := C.1.1
  have hb := C.1.2.1
  have hts := C.1.2.2.2.2
  have hown := C.1.2.2.2.1
  have w : xW D A s.heap (sW cI o G) s.heap [] := w
  have hl : lv_has ls 2 [(0, .ref (o 0)), (1, .int k)] := hl
  refine lv_aload_n hx hb dX4_numberOf_0 rfl (lv_at hl 0 rfl) ?_
  refine lv_iload_n hx hb dX4_numberOf_1 rfl (lv_at hl 1 rfl) ?_
  refine x_callVi (wr := []) (w2 := sW cI o G) (rest := []) (n := 1) C w hl [.int k] (k_X4_setOf l D cI cS tys ht0 o G k ) gX4_numberOf_X4_setOf rfl (by decide +kernel) ⟨Nat.le_of_ble_eq_true rfl, Nat.le_of_ble_eq_true rfl⟩ 0 4 rfl rfl rfl rfl (Nat.le_of_ble_eq_true rfl) [0, 1, 2, 3, 4, 5, 6, 7] [] (by decide) rfl rfl (by decide) (by decide) [0, 1, 2, 3, 4, 5, 6, 7] (by decide) rfl ⟨Nat.zero_le _, Nat.zero_le _⟩ dX4_numberOf_2 (fun H locs w => ?_)
  refine x_callSi (wr := sW cI o G) (w2 := sW cI o G) (rest := []) (n := 1) C w hl [.int (setI G k)] (k_J6_bitCount_0f7a4 l D cI cS tys ht0 (setI G k) ) gX4_numberOf_J6_bitCount_0f7a4 rfl (by decide +kernel) ⟨Nat.le_of_ble_eq_true rfl, Nat.le_of_ble_eq_true rfl⟩ rfl rfl (Nat.le_of_ble_eq_true rfl) [] [0, 1, 2, 3, 4, 5, 6, 7] (by decide) rfl rfl (by decide) (by decide) [0, 1, 2, 3, 4, 5, 6, 7] (by decide) rfl ⟨Nat.zero_le _, Nat.zero_le _⟩ dX4_numberOf_5 (fun H locs w => ?_)
  exact x_iret C w (by first | rfl | contradiction | (simp []; done)) rfl dX4_numberOf_8
set_option maxHeartbeats 1000000 in
set_option maxRecDepth 100000 in
theorem k_X4_linesAhead (l : Launch) (D : va_G) (cI cS : ClassId) (tys : List (ClassId × FieldType)) (ht0 : tys[0]? = some (cI, .int)) (o : Nat → Nat) (G : St) (x : Int32) (k : Int32)  : xI l yX4_linesAhead wsX4_linesAhead 1 D tys [.ref (o 0), .int x, .int k] (sW cI o G) (lahI G x k) (sW cI o G) := by
  refine x_inI (cc := cX4_linesAhead) (maxL := 5) (ret := (some .int)) (by decide) rfl (Nat.le_of_ble_eq_true rfl) ?_
  intro p e s m args below meth c A ls C w hl
  have C : xC p s m meth c args cX4_linesAhead 5 wsX4_linesAhead RX4 D tys (some .int) := C
  have hx := C.1.1
  have hb := C.1.2.1
  have hts := C.1.2.2.2.2
  have hown := C.1.2.2.2.1
  have w : xW D A s.heap (sW cI o G) s.heap [] := w
  have hl : lv_has ls 5 [(0, .ref (o 0)), (1, .int x), (2, .int k)] := hl
  refine lv_iconst (v := 0) hx hb dX4_linesAhead_0 (by decide +kernel) ?_
  refine lv_istore_n (lv' := [(3, .int 0), (0, .ref (o 0)), (1, .int x), (2, .int k)]) hx hb dX4_linesAhead_1 rfl hl (by decide) rfl (fun ls hl => ?_)
  refine lv_iconst (v := 0) hx hb dX4_linesAhead_2 (by decide +kernel) ?_
  refine lv_istore (lv' := [(4, .int 0), (3, .int 0), (0, .ref (o 0)), (1, .int x), (2, .int k)]) hx hb dX4_linesAhead_3 hl (by decide) rfl (fun ls hl => ?_)
  have loop_5 : ∀ (n : Nat) (i : Nat), 8 - i < n → i ≤ 8 → i = 0 ∨ rg x 8 = true → ∀ (H : Heap) (locs : List Loc), xW D A s.heap (sW cI o G) H locs → ∀ ls : Array Slot, lv_has ls 5 [(4, .int (nI i)), (3, .int (nI (cntN (fun j => ¬ G 2 j < k ∧ G 5 j < G 5 (ix x)) i))), (0, .ref (o 0)), (1, .int x), (2, .int k)] → W p l e (rmd 1) s m args below meth c H locs 0 0 (MQ below (xQi D tys (lahI G x k) (sW cI o G) A) args s 0 0 A) (F0 m 5 ls []) := by
    intro n
    induction n with
    | zero => intro i hm; exact absurd hm (Nat.not_lt_zero _)
    | succ n ih =>
      intro i hm hi hz H locs w ls hl
      refine lv_iload_n hx hb dX4_linesAhead_5 rfl (lv_at hl 3 rfl) ?_
      refine x_callNi (wr := sW cI o G) (w2 := sW cI o G) (rest := []) (n := 1) C w hl [.int x] (k_X6_isLine l D cI cS tys ht0 x ) gX4_linesAhead_X6_isLine_n80 rfl (by decide) (List.mem_of_getElem? (i := 4) rfl) (List.mem_of_getElem? (i := 3) rfl) (by decide +kernel) ⟨Nat.le_of_ble_eq_true rfl, Nat.le_of_ble_eq_true rfl⟩ rfl rfl (Nat.le_of_ble_eq_true rfl) [] [0, 1, 2, 3, 4, 5, 6, 7] (by decide) rfl rfl (by decide) (by decide) [0, 1, 2, 3, 4, 5, 6, 7] (by decide) rfl ⟨Nat.zero_le _, Nat.zero_le _⟩ dX4_linesAhead_6 (fun H locs w => ?_)
      refine x_ifB_eq (P := rg x 8 = true) (tgt := 55) hx hb dX4_linesAhead_9 (by decide) (fun c9_1 => ?_) (fun c9_1 => ?_)
      ·
        have hE : i = 0 := hz.resolve_right c9_1
        refine lv_iload_n hx hb dX4_linesAhead_55 rfl (lv_at hl 1 rfl) ?_
        exact x_iret C w (by first | (simp [lahI, c9_1, hE]; done) | (rw [hE]; simp [lahI, cntN, nI_0, c9_1, hE]; done)) rfl dX4_linesAhead_56
      ·
        refine lv_iload hx hb dX4_linesAhead_12 (lv_at hl 0 rfl) ?_
        refine lv_bipush (v := 8) hx hb dX4_linesAhead_14 (by decide +kernel) ?_
        refine x_icN_ge (i := i) (j := 8) (tgt := 55) hx hb (by omega) (by omega) dX4_linesAhead_16 (by decide) (fun c16_2 => ?_) (fun c16_2 => ?_)
        ·
          have hE : i = 8 := (by omega)
          refine lv_iload_n hx hb dX4_linesAhead_55 rfl (lv_at hl 1 rfl) ?_
          exact x_iret C w (by first | (simp [lahI, c9_1, c16_2, hE]; done) | (rw [hE]; simp [lahI, cntN, nI_0, c9_1, c16_2, hE]; done)) rfl dX4_linesAhead_56
        ·
          refine lv_aload_n hx hb dX4_linesAhead_19 rfl (lv_at hl 2 rfl) ?_
          refine x_get (v := .ref (o 4)) (T := TX4) C w 0 3 rfl rfl (fun _ h => List.mem_cons_of_mem _ (List.mem_append_right _ (h))) (List.mem_of_getElem? (i := 1) rfl) (by decide) rfl dX4_linesAhead_20 ?_
          refine lv_iload hx hb dX4_linesAhead_23 (lv_at hl 0 rfl) ?_
          refine x_iald (v := G 2 i) C w 4 0 (i) rfl ht0 rfl (by omega) (by decide) rfl dX4_linesAhead_25 ?_
          refine lv_iload_n hx hb dX4_linesAhead_26 rfl (lv_at hl 4 rfl) ?_
          refine x_icR_lt (x := G 2 i) (y := k) (tgt := 49) hx hb dX4_linesAhead_27 (by decide) (fun c27_3 => ?_) (fun c27_3 => ?_)
          ·
            refine lv_iinc (v := nI (i + 1)) (lv' := [(4, .int (nI (i + 1))), (3, .int (nI (cntN (fun j => ¬ G 2 j < k ∧ G 5 j < G 5 (ix x)) i))), (0, .ref (o 0)), (1, .int x), (2, .int k)]) hx hb dX4_linesAhead_49 hl (k := 0) rfl (nI_add i 1) (by decide) rfl (fun ls hl => ?_)
            refine lv_goto (tgt := 5) hx hb dX4_linesAhead_52 (by decide) ?_
            have q4 : nI (cntN (fun j => ¬ G 2 j < k ∧ G 5 j < G 5 (ix x)) i) = (nI (cntN (fun j => ¬ G 2 j < k ∧ G 5 j < G 5 (ix x)) (i + 1)) : Int32) := (by simp [cntN, c9_1, c16_2, c27_3])
            have hl : lv_has ls 5 [(4, .int (nI (i + 1))), (3, .int (nI (cntN (fun j => ¬ G 2 j < k ∧ G 5 j < G 5 (ix x)) (i + 1)))), (0, .ref (o 0)), (1, .int x), (2, .int k)] := lv_eqL (lv_sub (l' := [(4, .int (nI (i + 1))), (3, .int (nI (cntN (fun j => ¬ G 2 j < k ∧ G 5 j < G 5 (ix x)) i))), (0, .ref (o 0)), (1, .int x), (2, .int k)]) hl [0, 1, 2, 3, 4] rfl) (cg2 List.cons rfl (cg2 List.cons (congrArg (fun z => ((3 : Nat), Value.int z)) q4) (cg2 List.cons rfl (cg2 List.cons rfl (cg2 List.cons rfl rfl)))))
            exact ih (i + 1) (by omega) (by omega) (Or.inr (by assumption)) _ _ w _ hl
          ·
            refine lv_aload_n hx hb dX4_linesAhead_30 rfl (lv_at hl 2 rfl) ?_
            refine x_get (v := .ref (o 7)) (T := TX4) C w 0 6 rfl rfl (fun _ h => List.mem_cons_of_mem _ (List.mem_append_right _ (h))) (List.mem_of_getElem? (i := 2) rfl) (by decide) rfl dX4_linesAhead_31 ?_
            refine lv_iload hx hb dX4_linesAhead_34 (lv_at hl 0 rfl) ?_
            refine x_iald (v := G 5 i) C w 7 0 (i) rfl ht0 rfl (by omega) (by decide) rfl dX4_linesAhead_36 ?_
            refine lv_aload_n hx hb dX4_linesAhead_37 rfl (lv_at hl 2 rfl) ?_
            refine x_get (v := .ref (o 7)) (T := TX4) C w 0 6 rfl rfl (fun _ h => List.mem_cons_of_mem _ (List.mem_append_right _ (h))) (List.mem_of_getElem? (i := 2) rfl) (by decide) rfl dX4_linesAhead_38 ?_
            refine lv_iload_n hx hb dX4_linesAhead_41 rfl (lv_at hl 3 rfl) ?_
            refine x_ialdR (v := G 5 (ix x)) C w 7 0 rfl ht0 (rg_in (n := 8) rfl (by decide) c9_1) rfl dX4_linesAhead_42 ?_
            refine x_icR_ge (x := G 5 i) (y := G 5 (ix x)) (tgt := 49) hx hb dX4_linesAhead_43 (by decide) (fun c43_5 => ?_) (fun c43_5 => ?_)
            ·
              refine lv_iinc (v := nI (i + 1)) (lv' := [(4, .int (nI (i + 1))), (3, .int (nI (cntN (fun j => ¬ G 2 j < k ∧ G 5 j < G 5 (ix x)) i))), (0, .ref (o 0)), (1, .int x), (2, .int k)]) hx hb dX4_linesAhead_49 hl (k := 0) rfl (nI_add i 1) (by decide) rfl (fun ls hl => ?_)
              refine lv_goto (tgt := 5) hx hb dX4_linesAhead_52 (by decide) ?_
              have q6 : nI (cntN (fun j => ¬ G 2 j < k ∧ G 5 j < G 5 (ix x)) i) = (nI (cntN (fun j => ¬ G 2 j < k ∧ G 5 j < G 5 (ix x)) (i + 1)) : Int32) := (by simp [cntN, c9_1, c16_2, c27_3, c43_5])
              have hl : lv_has ls 5 [(4, .int (nI (i + 1))), (3, .int (nI (cntN (fun j => ¬ G 2 j < k ∧ G 5 j < G 5 (ix x)) (i + 1)))), (0, .ref (o 0)), (1, .int x), (2, .int k)] := lv_eqL (lv_sub (l' := [(4, .int (nI (i + 1))), (3, .int (nI (cntN (fun j => ¬ G 2 j < k ∧ G 5 j < G 5 (ix x)) i))), (0, .ref (o 0)), (1, .int x), (2, .int k)]) hl [0, 1, 2, 3, 4] rfl) (cg2 List.cons rfl (cg2 List.cons (congrArg (fun z => ((3 : Nat), Value.int z)) q6) (cg2 List.cons rfl (cg2 List.cons rfl (cg2 List.cons rfl rfl)))))
              exact ih (i + 1) (by omega) (by omega) (Or.inr (by assumption)) _ _ w _ hl
            ·
              refine lv_iinc (v := nI ((cntN (fun j => ¬ G 2 j < k ∧ G 5 j < G 5 (ix x)) i) + 1)) (lv' := [(3, .int (nI ((cntN (fun j => ¬ G 2 j < k ∧ G 5 j < G 5 (ix x)) i) + 1))), (4, .int (nI i)), (0, .ref (o 0)), (1, .int x), (2, .int k)]) hx hb dX4_linesAhead_46 hl (k := 1) rfl (nI_add (cntN (fun j => ¬ G 2 j < k ∧ G 5 j < G 5 (ix x)) i) 1) (by decide) rfl (fun ls hl => ?_)
              refine lv_iinc (v := nI (i + 1)) (lv' := [(4, .int (nI (i + 1))), (3, .int (nI ((cntN (fun j => ¬ G 2 j < k ∧ G 5 j < G 5 (ix x)) i) + 1))), (0, .ref (o 0)), (1, .int x), (2, .int k)]) hx hb dX4_linesAhead_49 hl (k := 1) rfl (nI_add i 1) (by decide) rfl (fun ls hl => ?_)
              refine lv_goto (tgt := 5) hx hb dX4_linesAhead_52 (by decide) ?_
              have q7 : nI ((cntN (fun j => ¬ G 2 j < k ∧ G 5 j < G 5 (ix x)) i) + 1) = (nI (cntN (fun j => ¬ G 2 j < k ∧ G 5 j < G 5 (ix x)) (i + 1)) : Int32) := (by simp [cntN, c9_1, c16_2, c27_3, c43_5])
              have hl : lv_has ls 5 [(4, .int (nI (i + 1))), (3, .int (nI (cntN (fun j => ¬ G 2 j < k ∧ G 5 j < G 5 (ix x)) (i + 1)))), (0, .ref (o 0)), (1, .int x), (2, .int k)] := lv_eqL (lv_sub (l' := [(4, .int (nI (i + 1))), (3, .int (nI ((cntN (fun j => ¬ G 2 j < k ∧ G 5 j < G 5 (ix x)) i) + 1))), (0, .ref (o 0)), (1, .int x), (2, .int k)]) hl [0, 1, 2, 3, 4] rfl) (cg2 List.cons rfl (cg2 List.cons (congrArg (fun z => ((3 : Nat), Value.int z)) q7) (cg2 List.cons rfl (cg2 List.cons rfl (cg2 List.cons rfl rfl)))))
              exact ih (i + 1) (by omega) (by omega) (Or.inr (by assumption)) _ _ w _ hl
  have q8 : 0 = (nI 0 : Int32) := (by first | rfl | contradiction | (simp []; done))
  have q9 : 0 = (nI (cntN (fun j => ¬ G 2 j < k ∧ G 5 j < G 5 (ix x)) 0) : Int32) := (by first | rfl | contradiction | (simp []; done))
  have hl : lv_has ls 5 [(4, .int (nI 0)), (3, .int (nI (cntN (fun j => ¬ G 2 j < k ∧ G 5 j < G 5 (ix x)) 0))), (0, .ref (o 0)), (1, .int x), (2, .int k)] := lv_eqL (lv_sub (l' := [(4, .int 0), (3, .int 0), (0, .ref (o 0)), (1, .int x), (2, .int k)]) hl [0, 1, 2, 3, 4] rfl) (cg2 List.cons (congrArg (fun z => ((4 : Nat), Value.int z)) q8) (cg2 List.cons (congrArg (fun z => ((3 : Nat), Value.int z)) q9) (cg2 List.cons rfl (cg2 List.cons rfl (cg2 List.cons rfl rfl)))))
  exact loop_5 (9) 0 (by omega) (by omega) (Or.inl rfl) _ _ w _ hl
set_option maxHeartbeats 1000000 in
set_option maxRecDepth 100000 in
theorem k_X4_layOnDisk (l : Launch) (D : va_G) (cI cS : ClassId) (tys : List (ClassId × FieldType)) (ht0 : tys[0]? = some (cI, .int)) (o : Nat → Nat) (G : St) (pl : Int32) (v : Int32)  : xV l yX4_layOnDisk wsX4_layOnDisk 1 D tys [.ref (o 0), .int pl, .int v] (sW cI o G) (sW cI o (layG G pl v)) := by
  refine x_inV (cc := cX4_layOnDisk) (maxL := 3) (ret := none) (by decide) rfl (Nat.le_of_ble_eq_true rfl) ?_
  intro p e s m args below meth c A ls C w hl
  have C : xC p s m meth c args cX4_layOnDisk 3 wsX4_layOnDisk RX4 D tys none := C
  have hx := C.1.1
  have hb := C.1.2.1
  have hts := C.1.2.2.2.2
  have hown := C.1.2.2.2.1
  have w : xW D A s.heap (sW cI o G) s.heap [] := w
  have hl : lv_has ls 3 [(0, .ref (o 0)), (1, .int pl), (2, .int v)] := hl
  refine lv_iload_n hx hb dX4_layOnDisk_0 rfl (lv_at hl 1 rfl) ?_
  refine x_callNi (wr := sW cI o G) (w2 := sW cI o G) (rest := []) (n := 1) C w hl [.int pl] (k_X6_isPlace l D cI cS tys ht0 pl ) gX4_layOnDisk_X6_isPlace_n114 rfl (by decide) (List.mem_of_getElem? (i := 5) rfl) (List.mem_of_getElem? (i := 4) rfl) (by decide +kernel) ⟨Nat.le_of_ble_eq_true rfl, Nat.le_of_ble_eq_true rfl⟩ rfl rfl (Nat.le_of_ble_eq_true rfl) [] [0, 1, 2, 3, 4, 5, 6, 7] (by decide) rfl rfl (by decide) (by decide) [0, 1, 2, 3, 4, 5, 6, 7] (by decide) rfl ⟨Nat.zero_le _, Nat.zero_le _⟩ dX4_layOnDisk_1 (fun H locs w => ?_)
  refine x_ifB_eq (P := rg pl 64 = true) (tgt := 34) hx hb dX4_layOnDisk_4 (by decide) (fun c4_1 => ?_) (fun c4_1 => ?_)
  ·
    exact x_vret C w (congrArg (sW cI o) (by first | rfl | contradiction | (simp [layG, c4_1]; done))) dX4_layOnDisk_34
  ·
    refine lv_aload_n hx hb dX4_layOnDisk_7 rfl (lv_at hl 0 rfl) ?_
    refine x_get (v := .ref (o 2)) (T := TX4) C w 0 1 rfl rfl (fun _ h => List.mem_cons_of_mem _ (List.mem_append_right _ (h))) (List.mem_of_getElem? (i := 1) rfl) (by decide) rfl dX4_layOnDisk_8 ?_
    refine lv_iload_n hx hb dX4_layOnDisk_11 rfl (lv_at hl 1 rfl) ?_
    refine lv_iload_n hx hb dX4_layOnDisk_12 rfl (lv_at hl 2 rfl) ?_
    refine x_iastR (ws2 := sW cI o (s2 G 0 (ix pl) v)) C w 2 0 rfl ht0 (rg_in (n := 64) rfl (by decide) c4_1) rfl dX4_layOnDisk_13 (fun H locs w => ?_)
    refine lv_aload_n hx hb dX4_layOnDisk_14 rfl (lv_at hl 0 rfl) ?_
    refine x_get (v := .ref (o 3)) (T := TX4) C w 0 2 rfl rfl (fun _ h => List.mem_cons_of_mem _ (List.mem_append_right _ (h))) (List.mem_of_getElem? (i := 2) rfl) (by decide) rfl dX4_layOnDisk_15 ?_
    refine lv_iload_n hx hb dX4_layOnDisk_18 rfl (lv_at hl 1 rfl) ?_
    refine lv_dup2_11 hx hb dX4_layOnDisk_19 rfl rfl ?_
    refine x_ialdR (v := G 1 (ix pl)) C w 3 0 rfl ht0 (rg_in (n := 64) rfl (by decide) c4_1) rfl dX4_layOnDisk_20 ?_
    refine lv_iconst (v := 1) hx hb dX4_layOnDisk_21 (by decide +kernel) ?_
    refine lv_iadd (x := G 1 (ix pl)) (y := 1) hx hb dX4_layOnDisk_22 ?_
    refine x_iastR (ws2 := sW cI o (s2 (s2 G 0 (ix pl) v) 1 (ix pl) ((G 1 (ix pl)) + 1))) C w 3 0 rfl ht0 (rg_in (n := 64) rfl (by decide) c4_1) rfl dX4_layOnDisk_23 (fun H locs w => ?_)
    refine lv_aload_n hx hb dX4_layOnDisk_24 rfl (lv_at hl 0 rfl) ?_
    refine lv_dup hx hb dX4_layOnDisk_25 rfl ?_
    refine x_get (v := .int (G 7 8)) (T := TX4) C w 0 16 rfl rfl (fun _ h => List.mem_cons_of_mem _ (List.mem_append_right _ (h))) (List.mem_of_getElem? (i := 3) rfl) (by decide) rfl dX4_layOnDisk_26 ?_
    refine lv_iconst (v := 1) hx hb dX4_layOnDisk_29 (by decide +kernel) ?_
    refine lv_iadd (x := G 7 8) (y := 1) hx hb dX4_layOnDisk_30 ?_
    refine x_put (v := .int ((G 7 8) + 1)) (ty := .int) (T := TX4) (ws2 := sW cI o (s2 (s2 (s2 G 0 (ix pl) v) 1 (ix pl) ((G 1 (ix pl)) + 1)) 7 8 ((G 7 8) + 1))) C w 0 16 rfl rfl (fun _ h => List.mem_cons_of_mem _ (List.mem_append_right _ (h))) tyX4 tyX4_ok nmX4 (List.mem_of_getElem? (i := 3) rfl) (by decide) (Nat.le_of_ble_eq_true rfl) rfl (by decide +kernel) rfl rfl rfl dX4_layOnDisk_31 (fun H locs w => ?_)
    exact x_vret C w (congrArg (sW cI o) (by first | rfl | contradiction | (simp [layG, c4_1]; done))) dX4_layOnDisk_34
set_option maxHeartbeats 1000000 in
set_option maxRecDepth 100000 in
theorem k_X4_layIntoLine (l : Launch) (D : va_G) (cI cS : ClassId) (tys : List (ClassId × FieldType)) (ht0 : tys[0]? = some (cI, .int)) (o : Nat → Nat) (G : St) (x : Int32) (pl : Int32)  : xV l yX4_layIntoLine wsX4_layIntoLine 1 D tys [.ref (o 0), .int x, .int pl] (sW cI o G) (sW cI o (linG G x pl)) := by
  refine x_inV (cc := cX4_layIntoLine) (maxL := 3) (ret := none) (by decide) rfl (Nat.le_of_ble_eq_true rfl) ?_
  intro p e s m args below meth c A ls C w hl
  have C : xC p s m meth c args cX4_layIntoLine 3 wsX4_layIntoLine RX4 D tys none := C
  have hx := C.1.1
  have hb := C.1.2.1
  have hts := C.1.2.2.2.2
  have hown := C.1.2.2.2.1
  have w : xW D A s.heap (sW cI o G) s.heap [] := w
  have hl : lv_has ls 3 [(0, .ref (o 0)), (1, .int x), (2, .int pl)] := hl
  refine lv_iload_n hx hb dX4_layIntoLine_0 rfl (lv_at hl 1 rfl) ?_
  refine x_callNi (wr := sW cI o G) (w2 := sW cI o G) (rest := []) (n := 1) C w hl [.int x] (k_X6_isLine l D cI cS tys ht0 x ) gX4_layIntoLine_X6_isLine_n80 rfl (by decide) (List.mem_of_getElem? (i := 6) rfl) (List.mem_of_getElem? (i := 5) rfl) (by decide +kernel) ⟨Nat.le_of_ble_eq_true rfl, Nat.le_of_ble_eq_true rfl⟩ rfl rfl (Nat.le_of_ble_eq_true rfl) [] [0, 1, 2, 3, 4, 5, 6, 7] (by decide) rfl rfl (by decide) (by decide) [0, 1, 2, 3, 4, 5, 6, 7] (by decide) rfl ⟨Nat.zero_le _, Nat.zero_le _⟩ dX4_layIntoLine_1 (fun H locs w => ?_)
  refine x_ifB_eq (P := rg x 8 = true) (tgt := 40) hx hb dX4_layIntoLine_4 (by decide) (fun c4_1 => ?_) (fun c4_1 => ?_)
  ·
    exact x_vret C w (congrArg (sW cI o) (by first | rfl | contradiction | (simp [linG, c4_1]; done))) dX4_layIntoLine_40
  ·
    refine lv_iload_n hx hb dX4_layIntoLine_7 rfl (lv_at hl 2 rfl) ?_
    refine x_callNi (wr := sW cI o G) (w2 := sW cI o G) (rest := []) (n := 1) C w hl [.int pl] (k_X6_isPlace l D cI cS tys ht0 pl ) gX4_layIntoLine_X6_isPlace_n114 rfl (by decide) (List.mem_of_getElem? (i := 6) rfl) (List.mem_of_getElem? (i := 8) rfl) (by decide +kernel) ⟨Nat.le_of_ble_eq_true rfl, Nat.le_of_ble_eq_true rfl⟩ rfl rfl (Nat.le_of_ble_eq_true rfl) [] [0, 1, 2, 3, 4, 5, 6, 7] (by decide) rfl rfl (by decide) (by decide) [0, 1, 2, 3, 4, 5, 6, 7] (by decide) rfl ⟨Nat.zero_le _, Nat.zero_le _⟩ dX4_layIntoLine_8 (fun H locs w => ?_)
    refine x_ifB_eq (P := rg pl 64 = true) (tgt := 40) hx hb dX4_layIntoLine_11 (by decide) (fun c11_2 => ?_) (fun c11_2 => ?_)
    ·
      exact x_vret C w (congrArg (sW cI o) (by first | rfl | contradiction | (simp [linG, c4_1, c11_2]; done))) dX4_layIntoLine_40
    ·
      refine lv_aload_n hx hb dX4_layIntoLine_14 rfl (lv_at hl 0 rfl) ?_
      refine x_get (v := .ref (o 4)) (T := TX4) C w 0 3 rfl rfl (fun _ h => List.mem_cons_of_mem _ (List.mem_append_right _ (h))) (List.mem_of_getElem? (i := 1) rfl) (by decide) rfl dX4_layIntoLine_15 ?_
      refine lv_iload_n hx hb dX4_layIntoLine_18 rfl (lv_at hl 1 rfl) ?_
      refine lv_iconst (v := 1) hx hb dX4_layIntoLine_19 (by decide +kernel) ?_
      refine x_iastR (ws2 := sW cI o (s2 G 2 (ix x) 1)) C w 4 0 rfl ht0 (rg_in (n := 8) rfl (by decide) c4_1) rfl dX4_layIntoLine_20 (fun H locs w => ?_)
      refine lv_aload_n hx hb dX4_layIntoLine_21 rfl (lv_at hl 0 rfl) ?_
      refine x_get (v := .ref (o 5)) (T := TX4) C w 0 4 rfl rfl (fun _ h => List.mem_cons_of_mem _ (List.mem_append_right _ (h))) (List.mem_of_getElem? (i := 2) rfl) (by decide) rfl dX4_layIntoLine_22 ?_
      refine lv_iload_n hx hb dX4_layIntoLine_25 rfl (lv_at hl 1 rfl) ?_
      refine lv_iload_n hx hb dX4_layIntoLine_26 rfl (lv_at hl 2 rfl) ?_
      refine x_iastR (ws2 := sW cI o (s2 (s2 G 2 (ix x) 1) 3 (ix x) pl)) C w 5 0 rfl ht0 (rg_in (n := 8) rfl (by decide) c4_1) rfl dX4_layIntoLine_27 (fun H locs w => ?_)
      refine lv_aload_n hx hb dX4_layIntoLine_28 rfl (lv_at hl 0 rfl) ?_
      refine x_get (v := .ref (o 6)) (T := TX4) C w 0 5 rfl rfl (fun _ h => List.mem_cons_of_mem _ (List.mem_append_right _ (h))) (List.mem_of_getElem? (i := 3) rfl) (by decide) rfl dX4_layIntoLine_29 ?_
      refine lv_iload_n hx hb dX4_layIntoLine_32 rfl (lv_at hl 1 rfl) ?_
      refine lv_aload_n hx hb dX4_layIntoLine_33 rfl (lv_at hl 0 rfl) ?_
      refine x_get (v := .ref (o 2)) (T := TX4) C w 0 1 rfl rfl (fun _ h => List.mem_cons_of_mem _ (List.mem_append_right _ (h))) (List.mem_of_getElem? (i := 4) rfl) (by decide) rfl dX4_layIntoLine_34 ?_
      refine lv_iload_n hx hb dX4_layIntoLine_37 rfl (lv_at hl 2 rfl) ?_
      refine x_ialdR (v := G 0 (ix pl)) C w 2 0 rfl ht0 (rg_in (n := 64) rfl (by decide) c11_2) rfl dX4_layIntoLine_38 ?_
      refine x_iastR (ws2 := sW cI o (s2 (s2 (s2 G 2 (ix x) 1) 3 (ix x) pl) 4 (ix x) (G 0 (ix pl)))) C w 6 0 rfl ht0 (rg_in (n := 8) rfl (by decide) c4_1) rfl dX4_layIntoLine_39 (fun H locs w => ?_)
      exact x_vret C w (congrArg (sW cI o) (by first | rfl | contradiction | (simp [linG, c4_1, c11_2]; done))) dX4_layIntoLine_40
set_option maxHeartbeats 1000000 in
set_option maxRecDepth 100000 in
theorem k_X4_lineToTake (l : Launch) (D : va_G) (cI cS : ClassId) (tys : List (ClassId × FieldType)) (ht0 : tys[0]? = some (cI, .int)) (o : Nat → Nat) (G : St)  : xI l yX4_lineToTake wsX4_lineToTake 1 D tys [.ref (o 0)] (sW cI o G) (takI G) (sW cI o G) := by
  refine x_inI (cc := cX4_lineToTake) (maxL := 2) (ret := (some .int)) (by decide) rfl (Nat.le_of_ble_eq_true rfl) ?_
  intro p e s m args below meth c A ls C w hl
  have C : xC p s m meth c args cX4_lineToTake 2 wsX4_lineToTake RX4 D tys (some .int) := C
  have hx := C.1.1
  have hb := C.1.2.1
  have hts := C.1.2.2.2.2
  have hown := C.1.2.2.2.1
  have w : xW D A s.heap (sW cI o G) s.heap [] := w
  have hl : lv_has ls 2 [(0, .ref (o 0))] := hl
  refine lv_aload_n hx hb dX4_lineToTake_0 rfl (lv_at hl 0 rfl) ?_
  refine x_callVi (wr := []) (w2 := sW cI o G) (rest := []) (n := 0) C w hl [] (k_X4_lowestEmpty l D cI cS tys ht0 o G ) gX4_lineToTake_X4_lowestEmpty rfl (by decide +kernel) ⟨Nat.le_of_ble_eq_true rfl, Nat.le_of_ble_eq_true rfl⟩ 0 4 rfl rfl rfl rfl (Nat.le_of_ble_eq_true rfl) [0, 1, 2, 3, 4, 5, 6, 7] [] (by decide) rfl rfl (by decide) (by decide) [0, 1, 2, 3, 4, 5, 6, 7] (by decide) rfl ⟨Nat.zero_le _, Nat.zero_le _⟩ dX4_lineToTake_1 (fun H locs w => ?_)
  refine lv_istore_n (lv' := [(1, .int (lowI G)), (0, .ref (o 0))]) hx hb dX4_lineToTake_4 rfl hl (by decide) rfl (fun ls hl => ?_)
  refine lv_iload_n hx hb dX4_lineToTake_5 rfl (lv_at hl 0 rfl) ?_
  refine lv_iconst (v := -1) hx hb dX4_lineToTake_6 (by decide +kernel) ?_
  refine x_icR_ne (x := lowI G) (y := (-1)) (tgt := 16) hx hb dX4_lineToTake_7 (by decide) (fun c7_1 => ?_) (fun c7_1 => ?_)
  ·
    refine lv_iload_n hx hb dX4_lineToTake_16 rfl (lv_at hl 0 rfl) ?_
    refine lv_iconst (v := -1) hx hb dX4_lineToTake_17 (by decide +kernel) ?_
    refine x_icR_ne (x := lowI G) (y := (-1)) (tgt := 27) hx hb dX4_lineToTake_18 (by decide) (fun c18_2 => ?_) (fun c18_2 => ?_)
    ·
      refine lv_iload_n hx hb dX4_lineToTake_27 rfl (lv_at hl 0 rfl) ?_
      exact x_iret C w (by first | rfl | contradiction | (simp [takI, c7_1, c18_2]; done)) rfl dX4_lineToTake_28
    ·
      refine lv_aload_n hx hb dX4_lineToTake_21 rfl (lv_at hl 1 rfl) ?_
      refine lv_iconst (v := 2) hx hb dX4_lineToTake_22 (by decide +kernel) ?_
      refine x_callVi (wr := []) (w2 := sW cI o G) (rest := []) (n := 1) C w hl [.int 2] (k_X4_lowestTurn l D cI cS tys ht0 o G 2 ) gX4_lineToTake_X4_lowestTurn rfl (by decide +kernel) ⟨Nat.le_of_ble_eq_true rfl, Nat.le_of_ble_eq_true rfl⟩ 0 4 rfl rfl rfl rfl (Nat.le_of_ble_eq_true rfl) [0, 1, 2, 3, 4, 5, 6, 7] [] (by decide) rfl rfl (by decide) (by decide) [0, 1, 2, 3, 4, 5, 6, 7] (by decide) rfl ⟨Nat.zero_le _, Nat.zero_le _⟩ dX4_lineToTake_23 (fun H locs w => ?_)
      refine lv_istore_n (lv' := [(1, .int (oldI G 2 8)), (0, .ref (o 0))]) hx hb dX4_lineToTake_26 rfl hl (by decide) rfl (fun ls hl => ?_)
      refine lv_iload_n hx hb dX4_lineToTake_27 rfl (lv_at hl 0 rfl) ?_
      exact x_iret C w (by first | rfl | contradiction | (simp [takI, c7_1, c18_2]; done)) rfl dX4_lineToTake_28
  ·
    refine lv_aload_n hx hb dX4_lineToTake_10 rfl (lv_at hl 1 rfl) ?_
    refine lv_iconst (v := 1) hx hb dX4_lineToTake_11 (by decide +kernel) ?_
    refine x_callVi (wr := []) (w2 := sW cI o G) (rest := []) (n := 1) C w hl [.int 1] (k_X4_lowestTurn l D cI cS tys ht0 o G 1 ) gX4_lineToTake_X4_lowestTurn rfl (by decide +kernel) ⟨Nat.le_of_ble_eq_true rfl, Nat.le_of_ble_eq_true rfl⟩ 0 4 rfl rfl rfl rfl (Nat.le_of_ble_eq_true rfl) [0, 1, 2, 3, 4, 5, 6, 7] [] (by decide) rfl rfl (by decide) (by decide) [0, 1, 2, 3, 4, 5, 6, 7] (by decide) rfl ⟨Nat.zero_le _, Nat.zero_le _⟩ dX4_lineToTake_12 (fun H locs w => ?_)
    refine lv_istore_n (lv' := [(1, .int (oldI G 1 8)), (0, .ref (o 0))]) hx hb dX4_lineToTake_15 rfl hl (by decide) rfl (fun ls hl => ?_)
    refine lv_iload_n hx hb dX4_lineToTake_16 rfl (lv_at hl 0 rfl) ?_
    refine lv_iconst (v := -1) hx hb dX4_lineToTake_17 (by decide +kernel) ?_
    refine x_icR_ne (x := oldI G 1 8) (y := (-1)) (tgt := 27) hx hb dX4_lineToTake_18 (by decide) (fun c18_3 => ?_) (fun c18_3 => ?_)
    ·
      refine lv_iload_n hx hb dX4_lineToTake_27 rfl (lv_at hl 0 rfl) ?_
      exact x_iret C w (by first | rfl | contradiction | (simp [takI, c7_1, c18_3]; done)) rfl dX4_lineToTake_28
    ·
      refine lv_aload_n hx hb dX4_lineToTake_21 rfl (lv_at hl 1 rfl) ?_
      refine lv_iconst (v := 2) hx hb dX4_lineToTake_22 (by decide +kernel) ?_
      refine x_callVi (wr := []) (w2 := sW cI o G) (rest := []) (n := 1) C w hl [.int 2] (k_X4_lowestTurn l D cI cS tys ht0 o G 2 ) gX4_lineToTake_X4_lowestTurn rfl (by decide +kernel) ⟨Nat.le_of_ble_eq_true rfl, Nat.le_of_ble_eq_true rfl⟩ 0 4 rfl rfl rfl rfl (Nat.le_of_ble_eq_true rfl) [0, 1, 2, 3, 4, 5, 6, 7] [] (by decide) rfl rfl (by decide) (by decide) [0, 1, 2, 3, 4, 5, 6, 7] (by decide) rfl ⟨Nat.zero_le _, Nat.zero_le _⟩ dX4_lineToTake_23 (fun H locs w => ?_)
      refine lv_istore_n (lv' := [(1, .int (oldI G 2 8)), (0, .ref (o 0))]) hx hb dX4_lineToTake_26 rfl hl (by decide) rfl (fun ls hl => ?_)
      refine lv_iload_n hx hb dX4_lineToTake_27 rfl (lv_at hl 0 rfl) ?_
      exact x_iret C w (by first | rfl | contradiction | (simp [takI, c7_1, c18_3]; done)) rfl dX4_lineToTake_28
set_option maxHeartbeats 1000000 in
set_option maxRecDepth 100000 in
theorem k_X4_savedByCut (l : Launch) (D : va_G) (cI cS : ClassId) (tys : List (ClassId × FieldType)) (ht0 : tys[0]? = some (cI, .int)) (o : Nat → Nat) (G : St)  : xI l yX4_savedByCut wsX4_savedByCut 2 D tys [.ref (o 0)] (sW cI o G) (sbcI G) (sW cI o G) := by
  refine x_inI (cc := cX4_savedByCut) (maxL := 1) (ret := (some .int)) (by decide) rfl (Nat.le_of_ble_eq_true rfl) ?_
  intro p e s m args below meth c A ls C w hl
  have C : xC p s m meth c args cX4_savedByCut 1 wsX4_savedByCut RX4 D tys (some .int) := C
  have hx := C.1.1
  have hb := C.1.2.1
  have hts := C.1.2.2.2.2
  have hown := C.1.2.2.2.1
  have w : xW D A s.heap (sW cI o G) s.heap [] := w
  have hl : lv_has ls 1 [(0, .ref (o 0))] := hl
  refine lv_aload_n hx hb dX4_savedByCut_0 rfl (lv_at hl 0 rfl) ?_
  refine lv_iconst (v := 2) hx hb dX4_savedByCut_1 (by decide +kernel) ?_
  refine x_callVi (wr := []) (w2 := sW cI o G) (rest := []) (n := 1) C w hl [.int 2] (k_X4_numberOf l D cI cS tys ht0 o G 2 ) gX4_savedByCut_X4_numberOf rfl (by decide +kernel) ⟨Nat.le_of_ble_eq_true rfl, Nat.le_of_ble_eq_true rfl⟩ 0 4 rfl rfl rfl rfl (Nat.le_of_ble_eq_true rfl) [0, 1, 2, 3, 4, 5, 6, 7] [] (by decide) rfl rfl (by decide) (by decide) [0, 1, 2, 3, 4, 5, 6, 7] (by decide) rfl ⟨Nat.zero_le _, Nat.zero_le _⟩ dX4_savedByCut_2 (fun H locs w => ?_)
  refine lv_aload_n hx hb dX4_savedByCut_5 rfl (lv_at hl 0 rfl) ?_
  refine x_get (v := .ref (o 1)) (T := TX4) C w 0 0 rfl rfl (fun _ h => List.mem_cons_of_mem _ (List.mem_append_left _ (List.mem_append_right _ (h)))) (List.mem_of_getElem? (i := 1) rfl) (by decide) rfl dX4_savedByCut_6 ?_
  refine x_callVi (wr := [(o 0, .inr (4, [.ref (o 1), .ref (o 2), .ref (o 3), .ref (o 4), .ref (o 5), .ref (o 6), .ref (o 7), .int (G 9 0), .int (G 7 0), .int (G 7 1), .int (G 7 2), .int (G 7 3), .int (G 7 4), .int (G 7 5), .int (G 7 6), .int (G 7 7), .int (G 7 8)])), (o 2, .inl (cI, 64, .inl (G 0))), (o 3, .inl (cI, 64, .inl (G 1))), (o 4, .inl (cI, 8, .inl (G 2))), (o 5, .inl (cI, 8, .inl (G 3))), (o 6, .inl (cI, 8, .inl (G 4))), (o 7, .inl (cI, 8, .inl (G 5)))]) (w2 := sW cI o G) (rest := [.int (nofI G 2)]) (n := 0) C w hl [] (k_X0_savable l D cI cS tys ht0 (o 1) G ) gX4_savedByCut_X0_savable rfl (by decide +kernel) ⟨Nat.le_of_ble_eq_true rfl, Nat.le_of_ble_eq_true rfl⟩ 0 0 rfl rfl rfl rfl (Nat.le_of_ble_eq_true rfl) [1] [0, 2, 3, 4, 5, 6, 7] (by decide) rfl rfl (by decide) (by decide) [0, 7, 1, 2, 3, 4, 5, 6] (by decide) rfl ⟨Nat.zero_le _, Nat.zero_le _⟩ dX4_savedByCut_9 (fun H locs w => ?_)
  refine x_min (x := nofI G 2) (z := savI G) (v := (miI (nofI G 2) (savI G))) C hl (List.mem_of_getElem? (i := 2) rfl) (List.mem_of_getElem? (i := 3) rfl) (List.mem_of_getElem? (i := 4) rfl) (List.mem_of_getElem? (i := 5) rfl) ⟨Nat.le_of_ble_eq_true rfl, Nat.le_of_ble_eq_true rfl⟩ ⟨Nat.zero_le _, Nat.zero_le _⟩ rfl dX4_savedByCut_12 ?_
  exact x_iret C w (by first | rfl | contradiction | (simp []; done)) rfl dX4_savedByCut_15
set_option maxHeartbeats 1000000 in
set_option maxRecDepth 100000 in
theorem k_X4_flushLine (l : Launch) (D : va_G) (cI cS : ClassId) (tys : List (ClassId × FieldType)) (ht0 : tys[0]? = some (cI, .int)) (o : Nat → Nat) (G : St) (x : Int32)  : xV l yX4_flushLine wsX4_flushLine 2 D tys [.ref (o 0), .int x] (sW cI o G) (sW cI o (fluG G x)) := by
  refine x_inV (cc := cX4_flushLine) (maxL := 2) (ret := none) (by decide) rfl (Nat.le_of_ble_eq_true rfl) ?_
  intro p e s m args below meth c A ls C w hl
  have C : xC p s m meth c args cX4_flushLine 2 wsX4_flushLine RX4 D tys none := C
  have hx := C.1.1
  have hb := C.1.2.1
  have hts := C.1.2.2.2.2
  have hown := C.1.2.2.2.1
  have w : xW D A s.heap (sW cI o G) s.heap [] := w
  have hl : lv_has ls 2 [(0, .ref (o 0)), (1, .int x)] := hl
  refine lv_iload_n hx hb dX4_flushLine_0 rfl (lv_at hl 1 rfl) ?_
  refine x_callNi (wr := sW cI o G) (w2 := sW cI o G) (rest := []) (n := 1) C w hl [.int x] (k_X6_isLine l D cI cS tys ht0 x ) gX4_flushLine_X6_isLine_n80 rfl (by decide) (List.mem_of_getElem? (i := 6) rfl) (List.mem_of_getElem? (i := 5) rfl) (by decide +kernel) ⟨Nat.le_of_ble_eq_true rfl, Nat.le_of_ble_eq_true rfl⟩ rfl rfl (Nat.le_of_ble_eq_true rfl) [] [0, 1, 2, 3, 4, 5, 6, 7] (by decide) rfl rfl (by decide) (by decide) [0, 1, 2, 3, 4, 5, 6, 7] (by decide) rfl ⟨Nat.zero_le _, Nat.zero_le _⟩ dX4_flushLine_1 (fun H locs w => ?_)
  refine x_ifB_eq (P := rg x 8 = true) (tgt := 50) hx hb dX4_flushLine_4 (by decide) (fun c4_1 => ?_) (fun c4_1 => ?_)
  ·
    exact x_vret C w (congrArg (sW cI o) (by first | rfl | contradiction | (simp [fluG, c4_1]; done))) dX4_flushLine_50
  ·
    refine lv_aload_n hx hb dX4_flushLine_7 rfl (lv_at hl 0 rfl) ?_
    refine x_get (v := .ref (o 4)) (T := TX4) C w 0 3 rfl rfl (fun _ h => List.mem_cons_of_mem _ (List.mem_append_right _ (h))) (List.mem_of_getElem? (i := 1) rfl) (by decide) rfl dX4_flushLine_8 ?_
    refine lv_iload_n hx hb dX4_flushLine_11 rfl (lv_at hl 1 rfl) ?_
    refine x_ialdR (v := G 2 (ix x)) C w 4 0 rfl ht0 (rg_in (n := 8) rfl (by decide) c4_1) rfl dX4_flushLine_12 ?_
    refine lv_iconst (v := 2) hx hb dX4_flushLine_13 (by decide +kernel) ?_
    refine x_icR_ne (x := G 2 (ix x)) (y := 2) (tgt := 50) hx hb dX4_flushLine_14 (by decide) (fun c14_2 => ?_) (fun c14_2 => ?_)
    ·
      exact x_vret C w (congrArg (sW cI o) (by first | rfl | contradiction | (simp [fluG, c4_1, c14_2]; done))) dX4_flushLine_50
    ·
      refine lv_aload_n hx hb dX4_flushLine_17 rfl (lv_at hl 0 rfl) ?_
      refine x_get (v := .ref (o 4)) (T := TX4) C w 0 3 rfl rfl (fun _ h => List.mem_cons_of_mem _ (List.mem_append_right _ (h))) (List.mem_of_getElem? (i := 1) rfl) (by decide) rfl dX4_flushLine_18 ?_
      refine lv_iload_n hx hb dX4_flushLine_21 rfl (lv_at hl 1 rfl) ?_
      refine lv_iconst (v := 1) hx hb dX4_flushLine_22 (by decide +kernel) ?_
      refine x_iastR (ws2 := sW cI o (s2 G 2 (ix x) 1)) C w 4 0 rfl ht0 (rg_in (n := 8) rfl (by decide) c4_1) rfl dX4_flushLine_23 (fun H locs w => ?_)
      refine lv_aload_n hx hb dX4_flushLine_24 rfl (lv_at hl 0 rfl) ?_
      refine lv_aload_n hx hb dX4_flushLine_25 rfl (lv_at hl 0 rfl) ?_
      refine x_get (v := .ref (o 5)) (T := TX4) C w 0 4 rfl rfl (fun _ h => List.mem_cons_of_mem _ (List.mem_append_right _ (h))) (List.mem_of_getElem? (i := 2) rfl) (by decide) rfl dX4_flushLine_26 ?_
      refine lv_iload_n hx hb dX4_flushLine_29 rfl (lv_at hl 1 rfl) ?_
      refine x_ialdR (v := G 3 (ix x)) C w 5 0 rfl ht0 (rg_in (n := 8) rfl (by decide) c4_1) rfl dX4_flushLine_30 ?_
      refine lv_aload_n hx hb dX4_flushLine_31 rfl (lv_at hl 0 rfl) ?_
      refine x_get (v := .ref (o 6)) (T := TX4) C w 0 5 rfl rfl (fun _ h => List.mem_cons_of_mem _ (List.mem_append_right _ (h))) (List.mem_of_getElem? (i := 3) rfl) (by decide) rfl dX4_flushLine_32 ?_
      refine lv_iload_n hx hb dX4_flushLine_35 rfl (lv_at hl 1 rfl) ?_
      refine x_ialdR (v := G 4 (ix x)) C w 6 0 rfl ht0 (rg_in (n := 8) rfl (by decide) c4_1) rfl dX4_flushLine_36 ?_
      refine x_callVv (wr := []) (w2 := sW cI o (layG (s2 G 2 (ix x) 1) (G 3 (ix x)) (G 4 (ix x)))) (rest := []) (n := 2) C w hl [.int (G 3 (ix x)), .int (G 4 (ix x))] (k_X4_layOnDisk l D cI cS tys ht0 o (s2 G 2 (ix x) 1) (G 3 (ix x)) (G 4 (ix x)) ) gX4_flushLine_X4_layOnDisk rfl (by decide +kernel) ⟨Nat.le_of_ble_eq_true rfl, Nat.le_of_ble_eq_true rfl⟩ 0 4 rfl rfl rfl rfl (Nat.le_of_ble_eq_true rfl) [0, 1, 2, 3, 4, 5, 6, 7] [] (by decide) rfl rfl (by decide) (by decide) [0, 1, 2, 3, 4, 5, 6, 7] (by decide) rfl ⟨Nat.zero_le _, Nat.zero_le _⟩ dX4_flushLine_37 (fun H locs w => ?_)
      refine lv_aload_n hx hb dX4_flushLine_40 rfl (lv_at hl 0 rfl) ?_
      refine lv_dup hx hb dX4_flushLine_41 rfl ?_
      refine x_get (v := .int ((layG (s2 G 2 (ix x) 1) (G 3 (ix x)) (G 4 (ix x))) 7 3)) (T := TX4) C w 0 11 rfl rfl (fun _ h => List.mem_cons_of_mem _ (List.mem_append_right _ (h))) (List.mem_of_getElem? (i := 4) rfl) (by decide) rfl dX4_flushLine_42 ?_
      refine lv_iconst (v := 1) hx hb dX4_flushLine_45 (by decide +kernel) ?_
      refine lv_iadd (x := (layG (s2 G 2 (ix x) 1) (G 3 (ix x)) (G 4 (ix x))) 7 3) (y := 1) hx hb dX4_flushLine_46 ?_
      refine x_put (v := .int (((layG (s2 G 2 (ix x) 1) (G 3 (ix x)) (G 4 (ix x))) 7 3) + 1)) (ty := .int) (T := TX4) (ws2 := sW cI o (s2 (layG (s2 G 2 (ix x) 1) (G 3 (ix x)) (G 4 (ix x))) 7 3 (((layG (s2 G 2 (ix x) 1) (G 3 (ix x)) (G 4 (ix x))) 7 3) + 1))) C w 0 11 rfl rfl (fun _ h => List.mem_cons_of_mem _ (List.mem_append_right _ (h))) tyX4 tyX4_ok nmX4 (List.mem_of_getElem? (i := 4) rfl) (by decide) (Nat.le_of_ble_eq_true rfl) rfl (by decide +kernel) rfl rfl rfl dX4_flushLine_47 (fun H locs w => ?_)
      exact x_vret C w (congrArg (sW cI o) (by first | rfl | contradiction | (simp [fluG, c4_1, c14_2]; done))) dX4_flushLine_50
set_option maxHeartbeats 1000000 in
set_option maxRecDepth 100000 in
theorem k_X4_lostByCut (l : Launch) (D : va_G) (cI cS : ClassId) (tys : List (ClassId × FieldType)) (ht0 : tys[0]? = some (cI, .int)) (o : Nat → Nat) (G : St)  : xI l yX4_lostByCut wsX4_lostByCut 3 D tys [.ref (o 0)] (sW cI o G) (losI G) (sW cI o G) := by
  refine x_inI (cc := cX4_lostByCut) (maxL := 4) (ret := (some .int)) (by decide) rfl (Nat.le_of_ble_eq_true rfl) ?_
  intro p e s m args below meth c A ls C w hl
  have C : xC p s m meth c args cX4_lostByCut 4 wsX4_lostByCut RX4 D tys (some .int) := C
  have hx := C.1.1
  have hb := C.1.2.1
  have hts := C.1.2.2.2.2
  have hown := C.1.2.2.2.1
  have w : xW D A s.heap (sW cI o G) s.heap [] := w
  have hl : lv_has ls 4 [(0, .ref (o 0))] := hl
  refine lv_aload_n hx hb dX4_lostByCut_0 rfl (lv_at hl 0 rfl) ?_
  refine x_callVi (wr := []) (w2 := sW cI o G) (rest := []) (n := 0) C w hl [] (k_X4_savedByCut l D cI cS tys ht0 o G ) gX4_lostByCut_X4_savedByCut rfl (by decide +kernel) ⟨Nat.le_of_ble_eq_true rfl, Nat.le_of_ble_eq_true rfl⟩ 0 4 rfl rfl rfl rfl (Nat.le_of_ble_eq_true rfl) [0, 1, 2, 3, 4, 5, 6, 7] [] (by decide) rfl rfl (by decide) (by decide) [0, 1, 2, 3, 4, 5, 6, 7] (by decide) rfl ⟨Nat.zero_le _, Nat.zero_le _⟩ dX4_lostByCut_1 (fun H locs w => ?_)
  refine lv_istore_n (lv' := [(1, .int (sbcI G)), (0, .ref (o 0))]) hx hb dX4_lostByCut_4 rfl hl (by decide) rfl (fun ls hl => ?_)
  refine lv_iconst (v := 0) hx hb dX4_lostByCut_5 (by decide +kernel) ?_
  refine lv_istore_n (lv' := [(2, .int 0), (1, .int (sbcI G)), (0, .ref (o 0))]) hx hb dX4_lostByCut_6 rfl hl (by decide) rfl (fun ls hl => ?_)
  refine lv_iconst (v := 0) hx hb dX4_lostByCut_7 (by decide +kernel) ?_
  refine lv_istore_n (lv' := [(3, .int 0), (2, .int 0), (1, .int (sbcI G)), (0, .ref (o 0))]) hx hb dX4_lostByCut_8 rfl hl (by decide) rfl (fun ls hl => ?_)
  have loop_9 : ∀ (n : Nat) (i : Nat), 8 - i < n → i ≤ 8 → ∀ (H : Heap) (locs : List Loc), xW D A s.heap (sW cI o G) H locs → ∀ ls : Array Slot, lv_has ls 4 [(3, .int (nI i)), (2, .int (setP (fun j => G 2 j = 2 ∧ ¬ lahI G (nI j) 2 < sbcI G) i)), (1, .int (sbcI G)), (0, .ref (o 0))] → W p l e (rmd 3) s m args below meth c H locs 0 0 (MQ below (xQi D tys (losI G) (sW cI o G) A) args s 0 0 A) (F0 m 9 ls []) := by
    intro n
    induction n with
    | zero => intro i hm; exact absurd hm (Nat.not_lt_zero _)
    | succ n ih =>
      intro i hm hi H locs w ls hl
      refine lv_iload_n hx hb dX4_lostByCut_9 rfl (lv_at hl 0 rfl) ?_
      refine lv_bipush (v := 8) hx hb dX4_lostByCut_10 (by decide +kernel) ?_
      refine x_icN_ge (i := i) (j := 8) (tgt := 47) hx hb (by omega) (by omega) dX4_lostByCut_12 (by decide) (fun c12_1 => ?_) (fun c12_1 => ?_)
      ·
        have hE : i = 8 := (by omega)
        refine lv_iload_n hx hb dX4_lostByCut_47 rfl (lv_at hl 1 rfl) ?_
        exact x_iret C w (by first | (rw [hE]; done) | (rw [hE]; rfl) | contradiction | (simp [c12_1, hE]; done) | rfl) rfl dX4_lostByCut_48
      ·
        refine lv_aload_n hx hb dX4_lostByCut_15 rfl (lv_at hl 3 rfl) ?_
        refine x_get (v := .ref (o 4)) (T := TX4) C w 0 3 rfl rfl (fun _ h => List.mem_cons_of_mem _ (List.mem_append_left _ (List.mem_append_right _ (h)))) (List.mem_of_getElem? (i := 1) rfl) (by decide) rfl dX4_lostByCut_16 ?_
        refine lv_iload_n hx hb dX4_lostByCut_19 rfl (lv_at hl 0 rfl) ?_
        refine x_iald (v := G 2 i) C w 4 0 (i) rfl ht0 rfl (by omega) (by decide) rfl dX4_lostByCut_20 ?_
        refine lv_iconst (v := 2) hx hb dX4_lostByCut_21 (by decide +kernel) ?_
        refine x_icR_ne (x := G 2 i) (y := 2) (tgt := 41) hx hb dX4_lostByCut_22 (by decide) (fun c22_2 => ?_) (fun c22_2 => ?_)
        ·
          refine lv_iinc (v := nI (i + 1)) (lv' := [(3, .int (nI (i + 1))), (2, .int (setP (fun j => G 2 j = 2 ∧ ¬ lahI G (nI j) 2 < sbcI G) i)), (1, .int (sbcI G)), (0, .ref (o 0))]) hx hb dX4_lostByCut_41 hl (k := 0) rfl (nI_add i 1) (by decide) rfl (fun ls hl => ?_)
          refine lv_goto (tgt := 9) hx hb dX4_lostByCut_44 (by decide) ?_
          have q3 : setP (fun j => G 2 j = 2 ∧ ¬ lahI G (nI j) 2 < sbcI G) i = (setP (fun j => G 2 j = 2 ∧ ¬ lahI G (nI j) 2 < sbcI G) (i + 1) : Int32) := (by simp [setP, c12_1, c22_2])
          have hl : lv_has ls 4 [(3, .int (nI (i + 1))), (2, .int (setP (fun j => G 2 j = 2 ∧ ¬ lahI G (nI j) 2 < sbcI G) (i + 1))), (1, .int (sbcI G)), (0, .ref (o 0))] := lv_eqL (lv_sub (l' := [(3, .int (nI (i + 1))), (2, .int (setP (fun j => G 2 j = 2 ∧ ¬ lahI G (nI j) 2 < sbcI G) i)), (1, .int (sbcI G)), (0, .ref (o 0))]) hl [0, 1, 2, 3] rfl) (cg2 List.cons rfl (cg2 List.cons (congrArg (fun z => ((2 : Nat), Value.int z)) q3) (cg2 List.cons rfl (cg2 List.cons rfl rfl))))
          exact ih (i + 1) (by omega) (by omega) _ _ w _ hl
        ·
          refine lv_aload_n hx hb dX4_lostByCut_25 rfl (lv_at hl 3 rfl) ?_
          refine lv_iload_n hx hb dX4_lostByCut_26 rfl (lv_at hl 0 rfl) ?_
          refine lv_iconst (v := 2) hx hb dX4_lostByCut_27 (by decide +kernel) ?_
          refine x_callVi (wr := []) (w2 := sW cI o G) (rest := []) (n := 2) C w hl [.int (nI i), .int 2] (k_X4_linesAhead l D cI cS tys ht0 o G (nI i) 2 ) gX4_lostByCut_X4_linesAhead rfl (by decide +kernel) ⟨Nat.le_of_ble_eq_true rfl, Nat.le_of_ble_eq_true rfl⟩ 0 4 rfl rfl rfl rfl (Nat.le_of_ble_eq_true rfl) [0, 1, 2, 3, 4, 5, 6, 7] [] (by decide) rfl rfl (by decide) (by decide) [0, 1, 2, 3, 4, 5, 6, 7] (by decide) rfl ⟨Nat.zero_le _, Nat.zero_le _⟩ dX4_lostByCut_28 (fun H locs w => ?_)
          refine lv_iload_n hx hb dX4_lostByCut_31 rfl (lv_at hl 2 rfl) ?_
          refine x_icR_lt (x := lahI G (nI i) 2) (y := sbcI G) (tgt := 41) hx hb dX4_lostByCut_32 (by decide) (fun c32_4 => ?_) (fun c32_4 => ?_)
          ·
            refine lv_iinc (v := nI (i + 1)) (lv' := [(3, .int (nI (i + 1))), (2, .int (setP (fun j => G 2 j = 2 ∧ ¬ lahI G (nI j) 2 < sbcI G) i)), (1, .int (sbcI G)), (0, .ref (o 0))]) hx hb dX4_lostByCut_41 hl (k := 0) rfl (nI_add i 1) (by decide) rfl (fun ls hl => ?_)
            refine lv_goto (tgt := 9) hx hb dX4_lostByCut_44 (by decide) ?_
            have q5 : setP (fun j => G 2 j = 2 ∧ ¬ lahI G (nI j) 2 < sbcI G) i = (setP (fun j => G 2 j = 2 ∧ ¬ lahI G (nI j) 2 < sbcI G) (i + 1) : Int32) := (by simp [setP, c12_1, c22_2, c32_4])
            have hl : lv_has ls 4 [(3, .int (nI (i + 1))), (2, .int (setP (fun j => G 2 j = 2 ∧ ¬ lahI G (nI j) 2 < sbcI G) (i + 1))), (1, .int (sbcI G)), (0, .ref (o 0))] := lv_eqL (lv_sub (l' := [(3, .int (nI (i + 1))), (2, .int (setP (fun j => G 2 j = 2 ∧ ¬ lahI G (nI j) 2 < sbcI G) i)), (1, .int (sbcI G)), (0, .ref (o 0))]) hl [0, 1, 2, 3] rfl) (cg2 List.cons rfl (cg2 List.cons (congrArg (fun z => ((2 : Nat), Value.int z)) q5) (cg2 List.cons rfl (cg2 List.cons rfl rfl))))
            exact ih (i + 1) (by omega) (by omega) _ _ w _ hl
          ·
            refine lv_iload_n hx hb dX4_lostByCut_35 rfl (lv_at hl 1 rfl) ?_
            refine lv_iconst (v := 1) hx hb dX4_lostByCut_36 (by decide +kernel) ?_
            refine lv_iload_n hx hb dX4_lostByCut_37 rfl (lv_at hl 0 rfl) ?_
            refine lv_ishl (x := 1) (y := nI i) hx hb dX4_lostByCut_38 ?_
            refine lv_ior (x := setP (fun j => G 2 j = 2 ∧ ¬ lahI G (nI j) 2 < sbcI G) i) (y := (1 <<< ((nI i) &&& 31))) hx hb dX4_lostByCut_39 ?_
            refine lv_istore_n (lv' := [(2, .int ((setP (fun j => G 2 j = 2 ∧ ¬ lahI G (nI j) 2 < sbcI G) i) ||| (1 <<< ((nI i) &&& 31)))), (3, .int (nI i)), (1, .int (sbcI G)), (0, .ref (o 0))]) hx hb dX4_lostByCut_40 rfl hl (by decide) rfl (fun ls hl => ?_)
            refine lv_iinc (v := nI (i + 1)) (lv' := [(3, .int (nI (i + 1))), (2, .int ((setP (fun j => G 2 j = 2 ∧ ¬ lahI G (nI j) 2 < sbcI G) i) ||| (1 <<< ((nI i) &&& 31)))), (1, .int (sbcI G)), (0, .ref (o 0))]) hx hb dX4_lostByCut_41 hl (k := 1) rfl (nI_add i 1) (by decide) rfl (fun ls hl => ?_)
            refine lv_goto (tgt := 9) hx hb dX4_lostByCut_44 (by decide) ?_
            have q6 : ((setP (fun j => G 2 j = 2 ∧ ¬ lahI G (nI j) 2 < sbcI G) i) ||| (1 <<< ((nI i) &&& 31))) = (setP (fun j => G 2 j = 2 ∧ ¬ lahI G (nI j) 2 < sbcI G) (i + 1) : Int32) := (by simp [setP, c12_1, c22_2, c32_4])
            have hl : lv_has ls 4 [(3, .int (nI (i + 1))), (2, .int (setP (fun j => G 2 j = 2 ∧ ¬ lahI G (nI j) 2 < sbcI G) (i + 1))), (1, .int (sbcI G)), (0, .ref (o 0))] := lv_eqL (lv_sub (l' := [(3, .int (nI (i + 1))), (2, .int ((setP (fun j => G 2 j = 2 ∧ ¬ lahI G (nI j) 2 < sbcI G) i) ||| (1 <<< ((nI i) &&& 31)))), (1, .int (sbcI G)), (0, .ref (o 0))]) hl [0, 1, 2, 3] rfl) (cg2 List.cons rfl (cg2 List.cons (congrArg (fun z => ((2 : Nat), Value.int z)) q6) (cg2 List.cons rfl (cg2 List.cons rfl rfl))))
            exact ih (i + 1) (by omega) (by omega) _ _ w _ hl
  have q7 : 0 = (nI 0 : Int32) := (by first | rfl | contradiction | (simp []; done))
  have q8 : 0 = (setP (fun j => G 2 j = 2 ∧ ¬ lahI G (nI j) 2 < sbcI G) 0 : Int32) := (by first | rfl | contradiction | (simp []; done))
  have hl : lv_has ls 4 [(3, .int (nI 0)), (2, .int (setP (fun j => G 2 j = 2 ∧ ¬ lahI G (nI j) 2 < sbcI G) 0)), (1, .int (sbcI G)), (0, .ref (o 0))] := lv_eqL (lv_sub (l' := [(3, .int 0), (2, .int 0), (1, .int (sbcI G)), (0, .ref (o 0))]) hl [0, 1, 2, 3] rfl) (cg2 List.cons (congrArg (fun z => ((3 : Nat), Value.int z)) q7) (cg2 List.cons (congrArg (fun z => ((2 : Nat), Value.int z)) q8) (cg2 List.cons rfl (cg2 List.cons rfl rfl))))
  exact loop_9 (9) 0 (by omega) (by omega) _ _ w _ hl
set_option maxHeartbeats 1000000 in
set_option maxRecDepth 100000 in
theorem k_X4_tooMany (l : Launch) (D : va_G) (cI cS : ClassId) (tys : List (ClassId × FieldType)) (ht0 : tys[0]? = some (cI, .int)) (o : Nat → Nat) (G : St)  : xI l yX4_tooMany wsX4_tooMany 3 D tys [.ref (o 0)] (sW cI o G) (tooI G) (sW cI o G) := by
  refine x_inI (cc := cX4_tooMany) (maxL := 1) (ret := (some .int)) (by decide) rfl (Nat.le_of_ble_eq_true rfl) ?_
  intro p e s m args below meth c A ls C w hl
  have C : xC p s m meth c args cX4_tooMany 1 wsX4_tooMany RX4 D tys (some .int) := C
  have hx := C.1.1
  have hb := C.1.2.1
  have hts := C.1.2.2.2.2
  have hown := C.1.2.2.2.1
  have w : xW D A s.heap (sW cI o G) s.heap [] := w
  have hl : lv_has ls 1 [(0, .ref (o 0))] := hl
  refine lv_aload_n hx hb dX4_tooMany_0 rfl (lv_at hl 0 rfl) ?_
  refine lv_iconst (v := 2) hx hb dX4_tooMany_1 (by decide +kernel) ?_
  refine x_callVi (wr := []) (w2 := sW cI o G) (rest := []) (n := 1) C w hl [.int 2] (k_X4_numberOf l D cI cS tys ht0 o G 2 ) gX4_tooMany_X4_numberOf rfl (by decide +kernel) ⟨Nat.le_of_ble_eq_true rfl, Nat.le_of_ble_eq_true rfl⟩ 0 4 rfl rfl rfl rfl (Nat.le_of_ble_eq_true rfl) [0, 1, 2, 3, 4, 5, 6, 7] [] (by decide) rfl rfl (by decide) (by decide) [0, 1, 2, 3, 4, 5, 6, 7] (by decide) rfl ⟨Nat.zero_le _, Nat.zero_le _⟩ dX4_tooMany_2 (fun H locs w => ?_)
  refine lv_aload_n hx hb dX4_tooMany_5 rfl (lv_at hl 0 rfl) ?_
  refine x_get (v := .ref (o 1)) (T := TX4) C w 0 0 rfl rfl (fun _ h => List.mem_cons_of_mem _ (List.mem_append_left _ (List.mem_append_right _ (h)))) (List.mem_of_getElem? (i := 1) rfl) (by decide) rfl dX4_tooMany_6 ?_
  refine x_callVi (wr := [(o 0, .inr (4, [.ref (o 1), .ref (o 2), .ref (o 3), .ref (o 4), .ref (o 5), .ref (o 6), .ref (o 7), .int (G 9 0), .int (G 7 0), .int (G 7 1), .int (G 7 2), .int (G 7 3), .int (G 7 4), .int (G 7 5), .int (G 7 6), .int (G 7 7), .int (G 7 8)])), (o 2, .inl (cI, 64, .inl (G 0))), (o 3, .inl (cI, 64, .inl (G 1))), (o 4, .inl (cI, 8, .inl (G 2))), (o 5, .inl (cI, 8, .inl (G 3))), (o 6, .inl (cI, 8, .inl (G 4))), (o 7, .inl (cI, 8, .inl (G 5)))]) (w2 := sW cI o G) (rest := [.int (nofI G 2)]) (n := 0) C w hl [] (k_X0_allowance l D cI cS tys ht0 (o 1) G ) gX4_tooMany_X0_allowance rfl (by decide +kernel) ⟨Nat.le_of_ble_eq_true rfl, Nat.le_of_ble_eq_true rfl⟩ 0 0 rfl rfl rfl rfl (Nat.le_of_ble_eq_true rfl) [1] [0, 2, 3, 4, 5, 6, 7] (by decide) rfl rfl (by decide) (by decide) [0, 7, 1, 2, 3, 4, 5, 6] (by decide) rfl ⟨Nat.zero_le _, Nat.zero_le _⟩ dX4_tooMany_9 (fun H locs w => ?_)
  refine lv_isub (x := nofI G 2) (y := alwI G) hx hb dX4_tooMany_12 ?_
  refine lv_iconst (v := 0) hx hb dX4_tooMany_13 (by decide +kernel) ?_
  refine x_max (x := ((nofI G 2) - (alwI G))) (z := 0) (v := (maI ((nofI G 2) - (alwI G)) 0)) C hl (List.mem_of_getElem? (i := 2) rfl) (List.mem_of_getElem? (i := 3) rfl) (List.mem_of_getElem? (i := 4) rfl) (List.mem_of_getElem? (i := 5) rfl) ⟨Nat.le_of_ble_eq_true rfl, Nat.le_of_ble_eq_true rfl⟩ ⟨Nat.zero_le _, Nat.zero_le _⟩ rfl dX4_tooMany_14 ?_
  exact x_iret C w (by first | rfl | contradiction | (simp []; done)) rfl dX4_tooMany_17
set_option maxHeartbeats 1000000 in
set_option maxRecDepth 100000 in
theorem k_X4_flushLowest (l : Launch) (D : va_G) (cI cS : ClassId) (tys : List (ClassId × FieldType)) (ht0 : tys[0]? = some (cI, .int)) (o : Nat → Nat) (G : St) (x : Int32)  : xI l yX4_flushLowest wsX4_flushLowest 3 D tys [.ref (o 0), .int x] (sW cI o G) x (sW cI o (flsG G (ix x))) := by
  refine x_inI (cc := cX4_flushLowest) (maxL := 3) (ret := (some .int)) (by decide) rfl (Nat.le_of_ble_eq_true rfl) ?_
  intro p e s m args below meth c A ls C w hl
  have C : xC p s m meth c args cX4_flushLowest 3 wsX4_flushLowest RX4 D tys (some .int) := C
  have hx := C.1.1
  have hb := C.1.2.1
  have hts := C.1.2.2.2.2
  have hown := C.1.2.2.2.1
  have w : xW D A s.heap (sW cI o G) s.heap [] := w
  have hl : lv_has ls 3 [(0, .ref (o 0)), (1, .int x)] := hl
  refine lv_iconst (v := 0) hx hb dX4_flushLowest_0 (by decide +kernel) ?_
  refine lv_istore_n (lv' := [(2, .int 0), (0, .ref (o 0)), (1, .int x)]) hx hb dX4_flushLowest_1 rfl hl (by decide) rfl (fun ls hl => ?_)
  have loop_2 : ∀ (n : Nat) (i : Nat), ix x - i < n → i ≤ ix x → ∀ (H : Heap) (locs : List Loc), xW D A s.heap (sW cI o (flsG G i)) H locs → ∀ ls : Array Slot, lv_has ls 3 [(2, .int (nI i)), (0, .ref (o 0)), (1, .int x)] → W p l e (rmd 3) s m args below meth c H locs 0 0 (MQ below (xQi D tys x (sW cI o (flsG G (ix x))) A) args s 0 0 A) (F0 m 2 ls []) := by
    intro n
    induction n with
    | zero => intro i hm; exact absurd hm (Nat.not_lt_zero _)
    | succ n ih =>
      intro i hm hi H locs w ls hl
      refine lv_iload_n hx hb dX4_flushLowest_2 rfl (lv_at hl 0 rfl) ?_
      refine lv_iload_n hx hb dX4_flushLowest_3 rfl (lv_at hl 2 rfl) ?_
      refine x_icR_ge (x := nI i) (y := x) (tgt := 22) hx hb dX4_flushLowest_4 (by decide) (fun c4_1 => ?_) (fun c4_1 => ?_)
      ·
        have hE : i = ix x := nlt_ix hi c4_1
        refine lv_iload_n hx hb dX4_flushLowest_22 rfl (lv_at hl 2 rfl) ?_
        exact x_iret C w rfl (congrArg (sW cI o) (by first | (rw [hE]; done) | (rw [hE]; rfl) | contradiction | (simp [c4_1, hE]; done) | rfl)) dX4_flushLowest_23
      ·
        have hlt : i < ix x := lt_ix hi c4_1
        refine lv_aload_n hx hb dX4_flushLowest_7 rfl (lv_at hl 1 rfl) ?_
        refine lv_aload_n hx hb dX4_flushLowest_8 rfl (lv_at hl 1 rfl) ?_
        refine lv_iconst (v := 2) hx hb dX4_flushLowest_9 (by decide +kernel) ?_
        refine x_callVi (wr := []) (w2 := sW cI o (flsG G i)) (rest := [.ref (o 0)]) (n := 1) C w hl [.int 2] (k_X4_lowestTurn l D cI cS tys ht0 o (flsG G i) 2 ) gX4_flushLowest_X4_lowestTurn rfl (by decide +kernel) ⟨Nat.le_of_ble_eq_true rfl, Nat.le_of_ble_eq_true rfl⟩ 0 4 rfl rfl rfl rfl (Nat.le_of_ble_eq_true rfl) [0, 1, 2, 3, 4, 5, 6, 7] [] (by decide) rfl rfl (by decide) (by decide) [0, 1, 2, 3, 4, 5, 6, 7] (by decide) rfl ⟨Nat.zero_le _, Nat.zero_le _⟩ dX4_flushLowest_10 (fun H locs w => ?_)
        refine x_callVv (wr := []) (w2 := sW cI o (fluG (flsG G i) (oldI (flsG G i) 2 8))) (rest := []) (n := 1) C w hl [.int (oldI (flsG G i) 2 8)] (k_X4_flushLine l D cI cS tys ht0 o (flsG G i) (oldI (flsG G i) 2 8) ) gX4_flushLowest_X4_flushLine rfl (by decide +kernel) ⟨Nat.le_of_ble_eq_true rfl, Nat.le_of_ble_eq_true rfl⟩ 0 4 rfl rfl rfl rfl (Nat.le_of_ble_eq_true rfl) [0, 1, 2, 3, 4, 5, 6, 7] [] (by decide) rfl rfl (by decide) (by decide) [0, 1, 2, 3, 4, 5, 6, 7] (by decide) rfl ⟨Nat.zero_le _, Nat.zero_le _⟩ dX4_flushLowest_13 (fun H locs w => ?_)
        refine lv_iinc (v := nI (i + 1)) (lv' := [(2, .int (nI (i + 1))), (0, .ref (o 0)), (1, .int x)]) hx hb dX4_flushLowest_16 hl (k := 0) rfl (nI_add i 1) (by decide) rfl (fun ls hl => ?_)
        refine lv_goto (tgt := 2) hx hb dX4_flushLowest_19 (by decide) ?_
        have hl : lv_has ls 3 [(2, .int (nI (i + 1))), (0, .ref (o 0)), (1, .int x)] := lv_eqL (lv_sub (l' := [(2, .int (nI (i + 1))), (0, .ref (o 0)), (1, .int x)]) hl [0, 1, 2] rfl) (cg2 List.cons rfl (cg2 List.cons rfl (cg2 List.cons rfl rfl)))
        have w : xW D A s.heap (sW cI o (flsG G (i + 1))) _ _ := x_ws (congrArg (sW cI o) (by first | rfl | contradiction | (simp [c4_1]; done))) w
        exact ih (i + 1) (by omega) (by omega) _ _ w _ hl
  have q2 : 0 = (nI 0 : Int32) := (by first | rfl | contradiction | (simp []; done))
  have hl : lv_has ls 3 [(2, .int (nI 0)), (0, .ref (o 0)), (1, .int x)] := lv_eqL (lv_sub (l' := [(2, .int 0), (0, .ref (o 0)), (1, .int x)]) hl [0, 1, 2] rfl) (cg2 List.cons (congrArg (fun z => ((2 : Nat), Value.int z)) q2) (cg2 List.cons rfl (cg2 List.cons rfl rfl)))
  have w : xW D A s.heap (sW cI o (flsG G 0)) _ _ := x_ws (congrArg (sW cI o) (by first | rfl | contradiction | (simp []; done))) w
  exact loop_2 (ix x + 1) 0 (by omega) (Nat.zero_le _) _ _ w _ hl
set_option maxHeartbeats 1000000 in
set_option maxRecDepth 100000 in
theorem k_X4_lineFor (l : Launch) (D : va_G) (cI cS : ClassId) (tys : List (ClassId × FieldType)) (ht0 : tys[0]? = some (cI, .int)) (o : Nat → Nat) (G : St) (pl : Int32)  : xI l yX4_lineFor wsX4_lineFor 3 D tys [.ref (o 0), .int pl] (sW cI o G) (lnfI G pl) (sW cI o (lnfG G pl)) := by
  refine x_inI (cc := cX4_lineFor) (maxL := 3) (ret := (some .int)) (by decide) rfl (Nat.le_of_ble_eq_true rfl) ?_
  intro p e s m args below meth c A ls C w hl
  have C : xC p s m meth c args cX4_lineFor 3 wsX4_lineFor RX4 D tys (some .int) := C
  have hx := C.1.1
  have hb := C.1.2.1
  have hts := C.1.2.2.2.2
  have hown := C.1.2.2.2.1
  have w : xW D A s.heap (sW cI o G) s.heap [] := w
  have hl : lv_has ls 3 [(0, .ref (o 0)), (1, .int pl)] := hl
  refine lv_aload_n hx hb dX4_lineFor_0 rfl (lv_at hl 0 rfl) ?_
  refine lv_iload_n hx hb dX4_lineFor_1 rfl (lv_at hl 1 rfl) ?_
  refine x_callVi (wr := []) (w2 := sW cI o G) (rest := []) (n := 1) C w hl [.int pl] (k_X4_holderOf l D cI cS tys ht0 o G pl ) gX4_lineFor_X4_holderOf rfl (by decide +kernel) ⟨Nat.le_of_ble_eq_true rfl, Nat.le_of_ble_eq_true rfl⟩ 0 4 rfl rfl rfl rfl (Nat.le_of_ble_eq_true rfl) [0, 1, 2, 3, 4, 5, 6, 7] [] (by decide) rfl rfl (by decide) (by decide) [0, 1, 2, 3, 4, 5, 6, 7] (by decide) rfl ⟨Nat.zero_le _, Nat.zero_le _⟩ dX4_lineFor_2 (fun H locs w => ?_)
  refine lv_istore_n (lv' := [(2, .int (hldI G pl)), (0, .ref (o 0)), (1, .int pl)]) hx hb dX4_lineFor_5 rfl hl (by decide) rfl (fun ls hl => ?_)
  refine lv_iload_n hx hb dX4_lineFor_6 rfl (lv_at hl 0 rfl) ?_
  refine x_callNi (wr := sW cI o G) (w2 := sW cI o G) (rest := []) (n := 1) C w hl [.int (hldI G pl)] (k_X6_isLine l D cI cS tys ht0 (hldI G pl) ) gX4_lineFor_X6_isLine_n80 rfl (by decide) (List.mem_of_getElem? (i := 13) rfl) (List.mem_of_getElem? (i := 12) rfl) (by decide +kernel) ⟨Nat.le_of_ble_eq_true rfl, Nat.le_of_ble_eq_true rfl⟩ rfl rfl (Nat.le_of_ble_eq_true rfl) [] [0, 1, 2, 3, 4, 5, 6, 7] (by decide) rfl rfl (by decide) (by decide) [0, 1, 2, 3, 4, 5, 6, 7] (by decide) rfl ⟨Nat.zero_le _, Nat.zero_le _⟩ dX4_lineFor_7 (fun H locs w => ?_)
  refine x_ifB_eq (P := rg (hldI G pl) 8 = true) (tgt := 26) hx hb dX4_lineFor_10 (by decide) (fun c10_1 => ?_) (fun c10_1 => ?_)
  ·
    refine lv_aload_n hx hb dX4_lineFor_26 rfl (lv_at hl 1 rfl) ?_
    refine lv_dup hx hb dX4_lineFor_27 rfl ?_
    refine x_get (v := .int (G 7 2)) (T := TX4) C w 0 10 rfl rfl (fun _ h => List.mem_cons_of_mem _ (List.mem_append_right _ (h))) (List.mem_of_getElem? (i := 2) rfl) (by decide) rfl dX4_lineFor_28 ?_
    refine lv_iconst (v := 1) hx hb dX4_lineFor_31 (by decide +kernel) ?_
    refine lv_iadd (x := G 7 2) (y := 1) hx hb dX4_lineFor_32 ?_
    refine x_put (v := .int ((G 7 2) + 1)) (ty := .int) (T := TX4) (ws2 := sW cI o (s2 G 7 2 ((G 7 2) + 1))) C w 0 10 rfl rfl (fun _ h => List.mem_cons_of_mem _ (List.mem_append_right _ (h))) tyX4 tyX4_ok nmX4 (List.mem_of_getElem? (i := 2) rfl) (by decide) (Nat.le_of_ble_eq_true rfl) rfl (by decide +kernel) rfl rfl rfl dX4_lineFor_33 (fun H locs w => ?_)
    have w : xW D A s.heap (sW cI o (misG G)) _ _ := w
    refine lv_aload_n hx hb dX4_lineFor_36 rfl (lv_at hl 1 rfl) ?_
    refine x_callVi (wr := []) (w2 := sW cI o (misG G)) (rest := []) (n := 0) C w hl [] (k_X4_lineToTake l D cI cS tys ht0 o (misG G) ) gX4_lineFor_X4_lineToTake rfl (by decide +kernel) ⟨Nat.le_of_ble_eq_true rfl, Nat.le_of_ble_eq_true rfl⟩ 0 4 rfl rfl rfl rfl (Nat.le_of_ble_eq_true rfl) [0, 1, 2, 3, 4, 5, 6, 7] [] (by decide) rfl rfl (by decide) (by decide) [0, 1, 2, 3, 4, 5, 6, 7] (by decide) rfl ⟨Nat.zero_le _, Nat.zero_le _⟩ dX4_lineFor_37 (fun H locs w => ?_)
    refine lv_istore_n (lv' := [(2, .int (takI (misG G))), (0, .ref (o 0)), (1, .int pl)]) hx hb dX4_lineFor_40 rfl hl (by decide) rfl (fun ls hl => ?_)
    refine lv_aload_n hx hb dX4_lineFor_41 rfl (lv_at hl 1 rfl) ?_
    refine lv_iload_n hx hb dX4_lineFor_42 rfl (lv_at hl 0 rfl) ?_
    refine x_callVv (wr := []) (w2 := sW cI o (fluG (misG G) (takI (misG G)))) (rest := []) (n := 1) C w hl [.int (takI (misG G))] (k_X4_flushLine l D cI cS tys ht0 o (misG G) (takI (misG G)) ) gX4_lineFor_X4_flushLine rfl (by decide +kernel) ⟨Nat.le_of_ble_eq_true rfl, Nat.le_of_ble_eq_true rfl⟩ 0 4 rfl rfl rfl rfl (Nat.le_of_ble_eq_true rfl) [0, 1, 2, 3, 4, 5, 6, 7] [] (by decide) rfl rfl (by decide) (by decide) [0, 1, 2, 3, 4, 5, 6, 7] (by decide) rfl ⟨Nat.zero_le _, Nat.zero_le _⟩ dX4_lineFor_43 (fun H locs w => ?_)
    refine lv_aload_n hx hb dX4_lineFor_46 rfl (lv_at hl 1 rfl) ?_
    refine lv_iload_n hx hb dX4_lineFor_47 rfl (lv_at hl 0 rfl) ?_
    refine lv_iload_n hx hb dX4_lineFor_48 rfl (lv_at hl 2 rfl) ?_
    refine x_callVv (wr := []) (w2 := sW cI o (linG (fluG (misG G) (takI (misG G))) (takI (misG G)) pl)) (rest := []) (n := 2) C w hl [.int (takI (misG G)), .int pl] (k_X4_layIntoLine l D cI cS tys ht0 o (fluG (misG G) (takI (misG G))) (takI (misG G)) pl ) gX4_lineFor_X4_layIntoLine rfl (by decide +kernel) ⟨Nat.le_of_ble_eq_true rfl, Nat.le_of_ble_eq_true rfl⟩ 0 4 rfl rfl rfl rfl (Nat.le_of_ble_eq_true rfl) [0, 1, 2, 3, 4, 5, 6, 7] [] (by decide) rfl rfl (by decide) (by decide) [0, 1, 2, 3, 4, 5, 6, 7] (by decide) rfl ⟨Nat.zero_le _, Nat.zero_le _⟩ dX4_lineFor_49 (fun H locs w => ?_)
    refine lv_iload_n hx hb dX4_lineFor_52 rfl (lv_at hl 0 rfl) ?_
    refine x_callNi (wr := sW cI o (linG (fluG (misG G) (takI (misG G))) (takI (misG G)) pl)) (w2 := sW cI o (linG (fluG (misG G) (takI (misG G))) (takI (misG G)) pl)) (rest := []) (n := 1) C w hl [.int (takI (misG G))] (k_X6_isLine l D cI cS tys ht0 (takI (misG G)) ) gX4_lineFor_X6_isLine_n80 rfl (by decide) (List.mem_of_getElem? (i := 13) rfl) (List.mem_of_getElem? (i := 12) rfl) (by decide +kernel) ⟨Nat.le_of_ble_eq_true rfl, Nat.le_of_ble_eq_true rfl⟩ rfl rfl (Nat.le_of_ble_eq_true rfl) [] [0, 1, 2, 3, 4, 5, 6, 7] (by decide) rfl rfl (by decide) (by decide) [0, 1, 2, 3, 4, 5, 6, 7] (by decide) rfl ⟨Nat.zero_le _, Nat.zero_le _⟩ dX4_lineFor_53 (fun H locs w => ?_)
    refine x_ifB_eq (P := rg (takI (misG G)) 8 = true) (tgt := 79) hx hb dX4_lineFor_56 (by decide) (fun c56_2 => ?_) (fun c56_2 => ?_)
    ·
      refine lv_iload_n hx hb dX4_lineFor_79 rfl (lv_at hl 0 rfl) ?_
      exact x_iret C w (by first | contradiction | (simp [lnfI, c10_1, c56_2]; done)) (congrArg (sW cI o) (by first | contradiction | (simp [lnfG, trnG, lnf1, lnfI, s2_ap, c10_1, c56_2]; done))) dX4_lineFor_80
    ·
      refine lv_aload_n hx hb dX4_lineFor_59 rfl (lv_at hl 1 rfl) ?_
      refine lv_dup hx hb dX4_lineFor_60 rfl ?_
      refine x_get (v := .int ((linG (fluG (misG G) (takI (misG G))) (takI (misG G)) pl) 9 0)) (T := TX4) C w 0 7 rfl rfl (fun _ h => List.mem_cons_of_mem _ (List.mem_append_right _ (h))) (List.mem_of_getElem? (i := 3) rfl) (by decide) rfl dX4_lineFor_61 ?_
      refine lv_iconst (v := 1) hx hb dX4_lineFor_64 (by decide +kernel) ?_
      refine lv_iadd (x := (linG (fluG (misG G) (takI (misG G))) (takI (misG G)) pl) 9 0) (y := 1) hx hb dX4_lineFor_65 ?_
      refine x_put (v := .int (((linG (fluG (misG G) (takI (misG G))) (takI (misG G)) pl) 9 0) + 1)) (ty := .int) (T := TX4) (ws2 := sW cI o (s2 (linG (fluG (misG G) (takI (misG G))) (takI (misG G)) pl) 9 0 (((linG (fluG (misG G) (takI (misG G))) (takI (misG G)) pl) 9 0) + 1))) C w 0 7 rfl rfl (fun _ h => List.mem_cons_of_mem _ (List.mem_append_right _ (h))) tyX4 tyX4_ok nmX4 (List.mem_of_getElem? (i := 3) rfl) (by decide) (Nat.le_of_ble_eq_true rfl) rfl (by decide +kernel) rfl rfl rfl dX4_lineFor_66 (fun H locs w => ?_)
      refine lv_aload_n hx hb dX4_lineFor_69 rfl (lv_at hl 1 rfl) ?_
      refine x_get (v := .ref (o 7)) (T := TX4) C w 0 6 rfl rfl (fun _ h => List.mem_cons_of_mem _ (List.mem_append_right _ (h))) (List.mem_of_getElem? (i := 4) rfl) (by decide) rfl dX4_lineFor_70 ?_
      refine lv_iload_n hx hb dX4_lineFor_73 rfl (lv_at hl 0 rfl) ?_
      refine lv_aload_n hx hb dX4_lineFor_74 rfl (lv_at hl 1 rfl) ?_
      refine x_get (v := .int (((linG (fluG (misG G) (takI (misG G))) (takI (misG G)) pl) 9 0) + 1)) (T := TX4) C w 0 7 rfl rfl (fun _ h => List.mem_cons_of_mem _ (List.mem_append_right _ (h))) (List.mem_of_getElem? (i := 3) rfl) (by decide) rfl dX4_lineFor_75 ?_
      refine x_iastR (ws2 := sW cI o (s2 (s2 (linG (fluG (misG G) (takI (misG G))) (takI (misG G)) pl) 9 0 (((linG (fluG (misG G) (takI (misG G))) (takI (misG G)) pl) 9 0) + 1)) 5 (ix (takI (misG G))) (((linG (fluG (misG G) (takI (misG G))) (takI (misG G)) pl) 9 0) + 1))) C w 7 0 rfl ht0 (rg_in (n := 8) rfl (by decide) c56_2) rfl dX4_lineFor_78 (fun H locs w => ?_)
      refine lv_iload_n hx hb dX4_lineFor_79 rfl (lv_at hl 0 rfl) ?_
      exact x_iret C w (by first | contradiction | (simp [lnfI, c10_1, c56_2]; done)) (congrArg (sW cI o) (by first | contradiction | (simp [lnfG, trnG, lnf1, lnfI, s2_ap, c10_1, c56_2]; done))) dX4_lineFor_80
  ·
    refine lv_aload_n hx hb dX4_lineFor_13 rfl (lv_at hl 1 rfl) ?_
    refine lv_dup hx hb dX4_lineFor_14 rfl ?_
    refine x_get (v := .int (G 7 1)) (T := TX4) C w 0 9 rfl rfl (fun _ h => List.mem_cons_of_mem _ (List.mem_append_right _ (h))) (List.mem_of_getElem? (i := 1) rfl) (by decide) rfl dX4_lineFor_15 ?_
    refine lv_iconst (v := 1) hx hb dX4_lineFor_18 (by decide +kernel) ?_
    refine lv_iadd (x := G 7 1) (y := 1) hx hb dX4_lineFor_19 ?_
    refine x_put (v := .int ((G 7 1) + 1)) (ty := .int) (T := TX4) (ws2 := sW cI o (s2 G 7 1 ((G 7 1) + 1))) C w 0 9 rfl rfl (fun _ h => List.mem_cons_of_mem _ (List.mem_append_right _ (h))) tyX4 tyX4_ok nmX4 (List.mem_of_getElem? (i := 1) rfl) (by decide) (Nat.le_of_ble_eq_true rfl) rfl (by decide +kernel) rfl rfl rfl dX4_lineFor_20 (fun H locs w => ?_)
    refine lv_goto (tgt := 52) hx hb dX4_lineFor_23 (by decide) ?_
    refine lv_iload_n hx hb dX4_lineFor_52 rfl (lv_at hl 0 rfl) ?_
    refine x_callNi (wr := sW cI o (s2 G 7 1 ((G 7 1) + 1))) (w2 := sW cI o (s2 G 7 1 ((G 7 1) + 1))) (rest := []) (n := 1) C w hl [.int (hldI G pl)] (k_X6_isLine l D cI cS tys ht0 (hldI G pl) ) gX4_lineFor_X6_isLine_n80 rfl (by decide) (List.mem_of_getElem? (i := 13) rfl) (List.mem_of_getElem? (i := 12) rfl) (by decide +kernel) ⟨Nat.le_of_ble_eq_true rfl, Nat.le_of_ble_eq_true rfl⟩ rfl rfl (Nat.le_of_ble_eq_true rfl) [] [0, 1, 2, 3, 4, 5, 6, 7] (by decide) rfl rfl (by decide) (by decide) [0, 1, 2, 3, 4, 5, 6, 7] (by decide) rfl ⟨Nat.zero_le _, Nat.zero_le _⟩ dX4_lineFor_53 (fun H locs w => ?_)
    refine x_ifB_eq (P := rg (hldI G pl) 8 = true) (tgt := 79) hx hb dX4_lineFor_56 (by decide) (fun c56_3 => ?_) (fun c56_3 => ?_)
    ·
      refine lv_iload_n hx hb dX4_lineFor_79 rfl (lv_at hl 0 rfl) ?_
      exact x_iret C w (by first | contradiction | (simp [lnfI, c10_1, c56_3]; done)) (congrArg (sW cI o) (by first | contradiction | (simp [lnfG, trnG, lnf1, lnfI, s2_ap, c10_1, c56_3]; done))) dX4_lineFor_80
    ·
      refine lv_aload_n hx hb dX4_lineFor_59 rfl (lv_at hl 1 rfl) ?_
      refine lv_dup hx hb dX4_lineFor_60 rfl ?_
      refine x_get (v := .int (G 9 0)) (T := TX4) C w 0 7 rfl rfl (fun _ h => List.mem_cons_of_mem _ (List.mem_append_right _ (h))) (List.mem_of_getElem? (i := 3) rfl) (by decide) rfl dX4_lineFor_61 ?_
      refine lv_iconst (v := 1) hx hb dX4_lineFor_64 (by decide +kernel) ?_
      refine lv_iadd (x := G 9 0) (y := 1) hx hb dX4_lineFor_65 ?_
      refine x_put (v := .int ((G 9 0) + 1)) (ty := .int) (T := TX4) (ws2 := sW cI o (s2 (s2 G 7 1 ((G 7 1) + 1)) 9 0 ((G 9 0) + 1))) C w 0 7 rfl rfl (fun _ h => List.mem_cons_of_mem _ (List.mem_append_right _ (h))) tyX4 tyX4_ok nmX4 (List.mem_of_getElem? (i := 3) rfl) (by decide) (Nat.le_of_ble_eq_true rfl) rfl (by decide +kernel) rfl rfl rfl dX4_lineFor_66 (fun H locs w => ?_)
      refine lv_aload_n hx hb dX4_lineFor_69 rfl (lv_at hl 1 rfl) ?_
      refine x_get (v := .ref (o 7)) (T := TX4) C w 0 6 rfl rfl (fun _ h => List.mem_cons_of_mem _ (List.mem_append_right _ (h))) (List.mem_of_getElem? (i := 4) rfl) (by decide) rfl dX4_lineFor_70 ?_
      refine lv_iload_n hx hb dX4_lineFor_73 rfl (lv_at hl 0 rfl) ?_
      refine lv_aload_n hx hb dX4_lineFor_74 rfl (lv_at hl 1 rfl) ?_
      refine x_get (v := .int ((G 9 0) + 1)) (T := TX4) C w 0 7 rfl rfl (fun _ h => List.mem_cons_of_mem _ (List.mem_append_right _ (h))) (List.mem_of_getElem? (i := 3) rfl) (by decide) rfl dX4_lineFor_75 ?_
      refine x_iastR (ws2 := sW cI o (s2 (s2 (s2 G 7 1 ((G 7 1) + 1)) 9 0 ((G 9 0) + 1)) 5 (ix (hldI G pl)) ((G 9 0) + 1))) C w 7 0 rfl ht0 (rg_in (n := 8) rfl (by decide) c56_3) rfl dX4_lineFor_78 (fun H locs w => ?_)
      refine lv_iload_n hx hb dX4_lineFor_79 rfl (lv_at hl 0 rfl) ?_
      exact x_iret C w (by first | contradiction | (simp [lnfI, c10_1, c56_3]; done)) (congrArg (sW cI o) (by first | contradiction | (simp [lnfG, trnG, lnf1, lnfI, s2_ap, c10_1, c56_3]; done))) dX4_lineFor_80
set_option maxHeartbeats 1000000 in
set_option maxRecDepth 100000 in
theorem k_X4_readPlace (l : Launch) (D : va_G) (cI cS : ClassId) (tys : List (ClassId × FieldType)) (ht0 : tys[0]? = some (cI, .int)) (o : Nat → Nat) (G : St) (pl : Int32)  : xI l yX4_readPlace wsX4_readPlace 4 D tys [.ref (o 0), .int pl] (sW cI o G) (rdpI G pl) (sW cI o (lnfG G pl)) := by
  refine x_inI (cc := cX4_readPlace) (maxL := 3) (ret := (some .int)) (by decide) rfl (Nat.le_of_ble_eq_true rfl) ?_
  intro p e s m args below meth c A ls C w hl
  have C : xC p s m meth c args cX4_readPlace 3 wsX4_readPlace RX4 D tys (some .int) := C
  have hx := C.1.1
  have hb := C.1.2.1
  have hts := C.1.2.2.2.2
  have hown := C.1.2.2.2.1
  have w : xW D A s.heap (sW cI o G) s.heap [] := w
  have hl : lv_has ls 3 [(0, .ref (o 0)), (1, .int pl)] := hl
  refine lv_aload_n hx hb dX4_readPlace_0 rfl (lv_at hl 0 rfl) ?_
  refine lv_iload_n hx hb dX4_readPlace_1 rfl (lv_at hl 1 rfl) ?_
  refine x_callVi (wr := []) (w2 := sW cI o (lnfG G pl)) (rest := []) (n := 1) C w hl [.int pl] (k_X4_lineFor l D cI cS tys ht0 o G pl ) gX4_readPlace_X4_lineFor rfl (by decide +kernel) ⟨Nat.le_of_ble_eq_true rfl, Nat.le_of_ble_eq_true rfl⟩ 0 4 rfl rfl rfl rfl (Nat.le_of_ble_eq_true rfl) [0, 1, 2, 3, 4, 5, 6, 7] [] (by decide) rfl rfl (by decide) (by decide) [0, 1, 2, 3, 4, 5, 6, 7] (by decide) rfl ⟨Nat.zero_le _, Nat.zero_le _⟩ dX4_readPlace_2 (fun H locs w => ?_)
  refine lv_istore_n (lv' := [(2, .int (lnfI G pl)), (0, .ref (o 0)), (1, .int pl)]) hx hb dX4_readPlace_5 rfl hl (by decide) rfl (fun ls hl => ?_)
  refine lv_iload_n hx hb dX4_readPlace_6 rfl (lv_at hl 0 rfl) ?_
  refine x_callNi (wr := sW cI o (lnfG G pl)) (w2 := sW cI o (lnfG G pl)) (rest := []) (n := 1) C w hl [.int (lnfI G pl)] (k_X6_isLine l D cI cS tys ht0 (lnfI G pl) ) gX4_readPlace_X6_isLine_n80 rfl (by decide) (List.mem_of_getElem? (i := 18) rfl) (List.mem_of_getElem? (i := 17) rfl) (by decide +kernel) ⟨Nat.le_of_ble_eq_true rfl, Nat.le_of_ble_eq_true rfl⟩ rfl rfl (Nat.le_of_ble_eq_true rfl) [] [0, 1, 2, 3, 4, 5, 6, 7] (by decide) rfl rfl (by decide) (by decide) [0, 1, 2, 3, 4, 5, 6, 7] (by decide) rfl ⟨Nat.zero_le _, Nat.zero_le _⟩ dX4_readPlace_7 (fun H locs w => ?_)
  refine x_ifB_eq (P := rg (lnfI G pl) 8 = true) (tgt := 22) hx hb dX4_readPlace_10 (by decide) (fun c10_1 => ?_) (fun c10_1 => ?_)
  ·
    refine lv_iconst (v := 0) hx hb dX4_readPlace_22 (by decide +kernel) ?_
    exact x_iret C w (by first | rfl | contradiction | (simp [rdpI, c10_1]; done)) rfl dX4_readPlace_23
  ·
    refine lv_aload_n hx hb dX4_readPlace_13 rfl (lv_at hl 1 rfl) ?_
    refine x_get (v := .ref (o 6)) (T := TX4) C w 0 5 rfl rfl (fun _ h => List.mem_cons_of_mem _ (List.mem_append_right _ (h))) (List.mem_of_getElem? (i := 1) rfl) (by decide) rfl dX4_readPlace_14 ?_
    refine lv_iload_n hx hb dX4_readPlace_17 rfl (lv_at hl 0 rfl) ?_
    refine x_ialdR (v := (lnfG G pl) 4 (ix (lnfI G pl))) C w 6 0 rfl ht0 (rg_in (n := 8) rfl (by decide) c10_1) rfl dX4_readPlace_18 ?_
    refine lv_goto (tgt := 23) hx hb dX4_readPlace_19 (by decide) ?_
    exact x_iret C w (by first | rfl | contradiction | (simp [rdpI, c10_1]; done)) rfl dX4_readPlace_23
set_option maxHeartbeats 1000000 in
set_option maxRecDepth 100000 in
theorem k_X4_writePlace (l : Launch) (D : va_G) (cI cS : ClassId) (tys : List (ClassId × FieldType)) (ht0 : tys[0]? = some (cI, .int)) (o : Nat → Nat) (G : St) (pl : Int32) (v : Int32)  : xI l yX4_writePlace wsX4_writePlace 4 D tys [.ref (o 0), .int pl, .int v] (sW cI o G) (wptI G pl v) (sW cI o (wptG G pl v)) := by
  refine x_inI (cc := cX4_writePlace) (maxL := 4) (ret := (some .int)) (by decide) rfl (Nat.le_of_ble_eq_true rfl) ?_
  intro p e s m args below meth c A ls C w hl
  have C : xC p s m meth c args cX4_writePlace 4 wsX4_writePlace RX4 D tys (some .int) := C
  have hx := C.1.1
  have hb := C.1.2.1
  have hts := C.1.2.2.2.2
  have hown := C.1.2.2.2.1
  have w : xW D A s.heap (sW cI o G) s.heap [] := w
  have hl : lv_has ls 4 [(0, .ref (o 0)), (1, .int pl), (2, .int v)] := hl
  refine lv_aload_n hx hb dX4_writePlace_0 rfl (lv_at hl 0 rfl) ?_
  refine lv_iload_n hx hb dX4_writePlace_1 rfl (lv_at hl 1 rfl) ?_
  refine x_callVi (wr := []) (w2 := sW cI o (lnfG G pl)) (rest := []) (n := 1) C w hl [.int pl] (k_X4_lineFor l D cI cS tys ht0 o G pl ) gX4_writePlace_X4_lineFor rfl (by decide +kernel) ⟨Nat.le_of_ble_eq_true rfl, Nat.le_of_ble_eq_true rfl⟩ 0 4 rfl rfl rfl rfl (Nat.le_of_ble_eq_true rfl) [0, 1, 2, 3, 4, 5, 6, 7] [] (by decide) rfl rfl (by decide) (by decide) [0, 1, 2, 3, 4, 5, 6, 7] (by decide) rfl ⟨Nat.zero_le _, Nat.zero_le _⟩ dX4_writePlace_2 (fun H locs w => ?_)
  refine lv_istore_n (lv' := [(3, .int (lnfI G pl)), (0, .ref (o 0)), (1, .int pl), (2, .int v)]) hx hb dX4_writePlace_5 rfl hl (by decide) rfl (fun ls hl => ?_)
  refine lv_iload_n hx hb dX4_writePlace_6 rfl (lv_at hl 0 rfl) ?_
  refine x_callNi (wr := sW cI o (lnfG G pl)) (w2 := sW cI o (lnfG G pl)) (rest := []) (n := 1) C w hl [.int (lnfI G pl)] (k_X6_isLine l D cI cS tys ht0 (lnfI G pl) ) gX4_writePlace_X6_isLine_n80 rfl (by decide) (List.mem_of_getElem? (i := 20) rfl) (List.mem_of_getElem? (i := 19) rfl) (by decide +kernel) ⟨Nat.le_of_ble_eq_true rfl, Nat.le_of_ble_eq_true rfl⟩ rfl rfl (Nat.le_of_ble_eq_true rfl) [] [0, 1, 2, 3, 4, 5, 6, 7] (by decide) rfl rfl (by decide) (by decide) [0, 1, 2, 3, 4, 5, 6, 7] (by decide) rfl ⟨Nat.zero_le _, Nat.zero_le _⟩ dX4_writePlace_7 (fun H locs w => ?_)
  refine x_ifB_ne (P := rg (lnfI G pl) 8 = true) (tgt := 15) hx hb dX4_writePlace_10 (by decide) (fun c10_1 => ?_) (fun c10_1 => ?_)
  ·
    refine lv_aload_n hx hb dX4_writePlace_15 rfl (lv_at hl 1 rfl) ?_
    refine x_get (v := .ref (o 6)) (T := TX4) C w 0 5 rfl rfl (fun _ h => List.mem_cons_of_mem _ (List.mem_append_left _ (List.mem_append_right _ (h)))) (List.mem_of_getElem? (i := 1) rfl) (by decide) rfl dX4_writePlace_16 ?_
    refine lv_iload_n hx hb dX4_writePlace_19 rfl (lv_at hl 0 rfl) ?_
    refine lv_iload_n hx hb dX4_writePlace_20 rfl (lv_at hl 3 rfl) ?_
    refine x_iastR (ws2 := sW cI o (s2 (lnfG G pl) 4 (ix (lnfI G pl)) v)) C w 6 0 rfl ht0 (rg_in (n := 8) rfl (by decide) c10_1) rfl dX4_writePlace_21 (fun H locs w => ?_)
    have w : xW D A s.heap (sW cI o (wp1 G pl v)) _ _ := w
    refine lv_aload_n hx hb dX4_writePlace_22 rfl (lv_at hl 1 rfl) ?_
    refine x_get (v := .ref (o 4)) (T := TX4) C w 0 3 rfl rfl (fun _ h => List.mem_cons_of_mem _ (List.mem_append_left _ (List.mem_append_right _ (h)))) (List.mem_of_getElem? (i := 2) rfl) (by decide) rfl dX4_writePlace_23 ?_
    refine lv_iload_n hx hb dX4_writePlace_26 rfl (lv_at hl 0 rfl) ?_
    refine x_ialdR (v := (wp1 G pl v) 2 (ix (lnfI G pl))) C w 4 0 rfl ht0 (rg_in (n := 8) rfl (by decide) c10_1) rfl dX4_writePlace_27 ?_
    refine lv_iconst (v := 2) hx hb dX4_writePlace_28 (by decide +kernel) ?_
    refine x_icR_eq (x := (wp1 G pl v) 2 (ix (lnfI G pl))) (y := 2) (tgt := 47) hx hb dX4_writePlace_29 (by decide) (fun c29_2 => ?_) (fun c29_2 => ?_)
    ·
      refine lv_aload_n hx hb dX4_writePlace_47 rfl (lv_at hl 1 rfl) ?_
      refine x_get (v := .ref (o 4)) (T := TX4) C w 0 3 rfl rfl (fun _ h => List.mem_cons_of_mem _ (List.mem_append_left _ (List.mem_append_right _ (h)))) (List.mem_of_getElem? (i := 2) rfl) (by decide) rfl dX4_writePlace_48 ?_
      refine lv_iload_n hx hb dX4_writePlace_51 rfl (lv_at hl 0 rfl) ?_
      refine lv_iconst (v := 2) hx hb dX4_writePlace_52 (by decide +kernel) ?_
      refine x_iastR (ws2 := sW cI o (s2 (wp1 G pl v) 2 (ix (lnfI G pl)) 2)) C w 4 0 rfl ht0 (rg_in (n := 8) rfl (by decide) c10_1) rfl dX4_writePlace_53 (fun H locs w => ?_)
      refine lv_iconst (v := 0) hx hb dX4_writePlace_54 (by decide +kernel) ?_
      exact x_iret C w (by simp [wptI, c10_1, c29_2]) (congrArg (sW cI o) (by simp [wptG, c10_1, c29_2])) dX4_writePlace_55
    ·
      refine lv_aload_n hx hb dX4_writePlace_32 rfl (lv_at hl 1 rfl) ?_
      refine lv_iconst (v := 2) hx hb dX4_writePlace_33 (by decide +kernel) ?_
      refine x_callVi (wr := []) (w2 := sW cI o (wp1 G pl v)) (rest := []) (n := 1) C w hl [.int 2] (k_X4_numberOf l D cI cS tys ht0 o (wp1 G pl v) 2 ) gX4_writePlace_X4_numberOf rfl (by decide +kernel) ⟨Nat.le_of_ble_eq_true rfl, Nat.le_of_ble_eq_true rfl⟩ 0 4 rfl rfl rfl rfl (Nat.le_of_ble_eq_true rfl) [0, 1, 2, 3, 4, 5, 6, 7] [] (by decide) rfl rfl (by decide) (by decide) [0, 1, 2, 3, 4, 5, 6, 7] (by decide) rfl ⟨Nat.zero_le _, Nat.zero_le _⟩ dX4_writePlace_34 (fun H locs w => ?_)
      refine lv_aload_n hx hb dX4_writePlace_37 rfl (lv_at hl 1 rfl) ?_
      refine x_get (v := .ref (o 1)) (T := TX4) C w 0 0 rfl rfl (fun _ h => List.mem_cons_of_mem _ (List.mem_append_left _ (List.mem_append_right _ (h)))) (List.mem_of_getElem? (i := 3) rfl) (by decide) rfl dX4_writePlace_38 ?_
      refine x_callVi (wr := [(o 0, .inr (4, [.ref (o 1), .ref (o 2), .ref (o 3), .ref (o 4), .ref (o 5), .ref (o 6), .ref (o 7), .int ((wp1 G pl v) 9 0), .int ((wp1 G pl v) 7 0), .int ((wp1 G pl v) 7 1), .int ((wp1 G pl v) 7 2), .int ((wp1 G pl v) 7 3), .int ((wp1 G pl v) 7 4), .int ((wp1 G pl v) 7 5), .int ((wp1 G pl v) 7 6), .int ((wp1 G pl v) 7 7), .int ((wp1 G pl v) 7 8)])), (o 2, .inl (cI, 64, .inl ((wp1 G pl v) 0))), (o 3, .inl (cI, 64, .inl ((wp1 G pl v) 1))), (o 4, .inl (cI, 8, .inl ((wp1 G pl v) 2))), (o 5, .inl (cI, 8, .inl ((wp1 G pl v) 3))), (o 6, .inl (cI, 8, .inl ((wp1 G pl v) 4))), (o 7, .inl (cI, 8, .inl ((wp1 G pl v) 5)))]) (w2 := sW cI o (wp1 G pl v)) (rest := [.int (nofI (wp1 G pl v) 2)]) (n := 0) C w hl [] (k_X0_allowance l D cI cS tys ht0 (o 1) (wp1 G pl v) ) gX4_writePlace_X0_allowance rfl (by decide +kernel) ⟨Nat.le_of_ble_eq_true rfl, Nat.le_of_ble_eq_true rfl⟩ 0 0 rfl rfl rfl rfl (Nat.le_of_ble_eq_true rfl) [1] [0, 2, 3, 4, 5, 6, 7] (by decide) rfl rfl (by decide) (by decide) [0, 7, 1, 2, 3, 4, 5, 6] (by decide) rfl ⟨Nat.zero_le _, Nat.zero_le _⟩ dX4_writePlace_41 (fun H locs w => ?_)
      refine x_icR_ge (x := nofI (wp1 G pl v) 2) (y := alwI (wp1 G pl v)) (tgt := 56) hx hb dX4_writePlace_44 (by decide) (fun c44_3 => ?_) (fun c44_3 => ?_)
      ·
        refine lv_aload_n hx hb dX4_writePlace_56 rfl (lv_at hl 1 rfl) ?_
        refine lv_iload_n hx hb dX4_writePlace_57 rfl (lv_at hl 2 rfl) ?_
        refine lv_iload_n hx hb dX4_writePlace_58 rfl (lv_at hl 3 rfl) ?_
        refine x_callVv (wr := []) (w2 := sW cI o (layG (wp1 G pl v) pl v)) (rest := []) (n := 2) C w hl [.int pl, .int v] (k_X4_layOnDisk l D cI cS tys ht0 o (wp1 G pl v) pl v ) gX4_writePlace_X4_layOnDisk rfl (by decide +kernel) ⟨Nat.le_of_ble_eq_true rfl, Nat.le_of_ble_eq_true rfl⟩ 0 4 rfl rfl rfl rfl (Nat.le_of_ble_eq_true rfl) [0, 1, 2, 3, 4, 5, 6, 7] [] (by decide) rfl rfl (by decide) (by decide) [0, 1, 2, 3, 4, 5, 6, 7] (by decide) rfl ⟨Nat.zero_le _, Nat.zero_le _⟩ dX4_writePlace_59 (fun H locs w => ?_)
        refine lv_aload_n hx hb dX4_writePlace_62 rfl (lv_at hl 1 rfl) ?_
        refine lv_dup hx hb dX4_writePlace_63 rfl ?_
        refine x_get (v := .int ((layG (wp1 G pl v) pl v) 7 4)) (T := TX4) C w 0 12 rfl rfl (fun _ h => List.mem_cons_of_mem _ (List.mem_append_left _ (List.mem_append_right _ (h)))) (List.mem_of_getElem? (i := 4) rfl) (by decide) rfl dX4_writePlace_64 ?_
        refine lv_iconst (v := 1) hx hb dX4_writePlace_67 (by decide +kernel) ?_
        refine lv_iadd (x := (layG (wp1 G pl v) pl v) 7 4) (y := 1) hx hb dX4_writePlace_68 ?_
        refine x_put (v := .int (((layG (wp1 G pl v) pl v) 7 4) + 1)) (ty := .int) (T := TX4) (ws2 := sW cI o (s2 (layG (wp1 G pl v) pl v) 7 4 (((layG (wp1 G pl v) pl v) 7 4) + 1))) C w 0 12 rfl rfl (fun _ h => List.mem_cons_of_mem _ (List.mem_append_left _ (List.mem_append_right _ (h)))) tyX4 tyX4_ok nmX4 (List.mem_of_getElem? (i := 4) rfl) (by decide) (Nat.le_of_ble_eq_true rfl) rfl (by decide +kernel) rfl rfl rfl dX4_writePlace_69 (fun H locs w => ?_)
        refine lv_iconst (v := 1) hx hb dX4_writePlace_72 (by decide +kernel) ?_
        exact x_iret C w (by simp [wptI, c10_1, c29_2, c44_3]) (congrArg (sW cI o) (by simp [wptG, c10_1, c29_2, c44_3])) dX4_writePlace_73
      ·
        refine lv_aload_n hx hb dX4_writePlace_47 rfl (lv_at hl 1 rfl) ?_
        refine x_get (v := .ref (o 4)) (T := TX4) C w 0 3 rfl rfl (fun _ h => List.mem_cons_of_mem _ (List.mem_append_left _ (List.mem_append_right _ (h)))) (List.mem_of_getElem? (i := 2) rfl) (by decide) rfl dX4_writePlace_48 ?_
        refine lv_iload_n hx hb dX4_writePlace_51 rfl (lv_at hl 0 rfl) ?_
        refine lv_iconst (v := 2) hx hb dX4_writePlace_52 (by decide +kernel) ?_
        refine x_iastR (ws2 := sW cI o (s2 (wp1 G pl v) 2 (ix (lnfI G pl)) 2)) C w 4 0 rfl ht0 (rg_in (n := 8) rfl (by decide) c10_1) rfl dX4_writePlace_53 (fun H locs w => ?_)
        refine lv_iconst (v := 0) hx hb dX4_writePlace_54 (by decide +kernel) ?_
        exact x_iret C w (by simp [wptI, c10_1, c29_2, c44_3]) (congrArg (sW cI o) (by simp [wptG, c10_1, c29_2, c44_3])) dX4_writePlace_55
  ·
    refine lv_iconst (v := 0) hx hb dX4_writePlace_13 (by decide +kernel) ?_
    exact x_iret C w (by simp [wptI, c10_1]) (congrArg (sW cI o) (by simp [wptG, c10_1])) dX4_writePlace_14
set_option maxHeartbeats 1000000 in
set_option maxRecDepth 100000 in
theorem k_X4_passTicks (l : Launch) (D : va_G) (cI cS : ClassId) (tys : List (ClassId × FieldType)) (ht0 : tys[0]? = some (cI, .int)) (o : Nat → Nat) (G : St) (x : Int32)  : xI l yX4_passTicks wsX4_passTicks 4 D tys [.ref (o 0), .int x] (sW cI o G) ((tksG G (ix x)) 7 3 - G 7 3) (sW cI o (tksG G (ix x))) := by
  refine x_inI (cc := cX4_passTicks) (maxL := 4) (ret := (some .int)) (by decide) rfl (Nat.le_of_ble_eq_true rfl) ?_
  intro p e s m args below meth c A ls C w hl
  have C : xC p s m meth c args cX4_passTicks 4 wsX4_passTicks RX4 D tys (some .int) := C
  have hx := C.1.1
  have hb := C.1.2.1
  have hts := C.1.2.2.2.2
  have hown := C.1.2.2.2.1
  have w : xW D A s.heap (sW cI o G) s.heap [] := w
  have hl : lv_has ls 4 [(0, .ref (o 0)), (1, .int x)] := hl
  refine lv_aload_n hx hb dX4_passTicks_0 rfl (lv_at hl 0 rfl) ?_
  refine x_get (v := .int (G 7 3)) (T := TX4) C w 0 11 rfl rfl (fun _ h => List.mem_cons_of_mem _ (List.mem_append_left _ (List.mem_append_right _ (h)))) (List.mem_of_getElem? (i := 1) rfl) (by decide) rfl dX4_passTicks_1 ?_
  refine lv_istore_n (lv' := [(2, .int (G 7 3)), (0, .ref (o 0)), (1, .int x)]) hx hb dX4_passTicks_4 rfl hl (by decide) rfl (fun ls hl => ?_)
  refine lv_iconst (v := 0) hx hb dX4_passTicks_5 (by decide +kernel) ?_
  refine lv_istore_n (lv' := [(3, .int 0), (2, .int (G 7 3)), (0, .ref (o 0)), (1, .int x)]) hx hb dX4_passTicks_6 rfl hl (by decide) rfl (fun ls hl => ?_)
  have loop_7 : ∀ (n : Nat) (i : Nat), ix x - i < n → i ≤ ix x → ∀ (H : Heap) (locs : List Loc), xW D A s.heap (sW cI o (tksG G i)) H locs → ∀ ls : Array Slot, lv_has ls 4 [(3, .int (nI i)), (2, .int (G 7 3)), (0, .ref (o 0)), (1, .int x)] → W p l e (rmd 4) s m args below meth c H locs 0 0 (MQ below (xQi D tys ((tksG G (ix x)) 7 3 - G 7 3) (sW cI o (tksG G (ix x))) A) args s 0 0 A) (F0 m 7 ls []) := by
    intro n
    induction n with
    | zero => intro i hm; exact absurd hm (Nat.not_lt_zero _)
    | succ n ih =>
      intro i hm hi H locs w ls hl
      refine lv_iload_n hx hb dX4_passTicks_7 rfl (lv_at hl 0 rfl) ?_
      refine lv_iload_n hx hb dX4_passTicks_8 rfl (lv_at hl 3 rfl) ?_
      refine x_icR_ge (x := nI i) (y := x) (tgt := 57) hx hb dX4_passTicks_9 (by decide) (fun c9_1 => ?_) (fun c9_1 => ?_)
      ·
        have hE : i = ix x := nlt_ix hi c9_1
        refine lv_aload_n hx hb dX4_passTicks_57 rfl (lv_at hl 2 rfl) ?_
        refine x_get (v := .int ((tksG G i) 7 3)) (T := TX4) C w 0 11 rfl rfl (fun _ h => List.mem_cons_of_mem _ (List.mem_append_left _ (List.mem_append_right _ (h)))) (List.mem_of_getElem? (i := 1) rfl) (by decide) rfl dX4_passTicks_58 ?_
        refine lv_iload_n hx hb dX4_passTicks_61 rfl (lv_at hl 1 rfl) ?_
        refine lv_isub (x := (tksG G i) 7 3) (y := G 7 3) hx hb dX4_passTicks_62 ?_
        exact x_iret C w (by first | (rw [hE]; done) | (rw [hE]; rfl) | contradiction | (simp [c9_1, hE]; done) | rfl) (congrArg (sW cI o) (by first | (rw [hE]; done) | (rw [hE]; rfl) | contradiction | (simp [c9_1, hE]; done) | rfl)) dX4_passTicks_63
      ·
        have hlt : i < ix x := lt_ix hi c9_1
        refine lv_aload_n hx hb dX4_passTicks_12 rfl (lv_at hl 2 rfl) ?_
        refine lv_dup hx hb dX4_passTicks_13 rfl ?_
        refine x_get (v := .int ((tksG G i) 7 0)) (T := TX4) C w 0 8 rfl rfl (fun _ h => List.mem_cons_of_mem _ (List.mem_append_left _ (List.mem_append_right _ (h)))) (List.mem_of_getElem? (i := 2) rfl) (by decide) rfl dX4_passTicks_14 ?_
        refine lv_iconst (v := 1) hx hb dX4_passTicks_17 (by decide +kernel) ?_
        refine lv_iadd (x := (tksG G i) 7 0) (y := 1) hx hb dX4_passTicks_18 ?_
        refine x_put (v := .int (((tksG G i) 7 0) + 1)) (ty := .int) (T := TX4) (ws2 := sW cI o (s2 (tksG G i) 7 0 (((tksG G i) 7 0) + 1))) C w 0 8 rfl rfl (fun _ h => List.mem_cons_of_mem _ (List.mem_append_left _ (List.mem_append_right _ (h)))) tyX4 tyX4_ok nmX4 (List.mem_of_getElem? (i := 2) rfl) (by decide) (Nat.le_of_ble_eq_true rfl) rfl (by decide +kernel) rfl rfl rfl dX4_passTicks_19 (fun H locs w => ?_)
        have w : xW D A s.heap (sW cI o (tcG (tksG G i))) _ _ := w
        refine lv_aload_n hx hb dX4_passTicks_22 rfl (lv_at hl 2 rfl) ?_
        refine x_get (v := .ref (o 1)) (T := TX4) C w 0 0 rfl rfl (fun _ h => List.mem_cons_of_mem _ (List.mem_append_left _ (List.mem_append_right _ (h)))) (List.mem_of_getElem? (i := 3) rfl) (by decide) rfl dX4_passTicks_23 ?_
        refine x_callVi (wr := [(o 0, .inr (4, [.ref (o 1), .ref (o 2), .ref (o 3), .ref (o 4), .ref (o 5), .ref (o 6), .ref (o 7), .int ((tcG (tksG G i)) 9 0), .int ((tcG (tksG G i)) 7 0), .int ((tcG (tksG G i)) 7 1), .int ((tcG (tksG G i)) 7 2), .int ((tcG (tksG G i)) 7 3), .int ((tcG (tksG G i)) 7 4), .int ((tcG (tksG G i)) 7 5), .int ((tcG (tksG G i)) 7 6), .int ((tcG (tksG G i)) 7 7), .int ((tcG (tksG G i)) 7 8)])), (o 2, .inl (cI, 64, .inl ((tcG (tksG G i)) 0))), (o 3, .inl (cI, 64, .inl ((tcG (tksG G i)) 1))), (o 4, .inl (cI, 8, .inl ((tcG (tksG G i)) 2))), (o 5, .inl (cI, 8, .inl ((tcG (tksG G i)) 3))), (o 6, .inl (cI, 8, .inl ((tcG (tksG G i)) 4))), (o 7, .inl (cI, 8, .inl ((tcG (tksG G i)) 5)))]) (w2 := sW cI o (tkG (tcG (tksG G i)))) (rest := []) (n := 0) C w hl [] (k_X0_passTick l D cI cS tys ht0 (o 1) (tcG (tksG G i)) ) gX4_passTicks_X0_passTick rfl (by decide +kernel) ⟨Nat.le_of_ble_eq_true rfl, Nat.le_of_ble_eq_true rfl⟩ 0 0 rfl rfl rfl rfl (Nat.le_of_ble_eq_true rfl) [1] [0, 2, 3, 4, 5, 6, 7] (by decide) rfl rfl (by decide) (by decide) [0, 7, 1, 2, 3, 4, 5, 6] (by decide) rfl ⟨Nat.zero_le _, Nat.zero_le _⟩ dX4_passTicks_26 (fun H locs w => ?_)
        refine x_ifB_eq (P := endB (tcG (tksG G i)) = true) (tgt := 42) hx hb dX4_passTicks_29 (by decide) (fun c29_2 => ?_) (fun c29_2 => ?_)
        ·
          have w : xW D A s.heap (sW cI o (tk0 (tksG G i))) _ _ := x_ws (congrArg (sW cI o) (by show _ = tk0 _; unfold tk0; rw [if_neg c29_2] <;> rfl)) w
          refine lv_aload_n hx hb dX4_passTicks_42 rfl (lv_at hl 2 rfl) ?_
          refine lv_aload_n hx hb dX4_passTicks_43 rfl (lv_at hl 2 rfl) ?_
          refine x_callVi (wr := []) (w2 := sW cI o (tk0 (tksG G i))) (rest := [.ref (o 0)]) (n := 0) C w hl [] (k_X4_tooMany l D cI cS tys ht0 o (tk0 (tksG G i)) ) gX4_passTicks_X4_tooMany rfl (by decide +kernel) ⟨Nat.le_of_ble_eq_true rfl, Nat.le_of_ble_eq_true rfl⟩ 0 4 rfl rfl rfl rfl (Nat.le_of_ble_eq_true rfl) [0, 1, 2, 3, 4, 5, 6, 7] [] (by decide) rfl rfl (by decide) (by decide) [0, 1, 2, 3, 4, 5, 6, 7] (by decide) rfl ⟨Nat.zero_le _, Nat.zero_le _⟩ dX4_passTicks_44 (fun H locs w => ?_)
          refine x_callVi (wr := []) (w2 := sW cI o (flsG (tk0 (tksG G i)) (ix (tooI (tk0 (tksG G i)))))) (rest := []) (n := 1) C w hl [.int (tooI (tk0 (tksG G i)))] (k_X4_flushLowest l D cI cS tys ht0 o (tk0 (tksG G i)) (tooI (tk0 (tksG G i))) ) gX4_passTicks_X4_flushLowest rfl (by decide +kernel) ⟨Nat.le_of_ble_eq_true rfl, Nat.le_of_ble_eq_true rfl⟩ 0 4 rfl rfl rfl rfl (Nat.le_of_ble_eq_true rfl) [0, 1, 2, 3, 4, 5, 6, 7] [] (by decide) rfl rfl (by decide) (by decide) [0, 1, 2, 3, 4, 5, 6, 7] (by decide) rfl ⟨Nat.zero_le _, Nat.zero_le _⟩ dX4_passTicks_47 (fun H locs w => ?_)
          refine lv_pop hx hb dX4_passTicks_50 rfl ?_
          refine lv_iinc (v := nI (i + 1)) (lv' := [(3, .int (nI (i + 1))), (2, .int (G 7 3)), (0, .ref (o 0)), (1, .int x)]) hx hb dX4_passTicks_51 hl (k := 0) rfl (nI_add i 1) (by decide) rfl (fun ls hl => ?_)
          refine lv_goto (tgt := 7) hx hb dX4_passTicks_54 (by decide) ?_
          have hl : lv_has ls 4 [(3, .int (nI (i + 1))), (2, .int (G 7 3)), (0, .ref (o 0)), (1, .int x)] := lv_eqL (lv_sub (l' := [(3, .int (nI (i + 1))), (2, .int (G 7 3)), (0, .ref (o 0)), (1, .int x)]) hl [0, 1, 2, 3] rfl) (cg2 List.cons rfl (cg2 List.cons rfl (cg2 List.cons rfl (cg2 List.cons rfl rfl))))
          have w : xW D A s.heap (sW cI o (tksG G (i + 1))) _ _ := x_ws (congrArg (sW cI o) (by first | rfl | contradiction | (simp [c9_1, c29_2]; done))) w
          exact ih (i + 1) (by omega) (by omega) _ _ w _ hl
        ·
          refine lv_aload_n hx hb dX4_passTicks_32 rfl (lv_at hl 2 rfl) ?_
          refine lv_dup hx hb dX4_passTicks_33 rfl ?_
          refine x_get (v := .int ((tcG (tksG G i)) 7 7)) (T := TX4) C w 0 15 rfl rfl (fun _ h => List.mem_cons_of_mem _ (List.mem_append_left _ (List.mem_append_right _ (h)))) (List.mem_of_getElem? (i := 4) rfl) (by decide) rfl dX4_passTicks_34 ?_
          refine lv_iconst (v := 1) hx hb dX4_passTicks_37 (by decide +kernel) ?_
          refine lv_iadd (x := (tcG (tksG G i)) 7 7) (y := 1) hx hb dX4_passTicks_38 ?_
          refine x_put (v := .int (((tcG (tksG G i)) 7 7) + 1)) (ty := .int) (T := TX4) (ws2 := sW cI o (s2 (tkG (tcG (tksG G i))) 7 7 (((tcG (tksG G i)) 7 7) + 1))) C w 0 15 rfl rfl (fun _ h => List.mem_cons_of_mem _ (List.mem_append_left _ (List.mem_append_right _ (h)))) tyX4 tyX4_ok nmX4 (List.mem_of_getElem? (i := 4) rfl) (by decide) (Nat.le_of_ble_eq_true rfl) rfl (by decide +kernel) rfl rfl rfl dX4_passTicks_39 (fun H locs w => ?_)
          have w : xW D A s.heap (sW cI o (tk0 (tksG G i))) _ _ := x_ws (congrArg (sW cI o) (by show _ = tk0 _; unfold tk0; rw [if_pos c29_2] <;> rfl)) w
          refine lv_aload_n hx hb dX4_passTicks_42 rfl (lv_at hl 2 rfl) ?_
          refine lv_aload_n hx hb dX4_passTicks_43 rfl (lv_at hl 2 rfl) ?_
          refine x_callVi (wr := []) (w2 := sW cI o (tk0 (tksG G i))) (rest := [.ref (o 0)]) (n := 0) C w hl [] (k_X4_tooMany l D cI cS tys ht0 o (tk0 (tksG G i)) ) gX4_passTicks_X4_tooMany rfl (by decide +kernel) ⟨Nat.le_of_ble_eq_true rfl, Nat.le_of_ble_eq_true rfl⟩ 0 4 rfl rfl rfl rfl (Nat.le_of_ble_eq_true rfl) [0, 1, 2, 3, 4, 5, 6, 7] [] (by decide) rfl rfl (by decide) (by decide) [0, 1, 2, 3, 4, 5, 6, 7] (by decide) rfl ⟨Nat.zero_le _, Nat.zero_le _⟩ dX4_passTicks_44 (fun H locs w => ?_)
          refine x_callVi (wr := []) (w2 := sW cI o (flsG (tk0 (tksG G i)) (ix (tooI (tk0 (tksG G i)))))) (rest := []) (n := 1) C w hl [.int (tooI (tk0 (tksG G i)))] (k_X4_flushLowest l D cI cS tys ht0 o (tk0 (tksG G i)) (tooI (tk0 (tksG G i))) ) gX4_passTicks_X4_flushLowest rfl (by decide +kernel) ⟨Nat.le_of_ble_eq_true rfl, Nat.le_of_ble_eq_true rfl⟩ 0 4 rfl rfl rfl rfl (Nat.le_of_ble_eq_true rfl) [0, 1, 2, 3, 4, 5, 6, 7] [] (by decide) rfl rfl (by decide) (by decide) [0, 1, 2, 3, 4, 5, 6, 7] (by decide) rfl ⟨Nat.zero_le _, Nat.zero_le _⟩ dX4_passTicks_47 (fun H locs w => ?_)
          refine lv_pop hx hb dX4_passTicks_50 rfl ?_
          refine lv_iinc (v := nI (i + 1)) (lv' := [(3, .int (nI (i + 1))), (2, .int (G 7 3)), (0, .ref (o 0)), (1, .int x)]) hx hb dX4_passTicks_51 hl (k := 0) rfl (nI_add i 1) (by decide) rfl (fun ls hl => ?_)
          refine lv_goto (tgt := 7) hx hb dX4_passTicks_54 (by decide) ?_
          have hl : lv_has ls 4 [(3, .int (nI (i + 1))), (2, .int (G 7 3)), (0, .ref (o 0)), (1, .int x)] := lv_eqL (lv_sub (l' := [(3, .int (nI (i + 1))), (2, .int (G 7 3)), (0, .ref (o 0)), (1, .int x)]) hl [0, 1, 2, 3] rfl) (cg2 List.cons rfl (cg2 List.cons rfl (cg2 List.cons rfl (cg2 List.cons rfl rfl))))
          have w : xW D A s.heap (sW cI o (tksG G (i + 1))) _ _ := x_ws (congrArg (sW cI o) (by first | rfl | contradiction | (simp [c9_1, c29_2]; done))) w
          exact ih (i + 1) (by omega) (by omega) _ _ w _ hl
  have q3 : 0 = (nI 0 : Int32) := (by first | rfl | contradiction | (simp []; done))
  have hl : lv_has ls 4 [(3, .int (nI 0)), (2, .int (G 7 3)), (0, .ref (o 0)), (1, .int x)] := lv_eqL (lv_sub (l' := [(3, .int 0), (2, .int (G 7 3)), (0, .ref (o 0)), (1, .int x)]) hl [0, 1, 2, 3] rfl) (cg2 List.cons (congrArg (fun z => ((3 : Nat), Value.int z)) q3) (cg2 List.cons rfl (cg2 List.cons rfl (cg2 List.cons rfl rfl))))
  have w : xW D A s.heap (sW cI o (tksG G 0)) _ _ := x_ws (congrArg (sW cI o) (by first | rfl | contradiction | (simp []; done))) w
  exact loop_7 (ix x + 1) 0 (by omega) (Nat.zero_le _) _ _ w _ hl
set_option maxHeartbeats 1000000 in
set_option maxRecDepth 100000 in
theorem k_X4_putLoad (l : Launch) (D : va_G) (cI cS : ClassId) (tys : List (ClassId × FieldType)) (ht0 : tys[0]? = some (cI, .int)) (o : Nat → Nat) (G : St) (x : Int32)  : xI l yX4_putLoad wsX4_putLoad 4 D tys [.ref (o 0), .int x] (sW cI o G) (tooI (useG G x)) (sW cI o (loaG G x)) := by
  refine x_inI (cc := cX4_putLoad) (maxL := 2) (ret := (some .int)) (by decide) rfl (Nat.le_of_ble_eq_true rfl) ?_
  intro p e s m args below meth c A ls C w hl
  have C : xC p s m meth c args cX4_putLoad 2 wsX4_putLoad RX4 D tys (some .int) := C
  have hx := C.1.1
  have hb := C.1.2.1
  have hts := C.1.2.2.2.2
  have hown := C.1.2.2.2.1
  have w : xW D A s.heap (sW cI o G) s.heap [] := w
  have hl : lv_has ls 2 [(0, .ref (o 0)), (1, .int x)] := hl
  refine lv_aload_n hx hb dX4_putLoad_0 rfl (lv_at hl 0 rfl) ?_
  refine x_get (v := .ref (o 1)) (T := TX4) C w 0 0 rfl rfl (fun _ h => List.mem_cons_of_mem _ (List.mem_append_left _ (List.mem_append_right _ (h)))) (List.mem_of_getElem? (i := 1) rfl) (by decide) rfl dX4_putLoad_1 ?_
  refine lv_iload_n hx hb dX4_putLoad_4 rfl (lv_at hl 1 rfl) ?_
  refine x_callVv (wr := [(o 0, .inr (4, [.ref (o 1), .ref (o 2), .ref (o 3), .ref (o 4), .ref (o 5), .ref (o 6), .ref (o 7), .int (G 9 0), .int (G 7 0), .int (G 7 1), .int (G 7 2), .int (G 7 3), .int (G 7 4), .int (G 7 5), .int (G 7 6), .int (G 7 7), .int (G 7 8)])), (o 2, .inl (cI, 64, .inl (G 0))), (o 3, .inl (cI, 64, .inl (G 1))), (o 4, .inl (cI, 8, .inl (G 2))), (o 5, .inl (cI, 8, .inl (G 3))), (o 6, .inl (cI, 8, .inl (G 4))), (o 7, .inl (cI, 8, .inl (G 5)))]) (w2 := sW cI o (useG G x)) (rest := []) (n := 1) C w hl [.int x] (k_X0_useUp l D cI cS tys ht0 (o 1) G x ) gX4_putLoad_X0_useUp rfl (by decide +kernel) ⟨Nat.le_of_ble_eq_true rfl, Nat.le_of_ble_eq_true rfl⟩ 0 0 rfl rfl rfl rfl (Nat.le_of_ble_eq_true rfl) [1] [0, 2, 3, 4, 5, 6, 7] (by decide) rfl rfl (by decide) (by decide) [0, 7, 1, 2, 3, 4, 5, 6] (by decide) rfl ⟨Nat.zero_le _, Nat.zero_le _⟩ dX4_putLoad_5 (fun H locs w => ?_)
  refine lv_aload_n hx hb dX4_putLoad_8 rfl (lv_at hl 0 rfl) ?_
  refine lv_aload_n hx hb dX4_putLoad_9 rfl (lv_at hl 0 rfl) ?_
  refine x_callVi (wr := []) (w2 := sW cI o (useG G x)) (rest := [.ref (o 0)]) (n := 0) C w hl [] (k_X4_tooMany l D cI cS tys ht0 o (useG G x) ) gX4_putLoad_X4_tooMany rfl (by decide +kernel) ⟨Nat.le_of_ble_eq_true rfl, Nat.le_of_ble_eq_true rfl⟩ 0 4 rfl rfl rfl rfl (Nat.le_of_ble_eq_true rfl) [0, 1, 2, 3, 4, 5, 6, 7] [] (by decide) rfl rfl (by decide) (by decide) [0, 1, 2, 3, 4, 5, 6, 7] (by decide) rfl ⟨Nat.zero_le _, Nat.zero_le _⟩ dX4_putLoad_10 (fun H locs w => ?_)
  refine x_callVi (wr := []) (w2 := sW cI o (flsG (useG G x) (ix (tooI (useG G x))))) (rest := []) (n := 1) C w hl [.int (tooI (useG G x))] (k_X4_flushLowest l D cI cS tys ht0 o (useG G x) (tooI (useG G x)) ) gX4_putLoad_X4_flushLowest rfl (by decide +kernel) ⟨Nat.le_of_ble_eq_true rfl, Nat.le_of_ble_eq_true rfl⟩ 0 4 rfl rfl rfl rfl (Nat.le_of_ble_eq_true rfl) [0, 1, 2, 3, 4, 5, 6, 7] [] (by decide) rfl rfl (by decide) (by decide) [0, 1, 2, 3, 4, 5, 6, 7] (by decide) rfl ⟨Nat.zero_le _, Nat.zero_le _⟩ dX4_putLoad_13 (fun H locs w => ?_)
  exact x_iret C w rfl (congrArg (sW cI o) (by first | rfl | contradiction | (simp []; done))) dX4_putLoad_16
set_option maxHeartbeats 1000000 in
set_option maxRecDepth 100000 in
theorem k_X4_beginCycle (l : Launch) (D : va_G) (cI cS : ClassId) (tys : List (ClassId × FieldType)) (ht0 : tys[0]? = some (cI, .int)) (o : Nat → Nat) (G : St)  : xI l yX4_beginCycle wsX4_beginCycle 4 D tys [.ref (o 0)] (sW cI o G) (tooI (s2 G 6 2 1)) (sW cI o (bgcG G)) := by
  refine x_inI (cc := cX4_beginCycle) (maxL := 1) (ret := (some .int)) (by decide) rfl (Nat.le_of_ble_eq_true rfl) ?_
  intro p e s m args below meth c A ls C w hl
  have C : xC p s m meth c args cX4_beginCycle 1 wsX4_beginCycle RX4 D tys (some .int) := C
  have hx := C.1.1
  have hb := C.1.2.1
  have hts := C.1.2.2.2.2
  have hown := C.1.2.2.2.1
  have w : xW D A s.heap (sW cI o G) s.heap [] := w
  have hl : lv_has ls 1 [(0, .ref (o 0))] := hl
  refine lv_aload_n hx hb dX4_beginCycle_0 rfl (lv_at hl 0 rfl) ?_
  refine x_get (v := .ref (o 1)) (T := TX4) C w 0 0 rfl rfl (fun _ h => List.mem_cons_of_mem _ (List.mem_append_left _ (List.mem_append_right _ (h)))) (List.mem_of_getElem? (i := 1) rfl) (by decide) rfl dX4_beginCycle_1 ?_
  refine lv_iconst (v := 1) hx hb dX4_beginCycle_4 (by decide +kernel) ?_
  refine x_put (v := .int 1) (ty := .int) (T := TX0) (ws2 := sW cI o (s2 G 6 2 1)) C w 1 2 rfl rfl (fun _ h => List.mem_cons_of_mem _ (List.mem_append_right _ (h))) tyX0 tyX0_ok nmX0 (List.mem_of_getElem? (i := 2) rfl) (by decide) (Nat.le_of_ble_eq_true rfl) rfl (by decide +kernel) rfl rfl rfl dX4_beginCycle_5 (fun H locs w => ?_)
  refine lv_aload_n hx hb dX4_beginCycle_8 rfl (lv_at hl 0 rfl) ?_
  refine lv_aload_n hx hb dX4_beginCycle_9 rfl (lv_at hl 0 rfl) ?_
  refine x_callVi (wr := []) (w2 := sW cI o (s2 G 6 2 1)) (rest := [.ref (o 0)]) (n := 0) C w hl [] (k_X4_tooMany l D cI cS tys ht0 o (s2 G 6 2 1) ) gX4_beginCycle_X4_tooMany rfl (by decide +kernel) ⟨Nat.le_of_ble_eq_true rfl, Nat.le_of_ble_eq_true rfl⟩ 0 4 rfl rfl rfl rfl (Nat.le_of_ble_eq_true rfl) [0, 1, 2, 3, 4, 5, 6, 7] [] (by decide) rfl rfl (by decide) (by decide) [0, 1, 2, 3, 4, 5, 6, 7] (by decide) rfl ⟨Nat.zero_le _, Nat.zero_le _⟩ dX4_beginCycle_10 (fun H locs w => ?_)
  refine x_callVi (wr := []) (w2 := sW cI o (flsG (s2 G 6 2 1) (ix (tooI (s2 G 6 2 1))))) (rest := []) (n := 1) C w hl [.int (tooI (s2 G 6 2 1))] (k_X4_flushLowest l D cI cS tys ht0 o (s2 G 6 2 1) (tooI (s2 G 6 2 1)) ) gX4_beginCycle_X4_flushLowest rfl (by decide +kernel) ⟨Nat.le_of_ble_eq_true rfl, Nat.le_of_ble_eq_true rfl⟩ 0 4 rfl rfl rfl rfl (Nat.le_of_ble_eq_true rfl) [0, 1, 2, 3, 4, 5, 6, 7] [] (by decide) rfl rfl (by decide) (by decide) [0, 1, 2, 3, 4, 5, 6, 7] (by decide) rfl ⟨Nat.zero_le _, Nat.zero_le _⟩ dX4_beginCycle_13 (fun H locs w => ?_)
  exact x_iret C w rfl (congrArg (sW cI o) (by first | rfl | contradiction | (simp []; done))) dX4_beginCycle_16
set_option maxHeartbeats 1000000 in
set_option maxRecDepth 100000 in
theorem k_X4_cutPower (l : Launch) (D : va_G) (cI cS : ClassId) (tys : List (ClassId × FieldType)) (ht0 : tys[0]? = some (cI, .int)) (o : Nat → Nat) (G : St)  : xI l yX4_cutPower wsX4_cutPower 4 D tys [.ref (o 0)] (sW cI o G) (cutI G) (sW cI o (cutG G)) := by
  refine x_inI (cc := cX4_cutPower) (maxL := 4) (ret := (some .int)) (by decide) rfl (Nat.le_of_ble_eq_true rfl) ?_
  intro p e s m args below meth c A ls C w hl
  have C : xC p s m meth c args cX4_cutPower 4 wsX4_cutPower RX4 D tys (some .int) := C
  have hx := C.1.1
  have hb := C.1.2.1
  have hts := C.1.2.2.2.2
  have hown := C.1.2.2.2.1
  have w : xW D A s.heap (sW cI o G) s.heap [] := w
  have hl : lv_has ls 4 [(0, .ref (o 0))] := hl
  refine lv_aload_n hx hb dX4_cutPower_0 rfl (lv_at hl 0 rfl) ?_
  refine x_callVi (wr := []) (w2 := sW cI o G) (rest := []) (n := 0) C w hl [] (k_X4_savedByCut l D cI cS tys ht0 o G ) gX4_cutPower_X4_savedByCut rfl (by decide +kernel) ⟨Nat.le_of_ble_eq_true rfl, Nat.le_of_ble_eq_true rfl⟩ 0 4 rfl rfl rfl rfl (Nat.le_of_ble_eq_true rfl) [0, 1, 2, 3, 4, 5, 6, 7] [] (by decide) rfl rfl (by decide) (by decide) [0, 1, 2, 3, 4, 5, 6, 7] (by decide) rfl ⟨Nat.zero_le _, Nat.zero_le _⟩ dX4_cutPower_1 (fun H locs w => ?_)
  refine lv_istore_n (lv' := [(1, .int (sbcI G)), (0, .ref (o 0))]) hx hb dX4_cutPower_4 rfl hl (by decide) rfl (fun ls hl => ?_)
  refine lv_aload_n hx hb dX4_cutPower_5 rfl (lv_at hl 1 rfl) ?_
  refine lv_iload_n hx hb dX4_cutPower_6 rfl (lv_at hl 0 rfl) ?_
  refine x_callVi (wr := []) (w2 := sW cI o (flsG G (ix (sbcI G)))) (rest := []) (n := 1) C w hl [.int (sbcI G)] (k_X4_flushLowest l D cI cS tys ht0 o G (sbcI G) ) gX4_cutPower_X4_flushLowest rfl (by decide +kernel) ⟨Nat.le_of_ble_eq_true rfl, Nat.le_of_ble_eq_true rfl⟩ 0 4 rfl rfl rfl rfl (Nat.le_of_ble_eq_true rfl) [0, 1, 2, 3, 4, 5, 6, 7] [] (by decide) rfl rfl (by decide) (by decide) [0, 1, 2, 3, 4, 5, 6, 7] (by decide) rfl ⟨Nat.zero_le _, Nat.zero_le _⟩ dX4_cutPower_7 (fun H locs w => ?_)
  refine lv_pop hx hb dX4_cutPower_10 rfl ?_
  refine lv_aload_n hx hb dX4_cutPower_11 rfl (lv_at hl 1 rfl) ?_
  refine x_get (v := .ref (o 1)) (T := TX4) C w 0 0 rfl rfl (fun _ h => List.mem_cons_of_mem _ (List.mem_append_left _ (List.mem_append_right _ (h)))) (List.mem_of_getElem? (i := 1) rfl) (by decide) rfl dX4_cutPower_12 ?_
  refine lv_iload_n hx hb dX4_cutPower_15 rfl (lv_at hl 0 rfl) ?_
  refine x_callVv (wr := [(o 0, .inr (4, [.ref (o 1), .ref (o 2), .ref (o 3), .ref (o 4), .ref (o 5), .ref (o 6), .ref (o 7), .int ((flsG G (ix (sbcI G))) 9 0), .int ((flsG G (ix (sbcI G))) 7 0), .int ((flsG G (ix (sbcI G))) 7 1), .int ((flsG G (ix (sbcI G))) 7 2), .int ((flsG G (ix (sbcI G))) 7 3), .int ((flsG G (ix (sbcI G))) 7 4), .int ((flsG G (ix (sbcI G))) 7 5), .int ((flsG G (ix (sbcI G))) 7 6), .int ((flsG G (ix (sbcI G))) 7 7), .int ((flsG G (ix (sbcI G))) 7 8)])), (o 2, .inl (cI, 64, .inl ((flsG G (ix (sbcI G))) 0))), (o 3, .inl (cI, 64, .inl ((flsG G (ix (sbcI G))) 1))), (o 4, .inl (cI, 8, .inl ((flsG G (ix (sbcI G))) 2))), (o 5, .inl (cI, 8, .inl ((flsG G (ix (sbcI G))) 3))), (o 6, .inl (cI, 8, .inl ((flsG G (ix (sbcI G))) 4))), (o 7, .inl (cI, 8, .inl ((flsG G (ix (sbcI G))) 5)))]) (w2 := sW cI o (sacG (flsG G (ix (sbcI G))) (sbcI G))) (rest := []) (n := 1) C w hl [.int (sbcI G)] (k_X0_saveAtCut l D cI cS tys ht0 (o 1) (flsG G (ix (sbcI G))) (sbcI G) ) gX4_cutPower_X0_saveAtCut rfl (by decide +kernel) ⟨Nat.le_of_ble_eq_true rfl, Nat.le_of_ble_eq_true rfl⟩ 0 0 rfl rfl rfl rfl (Nat.le_of_ble_eq_true rfl) [1] [0, 2, 3, 4, 5, 6, 7] (by decide) rfl rfl (by decide) (by decide) [0, 7, 1, 2, 3, 4, 5, 6] (by decide) rfl ⟨Nat.zero_le _, Nat.zero_le _⟩ dX4_cutPower_16 (fun H locs w => ?_)
  have w : xW D A s.heap (sW cI o (ct1 G)) _ _ := w
  refine lv_aload_n hx hb dX4_cutPower_19 rfl (lv_at hl 1 rfl) ?_
  refine lv_iconst (v := 2) hx hb dX4_cutPower_20 (by decide +kernel) ?_
  refine x_callVi (wr := []) (w2 := sW cI o (ct1 G)) (rest := []) (n := 1) C w hl [.int 2] (k_X4_numberOf l D cI cS tys ht0 o (ct1 G) 2 ) gX4_cutPower_X4_numberOf rfl (by decide +kernel) ⟨Nat.le_of_ble_eq_true rfl, Nat.le_of_ble_eq_true rfl⟩ 0 4 rfl rfl rfl rfl (Nat.le_of_ble_eq_true rfl) [0, 1, 2, 3, 4, 5, 6, 7] [] (by decide) rfl rfl (by decide) (by decide) [0, 1, 2, 3, 4, 5, 6, 7] (by decide) rfl ⟨Nat.zero_le _, Nat.zero_le _⟩ dX4_cutPower_21 (fun H locs w => ?_)
  refine lv_istore_n (lv' := [(2, .int (nofI (ct1 G) 2)), (1, .int (sbcI G)), (0, .ref (o 0))]) hx hb dX4_cutPower_24 rfl hl (by decide) rfl (fun ls hl => ?_)
  refine lv_iconst (v := 0) hx hb dX4_cutPower_25 (by decide +kernel) ?_
  refine lv_istore_n (lv' := [(3, .int 0), (2, .int (nofI (ct1 G) 2)), (1, .int (sbcI G)), (0, .ref (o 0))]) hx hb dX4_cutPower_26 rfl hl (by decide) rfl (fun ls hl => ?_)
  have loop_27 : ∀ (n : Nat) (i : Nat), 8 - i < n → i ≤ 8 → ∀ (H : Heap) (locs : List Loc), xW D A s.heap (sW cI o (empG (ct1 G) i)) H locs → ∀ ls : Array Slot, lv_has ls 4 [(3, .int (nI i)), (2, .int (nofI (ct1 G) 2)), (1, .int (sbcI G)), (0, .ref (o 0))] → W p l e (rmd 4) s m args below meth c H locs 0 0 (MQ below (xQi D tys (cutI G) (sW cI o (cutG G)) A) args s 0 0 A) (F0 m 27 ls []) := by
    intro n
    induction n with
    | zero => intro i hm; exact absurd hm (Nat.not_lt_zero _)
    | succ n ih =>
      intro i hm hi H locs w ls hl
      refine lv_iload_n hx hb dX4_cutPower_27 rfl (lv_at hl 0 rfl) ?_
      refine lv_bipush (v := 8) hx hb dX4_cutPower_28 (by decide +kernel) ?_
      refine x_icN_ge (i := i) (j := 8) (tgt := 46) hx hb (by omega) (by omega) dX4_cutPower_30 (by decide) (fun c30_1 => ?_) (fun c30_1 => ?_)
      ·
        have hE : i = 8 := (by omega)
        refine lv_aload_n hx hb dX4_cutPower_46 rfl (lv_at hl 3 rfl) ?_
        refine lv_dup hx hb dX4_cutPower_47 rfl ?_
        refine x_get (v := .int ((empG (ct1 G) i) 7 5)) (T := TX4) C w 0 13 rfl rfl (fun _ h => List.mem_cons_of_mem _ (List.mem_append_left _ (List.mem_append_right _ (h)))) (List.mem_of_getElem? (i := 3) rfl) (by decide) rfl dX4_cutPower_48 ?_
        refine lv_iload_n hx hb dX4_cutPower_51 rfl (lv_at hl 1 rfl) ?_
        refine lv_iadd (x := (empG (ct1 G) i) 7 5) (y := nofI (ct1 G) 2) hx hb dX4_cutPower_52 ?_
        refine x_put (v := .int (((empG (ct1 G) i) 7 5) + (nofI (ct1 G) 2))) (ty := .int) (T := TX4) (ws2 := sW cI o (s2 (empG (ct1 G) i) 7 5 (((empG (ct1 G) i) 7 5) + (nofI (ct1 G) 2)))) C w 0 13 rfl rfl (fun _ h => List.mem_cons_of_mem _ (List.mem_append_left _ (List.mem_append_right _ (h)))) tyX4 tyX4_ok nmX4 (List.mem_of_getElem? (i := 3) rfl) (by decide) (Nat.le_of_ble_eq_true rfl) rfl (by decide +kernel) rfl rfl rfl dX4_cutPower_53 (fun H locs w => ?_)
        refine lv_aload_n hx hb dX4_cutPower_56 rfl (lv_at hl 3 rfl) ?_
        refine lv_dup hx hb dX4_cutPower_57 rfl ?_
        refine x_get (v := .int ((empG (ct1 G) i) 7 6)) (T := TX4) C w 0 14 rfl rfl (fun _ h => List.mem_cons_of_mem _ (List.mem_append_left _ (List.mem_append_right _ (h)))) (List.mem_of_getElem? (i := 4) rfl) (by decide) rfl dX4_cutPower_58 ?_
        refine lv_iconst (v := 1) hx hb dX4_cutPower_61 (by decide +kernel) ?_
        refine lv_iadd (x := (empG (ct1 G) i) 7 6) (y := 1) hx hb dX4_cutPower_62 ?_
        refine x_put (v := .int (((empG (ct1 G) i) 7 6) + 1)) (ty := .int) (T := TX4) (ws2 := sW cI o (s2 (s2 (empG (ct1 G) i) 7 5 (((empG (ct1 G) i) 7 5) + (nofI (ct1 G) 2))) 7 6 (((empG (ct1 G) i) 7 6) + 1))) C w 0 14 rfl rfl (fun _ h => List.mem_cons_of_mem _ (List.mem_append_left _ (List.mem_append_right _ (h)))) tyX4 tyX4_ok nmX4 (List.mem_of_getElem? (i := 4) rfl) (by decide) (Nat.le_of_ble_eq_true rfl) rfl (by decide +kernel) rfl rfl rfl dX4_cutPower_63 (fun H locs w => ?_)
        refine lv_iload_n hx hb dX4_cutPower_66 rfl (lv_at hl 1 rfl) ?_
        exact x_iret C w (by first | (rw [hE]; done) | (rw [hE]; rfl) | contradiction | (simp [c30_1, hE]; done) | rfl) (congrArg (sW cI o) (by first | (rw [hE]; done) | (rw [hE]; rfl) | contradiction | (simp [c30_1, hE]; done) | rfl)) dX4_cutPower_67
      ·
        refine lv_aload_n hx hb dX4_cutPower_33 rfl (lv_at hl 3 rfl) ?_
        refine x_get (v := .ref (o 4)) (T := TX4) C w 0 3 rfl rfl (fun _ h => List.mem_cons_of_mem _ (List.mem_append_left _ (List.mem_append_right _ (h)))) (List.mem_of_getElem? (i := 2) rfl) (by decide) rfl dX4_cutPower_34 ?_
        refine lv_iload_n hx hb dX4_cutPower_37 rfl (lv_at hl 0 rfl) ?_
        refine lv_iconst (v := 0) hx hb dX4_cutPower_38 (by decide +kernel) ?_
        refine x_iast (ws2 := sW cI o (s2 (empG (ct1 G) i) 2 i 0)) C w 4 0 (i) rfl ht0 rfl (by omega) (by decide) rfl dX4_cutPower_39 (fun H locs w => ?_)
        refine lv_iinc (v := nI (i + 1)) (lv' := [(3, .int (nI (i + 1))), (2, .int (nofI (ct1 G) 2)), (1, .int (sbcI G)), (0, .ref (o 0))]) hx hb dX4_cutPower_40 hl (k := 0) rfl (nI_add i 1) (by decide) rfl (fun ls hl => ?_)
        refine lv_goto (tgt := 27) hx hb dX4_cutPower_43 (by decide) ?_
        have hl : lv_has ls 4 [(3, .int (nI (i + 1))), (2, .int (nofI (ct1 G) 2)), (1, .int (sbcI G)), (0, .ref (o 0))] := lv_eqL (lv_sub (l' := [(3, .int (nI (i + 1))), (2, .int (nofI (ct1 G) 2)), (1, .int (sbcI G)), (0, .ref (o 0))]) hl [0, 1, 2, 3] rfl) (cg2 List.cons rfl (cg2 List.cons rfl (cg2 List.cons rfl (cg2 List.cons rfl rfl))))
        have w : xW D A s.heap (sW cI o (empG (ct1 G) (i + 1))) _ _ := x_ws (congrArg (sW cI o) (by first | rfl | contradiction | (simp [c30_1]; done))) w
        exact ih (i + 1) (by omega) (by omega) _ _ w _ hl
  have q2 : 0 = (nI 0 : Int32) := (by first | rfl | contradiction | (simp []; done))
  have hl : lv_has ls 4 [(3, .int (nI 0)), (2, .int (nofI (ct1 G) 2)), (1, .int (sbcI G)), (0, .ref (o 0))] := lv_eqL (lv_sub (l' := [(3, .int 0), (2, .int (nofI (ct1 G) 2)), (1, .int (sbcI G)), (0, .ref (o 0))]) hl [0, 1, 2, 3] rfl) (cg2 List.cons (congrArg (fun z => ((3 : Nat), Value.int z)) q2) (cg2 List.cons rfl (cg2 List.cons rfl (cg2 List.cons rfl rfl))))
  have w : xW D A s.heap (sW cI o (empG (ct1 G) 0)) _ _ := x_ws (congrArg (sW cI o) (by first | rfl | contradiction | (simp []; done))) w
  exact loop_27 (9) 0 (by omega) (by omega) _ _ w _ hl
