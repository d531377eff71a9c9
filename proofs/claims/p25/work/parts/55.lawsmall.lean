/-! ===== the law's small methods ===== -/
theorem kpN_le (k : Nat) (hk : k ≤ 4) : kpN k ≤ 4 := by
  unfold kpN
  by_cases q : k = 4
  · rw [if_pos q]; exact Nat.le_refl _
  · rw [if_neg q]; omega
/-- the script's numbers, and others behind its end -/
def celI (L : Nat) (xs : Nat → Int32) (k : Nat) : Int32 := if k < L then xs k else 1103515245 * (nI k + 929)
set_option maxHeartbeats 1000000 in
theorem k_L_cell (l : Launch) (D : va_G) (cI cS : ClassId) (tys : List (ClassId × FieldType)) (ht0 : tys[0]? = some (cI, .int)) (b9 L9 : Nat) (xs : Nat → Int32) (hL9 : L9 ≤ 260) (k9 : Nat) (hk9 : k9 < 1000) : xIT b9 L9 xs l yL_cell wsL_cell 0 D tys [.ref b9, .int (nI k9)] (celI L9 xs k9) := by
  refine x_inIT (cc := cL_cell) (maxL := 2) (ret := (some .int)) (by decide) rfl (Nat.le_of_ble_eq_true rfl) ?_
  intro p e s m args below meth c A ls C w hl hT
  have C : xC p s m meth c args cL_cell 2 wsL_cell RL D tys (some .int) := C
  have hx := C.1.1
  have hb := C.1.2.1
  have hts := C.1.2.2.2.2
  have hown := C.1.2.2.2.1
  have hl : lv_has ls 2 [(0, .ref b9), (1, .int (nI k9))] := hl
  refine lv_iload_n hx hb dL_cell_0 rfl (lv_at hl 1 rfl) ?_
  refine lv_aload_n hx hb dL_cell_1 rfl (lv_at hl 0 rfl) ?_
  refine va_tlen (v := nI L9) hx hb hT w.2.2.1 rfl dL_cell_2 ?_
  refine x_icN_ge (i := k9) (j := L9) (tgt := 12) hx hb (by omega) (by omega) dL_cell_3 (by decide) (fun c3 => ?_) (fun c3 => ?_)
  · refine lv_ldc (v := 1103515245) hx hb hown (hts _ (List.mem_of_getElem? (i := 1) rfl)) dL_cell_12 ?_
    refine lv_iload_n hx hb dL_cell_14 rfl (lv_at hl 1 rfl) ?_
    refine lv_sipush (v := 929) hx hb dL_cell_15 (by decide +kernel) ?_
    refine lv_iadd (x := nI k9) (y := 929) hx hb dL_cell_18 ?_
    refine lv_imul (x := 1103515245) (y := nI k9 + 929) hx hb dL_cell_19 ?_
    exact x_iret C w (by unfold celI; rw [if_neg (by omega)]) rfl dL_cell_20
  · refine lv_aload_n hx hb dL_cell_6 rfl (lv_at hl 0 rfl) ?_
    refine lv_iload_n hx hb dL_cell_7 rfl (lv_at hl 1 rfl) ?_
    refine va_ti hx hb hT w.2.2.1 (vp_in_nI (by omega) (by omega)) (v := .int (xs k9)) (by rw [nI_clamp (by omega)]) dL_cell_8 ?_
    refine lv_goto (tgt := 20) hx hb dL_cell_9 (by decide) ?_
    exact x_iret C w (by unfold celI; rw [if_pos (by omega)]) rfl dL_cell_20
set_option maxHeartbeats 1000000 in
set_option maxRecDepth 100000 in
theorem k_L_up (l : Launch) (D : va_G) (cI cS : ClassId) (tys : List (ClassId × FieldType)) (ht0 : tys[0]? = some (cI, .int)) (v1 : Int32) (n1 : Int32) (hn1 : ¬ n1 = 0) : xI l yL_up wsL_up 0 D tys [.int v1, .int n1] (([] : va_W)) (upI v1 n1) (([] : va_W)) := by
  refine x_inI (cc := cL_up) (maxL := 2) (ret := (some .int)) (by decide) rfl (Nat.le_of_ble_eq_true rfl) ?_
  intro p e s m args below meth c A ls C w hl
  have C : xC p s m meth c args cL_up 2 wsL_up RL D tys (some .int) := C
  have hx := C.1.1
  have hb := C.1.2.1
  have hts := C.1.2.2.2.2
  have hown := C.1.2.2.2.1
  have w : xW D A s.heap (([] : va_W)) s.heap [] := w
  have hl : lv_has ls 2 [(0, .int v1), (1, .int n1)] := hl
  refine lv_iload_n hx hb dL_up_0 rfl (lv_at hl 0 rfl) ?_
  refine lv_ldc (v := 2147483647) hx hb hown (hts _ (List.mem_of_getElem? (i := 1) rfl)) dL_up_1 ?_
  refine lv_iand (x := v1) (y := 2147483647) hx hb dL_up_3 ?_
  refine lv_iload_n hx hb dL_up_4 rfl (lv_at hl 1 rfl) ?_
  refine lv_irem (x := (v1 &&& 2147483647)) (y := n1) hx hb dL_up_5 hn1 ?_
  exact x_iret C w (by first | rfl | contradiction | (simp []; done)) rfl dL_up_6
set_option maxHeartbeats 1000000 in
set_option maxRecDepth 100000 in
theorem k_L_bits (l : Launch) (D : va_G) (cI cS : ClassId) (tys : List (ClassId × FieldType)) (ht0 : tys[0]? = some (cI, .int)) (x1 : Int32)  : xI l yL_bits wsL_bits 0 D tys [.int x1] (([] : va_W)) (bitF x1 8) (([] : va_W)) := by
  refine x_inI (cc := cL_bits) (maxL := 3) (ret := (some .int)) (by decide) rfl (Nat.le_of_ble_eq_true rfl) ?_
  intro p e s m args below meth c A ls C w hl
  have C : xC p s m meth c args cL_bits 3 wsL_bits RL D tys (some .int) := C
  have hx := C.1.1
  have hb := C.1.2.1
  have hts := C.1.2.2.2.2
  have hown := C.1.2.2.2.1
  have w : xW D A s.heap (([] : va_W)) s.heap [] := w
  have hl : lv_has ls 3 [(0, .int x1)] := hl
  refine lv_iconst (v := 0) hx hb dL_bits_0 (by decide +kernel) ?_
  refine lv_istore_n (lv' := [(1, .int 0), (0, .int x1)]) hx hb dL_bits_1 rfl hl (by decide) rfl (fun ls hl => ?_)
  refine lv_iconst (v := 0) hx hb dL_bits_2 (by decide +kernel) ?_
  refine lv_istore_n (lv' := [(2, .int 0), (1, .int 0), (0, .int x1)]) hx hb dL_bits_3 rfl hl (by decide) rfl (fun ls hl => ?_)
  have loop_4 : ∀ (n : Nat) (i : Nat), 8 - i < n → (i ≤ 8) → ∀ (H : Heap) (locs : List Loc), xW D A s.heap (([] : va_W)) H locs → ∀ ls : Array Slot, lv_has ls 3 [(2, .int (nI i)), (1, .int (bitF x1 i)), (0, .int x1)] → W p l e (rmd 0) s m args below meth c H locs 0 0 (MQ below (xQi D tys (bitF x1 8) (([] : va_W)) A) args s 0 0 A) (F0 m 4 ls []) := by
    intro n
    induction n with
    | zero => intro i hm; exact absurd hm (Nat.not_lt_zero _)
    | succ n ih =>
      intro i hm hi H locs w ls hl
      refine lv_iload_n hx hb dL_bits_4 rfl (lv_at hl 0 rfl) ?_
      refine lv_bipush (v := 8) hx hb dL_bits_5 (by decide +kernel) ?_
      refine x_icN_ge (i := i) (j := 8) (tgt := 24) hx hb (by omega) (by omega) dL_bits_7 (by decide) (fun c7_1 => ?_) (fun c7_1 => ?_)
      ·
        have hE : i = 8 := (by omega)
        refine lv_iload_n hx hb dL_bits_24 rfl (lv_at hl 1 rfl) ?_
        exact x_iret C w (by first | (rw [hE]; done) | (rw [hE]; rfl) | contradiction | (simp [c7_1, hE]; done) | rfl) rfl dL_bits_25
      ·
        refine lv_iload_n hx hb dL_bits_10 rfl (lv_at hl 1 rfl) ?_
        refine lv_iload_n hx hb dL_bits_11 rfl (lv_at hl 2 rfl) ?_
        refine lv_iload_n hx hb dL_bits_12 rfl (lv_at hl 0 rfl) ?_
        refine lv_ishr (x := x1) (y := nI i) hx hb dL_bits_13 ?_
        refine lv_iconst (v := 1) hx hb dL_bits_14 (by decide +kernel) ?_
        refine lv_iand (x := (x1 >>> ((nI i) &&& 31))) (y := 1) hx hb dL_bits_15 ?_
        refine lv_iadd (x := bitF x1 i) (y := ((x1 >>> ((nI i) &&& 31)) &&& 1)) hx hb dL_bits_16 ?_
        refine lv_istore_n (lv' := [(1, .int ((bitF x1 i) + ((x1 >>> ((nI i) &&& 31)) &&& 1))), (2, .int (nI i)), (0, .int x1)]) hx hb dL_bits_17 rfl hl (by decide) rfl (fun ls hl => ?_)
        refine lv_iinc (v := nI (i + 1)) (lv' := [(2, .int (nI (i + 1))), (1, .int ((bitF x1 i) + ((x1 >>> ((nI i) &&& 31)) &&& 1))), (0, .int x1)]) hx hb dL_bits_18 hl (k := 1) rfl (nI_add i 1) (by decide) rfl (fun ls hl => ?_)
        refine lv_goto (tgt := 4) hx hb dL_bits_21 (by decide) ?_
        have q2 : ((bitF x1 i) + ((x1 >>> ((nI i) &&& 31)) &&& 1)) = (bitF x1 (i + 1) : Int32) := (by first | rfl | contradiction | (simp [c7_1]; done))
        have hl : lv_has ls 3 [(2, .int (nI (i + 1))), (1, .int (bitF x1 (i + 1))), (0, .int x1)] := lv_eqL (lv_sub (l' := [(2, .int (nI (i + 1))), (1, .int ((bitF x1 i) + ((x1 >>> ((nI i) &&& 31)) &&& 1))), (0, .int x1)]) hl [0, 1, 2] rfl) (cg2 List.cons rfl (cg2 List.cons (congrArg (fun z => ((1 : Nat), Value.int z)) q2) (cg2 List.cons rfl rfl)))
        exact ih (i + 1) (by omega) (by omega) _ _ w _ hl
  have q3 : 0 = (nI 0 : Int32) := (by first | rfl | contradiction | (simp []; done))
  have q4 : 0 = (bitF x1 0 : Int32) := (by first | rfl | contradiction | (simp []; done))
  have hl : lv_has ls 3 [(2, .int (nI 0)), (1, .int (bitF x1 0)), (0, .int x1)] := lv_eqL (lv_sub (l' := [(2, .int 0), (1, .int 0), (0, .int x1)]) hl [0, 1, 2] rfl) (cg2 List.cons (congrArg (fun z => ((2 : Nat), Value.int z)) q3) (cg2 List.cons (congrArg (fun z => ((1 : Nat), Value.int z)) q4) (cg2 List.cons rfl rfl)))
  exact loop_4 (9) 0 (by omega) (by omega) _ _ w _ hl
