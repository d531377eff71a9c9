set_option maxHeartbeats 4000000 in
set_option maxRecDepth 100000 in
theorem k_X6_isPlace (l : Launch) (D : va_G) (cI cS : ClassId) (tys : List (ClassId × FieldType)) (ht0 : tys[0]? = some (cI, .int)) (x : Int32)  : xI l yX6_isPlace wsX6_isPlace 0 D tys [.int x] (([] : va_W)) (bI (rg x 64 = true)) (([] : va_W)) := by
  refine x_inI (cc := cX6_isPlace) (maxL := 1) (ret := (some .boolean)) (by decide) rfl (Nat.le_of_ble_eq_true rfl) ?_
  intro p e s m args below meth c A ls C w hl
  have C : xC p s m meth c args cX6_isPlace 1 wsX6_isPlace RX6 D tys (some .boolean) := C
  have hx := C.1.1
  have hb := C.1.2.1
  have hts := C.1.2.2.2.2
  have hown := C.1.2.2.2.1
  have w : xW D A s.heap (([] : va_W)) s.heap [] := w
  have hl : lv_has ls 1 [(0, .int x)] := hl
  refine lv_iload_n hx hb dX6_isPlace_0 rfl (lv_at hl 0 rfl) ?_
  refine x_ifR_lt (x := x) (tgt := 14) hx hb dX6_isPlace_1 (by decide) (fun c1_1 => ?_) (fun c1_1 => ?_)
  ·
    refine lv_iconst (v := 0) hx hb dX6_isPlace_14 (by decide +kernel) ?_
    exact x_zret C w (Or.inl rfl) (by simp [bI, rg, c1_1]) rfl dX6_isPlace_15
  ·
    refine lv_iload_n hx hb dX6_isPlace_4 rfl (lv_at hl 0 rfl) ?_
    refine lv_bipush (v := 64) hx hb dX6_isPlace_5 (by decide +kernel) ?_
    refine x_icR_ge (x := x) (y := 64) (tgt := 14) hx hb dX6_isPlace_7 (by decide) (fun c7_2 => ?_) (fun c7_2 => ?_)
    ·
      refine lv_iconst (v := 0) hx hb dX6_isPlace_14 (by decide +kernel) ?_
      exact x_zret C w (Or.inl rfl) (by simp [bI, rg, c1_1, c7_2]) rfl dX6_isPlace_15
    ·
      refine lv_iconst (v := 1) hx hb dX6_isPlace_10 (by decide +kernel) ?_
      refine lv_goto (tgt := 15) hx hb dX6_isPlace_11 (by decide) ?_
      exact x_zret C w (Or.inr rfl) (by simp [bI, rg, c1_1, c7_2]) rfl dX6_isPlace_15
set_option maxHeartbeats 4000000 in
set_option maxRecDepth 100000 in
theorem k_X6_isLine (l : Launch) (D : va_G) (cI cS : ClassId) (tys : List (ClassId × FieldType)) (ht0 : tys[0]? = some (cI, .int)) (x : Int32)  : xI l yX6_isLine wsX6_isLine 0 D tys [.int x] (([] : va_W)) (bI (rg x 8 = true)) (([] : va_W)) := by
  refine x_inI (cc := cX6_isLine) (maxL := 1) (ret := (some .boolean)) (by decide) rfl (Nat.le_of_ble_eq_true rfl) ?_
  intro p e s m args below meth c A ls C w hl
  have C : xC p s m meth c args cX6_isLine 1 wsX6_isLine RX6 D tys (some .boolean) := C
  have hx := C.1.1
  have hb := C.1.2.1
  have hts := C.1.2.2.2.2
  have hown := C.1.2.2.2.1
  have w : xW D A s.heap (([] : va_W)) s.heap [] := w
  have hl : lv_has ls 1 [(0, .int x)] := hl
  refine lv_iload_n hx hb dX6_isLine_0 rfl (lv_at hl 0 rfl) ?_
  refine x_ifR_lt (x := x) (tgt := 14) hx hb dX6_isLine_1 (by decide) (fun c1_1 => ?_) (fun c1_1 => ?_)
  ·
    refine lv_iconst (v := 0) hx hb dX6_isLine_14 (by decide +kernel) ?_
    exact x_zret C w (Or.inl rfl) (by simp [bI, rg, c1_1]) rfl dX6_isLine_15
  ·
    refine lv_iload_n hx hb dX6_isLine_4 rfl (lv_at hl 0 rfl) ?_
    refine lv_bipush (v := 8) hx hb dX6_isLine_5 (by decide +kernel) ?_
    refine x_icR_ge (x := x) (y := 8) (tgt := 14) hx hb dX6_isLine_7 (by decide) (fun c7_2 => ?_) (fun c7_2 => ?_)
    ·
      refine lv_iconst (v := 0) hx hb dX6_isLine_14 (by decide +kernel) ?_
      exact x_zret C w (Or.inl rfl) (by simp [bI, rg, c1_1, c7_2]) rfl dX6_isLine_15
    ·
      refine lv_iconst (v := 1) hx hb dX6_isLine_10 (by decide +kernel) ?_
      refine lv_goto (tgt := 15) hx hb dX6_isLine_11 (by decide) ?_
      exact x_zret C w (Or.inr rfl) (by simp [bI, rg, c1_1, c7_2]) rfl dX6_isLine_15
set_option maxHeartbeats 4000000 in
set_option maxRecDepth 100000 in
theorem k_X6_isSetting (l : Launch) (D : va_G) (cI cS : ClassId) (tys : List (ClassId × FieldType)) (ht0 : tys[0]? = some (cI, .int)) (x : Int32)  : xI l yX6_isSetting wsX6_isSetting 0 D tys [.int x] (([] : va_W)) (bI (rg x 4 = true)) (([] : va_W)) := by
  refine x_inI (cc := cX6_isSetting) (maxL := 1) (ret := (some .boolean)) (by decide) rfl (Nat.le_of_ble_eq_true rfl) ?_
  intro p e s m args below meth c A ls C w hl
  have C : xC p s m meth c args cX6_isSetting 1 wsX6_isSetting RX6 D tys (some .boolean) := C
  have hx := C.1.1
  have hb := C.1.2.1
  have hts := C.1.2.2.2.2
  have hown := C.1.2.2.2.1
  have w : xW D A s.heap (([] : va_W)) s.heap [] := w
  have hl : lv_has ls 1 [(0, .int x)] := hl
  refine lv_iload_n hx hb dX6_isSetting_0 rfl (lv_at hl 0 rfl) ?_
  refine x_ifR_lt (x := x) (tgt := 13) hx hb dX6_isSetting_1 (by decide) (fun c1_1 => ?_) (fun c1_1 => ?_)
  ·
    refine lv_iconst (v := 0) hx hb dX6_isSetting_13 (by decide +kernel) ?_
    exact x_zret C w (Or.inl rfl) (by simp [bI, rg, c1_1]) rfl dX6_isSetting_14
  ·
    refine lv_iload_n hx hb dX6_isSetting_4 rfl (lv_at hl 0 rfl) ?_
    refine lv_iconst (v := 4) hx hb dX6_isSetting_5 (by decide +kernel) ?_
    refine x_icR_ge (x := x) (y := 4) (tgt := 13) hx hb dX6_isSetting_6 (by decide) (fun c6_2 => ?_) (fun c6_2 => ?_)
    ·
      refine lv_iconst (v := 0) hx hb dX6_isSetting_13 (by decide +kernel) ?_
      exact x_zret C w (Or.inl rfl) (by simp [bI, rg, c1_1, c6_2]) rfl dX6_isSetting_14
    ·
      refine lv_iconst (v := 1) hx hb dX6_isSetting_9 (by decide +kernel) ?_
      refine lv_goto (tgt := 14) hx hb dX6_isSetting_10 (by decide) ?_
      exact x_zret C w (Or.inr rfl) (by simp [bI, rg, c1_1, c6_2]) rfl dX6_isSetting_14
set_option maxHeartbeats 4000000 in
set_option maxRecDepth 100000 in
theorem k_X6_isWithin (l : Launch) (D : va_G) (cI cS : ClassId) (tys : List (ClassId × FieldType)) (ht0 : tys[0]? = some (cI, .int)) (x : Int32) (lo : Int32) (hi : Int32)  : xI l yX6_isWithin wsX6_isWithin 0 D tys [.int x, .int lo, .int hi] (([] : va_W)) (bI (wth x lo hi = true)) (([] : va_W)) := by
  refine x_inI (cc := cX6_isWithin) (maxL := 3) (ret := (some .boolean)) (by decide) rfl (Nat.le_of_ble_eq_true rfl) ?_
  intro p e s m args below meth c A ls C w hl
  have C : xC p s m meth c args cX6_isWithin 3 wsX6_isWithin RX6 D tys (some .boolean) := C
  have hx := C.1.1
  have hb := C.1.2.1
  have hts := C.1.2.2.2.2
  have hown := C.1.2.2.2.1
  have w : xW D A s.heap (([] : va_W)) s.heap [] := w
  have hl : lv_has ls 3 [(0, .int x), (1, .int lo), (2, .int hi)] := hl
  refine lv_iload_n hx hb dX6_isWithin_0 rfl (lv_at hl 0 rfl) ?_
  refine lv_iload_n hx hb dX6_isWithin_1 rfl (lv_at hl 1 rfl) ?_
  refine x_icR_lt (x := x) (y := lo) (tgt := 14) hx hb dX6_isWithin_2 (by decide) (fun c2_1 => ?_) (fun c2_1 => ?_)
  ·
    refine lv_iconst (v := 0) hx hb dX6_isWithin_14 (by decide +kernel) ?_
    exact x_zret C w (Or.inl rfl) (by simp [bI, wth, c2_1]) rfl dX6_isWithin_15
  ·
    refine lv_iload_n hx hb dX6_isWithin_5 rfl (lv_at hl 0 rfl) ?_
    refine lv_iload_n hx hb dX6_isWithin_6 rfl (lv_at hl 2 rfl) ?_
    refine x_icR_gt (x := x) (y := hi) (tgt := 14) hx hb dX6_isWithin_7 (by decide) (fun c7_2 => ?_) (fun c7_2 => ?_)
    ·
      refine lv_iconst (v := 0) hx hb dX6_isWithin_14 (by decide +kernel) ?_
      exact x_zret C w (Or.inl rfl) (by simp [bI, wth, c2_1, c7_2]) rfl dX6_isWithin_15
    ·
      refine lv_iconst (v := 1) hx hb dX6_isWithin_10 (by decide +kernel) ?_
      refine lv_goto (tgt := 15) hx hb dX6_isWithin_11 (by decide) ?_
      exact x_zret C w (Or.inr rfl) (by simp [bI, wth, c2_1, c7_2]) rfl dX6_isWithin_15
set_option maxHeartbeats 4000000 in
set_option maxRecDepth 100000 in
theorem k_J6_bitCount_0f7a4 (l : Launch) (D : va_G) (cI cS : ClassId) (tys : List (ClassId × FieldType)) (ht0 : tys[0]? = some (cI, .int)) (x : Int32)  : xI l yJ6_bitCount_0f7a4 wsJ6_bitCount_0f7a4 0 D tys [.int x] (([] : va_W)) (bcI x) (([] : va_W)) := by
  refine x_inI (cc := cJ6_bitCount_0f7a4) (maxL := 1) (ret := (some .int)) (by decide) rfl (Nat.le_of_ble_eq_true rfl) ?_
  intro p e s m args below meth c A ls C w hl
  have C : xC p s m meth c args cJ6_bitCount_0f7a4 1 wsJ6_bitCount_0f7a4 RJ6 D tys (some .int) := C
  have hx := C.1.1
  have hb := C.1.2.1
  have hts := C.1.2.2.2.2
  have hown := C.1.2.2.2.1
  have w : xW D A s.heap (([] : va_W)) s.heap [] := w
  have hl : lv_has ls 1 [(0, .int x)] := hl
  refine lv_iload_n hx hb dJ6_bitCount_0f7a4_0 rfl (lv_at hl 0 rfl) ?_
  refine lv_iload_n hx hb dJ6_bitCount_0f7a4_1 rfl (lv_at hl 0 rfl) ?_
  refine lv_iconst (v := 1) hx hb dJ6_bitCount_0f7a4_2 (by decide +kernel) ?_
  refine lv_iushr (x := x) (y := 1) (v := (x.toUInt32 >>> (Int32.toUInt32 1 &&& Int32.toUInt32 31)).toInt32) hx hb dJ6_bitCount_0f7a4_3 rfl ?_
  refine lv_ldcw (v := 1431655765) hx hb hown (hts _ (List.mem_of_getElem? (i := 1) rfl)) dJ6_bitCount_0f7a4_4 ?_
  refine lv_iand (x := (x.toUInt32 >>> (Int32.toUInt32 1 &&& Int32.toUInt32 31)).toInt32) (y := 1431655765) hx hb dJ6_bitCount_0f7a4_7 ?_
  refine lv_isub (x := x) (y := (((x.toUInt32 >>> (Int32.toUInt32 1 &&& Int32.toUInt32 31)).toInt32) &&& 1431655765)) hx hb dJ6_bitCount_0f7a4_8 ?_
  refine x_top (y := bc1 x) rfl ?_
  refine lv_istore_n (lv' := [(0, .int (bc1 x))]) hx hb dJ6_bitCount_0f7a4_9 rfl hl (by decide) rfl (fun ls hl => ?_)
  refine lv_iload_n hx hb dJ6_bitCount_0f7a4_10 rfl (lv_at hl 0 rfl) ?_
  refine lv_ldcw (v := 858993459) hx hb hown (hts _ (List.mem_of_getElem? (i := 2) rfl)) dJ6_bitCount_0f7a4_11 ?_
  refine lv_iand (x := bc1 x) (y := 858993459) hx hb dJ6_bitCount_0f7a4_14 ?_
  refine lv_iload_n hx hb dJ6_bitCount_0f7a4_15 rfl (lv_at hl 0 rfl) ?_
  refine lv_iconst (v := 2) hx hb dJ6_bitCount_0f7a4_16 (by decide +kernel) ?_
  refine lv_iushr (x := bc1 x) (y := 2) (v := ((bc1 x).toUInt32 >>> (Int32.toUInt32 2 &&& Int32.toUInt32 31)).toInt32) hx hb dJ6_bitCount_0f7a4_17 rfl ?_
  refine lv_ldcw (v := 858993459) hx hb hown (hts _ (List.mem_of_getElem? (i := 2) rfl)) dJ6_bitCount_0f7a4_18 ?_
  refine lv_iand (x := ((bc1 x).toUInt32 >>> (Int32.toUInt32 2 &&& Int32.toUInt32 31)).toInt32) (y := 858993459) hx hb dJ6_bitCount_0f7a4_21 ?_
  refine lv_iadd (x := ((bc1 x) &&& 858993459)) (y := ((((bc1 x).toUInt32 >>> (Int32.toUInt32 2 &&& Int32.toUInt32 31)).toInt32) &&& 858993459)) hx hb dJ6_bitCount_0f7a4_22 ?_
  refine x_top (y := bc2 (bc1 x)) rfl ?_
  refine lv_istore_n (lv' := [(0, .int (bc2 (bc1 x)))]) hx hb dJ6_bitCount_0f7a4_23 rfl hl (by decide) rfl (fun ls hl => ?_)
  refine lv_iload_n hx hb dJ6_bitCount_0f7a4_24 rfl (lv_at hl 0 rfl) ?_
  refine lv_iload_n hx hb dJ6_bitCount_0f7a4_25 rfl (lv_at hl 0 rfl) ?_
  refine lv_iconst (v := 4) hx hb dJ6_bitCount_0f7a4_26 (by decide +kernel) ?_
  refine lv_iushr (x := bc2 (bc1 x)) (y := 4) (v := ((bc2 (bc1 x)).toUInt32 >>> (Int32.toUInt32 4 &&& Int32.toUInt32 31)).toInt32) hx hb dJ6_bitCount_0f7a4_27 rfl ?_
  refine lv_iadd (x := bc2 (bc1 x)) (y := ((bc2 (bc1 x)).toUInt32 >>> (Int32.toUInt32 4 &&& Int32.toUInt32 31)).toInt32) hx hb dJ6_bitCount_0f7a4_28 ?_
  refine lv_ldcw (v := 252645135) hx hb hown (hts _ (List.mem_of_getElem? (i := 3) rfl)) dJ6_bitCount_0f7a4_29 ?_
  refine lv_iand (x := ((bc2 (bc1 x)) + (((bc2 (bc1 x)).toUInt32 >>> (Int32.toUInt32 4 &&& Int32.toUInt32 31)).toInt32))) (y := 252645135) hx hb dJ6_bitCount_0f7a4_32 ?_
  refine x_top (y := bc3 (bc2 (bc1 x))) rfl ?_
  refine lv_istore_n (lv' := [(0, .int (bc3 (bc2 (bc1 x))))]) hx hb dJ6_bitCount_0f7a4_33 rfl hl (by decide) rfl (fun ls hl => ?_)
  refine lv_iload_n hx hb dJ6_bitCount_0f7a4_34 rfl (lv_at hl 0 rfl) ?_
  refine lv_iload_n hx hb dJ6_bitCount_0f7a4_35 rfl (lv_at hl 0 rfl) ?_
  refine lv_bipush (v := 8) hx hb dJ6_bitCount_0f7a4_36 (by decide +kernel) ?_
  refine lv_iushr (x := bc3 (bc2 (bc1 x))) (y := 8) (v := ((bc3 (bc2 (bc1 x))).toUInt32 >>> (Int32.toUInt32 8 &&& Int32.toUInt32 31)).toInt32) hx hb dJ6_bitCount_0f7a4_38 rfl ?_
  refine lv_iadd (x := bc3 (bc2 (bc1 x))) (y := ((bc3 (bc2 (bc1 x))).toUInt32 >>> (Int32.toUInt32 8 &&& Int32.toUInt32 31)).toInt32) hx hb dJ6_bitCount_0f7a4_39 ?_
  refine x_top (y := bc4 (bc3 (bc2 (bc1 x)))) rfl ?_
  refine lv_istore_n (lv' := [(0, .int (bc4 (bc3 (bc2 (bc1 x)))))]) hx hb dJ6_bitCount_0f7a4_40 rfl hl (by decide) rfl (fun ls hl => ?_)
  refine lv_iload_n hx hb dJ6_bitCount_0f7a4_41 rfl (lv_at hl 0 rfl) ?_
  refine lv_iload_n hx hb dJ6_bitCount_0f7a4_42 rfl (lv_at hl 0 rfl) ?_
  refine lv_bipush (v := 16) hx hb dJ6_bitCount_0f7a4_43 (by decide +kernel) ?_
  refine lv_iushr (x := bc4 (bc3 (bc2 (bc1 x)))) (y := 16) (v := ((bc4 (bc3 (bc2 (bc1 x)))).toUInt32 >>> (Int32.toUInt32 16 &&& Int32.toUInt32 31)).toInt32) hx hb dJ6_bitCount_0f7a4_45 rfl ?_
  refine lv_iadd (x := bc4 (bc3 (bc2 (bc1 x)))) (y := ((bc4 (bc3 (bc2 (bc1 x)))).toUInt32 >>> (Int32.toUInt32 16 &&& Int32.toUInt32 31)).toInt32) hx hb dJ6_bitCount_0f7a4_46 ?_
  refine x_top (y := bc5 (bc4 (bc3 (bc2 (bc1 x))))) rfl ?_
  refine lv_istore_n (lv' := [(0, .int (bc5 (bc4 (bc3 (bc2 (bc1 x))))))]) hx hb dJ6_bitCount_0f7a4_47 rfl hl (by decide) rfl (fun ls hl => ?_)
  refine lv_iload_n hx hb dJ6_bitCount_0f7a4_48 rfl (lv_at hl 0 rfl) ?_
  refine lv_bipush (v := 63) hx hb dJ6_bitCount_0f7a4_49 (by decide +kernel) ?_
  refine lv_iand (x := bc5 (bc4 (bc3 (bc2 (bc1 x))))) (y := 63) hx hb dJ6_bitCount_0f7a4_51 ?_
  refine x_top (y := bcI x) rfl ?_
  exact x_iret C w rfl rfl dJ6_bitCount_0f7a4_52
set_option maxHeartbeats 4000000 in
set_option maxRecDepth 100000 in
theorem k_X0_capacity (l : Launch) (D : va_G) (cI cS : ClassId) (tys : List (ClassId × FieldType)) (ht0 : tys[0]? = some (cI, .int)) (h : Nat) (G : St)  : xI l yX0_capacity wsX0_capacity 0 D tys [.ref h] (bW h G) (capI G) (bW h G) := by
  refine x_inI (cc := cX0_capacity) (maxL := 1) (ret := (some .int)) (by decide) rfl (Nat.le_of_ble_eq_true rfl) ?_
  intro p e s m args below meth c A ls C w hl
  have C : xC p s m meth c args cX0_capacity 1 wsX0_capacity RX0 D tys (some .int) := C
  have hx := C.1.1
  have hb := C.1.2.1
  have hts := C.1.2.2.2.2
  have hown := C.1.2.2.2.1
  have w : xW D A s.heap (bW h G) s.heap [] := w
  have hl : lv_has ls 1 [(0, .ref h)] := hl
  refine lv_sipush (v := 1000) hx hb dX0_capacity_0 (by decide +kernel) ?_
  refine lv_bipush (v := 10) hx hb dX0_capacity_3 (by decide +kernel) ?_
  refine lv_aload_n hx hb dX0_capacity_5 rfl (lv_at hl 0 rfl) ?_
  refine x_get (v := .int (G 6 1)) (T := TX0) C w 0 1 rfl rfl (fun _ h => List.mem_cons_of_mem _ (List.mem_append_right _ (h))) (List.mem_of_getElem? (i := 1) rfl) (by decide) rfl dX0_capacity_6 ?_
  refine lv_imul (x := 10) (y := G 6 1) hx hb dX0_capacity_9 ?_
  refine lv_isub (x := 1000) (y := (10 * (G 6 1))) hx hb dX0_capacity_10 ?_
  exact x_iret C w (by first | rfl | contradiction | (simp []; done)) rfl dX0_capacity_11
set_option maxHeartbeats 4000000 in
set_option maxRecDepth 100000 in
theorem k_X0_savable (l : Launch) (D : va_G) (cI cS : ClassId) (tys : List (ClassId × FieldType)) (ht0 : tys[0]? = some (cI, .int)) (h : Nat) (G : St)  : xI l yX0_savable wsX0_savable 1 D tys [.ref h] (bW h G) (savI G) (bW h G) := by
  refine x_inI (cc := cX0_savable) (maxL := 1) (ret := (some .int)) (by decide) rfl (Nat.le_of_ble_eq_true rfl) ?_
  intro p e s m args below meth c A ls C w hl
  have C : xC p s m meth c args cX0_savable 1 wsX0_savable RX0 D tys (some .int) := C
  have hx := C.1.1
  have hb := C.1.2.1
  have hts := C.1.2.2.2.2
  have hown := C.1.2.2.2.1
  have w : xW D A s.heap (bW h G) s.heap [] := w
  have hl : lv_has ls 1 [(0, .ref h)] := hl
  refine lv_aload_n hx hb dX0_savable_0 rfl (lv_at hl 0 rfl) ?_
  refine x_get (v := .int (G 6 0)) (T := TX0) C w 0 0 rfl rfl (fun _ h => List.mem_cons_of_mem _ (List.mem_append_right _ (h))) (List.mem_of_getElem? (i := 1) rfl) (by decide) rfl dX0_savable_1 ?_
  refine lv_aload_n hx hb dX0_savable_4 rfl (lv_at hl 0 rfl) ?_
  refine x_get (v := .int (G 8 1)) (T := TX0) C w 0 4 rfl rfl (fun _ h => List.mem_cons_of_mem _ (List.mem_append_right _ (h))) (List.mem_of_getElem? (i := 2) rfl) (by decide) rfl dX0_savable_5 ?_
  refine x_icR_lt (x := G 6 0) (y := G 8 1) (tgt := 19) hx hb dX0_savable_8 (by decide) (fun c8_1 => ?_) (fun c8_1 => ?_)
  ·
    refine lv_iconst (v := 0) hx hb dX0_savable_19 (by decide +kernel) ?_
    exact x_iret C w (by first | rfl | contradiction | (simp [savI, c8_1]; done)) rfl dX0_savable_20
  ·
    refine lv_aload_n hx hb dX0_savable_11 rfl (lv_at hl 0 rfl) ?_
    refine x_get (v := .int (G 8 0)) (T := TX0) C w 0 3 rfl rfl (fun _ h => List.mem_cons_of_mem _ (List.mem_append_right _ (h))) (List.mem_of_getElem? (i := 3) rfl) (by decide) rfl dX0_savable_12 ?_
    refine lv_iconst (v := 1) hx hb dX0_savable_15 (by decide +kernel) ?_
    refine x_icR_ge (x := G 8 0) (y := 1) (tgt := 21) hx hb dX0_savable_16 (by decide) (fun c16_2 => ?_) (fun c16_2 => ?_)
    ·
      refine lv_aload_n hx hb dX0_savable_21 rfl (lv_at hl 0 rfl) ?_
      refine x_get (v := .int (G 6 0)) (T := TX0) C w 0 0 rfl rfl (fun _ h => List.mem_cons_of_mem _ (List.mem_append_right _ (h))) (List.mem_of_getElem? (i := 1) rfl) (by decide) rfl dX0_savable_22 ?_
      refine lv_aload_n hx hb dX0_savable_25 rfl (lv_at hl 0 rfl) ?_
      refine x_get (v := .int (G 8 1)) (T := TX0) C w 0 4 rfl rfl (fun _ h => List.mem_cons_of_mem _ (List.mem_append_right _ (h))) (List.mem_of_getElem? (i := 2) rfl) (by decide) rfl dX0_savable_26 ?_
      refine lv_isub (x := G 6 0) (y := G 8 1) hx hb dX0_savable_29 ?_
      refine lv_aload_n hx hb dX0_savable_30 rfl (lv_at hl 0 rfl) ?_
      refine x_get (v := .int (G 8 0)) (T := TX0) C w 0 3 rfl rfl (fun _ h => List.mem_cons_of_mem _ (List.mem_append_right _ (h))) (List.mem_of_getElem? (i := 3) rfl) (by decide) rfl dX0_savable_31 ?_
      refine lv_idiv (x := ((G 6 0) - (G 8 1))) (y := G 8 0) hx hb dX0_savable_34 (fun z => c16_2 (by rw [z]; decide)) ?_
      refine lv_bipush (v := 8) hx hb dX0_savable_35 (by decide +kernel) ?_
      refine x_min (x := (((G 6 0) - (G 8 1)) / (G 8 0))) (z := 8) (v := (miI (((G 6 0) - (G 8 1)) / (G 8 0)) 8)) C hl (List.mem_of_getElem? (i := 4) rfl) (List.mem_of_getElem? (i := 5) rfl) (List.mem_of_getElem? (i := 6) rfl) (List.mem_of_getElem? (i := 7) rfl) ⟨Nat.le_of_ble_eq_true rfl, Nat.le_of_ble_eq_true rfl⟩ ⟨Nat.zero_le _, Nat.zero_le _⟩ rfl dX0_savable_37 ?_
      exact x_iret C w (by first | rfl | contradiction | (simp [savI, c8_1, c16_2]; done)) rfl dX0_savable_40
    ·
      refine lv_iconst (v := 0) hx hb dX0_savable_19 (by decide +kernel) ?_
      exact x_iret C w (by first | rfl | contradiction | (simp [savI, c8_1, c16_2]; done)) rfl dX0_savable_20
set_option maxHeartbeats 4000000 in
set_option maxRecDepth 100000 in
theorem k_X0_allowance (l : Launch) (D : va_G) (cI cS : ClassId) (tys : List (ClassId × FieldType)) (ht0 : tys[0]? = some (cI, .int)) (h : Nat) (G : St)  : xI l yX0_allowance wsX0_allowance 2 D tys [.ref h] (bW h G) (alwI G) (bW h G) := by
  refine x_inI (cc := cX0_allowance) (maxL := 1) (ret := (some .int)) (by decide) rfl (Nat.le_of_ble_eq_true rfl) ?_
  intro p e s m args below meth c A ls C w hl
  have C : xC p s m meth c args cX0_allowance 1 wsX0_allowance RX0 D tys (some .int) := C
  have hx := C.1.1
  have hb := C.1.2.1
  have hts := C.1.2.2.2.2
  have hown := C.1.2.2.2.1
  have w : xW D A s.heap (bW h G) s.heap [] := w
  have hl : lv_has ls 1 [(0, .ref h)] := hl
  refine lv_aload_n hx hb dX0_allowance_0 rfl (lv_at hl 0 rfl) ?_
  refine x_get (v := .int (G 6 2)) (T := TX0) C w 0 2 rfl rfl (fun _ h => List.mem_cons_of_mem _ (List.mem_append_right _ (h))) (List.mem_of_getElem? (i := 1) rfl) (by decide) rfl dX0_allowance_1 ?_
  refine x_ifR_ne (x := G 6 2) (tgt := 14) hx hb dX0_allowance_4 (by decide) (fun c4_1 => ?_) (fun c4_1 => ?_)
  ·
    refine lv_iconst (v := 0) hx hb dX0_allowance_14 (by decide +kernel) ?_
    exact x_iret C w (by first | rfl | contradiction | (simp [alwI, c4_1]; done)) rfl dX0_allowance_15
  ·
    refine lv_aload_n hx hb dX0_allowance_7 rfl (lv_at hl 0 rfl) ?_
    refine x_callVi (wr := []) (w2 := bW h G) (rest := []) (n := 0) C w hl [] (k_X0_savable l D cI cS tys ht0 h G ) gX0_allowance_X0_savable rfl (by decide +kernel) ⟨Nat.le_of_ble_eq_true rfl, Nat.le_of_ble_eq_true rfl⟩ 0 0 rfl rfl rfl rfl (Nat.le_of_ble_eq_true rfl) [0] [] (by decide) rfl rfl (by decide) (by decide) [0] (by decide) rfl ⟨Nat.zero_le _, Nat.zero_le _⟩ dX0_allowance_8 (fun H locs w => ?_)
    refine lv_goto (tgt := 15) hx hb dX0_allowance_11 (by decide) ?_
    exact x_iret C w (by first | rfl | contradiction | (simp [alwI, c4_1]; done)) rfl dX0_allowance_15
set_option maxHeartbeats 4000000 in
set_option maxRecDepth 100000 in
theorem k_X0_costToSave (l : Launch) (D : va_G) (cI cS : ClassId) (tys : List (ClassId × FieldType)) (ht0 : tys[0]? = some (cI, .int)) (h : Nat) (G : St) (n : Int32)  : xI l yX0_costToSave wsX0_costToSave 0 D tys [.ref h, .int n] (bW h G) (cosI G n) (bW h G) := by
  refine x_inI (cc := cX0_costToSave) (maxL := 2) (ret := (some .int)) (by decide) rfl (Nat.le_of_ble_eq_true rfl) ?_
  intro p e s m args below meth c A ls C w hl
  have C : xC p s m meth c args cX0_costToSave 2 wsX0_costToSave RX0 D tys (some .int) := C
  have hx := C.1.1
  have hb := C.1.2.1
  have hts := C.1.2.2.2.2
  have hown := C.1.2.2.2.1
  have w : xW D A s.heap (bW h G) s.heap [] := w
  have hl : lv_has ls 2 [(0, .ref h), (1, .int n)] := hl
  refine lv_aload_n hx hb dX0_costToSave_0 rfl (lv_at hl 0 rfl) ?_
  refine x_get (v := .int (G 8 1)) (T := TX0) C w 0 4 rfl rfl (fun _ h => List.mem_cons_of_mem _ (List.mem_append_right _ (h))) (List.mem_of_getElem? (i := 1) rfl) (by decide) rfl dX0_costToSave_1 ?_
  refine lv_iload_n hx hb dX0_costToSave_4 rfl (lv_at hl 1 rfl) ?_
  refine lv_aload_n hx hb dX0_costToSave_5 rfl (lv_at hl 0 rfl) ?_
  refine x_get (v := .int (G 8 0)) (T := TX0) C w 0 3 rfl rfl (fun _ h => List.mem_cons_of_mem _ (List.mem_append_right _ (h))) (List.mem_of_getElem? (i := 2) rfl) (by decide) rfl dX0_costToSave_6 ?_
  refine lv_imul (x := n) (y := G 8 0) hx hb dX0_costToSave_9 ?_
  refine lv_iadd (x := G 8 1) (y := (n * (G 8 0))) hx hb dX0_costToSave_10 ?_
  exact x_iret C w (by first | rfl | contradiction | (simp []; done)) rfl dX0_costToSave_11
set_option maxHeartbeats 4000000 in
set_option maxRecDepth 100000 in
theorem k_X0_useUp (l : Launch) (D : va_G) (cI cS : ClassId) (tys : List (ClassId × FieldType)) (ht0 : tys[0]? = some (cI, .int)) (h : Nat) (G : St) (a : Int32)  : xV l yX0_useUp wsX0_useUp 1 D tys [.ref h, .int a] (bW h G) (bW h (useG G a)) := by
  refine x_inV (cc := cX0_useUp) (maxL := 2) (ret := none) (by decide) rfl (Nat.le_of_ble_eq_true rfl) ?_
  intro p e s m args below meth c A ls C w hl
  have C : xC p s m meth c args cX0_useUp 2 wsX0_useUp RX0 D tys none := C
  have hx := C.1.1
  have hb := C.1.2.1
  have hts := C.1.2.2.2.2
  have hown := C.1.2.2.2.1
  have w : xW D A s.heap (bW h G) s.heap [] := w
  have hl : lv_has ls 2 [(0, .ref h), (1, .int a)] := hl
  refine lv_aload_n hx hb dX0_useUp_0 rfl (lv_at hl 0 rfl) ?_
  refine lv_aload_n hx hb dX0_useUp_1 rfl (lv_at hl 0 rfl) ?_
  refine x_get (v := .int (G 6 0)) (T := TX0) C w 0 0 rfl rfl (fun _ h => List.mem_cons_of_mem _ (List.mem_append_right _ (h))) (List.mem_of_getElem? (i := 1) rfl) (by decide) rfl dX0_useUp_2 ?_
  refine lv_iload_n hx hb dX0_useUp_5 rfl (lv_at hl 1 rfl) ?_
  refine lv_isub (x := G 6 0) (y := a) hx hb dX0_useUp_6 ?_
  refine lv_iconst (v := 0) hx hb dX0_useUp_7 (by decide +kernel) ?_
  refine x_max (x := ((G 6 0) - a)) (z := 0) (v := (maI ((G 6 0) - a) 0)) C hl (List.mem_of_getElem? (i := 2) rfl) (List.mem_of_getElem? (i := 3) rfl) (List.mem_of_getElem? (i := 4) rfl) (List.mem_of_getElem? (i := 5) rfl) ⟨Nat.le_of_ble_eq_true rfl, Nat.le_of_ble_eq_true rfl⟩ ⟨Nat.zero_le _, Nat.zero_le _⟩ rfl dX0_useUp_8 ?_
  refine x_put (v := .int (maI ((G 6 0) - a) 0)) (ty := .int) (T := TX0) (ws2 := bW h (s2 G 6 0 (maI ((G 6 0) - a) 0))) C w 0 0 rfl rfl (fun _ h => List.mem_cons_of_mem _ (List.mem_append_right _ (h))) tyX0 tyX0_ok nmX0 (List.mem_of_getElem? (i := 1) rfl) (by decide) (Nat.le_of_ble_eq_true rfl) rfl (by decide +kernel) rfl rfl rfl dX0_useUp_11 (fun H locs w => ?_)
  exact x_vret C w (congrArg (bW h) (by first | rfl | contradiction | (simp []; done))) dX0_useUp_14
set_option maxHeartbeats 4000000 in
set_option maxRecDepth 100000 in
theorem k_X0_saveAtCut (l : Launch) (D : va_G) (cI cS : ClassId) (tys : List (ClassId × FieldType)) (ht0 : tys[0]? = some (cI, .int)) (h : Nat) (G : St) (n : Int32)  : xV l yX0_saveAtCut wsX0_saveAtCut 2 D tys [.ref h, .int n] (bW h G) (bW h (sacG G n)) := by
  refine x_inV (cc := cX0_saveAtCut) (maxL := 2) (ret := none) (by decide) rfl (Nat.le_of_ble_eq_true rfl) ?_
  intro p e s m args below meth c A ls C w hl
  have C : xC p s m meth c args cX0_saveAtCut 2 wsX0_saveAtCut RX0 D tys none := C
  have hx := C.1.1
  have hb := C.1.2.1
  have hts := C.1.2.2.2.2
  have hown := C.1.2.2.2.1
  have w : xW D A s.heap (bW h G) s.heap [] := w
  have hl : lv_has ls 2 [(0, .ref h), (1, .int n)] := hl
  refine lv_aload_n hx hb dX0_saveAtCut_0 rfl (lv_at hl 0 rfl) ?_
  refine lv_aload_n hx hb dX0_saveAtCut_1 rfl (lv_at hl 0 rfl) ?_
  refine lv_iload_n hx hb dX0_saveAtCut_2 rfl (lv_at hl 1 rfl) ?_
  refine x_callVi (wr := []) (w2 := bW h G) (rest := [.ref h]) (n := 1) C w hl [.int n] (k_X0_costToSave l D cI cS tys ht0 h G n ) gX0_saveAtCut_X0_costToSave rfl (by decide +kernel) ⟨Nat.le_of_ble_eq_true rfl, Nat.le_of_ble_eq_true rfl⟩ 0 0 rfl rfl rfl rfl (Nat.le_of_ble_eq_true rfl) [0] [] (by decide) rfl rfl (by decide) (by decide) [0] (by decide) rfl ⟨Nat.zero_le _, Nat.zero_le _⟩ dX0_saveAtCut_3 (fun H locs w => ?_)
  refine x_callVv (wr := []) (w2 := bW h (useG G (cosI G n))) (rest := []) (n := 1) C w hl [.int (cosI G n)] (k_X0_useUp l D cI cS tys ht0 h G (cosI G n) ) gX0_saveAtCut_X0_useUp rfl (by decide +kernel) ⟨Nat.le_of_ble_eq_true rfl, Nat.le_of_ble_eq_true rfl⟩ 0 0 rfl rfl rfl rfl (Nat.le_of_ble_eq_true rfl) [0] [] (by decide) rfl rfl (by decide) (by decide) [0] (by decide) rfl ⟨Nat.zero_le _, Nat.zero_le _⟩ dX0_saveAtCut_6 (fun H locs w => ?_)
  refine lv_aload_n hx hb dX0_saveAtCut_9 rfl (lv_at hl 0 rfl) ?_
  refine lv_iconst (v := 0) hx hb dX0_saveAtCut_10 (by decide +kernel) ?_
  refine x_put (v := .int 0) (ty := .int) (T := TX0) (ws2 := bW h (s2 (useG G (cosI G n)) 6 2 0)) C w 0 2 rfl rfl (fun _ h => List.mem_cons_of_mem _ (List.mem_append_right _ (h))) tyX0 tyX0_ok nmX0 (List.mem_of_getElem? (i := 1) rfl) (by decide) (Nat.le_of_ble_eq_true rfl) rfl (by decide +kernel) rfl rfl rfl dX0_saveAtCut_11 (fun H locs w => ?_)
  exact x_vret C w (congrArg (bW h) (by first | rfl | contradiction | (simp []; done))) dX0_saveAtCut_14
set_option maxHeartbeats 4000000 in
set_option maxRecDepth 100000 in
theorem k_X0_fallInCycle (l : Launch) (D : va_G) (cI cS : ClassId) (tys : List (ClassId × FieldType)) (ht0 : tys[0]? = some (cI, .int)) (h : Nat) (G : St)  : xV l yX0_fallInCycle wsX0_fallInCycle 2 D tys [.ref h] (bW h G) (bW h (falG G)) := by
  refine x_inV (cc := cX0_fallInCycle) (maxL := 1) (ret := none) (by decide) rfl (Nat.le_of_ble_eq_true rfl) ?_
  intro p e s m args below meth c A ls C w hl
  have C : xC p s m meth c args cX0_fallInCycle 1 wsX0_fallInCycle RX0 D tys none := C
  have hx := C.1.1
  have hb := C.1.2.1
  have hts := C.1.2.2.2.2
  have hown := C.1.2.2.2.1
  have w : xW D A s.heap (bW h G) s.heap [] := w
  have hl : lv_has ls 1 [(0, .ref h)] := hl
  refine lv_aload_n hx hb dX0_fallInCycle_0 rfl (lv_at hl 0 rfl) ?_
  refine lv_aload_n hx hb dX0_fallInCycle_1 rfl (lv_at hl 0 rfl) ?_
  refine x_get (v := .int (G 8 3)) (T := TX0) C w 0 6 rfl rfl (fun _ h => List.mem_cons_of_mem _ (List.mem_append_right _ (h))) (List.mem_of_getElem? (i := 1) rfl) (by decide) rfl dX0_fallInCycle_2 ?_
  refine x_callVv (wr := []) (w2 := bW h (useG G (G 8 3))) (rest := []) (n := 1) C w hl [.int (G 8 3)] (k_X0_useUp l D cI cS tys ht0 h G (G 8 3) ) gX0_fallInCycle_X0_useUp rfl (by decide +kernel) ⟨Nat.le_of_ble_eq_true rfl, Nat.le_of_ble_eq_true rfl⟩ 0 0 rfl rfl rfl rfl (Nat.le_of_ble_eq_true rfl) [0] [] (by decide) rfl rfl (by decide) (by decide) [0] (by decide) rfl ⟨Nat.zero_le _, Nat.zero_le _⟩ dX0_fallInCycle_5 (fun H locs w => ?_)
  refine lv_aload_n hx hb dX0_fallInCycle_8 rfl (lv_at hl 0 rfl) ?_
  refine x_get (v := .int ((useG G (G 8 3)) 6 0)) (T := TX0) C w 0 0 rfl rfl (fun _ h => List.mem_cons_of_mem _ (List.mem_append_right _ (h))) (List.mem_of_getElem? (i := 2) rfl) (by decide) rfl dX0_fallInCycle_9 ?_
  refine x_ifR_ne (x := (useG G (G 8 3)) 6 0) (tgt := 35) hx hb dX0_fallInCycle_12 (by decide) (fun c12_1 => ?_) (fun c12_1 => ?_)
  ·
    exact x_vret C w (congrArg (bW h) (by funext a; by_cases h6 : a = 6; (subst h6; simp [falG, r6, s2, c12_1]); simp [falG, r6, s2, useG, h6])) dX0_fallInCycle_35
  ·
    refine lv_aload_n hx hb dX0_fallInCycle_15 rfl (lv_at hl 0 rfl) ?_
    refine lv_aload_n hx hb dX0_fallInCycle_16 rfl (lv_at hl 0 rfl) ?_
    refine x_get (v := .int ((useG G (G 8 3)) 6 1)) (T := TX0) C w 0 1 rfl rfl (fun _ h => List.mem_cons_of_mem _ (List.mem_append_right _ (h))) (List.mem_of_getElem? (i := 3) rfl) (by decide) rfl dX0_fallInCycle_17 ?_
    refine lv_iconst (v := 1) hx hb dX0_fallInCycle_20 (by decide +kernel) ?_
    refine lv_iadd (x := (useG G (G 8 3)) 6 1) (y := 1) hx hb dX0_fallInCycle_21 ?_
    refine lv_bipush (v := 90) hx hb dX0_fallInCycle_22 (by decide +kernel) ?_
    refine x_min (x := (((useG G (G 8 3)) 6 1) + 1)) (z := 90) (v := (miI (((useG G (G 8 3)) 6 1) + 1) 90)) C hl (List.mem_of_getElem? (i := 4) rfl) (List.mem_of_getElem? (i := 5) rfl) (List.mem_of_getElem? (i := 6) rfl) (List.mem_of_getElem? (i := 7) rfl) ⟨Nat.le_of_ble_eq_true rfl, Nat.le_of_ble_eq_true rfl⟩ ⟨Nat.zero_le _, Nat.zero_le _⟩ rfl dX0_fallInCycle_24 ?_
    refine x_put (v := .int (miI (((useG G (G 8 3)) 6 1) + 1) 90)) (ty := .int) (T := TX0) (ws2 := bW h (s2 (useG G (G 8 3)) 6 1 (miI (((useG G (G 8 3)) 6 1) + 1) 90))) C w 0 1 rfl rfl (fun _ h => List.mem_cons_of_mem _ (List.mem_append_right _ (h))) tyX0 tyX0_ok nmX0 (List.mem_of_getElem? (i := 3) rfl) (by decide) (Nat.le_of_ble_eq_true rfl) rfl (by decide +kernel) rfl rfl rfl dX0_fallInCycle_27 (fun H locs w => ?_)
    refine lv_aload_n hx hb dX0_fallInCycle_30 rfl (lv_at hl 0 rfl) ?_
    refine lv_iconst (v := 2) hx hb dX0_fallInCycle_31 (by decide +kernel) ?_
    refine x_put (v := .int 2) (ty := .int) (T := TX0) (ws2 := bW h (s2 (s2 (useG G (G 8 3)) 6 1 (miI (((useG G (G 8 3)) 6 1) + 1) 90)) 6 2 2)) C w 0 2 rfl rfl (fun _ h => List.mem_cons_of_mem _ (List.mem_append_right _ (h))) tyX0 tyX0_ok nmX0 (List.mem_of_getElem? (i := 8) rfl) (by decide) (Nat.le_of_ble_eq_true rfl) rfl (by decide +kernel) rfl rfl rfl dX0_fallInCycle_32 (fun H locs w => ?_)
    exact x_vret C w (congrArg (bW h) (by funext a; by_cases h6 : a = 6; (subst h6; simp [falG, r6, s2, c12_1]); simp [falG, r6, s2, useG, h6])) dX0_fallInCycle_35
set_option maxHeartbeats 4000000 in
set_option maxRecDepth 100000 in
theorem k_X0_passTick (l : Launch) (D : va_G) (cI cS : ClassId) (tys : List (ClassId × FieldType)) (ht0 : tys[0]? = some (cI, .int)) (h : Nat) (G : St)  : xI l yX0_passTick wsX0_passTick 3 D tys [.ref h] (bW h G) (bI (endB G = true)) (bW h (tkG G)) := by
  refine x_inI (cc := cX0_passTick) (maxL := 1) (ret := (some .boolean)) (by decide) rfl (Nat.le_of_ble_eq_true rfl) ?_
  intro p e s m args below meth c A ls C w hl
  have C : xC p s m meth c args cX0_passTick 1 wsX0_passTick RX0 D tys (some .boolean) := C
  have hx := C.1.1
  have hb := C.1.2.1
  have hts := C.1.2.2.2.2
  have hown := C.1.2.2.2.1
  have w : xW D A s.heap (bW h G) s.heap [] := w
  have hl : lv_has ls 1 [(0, .ref h)] := hl
  refine lv_aload_n hx hb dX0_passTick_0 rfl (lv_at hl 0 rfl) ?_
  refine x_get (v := .int (G 6 2)) (T := TX0) C w 0 2 rfl rfl (fun _ h => List.mem_cons_of_mem _ (List.mem_append_right _ (h))) (List.mem_of_getElem? (i := 1) rfl) (by decide) rfl dX0_passTick_1 ?_
  refine lv_iconst (v := 1) hx hb dX0_passTick_4 (by decide +kernel) ?_
  refine x_icR_ne (x := G 6 2) (y := 1) (tgt := 14) hx hb dX0_passTick_5 (by decide) (fun c5_1 => ?_) (fun c5_1 => ?_)
  ·
    refine lv_aload_n hx hb dX0_passTick_14 rfl (lv_at hl 0 rfl) ?_
    refine lv_aload_n hx hb dX0_passTick_15 rfl (lv_at hl 0 rfl) ?_
    refine x_get (v := .int (G 6 0)) (T := TX0) C w 0 0 rfl rfl (fun _ h => List.mem_cons_of_mem _ (List.mem_append_right _ (h))) (List.mem_of_getElem? (i := 2) rfl) (by decide) rfl dX0_passTick_16 ?_
    refine lv_aload_n hx hb dX0_passTick_19 rfl (lv_at hl 0 rfl) ?_
    refine x_get (v := .int (G 8 2)) (T := TX0) C w 0 5 rfl rfl (fun _ h => List.mem_cons_of_mem _ (List.mem_append_right _ (h))) (List.mem_of_getElem? (i := 3) rfl) (by decide) rfl dX0_passTick_20 ?_
    refine lv_iadd (x := G 6 0) (y := G 8 2) hx hb dX0_passTick_23 ?_
    refine lv_aload_n hx hb dX0_passTick_24 rfl (lv_at hl 0 rfl) ?_
    refine x_callVi (wr := []) (w2 := bW h G) (rest := [.int ((G 6 0) + (G 8 2)), .ref h]) (n := 0) C w hl [] (k_X0_capacity l D cI cS tys ht0 h G ) gX0_passTick_X0_capacity rfl (by decide +kernel) ⟨Nat.le_of_ble_eq_true rfl, Nat.le_of_ble_eq_true rfl⟩ 0 0 rfl rfl rfl rfl (Nat.le_of_ble_eq_true rfl) [0] [] (by decide) rfl rfl (by decide) (by decide) [0] (by decide) rfl ⟨Nat.zero_le _, Nat.zero_le _⟩ dX0_passTick_25 (fun H locs w => ?_)
    refine x_top (y := capI G) rfl ?_
    refine x_min (x := ((G 6 0) + (G 8 2))) (z := capI G) (v := (miI ((G 6 0) + (G 8 2)) (capI G))) C hl (List.mem_of_getElem? (i := 4) rfl) (List.mem_of_getElem? (i := 5) rfl) (List.mem_of_getElem? (i := 6) rfl) (List.mem_of_getElem? (i := 7) rfl) ⟨Nat.le_of_ble_eq_true rfl, Nat.le_of_ble_eq_true rfl⟩ ⟨Nat.zero_le _, Nat.zero_le _⟩ rfl dX0_passTick_28 ?_
    refine x_put (v := .int (miI ((G 6 0) + (G 8 2)) (capI G))) (ty := .int) (T := TX0) (ws2 := bW h (s2 G 6 0 (miI ((G 6 0) + (G 8 2)) (capI G)))) C w 0 0 rfl rfl (fun _ h => List.mem_cons_of_mem _ (List.mem_append_right _ (h))) tyX0 tyX0_ok nmX0 (List.mem_of_getElem? (i := 2) rfl) (by decide) (Nat.le_of_ble_eq_true rfl) rfl (by decide +kernel) rfl rfl rfl dX0_passTick_31 (fun H locs w => ?_)
    refine lv_aload_n hx hb dX0_passTick_34 rfl (lv_at hl 0 rfl) ?_
    refine x_get (v := .int (G 6 2)) (T := TX0) C w 0 2 rfl rfl (fun _ h => List.mem_cons_of_mem _ (List.mem_append_right _ (h))) (List.mem_of_getElem? (i := 1) rfl) (by decide) rfl dX0_passTick_35 ?_
    refine lv_iconst (v := 2) hx hb dX0_passTick_38 (by decide +kernel) ?_
    refine x_icR_ne (x := G 6 2) (y := 2) (tgt := 60) hx hb dX0_passTick_39 (by decide) (fun c39_2 => ?_) (fun c39_2 => ?_)
    ·
      refine lv_iconst (v := 0) hx hb dX0_passTick_60 (by decide +kernel) ?_
      exact x_zret C w (Or.inl rfl) (by simp [bI, endB, chgI, c5_1, c39_2]) (congrArg (bW h) (by funext a; by_cases h6 : a = 6; (subst h6; simp [tkG, chgI, r6, s2, c5_1, c39_2]); simp [tkG, falG, r6, s2, h6])) dX0_passTick_61
    ·
      refine lv_aload_n hx hb dX0_passTick_42 rfl (lv_at hl 0 rfl) ?_
      refine x_get (v := .int (miI ((G 6 0) + (G 8 2)) (capI G))) (T := TX0) C w 0 0 rfl rfl (fun _ h => List.mem_cons_of_mem _ (List.mem_append_right _ (h))) (List.mem_of_getElem? (i := 2) rfl) (by decide) rfl dX0_passTick_43 ?_
      refine lv_aload_n hx hb dX0_passTick_46 rfl (lv_at hl 0 rfl) ?_
      refine x_callVi (wr := []) (w2 := bW h (s2 G 6 0 (miI ((G 6 0) + (G 8 2)) (capI G)))) (rest := [.int (miI ((G 6 0) + (G 8 2)) (capI G))]) (n := 0) C w hl [] (k_X0_capacity l D cI cS tys ht0 h (s2 G 6 0 (miI ((G 6 0) + (G 8 2)) (capI G))) ) gX0_passTick_X0_capacity rfl (by decide +kernel) ⟨Nat.le_of_ble_eq_true rfl, Nat.le_of_ble_eq_true rfl⟩ 0 0 rfl rfl rfl rfl (Nat.le_of_ble_eq_true rfl) [0] [] (by decide) rfl rfl (by decide) (by decide) [0] (by decide) rfl ⟨Nat.zero_le _, Nat.zero_le _⟩ dX0_passTick_47 (fun H locs w => ?_)
      refine x_top (y := capI G) rfl ?_
      refine x_icR_ne (x := (miI ((G 6 0) + (G 8 2)) (capI G))) (y := capI G) (tgt := 60) hx hb dX0_passTick_50 (by decide) (fun c50_3 => ?_) (fun c50_3 => ?_)
      ·
        refine lv_iconst (v := 0) hx hb dX0_passTick_60 (by decide +kernel) ?_
        exact x_zret C w (Or.inl rfl) (by simp [bI, endB, chgI, c5_1, c39_2, c50_3]) (congrArg (bW h) (by funext a; by_cases h6 : a = 6; (subst h6; simp [tkG, chgI, r6, s2, c5_1, c39_2, c50_3]); simp [tkG, falG, r6, s2, h6])) dX0_passTick_61
      ·
        refine lv_aload_n hx hb dX0_passTick_53 rfl (lv_at hl 0 rfl) ?_
        refine lv_iconst (v := 0) hx hb dX0_passTick_54 (by decide +kernel) ?_
        refine x_put (v := .int 0) (ty := .int) (T := TX0) (ws2 := bW h (s2 (s2 G 6 0 (miI ((G 6 0) + (G 8 2)) (capI G))) 6 2 0)) C w 0 2 rfl rfl (fun _ h => List.mem_cons_of_mem _ (List.mem_append_right _ (h))) tyX0 tyX0_ok nmX0 (List.mem_of_getElem? (i := 1) rfl) (by decide) (Nat.le_of_ble_eq_true rfl) rfl (by decide +kernel) rfl rfl rfl dX0_passTick_55 (fun H locs w => ?_)
        refine lv_iconst (v := 1) hx hb dX0_passTick_58 (by decide +kernel) ?_
        exact x_zret C w (Or.inr rfl) (by simp [bI, endB, chgI, c5_1, c39_2, c50_3]) (congrArg (bW h) (by funext a; by_cases h6 : a = 6; (subst h6; simp [tkG, chgI, r6, s2, c5_1, c39_2, c50_3]); simp [tkG, falG, r6, s2, h6])) dX0_passTick_59
  ·
    refine lv_aload_n hx hb dX0_passTick_8 rfl (lv_at hl 0 rfl) ?_
    refine x_callVv (wr := []) (w2 := bW h (falG G)) (rest := []) (n := 0) C w hl [] (k_X0_fallInCycle l D cI cS tys ht0 h G ) gX0_passTick_X0_fallInCycle rfl (by decide +kernel) ⟨Nat.le_of_ble_eq_true rfl, Nat.le_of_ble_eq_true rfl⟩ 0 0 rfl rfl rfl rfl (Nat.le_of_ble_eq_true rfl) [0] [] (by decide) rfl rfl (by decide) (by decide) [0] (by decide) rfl ⟨Nat.zero_le _, Nat.zero_le _⟩ dX0_passTick_9 (fun H locs w => ?_)
    refine lv_iconst (v := 0) hx hb dX0_passTick_12 (by decide +kernel) ?_
    exact x_zret C w (Or.inl rfl) (by simp [bI, endB, chgI, c5_1]) (congrArg (bW h) (by funext a; by_cases h6 : a = 6; (subst h6; simp [tkG, chgI, r6, s2, c5_1]); simp [tkG, falG, r6, s2, h6])) dX0_passTick_13
set_option maxHeartbeats 4000000 in
set_option maxRecDepth 100000 in
theorem k_X0_setting (l : Launch) (D : va_G) (cI cS : ClassId) (tys : List (ClassId × FieldType)) (ht0 : tys[0]? = some (cI, .int)) (h : Nat) (G : St) (k : Int32)  : xI l yX0_setting wsX0_setting 0 D tys [.ref h, .int k] (bW h G) (stgI G k) (bW h G) := by
  refine x_inI (cc := cX0_setting) (maxL := 2) (ret := (some .int)) (by decide) rfl (Nat.le_of_ble_eq_true rfl) ?_
  intro p e s m args below meth c A ls C w hl
  have C : xC p s m meth c args cX0_setting 2 wsX0_setting RX0 D tys (some .int) := C
  have hx := C.1.1
  have hb := C.1.2.1
  have hts := C.1.2.2.2.2
  have hown := C.1.2.2.2.1
  have w : xW D A s.heap (bW h G) s.heap [] := w
  have hl : lv_has ls 2 [(0, .ref h), (1, .int k)] := hl
  refine lv_iload_n hx hb dX0_setting_0 rfl (lv_at hl 1 rfl) ?_
  by_cases c1_1 : k = (0 : Int32)
  ·
    refine x_top (y := 0) c1_1 ?_
    refine lv_tableIn (x := 0) (off := 27) (tgt := 28) hx hb dX0_setting_1 (by decide) (by decide) rfl (by decide) ?_
    refine lv_aload_n hx hb dX0_setting_28 rfl (lv_at hl 0 rfl) ?_
    refine x_get (v := .int (G 8 0)) (T := TX0) C w 0 3 rfl rfl (fun _ h => List.mem_cons_of_mem _ (List.mem_append_right _ (h))) (List.mem_of_getElem? (i := 1) rfl) (by decide) rfl dX0_setting_29 ?_
    exact x_iret C w (by first | rfl | contradiction | (simp [stgI, c1_1]; done)) rfl dX0_setting_32
  ·
    by_cases c1_2 : k = (1 : Int32)
    ·
      refine x_top (y := 1) c1_2 ?_
      refine lv_tableIn (x := 1) (off := 32) (tgt := 33) hx hb dX0_setting_1 (by decide) (by decide) rfl (by decide) ?_
      refine lv_aload_n hx hb dX0_setting_33 rfl (lv_at hl 0 rfl) ?_
      refine x_get (v := .int (G 8 1)) (T := TX0) C w 0 4 rfl rfl (fun _ h => List.mem_cons_of_mem _ (List.mem_append_right _ (h))) (List.mem_of_getElem? (i := 2) rfl) (by decide) rfl dX0_setting_34 ?_
      exact x_iret C w (by first | rfl | contradiction | (simp [stgI, c1_1, c1_2]; done)) rfl dX0_setting_37
    ·
      by_cases c1_3 : k = (2 : Int32)
      ·
        refine x_top (y := 2) c1_3 ?_
        refine lv_tableIn (x := 2) (off := 37) (tgt := 38) hx hb dX0_setting_1 (by decide) (by decide) rfl (by decide) ?_
        refine lv_aload_n hx hb dX0_setting_38 rfl (lv_at hl 0 rfl) ?_
        refine x_get (v := .int (G 8 2)) (T := TX0) C w 0 5 rfl rfl (fun _ h => List.mem_cons_of_mem _ (List.mem_append_right _ (h))) (List.mem_of_getElem? (i := 3) rfl) (by decide) rfl dX0_setting_39 ?_
        exact x_iret C w (by first | rfl | contradiction | (simp [stgI, c1_1, c1_2, c1_3]; done)) rfl dX0_setting_42
      ·
        refine lv_tableOut (x := k) (tgt := 43) hx hb dX0_setting_1 (by have z0 := lv_neT (a := 0) c1_1 (by decide); have z1 := lv_neT (a := 1) c1_2 (by decide); have z2 := lv_neT (a := 2) c1_3 (by decide); omega) (by decide) ?_
        refine lv_aload_n hx hb dX0_setting_43 rfl (lv_at hl 0 rfl) ?_
        refine x_get (v := .int (G 8 3)) (T := TX0) C w 0 6 rfl rfl (fun _ h => List.mem_cons_of_mem _ (List.mem_append_right _ (h))) (List.mem_of_getElem? (i := 4) rfl) (by decide) rfl dX0_setting_44 ?_
        exact x_iret C w (by first | rfl | contradiction | (simp [stgI, c1_1, c1_2, c1_3]; done)) rfl dX0_setting_47
set_option maxHeartbeats 4000000 in
set_option maxRecDepth 100000 in
theorem k_X0_changeSetting (l : Launch) (D : va_G) (cI cS : ClassId) (tys : List (ClassId × FieldType)) (ht0 : tys[0]? = some (cI, .int)) (h : Nat) (G : St) (k : Int32) (v : Int32)  : xV l yX0_changeSetting wsX0_changeSetting 0 D tys [.ref h, .int k, .int v] (bW h G) (bW h (chsG G k v)) := by
  refine x_inV (cc := cX0_changeSetting) (maxL := 3) (ret := none) (by decide) rfl (Nat.le_of_ble_eq_true rfl) ?_
  intro p e s m args below meth c A ls C w hl
  have C : xC p s m meth c args cX0_changeSetting 3 wsX0_changeSetting RX0 D tys none := C
  have hx := C.1.1
  have hb := C.1.2.1
  have hts := C.1.2.2.2.2
  have hown := C.1.2.2.2.1
  have w : xW D A s.heap (bW h G) s.heap [] := w
  have hl : lv_has ls 3 [(0, .ref h), (1, .int k), (2, .int v)] := hl
  refine lv_iload_n hx hb dX0_changeSetting_0 rfl (lv_at hl 1 rfl) ?_
  by_cases c1_1 : k = (0 : Int32)
  ·
    refine x_top (y := 0) c1_1 ?_
    refine lv_tableIn (x := 0) (off := 27) (tgt := 28) hx hb dX0_changeSetting_1 (by decide) (by decide) rfl (by decide) ?_
    refine lv_aload_n hx hb dX0_changeSetting_28 rfl (lv_at hl 0 rfl) ?_
    refine lv_iload_n hx hb dX0_changeSetting_29 rfl (lv_at hl 2 rfl) ?_
    refine x_put (v := .int v) (ty := .int) (T := TX0) (ws2 := bW h (s2 G 8 0 v)) C w 0 3 rfl rfl (fun _ h => List.mem_cons_of_mem _ (List.mem_append_right _ (h))) tyX0 tyX0_ok nmX0 (List.mem_of_getElem? (i := 1) rfl) (by decide) (Nat.le_of_ble_eq_true rfl) rfl (by decide +kernel) rfl rfl rfl dX0_changeSetting_30 (fun H locs w => ?_)
    refine lv_goto (tgt := 57) hx hb dX0_changeSetting_33 (by decide) ?_
    exact x_vret C w (congrArg (bW h) (by funext a; by_cases h8 : a = 8; (subst h8; simp [chsG, s2, c1_1]); simp [chsG, s2, h8])) dX0_changeSetting_57
  ·
    by_cases c1_2 : k = (1 : Int32)
    ·
      refine x_top (y := 1) c1_2 ?_
      refine lv_tableIn (x := 1) (off := 35) (tgt := 36) hx hb dX0_changeSetting_1 (by decide) (by decide) rfl (by decide) ?_
      refine lv_aload_n hx hb dX0_changeSetting_36 rfl (lv_at hl 0 rfl) ?_
      refine lv_iload_n hx hb dX0_changeSetting_37 rfl (lv_at hl 2 rfl) ?_
      refine x_put (v := .int v) (ty := .int) (T := TX0) (ws2 := bW h (s2 G 8 1 v)) C w 0 4 rfl rfl (fun _ h => List.mem_cons_of_mem _ (List.mem_append_right _ (h))) tyX0 tyX0_ok nmX0 (List.mem_of_getElem? (i := 2) rfl) (by decide) (Nat.le_of_ble_eq_true rfl) rfl (by decide +kernel) rfl rfl rfl dX0_changeSetting_38 (fun H locs w => ?_)
      refine lv_goto (tgt := 57) hx hb dX0_changeSetting_41 (by decide) ?_
      exact x_vret C w (congrArg (bW h) (by funext a; by_cases h8 : a = 8; (subst h8; simp [chsG, s2, c1_1, c1_2]); simp [chsG, s2, h8])) dX0_changeSetting_57
    ·
      by_cases c1_3 : k = (2 : Int32)
      ·
        refine x_top (y := 2) c1_3 ?_
        refine lv_tableIn (x := 2) (off := 43) (tgt := 44) hx hb dX0_changeSetting_1 (by decide) (by decide) rfl (by decide) ?_
        refine lv_aload_n hx hb dX0_changeSetting_44 rfl (lv_at hl 0 rfl) ?_
        refine lv_iload_n hx hb dX0_changeSetting_45 rfl (lv_at hl 2 rfl) ?_
        refine x_put (v := .int v) (ty := .int) (T := TX0) (ws2 := bW h (s2 G 8 2 v)) C w 0 5 rfl rfl (fun _ h => List.mem_cons_of_mem _ (List.mem_append_right _ (h))) tyX0 tyX0_ok nmX0 (List.mem_of_getElem? (i := 3) rfl) (by decide) (Nat.le_of_ble_eq_true rfl) rfl (by decide +kernel) rfl rfl rfl dX0_changeSetting_46 (fun H locs w => ?_)
        refine lv_goto (tgt := 57) hx hb dX0_changeSetting_49 (by decide) ?_
        exact x_vret C w (congrArg (bW h) (by funext a; by_cases h8 : a = 8; (subst h8; simp [chsG, s2, c1_1, c1_2, c1_3]); simp [chsG, s2, h8])) dX0_changeSetting_57
      ·
        refine lv_tableOut (x := k) (tgt := 52) hx hb dX0_changeSetting_1 (by have z0 := lv_neT (a := 0) c1_1 (by decide); have z1 := lv_neT (a := 1) c1_2 (by decide); have z2 := lv_neT (a := 2) c1_3 (by decide); omega) (by decide) ?_
        refine lv_aload_n hx hb dX0_changeSetting_52 rfl (lv_at hl 0 rfl) ?_
        refine lv_iload_n hx hb dX0_changeSetting_53 rfl (lv_at hl 2 rfl) ?_
        refine x_put (v := .int v) (ty := .int) (T := TX0) (ws2 := bW h (s2 G 8 3 v)) C w 0 6 rfl rfl (fun _ h => List.mem_cons_of_mem _ (List.mem_append_right _ (h))) tyX0 tyX0_ok nmX0 (List.mem_of_getElem? (i := 4) rfl) (by decide) (Nat.le_of_ble_eq_true rfl) rfl (by decide +kernel) rfl rfl rfl dX0_changeSetting_54 (fun H locs w => ?_)
        exact x_vret C w (congrArg (bW h) (by funext a; by_cases h8 : a = 8; (subst h8; simp [chsG, s2, c1_1, c1_2, c1_3]); simp [chsG, s2, h8])) dX0_changeSetting_57
set_option maxHeartbeats 4000000 in
set_option maxRecDepth 100000 in
theorem k_X0_copyFrom (l : Launch) (D : va_G) (cI cS : ClassId) (tys : List (ClassId × FieldType)) (ht0 : tys[0]? = some (cI, .int)) (h : Nat) (G : St) (h2 : Nat) (G2 : St)  : xV l yX0_copyFrom wsX0_copyFrom 0 D tys [.ref h, .ref h2] (bW h G ++ bW h2 G2) (bW h G2 ++ bW h2 G2) := by
  refine x_inV (cc := cX0_copyFrom) (maxL := 2) (ret := none) (by decide) rfl (Nat.le_of_ble_eq_true rfl) ?_
  intro p e s m args below meth c A ls C w hl
  have C : xC p s m meth c args cX0_copyFrom 2 wsX0_copyFrom RX0 D tys none := C
  have hx := C.1.1
  have hb := C.1.2.1
  have hts := C.1.2.2.2.2
  have hown := C.1.2.2.2.1
  have w : xW D A s.heap (bW h G ++ bW h2 G2) s.heap [] := w
  have hl : lv_has ls 2 [(0, .ref h), (1, .ref h2)] := hl
  refine lv_aload_n hx hb dX0_copyFrom_0 rfl (lv_at hl 0 rfl) ?_
  refine lv_aload_n hx hb dX0_copyFrom_1 rfl (lv_at hl 1 rfl) ?_
  refine x_get (v := .int (G2 6 0)) (T := TX0) C w 1 0 rfl rfl (fun _ h => List.mem_cons_of_mem _ (List.mem_append_right _ (h))) (List.mem_of_getElem? (i := 1) rfl) (by decide) rfl dX0_copyFrom_2 ?_
  refine x_put (v := .int (G2 6 0)) (ty := .int) (T := TX0) (ws2 := bW h (s2 G 6 0 (G2 6 0)) ++ bW h2 G2) C w 0 0 rfl rfl (fun _ h => List.mem_cons_of_mem _ (List.mem_append_right _ (h))) tyX0 tyX0_ok nmX0 (List.mem_of_getElem? (i := 1) rfl) (by decide) (Nat.le_of_ble_eq_true rfl) rfl (by decide +kernel) rfl rfl rfl dX0_copyFrom_5 (fun H locs w => ?_)
  refine lv_aload_n hx hb dX0_copyFrom_8 rfl (lv_at hl 0 rfl) ?_
  refine lv_aload_n hx hb dX0_copyFrom_9 rfl (lv_at hl 1 rfl) ?_
  refine x_get (v := .int (G2 6 1)) (T := TX0) C w 1 1 rfl rfl (fun _ h => List.mem_cons_of_mem _ (List.mem_append_right _ (h))) (List.mem_of_getElem? (i := 2) rfl) (by decide) rfl dX0_copyFrom_10 ?_
  refine x_put (v := .int (G2 6 1)) (ty := .int) (T := TX0) (ws2 := bW h (s2 (s2 G 6 0 (G2 6 0)) 6 1 (G2 6 1)) ++ bW h2 G2) C w 0 1 rfl rfl (fun _ h => List.mem_cons_of_mem _ (List.mem_append_right _ (h))) tyX0 tyX0_ok nmX0 (List.mem_of_getElem? (i := 2) rfl) (by decide) (Nat.le_of_ble_eq_true rfl) rfl (by decide +kernel) rfl rfl rfl dX0_copyFrom_13 (fun H locs w => ?_)
  refine lv_aload_n hx hb dX0_copyFrom_16 rfl (lv_at hl 0 rfl) ?_
  refine lv_aload_n hx hb dX0_copyFrom_17 rfl (lv_at hl 1 rfl) ?_
  refine x_get (v := .int (G2 6 2)) (T := TX0) C w 1 2 rfl rfl (fun _ h => List.mem_cons_of_mem _ (List.mem_append_right _ (h))) (List.mem_of_getElem? (i := 3) rfl) (by decide) rfl dX0_copyFrom_18 ?_
  refine x_put (v := .int (G2 6 2)) (ty := .int) (T := TX0) (ws2 := bW h (s2 (s2 (s2 G 6 0 (G2 6 0)) 6 1 (G2 6 1)) 6 2 (G2 6 2)) ++ bW h2 G2) C w 0 2 rfl rfl (fun _ h => List.mem_cons_of_mem _ (List.mem_append_right _ (h))) tyX0 tyX0_ok nmX0 (List.mem_of_getElem? (i := 3) rfl) (by decide) (Nat.le_of_ble_eq_true rfl) rfl (by decide +kernel) rfl rfl rfl dX0_copyFrom_21 (fun H locs w => ?_)
  refine lv_aload_n hx hb dX0_copyFrom_24 rfl (lv_at hl 0 rfl) ?_
  refine lv_aload_n hx hb dX0_copyFrom_25 rfl (lv_at hl 1 rfl) ?_
  refine x_get (v := .int (G2 8 0)) (T := TX0) C w 1 3 rfl rfl (fun _ h => List.mem_cons_of_mem _ (List.mem_append_right _ (h))) (List.mem_of_getElem? (i := 4) rfl) (by decide) rfl dX0_copyFrom_26 ?_
  refine x_put (v := .int (G2 8 0)) (ty := .int) (T := TX0) (ws2 := bW h (s2 (s2 (s2 (s2 G 6 0 (G2 6 0)) 6 1 (G2 6 1)) 6 2 (G2 6 2)) 8 0 (G2 8 0)) ++ bW h2 G2) C w 0 3 rfl rfl (fun _ h => List.mem_cons_of_mem _ (List.mem_append_right _ (h))) tyX0 tyX0_ok nmX0 (List.mem_of_getElem? (i := 4) rfl) (by decide) (Nat.le_of_ble_eq_true rfl) rfl (by decide +kernel) rfl rfl rfl dX0_copyFrom_29 (fun H locs w => ?_)
  refine lv_aload_n hx hb dX0_copyFrom_32 rfl (lv_at hl 0 rfl) ?_
  refine lv_aload_n hx hb dX0_copyFrom_33 rfl (lv_at hl 1 rfl) ?_
  refine x_get (v := .int (G2 8 1)) (T := TX0) C w 1 4 rfl rfl (fun _ h => List.mem_cons_of_mem _ (List.mem_append_right _ (h))) (List.mem_of_getElem? (i := 5) rfl) (by decide) rfl dX0_copyFrom_34 ?_
  refine x_put (v := .int (G2 8 1)) (ty := .int) (T := TX0) (ws2 := bW h (s2 (s2 (s2 (s2 (s2 G 6 0 (G2 6 0)) 6 1 (G2 6 1)) 6 2 (G2 6 2)) 8 0 (G2 8 0)) 8 1 (G2 8 1)) ++ bW h2 G2) C w 0 4 rfl rfl (fun _ h => List.mem_cons_of_mem _ (List.mem_append_right _ (h))) tyX0 tyX0_ok nmX0 (List.mem_of_getElem? (i := 5) rfl) (by decide) (Nat.le_of_ble_eq_true rfl) rfl (by decide +kernel) rfl rfl rfl dX0_copyFrom_37 (fun H locs w => ?_)
  refine lv_aload_n hx hb dX0_copyFrom_40 rfl (lv_at hl 0 rfl) ?_
  refine lv_aload_n hx hb dX0_copyFrom_41 rfl (lv_at hl 1 rfl) ?_
  refine x_get (v := .int (G2 8 2)) (T := TX0) C w 1 5 rfl rfl (fun _ h => List.mem_cons_of_mem _ (List.mem_append_right _ (h))) (List.mem_of_getElem? (i := 6) rfl) (by decide) rfl dX0_copyFrom_42 ?_
  refine x_put (v := .int (G2 8 2)) (ty := .int) (T := TX0) (ws2 := bW h (s2 (s2 (s2 (s2 (s2 (s2 G 6 0 (G2 6 0)) 6 1 (G2 6 1)) 6 2 (G2 6 2)) 8 0 (G2 8 0)) 8 1 (G2 8 1)) 8 2 (G2 8 2)) ++ bW h2 G2) C w 0 5 rfl rfl (fun _ h => List.mem_cons_of_mem _ (List.mem_append_right _ (h))) tyX0 tyX0_ok nmX0 (List.mem_of_getElem? (i := 6) rfl) (by decide) (Nat.le_of_ble_eq_true rfl) rfl (by decide +kernel) rfl rfl rfl dX0_copyFrom_45 (fun H locs w => ?_)
  refine lv_aload_n hx hb dX0_copyFrom_48 rfl (lv_at hl 0 rfl) ?_
  refine lv_aload_n hx hb dX0_copyFrom_49 rfl (lv_at hl 1 rfl) ?_
  refine x_get (v := .int (G2 8 3)) (T := TX0) C w 1 6 rfl rfl (fun _ h => List.mem_cons_of_mem _ (List.mem_append_right _ (h))) (List.mem_of_getElem? (i := 7) rfl) (by decide) rfl dX0_copyFrom_50 ?_
  refine x_put (v := .int (G2 8 3)) (ty := .int) (T := TX0) (ws2 := bW h (s2 (s2 (s2 (s2 (s2 (s2 (s2 G 6 0 (G2 6 0)) 6 1 (G2 6 1)) 6 2 (G2 6 2)) 8 0 (G2 8 0)) 8 1 (G2 8 1)) 8 2 (G2 8 2)) 8 3 (G2 8 3)) ++ bW h2 G2) C w 0 6 rfl rfl (fun _ h => List.mem_cons_of_mem _ (List.mem_append_right _ (h))) tyX0 tyX0_ok nmX0 (List.mem_of_getElem? (i := 7) rfl) (by decide) (Nat.le_of_ble_eq_true rfl) rfl (by decide +kernel) rfl rfl rfl dX0_copyFrom_53 (fun H locs w => ?_)
  exact x_vret C w rfl dX0_copyFrom_56
