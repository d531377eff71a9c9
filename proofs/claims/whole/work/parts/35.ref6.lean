set_option maxHeartbeats 1000000 in
set_option maxRecDepth 100000 in
theorem k_X7_isOrder (l : Launch) (D : va_G) (cI cS : ClassId) (tys : List (ClassId × FieldType)) (ht0 : tys[0]? = some (cI, .int)) (v : Int32)  : xI l yX7_isOrder wsX7_isOrder 0 D tys [.int v] (([] : va_W)) (bI (isO v = true)) (([] : va_W)) := by
  refine x_inI (cc := cX7_isOrder) (maxL := 1) (ret := (some .boolean)) (by decide) rfl (Nat.le_of_ble_eq_true rfl) ?_
  intro p e s m args below meth c A ls C w hl
  have C : xC p s m meth c args cX7_isOrder 1 wsX7_isOrder RX7 D tys (some .boolean) := C
  have hx := C.1.1
  have hb := C.1.2.1
  have hts := C.1.2.2.2.2
  have hown := C.1.2.2.2.1
  have w : xW D A s.heap (([] : va_W)) s.heap [] := w
  have hl : lv_has ls 1 [(0, .int v)] := hl
  refine lv_iload_n hx hb dX7_isOrder_0 rfl (lv_at hl 0 rfl) ?_
  refine lv_bipush (v := 114) hx hb dX7_isOrder_1 (by decide +kernel) ?_
  refine x_icR_eq (x := v) (y := 114) (tgt := 36) hx hb dX7_isOrder_3 (by decide) (fun c3_1 => ?_) (fun c3_1 => ?_)
  ·
    refine lv_iconst (v := 1) hx hb dX7_isOrder_36 (by decide +kernel) ?_
    refine lv_goto (tgt := 41) hx hb dX7_isOrder_37 (by decide) ?_
    exact x_zret C w (Or.inr rfl) (by first | exact bI_t (decide_eq_true (by simp [c3_1])) | exact bI_f (fun z => by have q := of_decide_eq_true z; simp [c3_1] at q)) rfl dX7_isOrder_41
  ·
    refine lv_iload_n hx hb dX7_isOrder_6 rfl (lv_at hl 0 rfl) ?_
    refine lv_bipush (v := 119) hx hb dX7_isOrder_7 (by decide +kernel) ?_
    refine x_icR_eq (x := v) (y := 119) (tgt := 36) hx hb dX7_isOrder_9 (by decide) (fun c9_2 => ?_) (fun c9_2 => ?_)
    ·
      refine lv_iconst (v := 1) hx hb dX7_isOrder_36 (by decide +kernel) ?_
      refine lv_goto (tgt := 41) hx hb dX7_isOrder_37 (by decide) ?_
      exact x_zret C w (Or.inr rfl) (by first | exact bI_t (decide_eq_true (by simp [c3_1, c9_2])) | exact bI_f (fun z => by have q := of_decide_eq_true z; simp [c3_1, c9_2] at q)) rfl dX7_isOrder_41
    ·
      refine lv_iload_n hx hb dX7_isOrder_12 rfl (lv_at hl 0 rfl) ?_
      refine lv_bipush (v := 116) hx hb dX7_isOrder_13 (by decide +kernel) ?_
      refine x_icR_eq (x := v) (y := 116) (tgt := 36) hx hb dX7_isOrder_15 (by decide) (fun c15_3 => ?_) (fun c15_3 => ?_)
      ·
        refine lv_iconst (v := 1) hx hb dX7_isOrder_36 (by decide +kernel) ?_
        refine lv_goto (tgt := 41) hx hb dX7_isOrder_37 (by decide) ?_
        exact x_zret C w (Or.inr rfl) (by first | exact bI_t (decide_eq_true (by simp [c3_1, c9_2, c15_3])) | exact bI_f (fun z => by have q := of_decide_eq_true z; simp [c3_1, c9_2, c15_3] at q)) rfl dX7_isOrder_41
      ·
        refine lv_iload_n hx hb dX7_isOrder_18 rfl (lv_at hl 0 rfl) ?_
        refine lv_bipush (v := 108) hx hb dX7_isOrder_19 (by decide +kernel) ?_
        refine x_icR_eq (x := v) (y := 108) (tgt := 36) hx hb dX7_isOrder_21 (by decide) (fun c21_4 => ?_) (fun c21_4 => ?_)
        ·
          refine lv_iconst (v := 1) hx hb dX7_isOrder_36 (by decide +kernel) ?_
          refine lv_goto (tgt := 41) hx hb dX7_isOrder_37 (by decide) ?_
          exact x_zret C w (Or.inr rfl) (by first | exact bI_t (decide_eq_true (by simp [c3_1, c9_2, c15_3, c21_4])) | exact bI_f (fun z => by have q := of_decide_eq_true z; simp [c3_1, c9_2, c15_3, c21_4] at q)) rfl dX7_isOrder_41
        ·
          refine lv_iload_n hx hb dX7_isOrder_24 rfl (lv_at hl 0 rfl) ?_
          refine lv_bipush (v := 99) hx hb dX7_isOrder_25 (by decide +kernel) ?_
          refine x_icR_eq (x := v) (y := 99) (tgt := 36) hx hb dX7_isOrder_27 (by decide) (fun c27_5 => ?_) (fun c27_5 => ?_)
          ·
            refine lv_iconst (v := 1) hx hb dX7_isOrder_36 (by decide +kernel) ?_
            refine lv_goto (tgt := 41) hx hb dX7_isOrder_37 (by decide) ?_
            exact x_zret C w (Or.inr rfl) (by first | exact bI_t (decide_eq_true (by simp [c3_1, c9_2, c15_3, c21_4, c27_5])) | exact bI_f (fun z => by have q := of_decide_eq_true z; simp [c3_1, c9_2, c15_3, c21_4, c27_5] at q)) rfl dX7_isOrder_41
          ·
            refine lv_iload_n hx hb dX7_isOrder_30 rfl (lv_at hl 0 rfl) ?_
            refine lv_bipush (v := 103) hx hb dX7_isOrder_31 (by decide +kernel) ?_
            refine x_icR_ne (x := v) (y := 103) (tgt := 40) hx hb dX7_isOrder_33 (by decide) (fun c33_6 => ?_) (fun c33_6 => ?_)
            ·
              refine lv_iconst (v := 0) hx hb dX7_isOrder_40 (by decide +kernel) ?_
              exact x_zret C w (Or.inl rfl) (by first | exact bI_t (decide_eq_true (by simp [c3_1, c9_2, c15_3, c21_4, c27_5, c33_6])) | exact bI_f (fun z => by have q := of_decide_eq_true z; simp [c3_1, c9_2, c15_3, c21_4, c27_5, c33_6] at q)) rfl dX7_isOrder_41
            ·
              refine lv_iconst (v := 1) hx hb dX7_isOrder_36 (by decide +kernel) ?_
              refine lv_goto (tgt := 41) hx hb dX7_isOrder_37 (by decide) ?_
              exact x_zret C w (Or.inr rfl) (by first | exact bI_t (decide_eq_true (by simp [c3_1, c9_2, c15_3, c21_4, c27_5, c33_6])) | exact bI_f (fun z => by have q := of_decide_eq_true z; simp [c3_1, c9_2, c15_3, c21_4, c27_5, c33_6] at q)) rfl dX7_isOrder_41
set_option maxHeartbeats 1000000 in
set_option maxRecDepth 100000 in
theorem k_X7_isHere (l : Launch) (D : va_G) (cI cS : ClassId) (tys : List (ClassId × FieldType)) (ht0 : tys[0]? = some (cI, .int)) (o : Nat → Nat) (G : St) (K : Nat → Int32) (h : Nat → Int32) (hn : Int32) (T : Nat → Int32) (f : Nat → Int32) (a1 : Int32) (a2 : Int32) (nt : Nat) (hy : vN 60 (f 1)) (hn60 : nt ≤ 60) (hneg : ¬ wth (-1) a1 a2 = true) : xI l yX7_isHere wsX7_isHere 1 D tys [.ref (o 0), .int a1, .int a2] (mR cI o (fl G) K h hn T (nI nt) f) (bI (wth (chI T (nI nt) (f 1)) a1 a2 = true)) (mR cI o (fl G) K h hn T (nI nt) f) := by
  refine x_inI (cc := cX7_isHere) (maxL := 3) (ret := (some .boolean)) (by decide) rfl (Nat.le_of_ble_eq_true rfl) ?_
  intro p e s m args below meth c A ls C w hl
  have C : xC p s m meth c args cX7_isHere 3 wsX7_isHere RX7 D tys (some .boolean) := C
  have hx := C.1.1
  have hb := C.1.2.1
  have hts := C.1.2.2.2.2
  have hown := C.1.2.2.2.1
  have w : xW D A s.heap (mR cI o (fl G) K h hn T (nI nt) f) s.heap [] := w
  have hl : lv_has ls 3 [(0, .ref (o 0)), (1, .int a1), (2, .int a2)] := hl
  obtain ⟨y, hy60, ey⟩ := hy
  refine lv_aload_n hx hb dX7_isHere_0 rfl (lv_at hl 0 rfl) ?_
  refine x_get (v := .int (f 1)) (T := TX7) C w 0 7 rfl rfl (fun _ h => List.mem_cons_of_mem _ (List.mem_append_right _ (h))) (List.mem_of_getElem? (i := 1) rfl) (by decide) rfl dX7_isHere_1 ?_
  refine x_top (y := nI y) ey ?_
  refine lv_aload_n hx hb dX7_isHere_4 rfl (lv_at hl 0 rfl) ?_
  refine x_get (v := .int (nI nt)) (T := TX7) C w 0 5 rfl rfl (fun _ h => List.mem_cons_of_mem _ (List.mem_append_right _ (h))) (List.mem_of_getElem? (i := 2) rfl) (by decide) rfl dX7_isHere_5 ?_
  refine x_icN_ge (i := y) (j := nt) (tgt := 35) hx hb (by omega) (by omega) dX7_isHere_8 (by decide) (fun c8_1 => ?_) (fun c8_1 => ?_)
  ·
    refine lv_iconst (v := 0) hx hb dX7_isHere_35 (by decide +kernel) ?_
    exact x_zret C w (Or.inl rfl) (bI_f (by rw [ey, ch_out (by omega) hy60]; exact hneg)) rfl dX7_isHere_36
  ·
    refine lv_aload_n hx hb dX7_isHere_11 rfl (lv_at hl 0 rfl) ?_
    refine x_get (v := .ref (o 4)) (T := TX7) C w 0 4 rfl rfl (fun _ h => List.mem_cons_of_mem _ (List.mem_append_right _ (h))) (List.mem_of_getElem? (i := 3) rfl) (by decide) rfl dX7_isHere_12 ?_
    refine lv_aload_n hx hb dX7_isHere_15 rfl (lv_at hl 0 rfl) ?_
    refine x_get (v := .int (f 1)) (T := TX7) C w 0 7 rfl rfl (fun _ h => List.mem_cons_of_mem _ (List.mem_append_right _ (h))) (List.mem_of_getElem? (i := 1) rfl) (by decide) rfl dX7_isHere_16 ?_
    refine x_top (y := nI y) ey ?_
    refine x_iald (v := T y) C w 4 0 (y) rfl ht0 rfl (by omega) (by decide) rfl dX7_isHere_19 ?_
    refine lv_i2l (v := Int32.toInt64 (T y)) hx hb dX7_isHere_20 rfl ?_
    refine lv_iload_n hx hb dX7_isHere_21 rfl (lv_at hl 1 rfl) ?_
    refine lv_i2l (v := Int32.toInt64 a1) hx hb dX7_isHere_22 rfl ?_
    refine lv_iload_n hx hb dX7_isHere_23 rfl (lv_at hl 2 rfl) ?_
    refine lv_i2l (v := Int32.toInt64 a2) hx hb dX7_isHere_24 rfl ?_
    refine x_callSi (wr := mR cI o (fl G) K h hn T (nI nt) f) (w2 := mR cI o (fl G) K h hn T (nI nt) f) (rest := []) (n := 3) C w hl [.long (Int32.toInt64 (T y)), .long (Int32.toInt64 a1), .long (Int32.toInt64 a2)] (k_X7_in l D cI cS tys ht0 (Int32.toInt64 (T y)) (Int32.toInt64 a1) (Int32.toInt64 a2) ) gX7_isHere_X7_in rfl (by decide +kernel) ⟨Nat.le_of_ble_eq_true rfl, Nat.le_of_ble_eq_true rfl⟩ rfl rfl (Nat.le_of_ble_eq_true rfl) [] [0, 1, 2, 3, 4] (by decide) rfl rfl (by decide) (by decide) [0, 1, 2, 3, 4] (by decide) rfl ⟨Nat.zero_le _, Nat.zero_le _⟩ dX7_isHere_25 (fun H locs w => ?_)
    refine x_top (y := bI (wth (T y) a1 a2 = true)) (bI_c (lg_wth (T y) a1 a2 (Int32.toInt_toInt64 a1) (Int32.toInt_toInt64 a2))) ?_
    refine x_ifB_eq (P := wth (T y) a1 a2 = true) (tgt := 35) hx hb dX7_isHere_28 (by decide) (fun c28_2 => ?_) (fun c28_2 => ?_)
    ·
      refine lv_iconst (v := 0) hx hb dX7_isHere_35 (by decide +kernel) ?_
      exact x_zret C w (Or.inl rfl) (bI_f (by rw [ey, ch_in (by omega) hn60]; exact c28_2)) rfl dX7_isHere_36
    ·
      refine lv_iconst (v := 1) hx hb dX7_isHere_31 (by decide +kernel) ?_
      refine lv_goto (tgt := 36) hx hb dX7_isHere_32 (by decide) ?_
      exact x_zret C w (Or.inr rfl) (bI_t (by rw [ey, ch_in (by omega) hn60]; exact c28_2)) rfl dX7_isHere_36
set_option maxHeartbeats 1000000 in
set_option maxRecDepth 100000 in
theorem k_X7_takes (l : Launch) (D : va_G) (cI cS : ClassId) (tys : List (ClassId × FieldType)) (ht0 : tys[0]? = some (cI, .int)) (o : Nat → Nat) (G : St) (K : Nat → Int32) (h : Nat → Int32) (hn : Int32) (T : Nat → Int32) (f : Nat → Int32) (a1 : Int32) (nt : Nat) (hy : vN 60 (f 1)) (hn60 : nt ≤ 60) (hneg : ¬ -1 = a1) : xI l yX7_takes wsX7_takes 2 D tys [.ref (o 0), .int a1] (mR cI o (fl G) K h hn T (nI nt) f) (bI (rsB T (nI nt) f a1 = true)) (mR cI o (fl G) K h hn T (nI nt) (rsG T (nI nt) f a1)) := by
  refine x_inI (cc := cX7_takes) (maxL := 3) (ret := (some .boolean)) (by decide) rfl (Nat.le_of_ble_eq_true rfl) ?_
  intro p e s m args below meth c A ls C w hl
  have C : xC p s m meth c args cX7_takes 3 wsX7_takes RX7 D tys (some .boolean) := C
  have hx := C.1.1
  have hb := C.1.2.1
  have hts := C.1.2.2.2.2
  have hown := C.1.2.2.2.1
  have w : xW D A s.heap (mR cI o (fl G) K h hn T (nI nt) f) s.heap [] := w
  have hl : lv_has ls 3 [(0, .ref (o 0)), (1, .int a1)] := hl
  refine lv_aload_n hx hb dX7_takes_0 rfl (lv_at hl 0 rfl) ?_
  refine lv_iload_n hx hb dX7_takes_1 rfl (lv_at hl 1 rfl) ?_
  refine lv_iload_n hx hb dX7_takes_2 rfl (lv_at hl 1 rfl) ?_
  refine x_callVi (wr := []) (w2 := mR cI o (fl G) K h hn T (nI nt) f) (rest := []) (n := 2) C w hl [.int a1, .int a1] (k_X7_isHere l D cI cS tys ht0 o G K h hn T f a1 a1 nt hy hn60 (m1_lit hneg)) gX7_takes_X7_isHere rfl (by decide +kernel) ⟨Nat.le_of_ble_eq_true rfl, Nat.le_of_ble_eq_true rfl⟩ 0 7 rfl rfl rfl rfl (Nat.le_of_ble_eq_true rfl) [0, 1, 2, 3, 4] [] (by decide) rfl rfl (by decide) (by decide) [0, 1, 2, 3, 4] (by decide) rfl ⟨Nat.zero_le _, Nat.zero_le _⟩ dX7_takes_3 (fun H locs w => ?_)
  refine x_top (y := bI (rsB T (nI nt) f a1 = true)) (bI_c (rs_eq T (nI nt) f a1)) ?_
  refine lv_istore_n (lv' := [(2, .int (bI (rsB T (nI nt) f a1 = true))), (0, .ref (o 0)), (1, .int a1)]) hx hb dX7_takes_6 rfl hl (by decide) rfl (fun ls hl => ?_)
  refine lv_aload_n hx hb dX7_takes_7 rfl (lv_at hl 1 rfl) ?_
  refine lv_dup hx hb dX7_takes_8 rfl ?_
  refine x_get (v := .int (f 1)) (T := TX7) C w 0 7 rfl rfl (fun _ h => List.mem_cons_of_mem _ (List.mem_append_right _ (h))) (List.mem_of_getElem? (i := 1) rfl) (by decide) rfl dX7_takes_9 ?_
  refine lv_iload_n hx hb dX7_takes_12 rfl (lv_at hl 0 rfl) ?_
  refine x_ifB_eq (P := rsB T (nI nt) f a1 = true) (tgt := 20) hx hb dX7_takes_13 (by decide) (fun c13_1 => ?_) (fun c13_1 => ?_)
  ·
    refine lv_iconst (v := 0) hx hb dX7_takes_20 (by decide +kernel) ?_
    refine lv_iadd (x := f 1) (y := 0) hx hb dX7_takes_21 ?_
    refine x_put (v := .int ((f 1) + 0)) (ty := .int) (T := TX7) (ws2 := mR cI o (fl G) K h hn T (nI nt) (upd f 1 ((f 1) + 0))) C w 0 7 rfl rfl (fun _ h => List.mem_cons_of_mem _ (List.mem_append_right _ (h))) tyX7 tyX7_ok nmX7 (List.mem_of_getElem? (i := 1) rfl) (by decide) (Nat.le_of_ble_eq_true rfl) rfl (by decide +kernel) rfl rfl (mRs7 _ _ _ _ _ _ _ _ _ _) dX7_takes_22 (fun H locs w => ?_)
    refine lv_iload_n hx hb dX7_takes_25 rfl (lv_at hl 0 rfl) ?_
    exact x_zret C w (bI_01 _) rfl (by rw [rs_n c13_1]) dX7_takes_26
  ·
    refine lv_iconst (v := 1) hx hb dX7_takes_16 (by decide +kernel) ?_
    refine lv_goto (tgt := 21) hx hb dX7_takes_17 (by decide) ?_
    refine lv_iadd (x := f 1) (y := 1) hx hb dX7_takes_21 ?_
    refine x_put (v := .int ((f 1) + 1)) (ty := .int) (T := TX7) (ws2 := mR cI o (fl G) K h hn T (nI nt) (upd f 1 ((f 1) + 1))) C w 0 7 rfl rfl (fun _ h => List.mem_cons_of_mem _ (List.mem_append_right _ (h))) tyX7 tyX7_ok nmX7 (List.mem_of_getElem? (i := 1) rfl) (by decide) (Nat.le_of_ble_eq_true rfl) rfl (by decide +kernel) rfl rfl (mRs7 _ _ _ _ _ _ _ _ _ _) dX7_takes_22 (fun H locs w => ?_)
    refine lv_iload_n hx hb dX7_takes_25 rfl (lv_at hl 0 rfl) ?_
    exact x_zret C w (bI_01 _) rfl (by rw [rs_y c13_1]) dX7_takes_26
set_option maxHeartbeats 1000000 in
set_option maxRecDepth 100000 in
theorem k_X7_takesNumber (l : Launch) (D : va_G) (cI cS : ClassId) (tys : List (ClassId × FieldType)) (ht0 : tys[0]? = some (cI, .int)) (o : Nat → Nat) (G : St) (K : Nat → Int32) (h : Nat → Int32) (hn : Int32) (T : Nat → Int32) (f : Nat → Int32) (nt : Nat) (hy : vN 60 (f 1)) (hn60 : nt ≤ 60) : xI l yX7_takesNumber wsX7_takesNumber 2 D tys [.ref (o 0)] (mR cI o (fl G) K h hn T (nI nt) f) (bI (tnB T (nI nt) f = true)) (mR cI o (fl G) K h hn T (nI nt) (tnG T (nI nt) f)) := by
  refine x_inI (cc := cX7_takesNumber) (maxL := 2) (ret := (some .boolean)) (by decide) rfl (Nat.le_of_ble_eq_true rfl) ?_
  intro p e s m args below meth c A ls C w hl
  have C : xC p s m meth c args cX7_takesNumber 2 wsX7_takesNumber RX7 D tys (some .boolean) := C
  have hx := C.1.1
  have hb := C.1.2.1
  have hts := C.1.2.2.2.2
  have hown := C.1.2.2.2.1
  have w : xW D A s.heap (mR cI o (fl G) K h hn T (nI nt) f) s.heap [] := w
  have hl : lv_has ls 2 [(0, .ref (o 0))] := hl
  obtain ⟨y, hy60, ey⟩ := hy
  refine lv_aload_n hx hb dX7_takesNumber_0 rfl (lv_at hl 0 rfl) ?_
  refine x_get (v := .int (f 1)) (T := TX7) C w 0 7 rfl rfl (fun _ h => List.mem_cons_of_mem _ (List.mem_append_right _ (h))) (List.mem_of_getElem? (i := 1) rfl) (by decide) rfl dX7_takesNumber_1 ?_
  refine x_top (y := nI y) ey ?_
  refine lv_istore_n (lv' := [(1, .int (nI y)), (0, .ref (o 0))]) hx hb dX7_takesNumber_4 rfl hl (by decide) rfl (fun ls hl => ?_)
  refine lv_aload_n hx hb dX7_takesNumber_5 rfl (lv_at hl 1 rfl) ?_
  refine lv_iconst (v := 0) hx hb dX7_takesNumber_6 (by decide +kernel) ?_
  refine x_put (v := .int 0) (ty := .int) (T := TX7) (ws2 := mR cI o (fl G) K h hn T (nI nt) (upd f 4 0)) C w 0 10 rfl rfl (fun _ h => List.mem_cons_of_mem _ (List.mem_append_right _ (h))) tyX7 tyX7_ok nmX7 (List.mem_of_getElem? (i := 2) rfl) (by decide) (Nat.le_of_ble_eq_true rfl) rfl (by decide +kernel) rfl rfl (mRs10 _ _ _ _ _ _ _ _ _ _) dX7_takesNumber_7 (fun H locs w => ?_)
  have loop_10 : ∀ (n : Nat) (k : Nat) (v : Nat) (r : Int32), k < n → (k + v = y + 3) → (y ≤ v) → (rnF T (nI nt) k r (nI v) = rnF T (nI nt) 3 0 (nI y)) → (v = y ∨ wth (chI T (nI nt) (nI y)) 48 57 = true) → (v ≤ 60) → ∀ (H : Heap) (locs : List Loc), xW D A s.heap (mR cI o (fl G) K h hn T (nI nt) (upd (upd f 4 r) 1 (nI v))) H locs → ∀ ls : Array Slot, lv_has ls 2 [(1, .int (nI y)), (0, .ref (o 0))] → W p l e (rmd 2) s m args below meth c H locs 0 0 (MQ below (xQi D tys (bI (tnB T (nI nt) f = true)) (mR cI o (fl G) K h hn T (nI nt) (tnG T (nI nt) f)) A) args s 0 0 A) (F0 m 10 ls []) := by
    intro n
    induction n with
    | zero => intro k v r hm; exact absurd hm (Nat.not_lt_zero _)
    | succ n ih =>
      intro k v r hm hkv hyv hq hd hv60 H locs w ls hl
      refine lv_aload_n hx hb dX7_takesNumber_10 rfl (lv_at hl 1 rfl) ?_
      refine x_get (v := .int (nI v)) (T := TX7) C w 0 7 rfl rfl (fun _ h => List.mem_cons_of_mem _ (List.mem_append_right _ (h))) (List.mem_of_getElem? (i := 1) rfl) (by decide) rfl dX7_takesNumber_11 ?_
      refine lv_iload_n hx hb dX7_takesNumber_14 rfl (lv_at hl 0 rfl) ?_
      refine lv_iconst (v := 3) hx hb dX7_takesNumber_15 (by decide +kernel) ?_
      refine x_iaddN (i := y) (j := 3) hx hb dX7_takesNumber_16 ?_
      refine x_icN_ge (i := v) (j := y + 3) (tgt := 68) hx hb (by omega) (by omega) dX7_takesNumber_17 (by decide) (fun c17_1 => ?_) (fun c17_1 => ?_)
      ·
        obtain rfl : k = 0 := by omega
        have hE3 : (r, nI v) = rnF T (nI nt) 3 0 (nI y) := hq
        refine lv_aload_n hx hb dX7_takesNumber_68 rfl (lv_at hl 1 rfl) ?_
        refine x_get (v := .int (nI v)) (T := TX7) C w 0 7 rfl rfl (fun _ h => List.mem_cons_of_mem _ (List.mem_append_right _ (h))) (List.mem_of_getElem? (i := 1) rfl) (by decide) rfl dX7_takesNumber_69 ?_
        refine lv_iload_n hx hb dX7_takesNumber_72 rfl (lv_at hl 0 rfl) ?_
        refine x_icN_le (i := v) (j := y) (tgt := 80) hx hb (by omega) (by omega) dX7_takesNumber_73 (by decide) (fun c73_2 => ?_) (fun c73_2 => ?_)
        ·
          exact absurd c73_2 (by omega)
        ·
          refine lv_iconst (v := 1) hx hb dX7_takesNumber_76 (by decide +kernel) ?_
          refine lv_goto (tgt := 81) hx hb dX7_takesNumber_77 (by decide) ?_
          exact x_zret C w (Or.inr rfl) (bI_t (by unfold tnB; rw [ey]; exact hd.resolve_left (by omega))) (by unfold tnG; rw [ey, ← hE3]) dX7_takesNumber_81
      ·
        obtain ⟨k2, rfl⟩ : ∃ z, k = z + 1 := ⟨k - 1, by omega⟩
        refine lv_aload_n hx hb dX7_takesNumber_20 rfl (lv_at hl 1 rfl) ?_
        refine lv_bipush (v := 48) hx hb dX7_takesNumber_21 (by decide +kernel) ?_
        refine lv_bipush (v := 57) hx hb dX7_takesNumber_23 (by decide +kernel) ?_
        refine x_callVi (wr := []) (w2 := mR cI o (fl G) K h hn T (nI nt) (upd (upd f 4 r) 1 (nI v))) (rest := []) (n := 2) C w hl [.int 48, .int 57] (k_X7_isHere l D cI cS tys ht0 o G K h hn T (upd (upd f 4 r) 1 (nI v)) 48 57 nt ⟨v, hv60, rfl⟩ hn60 (by decide)) gX7_takesNumber_X7_isHere rfl (by decide +kernel) ⟨Nat.le_of_ble_eq_true rfl, Nat.le_of_ble_eq_true rfl⟩ 0 7 rfl rfl rfl rfl (Nat.le_of_ble_eq_true rfl) [0, 1, 2, 3, 4] [] (by decide) rfl rfl (by decide) (by decide) [0, 1, 2, 3, 4] (by decide) rfl ⟨Nat.zero_le _, Nat.zero_le _⟩ dX7_takesNumber_25 (fun H locs w => ?_)
        refine x_ifB_eq (P := wth (chI T (nI nt) (nI v)) 48 57 = true) (tgt := 68) hx hb dX7_takesNumber_28 (by decide) (fun c28_3 => ?_) (fun c28_3 => ?_)
        ·
          have hE3 : (r, nI v) = rnF T (nI nt) 3 0 (nI y) := by rw [← hq, rnF, if_neg c28_3]
          refine lv_aload_n hx hb dX7_takesNumber_68 rfl (lv_at hl 1 rfl) ?_
          refine x_get (v := .int (nI v)) (T := TX7) C w 0 7 rfl rfl (fun _ h => List.mem_cons_of_mem _ (List.mem_append_right _ (h))) (List.mem_of_getElem? (i := 1) rfl) (by decide) rfl dX7_takesNumber_69 ?_
          refine lv_iload_n hx hb dX7_takesNumber_72 rfl (lv_at hl 0 rfl) ?_
          refine x_icN_le (i := v) (j := y) (tgt := 80) hx hb (by omega) (by omega) dX7_takesNumber_73 (by decide) (fun c73_4 => ?_) (fun c73_4 => ?_)
          ·
            refine lv_iconst (v := 0) hx hb dX7_takesNumber_80 (by decide +kernel) ?_
            exact x_zret C w (Or.inl rfl) (bI_f (by unfold tnB; rw [ey, show y = v by omega]; exact c28_3)) (by unfold tnG; rw [ey, ← hE3]) dX7_takesNumber_81
          ·
            refine lv_iconst (v := 1) hx hb dX7_takesNumber_76 (by decide +kernel) ?_
            refine lv_goto (tgt := 81) hx hb dX7_takesNumber_77 (by decide) ?_
            exact x_zret C w (Or.inr rfl) (bI_t (by unfold tnB; rw [ey]; exact hd.resolve_left (by omega))) (by unfold tnG; rw [ey, ← hE3]) dX7_takesNumber_81
        ·
          have hvn := ch_lt hv60 (by decide) c28_3
          refine lv_aload_n hx hb dX7_takesNumber_31 rfl (lv_at hl 1 rfl) ?_
          refine lv_bipush (v := 10) hx hb dX7_takesNumber_32 (by decide +kernel) ?_
          refine lv_aload_n hx hb dX7_takesNumber_34 rfl (lv_at hl 1 rfl) ?_
          refine x_get (v := .int r) (T := TX7) C w 0 10 rfl rfl (fun _ h => List.mem_cons_of_mem _ (List.mem_append_right _ (h))) (List.mem_of_getElem? (i := 2) rfl) (by decide) rfl dX7_takesNumber_35 ?_
          refine lv_imul (x := 10) (y := r) hx hb dX7_takesNumber_38 ?_
          refine lv_aload_n hx hb dX7_takesNumber_39 rfl (lv_at hl 1 rfl) ?_
          refine x_get (v := .ref (o 4)) (T := TX7) C w 0 4 rfl rfl (fun _ h => List.mem_cons_of_mem _ (List.mem_append_right _ (h))) (List.mem_of_getElem? (i := 3) rfl) (by decide) rfl dX7_takesNumber_40 ?_
          refine lv_aload_n hx hb dX7_takesNumber_43 rfl (lv_at hl 1 rfl) ?_
          refine x_get (v := .int (nI v)) (T := TX7) C w 0 7 rfl rfl (fun _ h => List.mem_cons_of_mem _ (List.mem_append_right _ (h))) (List.mem_of_getElem? (i := 1) rfl) (by decide) rfl dX7_takesNumber_44 ?_
          refine x_iald (v := T v) C w 4 0 (v) rfl ht0 rfl (by omega) (by decide) rfl dX7_takesNumber_47 ?_
          refine x_top (y := (chI T (nI nt) (nI v))) (ch_in hvn hn60).symm ?_
          refine lv_iadd (x := (10 * r)) (y := (chI T (nI nt) (nI v))) hx hb dX7_takesNumber_48 ?_
          refine lv_bipush (v := 48) hx hb dX7_takesNumber_49 (by decide +kernel) ?_
          refine lv_isub (x := ((10 * r) + (chI T (nI nt) (nI v)))) (y := 48) hx hb dX7_takesNumber_51 ?_
          refine x_put (v := .int (((10 * r) + (chI T (nI nt) (nI v))) - 48)) (ty := .int) (T := TX7) (ws2 := mR cI o (fl G) K h hn T (nI nt) (upd (upd (upd f 4 r) 1 (nI v)) 4 (((10 * r) + (chI T (nI nt) (nI v))) - 48))) C w 0 10 rfl rfl (fun _ h => List.mem_cons_of_mem _ (List.mem_append_right _ (h))) tyX7 tyX7_ok nmX7 (List.mem_of_getElem? (i := 2) rfl) (by decide) (Nat.le_of_ble_eq_true rfl) rfl (by decide +kernel) rfl rfl (mRs10 _ _ _ _ _ _ _ _ _ _) dX7_takesNumber_52 (fun H locs w => ?_)
          refine lv_aload_n hx hb dX7_takesNumber_55 rfl (lv_at hl 1 rfl) ?_
          refine lv_dup hx hb dX7_takesNumber_56 rfl ?_
          refine x_get (v := .int (nI v)) (T := TX7) C w 0 7 rfl rfl (fun _ h => List.mem_cons_of_mem _ (List.mem_append_right _ (h))) (List.mem_of_getElem? (i := 1) rfl) (by decide) rfl dX7_takesNumber_57 ?_
          refine lv_iconst (v := 1) hx hb dX7_takesNumber_60 (by decide +kernel) ?_
          refine x_iaddN (i := v) (j := 1) hx hb dX7_takesNumber_61 ?_
          refine x_put (v := .int (nI (v + 1))) (ty := .int) (T := TX7) (ws2 := mR cI o (fl G) K h hn T (nI nt) (upd (upd (upd (upd f 4 r) 1 (nI v)) 4 (((10 * r) + (chI T (nI nt) (nI v))) - 48)) 1 (nI (v + 1)))) C w 0 7 rfl rfl (fun _ h => List.mem_cons_of_mem _ (List.mem_append_right _ (h))) tyX7 tyX7_ok nmX7 (List.mem_of_getElem? (i := 1) rfl) (by decide) (Nat.le_of_ble_eq_true rfl) rfl (by decide +kernel) rfl rfl (mRs7 _ _ _ _ _ _ _ _ _ _) dX7_takesNumber_62 (fun H locs w => ?_)
          refine lv_goto (tgt := 10) hx hb dX7_takesNumber_65 (by decide) ?_
          have hl : lv_has ls 2 [(1, .int (nI y)), (0, .ref (o 0))] := lv_eqL (lv_sub (l' := [(1, .int (nI y)), (0, .ref (o 0))]) hl [0, 1] rfl) (cg2 List.cons rfl (cg2 List.cons rfl rfl))
          have w : xW D A s.heap (mR cI o (fl G) K h hn T (nI nt) (upd (upd f 4 (((10 * r) + (chI T (nI nt) (nI v))) - 48)) 1 (nI (v + 1)))) _ _ := x_ws (by rw [up_step]) w
          exact ih k2 (v + 1) (((10 * r) + (chI T (nI nt) (nI v))) - 48) (by omega) (by omega) (by omega) (by rw [← hq, rnF, if_pos c28_3, show nI v + 1 = nI (v + 1) from nI_add v 1]) (Or.inr (by rcases hd with z | z <;> first | exact z | (rw [← z]; exact c28_3))) (by omega) _ _ w _ hl
  have hl : lv_has ls 2 [(1, .int (nI y)), (0, .ref (o 0))] := lv_eqL (lv_sub (l' := [(1, .int (nI y)), (0, .ref (o 0))]) hl [0, 1] rfl) (cg2 List.cons rfl (cg2 List.cons rfl rfl))
  have w : xW D A s.heap (mR cI o (fl G) K h hn T (nI nt) (upd (upd f 4 0) 1 (nI y))) _ _ := x_ws (by rw [← up_init ey]) w
  exact loop_10 (4) 3 y 0 (by omega) (by omega) (Nat.le_refl _) rfl (Or.inl rfl) hy60 _ _ w _ hl
set_option maxHeartbeats 1000000 in
set_option maxRecDepth 100000 in
theorem k_X7_readsOrder (l : Launch) (D : va_G) (cI cS : ClassId) (tys : List (ClassId × FieldType)) (ht0 : tys[0]? = some (cI, .int)) (o : Nat → Nat) (G : St) (K : Nat → Int32) (h : Nat → Int32) (hn : Int32) (T : Nat → Int32) (f : Nat → Int32) (nt : Nat) (hx0 : ∃ v, v < nt ∧ f 0 = nI v) (hn60 : nt ≤ 60) : xI l yX7_readsOrder wsX7_readsOrder 3 D tys [.ref (o 0)] (mR cI o (fl G) K h hn T (nI nt) f) (bI (roB T (nI nt) f = true)) (mR cI o (fl G) K h hn T (nI nt) (roG T (nI nt) f)) := by
  refine x_inI (cc := cX7_readsOrder) (maxL := 2) (ret := (some .boolean)) (by decide) rfl (Nat.le_of_ble_eq_true rfl) ?_
  intro p e s m args below meth c A ls C w hl
  have C : xC p s m meth c args cX7_readsOrder 2 wsX7_readsOrder RX7 D tys (some .boolean) := C
  have hx := C.1.1
  have hb := C.1.2.1
  have hts := C.1.2.2.2.2
  have hown := C.1.2.2.2.1
  have w : xW D A s.heap (mR cI o (fl G) K h hn T (nI nt) f) s.heap [] := w
  have hl : lv_has ls 2 [(0, .ref (o 0))] := hl
  obtain ⟨v, hv, ex0⟩ := id hx0
  refine lv_aload_n hx hb dX7_readsOrder_0 rfl (lv_at hl 0 rfl) ?_
  refine lv_aload_n hx hb dX7_readsOrder_1 rfl (lv_at hl 0 rfl) ?_
  refine x_get (v := .int (f 0)) (T := TX7) C w 0 6 rfl rfl (fun _ h => List.mem_cons_of_mem _ (List.mem_append_right _ (h))) (List.mem_of_getElem? (i := 1) rfl) (by decide) rfl dX7_readsOrder_2 ?_
  refine x_put (v := .int (f 0)) (ty := .int) (T := TX7) (ws2 := mR cI o (fl G) K h hn T (nI nt) (upd f 1 (f 0))) C w 0 7 rfl rfl (fun _ h => List.mem_cons_of_mem _ (List.mem_append_right _ (h))) tyX7 tyX7_ok nmX7 (List.mem_of_getElem? (i := 2) rfl) (by decide) (Nat.le_of_ble_eq_true rfl) rfl (by decide +kernel) rfl rfl (mRs7 _ _ _ _ _ _ _ _ _ _) dX7_readsOrder_5 (fun H locs w => ?_)
  refine lv_aload_n hx hb dX7_readsOrder_8 rfl (lv_at hl 0 rfl) ?_
  refine x_get (v := .ref (o 4)) (T := TX7) C w 0 4 rfl rfl (fun _ h => List.mem_cons_of_mem _ (List.mem_append_right _ (h))) (List.mem_of_getElem? (i := 3) rfl) (by decide) rfl dX7_readsOrder_9 ?_
  refine lv_aload_n hx hb dX7_readsOrder_12 rfl (lv_at hl 0 rfl) ?_
  refine x_get (v := .int (f 0)) (T := TX7) C w 0 6 rfl rfl (fun _ h => List.mem_cons_of_mem _ (List.mem_append_right _ (h))) (List.mem_of_getElem? (i := 1) rfl) (by decide) rfl dX7_readsOrder_13 ?_
  refine x_top (y := nI v) ex0 ?_
  refine x_iald (v := T v) C w 4 0 (v) rfl ht0 rfl (by omega) (by decide) rfl dX7_readsOrder_16 ?_
  refine x_top (y := (T (ix (f 0)))) (by rw [ex0, ix_nI (by omega)]) ?_
  refine lv_istore_n (lv' := [(1, .int (T (ix (f 0)))), (0, .ref (o 0))]) hx hb dX7_readsOrder_17 rfl hl (by decide) rfl (fun ls hl => ?_)
  refine lv_iload_n hx hb dX7_readsOrder_18 rfl (lv_at hl 0 rfl) ?_
  refine x_callSi (wr := mR cI o (fl G) K h hn T (nI nt) (upd f 1 (f 0))) (w2 := mR cI o (fl G) K h hn T (nI nt) (upd f 1 (f 0))) (rest := []) (n := 1) C w hl [.int (T (ix (f 0)))] (k_X7_isOrder l D cI cS tys ht0 (T (ix (f 0))) ) gX7_readsOrder_X7_isOrder rfl (by decide +kernel) ⟨Nat.le_of_ble_eq_true rfl, Nat.le_of_ble_eq_true rfl⟩ rfl rfl (Nat.le_of_ble_eq_true rfl) [] [0, 1, 2, 3, 4] (by decide) rfl rfl (by decide) (by decide) [0, 1, 2, 3, 4] (by decide) rfl ⟨Nat.zero_le _, Nat.zero_le _⟩ dX7_readsOrder_19 (fun H locs w => ?_)
  refine x_ifB_ne (P := isO (T (ix (f 0))) = true) (tgt := 27) hx hb dX7_readsOrder_22 (by decide) (fun c22_1 => ?_) (fun c22_1 => ?_)
  ·
    refine lv_aload_n hx hb dX7_readsOrder_27 rfl (lv_at hl 1 rfl) ?_
    refine lv_dup hx hb dX7_readsOrder_28 rfl ?_
    refine x_get (v := .int (f 0)) (T := TX7) C w 0 7 rfl rfl (fun _ h => List.mem_cons_of_mem _ (List.mem_append_right _ (h))) (List.mem_of_getElem? (i := 2) rfl) (by decide) rfl dX7_readsOrder_29 ?_
    refine lv_iconst (v := 1) hx hb dX7_readsOrder_32 (by decide +kernel) ?_
    refine lv_iadd (x := f 0) (y := 1) hx hb dX7_readsOrder_33 ?_
    refine x_put (v := .int ((f 0) + 1)) (ty := .int) (T := TX7) (ws2 := mR cI o (fl G) K h hn T (nI nt) (upd (upd f 1 (f 0)) 1 ((f 0) + 1))) C w 0 7 rfl rfl (fun _ h => List.mem_cons_of_mem _ (List.mem_append_right _ (h))) tyX7 tyX7_ok nmX7 (List.mem_of_getElem? (i := 2) rfl) (by decide) (Nat.le_of_ble_eq_true rfl) rfl (by decide +kernel) rfl rfl (mRs7 _ _ _ _ _ _ _ _ _ _) dX7_readsOrder_34 (fun H locs w => ?_)
    have w : xW D A s.heap (mR cI o (fl G) K h hn T (nI nt) (ro0 f)) _ _ := w
    refine lv_iload_n hx hb dX7_readsOrder_37 rfl (lv_at hl 0 rfl) ?_
    refine lv_bipush (v := 99) hx hb dX7_readsOrder_38 (by decide +kernel) ?_
    refine x_icR_eq (x := (T (ix (f 0)))) (y := 99) (tgt := 98) hx hb dX7_readsOrder_40 (by decide) (fun c40_2 => ?_) (fun c40_2 => ?_)
    ·
      refine lv_aload_n hx hb dX7_readsOrder_98 rfl (lv_at hl 1 rfl) ?_
      refine lv_bipush (v := 59) hx hb dX7_readsOrder_99 (by decide +kernel) ?_
      refine x_callVi (wr := []) (w2 := mR cI o (fl G) K h hn T (nI nt) (rsG T (nI nt) (ro0 f) 59)) (rest := []) (n := 1) C w hl [.int 59] (k_X7_takes l D cI cS tys ht0 o G K h hn T (ro0 f) 59 nt (ro0_vN hn60 hx0) hn60 (by decide)) gX7_readsOrder_X7_takes rfl (by decide +kernel) ⟨Nat.le_of_ble_eq_true rfl, Nat.le_of_ble_eq_true rfl⟩ 0 7 rfl rfl rfl rfl (Nat.le_of_ble_eq_true rfl) [0, 1, 2, 3, 4] [] (by decide) rfl rfl (by decide) (by decide) [0, 1, 2, 3, 4] (by decide) rfl ⟨Nat.zero_le _, Nat.zero_le _⟩ dX7_readsOrder_101 (fun H locs w => ?_)
      exact x_zret C w (bI_01 _) (by unfold roB; simp only [if_pos c22_1, if_pos c40_2]) (by unfold roG; simp only [if_pos c22_1, if_pos c40_2]) dX7_readsOrder_104
    ·
      refine lv_iload_n hx hb dX7_readsOrder_43 rfl (lv_at hl 0 rfl) ?_
      refine lv_bipush (v := 103) hx hb dX7_readsOrder_44 (by decide +kernel) ?_
      refine x_icR_eq (x := (T (ix (f 0)))) (y := 103) (tgt := 98) hx hb dX7_readsOrder_46 (by decide) (fun c46_3 => ?_) (fun c46_3 => ?_)
      ·
        refine lv_aload_n hx hb dX7_readsOrder_98 rfl (lv_at hl 1 rfl) ?_
        refine lv_bipush (v := 59) hx hb dX7_readsOrder_99 (by decide +kernel) ?_
        refine x_callVi (wr := []) (w2 := mR cI o (fl G) K h hn T (nI nt) (rsG T (nI nt) (ro0 f) 59)) (rest := []) (n := 1) C w hl [.int 59] (k_X7_takes l D cI cS tys ht0 o G K h hn T (ro0 f) 59 nt (ro0_vN hn60 hx0) hn60 (by decide)) gX7_readsOrder_X7_takes rfl (by decide +kernel) ⟨Nat.le_of_ble_eq_true rfl, Nat.le_of_ble_eq_true rfl⟩ 0 7 rfl rfl rfl rfl (Nat.le_of_ble_eq_true rfl) [0, 1, 2, 3, 4] [] (by decide) rfl rfl (by decide) (by decide) [0, 1, 2, 3, 4] (by decide) rfl ⟨Nat.zero_le _, Nat.zero_le _⟩ dX7_readsOrder_101 (fun H locs w => ?_)
        exact x_zret C w (bI_01 _) (by unfold roB; simp only [if_pos c22_1, if_neg c40_2, if_pos c46_3]) (by unfold roG; simp only [if_pos c22_1, if_neg c40_2, if_pos c46_3]) dX7_readsOrder_104
      ·
        refine lv_aload_n hx hb dX7_readsOrder_49 rfl (lv_at hl 1 rfl) ?_
        refine x_callVi (wr := []) (w2 := mR cI o (fl G) K h hn T (nI nt) (tnG T (nI nt) (ro0 f))) (rest := []) (n := 0) C w hl [] (k_X7_takesNumber l D cI cS tys ht0 o G K h hn T (ro0 f) nt (ro0_vN hn60 hx0) hn60) gX7_readsOrder_X7_takesNumber rfl (by decide +kernel) ⟨Nat.le_of_ble_eq_true rfl, Nat.le_of_ble_eq_true rfl⟩ 0 7 rfl rfl rfl rfl (Nat.le_of_ble_eq_true rfl) [0, 1, 2, 3, 4] [] (by decide) rfl rfl (by decide) (by decide) [0, 1, 2, 3, 4] (by decide) rfl ⟨Nat.zero_le _, Nat.zero_le _⟩ dX7_readsOrder_50 (fun H locs w => ?_)
        refine x_ifB_ne (P := tnB T (nI nt) (ro0 f) = true) (tgt := 58) hx hb dX7_readsOrder_53 (by decide) (fun c53_4 => ?_) (fun c53_4 => ?_)
        ·
          refine lv_aload_n hx hb dX7_readsOrder_58 rfl (lv_at hl 1 rfl) ?_
          refine lv_aload_n hx hb dX7_readsOrder_59 rfl (lv_at hl 1 rfl) ?_
          refine x_get (v := .int ((tnG T (nI nt) (ro0 f)) 4)) (T := TX7) C w 0 10 rfl rfl (fun _ h => List.mem_cons_of_mem _ (List.mem_append_right _ (h))) (List.mem_of_getElem? (i := 4) rfl) (by decide) rfl dX7_readsOrder_60 ?_
          refine x_put (v := .int ((tnG T (nI nt) (ro0 f)) 4)) (ty := .int) (T := TX7) (ws2 := mR cI o (fl G) K h hn T (nI nt) (upd (tnG T (nI nt) (ro0 f)) 2 ((tnG T (nI nt) (ro0 f)) 4))) C w 0 8 rfl rfl (fun _ h => List.mem_cons_of_mem _ (List.mem_append_right _ (h))) tyX7 tyX7_ok nmX7 (List.mem_of_getElem? (i := 5) rfl) (by decide) (Nat.le_of_ble_eq_true rfl) rfl (by decide +kernel) rfl rfl (mRs8 _ _ _ _ _ _ _ _ _ _) dX7_readsOrder_63 (fun H locs w => ?_)
          have w : xW D A s.heap (mR cI o (fl G) K h hn T (nI nt) (ro2 T (nI nt) f)) _ _ := w
          refine lv_iload_n hx hb dX7_readsOrder_66 rfl (lv_at hl 0 rfl) ?_
          refine lv_bipush (v := 119) hx hb dX7_readsOrder_67 (by decide +kernel) ?_
          refine x_icR_ne (x := (T (ix (f 0)))) (y := 119) (tgt := 98) hx hb dX7_readsOrder_69 (by decide) (fun c69_5 => ?_) (fun c69_5 => ?_)
          ·
            refine lv_aload_n hx hb dX7_readsOrder_98 rfl (lv_at hl 1 rfl) ?_
            refine lv_bipush (v := 59) hx hb dX7_readsOrder_99 (by decide +kernel) ?_
            refine x_callVi (wr := []) (w2 := mR cI o (fl G) K h hn T (nI nt) (rsG T (nI nt) (ro2 T (nI nt) f) 59)) (rest := []) (n := 1) C w hl [.int 59] (k_X7_takes l D cI cS tys ht0 o G K h hn T (ro2 T (nI nt) f) 59 nt (ro2_vN T hn60 hx0) hn60 (by decide)) gX7_readsOrder_X7_takes rfl (by decide +kernel) ⟨Nat.le_of_ble_eq_true rfl, Nat.le_of_ble_eq_true rfl⟩ 0 7 rfl rfl rfl rfl (Nat.le_of_ble_eq_true rfl) [0, 1, 2, 3, 4] [] (by decide) rfl rfl (by decide) (by decide) [0, 1, 2, 3, 4] (by decide) rfl ⟨Nat.zero_le _, Nat.zero_le _⟩ dX7_readsOrder_101 (fun H locs w => ?_)
            exact x_zret C w (bI_01 _) (by unfold roB; simp only [if_pos c22_1, if_neg c40_2, if_neg c46_3, if_pos c53_4, if_neg c69_5]) (by unfold roG; simp only [if_pos c22_1, if_neg c40_2, if_neg c46_3, if_pos c53_4, if_neg c69_5]) dX7_readsOrder_104
          ·
            refine lv_aload_n hx hb dX7_readsOrder_72 rfl (lv_at hl 1 rfl) ?_
            refine lv_bipush (v := 61) hx hb dX7_readsOrder_73 (by decide +kernel) ?_
            refine x_callVi (wr := []) (w2 := mR cI o (fl G) K h hn T (nI nt) (rsG T (nI nt) (ro2 T (nI nt) f) 61)) (rest := []) (n := 1) C w hl [.int 61] (k_X7_takes l D cI cS tys ht0 o G K h hn T (ro2 T (nI nt) f) 61 nt (ro2_vN T hn60 hx0) hn60 (by decide)) gX7_readsOrder_X7_takes rfl (by decide +kernel) ⟨Nat.le_of_ble_eq_true rfl, Nat.le_of_ble_eq_true rfl⟩ 0 7 rfl rfl rfl rfl (Nat.le_of_ble_eq_true rfl) [0, 1, 2, 3, 4] [] (by decide) rfl rfl (by decide) (by decide) [0, 1, 2, 3, 4] (by decide) rfl ⟨Nat.zero_le _, Nat.zero_le _⟩ dX7_readsOrder_75 (fun H locs w => ?_)
            have w : xW D A s.heap (mR cI o (fl G) K h hn T (nI nt) (ro3 T (nI nt) f)) _ _ := w
            refine x_ifB_eq (P := rsB T (nI nt) (ro2 T (nI nt) f) 61 = true) (tgt := 88) hx hb dX7_readsOrder_78 (by decide) (fun c78_6 => ?_) (fun c78_6 => ?_)
            ·
              refine lv_iconst (v := 0) hx hb dX7_readsOrder_88 (by decide +kernel) ?_
              exact x_zret C w (Or.inl rfl) (by unfold roB; simp only [if_pos c22_1, if_neg c40_2, if_neg c46_3, if_pos c53_4, if_pos c69_5, if_neg c78_6] <;> first | done | rfl | decide) (by unfold roG; simp only [if_pos c22_1, if_neg c40_2, if_neg c46_3, if_pos c53_4, if_pos c69_5, if_neg c78_6]) dX7_readsOrder_89
            ·
              refine lv_aload_n hx hb dX7_readsOrder_81 rfl (lv_at hl 1 rfl) ?_
              refine x_callVi (wr := []) (w2 := mR cI o (fl G) K h hn T (nI nt) (tnG T (nI nt) (ro3 T (nI nt) f))) (rest := []) (n := 0) C w hl [] (k_X7_takesNumber l D cI cS tys ht0 o G K h hn T (ro3 T (nI nt) f) nt (ro3_vN T hn60 hx0) hn60) gX7_readsOrder_X7_takesNumber rfl (by decide +kernel) ⟨Nat.le_of_ble_eq_true rfl, Nat.le_of_ble_eq_true rfl⟩ 0 7 rfl rfl rfl rfl (Nat.le_of_ble_eq_true rfl) [0, 1, 2, 3, 4] [] (by decide) rfl rfl (by decide) (by decide) [0, 1, 2, 3, 4] (by decide) rfl ⟨Nat.zero_le _, Nat.zero_le _⟩ dX7_readsOrder_82 (fun H locs w => ?_)
              refine x_ifB_ne (P := tnB T (nI nt) (ro3 T (nI nt) f) = true) (tgt := 90) hx hb dX7_readsOrder_85 (by decide) (fun c85_7 => ?_) (fun c85_7 => ?_)
              ·
                refine lv_aload_n hx hb dX7_readsOrder_90 rfl (lv_at hl 1 rfl) ?_
                refine lv_aload_n hx hb dX7_readsOrder_91 rfl (lv_at hl 1 rfl) ?_
                refine x_get (v := .int ((tnG T (nI nt) (ro3 T (nI nt) f)) 4)) (T := TX7) C w 0 10 rfl rfl (fun _ h => List.mem_cons_of_mem _ (List.mem_append_right _ (h))) (List.mem_of_getElem? (i := 4) rfl) (by decide) rfl dX7_readsOrder_92 ?_
                refine x_put (v := .int ((tnG T (nI nt) (ro3 T (nI nt) f)) 4)) (ty := .int) (T := TX7) (ws2 := mR cI o (fl G) K h hn T (nI nt) (upd (tnG T (nI nt) (ro3 T (nI nt) f)) 3 ((tnG T (nI nt) (ro3 T (nI nt) f)) 4))) C w 0 9 rfl rfl (fun _ h => List.mem_cons_of_mem _ (List.mem_append_right _ (h))) tyX7 tyX7_ok nmX7 (List.mem_of_getElem? (i := 6) rfl) (by decide) (Nat.le_of_ble_eq_true rfl) rfl (by decide +kernel) rfl rfl (mRs9 _ _ _ _ _ _ _ _ _ _) dX7_readsOrder_95 (fun H locs w => ?_)
                have w : xW D A s.heap (mR cI o (fl G) K h hn T (nI nt) (ro4 T (nI nt) f)) _ _ := w
                refine lv_aload_n hx hb dX7_readsOrder_98 rfl (lv_at hl 1 rfl) ?_
                refine lv_bipush (v := 59) hx hb dX7_readsOrder_99 (by decide +kernel) ?_
                refine x_callVi (wr := []) (w2 := mR cI o (fl G) K h hn T (nI nt) (rsG T (nI nt) (ro4 T (nI nt) f) 59)) (rest := []) (n := 1) C w hl [.int 59] (k_X7_takes l D cI cS tys ht0 o G K h hn T (ro4 T (nI nt) f) 59 nt (ro4_vN T hn60 hx0) hn60 (by decide)) gX7_readsOrder_X7_takes rfl (by decide +kernel) ⟨Nat.le_of_ble_eq_true rfl, Nat.le_of_ble_eq_true rfl⟩ 0 7 rfl rfl rfl rfl (Nat.le_of_ble_eq_true rfl) [0, 1, 2, 3, 4] [] (by decide) rfl rfl (by decide) (by decide) [0, 1, 2, 3, 4] (by decide) rfl ⟨Nat.zero_le _, Nat.zero_le _⟩ dX7_readsOrder_101 (fun H locs w => ?_)
                exact x_zret C w (bI_01 _) (by unfold roB; simp only [if_pos c22_1, if_neg c40_2, if_neg c46_3, if_pos c53_4, if_pos c69_5, if_pos c78_6, if_pos c85_7]) (by unfold roG; simp only [if_pos c22_1, if_neg c40_2, if_neg c46_3, if_pos c53_4, if_pos c69_5, if_pos c78_6, if_pos c85_7]) dX7_readsOrder_104
              ·
                refine lv_iconst (v := 0) hx hb dX7_readsOrder_88 (by decide +kernel) ?_
                exact x_zret C w (Or.inl rfl) (by unfold roB; simp only [if_pos c22_1, if_neg c40_2, if_neg c46_3, if_pos c53_4, if_pos c69_5, if_pos c78_6, if_neg c85_7] <;> first | done | rfl | decide) (by unfold roG; simp only [if_pos c22_1, if_neg c40_2, if_neg c46_3, if_pos c53_4, if_pos c69_5, if_pos c78_6, if_neg c85_7]) dX7_readsOrder_89
        ·
          refine lv_iconst (v := 0) hx hb dX7_readsOrder_56 (by decide +kernel) ?_
          exact x_zret C w (Or.inl rfl) (by unfold roB; simp only [if_pos c22_1, if_neg c40_2, if_neg c46_3, if_neg c53_4] <;> first | done | rfl | decide) (by unfold roG; simp only [if_pos c22_1, if_neg c40_2, if_neg c46_3, if_neg c53_4]) dX7_readsOrder_57
  ·
    refine lv_iconst (v := 0) hx hb dX7_readsOrder_25 (by decide +kernel) ?_
    exact x_zret C w (Or.inl rfl) (by unfold roB; simp only [if_neg c22_1] <;> first | done | rfl | decide) (by unfold roG; simp only [if_neg c22_1]) dX7_readsOrder_26
set_option maxHeartbeats 1000000 in
set_option maxRecDepth 100000 in
theorem k_X7_isInRange (l : Launch) (D : va_G) (cI cS : ClassId) (tys : List (ClassId × FieldType)) (ht0 : tys[0]? = some (cI, .int)) (o : Nat → Nat) (G : St) (K : Nat → Int32) (h : Nat → Int32) (hn : Int32) (T : Nat → Int32) (f : Nat → Int32) (nt : Nat) (hx0 : ∃ v, v < nt ∧ f 0 = nI v) (hn60 : nt ≤ 60) : xI l yX7_isInRange wsX7_isInRange 2 D tys [.ref (o 0)] (mR cI o (fl G) K h hn T (nI nt) f) (bI (irR T f = true)) (mR cI o (fl G) K h hn T (nI nt) f) := by
  refine x_inI (cc := cX7_isInRange) (maxL := 2) (ret := (some .boolean)) (by decide) rfl (Nat.le_of_ble_eq_true rfl) ?_
  intro p e s m args below meth c A ls C w hl
  have C : xC p s m meth c args cX7_isInRange 2 wsX7_isInRange RX7 D tys (some .boolean) := C
  have hx := C.1.1
  have hb := C.1.2.1
  have hts := C.1.2.2.2.2
  have hown := C.1.2.2.2.1
  have w : xW D A s.heap (mR cI o (fl G) K h hn T (nI nt) f) s.heap [] := w
  have hl : lv_has ls 2 [(0, .ref (o 0))] := hl
  obtain ⟨v, hv, ex0⟩ := id hx0
  refine lv_aload_n hx hb dX7_isInRange_0 rfl (lv_at hl 0 rfl) ?_
  refine x_get (v := .ref (o 4)) (T := TX7) C w 0 4 rfl rfl (fun _ h => List.mem_cons_of_mem _ (List.mem_append_right _ (h))) (List.mem_of_getElem? (i := 1) rfl) (by decide) rfl dX7_isInRange_1 ?_
  refine lv_aload_n hx hb dX7_isInRange_4 rfl (lv_at hl 0 rfl) ?_
  refine x_get (v := .int (f 0)) (T := TX7) C w 0 6 rfl rfl (fun _ h => List.mem_cons_of_mem _ (List.mem_append_right _ (h))) (List.mem_of_getElem? (i := 2) rfl) (by decide) rfl dX7_isInRange_5 ?_
  refine x_top (y := nI v) ex0 ?_
  refine x_iald (v := T v) C w 4 0 (v) rfl ht0 rfl (by omega) (by decide) rfl dX7_isInRange_8 ?_
  refine x_top (y := (T (ix (f 0)))) (by rw [ex0, ix_nI (by omega)]) ?_
  refine lv_istore_n (lv' := [(1, .int (T (ix (f 0)))), (0, .ref (o 0))]) hx hb dX7_isInRange_9 rfl hl (by decide) rfl (fun ls hl => ?_)
  refine lv_iload_n hx hb dX7_isInRange_10 rfl (lv_at hl 0 rfl) ?_
  refine lv_bipush (v := 114) hx hb dX7_isInRange_11 (by decide +kernel) ?_
  refine x_icR_eq (x := (T (ix (f 0)))) (y := 114) (tgt := 22) hx hb dX7_isInRange_13 (by decide) (fun c13_1 => ?_) (fun c13_1 => ?_)
  ·
    refine lv_aload_n hx hb dX7_isInRange_22 rfl (lv_at hl 1 rfl) ?_
    refine x_get (v := .int (f 2)) (T := TX7) C w 0 8 rfl rfl (fun _ h => List.mem_cons_of_mem _ (List.mem_append_right _ (h))) (List.mem_of_getElem? (i := 3) rfl) (by decide) rfl dX7_isInRange_23 ?_
    refine x_callSi (wr := mR cI o (fl G) K h hn T (nI nt) f) (w2 := mR cI o (fl G) K h hn T (nI nt) f) (rest := []) (n := 1) C w hl [.int (f 2)] (k_X7_isPlace l D cI cS tys ht0 (f 2) ) gX7_isInRange_X7_isPlace rfl (by decide +kernel) ⟨Nat.le_of_ble_eq_true rfl, Nat.le_of_ble_eq_true rfl⟩ rfl rfl (Nat.le_of_ble_eq_true rfl) [] [0, 1, 2, 3, 4] (by decide) rfl rfl (by decide) (by decide) [0, 1, 2, 3, 4] (by decide) rfl ⟨Nat.zero_le _, Nat.zero_le _⟩ dX7_isInRange_26 (fun H locs w => ?_)
    refine lv_goto (tgt := 79) hx hb dX7_isInRange_29 (by decide) ?_
    exact x_zret C w (bI_01 _) (by unfold irR; simp only [if_pos c13_1] <;> first | done | rfl | exact bI_t hx | exact bI_f hx) rfl dX7_isInRange_79
  ·
    refine lv_iload_n hx hb dX7_isInRange_16 rfl (lv_at hl 0 rfl) ?_
    refine lv_bipush (v := 119) hx hb dX7_isInRange_17 (by decide +kernel) ?_
    refine x_icR_ne (x := (T (ix (f 0)))) (y := 119) (tgt := 32) hx hb dX7_isInRange_19 (by decide) (fun c19_2 => ?_) (fun c19_2 => ?_)
    ·
      refine lv_iload_n hx hb dX7_isInRange_32 rfl (lv_at hl 0 rfl) ?_
      refine lv_bipush (v := 116) hx hb dX7_isInRange_33 (by decide +kernel) ?_
      refine x_icR_ne (x := (T (ix (f 0)))) (y := 116) (tgt := 53) hx hb dX7_isInRange_35 (by decide) (fun c35_3 => ?_) (fun c35_3 => ?_)
      ·
        refine lv_iload_n hx hb dX7_isInRange_53 rfl (lv_at hl 0 rfl) ?_
        refine lv_bipush (v := 108) hx hb dX7_isInRange_54 (by decide +kernel) ?_
        refine x_icR_ne (x := (T (ix (f 0)))) (y := 108) (tgt := 74) hx hb dX7_isInRange_56 (by decide) (fun c56_4 => ?_) (fun c56_4 => ?_)
        ·
          refine lv_iconst (v := 1) hx hb dX7_isInRange_74 (by decide +kernel) ?_
          refine lv_goto (tgt := 79) hx hb dX7_isInRange_75 (by decide) ?_
          exact x_zret C w (Or.inr rfl) (by unfold irR; simp only [if_neg c13_1, if_neg c19_2, if_neg c35_3, if_neg c56_4] <;> first | done | rfl | exact bI_t hx | exact bI_f hx) rfl dX7_isInRange_79
        ·
          refine lv_aload_n hx hb dX7_isInRange_59 rfl (lv_at hl 1 rfl) ?_
          refine x_get (v := .int (f 2)) (T := TX7) C w 0 8 rfl rfl (fun _ h => List.mem_cons_of_mem _ (List.mem_append_right _ (h))) (List.mem_of_getElem? (i := 3) rfl) (by decide) rfl dX7_isInRange_60 ?_
          refine lv_i2l (v := Int32.toInt64 (f 2)) hx hb dX7_isInRange_63 rfl ?_
          refine lv_lconst (v := 1) hx hb dX7_isInRange_64 (by decide +kernel) ?_
          refine lv_ldc2 (v := 999) hx hb hown (hts _ (List.mem_of_getElem? (i := 5) rfl)) dX7_isInRange_65 ?_
          refine x_callSi (wr := mR cI o (fl G) K h hn T (nI nt) f) (w2 := mR cI o (fl G) K h hn T (nI nt) f) (rest := []) (n := 3) C w hl [.long (Int32.toInt64 (f 2)), .long 1, .long 999] (k_X7_in l D cI cS tys ht0 (Int32.toInt64 (f 2)) 1 999 ) gX7_isInRange_X7_in rfl (by decide +kernel) ⟨Nat.le_of_ble_eq_true rfl, Nat.le_of_ble_eq_true rfl⟩ rfl rfl (Nat.le_of_ble_eq_true rfl) [] [0, 1, 2, 3, 4] (by decide) rfl rfl (by decide) (by decide) [0, 1, 2, 3, 4] (by decide) rfl ⟨Nat.zero_le _, Nat.zero_le _⟩ dX7_isInRange_68 (fun H locs w => ?_)
          refine x_top (y := bI (wth (f 2) 1 999 = true)) (bI_c (lg_wth (f 2) 1 999 (by decide) (by decide))) ?_
          refine x_ifB_eq (P := wth (f 2) 1 999 = true) (tgt := 78) hx hb dX7_isInRange_71 (by decide) (fun c71_5 => ?_) (fun c71_5 => ?_)
          ·
            refine lv_iconst (v := 0) hx hb dX7_isInRange_78 (by decide +kernel) ?_
            exact x_zret C w (Or.inl rfl) (by unfold irR; simp only [if_neg c13_1, if_neg c19_2, if_neg c35_3, if_pos c56_4, if_neg c71_5] <;> first | done | rfl | exact bI_t c71_5 | exact bI_f c71_5) rfl dX7_isInRange_79
          ·
            refine lv_iconst (v := 1) hx hb dX7_isInRange_74 (by decide +kernel) ?_
            refine lv_goto (tgt := 79) hx hb dX7_isInRange_75 (by decide) ?_
            exact x_zret C w (Or.inr rfl) (by unfold irR; simp only [if_neg c13_1, if_neg c19_2, if_neg c35_3, if_pos c56_4, if_pos c71_5] <;> first | done | rfl | exact bI_t c71_5 | exact bI_f c71_5) rfl dX7_isInRange_79
      ·
        refine lv_aload_n hx hb dX7_isInRange_38 rfl (lv_at hl 1 rfl) ?_
        refine x_get (v := .int (f 2)) (T := TX7) C w 0 8 rfl rfl (fun _ h => List.mem_cons_of_mem _ (List.mem_append_right _ (h))) (List.mem_of_getElem? (i := 3) rfl) (by decide) rfl dX7_isInRange_39 ?_
        refine lv_i2l (v := Int32.toInt64 (f 2)) hx hb dX7_isInRange_42 rfl ?_
        refine lv_lconst (v := 1) hx hb dX7_isInRange_43 (by decide +kernel) ?_
        refine lv_ldc2 (v := 99) hx hb hown (hts _ (List.mem_of_getElem? (i := 4) rfl)) dX7_isInRange_44 ?_
        refine x_callSi (wr := mR cI o (fl G) K h hn T (nI nt) f) (w2 := mR cI o (fl G) K h hn T (nI nt) f) (rest := []) (n := 3) C w hl [.long (Int32.toInt64 (f 2)), .long 1, .long 99] (k_X7_in l D cI cS tys ht0 (Int32.toInt64 (f 2)) 1 99 ) gX7_isInRange_X7_in rfl (by decide +kernel) ⟨Nat.le_of_ble_eq_true rfl, Nat.le_of_ble_eq_true rfl⟩ rfl rfl (Nat.le_of_ble_eq_true rfl) [] [0, 1, 2, 3, 4] (by decide) rfl rfl (by decide) (by decide) [0, 1, 2, 3, 4] (by decide) rfl ⟨Nat.zero_le _, Nat.zero_le _⟩ dX7_isInRange_47 (fun H locs w => ?_)
        refine x_top (y := bI (wth (f 2) 1 99 = true)) (bI_c (lg_wth (f 2) 1 99 (by decide) (by decide))) ?_
        refine lv_goto (tgt := 79) hx hb dX7_isInRange_50 (by decide) ?_
        exact x_zret C w (bI_01 _) (by unfold irR; simp only [if_neg c13_1, if_neg c19_2, if_pos c35_3] <;> first | done | rfl | exact bI_t hx | exact bI_f hx) rfl dX7_isInRange_79
    ·
      refine lv_aload_n hx hb dX7_isInRange_22 rfl (lv_at hl 1 rfl) ?_
      refine x_get (v := .int (f 2)) (T := TX7) C w 0 8 rfl rfl (fun _ h => List.mem_cons_of_mem _ (List.mem_append_right _ (h))) (List.mem_of_getElem? (i := 3) rfl) (by decide) rfl dX7_isInRange_23 ?_
      refine x_callSi (wr := mR cI o (fl G) K h hn T (nI nt) f) (w2 := mR cI o (fl G) K h hn T (nI nt) f) (rest := []) (n := 1) C w hl [.int (f 2)] (k_X7_isPlace l D cI cS tys ht0 (f 2) ) gX7_isInRange_X7_isPlace rfl (by decide +kernel) ⟨Nat.le_of_ble_eq_true rfl, Nat.le_of_ble_eq_true rfl⟩ rfl rfl (Nat.le_of_ble_eq_true rfl) [] [0, 1, 2, 3, 4] (by decide) rfl rfl (by decide) (by decide) [0, 1, 2, 3, 4] (by decide) rfl ⟨Nat.zero_le _, Nat.zero_le _⟩ dX7_isInRange_26 (fun H locs w => ?_)
      refine lv_goto (tgt := 79) hx hb dX7_isInRange_29 (by decide) ?_
      exact x_zret C w (bI_01 _) (by unfold irR; simp only [if_neg c13_1, if_pos c19_2] <;> first | done | rfl | exact bI_t hx | exact bI_f hx) rfl dX7_isInRange_79
set_option maxHeartbeats 1000000 in
set_option maxRecDepth 100000 in
theorem k_X7_notes (l : Launch) (D : va_G) (cI cS : ClassId) (tys : List (ClassId × FieldType)) (ht0 : tys[0]? = some (cI, .int)) (o : Nat → Nat) (G : St) (K : Nat → Int32) (h : Nat → Int32) (hn : Int32) (T : Nat → Int32) (tn : Int32) (f : Nat → Int32) (a1 : Int32) (a2 : Int32)  : xI l yX7_notes wsX7_notes 0 D tys [.ref (o 0), .int a1, .int a2] (mR cI o (fl G) K h hn T tn f) (bI False) (mR cI o (fl G) K h hn T tn (upd (upd f 5 a1) 6 a2)) := by
  refine x_inI (cc := cX7_notes) (maxL := 3) (ret := (some .boolean)) (by decide) rfl (Nat.le_of_ble_eq_true rfl) ?_
  intro p e s m args below meth c A ls C w hl
  have C : xC p s m meth c args cX7_notes 3 wsX7_notes RX7 D tys (some .boolean) := C
  have hx := C.1.1
  have hb := C.1.2.1
  have hts := C.1.2.2.2.2
  have hown := C.1.2.2.2.1
  have w : xW D A s.heap (mR cI o (fl G) K h hn T tn f) s.heap [] := w
  have hl : lv_has ls 3 [(0, .ref (o 0)), (1, .int a1), (2, .int a2)] := hl
  refine lv_aload_n hx hb dX7_notes_0 rfl (lv_at hl 0 rfl) ?_
  refine lv_iload_n hx hb dX7_notes_1 rfl (lv_at hl 1 rfl) ?_
  refine x_put (v := .int a1) (ty := .int) (T := TX7) (ws2 := mR cI o (fl G) K h hn T tn (upd f 5 a1)) C w 0 11 rfl rfl (fun _ h => List.mem_cons_of_mem _ (List.mem_append_right _ (h))) tyX7 tyX7_ok nmX7 (List.mem_of_getElem? (i := 1) rfl) (by decide) (Nat.le_of_ble_eq_true rfl) rfl (by decide +kernel) rfl rfl (mRs11 _ _ _ _ _ _ _ _ _ _) dX7_notes_2 (fun H locs w => ?_)
  refine lv_aload_n hx hb dX7_notes_5 rfl (lv_at hl 0 rfl) ?_
  refine lv_iload_n hx hb dX7_notes_6 rfl (lv_at hl 2 rfl) ?_
  refine x_put (v := .int a2) (ty := .int) (T := TX7) (ws2 := mR cI o (fl G) K h hn T tn (upd (upd f 5 a1) 6 a2)) C w 0 12 rfl rfl (fun _ h => List.mem_cons_of_mem _ (List.mem_append_right _ (h))) tyX7 tyX7_ok nmX7 (List.mem_of_getElem? (i := 2) rfl) (by decide) (Nat.le_of_ble_eq_true rfl) rfl (by decide +kernel) rfl rfl (mRs12 _ _ _ _ _ _ _ _ _ _) dX7_notes_7 (fun H locs w => ?_)
  refine lv_iconst (v := 0) hx hb dX7_notes_10 (by decide +kernel) ?_
  exact x_zret C w (Or.inl rfl) (by first | rfl | contradiction | (simp []; done)) rfl dX7_notes_11
