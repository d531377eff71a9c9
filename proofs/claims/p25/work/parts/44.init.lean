set_option maxHeartbeats 1000000 in
set_option maxRecDepth 100000 in
theorem k_X0_init (l : Launch) (D : va_G) (cI cS : ClassId) (tys : List (ClassId × FieldType)) (ht0 : tys[0]? = some (cI, .int)) (ht1 : tys[1]? = some (cS, .object RX4)) (q0 : Nat) : xM l yX0_init wsX0_init 1 0 0 D tys [.ref q0] ([(q0, .inr (0, [.int 0, .int 0, .int 0, .int 0, .int 0, .int 0, .int 0]))]) (fun (_ : Unit) => bW q0 N0) := by
  refine x_inM (cc := cX0_init) (maxL := 1) (ret := none) rfl (by decide) rfl (Nat.le_of_ble_eq_true rfl) ?_
  intro p e s m args below meth c A ls C w hl hnm
  have C : xC p s m meth c args cX0_init 1 wsX0_init RX0 D tys none := C
  have hx := C.1.1
  have hb := C.1.2.1
  have hts := C.1.2.2.2.2
  have hown := C.1.2.2.2.1
  have w : xW D A s.heap ([(q0, .inr (0, [.int 0, .int 0, .int 0, .int 0, .int 0, .int 0, .int 0]))]) s.heap [] := w
  have hl : lv_has ls 1 [(0, .ref q0)] := hl
  refine lv_aload_n hx hb dX0_init_0 rfl (lv_at hl 0 rfl) ?_
  refine x_obj C hl (List.mem_of_getElem? (i := 1) rfl) (List.mem_of_getElem? (i := 2) rfl) (List.mem_of_getElem? (i := 3) rfl) dX0_init_1 (by decide) (by decide) ?_
  refine lv_aload_n hx hb dX0_init_4 rfl (lv_at hl 0 rfl) ?_
  refine lv_sipush (v := 1000) hx hb dX0_init_5 (by decide +kernel) ?_
  refine x_put (v := .int 1000) (ty := .int) (T := TX0) (ws2 := [(q0, .inr (0, [.int 1000, .int 0, .int 0, .int 0, .int 0, .int 0, .int 0]))]) C w 0 0 rfl rfl (fun _ h => List.mem_cons_of_mem _ (List.mem_append_right _ (h))) tyX0 tyX0_ok nmX0 (List.mem_of_getElem? (i := 4) rfl) (by decide) (Nat.le_of_ble_eq_true rfl) rfl (by decide +kernel) rfl rfl rfl dX0_init_8 (fun H locs w => ?_)
  refine lv_aload_n hx hb dX0_init_11 rfl (lv_at hl 0 rfl) ?_
  refine lv_iconst (v := 0) hx hb dX0_init_12 (by decide +kernel) ?_
  refine x_put (v := .int 0) (ty := .int) (T := TX0) (ws2 := [(q0, .inr (0, [.int 1000, .int 0, .int 0, .int 0, .int 0, .int 0, .int 0]))]) C w 0 1 rfl rfl (fun _ h => List.mem_cons_of_mem _ (List.mem_append_right _ (h))) tyX0 tyX0_ok nmX0 (List.mem_of_getElem? (i := 5) rfl) (by decide) (Nat.le_of_ble_eq_true rfl) rfl (by decide +kernel) rfl rfl rfl dX0_init_13 (fun H locs w => ?_)
  refine lv_aload_n hx hb dX0_init_16 rfl (lv_at hl 0 rfl) ?_
  refine lv_iconst (v := 0) hx hb dX0_init_17 (by decide +kernel) ?_
  refine x_put (v := .int 0) (ty := .int) (T := TX0) (ws2 := [(q0, .inr (0, [.int 1000, .int 0, .int 0, .int 0, .int 0, .int 0, .int 0]))]) C w 0 2 rfl rfl (fun _ h => List.mem_cons_of_mem _ (List.mem_append_right _ (h))) tyX0 tyX0_ok nmX0 (List.mem_of_getElem? (i := 6) rfl) (by decide) (Nat.le_of_ble_eq_true rfl) rfl (by decide +kernel) rfl rfl rfl dX0_init_18 (fun H locs w => ?_)
  refine lv_aload_n hx hb dX0_init_21 rfl (lv_at hl 0 rfl) ?_
  refine lv_bipush (v := 100) hx hb dX0_init_22 (by decide +kernel) ?_
  refine x_put (v := .int 100) (ty := .int) (T := TX0) (ws2 := [(q0, .inr (0, [.int 1000, .int 0, .int 0, .int 100, .int 0, .int 0, .int 0]))]) C w 0 3 rfl rfl (fun _ h => List.mem_cons_of_mem _ (List.mem_append_right _ (h))) tyX0 tyX0_ok nmX0 (List.mem_of_getElem? (i := 7) rfl) (by decide) (Nat.le_of_ble_eq_true rfl) rfl (by decide +kernel) rfl rfl rfl dX0_init_24 (fun H locs w => ?_)
  refine lv_aload_n hx hb dX0_init_27 rfl (lv_at hl 0 rfl) ?_
  refine lv_bipush (v := 100) hx hb dX0_init_28 (by decide +kernel) ?_
  refine x_put (v := .int 100) (ty := .int) (T := TX0) (ws2 := [(q0, .inr (0, [.int 1000, .int 0, .int 0, .int 100, .int 100, .int 0, .int 0]))]) C w 0 4 rfl rfl (fun _ h => List.mem_cons_of_mem _ (List.mem_append_right _ (h))) tyX0 tyX0_ok nmX0 (List.mem_of_getElem? (i := 8) rfl) (by decide) (Nat.le_of_ble_eq_true rfl) rfl (by decide +kernel) rfl rfl rfl dX0_init_30 (fun H locs w => ?_)
  refine lv_aload_n hx hb dX0_init_33 rfl (lv_at hl 0 rfl) ?_
  refine lv_bipush (v := 20) hx hb dX0_init_34 (by decide +kernel) ?_
  refine x_put (v := .int 20) (ty := .int) (T := TX0) (ws2 := [(q0, .inr (0, [.int 1000, .int 0, .int 0, .int 100, .int 100, .int 20, .int 0]))]) C w 0 5 rfl rfl (fun _ h => List.mem_cons_of_mem _ (List.mem_append_right _ (h))) tyX0 tyX0_ok nmX0 (List.mem_of_getElem? (i := 9) rfl) (by decide) (Nat.le_of_ble_eq_true rfl) rfl (by decide +kernel) rfl rfl rfl dX0_init_36 (fun H locs w => ?_)
  refine lv_aload_n hx hb dX0_init_39 rfl (lv_at hl 0 rfl) ?_
  refine lv_sipush (v := 200) hx hb dX0_init_40 (by decide +kernel) ?_
  refine x_put (v := .int 200) (ty := .int) (T := TX0) (ws2 := [(q0, .inr (0, [.int 1000, .int 0, .int 0, .int 100, .int 100, .int 20, .int 200]))]) C w 0 6 rfl rfl (fun _ h => List.mem_cons_of_mem _ (List.mem_append_right _ (h))) tyX0 tyX0_ok nmX0 (List.mem_of_getElem? (i := 10) rfl) (by decide) (Nat.le_of_ble_eq_true rfl) rfl (by decide +kernel) rfl rfl rfl dX0_init_43 (fun H locs w => ?_)
  exact x_mret () C w rfl dX0_init_46
set_option maxHeartbeats 1000000 in
set_option maxRecDepth 100000 in
theorem k_X2_init (l : Launch) (D : va_G) (cI cS : ClassId) (tys : List (ClassId × FieldType)) (ht0 : tys[0]? = some (cI, .int)) (ht1 : tys[1]? = some (cS, .object RX4)) (q0 : Nat) : xM l yX2_init wsX2_init 1 0 0 D tys [.ref q0] ([(q0, .inr (2, [.int 0, .int 0, .int 0, .int 0, .int 0, .int 0, .int 0]))]) (fun (_ : Unit) => oW q0 oN) := by
  refine x_inM (cc := cX2_init) (maxL := 1) (ret := none) rfl (by decide) rfl (Nat.le_of_ble_eq_true rfl) ?_
  intro p e s m args below meth c A ls C w hl hnm
  have C : xC p s m meth c args cX2_init 1 wsX2_init RX2 D tys none := C
  have hx := C.1.1
  have hb := C.1.2.1
  have hts := C.1.2.2.2.2
  have hown := C.1.2.2.2.1
  have w : xW D A s.heap ([(q0, .inr (2, [.int 0, .int 0, .int 0, .int 0, .int 0, .int 0, .int 0]))]) s.heap [] := w
  have hl : lv_has ls 1 [(0, .ref q0)] := hl
  refine lv_aload_n hx hb dX2_init_0 rfl (lv_at hl 0 rfl) ?_
  refine x_obj C hl (List.mem_of_getElem? (i := 1) rfl) (List.mem_of_getElem? (i := 2) rfl) (List.mem_of_getElem? (i := 3) rfl) dX2_init_1 (by decide) (by decide) ?_
  refine lv_aload_n hx hb dX2_init_4 rfl (lv_at hl 0 rfl) ?_
  refine lv_iconst (v := 0) hx hb dX2_init_5 (by decide +kernel) ?_
  refine x_put (v := .int 0) (ty := .int) (T := TX2) (ws2 := [(q0, .inr (2, [.int 0, .int 0, .int 0, .int 0, .int 0, .int 0, .int 0]))]) C w 0 0 rfl rfl (fun _ h => List.mem_cons_of_mem _ (List.mem_append_right _ (h))) tyX2 tyX2_ok nmX2 (List.mem_of_getElem? (i := 4) rfl) (by decide) (Nat.le_of_ble_eq_true rfl) rfl (by decide +kernel) rfl rfl rfl dX2_init_6 (fun H locs w => ?_)
  refine lv_aload_n hx hb dX2_init_9 rfl (lv_at hl 0 rfl) ?_
  refine lv_iconst (v := 0) hx hb dX2_init_10 (by decide +kernel) ?_
  refine x_put (v := .int 0) (ty := .int) (T := TX2) (ws2 := [(q0, .inr (2, [.int 0, .int 0, .int 0, .int 0, .int 0, .int 0, .int 0]))]) C w 0 1 rfl rfl (fun _ h => List.mem_cons_of_mem _ (List.mem_append_right _ (h))) tyX2 tyX2_ok nmX2 (List.mem_of_getElem? (i := 5) rfl) (by decide) (Nat.le_of_ble_eq_true rfl) rfl (by decide +kernel) rfl rfl rfl dX2_init_11 (fun H locs w => ?_)
  refine lv_aload_n hx hb dX2_init_14 rfl (lv_at hl 0 rfl) ?_
  refine lv_iconst (v := -1) hx hb dX2_init_15 (by decide +kernel) ?_
  refine x_put (v := .int (-1)) (ty := .int) (T := TX2) (ws2 := [(q0, .inr (2, [.int 0, .int 0, .int (-1), .int 0, .int 0, .int 0, .int 0]))]) C w 0 2 rfl rfl (fun _ h => List.mem_cons_of_mem _ (List.mem_append_right _ (h))) tyX2 tyX2_ok nmX2 (List.mem_of_getElem? (i := 6) rfl) (by decide) (Nat.le_of_ble_eq_true rfl) rfl (by decide +kernel) rfl rfl rfl dX2_init_16 (fun H locs w => ?_)
  refine lv_aload_n hx hb dX2_init_19 rfl (lv_at hl 0 rfl) ?_
  refine lv_iconst (v := 0) hx hb dX2_init_20 (by decide +kernel) ?_
  refine x_put (v := .int 0) (ty := .int) (T := TX2) (ws2 := [(q0, .inr (2, [.int 0, .int 0, .int (-1), .int 0, .int 0, .int 0, .int 0]))]) C w 0 3 rfl rfl (fun _ h => List.mem_cons_of_mem _ (List.mem_append_right _ (h))) tyX2 tyX2_ok nmX2 (List.mem_of_getElem? (i := 7) rfl) (by decide) (Nat.le_of_ble_eq_true rfl) rfl (by decide +kernel) rfl rfl rfl dX2_init_21 (fun H locs w => ?_)
  refine lv_aload_n hx hb dX2_init_24 rfl (lv_at hl 0 rfl) ?_
  refine lv_iconst (v := 0) hx hb dX2_init_25 (by decide +kernel) ?_
  refine x_put (v := .int 0) (ty := .int) (T := TX2) (ws2 := [(q0, .inr (2, [.int 0, .int 0, .int (-1), .int 0, .int 0, .int 0, .int 0]))]) C w 0 4 rfl rfl (fun _ h => List.mem_cons_of_mem _ (List.mem_append_right _ (h))) tyX2 tyX2_ok nmX2 (List.mem_of_getElem? (i := 8) rfl) (by decide) (Nat.le_of_ble_eq_true rfl) rfl (by decide +kernel) rfl rfl rfl dX2_init_26 (fun H locs w => ?_)
  refine lv_aload_n hx hb dX2_init_29 rfl (lv_at hl 0 rfl) ?_
  refine lv_iconst (v := 0) hx hb dX2_init_30 (by decide +kernel) ?_
  refine x_put (v := .int 0) (ty := .int) (T := TX2) (ws2 := [(q0, .inr (2, [.int 0, .int 0, .int (-1), .int 0, .int 0, .int 0, .int 0]))]) C w 0 5 rfl rfl (fun _ h => List.mem_cons_of_mem _ (List.mem_append_right _ (h))) tyX2 tyX2_ok nmX2 (List.mem_of_getElem? (i := 9) rfl) (by decide) (Nat.le_of_ble_eq_true rfl) rfl (by decide +kernel) rfl rfl rfl dX2_init_31 (fun H locs w => ?_)
  refine lv_aload_n hx hb dX2_init_34 rfl (lv_at hl 0 rfl) ?_
  refine lv_iconst (v := 0) hx hb dX2_init_35 (by decide +kernel) ?_
  refine x_put (v := .int 0) (ty := .int) (T := TX2) (ws2 := [(q0, .inr (2, [.int 0, .int 0, .int (-1), .int 0, .int 0, .int 0, .int 0]))]) C w 0 6 rfl rfl (fun _ h => List.mem_cons_of_mem _ (List.mem_append_right _ (h))) tyX2 tyX2_ok nmX2 (List.mem_of_getElem? (i := 10) rfl) (by decide) (Nat.le_of_ble_eq_true rfl) rfl (by decide +kernel) rfl rfl rfl dX2_init_36 (fun H locs w => ?_)
  exact x_mret () C w rfl dX2_init_39
set_option maxHeartbeats 1000000 in
set_option maxRecDepth 100000 in
theorem k_X5_init (l : Launch) (D : va_G) (cI cS : ClassId) (tys : List (ClassId × FieldType)) (ht0 : tys[0]? = some (cI, .int)) (ht1 : tys[1]? = some (cS, .object RX4)) (q0 : Nat) : xM l yX5_init wsX5_init 1 1 60 D tys [.ref q0] ([(q0, .inr (5, [.null, .int 0]))]) (fun (i : Nat) => tW cI (fun k => if k = 0 then q0 else i) zF 0) := by
  refine x_inM (cc := cX5_init) (maxL := 1) (ret := none) rfl (by decide) rfl (Nat.le_of_ble_eq_true rfl) ?_
  intro p e s m args below meth c A ls C w hl hnm
  have C : xC p s m meth c args cX5_init 1 wsX5_init RX5 D tys none := C
  have hx := C.1.1
  have hb := C.1.2.1
  have hts := C.1.2.2.2.2
  have hown := C.1.2.2.2.1
  have w : xW D A s.heap ([(q0, .inr (5, [.null, .int 0]))]) s.heap [] := w
  have hl : lv_has ls 1 [(0, .ref q0)] := hl
  refine lv_aload_n hx hb dX5_init_0 rfl (lv_at hl 0 rfl) ?_
  refine x_obj C hl (List.mem_of_getElem? (i := 1) rfl) (List.mem_of_getElem? (i := 2) rfl) (List.mem_of_getElem? (i := 3) rfl) dX5_init_1 (by decide) (by decide) ?_
  refine lv_aload_n hx hb dX5_init_4 rfl (lv_at hl 0 rfl) ?_
  refine lv_bipush (v := 60) hx hb dX5_init_5 (by decide +kernel) ?_
  refine x_newa C w ht0 (List.mem_of_getElem? (i := 4) rfl) 60 (by decide) rfl (by decide) (by decide) (by decide) dX5_init_7 (fun q1 H w => ?_)
  refine x_putF (v := .ref q1) (ty := .array .int) (T := TX5) (ws2 := [(q0, .inr (5, [.ref q1, .int 0]))] ++ [(q1, .inl (cI, 60, .inl (fun _ => 0)))]) C hnm w 0 0 rfl rfl (fun _ h => List.mem_cons_of_mem _ (List.mem_append_right _ (h))) tyX5 tyX5_ok nmX5 (List.mem_of_getElem? (i := 5) rfl) (by decide) (Nat.le_of_ble_eq_true rfl) rfl rfl (by decide +kernel) rfl rfl rfl dX5_init_9 (fun H locs w => ?_)
  refine lv_aload_n hx hb dX5_init_12 rfl (lv_at hl 0 rfl) ?_
  refine lv_iconst (v := 0) hx hb dX5_init_13 (by decide +kernel) ?_
  refine x_put (v := .int 0) (ty := .int) (T := TX5) (ws2 := [(q0, .inr (5, [.ref q1, .int 0]))] ++ [(q1, .inl (cI, 60, .inl (fun _ => 0)))]) C w 0 1 rfl rfl (fun _ h => List.mem_cons_of_mem _ (List.mem_append_right _ (h))) tyX5 tyX5_ok nmX5 (List.mem_of_getElem? (i := 6) rfl) (by decide) (Nat.le_of_ble_eq_true rfl) rfl (by decide +kernel) rfl rfl rfl dX5_init_14 (fun H locs w => ?_)
  have w : xW D A s.heap ([(q0, .inr (5, [.ref q1, .int 0])), (q1, .inl (cI, 60, .inl (fun _ => 0)))]) _ _ := x_sub w [0, 1] (by decide) rfl
  exact x_mret q1 C w rfl dX5_init_17
set_option maxHeartbeats 1000000 in
set_option maxRecDepth 100000 in
theorem k_X4_init (l : Launch) (D : va_G) (cI cS : ClassId) (tys : List (ClassId × FieldType)) (ht0 : tys[0]? = some (cI, .int)) (ht1 : tys[1]? = some (cS, .object RX4)) (q0 : Nat) : xM l yX4_init wsX4_init 2 7 167 D tys [.ref q0] ([(q0, .inr (4, [.null, .null, .null, .null, .null, .null, .null, .int 0, .int 0, .int 0, .int 0, .int 0, .int 0, .int 0, .int 0, .int 0, .int 0]))]) (fun (i : Nat → Nat) => sW cI (fun k => if k = 0 then q0 else i k) N0) := by
  refine x_inM (cc := cX4_init) (maxL := 1) (ret := none) rfl (by decide) rfl (Nat.le_of_ble_eq_true rfl) ?_
  intro p e s m args below meth c A ls C w hl hnm
  have C : xC p s m meth c args cX4_init 1 wsX4_init RX4 D tys none := C
  have hx := C.1.1
  have hb := C.1.2.1
  have hts := C.1.2.2.2.2
  have hown := C.1.2.2.2.1
  have w : xW D A s.heap ([(q0, .inr (4, [.null, .null, .null, .null, .null, .null, .null, .int 0, .int 0, .int 0, .int 0, .int 0, .int 0, .int 0, .int 0, .int 0, .int 0]))]) s.heap [] := w
  have hl : lv_has ls 1 [(0, .ref q0)] := hl
  refine lv_aload_n hx hb dX4_init_0 rfl (lv_at hl 0 rfl) ?_
  refine x_obj C hl (List.mem_of_getElem? (i := 1) rfl) (List.mem_of_getElem? (i := 2) rfl) (List.mem_of_getElem? (i := 3) rfl) dX4_init_1 (by decide) (by decide) ?_
  refine lv_aload_n hx hb dX4_init_4 rfl (lv_at hl 0 rfl) ?_
  refine x_new (ci := 0) (T := TX0) (N := 7) (fs := [.int 0, .int 0, .int 0, .int 0, .int 0, .int 0, .int 0]) C w (fun _ h => List.mem_cons_of_mem _ (List.mem_append_left _ (List.mem_append_right _ (h)))) tyX0 tyX0_ok (List.mem_of_getElem? (i := 4) rfl) (List.mem_of_getElem? (i := 5) rfl) (List.mem_of_getElem? (i := 6) rfl) rfl (by decide +kernel) (by decide) (by decide) dX4_init_5 (fun q1 H w => ?_)
  refine lv_dup hx hb dX4_init_8 rfl ?_
  refine x_makeN (wr := [(q0, .inr (4, [.null, .null, .null, .null, .null, .null, .null, .int 0, .int 0, .int 0, .int 0, .int 0, .int 0, .int 0, .int 0, .int 0, .int 0]))]) (rest := [.ref q1, .ref q0]) (d' := 1) C w hl (k_X0_init l D cI cS tys ht0 ht1 q1) gX4_init_X0_init_n11 rfl (by decide) (List.mem_of_getElem? (i := 6) rfl) (List.mem_of_getElem? (i := 25) rfl) rfl (by decide +kernel) ⟨Nat.le_of_ble_eq_true rfl, Nat.le_of_ble_eq_true rfl⟩ rfl (Nat.le_of_ble_eq_true rfl) List.perm_append_comm ⟨by decide, by decide⟩ dX4_init_9 (fun i2 H locs w => ?_)
  have w : xW D A s.heap (bW q1 N0 ++ [(q0, .inr (4, [.null, .null, .null, .null, .null, .null, .null, .int 0, .int 0, .int 0, .int 0, .int 0, .int 0, .int 0, .int 0, .int 0, .int 0]))]) H locs := w
  refine x_putF (v := .ref q1) (ty := .object "BatteryCaches$Battery") (T := TX4) (ws2 := bW q1 N0 ++ [(q0, .inr (4, [.ref q1, .null, .null, .null, .null, .null, .null, .int 0, .int 0, .int 0, .int 0, .int 0, .int 0, .int 0, .int 0, .int 0, .int 0]))]) C hnm w 1 0 rfl rfl (fun _ h => List.mem_cons_of_mem _ (List.mem_append_right _ (h))) tyX4 tyX4_ok nmX4 (List.mem_of_getElem? (i := 7) rfl) (by decide) (Nat.le_of_ble_eq_true rfl) rfl rfl (by decide +kernel) rfl rfl rfl dX4_init_12 (fun H locs w => ?_)
  refine lv_aload_n hx hb dX4_init_15 rfl (lv_at hl 0 rfl) ?_
  refine lv_bipush (v := 64) hx hb dX4_init_16 (by decide +kernel) ?_
  refine x_newa C w ht0 (List.mem_of_getElem? (i := 8) rfl) 64 (by decide) rfl (by decide) (by decide) (by decide) dX4_init_18 (fun q3 H w => ?_)
  refine x_putF (v := .ref q3) (ty := .array .int) (T := TX4) (ws2 := bW q1 N0 ++ [(q0, .inr (4, [.ref q1, .ref q3, .null, .null, .null, .null, .null, .int 0, .int 0, .int 0, .int 0, .int 0, .int 0, .int 0, .int 0, .int 0, .int 0]))] ++ [(q3, .inl (cI, 64, .inl (fun _ => 0)))]) C hnm w 1 1 rfl rfl (fun _ h => List.mem_cons_of_mem _ (List.mem_append_right _ (h))) tyX4 tyX4_ok nmX4 (List.mem_of_getElem? (i := 9) rfl) (by decide) (Nat.le_of_ble_eq_true rfl) rfl rfl (by decide +kernel) rfl rfl rfl dX4_init_20 (fun H locs w => ?_)
  refine lv_aload_n hx hb dX4_init_23 rfl (lv_at hl 0 rfl) ?_
  refine lv_bipush (v := 64) hx hb dX4_init_24 (by decide +kernel) ?_
  refine x_newa C w ht0 (List.mem_of_getElem? (i := 8) rfl) 64 (by decide) rfl (by decide) (by decide) (by decide) dX4_init_26 (fun q4 H w => ?_)
  refine x_putF (v := .ref q4) (ty := .array .int) (T := TX4) (ws2 := bW q1 N0 ++ [(q0, .inr (4, [.ref q1, .ref q3, .ref q4, .null, .null, .null, .null, .int 0, .int 0, .int 0, .int 0, .int 0, .int 0, .int 0, .int 0, .int 0, .int 0]))] ++ [(q3, .inl (cI, 64, .inl (fun _ => 0)))] ++ [(q4, .inl (cI, 64, .inl (fun _ => 0)))]) C hnm w 1 2 rfl rfl (fun _ h => List.mem_cons_of_mem _ (List.mem_append_right _ (h))) tyX4 tyX4_ok nmX4 (List.mem_of_getElem? (i := 10) rfl) (by decide) (Nat.le_of_ble_eq_true rfl) rfl rfl (by decide +kernel) rfl rfl rfl dX4_init_28 (fun H locs w => ?_)
  refine lv_aload_n hx hb dX4_init_31 rfl (lv_at hl 0 rfl) ?_
  refine lv_bipush (v := 8) hx hb dX4_init_32 (by decide +kernel) ?_
  refine x_newa C w ht0 (List.mem_of_getElem? (i := 8) rfl) 8 (by decide) rfl (by decide) (by decide) (by decide) dX4_init_34 (fun q5 H w => ?_)
  refine x_putF (v := .ref q5) (ty := .array .int) (T := TX4) (ws2 := bW q1 N0 ++ [(q0, .inr (4, [.ref q1, .ref q3, .ref q4, .ref q5, .null, .null, .null, .int 0, .int 0, .int 0, .int 0, .int 0, .int 0, .int 0, .int 0, .int 0, .int 0]))] ++ [(q3, .inl (cI, 64, .inl (fun _ => 0)))] ++ [(q4, .inl (cI, 64, .inl (fun _ => 0)))] ++ [(q5, .inl (cI, 8, .inl (fun _ => 0)))]) C hnm w 1 3 rfl rfl (fun _ h => List.mem_cons_of_mem _ (List.mem_append_right _ (h))) tyX4 tyX4_ok nmX4 (List.mem_of_getElem? (i := 11) rfl) (by decide) (Nat.le_of_ble_eq_true rfl) rfl rfl (by decide +kernel) rfl rfl rfl dX4_init_36 (fun H locs w => ?_)
  refine lv_aload_n hx hb dX4_init_39 rfl (lv_at hl 0 rfl) ?_
  refine lv_bipush (v := 8) hx hb dX4_init_40 (by decide +kernel) ?_
  refine x_newa C w ht0 (List.mem_of_getElem? (i := 8) rfl) 8 (by decide) rfl (by decide) (by decide) (by decide) dX4_init_42 (fun q6 H w => ?_)
  refine x_putF (v := .ref q6) (ty := .array .int) (T := TX4) (ws2 := bW q1 N0 ++ [(q0, .inr (4, [.ref q1, .ref q3, .ref q4, .ref q5, .ref q6, .null, .null, .int 0, .int 0, .int 0, .int 0, .int 0, .int 0, .int 0, .int 0, .int 0, .int 0]))] ++ [(q3, .inl (cI, 64, .inl (fun _ => 0)))] ++ [(q4, .inl (cI, 64, .inl (fun _ => 0)))] ++ [(q5, .inl (cI, 8, .inl (fun _ => 0)))] ++ [(q6, .inl (cI, 8, .inl (fun _ => 0)))]) C hnm w 1 4 rfl rfl (fun _ h => List.mem_cons_of_mem _ (List.mem_append_right _ (h))) tyX4 tyX4_ok nmX4 (List.mem_of_getElem? (i := 12) rfl) (by decide) (Nat.le_of_ble_eq_true rfl) rfl rfl (by decide +kernel) rfl rfl rfl dX4_init_44 (fun H locs w => ?_)
  refine lv_aload_n hx hb dX4_init_47 rfl (lv_at hl 0 rfl) ?_
  refine lv_bipush (v := 8) hx hb dX4_init_48 (by decide +kernel) ?_
  refine x_newa C w ht0 (List.mem_of_getElem? (i := 8) rfl) 8 (by decide) rfl (by decide) (by decide) (by decide) dX4_init_50 (fun q7 H w => ?_)
  refine x_putF (v := .ref q7) (ty := .array .int) (T := TX4) (ws2 := bW q1 N0 ++ [(q0, .inr (4, [.ref q1, .ref q3, .ref q4, .ref q5, .ref q6, .ref q7, .null, .int 0, .int 0, .int 0, .int 0, .int 0, .int 0, .int 0, .int 0, .int 0, .int 0]))] ++ [(q3, .inl (cI, 64, .inl (fun _ => 0)))] ++ [(q4, .inl (cI, 64, .inl (fun _ => 0)))] ++ [(q5, .inl (cI, 8, .inl (fun _ => 0)))] ++ [(q6, .inl (cI, 8, .inl (fun _ => 0)))] ++ [(q7, .inl (cI, 8, .inl (fun _ => 0)))]) C hnm w 1 5 rfl rfl (fun _ h => List.mem_cons_of_mem _ (List.mem_append_right _ (h))) tyX4 tyX4_ok nmX4 (List.mem_of_getElem? (i := 13) rfl) (by decide) (Nat.le_of_ble_eq_true rfl) rfl rfl (by decide +kernel) rfl rfl rfl dX4_init_52 (fun H locs w => ?_)
  refine lv_aload_n hx hb dX4_init_55 rfl (lv_at hl 0 rfl) ?_
  refine lv_bipush (v := 8) hx hb dX4_init_56 (by decide +kernel) ?_
  refine x_newa C w ht0 (List.mem_of_getElem? (i := 8) rfl) 8 (by decide) rfl (by decide) (by decide) (by decide) dX4_init_58 (fun q8 H w => ?_)
  refine x_putF (v := .ref q8) (ty := .array .int) (T := TX4) (ws2 := bW q1 N0 ++ [(q0, .inr (4, [.ref q1, .ref q3, .ref q4, .ref q5, .ref q6, .ref q7, .ref q8, .int 0, .int 0, .int 0, .int 0, .int 0, .int 0, .int 0, .int 0, .int 0, .int 0]))] ++ [(q3, .inl (cI, 64, .inl (fun _ => 0)))] ++ [(q4, .inl (cI, 64, .inl (fun _ => 0)))] ++ [(q5, .inl (cI, 8, .inl (fun _ => 0)))] ++ [(q6, .inl (cI, 8, .inl (fun _ => 0)))] ++ [(q7, .inl (cI, 8, .inl (fun _ => 0)))] ++ [(q8, .inl (cI, 8, .inl (fun _ => 0)))]) C hnm w 1 6 rfl rfl (fun _ h => List.mem_cons_of_mem _ (List.mem_append_right _ (h))) tyX4 tyX4_ok nmX4 (List.mem_of_getElem? (i := 14) rfl) (by decide) (Nat.le_of_ble_eq_true rfl) rfl rfl (by decide +kernel) rfl rfl rfl dX4_init_60 (fun H locs w => ?_)
  refine lv_aload_n hx hb dX4_init_63 rfl (lv_at hl 0 rfl) ?_
  refine lv_iconst (v := 0) hx hb dX4_init_64 (by decide +kernel) ?_
  refine x_put (v := .int 0) (ty := .int) (T := TX4) (ws2 := bW q1 N0 ++ [(q0, .inr (4, [.ref q1, .ref q3, .ref q4, .ref q5, .ref q6, .ref q7, .ref q8, .int 0, .int 0, .int 0, .int 0, .int 0, .int 0, .int 0, .int 0, .int 0, .int 0]))] ++ [(q3, .inl (cI, 64, .inl (fun _ => 0)))] ++ [(q4, .inl (cI, 64, .inl (fun _ => 0)))] ++ [(q5, .inl (cI, 8, .inl (fun _ => 0)))] ++ [(q6, .inl (cI, 8, .inl (fun _ => 0)))] ++ [(q7, .inl (cI, 8, .inl (fun _ => 0)))] ++ [(q8, .inl (cI, 8, .inl (fun _ => 0)))]) C w 1 7 rfl rfl (fun _ h => List.mem_cons_of_mem _ (List.mem_append_right _ (h))) tyX4 tyX4_ok nmX4 (List.mem_of_getElem? (i := 15) rfl) (by decide) (Nat.le_of_ble_eq_true rfl) rfl (by decide +kernel) rfl rfl rfl dX4_init_65 (fun H locs w => ?_)
  refine lv_aload_n hx hb dX4_init_68 rfl (lv_at hl 0 rfl) ?_
  refine lv_iconst (v := 0) hx hb dX4_init_69 (by decide +kernel) ?_
  refine x_put (v := .int 0) (ty := .int) (T := TX4) (ws2 := bW q1 N0 ++ [(q0, .inr (4, [.ref q1, .ref q3, .ref q4, .ref q5, .ref q6, .ref q7, .ref q8, .int 0, .int 0, .int 0, .int 0, .int 0, .int 0, .int 0, .int 0, .int 0, .int 0]))] ++ [(q3, .inl (cI, 64, .inl (fun _ => 0)))] ++ [(q4, .inl (cI, 64, .inl (fun _ => 0)))] ++ [(q5, .inl (cI, 8, .inl (fun _ => 0)))] ++ [(q6, .inl (cI, 8, .inl (fun _ => 0)))] ++ [(q7, .inl (cI, 8, .inl (fun _ => 0)))] ++ [(q8, .inl (cI, 8, .inl (fun _ => 0)))]) C w 1 8 rfl rfl (fun _ h => List.mem_cons_of_mem _ (List.mem_append_right _ (h))) tyX4 tyX4_ok nmX4 (List.mem_of_getElem? (i := 16) rfl) (by decide) (Nat.le_of_ble_eq_true rfl) rfl (by decide +kernel) rfl rfl rfl dX4_init_70 (fun H locs w => ?_)
  refine lv_aload_n hx hb dX4_init_73 rfl (lv_at hl 0 rfl) ?_
  refine lv_iconst (v := 0) hx hb dX4_init_74 (by decide +kernel) ?_
  refine x_put (v := .int 0) (ty := .int) (T := TX4) (ws2 := bW q1 N0 ++ [(q0, .inr (4, [.ref q1, .ref q3, .ref q4, .ref q5, .ref q6, .ref q7, .ref q8, .int 0, .int 0, .int 0, .int 0, .int 0, .int 0, .int 0, .int 0, .int 0, .int 0]))] ++ [(q3, .inl (cI, 64, .inl (fun _ => 0)))] ++ [(q4, .inl (cI, 64, .inl (fun _ => 0)))] ++ [(q5, .inl (cI, 8, .inl (fun _ => 0)))] ++ [(q6, .inl (cI, 8, .inl (fun _ => 0)))] ++ [(q7, .inl (cI, 8, .inl (fun _ => 0)))] ++ [(q8, .inl (cI, 8, .inl (fun _ => 0)))]) C w 1 9 rfl rfl (fun _ h => List.mem_cons_of_mem _ (List.mem_append_right _ (h))) tyX4 tyX4_ok nmX4 (List.mem_of_getElem? (i := 17) rfl) (by decide) (Nat.le_of_ble_eq_true rfl) rfl (by decide +kernel) rfl rfl rfl dX4_init_75 (fun H locs w => ?_)
  refine lv_aload_n hx hb dX4_init_78 rfl (lv_at hl 0 rfl) ?_
  refine lv_iconst (v := 0) hx hb dX4_init_79 (by decide +kernel) ?_
  refine x_put (v := .int 0) (ty := .int) (T := TX4) (ws2 := bW q1 N0 ++ [(q0, .inr (4, [.ref q1, .ref q3, .ref q4, .ref q5, .ref q6, .ref q7, .ref q8, .int 0, .int 0, .int 0, .int 0, .int 0, .int 0, .int 0, .int 0, .int 0, .int 0]))] ++ [(q3, .inl (cI, 64, .inl (fun _ => 0)))] ++ [(q4, .inl (cI, 64, .inl (fun _ => 0)))] ++ [(q5, .inl (cI, 8, .inl (fun _ => 0)))] ++ [(q6, .inl (cI, 8, .inl (fun _ => 0)))] ++ [(q7, .inl (cI, 8, .inl (fun _ => 0)))] ++ [(q8, .inl (cI, 8, .inl (fun _ => 0)))]) C w 1 10 rfl rfl (fun _ h => List.mem_cons_of_mem _ (List.mem_append_right _ (h))) tyX4 tyX4_ok nmX4 (List.mem_of_getElem? (i := 18) rfl) (by decide) (Nat.le_of_ble_eq_true rfl) rfl (by decide +kernel) rfl rfl rfl dX4_init_80 (fun H locs w => ?_)
  refine lv_aload_n hx hb dX4_init_83 rfl (lv_at hl 0 rfl) ?_
  refine lv_iconst (v := 0) hx hb dX4_init_84 (by decide +kernel) ?_
  refine x_put (v := .int 0) (ty := .int) (T := TX4) (ws2 := bW q1 N0 ++ [(q0, .inr (4, [.ref q1, .ref q3, .ref q4, .ref q5, .ref q6, .ref q7, .ref q8, .int 0, .int 0, .int 0, .int 0, .int 0, .int 0, .int 0, .int 0, .int 0, .int 0]))] ++ [(q3, .inl (cI, 64, .inl (fun _ => 0)))] ++ [(q4, .inl (cI, 64, .inl (fun _ => 0)))] ++ [(q5, .inl (cI, 8, .inl (fun _ => 0)))] ++ [(q6, .inl (cI, 8, .inl (fun _ => 0)))] ++ [(q7, .inl (cI, 8, .inl (fun _ => 0)))] ++ [(q8, .inl (cI, 8, .inl (fun _ => 0)))]) C w 1 11 rfl rfl (fun _ h => List.mem_cons_of_mem _ (List.mem_append_right _ (h))) tyX4 tyX4_ok nmX4 (List.mem_of_getElem? (i := 19) rfl) (by decide) (Nat.le_of_ble_eq_true rfl) rfl (by decide +kernel) rfl rfl rfl dX4_init_85 (fun H locs w => ?_)
  refine lv_aload_n hx hb dX4_init_88 rfl (lv_at hl 0 rfl) ?_
  refine lv_iconst (v := 0) hx hb dX4_init_89 (by decide +kernel) ?_
  refine x_put (v := .int 0) (ty := .int) (T := TX4) (ws2 := bW q1 N0 ++ [(q0, .inr (4, [.ref q1, .ref q3, .ref q4, .ref q5, .ref q6, .ref q7, .ref q8, .int 0, .int 0, .int 0, .int 0, .int 0, .int 0, .int 0, .int 0, .int 0, .int 0]))] ++ [(q3, .inl (cI, 64, .inl (fun _ => 0)))] ++ [(q4, .inl (cI, 64, .inl (fun _ => 0)))] ++ [(q5, .inl (cI, 8, .inl (fun _ => 0)))] ++ [(q6, .inl (cI, 8, .inl (fun _ => 0)))] ++ [(q7, .inl (cI, 8, .inl (fun _ => 0)))] ++ [(q8, .inl (cI, 8, .inl (fun _ => 0)))]) C w 1 12 rfl rfl (fun _ h => List.mem_cons_of_mem _ (List.mem_append_right _ (h))) tyX4 tyX4_ok nmX4 (List.mem_of_getElem? (i := 20) rfl) (by decide) (Nat.le_of_ble_eq_true rfl) rfl (by decide +kernel) rfl rfl rfl dX4_init_90 (fun H locs w => ?_)
  refine lv_aload_n hx hb dX4_init_93 rfl (lv_at hl 0 rfl) ?_
  refine lv_iconst (v := 0) hx hb dX4_init_94 (by decide +kernel) ?_
  refine x_put (v := .int 0) (ty := .int) (T := TX4) (ws2 := bW q1 N0 ++ [(q0, .inr (4, [.ref q1, .ref q3, .ref q4, .ref q5, .ref q6, .ref q7, .ref q8, .int 0, .int 0, .int 0, .int 0, .int 0, .int 0, .int 0, .int 0, .int 0, .int 0]))] ++ [(q3, .inl (cI, 64, .inl (fun _ => 0)))] ++ [(q4, .inl (cI, 64, .inl (fun _ => 0)))] ++ [(q5, .inl (cI, 8, .inl (fun _ => 0)))] ++ [(q6, .inl (cI, 8, .inl (fun _ => 0)))] ++ [(q7, .inl (cI, 8, .inl (fun _ => 0)))] ++ [(q8, .inl (cI, 8, .inl (fun _ => 0)))]) C w 1 13 rfl rfl (fun _ h => List.mem_cons_of_mem _ (List.mem_append_right _ (h))) tyX4 tyX4_ok nmX4 (List.mem_of_getElem? (i := 21) rfl) (by decide) (Nat.le_of_ble_eq_true rfl) rfl (by decide +kernel) rfl rfl rfl dX4_init_95 (fun H locs w => ?_)
  refine lv_aload_n hx hb dX4_init_98 rfl (lv_at hl 0 rfl) ?_
  refine lv_iconst (v := 0) hx hb dX4_init_99 (by decide +kernel) ?_
  refine x_put (v := .int 0) (ty := .int) (T := TX4) (ws2 := bW q1 N0 ++ [(q0, .inr (4, [.ref q1, .ref q3, .ref q4, .ref q5, .ref q6, .ref q7, .ref q8, .int 0, .int 0, .int 0, .int 0, .int 0, .int 0, .int 0, .int 0, .int 0, .int 0]))] ++ [(q3, .inl (cI, 64, .inl (fun _ => 0)))] ++ [(q4, .inl (cI, 64, .inl (fun _ => 0)))] ++ [(q5, .inl (cI, 8, .inl (fun _ => 0)))] ++ [(q6, .inl (cI, 8, .inl (fun _ => 0)))] ++ [(q7, .inl (cI, 8, .inl (fun _ => 0)))] ++ [(q8, .inl (cI, 8, .inl (fun _ => 0)))]) C w 1 14 rfl rfl (fun _ h => List.mem_cons_of_mem _ (List.mem_append_right _ (h))) tyX4 tyX4_ok nmX4 (List.mem_of_getElem? (i := 22) rfl) (by decide) (Nat.le_of_ble_eq_true rfl) rfl (by decide +kernel) rfl rfl rfl dX4_init_100 (fun H locs w => ?_)
  refine lv_aload_n hx hb dX4_init_103 rfl (lv_at hl 0 rfl) ?_
  refine lv_iconst (v := 0) hx hb dX4_init_104 (by decide +kernel) ?_
  refine x_put (v := .int 0) (ty := .int) (T := TX4) (ws2 := bW q1 N0 ++ [(q0, .inr (4, [.ref q1, .ref q3, .ref q4, .ref q5, .ref q6, .ref q7, .ref q8, .int 0, .int 0, .int 0, .int 0, .int 0, .int 0, .int 0, .int 0, .int 0, .int 0]))] ++ [(q3, .inl (cI, 64, .inl (fun _ => 0)))] ++ [(q4, .inl (cI, 64, .inl (fun _ => 0)))] ++ [(q5, .inl (cI, 8, .inl (fun _ => 0)))] ++ [(q6, .inl (cI, 8, .inl (fun _ => 0)))] ++ [(q7, .inl (cI, 8, .inl (fun _ => 0)))] ++ [(q8, .inl (cI, 8, .inl (fun _ => 0)))]) C w 1 15 rfl rfl (fun _ h => List.mem_cons_of_mem _ (List.mem_append_right _ (h))) tyX4 tyX4_ok nmX4 (List.mem_of_getElem? (i := 23) rfl) (by decide) (Nat.le_of_ble_eq_true rfl) rfl (by decide +kernel) rfl rfl rfl dX4_init_105 (fun H locs w => ?_)
  refine lv_aload_n hx hb dX4_init_108 rfl (lv_at hl 0 rfl) ?_
  refine lv_iconst (v := 0) hx hb dX4_init_109 (by decide +kernel) ?_
  refine x_put (v := .int 0) (ty := .int) (T := TX4) (ws2 := bW q1 N0 ++ [(q0, .inr (4, [.ref q1, .ref q3, .ref q4, .ref q5, .ref q6, .ref q7, .ref q8, .int 0, .int 0, .int 0, .int 0, .int 0, .int 0, .int 0, .int 0, .int 0, .int 0]))] ++ [(q3, .inl (cI, 64, .inl (fun _ => 0)))] ++ [(q4, .inl (cI, 64, .inl (fun _ => 0)))] ++ [(q5, .inl (cI, 8, .inl (fun _ => 0)))] ++ [(q6, .inl (cI, 8, .inl (fun _ => 0)))] ++ [(q7, .inl (cI, 8, .inl (fun _ => 0)))] ++ [(q8, .inl (cI, 8, .inl (fun _ => 0)))]) C w 1 16 rfl rfl (fun _ h => List.mem_cons_of_mem _ (List.mem_append_right _ (h))) tyX4 tyX4_ok nmX4 (List.mem_of_getElem? (i := 24) rfl) (by decide) (Nat.le_of_ble_eq_true rfl) rfl (by decide +kernel) rfl rfl rfl dX4_init_110 (fun H locs w => ?_)
  have w : xW D A s.heap ([(q0, .inr (4, [.ref q1, .ref q3, .ref q4, .ref q5, .ref q6, .ref q7, .ref q8, .int 0, .int 0, .int 0, .int 0, .int 0, .int 0, .int 0, .int 0, .int 0, .int 0])), (q1, .inr (0, [.int (N0 6 0), .int (N0 6 1), .int (N0 6 2), .int (N0 8 0), .int (N0 8 1), .int (N0 8 2), .int (N0 8 3)])), (q3, .inl (cI, 64, .inl (fun _ => 0))), (q4, .inl (cI, 64, .inl (fun _ => 0))), (q5, .inl (cI, 8, .inl (fun _ => 0))), (q6, .inl (cI, 8, .inl (fun _ => 0))), (q7, .inl (cI, 8, .inl (fun _ => 0))), (q8, .inl (cI, 8, .inl (fun _ => 0)))]) _ _ := x_sub w [1, 0, 2, 3, 4, 5, 6, 7] (by decide) rfl
  exact x_mret (fun k => if k = 1 then q1 else if k = 2 then q3 else if k = 3 then q4 else if k = 4 then q5 else if k = 5 then q6 else if k = 6 then q7 else q8) C w rfl dX4_init_113
