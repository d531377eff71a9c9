set_option maxHeartbeats 1000000 in
set_option maxRecDepth 100000 in
theorem k_X1_dropOldest (l : Launch) (D : va_G) (cI cS : ClassId) (tys : List (ClassId × FieldType)) (ht0 : tys[0]? = some (cI, .int)) (ht1 : tys[1]? = some (cS, .object RX4)) (h : Nat → Nat) (b : Nat → Nat → Nat) (Hs : Nat → St)  : xV l yX1_dropOldest wsX1_dropOldest 0 D tys [.ref (h 0)] (hH cS h b 4 ++ sW cI (b 0) (Hs 0) ++ sW cI (b 1) (Hs 1) ++ sW cI (b 2) (Hs 2) ++ sW cI (b 3) (Hs 3)) (hH cS h (rtA b) 3 ++ sW cI ((rtA b) 0) ((rtG Hs) 0) ++ sW cI ((rtA b) 1) ((rtG Hs) 1) ++ sW cI ((rtA b) 2) ((rtG Hs) 2) ++ sW cI ((rtA b) 3) ((rtG Hs) 3)) := by
  refine x_inV (cc := cX1_dropOldest) (maxL := 3) (ret := none) (by decide) rfl (Nat.le_of_ble_eq_true rfl) ?_
  intro p e s m args below meth c A ls C w hl
  have C : xC p s m meth c args cX1_dropOldest 3 wsX1_dropOldest RX1 D tys none := C
  have hx := C.1.1
  have hb := C.1.2.1
  have hts := C.1.2.2.2.2
  have hown := C.1.2.2.2.1
  have w : xW D A s.heap (hH cS h b 4 ++ sW cI (b 0) (Hs 0) ++ sW cI (b 1) (Hs 1) ++ sW cI (b 2) (Hs 2) ++ sW cI (b 3) (Hs 3)) s.heap [] := w
  have hl : lv_has ls 3 [(0, .ref (h 0))] := hl
  refine lv_aload_n hx hb dX1_dropOldest_0 rfl (lv_at hl 0 rfl) ?_
  refine x_get (v := .ref (h 1)) (T := TX1) C w 0 0 rfl rfl (fun _ h => List.mem_cons_of_mem _ (List.mem_append_right _ (h))) (List.mem_of_getElem? (i := 1) rfl) (by decide) rfl dX1_dropOldest_1 ?_
  refine lv_iconst (v := 0) hx hb dX1_dropOldest_4 (by decide +kernel) ?_
  refine x_aald (v := ((b 0) 0)) C w 1 1 (0) rfl ht1 rfl (by decide) (by decide) rfl dX1_dropOldest_5 ?_
  refine lv_astore_n (lv' := [(1, .ref ((b 0) 0)), (0, .ref (h 0))]) hx hb dX1_dropOldest_6 rfl hl (by decide) rfl (fun ls hl => ?_)
  refine lv_iconst (v := 1) hx hb dX1_dropOldest_7 (by decide +kernel) ?_
  refine lv_istore_n (lv' := [(2, .int 1), (1, .ref ((b 0) 0)), (0, .ref (h 0))]) hx hb dX1_dropOldest_8 rfl hl (by decide) rfl (fun ls hl => ?_)
  refine lv_iload_n hx hb dX1_dropOldest_9 rfl (lv_at hl 0 rfl) ?_
  refine lv_iconst (v := 4) hx hb dX1_dropOldest_10 (by decide +kernel) ?_
  refine x_icR_ge (x := 1) (y := 4) (tgt := 34) hx hb dX1_dropOldest_11 (by decide) (fun h => absurd h (by decide)) (fun _ => ?_)
  refine lv_aload_n hx hb dX1_dropOldest_14 rfl (lv_at hl 2 rfl) ?_
  refine x_get (v := .ref (h 1)) (T := TX1) C w 0 0 rfl rfl (fun _ h => List.mem_cons_of_mem _ (List.mem_append_right _ (h))) (List.mem_of_getElem? (i := 1) rfl) (by decide) rfl dX1_dropOldest_15 ?_
  refine lv_iload_n hx hb dX1_dropOldest_18 rfl (lv_at hl 0 rfl) ?_
  refine lv_iconst (v := 1) hx hb dX1_dropOldest_19 (by decide +kernel) ?_
  refine lv_isub (x := 1) (y := 1) hx hb dX1_dropOldest_20 ?_
  refine x_top (y := 0) (by decide +kernel) ?_
  refine lv_aload_n hx hb dX1_dropOldest_21 rfl (lv_at hl 2 rfl) ?_
  refine x_get (v := .ref (h 1)) (T := TX1) C w 0 0 rfl rfl (fun _ h => List.mem_cons_of_mem _ (List.mem_append_right _ (h))) (List.mem_of_getElem? (i := 1) rfl) (by decide) rfl dX1_dropOldest_22 ?_
  refine lv_iload_n hx hb dX1_dropOldest_25 rfl (lv_at hl 0 rfl) ?_
  refine x_aald (v := ((b 1) 0)) C w 1 1 (1) rfl ht1 rfl (by decide) (by decide) rfl dX1_dropOldest_26 ?_
  refine x_aast (r := (RX4, TX4, 17)) (ws2 := [(h 0, .inr (1, [.ref (h 1), .int 4])), (h 1, .inl (cS, 4, .inr (.inr (.inr (.inr (va_up (fun i => some (b i 0)) 0 (some ((b 1) 0))))))))] ++ sW cI (b 0) (Hs 0) ++ sW cI (b 1) (Hs 1) ++ sW cI (b 2) (Hs 2) ++ sW cI (b 3) (Hs 3)) C w 1 1 10 4 (0) rfl ht1 rfl rfl rfl (by decide) (by decide) rfl rfl dX1_dropOldest_27 (fun H locs w => ?_)
  refine lv_iinc (v := 2) (lv' := [(2, .int 2), (1, .ref ((b 0) 0)), (0, .ref (h 0))]) hx hb dX1_dropOldest_28 hl (k := 0) rfl rfl (by decide) rfl (fun ls hl => ?_)
  refine lv_goto (tgt := 9) hx hb dX1_dropOldest_31 (by decide) ?_
  refine lv_iload_n hx hb dX1_dropOldest_9 rfl (lv_at hl 0 rfl) ?_
  refine lv_iconst (v := 4) hx hb dX1_dropOldest_10 (by decide +kernel) ?_
  refine x_icR_ge (x := 2) (y := 4) (tgt := 34) hx hb dX1_dropOldest_11 (by decide) (fun h => absurd h (by decide)) (fun _ => ?_)
  refine lv_aload_n hx hb dX1_dropOldest_14 rfl (lv_at hl 2 rfl) ?_
  refine x_get (v := .ref (h 1)) (T := TX1) C w 0 0 rfl rfl (fun _ h => List.mem_cons_of_mem _ (List.mem_append_right _ (h))) (List.mem_of_getElem? (i := 1) rfl) (by decide) rfl dX1_dropOldest_15 ?_
  refine lv_iload_n hx hb dX1_dropOldest_18 rfl (lv_at hl 0 rfl) ?_
  refine lv_iconst (v := 1) hx hb dX1_dropOldest_19 (by decide +kernel) ?_
  refine lv_isub (x := 2) (y := 1) hx hb dX1_dropOldest_20 ?_
  refine x_top (y := 1) (by decide +kernel) ?_
  refine lv_aload_n hx hb dX1_dropOldest_21 rfl (lv_at hl 2 rfl) ?_
  refine x_get (v := .ref (h 1)) (T := TX1) C w 0 0 rfl rfl (fun _ h => List.mem_cons_of_mem _ (List.mem_append_right _ (h))) (List.mem_of_getElem? (i := 1) rfl) (by decide) rfl dX1_dropOldest_22 ?_
  refine lv_iload_n hx hb dX1_dropOldest_25 rfl (lv_at hl 0 rfl) ?_
  refine x_aald (v := ((b 2) 0)) C w 1 1 (2) rfl ht1 rfl (by decide) (by decide) rfl dX1_dropOldest_26 ?_
  refine x_aast (r := (RX4, TX4, 17)) (ws2 := [(h 0, .inr (1, [.ref (h 1), .int 4])), (h 1, .inl (cS, 4, .inr (.inr (.inr (.inr (va_up (va_up (fun i => some (b i 0)) 0 (some ((b 1) 0))) 1 (some ((b 2) 0))))))))] ++ sW cI (b 0) (Hs 0) ++ sW cI (b 1) (Hs 1) ++ sW cI (b 2) (Hs 2) ++ sW cI (b 3) (Hs 3)) C w 1 1 18 4 (1) rfl ht1 rfl rfl rfl (by decide) (by decide) rfl rfl dX1_dropOldest_27 (fun H locs w => ?_)
  refine lv_iinc (v := 3) (lv' := [(2, .int 3), (1, .ref ((b 0) 0)), (0, .ref (h 0))]) hx hb dX1_dropOldest_28 hl (k := 0) rfl rfl (by decide) rfl (fun ls hl => ?_)
  refine lv_goto (tgt := 9) hx hb dX1_dropOldest_31 (by decide) ?_
  refine lv_iload_n hx hb dX1_dropOldest_9 rfl (lv_at hl 0 rfl) ?_
  refine lv_iconst (v := 4) hx hb dX1_dropOldest_10 (by decide +kernel) ?_
  refine x_icR_ge (x := 3) (y := 4) (tgt := 34) hx hb dX1_dropOldest_11 (by decide) (fun h => absurd h (by decide)) (fun _ => ?_)
  refine lv_aload_n hx hb dX1_dropOldest_14 rfl (lv_at hl 2 rfl) ?_
  refine x_get (v := .ref (h 1)) (T := TX1) C w 0 0 rfl rfl (fun _ h => List.mem_cons_of_mem _ (List.mem_append_right _ (h))) (List.mem_of_getElem? (i := 1) rfl) (by decide) rfl dX1_dropOldest_15 ?_
  refine lv_iload_n hx hb dX1_dropOldest_18 rfl (lv_at hl 0 rfl) ?_
  refine lv_iconst (v := 1) hx hb dX1_dropOldest_19 (by decide +kernel) ?_
  refine lv_isub (x := 3) (y := 1) hx hb dX1_dropOldest_20 ?_
  refine x_top (y := 2) (by decide +kernel) ?_
  refine lv_aload_n hx hb dX1_dropOldest_21 rfl (lv_at hl 2 rfl) ?_
  refine x_get (v := .ref (h 1)) (T := TX1) C w 0 0 rfl rfl (fun _ h => List.mem_cons_of_mem _ (List.mem_append_right _ (h))) (List.mem_of_getElem? (i := 1) rfl) (by decide) rfl dX1_dropOldest_22 ?_
  refine lv_iload_n hx hb dX1_dropOldest_25 rfl (lv_at hl 0 rfl) ?_
  refine x_aald (v := ((b 3) 0)) C w 1 1 (3) rfl ht1 rfl (by decide) (by decide) rfl dX1_dropOldest_26 ?_
  refine x_aast (r := (RX4, TX4, 17)) (ws2 := [(h 0, .inr (1, [.ref (h 1), .int 4])), (h 1, .inl (cS, 4, .inr (.inr (.inr (.inr (va_up (va_up (va_up (fun i => some (b i 0)) 0 (some ((b 1) 0))) 1 (some ((b 2) 0))) 2 (some ((b 3) 0))))))))] ++ sW cI (b 0) (Hs 0) ++ sW cI (b 1) (Hs 1) ++ sW cI (b 2) (Hs 2) ++ sW cI (b 3) (Hs 3)) C w 1 1 26 4 (2) rfl ht1 rfl rfl rfl (by decide) (by decide) rfl rfl dX1_dropOldest_27 (fun H locs w => ?_)
  refine lv_iinc (v := 4) (lv' := [(2, .int 4), (1, .ref ((b 0) 0)), (0, .ref (h 0))]) hx hb dX1_dropOldest_28 hl (k := 0) rfl rfl (by decide) rfl (fun ls hl => ?_)
  refine lv_goto (tgt := 9) hx hb dX1_dropOldest_31 (by decide) ?_
  refine lv_iload_n hx hb dX1_dropOldest_9 rfl (lv_at hl 0 rfl) ?_
  refine lv_iconst (v := 4) hx hb dX1_dropOldest_10 (by decide +kernel) ?_
  refine x_icR_ge (x := 4) (y := 4) (tgt := 34) hx hb dX1_dropOldest_11 (by decide) (fun _ => ?_) (fun h => absurd h (by decide))
  refine lv_aload_n hx hb dX1_dropOldest_34 rfl (lv_at hl 2 rfl) ?_
  refine x_get (v := .ref (h 1)) (T := TX1) C w 0 0 rfl rfl (fun _ h => List.mem_cons_of_mem _ (List.mem_append_right _ (h))) (List.mem_of_getElem? (i := 1) rfl) (by decide) rfl dX1_dropOldest_35 ?_
  refine lv_iconst (v := 3) hx hb dX1_dropOldest_38 (by decide +kernel) ?_
  refine lv_aload_n hx hb dX1_dropOldest_39 rfl (lv_at hl 1 rfl) ?_
  refine x_aast (r := (RX4, TX4, 17)) (ws2 := [(h 0, .inr (1, [.ref (h 1), .int 4])), (h 1, .inl (cS, 4, .inr (.inr (.inr (.inr (va_up (va_up (va_up (va_up (fun i => some (b i 0)) 0 (some ((b 1) 0))) 1 (some ((b 2) 0))) 2 (some ((b 3) 0))) 3 (some ((b 0) 0))))))))] ++ sW cI (b 0) (Hs 0) ++ sW cI (b 1) (Hs 1) ++ sW cI (b 2) (Hs 2) ++ sW cI (b 3) (Hs 3)) C w 1 1 2 4 (3) rfl ht1 rfl rfl rfl (by decide) (by decide) rfl rfl dX1_dropOldest_40 (fun H locs w => ?_)
  refine lv_aload_n hx hb dX1_dropOldest_41 rfl (lv_at hl 2 rfl) ?_
  refine lv_iconst (v := 3) hx hb dX1_dropOldest_42 (by decide +kernel) ?_
  refine x_put (v := .int 3) (ty := .int) (T := TX1) (ws2 := [(h 0, .inr (1, [.ref (h 1), .int 3])), (h 1, .inl (cS, 4, .inr (.inr (.inr (.inr (va_up (va_up (va_up (va_up (fun i => some (b i 0)) 0 (some ((b 1) 0))) 1 (some ((b 2) 0))) 2 (some ((b 3) 0))) 3 (some ((b 0) 0))))))))] ++ sW cI (b 0) (Hs 0) ++ sW cI (b 1) (Hs 1) ++ sW cI (b 2) (Hs 2) ++ sW cI (b 3) (Hs 3)) C w 0 1 rfl rfl (fun _ h => List.mem_cons_of_mem _ (List.mem_append_right _ (h))) tyX1 tyX1_ok nmX1 (List.mem_of_getElem? (i := 2) rfl) (by decide) (Nat.le_of_ble_eq_true rfl) rfl (by decide +kernel) rfl rfl rfl dX1_dropOldest_43 (fun H locs w => ?_)
  have w : xW D A s.heap (hH cS h (rtA b) 3 ++ sW cI (b 0) (Hs 0) ++ sW cI (b 1) (Hs 1) ++ sW cI (b 2) (Hs 2) ++ sW cI (b 3) (Hs 3)) _ _ := x_extq (g := fun i => some (rtA b i 0)) w 1 rfl (fun j hj => by rcases (show j = 0 ∨ j = 1 ∨ j = 2 ∨ j = 3 by omega) with z | z | z | z <;> subst z <;> rfl) rfl
  have w : xW D A s.heap (hH cS h (rtA b) 3 ++ sW cI ((rtA b) 0) ((rtG Hs) 0) ++ sW cI ((rtA b) 1) ((rtG Hs) 1) ++ sW cI ((rtA b) 2) ((rtG Hs) 2) ++ sW cI ((rtA b) 3) ((rtG Hs) 3)) _ _ := x_sub w [0, 1, 10, 11, 12, 13, 14, 15, 16, 17, 18, 19, 20, 21, 22, 23, 24, 25, 26, 27, 28, 29, 30, 31, 32, 33, 2, 3, 4, 5, 6, 7, 8, 9] (by decide) rfl
  exact x_vret C w rfl dX1_dropOldest_46
set_option maxHeartbeats 1000000 in
set_option maxRecDepth 100000 in
theorem k_X1_keep0 (l : Launch) (D : va_G) (cI cS : ClassId) (tys : List (ClassId × FieldType)) (ht0 : tys[0]? = some (cI, .int)) (ht1 : tys[1]? = some (cS, .object RX4)) (h : Nat → Nat) (b : Nat → Nat → Nat) (Hs : Nat → St) (o : Nat → Nat) (G : St)  : xV l yX1_keep wsX1_keep 3 D tys [.ref (h 0), .ref (o 0)] (hH cS h b 0 ++ sW cI (b 0) (Hs 0) ++ sW cI (b 1) (Hs 1) ++ sW cI (b 2) (Hs 2) ++ sW cI (b 3) (Hs 3) ++ sW cI o G) (hH cS h b 1 ++ sW cI (b 0) G ++ sW cI (b 1) (Hs 1) ++ sW cI (b 2) (Hs 2) ++ sW cI (b 3) (Hs 3) ++ sW cI o G) := by
  refine x_inV (cc := cX1_keep) (maxL := 2) (ret := none) (by decide) rfl (Nat.le_of_ble_eq_true rfl) ?_
  intro p e s m args below meth c A ls C w hl
  have C : xC p s m meth c args cX1_keep 2 wsX1_keep RX1 D tys none := C
  have hx := C.1.1
  have hb := C.1.2.1
  have hts := C.1.2.2.2.2
  have hown := C.1.2.2.2.1
  have w : xW D A s.heap (hH cS h b 0 ++ sW cI (b 0) (Hs 0) ++ sW cI (b 1) (Hs 1) ++ sW cI (b 2) (Hs 2) ++ sW cI (b 3) (Hs 3) ++ sW cI o G) s.heap [] := w
  have hl : lv_has ls 2 [(0, .ref (h 0)), (1, .ref (o 0))] := hl
  refine lv_aload_n hx hb dX1_keep_0 rfl (lv_at hl 0 rfl) ?_
  refine x_get (v := .int 0) (T := TX1) C w 0 1 rfl rfl (fun _ h => List.mem_cons_of_mem _ (List.mem_append_left _ (List.mem_append_left _ (List.mem_append_right _ (h))))) (List.mem_of_getElem? (i := 1) rfl) (by decide) rfl dX1_keep_1 ?_
  refine lv_iconst (v := 4) hx hb dX1_keep_4 (by decide +kernel) ?_
  refine x_icR_lt (x := 0) (y := 4) (tgt := 12) hx hb dX1_keep_5 (by decide) (fun _ => ?_) (fun h => absurd h (by decide))
  refine lv_aload_n hx hb dX1_keep_12 rfl (lv_at hl 0 rfl) ?_
  refine x_get (v := .int 0) (T := TX1) C w 0 1 rfl rfl (fun _ h => List.mem_cons_of_mem _ (List.mem_append_left _ (List.mem_append_left _ (List.mem_append_right _ (h))))) (List.mem_of_getElem? (i := 1) rfl) (by decide) rfl dX1_keep_13 ?_
  refine lv_iconst (v := 0) hx hb dX1_keep_16 (by decide +kernel) ?_
  refine lv_iconst (v := 3) hx hb dX1_keep_17 (by decide +kernel) ?_
  refine x_callNi (wr := hH cS h b 0 ++ sW cI (b 0) (Hs 0) ++ sW cI (b 1) (Hs 1) ++ sW cI (b 2) (Hs 2) ++ sW cI (b 3) (Hs 3) ++ sW cI o G) (w2 := hH cS h b 0 ++ sW cI (b 0) (Hs 0) ++ sW cI (b 1) (Hs 1) ++ sW cI (b 2) (Hs 2) ++ sW cI (b 3) (Hs 3) ++ sW cI o G) (rest := []) (n := 3) C w hl [.int 0, .int 0, .int 3] (k_X6_isWithin l D cI cS tys ht0 0 0 3 ) gX1_keep_X6_isWithin_n25 rfl (by decide) (List.mem_of_getElem? (i := 9) rfl) (List.mem_of_getElem? (i := 8) rfl) (by decide +kernel) ⟨Nat.le_of_ble_eq_true rfl, Nat.le_of_ble_eq_true rfl⟩ rfl rfl (Nat.le_of_ble_eq_true rfl) [] [0, 1, 2, 3, 4, 5, 6, 7, 8, 9, 10, 11, 12, 13, 14, 15, 16, 17, 18, 19, 20, 21, 22, 23, 24, 25, 26, 27, 28, 29, 30, 31, 32, 33, 34, 35, 36, 37, 38, 39, 40, 41] (by decide) rfl rfl (by decide) (by decide) [0, 1, 2, 3, 4, 5, 6, 7, 8, 9, 10, 11, 12, 13, 14, 15, 16, 17, 18, 19, 20, 21, 22, 23, 24, 25, 26, 27, 28, 29, 30, 31, 32, 33, 34, 35, 36, 37, 38, 39, 40, 41] (by decide) rfl ⟨Nat.zero_le _, Nat.zero_le _⟩ dX1_keep_18 (fun H locs w => ?_)
  refine x_ifB_eq (P := wth 0 0 3 = true) (tgt := 47) hx hb dX1_keep_21 (by decide) (fun c21_2 => ?_) (fun c21_2 => ?_)
  ·
    exact absurd (by decide +kernel) c21_2
  ·
    refine lv_aload_n hx hb dX1_keep_24 rfl (lv_at hl 1 rfl) ?_
    refine lv_aload_n hx hb dX1_keep_25 rfl (lv_at hl 0 rfl) ?_
    refine x_get (v := .ref (h 1)) (T := TX1) C w 0 0 rfl rfl (fun _ h => List.mem_cons_of_mem _ (List.mem_append_left _ (List.mem_append_left _ (List.mem_append_right _ (h))))) (List.mem_of_getElem? (i := 2) rfl) (by decide) rfl dX1_keep_26 ?_
    refine lv_aload_n hx hb dX1_keep_29 rfl (lv_at hl 0 rfl) ?_
    refine x_get (v := .int 0) (T := TX1) C w 0 1 rfl rfl (fun _ h => List.mem_cons_of_mem _ (List.mem_append_left _ (List.mem_append_left _ (List.mem_append_right _ (h))))) (List.mem_of_getElem? (i := 1) rfl) (by decide) rfl dX1_keep_30 ?_
    refine x_aald (v := ((b 0) 0)) C w 1 1 (0) rfl ht1 rfl (by decide) (by decide) rfl dX1_keep_33 ?_
    refine x_callSv (wr := hH cS h b 0 ++ sW cI (b 1) (Hs 1) ++ sW cI (b 2) (Hs 2) ++ sW cI (b 3) (Hs 3)) (w2 := hH cS h b 0 ++ sW cI (b 0) G ++ sW cI (b 1) (Hs 1) ++ sW cI (b 2) (Hs 2) ++ sW cI (b 3) (Hs 3) ++ sW cI o G) (rest := []) (n := 2) C w hl [.ref (o 0), .ref ((b 0) 0)] (k_X4_copy l D cI cS tys ht0 o G (b 0) (Hs 0) ) gX1_keep_X4_copy rfl (by decide +kernel) ⟨Nat.le_of_ble_eq_true rfl, Nat.le_of_ble_eq_true rfl⟩ rfl rfl (Nat.le_of_ble_eq_true rfl) [34, 35, 36, 37, 38, 39, 40, 41, 2, 3, 4, 5, 6, 7, 8, 9] [0, 1, 10, 11, 12, 13, 14, 15, 16, 17, 18, 19, 20, 21, 22, 23, 24, 25, 26, 27, 28, 29, 30, 31, 32, 33] (by decide) rfl rfl (by decide) (by decide) [0, 1, 34, 35, 36, 37, 38, 39, 40, 41, 2, 3, 4, 5, 6, 7, 8, 9, 10, 11, 12, 13, 14, 15, 16, 17, 18, 19, 20, 21, 22, 23, 24, 25, 26, 27, 28, 29, 30, 31, 32, 33] (by decide) rfl ⟨Nat.zero_le _, Nat.zero_le _⟩ dX1_keep_34 (fun H locs w => ?_)
    refine lv_aload_n hx hb dX1_keep_37 rfl (lv_at hl 0 rfl) ?_
    refine lv_dup hx hb dX1_keep_38 rfl ?_
    refine x_get (v := .int 0) (T := TX1) C w 0 1 rfl rfl (fun _ h => List.mem_cons_of_mem _ (List.mem_append_left _ (List.mem_append_left _ (List.mem_append_right _ (h))))) (List.mem_of_getElem? (i := 1) rfl) (by decide) rfl dX1_keep_39 ?_
    refine lv_iconst (v := 1) hx hb dX1_keep_42 (by decide +kernel) ?_
    refine lv_iadd (x := 0) (y := 1) hx hb dX1_keep_43 ?_
    refine x_top (y := 1) (by decide +kernel) ?_
    refine x_put (v := .int 1) (ty := .int) (T := TX1) (ws2 := hH cS h b 1 ++ sW cI (b 0) G ++ sW cI (b 1) (Hs 1) ++ sW cI (b 2) (Hs 2) ++ sW cI (b 3) (Hs 3) ++ sW cI o G) C w 0 1 rfl rfl (fun _ h => List.mem_cons_of_mem _ (List.mem_append_left _ (List.mem_append_left _ (List.mem_append_right _ (h))))) tyX1 tyX1_ok nmX1 (List.mem_of_getElem? (i := 1) rfl) (by decide) (Nat.le_of_ble_eq_true rfl) rfl (by decide +kernel) rfl rfl rfl dX1_keep_44 (fun H locs w => ?_)
    exact x_vret C w rfl dX1_keep_47
set_option maxHeartbeats 1000000 in
set_option maxRecDepth 100000 in
theorem k_X1_keep1 (l : Launch) (D : va_G) (cI cS : ClassId) (tys : List (ClassId × FieldType)) (ht0 : tys[0]? = some (cI, .int)) (ht1 : tys[1]? = some (cS, .object RX4)) (h : Nat → Nat) (b : Nat → Nat → Nat) (Hs : Nat → St) (o : Nat → Nat) (G : St)  : xV l yX1_keep wsX1_keep 3 D tys [.ref (h 0), .ref (o 0)] (hH cS h b 1 ++ sW cI (b 0) (Hs 0) ++ sW cI (b 1) (Hs 1) ++ sW cI (b 2) (Hs 2) ++ sW cI (b 3) (Hs 3) ++ sW cI o G) (hH cS h b 2 ++ sW cI (b 0) (Hs 0) ++ sW cI (b 1) G ++ sW cI (b 2) (Hs 2) ++ sW cI (b 3) (Hs 3) ++ sW cI o G) := by
  refine x_inV (cc := cX1_keep) (maxL := 2) (ret := none) (by decide) rfl (Nat.le_of_ble_eq_true rfl) ?_
  intro p e s m args below meth c A ls C w hl
  have C : xC p s m meth c args cX1_keep 2 wsX1_keep RX1 D tys none := C
  have hx := C.1.1
  have hb := C.1.2.1
  have hts := C.1.2.2.2.2
  have hown := C.1.2.2.2.1
  have w : xW D A s.heap (hH cS h b 1 ++ sW cI (b 0) (Hs 0) ++ sW cI (b 1) (Hs 1) ++ sW cI (b 2) (Hs 2) ++ sW cI (b 3) (Hs 3) ++ sW cI o G) s.heap [] := w
  have hl : lv_has ls 2 [(0, .ref (h 0)), (1, .ref (o 0))] := hl
  refine lv_aload_n hx hb dX1_keep_0 rfl (lv_at hl 0 rfl) ?_
  refine x_get (v := .int 1) (T := TX1) C w 0 1 rfl rfl (fun _ h => List.mem_cons_of_mem _ (List.mem_append_left _ (List.mem_append_left _ (List.mem_append_right _ (h))))) (List.mem_of_getElem? (i := 1) rfl) (by decide) rfl dX1_keep_1 ?_
  refine lv_iconst (v := 4) hx hb dX1_keep_4 (by decide +kernel) ?_
  refine x_icR_lt (x := 1) (y := 4) (tgt := 12) hx hb dX1_keep_5 (by decide) (fun _ => ?_) (fun h => absurd h (by decide))
  refine lv_aload_n hx hb dX1_keep_12 rfl (lv_at hl 0 rfl) ?_
  refine x_get (v := .int 1) (T := TX1) C w 0 1 rfl rfl (fun _ h => List.mem_cons_of_mem _ (List.mem_append_left _ (List.mem_append_left _ (List.mem_append_right _ (h))))) (List.mem_of_getElem? (i := 1) rfl) (by decide) rfl dX1_keep_13 ?_
  refine lv_iconst (v := 0) hx hb dX1_keep_16 (by decide +kernel) ?_
  refine lv_iconst (v := 3) hx hb dX1_keep_17 (by decide +kernel) ?_
  refine x_callNi (wr := hH cS h b 1 ++ sW cI (b 0) (Hs 0) ++ sW cI (b 1) (Hs 1) ++ sW cI (b 2) (Hs 2) ++ sW cI (b 3) (Hs 3) ++ sW cI o G) (w2 := hH cS h b 1 ++ sW cI (b 0) (Hs 0) ++ sW cI (b 1) (Hs 1) ++ sW cI (b 2) (Hs 2) ++ sW cI (b 3) (Hs 3) ++ sW cI o G) (rest := []) (n := 3) C w hl [.int 1, .int 0, .int 3] (k_X6_isWithin l D cI cS tys ht0 1 0 3 ) gX1_keep_X6_isWithin_n25 rfl (by decide) (List.mem_of_getElem? (i := 9) rfl) (List.mem_of_getElem? (i := 8) rfl) (by decide +kernel) ⟨Nat.le_of_ble_eq_true rfl, Nat.le_of_ble_eq_true rfl⟩ rfl rfl (Nat.le_of_ble_eq_true rfl) [] [0, 1, 2, 3, 4, 5, 6, 7, 8, 9, 10, 11, 12, 13, 14, 15, 16, 17, 18, 19, 20, 21, 22, 23, 24, 25, 26, 27, 28, 29, 30, 31, 32, 33, 34, 35, 36, 37, 38, 39, 40, 41] (by decide) rfl rfl (by decide) (by decide) [0, 1, 2, 3, 4, 5, 6, 7, 8, 9, 10, 11, 12, 13, 14, 15, 16, 17, 18, 19, 20, 21, 22, 23, 24, 25, 26, 27, 28, 29, 30, 31, 32, 33, 34, 35, 36, 37, 38, 39, 40, 41] (by decide) rfl ⟨Nat.zero_le _, Nat.zero_le _⟩ dX1_keep_18 (fun H locs w => ?_)
  refine x_ifB_eq (P := wth 1 0 3 = true) (tgt := 47) hx hb dX1_keep_21 (by decide) (fun c21_2 => ?_) (fun c21_2 => ?_)
  ·
    exact absurd (by decide +kernel) c21_2
  ·
    refine lv_aload_n hx hb dX1_keep_24 rfl (lv_at hl 1 rfl) ?_
    refine lv_aload_n hx hb dX1_keep_25 rfl (lv_at hl 0 rfl) ?_
    refine x_get (v := .ref (h 1)) (T := TX1) C w 0 0 rfl rfl (fun _ h => List.mem_cons_of_mem _ (List.mem_append_left _ (List.mem_append_left _ (List.mem_append_right _ (h))))) (List.mem_of_getElem? (i := 2) rfl) (by decide) rfl dX1_keep_26 ?_
    refine lv_aload_n hx hb dX1_keep_29 rfl (lv_at hl 0 rfl) ?_
    refine x_get (v := .int 1) (T := TX1) C w 0 1 rfl rfl (fun _ h => List.mem_cons_of_mem _ (List.mem_append_left _ (List.mem_append_left _ (List.mem_append_right _ (h))))) (List.mem_of_getElem? (i := 1) rfl) (by decide) rfl dX1_keep_30 ?_
    refine x_aald (v := ((b 1) 0)) C w 1 1 (1) rfl ht1 rfl (by decide) (by decide) rfl dX1_keep_33 ?_
    refine x_callSv (wr := hH cS h b 1 ++ sW cI (b 0) (Hs 0) ++ sW cI (b 2) (Hs 2) ++ sW cI (b 3) (Hs 3)) (w2 := hH cS h b 1 ++ sW cI (b 0) (Hs 0) ++ sW cI (b 1) G ++ sW cI (b 2) (Hs 2) ++ sW cI (b 3) (Hs 3) ++ sW cI o G) (rest := []) (n := 2) C w hl [.ref (o 0), .ref ((b 1) 0)] (k_X4_copy l D cI cS tys ht0 o G (b 1) (Hs 1) ) gX1_keep_X4_copy rfl (by decide +kernel) ⟨Nat.le_of_ble_eq_true rfl, Nat.le_of_ble_eq_true rfl⟩ rfl rfl (Nat.le_of_ble_eq_true rfl) [34, 35, 36, 37, 38, 39, 40, 41, 10, 11, 12, 13, 14, 15, 16, 17] [0, 1, 2, 3, 4, 5, 6, 7, 8, 9, 18, 19, 20, 21, 22, 23, 24, 25, 26, 27, 28, 29, 30, 31, 32, 33] (by decide) rfl rfl (by decide) (by decide) [0, 1, 2, 3, 4, 5, 6, 7, 8, 9, 34, 35, 36, 37, 38, 39, 40, 41, 10, 11, 12, 13, 14, 15, 16, 17, 18, 19, 20, 21, 22, 23, 24, 25, 26, 27, 28, 29, 30, 31, 32, 33] (by decide) rfl ⟨Nat.zero_le _, Nat.zero_le _⟩ dX1_keep_34 (fun H locs w => ?_)
    refine lv_aload_n hx hb dX1_keep_37 rfl (lv_at hl 0 rfl) ?_
    refine lv_dup hx hb dX1_keep_38 rfl ?_
    refine x_get (v := .int 1) (T := TX1) C w 0 1 rfl rfl (fun _ h => List.mem_cons_of_mem _ (List.mem_append_left _ (List.mem_append_left _ (List.mem_append_right _ (h))))) (List.mem_of_getElem? (i := 1) rfl) (by decide) rfl dX1_keep_39 ?_
    refine lv_iconst (v := 1) hx hb dX1_keep_42 (by decide +kernel) ?_
    refine lv_iadd (x := 1) (y := 1) hx hb dX1_keep_43 ?_
    refine x_top (y := 2) (by decide +kernel) ?_
    refine x_put (v := .int 2) (ty := .int) (T := TX1) (ws2 := hH cS h b 2 ++ sW cI (b 0) (Hs 0) ++ sW cI (b 1) G ++ sW cI (b 2) (Hs 2) ++ sW cI (b 3) (Hs 3) ++ sW cI o G) C w 0 1 rfl rfl (fun _ h => List.mem_cons_of_mem _ (List.mem_append_left _ (List.mem_append_left _ (List.mem_append_right _ (h))))) tyX1 tyX1_ok nmX1 (List.mem_of_getElem? (i := 1) rfl) (by decide) (Nat.le_of_ble_eq_true rfl) rfl (by decide +kernel) rfl rfl rfl dX1_keep_44 (fun H locs w => ?_)
    exact x_vret C w rfl dX1_keep_47
set_option maxHeartbeats 1000000 in
set_option maxRecDepth 100000 in
theorem k_X1_keep2 (l : Launch) (D : va_G) (cI cS : ClassId) (tys : List (ClassId × FieldType)) (ht0 : tys[0]? = some (cI, .int)) (ht1 : tys[1]? = some (cS, .object RX4)) (h : Nat → Nat) (b : Nat → Nat → Nat) (Hs : Nat → St) (o : Nat → Nat) (G : St)  : xV l yX1_keep wsX1_keep 3 D tys [.ref (h 0), .ref (o 0)] (hH cS h b 2 ++ sW cI (b 0) (Hs 0) ++ sW cI (b 1) (Hs 1) ++ sW cI (b 2) (Hs 2) ++ sW cI (b 3) (Hs 3) ++ sW cI o G) (hH cS h b 3 ++ sW cI (b 0) (Hs 0) ++ sW cI (b 1) (Hs 1) ++ sW cI (b 2) G ++ sW cI (b 3) (Hs 3) ++ sW cI o G) := by
  refine x_inV (cc := cX1_keep) (maxL := 2) (ret := none) (by decide) rfl (Nat.le_of_ble_eq_true rfl) ?_
  intro p e s m args below meth c A ls C w hl
  have C : xC p s m meth c args cX1_keep 2 wsX1_keep RX1 D tys none := C
  have hx := C.1.1
  have hb := C.1.2.1
  have hts := C.1.2.2.2.2
  have hown := C.1.2.2.2.1
  have w : xW D A s.heap (hH cS h b 2 ++ sW cI (b 0) (Hs 0) ++ sW cI (b 1) (Hs 1) ++ sW cI (b 2) (Hs 2) ++ sW cI (b 3) (Hs 3) ++ sW cI o G) s.heap [] := w
  have hl : lv_has ls 2 [(0, .ref (h 0)), (1, .ref (o 0))] := hl
  refine lv_aload_n hx hb dX1_keep_0 rfl (lv_at hl 0 rfl) ?_
  refine x_get (v := .int 2) (T := TX1) C w 0 1 rfl rfl (fun _ h => List.mem_cons_of_mem _ (List.mem_append_left _ (List.mem_append_left _ (List.mem_append_right _ (h))))) (List.mem_of_getElem? (i := 1) rfl) (by decide) rfl dX1_keep_1 ?_
  refine lv_iconst (v := 4) hx hb dX1_keep_4 (by decide +kernel) ?_
  refine x_icR_lt (x := 2) (y := 4) (tgt := 12) hx hb dX1_keep_5 (by decide) (fun _ => ?_) (fun h => absurd h (by decide))
  refine lv_aload_n hx hb dX1_keep_12 rfl (lv_at hl 0 rfl) ?_
  refine x_get (v := .int 2) (T := TX1) C w 0 1 rfl rfl (fun _ h => List.mem_cons_of_mem _ (List.mem_append_left _ (List.mem_append_left _ (List.mem_append_right _ (h))))) (List.mem_of_getElem? (i := 1) rfl) (by decide) rfl dX1_keep_13 ?_
  refine lv_iconst (v := 0) hx hb dX1_keep_16 (by decide +kernel) ?_
  refine lv_iconst (v := 3) hx hb dX1_keep_17 (by decide +kernel) ?_
  refine x_callNi (wr := hH cS h b 2 ++ sW cI (b 0) (Hs 0) ++ sW cI (b 1) (Hs 1) ++ sW cI (b 2) (Hs 2) ++ sW cI (b 3) (Hs 3) ++ sW cI o G) (w2 := hH cS h b 2 ++ sW cI (b 0) (Hs 0) ++ sW cI (b 1) (Hs 1) ++ sW cI (b 2) (Hs 2) ++ sW cI (b 3) (Hs 3) ++ sW cI o G) (rest := []) (n := 3) C w hl [.int 2, .int 0, .int 3] (k_X6_isWithin l D cI cS tys ht0 2 0 3 ) gX1_keep_X6_isWithin_n25 rfl (by decide) (List.mem_of_getElem? (i := 9) rfl) (List.mem_of_getElem? (i := 8) rfl) (by decide +kernel) ⟨Nat.le_of_ble_eq_true rfl, Nat.le_of_ble_eq_true rfl⟩ rfl rfl (Nat.le_of_ble_eq_true rfl) [] [0, 1, 2, 3, 4, 5, 6, 7, 8, 9, 10, 11, 12, 13, 14, 15, 16, 17, 18, 19, 20, 21, 22, 23, 24, 25, 26, 27, 28, 29, 30, 31, 32, 33, 34, 35, 36, 37, 38, 39, 40, 41] (by decide) rfl rfl (by decide) (by decide) [0, 1, 2, 3, 4, 5, 6, 7, 8, 9, 10, 11, 12, 13, 14, 15, 16, 17, 18, 19, 20, 21, 22, 23, 24, 25, 26, 27, 28, 29, 30, 31, 32, 33, 34, 35, 36, 37, 38, 39, 40, 41] (by decide) rfl ⟨Nat.zero_le _, Nat.zero_le _⟩ dX1_keep_18 (fun H locs w => ?_)
  refine x_ifB_eq (P := wth 2 0 3 = true) (tgt := 47) hx hb dX1_keep_21 (by decide) (fun c21_2 => ?_) (fun c21_2 => ?_)
  ·
    exact absurd (by decide +kernel) c21_2
  ·
    refine lv_aload_n hx hb dX1_keep_24 rfl (lv_at hl 1 rfl) ?_
    refine lv_aload_n hx hb dX1_keep_25 rfl (lv_at hl 0 rfl) ?_
    refine x_get (v := .ref (h 1)) (T := TX1) C w 0 0 rfl rfl (fun _ h => List.mem_cons_of_mem _ (List.mem_append_left _ (List.mem_append_left _ (List.mem_append_right _ (h))))) (List.mem_of_getElem? (i := 2) rfl) (by decide) rfl dX1_keep_26 ?_
    refine lv_aload_n hx hb dX1_keep_29 rfl (lv_at hl 0 rfl) ?_
    refine x_get (v := .int 2) (T := TX1) C w 0 1 rfl rfl (fun _ h => List.mem_cons_of_mem _ (List.mem_append_left _ (List.mem_append_left _ (List.mem_append_right _ (h))))) (List.mem_of_getElem? (i := 1) rfl) (by decide) rfl dX1_keep_30 ?_
    refine x_aald (v := ((b 2) 0)) C w 1 1 (2) rfl ht1 rfl (by decide) (by decide) rfl dX1_keep_33 ?_
    refine x_callSv (wr := hH cS h b 2 ++ sW cI (b 0) (Hs 0) ++ sW cI (b 1) (Hs 1) ++ sW cI (b 3) (Hs 3)) (w2 := hH cS h b 2 ++ sW cI (b 0) (Hs 0) ++ sW cI (b 1) (Hs 1) ++ sW cI (b 2) G ++ sW cI (b 3) (Hs 3) ++ sW cI o G) (rest := []) (n := 2) C w hl [.ref (o 0), .ref ((b 2) 0)] (k_X4_copy l D cI cS tys ht0 o G (b 2) (Hs 2) ) gX1_keep_X4_copy rfl (by decide +kernel) ⟨Nat.le_of_ble_eq_true rfl, Nat.le_of_ble_eq_true rfl⟩ rfl rfl (Nat.le_of_ble_eq_true rfl) [34, 35, 36, 37, 38, 39, 40, 41, 18, 19, 20, 21, 22, 23, 24, 25] [0, 1, 2, 3, 4, 5, 6, 7, 8, 9, 10, 11, 12, 13, 14, 15, 16, 17, 26, 27, 28, 29, 30, 31, 32, 33] (by decide) rfl rfl (by decide) (by decide) [0, 1, 2, 3, 4, 5, 6, 7, 8, 9, 10, 11, 12, 13, 14, 15, 16, 17, 34, 35, 36, 37, 38, 39, 40, 41, 18, 19, 20, 21, 22, 23, 24, 25, 26, 27, 28, 29, 30, 31, 32, 33] (by decide) rfl ⟨Nat.zero_le _, Nat.zero_le _⟩ dX1_keep_34 (fun H locs w => ?_)
    refine lv_aload_n hx hb dX1_keep_37 rfl (lv_at hl 0 rfl) ?_
    refine lv_dup hx hb dX1_keep_38 rfl ?_
    refine x_get (v := .int 2) (T := TX1) C w 0 1 rfl rfl (fun _ h => List.mem_cons_of_mem _ (List.mem_append_left _ (List.mem_append_left _ (List.mem_append_right _ (h))))) (List.mem_of_getElem? (i := 1) rfl) (by decide) rfl dX1_keep_39 ?_
    refine lv_iconst (v := 1) hx hb dX1_keep_42 (by decide +kernel) ?_
    refine lv_iadd (x := 2) (y := 1) hx hb dX1_keep_43 ?_
    refine x_top (y := 3) (by decide +kernel) ?_
    refine x_put (v := .int 3) (ty := .int) (T := TX1) (ws2 := hH cS h b 3 ++ sW cI (b 0) (Hs 0) ++ sW cI (b 1) (Hs 1) ++ sW cI (b 2) G ++ sW cI (b 3) (Hs 3) ++ sW cI o G) C w 0 1 rfl rfl (fun _ h => List.mem_cons_of_mem _ (List.mem_append_left _ (List.mem_append_left _ (List.mem_append_right _ (h))))) tyX1 tyX1_ok nmX1 (List.mem_of_getElem? (i := 1) rfl) (by decide) (Nat.le_of_ble_eq_true rfl) rfl (by decide +kernel) rfl rfl rfl dX1_keep_44 (fun H locs w => ?_)
    exact x_vret C w rfl dX1_keep_47
set_option maxHeartbeats 1000000 in
set_option maxRecDepth 100000 in
theorem k_X1_keep3 (l : Launch) (D : va_G) (cI cS : ClassId) (tys : List (ClassId × FieldType)) (ht0 : tys[0]? = some (cI, .int)) (ht1 : tys[1]? = some (cS, .object RX4)) (h : Nat → Nat) (b : Nat → Nat → Nat) (Hs : Nat → St) (o : Nat → Nat) (G : St)  : xV l yX1_keep wsX1_keep 3 D tys [.ref (h 0), .ref (o 0)] (hH cS h b 3 ++ sW cI (b 0) (Hs 0) ++ sW cI (b 1) (Hs 1) ++ sW cI (b 2) (Hs 2) ++ sW cI (b 3) (Hs 3) ++ sW cI o G) (hH cS h b 4 ++ sW cI (b 0) (Hs 0) ++ sW cI (b 1) (Hs 1) ++ sW cI (b 2) (Hs 2) ++ sW cI (b 3) G ++ sW cI o G) := by
  refine x_inV (cc := cX1_keep) (maxL := 2) (ret := none) (by decide) rfl (Nat.le_of_ble_eq_true rfl) ?_
  intro p e s m args below meth c A ls C w hl
  have C : xC p s m meth c args cX1_keep 2 wsX1_keep RX1 D tys none := C
  have hx := C.1.1
  have hb := C.1.2.1
  have hts := C.1.2.2.2.2
  have hown := C.1.2.2.2.1
  have w : xW D A s.heap (hH cS h b 3 ++ sW cI (b 0) (Hs 0) ++ sW cI (b 1) (Hs 1) ++ sW cI (b 2) (Hs 2) ++ sW cI (b 3) (Hs 3) ++ sW cI o G) s.heap [] := w
  have hl : lv_has ls 2 [(0, .ref (h 0)), (1, .ref (o 0))] := hl
  refine lv_aload_n hx hb dX1_keep_0 rfl (lv_at hl 0 rfl) ?_
  refine x_get (v := .int 3) (T := TX1) C w 0 1 rfl rfl (fun _ h => List.mem_cons_of_mem _ (List.mem_append_left _ (List.mem_append_left _ (List.mem_append_right _ (h))))) (List.mem_of_getElem? (i := 1) rfl) (by decide) rfl dX1_keep_1 ?_
  refine lv_iconst (v := 4) hx hb dX1_keep_4 (by decide +kernel) ?_
  refine x_icR_lt (x := 3) (y := 4) (tgt := 12) hx hb dX1_keep_5 (by decide) (fun _ => ?_) (fun h => absurd h (by decide))
  refine lv_aload_n hx hb dX1_keep_12 rfl (lv_at hl 0 rfl) ?_
  refine x_get (v := .int 3) (T := TX1) C w 0 1 rfl rfl (fun _ h => List.mem_cons_of_mem _ (List.mem_append_left _ (List.mem_append_left _ (List.mem_append_right _ (h))))) (List.mem_of_getElem? (i := 1) rfl) (by decide) rfl dX1_keep_13 ?_
  refine lv_iconst (v := 0) hx hb dX1_keep_16 (by decide +kernel) ?_
  refine lv_iconst (v := 3) hx hb dX1_keep_17 (by decide +kernel) ?_
  refine x_callNi (wr := hH cS h b 3 ++ sW cI (b 0) (Hs 0) ++ sW cI (b 1) (Hs 1) ++ sW cI (b 2) (Hs 2) ++ sW cI (b 3) (Hs 3) ++ sW cI o G) (w2 := hH cS h b 3 ++ sW cI (b 0) (Hs 0) ++ sW cI (b 1) (Hs 1) ++ sW cI (b 2) (Hs 2) ++ sW cI (b 3) (Hs 3) ++ sW cI o G) (rest := []) (n := 3) C w hl [.int 3, .int 0, .int 3] (k_X6_isWithin l D cI cS tys ht0 3 0 3 ) gX1_keep_X6_isWithin_n25 rfl (by decide) (List.mem_of_getElem? (i := 9) rfl) (List.mem_of_getElem? (i := 8) rfl) (by decide +kernel) ⟨Nat.le_of_ble_eq_true rfl, Nat.le_of_ble_eq_true rfl⟩ rfl rfl (Nat.le_of_ble_eq_true rfl) [] [0, 1, 2, 3, 4, 5, 6, 7, 8, 9, 10, 11, 12, 13, 14, 15, 16, 17, 18, 19, 20, 21, 22, 23, 24, 25, 26, 27, 28, 29, 30, 31, 32, 33, 34, 35, 36, 37, 38, 39, 40, 41] (by decide) rfl rfl (by decide) (by decide) [0, 1, 2, 3, 4, 5, 6, 7, 8, 9, 10, 11, 12, 13, 14, 15, 16, 17, 18, 19, 20, 21, 22, 23, 24, 25, 26, 27, 28, 29, 30, 31, 32, 33, 34, 35, 36, 37, 38, 39, 40, 41] (by decide) rfl ⟨Nat.zero_le _, Nat.zero_le _⟩ dX1_keep_18 (fun H locs w => ?_)
  refine x_ifB_eq (P := wth 3 0 3 = true) (tgt := 47) hx hb dX1_keep_21 (by decide) (fun c21_2 => ?_) (fun c21_2 => ?_)
  ·
    exact absurd (by decide +kernel) c21_2
  ·
    refine lv_aload_n hx hb dX1_keep_24 rfl (lv_at hl 1 rfl) ?_
    refine lv_aload_n hx hb dX1_keep_25 rfl (lv_at hl 0 rfl) ?_
    refine x_get (v := .ref (h 1)) (T := TX1) C w 0 0 rfl rfl (fun _ h => List.mem_cons_of_mem _ (List.mem_append_left _ (List.mem_append_left _ (List.mem_append_right _ (h))))) (List.mem_of_getElem? (i := 2) rfl) (by decide) rfl dX1_keep_26 ?_
    refine lv_aload_n hx hb dX1_keep_29 rfl (lv_at hl 0 rfl) ?_
    refine x_get (v := .int 3) (T := TX1) C w 0 1 rfl rfl (fun _ h => List.mem_cons_of_mem _ (List.mem_append_left _ (List.mem_append_left _ (List.mem_append_right _ (h))))) (List.mem_of_getElem? (i := 1) rfl) (by decide) rfl dX1_keep_30 ?_
    refine x_aald (v := ((b 3) 0)) C w 1 1 (3) rfl ht1 rfl (by decide) (by decide) rfl dX1_keep_33 ?_
    refine x_callSv (wr := hH cS h b 3 ++ sW cI (b 0) (Hs 0) ++ sW cI (b 1) (Hs 1) ++ sW cI (b 2) (Hs 2)) (w2 := hH cS h b 3 ++ sW cI (b 0) (Hs 0) ++ sW cI (b 1) (Hs 1) ++ sW cI (b 2) (Hs 2) ++ sW cI (b 3) G ++ sW cI o G) (rest := []) (n := 2) C w hl [.ref (o 0), .ref ((b 3) 0)] (k_X4_copy l D cI cS tys ht0 o G (b 3) (Hs 3) ) gX1_keep_X4_copy rfl (by decide +kernel) ⟨Nat.le_of_ble_eq_true rfl, Nat.le_of_ble_eq_true rfl⟩ rfl rfl (Nat.le_of_ble_eq_true rfl) [34, 35, 36, 37, 38, 39, 40, 41, 26, 27, 28, 29, 30, 31, 32, 33] [0, 1, 2, 3, 4, 5, 6, 7, 8, 9, 10, 11, 12, 13, 14, 15, 16, 17, 18, 19, 20, 21, 22, 23, 24, 25] (by decide) rfl rfl (by decide) (by decide) [0, 1, 2, 3, 4, 5, 6, 7, 8, 9, 10, 11, 12, 13, 14, 15, 16, 17, 18, 19, 20, 21, 22, 23, 24, 25, 34, 35, 36, 37, 38, 39, 40, 41, 26, 27, 28, 29, 30, 31, 32, 33] (by decide) rfl ⟨Nat.zero_le _, Nat.zero_le _⟩ dX1_keep_34 (fun H locs w => ?_)
    refine lv_aload_n hx hb dX1_keep_37 rfl (lv_at hl 0 rfl) ?_
    refine lv_dup hx hb dX1_keep_38 rfl ?_
    refine x_get (v := .int 3) (T := TX1) C w 0 1 rfl rfl (fun _ h => List.mem_cons_of_mem _ (List.mem_append_left _ (List.mem_append_left _ (List.mem_append_right _ (h))))) (List.mem_of_getElem? (i := 1) rfl) (by decide) rfl dX1_keep_39 ?_
    refine lv_iconst (v := 1) hx hb dX1_keep_42 (by decide +kernel) ?_
    refine lv_iadd (x := 3) (y := 1) hx hb dX1_keep_43 ?_
    refine x_top (y := 4) (by decide +kernel) ?_
    refine x_put (v := .int 4) (ty := .int) (T := TX1) (ws2 := hH cS h b 4 ++ sW cI (b 0) (Hs 0) ++ sW cI (b 1) (Hs 1) ++ sW cI (b 2) (Hs 2) ++ sW cI (b 3) G ++ sW cI o G) C w 0 1 rfl rfl (fun _ h => List.mem_cons_of_mem _ (List.mem_append_left _ (List.mem_append_left _ (List.mem_append_right _ (h))))) tyX1 tyX1_ok nmX1 (List.mem_of_getElem? (i := 1) rfl) (by decide) (Nat.le_of_ble_eq_true rfl) rfl (by decide +kernel) rfl rfl rfl dX1_keep_44 (fun H locs w => ?_)
    exact x_vret C w rfl dX1_keep_47
set_option maxHeartbeats 1000000 in
set_option maxRecDepth 100000 in
theorem k_X1_keep4 (l : Launch) (D : va_G) (cI cS : ClassId) (tys : List (ClassId × FieldType)) (ht0 : tys[0]? = some (cI, .int)) (ht1 : tys[1]? = some (cS, .object RX4)) (h : Nat → Nat) (b : Nat → Nat → Nat) (Hs : Nat → St) (o : Nat → Nat) (G : St)  : xV l yX1_keep wsX1_keep 3 D tys [.ref (h 0), .ref (o 0)] (hH cS h b 4 ++ sW cI (b 0) (Hs 0) ++ sW cI (b 1) (Hs 1) ++ sW cI (b 2) (Hs 2) ++ sW cI (b 3) (Hs 3) ++ sW cI o G) (hH cS h (rtA b) 4 ++ sW cI ((rtA b) 0) ((rtG Hs) 0) ++ sW cI ((rtA b) 1) ((rtG Hs) 1) ++ sW cI ((rtA b) 2) ((rtG Hs) 2) ++ sW cI ((rtA b) 3) G ++ sW cI o G) := by
  refine x_inV (cc := cX1_keep) (maxL := 2) (ret := none) (by decide) rfl (Nat.le_of_ble_eq_true rfl) ?_
  intro p e s m args below meth c A ls C w hl
  have C : xC p s m meth c args cX1_keep 2 wsX1_keep RX1 D tys none := C
  have hx := C.1.1
  have hb := C.1.2.1
  have hts := C.1.2.2.2.2
  have hown := C.1.2.2.2.1
  have w : xW D A s.heap (hH cS h b 4 ++ sW cI (b 0) (Hs 0) ++ sW cI (b 1) (Hs 1) ++ sW cI (b 2) (Hs 2) ++ sW cI (b 3) (Hs 3) ++ sW cI o G) s.heap [] := w
  have hl : lv_has ls 2 [(0, .ref (h 0)), (1, .ref (o 0))] := hl
  refine lv_aload_n hx hb dX1_keep_0 rfl (lv_at hl 0 rfl) ?_
  refine x_get (v := .int 4) (T := TX1) C w 0 1 rfl rfl (fun _ h => List.mem_cons_of_mem _ (List.mem_append_left _ (List.mem_append_left _ (List.mem_append_right _ (h))))) (List.mem_of_getElem? (i := 1) rfl) (by decide) rfl dX1_keep_1 ?_
  refine lv_iconst (v := 4) hx hb dX1_keep_4 (by decide +kernel) ?_
  refine x_icR_lt (x := 4) (y := 4) (tgt := 12) hx hb dX1_keep_5 (by decide) (fun h => absurd h (by decide)) (fun _ => ?_)
  refine lv_aload_n hx hb dX1_keep_8 rfl (lv_at hl 0 rfl) ?_
  refine x_callVv (wr := sW cI o G) (w2 := hH cS h (rtA b) 3 ++ sW cI ((rtA b) 0) ((rtG Hs) 0) ++ sW cI ((rtA b) 1) ((rtG Hs) 1) ++ sW cI ((rtA b) 2) ((rtG Hs) 2) ++ sW cI ((rtA b) 3) ((rtG Hs) 3) ++ sW cI o G) (rest := []) (n := 0) C w hl [] (k_X1_dropOldest l D cI cS tys ht0 ht1 h b Hs ) gX1_keep_X1_dropOldest rfl (by decide +kernel) ⟨Nat.le_of_ble_eq_true rfl, Nat.le_of_ble_eq_true rfl⟩ 0 1 rfl rfl rfl rfl (Nat.le_of_ble_eq_true rfl) [0, 1, 2, 3, 4, 5, 6, 7, 8, 9, 10, 11, 12, 13, 14, 15, 16, 17, 18, 19, 20, 21, 22, 23, 24, 25, 26, 27, 28, 29, 30, 31, 32, 33] [34, 35, 36, 37, 38, 39, 40, 41] (by decide) rfl rfl (by decide) (by decide) [8, 9, 10, 11, 12, 13, 14, 15, 16, 17, 18, 19, 20, 21, 22, 23, 24, 25, 26, 27, 28, 29, 30, 31, 32, 33, 34, 35, 36, 37, 38, 39, 40, 41, 0, 1, 2, 3, 4, 5, 6, 7] (by decide) rfl ⟨Nat.zero_le _, Nat.zero_le _⟩ dX1_keep_9 (fun H locs w => ?_)
  refine lv_aload_n hx hb dX1_keep_12 rfl (lv_at hl 0 rfl) ?_
  refine x_get (v := .int 3) (T := TX1) C w 0 1 rfl rfl (fun _ h => List.mem_cons_of_mem _ (List.mem_append_left _ (List.mem_append_left _ (List.mem_append_right _ (h))))) (List.mem_of_getElem? (i := 1) rfl) (by decide) rfl dX1_keep_13 ?_
  refine lv_iconst (v := 0) hx hb dX1_keep_16 (by decide +kernel) ?_
  refine lv_iconst (v := 3) hx hb dX1_keep_17 (by decide +kernel) ?_
  refine x_callNi (wr := hH cS h (rtA b) 3 ++ sW cI ((rtA b) 0) ((rtG Hs) 0) ++ sW cI ((rtA b) 1) ((rtG Hs) 1) ++ sW cI ((rtA b) 2) ((rtG Hs) 2) ++ sW cI ((rtA b) 3) ((rtG Hs) 3) ++ sW cI o G) (w2 := hH cS h (rtA b) 3 ++ sW cI ((rtA b) 0) ((rtG Hs) 0) ++ sW cI ((rtA b) 1) ((rtG Hs) 1) ++ sW cI ((rtA b) 2) ((rtG Hs) 2) ++ sW cI ((rtA b) 3) ((rtG Hs) 3) ++ sW cI o G) (rest := []) (n := 3) C w hl [.int 3, .int 0, .int 3] (k_X6_isWithin l D cI cS tys ht0 3 0 3 ) gX1_keep_X6_isWithin_n25 rfl (by decide) (List.mem_of_getElem? (i := 9) rfl) (List.mem_of_getElem? (i := 8) rfl) (by decide +kernel) ⟨Nat.le_of_ble_eq_true rfl, Nat.le_of_ble_eq_true rfl⟩ rfl rfl (Nat.le_of_ble_eq_true rfl) [] [0, 1, 2, 3, 4, 5, 6, 7, 8, 9, 10, 11, 12, 13, 14, 15, 16, 17, 18, 19, 20, 21, 22, 23, 24, 25, 26, 27, 28, 29, 30, 31, 32, 33, 34, 35, 36, 37, 38, 39, 40, 41] (by decide) rfl rfl (by decide) (by decide) [0, 1, 2, 3, 4, 5, 6, 7, 8, 9, 10, 11, 12, 13, 14, 15, 16, 17, 18, 19, 20, 21, 22, 23, 24, 25, 26, 27, 28, 29, 30, 31, 32, 33, 34, 35, 36, 37, 38, 39, 40, 41] (by decide) rfl ⟨Nat.zero_le _, Nat.zero_le _⟩ dX1_keep_18 (fun H locs w => ?_)
  refine x_ifB_eq (P := wth 3 0 3 = true) (tgt := 47) hx hb dX1_keep_21 (by decide) (fun c21_2 => ?_) (fun c21_2 => ?_)
  ·
    exact absurd (by decide +kernel) c21_2
  ·
    refine lv_aload_n hx hb dX1_keep_24 rfl (lv_at hl 1 rfl) ?_
    refine lv_aload_n hx hb dX1_keep_25 rfl (lv_at hl 0 rfl) ?_
    refine x_get (v := .ref (h 1)) (T := TX1) C w 0 0 rfl rfl (fun _ h => List.mem_cons_of_mem _ (List.mem_append_left _ (List.mem_append_left _ (List.mem_append_right _ (h))))) (List.mem_of_getElem? (i := 2) rfl) (by decide) rfl dX1_keep_26 ?_
    refine lv_aload_n hx hb dX1_keep_29 rfl (lv_at hl 0 rfl) ?_
    refine x_get (v := .int 3) (T := TX1) C w 0 1 rfl rfl (fun _ h => List.mem_cons_of_mem _ (List.mem_append_left _ (List.mem_append_left _ (List.mem_append_right _ (h))))) (List.mem_of_getElem? (i := 1) rfl) (by decide) rfl dX1_keep_30 ?_
    refine x_aald (v := (((rtA b) 3) 0)) C w 1 1 (3) rfl ht1 rfl (by decide) (by decide) rfl dX1_keep_33 ?_
    refine x_callSv (wr := hH cS h (rtA b) 3 ++ sW cI ((rtA b) 0) ((rtG Hs) 0) ++ sW cI ((rtA b) 1) ((rtG Hs) 1) ++ sW cI ((rtA b) 2) ((rtG Hs) 2)) (w2 := hH cS h (rtA b) 3 ++ sW cI ((rtA b) 0) ((rtG Hs) 0) ++ sW cI ((rtA b) 1) ((rtG Hs) 1) ++ sW cI ((rtA b) 2) ((rtG Hs) 2) ++ sW cI ((rtA b) 3) G ++ sW cI o G) (rest := []) (n := 2) C w hl [.ref (o 0), .ref (((rtA b) 3) 0)] (k_X4_copy l D cI cS tys ht0 o G ((rtA b) 3) ((rtG Hs) 3) ) gX1_keep_X4_copy rfl (by decide +kernel) ⟨Nat.le_of_ble_eq_true rfl, Nat.le_of_ble_eq_true rfl⟩ rfl rfl (Nat.le_of_ble_eq_true rfl) [34, 35, 36, 37, 38, 39, 40, 41, 26, 27, 28, 29, 30, 31, 32, 33] [0, 1, 2, 3, 4, 5, 6, 7, 8, 9, 10, 11, 12, 13, 14, 15, 16, 17, 18, 19, 20, 21, 22, 23, 24, 25] (by decide) rfl rfl (by decide) (by decide) [0, 1, 2, 3, 4, 5, 6, 7, 8, 9, 10, 11, 12, 13, 14, 15, 16, 17, 18, 19, 20, 21, 22, 23, 24, 25, 34, 35, 36, 37, 38, 39, 40, 41, 26, 27, 28, 29, 30, 31, 32, 33] (by decide) rfl ⟨Nat.zero_le _, Nat.zero_le _⟩ dX1_keep_34 (fun H locs w => ?_)
    refine lv_aload_n hx hb dX1_keep_37 rfl (lv_at hl 0 rfl) ?_
    refine lv_dup hx hb dX1_keep_38 rfl ?_
    refine x_get (v := .int 3) (T := TX1) C w 0 1 rfl rfl (fun _ h => List.mem_cons_of_mem _ (List.mem_append_left _ (List.mem_append_left _ (List.mem_append_right _ (h))))) (List.mem_of_getElem? (i := 1) rfl) (by decide) rfl dX1_keep_39 ?_
    refine lv_iconst (v := 1) hx hb dX1_keep_42 (by decide +kernel) ?_
    refine lv_iadd (x := 3) (y := 1) hx hb dX1_keep_43 ?_
    refine x_top (y := 4) (by decide +kernel) ?_
    refine x_put (v := .int 4) (ty := .int) (T := TX1) (ws2 := hH cS h (rtA b) 4 ++ sW cI ((rtA b) 0) ((rtG Hs) 0) ++ sW cI ((rtA b) 1) ((rtG Hs) 1) ++ sW cI ((rtA b) 2) ((rtG Hs) 2) ++ sW cI ((rtA b) 3) G ++ sW cI o G) C w 0 1 rfl rfl (fun _ h => List.mem_cons_of_mem _ (List.mem_append_left _ (List.mem_append_left _ (List.mem_append_right _ (h))))) tyX1 tyX1_ok nmX1 (List.mem_of_getElem? (i := 1) rfl) (by decide) (Nat.le_of_ble_eq_true rfl) rfl (by decide +kernel) rfl rfl rfl dX1_keep_44 (fun H locs w => ?_)
    exact x_vret C w rfl dX1_keep_47
theorem k_X1_keep (l : Launch) (D : va_G) (cI cS : ClassId) (tys : List (ClassId × FieldType)) (ht0 : tys[0]? = some (cI, .int)) (ht1 : tys[1]? = some (cS, .object RX4)) (h : Nat → Nat) (b : Nat → Nat → Nat) (Hs : Nat → St) (o : Nat → Nat) (G : St) (k : Nat) (hk : k ≤ 4) : xV l yX1_keep wsX1_keep 3 D tys [.ref (h 0), .ref (o 0)] (hH cS h b (nI k) ++ sW cI (b 0) (Hs 0) ++ sW cI (b 1) (Hs 1) ++ sW cI (b 2) (Hs 2) ++ sW cI (b 3) (Hs 3) ++ sW cI o G) (hH cS h (kpA k b) (nI (kpN k)) ++ sW cI ((kpA k b) 0) ((kpG k Hs G) 0) ++ sW cI ((kpA k b) 1) ((kpG k Hs G) 1) ++ sW cI ((kpA k b) 2) ((kpG k Hs G) 2) ++ sW cI ((kpA k b) 3) ((kpG k Hs G) 3) ++ sW cI o G) := by
  match k, hk with
  | 0, _ => exact k_X1_keep0 l D cI cS tys ht0 ht1 h b Hs o G
  | 1, _ => exact k_X1_keep1 l D cI cS tys ht0 ht1 h b Hs o G
  | 2, _ => exact k_X1_keep2 l D cI cS tys ht0 ht1 h b Hs o G
  | 3, _ => exact k_X1_keep3 l D cI cS tys ht0 ht1 h b Hs o G
  | 4, _ => exact k_X1_keep4 l D cI cS tys ht0 ht1 h b Hs o G
  | n + 5, z => exact absurd z (by omega)
