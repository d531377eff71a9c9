set_option maxHeartbeats 1000000 in
set_option maxRecDepth 100000 in
theorem k_X5_at (l : Launch) (D : va_G) (cI cS : ClassId) (tys : List (ClassId × FieldType)) (ht0 : tys[0]? = some (cI, .int)) (t : Nat → Nat) (T : Nat → Int32) (tn : Int32) (x : Int32)  : xI l yX5_at wsX5_at 0 D tys [.ref (t 0), .int x] (tW cI t T tn) (chI T tn x) (tW cI t T tn) := by
  refine x_inI (cc := cX5_at) (maxL := 3) (ret := (some .int)) (by decide) rfl (Nat.le_of_ble_eq_true rfl) ?_
  intro p e s m args below meth c A ls C w hl
  have C : xC p s m meth c args cX5_at 3 wsX5_at RX5 D tys (some .int) := C
  have hx := C.1.1
  have hb := C.1.2.1
  have hts := C.1.2.2.2.2
  have hown := C.1.2.2.2.1
  have w : xW D A s.heap (tW cI t T tn) s.heap [] := w
  have hl : lv_has ls 3 [(0, .ref (t 0)), (1, .int x)] := hl
  refine lv_iload_n hx hb dX5_at_0 rfl (lv_at hl 1 rfl) ?_
  refine x_ifR_lt (x := x) (tgt := 22) hx hb dX5_at_1 (by decide) (fun c1_1 => ?_) (fun c1_1 => ?_)
  ·
    refine lv_iconst (v := 0) hx hb dX5_at_22 (by decide +kernel) ?_
    refine lv_istore_n (lv' := [(2, .int 0), (0, .ref (t 0)), (1, .int x)]) hx hb dX5_at_23 rfl hl (by decide) rfl (fun ls hl => ?_)
    refine lv_iload_n hx hb dX5_at_24 rfl (lv_at hl 0 rfl) ?_
    refine x_ifR_eq (x := 0) (tgt := 37) hx hb dX5_at_25 (by decide) (fun _ => ?_) (fun h => absurd h (by decide))
    refine lv_iconst (v := -1) hx hb dX5_at_37 (by decide +kernel) ?_
    exact x_iret C w (by first | rfl | contradiction | (simp [chI, c1_1]; done)) rfl dX5_at_38
  ·
    refine lv_iload_n hx hb dX5_at_4 rfl (lv_at hl 1 rfl) ?_
    refine lv_aload_n hx hb dX5_at_5 rfl (lv_at hl 0 rfl) ?_
    refine x_get (v := .int tn) (T := TX5) C w 0 1 rfl rfl (fun _ h => List.mem_cons_of_mem _ (List.mem_append_right _ (h))) (List.mem_of_getElem? (i := 1) rfl) (by decide) rfl dX5_at_6 ?_
    refine x_icR_ge (x := x) (y := tn) (tgt := 22) hx hb dX5_at_9 (by decide) (fun c9_3 => ?_) (fun c9_3 => ?_)
    ·
      refine lv_iconst (v := 0) hx hb dX5_at_22 (by decide +kernel) ?_
      refine lv_istore_n (lv' := [(2, .int 0), (0, .ref (t 0)), (1, .int x)]) hx hb dX5_at_23 rfl hl (by decide) rfl (fun ls hl => ?_)
      refine lv_iload_n hx hb dX5_at_24 rfl (lv_at hl 0 rfl) ?_
      refine x_ifR_eq (x := 0) (tgt := 37) hx hb dX5_at_25 (by decide) (fun _ => ?_) (fun h => absurd h (by decide))
      refine lv_iconst (v := -1) hx hb dX5_at_37 (by decide +kernel) ?_
      exact x_iret C w (by first | rfl | contradiction | (simp [chI, c1_1, c9_3]; done)) rfl dX5_at_38
    ·
      refine lv_iload_n hx hb dX5_at_12 rfl (lv_at hl 1 rfl) ?_
      refine lv_bipush (v := 60) hx hb dX5_at_13 (by decide +kernel) ?_
      refine x_icR_ge (x := x) (y := 60) (tgt := 22) hx hb dX5_at_15 (by decide) (fun c15_5 => ?_) (fun c15_5 => ?_)
      ·
        refine lv_iconst (v := 0) hx hb dX5_at_22 (by decide +kernel) ?_
        refine lv_istore_n (lv' := [(2, .int 0), (0, .ref (t 0)), (1, .int x)]) hx hb dX5_at_23 rfl hl (by decide) rfl (fun ls hl => ?_)
        refine lv_iload_n hx hb dX5_at_24 rfl (lv_at hl 0 rfl) ?_
        refine x_ifR_eq (x := 0) (tgt := 37) hx hb dX5_at_25 (by decide) (fun _ => ?_) (fun h => absurd h (by decide))
        refine lv_iconst (v := -1) hx hb dX5_at_37 (by decide +kernel) ?_
        exact x_iret C w (by first | rfl | contradiction | (simp [chI, c1_1, c9_3, c15_5]; done)) rfl dX5_at_38
      ·
        refine lv_iconst (v := 1) hx hb dX5_at_18 (by decide +kernel) ?_
        refine lv_goto (tgt := 23) hx hb dX5_at_19 (by decide) ?_
        refine lv_istore_n (lv' := [(2, .int 1), (0, .ref (t 0)), (1, .int x)]) hx hb dX5_at_23 rfl hl (by decide) rfl (fun ls hl => ?_)
        refine lv_iload_n hx hb dX5_at_24 rfl (lv_at hl 0 rfl) ?_
        refine x_ifR_eq (x := 1) (tgt := 37) hx hb dX5_at_25 (by decide) (fun h => absurd h (by decide)) (fun _ => ?_)
        refine lv_aload_n hx hb dX5_at_28 rfl (lv_at hl 1 rfl) ?_
        refine x_get (v := .ref (t 1)) (T := TX5) C w 0 0 rfl rfl (fun _ h => List.mem_cons_of_mem _ (List.mem_append_right _ (h))) (List.mem_of_getElem? (i := 2) rfl) (by decide) rfl dX5_at_29 ?_
        refine lv_iload_n hx hb dX5_at_32 rfl (lv_at hl 2 rfl) ?_
        refine x_ialdR (v := T (ix x)) C w 1 0 rfl ht0 (x_in (n := 60) (by decide) c1_1 c15_5) rfl dX5_at_33 ?_
        refine lv_goto (tgt := 38) hx hb dX5_at_34 (by decide) ?_
        exact x_iret C w (by first | rfl | contradiction | (simp [chI, c1_1, c9_3, c15_5]; done)) rfl dX5_at_38
set_option maxHeartbeats 1000000 in
set_option maxRecDepth 100000 in
theorem k_X2_beginText (l : Launch) (D : va_G) (cI cS : ClassId) (tys : List (ClassId × FieldType)) (ht0 : tys[0]? = some (cI, .int)) (q : Nat) (f : Nat → Int32)  : xV l yX2_beginText wsX2_beginText 0 D tys [.ref q] (oW q f) (oW q (btG f)) := by
  refine x_inV (cc := cX2_beginText) (maxL := 1) (ret := none) (by decide) rfl (Nat.le_of_ble_eq_true rfl) ?_
  intro p e s m args below meth c A ls C w hl
  have C : xC p s m meth c args cX2_beginText 1 wsX2_beginText RX2 D tys none := C
  have hx := C.1.1
  have hb := C.1.2.1
  have hts := C.1.2.2.2.2
  have hown := C.1.2.2.2.1
  have w : xW D A s.heap (oW q f) s.heap [] := w
  have hl : lv_has ls 1 [(0, .ref q)] := hl
  refine lv_aload_n hx hb dX2_beginText_0 rfl (lv_at hl 0 rfl) ?_
  refine lv_iconst (v := 0) hx hb dX2_beginText_1 (by decide +kernel) ?_
  refine x_put (v := .int 0) (ty := .int) (T := TX2) (ws2 := oW q (upd f 1 0)) C w 0 1 rfl rfl (fun _ h => List.mem_cons_of_mem _ (List.mem_append_right _ (h))) tyX2 tyX2_ok nmX2 (List.mem_of_getElem? (i := 1) rfl) (by decide) (Nat.le_of_ble_eq_true rfl) rfl (by decide +kernel) rfl rfl (oWa1 _ _ _) dX2_beginText_2 (fun H locs w => ?_)
  refine lv_aload_n hx hb dX2_beginText_5 rfl (lv_at hl 0 rfl) ?_
  refine lv_iconst (v := 0) hx hb dX2_beginText_6 (by decide +kernel) ?_
  refine x_put (v := .int 0) (ty := .int) (T := TX2) (ws2 := oW q (upd (upd f 1 0) 5 0)) C w 0 5 rfl rfl (fun _ h => List.mem_cons_of_mem _ (List.mem_append_right _ (h))) tyX2 tyX2_ok nmX2 (List.mem_of_getElem? (i := 2) rfl) (by decide) (Nat.le_of_ble_eq_true rfl) rfl (by decide +kernel) rfl rfl (oWa5 _ _ _) dX2_beginText_7 (fun H locs w => ?_)
  exact x_vret C w (congrArg (oW q) (by first | rfl | contradiction | (simp []; done))) dX2_beginText_10
set_option maxHeartbeats 1000000 in
set_option maxRecDepth 100000 in
theorem k_X5_append (l : Launch) (D : va_G) (cI cS : ClassId) (tys : List (ClassId × FieldType)) (ht0 : tys[0]? = some (cI, .int)) (t : Nat → Nat) (T : Nat → Int32) (tn : Int32) (x : Int32)  : xV l yX5_append wsX5_append 1 D tys [.ref (t 0), .int x] (tW cI t T tn) (tW cI t (appT T tn x) (appN tn)) := by
  refine x_inV (cc := cX5_append) (maxL := 2) (ret := none) (by decide) rfl (Nat.le_of_ble_eq_true rfl) ?_
  intro p e s m args below meth c A ls C w hl
  have C : xC p s m meth c args cX5_append 2 wsX5_append RX5 D tys none := C
  have hx := C.1.1
  have hb := C.1.2.1
  have hts := C.1.2.2.2.2
  have hown := C.1.2.2.2.1
  have w : xW D A s.heap (tW cI t T tn) s.heap [] := w
  have hl : lv_has ls 2 [(0, .ref (t 0)), (1, .int x)] := hl
  refine lv_aload_n hx hb dX5_append_0 rfl (lv_at hl 0 rfl) ?_
  refine x_get (v := .int tn) (T := TX5) C w 0 1 rfl rfl (fun _ h => List.mem_cons_of_mem _ (List.mem_append_right _ (h))) (List.mem_of_getElem? (i := 1) rfl) (by decide) rfl dX5_append_1 ?_
  refine lv_iconst (v := 0) hx hb dX5_append_4 (by decide +kernel) ?_
  refine lv_bipush (v := 59) hx hb dX5_append_5 (by decide +kernel) ?_
  refine x_callNi (wr := tW cI t T tn) (w2 := tW cI t T tn) (rest := []) (n := 3) C w hl [.int tn, .int 0, .int 59] (k_X6_isWithin l D cI cS tys ht0 tn 0 59 ) gX5_append_X6_isWithin_n19 rfl (by decide) (List.mem_of_getElem? (i := 4) rfl) (List.mem_of_getElem? (i := 3) rfl) (by decide +kernel) ⟨Nat.le_of_ble_eq_true rfl, Nat.le_of_ble_eq_true rfl⟩ rfl rfl (Nat.le_of_ble_eq_true rfl) [] [0, 1] (by decide) rfl rfl (by decide) (by decide) [0, 1] (by decide) rfl ⟨Nat.zero_le _, Nat.zero_le _⟩ dX5_append_7 (fun H locs w => ?_)
  refine x_ifB_eq (P := wth tn 0 59 = true) (tgt := 33) hx hb dX5_append_10 (by decide) (fun c10_1 => ?_) (fun c10_1 => ?_)
  ·
    exact x_vret C w (cg2 (tW cI t) (by first | rfl | contradiction | (simp [appT, appN, c10_1]; done)) (by first | rfl | contradiction | (simp [appT, appN, c10_1]; done))) dX5_append_33
  ·
    refine lv_aload_n hx hb dX5_append_13 rfl (lv_at hl 0 rfl) ?_
    refine x_get (v := .ref (t 1)) (T := TX5) C w 0 0 rfl rfl (fun _ h => List.mem_cons_of_mem _ (List.mem_append_right _ (h))) (List.mem_of_getElem? (i := 2) rfl) (by decide) rfl dX5_append_14 ?_
    refine lv_aload_n hx hb dX5_append_17 rfl (lv_at hl 0 rfl) ?_
    refine x_get (v := .int tn) (T := TX5) C w 0 1 rfl rfl (fun _ h => List.mem_cons_of_mem _ (List.mem_append_right _ (h))) (List.mem_of_getElem? (i := 1) rfl) (by decide) rfl dX5_append_18 ?_
    refine lv_iload_n hx hb dX5_append_21 rfl (lv_at hl 1 rfl) ?_
    refine x_iastR (ws2 := tW cI t (upd T (ix tn) x) tn) C w 1 0 rfl ht0 (wth_in (n := 60) (b := 59) rfl (by decide) (by decide) c10_1) rfl dX5_append_22 (fun H locs w => ?_)
    refine lv_aload_n hx hb dX5_append_23 rfl (lv_at hl 0 rfl) ?_
    refine lv_dup hx hb dX5_append_24 rfl ?_
    refine x_get (v := .int tn) (T := TX5) C w 0 1 rfl rfl (fun _ h => List.mem_cons_of_mem _ (List.mem_append_right _ (h))) (List.mem_of_getElem? (i := 1) rfl) (by decide) rfl dX5_append_25 ?_
    refine lv_iconst (v := 1) hx hb dX5_append_28 (by decide +kernel) ?_
    refine lv_iadd (x := tn) (y := 1) hx hb dX5_append_29 ?_
    refine x_put (v := .int (tn + 1)) (ty := .int) (T := TX5) (ws2 := tW cI t (upd T (ix tn) x) (tn + 1)) C w 0 1 rfl rfl (fun _ h => List.mem_cons_of_mem _ (List.mem_append_right _ (h))) tyX5 tyX5_ok nmX5 (List.mem_of_getElem? (i := 1) rfl) (by decide) (Nat.le_of_ble_eq_true rfl) rfl (by decide +kernel) rfl rfl rfl dX5_append_30 (fun H locs w => ?_)
    exact x_vret C w (cg2 (tW cI t) (by first | rfl | contradiction | (simp [appT, appN, c10_1]; done)) (by first | rfl | contradiction | (simp [appT, appN, c10_1]; done))) dX5_append_33
set_option maxHeartbeats 1000000 in
set_option maxRecDepth 100000 in
theorem k_X2_readSign (l : Launch) (D : va_G) (cI cS : ClassId) (tys : List (ClassId × FieldType)) (ht0 : tys[0]? = some (cI, .int)) (q : Nat) (f : Nat → Int32) (t : Nat → Nat) (T : Nat → Int32) (tn : Int32) (x : Int32)  : xI l yX2_readSign wsX2_readSign 1 D tys [.ref q, .ref (t 0), .int x] (oW q f ++ tW cI t T tn) (bI (rsB T tn f x = true)) (oW q (rsG T tn f x) ++ tW cI t T tn) := by
  refine x_inI (cc := cX2_readSign) (maxL := 3) (ret := (some .boolean)) (by decide) rfl (Nat.le_of_ble_eq_true rfl) ?_
  intro p e s m args below meth c A ls C w hl
  have C : xC p s m meth c args cX2_readSign 3 wsX2_readSign RX2 D tys (some .boolean) := C
  have hx := C.1.1
  have hb := C.1.2.1
  have hts := C.1.2.2.2.2
  have hown := C.1.2.2.2.1
  have w : xW D A s.heap (oW q f ++ tW cI t T tn) s.heap [] := w
  have hl : lv_has ls 3 [(0, .ref q), (1, .ref (t 0)), (2, .int x)] := hl
  refine lv_aload_n hx hb dX2_readSign_0 rfl (lv_at hl 1 rfl) ?_
  refine lv_aload_n hx hb dX2_readSign_1 rfl (lv_at hl 0 rfl) ?_
  refine x_get (v := .int (f 1)) (T := TX2) C w 0 1 rfl rfl (fun _ h => List.mem_cons_of_mem _ (List.mem_append_left _ (List.mem_append_right _ (h)))) (List.mem_of_getElem? (i := 1) rfl) (by decide) rfl dX2_readSign_2 ?_
  refine x_callVi (wr := oW q f) (w2 := oW q f ++ tW cI t T tn) (rest := []) (n := 1) C w hl [.int (f 1)] (k_X5_at l D cI cS tys ht0 t T tn (f 1) ) gX2_readSign_X5_at rfl (by decide +kernel) ⟨Nat.le_of_ble_eq_true rfl, Nat.le_of_ble_eq_true rfl⟩ 0 5 rfl rfl rfl rfl (Nat.le_of_ble_eq_true rfl) [1, 2] [0] (by decide) rfl rfl (by decide) (by decide) [0, 1, 2] (by decide) rfl ⟨Nat.zero_le _, Nat.zero_le _⟩ dX2_readSign_5 (fun H locs w => ?_)
  refine lv_iload_n hx hb dX2_readSign_8 rfl (lv_at hl 2 rfl) ?_
  refine x_icR_eq (x := chI T tn (f 1)) (y := x) (tgt := 14) hx hb dX2_readSign_9 (by decide) (fun c9_1 => ?_) (fun c9_1 => ?_)
  ·
    refine lv_aload_n hx hb dX2_readSign_14 rfl (lv_at hl 0 rfl) ?_
    refine lv_dup hx hb dX2_readSign_15 rfl ?_
    refine x_get (v := .int (f 1)) (T := TX2) C w 0 1 rfl rfl (fun _ h => List.mem_cons_of_mem _ (List.mem_append_left _ (List.mem_append_right _ (h)))) (List.mem_of_getElem? (i := 1) rfl) (by decide) rfl dX2_readSign_16 ?_
    refine lv_iconst (v := 1) hx hb dX2_readSign_19 (by decide +kernel) ?_
    refine lv_iadd (x := f 1) (y := 1) hx hb dX2_readSign_20 ?_
    refine x_put (v := .int ((f 1) + 1)) (ty := .int) (T := TX2) (ws2 := oW q (upd f 1 ((f 1) + 1)) ++ tW cI t T tn) C w 0 1 rfl rfl (fun _ h => List.mem_cons_of_mem _ (List.mem_append_left _ (List.mem_append_right _ (h)))) tyX2 tyX2_ok nmX2 (List.mem_of_getElem? (i := 1) rfl) (by decide) (Nat.le_of_ble_eq_true rfl) rfl (by decide +kernel) rfl rfl (oWb1 _ _ _ _) dX2_readSign_21 (fun H locs w => ?_)
    refine lv_iconst (v := 1) hx hb dX2_readSign_24 (by decide +kernel) ?_
    exact x_zret C w (Or.inr rfl) (by simp [bI, rsB, c9_1]) (cg2 (fun (a b : va_W) => a ++ b) (congrArg (oW q) (by simp [rsG, rsB, c9_1])) rfl) dX2_readSign_25
  ·
    refine lv_iconst (v := 0) hx hb dX2_readSign_12 (by decide +kernel) ?_
    exact x_zret C w (Or.inl rfl) (by simp [bI, rsB, c9_1]) (cg2 (fun (a b : va_W) => a ++ b) (congrArg (oW q) (by simp [rsG, rsB, c9_1])) rfl) dX2_readSign_13
set_option maxHeartbeats 1000000 in
set_option maxRecDepth 100000 in
theorem k_X2_readNumber (l : Launch) (D : va_G) (cI cS : ClassId) (tys : List (ClassId × FieldType)) (ht0 : tys[0]? = some (cI, .int)) (q : Nat) (f : Nat → Int32) (t : Nat → Nat) (T : Nat → Int32) (tn : Int32)  : xI l yX2_readNumber wsX2_readNumber 1 D tys [.ref q, .ref (t 0)] (oW q f ++ tW cI t T tn) (rnI T tn (f 1)) (oW q (rnG T tn f) ++ tW cI t T tn) := by
  refine x_inI (cc := cX2_readNumber) (maxL := 4) (ret := (some .int)) (by decide) rfl (Nat.le_of_ble_eq_true rfl) ?_
  intro p e s m args below meth c A ls C w hl
  have C : xC p s m meth c args cX2_readNumber 4 wsX2_readNumber RX2 D tys (some .int) := C
  have hx := C.1.1
  have hb := C.1.2.1
  have hts := C.1.2.2.2.2
  have hown := C.1.2.2.2.1
  have w : xW D A s.heap (oW q f ++ tW cI t T tn) s.heap [] := w
  have hl : lv_has ls 4 [(0, .ref q), (1, .ref (t 0))] := hl
  refine lv_iconst (v := 0) hx hb dX2_readNumber_0 (by decide +kernel) ?_
  refine lv_istore_n (lv' := [(2, .int 0), (0, .ref q), (1, .ref (t 0))]) hx hb dX2_readNumber_1 rfl hl (by decide) rfl (fun ls hl => ?_)
  refine lv_iconst (v := 0) hx hb dX2_readNumber_2 (by decide +kernel) ?_
  refine lv_istore_n (lv' := [(3, .int 0), (2, .int 0), (0, .ref q), (1, .ref (t 0))]) hx hb dX2_readNumber_3 rfl hl (by decide) rfl (fun ls hl => ?_)
  have loop_4 : ∀ (n : Nat) (k : Nat) (i : Nat) (r : Int32) (n1 : Int32), k < n → (k + i = 3) → (rnF T tn k r n1 = rnF T tn 3 0 (f 1)) → (i = 0 → n1 = f 1) → (0 < i → wth (chI T tn (f 1)) 48 57 = true) → ∀ (H : Heap) (locs : List Loc), xW D A s.heap (oW q (upd f 1 n1) ++ tW cI t T tn) H locs → ∀ ls : Array Slot, lv_has ls 4 [(3, .int r), (2, .int (nI i)), (0, .ref q), (1, .ref (t 0))] → W p l e (rmd 1) s m args below meth c H locs 0 0 (MQ below (xQi D tys (rnI T tn (f 1)) (oW q (rnG T tn f) ++ tW cI t T tn) A) args s 0 0 A) (F0 m 4 ls []) := by
    intro n
    induction n with
    | zero => intro k i r n1 hm; exact absurd hm (Nat.not_lt_zero _)
    | succ n ih =>
      intro k i r n1 hm hk hq h0 h1 H locs w ls hl
      refine lv_iload_n hx hb dX2_readNumber_4 rfl (lv_at hl 1 rfl) ?_
      refine lv_iconst (v := 3) hx hb dX2_readNumber_5 (by decide +kernel) ?_
      refine x_icN_ge (i := i) (j := 3) (tgt := 60) hx hb (by omega) (by omega) dX2_readNumber_6 (by decide) (fun c6_1 => ?_) (fun c6_1 => ?_)
      ·
        have hs : k = 0 ∨ ¬ wth (chI T tn n1) 48 57 = true := Or.inl (by omega)
        refine lv_iload_n hx hb dX2_readNumber_60 rfl (lv_at hl 1 rfl) ?_
        refine x_ifR_ne (x := nI i) (tgt := 68) hx hb dX2_readNumber_61 (by decide) (fun c61_2 => ?_) (fun c61_2 => ?_)
        ·
          refine lv_iload_n hx hb dX2_readNumber_68 rfl (lv_at hl 0 rfl) ?_
          exact x_iret C w (by first | exact ((rn_done hk hq h0 h1 hs).2.1 (fun z => c61_2 (by rw [z]; rfl))).symm | exact ((rn_done hk hq h0 h1 hs).2.2 (nI_z (by omega) c61_2)).symm) (cg2 (fun (a b : va_W) => a ++ b) (congrArg (oW q) (by unfold rnG; rw [(rn_done hk hq h0 h1 hs).1])) rfl) dX2_readNumber_69
        ·
          refine lv_iconst (v := -1) hx hb dX2_readNumber_64 (by decide +kernel) ?_
          refine lv_goto (tgt := 69) hx hb dX2_readNumber_65 (by decide) ?_
          exact x_iret C w (by first | exact ((rn_done hk hq h0 h1 hs).2.1 (fun z => c61_2 (by rw [z]; rfl))).symm | exact ((rn_done hk hq h0 h1 hs).2.2 (nI_z (by omega) c61_2)).symm) (cg2 (fun (a b : va_W) => a ++ b) (congrArg (oW q) (by unfold rnG; rw [(rn_done hk hq h0 h1 hs).1])) rfl) dX2_readNumber_69
      ·
        obtain ⟨k', rfl⟩ : ∃ z, k = z + 1 := ⟨k - 1, by omega⟩
        refine lv_aload_n hx hb dX2_readNumber_9 rfl (lv_at hl 3 rfl) ?_
        refine lv_aload_n hx hb dX2_readNumber_10 rfl (lv_at hl 2 rfl) ?_
        refine x_get (v := .int n1) (T := TX2) C w 0 1 rfl rfl (fun _ h => List.mem_cons_of_mem _ (List.mem_append_left _ (List.mem_append_right _ (h)))) (List.mem_of_getElem? (i := 1) rfl) (by decide) rfl dX2_readNumber_11 ?_
        refine x_callVi (wr := oW q (upd f 1 n1)) (w2 := oW q (upd f 1 n1) ++ tW cI t T tn) (rest := []) (n := 1) C w hl [.int n1] (k_X5_at l D cI cS tys ht0 t T tn n1 ) gX2_readNumber_X5_at rfl (by decide +kernel) ⟨Nat.le_of_ble_eq_true rfl, Nat.le_of_ble_eq_true rfl⟩ 0 5 rfl rfl rfl rfl (Nat.le_of_ble_eq_true rfl) [1, 2] [0] (by decide) rfl rfl (by decide) (by decide) [0, 1, 2] (by decide) rfl ⟨Nat.zero_le _, Nat.zero_le _⟩ dX2_readNumber_14 (fun H locs w => ?_)
        refine lv_bipush (v := 48) hx hb dX2_readNumber_17 (by decide +kernel) ?_
        refine lv_bipush (v := 57) hx hb dX2_readNumber_19 (by decide +kernel) ?_
        refine x_callNi (wr := oW q (upd f 1 n1) ++ tW cI t T tn) (w2 := oW q (upd f 1 n1) ++ tW cI t T tn) (rest := []) (n := 3) C w hl [.int (chI T tn n1), .int 48, .int 57] (k_X6_isWithin l D cI cS tys ht0 (chI T tn n1) 48 57 ) gX2_readNumber_X6_isWithin_n58 rfl (by decide) (List.mem_of_getElem? (i := 10) rfl) (List.mem_of_getElem? (i := 9) rfl) (by decide +kernel) ⟨Nat.le_of_ble_eq_true rfl, Nat.le_of_ble_eq_true rfl⟩ rfl rfl (Nat.le_of_ble_eq_true rfl) [] [0, 1, 2] (by decide) rfl rfl (by decide) (by decide) [0, 1, 2] (by decide) rfl ⟨Nat.zero_le _, Nat.zero_le _⟩ dX2_readNumber_21 (fun H locs w => ?_)
        refine x_ifB_eq (P := wth (chI T tn n1) 48 57 = true) (tgt := 60) hx hb dX2_readNumber_24 (by decide) (fun c24_3 => ?_) (fun c24_3 => ?_)
        ·
          have hs : k' + 1 = 0 ∨ ¬ wth (chI T tn n1) 48 57 = true := Or.inr c24_3
          refine lv_iload_n hx hb dX2_readNumber_60 rfl (lv_at hl 1 rfl) ?_
          refine x_ifR_ne (x := nI i) (tgt := 68) hx hb dX2_readNumber_61 (by decide) (fun c61_4 => ?_) (fun c61_4 => ?_)
          ·
            refine lv_iload_n hx hb dX2_readNumber_68 rfl (lv_at hl 0 rfl) ?_
            exact x_iret C w (by first | exact ((rn_done hk hq h0 h1 hs).2.1 (fun z => c61_4 (by rw [z]; rfl))).symm | exact ((rn_done hk hq h0 h1 hs).2.2 (nI_z (by omega) c61_4)).symm) (cg2 (fun (a b : va_W) => a ++ b) (congrArg (oW q) (by unfold rnG; rw [(rn_done hk hq h0 h1 hs).1])) rfl) dX2_readNumber_69
          ·
            refine lv_iconst (v := -1) hx hb dX2_readNumber_64 (by decide +kernel) ?_
            refine lv_goto (tgt := 69) hx hb dX2_readNumber_65 (by decide) ?_
            exact x_iret C w (by first | exact ((rn_done hk hq h0 h1 hs).2.1 (fun z => c61_4 (by rw [z]; rfl))).symm | exact ((rn_done hk hq h0 h1 hs).2.2 (nI_z (by omega) c61_4)).symm) (cg2 (fun (a b : va_W) => a ++ b) (congrArg (oW q) (by unfold rnG; rw [(rn_done hk hq h0 h1 hs).1])) rfl) dX2_readNumber_69
        ·
          have hw1 : wth (chI T tn (f 1)) 48 57 = true := by rcases Nat.eq_zero_or_pos i with z | z; (rw [← h0 z]; exact c24_3); exact h1 z
          have hc24 := c24_3
          refine lv_bipush (v := 10) hx hb dX2_readNumber_27 (by decide +kernel) ?_
          refine lv_iload_n hx hb dX2_readNumber_29 rfl (lv_at hl 0 rfl) ?_
          refine lv_imul (x := 10) (y := r) hx hb dX2_readNumber_30 ?_
          refine lv_aload_n hx hb dX2_readNumber_31 rfl (lv_at hl 3 rfl) ?_
          refine lv_aload_n hx hb dX2_readNumber_32 rfl (lv_at hl 2 rfl) ?_
          refine x_get (v := .int n1) (T := TX2) C w 0 1 rfl rfl (fun _ h => List.mem_cons_of_mem _ (List.mem_append_left _ (List.mem_append_right _ (h)))) (List.mem_of_getElem? (i := 1) rfl) (by decide) rfl dX2_readNumber_33 ?_
          refine x_callVi (wr := oW q (upd f 1 n1)) (w2 := oW q (upd f 1 n1) ++ tW cI t T tn) (rest := [.int (10 * r)]) (n := 1) C w hl [.int n1] (k_X5_at l D cI cS tys ht0 t T tn n1 ) gX2_readNumber_X5_at rfl (by decide +kernel) ⟨Nat.le_of_ble_eq_true rfl, Nat.le_of_ble_eq_true rfl⟩ 0 5 rfl rfl rfl rfl (Nat.le_of_ble_eq_true rfl) [1, 2] [0] (by decide) rfl rfl (by decide) (by decide) [0, 1, 2] (by decide) rfl ⟨Nat.zero_le _, Nat.zero_le _⟩ dX2_readNumber_36 (fun H locs w => ?_)
          refine lv_iadd (x := (10 * r)) (y := chI T tn n1) hx hb dX2_readNumber_39 ?_
          refine lv_bipush (v := 48) hx hb dX2_readNumber_40 (by decide +kernel) ?_
          refine lv_isub (x := ((10 * r) + (chI T tn n1))) (y := 48) hx hb dX2_readNumber_42 ?_
          refine lv_istore_n (lv' := [(3, .int (((10 * r) + (chI T tn n1)) - 48)), (2, .int (nI i)), (0, .ref q), (1, .ref (t 0))]) hx hb dX2_readNumber_43 rfl hl (by decide) rfl (fun ls hl => ?_)
          refine lv_aload_n hx hb dX2_readNumber_44 rfl (lv_at hl 2 rfl) ?_
          refine lv_dup hx hb dX2_readNumber_45 rfl ?_
          refine x_get (v := .int n1) (T := TX2) C w 0 1 rfl rfl (fun _ h => List.mem_cons_of_mem _ (List.mem_append_left _ (List.mem_append_right _ (h)))) (List.mem_of_getElem? (i := 1) rfl) (by decide) rfl dX2_readNumber_46 ?_
          refine lv_iconst (v := 1) hx hb dX2_readNumber_49 (by decide +kernel) ?_
          refine lv_iadd (x := n1) (y := 1) hx hb dX2_readNumber_50 ?_
          refine x_put (v := .int (n1 + 1)) (ty := .int) (T := TX2) (ws2 := oW q (upd (upd f 1 n1) 1 (n1 + 1)) ++ tW cI t T tn) C w 0 1 rfl rfl (fun _ h => List.mem_cons_of_mem _ (List.mem_append_left _ (List.mem_append_right _ (h)))) tyX2 tyX2_ok nmX2 (List.mem_of_getElem? (i := 1) rfl) (by decide) (Nat.le_of_ble_eq_true rfl) rfl (by decide +kernel) rfl rfl (oWb1 _ _ _ _) dX2_readNumber_51 (fun H locs w => ?_)
          refine lv_iinc (v := nI (i + 1)) (lv' := [(2, .int (nI (i + 1))), (3, .int (((10 * r) + (chI T tn n1)) - 48)), (0, .ref q), (1, .ref (t 0))]) hx hb dX2_readNumber_54 hl (k := 1) rfl (nI_add i 1) (by decide) rfl (fun ls hl => ?_)
          refine lv_goto (tgt := 4) hx hb dX2_readNumber_57 (by decide) ?_
          have q5 : (((10 * r) + (chI T tn n1)) - 48) = (((10 * r + chI T tn n1) - 48) : Int32) := (by first | rfl | contradiction | (simp [c6_1, c24_3]; done))
          have hl : lv_has ls 4 [(3, .int ((10 * r + chI T tn n1) - 48)), (2, .int (nI (i + 1))), (0, .ref q), (1, .ref (t 0))] := lv_eqL (lv_sub (l' := [(3, .int (((10 * r) + (chI T tn n1)) - 48)), (2, .int (nI (i + 1))), (0, .ref q), (1, .ref (t 0))]) hl [1, 0, 2, 3] rfl) (cg2 List.cons (congrArg (fun z => ((3 : Nat), Value.int z)) q5) (cg2 List.cons rfl (cg2 List.cons rfl (cg2 List.cons rfl rfl))))
          have w : xW D A s.heap (oW q (upd f 1 (n1 + 1)) ++ tW cI t T tn) _ _ := x_ws (cg2 (fun (a b : va_W) => a ++ b) (congrArg (oW q) (upd_upd f 1 _ _)) rfl) w
          exact ih k' (i + 1) ((10 * r + chI T tn n1) - 48) (n1 + 1) (by omega) (by omega) (by rw [← hq, rnF, if_pos hc24]) (fun h => absurd h (by omega)) (fun _ => hw1) _ _ w _ hl
  have q6 : 0 = (nI 0 : Int32) := (by first | rfl | contradiction | (simp []; done))
  have hl : lv_has ls 4 [(3, .int 0), (2, .int (nI 0)), (0, .ref q), (1, .ref (t 0))] := lv_eqL (lv_sub (l' := [(3, .int 0), (2, .int 0), (0, .ref q), (1, .ref (t 0))]) hl [0, 1, 2, 3] rfl) (cg2 List.cons rfl (cg2 List.cons (congrArg (fun z => ((2 : Nat), Value.int z)) q6) (cg2 List.cons rfl (cg2 List.cons rfl rfl))))
  have w : xW D A s.heap (oW q (upd f 1 (f 1)) ++ tW cI t T tn) _ _ := x_ws (cg2 (fun (a b : va_W) => a ++ b) (congrArg (oW q) (upd_self f 1)) rfl) w
  exact loop_4 (4) 3 0 0 (f 1) (by omega) rfl rfl (fun _ => rfl) (fun h => absurd h (Nat.lt_irrefl 0)) _ _ w _ hl
set_option maxHeartbeats 1000000 in
set_option maxRecDepth 100000 in
theorem k_X2_isInRange (l : Launch) (D : va_G) (cI cS : ClassId) (tys : List (ClassId × FieldType)) (ht0 : tys[0]? = some (cI, .int)) (q : Nat) (f : Nat → Int32)  : xI l yX2_isInRange wsX2_isInRange 1 D tys [.ref q] (oW q f) (bI (irB f = true)) (oW q f) := by
  refine x_inI (cc := cX2_isInRange) (maxL := 1) (ret := (some .boolean)) (by decide) rfl (Nat.le_of_ble_eq_true rfl) ?_
  intro p e s m args below meth c A ls C w hl
  have C : xC p s m meth c args cX2_isInRange 1 wsX2_isInRange RX2 D tys (some .boolean) := C
  have hx := C.1.1
  have hb := C.1.2.1
  have hts := C.1.2.2.2.2
  have hown := C.1.2.2.2.1
  have w : xW D A s.heap (oW q f) s.heap [] := w
  have hl : lv_has ls 1 [(0, .ref q)] := hl
  refine lv_aload_n hx hb dX2_isInRange_0 rfl (lv_at hl 0 rfl) ?_
  refine x_get (v := .int (f 2)) (T := TX2) C w 0 2 rfl rfl (fun _ h => List.mem_cons_of_mem _ (List.mem_append_right _ (h))) (List.mem_of_getElem? (i := 1) rfl) (by decide) rfl dX2_isInRange_1 ?_
  by_cases c4_1 : f 2 = (108 : Int32)
  ·
    refine x_top (y := 108) c4_1 ?_
    refine lv_lookup (x := 108) (off := 63) (tgt := 67) hx hb dX2_isInRange_4 (by decide) (by decide) (by decide) ?_
    refine lv_aload_n hx hb dX2_isInRange_67 rfl (lv_at hl 0 rfl) ?_
    refine x_get (v := .int (f 3)) (T := TX2) C w 0 3 rfl rfl (fun _ h => List.mem_cons_of_mem _ (List.mem_append_right _ (h))) (List.mem_of_getElem? (i := 2) rfl) (by decide) rfl dX2_isInRange_68 ?_
    refine lv_iconst (v := 1) hx hb dX2_isInRange_71 (by decide +kernel) ?_
    refine lv_sipush (v := 999) hx hb dX2_isInRange_72 (by decide +kernel) ?_
    refine x_callNi (wr := oW q f) (w2 := oW q f) (rest := []) (n := 3) C w hl [.int (f 3), .int 1, .int 999] (k_X6_isWithin l D cI cS tys ht0 (f 3) 1 999 ) gX2_isInRange_X6_isWithin_n58 rfl (by decide) (List.mem_of_getElem? (i := 4) rfl) (List.mem_of_getElem? (i := 6) rfl) (by decide +kernel) ⟨Nat.le_of_ble_eq_true rfl, Nat.le_of_ble_eq_true rfl⟩ rfl rfl (Nat.le_of_ble_eq_true rfl) [] [0] (by decide) rfl rfl (by decide) (by decide) [0] (by decide) rfl ⟨Nat.zero_le _, Nat.zero_le _⟩ dX2_isInRange_75 (fun H locs w => ?_)
    exact x_zret C w (bI_01 _) (by simp [bI, irB, c4_1]) rfl dX2_isInRange_78
  ·
    by_cases c4_2 : f 2 = (114 : Int32)
    ·
      refine x_top (y := 114) c4_2 ?_
      refine lv_lookup (x := 114) (off := 44) (tgt := 48) hx hb dX2_isInRange_4 (by decide) (by decide) (by decide) ?_
      refine lv_aload_n hx hb dX2_isInRange_48 rfl (lv_at hl 0 rfl) ?_
      refine x_get (v := .int (f 3)) (T := TX2) C w 0 3 rfl rfl (fun _ h => List.mem_cons_of_mem _ (List.mem_append_right _ (h))) (List.mem_of_getElem? (i := 2) rfl) (by decide) rfl dX2_isInRange_49 ?_
      refine x_callNi (wr := oW q f) (w2 := oW q f) (rest := []) (n := 1) C w hl [.int (f 3)] (k_X6_isPlace l D cI cS tys ht0 (f 3) ) gX2_isInRange_X6_isPlace_n62 rfl (by decide) (List.mem_of_getElem? (i := 4) rfl) (List.mem_of_getElem? (i := 3) rfl) (by decide +kernel) ⟨Nat.le_of_ble_eq_true rfl, Nat.le_of_ble_eq_true rfl⟩ rfl rfl (Nat.le_of_ble_eq_true rfl) [] [0] (by decide) rfl rfl (by decide) (by decide) [0] (by decide) rfl ⟨Nat.zero_le _, Nat.zero_le _⟩ dX2_isInRange_52 (fun H locs w => ?_)
      exact x_zret C w (bI_01 _) (by simp [bI, irB, c4_1, c4_2]) rfl dX2_isInRange_55
    ·
      by_cases c4_3 : f 2 = (116 : Int32)
      ·
        refine x_top (y := 116) c4_3 ?_
        refine lv_lookup (x := 116) (off := 52) (tgt := 56) hx hb dX2_isInRange_4 (by decide) (by decide) (by decide) ?_
        refine lv_aload_n hx hb dX2_isInRange_56 rfl (lv_at hl 0 rfl) ?_
        refine x_get (v := .int (f 3)) (T := TX2) C w 0 3 rfl rfl (fun _ h => List.mem_cons_of_mem _ (List.mem_append_right _ (h))) (List.mem_of_getElem? (i := 2) rfl) (by decide) rfl dX2_isInRange_57 ?_
        refine lv_iconst (v := 1) hx hb dX2_isInRange_60 (by decide +kernel) ?_
        refine lv_bipush (v := 99) hx hb dX2_isInRange_61 (by decide +kernel) ?_
        refine x_callNi (wr := oW q f) (w2 := oW q f) (rest := []) (n := 3) C w hl [.int (f 3), .int 1, .int 99] (k_X6_isWithin l D cI cS tys ht0 (f 3) 1 99 ) gX2_isInRange_X6_isWithin_n58 rfl (by decide) (List.mem_of_getElem? (i := 4) rfl) (List.mem_of_getElem? (i := 6) rfl) (by decide +kernel) ⟨Nat.le_of_ble_eq_true rfl, Nat.le_of_ble_eq_true rfl⟩ rfl rfl (Nat.le_of_ble_eq_true rfl) [] [0] (by decide) rfl rfl (by decide) (by decide) [0] (by decide) rfl ⟨Nat.zero_le _, Nat.zero_le _⟩ dX2_isInRange_63 (fun H locs w => ?_)
        exact x_zret C w (bI_01 _) (by simp [bI, irB, c4_1, c4_2, c4_3]) rfl dX2_isInRange_66
      ·
        by_cases c4_4 : f 2 = (119 : Int32)
        ·
          refine x_top (y := 119) c4_4 ?_
          refine lv_lookup (x := 119) (off := 44) (tgt := 48) hx hb dX2_isInRange_4 (by decide) (by decide) (by decide) ?_
          refine lv_aload_n hx hb dX2_isInRange_48 rfl (lv_at hl 0 rfl) ?_
          refine x_get (v := .int (f 3)) (T := TX2) C w 0 3 rfl rfl (fun _ h => List.mem_cons_of_mem _ (List.mem_append_right _ (h))) (List.mem_of_getElem? (i := 2) rfl) (by decide) rfl dX2_isInRange_49 ?_
          refine x_callNi (wr := oW q f) (w2 := oW q f) (rest := []) (n := 1) C w hl [.int (f 3)] (k_X6_isPlace l D cI cS tys ht0 (f 3) ) gX2_isInRange_X6_isPlace_n62 rfl (by decide) (List.mem_of_getElem? (i := 4) rfl) (List.mem_of_getElem? (i := 3) rfl) (by decide +kernel) ⟨Nat.le_of_ble_eq_true rfl, Nat.le_of_ble_eq_true rfl⟩ rfl rfl (Nat.le_of_ble_eq_true rfl) [] [0] (by decide) rfl rfl (by decide) (by decide) [0] (by decide) rfl ⟨Nat.zero_le _, Nat.zero_le _⟩ dX2_isInRange_52 (fun H locs w => ?_)
          exact x_zret C w (bI_01 _) (by simp [bI, irB, c4_1, c4_2, c4_3, c4_4]) rfl dX2_isInRange_55
        ·
          refine lv_lookup (x := f 2) (off := 75) (tgt := 79) hx hb dX2_isInRange_4 (by decide) (by show Op.lookupswitch.offset [(108, 63), (114, 44), (116, 52), (119, 44)] _ _ = _; rw [lv_osw c4_1 (by decide), lv_osw c4_2 (by decide), lv_osw c4_3 (by decide), lv_osw c4_4 (by decide)]; rfl) (by decide) ?_
          refine lv_iconst (v := 1) hx hb dX2_isInRange_79 (by decide +kernel) ?_
          exact x_zret C w (Or.inr rfl) (by simp [bI, irB, c4_1, c4_2, c4_3, c4_4]) rfl dX2_isInRange_80
set_option maxHeartbeats 1000000 in
set_option maxRecDepth 100000 in
theorem k_X2_hasFormOfWrite (l : Launch) (D : va_G) (cI cS : ClassId) (tys : List (ClassId × FieldType)) (ht0 : tys[0]? = some (cI, .int)) (q : Nat) (f : Nat → Int32) (t : Nat → Nat) (T : Nat → Int32) (tn : Int32)  : xI l yX2_hasFormOfWrite wsX2_hasFormOfWrite 2 D tys [.ref q, .ref (t 0)] (oW q f ++ tW cI t T tn) (bI (hwB T tn f = true)) (oW q (hwG T tn f) ++ tW cI t T tn) := by
  refine x_inI (cc := cX2_hasFormOfWrite) (maxL := 2) (ret := (some .boolean)) (by decide) rfl (Nat.le_of_ble_eq_true rfl) ?_
  intro p e s m args below meth c A ls C w hl
  have C : xC p s m meth c args cX2_hasFormOfWrite 2 wsX2_hasFormOfWrite RX2 D tys (some .boolean) := C
  have hx := C.1.1
  have hb := C.1.2.1
  have hts := C.1.2.2.2.2
  have hown := C.1.2.2.2.1
  have w : xW D A s.heap (oW q f ++ tW cI t T tn) s.heap [] := w
  have hl : lv_has ls 2 [(0, .ref q), (1, .ref (t 0))] := hl
  refine lv_aload_n hx hb dX2_hasFormOfWrite_0 rfl (lv_at hl 0 rfl) ?_
  refine lv_aload_n hx hb dX2_hasFormOfWrite_1 rfl (lv_at hl 0 rfl) ?_
  refine lv_aload_n hx hb dX2_hasFormOfWrite_2 rfl (lv_at hl 1 rfl) ?_
  refine x_callVi (wr := []) (w2 := oW q (rnG T tn f) ++ tW cI t T tn) (rest := [.ref q]) (n := 1) C w hl [.ref (t 0)] (k_X2_readNumber l D cI cS tys ht0 q f t T tn ) gX2_hasFormOfWrite_X2_readNumber rfl (by decide +kernel) ⟨Nat.le_of_ble_eq_true rfl, Nat.le_of_ble_eq_true rfl⟩ 0 2 rfl rfl rfl rfl (Nat.le_of_ble_eq_true rfl) [0, 1, 2] [] (by decide) rfl rfl (by decide) (by decide) [0, 1, 2] (by decide) rfl ⟨Nat.zero_le _, Nat.zero_le _⟩ dX2_hasFormOfWrite_3 (fun H locs w => ?_)
  refine x_put (v := .int (rnI T tn (f 1))) (ty := .int) (T := TX2) (ws2 := oW q (upd (rnG T tn f) 3 (rnI T tn (f 1))) ++ tW cI t T tn) C w 0 3 rfl rfl (fun _ h => List.mem_cons_of_mem _ (List.mem_append_left _ (List.mem_append_right _ (h)))) tyX2 tyX2_ok nmX2 (List.mem_of_getElem? (i := 1) rfl) (by decide) (Nat.le_of_ble_eq_true rfl) rfl (by decide +kernel) rfl rfl (oWb3 _ _ _ _) dX2_hasFormOfWrite_6 (fun H locs w => ?_)
  have w : xW D A s.heap (oW q (nuG T tn f 3) ++ tW cI t T tn) _ _ := w
  refine lv_aload_n hx hb dX2_hasFormOfWrite_9 rfl (lv_at hl 0 rfl) ?_
  refine x_get (v := .int ((nuG T tn f 3) 3)) (T := TX2) C w 0 3 rfl rfl (fun _ h => List.mem_cons_of_mem _ (List.mem_append_left _ (List.mem_append_right _ (h)))) (List.mem_of_getElem? (i := 1) rfl) (by decide) rfl dX2_hasFormOfWrite_10 ?_
  refine lv_iconst (v := -1) hx hb dX2_hasFormOfWrite_13 (by decide +kernel) ?_
  refine x_icR_eq (x := (nuG T tn f 3) 3) (y := (-1)) (tgt := 27) hx hb dX2_hasFormOfWrite_14 (by decide) (fun c14_1 => ?_) (fun c14_1 => ?_)
  ·
    refine lv_iconst (v := 0) hx hb dX2_hasFormOfWrite_27 (by decide +kernel) ?_
    exact x_zret C w (Or.inl rfl) (by simp [bI, hwB, c14_1]) (cg2 (fun (a b : va_W) => a ++ b) (congrArg (oW q) (by simp [hwG, c14_1])) rfl) dX2_hasFormOfWrite_28
  ·
    refine lv_aload_n hx hb dX2_hasFormOfWrite_17 rfl (lv_at hl 0 rfl) ?_
    refine lv_aload_n hx hb dX2_hasFormOfWrite_18 rfl (lv_at hl 1 rfl) ?_
    refine lv_bipush (v := 61) hx hb dX2_hasFormOfWrite_19 (by decide +kernel) ?_
    refine x_callVi (wr := []) (w2 := oW q (rsG T tn (nuG T tn f 3) 61) ++ tW cI t T tn) (rest := []) (n := 2) C w hl [.ref (t 0), .int 61] (k_X2_readSign l D cI cS tys ht0 q (nuG T tn f 3) t T tn 61 ) gX2_hasFormOfWrite_X2_readSign rfl (by decide +kernel) ⟨Nat.le_of_ble_eq_true rfl, Nat.le_of_ble_eq_true rfl⟩ 0 2 rfl rfl rfl rfl (Nat.le_of_ble_eq_true rfl) [0, 1, 2] [] (by decide) rfl rfl (by decide) (by decide) [0, 1, 2] (by decide) rfl ⟨Nat.zero_le _, Nat.zero_le _⟩ dX2_hasFormOfWrite_21 (fun H locs w => ?_)
    refine x_ifB_ne (P := rsB T tn (nuG T tn f 3) 61 = true) (tgt := 29) hx hb dX2_hasFormOfWrite_24 (by decide) (fun c24_2 => ?_) (fun c24_2 => ?_)
    ·
      refine lv_aload_n hx hb dX2_hasFormOfWrite_29 rfl (lv_at hl 0 rfl) ?_
      refine lv_aload_n hx hb dX2_hasFormOfWrite_30 rfl (lv_at hl 0 rfl) ?_
      refine lv_aload_n hx hb dX2_hasFormOfWrite_31 rfl (lv_at hl 1 rfl) ?_
      refine x_callVi (wr := []) (w2 := oW q (rnG T tn (rsG T tn (nuG T tn f 3) 61)) ++ tW cI t T tn) (rest := [.ref q]) (n := 1) C w hl [.ref (t 0)] (k_X2_readNumber l D cI cS tys ht0 q (rsG T tn (nuG T tn f 3) 61) t T tn ) gX2_hasFormOfWrite_X2_readNumber rfl (by decide +kernel) ⟨Nat.le_of_ble_eq_true rfl, Nat.le_of_ble_eq_true rfl⟩ 0 2 rfl rfl rfl rfl (Nat.le_of_ble_eq_true rfl) [0, 1, 2] [] (by decide) rfl rfl (by decide) (by decide) [0, 1, 2] (by decide) rfl ⟨Nat.zero_le _, Nat.zero_le _⟩ dX2_hasFormOfWrite_32 (fun H locs w => ?_)
      refine x_put (v := .int (rnI T tn ((rsG T tn (nuG T tn f 3) 61) 1))) (ty := .int) (T := TX2) (ws2 := oW q (upd (rnG T tn (rsG T tn (nuG T tn f 3) 61)) 4 (rnI T tn ((rsG T tn (nuG T tn f 3) 61) 1))) ++ tW cI t T tn) C w 0 4 rfl rfl (fun _ h => List.mem_cons_of_mem _ (List.mem_append_left _ (List.mem_append_right _ (h)))) tyX2 tyX2_ok nmX2 (List.mem_of_getElem? (i := 2) rfl) (by decide) (Nat.le_of_ble_eq_true rfl) rfl (by decide +kernel) rfl rfl (oWb4 _ _ _ _) dX2_hasFormOfWrite_35 (fun H locs w => ?_)
      have w : xW D A s.heap (oW q (nuG T tn (rsG T tn (nuG T tn f 3) 61) 4) ++ tW cI t T tn) _ _ := w
      refine lv_aload_n hx hb dX2_hasFormOfWrite_38 rfl (lv_at hl 0 rfl) ?_
      refine x_get (v := .int ((nuG T tn (rsG T tn (nuG T tn f 3) 61) 4) 4)) (T := TX2) C w 0 4 rfl rfl (fun _ h => List.mem_cons_of_mem _ (List.mem_append_left _ (List.mem_append_right _ (h)))) (List.mem_of_getElem? (i := 2) rfl) (by decide) rfl dX2_hasFormOfWrite_39 ?_
      refine lv_iconst (v := -1) hx hb dX2_hasFormOfWrite_42 (by decide +kernel) ?_
      refine x_icR_eq (x := (nuG T tn (rsG T tn (nuG T tn f 3) 61) 4) 4) (y := (-1)) (tgt := 60) hx hb dX2_hasFormOfWrite_43 (by decide) (fun c43_3 => ?_) (fun c43_3 => ?_)
      ·
        refine lv_iconst (v := 0) hx hb dX2_hasFormOfWrite_60 (by decide +kernel) ?_
        exact x_zret C w (Or.inl rfl) (by simp [bI, hwB, c14_1, c24_2, c43_3]) (cg2 (fun (a b : va_W) => a ++ b) (congrArg (oW q) (by simp [hwG, c14_1, c24_2, c43_3])) rfl) dX2_hasFormOfWrite_61
      ·
        refine lv_aload_n hx hb dX2_hasFormOfWrite_46 rfl (lv_at hl 0 rfl) ?_
        refine lv_aload_n hx hb dX2_hasFormOfWrite_47 rfl (lv_at hl 1 rfl) ?_
        refine lv_bipush (v := 59) hx hb dX2_hasFormOfWrite_48 (by decide +kernel) ?_
        refine x_callVi (wr := []) (w2 := oW q (rsG T tn (nuG T tn (rsG T tn (nuG T tn f 3) 61) 4) 59) ++ tW cI t T tn) (rest := []) (n := 2) C w hl [.ref (t 0), .int 59] (k_X2_readSign l D cI cS tys ht0 q (nuG T tn (rsG T tn (nuG T tn f 3) 61) 4) t T tn 59 ) gX2_hasFormOfWrite_X2_readSign rfl (by decide +kernel) ⟨Nat.le_of_ble_eq_true rfl, Nat.le_of_ble_eq_true rfl⟩ 0 2 rfl rfl rfl rfl (Nat.le_of_ble_eq_true rfl) [0, 1, 2] [] (by decide) rfl rfl (by decide) (by decide) [0, 1, 2] (by decide) rfl ⟨Nat.zero_le _, Nat.zero_le _⟩ dX2_hasFormOfWrite_50 (fun H locs w => ?_)
        refine x_ifB_eq (P := rsB T tn (nuG T tn (rsG T tn (nuG T tn f 3) 61) 4) 59 = true) (tgt := 60) hx hb dX2_hasFormOfWrite_53 (by decide) (fun c53_4 => ?_) (fun c53_4 => ?_)
        ·
          refine lv_iconst (v := 0) hx hb dX2_hasFormOfWrite_60 (by decide +kernel) ?_
          exact x_zret C w (Or.inl rfl) (by simp [bI, hwB, c14_1, c24_2, c43_3, c53_4]) (cg2 (fun (a b : va_W) => a ++ b) (congrArg (oW q) (by simp [hwG, c14_1, c24_2, c43_3, c53_4])) rfl) dX2_hasFormOfWrite_61
        ·
          refine lv_iconst (v := 1) hx hb dX2_hasFormOfWrite_56 (by decide +kernel) ?_
          refine lv_goto (tgt := 61) hx hb dX2_hasFormOfWrite_57 (by decide) ?_
          exact x_zret C w (Or.inr rfl) (by simp [bI, hwB, c14_1, c24_2, c43_3, c53_4]) (cg2 (fun (a b : va_W) => a ++ b) (congrArg (oW q) (by simp [hwG, c14_1, c24_2, c43_3, c53_4])) rfl) dX2_hasFormOfWrite_61
    ·
      refine lv_iconst (v := 0) hx hb dX2_hasFormOfWrite_27 (by decide +kernel) ?_
      exact x_zret C w (Or.inl rfl) (by simp [bI, hwB, c14_1, c24_2]) (cg2 (fun (a b : va_W) => a ++ b) (congrArg (oW q) (by simp [hwG, c14_1, c24_2])) rfl) dX2_hasFormOfWrite_28
set_option maxHeartbeats 1000000 in
set_option maxRecDepth 100000 in
theorem k_X2_hasForm (l : Launch) (D : va_G) (cI cS : ClassId) (tys : List (ClassId × FieldType)) (ht0 : tys[0]? = some (cI, .int)) (q : Nat) (f : Nat → Int32) (t : Nat → Nat) (T : Nat → Int32) (tn : Int32)  : xI l yX2_hasForm wsX2_hasForm 3 D tys [.ref q, .ref (t 0)] (oW q f ++ tW cI t T tn) (bI (hfB T tn f = true)) (oW q (hfG T tn f) ++ tW cI t T tn) := by
  refine x_inI (cc := cX2_hasForm) (maxL := 2) (ret := (some .boolean)) (by decide) rfl (Nat.le_of_ble_eq_true rfl) ?_
  intro p e s m args below meth c A ls C w hl
  have C : xC p s m meth c args cX2_hasForm 2 wsX2_hasForm RX2 D tys (some .boolean) := C
  have hx := C.1.1
  have hb := C.1.2.1
  have hts := C.1.2.2.2.2
  have hown := C.1.2.2.2.1
  have w : xW D A s.heap (oW q f ++ tW cI t T tn) s.heap [] := w
  have hl : lv_has ls 2 [(0, .ref q), (1, .ref (t 0))] := hl
  refine lv_aload_n hx hb dX2_hasForm_0 rfl (lv_at hl 0 rfl) ?_
  refine lv_aload_n hx hb dX2_hasForm_1 rfl (lv_at hl 1 rfl) ?_
  refine lv_aload_n hx hb dX2_hasForm_2 rfl (lv_at hl 0 rfl) ?_
  refine x_get (v := .int (f 1)) (T := TX2) C w 0 1 rfl rfl (fun _ h => List.mem_cons_of_mem _ (List.mem_append_left _ (List.mem_append_right _ (h)))) (List.mem_of_getElem? (i := 1) rfl) (by decide) rfl dX2_hasForm_3 ?_
  refine x_callVi (wr := oW q f) (w2 := oW q f ++ tW cI t T tn) (rest := [.ref q]) (n := 1) C w hl [.int (f 1)] (k_X5_at l D cI cS tys ht0 t T tn (f 1) ) gX2_hasForm_X5_at rfl (by decide +kernel) ⟨Nat.le_of_ble_eq_true rfl, Nat.le_of_ble_eq_true rfl⟩ 0 5 rfl rfl rfl rfl (Nat.le_of_ble_eq_true rfl) [1, 2] [0] (by decide) rfl rfl (by decide) (by decide) [0, 1, 2] (by decide) rfl ⟨Nat.zero_le _, Nat.zero_le _⟩ dX2_hasForm_6 (fun H locs w => ?_)
  refine x_put (v := .int (chI T tn (f 1))) (ty := .int) (T := TX2) (ws2 := oW q (upd f 2 (chI T tn (f 1))) ++ tW cI t T tn) C w 0 2 rfl rfl (fun _ h => List.mem_cons_of_mem _ (List.mem_append_left _ (List.mem_append_right _ (h)))) tyX2 tyX2_ok nmX2 (List.mem_of_getElem? (i := 2) rfl) (by decide) (Nat.le_of_ble_eq_true rfl) rfl (by decide +kernel) rfl rfl (oWb2 _ _ _ _) dX2_hasForm_9 (fun H locs w => ?_)
  have w : xW D A s.heap (oW q (ltG T tn f) ++ tW cI t T tn) _ _ := w
  refine lv_aload_n hx hb dX2_hasForm_12 rfl (lv_at hl 0 rfl) ?_
  refine x_get (v := .int ((ltG T tn f) 2)) (T := TX2) C w 0 2 rfl rfl (fun _ h => List.mem_cons_of_mem _ (List.mem_append_left _ (List.mem_append_right _ (h)))) (List.mem_of_getElem? (i := 2) rfl) (by decide) rfl dX2_hasForm_13 ?_
  by_cases c16_1 : (ltG T tn f) 2 = (99 : Int32)
  ·
    refine x_top (y := 99) c16_1 ?_
    refine lv_lookup (x := 99) (off := 119) (tgt := 135) hx hb dX2_hasForm_16 (by decide) (by decide) (by decide) ?_
    refine lv_aload_n hx hb dX2_hasForm_135 rfl (lv_at hl 0 rfl) ?_
    refine lv_dup hx hb dX2_hasForm_136 rfl ?_
    refine x_get (v := .int ((ltG T tn f) 1)) (T := TX2) C w 0 1 rfl rfl (fun _ h => List.mem_cons_of_mem _ (List.mem_append_left _ (List.mem_append_right _ (h)))) (List.mem_of_getElem? (i := 1) rfl) (by decide) rfl dX2_hasForm_137 ?_
    refine lv_iconst (v := 1) hx hb dX2_hasForm_140 (by decide +kernel) ?_
    refine lv_iadd (x := (ltG T tn f) 1) (y := 1) hx hb dX2_hasForm_141 ?_
    refine x_put (v := .int (((ltG T tn f) 1) + 1)) (ty := .int) (T := TX2) (ws2 := oW q (upd (ltG T tn f) 1 (((ltG T tn f) 1) + 1)) ++ tW cI t T tn) C w 0 1 rfl rfl (fun _ h => List.mem_cons_of_mem _ (List.mem_append_left _ (List.mem_append_right _ (h)))) tyX2 tyX2_ok nmX2 (List.mem_of_getElem? (i := 1) rfl) (by decide) (Nat.le_of_ble_eq_true rfl) rfl (by decide +kernel) rfl rfl (oWb1 _ _ _ _) dX2_hasForm_142 (fun H locs w => ?_)
    have w : xW D A s.heap (oW q (nxG (ltG T tn f)) ++ tW cI t T tn) _ _ := w
    refine lv_aload_n hx hb dX2_hasForm_145 rfl (lv_at hl 0 rfl) ?_
    refine lv_aload_n hx hb dX2_hasForm_146 rfl (lv_at hl 1 rfl) ?_
    refine lv_bipush (v := 59) hx hb dX2_hasForm_147 (by decide +kernel) ?_
    refine x_callVi (wr := []) (w2 := oW q (rsG T tn (nxG (ltG T tn f)) 59) ++ tW cI t T tn) (rest := []) (n := 2) C w hl [.ref (t 0), .int 59] (k_X2_readSign l D cI cS tys ht0 q (nxG (ltG T tn f)) t T tn 59 ) gX2_hasForm_X2_readSign rfl (by decide +kernel) ⟨Nat.le_of_ble_eq_true rfl, Nat.le_of_ble_eq_true rfl⟩ 0 2 rfl rfl rfl rfl (Nat.le_of_ble_eq_true rfl) [0, 1, 2] [] (by decide) rfl rfl (by decide) (by decide) [0, 1, 2] (by decide) rfl ⟨Nat.zero_le _, Nat.zero_le _⟩ dX2_hasForm_149 (fun H locs w => ?_)
    exact x_zret C w (bI_01 _) (by simp [bI, hfB, hnB, c16_1]) (cg2 (fun (a b : va_W) => a ++ b) (congrArg (oW q) (by simp [hfG, hnG, c16_1])) rfl) dX2_hasForm_152
  ·
    by_cases c16_2 : (ltG T tn f) 2 = (103 : Int32)
    ·
      refine x_top (y := 103) c16_2 ?_
      refine lv_lookup (x := 103) (off := 119) (tgt := 135) hx hb dX2_hasForm_16 (by decide) (by decide) (by decide) ?_
      refine lv_aload_n hx hb dX2_hasForm_135 rfl (lv_at hl 0 rfl) ?_
      refine lv_dup hx hb dX2_hasForm_136 rfl ?_
      refine x_get (v := .int ((ltG T tn f) 1)) (T := TX2) C w 0 1 rfl rfl (fun _ h => List.mem_cons_of_mem _ (List.mem_append_left _ (List.mem_append_right _ (h)))) (List.mem_of_getElem? (i := 1) rfl) (by decide) rfl dX2_hasForm_137 ?_
      refine lv_iconst (v := 1) hx hb dX2_hasForm_140 (by decide +kernel) ?_
      refine lv_iadd (x := (ltG T tn f) 1) (y := 1) hx hb dX2_hasForm_141 ?_
      refine x_put (v := .int (((ltG T tn f) 1) + 1)) (ty := .int) (T := TX2) (ws2 := oW q (upd (ltG T tn f) 1 (((ltG T tn f) 1) + 1)) ++ tW cI t T tn) C w 0 1 rfl rfl (fun _ h => List.mem_cons_of_mem _ (List.mem_append_left _ (List.mem_append_right _ (h)))) tyX2 tyX2_ok nmX2 (List.mem_of_getElem? (i := 1) rfl) (by decide) (Nat.le_of_ble_eq_true rfl) rfl (by decide +kernel) rfl rfl (oWb1 _ _ _ _) dX2_hasForm_142 (fun H locs w => ?_)
      have w : xW D A s.heap (oW q (nxG (ltG T tn f)) ++ tW cI t T tn) _ _ := w
      refine lv_aload_n hx hb dX2_hasForm_145 rfl (lv_at hl 0 rfl) ?_
      refine lv_aload_n hx hb dX2_hasForm_146 rfl (lv_at hl 1 rfl) ?_
      refine lv_bipush (v := 59) hx hb dX2_hasForm_147 (by decide +kernel) ?_
      refine x_callVi (wr := []) (w2 := oW q (rsG T tn (nxG (ltG T tn f)) 59) ++ tW cI t T tn) (rest := []) (n := 2) C w hl [.ref (t 0), .int 59] (k_X2_readSign l D cI cS tys ht0 q (nxG (ltG T tn f)) t T tn 59 ) gX2_hasForm_X2_readSign rfl (by decide +kernel) ⟨Nat.le_of_ble_eq_true rfl, Nat.le_of_ble_eq_true rfl⟩ 0 2 rfl rfl rfl rfl (Nat.le_of_ble_eq_true rfl) [0, 1, 2] [] (by decide) rfl rfl (by decide) (by decide) [0, 1, 2] (by decide) rfl ⟨Nat.zero_le _, Nat.zero_le _⟩ dX2_hasForm_149 (fun H locs w => ?_)
      exact x_zret C w (bI_01 _) (by simp [bI, hfB, hnB, c16_1, c16_2]) (cg2 (fun (a b : va_W) => a ++ b) (congrArg (oW q) (by simp [hfG, hnG, c16_1, c16_2])) rfl) dX2_hasForm_152
    ·
      by_cases c16_3 : (ltG T tn f) 2 = (108 : Int32)
      ·
        refine x_top (y := 108) c16_3 ?_
        refine lv_lookup (x := 108) (off := 60) (tgt := 76) hx hb dX2_hasForm_16 (by decide) (by decide) (by decide) ?_
        refine lv_aload_n hx hb dX2_hasForm_76 rfl (lv_at hl 0 rfl) ?_
        refine lv_dup hx hb dX2_hasForm_77 rfl ?_
        refine x_get (v := .int ((ltG T tn f) 1)) (T := TX2) C w 0 1 rfl rfl (fun _ h => List.mem_cons_of_mem _ (List.mem_append_left _ (List.mem_append_right _ (h)))) (List.mem_of_getElem? (i := 1) rfl) (by decide) rfl dX2_hasForm_78 ?_
        refine lv_iconst (v := 1) hx hb dX2_hasForm_81 (by decide +kernel) ?_
        refine lv_iadd (x := (ltG T tn f) 1) (y := 1) hx hb dX2_hasForm_82 ?_
        refine x_put (v := .int (((ltG T tn f) 1) + 1)) (ty := .int) (T := TX2) (ws2 := oW q (upd (ltG T tn f) 1 (((ltG T tn f) 1) + 1)) ++ tW cI t T tn) C w 0 1 rfl rfl (fun _ h => List.mem_cons_of_mem _ (List.mem_append_left _ (List.mem_append_right _ (h)))) tyX2 tyX2_ok nmX2 (List.mem_of_getElem? (i := 1) rfl) (by decide) (Nat.le_of_ble_eq_true rfl) rfl (by decide +kernel) rfl rfl (oWb1 _ _ _ _) dX2_hasForm_83 (fun H locs w => ?_)
        have w : xW D A s.heap (oW q (nxG (ltG T tn f)) ++ tW cI t T tn) _ _ := w
        refine lv_aload_n hx hb dX2_hasForm_86 rfl (lv_at hl 0 rfl) ?_
        refine lv_aload_n hx hb dX2_hasForm_87 rfl (lv_at hl 0 rfl) ?_
        refine lv_aload_n hx hb dX2_hasForm_88 rfl (lv_at hl 1 rfl) ?_
        refine x_callVi (wr := []) (w2 := oW q (rnG T tn (nxG (ltG T tn f))) ++ tW cI t T tn) (rest := [.ref q]) (n := 1) C w hl [.ref (t 0)] (k_X2_readNumber l D cI cS tys ht0 q (nxG (ltG T tn f)) t T tn ) gX2_hasForm_X2_readNumber rfl (by decide +kernel) ⟨Nat.le_of_ble_eq_true rfl, Nat.le_of_ble_eq_true rfl⟩ 0 2 rfl rfl rfl rfl (Nat.le_of_ble_eq_true rfl) [0, 1, 2] [] (by decide) rfl rfl (by decide) (by decide) [0, 1, 2] (by decide) rfl ⟨Nat.zero_le _, Nat.zero_le _⟩ dX2_hasForm_89 (fun H locs w => ?_)
        refine x_put (v := .int (rnI T tn ((nxG (ltG T tn f)) 1))) (ty := .int) (T := TX2) (ws2 := oW q (upd (rnG T tn (nxG (ltG T tn f))) 3 (rnI T tn ((nxG (ltG T tn f)) 1))) ++ tW cI t T tn) C w 0 3 rfl rfl (fun _ h => List.mem_cons_of_mem _ (List.mem_append_left _ (List.mem_append_right _ (h)))) tyX2 tyX2_ok nmX2 (List.mem_of_getElem? (i := 3) rfl) (by decide) (Nat.le_of_ble_eq_true rfl) rfl (by decide +kernel) rfl rfl (oWb3 _ _ _ _) dX2_hasForm_92 (fun H locs w => ?_)
        have w : xW D A s.heap (oW q (nuG T tn (nxG (ltG T tn f)) 3) ++ tW cI t T tn) _ _ := w
        refine lv_aload_n hx hb dX2_hasForm_95 rfl (lv_at hl 0 rfl) ?_
        refine x_get (v := .int ((nuG T tn (nxG (ltG T tn f)) 3) 3)) (T := TX2) C w 0 3 rfl rfl (fun _ h => List.mem_cons_of_mem _ (List.mem_append_left _ (List.mem_append_right _ (h)))) (List.mem_of_getElem? (i := 3) rfl) (by decide) rfl dX2_hasForm_96 ?_
        refine lv_iconst (v := -1) hx hb dX2_hasForm_99 (by decide +kernel) ?_
        refine x_icR_eq (x := (nuG T tn (nxG (ltG T tn f)) 3) 3) (y := (-1)) (tgt := 117) hx hb dX2_hasForm_100 (by decide) (fun c100_4 => ?_) (fun c100_4 => ?_)
        ·
          refine lv_iconst (v := 0) hx hb dX2_hasForm_117 (by decide +kernel) ?_
          exact x_zret C w (Or.inl rfl) (by simp [bI, hfB, hnB, c16_1, c16_2, c16_3, c100_4]) (cg2 (fun (a b : va_W) => a ++ b) (congrArg (oW q) (by simp [hfG, hnG, c16_1, c16_2, c16_3, c100_4])) rfl) dX2_hasForm_118
        ·
          refine lv_aload_n hx hb dX2_hasForm_103 rfl (lv_at hl 0 rfl) ?_
          refine lv_aload_n hx hb dX2_hasForm_104 rfl (lv_at hl 1 rfl) ?_
          refine lv_bipush (v := 59) hx hb dX2_hasForm_105 (by decide +kernel) ?_
          refine x_callVi (wr := []) (w2 := oW q (rsG T tn (nuG T tn (nxG (ltG T tn f)) 3) 59) ++ tW cI t T tn) (rest := []) (n := 2) C w hl [.ref (t 0), .int 59] (k_X2_readSign l D cI cS tys ht0 q (nuG T tn (nxG (ltG T tn f)) 3) t T tn 59 ) gX2_hasForm_X2_readSign rfl (by decide +kernel) ⟨Nat.le_of_ble_eq_true rfl, Nat.le_of_ble_eq_true rfl⟩ 0 2 rfl rfl rfl rfl (Nat.le_of_ble_eq_true rfl) [0, 1, 2] [] (by decide) rfl rfl (by decide) (by decide) [0, 1, 2] (by decide) rfl ⟨Nat.zero_le _, Nat.zero_le _⟩ dX2_hasForm_107 (fun H locs w => ?_)
          refine x_ifB_eq (P := rsB T tn (nuG T tn (nxG (ltG T tn f)) 3) 59 = true) (tgt := 117) hx hb dX2_hasForm_110 (by decide) (fun c110_5 => ?_) (fun c110_5 => ?_)
          ·
            refine lv_iconst (v := 0) hx hb dX2_hasForm_117 (by decide +kernel) ?_
            exact x_zret C w (Or.inl rfl) (by simp [bI, hfB, hnB, c16_1, c16_2, c16_3, c100_4, c110_5]) (cg2 (fun (a b : va_W) => a ++ b) (congrArg (oW q) (by simp [hfG, hnG, c16_1, c16_2, c16_3, c100_4, c110_5])) rfl) dX2_hasForm_118
          ·
            refine lv_iconst (v := 1) hx hb dX2_hasForm_113 (by decide +kernel) ?_
            refine lv_goto (tgt := 118) hx hb dX2_hasForm_114 (by decide) ?_
            exact x_zret C w (Or.inr rfl) (by simp [bI, hfB, hnB, c16_1, c16_2, c16_3, c100_4, c110_5]) (cg2 (fun (a b : va_W) => a ++ b) (congrArg (oW q) (by simp [hfG, hnG, c16_1, c16_2, c16_3, c100_4, c110_5])) rfl) dX2_hasForm_118
      ·
        by_cases c16_6 : (ltG T tn f) 2 = (114 : Int32)
        ·
          refine x_top (y := 114) c16_6 ?_
          refine lv_lookup (x := 114) (off := 60) (tgt := 76) hx hb dX2_hasForm_16 (by decide) (by decide) (by decide) ?_
          refine lv_aload_n hx hb dX2_hasForm_76 rfl (lv_at hl 0 rfl) ?_
          refine lv_dup hx hb dX2_hasForm_77 rfl ?_
          refine x_get (v := .int ((ltG T tn f) 1)) (T := TX2) C w 0 1 rfl rfl (fun _ h => List.mem_cons_of_mem _ (List.mem_append_left _ (List.mem_append_right _ (h)))) (List.mem_of_getElem? (i := 1) rfl) (by decide) rfl dX2_hasForm_78 ?_
          refine lv_iconst (v := 1) hx hb dX2_hasForm_81 (by decide +kernel) ?_
          refine lv_iadd (x := (ltG T tn f) 1) (y := 1) hx hb dX2_hasForm_82 ?_
          refine x_put (v := .int (((ltG T tn f) 1) + 1)) (ty := .int) (T := TX2) (ws2 := oW q (upd (ltG T tn f) 1 (((ltG T tn f) 1) + 1)) ++ tW cI t T tn) C w 0 1 rfl rfl (fun _ h => List.mem_cons_of_mem _ (List.mem_append_left _ (List.mem_append_right _ (h)))) tyX2 tyX2_ok nmX2 (List.mem_of_getElem? (i := 1) rfl) (by decide) (Nat.le_of_ble_eq_true rfl) rfl (by decide +kernel) rfl rfl (oWb1 _ _ _ _) dX2_hasForm_83 (fun H locs w => ?_)
          have w : xW D A s.heap (oW q (nxG (ltG T tn f)) ++ tW cI t T tn) _ _ := w
          refine lv_aload_n hx hb dX2_hasForm_86 rfl (lv_at hl 0 rfl) ?_
          refine lv_aload_n hx hb dX2_hasForm_87 rfl (lv_at hl 0 rfl) ?_
          refine lv_aload_n hx hb dX2_hasForm_88 rfl (lv_at hl 1 rfl) ?_
          refine x_callVi (wr := []) (w2 := oW q (rnG T tn (nxG (ltG T tn f))) ++ tW cI t T tn) (rest := [.ref q]) (n := 1) C w hl [.ref (t 0)] (k_X2_readNumber l D cI cS tys ht0 q (nxG (ltG T tn f)) t T tn ) gX2_hasForm_X2_readNumber rfl (by decide +kernel) ⟨Nat.le_of_ble_eq_true rfl, Nat.le_of_ble_eq_true rfl⟩ 0 2 rfl rfl rfl rfl (Nat.le_of_ble_eq_true rfl) [0, 1, 2] [] (by decide) rfl rfl (by decide) (by decide) [0, 1, 2] (by decide) rfl ⟨Nat.zero_le _, Nat.zero_le _⟩ dX2_hasForm_89 (fun H locs w => ?_)
          refine x_put (v := .int (rnI T tn ((nxG (ltG T tn f)) 1))) (ty := .int) (T := TX2) (ws2 := oW q (upd (rnG T tn (nxG (ltG T tn f))) 3 (rnI T tn ((nxG (ltG T tn f)) 1))) ++ tW cI t T tn) C w 0 3 rfl rfl (fun _ h => List.mem_cons_of_mem _ (List.mem_append_left _ (List.mem_append_right _ (h)))) tyX2 tyX2_ok nmX2 (List.mem_of_getElem? (i := 3) rfl) (by decide) (Nat.le_of_ble_eq_true rfl) rfl (by decide +kernel) rfl rfl (oWb3 _ _ _ _) dX2_hasForm_92 (fun H locs w => ?_)
          have w : xW D A s.heap (oW q (nuG T tn (nxG (ltG T tn f)) 3) ++ tW cI t T tn) _ _ := w
          refine lv_aload_n hx hb dX2_hasForm_95 rfl (lv_at hl 0 rfl) ?_
          refine x_get (v := .int ((nuG T tn (nxG (ltG T tn f)) 3) 3)) (T := TX2) C w 0 3 rfl rfl (fun _ h => List.mem_cons_of_mem _ (List.mem_append_left _ (List.mem_append_right _ (h)))) (List.mem_of_getElem? (i := 3) rfl) (by decide) rfl dX2_hasForm_96 ?_
          refine lv_iconst (v := -1) hx hb dX2_hasForm_99 (by decide +kernel) ?_
          refine x_icR_eq (x := (nuG T tn (nxG (ltG T tn f)) 3) 3) (y := (-1)) (tgt := 117) hx hb dX2_hasForm_100 (by decide) (fun c100_7 => ?_) (fun c100_7 => ?_)
          ·
            refine lv_iconst (v := 0) hx hb dX2_hasForm_117 (by decide +kernel) ?_
            exact x_zret C w (Or.inl rfl) (by simp [bI, hfB, hnB, c16_1, c16_2, c16_3, c16_6, c100_7]) (cg2 (fun (a b : va_W) => a ++ b) (congrArg (oW q) (by simp [hfG, hnG, c16_1, c16_2, c16_3, c16_6, c100_7])) rfl) dX2_hasForm_118
          ·
            refine lv_aload_n hx hb dX2_hasForm_103 rfl (lv_at hl 0 rfl) ?_
            refine lv_aload_n hx hb dX2_hasForm_104 rfl (lv_at hl 1 rfl) ?_
            refine lv_bipush (v := 59) hx hb dX2_hasForm_105 (by decide +kernel) ?_
            refine x_callVi (wr := []) (w2 := oW q (rsG T tn (nuG T tn (nxG (ltG T tn f)) 3) 59) ++ tW cI t T tn) (rest := []) (n := 2) C w hl [.ref (t 0), .int 59] (k_X2_readSign l D cI cS tys ht0 q (nuG T tn (nxG (ltG T tn f)) 3) t T tn 59 ) gX2_hasForm_X2_readSign rfl (by decide +kernel) ⟨Nat.le_of_ble_eq_true rfl, Nat.le_of_ble_eq_true rfl⟩ 0 2 rfl rfl rfl rfl (Nat.le_of_ble_eq_true rfl) [0, 1, 2] [] (by decide) rfl rfl (by decide) (by decide) [0, 1, 2] (by decide) rfl ⟨Nat.zero_le _, Nat.zero_le _⟩ dX2_hasForm_107 (fun H locs w => ?_)
            refine x_ifB_eq (P := rsB T tn (nuG T tn (nxG (ltG T tn f)) 3) 59 = true) (tgt := 117) hx hb dX2_hasForm_110 (by decide) (fun c110_8 => ?_) (fun c110_8 => ?_)
            ·
              refine lv_iconst (v := 0) hx hb dX2_hasForm_117 (by decide +kernel) ?_
              exact x_zret C w (Or.inl rfl) (by simp [bI, hfB, hnB, c16_1, c16_2, c16_3, c16_6, c100_7, c110_8]) (cg2 (fun (a b : va_W) => a ++ b) (congrArg (oW q) (by simp [hfG, hnG, c16_1, c16_2, c16_3, c16_6, c100_7, c110_8])) rfl) dX2_hasForm_118
            ·
              refine lv_iconst (v := 1) hx hb dX2_hasForm_113 (by decide +kernel) ?_
              refine lv_goto (tgt := 118) hx hb dX2_hasForm_114 (by decide) ?_
              exact x_zret C w (Or.inr rfl) (by simp [bI, hfB, hnB, c16_1, c16_2, c16_3, c16_6, c100_7, c110_8]) (cg2 (fun (a b : va_W) => a ++ b) (congrArg (oW q) (by simp [hfG, hnG, c16_1, c16_2, c16_3, c16_6, c100_7, c110_8])) rfl) dX2_hasForm_118
        ·
          by_cases c16_9 : (ltG T tn f) 2 = (116 : Int32)
          ·
            refine x_top (y := 116) c16_9 ?_
            refine lv_lookup (x := 116) (off := 60) (tgt := 76) hx hb dX2_hasForm_16 (by decide) (by decide) (by decide) ?_
            refine lv_aload_n hx hb dX2_hasForm_76 rfl (lv_at hl 0 rfl) ?_
            refine lv_dup hx hb dX2_hasForm_77 rfl ?_
            refine x_get (v := .int ((ltG T tn f) 1)) (T := TX2) C w 0 1 rfl rfl (fun _ h => List.mem_cons_of_mem _ (List.mem_append_left _ (List.mem_append_right _ (h)))) (List.mem_of_getElem? (i := 1) rfl) (by decide) rfl dX2_hasForm_78 ?_
            refine lv_iconst (v := 1) hx hb dX2_hasForm_81 (by decide +kernel) ?_
            refine lv_iadd (x := (ltG T tn f) 1) (y := 1) hx hb dX2_hasForm_82 ?_
            refine x_put (v := .int (((ltG T tn f) 1) + 1)) (ty := .int) (T := TX2) (ws2 := oW q (upd (ltG T tn f) 1 (((ltG T tn f) 1) + 1)) ++ tW cI t T tn) C w 0 1 rfl rfl (fun _ h => List.mem_cons_of_mem _ (List.mem_append_left _ (List.mem_append_right _ (h)))) tyX2 tyX2_ok nmX2 (List.mem_of_getElem? (i := 1) rfl) (by decide) (Nat.le_of_ble_eq_true rfl) rfl (by decide +kernel) rfl rfl (oWb1 _ _ _ _) dX2_hasForm_83 (fun H locs w => ?_)
            have w : xW D A s.heap (oW q (nxG (ltG T tn f)) ++ tW cI t T tn) _ _ := w
            refine lv_aload_n hx hb dX2_hasForm_86 rfl (lv_at hl 0 rfl) ?_
            refine lv_aload_n hx hb dX2_hasForm_87 rfl (lv_at hl 0 rfl) ?_
            refine lv_aload_n hx hb dX2_hasForm_88 rfl (lv_at hl 1 rfl) ?_
            refine x_callVi (wr := []) (w2 := oW q (rnG T tn (nxG (ltG T tn f))) ++ tW cI t T tn) (rest := [.ref q]) (n := 1) C w hl [.ref (t 0)] (k_X2_readNumber l D cI cS tys ht0 q (nxG (ltG T tn f)) t T tn ) gX2_hasForm_X2_readNumber rfl (by decide +kernel) ⟨Nat.le_of_ble_eq_true rfl, Nat.le_of_ble_eq_true rfl⟩ 0 2 rfl rfl rfl rfl (Nat.le_of_ble_eq_true rfl) [0, 1, 2] [] (by decide) rfl rfl (by decide) (by decide) [0, 1, 2] (by decide) rfl ⟨Nat.zero_le _, Nat.zero_le _⟩ dX2_hasForm_89 (fun H locs w => ?_)
            refine x_put (v := .int (rnI T tn ((nxG (ltG T tn f)) 1))) (ty := .int) (T := TX2) (ws2 := oW q (upd (rnG T tn (nxG (ltG T tn f))) 3 (rnI T tn ((nxG (ltG T tn f)) 1))) ++ tW cI t T tn) C w 0 3 rfl rfl (fun _ h => List.mem_cons_of_mem _ (List.mem_append_left _ (List.mem_append_right _ (h)))) tyX2 tyX2_ok nmX2 (List.mem_of_getElem? (i := 3) rfl) (by decide) (Nat.le_of_ble_eq_true rfl) rfl (by decide +kernel) rfl rfl (oWb3 _ _ _ _) dX2_hasForm_92 (fun H locs w => ?_)
            have w : xW D A s.heap (oW q (nuG T tn (nxG (ltG T tn f)) 3) ++ tW cI t T tn) _ _ := w
            refine lv_aload_n hx hb dX2_hasForm_95 rfl (lv_at hl 0 rfl) ?_
            refine x_get (v := .int ((nuG T tn (nxG (ltG T tn f)) 3) 3)) (T := TX2) C w 0 3 rfl rfl (fun _ h => List.mem_cons_of_mem _ (List.mem_append_left _ (List.mem_append_right _ (h)))) (List.mem_of_getElem? (i := 3) rfl) (by decide) rfl dX2_hasForm_96 ?_
            refine lv_iconst (v := -1) hx hb dX2_hasForm_99 (by decide +kernel) ?_
            refine x_icR_eq (x := (nuG T tn (nxG (ltG T tn f)) 3) 3) (y := (-1)) (tgt := 117) hx hb dX2_hasForm_100 (by decide) (fun c100_10 => ?_) (fun c100_10 => ?_)
            ·
              refine lv_iconst (v := 0) hx hb dX2_hasForm_117 (by decide +kernel) ?_
              exact x_zret C w (Or.inl rfl) (by simp [bI, hfB, hnB, c16_1, c16_2, c16_3, c16_6, c16_9, c100_10]) (cg2 (fun (a b : va_W) => a ++ b) (congrArg (oW q) (by simp [hfG, hnG, c16_1, c16_2, c16_3, c16_6, c16_9, c100_10])) rfl) dX2_hasForm_118
            ·
              refine lv_aload_n hx hb dX2_hasForm_103 rfl (lv_at hl 0 rfl) ?_
              refine lv_aload_n hx hb dX2_hasForm_104 rfl (lv_at hl 1 rfl) ?_
              refine lv_bipush (v := 59) hx hb dX2_hasForm_105 (by decide +kernel) ?_
              refine x_callVi (wr := []) (w2 := oW q (rsG T tn (nuG T tn (nxG (ltG T tn f)) 3) 59) ++ tW cI t T tn) (rest := []) (n := 2) C w hl [.ref (t 0), .int 59] (k_X2_readSign l D cI cS tys ht0 q (nuG T tn (nxG (ltG T tn f)) 3) t T tn 59 ) gX2_hasForm_X2_readSign rfl (by decide +kernel) ⟨Nat.le_of_ble_eq_true rfl, Nat.le_of_ble_eq_true rfl⟩ 0 2 rfl rfl rfl rfl (Nat.le_of_ble_eq_true rfl) [0, 1, 2] [] (by decide) rfl rfl (by decide) (by decide) [0, 1, 2] (by decide) rfl ⟨Nat.zero_le _, Nat.zero_le _⟩ dX2_hasForm_107 (fun H locs w => ?_)
              refine x_ifB_eq (P := rsB T tn (nuG T tn (nxG (ltG T tn f)) 3) 59 = true) (tgt := 117) hx hb dX2_hasForm_110 (by decide) (fun c110_11 => ?_) (fun c110_11 => ?_)
              ·
                refine lv_iconst (v := 0) hx hb dX2_hasForm_117 (by decide +kernel) ?_
                exact x_zret C w (Or.inl rfl) (by simp [bI, hfB, hnB, c16_1, c16_2, c16_3, c16_6, c16_9, c100_10, c110_11]) (cg2 (fun (a b : va_W) => a ++ b) (congrArg (oW q) (by simp [hfG, hnG, c16_1, c16_2, c16_3, c16_6, c16_9, c100_10, c110_11])) rfl) dX2_hasForm_118
              ·
                refine lv_iconst (v := 1) hx hb dX2_hasForm_113 (by decide +kernel) ?_
                refine lv_goto (tgt := 118) hx hb dX2_hasForm_114 (by decide) ?_
                exact x_zret C w (Or.inr rfl) (by simp [bI, hfB, hnB, c16_1, c16_2, c16_3, c16_6, c16_9, c100_10, c110_11]) (cg2 (fun (a b : va_W) => a ++ b) (congrArg (oW q) (by simp [hfG, hnG, c16_1, c16_2, c16_3, c16_6, c16_9, c100_10, c110_11])) rfl) dX2_hasForm_118
          ·
            by_cases c16_12 : (ltG T tn f) 2 = (119 : Int32)
            ·
              refine x_top (y := 119) c16_12 ?_
              refine lv_lookup (x := 119) (off := 103) (tgt := 119) hx hb dX2_hasForm_16 (by decide) (by decide) (by decide) ?_
              refine lv_aload_n hx hb dX2_hasForm_119 rfl (lv_at hl 0 rfl) ?_
              refine lv_dup hx hb dX2_hasForm_120 rfl ?_
              refine x_get (v := .int ((ltG T tn f) 1)) (T := TX2) C w 0 1 rfl rfl (fun _ h => List.mem_cons_of_mem _ (List.mem_append_left _ (List.mem_append_right _ (h)))) (List.mem_of_getElem? (i := 1) rfl) (by decide) rfl dX2_hasForm_121 ?_
              refine lv_iconst (v := 1) hx hb dX2_hasForm_124 (by decide +kernel) ?_
              refine lv_iadd (x := (ltG T tn f) 1) (y := 1) hx hb dX2_hasForm_125 ?_
              refine x_put (v := .int (((ltG T tn f) 1) + 1)) (ty := .int) (T := TX2) (ws2 := oW q (upd (ltG T tn f) 1 (((ltG T tn f) 1) + 1)) ++ tW cI t T tn) C w 0 1 rfl rfl (fun _ h => List.mem_cons_of_mem _ (List.mem_append_left _ (List.mem_append_right _ (h)))) tyX2 tyX2_ok nmX2 (List.mem_of_getElem? (i := 1) rfl) (by decide) (Nat.le_of_ble_eq_true rfl) rfl (by decide +kernel) rfl rfl (oWb1 _ _ _ _) dX2_hasForm_126 (fun H locs w => ?_)
              have w : xW D A s.heap (oW q (nxG (ltG T tn f)) ++ tW cI t T tn) _ _ := w
              refine lv_aload_n hx hb dX2_hasForm_129 rfl (lv_at hl 0 rfl) ?_
              refine lv_aload_n hx hb dX2_hasForm_130 rfl (lv_at hl 1 rfl) ?_
              refine x_callVi (wr := []) (w2 := oW q (hwG T tn (nxG (ltG T tn f))) ++ tW cI t T tn) (rest := []) (n := 1) C w hl [.ref (t 0)] (k_X2_hasFormOfWrite l D cI cS tys ht0 q (nxG (ltG T tn f)) t T tn ) gX2_hasForm_X2_hasFormOfWrite rfl (by decide +kernel) ⟨Nat.le_of_ble_eq_true rfl, Nat.le_of_ble_eq_true rfl⟩ 0 2 rfl rfl rfl rfl (Nat.le_of_ble_eq_true rfl) [0, 1, 2] [] (by decide) rfl rfl (by decide) (by decide) [0, 1, 2] (by decide) rfl ⟨Nat.zero_le _, Nat.zero_le _⟩ dX2_hasForm_131 (fun H locs w => ?_)
              exact x_zret C w (bI_01 _) (by simp [bI, hfB, hnB, c16_1, c16_2, c16_3, c16_6, c16_9, c16_12]) (cg2 (fun (a b : va_W) => a ++ b) (congrArg (oW q) (by simp [hfG, hnG, c16_1, c16_2, c16_3, c16_6, c16_9, c16_12])) rfl) dX2_hasForm_134
            ·
              refine lv_lookup (x := (ltG T tn f) 2) (off := 137) (tgt := 153) hx hb dX2_hasForm_16 (by decide) (by show Op.lookupswitch.offset [(99, 119), (103, 119), (108, 60), (114, 60), (116, 60), (119, 103)] _ _ = _; rw [lv_osw c16_1 (by decide), lv_osw c16_2 (by decide), lv_osw c16_3 (by decide), lv_osw c16_6 (by decide), lv_osw c16_9 (by decide), lv_osw c16_12 (by decide)]; rfl) (by decide) ?_
              refine lv_iconst (v := 0) hx hb dX2_hasForm_153 (by decide +kernel) ?_
              exact x_zret C w (Or.inl rfl) (by simp [bI, hfB, hnB, c16_1, c16_2, c16_3, c16_6, c16_9, c16_12]) (cg2 (fun (a b : va_W) => a ++ b) (congrArg (oW q) (by simp [hfG, hnG, c16_1, c16_2, c16_3, c16_6, c16_9, c16_12])) rfl) dX2_hasForm_154
set_option maxHeartbeats 1000000 in
set_option maxRecDepth 100000 in
theorem k_X2_readNext (l : Launch) (D : va_G) (cI cS : ClassId) (tys : List (ClassId × FieldType)) (ht0 : tys[0]? = some (cI, .int)) (q : Nat) (f : Nat → Int32) (t : Nat → Nat) (T : Nat → Int32) (tn : Int32)  : xV l yX2_readNext wsX2_readNext 4 D tys [.ref q, .ref (t 0)] (oW q f ++ tW cI t T tn) (oW q (rxG T tn f) ++ tW cI t T tn) := by
  refine x_inV (cc := cX2_readNext) (maxL := 2) (ret := none) (by decide) rfl (Nat.le_of_ble_eq_true rfl) ?_
  intro p e s m args below meth c A ls C w hl
  have C : xC p s m meth c args cX2_readNext 2 wsX2_readNext RX2 D tys none := C
  have hx := C.1.1
  have hb := C.1.2.1
  have hts := C.1.2.2.2.2
  have hown := C.1.2.2.2.1
  have w : xW D A s.heap (oW q f ++ tW cI t T tn) s.heap [] := w
  have hl : lv_has ls 2 [(0, .ref q), (1, .ref (t 0))] := hl
  refine lv_aload_n hx hb dX2_readNext_0 rfl (lv_at hl 0 rfl) ?_
  refine lv_aload_n hx hb dX2_readNext_1 rfl (lv_at hl 0 rfl) ?_
  refine x_get (v := .int (f 1)) (T := TX2) C w 0 1 rfl rfl (fun _ h => List.mem_cons_of_mem _ (List.mem_append_left _ (List.mem_append_right _ (h)))) (List.mem_of_getElem? (i := 1) rfl) (by decide) rfl dX2_readNext_2 ?_
  refine x_put (v := .int (f 1)) (ty := .int) (T := TX2) (ws2 := oW q (upd f 0 (f 1)) ++ tW cI t T tn) C w 0 0 rfl rfl (fun _ h => List.mem_cons_of_mem _ (List.mem_append_left _ (List.mem_append_right _ (h)))) tyX2 tyX2_ok nmX2 (List.mem_of_getElem? (i := 2) rfl) (by decide) (Nat.le_of_ble_eq_true rfl) rfl (by decide +kernel) rfl rfl (oWb0 _ _ _ _) dX2_readNext_5 (fun H locs w => ?_)
  have w : xW D A s.heap (oW q (st0 f) ++ tW cI t T tn) _ _ := w
  refine lv_aload_n hx hb dX2_readNext_8 rfl (lv_at hl 0 rfl) ?_
  refine lv_aload_n hx hb dX2_readNext_9 rfl (lv_at hl 1 rfl) ?_
  refine x_callVi (wr := []) (w2 := oW q (hfG T tn (st0 f)) ++ tW cI t T tn) (rest := []) (n := 1) C w hl [.ref (t 0)] (k_X2_hasForm l D cI cS tys ht0 q (st0 f) t T tn ) gX2_readNext_X2_hasForm rfl (by decide +kernel) ⟨Nat.le_of_ble_eq_true rfl, Nat.le_of_ble_eq_true rfl⟩ 0 2 rfl rfl rfl rfl (Nat.le_of_ble_eq_true rfl) [0, 1, 2] [] (by decide) rfl rfl (by decide) (by decide) [0, 1, 2] (by decide) rfl ⟨Nat.zero_le _, Nat.zero_le _⟩ dX2_readNext_10 (fun H locs w => ?_)
  refine x_ifB_ne (P := hfB T tn (st0 f) = true) (tgt := 37) hx hb dX2_readNext_13 (by decide) (fun c13_1 => ?_) (fun c13_1 => ?_)
  ·
    refine lv_aload_n hx hb dX2_readNext_37 rfl (lv_at hl 0 rfl) ?_
    refine x_callVi (wr := tW cI t T tn) (w2 := oW q (hfG T tn (st0 f)) ++ tW cI t T tn) (rest := []) (n := 0) C w hl [] (k_X2_isInRange l D cI cS tys ht0 q (hfG T tn (st0 f)) ) gX2_readNext_X2_isInRange rfl (by decide +kernel) ⟨Nat.le_of_ble_eq_true rfl, Nat.le_of_ble_eq_true rfl⟩ 0 2 rfl rfl rfl rfl (Nat.le_of_ble_eq_true rfl) [0] [1, 2] (by decide) rfl rfl (by decide) (by decide) [2, 0, 1] (by decide) rfl ⟨Nat.zero_le _, Nat.zero_le _⟩ dX2_readNext_38 (fun H locs w => ?_)
    refine x_ifB_ne (P := irB (hfG T tn (st0 f)) = true) (tgt := 57) hx hb dX2_readNext_41 (by decide) (fun c41_2 => ?_) (fun c41_2 => ?_)
    ·
      exact x_vret C w (cg2 (fun (a b : va_W) => a ++ b) (congrArg (oW q) (by simp [rxG, c13_1, c41_2])) rfl) dX2_readNext_57
    ·
      refine lv_aload_n hx hb dX2_readNext_44 rfl (lv_at hl 0 rfl) ?_
      refine lv_iconst (v := 2) hx hb dX2_readNext_45 (by decide +kernel) ?_
      refine x_put (v := .int 2) (ty := .int) (T := TX2) (ws2 := oW q (upd (hfG T tn (st0 f)) 5 2) ++ tW cI t T tn) C w 0 5 rfl rfl (fun _ h => List.mem_cons_of_mem _ (List.mem_append_left _ (List.mem_append_right _ (h)))) tyX2 tyX2_ok nmX2 (List.mem_of_getElem? (i := 3) rfl) (by decide) (Nat.le_of_ble_eq_true rfl) rfl (by decide +kernel) rfl rfl (oWb5 _ _ _ _) dX2_readNext_46 (fun H locs w => ?_)
      refine lv_aload_n hx hb dX2_readNext_49 rfl (lv_at hl 0 rfl) ?_
      refine lv_aload_n hx hb dX2_readNext_50 rfl (lv_at hl 0 rfl) ?_
      refine x_get (v := .int ((hfG T tn (st0 f)) 3)) (T := TX2) C w 0 3 rfl rfl (fun _ h => List.mem_cons_of_mem _ (List.mem_append_left _ (List.mem_append_right _ (h)))) (List.mem_of_getElem? (i := 5) rfl) (by decide) rfl dX2_readNext_51 ?_
      refine x_put (v := .int ((hfG T tn (st0 f)) 3)) (ty := .int) (T := TX2) (ws2 := oW q (upd (upd (hfG T tn (st0 f)) 5 2) 6 ((hfG T tn (st0 f)) 3)) ++ tW cI t T tn) C w 0 6 rfl rfl (fun _ h => List.mem_cons_of_mem _ (List.mem_append_left _ (List.mem_append_right _ (h)))) tyX2 tyX2_ok nmX2 (List.mem_of_getElem? (i := 4) rfl) (by decide) (Nat.le_of_ble_eq_true rfl) rfl (by decide +kernel) rfl rfl (oWb6 _ _ _ _) dX2_readNext_54 (fun H locs w => ?_)
      exact x_vret C w (cg2 (fun (a b : va_W) => a ++ b) (congrArg (oW q) (by simp [rxG, c13_1, c41_2])) rfl) dX2_readNext_57
  ·
    refine lv_aload_n hx hb dX2_readNext_16 rfl (lv_at hl 0 rfl) ?_
    refine lv_iconst (v := 1) hx hb dX2_readNext_17 (by decide +kernel) ?_
    refine x_put (v := .int 1) (ty := .int) (T := TX2) (ws2 := oW q (upd (hfG T tn (st0 f)) 5 1) ++ tW cI t T tn) C w 0 5 rfl rfl (fun _ h => List.mem_cons_of_mem _ (List.mem_append_left _ (List.mem_append_right _ (h)))) tyX2 tyX2_ok nmX2 (List.mem_of_getElem? (i := 3) rfl) (by decide) (Nat.le_of_ble_eq_true rfl) rfl (by decide +kernel) rfl rfl (oWb5 _ _ _ _) dX2_readNext_18 (fun H locs w => ?_)
    refine lv_aload_n hx hb dX2_readNext_21 rfl (lv_at hl 0 rfl) ?_
    refine lv_aload_n hx hb dX2_readNext_22 rfl (lv_at hl 0 rfl) ?_
    refine x_get (v := .int ((hfG T tn (st0 f)) 1)) (T := TX2) C w 0 1 rfl rfl (fun _ h => List.mem_cons_of_mem _ (List.mem_append_left _ (List.mem_append_right _ (h)))) (List.mem_of_getElem? (i := 1) rfl) (by decide) rfl dX2_readNext_23 ?_
    refine lv_aload_n hx hb dX2_readNext_26 rfl (lv_at hl 0 rfl) ?_
    refine x_get (v := .int ((hfG T tn (st0 f)) 0)) (T := TX2) C w 0 0 rfl rfl (fun _ h => List.mem_cons_of_mem _ (List.mem_append_left _ (List.mem_append_right _ (h)))) (List.mem_of_getElem? (i := 2) rfl) (by decide) rfl dX2_readNext_27 ?_
    refine lv_isub (x := (hfG T tn (st0 f)) 1) (y := (hfG T tn (st0 f)) 0) hx hb dX2_readNext_30 ?_
    refine x_put (v := .int (((hfG T tn (st0 f)) 1) - ((hfG T tn (st0 f)) 0))) (ty := .int) (T := TX2) (ws2 := oW q (upd (upd (hfG T tn (st0 f)) 5 1) 6 (((hfG T tn (st0 f)) 1) - ((hfG T tn (st0 f)) 0))) ++ tW cI t T tn) C w 0 6 rfl rfl (fun _ h => List.mem_cons_of_mem _ (List.mem_append_left _ (List.mem_append_right _ (h)))) tyX2 tyX2_ok nmX2 (List.mem_of_getElem? (i := 4) rfl) (by decide) (Nat.le_of_ble_eq_true rfl) rfl (by decide +kernel) rfl rfl (oWb6 _ _ _ _) dX2_readNext_31 (fun H locs w => ?_)
    refine lv_goto (tgt := 57) hx hb dX2_readNext_34 (by decide) ?_
    exact x_vret C w (cg2 (fun (a b : va_W) => a ++ b) (congrArg (oW q) (by simp [rxG, c13_1])) rfl) dX2_readNext_57
