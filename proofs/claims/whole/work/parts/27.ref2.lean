set_option maxHeartbeats 1000000 in
set_option maxRecDepth 100000 in
theorem k_X7_capacity (l : Launch) (D : va_G) (cI cS : ClassId) (tys : List (ClassId × FieldType)) (ht0 : tys[0]? = some (cI, .int)) (o : Nat → Nat) (G : St) (K : Nat → Int32) (h : Nat → Int32) (hn : Int32) (T : Nat → Int32) (tn : Int32) (f : Nat → Int32)  : xI l yX7_capacity wsX7_capacity 0 D tys [.ref (o 0)] (mR cI o (fl G) K h hn T tn f) (capI G) (mR cI o (fl G) K h hn T tn f) := by
  refine x_inI (cc := cX7_capacity) (maxL := 1) (ret := (some .int)) (by decide) rfl (Nat.le_of_ble_eq_true rfl) ?_
  intro p e s m args below meth c A ls C w hl
  have C : xC p s m meth c args cX7_capacity 1 wsX7_capacity RX7 D tys (some .int) := C
  have hx := C.1.1
  have hb := C.1.2.1
  have hts := C.1.2.2.2.2
  have hown := C.1.2.2.2.1
  have w : xW D A s.heap (mR cI o (fl G) K h hn T tn f) s.heap [] := w
  have hl : lv_has ls 1 [(0, .ref (o 0))] := hl
  refine lv_sipush (v := 1000) hx hb dX7_capacity_0 (by decide +kernel) ?_
  refine lv_bipush (v := 10) hx hb dX7_capacity_3 (by decide +kernel) ?_
  refine lv_aload_n hx hb dX7_capacity_5 rfl (lv_at hl 0 rfl) ?_
  refine x_get (v := .ref (o 1)) (T := TX7) C w 0 0 rfl rfl (fun _ h => List.mem_cons_of_mem _ (List.mem_append_right _ (h))) (List.mem_of_getElem? (i := 1) rfl) (by decide) rfl dX7_capacity_6 ?_
  refine lv_sipush (v := 161) hx hb dX7_capacity_9 (by decide +kernel) ?_
  refine x_iald (v := G 6 1) C w 1 0 (161) rfl ht0 rfl (by omega) (by decide) rfl dX7_capacity_12 ?_
  refine lv_imul (x := 10) (y := G 6 1) hx hb dX7_capacity_13 ?_
  refine lv_isub (x := 1000) (y := (10 * (G 6 1))) hx hb dX7_capacity_14 ?_
  exact x_iret C w (by first | rfl | contradiction | (simp []; done)) rfl dX7_capacity_15
set_option maxHeartbeats 1000000 in
set_option maxRecDepth 100000 in
theorem k_X7_drains (l : Launch) (D : va_G) (cI cS : ClassId) (tys : List (ClassId × FieldType)) (ht0 : tys[0]? = some (cI, .int)) (o : Nat → Nat) (G : St) (K : Nat → Int32) (h : Nat → Int32) (hn : Int32) (T : Nat → Int32) (tn : Int32) (f : Nat → Int32) (a1 : Int32) (hb1 : vN 100000 a1) (hc1 : vN 1000 (G 6 0)) : xV l yX7_drains wsX7_drains 0 D tys [.ref (o 0), .int a1] (mR cI o (fl G) K h hn T tn f) (mR cI o (fl (useG G a1)) K h hn T tn f) := by
  refine x_inV (cc := cX7_drains) (maxL := 2) (ret := none) (by decide) rfl (Nat.le_of_ble_eq_true rfl) ?_
  intro p e s m args below meth c A ls C w hl
  have C : xC p s m meth c args cX7_drains 2 wsX7_drains RX7 D tys none := C
  have hx := C.1.1
  have hb := C.1.2.1
  have hts := C.1.2.2.2.2
  have hown := C.1.2.2.2.1
  have w : xW D A s.heap (mR cI o (fl G) K h hn T tn f) s.heap [] := w
  have hl : lv_has ls 2 [(0, .ref (o 0)), (1, .int a1)] := hl
  refine lv_aload_n hx hb dX7_drains_0 rfl (lv_at hl 0 rfl) ?_
  refine x_get (v := .ref (o 1)) (T := TX7) C w 0 0 rfl rfl (fun _ h => List.mem_cons_of_mem _ (List.mem_append_right _ (h))) (List.mem_of_getElem? (i := 1) rfl) (by decide) rfl dX7_drains_1 ?_
  refine lv_sipush (v := 160) hx hb dX7_drains_4 (by decide +kernel) ?_
  refine lv_aload_n hx hb dX7_drains_7 rfl (lv_at hl 0 rfl) ?_
  refine x_get (v := .ref (o 1)) (T := TX7) C w 0 0 rfl rfl (fun _ h => List.mem_cons_of_mem _ (List.mem_append_right _ (h))) (List.mem_of_getElem? (i := 1) rfl) (by decide) rfl dX7_drains_8 ?_
  refine lv_sipush (v := 160) hx hb dX7_drains_11 (by decide +kernel) ?_
  refine x_iald (v := G 6 0) C w 1 0 (160) rfl ht0 rfl (by omega) (by decide) rfl dX7_drains_14 ?_
  refine lv_iload_n hx hb dX7_drains_15 rfl (lv_at hl 1 rfl) ?_
  refine x_icR_le (x := G 6 0) (y := a1) (tgt := 32) hx hb dX7_drains_16 (by decide) (fun c16_1 => ?_) (fun c16_1 => ?_)
  ·
    refine lv_iconst (v := 0) hx hb dX7_drains_32 (by decide +kernel) ?_
    refine x_iast (ws2 := mR cI o (fl (s2 G 6 0 0)) K h hn T tn f) C w 1 0 (160) rfl ht0 rfl (by omega) (by decide) (congrArg (fun z => mR cI o z K h hn T tn f) (fl_u6 _ (i := 0) (by decide) _)) dX7_drains_33 (fun H locs w => ?_)
    exact x_vret C w (congrArg (fun z => mR cI o (fl z) K h hn T tn f) (by unfold useG; rw [(drn hc1 hb1).2 c16_1])) dX7_drains_34
  ·
    refine lv_aload_n hx hb dX7_drains_19 rfl (lv_at hl 0 rfl) ?_
    refine x_get (v := .ref (o 1)) (T := TX7) C w 0 0 rfl rfl (fun _ h => List.mem_cons_of_mem _ (List.mem_append_right _ (h))) (List.mem_of_getElem? (i := 1) rfl) (by decide) rfl dX7_drains_20 ?_
    refine lv_sipush (v := 160) hx hb dX7_drains_23 (by decide +kernel) ?_
    refine x_iald (v := G 6 0) C w 1 0 (160) rfl ht0 rfl (by omega) (by decide) rfl dX7_drains_26 ?_
    refine lv_iload_n hx hb dX7_drains_27 rfl (lv_at hl 1 rfl) ?_
    refine lv_isub (x := G 6 0) (y := a1) hx hb dX7_drains_28 ?_
    refine lv_goto (tgt := 33) hx hb dX7_drains_29 (by decide) ?_
    refine x_iast (ws2 := mR cI o (fl (s2 G 6 0 ((G 6 0) - a1))) K h hn T tn f) C w 1 0 (160) rfl ht0 rfl (by omega) (by decide) (congrArg (fun z => mR cI o z K h hn T tn f) (fl_u6 _ (i := 0) (by decide) _)) dX7_drains_33 (fun H locs w => ?_)
    exact x_vret C w (congrArg (fun z => mR cI o (fl z) K h hn T tn f) (by unfold useG; rw [(drn hc1 hb1).1 c16_1])) dX7_drains_34
set_option maxHeartbeats 1000000 in
set_option maxRecDepth 100000 in
theorem k_X7_charges (l : Launch) (D : va_G) (cI cS : ClassId) (tys : List (ClassId × FieldType)) (ht0 : tys[0]? = some (cI, .int)) (o : Nat → Nat) (G : St) (K : Nat → Int32) (h : Nat → Int32) (hn : Int32) (T : Nat → Int32) (tn : Int32) (f : Nat → Int32)  : xV l yX7_charges wsX7_charges 1 D tys [.ref (o 0)] (mR cI o (fl G) K h hn T tn f) (mR cI o (fl (s2 G 6 0 (chgI G))) K h hn T tn f) := by
  refine x_inV (cc := cX7_charges) (maxL := 2) (ret := none) (by decide) rfl (Nat.le_of_ble_eq_true rfl) ?_
  intro p e s m args below meth c A ls C w hl
  have C : xC p s m meth c args cX7_charges 2 wsX7_charges RX7 D tys none := C
  have hx := C.1.1
  have hb := C.1.2.1
  have hts := C.1.2.2.2.2
  have hown := C.1.2.2.2.1
  have w : xW D A s.heap (mR cI o (fl G) K h hn T tn f) s.heap [] := w
  have hl : lv_has ls 2 [(0, .ref (o 0))] := hl
  refine lv_aload_n hx hb dX7_charges_0 rfl (lv_at hl 0 rfl) ?_
  refine x_get (v := .ref (o 1)) (T := TX7) C w 0 0 rfl rfl (fun _ h => List.mem_cons_of_mem _ (List.mem_append_right _ (h))) (List.mem_of_getElem? (i := 1) rfl) (by decide) rfl dX7_charges_1 ?_
  refine lv_sipush (v := 160) hx hb dX7_charges_4 (by decide +kernel) ?_
  refine x_iald (v := G 6 0) C w 1 0 (160) rfl ht0 rfl (by omega) (by decide) rfl dX7_charges_7 ?_
  refine lv_aload_n hx hb dX7_charges_8 rfl (lv_at hl 0 rfl) ?_
  refine lv_iconst (v := 2) hx hb dX7_charges_9 (by decide +kernel) ?_
  refine x_callVi (wr := []) (w2 := mR cI o (fl G) K h hn T tn f) (rest := [.int (G 6 0)]) (n := 1) C w hl [.int 2] (k_X7_setting l D cI cS tys ht0 o G K h hn T tn f 2 (by decide)) gX7_charges_X7_setting rfl (by decide +kernel) ⟨Nat.le_of_ble_eq_true rfl, Nat.le_of_ble_eq_true rfl⟩ 0 7 rfl rfl rfl rfl (Nat.le_of_ble_eq_true rfl) [0, 1, 2, 3, 4] [] (by decide) rfl rfl (by decide) (by decide) [0, 1, 2, 3, 4] (by decide) rfl ⟨Nat.zero_le _, Nat.zero_le _⟩ dX7_charges_10 (fun H locs w => ?_)
  refine lv_iadd (x := G 6 0) (y := G 8 2) hx hb dX7_charges_13 ?_
  refine lv_istore_n (lv' := [(1, .int ((G 6 0) + (G 8 2))), (0, .ref (o 0))]) hx hb dX7_charges_14 rfl hl (by decide) rfl (fun ls hl => ?_)
  refine lv_aload_n hx hb dX7_charges_15 rfl (lv_at hl 1 rfl) ?_
  refine x_get (v := .ref (o 1)) (T := TX7) C w 0 0 rfl rfl (fun _ h => List.mem_cons_of_mem _ (List.mem_append_right _ (h))) (List.mem_of_getElem? (i := 1) rfl) (by decide) rfl dX7_charges_16 ?_
  refine lv_sipush (v := 160) hx hb dX7_charges_19 (by decide +kernel) ?_
  refine lv_iload_n hx hb dX7_charges_22 rfl (lv_at hl 0 rfl) ?_
  refine lv_aload_n hx hb dX7_charges_23 rfl (lv_at hl 1 rfl) ?_
  refine x_callVi (wr := []) (w2 := mR cI o (fl G) K h hn T tn f) (rest := [.int ((G 6 0) + (G 8 2)), .int 160, .ref (o 1)]) (n := 0) C w hl [] (k_X7_capacity l D cI cS tys ht0 o G K h hn T tn f ) gX7_charges_X7_capacity rfl (by decide +kernel) ⟨Nat.le_of_ble_eq_true rfl, Nat.le_of_ble_eq_true rfl⟩ 0 7 rfl rfl rfl rfl (Nat.le_of_ble_eq_true rfl) [0, 1, 2, 3, 4] [] (by decide) rfl rfl (by decide) (by decide) [0, 1, 2, 3, 4] (by decide) rfl ⟨Nat.zero_le _, Nat.zero_le _⟩ dX7_charges_24 (fun H locs w => ?_)
  refine x_icR_le (x := ((G 6 0) + (G 8 2))) (y := capI G) (tgt := 37) hx hb dX7_charges_27 (by decide) (fun c27_1 => ?_) (fun c27_1 => ?_)
  ·
    refine lv_iload_n hx hb dX7_charges_37 rfl (lv_at hl 0 rfl) ?_
    refine x_iast (ws2 := mR cI o (fl (s2 G 6 0 ((G 6 0) + (G 8 2)))) K h hn T tn f) C w 1 0 (160) rfl ht0 rfl (by omega) (by decide) (congrArg (fun z => mR cI o z K h hn T tn f) (fl_u6 _ (i := 0) (by decide) _)) dX7_charges_38 (fun H locs w => ?_)
    exact x_vret C w (congrArg (fun z => mR cI o (fl z) K h hn T tn f) (by unfold chgI miI; simp only [if_neg c27_1])) dX7_charges_39
  ·
    refine lv_aload_n hx hb dX7_charges_30 rfl (lv_at hl 1 rfl) ?_
    refine x_callVi (wr := []) (w2 := mR cI o (fl G) K h hn T tn f) (rest := [.int 160, .ref (o 1)]) (n := 0) C w hl [] (k_X7_capacity l D cI cS tys ht0 o G K h hn T tn f ) gX7_charges_X7_capacity rfl (by decide +kernel) ⟨Nat.le_of_ble_eq_true rfl, Nat.le_of_ble_eq_true rfl⟩ 0 7 rfl rfl rfl rfl (Nat.le_of_ble_eq_true rfl) [0, 1, 2, 3, 4] [] (by decide) rfl rfl (by decide) (by decide) [0, 1, 2, 3, 4] (by decide) rfl ⟨Nat.zero_le _, Nat.zero_le _⟩ dX7_charges_31 (fun H locs w => ?_)
    refine lv_goto (tgt := 38) hx hb dX7_charges_34 (by decide) ?_
    refine x_iast (ws2 := mR cI o (fl (s2 G 6 0 (capI G))) K h hn T tn f) C w 1 0 (160) rfl ht0 rfl (by omega) (by decide) (congrArg (fun z => mR cI o z K h hn T tn f) (fl_u6 _ (i := 0) (by decide) _)) dX7_charges_38 (fun H locs w => ?_)
    exact x_vret C w (congrArg (fun z => mR cI o (fl z) K h hn T tn f) (by unfold chgI miI; simp only [if_pos c27_1])) dX7_charges_39
set_option maxHeartbeats 1000000 in
set_option maxRecDepth 100000 in
theorem k_X7_learnsOn (l : Launch) (D : va_G) (cI cS : ClassId) (tys : List (ClassId × FieldType)) (ht0 : tys[0]? = some (cI, .int)) (o : Nat → Nat) (G : St) (K : Nat → Int32) (h : Nat → Int32) (hn : Int32) (T : Nat → Int32) (tn : Int32) (f : Nat → Int32) (hI : Inv G) (hnz : ¬ G 6 2 = 0) : xV l yX7_learnsOn wsX7_learnsOn 2 D tys [.ref (o 0)] (mR cI o (fl G) K h hn T tn f) (mR cI o (fl (if endB G = true then s2 (tkG G) 7 7 (tkG G 7 7 + 1) else tkG G)) K h hn T tn f) := by
  refine x_inV (cc := cX7_learnsOn) (maxL := 1) (ret := none) (by decide) rfl (Nat.le_of_ble_eq_true rfl) ?_
  intro p e s m args below meth c A ls C w hl
  have C : xC p s m meth c args cX7_learnsOn 1 wsX7_learnsOn RX7 D tys none := C
  have hx := C.1.1
  have hb := C.1.2.1
  have hts := C.1.2.2.2.2
  have hown := C.1.2.2.2.1
  have w : xW D A s.heap (mR cI o (fl G) K h hn T tn f) s.heap [] := w
  have hl : lv_has ls 1 [(0, .ref (o 0))] := hl
  have hw9 : vN 90 (useG G (G 8 3) 6 1) := by rw [use_6 _ _ (by decide)]; exact hI.2.2.1
  refine lv_aload_n hx hb dX7_learnsOn_0 rfl (lv_at hl 0 rfl) ?_
  refine x_get (v := .ref (o 1)) (T := TX7) C w 0 0 rfl rfl (fun _ h => List.mem_cons_of_mem _ (List.mem_append_right _ (h))) (List.mem_of_getElem? (i := 1) rfl) (by decide) rfl dX7_learnsOn_1 ?_
  refine lv_sipush (v := 162) hx hb dX7_learnsOn_4 (by decide +kernel) ?_
  refine x_iald (v := G 6 2) C w 1 0 (162) rfl ht0 rfl (by omega) (by decide) rfl dX7_learnsOn_7 ?_
  refine lv_iconst (v := 1) hx hb dX7_learnsOn_8 (by decide +kernel) ?_
  refine x_icR_ne (x := G 6 2) (y := 1) (tgt := 71) hx hb dX7_learnsOn_9 (by decide) (fun c9_1 => ?_) (fun c9_1 => ?_)
  ·
    have h62 : G 6 2 = 2 := by rcases kinds hI.2.2.2.1 with z | z | z; (exact absurd z hnz); (exact absurd z c9_1); exact z
    refine lv_aload_n hx hb dX7_learnsOn_71 rfl (lv_at hl 0 rfl) ?_
    refine x_callVv (wr := []) (w2 := mR cI o (fl (s2 G 6 0 (chgI G))) K h hn T tn f) (rest := []) (n := 0) C w hl [] (k_X7_charges l D cI cS tys ht0 o G K h hn T tn f ) gX7_learnsOn_X7_charges rfl (by decide +kernel) ⟨Nat.le_of_ble_eq_true rfl, Nat.le_of_ble_eq_true rfl⟩ 0 7 rfl rfl rfl rfl (Nat.le_of_ble_eq_true rfl) [0, 1, 2, 3, 4] [] (by decide) rfl rfl (by decide) (by decide) [0, 1, 2, 3, 4] (by decide) rfl ⟨Nat.zero_le _, Nat.zero_le _⟩ dX7_learnsOn_72 (fun H locs w => ?_)
    refine lv_aload_n hx hb dX7_learnsOn_75 rfl (lv_at hl 0 rfl) ?_
    refine x_get (v := .ref (o 1)) (T := TX7) C w 0 0 rfl rfl (fun _ h => List.mem_cons_of_mem _ (List.mem_append_right _ (h))) (List.mem_of_getElem? (i := 1) rfl) (by decide) rfl dX7_learnsOn_76 ?_
    refine lv_sipush (v := 160) hx hb dX7_learnsOn_79 (by decide +kernel) ?_
    refine x_iald (v := (chgI G)) C w 1 0 (160) rfl ht0 rfl (by omega) (by decide) rfl dX7_learnsOn_82 ?_
    refine lv_aload_n hx hb dX7_learnsOn_83 rfl (lv_at hl 0 rfl) ?_
    refine x_callVi (wr := []) (w2 := mR cI o (fl (s2 G 6 0 (chgI G))) K h hn T tn f) (rest := [.int (chgI G)]) (n := 0) C w hl [] (k_X7_capacity l D cI cS tys ht0 o (s2 G 6 0 (chgI G)) K h hn T tn f ) gX7_learnsOn_X7_capacity rfl (by decide +kernel) ⟨Nat.le_of_ble_eq_true rfl, Nat.le_of_ble_eq_true rfl⟩ 0 7 rfl rfl rfl rfl (Nat.le_of_ble_eq_true rfl) [0, 1, 2, 3, 4] [] (by decide) rfl rfl (by decide) (by decide) [0, 1, 2, 3, 4] (by decide) rfl ⟨Nat.zero_le _, Nat.zero_le _⟩ dX7_learnsOn_84 (fun H locs w => ?_)
    refine x_top (y := (capI G)) rfl ?_
    refine x_icR_ne (x := (chgI G)) (y := (capI G)) (tgt := 105) hx hb dX7_learnsOn_87 (by decide) (fun c87_2 => ?_) (fun c87_2 => ?_)
    ·
      exact x_vret C w (congrArg (fun z => mR cI o (fl z) K h hn T tn f) (by rw [if_neg (end_n (fun z => c87_2 z.2)), tk_rise c9_1 (fun z => c87_2 z.2)])) dX7_learnsOn_105
    ·
      refine lv_aload_n hx hb dX7_learnsOn_90 rfl (lv_at hl 0 rfl) ?_
      refine x_get (v := .ref (o 1)) (T := TX7) C w 0 0 rfl rfl (fun _ h => List.mem_cons_of_mem _ (List.mem_append_right _ (h))) (List.mem_of_getElem? (i := 1) rfl) (by decide) rfl dX7_learnsOn_91 ?_
      refine lv_sipush (v := 162) hx hb dX7_learnsOn_94 (by decide +kernel) ?_
      refine lv_iconst (v := 0) hx hb dX7_learnsOn_97 (by decide +kernel) ?_
      refine x_iast (ws2 := mR cI o (fl (s2 (s2 G 6 0 (chgI G)) 6 2 0)) K h hn T tn f) C w 1 0 (162) rfl ht0 rfl (by omega) (by decide) (congrArg (fun z => mR cI o z K h hn T tn f) (fl_u6 _ (i := 2) (by decide) _)) dX7_learnsOn_98 (fun H locs w => ?_)
      refine lv_aload_n hx hb dX7_learnsOn_99 rfl (lv_at hl 0 rfl) ?_
      refine lv_bipush (v := 7) hx hb dX7_learnsOn_100 (by decide +kernel) ?_
      refine x_callVv (wr := []) (w2 := mR cI o (fl (s2 (s2 (s2 G 6 0 (chgI G)) 6 2 0) 7 7 (G 7 7 + 1))) K h hn T tn f) (rest := []) (n := 1) C w hl [.int 7] (k_X7_counts l D cI cS tys ht0 o (s2 (s2 G 6 0 (chgI G)) 6 2 0) K h hn T tn f 7 (by decide)) gX7_learnsOn_X7_counts rfl (by decide +kernel) ⟨Nat.le_of_ble_eq_true rfl, Nat.le_of_ble_eq_true rfl⟩ 0 7 rfl rfl rfl rfl (Nat.le_of_ble_eq_true rfl) [0, 1, 2, 3, 4] [] (by decide) rfl rfl (by decide) (by decide) [0, 1, 2, 3, 4] (by decide) rfl ⟨Nat.zero_le _, Nat.zero_le _⟩ dX7_learnsOn_102 (fun H locs w => ?_)
      exact x_vret C w (congrArg (fun z => mR cI o (fl z) K h hn T tn f) (by rw [if_pos (end_y c9_1 ⟨h62, c87_2⟩), tk_end c9_1 ⟨h62, c87_2⟩]; rfl)) dX7_learnsOn_105
  ·
    refine lv_aload_n hx hb dX7_learnsOn_12 rfl (lv_at hl 0 rfl) ?_
    refine lv_aload_n hx hb dX7_learnsOn_13 rfl (lv_at hl 0 rfl) ?_
    refine lv_iconst (v := 3) hx hb dX7_learnsOn_14 (by decide +kernel) ?_
    refine x_callVi (wr := []) (w2 := mR cI o (fl G) K h hn T tn f) (rest := [.ref (o 0)]) (n := 1) C w hl [.int 3] (k_X7_setting l D cI cS tys ht0 o G K h hn T tn f 3 (by decide)) gX7_learnsOn_X7_setting rfl (by decide +kernel) ⟨Nat.le_of_ble_eq_true rfl, Nat.le_of_ble_eq_true rfl⟩ 0 7 rfl rfl rfl rfl (Nat.le_of_ble_eq_true rfl) [0, 1, 2, 3, 4] [] (by decide) rfl rfl (by decide) (by decide) [0, 1, 2, 3, 4] (by decide) rfl ⟨Nat.zero_le _, Nat.zero_le _⟩ dX7_learnsOn_15 (fun H locs w => ?_)
    refine x_callVv (wr := []) (w2 := mR cI o (fl (useG G (G 8 3))) K h hn T tn f) (rest := []) (n := 1) C w hl [.int (G 8 3)] (k_X7_drains l D cI cS tys ht0 o G K h hn T tn f (G 8 3) (s8_vN hI) hI.2.1) gX7_learnsOn_X7_drains rfl (by decide +kernel) ⟨Nat.le_of_ble_eq_true rfl, Nat.le_of_ble_eq_true rfl⟩ 0 7 rfl rfl rfl rfl (Nat.le_of_ble_eq_true rfl) [0, 1, 2, 3, 4] [] (by decide) rfl rfl (by decide) (by decide) [0, 1, 2, 3, 4] (by decide) rfl ⟨Nat.zero_le _, Nat.zero_le _⟩ dX7_learnsOn_18 (fun H locs w => ?_)
    refine lv_aload_n hx hb dX7_learnsOn_21 rfl (lv_at hl 0 rfl) ?_
    refine x_get (v := .ref (o 1)) (T := TX7) C w 0 0 rfl rfl (fun _ h => List.mem_cons_of_mem _ (List.mem_append_right _ (h))) (List.mem_of_getElem? (i := 1) rfl) (by decide) rfl dX7_learnsOn_22 ?_
    refine lv_sipush (v := 160) hx hb dX7_learnsOn_25 (by decide +kernel) ?_
    refine x_iald (v := (useG G (G 8 3)) 6 0) C w 1 0 (160) rfl ht0 rfl (by omega) (by decide) rfl dX7_learnsOn_28 ?_
    refine x_ifR_ne (x := (useG G (G 8 3)) 6 0) (tgt := 70) hx hb dX7_learnsOn_29 (by decide) (fun c29_3 => ?_) (fun c29_3 => ?_)
    ·
      exact x_vret C w (congrArg (fun z => mR cI o (fl z) K h hn T tn f) (by rw [if_neg (end_n1 c9_1), tk_fall c9_1 c29_3])) dX7_learnsOn_70
    ·
      refine lv_aload_n hx hb dX7_learnsOn_32 rfl (lv_at hl 0 rfl) ?_
      refine x_get (v := .ref (o 1)) (T := TX7) C w 0 0 rfl rfl (fun _ h => List.mem_cons_of_mem _ (List.mem_append_right _ (h))) (List.mem_of_getElem? (i := 1) rfl) (by decide) rfl dX7_learnsOn_33 ?_
      refine lv_sipush (v := 161) hx hb dX7_learnsOn_36 (by decide +kernel) ?_
      refine lv_dup2_11 hx hb dX7_learnsOn_39 rfl rfl ?_
      refine x_iald (v := (useG G (G 8 3)) 6 1) C w 1 0 (161) rfl ht0 rfl (by omega) (by decide) rfl dX7_learnsOn_40 ?_
      refine lv_aload_n hx hb dX7_learnsOn_41 rfl (lv_at hl 0 rfl) ?_
      refine x_get (v := .ref (o 1)) (T := TX7) C w 0 0 rfl rfl (fun _ h => List.mem_cons_of_mem _ (List.mem_append_right _ (h))) (List.mem_of_getElem? (i := 1) rfl) (by decide) rfl dX7_learnsOn_42 ?_
      refine lv_sipush (v := 161) hx hb dX7_learnsOn_45 (by decide +kernel) ?_
      refine x_iald (v := (useG G (G 8 3)) 6 1) C w 1 0 (161) rfl ht0 rfl (by omega) (by decide) rfl dX7_learnsOn_48 ?_
      refine lv_bipush (v := 90) hx hb dX7_learnsOn_49 (by decide +kernel) ?_
      refine x_icR_ge (x := (useG G (G 8 3)) 6 1) (y := 90) (tgt := 58) hx hb dX7_learnsOn_51 (by decide) (fun c51_4 => ?_) (fun c51_4 => ?_)
      ·
        refine lv_iconst (v := 0) hx hb dX7_learnsOn_58 (by decide +kernel) ?_
        refine lv_iadd (x := (useG G (G 8 3)) 6 1) (y := 0) hx hb dX7_learnsOn_59 ?_
        refine x_iast (ws2 := mR cI o (fl (s2 (useG G (G 8 3)) 6 1 (((useG G (G 8 3)) 6 1) + 0))) K h hn T tn f) C w 1 0 (161) rfl ht0 rfl (by omega) (by decide) (congrArg (fun z => mR cI o z K h hn T tn f) (fl_u6 _ (i := 1) (by decide) _)) dX7_learnsOn_60 (fun H locs w => ?_)
        refine lv_aload_n hx hb dX7_learnsOn_61 rfl (lv_at hl 0 rfl) ?_
        refine x_get (v := .ref (o 1)) (T := TX7) C w 0 0 rfl rfl (fun _ h => List.mem_cons_of_mem _ (List.mem_append_right _ (h))) (List.mem_of_getElem? (i := 1) rfl) (by decide) rfl dX7_learnsOn_62 ?_
        refine lv_sipush (v := 162) hx hb dX7_learnsOn_65 (by decide +kernel) ?_
        refine lv_iconst (v := 2) hx hb dX7_learnsOn_68 (by decide +kernel) ?_
        refine x_iast (ws2 := mR cI o (fl (s2 (s2 (useG G (G 8 3)) 6 1 (((useG G (G 8 3)) 6 1) + 0)) 6 2 2)) K h hn T tn f) C w 1 0 (162) rfl ht0 rfl (by omega) (by decide) (congrArg (fun z => mR cI o z K h hn T tn f) (fl_u6 _ (i := 2) (by decide) _)) dX7_learnsOn_69 (fun H locs w => ?_)
        exact x_vret C w (congrArg (fun z => mR cI o (fl z) K h hn T tn f) (by rw [if_neg (end_n1 c9_1), tk_fall0 c9_1 c29_3, (we_vN hw9).2.1 c51_4])) dX7_learnsOn_70
      ·
        refine lv_iconst (v := 1) hx hb dX7_learnsOn_54 (by decide +kernel) ?_
        refine lv_goto (tgt := 59) hx hb dX7_learnsOn_55 (by decide) ?_
        refine lv_iadd (x := (useG G (G 8 3)) 6 1) (y := 1) hx hb dX7_learnsOn_59 ?_
        refine x_iast (ws2 := mR cI o (fl (s2 (useG G (G 8 3)) 6 1 (((useG G (G 8 3)) 6 1) + 1))) K h hn T tn f) C w 1 0 (161) rfl ht0 rfl (by omega) (by decide) (congrArg (fun z => mR cI o z K h hn T tn f) (fl_u6 _ (i := 1) (by decide) _)) dX7_learnsOn_60 (fun H locs w => ?_)
        refine lv_aload_n hx hb dX7_learnsOn_61 rfl (lv_at hl 0 rfl) ?_
        refine x_get (v := .ref (o 1)) (T := TX7) C w 0 0 rfl rfl (fun _ h => List.mem_cons_of_mem _ (List.mem_append_right _ (h))) (List.mem_of_getElem? (i := 1) rfl) (by decide) rfl dX7_learnsOn_62 ?_
        refine lv_sipush (v := 162) hx hb dX7_learnsOn_65 (by decide +kernel) ?_
        refine lv_iconst (v := 2) hx hb dX7_learnsOn_68 (by decide +kernel) ?_
        refine x_iast (ws2 := mR cI o (fl (s2 (s2 (useG G (G 8 3)) 6 1 (((useG G (G 8 3)) 6 1) + 1)) 6 2 2)) K h hn T tn f) C w 1 0 (162) rfl ht0 rfl (by omega) (by decide) (congrArg (fun z => mR cI o z K h hn T tn f) (fl_u6 _ (i := 2) (by decide) _)) dX7_learnsOn_69 (fun H locs w => ?_)
        exact x_vret C w (congrArg (fun z => mR cI o (fl z) K h hn T tn f) (by rw [if_neg (end_n1 c9_1), tk_fall0 c9_1 c29_3, (we_vN hw9).1 c51_4])) dX7_learnsOn_70
set_option maxHeartbeats 1000000 in
set_option maxRecDepth 100000 in
theorem k_X7_doCut (l : Launch) (D : va_G) (cI cS : ClassId) (tys : List (ClassId × FieldType)) (ht0 : tys[0]? = some (cI, .int)) (o : Nat → Nat) (G : St) (K : Nat → Int32) (h : Nat → Int32) (hn : Int32) (T : Nat → Int32) (tn : Int32) (f : Nat → Int32) (hI : Inv G) : xI l yX7_doCut wsX7_doCut 3 D tys [.ref (o 0)] (mR cI o (fl G) K h hn T tn f) (cutI G) (mR cI o (fl (cutG G)) K h hn T tn f) := by
  refine x_inI (cc := cX7_doCut) (maxL := 3) (ret := (some .int)) (by decide) rfl (Nat.le_of_ble_eq_true rfl) ?_
  intro p e s m args below meth c A ls C w hl
  have C : xC p s m meth c args cX7_doCut 3 wsX7_doCut RX7 D tys (some .int) := C
  have hx := C.1.1
  have hb := C.1.2.1
  have hts := C.1.2.2.2.2
  have hown := C.1.2.2.2.1
  have w : xW D A s.heap (mR cI o (fl G) K h hn T tn f) s.heap [] := w
  have hl : lv_has ls 3 [(0, .ref (o 0))] := hl
  obtain ⟨c9, hc9, e0⟩ := hI.2.1
  obtain ⟨a9, ha91, ha9, e1⟩ := hI.2.2.2.2.1
  obtain ⟨k9, hk9, e2⟩ := hI.2.2.2.2.2.1
  have hmle := mN_le G 2
  refine lv_aload_n hx hb dX7_doCut_0 rfl (lv_at hl 0 rfl) ?_
  refine x_get (v := .ref (o 1)) (T := TX7) C w 0 0 rfl rfl (fun _ h => List.mem_cons_of_mem _ (List.mem_append_right _ (h))) (List.mem_of_getElem? (i := 1) rfl) (by decide) rfl dX7_doCut_1 ?_
  refine lv_sipush (v := 160) hx hb dX7_doCut_4 (by decide +kernel) ?_
  refine x_iald (v := G 6 0) C w 1 0 (160) rfl ht0 rfl (by omega) (by decide) rfl dX7_doCut_7 ?_
  refine x_top (y := nI c9) e0 ?_
  refine lv_aload_n hx hb dX7_doCut_8 rfl (lv_at hl 0 rfl) ?_
  refine lv_iconst (v := 1) hx hb dX7_doCut_9 (by decide +kernel) ?_
  refine x_callVi (wr := []) (w2 := mR cI o (fl G) K h hn T tn f) (rest := [.int (nI c9)]) (n := 1) C w hl [.int 1] (k_X7_setting l D cI cS tys ht0 o G K h hn T tn f 1 (by decide)) gX7_doCut_X7_setting rfl (by decide +kernel) ⟨Nat.le_of_ble_eq_true rfl, Nat.le_of_ble_eq_true rfl⟩ 0 7 rfl rfl rfl rfl (Nat.le_of_ble_eq_true rfl) [0, 1, 2, 3, 4] [] (by decide) rfl rfl (by decide) (by decide) [0, 1, 2, 3, 4] (by decide) rfl ⟨Nat.zero_le _, Nat.zero_le _⟩ dX7_doCut_10 (fun H locs w => ?_)
  refine x_top (y := nI k9) e2 ?_
  refine x_icN_ge (i := c9) (j := k9) (tgt := 28) hx hb (by omega) (by omega) dX7_doCut_13 (by decide) (fun c13_1 => ?_) (fun c13_1 => ?_)
  ·
    have hs9 : sN c9 k9 a9 = min ((c9 - k9) / a9) 8 := by unfold sN; rw [if_neg c13_1]
    refine lv_aload_n hx hb dX7_doCut_28 rfl (lv_at hl 0 rfl) ?_
    refine x_get (v := .ref (o 1)) (T := TX7) C w 0 0 rfl rfl (fun _ h => List.mem_cons_of_mem _ (List.mem_append_right _ (h))) (List.mem_of_getElem? (i := 1) rfl) (by decide) rfl dX7_doCut_29 ?_
    refine lv_sipush (v := 160) hx hb dX7_doCut_32 (by decide +kernel) ?_
    refine lv_dup2_11 hx hb dX7_doCut_35 rfl rfl ?_
    refine x_iald (v := G 6 0) C w 1 0 (160) rfl ht0 rfl (by omega) (by decide) rfl dX7_doCut_36 ?_
    refine x_top (y := nI c9) e0 ?_
    refine lv_aload_n hx hb dX7_doCut_37 rfl (lv_at hl 0 rfl) ?_
    refine lv_iconst (v := 1) hx hb dX7_doCut_38 (by decide +kernel) ?_
    refine x_callVi (wr := []) (w2 := mR cI o (fl G) K h hn T tn f) (rest := [.int (nI c9), .int 160, .ref (o 1)]) (n := 1) C w hl [.int 1] (k_X7_setting l D cI cS tys ht0 o G K h hn T tn f 1 (by decide)) gX7_doCut_X7_setting rfl (by decide +kernel) ⟨Nat.le_of_ble_eq_true rfl, Nat.le_of_ble_eq_true rfl⟩ 0 7 rfl rfl rfl rfl (Nat.le_of_ble_eq_true rfl) [0, 1, 2, 3, 4] [] (by decide) rfl rfl (by decide) (by decide) [0, 1, 2, 3, 4] (by decide) rfl ⟨Nat.zero_le _, Nat.zero_le _⟩ dX7_doCut_39 (fun H locs w => ?_)
    refine x_top (y := nI k9) e2 ?_
    refine x_isubN (i := c9) (j := k9) hx hb (by omega) dX7_doCut_42 ?_
    refine x_iast (ws2 := mR cI o (fl (s2 G 6 0 (nI (c9 - k9)))) K h hn T tn f) C w 1 0 (160) rfl ht0 rfl (by omega) (by decide) (congrArg (fun z => mR cI o z K h hn T tn f) (fl_u6 _ (i := 0) (by decide) _)) dX7_doCut_43 (fun H locs w => ?_)
    have loop_44 : ∀ (n : Nat) (i : Nat) (r : Nat), mN G 2 - i < n → (i ≤ min (mN G 2) ((c9 - k9) / a9)) → (r = c9 - k9 - i * a9) → (¬ c9 < k9) → ∀ (H : Heap) (locs : List Loc), xW D A s.heap (mR cI o (fl (s2 (flsG G i) 6 0 (nI r))) K h hn T tn f) H locs → ∀ ls : Array Slot, lv_has ls 3 [(0, .ref (o 0))] → W p l e (rmd 3) s m args below meth c H locs 0 0 (MQ below (xQi D tys (cutI G) (mR cI o (fl (cutG G)) K h hn T tn f) A) args s 0 0 A) (F0 m 44 ls []) := by
      intro n
      induction n with
      | zero => intro i r hm; exact absurd hm (Nat.not_lt_zero _)
      | succ n ih =>
        intro i r hm hi hr9 hck H locs w ls hl
        obtain ⟨hI1, r6, r8, hm, -⟩ := fls_facts hI i (by omega)
        have ea8 : flsG G i 8 0 = nI a9 := by rw [r8]; exact e1
        refine lv_aload_n hx hb dX7_doCut_44 rfl (lv_at hl 0 rfl) ?_
        refine x_get (v := .ref (o 1)) (T := TX7) C w 0 0 rfl rfl (fun _ h => List.mem_cons_of_mem _ (List.mem_append_right _ (h))) (List.mem_of_getElem? (i := 1) rfl) (by decide) rfl dX7_doCut_45 ?_
        refine lv_sipush (v := 160) hx hb dX7_doCut_48 (by decide +kernel) ?_
        refine x_iald (v := (nI r)) C w 1 0 (160) rfl ht0 rfl (by omega) (by decide) rfl dX7_doCut_51 ?_
        refine x_top (y := nI r) rfl ?_
        refine lv_aload_n hx hb dX7_doCut_52 rfl (lv_at hl 0 rfl) ?_
        refine lv_iconst (v := 0) hx hb dX7_doCut_53 (by decide +kernel) ?_
        refine x_callVi (wr := []) (w2 := mR cI o (fl (s2 (flsG G i) 6 0 (nI r))) K h hn T tn f) (rest := [.int (nI r)]) (n := 1) C w hl [.int 0] (k_X7_setting l D cI cS tys ht0 o (s2 (flsG G i) 6 0 (nI r)) K h hn T tn f 0 (by decide)) gX7_doCut_X7_setting rfl (by decide +kernel) ⟨Nat.le_of_ble_eq_true rfl, Nat.le_of_ble_eq_true rfl⟩ 0 7 rfl rfl rfl rfl (Nat.le_of_ble_eq_true rfl) [0, 1, 2, 3, 4] [] (by decide) rfl rfl (by decide) (by decide) [0, 1, 2, 3, 4] (by decide) rfl ⟨Nat.zero_le _, Nat.zero_le _⟩ dX7_doCut_54 (fun H locs w => ?_)
        refine x_top (y := nI a9) ea8 ?_
        refine x_icN_lt (i := r) (j := a9) (tgt := 96) hx hb (by omega) (by omega) dX7_doCut_57 (by decide) (fun c57_2 => ?_) (fun c57_2 => ?_)
        ·
          have hdv : (c9 - k9) / a9 ≤ i := Nat.le_of_lt_succ ((Nat.div_lt_iff_lt_mul (by omega)).mpr (by rw [Nat.succ_mul]; omega))
          have w : xW D A s.heap (mR cI o (fl (ct0 G)) K h hn T tn f) _ _ := x_ws (congrArg (fun z => mR cI o (fl z) K h hn T tn f) (by rw [ct0_eq hI hc9 ha91 ha9 hk9 e0 e1 e2 (n := i) (by omega), hr9]; rw [show c9 - k9 - i * a9 = c9 - (k9 + i * a9) by omega])) w
          refine lv_aload_n hx hb dX7_doCut_96 rfl (lv_at hl 0 rfl) ?_
          refine lv_iconst (v := 2) hx hb dX7_doCut_97 (by decide +kernel) ?_
          refine x_callVi (wr := []) (w2 := mR cI o (fl (ct0 G)) K h hn T tn f) (rest := []) (n := 1) C w hl [.int 2] (k_X7_many l D cI cS tys ht0 o (ct0 G) K h hn T tn f 2 ) gX7_doCut_X7_many rfl (by decide +kernel) ⟨Nat.le_of_ble_eq_true rfl, Nat.le_of_ble_eq_true rfl⟩ 0 7 rfl rfl rfl rfl (Nat.le_of_ble_eq_true rfl) [0, 1, 2, 3, 4] [] (by decide) rfl rfl (by decide) (by decide) [0, 1, 2, 3, 4] (by decide) rfl ⟨Nat.zero_le _, Nat.zero_le _⟩ dX7_doCut_98 (fun H locs w => ?_)
          refine x_top (y := (cutI G)) (nof_mN (ct1 G) 2).symm ?_
          refine lv_istore_n (lv' := [(1, .int (cutI G)), (0, .ref (o 0))]) hx hb dX7_doCut_101 rfl hl (by decide) rfl (fun ls hl => ?_)
          refine lv_aload_n hx hb dX7_doCut_102 rfl (lv_at hl 1 rfl) ?_
          refine x_get (v := .ref (o 1)) (T := TX7) C w 0 0 rfl rfl (fun _ h => List.mem_cons_of_mem _ (List.mem_append_right _ (h))) (List.mem_of_getElem? (i := 1) rfl) (by decide) rfl dX7_doCut_103 ?_
          refine lv_sipush (v := 169) hx hb dX7_doCut_106 (by decide +kernel) ?_
          refine lv_dup2_11 hx hb dX7_doCut_109 rfl rfl ?_
          refine x_iald (v := (ct0 G) 7 5) C w 1 0 (169) rfl ht0 rfl (by omega) (by decide) rfl dX7_doCut_110 ?_
          refine lv_iload_n hx hb dX7_doCut_111 rfl (lv_at hl 0 rfl) ?_
          refine lv_iadd (x := (ct0 G) 7 5) (y := (cutI G)) hx hb dX7_doCut_112 ?_
          refine x_iast (ws2 := mR cI o (fl (s2 (ct0 G) 7 5 (((ct0 G) 7 5) + (cutI G)))) K h hn T tn f) C w 1 0 (169) rfl ht0 rfl (by omega) (by decide) (congrArg (fun z => mR cI o z K h hn T tn f) (fl_u7 _ (i := 5) (by decide) _)) dX7_doCut_113 (fun H locs w => ?_)
          refine lv_aload_n hx hb dX7_doCut_114 rfl (lv_at hl 1 rfl) ?_
          refine lv_bipush (v := 6) hx hb dX7_doCut_115 (by decide +kernel) ?_
          refine x_callVv (wr := []) (w2 := mR cI o (fl (s2 (s2 (ct0 G) 7 5 (((ct0 G) 7 5) + (cutI G))) 7 6 ((ct0 G) 7 6 + 1))) K h hn T tn f) (rest := []) (n := 1) C w hl [.int 6] (k_X7_counts l D cI cS tys ht0 o (s2 (ct0 G) 7 5 (((ct0 G) 7 5) + (cutI G))) K h hn T tn f 6 (by decide)) gX7_doCut_X7_counts rfl (by decide +kernel) ⟨Nat.le_of_ble_eq_true rfl, Nat.le_of_ble_eq_true rfl⟩ 0 7 rfl rfl rfl rfl (Nat.le_of_ble_eq_true rfl) [0, 1, 2, 3, 4] [] (by decide) rfl rfl (by decide) (by decide) [0, 1, 2, 3, 4] (by decide) rfl ⟨Nat.zero_le _, Nat.zero_le _⟩ dX7_doCut_117 (fun H locs w => ?_)
          refine lv_aload_n hx hb dX7_doCut_120 rfl (lv_at hl 1 rfl) ?_
          refine x_get (v := .ref (o 1)) (T := TX7) C w 0 0 rfl rfl (fun _ h => List.mem_cons_of_mem _ (List.mem_append_right _ (h))) (List.mem_of_getElem? (i := 1) rfl) (by decide) rfl dX7_doCut_121 ?_
          refine lv_sipush (v := 162) hx hb dX7_doCut_124 (by decide +kernel) ?_
          refine lv_iconst (v := 0) hx hb dX7_doCut_127 (by decide +kernel) ?_
          refine x_iast (ws2 := mR cI o (fl (s2 (s2 (s2 (ct0 G) 7 5 (((ct0 G) 7 5) + (cutI G))) 7 6 ((ct0 G) 7 6 + 1)) 6 2 0)) K h hn T tn f) C w 1 0 (162) rfl ht0 rfl (by omega) (by decide) (congrArg (fun z => mR cI o z K h hn T tn f) (fl_u6 _ (i := 2) (by decide) _)) dX7_doCut_128 (fun H locs w => ?_)
          refine lv_iconst (v := 0) hx hb dX7_doCut_129 (by decide +kernel) ?_
          refine lv_istore_n (lv' := [(2, .int 0), (1, .int (cutI G)), (0, .ref (o 0))]) hx hb dX7_doCut_130 rfl hl (by decide) rfl (fun ls hl => ?_)
          have loop_131 : ∀ (n : Nat) (i : Nat), 8 - i < n → (i ≤ 8) → ∀ (H : Heap) (locs : List Loc), xW D A s.heap (mR cI o (fl (empG (s2 (s2 (s2 (ct0 G) 7 5 (ct0 G 7 5 + cutI G)) 7 6 (ct0 G 7 6 + 1)) 6 2 0) i)) K h hn T tn f) H locs → ∀ ls : Array Slot, lv_has ls 3 [(2, .int (nI i)), (1, .int (cutI G)), (0, .ref (o 0))] → W p l e (rmd 3) s m args below meth c H locs 0 0 (MQ below (xQi D tys (cutI G) (mR cI o (fl (cutG G)) K h hn T tn f) A) args s 0 0 A) (F0 m 131 ls []) := by
            intro n
            induction n with
            | zero => intro i hm; exact absurd hm (Nat.not_lt_zero _)
            | succ n ih =>
              intro i hm hi H locs w ls hl
              refine lv_iload_n hx hb dX7_doCut_131 rfl (lv_at hl 0 rfl) ?_
              refine lv_bipush (v := 8) hx hb dX7_doCut_132 (by decide +kernel) ?_
              refine x_icN_ge (i := i) (j := 8) (tgt := 154) hx hb (by omega) (by omega) dX7_doCut_134 (by decide) (fun c134_3 => ?_) (fun c134_3 => ?_)
              ·
                have hE : i = 8 := (by omega)
                refine lv_iload_n hx hb dX7_doCut_154 rfl (lv_at hl 1 rfl) ?_
                exact x_iret C w (by first | (rw [hE]; done) | (rw [hE]; rfl) | contradiction | (simp [c134_3, hE]; done) | rfl) (congrArg (fun z => mR cI o (fl z) K h hn T tn f) (by rw [hE]; exact cut_eq G)) dX7_doCut_155
              ·
                refine lv_aload_n hx hb dX7_doCut_137 rfl (lv_at hl 2 rfl) ?_
                refine x_get (v := .ref (o 1)) (T := TX7) C w 0 0 rfl rfl (fun _ h => List.mem_cons_of_mem _ (List.mem_append_right _ (h))) (List.mem_of_getElem? (i := 1) rfl) (by decide) rfl dX7_doCut_138 ?_
                refine lv_sipush (v := 128) hx hb dX7_doCut_141 (by decide +kernel) ?_
                refine lv_iload_n hx hb dX7_doCut_144 rfl (lv_at hl 0 rfl) ?_
                refine x_iaddN (i := 128) (j := i) hx hb dX7_doCut_145 ?_
                refine lv_iconst (v := 0) hx hb dX7_doCut_146 (by decide +kernel) ?_
                refine x_iast (ws2 := mR cI o (fl (s2 (empG (s2 (s2 (s2 (ct0 G) 7 5 (ct0 G 7 5 + cutI G)) 7 6 (ct0 G 7 6 + 1)) 6 2 0) i) 2 i 0)) K h hn T tn f) C w 1 0 (128 + i) rfl ht0 rfl (by omega) (by decide) (congrArg (fun z => mR cI o z K h hn T tn f) (fl_u2 _ (i := i) (by omega) _)) dX7_doCut_147 (fun H locs w => ?_)
                refine lv_iinc (v := nI (i + 1)) (lv' := [(2, .int (nI (i + 1))), (1, .int (cutI G)), (0, .ref (o 0))]) hx hb dX7_doCut_148 hl (k := 0) rfl (nI_add i 1) (by decide) rfl (fun ls hl => ?_)
                refine lv_goto (tgt := 131) hx hb dX7_doCut_151 (by decide) ?_
                have hl : lv_has ls 3 [(2, .int (nI (i + 1))), (1, .int (cutI G)), (0, .ref (o 0))] := lv_eqL (lv_sub (l' := [(2, .int (nI (i + 1))), (1, .int (cutI G)), (0, .ref (o 0))]) hl [0, 1, 2] rfl) (cg2 List.cons rfl (cg2 List.cons rfl (cg2 List.cons rfl rfl)))
                have w : xW D A s.heap (mR cI o (fl (empG (s2 (s2 (s2 (ct0 G) 7 5 (ct0 G 7 5 + cutI G)) 7 6 (ct0 G 7 6 + 1)) 6 2 0) (i + 1))) K h hn T tn f) _ _ := x_ws (congrArg (fun z => mR cI o (fl z) K h hn T tn f) rfl) w
                exact ih (i + 1) (by omega) (by omega) _ _ w _ hl
          have q4 : 0 = (nI 0 : Int32) := (by first | rfl | contradiction | (simp [c13_1, c57_2]; done))
          have hl : lv_has ls 3 [(2, .int (nI 0)), (1, .int (cutI G)), (0, .ref (o 0))] := lv_eqL (lv_sub (l' := [(2, .int 0), (1, .int (cutI G)), (0, .ref (o 0))]) hl [0, 1, 2] rfl) (cg2 List.cons (congrArg (fun z => ((2 : Nat), Value.int z)) q4) (cg2 List.cons rfl (cg2 List.cons rfl rfl)))
          have w : xW D A s.heap (mR cI o (fl (empG (s2 (s2 (s2 (ct0 G) 7 5 (ct0 G 7 5 + cutI G)) 7 6 (ct0 G 7 6 + 1)) 6 2 0) 0)) K h hn T tn f) _ _ := x_ws (congrArg (fun z => mR cI o (fl z) K h hn T tn f) rfl) w
          exact loop_131 (9) 0 (by omega) (by omega) _ _ w _ hl
        ·
          have hdv1 : i + 1 ≤ (c9 - k9) / a9 := (Nat.le_div_iff_mul_le (by omega)).mpr (by rw [Nat.succ_mul]; omega)
          refine lv_aload_n hx hb dX7_doCut_60 rfl (lv_at hl 0 rfl) ?_
          refine lv_iconst (v := 2) hx hb dX7_doCut_61 (by decide +kernel) ?_
          refine x_callVi (wr := []) (w2 := mR cI o (fl (s2 (flsG G i) 6 0 (nI r))) K h hn T tn f) (rest := []) (n := 1) C w hl [.int 2] (k_X7_many l D cI cS tys ht0 o (s2 (flsG G i) 6 0 (nI r)) K h hn T tn f 2 ) gX7_doCut_X7_many rfl (by decide +kernel) ⟨Nat.le_of_ble_eq_true rfl, Nat.le_of_ble_eq_true rfl⟩ 0 7 rfl rfl rfl rfl (Nat.le_of_ble_eq_true rfl) [0, 1, 2, 3, 4] [] (by decide) rfl rfl (by decide) (by decide) [0, 1, 2, 3, 4] (by decide) rfl ⟨Nat.zero_le _, Nat.zero_le _⟩ dX7_doCut_62 (fun H locs w => ?_)
          refine x_top (y := nI (mN G 2 - i)) (congrArg nI hm) ?_
          refine x_ifR_le (x := nI (mN G 2 - i)) (tgt := 96) hx hb dX7_doCut_65 (by decide) (fun c65_5 => ?_) (fun c65_5 => ?_)
          ·
            have hz0 := nI_nposI (by omega) c65_5
            have w : xW D A s.heap (mR cI o (fl (ct0 G)) K h hn T tn f) _ _ := x_ws (congrArg (fun z => mR cI o (fl z) K h hn T tn f) (by rw [ct0_eq hI hc9 ha91 ha9 hk9 e0 e1 e2 (n := i) (by omega), hr9]; rw [show c9 - k9 - i * a9 = c9 - (k9 + i * a9) by omega])) w
            refine lv_aload_n hx hb dX7_doCut_96 rfl (lv_at hl 0 rfl) ?_
            refine lv_iconst (v := 2) hx hb dX7_doCut_97 (by decide +kernel) ?_
            refine x_callVi (wr := []) (w2 := mR cI o (fl (ct0 G)) K h hn T tn f) (rest := []) (n := 1) C w hl [.int 2] (k_X7_many l D cI cS tys ht0 o (ct0 G) K h hn T tn f 2 ) gX7_doCut_X7_many rfl (by decide +kernel) ⟨Nat.le_of_ble_eq_true rfl, Nat.le_of_ble_eq_true rfl⟩ 0 7 rfl rfl rfl rfl (Nat.le_of_ble_eq_true rfl) [0, 1, 2, 3, 4] [] (by decide) rfl rfl (by decide) (by decide) [0, 1, 2, 3, 4] (by decide) rfl ⟨Nat.zero_le _, Nat.zero_le _⟩ dX7_doCut_98 (fun H locs w => ?_)
            refine x_top (y := (cutI G)) (nof_mN (ct1 G) 2).symm ?_
            refine lv_istore_n (lv' := [(1, .int (cutI G)), (0, .ref (o 0))]) hx hb dX7_doCut_101 rfl hl (by decide) rfl (fun ls hl => ?_)
            refine lv_aload_n hx hb dX7_doCut_102 rfl (lv_at hl 1 rfl) ?_
            refine x_get (v := .ref (o 1)) (T := TX7) C w 0 0 rfl rfl (fun _ h => List.mem_cons_of_mem _ (List.mem_append_right _ (h))) (List.mem_of_getElem? (i := 1) rfl) (by decide) rfl dX7_doCut_103 ?_
            refine lv_sipush (v := 169) hx hb dX7_doCut_106 (by decide +kernel) ?_
            refine lv_dup2_11 hx hb dX7_doCut_109 rfl rfl ?_
            refine x_iald (v := (ct0 G) 7 5) C w 1 0 (169) rfl ht0 rfl (by omega) (by decide) rfl dX7_doCut_110 ?_
            refine lv_iload_n hx hb dX7_doCut_111 rfl (lv_at hl 0 rfl) ?_
            refine lv_iadd (x := (ct0 G) 7 5) (y := (cutI G)) hx hb dX7_doCut_112 ?_
            refine x_iast (ws2 := mR cI o (fl (s2 (ct0 G) 7 5 (((ct0 G) 7 5) + (cutI G)))) K h hn T tn f) C w 1 0 (169) rfl ht0 rfl (by omega) (by decide) (congrArg (fun z => mR cI o z K h hn T tn f) (fl_u7 _ (i := 5) (by decide) _)) dX7_doCut_113 (fun H locs w => ?_)
            refine lv_aload_n hx hb dX7_doCut_114 rfl (lv_at hl 1 rfl) ?_
            refine lv_bipush (v := 6) hx hb dX7_doCut_115 (by decide +kernel) ?_
            refine x_callVv (wr := []) (w2 := mR cI o (fl (s2 (s2 (ct0 G) 7 5 (((ct0 G) 7 5) + (cutI G))) 7 6 ((ct0 G) 7 6 + 1))) K h hn T tn f) (rest := []) (n := 1) C w hl [.int 6] (k_X7_counts l D cI cS tys ht0 o (s2 (ct0 G) 7 5 (((ct0 G) 7 5) + (cutI G))) K h hn T tn f 6 (by decide)) gX7_doCut_X7_counts rfl (by decide +kernel) ⟨Nat.le_of_ble_eq_true rfl, Nat.le_of_ble_eq_true rfl⟩ 0 7 rfl rfl rfl rfl (Nat.le_of_ble_eq_true rfl) [0, 1, 2, 3, 4] [] (by decide) rfl rfl (by decide) (by decide) [0, 1, 2, 3, 4] (by decide) rfl ⟨Nat.zero_le _, Nat.zero_le _⟩ dX7_doCut_117 (fun H locs w => ?_)
            refine lv_aload_n hx hb dX7_doCut_120 rfl (lv_at hl 1 rfl) ?_
            refine x_get (v := .ref (o 1)) (T := TX7) C w 0 0 rfl rfl (fun _ h => List.mem_cons_of_mem _ (List.mem_append_right _ (h))) (List.mem_of_getElem? (i := 1) rfl) (by decide) rfl dX7_doCut_121 ?_
            refine lv_sipush (v := 162) hx hb dX7_doCut_124 (by decide +kernel) ?_
            refine lv_iconst (v := 0) hx hb dX7_doCut_127 (by decide +kernel) ?_
            refine x_iast (ws2 := mR cI o (fl (s2 (s2 (s2 (ct0 G) 7 5 (((ct0 G) 7 5) + (cutI G))) 7 6 ((ct0 G) 7 6 + 1)) 6 2 0)) K h hn T tn f) C w 1 0 (162) rfl ht0 rfl (by omega) (by decide) (congrArg (fun z => mR cI o z K h hn T tn f) (fl_u6 _ (i := 2) (by decide) _)) dX7_doCut_128 (fun H locs w => ?_)
            refine lv_iconst (v := 0) hx hb dX7_doCut_129 (by decide +kernel) ?_
            refine lv_istore_n (lv' := [(2, .int 0), (1, .int (cutI G)), (0, .ref (o 0))]) hx hb dX7_doCut_130 rfl hl (by decide) rfl (fun ls hl => ?_)
            have loop_131 : ∀ (n : Nat) (i : Nat), 8 - i < n → (i ≤ 8) → ∀ (H : Heap) (locs : List Loc), xW D A s.heap (mR cI o (fl (empG (s2 (s2 (s2 (ct0 G) 7 5 (ct0 G 7 5 + cutI G)) 7 6 (ct0 G 7 6 + 1)) 6 2 0) i)) K h hn T tn f) H locs → ∀ ls : Array Slot, lv_has ls 3 [(2, .int (nI i)), (1, .int (cutI G)), (0, .ref (o 0))] → W p l e (rmd 3) s m args below meth c H locs 0 0 (MQ below (xQi D tys (cutI G) (mR cI o (fl (cutG G)) K h hn T tn f) A) args s 0 0 A) (F0 m 131 ls []) := by
              intro n
              induction n with
              | zero => intro i hm; exact absurd hm (Nat.not_lt_zero _)
              | succ n ih =>
                intro i hm hi H locs w ls hl
                refine lv_iload_n hx hb dX7_doCut_131 rfl (lv_at hl 0 rfl) ?_
                refine lv_bipush (v := 8) hx hb dX7_doCut_132 (by decide +kernel) ?_
                refine x_icN_ge (i := i) (j := 8) (tgt := 154) hx hb (by omega) (by omega) dX7_doCut_134 (by decide) (fun c134_6 => ?_) (fun c134_6 => ?_)
                ·
                  have hE : i = 8 := (by omega)
                  refine lv_iload_n hx hb dX7_doCut_154 rfl (lv_at hl 1 rfl) ?_
                  exact x_iret C w (by first | (rw [hE]; done) | (rw [hE]; rfl) | contradiction | (simp [c134_6, hE]; done) | rfl) (congrArg (fun z => mR cI o (fl z) K h hn T tn f) (by rw [hE]; exact cut_eq G)) dX7_doCut_155
                ·
                  refine lv_aload_n hx hb dX7_doCut_137 rfl (lv_at hl 2 rfl) ?_
                  refine x_get (v := .ref (o 1)) (T := TX7) C w 0 0 rfl rfl (fun _ h => List.mem_cons_of_mem _ (List.mem_append_right _ (h))) (List.mem_of_getElem? (i := 1) rfl) (by decide) rfl dX7_doCut_138 ?_
                  refine lv_sipush (v := 128) hx hb dX7_doCut_141 (by decide +kernel) ?_
                  refine lv_iload_n hx hb dX7_doCut_144 rfl (lv_at hl 0 rfl) ?_
                  refine x_iaddN (i := 128) (j := i) hx hb dX7_doCut_145 ?_
                  refine lv_iconst (v := 0) hx hb dX7_doCut_146 (by decide +kernel) ?_
                  refine x_iast (ws2 := mR cI o (fl (s2 (empG (s2 (s2 (s2 (ct0 G) 7 5 (ct0 G 7 5 + cutI G)) 7 6 (ct0 G 7 6 + 1)) 6 2 0) i) 2 i 0)) K h hn T tn f) C w 1 0 (128 + i) rfl ht0 rfl (by omega) (by decide) (congrArg (fun z => mR cI o z K h hn T tn f) (fl_u2 _ (i := i) (by omega) _)) dX7_doCut_147 (fun H locs w => ?_)
                  refine lv_iinc (v := nI (i + 1)) (lv' := [(2, .int (nI (i + 1))), (1, .int (cutI G)), (0, .ref (o 0))]) hx hb dX7_doCut_148 hl (k := 0) rfl (nI_add i 1) (by decide) rfl (fun ls hl => ?_)
                  refine lv_goto (tgt := 131) hx hb dX7_doCut_151 (by decide) ?_
                  have hl : lv_has ls 3 [(2, .int (nI (i + 1))), (1, .int (cutI G)), (0, .ref (o 0))] := lv_eqL (lv_sub (l' := [(2, .int (nI (i + 1))), (1, .int (cutI G)), (0, .ref (o 0))]) hl [0, 1, 2] rfl) (cg2 List.cons rfl (cg2 List.cons rfl (cg2 List.cons rfl rfl)))
                  have w : xW D A s.heap (mR cI o (fl (empG (s2 (s2 (s2 (ct0 G) 7 5 (ct0 G 7 5 + cutI G)) 7 6 (ct0 G 7 6 + 1)) 6 2 0) (i + 1))) K h hn T tn f) _ _ := x_ws (congrArg (fun z => mR cI o (fl z) K h hn T tn f) rfl) w
                  exact ih (i + 1) (by omega) (by omega) _ _ w _ hl
            have q7 : 0 = (nI 0 : Int32) := (by first | rfl | contradiction | (simp [c13_1, c57_2, c65_5]; done))
            have hl : lv_has ls 3 [(2, .int (nI 0)), (1, .int (cutI G)), (0, .ref (o 0))] := lv_eqL (lv_sub (l' := [(2, .int 0), (1, .int (cutI G)), (0, .ref (o 0))]) hl [0, 1, 2] rfl) (cg2 List.cons (congrArg (fun z => ((2 : Nat), Value.int z)) q7) (cg2 List.cons rfl (cg2 List.cons rfl rfl)))
            have w : xW D A s.heap (mR cI o (fl (empG (s2 (s2 (s2 (ct0 G) 7 5 (ct0 G 7 5 + cutI G)) 7 6 (ct0 G 7 6 + 1)) 6 2 0) 0)) K h hn T tn f) _ _ := x_ws (congrArg (fun z => mR cI o (fl z) K h hn T tn f) rfl) w
            exact loop_131 (9) 0 (by omega) (by omega) _ _ w _ hl
          ·
            have hz1 := nI_posI (by omega) c65_5
            obtain ⟨l0, hl0, h20, e9⟩ := dirty_old (G := flsG G i) (by omega)
            have hIb : Inv (s2 (flsG G i) 6 0 (nI (r - a9))) := Inv_s60 hI1 ⟨_, by omega, rfl⟩
            have e9b : oldI (s2 (flsG G i) 6 0 (nI (r - a9))) 2 8 = nI l0 := (old_row rfl rfl 2 8).trans e9
            refine lv_aload_n hx hb dX7_doCut_68 rfl (lv_at hl 0 rfl) ?_
            refine x_get (v := .ref (o 1)) (T := TX7) C w 0 0 rfl rfl (fun _ h => List.mem_cons_of_mem _ (List.mem_append_right _ (h))) (List.mem_of_getElem? (i := 1) rfl) (by decide) rfl dX7_doCut_69 ?_
            refine lv_sipush (v := 160) hx hb dX7_doCut_72 (by decide +kernel) ?_
            refine lv_dup2_11 hx hb dX7_doCut_75 rfl rfl ?_
            refine x_iald (v := (nI r)) C w 1 0 (160) rfl ht0 rfl (by omega) (by decide) rfl dX7_doCut_76 ?_
            refine x_top (y := nI r) rfl ?_
            refine lv_aload_n hx hb dX7_doCut_77 rfl (lv_at hl 0 rfl) ?_
            refine lv_iconst (v := 0) hx hb dX7_doCut_78 (by decide +kernel) ?_
            refine x_callVi (wr := []) (w2 := mR cI o (fl (s2 (flsG G i) 6 0 (nI r))) K h hn T tn f) (rest := [.int (nI r), .int 160, .ref (o 1)]) (n := 1) C w hl [.int 0] (k_X7_setting l D cI cS tys ht0 o (s2 (flsG G i) 6 0 (nI r)) K h hn T tn f 0 (by decide)) gX7_doCut_X7_setting rfl (by decide +kernel) ⟨Nat.le_of_ble_eq_true rfl, Nat.le_of_ble_eq_true rfl⟩ 0 7 rfl rfl rfl rfl (Nat.le_of_ble_eq_true rfl) [0, 1, 2, 3, 4] [] (by decide) rfl rfl (by decide) (by decide) [0, 1, 2, 3, 4] (by decide) rfl ⟨Nat.zero_le _, Nat.zero_le _⟩ dX7_doCut_79 (fun H locs w => ?_)
            refine x_top (y := nI a9) ea8 ?_
            refine x_isubN (i := r) (j := a9) hx hb (by omega) dX7_doCut_82 ?_
            refine x_iast (ws2 := mR cI o (fl (s2 (s2 (flsG G i) 6 0 (nI r)) 6 0 (nI (r - a9)))) K h hn T tn f) C w 1 0 (160) rfl ht0 rfl (by omega) (by decide) (congrArg (fun z => mR cI o z K h hn T tn f) (fl_u6 _ (i := 0) (by decide) _)) dX7_doCut_83 (fun H locs w => ?_)
            have w : xW D A s.heap (mR cI o (fl (s2 (flsG G i) 6 0 (nI (r - a9)))) K h hn T tn f) _ _ := x_ws (congrArg (fun z => mR cI o (fl z) K h hn T tn f) (s2_s2 _ _ _ _ _)) w
            refine lv_aload_n hx hb dX7_doCut_84 rfl (lv_at hl 0 rfl) ?_
            refine lv_aload_n hx hb dX7_doCut_85 rfl (lv_at hl 0 rfl) ?_
            refine lv_iconst (v := 2) hx hb dX7_doCut_86 (by decide +kernel) ?_
            refine x_callVi (wr := []) (w2 := mR cI o (fl (s2 (flsG G i) 6 0 (nI (r - a9)))) K h hn T tn f) (rest := [.ref (o 0)]) (n := 1) C w hl [.int 2] (k_X7_oldest l D cI cS tys ht0 o (s2 (flsG G i) 6 0 (nI (r - a9))) K h hn T tn f 2 ) gX7_doCut_X7_oldest rfl (by decide +kernel) ⟨Nat.le_of_ble_eq_true rfl, Nat.le_of_ble_eq_true rfl⟩ 0 7 rfl rfl rfl rfl (Nat.le_of_ble_eq_true rfl) [0, 1, 2, 3, 4] [] (by decide) rfl rfl (by decide) (by decide) [0, 1, 2, 3, 4] (by decide) rfl ⟨Nat.zero_le _, Nat.zero_le _⟩ dX7_doCut_87 (fun H locs w => ?_)
            refine x_top (y := nI l0) e9b ?_
            refine x_callVv (wr := []) (w2 := mR cI o (fl (fluG (s2 (flsG G i) 6 0 (nI (r - a9))) (nI l0))) K h hn T tn f) (rest := []) (n := 1) C w hl [.int (nI l0)] (k_X7_flushes l D cI cS tys ht0 o (s2 (flsG G i) 6 0 (nI (r - a9))) K h hn T tn f l0 hl0 h20 hIb) gX7_doCut_X7_flushes rfl (by decide +kernel) ⟨Nat.le_of_ble_eq_true rfl, Nat.le_of_ble_eq_true rfl⟩ 0 7 rfl rfl rfl rfl (Nat.le_of_ble_eq_true rfl) [0, 1, 2, 3, 4] [] (by decide) rfl rfl (by decide) (by decide) [0, 1, 2, 3, 4] (by decide) rfl ⟨Nat.zero_le _, Nat.zero_le _⟩ dX7_doCut_90 (fun H locs w => ?_)
            refine lv_goto (tgt := 44) hx hb dX7_doCut_93 (by decide) ?_
            have hl : lv_has ls 3 [(0, .ref (o 0))] := lv_eqL (lv_sub (l' := [(0, .ref (o 0))]) hl [0] rfl) (cg2 List.cons rfl rfl)
            have w : xW D A s.heap (mR cI o (fl (s2 (flsG G (i + 1)) 6 0 (nI (r - a9)))) K h hn T tn f) _ _ := x_ws (congrArg (fun z => mR cI o (fl z) K h hn T tn f) (by show fluG _ (nI l0) = s2 (fluG (flsG G i) (oldI (flsG G i) 2 8)) 6 0 _; rw [flu_s6, e9])) w
            exact ih (i + 1) (r - a9) (by omega) (by omega) (by rw [hr9, Nat.succ_mul]; omega) hck _ _ w _ hl
    have hl : lv_has ls 3 [(0, .ref (o 0))] := lv_eqL (lv_sub (l' := [(0, .ref (o 0))]) hl [0] rfl) (cg2 List.cons rfl rfl)
    have w : xW D A s.heap (mR cI o (fl (s2 (flsG G 0) 6 0 (nI (c9 - k9)))) K h hn T tn f) _ _ := x_ws (congrArg (fun z => mR cI o (fl z) K h hn T tn f) rfl) w
    exact loop_44 (mN G 2 + 1) 0 (c9 - k9) (by omega) (Nat.zero_le _) (by rw [Nat.zero_mul, Nat.sub_zero]) c13_1 _ _ w _ hl
  ·
    have hs0 : sN c9 k9 a9 = 0 := by unfold sN; rw [if_pos c13_1]
    refine lv_aload_n hx hb dX7_doCut_16 rfl (lv_at hl 0 rfl) ?_
    refine x_get (v := .ref (o 1)) (T := TX7) C w 0 0 rfl rfl (fun _ h => List.mem_cons_of_mem _ (List.mem_append_right _ (h))) (List.mem_of_getElem? (i := 1) rfl) (by decide) rfl dX7_doCut_17 ?_
    refine lv_sipush (v := 160) hx hb dX7_doCut_20 (by decide +kernel) ?_
    refine lv_iconst (v := 0) hx hb dX7_doCut_23 (by decide +kernel) ?_
    refine x_iast (ws2 := mR cI o (fl (s2 G 6 0 0)) K h hn T tn f) C w 1 0 (160) rfl ht0 rfl (by omega) (by decide) (congrArg (fun z => mR cI o z K h hn T tn f) (fl_u6 _ (i := 0) (by decide) _)) dX7_doCut_24 (fun H locs w => ?_)
    refine lv_goto (tgt := 96) hx hb dX7_doCut_25 (by decide) ?_
    have w : xW D A s.heap (mR cI o (fl (ct0 G)) K h hn T tn f) _ _ := x_ws (congrArg (fun z => mR cI o (fl z) K h hn T tn f) (by rw [ct0_eq hI hc9 ha91 ha9 hk9 e0 e1 e2 (n := 0) (by rw [hs0, Nat.min_zero]), Nat.zero_mul, Nat.add_zero, show c9 - k9 = 0 by omega]; rfl)) w
    refine lv_aload_n hx hb dX7_doCut_96 rfl (lv_at hl 0 rfl) ?_
    refine lv_iconst (v := 2) hx hb dX7_doCut_97 (by decide +kernel) ?_
    refine x_callVi (wr := []) (w2 := mR cI o (fl (ct0 G)) K h hn T tn f) (rest := []) (n := 1) C w hl [.int 2] (k_X7_many l D cI cS tys ht0 o (ct0 G) K h hn T tn f 2 ) gX7_doCut_X7_many rfl (by decide +kernel) ⟨Nat.le_of_ble_eq_true rfl, Nat.le_of_ble_eq_true rfl⟩ 0 7 rfl rfl rfl rfl (Nat.le_of_ble_eq_true rfl) [0, 1, 2, 3, 4] [] (by decide) rfl rfl (by decide) (by decide) [0, 1, 2, 3, 4] (by decide) rfl ⟨Nat.zero_le _, Nat.zero_le _⟩ dX7_doCut_98 (fun H locs w => ?_)
    refine x_top (y := (cutI G)) (nof_mN (ct1 G) 2).symm ?_
    refine lv_istore_n (lv' := [(1, .int (cutI G)), (0, .ref (o 0))]) hx hb dX7_doCut_101 rfl hl (by decide) rfl (fun ls hl => ?_)
    refine lv_aload_n hx hb dX7_doCut_102 rfl (lv_at hl 1 rfl) ?_
    refine x_get (v := .ref (o 1)) (T := TX7) C w 0 0 rfl rfl (fun _ h => List.mem_cons_of_mem _ (List.mem_append_right _ (h))) (List.mem_of_getElem? (i := 1) rfl) (by decide) rfl dX7_doCut_103 ?_
    refine lv_sipush (v := 169) hx hb dX7_doCut_106 (by decide +kernel) ?_
    refine lv_dup2_11 hx hb dX7_doCut_109 rfl rfl ?_
    refine x_iald (v := (ct0 G) 7 5) C w 1 0 (169) rfl ht0 rfl (by omega) (by decide) rfl dX7_doCut_110 ?_
    refine lv_iload_n hx hb dX7_doCut_111 rfl (lv_at hl 0 rfl) ?_
    refine lv_iadd (x := (ct0 G) 7 5) (y := (cutI G)) hx hb dX7_doCut_112 ?_
    refine x_iast (ws2 := mR cI o (fl (s2 (ct0 G) 7 5 (((ct0 G) 7 5) + (cutI G)))) K h hn T tn f) C w 1 0 (169) rfl ht0 rfl (by omega) (by decide) (congrArg (fun z => mR cI o z K h hn T tn f) (fl_u7 _ (i := 5) (by decide) _)) dX7_doCut_113 (fun H locs w => ?_)
    refine lv_aload_n hx hb dX7_doCut_114 rfl (lv_at hl 1 rfl) ?_
    refine lv_bipush (v := 6) hx hb dX7_doCut_115 (by decide +kernel) ?_
    refine x_callVv (wr := []) (w2 := mR cI o (fl (s2 (s2 (ct0 G) 7 5 (((ct0 G) 7 5) + (cutI G))) 7 6 ((ct0 G) 7 6 + 1))) K h hn T tn f) (rest := []) (n := 1) C w hl [.int 6] (k_X7_counts l D cI cS tys ht0 o (s2 (ct0 G) 7 5 (((ct0 G) 7 5) + (cutI G))) K h hn T tn f 6 (by decide)) gX7_doCut_X7_counts rfl (by decide +kernel) ⟨Nat.le_of_ble_eq_true rfl, Nat.le_of_ble_eq_true rfl⟩ 0 7 rfl rfl rfl rfl (Nat.le_of_ble_eq_true rfl) [0, 1, 2, 3, 4] [] (by decide) rfl rfl (by decide) (by decide) [0, 1, 2, 3, 4] (by decide) rfl ⟨Nat.zero_le _, Nat.zero_le _⟩ dX7_doCut_117 (fun H locs w => ?_)
    refine lv_aload_n hx hb dX7_doCut_120 rfl (lv_at hl 1 rfl) ?_
    refine x_get (v := .ref (o 1)) (T := TX7) C w 0 0 rfl rfl (fun _ h => List.mem_cons_of_mem _ (List.mem_append_right _ (h))) (List.mem_of_getElem? (i := 1) rfl) (by decide) rfl dX7_doCut_121 ?_
    refine lv_sipush (v := 162) hx hb dX7_doCut_124 (by decide +kernel) ?_
    refine lv_iconst (v := 0) hx hb dX7_doCut_127 (by decide +kernel) ?_
    refine x_iast (ws2 := mR cI o (fl (s2 (s2 (s2 (ct0 G) 7 5 (((ct0 G) 7 5) + (cutI G))) 7 6 ((ct0 G) 7 6 + 1)) 6 2 0)) K h hn T tn f) C w 1 0 (162) rfl ht0 rfl (by omega) (by decide) (congrArg (fun z => mR cI o z K h hn T tn f) (fl_u6 _ (i := 2) (by decide) _)) dX7_doCut_128 (fun H locs w => ?_)
    refine lv_iconst (v := 0) hx hb dX7_doCut_129 (by decide +kernel) ?_
    refine lv_istore_n (lv' := [(2, .int 0), (1, .int (cutI G)), (0, .ref (o 0))]) hx hb dX7_doCut_130 rfl hl (by decide) rfl (fun ls hl => ?_)
    have loop_131 : ∀ (n : Nat) (i : Nat), 8 - i < n → (i ≤ 8) → ∀ (H : Heap) (locs : List Loc), xW D A s.heap (mR cI o (fl (empG (s2 (s2 (s2 (ct0 G) 7 5 (ct0 G 7 5 + cutI G)) 7 6 (ct0 G 7 6 + 1)) 6 2 0) i)) K h hn T tn f) H locs → ∀ ls : Array Slot, lv_has ls 3 [(2, .int (nI i)), (1, .int (cutI G)), (0, .ref (o 0))] → W p l e (rmd 3) s m args below meth c H locs 0 0 (MQ below (xQi D tys (cutI G) (mR cI o (fl (cutG G)) K h hn T tn f) A) args s 0 0 A) (F0 m 131 ls []) := by
      intro n
      induction n with
      | zero => intro i hm; exact absurd hm (Nat.not_lt_zero _)
      | succ n ih =>
        intro i hm hi H locs w ls hl
        refine lv_iload_n hx hb dX7_doCut_131 rfl (lv_at hl 0 rfl) ?_
        refine lv_bipush (v := 8) hx hb dX7_doCut_132 (by decide +kernel) ?_
        refine x_icN_ge (i := i) (j := 8) (tgt := 154) hx hb (by omega) (by omega) dX7_doCut_134 (by decide) (fun c134_8 => ?_) (fun c134_8 => ?_)
        ·
          have hE : i = 8 := (by omega)
          refine lv_iload_n hx hb dX7_doCut_154 rfl (lv_at hl 1 rfl) ?_
          exact x_iret C w (by first | (rw [hE]; done) | (rw [hE]; rfl) | contradiction | (simp [c134_8, hE]; done) | rfl) (congrArg (fun z => mR cI o (fl z) K h hn T tn f) (by rw [hE]; exact cut_eq G)) dX7_doCut_155
        ·
          refine lv_aload_n hx hb dX7_doCut_137 rfl (lv_at hl 2 rfl) ?_
          refine x_get (v := .ref (o 1)) (T := TX7) C w 0 0 rfl rfl (fun _ h => List.mem_cons_of_mem _ (List.mem_append_right _ (h))) (List.mem_of_getElem? (i := 1) rfl) (by decide) rfl dX7_doCut_138 ?_
          refine lv_sipush (v := 128) hx hb dX7_doCut_141 (by decide +kernel) ?_
          refine lv_iload_n hx hb dX7_doCut_144 rfl (lv_at hl 0 rfl) ?_
          refine x_iaddN (i := 128) (j := i) hx hb dX7_doCut_145 ?_
          refine lv_iconst (v := 0) hx hb dX7_doCut_146 (by decide +kernel) ?_
          refine x_iast (ws2 := mR cI o (fl (s2 (empG (s2 (s2 (s2 (ct0 G) 7 5 (ct0 G 7 5 + cutI G)) 7 6 (ct0 G 7 6 + 1)) 6 2 0) i) 2 i 0)) K h hn T tn f) C w 1 0 (128 + i) rfl ht0 rfl (by omega) (by decide) (congrArg (fun z => mR cI o z K h hn T tn f) (fl_u2 _ (i := i) (by omega) _)) dX7_doCut_147 (fun H locs w => ?_)
          refine lv_iinc (v := nI (i + 1)) (lv' := [(2, .int (nI (i + 1))), (1, .int (cutI G)), (0, .ref (o 0))]) hx hb dX7_doCut_148 hl (k := 0) rfl (nI_add i 1) (by decide) rfl (fun ls hl => ?_)
          refine lv_goto (tgt := 131) hx hb dX7_doCut_151 (by decide) ?_
          have hl : lv_has ls 3 [(2, .int (nI (i + 1))), (1, .int (cutI G)), (0, .ref (o 0))] := lv_eqL (lv_sub (l' := [(2, .int (nI (i + 1))), (1, .int (cutI G)), (0, .ref (o 0))]) hl [0, 1, 2] rfl) (cg2 List.cons rfl (cg2 List.cons rfl (cg2 List.cons rfl rfl)))
          have w : xW D A s.heap (mR cI o (fl (empG (s2 (s2 (s2 (ct0 G) 7 5 (ct0 G 7 5 + cutI G)) 7 6 (ct0 G 7 6 + 1)) 6 2 0) (i + 1))) K h hn T tn f) _ _ := x_ws (congrArg (fun z => mR cI o (fl z) K h hn T tn f) rfl) w
          exact ih (i + 1) (by omega) (by omega) _ _ w _ hl
    have q9 : 0 = (nI 0 : Int32) := (by first | rfl | contradiction | (simp [c13_1]; done))
    have hl : lv_has ls 3 [(2, .int (nI 0)), (1, .int (cutI G)), (0, .ref (o 0))] := lv_eqL (lv_sub (l' := [(2, .int 0), (1, .int (cutI G)), (0, .ref (o 0))]) hl [0, 1, 2] rfl) (cg2 List.cons (congrArg (fun z => ((2 : Nat), Value.int z)) q9) (cg2 List.cons rfl (cg2 List.cons rfl rfl)))
    have w : xW D A s.heap (mR cI o (fl (empG (s2 (s2 (s2 (ct0 G) 7 5 (ct0 G 7 5 + cutI G)) 7 6 (ct0 G 7 6 + 1)) 6 2 0) 0)) K h hn T tn f) _ _ := x_ws (congrArg (fun z => mR cI o (fl z) K h hn T tn f) rfl) w
    exact loop_131 (9) 0 (by omega) (by omega) _ _ w _ hl
set_option maxHeartbeats 1000000 in
set_option maxRecDepth 100000 in
theorem k_X7_doFlush (l : Launch) (D : va_G) (cI cS : ClassId) (tys : List (ClassId × FieldType)) (ht0 : tys[0]? = some (cI, .int)) (o : Nat → Nat) (G : St) (K : Nat → Int32) (h : Nat → Int32) (hn : Int32) (T : Nat → Int32) (tn : Int32) (f : Nat → Int32) (l1 : Nat) (hl1 : l1 < 8) (h2 : G 2 l1 = 2) (hI : Inv G) : xI l yX7_doFlush wsX7_doFlush 3 D tys [.ref (o 0), .int (nI l1)] (mR cI o (fl G) K h hn T tn f) (nofI (fluG G (nI l1)) 2) (mR cI o (fl (fluG G (nI l1))) K h hn T tn f) := by
  refine x_inI (cc := cX7_doFlush) (maxL := 2) (ret := (some .int)) (by decide) rfl (Nat.le_of_ble_eq_true rfl) ?_
  intro p e s m args below meth c A ls C w hl
  have C : xC p s m meth c args cX7_doFlush 2 wsX7_doFlush RX7 D tys (some .int) := C
  have hx := C.1.1
  have hb := C.1.2.1
  have hts := C.1.2.2.2.2
  have hown := C.1.2.2.2.1
  have w : xW D A s.heap (mR cI o (fl G) K h hn T tn f) s.heap [] := w
  have hl : lv_has ls 2 [(0, .ref (o 0)), (1, .int (nI l1))] := hl
  refine lv_iload_n hx hb dX7_doFlush_0 rfl (lv_at hl 1 rfl) ?_
  refine x_callSi (wr := mR cI o (fl G) K h hn T tn f) (w2 := mR cI o (fl G) K h hn T tn f) (rest := []) (n := 1) C w hl [.int (nI l1)] (k_X7_isLine l D cI cS tys ht0 (nI l1) ) gX7_doFlush_X7_isLine rfl (by decide +kernel) ⟨Nat.le_of_ble_eq_true rfl, Nat.le_of_ble_eq_true rfl⟩ rfl rfl (Nat.le_of_ble_eq_true rfl) [] [0, 1, 2, 3, 4] (by decide) rfl rfl (by decide) (by decide) [0, 1, 2, 3, 4] (by decide) rfl ⟨Nat.zero_le _, Nat.zero_le _⟩ dX7_doFlush_1 (fun H locs w => ?_)
  refine x_ifB_ne (P := rg (nI l1) 8 = true) (tgt := 10) hx hb dX7_doFlush_4 (by decide) (fun c4_1 => ?_) (fun c4_1 => ?_)
  ·
    refine lv_aload_n hx hb dX7_doFlush_10 rfl (lv_at hl 0 rfl) ?_
    refine x_get (v := .ref (o 1)) (T := TX7) C w 0 0 rfl rfl (fun _ h => List.mem_cons_of_mem _ (List.mem_append_right _ (h))) (List.mem_of_getElem? (i := 2) rfl) (by decide) rfl dX7_doFlush_11 ?_
    refine lv_sipush (v := 128) hx hb dX7_doFlush_14 (by decide +kernel) ?_
    refine lv_iload_n hx hb dX7_doFlush_17 rfl (lv_at hl 1 rfl) ?_
    refine x_iaddN (i := 128) (j := l1) hx hb dX7_doFlush_18 ?_
    refine x_iald (v := G 2 l1) C w 1 0 (128 + l1) rfl ht0 rfl (by omega) (by decide) (fl_r2 _ (by omega)) dX7_doFlush_19 ?_
    refine lv_iconst (v := 2) hx hb dX7_doFlush_20 (by decide +kernel) ?_
    refine x_icR_eq (x := G 2 l1) (y := 2) (tgt := 27) hx hb dX7_doFlush_21 (by decide) (fun c21_2 => ?_) (fun c21_2 => ?_)
    ·
      refine lv_aload_n hx hb dX7_doFlush_27 rfl (lv_at hl 0 rfl) ?_
      refine lv_iload_n hx hb dX7_doFlush_28 rfl (lv_at hl 1 rfl) ?_
      refine x_callVv (wr := []) (w2 := mR cI o (fl (fluG G (nI l1))) K h hn T tn f) (rest := []) (n := 1) C w hl [.int (nI l1)] (k_X7_flushes l D cI cS tys ht0 o G K h hn T tn f l1 hl1 h2 hI) gX7_doFlush_X7_flushes rfl (by decide +kernel) ⟨Nat.le_of_ble_eq_true rfl, Nat.le_of_ble_eq_true rfl⟩ 0 7 rfl rfl rfl rfl (Nat.le_of_ble_eq_true rfl) [0, 1, 2, 3, 4] [] (by decide) rfl rfl (by decide) (by decide) [0, 1, 2, 3, 4] (by decide) rfl ⟨Nat.zero_le _, Nat.zero_le _⟩ dX7_doFlush_29 (fun H locs w => ?_)
      refine lv_aload_n hx hb dX7_doFlush_32 rfl (lv_at hl 0 rfl) ?_
      refine lv_iconst (v := 2) hx hb dX7_doFlush_33 (by decide +kernel) ?_
      refine x_callVi (wr := []) (w2 := mR cI o (fl (fluG G (nI l1))) K h hn T tn f) (rest := []) (n := 1) C w hl [.int 2] (k_X7_many l D cI cS tys ht0 o (fluG G (nI l1)) K h hn T tn f 2 ) gX7_doFlush_X7_many rfl (by decide +kernel) ⟨Nat.le_of_ble_eq_true rfl, Nat.le_of_ble_eq_true rfl⟩ 0 7 rfl rfl rfl rfl (Nat.le_of_ble_eq_true rfl) [0, 1, 2, 3, 4] [] (by decide) rfl rfl (by decide) (by decide) [0, 1, 2, 3, 4] (by decide) rfl ⟨Nat.zero_le _, Nat.zero_le _⟩ dX7_doFlush_34 (fun H locs w => ?_)
      exact x_iret C w (nof_mN _ _).symm rfl dX7_doFlush_37
    ·
      exact absurd h2 c21_2
  ·
    exact absurd (rg_nI (n := 8) (b := 8) rfl hl1 (by decide)) c4_1
set_option maxHeartbeats 1000000 in
set_option maxRecDepth 100000 in
theorem k_X7_doRead (l : Launch) (D : va_G) (cI cS : ClassId) (tys : List (ClassId × FieldType)) (ht0 : tys[0]? = some (cI, .int)) (o : Nat → Nat) (G : St) (K : Nat → Int32) (h : Nat → Int32) (hn : Int32) (T : Nat → Int32) (tn : Int32) (f : Nat → Int32) (pl : Nat) (hp : pl < 64) (hI : Inv G) : xI l yX7_doRead wsX7_doRead 4 D tys [.ref (o 0), .int (nI pl)] (mR cI o (fl G) K h hn T tn f) (rdpI G (nI pl)) (mR cI o (fl (lnfG G (nI pl))) K h hn T tn f) := by
  refine x_inI (cc := cX7_doRead) (maxL := 2) (ret := (some .int)) (by decide) rfl (Nat.le_of_ble_eq_true rfl) ?_
  intro p e s m args below meth c A ls C w hl
  have C : xC p s m meth c args cX7_doRead 2 wsX7_doRead RX7 D tys (some .int) := C
  have hx := C.1.1
  have hb := C.1.2.1
  have hts := C.1.2.2.2.2
  have hown := C.1.2.2.2.1
  have w : xW D A s.heap (mR cI o (fl G) K h hn T tn f) s.heap [] := w
  have hl : lv_has ls 2 [(0, .ref (o 0)), (1, .int (nI pl))] := hl
  obtain ⟨l0, hl0, el, hI2⟩ := lnf_ok hI hp
  refine lv_iload_n hx hb dX7_doRead_0 rfl (lv_at hl 1 rfl) ?_
  refine x_callSi (wr := mR cI o (fl G) K h hn T tn f) (w2 := mR cI o (fl G) K h hn T tn f) (rest := []) (n := 1) C w hl [.int (nI pl)] (k_X7_isPlace l D cI cS tys ht0 (nI pl) ) gX7_doRead_X7_isPlace rfl (by decide +kernel) ⟨Nat.le_of_ble_eq_true rfl, Nat.le_of_ble_eq_true rfl⟩ rfl rfl (Nat.le_of_ble_eq_true rfl) [] [0, 1, 2, 3, 4] (by decide) rfl rfl (by decide) (by decide) [0, 1, 2, 3, 4] (by decide) rfl ⟨Nat.zero_le _, Nat.zero_le _⟩ dX7_doRead_1 (fun H locs w => ?_)
  refine x_ifB_eq (P := rg (nI pl) 64 = true) (tgt := 24) hx hb dX7_doRead_4 (by decide) (fun c4_1 => ?_) (fun c4_1 => ?_)
  ·
    exact absurd (rg_nI (n := 64) (b := 64) rfl hp (by decide)) c4_1
  ·
    refine lv_aload_n hx hb dX7_doRead_7 rfl (lv_at hl 0 rfl) ?_
    refine x_get (v := .ref (o 1)) (T := TX7) C w 0 0 rfl rfl (fun _ h => List.mem_cons_of_mem _ (List.mem_append_right _ (h))) (List.mem_of_getElem? (i := 1) rfl) (by decide) rfl dX7_doRead_8 ?_
    refine lv_sipush (v := 144) hx hb dX7_doRead_11 (by decide +kernel) ?_
    refine lv_aload_n hx hb dX7_doRead_14 rfl (lv_at hl 0 rfl) ?_
    refine lv_iload_n hx hb dX7_doRead_15 rfl (lv_at hl 1 rfl) ?_
    refine x_callVi (wr := []) (w2 := mR cI o (fl (lnfG G (nI pl))) K h hn T tn f) (rest := [.int 144, .ref (o 1)]) (n := 1) C w hl [.int (nI pl)] (k_X7_touches l D cI cS tys ht0 o G K h hn T tn f pl hp hI) gX7_doRead_X7_touches rfl (by decide +kernel) ⟨Nat.le_of_ble_eq_true rfl, Nat.le_of_ble_eq_true rfl⟩ 0 7 rfl rfl rfl rfl (Nat.le_of_ble_eq_true rfl) [0, 1, 2, 3, 4] [] (by decide) rfl rfl (by decide) (by decide) [0, 1, 2, 3, 4] (by decide) rfl ⟨Nat.zero_le _, Nat.zero_le _⟩ dX7_doRead_16 (fun H locs w => ?_)
    refine x_top (y := nI l0) el ?_
    refine x_iaddN (i := 144) (j := l0) hx hb dX7_doRead_19 ?_
    refine x_iald (v := (lnfG G (nI pl)) 4 l0) C w 1 0 (144 + l0) rfl ht0 rfl (by omega) (by decide) (fl_r4 _ (by omega)) dX7_doRead_20 ?_
    refine lv_goto (tgt := 26) hx hb dX7_doRead_21 (by decide) ?_
    exact x_iret C w (by unfold rdpI; rw [el, if_pos (rg_nI (n := 8) (b := 8) rfl hl0 (by decide)), ix_nI (by omega)]) rfl dX7_doRead_26
set_option maxHeartbeats 1000000 in
set_option maxRecDepth 100000 in
theorem k_X7_doWrite (l : Launch) (D : va_G) (cI cS : ClassId) (tys : List (ClassId × FieldType)) (ht0 : tys[0]? = some (cI, .int)) (o : Nat → Nat) (G : St) (K : Nat → Int32) (h : Nat → Int32) (hn : Int32) (T : Nat → Int32) (tn : Int32) (f : Nat → Int32) (pl : Nat) (v : Int32) (hp : pl < 64) (hv : wth v 0 999 = true) (hI : Inv G) : xI l yX7_doWrite wsX7_doWrite 4 D tys [.ref (o 0), .int (nI pl), .int v] (mR cI o (fl G) K h hn T tn f) (wptI G (nI pl) v) (mR cI o (fl (wptG G (nI pl) v)) K h hn T tn f) := by
  refine x_inI (cc := cX7_doWrite) (maxL := 4) (ret := (some .int)) (by decide) rfl (Nat.le_of_ble_eq_true rfl) ?_
  intro p e s m args below meth c A ls C w hl
  have C : xC p s m meth c args cX7_doWrite 4 wsX7_doWrite RX7 D tys (some .int) := C
  have hx := C.1.1
  have hb := C.1.2.1
  have hts := C.1.2.2.2.2
  have hown := C.1.2.2.2.1
  have w : xW D A s.heap (mR cI o (fl G) K h hn T tn f) s.heap [] := w
  have hl : lv_has ls 4 [(0, .ref (o 0)), (1, .int (nI pl)), (2, .int v)] := hl
  obtain ⟨l0, hl0, el, hI2⟩ := lnf_ok hI hp
  have hr0 : rg (nI l0) 8 = true := rg_nI (n := 8) (b := 8) rfl hl0 (by decide)
  have hv9 : vN 999 v := wth_vN (lo := 0) (hi := 999) (n := 999) (by decide) rfl (by decide) hv
  refine lv_iload_n hx hb dX7_doWrite_0 rfl (lv_at hl 1 rfl) ?_
  refine x_callSi (wr := mR cI o (fl G) K h hn T tn f) (w2 := mR cI o (fl G) K h hn T tn f) (rest := []) (n := 1) C w hl [.int (nI pl)] (k_X7_isPlace l D cI cS tys ht0 (nI pl) ) gX7_doWrite_X7_isPlace rfl (by decide +kernel) ⟨Nat.le_of_ble_eq_true rfl, Nat.le_of_ble_eq_true rfl⟩ rfl rfl (Nat.le_of_ble_eq_true rfl) [] [0, 1, 2, 3, 4] (by decide) rfl rfl (by decide) (by decide) [0, 1, 2, 3, 4] (by decide) rfl ⟨Nat.zero_le _, Nat.zero_le _⟩ dX7_doWrite_1 (fun H locs w => ?_)
  refine x_ifB_eq (P := rg (nI pl) 64 = true) (tgt := 19) hx hb dX7_doWrite_4 (by decide) (fun c4_1 => ?_) (fun c4_1 => ?_)
  ·
    exact absurd (rg_nI (n := 64) (b := 64) rfl hp (by decide)) c4_1
  ·
    refine lv_iload_n hx hb dX7_doWrite_7 rfl (lv_at hl 2 rfl) ?_
    refine lv_i2l (v := Int32.toInt64 v) hx hb dX7_doWrite_8 rfl ?_
    refine lv_lconst (v := 0) hx hb dX7_doWrite_9 (by decide +kernel) ?_
    refine lv_ldc2 (v := 999) hx hb hown (hts _ (List.mem_of_getElem? (i := 1) rfl)) dX7_doWrite_10 ?_
    refine x_callSi (wr := mR cI o (fl G) K h hn T tn f) (w2 := mR cI o (fl G) K h hn T tn f) (rest := []) (n := 3) C w hl [.long (Int32.toInt64 v), .long 0, .long 999] (k_X7_in l D cI cS tys ht0 (Int32.toInt64 v) 0 999 ) gX7_doWrite_X7_in rfl (by decide +kernel) ⟨Nat.le_of_ble_eq_true rfl, Nat.le_of_ble_eq_true rfl⟩ rfl rfl (Nat.le_of_ble_eq_true rfl) [] [0, 1, 2, 3, 4] (by decide) rfl rfl (by decide) (by decide) [0, 1, 2, 3, 4] (by decide) rfl ⟨Nat.zero_le _, Nat.zero_le _⟩ dX7_doWrite_13 (fun H locs w => ?_)
    refine x_top (y := bI (wth v 0 999 = true)) (bI_c (lg_wth v 0 999 (by decide) (by decide))) ?_
    refine x_ifB_ne (P := wth v 0 999 = true) (tgt := 22) hx hb dX7_doWrite_16 (by decide) (fun c16_2 => ?_) (fun c16_2 => ?_)
    ·
      refine lv_aload_n hx hb dX7_doWrite_22 rfl (lv_at hl 0 rfl) ?_
      refine lv_iload_n hx hb dX7_doWrite_23 rfl (lv_at hl 1 rfl) ?_
      refine x_callVi (wr := []) (w2 := mR cI o (fl (lnfG G (nI pl))) K h hn T tn f) (rest := []) (n := 1) C w hl [.int (nI pl)] (k_X7_touches l D cI cS tys ht0 o G K h hn T tn f pl hp hI) gX7_doWrite_X7_touches rfl (by decide +kernel) ⟨Nat.le_of_ble_eq_true rfl, Nat.le_of_ble_eq_true rfl⟩ 0 7 rfl rfl rfl rfl (Nat.le_of_ble_eq_true rfl) [0, 1, 2, 3, 4] [] (by decide) rfl rfl (by decide) (by decide) [0, 1, 2, 3, 4] (by decide) rfl ⟨Nat.zero_le _, Nat.zero_le _⟩ dX7_doWrite_24 (fun H locs w => ?_)
      refine x_top (y := nI l0) el ?_
      refine lv_istore_n (lv' := [(3, .int (nI l0)), (0, .ref (o 0)), (1, .int (nI pl)), (2, .int v)]) hx hb dX7_doWrite_27 rfl hl (by decide) rfl (fun ls hl => ?_)
      refine lv_aload_n hx hb dX7_doWrite_28 rfl (lv_at hl 1 rfl) ?_
      refine x_get (v := .ref (o 1)) (T := TX7) C w 0 0 rfl rfl (fun _ h => List.mem_cons_of_mem _ (List.mem_append_right _ (h))) (List.mem_of_getElem? (i := 3) rfl) (by decide) rfl dX7_doWrite_29 ?_
      refine lv_sipush (v := 144) hx hb dX7_doWrite_32 (by decide +kernel) ?_
      refine lv_iload_n hx hb dX7_doWrite_35 rfl (lv_at hl 0 rfl) ?_
      refine x_iaddN (i := 144) (j := l0) hx hb dX7_doWrite_36 ?_
      refine lv_iload_n hx hb dX7_doWrite_37 rfl (lv_at hl 3 rfl) ?_
      refine x_iast (ws2 := mR cI o (fl (s2 (lnfG G (nI pl)) 4 l0 v)) K h hn T tn f) C w 1 0 (144 + l0) rfl ht0 rfl (by omega) (by decide) (congrArg (fun z => mR cI o z K h hn T tn f) (fl_u4 _ (i := l0) (by omega) _)) dX7_doWrite_38 (fun H locs w => ?_)
      have w : xW D A s.heap (mR cI o (fl (wp1 G (nI pl) v)) K h hn T tn f) _ _ := x_ws (congrArg (fun z => mR cI o (fl z) K h hn T tn f) (wp1_eq hl0 el).symm) w
      refine lv_aload_n hx hb dX7_doWrite_39 rfl (lv_at hl 1 rfl) ?_
      refine x_get (v := .ref (o 1)) (T := TX7) C w 0 0 rfl rfl (fun _ h => List.mem_cons_of_mem _ (List.mem_append_right _ (h))) (List.mem_of_getElem? (i := 3) rfl) (by decide) rfl dX7_doWrite_40 ?_
      refine lv_sipush (v := 128) hx hb dX7_doWrite_43 (by decide +kernel) ?_
      refine lv_iload_n hx hb dX7_doWrite_46 rfl (lv_at hl 0 rfl) ?_
      refine x_iaddN (i := 128) (j := l0) hx hb dX7_doWrite_47 ?_
      refine x_iald (v := (wp1 G (nI pl) v) 2 l0) C w 1 0 (128 + l0) rfl ht0 rfl (by omega) (by decide) (fl_r2 _ (by omega)) dX7_doWrite_48 ?_
      refine lv_iconst (v := 2) hx hb dX7_doWrite_49 (by decide +kernel) ?_
      refine x_icR_eq (x := (wp1 G (nI pl) v) 2 l0) (y := 2) (tgt := 65) hx hb dX7_doWrite_50 (by decide) (fun c50_3 => ?_) (fun c50_3 => ?_)
      ·
        refine lv_aload_n hx hb dX7_doWrite_65 rfl (lv_at hl 1 rfl) ?_
        refine x_get (v := .ref (o 1)) (T := TX7) C w 0 0 rfl rfl (fun _ h => List.mem_cons_of_mem _ (List.mem_append_right _ (h))) (List.mem_of_getElem? (i := 3) rfl) (by decide) rfl dX7_doWrite_66 ?_
        refine lv_sipush (v := 128) hx hb dX7_doWrite_69 (by decide +kernel) ?_
        refine lv_iload_n hx hb dX7_doWrite_72 rfl (lv_at hl 0 rfl) ?_
        refine x_iaddN (i := 128) (j := l0) hx hb dX7_doWrite_73 ?_
        refine lv_iconst (v := 2) hx hb dX7_doWrite_74 (by decide +kernel) ?_
        refine x_iast (ws2 := mR cI o (fl (s2 (wp1 G (nI pl) v) 2 l0 2)) K h hn T tn f) C w 1 0 (128 + l0) rfl ht0 rfl (by omega) (by decide) (congrArg (fun z => mR cI o z K h hn T tn f) (fl_u2 _ (i := l0) (by omega) _)) dX7_doWrite_75 (fun H locs w => ?_)
        refine lv_iconst (v := 0) hx hb dX7_doWrite_76 (by decide +kernel) ?_
        exact x_iret C w (by unfold wptI; rw [el, if_neg (fun q => q hr0), ix_nI (by omega), nof_mN]; rw [if_pos (Or.inl c50_3)]) (congrArg (fun z => mR cI o (fl z) K h hn T tn f) (by unfold wptG; rw [el, if_neg (fun q => q hr0), ix_nI (by omega), nof_mN]; rw [if_pos (Or.inl c50_3)])) dX7_doWrite_77
      ·
        refine lv_aload_n hx hb dX7_doWrite_53 rfl (lv_at hl 1 rfl) ?_
        refine lv_iconst (v := 2) hx hb dX7_doWrite_54 (by decide +kernel) ?_
        refine x_callVi (wr := []) (w2 := mR cI o (fl (wp1 G (nI pl) v)) K h hn T tn f) (rest := []) (n := 1) C w hl [.int 2] (k_X7_many l D cI cS tys ht0 o (wp1 G (nI pl) v) K h hn T tn f 2 ) gX7_doWrite_X7_many rfl (by decide +kernel) ⟨Nat.le_of_ble_eq_true rfl, Nat.le_of_ble_eq_true rfl⟩ 0 7 rfl rfl rfl rfl (Nat.le_of_ble_eq_true rfl) [0, 1, 2, 3, 4] [] (by decide) rfl rfl (by decide) (by decide) [0, 1, 2, 3, 4] (by decide) rfl ⟨Nat.zero_le _, Nat.zero_le _⟩ dX7_doWrite_55 (fun H locs w => ?_)
        refine lv_aload_n hx hb dX7_doWrite_58 rfl (lv_at hl 1 rfl) ?_
        refine x_callVi (wr := []) (w2 := mR cI o (fl (wp1 G (nI pl) v)) K h hn T tn f) (rest := [.int (nI (mN (wp1 G (nI pl) v) 2))]) (n := 0) C w hl [] (k_X7_allowance l D cI cS tys ht0 o (wp1 G (nI pl) v) K h hn T tn f (wpt_ok hI hp hv9).1) gX7_doWrite_X7_allowance rfl (by decide +kernel) ⟨Nat.le_of_ble_eq_true rfl, Nat.le_of_ble_eq_true rfl⟩ 0 7 rfl rfl rfl rfl (Nat.le_of_ble_eq_true rfl) [0, 1, 2, 3, 4] [] (by decide) rfl rfl (by decide) (by decide) [0, 1, 2, 3, 4] (by decide) rfl ⟨Nat.zero_le _, Nat.zero_le _⟩ dX7_doWrite_59 (fun H locs w => ?_)
        refine x_icR_ge (x := nI (mN (wp1 G (nI pl) v) 2)) (y := alwI (wp1 G (nI pl) v)) (tgt := 78) hx hb dX7_doWrite_62 (by decide) (fun c62_4 => ?_) (fun c62_4 => ?_)
        ·
          refine lv_aload_n hx hb dX7_doWrite_78 rfl (lv_at hl 1 rfl) ?_
          refine lv_iload_n hx hb dX7_doWrite_79 rfl (lv_at hl 2 rfl) ?_
          refine lv_iload_n hx hb dX7_doWrite_80 rfl (lv_at hl 3 rfl) ?_
          refine x_callVv (wr := []) (w2 := mR cI o (fl (layG (wp1 G (nI pl) v) (nI pl) v)) K h hn T tn f) (rest := []) (n := 2) C w hl [.int (nI pl), .int v] (k_X7_lays l D cI cS tys ht0 o (wp1 G (nI pl) v) K h hn T tn f pl v hp) gX7_doWrite_X7_lays rfl (by decide +kernel) ⟨Nat.le_of_ble_eq_true rfl, Nat.le_of_ble_eq_true rfl⟩ 0 7 rfl rfl rfl rfl (Nat.le_of_ble_eq_true rfl) [0, 1, 2, 3, 4] [] (by decide) rfl rfl (by decide) (by decide) [0, 1, 2, 3, 4] (by decide) rfl ⟨Nat.zero_le _, Nat.zero_le _⟩ dX7_doWrite_81 (fun H locs w => ?_)
          refine lv_aload_n hx hb dX7_doWrite_84 rfl (lv_at hl 1 rfl) ?_
          refine lv_iconst (v := 4) hx hb dX7_doWrite_85 (by decide +kernel) ?_
          refine x_callVv (wr := []) (w2 := mR cI o (fl (s2 (layG (wp1 G (nI pl) v) (nI pl) v) 7 4 ((layG (wp1 G (nI pl) v) (nI pl) v) 7 4 + 1))) K h hn T tn f) (rest := []) (n := 1) C w hl [.int 4] (k_X7_counts l D cI cS tys ht0 o (layG (wp1 G (nI pl) v) (nI pl) v) K h hn T tn f 4 (by decide)) gX7_doWrite_X7_counts rfl (by decide +kernel) ⟨Nat.le_of_ble_eq_true rfl, Nat.le_of_ble_eq_true rfl⟩ 0 7 rfl rfl rfl rfl (Nat.le_of_ble_eq_true rfl) [0, 1, 2, 3, 4] [] (by decide) rfl rfl (by decide) (by decide) [0, 1, 2, 3, 4] (by decide) rfl ⟨Nat.zero_le _, Nat.zero_le _⟩ dX7_doWrite_86 (fun H locs w => ?_)
          refine lv_iconst (v := 1) hx hb dX7_doWrite_89 (by decide +kernel) ?_
          exact x_iret C w (by unfold wptI; rw [el, if_neg (fun q => q hr0), ix_nI (by omega), nof_mN]; rw [if_neg (fun q => q.elim c50_3 c62_4)]) (congrArg (fun z => mR cI o (fl z) K h hn T tn f) (by unfold wptG; rw [el, if_neg (fun q => q hr0), ix_nI (by omega), nof_mN]; rw [if_neg (fun q => q.elim c50_3 c62_4)])) dX7_doWrite_90
        ·
          refine lv_aload_n hx hb dX7_doWrite_65 rfl (lv_at hl 1 rfl) ?_
          refine x_get (v := .ref (o 1)) (T := TX7) C w 0 0 rfl rfl (fun _ h => List.mem_cons_of_mem _ (List.mem_append_right _ (h))) (List.mem_of_getElem? (i := 3) rfl) (by decide) rfl dX7_doWrite_66 ?_
          refine lv_sipush (v := 128) hx hb dX7_doWrite_69 (by decide +kernel) ?_
          refine lv_iload_n hx hb dX7_doWrite_72 rfl (lv_at hl 0 rfl) ?_
          refine x_iaddN (i := 128) (j := l0) hx hb dX7_doWrite_73 ?_
          refine lv_iconst (v := 2) hx hb dX7_doWrite_74 (by decide +kernel) ?_
          refine x_iast (ws2 := mR cI o (fl (s2 (wp1 G (nI pl) v) 2 l0 2)) K h hn T tn f) C w 1 0 (128 + l0) rfl ht0 rfl (by omega) (by decide) (congrArg (fun z => mR cI o z K h hn T tn f) (fl_u2 _ (i := l0) (by omega) _)) dX7_doWrite_75 (fun H locs w => ?_)
          refine lv_iconst (v := 0) hx hb dX7_doWrite_76 (by decide +kernel) ?_
          exact x_iret C w (by unfold wptI; rw [el, if_neg (fun q => q hr0), ix_nI (by omega), nof_mN]; rw [if_pos (Or.inr c62_4)]) (congrArg (fun z => mR cI o (fl z) K h hn T tn f) (by unfold wptG; rw [el, if_neg (fun q => q hr0), ix_nI (by omega), nof_mN]; rw [if_pos (Or.inr c62_4)])) dX7_doWrite_77
    ·
      exact absurd hv c16_2
set_option maxHeartbeats 1000000 in
set_option maxRecDepth 100000 in
theorem k_X7_ticksOn (l : Launch) (D : va_G) (cI cS : ClassId) (tys : List (ClassId × FieldType)) (ht0 : tys[0]? = some (cI, .int)) (o : Nat → Nat) (G : St) (K : Nat → Int32) (h : Nat → Int32) (hn : Int32) (T : Nat → Int32) (tn : Int32) (f : Nat → Int32) (hI : Inv G) : xI l yX7_ticksOn wsX7_ticksOn 4 D tys [.ref (o 0)] (mR cI o (fl G) K h hn T tn f) (tooI (tk0 G)) (mR cI o (fl (tk1 G)) K h hn T tn f) := by
  refine x_inI (cc := cX7_ticksOn) (maxL := 1) (ret := (some .int)) (by decide) rfl (Nat.le_of_ble_eq_true rfl) ?_
  intro p e s m args below meth c A ls C w hl
  have C : xC p s m meth c args cX7_ticksOn 1 wsX7_ticksOn RX7 D tys (some .int) := C
  have hx := C.1.1
  have hb := C.1.2.1
  have hts := C.1.2.2.2.2
  have hown := C.1.2.2.2.1
  have w : xW D A s.heap (mR cI o (fl G) K h hn T tn f) s.heap [] := w
  have hl : lv_has ls 1 [(0, .ref (o 0))] := hl
  refine lv_aload_n hx hb dX7_ticksOn_0 rfl (lv_at hl 0 rfl) ?_
  refine lv_iconst (v := 0) hx hb dX7_ticksOn_1 (by decide +kernel) ?_
  refine x_callVv (wr := []) (w2 := mR cI o (fl (s2 G 7 0 (G 7 0 + 1))) K h hn T tn f) (rest := []) (n := 1) C w hl [.int 0] (k_X7_counts l D cI cS tys ht0 o G K h hn T tn f 0 (by decide)) gX7_ticksOn_X7_counts rfl (by decide +kernel) ⟨Nat.le_of_ble_eq_true rfl, Nat.le_of_ble_eq_true rfl⟩ 0 7 rfl rfl rfl rfl (Nat.le_of_ble_eq_true rfl) [0, 1, 2, 3, 4] [] (by decide) rfl rfl (by decide) (by decide) [0, 1, 2, 3, 4] (by decide) rfl ⟨Nat.zero_le _, Nat.zero_le _⟩ dX7_ticksOn_2 (fun H locs w => ?_)
  have w : xW D A s.heap (mR cI o (fl (tcG G)) K h hn T tn f) _ _ := w
  refine lv_aload_n hx hb dX7_ticksOn_5 rfl (lv_at hl 0 rfl) ?_
  refine x_get (v := .ref (o 1)) (T := TX7) C w 0 0 rfl rfl (fun _ h => List.mem_cons_of_mem _ (List.mem_append_right _ (h))) (List.mem_of_getElem? (i := 1) rfl) (by decide) rfl dX7_ticksOn_6 ?_
  refine lv_sipush (v := 162) hx hb dX7_ticksOn_9 (by decide +kernel) ?_
  refine x_iald (v := (tcG G) 6 2) C w 1 0 (162) rfl ht0 rfl (by omega) (by decide) rfl dX7_ticksOn_12 ?_
  refine x_ifR_eq (x := (tcG G) 6 2) (tgt := 23) hx hb dX7_ticksOn_13 (by decide) (fun c13_1 => ?_) (fun c13_1 => ?_)
  ·
    refine lv_aload_n hx hb dX7_ticksOn_23 rfl (lv_at hl 0 rfl) ?_
    refine x_callVv (wr := []) (w2 := mR cI o (fl (s2 (tcG G) 6 0 (chgI (tcG G)))) K h hn T tn f) (rest := []) (n := 0) C w hl [] (k_X7_charges l D cI cS tys ht0 o (tcG G) K h hn T tn f ) gX7_ticksOn_X7_charges rfl (by decide +kernel) ⟨Nat.le_of_ble_eq_true rfl, Nat.le_of_ble_eq_true rfl⟩ 0 7 rfl rfl rfl rfl (Nat.le_of_ble_eq_true rfl) [0, 1, 2, 3, 4] [] (by decide) rfl rfl (by decide) (by decide) [0, 1, 2, 3, 4] (by decide) rfl ⟨Nat.zero_le _, Nat.zero_le _⟩ dX7_ticksOn_24 (fun H locs w => ?_)
    have w : xW D A s.heap (mR cI o (fl (tk0 G)) K h hn T tn f) _ _ := x_ws (congrArg (fun z => mR cI o (fl z) K h hn T tn f) (by unfold tk0; rw [if_neg (end_n (fun z => by rw [c13_1] at z; exact absurd z.1 (by decide))), tk_rise (fun z => by rw [c13_1] at z; exact absurd z (by decide)) (fun z => by rw [c13_1] at z; exact absurd z.1 (by decide))])) w
    refine lv_aload_n hx hb dX7_ticksOn_27 rfl (lv_at hl 0 rfl) ?_
    refine x_callVi (wr := []) (w2 := mR cI o (fl (flsG (tk0 G) (ix (tooI (tk0 G))))) K h hn T tn f) (rest := []) (n := 0) C w hl [] (k_X7_flushesToo l D cI cS tys ht0 o (tk0 G) K h hn T tn f (Inv_tk0 hI)) gX7_ticksOn_X7_flushesToo rfl (by decide +kernel) ⟨Nat.le_of_ble_eq_true rfl, Nat.le_of_ble_eq_true rfl⟩ 0 7 rfl rfl rfl rfl (Nat.le_of_ble_eq_true rfl) [0, 1, 2, 3, 4] [] (by decide) rfl rfl (by decide) (by decide) [0, 1, 2, 3, 4] (by decide) rfl ⟨Nat.zero_le _, Nat.zero_le _⟩ dX7_ticksOn_28 (fun H locs w => ?_)
    exact x_iret C w rfl (congrArg (fun z => mR cI o (fl z) K h hn T tn f) (by first | rfl | contradiction | (simp [c13_1]; done))) dX7_ticksOn_31
  ·
    refine lv_aload_n hx hb dX7_ticksOn_16 rfl (lv_at hl 0 rfl) ?_
    refine x_callVv (wr := []) (w2 := mR cI o (fl (if endB (tcG G) = true then s2 (tkG (tcG G)) 7 7 (tkG (tcG G) 7 7 + 1) else tkG (tcG G))) K h hn T tn f) (rest := []) (n := 0) C w hl [] (k_X7_learnsOn l D cI cS tys ht0 o (tcG G) K h hn T tn f (Inv_tc hI) c13_1) gX7_ticksOn_X7_learnsOn rfl (by decide +kernel) ⟨Nat.le_of_ble_eq_true rfl, Nat.le_of_ble_eq_true rfl⟩ 0 7 rfl rfl rfl rfl (Nat.le_of_ble_eq_true rfl) [0, 1, 2, 3, 4] [] (by decide) rfl rfl (by decide) (by decide) [0, 1, 2, 3, 4] (by decide) rfl ⟨Nat.zero_le _, Nat.zero_le _⟩ dX7_ticksOn_17 (fun H locs w => ?_)
    refine lv_goto (tgt := 27) hx hb dX7_ticksOn_20 (by decide) ?_
    have w : xW D A s.heap (mR cI o (fl (tk0 G)) K h hn T tn f) _ _ := w
    refine lv_aload_n hx hb dX7_ticksOn_27 rfl (lv_at hl 0 rfl) ?_
    refine x_callVi (wr := []) (w2 := mR cI o (fl (flsG (tk0 G) (ix (tooI (tk0 G))))) K h hn T tn f) (rest := []) (n := 0) C w hl [] (k_X7_flushesToo l D cI cS tys ht0 o (tk0 G) K h hn T tn f (Inv_tk0 hI)) gX7_ticksOn_X7_flushesToo rfl (by decide +kernel) ⟨Nat.le_of_ble_eq_true rfl, Nat.le_of_ble_eq_true rfl⟩ 0 7 rfl rfl rfl rfl (Nat.le_of_ble_eq_true rfl) [0, 1, 2, 3, 4] [] (by decide) rfl rfl (by decide) (by decide) [0, 1, 2, 3, 4] (by decide) rfl ⟨Nat.zero_le _, Nat.zero_le _⟩ dX7_ticksOn_28 (fun H locs w => ?_)
    exact x_iret C w rfl (congrArg (fun z => mR cI o (fl z) K h hn T tn f) (by first | rfl | contradiction | (simp [c13_1]; done))) dX7_ticksOn_31
set_option maxHeartbeats 1000000 in
set_option maxRecDepth 100000 in
theorem k_X7_doLoad (l : Launch) (D : va_G) (cI cS : ClassId) (tys : List (ClassId × FieldType)) (ht0 : tys[0]? = some (cI, .int)) (o : Nat → Nat) (G : St) (K : Nat → Int32) (h : Nat → Int32) (hn : Int32) (T : Nat → Int32) (tn : Int32) (f : Nat → Int32) (a1 : Int32) (hok : wth a1 1 999 = true) (hI : Inv G) : xI l yX7_doLoad wsX7_doLoad 4 D tys [.ref (o 0), .int a1] (mR cI o (fl G) K h hn T tn f) (tooI (useG G a1)) (mR cI o (fl (loaG G a1)) K h hn T tn f) := by
  refine x_inI (cc := cX7_doLoad) (maxL := 2) (ret := (some .int)) (by decide) rfl (Nat.le_of_ble_eq_true rfl) ?_
  intro p e s m args below meth c A ls C w hl
  have C : xC p s m meth c args cX7_doLoad 2 wsX7_doLoad RX7 D tys (some .int) := C
  have hx := C.1.1
  have hb := C.1.2.1
  have hts := C.1.2.2.2.2
  have hown := C.1.2.2.2.1
  have w : xW D A s.heap (mR cI o (fl G) K h hn T tn f) s.heap [] := w
  have hl : lv_has ls 2 [(0, .ref (o 0)), (1, .int a1)] := hl
  have hv9 : vN 100000 a1 := vN_m (wth_vN (lo := 1) (hi := 999) (n := 999) (by decide) rfl (by decide) hok) (by decide)
  refine lv_iload_n hx hb dX7_doLoad_0 rfl (lv_at hl 1 rfl) ?_
  refine lv_i2l (v := Int32.toInt64 a1) hx hb dX7_doLoad_1 rfl ?_
  refine lv_lconst (v := 1) hx hb dX7_doLoad_2 (by decide +kernel) ?_
  refine lv_ldc2 (v := 999) hx hb hown (hts _ (List.mem_of_getElem? (i := 1) rfl)) dX7_doLoad_3 ?_
  refine x_callSi (wr := mR cI o (fl G) K h hn T tn f) (w2 := mR cI o (fl G) K h hn T tn f) (rest := []) (n := 3) C w hl [.long (Int32.toInt64 a1), .long 1, .long 999] (k_X7_in l D cI cS tys ht0 (Int32.toInt64 a1) 1 999 ) gX7_doLoad_X7_in rfl (by decide +kernel) ⟨Nat.le_of_ble_eq_true rfl, Nat.le_of_ble_eq_true rfl⟩ rfl rfl (Nat.le_of_ble_eq_true rfl) [] [0, 1, 2, 3, 4] (by decide) rfl rfl (by decide) (by decide) [0, 1, 2, 3, 4] (by decide) rfl ⟨Nat.zero_le _, Nat.zero_le _⟩ dX7_doLoad_6 (fun H locs w => ?_)
  refine x_top (y := bI (wth a1 1 999 = true)) (bI_c (lg_wth a1 1 999 (by decide) (by decide))) ?_
  refine x_ifB_ne (P := wth a1 1 999 = true) (tgt := 15) hx hb dX7_doLoad_9 (by decide) (fun c9_1 => ?_) (fun c9_1 => ?_)
  ·
    refine lv_aload_n hx hb dX7_doLoad_15 rfl (lv_at hl 0 rfl) ?_
    refine lv_iload_n hx hb dX7_doLoad_16 rfl (lv_at hl 1 rfl) ?_
    refine x_callVv (wr := []) (w2 := mR cI o (fl (useG G a1)) K h hn T tn f) (rest := []) (n := 1) C w hl [.int a1] (k_X7_drains l D cI cS tys ht0 o G K h hn T tn f a1 hv9 hI.2.1) gX7_doLoad_X7_drains rfl (by decide +kernel) ⟨Nat.le_of_ble_eq_true rfl, Nat.le_of_ble_eq_true rfl⟩ 0 7 rfl rfl rfl rfl (Nat.le_of_ble_eq_true rfl) [0, 1, 2, 3, 4] [] (by decide) rfl rfl (by decide) (by decide) [0, 1, 2, 3, 4] (by decide) rfl ⟨Nat.zero_le _, Nat.zero_le _⟩ dX7_doLoad_17 (fun H locs w => ?_)
    refine lv_aload_n hx hb dX7_doLoad_20 rfl (lv_at hl 0 rfl) ?_
    refine x_callVi (wr := []) (w2 := mR cI o (fl (flsG (useG G a1) (ix (tooI (useG G a1))))) K h hn T tn f) (rest := []) (n := 0) C w hl [] (k_X7_flushesToo l D cI cS tys ht0 o (useG G a1) K h hn T tn f (Inv_use hI hv9)) gX7_doLoad_X7_flushesToo rfl (by decide +kernel) ⟨Nat.le_of_ble_eq_true rfl, Nat.le_of_ble_eq_true rfl⟩ 0 7 rfl rfl rfl rfl (Nat.le_of_ble_eq_true rfl) [0, 1, 2, 3, 4] [] (by decide) rfl rfl (by decide) (by decide) [0, 1, 2, 3, 4] (by decide) rfl ⟨Nat.zero_le _, Nat.zero_le _⟩ dX7_doLoad_21 (fun H locs w => ?_)
    exact x_iret C w rfl (congrArg (fun z => mR cI o (fl z) K h hn T tn f) (by first | rfl | contradiction | (simp [c9_1]; done))) dX7_doLoad_24
  ·
    exact absurd hok c9_1
set_option maxHeartbeats 1000000 in
set_option maxRecDepth 100000 in
theorem k_X7_doLearn (l : Launch) (D : va_G) (cI cS : ClassId) (tys : List (ClassId × FieldType)) (ht0 : tys[0]? = some (cI, .int)) (o : Nat → Nat) (G : St) (K : Nat → Int32) (h : Nat → Int32) (hn : Int32) (T : Nat → Int32) (tn : Int32) (f : Nat → Int32) (hok : G 6 2 = 0) (hI : Inv G) : xI l yX7_doLearn wsX7_doLearn 4 D tys [.ref (o 0)] (mR cI o (fl G) K h hn T tn f) (tooI (s2 G 6 2 1)) (mR cI o (fl (bgcG G)) K h hn T tn f) := by
  refine x_inI (cc := cX7_doLearn) (maxL := 1) (ret := (some .int)) (by decide) rfl (Nat.le_of_ble_eq_true rfl) ?_
  intro p e s m args below meth c A ls C w hl
  have C : xC p s m meth c args cX7_doLearn 1 wsX7_doLearn RX7 D tys (some .int) := C
  have hx := C.1.1
  have hb := C.1.2.1
  have hts := C.1.2.2.2.2
  have hown := C.1.2.2.2.1
  have w : xW D A s.heap (mR cI o (fl G) K h hn T tn f) s.heap [] := w
  have hl : lv_has ls 1 [(0, .ref (o 0))] := hl
  refine lv_aload_n hx hb dX7_doLearn_0 rfl (lv_at hl 0 rfl) ?_
  refine x_get (v := .ref (o 1)) (T := TX7) C w 0 0 rfl rfl (fun _ h => List.mem_cons_of_mem _ (List.mem_append_right _ (h))) (List.mem_of_getElem? (i := 1) rfl) (by decide) rfl dX7_doLearn_1 ?_
  refine lv_sipush (v := 162) hx hb dX7_doLearn_4 (by decide +kernel) ?_
  refine x_iald (v := G 6 2) C w 1 0 (162) rfl ht0 rfl (by omega) (by decide) rfl dX7_doLearn_7 ?_
  refine x_ifR_eq (x := G 6 2) (tgt := 14) hx hb dX7_doLearn_8 (by decide) (fun c8_1 => ?_) (fun c8_1 => ?_)
  ·
    refine lv_aload_n hx hb dX7_doLearn_14 rfl (lv_at hl 0 rfl) ?_
    refine x_get (v := .ref (o 1)) (T := TX7) C w 0 0 rfl rfl (fun _ h => List.mem_cons_of_mem _ (List.mem_append_right _ (h))) (List.mem_of_getElem? (i := 1) rfl) (by decide) rfl dX7_doLearn_15 ?_
    refine lv_sipush (v := 162) hx hb dX7_doLearn_18 (by decide +kernel) ?_
    refine lv_iconst (v := 1) hx hb dX7_doLearn_21 (by decide +kernel) ?_
    refine x_iast (ws2 := mR cI o (fl (s2 G 6 2 1)) K h hn T tn f) C w 1 0 (162) rfl ht0 rfl (by omega) (by decide) (congrArg (fun z => mR cI o z K h hn T tn f) (fl_u6 _ (i := 2) (by decide) _)) dX7_doLearn_22 (fun H locs w => ?_)
    refine lv_aload_n hx hb dX7_doLearn_23 rfl (lv_at hl 0 rfl) ?_
    refine x_callVi (wr := []) (w2 := mR cI o (fl (flsG (s2 G 6 2 1) (ix (tooI (s2 G 6 2 1))))) K h hn T tn f) (rest := []) (n := 0) C w hl [] (k_X7_flushesToo l D cI cS tys ht0 o (s2 G 6 2 1) K h hn T tn f (Inv_lc hI)) gX7_doLearn_X7_flushesToo rfl (by decide +kernel) ⟨Nat.le_of_ble_eq_true rfl, Nat.le_of_ble_eq_true rfl⟩ 0 7 rfl rfl rfl rfl (Nat.le_of_ble_eq_true rfl) [0, 1, 2, 3, 4] [] (by decide) rfl rfl (by decide) (by decide) [0, 1, 2, 3, 4] (by decide) rfl ⟨Nat.zero_le _, Nat.zero_le _⟩ dX7_doLearn_24 (fun H locs w => ?_)
    exact x_iret C w rfl (congrArg (fun z => mR cI o (fl z) K h hn T tn f) (by first | rfl | contradiction | (simp [c8_1]; done))) dX7_doLearn_27
  ·
    exact absurd hok c8_1
set_option maxHeartbeats 1000000 in
set_option maxRecDepth 100000 in
theorem k_X7_doTick (l : Launch) (D : va_G) (cI cS : ClassId) (tys : List (ClassId × FieldType)) (ht0 : tys[0]? = some (cI, .int)) (o : Nat → Nat) (G : St) (K : Nat → Int32) (h : Nat → Int32) (hn : Int32) (T : Nat → Int32) (tn : Int32) (f : Nat → Int32) (a1 : Int32) (hok : wth a1 1 99 = true) (hI : Inv G) : xI l yX7_doTick wsX7_doTick 5 D tys [.ref (o 0), .int a1] (mR cI o (fl G) K h hn T tn f) ((tksG G (ix a1)) 7 3 - G 7 3) (mR cI o (fl (tksG G (ix a1))) K h hn T tn f) := by
  refine x_inI (cc := cX7_doTick) (maxL := 4) (ret := (some .int)) (by decide) rfl (Nat.le_of_ble_eq_true rfl) ?_
  intro p e s m args below meth c A ls C w hl
  have C : xC p s m meth c args cX7_doTick 4 wsX7_doTick RX7 D tys (some .int) := C
  have hx := C.1.1
  have hb := C.1.2.1
  have hts := C.1.2.2.2.2
  have hown := C.1.2.2.2.1
  have w : xW D A s.heap (mR cI o (fl G) K h hn T tn f) s.heap [] := w
  have hl : lv_has ls 4 [(0, .ref (o 0)), (1, .int a1)] := hl
  refine lv_iload_n hx hb dX7_doTick_0 rfl (lv_at hl 1 rfl) ?_
  refine lv_i2l (v := Int32.toInt64 a1) hx hb dX7_doTick_1 rfl ?_
  refine lv_lconst (v := 1) hx hb dX7_doTick_2 (by decide +kernel) ?_
  refine lv_ldc2 (v := 99) hx hb hown (hts _ (List.mem_of_getElem? (i := 1) rfl)) dX7_doTick_3 ?_
  refine x_callSi (wr := mR cI o (fl G) K h hn T tn f) (w2 := mR cI o (fl G) K h hn T tn f) (rest := []) (n := 3) C w hl [.long (Int32.toInt64 a1), .long 1, .long 99] (k_X7_in l D cI cS tys ht0 (Int32.toInt64 a1) 1 99 ) gX7_doTick_X7_in rfl (by decide +kernel) ⟨Nat.le_of_ble_eq_true rfl, Nat.le_of_ble_eq_true rfl⟩ rfl rfl (Nat.le_of_ble_eq_true rfl) [] [0, 1, 2, 3, 4] (by decide) rfl rfl (by decide) (by decide) [0, 1, 2, 3, 4] (by decide) rfl ⟨Nat.zero_le _, Nat.zero_le _⟩ dX7_doTick_6 (fun H locs w => ?_)
  refine x_top (y := bI (wth a1 1 99 = true)) (bI_c (lg_wth a1 1 99 (by decide) (by decide))) ?_
  refine x_ifB_ne (P := wth a1 1 99 = true) (tgt := 15) hx hb dX7_doTick_9 (by decide) (fun c9_1 => ?_) (fun c9_1 => ?_)
  ·
    refine lv_iconst (v := 0) hx hb dX7_doTick_15 (by decide +kernel) ?_
    refine lv_istore_n (lv' := [(2, .int 0), (0, .ref (o 0)), (1, .int a1)]) hx hb dX7_doTick_16 rfl hl (by decide) rfl (fun ls hl => ?_)
    refine lv_iconst (v := 0) hx hb dX7_doTick_17 (by decide +kernel) ?_
    refine lv_istore_n (lv' := [(3, .int 0), (2, .int 0), (0, .ref (o 0)), (1, .int a1)]) hx hb dX7_doTick_18 rfl hl (by decide) rfl (fun ls hl => ?_)
    have loop_19 : ∀ (n : Nat) (i : Nat), ix a1 - i < n → (i ≤ ix a1) → ∀ (H : Heap) (locs : List Loc), xW D A s.heap (mR cI o (fl (tksG G i)) K h hn T tn f) H locs → ∀ ls : Array Slot, lv_has ls 4 [(3, .int (nI i)), (2, .int ((tksG G i) 7 3 - G 7 3)), (0, .ref (o 0)), (1, .int a1)] → W p l e (rmd 5) s m args below meth c H locs 0 0 (MQ below (xQi D tys ((tksG G (ix a1)) 7 3 - G 7 3) (mR cI o (fl (tksG G (ix a1))) K h hn T tn f) A) args s 0 0 A) (F0 m 19 ls []) := by
      intro n
      induction n with
      | zero => intro i hm; exact absurd hm (Nat.not_lt_zero _)
      | succ n ih =>
        intro i hm hi H locs w ls hl
        refine lv_iload_n hx hb dX7_doTick_19 rfl (lv_at hl 0 rfl) ?_
        refine lv_iload_n hx hb dX7_doTick_20 rfl (lv_at hl 3 rfl) ?_
        refine x_icR_ge (x := nI i) (y := a1) (tgt := 37) hx hb dX7_doTick_21 (by decide) (fun c21_2 => ?_) (fun c21_2 => ?_)
        ·
          have hE : i = ix a1 := nlt_ix hi c21_2
          refine lv_iload_n hx hb dX7_doTick_37 rfl (lv_at hl 1 rfl) ?_
          exact x_iret C w (by first | (rw [hE]; done) | (rw [hE]; rfl) | contradiction | (simp [c9_1, c21_2, hE]; done) | rfl) (congrArg (fun z => mR cI o (fl z) K h hn T tn f) (by first | (rw [hE]; done) | (rw [hE]; rfl) | contradiction | (simp [c9_1, c21_2, hE]; done) | rfl)) dX7_doTick_38
        ·
          have hlt : i < ix a1 := lt_ix hi c21_2
          refine lv_iload_n hx hb dX7_doTick_24 rfl (lv_at hl 1 rfl) ?_
          refine lv_aload_n hx hb dX7_doTick_25 rfl (lv_at hl 2 rfl) ?_
          refine x_callVi (wr := []) (w2 := mR cI o (fl (tk1 (tksG G i))) K h hn T tn f) (rest := [.int ((tksG G i) 7 3 - G 7 3)]) (n := 0) C w hl [] (k_X7_ticksOn l D cI cS tys ht0 o (tksG G i) K h hn T tn f (Inv_tks hI i)) gX7_doTick_X7_ticksOn rfl (by decide +kernel) ⟨Nat.le_of_ble_eq_true rfl, Nat.le_of_ble_eq_true rfl⟩ 0 7 rfl rfl rfl rfl (Nat.le_of_ble_eq_true rfl) [0, 1, 2, 3, 4] [] (by decide) rfl rfl (by decide) (by decide) [0, 1, 2, 3, 4] (by decide) rfl ⟨Nat.zero_le _, Nat.zero_le _⟩ dX7_doTick_26 (fun H locs w => ?_)
          refine lv_iadd (x := ((tksG G i) 7 3 - G 7 3)) (y := tooI (tk0 (tksG G i))) hx hb dX7_doTick_29 ?_
          refine lv_istore_n (lv' := [(2, .int (((tksG G i) 7 3 - G 7 3) + (tooI (tk0 (tksG G i))))), (3, .int (nI i)), (0, .ref (o 0)), (1, .int a1)]) hx hb dX7_doTick_30 rfl hl (by decide) rfl (fun ls hl => ?_)
          refine lv_iinc (v := nI (i + 1)) (lv' := [(3, .int (nI (i + 1))), (2, .int (((tksG G i) 7 3 - G 7 3) + (tooI (tk0 (tksG G i))))), (0, .ref (o 0)), (1, .int a1)]) hx hb dX7_doTick_31 hl (k := 1) rfl (nI_add i 1) (by decide) rfl (fun ls hl => ?_)
          refine lv_goto (tgt := 19) hx hb dX7_doTick_34 (by decide) ?_
          have q3 : (((tksG G i) 7 3 - G 7 3) + (tooI (tk0 (tksG G i)))) = (((tksG G (i + 1)) 7 3 - G 7 3) : Int32) := (by rw [i32_ring, ← tk1_73 (Inv_tks hI i)]; rfl)
          have hl : lv_has ls 4 [(3, .int (nI (i + 1))), (2, .int ((tksG G (i + 1)) 7 3 - G 7 3)), (0, .ref (o 0)), (1, .int a1)] := lv_eqL (lv_sub (l' := [(3, .int (nI (i + 1))), (2, .int (((tksG G i) 7 3 - G 7 3) + (tooI (tk0 (tksG G i))))), (0, .ref (o 0)), (1, .int a1)]) hl [0, 1, 2, 3] rfl) (cg2 List.cons rfl (cg2 List.cons (congrArg (fun z => ((2 : Nat), Value.int z)) q3) (cg2 List.cons rfl (cg2 List.cons rfl rfl))))
          have w : xW D A s.heap (mR cI o (fl (tksG G (i + 1))) K h hn T tn f) _ _ := x_ws (congrArg (fun z => mR cI o (fl z) K h hn T tn f) (by first | rfl | contradiction | (simp [c9_1, c21_2]; done))) w
          exact ih (i + 1) (by omega) (by omega) _ _ w _ hl
    have q4 : 0 = (nI 0 : Int32) := (by first | rfl | contradiction | (simp [c9_1]; done))
    have q5 : 0 = (((tksG G 0) 7 3 - G 7 3) : Int32) := (by show (0 : Int32) = G 7 3 - G 7 3; rw [Int32.sub_self])
    have hl : lv_has ls 4 [(3, .int (nI 0)), (2, .int ((tksG G 0) 7 3 - G 7 3)), (0, .ref (o 0)), (1, .int a1)] := lv_eqL (lv_sub (l' := [(3, .int 0), (2, .int 0), (0, .ref (o 0)), (1, .int a1)]) hl [0, 1, 2, 3] rfl) (cg2 List.cons (congrArg (fun z => ((3 : Nat), Value.int z)) q4) (cg2 List.cons (congrArg (fun z => ((2 : Nat), Value.int z)) q5) (cg2 List.cons rfl (cg2 List.cons rfl rfl))))
    have w : xW D A s.heap (mR cI o (fl (tksG G 0)) K h hn T tn f) _ _ := x_ws (congrArg (fun z => mR cI o (fl z) K h hn T tn f) (by first | rfl | contradiction | (simp [c9_1]; done))) w
    exact loop_19 (ix a1 + 1) 0 (by omega) (Nat.zero_le _) _ _ w _ hl
  ·
    exact absurd hok c9_1
