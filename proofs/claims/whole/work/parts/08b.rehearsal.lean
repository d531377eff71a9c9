set_option maxHeartbeats 1000000 in
set_option maxRecDepth 100000 in
theorem k_X3_isPossible (l : Launch) (D : va_G) (cI cS : ClassId) (tys : List (ClassId × FieldType)) (ht0 : tys[0]? = some (cI, .int)) (r : Nat) (o : Nat → Nat) (q : Nat) (d : Int32) (f : Nat → Int32) (G : St)  : xI l yX3_isPossible wsX3_isPossible 0 D tys [.ref r] (rW3 r o q d ++ oW q f ++ sW cI o G) (bI (posB f G = true)) (rW3 r o q d ++ oW q f ++ sW cI o G) := by
  refine x_inI (cc := cX3_isPossible) (maxL := 1) (ret := (some .boolean)) (by decide) rfl (Nat.le_of_ble_eq_true rfl) ?_
  intro p e s m args below meth c A ls C w hl
  have C : xC p s m meth c args cX3_isPossible 1 wsX3_isPossible RX3 D tys (some .boolean) := C
  have hx := C.1.1
  have hb := C.1.2.1
  have hts := C.1.2.2.2.2
  have hown := C.1.2.2.2.1
  have w : xW D A s.heap (rW3 r o q d ++ oW q f ++ sW cI o G) s.heap [] := w
  have hl : lv_has ls 1 [(0, .ref r)] := hl
  refine lv_aload_n hx hb dX3_isPossible_0 rfl (lv_at hl 0 rfl) ?_
  refine x_get (v := .ref q) (T := TX3) C w 0 1 rfl rfl (fun _ h => List.mem_cons_of_mem _ (List.mem_append_left _ (List.mem_append_left _ (List.mem_append_left _ (List.mem_append_right _ (h)))))) (List.mem_of_getElem? (i := 1) rfl) (by decide) rfl dX3_isPossible_1 ?_
  refine x_get (v := .int (f 2)) (T := TX2) C w 1 2 rfl rfl (fun _ h => List.mem_cons_of_mem _ (List.mem_append_left _ (List.mem_append_left _ (List.mem_append_right _ (h))))) (List.mem_of_getElem? (i := 2) rfl) (by decide) rfl dX3_isPossible_4 ?_
  refine lv_bipush (v := 103) hx hb dX3_isPossible_7 (by decide +kernel) ?_
  refine x_icR_ne (x := f 2) (y := 103) (tgt := 25) hx hb dX3_isPossible_9 (by decide) (fun c9_1 => ?_) (fun c9_1 => ?_)
  ·
    refine lv_iconst (v := 1) hx hb dX3_isPossible_25 (by decide +kernel) ?_
    refine lv_goto (tgt := 30) hx hb dX3_isPossible_26 (by decide) ?_
    exact x_zret C w (Or.inr rfl) (by simp [bI, posB, c9_1]) rfl dX3_isPossible_30
  ·
    refine lv_aload_n hx hb dX3_isPossible_12 rfl (lv_at hl 0 rfl) ?_
    refine x_get (v := .ref (o 0)) (T := TX3) C w 0 0 rfl rfl (fun _ h => List.mem_cons_of_mem _ (List.mem_append_left _ (List.mem_append_left _ (List.mem_append_left _ (List.mem_append_right _ (h)))))) (List.mem_of_getElem? (i := 3) rfl) (by decide) rfl dX3_isPossible_13 ?_
    refine x_get (v := .ref (o 1)) (T := TX4) C w 2 0 rfl rfl (fun _ h => List.mem_cons_of_mem _ (List.mem_append_left _ (List.mem_append_right _ (h)))) (List.mem_of_getElem? (i := 4) rfl) (by decide) rfl dX3_isPossible_16 ?_
    refine x_get (v := .int (G 6 2)) (T := TX0) C w 3 2 rfl rfl (fun _ h => List.mem_cons_of_mem _ (List.mem_append_right _ (h))) (List.mem_of_getElem? (i := 5) rfl) (by decide) rfl dX3_isPossible_19 ?_
    refine x_ifR_ne (x := G 6 2) (tgt := 29) hx hb dX3_isPossible_22 (by decide) (fun c22_2 => ?_) (fun c22_2 => ?_)
    ·
      refine lv_iconst (v := 0) hx hb dX3_isPossible_29 (by decide +kernel) ?_
      exact x_zret C w (Or.inl rfl) (by simp [bI, posB, c9_1, c22_2]) rfl dX3_isPossible_30
    ·
      refine lv_iconst (v := 1) hx hb dX3_isPossible_25 (by decide +kernel) ?_
      refine lv_goto (tgt := 30) hx hb dX3_isPossible_26 (by decide) ?_
      exact x_zret C w (Or.inr rfl) (by simp [bI, posB, c9_1, c22_2]) rfl dX3_isPossible_30
set_option maxHeartbeats 1000000 in
set_option maxRecDepth 100000 in
theorem k_X3_perform (l : Launch) (D : va_G) (cI cS : ClassId) (tys : List (ClassId × FieldType)) (ht0 : tys[0]? = some (cI, .int)) (r : Nat) (o : Nat → Nat) (q : Nat) (d : Int32) (f : Nat → Int32) (G : St)  : xV l yX3_perform wsX3_perform 5 D tys [.ref r] (rW3 r o q d ++ oW q f ++ sW cI o G) (rW3 r o q d ++ oW q f ++ sW cI o (perG f G)) := by
  refine x_inV (cc := cX3_perform) (maxL := 1) (ret := none) (by decide) rfl (Nat.le_of_ble_eq_true rfl) ?_
  intro p e s m args below meth c A ls C w hl
  have C : xC p s m meth c args cX3_perform 1 wsX3_perform RX3 D tys none := C
  have hx := C.1.1
  have hb := C.1.2.1
  have hts := C.1.2.2.2.2
  have hown := C.1.2.2.2.1
  have w : xW D A s.heap (rW3 r o q d ++ oW q f ++ sW cI o G) s.heap [] := w
  have hl : lv_has ls 1 [(0, .ref r)] := hl
  refine lv_aload_n hx hb dX3_perform_0 rfl (lv_at hl 0 rfl) ?_
  refine x_get (v := .ref q) (T := TX3) C w 0 1 rfl rfl (fun _ h => List.mem_cons_of_mem _ (List.mem_append_left _ (List.mem_append_left _ (List.mem_append_left _ (List.mem_append_right _ (h)))))) (List.mem_of_getElem? (i := 1) rfl) (by decide) rfl dX3_perform_1 ?_
  refine x_get (v := .int (f 2)) (T := TX2) C w 1 2 rfl rfl (fun _ h => List.mem_cons_of_mem _ (List.mem_append_left _ (List.mem_append_left _ (List.mem_append_right _ (h))))) (List.mem_of_getElem? (i := 2) rfl) (by decide) rfl dX3_perform_4 ?_
  by_cases c7_1 : f 2 = (99 : Int32)
  ·
    refine x_top (y := 99) c7_1 ?_
    refine lv_lookup (x := 99) (off := 128) (tgt := 135) hx hb dX3_perform_7 (by decide) (by decide) (by decide) ?_
    refine lv_aload_n hx hb dX3_perform_135 rfl (lv_at hl 0 rfl) ?_
    refine x_get (v := .ref (o 0)) (T := TX3) C w 0 0 rfl rfl (fun _ h => List.mem_cons_of_mem _ (List.mem_append_left _ (List.mem_append_left _ (List.mem_append_left _ (List.mem_append_right _ (h)))))) (List.mem_of_getElem? (i := 3) rfl) (by decide) rfl dX3_perform_136 ?_
    refine x_callVi (wr := rW3 r o q d ++ oW q f) (w2 := rW3 r o q d ++ oW q f ++ sW cI o (cutG G)) (rest := []) (n := 0) C w hl [] (k_X4_cutPower l D cI cS tys ht0 o G ) gX3_perform_X4_cutPower rfl (by decide +kernel) ⟨Nat.le_of_ble_eq_true rfl, Nat.le_of_ble_eq_true rfl⟩ 0 4 rfl rfl rfl rfl (Nat.le_of_ble_eq_true rfl) [2, 3, 4, 5, 6, 7, 8, 9] [0, 1] (by decide) rfl rfl (by decide) (by decide) [0, 1, 2, 3, 4, 5, 6, 7, 8, 9] (by decide) rfl ⟨Nat.zero_le _, Nat.zero_le _⟩ dX3_perform_139 (fun H locs w => ?_)
    refine lv_pop hx hb dX3_perform_142 rfl ?_
    refine lv_goto (tgt := 154) hx hb dX3_perform_143 (by decide) ?_
    exact x_vret C w (cg2 (fun (a b : va_W) => a ++ b) (cg2 (fun (a b : va_W) => a ++ b) rfl rfl) (congrArg (sW cI o) (by simp [perG, c7_1]))) dX3_perform_154
  ·
    by_cases c7_2 : f 2 = (108 : Int32)
    ·
      refine x_top (y := 108) c7_2 ?_
      refine lv_lookup (x := 108) (off := 110) (tgt := 117) hx hb dX3_perform_7 (by decide) (by decide) (by decide) ?_
      refine lv_aload_n hx hb dX3_perform_117 rfl (lv_at hl 0 rfl) ?_
      refine x_get (v := .ref (o 0)) (T := TX3) C w 0 0 rfl rfl (fun _ h => List.mem_cons_of_mem _ (List.mem_append_left _ (List.mem_append_left _ (List.mem_append_left _ (List.mem_append_right _ (h)))))) (List.mem_of_getElem? (i := 3) rfl) (by decide) rfl dX3_perform_118 ?_
      refine lv_aload_n hx hb dX3_perform_121 rfl (lv_at hl 0 rfl) ?_
      refine x_get (v := .ref q) (T := TX3) C w 0 1 rfl rfl (fun _ h => List.mem_cons_of_mem _ (List.mem_append_left _ (List.mem_append_left _ (List.mem_append_left _ (List.mem_append_right _ (h)))))) (List.mem_of_getElem? (i := 1) rfl) (by decide) rfl dX3_perform_122 ?_
      refine x_get (v := .int (f 3)) (T := TX2) C w 1 3 rfl rfl (fun _ h => List.mem_cons_of_mem _ (List.mem_append_left _ (List.mem_append_left _ (List.mem_append_right _ (h))))) (List.mem_of_getElem? (i := 4) rfl) (by decide) rfl dX3_perform_125 ?_
      refine x_callVi (wr := rW3 r o q d ++ oW q f) (w2 := rW3 r o q d ++ oW q f ++ sW cI o (loaG G (f 3))) (rest := []) (n := 1) C w hl [.int (f 3)] (k_X4_putLoad l D cI cS tys ht0 o G (f 3) ) gX3_perform_X4_putLoad rfl (by decide +kernel) ⟨Nat.le_of_ble_eq_true rfl, Nat.le_of_ble_eq_true rfl⟩ 0 4 rfl rfl rfl rfl (Nat.le_of_ble_eq_true rfl) [2, 3, 4, 5, 6, 7, 8, 9] [0, 1] (by decide) rfl rfl (by decide) (by decide) [0, 1, 2, 3, 4, 5, 6, 7, 8, 9] (by decide) rfl ⟨Nat.zero_le _, Nat.zero_le _⟩ dX3_perform_128 (fun H locs w => ?_)
      refine lv_pop hx hb dX3_perform_131 rfl ?_
      refine lv_goto (tgt := 154) hx hb dX3_perform_132 (by decide) ?_
      exact x_vret C w (cg2 (fun (a b : va_W) => a ++ b) (cg2 (fun (a b : va_W) => a ++ b) rfl rfl) (congrArg (sW cI o) (by simp [perG, c7_1, c7_2]))) dX3_perform_154
    ·
      by_cases c7_3 : f 2 = (114 : Int32)
      ·
        refine x_top (y := 114) c7_3 ?_
        refine lv_lookup (x := 114) (off := 49) (tgt := 56) hx hb dX3_perform_7 (by decide) (by decide) (by decide) ?_
        refine lv_aload_n hx hb dX3_perform_56 rfl (lv_at hl 0 rfl) ?_
        refine x_get (v := .ref (o 0)) (T := TX3) C w 0 0 rfl rfl (fun _ h => List.mem_cons_of_mem _ (List.mem_append_left _ (List.mem_append_left _ (List.mem_append_left _ (List.mem_append_right _ (h)))))) (List.mem_of_getElem? (i := 3) rfl) (by decide) rfl dX3_perform_57 ?_
        refine lv_aload_n hx hb dX3_perform_60 rfl (lv_at hl 0 rfl) ?_
        refine x_get (v := .ref q) (T := TX3) C w 0 1 rfl rfl (fun _ h => List.mem_cons_of_mem _ (List.mem_append_left _ (List.mem_append_left _ (List.mem_append_left _ (List.mem_append_right _ (h)))))) (List.mem_of_getElem? (i := 1) rfl) (by decide) rfl dX3_perform_61 ?_
        refine x_get (v := .int (f 3)) (T := TX2) C w 1 3 rfl rfl (fun _ h => List.mem_cons_of_mem _ (List.mem_append_left _ (List.mem_append_left _ (List.mem_append_right _ (h))))) (List.mem_of_getElem? (i := 4) rfl) (by decide) rfl dX3_perform_64 ?_
        refine x_callVi (wr := rW3 r o q d ++ oW q f) (w2 := rW3 r o q d ++ oW q f ++ sW cI o (lnfG G (f 3))) (rest := []) (n := 1) C w hl [.int (f 3)] (k_X4_readPlace l D cI cS tys ht0 o G (f 3) ) gX3_perform_X4_readPlace rfl (by decide +kernel) ⟨Nat.le_of_ble_eq_true rfl, Nat.le_of_ble_eq_true rfl⟩ 0 4 rfl rfl rfl rfl (Nat.le_of_ble_eq_true rfl) [2, 3, 4, 5, 6, 7, 8, 9] [0, 1] (by decide) rfl rfl (by decide) (by decide) [0, 1, 2, 3, 4, 5, 6, 7, 8, 9] (by decide) rfl ⟨Nat.zero_le _, Nat.zero_le _⟩ dX3_perform_67 (fun H locs w => ?_)
        refine lv_pop hx hb dX3_perform_70 rfl ?_
        refine lv_goto (tgt := 154) hx hb dX3_perform_71 (by decide) ?_
        exact x_vret C w (cg2 (fun (a b : va_W) => a ++ b) (cg2 (fun (a b : va_W) => a ++ b) rfl rfl) (congrArg (sW cI o) (by simp [perG, c7_1, c7_2, c7_3]))) dX3_perform_154
      ·
        by_cases c7_4 : f 2 = (116 : Int32)
        ·
          refine x_top (y := 116) c7_4 ?_
          refine lv_lookup (x := 116) (off := 92) (tgt := 99) hx hb dX3_perform_7 (by decide) (by decide) (by decide) ?_
          refine lv_aload_n hx hb dX3_perform_99 rfl (lv_at hl 0 rfl) ?_
          refine x_get (v := .ref (o 0)) (T := TX3) C w 0 0 rfl rfl (fun _ h => List.mem_cons_of_mem _ (List.mem_append_left _ (List.mem_append_left _ (List.mem_append_left _ (List.mem_append_right _ (h)))))) (List.mem_of_getElem? (i := 3) rfl) (by decide) rfl dX3_perform_100 ?_
          refine lv_aload_n hx hb dX3_perform_103 rfl (lv_at hl 0 rfl) ?_
          refine x_get (v := .ref q) (T := TX3) C w 0 1 rfl rfl (fun _ h => List.mem_cons_of_mem _ (List.mem_append_left _ (List.mem_append_left _ (List.mem_append_left _ (List.mem_append_right _ (h)))))) (List.mem_of_getElem? (i := 1) rfl) (by decide) rfl dX3_perform_104 ?_
          refine x_get (v := .int (f 3)) (T := TX2) C w 1 3 rfl rfl (fun _ h => List.mem_cons_of_mem _ (List.mem_append_left _ (List.mem_append_left _ (List.mem_append_right _ (h))))) (List.mem_of_getElem? (i := 4) rfl) (by decide) rfl dX3_perform_107 ?_
          refine x_callVi (wr := rW3 r o q d ++ oW q f) (w2 := rW3 r o q d ++ oW q f ++ sW cI o (tksG G (ix (f 3)))) (rest := []) (n := 1) C w hl [.int (f 3)] (k_X4_passTicks l D cI cS tys ht0 o G (f 3) ) gX3_perform_X4_passTicks rfl (by decide +kernel) ⟨Nat.le_of_ble_eq_true rfl, Nat.le_of_ble_eq_true rfl⟩ 0 4 rfl rfl rfl rfl (Nat.le_of_ble_eq_true rfl) [2, 3, 4, 5, 6, 7, 8, 9] [0, 1] (by decide) rfl rfl (by decide) (by decide) [0, 1, 2, 3, 4, 5, 6, 7, 8, 9] (by decide) rfl ⟨Nat.zero_le _, Nat.zero_le _⟩ dX3_perform_110 (fun H locs w => ?_)
          refine lv_pop hx hb dX3_perform_113 rfl ?_
          refine lv_goto (tgt := 154) hx hb dX3_perform_114 (by decide) ?_
          exact x_vret C w (cg2 (fun (a b : va_W) => a ++ b) (cg2 (fun (a b : va_W) => a ++ b) rfl rfl) (congrArg (sW cI o) (by simp [perG, c7_1, c7_2, c7_3, c7_4]))) dX3_perform_154
        ·
          by_cases c7_5 : f 2 = (119 : Int32)
          ·
            refine x_top (y := 119) c7_5 ?_
            refine lv_lookup (x := 119) (off := 67) (tgt := 74) hx hb dX3_perform_7 (by decide) (by decide) (by decide) ?_
            refine lv_aload_n hx hb dX3_perform_74 rfl (lv_at hl 0 rfl) ?_
            refine x_get (v := .ref (o 0)) (T := TX3) C w 0 0 rfl rfl (fun _ h => List.mem_cons_of_mem _ (List.mem_append_left _ (List.mem_append_left _ (List.mem_append_left _ (List.mem_append_right _ (h)))))) (List.mem_of_getElem? (i := 3) rfl) (by decide) rfl dX3_perform_75 ?_
            refine lv_aload_n hx hb dX3_perform_78 rfl (lv_at hl 0 rfl) ?_
            refine x_get (v := .ref q) (T := TX3) C w 0 1 rfl rfl (fun _ h => List.mem_cons_of_mem _ (List.mem_append_left _ (List.mem_append_left _ (List.mem_append_left _ (List.mem_append_right _ (h)))))) (List.mem_of_getElem? (i := 1) rfl) (by decide) rfl dX3_perform_79 ?_
            refine x_get (v := .int (f 3)) (T := TX2) C w 1 3 rfl rfl (fun _ h => List.mem_cons_of_mem _ (List.mem_append_left _ (List.mem_append_left _ (List.mem_append_right _ (h))))) (List.mem_of_getElem? (i := 4) rfl) (by decide) rfl dX3_perform_82 ?_
            refine lv_aload_n hx hb dX3_perform_85 rfl (lv_at hl 0 rfl) ?_
            refine x_get (v := .ref q) (T := TX3) C w 0 1 rfl rfl (fun _ h => List.mem_cons_of_mem _ (List.mem_append_left _ (List.mem_append_left _ (List.mem_append_left _ (List.mem_append_right _ (h)))))) (List.mem_of_getElem? (i := 1) rfl) (by decide) rfl dX3_perform_86 ?_
            refine x_get (v := .int (f 4)) (T := TX2) C w 1 4 rfl rfl (fun _ h => List.mem_cons_of_mem _ (List.mem_append_left _ (List.mem_append_left _ (List.mem_append_right _ (h))))) (List.mem_of_getElem? (i := 5) rfl) (by decide) rfl dX3_perform_89 ?_
            refine x_callVi (wr := rW3 r o q d ++ oW q f) (w2 := rW3 r o q d ++ oW q f ++ sW cI o (wptG G (f 3) (f 4))) (rest := []) (n := 2) C w hl [.int (f 3), .int (f 4)] (k_X4_writePlace l D cI cS tys ht0 o G (f 3) (f 4) ) gX3_perform_X4_writePlace rfl (by decide +kernel) ⟨Nat.le_of_ble_eq_true rfl, Nat.le_of_ble_eq_true rfl⟩ 0 4 rfl rfl rfl rfl (Nat.le_of_ble_eq_true rfl) [2, 3, 4, 5, 6, 7, 8, 9] [0, 1] (by decide) rfl rfl (by decide) (by decide) [0, 1, 2, 3, 4, 5, 6, 7, 8, 9] (by decide) rfl ⟨Nat.zero_le _, Nat.zero_le _⟩ dX3_perform_92 (fun H locs w => ?_)
            refine lv_pop hx hb dX3_perform_95 rfl ?_
            refine lv_goto (tgt := 154) hx hb dX3_perform_96 (by decide) ?_
            exact x_vret C w (cg2 (fun (a b : va_W) => a ++ b) (cg2 (fun (a b : va_W) => a ++ b) rfl rfl) (congrArg (sW cI o) (by simp [perG, c7_1, c7_2, c7_3, c7_4, c7_5]))) dX3_perform_154
          ·
            refine lv_lookup (x := f 2) (off := 139) (tgt := 146) hx hb dX3_perform_7 (by decide) (by show Op.lookupswitch.offset [(99, 128), (108, 110), (114, 49), (116, 92), (119, 67)] _ _ = _; rw [lv_osw c7_1 (by decide), lv_osw c7_2 (by decide), lv_osw c7_3 (by decide), lv_osw c7_4 (by decide), lv_osw c7_5 (by decide)]; rfl) (by decide) ?_
            refine lv_aload_n hx hb dX3_perform_146 rfl (lv_at hl 0 rfl) ?_
            refine x_get (v := .ref (o 0)) (T := TX3) C w 0 0 rfl rfl (fun _ h => List.mem_cons_of_mem _ (List.mem_append_left _ (List.mem_append_left _ (List.mem_append_left _ (List.mem_append_right _ (h)))))) (List.mem_of_getElem? (i := 3) rfl) (by decide) rfl dX3_perform_147 ?_
            refine x_callVi (wr := rW3 r o q d ++ oW q f) (w2 := rW3 r o q d ++ oW q f ++ sW cI o (bgcG G)) (rest := []) (n := 0) C w hl [] (k_X4_beginCycle l D cI cS tys ht0 o G ) gX3_perform_X4_beginCycle rfl (by decide +kernel) ⟨Nat.le_of_ble_eq_true rfl, Nat.le_of_ble_eq_true rfl⟩ 0 4 rfl rfl rfl rfl (Nat.le_of_ble_eq_true rfl) [2, 3, 4, 5, 6, 7, 8, 9] [0, 1] (by decide) rfl rfl (by decide) (by decide) [0, 1, 2, 3, 4, 5, 6, 7, 8, 9] (by decide) rfl ⟨Nat.zero_le _, Nat.zero_le _⟩ dX3_perform_150 (fun H locs w => ?_)
            refine lv_pop hx hb dX3_perform_153 rfl ?_
            exact x_vret C w (cg2 (fun (a b : va_W) => a ++ b) (cg2 (fun (a b : va_W) => a ++ b) rfl rfl) (congrArg (sW cI o) (by simp [perG, c7_1, c7_2, c7_3, c7_4, c7_5]))) dX3_perform_154
set_option maxHeartbeats 1000000 in
set_option maxRecDepth 100000 in
theorem k_X3_run (l : Launch) (D : va_G) (cI cS : ClassId) (tys : List (ClassId × FieldType)) (ht0 : tys[0]? = some (cI, .int)) (r : Nat) (o : Nat → Nat) (q : Nat) (d : Int32) (f : Nat → Int32) (G : St) (t : Nat → Nat) (T : Nat → Int32) (tn : Int32) (o2 : Nat → Nat) (G2 : St)  : xV l yX3_run wsX3_run 6 D tys [.ref r, .ref (t 0), .ref (o2 0)] (rW3 r o q d ++ oW q f ++ sW cI o G ++ tW cI t T tn ++ sW cI o2 G2) (rW3 r o q ((runF T tn 60 (btG f) G2 0).2.2) ++ oW q ((runF T tn 60 (btG f) G2 0).1) ++ sW cI o ((runF T tn 60 (btG f) G2 0).2.1) ++ tW cI t T tn ++ sW cI o2 G2) := by
  refine x_inV (cc := cX3_run) (maxL := 4) (ret := none) (by decide) rfl (Nat.le_of_ble_eq_true rfl) ?_
  intro p e s m args below meth c A ls C w hl
  have C : xC p s m meth c args cX3_run 4 wsX3_run RX3 D tys none := C
  have hx := C.1.1
  have hb := C.1.2.1
  have hts := C.1.2.2.2.2
  have hown := C.1.2.2.2.1
  have w : xW D A s.heap (rW3 r o q d ++ oW q f ++ sW cI o G ++ tW cI t T tn ++ sW cI o2 G2) s.heap [] := w
  have hl : lv_has ls 4 [(0, .ref r), (1, .ref (t 0)), (2, .ref (o2 0))] := hl
  refine lv_aload_n hx hb dX3_run_0 rfl (lv_at hl 2 rfl) ?_
  refine lv_aload_n hx hb dX3_run_1 rfl (lv_at hl 0 rfl) ?_
  refine x_get (v := .ref (o 0)) (T := TX3) C w 0 0 rfl rfl (fun _ h => List.mem_cons_of_mem _ (List.mem_append_left _ (List.mem_append_left _ (List.mem_append_left _ (List.mem_append_left _ (List.mem_append_right _ (h))))))) (List.mem_of_getElem? (i := 1) rfl) (by decide) rfl dX3_run_2 ?_
  refine x_callSv (wr := rW3 r o q d ++ oW q f ++ tW cI t T tn) (w2 := rW3 r o q d ++ oW q f ++ sW cI o G2 ++ tW cI t T tn ++ sW cI o2 G2) (rest := []) (n := 2) C w hl [.ref (o2 0), .ref (o 0)] (k_X4_copy l D cI cS tys ht0 o2 G2 o G ) gX3_run_X4_copy rfl (by decide +kernel) ⟨Nat.le_of_ble_eq_true rfl, Nat.le_of_ble_eq_true rfl⟩ rfl rfl (Nat.le_of_ble_eq_true rfl) [12, 13, 14, 15, 16, 17, 18, 19, 2, 3, 4, 5, 6, 7, 8, 9] [0, 1, 10, 11] (by decide) rfl rfl (by decide) (by decide) [0, 1, 12, 13, 14, 15, 16, 17, 18, 19, 2, 3, 4, 5, 6, 7, 8, 9, 10, 11] (by decide) rfl ⟨Nat.zero_le _, Nat.zero_le _⟩ dX3_run_5 (fun H locs w => ?_)
  refine lv_aload_n hx hb dX3_run_8 rfl (lv_at hl 0 rfl) ?_
  refine x_get (v := .ref q) (T := TX3) C w 0 1 rfl rfl (fun _ h => List.mem_cons_of_mem _ (List.mem_append_left _ (List.mem_append_left _ (List.mem_append_left _ (List.mem_append_left _ (List.mem_append_right _ (h))))))) (List.mem_of_getElem? (i := 2) rfl) (by decide) rfl dX3_run_9 ?_
  refine x_callVv (wr := rW3 r o q d ++ sW cI o G2 ++ tW cI t T tn ++ sW cI o2 G2) (w2 := rW3 r o q d ++ oW q (btG f) ++ sW cI o G2 ++ tW cI t T tn ++ sW cI o2 G2) (rest := []) (n := 0) C w hl [] (k_X2_beginText l D cI cS tys ht0 q f ) gX3_run_X2_beginText rfl (by decide +kernel) ⟨Nat.le_of_ble_eq_true rfl, Nat.le_of_ble_eq_true rfl⟩ 0 2 rfl rfl rfl rfl (Nat.le_of_ble_eq_true rfl) [1] [0, 2, 3, 4, 5, 6, 7, 8, 9, 10, 11, 12, 13, 14, 15, 16, 17, 18, 19] (by decide) rfl rfl (by decide) (by decide) [0, 19, 1, 2, 3, 4, 5, 6, 7, 8, 9, 10, 11, 12, 13, 14, 15, 16, 17, 18] (by decide) rfl ⟨Nat.zero_le _, Nat.zero_le _⟩ dX3_run_12 (fun H locs w => ?_)
  refine lv_aload_n hx hb dX3_run_15 rfl (lv_at hl 0 rfl) ?_
  refine lv_iconst (v := 0) hx hb dX3_run_16 (by decide +kernel) ?_
  refine x_put (v := .int 0) (ty := .int) (T := TX3) (ws2 := rW3 r o q 0 ++ oW q (btG f) ++ sW cI o G2 ++ tW cI t T tn ++ sW cI o2 G2) C w 0 2 rfl rfl (fun _ h => List.mem_cons_of_mem _ (List.mem_append_left _ (List.mem_append_left _ (List.mem_append_left _ (List.mem_append_left _ (List.mem_append_right _ (h))))))) tyX3 tyX3_ok nmX3 (List.mem_of_getElem? (i := 3) rfl) (by decide) (Nat.le_of_ble_eq_true rfl) rfl (by decide +kernel) rfl rfl rfl dX3_run_17 (fun H locs w => ?_)
  refine lv_iconst (v := 0) hx hb dX3_run_20 (by decide +kernel) ?_
  refine lv_istore_n (lv' := [(3, .int 0), (0, .ref r), (1, .ref (t 0)), (2, .ref (o2 0))]) hx hb dX3_run_21 rfl hl (by decide) rfl (fun ls hl => ?_)
  have loop_22 : ∀ (n : Nat) (k : Nat) (i : Nat) (f1 : Nat → Int32) (G1 : St) (d1 : Int32), k < n → (k + i = 60) → (runF T tn k f1 G1 d1 = runF T tn 60 (btG f) G2 0) → ∀ (H : Heap) (locs : List Loc), xW D A s.heap (rW3 r o q d1 ++ oW q f1 ++ sW cI o G1 ++ tW cI t T tn ++ sW cI o2 G2) H locs → ∀ ls : Array Slot, lv_has ls 4 [(3, .int (nI i)), (0, .ref r), (1, .ref (t 0)), (2, .ref (o2 0))] → W p l e (rmd 6) s m args below meth c H locs 0 0 (MQ below (xQv D tys (rW3 r o q ((runF T tn 60 (btG f) G2 0).2.2) ++ oW q ((runF T tn 60 (btG f) G2 0).1) ++ sW cI o ((runF T tn 60 (btG f) G2 0).2.1) ++ tW cI t T tn ++ sW cI o2 G2) A) args s 0 0 A) (F0 m 22 ls []) := by
    intro n
    induction n with
    | zero => intro k i f1 G1 d1 hm; exact absurd hm (Nat.not_lt_zero _)
    | succ n ih =>
      intro k i f1 G1 d1 hm hk hq H locs w ls hl
      refine lv_iload_n hx hb dX3_run_22 rfl (lv_at hl 0 rfl) ?_
      refine lv_bipush (v := 60) hx hb dX3_run_23 (by decide +kernel) ?_
      refine x_icN_ge (i := i) (j := 60) (tgt := 106) hx hb (by omega) (by omega) dX3_run_25 (by decide) (fun c25_1 => ?_) (fun c25_1 => ?_)
      ·
        obtain rfl : k = 0 := by omega
        have hr : runF T tn 60 (btG f) G2 0 = (f1, G1, d1) := (by rw [← hq]; rfl)
        exact x_vret C w (cg2 (fun (a b : va_W) => a ++ b) (cg2 (fun (a b : va_W) => a ++ b) (cg2 (fun (a b : va_W) => a ++ b) (cg2 (fun (a b : va_W) => a ++ b) (congrArg (rW3 r o q) (by rw [hr])) (congrArg (oW q) (by rw [hr]))) (congrArg (sW cI o) (by rw [hr]))) rfl) rfl) dX3_run_106
      ·
        obtain ⟨k', rfl⟩ : ∃ z, k = z + 1 := ⟨k - 1, by omega⟩
        refine lv_aload_n hx hb dX3_run_28 rfl (lv_at hl 1 rfl) ?_
        refine x_get (v := .ref q) (T := TX3) C w 0 1 rfl rfl (fun _ h => List.mem_cons_of_mem _ (List.mem_append_left _ (List.mem_append_left _ (List.mem_append_left _ (List.mem_append_left _ (List.mem_append_right _ (h))))))) (List.mem_of_getElem? (i := 2) rfl) (by decide) rfl dX3_run_29 ?_
        refine x_get (v := .int (f1 1)) (T := TX2) C w 1 1 rfl rfl (fun _ h => List.mem_cons_of_mem _ (List.mem_append_left _ (List.mem_append_left _ (List.mem_append_left _ (List.mem_append_right _ (h)))))) (List.mem_of_getElem? (i := 4) rfl) (by decide) rfl dX3_run_32 ?_
        refine lv_aload_n hx hb dX3_run_35 rfl (lv_at hl 2 rfl) ?_
        refine x_get (v := .int tn) (T := TX5) C w 10 1 rfl rfl (fun _ h => List.mem_cons_of_mem _ (List.mem_append_left _ (List.mem_append_left _ (List.mem_append_right _ (h))))) (List.mem_of_getElem? (i := 5) rfl) (by decide) rfl dX3_run_36 ?_
        refine x_icR_ge (x := f1 1) (y := tn) (tgt := 106) hx hb dX3_run_39 (by decide) (fun c39_2 => ?_) (fun c39_2 => ?_)
        ·
          have hr : runF T tn 60 (btG f) G2 0 = (f1, G1, d1) := (by rw [← hq, runF, if_neg c39_2])
          exact x_vret C w (cg2 (fun (a b : va_W) => a ++ b) (cg2 (fun (a b : va_W) => a ++ b) (cg2 (fun (a b : va_W) => a ++ b) (cg2 (fun (a b : va_W) => a ++ b) (congrArg (rW3 r o q) (by rw [hr])) (congrArg (oW q) (by rw [hr]))) (congrArg (sW cI o) (by rw [hr]))) rfl) rfl) dX3_run_106
        ·
          have hlt := c39_2
          refine lv_aload_n hx hb dX3_run_42 rfl (lv_at hl 1 rfl) ?_
          refine x_get (v := .ref q) (T := TX3) C w 0 1 rfl rfl (fun _ h => List.mem_cons_of_mem _ (List.mem_append_left _ (List.mem_append_left _ (List.mem_append_left _ (List.mem_append_left _ (List.mem_append_right _ (h))))))) (List.mem_of_getElem? (i := 2) rfl) (by decide) rfl dX3_run_43 ?_
          refine lv_aload_n hx hb dX3_run_46 rfl (lv_at hl 2 rfl) ?_
          refine x_callVv (wr := rW3 r o q d1 ++ sW cI o G1 ++ sW cI o2 G2) (w2 := rW3 r o q d1 ++ oW q (rxG T tn f1) ++ sW cI o G1 ++ tW cI t T tn ++ sW cI o2 G2) (rest := []) (n := 1) C w hl [.ref (t 0)] (k_X2_readNext l D cI cS tys ht0 q f1 t T tn ) gX3_run_X2_readNext rfl (by decide +kernel) ⟨Nat.le_of_ble_eq_true rfl, Nat.le_of_ble_eq_true rfl⟩ 0 2 rfl rfl rfl rfl (Nat.le_of_ble_eq_true rfl) [1, 10, 11] [0, 2, 3, 4, 5, 6, 7, 8, 9, 12, 13, 14, 15, 16, 17, 18, 19] (by decide) rfl rfl (by decide) (by decide) [0, 17, 1, 2, 3, 4, 5, 6, 7, 8, 18, 19, 9, 10, 11, 12, 13, 14, 15, 16] (by decide) rfl ⟨Nat.zero_le _, Nat.zero_le _⟩ dX3_run_47 (fun H locs w => ?_)
          refine lv_aload_n hx hb dX3_run_50 rfl (lv_at hl 1 rfl) ?_
          refine x_get (v := .ref q) (T := TX3) C w 0 1 rfl rfl (fun _ h => List.mem_cons_of_mem _ (List.mem_append_left _ (List.mem_append_left _ (List.mem_append_left _ (List.mem_append_left _ (List.mem_append_right _ (h))))))) (List.mem_of_getElem? (i := 2) rfl) (by decide) rfl dX3_run_51 ?_
          refine x_get (v := .int ((rxG T tn f1) 5)) (T := TX2) C w 1 5 rfl rfl (fun _ h => List.mem_cons_of_mem _ (List.mem_append_left _ (List.mem_append_left _ (List.mem_append_left _ (List.mem_append_right _ (h)))))) (List.mem_of_getElem? (i := 6) rfl) (by decide) rfl dX3_run_54 ?_
          refine x_ifR_ne (x := (rxG T tn f1) 5) (tgt := 75) hx hb dX3_run_57 (by decide) (fun c57_3 => ?_) (fun c57_3 => ?_)
          ·
            have w : xW D A s.heap (rW3 r o q d1 ++ oW q (rpG T tn f1 G1) ++ sW cI o G1 ++ tW cI t T tn ++ sW cI o2 G2) _ _ := x_ws (cg2 (fun (a b : va_W) => a ++ b) (cg2 (fun (a b : va_W) => a ++ b) (cg2 (fun (a b : va_W) => a ++ b) (cg2 (fun (a b : va_W) => a ++ b) rfl (congrArg (oW q) (by simp [rpG, c25_1, c39_2, c57_3]))) rfl) rfl) rfl) w
            refine lv_aload_n hx hb dX3_run_75 rfl (lv_at hl 1 rfl) ?_
            refine x_get (v := .ref q) (T := TX3) C w 0 1 rfl rfl (fun _ h => List.mem_cons_of_mem _ (List.mem_append_left _ (List.mem_append_left _ (List.mem_append_left _ (List.mem_append_left _ (List.mem_append_right _ (h))))))) (List.mem_of_getElem? (i := 2) rfl) (by decide) rfl dX3_run_76 ?_
            refine x_get (v := .int ((rpG T tn f1 G1) 5)) (T := TX2) C w 1 5 rfl rfl (fun _ h => List.mem_cons_of_mem _ (List.mem_append_left _ (List.mem_append_left _ (List.mem_append_left _ (List.mem_append_right _ (h)))))) (List.mem_of_getElem? (i := 6) rfl) (by decide) rfl dX3_run_79 ?_
            refine x_ifR_eq (x := (rpG T tn f1 G1) 5) (tgt := 86) hx hb dX3_run_82 (by decide) (fun c82_4 => ?_) (fun c82_4 => ?_)
            ·
              have hz := c82_4
              refine lv_aload_n hx hb dX3_run_86 rfl (lv_at hl 1 rfl) ?_
              refine x_callVv (wr := tW cI t T tn ++ sW cI o2 G2) (w2 := rW3 r o q d1 ++ oW q (rpG T tn f1 G1) ++ sW cI o (perG (rpG T tn f1 G1) G1) ++ tW cI t T tn ++ sW cI o2 G2) (rest := []) (n := 0) C w hl [] (k_X3_perform l D cI cS tys ht0 r o q d1 (rpG T tn f1 G1) G1 ) gX3_run_X3_perform rfl (by decide +kernel) ⟨Nat.le_of_ble_eq_true rfl, Nat.le_of_ble_eq_true rfl⟩ 0 3 rfl rfl rfl rfl (Nat.le_of_ble_eq_true rfl) [0, 1, 2, 3, 4, 5, 6, 7, 8, 9] [10, 11, 12, 13, 14, 15, 16, 17, 18, 19] (by decide) rfl rfl (by decide) (by decide) [10, 11, 12, 13, 14, 15, 16, 17, 18, 19, 0, 1, 2, 3, 4, 5, 6, 7, 8, 9] (by decide) rfl ⟨Nat.zero_le _, Nat.zero_le _⟩ dX3_run_87 (fun H locs w => ?_)
              refine lv_aload_n hx hb dX3_run_90 rfl (lv_at hl 1 rfl) ?_
              refine lv_dup hx hb dX3_run_91 rfl ?_
              refine x_get (v := .int d1) (T := TX3) C w 0 2 rfl rfl (fun _ h => List.mem_cons_of_mem _ (List.mem_append_left _ (List.mem_append_left _ (List.mem_append_left _ (List.mem_append_left _ (List.mem_append_right _ (h))))))) (List.mem_of_getElem? (i := 3) rfl) (by decide) rfl dX3_run_92 ?_
              refine lv_iconst (v := 1) hx hb dX3_run_95 (by decide +kernel) ?_
              refine lv_iadd (x := d1) (y := 1) hx hb dX3_run_96 ?_
              refine x_put (v := .int (d1 + 1)) (ty := .int) (T := TX3) (ws2 := rW3 r o q (d1 + 1) ++ oW q (rpG T tn f1 G1) ++ sW cI o (perG (rpG T tn f1 G1) G1) ++ tW cI t T tn ++ sW cI o2 G2) C w 0 2 rfl rfl (fun _ h => List.mem_cons_of_mem _ (List.mem_append_left _ (List.mem_append_left _ (List.mem_append_left _ (List.mem_append_left _ (List.mem_append_right _ (h))))))) tyX3 tyX3_ok nmX3 (List.mem_of_getElem? (i := 3) rfl) (by decide) (Nat.le_of_ble_eq_true rfl) rfl (by decide +kernel) rfl rfl rfl dX3_run_97 (fun H locs w => ?_)
              refine lv_iinc (v := nI (i + 1)) (lv' := [(3, .int (nI (i + 1))), (0, .ref r), (1, .ref (t 0)), (2, .ref (o2 0))]) hx hb dX3_run_100 hl (k := 0) rfl (nI_add i 1) (by decide) rfl (fun ls hl => ?_)
              refine lv_goto (tgt := 22) hx hb dX3_run_103 (by decide) ?_
              have hl : lv_has ls 4 [(3, .int (nI (i + 1))), (0, .ref r), (1, .ref (t 0)), (2, .ref (o2 0))] := lv_eqL (lv_sub (l' := [(3, .int (nI (i + 1))), (0, .ref r), (1, .ref (t 0)), (2, .ref (o2 0))]) hl [0, 1, 2, 3] rfl) (cg2 List.cons rfl (cg2 List.cons rfl (cg2 List.cons rfl (cg2 List.cons rfl rfl))))
              exact ih k' (i + 1) (rpG T tn f1 G1) (perG (rpG T tn f1 G1) G1) (d1 + 1) (by omega) (by omega) (by rw [← hq, runF, if_pos hlt, if_pos hz]) _ _ w _ hl
            ·
              have hr : runF T tn 60 (btG f) G2 0 = (rpG T tn f1 G1, G1, d1) := (by rw [← hq, runF, if_pos hlt, if_neg c82_4])
              exact x_vret C w (cg2 (fun (a b : va_W) => a ++ b) (cg2 (fun (a b : va_W) => a ++ b) (cg2 (fun (a b : va_W) => a ++ b) (cg2 (fun (a b : va_W) => a ++ b) (congrArg (rW3 r o q) (by rw [hr])) (congrArg (oW q) (by rw [hr]))) (congrArg (sW cI o) (by rw [hr]))) rfl) rfl) dX3_run_85
          ·
            refine lv_aload_n hx hb dX3_run_60 rfl (lv_at hl 1 rfl) ?_
            refine x_callVi (wr := tW cI t T tn ++ sW cI o2 G2) (w2 := rW3 r o q d1 ++ oW q (rxG T tn f1) ++ sW cI o G1 ++ tW cI t T tn ++ sW cI o2 G2) (rest := []) (n := 0) C w hl [] (k_X3_isPossible l D cI cS tys ht0 r o q d1 (rxG T tn f1) G1 ) gX3_run_X3_isPossible rfl (by decide +kernel) ⟨Nat.le_of_ble_eq_true rfl, Nat.le_of_ble_eq_true rfl⟩ 0 3 rfl rfl rfl rfl (Nat.le_of_ble_eq_true rfl) [0, 1, 2, 3, 4, 5, 6, 7, 8, 9] [10, 11, 12, 13, 14, 15, 16, 17, 18, 19] (by decide) rfl rfl (by decide) (by decide) [10, 11, 12, 13, 14, 15, 16, 17, 18, 19, 0, 1, 2, 3, 4, 5, 6, 7, 8, 9] (by decide) rfl ⟨Nat.zero_le _, Nat.zero_le _⟩ dX3_run_61 (fun H locs w => ?_)
            refine x_ifB_ne (P := posB (rxG T tn f1) G1 = true) (tgt := 75) hx hb dX3_run_64 (by decide) (fun c64_5 => ?_) (fun c64_5 => ?_)
            ·
              have w : xW D A s.heap (rW3 r o q d1 ++ oW q (rpG T tn f1 G1) ++ sW cI o G1 ++ tW cI t T tn ++ sW cI o2 G2) _ _ := x_ws (cg2 (fun (a b : va_W) => a ++ b) (cg2 (fun (a b : va_W) => a ++ b) (cg2 (fun (a b : va_W) => a ++ b) (cg2 (fun (a b : va_W) => a ++ b) rfl (congrArg (oW q) (by simp [rpG, c25_1, c39_2, c57_3, c64_5]))) rfl) rfl) rfl) w
              refine lv_aload_n hx hb dX3_run_75 rfl (lv_at hl 1 rfl) ?_
              refine x_get (v := .ref q) (T := TX3) C w 0 1 rfl rfl (fun _ h => List.mem_cons_of_mem _ (List.mem_append_left _ (List.mem_append_left _ (List.mem_append_left _ (List.mem_append_left _ (List.mem_append_right _ (h))))))) (List.mem_of_getElem? (i := 2) rfl) (by decide) rfl dX3_run_76 ?_
              refine x_get (v := .int ((rpG T tn f1 G1) 5)) (T := TX2) C w 1 5 rfl rfl (fun _ h => List.mem_cons_of_mem _ (List.mem_append_left _ (List.mem_append_left _ (List.mem_append_left _ (List.mem_append_right _ (h)))))) (List.mem_of_getElem? (i := 6) rfl) (by decide) rfl dX3_run_79 ?_
              refine x_ifR_eq (x := (rpG T tn f1 G1) 5) (tgt := 86) hx hb dX3_run_82 (by decide) (fun c82_6 => ?_) (fun c82_6 => ?_)
              ·
                have hz := c82_6
                refine lv_aload_n hx hb dX3_run_86 rfl (lv_at hl 1 rfl) ?_
                refine x_callVv (wr := tW cI t T tn ++ sW cI o2 G2) (w2 := rW3 r o q d1 ++ oW q (rpG T tn f1 G1) ++ sW cI o (perG (rpG T tn f1 G1) G1) ++ tW cI t T tn ++ sW cI o2 G2) (rest := []) (n := 0) C w hl [] (k_X3_perform l D cI cS tys ht0 r o q d1 (rpG T tn f1 G1) G1 ) gX3_run_X3_perform rfl (by decide +kernel) ⟨Nat.le_of_ble_eq_true rfl, Nat.le_of_ble_eq_true rfl⟩ 0 3 rfl rfl rfl rfl (Nat.le_of_ble_eq_true rfl) [0, 1, 2, 3, 4, 5, 6, 7, 8, 9] [10, 11, 12, 13, 14, 15, 16, 17, 18, 19] (by decide) rfl rfl (by decide) (by decide) [10, 11, 12, 13, 14, 15, 16, 17, 18, 19, 0, 1, 2, 3, 4, 5, 6, 7, 8, 9] (by decide) rfl ⟨Nat.zero_le _, Nat.zero_le _⟩ dX3_run_87 (fun H locs w => ?_)
                refine lv_aload_n hx hb dX3_run_90 rfl (lv_at hl 1 rfl) ?_
                refine lv_dup hx hb dX3_run_91 rfl ?_
                refine x_get (v := .int d1) (T := TX3) C w 0 2 rfl rfl (fun _ h => List.mem_cons_of_mem _ (List.mem_append_left _ (List.mem_append_left _ (List.mem_append_left _ (List.mem_append_left _ (List.mem_append_right _ (h))))))) (List.mem_of_getElem? (i := 3) rfl) (by decide) rfl dX3_run_92 ?_
                refine lv_iconst (v := 1) hx hb dX3_run_95 (by decide +kernel) ?_
                refine lv_iadd (x := d1) (y := 1) hx hb dX3_run_96 ?_
                refine x_put (v := .int (d1 + 1)) (ty := .int) (T := TX3) (ws2 := rW3 r o q (d1 + 1) ++ oW q (rpG T tn f1 G1) ++ sW cI o (perG (rpG T tn f1 G1) G1) ++ tW cI t T tn ++ sW cI o2 G2) C w 0 2 rfl rfl (fun _ h => List.mem_cons_of_mem _ (List.mem_append_left _ (List.mem_append_left _ (List.mem_append_left _ (List.mem_append_left _ (List.mem_append_right _ (h))))))) tyX3 tyX3_ok nmX3 (List.mem_of_getElem? (i := 3) rfl) (by decide) (Nat.le_of_ble_eq_true rfl) rfl (by decide +kernel) rfl rfl rfl dX3_run_97 (fun H locs w => ?_)
                refine lv_iinc (v := nI (i + 1)) (lv' := [(3, .int (nI (i + 1))), (0, .ref r), (1, .ref (t 0)), (2, .ref (o2 0))]) hx hb dX3_run_100 hl (k := 0) rfl (nI_add i 1) (by decide) rfl (fun ls hl => ?_)
                refine lv_goto (tgt := 22) hx hb dX3_run_103 (by decide) ?_
                have hl : lv_has ls 4 [(3, .int (nI (i + 1))), (0, .ref r), (1, .ref (t 0)), (2, .ref (o2 0))] := lv_eqL (lv_sub (l' := [(3, .int (nI (i + 1))), (0, .ref r), (1, .ref (t 0)), (2, .ref (o2 0))]) hl [0, 1, 2, 3] rfl) (cg2 List.cons rfl (cg2 List.cons rfl (cg2 List.cons rfl (cg2 List.cons rfl rfl))))
                exact ih k' (i + 1) (rpG T tn f1 G1) (perG (rpG T tn f1 G1) G1) (d1 + 1) (by omega) (by omega) (by rw [← hq, runF, if_pos hlt, if_pos hz]) _ _ w _ hl
              ·
                have hr : runF T tn 60 (btG f) G2 0 = (rpG T tn f1 G1, G1, d1) := (by rw [← hq, runF, if_pos hlt, if_neg c82_6])
                exact x_vret C w (cg2 (fun (a b : va_W) => a ++ b) (cg2 (fun (a b : va_W) => a ++ b) (cg2 (fun (a b : va_W) => a ++ b) (cg2 (fun (a b : va_W) => a ++ b) (congrArg (rW3 r o q) (by rw [hr])) (congrArg (oW q) (by rw [hr]))) (congrArg (sW cI o) (by rw [hr]))) rfl) rfl) dX3_run_85
            ·
              refine lv_aload_n hx hb dX3_run_67 rfl (lv_at hl 1 rfl) ?_
              refine x_get (v := .ref q) (T := TX3) C w 0 1 rfl rfl (fun _ h => List.mem_cons_of_mem _ (List.mem_append_left _ (List.mem_append_left _ (List.mem_append_left _ (List.mem_append_left _ (List.mem_append_right _ (h))))))) (List.mem_of_getElem? (i := 2) rfl) (by decide) rfl dX3_run_68 ?_
              refine lv_iconst (v := 3) hx hb dX3_run_71 (by decide +kernel) ?_
              refine x_put (v := .int 3) (ty := .int) (T := TX2) (ws2 := rW3 r o q d1 ++ oW q (upd (rxG T tn f1) 5 3) ++ sW cI o G1 ++ tW cI t T tn ++ sW cI o2 G2) C w 1 5 rfl rfl (fun _ h => List.mem_cons_of_mem _ (List.mem_append_left _ (List.mem_append_left _ (List.mem_append_left _ (List.mem_append_right _ (h)))))) tyX2 tyX2_ok nmX2 (List.mem_of_getElem? (i := 6) rfl) (by decide) (Nat.le_of_ble_eq_true rfl) rfl (by decide +kernel) rfl rfl (oWc5 _ _ _ _ _ _ _ _ _) dX3_run_72 (fun H locs w => ?_)
              have w : xW D A s.heap (rW3 r o q d1 ++ oW q (rpG T tn f1 G1) ++ sW cI o G1 ++ tW cI t T tn ++ sW cI o2 G2) _ _ := x_ws (cg2 (fun (a b : va_W) => a ++ b) (cg2 (fun (a b : va_W) => a ++ b) (cg2 (fun (a b : va_W) => a ++ b) (cg2 (fun (a b : va_W) => a ++ b) rfl (congrArg (oW q) (by simp [rpG, c25_1, c39_2, c57_3, c64_5]))) rfl) rfl) rfl) w
              refine lv_aload_n hx hb dX3_run_75 rfl (lv_at hl 1 rfl) ?_
              refine x_get (v := .ref q) (T := TX3) C w 0 1 rfl rfl (fun _ h => List.mem_cons_of_mem _ (List.mem_append_left _ (List.mem_append_left _ (List.mem_append_left _ (List.mem_append_left _ (List.mem_append_right _ (h))))))) (List.mem_of_getElem? (i := 2) rfl) (by decide) rfl dX3_run_76 ?_
              refine x_get (v := .int ((rpG T tn f1 G1) 5)) (T := TX2) C w 1 5 rfl rfl (fun _ h => List.mem_cons_of_mem _ (List.mem_append_left _ (List.mem_append_left _ (List.mem_append_left _ (List.mem_append_right _ (h)))))) (List.mem_of_getElem? (i := 6) rfl) (by decide) rfl dX3_run_79 ?_
              refine x_ifR_eq (x := (rpG T tn f1 G1) 5) (tgt := 86) hx hb dX3_run_82 (by decide) (fun c82_7 => ?_) (fun c82_7 => ?_)
              ·
                have hz := c82_7
                refine lv_aload_n hx hb dX3_run_86 rfl (lv_at hl 1 rfl) ?_
                refine x_callVv (wr := tW cI t T tn ++ sW cI o2 G2) (w2 := rW3 r o q d1 ++ oW q (rpG T tn f1 G1) ++ sW cI o (perG (rpG T tn f1 G1) G1) ++ tW cI t T tn ++ sW cI o2 G2) (rest := []) (n := 0) C w hl [] (k_X3_perform l D cI cS tys ht0 r o q d1 (rpG T tn f1 G1) G1 ) gX3_run_X3_perform rfl (by decide +kernel) ⟨Nat.le_of_ble_eq_true rfl, Nat.le_of_ble_eq_true rfl⟩ 0 3 rfl rfl rfl rfl (Nat.le_of_ble_eq_true rfl) [0, 1, 2, 3, 4, 5, 6, 7, 8, 9] [10, 11, 12, 13, 14, 15, 16, 17, 18, 19] (by decide) rfl rfl (by decide) (by decide) [10, 11, 12, 13, 14, 15, 16, 17, 18, 19, 0, 1, 2, 3, 4, 5, 6, 7, 8, 9] (by decide) rfl ⟨Nat.zero_le _, Nat.zero_le _⟩ dX3_run_87 (fun H locs w => ?_)
                refine lv_aload_n hx hb dX3_run_90 rfl (lv_at hl 1 rfl) ?_
                refine lv_dup hx hb dX3_run_91 rfl ?_
                refine x_get (v := .int d1) (T := TX3) C w 0 2 rfl rfl (fun _ h => List.mem_cons_of_mem _ (List.mem_append_left _ (List.mem_append_left _ (List.mem_append_left _ (List.mem_append_left _ (List.mem_append_right _ (h))))))) (List.mem_of_getElem? (i := 3) rfl) (by decide) rfl dX3_run_92 ?_
                refine lv_iconst (v := 1) hx hb dX3_run_95 (by decide +kernel) ?_
                refine lv_iadd (x := d1) (y := 1) hx hb dX3_run_96 ?_
                refine x_put (v := .int (d1 + 1)) (ty := .int) (T := TX3) (ws2 := rW3 r o q (d1 + 1) ++ oW q (rpG T tn f1 G1) ++ sW cI o (perG (rpG T tn f1 G1) G1) ++ tW cI t T tn ++ sW cI o2 G2) C w 0 2 rfl rfl (fun _ h => List.mem_cons_of_mem _ (List.mem_append_left _ (List.mem_append_left _ (List.mem_append_left _ (List.mem_append_left _ (List.mem_append_right _ (h))))))) tyX3 tyX3_ok nmX3 (List.mem_of_getElem? (i := 3) rfl) (by decide) (Nat.le_of_ble_eq_true rfl) rfl (by decide +kernel) rfl rfl rfl dX3_run_97 (fun H locs w => ?_)
                refine lv_iinc (v := nI (i + 1)) (lv' := [(3, .int (nI (i + 1))), (0, .ref r), (1, .ref (t 0)), (2, .ref (o2 0))]) hx hb dX3_run_100 hl (k := 0) rfl (nI_add i 1) (by decide) rfl (fun ls hl => ?_)
                refine lv_goto (tgt := 22) hx hb dX3_run_103 (by decide) ?_
                have hl : lv_has ls 4 [(3, .int (nI (i + 1))), (0, .ref r), (1, .ref (t 0)), (2, .ref (o2 0))] := lv_eqL (lv_sub (l' := [(3, .int (nI (i + 1))), (0, .ref r), (1, .ref (t 0)), (2, .ref (o2 0))]) hl [0, 1, 2, 3] rfl) (cg2 List.cons rfl (cg2 List.cons rfl (cg2 List.cons rfl (cg2 List.cons rfl rfl))))
                exact ih k' (i + 1) (rpG T tn f1 G1) (perG (rpG T tn f1 G1) G1) (d1 + 1) (by omega) (by omega) (by rw [← hq, runF, if_pos hlt, if_pos hz]) _ _ w _ hl
              ·
                have hr : runF T tn 60 (btG f) G2 0 = (rpG T tn f1 G1, G1, d1) := (by rw [← hq, runF, if_pos hlt, if_neg c82_7])
                exact x_vret C w (cg2 (fun (a b : va_W) => a ++ b) (cg2 (fun (a b : va_W) => a ++ b) (cg2 (fun (a b : va_W) => a ++ b) (cg2 (fun (a b : va_W) => a ++ b) (congrArg (rW3 r o q) (by rw [hr])) (congrArg (oW q) (by rw [hr]))) (congrArg (sW cI o) (by rw [hr]))) rfl) rfl) dX3_run_85
  have q8 : 0 = (nI 0 : Int32) := (by first | rfl | contradiction | (simp []; done))
  have hl : lv_has ls 4 [(3, .int (nI 0)), (0, .ref r), (1, .ref (t 0)), (2, .ref (o2 0))] := lv_eqL (lv_sub (l' := [(3, .int 0), (0, .ref r), (1, .ref (t 0)), (2, .ref (o2 0))]) hl [0, 1, 2, 3] rfl) (cg2 List.cons (congrArg (fun z => ((3 : Nat), Value.int z)) q8) (cg2 List.cons rfl (cg2 List.cons rfl (cg2 List.cons rfl rfl))))
  exact loop_22 (61) 60 0 (btG f) G2 0 (by omega) rfl rfl _ _ w _ hl
