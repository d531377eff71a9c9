set_option maxHeartbeats 1000000 in
set_option maxRecDepth 100000 in
theorem k_X6_wouldFlush_ok (l : Launch) (D : va_G) (cI cS : ClassId) (tys : List (ClassId × FieldType)) (ht0 : tys[0]? = some (cI, .int)) (ht1 : tys[1]? = some (cS, .object RX4)) (x : Nat) (o : Nat → Nat) (h : Nat → Nat) (b : Nat → Nat → Nat) (t : Nat → Nat) (r : Nat) (q : Nat) (u : Nat → Nat) (tb : Nat) (G : St) (k : Nat) (Hs : Nat → St) (T : Nat → Int32) (tn : Int32) (f : Nat → Int32) (d : Int32) (U : St) (B : St) (a1 : Int32) (hok : wth a1 1 999 = true) : xI l yX6_wouldFlush wsX6_wouldFlush 3 D tys [.ref x, .int a1] (List.flatten [xTop x o h t r tb, sW cI o G, hH cS h b (nI k), sW cI (b 0) (Hs 0), sW cI (b 1) (Hs 1), sW cI (b 2) (Hs 2), sW cI (b 3) (Hs 3), tW cI t T tn, rW3 r u q d, oW q f, sW cI u U, bW tb B]) (wfI G a1) (List.flatten [xTop x o h t r tb, sW cI o G, hH cS h b (nI k), sW cI (b 0) (Hs 0), sW cI (b 1) (Hs 1), sW cI (b 2) (Hs 2), sW cI (b 3) (Hs 3), tW cI t T tn, rW3 r u q d, oW q f, sW cI u U, bW tb (useG G a1)]) := by
  refine x_inI (cc := cX6_wouldFlush) (maxL := 2) (ret := (some .int)) (by decide) rfl (Nat.le_of_ble_eq_true rfl) ?_
  intro p e s m args below meth c A ls C w hl
  have C : xC p s m meth c args cX6_wouldFlush 2 wsX6_wouldFlush RX6 D tys (some .int) := C
  have hx := C.1.1
  have hb := C.1.2.1
  have hts := C.1.2.2.2.2
  have hown := C.1.2.2.2.1
  have w : xW D A s.heap (List.flatten [xTop x o h t r tb, sW cI o G, hH cS h b (nI k), sW cI (b 0) (Hs 0), sW cI (b 1) (Hs 1), sW cI (b 2) (Hs 2), sW cI (b 3) (Hs 3), tW cI t T tn, rW3 r u q d, oW q f, sW cI u U, bW tb B]) s.heap [] := w
  have hl : lv_has ls 2 [(0, .ref x), (1, .int a1)] := hl
  refine lv_iload_n hx hb dX6_wouldFlush_0 rfl (lv_at hl 1 rfl) ?_
  refine lv_iconst (v := 1) hx hb dX6_wouldFlush_1 (by decide +kernel) ?_
  refine lv_sipush (v := 999) hx hb dX6_wouldFlush_2 (by decide +kernel) ?_
  refine x_callSiB (wr := List.flatten [xTop x o h t r tb, sW cI o G, hH cS h b (nI k), sW cI (b 0) (Hs 0), sW cI (b 1) (Hs 1), sW cI (b 2) (Hs 2), sW cI (b 3) (Hs 3), tW cI t T tn, rW3 r u q d, oW q f, sW cI u U, bW tb B]) (w2 := List.flatten [xTop x o h t r tb, sW cI o G, hH cS h b (nI k), sW cI (b 0) (Hs 0), sW cI (b 1) (Hs 1), sW cI (b 2) (Hs 2), sW cI (b 3) (Hs 3), tW cI t T tn, rW3 r u q d, oW q f, sW cI u U, bW tb B]) (rest := []) (n := 3) C w hl [.int a1, .int 1, .int 999] (k_X6_isWithin l D cI cS tys ht0 a1 1 999 ) gX6_wouldFlush_X6_isWithin rfl (by decide +kernel) ⟨Nat.le_of_ble_eq_true rfl, Nat.le_of_ble_eq_true rfl⟩ rfl rfl (Nat.le_of_ble_eq_true rfl) (List.Perm.refl _) (List.Perm.refl _) ⟨Nat.zero_le _, Nat.zero_le _⟩ dX6_wouldFlush_5 (fun H locs w => ?_)
  refine x_ifB_ne (P := wth a1 1 999 = true) (tgt := 14) hx hb dX6_wouldFlush_8 (by decide) (fun c8_1 => ?_) (fun c8_1 => ?_)
  ·
    refine lv_aload_n hx hb dX6_wouldFlush_14 rfl (lv_at hl 0 rfl) ?_
    refine x_get (v := .ref tb) (T := TX6) C (x_pc (b := xTop x o h t r tb) w 0 rfl) 0 4 rfl rfl (fun _ h => List.mem_cons_of_mem _ (List.mem_append_left _ (List.mem_append_left _ (List.mem_append_right _ (h))))) (List.mem_of_getElem? (i := 2) rfl) (by decide) rfl dX6_wouldFlush_15 ?_
    refine lv_aload_n hx hb dX6_wouldFlush_18 rfl (lv_at hl 0 rfl) ?_
    refine x_get (v := .ref (o 0)) (T := TX6) C (x_pc (b := xTop x o h t r tb) w 0 rfl) 0 0 rfl rfl (fun _ h => List.mem_cons_of_mem _ (List.mem_append_left _ (List.mem_append_left _ (List.mem_append_right _ (h))))) (List.mem_of_getElem? (i := 3) rfl) (by decide) rfl dX6_wouldFlush_19 ?_
    refine x_get (v := .ref (o 1)) (T := TX4) C (x_pc (b := sW cI o G) w 1 rfl) 0 0 rfl rfl (fun _ h => List.mem_cons_of_mem _ (List.mem_append_left _ (List.mem_append_right _ (h)))) (List.mem_of_getElem? (i := 4) rfl) (by decide) rfl dX6_wouldFlush_22 ?_
    have w : xW D A s.heap (List.flatten [sW cI o G, xTop x o h t r tb, hH cS h b (nI k), sW cI (b 0) (Hs 0), sW cI (b 1) (Hs 1), sW cI (b 2) (Hs 2), sW cI (b 3) (Hs 3), tW cI t T tn, rW3 r u q d, oW q f, sW cI u U, bW tb B]) _ _ := x_perm (bl_of [xTop x o h t r tb, sW cI o G, hH cS h b (nI k), sW cI (b 0) (Hs 0), sW cI (b 1) (Hs 1), sW cI (b 2) (Hs 2), sW cI (b 3) (Hs 3), tW cI t T tn, rW3 r u q d, oW q f, sW cI u U, bW tb B] [sW cI o G, xTop x o h t r tb, hH cS h b (nI k), sW cI (b 0) (Hs 0), sW cI (b 1) (Hs 1), sW cI (b 2) (Hs 2), sW cI (b 3) (Hs 3), tW cI t T tn, rW3 r u q d, oW q f, sW cI u U, bW tb B] [1, 0, 2, 3, 4, 5, 6, 7, 8, 9, 10, 11] 12 rfl (by decide) rfl) w
    have w : xW D A s.heap (List.flatten [bW (o 1) G, sR cI o G, xTop x o h t r tb, hH cS h b (nI k), sW cI (b 0) (Hs 0), sW cI (b 1) (Hs 1), sW cI (b 2) (Hs 2), sW cI (b 3) (Hs 3), tW cI t T tn, rW3 r u q d, oW q f, sW cI u U, bW tb B]) _ _ := x_perm ((List.Perm.append_right _ (sW_sR cI o G)).trans (List.Perm.of_eq (List.append_assoc _ _ _))) w
    have w : xW D A s.heap (List.flatten [bW tb B, bW (o 1) G, sR cI o G, xTop x o h t r tb, hH cS h b (nI k), sW cI (b 0) (Hs 0), sW cI (b 1) (Hs 1), sW cI (b 2) (Hs 2), sW cI (b 3) (Hs 3), tW cI t T tn, rW3 r u q d, oW q f, sW cI u U]) _ _ := x_perm (bl_of [bW (o 1) G, sR cI o G, xTop x o h t r tb, hH cS h b (nI k), sW cI (b 0) (Hs 0), sW cI (b 1) (Hs 1), sW cI (b 2) (Hs 2), sW cI (b 3) (Hs 3), tW cI t T tn, rW3 r u q d, oW q f, sW cI u U, bW tb B] [bW tb B, bW (o 1) G, sR cI o G, xTop x o h t r tb, hH cS h b (nI k), sW cI (b 0) (Hs 0), sW cI (b 1) (Hs 1), sW cI (b 2) (Hs 2), sW cI (b 3) (Hs 3), tW cI t T tn, rW3 r u q d, oW q f, sW cI u U] [12, 0, 1, 2, 3, 4, 5, 6, 7, 8, 9, 10, 11] 13 rfl (by decide) rfl) w
    refine x_callVvB (wr := List.flatten [sR cI o G, xTop x o h t r tb, hH cS h b (nI k), sW cI (b 0) (Hs 0), sW cI (b 1) (Hs 1), sW cI (b 2) (Hs 2), sW cI (b 3) (Hs 3), tW cI t T tn, rW3 r u q d, oW q f, sW cI u U]) (w2 := List.flatten [bW tb G, bW (o 1) G, sR cI o G, xTop x o h t r tb, hH cS h b (nI k), sW cI (b 0) (Hs 0), sW cI (b 1) (Hs 1), sW cI (b 2) (Hs 2), sW cI (b 3) (Hs 3), tW cI t T tn, rW3 r u q d, oW q f, sW cI u U]) (rest := []) (n := 1) C w hl [.ref (o 1)] (k_X0_copyFrom l D cI cS tys ht0 tb B (o 1) G ) gX6_wouldFlush_X0_copyFrom rfl (by decide +kernel) ⟨Nat.le_of_ble_eq_true rfl, Nat.le_of_ble_eq_true rfl⟩ 0 0 rfl rfl rfl rfl (Nat.le_of_ble_eq_true rfl) (List.Perm.of_eq (by simp only [List.flatten_cons, List.flatten_nil, List.append_nil, List.append_assoc, List.nil_append])) (List.Perm.of_eq (by simp only [List.flatten_cons, List.flatten_nil, List.append_nil, List.append_assoc, List.nil_append])) ⟨Nat.zero_le _, Nat.zero_le _⟩ dX6_wouldFlush_25 (fun H locs w => ?_)
    have w : xW D A s.heap (List.flatten [bW (o 1) G, sR cI o G, bW tb G, xTop x o h t r tb, hH cS h b (nI k), sW cI (b 0) (Hs 0), sW cI (b 1) (Hs 1), sW cI (b 2) (Hs 2), sW cI (b 3) (Hs 3), tW cI t T tn, rW3 r u q d, oW q f, sW cI u U]) _ _ := x_perm (bl_of [bW tb G, bW (o 1) G, sR cI o G, xTop x o h t r tb, hH cS h b (nI k), sW cI (b 0) (Hs 0), sW cI (b 1) (Hs 1), sW cI (b 2) (Hs 2), sW cI (b 3) (Hs 3), tW cI t T tn, rW3 r u q d, oW q f, sW cI u U] [bW (o 1) G, sR cI o G, bW tb G, xTop x o h t r tb, hH cS h b (nI k), sW cI (b 0) (Hs 0), sW cI (b 1) (Hs 1), sW cI (b 2) (Hs 2), sW cI (b 3) (Hs 3), tW cI t T tn, rW3 r u q d, oW q f, sW cI u U] [1, 2, 0, 3, 4, 5, 6, 7, 8, 9, 10, 11, 12] 13 rfl (by decide) rfl) w
    have w : xW D A s.heap (List.flatten [sW cI o G, bW tb G, xTop x o h t r tb, hH cS h b (nI k), sW cI (b 0) (Hs 0), sW cI (b 1) (Hs 1), sW cI (b 2) (Hs 2), sW cI (b 3) (Hs 3), tW cI t T tn, rW3 r u q d, oW q f, sW cI u U]) _ _ := x_perm ((List.Perm.of_eq (List.append_assoc _ _ _)).symm.trans (List.Perm.append_right _ (sW_sR cI o G).symm)) w
    refine lv_aload_n hx hb dX6_wouldFlush_28 rfl (lv_at hl 0 rfl) ?_
    refine x_get (v := .ref tb) (T := TX6) C (x_pc (b := xTop x o h t r tb) w 2 rfl) 0 4 rfl rfl (fun _ h => List.mem_cons_of_mem _ (List.mem_append_left _ (List.mem_append_left _ (List.mem_append_right _ (h))))) (List.mem_of_getElem? (i := 2) rfl) (by decide) rfl dX6_wouldFlush_29 ?_
    refine lv_iload_n hx hb dX6_wouldFlush_32 rfl (lv_at hl 1 rfl) ?_
    have w : xW D A s.heap (List.flatten [bW tb G, sW cI o G, xTop x o h t r tb, hH cS h b (nI k), sW cI (b 0) (Hs 0), sW cI (b 1) (Hs 1), sW cI (b 2) (Hs 2), sW cI (b 3) (Hs 3), tW cI t T tn, rW3 r u q d, oW q f, sW cI u U]) _ _ := x_perm (bl_of [sW cI o G, bW tb G, xTop x o h t r tb, hH cS h b (nI k), sW cI (b 0) (Hs 0), sW cI (b 1) (Hs 1), sW cI (b 2) (Hs 2), sW cI (b 3) (Hs 3), tW cI t T tn, rW3 r u q d, oW q f, sW cI u U] [bW tb G, sW cI o G, xTop x o h t r tb, hH cS h b (nI k), sW cI (b 0) (Hs 0), sW cI (b 1) (Hs 1), sW cI (b 2) (Hs 2), sW cI (b 3) (Hs 3), tW cI t T tn, rW3 r u q d, oW q f, sW cI u U] [1, 0, 2, 3, 4, 5, 6, 7, 8, 9, 10, 11] 12 rfl (by decide) rfl) w
    refine x_callVvB (wr := List.flatten [sW cI o G, xTop x o h t r tb, hH cS h b (nI k), sW cI (b 0) (Hs 0), sW cI (b 1) (Hs 1), sW cI (b 2) (Hs 2), sW cI (b 3) (Hs 3), tW cI t T tn, rW3 r u q d, oW q f, sW cI u U]) (w2 := List.flatten [bW tb (useG G a1), sW cI o G, xTop x o h t r tb, hH cS h b (nI k), sW cI (b 0) (Hs 0), sW cI (b 1) (Hs 1), sW cI (b 2) (Hs 2), sW cI (b 3) (Hs 3), tW cI t T tn, rW3 r u q d, oW q f, sW cI u U]) (rest := []) (n := 1) C w hl [.int a1] (k_X0_useUp l D cI cS tys ht0 tb G a1 ) gX6_wouldFlush_X0_useUp rfl (by decide +kernel) ⟨Nat.le_of_ble_eq_true rfl, Nat.le_of_ble_eq_true rfl⟩ 0 0 rfl rfl rfl rfl (Nat.le_of_ble_eq_true rfl) (List.Perm.refl _) (List.Perm.refl _) ⟨Nat.zero_le _, Nat.zero_le _⟩ dX6_wouldFlush_33 (fun H locs w => ?_)
    refine lv_aload_n hx hb dX6_wouldFlush_36 rfl (lv_at hl 0 rfl) ?_
    refine x_get (v := .ref (o 0)) (T := TX6) C (x_pc (b := xTop x o h t r tb) w 2 rfl) 0 0 rfl rfl (fun _ h => List.mem_cons_of_mem _ (List.mem_append_left _ (List.mem_append_left _ (List.mem_append_right _ (h))))) (List.mem_of_getElem? (i := 3) rfl) (by decide) rfl dX6_wouldFlush_37 ?_
    refine lv_iconst (v := 2) hx hb dX6_wouldFlush_40 (by decide +kernel) ?_
    have w : xW D A s.heap (List.flatten [sW cI o G, bW tb (useG G a1), xTop x o h t r tb, hH cS h b (nI k), sW cI (b 0) (Hs 0), sW cI (b 1) (Hs 1), sW cI (b 2) (Hs 2), sW cI (b 3) (Hs 3), tW cI t T tn, rW3 r u q d, oW q f, sW cI u U]) _ _ := x_perm (bl_of [bW tb (useG G a1), sW cI o G, xTop x o h t r tb, hH cS h b (nI k), sW cI (b 0) (Hs 0), sW cI (b 1) (Hs 1), sW cI (b 2) (Hs 2), sW cI (b 3) (Hs 3), tW cI t T tn, rW3 r u q d, oW q f, sW cI u U] [sW cI o G, bW tb (useG G a1), xTop x o h t r tb, hH cS h b (nI k), sW cI (b 0) (Hs 0), sW cI (b 1) (Hs 1), sW cI (b 2) (Hs 2), sW cI (b 3) (Hs 3), tW cI t T tn, rW3 r u q d, oW q f, sW cI u U] [1, 0, 2, 3, 4, 5, 6, 7, 8, 9, 10, 11] 12 rfl (by decide) rfl) w
    refine x_callViB (wr := List.flatten [bW tb (useG G a1), xTop x o h t r tb, hH cS h b (nI k), sW cI (b 0) (Hs 0), sW cI (b 1) (Hs 1), sW cI (b 2) (Hs 2), sW cI (b 3) (Hs 3), tW cI t T tn, rW3 r u q d, oW q f, sW cI u U]) (w2 := List.flatten [sW cI o G, bW tb (useG G a1), xTop x o h t r tb, hH cS h b (nI k), sW cI (b 0) (Hs 0), sW cI (b 1) (Hs 1), sW cI (b 2) (Hs 2), sW cI (b 3) (Hs 3), tW cI t T tn, rW3 r u q d, oW q f, sW cI u U]) (rest := []) (n := 1) C w hl [.int 2] (k_X4_numberOf l D cI cS tys ht0 o G 2 ) gX6_wouldFlush_X4_numberOf rfl (by decide +kernel) ⟨Nat.le_of_ble_eq_true rfl, Nat.le_of_ble_eq_true rfl⟩ 0 4 rfl rfl rfl rfl (Nat.le_of_ble_eq_true rfl) (List.Perm.refl _) (List.Perm.refl _) ⟨Nat.zero_le _, Nat.zero_le _⟩ dX6_wouldFlush_41 (fun H locs w => ?_)
    refine lv_aload_n hx hb dX6_wouldFlush_44 rfl (lv_at hl 0 rfl) ?_
    refine x_get (v := .ref tb) (T := TX6) C (x_pc (b := xTop x o h t r tb) w 2 rfl) 0 4 rfl rfl (fun _ h => List.mem_cons_of_mem _ (List.mem_append_left _ (List.mem_append_left _ (List.mem_append_right _ (h))))) (List.mem_of_getElem? (i := 2) rfl) (by decide) rfl dX6_wouldFlush_45 ?_
    have w : xW D A s.heap (List.flatten [bW tb (useG G a1), sW cI o G, xTop x o h t r tb, hH cS h b (nI k), sW cI (b 0) (Hs 0), sW cI (b 1) (Hs 1), sW cI (b 2) (Hs 2), sW cI (b 3) (Hs 3), tW cI t T tn, rW3 r u q d, oW q f, sW cI u U]) _ _ := x_perm (bl_of [sW cI o G, bW tb (useG G a1), xTop x o h t r tb, hH cS h b (nI k), sW cI (b 0) (Hs 0), sW cI (b 1) (Hs 1), sW cI (b 2) (Hs 2), sW cI (b 3) (Hs 3), tW cI t T tn, rW3 r u q d, oW q f, sW cI u U] [bW tb (useG G a1), sW cI o G, xTop x o h t r tb, hH cS h b (nI k), sW cI (b 0) (Hs 0), sW cI (b 1) (Hs 1), sW cI (b 2) (Hs 2), sW cI (b 3) (Hs 3), tW cI t T tn, rW3 r u q d, oW q f, sW cI u U] [1, 0, 2, 3, 4, 5, 6, 7, 8, 9, 10, 11] 12 rfl (by decide) rfl) w
    refine x_callViB (wr := List.flatten [sW cI o G, xTop x o h t r tb, hH cS h b (nI k), sW cI (b 0) (Hs 0), sW cI (b 1) (Hs 1), sW cI (b 2) (Hs 2), sW cI (b 3) (Hs 3), tW cI t T tn, rW3 r u q d, oW q f, sW cI u U]) (w2 := List.flatten [bW tb (useG G a1), sW cI o G, xTop x o h t r tb, hH cS h b (nI k), sW cI (b 0) (Hs 0), sW cI (b 1) (Hs 1), sW cI (b 2) (Hs 2), sW cI (b 3) (Hs 3), tW cI t T tn, rW3 r u q d, oW q f, sW cI u U]) (rest := [.int (nofI G 2)]) (n := 0) C w hl [] (k_X0_allowance l D cI cS tys ht0 tb (useG G a1) ) gX6_wouldFlush_X0_allowance rfl (by decide +kernel) ⟨Nat.le_of_ble_eq_true rfl, Nat.le_of_ble_eq_true rfl⟩ 0 0 rfl rfl rfl rfl (Nat.le_of_ble_eq_true rfl) (List.Perm.refl _) (List.Perm.refl _) ⟨Nat.zero_le _, Nat.zero_le _⟩ dX6_wouldFlush_48 (fun H locs w => ?_)
    refine lv_isub (x := nofI G 2) (y := alwI (useG G a1)) hx hb dX6_wouldFlush_51 ?_
    refine lv_iconst (v := 0) hx hb dX6_wouldFlush_52 (by decide +kernel) ?_
    refine x_max (x := ((nofI G 2) - (alwI (useG G a1)))) (z := 0) (v := (maI ((nofI G 2) - (alwI (useG G a1))) 0)) C hl (List.mem_of_getElem? (i := 5) rfl) (List.mem_of_getElem? (i := 6) rfl) (List.mem_of_getElem? (i := 7) rfl) (List.mem_of_getElem? (i := 8) rfl) ⟨Nat.le_of_ble_eq_true rfl, Nat.le_of_ble_eq_true rfl⟩ ⟨Nat.zero_le _, Nat.zero_le _⟩ rfl dX6_wouldFlush_53 ?_
    have w : xW D A s.heap (List.flatten [xTop x o h t r tb, sW cI o G, hH cS h b (nI k), sW cI (b 0) (Hs 0), sW cI (b 1) (Hs 1), sW cI (b 2) (Hs 2), sW cI (b 3) (Hs 3), tW cI t T tn, rW3 r u q d, oW q f, sW cI u U, bW tb (useG G a1)]) _ _ := x_perm (bl_of [bW tb (useG G a1), sW cI o G, xTop x o h t r tb, hH cS h b (nI k), sW cI (b 0) (Hs 0), sW cI (b 1) (Hs 1), sW cI (b 2) (Hs 2), sW cI (b 3) (Hs 3), tW cI t T tn, rW3 r u q d, oW q f, sW cI u U] [xTop x o h t r tb, sW cI o G, hH cS h b (nI k), sW cI (b 0) (Hs 0), sW cI (b 1) (Hs 1), sW cI (b 2) (Hs 2), sW cI (b 3) (Hs 3), tW cI t T tn, rW3 r u q d, oW q f, sW cI u U, bW tb (useG G a1)] [2, 1, 3, 4, 5, 6, 7, 8, 9, 10, 11, 0] 12 rfl (by decide) rfl) w
    exact x_iret C w (by first | rfl | contradiction | (simp [c8_1]; done)) rfl dX6_wouldFlush_56
  ·
    exact absurd hok c8_1
set_option maxHeartbeats 1000000 in
set_option maxRecDepth 100000 in
theorem k_X6_wouldFlush_no (l : Launch) (D : va_G) (cI cS : ClassId) (tys : List (ClassId × FieldType)) (ht0 : tys[0]? = some (cI, .int)) (ht1 : tys[1]? = some (cS, .object RX4)) (x : Nat) (o : Nat → Nat) (h : Nat → Nat) (b : Nat → Nat → Nat) (t : Nat → Nat) (r : Nat) (q : Nat) (u : Nat → Nat) (tb : Nat) (G : St) (k : Nat) (Hs : Nat → St) (T : Nat → Int32) (tn : Int32) (f : Nat → Int32) (d : Int32) (U : St) (B : St) (a1 : Int32) (hno : ¬ wth a1 1 999 = true) : xI l yX6_wouldFlush wsX6_wouldFlush 3 D tys [.ref x, .int a1] (List.flatten [xTop x o h t r tb, sW cI o G, hH cS h b (nI k), sW cI (b 0) (Hs 0), sW cI (b 1) (Hs 1), sW cI (b 2) (Hs 2), sW cI (b 3) (Hs 3), tW cI t T tn, rW3 r u q d, oW q f, sW cI u U, bW tb B]) (-1000001) (List.flatten [xTop x o h t r tb, sW cI o G, hH cS h b (nI k), sW cI (b 0) (Hs 0), sW cI (b 1) (Hs 1), sW cI (b 2) (Hs 2), sW cI (b 3) (Hs 3), tW cI t T tn, rW3 r u q d, oW q f, sW cI u U, bW tb B]) := by
  refine x_inI (cc := cX6_wouldFlush) (maxL := 2) (ret := (some .int)) (by decide) rfl (Nat.le_of_ble_eq_true rfl) ?_
  intro p e s m args below meth c A ls C w hl
  have C : xC p s m meth c args cX6_wouldFlush 2 wsX6_wouldFlush RX6 D tys (some .int) := C
  have hx := C.1.1
  have hb := C.1.2.1
  have hts := C.1.2.2.2.2
  have hown := C.1.2.2.2.1
  have w : xW D A s.heap (List.flatten [xTop x o h t r tb, sW cI o G, hH cS h b (nI k), sW cI (b 0) (Hs 0), sW cI (b 1) (Hs 1), sW cI (b 2) (Hs 2), sW cI (b 3) (Hs 3), tW cI t T tn, rW3 r u q d, oW q f, sW cI u U, bW tb B]) s.heap [] := w
  have hl : lv_has ls 2 [(0, .ref x), (1, .int a1)] := hl
  refine lv_iload_n hx hb dX6_wouldFlush_0 rfl (lv_at hl 1 rfl) ?_
  refine lv_iconst (v := 1) hx hb dX6_wouldFlush_1 (by decide +kernel) ?_
  refine lv_sipush (v := 999) hx hb dX6_wouldFlush_2 (by decide +kernel) ?_
  refine x_callSiB (wr := List.flatten [xTop x o h t r tb, sW cI o G, hH cS h b (nI k), sW cI (b 0) (Hs 0), sW cI (b 1) (Hs 1), sW cI (b 2) (Hs 2), sW cI (b 3) (Hs 3), tW cI t T tn, rW3 r u q d, oW q f, sW cI u U, bW tb B]) (w2 := List.flatten [xTop x o h t r tb, sW cI o G, hH cS h b (nI k), sW cI (b 0) (Hs 0), sW cI (b 1) (Hs 1), sW cI (b 2) (Hs 2), sW cI (b 3) (Hs 3), tW cI t T tn, rW3 r u q d, oW q f, sW cI u U, bW tb B]) (rest := []) (n := 3) C w hl [.int a1, .int 1, .int 999] (k_X6_isWithin l D cI cS tys ht0 a1 1 999 ) gX6_wouldFlush_X6_isWithin rfl (by decide +kernel) ⟨Nat.le_of_ble_eq_true rfl, Nat.le_of_ble_eq_true rfl⟩ rfl rfl (Nat.le_of_ble_eq_true rfl) (List.Perm.refl _) (List.Perm.refl _) ⟨Nat.zero_le _, Nat.zero_le _⟩ dX6_wouldFlush_5 (fun H locs w => ?_)
  refine x_ifB_ne (P := wth a1 1 999 = true) (tgt := 14) hx hb dX6_wouldFlush_8 (by decide) (fun c8_1 => ?_) (fun c8_1 => ?_)
  ·
    exact absurd c8_1 hno
  ·
    refine lv_ldc (v := -1000001) hx hb hown (hts _ (List.mem_of_getElem? (i := 1) rfl)) dX6_wouldFlush_11 ?_
    exact x_iret C w rfl rfl dX6_wouldFlush_13
set_option maxHeartbeats 1000000 in
set_option maxRecDepth 100000 in
theorem k_X6_critical (l : Launch) (D : va_G) (cI cS : ClassId) (tys : List (ClassId × FieldType)) (ht0 : tys[0]? = some (cI, .int)) (ht1 : tys[1]? = some (cS, .object RX4)) (x : Nat) (o : Nat → Nat) (h : Nat → Nat) (b : Nat → Nat → Nat) (t : Nat → Nat) (r : Nat) (q : Nat) (u : Nat → Nat) (tb : Nat) (G : St) (k : Nat) (Hs : Nat → St) (T : Nat → Int32) (tn : Int32) (f : Nat → Int32) (d : Int32) (U : St) (B : St)  : xI l yX6_critical wsX6_critical 2 D tys [.ref x] (List.flatten [xTop x o h t r tb, sW cI o G, hH cS h b (nI k), sW cI (b 0) (Hs 0), sW cI (b 1) (Hs 1), sW cI (b 2) (Hs 2), sW cI (b 3) (Hs 3), tW cI t T tn, rW3 r u q d, oW q f, sW cI u U, bW tb B]) (criI G) (List.flatten [xTop x o h t r tb, sW cI o G, hH cS h b (nI k), sW cI (b 0) (Hs 0), sW cI (b 1) (Hs 1), sW cI (b 2) (Hs 2), sW cI (b 3) (Hs 3), tW cI t T tn, rW3 r u q d, oW q f, sW cI u U, bW tb B]) := by
  refine x_inI (cc := cX6_critical) (maxL := 3) (ret := (some .int)) (by decide) rfl (Nat.le_of_ble_eq_true rfl) ?_
  intro p e s m args below meth c A ls C w hl
  have C : xC p s m meth c args cX6_critical 3 wsX6_critical RX6 D tys (some .int) := C
  have hx := C.1.1
  have hb := C.1.2.1
  have hts := C.1.2.2.2.2
  have hown := C.1.2.2.2.1
  have w : xW D A s.heap (List.flatten [xTop x o h t r tb, sW cI o G, hH cS h b (nI k), sW cI (b 0) (Hs 0), sW cI (b 1) (Hs 1), sW cI (b 2) (Hs 2), sW cI (b 3) (Hs 3), tW cI t T tn, rW3 r u q d, oW q f, sW cI u U, bW tb B]) s.heap [] := w
  have hl : lv_has ls 3 [(0, .ref x)] := hl
  refine lv_aload_n hx hb dX6_critical_0 rfl (lv_at hl 0 rfl) ?_
  refine x_get (v := .ref (o 0)) (T := TX6) C (x_pc (b := xTop x o h t r tb) w 0 rfl) 0 0 rfl rfl (fun _ h => List.mem_cons_of_mem _ (List.mem_append_left _ (List.mem_append_left _ (List.mem_append_right _ (h))))) (List.mem_of_getElem? (i := 1) rfl) (by decide) rfl dX6_critical_1 ?_
  refine lv_iconst (v := 2) hx hb dX6_critical_4 (by decide +kernel) ?_
  have w : xW D A s.heap (List.flatten [sW cI o G, xTop x o h t r tb, hH cS h b (nI k), sW cI (b 0) (Hs 0), sW cI (b 1) (Hs 1), sW cI (b 2) (Hs 2), sW cI (b 3) (Hs 3), tW cI t T tn, rW3 r u q d, oW q f, sW cI u U, bW tb B]) _ _ := x_perm (bl_of [xTop x o h t r tb, sW cI o G, hH cS h b (nI k), sW cI (b 0) (Hs 0), sW cI (b 1) (Hs 1), sW cI (b 2) (Hs 2), sW cI (b 3) (Hs 3), tW cI t T tn, rW3 r u q d, oW q f, sW cI u U, bW tb B] [sW cI o G, xTop x o h t r tb, hH cS h b (nI k), sW cI (b 0) (Hs 0), sW cI (b 1) (Hs 1), sW cI (b 2) (Hs 2), sW cI (b 3) (Hs 3), tW cI t T tn, rW3 r u q d, oW q f, sW cI u U, bW tb B] [1, 0, 2, 3, 4, 5, 6, 7, 8, 9, 10, 11] 12 rfl (by decide) rfl) w
  refine x_callViB (wr := List.flatten [xTop x o h t r tb, hH cS h b (nI k), sW cI (b 0) (Hs 0), sW cI (b 1) (Hs 1), sW cI (b 2) (Hs 2), sW cI (b 3) (Hs 3), tW cI t T tn, rW3 r u q d, oW q f, sW cI u U, bW tb B]) (w2 := List.flatten [sW cI o G, xTop x o h t r tb, hH cS h b (nI k), sW cI (b 0) (Hs 0), sW cI (b 1) (Hs 1), sW cI (b 2) (Hs 2), sW cI (b 3) (Hs 3), tW cI t T tn, rW3 r u q d, oW q f, sW cI u U, bW tb B]) (rest := []) (n := 1) C w hl [.int 2] (k_X4_numberOf l D cI cS tys ht0 o G 2 ) gX6_critical_X4_numberOf rfl (by decide +kernel) ⟨Nat.le_of_ble_eq_true rfl, Nat.le_of_ble_eq_true rfl⟩ 0 4 rfl rfl rfl rfl (Nat.le_of_ble_eq_true rfl) (List.Perm.refl _) (List.Perm.refl _) ⟨Nat.zero_le _, Nat.zero_le _⟩ dX6_critical_5 (fun H locs w => ?_)
  refine lv_istore_n (lv' := [(1, .int (nofI G 2)), (0, .ref x)]) hx hb dX6_critical_8 rfl hl (by decide) rfl (fun ls hl => ?_)
  refine lv_aload_n hx hb dX6_critical_9 rfl (lv_at hl 1 rfl) ?_
  refine x_get (v := .ref (o 0)) (T := TX6) C (x_pc (b := xTop x o h t r tb) w 1 rfl) 0 0 rfl rfl (fun _ h => List.mem_cons_of_mem _ (List.mem_append_left _ (List.mem_append_left _ (List.mem_append_right _ (h))))) (List.mem_of_getElem? (i := 1) rfl) (by decide) rfl dX6_critical_10 ?_
  refine x_get (v := .ref (o 1)) (T := TX4) C (x_pc (b := sW cI o G) w 0 rfl) 0 0 rfl rfl (fun _ h => List.mem_cons_of_mem _ (List.mem_append_left _ (List.mem_append_right _ (h)))) (List.mem_of_getElem? (i := 2) rfl) (by decide) rfl dX6_critical_13 ?_
  refine x_get (v := .int (G 6 0)) (T := TX0) C (x_pc (b := sW cI o G) w 0 rfl) 1 0 rfl rfl (fun _ h => List.mem_cons_of_mem _ (List.mem_append_right _ (h))) (List.mem_of_getElem? (i := 3) rfl) (by decide) rfl dX6_critical_16 ?_
  refine lv_aload_n hx hb dX6_critical_19 rfl (lv_at hl 1 rfl) ?_
  refine x_get (v := .ref (o 0)) (T := TX6) C (x_pc (b := xTop x o h t r tb) w 1 rfl) 0 0 rfl rfl (fun _ h => List.mem_cons_of_mem _ (List.mem_append_left _ (List.mem_append_left _ (List.mem_append_right _ (h))))) (List.mem_of_getElem? (i := 1) rfl) (by decide) rfl dX6_critical_20 ?_
  refine x_get (v := .ref (o 1)) (T := TX4) C (x_pc (b := sW cI o G) w 0 rfl) 0 0 rfl rfl (fun _ h => List.mem_cons_of_mem _ (List.mem_append_left _ (List.mem_append_right _ (h)))) (List.mem_of_getElem? (i := 2) rfl) (by decide) rfl dX6_critical_23 ?_
  refine lv_iload_n hx hb dX6_critical_26 rfl (lv_at hl 0 rfl) ?_
  have w : xW D A s.heap (List.flatten [bW (o 1) G, sR cI o G, xTop x o h t r tb, hH cS h b (nI k), sW cI (b 0) (Hs 0), sW cI (b 1) (Hs 1), sW cI (b 2) (Hs 2), sW cI (b 3) (Hs 3), tW cI t T tn, rW3 r u q d, oW q f, sW cI u U, bW tb B]) _ _ := x_perm ((List.Perm.append_right _ (sW_sR cI o G)).trans (List.Perm.of_eq (List.append_assoc _ _ _))) w
  refine x_callViB (wr := List.flatten [sR cI o G, xTop x o h t r tb, hH cS h b (nI k), sW cI (b 0) (Hs 0), sW cI (b 1) (Hs 1), sW cI (b 2) (Hs 2), sW cI (b 3) (Hs 3), tW cI t T tn, rW3 r u q d, oW q f, sW cI u U, bW tb B]) (w2 := List.flatten [bW (o 1) G, sR cI o G, xTop x o h t r tb, hH cS h b (nI k), sW cI (b 0) (Hs 0), sW cI (b 1) (Hs 1), sW cI (b 2) (Hs 2), sW cI (b 3) (Hs 3), tW cI t T tn, rW3 r u q d, oW q f, sW cI u U, bW tb B]) (rest := [.int (G 6 0)]) (n := 1) C w hl [.int (nofI G 2)] (k_X0_costToSave l D cI cS tys ht0 (o 1) G (nofI G 2) ) gX6_critical_X0_costToSave rfl (by decide +kernel) ⟨Nat.le_of_ble_eq_true rfl, Nat.le_of_ble_eq_true rfl⟩ 0 0 rfl rfl rfl rfl (Nat.le_of_ble_eq_true rfl) (List.Perm.refl _) (List.Perm.refl _) ⟨Nat.zero_le _, Nat.zero_le _⟩ dX6_critical_27 (fun H locs w => ?_)
  have w : xW D A s.heap (List.flatten [sW cI o G, xTop x o h t r tb, hH cS h b (nI k), sW cI (b 0) (Hs 0), sW cI (b 1) (Hs 1), sW cI (b 2) (Hs 2), sW cI (b 3) (Hs 3), tW cI t T tn, rW3 r u q d, oW q f, sW cI u U, bW tb B]) _ _ := x_perm ((List.Perm.of_eq (List.append_assoc _ _ _)).symm.trans (List.Perm.append_right _ (sW_sR cI o G).symm)) w
  refine lv_isub (x := G 6 0) (y := cosI G (nofI G 2)) hx hb dX6_critical_30 ?_
  refine lv_iconst (v := 0) hx hb dX6_critical_31 (by decide +kernel) ?_
  refine x_max (x := ((G 6 0) - (cosI G (nofI G 2)))) (z := 0) (v := (maI ((G 6 0) - (cosI G (nofI G 2))) 0)) C hl (List.mem_of_getElem? (i := 4) rfl) (List.mem_of_getElem? (i := 5) rfl) (List.mem_of_getElem? (i := 6) rfl) (List.mem_of_getElem? (i := 7) rfl) ⟨Nat.le_of_ble_eq_true rfl, Nat.le_of_ble_eq_true rfl⟩ ⟨Nat.zero_le _, Nat.zero_le _⟩ rfl dX6_critical_32 ?_
  refine x_top (y := spaI G) rfl ?_
  refine lv_istore_n (lv' := [(2, .int (spaI G)), (1, .int (nofI G 2)), (0, .ref x)]) hx hb dX6_critical_35 rfl hl (by decide) rfl (fun ls hl => ?_)
  refine lv_iload_n hx hb dX6_critical_36 rfl (lv_at hl 1 rfl) ?_
  refine x_ifR_le (x := nofI G 2) (tgt := 53) hx hb dX6_critical_37 (by decide) (fun c37_1 => ?_) (fun c37_1 => ?_)
  ·
    refine lv_ldc (v := -1000004) hx hb hown (hts _ (List.mem_of_getElem? (i := 8) rfl)) dX6_critical_53 ?_
    have w : xW D A s.heap (List.flatten [xTop x o h t r tb, sW cI o G, hH cS h b (nI k), sW cI (b 0) (Hs 0), sW cI (b 1) (Hs 1), sW cI (b 2) (Hs 2), sW cI (b 3) (Hs 3), tW cI t T tn, rW3 r u q d, oW q f, sW cI u U, bW tb B]) _ _ := x_perm (bl_of [sW cI o G, xTop x o h t r tb, hH cS h b (nI k), sW cI (b 0) (Hs 0), sW cI (b 1) (Hs 1), sW cI (b 2) (Hs 2), sW cI (b 3) (Hs 3), tW cI t T tn, rW3 r u q d, oW q f, sW cI u U, bW tb B] [xTop x o h t r tb, sW cI o G, hH cS h b (nI k), sW cI (b 0) (Hs 0), sW cI (b 1) (Hs 1), sW cI (b 2) (Hs 2), sW cI (b 3) (Hs 3), tW cI t T tn, rW3 r u q d, oW q f, sW cI u U, bW tb B] [1, 0, 2, 3, 4, 5, 6, 7, 8, 9, 10, 11] 12 rfl (by decide) rfl) w
    exact x_iret C w (by unfold criI; simp only [if_neg c37_1]) rfl dX6_critical_55
  ·
    refine lv_iload_n hx hb dX6_critical_40 rfl (lv_at hl 0 rfl) ?_
    refine lv_sipush (v := 999) hx hb dX6_critical_41 (by decide +kernel) ?_
    refine x_icR_ge (x := spaI G) (y := 999) (tgt := 53) hx hb dX6_critical_44 (by decide) (fun c44_2 => ?_) (fun c44_2 => ?_)
    ·
      refine lv_ldc (v := -1000004) hx hb hown (hts _ (List.mem_of_getElem? (i := 8) rfl)) dX6_critical_53 ?_
      have w : xW D A s.heap (List.flatten [xTop x o h t r tb, sW cI o G, hH cS h b (nI k), sW cI (b 0) (Hs 0), sW cI (b 1) (Hs 1), sW cI (b 2) (Hs 2), sW cI (b 3) (Hs 3), tW cI t T tn, rW3 r u q d, oW q f, sW cI u U, bW tb B]) _ _ := x_perm (bl_of [sW cI o G, xTop x o h t r tb, hH cS h b (nI k), sW cI (b 0) (Hs 0), sW cI (b 1) (Hs 1), sW cI (b 2) (Hs 2), sW cI (b 3) (Hs 3), tW cI t T tn, rW3 r u q d, oW q f, sW cI u U, bW tb B] [xTop x o h t r tb, sW cI o G, hH cS h b (nI k), sW cI (b 0) (Hs 0), sW cI (b 1) (Hs 1), sW cI (b 2) (Hs 2), sW cI (b 3) (Hs 3), tW cI t T tn, rW3 r u q d, oW q f, sW cI u U, bW tb B] [1, 0, 2, 3, 4, 5, 6, 7, 8, 9, 10, 11] 12 rfl (by decide) rfl) w
      exact x_iret C w (by unfold criI; simp only [if_pos c37_1, if_neg c44_2]) rfl dX6_critical_55
    ·
      refine lv_iload_n hx hb dX6_critical_47 rfl (lv_at hl 0 rfl) ?_
      refine lv_iconst (v := 1) hx hb dX6_critical_48 (by decide +kernel) ?_
      refine lv_iadd (x := spaI G) (y := 1) hx hb dX6_critical_49 ?_
      refine lv_goto (tgt := 55) hx hb dX6_critical_50 (by decide) ?_
      have w : xW D A s.heap (List.flatten [xTop x o h t r tb, sW cI o G, hH cS h b (nI k), sW cI (b 0) (Hs 0), sW cI (b 1) (Hs 1), sW cI (b 2) (Hs 2), sW cI (b 3) (Hs 3), tW cI t T tn, rW3 r u q d, oW q f, sW cI u U, bW tb B]) _ _ := x_perm (bl_of [sW cI o G, xTop x o h t r tb, hH cS h b (nI k), sW cI (b 0) (Hs 0), sW cI (b 1) (Hs 1), sW cI (b 2) (Hs 2), sW cI (b 3) (Hs 3), tW cI t T tn, rW3 r u q d, oW q f, sW cI u U, bW tb B] [xTop x o h t r tb, sW cI o G, hH cS h b (nI k), sW cI (b 0) (Hs 0), sW cI (b 1) (Hs 1), sW cI (b 2) (Hs 2), sW cI (b 3) (Hs 3), tW cI t T tn, rW3 r u q d, oW q f, sW cI u U, bW tb B] [1, 0, 2, 3, 4, 5, 6, 7, 8, 9, 10, 11] 12 rfl (by decide) rfl) w
      exact x_iret C w (by unfold criI; simp only [if_pos c37_1, if_pos c44_2]) rfl dX6_critical_55
set_option maxHeartbeats 1000000 in
set_option maxRecDepth 100000 in
theorem k_X6_count (l : Launch) (D : va_G) (cI cS : ClassId) (tys : List (ClassId × FieldType)) (ht0 : tys[0]? = some (cI, .int)) (ht1 : tys[1]? = some (cS, .object RX4)) (x : Nat) (o : Nat → Nat) (h : Nat → Nat) (b : Nat → Nat → Nat) (t : Nat → Nat) (r : Nat) (q : Nat) (u : Nat → Nat) (tb : Nat) (G : St) (k : Nat) (Hs : Nat → St) (T : Nat → Int32) (tn : Int32) (f : Nat → Int32) (d : Int32) (U : St) (B : St) (a1 : Int32)  : xI l yX6_count wsX6_count 1 D tys [.ref x, .int a1] (List.flatten [xTop x o h t r tb, sW cI o G, hH cS h b (nI k), sW cI (b 0) (Hs 0), sW cI (b 1) (Hs 1), sW cI (b 2) (Hs 2), sW cI (b 3) (Hs 3), tW cI t T tn, rW3 r u q d, oW q f, sW cI u U, bW tb B]) (conI G (nI k) tn a1) (List.flatten [xTop x o h t r tb, sW cI o G, hH cS h b (nI k), sW cI (b 0) (Hs 0), sW cI (b 1) (Hs 1), sW cI (b 2) (Hs 2), sW cI (b 3) (Hs 3), tW cI t T tn, rW3 r u q d, oW q f, sW cI u U, bW tb B]) := by
  refine x_inI (cc := cX6_count) (maxL := 2) (ret := (some .int)) (by decide) rfl (Nat.le_of_ble_eq_true rfl) ?_
  intro p e s m args below meth c A ls C w hl
  have C : xC p s m meth c args cX6_count 2 wsX6_count RX6 D tys (some .int) := C
  have hx := C.1.1
  have hb := C.1.2.1
  have hts := C.1.2.2.2.2
  have hown := C.1.2.2.2.1
  have w : xW D A s.heap (List.flatten [xTop x o h t r tb, sW cI o G, hH cS h b (nI k), sW cI (b 0) (Hs 0), sW cI (b 1) (Hs 1), sW cI (b 2) (Hs 2), sW cI (b 3) (Hs 3), tW cI t T tn, rW3 r u q d, oW q f, sW cI u U, bW tb B]) s.heap [] := w
  have hl : lv_has ls 2 [(0, .ref x), (1, .int a1)] := hl
  refine lv_iload_n hx hb dX6_count_0 rfl (lv_at hl 1 rfl) ?_
  by_cases c1_1 : a1 = (0 : Int32)
  ·
    refine x_top (y := 0) c1_1 ?_
    refine lv_tableIn (x := 0) (off := 59) (tgt := 60) hx hb dX6_count_1 (by decide) (by decide) rfl (by decide) ?_
    refine lv_aload_n hx hb dX6_count_60 rfl (lv_at hl 0 rfl) ?_
    refine x_get (v := .ref (o 0)) (T := TX6) C (x_pc (b := xTop x o h t r tb) w 0 rfl) 0 0 rfl rfl (fun _ h => List.mem_cons_of_mem _ (List.mem_append_left _ (List.mem_append_left _ (List.mem_append_left _ (List.mem_append_left _ (List.mem_append_right _ (h))))))) (List.mem_of_getElem? (i := 1) rfl) (by decide) rfl dX6_count_61 ?_
    refine x_get (v := .int (G 7 0)) (T := TX4) C (x_pc (b := sW cI o G) w 1 rfl) 0 8 rfl rfl (fun _ h => List.mem_cons_of_mem _ (List.mem_append_left _ (List.mem_append_left _ (List.mem_append_left _ (List.mem_append_right _ (h)))))) (List.mem_of_getElem? (i := 2) rfl) (by decide) rfl dX6_count_64 ?_
    exact x_iret C w (by unfold conI; simp only [if_pos c1_1]) rfl dX6_count_67
  ·
    by_cases c1_2 : a1 = (1 : Int32)
    ·
      refine x_top (y := 1) c1_2 ?_
      refine lv_tableIn (x := 1) (off := 67) (tgt := 68) hx hb dX6_count_1 (by decide) (by decide) rfl (by decide) ?_
      refine lv_aload_n hx hb dX6_count_68 rfl (lv_at hl 0 rfl) ?_
      refine x_get (v := .ref (o 0)) (T := TX6) C (x_pc (b := xTop x o h t r tb) w 0 rfl) 0 0 rfl rfl (fun _ h => List.mem_cons_of_mem _ (List.mem_append_left _ (List.mem_append_left _ (List.mem_append_left _ (List.mem_append_left _ (List.mem_append_right _ (h))))))) (List.mem_of_getElem? (i := 1) rfl) (by decide) rfl dX6_count_69 ?_
      refine x_get (v := .int (G 7 1)) (T := TX4) C (x_pc (b := sW cI o G) w 1 rfl) 0 9 rfl rfl (fun _ h => List.mem_cons_of_mem _ (List.mem_append_left _ (List.mem_append_left _ (List.mem_append_left _ (List.mem_append_right _ (h)))))) (List.mem_of_getElem? (i := 3) rfl) (by decide) rfl dX6_count_72 ?_
      exact x_iret C w (by unfold conI; simp only [if_neg c1_1, if_pos c1_2]) rfl dX6_count_75
    ·
      by_cases c1_3 : a1 = (2 : Int32)
      ·
        refine x_top (y := 2) c1_3 ?_
        refine lv_tableIn (x := 2) (off := 75) (tgt := 76) hx hb dX6_count_1 (by decide) (by decide) rfl (by decide) ?_
        refine lv_aload_n hx hb dX6_count_76 rfl (lv_at hl 0 rfl) ?_
        refine x_get (v := .ref (o 0)) (T := TX6) C (x_pc (b := xTop x o h t r tb) w 0 rfl) 0 0 rfl rfl (fun _ h => List.mem_cons_of_mem _ (List.mem_append_left _ (List.mem_append_left _ (List.mem_append_left _ (List.mem_append_left _ (List.mem_append_right _ (h))))))) (List.mem_of_getElem? (i := 1) rfl) (by decide) rfl dX6_count_77 ?_
        refine x_get (v := .int (G 7 2)) (T := TX4) C (x_pc (b := sW cI o G) w 1 rfl) 0 10 rfl rfl (fun _ h => List.mem_cons_of_mem _ (List.mem_append_left _ (List.mem_append_left _ (List.mem_append_left _ (List.mem_append_right _ (h)))))) (List.mem_of_getElem? (i := 4) rfl) (by decide) rfl dX6_count_80 ?_
        exact x_iret C w (by unfold conI; simp only [if_neg c1_1, if_neg c1_2, if_pos c1_3]) rfl dX6_count_83
      ·
        by_cases c1_4 : a1 = (3 : Int32)
        ·
          refine x_top (y := 3) c1_4 ?_
          refine lv_tableIn (x := 3) (off := 83) (tgt := 84) hx hb dX6_count_1 (by decide) (by decide) rfl (by decide) ?_
          refine lv_aload_n hx hb dX6_count_84 rfl (lv_at hl 0 rfl) ?_
          refine x_get (v := .ref (o 0)) (T := TX6) C (x_pc (b := xTop x o h t r tb) w 0 rfl) 0 0 rfl rfl (fun _ h => List.mem_cons_of_mem _ (List.mem_append_left _ (List.mem_append_left _ (List.mem_append_left _ (List.mem_append_left _ (List.mem_append_right _ (h))))))) (List.mem_of_getElem? (i := 1) rfl) (by decide) rfl dX6_count_85 ?_
          refine x_get (v := .int (G 7 3)) (T := TX4) C (x_pc (b := sW cI o G) w 1 rfl) 0 11 rfl rfl (fun _ h => List.mem_cons_of_mem _ (List.mem_append_left _ (List.mem_append_left _ (List.mem_append_left _ (List.mem_append_right _ (h)))))) (List.mem_of_getElem? (i := 5) rfl) (by decide) rfl dX6_count_88 ?_
          exact x_iret C w (by unfold conI; simp only [if_neg c1_1, if_neg c1_2, if_neg c1_3, if_pos c1_4]) rfl dX6_count_91
        ·
          by_cases c1_5 : a1 = (4 : Int32)
          ·
            refine x_top (y := 4) c1_5 ?_
            refine lv_tableIn (x := 4) (off := 91) (tgt := 92) hx hb dX6_count_1 (by decide) (by decide) rfl (by decide) ?_
            refine lv_aload_n hx hb dX6_count_92 rfl (lv_at hl 0 rfl) ?_
            refine x_get (v := .ref (o 0)) (T := TX6) C (x_pc (b := xTop x o h t r tb) w 0 rfl) 0 0 rfl rfl (fun _ h => List.mem_cons_of_mem _ (List.mem_append_left _ (List.mem_append_left _ (List.mem_append_left _ (List.mem_append_left _ (List.mem_append_right _ (h))))))) (List.mem_of_getElem? (i := 1) rfl) (by decide) rfl dX6_count_93 ?_
            refine x_get (v := .int (G 7 4)) (T := TX4) C (x_pc (b := sW cI o G) w 1 rfl) 0 12 rfl rfl (fun _ h => List.mem_cons_of_mem _ (List.mem_append_left _ (List.mem_append_left _ (List.mem_append_left _ (List.mem_append_right _ (h)))))) (List.mem_of_getElem? (i := 6) rfl) (by decide) rfl dX6_count_96 ?_
            exact x_iret C w (by unfold conI; simp only [if_neg c1_1, if_neg c1_2, if_neg c1_3, if_neg c1_4, if_pos c1_5]) rfl dX6_count_99
          ·
            by_cases c1_6 : a1 = (5 : Int32)
            ·
              refine x_top (y := 5) c1_6 ?_
              refine lv_tableIn (x := 5) (off := 99) (tgt := 100) hx hb dX6_count_1 (by decide) (by decide) rfl (by decide) ?_
              refine lv_aload_n hx hb dX6_count_100 rfl (lv_at hl 0 rfl) ?_
              refine x_get (v := .ref (o 0)) (T := TX6) C (x_pc (b := xTop x o h t r tb) w 0 rfl) 0 0 rfl rfl (fun _ h => List.mem_cons_of_mem _ (List.mem_append_left _ (List.mem_append_left _ (List.mem_append_left _ (List.mem_append_left _ (List.mem_append_right _ (h))))))) (List.mem_of_getElem? (i := 1) rfl) (by decide) rfl dX6_count_101 ?_
              refine x_get (v := .int (G 7 5)) (T := TX4) C (x_pc (b := sW cI o G) w 1 rfl) 0 13 rfl rfl (fun _ h => List.mem_cons_of_mem _ (List.mem_append_left _ (List.mem_append_left _ (List.mem_append_left _ (List.mem_append_right _ (h)))))) (List.mem_of_getElem? (i := 7) rfl) (by decide) rfl dX6_count_104 ?_
              exact x_iret C w (by unfold conI; simp only [if_neg c1_1, if_neg c1_2, if_neg c1_3, if_neg c1_4, if_neg c1_5, if_pos c1_6]) rfl dX6_count_107
            ·
              by_cases c1_7 : a1 = (6 : Int32)
              ·
                refine x_top (y := 6) c1_7 ?_
                refine lv_tableIn (x := 6) (off := 107) (tgt := 108) hx hb dX6_count_1 (by decide) (by decide) rfl (by decide) ?_
                refine lv_aload_n hx hb dX6_count_108 rfl (lv_at hl 0 rfl) ?_
                refine x_get (v := .ref (o 0)) (T := TX6) C (x_pc (b := xTop x o h t r tb) w 0 rfl) 0 0 rfl rfl (fun _ h => List.mem_cons_of_mem _ (List.mem_append_left _ (List.mem_append_left _ (List.mem_append_left _ (List.mem_append_left _ (List.mem_append_right _ (h))))))) (List.mem_of_getElem? (i := 1) rfl) (by decide) rfl dX6_count_109 ?_
                refine x_get (v := .int (G 7 6)) (T := TX4) C (x_pc (b := sW cI o G) w 1 rfl) 0 14 rfl rfl (fun _ h => List.mem_cons_of_mem _ (List.mem_append_left _ (List.mem_append_left _ (List.mem_append_left _ (List.mem_append_right _ (h)))))) (List.mem_of_getElem? (i := 8) rfl) (by decide) rfl dX6_count_112 ?_
                exact x_iret C w (by unfold conI; simp only [if_neg c1_1, if_neg c1_2, if_neg c1_3, if_neg c1_4, if_neg c1_5, if_neg c1_6, if_pos c1_7]) rfl dX6_count_115
              ·
                by_cases c1_8 : a1 = (7 : Int32)
                ·
                  refine x_top (y := 7) c1_8 ?_
                  refine lv_tableIn (x := 7) (off := 115) (tgt := 116) hx hb dX6_count_1 (by decide) (by decide) rfl (by decide) ?_
                  refine lv_aload_n hx hb dX6_count_116 rfl (lv_at hl 0 rfl) ?_
                  refine x_get (v := .ref (o 0)) (T := TX6) C (x_pc (b := xTop x o h t r tb) w 0 rfl) 0 0 rfl rfl (fun _ h => List.mem_cons_of_mem _ (List.mem_append_left _ (List.mem_append_left _ (List.mem_append_left _ (List.mem_append_left _ (List.mem_append_right _ (h))))))) (List.mem_of_getElem? (i := 1) rfl) (by decide) rfl dX6_count_117 ?_
                  refine x_get (v := .int (G 7 7)) (T := TX4) C (x_pc (b := sW cI o G) w 1 rfl) 0 15 rfl rfl (fun _ h => List.mem_cons_of_mem _ (List.mem_append_left _ (List.mem_append_left _ (List.mem_append_left _ (List.mem_append_right _ (h)))))) (List.mem_of_getElem? (i := 9) rfl) (by decide) rfl dX6_count_120 ?_
                  exact x_iret C w (by unfold conI; simp only [if_neg c1_1, if_neg c1_2, if_neg c1_3, if_neg c1_4, if_neg c1_5, if_neg c1_6, if_neg c1_7, if_pos c1_8]) rfl dX6_count_123
                ·
                  by_cases c1_9 : a1 = (8 : Int32)
                  ·
                    refine x_top (y := 8) c1_9 ?_
                    refine lv_tableIn (x := 8) (off := 123) (tgt := 124) hx hb dX6_count_1 (by decide) (by decide) rfl (by decide) ?_
                    refine lv_aload_n hx hb dX6_count_124 rfl (lv_at hl 0 rfl) ?_
                    refine x_get (v := .ref (o 0)) (T := TX6) C (x_pc (b := xTop x o h t r tb) w 0 rfl) 0 0 rfl rfl (fun _ h => List.mem_cons_of_mem _ (List.mem_append_left _ (List.mem_append_left _ (List.mem_append_left _ (List.mem_append_left _ (List.mem_append_right _ (h))))))) (List.mem_of_getElem? (i := 1) rfl) (by decide) rfl dX6_count_125 ?_
                    refine x_get (v := .int (G 7 8)) (T := TX4) C (x_pc (b := sW cI o G) w 1 rfl) 0 16 rfl rfl (fun _ h => List.mem_cons_of_mem _ (List.mem_append_left _ (List.mem_append_left _ (List.mem_append_left _ (List.mem_append_right _ (h)))))) (List.mem_of_getElem? (i := 10) rfl) (by decide) rfl dX6_count_128 ?_
                    exact x_iret C w (by unfold conI; simp only [if_neg c1_1, if_neg c1_2, if_neg c1_3, if_neg c1_4, if_neg c1_5, if_neg c1_6, if_neg c1_7, if_neg c1_8, if_pos c1_9]) rfl dX6_count_131
                  ·
                    by_cases c1_10 : a1 = (9 : Int32)
                    ·
                      refine x_top (y := 9) c1_10 ?_
                      refine lv_tableIn (x := 9) (off := 131) (tgt := 132) hx hb dX6_count_1 (by decide) (by decide) rfl (by decide) ?_
                      refine lv_aload_n hx hb dX6_count_132 rfl (lv_at hl 0 rfl) ?_
                      refine x_get (v := .ref (h 0)) (T := TX6) C (x_pc (b := xTop x o h t r tb) w 0 rfl) 0 1 rfl rfl (fun _ h => List.mem_cons_of_mem _ (List.mem_append_left _ (List.mem_append_left _ (List.mem_append_left _ (List.mem_append_left _ (List.mem_append_right _ (h))))))) (List.mem_of_getElem? (i := 11) rfl) (by decide) rfl dX6_count_133 ?_
                      refine x_get (v := .int (nI k)) (T := TX1) C (x_pc (b := hH cS h b (nI k)) w 2 rfl) 0 1 rfl rfl (fun _ h => List.mem_cons_of_mem _ (List.mem_append_left _ (List.mem_append_left _ (List.mem_append_right _ (h))))) (List.mem_of_getElem? (i := 12) rfl) (by decide) rfl dX6_count_136 ?_
                      exact x_iret C w (by unfold conI; simp only [if_neg c1_1, if_neg c1_2, if_neg c1_3, if_neg c1_4, if_neg c1_5, if_neg c1_6, if_neg c1_7, if_neg c1_8, if_neg c1_9, if_pos c1_10]) rfl dX6_count_139
                    ·
                      by_cases c1_11 : a1 = (10 : Int32)
                      ·
                        refine x_top (y := 10) c1_11 ?_
                        refine lv_tableIn (x := 10) (off := 139) (tgt := 140) hx hb dX6_count_1 (by decide) (by decide) rfl (by decide) ?_
                        refine lv_aload_n hx hb dX6_count_140 rfl (lv_at hl 0 rfl) ?_
                        refine x_get (v := .ref (t 0)) (T := TX6) C (x_pc (b := xTop x o h t r tb) w 0 rfl) 0 2 rfl rfl (fun _ h => List.mem_cons_of_mem _ (List.mem_append_left _ (List.mem_append_left _ (List.mem_append_left _ (List.mem_append_left _ (List.mem_append_right _ (h))))))) (List.mem_of_getElem? (i := 13) rfl) (by decide) rfl dX6_count_141 ?_
                        refine x_get (v := .int tn) (T := TX5) C (x_pc (b := tW cI t T tn) w 7 rfl) 0 1 rfl rfl (fun _ h => List.mem_cons_of_mem _ (List.mem_append_left _ (List.mem_append_right _ (h)))) (List.mem_of_getElem? (i := 14) rfl) (by decide) rfl dX6_count_144 ?_
                        exact x_iret C w (by unfold conI; simp only [if_neg c1_1, if_neg c1_2, if_neg c1_3, if_neg c1_4, if_neg c1_5, if_neg c1_6, if_neg c1_7, if_neg c1_8, if_neg c1_9, if_neg c1_10, if_pos c1_11]) rfl dX6_count_147
                      ·
                        refine lv_tableOut (x := a1) (tgt := 148) hx hb dX6_count_1 (by have z0 := lv_neT (a := 0) c1_1 (by decide); have z1 := lv_neT (a := 1) c1_2 (by decide); have z2 := lv_neT (a := 2) c1_3 (by decide); have z3 := lv_neT (a := 3) c1_4 (by decide); have z4 := lv_neT (a := 4) c1_5 (by decide); have z5 := lv_neT (a := 5) c1_6 (by decide); have z6 := lv_neT (a := 6) c1_7 (by decide); have z7 := lv_neT (a := 7) c1_8 (by decide); have z8 := lv_neT (a := 8) c1_9 (by decide); have z9 := lv_neT (a := 9) c1_10 (by decide); have z10 := lv_neT (a := 10) c1_11 (by decide); omega) (by decide) ?_
                        refine lv_iload_n hx hb dX6_count_148 rfl (lv_at hl 1 rfl) ?_
                        refine lv_bipush (v := 20) hx hb dX6_count_149 (by decide +kernel) ?_
                        refine lv_isub (x := a1) (y := 20) hx hb dX6_count_151 ?_
                        refine x_callSiB (wr := List.flatten [xTop x o h t r tb, sW cI o G, hH cS h b (nI k), sW cI (b 0) (Hs 0), sW cI (b 1) (Hs 1), sW cI (b 2) (Hs 2), sW cI (b 3) (Hs 3), tW cI t T tn, rW3 r u q d, oW q f, sW cI u U, bW tb B]) (w2 := List.flatten [xTop x o h t r tb, sW cI o G, hH cS h b (nI k), sW cI (b 0) (Hs 0), sW cI (b 1) (Hs 1), sW cI (b 2) (Hs 2), sW cI (b 3) (Hs 3), tW cI t T tn, rW3 r u q d, oW q f, sW cI u U, bW tb B]) (rest := []) (n := 1) C w hl [.int (a1 - 20)] (k_X6_isSetting l D cI cS tys ht0 (a1 - 20) ) gX6_count_X6_isSetting rfl (by decide +kernel) ⟨Nat.le_of_ble_eq_true rfl, Nat.le_of_ble_eq_true rfl⟩ rfl rfl (Nat.le_of_ble_eq_true rfl) (List.Perm.refl _) (List.Perm.refl _) ⟨Nat.zero_le _, Nat.zero_le _⟩ dX6_count_152 (fun H locs w => ?_)
                        refine x_ifB_eq (P := rg (a1 - 20) 4 = true) (tgt := 175) hx hb dX6_count_155 (by decide) (fun c155_12 => ?_) (fun c155_12 => ?_)
                        ·
                          refine lv_ldc (v := -1000001) hx hb hown (hts _ (List.mem_of_getElem? (i := 16) rfl)) dX6_count_175 ?_
                          exact x_iret C w (by unfold conI; simp only [if_neg c1_1, if_neg c1_2, if_neg c1_3, if_neg c1_4, if_neg c1_5, if_neg c1_6, if_neg c1_7, if_neg c1_8, if_neg c1_9, if_neg c1_10, if_neg c1_11, if_neg c155_12]) rfl dX6_count_177
                        ·
                          refine lv_aload_n hx hb dX6_count_158 rfl (lv_at hl 0 rfl) ?_
                          refine x_get (v := .ref (o 0)) (T := TX6) C (x_pc (b := xTop x o h t r tb) w 0 rfl) 0 0 rfl rfl (fun _ h => List.mem_cons_of_mem _ (List.mem_append_left _ (List.mem_append_left _ (List.mem_append_left _ (List.mem_append_left _ (List.mem_append_right _ (h))))))) (List.mem_of_getElem? (i := 1) rfl) (by decide) rfl dX6_count_159 ?_
                          refine x_get (v := .ref (o 1)) (T := TX4) C (x_pc (b := sW cI o G) w 1 rfl) 0 0 rfl rfl (fun _ h => List.mem_cons_of_mem _ (List.mem_append_left _ (List.mem_append_left _ (List.mem_append_left _ (List.mem_append_right _ (h)))))) (List.mem_of_getElem? (i := 15) rfl) (by decide) rfl dX6_count_162 ?_
                          refine lv_iload_n hx hb dX6_count_165 rfl (lv_at hl 1 rfl) ?_
                          refine lv_bipush (v := 20) hx hb dX6_count_166 (by decide +kernel) ?_
                          refine lv_isub (x := a1) (y := 20) hx hb dX6_count_168 ?_
                          have w : xW D A s.heap (List.flatten [sW cI o G, xTop x o h t r tb, hH cS h b (nI k), sW cI (b 0) (Hs 0), sW cI (b 1) (Hs 1), sW cI (b 2) (Hs 2), sW cI (b 3) (Hs 3), tW cI t T tn, rW3 r u q d, oW q f, sW cI u U, bW tb B]) _ _ := x_perm (bl_of [xTop x o h t r tb, sW cI o G, hH cS h b (nI k), sW cI (b 0) (Hs 0), sW cI (b 1) (Hs 1), sW cI (b 2) (Hs 2), sW cI (b 3) (Hs 3), tW cI t T tn, rW3 r u q d, oW q f, sW cI u U, bW tb B] [sW cI o G, xTop x o h t r tb, hH cS h b (nI k), sW cI (b 0) (Hs 0), sW cI (b 1) (Hs 1), sW cI (b 2) (Hs 2), sW cI (b 3) (Hs 3), tW cI t T tn, rW3 r u q d, oW q f, sW cI u U, bW tb B] [1, 0, 2, 3, 4, 5, 6, 7, 8, 9, 10, 11] 12 rfl (by decide) rfl) w
                          have w : xW D A s.heap (List.flatten [bW (o 1) G, sR cI o G, xTop x o h t r tb, hH cS h b (nI k), sW cI (b 0) (Hs 0), sW cI (b 1) (Hs 1), sW cI (b 2) (Hs 2), sW cI (b 3) (Hs 3), tW cI t T tn, rW3 r u q d, oW q f, sW cI u U, bW tb B]) _ _ := x_perm ((List.Perm.append_right _ (sW_sR cI o G)).trans (List.Perm.of_eq (List.append_assoc _ _ _))) w
                          refine x_callViB (wr := List.flatten [sR cI o G, xTop x o h t r tb, hH cS h b (nI k), sW cI (b 0) (Hs 0), sW cI (b 1) (Hs 1), sW cI (b 2) (Hs 2), sW cI (b 3) (Hs 3), tW cI t T tn, rW3 r u q d, oW q f, sW cI u U, bW tb B]) (w2 := List.flatten [bW (o 1) G, sR cI o G, xTop x o h t r tb, hH cS h b (nI k), sW cI (b 0) (Hs 0), sW cI (b 1) (Hs 1), sW cI (b 2) (Hs 2), sW cI (b 3) (Hs 3), tW cI t T tn, rW3 r u q d, oW q f, sW cI u U, bW tb B]) (rest := []) (n := 1) C w hl [.int (a1 - 20)] (k_X0_setting l D cI cS tys ht0 (o 1) G (a1 - 20) ) gX6_count_X0_setting rfl (by decide +kernel) ⟨Nat.le_of_ble_eq_true rfl, Nat.le_of_ble_eq_true rfl⟩ 0 0 rfl rfl rfl rfl (Nat.le_of_ble_eq_true rfl) (List.Perm.refl _) (List.Perm.refl _) ⟨Nat.zero_le _, Nat.zero_le _⟩ dX6_count_169 (fun H locs w => ?_)
                          have w : xW D A s.heap (List.flatten [sW cI o G, xTop x o h t r tb, hH cS h b (nI k), sW cI (b 0) (Hs 0), sW cI (b 1) (Hs 1), sW cI (b 2) (Hs 2), sW cI (b 3) (Hs 3), tW cI t T tn, rW3 r u q d, oW q f, sW cI u U, bW tb B]) _ _ := x_perm ((List.Perm.of_eq (List.append_assoc _ _ _)).symm.trans (List.Perm.append_right _ (sW_sR cI o G).symm)) w
                          refine lv_goto (tgt := 177) hx hb dX6_count_172 (by decide) ?_
                          have w : xW D A s.heap (List.flatten [xTop x o h t r tb, sW cI o G, hH cS h b (nI k), sW cI (b 0) (Hs 0), sW cI (b 1) (Hs 1), sW cI (b 2) (Hs 2), sW cI (b 3) (Hs 3), tW cI t T tn, rW3 r u q d, oW q f, sW cI u U, bW tb B]) _ _ := x_perm (bl_of [sW cI o G, xTop x o h t r tb, hH cS h b (nI k), sW cI (b 0) (Hs 0), sW cI (b 1) (Hs 1), sW cI (b 2) (Hs 2), sW cI (b 3) (Hs 3), tW cI t T tn, rW3 r u q d, oW q f, sW cI u U, bW tb B] [xTop x o h t r tb, sW cI o G, hH cS h b (nI k), sW cI (b 0) (Hs 0), sW cI (b 1) (Hs 1), sW cI (b 2) (Hs 2), sW cI (b 3) (Hs 3), tW cI t T tn, rW3 r u q d, oW q f, sW cI u U, bW tb B] [1, 0, 2, 3, 4, 5, 6, 7, 8, 9, 10, 11] 12 rfl (by decide) rfl) w
                          exact x_iret C w (by unfold conI; simp only [if_neg c1_1, if_neg c1_2, if_neg c1_3, if_neg c1_4, if_neg c1_5, if_neg c1_6, if_neg c1_7, if_neg c1_8, if_neg c1_9, if_neg c1_10, if_neg c1_11, if_pos c155_12]) rfl dX6_count_177
