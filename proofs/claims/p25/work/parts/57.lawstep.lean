/-! ===== a whole step ===== -/
set_option maxHeartbeats 4000000 in
set_option maxRecDepth 100000 in
theorem k_L_isStep (l : Launch) (D : va_G) (cI cS : ClassId) (tys : List (ClassId × FieldType)) (ht0 : tys[0]? = some (cI, .int)) (ht1 : tys[1]? = some (cS, .object RX4)) (x : Nat) (o : Nat → Nat) (h : Nat → Nat) (b : Nat → Nat → Nat) (t : Nat → Nat) (r : Nat) (q : Nat) (u : Nat → Nat) (tb : Nat) (G : St) (k : Nat) (Hs : Nat → St) (T : Nat → Int32) (tn : Int32) (f : Nat → Int32) (d : Int32) (U : St) (B : St) (vA : Nat) (V : Nat → Int32) (xx : Int32) (hLI : LI G V) (hk : k ≤ 4) : xJ l yL_isStep wsL_isStep 6 D tys [.ref x, .ref vA, .int xx] (List.flatten [xTop x o h t r tb, sW cI o G, hH cS h b (nI k), sW cI (b 0) (Hs 0), sW cI (b 1) (Hs 1), sW cI (b 2) (Hs 2), sW cI (b 3) (Hs 3), tW cI t T tn, rW3 r u q d, oW q f, sW cI u U, bW tb B, [(vA, .inl (cI, 64, .inl V))]]) 1 (okE cI cS x o h t r q u tb vA) := by
  refine x_inJ (cc := cL_isStep) (maxL := 11) (ret := (some .boolean)) (by decide) rfl (Nat.le_of_ble_eq_true rfl) ?_
  intro p e s m args below meth c A ls C w hl
  have C : xC p s m meth c args cL_isStep 11 wsL_isStep RL D tys (some .boolean) := C
  have hx := C.1.1
  have hb := C.1.2.1
  have hts := C.1.2.2.2.2
  have hown := C.1.2.2.2.1
  have w : xW D A s.heap (List.flatten [xTop x o h t r tb, sW cI o G, hH cS h b (nI k), sW cI (b 0) (Hs 0), sW cI (b 1) (Hs 1), sW cI (b 2) (Hs 2), sW cI (b 3) (Hs 3), tW cI t T tn, rW3 r u q d, oW q f, sW cI u U, bW tb B, [(vA, .inl (cI, 64, .inl V))]]) s.heap [] := w
  have hl : lv_has ls 11 [(0, .ref x), (1, .ref vA), (2, .int xx)] := hl
  refine lv_iload_n hx hb dL_isStep_0 rfl (lv_at hl 2 rfl) ?_
  refine lv_iconst (v := 4) hx hb dL_isStep_1 (by decide +kernel) ?_
  refine lv_ishr (x := xx) (y := 4) hx hb dL_isStep_2 ?_
  refine lv_istore_n (lv' := [(3, .int (xx >>> (4 &&& 31))), (0, .ref x), (1, .ref vA), (2, .int xx)]) hx hb dL_isStep_3 rfl hl (by decide) rfl (fun ls hl => ?_)
  refine lv_iload_n hx hb dL_isStep_4 rfl (lv_at hl 0 rfl) ?_
  refine lv_iconst (v := 4) hx hb dL_isStep_5 (by decide +kernel) ?_
  refine x_callSiB (wr := List.flatten [xTop x o h t r tb, sW cI o G, hH cS h b (nI k), sW cI (b 0) (Hs 0), sW cI (b 1) (Hs 1), sW cI (b 2) (Hs 2), sW cI (b 3) (Hs 3), tW cI t T tn, rW3 r u q d, oW q f, sW cI u U, bW tb B, [(vA, .inl (cI, 64, .inl V))]]) (w2 := List.flatten [xTop x o h t r tb, sW cI o G, hH cS h b (nI k), sW cI (b 0) (Hs 0), sW cI (b 1) (Hs 1), sW cI (b 2) (Hs 2), sW cI (b 3) (Hs 3), tW cI t T tn, rW3 r u q d, oW q f, sW cI u U, bW tb B, [(vA, .inl (cI, 64, .inl V))]]) (rest := []) (n := 2) C w hl [.int (xx >>> (4 &&& 31)), .int 4] (k_L_up l D cI cS tys ht0 (xx >>> (4 &&& 31)) 4 (by decide)) gL_isStep_L_up rfl (by decide +kernel) ⟨Nat.le_of_ble_eq_true rfl, Nat.le_of_ble_eq_true rfl⟩ rfl rfl (Nat.le_of_ble_eq_true rfl) (List.Perm.refl _) (List.Perm.refl _) ⟨Nat.zero_le _, Nat.zero_le _⟩ dL_isStep_6 (fun H locs w => ?_)
  refine x_ifR_ne (x := upI (xx >>> (4 &&& 31)) 4) (tgt := 23) hx hb dL_isStep_9 (by decide) (fun c9_1 => ?_) (fun c9_1 => ?_)
  ·
    refine lv_iload_n hx hb dL_isStep_23 rfl (lv_at hl 0 rfl) ?_
    refine lv_iconst (v := 2) hx hb dL_isStep_24 (by decide +kernel) ?_
    refine lv_ishr (x := (xx >>> (4 &&& 31))) (y := 2) hx hb dL_isStep_25 ?_
    refine lv_bipush (v := 11) hx hb dL_isStep_26 (by decide +kernel) ?_
    refine x_callSiB (wr := List.flatten [xTop x o h t r tb, sW cI o G, hH cS h b (nI k), sW cI (b 0) (Hs 0), sW cI (b 1) (Hs 1), sW cI (b 2) (Hs 2), sW cI (b 3) (Hs 3), tW cI t T tn, rW3 r u q d, oW q f, sW cI u U, bW tb B, [(vA, .inl (cI, 64, .inl V))]]) (w2 := List.flatten [xTop x o h t r tb, sW cI o G, hH cS h b (nI k), sW cI (b 0) (Hs 0), sW cI (b 1) (Hs 1), sW cI (b 2) (Hs 2), sW cI (b 3) (Hs 3), tW cI t T tn, rW3 r u q d, oW q f, sW cI u U, bW tb B, [(vA, .inl (cI, 64, .inl V))]]) (rest := []) (n := 2) C w hl [.int ((xx >>> (4 &&& 31)) >>> (2 &&& 31)), .int 11] (k_L_up l D cI cS tys ht0 ((xx >>> (4 &&& 31)) >>> (2 &&& 31)) 11 (by decide)) gL_isStep_L_up rfl (by decide +kernel) ⟨Nat.le_of_ble_eq_true rfl, Nat.le_of_ble_eq_true rfl⟩ rfl rfl (Nat.le_of_ble_eq_true rfl) (List.Perm.refl _) (List.Perm.refl _) ⟨Nat.zero_le _, Nat.zero_le _⟩ dL_isStep_28 (fun H locs w => ?_)
    obtain ⟨pB, hpB, epB⟩ := up_ex ((xx >>> (4 &&& 31)) >>> (2 &&& 31)) 11 (by decide) (by decide)
    refine x_top (y := nI pB) epB ?_
    refine lv_istore (lv' := [(4, .int (nI pB)), (3, .int (xx >>> (4 &&& 31))), (0, .ref x), (1, .ref vA), (2, .int xx)]) hx hb dL_isStep_31 hl (by decide) rfl (fun ls hl => ?_)
    refine lv_iload_n hx hb dL_isStep_33 rfl (lv_at hl 4 rfl) ?_
    refine lv_bipush (v := 13) hx hb dL_isStep_34 (by decide +kernel) ?_
    refine x_callSiB (wr := List.flatten [xTop x o h t r tb, sW cI o G, hH cS h b (nI k), sW cI (b 0) (Hs 0), sW cI (b 1) (Hs 1), sW cI (b 2) (Hs 2), sW cI (b 3) (Hs 3), tW cI t T tn, rW3 r u q d, oW q f, sW cI u U, bW tb B, [(vA, .inl (cI, 64, .inl V))]]) (w2 := List.flatten [xTop x o h t r tb, sW cI o G, hH cS h b (nI k), sW cI (b 0) (Hs 0), sW cI (b 1) (Hs 1), sW cI (b 2) (Hs 2), sW cI (b 3) (Hs 3), tW cI t T tn, rW3 r u q d, oW q f, sW cI u U, bW tb B, [(vA, .inl (cI, 64, .inl V))]]) (rest := []) (n := 2) C w hl [.int xx, .int 13] (k_L_up l D cI cS tys ht0 xx 13 (by decide)) gL_isStep_L_up rfl (by decide +kernel) ⟨Nat.le_of_ble_eq_true rfl, Nat.le_of_ble_eq_true rfl⟩ rfl rfl (Nat.le_of_ble_eq_true rfl) (List.Perm.refl _) (List.Perm.refl _) ⟨Nat.zero_le _, Nat.zero_le _⟩ dL_isStep_36 (fun H locs w => ?_)
    obtain ⟨sw, hsw, esw⟩ := up_ex xx 13 (by decide) (by decide)
    refine x_top (y := nI sw) esw ?_
    by_cases c39_2 : nI sw = (0 : Int32)
    ·
      refine x_top (y := 0) c39_2 ?_
      refine lv_tableIn (x := 0) (off := 61) (tgt := 100) hx hb dL_isStep_39 (by decide) (by decide) rfl (by decide) ?_
      exact sF_100 ht0 ht1 C hLI hk (show pB < 64 by omega) w (lv_sub hl [0, 1, 2, 3, 4] rfl)
    ·
      by_cases c39_3 : nI sw = (1 : Int32)
      ·
        refine x_top (y := 1) c39_3 ?_
        refine lv_tableIn (x := 1) (off := 61) (tgt := 100) hx hb dL_isStep_39 (by decide) (by decide) rfl (by decide) ?_
        exact sF_100 ht0 ht1 C hLI hk (show pB < 64 by omega) w (lv_sub hl [0, 1, 2, 3, 4] rfl)
      ·
        by_cases c39_4 : nI sw = (2 : Int32)
        ·
          refine x_top (y := 2) c39_4 ?_
          refine lv_tableIn (x := 2) (off := 94) (tgt := 133) hx hb dL_isStep_39 (by decide) (by decide) rfl (by decide) ?_
          exact sF_133 ht0 ht1 C hLI hk (show pB < 64 by omega) w (lv_sub hl [0, 1, 2, 3, 4] rfl)
        ·
          by_cases c39_5 : nI sw = (3 : Int32)
          ·
            refine x_top (y := 3) c39_5 ?_
            refine lv_tableIn (x := 3) (off := 94) (tgt := 133) hx hb dL_isStep_39 (by decide) (by decide) rfl (by decide) ?_
            exact sF_133 ht0 ht1 C hLI hk (show pB < 64 by omega) w (lv_sub hl [0, 1, 2, 3, 4] rfl)
          ·
            by_cases c39_6 : nI sw = (4 : Int32)
            ·
              refine x_top (y := 4) c39_6 ?_
              refine lv_tableIn (x := 4) (off := 94) (tgt := 133) hx hb dL_isStep_39 (by decide) (by decide) rfl (by decide) ?_
              exact sF_133 ht0 ht1 C hLI hk (show pB < 64 by omega) w (lv_sub hl [0, 1, 2, 3, 4] rfl)
            ·
              by_cases c39_7 : nI sw = (5 : Int32)
              ·
                refine x_top (y := 5) c39_7 ?_
                refine lv_tableIn (x := 5) (off := 94) (tgt := 133) hx hb dL_isStep_39 (by decide) (by decide) rfl (by decide) ?_
                exact sF_133 ht0 ht1 C hLI hk (show pB < 64 by omega) w (lv_sub hl [0, 1, 2, 3, 4] rfl)
              ·
                by_cases c39_8 : nI sw = (6 : Int32)
                ·
                  refine x_top (y := 6) c39_8 ?_
                  refine lv_tableIn (x := 6) (off := 94) (tgt := 133) hx hb dL_isStep_39 (by decide) (by decide) rfl (by decide) ?_
                  exact sF_133 ht0 ht1 C hLI hk (show pB < 64 by omega) w (lv_sub hl [0, 1, 2, 3, 4] rfl)
                ·
                  by_cases c39_9 : nI sw = (7 : Int32)
                  ·
                    refine x_top (y := 7) c39_9 ?_
                    refine lv_tableIn (x := 7) (off := 287) (tgt := 326) hx hb dL_isStep_39 (by decide) (by decide) rfl (by decide) ?_
                    exact sF_326 ht0 ht1 C hLI hk (show pB < 64 by omega) w (lv_sub hl [0, 1, 2, 3, 4] rfl)
                  ·
                    by_cases c39_10 : nI sw = (8 : Int32)
                    ·
                      refine x_top (y := 8) c39_10 ?_
                      refine lv_tableIn (x := 8) (off := 287) (tgt := 326) hx hb dL_isStep_39 (by decide) (by decide) rfl (by decide) ?_
                      exact sF_326 ht0 ht1 C hLI hk (show pB < 64 by omega) w (lv_sub hl [0, 1, 2, 3, 4] rfl)
                    ·
                      by_cases c39_11 : nI sw = (9 : Int32)
                      ·
                        refine x_top (y := 9) c39_11 ?_
                        refine lv_tableIn (x := 9) (off := 347) (tgt := 386) hx hb dL_isStep_39 (by decide) (by decide) rfl (by decide) ?_
                        exact sF_386 ht0 ht1 C hLI hk (show pB < 64 by omega) w (lv_sub hl [0, 1, 2, 3, 4] rfl)
                      ·
                        by_cases c39_12 : nI sw = (10 : Int32)
                        ·
                          refine x_top (y := 10) c39_12 ?_
                          refine lv_tableIn (x := 10) (off := 414) (tgt := 453) hx hb dL_isStep_39 (by decide) (by decide) rfl (by decide) ?_
                          exact sF_453 ht0 ht1 C hLI hk (show pB < 64 by omega) w (lv_sub hl [0, 1, 2, 3, 4] rfl)
                        ·
                          by_cases c39_13 : nI sw = (11 : Int32)
                          ·
                            refine x_top (y := 11) c39_13 ?_
                            refine lv_tableIn (x := 11) (off := 504) (tgt := 543) hx hb dL_isStep_39 (by decide) (by decide) rfl (by decide) ?_
                            exact sF_543 ht0 ht1 C hLI hk (show pB < 64 by omega) w (lv_sub hl [0, 1, 2, 3, 4] rfl)
                          ·
                            refine lv_tableOut (x := nI sw) (tgt := 611) hx hb dL_isStep_39 (by have z0 := lv_neT (a := 0) c39_2 (by decide); have z1 := lv_neT (a := 1) c39_3 (by decide); have z2 := lv_neT (a := 2) c39_4 (by decide); have z3 := lv_neT (a := 3) c39_5 (by decide); have z4 := lv_neT (a := 4) c39_6 (by decide); have z5 := lv_neT (a := 5) c39_7 (by decide); have z6 := lv_neT (a := 6) c39_8 (by decide); have z7 := lv_neT (a := 7) c39_9 (by decide); have z8 := lv_neT (a := 8) c39_10 (by decide); have z9 := lv_neT (a := 9) c39_11 (by decide); have z10 := lv_neT (a := 10) c39_12 (by decide); have z11 := lv_neT (a := 11) c39_13 (by decide); omega) (by decide) ?_
                            exact sF_611 ht0 ht1 C hLI hk (show pB < 64 by omega) w (lv_sub hl [0, 1, 2, 3, 4] rfl)
  ·
    refine lv_iload_n hx hb dL_isStep_12 rfl (lv_at hl 0 rfl) ?_
    refine lv_iconst (v := 2) hx hb dL_isStep_13 (by decide +kernel) ?_
    refine lv_ishr (x := (xx >>> (4 &&& 31))) (y := 2) hx hb dL_isStep_14 ?_
    refine lv_bipush (v := 64) hx hb dL_isStep_15 (by decide +kernel) ?_
    refine x_callSiB (wr := List.flatten [xTop x o h t r tb, sW cI o G, hH cS h b (nI k), sW cI (b 0) (Hs 0), sW cI (b 1) (Hs 1), sW cI (b 2) (Hs 2), sW cI (b 3) (Hs 3), tW cI t T tn, rW3 r u q d, oW q f, sW cI u U, bW tb B, [(vA, .inl (cI, 64, .inl V))]]) (w2 := List.flatten [xTop x o h t r tb, sW cI o G, hH cS h b (nI k), sW cI (b 0) (Hs 0), sW cI (b 1) (Hs 1), sW cI (b 2) (Hs 2), sW cI (b 3) (Hs 3), tW cI t T tn, rW3 r u q d, oW q f, sW cI u U, bW tb B, [(vA, .inl (cI, 64, .inl V))]]) (rest := []) (n := 2) C w hl [.int ((xx >>> (4 &&& 31)) >>> (2 &&& 31)), .int 64] (k_L_up l D cI cS tys ht0 ((xx >>> (4 &&& 31)) >>> (2 &&& 31)) 64 (by decide)) gL_isStep_L_up rfl (by decide +kernel) ⟨Nat.le_of_ble_eq_true rfl, Nat.le_of_ble_eq_true rfl⟩ rfl rfl (Nat.le_of_ble_eq_true rfl) (List.Perm.refl _) (List.Perm.refl _) ⟨Nat.zero_le _, Nat.zero_le _⟩ dL_isStep_17 (fun H locs w => ?_)
    obtain ⟨pA, hpA, epA⟩ := up_ex ((xx >>> (4 &&& 31)) >>> (2 &&& 31)) 64 (by decide) (by decide)
    refine x_top (y := nI pA) epA ?_
    refine lv_goto (tgt := 31) hx hb dL_isStep_20 (by decide) ?_
    refine lv_istore (lv' := [(4, .int (nI pA)), (3, .int (xx >>> (4 &&& 31))), (0, .ref x), (1, .ref vA), (2, .int xx)]) hx hb dL_isStep_31 hl (by decide) rfl (fun ls hl => ?_)
    refine lv_iload_n hx hb dL_isStep_33 rfl (lv_at hl 4 rfl) ?_
    refine lv_bipush (v := 13) hx hb dL_isStep_34 (by decide +kernel) ?_
    refine x_callSiB (wr := List.flatten [xTop x o h t r tb, sW cI o G, hH cS h b (nI k), sW cI (b 0) (Hs 0), sW cI (b 1) (Hs 1), sW cI (b 2) (Hs 2), sW cI (b 3) (Hs 3), tW cI t T tn, rW3 r u q d, oW q f, sW cI u U, bW tb B, [(vA, .inl (cI, 64, .inl V))]]) (w2 := List.flatten [xTop x o h t r tb, sW cI o G, hH cS h b (nI k), sW cI (b 0) (Hs 0), sW cI (b 1) (Hs 1), sW cI (b 2) (Hs 2), sW cI (b 3) (Hs 3), tW cI t T tn, rW3 r u q d, oW q f, sW cI u U, bW tb B, [(vA, .inl (cI, 64, .inl V))]]) (rest := []) (n := 2) C w hl [.int xx, .int 13] (k_L_up l D cI cS tys ht0 xx 13 (by decide)) gL_isStep_L_up rfl (by decide +kernel) ⟨Nat.le_of_ble_eq_true rfl, Nat.le_of_ble_eq_true rfl⟩ rfl rfl (Nat.le_of_ble_eq_true rfl) (List.Perm.refl _) (List.Perm.refl _) ⟨Nat.zero_le _, Nat.zero_le _⟩ dL_isStep_36 (fun H locs w => ?_)
    obtain ⟨sw, hsw, esw⟩ := up_ex xx 13 (by decide) (by decide)
    refine x_top (y := nI sw) esw ?_
    by_cases c39_14 : nI sw = (0 : Int32)
    ·
      refine x_top (y := 0) c39_14 ?_
      refine lv_tableIn (x := 0) (off := 61) (tgt := 100) hx hb dL_isStep_39 (by decide) (by decide) rfl (by decide) ?_
      exact sF_100 ht0 ht1 C hLI hk (show pA < 64 by omega) w (lv_sub hl [0, 1, 2, 3, 4] rfl)
    ·
      by_cases c39_15 : nI sw = (1 : Int32)
      ·
        refine x_top (y := 1) c39_15 ?_
        refine lv_tableIn (x := 1) (off := 61) (tgt := 100) hx hb dL_isStep_39 (by decide) (by decide) rfl (by decide) ?_
        exact sF_100 ht0 ht1 C hLI hk (show pA < 64 by omega) w (lv_sub hl [0, 1, 2, 3, 4] rfl)
      ·
        by_cases c39_16 : nI sw = (2 : Int32)
        ·
          refine x_top (y := 2) c39_16 ?_
          refine lv_tableIn (x := 2) (off := 94) (tgt := 133) hx hb dL_isStep_39 (by decide) (by decide) rfl (by decide) ?_
          exact sF_133 ht0 ht1 C hLI hk (show pA < 64 by omega) w (lv_sub hl [0, 1, 2, 3, 4] rfl)
        ·
          by_cases c39_17 : nI sw = (3 : Int32)
          ·
            refine x_top (y := 3) c39_17 ?_
            refine lv_tableIn (x := 3) (off := 94) (tgt := 133) hx hb dL_isStep_39 (by decide) (by decide) rfl (by decide) ?_
            exact sF_133 ht0 ht1 C hLI hk (show pA < 64 by omega) w (lv_sub hl [0, 1, 2, 3, 4] rfl)
          ·
            by_cases c39_18 : nI sw = (4 : Int32)
            ·
              refine x_top (y := 4) c39_18 ?_
              refine lv_tableIn (x := 4) (off := 94) (tgt := 133) hx hb dL_isStep_39 (by decide) (by decide) rfl (by decide) ?_
              exact sF_133 ht0 ht1 C hLI hk (show pA < 64 by omega) w (lv_sub hl [0, 1, 2, 3, 4] rfl)
            ·
              by_cases c39_19 : nI sw = (5 : Int32)
              ·
                refine x_top (y := 5) c39_19 ?_
                refine lv_tableIn (x := 5) (off := 94) (tgt := 133) hx hb dL_isStep_39 (by decide) (by decide) rfl (by decide) ?_
                exact sF_133 ht0 ht1 C hLI hk (show pA < 64 by omega) w (lv_sub hl [0, 1, 2, 3, 4] rfl)
              ·
                by_cases c39_20 : nI sw = (6 : Int32)
                ·
                  refine x_top (y := 6) c39_20 ?_
                  refine lv_tableIn (x := 6) (off := 94) (tgt := 133) hx hb dL_isStep_39 (by decide) (by decide) rfl (by decide) ?_
                  exact sF_133 ht0 ht1 C hLI hk (show pA < 64 by omega) w (lv_sub hl [0, 1, 2, 3, 4] rfl)
                ·
                  by_cases c39_21 : nI sw = (7 : Int32)
                  ·
                    refine x_top (y := 7) c39_21 ?_
                    refine lv_tableIn (x := 7) (off := 287) (tgt := 326) hx hb dL_isStep_39 (by decide) (by decide) rfl (by decide) ?_
                    exact sF_326 ht0 ht1 C hLI hk (show pA < 64 by omega) w (lv_sub hl [0, 1, 2, 3, 4] rfl)
                  ·
                    by_cases c39_22 : nI sw = (8 : Int32)
                    ·
                      refine x_top (y := 8) c39_22 ?_
                      refine lv_tableIn (x := 8) (off := 287) (tgt := 326) hx hb dL_isStep_39 (by decide) (by decide) rfl (by decide) ?_
                      exact sF_326 ht0 ht1 C hLI hk (show pA < 64 by omega) w (lv_sub hl [0, 1, 2, 3, 4] rfl)
                    ·
                      by_cases c39_23 : nI sw = (9 : Int32)
                      ·
                        refine x_top (y := 9) c39_23 ?_
                        refine lv_tableIn (x := 9) (off := 347) (tgt := 386) hx hb dL_isStep_39 (by decide) (by decide) rfl (by decide) ?_
                        exact sF_386 ht0 ht1 C hLI hk (show pA < 64 by omega) w (lv_sub hl [0, 1, 2, 3, 4] rfl)
                      ·
                        by_cases c39_24 : nI sw = (10 : Int32)
                        ·
                          refine x_top (y := 10) c39_24 ?_
                          refine lv_tableIn (x := 10) (off := 414) (tgt := 453) hx hb dL_isStep_39 (by decide) (by decide) rfl (by decide) ?_
                          exact sF_453 ht0 ht1 C hLI hk (show pA < 64 by omega) w (lv_sub hl [0, 1, 2, 3, 4] rfl)
                        ·
                          by_cases c39_25 : nI sw = (11 : Int32)
                          ·
                            refine x_top (y := 11) c39_25 ?_
                            refine lv_tableIn (x := 11) (off := 504) (tgt := 543) hx hb dL_isStep_39 (by decide) (by decide) rfl (by decide) ?_
                            exact sF_543 ht0 ht1 C hLI hk (show pA < 64 by omega) w (lv_sub hl [0, 1, 2, 3, 4] rfl)
                          ·
                            refine lv_tableOut (x := nI sw) (tgt := 611) hx hb dL_isStep_39 (by have z0 := lv_neT (a := 0) c39_14 (by decide); have z1 := lv_neT (a := 1) c39_15 (by decide); have z2 := lv_neT (a := 2) c39_16 (by decide); have z3 := lv_neT (a := 3) c39_17 (by decide); have z4 := lv_neT (a := 4) c39_18 (by decide); have z5 := lv_neT (a := 5) c39_19 (by decide); have z6 := lv_neT (a := 6) c39_20 (by decide); have z7 := lv_neT (a := 7) c39_21 (by decide); have z8 := lv_neT (a := 8) c39_22 (by decide); have z9 := lv_neT (a := 9) c39_23 (by decide); have z10 := lv_neT (a := 10) c39_24 (by decide); have z11 := lv_neT (a := 11) c39_25 (by decide); omega) (by decide) ?_
                            exact sF_611 ht0 ht1 C hLI hk (show pA < 64 by omega) w (lv_sub hl [0, 1, 2, 3, 4] rfl)
