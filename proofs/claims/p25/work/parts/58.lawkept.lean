/-! ===== the check of a state ===== -/
set_option maxHeartbeats 1000000 in
set_option maxRecDepth 100000 in
theorem k_L_isKept (l : Launch) (D : va_G) (cI cS : ClassId) (tys : List (ClassId × FieldType)) (ht0 : tys[0]? = some (cI, .int)) (ht1 : tys[1]? = some (cS, .object RX4)) (x : Nat) (o : Nat → Nat) (h : Nat → Nat) (b : Nat → Nat → Nat) (t : Nat → Nat) (r : Nat) (q : Nat) (u : Nat → Nat) (tb : Nat) (G : St) (k : Nat) (Hs : Nat → St) (T : Nat → Int32) (tn : Int32) (f : Nat → Int32) (d : Int32) (U : St) (B : St) (vA : Nat) (V : Nat → Int32) (p0 : Nat) (hLI : LI G V) (hp0 : p0 < 64) : xI l yL_isKept wsL_isKept 5 D tys [.ref x, .ref vA, .int (nI p0)] (List.flatten [xTop x o h t r tb, sW cI o G, hH cS h b (nI k), sW cI (b 0) (Hs 0), sW cI (b 1) (Hs 1), sW cI (b 2) (Hs 2), sW cI (b 3) (Hs 3), tW cI t T tn, rW3 r u q d, oW q f, sW cI u U, bW tb B, [(vA, .inl (cI, 64, .inl V))]]) 1 (List.flatten [xTop x o h t r tb, sW cI o G, hH cS h b (nI k), sW cI (b 0) (Hs 0), sW cI (b 1) (Hs 1), sW cI (b 2) (Hs 2), sW cI (b 3) (Hs 3), tW cI t T tn, rW3 r u q d, oW q f, sW cI u U, bW tb B, [(vA, .inl (cI, 64, .inl V))]]) := by
  refine x_inI (cc := cL_isKept) (maxL := 7) (ret := (some .boolean)) (by decide) rfl (Nat.le_of_ble_eq_true rfl) ?_
  intro p e s m args below meth c A ls C w hl
  have C : xC p s m meth c args cL_isKept 7 wsL_isKept RL D tys (some .boolean) := C
  have hx := C.1.1
  have hb := C.1.2.1
  have hts := C.1.2.2.2.2
  have hown := C.1.2.2.2.1
  have w : xW D A s.heap (List.flatten [xTop x o h t r tb, sW cI o G, hH cS h b (nI k), sW cI (b 0) (Hs 0), sW cI (b 1) (Hs 1), sW cI (b 2) (Hs 2), sW cI (b 3) (Hs 3), tW cI t T tn, rW3 r u q d, oW q f, sW cI u U, bW tb B, [(vA, .inl (cI, 64, .inl V))]]) s.heap [] := w
  have hl : lv_has ls 7 [(0, .ref x), (1, .ref vA), (2, .int (nI p0))] := hl
  have hm0 := mN_le G 0
  have hm1 := mN_le G 1
  have hm2 := mN_le G 2
  refine lv_aload_n hx hb dL_isKept_0 rfl (lv_at hl 0 rfl) ?_
  refine lv_iconst (v := 2) hx hb dL_isKept_1 (by decide +kernel) ?_
  refine x_callViB (wr := List.flatten [[(vA, .inl (cI, 64, .inl V))]]) (w2 := List.flatten [xTop x o h t r tb, sW cI o G, hH cS h b (nI k), sW cI (b 0) (Hs 0), sW cI (b 1) (Hs 1), sW cI (b 2) (Hs 2), sW cI (b 3) (Hs 3), tW cI t T tn, rW3 r u q d, oW q f, sW cI u U, bW tb B, [(vA, .inl (cI, 64, .inl V))]]) (rest := []) (n := 1) C w hl [.int 2] (k_X6_lines l D cI cS tys ht0 ht1 x o h b t r q u tb G k Hs T tn f d U B 2 ) gL_isKept_X6_lines rfl (by decide +kernel) ⟨Nat.le_of_ble_eq_true rfl, Nat.le_of_ble_eq_true rfl⟩ 0 6 rfl rfl rfl rfl (Nat.le_of_ble_eq_true rfl) (List.Perm.of_eq (by simp only [List.flatten_cons, List.flatten_nil, List.append_nil, List.append_assoc, List.nil_append])) (List.Perm.of_eq (by simp only [List.flatten_cons, List.flatten_nil, List.append_nil, List.append_assoc, List.nil_append])) ⟨Nat.zero_le _, Nat.zero_le _⟩ dL_isKept_2 (fun H locs w => ?_)
  refine x_top (y := (setI G 2)) (lin_2 _) ?_
  refine x_callSiB (wr := List.flatten [xTop x o h t r tb, sW cI o G, hH cS h b (nI k), sW cI (b 0) (Hs 0), sW cI (b 1) (Hs 1), sW cI (b 2) (Hs 2), sW cI (b 3) (Hs 3), tW cI t T tn, rW3 r u q d, oW q f, sW cI u U, bW tb B, [(vA, .inl (cI, 64, .inl V))]]) (w2 := List.flatten [xTop x o h t r tb, sW cI o G, hH cS h b (nI k), sW cI (b 0) (Hs 0), sW cI (b 1) (Hs 1), sW cI (b 2) (Hs 2), sW cI (b 3) (Hs 3), tW cI t T tn, rW3 r u q d, oW q f, sW cI u U, bW tb B, [(vA, .inl (cI, 64, .inl V))]]) (rest := []) (n := 1) C w hl [.int (setI G 2)] (k_L_bits l D cI cS tys ht0 (setI G 2) ) gL_isKept_L_bits rfl (by decide +kernel) ⟨Nat.le_of_ble_eq_true rfl, Nat.le_of_ble_eq_true rfl⟩ rfl rfl (Nat.le_of_ble_eq_true rfl) (List.Perm.refl _) (List.Perm.refl _) ⟨Nat.zero_le _, Nat.zero_le _⟩ dL_isKept_5 (fun H locs w => ?_)
  refine x_top (y := nI (mN G 2)) (bit_m _ _) ?_
  refine lv_istore_n (lv' := [(3, .int (nI (mN G 2))), (0, .ref x), (1, .ref vA), (2, .int (nI p0))]) hx hb dL_isKept_8 rfl hl (by decide) rfl (fun ls hl => ?_)
  refine lv_iload_n hx hb dL_isKept_9 rfl (lv_at hl 0 rfl) ?_
  refine lv_aload_n hx hb dL_isKept_10 rfl (lv_at hl 1 rfl) ?_
  refine lv_iconst (v := 3) hx hb dL_isKept_11 (by decide +kernel) ?_
  refine x_callViB (wr := List.flatten [[(vA, .inl (cI, 64, .inl V))]]) (w2 := List.flatten [xTop x o h t r tb, sW cI o G, hH cS h b (nI k), sW cI (b 0) (Hs 0), sW cI (b 1) (Hs 1), sW cI (b 2) (Hs 2), sW cI (b 3) (Hs 3), tW cI t T tn, rW3 r u q d, oW q f, sW cI u U, bW tb B, [(vA, .inl (cI, 64, .inl V))]]) (rest := [.int (nI (mN G 2))]) (n := 1) C w hl [.int 3] (k_X6_battery l D cI cS tys ht0 ht1 x o h b t r q u tb G k Hs T tn f d U B 3 ) gL_isKept_X6_battery rfl (by decide +kernel) ⟨Nat.le_of_ble_eq_true rfl, Nat.le_of_ble_eq_true rfl⟩ 0 6 rfl rfl rfl rfl (Nat.le_of_ble_eq_true rfl) (List.Perm.of_eq (by simp only [List.flatten_cons, List.flatten_nil, List.append_nil, List.append_assoc, List.nil_append])) (List.Perm.of_eq (by simp only [List.flatten_cons, List.flatten_nil, List.append_nil, List.append_assoc, List.nil_append])) ⟨Nat.zero_le _, Nat.zero_le _⟩ dL_isKept_12 (fun H locs w => ?_)
  refine x_top (y := (alwI G)) (bat_3 _) ?_
  refine x_icR_gt (x := nI (mN G 2)) (y := (alwI G)) (tgt := 114) hx hb dL_isKept_15 (by decide) (fun c15_1 => ?_) (fun c15_1 => ?_)
  ·
    exact absurd c15_1 (kp_alw hLI)
  ·
    refine lv_aload_n hx hb dL_isKept_18 rfl (lv_at hl 1 rfl) ?_
    refine lv_iconst (v := 5) hx hb dL_isKept_19 (by decide +kernel) ?_
    refine x_callViB (wr := List.flatten [[(vA, .inl (cI, 64, .inl V))]]) (w2 := List.flatten [xTop x o h t r tb, sW cI o G, hH cS h b (nI k), sW cI (b 0) (Hs 0), sW cI (b 1) (Hs 1), sW cI (b 2) (Hs 2), sW cI (b 3) (Hs 3), tW cI t T tn, rW3 r u q d, oW q f, sW cI u U, bW tb B, [(vA, .inl (cI, 64, .inl V))]]) (rest := []) (n := 1) C w hl [.int 5] (k_X6_battery l D cI cS tys ht0 ht1 x o h b t r q u tb G k Hs T tn f d U B 5 ) gL_isKept_X6_battery rfl (by decide +kernel) ⟨Nat.le_of_ble_eq_true rfl, Nat.le_of_ble_eq_true rfl⟩ 0 6 rfl rfl rfl rfl (Nat.le_of_ble_eq_true rfl) (List.Perm.of_eq (by simp only [List.flatten_cons, List.flatten_nil, List.append_nil, List.append_assoc, List.nil_append])) (List.Perm.of_eq (by simp only [List.flatten_cons, List.flatten_nil, List.append_nil, List.append_assoc, List.nil_append])) ⟨Nat.zero_le _, Nat.zero_le _⟩ dL_isKept_20 (fun H locs w => ?_)
    refine x_top (y := nI (mN G 2)) ((bat_5 _).trans (sbc_m hLI)) ?_
    refine lv_iload_n hx hb dL_isKept_23 rfl (lv_at hl 0 rfl) ?_
    refine x_icN_ne (i := mN G 2) (j := mN G 2) (tgt := 114) hx hb (by omega) (by omega) dL_isKept_24 (by decide) (fun c24_2 => ?_) (fun c24_2 => ?_)
    ·
      exact absurd rfl c24_2
    ·
      refine lv_aload_n hx hb dL_isKept_27 rfl (lv_at hl 1 rfl) ?_
      refine lv_iconst (v := 3) hx hb dL_isKept_28 (by decide +kernel) ?_
      refine x_callViB (wr := List.flatten [[(vA, .inl (cI, 64, .inl V))]]) (w2 := List.flatten [xTop x o h t r tb, sW cI o G, hH cS h b (nI k), sW cI (b 0) (Hs 0), sW cI (b 1) (Hs 1), sW cI (b 2) (Hs 2), sW cI (b 3) (Hs 3), tW cI t T tn, rW3 r u q d, oW q f, sW cI u U, bW tb B, [(vA, .inl (cI, 64, .inl V))]]) (rest := []) (n := 1) C w hl [.int 3] (k_X6_lines l D cI cS tys ht0 ht1 x o h b t r q u tb G k Hs T tn f d U B 3 ) gL_isKept_X6_lines rfl (by decide +kernel) ⟨Nat.le_of_ble_eq_true rfl, Nat.le_of_ble_eq_true rfl⟩ 0 6 rfl rfl rfl rfl (Nat.le_of_ble_eq_true rfl) (List.Perm.of_eq (by simp only [List.flatten_cons, List.flatten_nil, List.append_nil, List.append_assoc, List.nil_append])) (List.Perm.of_eq (by simp only [List.flatten_cons, List.flatten_nil, List.append_nil, List.append_assoc, List.nil_append])) ⟨Nat.zero_le _, Nat.zero_le _⟩ dL_isKept_29 (fun H locs w => ?_)
      refine x_top (y := 0) (lin_3z hLI) ?_
      refine x_ifR_ne (x := 0) (tgt := 114) hx hb dL_isKept_32 (by decide) (fun h => absurd h (by decide)) (fun _ => ?_)
      refine lv_aload_n hx hb dL_isKept_35 rfl (lv_at hl 1 rfl) ?_
      refine lv_iconst (v := 5) hx hb dL_isKept_36 (by decide +kernel) ?_
      refine x_callViB (wr := List.flatten [[(vA, .inl (cI, 64, .inl V))]]) (w2 := List.flatten [xTop x o h t r tb, sW cI o G, hH cS h b (nI k), sW cI (b 0) (Hs 0), sW cI (b 1) (Hs 1), sW cI (b 2) (Hs 2), sW cI (b 3) (Hs 3), tW cI t T tn, rW3 r u q d, oW q f, sW cI u U, bW tb B, [(vA, .inl (cI, 64, .inl V))]]) (rest := []) (n := 1) C w hl [.int 5] (k_X6_count l D cI cS tys ht0 ht1 x o h b t r q u tb G k Hs T tn f d U B 5 ) gL_isKept_X6_count rfl (by decide +kernel) ⟨Nat.le_of_ble_eq_true rfl, Nat.le_of_ble_eq_true rfl⟩ 0 6 rfl rfl rfl rfl (Nat.le_of_ble_eq_true rfl) (List.Perm.of_eq (by simp only [List.flatten_cons, List.flatten_nil, List.append_nil, List.append_assoc, List.nil_append])) (List.Perm.of_eq (by simp only [List.flatten_cons, List.flatten_nil, List.append_nil, List.append_assoc, List.nil_append])) ⟨Nat.zero_le _, Nat.zero_le _⟩ dL_isKept_37 (fun H locs w => ?_)
      refine x_top (y := 0) ((con_5 _ _ _).trans hLI.1.2.2.2.2.1) ?_
      refine x_ifR_ne (x := 0) (tgt := 114) hx hb dL_isKept_40 (by decide) (fun h => absurd h (by decide)) (fun _ => ?_)
      refine lv_aload_n hx hb dL_isKept_43 rfl (lv_at hl 1 rfl) ?_
      refine lv_bipush (v := 8) hx hb dL_isKept_44 (by decide +kernel) ?_
      refine x_callViB (wr := List.flatten [[(vA, .inl (cI, 64, .inl V))]]) (w2 := List.flatten [xTop x o h t r tb, sW cI o G, hH cS h b (nI k), sW cI (b 0) (Hs 0), sW cI (b 1) (Hs 1), sW cI (b 2) (Hs 2), sW cI (b 3) (Hs 3), tW cI t T tn, rW3 r u q d, oW q f, sW cI u U, bW tb B, [(vA, .inl (cI, 64, .inl V))]]) (rest := []) (n := 1) C w hl [.int 8] (k_X6_count l D cI cS tys ht0 ht1 x o h b t r q u tb G k Hs T tn f d U B 8 ) gL_isKept_X6_count rfl (by decide +kernel) ⟨Nat.le_of_ble_eq_true rfl, Nat.le_of_ble_eq_true rfl⟩ 0 6 rfl rfl rfl rfl (Nat.le_of_ble_eq_true rfl) (List.Perm.of_eq (by simp only [List.flatten_cons, List.flatten_nil, List.append_nil, List.append_assoc, List.nil_append])) (List.Perm.of_eq (by simp only [List.flatten_cons, List.flatten_nil, List.append_nil, List.append_assoc, List.nil_append])) ⟨Nat.zero_le _, Nat.zero_le _⟩ dL_isKept_46 (fun H locs w => ?_)
      refine x_top (y := ((G 7 3) + (G 7 4))) ((con_8a _ _ _).trans hLI.1.2.2.2.2.2) ?_
      refine lv_aload_n hx hb dL_isKept_49 rfl (lv_at hl 1 rfl) ?_
      refine lv_iconst (v := 3) hx hb dL_isKept_50 (by decide +kernel) ?_
      refine x_callViB (wr := List.flatten [[(vA, .inl (cI, 64, .inl V))]]) (w2 := List.flatten [xTop x o h t r tb, sW cI o G, hH cS h b (nI k), sW cI (b 0) (Hs 0), sW cI (b 1) (Hs 1), sW cI (b 2) (Hs 2), sW cI (b 3) (Hs 3), tW cI t T tn, rW3 r u q d, oW q f, sW cI u U, bW tb B, [(vA, .inl (cI, 64, .inl V))]]) (rest := [.int ((G 7 3) + (G 7 4))]) (n := 1) C w hl [.int 3] (k_X6_count l D cI cS tys ht0 ht1 x o h b t r q u tb G k Hs T tn f d U B 3 ) gL_isKept_X6_count rfl (by decide +kernel) ⟨Nat.le_of_ble_eq_true rfl, Nat.le_of_ble_eq_true rfl⟩ 0 6 rfl rfl rfl rfl (Nat.le_of_ble_eq_true rfl) (List.Perm.of_eq (by simp only [List.flatten_cons, List.flatten_nil, List.append_nil, List.append_assoc, List.nil_append])) (List.Perm.of_eq (by simp only [List.flatten_cons, List.flatten_nil, List.append_nil, List.append_assoc, List.nil_append])) ⟨Nat.zero_le _, Nat.zero_le _⟩ dL_isKept_51 (fun H locs w => ?_)
      refine x_top (y := (G 7 3)) (con_3 _ _ _) ?_
      refine lv_aload_n hx hb dL_isKept_54 rfl (lv_at hl 1 rfl) ?_
      refine lv_iconst (v := 4) hx hb dL_isKept_55 (by decide +kernel) ?_
      refine x_callViB (wr := List.flatten [[(vA, .inl (cI, 64, .inl V))]]) (w2 := List.flatten [xTop x o h t r tb, sW cI o G, hH cS h b (nI k), sW cI (b 0) (Hs 0), sW cI (b 1) (Hs 1), sW cI (b 2) (Hs 2), sW cI (b 3) (Hs 3), tW cI t T tn, rW3 r u q d, oW q f, sW cI u U, bW tb B, [(vA, .inl (cI, 64, .inl V))]]) (rest := [.int (G 7 3), .int ((G 7 3) + (G 7 4))]) (n := 1) C w hl [.int 4] (k_X6_count l D cI cS tys ht0 ht1 x o h b t r q u tb G k Hs T tn f d U B 4 ) gL_isKept_X6_count rfl (by decide +kernel) ⟨Nat.le_of_ble_eq_true rfl, Nat.le_of_ble_eq_true rfl⟩ 0 6 rfl rfl rfl rfl (Nat.le_of_ble_eq_true rfl) (List.Perm.of_eq (by simp only [List.flatten_cons, List.flatten_nil, List.append_nil, List.append_assoc, List.nil_append])) (List.Perm.of_eq (by simp only [List.flatten_cons, List.flatten_nil, List.append_nil, List.append_assoc, List.nil_append])) ⟨Nat.zero_le _, Nat.zero_le _⟩ dL_isKept_56 (fun H locs w => ?_)
      refine x_top (y := (G 7 4)) (con_4 _ _ _) ?_
      refine lv_iadd (x := (G 7 3)) (y := (G 7 4)) hx hb dL_isKept_59 ?_
      refine x_icR_ne (x := ((G 7 3) + (G 7 4))) (y := ((G 7 3) + (G 7 4))) (tgt := 114) hx hb dL_isKept_60 (by decide) (fun c60_5 => ?_) (fun c60_5 => ?_)
      ·
        exact absurd rfl c60_5
      ·
        refine lv_aload_n hx hb dL_isKept_63 rfl (lv_at hl 1 rfl) ?_
        refine lv_iconst (v := 0) hx hb dL_isKept_64 (by decide +kernel) ?_
        refine x_callViB (wr := List.flatten [[(vA, .inl (cI, 64, .inl V))]]) (w2 := List.flatten [xTop x o h t r tb, sW cI o G, hH cS h b (nI k), sW cI (b 0) (Hs 0), sW cI (b 1) (Hs 1), sW cI (b 2) (Hs 2), sW cI (b 3) (Hs 3), tW cI t T tn, rW3 r u q d, oW q f, sW cI u U, bW tb B, [(vA, .inl (cI, 64, .inl V))]]) (rest := []) (n := 1) C w hl [.int 0] (k_X6_lines l D cI cS tys ht0 ht1 x o h b t r q u tb G k Hs T tn f d U B 0 ) gL_isKept_X6_lines rfl (by decide +kernel) ⟨Nat.le_of_ble_eq_true rfl, Nat.le_of_ble_eq_true rfl⟩ 0 6 rfl rfl rfl rfl (Nat.le_of_ble_eq_true rfl) (List.Perm.of_eq (by simp only [List.flatten_cons, List.flatten_nil, List.append_nil, List.append_assoc, List.nil_append])) (List.Perm.of_eq (by simp only [List.flatten_cons, List.flatten_nil, List.append_nil, List.append_assoc, List.nil_append])) ⟨Nat.zero_le _, Nat.zero_le _⟩ dL_isKept_65 (fun H locs w => ?_)
        refine x_top (y := (setI G 0)) (lin_0 _) ?_
        refine lv_aload_n hx hb dL_isKept_68 rfl (lv_at hl 1 rfl) ?_
        refine lv_iconst (v := 1) hx hb dL_isKept_69 (by decide +kernel) ?_
        refine x_callViB (wr := List.flatten [[(vA, .inl (cI, 64, .inl V))]]) (w2 := List.flatten [xTop x o h t r tb, sW cI o G, hH cS h b (nI k), sW cI (b 0) (Hs 0), sW cI (b 1) (Hs 1), sW cI (b 2) (Hs 2), sW cI (b 3) (Hs 3), tW cI t T tn, rW3 r u q d, oW q f, sW cI u U, bW tb B, [(vA, .inl (cI, 64, .inl V))]]) (rest := [.int (setI G 0)]) (n := 1) C w hl [.int 1] (k_X6_lines l D cI cS tys ht0 ht1 x o h b t r q u tb G k Hs T tn f d U B 1 ) gL_isKept_X6_lines rfl (by decide +kernel) ⟨Nat.le_of_ble_eq_true rfl, Nat.le_of_ble_eq_true rfl⟩ 0 6 rfl rfl rfl rfl (Nat.le_of_ble_eq_true rfl) (List.Perm.of_eq (by simp only [List.flatten_cons, List.flatten_nil, List.append_nil, List.append_assoc, List.nil_append])) (List.Perm.of_eq (by simp only [List.flatten_cons, List.flatten_nil, List.append_nil, List.append_assoc, List.nil_append])) ⟨Nat.zero_le _, Nat.zero_le _⟩ dL_isKept_70 (fun H locs w => ?_)
        refine x_top (y := (setI G 1)) (lin_1 _) ?_
        refine lv_ior (x := (setI G 0)) (y := (setI G 1)) hx hb dL_isKept_73 ?_
        refine lv_aload_n hx hb dL_isKept_74 rfl (lv_at hl 1 rfl) ?_
        refine lv_iconst (v := 2) hx hb dL_isKept_75 (by decide +kernel) ?_
        refine x_callViB (wr := List.flatten [[(vA, .inl (cI, 64, .inl V))]]) (w2 := List.flatten [xTop x o h t r tb, sW cI o G, hH cS h b (nI k), sW cI (b 0) (Hs 0), sW cI (b 1) (Hs 1), sW cI (b 2) (Hs 2), sW cI (b 3) (Hs 3), tW cI t T tn, rW3 r u q d, oW q f, sW cI u U, bW tb B, [(vA, .inl (cI, 64, .inl V))]]) (rest := [.int ((setI G 0) ||| (setI G 1))]) (n := 1) C w hl [.int 2] (k_X6_lines l D cI cS tys ht0 ht1 x o h b t r q u tb G k Hs T tn f d U B 2 ) gL_isKept_X6_lines rfl (by decide +kernel) ⟨Nat.le_of_ble_eq_true rfl, Nat.le_of_ble_eq_true rfl⟩ 0 6 rfl rfl rfl rfl (Nat.le_of_ble_eq_true rfl) (List.Perm.of_eq (by simp only [List.flatten_cons, List.flatten_nil, List.append_nil, List.append_assoc, List.nil_append])) (List.Perm.of_eq (by simp only [List.flatten_cons, List.flatten_nil, List.append_nil, List.append_assoc, List.nil_append])) ⟨Nat.zero_le _, Nat.zero_le _⟩ dL_isKept_76 (fun H locs w => ?_)
        refine x_top (y := (setI G 2)) (lin_2 _) ?_
        refine lv_ior (x := ((setI G 0) ||| (setI G 1))) (y := (setI G 2)) hx hb dL_isKept_79 ?_
        refine lv_sipush (v := 255) hx hb dL_isKept_80 (by decide +kernel) ?_
        refine x_icR_ne (x := (((setI G 0) ||| (setI G 1)) ||| (setI G 2))) (y := 255) (tgt := 114) hx hb dL_isKept_83 (by decide) (fun c83_6 => ?_) (fun c83_6 => ?_)
        ·
          exact absurd (kp_all3 hLI) c83_6
        ·
          refine lv_aload_n hx hb dL_isKept_86 rfl (lv_at hl 1 rfl) ?_
          refine lv_iconst (v := 0) hx hb dL_isKept_87 (by decide +kernel) ?_
          refine x_callViB (wr := List.flatten [[(vA, .inl (cI, 64, .inl V))]]) (w2 := List.flatten [xTop x o h t r tb, sW cI o G, hH cS h b (nI k), sW cI (b 0) (Hs 0), sW cI (b 1) (Hs 1), sW cI (b 2) (Hs 2), sW cI (b 3) (Hs 3), tW cI t T tn, rW3 r u q d, oW q f, sW cI u U, bW tb B, [(vA, .inl (cI, 64, .inl V))]]) (rest := []) (n := 1) C w hl [.int 0] (k_X6_lines l D cI cS tys ht0 ht1 x o h b t r q u tb G k Hs T tn f d U B 0 ) gL_isKept_X6_lines rfl (by decide +kernel) ⟨Nat.le_of_ble_eq_true rfl, Nat.le_of_ble_eq_true rfl⟩ 0 6 rfl rfl rfl rfl (Nat.le_of_ble_eq_true rfl) (List.Perm.of_eq (by simp only [List.flatten_cons, List.flatten_nil, List.append_nil, List.append_assoc, List.nil_append])) (List.Perm.of_eq (by simp only [List.flatten_cons, List.flatten_nil, List.append_nil, List.append_assoc, List.nil_append])) ⟨Nat.zero_le _, Nat.zero_le _⟩ dL_isKept_88 (fun H locs w => ?_)
          refine x_top (y := (setI G 0)) (lin_0 _) ?_
          refine x_callSiB (wr := List.flatten [xTop x o h t r tb, sW cI o G, hH cS h b (nI k), sW cI (b 0) (Hs 0), sW cI (b 1) (Hs 1), sW cI (b 2) (Hs 2), sW cI (b 3) (Hs 3), tW cI t T tn, rW3 r u q d, oW q f, sW cI u U, bW tb B, [(vA, .inl (cI, 64, .inl V))]]) (w2 := List.flatten [xTop x o h t r tb, sW cI o G, hH cS h b (nI k), sW cI (b 0) (Hs 0), sW cI (b 1) (Hs 1), sW cI (b 2) (Hs 2), sW cI (b 3) (Hs 3), tW cI t T tn, rW3 r u q d, oW q f, sW cI u U, bW tb B, [(vA, .inl (cI, 64, .inl V))]]) (rest := []) (n := 1) C w hl [.int (setI G 0)] (k_L_bits l D cI cS tys ht0 (setI G 0) ) gL_isKept_L_bits rfl (by decide +kernel) ⟨Nat.le_of_ble_eq_true rfl, Nat.le_of_ble_eq_true rfl⟩ rfl rfl (Nat.le_of_ble_eq_true rfl) (List.Perm.refl _) (List.Perm.refl _) ⟨Nat.zero_le _, Nat.zero_le _⟩ dL_isKept_91 (fun H locs w => ?_)
          refine x_top (y := nI (mN G 0)) (bit_m _ _) ?_
          refine lv_aload_n hx hb dL_isKept_94 rfl (lv_at hl 1 rfl) ?_
          refine lv_iconst (v := 1) hx hb dL_isKept_95 (by decide +kernel) ?_
          refine x_callViB (wr := List.flatten [[(vA, .inl (cI, 64, .inl V))]]) (w2 := List.flatten [xTop x o h t r tb, sW cI o G, hH cS h b (nI k), sW cI (b 0) (Hs 0), sW cI (b 1) (Hs 1), sW cI (b 2) (Hs 2), sW cI (b 3) (Hs 3), tW cI t T tn, rW3 r u q d, oW q f, sW cI u U, bW tb B, [(vA, .inl (cI, 64, .inl V))]]) (rest := [.int (nI (mN G 0))]) (n := 1) C w hl [.int 1] (k_X6_lines l D cI cS tys ht0 ht1 x o h b t r q u tb G k Hs T tn f d U B 1 ) gL_isKept_X6_lines rfl (by decide +kernel) ⟨Nat.le_of_ble_eq_true rfl, Nat.le_of_ble_eq_true rfl⟩ 0 6 rfl rfl rfl rfl (Nat.le_of_ble_eq_true rfl) (List.Perm.of_eq (by simp only [List.flatten_cons, List.flatten_nil, List.append_nil, List.append_assoc, List.nil_append])) (List.Perm.of_eq (by simp only [List.flatten_cons, List.flatten_nil, List.append_nil, List.append_assoc, List.nil_append])) ⟨Nat.zero_le _, Nat.zero_le _⟩ dL_isKept_96 (fun H locs w => ?_)
          refine x_top (y := (setI G 1)) (lin_1 _) ?_
          refine x_callSiB (wr := List.flatten [xTop x o h t r tb, sW cI o G, hH cS h b (nI k), sW cI (b 0) (Hs 0), sW cI (b 1) (Hs 1), sW cI (b 2) (Hs 2), sW cI (b 3) (Hs 3), tW cI t T tn, rW3 r u q d, oW q f, sW cI u U, bW tb B, [(vA, .inl (cI, 64, .inl V))]]) (w2 := List.flatten [xTop x o h t r tb, sW cI o G, hH cS h b (nI k), sW cI (b 0) (Hs 0), sW cI (b 1) (Hs 1), sW cI (b 2) (Hs 2), sW cI (b 3) (Hs 3), tW cI t T tn, rW3 r u q d, oW q f, sW cI u U, bW tb B, [(vA, .inl (cI, 64, .inl V))]]) (rest := [.int (nI (mN G 0))]) (n := 1) C w hl [.int (setI G 1)] (k_L_bits l D cI cS tys ht0 (setI G 1) ) gL_isKept_L_bits rfl (by decide +kernel) ⟨Nat.le_of_ble_eq_true rfl, Nat.le_of_ble_eq_true rfl⟩ rfl rfl (Nat.le_of_ble_eq_true rfl) (List.Perm.refl _) (List.Perm.refl _) ⟨Nat.zero_le _, Nat.zero_le _⟩ dL_isKept_99 (fun H locs w => ?_)
          refine x_top (y := nI (mN G 1)) (bit_m _ _) ?_
          refine x_iaddN (i := mN G 0) (j := mN G 1) hx hb dL_isKept_102 ?_
          refine lv_iload_n hx hb dL_isKept_103 rfl (lv_at hl 0 rfl) ?_
          refine x_iaddN (i := (mN G 0) + (mN G 1)) (j := mN G 2) hx hb dL_isKept_104 ?_
          refine lv_bipush (v := 8) hx hb dL_isKept_105 (by decide +kernel) ?_
          refine x_icN_ne (i := ((mN G 0) + (mN G 1)) + (mN G 2)) (j := 8) (tgt := 114) hx hb (by omega) (by omega) dL_isKept_107 (by decide) (fun c107_7 => ?_) (fun c107_7 => ?_)
          ·
            exact absurd (cnt_sum (G 2) hLI.1.1.1.2.1 8) c107_7
          ·
            refine lv_iconst (v := 1) hx hb dL_isKept_110 (by decide +kernel) ?_
            refine lv_goto (tgt := 115) hx hb dL_isKept_111 (by decide) ?_
            refine lv_istore (lv' := [(4, .int 1), (3, .int (nI (mN G 2))), (0, .ref x), (1, .ref vA), (2, .int (nI p0))]) hx hb dL_isKept_115 hl (by decide) rfl (fun ls hl => ?_)
            refine lv_iload hx hb dL_isKept_117 (lv_at hl 0 rfl) ?_
            refine x_ifR_eq (x := 1) (tgt := 179) hx hb dL_isKept_119 (by decide) (fun h => absurd h (by decide)) (fun _ => ?_)
            refine lv_aload_n hx hb dL_isKept_122 rfl (lv_at hl 2 rfl) ?_
            refine lv_iconst (v := 0) hx hb dL_isKept_123 (by decide +kernel) ?_
            refine x_callViB (wr := List.flatten [[(vA, .inl (cI, 64, .inl V))]]) (w2 := List.flatten [xTop x o h t r tb, sW cI o G, hH cS h b (nI k), sW cI (b 0) (Hs 0), sW cI (b 1) (Hs 1), sW cI (b 2) (Hs 2), sW cI (b 3) (Hs 3), tW cI t T tn, rW3 r u q d, oW q f, sW cI u U, bW tb B, [(vA, .inl (cI, 64, .inl V))]]) (rest := []) (n := 1) C w hl [.int 0] (k_X6_battery l D cI cS tys ht0 ht1 x o h b t r q u tb G k Hs T tn f d U B 0 ) gL_isKept_X6_battery rfl (by decide +kernel) ⟨Nat.le_of_ble_eq_true rfl, Nat.le_of_ble_eq_true rfl⟩ 0 6 rfl rfl rfl rfl (Nat.le_of_ble_eq_true rfl) (List.Perm.of_eq (by simp only [List.flatten_cons, List.flatten_nil, List.append_nil, List.append_assoc, List.nil_append])) (List.Perm.of_eq (by simp only [List.flatten_cons, List.flatten_nil, List.append_nil, List.append_assoc, List.nil_append])) ⟨Nat.zero_le _, Nat.zero_le _⟩ dL_isKept_124 (fun H locs w => ?_)
            refine x_top (y := (G 6 0)) (bat_0 _) ?_
            refine x_ifR_lt (x := (G 6 0)) (tgt := 179) hx hb dL_isKept_127 (by decide) (fun c127_9 => ?_) (fun c127_9 => ?_)
            ·
              exact absurd c127_9 (kp_c0 hLI)
            ·
              refine lv_aload_n hx hb dL_isKept_130 rfl (lv_at hl 2 rfl) ?_
              refine lv_iconst (v := 0) hx hb dL_isKept_131 (by decide +kernel) ?_
              refine x_callViB (wr := List.flatten [[(vA, .inl (cI, 64, .inl V))]]) (w2 := List.flatten [xTop x o h t r tb, sW cI o G, hH cS h b (nI k), sW cI (b 0) (Hs 0), sW cI (b 1) (Hs 1), sW cI (b 2) (Hs 2), sW cI (b 3) (Hs 3), tW cI t T tn, rW3 r u q d, oW q f, sW cI u U, bW tb B, [(vA, .inl (cI, 64, .inl V))]]) (rest := []) (n := 1) C w hl [.int 0] (k_X6_battery l D cI cS tys ht0 ht1 x o h b t r q u tb G k Hs T tn f d U B 0 ) gL_isKept_X6_battery rfl (by decide +kernel) ⟨Nat.le_of_ble_eq_true rfl, Nat.le_of_ble_eq_true rfl⟩ 0 6 rfl rfl rfl rfl (Nat.le_of_ble_eq_true rfl) (List.Perm.of_eq (by simp only [List.flatten_cons, List.flatten_nil, List.append_nil, List.append_assoc, List.nil_append])) (List.Perm.of_eq (by simp only [List.flatten_cons, List.flatten_nil, List.append_nil, List.append_assoc, List.nil_append])) ⟨Nat.zero_le _, Nat.zero_le _⟩ dL_isKept_132 (fun H locs w => ?_)
              refine x_top (y := (G 6 0)) (bat_0 _) ?_
              refine lv_aload_n hx hb dL_isKept_135 rfl (lv_at hl 2 rfl) ?_
              refine lv_iconst (v := 1) hx hb dL_isKept_136 (by decide +kernel) ?_
              refine x_callViB (wr := List.flatten [[(vA, .inl (cI, 64, .inl V))]]) (w2 := List.flatten [xTop x o h t r tb, sW cI o G, hH cS h b (nI k), sW cI (b 0) (Hs 0), sW cI (b 1) (Hs 1), sW cI (b 2) (Hs 2), sW cI (b 3) (Hs 3), tW cI t T tn, rW3 r u q d, oW q f, sW cI u U, bW tb B, [(vA, .inl (cI, 64, .inl V))]]) (rest := [.int (G 6 0)]) (n := 1) C w hl [.int 1] (k_X6_battery l D cI cS tys ht0 ht1 x o h b t r q u tb G k Hs T tn f d U B 1 ) gL_isKept_X6_battery rfl (by decide +kernel) ⟨Nat.le_of_ble_eq_true rfl, Nat.le_of_ble_eq_true rfl⟩ 0 6 rfl rfl rfl rfl (Nat.le_of_ble_eq_true rfl) (List.Perm.of_eq (by simp only [List.flatten_cons, List.flatten_nil, List.append_nil, List.append_assoc, List.nil_append])) (List.Perm.of_eq (by simp only [List.flatten_cons, List.flatten_nil, List.append_nil, List.append_assoc, List.nil_append])) ⟨Nat.zero_le _, Nat.zero_le _⟩ dL_isKept_137 (fun H locs w => ?_)
              refine x_top (y := (capI G)) (bat_1 _) ?_
              refine x_icR_gt (x := (G 6 0)) (y := (capI G)) (tgt := 179) hx hb dL_isKept_140 (by decide) (fun c140_10 => ?_) (fun c140_10 => ?_)
              ·
                exact absurd c140_10 (kp_cap hLI)
              ·
                refine lv_aload_n hx hb dL_isKept_143 rfl (lv_at hl 2 rfl) ?_
                refine lv_iconst (v := 1) hx hb dL_isKept_144 (by decide +kernel) ?_
                refine x_callViB (wr := List.flatten [[(vA, .inl (cI, 64, .inl V))]]) (w2 := List.flatten [xTop x o h t r tb, sW cI o G, hH cS h b (nI k), sW cI (b 0) (Hs 0), sW cI (b 1) (Hs 1), sW cI (b 2) (Hs 2), sW cI (b 3) (Hs 3), tW cI t T tn, rW3 r u q d, oW q f, sW cI u U, bW tb B, [(vA, .inl (cI, 64, .inl V))]]) (rest := []) (n := 1) C w hl [.int 1] (k_X6_battery l D cI cS tys ht0 ht1 x o h b t r q u tb G k Hs T tn f d U B 1 ) gL_isKept_X6_battery rfl (by decide +kernel) ⟨Nat.le_of_ble_eq_true rfl, Nat.le_of_ble_eq_true rfl⟩ 0 6 rfl rfl rfl rfl (Nat.le_of_ble_eq_true rfl) (List.Perm.of_eq (by simp only [List.flatten_cons, List.flatten_nil, List.append_nil, List.append_assoc, List.nil_append])) (List.Perm.of_eq (by simp only [List.flatten_cons, List.flatten_nil, List.append_nil, List.append_assoc, List.nil_append])) ⟨Nat.zero_le _, Nat.zero_le _⟩ dL_isKept_145 (fun H locs w => ?_)
                refine x_top (y := (capI G)) (bat_1 _) ?_
                refine lv_sipush (v := 1000) hx hb dL_isKept_148 (by decide +kernel) ?_
                refine lv_bipush (v := 10) hx hb dL_isKept_151 (by decide +kernel) ?_
                refine lv_aload_n hx hb dL_isKept_153 rfl (lv_at hl 2 rfl) ?_
                refine lv_iconst (v := 2) hx hb dL_isKept_154 (by decide +kernel) ?_
                refine x_callViB (wr := List.flatten [[(vA, .inl (cI, 64, .inl V))]]) (w2 := List.flatten [xTop x o h t r tb, sW cI o G, hH cS h b (nI k), sW cI (b 0) (Hs 0), sW cI (b 1) (Hs 1), sW cI (b 2) (Hs 2), sW cI (b 3) (Hs 3), tW cI t T tn, rW3 r u q d, oW q f, sW cI u U, bW tb B, [(vA, .inl (cI, 64, .inl V))]]) (rest := [.int 10, .int 1000, .int (capI G)]) (n := 1) C w hl [.int 2] (k_X6_battery l D cI cS tys ht0 ht1 x o h b t r q u tb G k Hs T tn f d U B 2 ) gL_isKept_X6_battery rfl (by decide +kernel) ⟨Nat.le_of_ble_eq_true rfl, Nat.le_of_ble_eq_true rfl⟩ 0 6 rfl rfl rfl rfl (Nat.le_of_ble_eq_true rfl) (List.Perm.of_eq (by simp only [List.flatten_cons, List.flatten_nil, List.append_nil, List.append_assoc, List.nil_append])) (List.Perm.of_eq (by simp only [List.flatten_cons, List.flatten_nil, List.append_nil, List.append_assoc, List.nil_append])) ⟨Nat.zero_le _, Nat.zero_le _⟩ dL_isKept_155 (fun H locs w => ?_)
                refine x_top (y := (G 6 1)) (bat_2 _) ?_
                refine lv_imul (x := 10) (y := (G 6 1)) hx hb dL_isKept_158 ?_
                refine lv_isub (x := 1000) (y := (10 * (G 6 1))) hx hb dL_isKept_159 ?_
                refine x_icR_ne (x := (capI G)) (y := (1000 - (10 * (G 6 1)))) (tgt := 179) hx hb dL_isKept_160 (by decide) (fun c160_11 => ?_) (fun c160_11 => ?_)
                ·
                  exact absurd (show capI G = 1000 - 10 * G 6 1 from rfl) c160_11
                ·
                  refine lv_aload_n hx hb dL_isKept_163 rfl (lv_at hl 2 rfl) ?_
                  refine lv_iconst (v := 4) hx hb dL_isKept_164 (by decide +kernel) ?_
                  refine x_callViB (wr := List.flatten [[(vA, .inl (cI, 64, .inl V))]]) (w2 := List.flatten [xTop x o h t r tb, sW cI o G, hH cS h b (nI k), sW cI (b 0) (Hs 0), sW cI (b 1) (Hs 1), sW cI (b 2) (Hs 2), sW cI (b 3) (Hs 3), tW cI t T tn, rW3 r u q d, oW q f, sW cI u U, bW tb B, [(vA, .inl (cI, 64, .inl V))]]) (rest := []) (n := 1) C w hl [.int 4] (k_X6_battery l D cI cS tys ht0 ht1 x o h b t r q u tb G k Hs T tn f d U B 4 ) gL_isKept_X6_battery rfl (by decide +kernel) ⟨Nat.le_of_ble_eq_true rfl, Nat.le_of_ble_eq_true rfl⟩ 0 6 rfl rfl rfl rfl (Nat.le_of_ble_eq_true rfl) (List.Perm.of_eq (by simp only [List.flatten_cons, List.flatten_nil, List.append_nil, List.append_assoc, List.nil_append])) (List.Perm.of_eq (by simp only [List.flatten_cons, List.flatten_nil, List.append_nil, List.append_assoc, List.nil_append])) ⟨Nat.zero_le _, Nat.zero_le _⟩ dL_isKept_165 (fun H locs w => ?_)
                  refine x_top (y := (G 6 2)) (bat_4 _) ?_
                  refine x_ifR_eq (x := (G 6 2)) (tgt := 175) hx hb dL_isKept_168 (by decide) (fun c168_12 => ?_) (fun c168_12 => ?_)
                  ·
                    refine lv_iconst (v := 1) hx hb dL_isKept_175 (by decide +kernel) ?_
                    refine lv_goto (tgt := 180) hx hb dL_isKept_176 (by decide) ?_
                    refine lv_istore (lv' := [(4, .int 1), (3, .int (nI (mN G 2))), (0, .ref x), (1, .ref vA), (2, .int (nI p0))]) hx hb dL_isKept_180 hl (by decide) rfl (fun ls hl => ?_)
                    refine lv_iconst (v := 0) hx hb dL_isKept_182 (by decide +kernel) ?_
                    refine lv_istore (lv' := [(5, .int 0), (4, .int 1), (3, .int (nI (mN G 2))), (0, .ref x), (1, .ref vA), (2, .int (nI p0))]) hx hb dL_isKept_183 hl (by decide) rfl (fun ls hl => ?_)
                    have loop_185 : ∀ (n : Nat) (i : Nat), 8 - i < n → (i ≤ 8) → ∀ (H : Heap) (locs : List Loc), xW D A s.heap (List.flatten [xTop x o h t r tb, sW cI o G, hH cS h b (nI k), sW cI (b 0) (Hs 0), sW cI (b 1) (Hs 1), sW cI (b 2) (Hs 2), sW cI (b 3) (Hs 3), tW cI t T tn, rW3 r u q d, oW q f, sW cI u U, bW tb B, [(vA, .inl (cI, 64, .inl V))]]) H locs → ∀ ls : Array Slot, lv_has ls 7 [(5, .int (nI i)), (4, .int 1), (3, .int (nI (mN G 2))), (0, .ref x), (1, .ref vA), (2, .int (nI p0))] → W p l e (rmd 5) s m args below meth c H locs 0 0 (MQ below (xQi D tys 1 (List.flatten [xTop x o h t r tb, sW cI o G, hH cS h b (nI k), sW cI (b 0) (Hs 0), sW cI (b 1) (Hs 1), sW cI (b 2) (Hs 2), sW cI (b 3) (Hs 3), tW cI t T tn, rW3 r u q d, oW q f, sW cI u U, bW tb B, [(vA, .inl (cI, 64, .inl V))]]) A) args s 0 0 A) (F0 m 185 ls []) := by
                      intro n
                      induction n with
                      | zero => intro i hm; exact absurd hm (Nat.not_lt_zero _)
                      | succ n ih =>
                        intro i hm hi H locs w ls hl
                        refine lv_iload hx hb dL_isKept_185 (lv_at hl 0 rfl) ?_
                        refine lv_bipush (v := 8) hx hb dL_isKept_187 (by decide +kernel) ?_
                        refine x_icN_ge (i := i) (j := 8) (tgt := 280) hx hb (by omega) (by omega) dL_isKept_189 (by decide) (fun c189_13 => ?_) (fun c189_13 => ?_)
                        ·
                          refine lv_iload hx hb dL_isKept_280 (lv_at hl 1 rfl) ?_
                          refine x_ifR_eq (x := 1) (tgt := 301) hx hb dL_isKept_282 (by decide) (fun h => absurd h (by decide)) (fun _ => ?_)
                          refine lv_aload_n hx hb dL_isKept_285 rfl (lv_at hl 3 rfl) ?_
                          refine lv_iload_n hx hb dL_isKept_286 rfl (lv_at hl 5 rfl) ?_
                          refine lv_iconst (v := 1) hx hb dL_isKept_287 (by decide +kernel) ?_
                          refine x_callViB (wr := List.flatten [[(vA, .inl (cI, 64, .inl V))]]) (w2 := List.flatten [xTop x o h t r tb, sW cI o G, hH cS h b (nI k), sW cI (b 0) (Hs 0), sW cI (b 1) (Hs 1), sW cI (b 2) (Hs 2), sW cI (b 3) (Hs 3), tW cI t T tn, rW3 r u q d, oW q f, sW cI u U, bW tb B, [(vA, .inl (cI, 64, .inl V))]]) (rest := []) (n := 2) C w hl [.int (nI p0), .int 1] (k_X6_placeOf l D cI cS tys ht0 ht1 x o h b t r q u tb G k Hs T tn f d U B (nI p0) 1 ) gL_isKept_X6_placeOf rfl (by decide +kernel) ⟨Nat.le_of_ble_eq_true rfl, Nat.le_of_ble_eq_true rfl⟩ 0 6 rfl rfl rfl rfl (Nat.le_of_ble_eq_true rfl) (List.Perm.of_eq (by simp only [List.flatten_cons, List.flatten_nil, List.append_nil, List.append_assoc, List.nil_append])) (List.Perm.of_eq (by simp only [List.flatten_cons, List.flatten_nil, List.append_nil, List.append_assoc, List.nil_append])) ⟨Nat.zero_le _, Nat.zero_le _⟩ dL_isKept_288 (fun H locs w => ?_)
                          refine x_top (y := (V p0)) (pof1 hLI hp0) ?_
                          refine lv_aload_n hx hb dL_isKept_291 rfl (lv_at hl 4 rfl) ?_
                          refine lv_iload_n hx hb dL_isKept_292 rfl (lv_at hl 5 rfl) ?_
                          refine x_iald (v := V p0) C (x_pc (b := [(vA, .inl (cI, 64, .inl V))]) w 12 rfl) 0 0 (p0) rfl ht0 rfl (by omega) (by decide) rfl dL_isKept_293 ?_
                          refine x_icR_ne (x := (V p0)) (y := V p0) (tgt := 301) hx hb dL_isKept_294 (by decide) (fun c294_15 => ?_) (fun c294_15 => ?_)
                          ·
                            exact absurd rfl c294_15
                          ·
                            refine lv_iconst (v := 1) hx hb dL_isKept_297 (by decide +kernel) ?_
                            refine lv_goto (tgt := 302) hx hb dL_isKept_298 (by decide) ?_
                            exact x_zret C w (Or.inr rfl) rfl rfl dL_isKept_302
                        ·
                          refine lv_iload hx hb dL_isKept_192 (lv_at hl 1 rfl) ?_
                          refine x_ifR_eq (x := 1) (tgt := 280) hx hb dL_isKept_194 (by decide) (fun h => absurd h (by decide)) (fun _ => ?_)
                          refine lv_aload_n hx hb dL_isKept_197 rfl (lv_at hl 3 rfl) ?_
                          refine lv_iload hx hb dL_isKept_198 (lv_at hl 0 rfl) ?_
                          refine lv_iconst (v := 0) hx hb dL_isKept_200 (by decide +kernel) ?_
                          refine x_callViB (wr := List.flatten [[(vA, .inl (cI, 64, .inl V))]]) (w2 := List.flatten [xTop x o h t r tb, sW cI o G, hH cS h b (nI k), sW cI (b 0) (Hs 0), sW cI (b 1) (Hs 1), sW cI (b 2) (Hs 2), sW cI (b 3) (Hs 3), tW cI t T tn, rW3 r u q d, oW q f, sW cI u U, bW tb B, [(vA, .inl (cI, 64, .inl V))]]) (rest := []) (n := 2) C w hl [.int (nI i), .int 0] (k_X6_lineOf l D cI cS tys ht0 ht1 x o h b t r q u tb G k Hs T tn f d U B (nI i) 0 ) gL_isKept_X6_lineOf rfl (by decide +kernel) ⟨Nat.le_of_ble_eq_true rfl, Nat.le_of_ble_eq_true rfl⟩ 0 6 rfl rfl rfl rfl (Nat.le_of_ble_eq_true rfl) (List.Perm.of_eq (by simp only [List.flatten_cons, List.flatten_nil, List.append_nil, List.append_assoc, List.nil_append])) (List.Perm.of_eq (by simp only [List.flatten_cons, List.flatten_nil, List.append_nil, List.append_assoc, List.nil_append])) ⟨Nat.zero_le _, Nat.zero_le _⟩ dL_isKept_201 (fun H locs w => ?_)
                          refine x_top (y := (G 2 i)) (lof0 _ (by omega)) ?_
                          refine x_ifR_le (x := (G 2 i)) (tgt := 274) hx hb dL_isKept_204 (by decide) (fun c204_17 => ?_) (fun c204_17 => ?_)
                          ·
                            refine lv_iinc (v := nI (i + 1)) (lv' := [(5, .int (nI (i + 1))), (4, .int 1), (3, .int (nI (mN G 2))), (0, .ref x), (1, .ref vA), (2, .int (nI p0))]) hx hb dL_isKept_274 hl (k := 0) rfl (nI_add i 1) (by decide) rfl (fun ls hl => ?_)
                            refine lv_goto (tgt := 185) hx hb dL_isKept_277 (by decide) ?_
                            have hl : lv_has ls 7 [(5, .int (nI (i + 1))), (4, .int 1), (3, .int (nI (mN G 2))), (0, .ref x), (1, .ref vA), (2, .int (nI p0))] := lv_eqL (lv_sub (l' := [(5, .int (nI (i + 1))), (4, .int 1), (3, .int (nI (mN G 2))), (0, .ref x), (1, .ref vA), (2, .int (nI p0))]) hl [0, 1, 2, 3, 4, 5] rfl) (cg2 List.cons rfl (cg2 List.cons rfl (cg2 List.cons rfl (cg2 List.cons rfl (cg2 List.cons rfl (cg2 List.cons rfl rfl))))))
                            exact ih (i + 1) (by omega) (by omega) _ _ w _ hl
                          ·
                            have hk9 := kp_pos2 c204_17
                            obtain ⟨r9, hr9, er9, eh9, ev9, ed9⟩ := kp_line hLI (l := i) (by omega) hk9
                            refine lv_aload_n hx hb dL_isKept_207 rfl (lv_at hl 3 rfl) ?_
                            refine lv_iload hx hb dL_isKept_208 (lv_at hl 0 rfl) ?_
                            refine lv_iconst (v := 1) hx hb dL_isKept_210 (by decide +kernel) ?_
                            refine x_callViB (wr := List.flatten [[(vA, .inl (cI, 64, .inl V))]]) (w2 := List.flatten [xTop x o h t r tb, sW cI o G, hH cS h b (nI k), sW cI (b 0) (Hs 0), sW cI (b 1) (Hs 1), sW cI (b 2) (Hs 2), sW cI (b 3) (Hs 3), tW cI t T tn, rW3 r u q d, oW q f, sW cI u U, bW tb B, [(vA, .inl (cI, 64, .inl V))]]) (rest := []) (n := 2) C w hl [.int (nI i), .int 1] (k_X6_lineOf l D cI cS tys ht0 ht1 x o h b t r q u tb G k Hs T tn f d U B (nI i) 1 ) gL_isKept_X6_lineOf rfl (by decide +kernel) ⟨Nat.le_of_ble_eq_true rfl, Nat.le_of_ble_eq_true rfl⟩ 0 6 rfl rfl rfl rfl (Nat.le_of_ble_eq_true rfl) (List.Perm.of_eq (by simp only [List.flatten_cons, List.flatten_nil, List.append_nil, List.append_assoc, List.nil_append])) (List.Perm.of_eq (by simp only [List.flatten_cons, List.flatten_nil, List.append_nil, List.append_assoc, List.nil_append])) ⟨Nat.zero_le _, Nat.zero_le _⟩ dL_isKept_211 (fun H locs w => ?_)
                            refine x_top (y := nI r9) ((lof1 (by omega) hk9).trans er9) ?_
                            refine lv_istore (lv' := [(6, .int (nI r9)), (5, .int (nI i)), (4, .int 1), (3, .int (nI (mN G 2))), (0, .ref x), (1, .ref vA), (2, .int (nI p0))]) hx hb dL_isKept_214 hl (by decide) rfl (fun ls hl => ?_)
                            refine lv_aload_n hx hb dL_isKept_216 rfl (lv_at hl 4 rfl) ?_
                            refine lv_iload hx hb dL_isKept_217 (lv_at hl 0 rfl) ?_
                            refine lv_iconst (v := 2) hx hb dL_isKept_219 (by decide +kernel) ?_
                            refine x_callViB (wr := List.flatten [[(vA, .inl (cI, 64, .inl V))]]) (w2 := List.flatten [xTop x o h t r tb, sW cI o G, hH cS h b (nI k), sW cI (b 0) (Hs 0), sW cI (b 1) (Hs 1), sW cI (b 2) (Hs 2), sW cI (b 3) (Hs 3), tW cI t T tn, rW3 r u q d, oW q f, sW cI u U, bW tb B, [(vA, .inl (cI, 64, .inl V))]]) (rest := []) (n := 2) C w hl [.int (nI r9), .int 2] (k_X6_placeOf l D cI cS tys ht0 ht1 x o h b t r q u tb G k Hs T tn f d U B (nI r9) 2 ) gL_isKept_X6_placeOf rfl (by decide +kernel) ⟨Nat.le_of_ble_eq_true rfl, Nat.le_of_ble_eq_true rfl⟩ 0 6 rfl rfl rfl rfl (Nat.le_of_ble_eq_true rfl) (List.Perm.of_eq (by simp only [List.flatten_cons, List.flatten_nil, List.append_nil, List.append_assoc, List.nil_append])) (List.Perm.of_eq (by simp only [List.flatten_cons, List.flatten_nil, List.append_nil, List.append_assoc, List.nil_append])) ⟨Nat.zero_le _, Nat.zero_le _⟩ dL_isKept_220 (fun H locs w => ?_)
                            refine x_top (y := nI i) (pof2_y hr9 (by omega) eh9) ?_
                            refine lv_iload hx hb dL_isKept_223 (lv_at hl 1 rfl) ?_
                            refine x_icN_ne (i := i) (j := i) (tgt := 271) hx hb (by omega) (by omega) dL_isKept_225 (by decide) (fun c225_18 => ?_) (fun c225_18 => ?_)
                            ·
                              exact absurd rfl c225_18
                            ·
                              refine lv_aload_n hx hb dL_isKept_228 rfl (lv_at hl 4 rfl) ?_
                              refine lv_iload hx hb dL_isKept_229 (lv_at hl 1 rfl) ?_
                              refine lv_iconst (v := 2) hx hb dL_isKept_231 (by decide +kernel) ?_
                              refine x_callViB (wr := List.flatten [[(vA, .inl (cI, 64, .inl V))]]) (w2 := List.flatten [xTop x o h t r tb, sW cI o G, hH cS h b (nI k), sW cI (b 0) (Hs 0), sW cI (b 1) (Hs 1), sW cI (b 2) (Hs 2), sW cI (b 3) (Hs 3), tW cI t T tn, rW3 r u q d, oW q f, sW cI u U, bW tb B, [(vA, .inl (cI, 64, .inl V))]]) (rest := []) (n := 2) C w hl [.int (nI i), .int 2] (k_X6_lineOf l D cI cS tys ht0 ht1 x o h b t r q u tb G k Hs T tn f d U B (nI i) 2 ) gL_isKept_X6_lineOf rfl (by decide +kernel) ⟨Nat.le_of_ble_eq_true rfl, Nat.le_of_ble_eq_true rfl⟩ 0 6 rfl rfl rfl rfl (Nat.le_of_ble_eq_true rfl) (List.Perm.of_eq (by simp only [List.flatten_cons, List.flatten_nil, List.append_nil, List.append_assoc, List.nil_append])) (List.Perm.of_eq (by simp only [List.flatten_cons, List.flatten_nil, List.append_nil, List.append_assoc, List.nil_append])) ⟨Nat.zero_le _, Nat.zero_le _⟩ dL_isKept_232 (fun H locs w => ?_)
                              refine x_top (y := (V r9)) ((lof2 (by omega) hk9).trans ev9) ?_
                              refine lv_aload_n hx hb dL_isKept_235 rfl (lv_at hl 5 rfl) ?_
                              refine lv_iload hx hb dL_isKept_236 (lv_at hl 0 rfl) ?_
                              refine x_iald (v := V r9) C (x_pc (b := [(vA, .inl (cI, 64, .inl V))]) w 12 rfl) 0 0 (r9) rfl ht0 rfl (by omega) (by decide) rfl dL_isKept_238 ?_
                              refine x_icR_ne (x := (V r9)) (y := V r9) (tgt := 271) hx hb dL_isKept_239 (by decide) (fun c239_19 => ?_) (fun c239_19 => ?_)
                              ·
                                exact absurd rfl c239_19
                              ·
                                refine lv_aload_n hx hb dL_isKept_242 rfl (lv_at hl 4 rfl) ?_
                                refine lv_iload hx hb dL_isKept_243 (lv_at hl 1 rfl) ?_
                                refine lv_iconst (v := 0) hx hb dL_isKept_245 (by decide +kernel) ?_
                                refine x_callViB (wr := List.flatten [[(vA, .inl (cI, 64, .inl V))]]) (w2 := List.flatten [xTop x o h t r tb, sW cI o G, hH cS h b (nI k), sW cI (b 0) (Hs 0), sW cI (b 1) (Hs 1), sW cI (b 2) (Hs 2), sW cI (b 3) (Hs 3), tW cI t T tn, rW3 r u q d, oW q f, sW cI u U, bW tb B, [(vA, .inl (cI, 64, .inl V))]]) (rest := []) (n := 2) C w hl [.int (nI i), .int 0] (k_X6_lineOf l D cI cS tys ht0 ht1 x o h b t r q u tb G k Hs T tn f d U B (nI i) 0 ) gL_isKept_X6_lineOf rfl (by decide +kernel) ⟨Nat.le_of_ble_eq_true rfl, Nat.le_of_ble_eq_true rfl⟩ 0 6 rfl rfl rfl rfl (Nat.le_of_ble_eq_true rfl) (List.Perm.of_eq (by simp only [List.flatten_cons, List.flatten_nil, List.append_nil, List.append_assoc, List.nil_append])) (List.Perm.of_eq (by simp only [List.flatten_cons, List.flatten_nil, List.append_nil, List.append_assoc, List.nil_append])) ⟨Nat.zero_le _, Nat.zero_le _⟩ dL_isKept_246 (fun H locs w => ?_)
                                refine x_top (y := (G 2 i)) (lof0 _ (by omega)) ?_
                                refine lv_iconst (v := 2) hx hb dL_isKept_249 (by decide +kernel) ?_
                                refine x_icR_eq (x := (G 2 i)) (y := 2) (tgt := 267) hx hb dL_isKept_250 (by decide) (fun c250_20 => ?_) (fun c250_20 => ?_)
                                ·
                                  refine lv_iconst (v := 1) hx hb dL_isKept_267 (by decide +kernel) ?_
                                  refine lv_goto (tgt := 272) hx hb dL_isKept_268 (by decide) ?_
                                  refine lv_istore (lv' := [(4, .int 1), (6, .int (nI r9)), (5, .int (nI i)), (3, .int (nI (mN G 2))), (0, .ref x), (1, .ref vA), (2, .int (nI p0))]) hx hb dL_isKept_272 hl (by decide) rfl (fun ls hl => ?_)
                                  refine lv_iinc (v := nI (i + 1)) (lv' := [(5, .int (nI (i + 1))), (4, .int 1), (6, .int (nI r9)), (3, .int (nI (mN G 2))), (0, .ref x), (1, .ref vA), (2, .int (nI p0))]) hx hb dL_isKept_274 hl (k := 2) rfl (nI_add i 1) (by decide) rfl (fun ls hl => ?_)
                                  refine lv_goto (tgt := 185) hx hb dL_isKept_277 (by decide) ?_
                                  have hl : lv_has ls 7 [(5, .int (nI (i + 1))), (4, .int 1), (3, .int (nI (mN G 2))), (0, .ref x), (1, .ref vA), (2, .int (nI p0))] := lv_eqL (lv_sub (l' := [(5, .int (nI (i + 1))), (4, .int 1), (3, .int (nI (mN G 2))), (0, .ref x), (1, .ref vA), (2, .int (nI p0))]) hl [0, 1, 3, 4, 5, 6] rfl) (cg2 List.cons rfl (cg2 List.cons rfl (cg2 List.cons rfl (cg2 List.cons rfl (cg2 List.cons rfl (cg2 List.cons rfl rfl))))))
                                  exact ih (i + 1) (by omega) (by omega) _ _ w _ hl
                                ·
                                  refine lv_aload_n hx hb dL_isKept_253 rfl (lv_at hl 4 rfl) ?_
                                  refine lv_iload hx hb dL_isKept_254 (lv_at hl 0 rfl) ?_
                                  refine lv_iconst (v := 0) hx hb dL_isKept_256 (by decide +kernel) ?_
                                  refine x_callViB (wr := List.flatten [[(vA, .inl (cI, 64, .inl V))]]) (w2 := List.flatten [xTop x o h t r tb, sW cI o G, hH cS h b (nI k), sW cI (b 0) (Hs 0), sW cI (b 1) (Hs 1), sW cI (b 2) (Hs 2), sW cI (b 3) (Hs 3), tW cI t T tn, rW3 r u q d, oW q f, sW cI u U, bW tb B, [(vA, .inl (cI, 64, .inl V))]]) (rest := []) (n := 2) C w hl [.int (nI r9), .int 0] (k_X6_placeOf l D cI cS tys ht0 ht1 x o h b t r q u tb G k Hs T tn f d U B (nI r9) 0 ) gL_isKept_X6_placeOf rfl (by decide +kernel) ⟨Nat.le_of_ble_eq_true rfl, Nat.le_of_ble_eq_true rfl⟩ 0 6 rfl rfl rfl rfl (Nat.le_of_ble_eq_true rfl) (List.Perm.of_eq (by simp only [List.flatten_cons, List.flatten_nil, List.append_nil, List.append_assoc, List.nil_append])) (List.Perm.of_eq (by simp only [List.flatten_cons, List.flatten_nil, List.append_nil, List.append_assoc, List.nil_append])) ⟨Nat.zero_le _, Nat.zero_le _⟩ dL_isKept_257 (fun H locs w => ?_)
                                  refine x_top (y := (V r9)) ((pof0 _ hr9).trans (ed9 c250_20)) ?_
                                  refine lv_aload_n hx hb dL_isKept_260 rfl (lv_at hl 5 rfl) ?_
                                  refine lv_iload hx hb dL_isKept_261 (lv_at hl 0 rfl) ?_
                                  refine x_iald (v := V r9) C (x_pc (b := [(vA, .inl (cI, 64, .inl V))]) w 12 rfl) 0 0 (r9) rfl ht0 rfl (by omega) (by decide) rfl dL_isKept_263 ?_
                                  refine x_icR_ne (x := (V r9)) (y := V r9) (tgt := 271) hx hb dL_isKept_264 (by decide) (fun c264_21 => ?_) (fun c264_21 => ?_)
                                  ·
                                    exact absurd rfl c264_21
                                  ·
                                    refine lv_iconst (v := 1) hx hb dL_isKept_267 (by decide +kernel) ?_
                                    refine lv_goto (tgt := 272) hx hb dL_isKept_268 (by decide) ?_
                                    refine lv_istore (lv' := [(4, .int 1), (6, .int (nI r9)), (5, .int (nI i)), (3, .int (nI (mN G 2))), (0, .ref x), (1, .ref vA), (2, .int (nI p0))]) hx hb dL_isKept_272 hl (by decide) rfl (fun ls hl => ?_)
                                    refine lv_iinc (v := nI (i + 1)) (lv' := [(5, .int (nI (i + 1))), (4, .int 1), (6, .int (nI r9)), (3, .int (nI (mN G 2))), (0, .ref x), (1, .ref vA), (2, .int (nI p0))]) hx hb dL_isKept_274 hl (k := 2) rfl (nI_add i 1) (by decide) rfl (fun ls hl => ?_)
                                    refine lv_goto (tgt := 185) hx hb dL_isKept_277 (by decide) ?_
                                    have hl : lv_has ls 7 [(5, .int (nI (i + 1))), (4, .int 1), (3, .int (nI (mN G 2))), (0, .ref x), (1, .ref vA), (2, .int (nI p0))] := lv_eqL (lv_sub (l' := [(5, .int (nI (i + 1))), (4, .int 1), (3, .int (nI (mN G 2))), (0, .ref x), (1, .ref vA), (2, .int (nI p0))]) hl [0, 1, 3, 4, 5, 6] rfl) (cg2 List.cons rfl (cg2 List.cons rfl (cg2 List.cons rfl (cg2 List.cons rfl (cg2 List.cons rfl (cg2 List.cons rfl rfl))))))
                                    exact ih (i + 1) (by omega) (by omega) _ _ w _ hl
                    have q22 : 0 = (nI 0 : Int32) := (by first | rfl | contradiction | (simp [c15_1, c24_2, c60_5, c83_6, c107_7, c127_9, c140_10, c160_11, c168_12]; done))
                    have hl : lv_has ls 7 [(5, .int (nI 0)), (4, .int 1), (3, .int (nI (mN G 2))), (0, .ref x), (1, .ref vA), (2, .int (nI p0))] := lv_eqL (lv_sub (l' := [(5, .int 0), (4, .int 1), (3, .int (nI (mN G 2))), (0, .ref x), (1, .ref vA), (2, .int (nI p0))]) hl [0, 1, 2, 3, 4, 5] rfl) (cg2 List.cons (congrArg (fun z => ((5 : Nat), Value.int z)) q22) (cg2 List.cons rfl (cg2 List.cons rfl (cg2 List.cons rfl (cg2 List.cons rfl (cg2 List.cons rfl rfl))))))
                    exact loop_185 (9) 0 (by omega) (by omega) _ _ w _ hl
                  ·
                    refine lv_iload_n hx hb dL_isKept_171 rfl (lv_at hl 1 rfl) ?_
                    refine x_ifR_ne (x := nI (mN G 2)) (tgt := 179) hx hb dL_isKept_172 (by decide) (fun c172_23 => ?_) (fun c172_23 => ?_)
                    ·
                      exact absurd (kp_run hLI c168_12) c172_23
                    ·
                      refine lv_iconst (v := 1) hx hb dL_isKept_175 (by decide +kernel) ?_
                      refine lv_goto (tgt := 180) hx hb dL_isKept_176 (by decide) ?_
                      refine lv_istore (lv' := [(4, .int 1), (3, .int (nI (mN G 2))), (0, .ref x), (1, .ref vA), (2, .int (nI p0))]) hx hb dL_isKept_180 hl (by decide) rfl (fun ls hl => ?_)
                      refine lv_iconst (v := 0) hx hb dL_isKept_182 (by decide +kernel) ?_
                      refine lv_istore (lv' := [(5, .int 0), (4, .int 1), (3, .int (nI (mN G 2))), (0, .ref x), (1, .ref vA), (2, .int (nI p0))]) hx hb dL_isKept_183 hl (by decide) rfl (fun ls hl => ?_)
                      have loop_185 : ∀ (n : Nat) (i : Nat), 8 - i < n → (i ≤ 8) → ∀ (H : Heap) (locs : List Loc), xW D A s.heap (List.flatten [xTop x o h t r tb, sW cI o G, hH cS h b (nI k), sW cI (b 0) (Hs 0), sW cI (b 1) (Hs 1), sW cI (b 2) (Hs 2), sW cI (b 3) (Hs 3), tW cI t T tn, rW3 r u q d, oW q f, sW cI u U, bW tb B, [(vA, .inl (cI, 64, .inl V))]]) H locs → ∀ ls : Array Slot, lv_has ls 7 [(5, .int (nI i)), (4, .int 1), (3, .int (nI (mN G 2))), (0, .ref x), (1, .ref vA), (2, .int (nI p0))] → W p l e (rmd 5) s m args below meth c H locs 0 0 (MQ below (xQi D tys 1 (List.flatten [xTop x o h t r tb, sW cI o G, hH cS h b (nI k), sW cI (b 0) (Hs 0), sW cI (b 1) (Hs 1), sW cI (b 2) (Hs 2), sW cI (b 3) (Hs 3), tW cI t T tn, rW3 r u q d, oW q f, sW cI u U, bW tb B, [(vA, .inl (cI, 64, .inl V))]]) A) args s 0 0 A) (F0 m 185 ls []) := by
                        intro n
                        induction n with
                        | zero => intro i hm; exact absurd hm (Nat.not_lt_zero _)
                        | succ n ih =>
                          intro i hm hi H locs w ls hl
                          refine lv_iload hx hb dL_isKept_185 (lv_at hl 0 rfl) ?_
                          refine lv_bipush (v := 8) hx hb dL_isKept_187 (by decide +kernel) ?_
                          refine x_icN_ge (i := i) (j := 8) (tgt := 280) hx hb (by omega) (by omega) dL_isKept_189 (by decide) (fun c189_24 => ?_) (fun c189_24 => ?_)
                          ·
                            refine lv_iload hx hb dL_isKept_280 (lv_at hl 1 rfl) ?_
                            refine x_ifR_eq (x := 1) (tgt := 301) hx hb dL_isKept_282 (by decide) (fun h => absurd h (by decide)) (fun _ => ?_)
                            refine lv_aload_n hx hb dL_isKept_285 rfl (lv_at hl 3 rfl) ?_
                            refine lv_iload_n hx hb dL_isKept_286 rfl (lv_at hl 5 rfl) ?_
                            refine lv_iconst (v := 1) hx hb dL_isKept_287 (by decide +kernel) ?_
                            refine x_callViB (wr := List.flatten [[(vA, .inl (cI, 64, .inl V))]]) (w2 := List.flatten [xTop x o h t r tb, sW cI o G, hH cS h b (nI k), sW cI (b 0) (Hs 0), sW cI (b 1) (Hs 1), sW cI (b 2) (Hs 2), sW cI (b 3) (Hs 3), tW cI t T tn, rW3 r u q d, oW q f, sW cI u U, bW tb B, [(vA, .inl (cI, 64, .inl V))]]) (rest := []) (n := 2) C w hl [.int (nI p0), .int 1] (k_X6_placeOf l D cI cS tys ht0 ht1 x o h b t r q u tb G k Hs T tn f d U B (nI p0) 1 ) gL_isKept_X6_placeOf rfl (by decide +kernel) ⟨Nat.le_of_ble_eq_true rfl, Nat.le_of_ble_eq_true rfl⟩ 0 6 rfl rfl rfl rfl (Nat.le_of_ble_eq_true rfl) (List.Perm.of_eq (by simp only [List.flatten_cons, List.flatten_nil, List.append_nil, List.append_assoc, List.nil_append])) (List.Perm.of_eq (by simp only [List.flatten_cons, List.flatten_nil, List.append_nil, List.append_assoc, List.nil_append])) ⟨Nat.zero_le _, Nat.zero_le _⟩ dL_isKept_288 (fun H locs w => ?_)
                            refine x_top (y := (V p0)) (pof1 hLI hp0) ?_
                            refine lv_aload_n hx hb dL_isKept_291 rfl (lv_at hl 4 rfl) ?_
                            refine lv_iload_n hx hb dL_isKept_292 rfl (lv_at hl 5 rfl) ?_
                            refine x_iald (v := V p0) C (x_pc (b := [(vA, .inl (cI, 64, .inl V))]) w 12 rfl) 0 0 (p0) rfl ht0 rfl (by omega) (by decide) rfl dL_isKept_293 ?_
                            refine x_icR_ne (x := (V p0)) (y := V p0) (tgt := 301) hx hb dL_isKept_294 (by decide) (fun c294_26 => ?_) (fun c294_26 => ?_)
                            ·
                              exact absurd rfl c294_26
                            ·
                              refine lv_iconst (v := 1) hx hb dL_isKept_297 (by decide +kernel) ?_
                              refine lv_goto (tgt := 302) hx hb dL_isKept_298 (by decide) ?_
                              exact x_zret C w (Or.inr rfl) rfl rfl dL_isKept_302
                          ·
                            refine lv_iload hx hb dL_isKept_192 (lv_at hl 1 rfl) ?_
                            refine x_ifR_eq (x := 1) (tgt := 280) hx hb dL_isKept_194 (by decide) (fun h => absurd h (by decide)) (fun _ => ?_)
                            refine lv_aload_n hx hb dL_isKept_197 rfl (lv_at hl 3 rfl) ?_
                            refine lv_iload hx hb dL_isKept_198 (lv_at hl 0 rfl) ?_
                            refine lv_iconst (v := 0) hx hb dL_isKept_200 (by decide +kernel) ?_
                            refine x_callViB (wr := List.flatten [[(vA, .inl (cI, 64, .inl V))]]) (w2 := List.flatten [xTop x o h t r tb, sW cI o G, hH cS h b (nI k), sW cI (b 0) (Hs 0), sW cI (b 1) (Hs 1), sW cI (b 2) (Hs 2), sW cI (b 3) (Hs 3), tW cI t T tn, rW3 r u q d, oW q f, sW cI u U, bW tb B, [(vA, .inl (cI, 64, .inl V))]]) (rest := []) (n := 2) C w hl [.int (nI i), .int 0] (k_X6_lineOf l D cI cS tys ht0 ht1 x o h b t r q u tb G k Hs T tn f d U B (nI i) 0 ) gL_isKept_X6_lineOf rfl (by decide +kernel) ⟨Nat.le_of_ble_eq_true rfl, Nat.le_of_ble_eq_true rfl⟩ 0 6 rfl rfl rfl rfl (Nat.le_of_ble_eq_true rfl) (List.Perm.of_eq (by simp only [List.flatten_cons, List.flatten_nil, List.append_nil, List.append_assoc, List.nil_append])) (List.Perm.of_eq (by simp only [List.flatten_cons, List.flatten_nil, List.append_nil, List.append_assoc, List.nil_append])) ⟨Nat.zero_le _, Nat.zero_le _⟩ dL_isKept_201 (fun H locs w => ?_)
                            refine x_top (y := (G 2 i)) (lof0 _ (by omega)) ?_
                            refine x_ifR_le (x := (G 2 i)) (tgt := 274) hx hb dL_isKept_204 (by decide) (fun c204_28 => ?_) (fun c204_28 => ?_)
                            ·
                              refine lv_iinc (v := nI (i + 1)) (lv' := [(5, .int (nI (i + 1))), (4, .int 1), (3, .int (nI (mN G 2))), (0, .ref x), (1, .ref vA), (2, .int (nI p0))]) hx hb dL_isKept_274 hl (k := 0) rfl (nI_add i 1) (by decide) rfl (fun ls hl => ?_)
                              refine lv_goto (tgt := 185) hx hb dL_isKept_277 (by decide) ?_
                              have hl : lv_has ls 7 [(5, .int (nI (i + 1))), (4, .int 1), (3, .int (nI (mN G 2))), (0, .ref x), (1, .ref vA), (2, .int (nI p0))] := lv_eqL (lv_sub (l' := [(5, .int (nI (i + 1))), (4, .int 1), (3, .int (nI (mN G 2))), (0, .ref x), (1, .ref vA), (2, .int (nI p0))]) hl [0, 1, 2, 3, 4, 5] rfl) (cg2 List.cons rfl (cg2 List.cons rfl (cg2 List.cons rfl (cg2 List.cons rfl (cg2 List.cons rfl (cg2 List.cons rfl rfl))))))
                              exact ih (i + 1) (by omega) (by omega) _ _ w _ hl
                            ·
                              have hk9 := kp_pos2 c204_28
                              obtain ⟨r9, hr9, er9, eh9, ev9, ed9⟩ := kp_line hLI (l := i) (by omega) hk9
                              refine lv_aload_n hx hb dL_isKept_207 rfl (lv_at hl 3 rfl) ?_
                              refine lv_iload hx hb dL_isKept_208 (lv_at hl 0 rfl) ?_
                              refine lv_iconst (v := 1) hx hb dL_isKept_210 (by decide +kernel) ?_
                              refine x_callViB (wr := List.flatten [[(vA, .inl (cI, 64, .inl V))]]) (w2 := List.flatten [xTop x o h t r tb, sW cI o G, hH cS h b (nI k), sW cI (b 0) (Hs 0), sW cI (b 1) (Hs 1), sW cI (b 2) (Hs 2), sW cI (b 3) (Hs 3), tW cI t T tn, rW3 r u q d, oW q f, sW cI u U, bW tb B, [(vA, .inl (cI, 64, .inl V))]]) (rest := []) (n := 2) C w hl [.int (nI i), .int 1] (k_X6_lineOf l D cI cS tys ht0 ht1 x o h b t r q u tb G k Hs T tn f d U B (nI i) 1 ) gL_isKept_X6_lineOf rfl (by decide +kernel) ⟨Nat.le_of_ble_eq_true rfl, Nat.le_of_ble_eq_true rfl⟩ 0 6 rfl rfl rfl rfl (Nat.le_of_ble_eq_true rfl) (List.Perm.of_eq (by simp only [List.flatten_cons, List.flatten_nil, List.append_nil, List.append_assoc, List.nil_append])) (List.Perm.of_eq (by simp only [List.flatten_cons, List.flatten_nil, List.append_nil, List.append_assoc, List.nil_append])) ⟨Nat.zero_le _, Nat.zero_le _⟩ dL_isKept_211 (fun H locs w => ?_)
                              refine x_top (y := nI r9) ((lof1 (by omega) hk9).trans er9) ?_
                              refine lv_istore (lv' := [(6, .int (nI r9)), (5, .int (nI i)), (4, .int 1), (3, .int (nI (mN G 2))), (0, .ref x), (1, .ref vA), (2, .int (nI p0))]) hx hb dL_isKept_214 hl (by decide) rfl (fun ls hl => ?_)
                              refine lv_aload_n hx hb dL_isKept_216 rfl (lv_at hl 4 rfl) ?_
                              refine lv_iload hx hb dL_isKept_217 (lv_at hl 0 rfl) ?_
                              refine lv_iconst (v := 2) hx hb dL_isKept_219 (by decide +kernel) ?_
                              refine x_callViB (wr := List.flatten [[(vA, .inl (cI, 64, .inl V))]]) (w2 := List.flatten [xTop x o h t r tb, sW cI o G, hH cS h b (nI k), sW cI (b 0) (Hs 0), sW cI (b 1) (Hs 1), sW cI (b 2) (Hs 2), sW cI (b 3) (Hs 3), tW cI t T tn, rW3 r u q d, oW q f, sW cI u U, bW tb B, [(vA, .inl (cI, 64, .inl V))]]) (rest := []) (n := 2) C w hl [.int (nI r9), .int 2] (k_X6_placeOf l D cI cS tys ht0 ht1 x o h b t r q u tb G k Hs T tn f d U B (nI r9) 2 ) gL_isKept_X6_placeOf rfl (by decide +kernel) ⟨Nat.le_of_ble_eq_true rfl, Nat.le_of_ble_eq_true rfl⟩ 0 6 rfl rfl rfl rfl (Nat.le_of_ble_eq_true rfl) (List.Perm.of_eq (by simp only [List.flatten_cons, List.flatten_nil, List.append_nil, List.append_assoc, List.nil_append])) (List.Perm.of_eq (by simp only [List.flatten_cons, List.flatten_nil, List.append_nil, List.append_assoc, List.nil_append])) ⟨Nat.zero_le _, Nat.zero_le _⟩ dL_isKept_220 (fun H locs w => ?_)
                              refine x_top (y := nI i) (pof2_y hr9 (by omega) eh9) ?_
                              refine lv_iload hx hb dL_isKept_223 (lv_at hl 1 rfl) ?_
                              refine x_icN_ne (i := i) (j := i) (tgt := 271) hx hb (by omega) (by omega) dL_isKept_225 (by decide) (fun c225_29 => ?_) (fun c225_29 => ?_)
                              ·
                                exact absurd rfl c225_29
                              ·
                                refine lv_aload_n hx hb dL_isKept_228 rfl (lv_at hl 4 rfl) ?_
                                refine lv_iload hx hb dL_isKept_229 (lv_at hl 1 rfl) ?_
                                refine lv_iconst (v := 2) hx hb dL_isKept_231 (by decide +kernel) ?_
                                refine x_callViB (wr := List.flatten [[(vA, .inl (cI, 64, .inl V))]]) (w2 := List.flatten [xTop x o h t r tb, sW cI o G, hH cS h b (nI k), sW cI (b 0) (Hs 0), sW cI (b 1) (Hs 1), sW cI (b 2) (Hs 2), sW cI (b 3) (Hs 3), tW cI t T tn, rW3 r u q d, oW q f, sW cI u U, bW tb B, [(vA, .inl (cI, 64, .inl V))]]) (rest := []) (n := 2) C w hl [.int (nI i), .int 2] (k_X6_lineOf l D cI cS tys ht0 ht1 x o h b t r q u tb G k Hs T tn f d U B (nI i) 2 ) gL_isKept_X6_lineOf rfl (by decide +kernel) ⟨Nat.le_of_ble_eq_true rfl, Nat.le_of_ble_eq_true rfl⟩ 0 6 rfl rfl rfl rfl (Nat.le_of_ble_eq_true rfl) (List.Perm.of_eq (by simp only [List.flatten_cons, List.flatten_nil, List.append_nil, List.append_assoc, List.nil_append])) (List.Perm.of_eq (by simp only [List.flatten_cons, List.flatten_nil, List.append_nil, List.append_assoc, List.nil_append])) ⟨Nat.zero_le _, Nat.zero_le _⟩ dL_isKept_232 (fun H locs w => ?_)
                                refine x_top (y := (V r9)) ((lof2 (by omega) hk9).trans ev9) ?_
                                refine lv_aload_n hx hb dL_isKept_235 rfl (lv_at hl 5 rfl) ?_
                                refine lv_iload hx hb dL_isKept_236 (lv_at hl 0 rfl) ?_
                                refine x_iald (v := V r9) C (x_pc (b := [(vA, .inl (cI, 64, .inl V))]) w 12 rfl) 0 0 (r9) rfl ht0 rfl (by omega) (by decide) rfl dL_isKept_238 ?_
                                refine x_icR_ne (x := (V r9)) (y := V r9) (tgt := 271) hx hb dL_isKept_239 (by decide) (fun c239_30 => ?_) (fun c239_30 => ?_)
                                ·
                                  exact absurd rfl c239_30
                                ·
                                  refine lv_aload_n hx hb dL_isKept_242 rfl (lv_at hl 4 rfl) ?_
                                  refine lv_iload hx hb dL_isKept_243 (lv_at hl 1 rfl) ?_
                                  refine lv_iconst (v := 0) hx hb dL_isKept_245 (by decide +kernel) ?_
                                  refine x_callViB (wr := List.flatten [[(vA, .inl (cI, 64, .inl V))]]) (w2 := List.flatten [xTop x o h t r tb, sW cI o G, hH cS h b (nI k), sW cI (b 0) (Hs 0), sW cI (b 1) (Hs 1), sW cI (b 2) (Hs 2), sW cI (b 3) (Hs 3), tW cI t T tn, rW3 r u q d, oW q f, sW cI u U, bW tb B, [(vA, .inl (cI, 64, .inl V))]]) (rest := []) (n := 2) C w hl [.int (nI i), .int 0] (k_X6_lineOf l D cI cS tys ht0 ht1 x o h b t r q u tb G k Hs T tn f d U B (nI i) 0 ) gL_isKept_X6_lineOf rfl (by decide +kernel) ⟨Nat.le_of_ble_eq_true rfl, Nat.le_of_ble_eq_true rfl⟩ 0 6 rfl rfl rfl rfl (Nat.le_of_ble_eq_true rfl) (List.Perm.of_eq (by simp only [List.flatten_cons, List.flatten_nil, List.append_nil, List.append_assoc, List.nil_append])) (List.Perm.of_eq (by simp only [List.flatten_cons, List.flatten_nil, List.append_nil, List.append_assoc, List.nil_append])) ⟨Nat.zero_le _, Nat.zero_le _⟩ dL_isKept_246 (fun H locs w => ?_)
                                  refine x_top (y := (G 2 i)) (lof0 _ (by omega)) ?_
                                  refine lv_iconst (v := 2) hx hb dL_isKept_249 (by decide +kernel) ?_
                                  refine x_icR_eq (x := (G 2 i)) (y := 2) (tgt := 267) hx hb dL_isKept_250 (by decide) (fun c250_31 => ?_) (fun c250_31 => ?_)
                                  ·
                                    refine lv_iconst (v := 1) hx hb dL_isKept_267 (by decide +kernel) ?_
                                    refine lv_goto (tgt := 272) hx hb dL_isKept_268 (by decide) ?_
                                    refine lv_istore (lv' := [(4, .int 1), (6, .int (nI r9)), (5, .int (nI i)), (3, .int (nI (mN G 2))), (0, .ref x), (1, .ref vA), (2, .int (nI p0))]) hx hb dL_isKept_272 hl (by decide) rfl (fun ls hl => ?_)
                                    refine lv_iinc (v := nI (i + 1)) (lv' := [(5, .int (nI (i + 1))), (4, .int 1), (6, .int (nI r9)), (3, .int (nI (mN G 2))), (0, .ref x), (1, .ref vA), (2, .int (nI p0))]) hx hb dL_isKept_274 hl (k := 2) rfl (nI_add i 1) (by decide) rfl (fun ls hl => ?_)
                                    refine lv_goto (tgt := 185) hx hb dL_isKept_277 (by decide) ?_
                                    have hl : lv_has ls 7 [(5, .int (nI (i + 1))), (4, .int 1), (3, .int (nI (mN G 2))), (0, .ref x), (1, .ref vA), (2, .int (nI p0))] := lv_eqL (lv_sub (l' := [(5, .int (nI (i + 1))), (4, .int 1), (3, .int (nI (mN G 2))), (0, .ref x), (1, .ref vA), (2, .int (nI p0))]) hl [0, 1, 3, 4, 5, 6] rfl) (cg2 List.cons rfl (cg2 List.cons rfl (cg2 List.cons rfl (cg2 List.cons rfl (cg2 List.cons rfl (cg2 List.cons rfl rfl))))))
                                    exact ih (i + 1) (by omega) (by omega) _ _ w _ hl
                                  ·
                                    refine lv_aload_n hx hb dL_isKept_253 rfl (lv_at hl 4 rfl) ?_
                                    refine lv_iload hx hb dL_isKept_254 (lv_at hl 0 rfl) ?_
                                    refine lv_iconst (v := 0) hx hb dL_isKept_256 (by decide +kernel) ?_
                                    refine x_callViB (wr := List.flatten [[(vA, .inl (cI, 64, .inl V))]]) (w2 := List.flatten [xTop x o h t r tb, sW cI o G, hH cS h b (nI k), sW cI (b 0) (Hs 0), sW cI (b 1) (Hs 1), sW cI (b 2) (Hs 2), sW cI (b 3) (Hs 3), tW cI t T tn, rW3 r u q d, oW q f, sW cI u U, bW tb B, [(vA, .inl (cI, 64, .inl V))]]) (rest := []) (n := 2) C w hl [.int (nI r9), .int 0] (k_X6_placeOf l D cI cS tys ht0 ht1 x o h b t r q u tb G k Hs T tn f d U B (nI r9) 0 ) gL_isKept_X6_placeOf rfl (by decide +kernel) ⟨Nat.le_of_ble_eq_true rfl, Nat.le_of_ble_eq_true rfl⟩ 0 6 rfl rfl rfl rfl (Nat.le_of_ble_eq_true rfl) (List.Perm.of_eq (by simp only [List.flatten_cons, List.flatten_nil, List.append_nil, List.append_assoc, List.nil_append])) (List.Perm.of_eq (by simp only [List.flatten_cons, List.flatten_nil, List.append_nil, List.append_assoc, List.nil_append])) ⟨Nat.zero_le _, Nat.zero_le _⟩ dL_isKept_257 (fun H locs w => ?_)
                                    refine x_top (y := (V r9)) ((pof0 _ hr9).trans (ed9 c250_31)) ?_
                                    refine lv_aload_n hx hb dL_isKept_260 rfl (lv_at hl 5 rfl) ?_
                                    refine lv_iload hx hb dL_isKept_261 (lv_at hl 0 rfl) ?_
                                    refine x_iald (v := V r9) C (x_pc (b := [(vA, .inl (cI, 64, .inl V))]) w 12 rfl) 0 0 (r9) rfl ht0 rfl (by omega) (by decide) rfl dL_isKept_263 ?_
                                    refine x_icR_ne (x := (V r9)) (y := V r9) (tgt := 271) hx hb dL_isKept_264 (by decide) (fun c264_32 => ?_) (fun c264_32 => ?_)
                                    ·
                                      exact absurd rfl c264_32
                                    ·
                                      refine lv_iconst (v := 1) hx hb dL_isKept_267 (by decide +kernel) ?_
                                      refine lv_goto (tgt := 272) hx hb dL_isKept_268 (by decide) ?_
                                      refine lv_istore (lv' := [(4, .int 1), (6, .int (nI r9)), (5, .int (nI i)), (3, .int (nI (mN G 2))), (0, .ref x), (1, .ref vA), (2, .int (nI p0))]) hx hb dL_isKept_272 hl (by decide) rfl (fun ls hl => ?_)
                                      refine lv_iinc (v := nI (i + 1)) (lv' := [(5, .int (nI (i + 1))), (4, .int 1), (6, .int (nI r9)), (3, .int (nI (mN G 2))), (0, .ref x), (1, .ref vA), (2, .int (nI p0))]) hx hb dL_isKept_274 hl (k := 2) rfl (nI_add i 1) (by decide) rfl (fun ls hl => ?_)
                                      refine lv_goto (tgt := 185) hx hb dL_isKept_277 (by decide) ?_
                                      have hl : lv_has ls 7 [(5, .int (nI (i + 1))), (4, .int 1), (3, .int (nI (mN G 2))), (0, .ref x), (1, .ref vA), (2, .int (nI p0))] := lv_eqL (lv_sub (l' := [(5, .int (nI (i + 1))), (4, .int 1), (3, .int (nI (mN G 2))), (0, .ref x), (1, .ref vA), (2, .int (nI p0))]) hl [0, 1, 3, 4, 5, 6] rfl) (cg2 List.cons rfl (cg2 List.cons rfl (cg2 List.cons rfl (cg2 List.cons rfl (cg2 List.cons rfl (cg2 List.cons rfl rfl))))))
                                      exact ih (i + 1) (by omega) (by omega) _ _ w _ hl
                      have q33 : 0 = (nI 0 : Int32) := (by first | rfl | contradiction | (simp [c15_1, c24_2, c60_5, c83_6, c107_7, c127_9, c140_10, c160_11, c168_12, c172_23]; done))
                      have hl : lv_has ls 7 [(5, .int (nI 0)), (4, .int 1), (3, .int (nI (mN G 2))), (0, .ref x), (1, .ref vA), (2, .int (nI p0))] := lv_eqL (lv_sub (l' := [(5, .int 0), (4, .int 1), (3, .int (nI (mN G 2))), (0, .ref x), (1, .ref vA), (2, .int (nI p0))]) hl [0, 1, 2, 3, 4, 5] rfl) (cg2 List.cons (congrArg (fun z => ((5 : Nat), Value.int z)) q33) (cg2 List.cons rfl (cg2 List.cons rfl (cg2 List.cons rfl (cg2 List.cons rfl (cg2 List.cons rfl rfl))))))
                      exact loop_185 (9) 0 (by omega) (by omega) _ _ w _ hl
