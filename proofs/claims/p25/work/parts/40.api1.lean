set_option maxHeartbeats 1000000 in
set_option maxRecDepth 100000 in
theorem k_X6_read_ok (l : Launch) (D : va_G) (cI cS : ClassId) (tys : List (ClassId × FieldType)) (ht0 : tys[0]? = some (cI, .int)) (ht1 : tys[1]? = some (cS, .object RX4)) (x : Nat) (o : Nat → Nat) (h : Nat → Nat) (b : Nat → Nat → Nat) (t : Nat → Nat) (r : Nat) (q : Nat) (u : Nat → Nat) (tb : Nat) (G : St) (k : Nat) (Hs : Nat → St) (T : Nat → Int32) (tn : Int32) (f : Nat → Int32) (d : Int32) (U : St) (B : St) (a1 : Int32) (hok : rg a1 64 = true) (hk : k ≤ 4) : xI l yX6_read wsX6_read 5 D tys [.ref x, .int a1] (List.flatten [xTop x o h t r tb, sW cI o G, hH cS h b (nI k), sW cI (b 0) (Hs 0), sW cI (b 1) (Hs 1), sW cI (b 2) (Hs 2), sW cI (b 3) (Hs 3), tW cI t T tn, rW3 r u q d, oW q f, sW cI u U, bW tb B]) (rdpI G a1) (List.flatten [xTop x o h t r tb, sW cI o (lnfG G a1), hH cS h (kpA k b) (nI (kpN k)), sW cI ((kpA k b) 0) ((kpG k Hs G) 0), sW cI ((kpA k b) 1) ((kpG k Hs G) 1), sW cI ((kpA k b) 2) ((kpG k Hs G) 2), sW cI ((kpA k b) 3) ((kpG k Hs G) 3), tW cI t T tn, rW3 r u q d, oW q f, sW cI u U, bW tb B]) := by
  refine x_inI (cc := cX6_read) (maxL := 2) (ret := (some .int)) (by decide) rfl (Nat.le_of_ble_eq_true rfl) ?_
  intro p e s m args below meth c A ls C w hl
  have C : xC p s m meth c args cX6_read 2 wsX6_read RX6 D tys (some .int) := C
  have hx := C.1.1
  have hb := C.1.2.1
  have hts := C.1.2.2.2.2
  have hown := C.1.2.2.2.1
  have w : xW D A s.heap (List.flatten [xTop x o h t r tb, sW cI o G, hH cS h b (nI k), sW cI (b 0) (Hs 0), sW cI (b 1) (Hs 1), sW cI (b 2) (Hs 2), sW cI (b 3) (Hs 3), tW cI t T tn, rW3 r u q d, oW q f, sW cI u U, bW tb B]) s.heap [] := w
  have hl : lv_has ls 2 [(0, .ref x), (1, .int a1)] := hl
  refine lv_iload_n hx hb dX6_read_0 rfl (lv_at hl 1 rfl) ?_
  refine x_callSiB (wr := List.flatten [xTop x o h t r tb, sW cI o G, hH cS h b (nI k), sW cI (b 0) (Hs 0), sW cI (b 1) (Hs 1), sW cI (b 2) (Hs 2), sW cI (b 3) (Hs 3), tW cI t T tn, rW3 r u q d, oW q f, sW cI u U, bW tb B]) (w2 := List.flatten [xTop x o h t r tb, sW cI o G, hH cS h b (nI k), sW cI (b 0) (Hs 0), sW cI (b 1) (Hs 1), sW cI (b 2) (Hs 2), sW cI (b 3) (Hs 3), tW cI t T tn, rW3 r u q d, oW q f, sW cI u U, bW tb B]) (rest := []) (n := 1) C w hl [.int a1] (k_X6_isPlace l D cI cS tys ht0 a1 ) gX6_read_X6_isPlace rfl (by decide +kernel) ⟨Nat.le_of_ble_eq_true rfl, Nat.le_of_ble_eq_true rfl⟩ rfl rfl (Nat.le_of_ble_eq_true rfl) (List.Perm.refl _) (List.Perm.refl _) ⟨Nat.zero_le _, Nat.zero_le _⟩ dX6_read_1 (fun H locs w => ?_)
  refine x_ifB_ne (P := rg a1 64 = true) (tgt := 10) hx hb dX6_read_4 (by decide) (fun c4_1 => ?_) (fun c4_1 => ?_)
  ·
    refine lv_aload_n hx hb dX6_read_10 rfl (lv_at hl 0 rfl) ?_
    refine x_get (v := .ref (h 0)) (T := TX6) C (x_pc (b := xTop x o h t r tb) w 0 rfl) 0 1 rfl rfl (fun _ h => List.mem_cons_of_mem _ (List.mem_append_left _ (List.mem_append_left _ (List.mem_append_left _ (List.mem_append_right _ (h)))))) (List.mem_of_getElem? (i := 2) rfl) (by decide) rfl dX6_read_11 ?_
    refine lv_aload_n hx hb dX6_read_14 rfl (lv_at hl 0 rfl) ?_
    refine x_get (v := .ref (o 0)) (T := TX6) C (x_pc (b := xTop x o h t r tb) w 0 rfl) 0 0 rfl rfl (fun _ h => List.mem_cons_of_mem _ (List.mem_append_left _ (List.mem_append_left _ (List.mem_append_left _ (List.mem_append_right _ (h)))))) (List.mem_of_getElem? (i := 3) rfl) (by decide) rfl dX6_read_15 ?_
    have w : xW D A s.heap (List.flatten [hH cS h b (nI k), sW cI (b 0) (Hs 0), sW cI (b 1) (Hs 1), sW cI (b 2) (Hs 2), sW cI (b 3) (Hs 3), sW cI o G, xTop x o h t r tb, tW cI t T tn, rW3 r u q d, oW q f, sW cI u U, bW tb B]) _ _ := x_perm (bl_of [xTop x o h t r tb, sW cI o G, hH cS h b (nI k), sW cI (b 0) (Hs 0), sW cI (b 1) (Hs 1), sW cI (b 2) (Hs 2), sW cI (b 3) (Hs 3), tW cI t T tn, rW3 r u q d, oW q f, sW cI u U, bW tb B] [hH cS h b (nI k), sW cI (b 0) (Hs 0), sW cI (b 1) (Hs 1), sW cI (b 2) (Hs 2), sW cI (b 3) (Hs 3), sW cI o G, xTop x o h t r tb, tW cI t T tn, rW3 r u q d, oW q f, sW cI u U, bW tb B] [2, 3, 4, 5, 6, 1, 0, 7, 8, 9, 10, 11] 12 rfl (by decide) rfl) w
    refine x_callVvB (wr := List.flatten [xTop x o h t r tb, tW cI t T tn, rW3 r u q d, oW q f, sW cI u U, bW tb B]) (w2 := List.flatten [hH cS h (kpA k b) (nI (kpN k)), sW cI ((kpA k b) 0) ((kpG k Hs G) 0), sW cI ((kpA k b) 1) ((kpG k Hs G) 1), sW cI ((kpA k b) 2) ((kpG k Hs G) 2), sW cI ((kpA k b) 3) ((kpG k Hs G) 3), sW cI o G, xTop x o h t r tb, tW cI t T tn, rW3 r u q d, oW q f, sW cI u U, bW tb B]) (rest := []) (n := 1) C w hl [.ref (o 0)] (k_X1_keep l D cI cS tys ht0 ht1 h b Hs o G k hk) gX6_read_X1_keep rfl (by decide +kernel) ⟨Nat.le_of_ble_eq_true rfl, Nat.le_of_ble_eq_true rfl⟩ 0 1 rfl rfl rfl rfl (Nat.le_of_ble_eq_true rfl) (List.Perm.of_eq (by simp only [List.flatten_cons, List.flatten_nil, List.append_nil, List.append_assoc, List.nil_append])) (List.Perm.of_eq (by simp only [List.flatten_cons, List.flatten_nil, List.append_nil, List.append_assoc, List.nil_append])) ⟨Nat.zero_le _, Nat.zero_le _⟩ dX6_read_18 (fun H locs w => ?_)
    refine lv_aload_n hx hb dX6_read_21 rfl (lv_at hl 0 rfl) ?_
    refine x_get (v := .ref (o 0)) (T := TX6) C (x_pc (b := xTop x o h t r tb) w 6 rfl) 0 0 rfl rfl (fun _ h => List.mem_cons_of_mem _ (List.mem_append_left _ (List.mem_append_left _ (List.mem_append_left _ (List.mem_append_right _ (h)))))) (List.mem_of_getElem? (i := 3) rfl) (by decide) rfl dX6_read_22 ?_
    refine lv_iload_n hx hb dX6_read_25 rfl (lv_at hl 1 rfl) ?_
    have w : xW D A s.heap (List.flatten [sW cI o G, hH cS h (kpA k b) (nI (kpN k)), sW cI ((kpA k b) 0) ((kpG k Hs G) 0), sW cI ((kpA k b) 1) ((kpG k Hs G) 1), sW cI ((kpA k b) 2) ((kpG k Hs G) 2), sW cI ((kpA k b) 3) ((kpG k Hs G) 3), xTop x o h t r tb, tW cI t T tn, rW3 r u q d, oW q f, sW cI u U, bW tb B]) _ _ := x_perm (bl_of [hH cS h (kpA k b) (nI (kpN k)), sW cI ((kpA k b) 0) ((kpG k Hs G) 0), sW cI ((kpA k b) 1) ((kpG k Hs G) 1), sW cI ((kpA k b) 2) ((kpG k Hs G) 2), sW cI ((kpA k b) 3) ((kpG k Hs G) 3), sW cI o G, xTop x o h t r tb, tW cI t T tn, rW3 r u q d, oW q f, sW cI u U, bW tb B] [sW cI o G, hH cS h (kpA k b) (nI (kpN k)), sW cI ((kpA k b) 0) ((kpG k Hs G) 0), sW cI ((kpA k b) 1) ((kpG k Hs G) 1), sW cI ((kpA k b) 2) ((kpG k Hs G) 2), sW cI ((kpA k b) 3) ((kpG k Hs G) 3), xTop x o h t r tb, tW cI t T tn, rW3 r u q d, oW q f, sW cI u U, bW tb B] [5, 0, 1, 2, 3, 4, 6, 7, 8, 9, 10, 11] 12 rfl (by decide) rfl) w
    refine x_callViB (wr := List.flatten [hH cS h (kpA k b) (nI (kpN k)), sW cI ((kpA k b) 0) ((kpG k Hs G) 0), sW cI ((kpA k b) 1) ((kpG k Hs G) 1), sW cI ((kpA k b) 2) ((kpG k Hs G) 2), sW cI ((kpA k b) 3) ((kpG k Hs G) 3), xTop x o h t r tb, tW cI t T tn, rW3 r u q d, oW q f, sW cI u U, bW tb B]) (w2 := List.flatten [sW cI o (lnfG G a1), hH cS h (kpA k b) (nI (kpN k)), sW cI ((kpA k b) 0) ((kpG k Hs G) 0), sW cI ((kpA k b) 1) ((kpG k Hs G) 1), sW cI ((kpA k b) 2) ((kpG k Hs G) 2), sW cI ((kpA k b) 3) ((kpG k Hs G) 3), xTop x o h t r tb, tW cI t T tn, rW3 r u q d, oW q f, sW cI u U, bW tb B]) (rest := []) (n := 1) C w hl [.int a1] (k_X4_readPlace l D cI cS tys ht0 o G a1 ) gX6_read_X4_readPlace rfl (by decide +kernel) ⟨Nat.le_of_ble_eq_true rfl, Nat.le_of_ble_eq_true rfl⟩ 0 4 rfl rfl rfl rfl (Nat.le_of_ble_eq_true rfl) (List.Perm.refl _) (List.Perm.refl _) ⟨Nat.zero_le _, Nat.zero_le _⟩ dX6_read_26 (fun H locs w => ?_)
    have w : xW D A s.heap (List.flatten [xTop x o h t r tb, sW cI o (lnfG G a1), hH cS h (kpA k b) (nI (kpN k)), sW cI ((kpA k b) 0) ((kpG k Hs G) 0), sW cI ((kpA k b) 1) ((kpG k Hs G) 1), sW cI ((kpA k b) 2) ((kpG k Hs G) 2), sW cI ((kpA k b) 3) ((kpG k Hs G) 3), tW cI t T tn, rW3 r u q d, oW q f, sW cI u U, bW tb B]) _ _ := x_perm (bl_of [sW cI o (lnfG G a1), hH cS h (kpA k b) (nI (kpN k)), sW cI ((kpA k b) 0) ((kpG k Hs G) 0), sW cI ((kpA k b) 1) ((kpG k Hs G) 1), sW cI ((kpA k b) 2) ((kpG k Hs G) 2), sW cI ((kpA k b) 3) ((kpG k Hs G) 3), xTop x o h t r tb, tW cI t T tn, rW3 r u q d, oW q f, sW cI u U, bW tb B] [xTop x o h t r tb, sW cI o (lnfG G a1), hH cS h (kpA k b) (nI (kpN k)), sW cI ((kpA k b) 0) ((kpG k Hs G) 0), sW cI ((kpA k b) 1) ((kpG k Hs G) 1), sW cI ((kpA k b) 2) ((kpG k Hs G) 2), sW cI ((kpA k b) 3) ((kpG k Hs G) 3), tW cI t T tn, rW3 r u q d, oW q f, sW cI u U, bW tb B] [6, 0, 1, 2, 3, 4, 5, 7, 8, 9, 10, 11] 12 rfl (by decide) rfl) w
    exact x_iret C w rfl rfl dX6_read_29
  ·
    exact absurd hok c4_1
set_option maxHeartbeats 1000000 in
set_option maxRecDepth 100000 in
theorem k_X6_read_no (l : Launch) (D : va_G) (cI cS : ClassId) (tys : List (ClassId × FieldType)) (ht0 : tys[0]? = some (cI, .int)) (ht1 : tys[1]? = some (cS, .object RX4)) (x : Nat) (o : Nat → Nat) (h : Nat → Nat) (b : Nat → Nat → Nat) (t : Nat → Nat) (r : Nat) (q : Nat) (u : Nat → Nat) (tb : Nat) (G : St) (k : Nat) (Hs : Nat → St) (T : Nat → Int32) (tn : Int32) (f : Nat → Int32) (d : Int32) (U : St) (B : St) (a1 : Int32) (hno : ¬ rg a1 64 = true) : xI l yX6_read wsX6_read 5 D tys [.ref x, .int a1] (List.flatten [xTop x o h t r tb, sW cI o G, hH cS h b (nI k), sW cI (b 0) (Hs 0), sW cI (b 1) (Hs 1), sW cI (b 2) (Hs 2), sW cI (b 3) (Hs 3), tW cI t T tn, rW3 r u q d, oW q f, sW cI u U, bW tb B]) (-1000001) (List.flatten [xTop x o h t r tb, sW cI o G, hH cS h b (nI k), sW cI (b 0) (Hs 0), sW cI (b 1) (Hs 1), sW cI (b 2) (Hs 2), sW cI (b 3) (Hs 3), tW cI t T tn, rW3 r u q d, oW q f, sW cI u U, bW tb B]) := by
  refine x_inI (cc := cX6_read) (maxL := 2) (ret := (some .int)) (by decide) rfl (Nat.le_of_ble_eq_true rfl) ?_
  intro p e s m args below meth c A ls C w hl
  have C : xC p s m meth c args cX6_read 2 wsX6_read RX6 D tys (some .int) := C
  have hx := C.1.1
  have hb := C.1.2.1
  have hts := C.1.2.2.2.2
  have hown := C.1.2.2.2.1
  have w : xW D A s.heap (List.flatten [xTop x o h t r tb, sW cI o G, hH cS h b (nI k), sW cI (b 0) (Hs 0), sW cI (b 1) (Hs 1), sW cI (b 2) (Hs 2), sW cI (b 3) (Hs 3), tW cI t T tn, rW3 r u q d, oW q f, sW cI u U, bW tb B]) s.heap [] := w
  have hl : lv_has ls 2 [(0, .ref x), (1, .int a1)] := hl
  refine lv_iload_n hx hb dX6_read_0 rfl (lv_at hl 1 rfl) ?_
  refine x_callSiB (wr := List.flatten [xTop x o h t r tb, sW cI o G, hH cS h b (nI k), sW cI (b 0) (Hs 0), sW cI (b 1) (Hs 1), sW cI (b 2) (Hs 2), sW cI (b 3) (Hs 3), tW cI t T tn, rW3 r u q d, oW q f, sW cI u U, bW tb B]) (w2 := List.flatten [xTop x o h t r tb, sW cI o G, hH cS h b (nI k), sW cI (b 0) (Hs 0), sW cI (b 1) (Hs 1), sW cI (b 2) (Hs 2), sW cI (b 3) (Hs 3), tW cI t T tn, rW3 r u q d, oW q f, sW cI u U, bW tb B]) (rest := []) (n := 1) C w hl [.int a1] (k_X6_isPlace l D cI cS tys ht0 a1 ) gX6_read_X6_isPlace rfl (by decide +kernel) ⟨Nat.le_of_ble_eq_true rfl, Nat.le_of_ble_eq_true rfl⟩ rfl rfl (Nat.le_of_ble_eq_true rfl) (List.Perm.refl _) (List.Perm.refl _) ⟨Nat.zero_le _, Nat.zero_le _⟩ dX6_read_1 (fun H locs w => ?_)
  refine x_ifB_ne (P := rg a1 64 = true) (tgt := 10) hx hb dX6_read_4 (by decide) (fun c4_1 => ?_) (fun c4_1 => ?_)
  ·
    exact absurd c4_1 hno
  ·
    refine lv_ldc (v := -1000001) hx hb hown (hts _ (List.mem_of_getElem? (i := 1) rfl)) dX6_read_7 ?_
    exact x_iret C w rfl rfl dX6_read_9
set_option maxHeartbeats 1000000 in
set_option maxRecDepth 100000 in
theorem k_X6_write_ok (l : Launch) (D : va_G) (cI cS : ClassId) (tys : List (ClassId × FieldType)) (ht0 : tys[0]? = some (cI, .int)) (ht1 : tys[1]? = some (cS, .object RX4)) (x : Nat) (o : Nat → Nat) (h : Nat → Nat) (b : Nat → Nat → Nat) (t : Nat → Nat) (r : Nat) (q : Nat) (u : Nat → Nat) (tb : Nat) (G : St) (k : Nat) (Hs : Nat → St) (T : Nat → Int32) (tn : Int32) (f : Nat → Int32) (d : Int32) (U : St) (B : St) (a1 : Int32) (a2 : Int32) (h1 : rg a1 64 = true) (h2 : wth a2 0 999 = true) (hk : k ≤ 4) : xI l yX6_write wsX6_write 5 D tys [.ref x, .int a1, .int a2] (List.flatten [xTop x o h t r tb, sW cI o G, hH cS h b (nI k), sW cI (b 0) (Hs 0), sW cI (b 1) (Hs 1), sW cI (b 2) (Hs 2), sW cI (b 3) (Hs 3), tW cI t T tn, rW3 r u q d, oW q f, sW cI u U, bW tb B]) (wptI G a1 a2) (List.flatten [xTop x o h t r tb, sW cI o (wptG G a1 a2), hH cS h (kpA k b) (nI (kpN k)), sW cI ((kpA k b) 0) ((kpG k Hs G) 0), sW cI ((kpA k b) 1) ((kpG k Hs G) 1), sW cI ((kpA k b) 2) ((kpG k Hs G) 2), sW cI ((kpA k b) 3) ((kpG k Hs G) 3), tW cI t T tn, rW3 r u q d, oW q f, sW cI u U, bW tb B]) := by
  refine x_inI (cc := cX6_write) (maxL := 3) (ret := (some .int)) (by decide) rfl (Nat.le_of_ble_eq_true rfl) ?_
  intro p e s m args below meth c A ls C w hl
  have C : xC p s m meth c args cX6_write 3 wsX6_write RX6 D tys (some .int) := C
  have hx := C.1.1
  have hb := C.1.2.1
  have hts := C.1.2.2.2.2
  have hown := C.1.2.2.2.1
  have w : xW D A s.heap (List.flatten [xTop x o h t r tb, sW cI o G, hH cS h b (nI k), sW cI (b 0) (Hs 0), sW cI (b 1) (Hs 1), sW cI (b 2) (Hs 2), sW cI (b 3) (Hs 3), tW cI t T tn, rW3 r u q d, oW q f, sW cI u U, bW tb B]) s.heap [] := w
  have hl : lv_has ls 3 [(0, .ref x), (1, .int a1), (2, .int a2)] := hl
  refine lv_iload_n hx hb dX6_write_0 rfl (lv_at hl 1 rfl) ?_
  refine x_callSiB (wr := List.flatten [xTop x o h t r tb, sW cI o G, hH cS h b (nI k), sW cI (b 0) (Hs 0), sW cI (b 1) (Hs 1), sW cI (b 2) (Hs 2), sW cI (b 3) (Hs 3), tW cI t T tn, rW3 r u q d, oW q f, sW cI u U, bW tb B]) (w2 := List.flatten [xTop x o h t r tb, sW cI o G, hH cS h b (nI k), sW cI (b 0) (Hs 0), sW cI (b 1) (Hs 1), sW cI (b 2) (Hs 2), sW cI (b 3) (Hs 3), tW cI t T tn, rW3 r u q d, oW q f, sW cI u U, bW tb B]) (rest := []) (n := 1) C w hl [.int a1] (k_X6_isPlace l D cI cS tys ht0 a1 ) gX6_write_X6_isPlace rfl (by decide +kernel) ⟨Nat.le_of_ble_eq_true rfl, Nat.le_of_ble_eq_true rfl⟩ rfl rfl (Nat.le_of_ble_eq_true rfl) (List.Perm.refl _) (List.Perm.refl _) ⟨Nat.zero_le _, Nat.zero_le _⟩ dX6_write_1 (fun H locs w => ?_)
  refine x_ifB_eq (P := rg a1 64 = true) (tgt := 18) hx hb dX6_write_4 (by decide) (fun c4_1 => ?_) (fun c4_1 => ?_)
  ·
    exact absurd h1 c4_1
  ·
    refine lv_iload_n hx hb dX6_write_7 rfl (lv_at hl 2 rfl) ?_
    refine lv_iconst (v := 0) hx hb dX6_write_8 (by decide +kernel) ?_
    refine lv_sipush (v := 999) hx hb dX6_write_9 (by decide +kernel) ?_
    refine x_callSiB (wr := List.flatten [xTop x o h t r tb, sW cI o G, hH cS h b (nI k), sW cI (b 0) (Hs 0), sW cI (b 1) (Hs 1), sW cI (b 2) (Hs 2), sW cI (b 3) (Hs 3), tW cI t T tn, rW3 r u q d, oW q f, sW cI u U, bW tb B]) (w2 := List.flatten [xTop x o h t r tb, sW cI o G, hH cS h b (nI k), sW cI (b 0) (Hs 0), sW cI (b 1) (Hs 1), sW cI (b 2) (Hs 2), sW cI (b 3) (Hs 3), tW cI t T tn, rW3 r u q d, oW q f, sW cI u U, bW tb B]) (rest := []) (n := 3) C w hl [.int a2, .int 0, .int 999] (k_X6_isWithin l D cI cS tys ht0 a2 0 999 ) gX6_write_X6_isWithin rfl (by decide +kernel) ⟨Nat.le_of_ble_eq_true rfl, Nat.le_of_ble_eq_true rfl⟩ rfl rfl (Nat.le_of_ble_eq_true rfl) (List.Perm.refl _) (List.Perm.refl _) ⟨Nat.zero_le _, Nat.zero_le _⟩ dX6_write_12 (fun H locs w => ?_)
    refine x_ifB_ne (P := wth a2 0 999 = true) (tgt := 21) hx hb dX6_write_15 (by decide) (fun c15_2 => ?_) (fun c15_2 => ?_)
    ·
      refine lv_aload_n hx hb dX6_write_21 rfl (lv_at hl 0 rfl) ?_
      refine x_get (v := .ref (h 0)) (T := TX6) C (x_pc (b := xTop x o h t r tb) w 0 rfl) 0 1 rfl rfl (fun _ h => List.mem_cons_of_mem _ (List.mem_append_left _ (List.mem_append_left _ (List.mem_append_left _ (List.mem_append_right _ (h)))))) (List.mem_of_getElem? (i := 2) rfl) (by decide) rfl dX6_write_22 ?_
      refine lv_aload_n hx hb dX6_write_25 rfl (lv_at hl 0 rfl) ?_
      refine x_get (v := .ref (o 0)) (T := TX6) C (x_pc (b := xTop x o h t r tb) w 0 rfl) 0 0 rfl rfl (fun _ h => List.mem_cons_of_mem _ (List.mem_append_left _ (List.mem_append_left _ (List.mem_append_left _ (List.mem_append_right _ (h)))))) (List.mem_of_getElem? (i := 3) rfl) (by decide) rfl dX6_write_26 ?_
      have w : xW D A s.heap (List.flatten [hH cS h b (nI k), sW cI (b 0) (Hs 0), sW cI (b 1) (Hs 1), sW cI (b 2) (Hs 2), sW cI (b 3) (Hs 3), sW cI o G, xTop x o h t r tb, tW cI t T tn, rW3 r u q d, oW q f, sW cI u U, bW tb B]) _ _ := x_perm (bl_of [xTop x o h t r tb, sW cI o G, hH cS h b (nI k), sW cI (b 0) (Hs 0), sW cI (b 1) (Hs 1), sW cI (b 2) (Hs 2), sW cI (b 3) (Hs 3), tW cI t T tn, rW3 r u q d, oW q f, sW cI u U, bW tb B] [hH cS h b (nI k), sW cI (b 0) (Hs 0), sW cI (b 1) (Hs 1), sW cI (b 2) (Hs 2), sW cI (b 3) (Hs 3), sW cI o G, xTop x o h t r tb, tW cI t T tn, rW3 r u q d, oW q f, sW cI u U, bW tb B] [2, 3, 4, 5, 6, 1, 0, 7, 8, 9, 10, 11] 12 rfl (by decide) rfl) w
      refine x_callVvB (wr := List.flatten [xTop x o h t r tb, tW cI t T tn, rW3 r u q d, oW q f, sW cI u U, bW tb B]) (w2 := List.flatten [hH cS h (kpA k b) (nI (kpN k)), sW cI ((kpA k b) 0) ((kpG k Hs G) 0), sW cI ((kpA k b) 1) ((kpG k Hs G) 1), sW cI ((kpA k b) 2) ((kpG k Hs G) 2), sW cI ((kpA k b) 3) ((kpG k Hs G) 3), sW cI o G, xTop x o h t r tb, tW cI t T tn, rW3 r u q d, oW q f, sW cI u U, bW tb B]) (rest := []) (n := 1) C w hl [.ref (o 0)] (k_X1_keep l D cI cS tys ht0 ht1 h b Hs o G k hk) gX6_write_X1_keep rfl (by decide +kernel) ⟨Nat.le_of_ble_eq_true rfl, Nat.le_of_ble_eq_true rfl⟩ 0 1 rfl rfl rfl rfl (Nat.le_of_ble_eq_true rfl) (List.Perm.of_eq (by simp only [List.flatten_cons, List.flatten_nil, List.append_nil, List.append_assoc, List.nil_append])) (List.Perm.of_eq (by simp only [List.flatten_cons, List.flatten_nil, List.append_nil, List.append_assoc, List.nil_append])) ⟨Nat.zero_le _, Nat.zero_le _⟩ dX6_write_29 (fun H locs w => ?_)
      refine lv_aload_n hx hb dX6_write_32 rfl (lv_at hl 0 rfl) ?_
      refine x_get (v := .ref (o 0)) (T := TX6) C (x_pc (b := xTop x o h t r tb) w 6 rfl) 0 0 rfl rfl (fun _ h => List.mem_cons_of_mem _ (List.mem_append_left _ (List.mem_append_left _ (List.mem_append_left _ (List.mem_append_right _ (h)))))) (List.mem_of_getElem? (i := 3) rfl) (by decide) rfl dX6_write_33 ?_
      refine lv_iload_n hx hb dX6_write_36 rfl (lv_at hl 1 rfl) ?_
      refine lv_iload_n hx hb dX6_write_37 rfl (lv_at hl 2 rfl) ?_
      have w : xW D A s.heap (List.flatten [sW cI o G, hH cS h (kpA k b) (nI (kpN k)), sW cI ((kpA k b) 0) ((kpG k Hs G) 0), sW cI ((kpA k b) 1) ((kpG k Hs G) 1), sW cI ((kpA k b) 2) ((kpG k Hs G) 2), sW cI ((kpA k b) 3) ((kpG k Hs G) 3), xTop x o h t r tb, tW cI t T tn, rW3 r u q d, oW q f, sW cI u U, bW tb B]) _ _ := x_perm (bl_of [hH cS h (kpA k b) (nI (kpN k)), sW cI ((kpA k b) 0) ((kpG k Hs G) 0), sW cI ((kpA k b) 1) ((kpG k Hs G) 1), sW cI ((kpA k b) 2) ((kpG k Hs G) 2), sW cI ((kpA k b) 3) ((kpG k Hs G) 3), sW cI o G, xTop x o h t r tb, tW cI t T tn, rW3 r u q d, oW q f, sW cI u U, bW tb B] [sW cI o G, hH cS h (kpA k b) (nI (kpN k)), sW cI ((kpA k b) 0) ((kpG k Hs G) 0), sW cI ((kpA k b) 1) ((kpG k Hs G) 1), sW cI ((kpA k b) 2) ((kpG k Hs G) 2), sW cI ((kpA k b) 3) ((kpG k Hs G) 3), xTop x o h t r tb, tW cI t T tn, rW3 r u q d, oW q f, sW cI u U, bW tb B] [5, 0, 1, 2, 3, 4, 6, 7, 8, 9, 10, 11] 12 rfl (by decide) rfl) w
      refine x_callViB (wr := List.flatten [hH cS h (kpA k b) (nI (kpN k)), sW cI ((kpA k b) 0) ((kpG k Hs G) 0), sW cI ((kpA k b) 1) ((kpG k Hs G) 1), sW cI ((kpA k b) 2) ((kpG k Hs G) 2), sW cI ((kpA k b) 3) ((kpG k Hs G) 3), xTop x o h t r tb, tW cI t T tn, rW3 r u q d, oW q f, sW cI u U, bW tb B]) (w2 := List.flatten [sW cI o (wptG G a1 a2), hH cS h (kpA k b) (nI (kpN k)), sW cI ((kpA k b) 0) ((kpG k Hs G) 0), sW cI ((kpA k b) 1) ((kpG k Hs G) 1), sW cI ((kpA k b) 2) ((kpG k Hs G) 2), sW cI ((kpA k b) 3) ((kpG k Hs G) 3), xTop x o h t r tb, tW cI t T tn, rW3 r u q d, oW q f, sW cI u U, bW tb B]) (rest := []) (n := 2) C w hl [.int a1, .int a2] (k_X4_writePlace l D cI cS tys ht0 o G a1 a2 ) gX6_write_X4_writePlace rfl (by decide +kernel) ⟨Nat.le_of_ble_eq_true rfl, Nat.le_of_ble_eq_true rfl⟩ 0 4 rfl rfl rfl rfl (Nat.le_of_ble_eq_true rfl) (List.Perm.refl _) (List.Perm.refl _) ⟨Nat.zero_le _, Nat.zero_le _⟩ dX6_write_38 (fun H locs w => ?_)
      have w : xW D A s.heap (List.flatten [xTop x o h t r tb, sW cI o (wptG G a1 a2), hH cS h (kpA k b) (nI (kpN k)), sW cI ((kpA k b) 0) ((kpG k Hs G) 0), sW cI ((kpA k b) 1) ((kpG k Hs G) 1), sW cI ((kpA k b) 2) ((kpG k Hs G) 2), sW cI ((kpA k b) 3) ((kpG k Hs G) 3), tW cI t T tn, rW3 r u q d, oW q f, sW cI u U, bW tb B]) _ _ := x_perm (bl_of [sW cI o (wptG G a1 a2), hH cS h (kpA k b) (nI (kpN k)), sW cI ((kpA k b) 0) ((kpG k Hs G) 0), sW cI ((kpA k b) 1) ((kpG k Hs G) 1), sW cI ((kpA k b) 2) ((kpG k Hs G) 2), sW cI ((kpA k b) 3) ((kpG k Hs G) 3), xTop x o h t r tb, tW cI t T tn, rW3 r u q d, oW q f, sW cI u U, bW tb B] [xTop x o h t r tb, sW cI o (wptG G a1 a2), hH cS h (kpA k b) (nI (kpN k)), sW cI ((kpA k b) 0) ((kpG k Hs G) 0), sW cI ((kpA k b) 1) ((kpG k Hs G) 1), sW cI ((kpA k b) 2) ((kpG k Hs G) 2), sW cI ((kpA k b) 3) ((kpG k Hs G) 3), tW cI t T tn, rW3 r u q d, oW q f, sW cI u U, bW tb B] [6, 0, 1, 2, 3, 4, 5, 7, 8, 9, 10, 11] 12 rfl (by decide) rfl) w
      exact x_iret C w rfl rfl dX6_write_41
    ·
      exact absurd h2 c15_2
set_option maxHeartbeats 1000000 in
set_option maxRecDepth 100000 in
theorem k_X6_write_no (l : Launch) (D : va_G) (cI cS : ClassId) (tys : List (ClassId × FieldType)) (ht0 : tys[0]? = some (cI, .int)) (ht1 : tys[1]? = some (cS, .object RX4)) (x : Nat) (o : Nat → Nat) (h : Nat → Nat) (b : Nat → Nat → Nat) (t : Nat → Nat) (r : Nat) (q : Nat) (u : Nat → Nat) (tb : Nat) (G : St) (k : Nat) (Hs : Nat → St) (T : Nat → Int32) (tn : Int32) (f : Nat → Int32) (d : Int32) (U : St) (B : St) (a1 : Int32) (a2 : Int32) (hno : ¬ (rg a1 64 = true ∧ wth a2 0 999 = true)) : xI l yX6_write wsX6_write 5 D tys [.ref x, .int a1, .int a2] (List.flatten [xTop x o h t r tb, sW cI o G, hH cS h b (nI k), sW cI (b 0) (Hs 0), sW cI (b 1) (Hs 1), sW cI (b 2) (Hs 2), sW cI (b 3) (Hs 3), tW cI t T tn, rW3 r u q d, oW q f, sW cI u U, bW tb B]) (-1000001) (List.flatten [xTop x o h t r tb, sW cI o G, hH cS h b (nI k), sW cI (b 0) (Hs 0), sW cI (b 1) (Hs 1), sW cI (b 2) (Hs 2), sW cI (b 3) (Hs 3), tW cI t T tn, rW3 r u q d, oW q f, sW cI u U, bW tb B]) := by
  refine x_inI (cc := cX6_write) (maxL := 3) (ret := (some .int)) (by decide) rfl (Nat.le_of_ble_eq_true rfl) ?_
  intro p e s m args below meth c A ls C w hl
  have C : xC p s m meth c args cX6_write 3 wsX6_write RX6 D tys (some .int) := C
  have hx := C.1.1
  have hb := C.1.2.1
  have hts := C.1.2.2.2.2
  have hown := C.1.2.2.2.1
  have w : xW D A s.heap (List.flatten [xTop x o h t r tb, sW cI o G, hH cS h b (nI k), sW cI (b 0) (Hs 0), sW cI (b 1) (Hs 1), sW cI (b 2) (Hs 2), sW cI (b 3) (Hs 3), tW cI t T tn, rW3 r u q d, oW q f, sW cI u U, bW tb B]) s.heap [] := w
  have hl : lv_has ls 3 [(0, .ref x), (1, .int a1), (2, .int a2)] := hl
  refine lv_iload_n hx hb dX6_write_0 rfl (lv_at hl 1 rfl) ?_
  refine x_callSiB (wr := List.flatten [xTop x o h t r tb, sW cI o G, hH cS h b (nI k), sW cI (b 0) (Hs 0), sW cI (b 1) (Hs 1), sW cI (b 2) (Hs 2), sW cI (b 3) (Hs 3), tW cI t T tn, rW3 r u q d, oW q f, sW cI u U, bW tb B]) (w2 := List.flatten [xTop x o h t r tb, sW cI o G, hH cS h b (nI k), sW cI (b 0) (Hs 0), sW cI (b 1) (Hs 1), sW cI (b 2) (Hs 2), sW cI (b 3) (Hs 3), tW cI t T tn, rW3 r u q d, oW q f, sW cI u U, bW tb B]) (rest := []) (n := 1) C w hl [.int a1] (k_X6_isPlace l D cI cS tys ht0 a1 ) gX6_write_X6_isPlace rfl (by decide +kernel) ⟨Nat.le_of_ble_eq_true rfl, Nat.le_of_ble_eq_true rfl⟩ rfl rfl (Nat.le_of_ble_eq_true rfl) (List.Perm.refl _) (List.Perm.refl _) ⟨Nat.zero_le _, Nat.zero_le _⟩ dX6_write_1 (fun H locs w => ?_)
  refine x_ifB_eq (P := rg a1 64 = true) (tgt := 18) hx hb dX6_write_4 (by decide) (fun c4_1 => ?_) (fun c4_1 => ?_)
  ·
    refine lv_ldc (v := -1000001) hx hb hown (hts _ (List.mem_of_getElem? (i := 1) rfl)) dX6_write_18 ?_
    exact x_iret C w rfl rfl dX6_write_20
  ·
    refine lv_iload_n hx hb dX6_write_7 rfl (lv_at hl 2 rfl) ?_
    refine lv_iconst (v := 0) hx hb dX6_write_8 (by decide +kernel) ?_
    refine lv_sipush (v := 999) hx hb dX6_write_9 (by decide +kernel) ?_
    refine x_callSiB (wr := List.flatten [xTop x o h t r tb, sW cI o G, hH cS h b (nI k), sW cI (b 0) (Hs 0), sW cI (b 1) (Hs 1), sW cI (b 2) (Hs 2), sW cI (b 3) (Hs 3), tW cI t T tn, rW3 r u q d, oW q f, sW cI u U, bW tb B]) (w2 := List.flatten [xTop x o h t r tb, sW cI o G, hH cS h b (nI k), sW cI (b 0) (Hs 0), sW cI (b 1) (Hs 1), sW cI (b 2) (Hs 2), sW cI (b 3) (Hs 3), tW cI t T tn, rW3 r u q d, oW q f, sW cI u U, bW tb B]) (rest := []) (n := 3) C w hl [.int a2, .int 0, .int 999] (k_X6_isWithin l D cI cS tys ht0 a2 0 999 ) gX6_write_X6_isWithin rfl (by decide +kernel) ⟨Nat.le_of_ble_eq_true rfl, Nat.le_of_ble_eq_true rfl⟩ rfl rfl (Nat.le_of_ble_eq_true rfl) (List.Perm.refl _) (List.Perm.refl _) ⟨Nat.zero_le _, Nat.zero_le _⟩ dX6_write_12 (fun H locs w => ?_)
    refine x_ifB_ne (P := wth a2 0 999 = true) (tgt := 21) hx hb dX6_write_15 (by decide) (fun c15_2 => ?_) (fun c15_2 => ?_)
    ·
      exact absurd ⟨c4_1, c15_2⟩ hno
    ·
      refine lv_ldc (v := -1000001) hx hb hown (hts _ (List.mem_of_getElem? (i := 1) rfl)) dX6_write_18 ?_
      exact x_iret C w rfl rfl dX6_write_20
set_option maxHeartbeats 1000000 in
set_option maxRecDepth 100000 in
theorem k_X6_flush_ok (l : Launch) (D : va_G) (cI cS : ClassId) (tys : List (ClassId × FieldType)) (ht0 : tys[0]? = some (cI, .int)) (ht1 : tys[1]? = some (cS, .object RX4)) (x : Nat) (o : Nat → Nat) (h : Nat → Nat) (b : Nat → Nat → Nat) (t : Nat → Nat) (r : Nat) (q : Nat) (u : Nat → Nat) (tb : Nat) (G : St) (k : Nat) (Hs : Nat → St) (T : Nat → Int32) (tn : Int32) (f : Nat → Int32) (d : Int32) (U : St) (B : St) (a1 : Int32) (h1 : rg a1 8 = true) (h2 : G 2 (ix a1) = 2) (hk : k ≤ 4) : xI l yX6_flush wsX6_flush 4 D tys [.ref x, .int a1] (List.flatten [xTop x o h t r tb, sW cI o G, hH cS h b (nI k), sW cI (b 0) (Hs 0), sW cI (b 1) (Hs 1), sW cI (b 2) (Hs 2), sW cI (b 3) (Hs 3), tW cI t T tn, rW3 r u q d, oW q f, sW cI u U, bW tb B]) (nofI (fluG G a1) 2) (List.flatten [xTop x o h t r tb, sW cI o (fluG G a1), hH cS h (kpA k b) (nI (kpN k)), sW cI ((kpA k b) 0) ((kpG k Hs G) 0), sW cI ((kpA k b) 1) ((kpG k Hs G) 1), sW cI ((kpA k b) 2) ((kpG k Hs G) 2), sW cI ((kpA k b) 3) ((kpG k Hs G) 3), tW cI t T tn, rW3 r u q d, oW q f, sW cI u U, bW tb B]) := by
  refine x_inI (cc := cX6_flush) (maxL := 2) (ret := (some .int)) (by decide) rfl (Nat.le_of_ble_eq_true rfl) ?_
  intro p e s m args below meth c A ls C w hl
  have C : xC p s m meth c args cX6_flush 2 wsX6_flush RX6 D tys (some .int) := C
  have hx := C.1.1
  have hb := C.1.2.1
  have hts := C.1.2.2.2.2
  have hown := C.1.2.2.2.1
  have w : xW D A s.heap (List.flatten [xTop x o h t r tb, sW cI o G, hH cS h b (nI k), sW cI (b 0) (Hs 0), sW cI (b 1) (Hs 1), sW cI (b 2) (Hs 2), sW cI (b 3) (Hs 3), tW cI t T tn, rW3 r u q d, oW q f, sW cI u U, bW tb B]) s.heap [] := w
  have hl : lv_has ls 2 [(0, .ref x), (1, .int a1)] := hl
  refine lv_iload_n hx hb dX6_flush_0 rfl (lv_at hl 1 rfl) ?_
  refine x_callSiB (wr := List.flatten [xTop x o h t r tb, sW cI o G, hH cS h b (nI k), sW cI (b 0) (Hs 0), sW cI (b 1) (Hs 1), sW cI (b 2) (Hs 2), sW cI (b 3) (Hs 3), tW cI t T tn, rW3 r u q d, oW q f, sW cI u U, bW tb B]) (w2 := List.flatten [xTop x o h t r tb, sW cI o G, hH cS h b (nI k), sW cI (b 0) (Hs 0), sW cI (b 1) (Hs 1), sW cI (b 2) (Hs 2), sW cI (b 3) (Hs 3), tW cI t T tn, rW3 r u q d, oW q f, sW cI u U, bW tb B]) (rest := []) (n := 1) C w hl [.int a1] (k_X6_isLine l D cI cS tys ht0 a1 ) gX6_flush_X6_isLine rfl (by decide +kernel) ⟨Nat.le_of_ble_eq_true rfl, Nat.le_of_ble_eq_true rfl⟩ rfl rfl (Nat.le_of_ble_eq_true rfl) (List.Perm.refl _) (List.Perm.refl _) ⟨Nat.zero_le _, Nat.zero_le _⟩ dX6_flush_1 (fun H locs w => ?_)
  refine x_ifB_ne (P := rg a1 8 = true) (tgt := 10) hx hb dX6_flush_4 (by decide) (fun c4_1 => ?_) (fun c4_1 => ?_)
  ·
    refine lv_aload_n hx hb dX6_flush_10 rfl (lv_at hl 0 rfl) ?_
    refine x_get (v := .ref (o 0)) (T := TX6) C (x_pc (b := xTop x o h t r tb) w 0 rfl) 0 0 rfl rfl (fun _ h => List.mem_cons_of_mem _ (List.mem_append_left _ (List.mem_append_left _ (List.mem_append_left _ (List.mem_append_right _ (h)))))) (List.mem_of_getElem? (i := 2) rfl) (by decide) rfl dX6_flush_11 ?_
    refine x_get (v := .ref (o 4)) (T := TX4) C (x_pc (b := sW cI o G) w 1 rfl) 0 3 rfl rfl (fun _ h => List.mem_cons_of_mem _ (List.mem_append_left _ (List.mem_append_left _ (List.mem_append_right _ (h))))) (List.mem_of_getElem? (i := 3) rfl) (by decide) rfl dX6_flush_14 ?_
    refine lv_iload_n hx hb dX6_flush_17 rfl (lv_at hl 1 rfl) ?_
    refine x_ialdR (v := G 2 (ix a1)) C (x_pc (b := sW cI o G) w 1 rfl) 4 0 rfl ht0 (rg_in (n := 8) rfl (by decide) c4_1) rfl dX6_flush_18 ?_
    refine lv_iconst (v := 2) hx hb dX6_flush_19 (by decide +kernel) ?_
    refine x_icR_eq (x := G 2 (ix a1)) (y := 2) (tgt := 26) hx hb dX6_flush_20 (by decide) (fun c20_2 => ?_) (fun c20_2 => ?_)
    ·
      refine lv_aload_n hx hb dX6_flush_26 rfl (lv_at hl 0 rfl) ?_
      refine x_get (v := .ref (h 0)) (T := TX6) C (x_pc (b := xTop x o h t r tb) w 0 rfl) 0 1 rfl rfl (fun _ h => List.mem_cons_of_mem _ (List.mem_append_left _ (List.mem_append_left _ (List.mem_append_left _ (List.mem_append_right _ (h)))))) (List.mem_of_getElem? (i := 5) rfl) (by decide) rfl dX6_flush_27 ?_
      refine lv_aload_n hx hb dX6_flush_30 rfl (lv_at hl 0 rfl) ?_
      refine x_get (v := .ref (o 0)) (T := TX6) C (x_pc (b := xTop x o h t r tb) w 0 rfl) 0 0 rfl rfl (fun _ h => List.mem_cons_of_mem _ (List.mem_append_left _ (List.mem_append_left _ (List.mem_append_left _ (List.mem_append_right _ (h)))))) (List.mem_of_getElem? (i := 2) rfl) (by decide) rfl dX6_flush_31 ?_
      have w : xW D A s.heap (List.flatten [hH cS h b (nI k), sW cI (b 0) (Hs 0), sW cI (b 1) (Hs 1), sW cI (b 2) (Hs 2), sW cI (b 3) (Hs 3), sW cI o G, xTop x o h t r tb, tW cI t T tn, rW3 r u q d, oW q f, sW cI u U, bW tb B]) _ _ := x_perm (bl_of [xTop x o h t r tb, sW cI o G, hH cS h b (nI k), sW cI (b 0) (Hs 0), sW cI (b 1) (Hs 1), sW cI (b 2) (Hs 2), sW cI (b 3) (Hs 3), tW cI t T tn, rW3 r u q d, oW q f, sW cI u U, bW tb B] [hH cS h b (nI k), sW cI (b 0) (Hs 0), sW cI (b 1) (Hs 1), sW cI (b 2) (Hs 2), sW cI (b 3) (Hs 3), sW cI o G, xTop x o h t r tb, tW cI t T tn, rW3 r u q d, oW q f, sW cI u U, bW tb B] [2, 3, 4, 5, 6, 1, 0, 7, 8, 9, 10, 11] 12 rfl (by decide) rfl) w
      refine x_callVvB (wr := List.flatten [xTop x o h t r tb, tW cI t T tn, rW3 r u q d, oW q f, sW cI u U, bW tb B]) (w2 := List.flatten [hH cS h (kpA k b) (nI (kpN k)), sW cI ((kpA k b) 0) ((kpG k Hs G) 0), sW cI ((kpA k b) 1) ((kpG k Hs G) 1), sW cI ((kpA k b) 2) ((kpG k Hs G) 2), sW cI ((kpA k b) 3) ((kpG k Hs G) 3), sW cI o G, xTop x o h t r tb, tW cI t T tn, rW3 r u q d, oW q f, sW cI u U, bW tb B]) (rest := []) (n := 1) C w hl [.ref (o 0)] (k_X1_keep l D cI cS tys ht0 ht1 h b Hs o G k hk) gX6_flush_X1_keep rfl (by decide +kernel) ⟨Nat.le_of_ble_eq_true rfl, Nat.le_of_ble_eq_true rfl⟩ 0 1 rfl rfl rfl rfl (Nat.le_of_ble_eq_true rfl) (List.Perm.of_eq (by simp only [List.flatten_cons, List.flatten_nil, List.append_nil, List.append_assoc, List.nil_append])) (List.Perm.of_eq (by simp only [List.flatten_cons, List.flatten_nil, List.append_nil, List.append_assoc, List.nil_append])) ⟨Nat.zero_le _, Nat.zero_le _⟩ dX6_flush_34 (fun H locs w => ?_)
      refine lv_aload_n hx hb dX6_flush_37 rfl (lv_at hl 0 rfl) ?_
      refine x_get (v := .ref (o 0)) (T := TX6) C (x_pc (b := xTop x o h t r tb) w 6 rfl) 0 0 rfl rfl (fun _ h => List.mem_cons_of_mem _ (List.mem_append_left _ (List.mem_append_left _ (List.mem_append_left _ (List.mem_append_right _ (h)))))) (List.mem_of_getElem? (i := 2) rfl) (by decide) rfl dX6_flush_38 ?_
      refine lv_iload_n hx hb dX6_flush_41 rfl (lv_at hl 1 rfl) ?_
      have w : xW D A s.heap (List.flatten [sW cI o G, hH cS h (kpA k b) (nI (kpN k)), sW cI ((kpA k b) 0) ((kpG k Hs G) 0), sW cI ((kpA k b) 1) ((kpG k Hs G) 1), sW cI ((kpA k b) 2) ((kpG k Hs G) 2), sW cI ((kpA k b) 3) ((kpG k Hs G) 3), xTop x o h t r tb, tW cI t T tn, rW3 r u q d, oW q f, sW cI u U, bW tb B]) _ _ := x_perm (bl_of [hH cS h (kpA k b) (nI (kpN k)), sW cI ((kpA k b) 0) ((kpG k Hs G) 0), sW cI ((kpA k b) 1) ((kpG k Hs G) 1), sW cI ((kpA k b) 2) ((kpG k Hs G) 2), sW cI ((kpA k b) 3) ((kpG k Hs G) 3), sW cI o G, xTop x o h t r tb, tW cI t T tn, rW3 r u q d, oW q f, sW cI u U, bW tb B] [sW cI o G, hH cS h (kpA k b) (nI (kpN k)), sW cI ((kpA k b) 0) ((kpG k Hs G) 0), sW cI ((kpA k b) 1) ((kpG k Hs G) 1), sW cI ((kpA k b) 2) ((kpG k Hs G) 2), sW cI ((kpA k b) 3) ((kpG k Hs G) 3), xTop x o h t r tb, tW cI t T tn, rW3 r u q d, oW q f, sW cI u U, bW tb B] [5, 0, 1, 2, 3, 4, 6, 7, 8, 9, 10, 11] 12 rfl (by decide) rfl) w
      refine x_callVvB (wr := List.flatten [hH cS h (kpA k b) (nI (kpN k)), sW cI ((kpA k b) 0) ((kpG k Hs G) 0), sW cI ((kpA k b) 1) ((kpG k Hs G) 1), sW cI ((kpA k b) 2) ((kpG k Hs G) 2), sW cI ((kpA k b) 3) ((kpG k Hs G) 3), xTop x o h t r tb, tW cI t T tn, rW3 r u q d, oW q f, sW cI u U, bW tb B]) (w2 := List.flatten [sW cI o (fluG G a1), hH cS h (kpA k b) (nI (kpN k)), sW cI ((kpA k b) 0) ((kpG k Hs G) 0), sW cI ((kpA k b) 1) ((kpG k Hs G) 1), sW cI ((kpA k b) 2) ((kpG k Hs G) 2), sW cI ((kpA k b) 3) ((kpG k Hs G) 3), xTop x o h t r tb, tW cI t T tn, rW3 r u q d, oW q f, sW cI u U, bW tb B]) (rest := []) (n := 1) C w hl [.int a1] (k_X4_flushLine l D cI cS tys ht0 o G a1 ) gX6_flush_X4_flushLine rfl (by decide +kernel) ⟨Nat.le_of_ble_eq_true rfl, Nat.le_of_ble_eq_true rfl⟩ 0 4 rfl rfl rfl rfl (Nat.le_of_ble_eq_true rfl) (List.Perm.refl _) (List.Perm.refl _) ⟨Nat.zero_le _, Nat.zero_le _⟩ dX6_flush_42 (fun H locs w => ?_)
      refine lv_aload_n hx hb dX6_flush_45 rfl (lv_at hl 0 rfl) ?_
      refine x_get (v := .ref (o 0)) (T := TX6) C (x_pc (b := xTop x o h t r tb) w 6 rfl) 0 0 rfl rfl (fun _ h => List.mem_cons_of_mem _ (List.mem_append_left _ (List.mem_append_left _ (List.mem_append_left _ (List.mem_append_right _ (h)))))) (List.mem_of_getElem? (i := 2) rfl) (by decide) rfl dX6_flush_46 ?_
      refine lv_iconst (v := 2) hx hb dX6_flush_49 (by decide +kernel) ?_
      refine x_callViB (wr := List.flatten [hH cS h (kpA k b) (nI (kpN k)), sW cI ((kpA k b) 0) ((kpG k Hs G) 0), sW cI ((kpA k b) 1) ((kpG k Hs G) 1), sW cI ((kpA k b) 2) ((kpG k Hs G) 2), sW cI ((kpA k b) 3) ((kpG k Hs G) 3), xTop x o h t r tb, tW cI t T tn, rW3 r u q d, oW q f, sW cI u U, bW tb B]) (w2 := List.flatten [sW cI o (fluG G a1), hH cS h (kpA k b) (nI (kpN k)), sW cI ((kpA k b) 0) ((kpG k Hs G) 0), sW cI ((kpA k b) 1) ((kpG k Hs G) 1), sW cI ((kpA k b) 2) ((kpG k Hs G) 2), sW cI ((kpA k b) 3) ((kpG k Hs G) 3), xTop x o h t r tb, tW cI t T tn, rW3 r u q d, oW q f, sW cI u U, bW tb B]) (rest := []) (n := 1) C w hl [.int 2] (k_X4_numberOf l D cI cS tys ht0 o (fluG G a1) 2 ) gX6_flush_X4_numberOf rfl (by decide +kernel) ⟨Nat.le_of_ble_eq_true rfl, Nat.le_of_ble_eq_true rfl⟩ 0 4 rfl rfl rfl rfl (Nat.le_of_ble_eq_true rfl) (List.Perm.refl _) (List.Perm.refl _) ⟨Nat.zero_le _, Nat.zero_le _⟩ dX6_flush_50 (fun H locs w => ?_)
      have w : xW D A s.heap (List.flatten [xTop x o h t r tb, sW cI o (fluG G a1), hH cS h (kpA k b) (nI (kpN k)), sW cI ((kpA k b) 0) ((kpG k Hs G) 0), sW cI ((kpA k b) 1) ((kpG k Hs G) 1), sW cI ((kpA k b) 2) ((kpG k Hs G) 2), sW cI ((kpA k b) 3) ((kpG k Hs G) 3), tW cI t T tn, rW3 r u q d, oW q f, sW cI u U, bW tb B]) _ _ := x_perm (bl_of [sW cI o (fluG G a1), hH cS h (kpA k b) (nI (kpN k)), sW cI ((kpA k b) 0) ((kpG k Hs G) 0), sW cI ((kpA k b) 1) ((kpG k Hs G) 1), sW cI ((kpA k b) 2) ((kpG k Hs G) 2), sW cI ((kpA k b) 3) ((kpG k Hs G) 3), xTop x o h t r tb, tW cI t T tn, rW3 r u q d, oW q f, sW cI u U, bW tb B] [xTop x o h t r tb, sW cI o (fluG G a1), hH cS h (kpA k b) (nI (kpN k)), sW cI ((kpA k b) 0) ((kpG k Hs G) 0), sW cI ((kpA k b) 1) ((kpG k Hs G) 1), sW cI ((kpA k b) 2) ((kpG k Hs G) 2), sW cI ((kpA k b) 3) ((kpG k Hs G) 3), tW cI t T tn, rW3 r u q d, oW q f, sW cI u U, bW tb B] [6, 0, 1, 2, 3, 4, 5, 7, 8, 9, 10, 11] 12 rfl (by decide) rfl) w
      exact x_iret C w rfl rfl dX6_flush_53
    ·
      exact absurd h2 c20_2
  ·
    exact absurd h1 c4_1
set_option maxHeartbeats 1000000 in
set_option maxRecDepth 100000 in
theorem k_X6_flush_no (l : Launch) (D : va_G) (cI cS : ClassId) (tys : List (ClassId × FieldType)) (ht0 : tys[0]? = some (cI, .int)) (ht1 : tys[1]? = some (cS, .object RX4)) (x : Nat) (o : Nat → Nat) (h : Nat → Nat) (b : Nat → Nat → Nat) (t : Nat → Nat) (r : Nat) (q : Nat) (u : Nat → Nat) (tb : Nat) (G : St) (k : Nat) (Hs : Nat → St) (T : Nat → Int32) (tn : Int32) (f : Nat → Int32) (d : Int32) (U : St) (B : St) (a1 : Int32) (hno : ¬ rg a1 8 = true) : xI l yX6_flush wsX6_flush 4 D tys [.ref x, .int a1] (List.flatten [xTop x o h t r tb, sW cI o G, hH cS h b (nI k), sW cI (b 0) (Hs 0), sW cI (b 1) (Hs 1), sW cI (b 2) (Hs 2), sW cI (b 3) (Hs 3), tW cI t T tn, rW3 r u q d, oW q f, sW cI u U, bW tb B]) (-1000001) (List.flatten [xTop x o h t r tb, sW cI o G, hH cS h b (nI k), sW cI (b 0) (Hs 0), sW cI (b 1) (Hs 1), sW cI (b 2) (Hs 2), sW cI (b 3) (Hs 3), tW cI t T tn, rW3 r u q d, oW q f, sW cI u U, bW tb B]) := by
  refine x_inI (cc := cX6_flush) (maxL := 2) (ret := (some .int)) (by decide) rfl (Nat.le_of_ble_eq_true rfl) ?_
  intro p e s m args below meth c A ls C w hl
  have C : xC p s m meth c args cX6_flush 2 wsX6_flush RX6 D tys (some .int) := C
  have hx := C.1.1
  have hb := C.1.2.1
  have hts := C.1.2.2.2.2
  have hown := C.1.2.2.2.1
  have w : xW D A s.heap (List.flatten [xTop x o h t r tb, sW cI o G, hH cS h b (nI k), sW cI (b 0) (Hs 0), sW cI (b 1) (Hs 1), sW cI (b 2) (Hs 2), sW cI (b 3) (Hs 3), tW cI t T tn, rW3 r u q d, oW q f, sW cI u U, bW tb B]) s.heap [] := w
  have hl : lv_has ls 2 [(0, .ref x), (1, .int a1)] := hl
  refine lv_iload_n hx hb dX6_flush_0 rfl (lv_at hl 1 rfl) ?_
  refine x_callSiB (wr := List.flatten [xTop x o h t r tb, sW cI o G, hH cS h b (nI k), sW cI (b 0) (Hs 0), sW cI (b 1) (Hs 1), sW cI (b 2) (Hs 2), sW cI (b 3) (Hs 3), tW cI t T tn, rW3 r u q d, oW q f, sW cI u U, bW tb B]) (w2 := List.flatten [xTop x o h t r tb, sW cI o G, hH cS h b (nI k), sW cI (b 0) (Hs 0), sW cI (b 1) (Hs 1), sW cI (b 2) (Hs 2), sW cI (b 3) (Hs 3), tW cI t T tn, rW3 r u q d, oW q f, sW cI u U, bW tb B]) (rest := []) (n := 1) C w hl [.int a1] (k_X6_isLine l D cI cS tys ht0 a1 ) gX6_flush_X6_isLine rfl (by decide +kernel) ⟨Nat.le_of_ble_eq_true rfl, Nat.le_of_ble_eq_true rfl⟩ rfl rfl (Nat.le_of_ble_eq_true rfl) (List.Perm.refl _) (List.Perm.refl _) ⟨Nat.zero_le _, Nat.zero_le _⟩ dX6_flush_1 (fun H locs w => ?_)
  refine x_ifB_ne (P := rg a1 8 = true) (tgt := 10) hx hb dX6_flush_4 (by decide) (fun c4_1 => ?_) (fun c4_1 => ?_)
  ·
    exact absurd c4_1 hno
  ·
    refine lv_ldc (v := -1000001) hx hb hown (hts _ (List.mem_of_getElem? (i := 1) rfl)) dX6_flush_7 ?_
    exact x_iret C w rfl rfl dX6_flush_9
set_option maxHeartbeats 1000000 in
set_option maxRecDepth 100000 in
theorem k_X6_flush_np (l : Launch) (D : va_G) (cI cS : ClassId) (tys : List (ClassId × FieldType)) (ht0 : tys[0]? = some (cI, .int)) (ht1 : tys[1]? = some (cS, .object RX4)) (x : Nat) (o : Nat → Nat) (h : Nat → Nat) (b : Nat → Nat → Nat) (t : Nat → Nat) (r : Nat) (q : Nat) (u : Nat → Nat) (tb : Nat) (G : St) (k : Nat) (Hs : Nat → St) (T : Nat → Int32) (tn : Int32) (f : Nat → Int32) (d : Int32) (U : St) (B : St) (a1 : Int32) (h1 : rg a1 8 = true) (h2 : ¬ G 2 (ix a1) = 2) : xI l yX6_flush wsX6_flush 4 D tys [.ref x, .int a1] (List.flatten [xTop x o h t r tb, sW cI o G, hH cS h b (nI k), sW cI (b 0) (Hs 0), sW cI (b 1) (Hs 1), sW cI (b 2) (Hs 2), sW cI (b 3) (Hs 3), tW cI t T tn, rW3 r u q d, oW q f, sW cI u U, bW tb B]) (-1000002) (List.flatten [xTop x o h t r tb, sW cI o G, hH cS h b (nI k), sW cI (b 0) (Hs 0), sW cI (b 1) (Hs 1), sW cI (b 2) (Hs 2), sW cI (b 3) (Hs 3), tW cI t T tn, rW3 r u q d, oW q f, sW cI u U, bW tb B]) := by
  refine x_inI (cc := cX6_flush) (maxL := 2) (ret := (some .int)) (by decide) rfl (Nat.le_of_ble_eq_true rfl) ?_
  intro p e s m args below meth c A ls C w hl
  have C : xC p s m meth c args cX6_flush 2 wsX6_flush RX6 D tys (some .int) := C
  have hx := C.1.1
  have hb := C.1.2.1
  have hts := C.1.2.2.2.2
  have hown := C.1.2.2.2.1
  have w : xW D A s.heap (List.flatten [xTop x o h t r tb, sW cI o G, hH cS h b (nI k), sW cI (b 0) (Hs 0), sW cI (b 1) (Hs 1), sW cI (b 2) (Hs 2), sW cI (b 3) (Hs 3), tW cI t T tn, rW3 r u q d, oW q f, sW cI u U, bW tb B]) s.heap [] := w
  have hl : lv_has ls 2 [(0, .ref x), (1, .int a1)] := hl
  refine lv_iload_n hx hb dX6_flush_0 rfl (lv_at hl 1 rfl) ?_
  refine x_callSiB (wr := List.flatten [xTop x o h t r tb, sW cI o G, hH cS h b (nI k), sW cI (b 0) (Hs 0), sW cI (b 1) (Hs 1), sW cI (b 2) (Hs 2), sW cI (b 3) (Hs 3), tW cI t T tn, rW3 r u q d, oW q f, sW cI u U, bW tb B]) (w2 := List.flatten [xTop x o h t r tb, sW cI o G, hH cS h b (nI k), sW cI (b 0) (Hs 0), sW cI (b 1) (Hs 1), sW cI (b 2) (Hs 2), sW cI (b 3) (Hs 3), tW cI t T tn, rW3 r u q d, oW q f, sW cI u U, bW tb B]) (rest := []) (n := 1) C w hl [.int a1] (k_X6_isLine l D cI cS tys ht0 a1 ) gX6_flush_X6_isLine rfl (by decide +kernel) ⟨Nat.le_of_ble_eq_true rfl, Nat.le_of_ble_eq_true rfl⟩ rfl rfl (Nat.le_of_ble_eq_true rfl) (List.Perm.refl _) (List.Perm.refl _) ⟨Nat.zero_le _, Nat.zero_le _⟩ dX6_flush_1 (fun H locs w => ?_)
  refine x_ifB_ne (P := rg a1 8 = true) (tgt := 10) hx hb dX6_flush_4 (by decide) (fun c4_1 => ?_) (fun c4_1 => ?_)
  ·
    refine lv_aload_n hx hb dX6_flush_10 rfl (lv_at hl 0 rfl) ?_
    refine x_get (v := .ref (o 0)) (T := TX6) C (x_pc (b := xTop x o h t r tb) w 0 rfl) 0 0 rfl rfl (fun _ h => List.mem_cons_of_mem _ (List.mem_append_left _ (List.mem_append_left _ (List.mem_append_left _ (List.mem_append_right _ (h)))))) (List.mem_of_getElem? (i := 2) rfl) (by decide) rfl dX6_flush_11 ?_
    refine x_get (v := .ref (o 4)) (T := TX4) C (x_pc (b := sW cI o G) w 1 rfl) 0 3 rfl rfl (fun _ h => List.mem_cons_of_mem _ (List.mem_append_left _ (List.mem_append_left _ (List.mem_append_right _ (h))))) (List.mem_of_getElem? (i := 3) rfl) (by decide) rfl dX6_flush_14 ?_
    refine lv_iload_n hx hb dX6_flush_17 rfl (lv_at hl 1 rfl) ?_
    refine x_ialdR (v := G 2 (ix a1)) C (x_pc (b := sW cI o G) w 1 rfl) 4 0 rfl ht0 (rg_in (n := 8) rfl (by decide) c4_1) rfl dX6_flush_18 ?_
    refine lv_iconst (v := 2) hx hb dX6_flush_19 (by decide +kernel) ?_
    refine x_icR_eq (x := G 2 (ix a1)) (y := 2) (tgt := 26) hx hb dX6_flush_20 (by decide) (fun c20_2 => ?_) (fun c20_2 => ?_)
    ·
      exact absurd c20_2 h2
    ·
      refine lv_ldc (v := -1000002) hx hb hown (hts _ (List.mem_of_getElem? (i := 4) rfl)) dX6_flush_23 ?_
      exact x_iret C w rfl rfl dX6_flush_25
  ·
    exact absurd h1 c4_1
set_option maxHeartbeats 1000000 in
set_option maxRecDepth 100000 in
theorem k_X6_tick_ok (l : Launch) (D : va_G) (cI cS : ClassId) (tys : List (ClassId × FieldType)) (ht0 : tys[0]? = some (cI, .int)) (ht1 : tys[1]? = some (cS, .object RX4)) (x : Nat) (o : Nat → Nat) (h : Nat → Nat) (b : Nat → Nat → Nat) (t : Nat → Nat) (r : Nat) (q : Nat) (u : Nat → Nat) (tb : Nat) (G : St) (k : Nat) (Hs : Nat → St) (T : Nat → Int32) (tn : Int32) (f : Nat → Int32) (d : Int32) (U : St) (B : St) (a1 : Int32) (hok : wth a1 1 99 = true) (hk : k ≤ 4) : xI l yX6_tick wsX6_tick 5 D tys [.ref x, .int a1] (List.flatten [xTop x o h t r tb, sW cI o G, hH cS h b (nI k), sW cI (b 0) (Hs 0), sW cI (b 1) (Hs 1), sW cI (b 2) (Hs 2), sW cI (b 3) (Hs 3), tW cI t T tn, rW3 r u q d, oW q f, sW cI u U, bW tb B]) ((tksG G (ix a1)) 7 3 - G 7 3) (List.flatten [xTop x o h t r tb, sW cI o (tksG G (ix a1)), hH cS h (kpA k b) (nI (kpN k)), sW cI ((kpA k b) 0) ((kpG k Hs G) 0), sW cI ((kpA k b) 1) ((kpG k Hs G) 1), sW cI ((kpA k b) 2) ((kpG k Hs G) 2), sW cI ((kpA k b) 3) ((kpG k Hs G) 3), tW cI t T tn, rW3 r u q d, oW q f, sW cI u U, bW tb B]) := by
  refine x_inI (cc := cX6_tick) (maxL := 2) (ret := (some .int)) (by decide) rfl (Nat.le_of_ble_eq_true rfl) ?_
  intro p e s m args below meth c A ls C w hl
  have C : xC p s m meth c args cX6_tick 2 wsX6_tick RX6 D tys (some .int) := C
  have hx := C.1.1
  have hb := C.1.2.1
  have hts := C.1.2.2.2.2
  have hown := C.1.2.2.2.1
  have w : xW D A s.heap (List.flatten [xTop x o h t r tb, sW cI o G, hH cS h b (nI k), sW cI (b 0) (Hs 0), sW cI (b 1) (Hs 1), sW cI (b 2) (Hs 2), sW cI (b 3) (Hs 3), tW cI t T tn, rW3 r u q d, oW q f, sW cI u U, bW tb B]) s.heap [] := w
  have hl : lv_has ls 2 [(0, .ref x), (1, .int a1)] := hl
  refine lv_iload_n hx hb dX6_tick_0 rfl (lv_at hl 1 rfl) ?_
  refine lv_iconst (v := 1) hx hb dX6_tick_1 (by decide +kernel) ?_
  refine lv_bipush (v := 99) hx hb dX6_tick_2 (by decide +kernel) ?_
  refine x_callSiB (wr := List.flatten [xTop x o h t r tb, sW cI o G, hH cS h b (nI k), sW cI (b 0) (Hs 0), sW cI (b 1) (Hs 1), sW cI (b 2) (Hs 2), sW cI (b 3) (Hs 3), tW cI t T tn, rW3 r u q d, oW q f, sW cI u U, bW tb B]) (w2 := List.flatten [xTop x o h t r tb, sW cI o G, hH cS h b (nI k), sW cI (b 0) (Hs 0), sW cI (b 1) (Hs 1), sW cI (b 2) (Hs 2), sW cI (b 3) (Hs 3), tW cI t T tn, rW3 r u q d, oW q f, sW cI u U, bW tb B]) (rest := []) (n := 3) C w hl [.int a1, .int 1, .int 99] (k_X6_isWithin l D cI cS tys ht0 a1 1 99 ) gX6_tick_X6_isWithin rfl (by decide +kernel) ⟨Nat.le_of_ble_eq_true rfl, Nat.le_of_ble_eq_true rfl⟩ rfl rfl (Nat.le_of_ble_eq_true rfl) (List.Perm.refl _) (List.Perm.refl _) ⟨Nat.zero_le _, Nat.zero_le _⟩ dX6_tick_4 (fun H locs w => ?_)
  refine x_ifB_ne (P := wth a1 1 99 = true) (tgt := 13) hx hb dX6_tick_7 (by decide) (fun c7_1 => ?_) (fun c7_1 => ?_)
  ·
    refine lv_aload_n hx hb dX6_tick_13 rfl (lv_at hl 0 rfl) ?_
    refine x_get (v := .ref (h 0)) (T := TX6) C (x_pc (b := xTop x o h t r tb) w 0 rfl) 0 1 rfl rfl (fun _ h => List.mem_cons_of_mem _ (List.mem_append_left _ (List.mem_append_left _ (List.mem_append_left _ (List.mem_append_right _ (h)))))) (List.mem_of_getElem? (i := 2) rfl) (by decide) rfl dX6_tick_14 ?_
    refine lv_aload_n hx hb dX6_tick_17 rfl (lv_at hl 0 rfl) ?_
    refine x_get (v := .ref (o 0)) (T := TX6) C (x_pc (b := xTop x o h t r tb) w 0 rfl) 0 0 rfl rfl (fun _ h => List.mem_cons_of_mem _ (List.mem_append_left _ (List.mem_append_left _ (List.mem_append_left _ (List.mem_append_right _ (h)))))) (List.mem_of_getElem? (i := 3) rfl) (by decide) rfl dX6_tick_18 ?_
    have w : xW D A s.heap (List.flatten [hH cS h b (nI k), sW cI (b 0) (Hs 0), sW cI (b 1) (Hs 1), sW cI (b 2) (Hs 2), sW cI (b 3) (Hs 3), sW cI o G, xTop x o h t r tb, tW cI t T tn, rW3 r u q d, oW q f, sW cI u U, bW tb B]) _ _ := x_perm (bl_of [xTop x o h t r tb, sW cI o G, hH cS h b (nI k), sW cI (b 0) (Hs 0), sW cI (b 1) (Hs 1), sW cI (b 2) (Hs 2), sW cI (b 3) (Hs 3), tW cI t T tn, rW3 r u q d, oW q f, sW cI u U, bW tb B] [hH cS h b (nI k), sW cI (b 0) (Hs 0), sW cI (b 1) (Hs 1), sW cI (b 2) (Hs 2), sW cI (b 3) (Hs 3), sW cI o G, xTop x o h t r tb, tW cI t T tn, rW3 r u q d, oW q f, sW cI u U, bW tb B] [2, 3, 4, 5, 6, 1, 0, 7, 8, 9, 10, 11] 12 rfl (by decide) rfl) w
    refine x_callVvB (wr := List.flatten [xTop x o h t r tb, tW cI t T tn, rW3 r u q d, oW q f, sW cI u U, bW tb B]) (w2 := List.flatten [hH cS h (kpA k b) (nI (kpN k)), sW cI ((kpA k b) 0) ((kpG k Hs G) 0), sW cI ((kpA k b) 1) ((kpG k Hs G) 1), sW cI ((kpA k b) 2) ((kpG k Hs G) 2), sW cI ((kpA k b) 3) ((kpG k Hs G) 3), sW cI o G, xTop x o h t r tb, tW cI t T tn, rW3 r u q d, oW q f, sW cI u U, bW tb B]) (rest := []) (n := 1) C w hl [.ref (o 0)] (k_X1_keep l D cI cS tys ht0 ht1 h b Hs o G k hk) gX6_tick_X1_keep rfl (by decide +kernel) ⟨Nat.le_of_ble_eq_true rfl, Nat.le_of_ble_eq_true rfl⟩ 0 1 rfl rfl rfl rfl (Nat.le_of_ble_eq_true rfl) (List.Perm.of_eq (by simp only [List.flatten_cons, List.flatten_nil, List.append_nil, List.append_assoc, List.nil_append])) (List.Perm.of_eq (by simp only [List.flatten_cons, List.flatten_nil, List.append_nil, List.append_assoc, List.nil_append])) ⟨Nat.zero_le _, Nat.zero_le _⟩ dX6_tick_21 (fun H locs w => ?_)
    refine lv_aload_n hx hb dX6_tick_24 rfl (lv_at hl 0 rfl) ?_
    refine x_get (v := .ref (o 0)) (T := TX6) C (x_pc (b := xTop x o h t r tb) w 6 rfl) 0 0 rfl rfl (fun _ h => List.mem_cons_of_mem _ (List.mem_append_left _ (List.mem_append_left _ (List.mem_append_left _ (List.mem_append_right _ (h)))))) (List.mem_of_getElem? (i := 3) rfl) (by decide) rfl dX6_tick_25 ?_
    refine lv_iload_n hx hb dX6_tick_28 rfl (lv_at hl 1 rfl) ?_
    have w : xW D A s.heap (List.flatten [sW cI o G, hH cS h (kpA k b) (nI (kpN k)), sW cI ((kpA k b) 0) ((kpG k Hs G) 0), sW cI ((kpA k b) 1) ((kpG k Hs G) 1), sW cI ((kpA k b) 2) ((kpG k Hs G) 2), sW cI ((kpA k b) 3) ((kpG k Hs G) 3), xTop x o h t r tb, tW cI t T tn, rW3 r u q d, oW q f, sW cI u U, bW tb B]) _ _ := x_perm (bl_of [hH cS h (kpA k b) (nI (kpN k)), sW cI ((kpA k b) 0) ((kpG k Hs G) 0), sW cI ((kpA k b) 1) ((kpG k Hs G) 1), sW cI ((kpA k b) 2) ((kpG k Hs G) 2), sW cI ((kpA k b) 3) ((kpG k Hs G) 3), sW cI o G, xTop x o h t r tb, tW cI t T tn, rW3 r u q d, oW q f, sW cI u U, bW tb B] [sW cI o G, hH cS h (kpA k b) (nI (kpN k)), sW cI ((kpA k b) 0) ((kpG k Hs G) 0), sW cI ((kpA k b) 1) ((kpG k Hs G) 1), sW cI ((kpA k b) 2) ((kpG k Hs G) 2), sW cI ((kpA k b) 3) ((kpG k Hs G) 3), xTop x o h t r tb, tW cI t T tn, rW3 r u q d, oW q f, sW cI u U, bW tb B] [5, 0, 1, 2, 3, 4, 6, 7, 8, 9, 10, 11] 12 rfl (by decide) rfl) w
    refine x_callViB (wr := List.flatten [hH cS h (kpA k b) (nI (kpN k)), sW cI ((kpA k b) 0) ((kpG k Hs G) 0), sW cI ((kpA k b) 1) ((kpG k Hs G) 1), sW cI ((kpA k b) 2) ((kpG k Hs G) 2), sW cI ((kpA k b) 3) ((kpG k Hs G) 3), xTop x o h t r tb, tW cI t T tn, rW3 r u q d, oW q f, sW cI u U, bW tb B]) (w2 := List.flatten [sW cI o (tksG G (ix a1)), hH cS h (kpA k b) (nI (kpN k)), sW cI ((kpA k b) 0) ((kpG k Hs G) 0), sW cI ((kpA k b) 1) ((kpG k Hs G) 1), sW cI ((kpA k b) 2) ((kpG k Hs G) 2), sW cI ((kpA k b) 3) ((kpG k Hs G) 3), xTop x o h t r tb, tW cI t T tn, rW3 r u q d, oW q f, sW cI u U, bW tb B]) (rest := []) (n := 1) C w hl [.int a1] (k_X4_passTicks l D cI cS tys ht0 o G a1 ) gX6_tick_X4_passTicks rfl (by decide +kernel) ⟨Nat.le_of_ble_eq_true rfl, Nat.le_of_ble_eq_true rfl⟩ 0 4 rfl rfl rfl rfl (Nat.le_of_ble_eq_true rfl) (List.Perm.refl _) (List.Perm.refl _) ⟨Nat.zero_le _, Nat.zero_le _⟩ dX6_tick_29 (fun H locs w => ?_)
    have w : xW D A s.heap (List.flatten [xTop x o h t r tb, sW cI o (tksG G (ix a1)), hH cS h (kpA k b) (nI (kpN k)), sW cI ((kpA k b) 0) ((kpG k Hs G) 0), sW cI ((kpA k b) 1) ((kpG k Hs G) 1), sW cI ((kpA k b) 2) ((kpG k Hs G) 2), sW cI ((kpA k b) 3) ((kpG k Hs G) 3), tW cI t T tn, rW3 r u q d, oW q f, sW cI u U, bW tb B]) _ _ := x_perm (bl_of [sW cI o (tksG G (ix a1)), hH cS h (kpA k b) (nI (kpN k)), sW cI ((kpA k b) 0) ((kpG k Hs G) 0), sW cI ((kpA k b) 1) ((kpG k Hs G) 1), sW cI ((kpA k b) 2) ((kpG k Hs G) 2), sW cI ((kpA k b) 3) ((kpG k Hs G) 3), xTop x o h t r tb, tW cI t T tn, rW3 r u q d, oW q f, sW cI u U, bW tb B] [xTop x o h t r tb, sW cI o (tksG G (ix a1)), hH cS h (kpA k b) (nI (kpN k)), sW cI ((kpA k b) 0) ((kpG k Hs G) 0), sW cI ((kpA k b) 1) ((kpG k Hs G) 1), sW cI ((kpA k b) 2) ((kpG k Hs G) 2), sW cI ((kpA k b) 3) ((kpG k Hs G) 3), tW cI t T tn, rW3 r u q d, oW q f, sW cI u U, bW tb B] [6, 0, 1, 2, 3, 4, 5, 7, 8, 9, 10, 11] 12 rfl (by decide) rfl) w
    exact x_iret C w rfl rfl dX6_tick_32
  ·
    exact absurd hok c7_1
set_option maxHeartbeats 1000000 in
set_option maxRecDepth 100000 in
theorem k_X6_tick_no (l : Launch) (D : va_G) (cI cS : ClassId) (tys : List (ClassId × FieldType)) (ht0 : tys[0]? = some (cI, .int)) (ht1 : tys[1]? = some (cS, .object RX4)) (x : Nat) (o : Nat → Nat) (h : Nat → Nat) (b : Nat → Nat → Nat) (t : Nat → Nat) (r : Nat) (q : Nat) (u : Nat → Nat) (tb : Nat) (G : St) (k : Nat) (Hs : Nat → St) (T : Nat → Int32) (tn : Int32) (f : Nat → Int32) (d : Int32) (U : St) (B : St) (a1 : Int32) (hno : ¬ wth a1 1 99 = true) : xI l yX6_tick wsX6_tick 5 D tys [.ref x, .int a1] (List.flatten [xTop x o h t r tb, sW cI o G, hH cS h b (nI k), sW cI (b 0) (Hs 0), sW cI (b 1) (Hs 1), sW cI (b 2) (Hs 2), sW cI (b 3) (Hs 3), tW cI t T tn, rW3 r u q d, oW q f, sW cI u U, bW tb B]) (-1000001) (List.flatten [xTop x o h t r tb, sW cI o G, hH cS h b (nI k), sW cI (b 0) (Hs 0), sW cI (b 1) (Hs 1), sW cI (b 2) (Hs 2), sW cI (b 3) (Hs 3), tW cI t T tn, rW3 r u q d, oW q f, sW cI u U, bW tb B]) := by
  refine x_inI (cc := cX6_tick) (maxL := 2) (ret := (some .int)) (by decide) rfl (Nat.le_of_ble_eq_true rfl) ?_
  intro p e s m args below meth c A ls C w hl
  have C : xC p s m meth c args cX6_tick 2 wsX6_tick RX6 D tys (some .int) := C
  have hx := C.1.1
  have hb := C.1.2.1
  have hts := C.1.2.2.2.2
  have hown := C.1.2.2.2.1
  have w : xW D A s.heap (List.flatten [xTop x o h t r tb, sW cI o G, hH cS h b (nI k), sW cI (b 0) (Hs 0), sW cI (b 1) (Hs 1), sW cI (b 2) (Hs 2), sW cI (b 3) (Hs 3), tW cI t T tn, rW3 r u q d, oW q f, sW cI u U, bW tb B]) s.heap [] := w
  have hl : lv_has ls 2 [(0, .ref x), (1, .int a1)] := hl
  refine lv_iload_n hx hb dX6_tick_0 rfl (lv_at hl 1 rfl) ?_
  refine lv_iconst (v := 1) hx hb dX6_tick_1 (by decide +kernel) ?_
  refine lv_bipush (v := 99) hx hb dX6_tick_2 (by decide +kernel) ?_
  refine x_callSiB (wr := List.flatten [xTop x o h t r tb, sW cI o G, hH cS h b (nI k), sW cI (b 0) (Hs 0), sW cI (b 1) (Hs 1), sW cI (b 2) (Hs 2), sW cI (b 3) (Hs 3), tW cI t T tn, rW3 r u q d, oW q f, sW cI u U, bW tb B]) (w2 := List.flatten [xTop x o h t r tb, sW cI o G, hH cS h b (nI k), sW cI (b 0) (Hs 0), sW cI (b 1) (Hs 1), sW cI (b 2) (Hs 2), sW cI (b 3) (Hs 3), tW cI t T tn, rW3 r u q d, oW q f, sW cI u U, bW tb B]) (rest := []) (n := 3) C w hl [.int a1, .int 1, .int 99] (k_X6_isWithin l D cI cS tys ht0 a1 1 99 ) gX6_tick_X6_isWithin rfl (by decide +kernel) ⟨Nat.le_of_ble_eq_true rfl, Nat.le_of_ble_eq_true rfl⟩ rfl rfl (Nat.le_of_ble_eq_true rfl) (List.Perm.refl _) (List.Perm.refl _) ⟨Nat.zero_le _, Nat.zero_le _⟩ dX6_tick_4 (fun H locs w => ?_)
  refine x_ifB_ne (P := wth a1 1 99 = true) (tgt := 13) hx hb dX6_tick_7 (by decide) (fun c7_1 => ?_) (fun c7_1 => ?_)
  ·
    exact absurd c7_1 hno
  ·
    refine lv_ldc (v := -1000001) hx hb hown (hts _ (List.mem_of_getElem? (i := 1) rfl)) dX6_tick_10 ?_
    exact x_iret C w rfl rfl dX6_tick_12
set_option maxHeartbeats 1000000 in
set_option maxRecDepth 100000 in
theorem k_X6_load_ok (l : Launch) (D : va_G) (cI cS : ClassId) (tys : List (ClassId × FieldType)) (ht0 : tys[0]? = some (cI, .int)) (ht1 : tys[1]? = some (cS, .object RX4)) (x : Nat) (o : Nat → Nat) (h : Nat → Nat) (b : Nat → Nat → Nat) (t : Nat → Nat) (r : Nat) (q : Nat) (u : Nat → Nat) (tb : Nat) (G : St) (k : Nat) (Hs : Nat → St) (T : Nat → Int32) (tn : Int32) (f : Nat → Int32) (d : Int32) (U : St) (B : St) (a1 : Int32) (hok : wth a1 1 999 = true) (hk : k ≤ 4) : xI l yX6_load wsX6_load 5 D tys [.ref x, .int a1] (List.flatten [xTop x o h t r tb, sW cI o G, hH cS h b (nI k), sW cI (b 0) (Hs 0), sW cI (b 1) (Hs 1), sW cI (b 2) (Hs 2), sW cI (b 3) (Hs 3), tW cI t T tn, rW3 r u q d, oW q f, sW cI u U, bW tb B]) (tooI (useG G a1)) (List.flatten [xTop x o h t r tb, sW cI o (loaG G a1), hH cS h (kpA k b) (nI (kpN k)), sW cI ((kpA k b) 0) ((kpG k Hs G) 0), sW cI ((kpA k b) 1) ((kpG k Hs G) 1), sW cI ((kpA k b) 2) ((kpG k Hs G) 2), sW cI ((kpA k b) 3) ((kpG k Hs G) 3), tW cI t T tn, rW3 r u q d, oW q f, sW cI u U, bW tb B]) := by
  refine x_inI (cc := cX6_load) (maxL := 2) (ret := (some .int)) (by decide) rfl (Nat.le_of_ble_eq_true rfl) ?_
  intro p e s m args below meth c A ls C w hl
  have C : xC p s m meth c args cX6_load 2 wsX6_load RX6 D tys (some .int) := C
  have hx := C.1.1
  have hb := C.1.2.1
  have hts := C.1.2.2.2.2
  have hown := C.1.2.2.2.1
  have w : xW D A s.heap (List.flatten [xTop x o h t r tb, sW cI o G, hH cS h b (nI k), sW cI (b 0) (Hs 0), sW cI (b 1) (Hs 1), sW cI (b 2) (Hs 2), sW cI (b 3) (Hs 3), tW cI t T tn, rW3 r u q d, oW q f, sW cI u U, bW tb B]) s.heap [] := w
  have hl : lv_has ls 2 [(0, .ref x), (1, .int a1)] := hl
  refine lv_iload_n hx hb dX6_load_0 rfl (lv_at hl 1 rfl) ?_
  refine lv_iconst (v := 1) hx hb dX6_load_1 (by decide +kernel) ?_
  refine lv_sipush (v := 999) hx hb dX6_load_2 (by decide +kernel) ?_
  refine x_callSiB (wr := List.flatten [xTop x o h t r tb, sW cI o G, hH cS h b (nI k), sW cI (b 0) (Hs 0), sW cI (b 1) (Hs 1), sW cI (b 2) (Hs 2), sW cI (b 3) (Hs 3), tW cI t T tn, rW3 r u q d, oW q f, sW cI u U, bW tb B]) (w2 := List.flatten [xTop x o h t r tb, sW cI o G, hH cS h b (nI k), sW cI (b 0) (Hs 0), sW cI (b 1) (Hs 1), sW cI (b 2) (Hs 2), sW cI (b 3) (Hs 3), tW cI t T tn, rW3 r u q d, oW q f, sW cI u U, bW tb B]) (rest := []) (n := 3) C w hl [.int a1, .int 1, .int 999] (k_X6_isWithin l D cI cS tys ht0 a1 1 999 ) gX6_load_X6_isWithin rfl (by decide +kernel) ⟨Nat.le_of_ble_eq_true rfl, Nat.le_of_ble_eq_true rfl⟩ rfl rfl (Nat.le_of_ble_eq_true rfl) (List.Perm.refl _) (List.Perm.refl _) ⟨Nat.zero_le _, Nat.zero_le _⟩ dX6_load_5 (fun H locs w => ?_)
  refine x_ifB_ne (P := wth a1 1 999 = true) (tgt := 14) hx hb dX6_load_8 (by decide) (fun c8_1 => ?_) (fun c8_1 => ?_)
  ·
    refine lv_aload_n hx hb dX6_load_14 rfl (lv_at hl 0 rfl) ?_
    refine x_get (v := .ref (h 0)) (T := TX6) C (x_pc (b := xTop x o h t r tb) w 0 rfl) 0 1 rfl rfl (fun _ h => List.mem_cons_of_mem _ (List.mem_append_left _ (List.mem_append_left _ (List.mem_append_left _ (List.mem_append_right _ (h)))))) (List.mem_of_getElem? (i := 2) rfl) (by decide) rfl dX6_load_15 ?_
    refine lv_aload_n hx hb dX6_load_18 rfl (lv_at hl 0 rfl) ?_
    refine x_get (v := .ref (o 0)) (T := TX6) C (x_pc (b := xTop x o h t r tb) w 0 rfl) 0 0 rfl rfl (fun _ h => List.mem_cons_of_mem _ (List.mem_append_left _ (List.mem_append_left _ (List.mem_append_left _ (List.mem_append_right _ (h)))))) (List.mem_of_getElem? (i := 3) rfl) (by decide) rfl dX6_load_19 ?_
    have w : xW D A s.heap (List.flatten [hH cS h b (nI k), sW cI (b 0) (Hs 0), sW cI (b 1) (Hs 1), sW cI (b 2) (Hs 2), sW cI (b 3) (Hs 3), sW cI o G, xTop x o h t r tb, tW cI t T tn, rW3 r u q d, oW q f, sW cI u U, bW tb B]) _ _ := x_perm (bl_of [xTop x o h t r tb, sW cI o G, hH cS h b (nI k), sW cI (b 0) (Hs 0), sW cI (b 1) (Hs 1), sW cI (b 2) (Hs 2), sW cI (b 3) (Hs 3), tW cI t T tn, rW3 r u q d, oW q f, sW cI u U, bW tb B] [hH cS h b (nI k), sW cI (b 0) (Hs 0), sW cI (b 1) (Hs 1), sW cI (b 2) (Hs 2), sW cI (b 3) (Hs 3), sW cI o G, xTop x o h t r tb, tW cI t T tn, rW3 r u q d, oW q f, sW cI u U, bW tb B] [2, 3, 4, 5, 6, 1, 0, 7, 8, 9, 10, 11] 12 rfl (by decide) rfl) w
    refine x_callVvB (wr := List.flatten [xTop x o h t r tb, tW cI t T tn, rW3 r u q d, oW q f, sW cI u U, bW tb B]) (w2 := List.flatten [hH cS h (kpA k b) (nI (kpN k)), sW cI ((kpA k b) 0) ((kpG k Hs G) 0), sW cI ((kpA k b) 1) ((kpG k Hs G) 1), sW cI ((kpA k b) 2) ((kpG k Hs G) 2), sW cI ((kpA k b) 3) ((kpG k Hs G) 3), sW cI o G, xTop x o h t r tb, tW cI t T tn, rW3 r u q d, oW q f, sW cI u U, bW tb B]) (rest := []) (n := 1) C w hl [.ref (o 0)] (k_X1_keep l D cI cS tys ht0 ht1 h b Hs o G k hk) gX6_load_X1_keep rfl (by decide +kernel) ⟨Nat.le_of_ble_eq_true rfl, Nat.le_of_ble_eq_true rfl⟩ 0 1 rfl rfl rfl rfl (Nat.le_of_ble_eq_true rfl) (List.Perm.of_eq (by simp only [List.flatten_cons, List.flatten_nil, List.append_nil, List.append_assoc, List.nil_append])) (List.Perm.of_eq (by simp only [List.flatten_cons, List.flatten_nil, List.append_nil, List.append_assoc, List.nil_append])) ⟨Nat.zero_le _, Nat.zero_le _⟩ dX6_load_22 (fun H locs w => ?_)
    refine lv_aload_n hx hb dX6_load_25 rfl (lv_at hl 0 rfl) ?_
    refine x_get (v := .ref (o 0)) (T := TX6) C (x_pc (b := xTop x o h t r tb) w 6 rfl) 0 0 rfl rfl (fun _ h => List.mem_cons_of_mem _ (List.mem_append_left _ (List.mem_append_left _ (List.mem_append_left _ (List.mem_append_right _ (h)))))) (List.mem_of_getElem? (i := 3) rfl) (by decide) rfl dX6_load_26 ?_
    refine lv_iload_n hx hb dX6_load_29 rfl (lv_at hl 1 rfl) ?_
    have w : xW D A s.heap (List.flatten [sW cI o G, hH cS h (kpA k b) (nI (kpN k)), sW cI ((kpA k b) 0) ((kpG k Hs G) 0), sW cI ((kpA k b) 1) ((kpG k Hs G) 1), sW cI ((kpA k b) 2) ((kpG k Hs G) 2), sW cI ((kpA k b) 3) ((kpG k Hs G) 3), xTop x o h t r tb, tW cI t T tn, rW3 r u q d, oW q f, sW cI u U, bW tb B]) _ _ := x_perm (bl_of [hH cS h (kpA k b) (nI (kpN k)), sW cI ((kpA k b) 0) ((kpG k Hs G) 0), sW cI ((kpA k b) 1) ((kpG k Hs G) 1), sW cI ((kpA k b) 2) ((kpG k Hs G) 2), sW cI ((kpA k b) 3) ((kpG k Hs G) 3), sW cI o G, xTop x o h t r tb, tW cI t T tn, rW3 r u q d, oW q f, sW cI u U, bW tb B] [sW cI o G, hH cS h (kpA k b) (nI (kpN k)), sW cI ((kpA k b) 0) ((kpG k Hs G) 0), sW cI ((kpA k b) 1) ((kpG k Hs G) 1), sW cI ((kpA k b) 2) ((kpG k Hs G) 2), sW cI ((kpA k b) 3) ((kpG k Hs G) 3), xTop x o h t r tb, tW cI t T tn, rW3 r u q d, oW q f, sW cI u U, bW tb B] [5, 0, 1, 2, 3, 4, 6, 7, 8, 9, 10, 11] 12 rfl (by decide) rfl) w
    refine x_callViB (wr := List.flatten [hH cS h (kpA k b) (nI (kpN k)), sW cI ((kpA k b) 0) ((kpG k Hs G) 0), sW cI ((kpA k b) 1) ((kpG k Hs G) 1), sW cI ((kpA k b) 2) ((kpG k Hs G) 2), sW cI ((kpA k b) 3) ((kpG k Hs G) 3), xTop x o h t r tb, tW cI t T tn, rW3 r u q d, oW q f, sW cI u U, bW tb B]) (w2 := List.flatten [sW cI o (loaG G a1), hH cS h (kpA k b) (nI (kpN k)), sW cI ((kpA k b) 0) ((kpG k Hs G) 0), sW cI ((kpA k b) 1) ((kpG k Hs G) 1), sW cI ((kpA k b) 2) ((kpG k Hs G) 2), sW cI ((kpA k b) 3) ((kpG k Hs G) 3), xTop x o h t r tb, tW cI t T tn, rW3 r u q d, oW q f, sW cI u U, bW tb B]) (rest := []) (n := 1) C w hl [.int a1] (k_X4_putLoad l D cI cS tys ht0 o G a1 ) gX6_load_X4_putLoad rfl (by decide +kernel) ⟨Nat.le_of_ble_eq_true rfl, Nat.le_of_ble_eq_true rfl⟩ 0 4 rfl rfl rfl rfl (Nat.le_of_ble_eq_true rfl) (List.Perm.refl _) (List.Perm.refl _) ⟨Nat.zero_le _, Nat.zero_le _⟩ dX6_load_30 (fun H locs w => ?_)
    have w : xW D A s.heap (List.flatten [xTop x o h t r tb, sW cI o (loaG G a1), hH cS h (kpA k b) (nI (kpN k)), sW cI ((kpA k b) 0) ((kpG k Hs G) 0), sW cI ((kpA k b) 1) ((kpG k Hs G) 1), sW cI ((kpA k b) 2) ((kpG k Hs G) 2), sW cI ((kpA k b) 3) ((kpG k Hs G) 3), tW cI t T tn, rW3 r u q d, oW q f, sW cI u U, bW tb B]) _ _ := x_perm (bl_of [sW cI o (loaG G a1), hH cS h (kpA k b) (nI (kpN k)), sW cI ((kpA k b) 0) ((kpG k Hs G) 0), sW cI ((kpA k b) 1) ((kpG k Hs G) 1), sW cI ((kpA k b) 2) ((kpG k Hs G) 2), sW cI ((kpA k b) 3) ((kpG k Hs G) 3), xTop x o h t r tb, tW cI t T tn, rW3 r u q d, oW q f, sW cI u U, bW tb B] [xTop x o h t r tb, sW cI o (loaG G a1), hH cS h (kpA k b) (nI (kpN k)), sW cI ((kpA k b) 0) ((kpG k Hs G) 0), sW cI ((kpA k b) 1) ((kpG k Hs G) 1), sW cI ((kpA k b) 2) ((kpG k Hs G) 2), sW cI ((kpA k b) 3) ((kpG k Hs G) 3), tW cI t T tn, rW3 r u q d, oW q f, sW cI u U, bW tb B] [6, 0, 1, 2, 3, 4, 5, 7, 8, 9, 10, 11] 12 rfl (by decide) rfl) w
    exact x_iret C w rfl rfl dX6_load_33
  ·
    exact absurd hok c8_1
set_option maxHeartbeats 1000000 in
set_option maxRecDepth 100000 in
theorem k_X6_load_no (l : Launch) (D : va_G) (cI cS : ClassId) (tys : List (ClassId × FieldType)) (ht0 : tys[0]? = some (cI, .int)) (ht1 : tys[1]? = some (cS, .object RX4)) (x : Nat) (o : Nat → Nat) (h : Nat → Nat) (b : Nat → Nat → Nat) (t : Nat → Nat) (r : Nat) (q : Nat) (u : Nat → Nat) (tb : Nat) (G : St) (k : Nat) (Hs : Nat → St) (T : Nat → Int32) (tn : Int32) (f : Nat → Int32) (d : Int32) (U : St) (B : St) (a1 : Int32) (hno : ¬ wth a1 1 999 = true) : xI l yX6_load wsX6_load 5 D tys [.ref x, .int a1] (List.flatten [xTop x o h t r tb, sW cI o G, hH cS h b (nI k), sW cI (b 0) (Hs 0), sW cI (b 1) (Hs 1), sW cI (b 2) (Hs 2), sW cI (b 3) (Hs 3), tW cI t T tn, rW3 r u q d, oW q f, sW cI u U, bW tb B]) (-1000001) (List.flatten [xTop x o h t r tb, sW cI o G, hH cS h b (nI k), sW cI (b 0) (Hs 0), sW cI (b 1) (Hs 1), sW cI (b 2) (Hs 2), sW cI (b 3) (Hs 3), tW cI t T tn, rW3 r u q d, oW q f, sW cI u U, bW tb B]) := by
  refine x_inI (cc := cX6_load) (maxL := 2) (ret := (some .int)) (by decide) rfl (Nat.le_of_ble_eq_true rfl) ?_
  intro p e s m args below meth c A ls C w hl
  have C : xC p s m meth c args cX6_load 2 wsX6_load RX6 D tys (some .int) := C
  have hx := C.1.1
  have hb := C.1.2.1
  have hts := C.1.2.2.2.2
  have hown := C.1.2.2.2.1
  have w : xW D A s.heap (List.flatten [xTop x o h t r tb, sW cI o G, hH cS h b (nI k), sW cI (b 0) (Hs 0), sW cI (b 1) (Hs 1), sW cI (b 2) (Hs 2), sW cI (b 3) (Hs 3), tW cI t T tn, rW3 r u q d, oW q f, sW cI u U, bW tb B]) s.heap [] := w
  have hl : lv_has ls 2 [(0, .ref x), (1, .int a1)] := hl
  refine lv_iload_n hx hb dX6_load_0 rfl (lv_at hl 1 rfl) ?_
  refine lv_iconst (v := 1) hx hb dX6_load_1 (by decide +kernel) ?_
  refine lv_sipush (v := 999) hx hb dX6_load_2 (by decide +kernel) ?_
  refine x_callSiB (wr := List.flatten [xTop x o h t r tb, sW cI o G, hH cS h b (nI k), sW cI (b 0) (Hs 0), sW cI (b 1) (Hs 1), sW cI (b 2) (Hs 2), sW cI (b 3) (Hs 3), tW cI t T tn, rW3 r u q d, oW q f, sW cI u U, bW tb B]) (w2 := List.flatten [xTop x o h t r tb, sW cI o G, hH cS h b (nI k), sW cI (b 0) (Hs 0), sW cI (b 1) (Hs 1), sW cI (b 2) (Hs 2), sW cI (b 3) (Hs 3), tW cI t T tn, rW3 r u q d, oW q f, sW cI u U, bW tb B]) (rest := []) (n := 3) C w hl [.int a1, .int 1, .int 999] (k_X6_isWithin l D cI cS tys ht0 a1 1 999 ) gX6_load_X6_isWithin rfl (by decide +kernel) ⟨Nat.le_of_ble_eq_true rfl, Nat.le_of_ble_eq_true rfl⟩ rfl rfl (Nat.le_of_ble_eq_true rfl) (List.Perm.refl _) (List.Perm.refl _) ⟨Nat.zero_le _, Nat.zero_le _⟩ dX6_load_5 (fun H locs w => ?_)
  refine x_ifB_ne (P := wth a1 1 999 = true) (tgt := 14) hx hb dX6_load_8 (by decide) (fun c8_1 => ?_) (fun c8_1 => ?_)
  ·
    exact absurd c8_1 hno
  ·
    refine lv_ldc (v := -1000001) hx hb hown (hts _ (List.mem_of_getElem? (i := 1) rfl)) dX6_load_11 ?_
    exact x_iret C w rfl rfl dX6_load_13
set_option maxHeartbeats 1000000 in
set_option maxRecDepth 100000 in
theorem k_X6_learn_ok (l : Launch) (D : va_G) (cI cS : ClassId) (tys : List (ClassId × FieldType)) (ht0 : tys[0]? = some (cI, .int)) (ht1 : tys[1]? = some (cS, .object RX4)) (x : Nat) (o : Nat → Nat) (h : Nat → Nat) (b : Nat → Nat → Nat) (t : Nat → Nat) (r : Nat) (q : Nat) (u : Nat → Nat) (tb : Nat) (G : St) (k : Nat) (Hs : Nat → St) (T : Nat → Int32) (tn : Int32) (f : Nat → Int32) (d : Int32) (U : St) (B : St) (hok : G 6 2 = 0) (hk : k ≤ 4) : xI l yX6_learn wsX6_learn 5 D tys [.ref x] (List.flatten [xTop x o h t r tb, sW cI o G, hH cS h b (nI k), sW cI (b 0) (Hs 0), sW cI (b 1) (Hs 1), sW cI (b 2) (Hs 2), sW cI (b 3) (Hs 3), tW cI t T tn, rW3 r u q d, oW q f, sW cI u U, bW tb B]) (tooI (s2 G 6 2 1)) (List.flatten [xTop x o h t r tb, sW cI o (bgcG G), hH cS h (kpA k b) (nI (kpN k)), sW cI ((kpA k b) 0) ((kpG k Hs G) 0), sW cI ((kpA k b) 1) ((kpG k Hs G) 1), sW cI ((kpA k b) 2) ((kpG k Hs G) 2), sW cI ((kpA k b) 3) ((kpG k Hs G) 3), tW cI t T tn, rW3 r u q d, oW q f, sW cI u U, bW tb B]) := by
  refine x_inI (cc := cX6_learn) (maxL := 1) (ret := (some .int)) (by decide) rfl (Nat.le_of_ble_eq_true rfl) ?_
  intro p e s m args below meth c A ls C w hl
  have C : xC p s m meth c args cX6_learn 1 wsX6_learn RX6 D tys (some .int) := C
  have hx := C.1.1
  have hb := C.1.2.1
  have hts := C.1.2.2.2.2
  have hown := C.1.2.2.2.1
  have w : xW D A s.heap (List.flatten [xTop x o h t r tb, sW cI o G, hH cS h b (nI k), sW cI (b 0) (Hs 0), sW cI (b 1) (Hs 1), sW cI (b 2) (Hs 2), sW cI (b 3) (Hs 3), tW cI t T tn, rW3 r u q d, oW q f, sW cI u U, bW tb B]) s.heap [] := w
  have hl : lv_has ls 1 [(0, .ref x)] := hl
  refine lv_aload_n hx hb dX6_learn_0 rfl (lv_at hl 0 rfl) ?_
  refine x_get (v := .ref (o 0)) (T := TX6) C (x_pc (b := xTop x o h t r tb) w 0 rfl) 0 0 rfl rfl (fun _ h => List.mem_cons_of_mem _ (List.mem_append_left _ (List.mem_append_left _ (List.mem_append_left _ (List.mem_append_right _ (h)))))) (List.mem_of_getElem? (i := 1) rfl) (by decide) rfl dX6_learn_1 ?_
  refine x_get (v := .ref (o 1)) (T := TX4) C (x_pc (b := sW cI o G) w 1 rfl) 0 0 rfl rfl (fun _ h => List.mem_cons_of_mem _ (List.mem_append_left _ (List.mem_append_left _ (List.mem_append_right _ (h))))) (List.mem_of_getElem? (i := 2) rfl) (by decide) rfl dX6_learn_4 ?_
  refine x_get (v := .int (G 6 2)) (T := TX0) C (x_pc (b := sW cI o G) w 1 rfl) 1 2 rfl rfl (fun _ h => List.mem_cons_of_mem _ (List.mem_append_left _ (List.mem_append_right _ (h)))) (List.mem_of_getElem? (i := 3) rfl) (by decide) rfl dX6_learn_7 ?_
  refine x_ifR_eq (x := G 6 2) (tgt := 16) hx hb dX6_learn_10 (by decide) (fun c10_1 => ?_) (fun c10_1 => ?_)
  ·
    refine lv_aload_n hx hb dX6_learn_16 rfl (lv_at hl 0 rfl) ?_
    refine x_get (v := .ref (h 0)) (T := TX6) C (x_pc (b := xTop x o h t r tb) w 0 rfl) 0 1 rfl rfl (fun _ h => List.mem_cons_of_mem _ (List.mem_append_left _ (List.mem_append_left _ (List.mem_append_left _ (List.mem_append_right _ (h)))))) (List.mem_of_getElem? (i := 5) rfl) (by decide) rfl dX6_learn_17 ?_
    refine lv_aload_n hx hb dX6_learn_20 rfl (lv_at hl 0 rfl) ?_
    refine x_get (v := .ref (o 0)) (T := TX6) C (x_pc (b := xTop x o h t r tb) w 0 rfl) 0 0 rfl rfl (fun _ h => List.mem_cons_of_mem _ (List.mem_append_left _ (List.mem_append_left _ (List.mem_append_left _ (List.mem_append_right _ (h)))))) (List.mem_of_getElem? (i := 1) rfl) (by decide) rfl dX6_learn_21 ?_
    have w : xW D A s.heap (List.flatten [hH cS h b (nI k), sW cI (b 0) (Hs 0), sW cI (b 1) (Hs 1), sW cI (b 2) (Hs 2), sW cI (b 3) (Hs 3), sW cI o G, xTop x o h t r tb, tW cI t T tn, rW3 r u q d, oW q f, sW cI u U, bW tb B]) _ _ := x_perm (bl_of [xTop x o h t r tb, sW cI o G, hH cS h b (nI k), sW cI (b 0) (Hs 0), sW cI (b 1) (Hs 1), sW cI (b 2) (Hs 2), sW cI (b 3) (Hs 3), tW cI t T tn, rW3 r u q d, oW q f, sW cI u U, bW tb B] [hH cS h b (nI k), sW cI (b 0) (Hs 0), sW cI (b 1) (Hs 1), sW cI (b 2) (Hs 2), sW cI (b 3) (Hs 3), sW cI o G, xTop x o h t r tb, tW cI t T tn, rW3 r u q d, oW q f, sW cI u U, bW tb B] [2, 3, 4, 5, 6, 1, 0, 7, 8, 9, 10, 11] 12 rfl (by decide) rfl) w
    refine x_callVvB (wr := List.flatten [xTop x o h t r tb, tW cI t T tn, rW3 r u q d, oW q f, sW cI u U, bW tb B]) (w2 := List.flatten [hH cS h (kpA k b) (nI (kpN k)), sW cI ((kpA k b) 0) ((kpG k Hs G) 0), sW cI ((kpA k b) 1) ((kpG k Hs G) 1), sW cI ((kpA k b) 2) ((kpG k Hs G) 2), sW cI ((kpA k b) 3) ((kpG k Hs G) 3), sW cI o G, xTop x o h t r tb, tW cI t T tn, rW3 r u q d, oW q f, sW cI u U, bW tb B]) (rest := []) (n := 1) C w hl [.ref (o 0)] (k_X1_keep l D cI cS tys ht0 ht1 h b Hs o G k hk) gX6_learn_X1_keep rfl (by decide +kernel) ⟨Nat.le_of_ble_eq_true rfl, Nat.le_of_ble_eq_true rfl⟩ 0 1 rfl rfl rfl rfl (Nat.le_of_ble_eq_true rfl) (List.Perm.of_eq (by simp only [List.flatten_cons, List.flatten_nil, List.append_nil, List.append_assoc, List.nil_append])) (List.Perm.of_eq (by simp only [List.flatten_cons, List.flatten_nil, List.append_nil, List.append_assoc, List.nil_append])) ⟨Nat.zero_le _, Nat.zero_le _⟩ dX6_learn_24 (fun H locs w => ?_)
    refine lv_aload_n hx hb dX6_learn_27 rfl (lv_at hl 0 rfl) ?_
    refine x_get (v := .ref (o 0)) (T := TX6) C (x_pc (b := xTop x o h t r tb) w 6 rfl) 0 0 rfl rfl (fun _ h => List.mem_cons_of_mem _ (List.mem_append_left _ (List.mem_append_left _ (List.mem_append_left _ (List.mem_append_right _ (h)))))) (List.mem_of_getElem? (i := 1) rfl) (by decide) rfl dX6_learn_28 ?_
    have w : xW D A s.heap (List.flatten [sW cI o G, hH cS h (kpA k b) (nI (kpN k)), sW cI ((kpA k b) 0) ((kpG k Hs G) 0), sW cI ((kpA k b) 1) ((kpG k Hs G) 1), sW cI ((kpA k b) 2) ((kpG k Hs G) 2), sW cI ((kpA k b) 3) ((kpG k Hs G) 3), xTop x o h t r tb, tW cI t T tn, rW3 r u q d, oW q f, sW cI u U, bW tb B]) _ _ := x_perm (bl_of [hH cS h (kpA k b) (nI (kpN k)), sW cI ((kpA k b) 0) ((kpG k Hs G) 0), sW cI ((kpA k b) 1) ((kpG k Hs G) 1), sW cI ((kpA k b) 2) ((kpG k Hs G) 2), sW cI ((kpA k b) 3) ((kpG k Hs G) 3), sW cI o G, xTop x o h t r tb, tW cI t T tn, rW3 r u q d, oW q f, sW cI u U, bW tb B] [sW cI o G, hH cS h (kpA k b) (nI (kpN k)), sW cI ((kpA k b) 0) ((kpG k Hs G) 0), sW cI ((kpA k b) 1) ((kpG k Hs G) 1), sW cI ((kpA k b) 2) ((kpG k Hs G) 2), sW cI ((kpA k b) 3) ((kpG k Hs G) 3), xTop x o h t r tb, tW cI t T tn, rW3 r u q d, oW q f, sW cI u U, bW tb B] [5, 0, 1, 2, 3, 4, 6, 7, 8, 9, 10, 11] 12 rfl (by decide) rfl) w
    refine x_callViB (wr := List.flatten [hH cS h (kpA k b) (nI (kpN k)), sW cI ((kpA k b) 0) ((kpG k Hs G) 0), sW cI ((kpA k b) 1) ((kpG k Hs G) 1), sW cI ((kpA k b) 2) ((kpG k Hs G) 2), sW cI ((kpA k b) 3) ((kpG k Hs G) 3), xTop x o h t r tb, tW cI t T tn, rW3 r u q d, oW q f, sW cI u U, bW tb B]) (w2 := List.flatten [sW cI o (bgcG G), hH cS h (kpA k b) (nI (kpN k)), sW cI ((kpA k b) 0) ((kpG k Hs G) 0), sW cI ((kpA k b) 1) ((kpG k Hs G) 1), sW cI ((kpA k b) 2) ((kpG k Hs G) 2), sW cI ((kpA k b) 3) ((kpG k Hs G) 3), xTop x o h t r tb, tW cI t T tn, rW3 r u q d, oW q f, sW cI u U, bW tb B]) (rest := []) (n := 0) C w hl [] (k_X4_beginCycle l D cI cS tys ht0 o G ) gX6_learn_X4_beginCycle rfl (by decide +kernel) ⟨Nat.le_of_ble_eq_true rfl, Nat.le_of_ble_eq_true rfl⟩ 0 4 rfl rfl rfl rfl (Nat.le_of_ble_eq_true rfl) (List.Perm.refl _) (List.Perm.refl _) ⟨Nat.zero_le _, Nat.zero_le _⟩ dX6_learn_31 (fun H locs w => ?_)
    have w : xW D A s.heap (List.flatten [xTop x o h t r tb, sW cI o (bgcG G), hH cS h (kpA k b) (nI (kpN k)), sW cI ((kpA k b) 0) ((kpG k Hs G) 0), sW cI ((kpA k b) 1) ((kpG k Hs G) 1), sW cI ((kpA k b) 2) ((kpG k Hs G) 2), sW cI ((kpA k b) 3) ((kpG k Hs G) 3), tW cI t T tn, rW3 r u q d, oW q f, sW cI u U, bW tb B]) _ _ := x_perm (bl_of [sW cI o (bgcG G), hH cS h (kpA k b) (nI (kpN k)), sW cI ((kpA k b) 0) ((kpG k Hs G) 0), sW cI ((kpA k b) 1) ((kpG k Hs G) 1), sW cI ((kpA k b) 2) ((kpG k Hs G) 2), sW cI ((kpA k b) 3) ((kpG k Hs G) 3), xTop x o h t r tb, tW cI t T tn, rW3 r u q d, oW q f, sW cI u U, bW tb B] [xTop x o h t r tb, sW cI o (bgcG G), hH cS h (kpA k b) (nI (kpN k)), sW cI ((kpA k b) 0) ((kpG k Hs G) 0), sW cI ((kpA k b) 1) ((kpG k Hs G) 1), sW cI ((kpA k b) 2) ((kpG k Hs G) 2), sW cI ((kpA k b) 3) ((kpG k Hs G) 3), tW cI t T tn, rW3 r u q d, oW q f, sW cI u U, bW tb B] [6, 0, 1, 2, 3, 4, 5, 7, 8, 9, 10, 11] 12 rfl (by decide) rfl) w
    exact x_iret C w rfl rfl dX6_learn_34
  ·
    exact absurd hok c10_1
set_option maxHeartbeats 1000000 in
set_option maxRecDepth 100000 in
theorem k_X6_learn_np (l : Launch) (D : va_G) (cI cS : ClassId) (tys : List (ClassId × FieldType)) (ht0 : tys[0]? = some (cI, .int)) (ht1 : tys[1]? = some (cS, .object RX4)) (x : Nat) (o : Nat → Nat) (h : Nat → Nat) (b : Nat → Nat → Nat) (t : Nat → Nat) (r : Nat) (q : Nat) (u : Nat → Nat) (tb : Nat) (G : St) (k : Nat) (Hs : Nat → St) (T : Nat → Int32) (tn : Int32) (f : Nat → Int32) (d : Int32) (U : St) (B : St) (hno : ¬ G 6 2 = 0) : xI l yX6_learn wsX6_learn 5 D tys [.ref x] (List.flatten [xTop x o h t r tb, sW cI o G, hH cS h b (nI k), sW cI (b 0) (Hs 0), sW cI (b 1) (Hs 1), sW cI (b 2) (Hs 2), sW cI (b 3) (Hs 3), tW cI t T tn, rW3 r u q d, oW q f, sW cI u U, bW tb B]) (-1000002) (List.flatten [xTop x o h t r tb, sW cI o G, hH cS h b (nI k), sW cI (b 0) (Hs 0), sW cI (b 1) (Hs 1), sW cI (b 2) (Hs 2), sW cI (b 3) (Hs 3), tW cI t T tn, rW3 r u q d, oW q f, sW cI u U, bW tb B]) := by
  refine x_inI (cc := cX6_learn) (maxL := 1) (ret := (some .int)) (by decide) rfl (Nat.le_of_ble_eq_true rfl) ?_
  intro p e s m args below meth c A ls C w hl
  have C : xC p s m meth c args cX6_learn 1 wsX6_learn RX6 D tys (some .int) := C
  have hx := C.1.1
  have hb := C.1.2.1
  have hts := C.1.2.2.2.2
  have hown := C.1.2.2.2.1
  have w : xW D A s.heap (List.flatten [xTop x o h t r tb, sW cI o G, hH cS h b (nI k), sW cI (b 0) (Hs 0), sW cI (b 1) (Hs 1), sW cI (b 2) (Hs 2), sW cI (b 3) (Hs 3), tW cI t T tn, rW3 r u q d, oW q f, sW cI u U, bW tb B]) s.heap [] := w
  have hl : lv_has ls 1 [(0, .ref x)] := hl
  refine lv_aload_n hx hb dX6_learn_0 rfl (lv_at hl 0 rfl) ?_
  refine x_get (v := .ref (o 0)) (T := TX6) C (x_pc (b := xTop x o h t r tb) w 0 rfl) 0 0 rfl rfl (fun _ h => List.mem_cons_of_mem _ (List.mem_append_left _ (List.mem_append_left _ (List.mem_append_left _ (List.mem_append_right _ (h)))))) (List.mem_of_getElem? (i := 1) rfl) (by decide) rfl dX6_learn_1 ?_
  refine x_get (v := .ref (o 1)) (T := TX4) C (x_pc (b := sW cI o G) w 1 rfl) 0 0 rfl rfl (fun _ h => List.mem_cons_of_mem _ (List.mem_append_left _ (List.mem_append_left _ (List.mem_append_right _ (h))))) (List.mem_of_getElem? (i := 2) rfl) (by decide) rfl dX6_learn_4 ?_
  refine x_get (v := .int (G 6 2)) (T := TX0) C (x_pc (b := sW cI o G) w 1 rfl) 1 2 rfl rfl (fun _ h => List.mem_cons_of_mem _ (List.mem_append_left _ (List.mem_append_right _ (h)))) (List.mem_of_getElem? (i := 3) rfl) (by decide) rfl dX6_learn_7 ?_
  refine x_ifR_eq (x := G 6 2) (tgt := 16) hx hb dX6_learn_10 (by decide) (fun c10_1 => ?_) (fun c10_1 => ?_)
  ·
    exact absurd c10_1 hno
  ·
    refine lv_ldc (v := -1000002) hx hb hown (hts _ (List.mem_of_getElem? (i := 4) rfl)) dX6_learn_13 ?_
    exact x_iret C w rfl rfl dX6_learn_15
set_option maxHeartbeats 1000000 in
set_option maxRecDepth 100000 in
theorem k_X6_cut (l : Launch) (D : va_G) (cI cS : ClassId) (tys : List (ClassId × FieldType)) (ht0 : tys[0]? = some (cI, .int)) (ht1 : tys[1]? = some (cS, .object RX4)) (x : Nat) (o : Nat → Nat) (h : Nat → Nat) (b : Nat → Nat → Nat) (t : Nat → Nat) (r : Nat) (q : Nat) (u : Nat → Nat) (tb : Nat) (G : St) (k : Nat) (Hs : Nat → St) (T : Nat → Int32) (tn : Int32) (f : Nat → Int32) (d : Int32) (U : St) (B : St) (hk : k ≤ 4) : xI l yX6_cut wsX6_cut 5 D tys [.ref x] (List.flatten [xTop x o h t r tb, sW cI o G, hH cS h b (nI k), sW cI (b 0) (Hs 0), sW cI (b 1) (Hs 1), sW cI (b 2) (Hs 2), sW cI (b 3) (Hs 3), tW cI t T tn, rW3 r u q d, oW q f, sW cI u U, bW tb B]) (cutI G) (List.flatten [xTop x o h t r tb, sW cI o (cutG G), hH cS h (kpA k b) (nI (kpN k)), sW cI ((kpA k b) 0) ((kpG k Hs G) 0), sW cI ((kpA k b) 1) ((kpG k Hs G) 1), sW cI ((kpA k b) 2) ((kpG k Hs G) 2), sW cI ((kpA k b) 3) ((kpG k Hs G) 3), tW cI t T tn, rW3 r u q d, oW q f, sW cI u U, bW tb B]) := by
  refine x_inI (cc := cX6_cut) (maxL := 1) (ret := (some .int)) (by decide) rfl (Nat.le_of_ble_eq_true rfl) ?_
  intro p e s m args below meth c A ls C w hl
  have C : xC p s m meth c args cX6_cut 1 wsX6_cut RX6 D tys (some .int) := C
  have hx := C.1.1
  have hb := C.1.2.1
  have hts := C.1.2.2.2.2
  have hown := C.1.2.2.2.1
  have w : xW D A s.heap (List.flatten [xTop x o h t r tb, sW cI o G, hH cS h b (nI k), sW cI (b 0) (Hs 0), sW cI (b 1) (Hs 1), sW cI (b 2) (Hs 2), sW cI (b 3) (Hs 3), tW cI t T tn, rW3 r u q d, oW q f, sW cI u U, bW tb B]) s.heap [] := w
  have hl : lv_has ls 1 [(0, .ref x)] := hl
  refine lv_aload_n hx hb dX6_cut_0 rfl (lv_at hl 0 rfl) ?_
  refine x_get (v := .ref (h 0)) (T := TX6) C (x_pc (b := xTop x o h t r tb) w 0 rfl) 0 1 rfl rfl (fun _ h => List.mem_cons_of_mem _ (List.mem_append_left _ (List.mem_append_left _ (List.mem_append_left _ (List.mem_append_right _ (h)))))) (List.mem_of_getElem? (i := 1) rfl) (by decide) rfl dX6_cut_1 ?_
  refine lv_aload_n hx hb dX6_cut_4 rfl (lv_at hl 0 rfl) ?_
  refine x_get (v := .ref (o 0)) (T := TX6) C (x_pc (b := xTop x o h t r tb) w 0 rfl) 0 0 rfl rfl (fun _ h => List.mem_cons_of_mem _ (List.mem_append_left _ (List.mem_append_left _ (List.mem_append_left _ (List.mem_append_right _ (h)))))) (List.mem_of_getElem? (i := 2) rfl) (by decide) rfl dX6_cut_5 ?_
  have w : xW D A s.heap (List.flatten [hH cS h b (nI k), sW cI (b 0) (Hs 0), sW cI (b 1) (Hs 1), sW cI (b 2) (Hs 2), sW cI (b 3) (Hs 3), sW cI o G, xTop x o h t r tb, tW cI t T tn, rW3 r u q d, oW q f, sW cI u U, bW tb B]) _ _ := x_perm (bl_of [xTop x o h t r tb, sW cI o G, hH cS h b (nI k), sW cI (b 0) (Hs 0), sW cI (b 1) (Hs 1), sW cI (b 2) (Hs 2), sW cI (b 3) (Hs 3), tW cI t T tn, rW3 r u q d, oW q f, sW cI u U, bW tb B] [hH cS h b (nI k), sW cI (b 0) (Hs 0), sW cI (b 1) (Hs 1), sW cI (b 2) (Hs 2), sW cI (b 3) (Hs 3), sW cI o G, xTop x o h t r tb, tW cI t T tn, rW3 r u q d, oW q f, sW cI u U, bW tb B] [2, 3, 4, 5, 6, 1, 0, 7, 8, 9, 10, 11] 12 rfl (by decide) rfl) w
  refine x_callVvB (wr := List.flatten [xTop x o h t r tb, tW cI t T tn, rW3 r u q d, oW q f, sW cI u U, bW tb B]) (w2 := List.flatten [hH cS h (kpA k b) (nI (kpN k)), sW cI ((kpA k b) 0) ((kpG k Hs G) 0), sW cI ((kpA k b) 1) ((kpG k Hs G) 1), sW cI ((kpA k b) 2) ((kpG k Hs G) 2), sW cI ((kpA k b) 3) ((kpG k Hs G) 3), sW cI o G, xTop x o h t r tb, tW cI t T tn, rW3 r u q d, oW q f, sW cI u U, bW tb B]) (rest := []) (n := 1) C w hl [.ref (o 0)] (k_X1_keep l D cI cS tys ht0 ht1 h b Hs o G k hk) gX6_cut_X1_keep rfl (by decide +kernel) ⟨Nat.le_of_ble_eq_true rfl, Nat.le_of_ble_eq_true rfl⟩ 0 1 rfl rfl rfl rfl (Nat.le_of_ble_eq_true rfl) (List.Perm.of_eq (by simp only [List.flatten_cons, List.flatten_nil, List.append_nil, List.append_assoc, List.nil_append])) (List.Perm.of_eq (by simp only [List.flatten_cons, List.flatten_nil, List.append_nil, List.append_assoc, List.nil_append])) ⟨Nat.zero_le _, Nat.zero_le _⟩ dX6_cut_8 (fun H locs w => ?_)
  refine lv_aload_n hx hb dX6_cut_11 rfl (lv_at hl 0 rfl) ?_
  refine x_get (v := .ref (o 0)) (T := TX6) C (x_pc (b := xTop x o h t r tb) w 6 rfl) 0 0 rfl rfl (fun _ h => List.mem_cons_of_mem _ (List.mem_append_left _ (List.mem_append_left _ (List.mem_append_left _ (List.mem_append_right _ (h)))))) (List.mem_of_getElem? (i := 2) rfl) (by decide) rfl dX6_cut_12 ?_
  have w : xW D A s.heap (List.flatten [sW cI o G, hH cS h (kpA k b) (nI (kpN k)), sW cI ((kpA k b) 0) ((kpG k Hs G) 0), sW cI ((kpA k b) 1) ((kpG k Hs G) 1), sW cI ((kpA k b) 2) ((kpG k Hs G) 2), sW cI ((kpA k b) 3) ((kpG k Hs G) 3), xTop x o h t r tb, tW cI t T tn, rW3 r u q d, oW q f, sW cI u U, bW tb B]) _ _ := x_perm (bl_of [hH cS h (kpA k b) (nI (kpN k)), sW cI ((kpA k b) 0) ((kpG k Hs G) 0), sW cI ((kpA k b) 1) ((kpG k Hs G) 1), sW cI ((kpA k b) 2) ((kpG k Hs G) 2), sW cI ((kpA k b) 3) ((kpG k Hs G) 3), sW cI o G, xTop x o h t r tb, tW cI t T tn, rW3 r u q d, oW q f, sW cI u U, bW tb B] [sW cI o G, hH cS h (kpA k b) (nI (kpN k)), sW cI ((kpA k b) 0) ((kpG k Hs G) 0), sW cI ((kpA k b) 1) ((kpG k Hs G) 1), sW cI ((kpA k b) 2) ((kpG k Hs G) 2), sW cI ((kpA k b) 3) ((kpG k Hs G) 3), xTop x o h t r tb, tW cI t T tn, rW3 r u q d, oW q f, sW cI u U, bW tb B] [5, 0, 1, 2, 3, 4, 6, 7, 8, 9, 10, 11] 12 rfl (by decide) rfl) w
  refine x_callViB (wr := List.flatten [hH cS h (kpA k b) (nI (kpN k)), sW cI ((kpA k b) 0) ((kpG k Hs G) 0), sW cI ((kpA k b) 1) ((kpG k Hs G) 1), sW cI ((kpA k b) 2) ((kpG k Hs G) 2), sW cI ((kpA k b) 3) ((kpG k Hs G) 3), xTop x o h t r tb, tW cI t T tn, rW3 r u q d, oW q f, sW cI u U, bW tb B]) (w2 := List.flatten [sW cI o (cutG G), hH cS h (kpA k b) (nI (kpN k)), sW cI ((kpA k b) 0) ((kpG k Hs G) 0), sW cI ((kpA k b) 1) ((kpG k Hs G) 1), sW cI ((kpA k b) 2) ((kpG k Hs G) 2), sW cI ((kpA k b) 3) ((kpG k Hs G) 3), xTop x o h t r tb, tW cI t T tn, rW3 r u q d, oW q f, sW cI u U, bW tb B]) (rest := []) (n := 0) C w hl [] (k_X4_cutPower l D cI cS tys ht0 o G ) gX6_cut_X4_cutPower rfl (by decide +kernel) ⟨Nat.le_of_ble_eq_true rfl, Nat.le_of_ble_eq_true rfl⟩ 0 4 rfl rfl rfl rfl (Nat.le_of_ble_eq_true rfl) (List.Perm.refl _) (List.Perm.refl _) ⟨Nat.zero_le _, Nat.zero_le _⟩ dX6_cut_15 (fun H locs w => ?_)
  have w : xW D A s.heap (List.flatten [xTop x o h t r tb, sW cI o (cutG G), hH cS h (kpA k b) (nI (kpN k)), sW cI ((kpA k b) 0) ((kpG k Hs G) 0), sW cI ((kpA k b) 1) ((kpG k Hs G) 1), sW cI ((kpA k b) 2) ((kpG k Hs G) 2), sW cI ((kpA k b) 3) ((kpG k Hs G) 3), tW cI t T tn, rW3 r u q d, oW q f, sW cI u U, bW tb B]) _ _ := x_perm (bl_of [sW cI o (cutG G), hH cS h (kpA k b) (nI (kpN k)), sW cI ((kpA k b) 0) ((kpG k Hs G) 0), sW cI ((kpA k b) 1) ((kpG k Hs G) 1), sW cI ((kpA k b) 2) ((kpG k Hs G) 2), sW cI ((kpA k b) 3) ((kpG k Hs G) 3), xTop x o h t r tb, tW cI t T tn, rW3 r u q d, oW q f, sW cI u U, bW tb B] [xTop x o h t r tb, sW cI o (cutG G), hH cS h (kpA k b) (nI (kpN k)), sW cI ((kpA k b) 0) ((kpG k Hs G) 0), sW cI ((kpA k b) 1) ((kpG k Hs G) 1), sW cI ((kpA k b) 2) ((kpG k Hs G) 2), sW cI ((kpA k b) 3) ((kpG k Hs G) 3), tW cI t T tn, rW3 r u q d, oW q f, sW cI u U, bW tb B] [6, 0, 1, 2, 3, 4, 5, 7, 8, 9, 10, 11] 12 rfl (by decide) rfl) w
  exact x_iret C w rfl rfl dX6_cut_18
set_option maxHeartbeats 1000000 in
set_option maxRecDepth 100000 in
theorem k_X6_lineOf (l : Launch) (D : va_G) (cI cS : ClassId) (tys : List (ClassId × FieldType)) (ht0 : tys[0]? = some (cI, .int)) (ht1 : tys[1]? = some (cS, .object RX4)) (x : Nat) (o : Nat → Nat) (h : Nat → Nat) (b : Nat → Nat → Nat) (t : Nat → Nat) (r : Nat) (q : Nat) (u : Nat → Nat) (tb : Nat) (G : St) (k : Nat) (Hs : Nat → St) (T : Nat → Int32) (tn : Int32) (f : Nat → Int32) (d : Int32) (U : St) (B : St) (a1 : Int32) (a2 : Int32)  : xI l yX6_lineOf wsX6_lineOf 2 D tys [.ref x, .int a1, .int a2] (List.flatten [xTop x o h t r tb, sW cI o G, hH cS h b (nI k), sW cI (b 0) (Hs 0), sW cI (b 1) (Hs 1), sW cI (b 2) (Hs 2), sW cI (b 3) (Hs 3), tW cI t T tn, rW3 r u q d, oW q f, sW cI u U, bW tb B]) (lofI G a1 a2) (List.flatten [xTop x o h t r tb, sW cI o G, hH cS h b (nI k), sW cI (b 0) (Hs 0), sW cI (b 1) (Hs 1), sW cI (b 2) (Hs 2), sW cI (b 3) (Hs 3), tW cI t T tn, rW3 r u q d, oW q f, sW cI u U, bW tb B]) := by
  refine x_inI (cc := cX6_lineOf) (maxL := 3) (ret := (some .int)) (by decide) rfl (Nat.le_of_ble_eq_true rfl) ?_
  intro p e s m args below meth c A ls C w hl
  have C : xC p s m meth c args cX6_lineOf 3 wsX6_lineOf RX6 D tys (some .int) := C
  have hx := C.1.1
  have hb := C.1.2.1
  have hts := C.1.2.2.2.2
  have hown := C.1.2.2.2.1
  have w : xW D A s.heap (List.flatten [xTop x o h t r tb, sW cI o G, hH cS h b (nI k), sW cI (b 0) (Hs 0), sW cI (b 1) (Hs 1), sW cI (b 2) (Hs 2), sW cI (b 3) (Hs 3), tW cI t T tn, rW3 r u q d, oW q f, sW cI u U, bW tb B]) s.heap [] := w
  have hl : lv_has ls 3 [(0, .ref x), (1, .int a1), (2, .int a2)] := hl
  refine lv_iload_n hx hb dX6_lineOf_0 rfl (lv_at hl 1 rfl) ?_
  refine x_callSiB (wr := List.flatten [xTop x o h t r tb, sW cI o G, hH cS h b (nI k), sW cI (b 0) (Hs 0), sW cI (b 1) (Hs 1), sW cI (b 2) (Hs 2), sW cI (b 3) (Hs 3), tW cI t T tn, rW3 r u q d, oW q f, sW cI u U, bW tb B]) (w2 := List.flatten [xTop x o h t r tb, sW cI o G, hH cS h b (nI k), sW cI (b 0) (Hs 0), sW cI (b 1) (Hs 1), sW cI (b 2) (Hs 2), sW cI (b 3) (Hs 3), tW cI t T tn, rW3 r u q d, oW q f, sW cI u U, bW tb B]) (rest := []) (n := 1) C w hl [.int a1] (k_X6_isLine l D cI cS tys ht0 a1 ) gX6_lineOf_X6_isLine rfl (by decide +kernel) ⟨Nat.le_of_ble_eq_true rfl, Nat.le_of_ble_eq_true rfl⟩ rfl rfl (Nat.le_of_ble_eq_true rfl) (List.Perm.refl _) (List.Perm.refl _) ⟨Nat.zero_le _, Nat.zero_le _⟩ dX6_lineOf_1 (fun H locs w => ?_)
  refine x_ifB_eq (P := rg a1 8 = true) (tgt := 16) hx hb dX6_lineOf_4 (by decide) (fun c4_1 => ?_) (fun c4_1 => ?_)
  ·
    refine lv_ldc (v := -1000001) hx hb hown (hts _ (List.mem_of_getElem? (i := 1) rfl)) dX6_lineOf_16 ?_
    exact x_iret C w (by unfold lofI; simp only [if_neg c4_1]) rfl dX6_lineOf_18
  ·
    refine lv_iload_n hx hb dX6_lineOf_7 rfl (lv_at hl 2 rfl) ?_
    refine lv_iconst (v := 0) hx hb dX6_lineOf_8 (by decide +kernel) ?_
    refine lv_iconst (v := 4) hx hb dX6_lineOf_9 (by decide +kernel) ?_
    refine x_callSiB (wr := List.flatten [xTop x o h t r tb, sW cI o G, hH cS h b (nI k), sW cI (b 0) (Hs 0), sW cI (b 1) (Hs 1), sW cI (b 2) (Hs 2), sW cI (b 3) (Hs 3), tW cI t T tn, rW3 r u q d, oW q f, sW cI u U, bW tb B]) (w2 := List.flatten [xTop x o h t r tb, sW cI o G, hH cS h b (nI k), sW cI (b 0) (Hs 0), sW cI (b 1) (Hs 1), sW cI (b 2) (Hs 2), sW cI (b 3) (Hs 3), tW cI t T tn, rW3 r u q d, oW q f, sW cI u U, bW tb B]) (rest := []) (n := 3) C w hl [.int a2, .int 0, .int 4] (k_X6_isWithin l D cI cS tys ht0 a2 0 4 ) gX6_lineOf_X6_isWithin rfl (by decide +kernel) ⟨Nat.le_of_ble_eq_true rfl, Nat.le_of_ble_eq_true rfl⟩ rfl rfl (Nat.le_of_ble_eq_true rfl) (List.Perm.refl _) (List.Perm.refl _) ⟨Nat.zero_le _, Nat.zero_le _⟩ dX6_lineOf_10 (fun H locs w => ?_)
    refine x_ifB_ne (P := wth a2 0 4 = true) (tgt := 19) hx hb dX6_lineOf_13 (by decide) (fun c13_2 => ?_) (fun c13_2 => ?_)
    ·
      refine lv_iload_n hx hb dX6_lineOf_19 rfl (lv_at hl 2 rfl) ?_
      refine x_ifR_ne (x := a2) (tgt := 33) hx hb dX6_lineOf_20 (by decide) (fun c20_3 => ?_) (fun c20_3 => ?_)
      ·
        refine lv_aload_n hx hb dX6_lineOf_33 rfl (lv_at hl 0 rfl) ?_
        refine x_get (v := .ref (o 0)) (T := TX6) C (x_pc (b := xTop x o h t r tb) w 0 rfl) 0 0 rfl rfl (fun _ h => List.mem_cons_of_mem _ (List.mem_append_left _ (List.mem_append_right _ (h)))) (List.mem_of_getElem? (i := 2) rfl) (by decide) rfl dX6_lineOf_34 ?_
        refine x_get (v := .ref (o 4)) (T := TX4) C (x_pc (b := sW cI o G) w 1 rfl) 0 3 rfl rfl (fun _ h => List.mem_cons_of_mem _ (List.mem_append_right _ (h))) (List.mem_of_getElem? (i := 3) rfl) (by decide) rfl dX6_lineOf_37 ?_
        refine lv_iload_n hx hb dX6_lineOf_40 rfl (lv_at hl 1 rfl) ?_
        refine x_ialdR (v := G 2 (ix a1)) C (x_pc (b := sW cI o G) w 1 rfl) 4 0 rfl ht0 (rg_in (n := 8) rfl (by decide) c4_1) rfl dX6_lineOf_41 ?_
        refine x_ifR_ne (x := G 2 (ix a1)) (tgt := 48) hx hb dX6_lineOf_42 (by decide) (fun c42_4 => ?_) (fun c42_4 => ?_)
        ·
          refine lv_iload_n hx hb dX6_lineOf_48 rfl (lv_at hl 2 rfl) ?_
          by_cases c49_5 : a2 = (1 : Int32)
          ·
            refine x_top (y := 1) c49_5 ?_
            refine lv_tableIn (x := 1) (off := 27) (tgt := 76) hx hb dX6_lineOf_49 (by decide) (by decide) rfl (by decide) ?_
            refine lv_aload_n hx hb dX6_lineOf_76 rfl (lv_at hl 0 rfl) ?_
            refine x_get (v := .ref (o 0)) (T := TX6) C (x_pc (b := xTop x o h t r tb) w 0 rfl) 0 0 rfl rfl (fun _ h => List.mem_cons_of_mem _ (List.mem_append_left _ (List.mem_append_right _ (h)))) (List.mem_of_getElem? (i := 2) rfl) (by decide) rfl dX6_lineOf_77 ?_
            refine x_get (v := .ref (o 5)) (T := TX4) C (x_pc (b := sW cI o G) w 1 rfl) 0 4 rfl rfl (fun _ h => List.mem_cons_of_mem _ (List.mem_append_right _ (h))) (List.mem_of_getElem? (i := 5) rfl) (by decide) rfl dX6_lineOf_80 ?_
            refine lv_iload_n hx hb dX6_lineOf_83 rfl (lv_at hl 1 rfl) ?_
            refine x_ialdR (v := G 3 (ix a1)) C (x_pc (b := sW cI o G) w 1 rfl) 5 0 rfl ht0 (rg_in (n := 8) rfl (by decide) c4_1) rfl dX6_lineOf_84 ?_
            exact x_iret C w (by unfold lofI; simp only [if_pos c4_1, if_pos c13_2, if_neg c20_3, if_neg c42_4, if_pos c49_5]) rfl dX6_lineOf_85
          ·
            by_cases c49_6 : a2 = (2 : Int32)
            ·
              refine x_top (y := 2) c49_6 ?_
              refine lv_tableIn (x := 2) (off := 37) (tgt := 86) hx hb dX6_lineOf_49 (by decide) (by decide) rfl (by decide) ?_
              refine lv_aload_n hx hb dX6_lineOf_86 rfl (lv_at hl 0 rfl) ?_
              refine x_get (v := .ref (o 0)) (T := TX6) C (x_pc (b := xTop x o h t r tb) w 0 rfl) 0 0 rfl rfl (fun _ h => List.mem_cons_of_mem _ (List.mem_append_left _ (List.mem_append_right _ (h)))) (List.mem_of_getElem? (i := 2) rfl) (by decide) rfl dX6_lineOf_87 ?_
              refine x_get (v := .ref (o 6)) (T := TX4) C (x_pc (b := sW cI o G) w 1 rfl) 0 5 rfl rfl (fun _ h => List.mem_cons_of_mem _ (List.mem_append_right _ (h))) (List.mem_of_getElem? (i := 6) rfl) (by decide) rfl dX6_lineOf_90 ?_
              refine lv_iload_n hx hb dX6_lineOf_93 rfl (lv_at hl 1 rfl) ?_
              refine x_ialdR (v := G 4 (ix a1)) C (x_pc (b := sW cI o G) w 1 rfl) 6 0 rfl ht0 (rg_in (n := 8) rfl (by decide) c4_1) rfl dX6_lineOf_94 ?_
              exact x_iret C w (by unfold lofI; simp only [if_pos c4_1, if_pos c13_2, if_neg c20_3, if_neg c42_4, if_neg c49_5, if_pos c49_6]) rfl dX6_lineOf_95
            ·
              by_cases c49_7 : a2 = (3 : Int32)
              ·
                refine x_top (y := 3) c49_7 ?_
                refine lv_tableIn (x := 3) (off := 47) (tgt := 96) hx hb dX6_lineOf_49 (by decide) (by decide) rfl (by decide) ?_
                refine lv_aload_n hx hb dX6_lineOf_96 rfl (lv_at hl 0 rfl) ?_
                refine x_get (v := .ref (o 0)) (T := TX6) C (x_pc (b := xTop x o h t r tb) w 0 rfl) 0 0 rfl rfl (fun _ h => List.mem_cons_of_mem _ (List.mem_append_left _ (List.mem_append_right _ (h)))) (List.mem_of_getElem? (i := 2) rfl) (by decide) rfl dX6_lineOf_97 ?_
                refine x_get (v := .ref (o 7)) (T := TX4) C (x_pc (b := sW cI o G) w 1 rfl) 0 6 rfl rfl (fun _ h => List.mem_cons_of_mem _ (List.mem_append_right _ (h))) (List.mem_of_getElem? (i := 7) rfl) (by decide) rfl dX6_lineOf_100 ?_
                refine lv_iload_n hx hb dX6_lineOf_103 rfl (lv_at hl 1 rfl) ?_
                refine x_ialdR (v := G 5 (ix a1)) C (x_pc (b := sW cI o G) w 1 rfl) 7 0 rfl ht0 (rg_in (n := 8) rfl (by decide) c4_1) rfl dX6_lineOf_104 ?_
                exact x_iret C w (by unfold lofI; simp only [if_pos c4_1, if_pos c13_2, if_neg c20_3, if_neg c42_4, if_neg c49_5, if_neg c49_6, if_pos c49_7]) rfl dX6_lineOf_105
              ·
                refine lv_tableOut (x := a2) (tgt := 106) hx hb dX6_lineOf_49 (by have z0 := lv_neT (a := 1) c49_5 (by decide); have z1 := lv_neT (a := 2) c49_6 (by decide); have z2 := lv_neT (a := 3) c49_7 (by decide); omega) (by decide) ?_
                refine lv_aload_n hx hb dX6_lineOf_106 rfl (lv_at hl 0 rfl) ?_
                refine x_get (v := .ref (o 0)) (T := TX6) C (x_pc (b := xTop x o h t r tb) w 0 rfl) 0 0 rfl rfl (fun _ h => List.mem_cons_of_mem _ (List.mem_append_left _ (List.mem_append_right _ (h)))) (List.mem_of_getElem? (i := 2) rfl) (by decide) rfl dX6_lineOf_107 ?_
                refine lv_iload_n hx hb dX6_lineOf_110 rfl (lv_at hl 1 rfl) ?_
                refine lv_iconst (v := 1) hx hb dX6_lineOf_111 (by decide +kernel) ?_
                have w : xW D A s.heap (List.flatten [sW cI o G, xTop x o h t r tb, hH cS h b (nI k), sW cI (b 0) (Hs 0), sW cI (b 1) (Hs 1), sW cI (b 2) (Hs 2), sW cI (b 3) (Hs 3), tW cI t T tn, rW3 r u q d, oW q f, sW cI u U, bW tb B]) _ _ := x_perm (bl_of [xTop x o h t r tb, sW cI o G, hH cS h b (nI k), sW cI (b 0) (Hs 0), sW cI (b 1) (Hs 1), sW cI (b 2) (Hs 2), sW cI (b 3) (Hs 3), tW cI t T tn, rW3 r u q d, oW q f, sW cI u U, bW tb B] [sW cI o G, xTop x o h t r tb, hH cS h b (nI k), sW cI (b 0) (Hs 0), sW cI (b 1) (Hs 1), sW cI (b 2) (Hs 2), sW cI (b 3) (Hs 3), tW cI t T tn, rW3 r u q d, oW q f, sW cI u U, bW tb B] [1, 0, 2, 3, 4, 5, 6, 7, 8, 9, 10, 11] 12 rfl (by decide) rfl) w
                refine x_callViB (wr := List.flatten [xTop x o h t r tb, hH cS h b (nI k), sW cI (b 0) (Hs 0), sW cI (b 1) (Hs 1), sW cI (b 2) (Hs 2), sW cI (b 3) (Hs 3), tW cI t T tn, rW3 r u q d, oW q f, sW cI u U, bW tb B]) (w2 := List.flatten [sW cI o G, xTop x o h t r tb, hH cS h b (nI k), sW cI (b 0) (Hs 0), sW cI (b 1) (Hs 1), sW cI (b 2) (Hs 2), sW cI (b 3) (Hs 3), tW cI t T tn, rW3 r u q d, oW q f, sW cI u U, bW tb B]) (rest := []) (n := 2) C w hl [.int a1, .int 1] (k_X4_linesAhead l D cI cS tys ht0 o G a1 1 ) gX6_lineOf_X4_linesAhead rfl (by decide +kernel) ⟨Nat.le_of_ble_eq_true rfl, Nat.le_of_ble_eq_true rfl⟩ 0 4 rfl rfl rfl rfl (Nat.le_of_ble_eq_true rfl) (List.Perm.refl _) (List.Perm.refl _) ⟨Nat.zero_le _, Nat.zero_le _⟩ dX6_lineOf_112 (fun H locs w => ?_)
                have w : xW D A s.heap (List.flatten [xTop x o h t r tb, sW cI o G, hH cS h b (nI k), sW cI (b 0) (Hs 0), sW cI (b 1) (Hs 1), sW cI (b 2) (Hs 2), sW cI (b 3) (Hs 3), tW cI t T tn, rW3 r u q d, oW q f, sW cI u U, bW tb B]) _ _ := x_perm (bl_of [sW cI o G, xTop x o h t r tb, hH cS h b (nI k), sW cI (b 0) (Hs 0), sW cI (b 1) (Hs 1), sW cI (b 2) (Hs 2), sW cI (b 3) (Hs 3), tW cI t T tn, rW3 r u q d, oW q f, sW cI u U, bW tb B] [xTop x o h t r tb, sW cI o G, hH cS h b (nI k), sW cI (b 0) (Hs 0), sW cI (b 1) (Hs 1), sW cI (b 2) (Hs 2), sW cI (b 3) (Hs 3), tW cI t T tn, rW3 r u q d, oW q f, sW cI u U, bW tb B] [1, 0, 2, 3, 4, 5, 6, 7, 8, 9, 10, 11] 12 rfl (by decide) rfl) w
                exact x_iret C w (by unfold lofI; simp only [if_pos c4_1, if_pos c13_2, if_neg c20_3, if_neg c42_4, if_neg c49_5, if_neg c49_6, if_neg c49_7]) rfl dX6_lineOf_115
        ·
          refine lv_ldc (v := -1000004) hx hb hown (hts _ (List.mem_of_getElem? (i := 4) rfl)) dX6_lineOf_45 ?_
          exact x_iret C w (by unfold lofI; simp only [if_pos c4_1, if_pos c13_2, if_neg c20_3, if_pos c42_4]) rfl dX6_lineOf_47
      ·
        refine lv_aload_n hx hb dX6_lineOf_23 rfl (lv_at hl 0 rfl) ?_
        refine x_get (v := .ref (o 0)) (T := TX6) C (x_pc (b := xTop x o h t r tb) w 0 rfl) 0 0 rfl rfl (fun _ h => List.mem_cons_of_mem _ (List.mem_append_left _ (List.mem_append_right _ (h)))) (List.mem_of_getElem? (i := 2) rfl) (by decide) rfl dX6_lineOf_24 ?_
        refine x_get (v := .ref (o 4)) (T := TX4) C (x_pc (b := sW cI o G) w 1 rfl) 0 3 rfl rfl (fun _ h => List.mem_cons_of_mem _ (List.mem_append_right _ (h))) (List.mem_of_getElem? (i := 3) rfl) (by decide) rfl dX6_lineOf_27 ?_
        refine lv_iload_n hx hb dX6_lineOf_30 rfl (lv_at hl 1 rfl) ?_
        refine x_ialdR (v := G 2 (ix a1)) C (x_pc (b := sW cI o G) w 1 rfl) 4 0 rfl ht0 (rg_in (n := 8) rfl (by decide) c4_1) rfl dX6_lineOf_31 ?_
        exact x_iret C w (by unfold lofI; simp only [if_pos c4_1, if_pos c13_2, if_pos c20_3]) rfl dX6_lineOf_32
    ·
      refine lv_ldc (v := -1000001) hx hb hown (hts _ (List.mem_of_getElem? (i := 1) rfl)) dX6_lineOf_16 ?_
      exact x_iret C w (by unfold lofI; simp only [if_pos c4_1, if_neg c13_2]) rfl dX6_lineOf_18
set_option maxHeartbeats 1000000 in
set_option maxRecDepth 100000 in
theorem k_X6_placeOf (l : Launch) (D : va_G) (cI cS : ClassId) (tys : List (ClassId × FieldType)) (ht0 : tys[0]? = some (cI, .int)) (ht1 : tys[1]? = some (cS, .object RX4)) (x : Nat) (o : Nat → Nat) (h : Nat → Nat) (b : Nat → Nat → Nat) (t : Nat → Nat) (r : Nat) (q : Nat) (u : Nat → Nat) (tb : Nat) (G : St) (k : Nat) (Hs : Nat → St) (T : Nat → Int32) (tn : Int32) (f : Nat → Int32) (d : Int32) (U : St) (B : St) (a1 : Int32) (a2 : Int32)  : xI l yX6_placeOf wsX6_placeOf 1 D tys [.ref x, .int a1, .int a2] (List.flatten [xTop x o h t r tb, sW cI o G, hH cS h b (nI k), sW cI (b 0) (Hs 0), sW cI (b 1) (Hs 1), sW cI (b 2) (Hs 2), sW cI (b 3) (Hs 3), tW cI t T tn, rW3 r u q d, oW q f, sW cI u U, bW tb B]) (pofI G a1 a2) (List.flatten [xTop x o h t r tb, sW cI o G, hH cS h b (nI k), sW cI (b 0) (Hs 0), sW cI (b 1) (Hs 1), sW cI (b 2) (Hs 2), sW cI (b 3) (Hs 3), tW cI t T tn, rW3 r u q d, oW q f, sW cI u U, bW tb B]) := by
  refine x_inI (cc := cX6_placeOf) (maxL := 4) (ret := (some .int)) (by decide) rfl (Nat.le_of_ble_eq_true rfl) ?_
  intro p e s m args below meth c A ls C w hl
  have C : xC p s m meth c args cX6_placeOf 4 wsX6_placeOf RX6 D tys (some .int) := C
  have hx := C.1.1
  have hb := C.1.2.1
  have hts := C.1.2.2.2.2
  have hown := C.1.2.2.2.1
  have w : xW D A s.heap (List.flatten [xTop x o h t r tb, sW cI o G, hH cS h b (nI k), sW cI (b 0) (Hs 0), sW cI (b 1) (Hs 1), sW cI (b 2) (Hs 2), sW cI (b 3) (Hs 3), tW cI t T tn, rW3 r u q d, oW q f, sW cI u U, bW tb B]) s.heap [] := w
  have hl : lv_has ls 4 [(0, .ref x), (1, .int a1), (2, .int a2)] := hl
  refine lv_iload_n hx hb dX6_placeOf_0 rfl (lv_at hl 1 rfl) ?_
  refine x_callSiB (wr := List.flatten [xTop x o h t r tb, sW cI o G, hH cS h b (nI k), sW cI (b 0) (Hs 0), sW cI (b 1) (Hs 1), sW cI (b 2) (Hs 2), sW cI (b 3) (Hs 3), tW cI t T tn, rW3 r u q d, oW q f, sW cI u U, bW tb B]) (w2 := List.flatten [xTop x o h t r tb, sW cI o G, hH cS h b (nI k), sW cI (b 0) (Hs 0), sW cI (b 1) (Hs 1), sW cI (b 2) (Hs 2), sW cI (b 3) (Hs 3), tW cI t T tn, rW3 r u q d, oW q f, sW cI u U, bW tb B]) (rest := []) (n := 1) C w hl [.int a1] (k_X6_isPlace l D cI cS tys ht0 a1 ) gX6_placeOf_X6_isPlace rfl (by decide +kernel) ⟨Nat.le_of_ble_eq_true rfl, Nat.le_of_ble_eq_true rfl⟩ rfl rfl (Nat.le_of_ble_eq_true rfl) (List.Perm.refl _) (List.Perm.refl _) ⟨Nat.zero_le _, Nat.zero_le _⟩ dX6_placeOf_1 (fun H locs w => ?_)
  refine x_ifB_eq (P := rg a1 64 = true) (tgt := 16) hx hb dX6_placeOf_4 (by decide) (fun c4_1 => ?_) (fun c4_1 => ?_)
  ·
    refine lv_ldc (v := -1000001) hx hb hown (hts _ (List.mem_of_getElem? (i := 1) rfl)) dX6_placeOf_16 ?_
    exact x_iret C w (by unfold pofI; simp only [if_neg c4_1]) rfl dX6_placeOf_18
  ·
    refine lv_iload_n hx hb dX6_placeOf_7 rfl (lv_at hl 2 rfl) ?_
    refine lv_iconst (v := 0) hx hb dX6_placeOf_8 (by decide +kernel) ?_
    refine lv_iconst (v := 3) hx hb dX6_placeOf_9 (by decide +kernel) ?_
    refine x_callSiB (wr := List.flatten [xTop x o h t r tb, sW cI o G, hH cS h b (nI k), sW cI (b 0) (Hs 0), sW cI (b 1) (Hs 1), sW cI (b 2) (Hs 2), sW cI (b 3) (Hs 3), tW cI t T tn, rW3 r u q d, oW q f, sW cI u U, bW tb B]) (w2 := List.flatten [xTop x o h t r tb, sW cI o G, hH cS h b (nI k), sW cI (b 0) (Hs 0), sW cI (b 1) (Hs 1), sW cI (b 2) (Hs 2), sW cI (b 3) (Hs 3), tW cI t T tn, rW3 r u q d, oW q f, sW cI u U, bW tb B]) (rest := []) (n := 3) C w hl [.int a2, .int 0, .int 3] (k_X6_isWithin l D cI cS tys ht0 a2 0 3 ) gX6_placeOf_X6_isWithin rfl (by decide +kernel) ⟨Nat.le_of_ble_eq_true rfl, Nat.le_of_ble_eq_true rfl⟩ rfl rfl (Nat.le_of_ble_eq_true rfl) (List.Perm.refl _) (List.Perm.refl _) ⟨Nat.zero_le _, Nat.zero_le _⟩ dX6_placeOf_10 (fun H locs w => ?_)
    refine x_ifB_ne (P := wth a2 0 3 = true) (tgt := 19) hx hb dX6_placeOf_13 (by decide) (fun c13_2 => ?_) (fun c13_2 => ?_)
    ·
      refine lv_aload_n hx hb dX6_placeOf_19 rfl (lv_at hl 0 rfl) ?_
      refine x_get (v := .ref (o 0)) (T := TX6) C (x_pc (b := xTop x o h t r tb) w 0 rfl) 0 0 rfl rfl (fun _ h => List.mem_cons_of_mem _ (List.mem_append_left _ (List.mem_append_right _ (h)))) (List.mem_of_getElem? (i := 2) rfl) (by decide) rfl dX6_placeOf_20 ?_
      refine lv_iload_n hx hb dX6_placeOf_23 rfl (lv_at hl 1 rfl) ?_
      have w : xW D A s.heap (List.flatten [sW cI o G, xTop x o h t r tb, hH cS h b (nI k), sW cI (b 0) (Hs 0), sW cI (b 1) (Hs 1), sW cI (b 2) (Hs 2), sW cI (b 3) (Hs 3), tW cI t T tn, rW3 r u q d, oW q f, sW cI u U, bW tb B]) _ _ := x_perm (bl_of [xTop x o h t r tb, sW cI o G, hH cS h b (nI k), sW cI (b 0) (Hs 0), sW cI (b 1) (Hs 1), sW cI (b 2) (Hs 2), sW cI (b 3) (Hs 3), tW cI t T tn, rW3 r u q d, oW q f, sW cI u U, bW tb B] [sW cI o G, xTop x o h t r tb, hH cS h b (nI k), sW cI (b 0) (Hs 0), sW cI (b 1) (Hs 1), sW cI (b 2) (Hs 2), sW cI (b 3) (Hs 3), tW cI t T tn, rW3 r u q d, oW q f, sW cI u U, bW tb B] [1, 0, 2, 3, 4, 5, 6, 7, 8, 9, 10, 11] 12 rfl (by decide) rfl) w
      refine x_callViB (wr := List.flatten [xTop x o h t r tb, hH cS h b (nI k), sW cI (b 0) (Hs 0), sW cI (b 1) (Hs 1), sW cI (b 2) (Hs 2), sW cI (b 3) (Hs 3), tW cI t T tn, rW3 r u q d, oW q f, sW cI u U, bW tb B]) (w2 := List.flatten [sW cI o G, xTop x o h t r tb, hH cS h b (nI k), sW cI (b 0) (Hs 0), sW cI (b 1) (Hs 1), sW cI (b 2) (Hs 2), sW cI (b 3) (Hs 3), tW cI t T tn, rW3 r u q d, oW q f, sW cI u U, bW tb B]) (rest := []) (n := 1) C w hl [.int a1] (k_X4_holderOf l D cI cS tys ht0 o G a1 ) gX6_placeOf_X4_holderOf rfl (by decide +kernel) ⟨Nat.le_of_ble_eq_true rfl, Nat.le_of_ble_eq_true rfl⟩ 0 4 rfl rfl rfl rfl (Nat.le_of_ble_eq_true rfl) (List.Perm.refl _) (List.Perm.refl _) ⟨Nat.zero_le _, Nat.zero_le _⟩ dX6_placeOf_24 (fun H locs w => ?_)
      refine lv_istore_n (lv' := [(3, .int (hldI G a1)), (0, .ref x), (1, .int a1), (2, .int a2)]) hx hb dX6_placeOf_27 rfl hl (by decide) rfl (fun ls hl => ?_)
      refine lv_iload_n hx hb dX6_placeOf_28 rfl (lv_at hl 3 rfl) ?_
      by_cases c29_3 : a2 = (0 : Int32)
      ·
        refine x_top (y := 0) c29_3 ?_
        refine lv_tableIn (x := 0) (off := 27) (tgt := 56) hx hb dX6_placeOf_29 (by decide) (by decide) rfl (by decide) ?_
        refine lv_aload_n hx hb dX6_placeOf_56 rfl (lv_at hl 1 rfl) ?_
        refine x_get (v := .ref (o 0)) (T := TX6) C (x_pc (b := xTop x o h t r tb) w 1 rfl) 0 0 rfl rfl (fun _ h => List.mem_cons_of_mem _ (List.mem_append_left _ (List.mem_append_right _ (h)))) (List.mem_of_getElem? (i := 2) rfl) (by decide) rfl dX6_placeOf_57 ?_
        refine x_get (v := .ref (o 2)) (T := TX4) C (x_pc (b := sW cI o G) w 0 rfl) 0 1 rfl rfl (fun _ h => List.mem_cons_of_mem _ (List.mem_append_right _ (h))) (List.mem_of_getElem? (i := 3) rfl) (by decide) rfl dX6_placeOf_60 ?_
        refine lv_iload_n hx hb dX6_placeOf_63 rfl (lv_at hl 2 rfl) ?_
        refine x_ialdR (v := G 0 (ix a1)) C (x_pc (b := sW cI o G) w 0 rfl) 2 0 rfl ht0 (rg_in (n := 64) rfl (by decide) c4_1) rfl dX6_placeOf_64 ?_
        have w : xW D A s.heap (List.flatten [xTop x o h t r tb, sW cI o G, hH cS h b (nI k), sW cI (b 0) (Hs 0), sW cI (b 1) (Hs 1), sW cI (b 2) (Hs 2), sW cI (b 3) (Hs 3), tW cI t T tn, rW3 r u q d, oW q f, sW cI u U, bW tb B]) _ _ := x_perm (bl_of [sW cI o G, xTop x o h t r tb, hH cS h b (nI k), sW cI (b 0) (Hs 0), sW cI (b 1) (Hs 1), sW cI (b 2) (Hs 2), sW cI (b 3) (Hs 3), tW cI t T tn, rW3 r u q d, oW q f, sW cI u U, bW tb B] [xTop x o h t r tb, sW cI o G, hH cS h b (nI k), sW cI (b 0) (Hs 0), sW cI (b 1) (Hs 1), sW cI (b 2) (Hs 2), sW cI (b 3) (Hs 3), tW cI t T tn, rW3 r u q d, oW q f, sW cI u U, bW tb B] [1, 0, 2, 3, 4, 5, 6, 7, 8, 9, 10, 11] 12 rfl (by decide) rfl) w
        exact x_iret C w (by unfold pofI; simp only [if_pos c4_1, if_pos c13_2, if_pos c29_3]) rfl dX6_placeOf_65
      ·
        by_cases c29_4 : a2 = (1 : Int32)
        ·
          refine x_top (y := 1) c29_4 ?_
          refine lv_tableIn (x := 1) (off := 37) (tgt := 66) hx hb dX6_placeOf_29 (by decide) (by decide) rfl (by decide) ?_
          refine lv_iload_n hx hb dX6_placeOf_66 rfl (lv_at hl 0 rfl) ?_
          refine x_callSiB (wr := List.flatten [sW cI o G, xTop x o h t r tb, hH cS h b (nI k), sW cI (b 0) (Hs 0), sW cI (b 1) (Hs 1), sW cI (b 2) (Hs 2), sW cI (b 3) (Hs 3), tW cI t T tn, rW3 r u q d, oW q f, sW cI u U, bW tb B]) (w2 := List.flatten [sW cI o G, xTop x o h t r tb, hH cS h b (nI k), sW cI (b 0) (Hs 0), sW cI (b 1) (Hs 1), sW cI (b 2) (Hs 2), sW cI (b 3) (Hs 3), tW cI t T tn, rW3 r u q d, oW q f, sW cI u U, bW tb B]) (rest := []) (n := 1) C w hl [.int (hldI G a1)] (k_X6_isLine l D cI cS tys ht0 (hldI G a1) ) gX6_placeOf_X6_isLine rfl (by decide +kernel) ⟨Nat.le_of_ble_eq_true rfl, Nat.le_of_ble_eq_true rfl⟩ rfl rfl (Nat.le_of_ble_eq_true rfl) (List.Perm.refl _) (List.Perm.refl _) ⟨Nat.zero_le _, Nat.zero_le _⟩ dX6_placeOf_67 (fun H locs w => ?_)
          refine x_ifB_eq (P := rg (hldI G a1) 8 = true) (tgt := 85) hx hb dX6_placeOf_70 (by decide) (fun c70_5 => ?_) (fun c70_5 => ?_)
          ·
            refine lv_aload_n hx hb dX6_placeOf_85 rfl (lv_at hl 1 rfl) ?_
            refine x_get (v := .ref (o 0)) (T := TX6) C (x_pc (b := xTop x o h t r tb) w 1 rfl) 0 0 rfl rfl (fun _ h => List.mem_cons_of_mem _ (List.mem_append_left _ (List.mem_append_right _ (h)))) (List.mem_of_getElem? (i := 2) rfl) (by decide) rfl dX6_placeOf_86 ?_
            refine x_get (v := .ref (o 2)) (T := TX4) C (x_pc (b := sW cI o G) w 0 rfl) 0 1 rfl rfl (fun _ h => List.mem_cons_of_mem _ (List.mem_append_right _ (h))) (List.mem_of_getElem? (i := 3) rfl) (by decide) rfl dX6_placeOf_89 ?_
            refine lv_iload_n hx hb dX6_placeOf_92 rfl (lv_at hl 2 rfl) ?_
            refine x_ialdR (v := G 0 (ix a1)) C (x_pc (b := sW cI o G) w 0 rfl) 2 0 rfl ht0 (rg_in (n := 64) rfl (by decide) c4_1) rfl dX6_placeOf_93 ?_
            have w : xW D A s.heap (List.flatten [xTop x o h t r tb, sW cI o G, hH cS h b (nI k), sW cI (b 0) (Hs 0), sW cI (b 1) (Hs 1), sW cI (b 2) (Hs 2), sW cI (b 3) (Hs 3), tW cI t T tn, rW3 r u q d, oW q f, sW cI u U, bW tb B]) _ _ := x_perm (bl_of [sW cI o G, xTop x o h t r tb, hH cS h b (nI k), sW cI (b 0) (Hs 0), sW cI (b 1) (Hs 1), sW cI (b 2) (Hs 2), sW cI (b 3) (Hs 3), tW cI t T tn, rW3 r u q d, oW q f, sW cI u U, bW tb B] [xTop x o h t r tb, sW cI o G, hH cS h b (nI k), sW cI (b 0) (Hs 0), sW cI (b 1) (Hs 1), sW cI (b 2) (Hs 2), sW cI (b 3) (Hs 3), tW cI t T tn, rW3 r u q d, oW q f, sW cI u U, bW tb B] [1, 0, 2, 3, 4, 5, 6, 7, 8, 9, 10, 11] 12 rfl (by decide) rfl) w
            exact x_iret C w (by unfold pofI; simp only [if_pos c4_1, if_pos c13_2, if_neg c29_3, if_pos c29_4, if_neg c70_5]) rfl dX6_placeOf_94
          ·
            refine lv_aload_n hx hb dX6_placeOf_73 rfl (lv_at hl 1 rfl) ?_
            refine x_get (v := .ref (o 0)) (T := TX6) C (x_pc (b := xTop x o h t r tb) w 1 rfl) 0 0 rfl rfl (fun _ h => List.mem_cons_of_mem _ (List.mem_append_left _ (List.mem_append_right _ (h)))) (List.mem_of_getElem? (i := 2) rfl) (by decide) rfl dX6_placeOf_74 ?_
            refine x_get (v := .ref (o 6)) (T := TX4) C (x_pc (b := sW cI o G) w 0 rfl) 0 5 rfl rfl (fun _ h => List.mem_cons_of_mem _ (List.mem_append_right _ (h))) (List.mem_of_getElem? (i := 4) rfl) (by decide) rfl dX6_placeOf_77 ?_
            refine lv_iload_n hx hb dX6_placeOf_80 rfl (lv_at hl 0 rfl) ?_
            refine x_ialdR (v := G 4 (ix (hldI G a1))) C (x_pc (b := sW cI o G) w 0 rfl) 6 0 rfl ht0 (rg_in (n := 8) rfl (by decide) c70_5) rfl dX6_placeOf_81 ?_
            refine lv_goto (tgt := 94) hx hb dX6_placeOf_82 (by decide) ?_
            have w : xW D A s.heap (List.flatten [xTop x o h t r tb, sW cI o G, hH cS h b (nI k), sW cI (b 0) (Hs 0), sW cI (b 1) (Hs 1), sW cI (b 2) (Hs 2), sW cI (b 3) (Hs 3), tW cI t T tn, rW3 r u q d, oW q f, sW cI u U, bW tb B]) _ _ := x_perm (bl_of [sW cI o G, xTop x o h t r tb, hH cS h b (nI k), sW cI (b 0) (Hs 0), sW cI (b 1) (Hs 1), sW cI (b 2) (Hs 2), sW cI (b 3) (Hs 3), tW cI t T tn, rW3 r u q d, oW q f, sW cI u U, bW tb B] [xTop x o h t r tb, sW cI o G, hH cS h b (nI k), sW cI (b 0) (Hs 0), sW cI (b 1) (Hs 1), sW cI (b 2) (Hs 2), sW cI (b 3) (Hs 3), tW cI t T tn, rW3 r u q d, oW q f, sW cI u U, bW tb B] [1, 0, 2, 3, 4, 5, 6, 7, 8, 9, 10, 11] 12 rfl (by decide) rfl) w
            exact x_iret C w (by unfold pofI; simp only [if_pos c4_1, if_pos c13_2, if_neg c29_3, if_pos c29_4, if_pos c70_5]) rfl dX6_placeOf_94
        ·
          by_cases c29_6 : a2 = (2 : Int32)
          ·
            refine x_top (y := 2) c29_6 ?_
            refine lv_tableIn (x := 2) (off := 66) (tgt := 95) hx hb dX6_placeOf_29 (by decide) (by decide) rfl (by decide) ?_
            refine lv_iload_n hx hb dX6_placeOf_95 rfl (lv_at hl 0 rfl) ?_
            refine x_callSiB (wr := List.flatten [sW cI o G, xTop x o h t r tb, hH cS h b (nI k), sW cI (b 0) (Hs 0), sW cI (b 1) (Hs 1), sW cI (b 2) (Hs 2), sW cI (b 3) (Hs 3), tW cI t T tn, rW3 r u q d, oW q f, sW cI u U, bW tb B]) (w2 := List.flatten [sW cI o G, xTop x o h t r tb, hH cS h b (nI k), sW cI (b 0) (Hs 0), sW cI (b 1) (Hs 1), sW cI (b 2) (Hs 2), sW cI (b 3) (Hs 3), tW cI t T tn, rW3 r u q d, oW q f, sW cI u U, bW tb B]) (rest := []) (n := 1) C w hl [.int (hldI G a1)] (k_X6_isLine l D cI cS tys ht0 (hldI G a1) ) gX6_placeOf_X6_isLine rfl (by decide +kernel) ⟨Nat.le_of_ble_eq_true rfl, Nat.le_of_ble_eq_true rfl⟩ rfl rfl (Nat.le_of_ble_eq_true rfl) (List.Perm.refl _) (List.Perm.refl _) ⟨Nat.zero_le _, Nat.zero_le _⟩ dX6_placeOf_96 (fun H locs w => ?_)
            refine x_ifB_eq (P := rg (hldI G a1) 8 = true) (tgt := 106) hx hb dX6_placeOf_99 (by decide) (fun c99_7 => ?_) (fun c99_7 => ?_)
            ·
              refine lv_ldc (v := -1000004) hx hb hown (hts _ (List.mem_of_getElem? (i := 5) rfl)) dX6_placeOf_106 ?_
              have w : xW D A s.heap (List.flatten [xTop x o h t r tb, sW cI o G, hH cS h b (nI k), sW cI (b 0) (Hs 0), sW cI (b 1) (Hs 1), sW cI (b 2) (Hs 2), sW cI (b 3) (Hs 3), tW cI t T tn, rW3 r u q d, oW q f, sW cI u U, bW tb B]) _ _ := x_perm (bl_of [sW cI o G, xTop x o h t r tb, hH cS h b (nI k), sW cI (b 0) (Hs 0), sW cI (b 1) (Hs 1), sW cI (b 2) (Hs 2), sW cI (b 3) (Hs 3), tW cI t T tn, rW3 r u q d, oW q f, sW cI u U, bW tb B] [xTop x o h t r tb, sW cI o G, hH cS h b (nI k), sW cI (b 0) (Hs 0), sW cI (b 1) (Hs 1), sW cI (b 2) (Hs 2), sW cI (b 3) (Hs 3), tW cI t T tn, rW3 r u q d, oW q f, sW cI u U, bW tb B] [1, 0, 2, 3, 4, 5, 6, 7, 8, 9, 10, 11] 12 rfl (by decide) rfl) w
              exact x_iret C w (by unfold pofI; simp only [if_pos c4_1, if_pos c13_2, if_neg c29_3, if_neg c29_4, if_pos c29_6, if_neg c99_7]) rfl dX6_placeOf_108
            ·
              refine lv_iload_n hx hb dX6_placeOf_102 rfl (lv_at hl 0 rfl) ?_
              refine lv_goto (tgt := 108) hx hb dX6_placeOf_103 (by decide) ?_
              have w : xW D A s.heap (List.flatten [xTop x o h t r tb, sW cI o G, hH cS h b (nI k), sW cI (b 0) (Hs 0), sW cI (b 1) (Hs 1), sW cI (b 2) (Hs 2), sW cI (b 3) (Hs 3), tW cI t T tn, rW3 r u q d, oW q f, sW cI u U, bW tb B]) _ _ := x_perm (bl_of [sW cI o G, xTop x o h t r tb, hH cS h b (nI k), sW cI (b 0) (Hs 0), sW cI (b 1) (Hs 1), sW cI (b 2) (Hs 2), sW cI (b 3) (Hs 3), tW cI t T tn, rW3 r u q d, oW q f, sW cI u U, bW tb B] [xTop x o h t r tb, sW cI o G, hH cS h b (nI k), sW cI (b 0) (Hs 0), sW cI (b 1) (Hs 1), sW cI (b 2) (Hs 2), sW cI (b 3) (Hs 3), tW cI t T tn, rW3 r u q d, oW q f, sW cI u U, bW tb B] [1, 0, 2, 3, 4, 5, 6, 7, 8, 9, 10, 11] 12 rfl (by decide) rfl) w
              exact x_iret C w (by unfold pofI; simp only [if_pos c4_1, if_pos c13_2, if_neg c29_3, if_neg c29_4, if_pos c29_6, if_pos c99_7]) rfl dX6_placeOf_108
          ·
            refine lv_tableOut (x := a2) (tgt := 109) hx hb dX6_placeOf_29 (by have z0 := lv_neT (a := 0) c29_3 (by decide); have z1 := lv_neT (a := 1) c29_4 (by decide); have z2 := lv_neT (a := 2) c29_6 (by decide); omega) (by decide) ?_
            refine lv_aload_n hx hb dX6_placeOf_109 rfl (lv_at hl 1 rfl) ?_
            refine x_get (v := .ref (o 0)) (T := TX6) C (x_pc (b := xTop x o h t r tb) w 1 rfl) 0 0 rfl rfl (fun _ h => List.mem_cons_of_mem _ (List.mem_append_left _ (List.mem_append_right _ (h)))) (List.mem_of_getElem? (i := 2) rfl) (by decide) rfl dX6_placeOf_110 ?_
            refine x_get (v := .ref (o 3)) (T := TX4) C (x_pc (b := sW cI o G) w 0 rfl) 0 2 rfl rfl (fun _ h => List.mem_cons_of_mem _ (List.mem_append_right _ (h))) (List.mem_of_getElem? (i := 6) rfl) (by decide) rfl dX6_placeOf_113 ?_
            refine lv_iload_n hx hb dX6_placeOf_116 rfl (lv_at hl 2 rfl) ?_
            refine x_ialdR (v := G 1 (ix a1)) C (x_pc (b := sW cI o G) w 0 rfl) 3 0 rfl ht0 (rg_in (n := 64) rfl (by decide) c4_1) rfl dX6_placeOf_117 ?_
            have w : xW D A s.heap (List.flatten [xTop x o h t r tb, sW cI o G, hH cS h b (nI k), sW cI (b 0) (Hs 0), sW cI (b 1) (Hs 1), sW cI (b 2) (Hs 2), sW cI (b 3) (Hs 3), tW cI t T tn, rW3 r u q d, oW q f, sW cI u U, bW tb B]) _ _ := x_perm (bl_of [sW cI o G, xTop x o h t r tb, hH cS h b (nI k), sW cI (b 0) (Hs 0), sW cI (b 1) (Hs 1), sW cI (b 2) (Hs 2), sW cI (b 3) (Hs 3), tW cI t T tn, rW3 r u q d, oW q f, sW cI u U, bW tb B] [xTop x o h t r tb, sW cI o G, hH cS h b (nI k), sW cI (b 0) (Hs 0), sW cI (b 1) (Hs 1), sW cI (b 2) (Hs 2), sW cI (b 3) (Hs 3), tW cI t T tn, rW3 r u q d, oW q f, sW cI u U, bW tb B] [1, 0, 2, 3, 4, 5, 6, 7, 8, 9, 10, 11] 12 rfl (by decide) rfl) w
            exact x_iret C w (by unfold pofI; simp only [if_pos c4_1, if_pos c13_2, if_neg c29_3, if_neg c29_4, if_neg c29_6]) rfl dX6_placeOf_118
    ·
      refine lv_ldc (v := -1000001) hx hb hown (hts _ (List.mem_of_getElem? (i := 1) rfl)) dX6_placeOf_16 ?_
      exact x_iret C w (by unfold pofI; simp only [if_pos c4_1, if_neg c13_2]) rfl dX6_placeOf_18
set_option maxHeartbeats 1000000 in
set_option maxRecDepth 100000 in
theorem k_X6_battery (l : Launch) (D : va_G) (cI cS : ClassId) (tys : List (ClassId × FieldType)) (ht0 : tys[0]? = some (cI, .int)) (ht1 : tys[1]? = some (cS, .object RX4)) (x : Nat) (o : Nat → Nat) (h : Nat → Nat) (b : Nat → Nat → Nat) (t : Nat → Nat) (r : Nat) (q : Nat) (u : Nat → Nat) (tb : Nat) (G : St) (k : Nat) (Hs : Nat → St) (T : Nat → Int32) (tn : Int32) (f : Nat → Int32) (d : Int32) (U : St) (B : St) (a1 : Int32)  : xI l yX6_battery wsX6_battery 3 D tys [.ref x, .int a1] (List.flatten [xTop x o h t r tb, sW cI o G, hH cS h b (nI k), sW cI (b 0) (Hs 0), sW cI (b 1) (Hs 1), sW cI (b 2) (Hs 2), sW cI (b 3) (Hs 3), tW cI t T tn, rW3 r u q d, oW q f, sW cI u U, bW tb B]) (batI G a1) (List.flatten [xTop x o h t r tb, sW cI o G, hH cS h b (nI k), sW cI (b 0) (Hs 0), sW cI (b 1) (Hs 1), sW cI (b 2) (Hs 2), sW cI (b 3) (Hs 3), tW cI t T tn, rW3 r u q d, oW q f, sW cI u U, bW tb B]) := by
  refine x_inI (cc := cX6_battery) (maxL := 2) (ret := (some .int)) (by decide) rfl (Nat.le_of_ble_eq_true rfl) ?_
  intro p e s m args below meth c A ls C w hl
  have C : xC p s m meth c args cX6_battery 2 wsX6_battery RX6 D tys (some .int) := C
  have hx := C.1.1
  have hb := C.1.2.1
  have hts := C.1.2.2.2.2
  have hown := C.1.2.2.2.1
  have w : xW D A s.heap (List.flatten [xTop x o h t r tb, sW cI o G, hH cS h b (nI k), sW cI (b 0) (Hs 0), sW cI (b 1) (Hs 1), sW cI (b 2) (Hs 2), sW cI (b 3) (Hs 3), tW cI t T tn, rW3 r u q d, oW q f, sW cI u U, bW tb B]) s.heap [] := w
  have hl : lv_has ls 2 [(0, .ref x), (1, .int a1)] := hl
  refine lv_iload_n hx hb dX6_battery_0 rfl (lv_at hl 1 rfl) ?_
  by_cases c1_1 : a1 = (0 : Int32)
  ·
    refine x_top (y := 0) c1_1 ?_
    refine lv_tableIn (x := 0) (off := 39) (tgt := 40) hx hb dX6_battery_1 (by decide) (by decide) rfl (by decide) ?_
    refine lv_aload_n hx hb dX6_battery_40 rfl (lv_at hl 0 rfl) ?_
    refine x_get (v := .ref (o 0)) (T := TX6) C (x_pc (b := xTop x o h t r tb) w 0 rfl) 0 0 rfl rfl (fun _ h => List.mem_cons_of_mem _ (List.mem_append_left _ (List.mem_append_left _ (List.mem_append_right _ (h))))) (List.mem_of_getElem? (i := 1) rfl) (by decide) rfl dX6_battery_41 ?_
    refine x_get (v := .ref (o 1)) (T := TX4) C (x_pc (b := sW cI o G) w 1 rfl) 0 0 rfl rfl (fun _ h => List.mem_cons_of_mem _ (List.mem_append_left _ (List.mem_append_right _ (h)))) (List.mem_of_getElem? (i := 2) rfl) (by decide) rfl dX6_battery_44 ?_
    refine x_get (v := .int (G 6 0)) (T := TX0) C (x_pc (b := sW cI o G) w 1 rfl) 1 0 rfl rfl (fun _ h => List.mem_cons_of_mem _ (List.mem_append_right _ (h))) (List.mem_of_getElem? (i := 3) rfl) (by decide) rfl dX6_battery_47 ?_
    exact x_iret C w (by unfold batI; simp only [if_pos c1_1]) rfl dX6_battery_50
  ·
    by_cases c1_2 : a1 = (1 : Int32)
    ·
      refine x_top (y := 1) c1_2 ?_
      refine lv_tableIn (x := 1) (off := 50) (tgt := 51) hx hb dX6_battery_1 (by decide) (by decide) rfl (by decide) ?_
      refine lv_aload_n hx hb dX6_battery_51 rfl (lv_at hl 0 rfl) ?_
      refine x_get (v := .ref (o 0)) (T := TX6) C (x_pc (b := xTop x o h t r tb) w 0 rfl) 0 0 rfl rfl (fun _ h => List.mem_cons_of_mem _ (List.mem_append_left _ (List.mem_append_left _ (List.mem_append_right _ (h))))) (List.mem_of_getElem? (i := 1) rfl) (by decide) rfl dX6_battery_52 ?_
      refine x_get (v := .ref (o 1)) (T := TX4) C (x_pc (b := sW cI o G) w 1 rfl) 0 0 rfl rfl (fun _ h => List.mem_cons_of_mem _ (List.mem_append_left _ (List.mem_append_right _ (h)))) (List.mem_of_getElem? (i := 2) rfl) (by decide) rfl dX6_battery_55 ?_
      have w : xW D A s.heap (List.flatten [sW cI o G, xTop x o h t r tb, hH cS h b (nI k), sW cI (b 0) (Hs 0), sW cI (b 1) (Hs 1), sW cI (b 2) (Hs 2), sW cI (b 3) (Hs 3), tW cI t T tn, rW3 r u q d, oW q f, sW cI u U, bW tb B]) _ _ := x_perm (bl_of [xTop x o h t r tb, sW cI o G, hH cS h b (nI k), sW cI (b 0) (Hs 0), sW cI (b 1) (Hs 1), sW cI (b 2) (Hs 2), sW cI (b 3) (Hs 3), tW cI t T tn, rW3 r u q d, oW q f, sW cI u U, bW tb B] [sW cI o G, xTop x o h t r tb, hH cS h b (nI k), sW cI (b 0) (Hs 0), sW cI (b 1) (Hs 1), sW cI (b 2) (Hs 2), sW cI (b 3) (Hs 3), tW cI t T tn, rW3 r u q d, oW q f, sW cI u U, bW tb B] [1, 0, 2, 3, 4, 5, 6, 7, 8, 9, 10, 11] 12 rfl (by decide) rfl) w
      have w : xW D A s.heap (List.flatten [bW (o 1) G, sR cI o G, xTop x o h t r tb, hH cS h b (nI k), sW cI (b 0) (Hs 0), sW cI (b 1) (Hs 1), sW cI (b 2) (Hs 2), sW cI (b 3) (Hs 3), tW cI t T tn, rW3 r u q d, oW q f, sW cI u U, bW tb B]) _ _ := x_perm ((List.Perm.append_right _ (sW_sR cI o G)).trans (List.Perm.of_eq (List.append_assoc _ _ _))) w
      refine x_callViB (wr := List.flatten [sR cI o G, xTop x o h t r tb, hH cS h b (nI k), sW cI (b 0) (Hs 0), sW cI (b 1) (Hs 1), sW cI (b 2) (Hs 2), sW cI (b 3) (Hs 3), tW cI t T tn, rW3 r u q d, oW q f, sW cI u U, bW tb B]) (w2 := List.flatten [bW (o 1) G, sR cI o G, xTop x o h t r tb, hH cS h b (nI k), sW cI (b 0) (Hs 0), sW cI (b 1) (Hs 1), sW cI (b 2) (Hs 2), sW cI (b 3) (Hs 3), tW cI t T tn, rW3 r u q d, oW q f, sW cI u U, bW tb B]) (rest := []) (n := 0) C w hl [] (k_X0_capacity l D cI cS tys ht0 (o 1) G ) gX6_battery_X0_capacity rfl (by decide +kernel) ⟨Nat.le_of_ble_eq_true rfl, Nat.le_of_ble_eq_true rfl⟩ 0 0 rfl rfl rfl rfl (Nat.le_of_ble_eq_true rfl) (List.Perm.refl _) (List.Perm.refl _) ⟨Nat.zero_le _, Nat.zero_le _⟩ dX6_battery_58 (fun H locs w => ?_)
      have w : xW D A s.heap (List.flatten [sW cI o G, xTop x o h t r tb, hH cS h b (nI k), sW cI (b 0) (Hs 0), sW cI (b 1) (Hs 1), sW cI (b 2) (Hs 2), sW cI (b 3) (Hs 3), tW cI t T tn, rW3 r u q d, oW q f, sW cI u U, bW tb B]) _ _ := x_perm ((List.Perm.of_eq (List.append_assoc _ _ _)).symm.trans (List.Perm.append_right _ (sW_sR cI o G).symm)) w
      have w : xW D A s.heap (List.flatten [xTop x o h t r tb, sW cI o G, hH cS h b (nI k), sW cI (b 0) (Hs 0), sW cI (b 1) (Hs 1), sW cI (b 2) (Hs 2), sW cI (b 3) (Hs 3), tW cI t T tn, rW3 r u q d, oW q f, sW cI u U, bW tb B]) _ _ := x_perm (bl_of [sW cI o G, xTop x o h t r tb, hH cS h b (nI k), sW cI (b 0) (Hs 0), sW cI (b 1) (Hs 1), sW cI (b 2) (Hs 2), sW cI (b 3) (Hs 3), tW cI t T tn, rW3 r u q d, oW q f, sW cI u U, bW tb B] [xTop x o h t r tb, sW cI o G, hH cS h b (nI k), sW cI (b 0) (Hs 0), sW cI (b 1) (Hs 1), sW cI (b 2) (Hs 2), sW cI (b 3) (Hs 3), tW cI t T tn, rW3 r u q d, oW q f, sW cI u U, bW tb B] [1, 0, 2, 3, 4, 5, 6, 7, 8, 9, 10, 11] 12 rfl (by decide) rfl) w
      exact x_iret C w (by unfold batI; simp only [if_neg c1_1, if_pos c1_2]) rfl dX6_battery_61
    ·
      by_cases c1_3 : a1 = (2 : Int32)
      ·
        refine x_top (y := 2) c1_3 ?_
        refine lv_tableIn (x := 2) (off := 61) (tgt := 62) hx hb dX6_battery_1 (by decide) (by decide) rfl (by decide) ?_
        refine lv_aload_n hx hb dX6_battery_62 rfl (lv_at hl 0 rfl) ?_
        refine x_get (v := .ref (o 0)) (T := TX6) C (x_pc (b := xTop x o h t r tb) w 0 rfl) 0 0 rfl rfl (fun _ h => List.mem_cons_of_mem _ (List.mem_append_left _ (List.mem_append_left _ (List.mem_append_right _ (h))))) (List.mem_of_getElem? (i := 1) rfl) (by decide) rfl dX6_battery_63 ?_
        refine x_get (v := .ref (o 1)) (T := TX4) C (x_pc (b := sW cI o G) w 1 rfl) 0 0 rfl rfl (fun _ h => List.mem_cons_of_mem _ (List.mem_append_left _ (List.mem_append_right _ (h)))) (List.mem_of_getElem? (i := 2) rfl) (by decide) rfl dX6_battery_66 ?_
        refine x_get (v := .int (G 6 1)) (T := TX0) C (x_pc (b := sW cI o G) w 1 rfl) 1 1 rfl rfl (fun _ h => List.mem_cons_of_mem _ (List.mem_append_right _ (h))) (List.mem_of_getElem? (i := 4) rfl) (by decide) rfl dX6_battery_69 ?_
        exact x_iret C w (by unfold batI; simp only [if_neg c1_1, if_neg c1_2, if_pos c1_3]) rfl dX6_battery_72
      ·
        by_cases c1_4 : a1 = (3 : Int32)
        ·
          refine x_top (y := 3) c1_4 ?_
          refine lv_tableIn (x := 3) (off := 72) (tgt := 73) hx hb dX6_battery_1 (by decide) (by decide) rfl (by decide) ?_
          refine lv_aload_n hx hb dX6_battery_73 rfl (lv_at hl 0 rfl) ?_
          refine x_get (v := .ref (o 0)) (T := TX6) C (x_pc (b := xTop x o h t r tb) w 0 rfl) 0 0 rfl rfl (fun _ h => List.mem_cons_of_mem _ (List.mem_append_left _ (List.mem_append_left _ (List.mem_append_right _ (h))))) (List.mem_of_getElem? (i := 1) rfl) (by decide) rfl dX6_battery_74 ?_
          refine x_get (v := .ref (o 1)) (T := TX4) C (x_pc (b := sW cI o G) w 1 rfl) 0 0 rfl rfl (fun _ h => List.mem_cons_of_mem _ (List.mem_append_left _ (List.mem_append_right _ (h)))) (List.mem_of_getElem? (i := 2) rfl) (by decide) rfl dX6_battery_77 ?_
          have w : xW D A s.heap (List.flatten [sW cI o G, xTop x o h t r tb, hH cS h b (nI k), sW cI (b 0) (Hs 0), sW cI (b 1) (Hs 1), sW cI (b 2) (Hs 2), sW cI (b 3) (Hs 3), tW cI t T tn, rW3 r u q d, oW q f, sW cI u U, bW tb B]) _ _ := x_perm (bl_of [xTop x o h t r tb, sW cI o G, hH cS h b (nI k), sW cI (b 0) (Hs 0), sW cI (b 1) (Hs 1), sW cI (b 2) (Hs 2), sW cI (b 3) (Hs 3), tW cI t T tn, rW3 r u q d, oW q f, sW cI u U, bW tb B] [sW cI o G, xTop x o h t r tb, hH cS h b (nI k), sW cI (b 0) (Hs 0), sW cI (b 1) (Hs 1), sW cI (b 2) (Hs 2), sW cI (b 3) (Hs 3), tW cI t T tn, rW3 r u q d, oW q f, sW cI u U, bW tb B] [1, 0, 2, 3, 4, 5, 6, 7, 8, 9, 10, 11] 12 rfl (by decide) rfl) w
          have w : xW D A s.heap (List.flatten [bW (o 1) G, sR cI o G, xTop x o h t r tb, hH cS h b (nI k), sW cI (b 0) (Hs 0), sW cI (b 1) (Hs 1), sW cI (b 2) (Hs 2), sW cI (b 3) (Hs 3), tW cI t T tn, rW3 r u q d, oW q f, sW cI u U, bW tb B]) _ _ := x_perm ((List.Perm.append_right _ (sW_sR cI o G)).trans (List.Perm.of_eq (List.append_assoc _ _ _))) w
          refine x_callViB (wr := List.flatten [sR cI o G, xTop x o h t r tb, hH cS h b (nI k), sW cI (b 0) (Hs 0), sW cI (b 1) (Hs 1), sW cI (b 2) (Hs 2), sW cI (b 3) (Hs 3), tW cI t T tn, rW3 r u q d, oW q f, sW cI u U, bW tb B]) (w2 := List.flatten [bW (o 1) G, sR cI o G, xTop x o h t r tb, hH cS h b (nI k), sW cI (b 0) (Hs 0), sW cI (b 1) (Hs 1), sW cI (b 2) (Hs 2), sW cI (b 3) (Hs 3), tW cI t T tn, rW3 r u q d, oW q f, sW cI u U, bW tb B]) (rest := []) (n := 0) C w hl [] (k_X0_allowance l D cI cS tys ht0 (o 1) G ) gX6_battery_X0_allowance rfl (by decide +kernel) ⟨Nat.le_of_ble_eq_true rfl, Nat.le_of_ble_eq_true rfl⟩ 0 0 rfl rfl rfl rfl (Nat.le_of_ble_eq_true rfl) (List.Perm.refl _) (List.Perm.refl _) ⟨Nat.zero_le _, Nat.zero_le _⟩ dX6_battery_80 (fun H locs w => ?_)
          have w : xW D A s.heap (List.flatten [sW cI o G, xTop x o h t r tb, hH cS h b (nI k), sW cI (b 0) (Hs 0), sW cI (b 1) (Hs 1), sW cI (b 2) (Hs 2), sW cI (b 3) (Hs 3), tW cI t T tn, rW3 r u q d, oW q f, sW cI u U, bW tb B]) _ _ := x_perm ((List.Perm.of_eq (List.append_assoc _ _ _)).symm.trans (List.Perm.append_right _ (sW_sR cI o G).symm)) w
          have w : xW D A s.heap (List.flatten [xTop x o h t r tb, sW cI o G, hH cS h b (nI k), sW cI (b 0) (Hs 0), sW cI (b 1) (Hs 1), sW cI (b 2) (Hs 2), sW cI (b 3) (Hs 3), tW cI t T tn, rW3 r u q d, oW q f, sW cI u U, bW tb B]) _ _ := x_perm (bl_of [sW cI o G, xTop x o h t r tb, hH cS h b (nI k), sW cI (b 0) (Hs 0), sW cI (b 1) (Hs 1), sW cI (b 2) (Hs 2), sW cI (b 3) (Hs 3), tW cI t T tn, rW3 r u q d, oW q f, sW cI u U, bW tb B] [xTop x o h t r tb, sW cI o G, hH cS h b (nI k), sW cI (b 0) (Hs 0), sW cI (b 1) (Hs 1), sW cI (b 2) (Hs 2), sW cI (b 3) (Hs 3), tW cI t T tn, rW3 r u q d, oW q f, sW cI u U, bW tb B] [1, 0, 2, 3, 4, 5, 6, 7, 8, 9, 10, 11] 12 rfl (by decide) rfl) w
          exact x_iret C w (by unfold batI; simp only [if_neg c1_1, if_neg c1_2, if_neg c1_3, if_pos c1_4]) rfl dX6_battery_83
        ·
          by_cases c1_5 : a1 = (4 : Int32)
          ·
            refine x_top (y := 4) c1_5 ?_
            refine lv_tableIn (x := 4) (off := 83) (tgt := 84) hx hb dX6_battery_1 (by decide) (by decide) rfl (by decide) ?_
            refine lv_aload_n hx hb dX6_battery_84 rfl (lv_at hl 0 rfl) ?_
            refine x_get (v := .ref (o 0)) (T := TX6) C (x_pc (b := xTop x o h t r tb) w 0 rfl) 0 0 rfl rfl (fun _ h => List.mem_cons_of_mem _ (List.mem_append_left _ (List.mem_append_left _ (List.mem_append_right _ (h))))) (List.mem_of_getElem? (i := 1) rfl) (by decide) rfl dX6_battery_85 ?_
            refine x_get (v := .ref (o 1)) (T := TX4) C (x_pc (b := sW cI o G) w 1 rfl) 0 0 rfl rfl (fun _ h => List.mem_cons_of_mem _ (List.mem_append_left _ (List.mem_append_right _ (h)))) (List.mem_of_getElem? (i := 2) rfl) (by decide) rfl dX6_battery_88 ?_
            refine x_get (v := .int (G 6 2)) (T := TX0) C (x_pc (b := sW cI o G) w 1 rfl) 1 2 rfl rfl (fun _ h => List.mem_cons_of_mem _ (List.mem_append_right _ (h))) (List.mem_of_getElem? (i := 5) rfl) (by decide) rfl dX6_battery_91 ?_
            exact x_iret C w (by unfold batI; simp only [if_neg c1_1, if_neg c1_2, if_neg c1_3, if_neg c1_4, if_pos c1_5]) rfl dX6_battery_94
          ·
            by_cases c1_6 : a1 = (5 : Int32)
            ·
              refine x_top (y := 5) c1_6 ?_
              refine lv_tableIn (x := 5) (off := 94) (tgt := 95) hx hb dX6_battery_1 (by decide) (by decide) rfl (by decide) ?_
              refine lv_aload_n hx hb dX6_battery_95 rfl (lv_at hl 0 rfl) ?_
              refine x_get (v := .ref (o 0)) (T := TX6) C (x_pc (b := xTop x o h t r tb) w 0 rfl) 0 0 rfl rfl (fun _ h => List.mem_cons_of_mem _ (List.mem_append_left _ (List.mem_append_left _ (List.mem_append_right _ (h))))) (List.mem_of_getElem? (i := 1) rfl) (by decide) rfl dX6_battery_96 ?_
              have w : xW D A s.heap (List.flatten [sW cI o G, xTop x o h t r tb, hH cS h b (nI k), sW cI (b 0) (Hs 0), sW cI (b 1) (Hs 1), sW cI (b 2) (Hs 2), sW cI (b 3) (Hs 3), tW cI t T tn, rW3 r u q d, oW q f, sW cI u U, bW tb B]) _ _ := x_perm (bl_of [xTop x o h t r tb, sW cI o G, hH cS h b (nI k), sW cI (b 0) (Hs 0), sW cI (b 1) (Hs 1), sW cI (b 2) (Hs 2), sW cI (b 3) (Hs 3), tW cI t T tn, rW3 r u q d, oW q f, sW cI u U, bW tb B] [sW cI o G, xTop x o h t r tb, hH cS h b (nI k), sW cI (b 0) (Hs 0), sW cI (b 1) (Hs 1), sW cI (b 2) (Hs 2), sW cI (b 3) (Hs 3), tW cI t T tn, rW3 r u q d, oW q f, sW cI u U, bW tb B] [1, 0, 2, 3, 4, 5, 6, 7, 8, 9, 10, 11] 12 rfl (by decide) rfl) w
              refine x_callViB (wr := List.flatten [xTop x o h t r tb, hH cS h b (nI k), sW cI (b 0) (Hs 0), sW cI (b 1) (Hs 1), sW cI (b 2) (Hs 2), sW cI (b 3) (Hs 3), tW cI t T tn, rW3 r u q d, oW q f, sW cI u U, bW tb B]) (w2 := List.flatten [sW cI o G, xTop x o h t r tb, hH cS h b (nI k), sW cI (b 0) (Hs 0), sW cI (b 1) (Hs 1), sW cI (b 2) (Hs 2), sW cI (b 3) (Hs 3), tW cI t T tn, rW3 r u q d, oW q f, sW cI u U, bW tb B]) (rest := []) (n := 0) C w hl [] (k_X4_savedByCut l D cI cS tys ht0 o G ) gX6_battery_X4_savedByCut rfl (by decide +kernel) ⟨Nat.le_of_ble_eq_true rfl, Nat.le_of_ble_eq_true rfl⟩ 0 4 rfl rfl rfl rfl (Nat.le_of_ble_eq_true rfl) (List.Perm.refl _) (List.Perm.refl _) ⟨Nat.zero_le _, Nat.zero_le _⟩ dX6_battery_99 (fun H locs w => ?_)
              have w : xW D A s.heap (List.flatten [xTop x o h t r tb, sW cI o G, hH cS h b (nI k), sW cI (b 0) (Hs 0), sW cI (b 1) (Hs 1), sW cI (b 2) (Hs 2), sW cI (b 3) (Hs 3), tW cI t T tn, rW3 r u q d, oW q f, sW cI u U, bW tb B]) _ _ := x_perm (bl_of [sW cI o G, xTop x o h t r tb, hH cS h b (nI k), sW cI (b 0) (Hs 0), sW cI (b 1) (Hs 1), sW cI (b 2) (Hs 2), sW cI (b 3) (Hs 3), tW cI t T tn, rW3 r u q d, oW q f, sW cI u U, bW tb B] [xTop x o h t r tb, sW cI o G, hH cS h b (nI k), sW cI (b 0) (Hs 0), sW cI (b 1) (Hs 1), sW cI (b 2) (Hs 2), sW cI (b 3) (Hs 3), tW cI t T tn, rW3 r u q d, oW q f, sW cI u U, bW tb B] [1, 0, 2, 3, 4, 5, 6, 7, 8, 9, 10, 11] 12 rfl (by decide) rfl) w
              exact x_iret C w (by unfold batI; simp only [if_neg c1_1, if_neg c1_2, if_neg c1_3, if_neg c1_4, if_neg c1_5, if_pos c1_6]) rfl dX6_battery_102
            ·
              refine lv_tableOut (x := a1) (tgt := 103) hx hb dX6_battery_1 (by have z0 := lv_neT (a := 0) c1_1 (by decide); have z1 := lv_neT (a := 1) c1_2 (by decide); have z2 := lv_neT (a := 2) c1_3 (by decide); have z3 := lv_neT (a := 3) c1_4 (by decide); have z4 := lv_neT (a := 4) c1_5 (by decide); have z5 := lv_neT (a := 5) c1_6 (by decide); omega) (by decide) ?_
              refine lv_ldc (v := -1000001) hx hb hown (hts _ (List.mem_of_getElem? (i := 6) rfl)) dX6_battery_103 ?_
              exact x_iret C w (by unfold batI; simp only [if_neg c1_1, if_neg c1_2, if_neg c1_3, if_neg c1_4, if_neg c1_5, if_neg c1_6]) rfl dX6_battery_105
set_option maxHeartbeats 1000000 in
set_option maxRecDepth 100000 in
theorem k_X6_lines (l : Launch) (D : va_G) (cI cS : ClassId) (tys : List (ClassId × FieldType)) (ht0 : tys[0]? = some (cI, .int)) (ht1 : tys[1]? = some (cS, .object RX4)) (x : Nat) (o : Nat → Nat) (h : Nat → Nat) (b : Nat → Nat → Nat) (t : Nat → Nat) (r : Nat) (q : Nat) (u : Nat → Nat) (tb : Nat) (G : St) (k : Nat) (Hs : Nat → St) (T : Nat → Int32) (tn : Int32) (f : Nat → Int32) (d : Int32) (U : St) (B : St) (a1 : Int32)  : xI l yX6_lines wsX6_lines 4 D tys [.ref x, .int a1] (List.flatten [xTop x o h t r tb, sW cI o G, hH cS h b (nI k), sW cI (b 0) (Hs 0), sW cI (b 1) (Hs 1), sW cI (b 2) (Hs 2), sW cI (b 3) (Hs 3), tW cI t T tn, rW3 r u q d, oW q f, sW cI u U, bW tb B]) (linI G a1) (List.flatten [xTop x o h t r tb, sW cI o G, hH cS h b (nI k), sW cI (b 0) (Hs 0), sW cI (b 1) (Hs 1), sW cI (b 2) (Hs 2), sW cI (b 3) (Hs 3), tW cI t T tn, rW3 r u q d, oW q f, sW cI u U, bW tb B]) := by
  refine x_inI (cc := cX6_lines) (maxL := 2) (ret := (some .int)) (by decide) rfl (Nat.le_of_ble_eq_true rfl) ?_
  intro p e s m args below meth c A ls C w hl
  have C : xC p s m meth c args cX6_lines 2 wsX6_lines RX6 D tys (some .int) := C
  have hx := C.1.1
  have hb := C.1.2.1
  have hts := C.1.2.2.2.2
  have hown := C.1.2.2.2.1
  have w : xW D A s.heap (List.flatten [xTop x o h t r tb, sW cI o G, hH cS h b (nI k), sW cI (b 0) (Hs 0), sW cI (b 1) (Hs 1), sW cI (b 2) (Hs 2), sW cI (b 3) (Hs 3), tW cI t T tn, rW3 r u q d, oW q f, sW cI u U, bW tb B]) s.heap [] := w
  have hl : lv_has ls 2 [(0, .ref x), (1, .int a1)] := hl
  refine lv_iload_n hx hb dX6_lines_0 rfl (lv_at hl 1 rfl) ?_
  by_cases c1_1 : a1 = (0 : Int32)
  ·
    refine x_top (y := 0) c1_1 ?_
    refine lv_tableIn (x := 0) (off := 31) (tgt := 32) hx hb dX6_lines_1 (by decide) (by decide) rfl (by decide) ?_
    refine lv_aload_n hx hb dX6_lines_32 rfl (lv_at hl 0 rfl) ?_
    refine x_get (v := .ref (o 0)) (T := TX6) C (x_pc (b := xTop x o h t r tb) w 0 rfl) 0 0 rfl rfl (fun _ h => List.mem_cons_of_mem _ (List.mem_append_left _ (List.mem_append_left _ (List.mem_append_right _ (h))))) (List.mem_of_getElem? (i := 1) rfl) (by decide) rfl dX6_lines_33 ?_
    refine lv_iconst (v := 0) hx hb dX6_lines_36 (by decide +kernel) ?_
    have w : xW D A s.heap (List.flatten [sW cI o G, xTop x o h t r tb, hH cS h b (nI k), sW cI (b 0) (Hs 0), sW cI (b 1) (Hs 1), sW cI (b 2) (Hs 2), sW cI (b 3) (Hs 3), tW cI t T tn, rW3 r u q d, oW q f, sW cI u U, bW tb B]) _ _ := x_perm (bl_of [xTop x o h t r tb, sW cI o G, hH cS h b (nI k), sW cI (b 0) (Hs 0), sW cI (b 1) (Hs 1), sW cI (b 2) (Hs 2), sW cI (b 3) (Hs 3), tW cI t T tn, rW3 r u q d, oW q f, sW cI u U, bW tb B] [sW cI o G, xTop x o h t r tb, hH cS h b (nI k), sW cI (b 0) (Hs 0), sW cI (b 1) (Hs 1), sW cI (b 2) (Hs 2), sW cI (b 3) (Hs 3), tW cI t T tn, rW3 r u q d, oW q f, sW cI u U, bW tb B] [1, 0, 2, 3, 4, 5, 6, 7, 8, 9, 10, 11] 12 rfl (by decide) rfl) w
    refine x_callViB (wr := List.flatten [xTop x o h t r tb, hH cS h b (nI k), sW cI (b 0) (Hs 0), sW cI (b 1) (Hs 1), sW cI (b 2) (Hs 2), sW cI (b 3) (Hs 3), tW cI t T tn, rW3 r u q d, oW q f, sW cI u U, bW tb B]) (w2 := List.flatten [sW cI o G, xTop x o h t r tb, hH cS h b (nI k), sW cI (b 0) (Hs 0), sW cI (b 1) (Hs 1), sW cI (b 2) (Hs 2), sW cI (b 3) (Hs 3), tW cI t T tn, rW3 r u q d, oW q f, sW cI u U, bW tb B]) (rest := []) (n := 1) C w hl [.int 0] (k_X4_setOf l D cI cS tys ht0 o G 0 ) gX6_lines_X4_setOf rfl (by decide +kernel) ⟨Nat.le_of_ble_eq_true rfl, Nat.le_of_ble_eq_true rfl⟩ 0 4 rfl rfl rfl rfl (Nat.le_of_ble_eq_true rfl) (List.Perm.refl _) (List.Perm.refl _) ⟨Nat.zero_le _, Nat.zero_le _⟩ dX6_lines_37 (fun H locs w => ?_)
    have w : xW D A s.heap (List.flatten [xTop x o h t r tb, sW cI o G, hH cS h b (nI k), sW cI (b 0) (Hs 0), sW cI (b 1) (Hs 1), sW cI (b 2) (Hs 2), sW cI (b 3) (Hs 3), tW cI t T tn, rW3 r u q d, oW q f, sW cI u U, bW tb B]) _ _ := x_perm (bl_of [sW cI o G, xTop x o h t r tb, hH cS h b (nI k), sW cI (b 0) (Hs 0), sW cI (b 1) (Hs 1), sW cI (b 2) (Hs 2), sW cI (b 3) (Hs 3), tW cI t T tn, rW3 r u q d, oW q f, sW cI u U, bW tb B] [xTop x o h t r tb, sW cI o G, hH cS h b (nI k), sW cI (b 0) (Hs 0), sW cI (b 1) (Hs 1), sW cI (b 2) (Hs 2), sW cI (b 3) (Hs 3), tW cI t T tn, rW3 r u q d, oW q f, sW cI u U, bW tb B] [1, 0, 2, 3, 4, 5, 6, 7, 8, 9, 10, 11] 12 rfl (by decide) rfl) w
    exact x_iret C w (by unfold linI; simp only [if_pos c1_1]) rfl dX6_lines_40
  ·
    by_cases c1_2 : a1 = (1 : Int32)
    ·
      refine x_top (y := 1) c1_2 ?_
      refine lv_tableIn (x := 1) (off := 40) (tgt := 41) hx hb dX6_lines_1 (by decide) (by decide) rfl (by decide) ?_
      refine lv_aload_n hx hb dX6_lines_41 rfl (lv_at hl 0 rfl) ?_
      refine x_get (v := .ref (o 0)) (T := TX6) C (x_pc (b := xTop x o h t r tb) w 0 rfl) 0 0 rfl rfl (fun _ h => List.mem_cons_of_mem _ (List.mem_append_left _ (List.mem_append_left _ (List.mem_append_right _ (h))))) (List.mem_of_getElem? (i := 1) rfl) (by decide) rfl dX6_lines_42 ?_
      refine lv_iconst (v := 1) hx hb dX6_lines_45 (by decide +kernel) ?_
      have w : xW D A s.heap (List.flatten [sW cI o G, xTop x o h t r tb, hH cS h b (nI k), sW cI (b 0) (Hs 0), sW cI (b 1) (Hs 1), sW cI (b 2) (Hs 2), sW cI (b 3) (Hs 3), tW cI t T tn, rW3 r u q d, oW q f, sW cI u U, bW tb B]) _ _ := x_perm (bl_of [xTop x o h t r tb, sW cI o G, hH cS h b (nI k), sW cI (b 0) (Hs 0), sW cI (b 1) (Hs 1), sW cI (b 2) (Hs 2), sW cI (b 3) (Hs 3), tW cI t T tn, rW3 r u q d, oW q f, sW cI u U, bW tb B] [sW cI o G, xTop x o h t r tb, hH cS h b (nI k), sW cI (b 0) (Hs 0), sW cI (b 1) (Hs 1), sW cI (b 2) (Hs 2), sW cI (b 3) (Hs 3), tW cI t T tn, rW3 r u q d, oW q f, sW cI u U, bW tb B] [1, 0, 2, 3, 4, 5, 6, 7, 8, 9, 10, 11] 12 rfl (by decide) rfl) w
      refine x_callViB (wr := List.flatten [xTop x o h t r tb, hH cS h b (nI k), sW cI (b 0) (Hs 0), sW cI (b 1) (Hs 1), sW cI (b 2) (Hs 2), sW cI (b 3) (Hs 3), tW cI t T tn, rW3 r u q d, oW q f, sW cI u U, bW tb B]) (w2 := List.flatten [sW cI o G, xTop x o h t r tb, hH cS h b (nI k), sW cI (b 0) (Hs 0), sW cI (b 1) (Hs 1), sW cI (b 2) (Hs 2), sW cI (b 3) (Hs 3), tW cI t T tn, rW3 r u q d, oW q f, sW cI u U, bW tb B]) (rest := []) (n := 1) C w hl [.int 1] (k_X4_setOf l D cI cS tys ht0 o G 1 ) gX6_lines_X4_setOf rfl (by decide +kernel) ⟨Nat.le_of_ble_eq_true rfl, Nat.le_of_ble_eq_true rfl⟩ 0 4 rfl rfl rfl rfl (Nat.le_of_ble_eq_true rfl) (List.Perm.refl _) (List.Perm.refl _) ⟨Nat.zero_le _, Nat.zero_le _⟩ dX6_lines_46 (fun H locs w => ?_)
      have w : xW D A s.heap (List.flatten [xTop x o h t r tb, sW cI o G, hH cS h b (nI k), sW cI (b 0) (Hs 0), sW cI (b 1) (Hs 1), sW cI (b 2) (Hs 2), sW cI (b 3) (Hs 3), tW cI t T tn, rW3 r u q d, oW q f, sW cI u U, bW tb B]) _ _ := x_perm (bl_of [sW cI o G, xTop x o h t r tb, hH cS h b (nI k), sW cI (b 0) (Hs 0), sW cI (b 1) (Hs 1), sW cI (b 2) (Hs 2), sW cI (b 3) (Hs 3), tW cI t T tn, rW3 r u q d, oW q f, sW cI u U, bW tb B] [xTop x o h t r tb, sW cI o G, hH cS h b (nI k), sW cI (b 0) (Hs 0), sW cI (b 1) (Hs 1), sW cI (b 2) (Hs 2), sW cI (b 3) (Hs 3), tW cI t T tn, rW3 r u q d, oW q f, sW cI u U, bW tb B] [1, 0, 2, 3, 4, 5, 6, 7, 8, 9, 10, 11] 12 rfl (by decide) rfl) w
      exact x_iret C w (by unfold linI; simp only [if_neg c1_1, if_pos c1_2]) rfl dX6_lines_49
    ·
      by_cases c1_3 : a1 = (2 : Int32)
      ·
        refine x_top (y := 2) c1_3 ?_
        refine lv_tableIn (x := 2) (off := 49) (tgt := 50) hx hb dX6_lines_1 (by decide) (by decide) rfl (by decide) ?_
        refine lv_aload_n hx hb dX6_lines_50 rfl (lv_at hl 0 rfl) ?_
        refine x_get (v := .ref (o 0)) (T := TX6) C (x_pc (b := xTop x o h t r tb) w 0 rfl) 0 0 rfl rfl (fun _ h => List.mem_cons_of_mem _ (List.mem_append_left _ (List.mem_append_left _ (List.mem_append_right _ (h))))) (List.mem_of_getElem? (i := 1) rfl) (by decide) rfl dX6_lines_51 ?_
        refine lv_iconst (v := 2) hx hb dX6_lines_54 (by decide +kernel) ?_
        have w : xW D A s.heap (List.flatten [sW cI o G, xTop x o h t r tb, hH cS h b (nI k), sW cI (b 0) (Hs 0), sW cI (b 1) (Hs 1), sW cI (b 2) (Hs 2), sW cI (b 3) (Hs 3), tW cI t T tn, rW3 r u q d, oW q f, sW cI u U, bW tb B]) _ _ := x_perm (bl_of [xTop x o h t r tb, sW cI o G, hH cS h b (nI k), sW cI (b 0) (Hs 0), sW cI (b 1) (Hs 1), sW cI (b 2) (Hs 2), sW cI (b 3) (Hs 3), tW cI t T tn, rW3 r u q d, oW q f, sW cI u U, bW tb B] [sW cI o G, xTop x o h t r tb, hH cS h b (nI k), sW cI (b 0) (Hs 0), sW cI (b 1) (Hs 1), sW cI (b 2) (Hs 2), sW cI (b 3) (Hs 3), tW cI t T tn, rW3 r u q d, oW q f, sW cI u U, bW tb B] [1, 0, 2, 3, 4, 5, 6, 7, 8, 9, 10, 11] 12 rfl (by decide) rfl) w
        refine x_callViB (wr := List.flatten [xTop x o h t r tb, hH cS h b (nI k), sW cI (b 0) (Hs 0), sW cI (b 1) (Hs 1), sW cI (b 2) (Hs 2), sW cI (b 3) (Hs 3), tW cI t T tn, rW3 r u q d, oW q f, sW cI u U, bW tb B]) (w2 := List.flatten [sW cI o G, xTop x o h t r tb, hH cS h b (nI k), sW cI (b 0) (Hs 0), sW cI (b 1) (Hs 1), sW cI (b 2) (Hs 2), sW cI (b 3) (Hs 3), tW cI t T tn, rW3 r u q d, oW q f, sW cI u U, bW tb B]) (rest := []) (n := 1) C w hl [.int 2] (k_X4_setOf l D cI cS tys ht0 o G 2 ) gX6_lines_X4_setOf rfl (by decide +kernel) ⟨Nat.le_of_ble_eq_true rfl, Nat.le_of_ble_eq_true rfl⟩ 0 4 rfl rfl rfl rfl (Nat.le_of_ble_eq_true rfl) (List.Perm.refl _) (List.Perm.refl _) ⟨Nat.zero_le _, Nat.zero_le _⟩ dX6_lines_55 (fun H locs w => ?_)
        have w : xW D A s.heap (List.flatten [xTop x o h t r tb, sW cI o G, hH cS h b (nI k), sW cI (b 0) (Hs 0), sW cI (b 1) (Hs 1), sW cI (b 2) (Hs 2), sW cI (b 3) (Hs 3), tW cI t T tn, rW3 r u q d, oW q f, sW cI u U, bW tb B]) _ _ := x_perm (bl_of [sW cI o G, xTop x o h t r tb, hH cS h b (nI k), sW cI (b 0) (Hs 0), sW cI (b 1) (Hs 1), sW cI (b 2) (Hs 2), sW cI (b 3) (Hs 3), tW cI t T tn, rW3 r u q d, oW q f, sW cI u U, bW tb B] [xTop x o h t r tb, sW cI o G, hH cS h b (nI k), sW cI (b 0) (Hs 0), sW cI (b 1) (Hs 1), sW cI (b 2) (Hs 2), sW cI (b 3) (Hs 3), tW cI t T tn, rW3 r u q d, oW q f, sW cI u U, bW tb B] [1, 0, 2, 3, 4, 5, 6, 7, 8, 9, 10, 11] 12 rfl (by decide) rfl) w
        exact x_iret C w (by unfold linI; simp only [if_neg c1_1, if_neg c1_2, if_pos c1_3]) rfl dX6_lines_58
      ·
        by_cases c1_4 : a1 = (3 : Int32)
        ·
          refine x_top (y := 3) c1_4 ?_
          refine lv_tableIn (x := 3) (off := 58) (tgt := 59) hx hb dX6_lines_1 (by decide) (by decide) rfl (by decide) ?_
          refine lv_aload_n hx hb dX6_lines_59 rfl (lv_at hl 0 rfl) ?_
          refine x_get (v := .ref (o 0)) (T := TX6) C (x_pc (b := xTop x o h t r tb) w 0 rfl) 0 0 rfl rfl (fun _ h => List.mem_cons_of_mem _ (List.mem_append_left _ (List.mem_append_left _ (List.mem_append_right _ (h))))) (List.mem_of_getElem? (i := 1) rfl) (by decide) rfl dX6_lines_60 ?_
          have w : xW D A s.heap (List.flatten [sW cI o G, xTop x o h t r tb, hH cS h b (nI k), sW cI (b 0) (Hs 0), sW cI (b 1) (Hs 1), sW cI (b 2) (Hs 2), sW cI (b 3) (Hs 3), tW cI t T tn, rW3 r u q d, oW q f, sW cI u U, bW tb B]) _ _ := x_perm (bl_of [xTop x o h t r tb, sW cI o G, hH cS h b (nI k), sW cI (b 0) (Hs 0), sW cI (b 1) (Hs 1), sW cI (b 2) (Hs 2), sW cI (b 3) (Hs 3), tW cI t T tn, rW3 r u q d, oW q f, sW cI u U, bW tb B] [sW cI o G, xTop x o h t r tb, hH cS h b (nI k), sW cI (b 0) (Hs 0), sW cI (b 1) (Hs 1), sW cI (b 2) (Hs 2), sW cI (b 3) (Hs 3), tW cI t T tn, rW3 r u q d, oW q f, sW cI u U, bW tb B] [1, 0, 2, 3, 4, 5, 6, 7, 8, 9, 10, 11] 12 rfl (by decide) rfl) w
          refine x_callViB (wr := List.flatten [xTop x o h t r tb, hH cS h b (nI k), sW cI (b 0) (Hs 0), sW cI (b 1) (Hs 1), sW cI (b 2) (Hs 2), sW cI (b 3) (Hs 3), tW cI t T tn, rW3 r u q d, oW q f, sW cI u U, bW tb B]) (w2 := List.flatten [sW cI o G, xTop x o h t r tb, hH cS h b (nI k), sW cI (b 0) (Hs 0), sW cI (b 1) (Hs 1), sW cI (b 2) (Hs 2), sW cI (b 3) (Hs 3), tW cI t T tn, rW3 r u q d, oW q f, sW cI u U, bW tb B]) (rest := []) (n := 0) C w hl [] (k_X4_lostByCut l D cI cS tys ht0 o G ) gX6_lines_X4_lostByCut rfl (by decide +kernel) ⟨Nat.le_of_ble_eq_true rfl, Nat.le_of_ble_eq_true rfl⟩ 0 4 rfl rfl rfl rfl (Nat.le_of_ble_eq_true rfl) (List.Perm.refl _) (List.Perm.refl _) ⟨Nat.zero_le _, Nat.zero_le _⟩ dX6_lines_63 (fun H locs w => ?_)
          have w : xW D A s.heap (List.flatten [xTop x o h t r tb, sW cI o G, hH cS h b (nI k), sW cI (b 0) (Hs 0), sW cI (b 1) (Hs 1), sW cI (b 2) (Hs 2), sW cI (b 3) (Hs 3), tW cI t T tn, rW3 r u q d, oW q f, sW cI u U, bW tb B]) _ _ := x_perm (bl_of [sW cI o G, xTop x o h t r tb, hH cS h b (nI k), sW cI (b 0) (Hs 0), sW cI (b 1) (Hs 1), sW cI (b 2) (Hs 2), sW cI (b 3) (Hs 3), tW cI t T tn, rW3 r u q d, oW q f, sW cI u U, bW tb B] [xTop x o h t r tb, sW cI o G, hH cS h b (nI k), sW cI (b 0) (Hs 0), sW cI (b 1) (Hs 1), sW cI (b 2) (Hs 2), sW cI (b 3) (Hs 3), tW cI t T tn, rW3 r u q d, oW q f, sW cI u U, bW tb B] [1, 0, 2, 3, 4, 5, 6, 7, 8, 9, 10, 11] 12 rfl (by decide) rfl) w
          exact x_iret C w (by unfold linI; simp only [if_neg c1_1, if_neg c1_2, if_neg c1_3, if_pos c1_4]) rfl dX6_lines_66
        ·
          refine lv_tableOut (x := a1) (tgt := 67) hx hb dX6_lines_1 (by have z0 := lv_neT (a := 0) c1_1 (by decide); have z1 := lv_neT (a := 1) c1_2 (by decide); have z2 := lv_neT (a := 2) c1_3 (by decide); have z3 := lv_neT (a := 3) c1_4 (by decide); omega) (by decide) ?_
          refine lv_ldc (v := -1000001) hx hb hown (hts _ (List.mem_of_getElem? (i := 2) rfl)) dX6_lines_67 ?_
          exact x_iret C w (by unfold linI; simp only [if_neg c1_1, if_neg c1_2, if_neg c1_3, if_neg c1_4]) rfl dX6_lines_69
