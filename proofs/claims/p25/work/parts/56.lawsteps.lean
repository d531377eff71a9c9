/-! ===== the law's steps, each from its place in the switch ===== -/
set_option maxHeartbeats 1000000 in
set_option maxRecDepth 100000 in
theorem sF_100 {p : Program} {l : Launch} {e : Env} {s : State} {m : MethodId} {args : Array Value} {below : List Frame} {meth : Method} {c : Code} {A : Nat → Prop} {D : va_G} {cI cS : ClassId} {tys : List (ClassId × FieldType)} (ht0 : tys[0]? = some (cI, .int)) (ht1 : tys[1]? = some (cS, .object RX4)) (C : xC p s m meth c args cL_isStep 11 wsL_isStep RL D tys (some .boolean)) {x : Nat} {o : Nat → Nat} {h : Nat → Nat} {b : Nat → Nat → Nat} {t : Nat → Nat} {r : Nat} {q : Nat} {u : Nat → Nat} {tb : Nat} {G : St} {k : Nat} {Hs : Nat → St} {T : Nat → Int32} {tn : Int32} {f : Nat → Int32} {d : Int32} {U : St} {B : St} {vA : Nat} {V : Nat → Int32} {xx yy : Int32} {p0 : Nat} (hLI : LI G V) (hk : k ≤ 4) (hp0 : p0 < 64) {H : Heap} {locs : List Loc} (w : xW D A s.heap (List.flatten [xTop x o h t r tb, sW cI o G, hH cS h b (nI k), sW cI (b 0) (Hs 0), sW cI (b 1) (Hs 1), sW cI (b 2) (Hs 2), sW cI (b 3) (Hs 3), tW cI t T tn, rW3 r u q d, oW q f, sW cI u U, bW tb B, [(vA, .inl (cI, 64, .inl V))]]) H locs) {ls : Array Slot} (hl : lv_has ls 11 [(4, .int (nI p0)), (3, .int yy), (0, .ref x), (1, .ref vA), (2, .int xx)]) : W p l e (rmd 6) s m args below meth c H locs 0 0 (MQ below (xQJ D tys 1 (okE cI cS x o h t r q u tb vA) A) args s 0 0 A) (F0 m 100 ls []) := by
  have hx := C.1.1
  have hb := C.1.2.1
  have hts := C.1.2.2.2.2
  have hown := C.1.2.2.2.1
  refine lv_aload_n hx hb dL_isStep_100 rfl (lv_at hl 2 rfl) ?_
  refine lv_iload hx hb dL_isStep_101 (lv_at hl 0 rfl) ?_
  refine lv_iconst (v := 1) hx hb dL_isStep_103 (by decide +kernel) ?_
  refine x_callViB (wr := List.flatten [[(vA, .inl (cI, 64, .inl V))]]) (w2 := List.flatten [xTop x o h t r tb, sW cI o G, hH cS h b (nI k), sW cI (b 0) (Hs 0), sW cI (b 1) (Hs 1), sW cI (b 2) (Hs 2), sW cI (b 3) (Hs 3), tW cI t T tn, rW3 r u q d, oW q f, sW cI u U, bW tb B, [(vA, .inl (cI, 64, .inl V))]]) (rest := []) (n := 2) C w hl [.int (nI p0), .int 1] (k_X6_placeOf l D cI cS tys ht0 ht1 x o h b t r q u tb G k Hs T tn f d U B (nI p0) 1 ) gL_isStep_X6_placeOf rfl (by decide +kernel) ⟨Nat.le_of_ble_eq_true rfl, Nat.le_of_ble_eq_true rfl⟩ 0 6 rfl rfl rfl rfl (Nat.le_of_ble_eq_true rfl) (List.Perm.of_eq (by simp only [List.flatten_cons, List.flatten_nil, List.append_nil, List.append_assoc, List.nil_append])) (List.Perm.of_eq (by simp only [List.flatten_cons, List.flatten_nil, List.append_nil, List.append_assoc, List.nil_append])) ⟨Nat.zero_le _, Nat.zero_le _⟩ dL_isStep_104 (fun H locs w => ?_)
  refine x_top (y := V p0) (pof1 hLI hp0) ?_
  refine lv_aload_n hx hb dL_isStep_107 rfl (lv_at hl 3 rfl) ?_
  refine lv_iload hx hb dL_isStep_108 (lv_at hl 0 rfl) ?_
  refine x_iald (v := V p0) C (x_pc (b := [(vA, .inl (cI, 64, .inl V))]) w 12 rfl) 0 0 (p0) rfl ht0 rfl (by omega) (by decide) rfl dL_isStep_110 ?_
  refine x_icR_ne (x := V p0) (y := V p0) (tgt := 131) hx hb dL_isStep_111 (by decide) (fun c111_1 => ?_) (fun c111_1 => ?_)
  ·
    exact absurd rfl c111_1
  ·
    refine lv_aload_n hx hb dL_isStep_114 rfl (lv_at hl 2 rfl) ?_
    refine lv_iload hx hb dL_isStep_115 (lv_at hl 0 rfl) ?_
    refine x_callViB (wr := List.flatten [[(vA, .inl (cI, 64, .inl V))]]) (w2 := List.flatten [xTop x o h t r tb, sW cI o (lnfG G (nI p0)), hH cS h (kpA k b) (nI (kpN k)), sW cI ((kpA k b) 0) ((kpG k Hs G) 0), sW cI ((kpA k b) 1) ((kpG k Hs G) 1), sW cI ((kpA k b) 2) ((kpG k Hs G) 2), sW cI ((kpA k b) 3) ((kpG k Hs G) 3), tW cI t T tn, rW3 r u q d, oW q f, sW cI u U, bW tb B, [(vA, .inl (cI, 64, .inl V))]]) (rest := []) (n := 1) C w hl [.int (nI p0)] (k_X6_read_ok l D cI cS tys ht0 ht1 x o h b t r q u tb G k Hs T tn f d U B (nI p0) (rg_nI (n := 64) (b := 64) rfl hp0 (by decide)) hk) gL_isStep_X6_read rfl (by decide +kernel) ⟨Nat.le_of_ble_eq_true rfl, Nat.le_of_ble_eq_true rfl⟩ 0 6 rfl rfl rfl rfl (Nat.le_of_ble_eq_true rfl) (List.Perm.of_eq (by simp only [List.flatten_cons, List.flatten_nil, List.append_nil, List.append_assoc, List.nil_append])) (List.Perm.of_eq (by simp only [List.flatten_cons, List.flatten_nil, List.append_nil, List.append_assoc, List.nil_append])) ⟨Nat.zero_le _, Nat.zero_le _⟩ dL_isStep_117 (fun H locs w => ?_)
    refine x_top (y := V p0) (rdp_is hLI hp0) ?_
    refine lv_aload_n hx hb dL_isStep_120 rfl (lv_at hl 3 rfl) ?_
    refine lv_iload hx hb dL_isStep_121 (lv_at hl 0 rfl) ?_
    refine x_iald (v := V p0) C (x_pc (b := [(vA, .inl (cI, 64, .inl V))]) w 12 rfl) 0 0 (p0) rfl ht0 rfl (by omega) (by decide) rfl dL_isStep_123 ?_
    refine x_icR_ne (x := V p0) (y := V p0) (tgt := 131) hx hb dL_isStep_124 (by decide) (fun c124_2 => ?_) (fun c124_2 => ?_)
    ·
      exact absurd rfl c124_2
    ·
      refine lv_iconst (v := 1) hx hb dL_isStep_127 (by decide +kernel) ?_
      refine lv_goto (tgt := 132) hx hb dL_isStep_128 (by decide) ?_
      exact x_zretJ C w (Or.inr rfl) rfl ⟨_, _, (LI_lnf hLI hp0), _, _, _, _, _, _, _, _, _, (kpN_le k hk), rfl⟩ dL_isStep_132
set_option maxHeartbeats 1000000 in
set_option maxRecDepth 100000 in
theorem sF_133 {p : Program} {l : Launch} {e : Env} {s : State} {m : MethodId} {args : Array Value} {below : List Frame} {meth : Method} {c : Code} {A : Nat → Prop} {D : va_G} {cI cS : ClassId} {tys : List (ClassId × FieldType)} (ht0 : tys[0]? = some (cI, .int)) (ht1 : tys[1]? = some (cS, .object RX4)) (C : xC p s m meth c args cL_isStep 11 wsL_isStep RL D tys (some .boolean)) {x : Nat} {o : Nat → Nat} {h : Nat → Nat} {b : Nat → Nat → Nat} {t : Nat → Nat} {r : Nat} {q : Nat} {u : Nat → Nat} {tb : Nat} {G : St} {k : Nat} {Hs : Nat → St} {T : Nat → Int32} {tn : Int32} {f : Nat → Int32} {d : Int32} {U : St} {B : St} {vA : Nat} {V : Nat → Int32} {xx yy : Int32} {p0 : Nat} (hLI : LI G V) (hk : k ≤ 4) (hp0 : p0 < 64) {H : Heap} {locs : List Loc} (w : xW D A s.heap (List.flatten [xTop x o h t r tb, sW cI o G, hH cS h b (nI k), sW cI (b 0) (Hs 0), sW cI (b 1) (Hs 1), sW cI (b 2) (Hs 2), sW cI (b 3) (Hs 3), tW cI t T tn, rW3 r u q d, oW q f, sW cI u U, bW tb B, [(vA, .inl (cI, 64, .inl V))]]) H locs) {ls : Array Slot} (hl : lv_has ls 11 [(4, .int (nI p0)), (3, .int yy), (0, .ref x), (1, .ref vA), (2, .int xx)]) : W p l e (rmd 6) s m args below meth c H locs 0 0 (MQ below (xQJ D tys 1 (okE cI cS x o h t r q u tb vA) A) args s 0 0 A) (F0 m 133 ls []) := by
  have hx := C.1.1
  have hb := C.1.2.1
  have hts := C.1.2.2.2.2
  have hown := C.1.2.2.2.1
  refine lv_aload_n hx hb dL_isStep_133 rfl (lv_at hl 3 rfl) ?_
  refine lv_iload hx hb dL_isStep_134 (lv_at hl 0 rfl) ?_
  refine lv_iload_n hx hb dL_isStep_136 rfl (lv_at hl 1 rfl) ?_
  refine lv_bipush (v := 8) hx hb dL_isStep_137 (by decide +kernel) ?_
  refine lv_ishr (x := yy) (y := 8) hx hb dL_isStep_139 ?_
  refine lv_sipush (v := 1000) hx hb dL_isStep_140 (by decide +kernel) ?_
  refine x_callSiB (wr := List.flatten [xTop x o h t r tb, sW cI o G, hH cS h b (nI k), sW cI (b 0) (Hs 0), sW cI (b 1) (Hs 1), sW cI (b 2) (Hs 2), sW cI (b 3) (Hs 3), tW cI t T tn, rW3 r u q d, oW q f, sW cI u U, bW tb B, [(vA, .inl (cI, 64, .inl V))]]) (w2 := List.flatten [xTop x o h t r tb, sW cI o G, hH cS h b (nI k), sW cI (b 0) (Hs 0), sW cI (b 1) (Hs 1), sW cI (b 2) (Hs 2), sW cI (b 3) (Hs 3), tW cI t T tn, rW3 r u q d, oW q f, sW cI u U, bW tb B, [(vA, .inl (cI, 64, .inl V))]]) (rest := [.int (nI p0), .ref vA]) (n := 2) C w hl [.int (yy >>> (8 &&& 31)), .int 1000] (k_L_up l D cI cS tys ht0 (yy >>> (8 &&& 31)) 1000 (by decide)) gL_isStep_L_up rfl (by decide +kernel) ⟨Nat.le_of_ble_eq_true rfl, Nat.le_of_ble_eq_true rfl⟩ rfl rfl (Nat.le_of_ble_eq_true rfl) (List.Perm.refl _) (List.Perm.refl _) ⟨Nat.zero_le _, Nat.zero_le _⟩ dL_isStep_143 (fun H locs w => ?_)
  obtain ⟨v0, hv0, ev0⟩ := up_ex (yy >>> (8 &&& 31)) 1000 (by decide) (by decide)
  refine x_top (y := nI v0) ev0 ?_
  have w : xW D A s.heap (List.flatten [[(vA, .inl (cI, 64, .inl V))], xTop x o h t r tb, sW cI o G, hH cS h b (nI k), sW cI (b 0) (Hs 0), sW cI (b 1) (Hs 1), sW cI (b 2) (Hs 2), sW cI (b 3) (Hs 3), tW cI t T tn, rW3 r u q d, oW q f, sW cI u U, bW tb B]) _ _ := x_perm (bl_of [xTop x o h t r tb, sW cI o G, hH cS h b (nI k), sW cI (b 0) (Hs 0), sW cI (b 1) (Hs 1), sW cI (b 2) (Hs 2), sW cI (b 3) (Hs 3), tW cI t T tn, rW3 r u q d, oW q f, sW cI u U, bW tb B, [(vA, .inl (cI, 64, .inl V))]] [[(vA, .inl (cI, 64, .inl V))], xTop x o h t r tb, sW cI o G, hH cS h b (nI k), sW cI (b 0) (Hs 0), sW cI (b 1) (Hs 1), sW cI (b 2) (Hs 2), sW cI (b 3) (Hs 3), tW cI t T tn, rW3 r u q d, oW q f, sW cI u U, bW tb B] [12, 0, 1, 2, 3, 4, 5, 6, 7, 8, 9, 10, 11] 13 rfl (by decide) rfl) w
  refine x_iast (ws2 := List.flatten [[(vA, .inl (cI, 64, .inl (upd V p0 (nI v0))))], xTop x o h t r tb, sW cI o G, hH cS h b (nI k), sW cI (b 0) (Hs 0), sW cI (b 1) (Hs 1), sW cI (b 2) (Hs 2), sW cI (b 3) (Hs 3), tW cI t T tn, rW3 r u q d, oW q f, sW cI u U, bW tb B]) C w 0 0 (p0) rfl ht0 rfl (by omega) (by decide) rfl dL_isStep_146 (fun H locs w => ?_)
  obtain ⟨l0, hl0, hLI2, hh2, hv4, htold, hcnt⟩ := wpt_facts hLI hp0 (vN_w hv0)
  refine lv_aload_n hx hb dL_isStep_147 rfl (lv_at hl 2 rfl) ?_
  refine lv_iconst (v := 1) hx hb dL_isStep_148 (by decide +kernel) ?_
  have w : xW D A s.heap (List.flatten [xTop x o h t r tb, sW cI o G, hH cS h b (nI k), sW cI (b 0) (Hs 0), sW cI (b 1) (Hs 1), sW cI (b 2) (Hs 2), sW cI (b 3) (Hs 3), tW cI t T tn, rW3 r u q d, oW q f, sW cI u U, bW tb B, [(vA, .inl (cI, 64, .inl (upd V p0 (nI v0))))]]) _ _ := x_perm (bl_of [[(vA, .inl (cI, 64, .inl (upd V p0 (nI v0))))], xTop x o h t r tb, sW cI o G, hH cS h b (nI k), sW cI (b 0) (Hs 0), sW cI (b 1) (Hs 1), sW cI (b 2) (Hs 2), sW cI (b 3) (Hs 3), tW cI t T tn, rW3 r u q d, oW q f, sW cI u U, bW tb B] [xTop x o h t r tb, sW cI o G, hH cS h b (nI k), sW cI (b 0) (Hs 0), sW cI (b 1) (Hs 1), sW cI (b 2) (Hs 2), sW cI (b 3) (Hs 3), tW cI t T tn, rW3 r u q d, oW q f, sW cI u U, bW tb B, [(vA, .inl (cI, 64, .inl (upd V p0 (nI v0))))]] [1, 2, 3, 4, 5, 6, 7, 8, 9, 10, 11, 12, 0] 13 rfl (by decide) rfl) w
  refine x_callViB (wr := List.flatten [[(vA, .inl (cI, 64, .inl (upd V p0 (nI v0))))]]) (w2 := List.flatten [xTop x o h t r tb, sW cI o G, hH cS h b (nI k), sW cI (b 0) (Hs 0), sW cI (b 1) (Hs 1), sW cI (b 2) (Hs 2), sW cI (b 3) (Hs 3), tW cI t T tn, rW3 r u q d, oW q f, sW cI u U, bW tb B, [(vA, .inl (cI, 64, .inl (upd V p0 (nI v0))))]]) (rest := []) (n := 1) C w hl [.int 1] (k_X6_count l D cI cS tys ht0 ht1 x o h b t r q u tb G k Hs T tn f d U B 1 ) gL_isStep_X6_count rfl (by decide +kernel) ⟨Nat.le_of_ble_eq_true rfl, Nat.le_of_ble_eq_true rfl⟩ 0 6 rfl rfl rfl rfl (Nat.le_of_ble_eq_true rfl) (List.Perm.of_eq (by simp only [List.flatten_cons, List.flatten_nil, List.append_nil, List.append_assoc, List.nil_append])) (List.Perm.of_eq (by simp only [List.flatten_cons, List.flatten_nil, List.append_nil, List.append_assoc, List.nil_append])) ⟨Nat.zero_le _, Nat.zero_le _⟩ dL_isStep_149 (fun H locs w => ?_)
  refine x_top (y := (G 7 1)) (con_1 _ _ _) ?_
  refine lv_istore (lv' := [(5, .int (G 7 1)), (4, .int (nI p0)), (3, .int yy), (0, .ref x), (1, .ref vA), (2, .int xx)]) hx hb dL_isStep_152 hl (by decide) rfl (fun ls hl => ?_)
  refine lv_aload_n hx hb dL_isStep_154 rfl (lv_at hl 3 rfl) ?_
  refine lv_iconst (v := 2) hx hb dL_isStep_155 (by decide +kernel) ?_
  refine x_callViB (wr := List.flatten [[(vA, .inl (cI, 64, .inl (upd V p0 (nI v0))))]]) (w2 := List.flatten [xTop x o h t r tb, sW cI o G, hH cS h b (nI k), sW cI (b 0) (Hs 0), sW cI (b 1) (Hs 1), sW cI (b 2) (Hs 2), sW cI (b 3) (Hs 3), tW cI t T tn, rW3 r u q d, oW q f, sW cI u U, bW tb B, [(vA, .inl (cI, 64, .inl (upd V p0 (nI v0))))]]) (rest := []) (n := 1) C w hl [.int 2] (k_X6_count l D cI cS tys ht0 ht1 x o h b t r q u tb G k Hs T tn f d U B 2 ) gL_isStep_X6_count rfl (by decide +kernel) ⟨Nat.le_of_ble_eq_true rfl, Nat.le_of_ble_eq_true rfl⟩ 0 6 rfl rfl rfl rfl (Nat.le_of_ble_eq_true rfl) (List.Perm.of_eq (by simp only [List.flatten_cons, List.flatten_nil, List.append_nil, List.append_assoc, List.nil_append])) (List.Perm.of_eq (by simp only [List.flatten_cons, List.flatten_nil, List.append_nil, List.append_assoc, List.nil_append])) ⟨Nat.zero_le _, Nat.zero_le _⟩ dL_isStep_156 (fun H locs w => ?_)
  refine x_top (y := (G 7 2)) (con_2 _ _ _) ?_
  refine lv_istore (lv' := [(6, .int (G 7 2)), (5, .int (G 7 1)), (4, .int (nI p0)), (3, .int yy), (0, .ref x), (1, .ref vA), (2, .int xx)]) hx hb dL_isStep_159 hl (by decide) rfl (fun ls hl => ?_)
  refine lv_aload_n hx hb dL_isStep_161 rfl (lv_at hl 4 rfl) ?_
  refine lv_iload hx hb dL_isStep_162 (lv_at hl 2 rfl) ?_
  refine lv_iconst (v := 2) hx hb dL_isStep_164 (by decide +kernel) ?_
  refine x_callViB (wr := List.flatten [[(vA, .inl (cI, 64, .inl (upd V p0 (nI v0))))]]) (w2 := List.flatten [xTop x o h t r tb, sW cI o G, hH cS h b (nI k), sW cI (b 0) (Hs 0), sW cI (b 1) (Hs 1), sW cI (b 2) (Hs 2), sW cI (b 3) (Hs 3), tW cI t T tn, rW3 r u q d, oW q f, sW cI u U, bW tb B, [(vA, .inl (cI, 64, .inl (upd V p0 (nI v0))))]]) (rest := []) (n := 2) C w hl [.int (nI p0), .int 2] (k_X6_placeOf l D cI cS tys ht0 ht1 x o h b t r q u tb G k Hs T tn f d U B (nI p0) 2 ) gL_isStep_X6_placeOf rfl (by decide +kernel) ⟨Nat.le_of_ble_eq_true rfl, Nat.le_of_ble_eq_true rfl⟩ 0 6 rfl rfl rfl rfl (Nat.le_of_ble_eq_true rfl) (List.Perm.of_eq (by simp only [List.flatten_cons, List.flatten_nil, List.append_nil, List.append_assoc, List.nil_append])) (List.Perm.of_eq (by simp only [List.flatten_cons, List.flatten_nil, List.append_nil, List.append_assoc, List.nil_append])) ⟨Nat.zero_le _, Nat.zero_le _⟩ dL_isStep_165 (fun H locs w => ?_)
  rcases hcnt with ⟨hh, h71, h72⟩ | ⟨hh, h71, h72⟩
  ·
    refine x_top (y := nI l0) (pof2_y hp0 hl0 hh) ?_
    refine lv_istore (lv' := [(7, .int (nI l0)), (6, .int (G 7 2)), (5, .int (G 7 1)), (4, .int (nI p0)), (3, .int yy), (0, .ref x), (1, .ref vA), (2, .int xx)]) hx hb dL_isStep_168 hl (by decide) rfl (fun ls hl => ?_)
    refine lv_aload_n hx hb dL_isStep_170 rfl (lv_at hl 5 rfl) ?_
    refine lv_iload hx hb dL_isStep_171 (lv_at hl 3 rfl) ?_
    refine lv_aload_n hx hb dL_isStep_173 rfl (lv_at hl 6 rfl) ?_
    refine lv_iload hx hb dL_isStep_174 (lv_at hl 3 rfl) ?_
    refine x_iald (v := (upd V p0 (nI v0)) p0) C (x_pc (b := [(vA, .inl (cI, 64, .inl (upd V p0 (nI v0))))]) w 12 rfl) 0 0 (p0) rfl ht0 rfl (by omega) (by decide) rfl dL_isStep_176 ?_
    refine x_top (y := nI v0) (up_at _ _ _) ?_
    refine x_callViB (wr := List.flatten [[(vA, .inl (cI, 64, .inl (upd V p0 (nI v0))))]]) (w2 := List.flatten [xTop x o h t r tb, sW cI o (wptG G (nI p0) (nI v0)), hH cS h (kpA k b) (nI (kpN k)), sW cI ((kpA k b) 0) ((kpG k Hs G) 0), sW cI ((kpA k b) 1) ((kpG k Hs G) 1), sW cI ((kpA k b) 2) ((kpG k Hs G) 2), sW cI ((kpA k b) 3) ((kpG k Hs G) 3), tW cI t T tn, rW3 r u q d, oW q f, sW cI u U, bW tb B, [(vA, .inl (cI, 64, .inl (upd V p0 (nI v0))))]]) (rest := []) (n := 2) C w hl [.int (nI p0), .int (nI v0)] (k_X6_write_ok l D cI cS tys ht0 ht1 x o h b t r q u tb G k Hs T tn f d U B (nI p0) (nI v0) (rg_nI (n := 64) (b := 64) rfl hp0 (by decide)) (wth_n (a := 0) (b := 999) rfl rfl (by omega) (by omega) (by decide)) hk) gL_isStep_X6_write rfl (by decide +kernel) ⟨Nat.le_of_ble_eq_true rfl, Nat.le_of_ble_eq_true rfl⟩ 0 6 rfl rfl rfl rfl (Nat.le_of_ble_eq_true rfl) (List.Perm.of_eq (by simp only [List.flatten_cons, List.flatten_nil, List.append_nil, List.append_assoc, List.nil_append])) (List.Perm.of_eq (by simp only [List.flatten_cons, List.flatten_nil, List.append_nil, List.append_assoc, List.nil_append])) ⟨Nat.zero_le _, Nat.zero_le _⟩ dL_isStep_177 (fun H locs w => ?_)
    rcases htold with ⟨ht, hk2⟩ | ⟨ht, hk2, hd0⟩
    ·
      refine x_top (y := 0) ht ?_
      refine lv_istore (lv' := [(8, .int 0), (7, .int (nI l0)), (6, .int (G 7 2)), (5, .int (G 7 1)), (4, .int (nI p0)), (3, .int yy), (0, .ref x), (1, .ref vA), (2, .int xx)]) hx hb dL_isStep_180 hl (by decide) rfl (fun ls hl => ?_)
      refine lv_aload_n hx hb dL_isStep_182 rfl (lv_at hl 6 rfl) ?_
      refine lv_iload hx hb dL_isStep_183 (lv_at hl 4 rfl) ?_
      refine lv_iconst (v := 2) hx hb dL_isStep_185 (by decide +kernel) ?_
      refine x_callViB (wr := List.flatten [[(vA, .inl (cI, 64, .inl (upd V p0 (nI v0))))]]) (w2 := List.flatten [xTop x o h t r tb, sW cI o (wptG G (nI p0) (nI v0)), hH cS h (kpA k b) (nI (kpN k)), sW cI ((kpA k b) 0) ((kpG k Hs G) 0), sW cI ((kpA k b) 1) ((kpG k Hs G) 1), sW cI ((kpA k b) 2) ((kpG k Hs G) 2), sW cI ((kpA k b) 3) ((kpG k Hs G) 3), tW cI t T tn, rW3 r u q d, oW q f, sW cI u U, bW tb B, [(vA, .inl (cI, 64, .inl (upd V p0 (nI v0))))]]) (rest := []) (n := 2) C w hl [.int (nI p0), .int 2] (k_X6_placeOf l D cI cS tys ht0 ht1 x o h (kpA k b) t r q u tb (wptG G (nI p0) (nI v0)) (kpN k) (kpG k Hs G) T tn f d U B (nI p0) 2 ) gL_isStep_X6_placeOf rfl (by decide +kernel) ⟨Nat.le_of_ble_eq_true rfl, Nat.le_of_ble_eq_true rfl⟩ 0 6 rfl rfl rfl rfl (Nat.le_of_ble_eq_true rfl) (List.Perm.of_eq (by simp only [List.flatten_cons, List.flatten_nil, List.append_nil, List.append_assoc, List.nil_append])) (List.Perm.of_eq (by simp only [List.flatten_cons, List.flatten_nil, List.append_nil, List.append_assoc, List.nil_append])) ⟨Nat.zero_le _, Nat.zero_le _⟩ dL_isStep_186 (fun H locs w => ?_)
      refine x_top (y := nI l0) (pof2_y hp0 hl0 hh2) ?_
      refine lv_istore (lv' := [(9, .int (nI l0)), (8, .int 0), (7, .int (nI l0)), (6, .int (G 7 2)), (5, .int (G 7 1)), (4, .int (nI p0)), (3, .int yy), (0, .ref x), (1, .ref vA), (2, .int xx)]) hx hb dL_isStep_189 hl (by decide) rfl (fun ls hl => ?_)
      refine lv_iload hx hb dL_isStep_191 (lv_at hl 1 rfl) ?_
      refine x_ifR_eq (x := 0) (tgt := 202) hx hb dL_isStep_193 (by decide) (fun _ => ?_) (fun h => absurd h (by decide))
      refine lv_iload hx hb dL_isStep_202 (lv_at hl 0 rfl) ?_
      refine x_ifR_lt (x := nI l0) (tgt := 237) hx hb dL_isStep_204 (by decide) (fun c204_2 => ?_) (fun c204_2 => ?_)
      ·
        exact absurd c204_2 (nI_pos (by omega))
      ·
        refine lv_aload_n hx hb dL_isStep_207 rfl (lv_at hl 7 rfl) ?_
        refine lv_iload hx hb dL_isStep_208 (lv_at hl 0 rfl) ?_
        refine lv_iconst (v := 0) hx hb dL_isStep_210 (by decide +kernel) ?_
        refine x_callViB (wr := List.flatten [[(vA, .inl (cI, 64, .inl (upd V p0 (nI v0))))]]) (w2 := List.flatten [xTop x o h t r tb, sW cI o (wptG G (nI p0) (nI v0)), hH cS h (kpA k b) (nI (kpN k)), sW cI ((kpA k b) 0) ((kpG k Hs G) 0), sW cI ((kpA k b) 1) ((kpG k Hs G) 1), sW cI ((kpA k b) 2) ((kpG k Hs G) 2), sW cI ((kpA k b) 3) ((kpG k Hs G) 3), tW cI t T tn, rW3 r u q d, oW q f, sW cI u U, bW tb B, [(vA, .inl (cI, 64, .inl (upd V p0 (nI v0))))]]) (rest := []) (n := 2) C w hl [.int (nI l0), .int 0] (k_X6_lineOf l D cI cS tys ht0 ht1 x o h (kpA k b) t r q u tb (wptG G (nI p0) (nI v0)) (kpN k) (kpG k Hs G) T tn f d U B (nI l0) 0 ) gL_isStep_X6_lineOf rfl (by decide +kernel) ⟨Nat.le_of_ble_eq_true rfl, Nat.le_of_ble_eq_true rfl⟩ 0 6 rfl rfl rfl rfl (Nat.le_of_ble_eq_true rfl) (List.Perm.of_eq (by simp only [List.flatten_cons, List.flatten_nil, List.append_nil, List.append_assoc, List.nil_append])) (List.Perm.of_eq (by simp only [List.flatten_cons, List.flatten_nil, List.append_nil, List.append_assoc, List.nil_append])) ⟨Nat.zero_le _, Nat.zero_le _⟩ dL_isStep_211 (fun H locs w => ?_)
        refine x_top (y := 2) ((lof0 _ hl0).trans hk2) ?_
        refine lv_iconst (v := 2) hx hb dL_isStep_214 (by decide +kernel) ?_
        refine lv_iload hx hb dL_isStep_215 (lv_at hl 1 rfl) ?_
        refine lv_isub (x := 2) (y := 0) hx hb dL_isStep_217 ?_
        refine x_top (y := 2) (by decide +kernel) ?_
        refine x_icR_ne (x := 2) (y := 2) (tgt := 237) hx hb dL_isStep_218 (by decide) (fun h => absurd h (by decide)) (fun _ => ?_)
        refine lv_iload hx hb dL_isStep_221 (lv_at hl 2 rfl) ?_
        refine x_ifR_lt (x := nI l0) (tgt := 233) hx hb dL_isStep_223 (by decide) (fun c223_4 => ?_) (fun c223_4 => ?_)
        ·
          exact absurd c223_4 (nI_pos (by omega))
        ·
          refine lv_iload hx hb dL_isStep_226 (lv_at hl 0 rfl) ?_
          refine lv_iload hx hb dL_isStep_228 (lv_at hl 2 rfl) ?_
          refine x_icN_ne (i := l0) (j := l0) (tgt := 237) hx hb (by omega) (by omega) dL_isStep_230 (by decide) (fun c230_5 => ?_) (fun c230_5 => ?_)
          ·
            exact absurd rfl c230_5
          ·
            refine lv_iconst (v := 1) hx hb dL_isStep_233 (by decide +kernel) ?_
            refine lv_goto (tgt := 238) hx hb dL_isStep_234 (by decide) ?_
            refine lv_istore (lv' := [(10, .int 1), (9, .int (nI l0)), (8, .int 0), (7, .int (nI l0)), (6, .int (G 7 2)), (5, .int (G 7 1)), (4, .int (nI p0)), (3, .int yy), (0, .ref x), (1, .ref vA), (2, .int xx)]) hx hb dL_isStep_238 hl (by decide) rfl (fun ls hl => ?_)
            refine lv_iload hx hb dL_isStep_240 (lv_at hl 0 rfl) ?_
            refine x_ifR_eq (x := 1) (tgt := 324) hx hb dL_isStep_242 (by decide) (fun h => absurd h (by decide)) (fun _ => ?_)
            refine lv_aload_n hx hb dL_isStep_245 rfl (lv_at hl 8 rfl) ?_
            refine lv_iconst (v := 1) hx hb dL_isStep_246 (by decide +kernel) ?_
            refine x_callViB (wr := List.flatten [[(vA, .inl (cI, 64, .inl (upd V p0 (nI v0))))]]) (w2 := List.flatten [xTop x o h t r tb, sW cI o (wptG G (nI p0) (nI v0)), hH cS h (kpA k b) (nI (kpN k)), sW cI ((kpA k b) 0) ((kpG k Hs G) 0), sW cI ((kpA k b) 1) ((kpG k Hs G) 1), sW cI ((kpA k b) 2) ((kpG k Hs G) 2), sW cI ((kpA k b) 3) ((kpG k Hs G) 3), tW cI t T tn, rW3 r u q d, oW q f, sW cI u U, bW tb B, [(vA, .inl (cI, 64, .inl (upd V p0 (nI v0))))]]) (rest := []) (n := 1) C w hl [.int 1] (k_X6_count l D cI cS tys ht0 ht1 x o h (kpA k b) t r q u tb (wptG G (nI p0) (nI v0)) (kpN k) (kpG k Hs G) T tn f d U B 1 ) gL_isStep_X6_count rfl (by decide +kernel) ⟨Nat.le_of_ble_eq_true rfl, Nat.le_of_ble_eq_true rfl⟩ 0 6 rfl rfl rfl rfl (Nat.le_of_ble_eq_true rfl) (List.Perm.of_eq (by simp only [List.flatten_cons, List.flatten_nil, List.append_nil, List.append_assoc, List.nil_append])) (List.Perm.of_eq (by simp only [List.flatten_cons, List.flatten_nil, List.append_nil, List.append_assoc, List.nil_append])) ⟨Nat.zero_le _, Nat.zero_le _⟩ dL_isStep_247 (fun H locs w => ?_)
            refine x_top (y := ((G 7 1) + 1)) ((con_1 _ _ _).trans h71) ?_
            refine lv_iload hx hb dL_isStep_250 (lv_at hl 5 rfl) ?_
            refine lv_iload hx hb dL_isStep_252 (lv_at hl 3 rfl) ?_
            refine x_ifR_ge (x := nI l0) (tgt := 261) hx hb dL_isStep_254 (by decide) (fun c254_7 => ?_) (fun c254_7 => ?_)
            ·
              refine lv_iconst (v := 1) hx hb dL_isStep_261 (by decide +kernel) ?_
              refine lv_iadd (x := (G 7 1)) (y := 1) hx hb dL_isStep_262 ?_
              refine x_icR_ne (x := ((G 7 1) + 1)) (y := ((G 7 1) + 1)) (tgt := 324) hx hb dL_isStep_263 (by decide) (fun c263_8 => ?_) (fun c263_8 => ?_)
              ·
                exact absurd rfl c263_8
              ·
                refine lv_aload_n hx hb dL_isStep_266 rfl (lv_at hl 8 rfl) ?_
                refine lv_iconst (v := 2) hx hb dL_isStep_267 (by decide +kernel) ?_
                refine x_callViB (wr := List.flatten [[(vA, .inl (cI, 64, .inl (upd V p0 (nI v0))))]]) (w2 := List.flatten [xTop x o h t r tb, sW cI o (wptG G (nI p0) (nI v0)), hH cS h (kpA k b) (nI (kpN k)), sW cI ((kpA k b) 0) ((kpG k Hs G) 0), sW cI ((kpA k b) 1) ((kpG k Hs G) 1), sW cI ((kpA k b) 2) ((kpG k Hs G) 2), sW cI ((kpA k b) 3) ((kpG k Hs G) 3), tW cI t T tn, rW3 r u q d, oW q f, sW cI u U, bW tb B, [(vA, .inl (cI, 64, .inl (upd V p0 (nI v0))))]]) (rest := []) (n := 1) C w hl [.int 2] (k_X6_count l D cI cS tys ht0 ht1 x o h (kpA k b) t r q u tb (wptG G (nI p0) (nI v0)) (kpN k) (kpG k Hs G) T tn f d U B 2 ) gL_isStep_X6_count rfl (by decide +kernel) ⟨Nat.le_of_ble_eq_true rfl, Nat.le_of_ble_eq_true rfl⟩ 0 6 rfl rfl rfl rfl (Nat.le_of_ble_eq_true rfl) (List.Perm.of_eq (by simp only [List.flatten_cons, List.flatten_nil, List.append_nil, List.append_assoc, List.nil_append])) (List.Perm.of_eq (by simp only [List.flatten_cons, List.flatten_nil, List.append_nil, List.append_assoc, List.nil_append])) ⟨Nat.zero_le _, Nat.zero_le _⟩ dL_isStep_268 (fun H locs w => ?_)
                refine x_top (y := ((G 7 2) + 0)) ((con_2 _ _ _).trans (h72.trans (i32_a0 _).symm)) ?_
                refine lv_iload hx hb dL_isStep_271 (lv_at hl 4 rfl) ?_
                refine lv_iload hx hb dL_isStep_273 (lv_at hl 3 rfl) ?_
                refine x_ifR_ge (x := nI l0) (tgt := 282) hx hb dL_isStep_275 (by decide) (fun c275_9 => ?_) (fun c275_9 => ?_)
                ·
                  refine lv_iconst (v := 0) hx hb dL_isStep_282 (by decide +kernel) ?_
                  refine lv_iadd (x := (G 7 2)) (y := 0) hx hb dL_isStep_283 ?_
                  refine x_icR_ne (x := ((G 7 2) + 0)) (y := ((G 7 2) + 0)) (tgt := 324) hx hb dL_isStep_284 (by decide) (fun c284_10 => ?_) (fun c284_10 => ?_)
                  ·
                    exact absurd rfl c284_10
                  ·
                    refine lv_aload_n hx hb dL_isStep_287 rfl (lv_at hl 8 rfl) ?_
                    refine lv_iload hx hb dL_isStep_288 (lv_at hl 1 rfl) ?_
                    refine lv_iconst (v := 2) hx hb dL_isStep_290 (by decide +kernel) ?_
                    refine x_callViB (wr := List.flatten [[(vA, .inl (cI, 64, .inl (upd V p0 (nI v0))))]]) (w2 := List.flatten [xTop x o h t r tb, sW cI o (wptG G (nI p0) (nI v0)), hH cS h (kpA k b) (nI (kpN k)), sW cI ((kpA k b) 0) ((kpG k Hs G) 0), sW cI ((kpA k b) 1) ((kpG k Hs G) 1), sW cI ((kpA k b) 2) ((kpG k Hs G) 2), sW cI ((kpA k b) 3) ((kpG k Hs G) 3), tW cI t T tn, rW3 r u q d, oW q f, sW cI u U, bW tb B, [(vA, .inl (cI, 64, .inl (upd V p0 (nI v0))))]]) (rest := []) (n := 2) C w hl [.int (nI l0), .int 2] (k_X6_lineOf l D cI cS tys ht0 ht1 x o h (kpA k b) t r q u tb (wptG G (nI p0) (nI v0)) (kpN k) (kpG k Hs G) T tn f d U B (nI l0) 2 ) gL_isStep_X6_lineOf rfl (by decide +kernel) ⟨Nat.le_of_ble_eq_true rfl, Nat.le_of_ble_eq_true rfl⟩ 0 6 rfl rfl rfl rfl (Nat.le_of_ble_eq_true rfl) (List.Perm.of_eq (by simp only [List.flatten_cons, List.flatten_nil, List.append_nil, List.append_assoc, List.nil_append])) (List.Perm.of_eq (by simp only [List.flatten_cons, List.flatten_nil, List.append_nil, List.append_assoc, List.nil_append])) ⟨Nat.zero_le _, Nat.zero_le _⟩ dL_isStep_291 (fun H locs w => ?_)
                    refine x_top (y := nI v0) ((lof2 hl0 (by rw [hk2]; decide)).trans hv4) ?_
                    refine lv_aload_n hx hb dL_isStep_294 rfl (lv_at hl 9 rfl) ?_
                    refine lv_iload hx hb dL_isStep_295 (lv_at hl 6 rfl) ?_
                    refine x_iald (v := (upd V p0 (nI v0)) p0) C (x_pc (b := [(vA, .inl (cI, 64, .inl (upd V p0 (nI v0))))]) w 12 rfl) 0 0 (p0) rfl ht0 rfl (by omega) (by decide) rfl dL_isStep_297 ?_
                    refine x_top (y := nI v0) (up_at _ _ _) ?_
                    refine x_icN_ne (i := v0) (j := v0) (tgt := 324) hx hb (by omega) (by omega) dL_isStep_298 (by decide) (fun c298_11 => ?_) (fun c298_11 => ?_)
                    ·
                      exact absurd rfl c298_11
                    ·
                      refine lv_iload hx hb dL_isStep_301 (lv_at hl 2 rfl) ?_
                      refine x_ifR_eq (x := 0) (tgt := 320) hx hb dL_isStep_303 (by decide) (fun _ => ?_) (fun h => absurd h (by decide))
                      refine lv_iconst (v := 1) hx hb dL_isStep_320 (by decide +kernel) ?_
                      refine lv_goto (tgt := 325) hx hb dL_isStep_321 (by decide) ?_
                      exact x_zretJ C w (Or.inr rfl) rfl ⟨_, _, hLI2, _, _, _, _, _, _, _, _, _, (kpN_le k hk), rfl⟩ dL_isStep_325
                ·
                  exact absurd c275_9 (nI_pos (by omega))
            ·
              exact absurd c254_7 (nI_pos (by omega))
    ·
      refine x_top (y := 1) ht ?_
      refine lv_istore (lv' := [(8, .int 1), (7, .int (nI l0)), (6, .int (G 7 2)), (5, .int (G 7 1)), (4, .int (nI p0)), (3, .int yy), (0, .ref x), (1, .ref vA), (2, .int xx)]) hx hb dL_isStep_180 hl (by decide) rfl (fun ls hl => ?_)
      refine lv_aload_n hx hb dL_isStep_182 rfl (lv_at hl 6 rfl) ?_
      refine lv_iload hx hb dL_isStep_183 (lv_at hl 4 rfl) ?_
      refine lv_iconst (v := 2) hx hb dL_isStep_185 (by decide +kernel) ?_
      refine x_callViB (wr := List.flatten [[(vA, .inl (cI, 64, .inl (upd V p0 (nI v0))))]]) (w2 := List.flatten [xTop x o h t r tb, sW cI o (wptG G (nI p0) (nI v0)), hH cS h (kpA k b) (nI (kpN k)), sW cI ((kpA k b) 0) ((kpG k Hs G) 0), sW cI ((kpA k b) 1) ((kpG k Hs G) 1), sW cI ((kpA k b) 2) ((kpG k Hs G) 2), sW cI ((kpA k b) 3) ((kpG k Hs G) 3), tW cI t T tn, rW3 r u q d, oW q f, sW cI u U, bW tb B, [(vA, .inl (cI, 64, .inl (upd V p0 (nI v0))))]]) (rest := []) (n := 2) C w hl [.int (nI p0), .int 2] (k_X6_placeOf l D cI cS tys ht0 ht1 x o h (kpA k b) t r q u tb (wptG G (nI p0) (nI v0)) (kpN k) (kpG k Hs G) T tn f d U B (nI p0) 2 ) gL_isStep_X6_placeOf rfl (by decide +kernel) ⟨Nat.le_of_ble_eq_true rfl, Nat.le_of_ble_eq_true rfl⟩ 0 6 rfl rfl rfl rfl (Nat.le_of_ble_eq_true rfl) (List.Perm.of_eq (by simp only [List.flatten_cons, List.flatten_nil, List.append_nil, List.append_assoc, List.nil_append])) (List.Perm.of_eq (by simp only [List.flatten_cons, List.flatten_nil, List.append_nil, List.append_assoc, List.nil_append])) ⟨Nat.zero_le _, Nat.zero_le _⟩ dL_isStep_186 (fun H locs w => ?_)
      refine x_top (y := nI l0) (pof2_y hp0 hl0 hh2) ?_
      refine lv_istore (lv' := [(9, .int (nI l0)), (8, .int 1), (7, .int (nI l0)), (6, .int (G 7 2)), (5, .int (G 7 1)), (4, .int (nI p0)), (3, .int yy), (0, .ref x), (1, .ref vA), (2, .int xx)]) hx hb dL_isStep_189 hl (by decide) rfl (fun ls hl => ?_)
      refine lv_iload hx hb dL_isStep_191 (lv_at hl 1 rfl) ?_
      refine x_ifR_eq (x := 1) (tgt := 202) hx hb dL_isStep_193 (by decide) (fun h => absurd h (by decide)) (fun _ => ?_)
      refine lv_iload hx hb dL_isStep_196 (lv_at hl 1 rfl) ?_
      refine lv_iconst (v := 1) hx hb dL_isStep_198 (by decide +kernel) ?_
      refine x_icR_ne (x := 1) (y := 1) (tgt := 237) hx hb dL_isStep_199 (by decide) (fun h => absurd h (by decide)) (fun _ => ?_)
      refine lv_iload hx hb dL_isStep_202 (lv_at hl 0 rfl) ?_
      refine x_ifR_lt (x := nI l0) (tgt := 237) hx hb dL_isStep_204 (by decide) (fun c204_15 => ?_) (fun c204_15 => ?_)
      ·
        exact absurd c204_15 (nI_pos (by omega))
      ·
        refine lv_aload_n hx hb dL_isStep_207 rfl (lv_at hl 7 rfl) ?_
        refine lv_iload hx hb dL_isStep_208 (lv_at hl 0 rfl) ?_
        refine lv_iconst (v := 0) hx hb dL_isStep_210 (by decide +kernel) ?_
        refine x_callViB (wr := List.flatten [[(vA, .inl (cI, 64, .inl (upd V p0 (nI v0))))]]) (w2 := List.flatten [xTop x o h t r tb, sW cI o (wptG G (nI p0) (nI v0)), hH cS h (kpA k b) (nI (kpN k)), sW cI ((kpA k b) 0) ((kpG k Hs G) 0), sW cI ((kpA k b) 1) ((kpG k Hs G) 1), sW cI ((kpA k b) 2) ((kpG k Hs G) 2), sW cI ((kpA k b) 3) ((kpG k Hs G) 3), tW cI t T tn, rW3 r u q d, oW q f, sW cI u U, bW tb B, [(vA, .inl (cI, 64, .inl (upd V p0 (nI v0))))]]) (rest := []) (n := 2) C w hl [.int (nI l0), .int 0] (k_X6_lineOf l D cI cS tys ht0 ht1 x o h (kpA k b) t r q u tb (wptG G (nI p0) (nI v0)) (kpN k) (kpG k Hs G) T tn f d U B (nI l0) 0 ) gL_isStep_X6_lineOf rfl (by decide +kernel) ⟨Nat.le_of_ble_eq_true rfl, Nat.le_of_ble_eq_true rfl⟩ 0 6 rfl rfl rfl rfl (Nat.le_of_ble_eq_true rfl) (List.Perm.of_eq (by simp only [List.flatten_cons, List.flatten_nil, List.append_nil, List.append_assoc, List.nil_append])) (List.Perm.of_eq (by simp only [List.flatten_cons, List.flatten_nil, List.append_nil, List.append_assoc, List.nil_append])) ⟨Nat.zero_le _, Nat.zero_le _⟩ dL_isStep_211 (fun H locs w => ?_)
        refine x_top (y := 1) ((lof0 _ hl0).trans hk2) ?_
        refine lv_iconst (v := 2) hx hb dL_isStep_214 (by decide +kernel) ?_
        refine lv_iload hx hb dL_isStep_215 (lv_at hl 1 rfl) ?_
        refine lv_isub (x := 2) (y := 1) hx hb dL_isStep_217 ?_
        refine x_top (y := 1) (by decide +kernel) ?_
        refine x_icR_ne (x := 1) (y := 1) (tgt := 237) hx hb dL_isStep_218 (by decide) (fun h => absurd h (by decide)) (fun _ => ?_)
        refine lv_iload hx hb dL_isStep_221 (lv_at hl 2 rfl) ?_
        refine x_ifR_lt (x := nI l0) (tgt := 233) hx hb dL_isStep_223 (by decide) (fun c223_17 => ?_) (fun c223_17 => ?_)
        ·
          exact absurd c223_17 (nI_pos (by omega))
        ·
          refine lv_iload hx hb dL_isStep_226 (lv_at hl 0 rfl) ?_
          refine lv_iload hx hb dL_isStep_228 (lv_at hl 2 rfl) ?_
          refine x_icN_ne (i := l0) (j := l0) (tgt := 237) hx hb (by omega) (by omega) dL_isStep_230 (by decide) (fun c230_18 => ?_) (fun c230_18 => ?_)
          ·
            exact absurd rfl c230_18
          ·
            refine lv_iconst (v := 1) hx hb dL_isStep_233 (by decide +kernel) ?_
            refine lv_goto (tgt := 238) hx hb dL_isStep_234 (by decide) ?_
            refine lv_istore (lv' := [(10, .int 1), (9, .int (nI l0)), (8, .int 1), (7, .int (nI l0)), (6, .int (G 7 2)), (5, .int (G 7 1)), (4, .int (nI p0)), (3, .int yy), (0, .ref x), (1, .ref vA), (2, .int xx)]) hx hb dL_isStep_238 hl (by decide) rfl (fun ls hl => ?_)
            refine lv_iload hx hb dL_isStep_240 (lv_at hl 0 rfl) ?_
            refine x_ifR_eq (x := 1) (tgt := 324) hx hb dL_isStep_242 (by decide) (fun h => absurd h (by decide)) (fun _ => ?_)
            refine lv_aload_n hx hb dL_isStep_245 rfl (lv_at hl 8 rfl) ?_
            refine lv_iconst (v := 1) hx hb dL_isStep_246 (by decide +kernel) ?_
            refine x_callViB (wr := List.flatten [[(vA, .inl (cI, 64, .inl (upd V p0 (nI v0))))]]) (w2 := List.flatten [xTop x o h t r tb, sW cI o (wptG G (nI p0) (nI v0)), hH cS h (kpA k b) (nI (kpN k)), sW cI ((kpA k b) 0) ((kpG k Hs G) 0), sW cI ((kpA k b) 1) ((kpG k Hs G) 1), sW cI ((kpA k b) 2) ((kpG k Hs G) 2), sW cI ((kpA k b) 3) ((kpG k Hs G) 3), tW cI t T tn, rW3 r u q d, oW q f, sW cI u U, bW tb B, [(vA, .inl (cI, 64, .inl (upd V p0 (nI v0))))]]) (rest := []) (n := 1) C w hl [.int 1] (k_X6_count l D cI cS tys ht0 ht1 x o h (kpA k b) t r q u tb (wptG G (nI p0) (nI v0)) (kpN k) (kpG k Hs G) T tn f d U B 1 ) gL_isStep_X6_count rfl (by decide +kernel) ⟨Nat.le_of_ble_eq_true rfl, Nat.le_of_ble_eq_true rfl⟩ 0 6 rfl rfl rfl rfl (Nat.le_of_ble_eq_true rfl) (List.Perm.of_eq (by simp only [List.flatten_cons, List.flatten_nil, List.append_nil, List.append_assoc, List.nil_append])) (List.Perm.of_eq (by simp only [List.flatten_cons, List.flatten_nil, List.append_nil, List.append_assoc, List.nil_append])) ⟨Nat.zero_le _, Nat.zero_le _⟩ dL_isStep_247 (fun H locs w => ?_)
            refine x_top (y := ((G 7 1) + 1)) ((con_1 _ _ _).trans h71) ?_
            refine lv_iload hx hb dL_isStep_250 (lv_at hl 5 rfl) ?_
            refine lv_iload hx hb dL_isStep_252 (lv_at hl 3 rfl) ?_
            refine x_ifR_ge (x := nI l0) (tgt := 261) hx hb dL_isStep_254 (by decide) (fun c254_20 => ?_) (fun c254_20 => ?_)
            ·
              refine lv_iconst (v := 1) hx hb dL_isStep_261 (by decide +kernel) ?_
              refine lv_iadd (x := (G 7 1)) (y := 1) hx hb dL_isStep_262 ?_
              refine x_icR_ne (x := ((G 7 1) + 1)) (y := ((G 7 1) + 1)) (tgt := 324) hx hb dL_isStep_263 (by decide) (fun c263_21 => ?_) (fun c263_21 => ?_)
              ·
                exact absurd rfl c263_21
              ·
                refine lv_aload_n hx hb dL_isStep_266 rfl (lv_at hl 8 rfl) ?_
                refine lv_iconst (v := 2) hx hb dL_isStep_267 (by decide +kernel) ?_
                refine x_callViB (wr := List.flatten [[(vA, .inl (cI, 64, .inl (upd V p0 (nI v0))))]]) (w2 := List.flatten [xTop x o h t r tb, sW cI o (wptG G (nI p0) (nI v0)), hH cS h (kpA k b) (nI (kpN k)), sW cI ((kpA k b) 0) ((kpG k Hs G) 0), sW cI ((kpA k b) 1) ((kpG k Hs G) 1), sW cI ((kpA k b) 2) ((kpG k Hs G) 2), sW cI ((kpA k b) 3) ((kpG k Hs G) 3), tW cI t T tn, rW3 r u q d, oW q f, sW cI u U, bW tb B, [(vA, .inl (cI, 64, .inl (upd V p0 (nI v0))))]]) (rest := []) (n := 1) C w hl [.int 2] (k_X6_count l D cI cS tys ht0 ht1 x o h (kpA k b) t r q u tb (wptG G (nI p0) (nI v0)) (kpN k) (kpG k Hs G) T tn f d U B 2 ) gL_isStep_X6_count rfl (by decide +kernel) ⟨Nat.le_of_ble_eq_true rfl, Nat.le_of_ble_eq_true rfl⟩ 0 6 rfl rfl rfl rfl (Nat.le_of_ble_eq_true rfl) (List.Perm.of_eq (by simp only [List.flatten_cons, List.flatten_nil, List.append_nil, List.append_assoc, List.nil_append])) (List.Perm.of_eq (by simp only [List.flatten_cons, List.flatten_nil, List.append_nil, List.append_assoc, List.nil_append])) ⟨Nat.zero_le _, Nat.zero_le _⟩ dL_isStep_268 (fun H locs w => ?_)
                refine x_top (y := ((G 7 2) + 0)) ((con_2 _ _ _).trans (h72.trans (i32_a0 _).symm)) ?_
                refine lv_iload hx hb dL_isStep_271 (lv_at hl 4 rfl) ?_
                refine lv_iload hx hb dL_isStep_273 (lv_at hl 3 rfl) ?_
                refine x_ifR_ge (x := nI l0) (tgt := 282) hx hb dL_isStep_275 (by decide) (fun c275_22 => ?_) (fun c275_22 => ?_)
                ·
                  refine lv_iconst (v := 0) hx hb dL_isStep_282 (by decide +kernel) ?_
                  refine lv_iadd (x := (G 7 2)) (y := 0) hx hb dL_isStep_283 ?_
                  refine x_icR_ne (x := ((G 7 2) + 0)) (y := ((G 7 2) + 0)) (tgt := 324) hx hb dL_isStep_284 (by decide) (fun c284_23 => ?_) (fun c284_23 => ?_)
                  ·
                    exact absurd rfl c284_23
                  ·
                    refine lv_aload_n hx hb dL_isStep_287 rfl (lv_at hl 8 rfl) ?_
                    refine lv_iload hx hb dL_isStep_288 (lv_at hl 1 rfl) ?_
                    refine lv_iconst (v := 2) hx hb dL_isStep_290 (by decide +kernel) ?_
                    refine x_callViB (wr := List.flatten [[(vA, .inl (cI, 64, .inl (upd V p0 (nI v0))))]]) (w2 := List.flatten [xTop x o h t r tb, sW cI o (wptG G (nI p0) (nI v0)), hH cS h (kpA k b) (nI (kpN k)), sW cI ((kpA k b) 0) ((kpG k Hs G) 0), sW cI ((kpA k b) 1) ((kpG k Hs G) 1), sW cI ((kpA k b) 2) ((kpG k Hs G) 2), sW cI ((kpA k b) 3) ((kpG k Hs G) 3), tW cI t T tn, rW3 r u q d, oW q f, sW cI u U, bW tb B, [(vA, .inl (cI, 64, .inl (upd V p0 (nI v0))))]]) (rest := []) (n := 2) C w hl [.int (nI l0), .int 2] (k_X6_lineOf l D cI cS tys ht0 ht1 x o h (kpA k b) t r q u tb (wptG G (nI p0) (nI v0)) (kpN k) (kpG k Hs G) T tn f d U B (nI l0) 2 ) gL_isStep_X6_lineOf rfl (by decide +kernel) ⟨Nat.le_of_ble_eq_true rfl, Nat.le_of_ble_eq_true rfl⟩ 0 6 rfl rfl rfl rfl (Nat.le_of_ble_eq_true rfl) (List.Perm.of_eq (by simp only [List.flatten_cons, List.flatten_nil, List.append_nil, List.append_assoc, List.nil_append])) (List.Perm.of_eq (by simp only [List.flatten_cons, List.flatten_nil, List.append_nil, List.append_assoc, List.nil_append])) ⟨Nat.zero_le _, Nat.zero_le _⟩ dL_isStep_291 (fun H locs w => ?_)
                    refine x_top (y := nI v0) ((lof2 hl0 (by rw [hk2]; decide)).trans hv4) ?_
                    refine lv_aload_n hx hb dL_isStep_294 rfl (lv_at hl 9 rfl) ?_
                    refine lv_iload hx hb dL_isStep_295 (lv_at hl 6 rfl) ?_
                    refine x_iald (v := (upd V p0 (nI v0)) p0) C (x_pc (b := [(vA, .inl (cI, 64, .inl (upd V p0 (nI v0))))]) w 12 rfl) 0 0 (p0) rfl ht0 rfl (by omega) (by decide) rfl dL_isStep_297 ?_
                    refine x_top (y := nI v0) (up_at _ _ _) ?_
                    refine x_icN_ne (i := v0) (j := v0) (tgt := 324) hx hb (by omega) (by omega) dL_isStep_298 (by decide) (fun c298_24 => ?_) (fun c298_24 => ?_)
                    ·
                      exact absurd rfl c298_24
                    ·
                      refine lv_iload hx hb dL_isStep_301 (lv_at hl 2 rfl) ?_
                      refine x_ifR_eq (x := 1) (tgt := 320) hx hb dL_isStep_303 (by decide) (fun h => absurd h (by decide)) (fun _ => ?_)
                      refine lv_aload_n hx hb dL_isStep_306 rfl (lv_at hl 8 rfl) ?_
                      refine lv_iload hx hb dL_isStep_307 (lv_at hl 6 rfl) ?_
                      refine lv_iconst (v := 0) hx hb dL_isStep_309 (by decide +kernel) ?_
                      refine x_callViB (wr := List.flatten [[(vA, .inl (cI, 64, .inl (upd V p0 (nI v0))))]]) (w2 := List.flatten [xTop x o h t r tb, sW cI o (wptG G (nI p0) (nI v0)), hH cS h (kpA k b) (nI (kpN k)), sW cI ((kpA k b) 0) ((kpG k Hs G) 0), sW cI ((kpA k b) 1) ((kpG k Hs G) 1), sW cI ((kpA k b) 2) ((kpG k Hs G) 2), sW cI ((kpA k b) 3) ((kpG k Hs G) 3), tW cI t T tn, rW3 r u q d, oW q f, sW cI u U, bW tb B, [(vA, .inl (cI, 64, .inl (upd V p0 (nI v0))))]]) (rest := []) (n := 2) C w hl [.int (nI p0), .int 0] (k_X6_placeOf l D cI cS tys ht0 ht1 x o h (kpA k b) t r q u tb (wptG G (nI p0) (nI v0)) (kpN k) (kpG k Hs G) T tn f d U B (nI p0) 0 ) gL_isStep_X6_placeOf rfl (by decide +kernel) ⟨Nat.le_of_ble_eq_true rfl, Nat.le_of_ble_eq_true rfl⟩ 0 6 rfl rfl rfl rfl (Nat.le_of_ble_eq_true rfl) (List.Perm.of_eq (by simp only [List.flatten_cons, List.flatten_nil, List.append_nil, List.append_assoc, List.nil_append])) (List.Perm.of_eq (by simp only [List.flatten_cons, List.flatten_nil, List.append_nil, List.append_assoc, List.nil_append])) ⟨Nat.zero_le _, Nat.zero_le _⟩ dL_isStep_310 (fun H locs w => ?_)
                      refine x_top (y := nI v0) ((pof0 _ hp0).trans hd0) ?_
                      refine lv_aload_n hx hb dL_isStep_313 rfl (lv_at hl 9 rfl) ?_
                      refine lv_iload hx hb dL_isStep_314 (lv_at hl 6 rfl) ?_
                      refine x_iald (v := (upd V p0 (nI v0)) p0) C (x_pc (b := [(vA, .inl (cI, 64, .inl (upd V p0 (nI v0))))]) w 12 rfl) 0 0 (p0) rfl ht0 rfl (by omega) (by decide) rfl dL_isStep_316 ?_
                      refine x_top (y := nI v0) (up_at _ _ _) ?_
                      refine x_icN_ne (i := v0) (j := v0) (tgt := 324) hx hb (by omega) (by omega) dL_isStep_317 (by decide) (fun c317_26 => ?_) (fun c317_26 => ?_)
                      ·
                        exact absurd rfl c317_26
                      ·
                        refine lv_iconst (v := 1) hx hb dL_isStep_320 (by decide +kernel) ?_
                        refine lv_goto (tgt := 325) hx hb dL_isStep_321 (by decide) ?_
                        exact x_zretJ C w (Or.inr rfl) rfl ⟨_, _, hLI2, _, _, _, _, _, _, _, _, _, (kpN_le k hk), rfl⟩ dL_isStep_325
                ·
                  exact absurd c275_22 (nI_pos (by omega))
            ·
              exact absurd c254_20 (nI_pos (by omega))
  ·
    refine x_top (y := (-1000004)) (pof2_n hp0 hh) ?_
    refine lv_istore (lv' := [(7, .int (-1000004)), (6, .int (G 7 2)), (5, .int (G 7 1)), (4, .int (nI p0)), (3, .int yy), (0, .ref x), (1, .ref vA), (2, .int xx)]) hx hb dL_isStep_168 hl (by decide) rfl (fun ls hl => ?_)
    refine lv_aload_n hx hb dL_isStep_170 rfl (lv_at hl 5 rfl) ?_
    refine lv_iload hx hb dL_isStep_171 (lv_at hl 3 rfl) ?_
    refine lv_aload_n hx hb dL_isStep_173 rfl (lv_at hl 6 rfl) ?_
    refine lv_iload hx hb dL_isStep_174 (lv_at hl 3 rfl) ?_
    refine x_iald (v := (upd V p0 (nI v0)) p0) C (x_pc (b := [(vA, .inl (cI, 64, .inl (upd V p0 (nI v0))))]) w 12 rfl) 0 0 (p0) rfl ht0 rfl (by omega) (by decide) rfl dL_isStep_176 ?_
    refine x_top (y := nI v0) (up_at _ _ _) ?_
    refine x_callViB (wr := List.flatten [[(vA, .inl (cI, 64, .inl (upd V p0 (nI v0))))]]) (w2 := List.flatten [xTop x o h t r tb, sW cI o (wptG G (nI p0) (nI v0)), hH cS h (kpA k b) (nI (kpN k)), sW cI ((kpA k b) 0) ((kpG k Hs G) 0), sW cI ((kpA k b) 1) ((kpG k Hs G) 1), sW cI ((kpA k b) 2) ((kpG k Hs G) 2), sW cI ((kpA k b) 3) ((kpG k Hs G) 3), tW cI t T tn, rW3 r u q d, oW q f, sW cI u U, bW tb B, [(vA, .inl (cI, 64, .inl (upd V p0 (nI v0))))]]) (rest := []) (n := 2) C w hl [.int (nI p0), .int (nI v0)] (k_X6_write_ok l D cI cS tys ht0 ht1 x o h b t r q u tb G k Hs T tn f d U B (nI p0) (nI v0) (rg_nI (n := 64) (b := 64) rfl hp0 (by decide)) (wth_n (a := 0) (b := 999) rfl rfl (by omega) (by omega) (by decide)) hk) gL_isStep_X6_write rfl (by decide +kernel) ⟨Nat.le_of_ble_eq_true rfl, Nat.le_of_ble_eq_true rfl⟩ 0 6 rfl rfl rfl rfl (Nat.le_of_ble_eq_true rfl) (List.Perm.of_eq (by simp only [List.flatten_cons, List.flatten_nil, List.append_nil, List.append_assoc, List.nil_append])) (List.Perm.of_eq (by simp only [List.flatten_cons, List.flatten_nil, List.append_nil, List.append_assoc, List.nil_append])) ⟨Nat.zero_le _, Nat.zero_le _⟩ dL_isStep_177 (fun H locs w => ?_)
    rcases htold with ⟨ht, hk2⟩ | ⟨ht, hk2, hd0⟩
    ·
      refine x_top (y := 0) ht ?_
      refine lv_istore (lv' := [(8, .int 0), (7, .int (-1000004)), (6, .int (G 7 2)), (5, .int (G 7 1)), (4, .int (nI p0)), (3, .int yy), (0, .ref x), (1, .ref vA), (2, .int xx)]) hx hb dL_isStep_180 hl (by decide) rfl (fun ls hl => ?_)
      refine lv_aload_n hx hb dL_isStep_182 rfl (lv_at hl 6 rfl) ?_
      refine lv_iload hx hb dL_isStep_183 (lv_at hl 4 rfl) ?_
      refine lv_iconst (v := 2) hx hb dL_isStep_185 (by decide +kernel) ?_
      refine x_callViB (wr := List.flatten [[(vA, .inl (cI, 64, .inl (upd V p0 (nI v0))))]]) (w2 := List.flatten [xTop x o h t r tb, sW cI o (wptG G (nI p0) (nI v0)), hH cS h (kpA k b) (nI (kpN k)), sW cI ((kpA k b) 0) ((kpG k Hs G) 0), sW cI ((kpA k b) 1) ((kpG k Hs G) 1), sW cI ((kpA k b) 2) ((kpG k Hs G) 2), sW cI ((kpA k b) 3) ((kpG k Hs G) 3), tW cI t T tn, rW3 r u q d, oW q f, sW cI u U, bW tb B, [(vA, .inl (cI, 64, .inl (upd V p0 (nI v0))))]]) (rest := []) (n := 2) C w hl [.int (nI p0), .int 2] (k_X6_placeOf l D cI cS tys ht0 ht1 x o h (kpA k b) t r q u tb (wptG G (nI p0) (nI v0)) (kpN k) (kpG k Hs G) T tn f d U B (nI p0) 2 ) gL_isStep_X6_placeOf rfl (by decide +kernel) ⟨Nat.le_of_ble_eq_true rfl, Nat.le_of_ble_eq_true rfl⟩ 0 6 rfl rfl rfl rfl (Nat.le_of_ble_eq_true rfl) (List.Perm.of_eq (by simp only [List.flatten_cons, List.flatten_nil, List.append_nil, List.append_assoc, List.nil_append])) (List.Perm.of_eq (by simp only [List.flatten_cons, List.flatten_nil, List.append_nil, List.append_assoc, List.nil_append])) ⟨Nat.zero_le _, Nat.zero_le _⟩ dL_isStep_186 (fun H locs w => ?_)
      refine x_top (y := nI l0) (pof2_y hp0 hl0 hh2) ?_
      refine lv_istore (lv' := [(9, .int (nI l0)), (8, .int 0), (7, .int (-1000004)), (6, .int (G 7 2)), (5, .int (G 7 1)), (4, .int (nI p0)), (3, .int yy), (0, .ref x), (1, .ref vA), (2, .int xx)]) hx hb dL_isStep_189 hl (by decide) rfl (fun ls hl => ?_)
      refine lv_iload hx hb dL_isStep_191 (lv_at hl 1 rfl) ?_
      refine x_ifR_eq (x := 0) (tgt := 202) hx hb dL_isStep_193 (by decide) (fun _ => ?_) (fun h => absurd h (by decide))
      refine lv_iload hx hb dL_isStep_202 (lv_at hl 0 rfl) ?_
      refine x_ifR_lt (x := nI l0) (tgt := 237) hx hb dL_isStep_204 (by decide) (fun c204_28 => ?_) (fun c204_28 => ?_)
      ·
        exact absurd c204_28 (nI_pos (by omega))
      ·
        refine lv_aload_n hx hb dL_isStep_207 rfl (lv_at hl 7 rfl) ?_
        refine lv_iload hx hb dL_isStep_208 (lv_at hl 0 rfl) ?_
        refine lv_iconst (v := 0) hx hb dL_isStep_210 (by decide +kernel) ?_
        refine x_callViB (wr := List.flatten [[(vA, .inl (cI, 64, .inl (upd V p0 (nI v0))))]]) (w2 := List.flatten [xTop x o h t r tb, sW cI o (wptG G (nI p0) (nI v0)), hH cS h (kpA k b) (nI (kpN k)), sW cI ((kpA k b) 0) ((kpG k Hs G) 0), sW cI ((kpA k b) 1) ((kpG k Hs G) 1), sW cI ((kpA k b) 2) ((kpG k Hs G) 2), sW cI ((kpA k b) 3) ((kpG k Hs G) 3), tW cI t T tn, rW3 r u q d, oW q f, sW cI u U, bW tb B, [(vA, .inl (cI, 64, .inl (upd V p0 (nI v0))))]]) (rest := []) (n := 2) C w hl [.int (nI l0), .int 0] (k_X6_lineOf l D cI cS tys ht0 ht1 x o h (kpA k b) t r q u tb (wptG G (nI p0) (nI v0)) (kpN k) (kpG k Hs G) T tn f d U B (nI l0) 0 ) gL_isStep_X6_lineOf rfl (by decide +kernel) ⟨Nat.le_of_ble_eq_true rfl, Nat.le_of_ble_eq_true rfl⟩ 0 6 rfl rfl rfl rfl (Nat.le_of_ble_eq_true rfl) (List.Perm.of_eq (by simp only [List.flatten_cons, List.flatten_nil, List.append_nil, List.append_assoc, List.nil_append])) (List.Perm.of_eq (by simp only [List.flatten_cons, List.flatten_nil, List.append_nil, List.append_assoc, List.nil_append])) ⟨Nat.zero_le _, Nat.zero_le _⟩ dL_isStep_211 (fun H locs w => ?_)
        refine x_top (y := 2) ((lof0 _ hl0).trans hk2) ?_
        refine lv_iconst (v := 2) hx hb dL_isStep_214 (by decide +kernel) ?_
        refine lv_iload hx hb dL_isStep_215 (lv_at hl 1 rfl) ?_
        refine lv_isub (x := 2) (y := 0) hx hb dL_isStep_217 ?_
        refine x_top (y := 2) (by decide +kernel) ?_
        refine x_icR_ne (x := 2) (y := 2) (tgt := 237) hx hb dL_isStep_218 (by decide) (fun h => absurd h (by decide)) (fun _ => ?_)
        refine lv_iload hx hb dL_isStep_221 (lv_at hl 2 rfl) ?_
        refine x_ifR_lt (x := (-1000004)) (tgt := 233) hx hb dL_isStep_223 (by decide) (fun _ => ?_) (fun h => absurd h (by decide))
        refine lv_iconst (v := 1) hx hb dL_isStep_233 (by decide +kernel) ?_
        refine lv_goto (tgt := 238) hx hb dL_isStep_234 (by decide) ?_
        refine lv_istore (lv' := [(10, .int 1), (9, .int (nI l0)), (8, .int 0), (7, .int (-1000004)), (6, .int (G 7 2)), (5, .int (G 7 1)), (4, .int (nI p0)), (3, .int yy), (0, .ref x), (1, .ref vA), (2, .int xx)]) hx hb dL_isStep_238 hl (by decide) rfl (fun ls hl => ?_)
        refine lv_iload hx hb dL_isStep_240 (lv_at hl 0 rfl) ?_
        refine x_ifR_eq (x := 1) (tgt := 324) hx hb dL_isStep_242 (by decide) (fun h => absurd h (by decide)) (fun _ => ?_)
        refine lv_aload_n hx hb dL_isStep_245 rfl (lv_at hl 8 rfl) ?_
        refine lv_iconst (v := 1) hx hb dL_isStep_246 (by decide +kernel) ?_
        refine x_callViB (wr := List.flatten [[(vA, .inl (cI, 64, .inl (upd V p0 (nI v0))))]]) (w2 := List.flatten [xTop x o h t r tb, sW cI o (wptG G (nI p0) (nI v0)), hH cS h (kpA k b) (nI (kpN k)), sW cI ((kpA k b) 0) ((kpG k Hs G) 0), sW cI ((kpA k b) 1) ((kpG k Hs G) 1), sW cI ((kpA k b) 2) ((kpG k Hs G) 2), sW cI ((kpA k b) 3) ((kpG k Hs G) 3), tW cI t T tn, rW3 r u q d, oW q f, sW cI u U, bW tb B, [(vA, .inl (cI, 64, .inl (upd V p0 (nI v0))))]]) (rest := []) (n := 1) C w hl [.int 1] (k_X6_count l D cI cS tys ht0 ht1 x o h (kpA k b) t r q u tb (wptG G (nI p0) (nI v0)) (kpN k) (kpG k Hs G) T tn f d U B 1 ) gL_isStep_X6_count rfl (by decide +kernel) ⟨Nat.le_of_ble_eq_true rfl, Nat.le_of_ble_eq_true rfl⟩ 0 6 rfl rfl rfl rfl (Nat.le_of_ble_eq_true rfl) (List.Perm.of_eq (by simp only [List.flatten_cons, List.flatten_nil, List.append_nil, List.append_assoc, List.nil_append])) (List.Perm.of_eq (by simp only [List.flatten_cons, List.flatten_nil, List.append_nil, List.append_assoc, List.nil_append])) ⟨Nat.zero_le _, Nat.zero_le _⟩ dL_isStep_247 (fun H locs w => ?_)
        refine x_top (y := ((G 7 1) + 0)) ((con_1 _ _ _).trans (h71.trans (i32_a0 _).symm)) ?_
        refine lv_iload hx hb dL_isStep_250 (lv_at hl 5 rfl) ?_
        refine lv_iload hx hb dL_isStep_252 (lv_at hl 3 rfl) ?_
        refine x_ifR_ge (x := (-1000004)) (tgt := 261) hx hb dL_isStep_254 (by decide) (fun h => absurd h (by decide)) (fun _ => ?_)
        refine lv_iconst (v := 0) hx hb dL_isStep_257 (by decide +kernel) ?_
        refine lv_goto (tgt := 262) hx hb dL_isStep_258 (by decide) ?_
        refine lv_iadd (x := (G 7 1)) (y := 0) hx hb dL_isStep_262 ?_
        refine x_icR_ne (x := ((G 7 1) + 0)) (y := ((G 7 1) + 0)) (tgt := 324) hx hb dL_isStep_263 (by decide) (fun c263_33 => ?_) (fun c263_33 => ?_)
        ·
          exact absurd rfl c263_33
        ·
          refine lv_aload_n hx hb dL_isStep_266 rfl (lv_at hl 8 rfl) ?_
          refine lv_iconst (v := 2) hx hb dL_isStep_267 (by decide +kernel) ?_
          refine x_callViB (wr := List.flatten [[(vA, .inl (cI, 64, .inl (upd V p0 (nI v0))))]]) (w2 := List.flatten [xTop x o h t r tb, sW cI o (wptG G (nI p0) (nI v0)), hH cS h (kpA k b) (nI (kpN k)), sW cI ((kpA k b) 0) ((kpG k Hs G) 0), sW cI ((kpA k b) 1) ((kpG k Hs G) 1), sW cI ((kpA k b) 2) ((kpG k Hs G) 2), sW cI ((kpA k b) 3) ((kpG k Hs G) 3), tW cI t T tn, rW3 r u q d, oW q f, sW cI u U, bW tb B, [(vA, .inl (cI, 64, .inl (upd V p0 (nI v0))))]]) (rest := []) (n := 1) C w hl [.int 2] (k_X6_count l D cI cS tys ht0 ht1 x o h (kpA k b) t r q u tb (wptG G (nI p0) (nI v0)) (kpN k) (kpG k Hs G) T tn f d U B 2 ) gL_isStep_X6_count rfl (by decide +kernel) ⟨Nat.le_of_ble_eq_true rfl, Nat.le_of_ble_eq_true rfl⟩ 0 6 rfl rfl rfl rfl (Nat.le_of_ble_eq_true rfl) (List.Perm.of_eq (by simp only [List.flatten_cons, List.flatten_nil, List.append_nil, List.append_assoc, List.nil_append])) (List.Perm.of_eq (by simp only [List.flatten_cons, List.flatten_nil, List.append_nil, List.append_assoc, List.nil_append])) ⟨Nat.zero_le _, Nat.zero_le _⟩ dL_isStep_268 (fun H locs w => ?_)
          refine x_top (y := ((G 7 2) + 1)) ((con_2 _ _ _).trans h72) ?_
          refine lv_iload hx hb dL_isStep_271 (lv_at hl 4 rfl) ?_
          refine lv_iload hx hb dL_isStep_273 (lv_at hl 3 rfl) ?_
          refine x_ifR_ge (x := (-1000004)) (tgt := 282) hx hb dL_isStep_275 (by decide) (fun h => absurd h (by decide)) (fun _ => ?_)
          refine lv_iconst (v := 1) hx hb dL_isStep_278 (by decide +kernel) ?_
          refine lv_goto (tgt := 283) hx hb dL_isStep_279 (by decide) ?_
          refine lv_iadd (x := (G 7 2)) (y := 1) hx hb dL_isStep_283 ?_
          refine x_icR_ne (x := ((G 7 2) + 1)) (y := ((G 7 2) + 1)) (tgt := 324) hx hb dL_isStep_284 (by decide) (fun c284_35 => ?_) (fun c284_35 => ?_)
          ·
            exact absurd rfl c284_35
          ·
            refine lv_aload_n hx hb dL_isStep_287 rfl (lv_at hl 8 rfl) ?_
            refine lv_iload hx hb dL_isStep_288 (lv_at hl 1 rfl) ?_
            refine lv_iconst (v := 2) hx hb dL_isStep_290 (by decide +kernel) ?_
            refine x_callViB (wr := List.flatten [[(vA, .inl (cI, 64, .inl (upd V p0 (nI v0))))]]) (w2 := List.flatten [xTop x o h t r tb, sW cI o (wptG G (nI p0) (nI v0)), hH cS h (kpA k b) (nI (kpN k)), sW cI ((kpA k b) 0) ((kpG k Hs G) 0), sW cI ((kpA k b) 1) ((kpG k Hs G) 1), sW cI ((kpA k b) 2) ((kpG k Hs G) 2), sW cI ((kpA k b) 3) ((kpG k Hs G) 3), tW cI t T tn, rW3 r u q d, oW q f, sW cI u U, bW tb B, [(vA, .inl (cI, 64, .inl (upd V p0 (nI v0))))]]) (rest := []) (n := 2) C w hl [.int (nI l0), .int 2] (k_X6_lineOf l D cI cS tys ht0 ht1 x o h (kpA k b) t r q u tb (wptG G (nI p0) (nI v0)) (kpN k) (kpG k Hs G) T tn f d U B (nI l0) 2 ) gL_isStep_X6_lineOf rfl (by decide +kernel) ⟨Nat.le_of_ble_eq_true rfl, Nat.le_of_ble_eq_true rfl⟩ 0 6 rfl rfl rfl rfl (Nat.le_of_ble_eq_true rfl) (List.Perm.of_eq (by simp only [List.flatten_cons, List.flatten_nil, List.append_nil, List.append_assoc, List.nil_append])) (List.Perm.of_eq (by simp only [List.flatten_cons, List.flatten_nil, List.append_nil, List.append_assoc, List.nil_append])) ⟨Nat.zero_le _, Nat.zero_le _⟩ dL_isStep_291 (fun H locs w => ?_)
            refine x_top (y := nI v0) ((lof2 hl0 (by rw [hk2]; decide)).trans hv4) ?_
            refine lv_aload_n hx hb dL_isStep_294 rfl (lv_at hl 9 rfl) ?_
            refine lv_iload hx hb dL_isStep_295 (lv_at hl 6 rfl) ?_
            refine x_iald (v := (upd V p0 (nI v0)) p0) C (x_pc (b := [(vA, .inl (cI, 64, .inl (upd V p0 (nI v0))))]) w 12 rfl) 0 0 (p0) rfl ht0 rfl (by omega) (by decide) rfl dL_isStep_297 ?_
            refine x_top (y := nI v0) (up_at _ _ _) ?_
            refine x_icN_ne (i := v0) (j := v0) (tgt := 324) hx hb (by omega) (by omega) dL_isStep_298 (by decide) (fun c298_36 => ?_) (fun c298_36 => ?_)
            ·
              exact absurd rfl c298_36
            ·
              refine lv_iload hx hb dL_isStep_301 (lv_at hl 2 rfl) ?_
              refine x_ifR_eq (x := 0) (tgt := 320) hx hb dL_isStep_303 (by decide) (fun _ => ?_) (fun h => absurd h (by decide))
              refine lv_iconst (v := 1) hx hb dL_isStep_320 (by decide +kernel) ?_
              refine lv_goto (tgt := 325) hx hb dL_isStep_321 (by decide) ?_
              exact x_zretJ C w (Or.inr rfl) rfl ⟨_, _, hLI2, _, _, _, _, _, _, _, _, _, (kpN_le k hk), rfl⟩ dL_isStep_325
    ·
      refine x_top (y := 1) ht ?_
      refine lv_istore (lv' := [(8, .int 1), (7, .int (-1000004)), (6, .int (G 7 2)), (5, .int (G 7 1)), (4, .int (nI p0)), (3, .int yy), (0, .ref x), (1, .ref vA), (2, .int xx)]) hx hb dL_isStep_180 hl (by decide) rfl (fun ls hl => ?_)
      refine lv_aload_n hx hb dL_isStep_182 rfl (lv_at hl 6 rfl) ?_
      refine lv_iload hx hb dL_isStep_183 (lv_at hl 4 rfl) ?_
      refine lv_iconst (v := 2) hx hb dL_isStep_185 (by decide +kernel) ?_
      refine x_callViB (wr := List.flatten [[(vA, .inl (cI, 64, .inl (upd V p0 (nI v0))))]]) (w2 := List.flatten [xTop x o h t r tb, sW cI o (wptG G (nI p0) (nI v0)), hH cS h (kpA k b) (nI (kpN k)), sW cI ((kpA k b) 0) ((kpG k Hs G) 0), sW cI ((kpA k b) 1) ((kpG k Hs G) 1), sW cI ((kpA k b) 2) ((kpG k Hs G) 2), sW cI ((kpA k b) 3) ((kpG k Hs G) 3), tW cI t T tn, rW3 r u q d, oW q f, sW cI u U, bW tb B, [(vA, .inl (cI, 64, .inl (upd V p0 (nI v0))))]]) (rest := []) (n := 2) C w hl [.int (nI p0), .int 2] (k_X6_placeOf l D cI cS tys ht0 ht1 x o h (kpA k b) t r q u tb (wptG G (nI p0) (nI v0)) (kpN k) (kpG k Hs G) T tn f d U B (nI p0) 2 ) gL_isStep_X6_placeOf rfl (by decide +kernel) ⟨Nat.le_of_ble_eq_true rfl, Nat.le_of_ble_eq_true rfl⟩ 0 6 rfl rfl rfl rfl (Nat.le_of_ble_eq_true rfl) (List.Perm.of_eq (by simp only [List.flatten_cons, List.flatten_nil, List.append_nil, List.append_assoc, List.nil_append])) (List.Perm.of_eq (by simp only [List.flatten_cons, List.flatten_nil, List.append_nil, List.append_assoc, List.nil_append])) ⟨Nat.zero_le _, Nat.zero_le _⟩ dL_isStep_186 (fun H locs w => ?_)
      refine x_top (y := nI l0) (pof2_y hp0 hl0 hh2) ?_
      refine lv_istore (lv' := [(9, .int (nI l0)), (8, .int 1), (7, .int (-1000004)), (6, .int (G 7 2)), (5, .int (G 7 1)), (4, .int (nI p0)), (3, .int yy), (0, .ref x), (1, .ref vA), (2, .int xx)]) hx hb dL_isStep_189 hl (by decide) rfl (fun ls hl => ?_)
      refine lv_iload hx hb dL_isStep_191 (lv_at hl 1 rfl) ?_
      refine x_ifR_eq (x := 1) (tgt := 202) hx hb dL_isStep_193 (by decide) (fun h => absurd h (by decide)) (fun _ => ?_)
      refine lv_iload hx hb dL_isStep_196 (lv_at hl 1 rfl) ?_
      refine lv_iconst (v := 1) hx hb dL_isStep_198 (by decide +kernel) ?_
      refine x_icR_ne (x := 1) (y := 1) (tgt := 237) hx hb dL_isStep_199 (by decide) (fun h => absurd h (by decide)) (fun _ => ?_)
      refine lv_iload hx hb dL_isStep_202 (lv_at hl 0 rfl) ?_
      refine x_ifR_lt (x := nI l0) (tgt := 237) hx hb dL_isStep_204 (by decide) (fun c204_40 => ?_) (fun c204_40 => ?_)
      ·
        exact absurd c204_40 (nI_pos (by omega))
      ·
        refine lv_aload_n hx hb dL_isStep_207 rfl (lv_at hl 7 rfl) ?_
        refine lv_iload hx hb dL_isStep_208 (lv_at hl 0 rfl) ?_
        refine lv_iconst (v := 0) hx hb dL_isStep_210 (by decide +kernel) ?_
        refine x_callViB (wr := List.flatten [[(vA, .inl (cI, 64, .inl (upd V p0 (nI v0))))]]) (w2 := List.flatten [xTop x o h t r tb, sW cI o (wptG G (nI p0) (nI v0)), hH cS h (kpA k b) (nI (kpN k)), sW cI ((kpA k b) 0) ((kpG k Hs G) 0), sW cI ((kpA k b) 1) ((kpG k Hs G) 1), sW cI ((kpA k b) 2) ((kpG k Hs G) 2), sW cI ((kpA k b) 3) ((kpG k Hs G) 3), tW cI t T tn, rW3 r u q d, oW q f, sW cI u U, bW tb B, [(vA, .inl (cI, 64, .inl (upd V p0 (nI v0))))]]) (rest := []) (n := 2) C w hl [.int (nI l0), .int 0] (k_X6_lineOf l D cI cS tys ht0 ht1 x o h (kpA k b) t r q u tb (wptG G (nI p0) (nI v0)) (kpN k) (kpG k Hs G) T tn f d U B (nI l0) 0 ) gL_isStep_X6_lineOf rfl (by decide +kernel) ⟨Nat.le_of_ble_eq_true rfl, Nat.le_of_ble_eq_true rfl⟩ 0 6 rfl rfl rfl rfl (Nat.le_of_ble_eq_true rfl) (List.Perm.of_eq (by simp only [List.flatten_cons, List.flatten_nil, List.append_nil, List.append_assoc, List.nil_append])) (List.Perm.of_eq (by simp only [List.flatten_cons, List.flatten_nil, List.append_nil, List.append_assoc, List.nil_append])) ⟨Nat.zero_le _, Nat.zero_le _⟩ dL_isStep_211 (fun H locs w => ?_)
        refine x_top (y := 1) ((lof0 _ hl0).trans hk2) ?_
        refine lv_iconst (v := 2) hx hb dL_isStep_214 (by decide +kernel) ?_
        refine lv_iload hx hb dL_isStep_215 (lv_at hl 1 rfl) ?_
        refine lv_isub (x := 2) (y := 1) hx hb dL_isStep_217 ?_
        refine x_top (y := 1) (by decide +kernel) ?_
        refine x_icR_ne (x := 1) (y := 1) (tgt := 237) hx hb dL_isStep_218 (by decide) (fun h => absurd h (by decide)) (fun _ => ?_)
        refine lv_iload hx hb dL_isStep_221 (lv_at hl 2 rfl) ?_
        refine x_ifR_lt (x := (-1000004)) (tgt := 233) hx hb dL_isStep_223 (by decide) (fun _ => ?_) (fun h => absurd h (by decide))
        refine lv_iconst (v := 1) hx hb dL_isStep_233 (by decide +kernel) ?_
        refine lv_goto (tgt := 238) hx hb dL_isStep_234 (by decide) ?_
        refine lv_istore (lv' := [(10, .int 1), (9, .int (nI l0)), (8, .int 1), (7, .int (-1000004)), (6, .int (G 7 2)), (5, .int (G 7 1)), (4, .int (nI p0)), (3, .int yy), (0, .ref x), (1, .ref vA), (2, .int xx)]) hx hb dL_isStep_238 hl (by decide) rfl (fun ls hl => ?_)
        refine lv_iload hx hb dL_isStep_240 (lv_at hl 0 rfl) ?_
        refine x_ifR_eq (x := 1) (tgt := 324) hx hb dL_isStep_242 (by decide) (fun h => absurd h (by decide)) (fun _ => ?_)
        refine lv_aload_n hx hb dL_isStep_245 rfl (lv_at hl 8 rfl) ?_
        refine lv_iconst (v := 1) hx hb dL_isStep_246 (by decide +kernel) ?_
        refine x_callViB (wr := List.flatten [[(vA, .inl (cI, 64, .inl (upd V p0 (nI v0))))]]) (w2 := List.flatten [xTop x o h t r tb, sW cI o (wptG G (nI p0) (nI v0)), hH cS h (kpA k b) (nI (kpN k)), sW cI ((kpA k b) 0) ((kpG k Hs G) 0), sW cI ((kpA k b) 1) ((kpG k Hs G) 1), sW cI ((kpA k b) 2) ((kpG k Hs G) 2), sW cI ((kpA k b) 3) ((kpG k Hs G) 3), tW cI t T tn, rW3 r u q d, oW q f, sW cI u U, bW tb B, [(vA, .inl (cI, 64, .inl (upd V p0 (nI v0))))]]) (rest := []) (n := 1) C w hl [.int 1] (k_X6_count l D cI cS tys ht0 ht1 x o h (kpA k b) t r q u tb (wptG G (nI p0) (nI v0)) (kpN k) (kpG k Hs G) T tn f d U B 1 ) gL_isStep_X6_count rfl (by decide +kernel) ⟨Nat.le_of_ble_eq_true rfl, Nat.le_of_ble_eq_true rfl⟩ 0 6 rfl rfl rfl rfl (Nat.le_of_ble_eq_true rfl) (List.Perm.of_eq (by simp only [List.flatten_cons, List.flatten_nil, List.append_nil, List.append_assoc, List.nil_append])) (List.Perm.of_eq (by simp only [List.flatten_cons, List.flatten_nil, List.append_nil, List.append_assoc, List.nil_append])) ⟨Nat.zero_le _, Nat.zero_le _⟩ dL_isStep_247 (fun H locs w => ?_)
        refine x_top (y := ((G 7 1) + 0)) ((con_1 _ _ _).trans (h71.trans (i32_a0 _).symm)) ?_
        refine lv_iload hx hb dL_isStep_250 (lv_at hl 5 rfl) ?_
        refine lv_iload hx hb dL_isStep_252 (lv_at hl 3 rfl) ?_
        refine x_ifR_ge (x := (-1000004)) (tgt := 261) hx hb dL_isStep_254 (by decide) (fun h => absurd h (by decide)) (fun _ => ?_)
        refine lv_iconst (v := 0) hx hb dL_isStep_257 (by decide +kernel) ?_
        refine lv_goto (tgt := 262) hx hb dL_isStep_258 (by decide) ?_
        refine lv_iadd (x := (G 7 1)) (y := 0) hx hb dL_isStep_262 ?_
        refine x_icR_ne (x := ((G 7 1) + 0)) (y := ((G 7 1) + 0)) (tgt := 324) hx hb dL_isStep_263 (by decide) (fun c263_45 => ?_) (fun c263_45 => ?_)
        ·
          exact absurd rfl c263_45
        ·
          refine lv_aload_n hx hb dL_isStep_266 rfl (lv_at hl 8 rfl) ?_
          refine lv_iconst (v := 2) hx hb dL_isStep_267 (by decide +kernel) ?_
          refine x_callViB (wr := List.flatten [[(vA, .inl (cI, 64, .inl (upd V p0 (nI v0))))]]) (w2 := List.flatten [xTop x o h t r tb, sW cI o (wptG G (nI p0) (nI v0)), hH cS h (kpA k b) (nI (kpN k)), sW cI ((kpA k b) 0) ((kpG k Hs G) 0), sW cI ((kpA k b) 1) ((kpG k Hs G) 1), sW cI ((kpA k b) 2) ((kpG k Hs G) 2), sW cI ((kpA k b) 3) ((kpG k Hs G) 3), tW cI t T tn, rW3 r u q d, oW q f, sW cI u U, bW tb B, [(vA, .inl (cI, 64, .inl (upd V p0 (nI v0))))]]) (rest := []) (n := 1) C w hl [.int 2] (k_X6_count l D cI cS tys ht0 ht1 x o h (kpA k b) t r q u tb (wptG G (nI p0) (nI v0)) (kpN k) (kpG k Hs G) T tn f d U B 2 ) gL_isStep_X6_count rfl (by decide +kernel) ⟨Nat.le_of_ble_eq_true rfl, Nat.le_of_ble_eq_true rfl⟩ 0 6 rfl rfl rfl rfl (Nat.le_of_ble_eq_true rfl) (List.Perm.of_eq (by simp only [List.flatten_cons, List.flatten_nil, List.append_nil, List.append_assoc, List.nil_append])) (List.Perm.of_eq (by simp only [List.flatten_cons, List.flatten_nil, List.append_nil, List.append_assoc, List.nil_append])) ⟨Nat.zero_le _, Nat.zero_le _⟩ dL_isStep_268 (fun H locs w => ?_)
          refine x_top (y := ((G 7 2) + 1)) ((con_2 _ _ _).trans h72) ?_
          refine lv_iload hx hb dL_isStep_271 (lv_at hl 4 rfl) ?_
          refine lv_iload hx hb dL_isStep_273 (lv_at hl 3 rfl) ?_
          refine x_ifR_ge (x := (-1000004)) (tgt := 282) hx hb dL_isStep_275 (by decide) (fun h => absurd h (by decide)) (fun _ => ?_)
          refine lv_iconst (v := 1) hx hb dL_isStep_278 (by decide +kernel) ?_
          refine lv_goto (tgt := 283) hx hb dL_isStep_279 (by decide) ?_
          refine lv_iadd (x := (G 7 2)) (y := 1) hx hb dL_isStep_283 ?_
          refine x_icR_ne (x := ((G 7 2) + 1)) (y := ((G 7 2) + 1)) (tgt := 324) hx hb dL_isStep_284 (by decide) (fun c284_47 => ?_) (fun c284_47 => ?_)
          ·
            exact absurd rfl c284_47
          ·
            refine lv_aload_n hx hb dL_isStep_287 rfl (lv_at hl 8 rfl) ?_
            refine lv_iload hx hb dL_isStep_288 (lv_at hl 1 rfl) ?_
            refine lv_iconst (v := 2) hx hb dL_isStep_290 (by decide +kernel) ?_
            refine x_callViB (wr := List.flatten [[(vA, .inl (cI, 64, .inl (upd V p0 (nI v0))))]]) (w2 := List.flatten [xTop x o h t r tb, sW cI o (wptG G (nI p0) (nI v0)), hH cS h (kpA k b) (nI (kpN k)), sW cI ((kpA k b) 0) ((kpG k Hs G) 0), sW cI ((kpA k b) 1) ((kpG k Hs G) 1), sW cI ((kpA k b) 2) ((kpG k Hs G) 2), sW cI ((kpA k b) 3) ((kpG k Hs G) 3), tW cI t T tn, rW3 r u q d, oW q f, sW cI u U, bW tb B, [(vA, .inl (cI, 64, .inl (upd V p0 (nI v0))))]]) (rest := []) (n := 2) C w hl [.int (nI l0), .int 2] (k_X6_lineOf l D cI cS tys ht0 ht1 x o h (kpA k b) t r q u tb (wptG G (nI p0) (nI v0)) (kpN k) (kpG k Hs G) T tn f d U B (nI l0) 2 ) gL_isStep_X6_lineOf rfl (by decide +kernel) ⟨Nat.le_of_ble_eq_true rfl, Nat.le_of_ble_eq_true rfl⟩ 0 6 rfl rfl rfl rfl (Nat.le_of_ble_eq_true rfl) (List.Perm.of_eq (by simp only [List.flatten_cons, List.flatten_nil, List.append_nil, List.append_assoc, List.nil_append])) (List.Perm.of_eq (by simp only [List.flatten_cons, List.flatten_nil, List.append_nil, List.append_assoc, List.nil_append])) ⟨Nat.zero_le _, Nat.zero_le _⟩ dL_isStep_291 (fun H locs w => ?_)
            refine x_top (y := nI v0) ((lof2 hl0 (by rw [hk2]; decide)).trans hv4) ?_
            refine lv_aload_n hx hb dL_isStep_294 rfl (lv_at hl 9 rfl) ?_
            refine lv_iload hx hb dL_isStep_295 (lv_at hl 6 rfl) ?_
            refine x_iald (v := (upd V p0 (nI v0)) p0) C (x_pc (b := [(vA, .inl (cI, 64, .inl (upd V p0 (nI v0))))]) w 12 rfl) 0 0 (p0) rfl ht0 rfl (by omega) (by decide) rfl dL_isStep_297 ?_
            refine x_top (y := nI v0) (up_at _ _ _) ?_
            refine x_icN_ne (i := v0) (j := v0) (tgt := 324) hx hb (by omega) (by omega) dL_isStep_298 (by decide) (fun c298_48 => ?_) (fun c298_48 => ?_)
            ·
              exact absurd rfl c298_48
            ·
              refine lv_iload hx hb dL_isStep_301 (lv_at hl 2 rfl) ?_
              refine x_ifR_eq (x := 1) (tgt := 320) hx hb dL_isStep_303 (by decide) (fun h => absurd h (by decide)) (fun _ => ?_)
              refine lv_aload_n hx hb dL_isStep_306 rfl (lv_at hl 8 rfl) ?_
              refine lv_iload hx hb dL_isStep_307 (lv_at hl 6 rfl) ?_
              refine lv_iconst (v := 0) hx hb dL_isStep_309 (by decide +kernel) ?_
              refine x_callViB (wr := List.flatten [[(vA, .inl (cI, 64, .inl (upd V p0 (nI v0))))]]) (w2 := List.flatten [xTop x o h t r tb, sW cI o (wptG G (nI p0) (nI v0)), hH cS h (kpA k b) (nI (kpN k)), sW cI ((kpA k b) 0) ((kpG k Hs G) 0), sW cI ((kpA k b) 1) ((kpG k Hs G) 1), sW cI ((kpA k b) 2) ((kpG k Hs G) 2), sW cI ((kpA k b) 3) ((kpG k Hs G) 3), tW cI t T tn, rW3 r u q d, oW q f, sW cI u U, bW tb B, [(vA, .inl (cI, 64, .inl (upd V p0 (nI v0))))]]) (rest := []) (n := 2) C w hl [.int (nI p0), .int 0] (k_X6_placeOf l D cI cS tys ht0 ht1 x o h (kpA k b) t r q u tb (wptG G (nI p0) (nI v0)) (kpN k) (kpG k Hs G) T tn f d U B (nI p0) 0 ) gL_isStep_X6_placeOf rfl (by decide +kernel) ⟨Nat.le_of_ble_eq_true rfl, Nat.le_of_ble_eq_true rfl⟩ 0 6 rfl rfl rfl rfl (Nat.le_of_ble_eq_true rfl) (List.Perm.of_eq (by simp only [List.flatten_cons, List.flatten_nil, List.append_nil, List.append_assoc, List.nil_append])) (List.Perm.of_eq (by simp only [List.flatten_cons, List.flatten_nil, List.append_nil, List.append_assoc, List.nil_append])) ⟨Nat.zero_le _, Nat.zero_le _⟩ dL_isStep_310 (fun H locs w => ?_)
              refine x_top (y := nI v0) ((pof0 _ hp0).trans hd0) ?_
              refine lv_aload_n hx hb dL_isStep_313 rfl (lv_at hl 9 rfl) ?_
              refine lv_iload hx hb dL_isStep_314 (lv_at hl 6 rfl) ?_
              refine x_iald (v := (upd V p0 (nI v0)) p0) C (x_pc (b := [(vA, .inl (cI, 64, .inl (upd V p0 (nI v0))))]) w 12 rfl) 0 0 (p0) rfl ht0 rfl (by omega) (by decide) rfl dL_isStep_316 ?_
              refine x_top (y := nI v0) (up_at _ _ _) ?_
              refine x_icN_ne (i := v0) (j := v0) (tgt := 324) hx hb (by omega) (by omega) dL_isStep_317 (by decide) (fun c317_50 => ?_) (fun c317_50 => ?_)
              ·
                exact absurd rfl c317_50
              ·
                refine lv_iconst (v := 1) hx hb dL_isStep_320 (by decide +kernel) ?_
                refine lv_goto (tgt := 325) hx hb dL_isStep_321 (by decide) ?_
                exact x_zretJ C w (Or.inr rfl) rfl ⟨_, _, hLI2, _, _, _, _, _, _, _, _, _, (kpN_le k hk), rfl⟩ dL_isStep_325
set_option maxHeartbeats 1000000 in
set_option maxRecDepth 100000 in
theorem sF_326 {p : Program} {l : Launch} {e : Env} {s : State} {m : MethodId} {args : Array Value} {below : List Frame} {meth : Method} {c : Code} {A : Nat → Prop} {D : va_G} {cI cS : ClassId} {tys : List (ClassId × FieldType)} (ht0 : tys[0]? = some (cI, .int)) (ht1 : tys[1]? = some (cS, .object RX4)) (C : xC p s m meth c args cL_isStep 11 wsL_isStep RL D tys (some .boolean)) {x : Nat} {o : Nat → Nat} {h : Nat → Nat} {b : Nat → Nat → Nat} {t : Nat → Nat} {r : Nat} {q : Nat} {u : Nat → Nat} {tb : Nat} {G : St} {k : Nat} {Hs : Nat → St} {T : Nat → Int32} {tn : Int32} {f : Nat → Int32} {d : Int32} {U : St} {B : St} {vA : Nat} {V : Nat → Int32} {xx yy : Int32} {p0 : Nat} (hLI : LI G V) (hk : k ≤ 4) (hp0 : p0 < 64) {H : Heap} {locs : List Loc} (w : xW D A s.heap (List.flatten [xTop x o h t r tb, sW cI o G, hH cS h b (nI k), sW cI (b 0) (Hs 0), sW cI (b 1) (Hs 1), sW cI (b 2) (Hs 2), sW cI (b 3) (Hs 3), tW cI t T tn, rW3 r u q d, oW q f, sW cI u U, bW tb B, [(vA, .inl (cI, 64, .inl V))]]) H locs) {ls : Array Slot} (hl : lv_has ls 11 [(4, .int (nI p0)), (3, .int yy), (0, .ref x), (1, .ref vA), (2, .int xx)]) : W p l e (rmd 6) s m args below meth c H locs 0 0 (MQ below (xQJ D tys 1 (okE cI cS x o h t r q u tb vA) A) args s 0 0 A) (F0 m 326 ls []) := by
  have hx := C.1.1
  have hb := C.1.2.1
  have hts := C.1.2.2.2.2
  have hown := C.1.2.2.2.1
  refine lv_aload_n hx hb dL_isStep_326 rfl (lv_at hl 2 rfl) ?_
  refine lv_iconst (v := 2) hx hb dL_isStep_327 (by decide +kernel) ?_
  refine x_callViB (wr := List.flatten [[(vA, .inl (cI, 64, .inl V))]]) (w2 := List.flatten [xTop x o h t r tb, sW cI o G, hH cS h b (nI k), sW cI (b 0) (Hs 0), sW cI (b 1) (Hs 1), sW cI (b 2) (Hs 2), sW cI (b 3) (Hs 3), tW cI t T tn, rW3 r u q d, oW q f, sW cI u U, bW tb B, [(vA, .inl (cI, 64, .inl V))]]) (rest := []) (n := 1) C w hl [.int 2] (k_X6_lines l D cI cS tys ht0 ht1 x o h b t r q u tb G k Hs T tn f d U B 2 ) gL_isStep_X6_lines rfl (by decide +kernel) ⟨Nat.le_of_ble_eq_true rfl, Nat.le_of_ble_eq_true rfl⟩ 0 6 rfl rfl rfl rfl (Nat.le_of_ble_eq_true rfl) (List.Perm.of_eq (by simp only [List.flatten_cons, List.flatten_nil, List.append_nil, List.append_assoc, List.nil_append])) (List.Perm.of_eq (by simp only [List.flatten_cons, List.flatten_nil, List.append_nil, List.append_assoc, List.nil_append])) ⟨Nat.zero_le _, Nat.zero_le _⟩ dL_isStep_328 (fun H locs w => ?_)
  refine x_top (y := (setI G 2)) (lin_2 _) ?_
  refine lv_istore (lv' := [(5, .int (setI G 2)), (4, .int (nI p0)), (3, .int yy), (0, .ref x), (1, .ref vA), (2, .int xx)]) hx hb dL_isStep_331 hl (by decide) rfl (fun ls hl => ?_)
  refine lv_aload_n hx hb dL_isStep_333 rfl (lv_at hl 3 rfl) ?_
  refine lv_iconst (v := 3) hx hb dL_isStep_334 (by decide +kernel) ?_
  refine x_callViB (wr := List.flatten [[(vA, .inl (cI, 64, .inl V))]]) (w2 := List.flatten [xTop x o h t r tb, sW cI o G, hH cS h b (nI k), sW cI (b 0) (Hs 0), sW cI (b 1) (Hs 1), sW cI (b 2) (Hs 2), sW cI (b 3) (Hs 3), tW cI t T tn, rW3 r u q d, oW q f, sW cI u U, bW tb B, [(vA, .inl (cI, 64, .inl V))]]) (rest := []) (n := 1) C w hl [.int 3] (k_X6_count l D cI cS tys ht0 ht1 x o h b t r q u tb G k Hs T tn f d U B 3 ) gL_isStep_X6_count rfl (by decide +kernel) ⟨Nat.le_of_ble_eq_true rfl, Nat.le_of_ble_eq_true rfl⟩ 0 6 rfl rfl rfl rfl (Nat.le_of_ble_eq_true rfl) (List.Perm.of_eq (by simp only [List.flatten_cons, List.flatten_nil, List.append_nil, List.append_assoc, List.nil_append])) (List.Perm.of_eq (by simp only [List.flatten_cons, List.flatten_nil, List.append_nil, List.append_assoc, List.nil_append])) ⟨Nat.zero_le _, Nat.zero_le _⟩ dL_isStep_335 (fun H locs w => ?_)
  refine x_top (y := (G 7 3)) (con_3 _ _ _) ?_
  refine lv_istore (lv' := [(6, .int (G 7 3)), (5, .int (setI G 2)), (4, .int (nI p0)), (3, .int yy), (0, .ref x), (1, .ref vA), (2, .int xx)]) hx hb dL_isStep_338 hl (by decide) rfl (fun ls hl => ?_)
  refine lv_aload_n hx hb dL_isStep_340 rfl (lv_at hl 4 rfl) ?_
  refine lv_iconst (v := 1) hx hb dL_isStep_341 (by decide +kernel) ?_
  refine lv_iload_n hx hb dL_isStep_342 rfl (lv_at hl 3 rfl) ?_
  refine lv_bipush (v := 30) hx hb dL_isStep_343 (by decide +kernel) ?_
  refine x_callSiB (wr := List.flatten [xTop x o h t r tb, sW cI o G, hH cS h b (nI k), sW cI (b 0) (Hs 0), sW cI (b 1) (Hs 1), sW cI (b 2) (Hs 2), sW cI (b 3) (Hs 3), tW cI t T tn, rW3 r u q d, oW q f, sW cI u U, bW tb B, [(vA, .inl (cI, 64, .inl V))]]) (w2 := List.flatten [xTop x o h t r tb, sW cI o G, hH cS h b (nI k), sW cI (b 0) (Hs 0), sW cI (b 1) (Hs 1), sW cI (b 2) (Hs 2), sW cI (b 3) (Hs 3), tW cI t T tn, rW3 r u q d, oW q f, sW cI u U, bW tb B, [(vA, .inl (cI, 64, .inl V))]]) (rest := [.int 1, .ref x]) (n := 2) C w hl [.int yy, .int 30] (k_L_up l D cI cS tys ht0 yy 30 (by decide)) gL_isStep_L_up rfl (by decide +kernel) ⟨Nat.le_of_ble_eq_true rfl, Nat.le_of_ble_eq_true rfl⟩ rfl rfl (Nat.le_of_ble_eq_true rfl) (List.Perm.refl _) (List.Perm.refl _) ⟨Nat.zero_le _, Nat.zero_le _⟩ dL_isStep_345 (fun H locs w => ?_)
  obtain ⟨m0, hm0, em0⟩ := up_ex yy 30 (by decide) (by decide)
  refine x_top (y := nI m0) em0 ?_
  refine x_iaddN (i := 1) (j := m0) hx hb dL_isStep_348 ?_
  refine x_callViB (wr := List.flatten [[(vA, .inl (cI, 64, .inl V))]]) (w2 := List.flatten [xTop x o h t r tb, sW cI o (tksG G (ix (nI (1 + m0)))), hH cS h (kpA k b) (nI (kpN k)), sW cI ((kpA k b) 0) ((kpG k Hs G) 0), sW cI ((kpA k b) 1) ((kpG k Hs G) 1), sW cI ((kpA k b) 2) ((kpG k Hs G) 2), sW cI ((kpA k b) 3) ((kpG k Hs G) 3), tW cI t T tn, rW3 r u q d, oW q f, sW cI u U, bW tb B, [(vA, .inl (cI, 64, .inl V))]]) (rest := []) (n := 1) C w hl [.int (nI (1 + m0))] (k_X6_tick_ok l D cI cS tys ht0 ht1 x o h b t r q u tb G k Hs T tn f d U B (nI (1 + m0)) (wth_n (a := 1) (b := 99) rfl rfl (by omega) (by omega) (by decide)) hk) gL_isStep_X6_tick rfl (by decide +kernel) ⟨Nat.le_of_ble_eq_true rfl, Nat.le_of_ble_eq_true rfl⟩ 0 6 rfl rfl rfl rfl (Nat.le_of_ble_eq_true rfl) (List.Perm.of_eq (by simp only [List.flatten_cons, List.flatten_nil, List.append_nil, List.append_assoc, List.nil_append])) (List.Perm.of_eq (by simp only [List.flatten_cons, List.flatten_nil, List.append_nil, List.append_assoc, List.nil_append])) ⟨Nat.zero_le _, Nat.zero_le _⟩ dL_isStep_349 (fun H locs w => ?_)
  refine lv_istore (lv' := [(7, .int ((tksG G (ix (nI (1 + m0)))) 7 3 - G 7 3)), (6, .int (G 7 3)), (5, .int (setI G 2)), (4, .int (nI p0)), (3, .int yy), (0, .ref x), (1, .ref vA), (2, .int xx)]) hx hb dL_isStep_352 hl (by decide) rfl (fun ls hl => ?_)
  refine lv_aload_n hx hb dL_isStep_354 rfl (lv_at hl 5 rfl) ?_
  refine lv_iconst (v := 3) hx hb dL_isStep_355 (by decide +kernel) ?_
  refine x_callViB (wr := List.flatten [[(vA, .inl (cI, 64, .inl V))]]) (w2 := List.flatten [xTop x o h t r tb, sW cI o (tksG G (ix (nI (1 + m0)))), hH cS h (kpA k b) (nI (kpN k)), sW cI ((kpA k b) 0) ((kpG k Hs G) 0), sW cI ((kpA k b) 1) ((kpG k Hs G) 1), sW cI ((kpA k b) 2) ((kpG k Hs G) 2), sW cI ((kpA k b) 3) ((kpG k Hs G) 3), tW cI t T tn, rW3 r u q d, oW q f, sW cI u U, bW tb B, [(vA, .inl (cI, 64, .inl V))]]) (rest := []) (n := 1) C w hl [.int 3] (k_X6_count l D cI cS tys ht0 ht1 x o h (kpA k b) t r q u tb (tksG G (ix (nI (1 + m0)))) (kpN k) (kpG k Hs G) T tn f d U B 3 ) gL_isStep_X6_count rfl (by decide +kernel) ⟨Nat.le_of_ble_eq_true rfl, Nat.le_of_ble_eq_true rfl⟩ 0 6 rfl rfl rfl rfl (Nat.le_of_ble_eq_true rfl) (List.Perm.of_eq (by simp only [List.flatten_cons, List.flatten_nil, List.append_nil, List.append_assoc, List.nil_append])) (List.Perm.of_eq (by simp only [List.flatten_cons, List.flatten_nil, List.append_nil, List.append_assoc, List.nil_append])) ⟨Nat.zero_le _, Nat.zero_le _⟩ dL_isStep_356 (fun H locs w => ?_)
  refine x_top (y := ((tksG G (ix (nI (1 + m0)))) 7 3)) (con_3 _ _ _) ?_
  refine lv_iload hx hb dL_isStep_359 (lv_at hl 1 rfl) ?_
  refine lv_iload hx hb dL_isStep_361 (lv_at hl 0 rfl) ?_
  refine lv_iadd (x := (G 7 3)) (y := ((tksG G (ix (nI (1 + m0)))) 7 3 - G 7 3)) hx hb dL_isStep_363 ?_
  refine x_icR_ne (x := ((tksG G (ix (nI (1 + m0)))) 7 3)) (y := ((G 7 3) + ((tksG G (ix (nI (1 + m0)))) 7 3 - G 7 3))) (tgt := 384) hx hb dL_isStep_364 (by decide) (fun c364_1 => ?_) (fun c364_1 => ?_)
  ·
    exact absurd (i32_back _ _) c364_1
  ·
    refine lv_aload_n hx hb dL_isStep_367 rfl (lv_at hl 5 rfl) ?_
    refine lv_iconst (v := 2) hx hb dL_isStep_368 (by decide +kernel) ?_
    refine x_callViB (wr := List.flatten [[(vA, .inl (cI, 64, .inl V))]]) (w2 := List.flatten [xTop x o h t r tb, sW cI o (tksG G (ix (nI (1 + m0)))), hH cS h (kpA k b) (nI (kpN k)), sW cI ((kpA k b) 0) ((kpG k Hs G) 0), sW cI ((kpA k b) 1) ((kpG k Hs G) 1), sW cI ((kpA k b) 2) ((kpG k Hs G) 2), sW cI ((kpA k b) 3) ((kpG k Hs G) 3), tW cI t T tn, rW3 r u q d, oW q f, sW cI u U, bW tb B, [(vA, .inl (cI, 64, .inl V))]]) (rest := []) (n := 1) C w hl [.int 2] (k_X6_lines l D cI cS tys ht0 ht1 x o h (kpA k b) t r q u tb (tksG G (ix (nI (1 + m0)))) (kpN k) (kpG k Hs G) T tn f d U B 2 ) gL_isStep_X6_lines rfl (by decide +kernel) ⟨Nat.le_of_ble_eq_true rfl, Nat.le_of_ble_eq_true rfl⟩ 0 6 rfl rfl rfl rfl (Nat.le_of_ble_eq_true rfl) (List.Perm.of_eq (by simp only [List.flatten_cons, List.flatten_nil, List.append_nil, List.append_assoc, List.nil_append])) (List.Perm.of_eq (by simp only [List.flatten_cons, List.flatten_nil, List.append_nil, List.append_assoc, List.nil_append])) ⟨Nat.zero_le _, Nat.zero_le _⟩ dL_isStep_369 (fun H locs w => ?_)
    refine x_top (y := (setI (tksG G (ix (nI (1 + m0)))) 2)) (lin_2 _) ?_
    refine lv_iload hx hb dL_isStep_372 (lv_at hl 2 rfl) ?_
    refine lv_iconst (v := -1) hx hb dL_isStep_374 (by decide +kernel) ?_
    refine lv_ixor (x := (setI G 2)) (y := (-1)) hx hb dL_isStep_375 ?_
    refine lv_iand (x := (setI (tksG G (ix (nI (1 + m0)))) 2)) (y := ((setI G 2) ^^^ (-1))) hx hb dL_isStep_376 ?_
    refine x_ifR_ne (x := ((setI (tksG G (ix (nI (1 + m0)))) 2) &&& ((setI G 2) ^^^ (-1)))) (tgt := 384) hx hb dL_isStep_377 (by decide) (fun c377_2 => ?_) (fun c377_2 => ?_)
    ·
      exact absurd (dS_and (dS_tks G _)) c377_2
    ·
      refine lv_iconst (v := 1) hx hb dL_isStep_380 (by decide +kernel) ?_
      refine lv_goto (tgt := 385) hx hb dL_isStep_381 (by decide) ?_
      exact x_zretJ C w (Or.inr rfl) rfl ⟨_, _, (LI_tks hLI _), _, _, _, _, _, _, _, _, _, (kpN_le k hk), rfl⟩ dL_isStep_385
set_option maxHeartbeats 1000000 in
set_option maxRecDepth 100000 in
theorem sF_386 {p : Program} {l : Launch} {e : Env} {s : State} {m : MethodId} {args : Array Value} {below : List Frame} {meth : Method} {c : Code} {A : Nat → Prop} {D : va_G} {cI cS : ClassId} {tys : List (ClassId × FieldType)} (ht0 : tys[0]? = some (cI, .int)) (ht1 : tys[1]? = some (cS, .object RX4)) (C : xC p s m meth c args cL_isStep 11 wsL_isStep RL D tys (some .boolean)) {x : Nat} {o : Nat → Nat} {h : Nat → Nat} {b : Nat → Nat → Nat} {t : Nat → Nat} {r : Nat} {q : Nat} {u : Nat → Nat} {tb : Nat} {G : St} {k : Nat} {Hs : Nat → St} {T : Nat → Int32} {tn : Int32} {f : Nat → Int32} {d : Int32} {U : St} {B : St} {vA : Nat} {V : Nat → Int32} {xx yy : Int32} {p0 : Nat} (hLI : LI G V) (hk : k ≤ 4) (hp0 : p0 < 64) {H : Heap} {locs : List Loc} (w : xW D A s.heap (List.flatten [xTop x o h t r tb, sW cI o G, hH cS h b (nI k), sW cI (b 0) (Hs 0), sW cI (b 1) (Hs 1), sW cI (b 2) (Hs 2), sW cI (b 3) (Hs 3), tW cI t T tn, rW3 r u q d, oW q f, sW cI u U, bW tb B, [(vA, .inl (cI, 64, .inl V))]]) H locs) {ls : Array Slot} (hl : lv_has ls 11 [(4, .int (nI p0)), (3, .int yy), (0, .ref x), (1, .ref vA), (2, .int xx)]) : W p l e (rmd 6) s m args below meth c H locs 0 0 (MQ below (xQJ D tys 1 (okE cI cS x o h t r q u tb vA) A) args s 0 0 A) (F0 m 386 ls []) := by
  have hx := C.1.1
  have hb := C.1.2.1
  have hts := C.1.2.2.2.2
  have hown := C.1.2.2.2.1
  refine lv_iconst (v := 1) hx hb dL_isStep_386 (by decide +kernel) ?_
  refine lv_iload_n hx hb dL_isStep_387 rfl (lv_at hl 1 rfl) ?_
  refine lv_sipush (v := 600) hx hb dL_isStep_388 (by decide +kernel) ?_
  refine x_callSiB (wr := List.flatten [xTop x o h t r tb, sW cI o G, hH cS h b (nI k), sW cI (b 0) (Hs 0), sW cI (b 1) (Hs 1), sW cI (b 2) (Hs 2), sW cI (b 3) (Hs 3), tW cI t T tn, rW3 r u q d, oW q f, sW cI u U, bW tb B, [(vA, .inl (cI, 64, .inl V))]]) (w2 := List.flatten [xTop x o h t r tb, sW cI o G, hH cS h b (nI k), sW cI (b 0) (Hs 0), sW cI (b 1) (Hs 1), sW cI (b 2) (Hs 2), sW cI (b 3) (Hs 3), tW cI t T tn, rW3 r u q d, oW q f, sW cI u U, bW tb B, [(vA, .inl (cI, 64, .inl V))]]) (rest := [.int 1]) (n := 2) C w hl [.int yy, .int 600] (k_L_up l D cI cS tys ht0 yy 600 (by decide)) gL_isStep_L_up rfl (by decide +kernel) ⟨Nat.le_of_ble_eq_true rfl, Nat.le_of_ble_eq_true rfl⟩ rfl rfl (Nat.le_of_ble_eq_true rfl) (List.Perm.refl _) (List.Perm.refl _) ⟨Nat.zero_le _, Nat.zero_le _⟩ dL_isStep_391 (fun H locs w => ?_)
  obtain ⟨m0, hm0, em0⟩ := up_ex yy 600 (by decide) (by decide)
  refine x_top (y := nI m0) em0 ?_
  refine x_iaddN (i := 1) (j := m0) hx hb dL_isStep_394 ?_
  refine lv_istore (lv' := [(5, .int (nI (1 + m0))), (4, .int (nI p0)), (3, .int yy), (0, .ref x), (1, .ref vA), (2, .int xx)]) hx hb dL_isStep_395 hl (by decide) rfl (fun ls hl => ?_)
  refine lv_aload_n hx hb dL_isStep_397 rfl (lv_at hl 3 rfl) ?_
  refine lv_iload hx hb dL_isStep_398 (lv_at hl 0 rfl) ?_
  refine x_callViB (wr := List.flatten [[(vA, .inl (cI, 64, .inl V))]]) (w2 := List.flatten [xTop x o h t r tb, sW cI o G, hH cS h b (nI k), sW cI (b 0) (Hs 0), sW cI (b 1) (Hs 1), sW cI (b 2) (Hs 2), sW cI (b 3) (Hs 3), tW cI t T tn, rW3 r u q d, oW q f, sW cI u U, bW tb (useG G (nI (1 + m0))), [(vA, .inl (cI, 64, .inl V))]]) (rest := []) (n := 1) C w hl [.int (nI (1 + m0))] (k_X6_wouldFlush_ok l D cI cS tys ht0 ht1 x o h b t r q u tb G k Hs T tn f d U B (nI (1 + m0)) (wth_n (a := 1) (b := 999) rfl rfl (by omega) (by omega) (by decide))) gL_isStep_X6_wouldFlush rfl (by decide +kernel) ⟨Nat.le_of_ble_eq_true rfl, Nat.le_of_ble_eq_true rfl⟩ 0 6 rfl rfl rfl rfl (Nat.le_of_ble_eq_true rfl) (List.Perm.of_eq (by simp only [List.flatten_cons, List.flatten_nil, List.append_nil, List.append_assoc, List.nil_append])) (List.Perm.of_eq (by simp only [List.flatten_cons, List.flatten_nil, List.append_nil, List.append_assoc, List.nil_append])) ⟨Nat.zero_le _, Nat.zero_le _⟩ dL_isStep_400 (fun H locs w => ?_)
  refine lv_istore (lv' := [(6, .int (wfI G (nI (1 + m0)))), (5, .int (nI (1 + m0))), (4, .int (nI p0)), (3, .int yy), (0, .ref x), (1, .ref vA), (2, .int xx)]) hx hb dL_isStep_403 hl (by decide) rfl (fun ls hl => ?_)
  refine lv_aload_n hx hb dL_isStep_405 rfl (lv_at hl 4 rfl) ?_
  refine lv_iconst (v := 0) hx hb dL_isStep_406 (by decide +kernel) ?_
  refine x_callViB (wr := List.flatten [[(vA, .inl (cI, 64, .inl V))]]) (w2 := List.flatten [xTop x o h t r tb, sW cI o G, hH cS h b (nI k), sW cI (b 0) (Hs 0), sW cI (b 1) (Hs 1), sW cI (b 2) (Hs 2), sW cI (b 3) (Hs 3), tW cI t T tn, rW3 r u q d, oW q f, sW cI u U, bW tb (useG G (nI (1 + m0))), [(vA, .inl (cI, 64, .inl V))]]) (rest := []) (n := 1) C w hl [.int 0] (k_X6_battery l D cI cS tys ht0 ht1 x o h b t r q u tb G k Hs T tn f d U (useG G (nI (1 + m0))) 0 ) gL_isStep_X6_battery rfl (by decide +kernel) ⟨Nat.le_of_ble_eq_true rfl, Nat.le_of_ble_eq_true rfl⟩ 0 6 rfl rfl rfl rfl (Nat.le_of_ble_eq_true rfl) (List.Perm.of_eq (by simp only [List.flatten_cons, List.flatten_nil, List.append_nil, List.append_assoc, List.nil_append])) (List.Perm.of_eq (by simp only [List.flatten_cons, List.flatten_nil, List.append_nil, List.append_assoc, List.nil_append])) ⟨Nat.zero_le _, Nat.zero_le _⟩ dL_isStep_407 (fun H locs w => ?_)
  refine x_top (y := (G 6 0)) (bat_0 _) ?_
  refine lv_istore (lv' := [(7, .int (G 6 0)), (6, .int (wfI G (nI (1 + m0)))), (5, .int (nI (1 + m0))), (4, .int (nI p0)), (3, .int yy), (0, .ref x), (1, .ref vA), (2, .int xx)]) hx hb dL_isStep_410 hl (by decide) rfl (fun ls hl => ?_)
  refine lv_aload_n hx hb dL_isStep_412 rfl (lv_at hl 5 rfl) ?_
  refine lv_iload hx hb dL_isStep_413 (lv_at hl 2 rfl) ?_
  refine x_callViB (wr := List.flatten [[(vA, .inl (cI, 64, .inl V))]]) (w2 := List.flatten [xTop x o h t r tb, sW cI o (loaG G (nI (1 + m0))), hH cS h (kpA k b) (nI (kpN k)), sW cI ((kpA k b) 0) ((kpG k Hs G) 0), sW cI ((kpA k b) 1) ((kpG k Hs G) 1), sW cI ((kpA k b) 2) ((kpG k Hs G) 2), sW cI ((kpA k b) 3) ((kpG k Hs G) 3), tW cI t T tn, rW3 r u q d, oW q f, sW cI u U, bW tb (useG G (nI (1 + m0))), [(vA, .inl (cI, 64, .inl V))]]) (rest := []) (n := 1) C w hl [.int (nI (1 + m0))] (k_X6_load_ok l D cI cS tys ht0 ht1 x o h b t r q u tb G k Hs T tn f d U (useG G (nI (1 + m0))) (nI (1 + m0)) (wth_n (a := 1) (b := 999) rfl rfl (by omega) (by omega) (by decide)) hk) gL_isStep_X6_load rfl (by decide +kernel) ⟨Nat.le_of_ble_eq_true rfl, Nat.le_of_ble_eq_true rfl⟩ 0 6 rfl rfl rfl rfl (Nat.le_of_ble_eq_true rfl) (List.Perm.of_eq (by simp only [List.flatten_cons, List.flatten_nil, List.append_nil, List.append_assoc, List.nil_append])) (List.Perm.of_eq (by simp only [List.flatten_cons, List.flatten_nil, List.append_nil, List.append_assoc, List.nil_append])) ⟨Nat.zero_le _, Nat.zero_le _⟩ dL_isStep_415 (fun H locs w => ?_)
  refine x_top (y := (wfI G (nI (1 + m0)))) (wf_eq _ _) ?_
  refine lv_iload hx hb dL_isStep_418 (lv_at hl 1 rfl) ?_
  refine x_icR_ne (x := (wfI G (nI (1 + m0)))) (y := wfI G (nI (1 + m0))) (tgt := 451) hx hb dL_isStep_420 (by decide) (fun c420_1 => ?_) (fun c420_1 => ?_)
  ·
    exact absurd rfl c420_1
  ·
    refine lv_aload_n hx hb dL_isStep_423 rfl (lv_at hl 5 rfl) ?_
    refine lv_iconst (v := 0) hx hb dL_isStep_424 (by decide +kernel) ?_
    refine x_callViB (wr := List.flatten [[(vA, .inl (cI, 64, .inl V))]]) (w2 := List.flatten [xTop x o h t r tb, sW cI o (loaG G (nI (1 + m0))), hH cS h (kpA k b) (nI (kpN k)), sW cI ((kpA k b) 0) ((kpG k Hs G) 0), sW cI ((kpA k b) 1) ((kpG k Hs G) 1), sW cI ((kpA k b) 2) ((kpG k Hs G) 2), sW cI ((kpA k b) 3) ((kpG k Hs G) 3), tW cI t T tn, rW3 r u q d, oW q f, sW cI u U, bW tb (useG G (nI (1 + m0))), [(vA, .inl (cI, 64, .inl V))]]) (rest := []) (n := 1) C w hl [.int 0] (k_X6_battery l D cI cS tys ht0 ht1 x o h (kpA k b) t r q u tb (loaG G (nI (1 + m0))) (kpN k) (kpG k Hs G) T tn f d U (useG G (nI (1 + m0))) 0 ) gL_isStep_X6_battery rfl (by decide +kernel) ⟨Nat.le_of_ble_eq_true rfl, Nat.le_of_ble_eq_true rfl⟩ 0 6 rfl rfl rfl rfl (Nat.le_of_ble_eq_true rfl) (List.Perm.of_eq (by simp only [List.flatten_cons, List.flatten_nil, List.append_nil, List.append_assoc, List.nil_append])) (List.Perm.of_eq (by simp only [List.flatten_cons, List.flatten_nil, List.append_nil, List.append_assoc, List.nil_append])) ⟨Nat.zero_le _, Nat.zero_le _⟩ dL_isStep_425 (fun H locs w => ?_)
    refine x_top (y := (maI ((G 6 0) - (nI (1 + m0))) 0)) ((bat_0 _).trans (loa_60 _ _)) ?_
    refine lv_iload hx hb dL_isStep_428 (lv_at hl 0 rfl) ?_
    refine lv_iload hx hb dL_isStep_430 (lv_at hl 2 rfl) ?_
    refine x_icR_le (x := (G 6 0)) (y := nI (1 + m0)) (tgt := 443) hx hb dL_isStep_432 (by decide) (fun c432_2 => ?_) (fun c432_2 => ?_)
    ·
      refine lv_iconst (v := 0) hx hb dL_isStep_443 (by decide +kernel) ?_
      refine x_icR_ne (x := (maI ((G 6 0) - (nI (1 + m0))) 0)) (y := 0) (tgt := 451) hx hb dL_isStep_444 (by decide) (fun c444_3 => ?_) (fun c444_3 => ?_)
      ·
        exact absurd ((drn (c := G 6 0) (b := nI (1 + m0)) hLI.1.1.2.1 ⟨1 + m0, by omega, rfl⟩).2 c432_2) c444_3
      ·
        refine lv_iconst (v := 1) hx hb dL_isStep_447 (by decide +kernel) ?_
        refine lv_goto (tgt := 452) hx hb dL_isStep_448 (by decide) ?_
        exact x_zretJ C w (Or.inr rfl) rfl ⟨_, _, (LI_loa hLI ⟨1 + m0, by omega, rfl⟩), _, _, _, _, _, _, _, _, _, (kpN_le k hk), rfl⟩ dL_isStep_452
    ·
      refine lv_iload hx hb dL_isStep_435 (lv_at hl 0 rfl) ?_
      refine lv_iload hx hb dL_isStep_437 (lv_at hl 2 rfl) ?_
      refine lv_isub (x := (G 6 0)) (y := nI (1 + m0)) hx hb dL_isStep_439 ?_
      refine lv_goto (tgt := 444) hx hb dL_isStep_440 (by decide) ?_
      refine x_icR_ne (x := (maI ((G 6 0) - (nI (1 + m0))) 0)) (y := ((G 6 0) - (nI (1 + m0)))) (tgt := 451) hx hb dL_isStep_444 (by decide) (fun c444_4 => ?_) (fun c444_4 => ?_)
      ·
        exact absurd ((drn (c := G 6 0) (b := nI (1 + m0)) hLI.1.1.2.1 ⟨1 + m0, by omega, rfl⟩).1 c432_2) c444_4
      ·
        refine lv_iconst (v := 1) hx hb dL_isStep_447 (by decide +kernel) ?_
        refine lv_goto (tgt := 452) hx hb dL_isStep_448 (by decide) ?_
        exact x_zretJ C w (Or.inr rfl) rfl ⟨_, _, (LI_loa hLI ⟨1 + m0, by omega, rfl⟩), _, _, _, _, _, _, _, _, _, (kpN_le k hk), rfl⟩ dL_isStep_452
set_option maxHeartbeats 1000000 in
set_option maxRecDepth 100000 in
theorem sF_453 {p : Program} {l : Launch} {e : Env} {s : State} {m : MethodId} {args : Array Value} {below : List Frame} {meth : Method} {c : Code} {A : Nat → Prop} {D : va_G} {cI cS : ClassId} {tys : List (ClassId × FieldType)} (ht0 : tys[0]? = some (cI, .int)) (ht1 : tys[1]? = some (cS, .object RX4)) (C : xC p s m meth c args cL_isStep 11 wsL_isStep RL D tys (some .boolean)) {x : Nat} {o : Nat → Nat} {h : Nat → Nat} {b : Nat → Nat → Nat} {t : Nat → Nat} {r : Nat} {q : Nat} {u : Nat → Nat} {tb : Nat} {G : St} {k : Nat} {Hs : Nat → St} {T : Nat → Int32} {tn : Int32} {f : Nat → Int32} {d : Int32} {U : St} {B : St} {vA : Nat} {V : Nat → Int32} {xx yy : Int32} {p0 : Nat} (hLI : LI G V) (hk : k ≤ 4) (hp0 : p0 < 64) {H : Heap} {locs : List Loc} (w : xW D A s.heap (List.flatten [xTop x o h t r tb, sW cI o G, hH cS h b (nI k), sW cI (b 0) (Hs 0), sW cI (b 1) (Hs 1), sW cI (b 2) (Hs 2), sW cI (b 3) (Hs 3), tW cI t T tn, rW3 r u q d, oW q f, sW cI u U, bW tb B, [(vA, .inl (cI, 64, .inl V))]]) H locs) {ls : Array Slot} (hl : lv_has ls 11 [(4, .int (nI p0)), (3, .int yy), (0, .ref x), (1, .ref vA), (2, .int xx)]) : W p l e (rmd 6) s m args below meth c H locs 0 0 (MQ below (xQJ D tys 1 (okE cI cS x o h t r q u tb vA) A) args s 0 0 A) (F0 m 453 ls []) := by
  have hx := C.1.1
  have hb := C.1.2.1
  have hts := C.1.2.2.2.2
  have hown := C.1.2.2.2.1
  refine lv_aload_n hx hb dL_isStep_453 rfl (lv_at hl 2 rfl) ?_
  refine lv_iconst (v := 4) hx hb dL_isStep_454 (by decide +kernel) ?_
  refine x_callViB (wr := List.flatten [[(vA, .inl (cI, 64, .inl V))]]) (w2 := List.flatten [xTop x o h t r tb, sW cI o G, hH cS h b (nI k), sW cI (b 0) (Hs 0), sW cI (b 1) (Hs 1), sW cI (b 2) (Hs 2), sW cI (b 3) (Hs 3), tW cI t T tn, rW3 r u q d, oW q f, sW cI u U, bW tb B, [(vA, .inl (cI, 64, .inl V))]]) (rest := []) (n := 1) C w hl [.int 4] (k_X6_battery l D cI cS tys ht0 ht1 x o h b t r q u tb G k Hs T tn f d U B 4 ) gL_isStep_X6_battery rfl (by decide +kernel) ⟨Nat.le_of_ble_eq_true rfl, Nat.le_of_ble_eq_true rfl⟩ 0 6 rfl rfl rfl rfl (Nat.le_of_ble_eq_true rfl) (List.Perm.of_eq (by simp only [List.flatten_cons, List.flatten_nil, List.append_nil, List.append_assoc, List.nil_append])) (List.Perm.of_eq (by simp only [List.flatten_cons, List.flatten_nil, List.append_nil, List.append_assoc, List.nil_append])) ⟨Nat.zero_le _, Nat.zero_le _⟩ dL_isStep_455 (fun H locs w => ?_)
  refine x_top (y := (G 6 2)) (bat_4 _) ?_
  refine x_ifR_le (x := (G 6 2)) (tgt := 465) hx hb dL_isStep_458 (by decide) (fun c458_1 => ?_) (fun c458_1 => ?_)
  ·
    refine lv_iconst (v := 0) hx hb dL_isStep_465 (by decide +kernel) ?_
    refine lv_istore (lv' := [(5, .int 0), (4, .int (nI p0)), (3, .int yy), (0, .ref x), (1, .ref vA), (2, .int xx)]) hx hb dL_isStep_466 hl (by decide) rfl (fun ls hl => ?_)
    refine lv_iload_n hx hb dL_isStep_468 rfl (lv_at hl 2 rfl) ?_
    refine lv_iconst (v := 3) hx hb dL_isStep_469 (by decide +kernel) ?_
    refine x_callSiB (wr := List.flatten [xTop x o h t r tb, sW cI o G, hH cS h b (nI k), sW cI (b 0) (Hs 0), sW cI (b 1) (Hs 1), sW cI (b 2) (Hs 2), sW cI (b 3) (Hs 3), tW cI t T tn, rW3 r u q d, oW q f, sW cI u U, bW tb B, [(vA, .inl (cI, 64, .inl V))]]) (w2 := List.flatten [xTop x o h t r tb, sW cI o G, hH cS h b (nI k), sW cI (b 0) (Hs 0), sW cI (b 1) (Hs 1), sW cI (b 2) (Hs 2), sW cI (b 3) (Hs 3), tW cI t T tn, rW3 r u q d, oW q f, sW cI u U, bW tb B, [(vA, .inl (cI, 64, .inl V))]]) (rest := []) (n := 2) C w hl [.int yy, .int 3] (k_L_up l D cI cS tys ht0 yy 3 (by decide)) gL_isStep_L_up rfl (by decide +kernel) ⟨Nat.le_of_ble_eq_true rfl, Nat.le_of_ble_eq_true rfl⟩ rfl rfl (Nat.le_of_ble_eq_true rfl) (List.Perm.refl _) (List.Perm.refl _) ⟨Nat.zero_le _, Nat.zero_le _⟩ dL_isStep_470 (fun H locs w => ?_)
    obtain ⟨m0, hm0, em0⟩ := up_ex yy 3 (by decide) (by decide)
    refine x_top (y := nI m0) em0 ?_
    refine x_ifR_le (x := nI m0) (tgt := 481) hx hb dL_isStep_473 (by decide) (fun c473_2 => ?_) (fun c473_2 => ?_)
    ·
      refine lv_aload_n hx hb dL_isStep_481 rfl (lv_at hl 3 rfl) ?_
      refine x_callViB (wr := List.flatten [[(vA, .inl (cI, 64, .inl V))]]) (w2 := List.flatten [xTop x o h t r tb, sW cI o (bgcG G), hH cS h (kpA k b) (nI (kpN k)), sW cI ((kpA k b) 0) ((kpG k Hs G) 0), sW cI ((kpA k b) 1) ((kpG k Hs G) 1), sW cI ((kpA k b) 2) ((kpG k Hs G) 2), sW cI ((kpA k b) 3) ((kpG k Hs G) 3), tW cI t T tn, rW3 r u q d, oW q f, sW cI u U, bW tb B, [(vA, .inl (cI, 64, .inl V))]]) (rest := []) (n := 0) C w hl [] (k_X6_learn_ok l D cI cS tys ht0 ht1 x o h b t r q u tb G k Hs T tn f d U B (kp_z6 hLI c458_1) hk) gL_isStep_X6_learn rfl (by decide +kernel) ⟨Nat.le_of_ble_eq_true rfl, Nat.le_of_ble_eq_true rfl⟩ 0 6 rfl rfl rfl rfl (Nat.le_of_ble_eq_true rfl) (List.Perm.of_eq (by simp only [List.flatten_cons, List.flatten_nil, List.append_nil, List.append_assoc, List.nil_append])) (List.Perm.of_eq (by simp only [List.flatten_cons, List.flatten_nil, List.append_nil, List.append_assoc, List.nil_append])) ⟨Nat.zero_le _, Nat.zero_le _⟩ dL_isStep_482 (fun H locs w => ?_)
      refine lv_istore (lv' := [(6, .int (tooI (s2 G 6 2 1))), (5, .int 0), (4, .int (nI p0)), (3, .int yy), (0, .ref x), (1, .ref vA), (2, .int xx)]) hx hb dL_isStep_485 hl (by decide) rfl (fun ls hl => ?_)
      refine lv_iload hx hb dL_isStep_487 (lv_at hl 0 rfl) ?_
      refine lv_ldc (v := -1000002) hx hb hown (hts _ (List.mem_of_getElem? (i := 1) rfl)) dL_isStep_489 ?_
      refine x_icR_ne (x := tooI (s2 G 6 2 1)) (y := (-1000002)) (tgt := 515) hx hb dL_isStep_491 (by decide) (fun c491_3 => ?_) (fun c491_3 => ?_)
      ·
        refine lv_iload hx hb dL_isStep_515 (lv_at hl 1 rfl) ?_
        refine x_ifR_ne (x := 0) (tgt := 541) hx hb dL_isStep_517 (by decide) (fun h => absurd h (by decide)) (fun _ => ?_)
        refine lv_aload_n hx hb dL_isStep_520 rfl (lv_at hl 4 rfl) ?_
        refine lv_iconst (v := 2) hx hb dL_isStep_521 (by decide +kernel) ?_
        refine x_callViB (wr := List.flatten [[(vA, .inl (cI, 64, .inl V))]]) (w2 := List.flatten [xTop x o h t r tb, sW cI o (bgcG G), hH cS h (kpA k b) (nI (kpN k)), sW cI ((kpA k b) 0) ((kpG k Hs G) 0), sW cI ((kpA k b) 1) ((kpG k Hs G) 1), sW cI ((kpA k b) 2) ((kpG k Hs G) 2), sW cI ((kpA k b) 3) ((kpG k Hs G) 3), tW cI t T tn, rW3 r u q d, oW q f, sW cI u U, bW tb B, [(vA, .inl (cI, 64, .inl V))]]) (rest := []) (n := 1) C w hl [.int 2] (k_X6_lines l D cI cS tys ht0 ht1 x o h (kpA k b) t r q u tb (bgcG G) (kpN k) (kpG k Hs G) T tn f d U B 2 ) gL_isStep_X6_lines rfl (by decide +kernel) ⟨Nat.le_of_ble_eq_true rfl, Nat.le_of_ble_eq_true rfl⟩ 0 6 rfl rfl rfl rfl (Nat.le_of_ble_eq_true rfl) (List.Perm.of_eq (by simp only [List.flatten_cons, List.flatten_nil, List.append_nil, List.append_assoc, List.nil_append])) (List.Perm.of_eq (by simp only [List.flatten_cons, List.flatten_nil, List.append_nil, List.append_assoc, List.nil_append])) ⟨Nat.zero_le _, Nat.zero_le _⟩ dL_isStep_522 (fun H locs w => ?_)
        refine x_top (y := 0) ((lin_2 _).trans (set_m0 (run_m (LI_bgc hLI).2.2 (by rw [bgc_62]; decide)))) ?_
        refine x_ifR_ne (x := 0) (tgt := 541) hx hb dL_isStep_525 (by decide) (fun h => absurd h (by decide)) (fun _ => ?_)
        refine lv_aload_n hx hb dL_isStep_528 rfl (lv_at hl 4 rfl) ?_
        refine lv_iconst (v := 4) hx hb dL_isStep_529 (by decide +kernel) ?_
        refine x_callViB (wr := List.flatten [[(vA, .inl (cI, 64, .inl V))]]) (w2 := List.flatten [xTop x o h t r tb, sW cI o (bgcG G), hH cS h (kpA k b) (nI (kpN k)), sW cI ((kpA k b) 0) ((kpG k Hs G) 0), sW cI ((kpA k b) 1) ((kpG k Hs G) 1), sW cI ((kpA k b) 2) ((kpG k Hs G) 2), sW cI ((kpA k b) 3) ((kpG k Hs G) 3), tW cI t T tn, rW3 r u q d, oW q f, sW cI u U, bW tb B, [(vA, .inl (cI, 64, .inl V))]]) (rest := []) (n := 1) C w hl [.int 4] (k_X6_battery l D cI cS tys ht0 ht1 x o h (kpA k b) t r q u tb (bgcG G) (kpN k) (kpG k Hs G) T tn f d U B 4 ) gL_isStep_X6_battery rfl (by decide +kernel) ⟨Nat.le_of_ble_eq_true rfl, Nat.le_of_ble_eq_true rfl⟩ 0 6 rfl rfl rfl rfl (Nat.le_of_ble_eq_true rfl) (List.Perm.of_eq (by simp only [List.flatten_cons, List.flatten_nil, List.append_nil, List.append_assoc, List.nil_append])) (List.Perm.of_eq (by simp only [List.flatten_cons, List.flatten_nil, List.append_nil, List.append_assoc, List.nil_append])) ⟨Nat.zero_le _, Nat.zero_le _⟩ dL_isStep_530 (fun H locs w => ?_)
        refine x_top (y := 1) ((bat_4 _).trans (bgc_62 _)) ?_
        refine lv_iconst (v := 1) hx hb dL_isStep_533 (by decide +kernel) ?_
        refine x_icR_ne (x := 1) (y := 1) (tgt := 541) hx hb dL_isStep_534 (by decide) (fun h => absurd h (by decide)) (fun _ => ?_)
        refine lv_iconst (v := 1) hx hb dL_isStep_537 (by decide +kernel) ?_
        refine lv_goto (tgt := 542) hx hb dL_isStep_538 (by decide) ?_
        exact x_zretJ C w (Or.inr rfl) rfl ⟨_, _, (LI_bgc hLI), _, _, _, _, _, _, _, _, _, (kpN_le k hk), rfl⟩ dL_isStep_542
      ·
        exact absurd c491_3 (too_np (Inv_lc hLI.1.1))
    ·
      refine lv_ldc (v := -1000002) hx hb hown (hts _ (List.mem_of_getElem? (i := 1) rfl)) dL_isStep_476 ?_
      refine lv_goto (tgt := 485) hx hb dL_isStep_478 (by decide) ?_
      refine lv_istore (lv' := [(6, .int (-1000002)), (5, .int 0), (4, .int (nI p0)), (3, .int yy), (0, .ref x), (1, .ref vA), (2, .int xx)]) hx hb dL_isStep_485 hl (by decide) rfl (fun ls hl => ?_)
      refine lv_iload hx hb dL_isStep_487 (lv_at hl 0 rfl) ?_
      refine lv_ldc (v := -1000002) hx hb hown (hts _ (List.mem_of_getElem? (i := 1) rfl)) dL_isStep_489 ?_
      refine x_icR_ne (x := (-1000002)) (y := (-1000002)) (tgt := 515) hx hb dL_isStep_491 (by decide) (fun h => absurd h (by decide)) (fun _ => ?_)
      refine lv_iload hx hb dL_isStep_494 (lv_at hl 1 rfl) ?_
      refine x_ifR_ne (x := 0) (tgt := 507) hx hb dL_isStep_496 (by decide) (fun h => absurd h (by decide)) (fun _ => ?_)
      refine lv_iload_n hx hb dL_isStep_499 rfl (lv_at hl 3 rfl) ?_
      refine lv_iconst (v := 3) hx hb dL_isStep_500 (by decide +kernel) ?_
      refine x_callSiB (wr := List.flatten [xTop x o h t r tb, sW cI o G, hH cS h b (nI k), sW cI (b 0) (Hs 0), sW cI (b 1) (Hs 1), sW cI (b 2) (Hs 2), sW cI (b 3) (Hs 3), tW cI t T tn, rW3 r u q d, oW q f, sW cI u U, bW tb B, [(vA, .inl (cI, 64, .inl V))]]) (w2 := List.flatten [xTop x o h t r tb, sW cI o G, hH cS h b (nI k), sW cI (b 0) (Hs 0), sW cI (b 1) (Hs 1), sW cI (b 2) (Hs 2), sW cI (b 3) (Hs 3), tW cI t T tn, rW3 r u q d, oW q f, sW cI u U, bW tb B, [(vA, .inl (cI, 64, .inl V))]]) (rest := []) (n := 2) C w hl [.int yy, .int 3] (k_L_up l D cI cS tys ht0 yy 3 (by decide)) gL_isStep_L_up rfl (by decide +kernel) ⟨Nat.le_of_ble_eq_true rfl, Nat.le_of_ble_eq_true rfl⟩ rfl rfl (Nat.le_of_ble_eq_true rfl) (List.Perm.refl _) (List.Perm.refl _) ⟨Nat.zero_le _, Nat.zero_le _⟩ dL_isStep_501 (fun H locs w => ?_)
      refine x_top (y := nI m0) em0 ?_
      refine x_ifR_le (x := nI m0) (tgt := 511) hx hb dL_isStep_504 (by decide) (fun c504_9 => ?_) (fun c504_9 => ?_)
      ·
        exact absurd c473_2 c504_9
      ·
        refine lv_iconst (v := 1) hx hb dL_isStep_507 (by decide +kernel) ?_
        refine lv_goto (tgt := 542) hx hb dL_isStep_508 (by decide) ?_
        exact x_zretJ C w (Or.inr rfl) rfl ⟨_, _, hLI, _, _, _, _, _, _, _, _, _, hk, rfl⟩ dL_isStep_542
  ·
    refine lv_iconst (v := 1) hx hb dL_isStep_461 (by decide +kernel) ?_
    refine lv_goto (tgt := 466) hx hb dL_isStep_462 (by decide) ?_
    refine lv_istore (lv' := [(5, .int 1), (4, .int (nI p0)), (3, .int yy), (0, .ref x), (1, .ref vA), (2, .int xx)]) hx hb dL_isStep_466 hl (by decide) rfl (fun ls hl => ?_)
    refine lv_iload_n hx hb dL_isStep_468 rfl (lv_at hl 2 rfl) ?_
    refine lv_iconst (v := 3) hx hb dL_isStep_469 (by decide +kernel) ?_
    refine x_callSiB (wr := List.flatten [xTop x o h t r tb, sW cI o G, hH cS h b (nI k), sW cI (b 0) (Hs 0), sW cI (b 1) (Hs 1), sW cI (b 2) (Hs 2), sW cI (b 3) (Hs 3), tW cI t T tn, rW3 r u q d, oW q f, sW cI u U, bW tb B, [(vA, .inl (cI, 64, .inl V))]]) (w2 := List.flatten [xTop x o h t r tb, sW cI o G, hH cS h b (nI k), sW cI (b 0) (Hs 0), sW cI (b 1) (Hs 1), sW cI (b 2) (Hs 2), sW cI (b 3) (Hs 3), tW cI t T tn, rW3 r u q d, oW q f, sW cI u U, bW tb B, [(vA, .inl (cI, 64, .inl V))]]) (rest := []) (n := 2) C w hl [.int yy, .int 3] (k_L_up l D cI cS tys ht0 yy 3 (by decide)) gL_isStep_L_up rfl (by decide +kernel) ⟨Nat.le_of_ble_eq_true rfl, Nat.le_of_ble_eq_true rfl⟩ rfl rfl (Nat.le_of_ble_eq_true rfl) (List.Perm.refl _) (List.Perm.refl _) ⟨Nat.zero_le _, Nat.zero_le _⟩ dL_isStep_470 (fun H locs w => ?_)
    obtain ⟨m0, hm0, em0⟩ := up_ex yy 3 (by decide) (by decide)
    refine x_top (y := nI m0) em0 ?_
    refine x_ifR_le (x := nI m0) (tgt := 481) hx hb dL_isStep_473 (by decide) (fun c473_10 => ?_) (fun c473_10 => ?_)
    ·
      refine lv_aload_n hx hb dL_isStep_481 rfl (lv_at hl 3 rfl) ?_
      refine x_callViB (wr := List.flatten [[(vA, .inl (cI, 64, .inl V))]]) (w2 := List.flatten [xTop x o h t r tb, sW cI o G, hH cS h b (nI k), sW cI (b 0) (Hs 0), sW cI (b 1) (Hs 1), sW cI (b 2) (Hs 2), sW cI (b 3) (Hs 3), tW cI t T tn, rW3 r u q d, oW q f, sW cI u U, bW tb B, [(vA, .inl (cI, 64, .inl V))]]) (rest := []) (n := 0) C w hl [] (k_X6_learn_np l D cI cS tys ht0 ht1 x o h b t r q u tb G k Hs T tn f d U B (kp_pos2 c458_1)) gL_isStep_X6_learn rfl (by decide +kernel) ⟨Nat.le_of_ble_eq_true rfl, Nat.le_of_ble_eq_true rfl⟩ 0 6 rfl rfl rfl rfl (Nat.le_of_ble_eq_true rfl) (List.Perm.of_eq (by simp only [List.flatten_cons, List.flatten_nil, List.append_nil, List.append_assoc, List.nil_append])) (List.Perm.of_eq (by simp only [List.flatten_cons, List.flatten_nil, List.append_nil, List.append_assoc, List.nil_append])) ⟨Nat.zero_le _, Nat.zero_le _⟩ dL_isStep_482 (fun H locs w => ?_)
      refine lv_istore (lv' := [(6, .int (-1000002)), (5, .int 1), (4, .int (nI p0)), (3, .int yy), (0, .ref x), (1, .ref vA), (2, .int xx)]) hx hb dL_isStep_485 hl (by decide) rfl (fun ls hl => ?_)
      refine lv_iload hx hb dL_isStep_487 (lv_at hl 0 rfl) ?_
      refine lv_ldc (v := -1000002) hx hb hown (hts _ (List.mem_of_getElem? (i := 1) rfl)) dL_isStep_489 ?_
      refine x_icR_ne (x := (-1000002)) (y := (-1000002)) (tgt := 515) hx hb dL_isStep_491 (by decide) (fun h => absurd h (by decide)) (fun _ => ?_)
      refine lv_iload hx hb dL_isStep_494 (lv_at hl 1 rfl) ?_
      refine x_ifR_ne (x := 1) (tgt := 507) hx hb dL_isStep_496 (by decide) (fun _ => ?_) (fun h => absurd h (by decide))
      refine lv_iconst (v := 1) hx hb dL_isStep_507 (by decide +kernel) ?_
      refine lv_goto (tgt := 542) hx hb dL_isStep_508 (by decide) ?_
      exact x_zretJ C w (Or.inr rfl) rfl ⟨_, _, hLI, _, _, _, _, _, _, _, _, _, hk, rfl⟩ dL_isStep_542
    ·
      refine lv_ldc (v := -1000002) hx hb hown (hts _ (List.mem_of_getElem? (i := 1) rfl)) dL_isStep_476 ?_
      refine lv_goto (tgt := 485) hx hb dL_isStep_478 (by decide) ?_
      refine lv_istore (lv' := [(6, .int (-1000002)), (5, .int 1), (4, .int (nI p0)), (3, .int yy), (0, .ref x), (1, .ref vA), (2, .int xx)]) hx hb dL_isStep_485 hl (by decide) rfl (fun ls hl => ?_)
      refine lv_iload hx hb dL_isStep_487 (lv_at hl 0 rfl) ?_
      refine lv_ldc (v := -1000002) hx hb hown (hts _ (List.mem_of_getElem? (i := 1) rfl)) dL_isStep_489 ?_
      refine x_icR_ne (x := (-1000002)) (y := (-1000002)) (tgt := 515) hx hb dL_isStep_491 (by decide) (fun h => absurd h (by decide)) (fun _ => ?_)
      refine lv_iload hx hb dL_isStep_494 (lv_at hl 1 rfl) ?_
      refine x_ifR_ne (x := 1) (tgt := 507) hx hb dL_isStep_496 (by decide) (fun _ => ?_) (fun h => absurd h (by decide))
      refine lv_iconst (v := 1) hx hb dL_isStep_507 (by decide +kernel) ?_
      refine lv_goto (tgt := 542) hx hb dL_isStep_508 (by decide) ?_
      exact x_zretJ C w (Or.inr rfl) rfl ⟨_, _, hLI, _, _, _, _, _, _, _, _, _, hk, rfl⟩ dL_isStep_542
set_option maxHeartbeats 1000000 in
set_option maxRecDepth 100000 in
theorem sF_543 {p : Program} {l : Launch} {e : Env} {s : State} {m : MethodId} {args : Array Value} {below : List Frame} {meth : Method} {c : Code} {A : Nat → Prop} {D : va_G} {cI cS : ClassId} {tys : List (ClassId × FieldType)} (ht0 : tys[0]? = some (cI, .int)) (ht1 : tys[1]? = some (cS, .object RX4)) (C : xC p s m meth c args cL_isStep 11 wsL_isStep RL D tys (some .boolean)) {x : Nat} {o : Nat → Nat} {h : Nat → Nat} {b : Nat → Nat → Nat} {t : Nat → Nat} {r : Nat} {q : Nat} {u : Nat → Nat} {tb : Nat} {G : St} {k : Nat} {Hs : Nat → St} {T : Nat → Int32} {tn : Int32} {f : Nat → Int32} {d : Int32} {U : St} {B : St} {vA : Nat} {V : Nat → Int32} {xx yy : Int32} {p0 : Nat} (hLI : LI G V) (hk : k ≤ 4) (hp0 : p0 < 64) {H : Heap} {locs : List Loc} (w : xW D A s.heap (List.flatten [xTop x o h t r tb, sW cI o G, hH cS h b (nI k), sW cI (b 0) (Hs 0), sW cI (b 1) (Hs 1), sW cI (b 2) (Hs 2), sW cI (b 3) (Hs 3), tW cI t T tn, rW3 r u q d, oW q f, sW cI u U, bW tb B, [(vA, .inl (cI, 64, .inl V))]]) H locs) {ls : Array Slot} (hl : lv_has ls 11 [(4, .int (nI p0)), (3, .int yy), (0, .ref x), (1, .ref vA), (2, .int xx)]) : W p l e (rmd 6) s m args below meth c H locs 0 0 (MQ below (xQJ D tys 1 (okE cI cS x o h t r q u tb vA) A) args s 0 0 A) (F0 m 543 ls []) := by
  have hx := C.1.1
  have hb := C.1.2.1
  have hts := C.1.2.2.2.2
  have hown := C.1.2.2.2.1
  refine lv_iload_n hx hb dL_isStep_543 rfl (lv_at hl 1 rfl) ?_
  refine lv_iconst (v := 3) hx hb dL_isStep_544 (by decide +kernel) ?_
  refine x_callSiB (wr := List.flatten [xTop x o h t r tb, sW cI o G, hH cS h b (nI k), sW cI (b 0) (Hs 0), sW cI (b 1) (Hs 1), sW cI (b 2) (Hs 2), sW cI (b 3) (Hs 3), tW cI t T tn, rW3 r u q d, oW q f, sW cI u U, bW tb B, [(vA, .inl (cI, 64, .inl V))]]) (w2 := List.flatten [xTop x o h t r tb, sW cI o G, hH cS h b (nI k), sW cI (b 0) (Hs 0), sW cI (b 1) (Hs 1), sW cI (b 2) (Hs 2), sW cI (b 3) (Hs 3), tW cI t T tn, rW3 r u q d, oW q f, sW cI u U, bW tb B, [(vA, .inl (cI, 64, .inl V))]]) (rest := []) (n := 2) C w hl [.int yy, .int 3] (k_L_up l D cI cS tys ht0 yy 3 (by decide)) gL_isStep_L_up rfl (by decide +kernel) ⟨Nat.le_of_ble_eq_true rfl, Nat.le_of_ble_eq_true rfl⟩ rfl rfl (Nat.le_of_ble_eq_true rfl) (List.Perm.refl _) (List.Perm.refl _) ⟨Nat.zero_le _, Nat.zero_le _⟩ dL_isStep_545 (fun H locs w => ?_)
  obtain ⟨m0, hm0, em0⟩ := up_ex yy 3 (by decide) (by decide)
  refine x_top (y := nI m0) em0 ?_
  refine x_ifR_le (x := nI m0) (tgt := 565) hx hb dL_isStep_548 (by decide) (fun c548_1 => ?_) (fun c548_1 => ?_)
  ·
    obtain ⟨hct0, hct1, hct2, hct3, hct4⟩ := cut_facts hLI
    refine lv_aload_n hx hb dL_isStep_565 rfl (lv_at hl 2 rfl) ?_
    refine x_callViB (wr := List.flatten [[(vA, .inl (cI, 64, .inl V))]]) (w2 := List.flatten [xTop x o h t r tb, sW cI o (cutG G), hH cS h (kpA k b) (nI (kpN k)), sW cI ((kpA k b) 0) ((kpG k Hs G) 0), sW cI ((kpA k b) 1) ((kpG k Hs G) 1), sW cI ((kpA k b) 2) ((kpG k Hs G) 2), sW cI ((kpA k b) 3) ((kpG k Hs G) 3), tW cI t T tn, rW3 r u q d, oW q f, sW cI u U, bW tb B, [(vA, .inl (cI, 64, .inl V))]]) (rest := []) (n := 0) C w hl [] (k_X6_cut l D cI cS tys ht0 ht1 x o h b t r q u tb G k Hs T tn f d U B hk) gL_isStep_X6_cut rfl (by decide +kernel) ⟨Nat.le_of_ble_eq_true rfl, Nat.le_of_ble_eq_true rfl⟩ 0 6 rfl rfl rfl rfl (Nat.le_of_ble_eq_true rfl) (List.Perm.of_eq (by simp only [List.flatten_cons, List.flatten_nil, List.append_nil, List.append_assoc, List.nil_append])) (List.Perm.of_eq (by simp only [List.flatten_cons, List.flatten_nil, List.append_nil, List.append_assoc, List.nil_append])) ⟨Nat.zero_le _, Nat.zero_le _⟩ dL_isStep_566 (fun H locs w => ?_)
    refine x_top (y := 0) hct0 ?_
    refine x_ifR_ne (x := 0) (tgt := 609) hx hb dL_isStep_569 (by decide) (fun h => absurd h (by decide)) (fun _ => ?_)
    refine lv_aload_n hx hb dL_isStep_572 rfl (lv_at hl 2 rfl) ?_
    refine lv_iconst (v := 0) hx hb dL_isStep_573 (by decide +kernel) ?_
    refine x_callViB (wr := List.flatten [[(vA, .inl (cI, 64, .inl V))]]) (w2 := List.flatten [xTop x o h t r tb, sW cI o (cutG G), hH cS h (kpA k b) (nI (kpN k)), sW cI ((kpA k b) 0) ((kpG k Hs G) 0), sW cI ((kpA k b) 1) ((kpG k Hs G) 1), sW cI ((kpA k b) 2) ((kpG k Hs G) 2), sW cI ((kpA k b) 3) ((kpG k Hs G) 3), tW cI t T tn, rW3 r u q d, oW q f, sW cI u U, bW tb B, [(vA, .inl (cI, 64, .inl V))]]) (rest := []) (n := 1) C w hl [.int 0] (k_X6_lines l D cI cS tys ht0 ht1 x o h (kpA k b) t r q u tb (cutG G) (kpN k) (kpG k Hs G) T tn f d U B 0 ) gL_isStep_X6_lines rfl (by decide +kernel) ⟨Nat.le_of_ble_eq_true rfl, Nat.le_of_ble_eq_true rfl⟩ 0 6 rfl rfl rfl rfl (Nat.le_of_ble_eq_true rfl) (List.Perm.of_eq (by simp only [List.flatten_cons, List.flatten_nil, List.append_nil, List.append_assoc, List.nil_append])) (List.Perm.of_eq (by simp only [List.flatten_cons, List.flatten_nil, List.append_nil, List.append_assoc, List.nil_append])) ⟨Nat.zero_le _, Nat.zero_le _⟩ dL_isStep_574 (fun H locs w => ?_)
    refine x_top (y := 255) ((lin_0 _).trans (setP_all _ hct2)) ?_
    refine lv_sipush (v := 255) hx hb dL_isStep_577 (by decide +kernel) ?_
    refine x_icR_ne (x := 255) (y := 255) (tgt := 609) hx hb dL_isStep_580 (by decide) (fun h => absurd h (by decide)) (fun _ => ?_)
    refine lv_aload_n hx hb dL_isStep_583 rfl (lv_at hl 2 rfl) ?_
    refine lv_iconst (v := 4) hx hb dL_isStep_584 (by decide +kernel) ?_
    refine x_callViB (wr := List.flatten [[(vA, .inl (cI, 64, .inl V))]]) (w2 := List.flatten [xTop x o h t r tb, sW cI o (cutG G), hH cS h (kpA k b) (nI (kpN k)), sW cI ((kpA k b) 0) ((kpG k Hs G) 0), sW cI ((kpA k b) 1) ((kpG k Hs G) 1), sW cI ((kpA k b) 2) ((kpG k Hs G) 2), sW cI ((kpA k b) 3) ((kpG k Hs G) 3), tW cI t T tn, rW3 r u q d, oW q f, sW cI u U, bW tb B, [(vA, .inl (cI, 64, .inl V))]]) (rest := []) (n := 1) C w hl [.int 4] (k_X6_battery l D cI cS tys ht0 ht1 x o h (kpA k b) t r q u tb (cutG G) (kpN k) (kpG k Hs G) T tn f d U B 4 ) gL_isStep_X6_battery rfl (by decide +kernel) ⟨Nat.le_of_ble_eq_true rfl, Nat.le_of_ble_eq_true rfl⟩ 0 6 rfl rfl rfl rfl (Nat.le_of_ble_eq_true rfl) (List.Perm.of_eq (by simp only [List.flatten_cons, List.flatten_nil, List.append_nil, List.append_assoc, List.nil_append])) (List.Perm.of_eq (by simp only [List.flatten_cons, List.flatten_nil, List.append_nil, List.append_assoc, List.nil_append])) ⟨Nat.zero_le _, Nat.zero_le _⟩ dL_isStep_585 (fun H locs w => ?_)
    refine x_top (y := 0) ((bat_4 _).trans hct3) ?_
    refine x_ifR_ne (x := 0) (tgt := 609) hx hb dL_isStep_588 (by decide) (fun h => absurd h (by decide)) (fun _ => ?_)
    refine lv_aload_n hx hb dL_isStep_591 rfl (lv_at hl 2 rfl) ?_
    refine lv_iload hx hb dL_isStep_592 (lv_at hl 0 rfl) ?_
    refine lv_iconst (v := 0) hx hb dL_isStep_594 (by decide +kernel) ?_
    refine x_callViB (wr := List.flatten [[(vA, .inl (cI, 64, .inl V))]]) (w2 := List.flatten [xTop x o h t r tb, sW cI o (cutG G), hH cS h (kpA k b) (nI (kpN k)), sW cI ((kpA k b) 0) ((kpG k Hs G) 0), sW cI ((kpA k b) 1) ((kpG k Hs G) 1), sW cI ((kpA k b) 2) ((kpG k Hs G) 2), sW cI ((kpA k b) 3) ((kpG k Hs G) 3), tW cI t T tn, rW3 r u q d, oW q f, sW cI u U, bW tb B, [(vA, .inl (cI, 64, .inl V))]]) (rest := []) (n := 2) C w hl [.int (nI p0), .int 0] (k_X6_placeOf l D cI cS tys ht0 ht1 x o h (kpA k b) t r q u tb (cutG G) (kpN k) (kpG k Hs G) T tn f d U B (nI p0) 0 ) gL_isStep_X6_placeOf rfl (by decide +kernel) ⟨Nat.le_of_ble_eq_true rfl, Nat.le_of_ble_eq_true rfl⟩ 0 6 rfl rfl rfl rfl (Nat.le_of_ble_eq_true rfl) (List.Perm.of_eq (by simp only [List.flatten_cons, List.flatten_nil, List.append_nil, List.append_assoc, List.nil_append])) (List.Perm.of_eq (by simp only [List.flatten_cons, List.flatten_nil, List.append_nil, List.append_assoc, List.nil_append])) ⟨Nat.zero_le _, Nat.zero_le _⟩ dL_isStep_595 (fun H locs w => ?_)
    refine x_top (y := V p0) ((pof0 _ hp0).trans (hct4 p0 hp0)) ?_
    refine lv_aload_n hx hb dL_isStep_598 rfl (lv_at hl 3 rfl) ?_
    refine lv_iload hx hb dL_isStep_599 (lv_at hl 0 rfl) ?_
    refine x_iald (v := V p0) C (x_pc (b := [(vA, .inl (cI, 64, .inl V))]) w 12 rfl) 0 0 (p0) rfl ht0 rfl (by omega) (by decide) rfl dL_isStep_601 ?_
    refine x_icR_ne (x := V p0) (y := V p0) (tgt := 609) hx hb dL_isStep_602 (by decide) (fun c602_5 => ?_) (fun c602_5 => ?_)
    ·
      exact absurd rfl c602_5
    ·
      refine lv_iconst (v := 1) hx hb dL_isStep_605 (by decide +kernel) ?_
      refine lv_goto (tgt := 610) hx hb dL_isStep_606 (by decide) ?_
      exact x_zretJ C w (Or.inr rfl) rfl ⟨_, _, hct1, _, _, _, _, _, _, _, _, _, (kpN_le k hk), rfl⟩ dL_isStep_610
  ·
    refine lv_aload_n hx hb dL_isStep_551 rfl (lv_at hl 2 rfl) ?_
    refine lv_iconst (v := 3) hx hb dL_isStep_552 (by decide +kernel) ?_
    refine x_callViB (wr := List.flatten [[(vA, .inl (cI, 64, .inl V))]]) (w2 := List.flatten [xTop x o h t r tb, sW cI o G, hH cS h b (nI k), sW cI (b 0) (Hs 0), sW cI (b 1) (Hs 1), sW cI (b 2) (Hs 2), sW cI (b 3) (Hs 3), tW cI t T tn, rW3 r u q d, oW q f, sW cI u U, bW tb B, [(vA, .inl (cI, 64, .inl V))]]) (rest := []) (n := 1) C w hl [.int 3] (k_X6_lines l D cI cS tys ht0 ht1 x o h b t r q u tb G k Hs T tn f d U B 3 ) gL_isStep_X6_lines rfl (by decide +kernel) ⟨Nat.le_of_ble_eq_true rfl, Nat.le_of_ble_eq_true rfl⟩ 0 6 rfl rfl rfl rfl (Nat.le_of_ble_eq_true rfl) (List.Perm.of_eq (by simp only [List.flatten_cons, List.flatten_nil, List.append_nil, List.append_assoc, List.nil_append])) (List.Perm.of_eq (by simp only [List.flatten_cons, List.flatten_nil, List.append_nil, List.append_assoc, List.nil_append])) ⟨Nat.zero_le _, Nat.zero_le _⟩ dL_isStep_553 (fun H locs w => ?_)
    refine x_top (y := 0) (lin_3z hLI) ?_
    refine x_ifR_ne (x := 0) (tgt := 563) hx hb dL_isStep_556 (by decide) (fun h => absurd h (by decide)) (fun _ => ?_)
    refine lv_iconst (v := 1) hx hb dL_isStep_559 (by decide +kernel) ?_
    refine lv_goto (tgt := 564) hx hb dL_isStep_560 (by decide) ?_
    exact x_zretJ C w (Or.inr rfl) rfl ⟨_, _, hLI, _, _, _, _, _, _, _, _, _, hk, rfl⟩ dL_isStep_564
set_option maxHeartbeats 1000000 in
set_option maxRecDepth 100000 in
theorem sF_611 {p : Program} {l : Launch} {e : Env} {s : State} {m : MethodId} {args : Array Value} {below : List Frame} {meth : Method} {c : Code} {A : Nat → Prop} {D : va_G} {cI cS : ClassId} {tys : List (ClassId × FieldType)} (ht0 : tys[0]? = some (cI, .int)) (ht1 : tys[1]? = some (cS, .object RX4)) (C : xC p s m meth c args cL_isStep 11 wsL_isStep RL D tys (some .boolean)) {x : Nat} {o : Nat → Nat} {h : Nat → Nat} {b : Nat → Nat → Nat} {t : Nat → Nat} {r : Nat} {q : Nat} {u : Nat → Nat} {tb : Nat} {G : St} {k : Nat} {Hs : Nat → St} {T : Nat → Int32} {tn : Int32} {f : Nat → Int32} {d : Int32} {U : St} {B : St} {vA : Nat} {V : Nat → Int32} {xx yy : Int32} {p0 : Nat} (hLI : LI G V) (hk : k ≤ 4) (hp0 : p0 < 64) {H : Heap} {locs : List Loc} (w : xW D A s.heap (List.flatten [xTop x o h t r tb, sW cI o G, hH cS h b (nI k), sW cI (b 0) (Hs 0), sW cI (b 1) (Hs 1), sW cI (b 2) (Hs 2), sW cI (b 3) (Hs 3), tW cI t T tn, rW3 r u q d, oW q f, sW cI u U, bW tb B, [(vA, .inl (cI, 64, .inl V))]]) H locs) {ls : Array Slot} (hl : lv_has ls 11 [(4, .int (nI p0)), (3, .int yy), (0, .ref x), (1, .ref vA), (2, .int xx)]) : W p l e (rmd 6) s m args below meth c H locs 0 0 (MQ below (xQJ D tys 1 (okE cI cS x o h t r q u tb vA) A) args s 0 0 A) (F0 m 611 ls []) := by
  have hx := C.1.1
  have hb := C.1.2.1
  have hts := C.1.2.2.2.2
  have hown := C.1.2.2.2.1
  refine lv_iload_n hx hb dL_isStep_611 rfl (lv_at hl 1 rfl) ?_
  refine lv_bipush (v := 8) hx hb dL_isStep_612 (by decide +kernel) ?_
  refine x_callSiB (wr := List.flatten [xTop x o h t r tb, sW cI o G, hH cS h b (nI k), sW cI (b 0) (Hs 0), sW cI (b 1) (Hs 1), sW cI (b 2) (Hs 2), sW cI (b 3) (Hs 3), tW cI t T tn, rW3 r u q d, oW q f, sW cI u U, bW tb B, [(vA, .inl (cI, 64, .inl V))]]) (w2 := List.flatten [xTop x o h t r tb, sW cI o G, hH cS h b (nI k), sW cI (b 0) (Hs 0), sW cI (b 1) (Hs 1), sW cI (b 2) (Hs 2), sW cI (b 3) (Hs 3), tW cI t T tn, rW3 r u q d, oW q f, sW cI u U, bW tb B, [(vA, .inl (cI, 64, .inl V))]]) (rest := []) (n := 2) C w hl [.int yy, .int 8] (k_L_up l D cI cS tys ht0 yy 8 (by decide)) gL_isStep_L_up rfl (by decide +kernel) ⟨Nat.le_of_ble_eq_true rfl, Nat.le_of_ble_eq_true rfl⟩ rfl rfl (Nat.le_of_ble_eq_true rfl) (List.Perm.refl _) (List.Perm.refl _) ⟨Nat.zero_le _, Nat.zero_le _⟩ dL_isStep_614 (fun H locs w => ?_)
  obtain ⟨l0, hl0, el0⟩ := up_ex yy 8 (by decide) (by decide)
  refine x_top (y := nI l0) el0 ?_
  refine lv_istore (lv' := [(5, .int (nI l0)), (4, .int (nI p0)), (3, .int yy), (0, .ref x), (1, .ref vA), (2, .int xx)]) hx hb dL_isStep_617 hl (by decide) rfl (fun ls hl => ?_)
  refine lv_aload_n hx hb dL_isStep_619 rfl (lv_at hl 3 rfl) ?_
  refine lv_iconst (v := 2) hx hb dL_isStep_620 (by decide +kernel) ?_
  refine x_callViB (wr := List.flatten [[(vA, .inl (cI, 64, .inl V))]]) (w2 := List.flatten [xTop x o h t r tb, sW cI o G, hH cS h b (nI k), sW cI (b 0) (Hs 0), sW cI (b 1) (Hs 1), sW cI (b 2) (Hs 2), sW cI (b 3) (Hs 3), tW cI t T tn, rW3 r u q d, oW q f, sW cI u U, bW tb B, [(vA, .inl (cI, 64, .inl V))]]) (rest := []) (n := 1) C w hl [.int 2] (k_X6_lines l D cI cS tys ht0 ht1 x o h b t r q u tb G k Hs T tn f d U B 2 ) gL_isStep_X6_lines rfl (by decide +kernel) ⟨Nat.le_of_ble_eq_true rfl, Nat.le_of_ble_eq_true rfl⟩ 0 6 rfl rfl rfl rfl (Nat.le_of_ble_eq_true rfl) (List.Perm.of_eq (by simp only [List.flatten_cons, List.flatten_nil, List.append_nil, List.append_assoc, List.nil_append])) (List.Perm.of_eq (by simp only [List.flatten_cons, List.flatten_nil, List.append_nil, List.append_assoc, List.nil_append])) ⟨Nat.zero_le _, Nat.zero_le _⟩ dL_isStep_621 (fun H locs w => ?_)
  refine x_top (y := (setI G 2)) (lin_2 _) ?_
  refine lv_istore (lv' := [(6, .int (setI G 2)), (5, .int (nI l0)), (4, .int (nI p0)), (3, .int yy), (0, .ref x), (1, .ref vA), (2, .int xx)]) hx hb dL_isStep_624 hl (by decide) rfl (fun ls hl => ?_)
  by_cases kf : G 2 l0 = 2
  ·
    refine lv_aload_n hx hb dL_isStep_626 rfl (lv_at hl 4 rfl) ?_
    refine lv_iload hx hb dL_isStep_627 (lv_at hl 1 rfl) ?_
    refine x_callViB (wr := List.flatten [[(vA, .inl (cI, 64, .inl V))]]) (w2 := List.flatten [xTop x o h t r tb, sW cI o (fluG G (nI l0)), hH cS h (kpA k b) (nI (kpN k)), sW cI ((kpA k b) 0) ((kpG k Hs G) 0), sW cI ((kpA k b) 1) ((kpG k Hs G) 1), sW cI ((kpA k b) 2) ((kpG k Hs G) 2), sW cI ((kpA k b) 3) ((kpG k Hs G) 3), tW cI t T tn, rW3 r u q d, oW q f, sW cI u U, bW tb B, [(vA, .inl (cI, 64, .inl V))]]) (rest := []) (n := 1) C w hl [.int (nI l0)] (k_X6_flush_ok l D cI cS tys ht0 ht1 x o h b t r q u tb G k Hs T tn f d U B (nI l0) (rg_nI (n := 8) (b := 8) rfl hl0 (by decide)) (by rw [ix_nI (by omega)]; exact kf) hk) gL_isStep_X6_flush rfl (by decide +kernel) ⟨Nat.le_of_ble_eq_true rfl, Nat.le_of_ble_eq_true rfl⟩ 0 6 rfl rfl rfl rfl (Nat.le_of_ble_eq_true rfl) (List.Perm.of_eq (by simp only [List.flatten_cons, List.flatten_nil, List.append_nil, List.append_assoc, List.nil_append])) (List.Perm.of_eq (by simp only [List.flatten_cons, List.flatten_nil, List.append_nil, List.append_assoc, List.nil_append])) ⟨Nat.zero_le _, Nat.zero_le _⟩ dL_isStep_629 (fun H locs w => ?_)
    refine lv_istore (lv' := [(7, .int (nofI (fluG G (nI l0)) 2)), (6, .int (setI G 2)), (5, .int (nI l0)), (4, .int (nI p0)), (3, .int yy), (0, .ref x), (1, .ref vA), (2, .int xx)]) hx hb dL_isStep_632 hl (by decide) rfl (fun ls hl => ?_)
    refine lv_iload hx hb dL_isStep_634 (lv_at hl 1 rfl) ?_
    refine lv_iload hx hb dL_isStep_636 (lv_at hl 2 rfl) ?_
    refine lv_ishr (x := (setI G 2)) (y := nI l0) hx hb dL_isStep_638 ?_
    refine lv_iconst (v := 1) hx hb dL_isStep_639 (by decide +kernel) ?_
    refine lv_iand (x := ((setI G 2) >>> ((nI l0) &&& 31))) (y := 1) hx hb dL_isStep_640 ?_
    refine x_top (y := 1) (bit_y hl0 kf) ?_
    refine x_ifR_ne (x := 1) (tgt := 659) hx hb dL_isStep_641 (by decide) (fun _ => ?_) (fun h => absurd h (by decide))
    refine lv_aload_n hx hb dL_isStep_659 rfl (lv_at hl 5 rfl) ?_
    refine lv_iconst (v := 2) hx hb dL_isStep_660 (by decide +kernel) ?_
    refine x_callViB (wr := List.flatten [[(vA, .inl (cI, 64, .inl V))]]) (w2 := List.flatten [xTop x o h t r tb, sW cI o (fluG G (nI l0)), hH cS h (kpA k b) (nI (kpN k)), sW cI ((kpA k b) 0) ((kpG k Hs G) 0), sW cI ((kpA k b) 1) ((kpG k Hs G) 1), sW cI ((kpA k b) 2) ((kpG k Hs G) 2), sW cI ((kpA k b) 3) ((kpG k Hs G) 3), tW cI t T tn, rW3 r u q d, oW q f, sW cI u U, bW tb B, [(vA, .inl (cI, 64, .inl V))]]) (rest := []) (n := 1) C w hl [.int 2] (k_X6_lines l D cI cS tys ht0 ht1 x o h (kpA k b) t r q u tb (fluG G (nI l0)) (kpN k) (kpG k Hs G) T tn f d U B 2 ) gL_isStep_X6_lines rfl (by decide +kernel) ⟨Nat.le_of_ble_eq_true rfl, Nat.le_of_ble_eq_true rfl⟩ 0 6 rfl rfl rfl rfl (Nat.le_of_ble_eq_true rfl) (List.Perm.of_eq (by simp only [List.flatten_cons, List.flatten_nil, List.append_nil, List.append_assoc, List.nil_append])) (List.Perm.of_eq (by simp only [List.flatten_cons, List.flatten_nil, List.append_nil, List.append_assoc, List.nil_append])) ⟨Nat.zero_le _, Nat.zero_le _⟩ dL_isStep_661 (fun H locs w => ?_)
    refine x_top (y := (setI (fluG G (nI l0)) 2)) (lin_2 _) ?_
    refine lv_iload hx hb dL_isStep_664 (lv_at hl 1 rfl) ?_
    refine lv_iconst (v := 1) hx hb dL_isStep_666 (by decide +kernel) ?_
    refine lv_iload hx hb dL_isStep_667 (lv_at hl 2 rfl) ?_
    refine lv_ishl (x := 1) (y := nI l0) hx hb dL_isStep_669 ?_
    refine lv_iconst (v := -1) hx hb dL_isStep_670 (by decide +kernel) ?_
    refine lv_ixor (x := (1 <<< ((nI l0) &&& 31))) (y := (-1)) hx hb dL_isStep_671 ?_
    refine lv_iand (x := (setI G 2)) (y := ((1 <<< ((nI l0) &&& 31)) ^^^ (-1))) hx hb dL_isStep_672 ?_
    refine x_icR_ne (x := (setI (fluG G (nI l0)) 2)) (y := ((setI G 2) &&& ((1 <<< ((nI l0) &&& 31)) ^^^ (-1)))) (tgt := 680) hx hb dL_isStep_673 (by decide) (fun c673_2 => ?_) (fun c673_2 => ?_)
    ·
      exact absurd (flu_set hl0 kf) c673_2
    ·
      refine lv_iconst (v := 1) hx hb dL_isStep_676 (by decide +kernel) ?_
      refine lv_goto (tgt := 681) hx hb dL_isStep_677 (by decide) ?_
      exact x_zretJ C w (Or.inr rfl) rfl ⟨_, _, (LI_flu hLI _), _, _, _, _, _, _, _, _, _, (kpN_le k hk), rfl⟩ dL_isStep_681
  ·
    refine lv_aload_n hx hb dL_isStep_626 rfl (lv_at hl 4 rfl) ?_
    refine lv_iload hx hb dL_isStep_627 (lv_at hl 1 rfl) ?_
    refine x_callViB (wr := List.flatten [[(vA, .inl (cI, 64, .inl V))]]) (w2 := List.flatten [xTop x o h t r tb, sW cI o G, hH cS h b (nI k), sW cI (b 0) (Hs 0), sW cI (b 1) (Hs 1), sW cI (b 2) (Hs 2), sW cI (b 3) (Hs 3), tW cI t T tn, rW3 r u q d, oW q f, sW cI u U, bW tb B, [(vA, .inl (cI, 64, .inl V))]]) (rest := []) (n := 1) C w hl [.int (nI l0)] (k_X6_flush_np l D cI cS tys ht0 ht1 x o h b t r q u tb G k Hs T tn f d U B (nI l0) (rg_nI (n := 8) (b := 8) rfl hl0 (by decide)) (by rw [ix_nI (by omega)]; exact kf)) gL_isStep_X6_flush rfl (by decide +kernel) ⟨Nat.le_of_ble_eq_true rfl, Nat.le_of_ble_eq_true rfl⟩ 0 6 rfl rfl rfl rfl (Nat.le_of_ble_eq_true rfl) (List.Perm.of_eq (by simp only [List.flatten_cons, List.flatten_nil, List.append_nil, List.append_assoc, List.nil_append])) (List.Perm.of_eq (by simp only [List.flatten_cons, List.flatten_nil, List.append_nil, List.append_assoc, List.nil_append])) ⟨Nat.zero_le _, Nat.zero_le _⟩ dL_isStep_629 (fun H locs w => ?_)
    refine lv_istore (lv' := [(7, .int (-1000002)), (6, .int (setI G 2)), (5, .int (nI l0)), (4, .int (nI p0)), (3, .int yy), (0, .ref x), (1, .ref vA), (2, .int xx)]) hx hb dL_isStep_632 hl (by decide) rfl (fun ls hl => ?_)
    refine lv_iload hx hb dL_isStep_634 (lv_at hl 1 rfl) ?_
    refine lv_iload hx hb dL_isStep_636 (lv_at hl 2 rfl) ?_
    refine lv_ishr (x := (setI G 2)) (y := nI l0) hx hb dL_isStep_638 ?_
    refine lv_iconst (v := 1) hx hb dL_isStep_639 (by decide +kernel) ?_
    refine lv_iand (x := ((setI G 2) >>> ((nI l0) &&& 31))) (y := 1) hx hb dL_isStep_640 ?_
    refine x_top (y := 0) (bit_n hl0 kf) ?_
    refine x_ifR_ne (x := 0) (tgt := 659) hx hb dL_isStep_641 (by decide) (fun h => absurd h (by decide)) (fun _ => ?_)
    refine lv_iload hx hb dL_isStep_644 (lv_at hl 0 rfl) ?_
    refine lv_ldc (v := -1000002) hx hb hown (hts _ (List.mem_of_getElem? (i := 1) rfl)) dL_isStep_646 ?_
    refine x_icR_ne (x := (-1000002)) (y := (-1000002)) (tgt := 655) hx hb dL_isStep_648 (by decide) (fun h => absurd h (by decide)) (fun _ => ?_)
    refine lv_iconst (v := 1) hx hb dL_isStep_651 (by decide +kernel) ?_
    refine lv_goto (tgt := 681) hx hb dL_isStep_652 (by decide) ?_
    exact x_zretJ C w (Or.inr rfl) rfl ⟨_, _, hLI, _, _, _, _, _, _, _, _, _, hk, rfl⟩ dL_isStep_681
