/-! ===== the law's end, its loop and its start ===== -/
theorem hld_emp {G : St} (h : ∀ l, l < 8 → G 2 l = 0) (x : Int32) : hldI G x = -1 := by
  rcases hld_cs G x with ⟨e, -⟩ | ⟨l, hl, -, k, -⟩
  · exact e
  · exact absurd (h l hl) k
theorem stg_1 (G : St) : stgI G 1 = G 8 1 := by unfold stgI; rw [if_neg (by decide), if_pos rfl]
theorem stg_2 (G : St) : stgI G 2 = G 8 2 := by unfold stgI; rw [if_neg (by decide), if_neg (by decide), if_pos rfl]
theorem stg_3 (G : St) : stgI G 3 = G 8 3 := by unfold stgI; rw [if_neg (by decide), if_neg (by decide), if_neg (by decide)]
theorem st_a : stgI N0 0 = 100 := by decide
theorem st_b (v : Int32) : stgI (chsG N0 0 v) 1 = 100 := by
  rw [stg_1, (s2_yes8 _ _).1, s2_ne _ _ (by decide)]
  rfl
theorem st_c (v v2 : Int32) : stgI (chsG (chsG N0 0 v) 1 v2) 2 = 20 := by
  rw [stg_2, (s2_yes8 _ _).2.1, s2_ne _ _ (by decide), (s2_yes8 _ _).1, s2_ne _ _ (by decide)]
  rfl
theorem st_d (v v2 v3 : Int32) : stgI (chsG (chsG (chsG N0 0 v) 1 v2) 2 v3) 3 = 200 := by
  rw [stg_3, (s2_yes8 _ _).2.2.1, s2_ne _ _ (by decide), (s2_yes8 _ _).2.1, s2_ne _ _ (by decide), (s2_yes8 _ _).1, s2_ne _ _ (by decide)]
  rfl
theorem LI_start {ma mb mc md : Nat} (hma : ma < 200) (hmb : mb < 300) (hmc : mc < 60) (hmd : md < 300) : LI (chsG (chsG (chsG (chsG N0 0 (nI (50 + ma))) 1 (nI mb)) 2 (nI mc)) 3 (nI (50 + md))) zF := by
  rw [(s2_yes8 _ _).2.2.2, (s2_yes8 _ _).2.2.1, (s2_yes8 _ _).2.1, (s2_yes8 _ _).1]
  have hrow : ∀ a, ¬ a = 8 → s2 (s2 (s2 (s2 N0 8 0 (nI (50 + ma))) 8 1 (nI mb)) 8 2 (nI mc)) 8 3 (nI (50 + md)) a = N0 a := fun a h => by rw [s2_row _ h, s2_row _ h, s2_row _ h, s2_row _ h]
  have hI : Inv (s2 (s2 (s2 (s2 N0 8 0 (nI (50 + ma))) 8 1 (nI mb)) 8 2 (nI mc)) 8 3 (nI (50 + md))) := by
    refine ⟨?_, ?_⟩
    · rw [hrow 0 (by decide), hrow 2 (by decide), hrow 3 (by decide), hrow 4 (by decide)]
      exact ⟨fun _ => vN_0 _, fun _ => vN_0 _, fun _ => vN_0 _, fun _ => vN_0 _⟩
    · refine ⟨?_, ?_, ?_, ⟨50 + ma, by omega, by omega, ?_⟩, ⟨mb, by omega, ?_⟩, ⟨mc, by omega, ?_⟩, ⟨50 + md, by omega, by omega, ?_⟩⟩
      · rw [hrow 6 (by decide)]; exact ⟨1000, by omega, rfl⟩
      · rw [hrow 6 (by decide)]; exact ⟨0, by omega, rfl⟩
      · rw [hrow 6 (by decide)]; exact ⟨0, by omega, rfl⟩
      · rw [s2_ne _ _ (by decide), s2_ne _ _ (by decide), s2_ne _ _ (by decide), s2_at]
      · rw [s2_ne _ _ (by decide), s2_ne _ _ (by decide), s2_at]
      · rw [s2_ne _ _ (by decide), s2_at]
      · rw [s2_at]
  have k2 : ∀ l, s2 (s2 (s2 (s2 N0 8 0 (nI (50 + ma))) 8 1 (nI mb)) 8 2 (nI mc)) 8 3 (nI (50 + md)) 2 l = 0 := fun l => by rw [hrow 2 (by decide)]; rfl
  refine ⟨⟨hI, ?_, ?_, ?_, ?_⟩, ?_, ?_⟩
  · intro a b _ _ ka
    exact absurd (k2 a) ka
  · intro a _ ka
    exact absurd (k2 a) ka
  · intro r _ _
    rw [hrow 0 (by decide)]; rfl
  · refine ⟨?_, ?_⟩
    · rw [hrow 7 (by decide)]; rfl
    · rw [hrow 7 (by decide)]; decide
  · refine ⟨1000, 0, ?_, ?_, by omega, by omega⟩
    · rw [hrow 6 (by decide)]; rfl
    · rw [hrow 6 (by decide)]; rfl
  · obtain ⟨a, ha, ea⟩ := alw_ex hI
    refine ⟨a, ha, ea, ?_⟩
    have h0 : mN (s2 (s2 (s2 (s2 N0 8 0 (nI (50 + ma))) 8 1 (nI mb)) 8 2 (nI mc)) 8 3 (nI (50 + md))) 2 = 0 := cnt_zero _ 8 (fun l _ z => by rw [k2 l] at z; exact absurd z (by decide))
    omega
set_option maxHeartbeats 1000000 in
set_option maxRecDepth 100000 in
theorem law_200 {p : Program} {l : Launch} {e : Env} {s : State} {m : MethodId} {below : List Frame} {meth : Method} {c : Code} {A : Nat → Prop} {D : va_G} {cI cS : ClassId} {tys : List (ClassId × FieldType)} {bS : Nat} (ht0 : tys[0]? = some (cI, .int)) (ht1 : tys[1]? = some (cS, .object RX4)) (C : xC p s m meth c #[Value.ref bS] cL_law 7 wsL_law RL D tys ret) (hlocks : meth.locks = false) (hA : ∀ q : Nat, A q → s.heap.size ≤ q) {x : Nat} {o : Nat → Nat} {h : Nat → Nat} {b : Nat → Nat → Nat} {t : Nat → Nat} {r : Nat} {q : Nat} {u : Nat → Nat} {tb : Nat} {G : St} {k : Nat} {Hs : Nat → St} {T : Nat → Int32} {tn : Int32} {f : Nat → Int32} {d : Int32} {U : St} {B : St} {vA : Nat} {V : Nat → Int32} {a3 a4 a6 : Int32} (hLI : LI G V) (hk : k ≤ 4) {H : Heap} {locs : List Loc} (w : xW D A s.heap (List.flatten [xTop x o h t r tb, sW cI o G, hH cS h b (nI k), sW cI (b 0) (Hs 0), sW cI (b 1) (Hs 1), sW cI (b 2) (Hs 2), sW cI (b 3) (Hs 3), tW cI t T tn, rW3 r u q d, oW q f, sW cI u U, bW tb B, [(vA, .inl (cI, 64, .inl V))]]) H locs) {ls : Array Slot} (hl : lv_has ls 7 [(0, .ref bS), (1, .ref x), (2, .ref vA), (3, .int a3), (4, .int a4), (5, .int 1), (6, .int a6)]) : W p l e room_1 s m #[Value.ref bS] below meth c H locs 600000 7302249 (lw_Z below #[Value.ref bS] s) (F0 m 200 ls []) := by
  have hx := C.1.1
  have hb := C.1.2.1
  have hts := C.1.2.2.2.2
  have hown := C.1.2.2.2.1
  obtain ⟨hct0, hct1, hct2, hct3, hct4⟩ := cut_facts hLI
  refine lv_aload_n hx hb dL_law_200 rfl (lv_at hl 1 rfl) ?_
  refine x_callViB (wr := List.flatten [[(vA, .inl (cI, 64, .inl V))]]) (w2 := List.flatten [xTop x o h t r tb, sW cI o (cutG G), hH cS h (kpA k b) (nI (kpN k)), sW cI ((kpA k b) 0) ((kpG k Hs G) 0), sW cI ((kpA k b) 1) ((kpG k Hs G) 1), sW cI ((kpA k b) 2) ((kpG k Hs G) 2), sW cI ((kpA k b) 3) ((kpG k Hs G) 3), tW cI t T tn, rW3 r u q d, oW q f, sW cI u U, bW tb B, [(vA, .inl (cI, 64, .inl V))]]) (rest := []) (n := 0) C w hl [] (k_X6_cut l D cI cS tys ht0 ht1 x o h b t r q u tb G k Hs T tn f d U B hk) gL_law_X6_cut rfl (by decide +kernel) ⟨Nat.le_of_ble_eq_true rfl, Nat.le_of_ble_eq_true rfl⟩ 0 6 rfl rfl rfl rfl (Nat.le_of_ble_eq_true rfl) (List.Perm.of_eq (by simp only [List.flatten_cons, List.flatten_nil, List.append_nil, List.append_assoc, List.nil_append])) (List.Perm.of_eq (by simp only [List.flatten_cons, List.flatten_nil, List.append_nil, List.append_assoc, List.nil_append])) ⟨Nat.le_of_ble_eq_true rfl, Nat.le_of_ble_eq_true rfl⟩ dL_law_201 (fun H locs w => ?_)
  refine x_top (y := 0) hct0 ?_
  refine x_ifR_ne (x := 0) (tgt := 211) hx hb dL_law_204 (by decide) (fun h => absurd h (by decide)) (fun _ => ?_)
  refine lv_iconst (v := 1) hx hb dL_law_207 (by decide +kernel) ?_
  refine lv_goto (tgt := 212) hx hb dL_law_208 (by decide) ?_
  refine lv_istore (lv' := [(5, .int 1), (0, .ref bS), (1, .ref x), (2, .ref vA), (3, .int a3), (4, .int a4), (6, .int a6)]) hx hb dL_law_212 hl (by decide) rfl (fun ls hl => ?_)
  refine lv_iconst (v := 0) hx hb dL_law_214 (by decide +kernel) ?_
  refine lv_istore (lv' := [(6, .int 0), (5, .int 1), (0, .ref bS), (1, .ref x), (2, .ref vA), (3, .int a3), (4, .int a4)]) hx hb dL_law_215 hl (by decide) rfl (fun ls hl => ?_)
  have loop_217 : ∀ (n : Nat) (i : Nat), 64 - i < n → (i ≤ 64) → ∀ (H : Heap) (locs : List Loc), xW D A s.heap (List.flatten [xTop x o h t r tb, sW cI o (cutG G), hH cS h (kpA k b) (nI (kpN k)), sW cI ((kpA k b) 0) ((kpG k Hs G) 0), sW cI ((kpA k b) 1) ((kpG k Hs G) 1), sW cI ((kpA k b) 2) ((kpG k Hs G) 2), sW cI ((kpA k b) 3) ((kpG k Hs G) 3), tW cI t T tn, rW3 r u q d, oW q f, sW cI u U, bW tb B, [(vA, .inl (cI, 64, .inl V))]]) H locs → ∀ ls : Array Slot, lv_has ls 7 [(6, .int (nI i)), (5, .int 1), (0, .ref bS), (1, .ref x), (2, .ref vA), (3, .int a3), (4, .int a4)] → W p l e room_1 s m #[Value.ref bS] below meth c H locs 600000 7302249 (lw_Z below #[Value.ref bS] s) (F0 m 217 ls []) := by
    intro n
    induction n with
    | zero => intro i hm; exact absurd hm (Nat.not_lt_zero _)
    | succ n ih =>
      intro i hm hi H locs w ls hl
      refine lv_iload hx hb dL_law_217 (lv_at hl 0 rfl) ?_
      refine lv_bipush (v := 64) hx hb dL_law_219 (by decide +kernel) ?_
      refine x_icN_ge (i := i) (j := 64) (tgt := 268) hx hb (by omega) (by omega) dL_law_221 (by decide) (fun c221_2 => ?_) (fun c221_2 => ?_)
      ·
        refine lv_iload hx hb dL_law_268 (lv_at hl 1 rfl) ?_
        refine va_forget (fun q hq => hA q.base (w.2.2.1.2.2 q hq)) ?_
        exact lw_ret hx hb C.2.2.1 hlocks dL_law_270
      ·
        refine lv_iload hx hb dL_law_224 (lv_at hl 1 rfl) ?_
        refine x_ifR_eq (x := 1) (tgt := 259) hx hb dL_law_226 (by decide) (fun h => absurd h (by decide)) (fun _ => ?_)
        refine lv_aload_n hx hb dL_law_229 rfl (lv_at hl 3 rfl) ?_
        refine lv_iload hx hb dL_law_230 (lv_at hl 0 rfl) ?_
        refine lv_iconst (v := 0) hx hb dL_law_232 (by decide +kernel) ?_
        refine x_callViB (wr := List.flatten [[(vA, .inl (cI, 64, .inl V))]]) (w2 := List.flatten [xTop x o h t r tb, sW cI o (cutG G), hH cS h (kpA k b) (nI (kpN k)), sW cI ((kpA k b) 0) ((kpG k Hs G) 0), sW cI ((kpA k b) 1) ((kpG k Hs G) 1), sW cI ((kpA k b) 2) ((kpG k Hs G) 2), sW cI ((kpA k b) 3) ((kpG k Hs G) 3), tW cI t T tn, rW3 r u q d, oW q f, sW cI u U, bW tb B, [(vA, .inl (cI, 64, .inl V))]]) (rest := []) (n := 2) C w hl [.int (nI i), .int 0] (k_X6_placeOf l D cI cS tys ht0 ht1 x o h (kpA k b) t r q u tb (cutG G) (kpN k) (kpG k Hs G) T tn f d U B (nI i) 0 ) gL_law_X6_placeOf rfl (by decide +kernel) ⟨Nat.le_of_ble_eq_true rfl, Nat.le_of_ble_eq_true rfl⟩ 0 6 rfl rfl rfl rfl (Nat.le_of_ble_eq_true rfl) (List.Perm.of_eq (by simp only [List.flatten_cons, List.flatten_nil, List.append_nil, List.append_assoc, List.nil_append])) (List.Perm.of_eq (by simp only [List.flatten_cons, List.flatten_nil, List.append_nil, List.append_assoc, List.nil_append])) ⟨Nat.le_of_ble_eq_true rfl, Nat.le_of_ble_eq_true rfl⟩ dL_law_233 (fun H locs w => ?_)
        refine x_top (y := (V i)) ((pof0 _ (by omega)).trans (hct4 i (by omega))) ?_
        refine lv_aload_n hx hb dL_law_236 rfl (lv_at hl 4 rfl) ?_
        refine lv_iload hx hb dL_law_237 (lv_at hl 0 rfl) ?_
        refine x_iald (v := V i) C (x_pc (b := [(vA, .inl (cI, 64, .inl V))]) w 12 rfl) 0 0 (i) rfl ht0 rfl (by omega) (by decide) rfl dL_law_239 ?_
        refine x_icR_ne (x := (V i)) (y := V i) (tgt := 259) hx hb dL_law_240 (by decide) (fun c240_4 => ?_) (fun c240_4 => ?_)
        ·
          exact absurd rfl c240_4
        ·
          refine lv_aload_n hx hb dL_law_243 rfl (lv_at hl 3 rfl) ?_
          refine lv_iload hx hb dL_law_244 (lv_at hl 0 rfl) ?_
          refine lv_iconst (v := 2) hx hb dL_law_246 (by decide +kernel) ?_
          refine x_callViB (wr := List.flatten [[(vA, .inl (cI, 64, .inl V))]]) (w2 := List.flatten [xTop x o h t r tb, sW cI o (cutG G), hH cS h (kpA k b) (nI (kpN k)), sW cI ((kpA k b) 0) ((kpG k Hs G) 0), sW cI ((kpA k b) 1) ((kpG k Hs G) 1), sW cI ((kpA k b) 2) ((kpG k Hs G) 2), sW cI ((kpA k b) 3) ((kpG k Hs G) 3), tW cI t T tn, rW3 r u q d, oW q f, sW cI u U, bW tb B, [(vA, .inl (cI, 64, .inl V))]]) (rest := []) (n := 2) C w hl [.int (nI i), .int 2] (k_X6_placeOf l D cI cS tys ht0 ht1 x o h (kpA k b) t r q u tb (cutG G) (kpN k) (kpG k Hs G) T tn f d U B (nI i) 2 ) gL_law_X6_placeOf rfl (by decide +kernel) ⟨Nat.le_of_ble_eq_true rfl, Nat.le_of_ble_eq_true rfl⟩ 0 6 rfl rfl rfl rfl (Nat.le_of_ble_eq_true rfl) (List.Perm.of_eq (by simp only [List.flatten_cons, List.flatten_nil, List.append_nil, List.append_assoc, List.nil_append])) (List.Perm.of_eq (by simp only [List.flatten_cons, List.flatten_nil, List.append_nil, List.append_assoc, List.nil_append])) ⟨Nat.le_of_ble_eq_true rfl, Nat.le_of_ble_eq_true rfl⟩ dL_law_247 (fun H locs w => ?_)
          refine x_top (y := (-1000004)) (pof2_n (by omega) (hld_emp hct2 _)) ?_
          refine lv_ldc (v := -1000004) hx hb hown (hts _ (List.mem_of_getElem? (i := 4) rfl)) dL_law_250 ?_
          refine x_icR_ne (x := (-1000004)) (y := (-1000004)) (tgt := 259) hx hb dL_law_252 (by decide) (fun h => absurd h (by decide)) (fun _ => ?_)
          refine lv_iconst (v := 1) hx hb dL_law_255 (by decide +kernel) ?_
          refine lv_goto (tgt := 260) hx hb dL_law_256 (by decide) ?_
          refine lv_istore (lv' := [(5, .int 1), (6, .int (nI i)), (0, .ref bS), (1, .ref x), (2, .ref vA), (3, .int a3), (4, .int a4)]) hx hb dL_law_260 hl (by decide) rfl (fun ls hl => ?_)
          refine lv_iinc (v := nI (i + 1)) (lv' := [(6, .int (nI (i + 1))), (5, .int 1), (0, .ref bS), (1, .ref x), (2, .ref vA), (3, .int a3), (4, .int a4)]) hx hb dL_law_262 hl (k := 1) rfl (nI_add i 1) (by decide) rfl (fun ls hl => ?_)
          refine lv_goto (tgt := 217) hx hb dL_law_265 (by decide) ?_
          have hl : lv_has ls 7 [(6, .int (nI (i + 1))), (5, .int 1), (0, .ref bS), (1, .ref x), (2, .ref vA), (3, .int a3), (4, .int a4)] := lv_eqL (lv_sub (l' := [(6, .int (nI (i + 1))), (5, .int 1), (0, .ref bS), (1, .ref x), (2, .ref vA), (3, .int a3), (4, .int a4)]) hl [0, 1, 2, 3, 4, 5, 6] rfl) (cg2 List.cons rfl (cg2 List.cons rfl (cg2 List.cons rfl (cg2 List.cons rfl (cg2 List.cons rfl (cg2 List.cons rfl (cg2 List.cons rfl rfl)))))))
          exact ih (i + 1) (by omega) (by omega) _ _ w _ hl
  have q6 : 0 = (nI 0 : Int32) := (by first | rfl | contradiction | (simp []; done))
  have hl : lv_has ls 7 [(6, .int (nI 0)), (5, .int 1), (0, .ref bS), (1, .ref x), (2, .ref vA), (3, .int a3), (4, .int a4)] := lv_eqL (lv_sub (l' := [(6, .int 0), (5, .int 1), (0, .ref bS), (1, .ref x), (2, .ref vA), (3, .int a3), (4, .int a4)]) hl [0, 1, 2, 3, 4, 5, 6] rfl) (cg2 List.cons (congrArg (fun z => ((6 : Nat), Value.int z)) q6) (cg2 List.cons rfl (cg2 List.cons rfl (cg2 List.cons rfl (cg2 List.cons rfl (cg2 List.cons rfl (cg2 List.cons rfl rfl)))))))
  exact loop_217 (65) 0 (by omega) (by omega) _ _ w _ hl
set_option maxHeartbeats 1000000 in
set_option maxRecDepth 100000 in
theorem law_180 {p : Program} {l : Launch} {e : Env} {s : State} {m : MethodId} {below : List Frame} {meth : Method} {c : Code} {A : Nat → Prop} {D : va_G} {cI cS : ClassId} {tys : List (ClassId × FieldType)} {bS : Nat} (ht0 : tys[0]? = some (cI, .int)) (ht1 : tys[1]? = some (cS, .object RX4)) (C : xC p s m meth c #[Value.ref bS] cL_law 7 wsL_law RL D tys ret) (hlocks : meth.locks = false) (hA : ∀ q : Nat, A q → s.heap.size ≤ q) {x : Nat} {o : Nat → Nat} {h : Nat → Nat} {b : Nat → Nat → Nat} {t : Nat → Nat} {r : Nat} {q : Nat} {u : Nat → Nat} {tb : Nat} {G : St} {k : Nat} {Hs : Nat → St} {T : Nat → Int32} {tn : Int32} {f : Nat → Int32} {d : Int32} {U : St} {B : St} {vA : Nat} {V : Nat → Int32} {a3 a4 a6 : Int32} (hLI : LI G V) (hk : k ≤ 4) {H : Heap} {locs : List Loc} (w : xW D A s.heap (List.flatten [xTop x o h t r tb, sW cI o G, hH cS h b (nI k), sW cI (b 0) (Hs 0), sW cI (b 1) (Hs 1), sW cI (b 2) (Hs 2), sW cI (b 3) (Hs 3), tW cI t T tn, rW3 r u q d, oW q f, sW cI u U, bW tb B, [(vA, .inl (cI, 64, .inl V))]]) H locs) {ls : Array Slot} (hl : lv_has ls 7 [(0, .ref bS), (1, .ref x), (2, .ref vA), (3, .int a3), (4, .int a4), (5, .int 1), (6, .int a6)]) : W p l e room_1 s m #[Value.ref bS] below meth c H locs 600000 7302249 (lw_Z below #[Value.ref bS] s) (F0 m 180 ls []) := by
  have hx := C.1.1
  have hb := C.1.2.1
  have hts := C.1.2.2.2.2
  have hown := C.1.2.2.2.1
  refine lv_iload hx hb dL_law_180 (lv_at hl 5 rfl) ?_
  refine x_ifR_eq (x := 1) (tgt := 211) hx hb dL_law_182 (by decide) (fun h => absurd h (by decide)) (fun _ => ?_)
  refine lv_aload_n hx hb dL_law_185 rfl (lv_at hl 1 rfl) ?_
  refine x_callViB (wr := List.flatten [[(vA, .inl (cI, 64, .inl V))]]) (w2 := List.flatten [xTop x o h t r tb, sW cI o G, hH cS h b (nI k), sW cI (b 0) (Hs 0), sW cI (b 1) (Hs 1), sW cI (b 2) (Hs 2), sW cI (b 3) (Hs 3), tW cI t T tn, rW3 r u q d, oW q f, sW cI u U, bW tb B, [(vA, .inl (cI, 64, .inl V))]]) (rest := []) (n := 0) C w hl [] (k_X6_critical l D cI cS tys ht0 ht1 x o h b t r q u tb G k Hs T tn f d U B ) gL_law_X6_critical rfl (by decide +kernel) ⟨Nat.le_of_ble_eq_true rfl, Nat.le_of_ble_eq_true rfl⟩ 0 6 rfl rfl rfl rfl (Nat.le_of_ble_eq_true rfl) (List.Perm.of_eq (by simp only [List.flatten_cons, List.flatten_nil, List.append_nil, List.append_assoc, List.nil_append])) (List.Perm.of_eq (by simp only [List.flatten_cons, List.flatten_nil, List.append_nil, List.append_assoc, List.nil_append])) ⟨Nat.le_of_ble_eq_true rfl, Nat.le_of_ble_eq_true rfl⟩ dL_law_186 (fun H locs w => ?_)
  refine x_ifR_lt (x := criI G) (tgt := 200) hx hb dL_law_189 (by decide) (fun c189_2 => ?_) (fun c189_2 => ?_)
  ·
    exact law_200 ht0 ht1 C hlocks hA hLI hk w (lv_sub hl [0, 1, 2, 3, 4, 5, 6] rfl)
  ·
    refine lv_aload_n hx hb dL_law_192 rfl (lv_at hl 1 rfl) ?_
    refine lv_iconst (v := 2) hx hb dL_law_193 (by decide +kernel) ?_
    refine x_callViB (wr := List.flatten [[(vA, .inl (cI, 64, .inl V))]]) (w2 := List.flatten [xTop x o h t r tb, sW cI o G, hH cS h b (nI k), sW cI (b 0) (Hs 0), sW cI (b 1) (Hs 1), sW cI (b 2) (Hs 2), sW cI (b 3) (Hs 3), tW cI t T tn, rW3 r u q d, oW q f, sW cI u U, bW tb B, [(vA, .inl (cI, 64, .inl V))]]) (rest := []) (n := 1) C w hl [.int 2] (k_X6_lines l D cI cS tys ht0 ht1 x o h b t r q u tb G k Hs T tn f d U B 2 ) gL_law_X6_lines rfl (by decide +kernel) ⟨Nat.le_of_ble_eq_true rfl, Nat.le_of_ble_eq_true rfl⟩ 0 6 rfl rfl rfl rfl (Nat.le_of_ble_eq_true rfl) (List.Perm.of_eq (by simp only [List.flatten_cons, List.flatten_nil, List.append_nil, List.append_assoc, List.nil_append])) (List.Perm.of_eq (by simp only [List.flatten_cons, List.flatten_nil, List.append_nil, List.append_assoc, List.nil_append])) ⟨Nat.le_of_ble_eq_true rfl, Nat.le_of_ble_eq_true rfl⟩ dL_law_194 (fun H locs w => ?_)
    refine x_top (y := (setI G 2)) (lin_2 _) ?_
    refine x_ifR_eq (x := (setI G 2)) (tgt := 211) hx hb dL_law_197 (by decide) (fun c197_3 => ?_) (fun c197_3 => ?_)
    ·
      exact absurd c197_3 (cri_or c189_2)
    ·
      exact law_200 ht0 ht1 C hlocks hA hLI hk w (lv_sub hl [0, 1, 2, 3, 4, 5, 6] rfl)
