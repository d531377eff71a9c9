/-! ===== the class's set: two tables that nobody writes ===== -/
def loF (j : Nat) : Int32 := if j = 0 then 1 else if j = 3 then 1 else 0
def hiF (j : Nat) : Int32 := if j = 2 then 200 else 500
def xZ (A : Nat → Prop) (U : State) (H : Heap) : Prop := ∃ z1 z2 : Nat, va_Z "BatteryCaches" "LEAST_SETTING" "[I" (.ref z1) A U H ∧ va_T .int z1 4 (fun j => .int (loF j)) A U H ∧ va_Z "BatteryCaches" "MOST_SETTING" "[I" (.ref z2) A U H ∧ va_T .int z2 4 (fun j => .int (hiF j)) A U H
def xPreZ (D : va_G) (tys : List (ClassId × FieldType)) (w : va_W) (sz : Nat) (U : State) : Prop := xPre D tys w sz U ∧ xZ (va_A w sz) U U.heap
def xIZ (l : Launch) (y : MethodName) (ws : List Cond) (d : Nat) (D : va_G) (tys : List (ClassId × FieldType)) (av : List Value) (w : va_W) (rv : Int32) (w' : va_W) : Prop :=
  ∀ sz : Nat, Met l y ws (rmd d) (va_Pc av (xPreZ D tys w sz)) (xQi D tys rv w' (va_A w sz)) 0 0 (va_A w sz)
section XZ
variable {l : Launch} {y : MethodName} {ws ws' : List Cond} {d : Nat} {D : va_G} {tys : List (ClassId × FieldType)} {av : List Value} {w w' : va_W} {rv : Int32} {cc : ByteArray} {maxL : Nat} {ret : Option FieldType}
theorem x_inIZ (hy : plainName y.cls = true) (hw : ws = Cond.code y cc maxL ret :: ws') (hlen : (lg_sl av).length ≤ maxL)
    (body : ∀ (p : Program) (e : Env) (s : State) (m : MethodId) (args : Array Value) (below : List Frame) (meth : Method) (c : Code) (A : Nat → Prop) (ls : Array Slot), xC p s m meth c args cc maxL ws y.cls D tys ret → xW D A s.heap w s.heap [] → lv_has ls maxL (lv_args 0 av) → xZ A s s.heap →
      W p l e (rmd d) s m args below meth c s.heap [] 0 0 (MQ below (xQi D tys rv w' A) args s 0 0 A) (F0 m 0 ls [])) : xIZ l y ws d D tys av w rv w' := by
  intro sz
  refine Met.ofW (cc := cc) (maxL := maxL) (ret := ret) hy hw ?_
  intro p e s m args below meth c s₁ B hml hv
  obtain ⟨rfl, ⟨hsz, hP, hK, hD0, hN⟩, hZ⟩ := hv
  have hts := atoms_spec (ws := ws) B.pre
  have hown : s.vm.findClass y.cls = some m.cls := findClass_of_methodNamed B.named
  subst hsz
  have hD := hD0.self (sz := s.heap.size)
  generalize hAe : va_A w s.heap.size = A at hD hZ ⊢
  have hA : ∀ q : Nat, s.heap.size ≤ q → A q := fun q h => by rw [← hAe]; exact Or.inr h
  have hl := lv_entry av (n := maxL) hlen
  rw [lg_entry_eq]
  exact body p e s m _ below meth c A _ ⟨⟨B.exec, B.bytes, hml, hown, hts⟩, hK, B.returns, B.notSynchronized, hN⟩ ⟨hP, hD, va_S.rf, hA⟩ hl hZ
end XZ
set_option maxHeartbeats 1000000 in
set_option maxRecDepth 100000 in
theorem k_X6_set_ok (l : Launch) (D : va_G) (cI cS : ClassId) (tys : List (ClassId × FieldType)) (ht0 : tys[0]? = some (cI, .int)) (ht1 : tys[1]? = some (cS, .object RX4)) (x : Nat) (o : Nat → Nat) (h : Nat → Nat) (b : Nat → Nat → Nat) (t : Nat → Nat) (r : Nat) (q : Nat) (u : Nat → Nat) (tb : Nat) (G : St) (k : Nat) (Hs : Nat → St) (T : Nat → Int32) (tn : Int32) (f : Nat → Int32) (d : Int32) (U : St) (B : St) (a1 : Int32) (a2 : Int32) (h1 : rg a1 4 = true) (h2 : wth a2 (loF (ix a1)) (hiF (ix a1)) = true) (hk : k ≤ 4) : xIZ l yX6_set wsX6_set 4 D tys [.ref x, .int a1, .int a2] (List.flatten [xTop x o h t r tb, sW cI o G, hH cS h b (nI k), sW cI (b 0) (Hs 0), sW cI (b 1) (Hs 1), sW cI (b 2) (Hs 2), sW cI (b 3) (Hs 3), tW cI t T tn, rW3 r u q d, oW q f, sW cI u U, bW tb B]) (stgI G a1) (List.flatten [xTop x o h t r tb, sW cI o (chsG G a1 a2), hH cS h (kpA k b) (nI (kpN k)), sW cI ((kpA k b) 0) ((kpG k Hs G) 0), sW cI ((kpA k b) 1) ((kpG k Hs G) 1), sW cI ((kpA k b) 2) ((kpG k Hs G) 2), sW cI ((kpA k b) 3) ((kpG k Hs G) 3), tW cI t T tn, rW3 r u q d, oW q f, sW cI u U, bW tb B]) := by
  refine x_inIZ (cc := cX6_set) (maxL := 4) (ret := (some .int)) (by decide) rfl (Nat.le_of_ble_eq_true rfl) ?_
  intro p e s m args below meth c A ls C w hl hZ
  obtain ⟨z1, z2, hz1, hzt1, hz2, hzt2⟩ := hZ
  have C : xC p s m meth c args cX6_set 4 wsX6_set RX6 D tys (some .int) := C
  have hx := C.1.1
  have hb := C.1.2.1
  have hts := C.1.2.2.2.2
  have hown := C.1.2.2.2.1
  have w : xW D A s.heap (List.flatten [xTop x o h t r tb, sW cI o G, hH cS h b (nI k), sW cI (b 0) (Hs 0), sW cI (b 1) (Hs 1), sW cI (b 2) (Hs 2), sW cI (b 3) (Hs 3), tW cI t T tn, rW3 r u q d, oW q f, sW cI u U, bW tb B]) s.heap [] := w
  have hl : lv_has ls 4 [(0, .ref x), (1, .int a1), (2, .int a2)] := hl
  refine lv_iload_n hx hb dX6_set_0 rfl (lv_at hl 1 rfl) ?_
  refine x_callSiB (wr := List.flatten [xTop x o h t r tb, sW cI o G, hH cS h b (nI k), sW cI (b 0) (Hs 0), sW cI (b 1) (Hs 1), sW cI (b 2) (Hs 2), sW cI (b 3) (Hs 3), tW cI t T tn, rW3 r u q d, oW q f, sW cI u U, bW tb B]) (w2 := List.flatten [xTop x o h t r tb, sW cI o G, hH cS h b (nI k), sW cI (b 0) (Hs 0), sW cI (b 1) (Hs 1), sW cI (b 2) (Hs 2), sW cI (b 3) (Hs 3), tW cI t T tn, rW3 r u q d, oW q f, sW cI u U, bW tb B]) (rest := []) (n := 1) C w hl [.int a1] (k_X6_isSetting l D cI cS tys ht0 a1 ) gX6_set_X6_isSetting rfl (by decide +kernel) ⟨Nat.le_of_ble_eq_true rfl, Nat.le_of_ble_eq_true rfl⟩ rfl rfl (Nat.le_of_ble_eq_true rfl) (List.Perm.refl _) (List.Perm.refl _) ⟨Nat.zero_le _, Nat.zero_le _⟩ dX6_set_1 (fun H locs w => ?_)
  refine x_ifB_eq (P := rg a1 4 = true) (tgt := 24) hx hb dX6_set_4 (by decide) (fun c4_1 => ?_) (fun c4_1 => ?_)
  ·
    exact absurd h1 c4_1
  ·
    refine lv_iload_n hx hb dX6_set_7 rfl (lv_at hl 2 rfl) ?_
    refine va_gets hx hb hz1 w.2.2.1 hown (hts _ (List.mem_of_getElem? (i := 1) rfl)) (fun _ h => h) dX6_set_8 ?_
    refine lv_iload_n hx hb dX6_set_11 rfl (lv_at hl 1 rfl) ?_
    refine va_ti hx hb hzt1 w.2.2.1 (rg_in (n := 4) rfl (by decide) c4_1) (v := .int (loF (ix a1))) rfl dX6_set_12 ?_
    refine va_gets hx hb hz2 w.2.2.1 hown (hts _ (List.mem_of_getElem? (i := 2) rfl)) (fun _ h => h) dX6_set_13 ?_
    refine lv_iload_n hx hb dX6_set_16 rfl (lv_at hl 1 rfl) ?_
    refine va_ti hx hb hzt2 w.2.2.1 (rg_in (n := 4) rfl (by decide) c4_1) (v := .int (hiF (ix a1))) rfl dX6_set_17 ?_
    refine x_callSiB (wr := List.flatten [xTop x o h t r tb, sW cI o G, hH cS h b (nI k), sW cI (b 0) (Hs 0), sW cI (b 1) (Hs 1), sW cI (b 2) (Hs 2), sW cI (b 3) (Hs 3), tW cI t T tn, rW3 r u q d, oW q f, sW cI u U, bW tb B]) (w2 := List.flatten [xTop x o h t r tb, sW cI o G, hH cS h b (nI k), sW cI (b 0) (Hs 0), sW cI (b 1) (Hs 1), sW cI (b 2) (Hs 2), sW cI (b 3) (Hs 3), tW cI t T tn, rW3 r u q d, oW q f, sW cI u U, bW tb B]) (rest := []) (n := 3) C w hl [.int a2, .int (loF (ix a1)), .int (hiF (ix a1))] (k_X6_isWithin l D cI cS tys ht0 a2 (loF (ix a1)) (hiF (ix a1)) ) gX6_set_X6_isWithin rfl (by decide +kernel) ⟨Nat.le_of_ble_eq_true rfl, Nat.le_of_ble_eq_true rfl⟩ rfl rfl (Nat.le_of_ble_eq_true rfl) (List.Perm.refl _) (List.Perm.refl _) ⟨Nat.zero_le _, Nat.zero_le _⟩ dX6_set_18 (fun H locs w => ?_)
    refine x_ifB_ne (P := wth a2 (loF (ix a1)) (hiF (ix a1)) = true) (tgt := 27) hx hb dX6_set_21 (by decide) (fun c21_2 => ?_) (fun c21_2 => ?_)
    ·
      refine lv_aload_n hx hb dX6_set_27 rfl (lv_at hl 0 rfl) ?_
      refine x_get (v := .ref (h 0)) (T := TX6) C (x_pc (b := xTop x o h t r tb) w 0 rfl) 0 1 rfl rfl (fun _ h => List.mem_cons_of_mem _ (List.mem_append_left _ (List.mem_append_left _ (List.mem_append_left _ (List.mem_append_right _ (h)))))) (List.mem_of_getElem? (i := 4) rfl) (by decide) rfl dX6_set_28 ?_
      refine lv_aload_n hx hb dX6_set_31 rfl (lv_at hl 0 rfl) ?_
      refine x_get (v := .ref (o 0)) (T := TX6) C (x_pc (b := xTop x o h t r tb) w 0 rfl) 0 0 rfl rfl (fun _ h => List.mem_cons_of_mem _ (List.mem_append_left _ (List.mem_append_left _ (List.mem_append_left _ (List.mem_append_right _ (h)))))) (List.mem_of_getElem? (i := 5) rfl) (by decide) rfl dX6_set_32 ?_
      have w : xW D A s.heap (List.flatten [hH cS h b (nI k), sW cI (b 0) (Hs 0), sW cI (b 1) (Hs 1), sW cI (b 2) (Hs 2), sW cI (b 3) (Hs 3), sW cI o G, xTop x o h t r tb, tW cI t T tn, rW3 r u q d, oW q f, sW cI u U, bW tb B]) _ _ := x_perm (bl_of [xTop x o h t r tb, sW cI o G, hH cS h b (nI k), sW cI (b 0) (Hs 0), sW cI (b 1) (Hs 1), sW cI (b 2) (Hs 2), sW cI (b 3) (Hs 3), tW cI t T tn, rW3 r u q d, oW q f, sW cI u U, bW tb B] [hH cS h b (nI k), sW cI (b 0) (Hs 0), sW cI (b 1) (Hs 1), sW cI (b 2) (Hs 2), sW cI (b 3) (Hs 3), sW cI o G, xTop x o h t r tb, tW cI t T tn, rW3 r u q d, oW q f, sW cI u U, bW tb B] [2, 3, 4, 5, 6, 1, 0, 7, 8, 9, 10, 11] 12 rfl (by decide) rfl) w
      refine x_callVvB (wr := List.flatten [xTop x o h t r tb, tW cI t T tn, rW3 r u q d, oW q f, sW cI u U, bW tb B]) (w2 := List.flatten [hH cS h (kpA k b) (nI (kpN k)), sW cI ((kpA k b) 0) ((kpG k Hs G) 0), sW cI ((kpA k b) 1) ((kpG k Hs G) 1), sW cI ((kpA k b) 2) ((kpG k Hs G) 2), sW cI ((kpA k b) 3) ((kpG k Hs G) 3), sW cI o G, xTop x o h t r tb, tW cI t T tn, rW3 r u q d, oW q f, sW cI u U, bW tb B]) (rest := []) (n := 1) C w hl [.ref (o 0)] (k_X1_keep l D cI cS tys ht0 ht1 h b Hs o G k hk) gX6_set_X1_keep rfl (by decide +kernel) ⟨Nat.le_of_ble_eq_true rfl, Nat.le_of_ble_eq_true rfl⟩ 0 1 rfl rfl rfl rfl (Nat.le_of_ble_eq_true rfl) (List.Perm.of_eq (by simp only [List.flatten_cons, List.flatten_nil, List.append_nil, List.append_assoc, List.nil_append])) (List.Perm.of_eq (by simp only [List.flatten_cons, List.flatten_nil, List.append_nil, List.append_assoc, List.nil_append])) ⟨Nat.zero_le _, Nat.zero_le _⟩ dX6_set_35 (fun H locs w => ?_)
      refine lv_aload_n hx hb dX6_set_38 rfl (lv_at hl 0 rfl) ?_
      refine x_get (v := .ref (o 0)) (T := TX6) C (x_pc (b := xTop x o h t r tb) w 6 rfl) 0 0 rfl rfl (fun _ h => List.mem_cons_of_mem _ (List.mem_append_left _ (List.mem_append_left _ (List.mem_append_left _ (List.mem_append_right _ (h)))))) (List.mem_of_getElem? (i := 5) rfl) (by decide) rfl dX6_set_39 ?_
      refine x_get (v := .ref (o 1)) (T := TX4) C (x_pc (b := sW cI o G) w 5 rfl) 0 0 rfl rfl (fun _ h => List.mem_cons_of_mem _ (List.mem_append_left _ (List.mem_append_left _ (List.mem_append_right _ (h))))) (List.mem_of_getElem? (i := 6) rfl) (by decide) rfl dX6_set_42 ?_
      refine lv_iload_n hx hb dX6_set_45 rfl (lv_at hl 1 rfl) ?_
      have w : xW D A s.heap (List.flatten [sW cI o G, hH cS h (kpA k b) (nI (kpN k)), sW cI ((kpA k b) 0) ((kpG k Hs G) 0), sW cI ((kpA k b) 1) ((kpG k Hs G) 1), sW cI ((kpA k b) 2) ((kpG k Hs G) 2), sW cI ((kpA k b) 3) ((kpG k Hs G) 3), xTop x o h t r tb, tW cI t T tn, rW3 r u q d, oW q f, sW cI u U, bW tb B]) _ _ := x_perm (bl_of [hH cS h (kpA k b) (nI (kpN k)), sW cI ((kpA k b) 0) ((kpG k Hs G) 0), sW cI ((kpA k b) 1) ((kpG k Hs G) 1), sW cI ((kpA k b) 2) ((kpG k Hs G) 2), sW cI ((kpA k b) 3) ((kpG k Hs G) 3), sW cI o G, xTop x o h t r tb, tW cI t T tn, rW3 r u q d, oW q f, sW cI u U, bW tb B] [sW cI o G, hH cS h (kpA k b) (nI (kpN k)), sW cI ((kpA k b) 0) ((kpG k Hs G) 0), sW cI ((kpA k b) 1) ((kpG k Hs G) 1), sW cI ((kpA k b) 2) ((kpG k Hs G) 2), sW cI ((kpA k b) 3) ((kpG k Hs G) 3), xTop x o h t r tb, tW cI t T tn, rW3 r u q d, oW q f, sW cI u U, bW tb B] [5, 0, 1, 2, 3, 4, 6, 7, 8, 9, 10, 11] 12 rfl (by decide) rfl) w
      have w : xW D A s.heap (List.flatten [bW (o 1) G, sR cI o G, hH cS h (kpA k b) (nI (kpN k)), sW cI ((kpA k b) 0) ((kpG k Hs G) 0), sW cI ((kpA k b) 1) ((kpG k Hs G) 1), sW cI ((kpA k b) 2) ((kpG k Hs G) 2), sW cI ((kpA k b) 3) ((kpG k Hs G) 3), xTop x o h t r tb, tW cI t T tn, rW3 r u q d, oW q f, sW cI u U, bW tb B]) _ _ := x_perm ((List.Perm.append_right _ (sW_sR cI o G)).trans (List.Perm.of_eq (List.append_assoc _ _ _))) w
      refine x_callViB (wr := List.flatten [sR cI o G, hH cS h (kpA k b) (nI (kpN k)), sW cI ((kpA k b) 0) ((kpG k Hs G) 0), sW cI ((kpA k b) 1) ((kpG k Hs G) 1), sW cI ((kpA k b) 2) ((kpG k Hs G) 2), sW cI ((kpA k b) 3) ((kpG k Hs G) 3), xTop x o h t r tb, tW cI t T tn, rW3 r u q d, oW q f, sW cI u U, bW tb B]) (w2 := List.flatten [bW (o 1) G, sR cI o G, hH cS h (kpA k b) (nI (kpN k)), sW cI ((kpA k b) 0) ((kpG k Hs G) 0), sW cI ((kpA k b) 1) ((kpG k Hs G) 1), sW cI ((kpA k b) 2) ((kpG k Hs G) 2), sW cI ((kpA k b) 3) ((kpG k Hs G) 3), xTop x o h t r tb, tW cI t T tn, rW3 r u q d, oW q f, sW cI u U, bW tb B]) (rest := []) (n := 1) C w hl [.int a1] (k_X0_setting l D cI cS tys ht0 (o 1) G a1 ) gX6_set_X0_setting rfl (by decide +kernel) ⟨Nat.le_of_ble_eq_true rfl, Nat.le_of_ble_eq_true rfl⟩ 0 0 rfl rfl rfl rfl (Nat.le_of_ble_eq_true rfl) (List.Perm.refl _) (List.Perm.refl _) ⟨Nat.zero_le _, Nat.zero_le _⟩ dX6_set_46 (fun H locs w => ?_)
      have w : xW D A s.heap (List.flatten [sW cI o G, hH cS h (kpA k b) (nI (kpN k)), sW cI ((kpA k b) 0) ((kpG k Hs G) 0), sW cI ((kpA k b) 1) ((kpG k Hs G) 1), sW cI ((kpA k b) 2) ((kpG k Hs G) 2), sW cI ((kpA k b) 3) ((kpG k Hs G) 3), xTop x o h t r tb, tW cI t T tn, rW3 r u q d, oW q f, sW cI u U, bW tb B]) _ _ := x_perm ((List.Perm.of_eq (List.append_assoc _ _ _)).symm.trans (List.Perm.append_right _ (sW_sR cI o G).symm)) w
      refine lv_istore_n (lv' := [(3, .int (stgI G a1)), (0, .ref x), (1, .int a1), (2, .int a2)]) hx hb dX6_set_49 rfl hl (by decide) rfl (fun ls hl => ?_)
      refine lv_aload_n hx hb dX6_set_50 rfl (lv_at hl 1 rfl) ?_
      refine x_get (v := .ref (o 0)) (T := TX6) C (x_pc (b := xTop x o h t r tb) w 6 rfl) 0 0 rfl rfl (fun _ h => List.mem_cons_of_mem _ (List.mem_append_left _ (List.mem_append_left _ (List.mem_append_left _ (List.mem_append_right _ (h)))))) (List.mem_of_getElem? (i := 5) rfl) (by decide) rfl dX6_set_51 ?_
      refine x_get (v := .ref (o 1)) (T := TX4) C (x_pc (b := sW cI o G) w 0 rfl) 0 0 rfl rfl (fun _ h => List.mem_cons_of_mem _ (List.mem_append_left _ (List.mem_append_left _ (List.mem_append_right _ (h))))) (List.mem_of_getElem? (i := 6) rfl) (by decide) rfl dX6_set_54 ?_
      refine lv_iload_n hx hb dX6_set_57 rfl (lv_at hl 2 rfl) ?_
      refine lv_iload_n hx hb dX6_set_58 rfl (lv_at hl 3 rfl) ?_
      have w : xW D A s.heap (List.flatten [bW (o 1) G, sR cI o G, hH cS h (kpA k b) (nI (kpN k)), sW cI ((kpA k b) 0) ((kpG k Hs G) 0), sW cI ((kpA k b) 1) ((kpG k Hs G) 1), sW cI ((kpA k b) 2) ((kpG k Hs G) 2), sW cI ((kpA k b) 3) ((kpG k Hs G) 3), xTop x o h t r tb, tW cI t T tn, rW3 r u q d, oW q f, sW cI u U, bW tb B]) _ _ := x_perm ((List.Perm.append_right _ (sW_sR cI o G)).trans (List.Perm.of_eq (List.append_assoc _ _ _))) w
      refine x_callVvB (wr := List.flatten [sR cI o G, hH cS h (kpA k b) (nI (kpN k)), sW cI ((kpA k b) 0) ((kpG k Hs G) 0), sW cI ((kpA k b) 1) ((kpG k Hs G) 1), sW cI ((kpA k b) 2) ((kpG k Hs G) 2), sW cI ((kpA k b) 3) ((kpG k Hs G) 3), xTop x o h t r tb, tW cI t T tn, rW3 r u q d, oW q f, sW cI u U, bW tb B]) (w2 := List.flatten [bW (o 1) (chsG G a1 a2), sR cI o G, hH cS h (kpA k b) (nI (kpN k)), sW cI ((kpA k b) 0) ((kpG k Hs G) 0), sW cI ((kpA k b) 1) ((kpG k Hs G) 1), sW cI ((kpA k b) 2) ((kpG k Hs G) 2), sW cI ((kpA k b) 3) ((kpG k Hs G) 3), xTop x o h t r tb, tW cI t T tn, rW3 r u q d, oW q f, sW cI u U, bW tb B]) (rest := []) (n := 2) C w hl [.int a1, .int a2] (k_X0_changeSetting l D cI cS tys ht0 (o 1) G a1 a2 ) gX6_set_X0_changeSetting rfl (by decide +kernel) ⟨Nat.le_of_ble_eq_true rfl, Nat.le_of_ble_eq_true rfl⟩ 0 0 rfl rfl rfl rfl (Nat.le_of_ble_eq_true rfl) (List.Perm.refl _) (List.Perm.refl _) ⟨Nat.zero_le _, Nat.zero_le _⟩ dX6_set_59 (fun H locs w => ?_)
      have w : xW D A s.heap (List.flatten [bW (o 1) (chsG G a1 a2), sR cI o (chsG G a1 a2), hH cS h (kpA k b) (nI (kpN k)), sW cI ((kpA k b) 0) ((kpG k Hs G) 0), sW cI ((kpA k b) 1) ((kpG k Hs G) 1), sW cI ((kpA k b) 2) ((kpG k Hs G) 2), sW cI ((kpA k b) 3) ((kpG k Hs G) 3), xTop x o h t r tb, tW cI t T tn, rW3 r u q d, oW q f, sW cI u U, bW tb B]) _ _ := w
      have w : xW D A s.heap (List.flatten [sW cI o (chsG G a1 a2), hH cS h (kpA k b) (nI (kpN k)), sW cI ((kpA k b) 0) ((kpG k Hs G) 0), sW cI ((kpA k b) 1) ((kpG k Hs G) 1), sW cI ((kpA k b) 2) ((kpG k Hs G) 2), sW cI ((kpA k b) 3) ((kpG k Hs G) 3), xTop x o h t r tb, tW cI t T tn, rW3 r u q d, oW q f, sW cI u U, bW tb B]) _ _ := x_perm ((List.Perm.of_eq (List.append_assoc _ _ _)).symm.trans (List.Perm.append_right _ (sW_sR cI o (chsG G a1 a2)).symm)) w
      refine lv_iload_n hx hb dX6_set_62 rfl (lv_at hl 0 rfl) ?_
      have w : xW D A s.heap (List.flatten [xTop x o h t r tb, sW cI o (chsG G a1 a2), hH cS h (kpA k b) (nI (kpN k)), sW cI ((kpA k b) 0) ((kpG k Hs G) 0), sW cI ((kpA k b) 1) ((kpG k Hs G) 1), sW cI ((kpA k b) 2) ((kpG k Hs G) 2), sW cI ((kpA k b) 3) ((kpG k Hs G) 3), tW cI t T tn, rW3 r u q d, oW q f, sW cI u U, bW tb B]) _ _ := x_perm (bl_of [sW cI o (chsG G a1 a2), hH cS h (kpA k b) (nI (kpN k)), sW cI ((kpA k b) 0) ((kpG k Hs G) 0), sW cI ((kpA k b) 1) ((kpG k Hs G) 1), sW cI ((kpA k b) 2) ((kpG k Hs G) 2), sW cI ((kpA k b) 3) ((kpG k Hs G) 3), xTop x o h t r tb, tW cI t T tn, rW3 r u q d, oW q f, sW cI u U, bW tb B] [xTop x o h t r tb, sW cI o (chsG G a1 a2), hH cS h (kpA k b) (nI (kpN k)), sW cI ((kpA k b) 0) ((kpG k Hs G) 0), sW cI ((kpA k b) 1) ((kpG k Hs G) 1), sW cI ((kpA k b) 2) ((kpG k Hs G) 2), sW cI ((kpA k b) 3) ((kpG k Hs G) 3), tW cI t T tn, rW3 r u q d, oW q f, sW cI u U, bW tb B] [6, 0, 1, 2, 3, 4, 5, 7, 8, 9, 10, 11] 12 rfl (by decide) rfl) w
      exact x_iret C w (by first | rfl | contradiction | (simp [c4_1, c21_2]; done)) rfl dX6_set_63
    ·
      exact absurd h2 c21_2
set_option maxHeartbeats 1000000 in
set_option maxRecDepth 100000 in
theorem k_X6_set_no (l : Launch) (D : va_G) (cI cS : ClassId) (tys : List (ClassId × FieldType)) (ht0 : tys[0]? = some (cI, .int)) (ht1 : tys[1]? = some (cS, .object RX4)) (x : Nat) (o : Nat → Nat) (h : Nat → Nat) (b : Nat → Nat → Nat) (t : Nat → Nat) (r : Nat) (q : Nat) (u : Nat → Nat) (tb : Nat) (G : St) (k : Nat) (Hs : Nat → St) (T : Nat → Int32) (tn : Int32) (f : Nat → Int32) (d : Int32) (U : St) (B : St) (a1 : Int32) (a2 : Int32) (hno : ¬ (rg a1 4 = true ∧ wth a2 (loF (ix a1)) (hiF (ix a1)) = true)) : xIZ l yX6_set wsX6_set 4 D tys [.ref x, .int a1, .int a2] (List.flatten [xTop x o h t r tb, sW cI o G, hH cS h b (nI k), sW cI (b 0) (Hs 0), sW cI (b 1) (Hs 1), sW cI (b 2) (Hs 2), sW cI (b 3) (Hs 3), tW cI t T tn, rW3 r u q d, oW q f, sW cI u U, bW tb B]) (-1000001) (List.flatten [xTop x o h t r tb, sW cI o G, hH cS h b (nI k), sW cI (b 0) (Hs 0), sW cI (b 1) (Hs 1), sW cI (b 2) (Hs 2), sW cI (b 3) (Hs 3), tW cI t T tn, rW3 r u q d, oW q f, sW cI u U, bW tb B]) := by
  refine x_inIZ (cc := cX6_set) (maxL := 4) (ret := (some .int)) (by decide) rfl (Nat.le_of_ble_eq_true rfl) ?_
  intro p e s m args below meth c A ls C w hl hZ
  obtain ⟨z1, z2, hz1, hzt1, hz2, hzt2⟩ := hZ
  have C : xC p s m meth c args cX6_set 4 wsX6_set RX6 D tys (some .int) := C
  have hx := C.1.1
  have hb := C.1.2.1
  have hts := C.1.2.2.2.2
  have hown := C.1.2.2.2.1
  have w : xW D A s.heap (List.flatten [xTop x o h t r tb, sW cI o G, hH cS h b (nI k), sW cI (b 0) (Hs 0), sW cI (b 1) (Hs 1), sW cI (b 2) (Hs 2), sW cI (b 3) (Hs 3), tW cI t T tn, rW3 r u q d, oW q f, sW cI u U, bW tb B]) s.heap [] := w
  have hl : lv_has ls 4 [(0, .ref x), (1, .int a1), (2, .int a2)] := hl
  refine lv_iload_n hx hb dX6_set_0 rfl (lv_at hl 1 rfl) ?_
  refine x_callSiB (wr := List.flatten [xTop x o h t r tb, sW cI o G, hH cS h b (nI k), sW cI (b 0) (Hs 0), sW cI (b 1) (Hs 1), sW cI (b 2) (Hs 2), sW cI (b 3) (Hs 3), tW cI t T tn, rW3 r u q d, oW q f, sW cI u U, bW tb B]) (w2 := List.flatten [xTop x o h t r tb, sW cI o G, hH cS h b (nI k), sW cI (b 0) (Hs 0), sW cI (b 1) (Hs 1), sW cI (b 2) (Hs 2), sW cI (b 3) (Hs 3), tW cI t T tn, rW3 r u q d, oW q f, sW cI u U, bW tb B]) (rest := []) (n := 1) C w hl [.int a1] (k_X6_isSetting l D cI cS tys ht0 a1 ) gX6_set_X6_isSetting rfl (by decide +kernel) ⟨Nat.le_of_ble_eq_true rfl, Nat.le_of_ble_eq_true rfl⟩ rfl rfl (Nat.le_of_ble_eq_true rfl) (List.Perm.refl _) (List.Perm.refl _) ⟨Nat.zero_le _, Nat.zero_le _⟩ dX6_set_1 (fun H locs w => ?_)
  refine x_ifB_eq (P := rg a1 4 = true) (tgt := 24) hx hb dX6_set_4 (by decide) (fun c4_1 => ?_) (fun c4_1 => ?_)
  ·
    refine lv_ldc (v := -1000001) hx hb hown (hts _ (List.mem_of_getElem? (i := 3) rfl)) dX6_set_24 ?_
    exact x_iret C w rfl rfl dX6_set_26
  ·
    refine lv_iload_n hx hb dX6_set_7 rfl (lv_at hl 2 rfl) ?_
    refine va_gets hx hb hz1 w.2.2.1 hown (hts _ (List.mem_of_getElem? (i := 1) rfl)) (fun _ h => h) dX6_set_8 ?_
    refine lv_iload_n hx hb dX6_set_11 rfl (lv_at hl 1 rfl) ?_
    refine va_ti hx hb hzt1 w.2.2.1 (rg_in (n := 4) rfl (by decide) c4_1) (v := .int (loF (ix a1))) rfl dX6_set_12 ?_
    refine va_gets hx hb hz2 w.2.2.1 hown (hts _ (List.mem_of_getElem? (i := 2) rfl)) (fun _ h => h) dX6_set_13 ?_
    refine lv_iload_n hx hb dX6_set_16 rfl (lv_at hl 1 rfl) ?_
    refine va_ti hx hb hzt2 w.2.2.1 (rg_in (n := 4) rfl (by decide) c4_1) (v := .int (hiF (ix a1))) rfl dX6_set_17 ?_
    refine x_callSiB (wr := List.flatten [xTop x o h t r tb, sW cI o G, hH cS h b (nI k), sW cI (b 0) (Hs 0), sW cI (b 1) (Hs 1), sW cI (b 2) (Hs 2), sW cI (b 3) (Hs 3), tW cI t T tn, rW3 r u q d, oW q f, sW cI u U, bW tb B]) (w2 := List.flatten [xTop x o h t r tb, sW cI o G, hH cS h b (nI k), sW cI (b 0) (Hs 0), sW cI (b 1) (Hs 1), sW cI (b 2) (Hs 2), sW cI (b 3) (Hs 3), tW cI t T tn, rW3 r u q d, oW q f, sW cI u U, bW tb B]) (rest := []) (n := 3) C w hl [.int a2, .int (loF (ix a1)), .int (hiF (ix a1))] (k_X6_isWithin l D cI cS tys ht0 a2 (loF (ix a1)) (hiF (ix a1)) ) gX6_set_X6_isWithin rfl (by decide +kernel) ⟨Nat.le_of_ble_eq_true rfl, Nat.le_of_ble_eq_true rfl⟩ rfl rfl (Nat.le_of_ble_eq_true rfl) (List.Perm.refl _) (List.Perm.refl _) ⟨Nat.zero_le _, Nat.zero_le _⟩ dX6_set_18 (fun H locs w => ?_)
    refine x_ifB_ne (P := wth a2 (loF (ix a1)) (hiF (ix a1)) = true) (tgt := 27) hx hb dX6_set_21 (by decide) (fun c21_2 => ?_) (fun c21_2 => ?_)
    ·
      exact absurd ⟨c4_1, c21_2⟩ hno
    ·
      refine lv_ldc (v := -1000001) hx hb hown (hts _ (List.mem_of_getElem? (i := 3) rfl)) dX6_set_24 ?_
      exact x_iret C w rfl rfl dX6_set_26
