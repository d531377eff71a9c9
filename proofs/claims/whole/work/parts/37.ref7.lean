/-- what a question about a fault answers -/
def fauQ (T : Nat → Int32) (tn : Int32) (f : Nat → Int32) (G : St) (x : Int32) : Int32 := if (runR T tn 60 (f0R f) G).2.2 = true then -1000004 else if x = 0 then (runR T tn 60 (f0R f) G).1 0 else if x = 1 then (runR T tn 60 (f0R f) G).1 5 else (runR T tn 60 (f0R f) G).1 6
set_option maxHeartbeats 1000000 in
set_option maxRecDepth 100000 in
theorem k_X7_doOrder_ok (l : Launch) (D : va_G) (cI cS : ClassId) (tys : List (ClassId × FieldType)) (ht0 : tys[0]? = some (cI, .int)) (o : Nat → Nat) (G : St) (K : Nat → Int32) (h : Nat → Int32) (hn : Int32) (T : Nat → Int32) (f : Nat → Int32) (nt : Nat) (hx0 : ∃ v, v < nt ∧ f 0 = nI v) (hn60 : nt ≤ 60) (hI : Inv G) (hir : irR T f = true) (h39 : T (ix (f 0)) = 119 → wth (f 3) 0 999 = true) (hps : posR T f G = true) (hiso : isO (T (ix (f 0))) = true) : xI l yX7_doOrder wsX7_doOrder 6 D tys [.ref (o 0)] (mR cI o (fl G) K h hn T (nI nt) f) (perV T f G) (mR cI o (fl (perR T f G)) K h hn T (nI nt) f) := by
  refine x_inI (cc := cX7_doOrder) (maxL := 1) (ret := (some .int)) (by decide) rfl (Nat.le_of_ble_eq_true rfl) ?_
  intro p e s m args below meth c A ls C w hl
  have C : xC p s m meth c args cX7_doOrder 1 wsX7_doOrder RX7 D tys (some .int) := C
  have hx := C.1.1
  have hb := C.1.2.1
  have hts := C.1.2.2.2.2
  have hown := C.1.2.2.2.1
  have w : xW D A s.heap (mR cI o (fl G) K h hn T (nI nt) f) s.heap [] := w
  have hl : lv_has ls 1 [(0, .ref (o 0))] := hl
  obtain ⟨v, hv, ex0⟩ := id hx0
  refine lv_aload_n hx hb dX7_doOrder_0 rfl (lv_at hl 0 rfl) ?_
  refine x_get (v := .ref (o 4)) (T := TX7) C w 0 4 rfl rfl (fun _ h => List.mem_cons_of_mem _ (List.mem_append_right _ (h))) (List.mem_of_getElem? (i := 1) rfl) (by decide) rfl dX7_doOrder_1 ?_
  refine lv_aload_n hx hb dX7_doOrder_4 rfl (lv_at hl 0 rfl) ?_
  refine x_get (v := .int (f 0)) (T := TX7) C w 0 6 rfl rfl (fun _ h => List.mem_cons_of_mem _ (List.mem_append_right _ (h))) (List.mem_of_getElem? (i := 2) rfl) (by decide) rfl dX7_doOrder_5 ?_
  refine x_top (y := nI v) ex0 ?_
  refine x_iald (v := T v) C w 4 0 (v) rfl ht0 rfl (by omega) (by decide) rfl dX7_doOrder_8 ?_
  refine x_top (y := (T (ix (f 0)))) (by rw [ex0, ix_nI (by omega)]) ?_
  by_cases c9_1 : (T (ix (f 0))) = (99 : Int32)
  ·
    refine x_top (y := 99) c9_1 ?_
    refine lv_lookup (x := 99) (off := 91) (tgt := 100) hx hb dX7_doOrder_9 (by decide) (by decide) (by decide) ?_
    refine lv_aload_n hx hb dX7_doOrder_100 rfl (lv_at hl 0 rfl) ?_
    refine x_callVi (wr := []) (w2 := mR cI o (fl (cutG G)) K h hn T (nI nt) f) (rest := []) (n := 0) C w hl [] (k_X7_doCut l D cI cS tys ht0 o G K h hn T (nI nt) f hI) gX7_doOrder_X7_doCut rfl (by decide +kernel) ⟨Nat.le_of_ble_eq_true rfl, Nat.le_of_ble_eq_true rfl⟩ 0 7 rfl rfl rfl rfl (Nat.le_of_ble_eq_true rfl) [0, 1, 2, 3, 4] [] (by decide) rfl rfl (by decide) (by decide) [0, 1, 2, 3, 4] (by decide) rfl ⟨Nat.zero_le _, Nat.zero_le _⟩ dX7_doOrder_101 (fun H locs w => ?_)
    exact x_iret C w (by unfold perV; simp only [if_pos c9_1] <;> rw [ep9]) (congrArg (fun z => mR cI o (fl z) K h hn T (nI nt) f) (by unfold perR; simp only [if_pos c9_1] <;> rw [ep9])) dX7_doOrder_104
  ·
    by_cases c9_2 : (T (ix (f 0))) = (108 : Int32)
    ·
      refine x_top (y := 108) c9_2 ?_
      refine lv_lookup (x := 108) (off := 82) (tgt := 91) hx hb dX7_doOrder_9 (by decide) (by decide) (by decide) ?_
      refine lv_aload_n hx hb dX7_doOrder_91 rfl (lv_at hl 0 rfl) ?_
      refine lv_aload_n hx hb dX7_doOrder_92 rfl (lv_at hl 0 rfl) ?_
      refine x_get (v := .int (f 2)) (T := TX7) C w 0 8 rfl rfl (fun _ h => List.mem_cons_of_mem _ (List.mem_append_right _ (h))) (List.mem_of_getElem? (i := 3) rfl) (by decide) rfl dX7_doOrder_93 ?_
      refine x_callVi (wr := []) (w2 := mR cI o (fl (loaG G (f 2))) K h hn T (nI nt) f) (rest := []) (n := 1) C w hl [.int (f 2)] (k_X7_doLoad l D cI cS tys ht0 o G K h hn T (nI nt) f (f 2) (ir_108 hir c9_2) hI) gX7_doOrder_X7_doLoad rfl (by decide +kernel) ⟨Nat.le_of_ble_eq_true rfl, Nat.le_of_ble_eq_true rfl⟩ 0 7 rfl rfl rfl rfl (Nat.le_of_ble_eq_true rfl) [0, 1, 2, 3, 4] [] (by decide) rfl rfl (by decide) (by decide) [0, 1, 2, 3, 4] (by decide) rfl ⟨Nat.zero_le _, Nat.zero_le _⟩ dX7_doOrder_96 (fun H locs w => ?_)
      exact x_iret C w (by unfold perV; simp only [if_neg c9_1, if_pos c9_2] <;> rw [ep9]) (congrArg (fun z => mR cI o (fl z) K h hn T (nI nt) f) (by unfold perR; simp only [if_neg c9_1, if_pos c9_2] <;> rw [ep9])) dX7_doOrder_99
    ·
      by_cases c9_3 : (T (ix (f 0))) = (114 : Int32)
      ·
        refine x_top (y := 114) c9_3 ?_
        refine lv_lookup (x := 114) (off := 51) (tgt := 60) hx hb dX7_doOrder_9 (by decide) (by decide) (by decide) ?_
        obtain ⟨p9, hp9, ep9⟩ := rg_ex (n := 64) rfl (by decide) (ir_114 hir c9_3)
        refine lv_aload_n hx hb dX7_doOrder_60 rfl (lv_at hl 0 rfl) ?_
        refine lv_aload_n hx hb dX7_doOrder_61 rfl (lv_at hl 0 rfl) ?_
        refine x_get (v := .int (f 2)) (T := TX7) C w 0 8 rfl rfl (fun _ h => List.mem_cons_of_mem _ (List.mem_append_right _ (h))) (List.mem_of_getElem? (i := 3) rfl) (by decide) rfl dX7_doOrder_62 ?_
        refine x_top (y := nI p9) ep9 ?_
        refine x_callVi (wr := []) (w2 := mR cI o (fl (lnfG G (nI p9))) K h hn T (nI nt) f) (rest := []) (n := 1) C w hl [.int (nI p9)] (k_X7_doRead l D cI cS tys ht0 o G K h hn T (nI nt) f p9 hp9 hI) gX7_doOrder_X7_doRead rfl (by decide +kernel) ⟨Nat.le_of_ble_eq_true rfl, Nat.le_of_ble_eq_true rfl⟩ 0 7 rfl rfl rfl rfl (Nat.le_of_ble_eq_true rfl) [0, 1, 2, 3, 4] [] (by decide) rfl rfl (by decide) (by decide) [0, 1, 2, 3, 4] (by decide) rfl ⟨Nat.zero_le _, Nat.zero_le _⟩ dX7_doOrder_65 (fun H locs w => ?_)
        exact x_iret C w (by unfold perV; simp only [if_neg c9_1, if_neg c9_2, if_pos c9_3] <;> rw [ep9]) (congrArg (fun z => mR cI o (fl z) K h hn T (nI nt) f) (by unfold perR; simp only [if_neg c9_1, if_neg c9_2, if_pos c9_3] <;> rw [ep9])) dX7_doOrder_68
      ·
        by_cases c9_4 : (T (ix (f 0))) = (116 : Int32)
        ·
          refine x_top (y := 116) c9_4 ?_
          refine lv_lookup (x := 116) (off := 73) (tgt := 82) hx hb dX7_doOrder_9 (by decide) (by decide) (by decide) ?_
          refine lv_aload_n hx hb dX7_doOrder_82 rfl (lv_at hl 0 rfl) ?_
          refine lv_aload_n hx hb dX7_doOrder_83 rfl (lv_at hl 0 rfl) ?_
          refine x_get (v := .int (f 2)) (T := TX7) C w 0 8 rfl rfl (fun _ h => List.mem_cons_of_mem _ (List.mem_append_right _ (h))) (List.mem_of_getElem? (i := 3) rfl) (by decide) rfl dX7_doOrder_84 ?_
          refine x_callVi (wr := []) (w2 := mR cI o (fl (tksG G (ix (f 2)))) K h hn T (nI nt) f) (rest := []) (n := 1) C w hl [.int (f 2)] (k_X7_doTick l D cI cS tys ht0 o G K h hn T (nI nt) f (f 2) (ir_116 hir c9_4) hI) gX7_doOrder_X7_doTick rfl (by decide +kernel) ⟨Nat.le_of_ble_eq_true rfl, Nat.le_of_ble_eq_true rfl⟩ 0 7 rfl rfl rfl rfl (Nat.le_of_ble_eq_true rfl) [0, 1, 2, 3, 4] [] (by decide) rfl rfl (by decide) (by decide) [0, 1, 2, 3, 4] (by decide) rfl ⟨Nat.zero_le _, Nat.zero_le _⟩ dX7_doOrder_87 (fun H locs w => ?_)
          exact x_iret C w (by unfold perV; simp only [if_neg c9_1, if_neg c9_2, if_neg c9_3, if_pos c9_4] <;> rw [ep9]) (congrArg (fun z => mR cI o (fl z) K h hn T (nI nt) f) (by unfold perR; simp only [if_neg c9_1, if_neg c9_2, if_neg c9_3, if_pos c9_4] <;> rw [ep9])) dX7_doOrder_90
        ·
          by_cases c9_5 : (T (ix (f 0))) = (119 : Int32)
          ·
            refine x_top (y := 119) c9_5 ?_
            refine lv_lookup (x := 119) (off := 60) (tgt := 69) hx hb dX7_doOrder_9 (by decide) (by decide) (by decide) ?_
            obtain ⟨p9, hp9, ep9⟩ := rg_ex (n := 64) rfl (by decide) (ir_119 hir c9_5)
            refine lv_aload_n hx hb dX7_doOrder_69 rfl (lv_at hl 0 rfl) ?_
            refine lv_aload_n hx hb dX7_doOrder_70 rfl (lv_at hl 0 rfl) ?_
            refine x_get (v := .int (f 2)) (T := TX7) C w 0 8 rfl rfl (fun _ h => List.mem_cons_of_mem _ (List.mem_append_right _ (h))) (List.mem_of_getElem? (i := 3) rfl) (by decide) rfl dX7_doOrder_71 ?_
            refine x_top (y := nI p9) ep9 ?_
            refine lv_aload_n hx hb dX7_doOrder_74 rfl (lv_at hl 0 rfl) ?_
            refine x_get (v := .int (f 3)) (T := TX7) C w 0 9 rfl rfl (fun _ h => List.mem_cons_of_mem _ (List.mem_append_right _ (h))) (List.mem_of_getElem? (i := 4) rfl) (by decide) rfl dX7_doOrder_75 ?_
            refine x_callVi (wr := []) (w2 := mR cI o (fl (wptG G (nI p9) (f 3))) K h hn T (nI nt) f) (rest := []) (n := 2) C w hl [.int (nI p9), .int (f 3)] (k_X7_doWrite l D cI cS tys ht0 o G K h hn T (nI nt) f p9 (f 3) hp9 (h39 c9_5) hI) gX7_doOrder_X7_doWrite rfl (by decide +kernel) ⟨Nat.le_of_ble_eq_true rfl, Nat.le_of_ble_eq_true rfl⟩ 0 7 rfl rfl rfl rfl (Nat.le_of_ble_eq_true rfl) [0, 1, 2, 3, 4] [] (by decide) rfl rfl (by decide) (by decide) [0, 1, 2, 3, 4] (by decide) rfl ⟨Nat.zero_le _, Nat.zero_le _⟩ dX7_doOrder_78 (fun H locs w => ?_)
            exact x_iret C w (by unfold perV; simp only [if_neg c9_1, if_neg c9_2, if_neg c9_3, if_neg c9_4, if_pos c9_5] <;> rw [ep9]) (congrArg (fun z => mR cI o (fl z) K h hn T (nI nt) f) (by unfold perR; simp only [if_neg c9_1, if_neg c9_2, if_neg c9_3, if_neg c9_4, if_pos c9_5] <;> rw [ep9])) dX7_doOrder_81
          ·
            refine lv_lookup (x := (T (ix (f 0)))) (off := 96) (tgt := 105) hx hb dX7_doOrder_9 (by decide) (by show Op.lookupswitch.offset [(99, 91), (108, 82), (114, 51), (116, 73), (119, 60)] _ _ = _; rw [lv_osw c9_1 (by decide), lv_osw c9_2 (by decide), lv_osw c9_3 (by decide), lv_osw c9_4 (by decide), lv_osw c9_5 (by decide)]; rfl) (by decide) ?_
            have g103 : T (ix (f 0)) = 103 := by rcases of_decide_eq_true hiso with z | z | z | z | z | z <;> first | exact z | exact absurd z (by assumption)
            have g62 : G 6 2 = 0 := of_decide_eq_true hps g103
            refine lv_aload_n hx hb dX7_doOrder_105 rfl (lv_at hl 0 rfl) ?_
            refine x_callVi (wr := []) (w2 := mR cI o (fl (bgcG G)) K h hn T (nI nt) f) (rest := []) (n := 0) C w hl [] (k_X7_doLearn l D cI cS tys ht0 o G K h hn T (nI nt) f g62 hI) gX7_doOrder_X7_doLearn rfl (by decide +kernel) ⟨Nat.le_of_ble_eq_true rfl, Nat.le_of_ble_eq_true rfl⟩ 0 7 rfl rfl rfl rfl (Nat.le_of_ble_eq_true rfl) [0, 1, 2, 3, 4] [] (by decide) rfl rfl (by decide) (by decide) [0, 1, 2, 3, 4] (by decide) rfl ⟨Nat.zero_le _, Nat.zero_le _⟩ dX7_doOrder_106 (fun H locs w => ?_)
            exact x_iret C w (by unfold perV; simp only [if_neg c9_1, if_neg c9_2, if_neg c9_3, if_neg c9_4, if_neg c9_5] <;> rw [ep9]) (congrArg (fun z => mR cI o (fl z) K h hn T (nI nt) f) (by unfold perR; simp only [if_neg c9_1, if_neg c9_2, if_neg c9_3, if_neg c9_4, if_neg c9_5] <;> rw [ep9])) dX7_doOrder_109
set_option maxHeartbeats 1000000 in
set_option maxRecDepth 100000 in
theorem k_X7_doOrder_np (l : Launch) (D : va_G) (cI cS : ClassId) (tys : List (ClassId × FieldType)) (ht0 : tys[0]? = some (cI, .int)) (o : Nat → Nat) (G : St) (K : Nat → Int32) (h : Nat → Int32) (hn : Int32) (T : Nat → Int32) (f : Nat → Int32) (nt : Nat) (hx0 : ∃ v, v < nt ∧ f 0 = nI v) (hn60 : nt ≤ 60) (hps : ¬ posR T f G = true) : xI l yX7_doOrder wsX7_doOrder 6 D tys [.ref (o 0)] (mR cI o (fl G) K h hn T (nI nt) f) (-1000002) (mR cI o (fl G) K h hn T (nI nt) f) := by
  refine x_inI (cc := cX7_doOrder) (maxL := 1) (ret := (some .int)) (by decide) rfl (Nat.le_of_ble_eq_true rfl) ?_
  intro p e s m args below meth c A ls C w hl
  have C : xC p s m meth c args cX7_doOrder 1 wsX7_doOrder RX7 D tys (some .int) := C
  have hx := C.1.1
  have hb := C.1.2.1
  have hts := C.1.2.2.2.2
  have hown := C.1.2.2.2.1
  have w : xW D A s.heap (mR cI o (fl G) K h hn T (nI nt) f) s.heap [] := w
  have hl : lv_has ls 1 [(0, .ref (o 0))] := hl
  obtain ⟨v, hv, ex0⟩ := id hx0
  have g103 : T (ix (f 0)) = 103 := Classical.byContradiction (fun z => hps (decide_eq_true (fun y => absurd y z)))
  have g62 : ¬ G 6 2 = 0 := fun z => hps (decide_eq_true (fun _ => z))
  refine lv_aload_n hx hb dX7_doOrder_0 rfl (lv_at hl 0 rfl) ?_
  refine x_get (v := .ref (o 4)) (T := TX7) C w 0 4 rfl rfl (fun _ h => List.mem_cons_of_mem _ (List.mem_append_right _ (h))) (List.mem_of_getElem? (i := 1) rfl) (by decide) rfl dX7_doOrder_1 ?_
  refine lv_aload_n hx hb dX7_doOrder_4 rfl (lv_at hl 0 rfl) ?_
  refine x_get (v := .int (f 0)) (T := TX7) C w 0 6 rfl rfl (fun _ h => List.mem_cons_of_mem _ (List.mem_append_right _ (h))) (List.mem_of_getElem? (i := 2) rfl) (by decide) rfl dX7_doOrder_5 ?_
  refine x_top (y := nI v) ex0 ?_
  refine x_iald (v := T v) C w 4 0 (v) rfl ht0 rfl (by omega) (by decide) rfl dX7_doOrder_8 ?_
  refine x_top (y := (T (ix (f 0)))) (by rw [ex0, ix_nI (by omega)]) ?_
  by_cases c9_1 : (T (ix (f 0))) = (99 : Int32)
  ·
    refine x_top (y := 99) c9_1 ?_
    refine lv_lookup (x := 99) (off := 91) (tgt := 100) hx hb dX7_doOrder_9 (by decide) (by decide) (by decide) ?_
    exact absurd (c9_1.symm.trans g103) (by decide)
  ·
    by_cases c9_2 : (T (ix (f 0))) = (108 : Int32)
    ·
      refine x_top (y := 108) c9_2 ?_
      refine lv_lookup (x := 108) (off := 82) (tgt := 91) hx hb dX7_doOrder_9 (by decide) (by decide) (by decide) ?_
      exact absurd (c9_2.symm.trans g103) (by decide)
    ·
      by_cases c9_3 : (T (ix (f 0))) = (114 : Int32)
      ·
        refine x_top (y := 114) c9_3 ?_
        refine lv_lookup (x := 114) (off := 51) (tgt := 60) hx hb dX7_doOrder_9 (by decide) (by decide) (by decide) ?_
        exact absurd (c9_3.symm.trans g103) (by decide)
      ·
        by_cases c9_4 : (T (ix (f 0))) = (116 : Int32)
        ·
          refine x_top (y := 116) c9_4 ?_
          refine lv_lookup (x := 116) (off := 73) (tgt := 82) hx hb dX7_doOrder_9 (by decide) (by decide) (by decide) ?_
          exact absurd (c9_4.symm.trans g103) (by decide)
        ·
          by_cases c9_5 : (T (ix (f 0))) = (119 : Int32)
          ·
            refine x_top (y := 119) c9_5 ?_
            refine lv_lookup (x := 119) (off := 60) (tgt := 69) hx hb dX7_doOrder_9 (by decide) (by decide) (by decide) ?_
            exact absurd (c9_5.symm.trans g103) (by decide)
          ·
            refine lv_lookup (x := (T (ix (f 0)))) (off := 96) (tgt := 105) hx hb dX7_doOrder_9 (by decide) (by show Op.lookupswitch.offset [(99, 91), (108, 82), (114, 51), (116, 73), (119, 60)] _ _ = _; rw [lv_osw c9_1 (by decide), lv_osw c9_2 (by decide), lv_osw c9_3 (by decide), lv_osw c9_4 (by decide), lv_osw c9_5 (by decide)]; rfl) (by decide) ?_
            refine lv_aload_n hx hb dX7_doOrder_105 rfl (lv_at hl 0 rfl) ?_
            refine x_callVi (wr := []) (w2 := mR cI o (fl G) K h hn T (nI nt) f) (rest := []) (n := 0) C w hl [] (k_X7_doLearn_np l D cI cS tys ht0 o G K h hn T (nI nt) f g62) gX7_doOrder_X7_doLearn rfl (by decide +kernel) ⟨Nat.le_of_ble_eq_true rfl, Nat.le_of_ble_eq_true rfl⟩ 0 7 rfl rfl rfl rfl (Nat.le_of_ble_eq_true rfl) [0, 1, 2, 3, 4] [] (by decide) rfl rfl (by decide) (by decide) [0, 1, 2, 3, 4] (by decide) rfl ⟨Nat.zero_le _, Nat.zero_le _⟩ dX7_doOrder_106 (fun H locs w => ?_)
            exact x_iret C w rfl rfl dX7_doOrder_109
set_option maxHeartbeats 1000000 in
set_option maxRecDepth 100000 in
theorem k_X7_doesAll (l : Launch) (D : va_G) (cI cS : ClassId) (tys : List (ClassId × FieldType)) (ht0 : tys[0]? = some (cI, .int)) (o : Nat → Nat) (G : St) (K : Nat → Int32) (h : Nat → Int32) (hn : Int32) (T : Nat → Int32) (f : Nat → Int32) (nt : Nat) (hn60 : nt ≤ 60) (hI : Inv G) : xI l yX7_doesAll wsX7_doesAll 7 D tys [.ref (o 0)] (mR cI o (fl G) K h hn T (nI nt) f) (bI ((runR T (nI nt) 60 (f0R f) G).2.2 = true)) (mR cI o (fl ((runR T (nI nt) 60 (f0R f) G).2.1)) K h hn T (nI nt) ((runR T (nI nt) 60 (f0R f) G).1)) := by
  refine x_inI (cc := cX7_doesAll) (maxL := 2) (ret := (some .boolean)) (by decide) rfl (Nat.le_of_ble_eq_true rfl) ?_
  intro p e s m args below meth c A ls C w hl
  have C : xC p s m meth c args cX7_doesAll 2 wsX7_doesAll RX7 D tys (some .boolean) := C
  have hx := C.1.1
  have hb := C.1.2.1
  have hts := C.1.2.2.2.2
  have hown := C.1.2.2.2.1
  have w : xW D A s.heap (mR cI o (fl G) K h hn T (nI nt) f) s.heap [] := w
  have hl : lv_has ls 2 [(0, .ref (o 0))] := hl
  refine lv_aload_n hx hb dX7_doesAll_0 rfl (lv_at hl 0 rfl) ?_
  refine lv_iconst (v := 0) hx hb dX7_doesAll_1 (by decide +kernel) ?_
  refine x_put (v := .int 0) (ty := .int) (T := TX7) (ws2 := mR cI o (fl G) K h hn T (nI nt) (upd f 0 0)) C w 0 6 rfl rfl (fun _ h => List.mem_cons_of_mem _ (List.mem_append_right _ (h))) tyX7 tyX7_ok nmX7 (List.mem_of_getElem? (i := 1) rfl) (by decide) (Nat.le_of_ble_eq_true rfl) rfl (by decide +kernel) rfl rfl (mRs6 _ _ _ _ _ _ _ _ _ _) dX7_doesAll_2 (fun H locs w => ?_)
  refine lv_aload_n hx hb dX7_doesAll_5 rfl (lv_at hl 0 rfl) ?_
  refine lv_iconst (v := 0) hx hb dX7_doesAll_6 (by decide +kernel) ?_
  refine x_put (v := .int 0) (ty := .int) (T := TX7) (ws2 := mR cI o (fl G) K h hn T (nI nt) (upd (upd f 0 0) 7 0)) C w 0 13 rfl rfl (fun _ h => List.mem_cons_of_mem _ (List.mem_append_right _ (h))) tyX7 tyX7_ok nmX7 (List.mem_of_getElem? (i := 2) rfl) (by decide) (Nat.le_of_ble_eq_true rfl) rfl (by decide +kernel) rfl rfl (mRs13 _ _ _ _ _ _ _ _ _ _) dX7_doesAll_7 (fun H locs w => ?_)
  have loop_10 : ∀ (n : Nat) (k : Nat) (v : Nat) (fx : Nat → Int32) (Gx : St), k < n → (fx 0 = nI v) → (v ≤ 60) → (nt ≤ v + k) → (Inv Gx) → (runR T (nI nt) k fx Gx = (runR T (nI nt) 60 (f0R f) G)) → ∀ (H : Heap) (locs : List Loc), xW D A s.heap (mR cI o (fl Gx) K h hn T (nI nt) fx) H locs → ∀ ls : Array Slot, lv_has ls 2 [(0, .ref (o 0))] → W p l e (rmd 7) s m args below meth c H locs 0 0 (MQ below (xQi D tys (bI ((runR T (nI nt) 60 (f0R f) G).2.2 = true)) (mR cI o (fl ((runR T (nI nt) 60 (f0R f) G).2.1)) K h hn T (nI nt) ((runR T (nI nt) 60 (f0R f) G).1)) A) args s 0 0 A) (F0 m 10 ls []) := by
    intro n
    induction n with
    | zero => intro k v fx Gx hm; exact absurd hm (Nat.not_lt_zero _)
    | succ n ih =>
      intro k v fx Gx hm hv hv60 hvk hIx hq H locs w ls hl
      refine lv_aload_n hx hb dX7_doesAll_10 rfl (lv_at hl 0 rfl) ?_
      refine x_get (v := .int (fx 0)) (T := TX7) C w 0 6 rfl rfl (fun _ h => List.mem_cons_of_mem _ (List.mem_append_right _ (h))) (List.mem_of_getElem? (i := 1) rfl) (by decide) rfl dX7_doesAll_11 ?_
      refine x_top (y := nI v) hv ?_
      refine lv_aload_n hx hb dX7_doesAll_14 rfl (lv_at hl 0 rfl) ?_
      refine x_get (v := .int (nI nt)) (T := TX7) C w 0 5 rfl rfl (fun _ h => List.mem_cons_of_mem _ (List.mem_append_right _ (h))) (List.mem_of_getElem? (i := 3) rfl) (by decide) rfl dX7_doesAll_15 ?_
      refine x_icN_ge (i := v) (j := nt) (tgt := 100) hx hb (by omega) (by omega) dX7_doesAll_18 (by decide) (fun c18_1 => ?_) (fun c18_1 => ?_)
      ·
        have hR : (fx, Gx, true) = (runR T (nI nt) 60 (f0R f) G) := by rw [← hq, runR_stop (by rw [hv]; exact fun z => by have := (nI_ltI (by omega) (by omega)).mp z; omega)]
        refine lv_iconst (v := 1) hx hb dX7_doesAll_100 (by decide +kernel) ?_
        exact x_zret C w (Or.inr rfl) (by rw [← hR]; rfl) (by rw [← hR]) dX7_doesAll_101
      ·
        obtain ⟨k2, rfl⟩ : ∃ z, k = z + 1 := ⟨k - 1, by omega⟩
        have hlt : fx 0 < nI nt := by rw [hv]; exact (nI_ltI (by omega) (by omega)).mpr c18_1
        refine lv_aload_n hx hb dX7_doesAll_21 rfl (lv_at hl 0 rfl) ?_
        refine x_callVi (wr := []) (w2 := mR cI o (fl Gx) K h hn T (nI nt) (roG T (nI nt) fx)) (rest := []) (n := 0) C w hl [] (k_X7_readsOrder l D cI cS tys ht0 o Gx K h hn T fx nt ⟨v, by omega, hv⟩ hn60) gX7_doesAll_X7_readsOrder rfl (by decide +kernel) ⟨Nat.le_of_ble_eq_true rfl, Nat.le_of_ble_eq_true rfl⟩ 0 7 rfl rfl rfl rfl (Nat.le_of_ble_eq_true rfl) [0, 1, 2, 3, 4] [] (by decide) rfl rfl (by decide) (by decide) [0, 1, 2, 3, 4] (by decide) rfl ⟨Nat.zero_le _, Nat.zero_le _⟩ dX7_doesAll_22 (fun H locs w => ?_)
        refine x_ifB_ne (P := roB T (nI nt) fx = true) (tgt := 43) hx hb dX7_doesAll_25 (by decide) (fun c25_2 => ?_) (fun c25_2 => ?_)
        ·
          have hv2 : (roG T (nI nt) fx) 0 = nI v := (ro_o T (nI nt) fx (by decide) (by decide) (by decide) (by decide)).trans hv
          obtain ⟨v2, hvv, hv260, ev2⟩ := ro_vB T hn60 (show v < nt by omega) hv c25_2
          have h39 : T (ix ((roG T (nI nt) fx) 0)) = 119 → wth ((roG T (nI nt) fx) 3) 0 999 = true := fun z => ro_3 c25_2 (by rw [hv, ← hv2]; exact z)
          refine lv_aload_n hx hb dX7_doesAll_43 rfl (lv_at hl 0 rfl) ?_
          refine x_callVi (wr := []) (w2 := mR cI o (fl Gx) K h hn T (nI nt) (roG T (nI nt) fx)) (rest := []) (n := 0) C w hl [] (k_X7_isInRange l D cI cS tys ht0 o Gx K h hn T (roG T (nI nt) fx) nt ⟨v, by omega, hv2⟩ hn60) gX7_doesAll_X7_isInRange rfl (by decide +kernel) ⟨Nat.le_of_ble_eq_true rfl, Nat.le_of_ble_eq_true rfl⟩ 0 7 rfl rfl rfl rfl (Nat.le_of_ble_eq_true rfl) [0, 1, 2, 3, 4] [] (by decide) rfl rfl (by decide) (by decide) [0, 1, 2, 3, 4] (by decide) rfl ⟨Nat.zero_le _, Nat.zero_le _⟩ dX7_doesAll_44 (fun H locs w => ?_)
          refine x_ifB_ne (P := irR T (roG T (nI nt) fx) = true) (tgt := 60) hx hb dX7_doesAll_47 (by decide) (fun c47_3 => ?_) (fun c47_3 => ?_)
          ·
            have hper := Inv_per (G := Gx) hIx c47_3 h39
            refine lv_aload_n hx hb dX7_doesAll_60 rfl (lv_at hl 0 rfl) ?_
            refine x_get (v := .int ((roG T (nI nt) fx) 1)) (T := TX7) C w 0 7 rfl rfl (fun _ h => List.mem_cons_of_mem _ (List.mem_append_right _ (h))) (List.mem_of_getElem? (i := 4) rfl) (by decide) rfl dX7_doesAll_61 ?_
            refine x_top (y := nI v2) ev2 ?_
            refine lv_istore_n (lv' := [(1, .int (nI v2)), (0, .ref (o 0))]) hx hb dX7_doesAll_64 rfl hl (by decide) rfl (fun ls hl => ?_)
            refine lv_aload_n hx hb dX7_doesAll_65 rfl (lv_at hl 1 rfl) ?_
            by_cases hps : posR T (roG T (nI nt) fx) Gx = true
            ·
              refine x_callVi (wr := []) (w2 := mR cI o (fl (perR T (roG T (nI nt) fx) Gx)) K h hn T (nI nt) (roG T (nI nt) fx)) (rest := []) (n := 0) C w hl [] (k_X7_doOrder_ok l D cI cS tys ht0 o Gx K h hn T (roG T (nI nt) fx) nt ⟨v, by omega, hv2⟩ hn60 hIx c47_3 h39 hps (by rw [hv2, ← hv]; exact ro_iso c25_2)) gX7_doesAll_X7_doOrder rfl (by decide +kernel) ⟨Nat.le_of_ble_eq_true rfl, Nat.le_of_ble_eq_true rfl⟩ 0 7 rfl rfl rfl rfl (Nat.le_of_ble_eq_true rfl) [0, 1, 2, 3, 4] [] (by decide) rfl rfl (by decide) (by decide) [0, 1, 2, 3, 4] (by decide) rfl ⟨Nat.zero_le _, Nat.zero_le _⟩ dX7_doesAll_66 (fun H locs w => ?_)
              refine lv_ldc (v := -1000000) hx hb hown (hts _ (List.mem_of_getElem? (i := 6) rfl)) dX7_doesAll_69 ?_
              refine x_icR_ge (x := perV T (roG T (nI nt) fx) Gx) (y := (-1000000)) (tgt := 82) hx hb dX7_doesAll_71 (by decide) (fun c71_4 => ?_) (fun c71_4 => ?_)
              ·
                refine lv_aload_n hx hb dX7_doesAll_82 rfl (lv_at hl 1 rfl) ?_
                refine lv_dup hx hb dX7_doesAll_83 rfl ?_
                refine x_get (v := .int ((roG T (nI nt) fx) 7)) (T := TX7) C w 0 13 rfl rfl (fun _ h => List.mem_cons_of_mem _ (List.mem_append_right _ (h))) (List.mem_of_getElem? (i := 2) rfl) (by decide) rfl dX7_doesAll_84 ?_
                refine lv_iconst (v := 1) hx hb dX7_doesAll_87 (by decide +kernel) ?_
                refine lv_iadd (x := (roG T (nI nt) fx) 7) (y := 1) hx hb dX7_doesAll_88 ?_
                refine x_put (v := .int (((roG T (nI nt) fx) 7) + 1)) (ty := .int) (T := TX7) (ws2 := mR cI o (fl (perR T (roG T (nI nt) fx) Gx)) K h hn T (nI nt) (upd (roG T (nI nt) fx) 7 (((roG T (nI nt) fx) 7) + 1))) C w 0 13 rfl rfl (fun _ h => List.mem_cons_of_mem _ (List.mem_append_right _ (h))) tyX7 tyX7_ok nmX7 (List.mem_of_getElem? (i := 2) rfl) (by decide) (Nat.le_of_ble_eq_true rfl) rfl (by decide +kernel) rfl rfl (mRs13 _ _ _ _ _ _ _ _ _ _) dX7_doesAll_89 (fun H locs w => ?_)
                refine lv_aload_n hx hb dX7_doesAll_92 rfl (lv_at hl 1 rfl) ?_
                refine lv_iload_n hx hb dX7_doesAll_93 rfl (lv_at hl 0 rfl) ?_
                refine x_put (v := .int (nI v2)) (ty := .int) (T := TX7) (ws2 := mR cI o (fl (perR T (roG T (nI nt) fx) Gx)) K h hn T (nI nt) (upd (upd (roG T (nI nt) fx) 7 (((roG T (nI nt) fx) 7) + 1)) 0 (nI v2))) C w 0 6 rfl rfl (fun _ h => List.mem_cons_of_mem _ (List.mem_append_right _ (h))) tyX7 tyX7_ok nmX7 (List.mem_of_getElem? (i := 1) rfl) (by decide) (Nat.le_of_ble_eq_true rfl) rfl (by decide +kernel) rfl rfl (mRs6 _ _ _ _ _ _ _ _ _ _) dX7_doesAll_94 (fun H locs w => ?_)
                refine lv_goto (tgt := 10) hx hb dX7_doesAll_97 (by decide) ?_
                have hl : lv_has ls 2 [(0, .ref (o 0))] := lv_eqL (lv_sub (l' := [(0, .ref (o 0))]) hl [1] rfl) (cg2 List.cons rfl rfl)
                have w : xW D A s.heap (mR cI o (fl (perR T (roG T (nI nt) fx) Gx)) K h hn T (nI nt) (nxR (roG T (nI nt) fx))) _ _ := x_ws (by unfold nxR; rw [ev2]) w
                exact ih k2 v2 (nxR (roG T (nI nt) fx)) (perR T (roG T (nI nt) fx) Gx) (by omega) (by show roG T (nI nt) fx 1 = nI v2; exact ev2) hv260 (by omega) hper.1 (by rw [← hq, runR_s, if_pos hlt, if_pos c25_2, if_pos c47_3, if_pos hps]) _ _ w _ hl
              ·
                exact absurd c71_4 hper.2
            ·
              have hR : (upd (upd (roG T (nI nt) fx) 5 3) 6 (-1000004), Gx, false) = (runR T (nI nt) 60 (f0R f) G) := by rw [← hq, runR_s, if_pos hlt, if_pos c25_2, if_pos c47_3, if_neg hps]
              refine x_callVi (wr := []) (w2 := mR cI o (fl Gx) K h hn T (nI nt) (roG T (nI nt) fx)) (rest := []) (n := 0) C w hl [] (k_X7_doOrder_np l D cI cS tys ht0 o Gx K h hn T (roG T (nI nt) fx) nt ⟨v, by omega, hv2⟩ hn60 hps) gX7_doesAll_X7_doOrder rfl (by decide +kernel) ⟨Nat.le_of_ble_eq_true rfl, Nat.le_of_ble_eq_true rfl⟩ 0 7 rfl rfl rfl rfl (Nat.le_of_ble_eq_true rfl) [0, 1, 2, 3, 4] [] (by decide) rfl rfl (by decide) (by decide) [0, 1, 2, 3, 4] (by decide) rfl ⟨Nat.zero_le _, Nat.zero_le _⟩ dX7_doesAll_66 (fun H locs w => ?_)
              refine lv_ldc (v := -1000000) hx hb hown (hts _ (List.mem_of_getElem? (i := 6) rfl)) dX7_doesAll_69 ?_
              refine x_icR_ge (x := (-1000002)) (y := (-1000000)) (tgt := 82) hx hb dX7_doesAll_71 (by decide) (fun h => absurd h (by decide)) (fun _ => ?_)
              refine lv_aload_n hx hb dX7_doesAll_74 rfl (lv_at hl 1 rfl) ?_
              refine lv_iconst (v := 3) hx hb dX7_doesAll_75 (by decide +kernel) ?_
              refine lv_ldc (v := -1000004) hx hb hown (hts _ (List.mem_of_getElem? (i := 7) rfl)) dX7_doesAll_76 ?_
              refine x_callVi (wr := []) (w2 := mR cI o (fl Gx) K h hn T (nI nt) (upd (upd (roG T (nI nt) fx) 5 3) 6 (-1000004))) (rest := []) (n := 2) C w hl [.int 3, .int (-1000004)] (k_X7_notes l D cI cS tys ht0 o Gx K h hn T (nI nt) (roG T (nI nt) fx) 3 (-1000004) ) gX7_doesAll_X7_notes rfl (by decide +kernel) ⟨Nat.le_of_ble_eq_true rfl, Nat.le_of_ble_eq_true rfl⟩ 0 7 rfl rfl rfl rfl (Nat.le_of_ble_eq_true rfl) [0, 1, 2, 3, 4] [] (by decide) rfl rfl (by decide) (by decide) [0, 1, 2, 3, 4] (by decide) rfl ⟨Nat.zero_le _, Nat.zero_le _⟩ dX7_doesAll_78 (fun H locs w => ?_)
              exact x_zret C w (bI_01 _) (by rw [← hR]; rfl) (by rw [← hR]) dX7_doesAll_81
          ·
            have hR : (upd (upd (roG T (nI nt) fx) 5 2) 6 ((roG T (nI nt) fx) 2), Gx, false) = (runR T (nI nt) 60 (f0R f) G) := by rw [← hq, runR_s, if_pos hlt, if_pos c25_2, if_neg c47_3]
            refine lv_aload_n hx hb dX7_doesAll_50 rfl (lv_at hl 0 rfl) ?_
            refine lv_iconst (v := 2) hx hb dX7_doesAll_51 (by decide +kernel) ?_
            refine lv_aload_n hx hb dX7_doesAll_52 rfl (lv_at hl 0 rfl) ?_
            refine x_get (v := .int ((roG T (nI nt) fx) 2)) (T := TX7) C w 0 8 rfl rfl (fun _ h => List.mem_cons_of_mem _ (List.mem_append_right _ (h))) (List.mem_of_getElem? (i := 5) rfl) (by decide) rfl dX7_doesAll_53 ?_
            refine x_callVi (wr := []) (w2 := mR cI o (fl Gx) K h hn T (nI nt) (upd (upd (roG T (nI nt) fx) 5 2) 6 ((roG T (nI nt) fx) 2))) (rest := []) (n := 2) C w hl [.int 2, .int ((roG T (nI nt) fx) 2)] (k_X7_notes l D cI cS tys ht0 o Gx K h hn T (nI nt) (roG T (nI nt) fx) 2 ((roG T (nI nt) fx) 2) ) gX7_doesAll_X7_notes rfl (by decide +kernel) ⟨Nat.le_of_ble_eq_true rfl, Nat.le_of_ble_eq_true rfl⟩ 0 7 rfl rfl rfl rfl (Nat.le_of_ble_eq_true rfl) [0, 1, 2, 3, 4] [] (by decide) rfl rfl (by decide) (by decide) [0, 1, 2, 3, 4] (by decide) rfl ⟨Nat.zero_le _, Nat.zero_le _⟩ dX7_doesAll_56 (fun H locs w => ?_)
            exact x_zret C w (bI_01 _) (by rw [← hR]; rfl) (by rw [← hR]) dX7_doesAll_59
        ·
          have hR : (upd (upd (roG T (nI nt) fx) 5 1) 6 ((roG T (nI nt) fx) 1 - (roG T (nI nt) fx) 0), Gx, false) = (runR T (nI nt) 60 (f0R f) G) := by rw [← hq, runR_s, if_pos hlt, if_neg c25_2]
          refine lv_aload_n hx hb dX7_doesAll_28 rfl (lv_at hl 0 rfl) ?_
          refine lv_iconst (v := 1) hx hb dX7_doesAll_29 (by decide +kernel) ?_
          refine lv_aload_n hx hb dX7_doesAll_30 rfl (lv_at hl 0 rfl) ?_
          refine x_get (v := .int ((roG T (nI nt) fx) 1)) (T := TX7) C w 0 7 rfl rfl (fun _ h => List.mem_cons_of_mem _ (List.mem_append_right _ (h))) (List.mem_of_getElem? (i := 4) rfl) (by decide) rfl dX7_doesAll_31 ?_
          refine lv_aload_n hx hb dX7_doesAll_34 rfl (lv_at hl 0 rfl) ?_
          refine x_get (v := .int ((roG T (nI nt) fx) 0)) (T := TX7) C w 0 6 rfl rfl (fun _ h => List.mem_cons_of_mem _ (List.mem_append_right _ (h))) (List.mem_of_getElem? (i := 1) rfl) (by decide) rfl dX7_doesAll_35 ?_
          refine lv_isub (x := (roG T (nI nt) fx) 1) (y := (roG T (nI nt) fx) 0) hx hb dX7_doesAll_38 ?_
          refine x_callVi (wr := []) (w2 := mR cI o (fl Gx) K h hn T (nI nt) (upd (upd (roG T (nI nt) fx) 5 1) 6 (((roG T (nI nt) fx) 1) - ((roG T (nI nt) fx) 0)))) (rest := []) (n := 2) C w hl [.int 1, .int (((roG T (nI nt) fx) 1) - ((roG T (nI nt) fx) 0))] (k_X7_notes l D cI cS tys ht0 o Gx K h hn T (nI nt) (roG T (nI nt) fx) 1 (((roG T (nI nt) fx) 1) - ((roG T (nI nt) fx) 0)) ) gX7_doesAll_X7_notes rfl (by decide +kernel) ⟨Nat.le_of_ble_eq_true rfl, Nat.le_of_ble_eq_true rfl⟩ 0 7 rfl rfl rfl rfl (Nat.le_of_ble_eq_true rfl) [0, 1, 2, 3, 4] [] (by decide) rfl rfl (by decide) (by decide) [0, 1, 2, 3, 4] (by decide) rfl ⟨Nat.zero_le _, Nat.zero_le _⟩ dX7_doesAll_39 (fun H locs w => ?_)
          exact x_zret C w (bI_01 _) (by rw [← hR]; rfl) (by rw [← hR]) dX7_doesAll_42
  have hl : lv_has ls 2 [(0, .ref (o 0))] := lv_eqL (lv_sub (l' := [(0, .ref (o 0))]) hl [0] rfl) (cg2 List.cons rfl rfl)
  have w : xW D A s.heap (mR cI o (fl G) K h hn T (nI nt) (f0R f)) _ _ := x_ws rfl w
  exact loop_10 (61) 60 0 (f0R f) G (by omega) rfl (by omega) (by omega) hI rfl _ _ w _ hl
set_option maxHeartbeats 1000000 in
set_option maxRecDepth 100000 in
theorem k_X7_fault_no (l : Launch) (D : va_G) (cI cS : ClassId) (tys : List (ClassId × FieldType)) (ht0 : tys[0]? = some (cI, .int)) (o : Nat → Nat) (G : St) (K : Nat → Int32) (h : Nat → Int32) (hn : Int32) (T : Nat → Int32) (f : Nat → Int32) (a1 : Int32) (nt : Nat) (hno : ¬ wth a1 0 2 = true) : xI l yX7_fault wsX7_fault 8 D tys [.ref (o 0), .int a1] (mR cI o (fl G) K h hn T (nI nt) f) (-1000001) (mR cI o (fl G) K h hn T (nI nt) f) := by
  refine x_inI (cc := cX7_fault) (maxL := 3) (ret := (some .int)) (by decide) rfl (Nat.le_of_ble_eq_true rfl) ?_
  intro p e s m args below meth c A ls C w hl
  have C : xC p s m meth c args cX7_fault 3 wsX7_fault RX7 D tys (some .int) := C
  have hx := C.1.1
  have hb := C.1.2.1
  have hts := C.1.2.2.2.2
  have hown := C.1.2.2.2.1
  have w : xW D A s.heap (mR cI o (fl G) K h hn T (nI nt) f) s.heap [] := w
  have hl : lv_has ls 3 [(0, .ref (o 0)), (1, .int a1)] := hl
  refine lv_iload_n hx hb dX7_fault_0 rfl (lv_at hl 1 rfl) ?_
  refine lv_i2l (v := Int32.toInt64 a1) hx hb dX7_fault_1 rfl ?_
  refine lv_lconst (v := 0) hx hb dX7_fault_2 (by decide +kernel) ?_
  refine lv_ldc2 (v := 2) hx hb hown (hts _ (List.mem_of_getElem? (i := 1) rfl)) dX7_fault_3 ?_
  refine x_callSi (wr := mR cI o (fl G) K h hn T (nI nt) f) (w2 := mR cI o (fl G) K h hn T (nI nt) f) (rest := []) (n := 3) C w hl [.long (Int32.toInt64 a1), .long 0, .long 2] (k_X7_in l D cI cS tys ht0 (Int32.toInt64 a1) 0 2 ) gX7_fault_X7_in rfl (by decide +kernel) ⟨Nat.le_of_ble_eq_true rfl, Nat.le_of_ble_eq_true rfl⟩ rfl rfl (Nat.le_of_ble_eq_true rfl) [] [0, 1, 2, 3, 4] (by decide) rfl rfl (by decide) (by decide) [0, 1, 2, 3, 4] (by decide) rfl ⟨Nat.zero_le _, Nat.zero_le _⟩ dX7_fault_6 (fun H locs w => ?_)
  refine x_top (y := bI (wth a1 0 2 = true)) (bI_c (lg_wth a1 0 2 (by decide) (by decide))) ?_
  refine x_ifB_ne (P := wth a1 0 2 = true) (tgt := 15) hx hb dX7_fault_9 (by decide) (fun c9_1 => ?_) (fun c9_1 => ?_)
  ·
    exact absurd c9_1 hno
  ·
    refine lv_ldc (v := -1000001) hx hb hown (hts _ (List.mem_of_getElem? (i := 2) rfl)) dX7_fault_12 ?_
    exact x_iret C w rfl rfl dX7_fault_14
set_option maxHeartbeats 1000000 in
set_option maxRecDepth 100000 in
theorem k_X7_fault_ok (l : Launch) (D : va_G) (cI cS : ClassId) (tys : List (ClassId × FieldType)) (ht0 : tys[0]? = some (cI, .int)) (o : Nat → Nat) (G : St) (K : Nat → Int32) (h : Nat → Int32) (hn : Int32) (T : Nat → Int32) (f : Nat → Int32) (a1 : Int32) (nt : Nat) (hok : wth a1 0 2 = true) (hn60 : nt ≤ 60) (hI : Inv G) : xI l yX7_fault wsX7_fault 8 D tys [.ref (o 0), .int a1] (mR cI o (fl G) K h hn T (nI nt) f) (fauQ T (nI nt) f G a1) (mR cI o (fl G) (fl G) h hn T (nI nt) ((runR T (nI nt) 60 (f0R f) G).1)) := by
  refine x_inI (cc := cX7_fault) (maxL := 3) (ret := (some .int)) (by decide) rfl (Nat.le_of_ble_eq_true rfl) ?_
  intro p e s m args below meth c A ls C w hl
  have C : xC p s m meth c args cX7_fault 3 wsX7_fault RX7 D tys (some .int) := C
  have hx := C.1.1
  have hb := C.1.2.1
  have hts := C.1.2.2.2.2
  have hown := C.1.2.2.2.1
  have w : xW D A s.heap (mR cI o (fl G) K h hn T (nI nt) f) s.heap [] := w
  have hl : lv_has ls 3 [(0, .ref (o 0)), (1, .int a1)] := hl
  refine lv_iload_n hx hb dX7_fault_0 rfl (lv_at hl 1 rfl) ?_
  refine lv_i2l (v := Int32.toInt64 a1) hx hb dX7_fault_1 rfl ?_
  refine lv_lconst (v := 0) hx hb dX7_fault_2 (by decide +kernel) ?_
  refine lv_ldc2 (v := 2) hx hb hown (hts _ (List.mem_of_getElem? (i := 1) rfl)) dX7_fault_3 ?_
  refine x_callSi (wr := mR cI o (fl G) K h hn T (nI nt) f) (w2 := mR cI o (fl G) K h hn T (nI nt) f) (rest := []) (n := 3) C w hl [.long (Int32.toInt64 a1), .long 0, .long 2] (k_X7_in l D cI cS tys ht0 (Int32.toInt64 a1) 0 2 ) gX7_fault_X7_in rfl (by decide +kernel) ⟨Nat.le_of_ble_eq_true rfl, Nat.le_of_ble_eq_true rfl⟩ rfl rfl (Nat.le_of_ble_eq_true rfl) [] [0, 1, 2, 3, 4] (by decide) rfl rfl (by decide) (by decide) [0, 1, 2, 3, 4] (by decide) rfl ⟨Nat.zero_le _, Nat.zero_le _⟩ dX7_fault_6 (fun H locs w => ?_)
  refine x_top (y := bI (wth a1 0 2 = true)) (bI_c (lg_wth a1 0 2 (by decide) (by decide))) ?_
  refine x_ifB_ne (P := wth a1 0 2 = true) (tgt := 15) hx hb dX7_fault_9 (by decide) (fun c9_1 => ?_) (fun c9_1 => ?_)
  ·
    refine lv_aload_n hx hb dX7_fault_15 rfl (lv_at hl 0 rfl) ?_
    refine x_callVv (wr := []) (w2 := mR cI o (fl G) (fl G) h hn T (nI nt) f) (rest := []) (n := 0) C w hl [] (k_X7_keep l D cI cS tys ht0 o G K h hn T (nI nt) f ) gX7_fault_X7_keep rfl (by decide +kernel) ⟨Nat.le_of_ble_eq_true rfl, Nat.le_of_ble_eq_true rfl⟩ 0 7 rfl rfl rfl rfl (Nat.le_of_ble_eq_true rfl) [0, 1, 2, 3, 4] [] (by decide) rfl rfl (by decide) (by decide) [0, 1, 2, 3, 4] (by decide) rfl ⟨Nat.zero_le _, Nat.zero_le _⟩ dX7_fault_16 (fun H locs w => ?_)
    refine lv_aload_n hx hb dX7_fault_19 rfl (lv_at hl 0 rfl) ?_
    refine x_callVi (wr := []) (w2 := mR cI o (fl ((runR T (nI nt) 60 (f0R f) G).2.1)) (fl G) h hn T (nI nt) ((runR T (nI nt) 60 (f0R f) G).1)) (rest := []) (n := 0) C w hl [] (k_X7_doesAll l D cI cS tys ht0 o G (fl G) h hn T f nt hn60 hI) gX7_fault_X7_doesAll rfl (by decide +kernel) ⟨Nat.le_of_ble_eq_true rfl, Nat.le_of_ble_eq_true rfl⟩ 0 7 rfl rfl rfl rfl (Nat.le_of_ble_eq_true rfl) [0, 1, 2, 3, 4] [] (by decide) rfl rfl (by decide) (by decide) [0, 1, 2, 3, 4] (by decide) rfl ⟨Nat.zero_le _, Nat.zero_le _⟩ dX7_fault_20 (fun H locs w => ?_)
    refine lv_istore_n (lv' := [(2, .int (bI ((runR T (nI nt) 60 (f0R f) G).2.2 = true))), (0, .ref (o 0)), (1, .int a1)]) hx hb dX7_fault_23 rfl hl (by decide) rfl (fun ls hl => ?_)
    refine lv_aload_n hx hb dX7_fault_24 rfl (lv_at hl 1 rfl) ?_
    refine x_callVv (wr := []) (w2 := mR cI o (fl G) (fl G) h hn T (nI nt) ((runR T (nI nt) 60 (f0R f) G).1)) (rest := []) (n := 0) C w hl [] (k_X7_giveBack l D cI cS tys ht0 o ((runR T (nI nt) 60 (f0R f) G).2.1) h hn T (nI nt) ((runR T (nI nt) 60 (f0R f) G).1) G ) gX7_fault_X7_giveBack rfl (by decide +kernel) ⟨Nat.le_of_ble_eq_true rfl, Nat.le_of_ble_eq_true rfl⟩ 0 7 rfl rfl rfl rfl (Nat.le_of_ble_eq_true rfl) [0, 1, 2, 3, 4] [] (by decide) rfl rfl (by decide) (by decide) [0, 1, 2, 3, 4] (by decide) rfl ⟨Nat.zero_le _, Nat.zero_le _⟩ dX7_fault_25 (fun H locs w => ?_)
    refine lv_iload_n hx hb dX7_fault_28 rfl (lv_at hl 0 rfl) ?_
    refine x_ifB_eq (P := (runR T (nI nt) 60 (f0R f) G).2.2 = true) (tgt := 37) hx hb dX7_fault_29 (by decide) (fun c29_2 => ?_) (fun c29_2 => ?_)
    ·
      refine lv_iload_n hx hb dX7_fault_37 rfl (lv_at hl 2 rfl) ?_
      refine x_ifR_ne (x := a1) (tgt := 48) hx hb dX7_fault_38 (by decide) (fun c38_3 => ?_) (fun c38_3 => ?_)
      ·
        refine lv_iload_n hx hb dX7_fault_48 rfl (lv_at hl 2 rfl) ?_
        refine lv_iconst (v := 1) hx hb dX7_fault_49 (by decide +kernel) ?_
        refine x_icR_ne (x := a1) (y := 1) (tgt := 60) hx hb dX7_fault_50 (by decide) (fun c50_4 => ?_) (fun c50_4 => ?_)
        ·
          refine lv_aload_n hx hb dX7_fault_60 rfl (lv_at hl 1 rfl) ?_
          refine x_get (v := .int (((runR T (nI nt) 60 (f0R f) G).1) 6)) (T := TX7) C w 0 12 rfl rfl (fun _ h => List.mem_cons_of_mem _ (List.mem_append_right _ (h))) (List.mem_of_getElem? (i := 6) rfl) (by decide) rfl dX7_fault_61 ?_
          exact x_iret C w (by unfold fauQ; simp only [if_pos c9_1, if_neg c29_2, if_neg c38_3, if_neg c50_4]) rfl dX7_fault_64
        ·
          refine lv_aload_n hx hb dX7_fault_53 rfl (lv_at hl 1 rfl) ?_
          refine x_get (v := .int (((runR T (nI nt) 60 (f0R f) G).1) 5)) (T := TX7) C w 0 11 rfl rfl (fun _ h => List.mem_cons_of_mem _ (List.mem_append_right _ (h))) (List.mem_of_getElem? (i := 5) rfl) (by decide) rfl dX7_fault_54 ?_
          refine lv_goto (tgt := 64) hx hb dX7_fault_57 (by decide) ?_
          exact x_iret C w (by unfold fauQ; simp only [if_pos c9_1, if_neg c29_2, if_neg c38_3, if_pos c50_4]) rfl dX7_fault_64
      ·
        refine lv_aload_n hx hb dX7_fault_41 rfl (lv_at hl 1 rfl) ?_
        refine x_get (v := .int (((runR T (nI nt) 60 (f0R f) G).1) 0)) (T := TX7) C w 0 6 rfl rfl (fun _ h => List.mem_cons_of_mem _ (List.mem_append_right _ (h))) (List.mem_of_getElem? (i := 4) rfl) (by decide) rfl dX7_fault_42 ?_
        refine lv_goto (tgt := 64) hx hb dX7_fault_45 (by decide) ?_
        exact x_iret C w (by unfold fauQ; simp only [if_pos c9_1, if_neg c29_2, if_pos c38_3]) rfl dX7_fault_64
    ·
      refine lv_ldc (v := -1000004) hx hb hown (hts _ (List.mem_of_getElem? (i := 3) rfl)) dX7_fault_32 ?_
      refine lv_goto (tgt := 64) hx hb dX7_fault_34 (by decide) ?_
      exact x_iret C w (by unfold fauQ; simp only [if_pos c9_1, if_pos c29_2]) rfl dX7_fault_64
  ·
    exact absurd hok c9_1
set_option maxHeartbeats 1000000 in
set_option maxRecDepth 100000 in
theorem k_X7_play_np (l : Launch) (D : va_G) (cI cS : ClassId) (tys : List (ClassId × FieldType)) (ht0 : tys[0]? = some (cI, .int)) (o : Nat → Nat) (G : St) (K : Nat → Int32) (h : Nat → Int32) (hn : Int32) (T : Nat → Int32) (f : Nat → Int32) (nt : Nat) (hno : ¬ (runR T (nI nt) 60 (f0R f) G).2.2 = true) (hn60 : nt ≤ 60) (hI : Inv G) : xI l yX7_play wsX7_play 8 D tys [.ref (o 0)] (mR cI o (fl G) K h hn T (nI nt) f) (-1000002) (mR cI o (fl G) (fl G) h hn T (nI nt) ((runR T (nI nt) 60 (f0R f) G).1)) := by
  refine x_inI (cc := cX7_play) (maxL := 1) (ret := (some .int)) (by decide) rfl (Nat.le_of_ble_eq_true rfl) ?_
  intro p e s m args below meth c A ls C w hl
  have C : xC p s m meth c args cX7_play 1 wsX7_play RX7 D tys (some .int) := C
  have hx := C.1.1
  have hb := C.1.2.1
  have hts := C.1.2.2.2.2
  have hown := C.1.2.2.2.1
  have w : xW D A s.heap (mR cI o (fl G) K h hn T (nI nt) f) s.heap [] := w
  have hl : lv_has ls 1 [(0, .ref (o 0))] := hl
  refine lv_aload_n hx hb dX7_play_0 rfl (lv_at hl 0 rfl) ?_
  refine x_callVv (wr := []) (w2 := mR cI o (fl G) (fl G) h hn T (nI nt) f) (rest := []) (n := 0) C w hl [] (k_X7_keep l D cI cS tys ht0 o G K h hn T (nI nt) f ) gX7_play_X7_keep rfl (by decide +kernel) ⟨Nat.le_of_ble_eq_true rfl, Nat.le_of_ble_eq_true rfl⟩ 0 7 rfl rfl rfl rfl (Nat.le_of_ble_eq_true rfl) [0, 1, 2, 3, 4] [] (by decide) rfl rfl (by decide) (by decide) [0, 1, 2, 3, 4] (by decide) rfl ⟨Nat.zero_le _, Nat.zero_le _⟩ dX7_play_1 (fun H locs w => ?_)
  refine lv_aload_n hx hb dX7_play_4 rfl (lv_at hl 0 rfl) ?_
  refine x_callVi (wr := []) (w2 := mR cI o (fl ((runR T (nI nt) 60 (f0R f) G).2.1)) (fl G) h hn T (nI nt) ((runR T (nI nt) 60 (f0R f) G).1)) (rest := []) (n := 0) C w hl [] (k_X7_doesAll l D cI cS tys ht0 o G (fl G) h hn T f nt hn60 hI) gX7_play_X7_doesAll rfl (by decide +kernel) ⟨Nat.le_of_ble_eq_true rfl, Nat.le_of_ble_eq_true rfl⟩ 0 7 rfl rfl rfl rfl (Nat.le_of_ble_eq_true rfl) [0, 1, 2, 3, 4] [] (by decide) rfl rfl (by decide) (by decide) [0, 1, 2, 3, 4] (by decide) rfl ⟨Nat.zero_le _, Nat.zero_le _⟩ dX7_play_5 (fun H locs w => ?_)
  refine x_ifB_ne (P := (runR T (nI nt) 60 (f0R f) G).2.2 = true) (tgt := 18) hx hb dX7_play_8 (by decide) (fun c8_1 => ?_) (fun c8_1 => ?_)
  ·
    exact absurd c8_1 hno
  ·
    refine lv_aload_n hx hb dX7_play_11 rfl (lv_at hl 0 rfl) ?_
    refine x_callVv (wr := []) (w2 := mR cI o (fl G) (fl G) h hn T (nI nt) ((runR T (nI nt) 60 (f0R f) G).1)) (rest := []) (n := 0) C w hl [] (k_X7_giveBack l D cI cS tys ht0 o ((runR T (nI nt) 60 (f0R f) G).2.1) h hn T (nI nt) ((runR T (nI nt) 60 (f0R f) G).1) G ) gX7_play_X7_giveBack rfl (by decide +kernel) ⟨Nat.le_of_ble_eq_true rfl, Nat.le_of_ble_eq_true rfl⟩ 0 7 rfl rfl rfl rfl (Nat.le_of_ble_eq_true rfl) [0, 1, 2, 3, 4] [] (by decide) rfl rfl (by decide) (by decide) [0, 1, 2, 3, 4] (by decide) rfl ⟨Nat.zero_le _, Nat.zero_le _⟩ dX7_play_12 (fun H locs w => ?_)
    refine lv_ldc (v := -1000002) hx hb hown (hts _ (List.mem_of_getElem? (i := 1) rfl)) dX7_play_15 ?_
    exact x_iret C w rfl rfl dX7_play_17
set_option maxHeartbeats 1000000 in
set_option maxRecDepth 100000 in
theorem k_X7_play_ok (l : Launch) (D : va_G) (cI cS : ClassId) (tys : List (ClassId × FieldType)) (ht0 : tys[0]? = some (cI, .int)) (o : Nat → Nat) (G : St) (K : Nat → Int32) (h : Nat → Int32) (T : Nat → Int32) (f : Nat → Int32) (nt : Nat) (k : Nat) (hok : (runR T (nI nt) 60 (f0R f) G).2.2 = true) (hn60 : nt ≤ 60) (hI : Inv G) (hk : k ≤ 4) : xI l yX7_play wsX7_play 8 D tys [.ref (o 0)] (mR cI o (fl G) K h (nI k) T (nI nt) f) ((runR T (nI nt) 60 (f0R f) G).1 7) (mR cI o (fl ((runR T (nI nt) 60 (f0R f) G).2.1)) (fl G) (hpF k h (fl G)) (nI (kpN k)) T (nI nt) ((runR T (nI nt) 60 (f0R f) G).1)) := by
  refine x_inI (cc := cX7_play) (maxL := 1) (ret := (some .int)) (by decide) rfl (Nat.le_of_ble_eq_true rfl) ?_
  intro p e s m args below meth c A ls C w hl
  have C : xC p s m meth c args cX7_play 1 wsX7_play RX7 D tys (some .int) := C
  have hx := C.1.1
  have hb := C.1.2.1
  have hts := C.1.2.2.2.2
  have hown := C.1.2.2.2.1
  have w : xW D A s.heap (mR cI o (fl G) K h (nI k) T (nI nt) f) s.heap [] := w
  have hl : lv_has ls 1 [(0, .ref (o 0))] := hl
  refine lv_aload_n hx hb dX7_play_0 rfl (lv_at hl 0 rfl) ?_
  refine x_callVv (wr := []) (w2 := mR cI o (fl G) (fl G) h (nI k) T (nI nt) f) (rest := []) (n := 0) C w hl [] (k_X7_keep l D cI cS tys ht0 o G K h (nI k) T (nI nt) f ) gX7_play_X7_keep rfl (by decide +kernel) ⟨Nat.le_of_ble_eq_true rfl, Nat.le_of_ble_eq_true rfl⟩ 0 7 rfl rfl rfl rfl (Nat.le_of_ble_eq_true rfl) [0, 1, 2, 3, 4] [] (by decide) rfl rfl (by decide) (by decide) [0, 1, 2, 3, 4] (by decide) rfl ⟨Nat.zero_le _, Nat.zero_le _⟩ dX7_play_1 (fun H locs w => ?_)
  refine lv_aload_n hx hb dX7_play_4 rfl (lv_at hl 0 rfl) ?_
  refine x_callVi (wr := []) (w2 := mR cI o (fl ((runR T (nI nt) 60 (f0R f) G).2.1)) (fl G) h (nI k) T (nI nt) ((runR T (nI nt) 60 (f0R f) G).1)) (rest := []) (n := 0) C w hl [] (k_X7_doesAll l D cI cS tys ht0 o G (fl G) h (nI k) T f nt hn60 hI) gX7_play_X7_doesAll rfl (by decide +kernel) ⟨Nat.le_of_ble_eq_true rfl, Nat.le_of_ble_eq_true rfl⟩ 0 7 rfl rfl rfl rfl (Nat.le_of_ble_eq_true rfl) [0, 1, 2, 3, 4] [] (by decide) rfl rfl (by decide) (by decide) [0, 1, 2, 3, 4] (by decide) rfl ⟨Nat.zero_le _, Nat.zero_le _⟩ dX7_play_5 (fun H locs w => ?_)
  refine x_ifB_ne (P := (runR T (nI nt) 60 (f0R f) G).2.2 = true) (tgt := 18) hx hb dX7_play_8 (by decide) (fun c8_1 => ?_) (fun c8_1 => ?_)
  ·
    refine lv_aload_n hx hb dX7_play_18 rfl (lv_at hl 0 rfl) ?_
    refine lv_aload_n hx hb dX7_play_19 rfl (lv_at hl 0 rfl) ?_
    refine x_get (v := .int (((runR T (nI nt) 60 (f0R f) G).1) 7)) (T := TX7) C w 0 13 rfl rfl (fun _ h => List.mem_cons_of_mem _ (List.mem_append_right _ (h))) (List.mem_of_getElem? (i := 2) rfl) (by decide) rfl dX7_play_20 ?_
    refine x_callVi (wr := []) (w2 := mR cI o (fl ((runR T (nI nt) 60 (f0R f) G).2.1)) (fl G) (hpF k h (fl G)) (nI (kpN k)) T (nI nt) ((runR T (nI nt) 60 (f0R f) G).1)) (rest := []) (n := 1) C w hl [.int (((runR T (nI nt) 60 (f0R f) G).1) 7)] (k_X7_changed l D cI cS tys ht0 o ((runR T (nI nt) 60 (f0R f) G).2.1) (fl G) h T (nI nt) ((runR T (nI nt) 60 (f0R f) G).1) (((runR T (nI nt) 60 (f0R f) G).1) 7) k (run_ok T (nI nt) f G) hk) gX7_play_X7_changed rfl (by decide +kernel) ⟨Nat.le_of_ble_eq_true rfl, Nat.le_of_ble_eq_true rfl⟩ 0 7 rfl rfl rfl rfl (Nat.le_of_ble_eq_true rfl) [0, 1, 2, 3, 4] [] (by decide) rfl rfl (by decide) (by decide) [0, 1, 2, 3, 4] (by decide) rfl ⟨Nat.zero_le _, Nat.zero_le _⟩ dX7_play_23 (fun H locs w => ?_)
    exact x_iret C w (by first | rfl | contradiction | (simp [c8_1]; done)) rfl dX7_play_26
  ·
    exact absurd hok c8_1
