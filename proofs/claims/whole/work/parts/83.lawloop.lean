/-! ===== the law's loop and its start ===== -/
set_option maxHeartbeats 2000000 in
set_option maxRecDepth 100000 in
theorem law_loop {p : Program} {l : Launch} {e : Env} {s : State} {m : MethodId} {below : List Frame} {meth : Method} {c : Code} {b L : Nat} {xs : Nat → Int32} {D : va_G} {cI cS : ClassId} {A : Nat → Prop} {x : Nat} {o h t : Nat → Nat} {r q : Nat} {u : Nat → Nat} {tb : Nat} {o2 : Nat → Nat} (hr : meth.sig.returnType = ret) (hlocks : meth.locks = false) (hA : ∀ q : Nat, A q → s.heap.size ≤ q) (hC : lwC p s m meth c b L xs D cI cS A) (hL : L ≤ 1536) : ∀ (n i : Nat), L < i + n → i ≤ L → lwK p l e s m below meth c b D A (okW cI cS x o h t r q u tb o2) x (o2 0) i 18 := by
  intro n
  induction n with
  | zero => intro i h1 h2; omega
  | succ n ih =>
    intro i h1 h2 H locs w6 w7 hok w ls hl
    obtain ⟨C, hX, hbl, hbA, hZ⟩ := id hC
    have hx := C.1.1
    have hb := C.1.2.1
    have hout : ∀ (st : List Value), st = [] → W p l e room_1 s m #[Value.ref b] below meth c H locs 600000 7302250 (lw_Z below #[Value.ref b] s) (F0 m 628 ls st) := by
      intro st hst
      subst hst
      refine lv_iconst (v := 1) hx hb dL_law_628 (by decide +kernel) ?_
      refine va_forget (fun q hq => hA q.base (w.2.2.1.2.2 q hq)) ?_
      exact lw_ret hx hb hr hlocks dL_law_629
    refine lv_iload_n hx hb dL_law_18 rfl (lv_at hl 3 rfl) ?_
    refine lv_aload_n hx hb dL_law_19 rfl (lv_at hl 0 rfl) ?_
    refine va_slen hx hb hX hbl hbA w.2.2.1 dL_law_20 ?_
    refine lv_iconst (v := 3) hx hb dL_law_21 (by decide +kernel) ?_
    rcases Nat.lt_or_ge L 3 with hL3 | hL3
    · refine lv_isub (x := nI L) (y := 3) hx hb dL_law_22 ?_
      refine x_icR_gt (x := nI i) (y := nI L - 3) (tgt := 628) hx hb dL_law_23 (by decide) (fun _ => hout _ rfl) (fun hn => absurd ?_ hn)
      rcases (show (L = 0 ∧ i = 0) ∨ (L = 1 ∧ i = 0) ∨ (L = 1 ∧ i = 1) ∨ (L = 2 ∧ i = 0) ∨ (L = 2 ∧ i = 1) ∨ (L = 2 ∧ i = 2) by omega) with ⟨z1, z2⟩ | ⟨z1, z2⟩ | ⟨z1, z2⟩ | ⟨z1, z2⟩ | ⟨z1, z2⟩ | ⟨z1, z2⟩ <;> (rw [z1, z2]; decide +kernel)
    refine x_isubN (i := L) (j := 3) hx hb hL3 dL_law_22 ?_
    refine x_icN_gt (i := i) (j := L - 3) (tgt := 628) hx hb (by omega) (by omega) dL_law_23 (by decide) (fun _ => hout _ rfl) (fun hle => ?_)
    have hi : i + 3 ≤ L := by omega
    refine lv_aload_n hx hb dL_law_26 rfl (lv_at hl 0 rfl) ?_
    refine lv_iload_n hx hb dL_law_27 rfl (lv_at hl 3 rfl) ?_
    refine va_sld hx hb hX hbl hbA w.2.2.1 (vp_in_nI (n := i) (N := L) (by omega) (by omega)) dL_law_28 ?_
    rw [nI_clamp (n := i) (by omega)]
    refine lv_bipush (v := 31) hx hb dL_law_29 (by decide +kernel) ?_
    refine lv_iand (x := xs i) (y := 31) hx hb dL_law_31 ?_
    generalize xs i &&& 31 = v
    have kk : lwK p l e s m below meth c b D A (okW cI cS x o h t r q u tb o2) x (o2 0) i 622 := by
      intro H locs w6 w7 hok w ls hl
      refine lv_iinc (v := nI (i + 3)) (lv' := [(3, .int (nI (i + 3))), (0, .ref b), (1, .ref x), (2, .ref (o2 0))]) hx hb dL_law_622 hl (k := 3) rfl (nI_add i 3) (by decide) rfl (fun ls hl => ?_)
      refine lv_goto (tgt := 18) hx hb dL_law_625 (by decide) ?_
      exact ih (i + 3) (by omega) hi _ _ _ _ hok w _ (lv_sub hl [1, 2, 3, 0] rfl)
    by_cases n0 : v = 0
    · refine x_top (y := 0) n0 ?_
      refine lv_tableIn (x := 0) (off := 104) (tgt := 136) hx hb dL_law_32 (by decide) (by decide) rfl (by decide) ?_
      exact lw_read hC hi hL kk _ _ _ _ hok w _ hl
    by_cases n1 : v = 1
    · refine x_top (y := 1) n1 ?_
      refine lv_tableIn (x := 1) (off := 127) (tgt := 159) hx hb dL_law_32 (by decide) (by decide) rfl (by decide) ?_
      exact lw_write hC hi hL kk _ _ _ _ hok w _ hl
    by_cases n2 : v = 2
    · refine x_top (y := 2) n2 ?_
      refine lv_tableIn (x := 2) (off := 160) (tgt := 192) hx hb dL_law_32 (by decide) (by decide) rfl (by decide) ?_
      exact lw_flush hC hi hL kk _ _ _ _ hok w _ hl
    by_cases n3 : v = 3
    · refine x_top (y := 3) n3 ?_
      refine lv_tableIn (x := 3) (off := 183) (tgt := 215) hx hb dL_law_32 (by decide) (by decide) rfl (by decide) ?_
      exact lw_tick hC hi hL kk _ _ _ _ hok w _ hl
    by_cases n4 : v = 4
    · refine x_top (y := 4) n4 ?_
      refine lv_tableIn (x := 4) (off := 206) (tgt := 238) hx hb dL_law_32 (by decide) (by decide) rfl (by decide) ?_
      exact lw_load hC hi hL kk _ _ _ _ hok w _ hl
    by_cases n5 : v = 5
    · refine x_top (y := 5) n5 ?_
      refine lv_tableIn (x := 5) (off := 229) (tgt := 261) hx hb dL_law_32 (by decide) (by decide) rfl (by decide) ?_
      exact lw_learn hC hi hL kk _ _ _ _ hok w _ hl
    by_cases n6 : v = 6
    · refine x_top (y := 6) n6 ?_
      refine lv_tableIn (x := 6) (off := 242) (tgt := 274) hx hb dL_law_32 (by decide) (by decide) rfl (by decide) ?_
      exact lw_cut hC hi hL kk _ _ _ _ hok w _ hl
    by_cases n7 : v = 7
    · refine x_top (y := 7) n7 ?_
      refine lv_tableIn (x := 7) (off := 255) (tgt := 287) hx hb dL_law_32 (by decide) (by decide) rfl (by decide) ?_
      exact lw_set hC hi hL kk _ _ _ _ hok w _ hl
    by_cases n8 : v = 8
    · refine x_top (y := 8) n8 ?_
      refine lv_tableIn (x := 8) (off := 288) (tgt := 320) hx hb dL_law_32 (by decide) (by decide) rfl (by decide) ?_
      exact lw_lineOf hC hi hL kk _ _ _ _ hok w _ hl
    by_cases n9 : v = 9
    · refine x_top (y := 9) n9 ?_
      refine lv_tableIn (x := 9) (off := 321) (tgt := 353) hx hb dL_law_32 (by decide) (by decide) rfl (by decide) ?_
      exact lw_placeOf hC hi hL kk _ _ _ _ hok w _ hl
    by_cases n10 : v = 10
    · refine x_top (y := 10) n10 ?_
      refine lv_tableIn (x := 10) (off := 354) (tgt := 386) hx hb dL_law_32 (by decide) (by decide) rfl (by decide) ?_
      exact lw_battery hC hi hL kk _ _ _ _ hok w _ hl
    by_cases n11 : v = 11
    · refine x_top (y := 11) n11 ?_
      refine lv_tableIn (x := 11) (off := 377) (tgt := 409) hx hb dL_law_32 (by decide) (by decide) rfl (by decide) ?_
      exact lw_lines hC hi hL kk _ _ _ _ hok w _ hl
    by_cases n12 : v = 12
    · refine x_top (y := 12) n12 ?_
      refine lv_tableIn (x := 12) (off := 400) (tgt := 432) hx hb dL_law_32 (by decide) (by decide) rfl (by decide) ?_
      exact lw_wouldFlush hC hi hL kk _ _ _ _ hok w _ hl
    by_cases n13 : v = 13
    · refine x_top (y := 13) n13 ?_
      refine lv_tableIn (x := 13) (off := 423) (tgt := 455) hx hb dL_law_32 (by decide) (by decide) rfl (by decide) ?_
      exact lw_critical hC hi hL kk _ _ _ _ hok w _ hl
    by_cases n14 : v = 14
    · refine x_top (y := 14) n14 ?_
      refine lv_tableIn (x := 14) (off := 436) (tgt := 468) hx hb dL_law_32 (by decide) (by decide) rfl (by decide) ?_
      exact lw_ticksUntil hC hi hL kk _ _ _ _ hok w _ hl
    by_cases n15 : v = 15
    · refine x_top (y := 15) n15 ?_
      refine lv_tableIn (x := 15) (off := 459) (tgt := 491) hx hb dL_law_32 (by decide) (by decide) rfl (by decide) ?_
      exact lw_pair hC hi hL kk _ _ _ _ hok w _ hl
    by_cases n16 : v = 16
    · refine x_top (y := 16) n16 ?_
      refine lv_tableIn (x := 16) (off := 482) (tgt := 514) hx hb dL_law_32 (by decide) (by decide) rfl (by decide) ?_
      exact lw_count hC hi hL kk _ _ _ _ hok w _ hl
    by_cases n17 : v = 17
    · refine x_top (y := 17) n17 ?_
      refine lv_tableIn (x := 17) (off := 505) (tgt := 537) hx hb dL_law_32 (by decide) (by decide) rfl (by decide) ?_
      exact lw_undo hC hi hL kk _ _ _ _ hok w _ hl
    by_cases n18 : v = 18
    · refine x_top (y := 18) n18 ?_
      refine lv_tableIn (x := 18) (off := 518) (tgt := 550) hx hb dL_law_32 (by decide) (by decide) rfl (by decide) ?_
      exact lw_type hC hi hL kk _ _ _ _ hok w _ hl
    by_cases n19 : v = 19
    · refine x_top (y := 19) n19 ?_
      refine lv_tableIn (x := 19) (off := 541) (tgt := 573) hx hb dL_law_32 (by decide) (by decide) rfl (by decide) ?_
      exact lw_clearText hC hi hL kk _ _ _ _ hok w _ hl
    by_cases n20 : v = 20
    · refine x_top (y := 20) n20 ?_
      refine lv_tableIn (x := 20) (off := 554) (tgt := 586) hx hb dL_law_32 (by decide) (by decide) rfl (by decide) ?_
      exact lw_fault hC hi hL kk _ _ _ _ hok w _ hl
    by_cases n21 : v = 21
    · refine x_top (y := 21) n21 ?_
      refine lv_tableIn (x := 21) (off := 577) (tgt := 609) hx hb dL_law_32 (by decide) (by decide) rfl (by decide) ?_
      exact lw_play hC hi hL kk _ _ _ _ hok w _ hl
    refine lv_tableOut (x := v) (tgt := 622) hx hb dL_law_32 (by have z0 := lv_neT (a := 0) n0 (by decide); have z1 := lv_neT (a := 1) n1 (by decide); have z2 := lv_neT (a := 2) n2 (by decide); have z3 := lv_neT (a := 3) n3 (by decide); have z4 := lv_neT (a := 4) n4 (by decide); have z5 := lv_neT (a := 5) n5 (by decide); have z6 := lv_neT (a := 6) n6 (by decide); have z7 := lv_neT (a := 7) n7 (by decide); have z8 := lv_neT (a := 8) n8 (by decide); have z9 := lv_neT (a := 9) n9 (by decide); have z10 := lv_neT (a := 10) n10 (by decide); have z11 := lv_neT (a := 11) n11 (by decide); have z12 := lv_neT (a := 12) n12 (by decide); have z13 := lv_neT (a := 13) n13 (by decide); have z14 := lv_neT (a := 14) n14 (by decide); have z15 := lv_neT (a := 15) n15 (by decide); have z16 := lv_neT (a := 16) n16 (by decide); have z17 := lv_neT (a := 17) n17 (by decide); have z18 := lv_neT (a := 18) n18 (by decide); have z19 := lv_neT (a := 19) n19 (by decide); have z20 := lv_neT (a := 20) n20 (by decide); have z21 := lv_neT (a := 21) n21 (by decide); omega) (by decide) ?_
    exact kk _ _ _ _ hok w _ hl
-- ===== YOUR PART BEGINS =====
set_option maxHeartbeats 4000000 in
set_option maxRecDepth 100000 in
theorem whole_start {p : Program} {e : Env} {s : State} {m : MethodId} {below : List Frame} {meth : Method} {c : Code} (l : Launch) (hflags : l.flags = flags0) {b L : Nat} {xs : Nat → Int32} (hL : L ≤ 1536) (C0 : lw_At p s m meth c b L xs) : W p l e room_1 s m #[Value.ref b] below meth c s.heap [] 0 0 (lw_Z below #[Value.ref b] s) (entryFrame m ([Value.ref b] : List Value).toArray 4) := by
  obtain ⟨hx, hb, hr, hml, hown, hts, hX, hbl, hlocks, hgv⟩ := id C0
  obtain ⟨D, cI, cS, hK⟩ := lw_K hts
  have C : xC p s m meth c #[Value.ref b] cL_law 4 wsL_law RL D [(cI, .int), (cS, .object RX4)] ret := ⟨⟨hx, hb, hml, hown, fun w hw => hts w (wsL_law_in w hw)⟩, hK, hr, hlocks, lw_N hts⟩
  have hC : lwC p s m meth c b L xs D cI cS (fun q : Nat => s.heap.size ≤ q) := ⟨C, hX, hbl, Nat.not_le.mpr hbl, lw_xZ hts hgv⟩
  have w : xW D (fun q : Nat => s.heap.size ≤ q) s.heap ([] : va_W) s.heap [] := ⟨fun k q h => by simp at h, ⟨fun i j p q h => by simp at h, fun k q h => by simp at h⟩, va_S.rf, fun _ h => h⟩
  have hl := lv_entry ([.ref b]) (n := 4) (Nat.le_of_ble_eq_true rfl)
  rw [lg_entry_eq]
  generalize (lg_sl ([.ref b]) ++ List.replicate (4 - (lg_sl ([.ref b])).length) Slot.unset).toArray = ls at hl ⊢
  have hl : lv_has ls 4 [(0, .ref b)] := hl
  refine x_new (ci := 6) (T := TX6) (N := 5) (fs := [.null, .null, .null, .null, .null]) C w inlX6 tyX6 tyX6_ok (List.mem_of_getElem? (i := 0) rfl) (List.mem_of_getElem? (i := 1) rfl) (List.mem_of_getElem? (i := 2) rfl) rfl (by decide +kernel) (Nat.le_of_ble_eq_true rfl) (Nat.le_of_ble_eq_true rfl) dL_law_0 (fun q6 H w => ?_)
  have w : xW D (fun q : Nat => s.heap.size ≤ q) s.heap ([(q6, .inr (6, [.null, .null, .null, .null, .null]))]) H [] := w
  refine lv_dup hx hb dL_law_3 rfl ?_
  refine x_makeO (wr := []) (rest := [.ref q6]) (d' := 4) (lw_O hts) C w hl (k_X6_init l D cI cS [(cI, .int), (cS, .object RX4)] rfl rfl q6) gL_law_X6_init rfl (List.mem_of_getElem? (i := 6) rfl) (List.mem_of_getElem? (i := 2) rfl) (List.mem_of_getElem? (i := 7) rfl) rfl (by decide +kernel) ⟨Nat.le_of_ble_eq_true rfl, Nat.le_of_ble_eq_true rfl⟩ rfl (Nat.le_of_ble_eq_true rfl) (List.Perm.refl _) ⟨Nat.le_of_ble_eq_true rfl, Nat.le_of_ble_eq_true rfl⟩ dL_law_4 (fun i6 H locs w => ?_)
  obtain ⟨o, h, b9, t, r, q, u, tb⟩ := i6
  have w : xW D (fun q : Nat => s.heap.size ≤ q) s.heap (xTop q6 o h t r tb ++ sW cI o N0 ++ hH cS h b9 0 ++ sW cI (b9 0) N0 ++ sW cI (b9 1) N0 ++ sW cI (b9 2) N0 ++ sW cI (b9 3) N0 ++ tW cI t zF 0 ++ rW3 r u q 0 ++ oW q oN ++ sW cI u N0 ++ bW tb N0 ++ []) H locs := w
  have ew : xTop q6 o h t r tb ++ sW cI o N0 ++ hH cS h b9 0 ++ sW cI (b9 0) N0 ++ sW cI (b9 1) N0 ++ sW cI (b9 2) N0 ++ sW cI (b9 3) N0 ++ tW cI t zF 0 ++ rW3 r u q 0 ++ oW q oN ++ sW cI u N0 ++ bW tb N0 ++ [] = List.flatten [xTop q6 o h t r tb, sW cI o N0, hH cS h b9 (nI 0), sW cI (b9 0) N0, sW cI (b9 1) N0, sW cI (b9 2) N0, sW cI (b9 3) N0, tW cI t zF (nI 0), rW3 r u q 0, oW q oN, sW cI u N0, bW tb N0] := by
    rw [nI_0]
    simp only [List.flatten_cons, List.flatten_nil, List.append_nil, List.append_assoc]
  rw [ew] at w
  refine lv_astore_n (lv' := [(1, .ref q6), (0, .ref b)]) hx hb dL_law_7 rfl hl (by decide) rfl (fun ls hl => ?_)
  refine x_new (ci := 7) (T := TX7) (N := 14) (fs := [.null, .null, .null, .int 0, .null, .int 0, .int 0, .int 0, .int 0, .int 0, .int 0, .int 0, .int 0, .int 0]) C w inlX7 tyX7 tyX7_ok (List.mem_of_getElem? (i := 3) rfl) (List.mem_of_getElem? (i := 4) rfl) (List.mem_of_getElem? (i := 5) rfl) rfl (by decide +kernel) (Nat.le_of_ble_eq_true rfl) (Nat.le_of_ble_eq_true rfl) dL_law_8 (fun q7 H w => ?_)
  refine lv_dup hx hb dL_law_11 rfl ?_
  refine x_make (wr := List.flatten [xTop q6 o h t r tb, sW cI o N0, hH cS h b9 (nI 0), sW cI (b9 0) N0, sW cI (b9 1) N0, sW cI (b9 2) N0, sW cI (b9 3) N0, tW cI t zF (nI 0), rW3 r u q 0, oW q oN, sW cI u N0, bW tb N0]) (wc := [(q7, .inr (7, [.null, .null, .null, .int 0, .null, .int 0, .int 0, .int 0, .int 0, .int 0, .int 0, .int 0, .int 0, .int 0]))]) (rest := [.ref q7]) (d' := 1) C w hl (k_X7_init l D cI cS [(cI, .int), (cS, .object RX4)] rfl rfl q7) gL_law_X7_init rfl (List.mem_of_getElem? (i := 96) rfl) (List.mem_of_getElem? (i := 5) rfl) (List.mem_of_getElem? (i := 97) rfl) rfl (by decide +kernel) ⟨Nat.le_of_ble_eq_true rfl, Nat.le_of_ble_eq_true rfl⟩ rfl (Nat.le_of_ble_eq_true rfl) List.perm_append_comm ⟨Nat.le_of_ble_eq_true rfl, Nat.le_of_ble_eq_true rfl⟩ dL_law_12 (fun i7 H locs w => ?_)
  have w := x_perm List.perm_append_comm w
  refine lv_astore_n (lv' := [(2, .ref q7), (1, .ref q6), (0, .ref b)]) hx hb dL_law_15 rfl hl (by decide) rfl (fun ls hl => ?_)
  refine lv_iconst (v := 0) hx hb dL_law_16 (by decide +kernel) ?_
  refine lv_istore_n (lv' := [(3, .int 0), (2, .ref q7), (1, .ref q6), (0, .ref b)]) hx hb dL_law_17 rfl hl (by decide) rfl (fun ls hl => ?_)
  refine W.widen (k := 600000) (n := 7302250) (Nat.le_of_ble_eq_true rfl) (Nat.le_of_ble_eq_true rfl) ?_
  have hok : okW cI cS q6 o h t r q u tb (fun k => if k = 0 then q7 else i7 k) (List.flatten [xTop q6 o h t r tb, sW cI o N0, hH cS h b9 (nI 0), sW cI (b9 0) N0, sW cI (b9 1) N0, sW cI (b9 2) N0, sW cI (b9 3) N0, tW cI t zF (nI 0), rW3 r u q 0, oW q oN, sW cI u N0, bW tb N0]) (mR cI (fun k => if k = 0 then q7 else i7 k) (fl N0) zF zF 0 zF 0 zF) := ⟨N0, 0, fun _ => N0, b9, zF, 0, oN, 0, N0, N0, zF, zF, zF, rfl, (by rw [nI_0]), by omega, by omega, Snd_0, fun i hi => absurd hi (Nat.not_lt_zero i), fun i j hi => absurd hi (Nat.not_lt_zero i)⟩
  have hl : lv_has ls 4 [(0, .ref b), (1, .ref q6), (2, .ref q7), (3, .int (nI 0))] := by rw [nI_0]; exact lv_sub hl [3, 2, 1, 0] rfl
  exact law_loop hr hlocks (fun q hq => hq) hC hL (L + 1) 0 (by omega) (Nat.zero_le L) _ _ _ _ hok w _ hl
-- ===== YOUR PART ENDS =====
