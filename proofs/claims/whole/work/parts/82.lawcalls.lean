/-! ===== the law's twenty-two calls ===== -/
set_option maxHeartbeats 1000000 in
set_option maxRecDepth 100000 in
theorem lw_read {p : Program} {l : Launch} {e : Env} {s : State} {m : MethodId} {below : List Frame} {meth : Method} {c : Code} {b L : Nat} {xs : Nat → Int32} {D : va_G} {cI cS : ClassId} {A : Nat → Prop} {x : Nat} {o h t : Nat → Nat} {r q : Nat} {u : Nat → Nat} {tb : Nat} {o2 : Nat → Nat} (hC : lwC p s m meth c b L xs D cI cS A) {i : Nat} (hi : i + 3 ≤ L) (hL : L ≤ 1536) (kk : lwK p l e s m below meth c b D A (okW cI cS x o h t r q u tb o2) x (o2 0) i 622) : lwK p l e s m below meth c b D A (okW cI cS x o h t r q u tb o2) x (o2 0) i 136 := by
  intro H locs w6 w7 hok w ls hl
  obtain ⟨C, hX, hbl, hbA, hZ⟩ := hC
  have hx := C.1.1
  have hb := C.1.2.1
  refine lv_aload_n hx hb dL_law_136 rfl (lv_at hl 1 rfl) ?_
  refine lv_aload_n hx hb dL_law_137 rfl (lv_at hl 0 rfl) ?_
  refine lv_iload_n hx hb dL_law_138 rfl (lv_at hl 3 rfl) ?_
  refine lv_iconst (v := 1) hx hb dL_law_139 (by decide +kernel) ?_
  refine x_iaddN (i := i) (j := 1) hx hb dL_law_140 ?_
  refine va_sld hx hb hX hbl hbA w.2.2.1 (vp_in_nI (n := i + 1) (N := L) (by omega) (by omega)) dL_law_141 ?_
  rw [nI_clamp (n := i + 1) (by omega)]
  obtain ⟨rv, v6, v7, c6, c7, hok2⟩ := pr_read l D cI cS [(cI, .int), (cS, .object RX4)] rfl rfl x o h t r q u tb o2 (xs (i + 1)) w6 w7 hok
  obtain ⟨fs6, r6⟩ := okW_6 hok
  obtain ⟨fs7, r7⟩ := okW_7 hok
  refine x_callViB (wr := w7) (w2 := w7 ++ v6) (rest := []) (n := 1) C w hl [.int (xs (i + 1))] c6 gL_law_X6_read rfl (by decide +kernel) ⟨Nat.le_of_ble_eq_true rfl, Nat.le_of_ble_eq_true rfl⟩ 0 6 r6 rfl rfl rfl (Nat.le_of_ble_eq_true rfl) (List.Perm.refl _) List.perm_append_comm ⟨Nat.le_of_ble_eq_true rfl, Nat.le_of_ble_eq_true rfl⟩ dL_law_142 (fun H locs w => ?_)
  refine lv_aload_n hx hb dL_law_145 rfl (lv_at hl 2 rfl) ?_
  refine lv_aload_n hx hb dL_law_146 rfl (lv_at hl 0 rfl) ?_
  refine lv_iload_n hx hb dL_law_147 rfl (lv_at hl 3 rfl) ?_
  refine lv_iconst (v := 1) hx hb dL_law_148 (by decide +kernel) ?_
  refine x_iaddN (i := i) (j := 1) hx hb dL_law_149 ?_
  refine va_sld hx hb hX hbl hbA w.2.2.1 (vp_in_nI (n := i + 1) (N := L) (by omega) (by omega)) dL_law_150 ?_
  rw [nI_clamp (n := i + 1) (by omega)]
  refine x_callViB (wr := v6) (w2 := v6 ++ v7) (rest := [.int rv]) (n := 1) C w hl [.int (xs (i + 1))] c7 gL_law_X7_read rfl (by decide +kernel) ⟨Nat.le_of_ble_eq_true rfl, Nat.le_of_ble_eq_true rfl⟩ 0 7 r7 rfl rfl rfl (Nat.le_of_ble_eq_true rfl) (List.Perm.refl _) List.perm_append_comm ⟨Nat.le_of_ble_eq_true rfl, Nat.le_of_ble_eq_true rfl⟩ dL_law_151 (fun H locs w => ?_)
  refine x_icR_eq (tgt := 622) hx hb dL_law_154 (by decide) (fun _ => ?_) (fun hne => absurd rfl hne)
  exact kk _ _ _ _ hok2 w _ hl
set_option maxHeartbeats 1000000 in
set_option maxRecDepth 100000 in
theorem lw_write {p : Program} {l : Launch} {e : Env} {s : State} {m : MethodId} {below : List Frame} {meth : Method} {c : Code} {b L : Nat} {xs : Nat → Int32} {D : va_G} {cI cS : ClassId} {A : Nat → Prop} {x : Nat} {o h t : Nat → Nat} {r q : Nat} {u : Nat → Nat} {tb : Nat} {o2 : Nat → Nat} (hC : lwC p s m meth c b L xs D cI cS A) {i : Nat} (hi : i + 3 ≤ L) (hL : L ≤ 1536) (kk : lwK p l e s m below meth c b D A (okW cI cS x o h t r q u tb o2) x (o2 0) i 622) : lwK p l e s m below meth c b D A (okW cI cS x o h t r q u tb o2) x (o2 0) i 159 := by
  intro H locs w6 w7 hok w ls hl
  obtain ⟨C, hX, hbl, hbA, hZ⟩ := hC
  have hx := C.1.1
  have hb := C.1.2.1
  refine lv_aload_n hx hb dL_law_159 rfl (lv_at hl 1 rfl) ?_
  refine lv_aload_n hx hb dL_law_160 rfl (lv_at hl 0 rfl) ?_
  refine lv_iload_n hx hb dL_law_161 rfl (lv_at hl 3 rfl) ?_
  refine lv_iconst (v := 1) hx hb dL_law_162 (by decide +kernel) ?_
  refine x_iaddN (i := i) (j := 1) hx hb dL_law_163 ?_
  refine va_sld hx hb hX hbl hbA w.2.2.1 (vp_in_nI (n := i + 1) (N := L) (by omega) (by omega)) dL_law_164 ?_
  rw [nI_clamp (n := i + 1) (by omega)]
  refine lv_aload_n hx hb dL_law_165 rfl (lv_at hl 0 rfl) ?_
  refine lv_iload_n hx hb dL_law_166 rfl (lv_at hl 3 rfl) ?_
  refine lv_iconst (v := 2) hx hb dL_law_167 (by decide +kernel) ?_
  refine x_iaddN (i := i) (j := 2) hx hb dL_law_168 ?_
  refine va_sld hx hb hX hbl hbA w.2.2.1 (vp_in_nI (n := i + 2) (N := L) (by omega) (by omega)) dL_law_169 ?_
  rw [nI_clamp (n := i + 2) (by omega)]
  obtain ⟨rv, v6, v7, c6, c7, hok2⟩ := pr_write l D cI cS [(cI, .int), (cS, .object RX4)] rfl rfl x o h t r q u tb o2 (xs (i + 1)) (xs (i + 2)) w6 w7 hok
  obtain ⟨fs6, r6⟩ := okW_6 hok
  obtain ⟨fs7, r7⟩ := okW_7 hok
  refine x_callViB (wr := w7) (w2 := w7 ++ v6) (rest := []) (n := 2) C w hl [.int (xs (i + 1)), .int (xs (i + 2))] c6 gL_law_X6_write rfl (by decide +kernel) ⟨Nat.le_of_ble_eq_true rfl, Nat.le_of_ble_eq_true rfl⟩ 0 6 r6 rfl rfl rfl (Nat.le_of_ble_eq_true rfl) (List.Perm.refl _) List.perm_append_comm ⟨Nat.le_of_ble_eq_true rfl, Nat.le_of_ble_eq_true rfl⟩ dL_law_170 (fun H locs w => ?_)
  refine lv_aload_n hx hb dL_law_173 rfl (lv_at hl 2 rfl) ?_
  refine lv_aload_n hx hb dL_law_174 rfl (lv_at hl 0 rfl) ?_
  refine lv_iload_n hx hb dL_law_175 rfl (lv_at hl 3 rfl) ?_
  refine lv_iconst (v := 1) hx hb dL_law_176 (by decide +kernel) ?_
  refine x_iaddN (i := i) (j := 1) hx hb dL_law_177 ?_
  refine va_sld hx hb hX hbl hbA w.2.2.1 (vp_in_nI (n := i + 1) (N := L) (by omega) (by omega)) dL_law_178 ?_
  rw [nI_clamp (n := i + 1) (by omega)]
  refine lv_aload_n hx hb dL_law_179 rfl (lv_at hl 0 rfl) ?_
  refine lv_iload_n hx hb dL_law_180 rfl (lv_at hl 3 rfl) ?_
  refine lv_iconst (v := 2) hx hb dL_law_181 (by decide +kernel) ?_
  refine x_iaddN (i := i) (j := 2) hx hb dL_law_182 ?_
  refine va_sld hx hb hX hbl hbA w.2.2.1 (vp_in_nI (n := i + 2) (N := L) (by omega) (by omega)) dL_law_183 ?_
  rw [nI_clamp (n := i + 2) (by omega)]
  refine x_callViB (wr := v6) (w2 := v6 ++ v7) (rest := [.int rv]) (n := 2) C w hl [.int (xs (i + 1)), .int (xs (i + 2))] c7 gL_law_X7_write rfl (by decide +kernel) ⟨Nat.le_of_ble_eq_true rfl, Nat.le_of_ble_eq_true rfl⟩ 0 7 r7 rfl rfl rfl (Nat.le_of_ble_eq_true rfl) (List.Perm.refl _) List.perm_append_comm ⟨Nat.le_of_ble_eq_true rfl, Nat.le_of_ble_eq_true rfl⟩ dL_law_184 (fun H locs w => ?_)
  refine x_icR_eq (tgt := 622) hx hb dL_law_187 (by decide) (fun _ => ?_) (fun hne => absurd rfl hne)
  exact kk _ _ _ _ hok2 w _ hl
set_option maxHeartbeats 1000000 in
set_option maxRecDepth 100000 in
theorem lw_flush {p : Program} {l : Launch} {e : Env} {s : State} {m : MethodId} {below : List Frame} {meth : Method} {c : Code} {b L : Nat} {xs : Nat → Int32} {D : va_G} {cI cS : ClassId} {A : Nat → Prop} {x : Nat} {o h t : Nat → Nat} {r q : Nat} {u : Nat → Nat} {tb : Nat} {o2 : Nat → Nat} (hC : lwC p s m meth c b L xs D cI cS A) {i : Nat} (hi : i + 3 ≤ L) (hL : L ≤ 1536) (kk : lwK p l e s m below meth c b D A (okW cI cS x o h t r q u tb o2) x (o2 0) i 622) : lwK p l e s m below meth c b D A (okW cI cS x o h t r q u tb o2) x (o2 0) i 192 := by
  intro H locs w6 w7 hok w ls hl
  obtain ⟨C, hX, hbl, hbA, hZ⟩ := hC
  have hx := C.1.1
  have hb := C.1.2.1
  refine lv_aload_n hx hb dL_law_192 rfl (lv_at hl 1 rfl) ?_
  refine lv_aload_n hx hb dL_law_193 rfl (lv_at hl 0 rfl) ?_
  refine lv_iload_n hx hb dL_law_194 rfl (lv_at hl 3 rfl) ?_
  refine lv_iconst (v := 1) hx hb dL_law_195 (by decide +kernel) ?_
  refine x_iaddN (i := i) (j := 1) hx hb dL_law_196 ?_
  refine va_sld hx hb hX hbl hbA w.2.2.1 (vp_in_nI (n := i + 1) (N := L) (by omega) (by omega)) dL_law_197 ?_
  rw [nI_clamp (n := i + 1) (by omega)]
  obtain ⟨rv, v6, v7, c6, c7, hok2⟩ := pr_flush l D cI cS [(cI, .int), (cS, .object RX4)] rfl rfl x o h t r q u tb o2 (xs (i + 1)) w6 w7 hok
  obtain ⟨fs6, r6⟩ := okW_6 hok
  obtain ⟨fs7, r7⟩ := okW_7 hok
  refine x_callViB (wr := w7) (w2 := w7 ++ v6) (rest := []) (n := 1) C w hl [.int (xs (i + 1))] c6 gL_law_X6_flush rfl (by decide +kernel) ⟨Nat.le_of_ble_eq_true rfl, Nat.le_of_ble_eq_true rfl⟩ 0 6 r6 rfl rfl rfl (Nat.le_of_ble_eq_true rfl) (List.Perm.refl _) List.perm_append_comm ⟨Nat.le_of_ble_eq_true rfl, Nat.le_of_ble_eq_true rfl⟩ dL_law_198 (fun H locs w => ?_)
  refine lv_aload_n hx hb dL_law_201 rfl (lv_at hl 2 rfl) ?_
  refine lv_aload_n hx hb dL_law_202 rfl (lv_at hl 0 rfl) ?_
  refine lv_iload_n hx hb dL_law_203 rfl (lv_at hl 3 rfl) ?_
  refine lv_iconst (v := 1) hx hb dL_law_204 (by decide +kernel) ?_
  refine x_iaddN (i := i) (j := 1) hx hb dL_law_205 ?_
  refine va_sld hx hb hX hbl hbA w.2.2.1 (vp_in_nI (n := i + 1) (N := L) (by omega) (by omega)) dL_law_206 ?_
  rw [nI_clamp (n := i + 1) (by omega)]
  refine x_callViB (wr := v6) (w2 := v6 ++ v7) (rest := [.int rv]) (n := 1) C w hl [.int (xs (i + 1))] c7 gL_law_X7_flush rfl (by decide +kernel) ⟨Nat.le_of_ble_eq_true rfl, Nat.le_of_ble_eq_true rfl⟩ 0 7 r7 rfl rfl rfl (Nat.le_of_ble_eq_true rfl) (List.Perm.refl _) List.perm_append_comm ⟨Nat.le_of_ble_eq_true rfl, Nat.le_of_ble_eq_true rfl⟩ dL_law_207 (fun H locs w => ?_)
  refine x_icR_eq (tgt := 622) hx hb dL_law_210 (by decide) (fun _ => ?_) (fun hne => absurd rfl hne)
  exact kk _ _ _ _ hok2 w _ hl
set_option maxHeartbeats 1000000 in
set_option maxRecDepth 100000 in
theorem lw_tick {p : Program} {l : Launch} {e : Env} {s : State} {m : MethodId} {below : List Frame} {meth : Method} {c : Code} {b L : Nat} {xs : Nat → Int32} {D : va_G} {cI cS : ClassId} {A : Nat → Prop} {x : Nat} {o h t : Nat → Nat} {r q : Nat} {u : Nat → Nat} {tb : Nat} {o2 : Nat → Nat} (hC : lwC p s m meth c b L xs D cI cS A) {i : Nat} (hi : i + 3 ≤ L) (hL : L ≤ 1536) (kk : lwK p l e s m below meth c b D A (okW cI cS x o h t r q u tb o2) x (o2 0) i 622) : lwK p l e s m below meth c b D A (okW cI cS x o h t r q u tb o2) x (o2 0) i 215 := by
  intro H locs w6 w7 hok w ls hl
  obtain ⟨C, hX, hbl, hbA, hZ⟩ := hC
  have hx := C.1.1
  have hb := C.1.2.1
  refine lv_aload_n hx hb dL_law_215 rfl (lv_at hl 1 rfl) ?_
  refine lv_aload_n hx hb dL_law_216 rfl (lv_at hl 0 rfl) ?_
  refine lv_iload_n hx hb dL_law_217 rfl (lv_at hl 3 rfl) ?_
  refine lv_iconst (v := 1) hx hb dL_law_218 (by decide +kernel) ?_
  refine x_iaddN (i := i) (j := 1) hx hb dL_law_219 ?_
  refine va_sld hx hb hX hbl hbA w.2.2.1 (vp_in_nI (n := i + 1) (N := L) (by omega) (by omega)) dL_law_220 ?_
  rw [nI_clamp (n := i + 1) (by omega)]
  obtain ⟨rv, v6, v7, c6, c7, hok2⟩ := pr_tick l D cI cS [(cI, .int), (cS, .object RX4)] rfl rfl x o h t r q u tb o2 (xs (i + 1)) w6 w7 hok
  obtain ⟨fs6, r6⟩ := okW_6 hok
  obtain ⟨fs7, r7⟩ := okW_7 hok
  refine x_callViB (wr := w7) (w2 := w7 ++ v6) (rest := []) (n := 1) C w hl [.int (xs (i + 1))] c6 gL_law_X6_tick rfl (by decide +kernel) ⟨Nat.le_of_ble_eq_true rfl, Nat.le_of_ble_eq_true rfl⟩ 0 6 r6 rfl rfl rfl (Nat.le_of_ble_eq_true rfl) (List.Perm.refl _) List.perm_append_comm ⟨Nat.le_of_ble_eq_true rfl, Nat.le_of_ble_eq_true rfl⟩ dL_law_221 (fun H locs w => ?_)
  refine lv_aload_n hx hb dL_law_224 rfl (lv_at hl 2 rfl) ?_
  refine lv_aload_n hx hb dL_law_225 rfl (lv_at hl 0 rfl) ?_
  refine lv_iload_n hx hb dL_law_226 rfl (lv_at hl 3 rfl) ?_
  refine lv_iconst (v := 1) hx hb dL_law_227 (by decide +kernel) ?_
  refine x_iaddN (i := i) (j := 1) hx hb dL_law_228 ?_
  refine va_sld hx hb hX hbl hbA w.2.2.1 (vp_in_nI (n := i + 1) (N := L) (by omega) (by omega)) dL_law_229 ?_
  rw [nI_clamp (n := i + 1) (by omega)]
  refine x_callViB (wr := v6) (w2 := v6 ++ v7) (rest := [.int rv]) (n := 1) C w hl [.int (xs (i + 1))] c7 gL_law_X7_tick rfl (by decide +kernel) ⟨Nat.le_of_ble_eq_true rfl, Nat.le_of_ble_eq_true rfl⟩ 0 7 r7 rfl rfl rfl (Nat.le_of_ble_eq_true rfl) (List.Perm.refl _) List.perm_append_comm ⟨Nat.le_of_ble_eq_true rfl, Nat.le_of_ble_eq_true rfl⟩ dL_law_230 (fun H locs w => ?_)
  refine x_icR_eq (tgt := 622) hx hb dL_law_233 (by decide) (fun _ => ?_) (fun hne => absurd rfl hne)
  exact kk _ _ _ _ hok2 w _ hl
set_option maxHeartbeats 1000000 in
set_option maxRecDepth 100000 in
theorem lw_load {p : Program} {l : Launch} {e : Env} {s : State} {m : MethodId} {below : List Frame} {meth : Method} {c : Code} {b L : Nat} {xs : Nat → Int32} {D : va_G} {cI cS : ClassId} {A : Nat → Prop} {x : Nat} {o h t : Nat → Nat} {r q : Nat} {u : Nat → Nat} {tb : Nat} {o2 : Nat → Nat} (hC : lwC p s m meth c b L xs D cI cS A) {i : Nat} (hi : i + 3 ≤ L) (hL : L ≤ 1536) (kk : lwK p l e s m below meth c b D A (okW cI cS x o h t r q u tb o2) x (o2 0) i 622) : lwK p l e s m below meth c b D A (okW cI cS x o h t r q u tb o2) x (o2 0) i 238 := by
  intro H locs w6 w7 hok w ls hl
  obtain ⟨C, hX, hbl, hbA, hZ⟩ := hC
  have hx := C.1.1
  have hb := C.1.2.1
  refine lv_aload_n hx hb dL_law_238 rfl (lv_at hl 1 rfl) ?_
  refine lv_aload_n hx hb dL_law_239 rfl (lv_at hl 0 rfl) ?_
  refine lv_iload_n hx hb dL_law_240 rfl (lv_at hl 3 rfl) ?_
  refine lv_iconst (v := 1) hx hb dL_law_241 (by decide +kernel) ?_
  refine x_iaddN (i := i) (j := 1) hx hb dL_law_242 ?_
  refine va_sld hx hb hX hbl hbA w.2.2.1 (vp_in_nI (n := i + 1) (N := L) (by omega) (by omega)) dL_law_243 ?_
  rw [nI_clamp (n := i + 1) (by omega)]
  obtain ⟨rv, v6, v7, c6, c7, hok2⟩ := pr_load l D cI cS [(cI, .int), (cS, .object RX4)] rfl rfl x o h t r q u tb o2 (xs (i + 1)) w6 w7 hok
  obtain ⟨fs6, r6⟩ := okW_6 hok
  obtain ⟨fs7, r7⟩ := okW_7 hok
  refine x_callViB (wr := w7) (w2 := w7 ++ v6) (rest := []) (n := 1) C w hl [.int (xs (i + 1))] c6 gL_law_X6_load rfl (by decide +kernel) ⟨Nat.le_of_ble_eq_true rfl, Nat.le_of_ble_eq_true rfl⟩ 0 6 r6 rfl rfl rfl (Nat.le_of_ble_eq_true rfl) (List.Perm.refl _) List.perm_append_comm ⟨Nat.le_of_ble_eq_true rfl, Nat.le_of_ble_eq_true rfl⟩ dL_law_244 (fun H locs w => ?_)
  refine lv_aload_n hx hb dL_law_247 rfl (lv_at hl 2 rfl) ?_
  refine lv_aload_n hx hb dL_law_248 rfl (lv_at hl 0 rfl) ?_
  refine lv_iload_n hx hb dL_law_249 rfl (lv_at hl 3 rfl) ?_
  refine lv_iconst (v := 1) hx hb dL_law_250 (by decide +kernel) ?_
  refine x_iaddN (i := i) (j := 1) hx hb dL_law_251 ?_
  refine va_sld hx hb hX hbl hbA w.2.2.1 (vp_in_nI (n := i + 1) (N := L) (by omega) (by omega)) dL_law_252 ?_
  rw [nI_clamp (n := i + 1) (by omega)]
  refine x_callViB (wr := v6) (w2 := v6 ++ v7) (rest := [.int rv]) (n := 1) C w hl [.int (xs (i + 1))] c7 gL_law_X7_load rfl (by decide +kernel) ⟨Nat.le_of_ble_eq_true rfl, Nat.le_of_ble_eq_true rfl⟩ 0 7 r7 rfl rfl rfl (Nat.le_of_ble_eq_true rfl) (List.Perm.refl _) List.perm_append_comm ⟨Nat.le_of_ble_eq_true rfl, Nat.le_of_ble_eq_true rfl⟩ dL_law_253 (fun H locs w => ?_)
  refine x_icR_eq (tgt := 622) hx hb dL_law_256 (by decide) (fun _ => ?_) (fun hne => absurd rfl hne)
  exact kk _ _ _ _ hok2 w _ hl
set_option maxHeartbeats 1000000 in
set_option maxRecDepth 100000 in
theorem lw_learn {p : Program} {l : Launch} {e : Env} {s : State} {m : MethodId} {below : List Frame} {meth : Method} {c : Code} {b L : Nat} {xs : Nat → Int32} {D : va_G} {cI cS : ClassId} {A : Nat → Prop} {x : Nat} {o h t : Nat → Nat} {r q : Nat} {u : Nat → Nat} {tb : Nat} {o2 : Nat → Nat} (hC : lwC p s m meth c b L xs D cI cS A) {i : Nat} (hi : i + 3 ≤ L) (hL : L ≤ 1536) (kk : lwK p l e s m below meth c b D A (okW cI cS x o h t r q u tb o2) x (o2 0) i 622) : lwK p l e s m below meth c b D A (okW cI cS x o h t r q u tb o2) x (o2 0) i 261 := by
  intro H locs w6 w7 hok w ls hl
  obtain ⟨C, hX, hbl, hbA, hZ⟩ := hC
  have hx := C.1.1
  have hb := C.1.2.1
  refine lv_aload_n hx hb dL_law_261 rfl (lv_at hl 1 rfl) ?_
  obtain ⟨rv, v6, v7, c6, c7, hok2⟩ := pr_learn l D cI cS [(cI, .int), (cS, .object RX4)] rfl rfl x o h t r q u tb o2  w6 w7 hok
  obtain ⟨fs6, r6⟩ := okW_6 hok
  obtain ⟨fs7, r7⟩ := okW_7 hok
  refine x_callViB (wr := w7) (w2 := w7 ++ v6) (rest := []) (n := 0) C w hl [] c6 gL_law_X6_learn rfl (by decide +kernel) ⟨Nat.le_of_ble_eq_true rfl, Nat.le_of_ble_eq_true rfl⟩ 0 6 r6 rfl rfl rfl (Nat.le_of_ble_eq_true rfl) (List.Perm.refl _) List.perm_append_comm ⟨Nat.le_of_ble_eq_true rfl, Nat.le_of_ble_eq_true rfl⟩ dL_law_262 (fun H locs w => ?_)
  refine lv_aload_n hx hb dL_law_265 rfl (lv_at hl 2 rfl) ?_
  refine x_callViB (wr := v6) (w2 := v6 ++ v7) (rest := [.int rv]) (n := 0) C w hl [] c7 gL_law_X7_learn rfl (by decide +kernel) ⟨Nat.le_of_ble_eq_true rfl, Nat.le_of_ble_eq_true rfl⟩ 0 7 r7 rfl rfl rfl (Nat.le_of_ble_eq_true rfl) (List.Perm.refl _) List.perm_append_comm ⟨Nat.le_of_ble_eq_true rfl, Nat.le_of_ble_eq_true rfl⟩ dL_law_266 (fun H locs w => ?_)
  refine x_icR_eq (tgt := 622) hx hb dL_law_269 (by decide) (fun _ => ?_) (fun hne => absurd rfl hne)
  exact kk _ _ _ _ hok2 w _ hl
set_option maxHeartbeats 1000000 in
set_option maxRecDepth 100000 in
theorem lw_cut {p : Program} {l : Launch} {e : Env} {s : State} {m : MethodId} {below : List Frame} {meth : Method} {c : Code} {b L : Nat} {xs : Nat → Int32} {D : va_G} {cI cS : ClassId} {A : Nat → Prop} {x : Nat} {o h t : Nat → Nat} {r q : Nat} {u : Nat → Nat} {tb : Nat} {o2 : Nat → Nat} (hC : lwC p s m meth c b L xs D cI cS A) {i : Nat} (hi : i + 3 ≤ L) (hL : L ≤ 1536) (kk : lwK p l e s m below meth c b D A (okW cI cS x o h t r q u tb o2) x (o2 0) i 622) : lwK p l e s m below meth c b D A (okW cI cS x o h t r q u tb o2) x (o2 0) i 274 := by
  intro H locs w6 w7 hok w ls hl
  obtain ⟨C, hX, hbl, hbA, hZ⟩ := hC
  have hx := C.1.1
  have hb := C.1.2.1
  refine lv_aload_n hx hb dL_law_274 rfl (lv_at hl 1 rfl) ?_
  obtain ⟨rv, v6, v7, c6, c7, hok2⟩ := pr_cut l D cI cS [(cI, .int), (cS, .object RX4)] rfl rfl x o h t r q u tb o2  w6 w7 hok
  obtain ⟨fs6, r6⟩ := okW_6 hok
  obtain ⟨fs7, r7⟩ := okW_7 hok
  refine x_callViB (wr := w7) (w2 := w7 ++ v6) (rest := []) (n := 0) C w hl [] c6 gL_law_X6_cut rfl (by decide +kernel) ⟨Nat.le_of_ble_eq_true rfl, Nat.le_of_ble_eq_true rfl⟩ 0 6 r6 rfl rfl rfl (Nat.le_of_ble_eq_true rfl) (List.Perm.refl _) List.perm_append_comm ⟨Nat.le_of_ble_eq_true rfl, Nat.le_of_ble_eq_true rfl⟩ dL_law_275 (fun H locs w => ?_)
  refine lv_aload_n hx hb dL_law_278 rfl (lv_at hl 2 rfl) ?_
  refine x_callViB (wr := v6) (w2 := v6 ++ v7) (rest := [.int rv]) (n := 0) C w hl [] c7 gL_law_X7_cut rfl (by decide +kernel) ⟨Nat.le_of_ble_eq_true rfl, Nat.le_of_ble_eq_true rfl⟩ 0 7 r7 rfl rfl rfl (Nat.le_of_ble_eq_true rfl) (List.Perm.refl _) List.perm_append_comm ⟨Nat.le_of_ble_eq_true rfl, Nat.le_of_ble_eq_true rfl⟩ dL_law_279 (fun H locs w => ?_)
  refine x_icR_eq (tgt := 622) hx hb dL_law_282 (by decide) (fun _ => ?_) (fun hne => absurd rfl hne)
  exact kk _ _ _ _ hok2 w _ hl
set_option maxHeartbeats 1000000 in
set_option maxRecDepth 100000 in
theorem lw_set {p : Program} {l : Launch} {e : Env} {s : State} {m : MethodId} {below : List Frame} {meth : Method} {c : Code} {b L : Nat} {xs : Nat → Int32} {D : va_G} {cI cS : ClassId} {A : Nat → Prop} {x : Nat} {o h t : Nat → Nat} {r q : Nat} {u : Nat → Nat} {tb : Nat} {o2 : Nat → Nat} (hC : lwC p s m meth c b L xs D cI cS A) {i : Nat} (hi : i + 3 ≤ L) (hL : L ≤ 1536) (kk : lwK p l e s m below meth c b D A (okW cI cS x o h t r q u tb o2) x (o2 0) i 622) : lwK p l e s m below meth c b D A (okW cI cS x o h t r q u tb o2) x (o2 0) i 287 := by
  intro H locs w6 w7 hok w ls hl
  obtain ⟨C, hX, hbl, hbA, hZ⟩ := hC
  have hx := C.1.1
  have hb := C.1.2.1
  refine lv_aload_n hx hb dL_law_287 rfl (lv_at hl 1 rfl) ?_
  refine lv_aload_n hx hb dL_law_288 rfl (lv_at hl 0 rfl) ?_
  refine lv_iload_n hx hb dL_law_289 rfl (lv_at hl 3 rfl) ?_
  refine lv_iconst (v := 1) hx hb dL_law_290 (by decide +kernel) ?_
  refine x_iaddN (i := i) (j := 1) hx hb dL_law_291 ?_
  refine va_sld hx hb hX hbl hbA w.2.2.1 (vp_in_nI (n := i + 1) (N := L) (by omega) (by omega)) dL_law_292 ?_
  rw [nI_clamp (n := i + 1) (by omega)]
  refine lv_aload_n hx hb dL_law_293 rfl (lv_at hl 0 rfl) ?_
  refine lv_iload_n hx hb dL_law_294 rfl (lv_at hl 3 rfl) ?_
  refine lv_iconst (v := 2) hx hb dL_law_295 (by decide +kernel) ?_
  refine x_iaddN (i := i) (j := 2) hx hb dL_law_296 ?_
  refine va_sld hx hb hX hbl hbA w.2.2.1 (vp_in_nI (n := i + 2) (N := L) (by omega) (by omega)) dL_law_297 ?_
  rw [nI_clamp (n := i + 2) (by omega)]
  obtain ⟨rv, v6, v7, c6, c7, hok2⟩ := pr_set l D cI cS [(cI, .int), (cS, .object RX4)] rfl rfl x o h t r q u tb o2 (xs (i + 1)) (xs (i + 2)) w6 w7 hok
  obtain ⟨fs6, r6⟩ := okW_6 hok
  obtain ⟨fs7, r7⟩ := okW_7 hok
  refine x_callViZ (wr := w7) (w2 := w7 ++ v6) (rest := []) (n := 2) hZ C w hl [.int (xs (i + 1)), .int (xs (i + 2))] c6 gL_law_X6_set rfl (by decide +kernel) ⟨Nat.le_of_ble_eq_true rfl, Nat.le_of_ble_eq_true rfl⟩ 0 6 r6 rfl rfl rfl (Nat.le_of_ble_eq_true rfl) (List.Perm.refl _) List.perm_append_comm ⟨Nat.le_of_ble_eq_true rfl, Nat.le_of_ble_eq_true rfl⟩ dL_law_298 (fun H locs w => ?_)
  refine lv_aload_n hx hb dL_law_301 rfl (lv_at hl 2 rfl) ?_
  refine lv_aload_n hx hb dL_law_302 rfl (lv_at hl 0 rfl) ?_
  refine lv_iload_n hx hb dL_law_303 rfl (lv_at hl 3 rfl) ?_
  refine lv_iconst (v := 1) hx hb dL_law_304 (by decide +kernel) ?_
  refine x_iaddN (i := i) (j := 1) hx hb dL_law_305 ?_
  refine va_sld hx hb hX hbl hbA w.2.2.1 (vp_in_nI (n := i + 1) (N := L) (by omega) (by omega)) dL_law_306 ?_
  rw [nI_clamp (n := i + 1) (by omega)]
  refine lv_aload_n hx hb dL_law_307 rfl (lv_at hl 0 rfl) ?_
  refine lv_iload_n hx hb dL_law_308 rfl (lv_at hl 3 rfl) ?_
  refine lv_iconst (v := 2) hx hb dL_law_309 (by decide +kernel) ?_
  refine x_iaddN (i := i) (j := 2) hx hb dL_law_310 ?_
  refine va_sld hx hb hX hbl hbA w.2.2.1 (vp_in_nI (n := i + 2) (N := L) (by omega) (by omega)) dL_law_311 ?_
  rw [nI_clamp (n := i + 2) (by omega)]
  refine x_callViB (wr := v6) (w2 := v6 ++ v7) (rest := [.int rv]) (n := 2) C w hl [.int (xs (i + 1)), .int (xs (i + 2))] c7 gL_law_X7_set rfl (by decide +kernel) ⟨Nat.le_of_ble_eq_true rfl, Nat.le_of_ble_eq_true rfl⟩ 0 7 r7 rfl rfl rfl (Nat.le_of_ble_eq_true rfl) (List.Perm.refl _) List.perm_append_comm ⟨Nat.le_of_ble_eq_true rfl, Nat.le_of_ble_eq_true rfl⟩ dL_law_312 (fun H locs w => ?_)
  refine x_icR_eq (tgt := 622) hx hb dL_law_315 (by decide) (fun _ => ?_) (fun hne => absurd rfl hne)
  exact kk _ _ _ _ hok2 w _ hl
set_option maxHeartbeats 1000000 in
set_option maxRecDepth 100000 in
theorem lw_lineOf {p : Program} {l : Launch} {e : Env} {s : State} {m : MethodId} {below : List Frame} {meth : Method} {c : Code} {b L : Nat} {xs : Nat → Int32} {D : va_G} {cI cS : ClassId} {A : Nat → Prop} {x : Nat} {o h t : Nat → Nat} {r q : Nat} {u : Nat → Nat} {tb : Nat} {o2 : Nat → Nat} (hC : lwC p s m meth c b L xs D cI cS A) {i : Nat} (hi : i + 3 ≤ L) (hL : L ≤ 1536) (kk : lwK p l e s m below meth c b D A (okW cI cS x o h t r q u tb o2) x (o2 0) i 622) : lwK p l e s m below meth c b D A (okW cI cS x o h t r q u tb o2) x (o2 0) i 320 := by
  intro H locs w6 w7 hok w ls hl
  obtain ⟨C, hX, hbl, hbA, hZ⟩ := hC
  have hx := C.1.1
  have hb := C.1.2.1
  refine lv_aload_n hx hb dL_law_320 rfl (lv_at hl 1 rfl) ?_
  refine lv_aload_n hx hb dL_law_321 rfl (lv_at hl 0 rfl) ?_
  refine lv_iload_n hx hb dL_law_322 rfl (lv_at hl 3 rfl) ?_
  refine lv_iconst (v := 1) hx hb dL_law_323 (by decide +kernel) ?_
  refine x_iaddN (i := i) (j := 1) hx hb dL_law_324 ?_
  refine va_sld hx hb hX hbl hbA w.2.2.1 (vp_in_nI (n := i + 1) (N := L) (by omega) (by omega)) dL_law_325 ?_
  rw [nI_clamp (n := i + 1) (by omega)]
  refine lv_aload_n hx hb dL_law_326 rfl (lv_at hl 0 rfl) ?_
  refine lv_iload_n hx hb dL_law_327 rfl (lv_at hl 3 rfl) ?_
  refine lv_iconst (v := 2) hx hb dL_law_328 (by decide +kernel) ?_
  refine x_iaddN (i := i) (j := 2) hx hb dL_law_329 ?_
  refine va_sld hx hb hX hbl hbA w.2.2.1 (vp_in_nI (n := i + 2) (N := L) (by omega) (by omega)) dL_law_330 ?_
  rw [nI_clamp (n := i + 2) (by omega)]
  obtain ⟨rv, v6, v7, c6, c7, hok2⟩ := pr_lineOf l D cI cS [(cI, .int), (cS, .object RX4)] rfl rfl x o h t r q u tb o2 (xs (i + 1)) (xs (i + 2)) w6 w7 hok
  obtain ⟨fs6, r6⟩ := okW_6 hok
  obtain ⟨fs7, r7⟩ := okW_7 hok
  refine x_callViB (wr := w7) (w2 := w7 ++ v6) (rest := []) (n := 2) C w hl [.int (xs (i + 1)), .int (xs (i + 2))] c6 gL_law_X6_lineOf rfl (by decide +kernel) ⟨Nat.le_of_ble_eq_true rfl, Nat.le_of_ble_eq_true rfl⟩ 0 6 r6 rfl rfl rfl (Nat.le_of_ble_eq_true rfl) (List.Perm.refl _) List.perm_append_comm ⟨Nat.le_of_ble_eq_true rfl, Nat.le_of_ble_eq_true rfl⟩ dL_law_331 (fun H locs w => ?_)
  refine lv_aload_n hx hb dL_law_334 rfl (lv_at hl 2 rfl) ?_
  refine lv_aload_n hx hb dL_law_335 rfl (lv_at hl 0 rfl) ?_
  refine lv_iload_n hx hb dL_law_336 rfl (lv_at hl 3 rfl) ?_
  refine lv_iconst (v := 1) hx hb dL_law_337 (by decide +kernel) ?_
  refine x_iaddN (i := i) (j := 1) hx hb dL_law_338 ?_
  refine va_sld hx hb hX hbl hbA w.2.2.1 (vp_in_nI (n := i + 1) (N := L) (by omega) (by omega)) dL_law_339 ?_
  rw [nI_clamp (n := i + 1) (by omega)]
  refine lv_aload_n hx hb dL_law_340 rfl (lv_at hl 0 rfl) ?_
  refine lv_iload_n hx hb dL_law_341 rfl (lv_at hl 3 rfl) ?_
  refine lv_iconst (v := 2) hx hb dL_law_342 (by decide +kernel) ?_
  refine x_iaddN (i := i) (j := 2) hx hb dL_law_343 ?_
  refine va_sld hx hb hX hbl hbA w.2.2.1 (vp_in_nI (n := i + 2) (N := L) (by omega) (by omega)) dL_law_344 ?_
  rw [nI_clamp (n := i + 2) (by omega)]
  refine x_callViB (wr := v6) (w2 := v6 ++ v7) (rest := [.int rv]) (n := 2) C w hl [.int (xs (i + 1)), .int (xs (i + 2))] c7 gL_law_X7_lineOf rfl (by decide +kernel) ⟨Nat.le_of_ble_eq_true rfl, Nat.le_of_ble_eq_true rfl⟩ 0 7 r7 rfl rfl rfl (Nat.le_of_ble_eq_true rfl) (List.Perm.refl _) List.perm_append_comm ⟨Nat.le_of_ble_eq_true rfl, Nat.le_of_ble_eq_true rfl⟩ dL_law_345 (fun H locs w => ?_)
  refine x_icR_eq (tgt := 622) hx hb dL_law_348 (by decide) (fun _ => ?_) (fun hne => absurd rfl hne)
  exact kk _ _ _ _ hok2 w _ hl
set_option maxHeartbeats 1000000 in
set_option maxRecDepth 100000 in
theorem lw_placeOf {p : Program} {l : Launch} {e : Env} {s : State} {m : MethodId} {below : List Frame} {meth : Method} {c : Code} {b L : Nat} {xs : Nat → Int32} {D : va_G} {cI cS : ClassId} {A : Nat → Prop} {x : Nat} {o h t : Nat → Nat} {r q : Nat} {u : Nat → Nat} {tb : Nat} {o2 : Nat → Nat} (hC : lwC p s m meth c b L xs D cI cS A) {i : Nat} (hi : i + 3 ≤ L) (hL : L ≤ 1536) (kk : lwK p l e s m below meth c b D A (okW cI cS x o h t r q u tb o2) x (o2 0) i 622) : lwK p l e s m below meth c b D A (okW cI cS x o h t r q u tb o2) x (o2 0) i 353 := by
  intro H locs w6 w7 hok w ls hl
  obtain ⟨C, hX, hbl, hbA, hZ⟩ := hC
  have hx := C.1.1
  have hb := C.1.2.1
  refine lv_aload_n hx hb dL_law_353 rfl (lv_at hl 1 rfl) ?_
  refine lv_aload_n hx hb dL_law_354 rfl (lv_at hl 0 rfl) ?_
  refine lv_iload_n hx hb dL_law_355 rfl (lv_at hl 3 rfl) ?_
  refine lv_iconst (v := 1) hx hb dL_law_356 (by decide +kernel) ?_
  refine x_iaddN (i := i) (j := 1) hx hb dL_law_357 ?_
  refine va_sld hx hb hX hbl hbA w.2.2.1 (vp_in_nI (n := i + 1) (N := L) (by omega) (by omega)) dL_law_358 ?_
  rw [nI_clamp (n := i + 1) (by omega)]
  refine lv_aload_n hx hb dL_law_359 rfl (lv_at hl 0 rfl) ?_
  refine lv_iload_n hx hb dL_law_360 rfl (lv_at hl 3 rfl) ?_
  refine lv_iconst (v := 2) hx hb dL_law_361 (by decide +kernel) ?_
  refine x_iaddN (i := i) (j := 2) hx hb dL_law_362 ?_
  refine va_sld hx hb hX hbl hbA w.2.2.1 (vp_in_nI (n := i + 2) (N := L) (by omega) (by omega)) dL_law_363 ?_
  rw [nI_clamp (n := i + 2) (by omega)]
  obtain ⟨rv, v6, v7, c6, c7, hok2⟩ := pr_placeOf l D cI cS [(cI, .int), (cS, .object RX4)] rfl rfl x o h t r q u tb o2 (xs (i + 1)) (xs (i + 2)) w6 w7 hok
  obtain ⟨fs6, r6⟩ := okW_6 hok
  obtain ⟨fs7, r7⟩ := okW_7 hok
  refine x_callViB (wr := w7) (w2 := w7 ++ v6) (rest := []) (n := 2) C w hl [.int (xs (i + 1)), .int (xs (i + 2))] c6 gL_law_X6_placeOf rfl (by decide +kernel) ⟨Nat.le_of_ble_eq_true rfl, Nat.le_of_ble_eq_true rfl⟩ 0 6 r6 rfl rfl rfl (Nat.le_of_ble_eq_true rfl) (List.Perm.refl _) List.perm_append_comm ⟨Nat.le_of_ble_eq_true rfl, Nat.le_of_ble_eq_true rfl⟩ dL_law_364 (fun H locs w => ?_)
  refine lv_aload_n hx hb dL_law_367 rfl (lv_at hl 2 rfl) ?_
  refine lv_aload_n hx hb dL_law_368 rfl (lv_at hl 0 rfl) ?_
  refine lv_iload_n hx hb dL_law_369 rfl (lv_at hl 3 rfl) ?_
  refine lv_iconst (v := 1) hx hb dL_law_370 (by decide +kernel) ?_
  refine x_iaddN (i := i) (j := 1) hx hb dL_law_371 ?_
  refine va_sld hx hb hX hbl hbA w.2.2.1 (vp_in_nI (n := i + 1) (N := L) (by omega) (by omega)) dL_law_372 ?_
  rw [nI_clamp (n := i + 1) (by omega)]
  refine lv_aload_n hx hb dL_law_373 rfl (lv_at hl 0 rfl) ?_
  refine lv_iload_n hx hb dL_law_374 rfl (lv_at hl 3 rfl) ?_
  refine lv_iconst (v := 2) hx hb dL_law_375 (by decide +kernel) ?_
  refine x_iaddN (i := i) (j := 2) hx hb dL_law_376 ?_
  refine va_sld hx hb hX hbl hbA w.2.2.1 (vp_in_nI (n := i + 2) (N := L) (by omega) (by omega)) dL_law_377 ?_
  rw [nI_clamp (n := i + 2) (by omega)]
  refine x_callViB (wr := v6) (w2 := v6 ++ v7) (rest := [.int rv]) (n := 2) C w hl [.int (xs (i + 1)), .int (xs (i + 2))] c7 gL_law_X7_placeOf rfl (by decide +kernel) ⟨Nat.le_of_ble_eq_true rfl, Nat.le_of_ble_eq_true rfl⟩ 0 7 r7 rfl rfl rfl (Nat.le_of_ble_eq_true rfl) (List.Perm.refl _) List.perm_append_comm ⟨Nat.le_of_ble_eq_true rfl, Nat.le_of_ble_eq_true rfl⟩ dL_law_378 (fun H locs w => ?_)
  refine x_icR_eq (tgt := 622) hx hb dL_law_381 (by decide) (fun _ => ?_) (fun hne => absurd rfl hne)
  exact kk _ _ _ _ hok2 w _ hl
set_option maxHeartbeats 1000000 in
set_option maxRecDepth 100000 in
theorem lw_battery {p : Program} {l : Launch} {e : Env} {s : State} {m : MethodId} {below : List Frame} {meth : Method} {c : Code} {b L : Nat} {xs : Nat → Int32} {D : va_G} {cI cS : ClassId} {A : Nat → Prop} {x : Nat} {o h t : Nat → Nat} {r q : Nat} {u : Nat → Nat} {tb : Nat} {o2 : Nat → Nat} (hC : lwC p s m meth c b L xs D cI cS A) {i : Nat} (hi : i + 3 ≤ L) (hL : L ≤ 1536) (kk : lwK p l e s m below meth c b D A (okW cI cS x o h t r q u tb o2) x (o2 0) i 622) : lwK p l e s m below meth c b D A (okW cI cS x o h t r q u tb o2) x (o2 0) i 386 := by
  intro H locs w6 w7 hok w ls hl
  obtain ⟨C, hX, hbl, hbA, hZ⟩ := hC
  have hx := C.1.1
  have hb := C.1.2.1
  refine lv_aload_n hx hb dL_law_386 rfl (lv_at hl 1 rfl) ?_
  refine lv_aload_n hx hb dL_law_387 rfl (lv_at hl 0 rfl) ?_
  refine lv_iload_n hx hb dL_law_388 rfl (lv_at hl 3 rfl) ?_
  refine lv_iconst (v := 1) hx hb dL_law_389 (by decide +kernel) ?_
  refine x_iaddN (i := i) (j := 1) hx hb dL_law_390 ?_
  refine va_sld hx hb hX hbl hbA w.2.2.1 (vp_in_nI (n := i + 1) (N := L) (by omega) (by omega)) dL_law_391 ?_
  rw [nI_clamp (n := i + 1) (by omega)]
  obtain ⟨rv, v6, v7, c6, c7, hok2⟩ := pr_battery l D cI cS [(cI, .int), (cS, .object RX4)] rfl rfl x o h t r q u tb o2 (xs (i + 1)) w6 w7 hok
  obtain ⟨fs6, r6⟩ := okW_6 hok
  obtain ⟨fs7, r7⟩ := okW_7 hok
  refine x_callViB (wr := w7) (w2 := w7 ++ v6) (rest := []) (n := 1) C w hl [.int (xs (i + 1))] c6 gL_law_X6_battery rfl (by decide +kernel) ⟨Nat.le_of_ble_eq_true rfl, Nat.le_of_ble_eq_true rfl⟩ 0 6 r6 rfl rfl rfl (Nat.le_of_ble_eq_true rfl) (List.Perm.refl _) List.perm_append_comm ⟨Nat.le_of_ble_eq_true rfl, Nat.le_of_ble_eq_true rfl⟩ dL_law_392 (fun H locs w => ?_)
  refine lv_aload_n hx hb dL_law_395 rfl (lv_at hl 2 rfl) ?_
  refine lv_aload_n hx hb dL_law_396 rfl (lv_at hl 0 rfl) ?_
  refine lv_iload_n hx hb dL_law_397 rfl (lv_at hl 3 rfl) ?_
  refine lv_iconst (v := 1) hx hb dL_law_398 (by decide +kernel) ?_
  refine x_iaddN (i := i) (j := 1) hx hb dL_law_399 ?_
  refine va_sld hx hb hX hbl hbA w.2.2.1 (vp_in_nI (n := i + 1) (N := L) (by omega) (by omega)) dL_law_400 ?_
  rw [nI_clamp (n := i + 1) (by omega)]
  refine x_callViB (wr := v6) (w2 := v6 ++ v7) (rest := [.int rv]) (n := 1) C w hl [.int (xs (i + 1))] c7 gL_law_X7_battery rfl (by decide +kernel) ⟨Nat.le_of_ble_eq_true rfl, Nat.le_of_ble_eq_true rfl⟩ 0 7 r7 rfl rfl rfl (Nat.le_of_ble_eq_true rfl) (List.Perm.refl _) List.perm_append_comm ⟨Nat.le_of_ble_eq_true rfl, Nat.le_of_ble_eq_true rfl⟩ dL_law_401 (fun H locs w => ?_)
  refine x_icR_eq (tgt := 622) hx hb dL_law_404 (by decide) (fun _ => ?_) (fun hne => absurd rfl hne)
  exact kk _ _ _ _ hok2 w _ hl
set_option maxHeartbeats 1000000 in
set_option maxRecDepth 100000 in
theorem lw_lines {p : Program} {l : Launch} {e : Env} {s : State} {m : MethodId} {below : List Frame} {meth : Method} {c : Code} {b L : Nat} {xs : Nat → Int32} {D : va_G} {cI cS : ClassId} {A : Nat → Prop} {x : Nat} {o h t : Nat → Nat} {r q : Nat} {u : Nat → Nat} {tb : Nat} {o2 : Nat → Nat} (hC : lwC p s m meth c b L xs D cI cS A) {i : Nat} (hi : i + 3 ≤ L) (hL : L ≤ 1536) (kk : lwK p l e s m below meth c b D A (okW cI cS x o h t r q u tb o2) x (o2 0) i 622) : lwK p l e s m below meth c b D A (okW cI cS x o h t r q u tb o2) x (o2 0) i 409 := by
  intro H locs w6 w7 hok w ls hl
  obtain ⟨C, hX, hbl, hbA, hZ⟩ := hC
  have hx := C.1.1
  have hb := C.1.2.1
  refine lv_aload_n hx hb dL_law_409 rfl (lv_at hl 1 rfl) ?_
  refine lv_aload_n hx hb dL_law_410 rfl (lv_at hl 0 rfl) ?_
  refine lv_iload_n hx hb dL_law_411 rfl (lv_at hl 3 rfl) ?_
  refine lv_iconst (v := 1) hx hb dL_law_412 (by decide +kernel) ?_
  refine x_iaddN (i := i) (j := 1) hx hb dL_law_413 ?_
  refine va_sld hx hb hX hbl hbA w.2.2.1 (vp_in_nI (n := i + 1) (N := L) (by omega) (by omega)) dL_law_414 ?_
  rw [nI_clamp (n := i + 1) (by omega)]
  obtain ⟨rv, v6, v7, c6, c7, hok2⟩ := pr_lines l D cI cS [(cI, .int), (cS, .object RX4)] rfl rfl x o h t r q u tb o2 (xs (i + 1)) w6 w7 hok
  obtain ⟨fs6, r6⟩ := okW_6 hok
  obtain ⟨fs7, r7⟩ := okW_7 hok
  refine x_callViB (wr := w7) (w2 := w7 ++ v6) (rest := []) (n := 1) C w hl [.int (xs (i + 1))] c6 gL_law_X6_lines rfl (by decide +kernel) ⟨Nat.le_of_ble_eq_true rfl, Nat.le_of_ble_eq_true rfl⟩ 0 6 r6 rfl rfl rfl (Nat.le_of_ble_eq_true rfl) (List.Perm.refl _) List.perm_append_comm ⟨Nat.le_of_ble_eq_true rfl, Nat.le_of_ble_eq_true rfl⟩ dL_law_415 (fun H locs w => ?_)
  refine lv_aload_n hx hb dL_law_418 rfl (lv_at hl 2 rfl) ?_
  refine lv_aload_n hx hb dL_law_419 rfl (lv_at hl 0 rfl) ?_
  refine lv_iload_n hx hb dL_law_420 rfl (lv_at hl 3 rfl) ?_
  refine lv_iconst (v := 1) hx hb dL_law_421 (by decide +kernel) ?_
  refine x_iaddN (i := i) (j := 1) hx hb dL_law_422 ?_
  refine va_sld hx hb hX hbl hbA w.2.2.1 (vp_in_nI (n := i + 1) (N := L) (by omega) (by omega)) dL_law_423 ?_
  rw [nI_clamp (n := i + 1) (by omega)]
  refine x_callViB (wr := v6) (w2 := v6 ++ v7) (rest := [.int rv]) (n := 1) C w hl [.int (xs (i + 1))] c7 gL_law_X7_lines rfl (by decide +kernel) ⟨Nat.le_of_ble_eq_true rfl, Nat.le_of_ble_eq_true rfl⟩ 0 7 r7 rfl rfl rfl (Nat.le_of_ble_eq_true rfl) (List.Perm.refl _) List.perm_append_comm ⟨Nat.le_of_ble_eq_true rfl, Nat.le_of_ble_eq_true rfl⟩ dL_law_424 (fun H locs w => ?_)
  refine x_icR_eq (tgt := 622) hx hb dL_law_427 (by decide) (fun _ => ?_) (fun hne => absurd rfl hne)
  exact kk _ _ _ _ hok2 w _ hl
set_option maxHeartbeats 1000000 in
set_option maxRecDepth 100000 in
theorem lw_wouldFlush {p : Program} {l : Launch} {e : Env} {s : State} {m : MethodId} {below : List Frame} {meth : Method} {c : Code} {b L : Nat} {xs : Nat → Int32} {D : va_G} {cI cS : ClassId} {A : Nat → Prop} {x : Nat} {o h t : Nat → Nat} {r q : Nat} {u : Nat → Nat} {tb : Nat} {o2 : Nat → Nat} (hC : lwC p s m meth c b L xs D cI cS A) {i : Nat} (hi : i + 3 ≤ L) (hL : L ≤ 1536) (kk : lwK p l e s m below meth c b D A (okW cI cS x o h t r q u tb o2) x (o2 0) i 622) : lwK p l e s m below meth c b D A (okW cI cS x o h t r q u tb o2) x (o2 0) i 432 := by
  intro H locs w6 w7 hok w ls hl
  obtain ⟨C, hX, hbl, hbA, hZ⟩ := hC
  have hx := C.1.1
  have hb := C.1.2.1
  refine lv_aload_n hx hb dL_law_432 rfl (lv_at hl 1 rfl) ?_
  refine lv_aload_n hx hb dL_law_433 rfl (lv_at hl 0 rfl) ?_
  refine lv_iload_n hx hb dL_law_434 rfl (lv_at hl 3 rfl) ?_
  refine lv_iconst (v := 1) hx hb dL_law_435 (by decide +kernel) ?_
  refine x_iaddN (i := i) (j := 1) hx hb dL_law_436 ?_
  refine va_sld hx hb hX hbl hbA w.2.2.1 (vp_in_nI (n := i + 1) (N := L) (by omega) (by omega)) dL_law_437 ?_
  rw [nI_clamp (n := i + 1) (by omega)]
  obtain ⟨rv, v6, v7, c6, c7, hok2⟩ := pr_wouldFlush l D cI cS [(cI, .int), (cS, .object RX4)] rfl rfl x o h t r q u tb o2 (xs (i + 1)) w6 w7 hok
  obtain ⟨fs6, r6⟩ := okW_6 hok
  obtain ⟨fs7, r7⟩ := okW_7 hok
  refine x_callViB (wr := w7) (w2 := w7 ++ v6) (rest := []) (n := 1) C w hl [.int (xs (i + 1))] c6 gL_law_X6_wouldFlush rfl (by decide +kernel) ⟨Nat.le_of_ble_eq_true rfl, Nat.le_of_ble_eq_true rfl⟩ 0 6 r6 rfl rfl rfl (Nat.le_of_ble_eq_true rfl) (List.Perm.refl _) List.perm_append_comm ⟨Nat.le_of_ble_eq_true rfl, Nat.le_of_ble_eq_true rfl⟩ dL_law_438 (fun H locs w => ?_)
  refine lv_aload_n hx hb dL_law_441 rfl (lv_at hl 2 rfl) ?_
  refine lv_aload_n hx hb dL_law_442 rfl (lv_at hl 0 rfl) ?_
  refine lv_iload_n hx hb dL_law_443 rfl (lv_at hl 3 rfl) ?_
  refine lv_iconst (v := 1) hx hb dL_law_444 (by decide +kernel) ?_
  refine x_iaddN (i := i) (j := 1) hx hb dL_law_445 ?_
  refine va_sld hx hb hX hbl hbA w.2.2.1 (vp_in_nI (n := i + 1) (N := L) (by omega) (by omega)) dL_law_446 ?_
  rw [nI_clamp (n := i + 1) (by omega)]
  refine x_callViB (wr := v6) (w2 := v6 ++ v7) (rest := [.int rv]) (n := 1) C w hl [.int (xs (i + 1))] c7 gL_law_X7_wouldFlush rfl (by decide +kernel) ⟨Nat.le_of_ble_eq_true rfl, Nat.le_of_ble_eq_true rfl⟩ 0 7 r7 rfl rfl rfl (Nat.le_of_ble_eq_true rfl) (List.Perm.refl _) List.perm_append_comm ⟨Nat.le_of_ble_eq_true rfl, Nat.le_of_ble_eq_true rfl⟩ dL_law_447 (fun H locs w => ?_)
  refine x_icR_eq (tgt := 622) hx hb dL_law_450 (by decide) (fun _ => ?_) (fun hne => absurd rfl hne)
  exact kk _ _ _ _ hok2 w _ hl
set_option maxHeartbeats 1000000 in
set_option maxRecDepth 100000 in
theorem lw_critical {p : Program} {l : Launch} {e : Env} {s : State} {m : MethodId} {below : List Frame} {meth : Method} {c : Code} {b L : Nat} {xs : Nat → Int32} {D : va_G} {cI cS : ClassId} {A : Nat → Prop} {x : Nat} {o h t : Nat → Nat} {r q : Nat} {u : Nat → Nat} {tb : Nat} {o2 : Nat → Nat} (hC : lwC p s m meth c b L xs D cI cS A) {i : Nat} (hi : i + 3 ≤ L) (hL : L ≤ 1536) (kk : lwK p l e s m below meth c b D A (okW cI cS x o h t r q u tb o2) x (o2 0) i 622) : lwK p l e s m below meth c b D A (okW cI cS x o h t r q u tb o2) x (o2 0) i 455 := by
  intro H locs w6 w7 hok w ls hl
  obtain ⟨C, hX, hbl, hbA, hZ⟩ := hC
  have hx := C.1.1
  have hb := C.1.2.1
  refine lv_aload_n hx hb dL_law_455 rfl (lv_at hl 1 rfl) ?_
  obtain ⟨rv, v6, v7, c6, c7, hok2⟩ := pr_critical l D cI cS [(cI, .int), (cS, .object RX4)] rfl rfl x o h t r q u tb o2  w6 w7 hok
  obtain ⟨fs6, r6⟩ := okW_6 hok
  obtain ⟨fs7, r7⟩ := okW_7 hok
  refine x_callViB (wr := w7) (w2 := w7 ++ v6) (rest := []) (n := 0) C w hl [] c6 gL_law_X6_critical rfl (by decide +kernel) ⟨Nat.le_of_ble_eq_true rfl, Nat.le_of_ble_eq_true rfl⟩ 0 6 r6 rfl rfl rfl (Nat.le_of_ble_eq_true rfl) (List.Perm.refl _) List.perm_append_comm ⟨Nat.le_of_ble_eq_true rfl, Nat.le_of_ble_eq_true rfl⟩ dL_law_456 (fun H locs w => ?_)
  refine lv_aload_n hx hb dL_law_459 rfl (lv_at hl 2 rfl) ?_
  refine x_callViB (wr := v6) (w2 := v6 ++ v7) (rest := [.int rv]) (n := 0) C w hl [] c7 gL_law_X7_critical rfl (by decide +kernel) ⟨Nat.le_of_ble_eq_true rfl, Nat.le_of_ble_eq_true rfl⟩ 0 7 r7 rfl rfl rfl (Nat.le_of_ble_eq_true rfl) (List.Perm.refl _) List.perm_append_comm ⟨Nat.le_of_ble_eq_true rfl, Nat.le_of_ble_eq_true rfl⟩ dL_law_460 (fun H locs w => ?_)
  refine x_icR_eq (tgt := 622) hx hb dL_law_463 (by decide) (fun _ => ?_) (fun hne => absurd rfl hne)
  exact kk _ _ _ _ hok2 w _ hl
set_option maxHeartbeats 1000000 in
set_option maxRecDepth 100000 in
theorem lw_ticksUntil {p : Program} {l : Launch} {e : Env} {s : State} {m : MethodId} {below : List Frame} {meth : Method} {c : Code} {b L : Nat} {xs : Nat → Int32} {D : va_G} {cI cS : ClassId} {A : Nat → Prop} {x : Nat} {o h t : Nat → Nat} {r q : Nat} {u : Nat → Nat} {tb : Nat} {o2 : Nat → Nat} (hC : lwC p s m meth c b L xs D cI cS A) {i : Nat} (hi : i + 3 ≤ L) (hL : L ≤ 1536) (kk : lwK p l e s m below meth c b D A (okW cI cS x o h t r q u tb o2) x (o2 0) i 622) : lwK p l e s m below meth c b D A (okW cI cS x o h t r q u tb o2) x (o2 0) i 468 := by
  intro H locs w6 w7 hok w ls hl
  obtain ⟨C, hX, hbl, hbA, hZ⟩ := hC
  have hx := C.1.1
  have hb := C.1.2.1
  refine lv_aload_n hx hb dL_law_468 rfl (lv_at hl 1 rfl) ?_
  refine lv_aload_n hx hb dL_law_469 rfl (lv_at hl 0 rfl) ?_
  refine lv_iload_n hx hb dL_law_470 rfl (lv_at hl 3 rfl) ?_
  refine lv_iconst (v := 1) hx hb dL_law_471 (by decide +kernel) ?_
  refine x_iaddN (i := i) (j := 1) hx hb dL_law_472 ?_
  refine va_sld hx hb hX hbl hbA w.2.2.1 (vp_in_nI (n := i + 1) (N := L) (by omega) (by omega)) dL_law_473 ?_
  rw [nI_clamp (n := i + 1) (by omega)]
  obtain ⟨rv, v6, v7, c6, c7, hok2⟩ := pr_ticksUntil l D cI cS [(cI, .int), (cS, .object RX4)] rfl rfl x o h t r q u tb o2 (xs (i + 1)) w6 w7 hok
  obtain ⟨fs6, r6⟩ := okW_6 hok
  obtain ⟨fs7, r7⟩ := okW_7 hok
  refine x_callViB (wr := w7) (w2 := w7 ++ v6) (rest := []) (n := 1) C w hl [.int (xs (i + 1))] c6 gL_law_X6_ticksUntil rfl (by decide +kernel) ⟨Nat.le_of_ble_eq_true rfl, Nat.le_of_ble_eq_true rfl⟩ 0 6 r6 rfl rfl rfl (Nat.le_of_ble_eq_true rfl) (List.Perm.refl _) List.perm_append_comm ⟨Nat.le_of_ble_eq_true rfl, Nat.le_of_ble_eq_true rfl⟩ dL_law_474 (fun H locs w => ?_)
  refine lv_aload_n hx hb dL_law_477 rfl (lv_at hl 2 rfl) ?_
  refine lv_aload_n hx hb dL_law_478 rfl (lv_at hl 0 rfl) ?_
  refine lv_iload_n hx hb dL_law_479 rfl (lv_at hl 3 rfl) ?_
  refine lv_iconst (v := 1) hx hb dL_law_480 (by decide +kernel) ?_
  refine x_iaddN (i := i) (j := 1) hx hb dL_law_481 ?_
  refine va_sld hx hb hX hbl hbA w.2.2.1 (vp_in_nI (n := i + 1) (N := L) (by omega) (by omega)) dL_law_482 ?_
  rw [nI_clamp (n := i + 1) (by omega)]
  refine x_callViB (wr := v6) (w2 := v6 ++ v7) (rest := [.int rv]) (n := 1) C w hl [.int (xs (i + 1))] c7 gL_law_X7_ticksUntil rfl (by decide +kernel) ⟨Nat.le_of_ble_eq_true rfl, Nat.le_of_ble_eq_true rfl⟩ 0 7 r7 rfl rfl rfl (Nat.le_of_ble_eq_true rfl) (List.Perm.refl _) List.perm_append_comm ⟨Nat.le_of_ble_eq_true rfl, Nat.le_of_ble_eq_true rfl⟩ dL_law_483 (fun H locs w => ?_)
  refine x_icR_eq (tgt := 622) hx hb dL_law_486 (by decide) (fun _ => ?_) (fun hne => absurd rfl hne)
  exact kk _ _ _ _ hok2 w _ hl
set_option maxHeartbeats 1000000 in
set_option maxRecDepth 100000 in
theorem lw_pair {p : Program} {l : Launch} {e : Env} {s : State} {m : MethodId} {below : List Frame} {meth : Method} {c : Code} {b L : Nat} {xs : Nat → Int32} {D : va_G} {cI cS : ClassId} {A : Nat → Prop} {x : Nat} {o h t : Nat → Nat} {r q : Nat} {u : Nat → Nat} {tb : Nat} {o2 : Nat → Nat} (hC : lwC p s m meth c b L xs D cI cS A) {i : Nat} (hi : i + 3 ≤ L) (hL : L ≤ 1536) (kk : lwK p l e s m below meth c b D A (okW cI cS x o h t r q u tb o2) x (o2 0) i 622) : lwK p l e s m below meth c b D A (okW cI cS x o h t r q u tb o2) x (o2 0) i 491 := by
  intro H locs w6 w7 hok w ls hl
  obtain ⟨C, hX, hbl, hbA, hZ⟩ := hC
  have hx := C.1.1
  have hb := C.1.2.1
  refine lv_aload_n hx hb dL_law_491 rfl (lv_at hl 1 rfl) ?_
  refine lv_aload_n hx hb dL_law_492 rfl (lv_at hl 0 rfl) ?_
  refine lv_iload_n hx hb dL_law_493 rfl (lv_at hl 3 rfl) ?_
  refine lv_iconst (v := 1) hx hb dL_law_494 (by decide +kernel) ?_
  refine x_iaddN (i := i) (j := 1) hx hb dL_law_495 ?_
  refine va_sld hx hb hX hbl hbA w.2.2.1 (vp_in_nI (n := i + 1) (N := L) (by omega) (by omega)) dL_law_496 ?_
  rw [nI_clamp (n := i + 1) (by omega)]
  obtain ⟨rv, v6, v7, c6, c7, hok2⟩ := pr_pair l D cI cS [(cI, .int), (cS, .object RX4)] rfl rfl x o h t r q u tb o2 (xs (i + 1)) w6 w7 hok
  obtain ⟨fs6, r6⟩ := okW_6 hok
  obtain ⟨fs7, r7⟩ := okW_7 hok
  refine x_callViB (wr := w7) (w2 := w7 ++ v6) (rest := []) (n := 1) C w hl [.int (xs (i + 1))] c6 gL_law_X6_pair rfl (by decide +kernel) ⟨Nat.le_of_ble_eq_true rfl, Nat.le_of_ble_eq_true rfl⟩ 0 6 r6 rfl rfl rfl (Nat.le_of_ble_eq_true rfl) (List.Perm.refl _) List.perm_append_comm ⟨Nat.le_of_ble_eq_true rfl, Nat.le_of_ble_eq_true rfl⟩ dL_law_497 (fun H locs w => ?_)
  refine lv_aload_n hx hb dL_law_500 rfl (lv_at hl 2 rfl) ?_
  refine lv_aload_n hx hb dL_law_501 rfl (lv_at hl 0 rfl) ?_
  refine lv_iload_n hx hb dL_law_502 rfl (lv_at hl 3 rfl) ?_
  refine lv_iconst (v := 1) hx hb dL_law_503 (by decide +kernel) ?_
  refine x_iaddN (i := i) (j := 1) hx hb dL_law_504 ?_
  refine va_sld hx hb hX hbl hbA w.2.2.1 (vp_in_nI (n := i + 1) (N := L) (by omega) (by omega)) dL_law_505 ?_
  rw [nI_clamp (n := i + 1) (by omega)]
  refine x_callViB (wr := v6) (w2 := v6 ++ v7) (rest := [.int rv]) (n := 1) C w hl [.int (xs (i + 1))] c7 gL_law_X7_pair rfl (by decide +kernel) ⟨Nat.le_of_ble_eq_true rfl, Nat.le_of_ble_eq_true rfl⟩ 0 7 r7 rfl rfl rfl (Nat.le_of_ble_eq_true rfl) (List.Perm.refl _) List.perm_append_comm ⟨Nat.le_of_ble_eq_true rfl, Nat.le_of_ble_eq_true rfl⟩ dL_law_506 (fun H locs w => ?_)
  refine x_icR_eq (tgt := 622) hx hb dL_law_509 (by decide) (fun _ => ?_) (fun hne => absurd rfl hne)
  exact kk _ _ _ _ hok2 w _ hl
set_option maxHeartbeats 1000000 in
set_option maxRecDepth 100000 in
theorem lw_count {p : Program} {l : Launch} {e : Env} {s : State} {m : MethodId} {below : List Frame} {meth : Method} {c : Code} {b L : Nat} {xs : Nat → Int32} {D : va_G} {cI cS : ClassId} {A : Nat → Prop} {x : Nat} {o h t : Nat → Nat} {r q : Nat} {u : Nat → Nat} {tb : Nat} {o2 : Nat → Nat} (hC : lwC p s m meth c b L xs D cI cS A) {i : Nat} (hi : i + 3 ≤ L) (hL : L ≤ 1536) (kk : lwK p l e s m below meth c b D A (okW cI cS x o h t r q u tb o2) x (o2 0) i 622) : lwK p l e s m below meth c b D A (okW cI cS x o h t r q u tb o2) x (o2 0) i 514 := by
  intro H locs w6 w7 hok w ls hl
  obtain ⟨C, hX, hbl, hbA, hZ⟩ := hC
  have hx := C.1.1
  have hb := C.1.2.1
  refine lv_aload_n hx hb dL_law_514 rfl (lv_at hl 1 rfl) ?_
  refine lv_aload_n hx hb dL_law_515 rfl (lv_at hl 0 rfl) ?_
  refine lv_iload_n hx hb dL_law_516 rfl (lv_at hl 3 rfl) ?_
  refine lv_iconst (v := 1) hx hb dL_law_517 (by decide +kernel) ?_
  refine x_iaddN (i := i) (j := 1) hx hb dL_law_518 ?_
  refine va_sld hx hb hX hbl hbA w.2.2.1 (vp_in_nI (n := i + 1) (N := L) (by omega) (by omega)) dL_law_519 ?_
  rw [nI_clamp (n := i + 1) (by omega)]
  obtain ⟨rv, v6, v7, c6, c7, hok2⟩ := pr_count l D cI cS [(cI, .int), (cS, .object RX4)] rfl rfl x o h t r q u tb o2 (xs (i + 1)) w6 w7 hok
  obtain ⟨fs6, r6⟩ := okW_6 hok
  obtain ⟨fs7, r7⟩ := okW_7 hok
  refine x_callViB (wr := w7) (w2 := w7 ++ v6) (rest := []) (n := 1) C w hl [.int (xs (i + 1))] c6 gL_law_X6_count rfl (by decide +kernel) ⟨Nat.le_of_ble_eq_true rfl, Nat.le_of_ble_eq_true rfl⟩ 0 6 r6 rfl rfl rfl (Nat.le_of_ble_eq_true rfl) (List.Perm.refl _) List.perm_append_comm ⟨Nat.le_of_ble_eq_true rfl, Nat.le_of_ble_eq_true rfl⟩ dL_law_520 (fun H locs w => ?_)
  refine lv_aload_n hx hb dL_law_523 rfl (lv_at hl 2 rfl) ?_
  refine lv_aload_n hx hb dL_law_524 rfl (lv_at hl 0 rfl) ?_
  refine lv_iload_n hx hb dL_law_525 rfl (lv_at hl 3 rfl) ?_
  refine lv_iconst (v := 1) hx hb dL_law_526 (by decide +kernel) ?_
  refine x_iaddN (i := i) (j := 1) hx hb dL_law_527 ?_
  refine va_sld hx hb hX hbl hbA w.2.2.1 (vp_in_nI (n := i + 1) (N := L) (by omega) (by omega)) dL_law_528 ?_
  rw [nI_clamp (n := i + 1) (by omega)]
  refine x_callViB (wr := v6) (w2 := v6 ++ v7) (rest := [.int rv]) (n := 1) C w hl [.int (xs (i + 1))] c7 gL_law_X7_count rfl (by decide +kernel) ⟨Nat.le_of_ble_eq_true rfl, Nat.le_of_ble_eq_true rfl⟩ 0 7 r7 rfl rfl rfl (Nat.le_of_ble_eq_true rfl) (List.Perm.refl _) List.perm_append_comm ⟨Nat.le_of_ble_eq_true rfl, Nat.le_of_ble_eq_true rfl⟩ dL_law_529 (fun H locs w => ?_)
  refine x_icR_eq (tgt := 622) hx hb dL_law_532 (by decide) (fun _ => ?_) (fun hne => absurd rfl hne)
  exact kk _ _ _ _ hok2 w _ hl
set_option maxHeartbeats 1000000 in
set_option maxRecDepth 100000 in
theorem lw_undo {p : Program} {l : Launch} {e : Env} {s : State} {m : MethodId} {below : List Frame} {meth : Method} {c : Code} {b L : Nat} {xs : Nat → Int32} {D : va_G} {cI cS : ClassId} {A : Nat → Prop} {x : Nat} {o h t : Nat → Nat} {r q : Nat} {u : Nat → Nat} {tb : Nat} {o2 : Nat → Nat} (hC : lwC p s m meth c b L xs D cI cS A) {i : Nat} (hi : i + 3 ≤ L) (hL : L ≤ 1536) (kk : lwK p l e s m below meth c b D A (okW cI cS x o h t r q u tb o2) x (o2 0) i 622) : lwK p l e s m below meth c b D A (okW cI cS x o h t r q u tb o2) x (o2 0) i 537 := by
  intro H locs w6 w7 hok w ls hl
  obtain ⟨C, hX, hbl, hbA, hZ⟩ := hC
  have hx := C.1.1
  have hb := C.1.2.1
  refine lv_aload_n hx hb dL_law_537 rfl (lv_at hl 1 rfl) ?_
  obtain ⟨rv, v6, v7, c6, c7, hok2⟩ := pr_undo l D cI cS [(cI, .int), (cS, .object RX4)] rfl rfl x o h t r q u tb o2  w6 w7 hok
  obtain ⟨fs6, r6⟩ := okW_6 hok
  obtain ⟨fs7, r7⟩ := okW_7 hok
  refine x_callViB (wr := w7) (w2 := w7 ++ v6) (rest := []) (n := 0) C w hl [] c6 gL_law_X6_undo rfl (by decide +kernel) ⟨Nat.le_of_ble_eq_true rfl, Nat.le_of_ble_eq_true rfl⟩ 0 6 r6 rfl rfl rfl (Nat.le_of_ble_eq_true rfl) (List.Perm.refl _) List.perm_append_comm ⟨Nat.le_of_ble_eq_true rfl, Nat.le_of_ble_eq_true rfl⟩ dL_law_538 (fun H locs w => ?_)
  refine lv_aload_n hx hb dL_law_541 rfl (lv_at hl 2 rfl) ?_
  refine x_callViB (wr := v6) (w2 := v6 ++ v7) (rest := [.int rv]) (n := 0) C w hl [] c7 gL_law_X7_undo rfl (by decide +kernel) ⟨Nat.le_of_ble_eq_true rfl, Nat.le_of_ble_eq_true rfl⟩ 0 7 r7 rfl rfl rfl (Nat.le_of_ble_eq_true rfl) (List.Perm.refl _) List.perm_append_comm ⟨Nat.le_of_ble_eq_true rfl, Nat.le_of_ble_eq_true rfl⟩ dL_law_542 (fun H locs w => ?_)
  refine x_icR_eq (tgt := 622) hx hb dL_law_545 (by decide) (fun _ => ?_) (fun hne => absurd rfl hne)
  exact kk _ _ _ _ hok2 w _ hl
set_option maxHeartbeats 1000000 in
set_option maxRecDepth 100000 in
theorem lw_type {p : Program} {l : Launch} {e : Env} {s : State} {m : MethodId} {below : List Frame} {meth : Method} {c : Code} {b L : Nat} {xs : Nat → Int32} {D : va_G} {cI cS : ClassId} {A : Nat → Prop} {x : Nat} {o h t : Nat → Nat} {r q : Nat} {u : Nat → Nat} {tb : Nat} {o2 : Nat → Nat} (hC : lwC p s m meth c b L xs D cI cS A) {i : Nat} (hi : i + 3 ≤ L) (hL : L ≤ 1536) (kk : lwK p l e s m below meth c b D A (okW cI cS x o h t r q u tb o2) x (o2 0) i 622) : lwK p l e s m below meth c b D A (okW cI cS x o h t r q u tb o2) x (o2 0) i 550 := by
  intro H locs w6 w7 hok w ls hl
  obtain ⟨C, hX, hbl, hbA, hZ⟩ := hC
  have hx := C.1.1
  have hb := C.1.2.1
  refine lv_aload_n hx hb dL_law_550 rfl (lv_at hl 1 rfl) ?_
  refine lv_aload_n hx hb dL_law_551 rfl (lv_at hl 0 rfl) ?_
  refine lv_iload_n hx hb dL_law_552 rfl (lv_at hl 3 rfl) ?_
  refine lv_iconst (v := 1) hx hb dL_law_553 (by decide +kernel) ?_
  refine x_iaddN (i := i) (j := 1) hx hb dL_law_554 ?_
  refine va_sld hx hb hX hbl hbA w.2.2.1 (vp_in_nI (n := i + 1) (N := L) (by omega) (by omega)) dL_law_555 ?_
  rw [nI_clamp (n := i + 1) (by omega)]
  obtain ⟨rv, v6, v7, c6, c7, hok2⟩ := pr_type l D cI cS [(cI, .int), (cS, .object RX4)] rfl rfl x o h t r q u tb o2 (xs (i + 1)) w6 w7 hok
  obtain ⟨fs6, r6⟩ := okW_6 hok
  obtain ⟨fs7, r7⟩ := okW_7 hok
  refine x_callViB (wr := w7) (w2 := w7 ++ v6) (rest := []) (n := 1) C w hl [.int (xs (i + 1))] c6 gL_law_X6_type rfl (by decide +kernel) ⟨Nat.le_of_ble_eq_true rfl, Nat.le_of_ble_eq_true rfl⟩ 0 6 r6 rfl rfl rfl (Nat.le_of_ble_eq_true rfl) (List.Perm.refl _) List.perm_append_comm ⟨Nat.le_of_ble_eq_true rfl, Nat.le_of_ble_eq_true rfl⟩ dL_law_556 (fun H locs w => ?_)
  refine lv_aload_n hx hb dL_law_559 rfl (lv_at hl 2 rfl) ?_
  refine lv_aload_n hx hb dL_law_560 rfl (lv_at hl 0 rfl) ?_
  refine lv_iload_n hx hb dL_law_561 rfl (lv_at hl 3 rfl) ?_
  refine lv_iconst (v := 1) hx hb dL_law_562 (by decide +kernel) ?_
  refine x_iaddN (i := i) (j := 1) hx hb dL_law_563 ?_
  refine va_sld hx hb hX hbl hbA w.2.2.1 (vp_in_nI (n := i + 1) (N := L) (by omega) (by omega)) dL_law_564 ?_
  rw [nI_clamp (n := i + 1) (by omega)]
  refine x_callViB (wr := v6) (w2 := v6 ++ v7) (rest := [.int rv]) (n := 1) C w hl [.int (xs (i + 1))] c7 gL_law_X7_type rfl (by decide +kernel) ⟨Nat.le_of_ble_eq_true rfl, Nat.le_of_ble_eq_true rfl⟩ 0 7 r7 rfl rfl rfl (Nat.le_of_ble_eq_true rfl) (List.Perm.refl _) List.perm_append_comm ⟨Nat.le_of_ble_eq_true rfl, Nat.le_of_ble_eq_true rfl⟩ dL_law_565 (fun H locs w => ?_)
  refine x_icR_eq (tgt := 622) hx hb dL_law_568 (by decide) (fun _ => ?_) (fun hne => absurd rfl hne)
  exact kk _ _ _ _ hok2 w _ hl
set_option maxHeartbeats 1000000 in
set_option maxRecDepth 100000 in
theorem lw_clearText {p : Program} {l : Launch} {e : Env} {s : State} {m : MethodId} {below : List Frame} {meth : Method} {c : Code} {b L : Nat} {xs : Nat → Int32} {D : va_G} {cI cS : ClassId} {A : Nat → Prop} {x : Nat} {o h t : Nat → Nat} {r q : Nat} {u : Nat → Nat} {tb : Nat} {o2 : Nat → Nat} (hC : lwC p s m meth c b L xs D cI cS A) {i : Nat} (hi : i + 3 ≤ L) (hL : L ≤ 1536) (kk : lwK p l e s m below meth c b D A (okW cI cS x o h t r q u tb o2) x (o2 0) i 622) : lwK p l e s m below meth c b D A (okW cI cS x o h t r q u tb o2) x (o2 0) i 573 := by
  intro H locs w6 w7 hok w ls hl
  obtain ⟨C, hX, hbl, hbA, hZ⟩ := hC
  have hx := C.1.1
  have hb := C.1.2.1
  refine lv_aload_n hx hb dL_law_573 rfl (lv_at hl 1 rfl) ?_
  obtain ⟨rv, v6, v7, c6, c7, hok2⟩ := pr_clearText l D cI cS [(cI, .int), (cS, .object RX4)] rfl rfl x o h t r q u tb o2  w6 w7 hok
  obtain ⟨fs6, r6⟩ := okW_6 hok
  obtain ⟨fs7, r7⟩ := okW_7 hok
  refine x_callViB (wr := w7) (w2 := w7 ++ v6) (rest := []) (n := 0) C w hl [] c6 gL_law_X6_clearText rfl (by decide +kernel) ⟨Nat.le_of_ble_eq_true rfl, Nat.le_of_ble_eq_true rfl⟩ 0 6 r6 rfl rfl rfl (Nat.le_of_ble_eq_true rfl) (List.Perm.refl _) List.perm_append_comm ⟨Nat.le_of_ble_eq_true rfl, Nat.le_of_ble_eq_true rfl⟩ dL_law_574 (fun H locs w => ?_)
  refine lv_aload_n hx hb dL_law_577 rfl (lv_at hl 2 rfl) ?_
  refine x_callViB (wr := v6) (w2 := v6 ++ v7) (rest := [.int rv]) (n := 0) C w hl [] c7 gL_law_X7_clearText rfl (by decide +kernel) ⟨Nat.le_of_ble_eq_true rfl, Nat.le_of_ble_eq_true rfl⟩ 0 7 r7 rfl rfl rfl (Nat.le_of_ble_eq_true rfl) (List.Perm.refl _) List.perm_append_comm ⟨Nat.le_of_ble_eq_true rfl, Nat.le_of_ble_eq_true rfl⟩ dL_law_578 (fun H locs w => ?_)
  refine x_icR_eq (tgt := 622) hx hb dL_law_581 (by decide) (fun _ => ?_) (fun hne => absurd rfl hne)
  exact kk _ _ _ _ hok2 w _ hl
set_option maxHeartbeats 1000000 in
set_option maxRecDepth 100000 in
theorem lw_fault {p : Program} {l : Launch} {e : Env} {s : State} {m : MethodId} {below : List Frame} {meth : Method} {c : Code} {b L : Nat} {xs : Nat → Int32} {D : va_G} {cI cS : ClassId} {A : Nat → Prop} {x : Nat} {o h t : Nat → Nat} {r q : Nat} {u : Nat → Nat} {tb : Nat} {o2 : Nat → Nat} (hC : lwC p s m meth c b L xs D cI cS A) {i : Nat} (hi : i + 3 ≤ L) (hL : L ≤ 1536) (kk : lwK p l e s m below meth c b D A (okW cI cS x o h t r q u tb o2) x (o2 0) i 622) : lwK p l e s m below meth c b D A (okW cI cS x o h t r q u tb o2) x (o2 0) i 586 := by
  intro H locs w6 w7 hok w ls hl
  obtain ⟨C, hX, hbl, hbA, hZ⟩ := hC
  have hx := C.1.1
  have hb := C.1.2.1
  refine lv_aload_n hx hb dL_law_586 rfl (lv_at hl 1 rfl) ?_
  refine lv_aload_n hx hb dL_law_587 rfl (lv_at hl 0 rfl) ?_
  refine lv_iload_n hx hb dL_law_588 rfl (lv_at hl 3 rfl) ?_
  refine lv_iconst (v := 1) hx hb dL_law_589 (by decide +kernel) ?_
  refine x_iaddN (i := i) (j := 1) hx hb dL_law_590 ?_
  refine va_sld hx hb hX hbl hbA w.2.2.1 (vp_in_nI (n := i + 1) (N := L) (by omega) (by omega)) dL_law_591 ?_
  rw [nI_clamp (n := i + 1) (by omega)]
  obtain ⟨rv, v6, v7, c6, c7, hok2⟩ := pr_fault l D cI cS [(cI, .int), (cS, .object RX4)] rfl rfl x o h t r q u tb o2 (xs (i + 1)) w6 w7 hok
  obtain ⟨fs6, r6⟩ := okW_6 hok
  obtain ⟨fs7, r7⟩ := okW_7 hok
  refine x_callViB (wr := w7) (w2 := w7 ++ v6) (rest := []) (n := 1) C w hl [.int (xs (i + 1))] c6 gL_law_X6_fault rfl (by decide +kernel) ⟨Nat.le_of_ble_eq_true rfl, Nat.le_of_ble_eq_true rfl⟩ 0 6 r6 rfl rfl rfl (Nat.le_of_ble_eq_true rfl) (List.Perm.refl _) List.perm_append_comm ⟨Nat.le_of_ble_eq_true rfl, Nat.le_of_ble_eq_true rfl⟩ dL_law_592 (fun H locs w => ?_)
  refine lv_aload_n hx hb dL_law_595 rfl (lv_at hl 2 rfl) ?_
  refine lv_aload_n hx hb dL_law_596 rfl (lv_at hl 0 rfl) ?_
  refine lv_iload_n hx hb dL_law_597 rfl (lv_at hl 3 rfl) ?_
  refine lv_iconst (v := 1) hx hb dL_law_598 (by decide +kernel) ?_
  refine x_iaddN (i := i) (j := 1) hx hb dL_law_599 ?_
  refine va_sld hx hb hX hbl hbA w.2.2.1 (vp_in_nI (n := i + 1) (N := L) (by omega) (by omega)) dL_law_600 ?_
  rw [nI_clamp (n := i + 1) (by omega)]
  refine x_callViB (wr := v6) (w2 := v6 ++ v7) (rest := [.int rv]) (n := 1) C w hl [.int (xs (i + 1))] c7 gL_law_X7_fault rfl (by decide +kernel) ⟨Nat.le_of_ble_eq_true rfl, Nat.le_of_ble_eq_true rfl⟩ 0 7 r7 rfl rfl rfl (Nat.le_of_ble_eq_true rfl) (List.Perm.refl _) List.perm_append_comm ⟨Nat.le_of_ble_eq_true rfl, Nat.le_of_ble_eq_true rfl⟩ dL_law_601 (fun H locs w => ?_)
  refine x_icR_eq (tgt := 622) hx hb dL_law_604 (by decide) (fun _ => ?_) (fun hne => absurd rfl hne)
  exact kk _ _ _ _ hok2 w _ hl
set_option maxHeartbeats 1000000 in
set_option maxRecDepth 100000 in
theorem lw_play {p : Program} {l : Launch} {e : Env} {s : State} {m : MethodId} {below : List Frame} {meth : Method} {c : Code} {b L : Nat} {xs : Nat → Int32} {D : va_G} {cI cS : ClassId} {A : Nat → Prop} {x : Nat} {o h t : Nat → Nat} {r q : Nat} {u : Nat → Nat} {tb : Nat} {o2 : Nat → Nat} (hC : lwC p s m meth c b L xs D cI cS A) {i : Nat} (hi : i + 3 ≤ L) (hL : L ≤ 1536) (kk : lwK p l e s m below meth c b D A (okW cI cS x o h t r q u tb o2) x (o2 0) i 622) : lwK p l e s m below meth c b D A (okW cI cS x o h t r q u tb o2) x (o2 0) i 609 := by
  intro H locs w6 w7 hok w ls hl
  obtain ⟨C, hX, hbl, hbA, hZ⟩ := hC
  have hx := C.1.1
  have hb := C.1.2.1
  refine lv_aload_n hx hb dL_law_609 rfl (lv_at hl 1 rfl) ?_
  obtain ⟨rv, v6, v7, c6, c7, hok2⟩ := pr_play l D cI cS [(cI, .int), (cS, .object RX4)] rfl rfl x o h t r q u tb o2  w6 w7 hok
  obtain ⟨fs6, r6⟩ := okW_6 hok
  obtain ⟨fs7, r7⟩ := okW_7 hok
  refine x_callViB (wr := w7) (w2 := w7 ++ v6) (rest := []) (n := 0) C w hl [] c6 gL_law_X6_play rfl (by decide +kernel) ⟨Nat.le_of_ble_eq_true rfl, Nat.le_of_ble_eq_true rfl⟩ 0 6 r6 rfl rfl rfl (Nat.le_of_ble_eq_true rfl) (List.Perm.refl _) List.perm_append_comm ⟨Nat.le_of_ble_eq_true rfl, Nat.le_of_ble_eq_true rfl⟩ dL_law_610 (fun H locs w => ?_)
  refine lv_aload_n hx hb dL_law_613 rfl (lv_at hl 2 rfl) ?_
  refine x_callViB (wr := v6) (w2 := v6 ++ v7) (rest := [.int rv]) (n := 0) C w hl [] c7 gL_law_X7_play rfl (by decide +kernel) ⟨Nat.le_of_ble_eq_true rfl, Nat.le_of_ble_eq_true rfl⟩ 0 7 r7 rfl rfl rfl (Nat.le_of_ble_eq_true rfl) (List.Perm.refl _) List.perm_append_comm ⟨Nat.le_of_ble_eq_true rfl, Nat.le_of_ble_eq_true rfl⟩ dL_law_614 (fun H locs w => ?_)
  refine x_icR_eq (tgt := 622) hx hb dL_law_617 (by decide) (fun _ => ?_) (fun hne => absurd rfl hne)
  exact kk _ _ _ _ hok2 w _ hl
