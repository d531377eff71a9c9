/-! ===== worlds of many pieces: pieces are moved whole ===== -/
theorem va_D.pw {A : Nat → Prop} {ws : va_W} (h : va_D A ws) : ws.Pairwise (fun a b => ¬ a.1 = b.1) := by
  rw [List.pairwise_iff_getElem]
  intro i j hi hj hij e
  have := h.1 i j ws[i] ws[j] (List.getElem?_eq_getElem hi) (List.getElem?_eq_getElem hj) e
  omega
theorem va_D.of_pw {A : Nat → Prop} {ws : va_W} (h : ws.Pairwise (fun a b => ¬ a.1 = b.1)) (hA : ∀ q ∈ ws, A q.1) : va_D A ws := by
  rw [List.pairwise_iff_getElem] at h
  refine ⟨fun i j p q hi hj e => ?_, fun k q hk => hA q (List.mem_of_getElem? hk)⟩
  obtain ⟨hi1, hi2⟩ := List.getElem?_eq_some_iff.mp hi
  obtain ⟨hj1, hj2⟩ := List.getElem?_eq_some_iff.mp hj
  rcases Nat.lt_trichotomy i j with z | z | z
  · exact absurd (by rw [hi2, hj2]; exact e) (h i j hi1 hj1 z)
  · exact z
  · exact absurd (by rw [hi2, hj2]; exact e.symm) (h j i hj1 hi1 z)
theorem va_P.perm {D : va_G} {cl : List vw_C} {ws ws2 : va_W} {H : Heap} (h : va_P D cl ws H) (hp : ws.Perm ws2) : va_P D cl ws2 H := by
  intro k q hk
  obtain ⟨i, hi⟩ := List.getElem?_of_mem (hp.mem_iff.mpr (List.mem_of_getElem? hk))
  exact h i q hi
theorem va_D.perm {A : Nat → Prop} {ws ws2 : va_W} (h : va_D A ws) (hp : ws.Perm ws2) : va_D A ws2 := by
  refine va_D.of_pw ((hp.pairwise_iff (fun {a b} hab e => hab e.symm)).mp h.pw) (fun q hq => ?_)
  obtain ⟨i, hi⟩ := List.getElem?_of_mem (hp.mem_iff.mpr hq)
  exact h.2 i q hi
theorem x_perm {D : va_G} {A : Nat → Prop} {H0 H : Heap} {ws ws2 : va_W} {locs : List Loc} (hp : ws.Perm ws2) (w : xW D A H0 ws H locs) : xW D A H0 ws2 H locs := ⟨w.1.perm hp, w.2.1.perm hp, w.2.2⟩
/-- a piece of a world -/
theorem x_pc {D : va_G} {A : Nat → Prop} {H0 H : Heap} {L : List va_W} {b : va_W} {locs : List Loc} (w : xW D A H0 (List.flatten L) H locs) (j : Nat) (hj : L[j]? = some b) : xW D A H0 b H locs := by
  have hm : b ∈ L := List.mem_of_getElem? hj
  have hsub : b.Sublist (List.flatten L) := List.sublist_flatten_of_mem hm
  refine ⟨fun k q hk => ?_, va_D.of_pw (w.2.1.pw.sublist hsub) (fun q hq => ?_), w.2.2⟩
  · obtain ⟨i, hi⟩ := List.getElem?_of_mem (hsub.subset (List.mem_of_getElem? hk))
    exact w.1 i q hi
  · obtain ⟨i, hi⟩ := List.getElem?_of_mem (hsub.subset hq)
    exact w.2.1.2 i q hi
theorem bl_range {α : Type} (L : List α) : (List.range L.length).filterMap (fun i => L[i]?) = L := by
  induction L with
  | nil => rfl
  | cons a L ih =>
    rw [List.length_cons, List.range_succ_eq_map, List.filterMap_cons, List.filterMap_map]
    show a :: List.filterMap ((fun i => (a :: L)[i]?) ∘ Nat.succ) (List.range L.length) = a :: L
    have e : ((fun i => (a :: L)[i]?) ∘ Nat.succ) = (fun i => L[i]?) := by
      funext i
      show (a :: L)[i + 1]? = L[i]?
      exact List.getElem?_cons_succ
    rw [e, ih]
theorem bl_of (L L2 : List va_W) (is : List Nat) (n : Nat) (hn : L.length = n) (hp : is.Perm (List.range n)) (hs : is.filterMap (fun i => L[i]?) = L2) : (List.flatten L).Perm (List.flatten L2) := by
  subst hn
  subst hs
  have h := (hp.filterMap (fun i => L[i]?))
  rw [bl_range] at h
  exact h.symm.flatten
section XGB
variable {p : Program} {l : Launch} {e : Env} {R : Room} {s : State} {m : MethodId} {args : Array Value} {below : List Frame} {meth : Method} {c : Code} {H : Heap} {locs : List Loc} {cells slots : Nat} {Q : State → Prop}
variable {cc : ByteArray} {nL : Nat} {Ts : List Cond} {own : String} {D : va_G} {tys : List (ClassId × FieldType)} {ret : Option FieldType} {A : Nat → Prop} {ws : va_W}
variable {pc : Nat} {ls : Array Slot} {rest st0 : List Value} {a : Array Value} {wc wc' wr w2 : va_W} {rv : Int32}
theorem range_C (wc wr : va_W) : (List.range wc.length).map (fun i => (wc ++ wr)[i]?) = wc.map some := by
  apply List.ext_getElem?
  intro i
  rw [List.getElem?_map, List.getElem?_map]
  rcases Nat.lt_or_ge i wc.length with q | q
  · rw [List.getElem?_range q, List.getElem?_eq_getElem q]
    show some ((wc ++ wr)[i]?) = some (some wc[i])
    rw [List.getElem?_append_left q, List.getElem?_eq_getElem q]
  · rw [List.getElem?_eq_none (by simpa using q), List.getElem?_eq_none q]; rfl
theorem range_R (wc wr : va_W) : ((List.range wr.length).map (fun i => wc.length + i)).map (fun i => (wc ++ wr)[i]?) = wr.map some := by
  apply List.ext_getElem?
  intro i
  rw [List.map_map, List.getElem?_map, List.getElem?_map]
  rcases Nat.lt_or_ge i wr.length with q | q
  · rw [List.getElem?_range q, List.getElem?_eq_getElem q]
    show some ((wc ++ wr)[wc.length + i]?) = some (some wr[i])
    rw [List.getElem?_append_right (by omega), show wc.length + i - wc.length = i by omega, List.getElem?_eq_getElem q]
  · rw [List.getElem?_eq_none (by simpa using q), List.getElem?_eq_none q]; rfl
theorem x_backB (w : xW D A s.heap (wc ++ wr) H locs) {H1 : Heap} {locs1 : List Loc} (hk1 : ∀ q : Nat, q < H.size → ¬ va_A wc H.size q → H1[q]? = H[q]?) (hP1 : va_P D vwCl wc' H1) (hD1 : va_D (va_A wc H.size) wc') (hS1 : va_S A s.heap H1 locs1) : xW D A s.heap (wc' ++ wr) H1 locs1 := by
  have hFc : ∀ q, va_A wc H.size q → A q := by
    intro q h
    rcases h with ⟨k, e, h⟩ | h
    · exact w.2.1.2 k (q, e) (by rw [List.getElem?_append_left (List.getElem?_eq_some_iff.mp h).1]; exact h)
    · exact w.2.2.2 q (Nat.le_trans w.2.2.1.1 h)
  have hpw := w.2.1.pw
  rw [List.pairwise_append] at hpw
  have apart : ∀ q ∈ wr, q.1 < H.size ∧ ¬ va_A wc H.size q.1 := by
    intro q hq
    obtain ⟨i, hi⟩ := List.getElem?_of_mem (List.mem_append_right wc hq)
    have hl := (w.1 i q hi).lt
    refine ⟨hl, fun h => ?_⟩
    rcases h with ⟨k, e, h⟩ | h
    · exact hpw.2.2 (q.1, e) (List.mem_of_getElem? h) q hq rfl
    · omega
  have hPr : va_P D vwCl wr H1 := by
    intro k q hk
    have hq := List.mem_of_getElem? hk
    obtain ⟨i, hi⟩ := List.getElem?_of_mem (List.mem_append_right wc hq)
    exact (w.1 i q hi).kept (hk1 q.1 (apart q hq).1 (apart q hq).2)
  refine ⟨hP1.app hPr, va_D.of_pw ?_ ?_, hS1, w.2.2.2⟩
  · rw [List.pairwise_append]
    refine ⟨hD1.pw, hpw.2.1, fun a ha b hb e => ?_⟩
    obtain ⟨i, hi⟩ := List.getElem?_of_mem ha
    exact (apart b hb).2 (by rw [← e]; exact hD1.2 i a hi)
  · intro q hq
    rcases List.mem_append.mp hq with h | h
    · obtain ⟨i, hi⟩ := List.getElem?_of_mem h
      exact hFc q.1 (hD1.2 i q hi)
    · obtain ⟨i, hi⟩ := List.getElem?_of_mem (List.mem_append_right wc h)
      exact w.2.1.2 i q hi
theorem x_left (w : xW D A s.heap (wc ++ wr) H locs) : xW D A s.heap wc H locs := x_sub w (List.range wc.length) (by
  have : ∀ n : Nat, va_nd (List.range n) = true := by
    intro n
    have h2 : ∀ l : List Nat, l.Nodup → va_nd l = true := by
      intro l
      induction l with
      | nil => intro _; rfl
      | cons a l ih =>
        intro h
        rw [List.nodup_cons] at h
        unfold va_nd
        simp [h.1, ih h.2]
    exact h2 _ List.nodup_range
  exact this _) (range_C wc wr)
theorem x_goiB (w : xW D A s.heap (wc ++ wr) H locs) (hr : va_Run p l e R s m args below meth c H locs cells slots 0 0 (F0 m pc ls st0) rest (xQi D tys rv wc' (va_A wc H.size) a) (va_A wc H.size)) (hP2 : (wc' ++ wr).Perm w2)
    (kk : ∀ (H1 : Heap) (locs1 : List Loc), xW D A s.heap w2 H1 locs1 → W p l e R s m args below meth c H1 locs1 cells slots Q (F0 m (pc + 3) ls (.int rv :: rest))) : W p l e R s m args below meth c H locs cells slots Q (F0 m pc ls st0) := by
  have hFc : ∀ q, va_A wc H.size q → A q := by
    intro q h
    rcases h with ⟨k, e, h⟩ | h
    · exact w.2.1.2 k (q, e) (by rw [List.getElem?_append_left (List.getElem?_eq_some_iff.mp h).1]; exact h)
    · exact w.2.2.2 q (Nat.le_trans w.2.2.1.1 h)
  refine va_calli hr w.2.2.1 (fun q _ h => hFc q h) hFc (fun r u t H1 locs1 ht hvm hw hB hz1 hk1 hS => ?_)
  obtain ⟨hP1, hK1, hD1⟩ := hB
  rw [ht] at hP1
  have hw : r = rv := hw
  subst hw
  exact kk H1 locs1 (x_perm hP2 (x_backB w hk1 hP1 hD1 hS))
theorem x_govB (w : xW D A s.heap (wc ++ wr) H locs) (hr : va_Run p l e R s m args below meth c H locs cells slots 0 0 (F0 m pc ls st0) rest (xQv D tys wc' (va_A wc H.size) a) (va_A wc H.size)) (hP2 : (wc' ++ wr).Perm w2)
    (kk : ∀ (H1 : Heap) (locs1 : List Loc), xW D A s.heap w2 H1 locs1 → W p l e R s m args below meth c H1 locs1 cells slots Q (F0 m (pc + 3) ls rest)) : W p l e R s m args below meth c H locs cells slots Q (F0 m pc ls st0) := by
  have hFc : ∀ q, va_A wc H.size q → A q := by
    intro q h
    rcases h with ⟨k, e, h⟩ | h
    · exact w.2.1.2 k (q, e) (by rw [List.getElem?_append_left (List.getElem?_eq_some_iff.mp h).1]; exact h)
    · exact w.2.2.2 q (Nat.le_trans w.2.2.1.1 h)
  refine va_callv hr w.2.2.1 (fun q _ h => hFc q h) hFc (fun u t H1 locs1 ht hvm hw hB hz1 hk1 hS => ?_)
  obtain ⟨hP1, hK1, hD1⟩ := hB
  rw [ht] at hP1
  exact kk H1 locs1 (x_perm hP2 (x_backB w hk1 hP1 hD1 hS))
theorem x_preB {As : List Value} (C : xC p s m meth c args cc nL Ts own D tys ret) (w' : xW D A s.heap wc H locs) : PreS s H (va_Pc As (xPre D tys wc H.size)) As :=
  ⟨xPre_blind, fun U hU hW => ⟨rfl, by rw [hU], by rw [hU]; exact w'.1, va_K.moved hW.alike C.2.1, w'.2.1.weaken (fun _ _ _ _ => trivial), C.2.2.2.2.warm hW⟩⟩
variable {y : MethodName} {wsy wsy' : List Cond} {d' index n maxL : Nat} {bytes : ByteArray} {rty : Option FieldType} {Cn : String} {b : Nat} {lv : List (Nat × Value)}
theorem x_callViB (C : xC p s m meth c args cc nL Ts own D tys ret) (w : xW D A s.heap ws H locs) (hl : lv_has ls nL lv) (As : List Value) (hM : xI l y wsy d' D tys (.ref b :: As) wc rv wc') (hG : GoodIn Ts (wsV own index Cn y wsy)) (hwy : wsy = Cond.code y bytes maxL rty :: wsy')
    (hd : y.cls = Cn ∧ y.cls ≠ "java/lang/invoke/MethodHandle" ∧ y.cls ≠ "java/lang/invoke/VarHandle" ∧ (parseMethodDescriptor y.desc).map (fun d => d.parameters.length) = some n) (hRm : d' + 1 ≤ R.frames ∧ 8 + (maxL + 11) + 32 * d' ≤ R.locals)
    (q0 ci : Nat) {fs : List Value} {T : u_T} {N : Nat} (he : wc[q0]? = some (b, .inr (ci, fs))) (hc : vwCl[ci]? = some (Cn, T, N)) (hAs : As.length = n) (hst : st0 = As.reverse ++ .ref b :: rest) (hcat : (rest.map fun v => v.category).sum ≤ 8)
    (hP : ws.Perm (wc ++ wr)) (hP2 : (wc' ++ wr).Perm w2) (hf : cells ≤ R.cells ∧ slots ≤ R.slots) (hdg : decode cc pc = .ok (.invokevirtual index, 3))
    (kk : ∀ (H1 : Heap) (locs1 : List Loc), xW D A s.heap w2 H1 locs1 → W p l e R s m args below meth c H1 locs1 cells slots Q (F0 m (pc + 3) ls (.int rv :: rest))) : W p l e R s m args below meth c H locs cells slots Q (F0 m pc ls st0) := by
  have wp := x_perm hP w
  have w' := x_left wp
  have hp := x_preB (As := .ref b :: As) C w'
  exact x_goiB wp (va_runV (As := As) (rest := rest) C.1 (hM H.size) (cwV n C.1.2.2.2.2 hG hwy rfl rfl hd hRm) ⟨hp.1, va_recv C.2.1 w'.1 hc he, hp.2⟩ rfl hAs hl.1 hst (lv_room hcat) hdg hf) hP2 kk
theorem x_callVvB (C : xC p s m meth c args cc nL Ts own D tys ret) (w : xW D A s.heap ws H locs) (hl : lv_has ls nL lv) (As : List Value) (hM : xV l y wsy d' D tys (.ref b :: As) wc wc') (hG : GoodIn Ts (wsV own index Cn y wsy)) (hwy : wsy = Cond.code y bytes maxL rty :: wsy')
    (hd : y.cls = Cn ∧ y.cls ≠ "java/lang/invoke/MethodHandle" ∧ y.cls ≠ "java/lang/invoke/VarHandle" ∧ (parseMethodDescriptor y.desc).map (fun d => d.parameters.length) = some n) (hRm : d' + 1 ≤ R.frames ∧ 8 + (maxL + 11) + 32 * d' ≤ R.locals)
    (q0 ci : Nat) {fs : List Value} {T : u_T} {N : Nat} (he : wc[q0]? = some (b, .inr (ci, fs))) (hc : vwCl[ci]? = some (Cn, T, N)) (hAs : As.length = n) (hst : st0 = As.reverse ++ .ref b :: rest) (hcat : (rest.map fun v => v.category).sum ≤ 8)
    (hP : ws.Perm (wc ++ wr)) (hP2 : (wc' ++ wr).Perm w2) (hf : cells ≤ R.cells ∧ slots ≤ R.slots) (hdg : decode cc pc = .ok (.invokevirtual index, 3))
    (kk : ∀ (H1 : Heap) (locs1 : List Loc), xW D A s.heap w2 H1 locs1 → W p l e R s m args below meth c H1 locs1 cells slots Q (F0 m (pc + 3) ls rest)) : W p l e R s m args below meth c H locs cells slots Q (F0 m pc ls st0) := by
  have wp := x_perm hP w
  have w' := x_left wp
  have hp := x_preB (As := .ref b :: As) C w'
  exact x_govB wp (va_runV (As := As) (rest := rest) C.1 (hM H.size) (cwV n C.1.2.2.2.2 hG hwy rfl rfl hd hRm) ⟨hp.1, va_recv C.2.1 w'.1 hc he, hp.2⟩ rfl hAs hl.1 hst (lv_room hcat) hdg hf) hP2 kk
theorem x_callSiB (C : xC p s m meth c args cc nL Ts own D tys ret) (w : xW D A s.heap ws H locs) (hl : lv_has ls nL lv) (As : List Value) (hM : xI l y wsy d' D tys As wc rv wc') (hG : GoodIn Ts (va_wsS own index y wsy)) (hwy : wsy = Cond.code y bytes maxL rty :: wsy')
    (hd : y.cls ≠ "java/lang/invoke/MethodHandle" ∧ y.cls ≠ "java/lang/invoke/VarHandle" ∧ (parseMethodDescriptor y.desc).map (fun d => d.parameters.length) = some n) (hRm : d' + 1 ≤ R.frames ∧ 8 + (maxL + 11) + 32 * d' ≤ R.locals)
    (hAs : As.length = n) (hst : st0 = As.reverse ++ rest) (hcat : (rest.map fun v => v.category).sum ≤ 8)
    (hP : ws.Perm (wc ++ wr)) (hP2 : (wc' ++ wr).Perm w2) (hf : cells ≤ R.cells ∧ slots ≤ R.slots) (hdg : decode cc pc = .ok (.invokestatic index, 3))
    (kk : ∀ (H1 : Heap) (locs1 : List Loc), xW D A s.heap w2 H1 locs1 → W p l e R s m args below meth c H1 locs1 cells slots Q (F0 m (pc + 3) ls (.int rv :: rest))) : W p l e R s m args below meth c H locs cells slots Q (F0 m pc ls st0) := by
  have wp := x_perm hP w
  exact x_goiB wp (va_runS (As := As) (rest := rest) C.1 (hM H.size) (va_cwS n C.1.2.2.2.2 hG hwy rfl rfl hd hRm) (x_preB C (x_left wp)) rfl hAs hl.1 hst (lv_room hcat) hdg hf) hP2 kk
theorem x_callSvB (C : xC p s m meth c args cc nL Ts own D tys ret) (w : xW D A s.heap ws H locs) (hl : lv_has ls nL lv) (As : List Value) (hM : xV l y wsy d' D tys As wc wc') (hG : GoodIn Ts (va_wsS own index y wsy)) (hwy : wsy = Cond.code y bytes maxL rty :: wsy')
    (hd : y.cls ≠ "java/lang/invoke/MethodHandle" ∧ y.cls ≠ "java/lang/invoke/VarHandle" ∧ (parseMethodDescriptor y.desc).map (fun d => d.parameters.length) = some n) (hRm : d' + 1 ≤ R.frames ∧ 8 + (maxL + 11) + 32 * d' ≤ R.locals)
    (hAs : As.length = n) (hst : st0 = As.reverse ++ rest) (hcat : (rest.map fun v => v.category).sum ≤ 8)
    (hP : ws.Perm (wc ++ wr)) (hP2 : (wc' ++ wr).Perm w2) (hf : cells ≤ R.cells ∧ slots ≤ R.slots) (hdg : decode cc pc = .ok (.invokestatic index, 3))
    (kk : ∀ (H1 : Heap) (locs1 : List Loc), xW D A s.heap w2 H1 locs1 → W p l e R s m args below meth c H1 locs1 cells slots Q (F0 m (pc + 3) ls rest)) : W p l e R s m args below meth c H locs cells slots Q (F0 m pc ls st0) := by
  have wp := x_perm hP w
  exact x_govB wp (va_runS (As := As) (rest := rest) C.1 (hM H.size) (va_cwS n C.1.2.2.2.2 hG hwy rfl rfl hd hRm) (x_preB C (x_left wp)) rfl hAs hl.1 hst (lv_room hcat) hdg hf) hP2 kk
end XGB
/-- a state's cells but the battery's -/
def sR (cI : ClassId) (o : Nat → Nat) (G : St) : va_W := [(o 0, .inr (4, sF o G)), (o 2, .inl (cI, 64, .inl (G 0))), (o 3, .inl (cI, 64, .inl (G 1))), (o 4, .inl (cI, 8, .inl (G 2))), (o 5, .inl (cI, 8, .inl (G 3))), (o 6, .inl (cI, 8, .inl (G 4))), (o 7, .inl (cI, 8, .inl (G 5)))]
theorem sW_sR (cI : ClassId) (o : Nat → Nat) (G : St) : (sW cI o G).Perm (bW (o 1) G ++ sR cI o G) := List.Perm.swap _ _ _
