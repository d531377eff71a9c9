/-! ===== the law's start: classes, array classes, nest mates, the two tables ===== -/
theorem lw_nest : ∀ w ∈ nestL.map (fun q => Cond.methodLinkNest q.1 q.2.1 q.2.2 RX6), w ∈ lw_tbl := mem_r [233, 243, 292, 299, 21, 27, 134, 145, 159, 164, 167, 204] (by decide +kernel)
theorem lw_N {s : State} {b : Nat} (hts : ∀ w ∈ lw_tbl, w.before #[Value.ref b] s = true) : xN s := fun q hq => va_Nw.of rfl (hts _ (lw_nest _ (List.mem_map.mpr ⟨q, hq, rfl⟩)))
theorem lw_O {s : State} {b : Nat} (hts : ∀ w ∈ lw_tbl, w.before #[Value.ref b] s = true) : va_AO RX4 s := va_AO.of (hts (.arrayOver (.object RX4)) (List.mem_of_getElem? (i := 133) (by decide +kernel)))
theorem lw_I {s : State} {b : Nat} (hts : ∀ w ∈ lw_tbl, w.before #[Value.ref b] s = true) : ∃ cI : ClassId, ArrOfT s cI .int ∧ va_RA s cI .int := by
  obtain ⟨cI, kI, comp, hc, hk, hkind⟩ := Cond.arrayClass_spec (hts (.arrayClass .int) (List.mem_of_getElem? (i := 125) (by decide +kernel)))
  exact ⟨cI, fun N z => ⟨(fun k h => by cases h), kI, hk, comp, hkind⟩, hc⟩
theorem lw_S {s : State} {b : Nat} (hts : ∀ w ∈ lw_tbl, w.before #[Value.ref b] s = true) : ∃ cS : ClassId, ArrOfT s cS (.object RX4) ∧ va_RA s cS (.object RX4) := by
  obtain ⟨comp, cS, kS, f1, f2, f3, f4, f5⟩ := Cond.arrayOver_spec (lw_O hts)
  exact ⟨cS, fun N z => ⟨(fun k h => by cases h), kS, f3, comp, f4⟩, kS, comp, f3, f4, f1, f5⟩
theorem lw_K {s : State} {b : Nat} (hts : ∀ w ∈ lw_tbl, w.before #[Value.ref b] s = true) : ∃ (D : va_G) (cI cS : ClassId), va_K D vwCl [(cI, .int), (cS, .object RX4)] s := by
  obtain ⟨c0, j0, k0⟩ := u_known (C := RX0) (T := TX0) (N := 7) (n := 7) hts inX0 (hts (.instantiable RX0 7) (List.mem_of_getElem? (i := 26) (by decide +kernel)))
  obtain ⟨c1, j1, k1⟩ := u_known (C := RX1) (T := TX1) (N := 2) (n := 2) hts inX1 (hts (.instantiable RX1 2) (List.mem_of_getElem? (i := 127) (by decide +kernel)))
  obtain ⟨c2, j2, k2⟩ := u_known (C := RX2) (T := TX2) (N := 7) (n := 7) hts inX2 (hts (.instantiable RX2 7) (List.mem_of_getElem? (i := 166) (by decide +kernel)))
  obtain ⟨c3, j3, k3⟩ := u_known (C := RX3) (T := TX3) (N := 3) (n := 3) hts inX3 (hts (.instantiable RX3 3) (List.mem_of_getElem? (i := 158) (by decide +kernel)))
  obtain ⟨c4, j4, k4⟩ := u_known (C := RX4) (T := TX4) (N := 17) (n := 17) hts inX4 (hts (.instantiable RX4 17) (List.mem_of_getElem? (i := 20) (by decide +kernel)))
  obtain ⟨c5, j5, k5⟩ := u_known (C := RX5) (T := TX5) (N := 2) (n := 2) hts inX5 (hts (.instantiable RX5 2) (List.mem_of_getElem? (i := 144) (by decide +kernel)))
  obtain ⟨c6, j6, k6⟩ := u_known (C := RX6) (T := TX6) (N := 5) (n := 5) hts inX6 (hts (.instantiable RX6 5) (List.mem_of_getElem? (i := 12) (by decide +kernel)))
  obtain ⟨cI, a1, a2⟩ := lw_I hts
  obtain ⟨cS, b1, b2⟩ := lw_S hts
  refine ⟨(fun k => if k = 0 then c0 else if k = 1 then c1 else if k = 2 then c2 else if k = 3 then c3 else if k = 4 then c4 else if k = 5 then c5 else c6, fun k => if k = 0 then j0 else if k = 1 then j1 else if k = 2 then j2 else if k = 3 then j3 else if k = 4 then j4 else if k = 5 then j5 else j6), cI, cS, ?_, ?_⟩
  · intro k q hq
    match k, hq with
    | 0, hq => cases hq; exact k0
    | 1, hq => cases hq; exact k1
    | 2, hq => cases hq; exact k2
    | 3, hq => cases hq; exact k3
    | 4, hq => cases hq; exact k4
    | 5, hq => cases hq; exact k5
    | 6, hq => cases hq; exact k6
    | k + 7, hq => simp at hq
  · intro k q hq
    match k, hq with
    | 0, hq => cases hq; exact ⟨a1, a2⟩
    | 1, hq => cases hq; exact ⟨b1, b2⟩
    | k + 2, hq => simp at hq
set_option maxHeartbeats 1000000 in
theorem lw_xZ {s : State} {b : Nat} (hts : ∀ w ∈ lw_tbl, w.before #[Value.ref b] s = true) (hgv : (Jvm.Cond.and given_1 narrow_1).before #[Value.ref b] s = true) : xZ (fun q : Nat => s.heap.size ≤ q) s s.heap := by
  have hs := flat_of_before _ hgv
  have hA : ∀ a : Nat, a < s.heap.size → ¬ (fun q : Nat => s.heap.size ≤ q) a := fun a h => Nat.not_le.mpr h
  have hi := hts (.initialized "BatteryCaches") (List.mem_of_getElem? (i := 1) (by decide +kernel))
  have he0 : ∀ j : Nat, j < 4 → (Term.elem (.static "BatteryCaches" "LEAST_SETTING" "[I") (.int (Int32.ofNat j))).eval #[Value.ref b] s none [] s = some (.int (loF j)) := by
    intro j hj
    rcases (show j = 0 ∨ j = 1 ∨ j = 2 ∨ j = 3 by omega) with q | q | q | q <;> subst q
    · exact va_eqt (z := 1) (hs (.eq (.elem (.static "BatteryCaches" "LEAST_SETTING" "[I") (.int 0)) (.int 1)) (by decide +kernel))
    · exact va_eqt (z := 0) (hs (.eq (.elem (.static "BatteryCaches" "LEAST_SETTING" "[I") (.int 1)) (.int 0)) (by decide +kernel))
    · exact va_eqt (z := 0) (hs (.eq (.elem (.static "BatteryCaches" "LEAST_SETTING" "[I") (.int 2)) (.int 0)) (by decide +kernel))
    · exact va_eqt (z := 1) (hs (.eq (.elem (.static "BatteryCaches" "LEAST_SETTING" "[I") (.int 3)) (.int 1)) (by decide +kernel))
  obtain ⟨t0, e0, T0⟩ := va_Tof (tm := (.static "BatteryCaches" "LEAST_SETTING" "[I")) (ty := .int) (N := 4) (f := fun j => .int (loF j)) (A := fun q : Nat => s.heap.size ≤ q) (by decide) (hs (.arrayOf (.static "BatteryCaches" "LEAST_SETTING" "[I") .int) (by decide +kernel)) (va_eqt (z := 4) (hs (.eq (.length (.static "BatteryCaches" "LEAST_SETTING" "[I")) (.int 4)) (by decide +kernel))) he0 hA
  have Z0 := va_Zof (A := fun q : Nat => s.heap.size ≤ q) (hts (.laysStatic "BatteryCaches" "LEAST_SETTING" "[I") (List.mem_of_getElem? (i := 325) (by decide +kernel))) hi e0 hA
  have he1 : ∀ j : Nat, j < 4 → (Term.elem (.static "BatteryCaches" "MOST_SETTING" "[I") (.int (Int32.ofNat j))).eval #[Value.ref b] s none [] s = some (.int (hiF j)) := by
    intro j hj
    rcases (show j = 0 ∨ j = 1 ∨ j = 2 ∨ j = 3 by omega) with q | q | q | q <;> subst q
    · exact va_eqt (z := 500) (hs (.eq (.elem (.static "BatteryCaches" "MOST_SETTING" "[I") (.int 0)) (.int 500)) (by decide +kernel))
    · exact va_eqt (z := 500) (hs (.eq (.elem (.static "BatteryCaches" "MOST_SETTING" "[I") (.int 1)) (.int 500)) (by decide +kernel))
    · exact va_eqt (z := 200) (hs (.eq (.elem (.static "BatteryCaches" "MOST_SETTING" "[I") (.int 2)) (.int 200)) (by decide +kernel))
    · exact va_eqt (z := 500) (hs (.eq (.elem (.static "BatteryCaches" "MOST_SETTING" "[I") (.int 3)) (.int 500)) (by decide +kernel))
  obtain ⟨t1, e1, T1⟩ := va_Tof (tm := (.static "BatteryCaches" "MOST_SETTING" "[I")) (ty := .int) (N := 4) (f := fun j => .int (hiF j)) (A := fun q : Nat => s.heap.size ≤ q) (by decide) (hs (.arrayOf (.static "BatteryCaches" "MOST_SETTING" "[I") .int) (by decide +kernel)) (va_eqt (z := 4) (hs (.eq (.length (.static "BatteryCaches" "MOST_SETTING" "[I")) (.int 4)) (by decide +kernel))) he1 hA
  have Z1 := va_Zof (A := fun q : Nat => s.heap.size ≤ q) (hts (.laysStatic "BatteryCaches" "MOST_SETTING" "[I") (List.mem_of_getElem? (i := 327) (by decide +kernel))) hi e1 hA
  exact ⟨t0, t1, Z0, T0, Z1, T1⟩
/-! ===== the call of a method that reads the two tables ===== -/
theorem xPreZ_blind {av : List Value} {D : va_G} {tys : List (ClassId × FieldType)} {w : va_W} {sz : Nat} : FrameBlind (va_Pc av (xPreZ D tys w sz)) := fun a U g mk q => by
  obtain ⟨q0, ⟨q1, qP, qK, qD, qN⟩, z1, z2, h1, h2, h3, h4⟩ := q
  exact ⟨q0, ⟨q1, qP, va_K.moved (u := U) (U := U.calling g mk a) (Vm.Alike.refl U.vm) qK, qD, xN.same (s := U) (U := U.calling g mk a) rfl qN⟩, z1, z2, va_Z.moved (u := U) (U := U.calling g mk a) (Vm.Alike.refl U.vm) h1, va_T.moved (u := U) (U := U.calling g mk a) (Vm.Alike.refl U.vm) h2, va_Z.moved (u := U) (U := U.calling g mk a) (Vm.Alike.refl U.vm) h3, va_T.moved (u := U) (U := U.calling g mk a) (Vm.Alike.refl U.vm) h4⟩
theorem xZ.go {A B : Nat → Prop} {s U : State} {H : Heap} {locs : List Loc} (h : xZ A s s.heap) (hS : va_S A s.heap H locs) (hU : U.heap = H) (hv : s.vm.Alike U.vm) (hAB : ∀ q, B q → A q) : xZ B U U.heap := by
  obtain ⟨z1, z2, h1, h2, h3, h4⟩ := h
  rw [hU]
  exact ⟨z1, z2, ((va_Z.moved hv h1).kept hS.2.1).narrow hAB, ((va_T.moved hv h2).kept hS.2.1).narrow hAB, ((va_Z.moved hv h3).kept hS.2.1).narrow hAB, ((va_T.moved hv h4).kept hS.2.1).narrow hAB⟩
section XGZ
variable {p : Program} {l : Launch} {e : Env} {R : Room} {s : State} {m : MethodId} {args : Array Value} {below : List Frame} {meth : Method} {c : Code} {H : Heap} {locs : List Loc} {cells slots : Nat} {Q : State → Prop}
variable {cc : ByteArray} {nL : Nat} {Ts : List Cond} {own : String} {D : va_G} {tys : List (ClassId × FieldType)} {ret : Option FieldType} {A : Nat → Prop} {ws : va_W}
variable {pc : Nat} {ls : Array Slot} {rest st0 : List Value} {wc wc' wr w2 : va_W} {rv : Int32}
variable {y : MethodName} {wsy wsy' : List Cond} {d' index n maxL : Nat} {bytes : ByteArray} {rty : Option FieldType} {Cn : String} {b : Nat} {lv : List (Nat × Value)}
theorem x_callViZ (hZ : xZ A s s.heap) (C : xC p s m meth c args cc nL Ts own D tys ret) (w : xW D A s.heap ws H locs) (hl : lv_has ls nL lv) (As : List Value) (hM : xIZ l y wsy d' D tys (.ref b :: As) wc rv wc') (hG : GoodIn Ts (wsV own index Cn y wsy)) (hwy : wsy = Cond.code y bytes maxL rty :: wsy')
    (hd : y.cls = Cn ∧ y.cls ≠ "java/lang/invoke/MethodHandle" ∧ y.cls ≠ "java/lang/invoke/VarHandle" ∧ (parseMethodDescriptor y.desc).map (fun d => d.parameters.length) = some n) (hRm : d' + 1 ≤ R.frames ∧ 8 + (maxL + 11) + 32 * d' ≤ R.locals)
    (q0 ci : Nat) {fs : List Value} {T : u_T} {N : Nat} (he : wc[q0]? = some (b, .inr (ci, fs))) (hc : vwCl[ci]? = some (Cn, T, N)) (hAs : As.length = n) (hst : st0 = As.reverse ++ .ref b :: rest) (hcat : (rest.map fun v => v.category).sum ≤ 8)
    (hP : ws.Perm (wc ++ wr)) (hP2 : (wc' ++ wr).Perm w2) (hf : cells ≤ R.cells ∧ slots ≤ R.slots) (hdg : decode cc pc = .ok (.invokevirtual index, 3))
    (kk : ∀ (H1 : Heap) (locs1 : List Loc), xW D A s.heap w2 H1 locs1 → W p l e R s m args below meth c H1 locs1 cells slots Q (F0 m (pc + 3) ls (.int rv :: rest))) : W p l e R s m args below meth c H locs cells slots Q (F0 m pc ls st0) := by
  have wp := x_perm hP w
  have w' := x_left wp
  have hFc : ∀ q, va_A wc H.size q → A q := by
    intro q h
    rcases h with ⟨k, e, h⟩ | h
    · exact wp.2.1.2 k (q, e) (by rw [List.getElem?_append_left (List.getElem?_eq_some_iff.mp h).1]; exact h)
    · exact wp.2.2.2 q (Nat.le_trans wp.2.2.1.1 h)
  exact x_goiB wp (va_runV (As := As) (rest := rest) C.1 (hM H.size) (cwV n C.1.2.2.2.2 hG hwy rfl rfl hd hRm) ⟨xPreZ_blind, va_recv C.2.1 w'.1 hc he, fun U hU hW => ⟨rfl, ⟨by rw [hU], by rw [hU]; exact w'.1, va_K.moved hW.alike C.2.1, w'.2.1.weaken (fun _ _ _ _ => trivial), C.2.2.2.2.warm hW⟩, xZ.go hZ w.2.2.1 hU hW.alike hFc⟩⟩ rfl hAs hl.1 hst (lv_room hcat) hdg hf) hP2 kk
end XGZ
