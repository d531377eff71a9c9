/-! ===== rows for the law's methods: they answer 1 and leave one of many worlds; one reads the script ===== -/
def xQJ (D : va_G) (tys : List (ClassId × FieldType)) (rv : Int32) (P : va_W → Prop) (A : Nat → Prop) : Array Value → State → Outcome → State → Prop :=
  va_Qi (fun (r : Int32) (w' : va_W) => r = rv ∧ P w') (fun (w' : va_W) t => xB D tys w' A () t) A
def xJ (l : Launch) (y : MethodName) (ws : List Cond) (d : Nat) (D : va_G) (tys : List (ClassId × FieldType)) (av : List Value) (w : va_W) (rv : Int32) (P : va_W → Prop) : Prop :=
  ∀ sz : Nat, Met l y ws (rmd d) (va_Pc av (xPre D tys w sz)) (xQJ D tys rv P (va_A w sz)) 0 0 (va_A w sz)
section XJ
variable {l : Launch} {y : MethodName} {ws ws' : List Cond} {d : Nat} {D : va_G} {tys : List (ClassId × FieldType)} {av : List Value} {w : va_W} {P : va_W → Prop} {rv : Int32} {cc : ByteArray} {maxL : Nat} {ret : Option FieldType}
theorem x_inJ (hy : plainName y.cls = true) (hw : ws = Cond.code y cc maxL ret :: ws') (hlen : (lg_sl av).length ≤ maxL)
    (body : ∀ (p : Program) (e : Env) (s : State) (m : MethodId) (args : Array Value) (below : List Frame) (meth : Method) (c : Code) (A : Nat → Prop) (ls : Array Slot), xC p s m meth c args cc maxL ws y.cls D tys ret → xW D A s.heap w s.heap [] → lv_has ls maxL (lv_args 0 av) →
      W p l e (rmd d) s m args below meth c s.heap [] 0 0 (MQ below (xQJ D tys rv P A) args s 0 0 A) (F0 m 0 ls [])) : xJ l y ws d D tys av w rv P := by
  intro sz
  refine Met.ofW (cc := cc) (maxL := maxL) (ret := ret) hy hw ?_
  intro p e s m args below meth c s₁ B hml hv
  obtain ⟨rfl, hsz, hP, hK, hD0, hN⟩ := hv
  have hts := atoms_spec (ws := ws) B.pre
  have hown : s.vm.findClass y.cls = some m.cls := findClass_of_methodNamed B.named
  subst hsz
  have hD := hD0.self (sz := s.heap.size)
  generalize hAe : va_A w s.heap.size = A at hD ⊢
  have hA : ∀ q : Nat, s.heap.size ≤ q → A q := fun q h => by rw [← hAe]; exact Or.inr h
  have hl := lv_entry av (n := maxL) hlen
  rw [lg_entry_eq]
  exact body p e s m _ below meth c A _ ⟨⟨B.exec, B.bytes, hml, hown, hts⟩, hK, B.returns, B.notSynchronized, hN⟩ ⟨hP, hD, va_S.rf, hA⟩ hl
end XJ
section XJR
variable {p : Program} {l : Launch} {e : Env} {R : Room} {s : State} {m : MethodId} {args : Array Value} {below : List Frame} {meth : Method} {c : Code} {H : Heap} {locs : List Loc} {cells slots : Nat} {Q : State → Prop}
variable {cc : ByteArray} {nL : Nat} {Ts : List Cond} {own : String} {D : va_G} {tys : List (ClassId × FieldType)} {ret : Option FieldType} {A : Nat → Prop} {ws wc wc' wr : va_W}
variable {pc : Nat} {ls : Array Slot} {rest st0 : List Value} {a : Array Value} {P : va_W → Prop} {rv : Int32}
theorem x_zretJ {v : Int32} (C : xC p s m meth c args cc nL Ts own D tys (some .boolean)) (w : xW D A s.heap ws H locs) (hz : v = 0 ∨ v = 1) (hr : v = rv) (hPw : P ws) (hdg : decode cc pc = .ok (.ireturn, 1)) :
    W p l e R s m args below meth c H locs 0 0 (MQ below (xQJ D tys rv P A) args s 0 0 A) (F0 m pc ls [.int v]) := by
  subst hr
  obtain ⟨⟨hx, hb, hml, hown, hts⟩, hK, hret, hlocks, -⟩ := C
  obtain ⟨hP, hD, hS, hA⟩ := w
  have hn : narrow .boolean (.int v) = .int v := by rcases hz with rfl | rfl <;> decide
  exact W.zret (v := v) hx hb hret hn (fun t ht hW => ⟨⟨v, ws, rfl, ⟨rfl, hPw⟩, by rw [ht]; exact hP, va_K.moved hW.alike hK, hD⟩, hS.F ht⟩) hS.2.2 hdg hlocks
theorem x_goiJ (w : xW D A s.heap (wc ++ wr) H locs) (hr : va_Run p l e R s m args below meth c H locs cells slots 0 0 (F0 m pc ls st0) rest (xQJ D tys rv P (va_A wc H.size) a) (va_A wc H.size))
    (kk : ∀ (w' : va_W) (H1 : Heap) (locs1 : List Loc), P w' → xW D A s.heap (w' ++ wr) H1 locs1 → W p l e R s m args below meth c H1 locs1 cells slots Q (F0 m (pc + 3) ls (.int rv :: rest))) : W p l e R s m args below meth c H locs cells slots Q (F0 m pc ls st0) := by
  have hFc : ∀ q, va_A wc H.size q → A q := by
    intro q h
    rcases h with ⟨k, e, h⟩ | h
    · exact w.2.1.2 k (q, e) (by rw [List.getElem?_append_left (List.getElem?_eq_some_iff.mp h).1]; exact h)
    · exact w.2.2.2 q (Nat.le_trans w.2.2.1.1 h)
  refine va_calli hr w.2.2.1 (fun q _ h => hFc q h) hFc (fun r u t H1 locs1 ht hvm hw hB hz1 hk1 hS => ?_)
  obtain ⟨hP1, hK1, hD1⟩ := hB
  rw [ht] at hP1
  obtain ⟨hw, hPu⟩ := hw
  subst hw
  exact kk u H1 locs1 hPu (x_backB w hk1 hP1 hD1 hS)
variable {y : MethodName} {wsy wsy' : List Cond} {d' index n maxL : Nat} {bytes : ByteArray} {rty : Option FieldType} {lv : List (Nat × Value)}
theorem x_callSiJ (C : xC p s m meth c args cc nL Ts own D tys ret) (w : xW D A s.heap ws H locs) (hl : lv_has ls nL lv) (As : List Value) (hM : xJ l y wsy d' D tys As wc rv P) (hG : GoodIn Ts (va_wsS own index y wsy)) (hwy : wsy = Cond.code y bytes maxL rty :: wsy')
    (hd : y.cls ≠ "java/lang/invoke/MethodHandle" ∧ y.cls ≠ "java/lang/invoke/VarHandle" ∧ (parseMethodDescriptor y.desc).map (fun d => d.parameters.length) = some n) (hRm : d' + 1 ≤ R.frames ∧ 8 + (maxL + 11) + 32 * d' ≤ R.locals)
    (hAs : As.length = n) (hst : st0 = As.reverse ++ rest) (hcat : (rest.map fun v => v.category).sum ≤ 8)
    (hP : ws.Perm (wc ++ wr)) (hf : cells ≤ R.cells ∧ slots ≤ R.slots) (hdg : decode cc pc = .ok (.invokestatic index, 3))
    (kk : ∀ (w' : va_W) (H1 : Heap) (locs1 : List Loc), P w' → xW D A s.heap (w' ++ wr) H1 locs1 → W p l e R s m args below meth c H1 locs1 cells slots Q (F0 m (pc + 3) ls (.int rv :: rest))) : W p l e R s m args below meth c H locs cells slots Q (F0 m pc ls st0) := by
  have wp := x_perm hP w
  exact x_goiJ wp (va_runS (As := As) (rest := rest) C.1 (hM H.size) (va_cwS n C.1.2.2.2.2 hG hwy rfl rfl hd hRm) (x_preB C (x_left wp)) rfl hAs hl.1 hst (lv_room hcat) hdg hf) kk
end XJR
/-! ===== a method that reads a row of ints that nobody writes ===== -/
def xPreT (b L : Nat) (xs : Nat → Int32) (D : va_G) (tys : List (ClassId × FieldType)) (sz : Nat) (U : State) : Prop := xPre D tys [] sz U ∧ va_T .int b L (fun j => .int (xs j)) (va_A [] sz) U U.heap
def xIT (b L : Nat) (xs : Nat → Int32) (l : Launch) (y : MethodName) (ws : List Cond) (d : Nat) (D : va_G) (tys : List (ClassId × FieldType)) (av : List Value) (rv : Int32) : Prop :=
  ∀ sz : Nat, Met l y ws (rmd d) (va_Pc av (xPreT b L xs D tys sz)) (xQi D tys rv [] (va_A [] sz)) 0 0 (va_A [] sz)
theorem xPreT_blind {b L : Nat} {xs : Nat → Int32} {av : List Value} {D : va_G} {tys : List (ClassId × FieldType)} {sz : Nat} : FrameBlind (va_Pc av (xPreT b L xs D tys sz)) := fun a U g mk q => by
  obtain ⟨q0, ⟨q1, qP, qK, qD, qN⟩, h1⟩ := q
  exact ⟨q0, ⟨q1, qP, va_K.moved (u := U) (U := U.calling g mk a) (Vm.Alike.refl U.vm) qK, qD, xN.same (s := U) (U := U.calling g mk a) rfl qN⟩, va_T.moved (u := U) (U := U.calling g mk a) (Vm.Alike.refl U.vm) h1⟩
section XIT
variable {b L : Nat} {xs : Nat → Int32} {l : Launch} {y : MethodName} {ws ws' : List Cond} {d : Nat} {D : va_G} {tys : List (ClassId × FieldType)} {av : List Value} {rv : Int32} {cc : ByteArray} {maxL : Nat} {ret : Option FieldType}
theorem x_inIT (hy : plainName y.cls = true) (hw : ws = Cond.code y cc maxL ret :: ws') (hlen : (lg_sl av).length ≤ maxL)
    (body : ∀ (p : Program) (e : Env) (s : State) (m : MethodId) (args : Array Value) (below : List Frame) (meth : Method) (c : Code) (A : Nat → Prop) (ls : Array Slot), xC p s m meth c args cc maxL ws y.cls D tys ret → xW D A s.heap [] s.heap [] → lv_has ls maxL (lv_args 0 av) → va_T .int b L (fun j => .int (xs j)) A s s.heap →
      W p l e (rmd d) s m args below meth c s.heap [] 0 0 (MQ below (xQi D tys rv [] A) args s 0 0 A) (F0 m 0 ls [])) : xIT b L xs l y ws d D tys av rv := by
  intro sz
  refine Met.ofW (cc := cc) (maxL := maxL) (ret := ret) hy hw ?_
  intro p e s m args below meth c s₁ B hml hv
  obtain ⟨rfl, ⟨hsz, hP, hK, hD0, hN⟩, hT⟩ := hv
  have hts := atoms_spec (ws := ws) B.pre
  have hown : s.vm.findClass y.cls = some m.cls := findClass_of_methodNamed B.named
  subst hsz
  have hD := hD0.self (sz := s.heap.size)
  generalize hAe : va_A [] s.heap.size = A at hD hT ⊢
  have hA : ∀ q : Nat, s.heap.size ≤ q → A q := fun q h => by rw [← hAe]; exact Or.inr h
  have hl := lv_entry av (n := maxL) hlen
  rw [lg_entry_eq]
  exact body p e s m _ below meth c A _ ⟨⟨B.exec, B.bytes, hml, hown, hts⟩, hK, B.returns, B.notSynchronized, hN⟩ ⟨hP, hD, va_S.rf, hA⟩ hl hT
end XIT
section XITR
variable {p : Program} {l : Launch} {e : Env} {R : Room} {s : State} {m : MethodId} {args : Array Value} {below : List Frame} {meth : Method} {c : Code} {H : Heap} {locs : List Loc} {cells slots : Nat} {Q : State → Prop}
variable {cc : ByteArray} {nL : Nat} {Ts : List Cond} {own : String} {D : va_G} {tys : List (ClassId × FieldType)} {ret : Option FieldType} {A : Nat → Prop} {ws : va_W}
variable {pc : Nat} {ls : Array Slot} {rest st0 : List Value} {rv : Int32} {b L : Nat} {xs : Nat → Int32}
variable {y : MethodName} {wsy wsy' : List Cond} {d' index n maxL : Nat} {bytes : ByteArray} {rty : Option FieldType} {lv : List (Nat × Value)}
theorem x_callSiT (hT : va_T .int b L (fun j => .int (xs j)) A s s.heap) (C : xC p s m meth c args cc nL Ts own D tys ret) (w : xW D A s.heap ws H locs) (hl : lv_has ls nL lv) (As : List Value) (hM : xIT b L xs l y wsy d' D tys As rv) (hG : GoodIn Ts (va_wsS own index y wsy)) (hwy : wsy = Cond.code y bytes maxL rty :: wsy')
    (hd : y.cls ≠ "java/lang/invoke/MethodHandle" ∧ y.cls ≠ "java/lang/invoke/VarHandle" ∧ (parseMethodDescriptor y.desc).map (fun d => d.parameters.length) = some n) (hRm : d' + 1 ≤ R.frames ∧ 8 + (maxL + 11) + 32 * d' ≤ R.locals)
    (hAs : As.length = n) (hst : st0 = As.reverse ++ rest) (hcat : (rest.map fun v => v.category).sum ≤ 8)
    (hf : cells ≤ R.cells ∧ slots ≤ R.slots) (hdg : decode cc pc = .ok (.invokestatic index, 3))
    (kk : ∀ (H1 : Heap) (locs1 : List Loc), xW D A s.heap ws H1 locs1 → W p l e R s m args below meth c H1 locs1 cells slots Q (F0 m (pc + 3) ls (.int rv :: rest))) : W p l e R s m args below meth c H locs cells slots Q (F0 m pc ls st0) := by
  have w0 : xW D A s.heap ([] ++ ws) H locs := w
  have w' := x_left w0
  have hFc : ∀ q, va_A [] H.size q → A q := by
    intro q h
    rcases h with ⟨k, e, h⟩ | h
    · exact absurd h (by simp)
    · exact w.2.2.2 q (Nat.le_trans w.2.2.1.1 h)
  refine x_goiB (wc := []) (wc' := []) w0 (va_runS (As := As) (rest := rest) C.1 (hM H.size) (va_cwS n C.1.2.2.2.2 hG hwy rfl rfl hd hRm) ⟨xPreT_blind, fun U hU hW => ⟨rfl, ⟨by rw [hU], by rw [hU]; exact w'.1, va_K.moved hW.alike C.2.1, w'.2.1.weaken (fun _ _ _ _ => trivial), C.2.2.2.2.warm hW⟩, ?_⟩⟩ rfl hAs hl.1 hst (lv_room hcat) hdg hf) (List.Perm.refl _) kk
  rw [hU]
  exact ((va_T.moved hW.alike hT).kept w.2.2.1.2.1).narrow hFc
end XITR
/-- the law's script as such a row -/
theorem va_T_of {b L : Nat} {xs : Nat → Int32} {A : Nat → Prop} {s : State} {H : Heap} (h : va_X b L xs s H) (hA : ¬ A b) : va_T .int b L (fun j => .int (xs j)) A s H := by
  obtain ⟨scr, h1, h2, h3, h4, h5⟩ := h
  subst h4
  exact ⟨scr, h1, h2, h3, Nat.le_refl _, rfl, h5, hA⟩
/-- what the law's worlds are: the class's with the state G, and the row of the last values -/
def okS (cI cS : ClassId) (x : Nat) (o h t : Nat → Nat) (r q : Nat) (u : Nat → Nat) (tb vA : Nat) (G : St) (V : Nat → Int32) (w : va_W) : Prop :=
  ∃ (k : Nat) (b : Nat → Nat → Nat) (Hs : Nat → St) (T : Nat → Int32) (tn : Int32) (f : Nat → Int32) (d : Int32) (U B : St), k ≤ 4 ∧ w = List.flatten [xTop x o h t r tb, sW cI o G, hH cS h b (nI k), sW cI (b 0) (Hs 0), sW cI (b 1) (Hs 1), sW cI (b 2) (Hs 2), sW cI (b 3) (Hs 3), tW cI t T tn, rW3 r u q d, oW q f, sW cI u U, bW tb B, [(vA, .inl (cI, 64, .inl V))]]
def okE (cI cS : ClassId) (x : Nat) (o h t : Nat → Nat) (r q : Nat) (u : Nat → Nat) (tb vA : Nat) (w : va_W) : Prop :=
  ∃ (G : St) (V : Nat → Int32), LI G V ∧ okS cI cS x o h t r q u tb vA G V w
/-! ===== small words for the law's steps ===== -/
theorem i32_back (a b : Int32) : a = b + (a - b) := by rw [Int32.sub_eq_add_neg, ← Int32.add_assoc, Int32.add_comm b a, Int32.add_assoc, Int32.add_right_neg, Int32.add_zero]
theorem dS_and {G G2 : St} (h : dS G G2) : setI G2 2 &&& (setI G 2 ^^^ (-1)) = 0 := subS _ _ h
theorem bit_y {G : St} {l : Nat} (hl : l < 8) (k : G 2 l = 2) : (setI G 2 >>> (nI l &&& 31)) &&& 1 = 1 := (bitS _ hl).trans (if_pos k)
theorem bit_n {G : St} {l : Nat} (hl : l < 8) (k : ¬ G 2 l = 2) : (setI G 2 >>> (nI l &&& 31)) &&& 1 = 0 := (bitS _ hl).trans (if_neg k)
theorem flu_set {G : St} {l : Nat} (hl : l < 8) (k : G 2 l = 2) : setI (fluG G (nI l)) 2 = setI G 2 &&& (((1 : Int32) <<< (nI l &&& 31)) ^^^ (-1)) := by
  unfold setI
  rw [flu_2 hl k]
  exact clrS _ hl
theorem kp_z6 {G : St} {V : Nat → Int32} (h : LI G V) (k : ¬ 0 < G 6 2) : G 6 2 = 0 := by
  rcases kinds h.1.1.2.2.2.1 with q | q | q
  · exact q
  · exact absurd (by rw [q]; decide) k
  · exact absurd (by rw [q]; decide) k
theorem vN_w {n : Nat} (h : n < 1000) : vN 999 (nI n) := ⟨n, by omega, rfl⟩
theorem vN_l {n : Nat} (h : n < 10000) : vN 100000 (nI n) := ⟨n, by omega, rfl⟩
