/-! ===== making objects where an array of states is made on the way ===== -/
def xPreO (D : va_G) (tys : List (ClassId × FieldType)) (w : va_W) (sz : Nat) (U : State) : Prop := xPre D tys w sz U ∧ va_AO RX4 U
theorem xPreO_blind {av : List Value} {D : va_G} {tys : List (ClassId × FieldType)} {w : va_W} {sz : Nat} : FrameBlind (va_Pc av (xPreO D tys w sz)) := fun a U g mk q => by
  obtain ⟨q0, ⟨q1, qP, qK, qD, qN⟩, qO⟩ := q
  exact ⟨q0, ⟨q1, qP, va_K.moved (u := U) (U := U.calling g mk a) (Vm.Alike.refl U.vm) qK, qD, xN.same (s := U) (U := U.calling g mk a) rfl qN⟩, va_AO.moved (u := U) (U := U.calling g mk a) (Vm.Alike.refl U.vm) qO⟩
def xMO {ι : Type} (l : Launch) (y : MethodName) (ws : List Cond) (d mc ms : Nat) (D : va_G) (tys : List (ClassId × FieldType)) (av : List Value) (w : va_W) (g : ι → va_W) : Prop :=
  ∀ sz : Nat, Met l y ws (rmk d mc ms) (va_Pc av (xPreO D tys w sz)) (xQn D tys g (va_A w sz)) mc ms (va_A w sz)
section XMO
variable {l : Launch} {y : MethodName} {ws ws' : List Cond} {d mc ms : Nat} {D : va_G} {tys : List (ClassId × FieldType)} {av : List Value} {w : va_W} {ι : Type} {g : ι → va_W} {cc : ByteArray} {maxL : Nat} {ret : Option FieldType}
theorem x_inMO (hy1 : y.name = "<init>") (hy : plainName y.cls = true) (hw : ws = Cond.code y cc maxL ret :: ws') (hlen : (lg_sl av).length ≤ maxL)
    (body : ∀ (p : Program) (e : Env) (s : State) (m : MethodId) (args : Array Value) (below : List Frame) (meth : Method) (c : Code) (A : Nat → Prop) (ls : Array Slot), xC p s m meth c args cc maxL ws y.cls D tys ret → xW D A s.heap w s.heap [] → lv_has ls maxL (lv_args 0 av) → meth.name = "<init>" → va_AO RX4 s →
      W p l e (rmk d mc ms) s m args below meth c s.heap [] 0 0 (MQ below (xQn D tys g A) args s mc ms A) (F0 m 0 ls [])) : xMO l y ws d mc ms D tys av w g := by
  intro sz
  refine Met.ofW (cc := cc) (maxL := maxL) (ret := ret) hy hw ?_
  intro p e s m args below meth c s₁ B hml hv
  obtain ⟨rfl, ⟨hsz, hP, hK, hD0, hN⟩, hO⟩ := hv
  have hts := atoms_spec (ws := ws) B.pre
  have hown : s.vm.findClass y.cls = some m.cls := findClass_of_methodNamed B.named
  subst hsz
  have hD := hD0.self (sz := s.heap.size)
  generalize hAe : va_A w s.heap.size = A at hD ⊢
  have hA : ∀ q : Nat, s.heap.size ≤ q → A q := fun q h => by rw [← hAe]; exact Or.inr h
  have hl := lv_entry av (n := maxL) hlen
  rw [lg_entry_eq]
  exact body p e s m _ below meth c A _ ⟨⟨B.exec, B.bytes, hml, hown, hts⟩, hK, B.returns, B.notSynchronized, hN⟩ ⟨hP, hD, va_S.rf, hA⟩ hl ((name_of_methodNamed B.named B.method).1.trans hy1) hO
end XMO
section XMOR
variable {p : Program} {l : Launch} {e : Env} {R : Room} {s : State} {m : MethodId} {args : Array Value} {below : List Frame} {meth : Method} {c : Code} {H : Heap} {locs : List Loc} {cells slots : Nat} {Q : State → Prop}
variable {cc : ByteArray} {nL : Nat} {Ts : List Cond} {own : String} {D : va_G} {tys : List (ClassId × FieldType)} {ret : Option FieldType} {A : Nat → Prop} {ws wc wr : va_W}
variable {pc : Nat} {ls : Array Slot} {rest st0 : List Value} {b : Nat} {ι : Type} {g : ι → va_W} {mc ms : Nat}
variable {y : MethodName} {wsy wsy' : List Cond} {d' index maxL : Nat} {bytes : ByteArray} {lv : List (Nat × Value)}
theorem x_makeO (hO : va_AO RX4 s) (C : xC p s m meth c args cc nL Ts own D tys ret) (w : xW D A s.heap ws H locs) (hl : lv_has ls nL lv) (hM : xMO l y wsy d' mc ms D tys [.ref b] wc g) (hG : GoodIn Ts wsy) (hwy : wsy = Cond.code y bytes maxL none :: wsy') (hlink : Cond.methodLink own index y ∈ Ts) (hini : Cond.initialized y.cls ∈ Ts) (hins : Cond.instanceMethod y ∈ Ts) (hy1 : y.name = "<init>")
    (hd : y.cls ≠ "java/lang/invoke/MethodHandle" ∧ y.cls ≠ "java/lang/invoke/VarHandle" ∧ (parseMethodDescriptor y.desc).map (fun d => d.parameters.length) = some 0) (hRm : d' + 1 ≤ R.frames ∧ 8 + (maxL + 11) + 32 * d' ≤ R.locals)
    (hst : st0 = .ref b :: rest) (hcat : (rest.map fun v => v.category).sum ≤ 8) (hP : ws.Perm (wc ++ wr)) (hf : cells + mc ≤ R.cells ∧ slots + ms ≤ R.slots) (hdg : decode cc pc = .ok (.invokespecial index, 3))
    (kk : ∀ (i : ι) (H1 : Heap) (locs1 : List Loc), xW D A s.heap (g i ++ wr) H1 locs1 → W p l e R s m args below meth c H1 locs1 (cells + mc) (slots + ms) Q (F0 m (pc + 3) ls rest)) : W p l e R s m args below meth c H locs cells slots Q (F0 m pc ls st0) := by
  have wp := x_perm hP w
  have w' := x_left wp
  exact x_goM wp (va_runI (As := []) (rest := rest) C.1 (hM H.size) (cwI 0 C.1.2.2.2.2 hG hwy rfl rfl (C.1.2.2.2.2 _ hini) (C.1.2.2.2.2 _ hlink) (C.1.2.2.2.2 _ hins) hy1 hd hRm) ⟨xPreO_blind, fun U hU hW => ⟨rfl, ⟨by rw [hU], by rw [hU]; exact w'.1, va_K.moved hW.alike C.2.1, w'.2.1.weaken (fun _ _ _ _ => trivial), C.2.2.2.2.warm hW⟩, va_AO.moved hW.alike hO⟩⟩ rfl rfl hl.1 hst (lv_room hcat) hdg hf) kk
end XMOR
