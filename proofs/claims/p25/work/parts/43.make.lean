/-! ===== making objects: worlds that grow ===== -/
def rmk (d mc ms : Nat) : Room := { frames := d, cells := mc, slots := ms, locals := 32 * d }
def xQn {ι : Type} (D : va_G) (tys : List (ClassId × FieldType)) (g : ι → va_W) (A : Nat → Prop) : Array Value → State → Outcome → State → Prop :=
  va_Qv (fun _ : ι => True) (fun i t => xB D tys (g i) A () t) A
/-- 'from the world w the constructor leaves one of the worlds g i, having made so many cells with so many places' -/
def xM {ι : Type} (l : Launch) (y : MethodName) (ws : List Cond) (d mc ms : Nat) (D : va_G) (tys : List (ClassId × FieldType)) (av : List Value) (w : va_W) (g : ι → va_W) : Prop :=
  ∀ sz : Nat, Met l y ws (rmk d mc ms) (va_Pc av (xPre D tys w sz)) (xQn D tys g (va_A w sz)) mc ms (va_A w sz)
section XM
variable {l : Launch} {y : MethodName} {ws ws' : List Cond} {d mc ms : Nat} {D : va_G} {tys : List (ClassId × FieldType)} {av : List Value} {w : va_W} {ι : Type} {g : ι → va_W} {cc : ByteArray} {maxL : Nat} {ret : Option FieldType}
theorem x_inM (hy1 : y.name = "<init>") (hy : plainName y.cls = true) (hw : ws = Cond.code y cc maxL ret :: ws') (hlen : (lg_sl av).length ≤ maxL)
    (body : ∀ (p : Program) (e : Env) (s : State) (m : MethodId) (args : Array Value) (below : List Frame) (meth : Method) (c : Code) (A : Nat → Prop) (ls : Array Slot), xC p s m meth c args cc maxL ws y.cls D tys ret → xW D A s.heap w s.heap [] → lv_has ls maxL (lv_args 0 av) → meth.name = "<init>" →
      W p l e (rmk d mc ms) s m args below meth c s.heap [] 0 0 (MQ below (xQn D tys g A) args s mc ms A) (F0 m 0 ls [])) : xM l y ws d mc ms D tys av w g := by
  intro sz
  refine Met.ofW (cc := cc) (maxL := maxL) (ret := ret) hy hw ?_
  intro p e s m args below meth c s₁ B hml hv
  obtain ⟨rfl, hsz, hP, hK, hD0, hN⟩ := hv
  have hts := atoms_spec (ws := ws) B.pre
  have hown : s.vm.findClass y.cls = some m.cls := findClass_of_methodNamed B.named
  subst hsz
  have hD := hD0.self (sz := s.heap.size)
  generalize hAe : va_A w s.heap.size = A at hD ⊢
  have hA : ∀ q : Nat, s.heap.size ≤ q → A q := fun q h => by rw [← hAe]; exact Or.inr h
  have hl := lv_entry av (n := maxL) hlen
  rw [lg_entry_eq]
  exact body p e s m _ below meth c A _ ⟨⟨B.exec, B.bytes, hml, hown, hts⟩, hK, B.returns, B.notSynchronized, hN⟩ ⟨hP, hD, va_S.rf, hA⟩ hl ((name_of_methodNamed B.named B.method).1.trans hy1)
end XM
section XMR
variable {p : Program} {l : Launch} {e : Env} {R : Room} {s : State} {m : MethodId} {args : Array Value} {below : List Frame} {meth : Method} {c : Code} {H : Heap} {locs : List Loc} {cells slots : Nat} {Q : State → Prop}
variable {cc : ByteArray} {nL : Nat} {Ts : List Cond} {own : String} {D : va_G} {tys : List (ClassId × FieldType)} {ret : Option FieldType} {A : Nat → Prop} {ws wc wr : va_W}
variable {pc : Nat} {ls : Array Slot} {rest st0 : List Value} {a b : Nat} {ι : Type} {g : ι → va_W} {mc ms : Nat}
theorem x_mret (i : ι) (C : xC p s m meth c args cc nL Ts own D tys none) (w : xW D A s.heap ws H locs) (hw : ws = g i) (hdg : decode cc pc = .ok (.return_, 1)) :
    W p l e R s m args below meth c H locs mc ms (MQ below (xQn D tys g A) args s mc ms A) (F0 m pc ls []) := by
  subst hw
  obtain ⟨⟨hx, hb, hml, hown, hts⟩, hK, hret, hlocks, -⟩ := C
  obtain ⟨hP, hD, hS, hA⟩ := w
  exact W.vret hx hb hret (fun t ht hW => ⟨⟨i, rfl, trivial, by rw [ht]; exact hP, va_K.moved hW.alike hK, hD⟩, hS.F ht⟩) hS.2.2 hdg hlocks
theorem x_obj {idx : Nat} {lv : List (Nat × Value)} (C : xC p s m meth c args cc nL Ts own D tys ret) (hl : lv_has ls nL lv) (h1 : Cond.methodLink own idx objectInit ∈ Ts) (h2 : Cond.instanceMethod objectInit ∈ Ts) (h3 : Cond.code objectInit ⟨#[0xb1]⟩ 1 none ∈ Ts) (hd : decode cc pc = .ok (.invokespecial idx, 3)) (hf : 1 ≤ R.frames) (hlo : 12 ≤ R.locals)
    (kk : W p l e R s m args below meth c H locs cells slots Q (F0 m (pc + 3) ls [])) : W p l e R s m args below meth c H locs cells slots Q (F0 m pc ls [.ref a]) := by
  refine W.objInit C.1.1 C.1.2.1 C.1.2.2.2.1 (C.1.2.2.2.2 _ h1) (C.1.2.2.2.2 _ h2) (C.1.2.2.2.2 _ h3) rfl (by rw [C.1.2.2.1]; exact hl.1) rfl hd hf hlo ?_
  exact W.eq (g2 := F0 m (pc + 3) ls []) rfl kk
theorem x_new (C : xC p s m meth c args cc nL Ts own D tys ret) (w : xW D A s.heap ws H locs) {Cn : String} {T : u_T} {N ci index : Nat} (hin : ∀ w ∈ u_ws Cn T N, w ∈ Ts) (ty : Nat → FieldType) (hty : ∀ k, k < N → parseFieldDescriptor (T k).2.2.1 = some (ty k)) (hcl : Cond.classLink own index Cn ∈ Ts) (hinst : Cond.instantiable Cn N ∈ Ts) (hini : Cond.initialized Cn ∈ Ts) (hc : vwCl[ci]? = some (Cn, T, N)) {fs : List Value} (hfs : ∀ j, j < N → defaultValue (ty j) = vp_V fs j) (hcells : cells + 1 ≤ R.cells) (hslots : slots + N ≤ R.slots) (hdg : decode cc pc = .ok (.new index, 3))
    (kk : ∀ (q : Nat) (H1 : Heap), xW D A s.heap (ws ++ [(q, .inr (ci, fs))]) H1 locs → W p l e R s m args below meth c H1 locs (cells + 1) (slots + N) Q (F0 m (pc + 3) ls (.ref q :: rest))) : W p l e R s m args below meth c H locs cells slots Q (F0 m pc ls rest) :=
  va_new C.1.1 C.1.2.1 C.1.2.2.2.2 hin ty hty C.1.2.2.2.1 (C.1.2.2.2.2 _ hcl) (C.1.2.2.2.2 _ hinst) (C.1.2.2.2.2 _ hini) C.2.1 w.1 w.2.1 w.2.2.1 w.2.2.2 hc hfs hcells hslots hdg (fun q H1 h1 h2 h3 => kk q H1 ⟨h1, h2, h3, w.2.2.2⟩)
theorem x_newa {cI : ClassId} (C : xC p s m meth c args cc nL Ts own D tys ret) (w : xW D A s.heap ws H locs) (ht0 : tys[0]? = some (cI, .int)) (harr : Cond.arrayClass .int ∈ Ts) {n : Int32} (N : Nat) (hn : ¬ n < 0) (hN : n.toNatClampNeg = N) (hbytes : N * 4 ≤ 536870912) (hcells : cells + 1 ≤ R.cells) (hslots : slots + N ≤ R.slots) (hdg : decode cc pc = .ok (.newarray .int, 2))
    (kk : ∀ (q : Nat) (H1 : Heap), xW D A s.heap (ws ++ [(q, .inl (cI, N, .inl (fun _ => 0)))]) H1 locs → W p l e R s m args below meth c H1 locs (cells + 1) (slots + N) Q (F0 m (pc + 2) ls (.ref q :: rest))) : W p l e R s m args below meth c H locs cells slots Q (F0 m pc ls (.int n :: rest)) := by
  refine va_newa (atype := .int) (ty := .int) C.1.1 C.1.2.1 (C.1.2.2.2.2 _ harr) rfl C.2.1 w.1 w.2.1 w.2.2.1 w.2.2.2 (a0 := (N, .inl (fun _ => 0))) (fun cA => rfl) hn hN hbytes hcells hslots hdg (fun q cA H1 hK h1 h2 h3 => ?_)
  have e1 : va_RA s cA .int := (hK.2 tys.length (cA, .int) (by rw [List.getElem?_append_right (Nat.le_refl _), Nat.sub_self]; rfl)).2
  have e2 : va_RA s cI .int := (C.2.1.2 0 (cI, .int) ht0).2
  have e : cA = cI := Option.some.inj (e1.symm.trans e2)
  subst e
  exact kk q H1 ⟨h1, h2, h3, w.2.2.2⟩
theorem x_newq {cS : ClassId} {Cq : String} (C : xC p s m meth c args cc nL Ts own D tys ret) (w : xW D A s.heap ws H locs) (ht1 : tys[1]? = some (cS, .object Cq)) {index : Nat} (hcl : Cond.classLink own index Cq ∈ Ts) (hover : va_AO Cq s) {n : Int32} (N : Nat) (hn : ¬ n < 0) (hN : n.toNatClampNeg = N) (hbytes : N * 4 ≤ 536870912) (hcells : cells + 1 ≤ R.cells) (hslots : slots + N ≤ R.slots) (hdg : decode cc pc = .ok (.anewarray index, 3))
    (kk : ∀ (q : Nat) (H1 : Heap), xW D A s.heap (ws ++ [(q, .inl (cS, N, .inr (.inr (.inr (.inr (fun _ => none))))))]) H1 locs → W p l e R s m args below meth c H1 locs (cells + 1) (slots + N) Q (F0 m (pc + 3) ls (.ref q :: rest))) : W p l e R s m args below meth c H locs cells slots Q (F0 m pc ls (.int n :: rest)) := by
  refine va_newq C.1.1 C.1.2.1 C.1.2.2.2.1 (C.1.2.2.2.2 _ hcl) hover C.2.1 w.1 w.2.1 w.2.2.1 w.2.2.2 hn hN hbytes hcells hslots hdg (fun q cA H1 hK h1 h2 h3 => ?_)
  obtain ⟨-, -, -, -, -, e1⟩ := (hK.2 tys.length (cA, .object Cq) (by rw [List.getElem?_append_right (Nat.le_refl _), Nat.sub_self]; rfl)).2
  obtain ⟨-, -, -, -, -, e2⟩ := (C.2.1.2 1 (cS, .object Cq) ht1).2
  have e : cA = cS := Option.some.inj (e1.symm.trans e2)
  subst e
  exact kk q H1 ⟨h1, h2, h3, w.2.2.2⟩
theorem x_goM (w : xW D A s.heap (wc ++ wr) H locs) {av : Array Value} (hr : va_Run p l e R s m args below meth c H locs cells slots mc ms (F0 m pc ls st0) rest (xQn D tys g (va_A wc H.size) av) (va_A wc H.size))
    (kk : ∀ (i : ι) (H1 : Heap) (locs1 : List Loc), xW D A s.heap (g i ++ wr) H1 locs1 → W p l e R s m args below meth c H1 locs1 (cells + mc) (slots + ms) Q (F0 m (pc + 3) ls rest)) : W p l e R s m args below meth c H locs cells slots Q (F0 m pc ls st0) := by
  have hFc : ∀ q, va_A wc H.size q → A q := by
    intro q h
    rcases h with ⟨k, e, h⟩ | h
    · exact w.2.1.2 k (q, e) (by rw [List.getElem?_append_left (List.getElem?_eq_some_iff.mp h).1]; exact h)
    · exact w.2.2.2 q (Nat.le_trans w.2.2.1.1 h)
  refine va_callv hr w.2.2.1 (fun q _ h => hFc q h) hFc (fun u t H1 locs1 ht hvm hw hB hz1 hk1 hS => ?_)
  obtain ⟨hP1, hK1, hD1⟩ := hB
  rw [ht] at hP1
  exact kk u H1 locs1 (x_backB w hk1 hP1 hD1 hS)
theorem x_putF (C : xC p s m meth c args cc nL Ts own D tys ret) (hin2 : meth.name = "<init>") (w : xW D A s.heap ws H locs) (q0 k : Nat) {ci : Nat} {fs : List Value} {Cn : String} {T : u_T} {N index : Nat} {v : Value} {ty : FieldType} {ws2 : va_W} (he : ws[q0]? = some (a, .inr (ci, fs))) (hc : vwCl[ci]? = some (Cn, T, N)) (hin : ∀ w ∈ u_ws Cn T N, w ∈ Ts) (ty0 : Nat → FieldType) (hty : ∀ k, k < N → parseFieldDescriptor (T k).2.2.1 = some (ty0 k)) (hnm : ∀ a, a < N → ∀ b, b < N → a ≠ b → (T a).2.1 ≠ (T b).2.1) (hlink : Cond.fieldLink own index (T k).1 (T k).2.1 (T k).2.2.1 ∈ Ts) (hk : k < N) (hl : k < fs.length)
    (hfin : (T k).2.2.2 = true) (hdecl : (T k).1 = own) (hd : parseFieldDescriptor (T k).2.2.1 = some ty) (hn : narrow ty v = v) (hfit : fits ty v = true) (hw2 : ws.set q0 (a, .inr (ci, fs.set k v)) = ws2) (hdg : decode cc pc = .ok (.putfield index, 3))
    (kk : ∀ (H1 : Heap) (locs1 : List Loc), xW D A s.heap ws2 H1 locs1 → W p l e R s m args below meth c H1 locs1 cells slots Q (F0 m (pc + 3) ls rest)) : W p l e R s m args below meth c H locs cells slots Q (F0 m pc ls (v :: .ref a :: rest)) := by
  subst hw2
  exact va_putF (D := D) C.1.1 C.1.2.1 C.1.2.2.2.2 hin ty0 hty hnm C.1.2.2.2.1 C.2.1 w.1 w.2.1 w.2.2.1 q0 he hc k hk (C.1.2.2.2.2 _ hlink) (fun _ h => h) hfin hin2 hdecl hd hn hfit hl hdg (fun H1 locs1 h1 h2 h3 => kk H1 locs1 ⟨h1, h2, h3, w.2.2.2⟩)
/-- the state, the order at the start -/
def Z0 : St := fun _ _ => 0
def zF : Nat → Int32 := fun _ => 0
def oN : Nat → Int32 := fun j => if j = 2 then -1 else 0
def N0 : St := fun r j => if r = 6 then (if j = 0 then 1000 else 0) else if r = 8 then (if j = 0 then 100 else if j = 1 then 100 else if j = 2 then 20 else if j = 3 then 200 else 0) else 0
variable {y : MethodName} {wsy wsy' : List Cond} {d' index maxL : Nat} {bytes : ByteArray} {lv : List (Nat × Value)}
theorem x_makeN (C : xC p s m meth c args cc nL Ts own D tys ret) (w : xW D A s.heap ws H locs) (hl : lv_has ls nL lv) (hM : xM l y wsy d' mc ms D tys [.ref b] wc g) (hG : GoodIn Ts wsy) (hwy : wsy = Cond.code y bytes maxL none :: wsy') (hlink : (own, index, y) ∈ nestL) (hini : Cond.initialized y.cls ∈ Ts) (hins : Cond.instanceMethod y ∈ Ts) (hy1 : y.name = "<init>")
    (hd : y.cls ≠ "java/lang/invoke/MethodHandle" ∧ y.cls ≠ "java/lang/invoke/VarHandle" ∧ (parseMethodDescriptor y.desc).map (fun d => d.parameters.length) = some 0) (hRm : d' + 1 ≤ R.frames ∧ 8 + (maxL + 11) + 32 * d' ≤ R.locals)
    (hst : st0 = .ref b :: rest) (hcat : (rest.map fun v => v.category).sum ≤ 8) (hP : ws.Perm (wc ++ wr)) (hf : cells + mc ≤ R.cells ∧ slots + ms ≤ R.slots) (hdg : decode cc pc = .ok (.invokespecial index, 3))
    (kk : ∀ (i : ι) (H1 : Heap) (locs1 : List Loc), xW D A s.heap (g i ++ wr) H1 locs1 → W p l e R s m args below meth c H1 locs1 (cells + mc) (slots + ms) Q (F0 m (pc + 3) ls rest)) : W p l e R s m args below meth c H locs cells slots Q (F0 m pc ls st0) := by
  have wp := x_perm hP w
  exact x_goM wp (va_runIN (As := []) (rest := rest) C.1 (hM H.size) ⟨va_cnB 0 C.1.2.2.2.2 hG hwy rfl rfl (C.2.2.2.2 _ hlink) (C.1.2.2.2.2 _ hini) hd hRm, hy1, C.1.2.2.2.2 _ hins⟩ (x_preB C (x_left wp)) rfl rfl hl.1 hst (lv_room hcat) hdg hf) kk
theorem x_make (C : xC p s m meth c args cc nL Ts own D tys ret) (w : xW D A s.heap ws H locs) (hl : lv_has ls nL lv) (hM : xM l y wsy d' mc ms D tys [.ref b] wc g) (hG : GoodIn Ts wsy) (hwy : wsy = Cond.code y bytes maxL none :: wsy') (hlink : Cond.methodLink own index y ∈ Ts) (hini : Cond.initialized y.cls ∈ Ts) (hins : Cond.instanceMethod y ∈ Ts) (hy1 : y.name = "<init>")
    (hd : y.cls ≠ "java/lang/invoke/MethodHandle" ∧ y.cls ≠ "java/lang/invoke/VarHandle" ∧ (parseMethodDescriptor y.desc).map (fun d => d.parameters.length) = some 0) (hRm : d' + 1 ≤ R.frames ∧ 8 + (maxL + 11) + 32 * d' ≤ R.locals)
    (hst : st0 = .ref b :: rest) (hcat : (rest.map fun v => v.category).sum ≤ 8) (hP : ws.Perm (wc ++ wr)) (hf : cells + mc ≤ R.cells ∧ slots + ms ≤ R.slots) (hdg : decode cc pc = .ok (.invokespecial index, 3))
    (kk : ∀ (i : ι) (H1 : Heap) (locs1 : List Loc), xW D A s.heap (g i ++ wr) H1 locs1 → W p l e R s m args below meth c H1 locs1 (cells + mc) (slots + ms) Q (F0 m (pc + 3) ls rest)) : W p l e R s m args below meth c H locs cells slots Q (F0 m pc ls st0) := by
  have wp := x_perm hP w
  exact x_goM wp (va_runI (As := []) (rest := rest) C.1 (hM H.size) (cwI 0 C.1.2.2.2.2 hG hwy rfl rfl (C.1.2.2.2.2 _ hini) (C.1.2.2.2.2 _ hlink) (C.1.2.2.2.2 _ hins) hy1 hd hRm) (x_preB C (x_left wp)) rfl rfl hl.1 hst (lv_room hcat) hdg hf) kk
end XMR
