/-! ===== ROWS OF MINE over the kit's: a frame's constants (xC), its world (xW), contracts that tell one answer and one world (xI, xV), entry, calls, returns ===== -/
/-- the calls of private methods of nest mates, by their links: they travel with every start -/
def nestL : List (String × Nat × MethodName) := [(RX1, 25, yX6_isWithin), (RX4, 72, yX6_copyRow), (RX4, 80, yX6_isLine), (RX4, 114, yX6_isPlace), (RX6, 9, yX4_init), (RX4, 11, yX0_init), (RX1, 21, yX4_init), (RX6, 25, yX5_init), (RX6, 32, yX3_init), (RX3, 11, yX4_init), (RX3, 20, yX2_init), (RX6, 39, yX0_init)]
def xN (U : State) : Prop := ∀ q ∈ nestL, va_Nw (.methodLinkNest q.1 q.2.1 q.2.2 RX6) U
theorem xN.warm {s U : State} (hW : s.WarmedH U.vm) (h : xN s) : xN U := fun q hq => va_Nw.warmM hW (h q hq)
theorem xN.same {s U : State} (hv : s.vm = U.vm) (h : xN s) : xN U := fun q hq => va_Nw.same rfl hv (h q hq)
def rmd (d : Nat) : Room := { frames := d, cells := 0, slots := 0, locals := 32 * d }
def xC (p : Program) (s : State) (m : MethodId) (meth : Method) (c : Code) (args : Array Value) (cc : ByteArray) (nL : Nat) (Ts : List Cond) (own : String) (D : va_G) (tys : List (ClassId × FieldType)) (ret : Option FieldType) : Prop :=
  CallFix p m c cc nL s args Ts own ∧ va_K D vwCl tys s ∧ meth.sig.returnType = ret ∧ meth.locks = false ∧ xN s
def xW (D : va_G) (A : Nat → Prop) (H0 : Heap) (ws : va_W) (H : Heap) (locs : List Loc) : Prop :=
  va_P D vwCl ws H ∧ va_D A ws ∧ va_S A H0 H locs ∧ ∀ q : Nat, H0.size ≤ q → A q
def xPre (D : va_G) (tys : List (ClassId × FieldType)) (w : va_W) (sz : Nat) (U : State) : Prop :=
  U.heap.size = sz ∧ va_P D vwCl w U.heap ∧ va_K D vwCl tys U ∧ va_D (fun _ => True) w ∧ xN U
def xB (D : va_G) (tys : List (ClassId × FieldType)) (w : va_W) (A : Nat → Prop) (_ : Unit) (t : State) : Prop :=
  va_P D vwCl w t.heap ∧ va_K D vwCl tys t ∧ va_D A w
def xQi (D : va_G) (tys : List (ClassId × FieldType)) (rv : Int32) (w' : va_W) (A : Nat → Prop) : Array Value → State → Outcome → State → Prop :=
  va_Qi (fun (r : Int32) (_ : Unit) => r = rv) (xB D tys w' A) A
def xQv (D : va_G) (tys : List (ClassId × FieldType)) (w' : va_W) (A : Nat → Prop) : Array Value → State → Outcome → State → Prop :=
  va_Qv (fun (_ : Unit) => True) (xB D tys w' A) A
/-- 'from the world w, with these arguments, the method answers rv and leaves the world w'' -/
def xI (l : Launch) (y : MethodName) (ws : List Cond) (d : Nat) (D : va_G) (tys : List (ClassId × FieldType)) (av : List Value) (w : va_W) (rv : Int32) (w' : va_W) : Prop :=
  ∀ sz : Nat, Met l y ws (rmd d) (va_Pc av (xPre D tys w sz)) (xQi D tys rv w' (va_A w sz)) 0 0 (va_A w sz)
def xV (l : Launch) (y : MethodName) (ws : List Cond) (d : Nat) (D : va_G) (tys : List (ClassId × FieldType)) (av : List Value) (w : va_W) (w' : va_W) : Prop :=
  ∀ sz : Nat, Met l y ws (rmd d) (va_Pc av (xPre D tys w sz)) (xQv D tys w' (va_A w sz)) 0 0 (va_A w sz)
theorem xPre_blind {av : List Value} {D : va_G} {tys : List (ClassId × FieldType)} {w : va_W} {sz : Nat} : FrameBlind (va_Pc av (xPre D tys w sz)) := fun a U g mk q => by
  obtain ⟨q0, q1, qP, qK, qD, qN⟩ := q
  exact ⟨q0, q1, qP, va_K.moved (u := U) (U := U.calling g mk a) (Vm.Alike.refl U.vm) qK, qD, xN.same (s := U) (U := U.calling g mk a) rfl qN⟩
section XE
variable {l : Launch} {y : MethodName} {ws ws' : List Cond} {d : Nat} {D : va_G} {tys : List (ClassId × FieldType)} {av : List Value} {w w' : va_W} {rv : Int32} {cc : ByteArray} {maxL : Nat} {ret : Option FieldType}
theorem x_inI (hy : plainName y.cls = true) (hw : ws = Cond.code y cc maxL ret :: ws') (hlen : (lg_sl av).length ≤ maxL)
    (body : ∀ (p : Program) (e : Env) (s : State) (m : MethodId) (args : Array Value) (below : List Frame) (meth : Method) (c : Code) (A : Nat → Prop) (ls : Array Slot), xC p s m meth c args cc maxL ws y.cls D tys ret → xW D A s.heap w s.heap [] → lv_has ls maxL (lv_args 0 av) →
      W p l e (rmd d) s m args below meth c s.heap [] 0 0 (MQ below (xQi D tys rv w' A) args s 0 0 A) (F0 m 0 ls [])) : xI l y ws d D tys av w rv w' := by
  intro sz
  refine Met.ofW (cc := cc) (maxL := maxL) (ret := ret) hy hw ?_
  intro p e s m args below meth c s₁ B hml hv
  obtain ⟨rfl, hsz, hP, hK, hD0, hN⟩ := hv
  have hts := atoms_spec (ws := ws) B.pre
  have hown : s.vm.findClass y.cls = some m.cls := findClass_of_methodNamed B.named
  subst hsz
  have hD := hD0.self (sz := s.heap.size)
  generalize hAe : va_A w s.heap.size = A at hD ⊢
  have hA : ∀ q : Nat, s.heap.size ≤ q → A q := fun q h => by rw [← hAe]; exact Or.inr h
  have hl := lv_entry av (n := maxL) hlen
  rw [lg_entry_eq]
  exact body p e s m _ below meth c A _ ⟨⟨B.exec, B.bytes, hml, hown, hts⟩, hK, B.returns, B.notSynchronized, hN⟩ ⟨hP, hD, va_S.rf, hA⟩ hl
theorem x_inV (hy : plainName y.cls = true) (hw : ws = Cond.code y cc maxL ret :: ws') (hlen : (lg_sl av).length ≤ maxL)
    (body : ∀ (p : Program) (e : Env) (s : State) (m : MethodId) (args : Array Value) (below : List Frame) (meth : Method) (c : Code) (A : Nat → Prop) (ls : Array Slot), xC p s m meth c args cc maxL ws y.cls D tys ret → xW D A s.heap w s.heap [] → lv_has ls maxL (lv_args 0 av) →
      W p l e (rmd d) s m args below meth c s.heap [] 0 0 (MQ below (xQv D tys w' A) args s 0 0 A) (F0 m 0 ls [])) : xV l y ws d D tys av w w' := by
  intro sz
  refine Met.ofW (cc := cc) (maxL := maxL) (ret := ret) hy hw ?_
  intro p e s m args below meth c s₁ B hml hv
  obtain ⟨rfl, hsz, hP, hK, hD0, hN⟩ := hv
  have hts := atoms_spec (ws := ws) B.pre
  have hown : s.vm.findClass y.cls = some m.cls := findClass_of_methodNamed B.named
  subst hsz
  have hD := hD0.self (sz := s.heap.size)
  generalize hAe : va_A w s.heap.size = A at hD ⊢
  have hA : ∀ q : Nat, s.heap.size ≤ q → A q := fun q h => by rw [← hAe]; exact Or.inr h
  have hl := lv_entry av (n := maxL) hlen
  rw [lg_entry_eq]
  exact body p e s m _ below meth c A _ ⟨⟨B.exec, B.bytes, hml, hown, hts⟩, hK, B.returns, B.notSynchronized, hN⟩ ⟨hP, hD, va_S.rf, hA⟩ hl
end XE
section XR
variable {p : Program} {l : Launch} {e : Env} {R : Room} {s : State} {m : MethodId} {args : Array Value} {below : List Frame} {meth : Method} {c : Code} {H : Heap} {locs : List Loc} {cells slots : Nat} {Q : State → Prop}
variable {cc : ByteArray} {nL : Nat} {Ts : List Cond} {own : String} {D : va_G} {tys : List (ClassId × FieldType)} {ret : Option FieldType} {A : Nat → Prop} {H0 : Heap} {ws : va_W}
variable {pc : Nat} {ls : Array Slot} {rest : List Value} {a : Nat}
theorem x_iret {rv v : Int32} {w' : va_W} (C : xC p s m meth c args cc nL Ts own D tys (some .int)) (w : xW D A s.heap ws H locs) (hr : v = rv) (hw : ws = w') (hdg : decode cc pc = .ok (.ireturn, 1)) :
    W p l e R s m args below meth c H locs 0 0 (MQ below (xQi D tys rv w' A) args s 0 0 A) (F0 m pc ls [.int v]) := by
  subst hr; subst hw
  obtain ⟨⟨hx, hb, hml, hown, hts⟩, hK, hret, hlocks, -⟩ := C
  obtain ⟨hP, hD, hS, hA⟩ := w
  exact W.iret (v := v) hx hb hret (fun t ht hW => ⟨⟨v, (), rfl, rfl, by rw [ht]; exact hP, va_K.moved hW.alike hK, hD⟩, hS.F ht⟩) hS.2.2 hdg hlocks
theorem x_zret {rv v : Int32} {w' : va_W} (C : xC p s m meth c args cc nL Ts own D tys (some .boolean)) (w : xW D A s.heap ws H locs) (hz : v = 0 ∨ v = 1) (hr : v = rv) (hw : ws = w') (hdg : decode cc pc = .ok (.ireturn, 1)) :
    W p l e R s m args below meth c H locs 0 0 (MQ below (xQi D tys rv w' A) args s 0 0 A) (F0 m pc ls [.int v]) := by
  subst hr; subst hw
  obtain ⟨⟨hx, hb, hml, hown, hts⟩, hK, hret, hlocks, -⟩ := C
  obtain ⟨hP, hD, hS, hA⟩ := w
  have hn : narrow .boolean (.int v) = .int v := by rcases hz with rfl | rfl <;> decide
  exact W.zret (v := v) hx hb hret hn (fun t ht hW => ⟨⟨v, (), rfl, rfl, by rw [ht]; exact hP, va_K.moved hW.alike hK, hD⟩, hS.F ht⟩) hS.2.2 hdg hlocks
theorem x_vret {w' : va_W} (C : xC p s m meth c args cc nL Ts own D tys none) (w : xW D A s.heap ws H locs) (hw : ws = w') (hdg : decode cc pc = .ok (.return_, 1)) :
    W p l e R s m args below meth c H locs 0 0 (MQ below (xQv D tys w' A) args s 0 0 A) (F0 m pc ls []) := by
  subst hw
  obtain ⟨⟨hx, hb, hml, hown, hts⟩, hK, hret, hlocks, -⟩ := C
  obtain ⟨hP, hD, hS, hA⟩ := w
  exact W.vret hx hb hret (fun t ht hW => ⟨⟨(), rfl, trivial, by rw [ht]; exact hP, va_K.moved hW.alike hK, hD⟩, hS.F ht⟩) hS.2.2 hdg hlocks
theorem x_get (C : xC p s m meth c args cc nL Ts own D tys ret) (w : xW D A H0 ws H locs) (q0 k : Nat) {ci : Nat} {fs : List Value} {Cn : String} {T : u_T} {N index : Nat} {v : Value} (he : ws[q0]? = some (a, .inr (ci, fs))) (hc : vwCl[ci]? = some (Cn, T, N)) (hin : ∀ w ∈ u_ws Cn T N, w ∈ Ts) (hlink : Cond.fieldLink own index (T k).1 (T k).2.1 (T k).2.2.1 ∈ Ts) (hk : k < N) (hv : fs[k]? = some v) (hdg : decode cc pc = .ok (.getfield index, 3))
    (kk : W p l e R s m args below meth c H locs cells slots Q (F0 m (pc + 3) ls (v :: rest))) : W p l e R s m args below meth c H locs cells slots Q (F0 m pc ls (.ref a :: rest)) :=
  va_get (D := D) C.1.1 C.1.2.1 C.1.2.2.2.2 hin C.1.2.2.2.1 C.2.1 w.1 q0 he hc k hk (C.1.2.2.2.2 _ hlink) (fun _ h => h) hv hdg kk
theorem x_put (C : xC p s m meth c args cc nL Ts own D tys ret) (w : xW D A H0 ws H locs) (q0 k : Nat) {ci : Nat} {fs : List Value} {Cn : String} {T : u_T} {N index : Nat} {v : Value} {ty : FieldType} {ws2 : va_W} (he : ws[q0]? = some (a, .inr (ci, fs))) (hc : vwCl[ci]? = some (Cn, T, N)) (hin : ∀ w ∈ u_ws Cn T N, w ∈ Ts) (ty0 : Nat → FieldType) (hty : ∀ k, k < N → parseFieldDescriptor (T k).2.2.1 = some (ty0 k)) (hnm : ∀ a, a < N → ∀ b, b < N → a ≠ b → (T a).2.1 ≠ (T b).2.1) (hlink : Cond.fieldLink own index (T k).1 (T k).2.1 (T k).2.2.1 ∈ Ts) (hk : k < N) (hl : k < fs.length)
    (hfin : (T k).2.2.2 = false) (hd : parseFieldDescriptor (T k).2.2.1 = some ty) (hn : narrow ty v = v) (hfit : fits ty v = true) (hw2 : ws.set q0 (a, .inr (ci, fs.set k v)) = ws2) (hdg : decode cc pc = .ok (.putfield index, 3))
    (kk : ∀ (H1 : Heap) (locs1 : List Loc), xW D A H0 ws2 H1 locs1 → W p l e R s m args below meth c H1 locs1 cells slots Q (F0 m (pc + 3) ls rest)) : W p l e R s m args below meth c H locs cells slots Q (F0 m pc ls (v :: .ref a :: rest)) := by
  subst hw2
  exact va_put (D := D) C.1.1 C.1.2.1 C.1.2.2.2.2 hin ty0 hty hnm C.1.2.2.2.1 C.2.1 w.1 w.2.1 w.2.2.1 q0 he hc k hk (C.1.2.2.2.2 _ hlink) (fun _ h => h) hfin hd hn hfit hl hdg (fun H1 locs1 h1 h2 h3 => kk H1 locs1 ⟨h1, h2, h3, w.2.2.2⟩)
theorem x_iald (C : xC p s m meth c args cc nL Ts own D tys ret) (w : xW D A H0 ws H locs) (q0 t0 : Nat) {cA : ClassId} {n : Nat} {f : Nat → Int32} {i v : Int32} (j : Nat) (ha : ws[q0]? = some (a, .inl (cA, n, .inl f))) (ht : tys[t0]? = some (cA, .int)) (hi : i = nI j) (hj : j < n) (hn : n < 2 ^ 31) (hv : f j = v) (hdg : decode cc pc = .ok (.iaload, 1))
    (kk : W p l e R s m args below meth c H locs cells slots Q (F0 m (pc + 1) ls (.int v :: rest))) : W p l e R s m args below meth c H locs cells slots Q (F0 m pc ls (.int i :: .ref a :: rest)) := by
  subst hi
  refine va_iald (D := D) C.1.1 C.1.2.1 C.2.1 w.1 q0 t0 ha ht (vp_in_nI hj hn) hdg ?_
  rw [nI_clamp (Nat.lt_trans hj hn), hv]
  exact kk
theorem x_iast (C : xC p s m meth c args cc nL Ts own D tys ret) (w : xW D A H0 ws H locs) (q0 t0 : Nat) {cA : ClassId} {n : Nat} {f : Nat → Int32} {i x : Int32} {ws2 : va_W} (j : Nat) (ha : ws[q0]? = some (a, .inl (cA, n, .inl f))) (ht : tys[t0]? = some (cA, .int)) (hi : i = nI j) (hj : j < n) (hn : n < 2 ^ 31) (hw2 : ws.set q0 (a, .inl (cA, n, .inl (upd f j x))) = ws2) (hdg : decode cc pc = .ok (.iastore, 1))
    (kk : ∀ (H1 : Heap) (locs1 : List Loc), xW D A H0 ws2 H1 locs1 → W p l e R s m args below meth c H1 locs1 cells slots Q (F0 m (pc + 1) ls rest)) : W p l e R s m args below meth c H locs cells slots Q (F0 m pc ls (.int x :: .int i :: .ref a :: rest)) := by
  subst hi
  subst hw2
  refine va_iast (D := D) C.1.1 C.1.2.1 C.2.1 w.1 w.2.1 w.2.2.1 q0 t0 ha ht (vp_in_nI hj hn) hdg (fun H1 locs1 h1 h2 h3 => ?_)
  rw [nI_clamp (Nat.lt_trans hj hn)] at h1 h2
  exact kk H1 locs1 ⟨h1, h2, h3, w.2.2.2⟩
theorem x_alen (C : xC p s m meth c args cc nL Ts own D tys ret) (w : xW D A H0 ws H locs) (q0 t0 : Nat) {cA : ClassId} {n : Nat} {x : (Nat → Int32) ⊕ (Nat → Int64) ⊕ (Nat → UInt32) ⊕ (Nat → UInt64) ⊕ (Nat → Option Nat)} {ty : FieldType} (ha : ws[q0]? = some (a, .inl (cA, n, x))) (ht : tys[t0]? = some (cA, ty)) (hdg : decode cc pc = .ok (.arraylength, 1))
    (kk : W p l e R s m args below meth c H locs cells slots Q (F0 m (pc + 1) ls (.int (nI n) :: rest))) : W p l e R s m args below meth c H locs cells slots Q (F0 m pc ls (.ref a :: rest)) :=
  va_alen (D := D) C.1.1 C.1.2.1 C.2.1 w.1 q0 t0 ha ht (v := nI n) rfl hdg kk
/-- the world written in another way -/
theorem x_ws {ws2 : va_W} (h : ws = ws2) (w : xW D A H0 ws H locs) : xW D A H0 ws2 H locs := h ▸ w
theorem x_sub {ws2 : va_W} (w : xW D A H0 ws H locs) (is : List Nat) (hn : va_nd is = true) (hs : is.map (fun i => ws[i]?) = ws2.map some) : xW D A H0 ws2 H locs := by
  refine ⟨fun k q hq => ?_, w.2.1.sub is hn hs, w.2.2⟩
  have h1 : (is.map (fun i => ws[i]?))[k]? = some (some q) := by rw [hs, List.getElem?_map, hq]; rfl
  rw [List.getElem?_map] at h1
  cases hi : is[k]? with
  | none => rw [hi] at h1; cases h1
  | some i => rw [hi] at h1; exact w.1 i q (Option.some.inj h1)
/-- an array of ints told by another function that is the same on its places -/
theorem x_ext (w : xW D A H0 ws H locs) (q0 : Nat) {cA : ClassId} {n : Nat} {f g : Nat → Int32} {ws2 : va_W} (ha : ws[q0]? = some (a, .inl (cA, n, .inl f))) (hfg : ∀ j, j < n → f j = g j) (hw2 : ws.set q0 (a, .inl (cA, n, .inl g)) = ws2) : xW D A H0 ws2 H locs := by
  subst hw2
  refine ⟨w.1.set w.2.1 ha ?_ (fun q _ => rfl), w.2.1.set ha, w.2.2⟩
  have h0 : H[a]? = some (vp_cell cA (n, .inl f)) := w.1 q0 _ ha
  show H[a]? = some (vp_cell cA (n, .inl g))
  rw [h0, vp_cell_i, vp_cell_i]
  have e : (Array.ofFn (n := n) fun j => Value.int (f j.val)) = Array.ofFn (n := n) fun j => Value.int (g j.val) := by
    congr 1
    funext j
    rw [hfg j.val j.isLt]
  unfold arrV
  rw [e]
/-! arithmetic on known naturals -/
theorem x_iaddN {i j : Nat} (hx : p.tables.exec = Jvm.exec) (hb : c.code = cc) (hdg : decode cc pc = .ok (.iadd, 1)) (kk : W p l e R s m args below meth c H locs cells slots Q (F0 m (pc + 1) ls (.int (nI (i + j)) :: rest))) : W p l e R s m args below meth c H locs cells slots Q (F0 m pc ls (.int (nI j) :: .int (nI i) :: rest)) :=
  lv_iadd hx hb hdg (by rw [nI_add]; exact kk)
theorem x_imulN {i j : Nat} (hx : p.tables.exec = Jvm.exec) (hb : c.code = cc) (hdg : decode cc pc = .ok (.imul, 1)) (kk : W p l e R s m args below meth c H locs cells slots Q (F0 m (pc + 1) ls (.int (nI (i * j)) :: rest))) : W p l e R s m args below meth c H locs cells slots Q (F0 m pc ls (.int (nI j) :: .int (nI i) :: rest)) :=
  lv_imul hx hb hdg (by rw [pk_mul]; exact kk)
theorem x_isubN {i j : Nat} (hx : p.tables.exec = Jvm.exec) (hb : c.code = cc) (hle : j ≤ i) (hdg : decode cc pc = .ok (.isub, 1)) (kk : W p l e R s m args below meth c H locs cells slots Q (F0 m (pc + 1) ls (.int (nI (i - j)) :: rest))) : W p l e R s m args below meth c H locs cells slots Q (F0 m pc ls (.int (nI j) :: .int (nI i) :: rest)) :=
  lv_isub hx hb hdg (by rw [pk_sub hle]; exact kk)
theorem x_idivN {i j : Nat} (hx : p.tables.exec = Jvm.exec) (hb : c.code = cc) (hi : i < 2 ^ 31) (h0 : 0 < j) (hj : j < 2 ^ 31) (hdg : decode cc pc = .ok (.idiv, 1)) (kk : W p l e R s m args below meth c H locs cells slots Q (F0 m (pc + 1) ls (.int (nI (i / j)) :: rest))) : W p l e R s m args below meth c H locs cells slots Q (F0 m pc ls (.int (nI j) :: .int (nI i) :: rest)) :=
  lv_idiv hx hb hdg (nI_ne0 h0 hj) (by rw [pk_div hi h0 hj]; exact kk)
/-- the top is another word for the same int -/
theorem x_top {x y : Int32} (h : x = y) (kk : W p l e R s m args below meth c H locs cells slots Q (F0 m pc ls (.int y :: rest))) : W p l e R s m args below meth c H locs cells slots Q (F0 m pc ls (.int x :: rest)) := h ▸ kk
end XR
section XG
variable {p : Program} {l : Launch} {e : Env} {R : Room} {s : State} {m : MethodId} {args : Array Value} {below : List Frame} {meth : Method} {c : Code} {H : Heap} {locs : List Loc} {cells slots : Nat} {Q : State → Prop}
variable {cc : ByteArray} {nL : Nat} {Ts : List Cond} {own : String} {D : va_G} {tys : List (ClassId × FieldType)} {ret : Option FieldType} {A : Nat → Prop} {ws : va_W}
variable {pc : Nat} {ls : Array Slot} {rest st0 : List Value} {a : Array Value} {wc wc' wr w2 : va_W} {rv : Int32}
theorem x_back (w : xW D A s.heap ws H locs) (isC isR : List Nat) (hC : isC.map (fun i => ws[i]?) = wc.map some) (hR : isR.map (fun i => ws[i]?) = wr.map some) (hn : va_nd isR = true) (hdis : ∀ i ∈ isR, i ∉ isC) (isW : List Nat) (hnW : va_nd isW = true) (hW2 : isW.map (fun i => (wr ++ wc')[i]?) = w2.map some)
    {H1 : Heap} {locs1 : List Loc} (hk1 : ∀ q : Nat, q < H.size → ¬ va_A wc H.size q → H1[q]? = H[q]?) (hP1 : va_P D vwCl wc' H1) (hD1 : va_D (va_A wc H.size) wc') (hS1 : va_S A s.heap H1 locs1) : xW D A s.heap w2 H1 locs1 := by
  have hFc := va_free (wc := wc) w.2.1 w.2.2.1 w.2.2.2 isC hC
  obtain ⟨hP2, hD2⟩ := va_join (wr := wr) (w1 := wc') w.1 w.2.1 isC isR hC hR hn hdis hk1 hFc hP1 hD1
  exact x_sub ⟨hP2, hD2, hS1, w.2.2.2⟩ isW hnW hW2
theorem x_goi (w : xW D A s.heap ws H locs) (hr : va_Run p l e R s m args below meth c H locs cells slots 0 0 (F0 m pc ls st0) rest (xQi D tys rv wc' (va_A wc H.size) a) (va_A wc H.size)) (isC isR : List Nat) (hC : isC.map (fun i => ws[i]?) = wc.map some) (hR : isR.map (fun i => ws[i]?) = wr.map some) (hn : va_nd isR = true) (hdis : ∀ i ∈ isR, i ∉ isC) (isW : List Nat) (hnW : va_nd isW = true) (hW2 : isW.map (fun i => (wr ++ wc')[i]?) = w2.map some)
    (kk : ∀ (H1 : Heap) (locs1 : List Loc), xW D A s.heap w2 H1 locs1 → W p l e R s m args below meth c H1 locs1 cells slots Q (F0 m (pc + 3) ls (.int rv :: rest))) : W p l e R s m args below meth c H locs cells slots Q (F0 m pc ls st0) := by
  have hFc := va_free (wc := wc) w.2.1 w.2.2.1 w.2.2.2 isC hC
  refine va_calli hr w.2.2.1 (fun q _ h => hFc q h) hFc (fun r u t H1 locs1 ht hvm hw hB hz1 hk1 hS => ?_)
  obtain ⟨hP1, hK1, hD1⟩ := hB
  rw [ht] at hP1
  have hw : r = rv := hw
  subst hw
  exact kk H1 locs1 (x_back w isC isR hC hR hn hdis isW hnW hW2 hk1 hP1 hD1 hS)
theorem x_gov (w : xW D A s.heap ws H locs) (hr : va_Run p l e R s m args below meth c H locs cells slots 0 0 (F0 m pc ls st0) rest (xQv D tys wc' (va_A wc H.size) a) (va_A wc H.size)) (isC isR : List Nat) (hC : isC.map (fun i => ws[i]?) = wc.map some) (hR : isR.map (fun i => ws[i]?) = wr.map some) (hn : va_nd isR = true) (hdis : ∀ i ∈ isR, i ∉ isC) (isW : List Nat) (hnW : va_nd isW = true) (hW2 : isW.map (fun i => (wr ++ wc')[i]?) = w2.map some)
    (kk : ∀ (H1 : Heap) (locs1 : List Loc), xW D A s.heap w2 H1 locs1 → W p l e R s m args below meth c H1 locs1 cells slots Q (F0 m (pc + 3) ls rest)) : W p l e R s m args below meth c H locs cells slots Q (F0 m pc ls st0) := by
  have hFc := va_free (wc := wc) w.2.1 w.2.2.1 w.2.2.2 isC hC
  refine va_callv hr w.2.2.1 (fun q _ h => hFc q h) hFc (fun u t H1 locs1 ht hvm hw hB hz1 hk1 hS => ?_)
  obtain ⟨hP1, hK1, hD1⟩ := hB
  rw [ht] at hP1
  exact kk H1 locs1 (x_back w isC isR hC hR hn hdis isW hnW hW2 hk1 hP1 hD1 hS)
theorem x_pre {As : List Value} (C : xC p s m meth c args cc nL Ts own D tys ret) (w : xW D A s.heap ws H locs) (isC : List Nat) (hnC : va_nd isC = true) (hC : isC.map (fun i => ws[i]?) = wc.map some) : PreS s H (va_Pc As (xPre D tys wc H.size)) As := by
  have w' : xW D A s.heap wc H locs := x_sub w isC hnC hC
  exact ⟨xPre_blind, fun U hU hW => ⟨rfl, by rw [hU], by rw [hU]; exact w'.1, va_K.moved hW.alike C.2.1, w'.2.1.weaken (fun _ _ _ _ => trivial), C.2.2.2.2.warm hW⟩⟩
variable {y : MethodName} {wsy wsy' : List Cond} {d' index n maxL : Nat} {bytes : ByteArray} {rty : Option FieldType} {Cn : String} {b : Nat} {As : List Value} {lv : List (Nat × Value)}
/-- an instance method, an int answer -/
theorem x_callVi (C : xC p s m meth c args cc nL Ts own D tys ret) (w : xW D A s.heap ws H locs) (hl : lv_has ls nL lv) (As : List Value) (hM : xI l y wsy d' D tys (.ref b :: As) wc rv wc') (hG : GoodIn Ts (wsV own index Cn y wsy)) (hwy : wsy = Cond.code y bytes maxL rty :: wsy')
    (hd : y.cls = Cn ∧ y.cls ≠ "java/lang/invoke/MethodHandle" ∧ y.cls ≠ "java/lang/invoke/VarHandle" ∧ (parseMethodDescriptor y.desc).map (fun d => d.parameters.length) = some n) (hRm : d' + 1 ≤ R.frames ∧ 8 + (maxL + 11) + 32 * d' ≤ R.locals)
    (q0 ci : Nat) {fs : List Value} {T : u_T} {N : Nat} (he : wc[q0]? = some (b, .inr (ci, fs))) (hc : vwCl[ci]? = some (Cn, T, N)) (hAs : As.length = n) (hst : st0 = As.reverse ++ .ref b :: rest) (hcat : (rest.map fun v => v.category).sum ≤ 8)
    (isC isR : List Nat) (hnC : va_nd isC = true) (hC : isC.map (fun i => ws[i]?) = wc.map some) (hR : isR.map (fun i => ws[i]?) = wr.map some) (hn : va_nd isR = true) (hdis : ∀ i ∈ isR, i ∉ isC) (isW : List Nat) (hnW : va_nd isW = true) (hW2 : isW.map (fun i => (wr ++ wc')[i]?) = w2.map some) (hf : cells ≤ R.cells ∧ slots ≤ R.slots) (hdg : decode cc pc = .ok (.invokevirtual index, 3))
    (kk : ∀ (H1 : Heap) (locs1 : List Loc), xW D A s.heap w2 H1 locs1 → W p l e R s m args below meth c H1 locs1 cells slots Q (F0 m (pc + 3) ls (.int rv :: rest))) : W p l e R s m args below meth c H locs cells slots Q (F0 m pc ls st0) := by
  have hp := x_pre (As := .ref b :: As) C w isC hnC hC
  have w' : xW D A s.heap wc H locs := x_sub w isC hnC hC
  exact x_goi w (va_runV (As := As) (rest := rest) C.1 (hM H.size) (cwV n C.1.2.2.2.2 hG hwy rfl rfl hd hRm) ⟨hp.1, va_recv C.2.1 w'.1 hc he, hp.2⟩ rfl hAs hl.1 hst (lv_room hcat) hdg hf) isC isR hC hR hn hdis isW hnW hW2 kk
theorem x_callVv (C : xC p s m meth c args cc nL Ts own D tys ret) (w : xW D A s.heap ws H locs) (hl : lv_has ls nL lv) (As : List Value) (hM : xV l y wsy d' D tys (.ref b :: As) wc wc') (hG : GoodIn Ts (wsV own index Cn y wsy)) (hwy : wsy = Cond.code y bytes maxL rty :: wsy')
    (hd : y.cls = Cn ∧ y.cls ≠ "java/lang/invoke/MethodHandle" ∧ y.cls ≠ "java/lang/invoke/VarHandle" ∧ (parseMethodDescriptor y.desc).map (fun d => d.parameters.length) = some n) (hRm : d' + 1 ≤ R.frames ∧ 8 + (maxL + 11) + 32 * d' ≤ R.locals)
    (q0 ci : Nat) {fs : List Value} {T : u_T} {N : Nat} (he : wc[q0]? = some (b, .inr (ci, fs))) (hc : vwCl[ci]? = some (Cn, T, N)) (hAs : As.length = n) (hst : st0 = As.reverse ++ .ref b :: rest) (hcat : (rest.map fun v => v.category).sum ≤ 8)
    (isC isR : List Nat) (hnC : va_nd isC = true) (hC : isC.map (fun i => ws[i]?) = wc.map some) (hR : isR.map (fun i => ws[i]?) = wr.map some) (hn : va_nd isR = true) (hdis : ∀ i ∈ isR, i ∉ isC) (isW : List Nat) (hnW : va_nd isW = true) (hW2 : isW.map (fun i => (wr ++ wc')[i]?) = w2.map some) (hf : cells ≤ R.cells ∧ slots ≤ R.slots) (hdg : decode cc pc = .ok (.invokevirtual index, 3))
    (kk : ∀ (H1 : Heap) (locs1 : List Loc), xW D A s.heap w2 H1 locs1 → W p l e R s m args below meth c H1 locs1 cells slots Q (F0 m (pc + 3) ls rest)) : W p l e R s m args below meth c H locs cells slots Q (F0 m pc ls st0) := by
  have hp := x_pre (As := .ref b :: As) C w isC hnC hC
  have w' : xW D A s.heap wc H locs := x_sub w isC hnC hC
  exact x_gov w (va_runV (As := As) (rest := rest) C.1 (hM H.size) (cwV n C.1.2.2.2.2 hG hwy rfl rfl hd hRm) ⟨hp.1, va_recv C.2.1 w'.1 hc he, hp.2⟩ rfl hAs hl.1 hst (lv_room hcat) hdg hf) isC isR hC hR hn hdis isW hnW hW2 kk
/-- a static method of a class of ours -/
theorem x_callSi (C : xC p s m meth c args cc nL Ts own D tys ret) (w : xW D A s.heap ws H locs) (hl : lv_has ls nL lv) (As : List Value) (hM : xI l y wsy d' D tys As wc rv wc') (hG : GoodIn Ts (va_wsS own index y wsy)) (hwy : wsy = Cond.code y bytes maxL rty :: wsy')
    (hd : y.cls ≠ "java/lang/invoke/MethodHandle" ∧ y.cls ≠ "java/lang/invoke/VarHandle" ∧ (parseMethodDescriptor y.desc).map (fun d => d.parameters.length) = some n) (hRm : d' + 1 ≤ R.frames ∧ 8 + (maxL + 11) + 32 * d' ≤ R.locals)
    (hAs : As.length = n) (hst : st0 = As.reverse ++ rest) (hcat : (rest.map fun v => v.category).sum ≤ 8)
    (isC isR : List Nat) (hnC : va_nd isC = true) (hC : isC.map (fun i => ws[i]?) = wc.map some) (hR : isR.map (fun i => ws[i]?) = wr.map some) (hn : va_nd isR = true) (hdis : ∀ i ∈ isR, i ∉ isC) (isW : List Nat) (hnW : va_nd isW = true) (hW2 : isW.map (fun i => (wr ++ wc')[i]?) = w2.map some) (hf : cells ≤ R.cells ∧ slots ≤ R.slots) (hdg : decode cc pc = .ok (.invokestatic index, 3))
    (kk : ∀ (H1 : Heap) (locs1 : List Loc), xW D A s.heap w2 H1 locs1 → W p l e R s m args below meth c H1 locs1 cells slots Q (F0 m (pc + 3) ls (.int rv :: rest))) : W p l e R s m args below meth c H locs cells slots Q (F0 m pc ls st0) :=
  x_goi w (va_runS (As := As) (rest := rest) C.1 (hM H.size) (va_cwS n C.1.2.2.2.2 hG hwy rfl rfl hd hRm) (x_pre C w isC hnC hC) rfl hAs hl.1 hst (lv_room hcat) hdg hf) isC isR hC hR hn hdis isW hnW hW2 kk
theorem x_callSv (C : xC p s m meth c args cc nL Ts own D tys ret) (w : xW D A s.heap ws H locs) (hl : lv_has ls nL lv) (As : List Value) (hM : xV l y wsy d' D tys As wc wc') (hG : GoodIn Ts (va_wsS own index y wsy)) (hwy : wsy = Cond.code y bytes maxL rty :: wsy')
    (hd : y.cls ≠ "java/lang/invoke/MethodHandle" ∧ y.cls ≠ "java/lang/invoke/VarHandle" ∧ (parseMethodDescriptor y.desc).map (fun d => d.parameters.length) = some n) (hRm : d' + 1 ≤ R.frames ∧ 8 + (maxL + 11) + 32 * d' ≤ R.locals)
    (hAs : As.length = n) (hst : st0 = As.reverse ++ rest) (hcat : (rest.map fun v => v.category).sum ≤ 8)
    (isC isR : List Nat) (hnC : va_nd isC = true) (hC : isC.map (fun i => ws[i]?) = wc.map some) (hR : isR.map (fun i => ws[i]?) = wr.map some) (hn : va_nd isR = true) (hdis : ∀ i ∈ isR, i ∉ isC) (isW : List Nat) (hnW : va_nd isW = true) (hW2 : isW.map (fun i => (wr ++ wc')[i]?) = w2.map some) (hf : cells ≤ R.cells ∧ slots ≤ R.slots) (hdg : decode cc pc = .ok (.invokestatic index, 3))
    (kk : ∀ (H1 : Heap) (locs1 : List Loc), xW D A s.heap w2 H1 locs1 → W p l e R s m args below meth c H1 locs1 cells slots Q (F0 m (pc + 3) ls rest)) : W p l e R s m args below meth c H locs cells slots Q (F0 m pc ls st0) :=
  x_gov w (va_runS (As := As) (rest := rest) C.1 (hM H.size) (va_cwS n C.1.2.2.2.2 hG hwy rfl rfl hd hRm) (x_pre C w isC hnC hC) rfl hAs hl.1 hst (lv_room hcat) hdg hf) isC isR hC hR hn hdis isW hnW hW2 kk
/-- a private static method of a nest mate -/
theorem x_callNi (C : xC p s m meth c args cc nL Ts own D tys ret) (w : xW D A s.heap ws H locs) (hl : lv_has ls nL lv) (As : List Value) (hM : xI l y wsy d' D tys As wc rv wc') (hG : GoodIn Ts wsy) (hwy : wsy = Cond.code y bytes maxL rty :: wsy') (hlink : (own, index, y) ∈ nestL) (hini : Cond.initialized y.cls ∈ Ts) (hstat : Cond.static y ∈ Ts)
    (hd : y.cls ≠ "java/lang/invoke/MethodHandle" ∧ y.cls ≠ "java/lang/invoke/VarHandle" ∧ (parseMethodDescriptor y.desc).map (fun d => d.parameters.length) = some n) (hRm : d' + 1 ≤ R.frames ∧ 8 + (maxL + 11) + 32 * d' ≤ R.locals)
    (hAs : As.length = n) (hst : st0 = As.reverse ++ rest) (hcat : (rest.map fun v => v.category).sum ≤ 8)
    (isC isR : List Nat) (hnC : va_nd isC = true) (hC : isC.map (fun i => ws[i]?) = wc.map some) (hR : isR.map (fun i => ws[i]?) = wr.map some) (hn : va_nd isR = true) (hdis : ∀ i ∈ isR, i ∉ isC) (isW : List Nat) (hnW : va_nd isW = true) (hW2 : isW.map (fun i => (wr ++ wc')[i]?) = w2.map some) (hf : cells ≤ R.cells ∧ slots ≤ R.slots) (hdg : decode cc pc = .ok (.invokestatic index, 3))
    (kk : ∀ (H1 : Heap) (locs1 : List Loc), xW D A s.heap w2 H1 locs1 → W p l e R s m args below meth c H1 locs1 cells slots Q (F0 m (pc + 3) ls (.int rv :: rest))) : W p l e R s m args below meth c H locs cells slots Q (F0 m pc ls st0) :=
  x_goi w (va_runSN (As := As) (rest := rest) C.1 (hM H.size) ⟨va_cnB n C.1.2.2.2.2 hG hwy rfl rfl (C.2.2.2.2 _ hlink) (C.1.2.2.2.2 _ hini) hd hRm, C.1.2.2.2.2 _ hstat, trivial⟩ (x_pre C w isC hnC hC) rfl hAs hl.1 hst (lv_room hcat) hdg hf) isC isR hC hR hn hdis isW hnW hW2 kk
theorem x_callNv (C : xC p s m meth c args cc nL Ts own D tys ret) (w : xW D A s.heap ws H locs) (hl : lv_has ls nL lv) (As : List Value) (hM : xV l y wsy d' D tys As wc wc') (hG : GoodIn Ts wsy) (hwy : wsy = Cond.code y bytes maxL rty :: wsy') (hlink : (own, index, y) ∈ nestL) (hini : Cond.initialized y.cls ∈ Ts) (hstat : Cond.static y ∈ Ts)
    (hd : y.cls ≠ "java/lang/invoke/MethodHandle" ∧ y.cls ≠ "java/lang/invoke/VarHandle" ∧ (parseMethodDescriptor y.desc).map (fun d => d.parameters.length) = some n) (hRm : d' + 1 ≤ R.frames ∧ 8 + (maxL + 11) + 32 * d' ≤ R.locals)
    (hAs : As.length = n) (hst : st0 = As.reverse ++ rest) (hcat : (rest.map fun v => v.category).sum ≤ 8)
    (isC isR : List Nat) (hnC : va_nd isC = true) (hC : isC.map (fun i => ws[i]?) = wc.map some) (hR : isR.map (fun i => ws[i]?) = wr.map some) (hn : va_nd isR = true) (hdis : ∀ i ∈ isR, i ∉ isC) (isW : List Nat) (hnW : va_nd isW = true) (hW2 : isW.map (fun i => (wr ++ wc')[i]?) = w2.map some) (hf : cells ≤ R.cells ∧ slots ≤ R.slots) (hdg : decode cc pc = .ok (.invokestatic index, 3))
    (kk : ∀ (H1 : Heap) (locs1 : List Loc), xW D A s.heap w2 H1 locs1 → W p l e R s m args below meth c H1 locs1 cells slots Q (F0 m (pc + 3) ls rest)) : W p l e R s m args below meth c H locs cells slots Q (F0 m pc ls st0) :=
  x_gov w (va_runSN (As := As) (rest := rest) C.1 (hM H.size) ⟨va_cnB n C.1.2.2.2.2 hG hwy rfl rfl (C.2.2.2.2 _ hlink) (C.1.2.2.2.2 _ hini) hd hRm, C.1.2.2.2.2 _ hstat, trivial⟩ (x_pre C w isC hnC hC) rfl hAs hl.1 hst (lv_room hcat) hdg hf) isC isR hC hR hn hdis isW hnW hW2 kk
/-- Math.min, max, abs -/
theorem x_min (C : xC p s m meth c args cc nL Ts own D tys ret) (hl : lv_has ls nL lv) (h1 : Cond.methodLink own index Lib.Math.min.name ∈ Ts) (h2 : Cond.static Lib.Math.min.name ∈ Ts) (h3 : Cond.initialized "java/lang/Math" ∈ Ts) (h4 : Cond.code Lib.Math.min.name Lib.Math.min.code 2 (some .int) ∈ Ts) (hRm : 1 ≤ R.frames ∧ (rest.map fun v => v.category).sum + 13 ≤ R.locals) (hf : cells ≤ R.cells ∧ slots ≤ R.slots) {x z v : Int32} (hv : (if z < x then z else x) = v) (hdg : decode cc pc = .ok (.invokestatic index, 3))
    (kk : W p l e R s m args below meth c H locs cells slots Q (F0 m (pc + 3) ls (.int v :: rest))) : W p l e R s m args below meth c H locs cells slots Q (F0 m pc ls (.int z :: .int x :: rest)) := by
  subst hv
  exact va_mmin C.1.1 C.1.2.1 (C.1.2.2.1.trans hl.1.symm) C.1.2.2.2.1 (C.1.2.2.2.2 _ h1) (C.1.2.2.2.2 _ h2) (C.1.2.2.2.2 _ h3) (C.1.2.2.2.2 _ h4) hRm.1 hRm.2 hf.1 hf.2 hdg kk
theorem x_max (C : xC p s m meth c args cc nL Ts own D tys ret) (hl : lv_has ls nL lv) (h1 : Cond.methodLink own index Lib.Math.max.name ∈ Ts) (h2 : Cond.static Lib.Math.max.name ∈ Ts) (h3 : Cond.initialized "java/lang/Math" ∈ Ts) (h4 : Cond.code Lib.Math.max.name Lib.Math.max.code 2 (some .int) ∈ Ts) (hRm : 1 ≤ R.frames ∧ (rest.map fun v => v.category).sum + 13 ≤ R.locals) (hf : cells ≤ R.cells ∧ slots ≤ R.slots) {x z v : Int32} (hv : (if x < z then z else x) = v) (hdg : decode cc pc = .ok (.invokestatic index, 3))
    (kk : W p l e R s m args below meth c H locs cells slots Q (F0 m (pc + 3) ls (.int v :: rest))) : W p l e R s m args below meth c H locs cells slots Q (F0 m pc ls (.int z :: .int x :: rest)) := by
  subst hv
  exact va_mmax C.1.1 C.1.2.1 (C.1.2.2.1.trans hl.1.symm) C.1.2.2.2.1 (C.1.2.2.2.2 _ h1) (C.1.2.2.2.2 _ h2) (C.1.2.2.2.2 _ h3) (C.1.2.2.2.2 _ h4) hRm.1 hRm.2 hf.1 hf.2 hdg kk
theorem x_abs (C : xC p s m meth c args cc nL Ts own D tys ret) (hl : lv_has ls nL lv) (h1 : Cond.methodLink own index Lib.Math.abs.name ∈ Ts) (h2 : Cond.static Lib.Math.abs.name ∈ Ts) (h3 : Cond.initialized "java/lang/Math" ∈ Ts) (h4 : Cond.code Lib.Math.abs.name Lib.Math.abs.code 1 (some .int) ∈ Ts) (hRm : 1 ≤ R.frames ∧ (rest.map fun v => v.category).sum + 13 ≤ R.locals) (hf : cells ≤ R.cells ∧ slots ≤ R.slots) {x v : Int32} (hv : (if 0 ≤ x then x else 0 - x) = v) (hdg : decode cc pc = .ok (.invokestatic index, 3))
    (kk : W p l e R s m args below meth c H locs cells slots Q (F0 m (pc + 3) ls (.int v :: rest))) : W p l e R s m args below meth c H locs cells slots Q (F0 m pc ls (.int x :: rest)) := by
  subst hv
  exact va_mabs C.1.1 C.1.2.1 (C.1.2.2.1.trans hl.1.symm) C.1.2.2.2.1 (C.1.2.2.2.2 _ h1) (C.1.2.2.2.2 _ h2) (C.1.2.2.2.2 _ h3) (C.1.2.2.2.2 _ h4) hRm.1 hRm.2 hf.1 hf.2 hdg kk
end XG
section XI2
variable {p : Program} {l : Launch} {e : Env} {R : Room} {s : State} {m : MethodId} {args : Array Value} {below : List Frame} {meth : Method} {c : Code} {H : Heap} {locs : List Loc} {cells slots : Nat} {Q : State → Prop}
variable {cc : ByteArray} {pc : Nat} {ls : Array Slot} {rest : List Value}
theorem x_icR_lt {x y : Int32} {off : Int} {tgt : Nat} (hx : p.tables.exec = Jvm.exec) (hb : c.code = cc) (hdg : decode cc pc = .ok (.if_icmp .lt off, 3)) (ht : (pc : Int) + off = (tgt : Int)) (kt : x < y → W p l e R s m args below meth c H locs cells slots Q (F0 m tgt ls rest)) (kf : ¬ x < y → W p l e R s m args below meth c H locs cells slots Q (F0 m (pc + 3) ls rest)) : W p l e R s m args below meth c H locs cells slots Q (F0 m pc ls (.int y :: .int x :: rest)) := lv_icmp_lt hx hb hdg ht kt kf
theorem x_icR_ge {x y : Int32} {off : Int} {tgt : Nat} (hx : p.tables.exec = Jvm.exec) (hb : c.code = cc) (hdg : decode cc pc = .ok (.if_icmp .ge off, 3)) (ht : (pc : Int) + off = (tgt : Int)) (kt : ¬ x < y → W p l e R s m args below meth c H locs cells slots Q (F0 m tgt ls rest)) (kf : x < y → W p l e R s m args below meth c H locs cells slots Q (F0 m (pc + 3) ls rest)) : W p l e R s m args below meth c H locs cells slots Q (F0 m pc ls (.int y :: .int x :: rest)) := lv_icmp_ge hx hb hdg ht (fun h => kt (Int32.not_lt.mpr h)) (fun h => kf (Int32.not_le.mp h))
theorem x_icR_gt {x y : Int32} {off : Int} {tgt : Nat} (hx : p.tables.exec = Jvm.exec) (hb : c.code = cc) (hdg : decode cc pc = .ok (.if_icmp .gt off, 3)) (ht : (pc : Int) + off = (tgt : Int)) (kt : y < x → W p l e R s m args below meth c H locs cells slots Q (F0 m tgt ls rest)) (kf : ¬ y < x → W p l e R s m args below meth c H locs cells slots Q (F0 m (pc + 3) ls rest)) : W p l e R s m args below meth c H locs cells slots Q (F0 m pc ls (.int y :: .int x :: rest)) := lv_icmp_gt hx hb hdg ht kt kf
theorem x_icR_le {x y : Int32} {off : Int} {tgt : Nat} (hx : p.tables.exec = Jvm.exec) (hb : c.code = cc) (hdg : decode cc pc = .ok (.if_icmp .le off, 3)) (ht : (pc : Int) + off = (tgt : Int)) (kt : ¬ y < x → W p l e R s m args below meth c H locs cells slots Q (F0 m tgt ls rest)) (kf : y < x → W p l e R s m args below meth c H locs cells slots Q (F0 m (pc + 3) ls rest)) : W p l e R s m args below meth c H locs cells slots Q (F0 m pc ls (.int y :: .int x :: rest)) := lv_icmp_le hx hb hdg ht (fun h => kt (Int32.not_lt.mpr h)) (fun h => kf (Int32.not_le.mp h))
theorem x_icR_eq {x y : Int32} {off : Int} {tgt : Nat} (hx : p.tables.exec = Jvm.exec) (hb : c.code = cc) (hdg : decode cc pc = .ok (.if_icmp .eq off, 3)) (ht : (pc : Int) + off = (tgt : Int)) (kt : x = y → W p l e R s m args below meth c H locs cells slots Q (F0 m tgt ls rest)) (kf : ¬ x = y → W p l e R s m args below meth c H locs cells slots Q (F0 m (pc + 3) ls rest)) : W p l e R s m args below meth c H locs cells slots Q (F0 m pc ls (.int y :: .int x :: rest)) := lv_icmp_eq hx hb hdg ht kt kf
theorem x_icR_ne {x y : Int32} {off : Int} {tgt : Nat} (hx : p.tables.exec = Jvm.exec) (hb : c.code = cc) (hdg : decode cc pc = .ok (.if_icmp .ne off, 3)) (ht : (pc : Int) + off = (tgt : Int)) (kt : ¬ x = y → W p l e R s m args below meth c H locs cells slots Q (F0 m tgt ls rest)) (kf : x = y → W p l e R s m args below meth c H locs cells slots Q (F0 m (pc + 3) ls rest)) : W p l e R s m args below meth c H locs cells slots Q (F0 m pc ls (.int y :: .int x :: rest)) := lv_icmp_ne hx hb hdg ht kt kf
theorem x_ifR_lt {x : Int32} {off : Int} {tgt : Nat} (hx : p.tables.exec = Jvm.exec) (hb : c.code = cc) (hdg : decode cc pc = .ok (.ifCond .lt off, 3)) (ht : (pc : Int) + off = (tgt : Int)) (kt : x < 0 → W p l e R s m args below meth c H locs cells slots Q (F0 m tgt ls rest)) (kf : ¬ x < 0 → W p l e R s m args below meth c H locs cells slots Q (F0 m (pc + 3) ls rest)) : W p l e R s m args below meth c H locs cells slots Q (F0 m pc ls (.int x :: rest)) := lv_if_lt hx hb hdg ht kt kf
theorem x_ifR_ge {x : Int32} {off : Int} {tgt : Nat} (hx : p.tables.exec = Jvm.exec) (hb : c.code = cc) (hdg : decode cc pc = .ok (.ifCond .ge off, 3)) (ht : (pc : Int) + off = (tgt : Int)) (kt : ¬ x < 0 → W p l e R s m args below meth c H locs cells slots Q (F0 m tgt ls rest)) (kf : x < 0 → W p l e R s m args below meth c H locs cells slots Q (F0 m (pc + 3) ls rest)) : W p l e R s m args below meth c H locs cells slots Q (F0 m pc ls (.int x :: rest)) := lv_if_ge hx hb hdg ht (fun h => kt (Int32.not_lt.mpr h)) (fun h => kf (Int32.not_le.mp h))
theorem x_ifR_gt {x : Int32} {off : Int} {tgt : Nat} (hx : p.tables.exec = Jvm.exec) (hb : c.code = cc) (hdg : decode cc pc = .ok (.ifCond .gt off, 3)) (ht : (pc : Int) + off = (tgt : Int)) (kt : 0 < x → W p l e R s m args below meth c H locs cells slots Q (F0 m tgt ls rest)) (kf : ¬ 0 < x → W p l e R s m args below meth c H locs cells slots Q (F0 m (pc + 3) ls rest)) : W p l e R s m args below meth c H locs cells slots Q (F0 m pc ls (.int x :: rest)) := lv_if_gt hx hb hdg ht kt kf
theorem x_ifR_le {x : Int32} {off : Int} {tgt : Nat} (hx : p.tables.exec = Jvm.exec) (hb : c.code = cc) (hdg : decode cc pc = .ok (.ifCond .le off, 3)) (ht : (pc : Int) + off = (tgt : Int)) (kt : ¬ 0 < x → W p l e R s m args below meth c H locs cells slots Q (F0 m tgt ls rest)) (kf : 0 < x → W p l e R s m args below meth c H locs cells slots Q (F0 m (pc + 3) ls rest)) : W p l e R s m args below meth c H locs cells slots Q (F0 m pc ls (.int x :: rest)) := lv_if_le hx hb hdg ht (fun h => kt (Int32.not_lt.mpr h)) (fun h => kf (Int32.not_le.mp h))
theorem x_ifR_eq {x : Int32} {off : Int} {tgt : Nat} (hx : p.tables.exec = Jvm.exec) (hb : c.code = cc) (hdg : decode cc pc = .ok (.ifCond .eq off, 3)) (ht : (pc : Int) + off = (tgt : Int)) (kt : x = 0 → W p l e R s m args below meth c H locs cells slots Q (F0 m tgt ls rest)) (kf : ¬ x = 0 → W p l e R s m args below meth c H locs cells slots Q (F0 m (pc + 3) ls rest)) : W p l e R s m args below meth c H locs cells slots Q (F0 m pc ls (.int x :: rest)) := lv_if_eq hx hb hdg ht kt kf
theorem x_ifR_ne {x : Int32} {off : Int} {tgt : Nat} (hx : p.tables.exec = Jvm.exec) (hb : c.code = cc) (hdg : decode cc pc = .ok (.ifCond .ne off, 3)) (ht : (pc : Int) + off = (tgt : Int)) (kt : ¬ x = 0 → W p l e R s m args below meth c H locs cells slots Q (F0 m tgt ls rest)) (kf : x = 0 → W p l e R s m args below meth c H locs cells slots Q (F0 m (pc + 3) ls rest)) : W p l e R s m args below meth c H locs cells slots Q (F0 m pc ls (.int x :: rest)) := lv_if_ne hx hb hdg ht kt kf
/-! known naturals -/
theorem x_icN_lt {i j : Nat} {off : Int} {tgt : Nat} (hx : p.tables.exec = Jvm.exec) (hb : c.code = cc) (hi : i < 2147483648) (hj : j < 2147483648) (hdg : decode cc pc = .ok (.if_icmp .lt off, 3)) (ht : (pc : Int) + off = (tgt : Int)) (kt : i < j → W p l e R s m args below meth c H locs cells slots Q (F0 m tgt ls rest)) (kf : ¬ i < j → W p l e R s m args below meth c H locs cells slots Q (F0 m (pc + 3) ls rest)) : W p l e R s m args below meth c H locs cells slots Q (F0 m pc ls (.int (nI j) :: .int (nI i) :: rest)) := lv_icmp_lt hx hb hdg ht (fun h => kt ((nI_ltI hi hj).mp h)) (fun h => kf (fun q => h ((nI_ltI hi hj).mpr q)))
theorem x_icN_ge {i j : Nat} {off : Int} {tgt : Nat} (hx : p.tables.exec = Jvm.exec) (hb : c.code = cc) (hi : i < 2147483648) (hj : j < 2147483648) (hdg : decode cc pc = .ok (.if_icmp .ge off, 3)) (ht : (pc : Int) + off = (tgt : Int)) (kt : ¬ i < j → W p l e R s m args below meth c H locs cells slots Q (F0 m tgt ls rest)) (kf : i < j → W p l e R s m args below meth c H locs cells slots Q (F0 m (pc + 3) ls rest)) : W p l e R s m args below meth c H locs cells slots Q (F0 m pc ls (.int (nI j) :: .int (nI i) :: rest)) := x_icR_ge hx hb hdg ht (fun h => kt (fun q => h ((nI_ltI hi hj).mpr q))) (fun h => kf ((nI_ltI hi hj).mp h))
theorem x_icN_gt {i j : Nat} {off : Int} {tgt : Nat} (hx : p.tables.exec = Jvm.exec) (hb : c.code = cc) (hi : i < 2147483648) (hj : j < 2147483648) (hdg : decode cc pc = .ok (.if_icmp .gt off, 3)) (ht : (pc : Int) + off = (tgt : Int)) (kt : j < i → W p l e R s m args below meth c H locs cells slots Q (F0 m tgt ls rest)) (kf : ¬ j < i → W p l e R s m args below meth c H locs cells slots Q (F0 m (pc + 3) ls rest)) : W p l e R s m args below meth c H locs cells slots Q (F0 m pc ls (.int (nI j) :: .int (nI i) :: rest)) := lv_icmp_gt hx hb hdg ht (fun h => kt ((nI_ltI hj hi).mp h)) (fun h => kf (fun q => h ((nI_ltI hj hi).mpr q)))
theorem x_icN_le {i j : Nat} {off : Int} {tgt : Nat} (hx : p.tables.exec = Jvm.exec) (hb : c.code = cc) (hi : i < 2147483648) (hj : j < 2147483648) (hdg : decode cc pc = .ok (.if_icmp .le off, 3)) (ht : (pc : Int) + off = (tgt : Int)) (kt : ¬ j < i → W p l e R s m args below meth c H locs cells slots Q (F0 m tgt ls rest)) (kf : j < i → W p l e R s m args below meth c H locs cells slots Q (F0 m (pc + 3) ls rest)) : W p l e R s m args below meth c H locs cells slots Q (F0 m pc ls (.int (nI j) :: .int (nI i) :: rest)) := x_icR_le hx hb hdg ht (fun h => kt (fun q => h ((nI_ltI hj hi).mpr q))) (fun h => kf ((nI_ltI hj hi).mp h))
theorem x_icN_eq {i j : Nat} {off : Int} {tgt : Nat} (hx : p.tables.exec = Jvm.exec) (hb : c.code = cc) (hi : i < 2147483648) (hj : j < 2147483648) (hdg : decode cc pc = .ok (.if_icmp .eq off, 3)) (ht : (pc : Int) + off = (tgt : Int)) (kt : i = j → W p l e R s m args below meth c H locs cells slots Q (F0 m tgt ls rest)) (kf : ¬ i = j → W p l e R s m args below meth c H locs cells slots Q (F0 m (pc + 3) ls rest)) : W p l e R s m args below meth c H locs cells slots Q (F0 m pc ls (.int (nI j) :: .int (nI i) :: rest)) := lv_icmp_eq hx hb hdg ht (fun h => kt ((nI_eq hi hj).mp h)) (fun h => kf (fun q => h ((nI_eq hi hj).mpr q)))
theorem x_icN_ne {i j : Nat} {off : Int} {tgt : Nat} (hx : p.tables.exec = Jvm.exec) (hb : c.code = cc) (hi : i < 2147483648) (hj : j < 2147483648) (hdg : decode cc pc = .ok (.if_icmp .ne off, 3)) (ht : (pc : Int) + off = (tgt : Int)) (kt : ¬ i = j → W p l e R s m args below meth c H locs cells slots Q (F0 m tgt ls rest)) (kf : i = j → W p l e R s m args below meth c H locs cells slots Q (F0 m (pc + 3) ls rest)) : W p l e R s m args below meth c H locs cells slots Q (F0 m pc ls (.int (nI j) :: .int (nI i) :: rest)) := lv_icmp_ne hx hb hdg ht (fun h => kt (fun q => h ((nI_eq hi hj).mpr q))) (fun h => kf ((nI_eq hi hj).mp h))
end XI2
theorem cg2 {α β γ : Type} (f : α → β → γ) {a a2 : α} {b b2 : β} (h1 : a = a2) (h2 : b = b2) : f a b = f a2 b2 := by
  subst h1; subst h2; rfl
/-- a truth as the machine has it -/
def bI (P : Prop) [Decidable P] : Int32 := if P then 1 else 0
theorem bI_01 (P : Prop) [Decidable P] : bI P = 0 ∨ bI P = 1 := by
  unfold bI
  by_cases h : P <;> simp [h]
theorem bI_t {P : Prop} [Decidable P] (h : P) : (1 : Int32) = bI P := by simp [bI, h]
theorem bI_f {P : Prop} [Decidable P] (h : ¬ P) : (0 : Int32) = bI P := by simp [bI, h]
theorem bI_c {P P' : Prop} [Decidable P] [Decidable P'] (h : P ↔ P') : bI P = bI P' := by
  unfold bI
  by_cases q : P
  · rw [if_pos q, if_pos (h.mp q)]
  · rw [if_neg q, if_neg (fun z => q (h.mpr z))]
section XB2
variable {p : Program} {l : Launch} {e : Env} {R : Room} {s : State} {m : MethodId} {args : Array Value} {below : List Frame} {meth : Method} {c : Code} {H : Heap} {locs : List Loc} {cells slots : Nat} {Q : State → Prop}
variable {cc : ByteArray} {pc : Nat} {ls : Array Slot} {rest : List Value}
theorem x_ifB_eq {P : Prop} [Decidable P] {off : Int} {tgt : Nat} (hx : p.tables.exec = Jvm.exec) (hb : c.code = cc) (hdg : decode cc pc = .ok (.ifCond .eq off, 3)) (ht : (pc : Int) + off = (tgt : Int)) (kt : ¬ P → W p l e R s m args below meth c H locs cells slots Q (F0 m tgt ls rest)) (kf : P → W p l e R s m args below meth c H locs cells slots Q (F0 m (pc + 3) ls rest)) : W p l e R s m args below meth c H locs cells slots Q (F0 m pc ls (.int (bI P) :: rest)) :=
  lv_if_eq hx hb hdg ht (fun h => kt (fun q => by rw [← bI_t q] at h; exact absurd h (by decide))) (fun h => kf (Classical.byContradiction fun q => h (bI_f q).symm))
theorem x_ifB_ne {P : Prop} [Decidable P] {off : Int} {tgt : Nat} (hx : p.tables.exec = Jvm.exec) (hb : c.code = cc) (hdg : decode cc pc = .ok (.ifCond .ne off, 3)) (ht : (pc : Int) + off = (tgt : Int)) (kt : P → W p l e R s m args below meth c H locs cells slots Q (F0 m tgt ls rest)) (kf : ¬ P → W p l e R s m args below meth c H locs cells slots Q (F0 m (pc + 3) ls rest)) : W p l e R s m args below meth c H locs cells slots Q (F0 m pc ls (.int (bI P) :: rest)) :=
  lv_if_ne hx hb hdg ht (fun h => kt (Classical.byContradiction fun q => h (bI_f q).symm)) (fun h => kf (fun q => by rw [← bI_t q] at h; exact absurd h (by decide)))
end XB2
theorem lv_eqL {ls : Array Slot} {nL : Nat} {l l' : List (Nat × Value)} (h : lv_has ls nL l) (q : l = l') : lv_has ls nL l' := q ▸ h
theorem x_in {x : Int32} {n : Nat} (hn : n < 2147483648) (h0 : ¬ x < 0) (h1 : x < nI n) : vp_in x n := by
  obtain ⟨j, hj, rfl⟩ := nI_of h0
  exact vp_in_nI ((nI_ltI hj hn).mp h1) hn
def ix (x : Int32) : Nat := x.toNatClampNeg
theorem ix_nI {n : Nat} (h : n < 2147483648) : ix (nI n) = n := nI_clamp h
section XR2
variable {p : Program} {l : Launch} {e : Env} {R : Room} {s : State} {m : MethodId} {args : Array Value} {below : List Frame} {meth : Method} {c : Code} {H : Heap} {locs : List Loc} {cells slots : Nat} {Q : State → Prop}
variable {cc : ByteArray} {nL : Nat} {Ts : List Cond} {own : String} {D : va_G} {tys : List (ClassId × FieldType)} {ret : Option FieldType} {A : Nat → Prop} {H0 : Heap} {ws : va_W}
variable {pc : Nat} {ls : Array Slot} {rest : List Value} {a : Nat}
theorem x_ialdR (C : xC p s m meth c args cc nL Ts own D tys ret) (w : xW D A H0 ws H locs) (q0 t0 : Nat) {cA : ClassId} {n : Nat} {f : Nat → Int32} {i v : Int32} (ha : ws[q0]? = some (a, .inl (cA, n, .inl f))) (ht : tys[t0]? = some (cA, .int)) (hi : vp_in i n) (hv : f (ix i) = v) (hdg : decode cc pc = .ok (.iaload, 1))
    (kk : W p l e R s m args below meth c H locs cells slots Q (F0 m (pc + 1) ls (.int v :: rest))) : W p l e R s m args below meth c H locs cells slots Q (F0 m pc ls (.int i :: .ref a :: rest)) := by
  subst hv
  exact va_iald (D := D) C.1.1 C.1.2.1 C.2.1 w.1 q0 t0 ha ht hi hdg kk
theorem x_iastR (C : xC p s m meth c args cc nL Ts own D tys ret) (w : xW D A H0 ws H locs) (q0 t0 : Nat) {cA : ClassId} {n : Nat} {f : Nat → Int32} {i x : Int32} {ws2 : va_W} (ha : ws[q0]? = some (a, .inl (cA, n, .inl f))) (ht : tys[t0]? = some (cA, .int)) (hi : vp_in i n) (hw2 : ws.set q0 (a, .inl (cA, n, .inl (upd f (ix i) x))) = ws2) (hdg : decode cc pc = .ok (.iastore, 1))
    (kk : ∀ (H1 : Heap) (locs1 : List Loc), xW D A H0 ws2 H1 locs1 → W p l e R s m args below meth c H1 locs1 cells slots Q (F0 m (pc + 1) ls rest)) : W p l e R s m args below meth c H locs cells slots Q (F0 m pc ls (.int x :: .int i :: .ref a :: rest)) := by
  subst hw2
  exact va_iast (D := D) C.1.1 C.1.2.1 C.2.1 w.1 w.2.1 w.2.2.1 q0 t0 ha ht hi hdg (fun H1 locs1 h1 h2 h3 => kk H1 locs1 ⟨h1, h2, h3, w.2.2.2⟩)
end XR2
