/-! ===== THE STATE AS A TABLE OF INTS, and what the class's own methods make of it (raw: with the machine's own arithmetic) =====
rows: 0 disk, 1 laid, 2 kind, 3 place, 4 value, 5 turn; 6: charge, wear, cycle; 9: last turn; 7: ticks, hits, misses, flushed, through, lost, cuts, cycles, laid in all; 8: settings -/
abbrev St : Type := Nat → Nat → Int32
def s2 (G : St) (r j : Nat) (v : Int32) : St := fun a => if a = r then upd (G a) j v else G a
def r6 (G : St) (f : Nat → Int32) : St := fun a => if a = 6 then f else G a
/-- 0 ≤ x < n; lo ≤ x ≤ hi -/
def rg (x n : Int32) : Bool := decide (¬ x < 0 ∧ x < n)
def wth (x lo hi : Int32) : Bool := decide (¬ x < lo ∧ ¬ hi < x)
def miI (x z : Int32) : Int32 := if z < x then z else x
def maI (x z : Int32) : Int32 := if x < z then z else x
def abI (x : Int32) : Int32 := if 0 ≤ x then x else 0 - x
def sF (o : Nat → Nat) (G : St) : List Value := [.ref (o 1), .ref (o 2), .ref (o 3), .ref (o 4), .ref (o 5), .ref (o 6), .ref (o 7), .int (G 9 0), .int (G 7 0), .int (G 7 1), .int (G 7 2), .int (G 7 3), .int (G 7 4), .int (G 7 5), .int (G 7 6), .int (G 7 7), .int (G 7 8)]
def bF (G : St) : List Value := [.int (G 6 0), .int (G 6 1), .int (G 6 2), .int (G 8 0), .int (G 8 1), .int (G 8 2), .int (G 8 3)]
def bW (h : Nat) (G : St) : va_W := [(h, .inr (0, bF G))]
def sW (cI : ClassId) (o : Nat → Nat) (G : St) : va_W := [(o 0, .inr (4, sF o G)), (o 1, .inr (0, bF G)), (o 2, .inl (cI, 64, .inl (G 0))), (o 3, .inl (cI, 64, .inl (G 1))), (o 4, .inl (cI, 8, .inl (G 2))), (o 5, .inl (cI, 8, .inl (G 3))), (o 6, .inl (cI, 8, .inl (G 4))), (o 7, .inl (cI, 8, .inl (G 5)))]
-- the battery
def capI (G : St) : Int32 := 1000 - 10 * G 6 1
def savI (G : St) : Int32 := if G 6 0 < G 8 1 ∨ G 8 0 < 1 then 0 else miI ((G 6 0 - G 8 1) / G 8 0) 8
def alwI (G : St) : Int32 := if G 6 2 = 0 then savI G else 0
def cosI (G : St) (n : Int32) : Int32 := G 8 1 + n * G 8 0
def useG (G : St) (a : Int32) : St := s2 G 6 0 (maI (G 6 0 - a) 0)
def sacG (G : St) (n : Int32) : St := s2 (useG G (cosI G n)) 6 2 0
def falG (G : St) : St := r6 G (if useG G (G 8 3) 6 0 = 0 then s2 (s2 (useG G (G 8 3)) 6 1 (miI (useG G (G 8 3) 6 1 + 1) 90)) 6 2 2 6 else useG G (G 8 3) 6)
def chgI (G : St) : Int32 := miI (G 6 0 + G 8 2) (capI G)

def endB (G : St) : Bool := decide ((¬ G 6 2 = 1 ∧ G 6 2 = 2) ∧ chgI G = capI G)
def tkG (G : St) : St := r6 G (if G 6 2 = 1 then falG G 6 else if G 6 2 = 2 ∧ chgI G = capI G then s2 (s2 G 6 0 (chgI G)) 6 2 0 6 else s2 G 6 0 (chgI G) 6)
def stgI (G : St) (k : Int32) : Int32 := if k = 0 then G 8 0 else if k = 1 then G 8 1 else if k = 2 then G 8 2 else G 8 3
def chsG (G : St) (k v : Int32) : St := fun a => if a = 8 then (if k = 0 then upd (G 8) 0 v else if k = 1 then upd (G 8) 1 v else if k = 2 then upd (G 8) 2 v else upd (G 8) 3 v) else G a
-- finding, counting, sets, the lowest turn
def fndI (P : Nat → Prop) [DecidablePred P] : Nat → Nat → Int32
  | 0, _ => -1
  | n + 1, i => if P i then nI i else fndI P n (i + 1)
def cntN (P : Nat → Prop) [DecidablePred P] : Nat → Nat
  | 0 => 0
  | i + 1 => if P i then cntN P i + 1 else cntN P i
def setP (P : Nat → Prop) [DecidablePred P] : Nat → Int32
  | 0 => 0
  | i + 1 => if P i then setP P i ||| ((1 : Int32) <<< (nI i &&& 31)) else setP P i
def hldI (G : St) (p : Int32) : Int32 := fndI (fun i => ¬ G 2 i = 0 ∧ G 3 i = p) 8 0
def lowI (G : St) : Int32 := fndI (fun i => G 2 i = 0) 8 0
def btI (G : St) (b : Int32) : Int32 := if b = -1 then 0 else G 5 (ix b)
def oldI (G : St) (k : Int32) : Nat → Int32
  | 0 => -1
  | i + 1 => if G 2 i = k ∧ (oldI G k i = -1 ∨ G 5 i < btI G (oldI G k i)) then nI i else oldI G k i
def setI (G : St) (k : Int32) : Int32 := setP (fun i => G 2 i = k) 8
def bc1 (x : Int32) : Int32 := (x - ((x.toUInt32 >>> (Int32.toUInt32 1 &&& Int32.toUInt32 31)).toInt32 &&& 1431655765))
def bc2 (x : Int32) : Int32 := ((x &&& 858993459) + ((x.toUInt32 >>> (Int32.toUInt32 2 &&& Int32.toUInt32 31)).toInt32 &&& 858993459))
def bc3 (x : Int32) : Int32 := ((x + (x.toUInt32 >>> (Int32.toUInt32 4 &&& Int32.toUInt32 31)).toInt32) &&& 252645135)
def bc4 (x : Int32) : Int32 := (x + (x.toUInt32 >>> (Int32.toUInt32 8 &&& Int32.toUInt32 31)).toInt32)
def bc5 (x : Int32) : Int32 := (x + (x.toUInt32 >>> (Int32.toUInt32 16 &&& Int32.toUInt32 31)).toInt32)
def bcI (x : Int32) : Int32 := (bc5 (bc4 (bc3 (bc2 (bc1 x)))) &&& 63)
def nofI (G : St) (k : Int32) : Int32 := bcI (setI G k)
def lahI (G : St) (x k : Int32) : Int32 := if rg x 8 = true then nI (cntN (fun j => ¬ G 2 j < k ∧ G 5 j < G 5 (ix x)) 8) else 0
def sbcI (G : St) : Int32 := miI (nofI G 2) (savI G)
def losI (G : St) : Int32 := setP (fun i => G 2 i = 2 ∧ ¬ lahI G (nI i) 2 < sbcI G) 8
def takI (G : St) : Int32 := if lowI G = -1 then (if oldI G 1 8 = -1 then oldI G 2 8 else oldI G 1 8) else lowI G
def tooI (G : St) : Int32 := maI (nofI G 2 - alwI G) 0
def dtdF (G : St) (x : Int32) : Nat → Int32
  | 0 => 64
  | i + 1 => if ¬ nI i = x ∧ G 2 i = 2 then miI (dtdF G x i) (abI (G 3 i - G 3 (ix x))) else dtdF G x i
def dtdI (G : St) (x : Int32) : Int32 := if rg x 8 = true then dtdF G x 8 else 64
def disI (G : St) (i : Nat) : Int32 := if G 2 i = 2 then dtdI G (nI i) else 64
def nprF (G : St) : Nat → Int32 × Int32
  | 0 => (-1, 64)
  | i + 1 => if disI G i < (nprF G i).2 ∨ (disI G i = (nprF G i).2 ∧ rg (nprF G i).1 8 = true ∧ G 5 i < G 5 (ix (nprF G i).1)) then (nI i, disI G i) else nprF G i
-- what changes
def layG (G : St) (p v : Int32) : St := if rg p 64 = true then s2 (s2 (s2 G 0 (ix p) v) 1 (ix p) (G 1 (ix p) + 1)) 7 8 (G 7 8 + 1) else G
def fluG (G : St) (x : Int32) : St := if rg x 8 = true ∧ G 2 (ix x) = 2 then s2 (layG (s2 G 2 (ix x) 1) (G 3 (ix x)) (G 4 (ix x))) 7 3 (layG (s2 G 2 (ix x) 1) (G 3 (ix x)) (G 4 (ix x)) 7 3 + 1) else G
def linG (G : St) (x p : Int32) : St := if rg x 8 = true ∧ rg p 64 = true then s2 (s2 (s2 G 2 (ix x) 1) 3 (ix x) p) 4 (ix x) (G 0 (ix p)) else G
def misG (G : St) : St := s2 G 7 2 (G 7 2 + 1)
def lnfI (G : St) (p : Int32) : Int32 := if rg (hldI G p) 8 = true then hldI G p else takI (misG G)
def lnf1 (G : St) (p : Int32) : St := if rg (hldI G p) 8 = true then s2 G 7 1 (G 7 1 + 1) else linG (fluG (misG G) (takI (misG G))) (takI (misG G)) p
def trnG (G : St) (x : Int32) : St := if rg x 8 = true then s2 (s2 G 9 0 (G 9 0 + 1)) 5 (ix x) (G 9 0 + 1) else G
def lnfG (G : St) (p : Int32) : St := trnG (lnf1 G p) (lnfI G p)
def rdpI (G : St) (p : Int32) : Int32 := if rg (lnfI G p) 8 = true then lnfG G p 4 (ix (lnfI G p)) else 0
def wp1 (G : St) (p v : Int32) : St := s2 (lnfG G p) 4 (ix (lnfI G p)) v
def wptI (G : St) (p v : Int32) : Int32 := if ¬ rg (lnfI G p) 8 = true then 0 else if wp1 G p v 2 (ix (lnfI G p)) = 2 ∨ nofI (wp1 G p v) 2 < alwI (wp1 G p v) then 0 else 1
def wptG (G : St) (p v : Int32) : St := if ¬ rg (lnfI G p) 8 = true then lnfG G p else if wp1 G p v 2 (ix (lnfI G p)) = 2 ∨ nofI (wp1 G p v) 2 < alwI (wp1 G p v) then s2 (wp1 G p v) 2 (ix (lnfI G p)) 2 else s2 (layG (wp1 G p v) p v) 7 4 (layG (wp1 G p v) p v 7 4 + 1)
def flsG (G : St) : Nat → St
  | 0 => G
  | i + 1 => fluG (flsG G i) (oldI (flsG G i) 2 8)
def tcG (G : St) : St := s2 G 7 0 (G 7 0 + 1)
def tk0 (G : St) : St := if endB (tcG G) = true then s2 (tkG (tcG G)) 7 7 (tkG (tcG G) 7 7 + 1) else tkG (tcG G)
def tk1 (G : St) : St := flsG (tk0 G) (ix (tooI (tk0 G)))
def tksG (G : St) : Nat → St
  | 0 => G
  | i + 1 => tk1 (tksG G i)
def loaG (G : St) (x : Int32) : St := flsG (useG G x) (ix (tooI (useG G x)))
def bgcG (G : St) : St := flsG (s2 G 6 2 1) (ix (tooI (s2 G 6 2 1)))
def empG (G : St) : Nat → St
  | 0 => G
  | i + 1 => s2 (empG G i) 2 i 0
def ct1 (G : St) : St := sacG (flsG G (ix (sbcI G))) (sbcI G)
def cutI (G : St) : Int32 := nofI (ct1 G) 2
def cutG (G : St) : St := s2 (s2 (empG (ct1 G) 8) 7 5 (empG (ct1 G) 8 7 5 + cutI G)) 7 6 (s2 (empG (ct1 G) 8) 7 5 (empG (ct1 G) 8 7 5 + cutI G) 7 6 + 1)
-- small laws of these words
theorem rg_in {x : Int32} {n : Nat} {b : Int32} (hb : b = nI n) (hn : n < 2147483648) (h : rg x b = true) : vp_in x n := by
  have h := of_decide_eq_true h
  subst hb
  exact x_in hn h.1 h.2
theorem i32_irr (x : Int32) : ¬ x < x := by
  rw [Int32.lt_iff_toInt_lt]
  omega
theorem s2_ap (G : St) (r j : Nat) (v : Int32) (a : Nat) : s2 G r j v a = (if a = r then upd (G a) j v else G a) := rfl
def rowG (G : St) (r : Nat) (f : Nat → Int32) : St := fun a => if a = r then f else G a
/-- the battery of another state put into a state -/
def mxB (G B : St) : St := fun a => if a = 6 then B 6 else if a = 8 then B 8 else G a
theorem nI_nm1 {i : Nat} (h : i < 2147483648) : ¬ nI i = -1 := by
  intro q
  have h1 : (nI i).toInt = (-1 : Int32).toInt := by rw [q]
  rw [nI_toInt h] at h1
  have h2 : (-1 : Int32).toInt = -1 := by decide
  omega
theorem ix_lt31 (x : Int32) : ix x < 2147483648 := by
  have h := Int32.toInt_lt x
  unfold ix Int32.toNatClampNeg
  omega
theorem nI_lt_ix {i : Nat} {x : Int32} (h : i < 2147483648) : nI i < x ↔ i < ix x := by
  rw [Int32.lt_iff_toInt_lt, nI_toInt h]
  unfold ix Int32.toNatClampNeg
  omega
theorem nlt_ix {i : Nat} {x : Int32} (h : i ≤ ix x) (hn : ¬ nI i < x) : i = ix x := by
  have h1 := ix_lt31 x
  rcases Nat.lt_or_ge i (ix x) with q | q
  · exact absurd ((nI_lt_ix (by omega)).mpr q) hn
  · omega
theorem lt_ix {i : Nat} {x : Int32} (h : i ≤ ix x) (hn : nI i < x) : i < ix x := by
  have h1 := ix_lt31 x
  exact (nI_lt_ix (by omega)).mp hn
section XCP
variable {p : Program} {l : Launch} {e : Env} {R : Room} {s : State} {m : MethodId} {args : Array Value} {below : List Frame} {meth : Method} {c : Code} {H : Heap} {locs : List Loc} {cells slots : Nat} {Q : State → Prop}
variable {cc : ByteArray} {nL : Nat} {Ts : List Cond} {own : String} {D : va_G} {tys : List (ClassId × FieldType)} {ret : Option FieldType} {A : Nat → Prop} {H0 : Heap} {ws : va_W}
variable {pc : Nat} {ls : Array Slot} {rest : List Value} {a a0 : Nat} {lv : List (Nat × Value)}
/-- System.arraycopy of a whole row of ints into another of the same length -/
theorem x_copyi (C : xC p s m meth c args cc nL Ts own D tys ret) (hl : lv_has ls nL lv) (w : xW D A H0 ws H locs) (q0 q1 t0 k : Nat) {cA : ClassId} {f g : Nat → Int32} {index : Nat} {n sp dp : Int32} {ws2 : va_W} (ha0 : ws[q0]? = some (a0, .inl (cA, k, .inl f))) (ha1 : ws[q1]? = some (a, .inl (cA, k, .inl g))) (ht : tys[t0]? = some (cA, .int)) (h1 : Cond.methodLink own index arraycopyName ∈ Ts) (h2 : Cond.native arraycopyName ∈ Ts) (h3 : Cond.static arraycopyName ∈ Ts) (h4 : Cond.initialized "java/lang/System" ∈ Ts)
    (hk : n = nI k ∧ k < 2147483648 ∧ sp = 0 ∧ dp = 0) (hw2 : ws.set q1 (a, .inl (cA, k, .inl f)) = ws2) (hR : 1 ≤ R.frames ∧ (rest.map fun v => v.category).sum + (nativeFrameWords "java/lang/System" "arraycopy" 5 + 11) ≤ R.locals) (hdg : decode cc pc = .ok (.invokestatic index, 3))
    (kk : ∀ (H1 : Heap) (locs1 : List Loc), xW D A H0 ws2 H1 locs1 → W p l e R s m args below meth c H1 locs1 cells slots Q (F0 m (pc + 3) ls rest)) : W p l e R s m args below meth c H locs cells slots Q (F0 m pc ls (.int n :: .int dp :: .ref a :: .int sp :: .ref a0 :: rest)) := by
  obtain ⟨rfl, hk, rfl, rfl⟩ := hk
  subst hw2
  have e0 : (0 : Int32).toNatClampNeg = 0 := by decide
  have ek : (nI k).toNatClampNeg = k := nI_clamp hk
  refine va_copyi (D := D) C.1.1 C.1.2.1 (C.1.2.2.1.trans hl.1.symm) C.1.2.2.2.1 (C.1.2.2.2.2 _ h1) (C.1.2.2.2.2 _ h2) (C.1.2.2.2.2 _ h3) (C.1.2.2.2.2 _ h4) C.2.1 w.1 w.2.1 w.2.2.1 q0 q1 t0 t0 ha0 ha1 ht ht rfl (by decide) (by decide) (nI_pos hk) (by rw [e0, ek]; omega) (by rw [e0, ek]; omega) (fun _ _ => rfl) hR.1 hR.2 hdg (fun H1 locs1 z1 z2 z3 => ?_)
  rw [e0, ek] at z1 z2
  have hlen : q1 < ws.length := (List.getElem?_eq_some_iff.mp ha1).1
  refine kk H1 locs1 (x_ext (ws := ws.set q1 (a, .inl (cA, k, .inl (va_cpy f g 0 0 k)))) (g := f) ⟨z1, z2, z3, w.2.2.2⟩ q1 (by rw [List.getElem?_set_self hlen]) (fun j hj => ?_) (by rw [List.set_set]))
  show va_cpy f g 0 0 k j = f j
  unfold va_cpy
  rw [if_pos ⟨Nat.zero_le _, by omega⟩]
  congr 1
  omega
end XCP
