/-! ===== the class's history and its whole world ===== -/
def hH (cS : ClassId) (h : Nat → Nat) (b : Nat → Nat → Nat) (n : Int32) : va_W := [(h 0, .inr (1, [.ref (h 1), .int n])), (h 1, .inl (cS, 4, .inr (.inr (.inr (.inr (fun i => some (b i 0)))))))]
def rtA (b : Nat → Nat → Nat) : Nat → Nat → Nat := fun i => if i = 0 then b 1 else if i = 1 then b 2 else if i = 2 then b 3 else b 0
def rtG (Hs : Nat → St) : Nat → St := fun i => if i = 0 then Hs 1 else if i = 1 then Hs 2 else if i = 2 then Hs 3 else Hs 0
def kpA (k : Nat) (b : Nat → Nat → Nat) : Nat → Nat → Nat := if k = 4 then rtA b else b
def kpG (k : Nat) (Hs : Nat → St) (G : St) : Nat → St := if k = 4 then (fun i => if i = 3 then G else rtG Hs i) else (fun i => if i = k then G else Hs i)
def kpN (k : Nat) : Nat := if k = 4 then 4 else k + 1
section XQ
variable {p : Program} {l : Launch} {e : Env} {R : Room} {s : State} {m : MethodId} {args : Array Value} {below : List Frame} {meth : Method} {c : Code} {H : Heap} {locs : List Loc} {cells slots : Nat} {Q : State → Prop}
variable {cc : ByteArray} {nL : Nat} {Ts : List Cond} {own : String} {D : va_G} {tys : List (ClassId × FieldType)} {ret : Option FieldType} {A : Nat → Prop} {H0 : Heap} {ws : va_W}
variable {pc : Nat} {ls : Array Slot} {rest : List Value} {a : Nat}
theorem x_aald (C : xC p s m meth c args cc nL Ts own D tys ret) (w : xW D A H0 ws H locs) (q0 t0 : Nat) {cA : ClassId} {Cn : String} {n : Nat} {f : Nat → Option Nat} {i : Int32} {v : Nat} (j : Nat) (ha : ws[q0]? = some (a, .inl (cA, n, .inr (.inr (.inr (.inr f)))))) (ht : tys[t0]? = some (cA, .object Cn)) (hi : i = nI j) (hj : j < n) (hn : n < 2147483648) (hv : f j = some v) (hdg : decode cc pc = .ok (.aaload, 1))
    (kk : W p l e R s m args below meth c H locs cells slots Q (F0 m (pc + 1) ls (.ref v :: rest))) : W p l e R s m args below meth c H locs cells slots Q (F0 m pc ls (.int i :: .ref a :: rest)) := by
  subst hi
  refine va_aldq (D := D) C.1.1 C.1.2.1 C.2.1 w.1 q0 t0 ha ht (vp_in_nI hj hn) hdg ?_
  rw [nI_clamp (Nat.lt_trans hj hn), hv]
  exact kk
theorem x_aast (C : xC p s m meth c args cc nL Ts own D tys ret) (w : xW D A H0 ws H locs) (q0 t0 qk ci : Nat) {cA : ClassId} {r : vw_C} {n v : Nat} {vs : List Value} {f g : Nat → Option Nat} {i : Int32} {ws2 : va_W} (j : Nat) (ha : ws[q0]? = some (a, .inl (cA, n, .inr (.inr (.inr (.inr f)))))) (ht : tys[t0]? = some (cA, .object r.1)) (hv : ws[qk]? = some (v, .inr (ci, vs))) (hc : vwCl[ci]? = some r) (hi : i = nI j) (hj : j < n) (hn : n < 2147483648) (hg : va_up f j (some v) = g) (hw2 : ws.set q0 (a, .inl (cA, n, .inr (.inr (.inr (.inr g))))) = ws2) (hdg : decode cc pc = .ok (.aastore, 1))
    (kk : ∀ (H1 : Heap) (locs1 : List Loc), xW D A H0 ws2 H1 locs1 → W p l e R s m args below meth c H1 locs1 cells slots Q (F0 m (pc + 1) ls rest)) : W p l e R s m args below meth c H locs cells slots Q (F0 m pc ls (.ref v :: .int i :: .ref a :: rest)) := by
  subst hi
  subst hw2
  subst hg
  refine va_astq (D := D) C.1.1 C.1.2.1 C.2.1 w.1 w.2.1 w.2.2.1 q0 t0 qk ci ha ht hv hc (vp_in_nI hj hn) hdg (fun H1 locs1 h1 h2 h3 => ?_)
  rw [nI_clamp (Nat.lt_trans hj hn)] at h1 h2
  exact kk H1 locs1 ⟨h1, h2, h3, w.2.2.2⟩
/-- an array of references told by another function that is the same on its places -/
theorem x_extq (w : xW D A H0 ws H locs) (q0 : Nat) {cA : ClassId} {n : Nat} {f g : Nat → Option Nat} {ws2 : va_W} (ha : ws[q0]? = some (a, .inl (cA, n, .inr (.inr (.inr (.inr f)))))) (hfg : ∀ j, j < n → f j = g j) (hw2 : ws.set q0 (a, .inl (cA, n, .inr (.inr (.inr (.inr g))))) = ws2) : xW D A H0 ws2 H locs := by
  subst hw2
  refine ⟨w.1.set w.2.1 ha ?_ (fun q _ => rfl), w.2.1.set ha, w.2.2⟩
  have h0 : H[a]? = some (vp_cell cA (n, .inr (.inr (.inr (.inr f))))) := w.1 q0 _ ha
  show H[a]? = some (vp_cell cA (n, .inr (.inr (.inr (.inr g)))))
  rw [h0, vp_cell_q, vp_cell_q]
  have e : (Array.ofFn (n := n) fun j => va_rf (f j.val)) = Array.ofFn (n := n) fun j => va_rf (g j.val) := by
    congr 1
    funext j
    rw [hfg j.val j.isLt]
  unfold arrV
  rw [e]
end XQ
def xTop (x : Nat) (o h t : Nat → Nat) (r tb : Nat) : va_W := [(x, .inr (6, [.ref (o 0), .ref (h 0), .ref (t 0), .ref r, .ref tb]))]
/-- the class's whole world -/
def cX (cI cS : ClassId) (x : Nat) (o h : Nat → Nat) (b : Nat → Nat → Nat) (t : Nat → Nat) (r q : Nat) (u : Nat → Nat) (tb : Nat) (G : St) (n : Int32) (Hs : Nat → St) (T : Nat → Int32) (tn : Int32) (f : Nat → Int32) (d : Int32) (U B : St) : va_W :=
  xTop x o h t r tb ++ sW cI o G ++ hH cS h b n ++ sW cI (b 0) (Hs 0) ++ sW cI (b 1) (Hs 1) ++ sW cI (b 2) (Hs 2) ++ sW cI (b 3) (Hs 3) ++ tW cI t T tn ++ rW3 r u q d ++ oW q f ++ sW cI u U ++ bW tb B
def lofI (G : St) (x k : Int32) : Int32 := if rg x 8 = true then (if wth k 0 4 = true then (if k = 0 then G 2 (ix x) else if G 2 (ix x) = 0 then -1000004 else if k = 1 then G 3 (ix x) else if k = 2 then G 4 (ix x) else if k = 3 then G 5 (ix x) else lahI G x 1) else -1000001) else -1000001
def pofI (G : St) (x k : Int32) : Int32 := if rg x 64 = true then (if wth k 0 3 = true then (if k = 0 then G 0 (ix x) else if k = 1 then (if rg (hldI G x) 8 = true then G 4 (ix (hldI G x)) else G 0 (ix x)) else if k = 2 then (if rg (hldI G x) 8 = true then hldI G x else -1000004) else G 1 (ix x)) else -1000001) else -1000001
def batI (G : St) (k : Int32) : Int32 := if k = 0 then G 6 0 else if k = 1 then capI G else if k = 2 then G 6 1 else if k = 3 then alwI G else if k = 4 then G 6 2 else if k = 5 then sbcI G else -1000001
def linI (G : St) (k : Int32) : Int32 := if k = 0 then setI G 0 else if k = 1 then setI G 1 else if k = 2 then setI G 2 else if k = 3 then losI G else -1000001
def wfI (G : St) (x : Int32) : Int32 := maI (nofI G 2 - alwI (useG G x)) 0
def spaI (G : St) : Int32 := maI (G 6 0 - cosI G (nofI G 2)) 0
def criI (G : St) : Int32 := if 0 < nofI G 2 then (if spaI G < 999 then spaI G + 1 else -1000004) else -1000004
def tkbG (G : St) : Nat → St
  | 0 => G
  | i + 1 => tkG (tkbG G i)
def tuF (G : St) (x : Int32) : Nat → Nat → Int32
  | 0, _ => -1000004
  | n + 1, i => if alwI (tkbG G i) < x then tuF G x n (i + 1) else nI i
def tuN (G : St) (x : Int32) : Nat → Nat → Nat
  | 0, i => i
  | n + 1, i => if alwI (tkbG G i) < x then tuN G x n (i + 1) else i
def parI (G : St) (k : Int32) : Int32 := if wth k 0 1 = true then (if rg (nprF G 8).1 8 = true then (if k = 0 then (nprF G 8).1 else dtdI G (nprF G 8).1) else -1000004) else -1000001
def conI (G : St) (n tn k : Int32) : Int32 := if k = 0 then G 7 0 else if k = 1 then G 7 1 else if k = 2 then G 7 2 else if k = 3 then G 7 3 else if k = 4 then G 7 4 else if k = 5 then G 7 5 else if k = 6 then G 7 6 else if k = 7 then G 7 7 else if k = 8 then G 7 8 else if k = 9 then n else if k = 10 then tn else if rg (k - 20) 4 = true then stgI G (k - 20) else -1000001
