/-! ===== texts and orders of the class: words for what its methods make of them ===== -/
def tW (cI : ClassId) (t : Nat → Nat) (T : Nat → Int32) (tn : Int32) : va_W := [(t 0, .inr (5, [.ref (t 1), .int tn])), (t 1, .inl (cI, 60, .inl T))]
def oW (q : Nat) (f : Nat → Int32) : va_W := [(q, .inr (2, [.int (f 0), .int (f 1), .int (f 2), .int (f 3), .int (f 4), .int (f 5), .int (f 6)]))]
def chI (T : Nat → Int32) (tn x : Int32) : Int32 := if x < 0 then -1 else if x < tn then (if x < 60 then T (ix x) else -1) else -1
def appT (T : Nat → Int32) (tn x : Int32) : Nat → Int32 := if wth tn 0 59 = true then upd T (ix tn) x else T
def appN (tn : Int32) : Int32 := if wth tn 0 59 = true then tn + 1 else tn
def rnF (T : Nat → Int32) (tn : Int32) : Nat → Int32 → Int32 → Int32 × Int32
  | 0, r, n => (r, n)
  | k + 1, r, n => if wth (chI T tn n) 48 57 = true then rnF T tn k (((10 * r) + chI T tn n) - 48) (n + 1) else (r, n)
def rnI (T : Nat → Int32) (tn n : Int32) : Int32 := if wth (chI T tn n) 48 57 = true then (rnF T tn 3 0 n).1 else -1
def rnG (T : Nat → Int32) (tn : Int32) (f : Nat → Int32) : Nat → Int32 := upd f 1 (rnF T tn 3 0 (f 1)).2
def rsB (T : Nat → Int32) (tn : Int32) (f : Nat → Int32) (x : Int32) : Bool := decide (chI T tn (f 1) = x)
def rsG (T : Nat → Int32) (tn : Int32) (f : Nat → Int32) (x : Int32) : Nat → Int32 := if rsB T tn f x = true then upd f 1 (f 1 + 1) else f
-- number into place k (3 number, 4 newValue)
def nuG (T : Nat → Int32) (tn : Int32) (f : Nat → Int32) (k : Nat) : Nat → Int32 := upd (rnG T tn f) k (rnI T tn (f 1))
def hwB (T : Nat → Int32) (tn : Int32) (f : Nat → Int32) : Bool :=
  if nuG T tn f 3 3 = -1 then false else if rsB T tn (nuG T tn f 3) 61 = true then (if nuG T tn (rsG T tn (nuG T tn f 3) 61) 4 4 = -1 then false else rsB T tn (nuG T tn (rsG T tn (nuG T tn f 3) 61) 4) 59) else false
def hwG (T : Nat → Int32) (tn : Int32) (f : Nat → Int32) : Nat → Int32 :=
  if nuG T tn f 3 3 = -1 then nuG T tn f 3 else if rsB T tn (nuG T tn f 3) 61 = true then (if nuG T tn (rsG T tn (nuG T tn f 3) 61) 4 4 = -1 then nuG T tn (rsG T tn (nuG T tn f 3) 61) 4 else rsG T tn (nuG T tn (rsG T tn (nuG T tn f 3) 61) 4) 59) else rsG T tn (nuG T tn f 3) 61
def ltG (T : Nat → Int32) (tn : Int32) (f : Nat → Int32) : Nat → Int32 := upd f 2 (chI T tn (f 1))
def nxG (f : Nat → Int32) : Nat → Int32 := upd f 1 (f 1 + 1)
def hnB (T : Nat → Int32) (tn : Int32) (f : Nat → Int32) : Bool := if nuG T tn f 3 3 = -1 then false else rsB T tn (nuG T tn f 3) 59
def hnG (T : Nat → Int32) (tn : Int32) (f : Nat → Int32) : Nat → Int32 := if nuG T tn f 3 3 = -1 then nuG T tn f 3 else rsG T tn (nuG T tn f 3) 59
def hfB (T : Nat → Int32) (tn : Int32) (f : Nat → Int32) : Bool :=
  if ltG T tn f 2 = 99 then rsB T tn (nxG (ltG T tn f)) 59 else if ltG T tn f 2 = 103 then rsB T tn (nxG (ltG T tn f)) 59 else if ltG T tn f 2 = 108 then hnB T tn (nxG (ltG T tn f)) else if ltG T tn f 2 = 114 then hnB T tn (nxG (ltG T tn f)) else if ltG T tn f 2 = 116 then hnB T tn (nxG (ltG T tn f)) else if ltG T tn f 2 = 119 then hwB T tn (nxG (ltG T tn f)) else false
def hfG (T : Nat → Int32) (tn : Int32) (f : Nat → Int32) : Nat → Int32 :=
  if ltG T tn f 2 = 99 then rsG T tn (nxG (ltG T tn f)) 59 else if ltG T tn f 2 = 103 then rsG T tn (nxG (ltG T tn f)) 59 else if ltG T tn f 2 = 108 then hnG T tn (nxG (ltG T tn f)) else if ltG T tn f 2 = 114 then hnG T tn (nxG (ltG T tn f)) else if ltG T tn f 2 = 116 then hnG T tn (nxG (ltG T tn f)) else if ltG T tn f 2 = 119 then hwG T tn (nxG (ltG T tn f)) else ltG T tn f
def irB (f : Nat → Int32) : Bool := if f 2 = 108 then wth (f 3) 1 999 else if f 2 = 114 then rg (f 3) 64 else if f 2 = 116 then wth (f 3) 1 99 else if f 2 = 119 then rg (f 3) 64 else true
def st0 (f : Nat → Int32) : Nat → Int32 := upd f 0 (f 1)
def rxG (T : Nat → Int32) (tn : Int32) (f : Nat → Int32) : Nat → Int32 :=
  if hfB T tn (st0 f) = true then (if irB (hfG T tn (st0 f)) = true then hfG T tn (st0 f) else upd (upd (hfG T tn (st0 f)) 5 2) 6 (hfG T tn (st0 f) 3))
  else upd (upd (hfG T tn (st0 f)) 5 1) 6 (hfG T tn (st0 f) 1 - hfG T tn (st0 f) 0)
def posB (f : Nat → Int32) (G : St) : Bool := decide (¬ f 2 = 103 ∨ G 6 2 = 0)
def perG (f : Nat → Int32) (G : St) : St := if f 2 = 99 then cutG G else if f 2 = 108 then loaG G (f 3) else if f 2 = 114 then lnfG G (f 3) else if f 2 = 116 then tksG G (ix (f 3)) else if f 2 = 119 then wptG G (f 3) (f 4) else bgcG G
def rW3 (r : Nat) (o : Nat → Nat) (q : Nat) (d : Int32) : va_W := [(r, .inr (3, [.ref (o 0), .ref q, .int d]))]
/-- an order read and looked at: what its fields are then -/
def rpG (T : Nat → Int32) (tn : Int32) (f : Nat → Int32) (G : St) : Nat → Int32 := if rxG T tn f 5 = 0 then (if posB (rxG T tn f) G = true then rxG T tn f else upd (rxG T tn f) 5 3) else rxG T tn f
/-- the orders done from a state on: the order's fields, the state, how many were done -/
def runF (T : Nat → Int32) (tn : Int32) : Nat → (Nat → Int32) → St → Int32 → (Nat → Int32) × St × Int32
  | 0, f, G, d => (f, G, d)
  | k + 1, f, G, d => if f 1 < tn then (if rpG T tn f G 5 = 0 then runF T tn k (rpG T tn f G) (perG (rpG T tn f G) G) (d + 1) else (rpG T tn f G, G, d)) else (f, G, d)
def btG (f : Nat → Int32) : Nat → Int32 := upd (upd f 1 0) 5 0
theorem upd_self (f : Nat → Int32) (j : Nat) : f = upd f j (f j) := by
  funext a
  unfold upd
  by_cases h : a = j
  · rw [if_pos h, h]
  · rw [if_neg h]
theorem upd_upd (f : Nat → Int32) (j : Nat) (v z : Int32) : upd (upd f j v) j z = upd f j z := by
  funext a
  unfold upd
  by_cases h : a = j
  · rw [if_pos h, if_pos h]
  · rw [if_neg h, if_neg h, if_neg h]
theorem nI_z {i : Nat} (h : i < 2147483648) (h0 : nI i = 0) : i = 0 := (nI_eq (b := 0) h (by decide)).mp h0
theorem wth_in {x : Int32} {n : Nat} {b : Int32} (hb : b + 1 = nI n) (hn : n < 2147483648) (hb2 : b.toInt + 1 = n) (h : wth x 0 b = true) : vp_in x n := by
  have h := of_decide_eq_true h
  refine x_in hn h.1 ?_
  have h2 := h.2
  rw [Int32.lt_iff_toInt_lt] at h2 ⊢
  rw [nI_toInt hn]
  omega
theorem rn_done {T : Nat → Int32} {tn : Int32} {f : Nat → Int32} {k i : Nat} {r n1 : Int32} (hk : k + i = 3) (hq : rnF T tn k r n1 = rnF T tn 3 0 (f 1)) (h0 : i = 0 → n1 = f 1) (h1 : 0 < i → wth (chI T tn (f 1)) 48 57 = true) (hs : k = 0 ∨ ¬ wth (chI T tn n1) 48 57 = true) :
    rnF T tn 3 0 (f 1) = (r, n1) ∧ (¬ i = 0 → rnI T tn (f 1) = r) ∧ (i = 0 → rnI T tn (f 1) = -1) := by
  have e : rnF T tn 3 0 (f 1) = (r, n1) := by
    rw [← hq]
    cases k with
    | zero => rfl
    | succ k =>
      rcases hs with z | z
      · exact absurd z (Nat.succ_ne_zero k)
      · rw [rnF, if_neg z]
  refine ⟨e, fun z => ?_, fun z => ?_⟩
  · unfold rnI
    rw [if_pos (h1 (Nat.pos_of_ne_zero z)), e]
  · have hk0 : ¬ k = 0 := by omega
    have hz := hs.resolve_left hk0
    rw [h0 z] at hz
    unfold rnI
    rw [if_neg hz]
theorem oWa0 (q : Nat) (f : Nat → Int32) (v : Int32) : (oW q f).set 0 (q, .inr (2, List.set [.int (f 0), .int (f 1), .int (f 2), .int (f 3), .int (f 4), .int (f 5), .int (f 6)] 0 (.int v))) = oW q (upd f 0 v) := rfl
theorem oWb0 (q : Nat) (f : Nat → Int32) (v : Int32) (A : va_W) : (oW q f ++ A).set 0 (q, .inr (2, List.set [.int (f 0), .int (f 1), .int (f 2), .int (f 3), .int (f 4), .int (f 5), .int (f 6)] 0 (.int v))) = oW q (upd f 0 v) ++ A := rfl
theorem oWc0 (q : Nat) (f : Nat → Int32) (v : Int32) (r : Nat) (o : Nat → Nat) (d : Int32) (A B E : va_W) : (rW3 r o q d ++ oW q f ++ A ++ B ++ E).set 1 (q, .inr (2, List.set [.int (f 0), .int (f 1), .int (f 2), .int (f 3), .int (f 4), .int (f 5), .int (f 6)] 0 (.int v))) = rW3 r o q d ++ oW q (upd f 0 v) ++ A ++ B ++ E := rfl
theorem oWa1 (q : Nat) (f : Nat → Int32) (v : Int32) : (oW q f).set 0 (q, .inr (2, List.set [.int (f 0), .int (f 1), .int (f 2), .int (f 3), .int (f 4), .int (f 5), .int (f 6)] 1 (.int v))) = oW q (upd f 1 v) := rfl
theorem oWb1 (q : Nat) (f : Nat → Int32) (v : Int32) (A : va_W) : (oW q f ++ A).set 0 (q, .inr (2, List.set [.int (f 0), .int (f 1), .int (f 2), .int (f 3), .int (f 4), .int (f 5), .int (f 6)] 1 (.int v))) = oW q (upd f 1 v) ++ A := rfl
theorem oWc1 (q : Nat) (f : Nat → Int32) (v : Int32) (r : Nat) (o : Nat → Nat) (d : Int32) (A B E : va_W) : (rW3 r o q d ++ oW q f ++ A ++ B ++ E).set 1 (q, .inr (2, List.set [.int (f 0), .int (f 1), .int (f 2), .int (f 3), .int (f 4), .int (f 5), .int (f 6)] 1 (.int v))) = rW3 r o q d ++ oW q (upd f 1 v) ++ A ++ B ++ E := rfl
theorem oWa2 (q : Nat) (f : Nat → Int32) (v : Int32) : (oW q f).set 0 (q, .inr (2, List.set [.int (f 0), .int (f 1), .int (f 2), .int (f 3), .int (f 4), .int (f 5), .int (f 6)] 2 (.int v))) = oW q (upd f 2 v) := rfl
theorem oWb2 (q : Nat) (f : Nat → Int32) (v : Int32) (A : va_W) : (oW q f ++ A).set 0 (q, .inr (2, List.set [.int (f 0), .int (f 1), .int (f 2), .int (f 3), .int (f 4), .int (f 5), .int (f 6)] 2 (.int v))) = oW q (upd f 2 v) ++ A := rfl
theorem oWc2 (q : Nat) (f : Nat → Int32) (v : Int32) (r : Nat) (o : Nat → Nat) (d : Int32) (A B E : va_W) : (rW3 r o q d ++ oW q f ++ A ++ B ++ E).set 1 (q, .inr (2, List.set [.int (f 0), .int (f 1), .int (f 2), .int (f 3), .int (f 4), .int (f 5), .int (f 6)] 2 (.int v))) = rW3 r o q d ++ oW q (upd f 2 v) ++ A ++ B ++ E := rfl
theorem oWa3 (q : Nat) (f : Nat → Int32) (v : Int32) : (oW q f).set 0 (q, .inr (2, List.set [.int (f 0), .int (f 1), .int (f 2), .int (f 3), .int (f 4), .int (f 5), .int (f 6)] 3 (.int v))) = oW q (upd f 3 v) := rfl
theorem oWb3 (q : Nat) (f : Nat → Int32) (v : Int32) (A : va_W) : (oW q f ++ A).set 0 (q, .inr (2, List.set [.int (f 0), .int (f 1), .int (f 2), .int (f 3), .int (f 4), .int (f 5), .int (f 6)] 3 (.int v))) = oW q (upd f 3 v) ++ A := rfl
theorem oWc3 (q : Nat) (f : Nat → Int32) (v : Int32) (r : Nat) (o : Nat → Nat) (d : Int32) (A B E : va_W) : (rW3 r o q d ++ oW q f ++ A ++ B ++ E).set 1 (q, .inr (2, List.set [.int (f 0), .int (f 1), .int (f 2), .int (f 3), .int (f 4), .int (f 5), .int (f 6)] 3 (.int v))) = rW3 r o q d ++ oW q (upd f 3 v) ++ A ++ B ++ E := rfl
theorem oWa4 (q : Nat) (f : Nat → Int32) (v : Int32) : (oW q f).set 0 (q, .inr (2, List.set [.int (f 0), .int (f 1), .int (f 2), .int (f 3), .int (f 4), .int (f 5), .int (f 6)] 4 (.int v))) = oW q (upd f 4 v) := rfl
theorem oWb4 (q : Nat) (f : Nat → Int32) (v : Int32) (A : va_W) : (oW q f ++ A).set 0 (q, .inr (2, List.set [.int (f 0), .int (f 1), .int (f 2), .int (f 3), .int (f 4), .int (f 5), .int (f 6)] 4 (.int v))) = oW q (upd f 4 v) ++ A := rfl
theorem oWc4 (q : Nat) (f : Nat → Int32) (v : Int32) (r : Nat) (o : Nat → Nat) (d : Int32) (A B E : va_W) : (rW3 r o q d ++ oW q f ++ A ++ B ++ E).set 1 (q, .inr (2, List.set [.int (f 0), .int (f 1), .int (f 2), .int (f 3), .int (f 4), .int (f 5), .int (f 6)] 4 (.int v))) = rW3 r o q d ++ oW q (upd f 4 v) ++ A ++ B ++ E := rfl
theorem oWa5 (q : Nat) (f : Nat → Int32) (v : Int32) : (oW q f).set 0 (q, .inr (2, List.set [.int (f 0), .int (f 1), .int (f 2), .int (f 3), .int (f 4), .int (f 5), .int (f 6)] 5 (.int v))) = oW q (upd f 5 v) := rfl
theorem oWb5 (q : Nat) (f : Nat → Int32) (v : Int32) (A : va_W) : (oW q f ++ A).set 0 (q, .inr (2, List.set [.int (f 0), .int (f 1), .int (f 2), .int (f 3), .int (f 4), .int (f 5), .int (f 6)] 5 (.int v))) = oW q (upd f 5 v) ++ A := rfl
theorem oWc5 (q : Nat) (f : Nat → Int32) (v : Int32) (r : Nat) (o : Nat → Nat) (d : Int32) (A B E : va_W) : (rW3 r o q d ++ oW q f ++ A ++ B ++ E).set 1 (q, .inr (2, List.set [.int (f 0), .int (f 1), .int (f 2), .int (f 3), .int (f 4), .int (f 5), .int (f 6)] 5 (.int v))) = rW3 r o q d ++ oW q (upd f 5 v) ++ A ++ B ++ E := rfl
theorem oWa6 (q : Nat) (f : Nat → Int32) (v : Int32) : (oW q f).set 0 (q, .inr (2, List.set [.int (f 0), .int (f 1), .int (f 2), .int (f 3), .int (f 4), .int (f 5), .int (f 6)] 6 (.int v))) = oW q (upd f 6 v) := rfl
theorem oWb6 (q : Nat) (f : Nat → Int32) (v : Int32) (A : va_W) : (oW q f ++ A).set 0 (q, .inr (2, List.set [.int (f 0), .int (f 1), .int (f 2), .int (f 3), .int (f 4), .int (f 5), .int (f 6)] 6 (.int v))) = oW q (upd f 6 v) ++ A := rfl
theorem oWc6 (q : Nat) (f : Nat → Int32) (v : Int32) (r : Nat) (o : Nat → Nat) (d : Int32) (A B E : va_W) : (rW3 r o q d ++ oW q f ++ A ++ B ++ E).set 1 (q, .inr (2, List.set [.int (f 0), .int (f 1), .int (f 2), .int (f 3), .int (f 4), .int (f 5), .int (f 6)] 6 (.int v))) = rW3 r o q d ++ oW q (upd f 6 v) ++ A ++ B ++ E := rfl
