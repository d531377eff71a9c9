/-! ===== what holds of every state: bounds, and what they give ===== -/
theorem s2_comm (G : St) {r r2 : Nat} (h : ¬ r = r2) (j j2 : Nat) (v v2 : Int32) : s2 (s2 G r j v) r2 j2 v2 = s2 (s2 G r2 j2 v2) r j v := by
  funext a
  simp only [s2_ap]
  by_cases h1 : a = r2
  · subst h1
    rw [if_pos rfl, if_neg (fun q => h q.symm), if_neg (fun q => h q.symm), if_pos rfl]
  · by_cases h2 : a = r
    · subst h2
      rw [if_neg h1, if_pos rfl, if_pos rfl, if_neg h1]
    · rw [if_neg h1, if_neg h2, if_neg h2, if_neg h1]
theorem s2_row (G : St) {r a : Nat} (h : ¬ a = r) (j : Nat) (v : Int32) : s2 G r j v a = G a := by rw [s2_ap, if_neg h]
theorem s2_at (G : St) (r j : Nat) (v : Int32) : s2 G r j v r j = v := by rw [s2_ap, if_pos rfl]; unfold upd; rw [if_pos rfl]
theorem s2_ne (G : St) (r : Nat) {j k : Nat} (h : ¬ k = j) (v : Int32) : s2 G r j v r k = G r k := by rw [s2_ap, if_pos rfl]; unfold upd; rw [if_neg h]
theorem rg_nI {l n : Nat} {b : Int32} (hb : b = nI n) (h : l < n) (hn : n < 2147483648) : rg (nI l) b = true := by
  subst hb
  exact decide_eq_true ⟨nI_pos (by omega), (nI_ltI (by omega) hn).mpr h⟩
theorem rg_m1 (b : Int32) : ¬ rg (-1) b = true := by
  intro h
  have h := of_decide_eq_true h
  exact h.1 (by decide)
theorem rg_ex {x : Int32} {n : Nat} {b : Int32} (hb : b = nI n) (hn : n < 2147483648) (h : rg x b = true) : ∃ l, l < n ∧ x = nI l := vp_in_of (rg_in hb hn h) hn
def vN (m : Nat) (x : Int32) : Prop := ∃ n, n ≤ m ∧ x = nI n
theorem vN_m {m k : Nat} {x : Int32} (h : vN m x) (hk : m ≤ k) : vN k x := by
  obtain ⟨n, h1, h2⟩ := h
  exact ⟨n, by omega, h2⟩
theorem vN_upd {m : Nat} {f : Nat → Int32} {j : Nat} {v : Int32} (h : ∀ l, vN m (f l)) (hv : vN m v) : ∀ l, vN m (upd f j v l) := by
  intro l
  unfold upd
  by_cases q : l = j
  · rw [if_pos q]; exact hv
  · rw [if_neg q]; exact h l
def IL (r0 r2 r3 r4 : Nat → Int32) : Prop := (∀ l, vN 63 (r3 l)) ∧ (∀ l, vN 2 (r2 l)) ∧ (∀ l, vN 999 (r4 l)) ∧ (∀ l, vN 999 (r0 l))
def IB (r6 r8 : Nat → Int32) : Prop := vN 1000 (r6 0) ∧ vN 90 (r6 1) ∧ vN 2 (r6 2) ∧ (∃ n, 1 ≤ n ∧ n ≤ 500 ∧ r8 0 = nI n) ∧ vN 500 (r8 1) ∧ vN 200 (r8 2) ∧ (∃ n, 1 ≤ n ∧ n ≤ 500 ∧ r8 3 = nI n)
def IC (r6 r2 : Nat → Int32) : Prop := r6 2 = 0 ∨ ∀ l, l < 8 → ¬ r2 l = 2
def Inv (G : St) : Prop := IL (G 0) (G 2) (G 3) (G 4) ∧ IB (G 6) (G 8)
def NoD (G : St) : Prop := IC (G 6) (G 2)
theorem vN_0 (m : Nat) : vN m 0 := ⟨0, by omega, rfl⟩
theorem vN_lit {m : Nat} (n : Nat) (h : n ≤ m) : vN m (nI n) := ⟨n, h, rfl⟩
theorem kinds {x : Int32} (h : vN 2 x) : x = 0 ∨ x = 1 ∨ x = 2 := by
  obtain ⟨n, h1, rfl⟩ := h
  rcases (show n = 0 ∨ n = 1 ∨ n = 2 by omega) with q | q | q <;> subst q
  · exact Or.inl rfl
  · exact Or.inr (Or.inl rfl)
  · exact Or.inr (Or.inr rfl)
-- numbers
theorem maI_sub {c m : Nat} (hc : c < 1073741824) (hm : m < 1073741824) : maI (nI c - nI m) 0 = nI (c - m) := by
  unfold maI
  rcases Nat.lt_or_ge c m with q | q
  · rw [if_pos (pk_sneg hm q), show c - m = 0 by omega]; rfl
  · rw [pk_sub q, if_neg (nI_pos (by omega))]
theorem miI_nI {a b : Nat} (ha : a < 2147483648) (hb : b < 2147483648) : miI (nI a) (nI b) = nI (min a b) := by
  unfold miI
  rcases Nat.lt_or_ge b a with q | q
  · rw [if_pos ((nI_ltI hb ha).mpr q), Nat.min_eq_right (by omega)]
  · rw [if_neg (fun z => by have := (nI_ltI hb ha).mp z; omega), Nat.min_eq_left q]
theorem maI_ix (x : Int32) : maI x 0 = nI (ix (maI x 0)) := by
  have h : ¬ maI x 0 < 0 := by
    unfold maI
    by_cases q : x < 0
    · rw [if_pos q]; exact i32_irr 0
    · rw [if_neg q]; exact q
  obtain ⟨j, hj, e⟩ := nI_of h
  rw [e, ix_nI hj]
theorem capI_nI {G : St} {w : Nat} (hw : w ≤ 90) (e : G 6 1 = nI w) : capI G = nI (1000 - 10 * w) := by
  unfold capI
  rw [e, show (10 : Int32) = nI 10 from rfl, show (1000 : Int32) = nI 1000 from rfl, pk_mul, pk_sub (by omega)]
theorem chgI_nI {G : St} {c w r : Nat} (hc : c ≤ 1000) (hw : w ≤ 90) (hr : r ≤ 200) (e0 : G 6 0 = nI c) (e1 : G 6 1 = nI w) (e2 : G 8 2 = nI r) : chgI G = nI (min (c + r) (1000 - 10 * w)) := by
  unfold chgI
  rw [capI_nI hw e1, e0, e2, nI_add, miI_nI (by omega) (by omega)]
theorem cosI_nI {G : St} {a k n : Nat} (e0 : G 8 0 = nI a) (e1 : G 8 1 = nI k) : cosI G (nI n) = nI (k + n * a) := by
  unfold cosI
  rw [e0, e1, pk_mul, nI_add]
def sN (c k a : Nat) : Nat := if c < k then 0 else min ((c - k) / a) 8
theorem savI_nI {G : St} {c a k : Nat} (hc : c ≤ 1000) (ha1 : 1 ≤ a) (ha : a ≤ 500) (hk : k ≤ 500) (e0 : G 6 0 = nI c) (e1 : G 8 0 = nI a) (e2 : G 8 1 = nI k) : savI G = nI (sN c k a) := by
  unfold savI sN
  rw [e0, e1, e2]
  have h1 : ¬ nI a < 1 := fun z => by
    have := (nI_ltI (a := a) (b := 1) (by omega) (by decide)).mp z
    omega
  rcases Nat.lt_or_ge c k with q | q
  · rw [if_pos (Or.inl ((nI_ltI (by omega) (by omega)).mpr q)), if_pos q]; rfl
  · have h2 : ¬ nI c < nI k := fun z => by
      have := (nI_ltI (by omega) (by omega)).mp z
      omega
    have hd : (c - k) / a ≤ 1000 := Nat.le_trans (Nat.div_le_self _ _) (by omega)
    rw [if_neg (fun z => z.elim h2 h1), if_neg (by omega), pk_sub q, pk_div (by omega) (by omega) (by omega), show (8 : Int32) = nI 8 from rfl, miI_nI (by omega) (by decide)]
theorem sN_le (c k a : Nat) : sN c k a ≤ 8 := by
  unfold sN
  by_cases q : c < k
  · rw [if_pos q]; omega
  · rw [if_neg q]; exact Nat.min_le_right _ _
-- eight lines: how many, as a set and as a number
def stB (x : Int32) (b : Bool) (i : Nat) : Int32 := if b = true then x ||| ((1 : Int32) <<< (nI i &&& 31)) else x
def ctB (n : Nat) (b : Bool) : Nat := if b = true then n + 1 else n
theorem setP_st (P : Nat → Prop) [DecidablePred P] (i : Nat) : setP P (i + 1) = stB (setP P i) (decide (P i)) i := by
  simp only [setP, stB, decide_eq_true_eq]
theorem cntN_ct (P : Nat → Prop) [DecidablePred P] (i : Nat) : cntN P (i + 1) = ctB (cntN P i) (decide (P i)) := by
  simp only [cntN, ctB, decide_eq_true_eq]
theorem bc_all : ∀ b0 b1 b2 b3 b4 b5 b6 b7 : Bool, bcI (stB (stB (stB (stB (stB (stB (stB (stB 0 b0 0) b1 1) b2 2) b3 3) b4 4) b5 5) b6 6) b7 7) = nI (ctB (ctB (ctB (ctB (ctB (ctB (ctB (ctB 0 b0) b1) b2) b3) b4) b5) b6) b7) := by decide +kernel
theorem bc_cnt (P : Nat → Prop) [DecidablePred P] : bcI (setP P 8) = nI (cntN P 8) := by
  rw [setP_st, setP_st, setP_st, setP_st, setP_st, setP_st, setP_st, setP_st, cntN_ct, cntN_ct, cntN_ct, cntN_ct, cntN_ct, cntN_ct, cntN_ct, cntN_ct]
  exact bc_all _ _ _ _ _ _ _ _
def mN (G : St) (k : Int32) : Nat := cntN (fun j => G 2 j = k) 8
theorem nof_mN (G : St) (k : Int32) : nofI G k = nI (mN G k) := bc_cnt _
theorem cnt_le (P : Nat → Prop) [DecidablePred P] (n : Nat) : cntN P n ≤ n := by
  induction n with
  | zero => exact Nat.le_refl 0
  | succ n ih =>
    unfold cntN
    by_cases q : P n
    · rw [if_pos q]; omega
    · rw [if_neg q]; omega
theorem cnt_pos (P : Nat → Prop) [DecidablePred P] (n : Nat) (h : 0 < cntN P n) : ∃ l, l < n ∧ P l := by
  induction n with
  | zero => exact absurd h (Nat.lt_irrefl 0)
  | succ n ih =>
    by_cases q : P n
    · exact ⟨n, by omega, q⟩
    · unfold cntN at h
      rw [if_neg q] at h
      obtain ⟨l, h1, h2⟩ := ih h
      exact ⟨l, by omega, h2⟩
theorem cnt_zero (P : Nat → Prop) [DecidablePred P] (n : Nat) (h : ∀ l, l < n → ¬ P l) : cntN P n = 0 := by
  rcases Nat.eq_zero_or_pos (cntN P n) with q | q
  · exact q
  · obtain ⟨l, h1, h2⟩ := cnt_pos P n q
    exact absurd h2 (h l h1)
theorem cnt_zero_no (P : Nat → Prop) [DecidablePred P] (n : Nat) (h : cntN P n = 0) : ∀ l, l < n → ¬ P l := by
  induction n with
  | zero => intro l hl; exact absurd hl (Nat.not_lt_zero l)
  | succ n ih =>
    intro l hl
    unfold cntN at h
    by_cases q : P n
    · rw [if_pos q] at h
      exact absurd h (Nat.succ_ne_zero _)
    · rw [if_neg q] at h
      rcases (show l < n ∨ l = n by omega) with w | w
      · exact ih h l w
      · subst w; exact q
/-- one line fewer is of the kind -/
theorem cnt_upd (f : Nat → Int32) (l : Nat) (k z : Int32) (hz : ¬ z = k) (hf : f l = k) : ∀ n, cntN (fun j => upd f l z j = k) n + (if l < n then 1 else 0) = cntN (fun j => f j = k) n := by
  intro n
  induction n with
  | zero => rfl
  | succ n ih =>
    unfold cntN
    by_cases q : l = n
    · subst q
      rw [if_neg (show ¬ l < l from Nat.lt_irrefl l)] at ih
      have h1 : ¬ upd f l z l = k := by unfold upd; rw [if_pos rfl]; exact hz
      rw [if_neg h1, if_pos hf, if_pos (Nat.lt_succ_self l)]
      omega
    · have e : upd f l z n = f n := by unfold upd; rw [if_neg (fun w => q w.symm)]
      have e2 : (if l < n + 1 then 1 else 0) = (if l < n then 1 else 0) := by
        rcases Nat.lt_or_ge l n with w | w
        · rw [if_pos (by omega), if_pos w]
        · rw [if_neg (by omega), if_neg (by omega)]
      rw [e2, e]
      by_cases w : f n = k
      · rw [if_pos w, if_pos w]; omega
      · rw [if_neg w, if_neg w]; exact ih
-- the line with the lowest turn, the first line of a kind
theorem old_cases (G : St) (k : Int32) (n : Nat) : (oldI G k n = -1 ∧ ∀ l, l < n → ¬ G 2 l = k) ∨ ∃ l, l < n ∧ G 2 l = k ∧ oldI G k n = nI l := by
  induction n with
  | zero => exact Or.inl ⟨rfl, fun l h => absurd h (Nat.not_lt_zero l)⟩
  | succ n ih =>
    unfold oldI
    by_cases q : G 2 n = k ∧ (oldI G k n = -1 ∨ G 5 n < btI G (oldI G k n))
    · rw [if_pos q]
      exact Or.inr ⟨n, by omega, q.1, rfl⟩
    · rw [if_neg q]
      rcases ih with ⟨h1, h2⟩ | ⟨l, h1, h2, h3⟩
      · refine Or.inl ⟨h1, fun l hl => ?_⟩
        rcases (show l < n ∨ l = n by omega) with w | w
        · exact h2 l w
        · subst w
          exact fun z => q ⟨z, Or.inl h1⟩
      · exact Or.inr ⟨l, by omega, h2, h3⟩
theorem fnd_cases (P : Nat → Prop) [DecidablePred P] (n i : Nat) : (fndI P n i = -1 ∧ ∀ l, i ≤ l → l < i + n → ¬ P l) ∨ ∃ l, i ≤ l ∧ l < i + n ∧ P l ∧ fndI P n i = nI l := by
  induction n generalizing i with
  | zero => exact Or.inl ⟨rfl, fun l h1 h2 => absurd h2 (by omega)⟩
  | succ n ih =>
    unfold fndI
    by_cases q : P i
    · rw [if_pos q]
      exact Or.inr ⟨i, Nat.le_refl i, by omega, q, rfl⟩
    · rw [if_neg q]
      rcases ih (i + 1) with ⟨h1, h2⟩ | ⟨l, h1, h2, h3, h4⟩
      · refine Or.inl ⟨h1, fun l a b => ?_⟩
        rcases (show l = i ∨ i + 1 ≤ l by omega) with w | w
        · subst w; exact q
        · exact h2 l w (by omega)
      · exact Or.inr ⟨l, by omega, by omega, h3, h4⟩
theorem hld_cases (G : St) (p : Int32) : (hldI G p = -1) ∨ ∃ l, l < 8 ∧ hldI G p = nI l ∧ ¬ G 2 l = 0 ∧ G 3 l = p := by
  rcases fnd_cases (fun i => ¬ G 2 i = 0 ∧ G 3 i = p) 8 0 with ⟨h, -⟩ | ⟨l, -, h1, h2, h3⟩
  · exact Or.inl h
  · exact Or.inr ⟨l, by omega, h3, h2.1, h2.2⟩
theorem low_cases (G : St) : (lowI G = -1 ∧ ∀ l, l < 8 → ¬ G 2 l = 0) ∨ ∃ l, l < 8 ∧ lowI G = nI l ∧ G 2 l = 0 := by
  rcases fnd_cases (fun i => G 2 i = 0) 8 0 with ⟨h, h2⟩ | ⟨l, -, h1, h2, h3⟩
  · exact Or.inl ⟨h, fun l hl => h2 l (Nat.zero_le l) (by omega)⟩
  · exact Or.inr ⟨l, by omega, h3, h2⟩
