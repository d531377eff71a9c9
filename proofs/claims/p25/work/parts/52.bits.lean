/-! ===== sets of lines as bits ===== -/
def bB (b : Bool) : Int32 := if b = true then 1 else 0
theorem bB_d (P : Prop) [Decidable P] : bB (decide P) = if P then 1 else 0 := by unfold bB; simp only [decide_eq_true_eq]
theorem bit_0 : ∀ b0 b1 b2 b3 b4 b5 b6 b7 : Bool, ((stB (stB (stB (stB (stB (stB (stB (stB 0 (b0) 0) (b1) 1) (b2) 2) (b3) 3) (b4) 4) (b5) 5) (b6) 6) (b7) 7) >>> (nI 0 &&& 31)) &&& 1 = bB b0 := by decide +kernel
theorem clr_0 : ∀ b0 b1 b2 b3 b4 b5 b6 b7 : Bool, stB (stB (stB (stB (stB (stB (stB (stB 0 (false) 0) (b1) 1) (b2) 2) (b3) 3) (b4) 4) (b5) 5) (b6) 6) (b7) 7 = (stB (stB (stB (stB (stB (stB (stB (stB 0 (b0) 0) (b1) 1) (b2) 2) (b3) 3) (b4) 4) (b5) 5) (b6) 6) (b7) 7) &&& (((1 : Int32) <<< (nI 0 &&& 31)) ^^^ (-1)) := by decide +kernel
theorem bit_1 : ∀ b0 b1 b2 b3 b4 b5 b6 b7 : Bool, ((stB (stB (stB (stB (stB (stB (stB (stB 0 (b0) 0) (b1) 1) (b2) 2) (b3) 3) (b4) 4) (b5) 5) (b6) 6) (b7) 7) >>> (nI 1 &&& 31)) &&& 1 = bB b1 := by decide +kernel
theorem clr_1 : ∀ b0 b1 b2 b3 b4 b5 b6 b7 : Bool, stB (stB (stB (stB (stB (stB (stB (stB 0 (b0) 0) (false) 1) (b2) 2) (b3) 3) (b4) 4) (b5) 5) (b6) 6) (b7) 7 = (stB (stB (stB (stB (stB (stB (stB (stB 0 (b0) 0) (b1) 1) (b2) 2) (b3) 3) (b4) 4) (b5) 5) (b6) 6) (b7) 7) &&& (((1 : Int32) <<< (nI 1 &&& 31)) ^^^ (-1)) := by decide +kernel
theorem bit_2 : ∀ b0 b1 b2 b3 b4 b5 b6 b7 : Bool, ((stB (stB (stB (stB (stB (stB (stB (stB 0 (b0) 0) (b1) 1) (b2) 2) (b3) 3) (b4) 4) (b5) 5) (b6) 6) (b7) 7) >>> (nI 2 &&& 31)) &&& 1 = bB b2 := by decide +kernel
theorem clr_2 : ∀ b0 b1 b2 b3 b4 b5 b6 b7 : Bool, stB (stB (stB (stB (stB (stB (stB (stB 0 (b0) 0) (b1) 1) (false) 2) (b3) 3) (b4) 4) (b5) 5) (b6) 6) (b7) 7 = (stB (stB (stB (stB (stB (stB (stB (stB 0 (b0) 0) (b1) 1) (b2) 2) (b3) 3) (b4) 4) (b5) 5) (b6) 6) (b7) 7) &&& (((1 : Int32) <<< (nI 2 &&& 31)) ^^^ (-1)) := by decide +kernel
theorem bit_3 : ∀ b0 b1 b2 b3 b4 b5 b6 b7 : Bool, ((stB (stB (stB (stB (stB (stB (stB (stB 0 (b0) 0) (b1) 1) (b2) 2) (b3) 3) (b4) 4) (b5) 5) (b6) 6) (b7) 7) >>> (nI 3 &&& 31)) &&& 1 = bB b3 := by decide +kernel
theorem clr_3 : ∀ b0 b1 b2 b3 b4 b5 b6 b7 : Bool, stB (stB (stB (stB (stB (stB (stB (stB 0 (b0) 0) (b1) 1) (b2) 2) (false) 3) (b4) 4) (b5) 5) (b6) 6) (b7) 7 = (stB (stB (stB (stB (stB (stB (stB (stB 0 (b0) 0) (b1) 1) (b2) 2) (b3) 3) (b4) 4) (b5) 5) (b6) 6) (b7) 7) &&& (((1 : Int32) <<< (nI 3 &&& 31)) ^^^ (-1)) := by decide +kernel
theorem bit_4 : ∀ b0 b1 b2 b3 b4 b5 b6 b7 : Bool, ((stB (stB (stB (stB (stB (stB (stB (stB 0 (b0) 0) (b1) 1) (b2) 2) (b3) 3) (b4) 4) (b5) 5) (b6) 6) (b7) 7) >>> (nI 4 &&& 31)) &&& 1 = bB b4 := by decide +kernel
theorem clr_4 : ∀ b0 b1 b2 b3 b4 b5 b6 b7 : Bool, stB (stB (stB (stB (stB (stB (stB (stB 0 (b0) 0) (b1) 1) (b2) 2) (b3) 3) (false) 4) (b5) 5) (b6) 6) (b7) 7 = (stB (stB (stB (stB (stB (stB (stB (stB 0 (b0) 0) (b1) 1) (b2) 2) (b3) 3) (b4) 4) (b5) 5) (b6) 6) (b7) 7) &&& (((1 : Int32) <<< (nI 4 &&& 31)) ^^^ (-1)) := by decide +kernel
theorem bit_5 : ∀ b0 b1 b2 b3 b4 b5 b6 b7 : Bool, ((stB (stB (stB (stB (stB (stB (stB (stB 0 (b0) 0) (b1) 1) (b2) 2) (b3) 3) (b4) 4) (b5) 5) (b6) 6) (b7) 7) >>> (nI 5 &&& 31)) &&& 1 = bB b5 := by decide +kernel
theorem clr_5 : ∀ b0 b1 b2 b3 b4 b5 b6 b7 : Bool, stB (stB (stB (stB (stB (stB (stB (stB 0 (b0) 0) (b1) 1) (b2) 2) (b3) 3) (b4) 4) (false) 5) (b6) 6) (b7) 7 = (stB (stB (stB (stB (stB (stB (stB (stB 0 (b0) 0) (b1) 1) (b2) 2) (b3) 3) (b4) 4) (b5) 5) (b6) 6) (b7) 7) &&& (((1 : Int32) <<< (nI 5 &&& 31)) ^^^ (-1)) := by decide +kernel
theorem bit_6 : ∀ b0 b1 b2 b3 b4 b5 b6 b7 : Bool, ((stB (stB (stB (stB (stB (stB (stB (stB 0 (b0) 0) (b1) 1) (b2) 2) (b3) 3) (b4) 4) (b5) 5) (b6) 6) (b7) 7) >>> (nI 6 &&& 31)) &&& 1 = bB b6 := by decide +kernel
theorem clr_6 : ∀ b0 b1 b2 b3 b4 b5 b6 b7 : Bool, stB (stB (stB (stB (stB (stB (stB (stB 0 (b0) 0) (b1) 1) (b2) 2) (b3) 3) (b4) 4) (b5) 5) (false) 6) (b7) 7 = (stB (stB (stB (stB (stB (stB (stB (stB 0 (b0) 0) (b1) 1) (b2) 2) (b3) 3) (b4) 4) (b5) 5) (b6) 6) (b7) 7) &&& (((1 : Int32) <<< (nI 6 &&& 31)) ^^^ (-1)) := by decide +kernel
theorem bit_7 : ∀ b0 b1 b2 b3 b4 b5 b6 b7 : Bool, ((stB (stB (stB (stB (stB (stB (stB (stB 0 (b0) 0) (b1) 1) (b2) 2) (b3) 3) (b4) 4) (b5) 5) (b6) 6) (b7) 7) >>> (nI 7 &&& 31)) &&& 1 = bB b7 := by decide +kernel
theorem clr_7 : ∀ b0 b1 b2 b3 b4 b5 b6 b7 : Bool, stB (stB (stB (stB (stB (stB (stB (stB 0 (b0) 0) (b1) 1) (b2) 2) (b3) 3) (b4) 4) (b5) 5) (b6) 6) (false) 7 = (stB (stB (stB (stB (stB (stB (stB (stB 0 (b0) 0) (b1) 1) (b2) 2) (b3) 3) (b4) 4) (b5) 5) (b6) 6) (b7) 7) &&& (((1 : Int32) <<< (nI 7 &&& 31)) ^^^ (-1)) := by decide +kernel
theorem bitS (P : Nat → Prop) [DecidablePred P] {l : Nat} (hl : l < 8) : (setP P 8 >>> (nI l &&& 31)) &&& 1 = if P l then 1 else 0 := by
  rw [setP_st, setP_st, setP_st, setP_st, setP_st, setP_st, setP_st, setP_st]
  match l, hl with
  | 0, _ => exact (bit_0 _ _ _ _ _ _ _ _).trans (bB_d _)
  | 1, _ => exact (bit_1 _ _ _ _ _ _ _ _).trans (bB_d _)
  | 2, _ => exact (bit_2 _ _ _ _ _ _ _ _).trans (bB_d _)
  | 3, _ => exact (bit_3 _ _ _ _ _ _ _ _).trans (bB_d _)
  | 4, _ => exact (bit_4 _ _ _ _ _ _ _ _).trans (bB_d _)
  | 5, _ => exact (bit_5 _ _ _ _ _ _ _ _).trans (bB_d _)
  | 6, _ => exact (bit_6 _ _ _ _ _ _ _ _).trans (bB_d _)
  | 7, _ => exact (bit_7 _ _ _ _ _ _ _ _).trans (bB_d _)
  | k + 8, z => exact absurd z (by omega)
theorem up_d (f : Nat → Int32) {l j : Nat} (h : ¬ j = l) : decide (upd f l 1 j = 2) = decide (f j = 2) := by simp only [up_ne f h]
theorem up_d1 (f : Nat → Int32) (l : Nat) : decide (upd f l 1 l = 2) = false := by rw [up_at]; decide
theorem clrS (f : Nat → Int32) {l : Nat} (hl : l < 8) : setP (fun j => upd f l 1 j = 2) 8 = setP (fun j => f j = 2) 8 &&& (((1 : Int32) <<< (nI l &&& 31)) ^^^ (-1)) := by
  rw [setP_st, setP_st, setP_st, setP_st, setP_st, setP_st, setP_st, setP_st, setP_st, setP_st, setP_st, setP_st, setP_st, setP_st, setP_st, setP_st]
  match l, hl with
  | 0, _ => rw [up_d f (show ¬ 1 = 0 by decide), up_d f (show ¬ 2 = 0 by decide), up_d f (show ¬ 3 = 0 by decide), up_d f (show ¬ 4 = 0 by decide), up_d f (show ¬ 5 = 0 by decide), up_d f (show ¬ 6 = 0 by decide), up_d f (show ¬ 7 = 0 by decide), up_d1]; exact clr_0 _ _ _ _ _ _ _ _
  | 1, _ => rw [up_d f (show ¬ 0 = 1 by decide), up_d f (show ¬ 2 = 1 by decide), up_d f (show ¬ 3 = 1 by decide), up_d f (show ¬ 4 = 1 by decide), up_d f (show ¬ 5 = 1 by decide), up_d f (show ¬ 6 = 1 by decide), up_d f (show ¬ 7 = 1 by decide), up_d1]; exact clr_1 _ _ _ _ _ _ _ _
  | 2, _ => rw [up_d f (show ¬ 0 = 2 by decide), up_d f (show ¬ 1 = 2 by decide), up_d f (show ¬ 3 = 2 by decide), up_d f (show ¬ 4 = 2 by decide), up_d f (show ¬ 5 = 2 by decide), up_d f (show ¬ 6 = 2 by decide), up_d f (show ¬ 7 = 2 by decide), up_d1]; exact clr_2 _ _ _ _ _ _ _ _
  | 3, _ => rw [up_d f (show ¬ 0 = 3 by decide), up_d f (show ¬ 1 = 3 by decide), up_d f (show ¬ 2 = 3 by decide), up_d f (show ¬ 4 = 3 by decide), up_d f (show ¬ 5 = 3 by decide), up_d f (show ¬ 6 = 3 by decide), up_d f (show ¬ 7 = 3 by decide), up_d1]; exact clr_3 _ _ _ _ _ _ _ _
  | 4, _ => rw [up_d f (show ¬ 0 = 4 by decide), up_d f (show ¬ 1 = 4 by decide), up_d f (show ¬ 2 = 4 by decide), up_d f (show ¬ 3 = 4 by decide), up_d f (show ¬ 5 = 4 by decide), up_d f (show ¬ 6 = 4 by decide), up_d f (show ¬ 7 = 4 by decide), up_d1]; exact clr_4 _ _ _ _ _ _ _ _
  | 5, _ => rw [up_d f (show ¬ 0 = 5 by decide), up_d f (show ¬ 1 = 5 by decide), up_d f (show ¬ 2 = 5 by decide), up_d f (show ¬ 3 = 5 by decide), up_d f (show ¬ 4 = 5 by decide), up_d f (show ¬ 6 = 5 by decide), up_d f (show ¬ 7 = 5 by decide), up_d1]; exact clr_5 _ _ _ _ _ _ _ _
  | 6, _ => rw [up_d f (show ¬ 0 = 6 by decide), up_d f (show ¬ 1 = 6 by decide), up_d f (show ¬ 2 = 6 by decide), up_d f (show ¬ 3 = 6 by decide), up_d f (show ¬ 4 = 6 by decide), up_d f (show ¬ 5 = 6 by decide), up_d f (show ¬ 7 = 6 by decide), up_d1]; exact clr_6 _ _ _ _ _ _ _ _
  | 7, _ => rw [up_d f (show ¬ 0 = 7 by decide), up_d f (show ¬ 1 = 7 by decide), up_d f (show ¬ 2 = 7 by decide), up_d f (show ¬ 3 = 7 by decide), up_d f (show ¬ 4 = 7 by decide), up_d f (show ¬ 5 = 7 by decide), up_d f (show ¬ 6 = 7 by decide), up_d1]; exact clr_7 _ _ _ _ _ _ _ _
  | k + 8, z => exact absurd z (by omega)
def f2 (t : Fin 3) : Bool := t.val == 2
def f1 (t : Fin 3) : Bool := t.val == 1
def f0 (t : Fin 3) : Bool := t.val == 0
set_option maxRecDepth 100000 in
set_option maxHeartbeats 4000000 in
theorem sub_all : ∀ t0 t1 t2 t3 t4 t5 t6 t7 : Fin 3, (stB (stB (stB (stB (stB (stB (stB (stB 0 (f2 t0) 0) (f2 t1) 1) (f2 t2) 2) (f2 t3) 3) (f2 t4) 4) (f2 t5) 5) (f2 t6) 6) (f2 t7) 7) &&& ((stB (stB (stB (stB (stB (stB (stB (stB 0 (!(f0 t0)) 0) (!(f0 t1)) 1) (!(f0 t2)) 2) (!(f0 t3)) 3) (!(f0 t4)) 4) (!(f0 t5)) 5) (!(f0 t6)) 6) (!(f0 t7)) 7) ^^^ (-1)) = 0 := by decide +kernel
theorem subS (P P2 : Nat → Prop) [DecidablePred P] [DecidablePred P2] (h : ∀ l, l < 8 → P2 l → P l) : setP P2 8 &&& (setP P 8 ^^^ (-1)) = 0 := by
  have e : ∀ l, l < 8 → ∃ t : Fin 3, decide (P2 l) = f2 t ∧ decide (P l) = !(f0 t) := by
    intro l hl
    by_cases k2 : P2 l
    · exact ⟨2, (decide_eq_true k2).trans rfl, (decide_eq_true (h l hl k2)).trans rfl⟩
    · by_cases k : P l
      · exact ⟨1, (decide_eq_false k2).trans rfl, (decide_eq_true k).trans rfl⟩
      · exact ⟨0, (decide_eq_false k2).trans rfl, (decide_eq_false k).trans rfl⟩
  obtain ⟨t0, y0, z0⟩ := e 0 (by decide)
  obtain ⟨t1, y1, z1⟩ := e 1 (by decide)
  obtain ⟨t2, y2, z2⟩ := e 2 (by decide)
  obtain ⟨t3, y3, z3⟩ := e 3 (by decide)
  obtain ⟨t4, y4, z4⟩ := e 4 (by decide)
  obtain ⟨t5, y5, z5⟩ := e 5 (by decide)
  obtain ⟨t6, y6, z6⟩ := e 6 (by decide)
  obtain ⟨t7, y7, z7⟩ := e 7 (by decide)
  rw [setP_st, setP_st, setP_st, setP_st, setP_st, setP_st, setP_st, setP_st, setP_st, setP_st, setP_st, setP_st, setP_st, setP_st, setP_st, setP_st, y0, y1, y2, y3, y4, y5, y6, y7, z0, z1, z2, z3, z4, z5, z6, z7]
  exact sub_all t0 t1 t2 t3 t4 t5 t6 t7
set_option maxRecDepth 100000 in
set_option maxHeartbeats 4000000 in
theorem knd_all : ∀ t0 t1 t2 t3 t4 t5 t6 t7 : Fin 3, ((stB (stB (stB (stB (stB (stB (stB (stB 0 (f0 t0) 0) (f0 t1) 1) (f0 t2) 2) (f0 t3) 3) (f0 t4) 4) (f0 t5) 5) (f0 t6) 6) (f0 t7) 7) ||| (stB (stB (stB (stB (stB (stB (stB (stB 0 (f1 t0) 0) (f1 t1) 1) (f1 t2) 2) (f1 t3) 3) (f1 t4) 4) (f1 t5) 5) (f1 t6) 6) (f1 t7) 7)) ||| (stB (stB (stB (stB (stB (stB (stB (stB 0 (f2 t0) 0) (f2 t1) 1) (f2 t2) 2) (f2 t3) 3) (f2 t4) 4) (f2 t5) 5) (f2 t6) 6) (f2 t7) 7) = 255 := by decide +kernel
theorem kndS (f : Nat → Int32) (h : ∀ l, vN 2 (f l)) : (setP (fun j => f j = 0) 8 ||| setP (fun j => f j = 1) 8) ||| setP (fun j => f j = 2) 8 = 255 := by
  have e : ∀ l, ∃ t : Fin 3, decide (f l = 0) = f0 t ∧ decide (f l = 1) = f1 t ∧ decide (f l = 2) = f2 t := by
    intro l
    rcases kinds (h l) with q | q | q
    · exact ⟨0, by rw [q]; decide⟩
    · exact ⟨1, by rw [q]; decide⟩
    · exact ⟨2, by rw [q]; decide⟩
  obtain ⟨t0, x0, y0, z0⟩ := e 0
  obtain ⟨t1, x1, y1, z1⟩ := e 1
  obtain ⟨t2, x2, y2, z2⟩ := e 2
  obtain ⟨t3, x3, y3, z3⟩ := e 3
  obtain ⟨t4, x4, y4, z4⟩ := e 4
  obtain ⟨t5, x5, y5, z5⟩ := e 5
  obtain ⟨t6, x6, y6, z6⟩ := e 6
  obtain ⟨t7, x7, y7, z7⟩ := e 7
  rw [setP_st, setP_st, setP_st, setP_st, setP_st, setP_st, setP_st, setP_st, setP_st, setP_st, setP_st, setP_st, setP_st, setP_st, setP_st, setP_st, setP_st, setP_st, setP_st, setP_st, setP_st, setP_st, setP_st, setP_st, x0, x1, x2, x3, x4, x5, x6, x7, y0, y1, y2, y3, y4, y5, y6, y7, z0, z1, z2, z3, z4, z5, z6, z7]
  exact knd_all t0 t1 t2 t3 t4 t5 t6 t7
theorem all_255 : stB (stB (stB (stB (stB (stB (stB (stB 0 (true) 0) (true) 1) (true) 2) (true) 3) (true) 4) (true) 5) (true) 6) (true) 7 = 255 := by decide +kernel
theorem setP_all (P : Nat → Prop) [DecidablePred P] (h : ∀ l, l < 8 → P l) : setP P 8 = 255 := by
  rw [setP_st, setP_st, setP_st, setP_st, setP_st, setP_st, setP_st, setP_st, decide_eq_true (h 0 (by decide)), decide_eq_true (h 1 (by decide)), decide_eq_true (h 2 (by decide)), decide_eq_true (h 3 (by decide)), decide_eq_true (h 4 (by decide)), decide_eq_true (h 5 (by decide)), decide_eq_true (h 6 (by decide)), decide_eq_true (h 7 (by decide))]
  exact all_255
theorem cnt_sum (f : Nat → Int32) (h : ∀ l, vN 2 (f l)) (n : Nat) : cntN (fun j => f j = 0) n + cntN (fun j => f j = 1) n + cntN (fun j => f j = 2) n = n := by
  induction n with
  | zero => rfl
  | succ n ih =>
    have a0 : ∀ k : Int32, cntN (fun j => f j = k) (n + 1) = if f n = k then cntN (fun j => f j = k) n + 1 else cntN (fun j => f j = k) n := fun k => rfl
    rw [a0, a0, a0]
    rcases kinds (h n) with q | q | q
    · rw [q, if_pos rfl, if_neg (by decide), if_neg (by decide)]; omega
    · rw [q, if_neg (by decide), if_pos rfl, if_neg (by decide)]; omega
    · rw [q, if_neg (by decide), if_neg (by decide), if_pos rfl]; omega
/-- how many bits are set: the law's own loop -/
def bitF (x : Int32) : Nat → Int32
  | 0 => 0
  | i + 1 => bitF x i + ((x >>> (nI i &&& 31)) &&& 1)
theorem bitF_set (P : Nat → Prop) [DecidablePred P] (i : Nat) (hi : i ≤ 8) : bitF (setP P 8) i = nI (cntN P i) := by
  induction i with
  | zero => rfl
  | succ i ih =>
    unfold bitF cntN
    rw [ih (by omega), bitS P (show i < 8 by omega)]
    by_cases q : P i
    · rw [if_pos q, if_pos q, nI_1]
    · rw [if_neg q, if_neg q, Int32.add_zero]
theorem bit_m (G : St) (k : Int32) : bitF (setI G k) 8 = nI (mN G k) := bitF_set _ 8 (Nat.le_refl 8)
theorem i32_a0 (x : Int32) : x + 0 = x := Int32.add_zero x
/-! ===== the answers that the law asks for ===== -/
theorem los_0 {G : St} {V : Nat → Int32} (h : LI G V) : losI G = 0 := by
  have h8 := mN_le G 2
  refine setP_no _ 8 (fun i hi k => k.2 ?_)
  rw [sbc_m h, ← lah_2 h.1.1 hi]
  have hc : cntN (fun j => G 2 j = 2 ∧ G 5 j < G 5 i) 8 < cntN (fun j => G 2 j = 2) 8 := cnt_less 8 (fun j _ q => q.1) hi k.1 (fun q => i32_irr _ q.2)
  exact (nI_ltI (Nat.lt_of_le_of_lt (cnt_le _ 8) (by decide)) (Nat.lt_of_le_of_lt (cnt_le _ 8) (by decide))).mpr hc
theorem lin_0 (G : St) : linI G 0 = setI G 0 := by unfold linI; rw [if_pos rfl]
theorem lin_1 (G : St) : linI G 1 = setI G 1 := by unfold linI; rw [if_neg (by decide), if_pos rfl]
theorem lin_2 (G : St) : linI G 2 = setI G 2 := by unfold linI; rw [if_neg (by decide), if_neg (by decide), if_pos rfl]
theorem lin_3z {G : St} {V : Nat → Int32} (h : LI G V) : linI G 3 = 0 := by unfold linI; rw [if_neg (by decide), if_neg (by decide), if_neg (by decide), if_pos rfl, los_0 h]
theorem bat_0 (G : St) : batI G 0 = G 6 0 := by unfold batI; rw [if_pos rfl]
theorem bat_1 (G : St) : batI G 1 = capI G := by unfold batI; rw [if_neg (by decide), if_pos rfl]
theorem bat_2 (G : St) : batI G 2 = G 6 1 := by unfold batI; rw [if_neg (by decide), if_neg (by decide), if_pos rfl]
theorem bat_3 (G : St) : batI G 3 = alwI G := by unfold batI; rw [if_neg (by decide), if_neg (by decide), if_neg (by decide), if_pos rfl]
theorem bat_4 (G : St) : batI G 4 = G 6 2 := by unfold batI; rw [if_neg (by decide), if_neg (by decide), if_neg (by decide), if_neg (by decide), if_pos rfl]
theorem bat_5 (G : St) : batI G 5 = sbcI G := by unfold batI; rw [if_neg (by decide), if_neg (by decide), if_neg (by decide), if_neg (by decide), if_neg (by decide), if_pos rfl]
theorem con_1 (G : St) (n tn : Int32) : conI G n tn 1 = G 7 1 := (con_8 G n tn (u := 1) (by decide)).symm
theorem con_2 (G : St) (n tn : Int32) : conI G n tn 2 = G 7 2 := (con_8 G n tn (u := 2) (by decide)).symm
theorem con_3 (G : St) (n tn : Int32) : conI G n tn 3 = G 7 3 := (con_8 G n tn (u := 3) (by decide)).symm
theorem con_4 (G : St) (n tn : Int32) : conI G n tn 4 = G 7 4 := (con_8 G n tn (u := 4) (by decide)).symm
theorem con_5 (G : St) (n tn : Int32) : conI G n tn 5 = G 7 5 := (con_8 G n tn (u := 5) (by decide)).symm
theorem con_8a (G : St) (n tn : Int32) : conI G n tn 8 = G 7 8 := (con_8 G n tn (u := 8) (by decide)).symm
theorem lof0 (G : St) {l : Nat} (hl : l < 8) : lofI G (nI l) 0 = G 2 l := by
  unfold lofI
  rw [if_pos (rg_nI (n := 8) (b := 8) rfl hl (by decide)), if_pos (by decide), if_pos rfl, ix_nI (by omega)]
theorem lof1 {G : St} {l : Nat} (hl : l < 8) (k : ¬ G 2 l = 0) : lofI G (nI l) 1 = G 3 l := by
  unfold lofI
  rw [if_pos (rg_nI (n := 8) (b := 8) rfl hl (by decide)), if_pos (by decide), if_neg (by decide), ix_nI (by omega), if_neg k, if_pos rfl]
theorem lof2 {G : St} {l : Nat} (hl : l < 8) (k : ¬ G 2 l = 0) : lofI G (nI l) 2 = G 4 l := by
  unfold lofI
  rw [if_pos (rg_nI (n := 8) (b := 8) rfl hl (by decide)), if_pos (by decide), if_neg (by decide), ix_nI (by omega), if_neg k, if_neg (by decide), if_pos rfl]
theorem cri_or {G : St} (h : ¬ criI G < 0) : ¬ setI G 2 = 0 := by
  intro z
  apply h
  unfold criI
  rw [if_neg (by unfold nofI; rw [z]; decide)]
  decide
/-- a number cut to its range, as the law cuts it -/
def upI (v n : Int32) : Int32 := (v &&& 2147483647) - (v &&& 2147483647) / n * n
theorem up_ex (v : Int32) (n : Nat) (h1 : 0 < n) (hn : n < 2147483648) : ∃ m, m < n ∧ upI v (nI n) = nI m := by
  refine ⟨(v.toBitVec.toNat % 2 ^ 31) % n, Nat.mod_lt _ h1, ?_⟩
  unfold upI
  rw [pk_and v (m := 2147483647) 31 (by decide), pk_rem (Nat.mod_lt _ (by decide)) h1 hn]
-- the whole check of a state
theorem kp_all3 {G : St} {V : Nat → Int32} (h : LI G V) : (setI G 0 ||| setI G 1) ||| setI G 2 = 255 := kndS (G 2) h.1.1.1.2.1
theorem kp_sum {G : St} {V : Nat → Int32} (h : LI G V) : nI (mN G 0) + nI (mN G 1) + nI (mN G 2) = 8 := by
  rw [nI_add, nI_add]
  exact congrArg nI (cnt_sum (G 2) h.1.1.1.2.1 8)
theorem kp_alw {G : St} {V : Nat → Int32} (h : LI G V) : ¬ alwI G < nI (mN G 2) := by
  obtain ⟨a, ha, ea, hm⟩ := h.2.2
  have h8 := mN_le G 2
  rw [ea]
  intro z
  have := (nI_ltI (by omega) (by omega)).mp z
  omega
theorem kp_c0 {G : St} {V : Nat → Int32} (h : LI G V) : ¬ G 6 0 < 0 := by
  obtain ⟨c, w, e0, e1, hw, hc⟩ := h.2.1
  rw [e0]
  exact nI_pos (by omega)
theorem kp_cap {G : St} {V : Nat → Int32} (h : LI G V) : ¬ capI G < G 6 0 := by
  obtain ⟨c, w, e0, e1, hw, hc⟩ := h.2.1
  rw [capI_nI hw e1, e0]
  intro z
  have := (nI_ltI (by omega) (by omega)).mp z
  omega
theorem kp_run {G : St} {V : Nat → Int32} (h : LI G V) (k : ¬ G 6 2 = 0) : nI (mN G 2) = 0 := by
  rw [run_m h.2.2 k]
  rfl
theorem kp_line {G : St} {V : Nat → Int32} (h : LI G V) {l : Nat} (hl : l < 8) (k : ¬ G 2 l = 0) : ∃ r, r < 64 ∧ G 3 l = nI r ∧ hldI G (nI r) = nI l ∧ G 4 l = V r ∧ (¬ G 2 l = 2 → G 0 r = V r) := by
  obtain ⟨r, hr, er⟩ := h.1.1.1.1 l
  have hv := h.1.2.2.1 l hl k
  rw [er, ix_nI (by omega)] at hv
  refine ⟨r, by omega, er, hld_is h.1.2.1 hl k er, hv, fun k2 => ?_⟩
  refine h.1.2.2.2.1 r (by omega) (fun j hj kj e => ?_)
  have hj2 := h.1.2.1 j l hj hl (by rw [kj]; decide) k (e.trans er.symm)
  rw [hj2] at kj
  exact k2 kj
theorem kp_pos {G : St} {V : Nat → Int32} (h : LI G V) {l : Nat} (k : ¬ 0 < G 2 l) : G 2 l = 0 := by
  rcases kinds (h.1.1.1.2.1 l) with q | q | q
  · exact q
  · exact absurd (by rw [q]; decide) k
  · exact absurd (by rw [q]; decide) k
theorem kp_pos2 {x : Int32} (k : 0 < x) : ¬ x = 0 := fun q => by rw [q] at k; exact absurd k (by decide)

