/-! ===== time and the battery, as both sides tell them ===== -/
theorem wth_vN {x : Int32} {lo hi : Int32} {n : Nat} (h0 : 0 ≤ lo.toInt) (h1 : hi = nI n) (hn : n < 2147483648) (h : wth x lo hi = true) : vN n x := by
  have h := of_decide_eq_true h
  subst h1
  have a := h.1
  have b := h.2
  rw [Int32.lt_iff_toInt_lt] at a b
  rw [nI_toInt hn] at b
  have hx : ¬ x < 0 := by
    rw [Int32.lt_iff_toInt_lt, show (0 : Int32).toInt = 0 by decide]
    omega
  obtain ⟨j, hj, rfl⟩ := nI_of hx
  rw [nI_toInt hj] at a b
  exact ⟨j, by omega, rfl⟩
theorem vN_ix {m : Nat} {x : Int32} (hm : m < 2147483648) (h : vN m x) : ix x ≤ m ∧ x = nI (ix x) := by
  obtain ⟨n, h1, rfl⟩ := h
  rw [ix_nI (by omega)]
  exact ⟨h1, rfl⟩
theorem drn {c b : Int32} (hc : vN 1000 c) (hb : vN 100000 b) : (b < c → maI (c - b) 0 = c - b) ∧ (¬ b < c → maI (c - b) 0 = 0) := by
  obtain ⟨n, hn, rfl⟩ := hc
  obtain ⟨k, hk, rfl⟩ := hb
  refine ⟨fun h => ?_, fun h => ?_⟩
  · have := (nI_ltI (by omega) (by omega)).mp h
    rw [maI_sub (by omega) (by omega), pk_sub (by omega)]
  · have : n ≤ k := by
      rcases Nat.lt_or_ge k n with q | q
      · exact absurd ((nI_ltI (by omega) (by omega)).mpr q) h
      · exact q
    rw [maI_sub (by omega) (by omega), show n - k = 0 by omega]
    rfl
theorem use_row (G : St) (x : Int32) {a : Nat} (h : ¬ a = 6) : useG G x a = G a := s2_row _ h _ _
theorem use_60 (G : St) (x : Int32) : useG G x 6 0 = maI (G 6 0 - x) 0 := s2_at _ _ _ _
theorem use_6 (G : St) (x : Int32) {j : Nat} (h : ¬ j = 0) : useG G x 6 j = G 6 j := s2_ne _ _ h _
theorem ma_vN {c b : Int32} (hc : vN 1000 c) (hb : vN 100000 b) : vN 1000 (maI (c - b) 0) := by
  obtain ⟨n, hn, rfl⟩ := hc
  obtain ⟨k, hk, rfl⟩ := hb
  rw [maI_sub (by omega) (by omega)]
  exact ⟨n - k, by omega, rfl⟩
theorem Inv_6 {G G2 : St} (hI : Inv G) (h0 : G2 0 = G 0) (h2 : G2 2 = G 2) (h3 : G2 3 = G 3) (h4 : G2 4 = G 4) (h8 : G2 8 = G 8) (b0 : vN 1000 (G2 6 0)) (b1 : vN 90 (G2 6 1)) (b2 : vN 2 (G2 6 2)) : Inv G2 := by
  obtain ⟨i1, i2⟩ := hI
  unfold Inv IB
  rw [h0, h2, h3, h4, h8]
  exact ⟨i1, b0, b1, b2, i2.2.2.2⟩
theorem Inv_use {G : St} (hI : Inv G) {x : Int32} (hx : vN 100000 x) : Inv (useG G x) := by
  refine Inv_6 hI (use_row G x (by decide)) (use_row G x (by decide)) (use_row G x (by decide)) (use_row G x (by decide)) (use_row G x (by decide)) ?_ ?_ ?_
  · rw [use_60]; exact ma_vN hI.2.1 hx
  · rw [use_6 _ _ (by decide)]; exact hI.2.2.1
  · rw [use_6 _ _ (by decide)]; exact hI.2.2.2.1
theorem chg_vN {G : St} (hI : Inv G) : vN 1000 (chgI G) := by
  obtain ⟨-, ⟨c, hc, e0⟩, ⟨w, hw, e1⟩, -, -, -, ⟨r, hr, e2⟩, -⟩ := hI
  rw [chgI_nI hc hw hr e0 e1 e2]
  exact ⟨_, Nat.le_trans (Nat.min_le_right _ _) (by omega), rfl⟩
theorem r6_row (G : St) (f : Nat → Int32) {a : Nat} (h : ¬ a = 6) : r6 G f a = G a := by unfold r6; rw [if_neg h]
theorem tk_row (G : St) {a : Nat} (h : ¬ a = 6) : tkG G a = G a := r6_row _ _ h
theorem tk_fall0 {G : St} (h : G 6 2 = 1) (h0 : useG G (G 8 3) 6 0 = 0) : tkG G = s2 (s2 (useG G (G 8 3)) 6 1 (miI (useG G (G 8 3) 6 1 + 1) 90)) 6 2 2 := by
  funext a
  by_cases q : a = 6
  · subst q
    show r6 G _ 6 = _
    unfold r6 falG r6
    rw [if_pos rfl, if_pos h, if_pos rfl, if_pos h0]
  · rw [tk_row G q, s2_row _ q, s2_row _ q, use_row _ _ q]
theorem tk_fall {G : St} (h : G 6 2 = 1) (h0 : ¬ useG G (G 8 3) 6 0 = 0) : tkG G = useG G (G 8 3) := by
  funext a
  by_cases q : a = 6
  · subst q
    show r6 G _ 6 = _
    unfold r6 falG r6
    rw [if_pos rfl, if_pos h, if_pos rfl, if_neg h0]
  · rw [tk_row G q, use_row _ _ q]
theorem tk_end {G : St} (h1 : ¬ G 6 2 = 1) (h : G 6 2 = 2 ∧ chgI G = capI G) : tkG G = s2 (s2 G 6 0 (chgI G)) 6 2 0 := by
  funext a
  by_cases q : a = 6
  · subst q
    show r6 G _ 6 = _
    unfold r6
    rw [if_pos rfl, if_neg h1, if_pos h]
  · rw [tk_row G q, s2_row _ q, s2_row _ q]
theorem tk_rise {G : St} (h1 : ¬ G 6 2 = 1) (h : ¬ (G 6 2 = 2 ∧ chgI G = capI G)) : tkG G = s2 G 6 0 (chgI G) := by
  funext a
  by_cases q : a = 6
  · subst q
    show r6 G _ 6 = _
    unfold r6
    rw [if_pos rfl, if_neg h1, if_neg h]
  · rw [tk_row G q, s2_row _ q]
theorem end_y {G : St} (h1 : ¬ G 6 2 = 1) (h : G 6 2 = 2 ∧ chgI G = capI G) : endB G = true := decide_eq_true ⟨⟨h1, h.1⟩, h.2⟩
theorem end_n {G : St} (h : ¬ (G 6 2 = 2 ∧ chgI G = capI G)) : ¬ endB G = true := fun z => h ⟨(of_decide_eq_true z).1.2, (of_decide_eq_true z).2⟩
theorem end_n1 {G : St} (h : G 6 2 = 1) : ¬ endB G = true := fun z => (of_decide_eq_true z).1.1 h
theorem we_vN {x : Int32} (h : vN 90 x) : (x < 90 → miI (x + 1) 90 = x + 1) ∧ (¬ x < 90 → miI (x + 1) 90 = x + 0) ∧ vN 90 (miI (x + 1) 90) := by
  obtain ⟨n, hn, rfl⟩ := h
  have e : miI (nI n + 1) 90 = nI (min (n + 1) 90) := by
    rw [nI_1, show (90 : Int32) = nI 90 from rfl, miI_nI (by omega) (by decide)]
  refine ⟨fun q => ?_, fun q => ?_, ?_⟩
  · have := (nI_ltI (a := n) (b := 90) (by omega) (by decide)).mp q
    rw [e, Nat.min_eq_left (by omega), nI_1]
  · have h9 : n = 90 := by
      rcases Nat.lt_or_ge n 90 with w | w
      · exact absurd ((nI_ltI (a := n) (b := 90) (by omega) (by decide)).mpr w) q
      · omega
    subst h9
    rw [e]
    decide
  · rw [e]
    exact ⟨_, Nat.min_le_right _ _, rfl⟩
theorem s8_vN {G : St} (hI : Inv G) : vN 100000 (G 8 3) := by
  obtain ⟨n, -, h, e⟩ := hI.2.2.2.2.2.2.2
  exact ⟨n, by omega, e⟩
theorem Inv_tk {G : St} (hI : Inv G) : Inv (tkG G) := by
  have hr : ∀ {a : Nat}, ¬ a = 6 → tkG G a = G a := fun h => tk_row G h
  have hu := Inv_use hI (s8_vN hI)
  refine Inv_6 hI (hr (by decide)) (hr (by decide)) (hr (by decide)) (hr (by decide)) (hr (by decide)) ?_ ?_ ?_
  all_goals
    by_cases q : G 6 2 = 1
    · by_cases q0 : useG G (G 8 3) 6 0 = 0
      · rw [tk_fall0 q q0]
        first
          | (rw [s2_ne _ _ (by decide), s2_ne _ _ (by decide)]; exact hu.2.1)
          | (rw [s2_ne _ _ (by decide), s2_at]; exact (we_vN hu.2.2.1).2.2)
          | (rw [s2_at]; exact vN_lit 2 (by decide))
      · rw [tk_fall q q0]
        first
          | exact hu.2.1
          | exact hu.2.2.1
          | exact hu.2.2.2.1
    · by_cases q2 : G 6 2 = 2 ∧ chgI G = capI G
      · rw [tk_end q q2]
        first
          | (rw [s2_ne _ _ (by decide), s2_at]; exact chg_vN hI)
          | (rw [s2_ne _ _ (by decide), s2_ne _ _ (by decide)]; exact hI.2.2.1)
          | (rw [s2_at]; exact vN_0 2)
      · rw [tk_rise q q2]
        first
          | (rw [s2_at]; exact chg_vN hI)
          | (rw [s2_ne _ _ (by decide)]; exact hI.2.2.1)
          | (rw [s2_ne _ _ (by decide)]; exact hI.2.2.2.1)
theorem Inv_tc {G : St} (hI : Inv G) : Inv (tcG G) := Inv_s7 hI _ _
theorem Inv_tk0 {G : St} (hI : Inv G) : Inv (tk0 G) := by
  unfold tk0
  by_cases q : endB (tcG G) = true
  · rw [if_pos q]; exact Inv_s7 (Inv_tk (Inv_tc hI)) _ _
  · rw [if_neg q]; exact Inv_tk (Inv_tc hI)
theorem Inv_tk1 {G : St} (hI : Inv G) : Inv (tk1 G) := Inv_fls (Inv_tk0 hI)
theorem Inv_tks {G : St} (hI : Inv G) (n : Nat) : Inv (tksG G n) := by
  induction n with
  | zero => exact hI
  | succ n ih => exact Inv_tk1 ih
theorem tk0_73 (G : St) : tk0 G 7 3 = G 7 3 := by
  have h : tkG (tcG G) 7 = tcG G 7 := tk_row _ (by decide)
  have h2 : tcG G 7 3 = G 7 3 := s2_ne _ _ (by decide) _
  unfold tk0
  by_cases q : endB (tcG G) = true
  · rw [if_pos q, s2_ne _ _ (by decide), h, h2]
  · rw [if_neg q, h, h2]
theorem tk1_73 {G : St} (hI : Inv G) : tk1 G 7 3 = G 7 3 + tooI (tk0 G) := by
  unfold tk1
  rw [fls_73 (Inv_tk0 hI), tk0_73]
theorem NoD_tks {G : St} (hI : Inv G) (hN : NoD G) (n : Nat) : NoD (tksG G n) := by
  cases n with
  | zero => exact hN
  | succ n => exact NoD_fls (Inv_tk0 (Inv_tks hI n))
theorem i32_ring (a g t : Int32) : (a - g) + t = (a + t) - g := by
  rw [Int32.sub_eq_add_neg, Int32.sub_eq_add_neg, Int32.add_assoc, Int32.add_assoc, Int32.add_comm (-g) t]
theorem Inv_loa {G : St} (hI : Inv G) {x : Int32} (hx : vN 100000 x) : Inv (loaG G x) := Inv_fls (Inv_use hI hx)
theorem Inv_lc {G : St} (hI : Inv G) : Inv (s2 G 6 2 1) := by
  refine Inv_6 hI (s2_row _ (by decide) _ _) (s2_row _ (by decide) _ _) (s2_row _ (by decide) _ _) (s2_row _ (by decide) _ _) (s2_row _ (by decide) _ _) ?_ ?_ ?_
  · rw [s2_ne _ _ (by decide)]; exact hI.2.1
  · rw [s2_ne _ _ (by decide)]; exact hI.2.2.1
  · rw [s2_at]; exact vN_lit 1 (by decide)
theorem Inv_bgc {G : St} (hI : Inv G) : Inv (bgcG G) := Inv_fls (Inv_lc hI)
