/-! ===== the cut, and the rows that are copied ===== -/
theorem s2_s2 (G : St) (r j : Nat) (v z : Int32) : s2 (s2 G r j v) r j z = s2 G r j z := by
  funext a
  simp only [s2_ap]
  by_cases h : a = r
  · rw [if_pos h, if_pos h, if_pos h, upd_upd]
  · rw [if_neg h, if_neg h, if_neg h]
theorem old_row {G G2 : St} (h2 : G2 2 = G 2) (h5 : G2 5 = G 5) (k : Int32) (n : Nat) : oldI G2 k n = oldI G k n := by
  induction n with
  | zero => rfl
  | succ n ih =>
    unfold oldI
    rw [ih, h2, h5]
    unfold btI
    rw [h5]
theorem lay_s6 (G : St) (p v : Int32) (j : Nat) (z : Int32) : layG (s2 G 6 j z) p v = s2 (layG G p v) 6 j z := by
  unfold layG
  by_cases q : rg p 64 = true
  · rw [if_pos q, if_pos q, s2_row G (a := 1) (by decide), s2_row G (a := 7) (by decide), s2_comm _ (show ¬ (6 : Nat) = 0 by decide), s2_comm _ (show ¬ (6 : Nat) = 1 by decide), s2_comm _ (show ¬ (6 : Nat) = 7 by decide)]
  · rw [if_neg q, if_neg q]
theorem flu_s6 (G : St) (x : Int32) (j : Nat) (z : Int32) : fluG (s2 G 6 j z) x = s2 (fluG G x) 6 j z := by
  unfold fluG
  rw [s2_row G (a := 2) (by decide), s2_row G (a := 3) (by decide), s2_row G (a := 4) (by decide)]
  by_cases q : rg x 8 = true ∧ G 2 (ix x) = 2
  · rw [if_pos q, if_pos q, s2_comm G (show ¬ (6 : Nat) = 2 by decide), lay_s6, s2_comm _ (show ¬ (6 : Nat) = 7 by decide), s2_row _ (a := 7) (by decide)]
  · rw [if_neg q, if_neg q]
theorem Inv_s60 {G : St} (hI : Inv G) {v : Int32} (hv : vN 1000 v) : Inv (s2 G 6 0 v) := by
  refine Inv_6 hI (s2_row _ (by decide) _ _) (s2_row _ (by decide) _ _) (s2_row _ (by decide) _ _) (s2_row _ (by decide) _ _) (s2_row _ (by decide) _ _) ?_ ?_ ?_
  · rw [s2_at]; exact hv
  · rw [s2_ne _ _ (by decide)]; exact hI.2.2.1
  · rw [s2_ne _ _ (by decide)]; exact hI.2.2.2.1
theorem Inv_s62 {G : St} (hI : Inv G) : Inv (s2 G 6 2 0) := by
  refine Inv_6 hI (s2_row _ (by decide) _ _) (s2_row _ (by decide) _ _) (s2_row _ (by decide) _ _) (s2_row _ (by decide) _ _) (s2_row _ (by decide) _ _) ?_ ?_ ?_
  · rw [s2_ne _ _ (by decide)]; exact hI.2.1
  · rw [s2_ne _ _ (by decide)]; exact hI.2.2.1
  · rw [s2_at]; exact vN_0 2
def ct0 (G : St) : St := useG (flsG G (ix (sbcI G))) (cosI (flsG G (ix (sbcI G))) (sbcI G))
theorem ct1_ct0 (G : St) : ct1 G = s2 (ct0 G) 6 2 0 := rfl
theorem sbc_nI {G : St} {c a k : Nat} (hc : c ≤ 1000) (ha1 : 1 ≤ a) (ha : a ≤ 500) (hk : k ≤ 500) (e0 : G 6 0 = nI c) (e1 : G 8 0 = nI a) (e2 : G 8 1 = nI k) : sbcI G = nI (min (mN G 2) (sN c k a)) := by
  have h1 := mN_le G 2
  have h2 := sN_le c k a
  unfold sbcI
  rw [nof_mN, savI_nI hc ha1 ha hk e0 e1 e2, miI_nI (by omega) (by omega)]
theorem ct0_eq {G : St} (hI : Inv G) {c a k n : Nat} (hc : c ≤ 1000) (ha1 : 1 ≤ a) (ha : a ≤ 500) (hk : k ≤ 500) (e0 : G 6 0 = nI c) (e1 : G 8 0 = nI a) (e2 : G 8 1 = nI k) (hn : n = min (mN G 2) (sN c k a)) : ct0 G = s2 (flsG G n) 6 0 (nI (c - (k + n * a))) := by
  have h1 := mN_le G 2
  have h2 := sN_le c k a
  have hn8 : n ≤ 8 := by omega
  have hm : n * a ≤ 8 * 500 := Nat.mul_le_mul hn8 ha
  obtain ⟨-, r6, r8, -, -⟩ := fls_facts hI n (by omega)
  unfold ct0
  rw [sbc_nI hc ha1 ha hk e0 e1 e2, ← hn, ix_nI (by omega), cosI_nI (a := a) (k := k) (by rw [r8]; exact e1) (by rw [r8]; exact e2)]
  unfold useG
  rw [r6, e0, maI_sub (by omega) (by omega)]
theorem Inv_ct0 {G : St} (hI : Inv G) : Inv (ct0 G) := by
  have h0 := hI
  obtain ⟨-, ⟨c, hc, e0⟩, -, -, ⟨a, ha1, ha, e1⟩, ⟨k, hk, e2⟩, -⟩ := hI
  rw [ct0_eq h0 hc ha1 ha hk e0 e1 e2 rfl]
  exact Inv_s60 (fls_facts h0 _ (Nat.min_le_left _ _)).1 ⟨_, by omega, rfl⟩
theorem emp_row (G : St) {a : Nat} (h : ¬ a = 2) (n : Nat) : empG G n a = G a := by
  induction n with
  | zero => rfl
  | succ n ih =>
    unfold empG
    rw [s2_row _ h]
    exact ih
theorem emp_s2 (G : St) {r : Nat} (h : ¬ r = 2) (j : Nat) (v : Int32) (n : Nat) : empG (s2 G r j v) n = s2 (empG G n) r j v := by
  induction n with
  | zero => rfl
  | succ n ih =>
    unfold empG
    rw [ih, s2_comm _ h]
theorem emp_2 (G : St) (n : Nat) : ∀ l, empG G n 2 l = if l < n then 0 else G 2 l := by
  induction n with
  | zero => intro l; rw [if_neg (Nat.not_lt_zero l)]; rfl
  | succ n ih =>
    intro l
    unfold empG
    rw [s2_ap, if_pos rfl]
    unfold upd
    by_cases q : l = n
    · rw [if_pos q, if_pos (by omega)]
    · rw [if_neg q, ih l]
      by_cases w : l < n
      · rw [if_pos w, if_pos (by omega)]
      · rw [if_neg w, if_neg (by omega)]
theorem Inv_emp {G : St} (hI : Inv G) (n : Nat) : Inv (empG G n) := by
  obtain ⟨⟨i3, i2, i4, i0⟩, iB⟩ := hI
  refine ⟨⟨?_, ?_, ?_, ?_⟩, ?_⟩
  · rw [emp_row _ (by decide)]; exact i3
  · intro l
    rw [emp_2]
    by_cases q : l < n
    · rw [if_pos q]; exact vN_0 2
    · rw [if_neg q]; exact i2 l
  · rw [emp_row _ (by decide)]; exact i4
  · rw [emp_row _ (by decide)]; exact i0
  · rw [emp_row _ (by decide), emp_row _ (by decide)]; exact iB
theorem cut_eq (G : St) : empG (s2 (s2 (s2 (ct0 G) 7 5 (ct0 G 7 5 + cutI G)) 7 6 (ct0 G 7 6 + 1)) 6 2 0) 8 = cutG G := by
  unfold cutG
  rw [ct1_ct0, emp_s2 _ (by decide), emp_s2 _ (by decide), emp_s2 _ (by decide), emp_s2 _ (by decide)]
  rw [s2_row _ (a := 7) (by decide), s2_ne _ 7 (show ¬ (6 : Nat) = 5 by decide), s2_row _ (a := 7) (by decide), emp_row _ (a := 7) (by decide)]
  rw [s2_comm _ (show ¬ (7 : Nat) = 6 by decide), s2_comm _ (show ¬ (7 : Nat) = 6 by decide)]
theorem Inv_cut {G : St} (hI : Inv G) : Inv (cutG G) := by
  rw [← cut_eq]
  exact Inv_emp (Inv_s62 (Inv_s7 (Inv_s7 (Inv_ct0 hI) _ _) _ _)) 8
theorem NoD_cut (G : St) : NoD (cutG G) := by
  rw [← cut_eq]
  refine Or.inl ?_
  rw [emp_row _ (by decide), s2_at]
theorem nI_posI {n : Nat} (h : n < 2147483648) (h0 : 0 < nI n) : 0 < n := (nI_ltI (a := 0) (by decide) h).mp h0
theorem nI_nposI {n : Nat} (h : n < 2147483648) (h0 : ¬ 0 < nI n) : n = 0 := by
  rcases Nat.eq_zero_or_pos n with q | q
  · exact q
  · exact absurd ((nI_ltI (a := 0) (by decide) h).mpr q) h0
-- rows copied place by place
def kpF (g K : Nat → Int32) (i : Nat) : Nat → Int32 := fun j => if j < i then g j else K j
theorem kpF_s (g K : Nat → Int32) (i : Nat) : upd (kpF g K i) i (g i) = kpF g K (i + 1) := by
  funext j
  unfold upd kpF
  by_cases h : j = i
  · rw [if_pos h, if_pos (by omega), h]
  · rw [if_neg h]
    by_cases q : j < i
    · rw [if_pos q, if_pos (by omega)]
    · rw [if_neg q, if_neg (by omega)]
theorem kpF_0 (g K : Nat → Int32) : K = kpF g K 0 := by
  funext j
  unfold kpF
  rw [if_neg (Nat.not_lt_zero j)]
def shF (h : Nat → Int32) (i : Nat) : Nat → Int32 := fun j => if j < i then h (j + 180) else h j
theorem shF_0 (h : Nat → Int32) : h = shF h 0 := by
  funext j
  unfold shF
  rw [if_neg (Nat.not_lt_zero j)]
theorem shF_s (h : Nat → Int32) (i : Nat) : upd (shF h i) i (shF h i (i + 180)) = shF h (i + 1) := by
  funext j
  unfold upd shF
  by_cases q : j = i
  · rw [if_pos q, if_neg (by omega), if_pos (by omega), q]
  · rw [if_neg q]
    by_cases w : j < i
    · rw [if_pos w, if_pos (by omega)]
    · rw [if_neg w, if_neg (by omega)]
def ptF (h : Nat → Int32) (b : Nat) (g : Nat → Int32) (i : Nat) : Nat → Int32 := fun j => if b ≤ j ∧ j < b + i then g (j - b) else h j
theorem ptF_0 (h : Nat → Int32) (b : Nat) (g : Nat → Int32) : h = ptF h b g 0 := by
  funext j
  unfold ptF
  rw [if_neg (by omega)]
theorem ptF_s (h : Nat → Int32) (b : Nat) (g : Nat → Int32) (i : Nat) : upd (ptF h b g i) (b + i) (g i) = ptF h b g (i + 1) := by
  funext j
  unfold upd ptF
  by_cases q : j = b + i
  · rw [if_pos q, if_pos (by omega), show j - b = i by omega]
  · rw [if_neg q]
    by_cases w : b ≤ j ∧ j < b + i
    · rw [if_pos w, if_pos (by omega)]
    · rw [if_neg w, if_neg (by omega)]
/-- a history behind a change -/
def hpF (k : Nat) (h g : Nat → Int32) : Nat → Int32 := if k = 4 then ptF (shF h 540) (180 * 3) g 180 else ptF h (180 * k) g 180
theorem s2_yes8 (G : St) (v : Int32) : chsG G 0 v = s2 G 8 0 v ∧ chsG G 1 v = s2 G 8 1 v ∧ chsG G 2 v = s2 G 8 2 v ∧ chsG G 3 v = s2 G 8 3 v := by
  refine ⟨?_, ?_, ?_, ?_⟩ <;> (funext a; unfold chsG; rw [s2_ap]; by_cases h : a = 8)
  all_goals first
    | (rw [if_neg h, if_neg h]; done)
    | (subst h; rfl)
