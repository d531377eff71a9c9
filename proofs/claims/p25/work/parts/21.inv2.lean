/-! ===== what flushing does to a state ===== -/
theorem lay_yes (G : St) {p : Nat} (hp : p < 64) (v : Int32) : layG G (nI p) v = s2 (s2 (s2 G 0 p v) 1 p (G 1 p + 1)) 7 8 (G 7 8 + 1) := by
  unfold layG
  rw [if_pos (rg_nI (n := 64) (b := 64) rfl hp (by decide)), ix_nI (by omega)]
theorem lay_row (G : St) (p v : Int32) {a : Nat} (h0 : ¬ a = 0) (h1 : ¬ a = 1) (h7 : ¬ a = 7) : layG G p v a = G a := by
  unfold layG
  by_cases q : rg p 64 = true
  · rw [if_pos q, s2_row _ h7, s2_row _ h1, s2_row _ h0]
  · rw [if_neg q]
theorem lay_7 (G : St) (p v : Int32) {j : Nat} (h : ¬ j = 8) : layG G p v 7 j = G 7 j := by
  unfold layG
  by_cases q : rg p 64 = true
  · rw [if_pos q, s2_ne _ _ h, s2_row _ (by decide), s2_row _ (by decide)]
  · rw [if_neg q]
theorem lay_0 {G : St} {p v : Int32} (h : ∀ l, vN 999 (G 0 l)) (hv : vN 999 v) : ∀ l, vN 999 (layG G p v 0 l) := by
  intro l
  unfold layG
  by_cases q : rg p 64 = true
  · rw [if_pos q, s2_row _ (by decide), s2_row _ (by decide), s2_ap, if_pos rfl]
    exact vN_upd h hv l
  · rw [if_neg q]; exact h l
theorem flu_no {G : St} {x : Int32} (h : ¬ (rg x 8 = true ∧ G 2 (ix x) = 2)) : fluG G x = G := by
  unfold fluG
  rw [if_neg h]
theorem flu_no2 {G : St} {l : Nat} (hl : l < 8) (h : ¬ G 2 l = 2) : fluG G (nI l) = G := flu_no (fun q => h (by rw [ix_nI (by omega)] at q; exact q.2))
theorem flu_yes {G : St} {l : Nat} (hl : l < 8) (h : G 2 l = 2) : fluG G (nI l) = s2 (layG (s2 G 2 l 1) (G 3 l) (G 4 l)) 7 3 (G 7 3 + 1) := by
  unfold fluG
  rw [ix_nI (by omega), if_pos ⟨rg_nI (n := 8) (b := 8) rfl hl (by decide), h⟩, lay_7 _ _ _ (by decide), s2_row _ (by decide)]
theorem flu_row (G : St) (x : Int32) {a : Nat} (h0 : ¬ a = 0) (h1 : ¬ a = 1) (h2 : ¬ a = 2) (h7 : ¬ a = 7) : fluG G x a = G a := by
  by_cases q : rg x 8 = true ∧ G 2 (ix x) = 2
  · unfold fluG
    rw [if_pos q, s2_row _ h7, lay_row _ _ _ h0 h1 h7, s2_row _ h2]
  · rw [flu_no q]
theorem flu_2 {G : St} {l : Nat} (hl : l < 8) (h : G 2 l = 2) : fluG G (nI l) 2 = upd (G 2) l 1 := by
  rw [flu_yes hl h, s2_row _ (by decide), lay_row _ _ _ (by decide) (by decide) (by decide), s2_ap, if_pos rfl]
theorem flu_73 {G : St} {l : Nat} (hl : l < 8) (h : G 2 l = 2) : fluG G (nI l) 7 3 = G 7 3 + 1 := by
  rw [flu_yes hl h, s2_at]
theorem flu_le2 (G : St) (x : Int32) (l : Nat) (h : ¬ G 2 l = 2) : ¬ fluG G x 2 l = 2 := by
  by_cases q : rg x 8 = true ∧ G 2 (ix x) = 2
  · obtain ⟨i, hi, rfl⟩ := rg_ex (n := 8) rfl (by decide) q.1
    have q2 := q.2
    rw [ix_nI (by omega)] at q2
    rw [flu_2 hi q2]
    unfold upd
    by_cases w : l = i
    · rw [if_pos w]; decide
    · rw [if_neg w]; exact h
  · rw [flu_no q]; exact h
theorem Inv_flu {G : St} (hI : Inv G) (x : Int32) : Inv (fluG G x) := by
  by_cases q : rg x 8 = true ∧ G 2 (ix x) = 2
  · obtain ⟨i, hi, rfl⟩ := rg_ex (n := 8) rfl (by decide) q.1
    have q2 := q.2
    rw [ix_nI (by omega)] at q2
    obtain ⟨⟨i3, i2, i4, i0⟩, iB⟩ := hI
    refine ⟨⟨?_, ?_, ?_, ?_⟩, ?_⟩
    · rw [flu_row _ _ (by decide) (by decide) (by decide) (by decide)]; exact i3
    · rw [flu_2 hi q2]; exact vN_upd i2 (vN_lit 1 (by decide))
    · rw [flu_row _ _ (by decide) (by decide) (by decide) (by decide)]; exact i4
    · rw [flu_yes hi q2, s2_row _ (by decide)]
      exact lay_0 (by rw [s2_row _ (by decide)]; exact i0) (i4 i)
    · rw [flu_row _ _ (by decide) (by decide) (by decide) (by decide), flu_row _ _ (by decide) (by decide) (by decide) (by decide)]; exact iB
  · rw [flu_no q]; exact hI
theorem mN_flu {G : St} {l : Nat} (hl : l < 8) (h : G 2 l = 2) : mN (fluG G (nI l)) 2 + 1 = mN G 2 := by
  unfold mN
  rw [flu_2 hl h]
  have e := cnt_upd (G 2) l 2 1 (by decide) h 8
  rw [if_pos hl] at e
  exact e
theorem alw_row {G G2 : St} (h6 : G2 6 = G 6) (h8 : G2 8 = G 8) : alwI G2 = alwI G := by
  unfold alwI savI
  rw [h6, h8]
theorem alw_ex {G : St} (hI : Inv G) : ∃ a, a ≤ 8 ∧ alwI G = nI a := by
  obtain ⟨-, ⟨c, hc, e0⟩, -, -, ⟨a, ha1, ha, e1⟩, ⟨k, hk, e2⟩, -⟩ := hI
  unfold alwI
  by_cases q : G 6 2 = 0
  · rw [if_pos q, savI_nI hc ha1 ha hk e0 e1 e2]
    exact ⟨_, sN_le _ _ _, rfl⟩
  · rw [if_neg q]
    exact ⟨0, by omega, rfl⟩
theorem mN_le (G : St) (k : Int32) : mN G k ≤ 8 := cnt_le _ 8
theorem too_a {G : St} {a : Nat} (ha : a ≤ 8) (e : alwI G = nI a) : tooI G = nI (mN G 2 - a) := by
  have h := mN_le G 2
  unfold tooI
  rw [nof_mN, e, maI_sub (by omega) (by omega)]
theorem too_ix {G : St} {a : Nat} (ha : a ≤ 8) (e : alwI G = nI a) : ix (tooI G) = mN G 2 - a := by
  have h := mN_le G 2
  rw [too_a ha e, ix_nI (by omega)]
theorem dirty_old {G : St} (h : 0 < mN G 2) : ∃ l, l < 8 ∧ G 2 l = 2 ∧ oldI G 2 8 = nI l := by
  rcases old_cases G 2 8 with ⟨-, h2⟩ | w
  · obtain ⟨l, h3, h4⟩ := cnt_pos _ 8 h
    exact absurd h4 (h2 l h3)
  · exact w
theorem fls_facts {G : St} (hI : Inv G) : ∀ n, n ≤ mN G 2 → Inv (flsG G n) ∧ flsG G n 6 = G 6 ∧ flsG G n 8 = G 8 ∧ mN (flsG G n) 2 = mN G 2 - n ∧ flsG G n 7 3 = G 7 3 + nI n := by
  intro n
  induction n with
  | zero => intro _; exact ⟨hI, rfl, rfl, rfl, by show G 7 3 = G 7 3 + nI 0; rw [nI_0]; simp⟩
  | succ n ih =>
    intro h
    obtain ⟨j1, j6, j8, jm, j7⟩ := ih (by omega)
    obtain ⟨l, hl, h2, e⟩ := dirty_old (G := flsG G n) (by omega)
    have em := mN_flu hl h2
    unfold flsG
    rw [e]
    refine ⟨Inv_flu j1 _, ?_, ?_, by omega, ?_⟩
    · rw [flu_row _ _ (by decide) (by decide) (by decide) (by decide)]; exact j6
    · rw [flu_row _ _ (by decide) (by decide) (by decide) (by decide)]; exact j8
    · rw [flu_73 hl h2, j7, nI_succ, Int32.add_assoc]
/-- the reference's flushing of a dirty line -/
theorem flu_eq {G : St} {l p : Nat} (hl : l < 8) (h : G 2 l = 2) (hp : p < 64) (e : G 3 l = nI p) : s2 (s2 (layG G (nI p) (G 4 l)) 2 l 1) 7 3 (layG G (nI p) (G 4 l) 7 3 + 1) = fluG G (nI l) := by
  rw [flu_yes hl h, e, lay_7 _ _ _ (by decide), lay_yes _ hp, lay_yes _ hp]
  rw [s2_comm _ (show ¬ (7 : Nat) = 2 by decide), s2_comm _ (show ¬ (1 : Nat) = 2 by decide), s2_comm _ (show ¬ (0 : Nat) = 2 by decide)]
  rw [s2_row G (a := 1) (by decide), s2_row G (a := 7) (by decide)]
theorem NoD_flu {G : St} (h : NoD G) (x : Int32) : NoD (fluG G x) := by
  rcases h with w | w
  · exact Or.inl (by rw [flu_row _ _ (by decide) (by decide) (by decide) (by decide)]; exact w)
  · exact Or.inr (fun l hl => flu_le2 G _ l (w l hl))
/-- behind a flushing of what is too many no line is dirty while a cycle runs -/
theorem NoD_fls {G : St} (hI : Inv G) : NoD (flsG G (ix (tooI G))) := by
  obtain ⟨a, ha, ea⟩ := alw_ex hI
  rw [too_ix ha ea]
  obtain ⟨h1, h6, h8, hm, -⟩ := fls_facts hI (mN G 2 - a) (by omega)
  unfold NoD IC
  rw [h6]
  by_cases q : G 6 2 = 0
  · exact Or.inl q
  · refine Or.inr (fun l hl z => ?_)
    have e0 : a = 0 := by
      unfold alwI at ea
      rw [if_neg q] at ea
      exact ((nI_eq (a := 0) (b := a) (by decide) (by omega)).mp ea).symm
    subst e0
    have hz : mN (flsG G (mN G 2 - 0)) 2 = 0 := by omega
    have hp : 0 < cntN (fun j => flsG G (mN G 2 - 0) 2 j = 2) 8 := by
      rcases Nat.eq_zero_or_pos (cntN (fun j => flsG G (mN G 2 - 0) 2 j = 2) 8) with w | w
      · exact absurd z (cnt_zero_no _ 8 w l hl)
      · exact w
    exact absurd (show cntN (fun j => flsG G (mN G 2 - 0) 2 j = 2) 8 = 0 from hz) (by omega)
theorem Inv_fls {G : St} (hI : Inv G) : Inv (flsG G (ix (tooI G))) := by
  obtain ⟨a, ha, ea⟩ := alw_ex hI
  rw [too_ix ha ea]
  exact (fls_facts hI (mN G 2 - a) (by omega)).1
theorem fls_73 {G : St} (hI : Inv G) : flsG G (ix (tooI G)) 7 3 = G 7 3 + tooI G := by
  obtain ⟨a, ha, ea⟩ := alw_ex hI
  rw [too_ix ha ea, too_a ha ea]
  exact (fls_facts hI (mN G 2 - a) (by omega)).2.2.2.2
