/-! ===== what a read does to a state; the reference's words for it ===== -/
theorem lg_rg (x : Int32) : inB (Int32.toInt64 x) 0 63 = true ↔ rg x 64 = true := by
  unfold inB rg
  rw [decide_eq_true_iff, decide_eq_true_iff, Int64.lt_iff_toInt_lt, Int64.lt_iff_toInt_lt, Int32.lt_iff_toInt_lt, Int32.lt_iff_toInt_lt, Int32.toInt_toInt64]
  have e0 : (0 : Int64).toInt = 0 := by decide
  have e1 : (63 : Int64).toInt = 63 := by decide
  have e2 : (0 : Int32).toInt = 0 := by decide
  have e3 : (64 : Int32).toInt = 64 := by decide
  rw [e0, e1, e2, e3]
  omega
theorem lg_rg8 (x : Int32) : inB (Int32.toInt64 x) 0 7 = true ↔ rg x 8 = true := by
  unfold inB rg
  rw [decide_eq_true_iff, decide_eq_true_iff, Int64.lt_iff_toInt_lt, Int64.lt_iff_toInt_lt, Int32.lt_iff_toInt_lt, Int32.lt_iff_toInt_lt, Int32.toInt_toInt64]
  have e0 : (0 : Int64).toInt = 0 := by decide
  have e1 : (7 : Int64).toInt = 7 := by decide
  have e2 : (0 : Int32).toInt = 0 := by decide
  have e3 : (8 : Int32).toInt = 8 := by decide
  rw [e0, e1, e2, e3]
  omega
theorem lg_wth (x lo hi : Int32) {a b : Int64} (ha : a.toInt = lo.toInt) (hb : b.toInt = hi.toInt) : inB (Int32.toInt64 x) a b = true ↔ wth x lo hi = true := by
  unfold inB wth
  rw [decide_eq_true_iff, decide_eq_true_iff, Int64.lt_iff_toInt_lt, Int64.lt_iff_toInt_lt, Int32.lt_iff_toInt_lt, Int32.lt_iff_toInt_lt, Int32.toInt_toInt64, ha, hb]
theorem old_ne {G : St} {k : Int32} {i : Nat} (hi : i ≤ 8) (h : ¬ oldI G k i = -1) : ∃ l, l < 8 ∧ oldI G k i = nI l := by
  rcases old_cases G k i with ⟨h1, -⟩ | ⟨l, h1, -, h2⟩
  · exact absurd h1 h
  · exact ⟨l, by omega, h2⟩
theorem bt_eq {G : St} {k : Int32} {i l : Nat} (hl : l < 8) (e : oldI G k i = nI l) : G 5 l = btI G (oldI G k i) := by
  unfold btI
  rw [e, if_neg (nI_nm1 (by omega)), ix_nI (by omega)]
theorem trn_yes (G : St) {l : Nat} (hl : l < 8) : trnG G (nI l) = s2 (s2 G 5 l (G 9 0 + 1)) 9 0 (G 9 0 + 1) := by
  unfold trnG
  rw [if_pos (rg_nI (n := 8) (b := 8) rfl hl (by decide)), ix_nI (by omega), s2_comm _ (by decide)]
theorem lin_yes (G : St) {l p : Nat} (hl : l < 8) (hp : p < 64) : linG G (nI l) (nI p) = s2 (s2 (s2 G 2 l 1) 3 l (nI p)) 4 l (G 0 p) := by
  unfold linG
  rw [if_pos ⟨rg_nI (n := 8) (b := 8) rfl hl (by decide), rg_nI (n := 64) (b := 64) rfl hp (by decide)⟩, ix_nI (by omega), ix_nI (by omega)]
theorem mis_row (G : St) {a : Nat} (h : ¬ a = 7) : misG G a = G a := s2_row _ h _ _
theorem Inv_of {G G2 : St} (hI : Inv G) (h0 : G2 0 = G 0) (h2 : G2 2 = G 2) (h3 : G2 3 = G 3) (h4 : G2 4 = G 4) (h6 : G2 6 = G 6) (h8 : G2 8 = G 8) : Inv G2 := by
  unfold Inv
  rw [h0, h2, h3, h4, h6, h8]
  exact hI
theorem Inv_mis {G : St} (hI : Inv G) : Inv (misG G) := Inv_of hI (mis_row G (by decide)) (mis_row G (by decide)) (mis_row G (by decide)) (mis_row G (by decide)) (mis_row G (by decide)) (mis_row G (by decide))
theorem Inv_s7 {G : St} (hI : Inv G) (j : Nat) (v : Int32) : Inv (s2 G 7 j v) := Inv_of hI (s2_row _ (by decide) _ _) (s2_row _ (by decide) _ _) (s2_row _ (by decide) _ _) (s2_row _ (by decide) _ _) (s2_row _ (by decide) _ _) (s2_row _ (by decide) _ _)
theorem Inv_trn {G : St} (hI : Inv G) {l : Nat} (hl : l < 8) : Inv (trnG G (nI l)) := by
  rw [trn_yes G hl]
  refine Inv_of hI ?_ ?_ ?_ ?_ ?_ ?_ <;> rw [s2_row _ (by decide), s2_row _ (by decide)]
theorem Inv_lin {G : St} (hI : Inv G) {l p : Nat} (hl : l < 8) (hp : p < 64) : Inv (linG G (nI l) (nI p)) := by
  obtain ⟨⟨i3, i2, i4, i0⟩, iB⟩ := hI
  rw [lin_yes G hl hp]
  have r2 : s2 (s2 (s2 G 2 l 1) 3 l (nI p)) 4 l (G 0 p) 2 = upd (G 2) l 1 := by rw [s2_row _ (by decide), s2_row _ (by decide), s2_ap, if_pos rfl]
  have r6 : s2 (s2 (s2 G 2 l 1) 3 l (nI p)) 4 l (G 0 p) 6 = G 6 := by rw [s2_row _ (by decide), s2_row _ (by decide), s2_row _ (by decide)]
  refine ⟨⟨?_, ?_, ?_, ?_⟩, ?_⟩
  · rw [s2_row _ (by decide), s2_ap, if_pos rfl, s2_row _ (by decide)]
    exact vN_upd i3 (vN_lit p (by omega))
  · rw [r2]; exact vN_upd i2 (vN_lit 1 (by decide))
  · rw [s2_ap, if_pos rfl, s2_row _ (by decide), s2_row _ (by decide)]
    exact vN_upd i4 (i0 p)
  · rw [s2_row _ (by decide), s2_row _ (by decide), s2_row _ (by decide)]; exact i0
  · rw [r6, s2_row _ (by decide), s2_row _ (by decide), s2_row _ (by decide)]; exact iB
/-- neither an empty nor a clean line: a dirty one is there -/
theorem all_dirty {G : St} (hI : Inv G) (h0 : ∀ l, l < 8 → ¬ G 2 l = 0) (h1 : oldI G 1 8 = -1) : ∃ l, l < 8 ∧ G 2 l = 2 ∧ oldI G 2 8 = nI l := by
  rcases old_cases G 2 8 with ⟨-, h2⟩ | w
  · rcases old_cases G 1 8 with ⟨-, h3⟩ | ⟨l, hl, -, h3⟩
    · rcases kinds (hI.1.2.1 0) with q | q | q
      · exact absurd q (h0 0 (by decide))
      · exact absurd q (h3 0 (by decide))
      · exact absurd q (h2 0 (by decide))
    · rw [h1] at h3
      exact absurd h3.symm (nI_nm1 (by omega))
  · exact w
theorem low_m1 {G : St} (h : lowI G = -1) : ∀ l, l < 8 → ¬ G 2 l = 0 := by
  rcases low_cases G with ⟨-, w⟩ | ⟨l, hl, e, -⟩
  · exact w
  · rw [h] at e
    exact absurd e.symm (nI_nm1 (by omega))
theorem tak_ex {G : St} (hI : Inv G) : ∃ l, l < 8 ∧ takI G = nI l := by
  unfold takI
  rcases low_cases G with ⟨e, w⟩ | ⟨l, hl, e, -⟩
  · rw [if_pos e]
    rcases old_cases G 1 8 with ⟨e1, -⟩ | ⟨l, hl, -, e1⟩
    · rw [if_pos e1]
      obtain ⟨l, hl, -, e2⟩ := all_dirty hI w e1
      exact ⟨l, hl, e2⟩
    · rw [if_neg (by rw [e1]; exact nI_nm1 (by omega))]
      exact ⟨l, hl, e1⟩
  · rw [if_neg (by rw [e]; exact nI_nm1 (by omega))]
    exact ⟨l, hl, e⟩
/-- a read's line is one, and the state stays good -/
theorem lnf_ok {G : St} (hI : Inv G) {p : Nat} (hp : p < 64) : ∃ l, l < 8 ∧ lnfI G (nI p) = nI l ∧ Inv (lnfG G (nI p)) := by
  unfold lnfG lnf1 lnfI
  rcases hld_cases G (nI p) with e | ⟨l, hl, e, -, -⟩
  · rw [e, if_neg (rg_m1 8), if_neg (rg_m1 8)]
    obtain ⟨l, hl, e2⟩ := tak_ex (Inv_mis hI)
    rw [e2]
    exact ⟨l, hl, rfl, Inv_trn (Inv_lin (Inv_flu (Inv_mis hI) _) hl hp) hl⟩
  · rw [e, if_pos (rg_nI (n := 8) (b := 8) rfl hl (by decide)), if_pos (rg_nI (n := 8) (b := 8) rfl hl (by decide))]
    exact ⟨l, hl, rfl, Inv_trn (Inv_s7 hI _ _) hl⟩
theorem Inv_val {G : St} (hI : Inv G) (l : Nat) {v : Int32} (hv : vN 999 v) : Inv (s2 G 4 l v) := by
  obtain ⟨⟨i3, i2, i4, i0⟩, iB⟩ := hI
  refine ⟨⟨?_, ?_, ?_, ?_⟩, ?_⟩
  · rw [s2_row _ (by decide)]; exact i3
  · rw [s2_row _ (by decide)]; exact i2
  · rw [s2_ap, if_pos rfl]; exact vN_upd i4 hv
  · rw [s2_row _ (by decide)]; exact i0
  · rw [s2_row _ (by decide), s2_row _ (by decide)]; exact iB
theorem Inv_lay {G : St} (hI : Inv G) (p : Int32) {v : Int32} (hv : vN 999 v) : Inv (layG G p v) := by
  obtain ⟨⟨i3, i2, i4, i0⟩, iB⟩ := hI
  refine ⟨⟨?_, ?_, ?_, ?_⟩, ?_⟩
  · rw [lay_row _ _ _ (by decide) (by decide) (by decide)]; exact i3
  · rw [lay_row _ _ _ (by decide) (by decide) (by decide)]; exact i2
  · rw [lay_row _ _ _ (by decide) (by decide) (by decide)]; exact i4
  · exact lay_0 i0 hv
  · rw [lay_row _ _ _ (by decide) (by decide) (by decide), lay_row _ _ _ (by decide) (by decide) (by decide)]; exact iB
/-- a line may become dirty where it is, or where the allowance bears it -/
theorem Inv_dirt {G : St} (hI : Inv G) (l : Nat) : Inv (s2 G 2 l 2) := by
  obtain ⟨⟨i3, i2, i4, i0⟩, iB⟩ := hI
  refine ⟨⟨?_, ?_, ?_, ?_⟩, ?_⟩
  · rw [s2_row _ (by decide)]; exact i3
  · rw [s2_ap, if_pos rfl]; exact vN_upd i2 (vN_lit 2 (by decide))
  · rw [s2_row _ (by decide)]; exact i4
  · rw [s2_row _ (by decide)]; exact i0
  · rw [s2_row _ (by decide), s2_row _ (by decide)]; exact iB
theorem NoD_dirt {G : St} (hN : NoD G) {l : Nat} (hl : l < 8) (h : G 2 l = 2 ∨ nofI G 2 < alwI G) : NoD (s2 G 2 l 2) := by
  unfold NoD IC
  rw [s2_row _ (by decide)]
  rcases hN with w | w
  · exact Or.inl w
  · rcases h with q | q
    · exact absurd q (w l hl)
    · by_cases z : G 6 2 = 0
      · exact Or.inl z
      · rw [nof_mN] at q
        unfold alwI at q
        rw [if_neg z] at q
        exact absurd q (by
          intro q2
          have h3 := mN_le G 2
          have := (nI_ltI (a := mN G 2) (b := 0) (by omega) (by decide)).mp q2
          omega)
theorem NoD_of {G G2 : St} (h : NoD G) (h2 : G2 2 = G 2) (h6 : G2 6 = G 6) : NoD G2 := by
  unfold NoD
  rw [h2, h6]
  exact h
theorem NoD_lin {G : St} (h : NoD G) {l p : Nat} (hl : l < 8) (hp : p < 64) : NoD (linG G (nI l) (nI p)) := by
  rw [lin_yes G hl hp]
  unfold NoD IC
  rw [s2_row _ (a := 6) (by decide), s2_row _ (a := 6) (by decide), s2_row _ (a := 6) (by decide), s2_row _ (a := 2) (by decide), s2_row _ (a := 2) (by decide), s2_ap, if_pos rfl]
  rcases h with w | w
  · exact Or.inl w
  · refine Or.inr (fun j hj => ?_)
    unfold upd
    by_cases q : j = l
    · rw [if_pos q]; decide
    · rw [if_neg q]; exact w j hj
theorem NoD_trn {G : St} (h : NoD G) {l : Nat} (hl : l < 8) : NoD (trnG G (nI l)) := by
  rw [trn_yes G hl]
  refine NoD_of h ?_ ?_ <;> rw [s2_row _ (by decide), s2_row _ (by decide)]
theorem NoD_lnf {G : St} (hI : Inv G) (h : NoD G) {p : Nat} (hp : p < 64) : NoD (lnfG G (nI p)) := by
  unfold lnfG lnf1 lnfI
  rcases hld_cases G (nI p) with e | ⟨l, hl, e, -, -⟩
  · rw [e, if_neg (rg_m1 8), if_neg (rg_m1 8)]
    obtain ⟨l, hl, e2⟩ := tak_ex (Inv_mis hI)
    rw [e2]
    exact NoD_trn (NoD_lin (NoD_flu (NoD_of h (mis_row G (by decide)) (mis_row G (by decide))) _) hl hp) hl
  · rw [e, if_pos (rg_nI (n := 8) (b := 8) rfl hl (by decide)), if_pos (rg_nI (n := 8) (b := 8) rfl hl (by decide))]
    exact NoD_trn (NoD_of h (s2_row _ (by decide) _ _) (s2_row _ (by decide) _ _)) hl
theorem wp1_eq {G : St} {p l : Nat} {v : Int32} (hl : l < 8) (e : lnfI G (nI p) = nI l) : wp1 G (nI p) v = s2 (lnfG G (nI p)) 4 l v := by
  unfold wp1
  rw [e, ix_nI (by omega)]
theorem wpt_ok {G : St} (hI : Inv G) {p : Nat} (hp : p < 64) {v : Int32} (hv : vN 999 v) : Inv (wp1 G (nI p) v) ∧ Inv (wptG G (nI p) v) := by
  obtain ⟨l, hl, e, h1⟩ := lnf_ok hI hp
  have hw : Inv (wp1 G (nI p) v) := by
    rw [wp1_eq hl e]
    exact Inv_val h1 l hv
  refine ⟨hw, ?_⟩
  unfold wptG
  have hr : rg (nI l) 8 = true := rg_nI (n := 8) (b := 8) rfl hl (by decide)
  rw [e, if_neg (fun q => q hr), ix_nI (by omega)]
  by_cases q : wp1 G (nI p) v 2 l = 2 ∨ nofI (wp1 G (nI p) v) 2 < alwI (wp1 G (nI p) v)
  · rw [if_pos q]; exact Inv_dirt hw l
  · rw [if_neg q]; exact Inv_s7 (Inv_lay hw _ hv) _ _
theorem NoD_wpt {G : St} (hI : Inv G) (hN : NoD G) {p : Nat} (hp : p < 64) (v : Int32) : NoD (wptG G (nI p) v) := by
  obtain ⟨l, hl, e, h1⟩ := lnf_ok hI hp
  have hw : NoD (wp1 G (nI p) v) := by
    rw [wp1_eq hl e]
    exact NoD_of (NoD_lnf hI hN hp) (s2_row _ (by decide) _ _) (s2_row _ (by decide) _ _)
  unfold wptG
  have hr : rg (nI l) 8 = true := rg_nI (n := 8) (b := 8) rfl hl (by decide)
  rw [e, if_neg (fun q => q hr), ix_nI (by omega)]
  by_cases q : wp1 G (nI p) v 2 l = 2 ∨ nofI (wp1 G (nI p) v) 2 < alwI (wp1 G (nI p) v)
  · rw [if_pos q]; exact NoD_dirt hw hl q
  · rw [if_neg q]
    exact NoD_of hw (by rw [s2_row _ (by decide), lay_row _ _ _ (by decide) (by decide) (by decide)]) (by rw [s2_row _ (by decide), lay_row _ _ _ (by decide) (by decide) (by decide)])
