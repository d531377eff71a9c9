/-! ===== counting and looking: the reference's words and the class's are the same numbers ===== -/
theorem cnt_ext {P Q : Nat → Prop} [DecidablePred P] [DecidablePred Q] (n : Nat) (h : ∀ j, j < n → (P j ↔ Q j)) : cntN P n = cntN Q n := by
  induction n with
  | zero => rfl
  | succ n ih =>
    unfold cntN
    rw [ih (fun j q => h j (Nat.lt_succ_of_lt q))]
    by_cases c : P n
    · rw [if_pos c, if_pos ((h n (Nat.lt_succ_self n)).mp c)]
    · rw [if_neg c, if_neg (fun z => c ((h n (Nat.lt_succ_self n)).mpr z))]
theorem k_lt1 {x : Int32} (h : vN 2 x) : (¬ x < 1 ↔ ¬ x = 0) := by
  rcases kinds h with z | z | z <;> (rw [z]; decide)
theorem k_lt2 {x : Int32} (h : vN 2 x) : (¬ x < 2 ↔ x = 2) := by
  rcases kinds h with z | z | z <;> (rw [z]; decide)
theorem lah_1 {G : St} (hI : Inv G) {l : Nat} (hl : l < 8) : nI (cntN (fun j => ¬ G 2 j = 0 ∧ G 5 j < G 5 l) 8) = lahI G (nI l) 1 := by
  unfold lahI
  rw [if_pos (rg_nI (n := 8) (b := 8) rfl hl (by decide)), ix_nI (by omega)]
  exact congrArg nI (cnt_ext 8 (fun j _ => and_congr (k_lt1 (hI.1.2.1 j)).symm Iff.rfl))
theorem lah_2 {G : St} (hI : Inv G) {l : Nat} (hl : l < 8) : nI (cntN (fun j => G 2 j = 2 ∧ G 5 j < G 5 l) 8) = lahI G (nI l) 2 := by
  unfold lahI
  rw [if_pos (rg_nI (n := 8) (b := 8) rfl hl (by decide)), ix_nI (by omega)]
  exact congrArg nI (cnt_ext 8 (fun j _ => and_congr (k_lt2 (hI.1.2.1 j)).symm Iff.rfl))
theorem or0 (x : Int32) : x ||| 0 = x := by simp
theorem neg0 (x : Int32) : 0 - x = -x := by simp
theorem ab_lt {x : Int32} (h : x < 0) : abI x = -x := by
  unfold abI
  rw [if_neg (fun z => Int32.not_lt.mpr z h), neg0]
theorem ab_ge {x : Int32} (h : ¬ x < 0) : abI x = x := by
  unfold abI
  rw [if_pos (Int32.not_lt.mp h)]
theorem lin_eq {G : St} {x : Int32} (h : wth x 0 3 = true) (h3 : ¬ x = 3) : setI G x = linI G x := by
  obtain ⟨n, hn, rfl⟩ := wth_vN (n := 3) (by decide) rfl (by decide) h
  unfold linI
  match n, hn with
  | 0, _ => rw [if_pos (by decide)]; rfl
  | 1, _ => rw [if_neg (by decide), if_pos (by decide)]; rfl
  | 2, _ => rw [if_neg (by decide), if_neg (by decide), if_pos (by decide)]; rfl
  | 3, _ => exact absurd rfl h3
theorem lin_no {G : St} {x : Int32} (h : ¬ wth x 0 3 = true) : -1000001 = linI G x := by
  unfold linI
  rw [if_neg (fun z => h (by rw [z]; decide)), if_neg (fun z => h (by rw [z]; decide)), if_neg (fun z => h (by rw [z]; decide)), if_neg (fun z => h (by rw [z]; decide))]
theorem lin_3 (G : St) {x : Int32} (h : x = 3) : losI G = linI G x := by
  unfold linI
  rw [h, if_neg (by decide), if_neg (by decide), if_neg (by decide), if_pos rfl]
theorem mN_row {G G2 : St} (h2 : G2 2 = G 2) (k : Int32) : mN G2 k = mN G k := by
  unfold mN
  rw [h2]
theorem wf_eq (G : St) (x : Int32) : tooI (useG G x) = wfI G x := by
  unfold tooI wfI
  rw [nof_mN, nof_mN, mN_row (use_row G x (a := 2) (by decide))]
-- the smallest load that would flush
theorem sN_lt {c k a n : Nat} (ha : 1 ≤ a) (hn : n ≤ 8) (hn1 : 1 ≤ n) : sN c k a < n ↔ c < k + n * a := by
  unfold sN
  by_cases q : c < k
  · rw [if_pos q]
    constructor
    · intro _; omega
    · intro _; omega
  · rw [if_neg q]
    have h : (c - k) / a < n ↔ c - k < n * a := Nat.div_lt_iff_lt_mul (by omega)
    constructor
    · intro z
      have h3 : (c - k) / a < n := by omega
      have := h.mp h3
      omega
    · intro z
      have := h.mpr (by omega)
      omega
theorem alw_use {G : St} {c a k i : Nat} (hc : c ≤ 1000) (ha1 : 1 ≤ a) (ha : a ≤ 500) (hk : k ≤ 500) (e0 : G 6 0 = nI c) (e1 : G 8 0 = nI a) (e2 : G 8 1 = nI k) (h62 : G 6 2 = 0) (hi : i ≤ 100000) : alwI (useG G (nI i)) = nI (sN (c - i) k a) := by
  unfold alwI
  rw [use_6 _ _ (by decide), if_pos h62]
  exact savI_nI (by omega) ha1 ha hk (by rw [use_60, e0, maI_sub (by omega) (by omega)]) (by rw [use_row _ _ (by decide)]; exact e1) (by rw [use_row _ _ (by decide)]; exact e2)
theorem spa_nI {G : St} {c a k : Nat} (hc : c ≤ 1000) (ha : a ≤ 500) (hk : k ≤ 500) (e0 : G 6 0 = nI c) (e1 : G 8 0 = nI a) (e2 : G 8 1 = nI k) : spaI G = nI (c - (k + mN G 2 * a)) := by
  have h1 := mN_le G 2
  have hm : mN G 2 * a ≤ 8 * 500 := Nat.mul_le_mul h1 ha
  unfold spaI
  rw [nof_mN, cosI_nI e1 e2, e0, maI_sub (by omega) (by omega)]
def spN (G : St) : Nat := ix (spaI G)
theorem wf_pos {G : St} (hI : Inv G) (hN : NoD G) {i : Nat} (h1 : 1 ≤ i) (hi : i ≤ 999) : 0 < wfI G (nI i) ↔ (0 < mN G 2 ∧ spN G < i) := by
  have hle := mN_le G 2
  have hIu : Inv (useG G (nI i)) := Inv_use hI ⟨i, by omega, rfl⟩
  obtain ⟨b, hb, eb⟩ := alw_ex hIu
  have ew : wfI G (nI i) = nI (mN G 2 - b) := by
    rw [← wf_eq, too_a hb eb, mN_row (use_row G (nI i) (a := 2) (by decide))]
  rw [ew]
  by_cases hm : mN G 2 = 0
  · constructor
    · intro z
      have := nI_posI (by omega) z
      omega
    · intro z
      omega
  · have h62 : G 6 2 = 0 := by
      rcases hN with z | z
      · exact z
      · exact absurd (cnt_zero _ 8 z) hm
    obtain ⟨-, ⟨c, hc, e0⟩, -, -, ⟨a, ha1, ha, e1⟩, ⟨k, hk, e2⟩, -⟩ := hI
    have es := alw_use (i := i) hc ha1 ha hk e0 e1 e2 h62 (by omega)
    have hs8 := sN_le (c - i) k a
    have hbs : b = sN (c - i) k a := by
      have z : nI b = nI (sN (c - i) k a) := eb.symm.trans es
      exact (nI_eq (by omega) (by omega)).mp z
    have hsp : spN G = c - (k + mN G 2 * a) := by
      unfold spN
      rw [spa_nI hc ha hk e0 e1 e2, ix_nI (by omega)]
    have hl := sN_lt (c := c - i) (k := k) (a := a) (n := mN G 2) ha1 hle (by omega)
    have hma : 1 ≤ mN G 2 * a := Nat.mul_pos (by omega) (by omega)
    rw [hsp]
    constructor
    · intro z
      have z1 := nI_posI (by omega) z
      have z2 := hl.mp (by omega)
      exact ⟨by omega, by omega⟩
    · intro z
      have z2 := hl.mpr (by omega)
      exact (nI_ltI (a := 0) (by decide) (by omega)).mpr (by omega)
theorem sp_le {G : St} (hI : Inv G) : spN G ≤ 1000 ∧ spaI G = nI (spN G) := by
  obtain ⟨-, ⟨c, hc, e0⟩, -, -, ⟨a, ha1, ha, e1⟩, ⟨k, hk, e2⟩, -⟩ := hI
  unfold spN
  rw [spa_nI hc ha hk e0 e1 e2, ix_nI (by omega)]
  exact ⟨by omega, rfl⟩
theorem cri_y {G : St} (hI : Inv G) {i : Nat} (hi : i ≤ 999) (h0 : 0 < mN G 2) (h1 : spN G < i) (h2 : i ≤ spN G + 1) : nI i = criI G := by
  have hle := mN_le G 2
  obtain ⟨hs, es⟩ := sp_le hI
  unfold criI
  rw [nof_mN, if_pos (show 0 < nI (mN G 2) from (nI_ltI (a := 0) (by decide) (by omega)).mpr h0), es, if_pos (show nI (spN G) < 999 from (nI_ltI (b := 999) (by omega) (by decide)).mpr (by omega))]
  exact (congrArg nI (show i = spN G + 1 by omega)).trans (nI_add (spN G) 1).symm
theorem cri_n {G : St} (hI : Inv G) (h : 0 < mN G 2 → 1000 ≤ spN G + 1) : -1000004 = criI G := by
  have hle := mN_le G 2
  obtain ⟨hs, es⟩ := sp_le hI
  unfold criI
  rw [nof_mN]
  by_cases q : 0 < nI (mN G 2)
  · have q2 := nI_posI (by omega) q
    have q3 := h q2
    rw [if_pos q, es, if_neg (fun z => by have := (nI_ltI (b := 999) (by omega) (by decide)).mp z; omega)]
  · rw [if_neg q]
-- ticks of the battery alone
theorem fls_row (G : St) {a : Nat} (h0 : ¬ a = 0) (h1 : ¬ a = 1) (h2 : ¬ a = 2) (h7 : ¬ a = 7) (n : Nat) : flsG G n a = G a := by
  induction n with
  | zero => rfl
  | succ n ih =>
    unfold flsG
    rw [flu_row _ _ h0 h1 h2 h7, ih]
theorem tk_cong {G G2 : St} (h6 : G2 6 = G 6) (h8 : G2 8 = G 8) : tkG G2 6 = tkG G 6 := by
  simp only [tkG, falG, r6, useG, chgI, capI, s2_ap, h6, h8]
theorem tk0_6 (G : St) : tk0 G 6 = tkG G 6 := by
  unfold tk0
  have h : tkG (tcG G) 6 = tkG G 6 := tk_cong (s2_row _ (by decide) _ _) (s2_row _ (by decide) _ _)
  by_cases q : endB (tcG G) = true
  · rw [if_pos q, s2_row _ (by decide)]; exact h
  · rw [if_neg q]; exact h
theorem tk0_8 (G : St) : tk0 G 8 = G 8 := by
  unfold tk0
  have h : tkG (tcG G) 8 = G 8 := by rw [tk_row _ (by decide)]; exact s2_row _ (by decide) _ _
  by_cases q : endB (tcG G) = true
  · rw [if_pos q, s2_row _ (by decide)]; exact h
  · rw [if_neg q]; exact h
theorem tks_tkb (G : St) (i : Nat) : tksG G i 6 = tkbG G i 6 ∧ tksG G i 8 = tkbG G i 8 := by
  induction i with
  | zero => exact ⟨rfl, rfl⟩
  | succ i ih =>
    unfold tksG tkbG tk1
    refine ⟨?_, ?_⟩
    · rw [fls_row _ (by decide) (by decide) (by decide) (by decide), tk0_6]
      exact tk_cong ih.1 ih.2
    · rw [fls_row _ (by decide) (by decide) (by decide) (by decide), tk0_8, tk_row _ (by decide)]
      exact ih.2
theorem alw_tkb (G : St) (i : Nat) : alwI (tksG G i) = alwI (tkbG G i) := alw_row (tks_tkb G i).1 (tks_tkb G i).2
theorem tks_d {G : St} (hI : Inv G) (i : Nat) : ∃ m, m ≤ 8 * i ∧ tksG G i 7 3 - G 7 3 = nI m := by
  induction i with
  | zero => exact ⟨0, by omega, by show G 7 3 - G 7 3 = _; rw [Int32.sub_self]; rfl⟩
  | succ i ih =>
    obtain ⟨m, hm, e⟩ := ih
    have hIi := Inv_tk0 (Inv_tks hI i)
    obtain ⟨b, hb, eb⟩ := alw_ex hIi
    have h8 := mN_le (tk0 (tksG G i)) 2
    refine ⟨m + (mN (tk0 (tksG G i)) 2 - b), by omega, ?_⟩
    show tk1 (tksG G i) 7 3 - G 7 3 = _
    rw [tk1_73 (Inv_tks hI i), ← i32_ring, e, too_a hb eb, nI_add]
