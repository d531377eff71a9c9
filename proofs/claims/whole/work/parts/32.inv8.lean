/-! ===== the nearest pair ===== -/
theorem ab_all : ∀ a : Fin 64, ∀ b : Fin 64, abI (nI a.val - nI b.val) = nI (if a.val < b.val then b.val - a.val else a.val - b.val) := by decide +kernel
theorem ab_63 {x z : Int32} (hx9 : vN 63 x) (hz9 : vN 63 z) : ∃ m, m ≤ 63 ∧ abI (x - z) = nI m := by
  obtain ⟨a, ha, rfl⟩ := hx9
  obtain ⟨b, hb9, rfl⟩ := hz9
  refine ⟨_, ?_, ab_all ⟨a, by omega⟩ ⟨b, by omega⟩⟩
  show (if a < b then b - a else a - b) ≤ 63
  by_cases q : a < b
  · rw [if_pos q]; omega
  · rw [if_neg q]; omega
theorem lt_all : ∀ a : Fin 65, ∀ b : Fin 65, (nI a.val - nI b.val < 0 ↔ a.val < b.val) ∧ (nI a.val - nI b.val = 0 ↔ a.val = b.val) := by decide +kernel
theorem lt_64 {a b : Nat} (ha : a ≤ 64) (hb : b ≤ 64) : (nI a - nI b < 0 ↔ a < b) ∧ (nI a - nI b = 0 ↔ a = b) := lt_all ⟨a, by omega⟩ ⟨b, by omega⟩
theorem dtd_cases {G : St} (hI : Inv G) {l : Nat} (hl : l < 8) (n : Nat) (hn : n ≤ 8) : (∃ m, m ≤ 63 ∧ dtdF G (nI l) n = nI m ∧ ∃ j, j < n ∧ ¬ j = l ∧ G 2 j = 2) ∨ (dtdF G (nI l) n = nI 64 ∧ ∀ j, j < n → ¬ (¬ j = l ∧ G 2 j = 2)) := by
  induction n with
  | zero => exact Or.inr ⟨rfl, fun j h => absurd h (Nat.not_lt_zero j)⟩
  | succ n ih =>
    unfold dtdF
    by_cases q : ¬ nI n = nI l ∧ G 2 n = 2
    · left
      have hnl : ¬ n = l := fun z => q.1 (congrArg nI z)
      rw [if_pos q]
      obtain ⟨m2, hm2, e2⟩ := ab_63 (hI.1.1 n) (hI.1.1 (ix (nI l)))
      rw [e2]
      rcases ih (by omega) with ⟨m, hm, e, -⟩ | ⟨e, -⟩
      · exact ⟨min m m2, by omega, by rw [e, miI_nI (by omega) (by omega)], n, by omega, hnl, q.2⟩
      · exact ⟨min 64 m2, by omega, by rw [e, miI_nI (by omega) (by omega)], n, by omega, hnl, q.2⟩
    · rw [if_neg q]
      rcases ih (by omega) with ⟨m, hm, e, j, hj, hj2⟩ | ⟨e, h⟩
      · exact Or.inl ⟨m, hm, e, j, by omega, hj2⟩
      · refine Or.inr ⟨e, fun j hj => ?_⟩
        rcases Nat.lt_or_ge j n with r | r
        · exact h j r
        · have hjn : j = n := by omega
          rw [hjn]
          exact fun z => q ⟨fun y => z.1 ((nI_eq (by omega) (by omega)).mp y), z.2⟩
theorem cnt_one (P : Nat → Prop) [DecidablePred P] (l n : Nat) (h : ∀ j, j < n → P j → j = l) : cntN P n ≤ 1 := by
  induction n with
  | zero => exact Nat.zero_le _
  | succ n ih =>
    unfold cntN
    by_cases q : P n
    · have hnl := h n (by omega) q
      rw [if_pos q, cnt_zero P n (fun j hj z => by have := h j (by omega) z; omega)]
      omega
    · rw [if_neg q]
      exact ih (fun j hj => h j (by omega))
theorem cnt_two (P : Nat → Prop) [DecidablePred P] {a b : Nat} (n : Nat) (ha : a < n) (hb : b < n) (hab : ¬ a = b) (pa : P a) (pb : P b) : 2 ≤ cntN P n := by
  induction n with
  | zero => exact absurd ha (Nat.not_lt_zero a)
  | succ n ih =>
    unfold cntN
    by_cases q : P n
    · rw [if_pos q]
      have h1 : ¬ cntN P n = 0 := fun z => by
        rcases Nat.lt_or_ge a n with r | r
        · exact cnt_zero_no P n z a r pa
        · exact cnt_zero_no P n z b (by omega) pb
      omega
    · rw [if_neg q]
      have h1 : ¬ a = n := fun z => q (z ▸ pa)
      have h2 : ¬ b = n := fun z => q (z ▸ pb)
      exact ih (by omega) (by omega)
theorem dtd_lt {G : St} (hI : Inv G) (h2 : ¬ mN G 2 < 2) {l : Nat} (hl : l < 8) (hd : G 2 l = 2) : ∃ m, m ≤ 63 ∧ dtdF G (nI l) 8 = nI m := by
  rcases dtd_cases hI hl 8 (by omega) with ⟨m, hm, e, -⟩ | ⟨-, h⟩
  · exact ⟨m, hm, e⟩
  · have h1 : mN G 2 ≤ 1 := cnt_one _ l 8 (fun j hj z => by
      by_cases y : j = l
      · exact y
      · exact absurd ⟨y, z⟩ (h j hj))
    omega
theorem dis_eq {G : St} {i : Nat} (hi : i < 8) (hd : G 2 i = 2) : disI G i = dtdF G (nI i) 8 := by
  unfold disI dtdI
  rw [if_pos hd, if_pos (rg_nI (n := 8) (b := 8) rfl hi (by decide))]
theorem npr_st (G : St) (i : Nat) : nprF G (i + 1) = if disI G i < (nprF G i).2 ∨ (disI G i = (nprF G i).2 ∧ rg (nprF G i).1 8 = true ∧ G 5 i < G 5 (ix (nprF G i).1)) then (nI i, disI G i) else nprF G i := rfl
theorem npr_few {G : St} (hI : Inv G) (h2 : mN G 2 < 2) (i : Nat) (hi : i ≤ 8) : nprF G i = (-1, nI 64) := by
  induction i with
  | zero => rfl
  | succ i ih =>
    have e := ih (by omega)
    have hd : disI G i = nI 64 := by
      by_cases q : G 2 i = 2
      · rw [dis_eq (by omega) q]
        rcases dtd_cases hI (show i < 8 by omega) 8 (by omega) with ⟨m, hm, e, j, hj, hj2, hj3⟩ | ⟨e, -⟩
        · have := cnt_two (fun j => G 2 j = 2) 8 (show i < 8 by omega) hj (fun z => hj2 z.symm) q hj3
          exact absurd h2 (Nat.not_lt.mpr this)
        · exact e
      · unfold disI
        rw [if_neg q]
        rfl
    rw [npr_st, e, hd]
    refine if_neg (fun z => ?_)
    rcases z with z | ⟨-, z, -⟩
    · exact i32_irr _ z
    · exact rg_m1 8 z
theorem npr_inv {G : St} (hI : Inv G) (h2 : ¬ mN G 2 < 2) (i : Nat) (hi : i ≤ 8) : ((nprF G i).1 = -1 ∧ (nprF G i).2 = nI 64 ∧ ∀ j, j < i → ¬ G 2 j = 2) ∨ ∃ l m, l < 8 ∧ G 2 l = 2 ∧ (nprF G i).1 = nI l ∧ m ≤ 63 ∧ (nprF G i).2 = nI m ∧ dtdF G (nI l) 8 = nI m := by
  induction i with
  | zero => exact Or.inl ⟨rfl, rfl, fun j h => absurd h (Nat.not_lt_zero j)⟩
  | succ i ih =>
    rw [npr_st]
    by_cases q : disI G i < (nprF G i).2 ∨ (disI G i = (nprF G i).2 ∧ rg (nprF G i).1 8 = true ∧ G 5 i < G 5 (ix (nprF G i).1))
    · rw [if_pos q]
      right
      by_cases hd : G 2 i = 2
      · obtain ⟨m, hm, e⟩ := dtd_lt hI h2 (show i < 8 by omega) hd
        exact ⟨i, m, by omega, hd, rfl, hm, (dis_eq (by omega) hd).trans e, e⟩
      · have hdi : disI G i = nI 64 := by unfold disI; rw [if_neg hd]; rfl
        rw [hdi] at q
        rcases ih (by omega) with ⟨e1, e2, -⟩ | ⟨l, m, hl, hl2, e1, hm, e2, e3⟩
        · rw [e1, e2] at q
          rcases q with z | ⟨-, z, -⟩
          · exact absurd z (i32_irr _)
          · exact absurd z (rg_m1 8)
        · rw [e2] at q
          rcases q with z | ⟨z, -⟩
          · have := (nI_ltI (by omega) (by omega)).mp z; omega
          · have := (nI_eq (by omega) (by omega)).mp z; omega
    · rw [if_neg q]
      rcases ih (by omega) with ⟨e1, e2, h⟩ | h
      · refine Or.inl ⟨e1, e2, fun j hj hd => ?_⟩
        rcases Nat.lt_or_ge j i with r | r
        · exact h j r hd
        · have hji : j = i := by omega
          subst hji
          obtain ⟨m, hm, e⟩ := dtd_lt hI h2 (show j < 8 by omega) hd
          exact q (Or.inl (by rw [dis_eq (by omega) hd, e, e2]; exact (nI_ltI (by omega) (by omega)).mpr (by omega)))
      · exact Or.inr h
theorem npr_no {G : St} (hI : Inv G) (h2 : ¬ mN G 2 < 2) {i : Nat} (hi : i < 8) (hd : ¬ G 2 i = 2) : (nprF G i).1 = (nprF G (i + 1)).1 := by
  have hdi : disI G i = nI 64 := by unfold disI; rw [if_neg hd]; rfl
  rw [npr_st, hdi, if_neg]
  rcases npr_inv hI h2 i (by omega) with ⟨e1, e2, -⟩ | ⟨l, m, hl, hl2, e1, hm, e2, e3⟩
  · rw [e1, e2]
    intro q
    rcases q with z | ⟨-, z, -⟩
    · exact absurd z (i32_irr _)
    · exact absurd z (rg_m1 8)
  · rw [e2]
    intro q
    rcases q with z | ⟨z, -⟩
    · have := (nI_ltI (by omega) (by omega)).mp z; omega
    · have := (nI_eq (by omega) (by omega)).mp z; omega
theorem npr_first {G : St} (hI : Inv G) (h2 : ¬ mN G 2 < 2) {i : Nat} (hi : i < 8) (hd : G 2 i = 2) (e : (nprF G i).1 = -1) : nI i = (nprF G (i + 1)).1 := by
  rw [npr_st, if_pos]
  rcases npr_inv hI h2 i (by omega) with ⟨e1, e2, -⟩ | ⟨l, m, hl, hl2, e1, hm, e2, e3⟩
  · obtain ⟨m, hm, ed⟩ := dtd_lt hI h2 hi hd
    exact Or.inl (by rw [dis_eq hi hd, ed, e2]; exact (nI_ltI (by omega) (by omega)).mpr (by omega))
  · exact absurd (e1.symm.trans e) (nI_nm1 (by omega))
theorem npr_some {G : St} (hI : Inv G) (h2 : ¬ mN G 2 < 2) {i : Nat} (hi : i ≤ 8) (e : ¬ (nprF G i).1 = -1) : ∃ l m, l < 8 ∧ G 2 l = 2 ∧ (nprF G i).1 = nI l ∧ m ≤ 63 ∧ (nprF G i).2 = nI m ∧ dtdF G (nI l) 8 = nI m := (npr_inv hI h2 i hi).resolve_left (fun z => e z.1)
theorem npr_8 {G : St} (hI : Inv G) (h2 : ¬ mN G 2 < 2) : ∃ l m, l < 8 ∧ G 2 l = 2 ∧ (nprF G 8).1 = nI l ∧ m ≤ 63 ∧ (nprF G 8).2 = nI m ∧ dtdF G (nI l) 8 = nI m := by
  refine (npr_inv hI h2 8 (Nat.le_refl _)).resolve_left (fun z => ?_)
  obtain ⟨l, hl, e⟩ := cnt_pos (fun j => G 2 j = 2) 8 (show 0 < mN G 2 by omega)
  exact z.2.2 l hl e
theorem npr_lt {G : St} {i a b : Nat} (hi : i < 8) (hd : G 2 i = 2) (ed : dtdF G (nI i) 8 = nI a) (e2 : (nprF G i).2 = nI b) (ha : a ≤ 63) (hb : b ≤ 63) (h : nI a - nI b < 0) : nI i = (nprF G (i + 1)).1 := by
  rw [npr_st, if_pos]
  exact Or.inl (by rw [dis_eq hi hd, ed, e2]; exact (nI_ltI (by omega) (by omega)).mpr ((lt_64 (by omega) (by omega)).1.mp h))
theorem npr_ge {G : St} {i a b : Nat} (hi : i < 8) (hd : G 2 i = 2) (ed : dtdF G (nI i) 8 = nI a) (e2 : (nprF G i).2 = nI b) (ha : a ≤ 63) (hb : b ≤ 63) (h : ¬ nI a - nI b < 0) (h0 : ¬ nI a - nI b = 0) : (nprF G i).1 = (nprF G (i + 1)).1 := by
  rw [npr_st, if_neg]
  rw [dis_eq hi hd, ed, e2]
  intro q
  rcases q with z | ⟨z, -⟩
  · exact h ((lt_64 (by omega) (by omega)).1.mpr ((nI_ltI (by omega) (by omega)).mp z))
  · exact h0 ((lt_64 (by omega) (by omega)).2.mpr ((nI_eq (by omega) (by omega)).mp z))
theorem npr_ey {G : St} {i a b l : Nat} (hi : i < 8) (hd : G 2 i = 2) (ed : dtdF G (nI i) 8 = nI a) (e2 : (nprF G i).2 = nI b) (ha : a ≤ 63) (hb : b ≤ 63) (h0 : nI a - nI b = 0) (hl : l < 8) (e1 : (nprF G i).1 = nI l) (ht : G 5 i < G 5 l) : nI i = (nprF G (i + 1)).1 := by
  have hab := (lt_64 (a := a) (b := b) (by omega) (by omega)).2.mp h0
  rw [npr_st, if_pos]
  exact Or.inr ⟨by rw [dis_eq hi hd, ed, e2, hab], by rw [e1]; exact rg_nI (n := 8) (b := 8) rfl hl (by decide), by rw [e1, ix_nI (by omega)]; exact ht⟩
theorem npr_en {G : St} {i a b l : Nat} (hi : i < 8) (hd : G 2 i = 2) (ed : dtdF G (nI i) 8 = nI a) (e2 : (nprF G i).2 = nI b) (ha : a ≤ 63) (hb : b ≤ 63) (h0 : nI a - nI b = 0) (hl : l < 8) (e1 : (nprF G i).1 = nI l) (ht : ¬ G 5 i < G 5 l) : (nprF G i).1 = (nprF G (i + 1)).1 := by
  have hab := (lt_64 (a := a) (b := b) (by omega) (by omega)).2.mp h0
  rw [npr_st, if_neg]
  intro q
  rcases q with z | ⟨-, -, z⟩
  · rw [dis_eq hi hd, ed, e2, hab] at z
    exact i32_irr _ z
  · rw [e1, ix_nI (by omega)] at z
    exact ht z
theorem par_no {G : St} {k : Int32} (h : ¬ wth k 0 1 = true) : -1000001 = parI G k := by
  unfold parI
  rw [if_neg h]
theorem par_few {G : St} (hI : Inv G) (h2 : mN G 2 < 2) {k : Int32} (h : wth k 0 1 = true) : -1000004 = parI G k := by
  unfold parI
  rw [if_pos h, npr_few hI h2 8 (Nat.le_refl _), if_neg (rg_m1 8)]
theorem par_0 {G : St} {k : Int32} (h : wth k 0 1 = true) {l : Nat} (hl : l < 8) (e : (nprF G 8).1 = nI l) (h0 : k = 0) : (nprF G 8).1 = parI G k := by
  unfold parI
  rw [if_pos h, e, if_pos (rg_nI (n := 8) (b := 8) rfl hl (by decide)), if_pos h0]
theorem par_1 {G : St} {k : Int32} (h : wth k 0 1 = true) {l : Nat} (hl : l < 8) (e : (nprF G 8).1 = nI l) (h0 : ¬ k = 0) : dtdF G (nI l) 8 = parI G k := by
  unfold parI
  rw [if_pos h, e, if_pos (rg_nI (n := 8) (b := 8) rfl hl (by decide)), if_neg h0]
  unfold dtdI
  rw [if_pos (rg_nI (n := 8) (b := 8) rfl hl (by decide))]
