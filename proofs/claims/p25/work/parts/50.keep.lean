/-! ===== what the law's loop keeps: of the state G and of the values V written last ===== -/
def QU (G : St) : Prop := ∀ i j, i < 8 → j < 8 → ¬ G 2 i = 0 → ¬ G 2 j = 0 → G 3 i = G 3 j → i = j
def QL (G : St) (V : Nat → Int32) : Prop := ∀ l, l < 8 → ¬ G 2 l = 0 → G 4 l = V (ix (G 3 l))
def QD (G : St) (V : Nat → Int32) : Prop := ∀ r, r < 64 → (∀ l, l < 8 → G 2 l = 2 → ¬ G 3 l = nI r) → G 0 r = V r
def QC (G : St) : Prop := G 7 5 = 0 ∧ G 7 8 = G 7 3 + G 7 4
def QM (G : St) (V : Nat → Int32) : Prop := Inv G ∧ QU G ∧ QL G V ∧ QD G V ∧ QC G
def QB (G : St) : Prop := ∃ c w, G 6 0 = nI c ∧ G 6 1 = nI w ∧ w ≤ 90 ∧ c ≤ 1000 - 10 * w
def QA (G : St) : Prop := ∃ a, a ≤ 8 ∧ alwI G = nI a ∧ mN G 2 ≤ a
def LI (G : St) (V : Nat → Int32) : Prop := QM G V ∧ QB G ∧ QA G
/-- what is dirty in the second was dirty in the first -/
def dS (G G2 : St) : Prop := ∀ l, l < 8 → G2 2 l = 2 → G 2 l = 2
theorem up_at (f : Nat → Int32) (i : Nat) (v : Int32) : upd f i v i = v := by unfold upd; rw [if_pos rfl]
theorem up_ne (f : Nat → Int32) {i j : Nat} (h : ¬ j = i) (v : Int32) : upd f i v j = f j := by unfold upd; rw [if_neg h]
theorem QM_of {G G2 : St} {V : Nat → Int32} (h : QM G V) (hI : Inv G2) (h0 : G2 0 = G 0) (h2 : G2 2 = G 2) (h3 : G2 3 = G 3) (h4 : G2 4 = G 4) (h75 : G2 7 5 = G 7 5) (h78 : G2 7 8 = G 7 8) (h73 : G2 7 3 = G 7 3) (h74 : G2 7 4 = G 7 4) : QM G2 V := by
  obtain ⟨-, hU, hL, hD, hC⟩ := h
  refine ⟨hI, ?_, ?_, ?_, ?_⟩
  · unfold QU; rw [h2, h3]; exact hU
  · unfold QL; rw [h2, h3, h4]; exact hL
  · unfold QD; rw [h0, h2, h3]; exact hD
  · unfold QC; rw [h75, h78, h73, h74]; exact hC
theorem QM_7 {G : St} {V : Nat → Int32} (h : QM G V) {j : Nat} (h3 : ¬ j = 3) (h4 : ¬ j = 4) (h5 : ¬ j = 5) (h8 : ¬ j = 8) (v : Int32) : QM (s2 G 7 j v) V :=
  QM_of h (Inv_s7 h.1 j v) (s2_row _ (by decide) _ _) (s2_row _ (by decide) _ _) (s2_row _ (by decide) _ _) (s2_row _ (by decide) _ _) (s2_ne _ _ (fun q => h5 q.symm) v) (s2_ne _ _ (fun q => h8 q.symm) v) (s2_ne _ _ (fun q => h3 q.symm) v) (s2_ne _ _ (fun q => h4 q.symm) v)
theorem QM_trn {G : St} {V : Nat → Int32} (h : QM G V) {l : Nat} (hl : l < 8) : QM (trnG G (nI l)) V := by
  have hI := Inv_trn h.1 hl
  rw [trn_yes G hl] at hI ⊢
  refine QM_of h hI ?_ ?_ ?_ ?_ ?_ ?_ ?_ ?_ <;> rw [s2_row _ (by decide), s2_row _ (by decide)]
theorem i32_ar (a b : Int32) : a + b + 1 = a + 1 + b := by rw [Int32.add_assoc, Int32.add_comm b 1, ← Int32.add_assoc]
-- a line is flushed
theorem flu_7 {G : St} {i j : Nat} (hi : i < 8) (h : G 2 i = 2) (h3 : ¬ j = 3) (h8 : ¬ j = 8) : fluG G (nI i) 7 j = G 7 j := by
  rw [flu_yes hi h, s2_ne _ _ h3, lay_7 _ _ _ h8, s2_row _ (by decide)]
theorem flu_78 {G : St} {i r : Nat} (hi : i < 8) (h : G 2 i = 2) (hr : r < 64) (e : G 3 i = nI r) : fluG G (nI i) 7 8 = G 7 8 + 1 := by
  rw [flu_yes hi h, s2_ne _ _ (by decide), e, lay_yes _ hr, s2_at, s2_row _ (by decide)]
theorem flu_0 {G : St} {i r : Nat} (hi : i < 8) (h : G 2 i = 2) (hr : r < 64) (e : G 3 i = nI r) : fluG G (nI i) 0 = upd (G 0) r (G 4 i) := by
  rw [flu_yes hi h, s2_row _ (by decide), e, lay_yes _ hr, s2_row _ (by decide), s2_row _ (by decide), s2_ap, if_pos rfl, s2_row _ (by decide)]
theorem QM_flu {G : St} {V : Nat → Int32} (h : QM G V) (x : Int32) : QM (fluG G x) V := by
  by_cases q : rg x 8 = true ∧ G 2 (ix x) = 2
  · obtain ⟨i, hi, rfl⟩ := rg_ex (n := 8) rfl (by decide) q.1
    have q2 := q.2
    rw [ix_nI (by omega)] at q2
    have hI := Inv_flu h.1 (nI i)
    obtain ⟨hI0, hU, hL, hD, hC⟩ := h
    obtain ⟨r0, hr0, er⟩ := hI0.1.1 i
    have e2 := flu_2 hi q2
    have e3 : fluG G (nI i) 3 = G 3 := flu_row _ _ (by decide) (by decide) (by decide) (by decide)
    have e4 : fluG G (nI i) 4 = G 4 := flu_row _ _ (by decide) (by decide) (by decide) (by decide)
    have e0 := flu_0 hi q2 (show r0 < 64 by omega) er
    have nz : ∀ a, ¬ upd (G 2) i 1 a = 0 → ¬ G 2 a = 0 := by
      intro a ka z
      by_cases c : a = i
      · rw [c, q2] at z; exact absurd z (by decide)
      · rw [up_ne _ c] at ka; exact ka z
    refine ⟨hI, ?_, ?_, ?_, ?_⟩
    · intro a b ha hb ka kb e
      rw [e3] at e
      rw [e2] at ka kb
      exact hU a b ha hb (nz a ka) (nz b kb) e
    · intro a ha ka
      rw [e2] at ka
      rw [e3, e4]
      exact hL a ha (nz a ka)
    · intro r hr hn
      rw [e0]
      by_cases c : r = r0
      · rw [c, up_at]
        have := hL i hi (by rw [q2]; decide)
        rw [this, er, ix_nI (by omega)]
      · rw [up_ne _ c]
        refine hD r hr (fun a ha ka e => ?_)
        by_cases z : a = i
        · rw [z, er] at e
          exact c ((nI_eq (by omega) (by omega)).mp e).symm
        · exact hn a ha (by rw [e2, up_ne _ z]; exact ka) (by rw [e3]; exact e)
    · refine ⟨?_, ?_⟩
      · rw [flu_7 hi q2 (by decide) (by decide)]; exact hC.1
      · rw [flu_78 hi q2 (show r0 < 64 by omega) er, flu_73 hi q2, flu_7 hi q2 (by decide) (by decide), hC.2, i32_ar]
  · rw [flu_no q]; exact h
theorem QM_fls {G : St} {V : Nat → Int32} (h : QM G V) (n : Nat) : QM (flsG G n) V := by
  induction n with
  | zero => exact h
  | succ n ih => exact QM_flu ih _
theorem dS_rf (G : St) : dS G G := fun _ _ h => h
theorem dS_tr {G G2 G3 : St} (h : dS G G2) (h2 : dS G2 G3) : dS G G3 := fun l hl k => h l hl (h2 l hl k)
theorem dS_row {G G2 : St} (h : G2 2 = G 2) : dS G G2 := fun l _ k => by rw [h] at k; exact k
theorem dS_flu (G : St) (x : Int32) : dS G (fluG G x) := by
  intro l _ k
  by_cases q : G 2 l = 2
  · exact q
  · exact absurd k (flu_le2 G x l q)
theorem dS_fls (G : St) (n : Nat) : dS G (flsG G n) := by
  induction n with
  | zero => exact dS_rf G
  | succ n ih => exact dS_tr ih (dS_flu _ _)
theorem cnt_mono {P Q : Nat → Prop} [DecidablePred P] [DecidablePred Q] (n : Nat) (h : ∀ j, j < n → P j → Q j) : cntN P n ≤ cntN Q n := by
  induction n with
  | zero => exact Nat.le_refl 0
  | succ n ih =>
    have := ih (fun j q => h j (Nat.lt_succ_of_lt q))
    unfold cntN
    by_cases c : P n
    · rw [if_pos c, if_pos (h n (Nat.lt_succ_self n) c)]; omega
    · rw [if_neg c]
      by_cases d9 : Q n
      · rw [if_pos d9]; omega
      · rw [if_neg d9]; exact this
theorem cnt_less {P Q : Nat → Prop} [DecidablePred P] [DecidablePred Q] (n : Nat) (h : ∀ j, j < n → P j → Q j) {i : Nat} (hi : i < n) (h1 : Q i) (h2 : ¬ P i) : cntN P n < cntN Q n := by
  induction n with
  | zero => exact absurd hi (Nat.not_lt_zero i)
  | succ n ih =>
    have hm := cnt_mono n (fun j q => h j (Nat.lt_succ_of_lt q))
    unfold cntN
    by_cases e : i = n
    · subst e
      rw [if_neg h2, if_pos h1]; omega
    · have := ih (fun j q => h j (Nat.lt_succ_of_lt q)) (by omega)
      by_cases c : P n
      · rw [if_pos c, if_pos (h n (Nat.lt_succ_self n) c)]; omega
      · rw [if_neg c]
        by_cases d9 : Q n
        · rw [if_pos d9]; omega
        · rw [if_neg d9]; exact this
theorem mN_dS {G G2 : St} (h : dS G G2) : mN G2 2 ≤ mN G 2 := cnt_mono 8 h
theorem QA_dS {G G2 : St} (h : QA G) (h6 : G2 6 = G 6) (h8 : G2 8 = G 8) (hd : dS G G2) : QA G2 := by
  obtain ⟨a, ha, e, hm⟩ := h
  exact ⟨a, ha, (alw_row h6 h8).trans e, Nat.le_trans (mN_dS hd) hm⟩
theorem QB_row {G G2 : St} (h : QB G) (h6 : G2 6 = G 6) : QB G2 := by unfold QB; rw [h6]; exact h
theorem LI_flu {G : St} {V : Nat → Int32} (h : LI G V) (x : Int32) : LI (fluG G x) V := by
  have r6 : fluG G x 6 = G 6 := flu_row _ _ (by decide) (by decide) (by decide) (by decide)
  exact ⟨QM_flu h.1 x, QB_row h.2.1 r6, QA_dS h.2.2 r6 (flu_row _ _ (by decide) (by decide) (by decide) (by decide)) (dS_flu G x)⟩
/-- behind the flushing of what is too many -/
theorem LI_fls {G : St} {V : Nat → Int32} (h : QM G V) (hB : QB G) : LI (flsG G (ix (tooI G))) V := by
  obtain ⟨a, ha, ea⟩ := alw_ex h.1
  refine ⟨QM_fls h _, ?_, ?_⟩
  · exact QB_row hB (fls_row G (by decide) (by decide) (by decide) (by decide) _)
  · refine ⟨a, ha, (alw_row (fls_row G (by decide) (by decide) (by decide) (by decide) _) (fls_row G (by decide) (by decide) (by decide) (by decide) _)).trans ea, ?_⟩
    rw [too_ix ha ea]
    have := (fls_facts h.1 (mN G 2 - a) (by omega)).2.2.2.1
    omega
-- a place is laid into a line that is not dirty
theorem lin_rows (G : St) {l r : Nat} (hl : l < 8) (hr : r < 64) : linG G (nI l) (nI r) 2 = upd (G 2) l 1 ∧ linG G (nI l) (nI r) 3 = upd (G 3) l (nI r) ∧ linG G (nI l) (nI r) 4 = upd (G 4) l (G 0 r) ∧ linG G (nI l) (nI r) 0 = G 0 ∧ linG G (nI l) (nI r) 7 = G 7 ∧ linG G (nI l) (nI r) 6 = G 6 ∧ linG G (nI l) (nI r) 8 = G 8 := by
  rw [lin_yes G hl hr]
  refine ⟨?_, ?_, ?_, ?_, ?_, ?_, ?_⟩
  · rw [s2_row _ (by decide), s2_row _ (by decide), s2_ap, if_pos rfl]
  · rw [s2_row _ (by decide), s2_ap, if_pos rfl, s2_row _ (by decide)]
  · rw [s2_ap, if_pos rfl, s2_row _ (by decide), s2_row _ (by decide)]
  · rw [s2_row _ (by decide), s2_row _ (by decide), s2_row _ (by decide)]
  · rw [s2_row _ (by decide), s2_row _ (by decide), s2_row _ (by decide)]
  · rw [s2_row _ (by decide), s2_row _ (by decide), s2_row _ (by decide)]
  · rw [s2_row _ (by decide), s2_row _ (by decide), s2_row _ (by decide)]
theorem QM_lin {G : St} {V : Nat → Int32} (h : QM G V) {l r : Nat} (hl : l < 8) (hr : r < 64) (hk : ¬ G 2 l = 2) (hf : ∀ j, j < 8 → ¬ G 2 j = 0 → ¬ G 3 j = nI r) : QM (linG G (nI l) (nI r)) V := by
  have hI := Inv_lin h.1 hl hr
  obtain ⟨e2, e3, e4, e0, e7, -, -⟩ := lin_rows G hl hr
  obtain ⟨hI0, hU, hL, hD, hC⟩ := h
  refine ⟨hI, ?_, ?_, ?_, ?_⟩
  · intro a b ha hb ka kb e
    rw [e3] at e
    rw [e2] at ka kb
    by_cases ca : a = l
    · by_cases cb : b = l
      · rw [ca, cb]
      · rw [ca, up_at, up_ne _ cb] at e
        rw [up_ne _ cb] at kb
        exact absurd e.symm (hf b hb kb)
    · by_cases cb : b = l
      · rw [cb, up_at, up_ne _ ca] at e
        rw [up_ne _ ca] at ka
        exact absurd e (hf a ha ka)
      · rw [up_ne _ ca, up_ne _ cb] at e
        rw [up_ne _ ca] at ka
        rw [up_ne _ cb] at kb
        exact hU a b ha hb ka kb e
  · intro a ha ka
    rw [e2] at ka
    rw [e3, e4]
    by_cases ca : a = l
    · rw [ca, up_at, up_at, ix_nI (by omega)]
      exact hD r hr (fun j hj kj => hf j hj (by rw [kj]; decide))
    · rw [up_ne _ ca, up_ne _ ca]
      rw [up_ne _ ca] at ka
      exact hL a ha ka
  · intro r1 hr1 hn
    rw [e0]
    refine hD r1 hr1 (fun j hj kj e => ?_)
    by_cases c : j = l
    · rw [c] at kj; exact hk kj
    · exact hn j hj (by rw [e2, up_ne _ c]; exact kj) (by rw [e3, up_ne _ c]; exact e)
  · unfold QC
    rw [e7]
    exact hC
-- which line holds a place
theorem hld_cs (G : St) (x : Int32) : (hldI G x = -1 ∧ ∀ l, l < 8 → ¬ G 2 l = 0 → ¬ G 3 l = x) ∨ ∃ l, l < 8 ∧ hldI G x = nI l ∧ ¬ G 2 l = 0 ∧ G 3 l = x := by
  rcases fnd_cases (fun i => ¬ G 2 i = 0 ∧ G 3 i = x) 8 0 with ⟨h, h2⟩ | ⟨l, -, h1, h2, h3⟩
  · exact Or.inl ⟨h, fun l hl k e => h2 l (Nat.zero_le l) (by omega) ⟨k, e⟩⟩
  · exact Or.inr ⟨l, by omega, h3, h2.1, h2.2⟩
theorem hld_is {G : St} (hU : QU G) {l : Nat} {x : Int32} (hl : l < 8) (k : ¬ G 2 l = 0) (e : G 3 l = x) : hldI G x = nI l := by
  rcases hld_cs G x with ⟨-, h2⟩ | ⟨l1, hl1, h1, k1, e1⟩
  · exact absurd e (h2 l hl k)
  · rw [h1, hU l1 l hl1 hl k1 k (e1.trans e.symm)]
theorem tak_no2 {G : St} (hI : Inv G) : ∃ l, l < 8 ∧ takI G = nI l ∧ ¬ fluG G (nI l) 2 l = 2 := by
  obtain ⟨l, hl, e⟩ := tak_ex hI
  refine ⟨l, hl, e, ?_⟩
  by_cases q : G 2 l = 2
  · rw [flu_2 hl q, up_at]; decide
  · exact flu_le2 G _ l q
theorem flu_nz (G : St) (x : Int32) (l : Nat) (h : ¬ fluG G x 2 l = 0) : ¬ G 2 l = 0 := by
  by_cases q : rg x 8 = true ∧ G 2 (ix x) = 2
  · obtain ⟨i, hi, rfl⟩ := rg_ex (n := 8) rfl (by decide) q.1
    have q2 := q.2
    rw [ix_nI (by omega)] at q2
    rw [flu_2 hi q2] at h
    intro z
    by_cases c : l = i
    · rw [c, q2] at z; exact absurd z (by decide)
    · rw [up_ne _ c] at h; exact h z
  · rw [flu_no q] at h; exact h
theorem flu_7all (G : St) (x : Int32) {j : Nat} (h3 : ¬ j = 3) (h8 : ¬ j = 8) : fluG G x 7 j = G 7 j := by
  by_cases q : rg x 8 = true ∧ G 2 (ix x) = 2
  · obtain ⟨i, hi, rfl⟩ := rg_ex (n := 8) rfl (by decide) q.1
    have q2 := q.2
    rw [ix_nI (by omega)] at q2
    exact flu_7 hi q2 h3 h8
  · rw [flu_no q]
theorem trn_rows (G : St) {l a : Nat} (hl : l < 8) (h5 : ¬ a = 5) (h9 : ¬ a = 9) : trnG G (nI l) a = G a := by
  rw [trn_yes G hl, s2_row _ h9, s2_row _ h5]
/-- the line that a read or a write takes -/
theorem lnf_facts {G : St} {V : Nat → Int32} (h : QM G V) {r : Nat} (hr : r < 64) : ∃ l, l < 8 ∧ lnfI G (nI r) = nI l ∧ QM (lnfG G (nI r)) V ∧ lnfG G (nI r) 3 l = nI r ∧ ¬ lnfG G (nI r) 2 l = 0 ∧ dS G (lnfG G (nI r)) ∧ lnfG G (nI r) 6 = G 6 ∧ lnfG G (nI r) 8 = G 8 ∧
    ((hldI G (nI r) = nI l ∧ lnfG G (nI r) 7 1 = G 7 1 + 1 ∧ lnfG G (nI r) 7 2 = G 7 2) ∨ (hldI G (nI r) = -1 ∧ lnfG G (nI r) 7 1 = G 7 1 ∧ lnfG G (nI r) 7 2 = G 7 2 + 1)) := by
  unfold lnfG lnf1 lnfI
  rcases hld_cs G (nI r) with ⟨e, hfree⟩ | ⟨l, hl, e, kl, el⟩
  · rw [e, if_neg (rg_m1 8), if_neg (rg_m1 8)]
    have hm : QM (misG G) V := QM_7 h (by decide) (by decide) (by decide) (by decide) _
    obtain ⟨l, hl, e2, hno⟩ := tak_no2 (Inv_mis h.1)
    rw [e2]
    have hf : QM (fluG (misG G) (nI l)) V := QM_flu hm _
    have e3 : fluG (misG G) (nI l) 3 = G 3 := (flu_row _ _ (by decide) (by decide) (by decide) (by decide)).trans (mis_row G (by decide))
    have hfr : ∀ j, j < 8 → ¬ fluG (misG G) (nI l) 2 j = 0 → ¬ fluG (misG G) (nI l) 3 j = nI r := by
      intro j hj kj
      have kj := flu_nz _ _ _ kj
      rw [mis_row G (by decide)] at kj
      rw [e3]
      exact hfree j hj kj
    have hq := QM_lin hf hl hr hno hfr
    obtain ⟨a2, a3, a4, a0, a7, a6, a8⟩ := lin_rows (fluG (misG G) (nI l)) hl hr
    refine ⟨l, hl, rfl, QM_trn hq hl, ?_, ?_, ?_, ?_, ?_, Or.inr ⟨rfl, ?_, ?_⟩⟩
    · rw [trn_rows _ hl (by decide) (by decide), a3, up_at]
    · rw [trn_rows _ hl (by decide) (by decide), a2, up_at]; decide
    · intro j hj kj
      rw [trn_rows _ hl (by decide) (by decide), a2] at kj
      by_cases c : j = l
      · rw [c, up_at] at kj; exact absurd kj (by decide)
      · rw [up_ne _ c] at kj
        have := dS_flu (misG G) (nI l) j hj kj
        rw [mis_row G (by decide)] at this
        exact this
    · rw [trn_rows _ hl (by decide) (by decide), a6, flu_row _ _ (by decide) (by decide) (by decide) (by decide), mis_row G (by decide)]
    · rw [trn_rows _ hl (by decide) (by decide), a8, flu_row _ _ (by decide) (by decide) (by decide) (by decide), mis_row G (by decide)]
    · rw [trn_rows _ hl (by decide) (by decide), a7, flu_7all _ _ (by decide) (by decide)]
      exact s2_ne _ _ (by decide) _
    · rw [trn_rows _ hl (by decide) (by decide), a7, flu_7all _ _ (by decide) (by decide)]
      exact s2_at _ _ _ _
  · rw [e, if_pos (rg_nI (n := 8) (b := 8) rfl hl (by decide)), if_pos (rg_nI (n := 8) (b := 8) rfl hl (by decide))]
    have hm : QM (s2 G 7 1 (G 7 1 + 1)) V := QM_7 h (by decide) (by decide) (by decide) (by decide) _
    refine ⟨l, hl, rfl, QM_trn hm hl, ?_, ?_, ?_, ?_, ?_, Or.inl ⟨rfl, ?_, ?_⟩⟩
    · rw [trn_rows _ hl (by decide) (by decide), s2_row _ (by decide)]; exact el
    · rw [trn_rows _ hl (by decide) (by decide), s2_row _ (by decide)]; exact kl
    · exact dS_row (by rw [trn_rows _ hl (by decide) (by decide), s2_row _ (by decide)])
    · rw [trn_rows _ hl (by decide) (by decide), s2_row _ (by decide)]
    · rw [trn_rows _ hl (by decide) (by decide), s2_row _ (by decide)]
    · rw [trn_rows _ hl (by decide) (by decide), s2_at]
    · rw [trn_rows _ hl (by decide) (by decide), s2_ne _ _ (by decide)]
theorem LI_lnf {G : St} {V : Nat → Int32} (h : LI G V) {r : Nat} (hr : r < 64) : LI (lnfG G (nI r)) V := by
  obtain ⟨l, hl, -, hq, -, -, hd, r6, r8, -⟩ := lnf_facts h.1 hr
  exact ⟨hq, QB_row h.2.1 r6, QA_dS h.2.2 r6 r8 hd⟩
theorem rdp_is {G : St} {V : Nat → Int32} (h : LI G V) {r : Nat} (hr : r < 64) : rdpI G (nI r) = V r := by
  obtain ⟨l, hl, e, hq, e3, k, -, -, -, -⟩ := lnf_facts h.1 hr
  unfold rdpI
  rw [e, if_pos (rg_nI (n := 8) (b := 8) rfl hl (by decide)), ix_nI (by omega), hq.2.2.1 l hl k, e3, ix_nI (by omega)]
theorem pof0 (G : St) {r : Nat} (hr : r < 64) : pofI G (nI r) 0 = G 0 r := by
  unfold pofI
  rw [if_pos (rg_nI (n := 64) (b := 64) rfl hr (by decide)), if_pos (by decide), if_pos rfl, ix_nI (by omega)]
theorem pof1 {G : St} {V : Nat → Int32} (h : LI G V) {r : Nat} (hr : r < 64) : pofI G (nI r) 1 = V r := by
  unfold pofI
  rw [if_pos (rg_nI (n := 64) (b := 64) rfl hr (by decide)), if_pos (by decide), if_neg (by decide), if_pos rfl]
  rcases hld_cs G (nI r) with ⟨e, hfree⟩ | ⟨l, hl, e, kl, el⟩
  · rw [e, if_neg (rg_m1 8), ix_nI (by omega)]
    exact h.1.2.2.2.1 r hr (fun l hl k => hfree l hl (by rw [k]; decide))
  · rw [e, if_pos (rg_nI (n := 8) (b := 8) rfl hl (by decide)), ix_nI (by omega), h.1.2.2.1 l hl kl, el, ix_nI (by omega)]
theorem pof2 (G : St) {r : Nat} (hr : r < 64) : pofI G (nI r) 2 = if rg (hldI G (nI r)) 8 = true then hldI G (nI r) else -1000004 := by
  unfold pofI
  rw [if_pos (rg_nI (n := 64) (b := 64) rfl hr (by decide)), if_pos (by decide), if_neg (by decide), if_neg (by decide), if_pos rfl]
theorem pof2_y {G : St} {r l : Nat} (hr : r < 64) (hl : l < 8) (e : hldI G (nI r) = nI l) : pofI G (nI r) 2 = nI l := by
  rw [pof2 G hr, e, if_pos (rg_nI (n := 8) (b := 8) rfl hl (by decide))]
theorem pof2_n {G : St} {r : Nat} (hr : r < 64) (e : hldI G (nI r) = -1) : pofI G (nI r) 2 = -1000004 := by
  rw [pof2 G hr, e, if_neg (rg_m1 8)]
