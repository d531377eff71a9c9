/-! ===== a write, time, loads, cycles and cuts keep it ===== -/
theorem QM_wr {G1 G2 : St} {V : Nat → Int32} {r : Nat} {v : Int32} {l : Nat} (h : QM G1 V) (hI : Inv G2) (hl : l < 8) (hr : r < 64) (e3l : G1 3 l = nI r) (k : ¬ G1 2 l = 0) (e2 : ∀ j, ¬ j = l → G2 2 j = G1 2 j) (k2 : G2 2 l = 2 ∨ (G2 2 l = 1 ∧ G2 0 r = v)) (e3 : G2 3 = G1 3) (e4 : G2 4 = upd (G1 4) l v) (e0 : ∀ j, ¬ j = r → G2 0 j = G1 0 j) (h7 : QC G2) : QM G2 (upd V r v) := by
  obtain ⟨hI0, hU, hL, hD, -⟩ := h
  have nz : ∀ a, ¬ G2 2 a = 0 → ¬ G1 2 a = 0 := by
    intro a ka
    by_cases c : a = l
    · rw [c]; exact k
    · rw [e2 a c] at ka; exact ka
  refine ⟨hI, ?_, ?_, ?_, h7⟩
  · intro a b ha hb ka kb e
    rw [e3] at e
    exact hU a b ha hb (nz a ka) (nz b kb) e
  · intro a ha ka
    rw [e3, e4]
    by_cases c : a = l
    · rw [c, up_at, e3l, ix_nI (by omega), up_at]
    · obtain ⟨r1, hr1, er1⟩ := hI0.1.1 a
      have hne : ¬ r1 = r := fun z => c (hU a l ha hl (nz a ka) k (by rw [er1, z, e3l]))
      have h9 := hL a ha (nz a ka)
      rw [er1, ix_nI (by omega)] at h9
      rw [up_ne _ c, er1, ix_nI (by omega), up_ne _ hne]
      exact h9
  · intro r1 hr1 hn
    by_cases c : r1 = r
    · rcases k2 with z | ⟨-, z⟩
      · exact absurd (by rw [e3, e3l, c]) (hn l hl z)
      · rw [c, z, up_at]
    · rw [e0 r1 c, up_ne _ c]
      refine hD r1 hr1 (fun a ha ka e => ?_)
      by_cases z : a = l
      · rw [z, e3l] at e
        exact c ((nI_eq (by omega) (by omega)).mp e).symm
      · exact hn a ha (by rw [e2 a z]; exact ka) (by rw [e3]; exact e)
theorem mN_dirt {f : Nat → Int32} {l : Nat} (hl : l < 8) (h : ¬ f l = 2) : cntN (fun j => upd f l 2 j = 2) 8 = cntN (fun j => f j = 2) 8 + 1 := by
  have e := cnt_upd (upd f l 2) l 2 (f l) h (up_at f l 2) 8
  rw [if_pos hl, upd_upd, ← upd_self] at e
  exact e.symm
theorem wpt_facts {G : St} {V : Nat → Int32} (h : LI G V) {r : Nat} (hr : r < 64) {v : Int32} (hv : vN 999 v) : ∃ l, l < 8 ∧ LI (wptG G (nI r) v) (upd V r v) ∧ hldI (wptG G (nI r) v) (nI r) = nI l ∧ wptG G (nI r) v 4 l = v ∧
    ((wptI G (nI r) v = 0 ∧ wptG G (nI r) v 2 l = 2) ∨ (wptI G (nI r) v = 1 ∧ wptG G (nI r) v 2 l = 1 ∧ wptG G (nI r) v 0 r = v)) ∧
    ((hldI G (nI r) = nI l ∧ wptG G (nI r) v 7 1 = G 7 1 + 1 ∧ wptG G (nI r) v 7 2 = G 7 2) ∨ (hldI G (nI r) = -1 ∧ wptG G (nI r) v 7 1 = G 7 1 ∧ wptG G (nI r) v 7 2 = G 7 2 + 1)) := by
  obtain ⟨l, hl, e, hq, e3, k, hd, r6, r8, hcnt⟩ := lnf_facts h.1 hr
  have e1 := wp1_eq (v := v) hl e
  have hI2 := (wpt_ok h.1.1 hr hv).2
  have hrg : rg (nI l) 8 = true := rg_nI (n := 8) (b := 8) rfl hl (by decide)
  have w2 : wp1 G (nI r) v 2 = lnfG G (nI r) 2 := by rw [e1, s2_row _ (by decide)]
  have w3 : wp1 G (nI r) v 3 = lnfG G (nI r) 3 := by rw [e1, s2_row _ (by decide)]
  have w4 : wp1 G (nI r) v 4 = upd (lnfG G (nI r) 4) l v := by rw [e1, s2_ap, if_pos rfl]
  have w0 : wp1 G (nI r) v 0 = lnfG G (nI r) 0 := by rw [e1, s2_row _ (by decide)]
  have w7 : wp1 G (nI r) v 7 = lnfG G (nI r) 7 := by rw [e1, s2_row _ (by decide)]
  have w6 : wp1 G (nI r) v 6 = G 6 := by rw [e1, s2_row _ (by decide)]; exact r6
  have w8 : wp1 G (nI r) v 8 = G 8 := by rw [e1, s2_row _ (by decide)]; exact r8
  obtain ⟨a, ha, ea, hm⟩ := h.2.2
  have hmd := mN_dS hd
  by_cases q : wp1 G (nI r) v 2 l = 2 ∨ nofI (wp1 G (nI r) v) 2 < alwI (wp1 G (nI r) v)
  · have eI : wptI G (nI r) v = 0 := by
      unfold wptI
      rw [e, if_neg (fun z => z hrg), ix_nI (by omega), if_pos q]
    have eG : wptG G (nI r) v = s2 (wp1 G (nI r) v) 2 l 2 := by
      unfold wptG
      rw [e, if_neg (fun z => z hrg), ix_nI (by omega), if_pos q]
    rw [eG] at hI2 ⊢
    have g2 : s2 (wp1 G (nI r) v) 2 l 2 2 = upd (lnfG G (nI r) 2) l 2 := by rw [s2_ap, if_pos rfl, w2]
    have g3 : s2 (wp1 G (nI r) v) 2 l 2 3 = lnfG G (nI r) 3 := by rw [s2_row _ (by decide), w3]
    have g4 : s2 (wp1 G (nI r) v) 2 l 2 4 = upd (lnfG G (nI r) 4) l v := by rw [s2_row _ (by decide), w4]
    have g0 : s2 (wp1 G (nI r) v) 2 l 2 0 = lnfG G (nI r) 0 := by rw [s2_row _ (by decide), w0]
    have g7 : s2 (wp1 G (nI r) v) 2 l 2 7 = lnfG G (nI r) 7 := by rw [s2_row _ (by decide), w7]
    have g6 : s2 (wp1 G (nI r) v) 2 l 2 6 = G 6 := by rw [s2_row _ (by decide), w6]
    have g8 : s2 (wp1 G (nI r) v) 2 l 2 8 = G 8 := by rw [s2_row _ (by decide), w8]
    have hM : QM (s2 (wp1 G (nI r) v) 2 l 2) (upd V r v) := QM_wr hq hI2 hl hr e3 k (fun j hj => by rw [g2, up_ne _ hj]) (Or.inl (by rw [g2, up_at])) g3 g4 (fun j _ => by rw [g0]) (by unfold QC; rw [g7]; exact hq.2.2.2.2)
    have hA : QA (s2 (wp1 G (nI r) v) 2 l 2) := by
      refine ⟨a, ha, (alw_row g6 g8).trans ea, ?_⟩
      unfold mN
      rw [g2]
      by_cases c : lnfG G (nI r) 2 l = 2
      · have : upd (lnfG G (nI r) 2) l 2 = lnfG G (nI r) 2 := by
          have z := upd_self (lnfG G (nI r) 2) l
          rw [c] at z; exact z.symm
        rw [this]
        exact Nat.le_trans hmd hm
      · rw [mN_dirt hl c]
        rcases q with z | z
        · rw [w2] at z; exact absurd z c
        · rw [nof_mN, mN_row w2, alw_row w6 w8, ea] at z
          have h8 := mN_le (lnfG G (nI r)) 2
          have := (nI_ltI (by omega) (by omega)).mp z
          exact this
    refine ⟨l, hl, ⟨hM, QB_row h.2.1 g6, hA⟩, ?_, ?_, Or.inl ⟨eI, ?_⟩, ?_⟩
    · exact hld_is hM.2.1 hl (by rw [g2, up_at]; decide) (by rw [g3]; exact e3)
    · rw [g4, up_at]
    · rw [g2, up_at]
    · rw [g7]; exact hcnt
  · have eI : wptI G (nI r) v = 1 := by
      unfold wptI
      rw [e, if_neg (fun z => z hrg), ix_nI (by omega), if_neg q]
    have eG : wptG G (nI r) v = s2 (layG (wp1 G (nI r) v) (nI r) v) 7 4 (layG (wp1 G (nI r) v) (nI r) v 7 4 + 1) := by
      unfold wptG
      rw [e, if_neg (fun z => z hrg), ix_nI (by omega), if_neg q]
    have g2 : wptG G (nI r) v 2 = lnfG G (nI r) 2 := by rw [eG, s2_row _ (by decide), lay_row _ _ _ (by decide) (by decide) (by decide), w2]
    have g3 : wptG G (nI r) v 3 = lnfG G (nI r) 3 := by rw [eG, s2_row _ (by decide), lay_row _ _ _ (by decide) (by decide) (by decide), w3]
    have g4 : wptG G (nI r) v 4 = upd (lnfG G (nI r) 4) l v := by rw [eG, s2_row _ (by decide), lay_row _ _ _ (by decide) (by decide) (by decide), w4]
    have g6 : wptG G (nI r) v 6 = G 6 := by rw [eG, s2_row _ (by decide), lay_row _ _ _ (by decide) (by decide) (by decide), w6]
    have g8 : wptG G (nI r) v 8 = G 8 := by rw [eG, s2_row _ (by decide), lay_row _ _ _ (by decide) (by decide) (by decide), w8]
    have g0 : wptG G (nI r) v 0 = upd (lnfG G (nI r) 0) r v := by rw [eG, s2_row _ (by decide), lay_yes _ hr, s2_row _ (by decide), s2_row _ (by decide), s2_ap, if_pos rfl, w0]
    have g7 : ∀ j, ¬ j = 4 → ¬ j = 8 → wptG G (nI r) v 7 j = lnfG G (nI r) 7 j := fun j h4 h8 => by rw [eG, s2_ne _ _ h4, lay_7 _ _ _ h8, w7]
    have g74 : wptG G (nI r) v 7 4 = lnfG G (nI r) 7 4 + 1 := by rw [eG, s2_at, lay_7 _ _ _ (by decide), w7]
    have g78 : wptG G (nI r) v 7 8 = lnfG G (nI r) 7 8 + 1 := by rw [eG, s2_ne _ _ (by decide), lay_yes _ hr, s2_at, w7]
    have k1 : lnfG G (nI r) 2 l = 1 := by
      rcases kinds (hq.1.1.2.1 l) with z | z | z
      · exact absurd z k
      · exact z
      · exact absurd (Or.inl (by rw [w2]; exact z)) q
    have hM : QM (wptG G (nI r) v) (upd V r v) := by
      refine QM_wr hq hI2 hl hr e3 k (fun j hj => by rw [g2]) (Or.inr ⟨by rw [g2]; exact k1, by rw [g0, up_at]⟩) g3 g4 (fun j hj => by rw [g0, up_ne _ hj]) ⟨?_, ?_⟩
      · rw [g7 5 (by decide) (by decide)]; exact hq.2.2.2.2.1
      · rw [g78, g74, g7 3 (by decide) (by decide), hq.2.2.2.2.2, Int32.add_assoc]
    refine ⟨l, hl, ⟨hM, QB_row h.2.1 g6, QA_dS h.2.2 g6 g8 (dS_tr hd (dS_row g2))⟩, ?_, ?_, Or.inr ⟨eI, ?_, ?_⟩, ?_⟩
    · exact hld_is hM.2.1 hl (by rw [g2]; exact k) (by rw [g3]; exact e3)
    · rw [g4, up_at]
    · rw [g2]; exact k1
    · rw [g0, up_at]
    · rw [g7 1 (by decide) (by decide), g7 2 (by decide) (by decide)]; exact hcnt
-- time
theorem QB_tk {G : St} (hI : Inv G) (hB : QB G) : QB (tkG G) := by
  obtain ⟨c, w, e0, e1, hw, hc⟩ := hB
  by_cases q : G 6 2 = 1
  · by_cases q0 : useG G (G 8 3) 6 0 = 0
    · obtain ⟨w2, hw2, ew⟩ := (we_vN hI.2.2.1).2.2
      rw [tk_fall0 q q0]
      refine ⟨0, w2, ?_, ?_, hw2, by omega⟩
      · rw [s2_ne _ _ (by decide), s2_ne _ _ (by decide), q0]; rfl
      · rw [s2_ne _ _ (by decide), s2_at, use_6 _ _ (by decide)]; exact ew
    · obtain ⟨f, -, hf, ef⟩ := hI.2.2.2.2.2.2.2
      rw [tk_fall q q0]
      refine ⟨c - f, w, ?_, ?_, hw, by omega⟩
      · rw [use_60, e0, ef, maI_sub (by omega) (by omega)]
      · rw [use_6 _ _ (by decide)]; exact e1
  · obtain ⟨r, hr, er⟩ := hI.2.2.2.2.2.2.1
    have ech := chgI_nI (c := c) (w := w) (r := r) (by omega) hw hr e0 e1 er
    by_cases q2 : G 6 2 = 2 ∧ chgI G = capI G
    · rw [tk_end q q2]
      refine ⟨min (c + r) (1000 - 10 * w), w, ?_, ?_, hw, Nat.min_le_right _ _⟩
      · rw [s2_ne _ _ (by decide), s2_at, ech]
      · rw [s2_ne _ _ (by decide), s2_ne _ _ (by decide)]; exact e1
    · rw [tk_rise q q2]
      refine ⟨min (c + r) (1000 - 10 * w), w, ?_, ?_, hw, Nat.min_le_right _ _⟩
      · rw [s2_at, ech]
      · rw [s2_ne _ _ (by decide)]; exact e1
theorem tk0_row (G : St) {a : Nat} (h6 : ¬ a = 6) (h7 : ¬ a = 7) : tk0 G a = G a := by
  have e : tcG G a = G a := s2_row _ h7 _ _
  unfold tk0
  by_cases q : endB (tcG G) = true
  · rw [if_pos q, s2_row _ h7, tk_row _ h6, e]
  · rw [if_neg q, tk_row _ h6, e]
theorem tk0_7 (G : St) {j : Nat} (h0 : ¬ j = 0) (h7 : ¬ j = 7) : tk0 G 7 j = G 7 j := by
  have h : tkG (tcG G) 7 = tcG G 7 := tk_row _ (by decide)
  have h2 : tcG G 7 j = G 7 j := s2_ne _ _ h0 _
  unfold tk0
  by_cases q : endB (tcG G) = true
  · rw [if_pos q, s2_ne _ _ h7, h, h2]
  · rw [if_neg q, h, h2]
theorem QM_tk0 {G : St} {V : Nat → Int32} (h : QM G V) : QM (tk0 G) V :=
  QM_of h (Inv_tk0 h.1) (tk0_row G (by decide) (by decide)) (tk0_row G (by decide) (by decide)) (tk0_row G (by decide) (by decide)) (tk0_row G (by decide) (by decide)) (tk0_7 G (by decide) (by decide)) (tk0_7 G (by decide) (by decide)) (tk0_7 G (by decide) (by decide)) (tk0_7 G (by decide) (by decide))
theorem LI_tk1 {G : St} {V : Nat → Int32} (h : LI G V) : LI (tk1 G) V := LI_fls (QM_tk0 h.1) (QB_row (QB_tk h.1.1 h.2.1) (tk0_6 G))
theorem LI_tks {G : St} {V : Nat → Int32} (h : LI G V) (n : Nat) : LI (tksG G n) V := by
  induction n with
  | zero => exact h
  | succ n ih => exact LI_tk1 ih
theorem dS_tks (G : St) (n : Nat) : dS G (tksG G n) := by
  induction n with
  | zero => exact dS_rf G
  | succ n ih => exact dS_tr ih (dS_tr (dS_row (tk0_row _ (by decide) (by decide))) (dS_fls _ _))
-- a load
theorem LI_loa {G : St} {V : Nat → Int32} (h : LI G V) {x : Int32} (hx : vN 100000 x) : LI (loaG G x) V := by
  refine LI_fls (QM_of h.1 (Inv_use h.1.1 hx) (use_row G x (by decide)) (use_row G x (by decide)) (use_row G x (by decide)) (use_row G x (by decide)) ?_ ?_ ?_ ?_) ?_
  · rw [use_row G x (by decide)]
  · rw [use_row G x (by decide)]
  · rw [use_row G x (by decide)]
  · rw [use_row G x (by decide)]
  · obtain ⟨c, w, e0, e1, hw, hc⟩ := h.2.1
    obtain ⟨k, hk, rfl⟩ := hx
    refine ⟨c - k, w, ?_, ?_, hw, by omega⟩
    · rw [use_60, e0, maI_sub (by omega) (by omega)]
    · rw [use_6 _ _ (by decide)]; exact e1
theorem loa_60 (G : St) (x : Int32) : loaG G x 6 0 = maI (G 6 0 - x) 0 := by
  unfold loaG
  rw [fls_row _ (by decide) (by decide) (by decide) (by decide), use_60]
-- a cycle begins
theorem LI_bgc {G : St} {V : Nat → Int32} (h : LI G V) : LI (bgcG G) V := by
  refine LI_fls (QM_of h.1 (Inv_lc h.1.1) (s2_row _ (by decide) _ _) (s2_row _ (by decide) _ _) (s2_row _ (by decide) _ _) (s2_row _ (by decide) _ _) ?_ ?_ ?_ ?_) ?_
  · rw [s2_row _ (by decide)]
  · rw [s2_row _ (by decide)]
  · rw [s2_row _ (by decide)]
  · rw [s2_row _ (by decide)]
  · obtain ⟨c, w, e0, e1, hw, hc⟩ := h.2.1
    exact ⟨c, w, by rw [s2_ne _ _ (by decide)]; exact e0, by rw [s2_ne _ _ (by decide)]; exact e1, hw, hc⟩
theorem bgc_62 (G : St) : bgcG G 6 2 = 1 := by
  unfold bgcG
  rw [fls_row _ (by decide) (by decide) (by decide) (by decide), s2_at]
theorem mN_0 {G : St} (h : mN G 2 = 0) : ∀ l, l < 8 → ¬ G 2 l = 2 := cnt_zero_no (fun j => G 2 j = 2) 8 h
theorem run_m {G : St} (h : QA G) (k : ¬ G 6 2 = 0) : mN G 2 = 0 := by
  obtain ⟨a, ha, ea, hm⟩ := h
  unfold alwI at ea
  rw [if_neg k] at ea
  have := (nI_eq (a := 0) (b := a) (by decide) (by omega)).mp ea
  omega
theorem setP_no (P : Nat → Prop) [DecidablePred P] (n : Nat) (h : ∀ l, l < n → ¬ P l) : setP P n = 0 := by
  induction n with
  | zero => rfl
  | succ n ih =>
    unfold setP
    rw [if_neg (h n (Nat.lt_succ_self n))]
    exact ih (fun l q => h l (Nat.lt_succ_of_lt q))
theorem set_m0 {G : St} (h : mN G 2 = 0) : setI G 2 = 0 := setP_no _ 8 (mN_0 h)
theorem too_np {G : St} (hI : Inv G) : ¬ tooI G = -1000002 := by
  obtain ⟨a, ha, ea⟩ := alw_ex hI
  intro z
  have h := mN_le G 2
  refine vN_ok (m := 8) (x := tooI G) (by decide) ⟨mN G 2 - a, by omega, too_a ha ea⟩ ?_
  rw [z]
  decide
-- a cut
theorem sbc_m {G : St} {V : Nat → Int32} (h : LI G V) : sbcI G = nI (mN G 2) := by
  obtain ⟨⟨hI, -⟩, -, a, ha, ea, hm⟩ := h
  have h8 := mN_le G 2
  unfold sbcI
  rw [nof_mN]
  by_cases q : G 6 2 = 0
  · have : savI G = nI a := by unfold alwI at ea; rw [if_pos q] at ea; exact ea
    rw [this, miI_nI (by omega) (by omega), Nat.min_eq_left hm]
  · have h0 := run_m ⟨a, ha, ea, hm⟩ q
    obtain ⟨-, ⟨c, hc, e0⟩, -, -, ⟨a1, ha1, ha2, e1⟩, ⟨k, hk, e2⟩, -⟩ := hI
    rw [savI_nI hc ha1 ha2 hk e0 e1 e2, miI_nI (by omega) (Nat.lt_of_le_of_lt (sN_le _ _ _) (by decide)), h0, Nat.zero_min]
theorem ct1_row (G : St) {a : Nat} (h : ¬ a = 6) : ct1 G a = flsG G (ix (sbcI G)) a := by
  unfold ct1 sacG
  rw [s2_row _ h, use_row _ _ h]
theorem cut_row (G : St) {a : Nat} (h : ¬ a = 7) : cutG G a = empG (ct1 G) 8 a := by
  unfold cutG
  rw [s2_row _ h, s2_row _ h]
theorem cut_7 (G : St) {j : Nat} (h5 : ¬ j = 5) (h6 : ¬ j = 6) : cutG G 7 j = flsG G (ix (sbcI G)) 7 j := by
  unfold cutG
  rw [s2_ne _ _ h6, s2_ne _ _ h5, emp_row _ (by decide), ct1_row _ (by decide)]
theorem cut_75 (G : St) : cutG G 7 5 = flsG G (ix (sbcI G)) 7 5 + cutI G := by
  unfold cutG
  rw [s2_ne _ _ (by decide), s2_at, emp_row _ (by decide), ct1_row _ (by decide)]
theorem cut_facts {G : St} {V : Nat → Int32} (h : LI G V) : cutI G = 0 ∧ LI (cutG G) V ∧ (∀ l, l < 8 → cutG G 2 l = 0) ∧ cutG G 6 2 = 0 ∧ ∀ r, r < 64 → cutG G 0 r = V r := by
  have hm8 := mN_le G 2
  have es : ix (sbcI G) = mN G 2 := by rw [sbc_m h, ix_nI (by omega)]
  obtain ⟨jI, j6, j8, jm, -⟩ := fls_facts h.1.1 (mN G 2) (Nat.le_refl _)
  have hF : QM (flsG G (mN G 2)) V := QM_fls h.1 _
  have jm0 : mN (flsG G (mN G 2)) 2 = 0 := by omega
  have e2 : ct1 G 2 = flsG G (mN G 2) 2 := by rw [ct1_row _ (by decide), es]
  have eI : cutI G = 0 := by
    show nofI (ct1 G) 2 = 0
    rw [nof_mN, mN_row e2, jm0]
    rfl
  have g2 : ∀ l, l < 8 → cutG G 2 l = 0 := by
    intro l hl
    rw [cut_row _ (by decide), emp_2, if_pos hl]
  have g0 : ∀ r, r < 64 → cutG G 0 r = V r := by
    intro r hr
    rw [cut_row _ (by decide), emp_row _ (by decide), ct1_row _ (by decide), es]
    exact hF.2.2.2.1 r hr (fun l hl k => absurd k (mN_0 jm0 l hl))
  have g6 : cutG G 6 = ct1 G 6 := by rw [cut_row _ (by decide), emp_row _ (by decide)]
  have g62 : cutG G 6 2 = 0 := by
    rw [g6]
    unfold ct1 sacG
    rw [s2_at]
  refine ⟨eI, ⟨⟨Inv_cut h.1.1, ?_, ?_, ?_, ?_⟩, ?_, ?_⟩, g2, g62, g0⟩
  · intro a b ha hb ka
    exact absurd (g2 a ha) ka
  · intro a ha ka
    exact absurd (g2 a ha) ka
  · intro r hr _
    exact g0 r hr
  · refine ⟨?_, ?_⟩
    · rw [cut_75, eI, es, hF.2.2.2.2.1]; rfl
    · rw [cut_7 _ (by decide) (by decide), cut_7 _ (by decide) (by decide), cut_7 _ (by decide) (by decide), es]
      exact hF.2.2.2.2.2
  · obtain ⟨c, w, e0, e1, hw, hc⟩ := h.2.1
    obtain ⟨-, -, -, -, ⟨a1, ha1, ha2, f1⟩, ⟨k, hk, f2⟩, -⟩ := h.1.1
    have hmul : mN G 2 * a1 ≤ 8 * 500 := Nat.mul_le_mul hm8 ha2
    refine ⟨c - (k + mN G 2 * a1), w, ?_, ?_, hw, by omega⟩
    · rw [g6]
      unfold ct1 sacG
      rw [s2_ne _ _ (by decide), use_60, es, sbc_m h, cosI_nI (a := a1) (k := k) (by rw [j8]; exact f1) (by rw [j8]; exact f2), j6, e0, maI_sub (by omega) (by omega)]
    · rw [g6]
      unfold ct1 sacG
      rw [s2_ne _ _ (by decide), use_6 _ _ (by decide), es, j6]
      exact e1
  · obtain ⟨a, ha, ea⟩ := alw_ex (Inv_cut h.1.1)
    refine ⟨a, ha, ea, ?_⟩
    have : mN (cutG G) 2 = 0 := cnt_zero _ 8 (fun l hl z => by rw [g2 l hl] at z; exact absurd z (by decide))
    omega
