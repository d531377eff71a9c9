/-! ===== an order read: where it ends, what its numbers are; all orders in turn ===== -/
def vB (a : Nat) (z : Int32) : Prop := ∃ v, a ≤ v ∧ v ≤ 60 ∧ z = nI v
theorem rn_vB (T : Nat → Int32) {n a : Nat} (hn : n ≤ 60) (k : Nat) (r z : Int32) (h : vB a z) : vB a (rnF T (nI n) k r z).2 := by
  induction k generalizing r z with
  | zero => exact h
  | succ k ih =>
    unfold rnF
    by_cases q : wth (chI T (nI n) z) 48 57 = true
    · rw [if_pos q]
      obtain ⟨v, ha, hv, rfl⟩ := h
      have := ch_lt hv (by decide) q
      exact ih _ _ ⟨v + 1, by omega, by omega, nI_add v 1⟩
    · rw [if_neg q]
      exact h
theorem rs_vB (T : Nat → Int32) {n a : Nat} (hn : n ≤ 60) (f : Nat → Int32) {z : Int32} (hz : ¬ -1 = z) (h : vB a (f 1)) : vB a (rsG T (nI n) f z 1) := by
  unfold rsG
  by_cases q : rsB T (nI n) f z = true
  · rw [if_pos q]
    obtain ⟨v, ha, hv, e⟩ := h
    have q2 := (rs_eq T (nI n) f z).mpr q
    rw [e] at q2
    have := ch_lt hv (m1_lit hz) q2
    show vB a (upd f 1 (f 1 + 1) 1)
    unfold upd
    rw [if_pos rfl, e]
    exact ⟨v + 1, by omega, by omega, nI_add v 1⟩
  · rw [if_neg q]
    exact h
theorem tn_vB (T : Nat → Int32) {n a : Nat} (hn : n ≤ 60) (f : Nat → Int32) (h : vB a (f 1)) : vB a (tnG T (nI n) f 1) := by
  show vB a (upd _ 1 _ 1)
  unfold upd
  rw [if_pos rfl]
  exact rn_vB T hn 3 0 _ h
theorem ro_vB (T : Nat → Int32) {n v : Nat} (hn : n ≤ 60) {f : Nat → Int32} (hv : v < n) (e : f 0 = nI v) (hr : roB T (nI n) f = true) : vB (v + 1) (roG T (nI n) f 1) := by
  have h0 : vB (v + 1) (ro0 f 1) := by
    show vB (v + 1) (upd _ 1 _ 1)
    unfold upd
    rw [if_pos rfl, e]
    exact ⟨v + 1, by omega, by omega, nI_add v 1⟩
  have h2 : vB (v + 1) (ro2 T (nI n) f 1) := tn_vB T hn _ h0
  have h3 : vB (v + 1) (ro3 T (nI n) f 1) := rs_vB T hn _ (by decide) h2
  have h4 : vB (v + 1) (ro4 T (nI n) f 1) := tn_vB T hn _ h3
  unfold roB at hr
  unfold roG
  by_cases c1 : isO (T (ix (f 0))) = true
  · rw [if_pos c1] at hr ⊢
    by_cases c2 : T (ix (f 0)) = 99
    · rw [if_pos c2]; exact rs_vB T hn _ (by decide) h0
    · rw [if_neg c2]
      by_cases c3 : T (ix (f 0)) = 103
      · rw [if_pos c3]; exact rs_vB T hn _ (by decide) h0
      · rw [if_neg c3]
        by_cases c4 : tnB T (nI n) (ro0 f) = true
        · rw [if_pos c4]
          by_cases c5 : T (ix (f 0)) = 119
          · rw [if_pos c5]
            by_cases c6 : rsB T (nI n) (ro2 T (nI n) f) 61 = true
            · rw [if_pos c6]
              by_cases c7 : tnB T (nI n) (ro3 T (nI n) f) = true
              · rw [if_pos c7]; exact rs_vB T hn _ (by decide) h4
              · rw [if_neg c7]; exact tn_vB T hn _ h3
            · rw [if_neg c6]; exact h3
          · rw [if_neg c5]; exact rs_vB T hn _ (by decide) h2
        · rw [if_neg c4]; exact tn_vB T hn _ h0
  · rw [if_neg c1] at hr
    cases hr
theorem rs_o (T : Nat → Int32) (tn : Int32) (f : Nat → Int32) (z : Int32) {j : Nat} (hj : ¬ j = 1) : rsG T tn f z j = f j := by
  unfold rsG
  by_cases q : rsB T tn f z = true
  · rw [if_pos q]; unfold upd; rw [if_neg hj]
  · rw [if_neg q]
theorem tn_o (T : Nat → Int32) (tn : Int32) (f : Nat → Int32) {j : Nat} (hj : ¬ j = 1) (h4 : ¬ j = 4) : tnG T tn f j = f j := by
  unfold tnG upd
  rw [if_neg hj, if_neg h4]
theorem ro0_o (f : Nat → Int32) {j : Nat} (hj : ¬ j = 1) : ro0 f j = f j := by
  unfold ro0 upd
  rw [if_neg hj, if_neg hj]
theorem ro2_o (T : Nat → Int32) (tn : Int32) (f : Nat → Int32) {j : Nat} (hj : ¬ j = 1) (h2 : ¬ j = 2) (h4 : ¬ j = 4) : ro2 T tn f j = f j := by
  show upd (tnG T tn (ro0 f)) 2 _ j = f j
  unfold upd
  rw [if_neg h2]
  exact (tn_o T tn _ hj h4).trans (ro0_o f hj)
theorem ro3_o (T : Nat → Int32) (tn : Int32) (f : Nat → Int32) {j : Nat} (hj : ¬ j = 1) (h2 : ¬ j = 2) (h4 : ¬ j = 4) : ro3 T tn f j = f j := (rs_o T tn _ 61 hj).trans (ro2_o T tn f hj h2 h4)
theorem ro4_o (T : Nat → Int32) (tn : Int32) (f : Nat → Int32) {j : Nat} (hj : ¬ j = 1) (h2 : ¬ j = 2) (h3 : ¬ j = 3) (h4 : ¬ j = 4) : ro4 T tn f j = f j := by
  show upd (tnG T tn (ro3 T tn f)) 3 _ j = f j
  unfold upd
  rw [if_neg h3]
  exact (tn_o T tn _ hj h4).trans (ro3_o T tn f hj h2 h4)
theorem ro_o (T : Nat → Int32) (tn : Int32) (f : Nat → Int32) {j : Nat} (hj : ¬ j = 1) (h2 : ¬ j = 2) (h3 : ¬ j = 3) (h4 : ¬ j = 4) : roG T tn f j = f j := by
  unfold roG
  by_cases c1 : isO (T (ix (f 0))) = true
  · rw [if_pos c1]
    by_cases c2 : T (ix (f 0)) = 99
    · rw [if_pos c2, rs_o _ _ _ _ hj, ro0_o f hj]
    · rw [if_neg c2]
      by_cases c3 : T (ix (f 0)) = 103
      · rw [if_pos c3, rs_o _ _ _ _ hj, ro0_o f hj]
      · rw [if_neg c3]
        by_cases c4 : tnB T tn (ro0 f) = true
        · rw [if_pos c4]
          by_cases c5 : T (ix (f 0)) = 119
          · rw [if_pos c5]
            by_cases c6 : rsB T tn (ro2 T tn f) 61 = true
            · rw [if_pos c6]
              by_cases c7 : tnB T tn (ro3 T tn f) = true
              · rw [if_pos c7, rs_o _ _ _ _ hj, ro4_o T tn f hj h2 h3 h4]
              · rw [if_neg c7, tn_o _ _ _ hj h4, ro3_o T tn f hj h2 h4]
            · rw [if_neg c6, ro3_o T tn f hj h2 h4]
          · rw [if_neg c5, rs_o _ _ _ _ hj, ro2_o T tn f hj h2 h4]
        · rw [if_neg c4, tn_o _ _ _ hj h4, ro0_o f hj]
  · rw [if_neg c1]
    unfold upd
    rw [if_neg hj]
theorem rn_val (T : Nat → Int32) (tn : Int32) (k : Nat) (a B : Nat) (z : Int32) (h : a < B) (hB : B * 10 ^ k ≤ 1000) : ∃ b, b < B * 10 ^ k ∧ (rnF T tn k (nI a) z).1 = nI b := by
  induction k generalizing a B z with
  | zero => exact ⟨a, by rw [Nat.pow_zero, Nat.mul_one]; exact h, rfl⟩
  | succ k ih =>
    unfold rnF
    have hp : B * 10 ^ (k + 1) = (10 * B) * 10 ^ k := by rw [Nat.pow_succ, Nat.mul_comm 10 B, Nat.mul_assoc, Nat.mul_comm (10 ^ k) 10]
    have h10 : 1 ≤ 10 ^ k := Nat.one_le_pow _ _ (by decide)
    by_cases q : wth (chI T tn z) 48 57 = true
    · rw [if_pos q]
      obtain ⟨d, hd, ed⟩ := wth_vN (lo := 48) (hi := 57) (n := 57) (by decide) rfl (by decide) q
      have hd48 : 48 ≤ d := wth_lo (a := 48) (hi := 57) rfl (by omega) (by decide) (by rw [← ed]; exact q)
      have e : ((10 * nI a) + chI T tn z) - 48 = nI (10 * a + d - 48) := by
        rw [ed, show (10 : Int32) = nI 10 from rfl, show (48 : Int32) = nI 48 from rfl, pk_mul, nI_add, pk_sub (by omega)]
      rw [e, hp]
      exact ih (10 * a + d - 48) (10 * B) _ (by omega) (by rw [← hp]; exact hB)
    · rw [if_neg q]
      refine ⟨a, ?_, rfl⟩
      rw [hp]
      have : 10 * B * 1 ≤ 10 * B * 10 ^ k := Nat.mul_le_mul_left _ h10
      omega
theorem rn_999 (T : Nat → Int32) (tn z : Int32) : wth (rnF T tn 3 0 z).1 0 999 = true := by
  obtain ⟨b, hb, e⟩ := rn_val T tn 3 0 1 z (by decide) (by decide)
  have e2 : (rnF T tn 3 0 z).1 = nI b := e
  rw [e2]
  exact wth_n (a := 0) (b := 999) rfl rfl (by omega) (by omega) (by decide)
theorem ro_3 {T : Nat → Int32} {tn : Int32} {f : Nat → Int32} (hr : roB T tn f = true) (h9 : T (ix (f 0)) = 119) : wth (roG T tn f 3) 0 999 = true := by
  unfold roB at hr
  unfold roG
  have n1 : ¬ T (ix (f 0)) = 99 := fun z => by rw [h9] at z; exact absurd z (by decide)
  have n2 : ¬ T (ix (f 0)) = 103 := fun z => by rw [h9] at z; exact absurd z (by decide)
  by_cases c1 : isO (T (ix (f 0))) = true
  · rw [if_pos c1, if_neg n1, if_neg n2] at hr ⊢
    by_cases c4 : tnB T tn (ro0 f) = true
    · rw [if_pos c4, if_pos h9] at hr ⊢
      by_cases c6 : rsB T tn (ro2 T tn f) 61 = true
      · rw [if_pos c6] at hr ⊢
        by_cases c7 : tnB T tn (ro3 T tn f) = true
        · rw [if_pos c7] at hr ⊢
          rw [rs_o _ _ _ _ (by decide)]
          exact rn_999 T tn _
        · rw [if_neg c7] at hr; cases hr
      · rw [if_neg c6] at hr; cases hr
    · rw [if_neg c4] at hr; cases hr
  · rw [if_neg c1] at hr; cases hr
theorem ro_iso {T : Nat → Int32} {tn : Int32} {f : Nat → Int32} (hr : roB T tn f = true) : isO (T (ix (f 0))) = true := by
  unfold roB at hr
  by_cases c1 : isO (T (ix (f 0))) = true
  · exact c1
  · rw [if_neg c1] at hr; cases hr
-- in range
theorem ir_114 {T : Nat → Int32} {f : Nat → Int32} (h : irR T f = true) (c1 : T (ix (f 0)) = 114) : rg (f 2) 64 = true := by
  unfold irR at h
  rw [if_pos c1] at h
  exact h
theorem ir_119 {T : Nat → Int32} {f : Nat → Int32} (h : irR T f = true) (c1 : T (ix (f 0)) = 119) : rg (f 2) 64 = true := by
  unfold irR at h
  rw [if_neg (fun z => by rw [c1] at z; exact absurd z (by decide)), if_pos c1] at h
  exact h
theorem ir_116 {T : Nat → Int32} {f : Nat → Int32} (h : irR T f = true) (c1 : T (ix (f 0)) = 116) : wth (f 2) 1 99 = true := by
  unfold irR at h
  rw [if_neg (fun z => by rw [c1] at z; exact absurd z (by decide)), if_neg (fun z => by rw [c1] at z; exact absurd z (by decide)), if_pos c1] at h
  exact h
theorem ir_108 {T : Nat → Int32} {f : Nat → Int32} (h : irR T f = true) (c1 : T (ix (f 0)) = 108) : wth (f 2) 1 999 = true := by
  unfold irR at h
  rw [if_neg (fun z => by rw [c1] at z; exact absurd z (by decide)), if_neg (fun z => by rw [c1] at z; exact absurd z (by decide)), if_neg (fun z => by rw [c1] at z; exact absurd z (by decide)), if_pos c1] at h
  exact h
def posR (T : Nat → Int32) (f : Nat → Int32) (G : St) : Bool := decide (T (ix (f 0)) = 103 → G 6 2 = 0)
theorem Inv_per {T : Nat → Int32} {f : Nat → Int32} {G : St} (hI : Inv G) (hr : irR T f = true) (h3 : T (ix (f 0)) = 119 → wth (f 3) 0 999 = true) : Inv (perR T f G) ∧ ¬ perV T f G < -1000000 := by
  unfold perR perV
  by_cases c1 : T (ix (f 0)) = 99
  · rw [if_pos c1, if_pos c1]
    exact ⟨Inv_cut hI, vN_ok (by decide) (nof_vN _ _)⟩
  · rw [if_neg c1, if_neg c1]
    by_cases c2 : T (ix (f 0)) = 108
    · rw [if_pos c2, if_pos c2]
      have hv9 : vN 100000 (f 2) := vN_m (wth_vN (lo := 1) (hi := 999) (n := 999) (by decide) rfl (by decide) (ir_108 hr c2)) (by decide)
      exact ⟨Inv_loa hI hv9, ix_ok _⟩
    · rw [if_neg c2, if_neg c2]
      by_cases c3 : T (ix (f 0)) = 114
      · rw [if_pos c3, if_pos c3]
        obtain ⟨p9, hp9, ep9⟩ := rg_ex (n := 64) rfl (by decide) (ir_114 hr c3)
        rw [ep9]
        obtain ⟨l0, hl0, el, hI2⟩ := lnf_ok hI hp9
        exact ⟨hI2, vN_ok (by decide) (rdp_vN hI hp9)⟩
      · rw [if_neg c3, if_neg c3]
        by_cases c4 : T (ix (f 0)) = 116
        · rw [if_pos c4, if_pos c4]
          exact ⟨Inv_tks hI _, tks_ok hI (ir_116 hr c4)⟩
        · rw [if_neg c4, if_neg c4]
          by_cases c5 : T (ix (f 0)) = 119
          · rw [if_pos c5, if_pos c5]
            obtain ⟨p9, hp9, ep9⟩ := rg_ex (n := 64) rfl (by decide) (ir_119 hr c5)
            have hv9 : vN 999 (f 3) := wth_vN (lo := 0) (hi := 999) (n := 999) (by decide) rfl (by decide) (h3 c5)
            rw [ep9]
            exact ⟨(wpt_ok hI hp9 hv9).2, vN_ok (by decide) (wpt_vN _ _ _)⟩
          · rw [if_neg c5, if_neg c5]
            exact ⟨Inv_bgc hI, ix_ok _⟩
def nxR (f : Nat → Int32) : Nat → Int32 := upd (upd f 7 (f 7 + 1)) 0 (f 1)
/-- all orders from a place on: the reading's numbers, the state, whether all could be done -/
def runR (T : Nat → Int32) (tn : Int32) : Nat → (Nat → Int32) → St → (Nat → Int32) × St × Bool
  | 0, f, G => (f, G, true)
  | k + 1, f, G =>
    if f 0 < tn then
      if roB T tn f = true then
        if irR T (roG T tn f) = true then
          if posR T (roG T tn f) G = true then runR T tn k (nxR (roG T tn f)) (perR T (roG T tn f) G)
          else (upd (upd (roG T tn f) 5 3) 6 (-1000004), G, false)
        else (upd (upd (roG T tn f) 5 2) 6 (roG T tn f 2), G, false)
      else (upd (upd (roG T tn f) 5 1) 6 (roG T tn f 1 - roG T tn f 0), G, false)
    else (f, G, true)
theorem runR_s (T : Nat → Int32) (tn : Int32) (k : Nat) (f : Nat → Int32) (G : St) : runR T tn (k + 1) f G = if f 0 < tn then
      if roB T tn f = true then
        if irR T (roG T tn f) = true then
          if posR T (roG T tn f) G = true then runR T tn k (nxR (roG T tn f)) (perR T (roG T tn f) G)
          else (upd (upd (roG T tn f) 5 3) 6 (-1000004), G, false)
        else (upd (upd (roG T tn f) 5 2) 6 (roG T tn f 2), G, false)
      else (upd (upd (roG T tn f) 5 1) 6 (roG T tn f 1 - roG T tn f 0), G, false)
    else (f, G, true) := rfl
theorem runR_stop {T : Nat → Int32} {tn : Int32} {f : Nat → Int32} {G : St} (h : ¬ f 0 < tn) (k : Nat) : runR T tn k f G = (f, G, true) := by
  cases k with
  | zero => rfl
  | succ k => rw [runR_s, if_neg h]
def f0R (f : Nat → Int32) : Nat → Int32 := upd (upd f 0 0) 7 0
theorem runR_7 (T : Nat → Int32) (tn : Int32) (k d : Nat) (f : Nat → Int32) (G : St) (h : f 7 = nI d) : ∃ e, e ≤ d + k ∧ (runR T tn k f G).1 7 = nI e := by
  induction k generalizing f G d with
  | zero => exact ⟨d, by omega, h⟩
  | succ k ih =>
    have h7 : roG T tn f 7 = nI d := (ro_o T tn f (by decide) (by decide) (by decide) (by decide)).trans h
    rw [runR_s]
    by_cases c1 : f 0 < tn
    · rw [if_pos c1]
      by_cases c2 : roB T tn f = true
      · rw [if_pos c2]
        by_cases c3 : irR T (roG T tn f) = true
        · rw [if_pos c3]
          by_cases c4 : posR T (roG T tn f) G = true
          · rw [if_pos c4]
            obtain ⟨e, he, e2⟩ := ih (d + 1) (nxR (roG T tn f)) (perR T (roG T tn f) G) (by show roG T tn f 7 + 1 = nI (d + 1); rw [h7]; exact nI_add d 1)
            exact ⟨e, by omega, e2⟩
          · rw [if_neg c4]; exact ⟨d, by omega, h7⟩
        · rw [if_neg c3]; exact ⟨d, by omega, h7⟩
      · rw [if_neg c2]; exact ⟨d, by omega, h7⟩
    · rw [if_neg c1]; exact ⟨d, by omega, h⟩
theorem run_ok (T : Nat → Int32) (tn : Int32) (f : Nat → Int32) (G : St) : ¬ (runR T tn 60 (f0R f) G).1 7 < -1000000 := by
  obtain ⟨e, he, e2⟩ := runR_7 T tn 60 0 (f0R f) G rfl
  rw [e2]
  exact vN_ok (m := 60) (by decide) ⟨e, by omega, rfl⟩
