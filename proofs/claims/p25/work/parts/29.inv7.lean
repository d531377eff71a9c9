/-! ===== words for copies, settings, counts and answers ===== -/
theorem vN_ok {m : Nat} {x : Int32} (hm : m < 2147483648) (h : vN m x) : ¬ x < -1000000 := by
  obtain ⟨n, hn, rfl⟩ := h
  intro z
  have h1 : nI n < 0 := Int32.lt_trans z (by decide)
  have := (nI_ltI (a := n) (b := 0) (by omega) (by decide)).mp h1
  omega
theorem ix_ok (x : Int32) : ¬ maI x 0 < -1000000 := by
  rw [maI_ix x]
  exact vN_ok (m := ix (maI x 0)) (ix_lt31 _) ⟨_, Nat.le_refl _, rfl⟩
theorem hp_n {k : Nat} (hk : k < 4) (h g : Nat → Int32) : ptF h (180 * k) g 180 = hpF k h g := by
  unfold hpF
  rw [if_neg (by omega)]
theorem kp_n {k : Nat} (hk : k < 4) : k + 1 = kpN k := by
  unfold kpN
  rw [if_neg (by omega)]
theorem wth_n {n a b : Nat} {lo hi : Int32} (h0 : lo = nI a) (h1 : hi = nI b) (ha : a ≤ n) (hb : n ≤ b) (hb2 : b < 2147483648) : wth (nI n) lo hi = true := by
  subst h0
  subst h1
  exact decide_eq_true ⟨fun z => by have := (nI_ltI (by omega) (by omega)).mp z; omega, fun z => by have := (nI_ltI (by omega) (by omega)).mp z; omega⟩
theorem wth_lo {n a : Nat} {lo hi : Int32} (h0 : lo = nI a) (hn : n < 2147483648) (ha : a < 2147483648) (h : wth (nI n) lo hi = true) : a ≤ n := by
  subst h0
  have h1 := (of_decide_eq_true h).1
  rcases Nat.lt_or_ge n a with q | q
  · exact absurd ((nI_ltI hn ha).mpr q) h1
  · exact q
theorem con_8 (G : St) (n tn : Int32) {u : Nat} (hu : u ≤ 8) : G 7 u = conI G n tn (nI u) := by
  unfold conI
  match u, hu with
  | 0, _ => rw [if_pos (by decide)]
  | 1, _ => rw [if_neg (by decide), if_pos (by decide)]
  | 2, _ => rw [if_neg (by decide), if_neg (by decide), if_pos (by decide)]
  | 3, _ => rw [if_neg (by decide), if_neg (by decide), if_neg (by decide), if_pos (by decide)]
  | 4, _ => rw [if_neg (by decide), if_neg (by decide), if_neg (by decide), if_neg (by decide), if_pos (by decide)]
  | 5, _ => rw [if_neg (by decide), if_neg (by decide), if_neg (by decide), if_neg (by decide), if_neg (by decide), if_pos (by decide)]
  | 6, _ => rw [if_neg (by decide), if_neg (by decide), if_neg (by decide), if_neg (by decide), if_neg (by decide), if_neg (by decide), if_pos (by decide)]
  | 7, _ => rw [if_neg (by decide), if_neg (by decide), if_neg (by decide), if_neg (by decide), if_neg (by decide), if_neg (by decide), if_neg (by decide), if_pos (by decide)]
  | 8, _ => rw [if_neg (by decide), if_neg (by decide), if_neg (by decide), if_neg (by decide), if_neg (by decide), if_neg (by decide), if_neg (by decide), if_neg (by decide), if_pos (by decide)]
theorem con_9 (G : St) (n tn : Int32) : n = conI G n tn 9 := by
  unfold conI
  rw [if_neg (by decide), if_neg (by decide), if_neg (by decide), if_neg (by decide), if_neg (by decide), if_neg (by decide), if_neg (by decide), if_neg (by decide), if_neg (by decide), if_pos rfl]
theorem con_10 (G : St) (n tn : Int32) : tn = conI G n tn 10 := by
  unfold conI
  rw [if_neg (by decide), if_neg (by decide), if_neg (by decide), if_neg (by decide), if_neg (by decide), if_neg (by decide), if_neg (by decide), if_neg (by decide), if_neg (by decide), if_neg (by decide), if_pos rfl]
theorem con_s (G : St) (n tn : Int32) {u : Nat} (hu : u < 4) : G 8 u = conI G n tn (nI (20 + u)) := by
  unfold conI
  match u, hu with
  | 0, _ =>
    rw [if_neg (by decide), if_neg (by decide), if_neg (by decide), if_neg (by decide), if_neg (by decide), if_neg (by decide), if_neg (by decide), if_neg (by decide), if_neg (by decide), if_neg (by decide), if_neg (by decide), if_pos (by decide)]
    unfold stgI
    rw [if_pos (by decide)]
  | 1, _ =>
    rw [if_neg (by decide), if_neg (by decide), if_neg (by decide), if_neg (by decide), if_neg (by decide), if_neg (by decide), if_neg (by decide), if_neg (by decide), if_neg (by decide), if_neg (by decide), if_neg (by decide), if_pos (by decide)]
    unfold stgI
    rw [if_neg (by decide), if_pos (by decide)]
  | 2, _ =>
    rw [if_neg (by decide), if_neg (by decide), if_neg (by decide), if_neg (by decide), if_neg (by decide), if_neg (by decide), if_neg (by decide), if_neg (by decide), if_neg (by decide), if_neg (by decide), if_neg (by decide), if_pos (by decide)]
    unfold stgI
    rw [if_neg (by decide), if_neg (by decide), if_pos (by decide)]
  | 3, _ =>
    rw [if_neg (by decide), if_neg (by decide), if_neg (by decide), if_neg (by decide), if_neg (by decide), if_neg (by decide), if_neg (by decide), if_neg (by decide), if_neg (by decide), if_neg (by decide), if_neg (by decide), if_pos (by decide)]
    unfold stgI
    rw [if_neg (by decide), if_neg (by decide), if_neg (by decide)]
theorem rg_20 {x : Int32} (h : rg (x - 20) 4 = true) : wth x 20 23 = true := by
  obtain ⟨l, hl, e⟩ := rg_ex (n := 4) rfl (by decide) h
  have e2 : x = nI (l + 20) := by
    rw [← Int32.sub_add_cancel x 20, e]
    exact nI_add l 20
  rw [e2]
  exact wth_n (a := 20) (b := 23) rfl rfl (by omega) (by omega) (by decide)
theorem con_no (G : St) (n tn : Int32) {x : Int32} (h1 : ¬ wth x 0 8 = true) (h2 : ¬ x = 9) (h3 : ¬ x = 10) (h4 : ¬ wth x 20 23 = true) : -1000001 = conI G n tn x := by
  unfold conI
  rw [if_neg (fun z => h1 (by rw [z]; decide)), if_neg (fun z => h1 (by rw [z]; decide)), if_neg (fun z => h1 (by rw [z]; decide)), if_neg (fun z => h1 (by rw [z]; decide)), if_neg (fun z => h1 (by rw [z]; decide)), if_neg (fun z => h1 (by rw [z]; decide)), if_neg (fun z => h1 (by rw [z]; decide)), if_neg (fun z => h1 (by rw [z]; decide)), if_neg (fun z => h1 (by rw [z]; decide)), if_neg h2, if_neg h3, if_neg (fun z => h4 (rg_20 z))]
theorem rdp_vN {G : St} (hI : Inv G) {p : Nat} (hp : p < 64) : vN 999 (rdpI G (nI p)) := by
  obtain ⟨l0, hl0, el, hI2⟩ := lnf_ok hI hp
  unfold rdpI
  rw [el, if_pos (rg_nI (n := 8) (b := 8) rfl hl0 (by decide)), ix_nI (by omega)]
  exact hI2.1.2.2.1 l0
theorem wpt_vN (G : St) (p v : Int32) : vN 1 (wptI G p v) := by
  unfold wptI
  by_cases h : ¬ rg (lnfI G p) 8 = true
  · rw [if_pos h]; exact vN_0 1
  · rw [if_neg h]
    by_cases q : wp1 G p v 2 (ix (lnfI G p)) = 2 ∨ nofI (wp1 G p v) 2 < alwI (wp1 G p v)
    · rw [if_pos q]; exact vN_0 1
    · rw [if_neg q]; exact ⟨1, by omega, rfl⟩
theorem nof_vN (G : St) (k : Int32) : vN 8 (nofI G k) := ⟨_, mN_le G k, nof_mN G k⟩
theorem tks_ok {G : St} (hI : Inv G) {x : Int32} (h : wth x 1 99 = true) : ¬ (tksG G (ix x) 7 3 - G 7 3) < -1000000 := by
  obtain ⟨m, hm, e⟩ := tks_d hI (ix x)
  have h9 := (vN_ix (m := 99) (by decide) (wth_vN (lo := 1) (hi := 99) (n := 99) (by decide) rfl (by decide) h)).1
  exact vN_ok (m := m) (by omega) ⟨m, Nat.le_refl _, e⟩
theorem app_y {k : Nat} (hk : k < 60) (T : Nat → Int32) (x : Int32) : appT T (nI k) x = upd T k x ∧ appN (nI k) = nI (k + 1) := by
  have h : wth (nI k) 0 59 = true := wth_n (a := 0) (b := 59) rfl rfl (by omega) (by omega) (by decide)
  unfold appT appN
  rw [if_pos h, if_pos h, ix_nI (by omega)]
  exact ⟨rfl, nI_add k 1⟩
