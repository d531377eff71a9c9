/-! ===== the class's reading and the reference's are the same ===== -/
theorem rs_cong {T : Nat → Int32} {tn : Int32} {f g : Nat → Int32} (h : f 1 = g 1) (z : Int32) : rsB T tn f z = rsB T tn g z ∧ rsG T tn f z 1 = rsG T tn g z 1 := by
  have e : rsB T tn f z = rsB T tn g z := by unfold rsB; rw [h]
  refine ⟨e, ?_⟩
  unfold rsG
  rw [e]
  by_cases q : rsB T tn g z = true
  · rw [if_pos q, if_pos q]
    show f 1 + 1 = g 1 + 1
    rw [h]
  · rw [if_neg q, if_neg q]
    exact h
theorem rn_y {T : Nat → Int32} {tn : Int32} {f g : Nat → Int32} (h : f 1 = g 1) (q : tnB T tn g = true) : rnI T tn (f 1) = tnG T tn g 4 ∧ ¬ rnI T tn (f 1) = -1 := by
  have e : rnI T tn (f 1) = (rnF T tn 3 0 (g 1)).1 := by
    unfold rnI
    rw [h, if_pos (show wth (chI T tn (g 1)) 48 57 = true from q)]
  refine ⟨e, fun z => ?_⟩
  have h9 := rn_999 T tn (g 1)
  rw [← e, z] at h9
  exact absurd h9 (by decide)
theorem rn_n {T : Nat → Int32} {tn : Int32} {f g : Nat → Int32} (h : f 1 = g 1) (q : ¬ tnB T tn g = true) : rnI T tn (f 1) = -1 := by
  unfold rnI
  rw [h, if_neg (show ¬ wth (chI T tn (g 1)) 48 57 = true from q)]
theorem nu_1 {T : Nat → Int32} {tn : Int32} {f g : Nat → Int32} (h : f 1 = g 1) {k : Nat} (hk : ¬ k = 1) : nuG T tn f k 1 = tnG T tn g 1 := by
  show upd (rnG T tn f) k _ 1 = (rnF T tn 3 0 (g 1)).2
  unfold upd
  rw [if_neg (fun z => hk z.symm), ← h]
  rfl
theorem nu_o (T : Nat → Int32) (tn : Int32) (f : Nat → Int32) {k j : Nat} (h1 : ¬ j = 1) (hk : ¬ j = k) : nuG T tn f k j = f j := by
  unfold nuG rnG upd
  rw [if_neg hk, if_neg h1]
theorem nu_k (T : Nat → Int32) (tn : Int32) (f : Nat → Int32) (k : Nat) : nuG T tn f k k = rnI T tn (f 1) := by
  unfold nuG
  show upd (rnG T tn f) k (rnI T tn (f 1)) k = _
  unfold upd
  rw [if_pos rfl]
def q2 (T : Nat → Int32) (tn : Int32) (g : Nat → Int32) : Nat → Int32 := upd (tnG T tn g) 2 (tnG T tn g 4)
theorem q2_1 (T : Nat → Int32) (tn : Int32) (g : Nat → Int32) : q2 T tn g 1 = tnG T tn g 1 := rfl
theorem hn_rel {T : Nat → Int32} {tn : Int32} {f g : Nat → Int32} (h : f 1 = g 1) : hnB T tn f = (if tnB T tn g = true then rsB T tn (q2 T tn g) 59 else false) ∧ hnG T tn f 1 = (if tnB T tn g = true then rsG T tn (q2 T tn g) 59 else tnG T tn g) 1 ∧ (∀ j, ¬ j = 1 → ¬ j = 3 → hnG T tn f j = f j) ∧ (tnB T tn g = true → hnG T tn f 3 = rsG T tn (q2 T tn g) 59 2) := by
  have e1 : nuG T tn f 3 1 = q2 T tn g 1 := nu_1 h (by decide)
  have e3 := nu_k T tn f 3
  unfold hnB hnG
  rw [e3]
  by_cases q : tnB T tn g = true
  · obtain ⟨ev, en⟩ := rn_y h q
    rw [if_pos q, if_pos q, if_neg en, if_neg en]
    refine ⟨(rs_cong e1 59).1, (rs_cong e1 59).2, fun j h1 h3 => ?_, fun _ => ?_⟩
    · rw [rs_o _ _ _ _ h1, nu_o _ _ _ h1 h3]
    · rw [rs_o _ _ _ _ (by decide), rs_o _ _ _ _ (by decide), e3, ev]
      rfl
  · have en := rn_n h q
    rw [if_neg q, if_neg q, if_pos en, if_pos en]
    exact ⟨rfl, e1, fun j h1 h3 => nu_o _ _ _ h1 h3, fun z => absurd z q⟩
def q3 (T : Nat → Int32) (tn : Int32) (g : Nat → Int32) : Nat → Int32 := rsG T tn (q2 T tn g) 61
def q4 (T : Nat → Int32) (tn : Int32) (g : Nat → Int32) : Nat → Int32 := upd (tnG T tn (q3 T tn g)) 3 (tnG T tn (q3 T tn g) 4)
theorem hw_rel {T : Nat → Int32} {tn : Int32} {f g : Nat → Int32} (h : f 1 = g 1) :
    hwB T tn f = (if tnB T tn g = true then (if rsB T tn (q2 T tn g) 61 = true then (if tnB T tn (q3 T tn g) = true then rsB T tn (q4 T tn g) 59 else false) else false) else false)
    ∧ hwG T tn f 1 = (if tnB T tn g = true then (if rsB T tn (q2 T tn g) 61 = true then (if tnB T tn (q3 T tn g) = true then rsG T tn (q4 T tn g) 59 else tnG T tn (q3 T tn g)) else q3 T tn g) else tnG T tn g) 1
    ∧ (∀ j, ¬ j = 1 → ¬ j = 3 → ¬ j = 4 → hwG T tn f j = f j)
    ∧ (hwB T tn f = true → hwG T tn f 3 = rsG T tn (q4 T tn g) 59 2 ∧ hwG T tn f 4 = rsG T tn (q4 T tn g) 59 3) := by
  have e1 : nuG T tn f 3 1 = q2 T tn g 1 := nu_1 h (by decide)
  have e3 := nu_k T tn f 3
  obtain ⟨r1, r2⟩ := rs_cong (T := T) (tn := tn) e1 61
  have k1 : nuG T tn (rsG T tn (nuG T tn f 3) 61) 4 1 = q4 T tn g 1 := nu_1 (g := q3 T tn g) r2 (by decide)
  have k4 := nu_k T tn (rsG T tn (nuG T tn f 3) 61) 4
  unfold hwB hwG
  rw [e3, k4]
  by_cases q : tnB T tn g = true
  · obtain ⟨ev, en⟩ := rn_y h q
    rw [if_pos q, if_pos q, if_neg en, if_neg en, r1]
    by_cases u : rsB T tn (q2 T tn g) 61 = true
    · rw [if_pos u, if_pos u, if_pos u, if_pos u]
      by_cases t : tnB T tn (q3 T tn g) = true
      · obtain ⟨ev2, en2⟩ := rn_y (f := rsG T tn (nuG T tn f 3) 61) (g := q3 T tn g) r2 t
        rw [if_pos t, if_pos t, if_neg en2, if_neg en2]
        refine ⟨(rs_cong k1 59).1, (rs_cong k1 59).2, fun j h1 h3 h4 => ?_, fun _ => ⟨?_, ?_⟩⟩
        · rw [rs_o _ _ _ _ h1, nu_o _ _ _ h1 h4, rs_o _ _ _ _ h1, nu_o _ _ _ h1 h3]
        · rw [rs_o _ _ _ _ (by decide), nu_o _ _ _ (by decide) (by decide), rs_o _ _ _ _ (by decide), e3, ev, rs_o _ _ _ _ (by decide)]
          exact (show q4 T tn g 2 = tnG T tn g 4 from (tn_o T tn (q3 T tn g) (j := 2) (by decide) (by decide)).trans (rs_o T tn (q2 T tn g) 61 (j := 2) (by decide))).symm
        · rw [rs_o _ _ _ _ (by decide), k4, ev2, rs_o _ _ _ _ (by decide)]
          rfl
      · have en2 := rn_n (f := rsG T tn (nuG T tn f 3) 61) (g := q3 T tn g) r2 t
        rw [if_neg t, if_neg t, if_pos en2, if_pos en2]
        refine ⟨rfl, k1, fun j h1 h3 h4 => ?_, fun z => by cases z⟩
        rw [nu_o _ _ _ h1 h4, rs_o _ _ _ _ h1, nu_o _ _ _ h1 h3]
    · rw [if_neg u, if_neg u, if_neg u, if_neg u]
      refine ⟨rfl, r2, fun j h1 h3 h4 => ?_, fun z => by cases z⟩
      rw [rs_o _ _ _ _ h1, nu_o _ _ _ h1 h3]
  · have en := rn_n h q
    rw [if_neg q, if_neg q, if_pos en, if_pos en]
    refine ⟨rfl, e1, fun j h1 h3 h4 => nu_o _ _ _ h1 h3, fun z => by cases z⟩
theorem iso_c {x : Int32} (h : isO x = true) (h1 : ¬ x = 99) (h2 : ¬ x = 103) (h3 : ¬ x = 108) (h4 : ¬ x = 114) (h5 : ¬ x = 116) : x = 119 := by
  rcases of_decide_eq_true h with z | z | z | z | z | z
  · exact absurd z h4
  · exact z
  · exact absurd z h5
  · exact absurd z h3
  · exact absurd z h1
  · exact absurd z h2
theorem iso_n {x : Int32} (h : ¬ isO x = true) : ¬ x = 99 ∧ ¬ x = 103 ∧ ¬ x = 108 ∧ ¬ x = 114 ∧ ¬ x = 116 ∧ ¬ x = 119 :=
  ⟨fun z => h (by rw [z]; decide), fun z => h (by rw [z]; decide), fun z => h (by rw [z]; decide), fun z => h (by rw [z]; decide), fun z => h (by rw [z]; decide), fun z => h (by rw [z]; decide)⟩
theorem ord_rel {T : Nat → Int32} {n v : Nat} (hn : n ≤ 60) (hv : v < n) {c g : Nat → Int32} (hc : c 1 = nI v) (hg : g 0 = nI v) :
    hfB T (nI n) c = roB T (nI n) g ∧ hfG T (nI n) c 1 = roG T (nI n) g 1 ∧ hfG T (nI n) c 0 = c 0 ∧ hfG T (nI n) c 5 = c 5
    ∧ (roB T (nI n) g = true → hfG T (nI n) c 2 = T v ∧ (¬ T v = 99 → ¬ T v = 103 → hfG T (nI n) c 3 = roG T (nI n) g 2) ∧ (T v = 119 → hfG T (nI n) c 4 = roG T (nI n) g 3)) := by
  have eL : ltG T (nI n) c 2 = T v := by
    show chI T (nI n) (c 1) = T v
    rw [hc, ch_in hv hn]
  have eR : T (ix (g 0)) = T v := by rw [hg, ix_nI (by omega)]
  have e1 : nxG (ltG T (nI n) c) 1 = ro0 g 1 := by
    show c 1 + 1 = g 0 + 1
    rw [hc, hg]
  have o0 : nxG (ltG T (nI n) c) 0 = c 0 := rfl
  have o5 : nxG (ltG T (nI n) c) 5 = c 5 := rfl
  have o2 : nxG (ltG T (nI n) c) 2 = T v := eL
  unfold hfB hfG roB roG
  rw [eL, eR]
  by_cases i1 : isO (T v) = true
  · rw [if_pos i1, if_pos i1]
    by_cases c1 : T v = 99
    · rw [if_pos c1, if_pos c1, if_pos c1, if_pos c1]
      refine ⟨(rs_cong e1 59).1, (rs_cong e1 59).2, (rs_o _ _ _ _ (by decide)).trans o0, (rs_o _ _ _ _ (by decide)).trans o5, fun _ => ⟨(rs_o _ _ _ _ (by decide)).trans o2, fun z => absurd c1 z, fun z => absurd (c1.symm.trans z) (by decide)⟩⟩
    · rw [if_neg c1, if_neg c1, if_neg c1, if_neg c1]
      by_cases c2 : T v = 103
      · rw [if_pos c2, if_pos c2, if_pos c2, if_pos c2]
        refine ⟨(rs_cong e1 59).1, (rs_cong e1 59).2, (rs_o _ _ _ _ (by decide)).trans o0, (rs_o _ _ _ _ (by decide)).trans o5, fun _ => ⟨(rs_o _ _ _ _ (by decide)).trans o2, fun _ z => absurd c2 z, fun z => absurd (c2.symm.trans z) (by decide)⟩⟩
      · rw [if_neg c2, if_neg c2, if_neg c2, if_neg c2]
        obtain ⟨n1, n2, n3, n4⟩ := hn_rel (T := T) (tn := nI n) e1
        obtain ⟨w1, w2, w3, w4⟩ := hw_rel (T := T) (tn := nI n) e1
        by_cases c6 : T v = 119
        · have m1 : ¬ T v = 108 := fun z => absurd (c6.symm.trans z) (by decide)
          have m2 : ¬ T v = 114 := fun z => absurd (c6.symm.trans z) (by decide)
          have m3 : ¬ T v = 116 := fun z => absurd (c6.symm.trans z) (by decide)
          rw [if_neg m1, if_neg m1, if_neg m2, if_neg m2, if_neg m3, if_neg m3, if_pos c6, if_pos c6, if_pos c6, if_pos c6]
          refine ⟨w1, w2, (w3 0 (by decide) (by decide) (by decide)).trans o0, (w3 5 (by decide) (by decide) (by decide)).trans o5, fun z => ?_⟩
          have z2 := w4 (w1.trans z)
          have z3 : tnB T (nI n) (ro0 g) = true := by
            by_cases y : tnB T (nI n) (ro0 g) = true
            · exact y
            · rw [if_neg y] at z; cases z
          rw [if_pos z3] at z ⊢
          have z4 : rsB T (nI n) (ro2 T (nI n) g) 61 = true := by
            by_cases y : rsB T (nI n) (ro2 T (nI n) g) 61 = true
            · exact y
            · rw [if_neg y] at z; cases z
          rw [if_pos z4] at z ⊢
          have z5 : tnB T (nI n) (ro3 T (nI n) g) = true := by
            by_cases y : tnB T (nI n) (ro3 T (nI n) g) = true
            · exact y
            · rw [if_neg y] at z; cases z
          rw [if_pos z5]
          exact ⟨(w3 2 (by decide) (by decide) (by decide)).trans o2, fun _ _ => z2.1, fun _ => z2.2⟩
        · have fin : (hnB T (nI n) (nxG (ltG T (nI n) c)) = if tnB T (nI n) (ro0 g) = true then rsB T (nI n) (ro2 T (nI n) g) 59 else false) ∧ (hnG T (nI n) (nxG (ltG T (nI n) c)) 1 = (if tnB T (nI n) (ro0 g) = true then rsG T (nI n) (ro2 T (nI n) g) 59 else tnG T (nI n) (ro0 g)) 1) ∧ (hnG T (nI n) (nxG (ltG T (nI n) c)) 0 = c 0) ∧ (hnG T (nI n) (nxG (ltG T (nI n) c)) 5 = c 5) ∧ ((if tnB T (nI n) (ro0 g) = true then rsB T (nI n) (ro2 T (nI n) g) 59 else false) = true → hnG T (nI n) (nxG (ltG T (nI n) c)) 2 = T v ∧ (¬ T v = 99 → ¬ T v = 103 → hnG T (nI n) (nxG (ltG T (nI n) c)) 3 = (if tnB T (nI n) (ro0 g) = true then rsG T (nI n) (ro2 T (nI n) g) 59 else tnG T (nI n) (ro0 g)) 2) ∧ (T v = 119 → hnG T (nI n) (nxG (ltG T (nI n) c)) 4 = (if tnB T (nI n) (ro0 g) = true then rsG T (nI n) (ro2 T (nI n) g) 59 else tnG T (nI n) (ro0 g)) 3)) := by
            refine ⟨n1, n2, (n3 0 (by decide) (by decide)).trans o0, (n3 5 (by decide) (by decide)).trans o5, fun z => ?_⟩
            have z3 : tnB T (nI n) (ro0 g) = true := by
              by_cases y : tnB T (nI n) (ro0 g) = true
              · exact y
              · rw [if_neg y] at z; cases z
            rw [if_pos z3]
            exact ⟨(n3 2 (by decide) (by decide)).trans o2, fun _ _ => n4 z3, fun z => absurd z c6⟩
          rw [if_neg c6, if_neg c6, if_neg c6, if_neg c6]
          by_cases c3 : T v = 108
          · rw [if_pos c3, if_pos c3]; exact fin
          · rw [if_neg c3, if_neg c3]
            by_cases c4 : T v = 114
            · rw [if_pos c4, if_pos c4]; exact fin
            · rw [if_neg c4, if_neg c4]
              by_cases c5 : T v = 116
              · rw [if_pos c5, if_pos c5]; exact fin
              · exact absurd (iso_c i1 c1 c2 c3 c4 c5) c6
  · obtain ⟨m1, m2, m3, m4, m5, m6⟩ := iso_n i1
    rw [if_neg i1, if_neg i1, if_neg m1, if_neg m1, if_neg m2, if_neg m2, if_neg m3, if_neg m3, if_neg m4, if_neg m4, if_neg m5, if_neg m5, if_neg m6, if_neg m6]
    refine ⟨rfl, ?_, rfl, rfl, fun z => by cases z⟩
    show c 1 = g 0
    rw [hc, hg]
