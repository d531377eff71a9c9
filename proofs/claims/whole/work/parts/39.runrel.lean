/-! ===== all orders in turn: the class's run and the reference's are the same ===== -/
theorem ir_rel {T f g : Nat → Int32} {L : Int32} (h2 : f 2 = L) (hL : T (ix (g 0)) = L) (h3 : ¬ L = 99 → ¬ L = 103 → f 3 = g 2) : irB f = irR T g := by
  unfold irB irR
  rw [h2, hL]
  by_cases a : L = 108
  · have n1 : ¬ L = 114 := fun z => absurd (a.symm.trans z) (by decide)
    have n2 : ¬ L = 119 := fun z => absurd (a.symm.trans z) (by decide)
    have n3 : ¬ L = 116 := fun z => absurd (a.symm.trans z) (by decide)
    rw [if_pos a, if_neg n1, if_neg n2, if_neg n3, if_pos a, h3 (fun z => absurd (a.symm.trans z) (by decide)) (fun z => absurd (a.symm.trans z) (by decide))]
  · rw [if_neg a]
    by_cases b : L = 114
    · rw [if_pos b, if_pos b, h3 (fun z => absurd (b.symm.trans z) (by decide)) (fun z => absurd (b.symm.trans z) (by decide))]
    · rw [if_neg b, if_neg b]
      by_cases k : L = 116
      · have n2 : ¬ L = 119 := fun z => absurd (k.symm.trans z) (by decide)
        rw [if_pos k, if_neg n2, if_pos k, h3 (fun z => absurd (k.symm.trans z) (by decide)) (fun z => absurd (k.symm.trans z) (by decide))]
      · rw [if_neg k]
        by_cases u : L = 119
        · rw [if_pos u, if_pos u, h3 (fun z => absurd (u.symm.trans z) (by decide)) (fun z => absurd (u.symm.trans z) (by decide))]
        · rw [if_neg u, if_neg u, if_neg k, if_neg a]
theorem ir_num {T g : Nat → Int32} {L : Int32} (hL : T (ix (g 0)) = L) (h : ¬ irR T g = true) : ¬ L = 99 ∧ ¬ L = 103 := by
  unfold irR at h
  rw [hL] at h
  refine ⟨fun z => h ?_, fun z => h ?_⟩
  · rw [z, if_neg (by decide), if_neg (by decide), if_neg (by decide), if_neg (by decide)]
  · rw [z, if_neg (by decide), if_neg (by decide), if_neg (by decide), if_neg (by decide)]
theorem per_rel {T f g : Nat → Int32} {G : St} {L : Int32} (h2 : f 2 = L) (hL : T (ix (g 0)) = L) (h3 : ¬ L = 99 → ¬ L = 103 → f 3 = g 2) (h4 : L = 119 → f 4 = g 3) : perG f G = perR T g G := by
  unfold perG perR
  rw [h2, hL]
  by_cases a : L = 99
  · rw [if_pos a, if_pos a]
  · rw [if_neg a, if_neg a]
    by_cases b : L = 108
    · rw [if_pos b, if_pos b, h3 a (fun z => absurd (b.symm.trans z) (by decide))]
    · rw [if_neg b, if_neg b]
      by_cases k : L = 114
      · rw [if_pos k, if_pos k, h3 a (fun z => absurd (k.symm.trans z) (by decide))]
      · rw [if_neg k, if_neg k]
        by_cases u : L = 116
        · rw [if_pos u, if_pos u, h3 a (fun z => absurd (u.symm.trans z) (by decide))]
        · rw [if_neg u, if_neg u]
          by_cases t : L = 119
          · rw [if_pos t, if_pos t, h3 a (fun z => absurd (t.symm.trans z) (by decide)), h4 t]
          · rw [if_neg t, if_neg t]
theorem pos_rel {T f g : Nat → Int32} {G : St} {L : Int32} (h2 : f 2 = L) (hL : T (ix (g 0)) = L) : posB f G = true ↔ posR T g G = true := by
  unfold posB posR
  rw [decide_eq_true_iff, decide_eq_true_iff, h2, hL]
  constructor
  · intro h z
    exact h.resolve_left (fun y => y z)
  · intro h
    by_cases a : L = 103
    · exact Or.inr (h a)
    · exact Or.inl a
theorem u5 (f : Nat → Int32) (v : Int32) : upd f 5 v 5 = v := rfl
theorem u56 (f : Nat → Int32) (v z : Int32) : upd (upd f 5 v) 6 z 5 = v := rfl
def rRel (Rc : (Nat → Int32) × St × Int32) (Rr : (Nat → Int32) × St × Bool) : Prop :=
  Rc.2.1 = Rr.2.1 ∧ (Rr.2.2 = true → Rc.1 5 = 0 ∧ Rc.2.2 = Rr.1 7) ∧ (¬ Rr.2.2 = true → ¬ Rc.1 5 = 0 ∧ Rc.1 0 = Rr.1 0 ∧ Rc.1 5 = Rr.1 5 ∧ (¬ Rc.1 5 = 3 → Rc.1 6 = Rr.1 6) ∧ (Rc.1 5 = 3 → Rr.1 6 = -1000004))
theorem runF_s (T : Nat → Int32) (tn : Int32) (k : Nat) (f : Nat → Int32) (G : St) (d : Int32) : runF T tn (k + 1) f G d = if f 1 < tn then (if rpG T tn f G 5 = 0 then runF T tn k (rpG T tn f G) (perG (rpG T tn f G) G) (d + 1) else (rpG T tn f G, G, d)) else (f, G, d) := rfl
theorem run_rel {T : Nat → Int32} {n : Nat} (hn : n ≤ 60) (k : Nat) : ∀ (f g : Nat → Int32) (G : St) (d : Int32), f 1 = g 0 → vN 60 (g 0) → f 5 = 0 → g 7 = d → rRel (runF T (nI n) k f G d) (runR T (nI n) k g G) := by
  induction k with
  | zero =>
    intro f g G d e1 hv e5 e7
    exact ⟨rfl, fun _ => ⟨e5, e7.symm⟩, fun z => absurd rfl z⟩
  | succ k ih =>
    intro f g G d e1 hv e5 e7
    rw [runF_s, runR_s, e1]
    by_cases c1 : g 0 < nI n
    · rw [if_pos c1, if_pos c1]
      obtain ⟨v, hv60, ev⟩ := hv
      have hvn : v < n := by
        rw [ev] at c1
        exact (nI_ltI (by omega) (by omega)).mp c1
      have hc : st0 f 1 = nI v := by
        show f 1 = nI v
        rw [e1, ev]
      obtain ⟨r1, r2, r3, r4, r5⟩ := ord_rel (T := T) hn hvn hc ev
      have g0 : roG T (nI n) g 0 = nI v := (ro_o T (nI n) g (by decide) (by decide) (by decide) (by decide)).trans ev
      have gL : T (ix (roG T (nI n) g 0)) = T v := by rw [g0, ix_nI (by omega)]
      have a0 : hfG T (nI n) (st0 f) 0 = nI v := by
        rw [r3]
        show f 1 = nI v
        rw [e1, ev]
      have a5 : hfG T (nI n) (st0 f) 5 = 0 := by
        rw [r4]
        exact e5
      by_cases c2 : roB T (nI n) g = true
      · rw [if_pos c2]
        obtain ⟨s1, s2, s3⟩ := r5 c2
        have hfb : hfB T (nI n) (st0 f) = true := r1.trans c2
        have eir := ir_rel (f := hfG T (nI n) (st0 f)) (g := roG T (nI n) g) s1 gL s2
        by_cases c3 : irR T (roG T (nI n) g) = true
        · rw [if_pos c3]
          have erx : rxG T (nI n) f = hfG T (nI n) (st0 f) := by
            unfold rxG
            rw [if_pos hfb, if_pos (eir.trans c3)]
          have hpos := pos_rel (G := G) (f := hfG T (nI n) (st0 f)) (g := roG T (nI n) g) s1 gL
          by_cases c4 : posR T (roG T (nI n) g) G = true
          · rw [if_pos c4]
            have erp : rpG T (nI n) f G = hfG T (nI n) (st0 f) := by
              unfold rpG
              rw [erx, if_pos a5, if_pos (hpos.mpr c4)]
            rw [erp, if_pos a5, per_rel (f := hfG T (nI n) (st0 f)) (g := roG T (nI n) g) s1 gL s2 s3]
            obtain ⟨v2, hv2, hv3, ev2⟩ := ro_vB T hn hvn ev c2
            refine ih _ _ _ _ r2 ⟨v2, hv3, ev2⟩ a5 ?_
            show roG T (nI n) g 7 + 1 = d + 1
            rw [ro_o T (nI n) g (by decide) (by decide) (by decide) (by decide), e7]
          · rw [if_neg c4]
            have erp : rpG T (nI n) f G = upd (hfG T (nI n) (st0 f)) 5 3 := by
              unfold rpG
              rw [erx, if_pos a5, if_neg (fun z => c4 (hpos.mp z))]
            rw [erp, u5, if_neg (show ¬ (3 : Int32) = 0 by decide)]
            exact ⟨rfl, fun z => absurd z Bool.false_ne_true, fun _ => ⟨(by decide : ¬ (3 : Int32) = 0), a0.trans g0.symm, rfl, fun z => absurd rfl z, fun _ => rfl⟩⟩
        · rw [if_neg c3]
          have erx : rxG T (nI n) f = upd (upd (hfG T (nI n) (st0 f)) 5 2) 6 (hfG T (nI n) (st0 f) 3) := by
            unfold rxG
            rw [if_pos hfb, if_neg (fun z => c3 (eir.symm.trans z))]
          have erp : rpG T (nI n) f G = upd (upd (hfG T (nI n) (st0 f)) 5 2) 6 (hfG T (nI n) (st0 f) 3) := by
            unfold rpG
            rw [erx, u56, if_neg (show ¬ (2 : Int32) = 0 by decide)]
          obtain ⟨m1, m2⟩ := ir_num gL c3
          rw [erp, u56, if_neg (show ¬ (2 : Int32) = 0 by decide)]
          exact ⟨rfl, fun z => absurd z Bool.false_ne_true, fun _ => ⟨(by decide : ¬ (2 : Int32) = 0), a0.trans g0.symm, rfl, fun _ => s2 m1 m2, fun z => absurd z (by decide : ¬ (2 : Int32) = 3)⟩⟩
      · rw [if_neg c2]
        have erx : rxG T (nI n) f = upd (upd (hfG T (nI n) (st0 f)) 5 1) 6 (hfG T (nI n) (st0 f) 1 - hfG T (nI n) (st0 f) 0) := by
          unfold rxG
          rw [if_neg (fun z => c2 (r1.symm.trans z))]
        have erp : rpG T (nI n) f G = upd (upd (hfG T (nI n) (st0 f)) 5 1) 6 (hfG T (nI n) (st0 f) 1 - hfG T (nI n) (st0 f) 0) := by
          unfold rpG
          rw [erx, u56, if_neg (show ¬ (1 : Int32) = 0 by decide)]
        rw [erp, u56, if_neg (show ¬ (1 : Int32) = 0 by decide)]
        exact ⟨rfl, fun z => absurd z Bool.false_ne_true, fun _ => ⟨(by decide : ¬ (1 : Int32) = 0), a0.trans g0.symm, rfl, fun _ => (by show hfG T (nI n) (st0 f) 1 - hfG T (nI n) (st0 f) 0 = roG T (nI n) g 1 - roG T (nI n) g 0; rw [r2, a0, g0]), fun z => absurd z (by decide : ¬ (1 : Int32) = 3)⟩⟩
    · rw [if_neg c1, if_neg c1]
      exact ⟨rfl, fun _ => ⟨e5, e7.symm⟩, fun z => absurd rfl z⟩
/-- a text, asked and played from the start -/
theorem run_bt {T : Nat → Int32} {n : Nat} (hn : n ≤ 60) (f g : Nat → Int32) (G : St) : rRel (runF T (nI n) 60 (btG f) G 0) (runR T (nI n) 60 (f0R g) G) :=
  run_rel hn 60 (btG f) (f0R g) G 0 rfl ⟨0, by omega, rfl⟩ rfl rfl
theorem fau_rel {T : Nat → Int32} {n : Nat} (hn : n ≤ 60) (f g : Nat → Int32) (G : St) {a : Int32} (ha : wth a 0 2 = true) : fauI T (nI n) f G a = fauQ T (nI n) g G a := by
  obtain ⟨-, h2, h3⟩ := run_bt (T := T) hn f g G
  unfold fauI fauQ fauR
  by_cases q : (runR T (nI n) 60 (f0R g) G).2.2 = true
  · rw [if_pos q, if_pos (h2 q).1]
  · obtain ⟨k1, k2, k3, k4, k5⟩ := h3 q
    rw [if_neg q, if_neg k1]
    obtain ⟨m, hm, em⟩ := wth_vN (lo := 0) (hi := 2) (n := 2) (by decide) rfl (by decide) ha
    have hm3 : m = 0 ∨ m = 1 ∨ m = 2 := by omega
    rcases hm3 with z | z | z
    · have e : a = 0 := by rw [em, z]; rfl
      rw [e, if_neg (by decide), if_pos rfl, if_pos rfl, k2]
    · have e : a = 1 := by rw [em, z]; rfl
      rw [e, if_neg (by decide), if_neg (by decide), if_pos rfl, if_neg (by decide), if_pos rfl, k3]
    · have e : a = 2 := by rw [em, z]; rfl
      have h20 : ¬ (2 : Int32) = 0 := by decide
      have h21 : ¬ (2 : Int32) = 1 := by decide
      rw [e, if_pos rfl]
      by_cases y : (runF T (nI n) 60 (btG f) G 0).1 5 = 3
      · rw [if_pos y]
        simp only [if_neg h20, if_neg h21]
        exact (k5 y).symm
      · rw [if_neg y]
        simp only [if_neg h20, if_neg h21]
        exact k4 y
