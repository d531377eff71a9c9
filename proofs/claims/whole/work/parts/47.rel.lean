/-! ===== what the law's loop carries: histories agree, every state is sound ===== -/
def hRel (k : Nat) (h : Nat → Int32) (Hs : Nat → St) : Prop := ∀ i j, i < k → j < 180 → h (180 * i + j) = fl (Hs i) j
theorem hRel_keep {k : Nat} {h : Nat → Int32} {Hs : Nat → St} (hk : k ≤ 4) (hr : hRel k h Hs) (G : St) : hRel (kpN k) (hpF k h (fl G)) (kpG k Hs G) := by
  intro i j hi hj
  unfold kpN at hi
  unfold hpF kpG
  by_cases q : k = 4
  · rw [if_pos q] at hi
    rw [if_pos q, if_pos q]
    by_cases q3 : i = 3
    · rw [if_pos q3]
      unfold ptF
      rw [if_pos (by omega), show 180 * i + j - 180 * 3 = j by omega]
    · rw [if_neg q3]
      unfold ptF
      rw [if_neg (by omega)]
      unfold shF
      rw [if_pos (by omega), show 180 * i + j + 180 = 180 * (i + 1) + j by omega, hr (i + 1) j (by omega) hj]
      have hc : i = 0 ∨ i = 1 ∨ i = 2 := by omega
      rcases hc with z | z | z <;> (rw [z]; rfl)
  · rw [if_neg q] at hi
    rw [if_neg q, if_neg q]
    by_cases q3 : i = k
    · rw [if_pos q3]
      unfold ptF
      rw [if_pos (by rw [q3]; omega), q3, show 180 * k + j - 180 * k = j by omega]
    · rw [if_neg q3]
      unfold ptF
      rw [if_neg (by omega)]
      exact hr i j (by omega) hj
theorem kp_all {P : St → Prop} {k : Nat} {Hs : Nat → St} {G : St} (hk : k ≤ 4) (h : ∀ i, i < k → P (Hs i)) (hG : P G) : ∀ i, i < kpN k → P (kpG k Hs G i) := by
  intro i hi
  unfold kpN at hi
  unfold kpG
  by_cases q : k = 4
  · rw [if_pos q] at hi
    rw [if_pos q]
    by_cases q3 : i = 3
    · show P (if i = 3 then G else rtG Hs i)
      rw [if_pos q3]; exact hG
    · show P (if i = 3 then G else rtG Hs i)
      rw [if_neg q3]
      have hc : i = 0 ∨ i = 1 ∨ i = 2 := by omega
      rcases hc with z | z | z <;> (rw [z]; exact h _ (by omega))
  · rw [if_neg q] at hi
    rw [if_neg q]
    show P (if i = k then G else Hs i)
    by_cases q3 : i = k
    · rw [if_pos q3]; exact hG
    · rw [if_neg q3]; exact h i (by omega)
theorem kpN_le (k : Nat) (hk : k ≤ 4) : kpN k ≤ 4 := by
  unfold kpN
  by_cases q : k = 4
  · rw [if_pos q]; exact Nat.le_refl _
  · rw [if_neg q]; omega
/-- sound: the numbers in their ranges, and no dirty line while the battery learns -/
def Snd (G : St) : Prop := Inv G ∧ NoD G
theorem Snd_0 : Snd N0 := by
  refine ⟨⟨⟨fun _ => vN_0 _, fun _ => vN_0 _, fun _ => vN_0 _, fun _ => vN_0 _⟩, ⟨1000, by omega, rfl⟩, ⟨0, by omega, rfl⟩, ⟨0, by omega, rfl⟩, ⟨100, by omega, by omega, rfl⟩, ⟨100, by omega, rfl⟩, ⟨20, by omega, rfl⟩, ⟨200, by omega, by omega, rfl⟩⟩, Or.inl rfl⟩
theorem Snd_lnf {G : St} (h : Snd G) {pl : Nat} (hp : pl < 64) : Snd (lnfG G (nI pl)) := by
  obtain ⟨l0, hl0, el, hI2⟩ := lnf_ok h.1 hp
  exact ⟨hI2, NoD_lnf h.1 h.2 hp⟩
theorem Snd_wpt {G : St} (h : Snd G) {pl : Nat} (hp : pl < 64) {v : Int32} (hv : vN 999 v) : Snd (wptG G (nI pl) v) := ⟨(wpt_ok h.1 hp hv).2, NoD_wpt h.1 h.2 hp v⟩
theorem Snd_flu {G : St} (h : Snd G) (x : Int32) : Snd (fluG G x) := ⟨Inv_flu h.1 x, NoD_flu h.2 x⟩
theorem Snd_tks {G : St} (h : Snd G) (i : Nat) : Snd (tksG G i) := ⟨Inv_tks h.1 i, NoD_tks h.1 h.2 i⟩
theorem Snd_loa {G : St} (h : Snd G) {x : Int32} (hv : vN 100000 x) : Snd (loaG G x) := ⟨Inv_loa h.1 hv, NoD_fls (Inv_use h.1 hv)⟩
theorem Snd_bgc {G : St} (h : Snd G) : Snd (bgcG G) := ⟨Inv_bgc h.1, NoD_fls (Inv_lc h.1)⟩
theorem Snd_cut {G : St} (h : Snd G) : Snd (cutG G) := ⟨Inv_cut h.1, NoD_cut G⟩
theorem Snd_per {T : Nat → Int32} {f : Nat → Int32} {G : St} (h : Snd G) (hr : irR T f = true) (h3 : T (ix (f 0)) = 119 → wth (f 3) 0 999 = true) : Snd (perR T f G) := by
  refine ⟨(Inv_per h.1 hr h3).1, ?_⟩
  unfold perR
  by_cases c1 : T (ix (f 0)) = 99
  · rw [if_pos c1]; exact NoD_cut G
  · rw [if_neg c1]
    by_cases c2 : T (ix (f 0)) = 108
    · rw [if_pos c2]
      exact (Snd_loa h (vN_m (wth_vN (lo := 1) (hi := 999) (n := 999) (by decide) rfl (by decide) (ir_108 hr c2)) (by decide))).2
    · rw [if_neg c2]
      by_cases c3 : T (ix (f 0)) = 114
      · rw [if_pos c3]
        obtain ⟨p9, hp9, ep9⟩ := rg_ex (n := 64) rfl (by decide) (ir_114 hr c3)
        rw [ep9]
        exact (Snd_lnf h hp9).2
      · rw [if_neg c3]
        by_cases c4 : T (ix (f 0)) = 116
        · rw [if_pos c4]; exact (Snd_tks h _).2
        · rw [if_neg c4]
          by_cases c5 : T (ix (f 0)) = 119
          · rw [if_pos c5]
            obtain ⟨p9, hp9, ep9⟩ := rg_ex (n := 64) rfl (by decide) (ir_119 hr c5)
            rw [ep9]
            exact (Snd_wpt h hp9 (wth_vN (lo := 0) (hi := 999) (n := 999) (by decide) rfl (by decide) (h3 c5))).2
          · rw [if_neg c5]; exact (Snd_bgc h).2
theorem Snd_run {T : Nat → Int32} {n : Nat} (hn : n ≤ 60) (k : Nat) : ∀ (f : Nat → Int32) (G : St), vN 60 (f 0) → Snd G → Snd (runR T (nI n) k f G).2.1 := by
  induction k with
  | zero => intro f G _ h; exact h
  | succ k ih =>
    intro f G hv h
    rw [runR_s]
    by_cases c1 : f 0 < nI n
    · rw [if_pos c1]
      by_cases c2 : roB T (nI n) f = true
      · rw [if_pos c2]
        by_cases c3 : irR T (roG T (nI n) f) = true
        · rw [if_pos c3]
          by_cases c4 : posR T (roG T (nI n) f) G = true
          · rw [if_pos c4]
            obtain ⟨v, hv60, ev⟩ := hv
            have hvn : v < n := by
              rw [ev] at c1
              exact (nI_ltI (by omega) (by omega)).mp c1
            obtain ⟨v2, -, hv3, ev2⟩ := ro_vB T hn hvn ev c2
            have g0 : roG T (nI n) f 0 = f 0 := ro_o T (nI n) f (by decide) (by decide) (by decide) (by decide)
            exact ih _ _ ⟨v2, hv3, ev2⟩ (Snd_per h c3 (fun z => ro_3 c2 (by rw [← g0]; exact z)))
          · rw [if_neg c4]; exact h
        · rw [if_neg c3]; exact h
      · rw [if_neg c2]; exact h
    · rw [if_neg c1]; exact h
theorem Snd_bt {T : Nat → Int32} {n : Nat} (hn : n ≤ 60) (f : Nat → Int32) {G : St} (h : Snd G) : Snd (runR T (nI n) 60 (f0R f) G).2.1 := Snd_run hn 60 (f0R f) G ⟨0, by omega, rfl⟩ h
theorem Snd_8 {G : St} (h : Snd G) {j : Nat} {v : Int32} (h0 : j = 0 → ∃ n, 1 ≤ n ∧ n ≤ 500 ∧ v = nI n) (h1 : j = 1 → vN 500 v) (h2 : j = 2 → vN 200 v) (h3 : j = 3 → ∃ n, 1 ≤ n ∧ n ≤ 500 ∧ v = nI n) : Snd (s2 G 8 j v) := by
  obtain ⟨⟨⟨i3, i2, i4, i0⟩, b0, b1, b2, b3, b4, b5, b6⟩, hN⟩ := h
  refine ⟨⟨⟨i3, i2, i4, i0⟩, b0, b1, b2, ?_, ?_, ?_, ?_⟩, NoD_of hN (s2_row _ (by decide) _ _) (s2_row _ (by decide) _ _)⟩
  · by_cases q : j = 0
    · subst q; rw [s2_at]; exact h0 rfl
    · rw [s2_ne _ _ (fun z => q z.symm)]; exact b3
  · by_cases q : j = 1
    · subst q; rw [s2_at]; exact h1 rfl
    · rw [s2_ne _ _ (fun z => q z.symm)]; exact b4
  · by_cases q : j = 2
    · subst q; rw [s2_at]; exact h2 rfl
    · rw [s2_ne _ _ (fun z => q z.symm)]; exact b5
  · by_cases q : j = 3
    · subst q; rw [s2_at]; exact h3 rfl
    · rw [s2_ne _ _ (fun z => q z.symm)]; exact b6
