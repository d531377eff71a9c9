/-! ===== both sides of a call at once: one answer, and the worlds agree behind it ===== -/
def okW (cI cS : ClassId) (x : Nat) (o h t : Nat → Nat) (r q : Nat) (u : Nat → Nat) (tb : Nat) (o2 : Nat → Nat) (w6 w7 : va_W) : Prop :=
  ∃ (G : St) (k : Nat) (Hs : Nat → St) (b : Nat → Nat → Nat) (T : Nat → Int32) (nt : Nat) (f : Nat → Int32) (d : Int32) (U B : St) (K hh f7 : Nat → Int32),
    w6 = List.flatten [xTop x o h t r tb, sW cI o G, hH cS h b (nI k), sW cI (b 0) (Hs 0), sW cI (b 1) (Hs 1), sW cI (b 2) (Hs 2), sW cI (b 3) (Hs 3), tW cI t T (nI nt), rW3 r u q d, oW q f, sW cI u U, bW tb B] ∧ w7 = mR cI o2 (fl G) K hh (nI k) T (nI nt) f7 ∧ k ≤ 4 ∧ nt ≤ 60 ∧ Snd G ∧ (∀ i, i < k → Snd (Hs i)) ∧ hRel k hh Hs
def prW (P : va_W → va_W → Prop) (l : Launch) (D : va_G) (tys : List (ClassId × FieldType)) (y6 : MethodName) (ws6 : List Cond) (d6 a6 : Nat) (y7 : MethodName) (ws7 : List Cond) (d7 a7 : Nat) (as : List Value) : Prop :=
  ∀ w6 w7 : va_W, P w6 w7 → ∃ (rv : Int32) (v6 v7 : va_W), xI l y6 ws6 d6 D tys (.ref a6 :: as) w6 rv v6 ∧ xI l y7 ws7 d7 D tys (.ref a7 :: as) w7 rv v7 ∧ P v6 v7
def prZ (P : va_W → va_W → Prop) (l : Launch) (D : va_G) (tys : List (ClassId × FieldType)) (y6 : MethodName) (ws6 : List Cond) (d6 a6 : Nat) (y7 : MethodName) (ws7 : List Cond) (d7 a7 : Nat) (as : List Value) : Prop :=
  ∀ w6 w7 : va_W, P w6 w7 → ∃ (rv : Int32) (v6 v7 : va_W), xIZ l y6 ws6 d6 D tys (.ref a6 :: as) w6 rv v6 ∧ xI l y7 ws7 d7 D tys (.ref a7 :: as) w7 rv v7 ∧ P v6 v7
theorem okW_6 {cI cS : ClassId} {x : Nat} {o h t : Nat → Nat} {r q : Nat} {u : Nat → Nat} {tb : Nat} {o2 : Nat → Nat} {w6 w7 : va_W} (hok : okW cI cS x o h t r q u tb o2 w6 w7) : ∃ fs : List Value, w6[0]? = some (x, .inr (6, fs)) := by
  obtain ⟨G, k, Hs, b, T, nt, f, d, U, B, K, hh, f7, rfl, -⟩ := hok
  exact ⟨_, rfl⟩
theorem okW_7 {cI cS : ClassId} {x : Nat} {o h t : Nat → Nat} {r q : Nat} {u : Nat → Nat} {tb : Nat} {o2 : Nat → Nat} {w6 w7 : va_W} (hok : okW cI cS x o h t r q u tb o2 w6 w7) : ∃ fs : List Value, w7[0]? = some (o2 0, .inr (7, fs)) := by
  obtain ⟨G, k, Hs, b, T, nt, f, d, U, B, K, hh, f7, -, rfl, -⟩ := hok
  exact ⟨_, rfl⟩
theorem lof_no {G : St} {a1 a2 : Int32} (c : ¬ (rg a1 8 = true ∧ wth a2 0 4 = true)) : lofI G a1 a2 = -1000001 := by
  unfold lofI
  by_cases c1 : rg a1 8 = true
  · rw [if_pos c1, if_neg (fun z => c ⟨c1, z⟩)]
  · rw [if_neg c1]
theorem pof_no {G : St} {a1 a2 : Int32} (c : ¬ (rg a1 64 = true ∧ wth a2 0 3 = true)) : pofI G a1 a2 = -1000001 := by
  unfold pofI
  by_cases c1 : rg a1 64 = true
  · rw [if_pos c1, if_neg (fun z => c ⟨c1, z⟩)]
  · rw [if_neg c1]
theorem appN_lt {n : Nat} (h : n < 60) : appN (nI n) = nI (n + 1) := by
  unfold appN
  rw [if_pos (show wth (nI n) 0 59 = true from wth_n (a := 0) (b := 59) rfl rfl (by omega) (by omega) (by decide))]
  exact nI_add n 1
theorem v500 {a2 : Int32} (c : wth a2 1 500 = true) : ∃ n, 1 ≤ n ∧ n ≤ 500 ∧ a2 = nI n := by
  obtain ⟨n, hn, rfl⟩ := wth_vN (lo := 1) (hi := 500) (n := 500) (by decide) rfl (by decide) c
  exact ⟨n, wth_lo (a := 1) (hi := 500) rfl (by omega) (by decide) c, hn, rfl⟩
theorem lo_hi : (loF (ix 0) = 1 ∧ hiF (ix 0) = 500) ∧ (loF (ix 1) = 0 ∧ hiF (ix 1) = 500) ∧ (loF (ix 2) = 0 ∧ hiF (ix 2) = 200) ∧ (loF (ix 3) = 1 ∧ hiF (ix 3) = 500) := by decide +kernel
theorem stg_yes (G : St) : stgI G 0 = G 8 0 ∧ stgI G 1 = G 8 1 ∧ stgI G 2 = G 8 2 ∧ stgI G 3 = G 8 3 := by
  refine ⟨?_, ?_, ?_, ?_⟩ <;> unfold stgI
  · rw [if_pos rfl]
  · rw [if_neg (by decide), if_pos rfl]
  · rw [if_neg (by decide), if_neg (by decide), if_pos rfl]
  · rw [if_neg (by decide), if_neg (by decide), if_neg (by decide)]
theorem rg_4 {x : Int32} (h : rg x 4 = true) : x = 0 ∨ x = 1 ∨ x = 2 ∨ x = 3 := by
  obtain ⟨n, hn, rfl⟩ := rg_ex (n := 4) rfl (by decide) h
  rcases (show n = 0 ∨ n = 1 ∨ n = 2 ∨ n = 3 by omega) with q | q | q | q <;> subst q
  · exact Or.inl rfl
  · exact Or.inr (Or.inl rfl)
  · exact Or.inr (Or.inr (Or.inl rfl))
  · exact Or.inr (Or.inr (Or.inr rfl))

theorem pr_read (l : Launch) (D : va_G) (cI cS : ClassId) (tys : List (ClassId × FieldType)) (ht0 : tys[0]? = some (cI, .int)) (ht1 : tys[1]? = some (cS, .object RX4)) (x : Nat) (o h t : Nat → Nat) (r q : Nat) (u : Nat → Nat) (tb : Nat) (o2 : Nat → Nat) (a1 : Int32) : prW (okW cI cS x o h t r q u tb o2) l D tys yX6_read wsX6_read 5 x yX7_read wsX7_read 5 (o2 0) [.int a1] := by
  intro w6 w7 hok
  obtain ⟨G, k, Hs, b, T, nt, f, d, U, B, K, hh, f7, rfl, rfl, hk, hnt, hS, hHs, hR⟩ := hok
  by_cases c : rg a1 64 = true
  · obtain ⟨pl, hp, rfl⟩ := rg_ex (n := 64) rfl (by decide) c
    exact ⟨_, _, _, (k_X6_read_ok l D cI cS tys ht0 ht1 x o h b t r q u tb G k Hs T (nI nt) f d U B _ c hk), k_X7_read_ok l D cI cS tys ht0 o2 G K hh T (nI nt) f7 pl k hp hS.1 hk, ⟨lnfG G (nI pl), kpN k, kpG k Hs G, kpA k b, T, nt, f, d, U, B, fl G, hpF k hh (fl G), f7, rfl, rfl, kpN_le k hk, hnt, Snd_lnf hS hp, kp_all hk hHs hS, hRel_keep hk hR G⟩⟩
  · exact ⟨_, _, _, (k_X6_read_no l D cI cS tys ht0 ht1 x o h b t r q u tb G k Hs T (nI nt) f d U B _ c), k_X7_read_no l D cI cS tys ht0 o2 G K hh (nI k) T (nI nt) f7 a1 c, ⟨G, k, Hs, b, T, nt, f, d, U, B, fl G, hh, f7, rfl, rfl, hk, hnt, hS, hHs, hR⟩⟩
theorem pr_write (l : Launch) (D : va_G) (cI cS : ClassId) (tys : List (ClassId × FieldType)) (ht0 : tys[0]? = some (cI, .int)) (ht1 : tys[1]? = some (cS, .object RX4)) (x : Nat) (o h t : Nat → Nat) (r q : Nat) (u : Nat → Nat) (tb : Nat) (o2 : Nat → Nat) (a1 : Int32) (a2 : Int32) : prW (okW cI cS x o h t r q u tb o2) l D tys yX6_write wsX6_write 5 x yX7_write wsX7_write 5 (o2 0) [.int a1, .int a2] := by
  intro w6 w7 hok
  obtain ⟨G, k, Hs, b, T, nt, f, d, U, B, K, hh, f7, rfl, rfl, hk, hnt, hS, hHs, hR⟩ := hok
  by_cases c : rg a1 64 = true ∧ wth a2 0 999 = true
  · obtain ⟨pl, hp, rfl⟩ := rg_ex (n := 64) rfl (by decide) c.1
    exact ⟨_, _, _, (k_X6_write_ok l D cI cS tys ht0 ht1 x o h b t r q u tb G k Hs T (nI nt) f d U B _ _ c.1 c.2 hk), k_X7_write_ok l D cI cS tys ht0 o2 G K hh T (nI nt) f7 pl a2 k hp c.2 hS.1 hk, ⟨wptG G (nI pl) a2, kpN k, kpG k Hs G, kpA k b, T, nt, f, d, U, B, fl G, hpF k hh (fl G), f7, rfl, rfl, kpN_le k hk, hnt, Snd_wpt hS hp (wth_vN (lo := 0) (hi := 999) (n := 999) (by decide) rfl (by decide) c.2), kp_all hk hHs hS, hRel_keep hk hR G⟩⟩
  · exact ⟨_, _, _, (k_X6_write_no l D cI cS tys ht0 ht1 x o h b t r q u tb G k Hs T (nI nt) f d U B _ _ c), k_X7_write_no l D cI cS tys ht0 o2 G K hh (nI k) T (nI nt) f7 a1 a2 c, ⟨G, k, Hs, b, T, nt, f, d, U, B, fl G, hh, f7, rfl, rfl, hk, hnt, hS, hHs, hR⟩⟩
theorem pr_flush (l : Launch) (D : va_G) (cI cS : ClassId) (tys : List (ClassId × FieldType)) (ht0 : tys[0]? = some (cI, .int)) (ht1 : tys[1]? = some (cS, .object RX4)) (x : Nat) (o h t : Nat → Nat) (r q : Nat) (u : Nat → Nat) (tb : Nat) (o2 : Nat → Nat) (a1 : Int32) : prW (okW cI cS x o h t r q u tb o2) l D tys yX6_flush wsX6_flush 4 x yX7_flush wsX7_flush 4 (o2 0) [.int a1] := by
  intro w6 w7 hok
  obtain ⟨G, k, Hs, b, T, nt, f, d, U, B, K, hh, f7, rfl, rfl, hk, hnt, hS, hHs, hR⟩ := hok
  by_cases c : rg a1 8 = true
  · obtain ⟨l1, hl1, rfl⟩ := rg_ex (n := 8) rfl (by decide) c
    have e1 : ix (nI l1) = l1 := ix_nI (by omega)
    by_cases c2 : G 2 l1 = 2
    · exact ⟨_, _, _, (k_X6_flush_ok l D cI cS tys ht0 ht1 x o h b t r q u tb G k Hs T (nI nt) f d U B _ c (by rw [e1]; exact c2) hk), k_X7_flush_ok l D cI cS tys ht0 o2 G K hh T (nI nt) f7 l1 k hl1 c2 hS.1 hk, ⟨fluG G (nI l1), kpN k, kpG k Hs G, kpA k b, T, nt, f, d, U, B, fl G, hpF k hh (fl G), f7, rfl, rfl, kpN_le k hk, hnt, Snd_flu hS _, kp_all hk hHs hS, hRel_keep hk hR G⟩⟩
    · exact ⟨_, _, _, (k_X6_flush_np l D cI cS tys ht0 ht1 x o h b t r q u tb G k Hs T (nI nt) f d U B _ c (by rw [e1]; exact c2)), k_X7_flush_np l D cI cS tys ht0 o2 G K hh (nI k) T (nI nt) f7 l1 hl1 c2, ⟨G, k, Hs, b, T, nt, f, d, U, B, fl G, hh, f7, rfl, rfl, hk, hnt, hS, hHs, hR⟩⟩
  · exact ⟨_, _, _, (k_X6_flush_no l D cI cS tys ht0 ht1 x o h b t r q u tb G k Hs T (nI nt) f d U B _ c), k_X7_flush_no l D cI cS tys ht0 o2 G K hh (nI k) T (nI nt) f7 a1 c, ⟨G, k, Hs, b, T, nt, f, d, U, B, fl G, hh, f7, rfl, rfl, hk, hnt, hS, hHs, hR⟩⟩
theorem pr_tick (l : Launch) (D : va_G) (cI cS : ClassId) (tys : List (ClassId × FieldType)) (ht0 : tys[0]? = some (cI, .int)) (ht1 : tys[1]? = some (cS, .object RX4)) (x : Nat) (o h t : Nat → Nat) (r q : Nat) (u : Nat → Nat) (tb : Nat) (o2 : Nat → Nat) (a1 : Int32) : prW (okW cI cS x o h t r q u tb o2) l D tys yX6_tick wsX6_tick 5 x yX7_tick wsX7_tick 6 (o2 0) [.int a1] := by
  intro w6 w7 hok
  obtain ⟨G, k, Hs, b, T, nt, f, d, U, B, K, hh, f7, rfl, rfl, hk, hnt, hS, hHs, hR⟩ := hok
  by_cases c : wth a1 1 99 = true
  · exact ⟨_, _, _, (k_X6_tick_ok l D cI cS tys ht0 ht1 x o h b t r q u tb G k Hs T (nI nt) f d U B _ c hk), k_X7_tick_ok l D cI cS tys ht0 o2 G K hh T (nI nt) f7 a1 k c hS.1 hk, ⟨tksG G (ix a1), kpN k, kpG k Hs G, kpA k b, T, nt, f, d, U, B, fl G, hpF k hh (fl G), f7, rfl, rfl, kpN_le k hk, hnt, Snd_tks hS _, kp_all hk hHs hS, hRel_keep hk hR G⟩⟩
  · exact ⟨_, _, _, (k_X6_tick_no l D cI cS tys ht0 ht1 x o h b t r q u tb G k Hs T (nI nt) f d U B _ c), k_X7_tick_no l D cI cS tys ht0 o2 G K hh (nI k) T (nI nt) f7 a1 c, ⟨G, k, Hs, b, T, nt, f, d, U, B, fl G, hh, f7, rfl, rfl, hk, hnt, hS, hHs, hR⟩⟩
theorem pr_load (l : Launch) (D : va_G) (cI cS : ClassId) (tys : List (ClassId × FieldType)) (ht0 : tys[0]? = some (cI, .int)) (ht1 : tys[1]? = some (cS, .object RX4)) (x : Nat) (o h t : Nat → Nat) (r q : Nat) (u : Nat → Nat) (tb : Nat) (o2 : Nat → Nat) (a1 : Int32) : prW (okW cI cS x o h t r q u tb o2) l D tys yX6_load wsX6_load 5 x yX7_load wsX7_load 5 (o2 0) [.int a1] := by
  intro w6 w7 hok
  obtain ⟨G, k, Hs, b, T, nt, f, d, U, B, K, hh, f7, rfl, rfl, hk, hnt, hS, hHs, hR⟩ := hok
  by_cases c : wth a1 1 999 = true
  · exact ⟨_, _, _, (k_X6_load_ok l D cI cS tys ht0 ht1 x o h b t r q u tb G k Hs T (nI nt) f d U B _ c hk), k_X7_load_ok l D cI cS tys ht0 o2 G K hh T (nI nt) f7 a1 k c hS.1 hk, ⟨loaG G a1, kpN k, kpG k Hs G, kpA k b, T, nt, f, d, U, B, fl G, hpF k hh (fl G), f7, rfl, rfl, kpN_le k hk, hnt, Snd_loa hS (vN_m (wth_vN (lo := 1) (hi := 999) (n := 999) (by decide) rfl (by decide) c) (by decide)), kp_all hk hHs hS, hRel_keep hk hR G⟩⟩
  · exact ⟨_, _, _, (k_X6_load_no l D cI cS tys ht0 ht1 x o h b t r q u tb G k Hs T (nI nt) f d U B _ c), k_X7_load_no l D cI cS tys ht0 o2 G K hh (nI k) T (nI nt) f7 a1 c, ⟨G, k, Hs, b, T, nt, f, d, U, B, fl G, hh, f7, rfl, rfl, hk, hnt, hS, hHs, hR⟩⟩
theorem pr_learn (l : Launch) (D : va_G) (cI cS : ClassId) (tys : List (ClassId × FieldType)) (ht0 : tys[0]? = some (cI, .int)) (ht1 : tys[1]? = some (cS, .object RX4)) (x : Nat) (o h t : Nat → Nat) (r q : Nat) (u : Nat → Nat) (tb : Nat) (o2 : Nat → Nat) : prW (okW cI cS x o h t r q u tb o2) l D tys yX6_learn wsX6_learn 5 x yX7_learn wsX7_learn 5 (o2 0) [] := by
  intro w6 w7 hok
  obtain ⟨G, k, Hs, b, T, nt, f, d, U, B, K, hh, f7, rfl, rfl, hk, hnt, hS, hHs, hR⟩ := hok
  by_cases c : G 6 2 = 0
  · exact ⟨_, _, _, (k_X6_learn_ok l D cI cS tys ht0 ht1 x o h b t r q u tb G k Hs T (nI nt) f d U B c hk), k_X7_learn_ok l D cI cS tys ht0 o2 G K hh T (nI nt) f7 k c hS.1 hk, ⟨bgcG G, kpN k, kpG k Hs G, kpA k b, T, nt, f, d, U, B, fl G, hpF k hh (fl G), f7, rfl, rfl, kpN_le k hk, hnt, Snd_bgc hS, kp_all hk hHs hS, hRel_keep hk hR G⟩⟩
  · exact ⟨_, _, _, (k_X6_learn_np l D cI cS tys ht0 ht1 x o h b t r q u tb G k Hs T (nI nt) f d U B c), k_X7_learn_np l D cI cS tys ht0 o2 G K hh (nI k) T (nI nt) f7 c, ⟨G, k, Hs, b, T, nt, f, d, U, B, fl G, hh, f7, rfl, rfl, hk, hnt, hS, hHs, hR⟩⟩
theorem pr_cut (l : Launch) (D : va_G) (cI cS : ClassId) (tys : List (ClassId × FieldType)) (ht0 : tys[0]? = some (cI, .int)) (ht1 : tys[1]? = some (cS, .object RX4)) (x : Nat) (o h t : Nat → Nat) (r q : Nat) (u : Nat → Nat) (tb : Nat) (o2 : Nat → Nat) : prW (okW cI cS x o h t r q u tb o2) l D tys yX6_cut wsX6_cut 5 x yX7_cut wsX7_cut 4 (o2 0) [] := by
  intro w6 w7 hok
  obtain ⟨G, k, Hs, b, T, nt, f, d, U, B, K, hh, f7, rfl, rfl, hk, hnt, hS, hHs, hR⟩ := hok
  exact ⟨_, _, _, (k_X6_cut l D cI cS tys ht0 ht1 x o h b t r q u tb G k Hs T (nI nt) f d U B hk), k_X7_cut_ok l D cI cS tys ht0 o2 G K hh T (nI nt) f7 k hS.1 hk, ⟨cutG G, kpN k, kpG k Hs G, kpA k b, T, nt, f, d, U, B, fl G, hpF k hh (fl G), f7, rfl, rfl, kpN_le k hk, hnt, Snd_cut hS, kp_all hk hHs hS, hRel_keep hk hR G⟩⟩
theorem pr_set (l : Launch) (D : va_G) (cI cS : ClassId) (tys : List (ClassId × FieldType)) (ht0 : tys[0]? = some (cI, .int)) (ht1 : tys[1]? = some (cS, .object RX4)) (x : Nat) (o h t : Nat → Nat) (r q : Nat) (u : Nat → Nat) (tb : Nat) (o2 : Nat → Nat) (a1 : Int32) (a2 : Int32) : prZ (okW cI cS x o h t r q u tb o2) l D tys yX6_set wsX6_set 4 x yX7_set wsX7_set 2 (o2 0) [.int a1, .int a2] := by
  intro w6 w7 hok
  obtain ⟨G, k, Hs, b, T, nt, f, d, U, B, K, hh, f7, rfl, rfl, hk, hnt, hS, hHs, hR⟩ := hok
  by_cases g0 : a1 = 0
  · subst g0
    by_cases c : wth a2 1 500 = true
    · have c6 := (k_X6_set_ok l D cI cS tys ht0 ht1 x o h b t r q u tb G k Hs T (nI nt) f d U B 0 a2 (by decide) (by rw [lo_hi.1.1, lo_hi.1.2]; exact c) hk)
      rw [(stg_yes G).1, (s2_yes8 G a2).1] at c6
      exact ⟨_, _, _, c6, k_X7_set_0 l D cI cS tys ht0 o2 G K hh T (nI nt) f7 a2 k c hS.1 hk, ⟨s2 G 8 0 a2, kpN k, kpG k Hs G, kpA k b, T, nt, f, d, U, B, fl G, hpF k hh (fl G), f7, rfl, rfl, kpN_le k hk, hnt, Snd_8 hS (fun _ => v500 c) (fun z => absurd z (by decide)) (fun z => absurd z (by decide)) (fun z => absurd z (by decide)), kp_all hk hHs hS, hRel_keep hk hR G⟩⟩
    · exact ⟨_, _, _, (k_X6_set_no l D cI cS tys ht0 ht1 x o h b t r q u tb G k Hs T (nI nt) f d U B 0 a2 (fun z => c (by have z2 := z.2; rw [lo_hi.1.1, lo_hi.1.2] at z2; exact z2))), k_X7_set_n0 l D cI cS tys ht0 o2 G K hh (nI k) T (nI nt) f7 a2 c, ⟨G, k, Hs, b, T, nt, f, d, U, B, fl G, hh, f7, rfl, rfl, hk, hnt, hS, hHs, hR⟩⟩
  by_cases g1 : a1 = 1
  · subst g1
    by_cases c : wth a2 0 500 = true
    · have c6 := (k_X6_set_ok l D cI cS tys ht0 ht1 x o h b t r q u tb G k Hs T (nI nt) f d U B 1 a2 (by decide) (by rw [lo_hi.2.1.1, lo_hi.2.1.2]; exact c) hk)
      rw [(stg_yes G).2.1, (s2_yes8 G a2).2.1] at c6
      exact ⟨_, _, _, c6, k_X7_set_1 l D cI cS tys ht0 o2 G K hh T (nI nt) f7 a2 k c hS.1 hk, ⟨s2 G 8 1 a2, kpN k, kpG k Hs G, kpA k b, T, nt, f, d, U, B, fl G, hpF k hh (fl G), f7, rfl, rfl, kpN_le k hk, hnt, Snd_8 hS (fun z => absurd z (by decide)) (fun _ => wth_vN (lo := 0) (hi := 500) (n := 500) (by decide) rfl (by decide) c) (fun z => absurd z (by decide)) (fun z => absurd z (by decide)), kp_all hk hHs hS, hRel_keep hk hR G⟩⟩
    · exact ⟨_, _, _, (k_X6_set_no l D cI cS tys ht0 ht1 x o h b t r q u tb G k Hs T (nI nt) f d U B 1 a2 (fun z => c (by have z2 := z.2; rw [lo_hi.2.1.1, lo_hi.2.1.2] at z2; exact z2))), k_X7_set_n1 l D cI cS tys ht0 o2 G K hh (nI k) T (nI nt) f7 a2 c, ⟨G, k, Hs, b, T, nt, f, d, U, B, fl G, hh, f7, rfl, rfl, hk, hnt, hS, hHs, hR⟩⟩
  by_cases g2 : a1 = 2
  · subst g2
    by_cases c : wth a2 0 200 = true
    · have c6 := (k_X6_set_ok l D cI cS tys ht0 ht1 x o h b t r q u tb G k Hs T (nI nt) f d U B 2 a2 (by decide) (by rw [lo_hi.2.2.1.1, lo_hi.2.2.1.2]; exact c) hk)
      rw [(stg_yes G).2.2.1, (s2_yes8 G a2).2.2.1] at c6
      exact ⟨_, _, _, c6, k_X7_set_2 l D cI cS tys ht0 o2 G K hh T (nI nt) f7 a2 k c hS.1 hk, ⟨s2 G 8 2 a2, kpN k, kpG k Hs G, kpA k b, T, nt, f, d, U, B, fl G, hpF k hh (fl G), f7, rfl, rfl, kpN_le k hk, hnt, Snd_8 hS (fun z => absurd z (by decide)) (fun z => absurd z (by decide)) (fun _ => wth_vN (lo := 0) (hi := 200) (n := 200) (by decide) rfl (by decide) c) (fun z => absurd z (by decide)), kp_all hk hHs hS, hRel_keep hk hR G⟩⟩
    · exact ⟨_, _, _, (k_X6_set_no l D cI cS tys ht0 ht1 x o h b t r q u tb G k Hs T (nI nt) f d U B 2 a2 (fun z => c (by have z2 := z.2; rw [lo_hi.2.2.1.1, lo_hi.2.2.1.2] at z2; exact z2))), k_X7_set_n2 l D cI cS tys ht0 o2 G K hh (nI k) T (nI nt) f7 a2 c, ⟨G, k, Hs, b, T, nt, f, d, U, B, fl G, hh, f7, rfl, rfl, hk, hnt, hS, hHs, hR⟩⟩
  by_cases g3 : a1 = 3
  · subst g3
    by_cases c : wth a2 1 500 = true
    · have c6 := (k_X6_set_ok l D cI cS tys ht0 ht1 x o h b t r q u tb G k Hs T (nI nt) f d U B 3 a2 (by decide) (by rw [lo_hi.2.2.2.1, lo_hi.2.2.2.2]; exact c) hk)
      rw [(stg_yes G).2.2.2, (s2_yes8 G a2).2.2.2] at c6
      exact ⟨_, _, _, c6, k_X7_set_3 l D cI cS tys ht0 o2 G K hh T (nI nt) f7 a2 k c hS.1 hk, ⟨s2 G 8 3 a2, kpN k, kpG k Hs G, kpA k b, T, nt, f, d, U, B, fl G, hpF k hh (fl G), f7, rfl, rfl, kpN_le k hk, hnt, Snd_8 hS (fun z => absurd z (by decide)) (fun z => absurd z (by decide)) (fun z => absurd z (by decide)) (fun _ => v500 c), kp_all hk hHs hS, hRel_keep hk hR G⟩⟩
    · exact ⟨_, _, _, (k_X6_set_no l D cI cS tys ht0 ht1 x o h b t r q u tb G k Hs T (nI nt) f d U B 3 a2 (fun z => c (by have z2 := z.2; rw [lo_hi.2.2.2.1, lo_hi.2.2.2.2] at z2; exact z2))), k_X7_set_n3 l D cI cS tys ht0 o2 G K hh (nI k) T (nI nt) f7 a2 c, ⟨G, k, Hs, b, T, nt, f, d, U, B, fl G, hh, f7, rfl, rfl, hk, hnt, hS, hHs, hR⟩⟩
  exact ⟨_, _, _, (k_X6_set_no l D cI cS tys ht0 ht1 x o h b t r q u tb G k Hs T (nI nt) f d U B a1 a2 (fun z => (rg_4 z.1).elim g0 (fun z => z.elim g1 (fun z => z.elim g2 g3)))), k_X7_set_nx l D cI cS tys ht0 o2 G K hh (nI k) T (nI nt) f7 a1 a2 g0 g1 g2 g3, ⟨G, k, Hs, b, T, nt, f, d, U, B, fl G, hh, f7, rfl, rfl, hk, hnt, hS, hHs, hR⟩⟩
theorem pr_lineOf (l : Launch) (D : va_G) (cI cS : ClassId) (tys : List (ClassId × FieldType)) (ht0 : tys[0]? = some (cI, .int)) (ht1 : tys[1]? = some (cS, .object RX4)) (x : Nat) (o h t : Nat → Nat) (r q : Nat) (u : Nat → Nat) (tb : Nat) (o2 : Nat → Nat) (a1 : Int32) (a2 : Int32) : prW (okW cI cS x o h t r q u tb o2) l D tys yX6_lineOf wsX6_lineOf 2 x yX7_lineOf wsX7_lineOf 2 (o2 0) [.int a1, .int a2] := by
  intro w6 w7 hok
  obtain ⟨G, k, Hs, b, T, nt, f, d, U, B, K, hh, f7, rfl, rfl, hk, hnt, hS, hHs, hR⟩ := hok
  by_cases c : rg a1 8 = true ∧ wth a2 0 4 = true
  · obtain ⟨l1, hl1, rfl⟩ := rg_ex (n := 8) rfl (by decide) c.1
    exact ⟨_, _, _, (k_X6_lineOf l D cI cS tys ht0 ht1 x o h b t r q u tb G k Hs T (nI nt) f d U B _ _), k_X7_lineOf_ok l D cI cS tys ht0 o2 G K hh (nI k) T (nI nt) f7 l1 a2 hl1 c.2 hS.1, ⟨G, k, Hs, b, T, nt, f, d, U, B, K, hh, f7, rfl, rfl, hk, hnt, hS, hHs, hR⟩⟩
  · have c6 := (k_X6_lineOf l D cI cS tys ht0 ht1 x o h b t r q u tb G k Hs T (nI nt) f d U B a1 a2)
    rw [lof_no c] at c6
    exact ⟨_, _, _, c6, k_X7_lineOf_no l D cI cS tys ht0 o2 G K hh (nI k) T (nI nt) f7 a1 a2 c, ⟨G, k, Hs, b, T, nt, f, d, U, B, K, hh, f7, rfl, rfl, hk, hnt, hS, hHs, hR⟩⟩
theorem pr_placeOf (l : Launch) (D : va_G) (cI cS : ClassId) (tys : List (ClassId × FieldType)) (ht0 : tys[0]? = some (cI, .int)) (ht1 : tys[1]? = some (cS, .object RX4)) (x : Nat) (o h t : Nat → Nat) (r q : Nat) (u : Nat → Nat) (tb : Nat) (o2 : Nat → Nat) (a1 : Int32) (a2 : Int32) : prW (okW cI cS x o h t r q u tb o2) l D tys yX6_placeOf wsX6_placeOf 1 x yX7_placeOf wsX7_placeOf 2 (o2 0) [.int a1, .int a2] := by
  intro w6 w7 hok
  obtain ⟨G, k, Hs, b, T, nt, f, d, U, B, K, hh, f7, rfl, rfl, hk, hnt, hS, hHs, hR⟩ := hok
  by_cases c : rg a1 64 = true ∧ wth a2 0 3 = true
  · obtain ⟨pl, hp, rfl⟩ := rg_ex (n := 64) rfl (by decide) c.1
    exact ⟨_, _, _, (k_X6_placeOf l D cI cS tys ht0 ht1 x o h b t r q u tb G k Hs T (nI nt) f d U B _ _), k_X7_placeOf_ok l D cI cS tys ht0 o2 G K hh (nI k) T (nI nt) f7 pl a2 hp c.2 hS.1, ⟨G, k, Hs, b, T, nt, f, d, U, B, K, hh, f7, rfl, rfl, hk, hnt, hS, hHs, hR⟩⟩
  · have c6 := (k_X6_placeOf l D cI cS tys ht0 ht1 x o h b t r q u tb G k Hs T (nI nt) f d U B a1 a2)
    rw [pof_no c] at c6
    exact ⟨_, _, _, c6, k_X7_placeOf_no l D cI cS tys ht0 o2 G K hh (nI k) T (nI nt) f7 a1 a2 c, ⟨G, k, Hs, b, T, nt, f, d, U, B, K, hh, f7, rfl, rfl, hk, hnt, hS, hHs, hR⟩⟩
theorem pr_battery (l : Launch) (D : va_G) (cI cS : ClassId) (tys : List (ClassId × FieldType)) (ht0 : tys[0]? = some (cI, .int)) (ht1 : tys[1]? = some (cS, .object RX4)) (x : Nat) (o h t : Nat → Nat) (r q : Nat) (u : Nat → Nat) (tb : Nat) (o2 : Nat → Nat) (a1 : Int32) : prW (okW cI cS x o h t r q u tb o2) l D tys yX6_battery wsX6_battery 3 x yX7_battery wsX7_battery 2 (o2 0) [.int a1] := by
  intro w6 w7 hok
  obtain ⟨G, k, Hs, b, T, nt, f, d, U, B, K, hh, f7, rfl, rfl, hk, hnt, hS, hHs, hR⟩ := hok
  exact ⟨_, _, _, (k_X6_battery l D cI cS tys ht0 ht1 x o h b t r q u tb G k Hs T (nI nt) f d U B _), k_X7_battery l D cI cS tys ht0 o2 G K hh (nI k) T (nI nt) f7 a1 hS.1, ⟨G, k, Hs, b, T, nt, f, d, U, B, K, hh, f7, rfl, rfl, hk, hnt, hS, hHs, hR⟩⟩
theorem pr_lines (l : Launch) (D : va_G) (cI cS : ClassId) (tys : List (ClassId × FieldType)) (ht0 : tys[0]? = some (cI, .int)) (ht1 : tys[1]? = some (cS, .object RX4)) (x : Nat) (o h t : Nat → Nat) (r q : Nat) (u : Nat → Nat) (tb : Nat) (o2 : Nat → Nat) (a1 : Int32) : prW (okW cI cS x o h t r q u tb o2) l D tys yX6_lines wsX6_lines 4 x yX7_lines wsX7_lines 3 (o2 0) [.int a1] := by
  intro w6 w7 hok
  obtain ⟨G, k, Hs, b, T, nt, f, d, U, B, K, hh, f7, rfl, rfl, hk, hnt, hS, hHs, hR⟩ := hok
  exact ⟨_, _, _, (k_X6_lines l D cI cS tys ht0 ht1 x o h b t r q u tb G k Hs T (nI nt) f d U B _), k_X7_lines l D cI cS tys ht0 o2 G K hh (nI k) T (nI nt) f7 a1 hS.1, ⟨G, k, Hs, b, T, nt, f, d, U, B, K, hh, f7, rfl, rfl, hk, hnt, hS, hHs, hR⟩⟩
theorem pr_wouldFlush (l : Launch) (D : va_G) (cI cS : ClassId) (tys : List (ClassId × FieldType)) (ht0 : tys[0]? = some (cI, .int)) (ht1 : tys[1]? = some (cS, .object RX4)) (x : Nat) (o h t : Nat → Nat) (r q : Nat) (u : Nat → Nat) (tb : Nat) (o2 : Nat → Nat) (a1 : Int32) : prW (okW cI cS x o h t r q u tb o2) l D tys yX6_wouldFlush wsX6_wouldFlush 3 x yX7_wouldFlush wsX7_wouldFlush 5 (o2 0) [.int a1] := by
  intro w6 w7 hok
  obtain ⟨G, k, Hs, b, T, nt, f, d, U, B, K, hh, f7, rfl, rfl, hk, hnt, hS, hHs, hR⟩ := hok
  by_cases c : wth a1 1 999 = true
  · exact ⟨_, _, _, (k_X6_wouldFlush_ok l D cI cS tys ht0 ht1 x o h b t r q u tb G k Hs T (nI nt) f d U B _ c), k_X7_wouldFlush l D cI cS tys ht0 o2 G K hh (nI k) T (nI nt) f7 a1 c hS.1, ⟨G, k, Hs, b, T, nt, f, d, U, useG G a1, fl G, hh, f7, rfl, rfl, hk, hnt, hS, hHs, hR⟩⟩
  · exact ⟨_, _, _, (k_X6_wouldFlush_no l D cI cS tys ht0 ht1 x o h b t r q u tb G k Hs T (nI nt) f d U B _ c), k_X7_wouldFlush_no l D cI cS tys ht0 o2 G K hh (nI k) T (nI nt) f7 a1 c, ⟨G, k, Hs, b, T, nt, f, d, U, B, fl G, hh, f7, rfl, rfl, hk, hnt, hS, hHs, hR⟩⟩
theorem pr_critical (l : Launch) (D : va_G) (cI cS : ClassId) (tys : List (ClassId × FieldType)) (ht0 : tys[0]? = some (cI, .int)) (ht1 : tys[1]? = some (cS, .object RX4)) (x : Nat) (o h t : Nat → Nat) (r q : Nat) (u : Nat → Nat) (tb : Nat) (o2 : Nat → Nat) : prW (okW cI cS x o h t r q u tb o2) l D tys yX6_critical wsX6_critical 2 x yX7_critical wsX7_critical 6 (o2 0) [] := by
  intro w6 w7 hok
  obtain ⟨G, k, Hs, b, T, nt, f, d, U, B, K, hh, f7, rfl, rfl, hk, hnt, hS, hHs, hR⟩ := hok
  exact ⟨_, _, _, (k_X6_critical l D cI cS tys ht0 ht1 x o h b t r q u tb G k Hs T (nI nt) f d U B ), k_X7_critical l D cI cS tys ht0 o2 G K hh (nI k) T (nI nt) f7 hS.1 hS.2, ⟨G, k, Hs, b, T, nt, f, d, U, B, fl G, hh, f7, rfl, rfl, hk, hnt, hS, hHs, hR⟩⟩
theorem pr_ticksUntil (l : Launch) (D : va_G) (cI cS : ClassId) (tys : List (ClassId × FieldType)) (ht0 : tys[0]? = some (cI, .int)) (ht1 : tys[1]? = some (cS, .object RX4)) (x : Nat) (o h t : Nat → Nat) (r q : Nat) (u : Nat → Nat) (tb : Nat) (o2 : Nat → Nat) (a1 : Int32) : prW (okW cI cS x o h t r q u tb o2) l D tys yX6_ticksUntil wsX6_ticksUntil 4 x yX7_ticksUntil wsX7_ticksUntil 5 (o2 0) [.int a1] := by
  intro w6 w7 hok
  obtain ⟨G, k, Hs, b, T, nt, f, d, U, B, K, hh, f7, rfl, rfl, hk, hnt, hS, hHs, hR⟩ := hok
  by_cases c : wth a1 0 8 = true
  · exact ⟨_, _, _, (k_X6_ticksUntil_ok l D cI cS tys ht0 ht1 x o h b t r q u tb G k Hs T (nI nt) f d U B _ c), k_X7_ticksUntil_ok l D cI cS tys ht0 o2 G K hh (nI k) T (nI nt) f7 a1 c hS.1, ⟨G, k, Hs, b, T, nt, f, d, U, tkbG G (tuN G a1 401 0), fl G, hh, f7, rfl, rfl, hk, hnt, hS, hHs, hR⟩⟩
  · exact ⟨_, _, _, (k_X6_ticksUntil_no l D cI cS tys ht0 ht1 x o h b t r q u tb G k Hs T (nI nt) f d U B _ c), k_X7_ticksUntil_no l D cI cS tys ht0 o2 G K hh (nI k) T (nI nt) f7 a1 c, ⟨G, k, Hs, b, T, nt, f, d, U, B, K, hh, f7, rfl, rfl, hk, hnt, hS, hHs, hR⟩⟩
theorem pr_pair (l : Launch) (D : va_G) (cI cS : ClassId) (tys : List (ClassId × FieldType)) (ht0 : tys[0]? = some (cI, .int)) (ht1 : tys[1]? = some (cS, .object RX4)) (x : Nat) (o h t : Nat → Nat) (r q : Nat) (u : Nat → Nat) (tb : Nat) (o2 : Nat → Nat) (a1 : Int32) : prW (okW cI cS x o h t r q u tb o2) l D tys yX6_pair wsX6_pair 3 x yX7_pair wsX7_pair 2 (o2 0) [.int a1] := by
  intro w6 w7 hok
  obtain ⟨G, k, Hs, b, T, nt, f, d, U, B, K, hh, f7, rfl, rfl, hk, hnt, hS, hHs, hR⟩ := hok
  exact ⟨_, _, _, (k_X6_pair l D cI cS tys ht0 ht1 x o h b t r q u tb G k Hs T (nI nt) f d U B _), k_X7_pair l D cI cS tys ht0 o2 G K hh (nI k) T (nI nt) f7 a1 hS.1, ⟨G, k, Hs, b, T, nt, f, d, U, B, K, hh, f7, rfl, rfl, hk, hnt, hS, hHs, hR⟩⟩
theorem pr_count (l : Launch) (D : va_G) (cI cS : ClassId) (tys : List (ClassId × FieldType)) (ht0 : tys[0]? = some (cI, .int)) (ht1 : tys[1]? = some (cS, .object RX4)) (x : Nat) (o h t : Nat → Nat) (r q : Nat) (u : Nat → Nat) (tb : Nat) (o2 : Nat → Nat) (a1 : Int32) : prW (okW cI cS x o h t r q u tb o2) l D tys yX6_count wsX6_count 1 x yX7_count wsX7_count 1 (o2 0) [.int a1] := by
  intro w6 w7 hok
  obtain ⟨G, k, Hs, b, T, nt, f, d, U, B, K, hh, f7, rfl, rfl, hk, hnt, hS, hHs, hR⟩ := hok
  exact ⟨_, _, _, (k_X6_count l D cI cS tys ht0 ht1 x o h b t r q u tb G k Hs T (nI nt) f d U B _), k_X7_count l D cI cS tys ht0 o2 G K hh (nI k) T (nI nt) f7 a1, ⟨G, k, Hs, b, T, nt, f, d, U, B, K, hh, f7, rfl, rfl, hk, hnt, hS, hHs, hR⟩⟩
theorem pr_undo (l : Launch) (D : va_G) (cI cS : ClassId) (tys : List (ClassId × FieldType)) (ht0 : tys[0]? = some (cI, .int)) (ht1 : tys[1]? = some (cS, .object RX4)) (x : Nat) (o h t : Nat → Nat) (r q : Nat) (u : Nat → Nat) (tb : Nat) (o2 : Nat → Nat) : prW (okW cI cS x o h t r q u tb o2) l D tys yX6_undo wsX6_undo 4 x yX7_undo wsX7_undo 0 (o2 0) [] := by
  intro w6 w7 hok
  obtain ⟨G, k, Hs, b, T, nt, f, d, U, B, K, hh, f7, rfl, rfl, hk, hnt, hS, hHs, hR⟩ := hok
  by_cases c : k = 0
  · exact ⟨_, _, _, (k_X6_undo_np l D cI cS tys ht0 ht1 x o h b t r q u tb G k Hs T (nI nt) f d U B c), k_X7_undo_np l D cI cS tys ht0 o2 G K hh T (nI nt) f7 k c, ⟨G, k, Hs, b, T, nt, f, d, U, B, K, hh, f7, rfl, rfl, hk, hnt, hS, hHs, hR⟩⟩
  · have c1 : 1 ≤ k := Nat.one_le_iff_ne_zero.mpr c
    exact ⟨_, _, _, (k_X6_undo_ok l D cI cS tys ht0 ht1 x o h b t r q u tb G k Hs T (nI nt) f d U B c1 hk), k_X7_undo_ok l D cI cS tys ht0 o2 G K hh T (nI nt) f7 k (Hs (k - 1)) c1 hk (fun j hj => hR (k - 1) j (by omega) hj), ⟨Hs (k - 1), k - 1, Hs, b, T, nt, f, d, U, B, K, hh, f7, rfl, rfl, by omega, hnt, hHs (k - 1) (by omega), fun i hi => hHs i (by omega), fun i j hi hj => hR i j (by omega) hj⟩⟩
theorem pr_type (l : Launch) (D : va_G) (cI cS : ClassId) (tys : List (ClassId × FieldType)) (ht0 : tys[0]? = some (cI, .int)) (ht1 : tys[1]? = some (cS, .object RX4)) (x : Nat) (o h t : Nat → Nat) (r q : Nat) (u : Nat → Nat) (tb : Nat) (o2 : Nat → Nat) (a1 : Int32) : prW (okW cI cS x o h t r q u tb o2) l D tys yX6_type wsX6_type 2 x yX7_type wsX7_type 1 (o2 0) [.int a1] := by
  intro w6 w7 hok
  obtain ⟨G, k, Hs, b, T, nt, f, d, U, B, K, hh, f7, rfl, rfl, hk, hnt, hS, hHs, hR⟩ := hok
  by_cases c : wth a1 32 126 = true
  · by_cases c2 : nt < 60
    · have c3 : nI nt < 60 := (nI_ltI (b := 60) (by omega) (by decide)).mpr c2
      have c6 := (k_X6_type_ok l D cI cS tys ht0 ht1 x o h b t r q u tb G k Hs T (nI nt) f d U B a1 c c3)
      have c7 := k_X7_type_ok l D cI cS tys ht0 o2 G K hh (nI k) T f7 a1 nt c c2
      rw [appN_lt c2] at c6 c7
      exact ⟨_, _, _, c6, c7, ⟨G, k, Hs, b, appT T (nI nt) a1, nt + 1, f, d, U, B, K, hh, f7, rfl, rfl, hk, by omega, hS, hHs, hR⟩⟩
    · have c3 : ¬ nI nt < 60 := fun z => c2 ((nI_ltI (b := 60) (by omega) (by decide)).mp z)
      exact ⟨_, _, _, (k_X6_type_li l D cI cS tys ht0 ht1 x o h b t r q u tb G k Hs T (nI nt) f d U B a1 c c3), k_X7_type_li l D cI cS tys ht0 o2 G K hh (nI k) T f7 a1 nt c (by omega), ⟨G, k, Hs, b, T, nt, f, d, U, B, K, hh, f7, rfl, rfl, hk, hnt, hS, hHs, hR⟩⟩
  · exact ⟨_, _, _, (k_X6_type_no l D cI cS tys ht0 ht1 x o h b t r q u tb G k Hs T (nI nt) f d U B _ c), k_X7_type_no l D cI cS tys ht0 o2 G K hh (nI k) T (nI nt) f7 a1 c, ⟨G, k, Hs, b, T, nt, f, d, U, B, K, hh, f7, rfl, rfl, hk, hnt, hS, hHs, hR⟩⟩
theorem pr_clearText (l : Launch) (D : va_G) (cI cS : ClassId) (tys : List (ClassId × FieldType)) (ht0 : tys[0]? = some (cI, .int)) (ht1 : tys[1]? = some (cS, .object RX4)) (x : Nat) (o h t : Nat → Nat) (r q : Nat) (u : Nat → Nat) (tb : Nat) (o2 : Nat → Nat) : prW (okW cI cS x o h t r q u tb o2) l D tys yX6_clearText wsX6_clearText 0 x yX7_clearText wsX7_clearText 0 (o2 0) [] := by
  intro w6 w7 hok
  obtain ⟨G, k, Hs, b, T, nt, f, d, U, B, K, hh, f7, rfl, rfl, hk, hnt, hS, hHs, hR⟩ := hok
  have c6 := (k_X6_clearText l D cI cS tys ht0 ht1 x o h b t r q u tb G k Hs T (nI nt) f d U B )
  have c7 := k_X7_clearText l D cI cS tys ht0 o2 G K hh (nI k) T (nI nt) f7
  exact ⟨_, _, _, c6, c7, ⟨G, k, Hs, b, T, 0, f, d, U, B, K, hh, f7, (by rw [nI_0]), (by rw [nI_0]), hk, by omega, hS, hHs, hR⟩⟩
theorem pr_fault (l : Launch) (D : va_G) (cI cS : ClassId) (tys : List (ClassId × FieldType)) (ht0 : tys[0]? = some (cI, .int)) (ht1 : tys[1]? = some (cS, .object RX4)) (x : Nat) (o h t : Nat → Nat) (r q : Nat) (u : Nat → Nat) (tb : Nat) (o2 : Nat → Nat) (a1 : Int32) : prW (okW cI cS x o h t r q u tb o2) l D tys yX6_fault wsX6_fault 7 x yX7_fault wsX7_fault 8 (o2 0) [.int a1] := by
  intro w6 w7 hok
  obtain ⟨G, k, Hs, b, T, nt, f, d, U, B, K, hh, f7, rfl, rfl, hk, hnt, hS, hHs, hR⟩ := hok
  by_cases c : wth a1 0 2 = true
  · have c6 := (k_X6_fault_ok l D cI cS tys ht0 ht1 x o h b t r q u tb G k Hs T (nI nt) f d U B a1 c)
    rw [fau_rel hnt f f7 G c] at c6
    exact ⟨_, _, _, c6, k_X7_fault_ok l D cI cS tys ht0 o2 G K hh (nI k) T f7 a1 nt c hnt hS.1, ⟨G, k, Hs, b, T, nt, (runF T (nI nt) 60 (btG f) G 0).1, (runF T (nI nt) 60 (btG f) G 0).2.2, (runF T (nI nt) 60 (btG f) G 0).2.1, B, fl G, hh, (runR T (nI nt) 60 (f0R f7) G).1, rfl, rfl, hk, hnt, hS, hHs, hR⟩⟩
  · exact ⟨_, _, _, (k_X6_fault_no l D cI cS tys ht0 ht1 x o h b t r q u tb G k Hs T (nI nt) f d U B _ c), k_X7_fault_no l D cI cS tys ht0 o2 G K hh (nI k) T f7 a1 nt c, ⟨G, k, Hs, b, T, nt, f, d, U, B, K, hh, f7, rfl, rfl, hk, hnt, hS, hHs, hR⟩⟩
theorem pr_play (l : Launch) (D : va_G) (cI cS : ClassId) (tys : List (ClassId × FieldType)) (ht0 : tys[0]? = some (cI, .int)) (ht1 : tys[1]? = some (cS, .object RX4)) (x : Nat) (o h t : Nat → Nat) (r q : Nat) (u : Nat → Nat) (tb : Nat) (o2 : Nat → Nat) : prW (okW cI cS x o h t r q u tb o2) l D tys yX6_play wsX6_play 7 x yX7_play wsX7_play 8 (o2 0) [] := by
  intro w6 w7 hok
  obtain ⟨G, k, Hs, b, T, nt, f, d, U, B, K, hh, f7, rfl, rfl, hk, hnt, hS, hHs, hR⟩ := hok
  obtain ⟨h1, h2, h3⟩ := run_bt (T := T) hnt f f7 G
  by_cases c : (runR T (nI nt) 60 (f0R f7) G).2.2 = true
  · have c6 := (k_X6_play_ok l D cI cS tys ht0 ht1 x o h b t r q u tb G k Hs T (nI nt) f d U B (h2 c).1 hk)
    have c7 := k_X7_play_ok l D cI cS tys ht0 o2 G K hh T f7 nt k c hnt hS.1 hk
    rw [← (h2 c).2, ← h1] at c7
    exact ⟨_, _, _, c6, c7, ⟨(runF T (nI nt) 60 (btG f) G 0).2.1, kpN k, kpG k Hs G, kpA k b, T, nt, (runF T (nI nt) 60 (btG f) G 0).1, (runF T (nI nt) 60 (btG f) G 0).2.2, (runF T (nI nt) 60 (btG f) G 0).2.1, B, fl G, hpF k hh (fl G), (runR T (nI nt) 60 (f0R f7) G).1, rfl, rfl, kpN_le k hk, hnt, (by rw [h1]; exact Snd_bt hnt f7 hS), kp_all hk hHs hS, hRel_keep hk hR G⟩⟩
  · exact ⟨_, _, _, (k_X6_play_np l D cI cS tys ht0 ht1 x o h b t r q u tb G k Hs T (nI nt) f d U B (h3 c).1), k_X7_play_np l D cI cS tys ht0 o2 G K hh (nI k) T f7 nt c hnt hS.1, ⟨G, k, Hs, b, T, nt, (runF T (nI nt) 60 (btG f) G 0).1, (runF T (nI nt) 60 (btG f) G 0).2.2, (runF T (nI nt) 60 (btG f) G 0).2.1, B, fl G, hh, (runR T (nI nt) 60 (f0R f7) G).1, rfl, rfl, hk, hnt, hS, hHs, hR⟩⟩
