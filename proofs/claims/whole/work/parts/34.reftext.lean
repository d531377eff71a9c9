/-! ===== the reference's reading of a text: its words ===== -/
theorem ch_in {T : Nat → Int32} {n v : Nat} (h : v < n) (hn : n ≤ 60) : chI T (nI n) (nI v) = T v := by
  unfold chI
  rw [if_neg (fun z => by have := (nI_ltI (b := 0) (by omega) (by decide)).mp z; omega), if_pos ((nI_ltI (by omega) (by omega)).mpr h), if_pos (show nI v < 60 from (nI_ltI (b := 60) (by omega) (by decide)).mpr (by omega)), ix_nI (by omega)]
theorem ch_out {T : Nat → Int32} {n v : Nat} (h : n ≤ v) (hv : v ≤ 60) : chI T (nI n) (nI v) = -1 := by
  unfold chI
  rw [if_neg (fun z => by have := (nI_ltI (b := 0) (by omega) (by decide)).mp z; omega), if_neg (fun z => by have := (nI_ltI (by omega) (by omega)).mp z; omega)]
theorem ch_lt {T : Nat → Int32} {n v : Nat} (hv : v ≤ 60) {lo hi : Int32} (hneg : ¬ wth (-1) lo hi = true) (h : wth (chI T (nI n) (nI v)) lo hi = true) : v < n := by
  rcases Nat.lt_or_ge v n with q | q
  · exact q
  · rw [ch_out q hv] at h
    exact absurd h hneg
theorem wth_eq (x z : Int32) : wth x z z = true ↔ x = z := by
  constructor
  · intro h
    have h2 := of_decide_eq_true h
    rw [Int32.lt_iff_toInt_lt, Int32.lt_iff_toInt_lt] at h2
    exact Int32.toInt_inj.mp (by omega)
  · intro h
    rw [h]
    exact decide_eq_true ⟨i32_irr z, i32_irr z⟩
theorem rs_eq (T : Nat → Int32) (tn : Int32) (f : Nat → Int32) (z : Int32) : wth (chI T tn (f 1)) z z = true ↔ rsB T tn f z = true := by
  rw [wth_eq]
  exact ⟨fun h => decide_eq_true h, fun h => of_decide_eq_true h⟩
theorem m1_lit {z : Int32} (h : ¬ -1 = z) : ¬ wth (-1) z z = true := fun q => h ((wth_eq _ _).mp q)
theorem rs_y {T : Nat → Int32} {tn : Int32} {f : Nat → Int32} {z : Int32} (h : rsB T tn f z = true) : upd f 1 (f 1 + 1) = rsG T tn f z := by
  unfold rsG
  rw [if_pos h]
theorem rs_n {T : Nat → Int32} {tn : Int32} {f : Nat → Int32} {z : Int32} (h : ¬ rsB T tn f z = true) : upd f 1 (f 1 + 0) = rsG T tn f z := by
  unfold rsG
  rw [if_neg h, Int32.add_zero]
  exact (upd_self f 1).symm
def tnB (T : Nat → Int32) (tn : Int32) (f : Nat → Int32) : Bool := wth (chI T tn (f 1)) 48 57
def tnG (T : Nat → Int32) (tn : Int32) (f : Nat → Int32) : Nat → Int32 := upd (upd f 4 (rnF T tn 3 0 (f 1)).1) 1 (rnF T tn 3 0 (f 1)).2
def isO (x : Int32) : Bool := decide (x = 114 ∨ x = 119 ∨ x = 116 ∨ x = 108 ∨ x = 99 ∨ x = 103)
def ro0 (f : Nat → Int32) : Nat → Int32 := upd (upd f 1 (f 0)) 1 (f 0 + 1)
def ro2 (T : Nat → Int32) (tn : Int32) (f : Nat → Int32) : Nat → Int32 := upd (tnG T tn (ro0 f)) 2 (tnG T tn (ro0 f) 4)
def ro3 (T : Nat → Int32) (tn : Int32) (f : Nat → Int32) : Nat → Int32 := rsG T tn (ro2 T tn f) 61
def ro4 (T : Nat → Int32) (tn : Int32) (f : Nat → Int32) : Nat → Int32 := upd (tnG T tn (ro3 T tn f)) 3 (tnG T tn (ro3 T tn f) 4)
def roB (T : Nat → Int32) (tn : Int32) (f : Nat → Int32) : Bool :=
  if isO (T (ix (f 0))) = true then
    if T (ix (f 0)) = 99 then rsB T tn (ro0 f) 59 else if T (ix (f 0)) = 103 then rsB T tn (ro0 f) 59
    else if tnB T tn (ro0 f) = true then
      if T (ix (f 0)) = 119 then
        if rsB T tn (ro2 T tn f) 61 = true then (if tnB T tn (ro3 T tn f) = true then rsB T tn (ro4 T tn f) 59 else false) else false
      else rsB T tn (ro2 T tn f) 59
    else false
  else false
def roG (T : Nat → Int32) (tn : Int32) (f : Nat → Int32) : Nat → Int32 :=
  if isO (T (ix (f 0))) = true then
    if T (ix (f 0)) = 99 then rsG T tn (ro0 f) 59 else if T (ix (f 0)) = 103 then rsG T tn (ro0 f) 59
    else if tnB T tn (ro0 f) = true then
      if T (ix (f 0)) = 119 then
        if rsB T tn (ro2 T tn f) 61 = true then (if tnB T tn (ro3 T tn f) = true then rsG T tn (ro4 T tn f) 59 else tnG T tn (ro3 T tn f)) else ro3 T tn f
      else rsG T tn (ro2 T tn f) 59
    else tnG T tn (ro0 f)
  else upd f 1 (f 0)
def irR (T : Nat → Int32) (f : Nat → Int32) : Bool := if T (ix (f 0)) = 114 then rg (f 2) 64 else if T (ix (f 0)) = 119 then rg (f 2) 64 else if T (ix (f 0)) = 116 then wth (f 2) 1 99 else if T (ix (f 0)) = 108 then wth (f 2) 1 999 else true
def perR (T : Nat → Int32) (f : Nat → Int32) (G : St) : St := if T (ix (f 0)) = 99 then cutG G else if T (ix (f 0)) = 108 then loaG G (f 2) else if T (ix (f 0)) = 114 then lnfG G (f 2) else if T (ix (f 0)) = 116 then tksG G (ix (f 2)) else if T (ix (f 0)) = 119 then wptG G (f 2) (f 3) else bgcG G
def perV (T : Nat → Int32) (f : Nat → Int32) (G : St) : Int32 := if T (ix (f 0)) = 99 then cutI G else if T (ix (f 0)) = 108 then tooI (useG G (f 2)) else if T (ix (f 0)) = 114 then rdpI G (f 2) else if T (ix (f 0)) = 116 then tksG G (ix (f 2)) 7 3 - G 7 3 else if T (ix (f 0)) = 119 then wptI G (f 2) (f 3) else tooI (s2 G 6 2 1)
-- where the reading stands
theorem rn_vN (T : Nat → Int32) {n : Nat} (hn : n ≤ 60) (k : Nat) (r z : Int32) (h : vN 60 z) : vN 60 (rnF T (nI n) k r z).2 := by
  induction k generalizing r z with
  | zero => exact h
  | succ k ih =>
    unfold rnF
    by_cases q : wth (chI T (nI n) z) 48 57 = true
    · rw [if_pos q]
      obtain ⟨v, hv, rfl⟩ := h
      have := ch_lt hv (by decide) q
      exact ih _ _ ⟨v + 1, by omega, nI_add v 1⟩
    · rw [if_neg q]
      exact h
theorem rs_vN (T : Nat → Int32) {n : Nat} (hn : n ≤ 60) (f : Nat → Int32) {z : Int32} (hz : ¬ -1 = z) (h : vN 60 (f 1)) : vN 60 (rsG T (nI n) f z 1) := by
  unfold rsG
  by_cases q : rsB T (nI n) f z = true
  · rw [if_pos q]
    obtain ⟨v, hv, e⟩ := h
    have q2 := (rs_eq T (nI n) f z).mpr q
    rw [e] at q2
    have := ch_lt hv (m1_lit hz) q2
    show vN 60 (upd f 1 (f 1 + 1) 1)
    unfold upd
    rw [if_pos rfl, e]
    exact ⟨v + 1, by omega, nI_add v 1⟩
  · rw [if_neg q]
    exact h
theorem tn_vN (T : Nat → Int32) {n : Nat} (hn : n ≤ 60) (f : Nat → Int32) (h : vN 60 (f 1)) : vN 60 (tnG T (nI n) f 1) := by
  show vN 60 (upd _ 1 _ 1)
  unfold upd
  rw [if_pos rfl]
  exact rn_vN T hn 3 0 _ h
theorem ro0_vN {n : Nat} (hn : n ≤ 60) {f : Nat → Int32} (h : ∃ v, v < n ∧ f 0 = nI v) : vN 60 (ro0 f 1) := by
  obtain ⟨v, hv, e⟩ := h
  show vN 60 (upd _ 1 _ 1)
  unfold upd
  rw [if_pos rfl, e]
  exact ⟨v + 1, by omega, nI_add v 1⟩
theorem ro2_vN (T : Nat → Int32) {n : Nat} (hn : n ≤ 60) {f : Nat → Int32} (h : ∃ v, v < n ∧ f 0 = nI v) : vN 60 (ro2 T (nI n) f 1) := tn_vN T hn _ (ro0_vN hn h)
theorem ro3_vN (T : Nat → Int32) {n : Nat} (hn : n ≤ 60) {f : Nat → Int32} (h : ∃ v, v < n ∧ f 0 = nI v) : vN 60 (ro3 T (nI n) f 1) := rs_vN T hn _ (by decide) (ro2_vN T hn h)
theorem ro4_vN (T : Nat → Int32) {n : Nat} (hn : n ≤ 60) {f : Nat → Int32} (h : ∃ v, v < n ∧ f 0 = nI v) : vN 60 (ro4 T (nI n) f 1) := tn_vN T hn _ (ro3_vN T hn h)
theorem ro_vN (T : Nat → Int32) {n : Nat} (hn : n ≤ 60) {f : Nat → Int32} (h : ∃ v, v < n ∧ f 0 = nI v) : vN 60 (roG T (nI n) f 1) := by
  have h0 := ro0_vN hn h
  have h2 := ro2_vN T hn h
  have h3 := ro3_vN T hn h
  have h4 := ro4_vN T hn h
  unfold roG
  by_cases c1 : isO (T (ix (f 0))) = true
  · rw [if_pos c1]
    by_cases c2 : T (ix (f 0)) = 99
    · rw [if_pos c2]; exact rs_vN T hn _ (by decide) h0
    · rw [if_neg c2]
      by_cases c3 : T (ix (f 0)) = 103
      · rw [if_pos c3]; exact rs_vN T hn _ (by decide) h0
      · rw [if_neg c3]
        by_cases c4 : tnB T (nI n) (ro0 f) = true
        · rw [if_pos c4]
          by_cases c5 : T (ix (f 0)) = 119
          · rw [if_pos c5]
            by_cases c6 : rsB T (nI n) (ro2 T (nI n) f) 61 = true
            · rw [if_pos c6]
              by_cases c7 : tnB T (nI n) (ro3 T (nI n) f) = true
              · rw [if_pos c7]; exact rs_vN T hn _ (by decide) h4
              · rw [if_neg c7]; exact tn_vN T hn _ h3
            · rw [if_neg c6]; exact h3
          · rw [if_neg c5]; exact rs_vN T hn _ (by decide) h2
        · rw [if_neg c4]; exact tn_vN T hn _ h0
  · rw [if_neg c1]
    obtain ⟨v, hv, e⟩ := h
    show vN 60 (upd f 1 (f 0) 1)
    unfold upd
    rw [if_pos rfl, e]
    exact ⟨v, by omega, rfl⟩
theorem up_init {f : Nat → Int32} {y : Nat} (ey : f 1 = nI y) : upd f 4 0 = upd (upd f 4 0) 1 (nI y) := by
  rw [← ey]
  exact upd_self (upd f 4 0) 1
theorem up_step (f : Nat → Int32) (r a r2 b : Int32) : upd (upd (upd (upd f 4 r) 1 a) 4 r2) 1 b = upd (upd f 4 r2) 1 b := by
  funext j
  unfold upd
  by_cases h1 : j = 1
  · rw [if_pos h1, if_pos h1]
  · rw [if_neg h1, if_neg h1]
    by_cases h4 : j = 4
    · rw [if_pos h4, if_neg h1, if_pos h4]
    · rw [if_neg h4, if_neg h1, if_neg h4, if_neg h4]
