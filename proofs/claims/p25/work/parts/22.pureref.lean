/-! ===== the reference's row of numbers as a view of the same state, and its world ===== -/
def fl (G : St) (k : Nat) : Int32 := if k < 64 then G 0 k else if k < 128 then G 1 (k - 64) else if k < 136 then G 2 (k - 128) else if k < 144 then G 3 (k - 136) else if k < 152 then G 4 (k - 144) else if k < 160 then G 5 (k - 152) else if k < 163 then G 6 (k - 160) else if k = 163 then G 9 0 + 1 else if k < 174 then G 7 (k - 164) else G 8 (k - 174)
theorem fl_r0 (G : St) {i : Nat} (h : i < 64) : fl G (0 + i) = G 0 i := by
  unfold fl
  rw [if_pos (by omega), Nat.zero_add]
theorem fl_r1 (G : St) {i : Nat} (h : i < 64) : fl G (64 + i) = G 1 i := by
  unfold fl
  rw [if_neg (by omega), if_pos (by omega), show 64 + i - 64 = i by omega]
theorem fl_r2 (G : St) {i : Nat} (h : i < 8) : fl G (128 + i) = G 2 i := by
  unfold fl
  rw [if_neg (by omega), if_neg (by omega), if_pos (by omega), show 128 + i - 128 = i by omega]
theorem fl_r3 (G : St) {i : Nat} (h : i < 8) : fl G (136 + i) = G 3 i := by
  unfold fl
  rw [if_neg (by omega), if_neg (by omega), if_neg (by omega), if_pos (by omega), show 136 + i - 136 = i by omega]
theorem fl_r4 (G : St) {i : Nat} (h : i < 8) : fl G (144 + i) = G 4 i := by
  unfold fl
  rw [if_neg (by omega), if_neg (by omega), if_neg (by omega), if_neg (by omega), if_pos (by omega), show 144 + i - 144 = i by omega]
theorem fl_r5 (G : St) {i : Nat} (h : i < 8) : fl G (152 + i) = G 5 i := by
  unfold fl
  rw [if_neg (by omega), if_neg (by omega), if_neg (by omega), if_neg (by omega), if_neg (by omega), if_pos (by omega), show 152 + i - 152 = i by omega]
theorem fl_r6 (G : St) {i : Nat} (h : i < 3) : fl G (160 + i) = G 6 i := by
  unfold fl
  rw [if_neg (by omega), if_neg (by omega), if_neg (by omega), if_neg (by omega), if_neg (by omega), if_neg (by omega), if_pos (by omega), show 160 + i - 160 = i by omega]
theorem fl_r7 (G : St) {i : Nat} (h : i < 10) : fl G (164 + i) = G 7 i := by
  unfold fl
  rw [if_neg (by omega), if_neg (by omega), if_neg (by omega), if_neg (by omega), if_neg (by omega), if_neg (by omega), if_neg (by omega), if_neg (by omega), if_pos (by omega), show 164 + i - 164 = i by omega]
theorem fl_r8 (G : St) {i : Nat} (h : i < 6) : fl G (174 + i) = G 8 i := by
  unfold fl
  rw [if_neg (by omega), if_neg (by omega), if_neg (by omega), if_neg (by omega), if_neg (by omega), if_neg (by omega), if_neg (by omega), if_neg (by omega), if_neg (by omega), show 174 + i - 174 = i by omega]
theorem fl_ext {G G2 : St} {k : Nat} (h0 : ∀ j, j < 64 → k = 0 + j → G 0 j = G2 0 j) (h1 : ∀ j, j < 64 → k = 64 + j → G 1 j = G2 1 j) (h2 : ∀ j, j < 8 → k = 128 + j → G 2 j = G2 2 j) (h3 : ∀ j, j < 8 → k = 136 + j → G 3 j = G2 3 j) (h4 : ∀ j, j < 8 → k = 144 + j → G 4 j = G2 4 j) (h5 : ∀ j, j < 8 → k = 152 + j → G 5 j = G2 5 j) (h6 : ∀ j, j < 3 → k = 160 + j → G 6 j = G2 6 j) (h7 : ∀ j, j < 10 → k = 164 + j → G 7 j = G2 7 j) (h8 : ∀ j, k = 174 + j → G 8 j = G2 8 j) (h9 : k = 163 → G 9 0 = G2 9 0) : fl G k = fl G2 k := by
  unfold fl
  by_cases c0 : k < 64
  · rw [if_pos c0, if_pos c0]
    exact h0 k c0 (by omega)
  · rw [if_neg c0, if_neg c0]
    by_cases c1 : k < 128
    · rw [if_pos c1, if_pos c1]
      exact h1 (k - 64) (by omega) (by omega)
    · rw [if_neg c1, if_neg c1]
      by_cases c2 : k < 136
      · rw [if_pos c2, if_pos c2]
        exact h2 (k - 128) (by omega) (by omega)
      · rw [if_neg c2, if_neg c2]
        by_cases c3 : k < 144
        · rw [if_pos c3, if_pos c3]
          exact h3 (k - 136) (by omega) (by omega)
        · rw [if_neg c3, if_neg c3]
          by_cases c4 : k < 152
          · rw [if_pos c4, if_pos c4]
            exact h4 (k - 144) (by omega) (by omega)
          · rw [if_neg c4, if_neg c4]
            by_cases c5 : k < 160
            · rw [if_pos c5, if_pos c5]
              exact h5 (k - 152) (by omega) (by omega)
            · rw [if_neg c5, if_neg c5]
              by_cases c6 : k < 163
              · rw [if_pos c6, if_pos c6]
                exact h6 (k - 160) (by omega) (by omega)
              · rw [if_neg c6, if_neg c6]
                by_cases c9 : k = 163
                · rw [if_pos c9, if_pos c9]
                  rw [h9 c9]
                · rw [if_neg c9, if_neg c9]
                  by_cases c7 : k < 174
                  · rw [if_pos c7, if_pos c7]
                    exact h7 (k - 164) (by omega) (by omega)
                  · rw [if_neg c7, if_neg c7]
                    exact h8 (k - 174) (by omega)
theorem fl_u0 (G : St) {i : Nat} (h : i < 64) (v : Int32) : upd (fl G) (0 + i) v = fl (s2 G 0 i v) := by
  funext k
  unfold upd
  by_cases hk : k = 0 + i
  · rw [if_pos hk, hk, fl_r0 _ h, s2_at]
  · rw [if_neg hk]
    exact fl_ext (fun j _ e => by rw [s2_ne _ _ (show ¬ j = i by omega)]) (fun j _ e => by rw [s2_row _ (by decide)]) (fun j _ e => by rw [s2_row _ (by decide)]) (fun j _ e => by rw [s2_row _ (by decide)]) (fun j _ e => by rw [s2_row _ (by decide)]) (fun j _ e => by rw [s2_row _ (by decide)]) (fun j _ e => by rw [s2_row _ (by decide)]) (fun j _ e => by rw [s2_row _ (by decide)]) (fun j e => by rw [s2_row _ (by decide)]) (fun _ => by rw [s2_row _ (by decide)])
theorem fl_u1 (G : St) {i : Nat} (h : i < 64) (v : Int32) : upd (fl G) (64 + i) v = fl (s2 G 1 i v) := by
  funext k
  unfold upd
  by_cases hk : k = 64 + i
  · rw [if_pos hk, hk, fl_r1 _ h, s2_at]
  · rw [if_neg hk]
    exact fl_ext (fun j _ e => by rw [s2_row _ (by decide)]) (fun j _ e => by rw [s2_ne _ _ (show ¬ j = i by omega)]) (fun j _ e => by rw [s2_row _ (by decide)]) (fun j _ e => by rw [s2_row _ (by decide)]) (fun j _ e => by rw [s2_row _ (by decide)]) (fun j _ e => by rw [s2_row _ (by decide)]) (fun j _ e => by rw [s2_row _ (by decide)]) (fun j _ e => by rw [s2_row _ (by decide)]) (fun j e => by rw [s2_row _ (by decide)]) (fun _ => by rw [s2_row _ (by decide)])
theorem fl_u2 (G : St) {i : Nat} (h : i < 8) (v : Int32) : upd (fl G) (128 + i) v = fl (s2 G 2 i v) := by
  funext k
  unfold upd
  by_cases hk : k = 128 + i
  · rw [if_pos hk, hk, fl_r2 _ h, s2_at]
  · rw [if_neg hk]
    exact fl_ext (fun j _ e => by rw [s2_row _ (by decide)]) (fun j _ e => by rw [s2_row _ (by decide)]) (fun j _ e => by rw [s2_ne _ _ (show ¬ j = i by omega)]) (fun j _ e => by rw [s2_row _ (by decide)]) (fun j _ e => by rw [s2_row _ (by decide)]) (fun j _ e => by rw [s2_row _ (by decide)]) (fun j _ e => by rw [s2_row _ (by decide)]) (fun j _ e => by rw [s2_row _ (by decide)]) (fun j e => by rw [s2_row _ (by decide)]) (fun _ => by rw [s2_row _ (by decide)])
theorem fl_u3 (G : St) {i : Nat} (h : i < 8) (v : Int32) : upd (fl G) (136 + i) v = fl (s2 G 3 i v) := by
  funext k
  unfold upd
  by_cases hk : k = 136 + i
  · rw [if_pos hk, hk, fl_r3 _ h, s2_at]
  · rw [if_neg hk]
    exact fl_ext (fun j _ e => by rw [s2_row _ (by decide)]) (fun j _ e => by rw [s2_row _ (by decide)]) (fun j _ e => by rw [s2_row _ (by decide)]) (fun j _ e => by rw [s2_ne _ _ (show ¬ j = i by omega)]) (fun j _ e => by rw [s2_row _ (by decide)]) (fun j _ e => by rw [s2_row _ (by decide)]) (fun j _ e => by rw [s2_row _ (by decide)]) (fun j _ e => by rw [s2_row _ (by decide)]) (fun j e => by rw [s2_row _ (by decide)]) (fun _ => by rw [s2_row _ (by decide)])
theorem fl_u4 (G : St) {i : Nat} (h : i < 8) (v : Int32) : upd (fl G) (144 + i) v = fl (s2 G 4 i v) := by
  funext k
  unfold upd
  by_cases hk : k = 144 + i
  · rw [if_pos hk, hk, fl_r4 _ h, s2_at]
  · rw [if_neg hk]
    exact fl_ext (fun j _ e => by rw [s2_row _ (by decide)]) (fun j _ e => by rw [s2_row _ (by decide)]) (fun j _ e => by rw [s2_row _ (by decide)]) (fun j _ e => by rw [s2_row _ (by decide)]) (fun j _ e => by rw [s2_ne _ _ (show ¬ j = i by omega)]) (fun j _ e => by rw [s2_row _ (by decide)]) (fun j _ e => by rw [s2_row _ (by decide)]) (fun j _ e => by rw [s2_row _ (by decide)]) (fun j e => by rw [s2_row _ (by decide)]) (fun _ => by rw [s2_row _ (by decide)])
theorem fl_u5 (G : St) {i : Nat} (h : i < 8) (v : Int32) : upd (fl G) (152 + i) v = fl (s2 G 5 i v) := by
  funext k
  unfold upd
  by_cases hk : k = 152 + i
  · rw [if_pos hk, hk, fl_r5 _ h, s2_at]
  · rw [if_neg hk]
    exact fl_ext (fun j _ e => by rw [s2_row _ (by decide)]) (fun j _ e => by rw [s2_row _ (by decide)]) (fun j _ e => by rw [s2_row _ (by decide)]) (fun j _ e => by rw [s2_row _ (by decide)]) (fun j _ e => by rw [s2_row _ (by decide)]) (fun j _ e => by rw [s2_ne _ _ (show ¬ j = i by omega)]) (fun j _ e => by rw [s2_row _ (by decide)]) (fun j _ e => by rw [s2_row _ (by decide)]) (fun j e => by rw [s2_row _ (by decide)]) (fun _ => by rw [s2_row _ (by decide)])
theorem fl_u6 (G : St) {i : Nat} (h : i < 3) (v : Int32) : upd (fl G) (160 + i) v = fl (s2 G 6 i v) := by
  funext k
  unfold upd
  by_cases hk : k = 160 + i
  · rw [if_pos hk, hk, fl_r6 _ h, s2_at]
  · rw [if_neg hk]
    exact fl_ext (fun j _ e => by rw [s2_row _ (by decide)]) (fun j _ e => by rw [s2_row _ (by decide)]) (fun j _ e => by rw [s2_row _ (by decide)]) (fun j _ e => by rw [s2_row _ (by decide)]) (fun j _ e => by rw [s2_row _ (by decide)]) (fun j _ e => by rw [s2_row _ (by decide)]) (fun j _ e => by rw [s2_ne _ _ (show ¬ j = i by omega)]) (fun j _ e => by rw [s2_row _ (by decide)]) (fun j e => by rw [s2_row _ (by decide)]) (fun _ => by rw [s2_row _ (by decide)])
theorem fl_u7 (G : St) {i : Nat} (h : i < 10) (v : Int32) : upd (fl G) (164 + i) v = fl (s2 G 7 i v) := by
  funext k
  unfold upd
  by_cases hk : k = 164 + i
  · rw [if_pos hk, hk, fl_r7 _ h, s2_at]
  · rw [if_neg hk]
    exact fl_ext (fun j _ e => by rw [s2_row _ (by decide)]) (fun j _ e => by rw [s2_row _ (by decide)]) (fun j _ e => by rw [s2_row _ (by decide)]) (fun j _ e => by rw [s2_row _ (by decide)]) (fun j _ e => by rw [s2_row _ (by decide)]) (fun j _ e => by rw [s2_row _ (by decide)]) (fun j _ e => by rw [s2_row _ (by decide)]) (fun j _ e => by rw [s2_ne _ _ (show ¬ j = i by omega)]) (fun j e => by rw [s2_row _ (by decide)]) (fun _ => by rw [s2_row _ (by decide)])
theorem fl_u8 (G : St) {i : Nat} (h : i < 6) (v : Int32) : upd (fl G) (174 + i) v = fl (s2 G 8 i v) := by
  funext k
  unfold upd
  by_cases hk : k = 174 + i
  · rw [if_pos hk, hk, fl_r8 _ h, s2_at]
  · rw [if_neg hk]
    exact fl_ext (fun j _ e => by rw [s2_row _ (by decide)]) (fun j _ e => by rw [s2_row _ (by decide)]) (fun j _ e => by rw [s2_row _ (by decide)]) (fun j _ e => by rw [s2_row _ (by decide)]) (fun j _ e => by rw [s2_row _ (by decide)]) (fun j _ e => by rw [s2_row _ (by decide)]) (fun j _ e => by rw [s2_row _ (by decide)]) (fun j _ e => by rw [s2_row _ (by decide)]) (fun j e => by rw [s2_ne _ _ (show ¬ j = i by omega)]) (fun _ => by rw [s2_row _ (by decide)])
theorem fl_u9 (G : St) (v : Int32) : upd (fl G) 163 (v + 1) = fl (s2 G 9 0 v) := by
  funext k
  unfold upd
  by_cases hk : k = 163
  · rw [if_pos hk, hk]
    show v + 1 = s2 G 9 0 v 9 0 + 1
    rw [s2_at]
  · rw [if_neg hk]
    exact fl_ext (fun j _ e => by rw [s2_row _ (by decide)]) (fun j _ e => by rw [s2_row _ (by decide)]) (fun j _ e => by rw [s2_row _ (by decide)]) (fun j _ e => by rw [s2_row _ (by decide)]) (fun j _ e => by rw [s2_row _ (by decide)]) (fun j _ e => by rw [s2_row _ (by decide)]) (fun j _ e => by rw [s2_row _ (by decide)]) (fun j _ e => by rw [s2_row _ (by decide)]) (fun j e => by rw [s2_row _ (by decide)]) (fun e => absurd e hk)
def mR (cI : ClassId) (o : Nat → Nat) (z K h : Nat → Int32) (hn : Int32) (T : Nat → Int32) (tn : Int32) (f : Nat → Int32) : va_W := [(o 0, .inr (7, [.ref (o 1), .ref (o 2), .ref (o 3), .int hn, .ref (o 4), .int tn, .int (f 0), .int (f 1), .int (f 2), .int (f 3), .int (f 4), .int (f 5), .int (f 6), .int (f 7)])), (o 1, .inl (cI, 180, .inl z)), (o 2, .inl (cI, 180, .inl K)), (o 3, .inl (cI, 720, .inl h)), (o 4, .inl (cI, 60, .inl T))]
theorem mRs3 (cI : ClassId) (o : Nat → Nat) (z K h : Nat → Int32) (hn : Int32) (T : Nat → Int32) (tn : Int32) (f : Nat → Int32) (v : Int32) : (mR cI o z K h hn T tn f).set 0 (o 0, .inr (7, List.set [.ref (o 1), .ref (o 2), .ref (o 3), .int hn, .ref (o 4), .int tn, .int (f 0), .int (f 1), .int (f 2), .int (f 3), .int (f 4), .int (f 5), .int (f 6), .int (f 7)] 3 (.int v))) = mR cI o z K h v T tn f := rfl
theorem mRs5 (cI : ClassId) (o : Nat → Nat) (z K h : Nat → Int32) (hn : Int32) (T : Nat → Int32) (tn : Int32) (f : Nat → Int32) (v : Int32) : (mR cI o z K h hn T tn f).set 0 (o 0, .inr (7, List.set [.ref (o 1), .ref (o 2), .ref (o 3), .int hn, .ref (o 4), .int tn, .int (f 0), .int (f 1), .int (f 2), .int (f 3), .int (f 4), .int (f 5), .int (f 6), .int (f 7)] 5 (.int v))) = mR cI o z K h hn T v f := rfl
theorem mRs6 (cI : ClassId) (o : Nat → Nat) (z K h : Nat → Int32) (hn : Int32) (T : Nat → Int32) (tn : Int32) (f : Nat → Int32) (v : Int32) : (mR cI o z K h hn T tn f).set 0 (o 0, .inr (7, List.set [.ref (o 1), .ref (o 2), .ref (o 3), .int hn, .ref (o 4), .int tn, .int (f 0), .int (f 1), .int (f 2), .int (f 3), .int (f 4), .int (f 5), .int (f 6), .int (f 7)] 6 (.int v))) = mR cI o z K h hn T tn (upd f 0 v) := rfl
theorem mRs7 (cI : ClassId) (o : Nat → Nat) (z K h : Nat → Int32) (hn : Int32) (T : Nat → Int32) (tn : Int32) (f : Nat → Int32) (v : Int32) : (mR cI o z K h hn T tn f).set 0 (o 0, .inr (7, List.set [.ref (o 1), .ref (o 2), .ref (o 3), .int hn, .ref (o 4), .int tn, .int (f 0), .int (f 1), .int (f 2), .int (f 3), .int (f 4), .int (f 5), .int (f 6), .int (f 7)] 7 (.int v))) = mR cI o z K h hn T tn (upd f 1 v) := rfl
theorem mRs8 (cI : ClassId) (o : Nat → Nat) (z K h : Nat → Int32) (hn : Int32) (T : Nat → Int32) (tn : Int32) (f : Nat → Int32) (v : Int32) : (mR cI o z K h hn T tn f).set 0 (o 0, .inr (7, List.set [.ref (o 1), .ref (o 2), .ref (o 3), .int hn, .ref (o 4), .int tn, .int (f 0), .int (f 1), .int (f 2), .int (f 3), .int (f 4), .int (f 5), .int (f 6), .int (f 7)] 8 (.int v))) = mR cI o z K h hn T tn (upd f 2 v) := rfl
theorem mRs9 (cI : ClassId) (o : Nat → Nat) (z K h : Nat → Int32) (hn : Int32) (T : Nat → Int32) (tn : Int32) (f : Nat → Int32) (v : Int32) : (mR cI o z K h hn T tn f).set 0 (o 0, .inr (7, List.set [.ref (o 1), .ref (o 2), .ref (o 3), .int hn, .ref (o 4), .int tn, .int (f 0), .int (f 1), .int (f 2), .int (f 3), .int (f 4), .int (f 5), .int (f 6), .int (f 7)] 9 (.int v))) = mR cI o z K h hn T tn (upd f 3 v) := rfl
theorem mRs10 (cI : ClassId) (o : Nat → Nat) (z K h : Nat → Int32) (hn : Int32) (T : Nat → Int32) (tn : Int32) (f : Nat → Int32) (v : Int32) : (mR cI o z K h hn T tn f).set 0 (o 0, .inr (7, List.set [.ref (o 1), .ref (o 2), .ref (o 3), .int hn, .ref (o 4), .int tn, .int (f 0), .int (f 1), .int (f 2), .int (f 3), .int (f 4), .int (f 5), .int (f 6), .int (f 7)] 10 (.int v))) = mR cI o z K h hn T tn (upd f 4 v) := rfl
theorem mRs11 (cI : ClassId) (o : Nat → Nat) (z K h : Nat → Int32) (hn : Int32) (T : Nat → Int32) (tn : Int32) (f : Nat → Int32) (v : Int32) : (mR cI o z K h hn T tn f).set 0 (o 0, .inr (7, List.set [.ref (o 1), .ref (o 2), .ref (o 3), .int hn, .ref (o 4), .int tn, .int (f 0), .int (f 1), .int (f 2), .int (f 3), .int (f 4), .int (f 5), .int (f 6), .int (f 7)] 11 (.int v))) = mR cI o z K h hn T tn (upd f 5 v) := rfl
theorem mRs12 (cI : ClassId) (o : Nat → Nat) (z K h : Nat → Int32) (hn : Int32) (T : Nat → Int32) (tn : Int32) (f : Nat → Int32) (v : Int32) : (mR cI o z K h hn T tn f).set 0 (o 0, .inr (7, List.set [.ref (o 1), .ref (o 2), .ref (o 3), .int hn, .ref (o 4), .int tn, .int (f 0), .int (f 1), .int (f 2), .int (f 3), .int (f 4), .int (f 5), .int (f 6), .int (f 7)] 12 (.int v))) = mR cI o z K h hn T tn (upd f 6 v) := rfl
theorem mRs13 (cI : ClassId) (o : Nat → Nat) (z K h : Nat → Int32) (hn : Int32) (T : Nat → Int32) (tn : Int32) (f : Nat → Int32) (v : Int32) : (mR cI o z K h hn T tn f).set 0 (o 0, .inr (7, List.set [.ref (o 1), .ref (o 2), .ref (o 3), .int hn, .ref (o 4), .int tn, .int (f 0), .int (f 1), .int (f 2), .int (f 3), .int (f 4), .int (f 5), .int (f 6), .int (f 7)] 13 (.int v))) = mR cI o z K h hn T tn (upd f 7 v) := rfl
def inB (v lo hi : Int64) : Bool := decide (¬ v < lo ∧ ¬ hi < v)
