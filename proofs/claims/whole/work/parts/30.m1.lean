set_option maxRecDepth 20000 in
theorem c_X8_in {a b c : Int} {h : am_H} (ha : -9223372036854775808 ≤ a ∧ a < 9223372036854775808) (hb : -9223372036854775808 ≤ b ∧ b < 9223372036854775808) (hc : -9223372036854775808 ≤ c ∧ c < 9223372036854775808) : AMet GM mX8_in 1 [am_J a, am_J b, am_J c] h (am_FI (if b ≤ a ∧ a ≤ c then 1 else 0) h) := by
  refine am_start [some (am_J a), none, some (am_J b), none, some (am_J c), none] rfl rfl (by decide) (Nat.le_of_ble_eq_true rfl) ?_
  refine aw_lload_n dX8_in_0 rfl ?_
  refine aw_lload_n dX8_in_1 rfl ?_
  refine aw_lif_lt (tgt := 17) dX8_in_2 dX8_in_3 rfl (by omega) (by omega) (fun hc2 => ?_) (fun hc2 => ?_)
  · refine aw_iconst dX8_in_17 ?_
    refine aw_zretF dX8_in_18 rfl (by omega) ?_
    exact ⟨by split <;> omega, rfl⟩
  · refine aw_lload_n dX8_in_6 rfl ?_
    refine aw_lload dX8_in_7 rfl ?_
    refine aw_lif_gt (tgt := 17) dX8_in_9 dX8_in_10 rfl (by omega) (by omega) (fun hc9 => ?_) (fun hc9 => ?_)
    · refine aw_iconst dX8_in_17 ?_
      refine aw_zretF dX8_in_18 rfl (by omega) ?_
      exact ⟨by split <;> omega, rfl⟩
    · refine aw_iconst dX8_in_13 ?_
      refine aw_goto (tgt := 18) dX8_in_14 rfl ?_
      refine aw_zretF dX8_in_18 rfl (by omega) ?_
      exact ⟨by split <;> omega, rfl⟩
theorem c_X8_isRow {r : Int} {h : am_H} (hr : -2147483648 ≤ r ∧ r < 2147483648) : AMet GM mX8_isRow 2 [am_I r] h (am_FI (if 0 ≤ r ∧ r ≤ 5 then 1 else 0) h) := by
  refine am_start [some (am_I r)] rfl rfl (by decide) (Nat.le_of_ble_eq_true rfl) ?_
  refine aw_iload_n dX8_isRow_0 rfl ?_
  refine aw_i2l (by omega) dX8_isRow_1 ?_
  refine aw_lconst (v := 0) dX8_isRow_2 rfl ?_
  refine aw_ldc2 (n := 5) kj_X8_131 rfl dX8_isRow_3 ?_
  refine aw_cS3IF (c_X8_in (by omega) (by omega) (by omega)) lk_X8_133 dX8_isRow_6 (by decide) (fun _ => Nat.le_of_ble_eq_true rfl) ?_
  refine aw_zretF dX8_isRow_9 rfl (by split <;> omega) ?_
  exact ⟨rfl, rfl⟩
theorem c_X8_isText {r : Int} {h : am_H} (hr : -2147483648 ≤ r ∧ r < 2147483648) : AMet GM mX8_isText 2 [am_I r] h (am_FI (if 0 ≤ r ∧ r ≤ 3 then 1 else 0) h) := by
  refine am_start [some (am_I r)] rfl rfl (by decide) (Nat.le_of_ble_eq_true rfl) ?_
  refine aw_iload_n dX8_isText_0 rfl ?_
  refine aw_i2l (by omega) dX8_isText_1 ?_
  refine aw_lconst (v := 0) dX8_isText_2 rfl ?_
  refine aw_ldc2 (n := 3) kj_X8_137 rfl dX8_isText_3 ?_
  refine aw_cS3IF (c_X8_in (by omega) (by omega) (by omega)) lk_X8_133 dX8_isText_6 (by decide) (fun _ => Nat.le_of_ble_eq_true rfl) ?_
  refine aw_zretF dX8_isText_9 rfl (by split <;> omega) ?_
  exact ⟨rfl, rfl⟩
def findF (g : am_H) (f : Int) : am_H := am_set (am_set g 0 23 f) 16 f (g 16 f + 1)
theorem c_X8_find {f : Int} {g : am_H} (hf : 1 ≤ f ∧ f ≤ 5) : AMet GM mX8_find 1 [am_R 0, am_I f] g (am_FI (-3) (findF g f)) := by
  refine am_start [some (am_R 0), some (am_I f)] rfl rfl (by decide) (Nat.le_of_ble_eq_true rfl) ?_
  refine aw_aload_n dX8_find_0 rfl ?_
  refine aw_iload_n dX8_find_1 rfl ?_
  refine aw_putI (kx := 23) fp_X8_124 dX8_find_2 rfl rfl rfl ?_
  refine aw_aload_n dX8_find_5 rfl ?_
  refine aw_getR (kx := 24) fl_X8_59 dX8_find_6 rfl rfl rfl ?_
  refine aw_iload_n dX8_find_9 rfl ?_
  refine aw_dup2 dX8_find_10 ?_
  refine aw_iaload dX8_find_11 rfl (by decide) (by omega) ?_
  refine aw_iconst dX8_find_12 ?_
  refine aw_iadd dX8_find_13 ?_
  refine aw_iastore dX8_find_14 rfl (by decide) (by omega) ?_
  refine aw_bipush (by decide) dX8_find_15 ?_
  refine aw_iretF dX8_find_17 rfl ?_
  exact ⟨rfl, rfl⟩
theorem c_X8_answer {a v : Int} {g : am_H} : AMet GM mX8_answer 1 [am_R 0, am_I a, am_I v] g (am_FI a (am_set g 0 20 v)) := by
  refine am_start [some (am_R 0), some (am_I a), some (am_I v)] rfl rfl (by decide) (Nat.le_of_ble_eq_true rfl) ?_
  refine aw_aload_n dX8_answer_0 rfl ?_
  refine aw_iload_n dX8_answer_1 rfl ?_
  refine aw_putI (kx := 20) fp_X8_128 dX8_answer_2 rfl rfl rfl ?_
  refine aw_iload_n dX8_answer_5 rfl ?_
  refine aw_iretF dX8_answer_6 rfl ?_
  exact ⟨rfl, rfl⟩
def rowF (g : am_H) (r n : Int) : am_H := am_up (am_set g 1 r n) 2 (fun j => if 40 * r ≤ j ∧ j < 40 * r + 40 then 0 else g 2 j)
theorem lp_X8_row {r n : Int} {g : am_H} (hr : 0 ≤ r ∧ r ≤ 5) : ∀ (m : Nat) (i : Int) (f : Int → Int), 0 ≤ i → i ≤ 40 → 40 - i < m → (f = fun j => if 40 * r ≤ j ∧ j < 40 * r + i then 0 else g 2 j) → AW GM mX8_row 3 (am_FI n (rowF g r n)) 34 [some (am_R 0), some (am_I r), some (am_I n), some (am_I i)] [] (am_up (am_set g 1 r n) 2 f) := by
  intro m
  induction m with
  | zero => intro i f h0 h1 h2; omega
  | succ m ih =>
    intro i f h0 h1 h2 hf
    refine aw_iload_n dX8_row_34 rfl ?_
    refine aw_bipush (by decide) dX8_row_35 ?_
    refine aw_icmp_ge (tgt := 58) dX8_row_37 rfl (by omega) (by omega) (fun hc37 => ?_) (fun hc37 => ?_)
    · refine aw_iload_n dX8_row_58 rfl ?_
      refine aw_iretF dX8_row_59 rfl ?_
      refine ⟨rfl, ?_⟩
      rw [hf, show i = 40 by omega]; rfl
    · refine aw_aload_n dX8_row_40 rfl ?_
      refine aw_getR (kx := 1) fl_X8_13 dX8_row_41 rfl rfl rfl ?_
      refine aw_bipush (by decide) dX8_row_44 ?_
      refine aw_iload_n dX8_row_46 rfl ?_
      refine aw_imul dX8_row_47 ?_
      refine aw_iload_n dX8_row_48 rfl ?_
      refine aw_iadd dX8_row_49 ?_
      refine aw_iconst dX8_row_50 ?_
      refine aw_iastore dX8_row_51 rfl (by decide) (by omega) ?_
      refine aw_iinc3 dX8_row_52 (by decide) rfl ?_
      refine aw_goto (tgt := 34) dX8_row_55 rfl ?_
      rw [am_set_ups]
      refine ih _ _ (by omega) (by omega) (by omega) ?_
      rw [hf]; funext j; dsimp only; repeat' split
      all_goals first | rfl | omega
def S_row (g : am_H) (r n : Int) : Int × am_H := if ¬ (0 ≤ r ∧ r ≤ 5) ∨ 40 < n then (-1, g) else if n < 0 then (-3, findF g 5) else (n, rowF g r n)
theorem c_X8_row {r n : Int} {g : am_H} (hr : -2147483648 ≤ r ∧ r < 2147483648) (hn : -2147483648 ≤ n ∧ n < 2147483648) : AMet GM mX8_row 3 [am_R 0, am_I r, am_I n] g (am_FI (S_row g r n).1 (S_row g r n).2) := by
  refine am_start [some (am_R 0), some (am_I r), some (am_I n), none] rfl rfl (by decide) (Nat.le_of_ble_eq_true rfl) ?_
  refine aw_iload_n dX8_row_0 rfl ?_
  refine aw_cS1IF (c_X8_isRow (by omega)) lk_X8_139 dX8_row_1 (by decide) (fun _ => Nat.le_of_ble_eq_true rfl) ?_
  refine aw_ifb_eq (tgt := 13) dX8_row_4 rfl (fun hc4 => ?_) (fun hc4 => ?_)
  · refine aw_iconst dX8_row_13 ?_
    refine aw_iretF dX8_row_14 rfl ?_
    rw [S_row, if_pos (by omega)]; exact ⟨rfl, rfl⟩
  · refine aw_iload_n dX8_row_7 rfl ?_
    refine aw_bipush (by decide) dX8_row_8 ?_
    refine aw_icmp_le (tgt := 15) dX8_row_10 rfl (by omega) (by omega) (fun hc10 => ?_) (fun hc10 => ?_)
    · refine aw_iload_n dX8_row_15 rfl ?_
      refine aw_if_ge (tgt := 25) dX8_row_16 rfl (by omega) (fun hc16 => ?_) (fun hc16 => ?_)
      · refine aw_aload_n dX8_row_25 rfl ?_
        refine aw_getR (kx := 0) fl_X8_7 dX8_row_26 rfl rfl rfl ?_
        refine aw_iload_n dX8_row_29 rfl ?_
        refine aw_iload_n dX8_row_30 rfl ?_
        refine aw_iastore dX8_row_31 rfl (by decide) (by omega) ?_
        refine aw_iconst dX8_row_32 ?_
        refine aw_istore_3 dX8_row_33 (by decide) rfl ?_
        refine aw_heap (h2 := am_up (am_set g 1 r n) 2 (g 2)) ?_ ?_
        · rw [← am_set_c (h := g) (c := 1) (i := r) (v := n) (x := 2) (by decide), am_up_self]
        rw [S_row, if_neg (by omega), if_neg (by omega)]
        exact lp_X8_row hc4 41 0 _ (by omega) (by omega) (by omega) (by funext j; rw [if_neg (by omega)])
      · refine aw_aload_n dX8_row_19 rfl ?_
        refine aw_iconst dX8_row_20 ?_
        refine aw_cV1IF (c_X8_find (by omega)) lk_X8_143 dX8_row_21 (by decide) rfl rfl (fun _ => Nat.le_of_ble_eq_true rfl) ?_
        refine aw_iretF dX8_row_24 rfl ?_
        rw [S_row, if_neg (by omega), if_pos (by omega)]; exact ⟨rfl, rfl⟩
    · refine aw_iconst dX8_row_13 ?_
      refine aw_iretF dX8_row_14 rfl ?_
      rw [S_row, if_pos (by omega)]; exact ⟨rfl, rfl⟩
