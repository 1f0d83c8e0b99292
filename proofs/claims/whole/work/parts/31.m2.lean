/-- what of the reference lasts from call to call is alike -/
def MEq (a b : am_H) : Prop := (∀ k : Int, k ≤ 25 → a 0 k = b 0 k) ∧ ∀ c : Int, (1 ≤ c ∧ c ≤ 16) ∨ c = 24 ∨ c = 25 → a c = b c
theorem MEq.rf (a : am_H) : MEq a a := ⟨fun _ _ => rfl, fun _ _ => rfl⟩
theorem MEq.tr {a b c : am_H} (h1 : MEq a b) (h2 : MEq b c) : MEq a c := ⟨fun k hk => (h1.1 k hk).trans (h2.1 k hk), fun k hk => (h1.2 k hk).trans (h2.2 k hk)⟩
theorem MEq.sy {a b : am_H} (h1 : MEq a b) : MEq b a := ⟨fun k hk => (h1.1 k hk).symm, fun k hk => (h1.2 k hk).symm⟩
/-- sizes of rows and texts, their places -/
def MVr (g : am_H) : Prop := (∀ r : Int, 0 ≤ r → r ≤ 5 → -1 ≤ g 1 r ∧ g 1 r ≤ 40) ∧ ∀ j : Int, -2147483648 ≤ g 2 j ∧ g 2 j < 2147483648
def MVt (g : am_H) : Prop := (∀ r : Int, 0 ≤ r → r ≤ 3 → -1 ≤ g 3 r ∧ g 3 r ≤ 80) ∧ ∀ j : Int, -128 ≤ g 4 j ∧ g 4 j < 128
def S_lp (g : am_H) (r i : Int) : Int × am_H := if ¬ (0 ≤ r ∧ r ≤ 5) then (-1, g) else if g 1 r < 0 then (-3, findF g 1) else if 0 ≤ i ∧ i ≤ g 1 r - 1 then (0, g) else (-3, findF g 2)
theorem S_lp_rng (g : am_H) (r i : Int) : -3 ≤ (S_lp g r i).1 ∧ (S_lp g r i).1 ≤ 0 := by
  unfold S_lp; repeat' split
  all_goals (dsimp only; omega)
theorem S_lp_ok {g : am_H} {r i : Int} (h : ¬ (S_lp g r i).1 < 0) : (0 ≤ r ∧ r ≤ 5) ∧ (0 ≤ i ∧ i < g 1 r) ∧ S_lp g r i = (0, g) := by
  unfold S_lp at h ⊢
  split at h <;> (try split at h) <;> (try split at h) <;> dsimp only at h <;> (try omega)
  rw [if_neg (by omega), if_neg (by omega), if_pos (by omega)]
  exact ⟨by omega, by omega, rfl⟩
theorem c_X8_lacksPlace {r i : Int} {g : am_H} (hv : MVr g) (hr : -2147483648 ≤ r ∧ r < 2147483648) (hi : -2147483648 ≤ i ∧ i < 2147483648) : AMet GM mX8_lacksPlace 3 [am_R 0, am_I r, am_I i] g (am_FI (S_lp g r i).1 (S_lp g r i).2) := by
  refine am_start [some (am_R 0), some (am_I r), some (am_I i)] rfl rfl (by decide) (Nat.le_of_ble_eq_true rfl) ?_
  refine aw_iload_n dX8_lacksPlace_0 rfl ?_
  refine aw_cS1IF (c_X8_isRow (by omega)) lk_X8_139 dX8_lacksPlace_1 (by decide) (fun _ => Nat.le_of_ble_eq_true rfl) ?_
  refine aw_ifb_ne (tgt := 9) dX8_lacksPlace_4 rfl (fun hc4 => ?_) (fun hc4 => ?_)
  · have hs := hv.1 r (by omega) (by omega)
    refine aw_aload_n dX8_lacksPlace_9 rfl ?_
    refine aw_getR (kx := 0) fl_X8_7 dX8_lacksPlace_10 rfl rfl rfl ?_
    refine aw_iload_n dX8_lacksPlace_13 rfl ?_
    refine aw_iaload dX8_lacksPlace_14 rfl (by decide) (by omega) ?_
    refine aw_if_ge (tgt := 24) dX8_lacksPlace_15 rfl (by omega) (fun hc15 => ?_) (fun hc15 => ?_)
    · refine aw_iload_n dX8_lacksPlace_24 rfl ?_
      refine aw_i2l (by omega) dX8_lacksPlace_25 ?_
      refine aw_lconst (v := 0) dX8_lacksPlace_26 rfl ?_
      refine aw_aload_n dX8_lacksPlace_27 rfl ?_
      refine aw_getR (kx := 0) fl_X8_7 dX8_lacksPlace_28 rfl rfl rfl ?_
      refine aw_iload_n dX8_lacksPlace_31 rfl ?_
      refine aw_iaload dX8_lacksPlace_32 rfl (by decide) (by omega) ?_
      refine aw_iconst dX8_lacksPlace_33 ?_
      refine aw_isub dX8_lacksPlace_34 ?_
      refine aw_i2l (by omega) dX8_lacksPlace_35 ?_
      refine aw_cS3IF (c_X8_in (by omega) (by omega) (by omega)) lk_X8_133 dX8_lacksPlace_36 (by decide) (fun _ => Nat.le_of_ble_eq_true rfl) ?_
      refine aw_ifb_eq (tgt := 46) dX8_lacksPlace_39 rfl (fun hc39 => ?_) (fun hc39 => ?_)
      · refine aw_aload_n dX8_lacksPlace_46 rfl ?_
        refine aw_iconst dX8_lacksPlace_47 ?_
        refine aw_cV1IF (c_X8_find (by omega)) lk_X8_143 dX8_lacksPlace_48 (by decide) rfl rfl (fun _ => Nat.le_of_ble_eq_true rfl) ?_
        refine aw_iretF dX8_lacksPlace_51 rfl ?_
        rw [S_lp, if_neg (by omega), if_neg (by omega), if_neg (by omega)]; exact ⟨rfl, rfl⟩
      · refine aw_iconst dX8_lacksPlace_42 ?_
        refine aw_goto (tgt := 51) dX8_lacksPlace_43 rfl ?_
        refine aw_iretF dX8_lacksPlace_51 rfl ?_
        rw [S_lp, if_neg (by omega), if_neg (by omega), if_pos (by omega)]; exact ⟨rfl, rfl⟩
    · refine aw_aload_n dX8_lacksPlace_18 rfl ?_
      refine aw_iconst dX8_lacksPlace_19 ?_
      refine aw_cV1IF (c_X8_find (by omega)) lk_X8_143 dX8_lacksPlace_20 (by decide) rfl rfl (fun _ => Nat.le_of_ble_eq_true rfl) ?_
      refine aw_iretF dX8_lacksPlace_23 rfl ?_
      rw [S_lp, if_neg (by omega), if_pos (by omega)]; exact ⟨rfl, rfl⟩
  · refine aw_iconst dX8_lacksPlace_7 ?_
    refine aw_iretF dX8_lacksPlace_8 rfl ?_
    rw [S_lp, if_pos (by omega)]; exact ⟨rfl, rfl⟩
def S_lay (g : am_H) (r i v : Int) : Int × am_H := if (S_lp g r i).1 < 0 then S_lp g r i else (1, am_set (am_set g 2 (40 * r + i) v) 0 20 (g 2 (40 * r + i)))
theorem c_X8_lay {r i v : Int} {g : am_H} (hv : MVr g) (hr : -2147483648 ≤ r ∧ r < 2147483648) (hi : -2147483648 ≤ i ∧ i < 2147483648) : AMet GM mX8_lay 4 [am_R 0, am_I r, am_I i, am_I v] g (am_FI (S_lay g r i v).1 (S_lay g r i v).2) := by
  refine am_start [some (am_R 0), some (am_I r), some (am_I i), some (am_I v), none, none] rfl rfl (by decide) (Nat.le_of_ble_eq_true rfl) ?_
  refine aw_aload_n dX8_lay_0 rfl ?_
  refine aw_iload_n dX8_lay_1 rfl ?_
  refine aw_iload_n dX8_lay_2 rfl ?_
  refine aw_cV2IF (c_X8_lacksPlace hv (by omega) (by omega)) lk_X8_147 dX8_lay_3 (by decide) rfl rfl (fun _ => Nat.le_of_ble_eq_true rfl) ?_
  refine aw_istore4 dX8_lay_6 (by decide) rfl ?_
  refine aw_iload dX8_lay_8 rfl ?_
  have hz := S_lp_rng g r i
  refine aw_if_ge (tgt := 16) dX8_lay_10 rfl (by omega) (fun hc10 => ?_) (fun hc10 => ?_)
  · obtain ⟨hr1, hi1, he⟩ := S_lp_ok (g := g) (r := r) (i := i) (by omega)
    have hs := hv.1 r (by omega) (by omega)
    rw [S_lay, if_neg (by omega)]
    refine aw_heap (h2 := g) (by rw [he]) ?_
    refine aw_aload_n dX8_lay_16 rfl ?_
    refine aw_getR (kx := 1) fl_X8_13 dX8_lay_17 rfl rfl rfl ?_
    refine aw_bipush (by decide) dX8_lay_20 ?_
    refine aw_iload_n dX8_lay_22 rfl ?_
    refine aw_imul dX8_lay_23 ?_
    refine aw_iload_n dX8_lay_24 rfl ?_
    refine aw_iadd dX8_lay_25 ?_
    refine aw_iaload dX8_lay_26 rfl (by decide) (by omega) ?_
    refine aw_istore5 dX8_lay_27 (by decide) rfl ?_
    refine aw_aload_n dX8_lay_29 rfl ?_
    refine aw_getR (kx := 1) fl_X8_13 dX8_lay_30 rfl rfl rfl ?_
    refine aw_bipush (by decide) dX8_lay_33 ?_
    refine aw_iload_n dX8_lay_35 rfl ?_
    refine aw_imul dX8_lay_36 ?_
    refine aw_iload_n dX8_lay_37 rfl ?_
    refine aw_iadd dX8_lay_38 ?_
    refine aw_iload_n dX8_lay_39 rfl ?_
    refine aw_iastore dX8_lay_40 rfl (by decide) (by omega) ?_
    refine aw_aload_n dX8_lay_41 rfl ?_
    refine aw_iconst dX8_lay_42 ?_
    refine aw_iload dX8_lay_43 rfl ?_
    refine aw_cV2IF (c_X8_answer) lk_X8_151 dX8_lay_45 (by decide) rfl rfl (fun _ => Nat.le_of_ble_eq_true rfl) ?_
    refine aw_iretF dX8_lay_48 rfl ?_
    exact ⟨rfl, rfl⟩
  · refine aw_iload dX8_lay_13 rfl ?_
    refine aw_iretF dX8_lay_15 rfl ?_
    rw [S_lay, if_pos (by omega)]; exact ⟨rfl, rfl⟩
def S_at (g : am_H) (r i : Int) : Int × am_H := if (S_lp g r i).1 < 0 then S_lp g r i else (1, am_set g 0 20 (g 2 (40 * r + i)))
theorem c_X8_at {r i : Int} {g : am_H} (hv : MVr g) (hr : -2147483648 ≤ r ∧ r < 2147483648) (hi : -2147483648 ≤ i ∧ i < 2147483648) : AMet GM mX8_at 4 [am_R 0, am_I r, am_I i] g (am_FI (S_at g r i).1 (S_at g r i).2) := by
  refine am_start [some (am_R 0), some (am_I r), some (am_I i), none] rfl rfl (by decide) (Nat.le_of_ble_eq_true rfl) ?_
  refine aw_aload_n dX8_at_0 rfl ?_
  refine aw_iload_n dX8_at_1 rfl ?_
  refine aw_iload_n dX8_at_2 rfl ?_
  refine aw_cV2IF (c_X8_lacksPlace hv (by omega) (by omega)) lk_X8_147 dX8_at_3 (by decide) rfl rfl (fun _ => Nat.le_of_ble_eq_true rfl) ?_
  refine aw_istore_3 dX8_at_6 (by decide) rfl ?_
  refine aw_iload_n dX8_at_7 rfl ?_
  have hz := S_lp_rng g r i
  refine aw_if_ge (tgt := 15) dX8_at_8 rfl (by omega) (fun hc8 => ?_) (fun hc8 => ?_)
  · obtain ⟨hr1, hi1, he⟩ := S_lp_ok (g := g) (r := r) (i := i) (by omega)
    have hs := hv.1 r (by omega) (by omega)
    rw [S_at, if_neg (by omega)]
    refine aw_heap (h2 := g) (by rw [he]) ?_
    refine aw_aload_n dX8_at_15 rfl ?_
    refine aw_iconst dX8_at_16 ?_
    refine aw_aload_n dX8_at_17 rfl ?_
    refine aw_getR (kx := 1) fl_X8_13 dX8_at_18 rfl rfl rfl ?_
    refine aw_bipush (by decide) dX8_at_21 ?_
    refine aw_iload_n dX8_at_23 rfl ?_
    refine aw_imul dX8_at_24 ?_
    refine aw_iload_n dX8_at_25 rfl ?_
    refine aw_iadd dX8_at_26 ?_
    refine aw_iaload dX8_at_27 rfl (by decide) (by omega) ?_
    refine aw_cV2IF (c_X8_answer) lk_X8_151 dX8_at_28 (by decide) rfl rfl (fun _ => Nat.le_of_ble_eq_true rfl) ?_
    refine aw_iretF dX8_at_31 rfl ?_
    exact ⟨rfl, rfl⟩
  · refine aw_iload_n dX8_at_11 rfl ?_
    refine aw_goto (tgt := 31) dX8_at_12 rfl ?_
    refine aw_iretF dX8_at_31 rfl ?_
    rw [S_at, if_pos (by omega)]; exact ⟨rfl, rfl⟩
def S_tear (g : am_H) (r : Int) : Int × am_H := if ¬ (0 ≤ r ∧ r ≤ 5) then (-1, g) else if g 1 r < 0 then (-3, findF g 1) else (1, am_set g 1 r (-1))
theorem c_X8_tear {r : Int} {g : am_H} (hv : MVr g) (hr : -2147483648 ≤ r ∧ r < 2147483648) : AMet GM mX8_tear 3 [am_R 0, am_I r] g (am_FI (S_tear g r).1 (S_tear g r).2) := by
  refine am_start [some (am_R 0), some (am_I r)] rfl rfl (by decide) (Nat.le_of_ble_eq_true rfl) ?_
  refine aw_iload_n dX8_tear_0 rfl ?_
  refine aw_cS1IF (c_X8_isRow (by omega)) lk_X8_139 dX8_tear_1 (by decide) (fun _ => Nat.le_of_ble_eq_true rfl) ?_
  refine aw_ifb_ne (tgt := 9) dX8_tear_4 rfl (fun hc4 => ?_) (fun hc4 => ?_)
  · have hs := hv.1 r (by omega) (by omega)
    refine aw_aload_n dX8_tear_9 rfl ?_
    refine aw_getR (kx := 0) fl_X8_7 dX8_tear_10 rfl rfl rfl ?_
    refine aw_iload_n dX8_tear_13 rfl ?_
    refine aw_iaload dX8_tear_14 rfl (by decide) (by omega) ?_
    refine aw_if_ge (tgt := 24) dX8_tear_15 rfl (by omega) (fun hc15 => ?_) (fun hc15 => ?_)
    · refine aw_aload_n dX8_tear_24 rfl ?_
      refine aw_getR (kx := 0) fl_X8_7 dX8_tear_25 rfl rfl rfl ?_
      refine aw_iload_n dX8_tear_28 rfl ?_
      refine aw_iconst dX8_tear_29 ?_
      refine aw_iastore dX8_tear_30 rfl (by decide) (by omega) ?_
      refine aw_iconst dX8_tear_31 ?_
      refine aw_iretF dX8_tear_32 rfl ?_
      rw [S_tear, if_neg (by omega), if_neg (by omega)]; exact ⟨rfl, rfl⟩
    · refine aw_aload_n dX8_tear_18 rfl ?_
      refine aw_iconst dX8_tear_19 ?_
      refine aw_cV1IF (c_X8_find (by omega)) lk_X8_143 dX8_tear_20 (by decide) rfl rfl (fun _ => Nat.le_of_ble_eq_true rfl) ?_
      refine aw_iretF dX8_tear_23 rfl ?_
      rw [S_tear, if_neg (by omega), if_pos (by omega)]; exact ⟨rfl, rfl⟩
  · refine aw_iconst dX8_tear_7 ?_
    refine aw_iretF dX8_tear_8 rfl ?_
    rw [S_tear, if_pos (by omega)]; exact ⟨rfl, rfl⟩
/-- the sum of n places of f, from a on -/
def sumF (f : Int → Int) (a : Int) : Nat → Int
  | 0 => 0
  | n + 1 => sumF f a n + f (a + n)
theorem sumF_rng {f : Int → Int} {a : Int} (hf : ∀ j : Int, -2147483648 ≤ f j ∧ f j < 2147483648) : ∀ n : Nat, -2147483648 * (n : Int) ≤ sumF f a n ∧ sumF f a n ≤ 2147483648 * (n : Int)
  | 0 => by simp [sumF]
  | n + 1 => by
    have h1 := sumF_rng (a := a) hf n
    have h2 := hf (a + n)
    simp only [sumF]
    omega
def S_mean (g : am_H) (r : Int) : Int × am_H := if ¬ (0 ≤ r ∧ r ≤ 5) then (-1, g) else if g 1 r < 0 then (-3, findF g 1) else if g 1 r = 0 then (-3, findF g 4) else (1, am_set g 0 20 ((sumF (g 2) (40 * r) (g 1 r).toNat).tdiv (g 1 r)))
theorem lp_X8_mean {r : Int} {g : am_H} (hv : MVr g) (hr : 0 ≤ r ∧ r ≤ 5) (hs : 0 < g 1 r) : ∀ (m : Nat) (i : Nat) (s : Int), (i : Int) ≤ g 1 r → g 1 r - i < m → s = sumF (g 2) (40 * r) i → AW GM mX8_mean 3 (am_FI (S_mean g r).1 (S_mean g r).2) 44 [some (am_R 0), some (am_I r), some (am_J s), none, some (am_I i)] [] g := by
  have hs2 := hv.1 r (by omega) (by omega)
  intro m
  induction m with
  | zero => intro i s h1 h2; omega
  | succ m ih =>
    intro i s h1 h2 hss
    have hq := hv.2 (40 * r + i)
    have hw := sumF_rng (a := 40 * r) hv.2 i
    refine aw_iload dX8_mean_44 rfl ?_
    refine aw_aload_n dX8_mean_46 rfl ?_
    refine aw_getR (kx := 0) fl_X8_7 dX8_mean_47 rfl rfl rfl ?_
    refine aw_iload_n dX8_mean_50 rfl ?_
    refine aw_iaload dX8_mean_51 rfl (by decide) (by omega) ?_
    refine aw_icmp_ge (tgt := 77) dX8_mean_52 rfl (by omega) (by omega) (fun hc52 => ?_) (fun hc52 => ?_)
    · refine aw_aload_n dX8_mean_77 rfl ?_
      refine aw_iconst dX8_mean_78 ?_
      refine aw_lload_n dX8_mean_79 rfl ?_
      refine aw_aload_n dX8_mean_80 rfl ?_
      refine aw_getR (kx := 0) fl_X8_7 dX8_mean_81 rfl rfl rfl ?_
      refine aw_iload_n dX8_mean_84 rfl ?_
      refine aw_iaload dX8_mean_85 rfl (by decide) (by omega) ?_
      refine aw_i2l (by omega) dX8_mean_86 ?_
      refine aw_ldiv (by omega) (by omega) dX8_mean_87 ?_
      refine aw_l2i dX8_mean_88 ?_
      refine aw_cV2IF (c_X8_answer) lk_X8_151 dX8_mean_89 (by decide) rfl rfl (fun _ => Nat.le_of_ble_eq_true rfl) ?_
      refine aw_iretF dX8_mean_92 rfl ?_
      rw [S_mean, if_neg (by omega), if_neg (by omega), if_neg (by omega), hss]
      have e : (g 1 r).toNat = i := by omega
      rw [e]; exact ⟨rfl, rfl⟩
    · refine aw_lload_n dX8_mean_55 rfl ?_
      refine aw_aload_n dX8_mean_56 rfl ?_
      refine aw_getR (kx := 1) fl_X8_13 dX8_mean_57 rfl rfl rfl ?_
      refine aw_bipush (by decide) dX8_mean_60 ?_
      refine aw_iload_n dX8_mean_62 rfl ?_
      refine aw_imul dX8_mean_63 ?_
      refine aw_iload dX8_mean_64 rfl ?_
      refine aw_iadd dX8_mean_66 ?_
      refine aw_iaload dX8_mean_67 rfl (by decide) (by omega) ?_
      refine aw_i2l (by omega) dX8_mean_68 ?_
      refine aw_ladd dX8_mean_69 ?_
      refine aw_lstore_2 dX8_mean_70 (by decide) rfl ?_
      refine aw_iinc4 dX8_mean_71 (by decide) rfl ?_
      refine aw_goto (tgt := 44) dX8_mean_74 rfl ?_
      refine ih (i + 1) _ (by omega) (by omega) ?_
      rw [hss]; rfl
theorem c_X8_mean {r : Int} {g : am_H} (hv : MVr g) (hr : -2147483648 ≤ r ∧ r < 2147483648) : AMet GM mX8_mean 3 [am_R 0, am_I r] g (am_FI (S_mean g r).1 (S_mean g r).2) := by
  refine am_start [some (am_R 0), some (am_I r), none, none, none] rfl rfl (by decide) (Nat.le_of_ble_eq_true rfl) ?_
  refine aw_iload_n dX8_mean_0 rfl ?_
  refine aw_cS1IF (c_X8_isRow (by omega)) lk_X8_139 dX8_mean_1 (by decide) (fun _ => Nat.le_of_ble_eq_true rfl) ?_
  refine aw_ifb_ne (tgt := 9) dX8_mean_4 rfl (fun hc4 => ?_) (fun hc4 => ?_)
  · have hs := hv.1 r (by omega) (by omega)
    refine aw_aload_n dX8_mean_9 rfl ?_
    refine aw_getR (kx := 0) fl_X8_7 dX8_mean_10 rfl rfl rfl ?_
    refine aw_iload_n dX8_mean_13 rfl ?_
    refine aw_iaload dX8_mean_14 rfl (by decide) (by omega) ?_
    refine aw_if_ge (tgt := 24) dX8_mean_15 rfl (by omega) (fun hc15 => ?_) (fun hc15 => ?_)
    · refine aw_aload_n dX8_mean_24 rfl ?_
      refine aw_getR (kx := 0) fl_X8_7 dX8_mean_25 rfl rfl rfl ?_
      refine aw_iload_n dX8_mean_28 rfl ?_
      refine aw_iaload dX8_mean_29 rfl (by decide) (by omega) ?_
      refine aw_if_ne (tgt := 39) dX8_mean_30 rfl (by omega) (fun hc30 => ?_) (fun hc30 => ?_)
      · refine aw_lconst (v := 0) dX8_mean_39 rfl ?_
        refine aw_lstore_2 dX8_mean_40 (by decide) rfl ?_
        refine aw_iconst dX8_mean_41 ?_
        refine aw_istore4 dX8_mean_42 (by decide) rfl ?_
        exact lp_X8_mean hv (by omega) (by omega) 41 0 0 (by omega) (by omega) rfl
      · refine aw_aload_n dX8_mean_33 rfl ?_
        refine aw_iconst dX8_mean_34 ?_
        refine aw_cV1IF (c_X8_find (by omega)) lk_X8_143 dX8_mean_35 (by decide) rfl rfl (fun _ => Nat.le_of_ble_eq_true rfl) ?_
        refine aw_iretF dX8_mean_38 rfl ?_
        rw [S_mean, if_neg (by omega), if_neg (by omega), if_pos (by omega)]; exact ⟨rfl, rfl⟩
    · refine aw_aload_n dX8_mean_18 rfl ?_
      refine aw_iconst dX8_mean_19 ?_
      refine aw_cV1IF (c_X8_find (by omega)) lk_X8_143 dX8_mean_20 (by decide) rfl rfl (fun _ => Nat.le_of_ble_eq_true rfl) ?_
      refine aw_iretF dX8_mean_23 rfl ?_
      rw [S_mean, if_neg (by omega), if_pos (by omega)]; exact ⟨rfl, rfl⟩
  · refine aw_iconst dX8_mean_7 ?_
    refine aw_iretF dX8_mean_8 rfl ?_
    rw [S_mean, if_pos (by omega)]; exact ⟨rfl, rfl⟩
