def toldF (g : am_H) (r : Int) : am_H := am_up (rowF g r (g 0 18)) 2 (fun j => if 40 * r ≤ j ∧ j < 40 * r + g 0 18 then g 14 (j - 40 * r) else rowF g r (g 0 18) 2 j)
def S_told (g : am_H) (r : Int) : Int × am_H := if ¬ (0 ≤ r ∧ r ≤ 5) then (-1, g) else (g 0 18, toldF g r)
theorem lp_X8_told {g : am_H} {r : Int} (hr : 0 ≤ r ∧ r ≤ 5) (hm : 0 ≤ g 0 18 ∧ g 0 18 ≤ 8) : ∀ (m : Nat) (i : Int) (f : Int → Int), 0 ≤ i → i ≤ g 0 18 → g 0 18 - i < m → (f = fun j => if 40 * r ≤ j ∧ j < 40 * r + i then g 14 (j - 40 * r) else rowF g r (g 0 18) 2 j) → AW GM mX8_told 4 (QM (g 0 18, toldF g r)) 21 [some (am_R 0), some (am_I r), some (am_I i)] [] (am_up (rowF g r (g 0 18)) 2 f) := by
  have e0 : ∀ f, am_up (rowF g r (g 0 18)) 2 f 0 = g 0 := by intro f; rw [am_up_c (by decide)]; unfold rowF; rw [am_up_c (by decide), am_set_c (by decide)]
  have e14 : ∀ f, am_up (rowF g r (g 0 18)) 2 f 14 = g 14 := by intro f; rw [am_up_c (by decide)]; unfold rowF; rw [am_up_c (by decide), am_set_c (by decide)]
  intro m
  induction m with
  | zero => intro i f h0 h1 h2; omega
  | succ m ih =>
    intro i f h0 h1 h2 hf
    refine aw_iload_n dX8_told_21 rfl ?_
    refine aw_aload_n dX8_told_22 rfl ?_
    refine aw_getI (kx := 18) fl_X8_216 dX8_told_23 rfl rfl rfl ?_
    rw [e0]
    refine aw_icmp_ge (tgt := 52) dX8_told_26 rfl (by omega) (by omega) (fun hc26 => ?_) (fun hc26 => ?_)
    · refine aw_aload_n dX8_told_52 rfl ?_
      refine aw_getI (kx := 18) fl_X8_216 dX8_told_53 rfl rfl rfl ?_
      refine aw_iretQ dX8_told_56 rfl ?_
      refine ⟨by rw [e0], ?_⟩
      show MEq _ (toldF g r)
      rw [hf, show i = g 0 18 by omega]; exact MEq.rf _
    · refine aw_aload_n dX8_told_29 rfl ?_
      refine aw_getR (kx := 1) fl_X8_13 dX8_told_30 rfl rfl rfl ?_
      refine aw_bipush (by decide) dX8_told_33 ?_
      refine aw_iload_n dX8_told_35 rfl ?_
      refine aw_imul dX8_told_36 ?_
      refine aw_iload_n dX8_told_37 rfl ?_
      refine aw_iadd dX8_told_38 ?_
      refine aw_aload_n dX8_told_39 rfl ?_
      refine aw_getR (kx := 16) fl_X8_49 dX8_told_40 rfl rfl rfl ?_
      refine aw_iload_n dX8_told_43 rfl ?_
      refine aw_iaload dX8_told_44 rfl (by decide) (by omega) ?_
      rw [e14]
      refine aw_iastore dX8_told_45 rfl (by decide) (by omega) ?_
      refine aw_iinc2 dX8_told_46 (by decide) rfl ?_
      refine aw_goto (tgt := 21) dX8_told_49 rfl ?_
      rw [am_set_ups]
      refine ih _ _ (by omega) (by omega) (by omega) ?_
      rw [hf]; funext j; dsimp only; repeat' split
      all_goals first | rfl | omega | (congr 1; omega)
theorem c_X8_told {g : am_H} {r : Int} (hy : MVy g) (hr : -2147483648 ≤ r ∧ r < 2147483648) : AMet GM mX8_told 4 [am_R 0, am_I r] g (QM (S_told g r)) := by
  have hm := hy.1
  refine am_start [some (am_R 0), some (am_I r), none] rfl rfl (by decide) (Nat.le_of_ble_eq_true rfl) ?_
  refine aw_iload_n dX8_told_0 rfl ?_
  refine aw_cS1IF (c_X8_isRow (by omega)) lk_X8_139 dX8_told_1 (by decide) (fun _ => Nat.le_of_ble_eq_true rfl) ?_
  refine aw_ifb_ne (tgt := 9) dX8_told_4 rfl (fun hc4 => ?_) (fun hc4 => ?_)
  · refine aw_aload_n dX8_told_9 rfl ?_
    refine aw_iload_n dX8_told_10 rfl ?_
    refine aw_aload_n dX8_told_11 rfl ?_
    refine aw_getI (kx := 18) fl_X8_216 dX8_told_12 rfl rfl rfl ?_
    refine aw_cV2IF (c_X8_row (by omega) (by omega)) lk_X8_293 dX8_told_15 (by decide) rfl rfl (fun _ => Nat.le_of_ble_eq_true rfl) ?_
    have hS : S_row g r (g 0 18) = (g 0 18, rowF g r (g 0 18)) := by rw [S_row, if_neg (by omega), if_neg (by omega)]
    rw [hS]
    refine aw_popI dX8_told_18 ?_
    refine aw_iconst dX8_told_19 ?_
    refine aw_istore_2 dX8_told_20 (by decide) rfl ?_
    rw [S_told, if_neg (by omega)]
    refine aw_heap (am_up_self _ 2).symm ?_
    exact lp_X8_told (by omega) hm 9 0 _ (by omega) (by omega) (by omega) (by funext j; rw [if_neg (by omega)])
  · refine aw_iconst dX8_told_7 ?_
    refine aw_iretQ dX8_told_8 rfl ?_
    rw [S_told, if_pos (by omega)]; exact ⟨rfl, MEq.rf _⟩
def keepC (g : am_H) (k : Int) : Int → Int := fun j => if 18 * k ≤ j ∧ j < 18 * k + 8 then g 14 (j - 18 * k) else if 18 * k + 8 ≤ j ∧ j < 18 * k + 16 then g 15 (j - (18 * k + 8)) else if j = 18 * k + 16 then g 0 18 else if j = 18 * k + 17 then g 0 19 else g 25 j
def keepF (g : am_H) (k : Int) : am_H := am_set (am_up g 25 (keepC g k)) 24 k 1
def S_keep (g : am_H) (k : Int) : Int × am_H := if ¬ (0 ≤ k ∧ k ≤ 2) then (-1, g) else if g 0 6 = 0 then (-4, g) else (g 0 18, keepF g k)
theorem lp_X8_keep {g : am_H} {k : Int} (hk : 0 ≤ k ∧ k ≤ 2) : ∀ (m : Nat) (i : Int) (f : Int → Int), 0 ≤ i → i ≤ 8 → 8 - i < m → (f = fun j => if 18 * k ≤ j ∧ j < 18 * k + i then g 14 (j - 18 * k) else if 18 * k + 8 ≤ j ∧ j < 18 * k + 8 + i then g 15 (j - (18 * k + 8)) else g 25 j) → AW GM mX8_keep 2 (QM (g 0 18, keepF g k)) 26 [some (am_R 0), some (am_I k), some (am_I i)] [] (am_up g 25 f) := by
  intro m
  induction m with
  | zero => intro i f h0 h1 h2; omega
  | succ m ih =>
    intro i f h0 h1 h2 hf
    refine aw_iload_n dX8_keep_26 rfl ?_
    refine aw_bipush (by decide) dX8_keep_27 ?_
    refine aw_icmp_ge (tgt := 75) dX8_keep_29 rfl (by omega) (by omega) (fun hc29 => ?_) (fun hc29 => ?_)
    · refine aw_aload_n dX8_keep_75 rfl ?_
      refine aw_getR (kx := 37) fl_X8_87 dX8_keep_76 rfl rfl rfl ?_
      refine aw_bipush (by decide) dX8_keep_79 ?_
      refine aw_iload_n dX8_keep_81 rfl ?_
      refine aw_imul dX8_keep_82 ?_
      refine aw_bipush (by decide) dX8_keep_83 ?_
      refine aw_iadd dX8_keep_85 ?_
      refine aw_aload_n dX8_keep_86 rfl ?_
      refine aw_getI (kx := 18) fl_X8_216 dX8_keep_87 rfl rfl rfl ?_
      refine aw_iastore dX8_keep_90 rfl (by decide) (by omega) ?_
      refine aw_aload_n dX8_keep_91 rfl ?_
      refine aw_getR (kx := 37) fl_X8_87 dX8_keep_92 rfl rfl rfl ?_
      refine aw_bipush (by decide) dX8_keep_95 ?_
      refine aw_iload_n dX8_keep_97 rfl ?_
      refine aw_imul dX8_keep_98 ?_
      refine aw_bipush (by decide) dX8_keep_99 ?_
      refine aw_iadd dX8_keep_101 ?_
      refine aw_aload_n dX8_keep_102 rfl ?_
      refine aw_getI (kx := 19) fl_X8_219 dX8_keep_103 rfl rfl rfl ?_
      refine aw_iastore dX8_keep_106 rfl (by decide) (by omega) ?_
      refine aw_aload_n dX8_keep_107 rfl ?_
      refine aw_getR (kx := 36) fl_X8_83 dX8_keep_108 rfl rfl rfl ?_
      refine aw_iload_n dX8_keep_111 rfl ?_
      refine aw_iconst dX8_keep_112 ?_
      refine aw_zastore dX8_keep_113 rfl (by decide) (by omega) (by omega) ?_
      refine aw_aload_n dX8_keep_114 rfl ?_
      refine aw_getI (kx := 18) fl_X8_216 dX8_keep_115 rfl rfl rfl ?_
      refine aw_iretQ dX8_keep_118 rfl ?_
      refine ⟨?_, ?_⟩
      · rw [am_set_c (by decide), am_set_c (by decide), am_set_c (by decide), am_up_c (by decide)]
      show MEq _ (keepF g k)
      refine cast (congrArg (fun z => MEq z (keepF g k)) ?_) (MEq.rf (keepF g k))
      unfold keepF
      rw [am_set_c (c := 25) (x := 0) (by decide), am_up_c (c := 25) (x := 0) (by decide), am_set_ups, am_set_ups]
      congr 2
      unfold keepC
      have e8 : i = 8 := by omega
      rw [hf, e8]; funext j; dsimp only; repeat' split
      all_goals first | rfl | omega | (congr 1; omega)
    · refine aw_aload_n dX8_keep_32 rfl ?_
      refine aw_getR (kx := 37) fl_X8_87 dX8_keep_33 rfl rfl rfl ?_
      refine aw_bipush (by decide) dX8_keep_36 ?_
      refine aw_iload_n dX8_keep_38 rfl ?_
      refine aw_imul dX8_keep_39 ?_
      refine aw_iload_n dX8_keep_40 rfl ?_
      refine aw_iadd dX8_keep_41 ?_
      refine aw_aload_n dX8_keep_42 rfl ?_
      refine aw_getR (kx := 16) fl_X8_49 dX8_keep_43 rfl rfl rfl ?_
      refine aw_iload_n dX8_keep_46 rfl ?_
      refine aw_iaload dX8_keep_47 rfl (by decide) (by omega) ?_
      refine aw_iastore dX8_keep_48 rfl (by decide) (by omega) ?_
      refine aw_aload_n dX8_keep_49 rfl ?_
      refine aw_getR (kx := 37) fl_X8_87 dX8_keep_50 rfl rfl rfl ?_
      refine aw_bipush (by decide) dX8_keep_53 ?_
      refine aw_iload_n dX8_keep_55 rfl ?_
      refine aw_imul dX8_keep_56 ?_
      refine aw_bipush (by decide) dX8_keep_57 ?_
      refine aw_iadd dX8_keep_59 ?_
      refine aw_iload_n dX8_keep_60 rfl ?_
      refine aw_iadd dX8_keep_61 ?_
      refine aw_aload_n dX8_keep_62 rfl ?_
      refine aw_getR (kx := 17) fl_X8_52 dX8_keep_63 rfl rfl rfl ?_
      refine aw_iload_n dX8_keep_66 rfl ?_
      refine aw_iaload dX8_keep_67 rfl (by decide) (by omega) ?_
      refine aw_iastore dX8_keep_68 rfl (by decide) (by omega) ?_
      refine aw_iinc2 dX8_keep_69 (by decide) rfl ?_
      refine aw_goto (tgt := 26) dX8_keep_72 rfl ?_
      rw [am_set_ups, am_set_ups]
      refine ih _ _ (by omega) (by omega) (by omega) ?_
      rw [am_up_c (by decide), am_up_c (by decide), hf]; funext j; dsimp only; repeat' split
      all_goals first | rfl | omega | (congr 1; omega)
theorem c_X8_keep {g : am_H} {k : Int} (hs : MVs g) (hk : -2147483648 ≤ k ∧ k < 2147483648) : AMet GM mX8_keep 2 [am_R 0, am_I k] g (QM (S_keep g k)) := by
  have hnn := hs.1
  refine am_start [some (am_R 0), some (am_I k), none] rfl rfl (by decide) (Nat.le_of_ble_eq_true rfl) ?_
  refine aw_iload_n dX8_keep_0 rfl ?_
  refine aw_i2l (by omega) dX8_keep_1 ?_
  refine aw_lconst (v := 0) dX8_keep_2 rfl ?_
  refine aw_ldc2 (n := 2) kj_X8_240 rfl dX8_keep_3 ?_
  refine aw_cS3IF (c_X8_in (by omega) (by omega) (by omega)) lk_X8_133 dX8_keep_6 (by decide) (fun _ => Nat.le_of_ble_eq_true rfl) ?_
  refine aw_ifb_ne (tgt := 14) dX8_keep_9 rfl (fun hc9 => ?_) (fun hc9 => ?_)
  · refine aw_aload_n dX8_keep_14 rfl ?_
    refine aw_getI (kx := 6) fl_X8_207 dX8_keep_15 rfl rfl rfl ?_
    refine aw_if_ne (tgt := 24) dX8_keep_18 rfl (by omega) (fun hc18 => ?_) (fun hc18 => ?_)
    · refine aw_iconst dX8_keep_24 ?_
      refine aw_istore_2 dX8_keep_25 (by decide) rfl ?_
      rw [S_keep, if_neg (by omega), if_neg (by omega)]
      refine aw_heap (am_up_self g 25).symm ?_
      exact lp_X8_keep (by omega) 9 0 _ (by omega) (by omega) (by omega) (by funext j; rw [if_neg (by omega), if_neg (by omega)])
    · refine aw_bipush (by decide) dX8_keep_21 ?_
      refine aw_iretQ dX8_keep_23 rfl ?_
      rw [S_keep, if_neg (by omega), if_pos (by omega)]; exact ⟨rfl, MEq.rf _⟩
  · refine aw_iconst dX8_keep_12 ?_
    refine aw_iretQ dX8_keep_13 rfl ?_
    rw [S_keep, if_pos (by omega)]; exact ⟨rfl, MEq.rf _⟩
def MVk (g : am_H) : Prop := ∀ k : Int, 0 ≤ k → k < 3 → g 24 k = 0 ∨ g 24 k = 1
def onF (g : am_H) (k : Int) : am_H := am_set (am_set (am_up (am_up g 14 (lo 8 (fun i => g 25 (18 * k + i)) (g 14))) 15 (lo 8 (fun i => g 25 (18 * k + 8 + i)) (g 15))) 0 18 (g 25 (18 * k + 16))) 0 19 (g 25 (18 * k + 17))
def S_on (g : am_H) (k : Int) : Int × am_H := if ¬ (0 ≤ k ∧ k ≤ 2) then (-1, g) else if g 24 k = 0 then (-3, findF g 1) else (g 25 (18 * k + 16), onF g k)
theorem lp_X8_on {g : am_H} {k : Int} (hk : 0 ≤ k ∧ k ≤ 2) : ∀ (m : Nat) (i : Int) , 0 ≤ i → i ≤ 8 → 8 - i < m → AW GM mX8_on 2 (QM (g 25 (18 * k + 16), onF g k)) 31 [some (am_R 0), some (am_I k), some (am_I i)] [] (am_up (am_up g 14 (lo i (fun i => g 25 (18 * k + i)) (g 14))) 15 (lo i (fun i => g 25 (18 * k + 8 + i)) (g 15))) := by
  have ek : ∀ a b : Int → Int, am_up (am_up g 14 a) 15 b 25 = g 25 := by intro a b; rw [am_up_c (by decide), am_up_c (by decide)]
  intro m
  induction m with
  | zero => intro i h0 h1 h2; omega
  | succ m ih =>
    intro i h0 h1 h2
    refine aw_iload_n dX8_on_31 rfl ?_
    refine aw_bipush (by decide) dX8_on_32 ?_
    refine aw_icmp_ge (tgt := 80) dX8_on_34 rfl (by omega) (by omega) (fun hc34 => ?_) (fun hc34 => ?_)
    · refine aw_aload_n dX8_on_80 rfl ?_
      refine aw_aload_n dX8_on_81 rfl ?_
      refine aw_getR (kx := 37) fl_X8_87 dX8_on_82 rfl rfl rfl ?_
      refine aw_bipush (by decide) dX8_on_85 ?_
      refine aw_iload_n dX8_on_87 rfl ?_
      refine aw_imul dX8_on_88 ?_
      refine aw_bipush (by decide) dX8_on_89 ?_
      refine aw_iadd dX8_on_91 ?_
      refine aw_iaload dX8_on_92 rfl (by decide) (by omega) ?_
      rw [ek]
      refine aw_putI (kx := 18) fp_X8_216 dX8_on_93 rfl rfl rfl ?_
      refine aw_aload_n dX8_on_96 rfl ?_
      refine aw_aload_n dX8_on_97 rfl ?_
      refine aw_getR (kx := 37) fl_X8_87 dX8_on_98 rfl rfl rfl ?_
      refine aw_bipush (by decide) dX8_on_101 ?_
      refine aw_iload_n dX8_on_103 rfl ?_
      refine aw_imul dX8_on_104 ?_
      refine aw_bipush (by decide) dX8_on_105 ?_
      refine aw_iadd dX8_on_107 ?_
      refine aw_iaload dX8_on_108 rfl (by decide) (by omega) ?_
      refine aw_putI (kx := 19) fp_X8_219 dX8_on_109 rfl rfl rfl ?_
      refine aw_aload_n dX8_on_112 rfl ?_
      refine aw_getI (kx := 18) fl_X8_216 dX8_on_113 rfl rfl rfl ?_
      refine aw_iretQ dX8_on_116 rfl ?_
      have e8 : i = 8 := by omega
      subst e8
      refine ⟨?_, ?_⟩
      · rw [am_set_i (by decide), am_set_s]
      show MEq _ (onF g k)
      rw [am_set_c (c := 0) (x := 25) (by decide), ek]
      exact MEq.rf _
    · refine aw_aload_n dX8_on_37 rfl ?_
      refine aw_getR (kx := 16) fl_X8_49 dX8_on_38 rfl rfl rfl ?_
      refine aw_iload_n dX8_on_41 rfl ?_
      refine aw_aload_n dX8_on_42 rfl ?_
      refine aw_getR (kx := 37) fl_X8_87 dX8_on_43 rfl rfl rfl ?_
      refine aw_bipush (by decide) dX8_on_46 ?_
      refine aw_iload_n dX8_on_48 rfl ?_
      refine aw_imul dX8_on_49 ?_
      refine aw_iload_n dX8_on_50 rfl ?_
      refine aw_iadd dX8_on_51 ?_
      refine aw_iaload dX8_on_52 rfl (by decide) (by omega) ?_
      refine aw_iastore dX8_on_53 rfl (by decide) (by omega) ?_
      refine aw_aload_n dX8_on_54 rfl ?_
      refine aw_getR (kx := 17) fl_X8_52 dX8_on_55 rfl rfl rfl ?_
      refine aw_iload_n dX8_on_58 rfl ?_
      refine aw_aload_n dX8_on_59 rfl ?_
      refine aw_getR (kx := 37) fl_X8_87 dX8_on_60 rfl rfl rfl ?_
      refine aw_bipush (by decide) dX8_on_63 ?_
      refine aw_iload_n dX8_on_65 rfl ?_
      refine aw_imul dX8_on_66 ?_
      refine aw_bipush (by decide) dX8_on_67 ?_
      refine aw_iadd dX8_on_69 ?_
      refine aw_iload_n dX8_on_70 rfl ?_
      refine aw_iadd dX8_on_71 ?_
      refine aw_iaload dX8_on_72 rfl (by decide) (by omega) ?_
      refine aw_iastore dX8_on_73 rfl (by decide) (by omega) ?_
      refine aw_iinc2 dX8_on_74 (by decide) rfl ?_
      refine aw_goto (tgt := 31) dX8_on_77 rfl ?_
      refine aw_heap ?_ (ih (i + 1) (by omega) (by omega) (by omega))
      have a1 := lo_s (i := i) (f := fun i => g 25 (18 * k + i)) (e := g 14) h0 rfl
      have a2 := lo_s (i := i) (f := fun i => g 25 (18 * k + 8 + i)) (e := g 15) h0 rfl
      rw [am_set_c (c := 14) (x := 25) (by decide), ek]
      funext c
      by_cases e1 : c = 14
      · subst e1
        rw [am_set_c (by decide), am_set_up, am_up_s, am_up_c (by decide), am_up_s, a1, am_up_c (by decide), am_up_s]
      · by_cases e2 : c = 15
        · subst e2
          rw [am_set_up, am_up_s, am_set_c (by decide), am_up_s, a2, am_up_s]
        · rw [am_set_c e2, am_set_c e1, am_up_c e2, am_up_c e1, am_up_c e2, am_up_c e1]
theorem c_X8_on {g : am_H} {k : Int} (hv : MVk g) (hk : -2147483648 ≤ k ∧ k < 2147483648) : AMet GM mX8_on 2 [am_R 0, am_I k] g (QM (S_on g k)) := by
  refine am_start [some (am_R 0), some (am_I k), none] rfl rfl (by decide) (Nat.le_of_ble_eq_true rfl) ?_
  refine aw_iload_n dX8_on_0 rfl ?_
  refine aw_i2l (by omega) dX8_on_1 ?_
  refine aw_lconst (v := 0) dX8_on_2 rfl ?_
  refine aw_ldc2 (n := 2) kj_X8_240 rfl dX8_on_3 ?_
  refine aw_cS3IF (c_X8_in (by omega) (by omega) (by omega)) lk_X8_133 dX8_on_6 (by decide) (fun _ => Nat.le_of_ble_eq_true rfl) ?_
  refine aw_ifb_ne (tgt := 14) dX8_on_9 rfl (fun hc9 => ?_) (fun hc9 => ?_)
  · have hv2 := hv k (by omega) (by omega)
    refine aw_aload_n dX8_on_14 rfl ?_
    refine aw_getR (kx := 36) fl_X8_83 dX8_on_15 rfl rfl rfl ?_
    refine aw_iload_n dX8_on_18 rfl ?_
    refine aw_zaload dX8_on_19 rfl (by decide) (by omega) ?_
    refine aw_if_ne (tgt := 29) dX8_on_20 rfl (by omega) (fun hc20 => ?_) (fun hc20 => ?_)
    · refine aw_iconst dX8_on_29 ?_
      refine aw_istore_2 dX8_on_30 (by decide) rfl ?_
      rw [S_on, if_neg (by omega), if_neg (by omega)]
      refine aw_heap ?_ (lp_X8_on (by omega) 9 0 (by omega) (by omega) (by omega))
      rw [lo_0, lo_0, am_up_self]
      have e : g 15 = am_up g 14 (g 14) 15 := by rw [am_up_self]
      exact (am_up_self g 15).symm
    · refine aw_aload_n dX8_on_23 rfl ?_
      refine aw_iconst dX8_on_24 ?_
      refine aw_cV1IF (c_X8_find (by omega)) lk_X8_143 dX8_on_25 (by decide) rfl rfl (fun _ => Nat.le_of_ble_eq_true rfl) ?_
      refine aw_iretQ dX8_on_28 rfl ?_
      rw [S_on, if_neg (by omega), if_pos (by omega)]; exact ⟨rfl, MEq.rf _⟩
  · refine aw_iconst dX8_on_12 ?_
    refine aw_iretQ dX8_on_13 rfl ?_
    rw [S_on, if_pos (by omega)]; exact ⟨rfl, MEq.rf _⟩
def thF (f : Int → Int) : Nat → Int
  | 0 => 0
  | n + 1 => thF f n + (if 0 ≤ f n then 1 else 0)
theorem lp_X8_there {g : am_H} {c b : Int} {len : Nat} (hk : am_kd GM c = some (.inr (0, len, b))) (hl : len < 100) (hv : ∀ r : Int, 0 ≤ r → r < len → -2147483648 ≤ g c r ∧ g c r < 2147483648) : ∀ (m i : Nat), i ≤ len → len - i < m → AW GM mX8_there 1 (am_FI (thF (g c) len) g) 4 [some (am_R c), some (am_I (thF (g c) i)), some (am_I i)] [] g := by
  intro m
  induction m with
  | zero => intro i h1 h2; omega
  | succ m ih =>
    intro i h1 h2
    have hv2 := hv i (by omega)
    refine aw_iload_n dX8_there_4 rfl ?_
    refine aw_aload_n dX8_there_5 rfl ?_
    first | refine aw_alen0 dX8_there_6 (by exact hk) rfl ?_ | refine aw_alen1 dX8_there_6 (by exact hk) rfl ?_
    refine aw_icmp_ge (tgt := 30) dX8_there_7 rfl (by omega) (by omega) (fun hc7 => ?_) (fun hc7 => ?_)
    · refine aw_iload_n dX8_there_30 rfl ?_
      refine aw_iretF dX8_there_31 rfl ?_
      exact ⟨by rw [show len = i by omega], rfl⟩
    · refine aw_iload_n dX8_there_10 rfl ?_
      refine aw_aload_n dX8_there_11 rfl ?_
      refine aw_iload_n dX8_there_12 rfl ?_
      refine aw_iaload dX8_there_13 hk (by omega) (by omega) ?_
      refine aw_if_lt (tgt := 21) dX8_there_14 rfl (by omega) (fun hc14 => ?_) (fun hc14 => ?_)
      · refine aw_iconst dX8_there_21 ?_
        refine aw_iadd dX8_there_22 ?_
        refine aw_istore_1 dX8_there_23 (by decide) rfl ?_
        refine aw_iinc2 dX8_there_24 (by decide) rfl ?_
        refine aw_goto (tgt := 4) dX8_there_27 rfl ?_
        refine aw_ls ?_ (ih (i + 1) (by omega) (by omega))
        simp only [thF, if_neg (show ¬ 0 ≤ g c i by omega)]; simp
      · refine aw_iconst dX8_there_17 ?_
        refine aw_goto (tgt := 22) dX8_there_18 rfl ?_
        refine aw_iadd dX8_there_22 ?_
        refine aw_istore_1 dX8_there_23 (by decide) rfl ?_
        refine aw_iinc2 dX8_there_24 (by decide) rfl ?_
        refine aw_goto (tgt := 4) dX8_there_27 rfl ?_
        refine aw_ls ?_ (ih (i + 1) (by omega) (by omega))
        simp only [thF, if_pos (show 0 ≤ g c i by omega)]; simp
theorem c_X8_there {g : am_H} {c b : Int} {len : Nat} (hk : am_kd GM c = some (.inr (0, len, b))) (hl : len < 100) (hv : ∀ r : Int, 0 ≤ r → r < len → -2147483648 ≤ g c r ∧ g c r < 2147483648) : AMet GM mX8_there 1 [am_R c] g (am_FI (thF (g c) len) g) := by
  refine am_start [some (am_R c), none, none] rfl rfl (by decide) (Nat.le_of_ble_eq_true rfl) ?_
  refine aw_iconst dX8_there_0 ?_
  refine aw_istore_1 dX8_there_1 (by decide) rfl ?_
  refine aw_iconst dX8_there_2 ?_
  refine aw_istore_2 dX8_there_3 (by decide) rfl ?_
  exact lp_X8_there hk hl hv (len + 1) 0 (by omega) (by omega)
def dnF (of : Int) : Nat → Int
  | 0 => 0
  | n + 1 => dnF of n + (if hw of n = 2 then 1 else 0)
def enF (kd : Int → Int) : Nat → Int
  | 0 => 0
  | n + 1 => enF kd n + (if fin (kd n) then 1 else 0)
def cntV (g : am_H) (w : Int) : Int := if w = 0 then g 0 6 else if w = 1 then g 0 10 else if w = 2 then g 0 15 else if w = 3 then g 0 18 else if w = 4 then dnF (g 0 19) (g 0 15).toNat else if w = 5 then enF (g 5) (g 0 6).toNat else if w = 6 then thF (g 1) 6 else if w = 7 then thF (g 3) 4 else if w = 8 then g 24 0 + g 24 1 + g 24 2 else -1
abbrev MVz (g : am_H) : Prop := MVr g ∧ MVt g ∧ MVk g ∧ MVs g
theorem sw_X8_count {g : am_H} {w : Int} (hv : MVz g) (hw : -2147483648 ≤ w ∧ w < 2147483648) {x4 : Option am_V} : AW GM mX8_count 2 (am_FI (cntV g w) g) 79 [some (am_R 0), some (am_I w), some (am_I (dnF (g 0 19) (g 0 15).toNat)), some (am_I (enF (g 5) (g 0 6).toNat)), x4] [] g := by
  have h0 := hv.2.2.1 0 (by omega) (by omega)
  have h1 := hv.2.2.1 1 (by omega) (by omega)
  have h2 := hv.2.2.1 2 (by omega) (by omega)
  refine aw_iload_n dX8_count_79 rfl ?_
  by_cases hin : 0 ≤ w ∧ w ≤ 8
  · have hc : w = 0 ∨ w = 1 ∨ w = 2 ∨ w = 3 ∨ w = 4 ∨ w = 5 ∨ w = 6 ∨ w = 7 ∨ w = 8 := by omega
    rcases hc with rfl | rfl | rfl | rfl | rfl | rfl | rfl | rfl | rfl
    · refine aw_tswIn (tgt := 132) dX8_count_80 (by omega) (by omega) (by omega) rfl rfl ?_
      refine aw_aload_n dX8_count_132 rfl ?_
      refine aw_getI (kx := 6) fl_X8_207 dX8_count_133 rfl rfl rfl ?_
      refine aw_iretF dX8_count_136 rfl ?_
      exact ⟨rfl, rfl⟩
    · refine aw_tswIn (tgt := 137) dX8_count_80 (by omega) (by omega) (by omega) rfl rfl ?_
      refine aw_aload_n dX8_count_137 rfl ?_
      refine aw_getI (kx := 10) fl_X8_210 dX8_count_138 rfl rfl rfl ?_
      refine aw_iretF dX8_count_141 rfl ?_
      exact ⟨rfl, rfl⟩
    · refine aw_tswIn (tgt := 142) dX8_count_80 (by omega) (by omega) (by omega) rfl rfl ?_
      refine aw_aload_n dX8_count_142 rfl ?_
      refine aw_getI (kx := 15) fl_X8_213 dX8_count_143 rfl rfl rfl ?_
      refine aw_iretF dX8_count_146 rfl ?_
      exact ⟨rfl, rfl⟩
    · refine aw_tswIn (tgt := 147) dX8_count_80 (by omega) (by omega) (by omega) rfl rfl ?_
      refine aw_aload_n dX8_count_147 rfl ?_
      refine aw_getI (kx := 18) fl_X8_216 dX8_count_148 rfl rfl rfl ?_
      refine aw_iretF dX8_count_151 rfl ?_
      exact ⟨rfl, rfl⟩
    · refine aw_tswIn (tgt := 152) dX8_count_80 (by omega) (by omega) (by omega) rfl rfl ?_
      refine aw_iload_n dX8_count_152 rfl ?_
      refine aw_iretF dX8_count_153 rfl ?_
      exact ⟨rfl, rfl⟩
    · refine aw_tswIn (tgt := 154) dX8_count_80 (by omega) (by omega) (by omega) rfl rfl ?_
      refine aw_iload_n dX8_count_154 rfl ?_
      refine aw_iretF dX8_count_155 rfl ?_
      exact ⟨rfl, rfl⟩
    · refine aw_tswIn (tgt := 156) dX8_count_80 (by omega) (by omega) (by omega) rfl rfl ?_
      refine aw_aload_n dX8_count_156 rfl ?_
      refine aw_getR (kx := 0) fl_X8_7 dX8_count_157 rfl rfl rfl ?_
      refine aw_cS1IF (c_X8_there rfl (by decide) (fun r a b => by have := hv.1.1 r a (by omega); omega)) lk_X8_363 dX8_count_160 (by decide) (fun _ => Nat.le_of_ble_eq_true rfl) ?_
      refine aw_iretF dX8_count_163 rfl ?_
      exact ⟨rfl, rfl⟩
    · refine aw_tswIn (tgt := 164) dX8_count_80 (by omega) (by omega) (by omega) rfl rfl ?_
      refine aw_aload_n dX8_count_164 rfl ?_
      refine aw_getR (kx := 2) fl_X8_16 dX8_count_165 rfl rfl rfl ?_
      refine aw_cS1IF (c_X8_there rfl (by decide) (fun r a b => by have := hv.2.1.1 r a (by omega); omega)) lk_X8_363 dX8_count_168 (by decide) (fun _ => Nat.le_of_ble_eq_true rfl) ?_
      refine aw_iretF dX8_count_171 rfl ?_
      exact ⟨rfl, rfl⟩
    · refine aw_tswIn (tgt := 172) dX8_count_80 (by omega) (by omega) (by omega) rfl rfl ?_
      refine aw_aload_n dX8_count_172 rfl ?_
      refine aw_getR (kx := 36) fl_X8_83 dX8_count_173 rfl rfl rfl ?_
      refine aw_iconst dX8_count_176 ?_
      refine aw_zaload dX8_count_177 rfl (by decide) (by omega) ?_
      refine aw_if_eq (tgt := 185) dX8_count_178 rfl (by omega) (fun hc178 => ?_) (fun hc178 => ?_)
      · refine aw_iconst dX8_count_185 ?_
        refine aw_aload_n dX8_count_186 rfl ?_
        refine aw_getR (kx := 36) fl_X8_83 dX8_count_187 rfl rfl rfl ?_
        refine aw_iconst dX8_count_190 ?_
        refine aw_zaload dX8_count_191 rfl (by decide) (by omega) ?_
        refine aw_if_eq (tgt := 199) dX8_count_192 rfl (by omega) (fun hc192 => ?_) (fun hc192 => ?_)
        · refine aw_iconst dX8_count_199 ?_
          refine aw_iadd dX8_count_200 ?_
          refine aw_aload_n dX8_count_201 rfl ?_
          refine aw_getR (kx := 36) fl_X8_83 dX8_count_202 rfl rfl rfl ?_
          refine aw_iconst dX8_count_205 ?_
          refine aw_zaload dX8_count_206 rfl (by decide) (by omega) ?_
          refine aw_if_eq (tgt := 214) dX8_count_207 rfl (by omega) (fun hc207 => ?_) (fun hc207 => ?_)
          · refine aw_iconst dX8_count_214 ?_
            refine aw_iadd dX8_count_215 ?_
            refine aw_iretF dX8_count_216 rfl ?_
            exact ⟨by show _ = g 24 0 + g 24 1 + g 24 2; omega, rfl⟩
          · refine aw_iconst dX8_count_210 ?_
            refine aw_goto (tgt := 215) dX8_count_211 rfl ?_
            refine aw_iadd dX8_count_215 ?_
            refine aw_iretF dX8_count_216 rfl ?_
            exact ⟨by show _ = g 24 0 + g 24 1 + g 24 2; omega, rfl⟩
        · refine aw_iconst dX8_count_195 ?_
          refine aw_goto (tgt := 200) dX8_count_196 rfl ?_
          refine aw_iadd dX8_count_200 ?_
          refine aw_aload_n dX8_count_201 rfl ?_
          refine aw_getR (kx := 36) fl_X8_83 dX8_count_202 rfl rfl rfl ?_
          refine aw_iconst dX8_count_205 ?_
          refine aw_zaload dX8_count_206 rfl (by decide) (by omega) ?_
          refine aw_if_eq (tgt := 214) dX8_count_207 rfl (by omega) (fun hc207 => ?_) (fun hc207 => ?_)
          · refine aw_iconst dX8_count_214 ?_
            refine aw_iadd dX8_count_215 ?_
            refine aw_iretF dX8_count_216 rfl ?_
            exact ⟨by show _ = g 24 0 + g 24 1 + g 24 2; omega, rfl⟩
          · refine aw_iconst dX8_count_210 ?_
            refine aw_goto (tgt := 215) dX8_count_211 rfl ?_
            refine aw_iadd dX8_count_215 ?_
            refine aw_iretF dX8_count_216 rfl ?_
            exact ⟨by show _ = g 24 0 + g 24 1 + g 24 2; omega, rfl⟩
      · refine aw_iconst dX8_count_181 ?_
        refine aw_goto (tgt := 186) dX8_count_182 rfl ?_
        refine aw_aload_n dX8_count_186 rfl ?_
        refine aw_getR (kx := 36) fl_X8_83 dX8_count_187 rfl rfl rfl ?_
        refine aw_iconst dX8_count_190 ?_
        refine aw_zaload dX8_count_191 rfl (by decide) (by omega) ?_
        refine aw_if_eq (tgt := 199) dX8_count_192 rfl (by omega) (fun hc192 => ?_) (fun hc192 => ?_)
        · refine aw_iconst dX8_count_199 ?_
          refine aw_iadd dX8_count_200 ?_
          refine aw_aload_n dX8_count_201 rfl ?_
          refine aw_getR (kx := 36) fl_X8_83 dX8_count_202 rfl rfl rfl ?_
          refine aw_iconst dX8_count_205 ?_
          refine aw_zaload dX8_count_206 rfl (by decide) (by omega) ?_
          refine aw_if_eq (tgt := 214) dX8_count_207 rfl (by omega) (fun hc207 => ?_) (fun hc207 => ?_)
          · refine aw_iconst dX8_count_214 ?_
            refine aw_iadd dX8_count_215 ?_
            refine aw_iretF dX8_count_216 rfl ?_
            exact ⟨by show _ = g 24 0 + g 24 1 + g 24 2; omega, rfl⟩
          · refine aw_iconst dX8_count_210 ?_
            refine aw_goto (tgt := 215) dX8_count_211 rfl ?_
            refine aw_iadd dX8_count_215 ?_
            refine aw_iretF dX8_count_216 rfl ?_
            exact ⟨by show _ = g 24 0 + g 24 1 + g 24 2; omega, rfl⟩
        · refine aw_iconst dX8_count_195 ?_
          refine aw_goto (tgt := 200) dX8_count_196 rfl ?_
          refine aw_iadd dX8_count_200 ?_
          refine aw_aload_n dX8_count_201 rfl ?_
          refine aw_getR (kx := 36) fl_X8_83 dX8_count_202 rfl rfl rfl ?_
          refine aw_iconst dX8_count_205 ?_
          refine aw_zaload dX8_count_206 rfl (by decide) (by omega) ?_
          refine aw_if_eq (tgt := 214) dX8_count_207 rfl (by omega) (fun hc207 => ?_) (fun hc207 => ?_)
          · refine aw_iconst dX8_count_214 ?_
            refine aw_iadd dX8_count_215 ?_
            refine aw_iretF dX8_count_216 rfl ?_
            exact ⟨by show _ = g 24 0 + g 24 1 + g 24 2; omega, rfl⟩
          · refine aw_iconst dX8_count_210 ?_
            refine aw_goto (tgt := 215) dX8_count_211 rfl ?_
            refine aw_iadd dX8_count_215 ?_
            refine aw_iretF dX8_count_216 rfl ?_
            exact ⟨by show _ = g 24 0 + g 24 1 + g 24 2; omega, rfl⟩
  · refine aw_tswOut (tgt := 217) dX8_count_80 (by omega) (by omega) rfl ?_
    refine aw_iconst dX8_count_217 ?_
    refine aw_iretF dX8_count_218 rfl ?_
    exact ⟨by unfold cntV; repeat rw [if_neg (by omega)], rfl⟩
theorem lp_X8_count2 {g : am_H} {w : Int} (hv : MVz g) (hw : -2147483648 ≤ w ∧ w < 2147483648) : ∀ (m i : Nat), (i : Int) ≤ g 0 6 → g 0 6 - i < m → AW GM mX8_count 2 (am_FI (cntV g w) g) 43 [some (am_R 0), some (am_I w), some (am_I (dnF (g 0 19) (g 0 15).toNat)), some (am_I (enF (g 5) i)), some (am_I i)] [] g := by
  have hnn := hv.2.2.2.1
  intro m
  induction m with
  | zero => intro i h1 h2; omega
  | succ m ih =>
    intro i h1 h2
    have hk := hv.2.2.2.2.2.2.1 i (by omega)
    refine aw_iload dX8_count_43 rfl ?_
    refine aw_aload_n dX8_count_45 rfl ?_
    refine aw_getI (kx := 6) fl_X8_207 dX8_count_46 rfl rfl rfl ?_
    refine aw_icmp_ge (tgt := 79) dX8_count_49 rfl (by omega) (by omega) (fun hc49 => ?_) (fun hc49 => ?_)
    · have e : i = (g 0 6).toNat := by omega
      rw [e]; exact sw_X8_count hv hw
    · have hk2 := (hk (by omega)).1
      refine aw_iload_n dX8_count_52 rfl ?_
      refine aw_aload_n dX8_count_53 rfl ?_
      refine aw_getR (kx := 4) fl_X8_22 dX8_count_54 rfl rfl rfl ?_
      refine aw_iload dX8_count_57 rfl ?_
      refine aw_iaload dX8_count_59 rfl (by decide) (by omega) ?_
      refine aw_cS1IF (c_X8_isFinal (by omega)) lk_X8_169 dX8_count_60 (by decide) (fun _ => Nat.le_of_ble_eq_true rfl) ?_
      refine aw_ifb_eq (tgt := 70) dX8_count_63 rfl (fun hc63 => ?_) (fun hc63 => ?_)
      · refine aw_iconst dX8_count_70 ?_
        refine aw_iadd dX8_count_71 ?_
        refine aw_istore_3 dX8_count_72 (by decide) rfl ?_
        refine aw_iinc4 dX8_count_73 (by decide) rfl ?_
        refine aw_goto (tgt := 43) dX8_count_76 rfl ?_
        refine aw_ls ?_ (ih (i + 1) (by omega) (by omega))
        simp only [enF, if_neg hc63]; simp
      · refine aw_iconst dX8_count_66 ?_
        refine aw_goto (tgt := 71) dX8_count_67 rfl ?_
        refine aw_iadd dX8_count_71 ?_
        refine aw_istore_3 dX8_count_72 (by decide) rfl ?_
        refine aw_iinc4 dX8_count_73 (by decide) rfl ?_
        refine aw_goto (tgt := 43) dX8_count_76 rfl ?_
        refine aw_ls ?_ (ih (i + 1) (by omega) (by omega))
        simp only [enF, if_pos hc63]; simp
theorem lp_X8_count1 {g : am_H} {w : Int} (hv : MVz g) (hw' : -2147483648 ≤ w ∧ w < 2147483648) {x4 : Option am_V} : ∀ (m i : Nat), (i : Int) ≤ g 0 15 → g 0 15 - i < m → AW GM mX8_count 2 (am_FI (cntV g w) g) 4 [some (am_R 0), some (am_I w), some (am_I (dnF (g 0 19) i)), some (am_I i), x4] [] g := by
  have hnn := hv.2.2.2.1
  have hnd := hv.2.2.2.2.2.1
  intro m
  induction m with
  | zero => intro i h1 h2; omega
  | succ m ih =>
    intro i h1 h2
    have hr := hw_rng (g 0 19) i
    refine aw_iload_n dX8_count_4 rfl ?_
    refine aw_aload_n dX8_count_5 rfl ?_
    refine aw_getI (kx := 15) fl_X8_213 dX8_count_6 rfl rfl rfl ?_
    refine aw_icmp_ge (tgt := 38) dX8_count_9 rfl (by omega) (by omega) (fun hc9 => ?_) (fun hc9 => ?_)
    · refine aw_iconst dX8_count_38 ?_
      refine aw_istore_3 dX8_count_39 (by decide) rfl ?_
      refine aw_iconst dX8_count_40 ?_
      refine aw_istore4 dX8_count_41 (by decide) rfl ?_
      have e : i = (g 0 15).toNat := by omega
      rw [e]; exact lp_X8_count2 hv hw' 10 0 (by omega) (by omega)
    · refine aw_iload_n dX8_count_12 rfl ?_
      refine aw_aload_n dX8_count_13 rfl ?_
      refine aw_getI (kx := 19) fl_X8_219 dX8_count_14 rfl rfl rfl ?_
      refine aw_iload_n dX8_count_17 rfl ?_
      refine aw_cS2IF (c_X8_howOf) lk_X8_245 dX8_count_18 (by decide) (fun _ => Nat.le_of_ble_eq_true rfl) ?_
      refine aw_iconst dX8_count_21 ?_
      refine aw_icmp_ne (tgt := 29) dX8_count_22 rfl (by omega) (by omega) (fun hc22 => ?_) (fun hc22 => ?_)
      · refine aw_iconst dX8_count_29 ?_
        refine aw_iadd dX8_count_30 ?_
        refine aw_istore_2 dX8_count_31 (by decide) rfl ?_
        refine aw_iinc3 dX8_count_32 (by decide) rfl ?_
        refine aw_goto (tgt := 4) dX8_count_35 rfl ?_
        refine aw_ls ?_ (ih (i + 1) (by omega) (by omega))
        simp only [dnF, if_neg hc22]; simp
      · refine aw_iconst dX8_count_25 ?_
        refine aw_goto (tgt := 30) dX8_count_26 rfl ?_
        refine aw_iadd dX8_count_30 ?_
        refine aw_istore_2 dX8_count_31 (by decide) rfl ?_
        refine aw_iinc3 dX8_count_32 (by decide) rfl ?_
        refine aw_goto (tgt := 4) dX8_count_35 rfl ?_
        refine aw_ls ?_ (ih (i + 1) (by omega) (by omega))
        simp only [dnF, if_pos hc22]; simp
theorem c_X8_count {g : am_H} {w : Int} (hv : MVz g) (hw : -2147483648 ≤ w ∧ w < 2147483648) : AMet GM mX8_count 2 [am_R 0, am_I w] g (am_FI (cntV g w) g) := by
  have hnd := hv.2.2.2.2.2.1
  refine am_start [some (am_R 0), some (am_I w), none, none, none] rfl rfl (by decide) (Nat.le_of_ble_eq_true rfl) ?_
  refine aw_iconst dX8_count_0 ?_
  refine aw_istore_2 dX8_count_1 (by decide) rfl ?_
  refine aw_iconst dX8_count_2 ?_
  refine aw_istore_3 dX8_count_3 (by decide) rfl ?_
  exact lp_X8_count1 hv hw 5 0 (by omega) (by omega)
