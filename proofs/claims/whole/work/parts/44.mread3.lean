def cnt2 (a b : Int → Int) (x y : Int) : Nat → Int
  | 0 => 0
  | n + 1 => cnt2 a b x y n + (if a n = x ∧ (y = 10 ∨ b n = y) then 1 else 0)
theorem cnt2_rng (a b : Int → Int) (x y : Int) : ∀ n : Nat, 0 ≤ cnt2 a b x y n ∧ cnt2 a b x y n ≤ n
  | 0 => by simp [cnt2]
  | n + 1 => by
    have := cnt2_rng a b x y n
    simp only [cnt2]
    split <;> omega
theorem cnt2_10 (a b : Int → Int) (x : Int) : ∀ n : Nat, cnt2 a b x 10 n = cntF a x n
  | 0 => rfl
  | n + 1 => by
    simp only [cnt2, cntF, cnt2_10 a b x n]
    simp
theorem cnt2_pos (a b : Int → Int) (x y : Int) (hy : ¬ y = 10) : ∀ n : Nat, 0 < cnt2 a b x y n ↔ ∃ k : Int, 0 ≤ k ∧ k < n ∧ a k = x ∧ b k = y
  | 0 => by
    simp only [cnt2]
    constructor
    · intro h; omega
    · rintro ⟨k, h1, h2, -⟩; omega
  | n + 1 => by
    have ih := cnt2_pos a b x y hy n
    have hr := cnt2_rng a b x y n
    simp only [cnt2]
    constructor
    · intro h
      by_cases e : a n = x ∧ (y = 10 ∨ b n = y)
      · exact ⟨n, by omega, by omega, e.1, e.2.resolve_left hy⟩
      · rw [if_neg e] at h
        obtain ⟨k, h1, h2, h3⟩ := ih.mp (by omega)
        exact ⟨k, h1, by omega, h3⟩
    · rintro ⟨k, h1, h2, h3, h4⟩
      by_cases e : k = n
      · subst e
        rw [if_pos ⟨h3, Or.inr h4⟩]; omega
      · have := ih.mpr ⟨k, h1, by omega, h3, h4⟩
        split <;> omega
theorem lp_X8_readFrom {g0 g : am_H} {t sz x y : Int} {f : Int → Int} {q : am_H} (hR : RM g0 g t f sz q) (hV : PV sz q) (hx : -2147483648 ≤ x ∧ x < 2147483648) (hy : -2147483648 ≤ y ∧ y < 2147483648) : ∀ (m i : Nat) (s : Int), (i : Int) ≤ q 0 2 → q 0 2 - i < m → s = cnt2 (q 3) (q 5) x y i → AW GM mX8_readFrom 1 (am_FI (cnt2 (q 3) (q 5) x y (q 0 2).toNat) g) 5 [some (am_R 0), some (am_I x), some (am_I y), some (am_I s), some (am_I i)] [] g := by
  obtain ⟨h0, ht, hsz, hf, hfr, e0, e1, e2, e3, hK, hW, hD⟩ := hR
  obtain ⟨v0, v1, v2, v3, v4, v5, v6, v7, v8, v9⟩ := hV
  intro m
  induction m with
  | zero => intro i s h1 h2; omega
  | succ m ih =>
    intro i s h1 h2 hs
    have hr := cnt2_rng (q 3) (q 5) x y i
    have hw := hW i (by omega)
    have hv5 := v5 i (by omega)
    have stp : ∀ c : Int, (c = if q 3 i = x ∧ (y = 10 ∨ q 5 i = y) then 1 else 0) → s + c = cnt2 (q 3) (q 5) x y (i + 1) := by
      intro c hc; rw [hc, hs]; rfl
    refine aw_iload dX8_readFrom_5 rfl ?_
    refine aw_aload_n dX8_readFrom_7 rfl ?_
    refine aw_getI (kx := 31) fl_X8_176 dX8_readFrom_8 rfl rfl rfl ?_
    refine aw_icmp_ge (tgt := 62) dX8_readFrom_11 rfl (by omega) (by omega) (fun hc11 => ?_) (fun hc11 => ?_)
    · refine aw_iload_n dX8_readFrom_62 rfl ?_
      refine aw_iretF dX8_readFrom_63 rfl ?_
      exact ⟨by rw [hs, show (q 0 2).toNat = i by omega], rfl⟩
    · have hw2 := hw (by omega)
      have hv6 := hv5 (by omega)
      refine aw_iload_n dX8_readFrom_14 rfl ?_
      refine aw_aload_n dX8_readFrom_15 rfl ?_
      refine aw_getR (kx := 30) fl_X8_71 dX8_readFrom_16 rfl rfl rfl ?_
      refine aw_iconst dX8_readFrom_19 ?_
      refine aw_iload dX8_readFrom_20 rfl ?_
      refine aw_imul dX8_readFrom_22 ?_
      refine aw_iaload dX8_readFrom_23 rfl (by decide) (by omega) ?_
      refine aw_iload_n dX8_readFrom_24 rfl ?_
      refine aw_icmp_ne (tgt := 53) dX8_readFrom_25 rfl (by omega) (by omega) (fun hc25 => ?_) (fun hc25 => ?_)
      · refine aw_iconst dX8_readFrom_53 ?_
        refine aw_iadd dX8_readFrom_54 ?_
        refine aw_istore_3 dX8_readFrom_55 (by decide) rfl ?_
        refine aw_iinc4 dX8_readFrom_56 (by decide) rfl ?_
        refine aw_goto (tgt := 5) dX8_readFrom_59 rfl ?_
        exact ih (i + 1) _ (by omega) (by omega) (stp 0 (by rw [if_neg (by omega)]))
      · refine aw_iload_n dX8_readFrom_28 rfl ?_
        refine aw_bipush (by decide) dX8_readFrom_29 ?_
        refine aw_icmp_eq (tgt := 49) dX8_readFrom_31 rfl (by omega) (by omega) (fun hc31 => ?_) (fun hc31 => ?_)
        · refine aw_iconst dX8_readFrom_49 ?_
          refine aw_goto (tgt := 54) dX8_readFrom_50 rfl ?_
          refine aw_iadd dX8_readFrom_54 ?_
          refine aw_istore_3 dX8_readFrom_55 (by decide) rfl ?_
          refine aw_iinc4 dX8_readFrom_56 (by decide) rfl ?_
          refine aw_goto (tgt := 5) dX8_readFrom_59 rfl ?_
          exact ih (i + 1) _ (by omega) (by omega) (stp 1 (by rw [if_pos ⟨by omega, by omega⟩]))
        · refine aw_aload_n dX8_readFrom_34 rfl ?_
          refine aw_getR (kx := 30) fl_X8_71 dX8_readFrom_35 rfl rfl rfl ?_
          refine aw_iconst dX8_readFrom_38 ?_
          refine aw_iload dX8_readFrom_39 rfl ?_
          refine aw_imul dX8_readFrom_41 ?_
          refine aw_iconst dX8_readFrom_42 ?_
          refine aw_iadd dX8_readFrom_43 ?_
          refine aw_iaload dX8_readFrom_44 rfl (by decide) (by omega) ?_
          refine aw_iload_n dX8_readFrom_45 rfl ?_
          refine aw_icmp_ne (tgt := 53) dX8_readFrom_46 rfl (by omega) (by omega) (fun hc46 => ?_) (fun hc46 => ?_)
          · refine aw_iconst dX8_readFrom_53 ?_
            refine aw_iadd dX8_readFrom_54 ?_
            refine aw_istore_3 dX8_readFrom_55 (by decide) rfl ?_
            refine aw_iinc4 dX8_readFrom_56 (by decide) rfl ?_
            refine aw_goto (tgt := 5) dX8_readFrom_59 rfl ?_
            exact ih (i + 1) _ (by omega) (by omega) (stp 0 (by rw [if_neg (by omega)]))
          · refine aw_iconst dX8_readFrom_49 ?_
            refine aw_goto (tgt := 54) dX8_readFrom_50 rfl ?_
            refine aw_iadd dX8_readFrom_54 ?_
            refine aw_istore_3 dX8_readFrom_55 (by decide) rfl ?_
            refine aw_iinc4 dX8_readFrom_56 (by decide) rfl ?_
            refine aw_goto (tgt := 5) dX8_readFrom_59 rfl ?_
            exact ih (i + 1) _ (by omega) (by omega) (stp 1 (by rw [if_pos ⟨by omega, by omega⟩]))
theorem c_X8_readFrom {g0 g : am_H} {t sz x y : Int} {f : Int → Int} {q : am_H} (hR : RM g0 g t f sz q) (hV : PV sz q) (hx : -2147483648 ≤ x ∧ x < 2147483648) (hy : -2147483648 ≤ y ∧ y < 2147483648) : AMet GM mX8_readFrom 1 [am_R 0, am_I x, am_I y] g (am_FI (cnt2 (q 3) (q 5) x y (q 0 2).toNat) g) := by
  refine am_start [some (am_R 0), some (am_I x), some (am_I y), none, none] rfl rfl (by decide) (Nat.le_of_ble_eq_true rfl) ?_
  have v2 := hV.2.2.1
  refine aw_iconst dX8_readFrom_0 ?_
  refine aw_istore_3 dX8_readFrom_1 (by decide) rfl ?_
  refine aw_iconst dX8_readFrom_2 ?_
  refine aw_istore4 dX8_readFrom_3 (by decide) rfl ?_
  exact lp_X8_readFrom hR hV hx hy 15 0 0 (by omega) (by omega) rfl
theorem c_X8_readWord {g0 g : am_H} {t sz : Int} {f : Int → Int} {q : am_H} (hR : RM g0 g t f sz q) (hV : PV sz q) (hp : q 0 0 < sz) : AMet GM mX8_readWord 4 [am_R 0, am_I t] g (am_QI (fun v g' => v = (if (pWord f sz q).1 = true then 1 else 0) ∧ RM g0 g' t f sz (pWord f sz q).2)) := by
  have v0 := hV.1
  have v1 := hV.2.1
  have v2 := hV.2.2.1
  have e2 := hR.2.2.2.2.2.2.2.1
  have hfr := hR.2.2.2.2.1
  have hR1 := hR.up
  have hV1 := hV.up hp
  have u0 := pUp_0 q
  have u1 := pUp_j q (j := 1) (by decide)
  have u2 := pUp_j q (j := 2) (by decide)
  have hb := pB_rng (f := f) (sz := sz) (q := pUp q) hfr
  refine am_start [some (am_R 0), some (am_I t), none, none, none] rfl rfl (by decide) (Nat.le_of_ble_eq_true rfl) ?_
  refine aw_aload_n dX8_readWord_0 rfl ?_
  refine aw_getI (kx := 31) fl_X8_176 dX8_readWord_1 rfl rfl rfl ?_
  refine aw_bipush (by decide) dX8_readWord_4 ?_
  refine aw_icmp_ne (tgt := 11) dX8_readWord_6 rfl (by omega) (by omega) (fun hc6 => ?_) (fun hc6 => ?_)
  · refine aw_aload_n dX8_readWord_11 rfl ?_
    first | refine aw_dupR dX8_readWord_12 ?_ | refine aw_dupI dX8_readWord_12 ?_
    refine aw_getI (kx := 26) fl_X8_157 dX8_readWord_13 rfl rfl rfl ?_
    refine aw_iconst dX8_readWord_16 ?_
    refine aw_iadd dX8_readWord_17 ?_
    refine aw_putI (kx := 26) fp_X8_157 dX8_readWord_18 rfl rfl rfl ?_
    generalize am_set g 0 26 (g 0 26 + 1) = g1 at *
    generalize hq1 : pUp q = q1 at *
    have f1 := hR1.2.2.2.2.2.2.1
    have w1 := hV1.2.1
    have w2 := hV1.2.2.1
    have cr := cntF_rng (q1 3) (f (q1 0 0) - 48) (q1 0 2).toNat
    have cr2 := cnt2_rng (q1 3) (q1 5) (f (q1 0 0) - 48) 10 (q1 0 2).toNat
    have bad1 : pFromBad f sz q1 → ((0 : Int) = (if (pWord f sz q).1 = true then 1 else 0) ∧ RM g0 g1 t f sz (pWord f sz q).2) := by
      intro hb1
      have hN : pWord f sz q = (false, q1) := by rw [pWord, if_neg (by omega), hq1, pWord2, if_pos hb1]
      rw [hN]; exact ⟨rfl, hR1⟩
    refine aw_aload_n dX8_readWord_21 rfl ?_
    refine aw_iload_n dX8_readWord_22 rfl ?_
    refine aw_cV1IF (c_X8_byteAt hR1 hV1) lk_X8_163 dX8_readWord_23 (by decide) rfl rfl (fun _ => Nat.le_of_ble_eq_true rfl) ?_
    refine aw_bipush (by decide) dX8_readWord_26 ?_
    refine aw_isub dX8_readWord_28 ?_
    refine aw_istore_2 dX8_readWord_29 (by decide) rfl ?_
    refine aw_aload_n dX8_readWord_30 rfl ?_
    refine aw_iload_n dX8_readWord_31 rfl ?_
    refine aw_cV1IF (c_X8_isEnd hR1 hV1) lk_X8_160 dX8_readWord_32 (by decide) rfl rfl (fun _ => Nat.le_of_ble_eq_true rfl) ?_
    refine aw_ifb_ne (tgt := 77) dX8_readWord_35 rfl (fun hc35 => ?_) (fun hc35 => ?_)
    · refine aw_iconst dX8_readWord_77 ?_
      refine aw_zretQ dX8_readWord_78 rfl (by omega) ?_
      exact bad1 (Or.inl hc35)
    · have hB : pB f sz q1 = f (q1 0 0) := by rw [pB, if_neg (by omega)]
      rw [hB]
      refine aw_iload_n dX8_readWord_38 rfl ?_
      refine aw_i2l (by omega) dX8_readWord_39 ?_
      refine aw_lconst (v := 0) dX8_readWord_40 rfl ?_
      refine aw_aload_n dX8_readWord_41 rfl ?_
      refine aw_getI (kx := 29) fl_X8_166 dX8_readWord_42 rfl rfl rfl ?_
      refine aw_iconst dX8_readWord_45 ?_
      refine aw_isub dX8_readWord_46 ?_
      refine aw_i2l (by omega) dX8_readWord_47 ?_
      refine aw_cS3IF (c_X8_in (by omega) (by omega) (by omega)) lk_X8_133 dX8_readWord_48 (by decide) (fun _ => Nat.le_of_ble_eq_true rfl) ?_
      refine aw_ifb_eq (tgt := 77) dX8_readWord_51 rfl (fun hc51 => ?_) (fun hc51 => ?_)
      · refine aw_iconst dX8_readWord_77 ?_
        refine aw_zretQ dX8_readWord_78 rfl (by omega) ?_
        exact bad1 (Or.inr (Or.inl (by rw [← f1]; exact hc51)))
      · have hkk := hR1.2.2.2.2.2.2.2.2.2.1 (f (q1 0 0) - 48) (by omega) (by omega)
        have hkv := (hV1.2.2.2.2.1 (f (q1 0 0) - 48) (by omega) (by omega)).1
        refine aw_aload_n dX8_readWord_54 rfl ?_
        refine aw_getR (kx := 27) fl_X8_65 dX8_readWord_55 rfl rfl rfl ?_
        refine aw_iload_n dX8_readWord_58 rfl ?_
        refine aw_iaload dX8_readWord_59 rfl (by decide) (by omega) ?_
        refine aw_cS1IF (c_X8_isFinal (by omega)) lk_X8_169 dX8_readWord_60 (by decide) (fun _ => Nat.le_of_ble_eq_true rfl) ?_
        refine aw_ifb_ne (tgt := 77) dX8_readWord_63 rfl (fun hc63 => ?_) (fun hc63 => ?_)
        · refine aw_iconst dX8_readWord_77 ?_
          refine aw_zretQ dX8_readWord_78 rfl (by omega) ?_
          exact bad1 (Or.inr (Or.inr (Or.inl (by rw [← hkk.1]; exact hc63))))
        · refine aw_aload_n dX8_readWord_66 rfl ?_
          refine aw_iload_n dX8_readWord_67 rfl ?_
          refine aw_bipush (by decide) dX8_readWord_68 ?_
          refine aw_cV2IF (c_X8_readFrom hR1 hV1 (by omega) (by omega)) lk_X8_179 dX8_readWord_70 (by decide) rfl rfl (fun _ => Nat.le_of_ble_eq_true rfl) ?_
          rw [cnt2_10]
          refine aw_iconst dX8_readWord_73 ?_
          refine aw_icmp_ne (tgt := 79) dX8_readWord_74 rfl (by omega) (by omega) (fun hc74 => ?_) (fun hc74 => ?_)
          · have good1 : ¬ pFromBad f sz q1 := by
              rintro (z | z | z | z)
              · omega
              · exact z (by rw [← f1]; exact hc51)
              · exact hc63 (by rw [hkk.1]; exact z)
              · exact hc74 z
            have hlt : q1 0 0 < sz := by omega
            have hR2 := hR1.up
            have hV2 := hV1.up hlt
            have x0 := pUp_0 q1
            have x1 := pUp_j q1 (j := 1) (by decide)
            have hW2 : pWord f sz q = pWord3 f sz (f (q1 0 0) - 48) (pFig f sz (f (q1 0 0) - 48 + 1) (q1 0 1 - 1) (pUp q1)) := by rw [pWord, if_neg (by omega), hq1, pWord2, if_neg good1]
            refine aw_aload_n dX8_readWord_79 rfl ?_
            first | refine aw_dupR dX8_readWord_80 ?_ | refine aw_dupI dX8_readWord_80 ?_
            refine aw_getI (kx := 26) fl_X8_157 dX8_readWord_81 rfl rfl rfl ?_
            refine aw_iconst dX8_readWord_84 ?_
            refine aw_iadd dX8_readWord_85 ?_
            refine aw_putI (kx := 26) fp_X8_157 dX8_readWord_86 rfl rfl rfl ?_
            generalize am_set g1 0 26 (g1 0 26 + 1) = g2 at *
            have f2 := hR2.2.2.2.2.2.2.1
            rw [hW2]
            generalize f (q1 0 0) - 48 = fr at *
            refine aw_aload_n dX8_readWord_89 rfl ?_
            refine aw_iload_n dX8_readWord_90 rfl ?_
            refine aw_iload_n dX8_readWord_91 rfl ?_
            refine aw_iconst dX8_readWord_92 ?_
            refine aw_iadd dX8_readWord_93 ?_
            refine aw_aload_n dX8_readWord_94 rfl ?_
            refine aw_getI (kx := 29) fl_X8_166 dX8_readWord_95 rfl rfl rfl ?_
            refine aw_top (show g2 0 29 = q1 0 1 by omega) ?_
            refine aw_iconst dX8_readWord_98 ?_
            refine aw_isub dX8_readWord_99 ?_
            refine aw_cV3I (c_X8_figure (hi := q1 0 1 - 1) hR2 hV2 (by omega) (by omega)) lk_X8_172 dX8_readWord_100 (by decide) rfl rfl (fun _ => Nat.le_of_ble_eq_true rfl) (fun v100 h100 q100 => ?_)
            obtain ⟨rfl, hR3, hk3⟩ := q100
            have hT := pFig_pl f sz (fr + 1) (q1 0 1 - 1) (pUp q1)
            have hV3 := hV2.fig (f := f) (lo := fr + 1) (hi := q1 0 1 - 1)
            have hvv := @pFig_v f sz (fr + 1) (q1 0 1 - 1) (pUp q1)
            have hrg := pFig_rng (f := f) (sz := sz) (lo := fr + 1) (hi := q1 0 1 - 1) (q := pUp q1) (by omega) (by omega)
            generalize pFig f sz (fr + 1) (q1 0 1 - 1) (pUp q1) = T at *
            have hb3 := pB_rng (f := f) (sz := sz) (q := T.2) hfr
            have cr3 := cnt2_rng (T.2 3) (T.2 5) fr (f (T.2 0 0) - 48) (T.2 0 2).toNat
            have w3 := hV3.2.2.1
            have g32 := hR3.2.2.2.2.2.2.2.1
            refine aw_istore_3 dX8_readWord_103 (by decide) rfl ?_
            refine aw_iload_n dX8_readWord_104 rfl ?_
            refine aw_if_ge (tgt := 110) dX8_readWord_105 rfl (by omega) (fun hc105 => ?_) (fun hc105 => ?_)
            · have bad3 : pSndBad f sz fr T.2 → ((0 : Int) = (if (pWord3 f sz fr T).1 = true then 1 else 0) ∧ RM g0 h100 t f sz (pWord3 f sz fr T).2) := by
                intro hb1
                have hN : pWord3 f sz fr T = (false, T.2) := by rw [pWord3, if_neg (by omega), if_pos hb1]
                rw [hN]; exact ⟨rfl, hR3⟩
              refine aw_aload_n dX8_readWord_110 rfl ?_
              refine aw_iload_n dX8_readWord_111 rfl ?_
              refine aw_cV1IF (c_X8_byteAt hR3 hV3) lk_X8_163 dX8_readWord_112 (by decide) rfl rfl (fun _ => Nat.le_of_ble_eq_true rfl) ?_
              refine aw_bipush (by decide) dX8_readWord_115 ?_
              refine aw_isub dX8_readWord_117 ?_
              refine aw_istore4 dX8_readWord_118 (by decide) rfl ?_
              refine aw_aload_n dX8_readWord_120 rfl ?_
              refine aw_iload_n dX8_readWord_121 rfl ?_
              refine aw_cV1IF (c_X8_isEnd hR3 hV3) lk_X8_160 dX8_readWord_122 (by decide) rfl rfl (fun _ => Nat.le_of_ble_eq_true rfl) ?_
              refine aw_ifb_ne (tgt := 151) dX8_readWord_125 rfl (fun hc125 => ?_) (fun hc125 => ?_)
              · refine aw_iconst dX8_readWord_151 ?_
                refine aw_zretQ dX8_readWord_152 rfl (by omega) ?_
                exact bad3 (Or.inl hc125)
              · have hB3 : pB f sz T.2 = f (T.2 0 0) := by rw [pB, if_neg (by omega)]
                rw [hB3]
                refine aw_iload dX8_readWord_128 rfl ?_
                refine aw_i2l (by omega) dX8_readWord_130 ?_
                refine aw_lconst (v := 0) dX8_readWord_131 rfl ?_
                refine aw_ldc2 (n := 9) kj_X8_182 rfl dX8_readWord_132 ?_
                refine aw_cS3IF (c_X8_in (by omega) (by omega) (by omega)) lk_X8_133 dX8_readWord_135 (by decide) (fun _ => Nat.le_of_ble_eq_true rfl) ?_
                refine aw_ifb_eq (tgt := 151) dX8_readWord_138 rfl (fun hc138 => ?_) (fun hc138 => ?_)
                · refine aw_iconst dX8_readWord_151 ?_
                  refine aw_zretQ dX8_readWord_152 rfl (by omega) ?_
                  exact bad3 (Or.inr (Or.inl hc138))
                · refine aw_aload_n dX8_readWord_141 rfl ?_
                  refine aw_iload_n dX8_readWord_142 rfl ?_
                  refine aw_iload dX8_readWord_143 rfl ?_
                  refine aw_cV2IF (c_X8_readFrom hR3 hV3 (by omega) (by omega)) lk_X8_179 dX8_readWord_145 (by decide) rfl rfl (fun _ => Nat.le_of_ble_eq_true rfl) ?_
                  refine aw_if_le (tgt := 153) dX8_readWord_148 rfl (by omega) (fun hc148 => ?_) (fun hc148 => ?_)
                  · have good3 : ¬ pSndBad f sz fr T.2 := by
                      rintro (z | z | z)
                      · omega
                      · exact z hc138
                      · obtain ⟨k, a1, a2, a3, a4⟩ := z
                        have := (cnt2_pos (T.2 3) (T.2 5) fr (f (T.2 0 0) - 48) (by omega) (T.2 0 2).toNat).mpr ⟨k, a1, by omega, a3, a4⟩
                        omega
                    have hN : pWord3 f sz fr T = (true, pWordA fr T.1 (f (T.2 0 0) - 48) T.2) := by rw [pWord3, if_neg (by omega), if_neg good3]
                    rw [hN]
                    have hj := hT.1 2 (by decide)
                    have hj2 := pUp_j q1 (j := 2) (by decide)
                    have hT4 := hR3.wordA (fr := fr) (to := T.1) (so := f (T.2 0 0) - 48) (by omega)
                    refine aw_aload_n dX8_readWord_153 rfl ?_
                    first | refine aw_dupR dX8_readWord_154 ?_ | refine aw_dupI dX8_readWord_154 ?_
                    refine aw_getI (kx := 26) fl_X8_157 dX8_readWord_155 rfl rfl rfl ?_
                    refine aw_iconst dX8_readWord_158 ?_
                    refine aw_iadd dX8_readWord_159 ?_
                    refine aw_putI (kx := 26) fp_X8_157 dX8_readWord_160 rfl rfl rfl ?_
                    refine aw_aload_n dX8_readWord_163 rfl ?_
                    refine aw_getR (kx := 30) fl_X8_71 dX8_readWord_164 rfl rfl rfl ?_
                    refine aw_iconst dX8_readWord_167 ?_
                    refine aw_aload_n dX8_readWord_168 rfl ?_
                    refine aw_getI (kx := 31) fl_X8_176 dX8_readWord_169 rfl rfl rfl ?_
                    refine aw_imul dX8_readWord_172 ?_
                    refine aw_iload_n dX8_readWord_173 rfl ?_
                    refine aw_iastore dX8_readWord_174 rfl (by decide) (by simp only [am_set_if]; simp; omega) ?_
                    refine aw_aload_n dX8_readWord_175 rfl ?_
                    refine aw_getR (kx := 30) fl_X8_71 dX8_readWord_176 rfl rfl rfl ?_
                    refine aw_iconst dX8_readWord_179 ?_
                    refine aw_aload_n dX8_readWord_180 rfl ?_
                    refine aw_getI (kx := 31) fl_X8_176 dX8_readWord_181 rfl rfl rfl ?_
                    refine aw_imul dX8_readWord_184 ?_
                    refine aw_iconst dX8_readWord_185 ?_
                    refine aw_iadd dX8_readWord_186 ?_
                    refine aw_iload_n dX8_readWord_187 rfl ?_
                    refine aw_iastore dX8_readWord_188 rfl (by decide) (by simp only [am_set_if]; simp; omega) ?_
                    refine aw_aload_n dX8_readWord_189 rfl ?_
                    refine aw_getR (kx := 30) fl_X8_71 dX8_readWord_190 rfl rfl rfl ?_
                    refine aw_iconst dX8_readWord_193 ?_
                    refine aw_aload_n dX8_readWord_194 rfl ?_
                    refine aw_getI (kx := 31) fl_X8_176 dX8_readWord_195 rfl rfl rfl ?_
                    refine aw_imul dX8_readWord_198 ?_
                    refine aw_iconst dX8_readWord_199 ?_
                    refine aw_iadd dX8_readWord_200 ?_
                    refine aw_iload dX8_readWord_201 rfl ?_
                    refine aw_iastore dX8_readWord_203 rfl (by decide) (by simp only [am_set_if]; simp; omega) ?_
                    refine aw_aload_n dX8_readWord_204 rfl ?_
                    first | refine aw_dupR dX8_readWord_205 ?_ | refine aw_dupI dX8_readWord_205 ?_
                    refine aw_getI (kx := 31) fl_X8_176 dX8_readWord_206 rfl rfl rfl ?_
                    refine aw_iconst dX8_readWord_209 ?_
                    refine aw_iadd dX8_readWord_210 ?_
                    refine aw_putI (kx := 31) fp_X8_176 dX8_readWord_211 rfl rfl rfl ?_
                    refine aw_iconst dX8_readWord_214 ?_
                    refine aw_zretQ dX8_readWord_215 rfl (by omega) ?_
                    refine ⟨rfl, ?_⟩
                    refine cast (congrArg (fun z => RM g0 z t f sz (pWordA fr T.1 (f (T.2 0 0) - 48) T.2)) ?_) hT4
                    simp [am_set_if]
                  · refine aw_iconst dX8_readWord_151 ?_
                    refine aw_zretQ dX8_readWord_152 rfl (by omega) ?_
                    exact bad3 (Or.inr (Or.inr (by
                      obtain ⟨k, a1, a2, a3, a4⟩ := (cnt2_pos (T.2 3) (T.2 5) fr (f (T.2 0 0) - 48) (by omega) (T.2 0 2).toNat).mp (by omega)
                      exact ⟨k, a1, by omega, a3, a4⟩)))
            · refine aw_iconst dX8_readWord_108 ?_
              refine aw_zretQ dX8_readWord_109 rfl (by omega) ?_
              have hN : pWord3 f sz fr T = (false, T.2) := by rw [pWord3, if_pos (by omega)]
              rw [hN]; exact ⟨rfl, hR3⟩
          · refine aw_iconst dX8_readWord_77 ?_
            refine aw_zretQ dX8_readWord_78 rfl (by omega) ?_
            exact bad1 (Or.inr (Or.inr (Or.inr hc74)))
  · refine aw_iconst dX8_readWord_9 ?_
    refine aw_zretQ dX8_readWord_10 rfl (by omega) ?_
    have hN : pWord f sz q = (false, q) := by rw [pWord, if_pos (by omega)]
    rw [hN]; exact ⟨rfl, hR⟩
