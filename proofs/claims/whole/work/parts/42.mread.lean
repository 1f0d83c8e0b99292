theorem am_set_set (h : am_H) (c i v w : Int) : am_set (am_set h c i v) c i w = am_set h c i w := by
  funext x
  by_cases e : x = c
  · subst e; funext j
    by_cases e2 : j = i
    · subst e2; rw [am_set_s, am_set_s]
    · rw [am_set_i e2, am_set_i e2, am_set_i e2]
  · rw [am_set_c e, am_set_c e, am_set_c e]
/-- the reference's reader holds the parser's state q, over the text t (f, of sz bytes); what lasts is g0's -/
def RM (g0 g : am_H) (t : Int) (f : Int → Int) (sz : Int) (q : am_H) : Prop := MEq g g0 ∧ (0 ≤ t ∧ t ≤ 3) ∧ g 3 t = sz ∧ (∀ j : Int, g 4 (80 * t + j) = f j) ∧ (∀ j : Int, -128 ≤ f j ∧ f j < 128) ∧ g 0 26 = q 0 0 ∧ g 0 29 = q 0 1 ∧ g 0 31 = q 0 2 ∧ g 0 33 = q 0 3 ∧ (∀ x : Int, 0 ≤ x → x < q 0 1 → g 18 x = q 1 x ∧ g 19 x = q 2 x) ∧ (∀ k : Int, 0 ≤ k → k < q 0 2 → g 20 (3 * k) = q 3 k ∧ g 20 (3 * k + 1) = q 4 k ∧ g 20 (3 * k + 2) = q 5 k) ∧ (∀ d : Int, 0 ≤ d → d < q 0 3 → g 21 (4 * d) = q 6 d ∧ g 21 (4 * d + 1) = q 7 d ∧ g 21 (4 * d + 2) = q 8 d ∧ g 21 (4 * d + 3) = q 9 d)
theorem RM.pl {g0 g g' : am_H} {t sz : Int} {f : Int → Int} {q q' : am_H} (h : RM g0 g t f sz q) (he : pPl q' q) {v : Int} (hg : g' = am_set g 0 26 v) (hv : v = q' 0 0) : RM g0 g' t f sz q' := by
  subst hg
  obtain ⟨h0, ht, hsz, hf, hfr, e0, e1, e2, e3, hK, hW, hD⟩ := h
  obtain ⟨p, c⟩ := he
  refine ⟨(MEq.sc0 (by decide)).tr h0, ht, by rw [am_set_c (by decide)]; exact hsz, fun j => by rw [am_set_c (by decide)]; exact hf j, hfr, by rw [am_set_s]; exact hv, ?_, ?_, ?_, ?_, ?_, ?_⟩
  · rw [am_set_i (by decide), p 1 (by decide)]; exact e1
  · rw [am_set_i (by decide), p 2 (by decide)]; exact e2
  · rw [am_set_i (by decide), p 3 (by decide)]; exact e3
  · rw [p 1 (by decide), c 1 (by decide), c 2 (by decide), am_set_c (by decide), am_set_c (by decide)]; exact hK
  · rw [p 2 (by decide), c 3 (by decide), c 4 (by decide), c 5 (by decide), am_set_c (by decide)]; exact hW
  · rw [p 3 (by decide), c 6 (by decide), c 7 (by decide), c 8 (by decide), c 9 (by decide), am_set_c (by decide)]; exact hD
theorem RM.up {g0 g : am_H} {t sz : Int} {f : Int → Int} {q : am_H} (h : RM g0 g t f sz q) : RM g0 (am_set g 0 26 (g 0 26 + 1)) t f sz (pUp q) :=
  h.pl (pPl.up q) rfl (by rw [pUp_0, h.2.2.2.2.2.1])
theorem c_X8_isEnd {g0 g : am_H} {t sz : Int} {f : Int → Int} {q : am_H} (hR : RM g0 g t f sz q) (hV : PV sz q) : AMet GM mX8_isEnd 1 [am_R 0, am_I t] g (am_FI (if sz ≤ q 0 0 then 1 else 0) g) := by
  obtain ⟨h0, ht, hsz, hf, hfr, e0, e1, e2, e3, hK, hW, hD⟩ := hR
  have v0 := hV.1
  refine am_start [some (am_R 0), some (am_I t)] rfl rfl (by decide) (Nat.le_of_ble_eq_true rfl) ?_
  refine aw_aload_n dX8_isEnd_0 rfl ?_
  refine aw_getI (kx := 26) fl_X8_157 dX8_isEnd_1 rfl rfl rfl ?_
  refine aw_aload_n dX8_isEnd_4 rfl ?_
  refine aw_getR (kx := 2) fl_X8_16 dX8_isEnd_5 rfl rfl rfl ?_
  refine aw_iload_n dX8_isEnd_8 rfl ?_
  refine aw_iaload dX8_isEnd_9 rfl (by decide) (by omega) ?_
  refine aw_icmp_lt (tgt := 17) dX8_isEnd_10 rfl (by omega) (by omega) (fun hc10 => ?_) (fun hc10 => ?_)
  · refine aw_iconst dX8_isEnd_17 ?_
    refine aw_zretF dX8_isEnd_18 rfl (by omega) ?_
    exact ⟨by split <;> omega, rfl⟩
  · refine aw_iconst dX8_isEnd_13 ?_
    refine aw_goto (tgt := 18) dX8_isEnd_14 rfl ?_
    refine aw_zretF dX8_isEnd_18 rfl (by omega) ?_
    exact ⟨by split <;> omega, rfl⟩
theorem c_X8_byteAt {g0 g : am_H} {t sz : Int} {f : Int → Int} {q : am_H} (hR : RM g0 g t f sz q) (hV : PV sz q) : AMet GM mX8_byteAt 2 [am_R 0, am_I t] g (am_FI (pB f sz q) g) := by
  have hR' := hR
  obtain ⟨h0, ht, hsz, hf, hfr, e0, e1, e2, e3, hK, hW, hD⟩ := hR'
  have v0 := hV.1
  refine am_start [some (am_R 0), some (am_I t)] rfl rfl (by decide) (Nat.le_of_ble_eq_true rfl) ?_
  refine aw_aload_n dX8_byteAt_0 rfl ?_
  refine aw_iload_n dX8_byteAt_1 rfl ?_
  refine aw_cV1IF (c_X8_isEnd hR hV) lk_X8_160 dX8_byteAt_2 (by decide) rfl rfl (fun _ => Nat.le_of_ble_eq_true rfl) ?_
  refine aw_ifb_eq (tgt := 12) dX8_byteAt_5 rfl (fun hc5 => ?_) (fun hc5 => ?_)
  · refine aw_aload_n dX8_byteAt_12 rfl ?_
    refine aw_getR (kx := 3) fl_X8_19 dX8_byteAt_13 rfl rfl rfl ?_
    refine aw_bipush (by decide) dX8_byteAt_16 ?_
    refine aw_iload_n dX8_byteAt_18 rfl ?_
    refine aw_imul dX8_byteAt_19 ?_
    refine aw_aload_n dX8_byteAt_20 rfl ?_
    refine aw_getI (kx := 26) fl_X8_157 dX8_byteAt_21 rfl rfl rfl ?_
    refine aw_iadd dX8_byteAt_24 ?_
    refine aw_iaload dX8_byteAt_25 rfl (by decide) (by omega) ?_
    refine aw_iretF dX8_byteAt_26 rfl ?_
    exact ⟨by rw [pB, if_neg (by omega), ← e0]; exact hf _, rfl⟩
  · refine aw_iconst dX8_byteAt_8 ?_
    refine aw_goto (tgt := 26) dX8_byteAt_9 rfl ?_
    refine aw_iretF dX8_byteAt_26 rfl ?_
    exact ⟨by rw [pB, if_pos (by omega)], rfl⟩
theorem pB_rng {f : Int → Int} {sz : Int} {q : am_H} (hfr : ∀ j : Int, -128 ≤ f j ∧ f j < 128) : -128 ≤ pB f sz q ∧ pB f sz q < 128 := by
  unfold pB; split
  · omega
  · exact hfr _
theorem lp_X8_skip {g0 : am_H} {t sz : Int} {f : Int → Int} : ∀ (m : Nat) (g q : am_H), RM g0 g t f sz q → PV sz q → sz - q 0 0 ≤ m → AW GM mX8_skipBlanks 3 (am_QV (fun g' => RM g0 g' t f sz (am_set q 0 0 (skp f sz m (q 0 0))))) 0 [some (am_R 0), some (am_I t)] [] g := by
  intro m
  induction m with
  | zero =>
    intro g q hR hV hm
    have v0 := hV.1
    have hb := pB_rng (f := f) (sz := sz) (q := q) hR.2.2.2.2.1
    refine aw_aload_n dX8_skipBlanks_0 rfl ?_
    refine aw_iload_n dX8_skipBlanks_1 rfl ?_
    refine aw_cV1IF (c_X8_isEnd hR hV) lk_X8_160 dX8_skipBlanks_2 (by decide) rfl rfl (fun _ => Nat.le_of_ble_eq_true rfl) ?_
    refine aw_ifb_ne (tgt := 31) dX8_skipBlanks_5 rfl (fun hc5 => ?_) (fun hc5 => ?_)
    · refine aw_vretQ dX8_skipBlanks_31 rfl ?_
      refine hR.pl (pPl.set q _) (v := g 0 26) (by funext x; unfold am_set; split <;> (try rfl); rename_i e; funext j; split <;> simp_all) ?_
      rw [am_set_s, hR.2.2.2.2.2.1]; rfl
    · omega
  | succ m ih =>
    intro g q hR hV hm
    have v0 := hV.1
    have hb := pB_rng (f := f) (sz := sz) (q := q) hR.2.2.2.2.1
    have noop : ¬ (q 0 0 < sz ∧ f (q 0 0) = 32) → RM g0 g t f sz (am_set q 0 0 (skp f sz (m + 1) (q 0 0))) := by
      intro hn
      refine hR.pl (pPl.set q _) (v := g 0 26) (by funext x; unfold am_set; split <;> (try rfl); rename_i e; funext j; split <;> simp_all) ?_
      rw [am_set_s, hR.2.2.2.2.2.1]
      simp only [skp, if_neg hn]
    refine aw_aload_n dX8_skipBlanks_0 rfl ?_
    refine aw_iload_n dX8_skipBlanks_1 rfl ?_
    refine aw_cV1IF (c_X8_isEnd hR hV) lk_X8_160 dX8_skipBlanks_2 (by decide) rfl rfl (fun _ => Nat.le_of_ble_eq_true rfl) ?_
    refine aw_ifb_ne (tgt := 31) dX8_skipBlanks_5 rfl (fun hc5 => ?_) (fun hc5 => ?_)
    · refine aw_vretQ dX8_skipBlanks_31 rfl ?_
      exact noop (by omega)
    · refine aw_aload_n dX8_skipBlanks_8 rfl ?_
      refine aw_iload_n dX8_skipBlanks_9 rfl ?_
      refine aw_cV1IF (c_X8_byteAt hR hV) lk_X8_163 dX8_skipBlanks_10 (by decide) rfl rfl (fun _ => Nat.le_of_ble_eq_true rfl) ?_
      refine aw_bipush (by decide) dX8_skipBlanks_13 ?_
      refine aw_icmp_ne (tgt := 31) dX8_skipBlanks_15 rfl (by omega) (by omega) (fun hc15 => ?_) (fun hc15 => ?_)
      · refine aw_vretQ dX8_skipBlanks_31 rfl ?_
        exact noop (by
          have : pB f sz q = f (q 0 0) := by rw [pB, if_neg (by omega)]
          omega)
      · refine aw_aload_n dX8_skipBlanks_18 rfl ?_
        first | refine aw_dupR dX8_skipBlanks_19 ?_ | refine aw_dupI dX8_skipBlanks_19 ?_
        refine aw_getI (kx := 26) fl_X8_157 dX8_skipBlanks_20 rfl rfl rfl ?_
        refine aw_iconst dX8_skipBlanks_23 ?_
        refine aw_iadd dX8_skipBlanks_24 ?_
        refine aw_putI (kx := 26) fp_X8_157 dX8_skipBlanks_25 rfl rfl rfl ?_
        refine aw_goto (tgt := 0) dX8_skipBlanks_28 rfl ?_
        have hR2 := hR.up
        have hp : q 0 0 < sz ∧ f (q 0 0) = 32 := by
          have : pB f sz q = f (q 0 0) := by rw [pB, if_neg (by omega)]
          omega
        have K := ih _ (pUp q) hR2 (hV.up (by omega)) (by rw [pUp_0]; omega)
        have e : am_set (pUp q) 0 0 (skp f sz m (pUp q 0 0)) = am_set q 0 0 (skp f sz (m + 1) (q 0 0)) := by
          rw [pUp_0]
          simp only [skp, if_pos hp]
          exact am_set_set _ _ _ _ _
        rw [e] at K
        exact K
theorem c_X8_skipBlanks {g0 g : am_H} {t sz : Int} {f : Int → Int} {q : am_H} (hR : RM g0 g t f sz q) (hV : PV sz q) : AMet GM mX8_skipBlanks 3 [am_R 0, am_I t] g (am_QV (fun g' => RM g0 g' t f sz (pSkip f sz q))) := by
  refine am_start [some (am_R 0), some (am_I t)] rfl rfl (by decide) (Nat.le_of_ble_eq_true rfl) ?_
  exact lp_X8_skip 80 g q hR hV (by have := hV.1; omega)
theorem c_X8_kindBy {c : Int} {g : am_H} (hc : -2147483648 ≤ c ∧ c < 2147483648) : AMet GM mX8_kindBy 1 [am_I c] g (am_FI (pKind c) g) := by
  refine am_start [some (am_I c)] rfl rfl (by decide) (Nat.le_of_ble_eq_true rfl) ?_
  refine aw_iload_n dX8_kindBy_0 rfl ?_
  refine aw_bipush (by decide) dX8_kindBy_1 ?_
  refine aw_icmp_ne (tgt := 10) dX8_kindBy_3 rfl (by omega) (by omega) (fun hc3 => ?_) (fun hc3 => ?_)
  · refine aw_iload_n dX8_kindBy_10 rfl ?_
    refine aw_bipush (by decide) dX8_kindBy_11 ?_
    refine aw_icmp_ne (tgt := 20) dX8_kindBy_13 rfl (by omega) (by omega) (fun hc13 => ?_) (fun hc13 => ?_)
    · refine aw_iload_n dX8_kindBy_20 rfl ?_
      refine aw_bipush (by decide) dX8_kindBy_21 ?_
      refine aw_icmp_ne (tgt := 30) dX8_kindBy_23 rfl (by omega) (by omega) (fun hc23 => ?_) (fun hc23 => ?_)
      · refine aw_iload_n dX8_kindBy_30 rfl ?_
        refine aw_bipush (by decide) dX8_kindBy_31 ?_
        refine aw_icmp_ne (tgt := 40) dX8_kindBy_33 rfl (by omega) (by omega) (fun hc33 => ?_) (fun hc33 => ?_)
        · refine aw_iload_n dX8_kindBy_40 rfl ?_
          refine aw_bipush (by decide) dX8_kindBy_41 ?_
          refine aw_icmp_ne (tgt := 50) dX8_kindBy_43 rfl (by omega) (by omega) (fun hc43 => ?_) (fun hc43 => ?_)
          · refine aw_iload_n dX8_kindBy_50 rfl ?_
            refine aw_bipush (by decide) dX8_kindBy_51 ?_
            refine aw_icmp_ne (tgt := 60) dX8_kindBy_53 rfl (by omega) (by omega) (fun hc53 => ?_) (fun hc53 => ?_)
            · refine aw_iconst dX8_kindBy_60 ?_
              refine aw_iretF dX8_kindBy_61 rfl ?_
              refine ⟨?_, rfl⟩
              unfold pKind; repeat' split
              all_goals omega
            · refine aw_iconst dX8_kindBy_56 ?_
              refine aw_goto (tgt := 61) dX8_kindBy_57 rfl ?_
              refine aw_iretF dX8_kindBy_61 rfl ?_
              refine ⟨?_, rfl⟩
              unfold pKind; repeat' split
              all_goals omega
          · refine aw_iconst dX8_kindBy_46 ?_
            refine aw_goto (tgt := 61) dX8_kindBy_47 rfl ?_
            refine aw_iretF dX8_kindBy_61 rfl ?_
            refine ⟨?_, rfl⟩
            unfold pKind; repeat' split
            all_goals omega
        · refine aw_iconst dX8_kindBy_36 ?_
          refine aw_goto (tgt := 61) dX8_kindBy_37 rfl ?_
          refine aw_iretF dX8_kindBy_61 rfl ?_
          refine ⟨?_, rfl⟩
          unfold pKind; repeat' split
          all_goals omega
      · refine aw_iconst dX8_kindBy_26 ?_
        refine aw_goto (tgt := 61) dX8_kindBy_27 rfl ?_
        refine aw_iretF dX8_kindBy_61 rfl ?_
        refine ⟨?_, rfl⟩
        unfold pKind; repeat' split
        all_goals omega
    · refine aw_iconst dX8_kindBy_16 ?_
      refine aw_goto (tgt := 61) dX8_kindBy_17 rfl ?_
      refine aw_iretF dX8_kindBy_61 rfl ?_
      refine ⟨?_, rfl⟩
      unfold pKind; repeat' split
      all_goals omega
  · refine aw_iconst dX8_kindBy_6 ?_
    refine aw_goto (tgt := 61) dX8_kindBy_7 rfl ?_
    refine aw_iretF dX8_kindBy_61 rfl ?_
    refine ⟨?_, rfl⟩
    unfold pKind; repeat' split
    all_goals omega
theorem c_X8_isFinal {k : Int} {g : am_H} (hk : -2147483648 ≤ k ∧ k < 2147483648) : AMet GM mX8_isFinal 1 [am_I k] g (am_FI (if fin k then 1 else 0) g) := by
  refine am_start [some (am_I k)] rfl rfl (by decide) (Nat.le_of_ble_eq_true rfl) ?_
  refine aw_iload_n dX8_isFinal_0 rfl ?_
  refine aw_iconst dX8_isFinal_1 ?_
  refine aw_icmp_eq (tgt := 10) dX8_isFinal_2 rfl (by omega) (by omega) (fun hc2 => ?_) (fun hc2 => ?_)
  · refine aw_iconst dX8_isFinal_10 ?_
    refine aw_goto (tgt := 15) dX8_isFinal_11 rfl ?_
    refine aw_zretF dX8_isFinal_15 rfl (by omega) ?_
    exact ⟨by split <;> omega, rfl⟩
  · refine aw_iload_n dX8_isFinal_5 rfl ?_
    refine aw_iconst dX8_isFinal_6 ?_
    refine aw_icmp_ne (tgt := 14) dX8_isFinal_7 rfl (by omega) (by omega) (fun hc7 => ?_) (fun hc7 => ?_)
    · refine aw_iconst dX8_isFinal_14 ?_
      refine aw_zretF dX8_isFinal_15 rfl (by omega) ?_
      exact ⟨by split <;> omega, rfl⟩
    · refine aw_iconst dX8_isFinal_10 ?_
      refine aw_goto (tgt := 15) dX8_isFinal_11 rfl ?_
      refine aw_zretF dX8_isFinal_15 rfl (by omega) ?_
      exact ⟨by split <;> omega, rfl⟩
theorem c_X8_figure {g0 g : am_H} {t sz lo hi : Int} {f : Int → Int} {q : am_H} (hR : RM g0 g t f sz q) (hV : PV sz q) (hl : -2147483648 ≤ lo ∧ lo < 2147483648) (hh : -2147483648 ≤ hi ∧ hi < 2147483648) : AMet GM mX8_figure 3 [am_R 0, am_I t, am_I lo, am_I hi] g (am_QI (fun v g' => v = (pFig f sz lo hi q).1 ∧ RM g0 g' t f sz (pFig f sz lo hi q).2 ∧ ∀ c : Int, ¬ c = 0 → g' c = g c)) := by
  have v0 := hV.1
  have hb := pB_rng (f := f) (sz := sz) (q := q) hR.2.2.2.2.1
  refine am_start [some (am_R 0), some (am_I t), some (am_I lo), some (am_I hi), none] rfl rfl (by decide) (Nat.le_of_ble_eq_true rfl) ?_
  refine aw_aload_n dX8_figure_0 rfl ?_
  refine aw_iload_n dX8_figure_1 rfl ?_
  refine aw_cV1IF (c_X8_byteAt hR hV) lk_X8_163 dX8_figure_2 (by decide) rfl rfl (fun _ => Nat.le_of_ble_eq_true rfl) ?_
  refine aw_bipush (by decide) dX8_figure_5 ?_
  refine aw_isub dX8_figure_7 ?_
  refine aw_istore4 dX8_figure_8 (by decide) rfl ?_
  refine aw_aload_n dX8_figure_10 rfl ?_
  refine aw_iload_n dX8_figure_11 rfl ?_
  refine aw_cV1IF (c_X8_isEnd hR hV) lk_X8_160 dX8_figure_12 (by decide) rfl rfl (fun _ => Nat.le_of_ble_eq_true rfl) ?_
  refine aw_ifb_ne (tgt := 31) dX8_figure_15 rfl (fun hc15 => ?_) (fun hc15 => ?_)
  · refine aw_iconst dX8_figure_31 ?_
    refine aw_iretQ dX8_figure_32 rfl ?_
    rw [pFig, if_pos (by omega)]; exact ⟨rfl, hR, fun _ _ => rfl⟩
  · refine aw_iload dX8_figure_18 rfl ?_
    refine aw_i2l (by omega) dX8_figure_20 ?_
    refine aw_iload_n dX8_figure_21 rfl ?_
    refine aw_i2l (by omega) dX8_figure_22 ?_
    refine aw_iload_n dX8_figure_23 rfl ?_
    refine aw_i2l (by omega) dX8_figure_24 ?_
    refine aw_cS3IF (c_X8_in (by omega) (by omega) (by omega)) lk_X8_133 dX8_figure_25 (by decide) (fun _ => Nat.le_of_ble_eq_true rfl) ?_
    refine aw_ifb_ne (tgt := 33) dX8_figure_28 rfl (fun hc28 => ?_) (fun hc28 => ?_)
    · refine aw_aload_n dX8_figure_33 rfl ?_
      first | refine aw_dupR dX8_figure_34 ?_ | refine aw_dupI dX8_figure_34 ?_
      refine aw_getI (kx := 26) fl_X8_157 dX8_figure_35 rfl rfl rfl ?_
      refine aw_iconst dX8_figure_38 ?_
      refine aw_iadd dX8_figure_39 ?_
      refine aw_putI (kx := 26) fp_X8_157 dX8_figure_40 rfl rfl rfl ?_
      refine aw_iload dX8_figure_43 rfl ?_
      refine aw_iretQ dX8_figure_45 rfl ?_
      have hp : pB f sz q = f (q 0 0) := by rw [pB, if_neg (by omega)]
      rw [pFig, if_neg (by omega), hp]; exact ⟨rfl, hR.up, fun _ hc => am_set_c hc⟩
    · refine aw_iconst dX8_figure_31 ?_
      refine aw_iretQ dX8_figure_32 rfl ?_
      have hp : pB f sz q = f (q 0 0) := by rw [pB, if_neg (by omega)]
      rw [pFig, if_pos (by omega)]; exact ⟨rfl, hR, fun _ _ => rfl⟩
