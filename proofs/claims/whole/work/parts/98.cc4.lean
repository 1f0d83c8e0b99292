/-! the reader, into the speech at 27 -/
def SQ27 (h q : am_H) : Prop := (h 27 0 = q 0 1 ∧ h 27 1 = q 0 2 ∧ h 27 2 = q 0 3) ∧ (∀ x : Int, 0 ≤ x → x < q 0 1 → h 28 x = q 1 x ∧ h 29 x = (if fin (q 1 x) then q 2 x else -1) ∧ h 30 x = cntF (q 3) x (q 0 2).toNat) ∧ (∀ (x : Int) (j : Nat) (w : Int), 0 ≤ x → x < q 0 1 → (wl (q 3) x (q 0 2).toNat)[j]? = some w → h 31 (x * 4 + j) = w) ∧ (∀ k : Int, 0 ≤ k → k < q 0 2 → h 32 k = q 3 k ∧ h 33 k = q 4 k ∧ h 34 k = q 5 k) ∧ ∀ d : Int, 0 ≤ d → d < q 0 3 → h 35 d = q 6 d ∧ h 36 d = q 7 d ∧ h 37 d = q 8 d ∧ h 38 d = q 9 d
def RC27 (h0 h : am_H) (t : Int) (f : Int → Int) (sz : Int) (q : am_H) : Prop := (∀ c : Int, ¬ c = 39 → (c < 27 ∨ 38 < c) → h c = h0 c) ∧ (0 ≤ t ∧ t ≤ 3) ∧ (h 39 0 = 10 + t ∧ h 39 1 = sz ∧ h 39 2 = q 0 0 ∧ h 39 3 = 27) ∧ (∀ j : Int, 0 ≤ j → j < 80 → h (10 + t) j = f j ∧ -128 ≤ f j ∧ f j < 128) ∧ SQ27 h q
theorem SQ27.pl {h h' q q' : am_H} (hR : SQ27 h q) (hp : pPl q' q) (hh : ∀ c : Int, 27 ≤ c → c ≤ 38 → h' c = h c) : SQ27 h' q' := by
  unfold SQ27
  rw [hh 27 (by decide) (by decide), hh 28 (by decide) (by decide), hh 29 (by decide) (by decide), hh 30 (by decide) (by decide), hh 31 (by decide) (by decide), hh 32 (by decide) (by decide), hh 33 (by decide) (by decide), hh 34 (by decide) (by decide), hh 35 (by decide) (by decide), hh 36 (by decide) (by decide), hh 37 (by decide) (by decide), hh 38 (by decide) (by decide)]
  rw [hp.1 1 (by decide), hp.1 2 (by decide), hp.1 3 (by decide), hp.2 1 (by decide), hp.2 2 (by decide), hp.2 3 (by decide), hp.2 4 (by decide), hp.2 5 (by decide), hp.2 6 (by decide), hp.2 7 (by decide), hp.2 8 (by decide), hp.2 9 (by decide)]
  exact hR
theorem RC27.pl {h0 h : am_H} {t : Int} {f : Int → Int} {sz v : Int} {q q' : am_H} (hR : RC27 h0 h t f sz q) (hp : pPl q' q) (hv : v = q' 0 0) : RC27 h0 (am_set h 39 2 v) t f sz q' := by
  obtain ⟨a1, a2, a3, a4, a5⟩ := hR
  refine ⟨fun c b d => ?_, a2, ⟨?_, ?_, ?_, ?_⟩, fun j b d => ?_, a5.pl hp (fun c b d => am_set_c (by omega))⟩
  · rw [am_set_c b]; exact a1 c b d
  · rw [am_set_i (by decide)]; exact a3.1
  · rw [am_set_i (by decide)]; exact a3.2.1
  · rw [am_set_s]; exact hv
  · rw [am_set_i (by decide)]; exact a3.2.2.2
  · rw [am_set_c (by omega)]; exact a4 j b d
theorem c_X4_figure_27 {h0 h : am_H} {t sz lo hi : Int} {f : Int → Int} {q : am_H} (hR : RC27 h0 h t f sz q) (hV : PV sz q) (hl : -2147483648 ≤ lo ∧ lo < 2147483648) (hh : -2147483648 ≤ hi ∧ hi < 2147483648) : AMet GC mX4_figure 1 [am_R 39, am_I lo, am_I hi] h (am_QI (fun v h' => v = (pFig f sz lo hi q).1 ∧ RC27 h0 h' t f sz (pFig f sz lo hi q).2)) := by
  have hV0 := hV.1
  have e0 := hR.2.2.1.1
  have e1 := hR.2.2.1.2.1
  have e2 := hR.2.2.1.2.2.1
  have ht := hR.2.1
  have hf := hR.2.2.2.1 (h 39 2) (by omega)
  refine am_start [some (am_R 39), some (am_I lo), some (am_I hi), none] rfl rfl (by decide) (Nat.le_of_ble_eq_true rfl) ?_
  refine aw_aload_n dX4_figure_0 rfl ?_
  refine aw_getI (kx := 2) fl_X4_29 dX4_figure_1 rfl rfl rfl ?_
  refine aw_aload_n dX4_figure_4 rfl ?_
  refine aw_getI (kx := 1) fl_X4_25 dX4_figure_5 rfl rfl rfl ?_
  refine aw_icmp_lt (tgt := 13) dX4_figure_8 rfl (by omega) (by omega) (fun hc8 => ?_) (fun hc8 => ?_)
  · have hf2 := hf (by omega)
    refine aw_aload_n dX4_figure_13 rfl ?_
    refine aw_getD (kx := 0) fl_X4_9 dX4_figure_14 rfl rfl rfl ?_
    refine aw_topR e0 ?_
    refine aw_aload_n dX4_figure_17 rfl ?_
    refine aw_getI (kx := 2) fl_X4_29 dX4_figure_18 rfl rfl rfl ?_
    refine aw_baload dX4_figure_21 (by exact kdT ht.1 (by omega)) (by decide) (by omega) ?_
    refine aw_top hf2.1 ?_
    refine aw_bipush (by decide) dX4_figure_22 ?_
    refine aw_isub dX4_figure_24 ?_
    refine aw_istore_3 dX4_figure_25 (by decide) rfl ?_
    refine aw_iload_n dX4_figure_26 rfl ?_
    refine aw_iload_n dX4_figure_27 rfl ?_
    refine aw_icmp_lt (tgt := 36) dX4_figure_28 rfl (by omega) (by omega) (fun hc28 => ?_) (fun hc28 => ?_)
    · refine aw_iconst dX4_figure_36 ?_
      refine aw_iretQ dX4_figure_37 rfl ?_
      unfold pFig; rw [← e2, if_pos (Or.inr (by omega))]; exact ⟨rfl, hR⟩
    · refine aw_iload_n dX4_figure_31 rfl ?_
      refine aw_iload_n dX4_figure_32 rfl ?_
      refine aw_icmp_le (tgt := 38) dX4_figure_33 rfl (by omega) (by omega) (fun hc33 => ?_) (fun hc33 => ?_)
      · refine aw_aload_n dX4_figure_38 rfl ?_
        first | refine aw_dupR dX4_figure_39 ?_ | refine aw_dupI dX4_figure_39 ?_
        refine aw_getI (kx := 2) fl_X4_29 dX4_figure_40 rfl rfl rfl ?_
        refine aw_iconst dX4_figure_43 ?_
        refine aw_iadd dX4_figure_44 ?_
        refine aw_putI (kx := 2) fp_X4_29 dX4_figure_45 rfl rfl rfl ?_
        refine aw_iload_n dX4_figure_48 rfl ?_
        refine aw_iretQ dX4_figure_49 rfl ?_
        unfold pFig; rw [← e2, if_neg (by omega)]; exact ⟨rfl, hR.pl (pPl.up q) (by show _ = pUp q 0 0; rw [pUp_0, e2])⟩
      · refine aw_iconst dX4_figure_36 ?_
        refine aw_iretQ dX4_figure_37 rfl ?_
        unfold pFig; rw [← e2, if_pos (Or.inr (by omega))]; exact ⟨rfl, hR⟩
  · refine aw_iconst dX4_figure_11 ?_
    refine aw_iretQ dX4_figure_12 rfl ?_
    unfold pFig; rw [if_pos (Or.inl (by omega))]; exact ⟨rfl, hR⟩
theorem c_X4_stepBack_27 {h0 h : am_H} {t sz : Int} {f : Int → Int} {q q' : am_H} (hR : RC27 h0 h t f sz q) (hV : PV sz q) (hp : pPl q' q) (hq : q 0 0 = q' 0 0 + 1) : AMet GC mX4_stepBack 1 [am_R 39] h (am_QI (fun v h' => v = 0 ∧ RC27 h0 h' t f sz q')) := by
  have e2 := hR.2.2.1.2.2.1
  refine am_start [some (am_R 39)] rfl rfl (by decide) (Nat.le_of_ble_eq_true rfl) ?_
  refine aw_aload_n dX4_stepBack_0 rfl ?_
  first | refine aw_dupR dX4_stepBack_1 ?_ | refine aw_dupI dX4_stepBack_1 ?_
  refine aw_getI (kx := 2) fl_X4_29 dX4_stepBack_2 rfl rfl rfl ?_
  refine aw_iconst dX4_stepBack_5 ?_
  refine aw_isub dX4_stepBack_6 ?_
  refine aw_putI (kx := 2) fp_X4_29 dX4_stepBack_7 rfl rfl rfl ?_
  refine aw_iconst dX4_stepBack_10 ?_
  refine aw_zretQ dX4_stepBack_11 rfl (by omega) ?_
  exact ⟨rfl, hR.pl hp (by omega)⟩
theorem lp_X4_skipBlanks_27 {h0 : am_H} {t sz : Int} {f : Int → Int} {q0 : am_H} : ∀ (n : Nat) (h q : am_H), RC27 h0 h t f sz q → PV sz q → sz - q 0 0 ≤ n → pSkip f sz q0 = am_set q 0 0 (skp f sz n (q 0 0)) → AW GC mX4_skipBlanks 1 (am_QV (fun h' => RC27 h0 h' t f sz (pSkip f sz q0))) 0 [some (am_R 39)] [] h := by
  intro n
  induction n with
  | zero =>
    intro h q hR hV hn he
    have hV0 := hV.1
    have e1 := hR.2.2.1.2.1
    have e2 := hR.2.2.1.2.2.1
    have ex : am_set q 0 0 (skp f sz 0 (q 0 0)) = q := by
      show am_set q 0 0 (q 0 0) = q
      rw [am_set_up]
      have : (fun j => if j = (0 : Int) then q 0 0 else q 0 j) = q 0 := by funext j; split <;> simp_all
      rw [this, am_up_self]
    refine aw_aload_n dX4_skipBlanks_0 rfl ?_
    refine aw_getI (kx := 2) fl_X4_29 dX4_skipBlanks_1 rfl rfl rfl ?_
    refine aw_aload_n dX4_skipBlanks_4 rfl ?_
    refine aw_getI (kx := 1) fl_X4_25 dX4_skipBlanks_5 rfl rfl rfl ?_
    refine aw_icmp_ge (tgt := 38) dX4_skipBlanks_8 rfl (by omega) (by omega) (fun hc8 => ?_) (fun hc8 => ?_)
    · refine aw_vretQ dX4_skipBlanks_38 rfl ?_
      rw [he, ex]; exact hR
    · omega
  | succ n ih =>
    intro h q hR hV hn he
    have hV0 := hV.1
    have e0 := hR.2.2.1.1
    have e1 := hR.2.2.1.2.1
    have e2 := hR.2.2.1.2.2.1
    have ht := hR.2.1
    have hf := hR.2.2.2.1 (h 39 2) (by omega)
    have es : skp f sz (n + 1) (q 0 0) = if q 0 0 < sz ∧ f (q 0 0) = 32 then skp f sz n (q 0 0 + 1) else q 0 0 := rfl
    have ex : am_set q 0 0 (q 0 0) = q := by
      rw [am_set_up]
      have : (fun j => if j = (0 : Int) then q 0 0 else q 0 j) = q 0 := by funext j; split <;> simp_all
      rw [this, am_up_self]
    refine aw_aload_n dX4_skipBlanks_0 rfl ?_
    refine aw_getI (kx := 2) fl_X4_29 dX4_skipBlanks_1 rfl rfl rfl ?_
    refine aw_aload_n dX4_skipBlanks_4 rfl ?_
    refine aw_getI (kx := 1) fl_X4_25 dX4_skipBlanks_5 rfl rfl rfl ?_
    refine aw_icmp_ge (tgt := 38) dX4_skipBlanks_8 rfl (by omega) (by omega) (fun hc8 => ?_) (fun hc8 => ?_)
    · refine aw_vretQ dX4_skipBlanks_38 rfl ?_
      rw [he, es, if_neg (by omega), ex]; exact hR
    · have hf2 := hf (by omega)
      refine aw_aload_n dX4_skipBlanks_11 rfl ?_
      refine aw_getD (kx := 0) fl_X4_9 dX4_skipBlanks_12 rfl rfl rfl ?_
      refine aw_topR e0 ?_
      refine aw_aload_n dX4_skipBlanks_15 rfl ?_
      refine aw_getI (kx := 2) fl_X4_29 dX4_skipBlanks_16 rfl rfl rfl ?_
      refine aw_baload dX4_skipBlanks_19 (by exact kdT ht.1 (by omega)) (by decide) (by omega) ?_
      refine aw_top hf2.1 ?_
      refine aw_bipush (by decide) dX4_skipBlanks_20 ?_
      refine aw_icmp_ne (tgt := 38) dX4_skipBlanks_22 rfl (by omega) (by omega) (fun hc22 => ?_) (fun hc22 => ?_)
      · refine aw_vretQ dX4_skipBlanks_38 rfl ?_
        rw [he, es, if_neg (by rw [← e2]; exact fun z => hc22 z.2), ex]; exact hR
      · refine aw_aload_n dX4_skipBlanks_25 rfl ?_
        first | refine aw_dupR dX4_skipBlanks_26 ?_ | refine aw_dupI dX4_skipBlanks_26 ?_
        refine aw_getI (kx := 2) fl_X4_29 dX4_skipBlanks_27 rfl rfl rfl ?_
        refine aw_iconst dX4_skipBlanks_30 ?_
        refine aw_iadd dX4_skipBlanks_31 ?_
        refine aw_putI (kx := 2) fp_X4_29 dX4_skipBlanks_32 rfl rfl rfl ?_
        refine aw_goto (tgt := 0) dX4_skipBlanks_35 rfl ?_
        refine ih _ (pUp q) (hR.pl (pPl.up q) (by rw [pUp_0, e2])) (hV.pl (pPl.up q) (by rw [pUp_0]; omega)) (by rw [pUp_0]; omega) ?_
        rw [he, es, if_pos (by rw [← e2]; exact ⟨by omega, hc22⟩), pUp_0]
        unfold pUp
        rw [am_set_set]
theorem c_X4_skipBlanks_27 {h0 h : am_H} {t sz : Int} {f : Int → Int} {q : am_H} (hR : RC27 h0 h t f sz q) (hV : PV sz q) : AMet GC mX4_skipBlanks 1 [am_R 39] h (am_QV (fun h' => RC27 h0 h' t f sz (pSkip f sz q))) := by
  have hV0 := hV.1
  refine am_start [some (am_R 39)] rfl rfl (by decide) (Nat.le_of_ble_eq_true rfl) ?_
  exact lp_X4_skipBlanks_27 80 h q hR hV (by omega) rfl
theorem c_X5_addNode_27 {h0 h : am_H} {t sz k m : Int} {f : Int → Int} {q : am_H} (hR : RC27 h0 h t f sz q) (hV : PV sz q) (h9 : q 0 1 < 9) (hw : q 0 2 = 0) (hd : q 0 3 = 0) (hk : 0 ≤ k ∧ k ≤ 5) (hm : 0 ≤ m ∧ m ≤ 5) : AMet GC mX5_addNode 1 [am_R 27, am_I k, am_I (if fin k then m else -1)] h (am_QV (fun h' => RC27 h0 h' t f sz (pNodeA k m q))) := by
  have hV1 := hV.2.1
  obtain ⟨a1, a2, a3, a4, ⟨b0, b1, b2⟩, bn, bl, bw, bd⟩ := hR
  refine am_start [some (am_R 27), some (am_I k), some (am_I (if fin k then m else -1))] rfl rfl (by decide) (Nat.le_of_ble_eq_true rfl) ?_
  refine aw_aload_n dX5_addNode_0 rfl ?_
  refine aw_getI (kx := 0) fl_X5_45 dX5_addNode_1 rfl rfl rfl ?_
  refine aw_bipush (by decide) dX5_addNode_4 ?_
  refine aw_icmp_ge (tgt := 49) dX5_addNode_6 rfl (by omega) (by omega) (fun hc6 => ?_) (fun hc6 => ?_)
  · omega
  · refine aw_aload_n dX5_addNode_9 rfl ?_
    refine aw_getR (kx := 3) fl_X5_9 dX5_addNode_10 rfl rfl rfl ?_
    refine aw_aload_n dX5_addNode_13 rfl ?_
    refine aw_getI (kx := 0) fl_X5_45 dX5_addNode_14 rfl rfl rfl ?_
    refine aw_iload_n dX5_addNode_17 rfl ?_
    refine aw_iastore dX5_addNode_18 rfl (by decide) (by omega) ?_
    refine aw_aload_n dX5_addNode_19 rfl ?_
    refine aw_getR (kx := 4) fl_X5_15 dX5_addNode_20 rfl rfl rfl ?_
    refine aw_aload_n dX5_addNode_23 rfl ?_
    refine aw_getI (kx := 0) fl_X5_45 dX5_addNode_24 rfl rfl rfl ?_
    rw [am_set_c (c := 28) (x := 27) (by decide)]
    refine aw_iload_n dX5_addNode_27 rfl ?_
    refine aw_iastore dX5_addNode_28 rfl (by decide) (by omega) ?_
    refine aw_aload_n dX5_addNode_29 rfl ?_
    refine aw_getR (kx := 5) fl_X5_18 dX5_addNode_30 rfl rfl rfl ?_
    refine aw_aload_n dX5_addNode_33 rfl ?_
    refine aw_getI (kx := 0) fl_X5_45 dX5_addNode_34 rfl rfl rfl ?_
    rw [am_set_c (c := 29) (x := 27) (by decide), am_set_c (c := 28) (x := 27) (by decide)]
    refine aw_iconst dX5_addNode_37 ?_
    refine aw_iastore dX5_addNode_38 rfl (by decide) (by omega) ?_
    refine aw_aload_n dX5_addNode_39 rfl ?_
    first | refine aw_dupR dX5_addNode_40 ?_ | refine aw_dupI dX5_addNode_40 ?_
    refine aw_getI (kx := 0) fl_X5_45 dX5_addNode_41 rfl rfl rfl ?_
    rw [am_set_c (c := 30) (x := 27) (by decide), am_set_c (c := 29) (x := 27) (by decide), am_set_c (c := 28) (x := 27) (by decide)]
    refine aw_iconst dX5_addNode_44 ?_
    refine aw_iadd dX5_addNode_45 ?_
    refine aw_putI (kx := 0) fp_X5_45 dX5_addNode_46 rfl rfl rfl ?_
    refine aw_vretQ dX5_addNode_49 rfl ?_
    have e0 : pNodeA k m q 0 0 = q 0 0 := by simp [pNodeA, am_set_if]
    have e1 : pNodeA k m q 0 1 = q 0 1 + 1 := by simp [pNodeA, am_set_if]
    have e2 : pNodeA k m q 0 2 = q 0 2 := by simp [pNodeA, am_set_if]
    have e3 : pNodeA k m q 0 3 = q 0 3 := by simp [pNodeA, am_set_if]
    have k1 : ∀ x, pNodeA k m q 1 x = if x = q 0 1 then k else q 1 x := by intro x; simp [pNodeA, am_set_if]
    have k2 : ∀ x, pNodeA k m q 2 x = if x = q 0 1 then m else q 2 x := by intro x; simp [pNodeA, am_set_if]
    have k3 : pNodeA k m q 3 = q 3 := by funext x; simp [pNodeA, am_set_if]
    refine ⟨fun c x y => ?_, a2, ?_, fun j x y => ?_, ⟨?_, ?_, ?_⟩, fun x c1 c2 => ?_, fun x j w c1 c2 c3 => ?_, fun j c1 c2 => ?_, fun j c1 c2 => ?_⟩
    · rw [am_set_c (by omega), am_set_c (by omega), am_set_c (by omega), am_set_c (by omega)]; exact a1 c x y
    · rw [am_set_c (by decide), am_set_c (by decide), am_set_c (by decide), am_set_c (by decide), e0]; exact a3
    · rw [am_set_c (by omega), am_set_c (by omega), am_set_c (by omega), am_set_c (by omega)]; exact a4 j x y
    · rw [am_set_s, e1, b0]
    · rw [am_set_i (by decide), am_set_c (by decide), am_set_c (by decide), am_set_c (by decide), e2]; exact b1
    · rw [am_set_i (by decide), am_set_c (by decide), am_set_c (by decide), am_set_c (by decide), e3]; exact b2
    · rw [e1] at c2
      rw [k1, k2, k3, e2, hw, b0]
      by_cases e : x = q 0 1
      · rw [e, if_pos rfl, if_pos rfl]
        exact ⟨by rw [am_set_c (by decide), am_set_c (by decide), am_set_c (by decide), am_set_s], by rw [am_set_c (by decide), am_set_c (by decide), am_set_s], by rw [am_set_c (by decide), am_set_s]; rfl⟩
      · rw [if_neg e, if_neg e]
        have := bn x c1 (by omega)
        rw [hw] at this
        exact ⟨by rw [am_set_c (by decide), am_set_c (by decide), am_set_c (by decide), am_set_i e]; exact this.1, by rw [am_set_c (by decide), am_set_c (by decide), am_set_i e, am_set_c (by decide)]; exact this.2.1, by rw [am_set_c (by decide), am_set_i e, am_set_c (by decide), am_set_c (by decide)]; exact this.2.2⟩
    · rw [k3, e2, hw] at c3
      simp [wl] at c3
    · rw [e2, hw] at c2; omega
    · rw [e3, hd] at c2; omega
theorem wl_s27 (fr : Int → Int) (x : Int) (n : Nat) : wl fr x (n + 1) = wl fr x n ++ (if fr n = x then [(n : Int)] else []) := rfl
theorem c_X5_addWord_27 {h0 h : am_H} {t sz fr to so : Int} {f : Int → Int} {q : am_H} (hR : RC27 h0 h t f sz (pUp q)) (hV : PV sz q) (h14 : q 0 2 < 14) (hf : 0 ≤ fr ∧ fr < to ∧ to < q 0 1) (hc : ¬ cntF (q 3) fr (q 0 2).toNat = 4) : AMet GC mX5_addWord 1 [am_R 27, am_I fr, am_I to, am_I so] h (am_QV (fun h' => RC27 h0 h' t f sz (pWordA fr to so q))) := by
  have hV1 := hV.2.1
  have hV2 := hV.2.2.1
  have hc4 := hV.2.2.2.2.2.2.2.1 fr
  have hc0 := (cntF_rng (q 3) fr (q 0 2).toNat).1
  obtain ⟨a1, a2, a3, a4, a5⟩ := hR
  rw [pUp_0] at a3
  obtain ⟨⟨b0, b1, b2⟩, bn, bl, bw, bd⟩ := a5.pl (q' := q) ⟨fun j hj => (pUp_j q hj).symm, fun c hc => (pUp_c q hc).symm⟩ (fun _ _ _ => rfl)
  have hdg := (bn fr hf.1 (by omega)).2.2
  have en : (q 0 2 + 1).toNat = (q 0 2).toNat + 1 := by omega
  have en2 : ((q 0 2).toNat : Int) = q 0 2 := by omega
  refine am_start [some (am_R 27), some (am_I fr), some (am_I to), some (am_I so)] rfl rfl (by decide) (Nat.le_of_ble_eq_true rfl) ?_
  refine aw_aload_n dX5_addWord_0 rfl ?_
  refine aw_getI (kx := 1) fl_X5_49 dX5_addWord_1 rfl rfl rfl ?_
  refine aw_bipush (by decide) dX5_addWord_4 ?_
  refine aw_icmp_ge (tgt := 88) dX5_addWord_6 rfl (by omega) (by omega) (fun hc6 => ?_) (fun hc6 => ?_)
  · omega
  · refine aw_aload_n dX5_addWord_9 rfl ?_
    refine aw_getR (kx := 5) fl_X5_18 dX5_addWord_10 rfl rfl rfl ?_
    refine aw_iload_n dX5_addWord_13 rfl ?_
    refine aw_iaload dX5_addWord_14 rfl (by decide) (by omega) ?_
    refine aw_iconst dX5_addWord_15 ?_
    refine aw_icmp_ge (tgt := 88) dX5_addWord_16 rfl (by omega) (by omega) (fun hc16 => ?_) (fun hc16 => ?_)
    · omega
    · refine aw_aload_n dX5_addWord_19 rfl ?_
      refine aw_getR (kx := 7) fl_X5_24 dX5_addWord_20 rfl rfl rfl ?_
      refine aw_aload_n dX5_addWord_23 rfl ?_
      refine aw_getI (kx := 1) fl_X5_49 dX5_addWord_24 rfl rfl rfl ?_
      refine aw_iload_n dX5_addWord_27 rfl ?_
      refine aw_iastore dX5_addWord_28 rfl (by decide) (by omega) ?_
      refine aw_aload_n dX5_addWord_29 rfl ?_
      refine aw_getR (kx := 8) fl_X5_27 dX5_addWord_30 rfl rfl rfl ?_
      refine aw_aload_n dX5_addWord_33 rfl ?_
      refine aw_getI (kx := 1) fl_X5_49 dX5_addWord_34 rfl rfl rfl ?_
      rw [am_set_c (c := 32) (x := 27) (by decide)]
      refine aw_iload_n dX5_addWord_37 rfl ?_
      refine aw_iastore dX5_addWord_38 rfl (by decide) (by omega) ?_
      refine aw_aload_n dX5_addWord_39 rfl ?_
      refine aw_getR (kx := 9) fl_X5_30 dX5_addWord_40 rfl rfl rfl ?_
      refine aw_aload_n dX5_addWord_43 rfl ?_
      refine aw_getI (kx := 1) fl_X5_49 dX5_addWord_44 rfl rfl rfl ?_
      rw [am_set_c (c := 33) (x := 27) (by decide), am_set_c (c := 32) (x := 27) (by decide)]
      refine aw_iload_n dX5_addWord_47 rfl ?_
      refine aw_iastore dX5_addWord_48 rfl (by decide) (by omega) ?_
      refine aw_aload_n dX5_addWord_49 rfl ?_
      refine aw_getR (kx := 6) fl_X5_21 dX5_addWord_50 rfl rfl rfl ?_
      refine aw_iload_n dX5_addWord_53 rfl ?_
      refine aw_iconst dX5_addWord_54 ?_
      refine aw_imul dX5_addWord_55 ?_
      refine aw_aload_n dX5_addWord_56 rfl ?_
      refine aw_getR (kx := 5) fl_X5_18 dX5_addWord_57 rfl rfl rfl ?_
      refine aw_iload_n dX5_addWord_60 rfl ?_
      refine aw_iaload dX5_addWord_61 rfl (by decide) (by omega) ?_
      rw [am_set_c (c := 34) (x := 30) (by decide), am_set_c (c := 33) (x := 30) (by decide), am_set_c (c := 32) (x := 30) (by decide)]
      refine aw_iadd dX5_addWord_62 ?_
      refine aw_aload_n dX5_addWord_63 rfl ?_
      refine aw_getI (kx := 1) fl_X5_49 dX5_addWord_64 rfl rfl rfl ?_
      rw [am_set_c (c := 34) (x := 27) (by decide), am_set_c (c := 33) (x := 27) (by decide), am_set_c (c := 32) (x := 27) (by decide)]
      refine aw_iastore dX5_addWord_67 rfl (by decide) (by omega) ?_
      refine aw_aload_n dX5_addWord_68 rfl ?_
      refine aw_getR (kx := 5) fl_X5_18 dX5_addWord_69 rfl rfl rfl ?_
      refine aw_iload_n dX5_addWord_72 rfl ?_
      refine aw_dup2 dX5_addWord_73 ?_
      refine aw_iaload dX5_addWord_74 rfl (by decide) (by omega) ?_
      rw [am_set_c (c := 31) (x := 30) (by decide), am_set_c (c := 34) (x := 30) (by decide), am_set_c (c := 33) (x := 30) (by decide), am_set_c (c := 32) (x := 30) (by decide)]
      refine aw_iconst dX5_addWord_75 ?_
      refine aw_iadd dX5_addWord_76 ?_
      refine aw_iastore dX5_addWord_77 rfl (by decide) (by omega) ?_
      refine aw_aload_n dX5_addWord_78 rfl ?_
      first | refine aw_dupR dX5_addWord_79 ?_ | refine aw_dupI dX5_addWord_79 ?_
      refine aw_getI (kx := 1) fl_X5_49 dX5_addWord_80 rfl rfl rfl ?_
      rw [am_set_c (c := 30) (x := 27) (by decide), am_set_c (c := 31) (x := 27) (by decide), am_set_c (c := 34) (x := 27) (by decide), am_set_c (c := 33) (x := 27) (by decide), am_set_c (c := 32) (x := 27) (by decide)]
      refine aw_iconst dX5_addWord_83 ?_
      refine aw_iadd dX5_addWord_84 ?_
      refine aw_putI (kx := 1) fp_X5_49 dX5_addWord_85 rfl rfl rfl ?_
      refine aw_vretQ dX5_addWord_88 rfl ?_
      have e0 : pWordA fr to so q 0 0 = q 0 0 + 1 := by simp [pWordA, pUp, am_set_if]
      have e1 : pWordA fr to so q 0 1 = q 0 1 := by simp [pWordA, pUp, am_set_if]
      have e2 : pWordA fr to so q 0 2 = q 0 2 + 1 := by simp [pWordA, pUp, am_set_if]
      have e3 : pWordA fr to so q 0 3 = q 0 3 := by simp [pWordA, pUp, am_set_if]
      have k1 : pWordA fr to so q 1 = q 1 := by funext x; simp [pWordA, pUp, am_set_if]
      have k2 : pWordA fr to so q 2 = q 2 := by funext x; simp [pWordA, pUp, am_set_if]
      have k3 : ∀ x, pWordA fr to so q 3 x = if x = q 0 2 then fr else q 3 x := by intro x; simp [pWordA, pUp, am_set_if]
      have k4 : ∀ x, pWordA fr to so q 4 x = if x = q 0 2 then to else q 4 x := by intro x; simp [pWordA, pUp, am_set_if]
      have k5 : ∀ x, pWordA fr to so q 5 x = if x = q 0 2 then so else q 5 x := by intro x; simp [pWordA, pUp, am_set_if]
      have k6 : pWordA fr to so q 6 = q 6 := by funext x; simp [pWordA, pUp, am_set_if]
      have k7 : pWordA fr to so q 7 = q 7 := by funext x; simp [pWordA, pUp, am_set_if]
      have k8 : pWordA fr to so q 8 = q 8 := by funext x; simp [pWordA, pUp, am_set_if]
      have k9 : pWordA fr to so q 9 = q 9 := by funext x; simp [pWordA, pUp, am_set_if]
      have ec : ∀ x : Int, cntF (pWordA fr to so q 3) x (q 0 2).toNat = cntF (q 3) x (q 0 2).toNat := fun x => cntF_congr (fun k a b => by rw [k3, if_neg (by omega)])
      have ew : ∀ x : Int, wl (pWordA fr to so q 3) x (q 0 2).toNat = wl (q 3) x (q 0 2).toNat := fun x => wl_congr (fun k a b => by rw [k3, if_neg (by omega)])
      refine ⟨fun c x y => ?_, a2, ⟨?_, ?_, ?_, ?_⟩, fun j x y => ?_, ⟨?_, ?_, ?_⟩, fun x c1 c2 => ?_, fun x j w c1 c2 c3 => ?_, fun j c1 c2 => ?_, fun j c1 c2 => ?_⟩
      · rw [am_set_c (by omega), am_set_c (by omega), am_set_c (by omega), am_set_c (by omega), am_set_c (by omega), am_set_c (by omega)]; exact a1 c x y
      · rw [am_set_c (by decide), am_set_c (by decide), am_set_c (by decide), am_set_c (by decide), am_set_c (by decide), am_set_c (by decide)]; exact a3.1
      · rw [am_set_c (by decide), am_set_c (by decide), am_set_c (by decide), am_set_c (by decide), am_set_c (by decide), am_set_c (by decide)]; exact a3.2.1
      · rw [am_set_c (by decide), am_set_c (by decide), am_set_c (by decide), am_set_c (by decide), am_set_c (by decide), am_set_c (by decide), e0]; exact a3.2.2.1
      · rw [am_set_c (by decide), am_set_c (by decide), am_set_c (by decide), am_set_c (by decide), am_set_c (by decide), am_set_c (by decide)]; exact a3.2.2.2
      · rw [am_set_c (by omega), am_set_c (by omega), am_set_c (by omega), am_set_c (by omega), am_set_c (by omega), am_set_c (by omega)]; exact a4 j x y
      · rw [am_set_i (by decide), am_set_c (by decide), am_set_c (by decide), am_set_c (by decide), am_set_c (by decide), am_set_c (by decide), e1]; exact b0
      · rw [am_set_s, e2, b1]
      · rw [am_set_i (by decide), am_set_c (by decide), am_set_c (by decide), am_set_c (by decide), am_set_c (by decide), am_set_c (by decide), e3]; exact b2
      · rw [e1] at c2
        have hb := bn x c1 c2
        refine ⟨by rw [am_set_c (by decide), am_set_c (by decide), am_set_c (by decide), am_set_c (by decide), am_set_c (by decide), am_set_c (by decide), k1]; exact hb.1, by rw [am_set_c (by decide), am_set_c (by decide), am_set_c (by decide), am_set_c (by decide), am_set_c (by decide), am_set_c (by decide), k1, k2]; exact hb.2.1, ?_⟩
        rw [am_set_c (by decide), e2, en]
        simp only [cntF]
        rw [ec, k3, en2, if_pos rfl]
        by_cases e : x = fr
        · rw [e, am_set_s, if_pos rfl, hdg]
        · rw [am_set_i e, am_set_c (by decide), am_set_c (by decide), am_set_c (by decide), am_set_c (by decide), if_neg (fun z => e z.symm), hb.2.2]; omega
      · rw [e1] at c2
        rw [e2, en, wl_s27, ew, k3, en2, if_pos rfl] at c3
        rw [am_set_c (by decide), am_set_c (by decide)]
        have hlen := wl_len (q 3) x (q 0 2).toNat
        have hx4 := hV.2.2.2.2.2.2.2.1 x
        by_cases hj : j < (wl (q 3) x (q 0 2).toNat).length
        · rw [List.getElem?_append_left hj] at c3
          have hb := bl x j w c1 c2 c3
          rw [am_set_i ?_, am_set_c (by decide), am_set_c (by decide), am_set_c (by decide)]
          · exact hb
          · intro z
            by_cases e : x = fr
            · rw [e] at z hj hlen; rw [hdg] at z; omega
            · rw [hdg] at z; omega
        · rw [List.getElem?_append_right (by omega)] at c3
          by_cases e : fr = x
          · rw [if_pos e] at c3
            obtain ⟨f1, f2⟩ := List.getElem?_eq_some_iff.mp c3
            have f3 : j - (wl (q 3) x (q 0 2).toNat).length < 1 := f1
            have f4 : j - (wl (q 3) x (q 0 2).toNat).length = 0 := by omega
            rw [f4] at c3
            have f5 : q 0 2 = w := Option.some.inj c3
            have f6 : x * 4 + (j : Int) = fr * 4 + h 30 fr := by rw [hdg, e]; omega
            rw [f6, am_set_s, b1, f5]
          · rw [if_neg e] at c3; simp at c3
      · rw [e2] at c2
        rw [k3, k4, k5, b1]
        by_cases e : j = q 0 2
        · rw [e, if_pos rfl, if_pos rfl, if_pos rfl]
          exact ⟨by rw [am_set_c (by decide), am_set_c (by decide), am_set_c (by decide), am_set_c (by decide), am_set_c (by decide), am_set_s], by rw [am_set_c (by decide), am_set_c (by decide), am_set_c (by decide), am_set_c (by decide), am_set_s], by rw [am_set_c (by decide), am_set_c (by decide), am_set_c (by decide), am_set_s]⟩
        · rw [if_neg e, if_neg e, if_neg e]
          have := bw j c1 (by omega)
          exact ⟨by rw [am_set_c (by decide), am_set_c (by decide), am_set_c (by decide), am_set_c (by decide), am_set_c (by decide), am_set_i e]; exact this.1, by rw [am_set_c (by decide), am_set_c (by decide), am_set_c (by decide), am_set_c (by decide), am_set_i e, am_set_c (by decide)]; exact this.2.1, by rw [am_set_c (by decide), am_set_c (by decide), am_set_c (by decide), am_set_i e, am_set_c (by decide), am_set_c (by decide)]; exact this.2.2⟩
      · rw [e3] at c2
        rw [k6, k7, k8, k9]
        have := bd j c1 c2
        exact ⟨by rw [am_set_c (by decide), am_set_c (by decide), am_set_c (by decide), am_set_c (by decide), am_set_c (by decide), am_set_c (by decide)]; exact this.1, by rw [am_set_c (by decide), am_set_c (by decide), am_set_c (by decide), am_set_c (by decide), am_set_c (by decide), am_set_c (by decide)]; exact this.2.1, by rw [am_set_c (by decide), am_set_c (by decide), am_set_c (by decide), am_set_c (by decide), am_set_c (by decide), am_set_c (by decide)]; exact this.2.2.1, by rw [am_set_c (by decide), am_set_c (by decide), am_set_c (by decide), am_set_c (by decide), am_set_c (by decide), am_set_c (by decide)]; exact this.2.2.2⟩
