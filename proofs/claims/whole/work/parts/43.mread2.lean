theorem RM.nodeA {g0 g : am_H} {t sz kind m : Int} {f : Int → Int} {q : am_H} (h : RM g0 g t f sz q) (h1 : 0 ≤ q 0 1) : RM g0 (am_set (am_set (am_set g 18 (g 0 29) kind) 19 (g 0 29) m) 0 29 (g 0 29 + 1)) t f sz (pNodeA kind m q) := by
  obtain ⟨h0, ht, hsz, hf, hfr, e0, e1, e2, e3, hK, hW, hD⟩ := h
  have q0 : pNodeA kind m q 0 0 = q 0 0 := by simp [pNodeA, am_set_if]
  have q1 : pNodeA kind m q 0 1 = q 0 1 + 1 := by simp [pNodeA, am_set_if]
  have q2 : pNodeA kind m q 0 2 = q 0 2 := by simp [pNodeA, am_set_if]
  have q3 : pNodeA kind m q 0 3 = q 0 3 := by simp [pNodeA, am_set_if]
  have k1 : ∀ x, pNodeA kind m q 1 x = if x = q 0 1 then kind else q 1 x := by intro x; simp [pNodeA, am_set_if]
  have k2 : ∀ x, pNodeA kind m q 2 x = if x = q 0 1 then m else q 2 x := by intro x; simp [pNodeA, am_set_if]
  have kc : ∀ c, 3 ≤ c → pNodeA kind m q c = q c := by
    intro c hc; unfold pNodeA; rw [am_set_c (by omega), am_set_c (by omega), am_set_c (by omega)]
  refine ⟨((MEq.sc0 (by decide)).tr ((MEq.scs (by decide)).tr (MEq.scs (by decide)))).tr h0, ht, ?_, fun j => ?_, hfr, ?_, ?_, ?_, ?_, ?_, ?_, ?_⟩
  · rw [am_set_c (by decide), am_set_c (by decide), am_set_c (by decide)]; exact hsz
  · rw [am_set_c (by decide), am_set_c (by decide), am_set_c (by decide)]; exact hf j
  · rw [am_set_i (by decide), am_set_c (by decide), am_set_c (by decide), q0]; exact e0
  · rw [am_set_s, q1, e1]
  · rw [am_set_i (by decide), am_set_c (by decide), am_set_c (by decide), q2]; exact e2
  · rw [am_set_i (by decide), am_set_c (by decide), am_set_c (by decide), q3]; exact e3
  · intro x hx1 hx2
    rw [q1] at hx2
    have a1 : am_set (am_set (am_set g 18 (g 0 29) kind) 19 (g 0 29) m) 0 29 (g 0 29 + 1) 18 x = if x = q 0 1 then kind else g 18 x := by simp [am_set_if, e1]
    have a2 : am_set (am_set (am_set g 18 (g 0 29) kind) 19 (g 0 29) m) 0 29 (g 0 29 + 1) 19 x = if x = q 0 1 then m else g 19 x := by simp [am_set_if, e1]
    rw [a1, a2, k1, k2]
    split
    · exact ⟨rfl, rfl⟩
    · exact hK x hx1 (by omega)
  · rw [q2, kc 3 (by decide), kc 4 (by decide), kc 5 (by decide), am_set_c (by decide), am_set_c (by decide), am_set_c (by decide)]; exact hW
  · rw [q3, kc 6 (by decide), kc 7 (by decide), kc 8 (by decide), kc 9 (by decide), am_set_c (by decide), am_set_c (by decide), am_set_c (by decide)]; exact hD
theorem RM.wordA {g0 g : am_H} {t sz fr to so : Int} {f : Int → Int} {q : am_H} (h : RM g0 g t f sz q) (h1 : 0 ≤ q 0 2) : RM g0 (am_set (am_set (am_set (am_set (am_set g 0 26 (g 0 26 + 1)) 20 (3 * g 0 31) fr) 20 (3 * g 0 31 + 1) to) 20 (3 * g 0 31 + 2) so) 0 31 (g 0 31 + 1)) t f sz (pWordA fr to so q) := by
  obtain ⟨h0, ht, hsz, hf, hfr, e0, e1, e2, e3, hK, hW, hD⟩ := h
  have q0 : pWordA fr to so q 0 0 = q 0 0 + 1 := by simp [pWordA, pUp, am_set_if]
  have q1 : pWordA fr to so q 0 1 = q 0 1 := by simp [pWordA, pUp, am_set_if]
  have q2 : pWordA fr to so q 0 2 = q 0 2 + 1 := by simp [pWordA, pUp, am_set_if]
  have q3 : pWordA fr to so q 0 3 = q 0 3 := by simp [pWordA, pUp, am_set_if]
  have k3 : ∀ x, pWordA fr to so q 3 x = if x = q 0 2 then fr else q 3 x := by intro x; simp [pWordA, pUp, am_set_if]
  have k4 : ∀ x, pWordA fr to so q 4 x = if x = q 0 2 then to else q 4 x := by intro x; simp [pWordA, pUp, am_set_if]
  have k5 : ∀ x, pWordA fr to so q 5 x = if x = q 0 2 then so else q 5 x := by intro x; simp [pWordA, pUp, am_set_if]
  have kc : ∀ c, ¬ c = 0 → ¬ c = 3 → ¬ c = 4 → ¬ c = 5 → pWordA fr to so q c = q c := by
    intro c a1 a2 a3 a4; unfold pWordA; rw [am_set_c a1, am_set_c a4, am_set_c a3, am_set_c a2, pUp_c _ a1]
  refine ⟨((MEq.sc0 (by decide)).tr ((MEq.scs (by decide)).tr ((MEq.scs (by decide)).tr ((MEq.scs (by decide)).tr (MEq.sc0 (by decide)))))).tr h0, ht, ?_, fun j => ?_, hfr, ?_, ?_, ?_, ?_, ?_, ?_, ?_⟩
  · rw [am_set_c (by decide), am_set_c (by decide), am_set_c (by decide), am_set_c (by decide), am_set_c (by decide)]; exact hsz
  · rw [am_set_c (by decide), am_set_c (by decide), am_set_c (by decide), am_set_c (by decide), am_set_c (by decide)]; exact hf j
  · rw [am_set_i (by decide), am_set_c (by decide), am_set_c (by decide), am_set_c (by decide), am_set_s, q0, e0]
  · rw [am_set_i (by decide), am_set_c (by decide), am_set_c (by decide), am_set_c (by decide), am_set_i (by decide), q1]; exact e1
  · rw [am_set_s, q2, e2]
  · rw [am_set_i (by decide), am_set_c (by decide), am_set_c (by decide), am_set_c (by decide), am_set_i (by decide), q3]; exact e3
  · rw [q1, kc 1 (by decide) (by decide) (by decide) (by decide), kc 2 (by decide) (by decide) (by decide) (by decide)]
    simp only [am_set_c (show ¬ (18 : Int) = 0 by decide), am_set_c (show ¬ (18 : Int) = 20 by decide), am_set_c (show ¬ (19 : Int) = 0 by decide), am_set_c (show ¬ (19 : Int) = 20 by decide)]
    exact hK
  · intro k hk1 hk2
    rw [q2] at hk2
    have aw : ∀ j, am_set (am_set (am_set (am_set (am_set g 0 26 (g 0 26 + 1)) 20 (3 * g 0 31) fr) 20 (3 * g 0 31 + 1) to) 20 (3 * g 0 31 + 2) so) 0 31 (g 0 31 + 1) 20 j = if j = 3 * q 0 2 + 2 then so else if j = 3 * q 0 2 + 1 then to else if j = 3 * q 0 2 then fr else g 20 j := by intro j; simp [am_set_if, e2]
    rw [aw, aw, aw, k3, k4, k5]
    by_cases e : k = q 0 2
    · subst e
      refine ⟨?_, ?_, ?_⟩
      · rw [if_neg (by omega), if_neg (by omega), if_pos rfl, if_pos rfl]
      · rw [if_neg (by omega), if_pos rfl, if_pos rfl]
      · rw [if_pos rfl, if_pos rfl]
    · have hw2 := hW k hk1 (by omega)
      simp only [if_neg e]
      refine ⟨?_, ?_, ?_⟩
      · rw [if_neg (by omega), if_neg (by omega), if_neg (by omega)]; exact hw2.1
      · rw [if_neg (by omega), if_neg (by omega), if_neg (by omega)]; exact hw2.2.1
      · rw [if_neg (by omega), if_neg (by omega), if_neg (by omega)]; exact hw2.2.2
  · rw [q3, kc 6 (by decide) (by decide) (by decide) (by decide), kc 7 (by decide) (by decide) (by decide) (by decide), kc 8 (by decide) (by decide) (by decide) (by decide), kc 9 (by decide) (by decide) (by decide) (by decide), am_set_c (by decide), am_set_c (by decide), am_set_c (by decide), am_set_c (by decide), am_set_c (by decide)]; exact hD
theorem c_X8_readNode {g0 g : am_H} {t sz kind : Int} {f : Int → Int} {q : am_H} (hR : RM g0 g t f sz q) (hV : PV sz q) (hp : q 0 0 < sz) (hk : 0 ≤ kind ∧ kind ≤ 5) : AMet GM mX8_readNode 4 [am_R 0, am_I t, am_I kind] g (am_QI (fun v g' => v = (if (pNode f sz kind q).1 = true then 1 else 0) ∧ RM g0 g' t f sz (pNode f sz kind q).2)) := by
  have v0 := hV.1
  have v1 := hV.2.1
  have e1 := hR.2.2.2.2.2.2.1
  have e0 := hR.2.2.2.2.2.1
  refine am_start [some (am_R 0), some (am_I t), some (am_I kind), none] rfl rfl (by decide) (Nat.le_of_ble_eq_true rfl) ?_
  have hR1 := hR.up
  have hV1 := hV.up hp
  have u1 := pUp_j q (j := 1) (by decide)
  refine aw_aload_n dX8_readNode_0 rfl ?_
  refine aw_getI (kx := 29) fl_X8_166 dX8_readNode_1 rfl rfl rfl ?_
  refine aw_bipush (by decide) dX8_readNode_4 ?_
  refine aw_icmp_ne (tgt := 11) dX8_readNode_6 rfl (by omega) (by omega) (fun hc6 => ?_) (fun hc6 => ?_)
  · refine aw_aload_n dX8_readNode_11 rfl ?_
    first | refine aw_dupR dX8_readNode_12 ?_ | refine aw_dupI dX8_readNode_12 ?_
    refine aw_getI (kx := 26) fl_X8_157 dX8_readNode_13 rfl rfl rfl ?_
    refine aw_iconst dX8_readNode_16 ?_
    refine aw_iadd dX8_readNode_17 ?_
    refine aw_putI (kx := 26) fp_X8_157 dX8_readNode_18 rfl rfl rfl ?_
    generalize am_set g 0 26 (g 0 26 + 1) = g1 at *
    refine aw_iload_n dX8_readNode_21 rfl ?_
    refine aw_cS1IF (c_X8_isFinal (by omega)) lk_X8_169 dX8_readNode_22 (by decide) (fun _ => Nat.le_of_ble_eq_true rfl) ?_
    refine aw_ifb_eq (tgt := 38) dX8_readNode_25 rfl (fun hc25 => ?_) (fun hc25 => ?_)
    · obtain ⟨hm, hMe⟩ : (pNodeM f sz kind q).1 = 0 ∧ (pNodeM f sz kind q).2 = pUp q := by rw [pNodeM, if_neg hc25]; exact ⟨rfl, rfl⟩
      refine aw_iconst dX8_readNode_38 ?_
      have e11 := hR1.2.2.2.2.2.2.1
      refine aw_istore_3 dX8_readNode_39 (by decide) rfl ?_
      refine aw_iload_n dX8_readNode_40 rfl ?_
      refine aw_if_ge (tgt := 46) dX8_readNode_41 rfl (by omega) (fun hc41 => ?_) (fun hc41 => ?_)
      · refine aw_aload_n dX8_readNode_46 rfl ?_
        refine aw_getR (kx := 27) fl_X8_65 dX8_readNode_47 rfl rfl rfl ?_
        refine aw_aload_n dX8_readNode_50 rfl ?_
        refine aw_getI (kx := 29) fl_X8_166 dX8_readNode_51 rfl rfl rfl ?_
        refine aw_iload_n dX8_readNode_54 rfl ?_
        refine aw_iastore dX8_readNode_55 rfl (by decide) (by rw [e11, u1]; omega) ?_
        refine aw_aload_n dX8_readNode_56 rfl ?_
        refine aw_getR (kx := 28) fl_X8_68 dX8_readNode_57 rfl rfl rfl ?_
        refine aw_aload_n dX8_readNode_60 rfl ?_
        refine aw_getI (kx := 29) fl_X8_166 dX8_readNode_61 rfl rfl rfl ?_
        refine aw_iload_n dX8_readNode_64 rfl ?_
        refine aw_iastore dX8_readNode_65 rfl (by decide) (by rw [am_set_c (by decide), e11, u1]; omega) ?_
        refine aw_aload_n dX8_readNode_66 rfl ?_
        first | refine aw_dupR dX8_readNode_67 ?_ | refine aw_dupI dX8_readNode_67 ?_
        refine aw_getI (kx := 29) fl_X8_166 dX8_readNode_68 rfl rfl rfl ?_
        refine aw_iconst dX8_readNode_71 ?_
        refine aw_iadd dX8_readNode_72 ?_
        refine aw_putI (kx := 29) fp_X8_166 dX8_readNode_73 rfl rfl rfl ?_
        refine aw_iconst dX8_readNode_76 ?_
        refine aw_zretQ dX8_readNode_77 rfl (by omega) ?_
        have hN : pNode f sz kind q = (true, pNodeA kind 0 (pUp q)) := by rw [pNode, if_neg (by omega), hm, hMe, if_neg (by omega)]
        rw [hN]
        refine ⟨rfl, ?_⟩
        have K := hR1.nodeA (kind := kind) (m := 0) (by omega)
        rw [am_set_c (h := g1) (x := 0) (by decide), am_set_c (x := 0) (by decide), am_set_c (h := g1) (x := 0) (by decide)]
        exact K
      · refine aw_iconst dX8_readNode_44 ?_
        refine aw_zretQ dX8_readNode_45 rfl (by omega) ?_
        omega
    · refine aw_aload_n dX8_readNode_28 rfl ?_
      refine aw_iload_n dX8_readNode_29 rfl ?_
      refine aw_iconst dX8_readNode_30 ?_
      refine aw_iconst dX8_readNode_31 ?_
      refine aw_cV3I (c_X8_figure hR1 hV1 (by omega) (by omega)) lk_X8_172 dX8_readNode_32 (by decide) rfl rfl (fun _ => Nat.le_of_ble_eq_true rfl) (fun v32 h32 q32 => ?_)
      obtain ⟨rfl, hR2, hk2⟩ := q32
      refine aw_goto (tgt := 39) dX8_readNode_35 rfl ?_
      have hmr := pFig_rng (f := f) (sz := sz) (lo := 0) (hi := 5) (q := pUp q) (by omega) (by omega)
      have hM : pNodeM f sz kind q = pFig f sz 0 5 (pUp q) := by rw [pNodeM, if_pos hc25]
      have hpl := (pFig_pl f sz 0 5 (pUp q)).1 1 (by decide)
      have e12 := hR2.2.2.2.2.2.2.1
      refine aw_istore_3 dX8_readNode_39 (by decide) rfl ?_
      refine aw_iload_n dX8_readNode_40 rfl ?_
      refine aw_if_ge (tgt := 46) dX8_readNode_41 rfl (by omega) (fun hc41 => ?_) (fun hc41 => ?_)
      · refine aw_aload_n dX8_readNode_46 rfl ?_
        refine aw_getR (kx := 27) fl_X8_65 dX8_readNode_47 rfl rfl rfl ?_
        refine aw_aload_n dX8_readNode_50 rfl ?_
        refine aw_getI (kx := 29) fl_X8_166 dX8_readNode_51 rfl rfl rfl ?_
        refine aw_iload_n dX8_readNode_54 rfl ?_
        refine aw_iastore dX8_readNode_55 rfl (by decide) (by rw [e12, hpl, u1]; omega) ?_
        refine aw_aload_n dX8_readNode_56 rfl ?_
        refine aw_getR (kx := 28) fl_X8_68 dX8_readNode_57 rfl rfl rfl ?_
        refine aw_aload_n dX8_readNode_60 rfl ?_
        refine aw_getI (kx := 29) fl_X8_166 dX8_readNode_61 rfl rfl rfl ?_
        refine aw_iload_n dX8_readNode_64 rfl ?_
        refine aw_iastore dX8_readNode_65 rfl (by decide) (by rw [am_set_c (by decide), e12, hpl, u1]; omega) ?_
        refine aw_aload_n dX8_readNode_66 rfl ?_
        first | refine aw_dupR dX8_readNode_67 ?_ | refine aw_dupI dX8_readNode_67 ?_
        refine aw_getI (kx := 29) fl_X8_166 dX8_readNode_68 rfl rfl rfl ?_
        refine aw_iconst dX8_readNode_71 ?_
        refine aw_iadd dX8_readNode_72 ?_
        refine aw_putI (kx := 29) fp_X8_166 dX8_readNode_73 rfl rfl rfl ?_
        refine aw_iconst dX8_readNode_76 ?_
        refine aw_zretQ dX8_readNode_77 rfl (by omega) ?_
        have hN : pNode f sz kind q = (true, pNodeA kind (pFig f sz 0 5 (pUp q)).1 (pFig f sz 0 5 (pUp q)).2) := by rw [pNode, if_neg (by omega), hM, if_neg (by omega)]
        rw [hN]
        refine ⟨rfl, ?_⟩
        have K := hR2.nodeA (kind := kind) (m := (pFig f sz 0 5 (pUp q)).1) (by omega)
        rw [am_set_c (h := h32) (x := 0) (by decide), am_set_c (x := 0) (by decide), am_set_c (h := h32) (x := 0) (by decide)]
        exact K
      · refine aw_iconst dX8_readNode_44 ?_
        refine aw_zretQ dX8_readNode_45 rfl (by omega) ?_
        have hN : pNode f sz kind q = (false, (pFig f sz 0 5 (pUp q)).2) := by rw [pNode, if_neg (by omega), hM, if_pos (by omega)]
        rw [hN]; exact ⟨rfl, hR2⟩
  · refine aw_iconst dX8_readNode_9 ?_
    refine aw_zretQ dX8_readNode_10 rfl (by omega) ?_
    have hN : pNode f sz kind q = (false, q) := by rw [pNode, if_pos (by omega)]
    rw [hN]; exact ⟨rfl, hR⟩
