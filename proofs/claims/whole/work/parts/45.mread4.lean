theorem RM.dset {g0 g : am_H} {t sz k v : Int} {f : Int → Int} {q : am_H} (h : RM g0 g t f sz q) (h1 : 0 ≤ k) : RM g0 (am_set g 21 (4 * g 0 33 + k) v) t f sz q := by
  obtain ⟨h0, ht, hsz, hf, hfr, e0, e1, e2, e3, hK, hW, hD⟩ := h
  refine ⟨(MEq.scs (by decide)).tr h0, ht, ?_, fun j => ?_, hfr, ?_, ?_, ?_, ?_, ?_, ?_, ?_⟩
  · rw [am_set_c (by decide)]; exact hsz
  · rw [am_set_c (by decide)]; exact hf j
  · rw [am_set_c (by decide)]; exact e0
  · rw [am_set_c (by decide)]; exact e1
  · rw [am_set_c (by decide)]; exact e2
  · rw [am_set_c (by decide)]; exact e3
  · rw [am_set_c (by decide), am_set_c (by decide)]; exact hK
  · rw [am_set_c (by decide)]; exact hW
  · intro d a b
    have := hD d a b
    rw [am_set_i (by omega), am_set_i (by omega), am_set_i (by omega), am_set_i (by omega)]
    exact this
theorem RM.deedA {g0 g : am_H} {t sz y c a w : Int} {f : Int → Int} {q : am_H} (h : RM g0 g t f sz q) (h1 : 0 ≤ q 0 3) (hy : g 21 (4 * g 0 33) = y) (hc : g 21 (4 * g 0 33 + 1) = c) (ha : g 21 (4 * g 0 33 + 2) = a) (hw : g 21 (4 * g 0 33 + 3) = w) : RM g0 (am_set g 0 33 (g 0 33 + 1)) t f sz (pDeedA y c a w q) := by
  obtain ⟨h0, ht, hsz, hf, hfr, e0, e1, e2, e3, hK, hW, hD⟩ := h
  have q0 : pDeedA y c a w q 0 0 = q 0 0 := by simp [pDeedA, am_set_if]
  have q1 : pDeedA y c a w q 0 1 = q 0 1 := by simp [pDeedA, am_set_if]
  have q2 : pDeedA y c a w q 0 2 = q 0 2 := by simp [pDeedA, am_set_if]
  have q3 : pDeedA y c a w q 0 3 = q 0 3 + 1 := by simp [pDeedA, am_set_if]
  have kc : ∀ x, ¬ x = 0 → x < 6 → pDeedA y c a w q x = q x := by
    intro x a1 a2; unfold pDeedA; rw [am_set_c a1, am_set_c (by omega), am_set_c (by omega), am_set_c (by omega), am_set_c (by omega)]
  have k6 : ∀ x, pDeedA y c a w q 6 x = if x = q 0 3 then y else q 6 x := by intro x; simp [pDeedA, am_set_if]
  have k7 : ∀ x, pDeedA y c a w q 7 x = if x = q 0 3 then c else q 7 x := by intro x; simp [pDeedA, am_set_if]
  have k8 : ∀ x, pDeedA y c a w q 8 x = if x = q 0 3 then a else q 8 x := by intro x; simp [pDeedA, am_set_if]
  have k9 : ∀ x, pDeedA y c a w q 9 x = if x = q 0 3 then w else q 9 x := by intro x; simp [pDeedA, am_set_if]
  refine ⟨(MEq.sc0 (by decide)).tr h0, ht, ?_, fun j => ?_, hfr, ?_, ?_, ?_, ?_, ?_, ?_, ?_⟩
  · rw [am_set_c (by decide)]; exact hsz
  · rw [am_set_c (by decide)]; exact hf j
  · rw [am_set_i (by decide), q0]; exact e0
  · rw [am_set_i (by decide), q1]; exact e1
  · rw [am_set_i (by decide), q2]; exact e2
  · rw [am_set_s, q3, e3]
  · rw [q1, kc 1 (by decide) (by decide), kc 2 (by decide) (by decide), am_set_c (by decide), am_set_c (by decide)]; exact hK
  · rw [q2, kc 3 (by decide) (by decide), kc 4 (by decide) (by decide), kc 5 (by decide) (by decide), am_set_c (by decide)]; exact hW
  · intro d b1 b2
    rw [q3] at b2
    rw [k6, k7, k8, k9, am_set_c (by decide)]
    by_cases e : d = q 0 3
    · subst e
      rw [e3] at hy hc ha hw
      simp only [if_true]
      exact ⟨hy, hc, ha, hw⟩
    · simp only [if_neg e]
      exact hD d b1 (by omega)
abbrev QB (g0 : am_H) (t : Int) (f : Int → Int) (sz : Int) (r : Bool × am_H) : Option am_V → am_H → Prop := am_QI (fun v g' => v = (if r.1 = true then 1 else 0) ∧ RM g0 g' t f sz r.2)
theorem lp_X8_rd4 {g0 g : am_H} {t sz y c a w : Int} {f : Int → Int} {q : am_H} {x3 : Option am_V} (hR : RM g0 g t f sz q) (hV : PV sz q) (hy : g 21 (4 * g 0 33) = y) (hc : g 21 (4 * g 0 33 + 1) = c) (ha : g 21 (4 * g 0 33 + 2) = a) (hw : g 21 (4 * g 0 33 + 3) = w) : AW GM mX8_readDeed 4 (QB g0 t f sz (true, pDeedA y c a w q)) 22 [some (am_R 0), some (am_I t), some (am_I 4), x3] [] g := by
  refine aw_iload_n dX8_readDeed_22 rfl ?_
  refine aw_iconst dX8_readDeed_23 ?_
  refine aw_icmp_ge (tgt := 83) dX8_readDeed_24 rfl (by omega) (by omega) (fun hc24 => ?_) (fun hc24 => ?_)
  · refine aw_aload_n dX8_readDeed_83 rfl ?_
    first | refine aw_dupR dX8_readDeed_84 ?_ | refine aw_dupI dX8_readDeed_84 ?_
    refine aw_getI (kx := 33) fl_X8_184 dX8_readDeed_85 rfl rfl rfl ?_
    refine aw_iconst dX8_readDeed_88 ?_
    refine aw_iadd dX8_readDeed_89 ?_
    refine aw_putI (kx := 33) fp_X8_184 dX8_readDeed_90 rfl rfl rfl ?_
    refine aw_iconst dX8_readDeed_93 ?_
    refine aw_zretQ dX8_readDeed_94 rfl (by omega) ?_
    exact ⟨rfl, hR.deedA (by have := hV.2.2.2.1; omega) hy hc ha hw⟩
  · exfalso; omega
theorem lp_X8_rd3 {g0 g : am_H} {t sz : Int} {f : Int → Int} {x3 : Option am_V} (y c : Int) (a : Int × am_H) (hR : RM g0 g t f sz a.2) (hV : PV sz a.2) (h4 : a.2 0 3 < 4) (h0 : g 21 (4 * g 0 33) = y) (h1 : g 21 (4 * g 0 33 + 1) = c) (h2 : g 21 (4 * g 0 33 + 2) = a.1) : AW GM mX8_readDeed 4 (QB g0 t f sz (pDeed4 f sz y c a (pFig f sz 0 9 a.2))) 22 [some (am_R 0), some (am_I t), some (am_I 3), x3] [] g := by
  have v3 := hV.2.2.2.1
  have e3 := hR.2.2.2.2.2.2.2.2.1
  have hvv := @pFig_v f sz 0 9 (a.2)
  have hrg := pFig_rng (f := f) (sz := sz) (lo := 0) (hi := 9) (q := a.2) (by omega) (by omega)
  have hV2 := hV.fig (f := f) (lo := 0) (hi := 9)
  have hpl := (pFig_pl f sz 0 9 (a.2)).1 3 (by decide)
  refine aw_iload_n dX8_readDeed_22 rfl ?_
  refine aw_iconst dX8_readDeed_23 ?_
  refine aw_icmp_ge (tgt := 83) dX8_readDeed_24 rfl (by omega) (by omega) (fun hc24 => ?_) (fun hc24 => ?_)
  · exfalso; omega
  · refine aw_aload_n dX8_readDeed_27 rfl ?_
    refine aw_iload_n dX8_readDeed_28 rfl ?_
    refine aw_iload_n dX8_readDeed_29 rfl ?_
    refine aw_if_ne (tgt := 37) dX8_readDeed_30 rfl (by omega) (fun hc30 => ?_) (fun hc30 => ?_)
    · refine aw_iconst dX8_readDeed_37 ?_
      refine aw_iload_n dX8_readDeed_38 rfl ?_
      refine aw_if_eq (tgt := 47) dX8_readDeed_39 rfl (by omega) (fun hc39 => ?_) (fun hc39 => ?_)
      · exfalso; omega
      · refine aw_iload_n dX8_readDeed_42 rfl ?_
        refine aw_iconst dX8_readDeed_43 ?_
        refine aw_icmp_ne (tgt := 51) dX8_readDeed_44 rfl (by omega) (by omega) (fun hc44 => ?_) (fun hc44 => ?_)
        · refine aw_bipush (by decide) dX8_readDeed_51 ?_
          refine aw_cV3I (c_X8_figure hR hV (by omega) (by omega)) lk_X8_172 dX8_readDeed_53 (by decide) rfl rfl (fun _ => Nat.le_of_ble_eq_true rfl) (fun v53 h53 q53 => ?_)
          obtain ⟨rfl, hR2, hk⟩ := q53
          have e32 := hR2.2.2.2.2.2.2.2.2.1
          refine aw_istore_3 dX8_readDeed_56 (by decide) rfl ?_
          refine aw_iload_n dX8_readDeed_57 rfl ?_
          refine aw_if_ge (tgt := 63) dX8_readDeed_58 rfl (by omega) (fun hc58 => ?_) (fun hc58 => ?_)
          · have hN : pDeed4 f sz y c a (pFig f sz 0 9 a.2) = (true, pDeedA y c a.1 (pFig f sz 0 9 a.2).1 (pFig f sz 0 9 a.2).2) := by rw [pDeed4, if_neg (by omega)]
            rw [hN]
            have hR3 := hR2.dset (k := 3) (v := (pFig f sz 0 9 a.2).1) (by omega)
            refine aw_aload_n dX8_readDeed_63 rfl ?_
            refine aw_getR (kx := 32) fl_X8_74 dX8_readDeed_64 rfl rfl rfl ?_
            refine aw_iconst dX8_readDeed_67 ?_
            refine aw_aload_n dX8_readDeed_68 rfl ?_
            refine aw_getI (kx := 33) fl_X8_184 dX8_readDeed_69 rfl rfl rfl ?_
            refine aw_imul dX8_readDeed_72 ?_
            refine aw_iload_n dX8_readDeed_73 rfl ?_
            refine aw_iadd dX8_readDeed_74 ?_
            refine aw_iload_n dX8_readDeed_75 rfl ?_
            refine aw_iastore dX8_readDeed_76 rfl (by decide) (by omega) ?_
            refine aw_iinc2 dX8_readDeed_77 (by decide) rfl ?_
            refine aw_goto (tgt := 22) dX8_readDeed_80 rfl ?_
            exact lp_X8_rd4 hR3 hV2 (by rw [am_set_c (x := 0) (by decide), am_set_i (by omega), hk 21 (by decide), e32, hpl, ← e3]; exact h0) (by rw [am_set_c (x := 0) (by decide), am_set_i (by omega), hk 21 (by decide), e32, hpl, ← e3]; exact h1) (by rw [am_set_c (x := 0) (by decide), am_set_i (by omega), hk 21 (by decide), e32, hpl, ← e3]; exact h2) (by rw [am_set_c (x := 0) (by decide)]; exact am_set_s _ _ _ _)
          · refine aw_iconst dX8_readDeed_61 ?_
            refine aw_zretQ dX8_readDeed_62 rfl (by omega) ?_
            have hN : pDeed4 f sz y c a (pFig f sz 0 9 a.2) = (false, (pFig f sz 0 9 a.2).2) := by rw [pDeed4, if_pos (by omega)]
            rw [hN]; exact ⟨rfl, hR2⟩
        · exfalso; omega
    · exfalso; omega
theorem lp_X8_rd2 {g0 g : am_H} {t sz : Int} {f : Int → Int} {x3 : Option am_V} (y : Int) (c : Int × am_H) (hR : RM g0 g t f sz c.2) (hV : PV sz c.2) (h4 : c.2 0 3 < 4) (h0 : g 21 (4 * g 0 33) = y) (h1 : g 21 (4 * g 0 33 + 1) = c.1) : AW GM mX8_readDeed 4 (QB g0 t f sz (pDeed3 f sz y c.1 (pFig f sz 0 5 c.2))) 22 [some (am_R 0), some (am_I t), some (am_I 2), x3] [] g := by
  have v3 := hV.2.2.2.1
  have e3 := hR.2.2.2.2.2.2.2.2.1
  have hvv := @pFig_v f sz 0 5 (c.2)
  have hrg := pFig_rng (f := f) (sz := sz) (lo := 0) (hi := 5) (q := c.2) (by omega) (by omega)
  have hV2 := hV.fig (f := f) (lo := 0) (hi := 5)
  have hpl := (pFig_pl f sz 0 5 (c.2)).1 3 (by decide)
  refine aw_iload_n dX8_readDeed_22 rfl ?_
  refine aw_iconst dX8_readDeed_23 ?_
  refine aw_icmp_ge (tgt := 83) dX8_readDeed_24 rfl (by omega) (by omega) (fun hc24 => ?_) (fun hc24 => ?_)
  · exfalso; omega
  · refine aw_aload_n dX8_readDeed_27 rfl ?_
    refine aw_iload_n dX8_readDeed_28 rfl ?_
    refine aw_iload_n dX8_readDeed_29 rfl ?_
    refine aw_if_ne (tgt := 37) dX8_readDeed_30 rfl (by omega) (fun hc30 => ?_) (fun hc30 => ?_)
    · refine aw_iconst dX8_readDeed_37 ?_
      refine aw_iload_n dX8_readDeed_38 rfl ?_
      refine aw_if_eq (tgt := 47) dX8_readDeed_39 rfl (by omega) (fun hc39 => ?_) (fun hc39 => ?_)
      · exfalso; omega
      · refine aw_iload_n dX8_readDeed_42 rfl ?_
        refine aw_iconst dX8_readDeed_43 ?_
        refine aw_icmp_ne (tgt := 51) dX8_readDeed_44 rfl (by omega) (by omega) (fun hc44 => ?_) (fun hc44 => ?_)
        · exfalso; omega
        · refine aw_iconst dX8_readDeed_47 ?_
          refine aw_goto (tgt := 53) dX8_readDeed_48 rfl ?_
          refine aw_cV3I (c_X8_figure hR hV (by omega) (by omega)) lk_X8_172 dX8_readDeed_53 (by decide) rfl rfl (fun _ => Nat.le_of_ble_eq_true rfl) (fun v53 h53 q53 => ?_)
          obtain ⟨rfl, hR2, hk⟩ := q53
          have e32 := hR2.2.2.2.2.2.2.2.2.1
          refine aw_istore_3 dX8_readDeed_56 (by decide) rfl ?_
          refine aw_iload_n dX8_readDeed_57 rfl ?_
          refine aw_if_ge (tgt := 63) dX8_readDeed_58 rfl (by omega) (fun hc58 => ?_) (fun hc58 => ?_)
          · have hN : pDeed3 f sz y c.1 (pFig f sz 0 5 c.2) = pDeed4 f sz y c.1 (pFig f sz 0 5 c.2) (pFig f sz 0 9 (pFig f sz 0 5 c.2).2) := by rw [pDeed3, if_neg (by omega)]
            rw [hN]
            have hR3 := hR2.dset (k := 2) (v := (pFig f sz 0 5 c.2).1) (by omega)
            refine aw_aload_n dX8_readDeed_63 rfl ?_
            refine aw_getR (kx := 32) fl_X8_74 dX8_readDeed_64 rfl rfl rfl ?_
            refine aw_iconst dX8_readDeed_67 ?_
            refine aw_aload_n dX8_readDeed_68 rfl ?_
            refine aw_getI (kx := 33) fl_X8_184 dX8_readDeed_69 rfl rfl rfl ?_
            refine aw_imul dX8_readDeed_72 ?_
            refine aw_iload_n dX8_readDeed_73 rfl ?_
            refine aw_iadd dX8_readDeed_74 ?_
            refine aw_iload_n dX8_readDeed_75 rfl ?_
            refine aw_iastore dX8_readDeed_76 rfl (by decide) (by omega) ?_
            refine aw_iinc2 dX8_readDeed_77 (by decide) rfl ?_
            refine aw_goto (tgt := 22) dX8_readDeed_80 rfl ?_
            exact lp_X8_rd3 y c.1 (pFig f sz 0 5 c.2) hR3 hV2 (by omega) (by rw [am_set_c (x := 0) (by decide), am_set_i (by omega), hk 21 (by decide), e32, hpl, ← e3]; exact h0) (by rw [am_set_c (x := 0) (by decide), am_set_i (by omega), hk 21 (by decide), e32, hpl, ← e3]; exact h1) (by rw [am_set_c (x := 0) (by decide)]; exact am_set_s _ _ _ _)
          · refine aw_iconst dX8_readDeed_61 ?_
            refine aw_zretQ dX8_readDeed_62 rfl (by omega) ?_
            have hN : pDeed3 f sz y c.1 (pFig f sz 0 5 c.2) = (false, (pFig f sz 0 5 c.2).2) := by rw [pDeed3, if_pos (by omega)]
            rw [hN]; exact ⟨rfl, hR2⟩
    · exfalso; omega
theorem lp_X8_rd1 {g0 g : am_H} {t sz : Int} {f : Int → Int} {x3 : Option am_V} (y : Int × am_H) (hR : RM g0 g t f sz y.2) (hV : PV sz y.2) (h4 : y.2 0 3 < 4) (h0 : g 21 (4 * g 0 33) = y.1) : AW GM mX8_readDeed 4 (QB g0 t f sz (pDeed2 f sz y.1 (pFig f sz 0 9 y.2))) 22 [some (am_R 0), some (am_I t), some (am_I 1), x3] [] g := by
  have v3 := hV.2.2.2.1
  have e3 := hR.2.2.2.2.2.2.2.2.1
  have hvv := @pFig_v f sz 0 9 (y.2)
  have hrg := pFig_rng (f := f) (sz := sz) (lo := 0) (hi := 9) (q := y.2) (by omega) (by omega)
  have hV2 := hV.fig (f := f) (lo := 0) (hi := 9)
  have hpl := (pFig_pl f sz 0 9 (y.2)).1 3 (by decide)
  refine aw_iload_n dX8_readDeed_22 rfl ?_
  refine aw_iconst dX8_readDeed_23 ?_
  refine aw_icmp_ge (tgt := 83) dX8_readDeed_24 rfl (by omega) (by omega) (fun hc24 => ?_) (fun hc24 => ?_)
  · exfalso; omega
  · refine aw_aload_n dX8_readDeed_27 rfl ?_
    refine aw_iload_n dX8_readDeed_28 rfl ?_
    refine aw_iload_n dX8_readDeed_29 rfl ?_
    refine aw_if_ne (tgt := 37) dX8_readDeed_30 rfl (by omega) (fun hc30 => ?_) (fun hc30 => ?_)
    · refine aw_iconst dX8_readDeed_37 ?_
      refine aw_iload_n dX8_readDeed_38 rfl ?_
      refine aw_if_eq (tgt := 47) dX8_readDeed_39 rfl (by omega) (fun hc39 => ?_) (fun hc39 => ?_)
      · exfalso; omega
      · refine aw_iload_n dX8_readDeed_42 rfl ?_
        refine aw_iconst dX8_readDeed_43 ?_
        refine aw_icmp_ne (tgt := 51) dX8_readDeed_44 rfl (by omega) (by omega) (fun hc44 => ?_) (fun hc44 => ?_)
        · refine aw_bipush (by decide) dX8_readDeed_51 ?_
          refine aw_cV3I (c_X8_figure hR hV (by omega) (by omega)) lk_X8_172 dX8_readDeed_53 (by decide) rfl rfl (fun _ => Nat.le_of_ble_eq_true rfl) (fun v53 h53 q53 => ?_)
          obtain ⟨rfl, hR2, hk⟩ := q53
          have e32 := hR2.2.2.2.2.2.2.2.2.1
          refine aw_istore_3 dX8_readDeed_56 (by decide) rfl ?_
          refine aw_iload_n dX8_readDeed_57 rfl ?_
          refine aw_if_ge (tgt := 63) dX8_readDeed_58 rfl (by omega) (fun hc58 => ?_) (fun hc58 => ?_)
          · have hN : pDeed2 f sz y.1 (pFig f sz 0 9 y.2) = pDeed3 f sz y.1 (pFig f sz 0 9 y.2).1 (pFig f sz 0 5 (pFig f sz 0 9 y.2).2) := by rw [pDeed2, if_neg (by omega)]
            rw [hN]
            have hR3 := hR2.dset (k := 1) (v := (pFig f sz 0 9 y.2).1) (by omega)
            refine aw_aload_n dX8_readDeed_63 rfl ?_
            refine aw_getR (kx := 32) fl_X8_74 dX8_readDeed_64 rfl rfl rfl ?_
            refine aw_iconst dX8_readDeed_67 ?_
            refine aw_aload_n dX8_readDeed_68 rfl ?_
            refine aw_getI (kx := 33) fl_X8_184 dX8_readDeed_69 rfl rfl rfl ?_
            refine aw_imul dX8_readDeed_72 ?_
            refine aw_iload_n dX8_readDeed_73 rfl ?_
            refine aw_iadd dX8_readDeed_74 ?_
            refine aw_iload_n dX8_readDeed_75 rfl ?_
            refine aw_iastore dX8_readDeed_76 rfl (by decide) (by omega) ?_
            refine aw_iinc2 dX8_readDeed_77 (by decide) rfl ?_
            refine aw_goto (tgt := 22) dX8_readDeed_80 rfl ?_
            exact lp_X8_rd2 y.1 (pFig f sz 0 9 y.2) hR3 hV2 (by omega) (by rw [am_set_c (x := 0) (by decide), am_set_i (by omega), hk 21 (by decide), e32, hpl, ← e3]; exact h0) (by rw [am_set_c (x := 0) (by decide)]; exact am_set_s _ _ _ _)
          · refine aw_iconst dX8_readDeed_61 ?_
            refine aw_zretQ dX8_readDeed_62 rfl (by omega) ?_
            have hN : pDeed2 f sz y.1 (pFig f sz 0 9 y.2) = (false, (pFig f sz 0 9 y.2).2) := by rw [pDeed2, if_pos (by omega)]
            rw [hN]; exact ⟨rfl, hR2⟩
        · exfalso; omega
    · exfalso; omega
theorem lp_X8_rd0 {g0 g : am_H} {t sz : Int} {f : Int → Int} {q : am_H} {x3 : Option am_V}  (hR : RM g0 g t f sz q) (hV : PV sz q) (h4 : q 0 3 < 4)  : AW GM mX8_readDeed 4 (QB g0 t f sz (pDeed1 f sz (pFig f sz 1 5 q))) 22 [some (am_R 0), some (am_I t), some (am_I 0), x3] [] g := by
  have v3 := hV.2.2.2.1
  have e3 := hR.2.2.2.2.2.2.2.2.1
  have hvv := @pFig_v f sz 1 5 (q)
  have hrg := pFig_rng (f := f) (sz := sz) (lo := 1) (hi := 5) (q := q) (by omega) (by omega)
  have hV2 := hV.fig (f := f) (lo := 1) (hi := 5)
  have hpl := (pFig_pl f sz 1 5 (q)).1 3 (by decide)
  refine aw_iload_n dX8_readDeed_22 rfl ?_
  refine aw_iconst dX8_readDeed_23 ?_
  refine aw_icmp_ge (tgt := 83) dX8_readDeed_24 rfl (by omega) (by omega) (fun hc24 => ?_) (fun hc24 => ?_)
  · exfalso; omega
  · refine aw_aload_n dX8_readDeed_27 rfl ?_
    refine aw_iload_n dX8_readDeed_28 rfl ?_
    refine aw_iload_n dX8_readDeed_29 rfl ?_
    refine aw_if_ne (tgt := 37) dX8_readDeed_30 rfl (by omega) (fun hc30 => ?_) (fun hc30 => ?_)
    · exfalso; omega
    · refine aw_iconst dX8_readDeed_33 ?_
      refine aw_goto (tgt := 38) dX8_readDeed_34 rfl ?_
      refine aw_iload_n dX8_readDeed_38 rfl ?_
      refine aw_if_eq (tgt := 47) dX8_readDeed_39 rfl (by omega) (fun hc39 => ?_) (fun hc39 => ?_)
      · refine aw_iconst dX8_readDeed_47 ?_
        refine aw_goto (tgt := 53) dX8_readDeed_48 rfl ?_
        refine aw_cV3I (c_X8_figure hR hV (by omega) (by omega)) lk_X8_172 dX8_readDeed_53 (by decide) rfl rfl (fun _ => Nat.le_of_ble_eq_true rfl) (fun v53 h53 q53 => ?_)
        obtain ⟨rfl, hR2, hk⟩ := q53
        have e32 := hR2.2.2.2.2.2.2.2.2.1
        refine aw_istore_3 dX8_readDeed_56 (by decide) rfl ?_
        refine aw_iload_n dX8_readDeed_57 rfl ?_
        refine aw_if_ge (tgt := 63) dX8_readDeed_58 rfl (by omega) (fun hc58 => ?_) (fun hc58 => ?_)
        · have hN : pDeed1 f sz (pFig f sz 1 5 q) = pDeed2 f sz (pFig f sz 1 5 q).1 (pFig f sz 0 9 (pFig f sz 1 5 q).2) := by rw [pDeed1, if_neg (by omega)]
          rw [hN]
          have hR3 := hR2.dset (k := 0) (v := (pFig f sz 1 5 q).1) (by omega)
          refine aw_aload_n dX8_readDeed_63 rfl ?_
          refine aw_getR (kx := 32) fl_X8_74 dX8_readDeed_64 rfl rfl rfl ?_
          refine aw_iconst dX8_readDeed_67 ?_
          refine aw_aload_n dX8_readDeed_68 rfl ?_
          refine aw_getI (kx := 33) fl_X8_184 dX8_readDeed_69 rfl rfl rfl ?_
          refine aw_imul dX8_readDeed_72 ?_
          refine aw_iload_n dX8_readDeed_73 rfl ?_
          refine aw_iadd dX8_readDeed_74 ?_
          refine aw_iload_n dX8_readDeed_75 rfl ?_
          refine aw_iastore dX8_readDeed_76 rfl (by decide) (by omega) ?_
          refine aw_iinc2 dX8_readDeed_77 (by decide) rfl ?_
          refine aw_goto (tgt := 22) dX8_readDeed_80 rfl ?_
          exact lp_X8_rd1 (pFig f sz 1 5 q) hR3 hV2 (by omega) (by rw [am_set_c (x := 0) (by decide), Int.add_zero]; exact am_set_s _ _ _ _)
        · refine aw_iconst dX8_readDeed_61 ?_
          refine aw_zretQ dX8_readDeed_62 rfl (by omega) ?_
          have hN : pDeed1 f sz (pFig f sz 1 5 q) = (false, (pFig f sz 1 5 q).2) := by rw [pDeed1, if_pos (by omega)]
          rw [hN]; exact ⟨rfl, hR2⟩
      · exfalso; omega
theorem c_X8_readDeed {g0 g : am_H} {t sz : Int} {f : Int → Int} {q : am_H} (hR : RM g0 g t f sz q) (hV : PV sz q) (hp : q 0 0 < sz) : AMet GM mX8_readDeed 4 [am_R 0, am_I t] g (QB g0 t f sz (pDeed f sz q)) := by
  have v3 := hV.2.2.2.1
  have e3 := hR.2.2.2.2.2.2.2.2.1
  have u3 := pUp_j q (j := 3) (by decide)
  refine am_start [some (am_R 0), some (am_I t), none, none] rfl rfl (by decide) (Nat.le_of_ble_eq_true rfl) ?_
  refine aw_aload_n dX8_readDeed_0 rfl ?_
  refine aw_getI (kx := 33) fl_X8_184 dX8_readDeed_1 rfl rfl rfl ?_
  refine aw_iconst dX8_readDeed_4 ?_
  refine aw_icmp_ne (tgt := 10) dX8_readDeed_5 rfl (by omega) (by omega) (fun hc5 => ?_) (fun hc5 => ?_)
  · refine aw_aload_n dX8_readDeed_10 rfl ?_
    first | refine aw_dupR dX8_readDeed_11 ?_ | refine aw_dupI dX8_readDeed_11 ?_
    refine aw_getI (kx := 26) fl_X8_157 dX8_readDeed_12 rfl rfl rfl ?_
    refine aw_iconst dX8_readDeed_15 ?_
    refine aw_iadd dX8_readDeed_16 ?_
    refine aw_putI (kx := 26) fp_X8_157 dX8_readDeed_17 rfl rfl rfl ?_
    refine aw_iconst dX8_readDeed_20 ?_
    refine aw_istore_2 dX8_readDeed_21 (by decide) rfl ?_
    have hN : pDeed f sz q = pDeed1 f sz (pFig f sz 1 5 (pUp q)) := by rw [pDeed, if_neg (by omega)]
    rw [hN]
    exact lp_X8_rd0 hR.up (hV.up hp) (by omega)
  · refine aw_iconst dX8_readDeed_8 ?_
    refine aw_zretQ dX8_readDeed_9 rfl (by omega) ?_
    have hN : pDeed f sz q = (false, q) := by rw [pDeed, if_pos (by omega)]
    rw [hN]; exact ⟨rfl, hR⟩
theorem pLoop_fix {f : Int → Int} {sz : Int} : ∀ (n m : Nat) (q : am_H), PV sz q → sz - q 0 0 < n → sz - q 0 0 < m → pLoop f sz n q = pLoop f sz m q
  | 0, m, q, hV, h1, h2 => by have := hV.1; omega
  | n + 1, 0, q, hV, h1, h2 => by have := hV.1; omega
  | n + 1, m + 1, q, hV, h1, h2 => by
    simp only [pLoop]
    split
    · rfl
    · rename_i hs
      split
      · rename_i hi
        have hI := hV.item (f := f) (by omega)
        have h3 := hI.2.2 hi
        have h4 := hI.1.1
        have h5 := pSkip_0 f (sz := sz) (q := (pItem f sz q).2) h4.2.1
        exact pLoop_fix n m _ hI.1.skip (by omega) (by omega)
      · rfl
theorem lp_X8_readSpeech {g0 : am_H} {t sz : Int} {f : Int → Int} : ∀ (m : Nat) (g q : am_H) (x2 x3 x4 : Option am_V), RM g0 g t f sz q → PV sz q → sz - q 0 0 < m → AW GM mX8_readSpeech 6 (QB g0 t f sz (pLoop f sz m q)) 25 [some (am_R 0), some (am_I t), x2, x3, x4] [] g := by
  intro m
  induction m with
  | zero => intro g q x2 x3 x4 hR hV hm; have := hV.1; omega
  | succ m ih =>
    intro g q x2 x3 x4 hR hV hm
    have hV' := hV
    have hR' := hR
    obtain ⟨v0, v1, v2, v3, v4, v5, v6, v7, v8, v9⟩ := hV'
    obtain ⟨h0, ht, hsz, hf, hfr, e0, e1, e2, e3, hK, hW, hD⟩ := hR'
    have hbr := pB_rng (f := f) (sz := sz) (q := q) hfr
    have hkr := pKind_rng (f (q 0 0))
    have no : pItem f sz q = (false, q) → q 0 0 < sz → (0 : Int) = (if (pLoop f sz (m + 1) q).1 = true then 1 else 0) ∧ RM g0 g t f sz (pLoop f sz (m + 1) q).2 := by
      intro hi hl
      have hN : pLoop f sz (m + 1) q = (false, q) := by simp only [pLoop]; rw [if_neg (by omega), hi, if_neg (by simp)]
      rw [hN]; exact ⟨rfl, hR⟩
    have bad : ∀ g' : am_H, RM g0 g' t f sz (pItem f sz q).2 → ¬ (pItem f sz q).1 = true → q 0 0 < sz → (0 : Int) = (if (pLoop f sz (m + 1) q).1 = true then 1 else 0) ∧ RM g0 g' t f sz (pLoop f sz (m + 1) q).2 := by
      intro g' hR2 hi hl
      have hN : pLoop f sz (m + 1) q = (false, (pItem f sz q).2) := by simp only [pLoop]; rw [if_neg (by omega), if_neg hi]
      rw [hN]; exact ⟨rfl, hR2⟩
    have good : (pItem f sz q).1 = true → q 0 0 < sz → pLoop f sz (m + 1) q = pLoop f sz m (pSkip f sz (pItem f sz q).2) := by
      intro hi hl
      simp only [pLoop]; rw [if_neg (by omega), if_pos hi]
    refine aw_aload_n dX8_readSpeech_25 rfl ?_
    refine aw_iload_n dX8_readSpeech_26 rfl ?_
    refine aw_cV1IF (c_X8_isEnd hR hV) lk_X8_160 dX8_readSpeech_27 (by decide) rfl rfl (fun _ => Nat.le_of_ble_eq_true rfl) ?_
    refine aw_ifb_ne (tgt := 167) dX8_readSpeech_30 rfl (fun hc30 => ?_) (fun hc30 => ?_)
    · have hE : pLoop f sz (m + 1) q = (decide (1 < q 0 1), q) := by simp only [pLoop]; rw [if_pos (by omega)]
      rw [hE]
      refine aw_aload_n dX8_readSpeech_167 rfl ?_
      refine aw_getI (kx := 29) fl_X8_166 dX8_readSpeech_168 rfl rfl rfl ?_
      refine aw_iconst dX8_readSpeech_171 ?_
      refine aw_icmp_le (tgt := 179) dX8_readSpeech_172 rfl (by omega) (by omega) (fun hc172 => ?_) (fun hc172 => ?_)
      · refine aw_iconst dX8_readSpeech_179 ?_
        refine aw_zretQ dX8_readSpeech_180 rfl (by omega) ?_
        exact ⟨by rw [if_neg (by simp; omega)], hR⟩
      · refine aw_iconst dX8_readSpeech_175 ?_
        refine aw_goto (tgt := 180) dX8_readSpeech_176 rfl ?_
        refine aw_zretQ dX8_readSpeech_180 rfl (by omega) ?_
        exact ⟨by rw [if_pos (by simp; omega)], hR⟩
    · refine aw_aload_n dX8_readSpeech_33 rfl ?_
      refine aw_iload_n dX8_readSpeech_34 rfl ?_
      refine aw_cV1IF (c_X8_byteAt hR hV) lk_X8_163 dX8_readSpeech_35 (by decide) rfl rfl (fun _ => Nat.le_of_ble_eq_true rfl) ?_
      have hB : pB f sz q = f (q 0 0) := by rw [pB, if_neg (by omega)]
      have hlt : q 0 0 < sz := by omega
      rw [hB] at hbr ⊢
      have hI := hV.item (f := f) hlt
      refine aw_istore_2 dX8_readSpeech_38 (by decide) rfl ?_
      refine aw_iload_n dX8_readSpeech_39 rfl ?_
      refine aw_cS1IF (c_X8_kindBy (by omega)) lk_X8_191 dX8_readSpeech_40 (by decide) (fun _ => Nat.le_of_ble_eq_true rfl) ?_
      refine aw_istore_3 dX8_readSpeech_43 (by decide) rfl ?_
      refine aw_iconst dX8_readSpeech_44 ?_
      refine aw_istore4 dX8_readSpeech_45 (by decide) rfl ?_
      refine aw_iload_n dX8_readSpeech_47 rfl ?_
      refine aw_if_lt (tgt := 84) dX8_readSpeech_48 rfl (by omega) (fun hc48 => ?_) (fun hc48 => ?_)
      · have i1 : ¬ 0 ≤ pKind (f (q 0 0)) := by omega
        refine aw_iload_n dX8_readSpeech_84 rfl ?_
        refine aw_bipush (by decide) dX8_readSpeech_85 ?_
        refine aw_icmp_ne (tgt := 123) dX8_readSpeech_87 rfl (by omega) (by omega) (fun hc87 => ?_) (fun hc87 => ?_)
        · have i2 : ¬ f (q 0 0) = 120 := by omega
          refine aw_iload_n dX8_readSpeech_123 rfl ?_
          refine aw_bipush (by decide) dX8_readSpeech_124 ?_
          refine aw_icmp_ne (tgt := 152) dX8_readSpeech_126 rfl (by omega) (by omega) (fun hc126 => ?_) (fun hc126 => ?_)
          · refine aw_iload dX8_readSpeech_152 rfl ?_
            refine aw_if_ne (tgt := 159) dX8_readSpeech_154 rfl (by omega) (fun hc154 => ?_) (fun hc154 => ?_)
            · exfalso; omega
            · refine aw_iconst dX8_readSpeech_157 ?_
              refine aw_zretQ dX8_readSpeech_158 rfl (by omega) ?_
              exact no (by rw [pItem, if_neg i1, if_neg i2, if_neg (by omega)]) hlt
          · refine aw_aload_n dX8_readSpeech_129 rfl ?_
            refine aw_getI (kx := 29) fl_X8_166 dX8_readSpeech_130 rfl rfl rfl ?_
            refine aw_iconst dX8_readSpeech_133 ?_
            refine aw_icmp_le (tgt := 149) dX8_readSpeech_134 rfl (by omega) (by omega) (fun hc134 => ?_) (fun hc134 => ?_)
            · refine aw_iconst dX8_readSpeech_149 ?_
              refine aw_istore4 dX8_readSpeech_150 (by decide) rfl ?_
              refine aw_iload dX8_readSpeech_152 rfl ?_
              refine aw_if_ne (tgt := 159) dX8_readSpeech_154 rfl (by omega) (fun hc154 => ?_) (fun hc154 => ?_)
              · exfalso; omega
              · refine aw_iconst dX8_readSpeech_157 ?_
                refine aw_zretQ dX8_readSpeech_158 rfl (by omega) ?_
                exact no (by rw [pItem, if_neg i1, if_neg i2, if_pos (by omega), if_neg (by omega)]) hlt
            · refine aw_aload_n dX8_readSpeech_137 rfl ?_
              refine aw_iload_n dX8_readSpeech_138 rfl ?_
              refine aw_cV1I (c_X8_readDeed hR hV (by omega)) lk_X8_201 dX8_readSpeech_139 (by decide) rfl rfl (fun _ => Nat.le_of_ble_eq_true rfl) (fun v139 h139 q139 => ?_)
              obtain ⟨rfl, hR2⟩ := q139
              have hit : pItem f sz q = pDeed f sz q := by rw [pItem, if_neg i1, if_neg i2, if_pos (by omega), if_pos (by omega)]
              rw [← hit] at hR2 ⊢
              refine aw_ifb_eq (tgt := 149) dX8_readSpeech_142 rfl (fun hc142 => ?_) (fun hc142 => ?_)
              · refine aw_iconst dX8_readSpeech_149 ?_
                refine aw_istore4 dX8_readSpeech_150 (by decide) rfl ?_
                refine aw_iload dX8_readSpeech_152 rfl ?_
                refine aw_if_ne (tgt := 159) dX8_readSpeech_154 rfl (by omega) (fun hc154 => ?_) (fun hc154 => ?_)
                · exfalso; omega
                · refine aw_iconst dX8_readSpeech_157 ?_
                  refine aw_zretQ dX8_readSpeech_158 rfl (by omega) ?_
                  exact bad _ hR2 hc142 hlt
              · refine aw_iconst dX8_readSpeech_145 ?_
                refine aw_goto (tgt := 150) dX8_readSpeech_146 rfl ?_
                refine aw_istore4 dX8_readSpeech_150 (by decide) rfl ?_
                refine aw_iload dX8_readSpeech_152 rfl ?_
                refine aw_if_ne (tgt := 159) dX8_readSpeech_154 rfl (by omega) (fun hc154 => ?_) (fun hc154 => ?_)
                · refine aw_aload_n dX8_readSpeech_159 rfl ?_
                  refine aw_iload_n dX8_readSpeech_160 rfl ?_
                  refine aw_cV1V (c_X8_skipBlanks hR2 hI.1) lk_X8_187 dX8_readSpeech_161 (by decide) rfl rfl (fun _ => Nat.le_of_ble_eq_true rfl) (fun h161 q161 => ?_)
                  refine aw_goto (tgt := 25) dX8_readSpeech_164 rfl ?_
                  have h5 := pSkip_0 f (sz := sz) (q := (pItem f sz q).2) hI.1.1.2.1
                  rw [good hc142 hlt]
                  exact ih _ _ _ _ _ q161 hI.1.skip (by have := hI.2.2 hc142; omega)
                · exfalso; omega
        · refine aw_aload_n dX8_readSpeech_90 rfl ?_
          refine aw_getI (kx := 29) fl_X8_166 dX8_readSpeech_91 rfl rfl rfl ?_
          refine aw_iconst dX8_readSpeech_94 ?_
          refine aw_icmp_le (tgt := 117) dX8_readSpeech_95 rfl (by omega) (by omega) (fun hc95 => ?_) (fun hc95 => ?_)
          · refine aw_iconst dX8_readSpeech_117 ?_
            refine aw_istore4 dX8_readSpeech_118 (by decide) rfl ?_
            refine aw_goto (tgt := 152) dX8_readSpeech_120 rfl ?_
            refine aw_iload dX8_readSpeech_152 rfl ?_
            refine aw_if_ne (tgt := 159) dX8_readSpeech_154 rfl (by omega) (fun hc154 => ?_) (fun hc154 => ?_)
            · exfalso; omega
            · refine aw_iconst dX8_readSpeech_157 ?_
              refine aw_zretQ dX8_readSpeech_158 rfl (by omega) ?_
              exact no (by rw [pItem, if_neg i1, if_pos (by omega), if_neg (by omega)]) hlt
          · refine aw_aload_n dX8_readSpeech_98 rfl ?_
            refine aw_getI (kx := 33) fl_X8_184 dX8_readSpeech_99 rfl rfl rfl ?_
            refine aw_if_ne (tgt := 117) dX8_readSpeech_102 rfl (by omega) (fun hc102 => ?_) (fun hc102 => ?_)
            · refine aw_iconst dX8_readSpeech_117 ?_
              refine aw_istore4 dX8_readSpeech_118 (by decide) rfl ?_
              refine aw_goto (tgt := 152) dX8_readSpeech_120 rfl ?_
              refine aw_iload dX8_readSpeech_152 rfl ?_
              refine aw_if_ne (tgt := 159) dX8_readSpeech_154 rfl (by omega) (fun hc154 => ?_) (fun hc154 => ?_)
              · exfalso; omega
              · refine aw_iconst dX8_readSpeech_157 ?_
                refine aw_zretQ dX8_readSpeech_158 rfl (by omega) ?_
                exact no (by rw [pItem, if_neg i1, if_pos (by omega), if_neg (by omega)]) hlt
            · refine aw_aload_n dX8_readSpeech_105 rfl ?_
              refine aw_iload_n dX8_readSpeech_106 rfl ?_
              refine aw_cV1I (c_X8_readWord hR hV (by omega)) lk_X8_198 dX8_readSpeech_107 (by decide) rfl rfl (fun _ => Nat.le_of_ble_eq_true rfl) (fun v107 h107 q107 => ?_)
              obtain ⟨rfl, hR2⟩ := q107
              have hit : pItem f sz q = pWord f sz q := by rw [pItem, if_neg i1, if_pos (by omega), if_pos ⟨by omega, by omega⟩]
              rw [← hit] at hR2 ⊢
              refine aw_ifb_eq (tgt := 117) dX8_readSpeech_110 rfl (fun hc110 => ?_) (fun hc110 => ?_)
              · refine aw_iconst dX8_readSpeech_117 ?_
                refine aw_istore4 dX8_readSpeech_118 (by decide) rfl ?_
                refine aw_goto (tgt := 152) dX8_readSpeech_120 rfl ?_
                refine aw_iload dX8_readSpeech_152 rfl ?_
                refine aw_if_ne (tgt := 159) dX8_readSpeech_154 rfl (by omega) (fun hc154 => ?_) (fun hc154 => ?_)
                · exfalso; omega
                · refine aw_iconst dX8_readSpeech_157 ?_
                  refine aw_zretQ dX8_readSpeech_158 rfl (by omega) ?_
                  exact bad _ hR2 hc110 hlt
              · refine aw_iconst dX8_readSpeech_113 ?_
                refine aw_goto (tgt := 118) dX8_readSpeech_114 rfl ?_
                refine aw_istore4 dX8_readSpeech_118 (by decide) rfl ?_
                refine aw_goto (tgt := 152) dX8_readSpeech_120 rfl ?_
                refine aw_iload dX8_readSpeech_152 rfl ?_
                refine aw_if_ne (tgt := 159) dX8_readSpeech_154 rfl (by omega) (fun hc154 => ?_) (fun hc154 => ?_)
                · refine aw_aload_n dX8_readSpeech_159 rfl ?_
                  refine aw_iload_n dX8_readSpeech_160 rfl ?_
                  refine aw_cV1V (c_X8_skipBlanks hR2 hI.1) lk_X8_187 dX8_readSpeech_161 (by decide) rfl rfl (fun _ => Nat.le_of_ble_eq_true rfl) (fun h161 q161 => ?_)
                  refine aw_goto (tgt := 25) dX8_readSpeech_164 rfl ?_
                  have h5 := pSkip_0 f (sz := sz) (q := (pItem f sz q).2) hI.1.1.2.1
                  rw [good hc110 hlt]
                  exact ih _ _ _ _ _ q161 hI.1.skip (by have := hI.2.2 hc110; omega)
                · exfalso; omega
      · refine aw_aload_n dX8_readSpeech_51 rfl ?_
        refine aw_getI (kx := 31) fl_X8_176 dX8_readSpeech_52 rfl rfl rfl ?_
        refine aw_if_ne (tgt := 78) dX8_readSpeech_55 rfl (by omega) (fun hc55 => ?_) (fun hc55 => ?_)
        · refine aw_iconst dX8_readSpeech_78 ?_
          refine aw_istore4 dX8_readSpeech_79 (by decide) rfl ?_
          refine aw_goto (tgt := 152) dX8_readSpeech_81 rfl ?_
          refine aw_iload dX8_readSpeech_152 rfl ?_
          refine aw_if_ne (tgt := 159) dX8_readSpeech_154 rfl (by omega) (fun hc154 => ?_) (fun hc154 => ?_)
          · exfalso; omega
          · refine aw_iconst dX8_readSpeech_157 ?_
            refine aw_zretQ dX8_readSpeech_158 rfl (by omega) ?_
            exact no (by rw [pItem, if_pos (by omega), if_neg (by omega)]) hlt
        · refine aw_aload_n dX8_readSpeech_58 rfl ?_
          refine aw_getI (kx := 33) fl_X8_184 dX8_readSpeech_59 rfl rfl rfl ?_
          refine aw_if_ne (tgt := 78) dX8_readSpeech_62 rfl (by omega) (fun hc62 => ?_) (fun hc62 => ?_)
          · refine aw_iconst dX8_readSpeech_78 ?_
            refine aw_istore4 dX8_readSpeech_79 (by decide) rfl ?_
            refine aw_goto (tgt := 152) dX8_readSpeech_81 rfl ?_
            refine aw_iload dX8_readSpeech_152 rfl ?_
            refine aw_if_ne (tgt := 159) dX8_readSpeech_154 rfl (by omega) (fun hc154 => ?_) (fun hc154 => ?_)
            · exfalso; omega
            · refine aw_iconst dX8_readSpeech_157 ?_
              refine aw_zretQ dX8_readSpeech_158 rfl (by omega) ?_
              exact no (by rw [pItem, if_pos (by omega), if_neg (by omega)]) hlt
          · refine aw_aload_n dX8_readSpeech_65 rfl ?_
            refine aw_iload_n dX8_readSpeech_66 rfl ?_
            refine aw_iload_n dX8_readSpeech_67 rfl ?_
            refine aw_cV2I (c_X8_readNode hR hV (by omega) (by omega)) lk_X8_194 dX8_readSpeech_68 (by decide) rfl rfl (fun _ => Nat.le_of_ble_eq_true rfl) (fun v68 h68 q68 => ?_)
            obtain ⟨rfl, hR2⟩ := q68
            have hit : pItem f sz q = pNode f sz (pKind (f (q 0 0))) q := by rw [pItem, if_pos (by omega), if_pos ⟨by omega, by omega⟩]
            rw [← hit] at hR2 ⊢
            refine aw_ifb_eq (tgt := 78) dX8_readSpeech_71 rfl (fun hc71 => ?_) (fun hc71 => ?_)
            · refine aw_iconst dX8_readSpeech_78 ?_
              refine aw_istore4 dX8_readSpeech_79 (by decide) rfl ?_
              refine aw_goto (tgt := 152) dX8_readSpeech_81 rfl ?_
              refine aw_iload dX8_readSpeech_152 rfl ?_
              refine aw_if_ne (tgt := 159) dX8_readSpeech_154 rfl (by omega) (fun hc154 => ?_) (fun hc154 => ?_)
              · exfalso; omega
              · refine aw_iconst dX8_readSpeech_157 ?_
                refine aw_zretQ dX8_readSpeech_158 rfl (by omega) ?_
                exact bad _ hR2 hc71 hlt
            · refine aw_iconst dX8_readSpeech_74 ?_
              refine aw_goto (tgt := 79) dX8_readSpeech_75 rfl ?_
              refine aw_istore4 dX8_readSpeech_79 (by decide) rfl ?_
              refine aw_goto (tgt := 152) dX8_readSpeech_81 rfl ?_
              refine aw_iload dX8_readSpeech_152 rfl ?_
              refine aw_if_ne (tgt := 159) dX8_readSpeech_154 rfl (by omega) (fun hc154 => ?_) (fun hc154 => ?_)
              · refine aw_aload_n dX8_readSpeech_159 rfl ?_
                refine aw_iload_n dX8_readSpeech_160 rfl ?_
                refine aw_cV1V (c_X8_skipBlanks hR2 hI.1) lk_X8_187 dX8_readSpeech_161 (by decide) rfl rfl (fun _ => Nat.le_of_ble_eq_true rfl) (fun h161 q161 => ?_)
                refine aw_goto (tgt := 25) dX8_readSpeech_164 rfl ?_
                have h5 := pSkip_0 f (sz := sz) (q := (pItem f sz q).2) hI.1.1.2.1
                rw [good hc71 hlt]
                exact ih _ _ _ _ _ q161 hI.1.skip (by have := hI.2.2 hc71; omega)
              · exfalso; omega
theorem c_X8_readSpeech {g : am_H} {t : Int} (hv : MVt g) (ht : 0 ≤ t ∧ t ≤ 3) (hz : 0 ≤ g 3 t) : AMet GM mX8_readSpeech 6 [am_R 0, am_I t] g (QB g t (fun j => g 4 (80 * t + j)) (g 3 t) (pAll (fun j => g 4 (80 * t + j)) (g 3 t))) := by
  have hs := hv.1 t (by omega) (by omega)
  refine am_start [some (am_R 0), some (am_I t), none, none, none] rfl rfl (by decide) (Nat.le_of_ble_eq_true rfl) ?_
  have z00 : am_0 0 0 = 0 := rfl
  have z01 : am_0 0 1 = 0 := rfl
  have z02 : am_0 0 2 = 0 := rfl
  have z03 : am_0 0 3 = 0 := rfl
  have hV0 : PV (g 3 t) am_0 := by
    refine ⟨by omega, by omega, by omega, by omega, ?_, ?_, ?_, ?_, ?_, by omega⟩
    · intro x h1 h2; omega
    · intro x h1 h2; omega
    · intro x y h1 h2 h3; omega
    · intro x; rw [z02]; simp [cntF]
    · intro x h1 h2; omega
  have hR0 : RM g (am_set (am_set (am_set (am_set g 0 26 0) 0 29 0) 0 31 0) 0 33 0) t (fun j => g 4 (80 * t + j)) (g 3 t) am_0 := by
    refine ⟨(MEq.sc0 (by decide)).tr ((MEq.sc0 (by decide)).tr ((MEq.sc0 (by decide)).tr (MEq.sc0 (by decide)))), ht, ?_, fun j => ?_, fun j => hv.2 _, ?_, ?_, ?_, ?_, ?_, ?_, ?_⟩
    · rw [am_set_c (by decide), am_set_c (by decide), am_set_c (by decide), am_set_c (by decide)]
    · rw [am_set_c (by decide), am_set_c (by decide), am_set_c (by decide), am_set_c (by decide)]
    · simp [am_set_if, am_0]
    · simp [am_set_if, am_0]
    · simp [am_set_if, am_0]
    · simp [am_set_if, am_0]
    · intro x h1 h2; omega
    · intro x h1 h2; omega
    · intro x h1 h2; omega
  have h5 := pSkip_0 (fun j => g 4 (80 * t + j)) (sz := g 3 t) (q := am_0) hz
  refine aw_aload_n dX8_readSpeech_0 rfl ?_
  refine aw_iconst dX8_readSpeech_1 ?_
  refine aw_putI (kx := 26) fp_X8_157 dX8_readSpeech_2 rfl rfl rfl ?_
  refine aw_aload_n dX8_readSpeech_5 rfl ?_
  refine aw_iconst dX8_readSpeech_6 ?_
  refine aw_putI (kx := 29) fp_X8_166 dX8_readSpeech_7 rfl rfl rfl ?_
  refine aw_aload_n dX8_readSpeech_10 rfl ?_
  refine aw_iconst dX8_readSpeech_11 ?_
  refine aw_putI (kx := 31) fp_X8_176 dX8_readSpeech_12 rfl rfl rfl ?_
  refine aw_aload_n dX8_readSpeech_15 rfl ?_
  refine aw_iconst dX8_readSpeech_16 ?_
  refine aw_putI (kx := 33) fp_X8_184 dX8_readSpeech_17 rfl rfl rfl ?_
  refine aw_aload_n dX8_readSpeech_20 rfl ?_
  refine aw_iload_n dX8_readSpeech_21 rfl ?_
  refine aw_cV1V (c_X8_skipBlanks hR0 hV0) lk_X8_187 dX8_readSpeech_22 (by decide) rfl rfl (fun _ => Nat.le_of_ble_eq_true rfl) (fun h22 q22 => ?_)
  exact lp_X8_readSpeech 82 _ _ _ _ _ q22 hV0.skip (by omega)
noncomputable abbrev pT (g : am_H) (t : Int) : Bool × am_H := pAll (fun j => g 4 (80 * t + j)) (g 3 t)
noncomputable def S_fault (g : am_H) (t : Int) : Int × am_H := if ¬ (0 ≤ t ∧ t ≤ 3) then (-1, g) else if g 3 t < 0 then (-3, findF g 1) else if (pT g t).1 = true then (-9, g) else ((pT g t).2 0 0, g)
theorem c_X8_fault {g : am_H} {t : Int} (hv : MVt g) (ht : -2147483648 ≤ t ∧ t < 2147483648) : AMet GM mX8_fault 7 [am_R 0, am_I t] g (QM (S_fault g t)) := by
  refine am_start [some (am_R 0), some (am_I t)] rfl rfl (by decide) (Nat.le_of_ble_eq_true rfl) ?_
  refine aw_iload_n dX8_fault_0 rfl ?_
  refine aw_cS1IF (c_X8_isText (by omega)) lk_X8_154 dX8_fault_1 (by decide) (fun _ => Nat.le_of_ble_eq_true rfl) ?_
  refine aw_ifb_ne (tgt := 9) dX8_fault_4 rfl (fun hc4 => ?_) (fun hc4 => ?_)
  · have hs := hv.1 t (by omega) (by omega)
    refine aw_aload_n dX8_fault_9 rfl ?_
    refine aw_getR (kx := 2) fl_X8_16 dX8_fault_10 rfl rfl rfl ?_
    refine aw_iload_n dX8_fault_13 rfl ?_
    refine aw_iaload dX8_fault_14 rfl (by decide) (by omega) ?_
    refine aw_if_ge (tgt := 24) dX8_fault_15 rfl (by omega) (fun hc15 => ?_) (fun hc15 => ?_)
    · refine aw_aload_n dX8_fault_24 rfl ?_
      refine aw_iload_n dX8_fault_25 rfl ?_
      refine aw_cV1I (c_X8_readSpeech hv (by omega) (by omega)) lk_X8_204 dX8_fault_26 (by decide) rfl rfl (fun _ => Nat.le_of_ble_eq_true rfl) (fun v26 h26 q26 => ?_)
      obtain ⟨rfl, hR⟩ := q26
      refine aw_ifb_eq (tgt := 37) dX8_fault_29 rfl (fun hc29 => ?_) (fun hc29 => ?_)
      · refine aw_aload_n dX8_fault_37 rfl ?_
        refine aw_getI (kx := 26) fl_X8_157 dX8_fault_38 rfl rfl rfl ?_
        refine aw_iretQ dX8_fault_41 rfl ?_
        rw [S_fault, if_neg (by omega), if_neg (by omega), if_neg hc29]; exact ⟨hR.2.2.2.2.2.1, hR.1⟩
      · refine aw_bipush (by decide) dX8_fault_32 ?_
        refine aw_goto (tgt := 41) dX8_fault_34 rfl ?_
        refine aw_iretQ dX8_fault_41 rfl ?_
        rw [S_fault, if_neg (by omega), if_neg (by omega), if_pos hc29]; exact ⟨rfl, hR.1⟩
    · refine aw_aload_n dX8_fault_18 rfl ?_
      refine aw_iconst dX8_fault_19 ?_
      refine aw_cV1IF (c_X8_find (by omega)) lk_X8_143 dX8_fault_20 (by decide) rfl rfl (fun _ => Nat.le_of_ble_eq_true rfl) ?_
      refine aw_iretQ dX8_fault_23 rfl ?_
      rw [S_fault, if_neg (by omega), if_pos (by omega)]; exact ⟨rfl, MEq.rf _⟩
  · refine aw_iconst dX8_fault_7 ?_
    refine aw_iretQ dX8_fault_8 rfl ?_
    rw [S_fault, if_pos (by omega)]; exact ⟨rfl, MEq.rf _⟩
