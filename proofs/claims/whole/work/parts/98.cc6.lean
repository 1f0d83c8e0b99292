theorem c_X4_readWord_27 {h0 h : am_H} {t sz : Int} {f : Int → Int} {q : am_H} (hR : RC27 h0 h t f sz q) (hV : PV sz q) (hp : q 0 0 < sz) : AMet GC mX4_readWord 4 [am_R 39] h (QR27 h0 t f sz (if 1 < q 0 1 ∧ q 0 3 = 0 then pWord f sz q else (false, q))) := by
  have hV1 := hV.2.1
  have hV2 := hV.2.2.1
  have hV3 := hV.2.2.2.1
  have e2 := hR.2.2.1.2.2.1
  have e3 := hR.2.2.1.2.2.2
  obtain ⟨b0, b1, b2⟩ := hR.2.2.2.2.1
  have hU0 : RC27 h0 (am_set h 39 2 (h 39 2 + 1)) t f sz (pUp q) := hR.pl (pPl.up q) (by rw [pUp_0, e2])
  have hVU : PV sz (pUp q) := hV.up hp
  have eU1 : pUp q 0 1 = q 0 1 := pUp_j q (by decide)
  have eU2 : pUp q 0 2 = q 0 2 := pUp_j q (by decide)
  have eU3 : pUp q 0 3 = q 0 3 := pUp_j q (by decide)
  have eW : ¬ q 0 2 = 14 → pWord f sz q = pWord2 f sz (pUp q) := fun z => by rw [pWord, if_neg z]
  obtain ⟨u, hu⟩ : ∃ u, u = pUp q := ⟨_, rfl⟩
  rw [← hu] at hVU hU0 eU1 eU2 eU3 eW
  obtain ⟨x, hx⟩ : ∃ x, x = pFig f sz 0 (u 0 1 - 1) u := ⟨_, rfl⟩
  have rX := pFig_rng (f := f) (sz := sz) (lo := 0) (hi := u 0 1 - 1) (q := u) (by omega) (by omega)
  rw [← hx] at rX
  have vX : PV sz x.2 := by rw [hx]; exact hVU.fig
  have xN : x.1 < 0 → x.2 = u ∧ pFromBad f sz u := by
    intro z
    rw [hx] at z ⊢
    unfold pFig at z ⊢
    by_cases c : sz ≤ u 0 0 ∨ ¬ (0 ≤ f (u 0 0) - 48 ∧ f (u 0 0) - 48 ≤ u 0 1 - 1)
    · rw [if_pos c]
      exact ⟨rfl, c.elim Or.inl (fun y => Or.inr (Or.inl y))⟩
    · rw [if_neg c] at z
      have z2 : f (u 0 0) - 48 < 0 := z
      omega
  have xY : ¬ x.1 < 0 → (0 ≤ x.1 ∧ x.1 ≤ u 0 1 - 1) ∧ u 0 0 < sz ∧ x.1 = f (u 0 0) - 48 ∧ x.2 = pUp u := by
    intro z
    rw [hx] at z ⊢
    obtain ⟨c1, c2, c3, c4⟩ := pFig_v z
    exact ⟨⟨c1, c2⟩, c3, by rw [c4], by rw [c4]⟩
  have w2N : pFromBad f sz u → pWord2 f sz u = (false, u) := fun z => if_pos z
  obtain ⟨d, hd⟩ : ∃ d, d = pFig f sz (x.1 + 1) (u 0 1 - 1) (pUp u) := ⟨_, rfl⟩
  have rD := pFig_rng (f := f) (sz := sz) (lo := x.1 + 1) (hi := u 0 1 - 1) (q := pUp u) (by omega) (by omega)
  rw [← hd] at rD
  obtain ⟨s, hs⟩ : ∃ s, s = pFig f sz 0 9 d.2 := ⟨_, rfl⟩
  have rS := pFig_rng (f := f) (sz := sz) (lo := 0) (hi := 9) (q := d.2) (by omega) (by omega)
  rw [← hs] at rS
  have dY : ¬ d.1 < 0 → x.1 < d.1 ∧ d.1 < u 0 1 := by
    intro z
    rw [hd] at z ⊢
    obtain ⟨c1, c2, c3, c4⟩ := pFig_v z
    omega
  have pD : pPl d.2 u := by rw [hd]; exact (pFig_pl _ _ _ _ _).tr (pPl.up u)
  have sN : s.1 < 0 → s.2 = d.2 ∧ pSndBad f sz x.1 d.2 := by
    intro z
    rw [hs] at z ⊢
    unfold pFig at z ⊢
    by_cases c : sz ≤ d.2 0 0 ∨ ¬ (0 ≤ f (d.2 0 0) - 48 ∧ f (d.2 0 0) - 48 ≤ 9)
    · rw [if_pos c]
      exact ⟨rfl, c.elim Or.inl (fun y => Or.inr (Or.inl y))⟩
    · rw [if_neg c] at z
      have z2 : f (d.2 0 0) - 48 < 0 := z
      omega
  have sY : ¬ s.1 < 0 → (0 ≤ s.1 ∧ s.1 ≤ 9) ∧ d.2 0 0 < sz ∧ s.1 = f (d.2 0 0) - 48 ∧ s.2 = pUp d.2 := by
    intro z
    rw [hs] at z ⊢
    obtain ⟨c1, c2, c3, c4⟩ := pFig_v z
    exact ⟨⟨c1, c2⟩, c3, by rw [c4], by rw [c4]⟩
  have w3 : pWord3 f sz x.1 d = if d.1 < 0 then (false, d.2) else @ite _ (pSndBad f sz x.1 d.2) (Classical.propDecidable _) (false, d.2) (true, pWordA x.1 d.1 (f (d.2 0 0) - 48) d.2) := rfl
  refine am_start [some (am_R 39), none, none, none] rfl rfl (by decide) (Nat.le_of_ble_eq_true rfl) ?_
  refine aw_aload_n dX4_readWord_0 rfl ?_
  refine aw_getD (kx := 3) fl_X4_15 dX4_readWord_1 rfl rfl rfl ?_
  refine aw_topR e3 ?_
  refine aw_getI (kx := 0) fl_X4_44 dX4_readWord_4 rfl rfl rfl ?_
  refine aw_iconst dX4_readWord_7 ?_
  refine aw_icmp_lt (tgt := 33) dX4_readWord_8 rfl (by omega) (by omega) (fun hc8 => ?_) (fun hc8 => ?_)
  · refine aw_iconst dX4_readWord_33 ?_
    refine aw_zretQ dX4_readWord_34 rfl (by omega) ?_
    exact qr_no27 (if_neg (by omega)) hR
  · refine aw_aload_n dX4_readWord_11 rfl ?_
    refine aw_getD (kx := 3) fl_X4_15 dX4_readWord_12 rfl rfl rfl ?_
    refine aw_topR e3 ?_
    refine aw_getI (kx := 1) fl_X4_61 dX4_readWord_15 rfl rfl rfl ?_
    refine aw_bipush (by decide) dX4_readWord_18 ?_
    refine aw_icmp_eq (tgt := 33) dX4_readWord_20 rfl (by omega) (by omega) (fun hc20 => ?_) (fun hc20 => ?_)
    · refine aw_iconst dX4_readWord_33 ?_
      refine aw_zretQ dX4_readWord_34 rfl (by omega) ?_
      refine qr_no27 ?_ hR
      by_cases z : 1 < q 0 1 ∧ q 0 3 = 0
      · rw [if_pos z, pWord, if_pos (by omega)]
      · rw [if_neg z]
    · refine aw_aload_n dX4_readWord_23 rfl ?_
      refine aw_getD (kx := 3) fl_X4_15 dX4_readWord_24 rfl rfl rfl ?_
      refine aw_topR e3 ?_
      refine aw_getI (kx := 2) fl_X4_64 dX4_readWord_27 rfl rfl rfl ?_
      refine aw_if_le (tgt := 35) dX4_readWord_30 rfl (by omega) (fun hc30 => ?_) (fun hc30 => ?_)
      · rw [if_pos (by omega), eW (by omega)]
        refine aw_aload_n dX4_readWord_35 rfl ?_
        first | refine aw_dupR dX4_readWord_36 ?_ | refine aw_dupI dX4_readWord_36 ?_
        refine aw_getI (kx := 2) fl_X4_29 dX4_readWord_37 rfl rfl rfl ?_
        refine aw_iconst dX4_readWord_40 ?_
        refine aw_iadd dX4_readWord_41 ?_
        refine aw_putI (kx := 2) fp_X4_29 dX4_readWord_42 rfl rfl rfl ?_
        refine aw_aload_n dX4_readWord_45 rfl ?_
        refine aw_iconst dX4_readWord_46 ?_
        refine aw_aload_n dX4_readWord_47 rfl ?_
        refine aw_getD (kx := 3) fl_X4_15 dX4_readWord_48 rfl rfl rfl ?_
        refine aw_topR hU0.2.2.1.2.2.2 ?_
        refine aw_getI (kx := 0) fl_X4_44 dX4_readWord_51 rfl rfl rfl ?_
        refine aw_top hU0.2.2.2.2.1.1 ?_
        refine aw_iconst dX4_readWord_54 ?_
        refine aw_isub dX4_readWord_55 ?_
        refine aw_cV2I (c_X4_figure_27 hU0 hVU (by omega) (by omega)) lk_X4_67 dX4_readWord_56 (by decide) rfl rfl (fun _ => Nat.le_of_ble_eq_true rfl) (fun v56 h56 q56 => ?_)
        rw [← hx] at q56
        refine aw_istore_1 dX4_readWord_59 (by decide) rfl ?_
        refine aw_iload_n dX4_readWord_60 rfl ?_
        refine aw_if_ge (tgt := 66) dX4_readWord_61 rfl (by omega) (fun hc61 => ?_) (fun hc61 => ?_)
        · obtain ⟨x1, x2, x3, x4⟩ := xY (by omega)
          have q56b : RC27 h0 h56 t f sz (pUp u) := by rw [← x4]; exact q56.2
          have vUU : PV sz (pUp u) := by rw [← x4]; exact vX
          have bx := q56b.2.2.2.2.2.1 x.1 (by omega) (by rw [pUp_j u (by decide)]; omega)
          rw [pUp_c u (by decide), pUp_c u (by decide), pUp_j u (by decide)] at bx
          have kx := (hVU.2.2.2.2.1 x.1 (by omega) (by omega)).1
          have c4 := hVU.2.2.2.2.2.2.2.1 x.1
          have c0 := (cntF_rng (u 3) x.1 (u 0 2).toNat).1
          have bx2 : h56 30 x.1 = cntF (u 3) x.1 (u 0 2).toNat := by rw [← pUp_c u (c := 3) (by decide)]; exact bx.2.2
          refine aw_ls (ls2 := [some (am_R 39), some (am_I x.1), none, none]) (by rw [q56.1]) ?_
          have eF : pFromBad f sz u ↔ fin (u 1 x.1) ∨ cntF (u 3) x.1 (u 0 2).toNat = 4 := by
            unfold pFromBad
            rw [← x3]
            exact ⟨fun z => z.elim (fun y => by omega) (fun z => z.elim (fun y => absurd x1 y) id), fun z => Or.inr (Or.inr z)⟩
          refine aw_aload_n dX4_readWord_66 rfl ?_
          refine aw_getD (kx := 3) fl_X4_15 dX4_readWord_67 rfl rfl rfl ?_
          refine aw_topR q56b.2.2.1.2.2.2 ?_
          refine aw_iload_n dX4_readWord_70 rfl ?_
          refine aw_cV1IF (c_X5_isEnd_27 (by omega) (by rw [bx.1]; omega)) lk_X4_74 dX4_readWord_71 (by decide) rfl rfl (fun _ => Nat.le_of_ble_eq_true rfl) ?_
          refine aw_ifb_ne (tgt := 90) dX4_readWord_74 rfl (fun hc74 => ?_) (fun hc74 => ?_)
          · refine aw_aload_n dX4_readWord_90 rfl ?_
            refine aw_cV0I (c_X4_stepBack_27 (q' := u) q56b vUU ⟨fun j hj => (pUp_j u hj).symm, fun c hc => (pUp_c u hc).symm⟩ (pUp_0 u)) lk_X4_81 dX4_readWord_91 (by decide) rfl rfl (fun _ => Nat.le_of_ble_eq_true rfl) (fun v91 h91 q91 => ?_)
            refine aw_zretQ dX4_readWord_94 rfl (by rw [q91.1]; exact Or.inl rfl) ?_
            rw [q91.1]; exact qr_no27 (w2N (eF.mpr (Or.inl (by rw [← bx.1]; exact hc74)))) q91.2
          · refine aw_aload_n dX4_readWord_77 rfl ?_
            refine aw_getD (kx := 3) fl_X4_15 dX4_readWord_78 rfl rfl rfl ?_
            refine aw_topR q56b.2.2.1.2.2.2 ?_
            refine aw_getR (kx := 5) fl_X4_77 dX4_readWord_81 rfl rfl rfl ?_
            refine aw_iload_n dX4_readWord_84 rfl ?_
            refine aw_iaload dX4_readWord_85 rfl (by decide) (by omega) ?_
            refine aw_top bx2 ?_
            refine aw_iconst dX4_readWord_86 ?_
            refine aw_icmp_ne (tgt := 95) dX4_readWord_87 rfl (by omega) (by omega) (fun hc87 => ?_) (fun hc87 => ?_)
            · have nF : ¬ pFromBad f sz u := fun z => (eF.mp z).elim (fun y => hc74 (by rw [bx.1]; exact y)) hc87
              have ew2 : pWord2 f sz u = pWord3 f sz x.1 d := by rw [pWord2, if_neg nF, ← x3, ← hd]
              rw [ew2, w3]
              refine aw_aload_n dX4_readWord_95 rfl ?_
              refine aw_iload_n dX4_readWord_96 rfl ?_
              refine aw_iconst dX4_readWord_97 ?_
              refine aw_iadd dX4_readWord_98 ?_
              refine aw_aload_n dX4_readWord_99 rfl ?_
              refine aw_getD (kx := 3) fl_X4_15 dX4_readWord_100 rfl rfl rfl ?_
              refine aw_topR q56b.2.2.1.2.2.2 ?_
              refine aw_getI (kx := 0) fl_X4_44 dX4_readWord_103 rfl rfl rfl ?_
              refine aw_top (show h56 27 0 = u 0 1 by rw [← pUp_j u (j := 1) (by decide)]; exact q56b.2.2.2.2.1.1) ?_
              refine aw_iconst dX4_readWord_106 ?_
              refine aw_isub dX4_readWord_107 ?_
              refine aw_cV2I (c_X4_figure_27 q56b vUU (by omega) (by omega)) lk_X4_67 dX4_readWord_108 (by decide) rfl rfl (fun _ => Nat.le_of_ble_eq_true rfl) (fun v108 h108 q108 => ?_)
              rw [← hd] at q108
              refine aw_istore_2 dX4_readWord_111 (by decide) rfl ?_
              refine aw_iload_n dX4_readWord_112 rfl ?_
              refine aw_if_ge (tgt := 120) dX4_readWord_113 rfl (by omega) (fun hc113 => ?_) (fun hc113 => ?_)
              · obtain ⟨d1, d2⟩ := dY (by omega)
                have vD : PV sz d.2 := by rw [hd]; exact vUU.fig
                rw [if_neg (show ¬ d.1 < 0 by omega)]
                refine aw_aload_n dX4_readWord_120 rfl ?_
                refine aw_iconst dX4_readWord_121 ?_
                refine aw_bipush (by decide) dX4_readWord_122 ?_
                refine aw_cV2I (c_X4_figure_27 q108.2 vD (by omega) (by omega)) lk_X4_67 dX4_readWord_124 (by decide) rfl rfl (fun _ => Nat.le_of_ble_eq_true rfl) (fun v124 h124 q124 => ?_)
                rw [← hs] at q124
                refine aw_istore_3 dX4_readWord_127 (by decide) rfl ?_
                refine aw_iload_n dX4_readWord_128 rfl ?_
                refine aw_if_ge (tgt := 134) dX4_readWord_129 rfl (by omega) (fun hc129 => ?_) (fun hc129 => ?_)
                · obtain ⟨s1, s2, s3, s4⟩ := sY (by omega)
                  have q124b : RC27 h0 h124 t f sz (pUp d.2) := by rw [← s4]; exact q124.2
                  have vS : PV sz (pUp d.2) := vD.up s2
                  refine aw_ls (ls2 := [some (am_R 39), some (am_I x.1), some (am_I d.1), some (am_I s.1)]) (by rw [q108.1, q124.1]) ?_
                  have eS : pSndBad f sz x.1 d.2 ↔ pHas (pUp d.2) x.1 s.1 := by
                    unfold pSndBad pHas
                    rw [← s3, pUp_j d.2 (by decide), pUp_c d.2 (by decide), pUp_c d.2 (by decide)]
                    exact ⟨fun z => z.elim (fun y => by omega) (fun z => z.elim (fun y => absurd s1 y) id), fun z => Or.inr (Or.inr z)⟩
                  refine aw_aload_n dX4_readWord_134 rfl ?_
                  refine aw_getD (kx := 3) fl_X4_15 dX4_readWord_135 rfl rfl rfl ?_
                  refine aw_topR q124b.2.2.1.2.2.2 ?_
                  refine aw_iload_n dX4_readWord_138 rfl ?_
                  refine aw_iload_n dX4_readWord_139 rfl ?_
                  refine aw_cV2IF (c_X5_hasSound_27 q124b.2.2.2.2 vS (by rw [pUp_j d.2 (by decide), pD.1 1 (by decide)]; omega) s1) lk_X4_84 dX4_readWord_140 (by decide) rfl rfl (fun _ => Nat.le_of_ble_eq_true rfl) ?_
                  refine aw_ifb_eq (tgt := 151) dX4_readWord_143 rfl (fun hc143 => ?_) (fun hc143 => ?_)
                  · refine aw_aload_n dX4_readWord_151 rfl ?_
                    refine aw_getD (kx := 3) fl_X4_15 dX4_readWord_152 rfl rfl rfl ?_
                    refine aw_topR q124b.2.2.1.2.2.2 ?_
                    refine aw_iload_n dX4_readWord_155 rfl ?_
                    refine aw_iload_n dX4_readWord_156 rfl ?_
                    refine aw_iload_n dX4_readWord_157 rfl ?_
                    refine aw_cV3V (c_X5_addWord_27 q124b vD (by rw [pD.1 2 (by decide)]; omega) (by rw [pD.1 1 (by decide)]; omega) (by rw [pD.2 3 (by decide), pD.1 2 (by decide)]; exact hc87)) lk_X4_88 dX4_readWord_158 (by decide) rfl rfl (fun _ => Nat.le_of_ble_eq_true rfl) (fun h158 q158 => ?_)
                    refine aw_iconst dX4_readWord_161 ?_
                    refine aw_zretQ dX4_readWord_162 rfl (by omega) ?_
                    exact qr_yes27 (by rw [if_neg (fun z => hc143 (eS.mp z)), ← s3]) q158
                  · refine aw_aload_n dX4_readWord_146 rfl ?_
                    refine aw_cV0I (c_X4_stepBack_27 (q' := d.2) q124b vS ⟨fun j hj => (pUp_j d.2 hj).symm, fun c hc => (pUp_c d.2 hc).symm⟩ (pUp_0 d.2)) lk_X4_81 dX4_readWord_147 (by decide) rfl rfl (fun _ => Nat.le_of_ble_eq_true rfl) (fun v147 h147 q147 => ?_)
                    refine aw_zretQ dX4_readWord_150 rfl (by rw [q147.1]; exact Or.inl rfl) ?_
                    rw [q147.1]; exact qr_no27 (if_pos (eS.mpr hc143)) q147.2
                · refine aw_iconst dX4_readWord_132 ?_
                  refine aw_zretQ dX4_readWord_133 rfl (by omega) ?_
                  exact qr_no27 (if_pos (sN (by omega)).2) (by rw [← (sN (by omega)).1]; exact q124.2)
              · refine aw_iconst dX4_readWord_116 ?_
                refine aw_goto (tgt := 127) dX4_readWord_117 rfl ?_
                refine aw_istore_3 dX4_readWord_127 (by decide) rfl ?_
                refine aw_iload_n dX4_readWord_128 rfl ?_
                refine aw_if_ge (tgt := 134) dX4_readWord_129 rfl (by omega) (fun hc129 => ?_) (fun hc129 => ?_)
                · omega
                · refine aw_iconst dX4_readWord_132 ?_
                  refine aw_zretQ dX4_readWord_133 rfl (by omega) ?_
                  exact qr_no27 (if_pos (by omega)) q108.2
            · refine aw_aload_n dX4_readWord_90 rfl ?_
              refine aw_cV0I (c_X4_stepBack_27 (q' := u) q56b vUU ⟨fun j hj => (pUp_j u hj).symm, fun c hc => (pUp_c u hc).symm⟩ (pUp_0 u)) lk_X4_81 dX4_readWord_91 (by decide) rfl rfl (fun _ => Nat.le_of_ble_eq_true rfl) (fun v91 h91 q91 => ?_)
              refine aw_zretQ dX4_readWord_94 rfl (by rw [q91.1]; exact Or.inl rfl) ?_
              rw [q91.1]; exact qr_no27 (w2N (eF.mpr (Or.inr hc87))) q91.2
        · refine aw_iconst dX4_readWord_64 ?_
          refine aw_zretQ dX4_readWord_65 rfl (by omega) ?_
          exact qr_no27 (w2N (xN (by omega)).2) (by rw [← (xN (by omega)).1]; exact q56.2)
      · refine aw_iconst dX4_readWord_33 ?_
        refine aw_zretQ dX4_readWord_34 rfl (by omega) ?_
        exact qr_no27 (if_neg (by omega)) hR
theorem c_X4_readItem_27 {h0 h : am_H} {t sz c : Int} {f : Int → Int} {q : am_H} (hR : RC27 h0 h t f sz q) (hV : PV sz q) (hp : q 0 0 < sz) (hc : c = f (q 0 0)) (hcr : -128 ≤ c ∧ c < 128) : AMet GC mX4_readItem 5 [am_R 39, am_I c] h (QR27 h0 t f sz (pItem f sz q)) := by
  have hk := pKind_rng c
  have hk1 : pKind 100 = -1 := by decide
  have hk2 : pKind 120 = -1 := by decide
  refine am_start [some (am_R 39), some (am_I c)] rfl rfl (by decide) (Nat.le_of_ble_eq_true rfl) ?_
  rw [pItem, ← hc]
  refine aw_iload_n dX4_readItem_0 rfl ?_
  by_cases hs1_a : c = 100
  · refine aw_top hs1_a ?_
    refine aw_lsw (a := 100) (off := 32) (tgt := 33) dX4_readItem_1 (by decide) rfl rfl rfl ?_
    refine aw_aload_n dX4_readItem_33 rfl ?_
    refine aw_cV0I (c_X4_readDeed_27 hR hV hp) lk_X4_51 dX4_readItem_34 (by decide) rfl rfl (fun _ => Nat.le_of_ble_eq_true rfl) (fun v34 h34 q34 => ?_)
    refine aw_zretQ dX4_readItem_37 rfl (by rw [q34.1]; split <;> omega) ?_
    rw [hs1_a, if_neg (show ¬ (0 : Int) ≤ pKind 100 by rw [hk1]; decide), if_neg (show ¬ (100 : Int) = 120 by decide), if_pos rfl]; exact q34
  by_cases hs1_b : c = 120
  · refine aw_top hs1_b ?_
    refine aw_lsw (a := 120) (off := 27) (tgt := 28) dX4_readItem_1 (by decide) rfl rfl rfl ?_
    refine aw_aload_n dX4_readItem_28 rfl ?_
    refine aw_cV0I (c_X4_readWord_27 hR hV hp) lk_X4_47 dX4_readItem_29 (by decide) rfl rfl (fun _ => Nat.le_of_ble_eq_true rfl) (fun v29 h29 q29 => ?_)
    refine aw_zretQ dX4_readItem_32 rfl (by rw [q29.1]; split <;> omega) ?_
    rw [hs1_b, if_neg (show ¬ (0 : Int) ≤ pKind 120 by rw [hk2]; decide), if_pos rfl]; exact q29
  refine aw_lsw (off := 37) (tgt := 38) dX4_readItem_1 (by omega) rfl (by simp [Op.lookupswitch.offset, Ne.symm hs1_a, hs1_a, Ne.symm hs1_b, hs1_b]) rfl ?_
  refine aw_aload_n dX4_readItem_38 rfl ?_
  refine aw_iload_n dX4_readItem_39 rfl ?_
  refine aw_cS1IF (c_X4_kindOf (by omega)) lk_X4_54 dX4_readItem_40 (by decide) (fun _ => Nat.le_of_ble_eq_true rfl) ?_
  refine aw_cV1I (c_X4_readNode_27 hR hV hp hk) lk_X4_58 dX4_readItem_43 (by decide) rfl rfl (fun _ => Nat.le_of_ble_eq_true rfl) (fun v43 h43 q43 => ?_)
  refine aw_zretQ dX4_readItem_46 rfl (by rw [q43.1]; split <;> omega) ?_
  rw [if_neg (show ¬ c = 120 from hs1_b), if_neg (show ¬ c = 100 from hs1_a)]; exact q43
theorem lp_X4_faultOf_27 {h0 : am_H} {t sz : Int} {f : Int → Int} : ∀ (m : Nat) (i : Int) (h q : am_H), RC27 h0 h t f sz q → PV sz q → 0 ≤ i → i ≤ q 0 0 → sz - q 0 0 < m → pAll f sz = pLoop f sz m (pSkip f sz q) → AW GC mX4_faultOf 6 (am_QI (fun v h' => v = (if (pAll f sz).1 = true then -9 else (pAll f sz).2 0 0) ∧ RC27 h0 h' t f sz (pAll f sz).2)) 35 [some (am_R 39), some (am_R (10 + t)), some (am_I sz), some (am_R 27), some (am_I i)] [] h := by
  intro m
  induction m with
  | zero => intro i h q hR hV h0 h1 h2; have := hV.1; omega
  | succ m ih =>
    intro i h q hR hV hi0 hi1 h2 he
    have hV0 := hV.1
    have e1 := hR.2.2.1.2.1
    have hVS : PV sz (pSkip f sz q) := hV.skip
    have hVS0 := hVS.1
    have hVS1 := hVS.2.1
    have hle := pSkip_0 f (sz := sz) (q := q) hV0.2.1
    obtain ⟨s, hs⟩ : ∃ s, s = pSkip f sz q := ⟨_, rfl⟩
    rw [← hs] at hVS hVS0 hVS1 hle he
    have eL : pLoop f sz (m + 1) s = if sz ≤ s 0 0 then (decide (1 < s 0 1), s) else if (pItem f sz s).1 = true then pLoop f sz m (pSkip f sz (pItem f sz s).2) else (false, (pItem f sz s).2) := rfl
    refine aw_iload dX4_faultOf_35 rfl ?_
    refine aw_aload_n dX4_faultOf_37 rfl ?_
    refine aw_getI (kx := 1) fl_X4_25 dX4_faultOf_38 rfl rfl rfl ?_
    refine aw_icmp_gt (tgt := 89) dX4_faultOf_41 rfl (by omega) (by omega) (fun hc41 => ?_) (fun hc41 => ?_)
    · omega
    · refine aw_aload_n dX4_faultOf_44 rfl ?_
      refine aw_cV0V (c_X4_skipBlanks_27 hR hV) lk_X4_37 dX4_faultOf_45 (by decide) rfl rfl (fun _ => Nat.le_of_ble_eq_true rfl) (fun h45 q45 => ?_)
      rw [← hs] at q45
      refine aw_aload_n dX4_faultOf_48 rfl ?_
      refine aw_getI (kx := 2) fl_X4_29 dX4_faultOf_49 rfl rfl rfl ?_
      refine aw_top q45.2.2.1.2.2.1 ?_
      refine aw_aload_n dX4_faultOf_52 rfl ?_
      refine aw_getI (kx := 1) fl_X4_25 dX4_faultOf_53 rfl rfl rfl ?_
      refine aw_top q45.2.2.1.2.1 ?_
      refine aw_icmp_lt (tgt := 62) dX4_faultOf_56 rfl (by omega) (by omega) (fun hc56 => ?_) (fun hc56 => ?_)
      · refine aw_aload_n dX4_faultOf_62 rfl ?_
        refine aw_aload_n dX4_faultOf_63 rfl ?_
        refine aw_getD (kx := 0) fl_X4_9 dX4_faultOf_64 rfl rfl rfl ?_
        refine aw_topR q45.2.2.1.1 ?_
        refine aw_aload_n dX4_faultOf_67 rfl ?_
        refine aw_getI (kx := 2) fl_X4_29 dX4_faultOf_68 rfl rfl rfl ?_
        refine aw_top q45.2.2.1.2.2.1 ?_
        have hf := q45.2.2.2.1 (s 0 0) (by omega) (by omega)
        have hI := hVS.item (f := f) (by omega)
        refine aw_baload dX4_faultOf_71 (by exact kdT q45.2.1.1 (by have := q45.2.1; omega)) (by decide) (by omega) ?_
        refine aw_cV1I (c_X4_readItem_27 q45 hVS (by omega) hf.1 (by omega)) lk_X4_40 dX4_faultOf_72 (by decide) rfl rfl (fun _ => Nat.le_of_ble_eq_true rfl) (fun v72 h72 q72 => ?_)
        refine aw_top q72.1 ?_
        rw [if_neg (by omega)] at eL
        by_cases hc75 : (pItem f sz s).1 = true
        · rw [if_pos hc75] at eL
          refine aw_top (if_pos hc75) ?_
          refine aw_if_ne (tgt := 83) dX4_faultOf_75 rfl (by omega) (fun hcx => ?_) (fun hcx => by omega)
          refine aw_iinc4 dX4_faultOf_83 (by decide) rfl ?_
          refine aw_goto (tgt := 35) dX4_faultOf_86 rfl ?_
          have h3 := hI.2.2 hc75
          exact ih (i + 1) h72 _ q72.2 hI.1 (by omega) (by omega) (by omega) (by rw [he, eL])
        · rw [if_neg hc75] at eL
          refine aw_top (if_neg hc75) ?_
          refine aw_if_ne (tgt := 83) dX4_faultOf_75 rfl (by omega) (fun hcx => by omega) (fun hcx => ?_)
          refine aw_aload_n dX4_faultOf_78 rfl ?_
          refine aw_getI (kx := 2) fl_X4_29 dX4_faultOf_79 rfl rfl rfl ?_
          refine aw_iretQ dX4_faultOf_82 rfl ?_
          rw [he, eL]
          exact ⟨by rw [if_neg (show ¬ (false : Bool) = true by decide)]; exact q72.2.2.2.1.2.2.1, q72.2⟩
      · refine aw_goto (tgt := 89) dX4_faultOf_59 rfl ?_
        rw [if_pos (by omega)] at eL
        rw [he, eL]
        refine aw_aload_n dX4_faultOf_89 rfl ?_
        refine aw_getD (kx := 3) fl_X4_15 dX4_faultOf_90 rfl rfl rfl ?_
        refine aw_topR q45.2.2.1.2.2.2 ?_
        refine aw_getI (kx := 0) fl_X4_44 dX4_faultOf_93 rfl rfl rfl ?_
        refine aw_top q45.2.2.2.2.1.1 ?_
        refine aw_iconst dX4_faultOf_96 ?_
        refine aw_icmp_ge (tgt := 107) dX4_faultOf_97 rfl (by omega) (by omega) (fun hc97 => ?_) (fun hc97 => ?_)
        · refine aw_bipush (by decide) dX4_faultOf_107 ?_
          refine aw_iretQ dX4_faultOf_109 rfl ?_
          exact ⟨by rw [if_pos (decide_eq_true (by omega))], q45⟩
        · refine aw_aload_n dX4_faultOf_100 rfl ?_
          refine aw_getI (kx := 1) fl_X4_25 dX4_faultOf_101 rfl rfl rfl ?_
          refine aw_top q45.2.2.1.2.1 ?_
          refine aw_goto (tgt := 109) dX4_faultOf_104 rfl ?_
          refine aw_iretQ dX4_faultOf_109 rfl ?_
          exact ⟨by rw [if_neg (by rw [decide_eq_true_eq]; omega)]; show sz = s 0 0; omega, q45⟩
theorem c_X4_faultOf_27 {h : am_H} {t sz : Int} {f : Int → Int} (ht : 0 ≤ t ∧ t ≤ 3) (hz : 0 ≤ sz ∧ sz ≤ 80) (hf : ∀ j : Int, 0 ≤ j → j < 80 → h (10 + t) j = f j ∧ -128 ≤ f j ∧ f j < 128) : AMet GC mX4_faultOf 6 [am_R 39, am_R (10 + t), am_I sz, am_R 27] h (am_QI (fun v h' => v = (if (pAll f sz).1 = true then -9 else (pAll f sz).2 0 0) ∧ RC27 h h' t f sz (pAll f sz).2)) := by
  refine am_start [some (am_R 39), some (am_R (10 + t)), some (am_I sz), some (am_R 27), none] rfl rfl (by decide) (Nat.le_of_ble_eq_true rfl) ?_
  refine aw_aload_n dX4_faultOf_0 rfl ?_
  refine aw_aload_n dX4_faultOf_1 rfl ?_
  refine aw_putD (kx := 0) (Or.inr ⟨_, rfl⟩) fp_X4_9 dX4_faultOf_2 rfl rfl rfl ?_
  refine aw_aload_n dX4_faultOf_5 rfl ?_
  refine aw_iload_n dX4_faultOf_6 rfl ?_
  refine aw_aload_n dX4_faultOf_7 rfl ?_
  first | refine aw_alen0 dX4_faultOf_8 (by exact kdT ht.1 (by omega)) rfl ?_ | refine aw_alen1 dX4_faultOf_8 (by exact kdT ht.1 (by omega)) rfl ?_
  refine aw_cS2IF (c_J9_min (by omega) (by omega)) lk_X4_19 dX4_faultOf_9 (by decide) (fun _ => Nat.le_of_ble_eq_true rfl) ?_
  refine aw_top (b := sz) (by split <;> omega) ?_
  refine aw_putI (kx := 1) fp_X4_25 dX4_faultOf_12 rfl rfl rfl ?_
  refine aw_aload_n dX4_faultOf_15 rfl ?_
  refine aw_iconst dX4_faultOf_16 ?_
  refine aw_putI (kx := 2) fp_X4_29 dX4_faultOf_17 rfl rfl rfl ?_
  refine aw_aload_n dX4_faultOf_20 rfl ?_
  refine aw_aload_n dX4_faultOf_21 rfl ?_
  refine aw_putD (kx := 3) (Or.inl ⟨_, rfl⟩) fp_X4_15 dX4_faultOf_22 rfl rfl rfl ?_
  refine aw_aload_n dX4_faultOf_25 rfl ?_
  refine aw_getD (kx := 3) fl_X4_15 dX4_faultOf_26 rfl rfl rfl ?_
  refine aw_topR (show am_set (am_set (am_set (am_set h 39 0 (10 + t)) 39 1 sz) 39 2 0) 39 3 27 39 3 = 27 from am_set_s _ _ _ _) ?_
  refine aw_cV0VF (c_X5_clear_27) lk_X4_32 dX4_faultOf_29 (by decide) rfl rfl (fun _ => Nat.le_of_ble_eq_true rfl) ?_
  refine aw_iconst dX4_faultOf_32 ?_
  refine aw_istore4 dX4_faultOf_33 (by decide) rfl ?_
  refine lp_X4_faultOf_27 82 0 _ am_0 ⟨fun c a b => ?_, ht, ⟨?_, ?_, ?_, ?_⟩, fun j a b => ?_, ⟨⟨?_, ?_, ?_⟩, fun x a b => absurd b ?_, fun x j w a b => absurd b ?_, fun x a b => absurd b ?_, fun x a b => absurd b ?_⟩⟩ (PV_0 hz) (by omega) (by show (0 : Int) ≤ 0; omega) (by show sz - 0 < _; omega) rfl
  · rw [am_set_c (by omega), am_set_c (by omega), am_set_c (by omega), am_set_c a, am_set_c a, am_set_c a, am_set_c a]
  · simp [am_set_if]
  · simp [am_set_if]
  · simp [am_set_if, am_0]
  · simp [am_set_if]
  · rw [am_set_c (by omega), am_set_c (by omega), am_set_c (by omega), am_set_c (by omega), am_set_c (by omega), am_set_c (by omega), am_set_c (by omega)]; exact hf j a b
  · simp [am_set_if, am_0]
  · simp [am_set_if, am_0]
  · simp [am_set_if, am_0]
  all_goals (show ¬ _ < (0 : Int); omega)
