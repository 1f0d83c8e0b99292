def PQ (g g' : am_H) (b x of : Int) (g2 : am_H) : Prop := AgP g g2 ∧ plT g g2 b x of ∧ ∀ c j : Int, ¬ j = 1536 * x + of → g2 c j = g' c j
theorem lp_X8_findPlan {g g' : am_H} {b x of : Int} (hb : b = 0 ∨ b = 1) (hs : MVs g) (ha : AgP g g') (hx : 0 ≤ x ∧ x < g 0 6) (hof : VS of) (hT : ∀ y : Int, x < y → y < g 0 6 → ∀ o : Int, VS o → plT g g' b y o) : ∀ (i : Nat) (best plan : Int) (x9 x10 x11 : Option am_V), (i : Int) ≤ g 0 15 → (-plC b ≤ best ∧ best ≤ plC b) → (dsL i).foldr (plS g b (fun y o => (plV g b y o).1) x of) (best, plan) = plV g b x of → AW GM mX8_findPlan 5 (am_QV (PQ g g' b x of)) 43 [some (am_R 0), some (am_I x), some (am_I of), some (am_I b), some (am_I (1536 * x + of)), some (am_J best), none, some (am_I plan), some (am_I ((i : Int) - 1)), x9, x10, x11] [] g' := by
  have hnn := hs.1
  have hnd := hs.2.2.1
  have hC : plC b ≤ 42998169600 := by unfold plC; split <;> omega
  have hC0 : b = 0 → plC b = 100 := fun e => by rw [plC, if_pos e]
  have f0 := ha 0 (by decide) (by decide) (by decide)
  have f10 := ha 10 (by decide) (by decide) (by decide)
  have ho1 := hof.1
  have ho2 := hof.2.1
  have hbr := fun o => bhV_rng (b := b) (V := fun y o => (plV g b y o).1) hs hx.1 (fun y o a c => plV_rng hs b 9 y (by omega) c (by omega) o) o
  have fin1 : ∀ (best plan : Int) (x8 : Int) (x9 x10 x11 : Option am_V), (best, plan) = plV g b x of → AW GM mX8_findPlan 5 (am_QV (PQ g g' b x of)) 131 [some (am_R 0), some (am_I x), some (am_I of), some (am_I b), some (am_I (1536 * x + of)), some (am_J best), none, some (am_I plan), some (am_I x8), x9, x10, x11] [] g' := by
    intro best plan x8 x9 x10 x11 hpl
    have fq : ∀ v w : Int, (b = 0 → v = best) → (¬ b = 0 → w = best) → PQ g g' b x of (am_set (am_set (am_set g' 30 (1536 * x + of) v) 31 (1536 * x + of) w) 32 (1536 * x + of) plan) := by
      intro v w hv hw
      refine ⟨fun c a1 a2 a3 => ?_, ⟨fun e => ?_, fun e => ?_, ?_⟩, fun c j hj => ?_⟩
      · rw [am_set_c a3, am_set_c a2, am_set_c a1]; exact ha c a1 a2 a3
      · rw [am_set_c (by decide), am_set_c (by decide), am_set_s, hv e, ← hpl]
      · rw [am_set_c (by decide), am_set_s, hw e, ← hpl]
      · rw [am_set_s, ← hpl]
      · rw [am_set_j hj, am_set_j hj, am_set_j hj]
    refine aw_aload_n dX8_findPlan_131 rfl ?_
    refine aw_getR (kx := 42) fl_X8_103 dX8_findPlan_132 rfl rfl rfl ?_
    refine aw_iload dX8_findPlan_135 rfl ?_
    refine aw_iload_n dX8_findPlan_137 rfl ?_
    refine aw_if_eq (tgt := 151) dX8_findPlan_138 rfl (by omega) (fun hc138 => ?_) (fun hc138 => ?_)
    · refine aw_lload dX8_findPlan_151 rfl ?_
      refine aw_l2i dX8_findPlan_153 ?_
      refine aw_iastore dX8_findPlan_154 rfl (by decide) (by omega) ?_
      refine aw_aload_n dX8_findPlan_155 rfl ?_
      refine aw_getR (kx := 43) fl_X8_106 dX8_findPlan_156 rfl rfl rfl ?_
      refine aw_iload dX8_findPlan_159 rfl ?_
      refine aw_iload_n dX8_findPlan_161 rfl ?_
      refine aw_if_eq (tgt := 170) dX8_findPlan_162 rfl (by omega) (fun hc162 => ?_) (fun hc162 => ?_)
      · refine aw_aload_n dX8_findPlan_170 rfl ?_
        refine aw_getR (kx := 43) fl_X8_106 dX8_findPlan_171 rfl rfl rfl ?_
        refine aw_iload dX8_findPlan_174 rfl ?_
        refine aw_laload dX8_findPlan_176 rfl (by decide) (by omega) ?_
        refine aw_lastore dX8_findPlan_177 rfl (by decide) (by omega) ?_
        refine aw_aload_n dX8_findPlan_178 rfl ?_
        refine aw_getR (kx := 44) fl_X8_109 dX8_findPlan_179 rfl rfl rfl ?_
        refine aw_iload dX8_findPlan_182 rfl ?_
        refine aw_iload dX8_findPlan_184 rfl ?_
        refine aw_iastore dX8_findPlan_186 rfl (by decide) (by omega) ?_
        refine aw_vretQ dX8_findPlan_187 rfl ?_
        exact fq _ _ (fun _ => rfl) (fun e => absurd (by omega) e)
      · exfalso; omega
    · refine aw_aload_n dX8_findPlan_141 rfl ?_
      refine aw_getR (kx := 42) fl_X8_103 dX8_findPlan_142 rfl rfl rfl ?_
      refine aw_iload dX8_findPlan_145 rfl ?_
      refine aw_iaload dX8_findPlan_147 rfl (by decide) (by omega) ?_
      refine aw_goto (tgt := 154) dX8_findPlan_148 rfl ?_
      refine aw_iastore dX8_findPlan_154 rfl (by decide) (by omega) ?_
      refine aw_aload_n dX8_findPlan_155 rfl ?_
      refine aw_getR (kx := 43) fl_X8_106 dX8_findPlan_156 rfl rfl rfl ?_
      refine aw_iload dX8_findPlan_159 rfl ?_
      refine aw_iload_n dX8_findPlan_161 rfl ?_
      refine aw_if_eq (tgt := 170) dX8_findPlan_162 rfl (by omega) (fun hc162 => ?_) (fun hc162 => ?_)
      · exfalso; omega
      · refine aw_lload dX8_findPlan_165 rfl ?_
        refine aw_goto (tgt := 177) dX8_findPlan_167 rfl ?_
        refine aw_lastore dX8_findPlan_177 rfl (by decide) (by omega) ?_
        refine aw_aload_n dX8_findPlan_178 rfl ?_
        refine aw_getR (kx := 44) fl_X8_109 dX8_findPlan_179 rfl rfl rfl ?_
        refine aw_iload dX8_findPlan_182 rfl ?_
        refine aw_iload dX8_findPlan_184 rfl ?_
        refine aw_iastore dX8_findPlan_186 rfl (by decide) (by omega) ?_
        refine aw_vretQ dX8_findPlan_187 rfl ?_
        exact fq _ _ (fun e => by omega) (fun _ => rfl)
  intro i
  induction i with
  | zero =>
    intro best plan x9 x10 x11 h1 h2 h3
    refine aw_iload dX8_findPlan_43 rfl ?_
    refine aw_if_lt (tgt := 131) dX8_findPlan_45 rfl (by omega) (fun hc45 => ?_) (fun hc45 => ?_)
    · exact fin1 _ _ _ _ _ _ h3
    · omega
  | succ i ih =>
    intro best plan x9 x10 x11 h1 h2 h3
    have ei : ((i + 1 : Nat) : Int) - 1 = (i : Int) := by omega
    refine aw_ls (by rw [ei]) ?_
    have f10i : g' 10 i = g 10 i := by rw [f10]
    have hd2 := hs.2.2.2.2.2.2.2.1 i (by omega) (by omega)
    have hbi := hbr (bgw (g 10 i) of i)
    have h4 : (dsL i).foldr (plS g b (fun y o => (plV g b y o).1) x of) (plS g b (fun y o => (plV g b y o).1) x of i (best, plan)) = plV g b x of := by
      rw [← h3]; unfold dsL; rw [wl_foldr, if_pos rfl]
    have vst : cbg of i → VS (bgw (g 10 i) of i) := fun hc => vs_bgw hof hc ⟨by omega, by omega⟩ (by omega)
    have step : ∀ v : Int, cbg of i → v = bhV g b (fun y o => (plV g b y o).1) x (bgw (g 10 i) of i) → AW GM mX8_findPlan 5 (am_QV (PQ g g' b x of)) 89 [some (am_R 0), some (am_I x), some (am_I of), some (am_I b), some (am_I (1536 * x + of)), some (am_J best), none, some (am_I plan), some (am_I i), some (am_I (bgw (g 10 i) of i)), x10, x11] [am_J v] g' := by
      intro v hc hv
      unfold plS at h4
      rw [if_pos hc, ← hv] at h4
      rw [← hv] at hbi
      refine aw_lstore10 dX8_findPlan_89 (by decide) rfl ?_
      refine aw_lload dX8_findPlan_91 rfl ?_
      refine aw_lload dX8_findPlan_93 rfl ?_
      refine aw_lif_lt (tgt := 104) dX8_findPlan_95 dX8_findPlan_96 rfl (by omega) (by omega) (fun hc95 => ?_) (fun hc95 => ?_)
      · refine aw_iload dX8_findPlan_104 rfl ?_
        refine aw_istore7 dX8_findPlan_106 (by decide) rfl ?_
        refine aw_lload dX8_findPlan_108 rfl ?_
        refine aw_lload dX8_findPlan_110 rfl ?_
        refine aw_lif_le (tgt := 121) dX8_findPlan_112 dX8_findPlan_113 rfl (by omega) (by omega) (fun hc112 => ?_) (fun hc112 => ?_)
        · refine aw_lload dX8_findPlan_121 rfl ?_
          refine aw_lstore5 dX8_findPlan_123 (by decide) rfl ?_
          refine aw_iinc8 dX8_findPlan_125 (by decide) rfl ?_
          refine aw_goto (tgt := 43) dX8_findPlan_128 rfl ?_
          exact ih _ _ _ _ _ (by omega) h2 (by rw [if_neg (by omega), if_neg (by omega)] at h4; exact h4)
        · omega
      · refine aw_iload dX8_findPlan_99 rfl ?_
        refine aw_goto (tgt := 106) dX8_findPlan_101 rfl ?_
        refine aw_istore7 dX8_findPlan_106 (by decide) rfl ?_
        refine aw_lload dX8_findPlan_108 rfl ?_
        refine aw_lload dX8_findPlan_110 rfl ?_
        refine aw_lif_le (tgt := 121) dX8_findPlan_112 dX8_findPlan_113 rfl (by omega) (by omega) (fun hc112 => ?_) (fun hc112 => ?_)
        · refine aw_lload dX8_findPlan_121 rfl ?_
          refine aw_lstore5 dX8_findPlan_123 (by decide) rfl ?_
          refine aw_iinc8 dX8_findPlan_125 (by decide) rfl ?_
          refine aw_goto (tgt := 43) dX8_findPlan_128 rfl ?_
          exact ih _ _ _ _ _ (by omega) h2 (by rw [if_neg (by omega), if_pos (by omega)] at h4; exact h4)
        · refine aw_lload dX8_findPlan_116 rfl ?_
          refine aw_goto (tgt := 123) dX8_findPlan_118 rfl ?_
          refine aw_lstore5 dX8_findPlan_123 (by decide) rfl ?_
          refine aw_iinc8 dX8_findPlan_125 (by decide) rfl ?_
          refine aw_goto (tgt := 43) dX8_findPlan_128 rfl ?_
          exact ih _ _ _ _ _ (by omega) hbi (by rw [if_pos (by omega), if_pos (by omega)] at h4; exact h4)
    refine aw_iload dX8_findPlan_43 rfl ?_
    refine aw_if_lt (tgt := 131) dX8_findPlan_45 rfl (by omega) (fun hc45 => ?_) (fun hc45 => ?_)
    · omega
    · refine aw_aload_n dX8_findPlan_48 rfl ?_
      refine aw_iload_n dX8_findPlan_49 rfl ?_
      refine aw_iload dX8_findPlan_50 rfl ?_
      refine aw_cV2IF (c_X8_canBegin) lk_X8_281 dX8_findPlan_52 (by decide) rfl rfl (fun _ => Nat.le_of_ble_eq_true rfl) ?_
      refine aw_ifb_eq (tgt := 125) dX8_findPlan_55 rfl (fun hc55 => ?_) (fun hc55 => ?_)
      · refine aw_iinc8 dX8_findPlan_125 (by decide) rfl ?_
        refine aw_goto (tgt := 43) dX8_findPlan_128 rfl ?_
        exact ih _ _ _ _ _ (by omega) h2 (by unfold plS at h4; rw [if_neg hc55] at h4; exact h4)
      · refine aw_aload_n dX8_findPlan_58 rfl ?_
        refine aw_iload_n dX8_findPlan_59 rfl ?_
        refine aw_iload dX8_findPlan_60 rfl ?_
        refine aw_cV2IF (c_X8_begunWith (by omega)) lk_X8_284 dX8_findPlan_62 (by decide) rfl rfl (fun _ => Nat.le_of_ble_eq_true rfl) ?_
        rw [f10]
        refine aw_istore9 dX8_findPlan_65 (by decide) rfl ?_
        refine aw_iload_n dX8_findPlan_67 rfl ?_
        refine aw_if_eq (tgt := 81) dX8_findPlan_68 rfl (by omega) (fun hc68 => ?_) (fun hc68 => ?_)
        · refine aw_aload_n dX8_findPlan_81 rfl ?_
          refine aw_iload_n dX8_findPlan_82 rfl ?_
          refine aw_iload dX8_findPlan_83 rfl ?_
          refine aw_cV2IF (bh_least hc68 hs ha hx (vst hc55) hT) lk_X8_315 dX8_findPlan_85 (by decide) rfl rfl (fun _ => Nat.le_of_ble_eq_true rfl) ?_
          refine aw_i2l (by omega) dX8_findPlan_88 ?_
          exact step _ hc55 rfl
        · refine aw_aload_n dX8_findPlan_71 rfl ?_
          refine aw_iload_n dX8_findPlan_72 rfl ?_
          refine aw_iload dX8_findPlan_73 rfl ?_
          refine aw_cV2JF (bh_mean hc68 hs ha hx (vst hc55) hT) lk_X8_311 dX8_findPlan_75 (by decide) rfl rfl (fun _ => Nat.le_of_ble_eq_true rfl) ?_
          refine aw_goto (tgt := 89) dX8_findPlan_78 rfl ?_
          exact step _ hc55 rfl
theorem c_X8_findPlan {g g' : am_H} {b x of : Int} (hb : b = 0 ∨ b = 1) (hs : MVs g) (ha : AgP g g') (hx : 0 ≤ x ∧ x < g 0 6) (hof : VS of) (hT : ∀ y : Int, x < y → y < g 0 6 → ∀ o : Int, VS o → plT g g' b y o) (hdg : ¬ dgF g x = 0) : AMet GM mX8_findPlan 5 [am_R 0, am_I x, am_I of, am_I b] g' (am_QV (PQ g g' b x of)) := by
  have hnn := hs.1
  have hnd := hs.2.2.1
  have ho1 := hof.1
  have ho2 := hof.2.1
  have f0 := ha 0 (by decide) (by decide) (by decide)
  have hbr := fun o => bhV_rng (b := b) (V := fun y o => (plV g b y o).1) hs hx.1 (fun y o a c => plV_rng hs b 9 y (by omega) c (by omega) o) o
  have hC0 : b = 0 → plC b = 100 := fun e => by rw [plC, if_pos e]
  have hbo := hbr of
  have e : plV g b x of = (dsL (g 0 15).toNat).foldr (plS g b (fun y o => (plV g b y o).1) x of) (bhV g b (fun y o => (plV g b y o).1) x of, -9) := by
    rw [plV_eq hs b hx.1 hx.2, FP, if_neg hdg]
  have ed : g' 0 15 = ((g 0 15).toNat : Nat) := by rw [f0]; omega
  have go : ∀ v : Int, v = bhV g b (fun y o => (plV g b y o).1) x of → AW GM mX8_findPlan 5 (am_QV (PQ g g' b x of)) 29 [some (am_R 0), some (am_I x), some (am_I of), some (am_I b), some (am_I (1536 * x + of)), none, none, none, none, none, none, none] [am_J v] g' := by
    intro v hv
    subst hv
    refine aw_lstore5 dX8_findPlan_29 (by decide) rfl ?_
    refine aw_bipush (by decide) dX8_findPlan_31 ?_
    refine aw_istore7 dX8_findPlan_33 (by decide) rfl ?_
    refine aw_aload_n dX8_findPlan_35 rfl ?_
    refine aw_getI (kx := 15) fl_X8_213 dX8_findPlan_36 rfl rfl rfl ?_
    refine aw_top ed ?_
    refine aw_iconst dX8_findPlan_39 ?_
    refine aw_isub dX8_findPlan_40 ?_
    refine aw_istore8 dX8_findPlan_41 (by decide) rfl ?_
    exact lp_X8_findPlan hb hs ha hx hof hT _ _ _ _ _ _ (by omega) (hbr of) e.symm
  refine am_start [some (am_R 0), some (am_I x), some (am_I of), some (am_I b), none, none, none, none, none, none, none, none] rfl rfl (by decide) (Nat.le_of_ble_eq_true rfl) ?_
  refine aw_sipush (by decide) dX8_findPlan_0 ?_
  refine aw_iload_n dX8_findPlan_3 rfl ?_
  refine aw_imul dX8_findPlan_4 ?_
  refine aw_iload_n dX8_findPlan_5 rfl ?_
  refine aw_iadd dX8_findPlan_6 ?_
  refine aw_istore4 dX8_findPlan_7 (by decide) rfl ?_
  refine aw_iload_n dX8_findPlan_9 rfl ?_
  refine aw_if_eq (tgt := 22) dX8_findPlan_10 rfl (by omega) (fun hc10 => ?_) (fun hc10 => ?_)
  · refine aw_aload_n dX8_findPlan_22 rfl ?_
    refine aw_iload_n dX8_findPlan_23 rfl ?_
    refine aw_iload_n dX8_findPlan_24 rfl ?_
    refine aw_cV2IF (bh_least hc10 hs ha hx hof hT) lk_X8_315 dX8_findPlan_25 (by decide) rfl rfl (fun _ => Nat.le_of_ble_eq_true rfl) ?_
    refine aw_i2l (by omega) dX8_findPlan_28 ?_
    exact go _ rfl
  · refine aw_aload_n dX8_findPlan_13 rfl ?_
    refine aw_iload_n dX8_findPlan_14 rfl ?_
    refine aw_iload_n dX8_findPlan_15 rfl ?_
    refine aw_cV2JF (bh_mean hc10 hs ha hx hof hT) lk_X8_311 dX8_findPlan_16 (by decide) rfl rfl (fun _ => Nat.le_of_ble_eq_true rfl) ?_
    refine aw_goto (tgt := 29) dX8_findPlan_19 rfl ?_
    exact go _ rfl
