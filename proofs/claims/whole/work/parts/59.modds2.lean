noncomputable def S_odds (g : am_H) (m : Int) : Int × am_H := if ¬ (0 ≤ m ∧ m ≤ 5) then (-1, g) else if g 0 6 = 0 then (-4, g) else (1, tpF g (chn g m (nowF g)))
def OdI (g g' : am_H) (m x : Int) : Prop := (∀ c : Int, ¬ c = 26 → g' c = g c) ∧ ∀ y : Int, x < y → y < g 0 6 → g' 26 y = chn g m y
theorem OdI.vs {g g' : am_H} {m x : Int} (h : OdI g g' m x) (hs : MVs g) : MVs g' := hs.of (fun k _ => by rw [h.1 0 (by decide)]) (fun c a b => h.1 c (by omega))
theorem OdI.vy {g g' : am_H} {m x : Int} (h : OdI g g' m x) (hy : MVy g) : MVy g' := by
  unfold MVy; rw [h.1 0 (by decide), h.1 14 (by decide), h.1 7 (by decide), h.1 8 (by decide)]; exact hy
theorem OdI.me {g g' : am_H} {m x : Int} (h : OdI g g' m x) : MEq g' g := ⟨fun k _ => by rw [h.1 0 (by decide)], fun c hc => h.1 c (by omega)⟩
theorem lp_X8_odds2 {g : am_H} {dl : Nat} {Q : Option am_V → am_H → Prop} (hs : MVs g) {m x n : Int} (hn : n = cntF (g 7) x (nwN g)) (hx : 0 ≤ x ∧ x < g 0 6) (K : ∀ (g' : am_H) (x4 : Int), OdI g g' m (x - 1) → AW GM mX8_odds dl Q 136 [some (am_R 0), some (am_I m), some (am_I x), some (am_I n), some (am_I x4)] [] g') : ∀ (j i : Nat) (g' : am_H), (i : Int) ≤ g 0 10 → g 0 10 - i < j → OdI g g' m x → g' 26 x = (wl (g 7) x i).foldl (fun s k => s + (chn g m (g 8 k)).tdiv n) (chB (g 5) (g 6) m x) → AW GM mX8_odds dl Q 82 [some (am_R 0), some (am_I m), some (am_I x), some (am_I n), some (am_I i)] [] g' := by
  have hw := hs.2.1
  have hnn := hs.1
  have hcr := cntF_rng (g 7) x (nwN g)
  have hnwn : (nwN g : Int) ≤ 14 := by unfold nwN; omega
  intro j
  induction j with
  | zero => intro i g' h1 h2; omega
  | succ j ih =>
    intro i g' h1 h2 hI hse
    have f0 := hI.1 0 (by decide)
    have f7 := hI.1 7 (by decide)
    have f8 := hI.1 8 (by decide)
    have f0w : g' 0 10 = g 0 10 := by rw [f0]
    have f7i : g' 7 i = g 7 i := by rw [f7]
    have f8i : g' 8 i = g 8 i := by rw [f8]
    have hfs := wl_fold (fr := g 7) (x := x) (i := i) (fun s k => s + (chn g m (g 8 k)).tdiv n) (chB (g 5) (g 6) m x)
    have hv := hs.2.2.2.2.1 i (by omega)
    refine aw_iload dX8_odds_82 rfl ?_
    refine aw_aload_n dX8_odds_84 rfl ?_
    refine aw_getI (kx := 10) fl_X8_210 dX8_odds_85 rfl rfl rfl ?_
    refine aw_icmp_ge (tgt := 136) dX8_odds_88 rfl (by omega) (by omega) (fun hc88 => ?_) (fun hc88 => ?_)
    · refine K g' _ ⟨hI.1, fun y a b => ?_⟩
      by_cases e : y = x
      · subst e
        have en : nwN g = i := by unfold nwN; omega
        rw [chn_eq hs m hx.1 hx.2, hse, FC, ← hn, en]
      · exact hI.2 y (by omega) b
    · have hv2 := (hv (by omega)).1
      refine aw_aload_n dX8_odds_91 rfl ?_
      refine aw_getR (kx := 38) fl_X8_90 dX8_odds_92 rfl rfl rfl ?_
      refine aw_iload_n dX8_odds_95 rfl ?_
      refine aw_dup2 dX8_odds_96 ?_
      refine aw_laload dX8_odds_97 rfl (by decide) (by omega) ?_
      refine aw_aload_n dX8_odds_98 rfl ?_
      refine aw_getR (kx := 7) fl_X8_28 dX8_odds_99 rfl rfl rfl ?_
      refine aw_iload dX8_odds_102 rfl ?_
      refine aw_iaload dX8_odds_104 rfl (by decide) (by omega) ?_
      refine aw_iload_n dX8_odds_105 rfl ?_
      refine aw_icmp_ne (tgt := 127) dX8_odds_106 rfl (by omega) (by omega) (fun hc106 => ?_) (fun hc106 => ?_)
      · refine aw_lconst (v := 0) dX8_odds_127 rfl ?_
        refine aw_ladd dX8_odds_128 ?_
        refine aw_lastore dX8_odds_129 rfl (by decide) (by omega) ?_
        refine aw_iinc4 dX8_odds_130 (by decide) rfl ?_
        refine aw_goto (tgt := 82) dX8_odds_133 rfl ?_
        refine ih (i + 1) _ (by omega) (by omega) ⟨fun c a => ?_, fun y a b => ?_⟩ ?_
        · rw [am_set_c a]; exact hI.1 c a
        · rw [am_set_i (by omega)]; exact hI.2 y a b
        · rw [am_set_s, hfs, if_neg (by omega), hse]; omega
      · have hIt := hI.2 (g 8 i) (by omega) hv2.2.2
        have hcn := chn_rng hs m (x := g 8 i) (by omega) hv2.2.2
        have hpos : 0 < n := by
          have hm : (i : Int) ∈ wl (g 7) x (nwN g) := wl_mem.mpr ⟨by omega, by unfold nwN; omega, by omega⟩
          have : ¬ cntF (g 7) x (nwN g) = 0 := fun z => by rw [wl_nil.mpr z] at hm; exact absurd hm List.not_mem_nil
          omega
        refine aw_aload_n dX8_odds_109 rfl ?_
        refine aw_getR (kx := 38) fl_X8_90 dX8_odds_110 rfl rfl rfl ?_
        refine aw_aload_n dX8_odds_113 rfl ?_
        refine aw_getR (kx := 8) fl_X8_31 dX8_odds_114 rfl rfl rfl ?_
        refine aw_iload dX8_odds_117 rfl ?_
        refine aw_iaload dX8_odds_119 rfl (by decide) (by omega) ?_
        refine aw_laload dX8_odds_120 rfl (by decide) (by omega) ?_
        refine aw_topJ (show g' 26 (g' 8 i) = chn g m (g 8 i) by rw [f8i]; exact hIt) ?_
        refine aw_iload_n dX8_odds_121 rfl ?_
        refine aw_i2l (by omega) dX8_odds_122 ?_
        refine aw_ldiv (by omega) (by omega) dX8_odds_123 ?_
        refine aw_goto (tgt := 128) dX8_odds_124 rfl ?_
        refine aw_ladd dX8_odds_128 ?_
        refine aw_lastore dX8_odds_129 rfl (by decide) (by omega) ?_
        refine aw_iinc4 dX8_odds_130 (by decide) rfl ?_
        refine aw_goto (tgt := 82) dX8_odds_133 rfl ?_
        refine ih (i + 1) _ (by omega) (by omega) ⟨fun c a => ?_, fun y a b => ?_⟩ ?_
        · rw [am_set_c a]; exact hI.1 c a
        · rw [am_set_i (by omega)]; exact hI.2 y a b
        · rw [am_set_s, hfs, if_pos (by omega), hse]
theorem lp_X8_odds1 {g : am_H} (hs : MVs g) (hy : MVy g) {m : Int} (hm : 0 ≤ m ∧ m ≤ 5) (h0 : ¬ g 0 6 = 0) : ∀ (j : Nat) (x : Int) (g' : am_H) (x3 x4 : Option am_V), x < g 0 6 → -1 ≤ x → x + 1 < j → OdI g g' m x → AW GM mX8_odds 3 (QM (S_odds g m)) 31 [some (am_R 0), some (am_I m), some (am_I x), x3, x4] [] g' := by
  have hnn := hs.1
  have hnr := now_rng hs hy
  have hw := hs.2.1
  intro j
  induction j with
  | zero => intro x g' x3 x4 h1 h2 h3; omega
  | succ j ih =>
    intro x g' x3 x4 h1 h2 h3 hI
    have hvs := hI.vs hs
    have hvy := hI.vy hy
    have f5 := hI.1 5 (by decide)
    have f6 := hI.1 6 (by decide)
    have f7 := hI.1 7 (by decide)
    have f0 := hI.1 0 (by decide)
    have hk := hs.2.2.2.1 x
    have f5x : g' 5 x = g 5 x := by rw [f5]
    have f6x : g' 6 x = g 6 x := by rw [f6]
    have enw : nwN g' = nwN g := by unfold nwN; rw [f0]
    have h16 := wsN_lt16 (g 7) x (n := nwN g) (by unfold nwN; omega)
    have hpc := wsN_pc (g 7) x (nwN g) (by unfold nwN; omega)
    have enow : nowF g' = nowF g := by unfold nowF; rw [f0, hI.1 8 (by decide), hI.1 14 (by decide)]
    have K : ∀ (g'' : am_H) (n x4' : Int), OdI g g'' m (x - 1) → 0 ≤ x → AW GM mX8_odds 3 (QM (S_odds g m)) 136 [some (am_R 0), some (am_I m), some (am_I x), some (am_I n), some (am_I x4')] [] g'' := by
      intro g'' n x4' hI2 hx0
      refine aw_iinc2 dX8_odds_136 (by decide) rfl ?_
      refine aw_goto (tgt := 31) dX8_odds_139 rfl ?_
      exact ih (x - 1) g'' _ _ (by omega) (by omega) (by omega) hI2
    have fin2 : ∀ (v : Int), 0 ≤ x → v = chB (g 5) (g 6) m x → AW GM mX8_odds 3 (QM (S_odds g m)) 70 [some (am_R 0), some (am_I m), some (am_I x), x3, x4] [] (am_set g' 26 x v) := by
      intro v hx0 hv
      have hvs2 : MVs (am_set g' 26 x v) := hvs.of (fun k _ => by rw [am_set_c (by decide)]) (fun c a b => by rw [am_set_c (by omega)])
      have e7 : am_set g' 26 x v 7 = g 7 := by rw [am_set_c (by decide), f7]
      have e0 : nwN (am_set g' 26 x v) = nwN g := by unfold nwN; rw [am_set_c (by decide), f0]
      refine aw_aload_n dX8_odds_70 rfl ?_
      refine aw_iload_n dX8_odds_71 rfl ?_
      refine aw_cV1IF (c_X8_wordsFrom hvs2 (by omega)) lk_X8_222 dX8_odds_72 (by decide) rfl rfl (fun _ => Nat.le_of_ble_eq_true rfl) ?_
      refine aw_cS1IF (c_X8_ones rfl (by rw [e7, e0]; omega)) lk_X8_256 dX8_odds_75 (by decide) (fun _ => Nat.le_of_ble_eq_true rfl) ?_
      rw [e7, e0]
      refine aw_istore_3 dX8_odds_78 (by decide) rfl ?_
      refine aw_iconst dX8_odds_79 ?_
      refine aw_istore4 dX8_odds_80 (by decide) rfl ?_
      refine lp_X8_odds2 hs hpc ⟨hx0, h1⟩ (fun g3 y4 hI3 => K g3 _ y4 hI3 hx0) 15 0 _ (by omega) (by omega) ⟨fun c a => ?_, fun y a b => ?_⟩ ?_
      · rw [am_set_c a]; exact hI.1 c a
      · rw [am_set_i (by omega)]; exact hI.2 y a b
      · rw [am_set_s, hv]; rfl
    refine aw_iload_n dX8_odds_31 rfl ?_
    refine aw_if_lt (tgt := 142) dX8_odds_32 rfl (by omega) (fun hc32 => ?_) (fun hc32 => ?_)
    · refine aw_aload_n dX8_odds_142 rfl ?_
      refine aw_aload_n dX8_odds_143 rfl ?_
      refine aw_getR (kx := 38) fl_X8_90 dX8_odds_144 rfl rfl rfl ?_
      refine aw_aload_n dX8_odds_147 rfl ?_
      refine aw_cV0IF (c_X8_whereNow hvs hvy) lk_X8_274 dX8_odds_148 (by decide) rfl rfl (fun _ => Nat.le_of_ble_eq_true rfl) ?_
      rw [enow]
      refine aw_laload dX8_odds_151 rfl (by decide) (by omega) ?_
      have hcn := hI.2 (nowF g) (by omega) (by omega)
      have hrg := chn_rng hs m (x := nowF g) (by omega) (by omega)
      refine aw_topJ hcn ?_
      refine aw_cV1VF (c_X8_tellPart (by omega)) lk_X8_305 dX8_odds_152 (by decide) rfl rfl (fun _ => Nat.le_of_ble_eq_true rfl) ?_
      refine aw_iconst dX8_odds_155 ?_
      refine aw_iretQ dX8_odds_156 rfl ?_
      rw [S_odds, if_neg (by omega), if_neg (by omega)]
      exact ⟨rfl, (hI.me.set (by omega)).set (by omega)⟩
    · have hk2 := hk (by omega) (by omega)
      refine aw_aload_n dX8_odds_35 rfl ?_
      refine aw_getR (kx := 38) fl_X8_90 dX8_odds_36 rfl rfl rfl ?_
      refine aw_iload_n dX8_odds_39 rfl ?_
      refine aw_aload_n dX8_odds_40 rfl ?_
      refine aw_getR (kx := 4) fl_X8_22 dX8_odds_41 rfl rfl rfl ?_
      refine aw_iload_n dX8_odds_44 rfl ?_
      refine aw_iaload dX8_odds_45 rfl (by decide) (by omega) ?_
      rw [f5x]
      refine aw_cS1IF (c_X8_isFinal (by omega)) lk_X8_169 dX8_odds_46 (by decide) (fun _ => Nat.le_of_ble_eq_true rfl) ?_
      refine aw_ifb_eq (tgt := 68) dX8_odds_49 rfl (fun hc49 => ?_) (fun hc49 => ?_)
      · refine aw_lconst (v := 0) dX8_odds_68 rfl ?_
        refine aw_lastore dX8_odds_69 rfl (by decide) (by omega) ?_
        exact fin2 _ (by omega) (by rw [chB, if_neg (fun z => hc49 z.1)])
      · refine aw_aload_n dX8_odds_52 rfl ?_
        refine aw_getR (kx := 5) fl_X8_25 dX8_odds_53 rfl rfl rfl ?_
        refine aw_iload_n dX8_odds_56 rfl ?_
        refine aw_iaload dX8_odds_57 rfl (by decide) (by omega) ?_
        refine aw_iload_n dX8_odds_58 rfl ?_
        refine aw_icmp_ne (tgt := 68) dX8_odds_59 rfl (by omega) (by omega) (fun hc59 => ?_) (fun hc59 => ?_)
        · refine aw_lconst (v := 0) dX8_odds_68 rfl ?_
          refine aw_lastore dX8_odds_69 rfl (by decide) (by omega) ?_
          exact fin2 _ (by omega) (by rw [chB, if_neg (fun z => by omega)])
        · refine aw_ldc2 (n := 429981696) kj_X8_296 rfl dX8_odds_62 ?_
          refine aw_goto (tgt := 69) dX8_odds_65 rfl ?_
          refine aw_lastore dX8_odds_69 rfl (by decide) (by omega) ?_
          exact fin2 _ (by omega) (by rw [chB, if_pos ⟨hc49, by omega⟩])
theorem c_X8_odds {g : am_H} {m : Int} (hs : MVs g) (hy : MVy g) (hm : -2147483648 ≤ m ∧ m < 2147483648) : AMet GM mX8_odds 3 [am_R 0, am_I m] g (QM (S_odds g m)) := by
  have hnn := hs.1
  refine am_start [some (am_R 0), some (am_I m), none, none, none] rfl rfl (by decide) (Nat.le_of_ble_eq_true rfl) ?_
  refine aw_iload_n dX8_odds_0 rfl ?_
  refine aw_i2l (by omega) dX8_odds_1 ?_
  refine aw_lconst (v := 0) dX8_odds_2 rfl ?_
  refine aw_ldc2 (n := 5) kj_X8_131 rfl dX8_odds_3 ?_
  refine aw_cS3IF (c_X8_in (by omega) (by omega) (by omega)) lk_X8_133 dX8_odds_6 (by decide) (fun _ => Nat.le_of_ble_eq_true rfl) ?_
  refine aw_ifb_ne (tgt := 14) dX8_odds_9 rfl (fun hc9 => ?_) (fun hc9 => ?_)
  · refine aw_aload_n dX8_odds_14 rfl ?_
    refine aw_getI (kx := 6) fl_X8_207 dX8_odds_15 rfl rfl rfl ?_
    refine aw_if_ne (tgt := 24) dX8_odds_18 rfl (by omega) (fun hc18 => ?_) (fun hc18 => ?_)
    · refine aw_aload_n dX8_odds_24 rfl ?_
      refine aw_getI (kx := 6) fl_X8_207 dX8_odds_25 rfl rfl rfl ?_
      refine aw_iconst dX8_odds_28 ?_
      refine aw_isub dX8_odds_29 ?_
      refine aw_istore_2 dX8_odds_30 (by decide) rfl ?_
      exact lp_X8_odds1 hs hy (by omega) (by omega) 11 _ g _ _ (by omega) (by omega) (by omega) ⟨fun c _ => rfl, fun y a b => by omega⟩
    · refine aw_bipush (by decide) dX8_odds_21 ?_
      refine aw_iretQ dX8_odds_23 rfl ?_
      rw [S_odds, if_neg (by omega), if_pos (by omega)]; exact ⟨rfl, MEq.rf _⟩
  · refine aw_iconst dX8_odds_12 ?_
    refine aw_iretQ dX8_odds_13 rfl ?_
    rw [S_odds, if_pos (by omega)]; exact ⟨rfl, MEq.rf _⟩
