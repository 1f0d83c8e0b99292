def PlI (g g' : am_H) (b x of : Int) : Prop := AgP g g' ∧ (∀ y : Int, x < y → y < g 0 6 → ∀ o : Int, VS o → plT g g' b y o) ∧ ∀ o : Int, o < of → VS o → plT g g' b x o
theorem plT_mono {g g' g2 : am_H} {b x of y o : Int} (h : plT g g' b y o) (hk : ∀ c j : Int, ¬ j = 1536 * x + of → g2 c j = g' c j) (hne : ¬ 1536 * y + o = 1536 * x + of) : plT g g2 b y o := by
  unfold plT
  rw [hk _ _ hne, hk _ _ hne, hk _ _ hne]
  exact h
theorem PlI.step {g g' g2 : am_H} {b x of : Int} (hof : 0 ≤ of ∧ of < 1536) (hI : PlI g g' b x of) (h : PQ g g' b x of g2) : PlI g g2 b x (of + 1) := by
  refine ⟨h.1, fun y a c o ho => plT_mono (hI.2.1 y a c o ho) h.2.2 (by have := ho.1; have := ho.2.1; omega), fun o a ho => ?_⟩
  by_cases e : o = of
  · subst e; exact h.2.1
  · exact plT_mono (hI.2.2 o (by omega) ho) h.2.2 (by omega)
theorem gain_s30 {h : am_H} {i v x of : Int} : gain (am_set h 30 i v) x of = gain h x of := by
  unfold gain; rw [am_set_c (by decide), am_set_c (by decide), am_set_c (by decide), am_set_c (by decide), am_set_c (by decide), am_set_c (by decide)]
theorem lp_X8_findPlans2 {g : am_H} {b : Int} {Q : Option am_V → am_H → Prop} (hb : b = 0 ∨ b = 1) (hs : MVs g) {x : Int} (hx : 0 ≤ x ∧ x < g 0 6) (K : ∀ (g' : am_H) (x3 x4 : Option am_V), PlI g g' b (x - 1) 0 → AW GM mX8_findPlans 6 Q 101 [some (am_R 0), some (am_I b), some (am_I x), x3, x4] [] g') : ∀ (j : Nat) (of : Int) (g' : am_H) (x4 : Option am_V), 0 ≤ of → of ≤ 1536 → 1536 - of < j → PlI g g' b x of → AW GM mX8_findPlans 6 Q 13 [some (am_R 0), some (am_I b), some (am_I x), some (am_I of), x4] [] g' := by
  have hnn := hs.1
  intro j
  induction j with
  | zero => intro of g' x4 h0 h1 h2; omega
  | succ j ih =>
    intro of g' x4 h0 h1 h2 hI
    have ha := hI.1
    have hvs := ha.vs hs
    have f0 := ha 0 (by decide) (by decide) (by decide)
    have f0n : g' 0 6 = g 0 6 := by rw [f0]
    have edg : dgF g' x = dgF g x := by unfold dgF nwN; rw [f0, ha 7 (by decide) (by decide) (by decide)]
    have egn : gain g' x of = gain g x of := by unfold gain; rw [f0, ha 5 (by decide) (by decide) (by decide), ha 6 (by decide) (by decide) (by decide), ha 12 (by decide) (by decide) (by decide), ha 13 (by decide) (by decide) (by decide), ha 11 (by decide) (by decide) (by decide)]
    have hgr := gain_rng hs x of
    have nxt : ∀ (g2 : am_H) (y4 : Option am_V), of < 1536 → PlI g g2 b x (of + 1) → AW GM mX8_findPlans 6 Q 95 [some (am_R 0), some (am_I b), some (am_I x), some (am_I of), y4] [] g2 := by
      intro g2 y4 hlt hI2
      refine aw_iinc3 dX8_findPlans_95 (by decide) rfl ?_
      refine aw_goto (tgt := 13) dX8_findPlans_98 rfl ?_
      exact ih (of + 1) g2 _ (by omega) (by omega) (by omega) hI2
    have fq : ∀ v w p : Int, v = gain g x of → w = 429981696 * gain g x of → p = -9 → dgF g x = 0 → PQ g g' b x of (am_set (am_set (am_set g' 30 (1536 * x + of) v) 31 (1536 * x + of) w) 32 (1536 * x + of) p) := by
      intro v w p hv hw hp hd0
      have hpl : plV g b x of = (if b = 0 then gain g x of else 429981696 * gain g x of, -9) := by rw [plV_eq hs b hx.1 hx.2, FP, if_pos hd0]
      refine ⟨fun c a1 a2 a3 => ?_, ⟨fun e => ?_, fun e => ?_, ?_⟩, fun c j hj => ?_⟩
      · rw [am_set_c a3, am_set_c a2, am_set_c a1]; exact ha c a1 a2 a3
      · rw [am_set_c (by decide), am_set_c (by decide), am_set_s, hv, hpl]; exact (if_pos e).symm
      · rw [am_set_c (by decide), am_set_s, hw, hpl]; exact (if_neg e).symm
      · rw [am_set_s, hpl, hp]
      · rw [am_set_j hj, am_set_j hj, am_set_j hj]
    refine aw_iload_n dX8_findPlans_13 rfl ?_
    refine aw_sipush (by decide) dX8_findPlans_14 ?_
    refine aw_icmp_ge (tgt := 101) dX8_findPlans_17 rfl (by omega) (by omega) (fun hc17 => ?_) (fun hc17 => ?_)
    · refine K g' _ _ ⟨ha, fun y a c o ho => ?_, fun o a ho => by have := ho.1; omega⟩
      by_cases e : y = x
      · subst e; exact hI.2.2 o (by have := ho.2.1; omega) ho
      · exact hI.2.1 y (by omega) c o ho
    · refine aw_aload_n dX8_findPlans_20 rfl ?_
      refine aw_iload_n dX8_findPlans_21 rfl ?_
      refine aw_cV1IF (c_X8_isState (by omega)) lk_X8_318 dX8_findPlans_22 (by decide) rfl rfl (fun _ => Nat.le_of_ble_eq_true rfl) ?_
      refine aw_ifb_eq (tgt := 95) dX8_findPlans_25 rfl (fun hc25 => ?_) (fun hc25 => ?_)
      · refine nxt _ _ (by omega) ⟨ha, hI.2.1, fun o a ho => ?_⟩
        by_cases e : o = of
        · subst e; exact absurd (vs_b.mp ho) hc25
        · exact hI.2.2 o (by omega) ho
      · refine aw_sipush (by decide) dX8_findPlans_28 ?_
        refine aw_iload_n dX8_findPlans_31 rfl ?_
        refine aw_imul dX8_findPlans_32 ?_
        refine aw_iload_n dX8_findPlans_33 rfl ?_
        refine aw_iadd dX8_findPlans_34 ?_
        refine aw_istore4 dX8_findPlans_35 (by decide) rfl ?_
        refine aw_aload_n dX8_findPlans_37 rfl ?_
        refine aw_iload_n dX8_findPlans_38 rfl ?_
        refine aw_cV1IF (c_X8_isOver hvs (by omega)) lk_X8_225 dX8_findPlans_39 (by decide) rfl rfl (fun _ => Nat.le_of_ble_eq_true rfl) ?_
        refine aw_ifb_eq (tgt := 88) dX8_findPlans_42 rfl (fun hc42 => ?_) (fun hc42 => ?_)
        · refine aw_aload_n dX8_findPlans_88 rfl ?_
          refine aw_iload_n dX8_findPlans_89 rfl ?_
          refine aw_iload_n dX8_findPlans_90 rfl ?_
          refine aw_iload_n dX8_findPlans_91 rfl ?_
          refine aw_cV3V (c_X8_findPlan hb hs ha hx (vs_b.mpr hc25) hI.2.1 (by rw [← edg]; exact hc42)) lk_X8_321 dX8_findPlans_92 (by decide) rfl rfl (fun _ => Nat.le_of_ble_eq_true rfl) (fun h92 q92 => ?_)
          exact nxt _ _ (by omega) (hI.step ⟨h0, by omega⟩ q92)
        · refine aw_aload_n dX8_findPlans_45 rfl ?_
          refine aw_getR (kx := 42) fl_X8_103 dX8_findPlans_46 rfl rfl rfl ?_
          refine aw_iload dX8_findPlans_49 rfl ?_
          refine aw_aload_n dX8_findPlans_51 rfl ?_
          refine aw_iload_n dX8_findPlans_52 rfl ?_
          refine aw_iload_n dX8_findPlans_53 rfl ?_
          refine aw_cV2IF (c_X8_gainOf hvs (by omega)) lk_X8_290 dX8_findPlans_54 (by decide) rfl rfl (fun _ => Nat.le_of_ble_eq_true rfl) ?_
          refine aw_top egn ?_
          have hvs2 : MVs (am_set g' 30 (1536 * x + of) (gain g x of)) := hvs.of (fun k _ => by rw [am_set_c (by decide)]) (fun c a b => by rw [am_set_c (by omega)])
          have egn2 : gain (am_set g' 30 (1536 * x + of) (gain g x of)) x of = gain g x of := by rw [gain_s30, egn]
          have f0n2 : am_set g' 30 (1536 * x + of) (gain g x of) 0 6 = g 0 6 := by rw [am_set_c (by decide)]; exact f0n
          refine aw_iastore dX8_findPlans_57 rfl (by decide) (by omega) ?_
          refine aw_aload_n dX8_findPlans_58 rfl ?_
          refine aw_getR (kx := 43) fl_X8_106 dX8_findPlans_59 rfl rfl rfl ?_
          refine aw_iload dX8_findPlans_62 rfl ?_
          refine aw_ldc2 (n := 429981696) kj_X8_296 rfl dX8_findPlans_64 ?_
          refine aw_aload_n dX8_findPlans_67 rfl ?_
          refine aw_iload_n dX8_findPlans_68 rfl ?_
          refine aw_iload_n dX8_findPlans_69 rfl ?_
          refine aw_cV2IF (c_X8_gainOf hvs2 (by omega)) lk_X8_290 dX8_findPlans_70 (by decide) rfl rfl (fun _ => Nat.le_of_ble_eq_true rfl) ?_
          refine aw_top egn2 ?_
          refine aw_i2l (by omega) dX8_findPlans_73 ?_
          refine aw_lmul dX8_findPlans_74 ?_
          refine aw_lastore dX8_findPlans_75 rfl (by decide) (by omega) ?_
          refine aw_aload_n dX8_findPlans_76 rfl ?_
          refine aw_getR (kx := 44) fl_X8_109 dX8_findPlans_77 rfl rfl rfl ?_
          refine aw_iload dX8_findPlans_80 rfl ?_
          refine aw_bipush (by decide) dX8_findPlans_82 ?_
          refine aw_iastore dX8_findPlans_84 rfl (by decide) (by omega) ?_
          refine aw_goto (tgt := 95) dX8_findPlans_85 rfl ?_
          exact nxt _ _ (by omega) (hI.step ⟨h0, by omega⟩ (fq _ _ _ rfl rfl rfl (by rw [← edg]; exact hc42)))
theorem lp_X8_findPlans1 {g : am_H} {b : Int} (hb : b = 0 ∨ b = 1) (hs : MVs g) : ∀ (j : Nat) (x : Int) (g' : am_H) (x3 x4 : Option am_V), x < g 0 6 → -1 ≤ x → x + 1 < j → PlI g g' b x 0 → AW GM mX8_findPlans 6 (am_QV (fun g2 => PlI g g2 b (-1) 0)) 7 [some (am_R 0), some (am_I b), some (am_I x), x3, x4] [] g' := by
  have hnn := hs.1
  intro j
  induction j with
  | zero => intro x g' x3 x4 h1 h2 h3; omega
  | succ j ih =>
    intro x g' x3 x4 h1 h2 h3 hI
    have K : ∀ (g'' : am_H) (y3 y4 : Option am_V), PlI g g'' b (x - 1) 0 → 0 ≤ x → AW GM mX8_findPlans 6 (am_QV (fun g2 => PlI g g2 b (-1) 0)) 101 [some (am_R 0), some (am_I b), some (am_I x), y3, y4] [] g'' := by
      intro g'' y3 y4 hI2 hx0
      refine aw_iinc2 dX8_findPlans_101 (by decide) rfl ?_
      refine aw_goto (tgt := 7) dX8_findPlans_104 rfl ?_
      exact ih (x - 1) g'' _ _ (by omega) (by omega) (by omega) hI2
    refine aw_iload_n dX8_findPlans_7 rfl ?_
    refine aw_if_lt (tgt := 107) dX8_findPlans_8 rfl (by omega) (fun hc8 => ?_) (fun hc8 => ?_)
    · refine aw_vretQ dX8_findPlans_107 rfl ?_
      exact (show x = -1 by omega) ▸ hI
    · refine aw_iconst dX8_findPlans_11 ?_
      refine aw_istore_3 dX8_findPlans_12 (by decide) rfl ?_
      exact lp_X8_findPlans2 hb hs ⟨by omega, h1⟩ (fun g3 y3 y4 hI3 => K g3 y3 y4 hI3 (by omega)) 1537 0 _ _ (by omega) (by omega) (by omega) hI
theorem c_X8_findPlans {g : am_H} {b : Int} (hb : b = 0 ∨ b = 1) (hs : MVs g) : AMet GM mX8_findPlans 6 [am_R 0, am_I b] g (am_QV (fun g2 => PlI g g2 b (-1) 0)) := by
  have hnn := hs.1
  refine am_start [some (am_R 0), some (am_I b), none, none, none] rfl rfl (by decide) (Nat.le_of_ble_eq_true rfl) ?_
  refine aw_aload_n dX8_findPlans_0 rfl ?_
  refine aw_getI (kx := 6) fl_X8_207 dX8_findPlans_1 rfl rfl rfl ?_
  refine aw_iconst dX8_findPlans_4 ?_
  refine aw_isub dX8_findPlans_5 ?_
  refine aw_istore_2 dX8_findPlans_6 (by decide) rfl ?_
  exact lp_X8_findPlans1 hb hs 11 _ g _ _ (by omega) (by omega) (by omega) ⟨fun c _ _ _ => rfl, fun y a c => by omega, fun o a ho => by have := ho.1; omega⟩
noncomputable def S_worst (g : am_H) : Int × am_H := if g 0 6 = 0 then (-4, g) else ((plV g 0 (nowF g) (g 0 19)).1, am_set g 0 20 (plV g 0 (nowF g) (g 0 19)).2)
theorem AgP.now {g g' : am_H} (h : AgP g g') : nowF g' = nowF g := by unfold nowF; rw [h 0 (by decide) (by decide) (by decide), h 8 (by decide) (by decide) (by decide), h 14 (by decide) (by decide) (by decide)]
theorem c_X8_worst {g : am_H} (hs : MVs g) (hy : MVy g) (hd : VS (g 0 19)) : AMet GM mX8_worst 7 [am_R 0] g (QM (S_worst g)) := by
  have hnn := hs.1
  have hnr := now_rng hs hy
  have hd1 := hd.1
  have hd2 := hd.2.1
  refine am_start [some (am_R 0), none] rfl rfl (by decide) (Nat.le_of_ble_eq_true rfl) ?_
  refine aw_aload_n dX8_worst_0 rfl ?_
  refine aw_getI (kx := 6) fl_X8_207 dX8_worst_1 rfl rfl rfl ?_
  refine aw_if_ne (tgt := 10) dX8_worst_4 rfl (by omega) (fun hc4 => ?_) (fun hc4 => ?_)
  · refine aw_aload_n dX8_worst_10 rfl ?_
    refine aw_iconst dX8_worst_11 ?_
    refine aw_cV1V (c_X8_findPlans (by omega) hs) lk_X8_325 dX8_worst_12 (by decide) rfl rfl (fun _ => Nat.le_of_ble_eq_true rfl) (fun h12 q12 => ?_)
    have hT := q12.2.1 (nowF g) (by omega) (by omega) _ hd
    have e0 : h12 0 = g 0 := q12.1 0 (by decide) (by decide) (by decide)
    refine aw_sipush (by decide) dX8_worst_15 ?_
    refine aw_aload_n dX8_worst_18 rfl ?_
    refine aw_cV0IF (c_X8_whereNow (q12.1.vs hs) (q12.1.vy hy)) lk_X8_274 dX8_worst_19 (by decide) rfl rfl (fun _ => Nat.le_of_ble_eq_true rfl) ?_
    rw [q12.1.now]
    refine aw_imul dX8_worst_22 ?_
    refine aw_aload_n dX8_worst_23 rfl ?_
    refine aw_getI (kx := 19) fl_X8_219 dX8_worst_24 rfl rfl rfl ?_
    rw [e0]
    refine aw_iadd dX8_worst_27 ?_
    refine aw_istore_1 dX8_worst_28 (by decide) rfl ?_
    refine aw_aload_n dX8_worst_29 rfl ?_
    refine aw_aload_n dX8_worst_30 rfl ?_
    refine aw_getR (kx := 42) fl_X8_103 dX8_worst_31 rfl rfl rfl ?_
    refine aw_iload_n dX8_worst_34 rfl ?_
    refine aw_iaload dX8_worst_35 rfl (by decide) (by omega) ?_
    refine aw_aload_n dX8_worst_36 rfl ?_
    refine aw_getR (kx := 44) fl_X8_109 dX8_worst_37 rfl rfl rfl ?_
    refine aw_iload_n dX8_worst_40 rfl ?_
    refine aw_iaload dX8_worst_41 rfl (by decide) (by omega) ?_
    refine aw_cV2IF (c_X8_answer) lk_X8_151 dX8_worst_42 (by decide) rfl rfl (fun _ => Nat.le_of_ble_eq_true rfl) ?_
    refine aw_iretQ dX8_worst_45 rfl ?_
    rw [S_worst, if_neg (by omega), hT.1 rfl, hT.2.2]
    exact ⟨rfl, q12.1.me.set (by omega)⟩
  · refine aw_bipush (by decide) dX8_worst_7 ?_
    refine aw_iretQ dX8_worst_9 rfl ?_
    rw [S_worst, if_pos (by omega)]; exact ⟨rfl, MEq.rf _⟩
noncomputable def S_hopes (g : am_H) : Int × am_H := if g 0 6 = 0 then (-4, g) else (1, am_set (tpF g (plV g 1 (nowF g) (g 0 19)).1) 0 20 (plV g 1 (nowF g) (g 0 19)).2)
theorem c_X8_hopes {g : am_H} (hs : MVs g) (hy : MVy g) (hd : VS (g 0 19)) : AMet GM mX8_hopes 7 [am_R 0] g (QM (S_hopes g)) := by
  have hnn := hs.1
  have hnr := now_rng hs hy
  have hd1 := hd.1
  have hd2 := hd.2.1
  refine am_start [some (am_R 0), none] rfl rfl (by decide) (Nat.le_of_ble_eq_true rfl) ?_
  refine aw_aload_n dX8_hopes_0 rfl ?_
  refine aw_getI (kx := 6) fl_X8_207 dX8_hopes_1 rfl rfl rfl ?_
  refine aw_if_ne (tgt := 10) dX8_hopes_4 rfl (by omega) (fun hc4 => ?_) (fun hc4 => ?_)
  · refine aw_aload_n dX8_hopes_10 rfl ?_
    refine aw_iconst dX8_hopes_11 ?_
    refine aw_cV1V (c_X8_findPlans (by omega) hs) lk_X8_325 dX8_hopes_12 (by decide) rfl rfl (fun _ => Nat.le_of_ble_eq_true rfl) (fun h12 q12 => ?_)
    have hT := q12.2.1 (nowF g) (by omega) (by omega) _ hd
    have e0 : h12 0 = g 0 := q12.1 0 (by decide) (by decide) (by decide)
    have hr := plV_rng hs 1 9 (nowF g) (by omega) (by omega) (by omega) (g 0 19)
    unfold plC at hr
    rw [if_neg (by decide)] at hr
    refine aw_sipush (by decide) dX8_hopes_15 ?_
    refine aw_aload_n dX8_hopes_18 rfl ?_
    refine aw_cV0IF (c_X8_whereNow (q12.1.vs hs) (q12.1.vy hy)) lk_X8_274 dX8_hopes_19 (by decide) rfl rfl (fun _ => Nat.le_of_ble_eq_true rfl) ?_
    rw [q12.1.now]
    refine aw_imul dX8_hopes_22 ?_
    refine aw_aload_n dX8_hopes_23 rfl ?_
    refine aw_getI (kx := 19) fl_X8_219 dX8_hopes_24 rfl rfl rfl ?_
    rw [e0]
    refine aw_iadd dX8_hopes_27 ?_
    refine aw_istore_1 dX8_hopes_28 (by decide) rfl ?_
    refine aw_aload_n dX8_hopes_29 rfl ?_
    refine aw_aload_n dX8_hopes_30 rfl ?_
    refine aw_getR (kx := 43) fl_X8_106 dX8_hopes_31 rfl rfl rfl ?_
    refine aw_iload_n dX8_hopes_34 rfl ?_
    refine aw_laload dX8_hopes_35 rfl (by decide) (by omega) ?_
    refine aw_topJ (hT.2.1 (by decide)) ?_
    refine aw_cV1VF (c_X8_tellPart (by omega)) lk_X8_305 dX8_hopes_36 (by decide) rfl rfl (fun _ => Nat.le_of_ble_eq_true rfl) ?_
    refine aw_aload_n dX8_hopes_39 rfl ?_
    refine aw_iconst dX8_hopes_40 ?_
    refine aw_aload_n dX8_hopes_41 rfl ?_
    refine aw_getR (kx := 44) fl_X8_109 dX8_hopes_42 rfl rfl rfl ?_
    refine aw_iload_n dX8_hopes_45 rfl ?_
    refine aw_iaload dX8_hopes_46 rfl (by decide) (by omega) ?_
    refine aw_top (show tpF h12 (plV g 1 (nowF g) (g 0 19)).1 32 (1536 * nowF g + g 0 19) = (plV g 1 (nowF g) (g 0 19)).2 by unfold tpF; rw [am_set_c (by decide), am_set_c (by decide)]; exact hT.2.2) ?_
    refine aw_cV2IF (c_X8_answer) lk_X8_151 dX8_hopes_47 (by decide) rfl rfl (fun _ => Nat.le_of_ble_eq_true rfl) ?_
    refine aw_iretQ dX8_hopes_50 rfl ?_
    rw [S_hopes, if_neg (by omega)]
    refine ⟨rfl, MEq.set (by omega) ?_⟩
    unfold tpF
    exact (q12.1.me.set (by omega)).set (by omega)
  · refine aw_bipush (by decide) dX8_hopes_7 ?_
    refine aw_iretQ dX8_hopes_9 rfl ?_
    rw [S_hopes, if_pos (by omega)]; exact ⟨rfl, MEq.rf _⟩
