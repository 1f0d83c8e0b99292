theorem PmA.O {h g : am_H} {V : Int → Int → Int} (a : PmA g V h) : PmO h g (pvD g) V h := ⟨fun _ _ => rfl, a⟩
theorem CRel.pm {hB h' g : am_H} {V : Int → Int → Int} (hC : CRel hB g) (hs : MVs g) (h0 : hB 60 4 = 0 → V = pv0 g) (h1 : hB 60 4 = 1 → V = pv1 g) (hP : PmO hB g (pvD g) V h') : CRel h' g := by
  refine ⟨hC.r.cong (fun c a b => hP.1 c (by omega)) rfl rfl, hC.t.cong (fun c a b => hP.1 c (by omega)) rfl rfl, hC.s.cong hs (fun c a b => hP.1 c (by omega)) (fun c a b => hP.1 c (by omega)) SpE.rfl, hC.y.cong (fun c a b => hP.1 c (by omega)) rfl rfl rfl rfl, hC.k.cong (fun c a b => hP.1 c (by omega)) rfl rfl, hC.f.cong (fun k a b => by rw [hP.1 0 (by decide)]) (hP.1 _ (by decide)) (fun k a b => rfl) rfl, ?_⟩
  have e : h' 60 4 = hB 60 4 := by rw [hP.1 60 (by decide)]
  refine ⟨by rw [e]; exact hC.p.1, fun z => ?_, fun z => ?_⟩
  · rw [e] at z; rw [← h0 z]; exact hP.2
  · rw [e] at z; rw [← h1 z]; exact hP.2
theorem rdy_c {h : am_H} {a c : Int} (h1 : ¬ c = 60) (h2 : ¬ c = 61) : rdyF h a c = h c := by
  unfold rdyF; split
  · rfl
  · rw [am_set_c h1]; unfold fillF; rw [am_up_c h2]
theorem rdy_a {h : am_H} {a : Int} : rdyF h a 60 4 = a := by
  unfold rdyF; split
  · assumption
  · rw [am_set_s]
theorem rdy_m {h : am_H} {a j : Int} (hn : ¬ h 60 4 = a) (hj : 0 ≤ j ∧ j < 5589) : rdyF h a 61 j = -1000000 := by
  unfold rdyF; rw [if_neg hn, am_set_c (by decide)]; unfold fillF; rw [am_up_s, if_pos (by omega)]
theorem CRel.rdy {h g : am_H} {a : Int} {V : Int → Int → Int} (hC : CRel h g) (hV : MOK g) (ha : (a = 0 ∧ V = pv0 g) ∨ (a = 1 ∧ V = pv1 g)) : CRel (rdyF h a) g ∧ PmA g V (rdyF h a) := by
  have hnn := hV.s.1
  have hm : PmA g V (rdyF h a) := by
    by_cases e : h 60 4 = a
    · have er : rdyF h a = h := by unfold rdyF; rw [if_pos e]
      rw [er]
      rcases ha with ⟨e1, e2⟩ | ⟨e1, e2⟩
      · rw [e2]; exact hC.p.2.1 (by omega)
      · rw [e2]; exact hC.p.2.2 (by omega)
    · intro x of hx hof
      have hi := (cv_ix hof).1
      have hx1 : 0 ≤ x ∧ x < g 0 6 := hx
      left
      exact rdy_m e (by omega)
  refine ⟨⟨hC.r.cong (fun c a b => rdy_c (by omega) (by omega)) rfl rfl, hC.t.cong (fun c a b => rdy_c (by omega) (by omega)) rfl rfl, hC.s.cong hV.s (fun c a b => rdy_c (by omega) (by omega)) (fun c a b => rdy_c (by omega) (by omega)) SpE.rfl, hC.y.cong (fun c a b => rdy_c (by omega) (by omega)) rfl rfl rfl rfl, hC.k.cong (fun c a b => rdy_c (by omega) (by omega)) rfl rfl, hC.f.cong (fun k a b => by rw [rdy_c (by decide) (by decide)]) (rdy_c (by decide) (by decide)) (fun k a b => rfl) rfl, ?_⟩, hm⟩
  refine ⟨by rw [rdy_a]; omega, fun z => ?_, fun z => ?_⟩
  · rw [rdy_a] at z
    rcases ha with ⟨e1, e2⟩ | ⟨e1, e2⟩
    · rw [← e2]; exact hm
    · omega
  · rw [rdy_a] at z
    rcases ha with ⟨e1, e2⟩ | ⟨e1, e2⟩
    · omega
    · rw [← e2]; exact hm
theorem c_X7_worst {h g : am_H} (hC : CRel h g) (hV : MOK g) : AMet GC mX7_worst 41 [am_R 0] h (QC (S_worst g)) := by
  have hn := hC.nn.1
  have hnn := hV.s.1
  have hnow := now_rng hV.s hV.y
  have hpa := hC.p.1
  obtain ⟨C1, P1⟩ := hC.rdy (a := 0) (V := pv0 g) hV (Or.inl ⟨rfl, rfl⟩)
  have est1 : rdyF h 0 68 3 = cv (g 0 19) := C1.y.2.1
  have ea1 : rdyF h 0 60 4 = 0 := rdy_a
  refine am_start [some (am_R 0)] rfl rfl (by decide) (Nat.le_of_ble_eq_true rfl) ?_
  by_cases h0 : g 0 6 = 0
  · refine aw_aload_n dX7_worst_0 rfl ?_
    refine aw_cV0IF (c_X7_isUnspoken (by omega)) lk_X7_230 dX7_worst_1 (by decide) rfl rfl (fun _ => Nat.le_of_ble_eq_true rfl) ?_
    refine aw_ifb_eq (tgt := 10) dX7_worst_4 rfl (fun hc4 => ?_) (fun hc4 => ?_)
    · omega
    · refine aw_bipush (by decide) dX7_worst_7 ?_
      refine aw_iretQ dX7_worst_9 rfl ?_
      rw [S_worst, if_pos h0]; exact ⟨rfl, hC⟩
  · have hO1 := C1.s.2 h0
    have hD : pvD g (nowF g) := ⟨by omega, by omega⟩
    refine aw_aload_n dX7_worst_0 rfl ?_
    refine aw_cV0IF (c_X7_isUnspoken (by omega)) lk_X7_230 dX7_worst_1 (by decide) rfl rfl (fun _ => Nat.le_of_ble_eq_true rfl) ?_
    refine aw_ifb_eq (tgt := 10) dX7_worst_4 rfl (fun hc4 => ?_) (fun hc4 => ?_)
    · refine aw_aload_n dX7_worst_10 rfl ?_
      refine aw_getR (kx := 8) fl_X7_57 dX7_worst_11 rfl rfl rfl ?_
      refine aw_iconst dX7_worst_14 ?_
      refine aw_cV1VF (c_X3_ready hpa (by decide)) lk_X7_294 dX7_worst_15 (by decide) rfl rfl (fun _ => Nat.le_of_ble_eq_true rfl) ?_
      refine aw_aload_n dX7_worst_18 rfl ?_
      refine aw_aload_n dX7_worst_19 rfl ?_
      refine aw_getR (kx := 8) fl_X7_57 dX7_worst_20 rfl rfl rfl ?_
      refine aw_aload_n dX7_worst_23 rfl ?_
      refine aw_cV0IF (c_X7_nodeNow hV.s hV.y C1.s.1 C1.y) lk_X7_197 dX7_worst_24 (by decide) rfl rfl (fun _ => Nat.le_of_ble_eq_true rfl) ?_
      refine aw_aload_n dX7_worst_27 rfl ?_
      refine aw_getR (kx := 10) fl_X7_71 dX7_worst_28 rfl rfl rfl ?_
      refine aw_getI (kx := 3) fl_X7_207 dX7_worst_31 rfl rfl rfl ?_
      refine aw_top est1 ?_
      refine aw_cV2I (c_X3_choice (fs := fun _ => 0) (aim := 0) hV.s C1.s.1 hO1 (pv0_ok hV.s _) ⟨ea1, by decide, by decide⟩ (fun z => absurd z (by decide)) hD hV.d.1 P1.O) lk_X7_298 dX7_worst_34 (by decide) rfl rfl (fun _ => Nat.le_of_ble_eq_true rfl) (fun v34 h34 q34 => ?_)
      have hv34 := pv0_ch hV.s hD q34.1
      have C2 : CRel h34 g := C1.pm hV.s (fun _ => rfl) (fun z => by rw [ea1] at z; exact absurd z (by decide)) q34.2
      have hA : CRel (am_set h34 0 13 v34) (am_set g 0 20 v34) := C2.asked hV.s
      have R2 : SpR (am_set h34 0 13 v34) g := C2.s.1.of (fun c a b => am_set_c (by omega))
      have Y2 : CYr (am_set h34 0 13 v34) g := C2.y.cong (fun c a b => am_set_c (by omega)) rfl rfl rfl rfl
      have O2 : OlR (am_set h34 0 13 v34) g := (C2.s.2 h0).eh hV.s (fun c a b => am_set_c (by omega))
      have ea2 : am_set h34 0 13 v34 60 4 = 0 := by rw [am_set_c (by decide), q34.2.1 60 (by decide)]; exact ea1
      have P2 : PmO (am_set h34 0 13 v34) g (pvD g) (pv0 g) (am_set h34 0 13 v34) := ⟨fun _ _ => rfl, by rw [am_set_c (by decide)]; exact q34.2.2⟩
      refine aw_putI (kx := 13) fp_X7_238 dX7_worst_37 rfl rfl rfl ?_
      refine aw_aload_n dX7_worst_40 rfl ?_
      refine aw_getR (kx := 8) fl_X7_57 dX7_worst_41 rfl rfl rfl ?_
      refine aw_aload_n dX7_worst_44 rfl ?_
      refine aw_cV0IF (c_X7_nodeNow hV.s hV.y R2 Y2) lk_X7_197 dX7_worst_45 (by decide) rfl rfl (fun _ => Nat.le_of_ble_eq_true rfl) ?_
      refine aw_aload_n dX7_worst_48 rfl ?_
      refine aw_getR (kx := 10) fl_X7_71 dX7_worst_49 rfl rfl rfl ?_
      refine aw_getI (kx := 3) fl_X7_207 dX7_worst_52 rfl rfl rfl ?_
      refine aw_top Y2.2.1 ?_
      refine aw_cV2I (c_X3_most (fs := fun _ => 0) (aim := 0) hV.s R2 O2 (pv0_ok hV.s _) ⟨ea2, by decide, by decide⟩ (fun z => absurd z (by decide)) hD hV.d.1 P2) lk_X7_301 dX7_worst_55 (by decide) rfl rfl (fun _ => Nat.le_of_ble_eq_true rfl) (fun v55 h55 q55 => ?_)
      refine aw_iretQ dX7_worst_58 rfl ?_
      rw [S_worst, if_neg h0, ← hv34]
      refine qc_mk q55.1 (hA.pm hV.s.ask (V := pv0 (am_set g 0 20 v34)) (fun _ => rfl) (fun z => by rw [ea2] at z; exact absurd z (by decide)) ?_)
      have es : SpE (am_set g 0 20 v34) g := ⟨fun c a b => am_set_c (by omega), am_set_i (by decide), am_set_i (by decide), am_set_i (by decide)⟩
      rw [pv0_e es]
      exact ⟨q55.2.1, fun x of a b => q55.2.2 x of ⟨a.1, by have := a.2; rw [am_set_i (by decide)] at this; exact this⟩ b⟩
    · omega
theorem c_X7_hopes {h g : am_H} (hC : CRel h g) (hV : MOK g) : AMet GC mX7_hopes 41 [am_R 0] h (QC (S_hopes g)) := by
  have hn := hC.nn.1
  have hnn := hV.s.1
  have hnow := now_rng hV.s hV.y
  have hpa := hC.p.1
  obtain ⟨C1, P1⟩ := hC.rdy (a := 1) (V := pv1 g) hV (Or.inr ⟨rfl, rfl⟩)
  have est1 : rdyF h 1 68 3 = cv (g 0 19) := C1.y.2.1
  have ea1 : rdyF h 1 60 4 = 1 := rdy_a
  have hlt := ltP_rng hV.s (x := nowF g) (by omega)
  refine am_start [some (am_R 0), none] rfl rfl (by decide) (Nat.le_of_ble_eq_true rfl) ?_
  by_cases h0 : g 0 6 = 0
  · refine aw_aload_n dX7_hopes_0 rfl ?_
    refine aw_cV0IF (c_X7_isUnspoken (by omega)) lk_X7_230 dX7_hopes_1 (by decide) rfl rfl (fun _ => Nat.le_of_ble_eq_true rfl) ?_
    refine aw_ifb_eq (tgt := 10) dX7_hopes_4 rfl (fun hc4 => ?_) (fun hc4 => ?_)
    · omega
    · refine aw_bipush (by decide) dX7_hopes_7 ?_
      refine aw_iretQ dX7_hopes_9 rfl ?_
      rw [S_hopes, if_pos h0]; exact ⟨rfl, hC⟩
  · have hO1 := C1.s.2 h0
    have hD : pvD g (nowF g) := ⟨by omega, by omega⟩
    have hpe := pv1_eq hV.s 9 (nowF g) hD.1 hD.2 (by omega) (g 0 19) hV.d.1
    have hpr := (pv1_ok hV.s (fun _ => 0)).2.2.2.2.1 (nowF g) (g 0 19) hD hV.d.1
    generalize hw1 : pv1 g (nowF g) (g 0 19) = w1 at hpe hpr
    refine aw_aload_n dX7_hopes_0 rfl ?_
    refine aw_cV0IF (c_X7_isUnspoken (by omega)) lk_X7_230 dX7_hopes_1 (by decide) rfl rfl (fun _ => Nat.le_of_ble_eq_true rfl) ?_
    refine aw_ifb_eq (tgt := 10) dX7_hopes_4 rfl (fun hc4 => ?_) (fun hc4 => ?_)
    · refine aw_aload_n dX7_hopes_10 rfl ?_
      refine aw_cV0IF (c_X7_nodeNow hV.s hV.y hC.s.1 hC.y) lk_X7_197 dX7_hopes_11 (by decide) rfl rfl (fun _ => Nat.le_of_ble_eq_true rfl) ?_
      refine aw_istore_1 dX7_hopes_14 (by decide) rfl ?_
      refine aw_aload_n dX7_hopes_15 rfl ?_
      refine aw_getR (kx := 8) fl_X7_57 dX7_hopes_16 rfl rfl rfl ?_
      refine aw_iconst dX7_hopes_19 ?_
      refine aw_cV1VF (c_X3_ready hpa (by decide)) lk_X7_294 dX7_hopes_20 (by decide) rfl rfl (fun _ => Nat.le_of_ble_eq_true rfl) ?_
      refine aw_aload_n dX7_hopes_23 rfl ?_
      refine aw_aload_n dX7_hopes_24 rfl ?_
      refine aw_getR (kx := 8) fl_X7_57 dX7_hopes_25 rfl rfl rfl ?_
      refine aw_iload_n dX7_hopes_28 rfl ?_
      refine aw_aload_n dX7_hopes_29 rfl ?_
      refine aw_getR (kx := 10) fl_X7_71 dX7_hopes_30 rfl rfl rfl ?_
      refine aw_getI (kx := 3) fl_X7_207 dX7_hopes_33 rfl rfl rfl ?_
      refine aw_top est1 ?_
      refine aw_cV2I (c_X3_most (fs := fun _ => 0) (aim := 1) hV.s C1.s.1 hO1 (pv1_ok hV.s _) ⟨ea1, by decide, by decide⟩ (fun z => absurd z (by decide)) hD hV.d.1 P1.O) lk_X7_301 dX7_hopes_36 (by decide) rfl rfl (fun _ => Nat.le_of_ble_eq_true rfl) (fun v36 h36 q36 => ?_)
      have hv36 : v36 = w1 := by rw [← hw1]; exact q36.1
      have C2 : CRel h36 g := C1.pm hV.s (fun z => by rw [ea1] at z; exact absurd z (by decide)) (fun _ => rfl) q36.2
      refine aw_i2l (by omega) dX7_hopes_39 ?_
      refine aw_aload_n dX7_hopes_40 rfl ?_
      refine aw_getR (kx := 7) fl_X7_48 dX7_hopes_41 rfl rfl rfl ?_
      refine aw_getR (kx := 7) fl_X7_260 dX7_hopes_44 rfl rfl rfl ?_
      refine aw_iload_n dX7_hopes_47 rfl ?_
      refine aw_iaload dX7_hopes_48 rfl (by decide) (by omega) ?_
      refine aw_top (show h36 58 (nowF g) = ltP g (nowF g) from (C2.s.2 h0).2 _ (by omega) (by omega)) ?_
      refine aw_i2l (by omega) dX7_hopes_49 ?_
      refine aw_cV2VF (c_X7_tellsRatio (by omega) (by omega)) lk_X7_263 dX7_hopes_50 (by decide) rfl rfl (fun _ => Nat.le_of_ble_eq_true rfl) ?_
      have C3 : CRel (ctrF h36 v36 (ltP g (nowF g))) (tpF g (plV g 1 (nowF g) (g 0 19)).1) := C2.ratio hV.s hlt.1 (by rw [hv36]; exact hpe)
      have hx : ∀ c : Int, ¬ c = 0 → ctrF h36 v36 (ltP g (nowF g)) c = h36 c := fun x a => by unfold ctrF; rw [am_set_c a, am_set_c a]
      have es : SpE (tpF g (plV g 1 (nowF g) (g 0 19)).1) g := ⟨fun x a b => by unfold tpF; rw [am_set_c (by omega), am_set_c (by omega)], by unfold tpF; rw [am_set_i (by decide), am_set_i (by decide)], by unfold tpF; rw [am_set_i (by decide), am_set_i (by decide)], by unfold tpF; rw [am_set_i (by decide), am_set_i (by decide)]⟩
      have hs3 : MVs (tpF g (plV g 1 (nowF g) (g 0 19)).1) := hV.s.of3 es.2.1 es.2.2.1 es.2.2.2 es.1
      generalize hc3 : ctrF h36 v36 (ltP g (nowF g)) = h3 at C3 hx ⊢
      have R3 : SpR h3 g := C2.s.1.of (fun c a b => hx c (by omega))
      have O3 : OlR h3 g := (C2.s.2 h0).eh hV.s (fun c a b => hx c (by omega))
      have ea3 : h3 60 4 = 1 := by rw [hx 60 (by decide), q36.2.1 60 (by decide)]; exact ea1
      have est3 : h3 68 3 = cv (g 0 19) := by rw [hx 68 (by decide)]; exact C2.y.2.1
      have P3 : PmO h3 g (pvD g) (pv1 g) h3 := ⟨fun _ _ => rfl, by rw [hx 61 (by decide)]; exact q36.2.2⟩
      refine aw_aload_n dX7_hopes_53 rfl ?_
      refine aw_aload_n dX7_hopes_54 rfl ?_
      refine aw_getR (kx := 8) fl_X7_57 dX7_hopes_55 rfl rfl rfl ?_
      refine aw_iload_n dX7_hopes_58 rfl ?_
      refine aw_aload_n dX7_hopes_59 rfl ?_
      refine aw_getR (kx := 10) fl_X7_71 dX7_hopes_60 rfl rfl rfl ?_
      refine aw_getI (kx := 3) fl_X7_207 dX7_hopes_63 rfl rfl rfl ?_
      refine aw_top est3 ?_
      refine aw_cV2I (c_X3_choice (fs := fun _ => 0) (aim := 1) hV.s R3 O3 (pv1_ok hV.s _) ⟨ea3, by decide, by decide⟩ (fun z => absurd z (by decide)) hD hV.d.1 P3) lk_X7_298 dX7_hopes_66 (by decide) rfl rfl (fun _ => Nat.le_of_ble_eq_true rfl) (fun v66 h66 q66 => ?_)
      refine aw_cV1IF (c_X7_tells) lk_X7_112 dX7_hopes_69 (by decide) rfl rfl (fun _ => Nat.le_of_ble_eq_true rfl) ?_
      refine aw_iretQ dX7_hopes_72 rfl ?_
      have hv66 := pv1_ch hV.s hD hV.d.1 q66.1
      rw [S_hopes, if_neg h0, ← hv66]
      have C4 : CRel h66 (tpF g (plV g 1 (nowF g) (g 0 19)).1) := by
        refine C3.pm hs3 (V := pv1 (tpF g (plV g 1 (nowF g) (g 0 19)).1)) (fun z => by rw [ea3] at z; exact absurd z (by decide)) (fun _ => rfl) ?_
        rw [pv1_e es]
        exact ⟨q66.2.1, fun x of a b => q66.2.2 x of ⟨a.1, by have := a.2; rw [es.2.1] at this; exact this⟩ b⟩
      exact qc_mk rfl (C4.asked hs3)
    · omega
