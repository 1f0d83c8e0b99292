theorem br_vs {g : am_H} (hV : MOK g) {r : Int} (h0 : ¬ g 0 6 = 0) {n : Nat} (hen : 0 ≤ rwE g r n) : ∀ i : Nat, i ≤ n → VS (brF g r i)
  | 0, _ => hV.d.1
  | i + 1, h => by
    have ih := br_vs hV h0 hen i (by omega)
    have h1 := rwE_rng hV.s hV.y h0 r i
    exact brS_vs hV.s (rwE_ok (n := n) (by omega) hen).1 h1.2 ih
theorem lp_X7_brings {g : am_H} {r x2 : Int} (hV : MOK g) (hr : 0 ≤ r ∧ r ≤ 5) (h0 : ¬ g 0 6 = 0) (hz : 0 ≤ g 1 r ∧ g 1 r ≤ 8) (hen : 0 ≤ rwN g r) : ∀ (m i : Nat) (h : am_H) (x6 : Option am_V), (i : Int) ≤ g 1 r → g 1 r - i < m → CRel h g → h 60 4 = 0 → AW GC mX7_brings 41 (QC (1, am_set g 0 20 (gain g (rwN g r) (brF g r (g 1 r).toNat)))) 51 [some (am_R 0), some (am_I r), some (am_I x2), some (am_I (rwE g r i)), some (am_I (cv (brF g r i))), some (am_I i), x6] [] h := by
  have hnn := hV.s.1
  have hww := hV.s.2.1
  have hdd := hV.s.2.2.1
  intro m
  induction m with
  | zero => intro i h x6 h1 h2; omega
  | succ m ih =>
    intro i h x6 h1 h2 hC ha
    have hz2 := hC.r.2 r hr.1 hr.2
    have hrg := rwE_rng hV.s hV.y h0 r i
    have hvs := br_vs hV h0 (r := r) (n := (g 1 r).toNat) hen i (by omega)
    by_cases hi : (i : Int) < g 1 r
    · obtain ⟨k1, k2, k3, k4⟩ := rwE_ok (g := g) (r := r) (i := i) (n := (g 1 r).toNat) (by omega) hen
      have hD : pvD g (rwE g r i) := ⟨k1, hrg.2⟩
      have hpl := plan_ok hV.s 0 k1 hrg.2 (brF g r i)
      have ebr : brF g r (i + 1) = brS g (rwE g r i) (brF g r i) := rfl
      have hkr := (hV.s.2.2.2.1 (rwE g r i) k1 hrg.2).1
      unfold brS at ebr
      refine aw_iload dX7_brings_51 rfl ?_
      refine aw_aload_n dX7_brings_53 rfl ?_
      refine aw_getR (kx := 1) fl_X7_14 dX7_brings_54 rfl rfl rfl ?_
      refine aw_iload_n dX7_brings_57 rfl ?_
      refine aw_iaload dX7_brings_58 rfl (by decide) (by omega) ?_
      refine aw_icmp_ge (tgt := 138) dX7_brings_59 rfl (by omega) (by omega) (fun hc59 => ?_) (fun hc59 => ?_)
      · omega
      · refine aw_aload_n dX7_brings_62 rfl ?_
        refine aw_getR (kx := 8) fl_X7_57 dX7_brings_63 rfl rfl rfl ?_
        refine aw_iload_n dX7_brings_66 rfl ?_
        refine aw_iload dX7_brings_67 rfl ?_
        refine aw_cV2I (c_X3_choice (fs := fun _ => 0) (aim := 0) hV.s hC.s.1 (hC.s.2 h0) (pv0_ok hV.s _) ⟨ha, by decide, by decide⟩ (fun z => absurd z (by decide)) hD hvs (hC.p.2.1 ha).O) lk_X7_298 dX7_brings_69 (by decide) rfl rfl (fun _ => Nat.le_of_ble_eq_true rfl) (fun v69 h69 q69 => ?_)
        have hv69 := pv0_ch hV.s hD q69.1
        have C2 : CRel h69 g := hC.pm hV.s (fun _ => rfl) (fun z => by rw [ha] at z; exact absurd z (by decide)) q69.2
        have ha2 : h69 60 4 = 0 := by rw [q69.2.1 60 (by decide)]; exact ha
        rw [← hv69] at ebr hpl
        have hsp := C2.s.1.2.1 (rwE g r i) k1 hrg.2
        have hwd := C2.s.1.2.2.2.1 (g 2 (40 * r + i)) k2.1 (by omega)
        have er := C2.r.1 r i hr.1 hr.2 (by omega) (by omega)
        refine aw_istore6 dX7_brings_72 (by decide) rfl ?_
        refine aw_iload dX7_brings_74 rfl ?_
        refine aw_if_lt (tgt := 98) dX7_brings_76 rfl (by rcases hpl with q | ⟨q, _⟩ <;> omega) (fun hc76 => ?_) (fun hc76 => ?_)
        · refine aw_iload dX7_brings_98 rfl ?_
          refine aw_aload_n dX7_brings_100 rfl ?_
          refine aw_getR (kx := 4) fl_X7_29 dX7_brings_101 rfl rfl rfl ?_
          refine aw_getR (kx := 3) fl_X7_309 dX7_brings_104 rfl rfl rfl ?_
          refine aw_iload_n dX7_brings_107 rfl ?_
          refine aw_iaload dX7_brings_108 rfl (by decide) (by omega) ?_
          refine aw_top hsp.1 ?_
          refine aw_cS2IF (c_X0_afterWord hkr) lk_X7_312 dX7_brings_109 (by decide) (fun _ => Nat.le_of_ble_eq_true rfl) ?_
          refine aw_top (cv_aft hvs) ?_
          refine aw_istore4 dX7_brings_112 (by decide) rfl ?_
          refine aw_aload_n dX7_brings_114 rfl ?_
          refine aw_getR (kx := 4) fl_X7_29 dX7_brings_115 rfl rfl rfl ?_
          refine aw_getR (kx := 8) fl_X7_204 dX7_brings_118 rfl rfl rfl ?_
          refine aw_aload_n dX7_brings_121 rfl ?_
          refine aw_getR (kx := 0) fl_X7_11 dX7_brings_122 rfl rfl rfl ?_
          refine aw_iload_n dX7_brings_125 rfl ?_
          first | refine aw_aaload4 dX7_brings_126 rfl (by decide) (by omega) ?_ | refine aw_aaload5 dX7_brings_126 rfl (by decide) (by omega) ?_ | refine aw_aaload6 dX7_brings_126 rfl (by decide) (by omega) ?_
          refine aw_iload dX7_brings_127 rfl ?_
          refine aw_iaload dX7_brings_129 (by exact kdR hr.1 (by omega)) (by decide) (by omega) ?_
          refine aw_top er ?_
          refine aw_iaload dX7_brings_130 rfl (by decide) (by omega) ?_
          refine aw_top hwd.2.1 ?_
          refine aw_istore_3 dX7_brings_131 (by decide) rfl ?_
          refine aw_iinc5 dX7_brings_132 (by decide) rfl ?_
          refine aw_goto (tgt := 51) dX7_brings_135 rfl ?_
          rw [if_pos hc76] at ebr
          refine aw_ls ?_ (ih (i + 1) h69 (some (am_I v69)) (by omega) (by omega) C2 ha2); rw [ebr, k4]; rfl
        · have hpl2 : (0 ≤ v69 ∧ v69 < g 0 15) ∧ cbg (brF g r i) v69 := by
            rcases hpl with q | q
            · omega
            · exact q
          have hds := (C2.s.1.2.2.2.2 v69 hpl2.1.1 hpl2.1.2).1
          have hdr := (hV.s.2.2.2.2.2.2.2.1 v69 hpl2.1.1 hpl2.1.2).1
          refine aw_iload dX7_brings_79 rfl ?_
          refine aw_iload dX7_brings_81 rfl ?_
          refine aw_aload_n dX7_brings_83 rfl ?_
          refine aw_getR (kx := 4) fl_X7_29 dX7_brings_84 rfl rfl rfl ?_
          refine aw_getR (kx := 10) fl_X7_221 dX7_brings_87 rfl rfl rfl ?_
          refine aw_iload dX7_brings_90 rfl ?_
          refine aw_iaload dX7_brings_92 rfl (by decide) (by omega) ?_
          refine aw_top hds ?_
          refine aw_cS3IF (c_X0_with) lk_X7_223 dX7_brings_93 (by decide) (fun _ => Nat.le_of_ble_eq_true rfl) ?_
          refine aw_top (cv_wth hvs hpl2.2 ⟨hpl2.1.1, by omega⟩ hdr) ?_
          refine aw_istore4 dX7_brings_96 (by decide) rfl ?_
          refine aw_iload dX7_brings_98 rfl ?_
          refine aw_aload_n dX7_brings_100 rfl ?_
          refine aw_getR (kx := 4) fl_X7_29 dX7_brings_101 rfl rfl rfl ?_
          refine aw_getR (kx := 3) fl_X7_309 dX7_brings_104 rfl rfl rfl ?_
          refine aw_iload_n dX7_brings_107 rfl ?_
          refine aw_iaload dX7_brings_108 rfl (by decide) (by omega) ?_
          refine aw_top hsp.1 ?_
          refine aw_cS2IF (c_X0_afterWord hkr) lk_X7_312 dX7_brings_109 (by decide) (fun _ => Nat.le_of_ble_eq_true rfl) ?_
          refine aw_top (cv_aft (vs_bgw hvs hpl2.2 ⟨hpl2.1.1, by omega⟩ hdr)) ?_
          refine aw_istore4 dX7_brings_112 (by decide) rfl ?_
          refine aw_aload_n dX7_brings_114 rfl ?_
          refine aw_getR (kx := 4) fl_X7_29 dX7_brings_115 rfl rfl rfl ?_
          refine aw_getR (kx := 8) fl_X7_204 dX7_brings_118 rfl rfl rfl ?_
          refine aw_aload_n dX7_brings_121 rfl ?_
          refine aw_getR (kx := 0) fl_X7_11 dX7_brings_122 rfl rfl rfl ?_
          refine aw_iload_n dX7_brings_125 rfl ?_
          first | refine aw_aaload4 dX7_brings_126 rfl (by decide) (by omega) ?_ | refine aw_aaload5 dX7_brings_126 rfl (by decide) (by omega) ?_ | refine aw_aaload6 dX7_brings_126 rfl (by decide) (by omega) ?_
          refine aw_iload dX7_brings_127 rfl ?_
          refine aw_iaload dX7_brings_129 (by exact kdR hr.1 (by omega)) (by decide) (by omega) ?_
          refine aw_top er ?_
          refine aw_iaload dX7_brings_130 rfl (by decide) (by omega) ?_
          refine aw_top hwd.2.1 ?_
          refine aw_istore_3 dX7_brings_131 (by decide) rfl ?_
          refine aw_iinc5 dX7_brings_132 (by decide) rfl ?_
          refine aw_goto (tgt := 51) dX7_brings_135 rfl ?_
          rw [if_neg hc76] at ebr
          refine aw_ls ?_ (ih (i + 1) h69 (some (am_I v69)) (by omega) (by omega) C2 ha2); rw [ebr, k4]; rfl
    · have e : (g 1 r).toNat = i := by omega
      have en : rwN g r = rwE g r i := by show rwE g r _ = _; rw [e]
      rw [en, e]
      have h9 : 0 ≤ rwE g r i := by rw [← en]; exact hen
      refine aw_iload dX7_brings_51 rfl ?_
      refine aw_aload_n dX7_brings_53 rfl ?_
      refine aw_getR (kx := 1) fl_X7_14 dX7_brings_54 rfl rfl rfl ?_
      refine aw_iload_n dX7_brings_57 rfl ?_
      refine aw_iaload dX7_brings_58 rfl (by decide) (by omega) ?_
      refine aw_icmp_ge (tgt := 138) dX7_brings_59 rfl (by omega) (by omega) (fun hc59 => ?_) (fun hc59 => ?_)
      · refine aw_aload_n dX7_brings_138 rfl ?_
        refine aw_aload_n dX7_brings_139 rfl ?_
        refine aw_getR (kx := 4) fl_X7_29 dX7_brings_140 rfl rfl rfl ?_
        refine aw_iload_n dX7_brings_143 rfl ?_
        refine aw_iload dX7_brings_144 rfl ?_
        refine aw_cV2IF (c_X5_gain hV.s hC.s.1 (by omega) hvs) lk_X7_241 dX7_brings_146 (by decide) rfl rfl (fun _ => Nat.le_of_ble_eq_true rfl) ?_
        refine aw_cV1IF (c_X7_tells) lk_X7_112 dX7_brings_149 (by decide) rfl rfl (fun _ => Nat.le_of_ble_eq_true rfl) ?_
        refine aw_iretQ dX7_brings_152 rfl ?_
        exact qc_mk rfl (hC.asked hV.s)
      · omega
theorem c_X7_brings {h g : am_H} {r : Int} (hC : CRel h g) (hV : MOK g) (hr : -2147483648 ≤ r ∧ r < 2147483648) : AMet GC mX7_brings 41 [am_R 0, am_I r] h (QC (S_brings g r)) := by
  have hrr := srS_rng g r
  have h1 : ¬ (srS g r).1 = 0 → S_brings g r = srS g r := by
    intro z
    unfold srS at z ⊢
    unfold S_brings
    by_cases e : ¬ (0 ≤ r ∧ r ≤ 5)
    · rw [if_pos e, if_pos e]
    · rw [if_neg e] at z
      have := lkR_rng g r
      rw [if_neg e, if_neg e, if_pos (by omega)]
  refine am_start [some (am_R 0), some (am_I r), none, none, none, none, none] rfl rfl (by decide) (Nat.le_of_ble_eq_true rfl) ?_
  refine aw_aload_n dX7_brings_0 rfl ?_
  refine aw_iload_n dX7_brings_1 rfl ?_
  refine aw_cV1I (c_X7_sentenceRefusal hC hV (by omega)) lk_X7_303 dX7_brings_2 (by decide) rfl rfl (fun _ => Nat.le_of_ble_eq_true rfl) (fun v2 h2 q2 => ?_)
  refine aw_istore_2 dX7_brings_5 (by decide) rfl ?_
  refine aw_iload_n dX7_brings_6 rfl ?_
  refine aw_if_eq (tgt := 12) dX7_brings_7 rfl (by omega) (fun hc7 => ?_) (fun hc7 => ?_)
  · obtain ⟨k1, k2, k3, k4, k5⟩ := srS_0 (g := g) (r := r) (by omega)
    have q2c := q2.2
    rw [k5] at q2c
    rw [S_brings, if_neg (by omega), if_neg k2]
    refine aw_aload_n dX7_brings_12 rfl ?_
    refine aw_iload_n dX7_brings_13 rfl ?_
    refine aw_cV1IF (c_X7_isToAnOver q2c hV k1 k3 k4) lk_X7_306 dX7_brings_14 (by decide) rfl rfl (fun _ => Nat.le_of_ble_eq_true rfl) ?_
    refine aw_ifb_ne (tgt := 26) dX7_brings_17 rfl (fun hc17 => ?_) (fun hc17 => ?_)
    · rw [if_neg hc17]
      have hen : 0 ≤ rwN g r := by
        by_cases z : rwN g r < 0
        · exact absurd (Or.inl z) hc17
        · omega
      obtain ⟨C1, P1⟩ := q2c.rdy (a := 0) (V := pv0 g) hV (Or.inl ⟨rfl, rfl⟩)
      refine aw_aload_n dX7_brings_26 rfl ?_
      refine aw_getR (kx := 8) fl_X7_57 dX7_brings_27 rfl rfl rfl ?_
      refine aw_iconst dX7_brings_30 ?_
      refine aw_cV1VF (c_X3_ready q2c.p.1 (by decide)) lk_X7_294 dX7_brings_31 (by decide) rfl rfl (fun _ => Nat.le_of_ble_eq_true rfl) ?_
      refine aw_aload_n dX7_brings_34 rfl ?_
      refine aw_cV0IF (c_X7_nodeNow hV.s hV.y C1.s.1 C1.y) lk_X7_197 dX7_brings_35 (by decide) rfl rfl (fun _ => Nat.le_of_ble_eq_true rfl) ?_
      refine aw_istore_3 dX7_brings_38 (by decide) rfl ?_
      refine aw_aload_n dX7_brings_39 rfl ?_
      refine aw_getR (kx := 10) fl_X7_71 dX7_brings_40 rfl rfl rfl ?_
      refine aw_getI (kx := 3) fl_X7_207 dX7_brings_43 rfl rfl rfl ?_
      refine aw_top C1.y.2.1 ?_
      refine aw_istore4 dX7_brings_46 (by decide) rfl ?_
      refine aw_iconst dX7_brings_48 ?_
      refine aw_istore5 dX7_brings_49 (by decide) rfl ?_
      exact lp_X7_brings hV k1 k3 k4 hen 10 0 _ _ (by omega) (by omega) C1 rdy_a
    · refine aw_aload_n dX7_brings_20 rfl ?_
      refine aw_iconst dX7_brings_21 ?_
      refine aw_cV1IF (c_X7_found (by omega)) lk_X7_100 dX7_brings_22 (by decide) rfl rfl (fun _ => Nat.le_of_ble_eq_true rfl) ?_
      refine aw_iretQ dX7_brings_25 rfl ?_
      rw [if_pos (Decidable.not_not.mp hc17)]; exact qc_mk rfl (q2c.found hV.s (by decide))
  · refine aw_iload_n dX7_brings_10 rfl ?_
    refine aw_iretQ dX7_brings_11 rfl ?_
    rw [h1 (by omega)]; exact q2
theorem lp_X7_knows {g hB : am_H} {r x2 : Int} (hV : MOK g) (hr : 0 ≤ r ∧ r ≤ 5) (h0 : ¬ g 0 6 = 0) (hz : 0 ≤ g 1 r ∧ g 1 r ≤ 8) (hen : 0 ≤ rwN g r) (hov : dgF g (rwN g r) = 0) (hCB : CRel hB g) (ha : hB 60 4 = 2) (hM : ∀ j : Int, 0 ≤ j → j < 5589 → hB 61 j = -1000000) : ∀ (m i : Nat) (h : am_H), (i : Int) ≤ g 1 r → g 1 r - i < m → (∀ c : Int, ¬ c = 62 → h c = hB c) → (∀ j : Nat, j < i → h 62 (rwE g r j) = rwE g r (j + 1)) → AW GC mX7_knows 39 (QC (1, am_set g 0 20 (kbF g r (g 1 r).toNat (g 1 r).toNat (g 0 19)))) 43 [some (am_R 0), some (am_I r), some (am_I x2), some (am_I i)] [] h := by
  have hnn := hV.s.1
  have hww := hV.s.2.1
  have hnow := now_rng hV.s hV.y
  intro m
  induction m with
  | zero => intro i h h1 h2; omega
  | succ m ih =>
    intro i h h1 h2 hc hf
    have hC : CRel h g := hCB.ofX hV.s (fun c a => hc c (by omega))
    have hz2 := hC.r.2 r hr.1 hr.2
    by_cases hi : (i : Int) < g 1 r
    · obtain ⟨k1, k2, k3, k4⟩ := rwE_ok (g := g) (r := r) (i := i) (n := (g 1 r).toNat) (by omega) hen
      have er := hC.r.1 r i hr.1 hr.2 (by omega) (by omega)
      refine aw_iload_n dX7_knows_43 rfl ?_
      refine aw_aload_n dX7_knows_44 rfl ?_
      refine aw_getR (kx := 1) fl_X7_14 dX7_knows_45 rfl rfl rfl ?_
      refine aw_iload_n dX7_knows_48 rfl ?_
      refine aw_iaload dX7_knows_49 rfl (by decide) (by omega) ?_
      refine aw_icmp_ge (tgt := 74) dX7_knows_50 rfl (by omega) (by omega) (fun hc50 => ?_) (fun hc50 => ?_)
      · omega
      · refine aw_aload_n dX7_knows_53 rfl ?_
        refine aw_getR (kx := 8) fl_X7_57 dX7_knows_54 rfl rfl rfl ?_
        refine aw_aload_n dX7_knows_57 rfl ?_
        refine aw_getR (kx := 0) fl_X7_11 dX7_knows_58 rfl rfl rfl ?_
        refine aw_iload_n dX7_knows_61 rfl ?_
        first | refine aw_aaload4 dX7_knows_62 rfl (by decide) (by omega) ?_ | refine aw_aaload5 dX7_knows_62 rfl (by decide) (by omega) ?_ | refine aw_aaload6 dX7_knows_62 rfl (by decide) (by omega) ?_
        refine aw_iload_n dX7_knows_63 rfl ?_
        refine aw_iaload dX7_knows_64 (by exact kdR hr.1 (by omega)) (by decide) (by omega) ?_
        refine aw_top er ?_
        refine aw_cV1VF (c_X3_foresee hV.s hC.s.1 (by omega)) lk_X7_315 dX7_knows_65 (by decide) rfl rfl (fun _ => Nat.le_of_ble_eq_true rfl) ?_
        refine aw_iinc3 dX7_knows_68 (by decide) rfl ?_
        refine aw_goto (tgt := 43) dX7_knows_71 rfl ?_
        refine ih (i + 1) _ (by omega) (by omega) (fun c a => by rw [am_set_c a]; exact hc c a) (fun j hj => ?_)
        rw [k3, ← k4]
        by_cases e : j = i
        · rw [e, am_set_s]
        · have hlt := rw_lt hV.s (r := r) (n := (g 1 r).toNat) hen j (i - j - 1) (by omega)
          rw [show j + (i - j - 1) + 1 = i by omega] at hlt
          rw [am_set_i (by omega)]; exact hf j (by omega)
    · have e : (g 1 r).toNat = i := by omega
      have ha2 : h 60 4 = 2 := by rw [hc 60 (by decide)]; exact ha
      have hD : pvD2 g r (g 1 r).toNat (nowF g) := ⟨0, by omega, rfl⟩
      have hOK := pv2_ok hV.s hV.y (r := r) (n := (g 1 r).toNat) h0 hen hov
      have hfs : (2 : Int) = 2 → ∀ y : Int, pvD2 g r (g 1 r).toNat y → ¬ dgF g y = 0 → h 62 y = fs2 g r (g 1 r).toNat y := by
        rintro _ y ⟨j, hj, rfl⟩ hd
        have hjn : j < (g 1 r).toNat := by
          by_cases q : j = (g 1 r).toNat
          · rw [q] at hd; exact absurd hov hd
          · omega
        rw [fs2_at hV.s hen hj]
        exact hf j (by omega)
      have hP : PmO h g (pvD2 g r (g 1 r).toNat) (pv2 g r (g 1 r).toNat) h := by
        refine ⟨fun _ _ => rfl, fun x of hx hof => Or.inl ?_⟩
        have hxr := hOK.1 x hx
        have hi := (cv_ix hof).1
        rw [hc 61 (by decide)]
        exact hM _ (by omega) (by omega)
      have ev := pv2_at hV.s (r := r) (n := (g 1 r).toNat) hen (i := 0) (by omega) (g 0 19)
      refine aw_iload_n dX7_knows_43 rfl ?_
      refine aw_aload_n dX7_knows_44 rfl ?_
      refine aw_getR (kx := 1) fl_X7_14 dX7_knows_45 rfl rfl rfl ?_
      refine aw_iload_n dX7_knows_48 rfl ?_
      refine aw_iaload dX7_knows_49 rfl (by decide) (by omega) ?_
      refine aw_icmp_ge (tgt := 74) dX7_knows_50 rfl (by omega) (by omega) (fun hc50 => ?_) (fun hc50 => ?_)
      · refine aw_aload_n dX7_knows_74 rfl ?_
        refine aw_aload_n dX7_knows_75 rfl ?_
        refine aw_getR (kx := 8) fl_X7_57 dX7_knows_76 rfl rfl rfl ?_
        refine aw_aload_n dX7_knows_79 rfl ?_
        refine aw_cV0IF (c_X7_nodeNow hV.s hV.y hC.s.1 hC.y) lk_X7_197 dX7_knows_80 (by decide) rfl rfl (fun _ => Nat.le_of_ble_eq_true rfl) ?_
        refine aw_aload_n dX7_knows_83 rfl ?_
        refine aw_getR (kx := 10) fl_X7_71 dX7_knows_84 rfl rfl rfl ?_
        refine aw_getI (kx := 3) fl_X7_207 dX7_knows_87 rfl rfl rfl ?_
        refine aw_top hC.y.2.1 ?_
        refine aw_cV2I (c_X3_most (aim := 2) hV.s hC.s.1 (hC.s.2 h0) hOK ⟨ha2, by decide, by decide⟩ hfs hD hV.d.1 hP) lk_X7_301 dX7_knows_90 (by decide) rfl rfl (fun _ => Nat.le_of_ble_eq_true rfl) (fun v90 h90 q90 => ?_)
        have hv90 : v90 = kbF g r (g 1 r).toNat (g 1 r).toNat (g 0 19) := q90.1.trans ev
        have C2 : CRel h90 g := by
          have hp := q90.2.1
          refine ⟨hC.r.cong (fun c a b => hp c (by omega)) rfl rfl, hC.t.cong (fun c a b => hp c (by omega)) rfl rfl, hC.s.cong hV.s (fun c a b => hp c (by omega)) (fun c a b => hp c (by omega)) SpE.rfl, hC.y.cong (fun c a b => hp c (by omega)) rfl rfl rfl rfl, hC.k.cong (fun c a b => hp c (by omega)) rfl rfl, hC.f.cong (fun k a b => by rw [hp 0 (by decide)]) (hp _ (by decide)) (fun k a b => rfl) rfl, ?_⟩
          have e2 : h90 60 4 = 2 := by rw [hp 60 (by decide)]; exact ha2
          exact ⟨by rw [e2]; decide, fun z => by rw [e2] at z; exact absurd z (by decide), fun z => by rw [e2] at z; exact absurd z (by decide)⟩
        refine aw_cV1IF (c_X7_tells) lk_X7_112 dX7_knows_93 (by decide) rfl rfl (fun _ => Nat.le_of_ble_eq_true rfl) ?_
        refine aw_iretQ dX7_knows_96 rfl ?_
        rw [← hv90]; exact qc_mk rfl (C2.asked hV.s)
      · omega
theorem c_X7_knows {h g : am_H} {r : Int} (hC : CRel h g) (hV : MOK g) (hr : -2147483648 ≤ r ∧ r < 2147483648) : AMet GC mX7_knows 39 [am_R 0, am_I r] h (QC (S_knows g r)) := by
  have hrr := srS_rng g r
  have h1 : ¬ (srS g r).1 = 0 → S_knows g r = srS g r := by
    intro z
    unfold srS at z ⊢
    unfold S_knows
    by_cases e : ¬ (0 ≤ r ∧ r ≤ 5)
    · rw [if_pos e, if_pos e]
    · rw [if_neg e] at z
      have := lkR_rng g r
      rw [if_neg e, if_neg e, if_pos (by omega)]
  refine am_start [some (am_R 0), some (am_I r), none, none] rfl rfl (by decide) (Nat.le_of_ble_eq_true rfl) ?_
  refine aw_aload_n dX7_knows_0 rfl ?_
  refine aw_iload_n dX7_knows_1 rfl ?_
  refine aw_cV1I (c_X7_sentenceRefusal hC hV (by omega)) lk_X7_303 dX7_knows_2 (by decide) rfl rfl (fun _ => Nat.le_of_ble_eq_true rfl) (fun v2 h2 q2 => ?_)
  refine aw_istore_2 dX7_knows_5 (by decide) rfl ?_
  refine aw_iload_n dX7_knows_6 rfl ?_
  refine aw_if_eq (tgt := 12) dX7_knows_7 rfl (by omega) (fun hc7 => ?_) (fun hc7 => ?_)
  · obtain ⟨k1, k2, k3, k4, k5⟩ := srS_0 (g := g) (r := r) (by omega)
    have q2c := q2.2
    rw [k5] at q2c
    rw [S_knows, if_neg (by omega), if_neg k2]
    refine aw_aload_n dX7_knows_12 rfl ?_
    refine aw_iload_n dX7_knows_13 rfl ?_
    refine aw_cV1IF (c_X7_isToAnOver q2c hV k1 k3 k4) lk_X7_306 dX7_knows_14 (by decide) rfl rfl (fun _ => Nat.le_of_ble_eq_true rfl) ?_
    refine aw_ifb_ne (tgt := 26) dX7_knows_17 rfl (fun hc17 => ?_) (fun hc17 => ?_)
    · rw [if_neg hc17]
      have hen : 0 ≤ rwN g r := by
        by_cases z : rwN g r < 0
        · exact absurd (Or.inl z) hc17
        · omega
      have hov : dgF g (rwN g r) = 0 := by
        by_cases z : dgF g (rwN g r) = 0
        · exact z
        · exact absurd (Or.inr z) hc17
      have em : am_set h2 60 4 (-1) 60 4 = -1 := am_set_s _ _ _ _
      refine aw_aload_n dX7_knows_26 rfl ?_
      refine aw_getR (kx := 8) fl_X7_57 dX7_knows_27 rfl rfl rfl ?_
      refine aw_cV0VF c_X3_forget lk_X7_144 dX7_knows_30 (by decide) rfl rfl (fun _ => Nat.le_of_ble_eq_true rfl) ?_
      refine aw_aload_n dX7_knows_33 rfl ?_
      refine aw_getR (kx := 8) fl_X7_57 dX7_knows_34 rfl rfl rfl ?_
      refine aw_iconst dX7_knows_37 ?_
      refine aw_cV1VF (c_X3_ready (by rw [em]; decide) (by decide)) lk_X7_294 dX7_knows_38 (by decide) rfl rfl (fun _ => Nat.le_of_ble_eq_true rfl) ?_
      refine aw_iconst dX7_knows_41 ?_
      refine aw_istore_3 dX7_knows_42 (by decide) rfl ?_
      refine lp_X7_knows hV k1 k3 k4 hen hov ?_ rdy_a (fun j a b => rdy_m (by rw [em]; decide) ⟨a, b⟩) 10 0 _ (by omega) (by omega) (fun _ _ => rfl) (fun j hj => by omega)
      have hh : ∀ c : Int, ¬ c = 60 → ¬ c = 61 → rdyF (am_set h2 60 4 (-1)) 2 c = h2 c := fun c a b => by rw [rdy_c a b, am_set_c a]
      refine ⟨q2c.r.cong (fun c a b => hh c (by omega) (by omega)) rfl rfl, q2c.t.cong (fun c a b => hh c (by omega) (by omega)) rfl rfl, q2c.s.cong hV.s (fun c a b => hh c (by omega) (by omega)) (fun c a b => hh c (by omega) (by omega)) SpE.rfl, q2c.y.cong (fun c a b => hh c (by omega) (by omega)) rfl rfl rfl rfl, q2c.k.cong (fun c a b => hh c (by omega) (by omega)) rfl rfl, q2c.f.cong (fun k a b => by rw [hh 0 (by decide) (by decide)]) (hh _ (by decide) (by decide)) (fun k a b => rfl) rfl, ?_⟩
      exact ⟨by rw [rdy_a]; decide, fun z => by rw [rdy_a] at z; exact absurd z (by decide), fun z => by rw [rdy_a] at z; exact absurd z (by decide)⟩
    · refine aw_aload_n dX7_knows_20 rfl ?_
      refine aw_iconst dX7_knows_21 ?_
      refine aw_cV1IF (c_X7_found (by omega)) lk_X7_100 dX7_knows_22 (by decide) rfl rfl (fun _ => Nat.le_of_ble_eq_true rfl) ?_
      refine aw_iretQ dX7_knows_25 rfl ?_
      rw [if_pos (Decidable.not_not.mp hc17)]; exact qc_mk rfl (q2c.found hV.s (by decide))
  · refine aw_iload_n dX7_knows_10 rfl ?_
    refine aw_iretQ dX7_knows_11 rfl ?_
    rw [h1 (by omega)]; exact q2
