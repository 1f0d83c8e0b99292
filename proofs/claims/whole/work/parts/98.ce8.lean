theorem c_X7_asked {h g : am_H} (hC : CRel h g) : AMet GC mX7_asked 1 [am_R 0] h (QC (g 0 20, g)) := by
  refine am_start [some (am_R 0)] rfl rfl (by decide) (Nat.le_of_ble_eq_true rfl) ?_
  refine aw_aload_n dX7_asked_0 rfl ?_
  refine aw_getI (kx := 13) fl_X7_238 dX7_asked_1 rfl rfl rfl ?_
  refine aw_iretQ dX7_asked_4 rfl ?_
  exact qc_mk hC.f.1.1 hC
theorem c_X7_finding {h g : am_H} (hC : CRel h g) : AMet GC mX7_finding 1 [am_R 0] h (QC (g 0 23, g)) := by
  refine am_start [some (am_R 0)] rfl rfl (by decide) (Nat.le_of_ble_eq_true rfl) ?_
  refine aw_aload_n dX7_finding_0 rfl ?_
  refine aw_getI (kx := 16) fl_X7_365 dX7_finding_1 rfl rfl rfl ?_
  refine aw_iretQ dX7_finding_4 rfl ?_
  exact qc_mk hC.f.1.2.2.2 hC
theorem c_X7_upper {h g : am_H} (hC : CRel h g) : AMet GC mX7_upper 1 [am_R 0] h (QCJ (g 0 21, g)) := by
  refine am_start [some (am_R 0)] rfl rfl (by decide) (Nat.le_of_ble_eq_true rfl) ?_
  refine aw_aload_n dX7_upper_0 rfl ?_
  refine aw_getJ (kx := 14) fl_X7_359 dX7_upper_1 rfl rfl rfl ?_
  refine aw_lretQ dX7_upper_4 rfl ?_
  exact qc_mk hC.f.1.2.1 hC
theorem c_X7_lower {h g : am_H} (hC : CRel h g) : AMet GC mX7_lower 1 [am_R 0] h (QCJ (g 0 22, g)) := by
  refine am_start [some (am_R 0)] rfl rfl (by decide) (Nat.le_of_ble_eq_true rfl) ?_
  refine aw_aload_n dX7_lower_0 rfl ?_
  refine aw_getJ (kx := 15) fl_X7_82 dX7_lower_1 rfl rfl rfl ?_
  refine aw_lretQ dX7_lower_4 rfl ?_
  exact qc_mk hC.f.1.2.2.1 hC
theorem c_X7_findings {h g : am_H} {f : Int} (hC : CRel h g) (hf : -2147483648 ≤ f ∧ f < 2147483648) : AMet GC mX7_findings 1 [am_R 0, am_I f] h (QC (S_findings g f)) := by
  refine am_start [some (am_R 0), some (am_I f)] rfl rfl (by decide) (Nat.le_of_ble_eq_true rfl) ?_
  refine aw_iload_n dX7_findings_0 rfl ?_
  refine aw_iconst dX7_findings_1 ?_
  refine aw_icmp_lt (tgt := 10) dX7_findings_2 rfl (by omega) (by omega) (fun hc2 => ?_) (fun hc2 => ?_)
  · refine aw_iconst dX7_findings_10 ?_
    refine aw_goto (tgt := 20) dX7_findings_11 rfl ?_
    refine aw_iretQ dX7_findings_20 rfl ?_
    rw [S_findings, if_neg (by omega)]; exact qc_mk rfl hC
  · refine aw_iload_n dX7_findings_5 rfl ?_
    refine aw_iconst dX7_findings_6 ?_
    refine aw_icmp_le (tgt := 14) dX7_findings_7 rfl (by omega) (by omega) (fun hc7 => ?_) (fun hc7 => ?_)
    · refine aw_aload_n dX7_findings_14 rfl ?_
      refine aw_getR (kx := 12) fl_X7_79 dX7_findings_15 rfl rfl rfl ?_
      refine aw_iload_n dX7_findings_18 rfl ?_
      refine aw_iaload dX7_findings_19 rfl (by decide) (by omega) ?_
      refine aw_iretQ dX7_findings_20 rfl ?_
      rw [S_findings, if_pos (by omega)]; exact qc_mk (hC.f.2 f (by omega) (by omega)) hC
    · refine aw_iconst dX7_findings_10 ?_
      refine aw_goto (tgt := 20) dX7_findings_11 rfl ?_
      refine aw_iretQ dX7_findings_20 rfl ?_
      rw [S_findings, if_neg (by omega)]; exact qc_mk rfl hC
theorem c_X7_count {h g : am_H} {w : Int} (hC : CRel h g) (hV : MOK g) (hw : -2147483648 ≤ w ∧ w < 2147483648) : AMet GC mX7_count 4 [am_R 0, am_I w] h (QC (cntV g w, g)) := by
  have ho : (w < 0 ∨ 8 < w) → cntV g w = -1 := by
    intro z
    unfold cntV
    rw [if_neg (by omega), if_neg (by omega), if_neg (by omega), if_neg (by omega), if_neg (by omega), if_neg (by omega), if_neg (by omega), if_neg (by omega), if_neg (by omega)]
  refine am_start [some (am_R 0), some (am_I w)] rfl rfl (by decide) (Nat.le_of_ble_eq_true rfl) ?_
  refine aw_iload_n dX7_count_0 rfl ?_
  refine aw_if_lt (tgt := 10) dX7_count_1 rfl (by omega) (fun hc1 => ?_) (fun hc1 => ?_)
  · refine aw_iconst dX7_count_10 ?_
    refine aw_goto (tgt := 19) dX7_count_11 rfl ?_
    refine aw_iretQ dX7_count_19 rfl ?_
    exact qc_mk (ho (by omega)).symm hC
  · refine aw_iload_n dX7_count_4 rfl ?_
    refine aw_bipush (by decide) dX7_count_5 ?_
    refine aw_icmp_le (tgt := 14) dX7_count_7 rfl (by omega) (by omega) (fun hc7 => ?_) (fun hc7 => ?_)
    · refine aw_aload_n dX7_count_14 rfl ?_
      refine aw_iload_n dX7_count_15 rfl ?_
      refine aw_cV1IF (c_X7_counted hC hV (by omega)) lk_X7_362 dX7_count_16 (by decide) rfl rfl (fun _ => Nat.le_of_ble_eq_true rfl) ?_
      refine aw_iretQ dX7_count_19 rfl ?_
      exact qc_mk rfl hC
    · refine aw_iconst dX7_count_10 ?_
      refine aw_goto (tgt := 19) dX7_count_11 rfl ?_
      refine aw_iretQ dX7_count_19 rfl ?_
      exact qc_mk (ho (by omega)).symm hC
/-- hearing and listening, from the class's state to the lines -/
theorem hear_B {h h' g : am_H} {r sl : Int} (hC : CRel h g) (hV : MOK g) (hr : 0 ≤ r ∧ r ≤ 5) (h0 : ¬ g 0 6 = 0) (hz : 0 ≤ g 1 r ∧ g 1 r ≤ 8) (hsl : 0 ≤ sl ∧ sl ≤ 8) (hq : heQ h (h (2 + r)) (g 1 r) sl (-1) h') : CRel h' g ∧ EaB h' g (rsd g r) (g 1 r) sl (-1) := by
  obtain ⟨q0, q1, q2, q3, q4, q5, q6, q7⟩ := hq
  have hC' : CRel h' g := hC.ofX hV.s (fun c a => q0 c (by omega) (by omega))
  refine ⟨hC', hV.s, hV.y, h0, hC'.s.1, ⟨q1, hz⟩, ⟨q2, hsl⟩, ⟨q3, by decide, by decide⟩, fun i a b => ⟨?_, hV.r.2 _⟩⟩
  rw [q7 i a b]; exact hC.r.1 r i hr.1 hr.2 a (by omega)
theorem EaI.C {hB h g : am_H} {sd : Int → Int} {n own : Int} {A : List (List Int)} (hI : EaI hB g sd n own h A) (hC : CRel hB g) (hs : MVs g) : CRel h g := hC.ofX hs (fun c a => hI.1 c (by omega) (by omega) (by omega) (by omega))
theorem c_X7_heard {h g : am_H} {r : Int} (hC : CRel h g) (hV : MOK g) (hr : -2147483648 ≤ r ∧ r < 2147483648) : AMet GC mX7_heard 41 [am_R 0, am_I r] h (QC (S_heard g r)) := by
  have hrr := ssS_rng g r
  have h1 : ¬ (ssS g r).1 = 0 → S_heard g r = ssS g r := by
    intro z
    unfold ssS at z ⊢
    unfold S_heard
    by_cases e : ¬ (0 ≤ r ∧ r ≤ 5)
    · rw [if_pos e, if_pos e]
    · rw [if_neg e] at z
      have := lsR_rng g r
      rw [if_neg e, if_neg e, if_pos (by omega)]
  refine am_start [some (am_R 0), some (am_I r), none] rfl rfl (by decide) (Nat.le_of_ble_eq_true rfl) ?_
  refine aw_aload_n dX7_heard_0 rfl ?_
  refine aw_iload_n dX7_heard_1 rfl ?_
  refine aw_cV1I (c_X7_soundsRefusal hC hV (by omega)) lk_X7_318 dX7_heard_2 (by decide) rfl rfl (fun _ => Nat.le_of_ble_eq_true rfl) (fun v2 h2 q2 => ?_)
  refine aw_istore_2 dX7_heard_5 (by decide) rfl ?_
  refine aw_iload_n dX7_heard_6 rfl ?_
  refine aw_if_eq (tgt := 12) dX7_heard_7 rfl (by omega) (fun hc7 => ?_) (fun hc7 => ?_)
  · obtain ⟨k1, k2, k3, k4, k5, k6⟩ := ssS_0 (g := g) (r := r) (by omega)
    have q2c := q2.2
    rw [k5] at q2c
    rw [S_heard, if_neg (by omega), if_neg k2, hd_ar k4]
    refine aw_aload_n dX7_heard_12 rfl ?_
    refine aw_getR (kx := 9) fl_X7_64 dX7_heard_13 rfl rfl rfl ?_
    refine aw_aload_n dX7_heard_16 rfl ?_
    refine aw_getR (kx := 0) fl_X7_11 dX7_heard_17 rfl rfl rfl ?_
    refine aw_iload_n dX7_heard_20 rfl ?_
    first | refine aw_aaload4 dX7_heard_21 rfl (by decide) (by omega) ?_ | refine aw_aaload5 dX7_heard_21 rfl (by decide) (by omega) ?_ | refine aw_aaload6 dX7_heard_21 rfl (by decide) (by omega) ?_
    refine aw_aload_n dX7_heard_22 rfl ?_
    refine aw_getR (kx := 1) fl_X7_14 dX7_heard_23 rfl rfl rfl ?_
    refine aw_iload_n dX7_heard_26 rfl ?_
    refine aw_iaload dX7_heard_27 rfl (by decide) (by omega) ?_
    refine aw_top (q2c.r.2 r k1.1 k1.2) ?_
    refine aw_iconst dX7_heard_28 ?_
    refine aw_cV3V (c_X1_hear k1 k4) lk_X7_321 dX7_heard_29 (by decide) rfl rfl (fun _ => Nat.le_of_ble_eq_true rfl) (fun h29 q29 => ?_)
    obtain ⟨C29, B29⟩ := hear_B q2c hV k1 k3 k4 (by decide) q29
    refine aw_aload_n dX7_heard_32 rfl ?_
    refine aw_getR (kx := 9) fl_X7_64 dX7_heard_33 rfl rfl rfl ?_
    refine aw_aload_n dX7_heard_36 rfl ?_
    refine aw_cV0IF (c_X7_nodeNow hV.s hV.y C29.s.1 C29.y) lk_X7_197 dX7_heard_37 (by decide) rfl rfl (fun _ => Nat.le_of_ble_eq_true rfl) ?_
    refine aw_cV1V (c_X1_listenFrom B29 q29.2.2.2.2.1 q29.2.2.2.2.2.1 q29.2.2.2.2.2.2.1) lk_X7_325 dX7_heard_40 (by decide) rfl rfl (fun _ => Nat.le_of_ble_eq_true rfl) (fun h40 q40 => ?_)
    have C40 := q40.C C29 hV.s
    obtain ⟨s, s1, s2, s3⟩ := q40.2.2.2.1
    rw [← s3]
    refine aw_aload_n dX7_heard_43 rfl ?_
    refine aw_aload_n dX7_heard_44 rfl ?_
    refine aw_getR (kx := 9) fl_X7_64 dX7_heard_45 rfl rfl rfl ?_
    refine aw_getI (kx := 2) fl_X7_328 dX7_heard_48 rfl rfl rfl ?_
    refine aw_top s2 ?_
    refine aw_putI (kx := 13) fp_X7_238 dX7_heard_51 rfl rfl rfl ?_
    refine aw_aload_n dX7_heard_54 rfl ?_
    refine aw_getR (kx := 9) fl_X7_64 dX7_heard_55 rfl rfl rfl ?_
    refine aw_getI (kx := 1) fl_X7_331 dX7_heard_58 rfl rfl rfl ?_
    refine aw_iretQ dX7_heard_61 rfl ?_
    exact qc_mk (by rw [am_set_c (by decide)]; exact q40.2.2.1) (C40.asked hV.s)
  · refine aw_iload_n dX7_heard_10 rfl ?_
    refine aw_iretQ dX7_heard_11 rfl ?_
    rw [h1 (by omega)]; exact q2
theorem c_X7_slips {h g : am_H} {r : Int} (hC : CRel h g) (hV : MOK g) (hr : -2147483648 ≤ r ∧ r < 2147483648) : AMet GC mX7_slips 41 [am_R 0, am_I r] h (QC (S_slips g r)) := by
  have hrr := ssS_rng g r
  have h1 : ¬ (ssS g r).1 = 0 → S_slips g r = ssS g r := by
    intro z
    unfold ssS at z ⊢
    unfold S_slips
    by_cases e : ¬ (0 ≤ r ∧ r ≤ 5)
    · rw [if_pos e, if_pos e]
    · rw [if_neg e] at z
      have := lsR_rng g r
      rw [if_neg e, if_neg e, if_pos (by omega)]
  refine am_start [some (am_R 0), some (am_I r), none] rfl rfl (by decide) (Nat.le_of_ble_eq_true rfl) ?_
  refine aw_aload_n dX7_slips_0 rfl ?_
  refine aw_iload_n dX7_slips_1 rfl ?_
  refine aw_cV1I (c_X7_soundsRefusal hC hV (by omega)) lk_X7_318 dX7_slips_2 (by decide) rfl rfl (fun _ => Nat.le_of_ble_eq_true rfl) (fun v2 h2 q2 => ?_)
  refine aw_istore_2 dX7_slips_5 (by decide) rfl ?_
  refine aw_iload_n dX7_slips_6 rfl ?_
  refine aw_if_eq (tgt := 12) dX7_slips_7 rfl (by omega) (fun hc7 => ?_) (fun hc7 => ?_)
  · obtain ⟨k1, k2, k3, k4, k5, k6⟩ := ssS_0 (g := g) (r := r) (by omega)
    have q2c := q2.2
    rw [k5] at q2c
    rw [S_slips, if_neg (by omega), if_neg k2, sl_ar k4]
    refine aw_aload_n dX7_slips_12 rfl ?_
    refine aw_getR (kx := 9) fl_X7_64 dX7_slips_13 rfl rfl rfl ?_
    refine aw_aload_n dX7_slips_16 rfl ?_
    refine aw_getR (kx := 0) fl_X7_11 dX7_slips_17 rfl rfl rfl ?_
    refine aw_iload_n dX7_slips_20 rfl ?_
    first | refine aw_aaload4 dX7_slips_21 rfl (by decide) (by omega) ?_ | refine aw_aaload5 dX7_slips_21 rfl (by decide) (by omega) ?_ | refine aw_aaload6 dX7_slips_21 rfl (by decide) (by omega) ?_
    refine aw_aload_n dX7_slips_22 rfl ?_
    refine aw_getR (kx := 1) fl_X7_14 dX7_slips_23 rfl rfl rfl ?_
    refine aw_iload_n dX7_slips_26 rfl ?_
    refine aw_iaload dX7_slips_27 rfl (by decide) (by omega) ?_
    refine aw_top (q2c.r.2 r k1.1 k1.2) ?_
    refine aw_iconst dX7_slips_28 ?_
    refine aw_cV3V (c_X1_hear k1 k4) lk_X7_321 dX7_slips_29 (by decide) rfl rfl (fun _ => Nat.le_of_ble_eq_true rfl) (fun h29 q29 => ?_)
    obtain ⟨C29, B29⟩ := hear_B q2c hV k1 k3 k4 (by decide) q29
    refine aw_aload_n dX7_slips_32 rfl ?_
    refine aw_getR (kx := 9) fl_X7_64 dX7_slips_33 rfl rfl rfl ?_
    refine aw_aload_n dX7_slips_36 rfl ?_
    refine aw_cV0IF (c_X7_nodeNow hV.s hV.y C29.s.1 C29.y) lk_X7_197 dX7_slips_37 (by decide) rfl rfl (fun _ => Nat.le_of_ble_eq_true rfl) ?_
    refine aw_cV1V (c_X1_listenFrom B29 q29.2.2.2.2.1 q29.2.2.2.2.2.1 q29.2.2.2.2.2.2.1) lk_X7_325 dX7_slips_40 (by decide) rfl rfl (fun _ => Nat.le_of_ble_eq_true rfl) (fun h40 q40 => ?_)
    refine aw_aload_n dX7_slips_43 rfl ?_
    refine aw_getR (kx := 9) fl_X7_64 dX7_slips_44 rfl rfl rfl ?_
    refine aw_getI (kx := 1) fl_X7_331 dX7_slips_47 rfl rfl rfl ?_
    refine aw_iretQ dX7_slips_50 rfl ?_
    exact qc_mk q40.2.2.1 (q40.C C29 hV.s)
  · refine aw_iload_n dX7_slips_10 rfl ?_
    refine aw_iretQ dX7_slips_11 rfl ?_
    rw [h1 (by omega)]; exact q2
theorem c_X7_first {h g : am_H} {r to : Int} (hC : CRel h g) (hV : MOK g) (hr : -2147483648 ≤ r ∧ r < 2147483648) (ht : -2147483648 ≤ to ∧ to < 2147483648) : AMet GC mX7_first 41 [am_R 0, am_I r, am_I to] h (QC (S_first g r to)) := by
  have hrr := ssS_rng g r
  have h1 : (0 ≤ to ∧ to ≤ 5) → ¬ (ssS g r).1 = 0 → S_first g r to = ssS g r := by
    intro y z
    unfold ssS at z ⊢
    unfold S_first
    by_cases e : ¬ (0 ≤ r ∧ r ≤ 5)
    · rw [if_pos e, if_pos (Or.inl e)]
    · rw [if_neg e] at z
      have := lsR_rng g r
      rw [if_neg (by omega), if_neg e, if_pos (by omega)]
  refine am_start [some (am_R 0), some (am_I r), some (am_I to), none] rfl rfl (by decide) (Nat.le_of_ble_eq_true rfl) ?_
  refine aw_iload_n dX7_first_0 rfl ?_
  refine aw_cS1IF (c_X7_isNoRow (by omega)) lk_X7_96 dX7_first_1 (by decide) (fun _ => Nat.le_of_ble_eq_true rfl) ?_
  refine aw_ifb_eq (tgt := 9) dX7_first_4 rfl (fun hc4 => ?_) (fun hc4 => ?_)
  · refine aw_aload_n dX7_first_9 rfl ?_
    refine aw_iload_n dX7_first_10 rfl ?_
    refine aw_cV1I (c_X7_soundsRefusal hC hV (by omega)) lk_X7_318 dX7_first_11 (by decide) rfl rfl (fun _ => Nat.le_of_ble_eq_true rfl) (fun v11 h11 q11 => ?_)
    refine aw_istore_3 dX7_first_14 (by decide) rfl ?_
    refine aw_iload_n dX7_first_15 rfl ?_
    refine aw_if_eq (tgt := 21) dX7_first_16 rfl (by omega) (fun hc16 => ?_) (fun hc16 => ?_)
    · obtain ⟨k1, k2, k3, k4, k5, k6⟩ := ssS_0 (g := g) (r := r) (by omega)
      have q11c := q11.2
      rw [k5] at q11c
      rw [S_first, if_neg (by omega), if_neg k2, fs_ar k4]
      refine aw_aload_n dX7_first_21 rfl ?_
      refine aw_getR (kx := 9) fl_X7_64 dX7_first_22 rfl rfl rfl ?_
      refine aw_aload_n dX7_first_25 rfl ?_
      refine aw_getR (kx := 0) fl_X7_11 dX7_first_26 rfl rfl rfl ?_
      refine aw_iload_n dX7_first_29 rfl ?_
      first | refine aw_aaload4 dX7_first_30 rfl (by decide) (by omega) ?_ | refine aw_aaload5 dX7_first_30 rfl (by decide) (by omega) ?_ | refine aw_aaload6 dX7_first_30 rfl (by decide) (by omega) ?_
      refine aw_aload_n dX7_first_31 rfl ?_
      refine aw_getR (kx := 1) fl_X7_14 dX7_first_32 rfl rfl rfl ?_
      refine aw_iload_n dX7_first_35 rfl ?_
      refine aw_iaload dX7_first_36 rfl (by decide) (by omega) ?_
      refine aw_top (q11c.r.2 r k1.1 k1.2) ?_
      refine aw_iconst dX7_first_37 ?_
      refine aw_cV3V (c_X1_hear k1 k4) lk_X7_321 dX7_first_38 (by decide) rfl rfl (fun _ => Nat.le_of_ble_eq_true rfl) (fun h38 q38 => ?_)
      obtain ⟨C38, B38⟩ := hear_B q11c hV k1 k3 k4 (by decide) q38
      refine aw_aload_n dX7_first_41 rfl ?_
      refine aw_getR (kx := 9) fl_X7_64 dX7_first_42 rfl rfl rfl ?_
      refine aw_aload_n dX7_first_45 rfl ?_
      refine aw_cV0IF (c_X7_nodeNow hV.s hV.y C38.s.1 C38.y) lk_X7_197 dX7_first_46 (by decide) rfl rfl (fun _ => Nat.le_of_ble_eq_true rfl) ?_
      refine aw_cV1V (c_X1_listenFrom B38 q38.2.2.2.2.1 q38.2.2.2.2.2.1 q38.2.2.2.2.2.2.1) lk_X7_325 dX7_first_49 (by decide) rfl rfl (fun _ => Nat.le_of_ble_eq_true rfl) (fun h49 q49 => ?_)
      have C49 := q49.C C38 hV.s
      have hlen := arL_len (sd := rsd g r) (n := g 1 r) (sl := 0) hV.s hV.y k3 (g 1 r).toNat [] trivial (by show ((0 : Nat) : Int) + _ = _; omega)
      have h256 := ltP_256 hV.s (liE g [])
      have e0 : h49 63 0 = g 1 r := by rw [q49.2.1 0 (by decide) (by decide) (by decide)]; exact q38.2.1
      have ec := q49.2.2.1
      have eh := q49.2.2.2.2.1
      generalize arL g (rsd g r) (g 1 r) 0 (g 1 r).toNat [] = A at hlen ec eh ⊢
      refine aw_aload_n dX7_first_52 rfl ?_
      refine aw_getR (kx := 9) fl_X7_64 dX7_first_53 rfl rfl rfl ?_
      refine aw_getI (kx := 1) fl_X7_331 dX7_first_56 rfl rfl rfl ?_
      refine aw_if_ne (tgt := 67) dX7_first_59 rfl (by omega) (fun hc59 => ?_) (fun hc59 => ?_)
      · refine aw_aload_n dX7_first_67 rfl ?_
        refine aw_iload_n dX7_first_68 rfl ?_
        refine aw_aload_n dX7_first_69 rfl ?_
        refine aw_getR (kx := 9) fl_X7_64 dX7_first_70 rfl rfl rfl ?_
        refine aw_getR (kx := 3) fl_X7_332 dX7_first_73 rfl rfl rfl ?_
        refine aw_aload_n dX7_first_76 rfl ?_
        refine aw_getR (kx := 9) fl_X7_64 dX7_first_77 rfl rfl rfl ?_
        refine aw_getI (kx := 0) fl_X7_335 dX7_first_80 rfl rfl rfl ?_
        refine aw_top e0 ?_
        refine aw_cV3I (c_X7_fill (c := 64) (by omega) rfl (by decide) k4) lk_X7_247 dX7_first_83 (by decide) rfl rfl (fun _ => Nat.le_of_ble_eq_true rfl) (fun v83 h83 q83 => ?_)
        refine aw_iretQ dX7_first_86 rfl ?_
        cases A with
        | nil => exact absurd ec (by show ¬ _ = ((0 : Nat) : Int); omega)
        | cons P A =>
          exact qc_mk q83.1 (C49.fl hV.s (by omega) k4 q83.2 (fun i a b => eh P rfl i a b))
      · refine aw_bipush (by decide) dX7_first_62 ?_
        refine aw_goto (tgt := 86) dX7_first_64 rfl ?_
        refine aw_iretQ dX7_first_86 rfl ?_
        have hA : A = [] := List.length_eq_zero_iff.mp (by omega)
        rw [hA]; exact qc_mk rfl C49
    · refine aw_iload_n dX7_first_19 rfl ?_
      refine aw_iretQ dX7_first_20 rfl ?_
      rw [h1 (by omega) (by omega)]; exact q11
  · refine aw_iconst dX7_first_7 ?_
    refine aw_iretQ dX7_first_8 rfl ?_
    rw [S_first, if_pos (by omega)]; exact qc_mk rfl hC
theorem c_X7_least {h g : am_H} {r : Int} (hC : CRel h g) (hV : MOK g) (hr : -2147483648 ≤ r ∧ r < 2147483648) : AMet GC mX7_least 41 [am_R 0, am_I r] h (QC (S_least g r)) := by
  have hnn := hV.s.1
  have hww := hV.s.2.1
  have hrr := srS_rng g r
  have h1 : ¬ (srS g r).1 = 0 → S_least g r = srS g r := by
    intro z
    unfold srS at z ⊢
    unfold S_least
    by_cases e : ¬ (0 ≤ r ∧ r ≤ 5)
    · rw [if_pos e, if_pos e]
    · rw [if_neg e] at z
      have := lkR_rng g r
      rw [if_neg e, if_neg e, if_pos (by omega)]
  refine am_start [some (am_R 0), some (am_I r), none, none, none] rfl rfl (by decide) (Nat.le_of_ble_eq_true rfl) ?_
  refine aw_aload_n dX7_least_0 rfl ?_
  refine aw_iload_n dX7_least_1 rfl ?_
  refine aw_cV1I (c_X7_sentenceRefusal hC hV (by omega)) lk_X7_303 dX7_least_2 (by decide) rfl rfl (fun _ => Nat.le_of_ble_eq_true rfl) (fun v2 h2 q2 => ?_)
  refine aw_istore_2 dX7_least_5 (by decide) rfl ?_
  refine aw_iload_n dX7_least_6 rfl ?_
  refine aw_if_eq (tgt := 12) dX7_least_7 rfl (by omega) (fun hc7 => ?_) (fun hc7 => ?_)
  · obtain ⟨k1, k2, k3, k4, k5⟩ := srS_0 (g := g) (r := r) (by omega)
    have q2c := q2.2
    rw [k5] at q2c
    have hrg : -9 ≤ rwN g r ∧ rwN g r < g 0 6 := rwE_rng hV.s hV.y k3 r (g 1 r).toNat
    rw [S_least, if_neg (by omega), if_neg k2]
    refine aw_aload_n dX7_least_12 rfl ?_
    refine aw_iload_n dX7_least_13 rfl ?_
    refine aw_cV1IF (c_X7_nodeBehind q2c hV k1 k3 k4) lk_X7_338 dX7_least_14 (by decide) rfl rfl (fun _ => Nat.le_of_ble_eq_true rfl) ?_
    refine aw_istore_3 dX7_least_17 (by decide) rfl ?_
    refine aw_iload_n dX7_least_18 rfl ?_
    refine aw_if_lt (tgt := 33) dX7_least_19 rfl (by split <;> omega) (fun hc19 => ?_) (fun hc19 => ?_)
    · refine aw_aload_n dX7_least_33 rfl ?_
      refine aw_iconst dX7_least_34 ?_
      refine aw_cV1IF (c_X7_found (by omega)) lk_X7_100 dX7_least_35 (by decide) rfl rfl (fun _ => Nat.le_of_ble_eq_true rfl) ?_
      refine aw_iretQ dX7_least_38 rfl ?_
      rw [if_pos (Or.inl (by split at hc19 <;> omega))]; exact qc_mk rfl (q2c.found hV.s (by decide))
    · have hen : 0 ≤ rwN g r := by split at hc19 <;> omega
      refine aw_ls (ls2 := [some (am_R 0), some (am_I r), some (am_I v2), some (am_I (rwN g r)), none]) (by rw [if_neg (by omega)]) ?_
      refine aw_aload_n dX7_least_22 rfl ?_
      refine aw_getR (kx := 4) fl_X7_29 dX7_least_23 rfl rfl rfl ?_
      refine aw_iload_n dX7_least_26 rfl ?_
      refine aw_cV1IF (c_X5_isEnd hV.s q2c.s.1 (by omega)) lk_X7_341 dX7_least_27 (by decide) rfl rfl (fun _ => Nat.le_of_ble_eq_true rfl) ?_
      refine aw_ifb_ne (tgt := 39) dX7_least_30 rfl (fun hc30 => ?_) (fun hc30 => ?_)
      · rw [if_neg (fun z => z.elim (fun y => by omega) (fun y => y hc30))]
        have hmr := (hV.s.2.2.2.1 (rwN g r) hen hrg.2).2
        have hm : h2 17 (rwN g r) = g 6 (rwN g r) := by rw [(q2c.s.1.2.1 (rwN g r) hen hrg.2).2.1, if_pos hc30]
        have hrow : ∀ i : Int, 0 ≤ i → i < g 1 r → h2 (2 + r) i = g 2 (40 * r + i) ∧ 0 ≤ g 2 (40 * r + i) ∧ g 2 (40 * r + i) < g 0 10 := by
          intro i a b
          obtain ⟨j1, j2, j3, j4⟩ := rwE_ok (g := g) (r := r) (i := i.toNat) (n := (g 1 r).toNat) (by omega) hen
          rw [show ((i.toNat : Nat) : Int) = i by omega] at j2
          exact ⟨q2c.r.1 r i k1.1 k1.2 a (by omega), by omega, by omega⟩
        obtain ⟨hf1, hf2⟩ := ft_fo hV.s k4 hen
        have hbs := cb_all (T := ftR g r) (n := (g 1 r).toNat) (by omega) hf1 hf2
        have hp8 := pw8 (n := (g 1 r).toNat) (by omega)
        have hlt := cbF_lt (U := foB g (wsd g r) (strL g (g 6 (rwN g r)) (arL g (wsd g r) (g 1 r) 8 (g 1 r).toNat []))) (b := 2 ^ (g 1 r).toNat - 1) (n := (g 1 r).toNat) (by omega) (2 ^ (g 1 r).toNat) (Nat.le_refl _)
        rw [lsX, hbs, if_neg (by omega)]
        refine aw_aload_n dX7_least_39 rfl ?_
        refine aw_getR (kx := 9) fl_X7_64 dX7_least_40 rfl rfl rfl ?_
        refine aw_aload_n dX7_least_43 rfl ?_
        refine aw_getR (kx := 0) fl_X7_11 dX7_least_44 rfl rfl rfl ?_
        refine aw_iload_n dX7_least_47 rfl ?_
        first | refine aw_aaload4 dX7_least_48 rfl (by decide) (by omega) ?_ | refine aw_aaload5 dX7_least_48 rfl (by decide) (by omega) ?_ | refine aw_aaload6 dX7_least_48 rfl (by decide) (by omega) ?_
        refine aw_aload_n dX7_least_49 rfl ?_
        refine aw_getR (kx := 1) fl_X7_14 dX7_least_50 rfl rfl rfl ?_
        refine aw_iload_n dX7_least_53 rfl ?_
        refine aw_iaload dX7_least_54 rfl (by decide) (by omega) ?_
        refine aw_top (q2c.r.2 r k1.1 k1.2) ?_
        refine aw_aload_n dX7_least_55 rfl ?_
        refine aw_getR (kx := 4) fl_X7_29 dX7_least_56 rfl rfl rfl ?_
        refine aw_getR (kx := 4) fl_X7_175 dX7_least_59 rfl rfl rfl ?_
        refine aw_iload_n dX7_least_62 rfl ?_
        refine aw_iaload dX7_least_63 rfl (by decide) (by omega) ?_
        refine aw_top hm ?_
        refine aw_cV3V (c_X1_hearWords hV.s k1 k4 q2c.s.1 (fun i a b => by rw [(hrow i a b).1]; exact (hrow i a b).2)) lk_X7_344 dX7_least_64 (by decide) rfl rfl (fun _ => Nat.le_of_ble_eq_true rfl) (fun h64 q64 => ?_)
        obtain ⟨p0, p1, p2, p3, p4, p5, p6, p7⟩ := q64
        have C64 : CRel h64 g := q2c.ofX hV.s (fun c a => p0 c (by omega) (by omega))
        have B64 : EaB h64 g (wsd g r) (g 1 r) 8 (g 6 (rwN g r)) := by
          refine ⟨hV.s, hV.y, k3, C64.s.1, ⟨p1, k4⟩, ⟨p2, by decide, by decide⟩, ⟨p3, by omega, by omega⟩, fun i a b => ?_⟩
          obtain ⟨r1, r2, r3⟩ := hrow i a b
          have hsr := (hV.s.2.2.2.2.1 _ r2 r3).2.1
          exact ⟨by rw [p7 i a b]; show g 9 (h2 (2 + r) i) = _; rw [r1], by show _ ≤ g 9 (g 2 (40 * r + i)); omega, by show g 9 (g 2 (40 * r + i)) < _; omega⟩
        refine aw_aload_n dX7_least_67 rfl ?_
        refine aw_getR (kx := 9) fl_X7_64 dX7_least_68 rfl rfl rfl ?_
        refine aw_aload_n dX7_least_71 rfl ?_
        refine aw_cV0IF (c_X7_nodeNow hV.s hV.y C64.s.1 C64.y) lk_X7_197 dX7_least_72 (by decide) rfl rfl (fun _ => Nat.le_of_ble_eq_true rfl) ?_
        refine aw_cV1V (c_X1_listenFrom B64 p4 p5 p6) lk_X7_325 dX7_least_75 (by decide) rfl rfl (fun _ => Nat.le_of_ble_eq_true rfl) (fun h75 q75 => ?_)
        have C75 := q75.C C64 hV.s
        have S75 := ea_str B64 q75
        refine aw_aload_n dX7_least_78 rfl ?_
        refine aw_getR (kx := 9) fl_X7_64 dX7_least_79 rfl rfl rfl ?_
        refine aw_cV0IF (c_X1_fewestPlaces S75) lk_X7_347 dX7_least_82 (by decide) rfl rfl (fun _ => Nat.le_of_ble_eq_true rfl) ?_
        refine aw_istore4 dX7_least_85 (by decide) rfl ?_
        refine aw_aload_n dX7_least_87 rfl ?_
        refine aw_iload dX7_least_88 rfl ?_
        refine aw_putI (kx := 13) fp_X7_238 dX7_least_90 rfl rfl rfl ?_
        refine aw_iload dX7_least_93 rfl ?_
        refine aw_cS1IF (c_J6_bitCount rfl (by omega)) lk_X7_350 dX7_least_95 (by decide) (fun _ => Nat.le_of_ble_eq_true rfl) ?_
        refine aw_iretQ dX7_least_98 rfl ?_
        rw [show (((cbF (foB g (wsd g r) (strL g (g 6 (rwN g r)) (arL g (wsd g r) (g 1 r) 8 (g 1 r).toNat []))) (2 ^ (g 1 r).toNat - 1) (2 ^ (g 1 r).toNat) : Nat) : Int)).toNat = cbF (foB g (wsd g r) (strL g (g 6 (rwN g r)) (arL g (wsd g r) (g 1 r) 8 (g 1 r).toNat []))) (2 ^ (g 1 r).toNat - 1) (2 ^ (g 1 r).toNat) by omega]
        exact qc_mk rfl (C75.asked hV.s)
      · refine aw_aload_n dX7_least_33 rfl ?_
        refine aw_iconst dX7_least_34 ?_
        refine aw_cV1IF (c_X7_found (by omega)) lk_X7_100 dX7_least_35 (by decide) rfl rfl (fun _ => Nat.le_of_ble_eq_true rfl) ?_
        refine aw_iretQ dX7_least_38 rfl ?_
        rw [if_pos (Or.inr hc30)]; exact qc_mk rfl (q2c.found hV.s (by decide))
  · refine aw_iload_n dX7_least_10 rfl ?_
    refine aw_iretQ dX7_least_11 rfl ?_
    rw [h1 (by omega)]; exact q2
