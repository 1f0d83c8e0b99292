/-! the class's own small methods -/
theorem kdR {r : Int} (h0 : 0 ≤ r) (h1 : r < 6) : am_kd GC (2 + r) = some (.inr (0, 40, 0)) := by
  have : r = 0 ∨ r = 1 ∨ r = 2 ∨ r = 3 ∨ r = 4 ∨ r = 5 := by omega
  rcases this with q | q | q | q | q | q <;> subst q <;> rfl
theorem kdT {t : Int} (h0 : 0 ≤ t) (h1 : t < 4) : am_kd GC (10 + t) = some (.inr (1, 80, 0)) := by
  have : t = 0 ∨ t = 1 ∨ t = 2 ∨ t = 3 := by omega
  rcases this with q | q | q | q <;> subst q <;> rfl
theorem c_X7_isNoRow {h : am_H} {r : Int} (hr : -2147483648 ≤ r ∧ r < 2147483648) : AMet GC mX7_isNoRow 1 [am_I r] h (am_FI (if ¬ (0 ≤ r ∧ r ≤ 5) then 1 else 0) h) := by
  refine am_start [some (am_I r)] rfl rfl (by decide) (Nat.le_of_ble_eq_true rfl) ?_
  refine aw_iload_n dX7_isNoRow_0 rfl ?_
  refine aw_if_lt (tgt := 10) dX7_isNoRow_1 rfl (by omega) (fun hc1 => ?_) (fun hc1 => ?_)
  · refine aw_iconst dX7_isNoRow_10 ?_
    refine aw_goto (tgt := 15) dX7_isNoRow_11 rfl ?_
    refine aw_zretF dX7_isNoRow_15 rfl (by omega) ?_
    exact ⟨by split <;> omega, rfl⟩
  · refine aw_iload_n dX7_isNoRow_4 rfl ?_
    refine aw_bipush (by decide) dX7_isNoRow_5 ?_
    refine aw_icmp_lt (tgt := 14) dX7_isNoRow_7 rfl (by omega) (by omega) (fun hc7 => ?_) (fun hc7 => ?_)
    · refine aw_iconst dX7_isNoRow_14 ?_
      refine aw_zretF dX7_isNoRow_15 rfl (by omega) ?_
      exact ⟨by split <;> omega, rfl⟩
    · refine aw_iconst dX7_isNoRow_10 ?_
      refine aw_goto (tgt := 15) dX7_isNoRow_11 rfl ?_
      refine aw_zretF dX7_isNoRow_15 rfl (by omega) ?_
      exact ⟨by split <;> omega, rfl⟩
theorem c_X7_isNoText {h : am_H} {r : Int} (hr : -2147483648 ≤ r ∧ r < 2147483648) : AMet GC mX7_isNoText 1 [am_I r] h (am_FI (if ¬ (0 ≤ r ∧ r ≤ 3) then 1 else 0) h) := by
  refine am_start [some (am_I r)] rfl rfl (by decide) (Nat.le_of_ble_eq_true rfl) ?_
  refine aw_iload_n dX7_isNoText_0 rfl ?_
  refine aw_if_lt (tgt := 9) dX7_isNoText_1 rfl (by omega) (fun hc1 => ?_) (fun hc1 => ?_)
  · refine aw_iconst dX7_isNoText_9 ?_
    refine aw_goto (tgt := 14) dX7_isNoText_10 rfl ?_
    refine aw_zretF dX7_isNoText_14 rfl (by omega) ?_
    exact ⟨by split <;> omega, rfl⟩
  · refine aw_iload_n dX7_isNoText_4 rfl ?_
    refine aw_iconst dX7_isNoText_5 ?_
    refine aw_icmp_lt (tgt := 13) dX7_isNoText_6 rfl (by omega) (by omega) (fun hc6 => ?_) (fun hc6 => ?_)
    · refine aw_iconst dX7_isNoText_13 ?_
      refine aw_zretF dX7_isNoText_14 rfl (by omega) ?_
      exact ⟨by split <;> omega, rfl⟩
    · refine aw_iconst dX7_isNoText_9 ?_
      refine aw_goto (tgt := 14) dX7_isNoText_10 rfl ?_
      refine aw_zretF dX7_isNoText_14 rfl (by omega) ?_
      exact ⟨by split <;> omega, rfl⟩
theorem c_X7_isNoPlace {h : am_H} {r : Int} (hr : -2147483648 ≤ r ∧ r < 2147483648) : AMet GC mX7_isNoPlace 1 [am_I r] h (am_FI (if ¬ (0 ≤ r ∧ r ≤ 2) then 1 else 0) h) := by
  refine am_start [some (am_I r)] rfl rfl (by decide) (Nat.le_of_ble_eq_true rfl) ?_
  refine aw_iload_n dX7_isNoPlace_0 rfl ?_
  refine aw_if_lt (tgt := 9) dX7_isNoPlace_1 rfl (by omega) (fun hc1 => ?_) (fun hc1 => ?_)
  · refine aw_iconst dX7_isNoPlace_9 ?_
    refine aw_goto (tgt := 14) dX7_isNoPlace_10 rfl ?_
    refine aw_zretF dX7_isNoPlace_14 rfl (by omega) ?_
    exact ⟨by split <;> omega, rfl⟩
  · refine aw_iload_n dX7_isNoPlace_4 rfl ?_
    refine aw_iconst dX7_isNoPlace_5 ?_
    refine aw_icmp_lt (tgt := 13) dX7_isNoPlace_6 rfl (by omega) (by omega) (fun hc6 => ?_) (fun hc6 => ?_)
    · refine aw_iconst dX7_isNoPlace_13 ?_
      refine aw_zretF dX7_isNoPlace_14 rfl (by omega) ?_
      exact ⟨by split <;> omega, rfl⟩
    · refine aw_iconst dX7_isNoPlace_9 ?_
      refine aw_goto (tgt := 14) dX7_isNoPlace_10 rfl ?_
      refine aw_zretF dX7_isNoPlace_14 rfl (by omega) ?_
      exact ⟨by split <;> omega, rfl⟩
theorem c_X7_isNoNode {h : am_H} {x : Int} (hx : -2147483648 ≤ x ∧ x < 2147483648) (hn : 0 ≤ h 15 0 ∧ h 15 0 ≤ 9) : AMet GC mX7_isNoNode 1 [am_R 0, am_I x] h (am_FI (if ¬ (0 ≤ x ∧ x ≤ h 15 0 - 1) then 1 else 0) h) := by
  refine am_start [some (am_R 0), some (am_I x)] rfl rfl (by decide) (Nat.le_of_ble_eq_true rfl) ?_
  refine aw_iload_n dX7_isNoNode_0 rfl ?_
  refine aw_if_lt (tgt := 15) dX7_isNoNode_1 rfl (by omega) (fun hc1 => ?_) (fun hc1 => ?_)
  · refine aw_iconst dX7_isNoNode_15 ?_
    refine aw_goto (tgt := 20) dX7_isNoNode_16 rfl ?_
    refine aw_zretF dX7_isNoNode_20 rfl (by omega) ?_
    exact ⟨by split <;> omega, rfl⟩
  · refine aw_iload_n dX7_isNoNode_4 rfl ?_
    refine aw_aload_n dX7_isNoNode_5 rfl ?_
    refine aw_getR (kx := 4) fl_X7_29 dX7_isNoNode_6 rfl rfl rfl ?_
    refine aw_getI (kx := 0) fl_X7_150 dX7_isNoNode_9 rfl rfl rfl ?_
    refine aw_icmp_lt (tgt := 19) dX7_isNoNode_12 rfl (by omega) (by omega) (fun hc12 => ?_) (fun hc12 => ?_)
    · refine aw_iconst dX7_isNoNode_19 ?_
      refine aw_zretF dX7_isNoNode_20 rfl (by omega) ?_
      exact ⟨by split <;> omega, rfl⟩
    · refine aw_iconst dX7_isNoNode_15 ?_
      refine aw_goto (tgt := 20) dX7_isNoNode_16 rfl ?_
      refine aw_zretF dX7_isNoNode_20 rfl (by omega) ?_
      exact ⟨by split <;> omega, rfl⟩
theorem c_X7_isNoWord {h : am_H} {x : Int} (hx : -2147483648 ≤ x ∧ x < 2147483648) (hn : 0 ≤ h 15 1 ∧ h 15 1 ≤ 14) : AMet GC mX7_isNoWord 1 [am_R 0, am_I x] h (am_FI (if ¬ (0 ≤ x ∧ x ≤ h 15 1 - 1) then 1 else 0) h) := by
  refine am_start [some (am_R 0), some (am_I x)] rfl rfl (by decide) (Nat.le_of_ble_eq_true rfl) ?_
  refine aw_iload_n dX7_isNoWord_0 rfl ?_
  refine aw_if_lt (tgt := 15) dX7_isNoWord_1 rfl (by omega) (fun hc1 => ?_) (fun hc1 => ?_)
  · refine aw_iconst dX7_isNoWord_15 ?_
    refine aw_goto (tgt := 20) dX7_isNoWord_16 rfl ?_
    refine aw_zretF dX7_isNoWord_20 rfl (by omega) ?_
    exact ⟨by split <;> omega, rfl⟩
  · refine aw_iload_n dX7_isNoWord_4 rfl ?_
    refine aw_aload_n dX7_isNoWord_5 rfl ?_
    refine aw_getR (kx := 4) fl_X7_29 dX7_isNoWord_6 rfl rfl rfl ?_
    refine aw_getI (kx := 1) fl_X7_389 dX7_isNoWord_9 rfl rfl rfl ?_
    refine aw_icmp_lt (tgt := 19) dX7_isNoWord_12 rfl (by omega) (by omega) (fun hc12 => ?_) (fun hc12 => ?_)
    · refine aw_iconst dX7_isNoWord_19 ?_
      refine aw_zretF dX7_isNoWord_20 rfl (by omega) ?_
      exact ⟨by split <;> omega, rfl⟩
    · refine aw_iconst dX7_isNoWord_15 ?_
      refine aw_goto (tgt := 20) dX7_isNoWord_16 rfl ?_
      refine aw_zretF dX7_isNoWord_20 rfl (by omega) ?_
      exact ⟨by split <;> omega, rfl⟩
theorem c_X7_isNoDeed {h : am_H} {x : Int} (hx : -2147483648 ≤ x ∧ x < 2147483648) (hn : 0 ≤ h 15 2 ∧ h 15 2 ≤ 4) : AMet GC mX7_isNoDeed 1 [am_R 0, am_I x] h (am_FI (if ¬ (0 ≤ x ∧ x ≤ h 15 2 - 1) then 1 else 0) h) := by
  refine am_start [some (am_R 0), some (am_I x)] rfl rfl (by decide) (Nat.le_of_ble_eq_true rfl) ?_
  refine aw_iload_n dX7_isNoDeed_0 rfl ?_
  refine aw_if_lt (tgt := 15) dX7_isNoDeed_1 rfl (by omega) (fun hc1 => ?_) (fun hc1 => ?_)
  · refine aw_iconst dX7_isNoDeed_15 ?_
    refine aw_goto (tgt := 20) dX7_isNoDeed_16 rfl ?_
    refine aw_zretF dX7_isNoDeed_20 rfl (by omega) ?_
    exact ⟨by split <;> omega, rfl⟩
  · refine aw_iload_n dX7_isNoDeed_4 rfl ?_
    refine aw_aload_n dX7_isNoDeed_5 rfl ?_
    refine aw_getR (kx := 4) fl_X7_29 dX7_isNoDeed_6 rfl rfl rfl ?_
    refine aw_getI (kx := 2) fl_X7_392 dX7_isNoDeed_9 rfl rfl rfl ?_
    refine aw_icmp_lt (tgt := 19) dX7_isNoDeed_12 rfl (by omega) (by omega) (fun hc12 => ?_) (fun hc12 => ?_)
    · refine aw_iconst dX7_isNoDeed_19 ?_
      refine aw_zretF dX7_isNoDeed_20 rfl (by omega) ?_
      exact ⟨by split <;> omega, rfl⟩
    · refine aw_iconst dX7_isNoDeed_15 ?_
      refine aw_goto (tgt := 20) dX7_isNoDeed_16 rfl ?_
      refine aw_zretF dX7_isNoDeed_20 rfl (by omega) ?_
      exact ⟨by split <;> omega, rfl⟩
theorem c_X7_isUnspoken {h : am_H} (hn : 0 ≤ h 15 0 ∧ h 15 0 ≤ 9) : AMet GC mX7_isUnspoken 1 [am_R 0] h (am_FI (if h 15 0 = 0 then 1 else 0) h) := by
  refine am_start [some (am_R 0)] rfl rfl (by decide) (Nat.le_of_ble_eq_true rfl) ?_
  refine aw_aload_n dX7_isUnspoken_0 rfl ?_
  refine aw_getR (kx := 4) fl_X7_29 dX7_isUnspoken_1 rfl rfl rfl ?_
  refine aw_getI (kx := 0) fl_X7_150 dX7_isUnspoken_4 rfl rfl rfl ?_
  refine aw_if_ne (tgt := 14) dX7_isUnspoken_7 rfl (by omega) (fun hc7 => ?_) (fun hc7 => ?_)
  · refine aw_iconst dX7_isUnspoken_14 ?_
    refine aw_zretF dX7_isUnspoken_15 rfl (by omega) ?_
    exact ⟨by split <;> omega, rfl⟩
  · refine aw_iconst dX7_isUnspoken_10 ?_
    refine aw_goto (tgt := 15) dX7_isUnspoken_11 rfl ?_
    refine aw_zretF dX7_isUnspoken_15 rfl (by omega) ?_
    exact ⟨by split <;> omega, rfl⟩
def cfoF (h : am_H) (f : Int) : am_H := am_set (am_set h 0 16 f) 81 f (h 81 f + 1)
theorem c_X7_found {h : am_H} {f : Int} (hf : 1 ≤ f ∧ f ≤ 5) : AMet GC mX7_found 1 [am_R 0, am_I f] h (am_FI (-3) (cfoF h f)) := by
  refine am_start [some (am_R 0), some (am_I f)] rfl rfl (by decide) (Nat.le_of_ble_eq_true rfl) ?_
  refine aw_aload_n dX7_found_0 rfl ?_
  refine aw_iload_n dX7_found_1 rfl ?_
  refine aw_putI (kx := 16) fp_X7_365 dX7_found_2 rfl rfl rfl ?_
  refine aw_aload_n dX7_found_5 rfl ?_
  refine aw_getR (kx := 12) fl_X7_79 dX7_found_6 rfl rfl rfl ?_
  refine aw_iload_n dX7_found_9 rfl ?_
  refine aw_dup2 dX7_found_10 ?_
  refine aw_iaload dX7_found_11 rfl (by decide) (by omega) ?_
  refine aw_iconst dX7_found_12 ?_
  refine aw_iadd dX7_found_13 ?_
  refine aw_iastore dX7_found_14 rfl (by decide) (by omega) ?_
  refine aw_bipush (by decide) dX7_found_15 ?_
  refine aw_iretF dX7_found_17 rfl ?_
  exact ⟨rfl, by unfold cfoF; rw [am_set_c (c := 0) (x := 81) (by decide)]⟩
theorem c_X7_tells {h : am_H} {v : Int} : AMet GC mX7_tells 1 [am_R 0, am_I v] h (am_FI 1 (am_set h 0 13 v)) := by
  refine am_start [some (am_R 0), some (am_I v)] rfl rfl (by decide) (Nat.le_of_ble_eq_true rfl) ?_
  refine aw_aload_n dX7_tells_0 rfl ?_
  refine aw_iload_n dX7_tells_1 rfl ?_
  refine aw_putI (kx := 13) fp_X7_238 dX7_tells_2 rfl rfl rfl ?_
  refine aw_iconst dX7_tells_5 ?_
  refine aw_iretF dX7_tells_6 rfl ?_
  exact ⟨rfl, rfl⟩
theorem c_X7_layOut {h : am_H} {r n : Int} (hr : 0 ≤ r ∧ r ≤ 5) : AMet GC mX7_layOut 2 [am_R 0, am_I r, am_I n] h (am_FV (am_set (fillF h (2 + r) 0 40) 8 r n)) := by
  refine am_start [some (am_R 0), some (am_I r), some (am_I n)] rfl rfl (by decide) (Nat.le_of_ble_eq_true rfl) ?_
  refine aw_aload_n dX7_layOut_0 rfl ?_
  refine aw_getR (kx := 0) fl_X7_11 dX7_layOut_1 rfl rfl rfl ?_
  refine aw_iload_n dX7_layOut_4 rfl ?_
  first | refine aw_aaload4 dX7_layOut_5 rfl (by decide) (by omega) ?_ | refine aw_aaload5 dX7_layOut_5 rfl (by decide) (by omega) ?_ | refine aw_aaload6 dX7_layOut_5 rfl (by decide) (by omega) ?_
  refine aw_iconst dX7_layOut_6 ?_
  refine aw_cS2VF (c_J7_fillI (kdR hr.1 (by omega)) (by decide)) lk_X7_86 dX7_layOut_7 (by decide) (fun _ => Nat.le_of_ble_eq_true rfl) ?_
  refine aw_aload_n dX7_layOut_10 rfl ?_
  refine aw_getR (kx := 1) fl_X7_14 dX7_layOut_11 rfl rfl rfl ?_
  refine aw_iload_n dX7_layOut_14 rfl ?_
  refine aw_iload_n dX7_layOut_15 rfl ?_
  refine aw_iastore dX7_layOut_16 rfl (by decide) (by omega) ?_
  refine aw_vretF dX7_layOut_17 rfl ?_
  rfl
theorem c_X7_nodeNow {h g : am_H} (hs : MVs g) (hy : MVy g) (hR : SpR h g) (hY : YrR h 68 69 70 (g 0 18) (g 0 19) (g 14) (g 15)) : AMet GC mX7_nodeNow 1 [am_R 0] h (am_FI (nowF g) h) := by
  have hm := hy.1
  have hw := hs.2.1
  have e1 := hY.1
  refine am_start [some (am_R 0)] rfl rfl (by decide) (Nat.le_of_ble_eq_true rfl) ?_
  by_cases e : g 0 18 = 0
  · refine aw_aload_n dX7_nodeNow_0 rfl ?_
    refine aw_getR (kx := 10) fl_X7_71 dX7_nodeNow_1 rfl rfl rfl ?_
    refine aw_getI (kx := 2) fl_X7_92 dX7_nodeNow_4 rfl rfl rfl ?_
    refine aw_if_ne (tgt := 14) dX7_nodeNow_7 rfl (by omega) (fun hc7 => ?_) (fun hc7 => ?_)
    · omega
    · refine aw_iconst dX7_nodeNow_10 ?_
      refine aw_goto (tgt := 39) dX7_nodeNow_11 rfl ?_
      refine aw_iretF dX7_nodeNow_39 rfl ?_
      exact ⟨by rw [nowF, if_pos e], rfl⟩
  · have hv := (hy.2.2 (g 0 18 - 1) (by omega) (by omega)).1
    have q1 := (hY.2.2 (g 0 18 - 1) (by omega) (by omega)).1
    have q2 := (hR.2.2.2.1 _ hv.1 hv.2).2.1
    have e2 : h 68 2 - 1 = g 0 18 - 1 := by omega
    refine aw_aload_n dX7_nodeNow_0 rfl ?_
    refine aw_getR (kx := 10) fl_X7_71 dX7_nodeNow_1 rfl rfl rfl ?_
    refine aw_getI (kx := 2) fl_X7_92 dX7_nodeNow_4 rfl rfl rfl ?_
    refine aw_if_ne (tgt := 14) dX7_nodeNow_7 rfl (by omega) (fun hc7 => ?_) (fun hc7 => ?_)
    · refine aw_aload_n dX7_nodeNow_14 rfl ?_
      refine aw_getR (kx := 4) fl_X7_29 dX7_nodeNow_15 rfl rfl rfl ?_
      refine aw_getR (kx := 8) fl_X7_204 dX7_nodeNow_18 rfl rfl rfl ?_
      refine aw_aload_n dX7_nodeNow_21 rfl ?_
      refine aw_getR (kx := 10) fl_X7_71 dX7_nodeNow_22 rfl rfl rfl ?_
      refine aw_getR (kx := 0) fl_X7_244 dX7_nodeNow_25 rfl rfl rfl ?_
      refine aw_aload_n dX7_nodeNow_28 rfl ?_
      refine aw_getR (kx := 10) fl_X7_71 dX7_nodeNow_29 rfl rfl rfl ?_
      refine aw_getI (kx := 2) fl_X7_92 dX7_nodeNow_32 rfl rfl rfl ?_
      refine aw_iconst dX7_nodeNow_35 ?_
      refine aw_isub dX7_nodeNow_36 ?_
      refine aw_top e2 ?_
      refine aw_iaload dX7_nodeNow_37 rfl (by decide) (by omega) ?_
      refine aw_top q1 ?_
      refine aw_iaload dX7_nodeNow_38 rfl (by decide) (by omega) ?_
      refine aw_iretF dX7_nodeNow_39 rfl ?_
      exact ⟨by rw [nowF, if_neg e]; exact q2, rfl⟩
    · omega
