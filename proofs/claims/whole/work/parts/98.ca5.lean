def rrF (h : am_H) (r : Int) : Int × am_H := if ¬ (0 ≤ r ∧ r ≤ 5) then (-1, h) else if h 8 r < 0 then (-3, cfoF h 1) else (0, h)
theorem c_X7_rowRefusal {h : am_H} {r : Int} (hr : -2147483648 ≤ r ∧ r < 2147483648) (hz : ∀ r : Int, 0 ≤ r → r ≤ 5 → -1 ≤ h 8 r ∧ h 8 r ≤ 40) : AMet GC mX7_rowRefusal 2 [am_R 0, am_I r] h (am_FI (rrF h r).1 (rrF h r).2) := by
  have hz2 := hz r
  refine am_start [some (am_R 0), some (am_I r)] rfl rfl (by decide) (Nat.le_of_ble_eq_true rfl) ?_
  refine aw_iload_n dX7_rowRefusal_0 rfl ?_
  refine aw_cS1IF (c_X7_isNoRow (by omega)) lk_X7_96 dX7_rowRefusal_1 (by decide) (fun _ => Nat.le_of_ble_eq_true rfl) ?_
  refine aw_ifb_eq (tgt := 9) dX7_rowRefusal_4 rfl (fun hc4 => ?_) (fun hc4 => ?_)
  · have hz3 := hz2 (by omega) (by omega)
    refine aw_aload_n dX7_rowRefusal_9 rfl ?_
    refine aw_getR (kx := 1) fl_X7_14 dX7_rowRefusal_10 rfl rfl rfl ?_
    refine aw_iload_n dX7_rowRefusal_13 rfl ?_
    refine aw_iaload dX7_rowRefusal_14 rfl (by decide) (by omega) ?_
    refine aw_if_ge (tgt := 26) dX7_rowRefusal_15 rfl (by omega) (fun hc15 => ?_) (fun hc15 => ?_)
    · refine aw_iconst dX7_rowRefusal_26 ?_
      refine aw_iretF dX7_rowRefusal_27 rfl ?_
      rw [rrF, if_neg (by omega), if_neg (by omega)]; exact ⟨rfl, rfl⟩
    · refine aw_aload_n dX7_rowRefusal_18 rfl ?_
      refine aw_iconst dX7_rowRefusal_19 ?_
      refine aw_cV1IF (c_X7_found (by omega)) lk_X7_100 dX7_rowRefusal_20 (by decide) rfl rfl (fun _ => Nat.le_of_ble_eq_true rfl) ?_
      refine aw_goto (tgt := 27) dX7_rowRefusal_23 rfl ?_
      refine aw_iretF dX7_rowRefusal_27 rfl ?_
      rw [rrF, if_neg (by omega), if_pos (by omega)]; exact ⟨rfl, rfl⟩
  · refine aw_iconst dX7_rowRefusal_7 ?_
    refine aw_iretF dX7_rowRefusal_8 rfl ?_
    rw [rrF, if_pos hc4]; exact ⟨rfl, rfl⟩
def trF (h : am_H) (r : Int) : Int × am_H := if ¬ (0 ≤ r ∧ r ≤ 3) then (-1, h) else if h 14 r < 0 then (-3, cfoF h 1) else (0, h)
theorem c_X7_textRefusal {h : am_H} {r : Int} (hr : -2147483648 ≤ r ∧ r < 2147483648) (hz : ∀ r : Int, 0 ≤ r → r ≤ 3 → -1 ≤ h 14 r ∧ h 14 r ≤ 80) : AMet GC mX7_textRefusal 2 [am_R 0, am_I r] h (am_FI (trF h r).1 (trF h r).2) := by
  have hz2 := hz r
  refine am_start [some (am_R 0), some (am_I r)] rfl rfl (by decide) (Nat.le_of_ble_eq_true rfl) ?_
  refine aw_iload_n dX7_textRefusal_0 rfl ?_
  refine aw_cS1IF (c_X7_isNoText (by omega)) lk_X7_128 dX7_textRefusal_1 (by decide) (fun _ => Nat.le_of_ble_eq_true rfl) ?_
  refine aw_ifb_eq (tgt := 9) dX7_textRefusal_4 rfl (fun hc4 => ?_) (fun hc4 => ?_)
  · have hz3 := hz2 (by omega) (by omega)
    refine aw_aload_n dX7_textRefusal_9 rfl ?_
    refine aw_getR (kx := 3) fl_X7_23 dX7_textRefusal_10 rfl rfl rfl ?_
    refine aw_iload_n dX7_textRefusal_13 rfl ?_
    refine aw_iaload dX7_textRefusal_14 rfl (by decide) (by omega) ?_
    refine aw_if_ge (tgt := 26) dX7_textRefusal_15 rfl (by omega) (fun hc15 => ?_) (fun hc15 => ?_)
    · refine aw_iconst dX7_textRefusal_26 ?_
      refine aw_iretF dX7_textRefusal_27 rfl ?_
      rw [trF, if_neg (by omega), if_neg (by omega)]; exact ⟨rfl, rfl⟩
    · refine aw_aload_n dX7_textRefusal_18 rfl ?_
      refine aw_iconst dX7_textRefusal_19 ?_
      refine aw_cV1IF (c_X7_found (by omega)) lk_X7_100 dX7_textRefusal_20 (by decide) rfl rfl (fun _ => Nat.le_of_ble_eq_true rfl) ?_
      refine aw_goto (tgt := 27) dX7_textRefusal_23 rfl ?_
      refine aw_iretF dX7_textRefusal_27 rfl ?_
      rw [trF, if_neg (by omega), if_pos (by omega)]; exact ⟨rfl, rfl⟩
  · refine aw_iconst dX7_textRefusal_7 ?_
    refine aw_iretF dX7_textRefusal_8 rfl ?_
    rw [trF, if_pos hc4]; exact ⟨rfl, rfl⟩
