/-! the class's years -/
theorem cpy_lo (f e : Int → Int) : am_cpy f e 0 0 8 = lo 8 f e := by
  funext j; unfold am_cpy lo
  repeat' split
  all_goals first | rfl | omega | (congr 1; omega)
def YrR (h : am_H) (b s a : Int) (many st : Int) (sd ah : Int → Int) : Prop := h b 2 = many ∧ h b 3 = cv st ∧ ∀ i : Int, 0 ≤ i → i < many → h s i = sd i ∧ h a i = cv (ah i)
theorem c_X6_restart {h : am_H} : AMet GC mX6_restart 1 [am_R 68] h (am_FV (am_set (am_set h 68 2 0) 68 3 0)) := by
  refine am_start [some (am_R 68)] rfl rfl (by decide) (Nat.le_of_ble_eq_true rfl) ?_
  refine aw_aload_n dX6_restart_0 rfl ?_
  refine aw_iconst dX6_restart_1 ?_
  refine aw_putI (kx := 2) fp_X6_18 dX6_restart_2 rfl rfl rfl ?_
  refine aw_aload_n dX6_restart_5 rfl ?_
  refine aw_iconst dX6_restart_6 ?_
  refine aw_putI (kx := 3) fp_X6_22 dX6_restart_7 rfl rfl rfl ?_
  refine aw_vretF dX6_restart_10 rfl ?_
  rfl
def cgoF (h : am_H) (k t : Int) : am_H := am_set (am_set (am_set (am_set h 69 (h 68 2) k) 70 (h 68 2) (h 68 3)) 68 3 t) 68 2 (h 68 2 + 1)
theorem c_X6_goOn {h g : am_H} {k : Int} (hs : MVs g) (hR : SpR h g) (hk : 0 ≤ k ∧ k < g 0 10) (hc : 0 ≤ h 68 2 ∧ h 68 2 < 8) : AMet GC mX6_goOn 4 [am_R 68, am_I k, am_R 15] h (am_FV (cgoF h k (aft (h 68 3) (g 5 (g 7 k))))) := by
  have hnn := hs.1
  have hw := hs.2.1
  have hv := (hs.2.2.2.2.1 k hk.1 hk.2).1
  have hf := (hR.2.2.2.1 k hk.1 hk.2).1
  have hkd := (hR.2.1 (g 7 k) (by omega) (by omega)).1
  have hkr := (hs.2.2.2.1 (g 7 k) (by omega) (by omega)).1
  have e68 : am_set h 69 (h 68 2) k 68 = h 68 := am_set_c (by decide)
  have e68b : am_set (am_set h 69 (h 68 2) k) 70 (h 68 2) (h 68 3) 68 = h 68 := by rw [am_set_c (by decide), e68]
  have e20 : am_set (am_set h 69 (h 68 2) k) 70 (h 68 2) (h 68 3) 20 k = g 7 k := by rw [am_set_c (by decide), am_set_c (by decide)]; exact hf
  have e16 : am_set (am_set h 69 (h 68 2) k) 70 (h 68 2) (h 68 3) 16 (g 7 k) = g 5 (g 7 k) := by rw [am_set_c (by decide), am_set_c (by decide)]; exact hkd
  refine am_start [some (am_R 68), some (am_I k), some (am_R 15)] rfl rfl (by decide) (Nat.le_of_ble_eq_true rfl) ?_
  refine aw_aload_n dX6_goOn_0 rfl ?_
  refine aw_getI (kx := 2) fl_X6_18 dX6_goOn_1 rfl rfl rfl ?_
  refine aw_bipush (by decide) dX6_goOn_4 ?_
  refine aw_icmp_ge (tgt := 64) dX6_goOn_6 rfl (by omega) (by omega) (fun hc6 => ?_) (fun hc6 => ?_)
  · omega
  · refine aw_aload_n dX6_goOn_9 rfl ?_
    refine aw_getR (kx := 0) fl_X6_9 dX6_goOn_10 rfl rfl rfl ?_
    refine aw_aload_n dX6_goOn_13 rfl ?_
    refine aw_getI (kx := 2) fl_X6_18 dX6_goOn_14 rfl rfl rfl ?_
    refine aw_iload_n dX6_goOn_17 rfl ?_
    refine aw_iastore dX6_goOn_18 rfl (by decide) (by omega) ?_
    refine aw_aload_n dX6_goOn_19 rfl ?_
    refine aw_getR (kx := 1) fl_X6_15 dX6_goOn_20 rfl rfl rfl ?_
    refine aw_aload_n dX6_goOn_23 rfl ?_
    refine aw_getI (kx := 2) fl_X6_18 dX6_goOn_24 rfl rfl rfl ?_
    rw [e68]
    refine aw_aload_n dX6_goOn_27 rfl ?_
    refine aw_getI (kx := 3) fl_X6_22 dX6_goOn_28 rfl rfl rfl ?_
    rw [e68]
    refine aw_iastore dX6_goOn_31 rfl (by decide) (by omega) ?_
    refine aw_aload_n dX6_goOn_32 rfl ?_
    refine aw_aload_n dX6_goOn_33 rfl ?_
    refine aw_getI (kx := 3) fl_X6_22 dX6_goOn_34 rfl rfl rfl ?_
    rw [e68b]
    refine aw_aload_n dX6_goOn_37 rfl ?_
    refine aw_getR (kx := 3) fl_X6_31 dX6_goOn_38 rfl rfl rfl ?_
    refine aw_aload_n dX6_goOn_41 rfl ?_
    refine aw_getR (kx := 7) fl_X6_36 dX6_goOn_42 rfl rfl rfl ?_
    refine aw_iload_n dX6_goOn_45 rfl ?_
    refine aw_iaload dX6_goOn_46 rfl (by decide) (by omega) ?_
    refine aw_top e20 ?_
    refine aw_iaload dX6_goOn_47 rfl (by decide) (by omega) ?_
    refine aw_top e16 ?_
    refine aw_cS2IF (c_X0_afterWord (by omega)) lk_X6_39 dX6_goOn_48 (by decide) (fun _ => Nat.le_of_ble_eq_true rfl) ?_
    refine aw_putI (kx := 3) fp_X6_22 dX6_goOn_51 rfl rfl rfl ?_
    refine aw_aload_n dX6_goOn_54 rfl ?_
    first | refine aw_dupR dX6_goOn_55 ?_ | refine aw_dupI dX6_goOn_55 ?_
    refine aw_getI (kx := 2) fl_X6_18 dX6_goOn_56 rfl rfl rfl ?_
    refine aw_iconst dX6_goOn_59 ?_
    refine aw_iadd dX6_goOn_60 ?_
    refine aw_putI (kx := 2) fp_X6_18 dX6_goOn_61 rfl rfl rfl ?_
    refine aw_vretF dX6_goOn_64 rfl ?_
    show _ = cgoF h k _
    unfold cgoF; rw [am_set_i (by decide), e68b]
theorem c_X6_cutAt {h : am_H} {n : Int} (hc : 0 ≤ h 68 2 ∧ h 68 2 ≤ 8) (hn : 0 ≤ n ∧ n ≤ h 68 2) : AMet GC mX6_cutAt 1 [am_R 68, am_I n] h (am_FI (h 68 2 - n) (if 0 < h 68 2 - n then am_set (am_set h 68 3 (h 70 n)) 68 2 n else h)) := by
  refine am_start [some (am_R 68), some (am_I n), none] rfl rfl (by decide) (Nat.le_of_ble_eq_true rfl) ?_
  refine aw_aload_n dX6_cutAt_0 rfl ?_
  refine aw_getI (kx := 2) fl_X6_18 dX6_cutAt_1 rfl rfl rfl ?_
  refine aw_iload_n dX6_cutAt_4 rfl ?_
  refine aw_isub dX6_cutAt_5 ?_
  refine aw_istore_2 dX6_cutAt_6 (by decide) rfl ?_
  refine aw_iload_n dX6_cutAt_7 rfl ?_
  refine aw_if_le (tgt := 26) dX6_cutAt_8 rfl (by omega) (fun hc8 => ?_) (fun hc8 => ?_)
  · refine aw_iload_n dX6_cutAt_26 rfl ?_
    refine aw_iretF dX6_cutAt_27 rfl ?_
    exact ⟨rfl, by rw [if_neg (by omega)]⟩
  · refine aw_aload_n dX6_cutAt_11 rfl ?_
    refine aw_aload_n dX6_cutAt_12 rfl ?_
    refine aw_getR (kx := 1) fl_X6_15 dX6_cutAt_13 rfl rfl rfl ?_
    refine aw_iload_n dX6_cutAt_16 rfl ?_
    refine aw_iaload dX6_cutAt_17 rfl (by decide) (by omega) ?_
    refine aw_putI (kx := 3) fp_X6_22 dX6_cutAt_18 rfl rfl rfl ?_
    refine aw_aload_n dX6_cutAt_21 rfl ?_
    refine aw_iload_n dX6_cutAt_22 rfl ?_
    refine aw_putI (kx := 2) fp_X6_18 dX6_cutAt_23 rfl rfl rfl ?_
    refine aw_iload_n dX6_cutAt_26 rfl ?_
    refine aw_iretF dX6_cutAt_27 rfl ?_
    exact ⟨rfl, by rw [if_pos (by omega)]⟩
def tkF_68_72 (h : am_H) : am_H := am_set (am_set (am_up (am_up h 69 (lo 8 (h 75) (h 69))) 70 (lo 8 (h 76) (h 70))) 68 2 (h 72 2)) 68 3 (h 72 3)
theorem c_X6_takeFrom_68_72 {h : am_H} : AMet GC mX6_takeFrom 1 [am_R 68, am_R 72] h (am_FV (tkF_68_72 h)) := by
  refine am_start [some (am_R 68), some (am_R 72)] rfl rfl (by decide) (Nat.le_of_ble_eq_true rfl) ?_
  refine aw_aload_n dX6_takeFrom_0 rfl ?_
  refine aw_getR (kx := 0) fl_X6_9 dX6_takeFrom_1 rfl rfl rfl ?_
  refine aw_iconst dX6_takeFrom_4 ?_
  refine aw_aload_n dX6_takeFrom_5 rfl ?_
  refine aw_getR (kx := 0) fl_X6_9 dX6_takeFrom_6 rfl rfl rfl ?_
  refine aw_iconst dX6_takeFrom_9 ?_
  refine aw_bipush (by decide) dX6_takeFrom_10 ?_
  refine aw_copy lc_X6_25 dX6_takeFrom_12 rfl rfl (by decide) (by decide) (by omega) (by omega) (by omega) (by decide) (fun _ => Nat.le_of_ble_eq_true rfl) ?_
  refine aw_aload_n dX6_takeFrom_15 rfl ?_
  refine aw_getR (kx := 1) fl_X6_15 dX6_takeFrom_16 rfl rfl rfl ?_
  refine aw_iconst dX6_takeFrom_19 ?_
  refine aw_aload_n dX6_takeFrom_20 rfl ?_
  refine aw_getR (kx := 1) fl_X6_15 dX6_takeFrom_21 rfl rfl rfl ?_
  refine aw_iconst dX6_takeFrom_24 ?_
  refine aw_bipush (by decide) dX6_takeFrom_25 ?_
  refine aw_copy lc_X6_25 dX6_takeFrom_27 rfl rfl (by decide) (by decide) (by omega) (by omega) (by omega) (by decide) (fun _ => Nat.le_of_ble_eq_true rfl) ?_
  refine aw_aload_n dX6_takeFrom_30 rfl ?_
  refine aw_aload_n dX6_takeFrom_31 rfl ?_
  refine aw_getI (kx := 2) fl_X6_18 dX6_takeFrom_32 rfl rfl rfl ?_
  refine aw_putI (kx := 2) fp_X6_18 dX6_takeFrom_35 rfl rfl rfl ?_
  refine aw_aload_n dX6_takeFrom_38 rfl ?_
  refine aw_aload_n dX6_takeFrom_39 rfl ?_
  refine aw_getI (kx := 3) fl_X6_22 dX6_takeFrom_40 rfl rfl rfl ?_
  refine aw_putI (kx := 3) fp_X6_22 dX6_takeFrom_43 rfl rfl rfl ?_
  refine aw_vretF dX6_takeFrom_46 rfl ?_
  show _ = tkF_68_72 h
  unfold tkF_68_72
  rw [am_set_c (c := 68) (x := 72) (by decide), am_up_c (c := 70) (x := 72) (by decide), am_up_c (c := 69) (x := 72) (by decide), am_up_c (c := 69) (x := 76) (by decide), am_up_c (c := 69) (x := 70) (by decide), cpy_lo, cpy_lo]
def tkF_72_68 (h : am_H) : am_H := am_set (am_set (am_up (am_up h 75 (lo 8 (h 69) (h 75))) 76 (lo 8 (h 70) (h 76))) 72 2 (h 68 2)) 72 3 (h 68 3)
theorem c_X6_takeFrom_72_68 {h : am_H} : AMet GC mX6_takeFrom 1 [am_R 72, am_R 68] h (am_FV (tkF_72_68 h)) := by
  refine am_start [some (am_R 72), some (am_R 68)] rfl rfl (by decide) (Nat.le_of_ble_eq_true rfl) ?_
  refine aw_aload_n dX6_takeFrom_0 rfl ?_
  refine aw_getR (kx := 0) fl_X6_9 dX6_takeFrom_1 rfl rfl rfl ?_
  refine aw_iconst dX6_takeFrom_4 ?_
  refine aw_aload_n dX6_takeFrom_5 rfl ?_
  refine aw_getR (kx := 0) fl_X6_9 dX6_takeFrom_6 rfl rfl rfl ?_
  refine aw_iconst dX6_takeFrom_9 ?_
  refine aw_bipush (by decide) dX6_takeFrom_10 ?_
  refine aw_copy lc_X6_25 dX6_takeFrom_12 rfl rfl (by decide) (by decide) (by omega) (by omega) (by omega) (by decide) (fun _ => Nat.le_of_ble_eq_true rfl) ?_
  refine aw_aload_n dX6_takeFrom_15 rfl ?_
  refine aw_getR (kx := 1) fl_X6_15 dX6_takeFrom_16 rfl rfl rfl ?_
  refine aw_iconst dX6_takeFrom_19 ?_
  refine aw_aload_n dX6_takeFrom_20 rfl ?_
  refine aw_getR (kx := 1) fl_X6_15 dX6_takeFrom_21 rfl rfl rfl ?_
  refine aw_iconst dX6_takeFrom_24 ?_
  refine aw_bipush (by decide) dX6_takeFrom_25 ?_
  refine aw_copy lc_X6_25 dX6_takeFrom_27 rfl rfl (by decide) (by decide) (by omega) (by omega) (by omega) (by decide) (fun _ => Nat.le_of_ble_eq_true rfl) ?_
  refine aw_aload_n dX6_takeFrom_30 rfl ?_
  refine aw_aload_n dX6_takeFrom_31 rfl ?_
  refine aw_getI (kx := 2) fl_X6_18 dX6_takeFrom_32 rfl rfl rfl ?_
  refine aw_putI (kx := 2) fp_X6_18 dX6_takeFrom_35 rfl rfl rfl ?_
  refine aw_aload_n dX6_takeFrom_38 rfl ?_
  refine aw_aload_n dX6_takeFrom_39 rfl ?_
  refine aw_getI (kx := 3) fl_X6_22 dX6_takeFrom_40 rfl rfl rfl ?_
  refine aw_putI (kx := 3) fp_X6_22 dX6_takeFrom_43 rfl rfl rfl ?_
  refine aw_vretF dX6_takeFrom_46 rfl ?_
  show _ = tkF_72_68 h
  unfold tkF_72_68
  rw [am_set_c (c := 72) (x := 68) (by decide), am_up_c (c := 76) (x := 68) (by decide), am_up_c (c := 75) (x := 68) (by decide), am_up_c (c := 75) (x := 70) (by decide), am_up_c (c := 75) (x := 76) (by decide), cpy_lo, cpy_lo]
def tkF_68_73 (h : am_H) : am_H := am_set (am_set (am_up (am_up h 69 (lo 8 (h 77) (h 69))) 70 (lo 8 (h 78) (h 70))) 68 2 (h 73 2)) 68 3 (h 73 3)
theorem c_X6_takeFrom_68_73 {h : am_H} : AMet GC mX6_takeFrom 1 [am_R 68, am_R 73] h (am_FV (tkF_68_73 h)) := by
  refine am_start [some (am_R 68), some (am_R 73)] rfl rfl (by decide) (Nat.le_of_ble_eq_true rfl) ?_
  refine aw_aload_n dX6_takeFrom_0 rfl ?_
  refine aw_getR (kx := 0) fl_X6_9 dX6_takeFrom_1 rfl rfl rfl ?_
  refine aw_iconst dX6_takeFrom_4 ?_
  refine aw_aload_n dX6_takeFrom_5 rfl ?_
  refine aw_getR (kx := 0) fl_X6_9 dX6_takeFrom_6 rfl rfl rfl ?_
  refine aw_iconst dX6_takeFrom_9 ?_
  refine aw_bipush (by decide) dX6_takeFrom_10 ?_
  refine aw_copy lc_X6_25 dX6_takeFrom_12 rfl rfl (by decide) (by decide) (by omega) (by omega) (by omega) (by decide) (fun _ => Nat.le_of_ble_eq_true rfl) ?_
  refine aw_aload_n dX6_takeFrom_15 rfl ?_
  refine aw_getR (kx := 1) fl_X6_15 dX6_takeFrom_16 rfl rfl rfl ?_
  refine aw_iconst dX6_takeFrom_19 ?_
  refine aw_aload_n dX6_takeFrom_20 rfl ?_
  refine aw_getR (kx := 1) fl_X6_15 dX6_takeFrom_21 rfl rfl rfl ?_
  refine aw_iconst dX6_takeFrom_24 ?_
  refine aw_bipush (by decide) dX6_takeFrom_25 ?_
  refine aw_copy lc_X6_25 dX6_takeFrom_27 rfl rfl (by decide) (by decide) (by omega) (by omega) (by omega) (by decide) (fun _ => Nat.le_of_ble_eq_true rfl) ?_
  refine aw_aload_n dX6_takeFrom_30 rfl ?_
  refine aw_aload_n dX6_takeFrom_31 rfl ?_
  refine aw_getI (kx := 2) fl_X6_18 dX6_takeFrom_32 rfl rfl rfl ?_
  refine aw_putI (kx := 2) fp_X6_18 dX6_takeFrom_35 rfl rfl rfl ?_
  refine aw_aload_n dX6_takeFrom_38 rfl ?_
  refine aw_aload_n dX6_takeFrom_39 rfl ?_
  refine aw_getI (kx := 3) fl_X6_22 dX6_takeFrom_40 rfl rfl rfl ?_
  refine aw_putI (kx := 3) fp_X6_22 dX6_takeFrom_43 rfl rfl rfl ?_
  refine aw_vretF dX6_takeFrom_46 rfl ?_
  show _ = tkF_68_73 h
  unfold tkF_68_73
  rw [am_set_c (c := 68) (x := 73) (by decide), am_up_c (c := 70) (x := 73) (by decide), am_up_c (c := 69) (x := 73) (by decide), am_up_c (c := 69) (x := 78) (by decide), am_up_c (c := 69) (x := 70) (by decide), cpy_lo, cpy_lo]
def tkF_73_68 (h : am_H) : am_H := am_set (am_set (am_up (am_up h 77 (lo 8 (h 69) (h 77))) 78 (lo 8 (h 70) (h 78))) 73 2 (h 68 2)) 73 3 (h 68 3)
theorem c_X6_takeFrom_73_68 {h : am_H} : AMet GC mX6_takeFrom 1 [am_R 73, am_R 68] h (am_FV (tkF_73_68 h)) := by
  refine am_start [some (am_R 73), some (am_R 68)] rfl rfl (by decide) (Nat.le_of_ble_eq_true rfl) ?_
  refine aw_aload_n dX6_takeFrom_0 rfl ?_
  refine aw_getR (kx := 0) fl_X6_9 dX6_takeFrom_1 rfl rfl rfl ?_
  refine aw_iconst dX6_takeFrom_4 ?_
  refine aw_aload_n dX6_takeFrom_5 rfl ?_
  refine aw_getR (kx := 0) fl_X6_9 dX6_takeFrom_6 rfl rfl rfl ?_
  refine aw_iconst dX6_takeFrom_9 ?_
  refine aw_bipush (by decide) dX6_takeFrom_10 ?_
  refine aw_copy lc_X6_25 dX6_takeFrom_12 rfl rfl (by decide) (by decide) (by omega) (by omega) (by omega) (by decide) (fun _ => Nat.le_of_ble_eq_true rfl) ?_
  refine aw_aload_n dX6_takeFrom_15 rfl ?_
  refine aw_getR (kx := 1) fl_X6_15 dX6_takeFrom_16 rfl rfl rfl ?_
  refine aw_iconst dX6_takeFrom_19 ?_
  refine aw_aload_n dX6_takeFrom_20 rfl ?_
  refine aw_getR (kx := 1) fl_X6_15 dX6_takeFrom_21 rfl rfl rfl ?_
  refine aw_iconst dX6_takeFrom_24 ?_
  refine aw_bipush (by decide) dX6_takeFrom_25 ?_
  refine aw_copy lc_X6_25 dX6_takeFrom_27 rfl rfl (by decide) (by decide) (by omega) (by omega) (by omega) (by decide) (fun _ => Nat.le_of_ble_eq_true rfl) ?_
  refine aw_aload_n dX6_takeFrom_30 rfl ?_
  refine aw_aload_n dX6_takeFrom_31 rfl ?_
  refine aw_getI (kx := 2) fl_X6_18 dX6_takeFrom_32 rfl rfl rfl ?_
  refine aw_putI (kx := 2) fp_X6_18 dX6_takeFrom_35 rfl rfl rfl ?_
  refine aw_aload_n dX6_takeFrom_38 rfl ?_
  refine aw_aload_n dX6_takeFrom_39 rfl ?_
  refine aw_getI (kx := 3) fl_X6_22 dX6_takeFrom_40 rfl rfl rfl ?_
  refine aw_putI (kx := 3) fp_X6_22 dX6_takeFrom_43 rfl rfl rfl ?_
  refine aw_vretF dX6_takeFrom_46 rfl ?_
  show _ = tkF_73_68 h
  unfold tkF_73_68
  rw [am_set_c (c := 73) (x := 68) (by decide), am_up_c (c := 78) (x := 68) (by decide), am_up_c (c := 77) (x := 68) (by decide), am_up_c (c := 77) (x := 70) (by decide), am_up_c (c := 77) (x := 78) (by decide), cpy_lo, cpy_lo]
def tkF_68_74 (h : am_H) : am_H := am_set (am_set (am_up (am_up h 69 (lo 8 (h 79) (h 69))) 70 (lo 8 (h 80) (h 70))) 68 2 (h 74 2)) 68 3 (h 74 3)
theorem c_X6_takeFrom_68_74 {h : am_H} : AMet GC mX6_takeFrom 1 [am_R 68, am_R 74] h (am_FV (tkF_68_74 h)) := by
  refine am_start [some (am_R 68), some (am_R 74)] rfl rfl (by decide) (Nat.le_of_ble_eq_true rfl) ?_
  refine aw_aload_n dX6_takeFrom_0 rfl ?_
  refine aw_getR (kx := 0) fl_X6_9 dX6_takeFrom_1 rfl rfl rfl ?_
  refine aw_iconst dX6_takeFrom_4 ?_
  refine aw_aload_n dX6_takeFrom_5 rfl ?_
  refine aw_getR (kx := 0) fl_X6_9 dX6_takeFrom_6 rfl rfl rfl ?_
  refine aw_iconst dX6_takeFrom_9 ?_
  refine aw_bipush (by decide) dX6_takeFrom_10 ?_
  refine aw_copy lc_X6_25 dX6_takeFrom_12 rfl rfl (by decide) (by decide) (by omega) (by omega) (by omega) (by decide) (fun _ => Nat.le_of_ble_eq_true rfl) ?_
  refine aw_aload_n dX6_takeFrom_15 rfl ?_
  refine aw_getR (kx := 1) fl_X6_15 dX6_takeFrom_16 rfl rfl rfl ?_
  refine aw_iconst dX6_takeFrom_19 ?_
  refine aw_aload_n dX6_takeFrom_20 rfl ?_
  refine aw_getR (kx := 1) fl_X6_15 dX6_takeFrom_21 rfl rfl rfl ?_
  refine aw_iconst dX6_takeFrom_24 ?_
  refine aw_bipush (by decide) dX6_takeFrom_25 ?_
  refine aw_copy lc_X6_25 dX6_takeFrom_27 rfl rfl (by decide) (by decide) (by omega) (by omega) (by omega) (by decide) (fun _ => Nat.le_of_ble_eq_true rfl) ?_
  refine aw_aload_n dX6_takeFrom_30 rfl ?_
  refine aw_aload_n dX6_takeFrom_31 rfl ?_
  refine aw_getI (kx := 2) fl_X6_18 dX6_takeFrom_32 rfl rfl rfl ?_
  refine aw_putI (kx := 2) fp_X6_18 dX6_takeFrom_35 rfl rfl rfl ?_
  refine aw_aload_n dX6_takeFrom_38 rfl ?_
  refine aw_aload_n dX6_takeFrom_39 rfl ?_
  refine aw_getI (kx := 3) fl_X6_22 dX6_takeFrom_40 rfl rfl rfl ?_
  refine aw_putI (kx := 3) fp_X6_22 dX6_takeFrom_43 rfl rfl rfl ?_
  refine aw_vretF dX6_takeFrom_46 rfl ?_
  show _ = tkF_68_74 h
  unfold tkF_68_74
  rw [am_set_c (c := 68) (x := 74) (by decide), am_up_c (c := 70) (x := 74) (by decide), am_up_c (c := 69) (x := 74) (by decide), am_up_c (c := 69) (x := 80) (by decide), am_up_c (c := 69) (x := 70) (by decide), cpy_lo, cpy_lo]
def tkF_74_68 (h : am_H) : am_H := am_set (am_set (am_up (am_up h 79 (lo 8 (h 69) (h 79))) 80 (lo 8 (h 70) (h 80))) 74 2 (h 68 2)) 74 3 (h 68 3)
theorem c_X6_takeFrom_74_68 {h : am_H} : AMet GC mX6_takeFrom 1 [am_R 74, am_R 68] h (am_FV (tkF_74_68 h)) := by
  refine am_start [some (am_R 74), some (am_R 68)] rfl rfl (by decide) (Nat.le_of_ble_eq_true rfl) ?_
  refine aw_aload_n dX6_takeFrom_0 rfl ?_
  refine aw_getR (kx := 0) fl_X6_9 dX6_takeFrom_1 rfl rfl rfl ?_
  refine aw_iconst dX6_takeFrom_4 ?_
  refine aw_aload_n dX6_takeFrom_5 rfl ?_
  refine aw_getR (kx := 0) fl_X6_9 dX6_takeFrom_6 rfl rfl rfl ?_
  refine aw_iconst dX6_takeFrom_9 ?_
  refine aw_bipush (by decide) dX6_takeFrom_10 ?_
  refine aw_copy lc_X6_25 dX6_takeFrom_12 rfl rfl (by decide) (by decide) (by omega) (by omega) (by omega) (by decide) (fun _ => Nat.le_of_ble_eq_true rfl) ?_
  refine aw_aload_n dX6_takeFrom_15 rfl ?_
  refine aw_getR (kx := 1) fl_X6_15 dX6_takeFrom_16 rfl rfl rfl ?_
  refine aw_iconst dX6_takeFrom_19 ?_
  refine aw_aload_n dX6_takeFrom_20 rfl ?_
  refine aw_getR (kx := 1) fl_X6_15 dX6_takeFrom_21 rfl rfl rfl ?_
  refine aw_iconst dX6_takeFrom_24 ?_
  refine aw_bipush (by decide) dX6_takeFrom_25 ?_
  refine aw_copy lc_X6_25 dX6_takeFrom_27 rfl rfl (by decide) (by decide) (by omega) (by omega) (by omega) (by decide) (fun _ => Nat.le_of_ble_eq_true rfl) ?_
  refine aw_aload_n dX6_takeFrom_30 rfl ?_
  refine aw_aload_n dX6_takeFrom_31 rfl ?_
  refine aw_getI (kx := 2) fl_X6_18 dX6_takeFrom_32 rfl rfl rfl ?_
  refine aw_putI (kx := 2) fp_X6_18 dX6_takeFrom_35 rfl rfl rfl ?_
  refine aw_aload_n dX6_takeFrom_38 rfl ?_
  refine aw_aload_n dX6_takeFrom_39 rfl ?_
  refine aw_getI (kx := 3) fl_X6_22 dX6_takeFrom_40 rfl rfl rfl ?_
  refine aw_putI (kx := 3) fp_X6_22 dX6_takeFrom_43 rfl rfl rfl ?_
  refine aw_vretF dX6_takeFrom_46 rfl ?_
  show _ = tkF_74_68 h
  unfold tkF_74_68
  rw [am_set_c (c := 74) (x := 68) (by decide), am_up_c (c := 80) (x := 68) (by decide), am_up_c (c := 79) (x := 68) (by decide), am_up_c (c := 79) (x := 70) (by decide), am_up_c (c := 79) (x := 80) (by decide), cpy_lo, cpy_lo]
def cgnF (g : am_H) : Nat → Int
  | 0 => 0
  | i + 1 => cgnF g i + yrK (g 5 (g 7 (g 14 i)))
theorem lp_X6_gone {h g : am_H} (hs : MVs g) (hy : MVy g) (hR : SpR h g) (hY : YrR h 68 69 70 (g 0 18) (g 0 19) (g 14) (g 15)) : ∀ (m i : Nat), (i : Int) ≤ g 0 18 → g 0 18 - i < m → AW GC mX6_gone 2 (am_FI (cgnF g (g 0 18).toNat) h) 4 [some (am_R 68), some (am_R 15), some (am_I (cgnF g i)), some (am_I i)] [] h := by
  have hnn := hs.1
  have hw := hs.2.1
  have hm := hy.1
  have e1 := hY.1
  intro m
  induction m with
  | zero => intro i h1 h2; omega
  | succ m ih =>
    intro i h1 h2
    by_cases hlt : (i : Int) < g 0 18
    · have hv := (hy.2.2 i (by omega) hlt).1
      have hv2 := (hs.2.2.2.2.1 _ hv.1 hv.2).1
      have q1 := (hY.2.2 i (by omega) hlt).1
      have q2 := (hR.2.2.2.1 _ hv.1 hv.2).1
      refine aw_iload_n dX6_gone_4 rfl ?_
      refine aw_aload_n dX6_gone_5 rfl ?_
      refine aw_getI (kx := 2) fl_X6_18 dX6_gone_6 rfl rfl rfl ?_
      refine aw_icmp_ge (tgt := 36) dX6_gone_9 rfl (by omega) (by omega) (fun hc9 => ?_) (fun hc9 => ?_)
      · omega
      · refine aw_iload_n dX6_gone_12 rfl ?_
        refine aw_aload_n dX6_gone_13 rfl ?_
        refine aw_aload_n dX6_gone_14 rfl ?_
        refine aw_getR (kx := 7) fl_X6_36 dX6_gone_15 rfl rfl rfl ?_
        refine aw_aload_n dX6_gone_18 rfl ?_
        refine aw_getR (kx := 0) fl_X6_9 dX6_gone_19 rfl rfl rfl ?_
        refine aw_iload_n dX6_gone_22 rfl ?_
        refine aw_iaload dX6_gone_23 rfl (by decide) (by omega) ?_
        refine aw_top q1 ?_
        refine aw_iaload dX6_gone_24 rfl (by decide) (by omega) ?_
        refine aw_top q2 ?_
        refine aw_cV1IF (c_X5_yearsOfWord hs hR (by omega)) lk_X6_45 dX6_gone_25 (by decide) rfl rfl (fun _ => Nat.le_of_ble_eq_true rfl) ?_
        refine aw_iadd dX6_gone_28 ?_
        refine aw_istore_2 dX6_gone_29 (by decide) rfl ?_
        refine aw_iinc3 dX6_gone_30 (by decide) rfl ?_
        refine aw_goto (tgt := 4) dX6_gone_33 rfl ?_
        exact ih (i + 1) (by omega) (by omega)
    · refine aw_iload_n dX6_gone_4 rfl ?_
      refine aw_aload_n dX6_gone_5 rfl ?_
      refine aw_getI (kx := 2) fl_X6_18 dX6_gone_6 rfl rfl rfl ?_
      refine aw_icmp_ge (tgt := 36) dX6_gone_9 rfl (by omega) (by omega) (fun hc9 => ?_) (fun hc9 => ?_)
      · refine aw_iload_n dX6_gone_36 rfl ?_
        refine aw_iretF dX6_gone_37 rfl ?_
        exact ⟨by rw [show (g 0 18).toNat = i by omega], rfl⟩
      · omega
theorem c_X6_gone {h g : am_H} (hs : MVs g) (hy : MVy g) (hR : SpR h g) (hY : YrR h 68 69 70 (g 0 18) (g 0 19) (g 14) (g 15)) : AMet GC mX6_gone 2 [am_R 68, am_R 15] h (am_FI (cgnF g (g 0 18).toNat) h) := by
  have hm := hy.1
  refine am_start [some (am_R 68), some (am_R 15), none, none] rfl rfl (by decide) (Nat.le_of_ble_eq_true rfl) ?_
  refine aw_iconst dX6_gone_0 ?_
  refine aw_istore_2 dX6_gone_1 (by decide) rfl ?_
  refine aw_iconst dX6_gone_2 ?_
  refine aw_istore_3 dX6_gone_3 (by decide) rfl ?_
  exact lp_X6_gone hs hy hR hY 9 0 (by omega) (by omega)
