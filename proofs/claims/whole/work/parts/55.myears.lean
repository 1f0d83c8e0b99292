def sayF (g : am_H) (k : Int) : am_H := am_set (am_set (am_set (am_set g 14 (g 0 18) k) 15 (g 0 18) (g 0 19)) 0 19 (gon (g 5 (g 7 k)) (g 0 19))) 0 18 (g 0 18 + 1)
theorem c_X8_sayNow {g : am_H} {k : Int} (hs : MVs g) (hk : 0 ≤ k ∧ k < g 0 10) (hm : 0 ≤ g 0 18 ∧ g 0 18 < 8) (hst : -2147483648 ≤ g 0 19 ∧ g 0 19 < 2147483648) : AMet GM mX8_sayNow 4 [am_R 0, am_I k] g (am_FV (sayF g k)) := by
  have h2 := hs.2.1
  have hnn := hs.1
  have hv := (hs.2.2.2.2.1 k hk.1 hk.2).1
  have hkd := (hs.2.2.2.1 (g 7 k) (by omega) (by omega)).1
  refine am_start [some (am_R 0), some (am_I k)] rfl rfl (by decide) (Nat.le_of_ble_eq_true rfl) ?_
  refine aw_aload_n dX8_sayNow_0 rfl ?_
  refine aw_getR (kx := 16) fl_X8_49 dX8_sayNow_1 rfl rfl rfl ?_
  refine aw_aload_n dX8_sayNow_4 rfl ?_
  refine aw_getI (kx := 18) fl_X8_216 dX8_sayNow_5 rfl rfl rfl ?_
  refine aw_iload_n dX8_sayNow_8 rfl ?_
  refine aw_iastore dX8_sayNow_9 rfl (by decide) (by omega) ?_
  have e0 : am_set g 14 (g 0 18) k 0 = g 0 := am_set_c (by decide)
  refine aw_aload_n dX8_sayNow_10 rfl ?_
  refine aw_getR (kx := 17) fl_X8_52 dX8_sayNow_11 rfl rfl rfl ?_
  refine aw_aload_n dX8_sayNow_14 rfl ?_
  refine aw_getI (kx := 18) fl_X8_216 dX8_sayNow_15 rfl rfl rfl ?_
  refine aw_aload_n dX8_sayNow_18 rfl ?_
  refine aw_getI (kx := 19) fl_X8_219 dX8_sayNow_19 rfl rfl rfl ?_
  refine aw_iastore dX8_sayNow_22 rfl (by decide) (by rw [am_set_c (by decide)]; omega) ?_
  rw [e0]
  have e1 : am_set (am_set g 14 (g 0 18) k) 15 (g 0 18) (g 0 19) 0 = g 0 := by rw [am_set_c (by decide), e0]
  have e7 : am_set (am_set g 14 (g 0 18) k) 15 (g 0 18) (g 0 19) 7 = g 7 := by rw [am_set_c (by decide), am_set_c (by decide)]
  have e5 : am_set (am_set g 14 (g 0 18) k) 15 (g 0 18) (g 0 19) 5 = g 5 := by rw [am_set_c (by decide), am_set_c (by decide)]
  refine aw_aload_n dX8_sayNow_23 rfl ?_
  refine aw_aload_n dX8_sayNow_24 rfl ?_
  refine aw_aload_n dX8_sayNow_25 rfl ?_
  refine aw_getR (kx := 7) fl_X8_28 dX8_sayNow_26 rfl rfl rfl ?_
  refine aw_iload_n dX8_sayNow_29 rfl ?_
  refine aw_iaload dX8_sayNow_30 rfl (by decide) (by omega) ?_
  rw [e7]
  refine aw_aload_n dX8_sayNow_31 rfl ?_
  refine aw_getI (kx := 19) fl_X8_219 dX8_sayNow_32 rfl rfl rfl ?_
  rw [e1]
  refine aw_cV2IF (c_X8_goneOn (by omega) (by rw [e5]; omega) (by omega)) lk_X8_271 dX8_sayNow_35 (by decide) rfl rfl (fun _ => Nat.le_of_ble_eq_true rfl) ?_
  rw [e5]
  refine aw_putI (kx := 19) fp_X8_219 dX8_sayNow_38 rfl rfl rfl ?_
  refine aw_aload_n dX8_sayNow_41 rfl ?_
  first | refine aw_dupR dX8_sayNow_42 ?_ | refine aw_dupI dX8_sayNow_42 ?_
  refine aw_getI (kx := 18) fl_X8_216 dX8_sayNow_43 rfl rfl rfl ?_
  refine aw_iconst dX8_sayNow_46 ?_
  refine aw_iadd dX8_sayNow_47 ?_
  refine aw_putI (kx := 18) fp_X8_216 dX8_sayNow_48 rfl rfl rfl ?_
  refine aw_vretF dX8_sayNow_51 rfl ?_
  unfold sayF; rw [am_set_i (by decide), e1]
/-- states of deeds -/
def VS (of : Int) : Prop := 0 ≤ of ∧ of < 1536 ∧ ((hw of 0 ≠ 1 ∧ hw of 1 ≠ 1 ∧ hw of 2 ≠ 1 ∧ hw of 3 ≠ 1 ∧ of < 256) ∨ (256 ≤ of ∧ ((hw of 0 = 1 ∧ hw of 1 ≠ 1 ∧ hw of 2 ≠ 1 ∧ hw of 3 ≠ 1) ∨ (hw of 0 ≠ 1 ∧ hw of 1 = 1 ∧ hw of 2 ≠ 1 ∧ hw of 3 ≠ 1) ∨ (hw of 0 ≠ 1 ∧ hw of 1 ≠ 1 ∧ hw of 2 = 1 ∧ hw of 3 ≠ 1) ∨ (hw of 0 ≠ 1 ∧ hw of 1 ≠ 1 ∧ hw of 2 ≠ 1 ∧ hw of 3 = 1))))
def MVd (g : am_H) : Prop := VS (g 0 19) ∧ (∀ i : Int, 0 ≤ i → i < g 0 18 → VS (g 15 i)) ∧ (∀ d : Int, g 0 15 ≤ d → d < 4 → hw (g 0 19) d = 0)
def S_say (g : am_H) (k : Int) : Int × am_H := if ¬ (0 ≤ k ∧ k ≤ g 0 10 - 1) then (-1, g) else if g 7 k = nowF g then (g 8 k, sayF g k) else (-4, g)
theorem c_X8_say {g : am_H} {k : Int} (hs : MVs g) (hy : MVy g) (hd : VS (g 0 19)) (hk : -2147483648 ≤ k ∧ k < 2147483648) : AMet GM mX8_say 5 [am_R 0, am_I k] g (QM (S_say g k)) := by
  have h2 := hs.2.1
  have hnn := hs.1
  have hn := now_rng hs hy
  have hm := hy.1
  have hv := hs.2.2.2.2.1 k
  have hd1 := hd.1
  have hd2 := hd.2.1
  refine am_start [some (am_R 0), some (am_I k)] rfl rfl (by decide) (Nat.le_of_ble_eq_true rfl) ?_
  refine aw_aload_n dX8_say_0 rfl ?_
  refine aw_iload_n dX8_say_1 rfl ?_
  refine aw_cV1IF (c_X8_isWord hs (by omega)) lk_X8_237 dX8_say_2 (by decide) rfl rfl (fun _ => Nat.le_of_ble_eq_true rfl) ?_
  refine aw_ifb_ne (tgt := 10) dX8_say_5 rfl (fun hc5 => ?_) (fun hc5 => ?_)
  · have hv2 := (hv (by omega) (by omega)).1
    refine aw_aload_n dX8_say_10 rfl ?_
    refine aw_getR (kx := 7) fl_X8_28 dX8_say_11 rfl rfl rfl ?_
    refine aw_iload_n dX8_say_14 rfl ?_
    refine aw_iaload dX8_say_15 rfl (by decide) (by omega) ?_
    refine aw_aload_n dX8_say_16 rfl ?_
    refine aw_cV0IF (c_X8_whereNow hs hy) lk_X8_274 dX8_say_17 (by decide) rfl rfl (fun _ => Nat.le_of_ble_eq_true rfl) ?_
    refine aw_icmp_eq (tgt := 26) dX8_say_20 rfl (by omega) (by omega) (fun hc20 => ?_) (fun hc20 => ?_)
    · refine aw_aload_n dX8_say_26 rfl ?_
      refine aw_iload_n dX8_say_27 rfl ?_
      refine aw_cV1VF (c_X8_sayNow hs (by omega) (by omega) (by omega)) lk_X8_278 dX8_say_28 (by decide) rfl rfl (fun _ => Nat.le_of_ble_eq_true rfl) ?_
      refine aw_aload_n dX8_say_31 rfl ?_
      refine aw_getR (kx := 8) fl_X8_31 dX8_say_32 rfl rfl rfl ?_
      refine aw_iload_n dX8_say_35 rfl ?_
      refine aw_iaload dX8_say_36 rfl (by decide) (by omega) ?_
      refine aw_iretQ dX8_say_37 rfl ?_
      rw [S_say, if_neg (by omega), if_pos (by omega)]
      refine ⟨?_, MEq.rf _⟩
      show sayF g k 8 k = g 8 k
      unfold sayF; rw [am_set_c (by decide), am_set_c (by decide), am_set_c (by decide), am_set_c (by decide)]
    · refine aw_bipush (by decide) dX8_say_23 ?_
      refine aw_iretQ dX8_say_25 rfl ?_
      rw [S_say, if_neg (by omega), if_neg (by omega)]; exact ⟨rfl, MEq.rf _⟩
  · refine aw_iconst dX8_say_8 ?_
    refine aw_iretQ dX8_say_9 rfl ?_
    rw [S_say, if_pos (by omega)]; exact ⟨rfl, MEq.rf _⟩
def S_begin (g : am_H) (d : Int) : Int × am_H := if ¬ (0 ≤ d ∧ d ≤ g 0 15 - 1) then (-1, g) else if cbg (g 0 19) d ∧ ¬ dgF g (nowF g) = 0 then (g 10 d, am_set g 0 19 (bgw (g 10 d) (g 0 19) d)) else (-4, g)
theorem c_X8_begin {g : am_H} {d : Int} (hs : MVs g) (hy : MVy g) (hk : -2147483648 ≤ d ∧ d < 2147483648) : AMet GM mX8_begin 4 [am_R 0, am_I d] g (QM (S_begin g d)) := by
  have h2 := hs.2.2.1
  have hn := now_rng hs hy
  refine am_start [some (am_R 0), some (am_I d)] rfl rfl (by decide) (Nat.le_of_ble_eq_true rfl) ?_
  refine aw_aload_n dX8_begin_0 rfl ?_
  refine aw_iload_n dX8_begin_1 rfl ?_
  refine aw_cV1IF (c_X8_isDeed hs (by omega)) lk_X8_248 dX8_begin_2 (by decide) rfl rfl (fun _ => Nat.le_of_ble_eq_true rfl) ?_
  refine aw_ifb_ne (tgt := 10) dX8_begin_5 rfl (fun hc5 => ?_) (fun hc5 => ?_)
  · refine aw_aload_n dX8_begin_10 rfl ?_
    refine aw_aload_n dX8_begin_11 rfl ?_
    refine aw_getI (kx := 19) fl_X8_219 dX8_begin_12 rfl rfl rfl ?_
    refine aw_iload_n dX8_begin_15 rfl ?_
    refine aw_cV2IF (c_X8_canBegin) lk_X8_281 dX8_begin_16 (by decide) rfl rfl (fun _ => Nat.le_of_ble_eq_true rfl) ?_
    refine aw_ifb_eq (tgt := 33) dX8_begin_19 rfl (fun hc19 => ?_) (fun hc19 => ?_)
    · refine aw_bipush (by decide) dX8_begin_33 ?_
      refine aw_iretQ dX8_begin_35 rfl ?_
      rw [S_begin, if_neg (by omega), if_neg (fun z => hc19 z.1)]; exact ⟨rfl, MEq.rf _⟩
    · refine aw_aload_n dX8_begin_22 rfl ?_
      refine aw_aload_n dX8_begin_23 rfl ?_
      refine aw_cV0IF (c_X8_whereNow hs hy) lk_X8_274 dX8_begin_24 (by decide) rfl rfl (fun _ => Nat.le_of_ble_eq_true rfl) ?_
      refine aw_cV1IF (c_X8_isOver hs (by omega)) lk_X8_225 dX8_begin_27 (by decide) rfl rfl (fun _ => Nat.le_of_ble_eq_true rfl) ?_
      refine aw_ifb_eq (tgt := 36) dX8_begin_30 rfl (fun hc30 => ?_) (fun hc30 => ?_)
      · refine aw_aload_n dX8_begin_36 rfl ?_
        refine aw_aload_n dX8_begin_37 rfl ?_
        refine aw_aload_n dX8_begin_38 rfl ?_
        refine aw_getI (kx := 19) fl_X8_219 dX8_begin_39 rfl rfl rfl ?_
        refine aw_iload_n dX8_begin_42 rfl ?_
        refine aw_cV2IF (c_X8_begunWith (by omega)) lk_X8_284 dX8_begin_43 (by decide) rfl rfl (fun _ => Nat.le_of_ble_eq_true rfl) ?_
        refine aw_putI (kx := 19) fp_X8_219 dX8_begin_46 rfl rfl rfl ?_
        refine aw_aload_n dX8_begin_49 rfl ?_
        refine aw_getR (kx := 11) fl_X8_37 dX8_begin_50 rfl rfl rfl ?_
        refine aw_iload_n dX8_begin_53 rfl ?_
        refine aw_iaload dX8_begin_54 rfl (by decide) (by omega) ?_
        refine aw_iretQ dX8_begin_55 rfl ?_
        rw [S_begin, if_neg (by omega), if_pos ⟨hc19, hc30⟩]
        exact ⟨by rw [am_set_c (by decide)], MEq.rf _⟩
      · refine aw_bipush (by decide) dX8_begin_33 ?_
        refine aw_iretQ dX8_begin_35 rfl ?_
        rw [S_begin, if_neg (by omega), if_neg (fun z => z.2 hc30)]; exact ⟨rfl, MEq.rf _⟩
  · refine aw_iconst dX8_begin_8 ?_
    refine aw_iretQ dX8_begin_9 rfl ?_
    rw [S_begin, if_pos (by omega)]; exact ⟨rfl, MEq.rf _⟩
def S_undo (g : am_H) (n : Int) : Int × am_H := if 0 ≤ n ∧ n ≤ g 0 18 then (g 0 18 - n, am_set (am_set g 0 19 (if 0 < g 0 18 - n then g 15 n else g 0 19)) 0 18 n) else (-1, g)
theorem c_X8_undo {g : am_H} {n : Int} (hy : MVy g) (hk : -2147483648 ≤ n ∧ n < 2147483648) : AMet GM mX8_undo 2 [am_R 0, am_I n] g (QM (S_undo g n)) := by
  have hm := hy.1
  refine am_start [some (am_R 0), some (am_I n), none] rfl rfl (by decide) (Nat.le_of_ble_eq_true rfl) ?_
  refine aw_iload_n dX8_undo_0 rfl ?_
  refine aw_i2l (by omega) dX8_undo_1 ?_
  refine aw_lconst (v := 0) dX8_undo_2 rfl ?_
  refine aw_aload_n dX8_undo_3 rfl ?_
  refine aw_getI (kx := 18) fl_X8_216 dX8_undo_4 rfl rfl rfl ?_
  refine aw_i2l (by omega) dX8_undo_7 ?_
  refine aw_cS3IF (c_X8_in (by omega) (by omega) (by omega)) lk_X8_133 dX8_undo_8 (by decide) (fun _ => Nat.le_of_ble_eq_true rfl) ?_
  refine aw_ifb_ne (tgt := 16) dX8_undo_11 rfl (fun hc11 => ?_) (fun hc11 => ?_)
  · refine aw_aload_n dX8_undo_16 rfl ?_
    refine aw_getI (kx := 18) fl_X8_216 dX8_undo_17 rfl rfl rfl ?_
    refine aw_iload_n dX8_undo_20 rfl ?_
    refine aw_isub dX8_undo_21 ?_
    refine aw_istore_2 dX8_undo_22 (by decide) rfl ?_
    refine aw_aload_n dX8_undo_23 rfl ?_
    refine aw_iload_n dX8_undo_24 rfl ?_
    refine aw_if_le (tgt := 37) dX8_undo_25 rfl (by omega) (fun hc25 => ?_) (fun hc25 => ?_)
    · refine aw_aload_n dX8_undo_37 rfl ?_
      refine aw_getI (kx := 19) fl_X8_219 dX8_undo_38 rfl rfl rfl ?_
      refine aw_putI (kx := 19) fp_X8_219 dX8_undo_41 rfl rfl rfl ?_
      refine aw_aload_n dX8_undo_44 rfl ?_
      refine aw_iload_n dX8_undo_45 rfl ?_
      refine aw_putI (kx := 18) fp_X8_216 dX8_undo_46 rfl rfl rfl ?_
      refine aw_iload_n dX8_undo_49 rfl ?_
      refine aw_iretQ dX8_undo_50 rfl ?_
      rw [S_undo, if_pos (by omega), if_neg (by omega)]; exact ⟨rfl, MEq.rf _⟩
    · refine aw_aload_n dX8_undo_28 rfl ?_
      refine aw_getR (kx := 17) fl_X8_52 dX8_undo_29 rfl rfl rfl ?_
      refine aw_iload_n dX8_undo_32 rfl ?_
      refine aw_iaload dX8_undo_33 rfl (by decide) (by omega) ?_
      refine aw_goto (tgt := 41) dX8_undo_34 rfl ?_
      refine aw_putI (kx := 19) fp_X8_219 dX8_undo_41 rfl rfl rfl ?_
      refine aw_aload_n dX8_undo_44 rfl ?_
      refine aw_iload_n dX8_undo_45 rfl ?_
      refine aw_putI (kx := 18) fp_X8_216 dX8_undo_46 rfl rfl rfl ?_
      refine aw_iload_n dX8_undo_49 rfl ?_
      refine aw_iretQ dX8_undo_50 rfl ?_
      rw [S_undo, if_pos (by omega), if_pos (by omega)]; exact ⟨rfl, MEq.rf _⟩
  · refine aw_iconst dX8_undo_14 ?_
    refine aw_iretQ dX8_undo_15 rfl ?_
    rw [S_undo, if_neg (by omega)]; exact ⟨rfl, MEq.rf _⟩
def yrK (k : Int) : Int := if k = 3 then 0 else 1
theorem c_X8_yearOf {g : am_H} {x : Int} (hx : 0 ≤ x ∧ x < 9) (hk : 0 ≤ g 5 x ∧ g 5 x ≤ 5) : AMet GM mX8_yearOf 1 [am_R 0, am_I x] g (am_FI (yrK (g 5 x)) g) := by
  refine am_start [some (am_R 0), some (am_I x)] rfl rfl (by decide) (Nat.le_of_ble_eq_true rfl) ?_
  refine aw_aload_n dX8_yearOf_0 rfl ?_
  refine aw_getR (kx := 4) fl_X8_22 dX8_yearOf_1 rfl rfl rfl ?_
  refine aw_iload_n dX8_yearOf_4 rfl ?_
  refine aw_iaload dX8_yearOf_5 rfl (by decide) (by omega) ?_
  refine aw_iconst dX8_yearOf_6 ?_
  refine aw_icmp_ne (tgt := 14) dX8_yearOf_7 rfl (by omega) (by omega) (fun hc7 => ?_) (fun hc7 => ?_)
  · refine aw_iconst dX8_yearOf_14 ?_
    refine aw_iretF dX8_yearOf_15 rfl ?_
    exact ⟨by rw [yrK, if_neg (by omega)], rfl⟩
  · refine aw_iconst dX8_yearOf_10 ?_
    refine aw_goto (tgt := 15) dX8_yearOf_11 rfl ?_
    refine aw_iretF dX8_yearOf_15 rfl ?_
    exact ⟨by rw [yrK, if_pos (by omega)], rfl⟩
def gone (kd fr sa : Int → Int) : Nat → Int
  | 0 => 0
  | n + 1 => gone kd fr sa n + yrK (kd (fr (sa n)))
def S_here (g : am_H) : Int × am_H := if g 0 6 = 0 then (-4, g) else (nowF g, am_set g 0 20 (gone (g 5) (g 7) (g 14) (g 0 18).toNat))
theorem lp_X8_here {g : am_H} (hs : MVs g) (hy : MVy g) (h0 : ¬ g 0 6 = 0) : ∀ (m i : Nat), (i : Int) ≤ g 0 18 → g 0 18 - i < m → AW GM mX8_here 2 (QM (S_here g)) 14 [some (am_R 0), some (am_I (gone (g 5) (g 7) (g 14) i)), some (am_I i)] [] g := by
  have hm := hy.1
  have hnn := hs.1
  have hnw := hs.2.1
  intro m
  induction m with
  | zero => intro i h1 h2; omega
  | succ m ih =>
    intro i h1 h2
    have hv := hy.2.2 i (by omega)
    refine aw_iload_n dX8_here_14 rfl ?_
    refine aw_aload_n dX8_here_15 rfl ?_
    refine aw_getI (kx := 18) fl_X8_216 dX8_here_16 rfl rfl rfl ?_
    refine aw_icmp_ge (tgt := 46) dX8_here_19 rfl (by omega) (by omega) (fun hc19 => ?_) (fun hc19 => ?_)
    · refine aw_aload_n dX8_here_46 rfl ?_
      refine aw_aload_n dX8_here_47 rfl ?_
      refine aw_cV0IF (c_X8_whereNow hs hy) lk_X8_274 dX8_here_48 (by decide) rfl rfl (fun _ => Nat.le_of_ble_eq_true rfl) ?_
      refine aw_iload_n dX8_here_51 rfl ?_
      refine aw_cV2IF (c_X8_answer) lk_X8_151 dX8_here_52 (by decide) rfl rfl (fun _ => Nat.le_of_ble_eq_true rfl) ?_
      refine aw_iretQ dX8_here_55 rfl ?_
      rw [S_here, if_neg h0, show (g 0 18).toNat = i by omega]; exact ⟨rfl, MEq.rf _⟩
    · have hv2 := (hv (by omega)).1
      have hw := (hs.2.2.2.2.1 (g 14 i) (by omega) (by omega)).1
      have hkd := (hs.2.2.2.1 (g 7 (g 14 i)) (by omega) (by omega)).1
      refine aw_iload_n dX8_here_22 rfl ?_
      refine aw_aload_n dX8_here_23 rfl ?_
      refine aw_aload_n dX8_here_24 rfl ?_
      refine aw_getR (kx := 7) fl_X8_28 dX8_here_25 rfl rfl rfl ?_
      refine aw_aload_n dX8_here_28 rfl ?_
      refine aw_getR (kx := 16) fl_X8_49 dX8_here_29 rfl rfl rfl ?_
      refine aw_iload_n dX8_here_32 rfl ?_
      refine aw_iaload dX8_here_33 rfl (by decide) (by omega) ?_
      refine aw_iaload dX8_here_34 rfl (by decide) (by omega) ?_
      refine aw_cV1IF (c_X8_yearOf (by omega) (by omega)) lk_X8_287 dX8_here_35 (by decide) rfl rfl (fun _ => Nat.le_of_ble_eq_true rfl) ?_
      refine aw_iadd dX8_here_38 ?_
      refine aw_istore_1 dX8_here_39 (by decide) rfl ?_
      refine aw_iinc2 dX8_here_40 (by decide) rfl ?_
      refine aw_goto (tgt := 14) dX8_here_43 rfl ?_
      exact ih (i + 1) (by omega) (by omega)
theorem c_X8_here {g : am_H} (hs : MVs g) (hy : MVy g) : AMet GM mX8_here 2 [am_R 0] g (QM (S_here g)) := by
  have hm := hy.1
  have hnn := hs.1
  refine am_start [some (am_R 0), none, none] rfl rfl (by decide) (Nat.le_of_ble_eq_true rfl) ?_
  refine aw_aload_n dX8_here_0 rfl ?_
  refine aw_getI (kx := 6) fl_X8_207 dX8_here_1 rfl rfl rfl ?_
  refine aw_if_ne (tgt := 10) dX8_here_4 rfl (by omega) (fun hc4 => ?_) (fun hc4 => ?_)
  · refine aw_iconst dX8_here_10 ?_
    refine aw_istore_1 dX8_here_11 (by decide) rfl ?_
    refine aw_iconst dX8_here_12 ?_
    refine aw_istore_2 dX8_here_13 (by decide) rfl ?_
    exact lp_X8_here hs hy (by omega) 9 0 (by omega) (by omega)
  · refine aw_bipush (by decide) dX8_here_7 ?_
    refine aw_iretQ dX8_here_9 rfl ?_
    rw [S_here, if_pos (by omega)]; exact ⟨rfl, MEq.rf _⟩
def S_over (g : am_H) : Int × am_H := if g 0 6 = 0 then (-4, g) else if dgF g (nowF g) = 0 then (1, am_set g 0 20 (gain g (nowF g) (g 0 19))) else (0, am_set g 0 20 0)
theorem c_X8_over {g : am_H} (hs : MVs g) (hy : MVy g) : AMet GM mX8_over 3 [am_R 0] g (QM (S_over g)) := by
  have hnn := hs.1
  have hn := now_rng hs hy
  refine am_start [some (am_R 0), none] rfl rfl (by decide) (Nat.le_of_ble_eq_true rfl) ?_
  refine aw_aload_n dX8_over_0 rfl ?_
  refine aw_getI (kx := 6) fl_X8_207 dX8_over_1 rfl rfl rfl ?_
  refine aw_if_ne (tgt := 10) dX8_over_4 rfl (by omega) (fun hc4 => ?_) (fun hc4 => ?_)
  · refine aw_aload_n dX8_over_10 rfl ?_
    refine aw_aload_n dX8_over_11 rfl ?_
    refine aw_cV0IF (c_X8_whereNow hs hy) lk_X8_274 dX8_over_12 (by decide) rfl rfl (fun _ => Nat.le_of_ble_eq_true rfl) ?_
    refine aw_cV1IF (c_X8_isOver hs (by omega)) lk_X8_225 dX8_over_15 (by decide) rfl rfl (fun _ => Nat.le_of_ble_eq_true rfl) ?_
    refine aw_istore_1 dX8_over_18 (by decide) rfl ?_
    refine aw_aload_n dX8_over_19 rfl ?_
    refine aw_iload_n dX8_over_20 rfl ?_
    refine aw_if_eq (tgt := 28) dX8_over_21 rfl (by rcases @am_brng (dgF g (nowF g) = 0) _ with q | q <;> rw [q] <;> omega) (fun hc21 => ?_) (fun hc21 => ?_)
    · refine aw_iconst dX8_over_28 ?_
      refine aw_iload_n dX8_over_29 rfl ?_
      refine aw_if_eq (tgt := 48) dX8_over_30 rfl (by rcases @am_brng (dgF g (nowF g) = 0) _ with q | q <;> rw [q] <;> omega) (fun hc30 => ?_) (fun hc30 => ?_)
      · refine aw_iconst dX8_over_48 ?_
        refine aw_cV2IF (c_X8_answer) lk_X8_151 dX8_over_49 (by decide) rfl rfl (fun _ => Nat.le_of_ble_eq_true rfl) ?_
        refine aw_iretQ dX8_over_52 rfl ?_
        rw [S_over, if_neg (by omega), if_neg (am_b0.mp hc21)]; exact ⟨rfl, MEq.rf _⟩
      · exfalso; exact hc30 hc21
    · refine aw_iconst dX8_over_24 ?_
      refine aw_goto (tgt := 29) dX8_over_25 rfl ?_
      refine aw_iload_n dX8_over_29 rfl ?_
      refine aw_if_eq (tgt := 48) dX8_over_30 rfl (by rcases @am_brng (dgF g (nowF g) = 0) _ with q | q <;> rw [q] <;> omega) (fun hc30 => ?_) (fun hc30 => ?_)
      · exfalso; exact hc21 hc30
      · refine aw_aload_n dX8_over_33 rfl ?_
        refine aw_aload_n dX8_over_34 rfl ?_
        refine aw_cV0IF (c_X8_whereNow hs hy) lk_X8_274 dX8_over_35 (by decide) rfl rfl (fun _ => Nat.le_of_ble_eq_true rfl) ?_
        refine aw_aload_n dX8_over_38 rfl ?_
        refine aw_getI (kx := 19) fl_X8_219 dX8_over_39 rfl rfl rfl ?_
        refine aw_cV2IF (c_X8_gainOf hs (by omega)) lk_X8_290 dX8_over_42 (by decide) rfl rfl (fun _ => Nat.le_of_ble_eq_true rfl) ?_
        refine aw_goto (tgt := 49) dX8_over_45 rfl ?_
        refine aw_cV2IF (c_X8_answer) lk_X8_151 dX8_over_49 (by decide) rfl rfl (fun _ => Nat.le_of_ble_eq_true rfl) ?_
        refine aw_iretQ dX8_over_52 rfl ?_
        rw [S_over, if_neg (by omega), if_pos (Classical.not_not.mp (fun z => hc21 (am_b0.mpr z)))]; exact ⟨rfl, MEq.rf _⟩
  · refine aw_bipush (by decide) dX8_over_7 ?_
    refine aw_iretQ dX8_over_9 rfl ?_
    rw [S_over, if_pos (by omega)]; exact ⟨rfl, MEq.rf _⟩
