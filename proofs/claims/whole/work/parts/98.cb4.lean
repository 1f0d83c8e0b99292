def heQ (h : am_H) (sd : Int → Int) (n sl own : Int) (h' : am_H) : Prop := (∀ c : Int, ¬ c = 63 → ¬ c = 65 → h' c = h c) ∧ h' 63 0 = n ∧ h' 63 9 = sl ∧ h' 63 10 = own ∧ h' 63 1 = 0 ∧ h' 63 2 = 0 ∧ h' 63 8 = 0 ∧ ∀ i : Int, 0 ≤ i → i < n → h' 65 i = sd i
theorem c_X1_restart {h : am_H} {n sl : Int} (hn : 0 ≤ n ∧ n ≤ 8) : AMet GC mX1_restart 2 [am_R 63, am_I n, am_I sl] h (am_QV (fun h' => (∀ c : Int, ¬ c = 63 → h' c = h c) ∧ h' 63 0 = n ∧ h' 63 9 = sl ∧ h' 63 10 = -1 ∧ h' 63 1 = 0 ∧ h' 63 2 = 0 ∧ h' 63 8 = 0)) := by
  have e : (if n < 8 then n else (8 : Int)) = n := by split <;> omega
  refine am_start [some (am_R 63), some (am_I n), some (am_I sl)] rfl rfl (by decide) (Nat.le_of_ble_eq_true rfl) ?_
  refine aw_aload_n dX1_restart_0 rfl ?_
  refine aw_iload_n dX1_restart_1 rfl ?_
  refine aw_bipush (by decide) dX1_restart_2 ?_
  refine aw_cS2IF (c_J9_min (by omega) (by omega)) lk_X1_50 dX1_restart_4 (by decide) (fun _ => Nat.le_of_ble_eq_true rfl) ?_
  refine aw_top (b := n) (by omega) ?_
  refine aw_putI (kx := 0) fp_X1_32 dX1_restart_7 rfl rfl rfl ?_
  refine aw_aload_n dX1_restart_10 rfl ?_
  refine aw_iload_n dX1_restart_11 rfl ?_
  refine aw_putI (kx := 9) fp_X1_56 dX1_restart_12 rfl rfl rfl ?_
  refine aw_aload_n dX1_restart_15 rfl ?_
  refine aw_iconst dX1_restart_16 ?_
  refine aw_putI (kx := 1) fp_X1_59 dX1_restart_17 rfl rfl rfl ?_
  refine aw_aload_n dX1_restart_20 rfl ?_
  refine aw_iconst dX1_restart_21 ?_
  refine aw_putI (kx := 2) fp_X1_62 dX1_restart_22 rfl rfl rfl ?_
  refine aw_aload_n dX1_restart_25 rfl ?_
  refine aw_iconst dX1_restart_26 ?_
  refine aw_putI (kx := 8) fp_X1_65 dX1_restart_27 rfl rfl rfl ?_
  refine aw_aload_n dX1_restart_30 rfl ?_
  refine aw_iconst dX1_restart_31 ?_
  refine aw_putI (kx := 10) fp_X1_47 dX1_restart_32 rfl rfl rfl ?_
  refine aw_vretQ dX1_restart_35 rfl ?_
  refine ⟨fun c a => ?_, ?_, ?_, ?_, ?_, ?_, ?_⟩ <;> simp [am_set, *]
theorem c_X1_hear {h : am_H} {r n sl : Int} (hr : 0 ≤ r ∧ r ≤ 5) (hn : 0 ≤ n ∧ n ≤ 8) : AMet GC mX1_hear 3 [am_R 63, am_R (2 + r), am_I n, am_I sl] h (am_QV (heQ h (h (2 + r)) n sl (-1))) := by
  refine am_start [some (am_R 63), some (am_R (2 + r)), some (am_I n), some (am_I sl)] rfl rfl (by decide) (Nat.le_of_ble_eq_true rfl) ?_
  refine aw_aload_n dX1_hear_0 rfl ?_
  refine aw_iload_n dX1_hear_1 rfl ?_
  refine aw_iload_n dX1_hear_2 rfl ?_
  refine aw_cV2V (c_X1_restart (by omega)) lk_X1_28 dX1_hear_3 (by decide) rfl rfl (fun _ => Nat.le_of_ble_eq_true rfl) (fun h3 q3 => ?_)
  refine aw_aload_n dX1_hear_6 rfl ?_
  refine aw_iconst dX1_hear_7 ?_
  refine aw_aload_n dX1_hear_8 rfl ?_
  refine aw_getR (kx := 4) fl_X1_15 dX1_hear_9 rfl rfl rfl ?_
  refine aw_iconst dX1_hear_12 ?_
  refine aw_aload_n dX1_hear_13 rfl ?_
  refine aw_getI (kx := 0) fl_X1_32 dX1_hear_14 rfl rfl rfl ?_
  refine aw_top q3.2.1 ?_
  refine aw_copy lc_X1_36 dX1_hear_17 (by first | rfl | exact kdR hr.1 (by omega)) (by first | rfl | exact kdR hr.1 (by omega)) (by decide) (by decide) (by omega) (by omega) (by omega) (by decide) (fun _ => Nat.le_of_ble_eq_true rfl) ?_
  refine aw_vretQ dX1_hear_20 rfl ?_
  obtain ⟨a1, a2, a3, a4, a5, a6, a7⟩ := q3
  refine ⟨fun c a b => ?_, ?_, ?_, ?_, ?_, ?_, ?_, fun i a b => ?_⟩
  · rw [am_up_c b, a1 c a]
  · rw [am_up_c (by decide)]; exact a2
  · rw [am_up_c (by decide)]; exact a3
  · rw [am_up_c (by decide)]; exact a4
  · rw [am_up_c (by decide)]; exact a5
  · rw [am_up_c (by decide)]; exact a6
  · rw [am_up_c (by decide)]; exact a7
  · rw [am_up_s]; unfold am_cpy; rw [if_pos (by omega), a1 _ (by omega)]; congr 1; omega
theorem lp_X1_hearWords {h g : am_H} {r n own : Int} (hs : MVs g) (hr : 0 ≤ r ∧ r ≤ 5) (hn : 0 ≤ n ∧ n ≤ 8) (hR : SpR h g) (hw : ∀ i : Int, 0 ≤ i → i < n → 0 ≤ h (2 + r) i ∧ h (2 + r) i < g 0 10) (h1 : am_H) (a1 : ∀ c : Int, ¬ c = 63 → h1 c = h c) (a2 : h1 63 0 = n ∧ h1 63 9 = 8 ∧ h1 63 10 = -1 ∧ h1 63 1 = 0 ∧ h1 63 2 = 0 ∧ h1 63 8 = 0) : ∀ (m : Nat) (i : Int) (f : Int → Int), 0 ≤ i → i ≤ n → n - i < m → (∀ j : Int, 0 ≤ j → j < i → f j = g 9 (h (2 + r) j)) → AW GC mX1_hearWords 3 (am_QV (heQ h (fun i => g 9 (h (2 + r) i)) n 8 own)) 10 [some (am_R 63), some (am_R (2 + r)), some (am_I n), some (am_I own), some (am_I i)] [] (am_up h1 65 f) := by
  obtain ⟨b0, b9, b10, b1, b2, b8⟩ := a2
  have hww := hs.2.1
  intro m
  induction m with
  | zero => intro i f h0 h1 h2; omega
  | succ m ih =>
    intro i f h0 h1' h2 hf
    have e0 : am_up h1 65 f 63 0 = n := by rw [am_up_c (by decide)]; exact b0
    have hwi := hw i h0
    have er : am_up h1 65 f (2 + r) i = h (2 + r) i := by rw [am_up_c (by omega), a1 _ (by omega)]
    by_cases hi : i < n
    · have hwi2 := hwi hi
      have es : am_up h1 65 f 22 (h (2 + r) i) = g 9 (h (2 + r) i) := by rw [am_up_c (by decide), a1 _ (by decide)]; exact (hR.2.2.2.1 _ hwi2.1 hwi2.2).2.2
      refine aw_iload dX1_hearWords_10 rfl ?_
      refine aw_aload_n dX1_hearWords_12 rfl ?_
      refine aw_getI (kx := 0) fl_X1_32 dX1_hearWords_13 rfl rfl rfl ?_
      refine aw_top e0 ?_
      refine aw_icmp_ge (tgt := 44) dX1_hearWords_16 rfl (by omega) (by omega) (fun hc16 => ?_) (fun hc16 => ?_)
      · omega
      · refine aw_aload_n dX1_hearWords_19 rfl ?_
        refine aw_getR (kx := 4) fl_X1_15 dX1_hearWords_20 rfl rfl rfl ?_
        refine aw_iload dX1_hearWords_23 rfl ?_
        refine aw_aload_n dX1_hearWords_25 rfl ?_
        refine aw_getR (kx := 7) fl_X1_24 dX1_hearWords_26 rfl rfl rfl ?_
        refine aw_getR (kx := 9) fl_X1_42 dX1_hearWords_29 rfl rfl rfl ?_
        refine aw_aload_n dX1_hearWords_32 rfl ?_
        refine aw_iload dX1_hearWords_33 rfl ?_
        refine aw_iaload dX1_hearWords_35 (by exact kdR hr.1 (by omega)) (by decide) (by omega) ?_
        refine aw_top er ?_
        refine aw_iaload dX1_hearWords_36 rfl (by decide) (by omega) ?_
        refine aw_top es ?_
        refine aw_iastore dX1_hearWords_37 rfl (by decide) (by omega) ?_
        refine aw_iinc4 dX1_hearWords_38 (by decide) rfl ?_
        refine aw_goto (tgt := 10) dX1_hearWords_41 rfl ?_
        rw [am_set_ups]
        refine ih (i + 1) _ (by omega) (by omega) (by omega) (fun j a b => ?_)
        by_cases ej : j = i
        · rw [if_pos ej, ej]
        · rw [if_neg ej]; exact hf j a (by omega)
    · refine aw_iload dX1_hearWords_10 rfl ?_
      refine aw_aload_n dX1_hearWords_12 rfl ?_
      refine aw_getI (kx := 0) fl_X1_32 dX1_hearWords_13 rfl rfl rfl ?_
      refine aw_top e0 ?_
      refine aw_icmp_ge (tgt := 44) dX1_hearWords_16 rfl (by omega) (by omega) (fun hc16 => ?_) (fun hc16 => ?_)
      · refine aw_aload_n dX1_hearWords_44 rfl ?_
        refine aw_iload_n dX1_hearWords_45 rfl ?_
        refine aw_putI (kx := 10) fp_X1_47 dX1_hearWords_46 rfl rfl rfl ?_
        refine aw_vretQ dX1_hearWords_49 rfl ?_
        refine ⟨fun c a b => ?_, ?_, ?_, ?_, ?_, ?_, ?_, fun i a b => ?_⟩
        · rw [am_set_c a, am_up_c b, a1 c a]
        · rw [am_set_i (by decide), am_up_c (by decide)]; exact b0
        · rw [am_set_i (by decide), am_up_c (by decide)]; exact b9
        · rw [am_set_s]
        · rw [am_set_i (by decide), am_up_c (by decide)]; exact b1
        · rw [am_set_i (by decide), am_up_c (by decide)]; exact b2
        · rw [am_set_i (by decide), am_up_c (by decide)]; exact b8
        · rw [am_set_c (by decide), am_up_s]; exact hf i a (by omega)
      · omega
theorem c_X1_hearWords {h g : am_H} {r n own : Int} (hs : MVs g) (hr : 0 ≤ r ∧ r ≤ 5) (hn : 0 ≤ n ∧ n ≤ 8) (hR : SpR h g) (hw : ∀ i : Int, 0 ≤ i → i < n → 0 ≤ h (2 + r) i ∧ h (2 + r) i < g 0 10) : AMet GC mX1_hearWords 3 [am_R 63, am_R (2 + r), am_I n, am_I own] h (am_QV (heQ h (fun i => g 9 (h (2 + r) i)) n 8 own)) := by
  refine am_start [some (am_R 63), some (am_R (2 + r)), some (am_I n), some (am_I own), none] rfl rfl (by decide) (Nat.le_of_ble_eq_true rfl) ?_
  refine aw_aload_n dX1_hearWords_0 rfl ?_
  refine aw_iload_n dX1_hearWords_1 rfl ?_
  refine aw_bipush (by decide) dX1_hearWords_2 ?_
  refine aw_cV2V (c_X1_restart hn) lk_X1_28 dX1_hearWords_4 (by decide) rfl rfl (fun _ => Nat.le_of_ble_eq_true rfl) (fun h4 q4 => ?_)
  refine aw_iconst dX1_hearWords_7 ?_
  refine aw_istore4 dX1_hearWords_8 (by decide) rfl ?_
  refine aw_heap (am_up_self _ 65).symm ?_
  exact lp_X1_hearWords hs hr hn hR hw h4 q4.1 q4.2 10 0 _ (by omega) (by omega) (by omega) (fun j a b => by omega)
theorem c_X1_listenFrom {hB g : am_H} {sd : Int → Int} {n sl own : Int} (hB' : EaB hB g sd n sl own) (e1 : hB 63 1 = 0) (e2 : hB 63 2 = 0) (e8 : hB 63 8 = 0) : AMet GC mX1_listenFrom 40 [am_R 63, am_I (nowF g)] hB (am_QV (fun h' => EaI hB g sd n own h' (arL g sd n sl n.toNat []))) := by
  have hI : EaI hB g sd n own hB [] := ⟨fun _ _ _ _ _ => rfl, fun _ _ _ _ => rfl, e1, ⟨0, by decide, e2, rfl⟩, fun Q q => by simp at q, e8, fun s Q q => by simp at q⟩
  have hn := hB'.2.2.2.2.1
  have hsl := hB'.2.2.2.2.2.1
  have hlen := arL_len (sd := sd) (n := n) (sl := sl) hB'.1 hB'.2.1 hB'.2.2.1 n.toNat [] trivial (by show ((0 : Nat) : Int) + _ = _; omega)
  have h256 := ltP_256 hB'.1 (liE g [])
  have hL := c_X1_listen hB' n.toNat [] hB [] trivial (by show ((0 : Nat) : Int) + _ = _; omega) (by show ((pcN 16 0 : Nat) : Int) ≤ sl; rw [pcN_0]; omega) hI trivial (by show (arL g sd n sl n.toNat []).length ≤ 256; omega)
  refine am_start [some (am_R 63), some (am_I (nowF g))] rfl rfl (by decide) (Nat.le_of_ble_eq_true rfl) ?_
  refine aw_aload_n dX1_listenFrom_0 rfl ?_
  refine aw_iload_n dX1_listenFrom_1 rfl ?_
  refine aw_iconst dX1_listenFrom_2 ?_
  refine aw_iconst dX1_listenFrom_3 ?_
  refine aw_cV3V hL lk_X1_68 dX1_listenFrom_4 (by omega) rfl rfl (fun _ => Nat.le_of_ble_eq_true rfl) (fun h4 q4 => ?_)
  refine aw_vretQ dX1_listenFrom_7 rfl ?_
  exact q4.1
