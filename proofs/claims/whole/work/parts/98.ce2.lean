theorem MVs.ask {g : am_H} {v : Int} (hs : MVs g) : MVs (am_set g 0 20 v) := hs.of3 (am_set_i (by decide)) (am_set_i (by decide)) (am_set_i (by decide)) (fun c a b => am_set_c (by omega))
theorem lp_X7_mean {h g : am_H} {r x2 : Int} (hC : CRel h g) (hV : MOK g) (hr : 0 ≤ r ∧ r ≤ 5) (hz : 0 < g 1 r) : ∀ (m i : Nat), (i : Int) ≤ g 1 r → g 1 r - i < m → AW GC mX7_mean 3 (QC (S_mean g r)) 35 [some (am_R 0), some (am_I r), some (am_I x2), some (am_I (g 1 r)), some (am_J (sumF (g 2) (40 * r) i)), none, some (am_I i)] [] h := by
  have hz2 := hV.r.1 r hr.1 hr.2
  intro m
  induction m with
  | zero => intro i h1 h2; omega
  | succ m ih =>
    intro i h1 h2
    have hq := hV.r.2 (40 * r + i)
    have hw := sumF_rng (a := 40 * r) hV.r.2 i
    by_cases hi : (i : Int) < g 1 r
    · have er := hC.r.1 r i hr.1 hr.2 (by omega) (by omega)
      refine aw_iload dX7_mean_35 rfl ?_
      refine aw_iload_n dX7_mean_37 rfl ?_
      refine aw_icmp_ge (tgt := 62) dX7_mean_38 rfl (by omega) (by omega) (fun hc38 => ?_) (fun hc38 => ?_)
      · omega
      · refine aw_lload dX7_mean_41 rfl ?_
        refine aw_aload_n dX7_mean_43 rfl ?_
        refine aw_getR (kx := 0) fl_X7_11 dX7_mean_44 rfl rfl rfl ?_
        refine aw_iload_n dX7_mean_47 rfl ?_
        first | refine aw_aaload4 dX7_mean_48 rfl (by decide) (by omega) ?_ | refine aw_aaload5 dX7_mean_48 rfl (by decide) (by omega) ?_ | refine aw_aaload6 dX7_mean_48 rfl (by decide) (by omega) ?_
        refine aw_iload dX7_mean_49 rfl ?_
        refine aw_iaload dX7_mean_51 (by exact kdR hr.1 (by omega)) (by decide) (by omega) ?_
        refine aw_top er ?_
        refine aw_i2l (by omega) dX7_mean_52 ?_
        refine aw_ladd dX7_mean_53 ?_
        refine aw_lstore4 dX7_mean_54 (by decide) rfl ?_
        refine aw_iinc6 dX7_mean_56 (by decide) rfl ?_
        refine aw_goto (tgt := 35) dX7_mean_59 rfl ?_
        exact ih (i + 1) (by omega) (by omega)
    · have e : (g 1 r).toNat = i := by omega
      refine aw_iload dX7_mean_35 rfl ?_
      refine aw_iload_n dX7_mean_37 rfl ?_
      refine aw_icmp_ge (tgt := 62) dX7_mean_38 rfl (by omega) (by omega) (fun hc38 => ?_) (fun hc38 => ?_)
      · refine aw_aload_n dX7_mean_62 rfl ?_
        refine aw_lload dX7_mean_63 rfl ?_
        refine aw_iload_n dX7_mean_65 rfl ?_
        refine aw_i2l (by omega) dX7_mean_66 ?_
        refine aw_ldiv (by omega) (by omega) dX7_mean_67 ?_
        refine aw_l2i dX7_mean_68 ?_
        refine aw_cV1IF (c_X7_tells) lk_X7_112 dX7_mean_69 (by decide) rfl rfl (fun _ => Nat.le_of_ble_eq_true rfl) ?_
        refine aw_iretQ dX7_mean_72 rfl ?_
        rw [S_mean, if_neg (by omega), if_neg (by omega), if_neg (by omega), e]
        exact ⟨rfl, hC.asked hV.s⟩
      · omega
theorem c_X7_mean {h g : am_H} {r : Int} (hC : CRel h g) (hV : MOK g) (hr : -2147483648 ≤ r ∧ r < 2147483648) : AMet GC mX7_mean 3 [am_R 0, am_I r] h (QC (S_mean g r)) := by
  have hlr := rrS_rng g r
  have h1 : ¬ (rrS g r).1 = 0 → S_mean g r = rrS g r := by
    intro z
    unfold rrS at z ⊢
    unfold S_mean
    by_cases e : ¬ (0 ≤ r ∧ r ≤ 5)
    · rw [if_pos e, if_pos e]
    · rw [if_neg e] at z
      rw [if_neg e, if_neg e]
      by_cases e2 : g 1 r < 0
      · rw [if_pos e2, if_pos e2]
      · rw [if_neg e2] at z; exact absurd rfl z
  refine am_start [some (am_R 0), some (am_I r), none, none, none, none, none] rfl rfl (by decide) (Nat.le_of_ble_eq_true rfl) ?_
  refine aw_aload_n dX7_mean_0 rfl ?_
  refine aw_iload_n dX7_mean_1 rfl ?_
  refine aw_cV1I (c_X7_rowRefusalC hC hV (by omega)) lk_X7_115 dX7_mean_2 (by decide) rfl rfl (fun _ => Nat.le_of_ble_eq_true rfl) (fun v2 h2 q2 => ?_)
  refine aw_istore_2 dX7_mean_5 (by decide) rfl ?_
  refine aw_iload_n dX7_mean_6 rfl ?_
  refine aw_if_eq (tgt := 12) dX7_mean_7 rfl (by omega) (fun hc7 => ?_) (fun hc7 => ?_)
  · obtain ⟨k1, k2, k3⟩ := rrS_0 (g := g) (r := r) (by omega)
    have q2c := q2.2
    rw [k3] at q2c
    have hz5 := q2c.r.2 r k1.1 k1.2
    have hz6 := hV.r.1 r k1.1 k1.2
    refine aw_aload_n dX7_mean_12 rfl ?_
    refine aw_getR (kx := 1) fl_X7_14 dX7_mean_13 rfl rfl rfl ?_
    refine aw_iload_n dX7_mean_16 rfl ?_
    refine aw_iaload dX7_mean_17 rfl (by decide) (by omega) ?_
    refine aw_top hz5 ?_
    refine aw_istore_3 dX7_mean_18 (by decide) rfl ?_
    refine aw_iload_n dX7_mean_19 rfl ?_
    refine aw_if_ne (tgt := 29) dX7_mean_20 rfl (by omega) (fun hc20 => ?_) (fun hc20 => ?_)
    · refine aw_lconst (v := 0) dX7_mean_29 rfl ?_
      refine aw_lstore4 dX7_mean_30 (by decide) rfl ?_
      refine aw_iconst dX7_mean_32 ?_
      refine aw_istore6 dX7_mean_33 (by decide) rfl ?_
      exact lp_X7_mean q2c hV k1 (by omega) 42 0 (by omega) (by omega)
    · refine aw_aload_n dX7_mean_23 rfl ?_
      refine aw_iconst dX7_mean_24 ?_
      refine aw_cV1IF (c_X7_found (by omega)) lk_X7_100 dX7_mean_25 (by decide) rfl rfl (fun _ => Nat.le_of_ble_eq_true rfl) ?_
      refine aw_iretQ dX7_mean_28 rfl ?_
      rw [S_mean, if_neg (by omega), if_neg (by omega), if_pos (by omega)]; exact ⟨rfl, q2c.found hV.s (by decide)⟩
  · refine aw_iload_n dX7_mean_10 rfl ?_
    refine aw_iretQ dX7_mean_11 rfl ?_
    rw [h1 (by omega)]; exact q2
theorem c_X7_text {h g : am_H} {t n : Int} (hC : CRel h g) (hV : MOK g) (hr : -2147483648 ≤ t ∧ t < 2147483648) (hn : -2147483648 ≤ n ∧ n < 2147483648) : AMet GC mX7_text 2 [am_R 0, am_I t, am_I n] h (QC (S_text g t n)) := by
  refine am_start [some (am_R 0), some (am_I t), some (am_I n)] rfl rfl (by decide) (Nat.le_of_ble_eq_true rfl) ?_
  refine aw_iload_n dX7_text_0 rfl ?_
  refine aw_cS1IF (c_X7_isNoText (by omega)) lk_X7_128 dX7_text_1 (by decide) (fun _ => Nat.le_of_ble_eq_true rfl) ?_
  refine aw_ifb_ne (tgt := 13) dX7_text_4 rfl (fun hc4 => ?_) (fun hc4 => ?_)
  · refine aw_iconst dX7_text_13 ?_
    refine aw_iretQ dX7_text_14 rfl ?_
    rw [S_text, if_pos (by omega)]; exact ⟨rfl, hC⟩
  · refine aw_iload_n dX7_text_7 rfl ?_
    refine aw_bipush (by decide) dX7_text_8 ?_
    refine aw_icmp_le (tgt := 15) dX7_text_10 rfl (by omega) (by omega) (fun hc10 => ?_) (fun hc10 => ?_)
    · refine aw_iload_n dX7_text_15 rfl ?_
      refine aw_if_ge (tgt := 25) dX7_text_16 rfl (by omega) (fun hc16 => ?_) (fun hc16 => ?_)
      · refine aw_aload_n dX7_text_25 rfl ?_
        refine aw_getR (kx := 2) fl_X7_20 dX7_text_26 rfl rfl rfl ?_
        refine aw_iload_n dX7_text_29 rfl ?_
        first | refine aw_aaload4 dX7_text_30 rfl (by decide) (by omega) ?_ | refine aw_aaload5 dX7_text_30 rfl (by decide) (by omega) ?_ | refine aw_aaload6 dX7_text_30 rfl (by decide) (by omega) ?_
        refine aw_bipush (by decide) dX7_text_31 ?_
        refine aw_cS2VF (c_J7_fillB (kdT (t := t) (by omega) (by omega)) (by decide) (by decide)) lk_X7_131 dX7_text_33 (by decide) (fun _ => Nat.le_of_ble_eq_true rfl) ?_
        refine aw_aload_n dX7_text_36 rfl ?_
        refine aw_getR (kx := 3) fl_X7_23 dX7_text_37 rfl rfl rfl ?_
        refine aw_iload_n dX7_text_40 rfl ?_
        refine aw_iload_n dX7_text_41 rfl ?_
        refine aw_iastore dX7_text_42 rfl (by decide) (by omega) ?_
        refine aw_iload_n dX7_text_43 rfl ?_
        refine aw_iretQ dX7_text_44 rfl ?_
        rw [S_text, if_neg (by omega), if_neg (by omega)]
        refine ⟨rfl, ?_⟩
        show CRel _ (textF g t n)
        refine hC.ofT hV.s (fun c a => ?_) (fun c a b => ?_) ⟨fun x i a b d e => ?_, fun x a b => ?_⟩
        · rw [am_set_c (by omega)]; unfold fillF; rw [am_up_c (by omega)]
        · unfold textF; rw [am_up_c b, am_set_c a]
        · unfold textF
          rw [am_set_c (by omega), am_up_s]
          unfold fillF
          by_cases q : x = t
          · rw [q, am_up_s, if_pos (by omega), if_pos (by omega)]
          · rw [am_up_c (by omega), if_neg (by omega)]; exact hC.t.1 x i a b d e
        · unfold textF
          rw [am_up_c (by decide)]
          by_cases q : x = t
          · rw [q, am_set_s, am_set_s]
          · rw [am_set_i q, am_set_i q]; unfold fillF; rw [am_up_c (by omega)]; exact hC.t.2 x a b
      · refine aw_aload_n dX7_text_19 rfl ?_
        refine aw_iconst dX7_text_20 ?_
        refine aw_cV1IF (c_X7_found (by omega)) lk_X7_100 dX7_text_21 (by decide) rfl rfl (fun _ => Nat.le_of_ble_eq_true rfl) ?_
        refine aw_iretQ dX7_text_24 rfl ?_
        rw [S_text, if_neg (by omega), if_pos (by omega)]; exact ⟨rfl, hC.found hV.s (by decide)⟩
    · refine aw_iconst dX7_text_13 ?_
      refine aw_iretQ dX7_text_14 rfl ?_
      rw [S_text, if_pos (by omega)]; exact ⟨rfl, hC⟩
theorem c_X7_put {h g : am_H} {t i v : Int} (hC : CRel h g) (hV : MOK g) (hr : -2147483648 ≤ t ∧ t < 2147483648) (hi : -2147483648 ≤ i ∧ i < 2147483648) : AMet GC mX7_put 3 [am_R 0, am_I t, am_I i, am_I v] h (QC (S_put g t i v)) := by
  have hlr := trS_rng g t
  have h1 : ¬ (trS g t).1 = 0 → S_put g t i v = trS g t := by
    intro z
    unfold trS at z ⊢
    unfold S_put
    by_cases e : ¬ (0 ≤ t ∧ t ≤ 3)
    · rw [if_pos e, if_pos e]
    · rw [if_neg e] at z
      rw [if_neg e, if_neg e]
      by_cases e2 : g 3 t < 0
      · rw [if_pos e2, if_pos e2]
      · rw [if_neg e2] at z; exact absurd rfl z
  refine am_start [some (am_R 0), some (am_I t), some (am_I i), some (am_I v), none, none] rfl rfl (by decide) (Nat.le_of_ble_eq_true rfl) ?_
  have hbm : -128 ≤ v.bmod 256 ∧ v.bmod 256 < 128 := by simp only [Int.bmod]; omega
  refine aw_aload_n dX7_put_0 rfl ?_
  refine aw_iload_n dX7_put_1 rfl ?_
  refine aw_cV1I (c_X7_textRefusalC hC hV (by omega)) lk_X7_134 dX7_put_2 (by decide) rfl rfl (fun _ => Nat.le_of_ble_eq_true rfl) (fun v2 h2 q2 => ?_)
  refine aw_istore4 dX7_put_5 (by decide) rfl ?_
  refine aw_iload dX7_put_7 rfl ?_
  refine aw_if_eq (tgt := 15) dX7_put_9 rfl (by omega) (fun hc9 => ?_) (fun hc9 => ?_)
  · obtain ⟨k1, k2, k3⟩ := trS_0 (g := g) (r := t) (by omega)
    have q2c := q2.2
    rw [k3] at q2c
    have hz5 := q2c.t.2 t k1.1 k1.2
    have hz6 := hV.t.1 t k1.1 k1.2
    refine aw_iload_n dX7_put_15 rfl ?_
    refine aw_if_lt (tgt := 29) dX7_put_16 rfl (by omega) (fun hc16 => ?_) (fun hc16 => ?_)
    · refine aw_aload_n dX7_put_29 rfl ?_
      refine aw_iconst dX7_put_30 ?_
      refine aw_cV1IF (c_X7_found (by omega)) lk_X7_100 dX7_put_31 (by decide) rfl rfl (fun _ => Nat.le_of_ble_eq_true rfl) ?_
      refine aw_iretQ dX7_put_34 rfl ?_
      rw [S_put, if_neg (by omega), if_neg (by omega), if_pos (by omega)]; exact ⟨rfl, q2c.found hV.s (by decide)⟩
    · refine aw_iload_n dX7_put_19 rfl ?_
      refine aw_aload_n dX7_put_20 rfl ?_
      refine aw_getR (kx := 3) fl_X7_23 dX7_put_21 rfl rfl rfl ?_
      refine aw_iload_n dX7_put_24 rfl ?_
      refine aw_iaload dX7_put_25 rfl (by decide) (by omega) ?_
      refine aw_top hz5 ?_
      refine aw_icmp_lt (tgt := 35) dX7_put_26 rfl (by omega) (by omega) (fun hc26 => ?_) (fun hc26 => ?_)
      · have er := q2c.t.1 t i k1.1 k1.2 (by omega) (by omega)
        refine aw_aload_n dX7_put_35 rfl ?_
        refine aw_getR (kx := 2) fl_X7_20 dX7_put_36 rfl rfl rfl ?_
        refine aw_iload_n dX7_put_39 rfl ?_
        first | refine aw_aaload4 dX7_put_40 rfl (by decide) (by omega) ?_ | refine aw_aaload5 dX7_put_40 rfl (by decide) (by omega) ?_ | refine aw_aaload6 dX7_put_40 rfl (by decide) (by omega) ?_
        refine aw_iload_n dX7_put_41 rfl ?_
        refine aw_baload dX7_put_42 (by exact kdT k1.1 (by omega)) (by decide) (by omega) ?_
        refine aw_top er ?_
        refine aw_istore5 dX7_put_43 (by decide) rfl ?_
        refine aw_aload_n dX7_put_45 rfl ?_
        refine aw_getR (kx := 2) fl_X7_20 dX7_put_46 rfl rfl rfl ?_
        refine aw_iload_n dX7_put_49 rfl ?_
        first | refine aw_aaload4 dX7_put_50 rfl (by decide) (by omega) ?_ | refine aw_aaload5 dX7_put_50 rfl (by decide) (by omega) ?_ | refine aw_aaload6 dX7_put_50 rfl (by decide) (by omega) ?_
        refine aw_iload_n dX7_put_51 rfl ?_
        refine aw_iload_n dX7_put_52 rfl ?_
        refine aw_i2b rfl dX7_put_53 ?_
        refine aw_bastore dX7_put_54 (by exact kdT k1.1 (by omega)) (by decide) (by omega) (by omega) ?_
        refine aw_iload dX7_put_55 rfl ?_
        refine aw_sipush (by decide) dX7_put_57 ?_
        refine aw_iadd dX7_put_60 ?_
        refine aw_iretQ dX7_put_61 rfl ?_
        rw [S_put, if_neg (by omega), if_neg (by omega), if_neg (by omega)]
        refine ⟨rfl, ?_⟩
        show CRel _ (am_set g 4 (80 * t + i) (v.bmod 256))
        refine q2c.ofT hV.s (fun c a => am_set_c (by omega)) (fun c a b => am_set_c b) ⟨fun x j a b d e => ?_, fun x a b => ?_⟩
        · by_cases q : x = t
          · rw [q]
            by_cases q2 : j = i
            · rw [q2, am_set_s, am_set_s]
            · rw [am_set_i q2, am_set_i (by omega)]; exact q2c.t.1 t j (by omega) (by omega) d e
          · rw [am_set_c (by omega), am_set_i (by omega)]; exact q2c.t.1 x j a b d e
        · rw [am_set_c (by omega), am_set_c (by decide)]; exact q2c.t.2 x a b
      · refine aw_aload_n dX7_put_29 rfl ?_
        refine aw_iconst dX7_put_30 ?_
        refine aw_cV1IF (c_X7_found (by omega)) lk_X7_100 dX7_put_31 (by decide) rfl rfl (fun _ => Nat.le_of_ble_eq_true rfl) ?_
        refine aw_iretQ dX7_put_34 rfl ?_
        rw [S_put, if_neg (by omega), if_neg (by omega), if_pos (by omega)]; exact ⟨rfl, q2c.found hV.s (by decide)⟩
  · refine aw_iload dX7_put_12 rfl ?_
    refine aw_iretQ dX7_put_14 rfl ?_
    rw [h1 (by omega)]; exact q2
theorem c_X7_node {h g : am_H} {x w : Int} (hC : CRel h g) (hV : MOK g) (hx : -2147483648 ≤ x ∧ x < 2147483648) (hw : -2147483648 ≤ w ∧ w < 2147483648) : AMet GC mX7_node 4 [am_R 0, am_I x, am_I w] h (QC (S_node g x w)) := by
  have hn := hC.nn.1
  have hnn := hV.s.1
  refine am_start [some (am_R 0), some (am_I x), some (am_I w)] rfl rfl (by decide) (Nat.le_of_ble_eq_true rfl) ?_
  refine aw_aload_n dX7_node_0 rfl ?_
  refine aw_iload_n dX7_node_1 rfl ?_
  refine aw_cV1IF (c_X7_isNoNode (by omega) (by omega)) lk_X7_153 dX7_node_2 (by decide) rfl rfl (fun _ => Nat.le_of_ble_eq_true rfl) ?_
  refine aw_ifb_ne (tgt := 17) dX7_node_5 rfl (fun hc5 => ?_) (fun hc5 => ?_)
  · refine aw_iconst dX7_node_17 ?_
    refine aw_goto (tgt := 31) dX7_node_18 rfl ?_
    refine aw_iretQ dX7_node_31 rfl ?_
    rw [S_node, if_neg (by omega)]; exact ⟨rfl, hC⟩
  · refine aw_iload_n dX7_node_8 rfl ?_
    refine aw_if_lt (tgt := 17) dX7_node_9 rfl (by omega) (fun hc9 => ?_) (fun hc9 => ?_)
    · refine aw_iconst dX7_node_17 ?_
      refine aw_goto (tgt := 31) dX7_node_18 rfl ?_
      refine aw_iretQ dX7_node_31 rfl ?_
      rw [S_node, if_neg (by omega)]; exact ⟨rfl, hC⟩
    · refine aw_iload_n dX7_node_12 rfl ?_
      refine aw_iconst dX7_node_13 ?_
      refine aw_icmp_le (tgt := 21) dX7_node_14 rfl (by omega) (by omega) (fun hc14 => ?_) (fun hc14 => ?_)
      · refine aw_aload_n dX7_node_21 rfl ?_
        refine aw_aload_n dX7_node_22 rfl ?_
        refine aw_iload_n dX7_node_23 rfl ?_
        refine aw_iload_n dX7_node_24 rfl ?_
        refine aw_cV2IF (c_X7_nodeTells hC hV (by omega) (by omega)) lk_X7_156 dX7_node_25 (by decide) rfl rfl (fun _ => Nat.le_of_ble_eq_true rfl) ?_
        refine aw_cV1IF (c_X7_tells) lk_X7_112 dX7_node_28 (by decide) rfl rfl (fun _ => Nat.le_of_ble_eq_true rfl) ?_
        refine aw_iretQ dX7_node_31 rfl ?_
        rw [S_node, if_pos (by omega)]; exact ⟨rfl, hC.asked hV.s⟩
      · refine aw_iconst dX7_node_17 ?_
        refine aw_goto (tgt := 31) dX7_node_18 rfl ?_
        refine aw_iretQ dX7_node_31 rfl ?_
        rw [S_node, if_neg (by omega)]; exact ⟨rfl, hC⟩
theorem c_X7_word {h g : am_H} {x w : Int} (hC : CRel h g) (hV : MOK g) (hx : -2147483648 ≤ x ∧ x < 2147483648) (hw : -2147483648 ≤ w ∧ w < 2147483648) : AMet GC mX7_word 2 [am_R 0, am_I x, am_I w] h (QC (S_word g x w)) := by
  have hn := hC.nn.2.1
  have hnn := hV.s.2.1
  refine am_start [some (am_R 0), some (am_I x), some (am_I w)] rfl rfl (by decide) (Nat.le_of_ble_eq_true rfl) ?_
  refine aw_aload_n dX7_word_0 rfl ?_
  refine aw_iload_n dX7_word_1 rfl ?_
  refine aw_cV1IF (c_X7_isNoWord (by omega) (by omega)) lk_X7_159 dX7_word_2 (by decide) rfl rfl (fun _ => Nat.le_of_ble_eq_true rfl) ?_
  refine aw_ifb_ne (tgt := 17) dX7_word_5 rfl (fun hc5 => ?_) (fun hc5 => ?_)
  · refine aw_iconst dX7_word_17 ?_
    refine aw_goto (tgt := 31) dX7_word_18 rfl ?_
    refine aw_iretQ dX7_word_31 rfl ?_
    rw [S_word, if_neg (by omega)]; exact ⟨rfl, hC⟩
  · refine aw_iload_n dX7_word_8 rfl ?_
    refine aw_if_lt (tgt := 17) dX7_word_9 rfl (by omega) (fun hc9 => ?_) (fun hc9 => ?_)
    · refine aw_iconst dX7_word_17 ?_
      refine aw_goto (tgt := 31) dX7_word_18 rfl ?_
      refine aw_iretQ dX7_word_31 rfl ?_
      rw [S_word, if_neg (by omega)]; exact ⟨rfl, hC⟩
    · refine aw_iload_n dX7_word_12 rfl ?_
      refine aw_iconst dX7_word_13 ?_
      refine aw_icmp_le (tgt := 21) dX7_word_14 rfl (by omega) (by omega) (fun hc14 => ?_) (fun hc14 => ?_)
      · refine aw_aload_n dX7_word_21 rfl ?_
        refine aw_aload_n dX7_word_22 rfl ?_
        refine aw_iload_n dX7_word_23 rfl ?_
        refine aw_iload_n dX7_word_24 rfl ?_
        refine aw_cV2IF (c_X7_wordTells hC hV (by omega) (by omega)) lk_X7_162 dX7_word_25 (by decide) rfl rfl (fun _ => Nat.le_of_ble_eq_true rfl) ?_
        refine aw_cV1IF (c_X7_tells) lk_X7_112 dX7_word_28 (by decide) rfl rfl (fun _ => Nat.le_of_ble_eq_true rfl) ?_
        refine aw_iretQ dX7_word_31 rfl ?_
        rw [S_word, if_pos (by omega)]; exact ⟨rfl, hC.asked hV.s⟩
      · refine aw_iconst dX7_word_17 ?_
        refine aw_goto (tgt := 31) dX7_word_18 rfl ?_
        refine aw_iretQ dX7_word_31 rfl ?_
        rw [S_word, if_neg (by omega)]; exact ⟨rfl, hC⟩
theorem c_X7_deed {h g : am_H} {x w : Int} (hC : CRel h g) (hV : MOK g) (hx : -2147483648 ≤ x ∧ x < 2147483648) (hw : -2147483648 ≤ w ∧ w < 2147483648) : AMet GC mX7_deed 4 [am_R 0, am_I x, am_I w] h (QC (S_deed g x w)) := by
  have hn := hC.nn.2.2
  have hnn := hV.s.2.2.1
  refine am_start [some (am_R 0), some (am_I x), some (am_I w)] rfl rfl (by decide) (Nat.le_of_ble_eq_true rfl) ?_
  refine aw_aload_n dX7_deed_0 rfl ?_
  refine aw_iload_n dX7_deed_1 rfl ?_
  refine aw_cV1IF (c_X7_isNoDeed (by omega) (by omega)) lk_X7_165 dX7_deed_2 (by decide) rfl rfl (fun _ => Nat.le_of_ble_eq_true rfl) ?_
  refine aw_ifb_ne (tgt := 17) dX7_deed_5 rfl (fun hc5 => ?_) (fun hc5 => ?_)
  · refine aw_iconst dX7_deed_17 ?_
    refine aw_goto (tgt := 31) dX7_deed_18 rfl ?_
    refine aw_iretQ dX7_deed_31 rfl ?_
    rw [S_deed, if_neg (by omega)]; exact ⟨rfl, hC⟩
  · refine aw_iload_n dX7_deed_8 rfl ?_
    refine aw_if_lt (tgt := 17) dX7_deed_9 rfl (by omega) (fun hc9 => ?_) (fun hc9 => ?_)
    · refine aw_iconst dX7_deed_17 ?_
      refine aw_goto (tgt := 31) dX7_deed_18 rfl ?_
      refine aw_iretQ dX7_deed_31 rfl ?_
      rw [S_deed, if_neg (by omega)]; exact ⟨rfl, hC⟩
    · refine aw_iload_n dX7_deed_12 rfl ?_
      refine aw_iconst dX7_deed_13 ?_
      refine aw_icmp_le (tgt := 21) dX7_deed_14 rfl (by omega) (by omega) (fun hc14 => ?_) (fun hc14 => ?_)
      · refine aw_aload_n dX7_deed_21 rfl ?_
        refine aw_aload_n dX7_deed_22 rfl ?_
        refine aw_iload_n dX7_deed_23 rfl ?_
        refine aw_iload_n dX7_deed_24 rfl ?_
        refine aw_cV2IF (c_X7_deedTells hC hV (by omega) (by omega)) lk_X7_168 dX7_deed_25 (by decide) rfl rfl (fun _ => Nat.le_of_ble_eq_true rfl) ?_
        refine aw_cV1IF (c_X7_tells) lk_X7_112 dX7_deed_28 (by decide) rfl rfl (fun _ => Nat.le_of_ble_eq_true rfl) ?_
        refine aw_iretQ dX7_deed_31 rfl ?_
        rw [S_deed, if_pos (by omega)]; exact ⟨rfl, hC.asked hV.s⟩
      · refine aw_iconst dX7_deed_17 ?_
        refine aw_goto (tgt := 31) dX7_deed_18 rfl ?_
        refine aw_iretQ dX7_deed_31 rfl ?_
        rw [S_deed, if_neg (by omega)]; exact ⟨rfl, hC⟩
theorem c_X7_mark {h g : am_H} {x k : Int} (hC : CRel h g) (hV : MOK g) (hx : -2147483648 ≤ x ∧ x < 2147483648) (hk : -2147483648 ≤ k ∧ k < 2147483648) : AMet GC mX7_mark 4 [am_R 0, am_I x, am_I k] h (QC (S_mark g x k)) := by
  have hn := hC.nn.1
  have hnn := hV.s.1
  have hs := hV.s
  have hR := hC.s.1
  refine am_start [some (am_R 0), some (am_I x), some (am_I k)] rfl rfl (by decide) (Nat.le_of_ble_eq_true rfl) ?_
  refine aw_aload_n dX7_mark_0 rfl ?_
  refine aw_iload_n dX7_mark_1 rfl ?_
  refine aw_cV1IF (c_X7_isNoNode (by omega) (by omega)) lk_X7_153 dX7_mark_2 (by decide) rfl rfl (fun _ => Nat.le_of_ble_eq_true rfl) ?_
  refine aw_ifb_ne (tgt := 18) dX7_mark_5 rfl (fun hc5 => ?_) (fun hc5 => ?_)
  · refine aw_iconst dX7_mark_18 ?_
    refine aw_iretQ dX7_mark_19 rfl ?_
    rw [S_mark, if_pos (by omega)]; exact ⟨rfl, hC⟩
  · refine aw_iload_n dX7_mark_8 rfl ?_
    refine aw_iconst dX7_mark_9 ?_
    refine aw_icmp_lt (tgt := 18) dX7_mark_10 rfl (by omega) (by omega) (fun hc10 => ?_) (fun hc10 => ?_)
    · refine aw_iconst dX7_mark_18 ?_
      refine aw_iretQ dX7_mark_19 rfl ?_
      rw [S_mark, if_pos (by omega)]; exact ⟨rfl, hC⟩
    · refine aw_iload_n dX7_mark_13 rfl ?_
      refine aw_iconst dX7_mark_14 ?_
      refine aw_icmp_le (tgt := 20) dX7_mark_15 rfl (by omega) (by omega) (fun hc15 => ?_) (fun hc15 => ?_)
      · rw [S_mark, if_neg (by omega)]
        have hsx := hR.2.1 x (by omega) (by omega)
        have hkx := hs.2.2.2.1 x (by omega) (by omega)
        refine aw_aload_n dX7_mark_20 rfl ?_
        refine aw_getR (kx := 4) fl_X7_29 dX7_mark_21 rfl rfl rfl ?_
        refine aw_iload_n dX7_mark_24 rfl ?_
        refine aw_iload_n dX7_mark_25 rfl ?_
        refine aw_cV2IF (c_X5_isOfKind hs hR (by omega) (by omega)) lk_X7_171 dX7_mark_26 (by decide) rfl rfl (fun _ => Nat.le_of_ble_eq_true rfl) ?_
        refine aw_ifb_ne (tgt := 38) dX7_mark_29 rfl (fun hc29 => ?_) (fun hc29 => ?_)
        · rw [if_neg (fun z => z hc29)]
          refine aw_iload_n dX7_mark_38 rfl ?_
          by_cases hs39_a : k = 1
          · refine aw_top hs39_a ?_
            refine aw_tswIn (a := 1) (off := 29) (tgt := 68) dX7_mark_39 (by decide) (by decide) (by decide) rfl rfl ?_
            refine aw_aload_n dX7_mark_68 rfl ?_
            refine aw_getR (kx := 4) fl_X7_29 dX7_mark_69 rfl rfl rfl ?_
            refine aw_getR (kx := 4) fl_X7_175 dX7_mark_72 rfl rfl rfl ?_
            refine aw_iload_n dX7_mark_75 rfl ?_
            refine aw_iaload dX7_mark_76 rfl (by decide) (by omega) ?_
            refine aw_iretQ dX7_mark_77 rfl ?_
            rw [if_pos hs39_a]; exact ⟨by rw [hsx.2.1, if_pos (by rcases hc29 with e | e | e <;> omega)], hC⟩
          by_cases hs39_b : k = 2
          · refine aw_top hs39_b ?_
            refine aw_tswIn (a := 2) (off := 39) (tgt := 78) dX7_mark_39 (by decide) (by decide) (by decide) rfl rfl ?_
            refine aw_aload_n dX7_mark_78 rfl ?_
            refine aw_getR (kx := 4) fl_X7_29 dX7_mark_79 rfl rfl rfl ?_
            refine aw_iload_n dX7_mark_82 rfl ?_
            refine aw_cV1IF (c_X5_wordsTo hs hR (by omega)) lk_X7_178 dX7_mark_83 (by decide) rfl rfl (fun _ => Nat.le_of_ble_eq_true rfl) ?_
            refine aw_iretQ dX7_mark_86 rfl ?_
            rw [if_neg hs39_a, if_pos hs39_b]; exact ⟨rfl, hC⟩
          by_cases hs39_c : k = 3
          · refine aw_top hs39_c ?_
            refine aw_tswIn (a := 3) (off := 48) (tgt := 87) dX7_mark_39 (by decide) (by decide) (by decide) rfl rfl ?_
            refine aw_aload_n dX7_mark_87 rfl ?_
            refine aw_getR (kx := 4) fl_X7_29 dX7_mark_88 rfl rfl rfl ?_
            refine aw_iload_n dX7_mark_91 rfl ?_
            refine aw_cV1IF (c_X5_endsNextTo hs hR (by omega)) lk_X7_181 dX7_mark_92 (by decide) rfl rfl (fun _ => Nat.le_of_ble_eq_true rfl) ?_
            refine aw_iretQ dX7_mark_95 rfl ?_
            rw [if_neg hs39_a, if_neg hs39_b, if_pos hs39_c]; exact ⟨rfl, hC⟩
          by_cases hs39_d : k = 4
          · refine aw_top hs39_d ?_
            refine aw_tswIn (a := 4) (off := 57) (tgt := 96) dX7_mark_39 (by decide) (by decide) (by decide) rfl rfl ?_
            refine aw_aload_n dX7_mark_96 rfl ?_
            refine aw_getR (kx := 4) fl_X7_29 dX7_mark_97 rfl rfl rfl ?_
            refine aw_aload_n dX7_mark_100 rfl ?_
            refine aw_getR (kx := 4) fl_X7_29 dX7_mark_101 rfl rfl rfl ?_
            refine aw_getR (kx := 4) fl_X7_175 dX7_mark_104 rfl rfl rfl ?_
            refine aw_iload_n dX7_mark_107 rfl ?_
            refine aw_iaload dX7_mark_108 rfl (by decide) (by omega) ?_
            refine aw_top (show h 17 x = g 6 x by rw [hsx.2.1, if_pos (by rcases hc29 with e | e | e <;> omega)]) ?_
            refine aw_cV1IF (c_X5_deedsOf hs hR (by omega)) lk_X7_184 dX7_mark_109 (by decide) rfl rfl (fun _ => Nat.le_of_ble_eq_true rfl) ?_
            refine aw_iretQ dX7_mark_112 rfl ?_
            rw [if_neg hs39_a, if_neg hs39_b, if_neg hs39_c, if_pos hs39_d]; exact ⟨rfl, hC⟩
          refine aw_tswOut (tgt := 113) dX7_mark_39 (by omega) (by omega) rfl ?_
          refine aw_aload_n dX7_mark_113 rfl ?_
          refine aw_cV0IF (c_X7_longestOpenDeed hC hV) lk_X7_187 dX7_mark_114 (by decide) rfl rfl (fun _ => Nat.le_of_ble_eq_true rfl) ?_
          refine aw_iretQ dX7_mark_117 rfl ?_
          rw [if_neg hs39_a, if_neg hs39_b, if_neg hs39_c, if_neg hs39_d]; exact ⟨rfl, hC⟩
        · refine aw_aload_n dX7_mark_32 rfl ?_
          refine aw_iconst dX7_mark_33 ?_
          refine aw_cV1IF (c_X7_found (by omega)) lk_X7_100 dX7_mark_34 (by decide) rfl rfl (fun _ => Nat.le_of_ble_eq_true rfl) ?_
          refine aw_iretQ dX7_mark_37 rfl ?_
          rw [if_pos hc29]; exact ⟨rfl, hC.found hs (by decide)⟩
      · refine aw_iconst dX7_mark_18 ?_
        refine aw_iretQ dX7_mark_19 rfl ?_
        rw [S_mark, if_pos (by omega)]; exact ⟨rfl, hC⟩
