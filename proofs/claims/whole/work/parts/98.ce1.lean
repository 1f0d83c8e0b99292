theorem CRel.ofR {h h' g g' : am_H} (hC : CRel h g) (hs : MVs g) (c1 : ∀ c : Int, c < 2 ∨ 8 < c → h' c = h c) (g1 : ∀ c : Int, ¬ c = 1 → ¬ c = 2 → g' c = g c) (hr : CRr h' g') : CRel h' g' := by
  have he : SpE g' g := ⟨fun c a b => g1 c (by omega) (by omega), by rw [g1 0 (by decide) (by decide)], by rw [g1 0 (by decide) (by decide)], by rw [g1 0 (by decide) (by decide)]⟩
  exact ⟨hr, hC.t.cong (fun c a b => c1 c (by omega)) (g1 _ (by decide) (by decide)) (g1 _ (by decide) (by decide)), hC.s.cong hs (fun c a b => c1 c (by omega)) (fun c a b => c1 c (by omega)) he, hC.y.cong (fun c a b => c1 c (by omega)) (by rw [g1 0 (by decide) (by decide)]) (by rw [g1 0 (by decide) (by decide)]) (g1 _ (by decide) (by decide)) (g1 _ (by decide) (by decide)), hC.k.cong (fun c a b => c1 c (by omega)) (g1 _ (by decide) (by decide)) (g1 _ (by decide) (by decide)), hC.f.cong (fun k a b => by rw [c1 0 (by omega)]) (c1 _ (by omega)) (fun k a b => by rw [g1 0 (by decide) (by decide)]) (g1 _ (by decide) (by decide)), hC.p.cong (by rw [c1 60 (by omega)]) (c1 _ (by omega)) he⟩
theorem CRel.ofT {h h' g g' : am_H} (hC : CRel h g) (hs : MVs g) (c1 : ∀ c : Int, c < 10 ∨ 14 < c → h' c = h c) (g1 : ∀ c : Int, ¬ c = 3 → ¬ c = 4 → g' c = g c) (hr : CRt h' g') : CRel h' g' := by
  have he : SpE g' g := ⟨fun c a b => g1 c (by omega) (by omega), by rw [g1 0 (by decide) (by decide)], by rw [g1 0 (by decide) (by decide)], by rw [g1 0 (by decide) (by decide)]⟩
  exact ⟨hC.r.cong (fun c a b => c1 c (by omega)) (g1 _ (by decide) (by decide)) (g1 _ (by decide) (by decide)), hr, hC.s.cong hs (fun c a b => c1 c (by omega)) (fun c a b => c1 c (by omega)) he, hC.y.cong (fun c a b => c1 c (by omega)) (by rw [g1 0 (by decide) (by decide)]) (by rw [g1 0 (by decide) (by decide)]) (g1 _ (by decide) (by decide)) (g1 _ (by decide) (by decide)), hC.k.cong (fun c a b => c1 c (by omega)) (g1 _ (by decide) (by decide)) (g1 _ (by decide) (by decide)), hC.f.cong (fun k a b => by rw [c1 0 (by omega)]) (c1 _ (by omega)) (fun k a b => by rw [g1 0 (by decide) (by decide)]) (g1 _ (by decide) (by decide)), hC.p.cong (by rw [c1 60 (by omega)]) (c1 _ (by omega)) he⟩
theorem CRel.ofY {h h' g g' : am_H} (hC : CRel h g) (hs : MVs g) (c1 : ∀ c : Int, c < 68 ∨ 70 < c → h' c = h c) (g1 : ∀ c : Int, ¬ c = 0 → ¬ c = 14 → ¬ c = 15 → g' c = g c) (g0 : ∀ k : Int, ¬ k = 18 → ¬ k = 19 → g' 0 k = g 0 k) (hr : CYr h' g') : CRel h' g' := by
  have he : SpE g' g := ⟨fun c a b => g1 c (by omega) (by omega) (by omega), g0 _ (by decide) (by decide), g0 _ (by decide) (by decide), g0 _ (by decide) (by decide)⟩
  exact ⟨hC.r.cong (fun c a b => c1 c (by omega)) (g1 _ (by decide) (by decide) (by decide)) (g1 _ (by decide) (by decide) (by decide)), hC.t.cong (fun c a b => c1 c (by omega)) (g1 _ (by decide) (by decide) (by decide)) (g1 _ (by decide) (by decide) (by decide)), hC.s.cong hs (fun c a b => c1 c (by omega)) (fun c a b => c1 c (by omega)) he, hr, hC.k.cong (fun c a b => c1 c (by omega)) (g1 _ (by decide) (by decide) (by decide)) (g1 _ (by decide) (by decide) (by decide)), hC.f.cong (fun k a b => by rw [c1 0 (by omega)]) (c1 _ (by omega)) (fun k a b => g0 k (by omega) (by omega)) (g1 _ (by decide) (by decide) (by decide)), hC.p.cong (by rw [c1 60 (by omega)]) (c1 _ (by omega)) he⟩
theorem CRel.ofK {h h' g g' : am_H} (hC : CRel h g) (hs : MVs g) (c1 : ∀ c : Int, c < 72 ∨ 80 < c → h' c = h c) (g1 : ∀ c : Int, ¬ c = 24 → ¬ c = 25 → g' c = g c) (hr : CKp h' g') : CRel h' g' := by
  have he : SpE g' g := ⟨fun c a b => g1 c (by omega) (by omega), by rw [g1 0 (by decide) (by decide)], by rw [g1 0 (by decide) (by decide)], by rw [g1 0 (by decide) (by decide)]⟩
  exact ⟨hC.r.cong (fun c a b => c1 c (by omega)) (g1 _ (by decide) (by decide)) (g1 _ (by decide) (by decide)), hC.t.cong (fun c a b => c1 c (by omega)) (g1 _ (by decide) (by decide)) (g1 _ (by decide) (by decide)), hC.s.cong hs (fun c a b => c1 c (by omega)) (fun c a b => c1 c (by omega)) he, hC.y.cong (fun c a b => c1 c (by omega)) (by rw [g1 0 (by decide) (by decide)]) (by rw [g1 0 (by decide) (by decide)]) (g1 _ (by decide) (by decide)) (g1 _ (by decide) (by decide)), hr, hC.f.cong (fun k a b => by rw [c1 0 (by omega)]) (c1 _ (by omega)) (fun k a b => by rw [g1 0 (by decide) (by decide)]) (g1 _ (by decide) (by decide)), hC.p.cong (by rw [c1 60 (by omega)]) (c1 _ (by omega)) he⟩
/-- cells that the class alone has: the reader's, the draft, chances, foreseen, the ear's -/
theorem CRel.ofX {h h' g : am_H} (hC : CRel h g) (hs : MVs g) (c1 : ∀ c : Int, (0 ≤ c ∧ c ≤ 26) ∨ (42 ≤ c ∧ c ≤ 58) ∨ c = 60 ∨ c = 61 ∨ (68 ≤ c ∧ c ≤ 81) → h' c = h c) : CRel h' g :=
  ⟨hC.r.cong (fun c a b => c1 c (by omega)) rfl rfl, hC.t.cong (fun c a b => c1 c (by omega)) rfl rfl, hC.s.cong hs (fun c a b => c1 c (by omega)) (fun c a b => c1 c (by omega)) SpE.rfl, hC.y.cong (fun c a b => c1 c (by omega)) rfl rfl rfl rfl, hC.k.cong (fun c a b => c1 c (by omega)) rfl rfl, hC.f.cong (fun k a b => by rw [c1 0 (by omega)]) (c1 _ (by omega)) (fun k a b => rfl) rfl, hC.p.cong (by rw [c1 60 (by omega)]) (c1 _ (by omega)) SpE.rfl⟩
theorem CRel.rwf {h g : am_H} {r n : Int} (hC : CRel h g) (hs : MVs g) (hr : 0 ≤ r ∧ r ≤ 5) : CRel (am_set (fillF h (2 + r) 0 40) 8 r n) (rowF g r n) := by
  refine hC.ofR hs (fun c a => ?_) (fun c a b => ?_) ⟨fun x i a b d e => ?_, fun x a b => ?_⟩
  · rw [am_set_c (by omega)]; unfold fillF; rw [am_up_c (by omega)]
  · unfold rowF; rw [am_up_c b, am_set_c a]
  · unfold rowF
    rw [am_set_c (by omega), am_up_s]
    unfold fillF
    by_cases q : x = r
    · rw [q, am_up_s, if_pos (by omega), if_pos (by omega)]
    · rw [am_up_c (by omega), if_neg (by omega)]; exact hC.r.1 x i a b d e
  · unfold rowF
    rw [am_up_c (by decide)]
    by_cases q : x = r
    · rw [q, am_set_s, am_set_s]
    · rw [am_set_i q, am_set_i q]; unfold fillF; rw [am_up_c (by omega)]; exact hC.r.2 x a b
theorem c_X7_row {h g : am_H} {r n : Int} (hC : CRel h g) (hV : MOK g) (hr : -2147483648 ≤ r ∧ r < 2147483648) (hn : -2147483648 ≤ n ∧ n < 2147483648) : AMet GC mX7_row 3 [am_R 0, am_I r, am_I n] h (QC (S_row g r n)) := by
  refine am_start [some (am_R 0), some (am_I r), some (am_I n)] rfl rfl (by decide) (Nat.le_of_ble_eq_true rfl) ?_
  refine aw_iload_n dX7_row_0 rfl ?_
  refine aw_cS1IF (c_X7_isNoRow (by omega)) lk_X7_96 dX7_row_1 (by decide) (fun _ => Nat.le_of_ble_eq_true rfl) ?_
  refine aw_ifb_ne (tgt := 13) dX7_row_4 rfl (fun hc4 => ?_) (fun hc4 => ?_)
  · refine aw_iconst dX7_row_13 ?_
    refine aw_iretQ dX7_row_14 rfl ?_
    rw [S_row, if_pos (by omega)]; exact ⟨rfl, hC⟩
  · refine aw_iload_n dX7_row_7 rfl ?_
    refine aw_bipush (by decide) dX7_row_8 ?_
    refine aw_icmp_le (tgt := 15) dX7_row_10 rfl (by omega) (by omega) (fun hc10 => ?_) (fun hc10 => ?_)
    · refine aw_iload_n dX7_row_15 rfl ?_
      refine aw_if_ge (tgt := 25) dX7_row_16 rfl (by omega) (fun hc16 => ?_) (fun hc16 => ?_)
      · refine aw_aload_n dX7_row_25 rfl ?_
        refine aw_iload_n dX7_row_26 rfl ?_
        refine aw_iload_n dX7_row_27 rfl ?_
        refine aw_cV2VF (c_X7_layOut (by omega)) lk_X7_104 dX7_row_28 (by decide) rfl rfl (fun _ => Nat.le_of_ble_eq_true rfl) ?_
        refine aw_iload_n dX7_row_31 rfl ?_
        refine aw_iretQ dX7_row_32 rfl ?_
        rw [S_row, if_neg (by omega), if_neg (by omega)]; exact ⟨rfl, hC.rwf hV.s (by omega)⟩
      · refine aw_aload_n dX7_row_19 rfl ?_
        refine aw_iconst dX7_row_20 ?_
        refine aw_cV1IF (c_X7_found (by omega)) lk_X7_100 dX7_row_21 (by decide) rfl rfl (fun _ => Nat.le_of_ble_eq_true rfl) ?_
        refine aw_iretQ dX7_row_24 rfl ?_
        rw [S_row, if_neg (by omega), if_pos (by omega)]; exact ⟨rfl, hC.found hV.s (by decide)⟩
    · refine aw_iconst dX7_row_13 ?_
      refine aw_iretQ dX7_row_14 rfl ?_
      rw [S_row, if_pos (by omega)]; exact ⟨rfl, hC⟩
theorem S_lp_0 {g : am_H} {r i : Int} (h : (S_lp g r i).1 = 0) : (0 ≤ r ∧ r ≤ 5) ∧ 0 ≤ i ∧ i < g 1 r ∧ (S_lp g r i).2 = g := by
  unfold S_lp at h ⊢
  by_cases e : ¬ (0 ≤ r ∧ r ≤ 5)
  · rw [if_pos e] at h; exact absurd h (by show ¬ (-1 : Int) = 0; decide)
  · rw [if_neg e] at h ⊢
    by_cases e2 : g 1 r < 0
    · rw [if_pos e2] at h; exact absurd h (by show ¬ (-3 : Int) = 0; decide)
    · rw [if_neg e2] at h ⊢
      by_cases e3 : 0 ≤ i ∧ i ≤ g 1 r - 1
      · rw [if_pos e3]; exact ⟨by omega, by omega, by omega, rfl⟩
      · rw [if_neg e3] at h; exact absurd h (by show ¬ (-3 : Int) = 0; decide)
theorem CRel.lay {h g : am_H} {r i v : Int} (hC : CRel h g) (hs : MVs g) (hr : 0 ≤ r ∧ r ≤ 5) (hi : 0 ≤ i ∧ i < 40) : CRel (am_set h (2 + r) i v) (am_set g 2 (40 * r + i) v) := by
  refine hC.ofR hs (fun c a => am_set_c (by omega)) (fun c a b => am_set_c b) ⟨fun x j a b d e => ?_, fun x a b => ?_⟩
  · by_cases q : x = r
    · rw [q]
      by_cases q2 : j = i
      · rw [q2, am_set_s, am_set_s]
      · rw [am_set_i q2, am_set_i (by omega)]; exact hC.r.1 r j (by omega) (by omega) d e
    · rw [am_set_c (by omega), am_set_i (by omega)]; exact hC.r.1 x j a b d e
  · rw [am_set_c (by omega), am_set_c (by decide)]; exact hC.r.2 x a b
theorem c_X7_lay {h g : am_H} {r i v : Int} (hC : CRel h g) (hV : MOK g) (hr : -2147483648 ≤ r ∧ r < 2147483648) (hi : -2147483648 ≤ i ∧ i < 2147483648) : AMet GC mX7_lay 4 [am_R 0, am_I r, am_I i, am_I v] h (QC (S_lay g r i v)) := by
  have hlr := S_lp_rng g r i
  refine am_start [some (am_R 0), some (am_I r), some (am_I i), some (am_I v), none, none] rfl rfl (by decide) (Nat.le_of_ble_eq_true rfl) ?_
  refine aw_aload_n dX7_lay_0 rfl ?_
  refine aw_iload_n dX7_lay_1 rfl ?_
  refine aw_iload_n dX7_lay_2 rfl ?_
  refine aw_cV2I (c_X7_placeRefusal hC hV (by omega) (by omega)) lk_X7_108 dX7_lay_3 (by decide) rfl rfl (fun _ => Nat.le_of_ble_eq_true rfl) (fun v3 h3 q3 => ?_)
  refine aw_istore4 dX7_lay_6 (by decide) rfl ?_
  refine aw_iload dX7_lay_8 rfl ?_
  refine aw_if_eq (tgt := 16) dX7_lay_10 rfl (by omega) (fun hc10 => ?_) (fun hc10 => ?_)
  · obtain ⟨k1, k2, k3, k4⟩ := S_lp_0 (g := g) (r := r) (i := i) (by omega)
    have q3c := q3.2
    rw [k4] at q3c
    have hz := hV.r.1 r k1.1 k1.2
    have er := q3c.r.1 r i k1.1 k1.2 k2 (by omega)
    rw [S_lay, if_neg (by omega)]
    refine aw_aload_n dX7_lay_16 rfl ?_
    refine aw_getR (kx := 0) fl_X7_11 dX7_lay_17 rfl rfl rfl ?_
    refine aw_iload_n dX7_lay_20 rfl ?_
    first | refine aw_aaload4 dX7_lay_21 rfl (by decide) (by omega) ?_ | refine aw_aaload5 dX7_lay_21 rfl (by decide) (by omega) ?_ | refine aw_aaload6 dX7_lay_21 rfl (by decide) (by omega) ?_
    refine aw_iload_n dX7_lay_22 rfl ?_
    refine aw_iaload dX7_lay_23 (by exact kdR k1.1 (by omega)) (by decide) (by omega) ?_
    refine aw_top er ?_
    refine aw_istore5 dX7_lay_24 (by decide) rfl ?_
    refine aw_aload_n dX7_lay_26 rfl ?_
    refine aw_getR (kx := 0) fl_X7_11 dX7_lay_27 rfl rfl rfl ?_
    refine aw_iload_n dX7_lay_30 rfl ?_
    first | refine aw_aaload4 dX7_lay_31 rfl (by decide) (by omega) ?_ | refine aw_aaload5 dX7_lay_31 rfl (by decide) (by omega) ?_ | refine aw_aaload6 dX7_lay_31 rfl (by decide) (by omega) ?_
    refine aw_iload_n dX7_lay_32 rfl ?_
    refine aw_iload_n dX7_lay_33 rfl ?_
    refine aw_iastore dX7_lay_34 (by exact kdR k1.1 (by omega)) (by decide) (by omega) ?_
    refine aw_aload_n dX7_lay_35 rfl ?_
    refine aw_iload dX7_lay_36 rfl ?_
    refine aw_cV1IF (c_X7_tells) lk_X7_112 dX7_lay_38 (by decide) rfl rfl (fun _ => Nat.le_of_ble_eq_true rfl) ?_
    refine aw_iretQ dX7_lay_41 rfl ?_
    exact ⟨rfl, (q3c.lay hV.s k1 ⟨k2, by omega⟩).asked (hV.s.of (fun k _ => by rw [am_set_c (by decide)]) (fun c a b => am_set_c (by omega)))⟩
  · refine aw_iload dX7_lay_13 rfl ?_
    refine aw_iretQ dX7_lay_15 rfl ?_
    rw [S_lay, if_pos (by omega)]; exact q3
theorem c_X7_at {h g : am_H} {r i : Int} (hC : CRel h g) (hV : MOK g) (hr : -2147483648 ≤ r ∧ r < 2147483648) (hi : -2147483648 ≤ i ∧ i < 2147483648) : AMet GC mX7_at 4 [am_R 0, am_I r, am_I i] h (QC (S_at g r i)) := by
  have hlr := S_lp_rng g r i
  refine am_start [some (am_R 0), some (am_I r), some (am_I i), none] rfl rfl (by decide) (Nat.le_of_ble_eq_true rfl) ?_
  refine aw_aload_n dX7_at_0 rfl ?_
  refine aw_iload_n dX7_at_1 rfl ?_
  refine aw_iload_n dX7_at_2 rfl ?_
  refine aw_cV2I (c_X7_placeRefusal hC hV (by omega) (by omega)) lk_X7_108 dX7_at_3 (by decide) rfl rfl (fun _ => Nat.le_of_ble_eq_true rfl) (fun v3 h3 q3 => ?_)
  refine aw_istore_3 dX7_at_6 (by decide) rfl ?_
  refine aw_iload_n dX7_at_7 rfl ?_
  refine aw_if_eq (tgt := 15) dX7_at_8 rfl (by omega) (fun hc8 => ?_) (fun hc8 => ?_)
  · obtain ⟨k1, k2, k3, k4⟩ := S_lp_0 (g := g) (r := r) (i := i) (by omega)
    have q3c := q3.2
    rw [k4] at q3c
    have hz := hV.r.1 r k1.1 k1.2
    have er := q3c.r.1 r i k1.1 k1.2 k2 (by omega)
    rw [S_at, if_neg (by omega)]
    refine aw_aload_n dX7_at_15 rfl ?_
    refine aw_aload_n dX7_at_16 rfl ?_
    refine aw_getR (kx := 0) fl_X7_11 dX7_at_17 rfl rfl rfl ?_
    refine aw_iload_n dX7_at_20 rfl ?_
    first | refine aw_aaload4 dX7_at_21 rfl (by decide) (by omega) ?_ | refine aw_aaload5 dX7_at_21 rfl (by decide) (by omega) ?_ | refine aw_aaload6 dX7_at_21 rfl (by decide) (by omega) ?_
    refine aw_iload_n dX7_at_22 rfl ?_
    refine aw_iaload dX7_at_23 (by exact kdR k1.1 (by omega)) (by decide) (by omega) ?_
    refine aw_top er ?_
    refine aw_cV1IF (c_X7_tells) lk_X7_112 dX7_at_24 (by decide) rfl rfl (fun _ => Nat.le_of_ble_eq_true rfl) ?_
    refine aw_iretQ dX7_at_27 rfl ?_
    exact ⟨rfl, q3c.asked hV.s⟩
  · refine aw_iload_n dX7_at_11 rfl ?_
    refine aw_goto (tgt := 27) dX7_at_12 rfl ?_
    refine aw_iretQ dX7_at_27 rfl ?_
    rw [S_at, if_pos (by omega)]; exact q3
theorem c_X7_tear {h g : am_H} {r : Int} (hC : CRel h g) (hV : MOK g) (hr : -2147483648 ≤ r ∧ r < 2147483648) : AMet GC mX7_tear 3 [am_R 0, am_I r] h (QC (S_tear g r)) := by
  have hlr := rrS_rng g r
  have h1 : ¬ (rrS g r).1 = 0 → S_tear g r = rrS g r := by
    intro z
    unfold rrS at z ⊢
    unfold S_tear
    by_cases e : ¬ (0 ≤ r ∧ r ≤ 5)
    · rw [if_pos e, if_pos e]
    · rw [if_neg e] at z
      rw [if_neg e, if_neg e]
      by_cases e2 : g 1 r < 0
      · rw [if_pos e2, if_pos e2]
      · rw [if_neg e2] at z; exact absurd rfl z
  refine am_start [some (am_R 0), some (am_I r), none] rfl rfl (by decide) (Nat.le_of_ble_eq_true rfl) ?_
  refine aw_aload_n dX7_tear_0 rfl ?_
  refine aw_iload_n dX7_tear_1 rfl ?_
  refine aw_cV1I (c_X7_rowRefusalC hC hV (by omega)) lk_X7_115 dX7_tear_2 (by decide) rfl rfl (fun _ => Nat.le_of_ble_eq_true rfl) (fun v2 h2 q2 => ?_)
  refine aw_istore_2 dX7_tear_5 (by decide) rfl ?_
  refine aw_iload_n dX7_tear_6 rfl ?_
  refine aw_if_eq (tgt := 12) dX7_tear_7 rfl (by omega) (fun hc7 => ?_) (fun hc7 => ?_)
  · obtain ⟨k1, k2, k3⟩ := rrS_0 (g := g) (r := r) (by omega)
    have q2c := q2.2
    rw [k3] at q2c
    refine aw_aload_n dX7_tear_12 rfl ?_
    refine aw_getR (kx := 1) fl_X7_14 dX7_tear_13 rfl rfl rfl ?_
    refine aw_iload_n dX7_tear_16 rfl ?_
    refine aw_iconst dX7_tear_17 ?_
    refine aw_iastore dX7_tear_18 rfl (by decide) (by omega) ?_
    refine aw_iconst dX7_tear_19 ?_
    refine aw_iretQ dX7_tear_20 rfl ?_
    rw [S_tear, if_neg (by omega), if_neg (by omega)]
    refine ⟨rfl, ?_⟩
    show CRel _ (am_set g 1 r (-1))
    refine q2c.ofR hV.s (fun c a => am_set_c (by omega)) (fun c a b => am_set_c a) ⟨fun x i a b d e => ?_, fun x a b => ?_⟩
    · rw [am_set_c (by omega), am_set_c (by decide)]; exact q2c.r.1 x i a b d e
    · by_cases q : x = r
      · rw [q, am_set_s, am_set_s]
      · rw [am_set_i q, am_set_i q]; exact q2c.r.2 x a b
  · refine aw_iload_n dX7_tear_10 rfl ?_
    refine aw_iretQ dX7_tear_11 rfl ?_
    rw [h1 (by omega)]; exact q2
theorem c_X7_copy {h g : am_H} {r i to j n : Int} (hC : CRel h g) (hV : MOK g) (hr : -2147483648 ≤ r ∧ r < 2147483648) (hi : -2147483648 ≤ i ∧ i < 2147483648) (ht : -2147483648 ≤ to ∧ to < 2147483648) (hj : -2147483648 ≤ j ∧ j < 2147483648) (hn : -2147483648 ≤ n ∧ n < 2147483648) : AMet GC mX7_copy 2 [am_R 0, am_I r, am_I i, am_I to, am_I j, am_I n] h (QC (S_copy g r i to j n)) := by
  have z1 := hC.hz hV r
  have z2 := hC.hz hV to
  have y1 := hC.r.2 r
  have y2 := hC.r.2 to
  refine am_start [some (am_R 0), some (am_I r), some (am_I i), some (am_I to), some (am_I j), some (am_I n)] rfl rfl (by decide) (Nat.le_of_ble_eq_true rfl) ?_
  refine aw_iload_n dX7_copy_0 rfl ?_
  refine aw_cS1IF (c_X7_isNoRow (by omega)) lk_X7_96 dX7_copy_1 (by decide) (fun _ => Nat.le_of_ble_eq_true rfl) ?_
  refine aw_ifb_ne (tgt := 14) dX7_copy_4 rfl (fun hc4 => ?_) (fun hc4 => ?_)
  · refine aw_iconst dX7_copy_14 ?_
    refine aw_iretQ dX7_copy_15 rfl ?_
    rw [S_copy, if_pos (by omega)]; exact ⟨rfl, hC⟩
  · refine aw_iload_n dX7_copy_7 rfl ?_
    refine aw_cS1IF (c_X7_isNoRow (by omega)) lk_X7_96 dX7_copy_8 (by decide) (fun _ => Nat.le_of_ble_eq_true rfl) ?_
    refine aw_ifb_eq (tgt := 16) dX7_copy_11 rfl (fun hc11 => ?_) (fun hc11 => ?_)
    · refine aw_iload dX7_copy_16 rfl ?_
      refine aw_if_ge (tgt := 27) dX7_copy_18 rfl (by omega) (fun hc18 => ?_) (fun hc18 => ?_)
      · have z3 := z1 (by omega) (by omega)
        have z4 := z2 (by omega) (by omega)
        have y3 := y1 (by omega) (by omega)
        have y4 := y2 (by omega) (by omega)
        refine aw_aload_n dX7_copy_27 rfl ?_
        refine aw_getR (kx := 1) fl_X7_14 dX7_copy_28 rfl rfl rfl ?_
        refine aw_iload_n dX7_copy_31 rfl ?_
        refine aw_iaload dX7_copy_32 rfl (by decide) (by omega) ?_
        refine aw_if_lt (tgt := 45) dX7_copy_33 rfl (by omega) (fun hc33 => ?_) (fun hc33 => ?_)
        · refine aw_aload_n dX7_copy_45 rfl ?_
          refine aw_iconst dX7_copy_46 ?_
          refine aw_cV1IF (c_X7_found (by omega)) lk_X7_100 dX7_copy_47 (by decide) rfl rfl (fun _ => Nat.le_of_ble_eq_true rfl) ?_
          refine aw_iretQ dX7_copy_50 rfl ?_
          rw [S_copy, if_neg (by omega), if_neg (by omega), if_pos (by omega)]; exact ⟨rfl, hC.found hV.s (by decide)⟩
        · refine aw_aload_n dX7_copy_36 rfl ?_
          refine aw_getR (kx := 1) fl_X7_14 dX7_copy_37 rfl rfl rfl ?_
          refine aw_iload_n dX7_copy_40 rfl ?_
          refine aw_iaload dX7_copy_41 rfl (by decide) (by omega) ?_
          refine aw_if_ge (tgt := 51) dX7_copy_42 rfl (by omega) (fun hc42 => ?_) (fun hc42 => ?_)
          · refine aw_aload_n dX7_copy_51 rfl ?_
            refine aw_getR (kx := 1) fl_X7_14 dX7_copy_52 rfl rfl rfl ?_
            refine aw_iload_n dX7_copy_55 rfl ?_
            refine aw_iaload dX7_copy_56 rfl (by decide) (by omega) ?_
            refine aw_iload_n dX7_copy_57 rfl ?_
            refine aw_iload dX7_copy_58 rfl ?_
            refine aw_cS3IF (c_X7_isBeyond (by omega) (by omega) (by omega)) lk_X7_118 dX7_copy_60 (by decide) (fun _ => Nat.le_of_ble_eq_true rfl) ?_
            refine aw_ifb_ne (tgt := 82) dX7_copy_63 rfl (fun hc63 => ?_) (fun hc63 => ?_)
            · refine aw_aload_n dX7_copy_82 rfl ?_
              refine aw_iconst dX7_copy_83 ?_
              refine aw_cV1IF (c_X7_found (by omega)) lk_X7_100 dX7_copy_84 (by decide) rfl rfl (fun _ => Nat.le_of_ble_eq_true rfl) ?_
              refine aw_iretQ dX7_copy_87 rfl ?_
              rw [S_copy, if_neg (by omega), if_neg (by omega), if_neg (by omega), if_pos (by omega)]; exact ⟨rfl, hC.found hV.s (by decide)⟩
            · refine aw_aload_n dX7_copy_66 rfl ?_
              refine aw_getR (kx := 1) fl_X7_14 dX7_copy_67 rfl rfl rfl ?_
              refine aw_iload_n dX7_copy_70 rfl ?_
              refine aw_iaload dX7_copy_71 rfl (by decide) (by omega) ?_
              refine aw_iload dX7_copy_72 rfl ?_
              refine aw_iload dX7_copy_74 rfl ?_
              refine aw_cS3IF (c_X7_isBeyond (by omega) (by omega) (by omega)) lk_X7_118 dX7_copy_76 (by decide) (fun _ => Nat.le_of_ble_eq_true rfl) ?_
              refine aw_ifb_eq (tgt := 88) dX7_copy_79 rfl (fun hc79 => ?_) (fun hc79 => ?_)
              · refine aw_aload_n dX7_copy_88 rfl ?_
                refine aw_getR (kx := 0) fl_X7_11 dX7_copy_89 rfl rfl rfl ?_
                refine aw_iload_n dX7_copy_92 rfl ?_
                first | refine aw_aaload4 dX7_copy_93 rfl (by decide) (by omega) ?_ | refine aw_aaload5 dX7_copy_93 rfl (by decide) (by omega) ?_ | refine aw_aaload6 dX7_copy_93 rfl (by decide) (by omega) ?_
                refine aw_iload_n dX7_copy_94 rfl ?_
                refine aw_aload_n dX7_copy_95 rfl ?_
                refine aw_getR (kx := 0) fl_X7_11 dX7_copy_96 rfl rfl rfl ?_
                refine aw_iload_n dX7_copy_99 rfl ?_
                first | refine aw_aaload4 dX7_copy_100 rfl (by decide) (by omega) ?_ | refine aw_aaload5 dX7_copy_100 rfl (by decide) (by omega) ?_ | refine aw_aaload6 dX7_copy_100 rfl (by decide) (by omega) ?_
                refine aw_iload dX7_copy_101 rfl ?_
                refine aw_iload dX7_copy_103 rfl ?_
                refine aw_copy lc_X7_122 dX7_copy_105 (kdR (r := r) (by omega) (by omega)) (kdR (r := to) (by omega) (by omega)) (by decide) (by decide) (by omega) (by omega) (by omega) (by decide) (fun _ => Nat.le_of_ble_eq_true rfl) ?_
                refine aw_iconst dX7_copy_108 ?_
                refine aw_iretQ dX7_copy_109 rfl ?_
                rw [S_copy, if_neg (by omega), if_neg (by omega), if_neg (by omega), if_neg (by omega)]
                refine ⟨rfl, ?_⟩
                show CRel _ (copyF g r i to j n)
                refine hC.ofR hV.s (fun c a => am_up_c (by omega)) (fun c a b => by unfold copyF; rw [am_up_c b]) ⟨fun x k a b d e => ?_, fun x a b => ?_⟩
                · unfold copyF
                  rw [am_up_s]
                  by_cases q : x = to
                  · rw [q, am_up_s]
                    unfold am_cpy
                    by_cases q2 : j ≤ k ∧ k < j + n
                    · rw [if_pos q2, if_pos (by omega), hC.r.1 r (i + (k - j)) (by omega) (by omega) (by omega) (by omega)]; congr 1; omega
                    · rw [if_neg q2, if_neg (by omega)]; exact hC.r.1 to k (by omega) (by omega) d e
                  · rw [am_up_c (by omega), if_neg (by omega)]; exact hC.r.1 x k a b d e
                · unfold copyF
                  rw [am_up_c (by omega), am_up_c (by decide)]; exact hC.r.2 x a b
              · refine aw_aload_n dX7_copy_82 rfl ?_
                refine aw_iconst dX7_copy_83 ?_
                refine aw_cV1IF (c_X7_found (by omega)) lk_X7_100 dX7_copy_84 (by decide) rfl rfl (fun _ => Nat.le_of_ble_eq_true rfl) ?_
                refine aw_iretQ dX7_copy_87 rfl ?_
                rw [S_copy, if_neg (by omega), if_neg (by omega), if_neg (by omega), if_pos (by omega)]; exact ⟨rfl, hC.found hV.s (by decide)⟩
          · refine aw_aload_n dX7_copy_45 rfl ?_
            refine aw_iconst dX7_copy_46 ?_
            refine aw_cV1IF (c_X7_found (by omega)) lk_X7_100 dX7_copy_47 (by decide) rfl rfl (fun _ => Nat.le_of_ble_eq_true rfl) ?_
            refine aw_iretQ dX7_copy_50 rfl ?_
            rw [S_copy, if_neg (by omega), if_neg (by omega), if_pos (by omega)]; exact ⟨rfl, hC.found hV.s (by decide)⟩
      · refine aw_aload_n dX7_copy_21 rfl ?_
        refine aw_iconst dX7_copy_22 ?_
        refine aw_cV1IF (c_X7_found (by omega)) lk_X7_100 dX7_copy_23 (by decide) rfl rfl (fun _ => Nat.le_of_ble_eq_true rfl) ?_
        refine aw_iretQ dX7_copy_26 rfl ?_
        rw [S_copy, if_neg (by omega), if_pos (by omega)]; exact ⟨rfl, hC.found hV.s (by decide)⟩
    · refine aw_iconst dX7_copy_14 ?_
      refine aw_iretQ dX7_copy_15 rfl ?_
      rw [S_copy, if_pos (by omega)]; exact ⟨rfl, hC⟩
