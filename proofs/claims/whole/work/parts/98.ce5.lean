theorem CRel.ratio {h g : am_H} {v l c : Int} (hC : CRel h g) (hs : MVs g) (hl : 0 < l) (e : v * 429981696 = c * l) : CRel (ctrF h v l) (tpF g c) := by
  obtain ⟨q1, q2⟩ := low_terms (a := v) (b := l) (c := c) (d := 429981696) hl (by decide) e
  have hh : ∀ x : Int, ¬ x = 0 → ctrF h v l x = h x := fun x a => by unfold ctrF; rw [am_set_c a, am_set_c a]
  have hg : ∀ x : Int, ¬ x = 0 → tpF g c x = g x := fun x a => by unfold tpF; rw [am_set_c a, am_set_c a]
  have hg0 : ∀ k : Int, ¬ k = 21 → ¬ k = 22 → tpF g c 0 k = g 0 k := fun k a b => by unfold tpF; rw [am_set_i b, am_set_i a]
  have hh0 : ∀ k : Int, ¬ k = 14 → ¬ k = 15 → ctrF h v l 0 k = h 0 k := fun k a b => by unfold ctrF; rw [am_set_i b, am_set_i a]
  have he : SpE (tpF g c) g := ⟨fun x a b => hg x (by omega), hg0 _ (by decide) (by decide), hg0 _ (by decide) (by decide), hg0 _ (by decide) (by decide)⟩
  refine ⟨hC.r.cong (fun x a b => hh x (by omega)) (hg _ (by decide)) (hg _ (by decide)), hC.t.cong (fun x a b => hh x (by omega)) (hg _ (by decide)) (hg _ (by decide)), hC.s.cong hs (fun x a b => hh x (by omega)) (fun x a b => hh x (by omega)) he, hC.y.cong (fun x a b => hh x (by omega)) (hg0 _ (by decide) (by decide)) (hg0 _ (by decide) (by decide)) (hg _ (by decide)) (hg _ (by decide)), hC.k.cong (fun x a b => hh x (by omega)) (hg _ (by decide)) (hg _ (by decide)), ?_, hC.p.cong (by rw [hh 60 (by decide)]) (hh _ (by decide)) he⟩
  obtain ⟨⟨f1, f2, f3, f4⟩, f5⟩ := hC.f
  refine ⟨⟨by rw [hh0 _ (by decide) (by decide), hg0 _ (by decide) (by decide)]; exact f1, ?_, ?_, by rw [hh0 _ (by decide) (by decide), hg0 _ (by decide) (by decide)]; exact f4⟩, fun f a b => ?_⟩
  · unfold ctrF tpF; rw [am_set_i (by decide), am_set_s, am_set_i (by decide), am_set_s]; exact q1
  · unfold ctrF tpF; rw [am_set_s, am_set_s]; exact q2
  · rw [hh 81 (by decide), hg _ (by decide)]; exact f5 f a b
theorem c_X7_odds {h g : am_H} {m : Int} (hC : CRel h g) (hV : MOK g) (hm : -2147483648 ≤ m ∧ m < 2147483648) : AMet GC mX7_odds 3 [am_R 0, am_I m] h (QC (S_odds g m)) := by
  have hn := hC.nn.1
  have hnn := hV.s.1
  have hnow := now_rng hV.s hV.y
  have hlt := ltP_rng hV.s (x := nowF g) (by omega)
  refine am_start [some (am_R 0), some (am_I m), none] rfl rfl (by decide) (Nat.le_of_ble_eq_true rfl) ?_
  refine aw_iload_n dX7_odds_0 rfl ?_
  refine aw_if_lt (tgt := 10) dX7_odds_1 rfl (by omega) (fun hc1 => ?_) (fun hc1 => ?_)
  · refine aw_iconst dX7_odds_10 ?_
    refine aw_iretQ dX7_odds_11 rfl ?_
    rw [S_odds, if_pos (by omega)]; exact ⟨rfl, hC⟩
  · refine aw_iload_n dX7_odds_4 rfl ?_
    refine aw_bipush (by decide) dX7_odds_5 ?_
    refine aw_icmp_lt (tgt := 12) dX7_odds_7 rfl (by omega) (by omega) (fun hc7 => ?_) (fun hc7 => ?_)
    · refine aw_aload_n dX7_odds_12 rfl ?_
      refine aw_cV0IF (c_X7_isUnspoken (by omega)) lk_X7_230 dX7_odds_13 (by decide) rfl rfl (fun _ => Nat.le_of_ble_eq_true rfl) ?_
      refine aw_ifb_eq (tgt := 22) dX7_odds_16 rfl (fun hc16 => ?_) (fun hc16 => ?_)
      · have hO := hC.s.2 (by omega)
        refine aw_aload_n dX7_odds_22 rfl ?_
        refine aw_cV0IF (c_X7_nodeNow hV.s hV.y hC.s.1 hC.y) lk_X7_197 dX7_odds_23 (by decide) rfl rfl (fun _ => Nat.le_of_ble_eq_true rfl) ?_
        refine aw_istore_2 dX7_odds_26 (by decide) rfl ?_
        refine aw_aload_n dX7_odds_27 rfl ?_
        refine aw_aload_n dX7_odds_28 rfl ?_
        refine aw_getR (kx := 7) fl_X7_48 dX7_odds_29 rfl rfl rfl ?_
        refine aw_iload_n dX7_odds_32 rfl ?_
        refine aw_iload_n dX7_odds_33 rfl ?_
        refine aw_cV2I (c_X2_chancesOf hV.s hC.s.1 hO (by omega) (by omega)) lk_X7_257 dX7_odds_34 (by decide) rfl rfl (fun _ => Nat.le_of_ble_eq_true rfl) (fun v34 h34 q34 => ?_)
        have hc34 : CRel h34 g := hC.ofX hV.s (fun c a => q34.2 c (by omega))
        have hq34 := q34.1.2
        refine aw_i2l (by omega) dX7_odds_37 ?_
        refine aw_aload_n dX7_odds_38 rfl ?_
        refine aw_getR (kx := 7) fl_X7_48 dX7_odds_39 rfl rfl rfl ?_
        refine aw_getR (kx := 7) fl_X7_260 dX7_odds_42 rfl rfl rfl ?_
        refine aw_iload_n dX7_odds_45 rfl ?_
        refine aw_iaload dX7_odds_46 rfl (by decide) (by omega) ?_
        refine aw_top (show h34 58 (nowF g) = ltP g (nowF g) by rw [q34.2 58 (by decide)]; exact hO.2 _ (by omega) (by omega)) ?_
        refine aw_i2l (by omega) dX7_odds_47 ?_
        refine aw_cV2VF (c_X7_tellsRatio (by omega) (by omega)) lk_X7_263 dX7_odds_48 (by decide) rfl rfl (fun _ => Nat.le_of_ble_eq_true rfl) ?_
        refine aw_iconst dX7_odds_51 ?_
        refine aw_iretQ dX7_odds_52 rfl ?_
        rw [S_odds, if_neg (by omega), if_neg (by omega)]; exact qc_mk rfl (hc34.ratio hV.s hlt.1 q34.1.1)
      · refine aw_bipush (by decide) dX7_odds_19 ?_
        refine aw_iretQ dX7_odds_21 rfl ?_
        rw [S_odds, if_neg (by omega), if_pos (by omega)]; exact ⟨rfl, hC⟩
    · refine aw_iconst dX7_odds_10 ?_
      refine aw_iretQ dX7_odds_11 rfl ?_
      rw [S_odds, if_pos (by omega)]; exact ⟨rfl, hC⟩
theorem c_X7_years {h g : am_H} (hC : CRel h g) (hV : MOK g) : AMet GC mX7_years 2 [am_R 0] h (QC (S_years g)) := by
  have hn := hC.nn.1
  have hnn := hV.s.1
  have hnow := now_rng hV.s hV.y
  refine am_start [some (am_R 0), none] rfl rfl (by decide) (Nat.le_of_ble_eq_true rfl) ?_
  by_cases h0 : g 0 6 = 0
  · refine aw_aload_n dX7_years_0 rfl ?_
    refine aw_cV0IF (c_X7_isUnspoken (by omega)) lk_X7_230 dX7_years_1 (by decide) rfl rfl (fun _ => Nat.le_of_ble_eq_true rfl) ?_
    refine aw_ifb_eq (tgt := 10) dX7_years_4 rfl (fun hc4 => ?_) (fun hc4 => ?_)
    · omega
    · refine aw_bipush (by decide) dX7_years_7 ?_
      refine aw_iretQ dX7_years_9 rfl ?_
      rw [S_years, if_pos h0]; exact ⟨rfl, hC⟩
  · have hO := hC.s.2 h0
    have hx := hO.1 (nowF g) (by omega) (by omega)
    have hys := yrs_ok hV.s 9 (nowF g) (by omega) (by omega) (by omega)
    have hsr := sen_rng hV.s 9 (nowF g) (by omega) (by omega) (by omega)
    rw [show (4 : Nat) ^ 9 = 262144 from rfl] at hsr
    refine aw_aload_n dX7_years_0 rfl ?_
    refine aw_cV0IF (c_X7_isUnspoken (by omega)) lk_X7_230 dX7_years_1 (by decide) rfl rfl (fun _ => Nat.le_of_ble_eq_true rfl) ?_
    refine aw_ifb_eq (tgt := 10) dX7_years_4 rfl (fun hc4 => ?_) (fun hc4 => ?_)
    · refine aw_aload_n dX7_years_10 rfl ?_
      refine aw_cV0IF (c_X7_nodeNow hV.s hV.y hC.s.1 hC.y) lk_X7_197 dX7_years_11 (by decide) rfl rfl (fun _ => Nat.le_of_ble_eq_true rfl) ?_
      refine aw_istore_1 dX7_years_14 (by decide) rfl ?_
      refine aw_aload_n dX7_years_15 rfl ?_
      refine aw_getR (kx := 7) fl_X7_48 dX7_years_16 rfl rfl rfl ?_
      refine aw_getR (kx := 0) fl_X7_267 dX7_years_19 rfl rfl rfl ?_
      refine aw_iload_n dX7_years_22 rfl ?_
      refine aw_iaload dX7_years_23 rfl (by decide) (by omega) ?_
      refine aw_top hx.1 ?_
      refine aw_if_ne (tgt := 30) dX7_years_24 rfl (by omega) (fun hc24 => ?_) (fun hc24 => ?_)
      · refine aw_aload_n dX7_years_30 rfl ?_
        refine aw_aload_n dX7_years_31 rfl ?_
        refine aw_getR (kx := 7) fl_X7_48 dX7_years_32 rfl rfl rfl ?_
        refine aw_getR (kx := 4) fl_X7_270 dX7_years_35 rfl rfl rfl ?_
        refine aw_iload_n dX7_years_38 rfl ?_
        refine aw_iaload dX7_years_39 rfl (by decide) (by omega) ?_
        refine aw_putI (kx := 13) fp_X7_238 dX7_years_40 rfl rfl rfl ?_
        refine aw_aload_n dX7_years_43 rfl ?_
        refine aw_getR (kx := 7) fl_X7_48 dX7_years_44 rfl rfl rfl ?_
        refine aw_getR (kx := 3) fl_X7_273 dX7_years_47 rfl rfl rfl ?_
        refine aw_iload_n dX7_years_50 rfl ?_
        refine aw_iaload dX7_years_51 rfl (by decide) (by omega) ?_
        refine aw_iretQ dX7_years_52 rfl ?_
        have hp : 0 < sen g (nowF g) := by have := hys.1; omega
        have z := hx.2.2.2.1 hp
        have w : 0 ≤ (yrs g (nowF g)).1 := by rcases hys.2 with y | y <;> omega
        rw [S_years, if_neg h0, if_neg (by omega), z.2]
        exact qc_mk (by rw [am_set_c (by decide)]; exact z.1) (hC.asked hV.s)
      · refine aw_bipush (by decide) dX7_years_27 ?_
        refine aw_iretQ dX7_years_29 rfl ?_
        have e : yrs g (nowF g) = (-9, -9) := by
          rcases hys.2 with z | z
          · exact z.2
          · omega
        rw [S_years, if_neg h0, e, if_pos (by decide)]; exact ⟨rfl, hC⟩
    · omega
theorem c_X7_just {h g : am_H} {n : Int} (hC : CRel h g) (hV : MOK g) (hm : -2147483648 ≤ n ∧ n < 2147483648) : AMet GC mX7_just 3 [am_R 0, am_I n] h (QC (S_just g n)) := by
  have hn := hC.nn.1
  have hnn := hV.s.1
  have hnow := now_rng hV.s hV.y
  refine am_start [some (am_R 0), some (am_I n), none] rfl rfl (by decide) (Nat.le_of_ble_eq_true rfl) ?_
  refine aw_iload_n dX7_just_0 rfl ?_
  refine aw_if_lt (tgt := 10) dX7_just_1 rfl (by omega) (fun hc1 => ?_) (fun hc1 => ?_)
  · refine aw_iconst dX7_just_10 ?_
    refine aw_iretQ dX7_just_11 rfl ?_
    rw [S_just, if_pos (by omega)]; exact ⟨rfl, hC⟩
  · refine aw_iload_n dX7_just_4 rfl ?_
    refine aw_bipush (by decide) dX7_just_5 ?_
    refine aw_icmp_le (tgt := 12) dX7_just_7 rfl (by omega) (by omega) (fun hc7 => ?_) (fun hc7 => ?_)
    · refine aw_aload_n dX7_just_12 rfl ?_
      refine aw_cV0IF (c_X7_isUnspoken (by omega)) lk_X7_230 dX7_just_13 (by decide) rfl rfl (fun _ => Nat.le_of_ble_eq_true rfl) ?_
      refine aw_ifb_eq (tgt := 22) dX7_just_16 rfl (fun hc16 => ?_) (fun hc16 => ?_)
      · have hO := hC.s.2 (by omega)
        refine aw_aload_n dX7_just_22 rfl ?_
        refine aw_cV0IF (c_X7_nodeNow hV.s hV.y hC.s.1 hC.y) lk_X7_197 dX7_just_23 (by decide) rfl rfl (fun _ => Nat.le_of_ble_eq_true rfl) ?_
        refine aw_istore_2 dX7_just_26 (by decide) rfl ?_
        refine aw_aload_n dX7_just_27 rfl ?_
        refine aw_aload_n dX7_just_28 rfl ?_
        refine aw_getR (kx := 7) fl_X7_48 dX7_just_29 rfl rfl rfl ?_
        refine aw_iload_n dX7_just_32 rfl ?_
        refine aw_iload_n dX7_just_33 rfl ?_
        refine aw_cV2IF (c_X2_firstWordFor hV.s hC.s.1 hO (by omega) (by omega)) lk_X7_276 dX7_just_34 (by decide) rfl rfl (fun _ => Nat.le_of_ble_eq_true rfl) ?_
        refine aw_putI (kx := 13) fp_X7_238 dX7_just_37 rfl rfl rfl ?_
        refine aw_aload_n dX7_just_40 rfl ?_
        refine aw_getR (kx := 7) fl_X7_48 dX7_just_41 rfl rfl rfl ?_
        refine aw_getR (kx := 6) fl_X7_279 dX7_just_44 rfl rfl rfl ?_
        refine aw_iload_n dX7_just_47 rfl ?_
        first | refine aw_aaload4 dX7_just_48 rfl (by decide) (by omega) ?_ | refine aw_aaload5 dX7_just_48 rfl (by decide) (by omega) ?_ | refine aw_aaload6 dX7_just_48 rfl (by decide) (by omega) ?_
        refine aw_iload_n dX7_just_49 rfl ?_
        refine aw_iaload dX7_just_50 (by exact kdY (by omega) (by omega)) (by decide) (by omega) ?_
        refine aw_iretQ dX7_just_51 rfl ?_
        rw [S_just, if_neg (by omega), if_neg (by omega)]
        exact qc_mk (by rw [am_set_c (by omega)]; exact (hO.1 (nowF g) (by omega) (by omega)).2.2.2.2.2.1 n (by omega) (by omega)) (hC.asked hV.s)
      · refine aw_bipush (by decide) dX7_just_19 ?_
        refine aw_iretQ dX7_just_21 rfl ?_
        rw [S_just, if_neg (by omega), if_pos (by omega)]; exact ⟨rfl, hC⟩
    · refine aw_iconst dX7_just_10 ?_
      refine aw_iretQ dX7_just_11 rfl ?_
      rw [S_just, if_pos (by omega)]; exact ⟨rfl, hC⟩
theorem c_X7_known {h g : am_H} (hC : CRel h g) (hV : MOK g) : AMet GC mX7_known 2 [am_R 0] h (QC (S_known g)) := by
  have hn := hC.nn.1
  have hnn := hV.s.1
  have hnow := now_rng hV.s hV.y
  refine am_start [some (am_R 0)] rfl rfl (by decide) (Nat.le_of_ble_eq_true rfl) ?_
  refine aw_aload_n dX7_known_0 rfl ?_
  refine aw_cV0IF (c_X7_isUnspoken (by omega)) lk_X7_230 dX7_known_1 (by decide) rfl rfl (fun _ => Nat.le_of_ble_eq_true rfl) ?_
  refine aw_ifb_eq (tgt := 12) dX7_known_4 rfl (fun hc4 => ?_) (fun hc4 => ?_)
  · refine aw_aload_n dX7_known_12 rfl ?_
    refine aw_getR (kx := 7) fl_X7_48 dX7_known_13 rfl rfl rfl ?_
    refine aw_getR (kx := 5) fl_X7_282 dX7_known_16 rfl rfl rfl ?_
    refine aw_aload_n dX7_known_19 rfl ?_
    refine aw_cV0IF (c_X7_nodeNow hV.s hV.y hC.s.1 hC.y) lk_X7_197 dX7_known_20 (by decide) rfl rfl (fun _ => Nat.le_of_ble_eq_true rfl) ?_
    refine aw_iaload dX7_known_23 rfl (by decide) (by omega) ?_
    refine aw_iretQ dX7_known_24 rfl ?_
    rw [S_known, if_neg (by omega)]
    obtain ⟨_, _, _, _, hx5, _⟩ := (hC.s.2 (by omega)).1 (nowF g) (by omega) (by omega)
    exact qc_mk hx5 hC
  · refine aw_bipush (by decide) dX7_known_7 ?_
    refine aw_goto (tgt := 24) dX7_known_9 rfl ?_
    refine aw_iretQ dX7_known_24 rfl ?_
    rw [S_known, if_pos (by omega)]; exact ⟨rfl, hC⟩
theorem pc_64 : ∀ n : Nat, n < 64 → pcN 16 n ≤ 6 := by decide +kernel
theorem tlW_6 (fr to : Int → Int) (ou : Int → Nat) (nw : Nat) (x k : Int) : 0 ≤ tlW fr to ou nw x k ∧ tlW fr to ou nw x k ≤ 6 := by
  have h1 := pc_64 _ (tlO_lt fr to ou x k nw)
  have h2 := pc_64 (ou (to k) % 64) (Nat.mod_lt _ (by decide))
  have h3 : pcN 16 (tlO fr to ou nw x k) ≤ 6 := h1
  unfold tlW
  split <;> omega
theorem wl_lt (fr : Int → Int) (x : Int) : ∀ n : Nat, (wl fr x n).Pairwise (· < ·)
  | 0 => List.Pairwise.nil
  | n + 1 => by
    have ih := wl_lt fr x n
    show (wl fr x n ++ (if fr n = x then [(n : Int)] else [])).Pairwise (· < ·)
    rw [List.pairwise_append]
    refine ⟨ih, ?_, fun a ha b hb => ?_⟩
    · split
      · exact List.pairwise_singleton _ _
      · exact List.Pairwise.nil
    · split at hb
      · rw [List.mem_singleton.mp hb]; exact (wl_mem.mp ha).2.1
      · simp at hb
theorem wl_inj {fr : Int → Int} {x : Int} {n i j : Nat} {v w : Int} (hi : (wl fr x n)[i]? = some v) (hj : (wl fr x n)[j]? = some w) : v = w ↔ i = j := by
  obtain ⟨i1, i2⟩ := List.getElem?_eq_some_iff.mp hi
  obtain ⟨j1, j2⟩ := List.getElem?_eq_some_iff.mp hj
  have hp := List.pairwise_iff_getElem.mp (wl_lt fr x n)
  constructor
  · intro e
    by_cases q : i < j
    · have := hp i j i1 j1 q; omega
    · by_cases q2 : j < i
      · have := hp j i j1 i1 q2; omega
      · omega
  · intro e
    subst e
    rw [hi] at hj
    exact Option.some.inj hj
/-- the class's best so far, by the reference's -/
def tlC (s : Int × Int) (b f : Int) : Prop := (s.1 < 0 ∧ b = -9 ∧ f = 7) ∨ (0 ≤ s.1 ∧ b = s.1 ∧ f = s.2 ∧ f ≤ 6)
theorem lp_X7_tell {h g : am_H} (hC : CRel h g) (hV : MOK g) (h0 : ¬ g 0 6 = 0) : ∀ (m j : Nat) (b f : Int) (x5 : Option am_V), (j : Int) ≤ dgF g (nowF g) → dgF g (nowF g) - j < m → (-9 ≤ b ∧ b ≤ 13 ∧ 0 ≤ f ∧ f ≤ 7) → tlC (((wl (g 7) (nowF g) (nwN g)).take j).foldl (tlS (tlW (g 7) (g 8) (out g) (nwN g) (nowF g))) (-9, 0)) b f → AW GC mX7_tell 3 (QC (S_tell g)) 24 [some (am_R 0), some (am_I (nowF g)), some (am_I b), some (am_I f), some (am_I j), x5] [] h := by
  have hn := hC.nn.1
  have hnn := hV.s.1
  have hww := hV.s.2.1
  have hnow := now_rng hV.s hV.y
  have hd4 : dgF g (nowF g) ≤ 4 := hV.s.2.2.2.2.2.2.1 _
  have hl := dg_len g (nowF g)
  have hdg := (hC.s.1.2.1 (nowF g) (by omega) (by omega)).2.2
  have hO := hC.s.2 h0
  intro m
  induction m with
  | zero => intro j b f x5 h1 h2; omega
  | succ m ih =>
    intro j b f x5 h1 h2 hbf ht
    by_cases hj : (j : Int) < dgF g (nowF g)
    · obtain ⟨w, w1, w2, w3, w4⟩ := sp_at hV.s hC.s.1 ⟨by omega, by omega⟩ hj
      have h6 := tlW_6 (g 7) (g 8) (out g) (nwN g) (nowF g) w
      have hf := tk_fold w1 (tlS (tlW (g 7) (g 8) (out g) (nwN g) (nowF g))) (-9, 0)
      generalize ((wl (g 7) (nowF g) (nwN g)).take j).foldl (tlS (tlW (g 7) (g 8) (out g) (nwN g) (nowF g))) (-9, 0) = s at ht hf
      refine aw_iload dX7_tell_24 rfl ?_
      refine aw_aload_n dX7_tell_26 rfl ?_
      refine aw_getR (kx := 4) fl_X7_29 dX7_tell_27 rfl rfl rfl ?_
      refine aw_getR (kx := 5) fl_X7_285 dX7_tell_30 rfl rfl rfl ?_
      refine aw_iload_n dX7_tell_33 rfl ?_
      refine aw_iaload dX7_tell_34 rfl (by decide) (by omega) ?_
      refine aw_icmp_ge (tgt := 76) dX7_tell_35 rfl (by omega) (by omega) (fun hc35 => ?_) (fun hc35 => ?_)
      · omega
      · refine aw_aload_n dX7_tell_38 rfl ?_
        refine aw_getR (kx := 7) fl_X7_48 dX7_tell_39 rfl rfl rfl ?_
        refine aw_iload_n dX7_tell_42 rfl ?_
        refine aw_iload dX7_tell_43 rfl ?_
        refine aw_cV2IF (c_X2_leftAtWorst hV.s hC.s.1 hO (by omega) hj w1 (fun i v hv => wl_inj hv w1)) lk_X7_288 dX7_tell_45 (by decide) rfl rfl (fun _ => Nat.le_of_ble_eq_true rfl) ?_
        refine aw_istore5 dX7_tell_48 (by decide) rfl ?_
        refine aw_iload dX7_tell_50 rfl ?_
        refine aw_iload_n dX7_tell_52 rfl ?_
        refine aw_icmp_ge (tgt := 70) dX7_tell_53 rfl (by omega) (by omega) (fun hc53 => ?_) (fun hc53 => ?_)
        · refine aw_iinc4 dX7_tell_70 (by decide) rfl ?_
          refine aw_goto (tgt := 24) dX7_tell_73 rfl ?_
          refine ih (j + 1) b f _ (by omega) (by omega) hbf ?_
          rw [hf, tlS]
          rcases ht with ⟨t1, t2, t3⟩ | ⟨t1, t2, t3, t4⟩
          · omega
          · rw [if_neg (by omega)]; exact Or.inr ⟨t1, t2, t3, t4⟩
        · refine aw_iload dX7_tell_56 rfl ?_
          refine aw_istore_3 dX7_tell_58 (by decide) rfl ?_
          refine aw_aload_n dX7_tell_59 rfl ?_
          refine aw_getR (kx := 4) fl_X7_29 dX7_tell_60 rfl rfl rfl ?_
          refine aw_iload_n dX7_tell_63 rfl ?_
          refine aw_iload dX7_tell_64 rfl ?_
          refine aw_cV2IF (c_X5_wordAt (by omega)) lk_X7_291 dX7_tell_66 (by decide) rfl rfl (fun _ => Nat.le_of_ble_eq_true rfl) ?_
          refine aw_top w2 ?_
          refine aw_istore_2 dX7_tell_69 (by decide) rfl ?_
          refine aw_iinc4 dX7_tell_70 (by decide) rfl ?_
          refine aw_goto (tgt := 24) dX7_tell_73 rfl ?_
          refine ih (j + 1) w _ _ (by omega) (by omega) (by omega) ?_
          rw [hf, tlS, if_pos (by rcases ht with t | t <;> omega)]
          refine Or.inr ?_
          dsimp only
          exact ⟨w3.1, rfl, rfl, h6.2⟩
    · have e : tlR g (nowF g) (nwN g) = ((wl (g 7) (nowF g) (nwN g)).take j).foldl (tlS (tlW (g 7) (g 8) (out g) (nwN g) (nowF g))) (-9, 0) := by
        rw [tlR, List.take_of_length_le (by omega)]
      rw [← e] at ht
      refine aw_iload dX7_tell_24 rfl ?_
      refine aw_aload_n dX7_tell_26 rfl ?_
      refine aw_getR (kx := 4) fl_X7_29 dX7_tell_27 rfl rfl rfl ?_
      refine aw_getR (kx := 5) fl_X7_285 dX7_tell_30 rfl rfl rfl ?_
      refine aw_iload_n dX7_tell_33 rfl ?_
      refine aw_iaload dX7_tell_34 rfl (by decide) (by omega) ?_
      refine aw_icmp_ge (tgt := 76) dX7_tell_35 rfl (by omega) (by omega) (fun hc35 => ?_) (fun hc35 => ?_)
      · refine aw_iload_n dX7_tell_76 rfl ?_
        refine aw_bipush (by decide) dX7_tell_77 ?_
        refine aw_icmp_eq (tgt := 87) dX7_tell_79 rfl (by omega) (by omega) (fun hc79 => ?_) (fun hc79 => ?_)
        · refine aw_iload_n dX7_tell_87 rfl ?_
          refine aw_iretQ dX7_tell_88 rfl ?_
          rw [S_tell, if_neg h0]
          rcases ht with ⟨t1, t2, t3⟩ | ⟨t1, t2, t3, t4⟩
          · rw [if_pos t1]; exact ⟨hc79, hC⟩
          · omega
        · refine aw_aload_n dX7_tell_82 rfl ?_
          refine aw_iload_n dX7_tell_83 rfl ?_
          refine aw_putI (kx := 13) fp_X7_238 dX7_tell_84 rfl rfl rfl ?_
          refine aw_iload_n dX7_tell_87 rfl ?_
          refine aw_iretQ dX7_tell_88 rfl ?_
          rw [S_tell, if_neg h0]
          rcases ht with ⟨t1, t2, t3⟩ | ⟨t1, t2, t3, t4⟩
          · omega
          · rw [if_neg (by omega), ← t3]; exact qc_mk t2 (hC.asked hV.s)
      · omega
theorem c_X7_tell {h g : am_H} (hC : CRel h g) (hV : MOK g) : AMet GC mX7_tell 3 [am_R 0] h (QC (S_tell g)) := by
  have hn := hC.nn.1
  have hnn := hV.s.1
  have hd4 : dgF g (nowF g) ≤ 4 := hV.s.2.2.2.2.2.2.1 _
  have hd0 : 0 ≤ dgF g (nowF g) := (cntF_rng _ _ _).1
  refine am_start [some (am_R 0), none, none, none, none, none] rfl rfl (by decide) (Nat.le_of_ble_eq_true rfl) ?_
  refine aw_aload_n dX7_tell_0 rfl ?_
  refine aw_cV0IF (c_X7_isUnspoken (by omega)) lk_X7_230 dX7_tell_1 (by decide) rfl rfl (fun _ => Nat.le_of_ble_eq_true rfl) ?_
  refine aw_ifb_eq (tgt := 10) dX7_tell_4 rfl (fun hc4 => ?_) (fun hc4 => ?_)
  · refine aw_aload_n dX7_tell_10 rfl ?_
    refine aw_cV0IF (c_X7_nodeNow hV.s hV.y hC.s.1 hC.y) lk_X7_197 dX7_tell_11 (by decide) rfl rfl (fun _ => Nat.le_of_ble_eq_true rfl) ?_
    refine aw_istore_1 dX7_tell_14 (by decide) rfl ?_
    refine aw_bipush (by decide) dX7_tell_15 ?_
    refine aw_istore_2 dX7_tell_17 (by decide) rfl ?_
    refine aw_bipush (by decide) dX7_tell_18 ?_
    refine aw_istore_3 dX7_tell_20 (by decide) rfl ?_
    refine aw_iconst dX7_tell_21 ?_
    refine aw_istore4 dX7_tell_22 (by decide) rfl ?_
    exact lp_X7_tell hC hV (by omega) 6 0 _ _ _ (by omega) (by omega) (by omega) (Or.inl ⟨by show (-9 : Int) < 0; decide, rfl, rfl⟩)
  · refine aw_bipush (by decide) dX7_tell_7 ?_
    refine aw_iretQ dX7_tell_9 rfl ?_
    rw [S_tell, if_pos (by omega)]; exact ⟨rfl, hC⟩
