theorem c_X5_addDeed_27 {h0 h : am_H} {t sz y c a w : Int} {f : Int → Int} {q : am_H} (hR : RC27 h0 h t f sz q) (hV : PV sz q) (h4 : q 0 3 < 4) : AMet GC mX5_addDeed 1 [am_R 27, am_I y, am_I c, am_I a, am_I w] h (am_QV (fun h' => RC27 h0 h' t f sz (pDeedA y c a w q))) := by
  have hV3 := hV.2.2.2.1
  obtain ⟨a1, a2, a3, a4, ⟨b0, b1, b2⟩, bn, bl, bw, bd⟩ := hR
  refine am_start [some (am_R 27), some (am_I y), some (am_I c), some (am_I a), some (am_I w)] rfl rfl (by decide) (Nat.le_of_ble_eq_true rfl) ?_
  refine aw_aload_n dX5_addDeed_0 rfl ?_
  refine aw_getI (kx := 2) fl_X5_52 dX5_addDeed_1 rfl rfl rfl ?_
  refine aw_iconst dX5_addDeed_4 ?_
  refine aw_icmp_ge (tgt := 59) dX5_addDeed_5 rfl (by omega) (by omega) (fun hc5 => ?_) (fun hc5 => ?_)
  · omega
  · refine aw_aload_n dX5_addDeed_8 rfl ?_
    refine aw_getR (kx := 10) fl_X5_33 dX5_addDeed_9 rfl rfl rfl ?_
    refine aw_aload_n dX5_addDeed_12 rfl ?_
    refine aw_getI (kx := 2) fl_X5_52 dX5_addDeed_13 rfl rfl rfl ?_
    refine aw_iload_n dX5_addDeed_16 rfl ?_
    refine aw_iastore dX5_addDeed_17 rfl (by decide) (by omega) ?_
    refine aw_aload_n dX5_addDeed_18 rfl ?_
    refine aw_getR (kx := 11) fl_X5_36 dX5_addDeed_19 rfl rfl rfl ?_
    refine aw_aload_n dX5_addDeed_22 rfl ?_
    refine aw_getI (kx := 2) fl_X5_52 dX5_addDeed_23 rfl rfl rfl ?_
    rw [am_set_c (c := 35) (x := 27) (by decide)]
    refine aw_iload_n dX5_addDeed_26 rfl ?_
    refine aw_iastore dX5_addDeed_27 rfl (by decide) (by omega) ?_
    refine aw_aload_n dX5_addDeed_28 rfl ?_
    refine aw_getR (kx := 12) fl_X5_39 dX5_addDeed_29 rfl rfl rfl ?_
    refine aw_aload_n dX5_addDeed_32 rfl ?_
    refine aw_getI (kx := 2) fl_X5_52 dX5_addDeed_33 rfl rfl rfl ?_
    rw [am_set_c (c := 36) (x := 27) (by decide), am_set_c (c := 35) (x := 27) (by decide)]
    refine aw_iload_n dX5_addDeed_36 rfl ?_
    refine aw_iastore dX5_addDeed_37 rfl (by decide) (by omega) ?_
    refine aw_aload_n dX5_addDeed_38 rfl ?_
    refine aw_getR (kx := 13) fl_X5_42 dX5_addDeed_39 rfl rfl rfl ?_
    refine aw_aload_n dX5_addDeed_42 rfl ?_
    refine aw_getI (kx := 2) fl_X5_52 dX5_addDeed_43 rfl rfl rfl ?_
    rw [am_set_c (c := 37) (x := 27) (by decide), am_set_c (c := 36) (x := 27) (by decide), am_set_c (c := 35) (x := 27) (by decide)]
    refine aw_iload dX5_addDeed_46 rfl ?_
    refine aw_iastore dX5_addDeed_48 rfl (by decide) (by omega) ?_
    refine aw_aload_n dX5_addDeed_49 rfl ?_
    first | refine aw_dupR dX5_addDeed_50 ?_ | refine aw_dupI dX5_addDeed_50 ?_
    refine aw_getI (kx := 2) fl_X5_52 dX5_addDeed_51 rfl rfl rfl ?_
    rw [am_set_c (c := 38) (x := 27) (by decide), am_set_c (c := 37) (x := 27) (by decide), am_set_c (c := 36) (x := 27) (by decide), am_set_c (c := 35) (x := 27) (by decide)]
    refine aw_iconst dX5_addDeed_54 ?_
    refine aw_iadd dX5_addDeed_55 ?_
    refine aw_putI (kx := 2) fp_X5_52 dX5_addDeed_56 rfl rfl rfl ?_
    refine aw_vretQ dX5_addDeed_59 rfl ?_
    have e0 : pDeedA y c a w q 0 0 = q 0 0 := by simp [pDeedA, am_set_if]
    have e1 : pDeedA y c a w q 0 1 = q 0 1 := by simp [pDeedA, am_set_if]
    have e2 : pDeedA y c a w q 0 2 = q 0 2 := by simp [pDeedA, am_set_if]
    have e3 : pDeedA y c a w q 0 3 = q 0 3 + 1 := by simp [pDeedA, am_set_if]
    have k1 : pDeedA y c a w q 1 = q 1 := by funext x; simp [pDeedA, am_set_if]
    have k2 : pDeedA y c a w q 2 = q 2 := by funext x; simp [pDeedA, am_set_if]
    have k3 : pDeedA y c a w q 3 = q 3 := by funext x; simp [pDeedA, am_set_if]
    have k4 : pDeedA y c a w q 4 = q 4 := by funext x; simp [pDeedA, am_set_if]
    have k5 : pDeedA y c a w q 5 = q 5 := by funext x; simp [pDeedA, am_set_if]
    have k6 : ∀ x, pDeedA y c a w q 6 x = if x = q 0 3 then y else q 6 x := by intro x; simp [pDeedA, am_set_if]
    have k7 : ∀ x, pDeedA y c a w q 7 x = if x = q 0 3 then c else q 7 x := by intro x; simp [pDeedA, am_set_if]
    have k8 : ∀ x, pDeedA y c a w q 8 x = if x = q 0 3 then a else q 8 x := by intro x; simp [pDeedA, am_set_if]
    have k9 : ∀ x, pDeedA y c a w q 9 x = if x = q 0 3 then w else q 9 x := by intro x; simp [pDeedA, am_set_if]
    refine ⟨fun c x y => ?_, a2, ?_, fun j x y => ?_, ⟨?_, ?_, ?_⟩, fun x c1 c2 => ?_, fun x j w c1 c2 c3 => ?_, fun j c1 c2 => ?_, fun j c1 c2 => ?_⟩
    · rw [am_set_c (by omega), am_set_c (by omega), am_set_c (by omega), am_set_c (by omega), am_set_c (by omega)]; exact a1 c x y
    · rw [am_set_c (by decide), am_set_c (by decide), am_set_c (by decide), am_set_c (by decide), am_set_c (by decide), e0]; exact a3
    · rw [am_set_c (by omega), am_set_c (by omega), am_set_c (by omega), am_set_c (by omega), am_set_c (by omega)]; exact a4 j x y
    · rw [am_set_i (by decide), am_set_c (by decide), am_set_c (by decide), am_set_c (by decide), am_set_c (by decide), e1]; exact b0
    · rw [am_set_i (by decide), am_set_c (by decide), am_set_c (by decide), am_set_c (by decide), am_set_c (by decide), e2]; exact b1
    · rw [am_set_s, e3, b2]
    · rw [k1, k2, k3, e2]
      rw [e1] at c2
      have := bn x c1 c2
      exact ⟨by rw [am_set_c (by decide), am_set_c (by decide), am_set_c (by decide), am_set_c (by decide), am_set_c (by decide)]; exact this.1, by rw [am_set_c (by decide), am_set_c (by decide), am_set_c (by decide), am_set_c (by decide), am_set_c (by decide)]; exact this.2.1, by rw [am_set_c (by decide), am_set_c (by decide), am_set_c (by decide), am_set_c (by decide), am_set_c (by decide)]; exact this.2.2⟩
    · rw [e1] at c2
      rw [k3, e2] at c3
      rw [am_set_c (by decide), am_set_c (by decide), am_set_c (by decide), am_set_c (by decide), am_set_c (by decide)]; exact bl x j w c1 c2 c3
    · rw [k3, k4, k5]
      rw [e2] at c2
      have := bw j c1 c2
      exact ⟨by rw [am_set_c (by decide), am_set_c (by decide), am_set_c (by decide), am_set_c (by decide), am_set_c (by decide)]; exact this.1, by rw [am_set_c (by decide), am_set_c (by decide), am_set_c (by decide), am_set_c (by decide), am_set_c (by decide)]; exact this.2.1, by rw [am_set_c (by decide), am_set_c (by decide), am_set_c (by decide), am_set_c (by decide), am_set_c (by decide)]; exact this.2.2⟩
    · rw [k6, k7, k8, k9, b2]
      rw [e3] at c2
      by_cases e : j = q 0 3
      · rw [e, if_pos rfl, if_pos rfl, if_pos rfl, if_pos rfl]
        exact ⟨by rw [am_set_c (by decide), am_set_c (by decide), am_set_c (by decide), am_set_c (by decide), am_set_s], by rw [am_set_c (by decide), am_set_c (by decide), am_set_c (by decide), am_set_s], by rw [am_set_c (by decide), am_set_c (by decide), am_set_s], by rw [am_set_c (by decide), am_set_s]⟩
      · rw [if_neg e, if_neg e, if_neg e, if_neg e]
        have := bd j c1 (by omega)
        exact ⟨by rw [am_set_c (by decide), am_set_c (by decide), am_set_c (by decide), am_set_c (by decide), am_set_i e]; exact this.1, by rw [am_set_c (by decide), am_set_c (by decide), am_set_c (by decide), am_set_i e, am_set_c (by decide)]; exact this.2.1, by rw [am_set_c (by decide), am_set_c (by decide), am_set_i e, am_set_c (by decide), am_set_c (by decide)]; exact this.2.2.1, by rw [am_set_c (by decide), am_set_i e, am_set_c (by decide), am_set_c (by decide), am_set_c (by decide)]; exact this.2.2.2⟩
theorem c_X5_clear_27 {h : am_H} : AMet GC mX5_clear 1 [am_R 27] h (am_FV (am_set (am_set (am_set h 27 0 0) 27 1 0) 27 2 0)) := by
  refine am_start [some (am_R 27)] rfl rfl (by decide) (Nat.le_of_ble_eq_true rfl) ?_
  refine aw_aload_n dX5_clear_0 rfl ?_
  refine aw_iconst dX5_clear_1 ?_
  refine aw_putI (kx := 0) fp_X5_45 dX5_clear_2 rfl rfl rfl ?_
  refine aw_aload_n dX5_clear_5 rfl ?_
  refine aw_iconst dX5_clear_6 ?_
  refine aw_putI (kx := 1) fp_X5_49 dX5_clear_7 rfl rfl rfl ?_
  refine aw_aload_n dX5_clear_10 rfl ?_
  refine aw_iconst dX5_clear_11 ?_
  refine aw_putI (kx := 2) fp_X5_52 dX5_clear_12 rfl rfl rfl ?_
  refine aw_vretF dX5_clear_15 rfl ?_
  rfl
theorem c_X5_isEnd_27 {h : am_H} {x : Int} (hx : 0 ≤ x ∧ x < 9) (hk : 0 ≤ h 28 x ∧ h 28 x ≤ 5) : AMet GC mX5_isEnd 1 [am_R 27, am_I x] h (am_FI (if fin (h 28 x) then 1 else 0) h) := by
  refine am_start [some (am_R 27), some (am_I x)] rfl rfl (by decide) (Nat.le_of_ble_eq_true rfl) ?_
  refine aw_aload_n dX5_isEnd_0 rfl ?_
  refine aw_getR (kx := 3) fl_X5_9 dX5_isEnd_1 rfl rfl rfl ?_
  refine aw_iload_n dX5_isEnd_4 rfl ?_
  refine aw_iaload dX5_isEnd_5 rfl (by decide) (by omega) ?_
  refine aw_iconst dX5_isEnd_6 ?_
  refine aw_icmp_eq (tgt := 20) dX5_isEnd_7 rfl (by omega) (by omega) (fun hc7 => ?_) (fun hc7 => ?_)
  · refine aw_iconst dX5_isEnd_20 ?_
    refine aw_goto (tgt := 25) dX5_isEnd_21 rfl ?_
    refine aw_zretF dX5_isEnd_25 rfl (by omega) ?_
    exact ⟨by split <;> omega, rfl⟩
  · refine aw_aload_n dX5_isEnd_10 rfl ?_
    refine aw_getR (kx := 3) fl_X5_9 dX5_isEnd_11 rfl rfl rfl ?_
    refine aw_iload_n dX5_isEnd_14 rfl ?_
    refine aw_iaload dX5_isEnd_15 rfl (by decide) (by omega) ?_
    refine aw_iconst dX5_isEnd_16 ?_
    refine aw_icmp_ne (tgt := 24) dX5_isEnd_17 rfl (by omega) (by omega) (fun hc17 => ?_) (fun hc17 => ?_)
    · refine aw_iconst dX5_isEnd_24 ?_
      refine aw_zretF dX5_isEnd_25 rfl (by omega) ?_
      exact ⟨by split <;> omega, rfl⟩
    · refine aw_iconst dX5_isEnd_20 ?_
      refine aw_goto (tgt := 25) dX5_isEnd_21 rfl ?_
      refine aw_zretF dX5_isEnd_25 rfl (by omega) ?_
      exact ⟨by split <;> omega, rfl⟩
theorem c_X5_wordAt_27 {h : am_H} {x j : Int} (hx : 0 ≤ x * 4 + j ∧ x * 4 + j < 36) : AMet GC mX5_wordAt 1 [am_R 27, am_I x, am_I j] h (am_FI (h 31 (x * 4 + j)) h) := by
  refine am_start [some (am_R 27), some (am_I x), some (am_I j)] rfl rfl (by decide) (Nat.le_of_ble_eq_true rfl) ?_
  refine aw_aload_n dX5_wordAt_0 rfl ?_
  refine aw_getR (kx := 6) fl_X5_21 dX5_wordAt_1 rfl rfl rfl ?_
  refine aw_iload_n dX5_wordAt_4 rfl ?_
  refine aw_iconst dX5_wordAt_5 ?_
  refine aw_imul dX5_wordAt_6 ?_
  refine aw_iload_n dX5_wordAt_7 rfl ?_
  refine aw_iadd dX5_wordAt_8 ?_
  refine aw_iaload dX5_wordAt_9 rfl (by decide) (by omega) ?_
  refine aw_iretF dX5_wordAt_10 rfl ?_
  exact ⟨rfl, rfl⟩
theorem lp_X5_hasSound_27 {h q : am_H} {sz x s : Int} (hQ : SQ27 h q) (hV : PV sz q) (hx : 0 ≤ x ∧ x < q 0 1) (hs : 0 ≤ s ∧ s ≤ 9) : ∀ (m j : Nat), (j : Int) ≤ cntF (q 3) x (q 0 2).toNat → cntF (q 3) x (q 0 2).toNat - j < m → (∀ i : Nat, i < j → ∀ w : Int, (wl (q 3) x (q 0 2).toNat)[i]? = some w → ¬ q 5 w = s) → AW GC mX5_hasSound 2 (am_FI (@ite _ (pHas q x s) (Classical.propDecidable _) 1 0) h) 2 [some (am_R 27), some (am_I x), some (am_I s), some (am_I j)] [] h := by
  have hV1 := hV.2.1
  have hV2 := hV.2.2.1
  have hc4 := hV.2.2.2.2.2.2.2.1 x
  obtain ⟨⟨b0, b1, b2⟩, bn, bl, bw, bd⟩ := hQ
  have hdg := (bn x hx.1 hx.2).2.2
  have hl := wl_len (q 3) x (q 0 2).toNat
  intro m
  induction m with
  | zero => intro j h1 h2; omega
  | succ m ih =>
    intro j h1 h2 hno
    by_cases hj : (j : Int) < cntF (q 3) x (q 0 2).toNat
    · have hlt : j < (wl (q 3) x (q 0 2).toNat).length := by omega
      have hg := List.getElem?_eq_getElem hlt
      generalize (wl (q 3) x (q 0 2).toNat)[j] = w at hg
      have e1 := bl x j w hx.1 hx.2 hg
      obtain ⟨m1, m2, m3⟩ := wl_mem.mp (List.mem_of_getElem? hg)
      have e2 := (bw w m1 (by omega)).2.2
      have hsw := (hV.2.2.2.2.2.1 w m1 (by omega)).2.1
      refine aw_iload_n dX5_hasSound_2 rfl ?_
      refine aw_aload_n dX5_hasSound_3 rfl ?_
      refine aw_getR (kx := 5) fl_X5_18 dX5_hasSound_4 rfl rfl rfl ?_
      refine aw_iload_n dX5_hasSound_7 rfl ?_
      refine aw_iaload dX5_hasSound_8 rfl (by decide) (by omega) ?_
      refine aw_icmp_ge (tgt := 35) dX5_hasSound_9 rfl (by omega) (by omega) (fun hc9 => ?_) (fun hc9 => ?_)
      · omega
      · refine aw_aload_n dX5_hasSound_12 rfl ?_
        refine aw_getR (kx := 9) fl_X5_30 dX5_hasSound_13 rfl rfl rfl ?_
        refine aw_aload_n dX5_hasSound_16 rfl ?_
        refine aw_iload_n dX5_hasSound_17 rfl ?_
        refine aw_iload_n dX5_hasSound_18 rfl ?_
        refine aw_cV2IF (c_X5_wordAt_27 (by omega)) lk_X5_55 dX5_hasSound_19 (by decide) rfl rfl (fun _ => Nat.le_of_ble_eq_true rfl) ?_
        refine aw_top e1 ?_
        refine aw_iaload dX5_hasSound_22 rfl (by decide) (by omega) ?_
        refine aw_top e2 ?_
        refine aw_iload_n dX5_hasSound_23 rfl ?_
        refine aw_icmp_ne (tgt := 29) dX5_hasSound_24 rfl (by omega) (by omega) (fun hc24 => ?_) (fun hc24 => ?_)
        · refine aw_iinc3 dX5_hasSound_29 (by decide) rfl ?_
          refine aw_goto (tgt := 2) dX5_hasSound_32 rfl ?_
          refine ih (j + 1) (by omega) (by omega) (fun i hi v hv => ?_)
          by_cases e : i = j
          · rw [e, hg] at hv
            rw [← Option.some.inj hv]; omega
          · exact hno i (by omega) v hv
        · refine aw_iconst dX5_hasSound_27 ?_
          refine aw_zretF dX5_hasSound_28 rfl (by omega) ?_
          exact ⟨by rw [if_pos ⟨w, m1, by omega, m3, by omega⟩], rfl⟩
    · refine aw_iload_n dX5_hasSound_2 rfl ?_
      refine aw_aload_n dX5_hasSound_3 rfl ?_
      refine aw_getR (kx := 5) fl_X5_18 dX5_hasSound_4 rfl rfl rfl ?_
      refine aw_iload_n dX5_hasSound_7 rfl ?_
      refine aw_iaload dX5_hasSound_8 rfl (by decide) (by omega) ?_
      refine aw_icmp_ge (tgt := 35) dX5_hasSound_9 rfl (by omega) (by omega) (fun hc9 => ?_) (fun hc9 => ?_)
      · refine aw_iconst dX5_hasSound_35 ?_
        refine aw_zretF dX5_hasSound_36 rfl (by omega) ?_
        refine ⟨?_, rfl⟩
        rw [if_neg]
        rintro ⟨k, k1, k2, k3, k4⟩
        have hm : k ∈ wl (q 3) x (q 0 2).toNat := wl_mem.mpr ⟨k1, by omega, k3⟩
        obtain ⟨i, hi⟩ := List.getElem?_of_mem hm
        have hi2 := (List.getElem?_eq_some_iff.mp hi).1
        exact hno i (by omega) k hi k4
      · omega
theorem c_X5_hasSound_27 {h q : am_H} {sz x s : Int} (hQ : SQ27 h q) (hV : PV sz q) (hx : 0 ≤ x ∧ x < q 0 1) (hs : 0 ≤ s ∧ s ≤ 9) : AMet GC mX5_hasSound 2 [am_R 27, am_I x, am_I s] h (am_FI (@ite _ (pHas q x s) (Classical.propDecidable _) 1 0) h) := by
  have hc0 := (cntF_rng (q 3) x (q 0 2).toNat).1
  refine am_start [some (am_R 27), some (am_I x), some (am_I s), none] rfl rfl (by decide) (Nat.le_of_ble_eq_true rfl) ?_
  refine aw_iconst dX5_hasSound_0 ?_
  refine aw_istore_3 dX5_hasSound_1 (by decide) rfl ?_
  exact lp_X5_hasSound_27 hQ hV hx hs ((cntF (q 3) x (q 0 2).toNat).toNat + 1) 0 (by omega) (by omega) (fun i hi => by omega)
abbrev QR27 (h0 : am_H) (t : Int) (f : Int → Int) (sz : Int) (r : Bool × am_H) : Option am_V → am_H → Prop := am_QI (fun v h' => v = (if r.1 = true then 1 else 0) ∧ RC27 h0 h' t f sz r.2)
theorem qr_no27 {h0 h : am_H} {t : Int} {f : Int → Int} {sz : Int} {r : Bool × am_H} {q' : am_H} (e : r = (false, q')) (hR : RC27 h0 h t f sz q') : (0 : Int) = (if r.1 = true then 1 else 0) ∧ RC27 h0 h t f sz r.2 := by
  rw [e]; exact ⟨rfl, hR⟩
theorem qr_yes27 {h0 h : am_H} {t : Int} {f : Int → Int} {sz : Int} {r : Bool × am_H} {q' : am_H} (e : r = (true, q')) (hR : RC27 h0 h t f sz q') : (1 : Int) = (if r.1 = true then 1 else 0) ∧ RC27 h0 h t f sz r.2 := by
  rw [e]; exact ⟨rfl, hR⟩
theorem c_X4_readNode_27 {h0 h : am_H} {t sz k : Int} {f : Int → Int} {q : am_H} (hR : RC27 h0 h t f sz q) (hV : PV sz q) (hp : q 0 0 < sz) (hk : -1 ≤ k ∧ k ≤ 5) : AMet GC mX4_readNode 2 [am_R 39, am_I k] h (QR27 h0 t f sz (if 0 ≤ k then (if q 0 2 = 0 ∧ q 0 3 = 0 then pNode f sz k q else (false, q)) else (false, q))) := by
  have hV1 := hV.2.1
  have hV2 := hV.2.2.1
  have hV3 := hV.2.2.2.1
  have e2 := hR.2.2.1.2.2.1
  have e3 := hR.2.2.1.2.2.2
  obtain ⟨b0, b1, b2⟩ := hR.2.2.2.2.1
  have hU : RC27 h0 (am_set h 39 2 (h 39 2 + 1)) t f sz (pUp q) := hR.pl (pPl.up q) (by rw [pUp_0, e2])
  have hVU : PV sz (pUp q) := hV.up hp
  have hpl := (pFig_pl f sz 0 5 (pUp q)).tr (pPl.up q)
  refine am_start [some (am_R 39), some (am_I k), none] rfl rfl (by decide) (Nat.le_of_ble_eq_true rfl) ?_
  refine aw_iload_n dX4_readNode_0 rfl ?_
  refine aw_iconst dX4_readNode_1 ?_
  refine aw_icmp_eq (tgt := 37) dX4_readNode_2 rfl (by omega) (by omega) (fun hc2 => ?_) (fun hc2 => ?_)
  · refine aw_iconst dX4_readNode_37 ?_
    refine aw_zretQ dX4_readNode_38 rfl (by omega) ?_
    exact qr_no27 (if_neg (by omega)) hR
  · refine aw_aload_n dX4_readNode_5 rfl ?_
    refine aw_getD (kx := 3) fl_X4_15 dX4_readNode_6 rfl rfl rfl ?_
    refine aw_topR e3 ?_
    refine aw_getI (kx := 0) fl_X4_44 dX4_readNode_9 rfl rfl rfl ?_
    refine aw_bipush (by decide) dX4_readNode_12 ?_
    refine aw_icmp_eq (tgt := 37) dX4_readNode_14 rfl (by omega) (by omega) (fun hc14 => ?_) (fun hc14 => ?_)
    · refine aw_iconst dX4_readNode_37 ?_
      refine aw_zretQ dX4_readNode_38 rfl (by omega) ?_
      refine qr_no27 ?_ hR
      rw [if_pos (by omega)]
      by_cases z : q 0 2 = 0 ∧ q 0 3 = 0
      · rw [if_pos z, pNode, if_pos (by omega)]
      · rw [if_neg z]
    · refine aw_aload_n dX4_readNode_17 rfl ?_
      refine aw_getD (kx := 3) fl_X4_15 dX4_readNode_18 rfl rfl rfl ?_
      refine aw_topR e3 ?_
      refine aw_getI (kx := 1) fl_X4_61 dX4_readNode_21 rfl rfl rfl ?_
      refine aw_if_gt (tgt := 37) dX4_readNode_24 rfl (by omega) (fun hc24 => ?_) (fun hc24 => ?_)
      · refine aw_iconst dX4_readNode_37 ?_
        refine aw_zretQ dX4_readNode_38 rfl (by omega) ?_
        exact qr_no27 (by rw [if_pos (by omega), if_neg (by omega)]) hR
      · refine aw_aload_n dX4_readNode_27 rfl ?_
        refine aw_getD (kx := 3) fl_X4_15 dX4_readNode_28 rfl rfl rfl ?_
        refine aw_topR e3 ?_
        refine aw_getI (kx := 2) fl_X4_64 dX4_readNode_31 rfl rfl rfl ?_
        refine aw_if_le (tgt := 39) dX4_readNode_34 rfl (by omega) (fun hc34 => ?_) (fun hc34 => ?_)
        · rw [if_pos (by omega), if_pos (by omega), pNode, if_neg (by omega)]
          refine aw_aload_n dX4_readNode_39 rfl ?_
          first | refine aw_dupR dX4_readNode_40 ?_ | refine aw_dupI dX4_readNode_40 ?_
          refine aw_getI (kx := 2) fl_X4_29 dX4_readNode_41 rfl rfl rfl ?_
          refine aw_iconst dX4_readNode_44 ?_
          refine aw_iadd dX4_readNode_45 ?_
          refine aw_putI (kx := 2) fp_X4_29 dX4_readNode_46 rfl rfl rfl ?_
          refine aw_iconst dX4_readNode_49 ?_
          refine aw_istore_2 dX4_readNode_50 (by decide) rfl ?_
          refine aw_iload_n dX4_readNode_51 rfl ?_
          refine aw_iconst dX4_readNode_52 ?_
          refine aw_icmp_eq (tgt := 61) dX4_readNode_53 rfl (by omega) (by omega) (fun hc53 => ?_) (fun hc53 => ?_)
          · refine aw_aload_n dX4_readNode_61 rfl ?_
            refine aw_iconst dX4_readNode_62 ?_
            refine aw_iconst dX4_readNode_63 ?_
            refine aw_cV2I (c_X4_figure_27 hU hVU (by omega) (by omega)) lk_X4_67 dX4_readNode_64 (by decide) rfl rfl (fun _ => Nat.le_of_ble_eq_true rfl) (fun v64 h64 q64 => ?_)
            have r64 := pFig_rng (f := f) (sz := sz) (lo := 0) (hi := 5) (q := pUp q) (by omega) (by omega)
            have m64 : pNodeM f sz k q = pFig f sz 0 5 (pUp q) := by rw [pNodeM, if_pos (by omega)]
            rw [m64]
            refine aw_istore_2 dX4_readNode_67 (by decide) rfl ?_
            refine aw_iload_n dX4_readNode_68 rfl ?_
            refine aw_if_ge (tgt := 74) dX4_readNode_69 rfl (by omega) (fun hc69 => ?_) (fun hc69 => ?_)
            · refine aw_aload_n dX4_readNode_74 rfl ?_
              refine aw_getD (kx := 3) fl_X4_15 dX4_readNode_75 rfl rfl rfl ?_
              refine aw_topR q64.2.2.2.1.2.2.2 ?_
              refine aw_iload_n dX4_readNode_78 rfl ?_
              refine aw_iload_n dX4_readNode_79 rfl ?_
              have v64' := pFig_v (f := f) (sz := sz) (lo := 0) (hi := 5) (q := pUp q) (by omega)
              rw [if_neg (by omega)]
              refine aw_top (show v64 = (if fin k then (pFig f sz 0 5 (pUp q)).1 else -1) by rw [if_pos (by omega)]; exact q64.1) ?_
              refine aw_cV2V (c_X5_addNode_27 q64.2 hVU.fig (by rw [hpl.1 1 (by decide)]; omega) (by rw [hpl.1 2 (by decide)]; omega) (by rw [hpl.1 3 (by decide)]; omega) (by omega) (by omega)) lk_X4_70 dX4_readNode_80 (by decide) rfl rfl (fun _ => Nat.le_of_ble_eq_true rfl) (fun h80 q80 => ?_)
              refine aw_iconst dX4_readNode_83 ?_
              refine aw_zretQ dX4_readNode_84 rfl (by omega) ?_
              exact qr_yes27 rfl q80
            · refine aw_iconst dX4_readNode_72 ?_
              refine aw_zretQ dX4_readNode_73 rfl (by omega) ?_
              exact qr_no27 (by rw [if_pos (by omega)]) q64.2
          · refine aw_iload_n dX4_readNode_56 rfl ?_
            refine aw_iconst dX4_readNode_57 ?_
            refine aw_icmp_ne (tgt := 74) dX4_readNode_58 rfl (by omega) (by omega) (fun hc58 => ?_) (fun hc58 => ?_)
            · refine aw_aload_n dX4_readNode_74 rfl ?_
              refine aw_getD (kx := 3) fl_X4_15 dX4_readNode_75 rfl rfl rfl ?_
              refine aw_topR hU.2.2.1.2.2.2 ?_
              have m0 : pNodeM f sz k q = (0, pUp q) := by rw [pNodeM, if_neg (by omega)]
              rw [m0, if_neg (by show ¬ (0 : Int) < 0; decide)]
              refine aw_iload_n dX4_readNode_78 rfl ?_
              refine aw_iload_n dX4_readNode_79 rfl ?_
              refine aw_top (show (-1 : Int) = (if fin k then 0 else -1) by rw [if_neg (by omega)]) ?_
              refine aw_cV2V (c_X5_addNode_27 hU hVU (by rw [pUp_j q (by decide)]; omega) (by rw [pUp_j q (by decide)]; omega) (by rw [pUp_j q (by decide)]; omega) (by omega) (by omega)) lk_X4_70 dX4_readNode_80 (by decide) rfl rfl (fun _ => Nat.le_of_ble_eq_true rfl) (fun h80 q80 => ?_)
              refine aw_iconst dX4_readNode_83 ?_
              refine aw_zretQ dX4_readNode_84 rfl (by omega) ?_
              exact qr_yes27 rfl q80
            · refine aw_aload_n dX4_readNode_61 rfl ?_
              refine aw_iconst dX4_readNode_62 ?_
              refine aw_iconst dX4_readNode_63 ?_
              refine aw_cV2I (c_X4_figure_27 hU hVU (by omega) (by omega)) lk_X4_67 dX4_readNode_64 (by decide) rfl rfl (fun _ => Nat.le_of_ble_eq_true rfl) (fun v64 h64 q64 => ?_)
              have r64 := pFig_rng (f := f) (sz := sz) (lo := 0) (hi := 5) (q := pUp q) (by omega) (by omega)
              have m64 : pNodeM f sz k q = pFig f sz 0 5 (pUp q) := by rw [pNodeM, if_pos (by omega)]
              rw [m64]
              refine aw_istore_2 dX4_readNode_67 (by decide) rfl ?_
              refine aw_iload_n dX4_readNode_68 rfl ?_
              refine aw_if_ge (tgt := 74) dX4_readNode_69 rfl (by omega) (fun hc69 => ?_) (fun hc69 => ?_)
              · refine aw_aload_n dX4_readNode_74 rfl ?_
                refine aw_getD (kx := 3) fl_X4_15 dX4_readNode_75 rfl rfl rfl ?_
                refine aw_topR q64.2.2.2.1.2.2.2 ?_
                refine aw_iload_n dX4_readNode_78 rfl ?_
                refine aw_iload_n dX4_readNode_79 rfl ?_
                have v64' := pFig_v (f := f) (sz := sz) (lo := 0) (hi := 5) (q := pUp q) (by omega)
                rw [if_neg (by omega)]
                refine aw_top (show v64 = (if fin k then (pFig f sz 0 5 (pUp q)).1 else -1) by rw [if_pos (by omega)]; exact q64.1) ?_
                refine aw_cV2V (c_X5_addNode_27 q64.2 hVU.fig (by rw [hpl.1 1 (by decide)]; omega) (by rw [hpl.1 2 (by decide)]; omega) (by rw [hpl.1 3 (by decide)]; omega) (by omega) (by omega)) lk_X4_70 dX4_readNode_80 (by decide) rfl rfl (fun _ => Nat.le_of_ble_eq_true rfl) (fun h80 q80 => ?_)
                refine aw_iconst dX4_readNode_83 ?_
                refine aw_zretQ dX4_readNode_84 rfl (by omega) ?_
                exact qr_yes27 rfl q80
              · refine aw_iconst dX4_readNode_72 ?_
                refine aw_zretQ dX4_readNode_73 rfl (by omega) ?_
                exact qr_no27 (by rw [if_pos (by omega)]) q64.2
        · refine aw_iconst dX4_readNode_37 ?_
          refine aw_zretQ dX4_readNode_38 rfl (by omega) ?_
          exact qr_no27 (by rw [if_pos (by omega), if_neg (by omega)]) hR
theorem c_X4_readDeed_27 {h0 h : am_H} {t sz : Int} {f : Int → Int} {q : am_H} (hR : RC27 h0 h t f sz q) (hV : PV sz q) (hp : q 0 0 < sz) : AMet GC mX4_readDeed 3 [am_R 39] h (QR27 h0 t f sz (if 1 < q 0 1 then pDeed f sz q else (false, q))) := by
  have hV1 := hV.2.1
  have hV3 := hV.2.2.2.1
  have e2 := hR.2.2.1.2.2.1
  have e3 := hR.2.2.1.2.2.2
  obtain ⟨b0, b1, b2⟩ := hR.2.2.2.2.1
  have hU : RC27 h0 (am_set h 39 2 (h 39 2 + 1)) t f sz (pUp q) := hR.pl (pPl.up q) (by rw [pUp_0, e2])
  have hVU : PV sz (pUp q) := hV.up hp
  obtain ⟨y, hy⟩ : ∃ y, y = pFig f sz 1 5 (pUp q) := ⟨_, rfl⟩
  obtain ⟨c, hc⟩ : ∃ c, c = pFig f sz 0 9 y.2 := ⟨_, rfl⟩
  obtain ⟨a, ha⟩ : ∃ a, a = pFig f sz 0 5 c.2 := ⟨_, rfl⟩
  obtain ⟨w, hw⟩ : ∃ w, w = pFig f sz 0 9 a.2 := ⟨_, rfl⟩
  have rY := pFig_rng (f := f) (sz := sz) (lo := 1) (hi := 5) (q := pUp q) (by omega) (by omega)
  have rC := pFig_rng (f := f) (sz := sz) (lo := 0) (hi := 9) (q := y.2) (by omega) (by omega)
  have rA := pFig_rng (f := f) (sz := sz) (lo := 0) (hi := 5) (q := c.2) (by omega) (by omega)
  have rW := pFig_rng (f := f) (sz := sz) (lo := 0) (hi := 9) (q := a.2) (by omega) (by omega)
  have vY : PV sz y.2 := by rw [hy]; exact hVU.fig
  have vC : PV sz c.2 := by rw [hc]; exact vY.fig
  have vA : PV sz a.2 := by rw [ha]; exact vC.fig
  have vW : PV sz w.2 := by rw [hw]; exact vA.fig
  have pl : pPl w.2 q := by rw [hw]; refine (pFig_pl _ _ _ _ _).tr ?_; rw [ha]; refine (pFig_pl _ _ _ _ _).tr ?_; rw [hc]; refine (pFig_pl _ _ _ _ _).tr ?_; rw [hy]; exact (pFig_pl _ _ _ _ _).tr (pPl.up q)
  rw [← hy] at rY; rw [← hc] at rC; rw [← ha] at rA; rw [← hw] at rW
  have eD : ¬ q 0 3 = 4 → pDeed f sz q = pDeed1 f sz y := fun z => by rw [pDeed, if_neg z, hy]
  have eY : pDeed1 f sz y = if y.1 < 0 then (false, y.2) else pDeed2 f sz y.1 c := by rw [hc]; rfl
  have eC : pDeed2 f sz y.1 c = if c.1 < 0 then (false, c.2) else pDeed3 f sz y.1 c.1 a := by rw [ha]; rfl
  have eA : pDeed3 f sz y.1 c.1 a = if a.1 < 0 then (false, a.2) else pDeed4 f sz y.1 c.1 a w := by rw [hw]; rfl
  have eW : pDeed4 f sz y.1 c.1 a w = if w.1 < 0 then (false, w.2) else (true, pDeedA y.1 c.1 a.1 w.1 w.2) := rfl
  refine am_start [some (am_R 39), none, none, none, none] rfl rfl (by decide) (Nat.le_of_ble_eq_true rfl) ?_
  refine aw_aload_n dX4_readDeed_0 rfl ?_
  refine aw_getD (kx := 3) fl_X4_15 dX4_readDeed_1 rfl rfl rfl ?_
  refine aw_topR e3 ?_
  refine aw_getI (kx := 0) fl_X4_44 dX4_readDeed_4 rfl rfl rfl ?_
  refine aw_iconst dX4_readDeed_7 ?_
  refine aw_icmp_lt (tgt := 22) dX4_readDeed_8 rfl (by omega) (by omega) (fun hc8 => ?_) (fun hc8 => ?_)
  · refine aw_iconst dX4_readDeed_22 ?_
    refine aw_zretQ dX4_readDeed_23 rfl (by omega) ?_
    exact qr_no27 (by rw [if_neg (by omega)]) hR
  · refine aw_aload_n dX4_readDeed_11 rfl ?_
    refine aw_getD (kx := 3) fl_X4_15 dX4_readDeed_12 rfl rfl rfl ?_
    refine aw_topR e3 ?_
    refine aw_getI (kx := 2) fl_X4_64 dX4_readDeed_15 rfl rfl rfl ?_
    refine aw_iconst dX4_readDeed_18 ?_
    refine aw_icmp_ne (tgt := 24) dX4_readDeed_19 rfl (by omega) (by omega) (fun hc19 => ?_) (fun hc19 => ?_)
    · rw [if_pos (by omega), eD (by omega), eY]
      refine aw_aload_n dX4_readDeed_24 rfl ?_
      first | refine aw_dupR dX4_readDeed_25 ?_ | refine aw_dupI dX4_readDeed_25 ?_
      refine aw_getI (kx := 2) fl_X4_29 dX4_readDeed_26 rfl rfl rfl ?_
      refine aw_iconst dX4_readDeed_29 ?_
      refine aw_iadd dX4_readDeed_30 ?_
      refine aw_putI (kx := 2) fp_X4_29 dX4_readDeed_31 rfl rfl rfl ?_
      refine aw_aload_n dX4_readDeed_34 rfl ?_
      refine aw_iconst dX4_readDeed_35 ?_
      refine aw_iconst dX4_readDeed_36 ?_
      refine aw_cV2I (c_X4_figure_27 hU hVU (by omega) (by omega)) lk_X4_67 dX4_readDeed_37 (by decide) rfl rfl (fun _ => Nat.le_of_ble_eq_true rfl) (fun v37 h37 q37 => ?_)
      rw [← hy] at q37
      refine aw_istore_1 dX4_readDeed_40 (by decide) rfl ?_
      refine aw_iload_n dX4_readDeed_41 rfl ?_
      refine aw_if_ge (tgt := 49) dX4_readDeed_42 rfl (by omega) (fun hc42 => ?_) (fun hc42 => ?_)
      · refine aw_aload_n dX4_readDeed_49 rfl ?_
        refine aw_iconst dX4_readDeed_50 ?_
        refine aw_bipush (by decide) dX4_readDeed_51 ?_
        refine aw_cV2I (c_X4_figure_27 q37.2 vY (by omega) (by omega)) lk_X4_67 dX4_readDeed_53 (by decide) rfl rfl (fun _ => Nat.le_of_ble_eq_true rfl) (fun v53 h53 q53 => ?_)
        rw [← hc] at q53; rw [if_neg (by omega), eC]
        refine aw_istore_2 dX4_readDeed_56 (by decide) rfl ?_
        refine aw_iload_n dX4_readDeed_57 rfl ?_
        refine aw_if_ge (tgt := 65) dX4_readDeed_58 rfl (by omega) (fun hc58 => ?_) (fun hc58 => ?_)
        · refine aw_aload_n dX4_readDeed_65 rfl ?_
          refine aw_iconst dX4_readDeed_66 ?_
          refine aw_iconst dX4_readDeed_67 ?_
          refine aw_cV2I (c_X4_figure_27 q53.2 vC (by omega) (by omega)) lk_X4_67 dX4_readDeed_68 (by decide) rfl rfl (fun _ => Nat.le_of_ble_eq_true rfl) (fun v68 h68 q68 => ?_)
          rw [← ha] at q68; rw [if_neg (by omega), eA]
          refine aw_istore_3 dX4_readDeed_71 (by decide) rfl ?_
          refine aw_iload_n dX4_readDeed_72 rfl ?_
          refine aw_if_ge (tgt := 80) dX4_readDeed_73 rfl (by omega) (fun hc73 => ?_) (fun hc73 => ?_)
          · refine aw_aload_n dX4_readDeed_80 rfl ?_
            refine aw_iconst dX4_readDeed_81 ?_
            refine aw_bipush (by decide) dX4_readDeed_82 ?_
            refine aw_cV2I (c_X4_figure_27 q68.2 vA (by omega) (by omega)) lk_X4_67 dX4_readDeed_84 (by decide) rfl rfl (fun _ => Nat.le_of_ble_eq_true rfl) (fun v84 h84 q84 => ?_)
            rw [← hw] at q84; rw [if_neg (by omega), eW]
            refine aw_istore4 dX4_readDeed_87 (by decide) rfl ?_
            refine aw_iload dX4_readDeed_89 rfl ?_
            refine aw_if_ge (tgt := 96) dX4_readDeed_91 rfl (by omega) (fun hc91 => ?_) (fun hc91 => ?_)
            · refine aw_aload_n dX4_readDeed_96 rfl ?_
              refine aw_getD (kx := 3) fl_X4_15 dX4_readDeed_97 rfl rfl rfl ?_
              refine aw_topR q84.2.2.2.1.2.2.2 ?_
              rw [if_neg (by omega), ← q37.1, ← q53.1, ← q68.1, ← q84.1]
              refine aw_iload_n dX4_readDeed_100 rfl ?_
              refine aw_iload_n dX4_readDeed_101 rfl ?_
              refine aw_iload_n dX4_readDeed_102 rfl ?_
              refine aw_iload dX4_readDeed_103 rfl ?_
              refine aw_cV4V (c_X5_addDeed_27 q84.2 vW (by rw [pl.1 3 (by decide)]; omega)) lk_X4_92 dX4_readDeed_105 (by decide) rfl rfl (fun _ => Nat.le_of_ble_eq_true rfl) (fun h105 q105 => ?_)
              refine aw_iconst dX4_readDeed_108 ?_
              refine aw_zretQ dX4_readDeed_109 rfl (by omega) ?_
              exact qr_yes27 rfl q105
            · refine aw_iconst dX4_readDeed_94 ?_
              refine aw_zretQ dX4_readDeed_95 rfl (by omega) ?_
              exact qr_no27 (by rw [if_pos (by omega)]) q84.2
          · refine aw_iconst dX4_readDeed_76 ?_
            refine aw_goto (tgt := 87) dX4_readDeed_77 rfl ?_
            refine aw_istore4 dX4_readDeed_87 (by decide) rfl ?_
            refine aw_iload dX4_readDeed_89 rfl ?_
            refine aw_if_ge (tgt := 96) dX4_readDeed_91 rfl (by omega) (fun hc91 => ?_) (fun hc91 => ?_)
            · omega
            · refine aw_iconst dX4_readDeed_94 ?_
              refine aw_zretQ dX4_readDeed_95 rfl (by omega) ?_
              exact qr_no27 (by rw [if_pos (by omega)]) q68.2
        · refine aw_iconst dX4_readDeed_61 ?_
          refine aw_goto (tgt := 71) dX4_readDeed_62 rfl ?_
          refine aw_istore_3 dX4_readDeed_71 (by decide) rfl ?_
          refine aw_iload_n dX4_readDeed_72 rfl ?_
          refine aw_if_ge (tgt := 80) dX4_readDeed_73 rfl (by omega) (fun hc73 => ?_) (fun hc73 => ?_)
          · omega
          · refine aw_iconst dX4_readDeed_76 ?_
            refine aw_goto (tgt := 87) dX4_readDeed_77 rfl ?_
            refine aw_istore4 dX4_readDeed_87 (by decide) rfl ?_
            refine aw_iload dX4_readDeed_89 rfl ?_
            refine aw_if_ge (tgt := 96) dX4_readDeed_91 rfl (by omega) (fun hc91 => ?_) (fun hc91 => ?_)
            · omega
            · refine aw_iconst dX4_readDeed_94 ?_
              refine aw_zretQ dX4_readDeed_95 rfl (by omega) ?_
              exact qr_no27 (by rw [if_pos (by omega)]) q53.2
      · refine aw_iconst dX4_readDeed_45 ?_
        refine aw_goto (tgt := 56) dX4_readDeed_46 rfl ?_
        refine aw_istore_2 dX4_readDeed_56 (by decide) rfl ?_
        refine aw_iload_n dX4_readDeed_57 rfl ?_
        refine aw_if_ge (tgt := 65) dX4_readDeed_58 rfl (by omega) (fun hc58 => ?_) (fun hc58 => ?_)
        · omega
        · refine aw_iconst dX4_readDeed_61 ?_
          refine aw_goto (tgt := 71) dX4_readDeed_62 rfl ?_
          refine aw_istore_3 dX4_readDeed_71 (by decide) rfl ?_
          refine aw_iload_n dX4_readDeed_72 rfl ?_
          refine aw_if_ge (tgt := 80) dX4_readDeed_73 rfl (by omega) (fun hc73 => ?_) (fun hc73 => ?_)
          · omega
          · refine aw_iconst dX4_readDeed_76 ?_
            refine aw_goto (tgt := 87) dX4_readDeed_77 rfl ?_
            refine aw_istore4 dX4_readDeed_87 (by decide) rfl ?_
            refine aw_iload dX4_readDeed_89 rfl ?_
            refine aw_if_ge (tgt := 96) dX4_readDeed_91 rfl (by omega) (fun hc91 => ?_) (fun hc91 => ?_)
            · omega
            · refine aw_iconst dX4_readDeed_94 ?_
              refine aw_zretQ dX4_readDeed_95 rfl (by omega) ?_
              exact qr_no27 (by rw [if_pos (by omega)]) q37.2
    · refine aw_iconst dX4_readDeed_22 ?_
      refine aw_zretQ dX4_readDeed_23 rfl (by omega) ?_
      exact qr_no27 (by rw [if_pos (by omega), pDeed, if_pos (by omega)]) hR
