noncomputable def olN (g : am_H) : am_H := fun c => if c = 0 then (fun k => if k = 6 then g 0 6 else if k = 10 then g 0 10 else 0) else if 5 ≤ c ∧ c ≤ 8 then g c else fun _ => 0
def OlE (g' g : am_H) : Prop := (∀ c : Int, 5 ≤ c → c ≤ 8 → g' c = g c) ∧ g' 0 6 = g 0 6 ∧ g' 0 10 = g 0 10
theorem OlE.n {g g' : am_H} (h : OlE g' g) : olN g' = olN g := by
  funext c
  unfold olN
  rw [h.2.1, h.2.2]
  split
  · rfl
  · split
    · rename_i a b; exact h.1 c b.1 b.2
    · rfl
theorem lpN_n2 {g : am_H} : ∀ j : Nat, lpN (olN g) j = lpN g j
  | 0 => rfl
  | j + 1 => by
    have ih := lpN_n2 (g := g) j
    have e : lpN (olN g) (j + 1) = if dgF g (g 0 6 - (j + 1 : Nat)) = 0 then lpN (olN g) j else lpN (olN g) j * dgF g (g 0 6 - (j + 1 : Nat)) := rfl
    rw [e, ih]; rfl
theorem ltP_n2 {g : am_H} : ltP (olN g) = ltP g := by
  funext x
  exact lpN_n2 _
theorem OlR.n2 {h g : am_H} : OlR h (olN g) = OlR h g := by
  unfold OlR OlX; rw [ltP_n2]; rfl
theorem OlR.eg2 {h g g' : am_H} (c : OlR h g) (e : OlE g' g) : OlR h g' := by
  rw [← OlR.n2, e.n, OlR.n2]; exact c
theorem c_X7_prize {h g : am_H} {d v : Int} (hC : CRel h g) (hV : MOK g) (hx : -2147483648 ≤ d ∧ d < 2147483648) (hk : -2147483648 ≤ v ∧ v < 2147483648) : AMet GC mX7_prize 2 [am_R 0, am_I d, am_I v] h (QC (S_prize g d v)) := by
  have hn := hC.nn.2.2
  have hnn := hV.s.2.2.1
  refine am_start [some (am_R 0), some (am_I d), some (am_I v), none] rfl rfl (by decide) (Nat.le_of_ble_eq_true rfl) ?_
  refine aw_aload_n dX7_prize_0 rfl ?_
  refine aw_iload_n dX7_prize_1 rfl ?_
  refine aw_cV1IF (c_X7_isNoDeed (by omega) (by omega)) lk_X7_165 dX7_prize_2 (by decide) rfl rfl (fun _ => Nat.le_of_ble_eq_true rfl) ?_
  refine aw_ifb_ne (tgt := 18) dX7_prize_5 rfl (fun hc5 => ?_) (fun hc5 => ?_)
  · refine aw_iconst dX7_prize_18 ?_
    refine aw_iretQ dX7_prize_19 rfl ?_
    rw [S_prize, if_neg (by omega)]; exact ⟨rfl, hC⟩
  · refine aw_iload_n dX7_prize_8 rfl ?_
    refine aw_if_lt (tgt := 18) dX7_prize_9 rfl (by omega) (fun hc9 => ?_) (fun hc9 => ?_)
    · refine aw_iconst dX7_prize_18 ?_
      refine aw_iretQ dX7_prize_19 rfl ?_
      rw [S_prize, if_neg (by omega)]; exact ⟨rfl, hC⟩
    · refine aw_iload_n dX7_prize_12 rfl ?_
      refine aw_bipush (by decide) dX7_prize_13 ?_
      refine aw_icmp_le (tgt := 20) dX7_prize_15 rfl (by omega) (by omega) (fun hc15 => ?_) (fun hc15 => ?_)
      · refine aw_aload_n dX7_prize_20 rfl ?_
        refine aw_getR (kx := 4) fl_X7_29 dX7_prize_21 rfl rfl rfl ?_
        refine aw_getR (kx := 13) fl_X7_191 dX7_prize_24 rfl rfl rfl ?_
        refine aw_iload_n dX7_prize_27 rfl ?_
        refine aw_iaload dX7_prize_28 rfl (by decide) (by omega) ?_
        refine aw_istore_3 dX7_prize_29 (by decide) rfl ?_
        refine aw_aload_n dX7_prize_30 rfl ?_
        refine aw_getR (kx := 4) fl_X7_29 dX7_prize_31 rfl rfl rfl ?_
        refine aw_getR (kx := 13) fl_X7_191 dX7_prize_34 rfl rfl rfl ?_
        refine aw_iload_n dX7_prize_37 rfl ?_
        refine aw_iload_n dX7_prize_38 rfl ?_
        refine aw_iastore dX7_prize_39 rfl (by decide) (by omega) ?_
        refine aw_aload_n dX7_prize_40 rfl ?_
        refine aw_getR (kx := 8) fl_X7_57 dX7_prize_41 rfl rfl rfl ?_
        refine aw_cV0VF (c_X3_forget) lk_X7_144 dX7_prize_44 (by decide) rfl rfl (fun _ => Nat.le_of_ble_eq_true rfl) ?_
        refine aw_iload_n dX7_prize_47 rfl ?_
        refine aw_iretQ dX7_prize_48 rfl ?_
        rw [S_prize, if_pos (by omega)]
        refine ⟨(hC.s.1.2.2.2.2 d (by omega) (by omega)).2.2.2, ?_⟩
        show CRel _ (am_set g 13 d v)
        have hh : ∀ c : Int, ¬ c = 26 → ¬ c = 60 → am_set (am_set h 26 d v) 60 4 (-1) c = h c := fun c a b => by rw [am_set_c b, am_set_c a]
        have hg : ∀ c : Int, ¬ c = 13 → am_set g 13 d v c = g c := fun c a => am_set_c a
        refine ⟨hC.r.cong (fun c a b => hh c (by omega) (by omega)) (hg _ (by decide)) (hg _ (by decide)), hC.t.cong (fun c a b => hh c (by omega) (by omega)) (hg _ (by decide)) (hg _ (by decide)), ⟨?_, fun z => ?_⟩, hC.y.cong (fun c a b => hh c (by omega) (by omega)) (by rw [hg 0 (by decide)]) (by rw [hg 0 (by decide)]) (hg _ (by decide)) (hg _ (by decide)), hC.k.cong (fun c a b => hh c (by omega) (by omega)) (hg _ (by decide)) (hg _ (by decide)), hC.f.cong (fun k a b => by rw [hh 0 (by decide) (by decide)]) (hh _ (by decide) (by decide)) (fun k a b => by rw [hg 0 (by decide)]) (hg _ (by decide)), ?_⟩
        · obtain ⟨s1, s2, s3, s4, s5⟩ := hC.s.1
          unfold SpR
          rw [hh 15 (by decide) (by decide), hh 16 (by decide) (by decide), hh 17 (by decide) (by decide), hh 18 (by decide) (by decide), hh 19 (by decide) (by decide), hh 20 (by decide) (by decide), hh 21 (by decide) (by decide), hh 22 (by decide) (by decide), hh 23 (by decide) (by decide), hh 24 (by decide) (by decide), hh 25 (by decide) (by decide), hg 0 (by decide), hg 5 (by decide), hg 6 (by decide), hg 7 (by decide), hg 8 (by decide), hg 9 (by decide), hg 10 (by decide), hg 11 (by decide), hg 12 (by decide)]
          refine ⟨s1, s2, s3, s4, fun e a b => ?_⟩
          have q := s5 e a b
          refine ⟨q.1, q.2.1, q.2.2.1, ?_⟩
          rw [am_set_c (by decide)]
          by_cases ed : e = d
          · rw [ed, am_set_s, am_set_s]
          · rw [am_set_i ed, am_set_i ed]; exact q.2.2.2
        · rw [hg 0 (by decide)] at z
          exact ((hC.s.2 z).eh hV.s (fun c a b => hh c (by omega) (by omega))).eg2 ⟨fun c a b => hg c (by omega), by rw [hg 0 (by decide)], by rw [hg 0 (by decide)]⟩
        · exact ⟨by rw [am_set_s]; decide, fun z => by rw [am_set_s] at z; exact absurd z (by decide), fun z => by rw [am_set_s] at z; exact absurd z (by decide)⟩
      · refine aw_iconst dX7_prize_18 ?_
        refine aw_iretQ dX7_prize_19 rfl ?_
        rw [S_prize, if_neg (by omega)]; exact ⟨rfl, hC⟩
theorem CRel.say {h g : am_H} {k : Int} (hC : CRel h g) (hs : MVs g) (hd : VS (g 0 19)) : CRel (cgoF h k (aft (h 68 3) (g 5 (g 7 k)))) (sayF g k) := by
  have e1 : h 68 2 = g 0 18 := hC.y.1
  have est : h 68 3 = cv (g 0 19) := hC.y.2.1
  refine hC.ofY hs (fun c a => ?_) (fun c a b d => ?_) (fun j a b => ?_) ⟨?_, ?_, fun i a b => ?_⟩
  · unfold cgoF; rw [am_set_c (by omega), am_set_c (by omega), am_set_c (by omega), am_set_c (by omega)]
  · unfold sayF; rw [am_set_c a, am_set_c a, am_set_c d, am_set_c b]
  · unfold sayF; rw [am_set_i a, am_set_i b, am_set_c (by decide), am_set_c (by decide)]
  · unfold cgoF sayF; rw [am_set_s, am_set_s, e1]
  · unfold cgoF sayF; rw [am_set_i (by decide), am_set_s, am_set_i (by decide), am_set_s, est]
    exact cv_aft hd
  · have hb : i < g 0 18 + 1 := by unfold sayF at b; rw [am_set_s] at b; exact b
    unfold cgoF sayF
    rw [e1, est]
    have x1 : am_set (am_set (am_set (am_set h 69 (g 0 18) k) 70 (g 0 18) (cv (g 0 19))) 68 3 (aft (cv (g 0 19)) (g 5 (g 7 k)))) 68 2 (g 0 18 + 1) 69 i = am_set h 69 (g 0 18) k 69 i := by rw [am_set_c (by decide), am_set_c (by decide), am_set_c (by decide)]
    have x2 : am_set (am_set (am_set (am_set h 69 (g 0 18) k) 70 (g 0 18) (cv (g 0 19))) 68 3 (aft (cv (g 0 19)) (g 5 (g 7 k)))) 68 2 (g 0 18 + 1) 70 i = am_set (am_set h 69 (g 0 18) k) 70 (g 0 18) (cv (g 0 19)) 70 i := by rw [am_set_c (by decide), am_set_c (by decide)]
    have x3 : am_set (am_set (am_set (am_set g 14 (g 0 18) k) 15 (g 0 18) (g 0 19)) 0 19 (gon (g 5 (g 7 k)) (g 0 19))) 0 18 (g 0 18 + 1) 14 i = am_set g 14 (g 0 18) k 14 i := by rw [am_set_c (by decide), am_set_c (by decide), am_set_c (by decide)]
    have x4 : am_set (am_set (am_set (am_set g 14 (g 0 18) k) 15 (g 0 18) (g 0 19)) 0 19 (gon (g 5 (g 7 k)) (g 0 19))) 0 18 (g 0 18 + 1) 15 i = am_set (am_set g 14 (g 0 18) k) 15 (g 0 18) (g 0 19) 15 i := by rw [am_set_c (by decide), am_set_c (by decide)]
    rw [x1, x2, x3, x4]
    by_cases e : i = g 0 18
    · rw [e, am_set_s, am_set_s, am_set_s, am_set_s]; exact ⟨rfl, rfl⟩
    · rw [am_set_i e, am_set_i e, am_set_i e, am_set_i e, am_set_c (by decide), am_set_c (by decide)]
      exact hC.y.2.2 i a (by omega)
theorem say_lt {g : am_H} (hs : MVs g) (hy : MVy g) {k : Int} (hk : 0 ≤ k ∧ k < g 0 10) (hf : g 7 k = nowF g) : g 0 18 < 8 := by
  have h1 := now_rng hs hy
  have h2 := (hs.2.2.2.2.1 k hk.1 hk.2).1
  have h3 := hs.1
  omega
theorem c_X7_say {h g : am_H} {k : Int} (hC : CRel h g) (hV : MOK g) (hk : -2147483648 ≤ k ∧ k < 2147483648) : AMet GC mX7_say 5 [am_R 0, am_I k] h (QC (S_say g k)) := by
  have hn := hC.nn.2.1
  have hww := hV.s.2.1
  have hnn := hV.s.1
  have hm := hV.y.1
  have e1 : h 68 2 = g 0 18 := hC.y.1
  have hnow := now_rng hV.s hV.y
  refine am_start [some (am_R 0), some (am_I k)] rfl rfl (by decide) (Nat.le_of_ble_eq_true rfl) ?_
  refine aw_aload_n dX7_say_0 rfl ?_
  refine aw_iload_n dX7_say_1 rfl ?_
  refine aw_cV1IF (c_X7_isNoWord (by omega) (by omega)) lk_X7_159 dX7_say_2 (by decide) rfl rfl (fun _ => Nat.le_of_ble_eq_true rfl) ?_
  refine aw_ifb_eq (tgt := 10) dX7_say_5 rfl (fun hc5 => ?_) (fun hc5 => ?_)
  · rw [S_say, if_neg (by omega)]
    have hsp := hC.s.1.2.2.2.1 k (by omega) (by omega)
    have hv := (hV.s.2.2.2.2.1 k (by omega) (by omega)).1
    refine aw_aload_n dX7_say_10 rfl ?_
    refine aw_getR (kx := 4) fl_X7_29 dX7_say_11 rfl rfl rfl ?_
    refine aw_getR (kx := 7) fl_X7_194 dX7_say_14 rfl rfl rfl ?_
    refine aw_iload_n dX7_say_17 rfl ?_
    refine aw_iaload dX7_say_18 rfl (by decide) (by omega) ?_
    refine aw_top hsp.1 ?_
    refine aw_aload_n dX7_say_19 rfl ?_
    refine aw_cV0IF (c_X7_nodeNow hV.s hV.y hC.s.1 hC.y) lk_X7_197 dX7_say_20 (by decide) rfl rfl (fun _ => Nat.le_of_ble_eq_true rfl) ?_
    refine aw_icmp_eq (tgt := 29) dX7_say_23 rfl (by omega) (by omega) (fun hc23 => ?_) (fun hc23 => ?_)
    · rw [if_pos hc23]
      have hlt := say_lt hV.s hV.y (k := k) (by omega) hc23
      refine aw_aload_n dX7_say_29 rfl ?_
      refine aw_getR (kx := 10) fl_X7_71 dX7_say_30 rfl rfl rfl ?_
      refine aw_iload_n dX7_say_33 rfl ?_
      refine aw_aload_n dX7_say_34 rfl ?_
      refine aw_getR (kx := 4) fl_X7_29 dX7_say_35 rfl rfl rfl ?_
      refine aw_cV2VF (c_X6_goOn hV.s hC.s.1 (by omega) (by omega)) lk_X7_200 dX7_say_38 (by decide) rfl rfl (fun _ => Nat.le_of_ble_eq_true rfl) ?_
      refine aw_aload_n dX7_say_41 rfl ?_
      refine aw_getR (kx := 4) fl_X7_29 dX7_say_42 rfl rfl rfl ?_
      refine aw_getR (kx := 8) fl_X7_204 dX7_say_45 rfl rfl rfl ?_
      refine aw_iload_n dX7_say_48 rfl ?_
      refine aw_iaload dX7_say_49 rfl (by decide) (by omega) ?_
      refine aw_iretQ dX7_say_50 rfl ?_
      refine ⟨?_, hC.say hV.s hV.d.1⟩
      unfold cgoF; rw [am_set_c (by decide), am_set_c (by decide), am_set_c (by decide), am_set_c (by decide)]; exact hsp.2.1
    · refine aw_bipush (by decide) dX7_say_26 ?_
      refine aw_iretQ dX7_say_28 rfl ?_
      rw [if_neg hc23]; exact ⟨rfl, hC⟩
  · refine aw_iconst dX7_say_8 ?_
    refine aw_iretQ dX7_say_9 rfl ?_
    rw [S_say, if_pos (by omega)]; exact ⟨rfl, hC⟩
theorem c_X7_begin {h g : am_H} {d : Int} (hC : CRel h g) (hV : MOK g) (hk : -2147483648 ≤ d ∧ d < 2147483648) : AMet GC mX7_begin 3 [am_R 0, am_I d] h (QC (S_begin g d)) := by
  have hn := hC.nn.2.2
  have hdd := hV.s.2.2.1
  have hnn := hV.s.1
  have hv0 := hV.s.2.2.2.2.2.2.2.2.1
  have est : h 68 3 = cv (g 0 19) := hC.y.2.1
  have hnow := now_rng hV.s hV.y
  refine am_start [some (am_R 0), some (am_I d)] rfl rfl (by decide) (Nat.le_of_ble_eq_true rfl) ?_
  refine aw_aload_n dX7_begin_0 rfl ?_
  refine aw_iload_n dX7_begin_1 rfl ?_
  refine aw_cV1IF (c_X7_isNoDeed (by omega) (by omega)) lk_X7_165 dX7_begin_2 (by decide) rfl rfl (fun _ => Nat.le_of_ble_eq_true rfl) ?_
  refine aw_ifb_eq (tgt := 10) dX7_begin_5 rfl (fun hc5 => ?_) (fun hc5 => ?_)
  · rw [S_begin, if_neg (by omega)]
    have hcan := cv_can hV.d.1 (d := d) ⟨by omega, by omega⟩
    have hsp := (hC.s.1.2.2.2.2 d (by omega) (by omega)).1
    have hsr := (hV.s.2.2.2.2.2.2.2.1 d (by omega) (by omega)).1
    have hcr := cd_rng (cv (g 0 19)) d
    have hbr := bz_rng (cv (g 0 19))
    refine aw_aload_n dX7_begin_10 rfl ?_
    refine aw_getR (kx := 10) fl_X7_71 dX7_begin_11 rfl rfl rfl ?_
    refine aw_getI (kx := 3) fl_X7_207 dX7_begin_14 rfl rfl rfl ?_
    refine aw_top est ?_
    refine aw_cS1IF (c_X0_busyOne) lk_X7_210 dX7_begin_17 (by decide) (fun _ => Nat.le_of_ble_eq_true rfl) ?_
    refine aw_if_ge (tgt := 51) dX7_begin_20 rfl (by omega) (fun hc20 => ?_) (fun hc20 => ?_)
    · refine aw_bipush (by decide) dX7_begin_51 ?_
      refine aw_iretQ dX7_begin_53 rfl ?_
      rw [if_neg (fun z => by have := hcan.mpr z.1; omega)]; exact ⟨rfl, hC⟩
    · refine aw_aload_n dX7_begin_23 rfl ?_
      refine aw_getR (kx := 10) fl_X7_71 dX7_begin_24 rfl rfl rfl ?_
      refine aw_getI (kx := 3) fl_X7_207 dX7_begin_27 rfl rfl rfl ?_
      refine aw_top est ?_
      refine aw_iload_n dX7_begin_30 rfl ?_
      refine aw_cS2IF (c_X0_codeOf) lk_X7_215 dX7_begin_31 (by decide) (fun _ => Nat.le_of_ble_eq_true rfl) ?_
      refine aw_if_ne (tgt := 51) dX7_begin_34 rfl (by omega) (fun hc34 => ?_) (fun hc34 => ?_)
      · refine aw_bipush (by decide) dX7_begin_51 ?_
        refine aw_iretQ dX7_begin_53 rfl ?_
        rw [if_neg (fun z => by have := hcan.mpr z.1; omega)]; exact ⟨rfl, hC⟩
      · refine aw_aload_n dX7_begin_37 rfl ?_
        refine aw_getR (kx := 4) fl_X7_29 dX7_begin_38 rfl rfl rfl ?_
        refine aw_aload_n dX7_begin_41 rfl ?_
        refine aw_cV0IF (c_X7_nodeNow hV.s hV.y hC.s.1 hC.y) lk_X7_197 dX7_begin_42 (by decide) rfl rfl (fun _ => Nat.le_of_ble_eq_true rfl) ?_
        refine aw_cV1IF (c_X5_isOver hV.s hC.s.1 (by omega)) lk_X7_218 dX7_begin_45 (by decide) rfl rfl (fun _ => Nat.le_of_ble_eq_true rfl) ?_
        refine aw_ifb_eq (tgt := 54) dX7_begin_48 rfl (fun hc48 => ?_) (fun hc48 => ?_)
        · refine aw_aload_n dX7_begin_54 rfl ?_
          refine aw_getR (kx := 10) fl_X7_71 dX7_begin_55 rfl rfl rfl ?_
          refine aw_aload_n dX7_begin_58 rfl ?_
          refine aw_getR (kx := 10) fl_X7_71 dX7_begin_59 rfl rfl rfl ?_
          refine aw_getI (kx := 3) fl_X7_207 dX7_begin_62 rfl rfl rfl ?_
          refine aw_top est ?_
          refine aw_iload_n dX7_begin_65 rfl ?_
          refine aw_aload_n dX7_begin_66 rfl ?_
          refine aw_getR (kx := 4) fl_X7_29 dX7_begin_67 rfl rfl rfl ?_
          refine aw_getR (kx := 10) fl_X7_221 dX7_begin_70 rfl rfl rfl ?_
          refine aw_iload_n dX7_begin_73 rfl ?_
          refine aw_iaload dX7_begin_74 rfl (by decide) (by omega) ?_
          refine aw_top hsp ?_
          refine aw_cS3IF (c_X0_with) lk_X7_223 dX7_begin_75 (by decide) (fun _ => Nat.le_of_ble_eq_true rfl) ?_
          refine aw_putI (kx := 3) fp_X7_207 dX7_begin_78 rfl rfl rfl ?_
          refine aw_aload_n dX7_begin_81 rfl ?_
          refine aw_getR (kx := 4) fl_X7_29 dX7_begin_82 rfl rfl rfl ?_
          refine aw_getR (kx := 10) fl_X7_221 dX7_begin_85 rfl rfl rfl ?_
          refine aw_iload_n dX7_begin_88 rfl ?_
          refine aw_iaload dX7_begin_89 rfl (by decide) (by omega) ?_
          refine aw_iretQ dX7_begin_90 rfl ?_
          have hcb := hcan.mp ⟨by omega, by omega⟩
          rw [if_pos ⟨hcb, hc48⟩, cv_wth hV.d.1 hcb ⟨by omega, by omega⟩ hsr]
          refine ⟨by rw [am_set_c (by decide)]; exact hsp, ?_⟩
          show CRel _ (am_set g 0 19 (bgw (g 10 d) (g 0 19) d))
          refine hC.ofY hV.s (fun c a => am_set_c (by omega)) (fun c a b e => am_set_c a) (fun j a b => am_set_i b) ⟨?_, ?_, fun i a b => ?_⟩
          · rw [am_set_i (by decide), am_set_i (by decide)]; exact hC.y.1
          · rw [am_set_s, am_set_s]
          · rw [am_set_i (by decide)] at b
            rw [am_set_c (by decide), am_set_c (by decide), am_set_c (by decide), am_set_c (by decide)]; exact hC.y.2.2 i a b
        · refine aw_bipush (by decide) dX7_begin_51 ?_
          refine aw_iretQ dX7_begin_53 rfl ?_
          rw [if_neg (fun z => z.2 hc48)]; exact ⟨rfl, hC⟩
  · refine aw_iconst dX7_begin_8 ?_
    refine aw_iretQ dX7_begin_9 rfl ?_
    rw [S_begin, if_pos (by omega)]; exact ⟨rfl, hC⟩
theorem c_X7_undo {h g : am_H} {n : Int} (hC : CRel h g) (hV : MOK g) (hk : -2147483648 ≤ n ∧ n < 2147483648) : AMet GC mX7_undo 2 [am_R 0, am_I n] h (QC (S_undo g n)) := by
  have hm := hV.y.1
  have e1 : h 68 2 = g 0 18 := hC.y.1
  refine am_start [some (am_R 0), some (am_I n)] rfl rfl (by decide) (Nat.le_of_ble_eq_true rfl) ?_
  refine aw_iload_n dX7_undo_0 rfl ?_
  refine aw_if_lt (tgt := 15) dX7_undo_1 rfl (by omega) (fun hc1 => ?_) (fun hc1 => ?_)
  · refine aw_iconst dX7_undo_15 ?_
    refine aw_goto (tgt := 27) dX7_undo_16 rfl ?_
    refine aw_iretQ dX7_undo_27 rfl ?_
    rw [S_undo, if_neg (by omega)]; exact ⟨rfl, hC⟩
  · refine aw_iload_n dX7_undo_4 rfl ?_
    refine aw_aload_n dX7_undo_5 rfl ?_
    refine aw_getR (kx := 10) fl_X7_71 dX7_undo_6 rfl rfl rfl ?_
    refine aw_getI (kx := 2) fl_X7_92 dX7_undo_9 rfl rfl rfl ?_
    refine aw_icmp_le (tgt := 19) dX7_undo_12 rfl (by omega) (by omega) (fun hc12 => ?_) (fun hc12 => ?_)
    · refine aw_aload_n dX7_undo_19 rfl ?_
      refine aw_getR (kx := 10) fl_X7_71 dX7_undo_20 rfl rfl rfl ?_
      refine aw_iload_n dX7_undo_23 rfl ?_
      refine aw_cV1IF (c_X6_cutAt (by omega) (by omega)) lk_X7_227 dX7_undo_24 (by decide) rfl rfl (fun _ => Nat.le_of_ble_eq_true rfl) ?_
      refine aw_iretQ dX7_undo_27 rfl ?_
      rw [S_undo, if_pos (by omega), e1]
      refine ⟨rfl, ?_⟩
      show CRel _ (am_set (am_set g 0 19 (if 0 < g 0 18 - n then g 15 n else g 0 19)) 0 18 n)
      by_cases q : 0 < g 0 18 - n
      · rw [if_pos q, if_pos q]
        refine hC.ofY hV.s (fun c a => by rw [am_set_c (by omega), am_set_c (by omega)]) (fun c a b e => by rw [am_set_c a, am_set_c a]) (fun j a b => by rw [am_set_i a, am_set_i b]) ⟨?_, ?_, fun i a b => ?_⟩
        · rw [am_set_s, am_set_s]
        · rw [am_set_i (by decide), am_set_s, am_set_i (by decide), am_set_s]; exact (hC.y.2.2 n (by omega) (by omega)).2
        · rw [am_set_s] at b
          have := hC.y.2.2 i a (by omega)
          exact ⟨by rw [am_set_c (by decide), am_set_c (by decide), am_set_c (by decide), am_set_c (by decide)]; exact this.1, by rw [am_set_c (by decide), am_set_c (by decide), am_set_c (by decide), am_set_c (by decide)]; exact this.2⟩
      · rw [if_neg q, if_neg q]
        refine hC.ofY hV.s (fun c a => rfl) (fun c a b e => by rw [am_set_c a, am_set_c a]) (fun j a b => by rw [am_set_i a, am_set_i b]) ⟨?_, ?_, fun i a b => ?_⟩
        · rw [am_set_s, e1]; omega
        · rw [am_set_i (by decide), am_set_s]; exact hC.y.2.1
        · rw [am_set_s] at b
          have := hC.y.2.2 i a (by omega)
          exact ⟨by rw [am_set_c (by decide), am_set_c (by decide)]; exact this.1, by rw [am_set_c (by decide), am_set_c (by decide)]; exact this.2⟩
    · refine aw_iconst dX7_undo_15 ?_
      refine aw_goto (tgt := 27) dX7_undo_16 rfl ?_
      refine aw_iretQ dX7_undo_27 rfl ?_
      rw [S_undo, if_neg (by omega)]; exact ⟨rfl, hC⟩
