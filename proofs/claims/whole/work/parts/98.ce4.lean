theorem gone_c {g : am_H} : ∀ n : Nat, gone (g 5) (g 7) (g 14) n = cgnF g n
  | 0 => rfl
  | n + 1 => by
    have ih := gone_c (g := g) n
    rw [gone, cgnF, ih]
theorem c_X7_here {h g : am_H} (hC : CRel h g) (hV : MOK g) : AMet GC mX7_here 3 [am_R 0] h (QC (S_here g)) := by
  have hn := hC.nn.1
  have hnn := hV.s.1
  have hA := hC.asked (v := cgnF g (g 0 18).toNat) hV.s
  have hm := hV.y.1
  have hY : MVy (am_set g 0 20 (cgnF g (g 0 18).toNat)) := by
    unfold MVy; rw [am_set_i (by decide), am_set_i (by decide), am_set_i (by decide), am_set_c (by decide), am_set_c (by decide), am_set_c (by decide)]; exact hV.y
  have eN : nowF (am_set g 0 20 (cgnF g (g 0 18).toNat)) = nowF g := by
    unfold nowF; rw [am_set_i (by decide), am_set_c (by decide), am_set_c (by decide)]
  refine am_start [some (am_R 0)] rfl rfl (by decide) (Nat.le_of_ble_eq_true rfl) ?_
  refine aw_aload_n dX7_here_0 rfl ?_
  refine aw_cV0IF (c_X7_isUnspoken (by omega)) lk_X7_230 dX7_here_1 (by decide) rfl rfl (fun _ => Nat.le_of_ble_eq_true rfl) ?_
  refine aw_ifb_eq (tgt := 10) dX7_here_4 rfl (fun hc4 => ?_) (fun hc4 => ?_)
  · refine aw_aload_n dX7_here_10 rfl ?_
    refine aw_aload_n dX7_here_11 rfl ?_
    refine aw_getR (kx := 10) fl_X7_71 dX7_here_12 rfl rfl rfl ?_
    refine aw_aload_n dX7_here_15 rfl ?_
    refine aw_getR (kx := 4) fl_X7_29 dX7_here_16 rfl rfl rfl ?_
    refine aw_cV1IF (c_X6_gone hV.s hV.y hC.s.1 hC.y) lk_X7_234 dX7_here_19 (by decide) rfl rfl (fun _ => Nat.le_of_ble_eq_true rfl) ?_
    refine aw_putI (kx := 13) fp_X7_238 dX7_here_22 rfl rfl rfl ?_
    refine aw_aload_n dX7_here_25 rfl ?_
    refine aw_cV0IF (c_X7_nodeNow hV.s.ask hY hA.s.1 hA.y) lk_X7_197 dX7_here_26 (by decide) rfl rfl (fun _ => Nat.le_of_ble_eq_true rfl) ?_
    refine aw_iretQ dX7_here_29 rfl ?_
    rw [S_here, if_neg (by omega), gone_c]; exact ⟨eN, hA⟩
  · refine aw_bipush (by decide) dX7_here_7 ?_
    refine aw_iretQ dX7_here_9 rfl ?_
    rw [S_here, if_pos (by omega)]; exact ⟨rfl, hC⟩
theorem c_X7_over {h g : am_H} (hC : CRel h g) (hV : MOK g) : AMet GC mX7_over 3 [am_R 0] h (QC (S_over g)) := by
  have hn := hC.nn.1
  have hnn := hV.s.1
  have hnow := now_rng hV.s hV.y
  have est : h 68 3 = cv (g 0 19) := hC.y.2.1
  have hb : (if dgF g (nowF g) = 0 then (1 : Int) else 0) = 0 ∨ (if dgF g (nowF g) = 0 then (1 : Int) else 0) = 1 := by split <;> omega
  refine am_start [some (am_R 0), none, none] rfl rfl (by decide) (Nat.le_of_ble_eq_true rfl) ?_
  by_cases e : dgF g (nowF g) = 0
  · refine aw_aload_n dX7_over_0 rfl ?_
    refine aw_cV0IF (c_X7_isUnspoken (by omega)) lk_X7_230 dX7_over_1 (by decide) rfl rfl (fun _ => Nat.le_of_ble_eq_true rfl) ?_
    refine aw_ifb_eq (tgt := 10) dX7_over_4 rfl (fun hc4 => ?_) (fun hc4 => ?_)
    · refine aw_aload_n dX7_over_10 rfl ?_
      refine aw_cV0IF (c_X7_nodeNow hV.s hV.y hC.s.1 hC.y) lk_X7_197 dX7_over_11 (by decide) rfl rfl (fun _ => Nat.le_of_ble_eq_true rfl) ?_
      refine aw_istore_1 dX7_over_14 (by decide) rfl ?_
      refine aw_aload_n dX7_over_15 rfl ?_
      refine aw_getR (kx := 4) fl_X7_29 dX7_over_16 rfl rfl rfl ?_
      refine aw_iload_n dX7_over_19 rfl ?_
      refine aw_cV1IF (c_X5_isOver hV.s hC.s.1 (by omega)) lk_X7_218 dX7_over_20 (by decide) rfl rfl (fun _ => Nat.le_of_ble_eq_true rfl) ?_
      refine aw_top (if_pos e) ?_
      refine aw_istore_2 dX7_over_23 (by decide) rfl ?_
      refine aw_aload_n dX7_over_24 rfl ?_
      refine aw_iload_n dX7_over_25 rfl ?_
      refine aw_if_eq (tgt := 47) dX7_over_26 rfl (by omega) (fun hc26 => ?_) (fun hc26 => ?_)
      · omega
      · refine aw_aload_n dX7_over_29 rfl ?_
        refine aw_getR (kx := 4) fl_X7_29 dX7_over_30 rfl rfl rfl ?_
        refine aw_iload_n dX7_over_33 rfl ?_
        refine aw_aload_n dX7_over_34 rfl ?_
        refine aw_getR (kx := 10) fl_X7_71 dX7_over_35 rfl rfl rfl ?_
        refine aw_getI (kx := 3) fl_X7_207 dX7_over_38 rfl rfl rfl ?_
        refine aw_top est ?_
        refine aw_cV2IF (c_X5_gain hV.s hC.s.1 (by omega) hV.d.1) lk_X7_241 dX7_over_41 (by decide) rfl rfl (fun _ => Nat.le_of_ble_eq_true rfl) ?_
        refine aw_goto (tgt := 48) dX7_over_44 rfl ?_
        refine aw_putI (kx := 13) fp_X7_238 dX7_over_48 rfl rfl rfl ?_
        refine aw_iload_n dX7_over_51 rfl ?_
        refine aw_if_eq (tgt := 59) dX7_over_52 rfl (by omega) (fun hc52 => ?_) (fun hc52 => ?_)
        · omega
        · refine aw_iconst dX7_over_55 ?_
          refine aw_goto (tgt := 60) dX7_over_56 rfl ?_
          refine aw_iretQ dX7_over_60 rfl ?_
          rw [S_over, if_neg (by omega), if_pos e]; exact ⟨rfl, hC.asked hV.s⟩
    · refine aw_bipush (by decide) dX7_over_7 ?_
      refine aw_iretQ dX7_over_9 rfl ?_
      rw [S_over, if_pos (by omega)]; exact ⟨rfl, hC⟩
  · refine aw_aload_n dX7_over_0 rfl ?_
    refine aw_cV0IF (c_X7_isUnspoken (by omega)) lk_X7_230 dX7_over_1 (by decide) rfl rfl (fun _ => Nat.le_of_ble_eq_true rfl) ?_
    refine aw_ifb_eq (tgt := 10) dX7_over_4 rfl (fun hc4 => ?_) (fun hc4 => ?_)
    · refine aw_aload_n dX7_over_10 rfl ?_
      refine aw_cV0IF (c_X7_nodeNow hV.s hV.y hC.s.1 hC.y) lk_X7_197 dX7_over_11 (by decide) rfl rfl (fun _ => Nat.le_of_ble_eq_true rfl) ?_
      refine aw_istore_1 dX7_over_14 (by decide) rfl ?_
      refine aw_aload_n dX7_over_15 rfl ?_
      refine aw_getR (kx := 4) fl_X7_29 dX7_over_16 rfl rfl rfl ?_
      refine aw_iload_n dX7_over_19 rfl ?_
      refine aw_cV1IF (c_X5_isOver hV.s hC.s.1 (by omega)) lk_X7_218 dX7_over_20 (by decide) rfl rfl (fun _ => Nat.le_of_ble_eq_true rfl) ?_
      refine aw_top (if_neg e) ?_
      refine aw_istore_2 dX7_over_23 (by decide) rfl ?_
      refine aw_aload_n dX7_over_24 rfl ?_
      refine aw_iload_n dX7_over_25 rfl ?_
      refine aw_if_eq (tgt := 47) dX7_over_26 rfl (by omega) (fun hc26 => ?_) (fun hc26 => ?_)
      · refine aw_iconst dX7_over_47 ?_
        refine aw_putI (kx := 13) fp_X7_238 dX7_over_48 rfl rfl rfl ?_
        refine aw_iload_n dX7_over_51 rfl ?_
        refine aw_if_eq (tgt := 59) dX7_over_52 rfl (by omega) (fun hc52 => ?_) (fun hc52 => ?_)
        · refine aw_iconst dX7_over_59 ?_
          refine aw_iretQ dX7_over_60 rfl ?_
          rw [S_over, if_neg (by omega), if_neg e]; exact ⟨rfl, hC.asked hV.s⟩
        · omega
      · omega
    · refine aw_bipush (by decide) dX7_over_7 ?_
      refine aw_iretQ dX7_over_9 rfl ?_
      rw [S_over, if_pos (by omega)]; exact ⟨rfl, hC⟩
def flQ (h : am_H) (r c n : Int) (h' : am_H) : Prop := (∀ e : Int, ¬ e = 2 + r → ¬ e = 8 → h' e = h e) ∧ (∀ i : Int, ¬ i = r → h' 8 i = h 8 i) ∧ h' 8 r = n ∧ ∀ i : Int, 0 ≤ i → i < 40 → h' (2 + r) i = if i < n then h c i else 0
theorem c_X7_fill {h : am_H} {r c n : Int} (hr : 0 ≤ r ∧ r ≤ 5) (hk : am_kd GC c = some (.inr (0, 8, 0))) (hc : 8 < c) (hn : 0 ≤ n ∧ n ≤ 8) : AMet GC mX7_fill 3 [am_R 0, am_I r, am_R c, am_I n] h (am_QI (fun v h' => v = n ∧ flQ h r c n h')) := by
  refine am_start [some (am_R 0), some (am_I r), some (am_R c), some (am_I n)] rfl rfl (by decide) (Nat.le_of_ble_eq_true rfl) ?_
  refine aw_aload_n dX7_fill_0 rfl ?_
  refine aw_iload_n dX7_fill_1 rfl ?_
  refine aw_iload_n dX7_fill_2 rfl ?_
  refine aw_cV2VF (c_X7_layOut (by omega)) lk_X7_104 dX7_fill_3 (by decide) rfl rfl (fun _ => Nat.le_of_ble_eq_true rfl) ?_
  refine aw_aload_n dX7_fill_6 rfl ?_
  refine aw_iconst dX7_fill_7 ?_
  refine aw_aload_n dX7_fill_8 rfl ?_
  refine aw_getR (kx := 0) fl_X7_11 dX7_fill_9 rfl rfl rfl ?_
  refine aw_iload_n dX7_fill_12 rfl ?_
  first | refine aw_aaload4 dX7_fill_13 rfl (by decide) (by omega) ?_ | refine aw_aaload5 dX7_fill_13 rfl (by decide) (by omega) ?_ | refine aw_aaload6 dX7_fill_13 rfl (by decide) (by omega) ?_
  refine aw_iconst dX7_fill_14 ?_
  refine aw_iload_n dX7_fill_15 rfl ?_
  refine aw_copy lc_X7_122 dX7_fill_16 hk (kdR (r := r) (by omega) (by omega)) (by decide) (by decide) (by omega) (by omega) (by omega) (by decide) (fun _ => Nat.le_of_ble_eq_true rfl) ?_
  refine aw_iload_n dX7_fill_19 rfl ?_
  refine aw_iretQ dX7_fill_20 rfl ?_
  refine ⟨rfl, fun e a b => ?_, fun i a => ?_, ?_, fun i a b => ?_⟩
  · rw [am_up_c a, am_set_c b]; unfold fillF; rw [am_up_c a]
  · rw [am_up_c (by omega), am_set_i a]; unfold fillF; rw [am_up_c (by omega)]
  · rw [am_up_c (by omega), am_set_s]
  · rw [am_up_s]
    unfold am_cpy
    by_cases q : i < n
    · rw [if_pos (by omega), if_pos q, am_set_c (by omega)]; unfold fillF; rw [am_up_c (by omega)]; congr 1; omega
    · rw [if_neg (by omega), if_neg q, am_set_c (by omega)]; unfold fillF; rw [am_up_s, if_pos (by omega)]
theorem CRel.fl {h h' g : am_H} {r c n : Int} {F : Int → Int} (hC : CRel h g) (hs : MVs g) (hr : 0 ≤ r ∧ r ≤ 5) (hn : 0 ≤ n ∧ n ≤ 8) (hq : flQ h r c n h') (hF : ∀ i : Int, 0 ≤ i → i < n → h c i = F i) : CRel h' (am_up (rowF g r n) 2 (fun j => if 40 * r ≤ j ∧ j < 40 * r + n then F (j - 40 * r) else rowF g r n 2 j)) := by
  obtain ⟨q1, q2, q3, q4⟩ := hq
  refine hC.ofR hs (fun e a => q1 e (by omega) (by omega)) (fun e a b => ?_) ⟨fun x i a b d e => ?_, fun x a b => ?_⟩
  · rw [am_up_c b]; unfold rowF; rw [am_up_c b, am_set_c a]
  · rw [am_up_s]
    by_cases z : x = r
    · rw [z, q4 i d e]
      by_cases y : i < n
      · rw [if_pos y, if_pos (by omega), hF i d y]; congr 1; omega
      · rw [if_neg y, if_neg (by omega)]; unfold rowF; rw [am_up_s, if_pos (by omega)]
    · rw [q1 _ (by omega) (by omega), if_neg (by omega)]; unfold rowF; rw [am_up_s, if_neg (by omega)]; exact hC.r.1 x i a b d e
  · rw [am_up_c (by decide)]; unfold rowF; rw [am_up_c (by decide)]
    by_cases z : x = r
    · rw [z, am_set_s]; exact q3
    · rw [q2 x z, am_set_i z]; exact hC.r.2 x a b
theorem c_X7_told {h g : am_H} {r : Int} (hC : CRel h g) (hV : MOK g) (hr : -2147483648 ≤ r ∧ r < 2147483648) : AMet GC mX7_told 4 [am_R 0, am_I r] h (QC (S_told g r)) := by
  have hm := hV.y.1
  have e1 : h 68 2 = g 0 18 := hC.y.1
  refine am_start [some (am_R 0), some (am_I r)] rfl rfl (by decide) (Nat.le_of_ble_eq_true rfl) ?_
  refine aw_iload_n dX7_told_0 rfl ?_
  refine aw_cS1IF (c_X7_isNoRow (by omega)) lk_X7_96 dX7_told_1 (by decide) (fun _ => Nat.le_of_ble_eq_true rfl) ?_
  refine aw_ifb_eq (tgt := 9) dX7_told_4 rfl (fun hc4 => ?_) (fun hc4 => ?_)
  · refine aw_aload_n dX7_told_9 rfl ?_
    refine aw_iload_n dX7_told_10 rfl ?_
    refine aw_aload_n dX7_told_11 rfl ?_
    refine aw_getR (kx := 10) fl_X7_71 dX7_told_12 rfl rfl rfl ?_
    refine aw_getR (kx := 0) fl_X7_244 dX7_told_15 rfl rfl rfl ?_
    refine aw_aload_n dX7_told_18 rfl ?_
    refine aw_getR (kx := 10) fl_X7_71 dX7_told_19 rfl rfl rfl ?_
    refine aw_getI (kx := 2) fl_X7_92 dX7_told_22 rfl rfl rfl ?_
    refine aw_top e1 ?_
    refine aw_cV3I (c_X7_fill (c := 69) (by omega) rfl (by decide) hm) lk_X7_247 dX7_told_25 (by decide) rfl rfl (fun _ => Nat.le_of_ble_eq_true rfl) (fun v25 h25 q25 => ?_)
    refine aw_iretQ dX7_told_28 rfl ?_
    rw [S_told, if_neg (by omega)]
    exact ⟨q25.1, hC.fl hV.s (by omega) hm q25.2 (fun i a b => (hC.y.2.2 i a b).1)⟩
  · refine aw_iconst dX7_told_7 ?_
    refine aw_iretQ dX7_told_8 rfl ?_
    rw [S_told, if_pos (by omega)]; exact ⟨rfl, hC⟩
theorem CRel.keep0 {h g : am_H} (hC : CRel h g) (hV : MOK g) : CRel (tkF_72_68 h) (keepF g 0) := by
  have hm := hV.y.1
  refine hC.ofK hV.s (fun c x => ?_) (fun c x y => ?_) (fun j x y => ?_)
  · unfold tkF_72_68; rw [am_set_c (by omega), am_set_c (by omega), am_up_c (by omega), am_up_c (by omega)]
  · unfold keepF; rw [am_set_c x, am_up_c y]
  · by_cases e : j = 0
    · subst e
      refine ⟨fun z => ?_, fun _ => ⟨?_, ?_, fun i u v => ?_⟩⟩
      · unfold keepF at z; rw [am_set_s] at z; exact absurd z (by decide)
      · show tkF_72_68 h 72 2 = keepF g 0 25 (18 * 0 + 16)
        unfold tkF_72_68 keepF keepC
        rw [am_set_i (by decide), am_set_s, am_set_c (by decide), am_up_s, if_neg (by omega), if_neg (by omega), if_pos (by omega)]; exact hC.y.1
      · show tkF_72_68 h 72 3 = cv (keepF g 0 25 (18 * 0 + 17))
        unfold tkF_72_68 keepF keepC
        rw [am_set_s, am_set_c (by decide), am_up_s, if_neg (by omega), if_neg (by omega), if_neg (by omega), if_pos (by omega)]; exact hC.y.2.1
      · have v2 : i < g 0 18 := by
          have v1 : i < keepF g 0 25 (18 * 0 + 16) := v
          unfold keepF keepC at v1
          rw [am_set_c (by decide), am_up_s, if_neg (by omega), if_neg (by omega), if_pos (by omega)] at v1
          exact v1
        have hy := hC.y.2.2 i u v2
        show tkF_72_68 h 75 i = keepF g 0 25 (18 * 0 + i) ∧ tkF_72_68 h 76 i = cv (keepF g 0 25 (18 * 0 + 8 + i))
        constructor
        · unfold tkF_72_68 keepF keepC lo
          rw [am_set_c (by decide), am_set_c (by decide), am_up_c (by decide), am_up_s, if_pos (by omega), am_set_c (by decide), am_up_s, if_pos (by omega), hy.1]; congr 1; omega
        · unfold tkF_72_68 keepF keepC lo
          rw [am_set_c (by decide), am_set_c (by decide), am_up_s, if_pos (by omega), am_set_c (by decide), am_up_s, if_neg (by omega), if_pos (by omega), hy.2]; congr 2; omega
    · have hk := hC.k j x y
      have c1 : ∀ c : Int, c = 72 + j ∨ c = 75 + 2 * j ∨ c = 76 + 2 * j → tkF_72_68 h c = h c := fun c hc => by
        unfold tkF_72_68; rw [am_set_c (by omega), am_set_c (by omega), am_up_c (by omega), am_up_c (by omega)]
      have g1 : keepF g 0 24 j = g 24 j := by unfold keepF; rw [am_set_i e, am_up_c (by decide)]
      have g2 : ∀ i : Int, 0 ≤ i → i < 18 → keepF g 0 25 (18 * j + i) = g 25 (18 * j + i) := fun i u v => by
        unfold keepF keepC
        rw [am_set_c (by decide), am_up_s, if_neg (by omega), if_neg (by omega), if_neg (by omega), if_neg (by omega)]
      rw [g1]
      refine ⟨fun z => by rw [c1 _ (by omega)]; exact hk.1 z, fun z => ?_⟩
      have hk2 := hk.2 z
      have hr := hV.q.rng x (by omega) z
      refine ⟨?_, ?_, fun i u v => ?_⟩
      · rw [c1 _ (by omega), g2 16 (by decide) (by decide)]; exact hk2.1
      · rw [c1 _ (by omega), g2 17 (by decide) (by decide)]; exact hk2.2.1
      · rw [g2 16 (by decide) (by decide)] at v
        have hk3 := hk2.2.2 i u v
        constructor
        · rw [c1 _ (by omega)]
          show h _ i = keepF g 0 25 (18 * j + i)
          rw [g2 i u (by omega)]; exact hk3.1
        · rw [c1 _ (by omega)]
          show h _ i = cv (keepF g 0 25 (18 * j + 8 + i))
          rw [Int.add_assoc, g2 (8 + i) (by omega) (by omega), ← Int.add_assoc]; exact hk3.2
theorem CRel.on0 {h g : am_H} (hC : CRel h g) (hV : MOK g) (hk : g 24 0 = 1) : CRel (tkF_68_72 h) (onF g 0) := by
  have hr := hV.q.rng (k := 0) (by decide) (by decide) hk
  have hy := (hC.k 0 (by decide) (by decide)).2 hk
  refine hC.ofY hV.s (fun c x => ?_) (fun c x y z => ?_) (fun j x y => ?_) ⟨?_, ?_, fun i u v => ?_⟩
  · unfold tkF_68_72; rw [am_set_c (by omega), am_set_c (by omega), am_up_c (by omega), am_up_c (by omega)]
  · unfold onF; rw [am_set_c x, am_set_c x, am_up_c z, am_up_c y]
  · unfold onF; rw [am_set_i y, am_set_i x, am_up_c (by decide), am_up_c (by decide)]
  · unfold tkF_68_72 onF
    rw [am_set_i (by decide), am_set_s, am_set_i (by decide), am_set_s]; exact hy.1
  · unfold tkF_68_72 onF
    rw [am_set_s, am_set_s]; exact hy.2.1
  · have v2 : i < g 25 (18 * 0 + 16) := by unfold onF at v; rw [am_set_i (by decide), am_set_s] at v; exact v
    have hz := hy.2.2 i u v2
    constructor
    · unfold tkF_68_72 onF lo
      rw [am_set_c (by decide), am_set_c (by decide), am_up_c (by decide), am_up_s, if_pos (by omega), am_set_c (by decide), am_set_c (by decide), am_up_c (by decide), am_up_s, if_pos (by omega)]; exact hz.1
    · unfold tkF_68_72 onF lo
      rw [am_set_c (by decide), am_set_c (by decide), am_up_s, if_pos (by omega), am_set_c (by decide), am_set_c (by decide), am_up_s, if_pos (by omega)]; exact hz.2
theorem CRel.keep1 {h g : am_H} (hC : CRel h g) (hV : MOK g) : CRel (tkF_73_68 h) (keepF g 1) := by
  have hm := hV.y.1
  refine hC.ofK hV.s (fun c x => ?_) (fun c x y => ?_) (fun j x y => ?_)
  · unfold tkF_73_68; rw [am_set_c (by omega), am_set_c (by omega), am_up_c (by omega), am_up_c (by omega)]
  · unfold keepF; rw [am_set_c x, am_up_c y]
  · by_cases e : j = 1
    · subst e
      refine ⟨fun z => ?_, fun _ => ⟨?_, ?_, fun i u v => ?_⟩⟩
      · unfold keepF at z; rw [am_set_s] at z; exact absurd z (by decide)
      · show tkF_73_68 h 73 2 = keepF g 1 25 (18 * 1 + 16)
        unfold tkF_73_68 keepF keepC
        rw [am_set_i (by decide), am_set_s, am_set_c (by decide), am_up_s, if_neg (by omega), if_neg (by omega), if_pos (by omega)]; exact hC.y.1
      · show tkF_73_68 h 73 3 = cv (keepF g 1 25 (18 * 1 + 17))
        unfold tkF_73_68 keepF keepC
        rw [am_set_s, am_set_c (by decide), am_up_s, if_neg (by omega), if_neg (by omega), if_neg (by omega), if_pos (by omega)]; exact hC.y.2.1
      · have v2 : i < g 0 18 := by
          have v1 : i < keepF g 1 25 (18 * 1 + 16) := v
          unfold keepF keepC at v1
          rw [am_set_c (by decide), am_up_s, if_neg (by omega), if_neg (by omega), if_pos (by omega)] at v1
          exact v1
        have hy := hC.y.2.2 i u v2
        show tkF_73_68 h 77 i = keepF g 1 25 (18 * 1 + i) ∧ tkF_73_68 h 78 i = cv (keepF g 1 25 (18 * 1 + 8 + i))
        constructor
        · unfold tkF_73_68 keepF keepC lo
          rw [am_set_c (by decide), am_set_c (by decide), am_up_c (by decide), am_up_s, if_pos (by omega), am_set_c (by decide), am_up_s, if_pos (by omega), hy.1]; congr 1; omega
        · unfold tkF_73_68 keepF keepC lo
          rw [am_set_c (by decide), am_set_c (by decide), am_up_s, if_pos (by omega), am_set_c (by decide), am_up_s, if_neg (by omega), if_pos (by omega), hy.2]; congr 2; omega
    · have hk := hC.k j x y
      have c1 : ∀ c : Int, c = 72 + j ∨ c = 75 + 2 * j ∨ c = 76 + 2 * j → tkF_73_68 h c = h c := fun c hc => by
        unfold tkF_73_68; rw [am_set_c (by omega), am_set_c (by omega), am_up_c (by omega), am_up_c (by omega)]
      have g1 : keepF g 1 24 j = g 24 j := by unfold keepF; rw [am_set_i e, am_up_c (by decide)]
      have g2 : ∀ i : Int, 0 ≤ i → i < 18 → keepF g 1 25 (18 * j + i) = g 25 (18 * j + i) := fun i u v => by
        unfold keepF keepC
        rw [am_set_c (by decide), am_up_s, if_neg (by omega), if_neg (by omega), if_neg (by omega), if_neg (by omega)]
      rw [g1]
      refine ⟨fun z => by rw [c1 _ (by omega)]; exact hk.1 z, fun z => ?_⟩
      have hk2 := hk.2 z
      have hr := hV.q.rng x (by omega) z
      refine ⟨?_, ?_, fun i u v => ?_⟩
      · rw [c1 _ (by omega), g2 16 (by decide) (by decide)]; exact hk2.1
      · rw [c1 _ (by omega), g2 17 (by decide) (by decide)]; exact hk2.2.1
      · rw [g2 16 (by decide) (by decide)] at v
        have hk3 := hk2.2.2 i u v
        constructor
        · rw [c1 _ (by omega)]
          show h _ i = keepF g 1 25 (18 * j + i)
          rw [g2 i u (by omega)]; exact hk3.1
        · rw [c1 _ (by omega)]
          show h _ i = cv (keepF g 1 25 (18 * j + 8 + i))
          rw [Int.add_assoc, g2 (8 + i) (by omega) (by omega), ← Int.add_assoc]; exact hk3.2
theorem CRel.on1 {h g : am_H} (hC : CRel h g) (hV : MOK g) (hk : g 24 1 = 1) : CRel (tkF_68_73 h) (onF g 1) := by
  have hr := hV.q.rng (k := 1) (by decide) (by decide) hk
  have hy := (hC.k 1 (by decide) (by decide)).2 hk
  refine hC.ofY hV.s (fun c x => ?_) (fun c x y z => ?_) (fun j x y => ?_) ⟨?_, ?_, fun i u v => ?_⟩
  · unfold tkF_68_73; rw [am_set_c (by omega), am_set_c (by omega), am_up_c (by omega), am_up_c (by omega)]
  · unfold onF; rw [am_set_c x, am_set_c x, am_up_c z, am_up_c y]
  · unfold onF; rw [am_set_i y, am_set_i x, am_up_c (by decide), am_up_c (by decide)]
  · unfold tkF_68_73 onF
    rw [am_set_i (by decide), am_set_s, am_set_i (by decide), am_set_s]; exact hy.1
  · unfold tkF_68_73 onF
    rw [am_set_s, am_set_s]; exact hy.2.1
  · have v2 : i < g 25 (18 * 1 + 16) := by unfold onF at v; rw [am_set_i (by decide), am_set_s] at v; exact v
    have hz := hy.2.2 i u v2
    constructor
    · unfold tkF_68_73 onF lo
      rw [am_set_c (by decide), am_set_c (by decide), am_up_c (by decide), am_up_s, if_pos (by omega), am_set_c (by decide), am_set_c (by decide), am_up_c (by decide), am_up_s, if_pos (by omega)]; exact hz.1
    · unfold tkF_68_73 onF lo
      rw [am_set_c (by decide), am_set_c (by decide), am_up_s, if_pos (by omega), am_set_c (by decide), am_set_c (by decide), am_up_s, if_pos (by omega)]; exact hz.2
theorem CRel.keep2 {h g : am_H} (hC : CRel h g) (hV : MOK g) : CRel (tkF_74_68 h) (keepF g 2) := by
  have hm := hV.y.1
  refine hC.ofK hV.s (fun c x => ?_) (fun c x y => ?_) (fun j x y => ?_)
  · unfold tkF_74_68; rw [am_set_c (by omega), am_set_c (by omega), am_up_c (by omega), am_up_c (by omega)]
  · unfold keepF; rw [am_set_c x, am_up_c y]
  · by_cases e : j = 2
    · subst e
      refine ⟨fun z => ?_, fun _ => ⟨?_, ?_, fun i u v => ?_⟩⟩
      · unfold keepF at z; rw [am_set_s] at z; exact absurd z (by decide)
      · show tkF_74_68 h 74 2 = keepF g 2 25 (18 * 2 + 16)
        unfold tkF_74_68 keepF keepC
        rw [am_set_i (by decide), am_set_s, am_set_c (by decide), am_up_s, if_neg (by omega), if_neg (by omega), if_pos (by omega)]; exact hC.y.1
      · show tkF_74_68 h 74 3 = cv (keepF g 2 25 (18 * 2 + 17))
        unfold tkF_74_68 keepF keepC
        rw [am_set_s, am_set_c (by decide), am_up_s, if_neg (by omega), if_neg (by omega), if_neg (by omega), if_pos (by omega)]; exact hC.y.2.1
      · have v2 : i < g 0 18 := by
          have v1 : i < keepF g 2 25 (18 * 2 + 16) := v
          unfold keepF keepC at v1
          rw [am_set_c (by decide), am_up_s, if_neg (by omega), if_neg (by omega), if_pos (by omega)] at v1
          exact v1
        have hy := hC.y.2.2 i u v2
        show tkF_74_68 h 79 i = keepF g 2 25 (18 * 2 + i) ∧ tkF_74_68 h 80 i = cv (keepF g 2 25 (18 * 2 + 8 + i))
        constructor
        · unfold tkF_74_68 keepF keepC lo
          rw [am_set_c (by decide), am_set_c (by decide), am_up_c (by decide), am_up_s, if_pos (by omega), am_set_c (by decide), am_up_s, if_pos (by omega), hy.1]; congr 1; omega
        · unfold tkF_74_68 keepF keepC lo
          rw [am_set_c (by decide), am_set_c (by decide), am_up_s, if_pos (by omega), am_set_c (by decide), am_up_s, if_neg (by omega), if_pos (by omega), hy.2]; congr 2; omega
    · have hk := hC.k j x y
      have c1 : ∀ c : Int, c = 72 + j ∨ c = 75 + 2 * j ∨ c = 76 + 2 * j → tkF_74_68 h c = h c := fun c hc => by
        unfold tkF_74_68; rw [am_set_c (by omega), am_set_c (by omega), am_up_c (by omega), am_up_c (by omega)]
      have g1 : keepF g 2 24 j = g 24 j := by unfold keepF; rw [am_set_i e, am_up_c (by decide)]
      have g2 : ∀ i : Int, 0 ≤ i → i < 18 → keepF g 2 25 (18 * j + i) = g 25 (18 * j + i) := fun i u v => by
        unfold keepF keepC
        rw [am_set_c (by decide), am_up_s, if_neg (by omega), if_neg (by omega), if_neg (by omega), if_neg (by omega)]
      rw [g1]
      refine ⟨fun z => by rw [c1 _ (by omega)]; exact hk.1 z, fun z => ?_⟩
      have hk2 := hk.2 z
      have hr := hV.q.rng x (by omega) z
      refine ⟨?_, ?_, fun i u v => ?_⟩
      · rw [c1 _ (by omega), g2 16 (by decide) (by decide)]; exact hk2.1
      · rw [c1 _ (by omega), g2 17 (by decide) (by decide)]; exact hk2.2.1
      · rw [g2 16 (by decide) (by decide)] at v
        have hk3 := hk2.2.2 i u v
        constructor
        · rw [c1 _ (by omega)]
          show h _ i = keepF g 2 25 (18 * j + i)
          rw [g2 i u (by omega)]; exact hk3.1
        · rw [c1 _ (by omega)]
          show h _ i = cv (keepF g 2 25 (18 * j + 8 + i))
          rw [Int.add_assoc, g2 (8 + i) (by omega) (by omega), ← Int.add_assoc]; exact hk3.2
theorem CRel.on2 {h g : am_H} (hC : CRel h g) (hV : MOK g) (hk : g 24 2 = 1) : CRel (tkF_68_74 h) (onF g 2) := by
  have hr := hV.q.rng (k := 2) (by decide) (by decide) hk
  have hy := (hC.k 2 (by decide) (by decide)).2 hk
  refine hC.ofY hV.s (fun c x => ?_) (fun c x y z => ?_) (fun j x y => ?_) ⟨?_, ?_, fun i u v => ?_⟩
  · unfold tkF_68_74; rw [am_set_c (by omega), am_set_c (by omega), am_up_c (by omega), am_up_c (by omega)]
  · unfold onF; rw [am_set_c x, am_set_c x, am_up_c z, am_up_c y]
  · unfold onF; rw [am_set_i y, am_set_i x, am_up_c (by decide), am_up_c (by decide)]
  · unfold tkF_68_74 onF
    rw [am_set_i (by decide), am_set_s, am_set_i (by decide), am_set_s]; exact hy.1
  · unfold tkF_68_74 onF
    rw [am_set_s, am_set_s]; exact hy.2.1
  · have v2 : i < g 25 (18 * 2 + 16) := by unfold onF at v; rw [am_set_i (by decide), am_set_s] at v; exact v
    have hz := hy.2.2 i u v2
    constructor
    · unfold tkF_68_74 onF lo
      rw [am_set_c (by decide), am_set_c (by decide), am_up_c (by decide), am_up_s, if_pos (by omega), am_set_c (by decide), am_set_c (by decide), am_up_c (by decide), am_up_s, if_pos (by omega)]; exact hz.1
    · unfold tkF_68_74 onF lo
      rw [am_set_c (by decide), am_set_c (by decide), am_up_s, if_pos (by omega), am_set_c (by decide), am_set_c (by decide), am_up_s, if_pos (by omega)]; exact hz.2
theorem c_X7_keep {h g : am_H} {k : Int} (hC : CRel h g) (hV : MOK g) (hk : -2147483648 ≤ k ∧ k < 2147483648) : AMet GC mX7_keep 2 [am_R 0, am_I k] h (QC (S_keep g k)) := by
  have hn := hC.nn.1
  have hnn := hV.s.1
  have e1 : h 68 2 = g 0 18 := hC.y.1
  refine am_start [some (am_R 0), some (am_I k)] rfl rfl (by decide) (Nat.le_of_ble_eq_true rfl) ?_
  by_cases e : 0 ≤ k ∧ k ≤ 2
  · rw [S_keep, if_neg (by omega)]
    have hcs : k = 0 ∨ k = 1 ∨ k = 2 := by omega
    rcases hcs with q | q | q <;> subst q
    · refine aw_iload_n dX7_keep_0 rfl ?_
      refine aw_cS1IF (c_X7_isNoPlace (by omega)) lk_X7_250 dX7_keep_1 (by decide) (fun _ => Nat.le_of_ble_eq_true rfl) ?_
      refine aw_ifb_eq (tgt := 9) dX7_keep_4 rfl (fun hc4 => ?_) (fun hc4 => ?_)
      · refine aw_aload_n dX7_keep_9 rfl ?_
        refine aw_cV0IF (c_X7_isUnspoken (by omega)) lk_X7_230 dX7_keep_10 (by decide) rfl rfl (fun _ => Nat.le_of_ble_eq_true rfl) ?_
        refine aw_ifb_eq (tgt := 19) dX7_keep_13 rfl (fun hc13 => ?_) (fun hc13 => ?_)
        · refine aw_aload_n dX7_keep_19 rfl ?_
          refine aw_getR (kx := 11) fl_X7_75 dX7_keep_20 rfl rfl rfl ?_
          refine aw_iload_n dX7_keep_23 rfl ?_
          first | refine aw_aaload4 dX7_keep_24 rfl (by decide) (by omega) ?_ | refine aw_aaload5 dX7_keep_24 rfl (by decide) (by omega) ?_ | refine aw_aaload6 dX7_keep_24 rfl (by decide) (by omega) ?_
          refine aw_aload_n dX7_keep_25 rfl ?_
          refine aw_getR (kx := 10) fl_X7_71 dX7_keep_26 rfl rfl rfl ?_
          refine aw_cV1VF (c_X6_takeFrom_72_68) lk_X7_253 dX7_keep_29 (by decide) rfl rfl (fun _ => Nat.le_of_ble_eq_true rfl) ?_
          refine aw_aload_n dX7_keep_32 rfl ?_
          refine aw_getR (kx := 10) fl_X7_71 dX7_keep_33 rfl rfl rfl ?_
          refine aw_getI (kx := 2) fl_X7_92 dX7_keep_36 rfl rfl rfl ?_
          refine aw_iretQ dX7_keep_39 rfl ?_
          rw [if_neg (by omega)]
          refine ⟨?_, hC.keep0 hV⟩
          unfold tkF_72_68; rw [am_set_c (by decide), am_set_c (by decide), am_up_c (by decide), am_up_c (by decide)]; exact e1
        · refine aw_bipush (by decide) dX7_keep_16 ?_
          refine aw_iretQ dX7_keep_18 rfl ?_
          rw [if_pos (by omega)]; exact ⟨rfl, hC⟩
      · omega
    · refine aw_iload_n dX7_keep_0 rfl ?_
      refine aw_cS1IF (c_X7_isNoPlace (by omega)) lk_X7_250 dX7_keep_1 (by decide) (fun _ => Nat.le_of_ble_eq_true rfl) ?_
      refine aw_ifb_eq (tgt := 9) dX7_keep_4 rfl (fun hc4 => ?_) (fun hc4 => ?_)
      · refine aw_aload_n dX7_keep_9 rfl ?_
        refine aw_cV0IF (c_X7_isUnspoken (by omega)) lk_X7_230 dX7_keep_10 (by decide) rfl rfl (fun _ => Nat.le_of_ble_eq_true rfl) ?_
        refine aw_ifb_eq (tgt := 19) dX7_keep_13 rfl (fun hc13 => ?_) (fun hc13 => ?_)
        · refine aw_aload_n dX7_keep_19 rfl ?_
          refine aw_getR (kx := 11) fl_X7_75 dX7_keep_20 rfl rfl rfl ?_
          refine aw_iload_n dX7_keep_23 rfl ?_
          first | refine aw_aaload4 dX7_keep_24 rfl (by decide) (by omega) ?_ | refine aw_aaload5 dX7_keep_24 rfl (by decide) (by omega) ?_ | refine aw_aaload6 dX7_keep_24 rfl (by decide) (by omega) ?_
          refine aw_aload_n dX7_keep_25 rfl ?_
          refine aw_getR (kx := 10) fl_X7_71 dX7_keep_26 rfl rfl rfl ?_
          refine aw_cV1VF (c_X6_takeFrom_73_68) lk_X7_253 dX7_keep_29 (by decide) rfl rfl (fun _ => Nat.le_of_ble_eq_true rfl) ?_
          refine aw_aload_n dX7_keep_32 rfl ?_
          refine aw_getR (kx := 10) fl_X7_71 dX7_keep_33 rfl rfl rfl ?_
          refine aw_getI (kx := 2) fl_X7_92 dX7_keep_36 rfl rfl rfl ?_
          refine aw_iretQ dX7_keep_39 rfl ?_
          rw [if_neg (by omega)]
          refine ⟨?_, hC.keep1 hV⟩
          unfold tkF_73_68; rw [am_set_c (by decide), am_set_c (by decide), am_up_c (by decide), am_up_c (by decide)]; exact e1
        · refine aw_bipush (by decide) dX7_keep_16 ?_
          refine aw_iretQ dX7_keep_18 rfl ?_
          rw [if_pos (by omega)]; exact ⟨rfl, hC⟩
      · omega
    · refine aw_iload_n dX7_keep_0 rfl ?_
      refine aw_cS1IF (c_X7_isNoPlace (by omega)) lk_X7_250 dX7_keep_1 (by decide) (fun _ => Nat.le_of_ble_eq_true rfl) ?_
      refine aw_ifb_eq (tgt := 9) dX7_keep_4 rfl (fun hc4 => ?_) (fun hc4 => ?_)
      · refine aw_aload_n dX7_keep_9 rfl ?_
        refine aw_cV0IF (c_X7_isUnspoken (by omega)) lk_X7_230 dX7_keep_10 (by decide) rfl rfl (fun _ => Nat.le_of_ble_eq_true rfl) ?_
        refine aw_ifb_eq (tgt := 19) dX7_keep_13 rfl (fun hc13 => ?_) (fun hc13 => ?_)
        · refine aw_aload_n dX7_keep_19 rfl ?_
          refine aw_getR (kx := 11) fl_X7_75 dX7_keep_20 rfl rfl rfl ?_
          refine aw_iload_n dX7_keep_23 rfl ?_
          first | refine aw_aaload4 dX7_keep_24 rfl (by decide) (by omega) ?_ | refine aw_aaload5 dX7_keep_24 rfl (by decide) (by omega) ?_ | refine aw_aaload6 dX7_keep_24 rfl (by decide) (by omega) ?_
          refine aw_aload_n dX7_keep_25 rfl ?_
          refine aw_getR (kx := 10) fl_X7_71 dX7_keep_26 rfl rfl rfl ?_
          refine aw_cV1VF (c_X6_takeFrom_74_68) lk_X7_253 dX7_keep_29 (by decide) rfl rfl (fun _ => Nat.le_of_ble_eq_true rfl) ?_
          refine aw_aload_n dX7_keep_32 rfl ?_
          refine aw_getR (kx := 10) fl_X7_71 dX7_keep_33 rfl rfl rfl ?_
          refine aw_getI (kx := 2) fl_X7_92 dX7_keep_36 rfl rfl rfl ?_
          refine aw_iretQ dX7_keep_39 rfl ?_
          rw [if_neg (by omega)]
          refine ⟨?_, hC.keep2 hV⟩
          unfold tkF_74_68; rw [am_set_c (by decide), am_set_c (by decide), am_up_c (by decide), am_up_c (by decide)]; exact e1
        · refine aw_bipush (by decide) dX7_keep_16 ?_
          refine aw_iretQ dX7_keep_18 rfl ?_
          rw [if_pos (by omega)]; exact ⟨rfl, hC⟩
      · omega
  · refine aw_iload_n dX7_keep_0 rfl ?_
    refine aw_cS1IF (c_X7_isNoPlace (by omega)) lk_X7_250 dX7_keep_1 (by decide) (fun _ => Nat.le_of_ble_eq_true rfl) ?_
    refine aw_ifb_eq (tgt := 9) dX7_keep_4 rfl (fun hc4 => ?_) (fun hc4 => ?_)
    · omega
    · refine aw_iconst dX7_keep_7 ?_
      refine aw_iretQ dX7_keep_8 rfl ?_
      rw [S_keep, if_pos e]; exact ⟨rfl, hC⟩
theorem c_X7_on {h g : am_H} {k : Int} (hC : CRel h g) (hV : MOK g) (hk : -2147483648 ≤ k ∧ k < 2147483648) : AMet GC mX7_on 2 [am_R 0, am_I k] h (QC (S_on g k)) := by
  refine am_start [some (am_R 0), some (am_I k)] rfl rfl (by decide) (Nat.le_of_ble_eq_true rfl) ?_
  by_cases e : 0 ≤ k ∧ k ≤ 2
  · rw [S_on, if_neg (by omega)]
    have hm := hV.k k (by omega) (by omega)
    have hkc := hC.kc hV (k := k) (by omega) (by omega)
    have hcs : k = 0 ∨ k = 1 ∨ k = 2 := by omega
    rcases hcs with q | q | q <;> subst q
    · refine aw_iload_n dX7_on_0 rfl ?_
      refine aw_cS1IF (c_X7_isNoPlace (by omega)) lk_X7_250 dX7_on_1 (by decide) (fun _ => Nat.le_of_ble_eq_true rfl) ?_
      refine aw_ifb_eq (tgt := 9) dX7_on_4 rfl (fun hc4 => ?_) (fun hc4 => ?_)
      · refine aw_aload_n dX7_on_9 rfl ?_
        refine aw_getR (kx := 11) fl_X7_75 dX7_on_10 rfl rfl rfl ?_
        refine aw_iload_n dX7_on_13 rfl ?_
        first | refine aw_aaload4 dX7_on_14 rfl (by decide) (by omega) ?_ | refine aw_aaload5 dX7_on_14 rfl (by decide) (by omega) ?_ | refine aw_aaload6 dX7_on_14 rfl (by decide) (by omega) ?_
        refine aw_getI (kx := 2) fl_X7_92 dX7_on_15 rfl rfl rfl ?_
        refine aw_if_ge (tgt := 27) dX7_on_18 rfl (by omega) (fun hc18 => ?_) (fun hc18 => ?_)
        · refine aw_aload_n dX7_on_27 rfl ?_
          refine aw_getR (kx := 10) fl_X7_71 dX7_on_28 rfl rfl rfl ?_
          refine aw_aload_n dX7_on_31 rfl ?_
          refine aw_getR (kx := 11) fl_X7_75 dX7_on_32 rfl rfl rfl ?_
          refine aw_iload_n dX7_on_35 rfl ?_
          first | refine aw_aaload4 dX7_on_36 rfl (by decide) (by omega) ?_ | refine aw_aaload5 dX7_on_36 rfl (by decide) (by omega) ?_ | refine aw_aaload6 dX7_on_36 rfl (by decide) (by omega) ?_
          refine aw_cV1VF (c_X6_takeFrom_68_72) lk_X7_253 dX7_on_37 (by decide) rfl rfl (fun _ => Nat.le_of_ble_eq_true rfl) ?_
          refine aw_aload_n dX7_on_40 rfl ?_
          refine aw_getR (kx := 10) fl_X7_71 dX7_on_41 rfl rfl rfl ?_
          refine aw_getI (kx := 2) fl_X7_92 dX7_on_44 rfl rfl rfl ?_
          refine aw_iretQ dX7_on_47 rfl ?_
          rw [if_neg (by omega)]
          refine ⟨?_, hC.on0 hV (by omega)⟩
          unfold tkF_68_72; rw [am_set_i (by decide), am_set_s]; exact ((hC.k 0 (by decide) (by decide)).2 (by omega)).1
        · refine aw_aload_n dX7_on_21 rfl ?_
          refine aw_iconst dX7_on_22 ?_
          refine aw_cV1IF (c_X7_found (by omega)) lk_X7_100 dX7_on_23 (by decide) rfl rfl (fun _ => Nat.le_of_ble_eq_true rfl) ?_
          refine aw_iretQ dX7_on_26 rfl ?_
          rw [if_pos (by omega)]; exact ⟨rfl, hC.found hV.s (by decide)⟩
      · omega
    · refine aw_iload_n dX7_on_0 rfl ?_
      refine aw_cS1IF (c_X7_isNoPlace (by omega)) lk_X7_250 dX7_on_1 (by decide) (fun _ => Nat.le_of_ble_eq_true rfl) ?_
      refine aw_ifb_eq (tgt := 9) dX7_on_4 rfl (fun hc4 => ?_) (fun hc4 => ?_)
      · refine aw_aload_n dX7_on_9 rfl ?_
        refine aw_getR (kx := 11) fl_X7_75 dX7_on_10 rfl rfl rfl ?_
        refine aw_iload_n dX7_on_13 rfl ?_
        first | refine aw_aaload4 dX7_on_14 rfl (by decide) (by omega) ?_ | refine aw_aaload5 dX7_on_14 rfl (by decide) (by omega) ?_ | refine aw_aaload6 dX7_on_14 rfl (by decide) (by omega) ?_
        refine aw_getI (kx := 2) fl_X7_92 dX7_on_15 rfl rfl rfl ?_
        refine aw_if_ge (tgt := 27) dX7_on_18 rfl (by omega) (fun hc18 => ?_) (fun hc18 => ?_)
        · refine aw_aload_n dX7_on_27 rfl ?_
          refine aw_getR (kx := 10) fl_X7_71 dX7_on_28 rfl rfl rfl ?_
          refine aw_aload_n dX7_on_31 rfl ?_
          refine aw_getR (kx := 11) fl_X7_75 dX7_on_32 rfl rfl rfl ?_
          refine aw_iload_n dX7_on_35 rfl ?_
          first | refine aw_aaload4 dX7_on_36 rfl (by decide) (by omega) ?_ | refine aw_aaload5 dX7_on_36 rfl (by decide) (by omega) ?_ | refine aw_aaload6 dX7_on_36 rfl (by decide) (by omega) ?_
          refine aw_cV1VF (c_X6_takeFrom_68_73) lk_X7_253 dX7_on_37 (by decide) rfl rfl (fun _ => Nat.le_of_ble_eq_true rfl) ?_
          refine aw_aload_n dX7_on_40 rfl ?_
          refine aw_getR (kx := 10) fl_X7_71 dX7_on_41 rfl rfl rfl ?_
          refine aw_getI (kx := 2) fl_X7_92 dX7_on_44 rfl rfl rfl ?_
          refine aw_iretQ dX7_on_47 rfl ?_
          rw [if_neg (by omega)]
          refine ⟨?_, hC.on1 hV (by omega)⟩
          unfold tkF_68_73; rw [am_set_i (by decide), am_set_s]; exact ((hC.k 1 (by decide) (by decide)).2 (by omega)).1
        · refine aw_aload_n dX7_on_21 rfl ?_
          refine aw_iconst dX7_on_22 ?_
          refine aw_cV1IF (c_X7_found (by omega)) lk_X7_100 dX7_on_23 (by decide) rfl rfl (fun _ => Nat.le_of_ble_eq_true rfl) ?_
          refine aw_iretQ dX7_on_26 rfl ?_
          rw [if_pos (by omega)]; exact ⟨rfl, hC.found hV.s (by decide)⟩
      · omega
    · refine aw_iload_n dX7_on_0 rfl ?_
      refine aw_cS1IF (c_X7_isNoPlace (by omega)) lk_X7_250 dX7_on_1 (by decide) (fun _ => Nat.le_of_ble_eq_true rfl) ?_
      refine aw_ifb_eq (tgt := 9) dX7_on_4 rfl (fun hc4 => ?_) (fun hc4 => ?_)
      · refine aw_aload_n dX7_on_9 rfl ?_
        refine aw_getR (kx := 11) fl_X7_75 dX7_on_10 rfl rfl rfl ?_
        refine aw_iload_n dX7_on_13 rfl ?_
        first | refine aw_aaload4 dX7_on_14 rfl (by decide) (by omega) ?_ | refine aw_aaload5 dX7_on_14 rfl (by decide) (by omega) ?_ | refine aw_aaload6 dX7_on_14 rfl (by decide) (by omega) ?_
        refine aw_getI (kx := 2) fl_X7_92 dX7_on_15 rfl rfl rfl ?_
        refine aw_if_ge (tgt := 27) dX7_on_18 rfl (by omega) (fun hc18 => ?_) (fun hc18 => ?_)
        · refine aw_aload_n dX7_on_27 rfl ?_
          refine aw_getR (kx := 10) fl_X7_71 dX7_on_28 rfl rfl rfl ?_
          refine aw_aload_n dX7_on_31 rfl ?_
          refine aw_getR (kx := 11) fl_X7_75 dX7_on_32 rfl rfl rfl ?_
          refine aw_iload_n dX7_on_35 rfl ?_
          first | refine aw_aaload4 dX7_on_36 rfl (by decide) (by omega) ?_ | refine aw_aaload5 dX7_on_36 rfl (by decide) (by omega) ?_ | refine aw_aaload6 dX7_on_36 rfl (by decide) (by omega) ?_
          refine aw_cV1VF (c_X6_takeFrom_68_74) lk_X7_253 dX7_on_37 (by decide) rfl rfl (fun _ => Nat.le_of_ble_eq_true rfl) ?_
          refine aw_aload_n dX7_on_40 rfl ?_
          refine aw_getR (kx := 10) fl_X7_71 dX7_on_41 rfl rfl rfl ?_
          refine aw_getI (kx := 2) fl_X7_92 dX7_on_44 rfl rfl rfl ?_
          refine aw_iretQ dX7_on_47 rfl ?_
          rw [if_neg (by omega)]
          refine ⟨?_, hC.on2 hV (by omega)⟩
          unfold tkF_68_74; rw [am_set_i (by decide), am_set_s]; exact ((hC.k 2 (by decide) (by decide)).2 (by omega)).1
        · refine aw_aload_n dX7_on_21 rfl ?_
          refine aw_iconst dX7_on_22 ?_
          refine aw_cV1IF (c_X7_found (by omega)) lk_X7_100 dX7_on_23 (by decide) rfl rfl (fun _ => Nat.le_of_ble_eq_true rfl) ?_
          refine aw_iretQ dX7_on_26 rfl ?_
          rw [if_pos (by omega)]; exact ⟨rfl, hC.found hV.s (by decide)⟩
      · omega
  · refine aw_iload_n dX7_on_0 rfl ?_
    refine aw_cS1IF (c_X7_isNoPlace (by omega)) lk_X7_250 dX7_on_1 (by decide) (fun _ => Nat.le_of_ble_eq_true rfl) ?_
    refine aw_ifb_eq (tgt := 9) dX7_on_4 rfl (fun hc4 => ?_) (fun hc4 => ?_)
    · omega
    · refine aw_iconst dX7_on_7 ?_
      refine aw_iretQ dX7_on_8 rfl ?_
      rw [S_on, if_pos e]; exact ⟨rfl, hC⟩
