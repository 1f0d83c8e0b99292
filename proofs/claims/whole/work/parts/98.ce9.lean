theorem lp_X7_lots {n seed : Int} (hn : 1 ≤ n ∧ n ≤ 8) : ∀ (m i : Nat) (h g : am_H) (lot : Int) (x7 x8 : Option am_V), (i : Int) ≤ n → n - i < m → CRel h g → MVs g → MVy g → VS (g 0 19) → ¬ g 0 6 = 0 → (0 ≤ lot ∧ lot ≤ 2147483646) → AW GC mX7_lots 5 (QC (ltR (n - i).toNat g lot i)) 46 [some (am_R 0), some (am_I n), some (am_I seed), some (am_J lot), none, some (am_I i), some (am_I i), x7, x8] [] h := by
  intro m
  induction m with
  | zero => intro i h g lot x7 x8 h1 h2; omega
  | succ m ih =>
    intro i h g lot x7 x8 h1 h2 hC hs hy hd h0 hlot
    have hnn := hs.1
    have hww := hs.2.1
    have hnow := now_rng hs hy
    have hsx := hC.s.1.2.1 (nowF g) (by omega) (by omega)
    have hd4 : dgF g (nowF g) ≤ 4 := hs.2.2.2.2.2.2.1 _
    have hd0 : 0 ≤ dgF g (nowF g) := (cntF_rng _ _ _).1
    by_cases hi : (i : Int) < n
    · have ef : (n - i).toNat = (n - (i + 1 : Nat)).toNat + 1 := by omega
      rw [ef, ltR]
      by_cases e : dgF g (nowF g) = 0
      · rw [if_pos e]
        refine aw_iload dX7_lots_46 rfl ?_
        refine aw_iload_n dX7_lots_48 rfl ?_
        refine aw_icmp_ge (tgt := 123) dX7_lots_49 rfl (by omega) (by omega) (fun hc49 => ?_) (fun hc49 => ?_)
        · omega
        · refine aw_aload_n dX7_lots_52 rfl ?_
          refine aw_cV0IF (c_X7_nodeNow hs hy hC.s.1 hC.y) lk_X7_197 dX7_lots_53 (by decide) rfl rfl (fun _ => Nat.le_of_ble_eq_true rfl) ?_
          refine aw_istore7 dX7_lots_56 (by decide) rfl ?_
          refine aw_aload_n dX7_lots_58 rfl ?_
          refine aw_getR (kx := 4) fl_X7_29 dX7_lots_59 rfl rfl rfl ?_
          refine aw_getR (kx := 5) fl_X7_285 dX7_lots_62 rfl rfl rfl ?_
          refine aw_iload dX7_lots_65 rfl ?_
          refine aw_iaload dX7_lots_67 rfl (by decide) (by omega) ?_
          refine aw_top hsx.2.2 ?_
          refine aw_istore8 dX7_lots_68 (by decide) rfl ?_
          refine aw_iload dX7_lots_70 rfl ?_
          refine aw_if_ne (tgt := 78) dX7_lots_72 rfl (by omega) (fun hc72 => ?_) (fun hc72 => ?_)
          · omega
          · refine aw_goto (tgt := 123) dX7_lots_75 rfl ?_
            refine aw_iload dX7_lots_123 rfl ?_
            refine aw_iretQ dX7_lots_125 rfl ?_
            exact qc_mk rfl hC
      · rw [if_neg e]
        have hl1 : 0 ≤ ltN lot ∧ ltN lot < 2147483647 := tmod_in (by omega) (by decide)
        have hl2 : 0 ≤ (ltN lot).tmod (dgF g (nowF g)) ∧ (ltN lot).tmod (dgF g (nowF g)) < dgF g (nowF g) := tmod_in hl1.1 (by omega)
        obtain ⟨w, w1, w2, w3, w4⟩ := sp_at hs hC.s.1 (x := nowF g) ⟨by omega, by omega⟩ (j := ((ltN lot).tmod (dgF g (nowF g))).toNat) (by omega)
        have ew : ltW g lot = w := by unfold ltW; rw [List.getD_eq_getElem?_getD, w1]; rfl
        rw [show ((((ltN lot).tmod (dgF g (nowF g))).toNat : Nat) : Int) = (ltN lot).tmod (dgF g (nowF g)) by omega] at w2
        have hlt := say_lt hs hy w3 w4
        have e1 : h 68 2 = g 0 18 := hC.y.1
        have hm := hy.1
        rw [ew]
        have el : (48271 * lot).tmod 2147483647 = ltN lot := by unfold ltN; rw [Int.mul_comm]
        refine aw_iload dX7_lots_46 rfl ?_
        refine aw_iload_n dX7_lots_48 rfl ?_
        refine aw_icmp_ge (tgt := 123) dX7_lots_49 rfl (by omega) (by omega) (fun hc49 => ?_) (fun hc49 => ?_)
        · omega
        · refine aw_aload_n dX7_lots_52 rfl ?_
          refine aw_cV0IF (c_X7_nodeNow hs hy hC.s.1 hC.y) lk_X7_197 dX7_lots_53 (by decide) rfl rfl (fun _ => Nat.le_of_ble_eq_true rfl) ?_
          refine aw_istore7 dX7_lots_56 (by decide) rfl ?_
          refine aw_aload_n dX7_lots_58 rfl ?_
          refine aw_getR (kx := 4) fl_X7_29 dX7_lots_59 rfl rfl rfl ?_
          refine aw_getR (kx := 5) fl_X7_285 dX7_lots_62 rfl rfl rfl ?_
          refine aw_iload dX7_lots_65 rfl ?_
          refine aw_iaload dX7_lots_67 rfl (by decide) (by omega) ?_
          refine aw_top hsx.2.2 ?_
          refine aw_istore8 dX7_lots_68 (by decide) rfl ?_
          refine aw_iload dX7_lots_70 rfl ?_
          refine aw_if_ne (tgt := 78) dX7_lots_72 rfl (by omega) (fun hc72 => ?_) (fun hc72 => ?_)
          · refine aw_ldc2 (n := 48271) kj_X7_357 rfl dX7_lots_78 ?_
            refine aw_lload_n dX7_lots_81 rfl ?_
            refine aw_lmul dX7_lots_82 ?_
            refine aw_ldc2 (n := 2147483647) kj_X7_355 rfl dX7_lots_83 ?_
            refine aw_lrem (by omega) (by omega) dX7_lots_86 ?_
            refine aw_topJ el ?_
            refine aw_lstore_3 dX7_lots_87 (by decide) rfl ?_
            refine aw_aload_n dX7_lots_88 rfl ?_
            refine aw_getR (kx := 10) fl_X7_71 dX7_lots_89 rfl rfl rfl ?_
            refine aw_aload_n dX7_lots_92 rfl ?_
            refine aw_getR (kx := 4) fl_X7_29 dX7_lots_93 rfl rfl rfl ?_
            refine aw_iload dX7_lots_96 rfl ?_
            refine aw_lload_n dX7_lots_98 rfl ?_
            refine aw_iload dX7_lots_99 rfl ?_
            refine aw_i2l (by omega) dX7_lots_101 ?_
            refine aw_lrem (by omega) (by omega) dX7_lots_102 ?_
            refine aw_l2i dX7_lots_103 ?_
            refine aw_cV2IF (c_X5_wordAt (by omega)) lk_X7_291 dX7_lots_104 (by decide) rfl rfl (fun _ => Nat.le_of_ble_eq_true rfl) ?_
            refine aw_top w2 ?_
            refine aw_aload_n dX7_lots_107 rfl ?_
            refine aw_getR (kx := 4) fl_X7_29 dX7_lots_108 rfl rfl rfl ?_
            refine aw_cV2VF (c_X6_goOn hs hC.s.1 w3 (by omega)) lk_X7_200 dX7_lots_111 (by decide) rfl rfl (fun _ => Nat.le_of_ble_eq_true rfl) ?_
            refine aw_iinc5 dX7_lots_114 (by decide) rfl ?_
            refine aw_iinc6 dX7_lots_117 (by decide) rfl ?_
            refine aw_goto (tgt := 46) dX7_lots_120 rfl ?_
            refine ih (i + 1) _ (sayF g w) (ltN lot) _ _ (by omega) (by omega) (hC.say hs hd) (say_vs hs) (say_vy hs hy w3 w4) (by rw [say_t]; exact vs_gon hd) (by rw [say_0 (by decide) (by decide)]; exact h0) (by omega)
          · omega
    · rw [show (n - i).toNat = 0 by omega, ltR]
      refine aw_iload dX7_lots_46 rfl ?_
      refine aw_iload_n dX7_lots_48 rfl ?_
      refine aw_icmp_ge (tgt := 123) dX7_lots_49 rfl (by omega) (by omega) (fun hc49 => ?_) (fun hc49 => ?_)
      · refine aw_iload dX7_lots_123 rfl ?_
        refine aw_iretQ dX7_lots_125 rfl ?_
        exact qc_mk rfl hC
      · omega
theorem c_X7_lots {h g : am_H} {n seed : Int} (hC : CRel h g) (hV : MOK g) (hn : -2147483648 ≤ n ∧ n < 2147483648) (hsd : -2147483648 ≤ seed ∧ seed < 2147483648) : AMet GC mX7_lots 5 [am_R 0, am_I n, am_I seed] h (QC (S_lots g n seed)) := by
  have hnd := hC.nn.1
  have hnn := hV.s.1
  refine am_start [some (am_R 0), some (am_I n), some (am_I seed), none, none, none, none, none, none] rfl rfl (by decide) (Nat.le_of_ble_eq_true rfl) ?_
  refine aw_iload_n dX7_lots_0 rfl ?_
  refine aw_iconst dX7_lots_1 ?_
  refine aw_icmp_lt (tgt := 25) dX7_lots_2 rfl (by omega) (by omega) (fun hc2 => ?_) (fun hc2 => ?_)
  · refine aw_iconst dX7_lots_25 ?_
    refine aw_iretQ dX7_lots_26 rfl ?_
    rw [S_lots, if_pos (by omega)]; exact qc_mk rfl hC
  · refine aw_iload_n dX7_lots_5 rfl ?_
    refine aw_bipush (by decide) dX7_lots_6 ?_
    refine aw_icmp_gt (tgt := 25) dX7_lots_8 rfl (by omega) (by omega) (fun hc8 => ?_) (fun hc8 => ?_)
    · refine aw_iconst dX7_lots_25 ?_
      refine aw_iretQ dX7_lots_26 rfl ?_
      rw [S_lots, if_pos (by omega)]; exact qc_mk rfl hC
    · refine aw_iload_n dX7_lots_11 rfl ?_
      refine aw_iconst dX7_lots_12 ?_
      refine aw_icmp_lt (tgt := 25) dX7_lots_13 rfl (by omega) (by omega) (fun hc13 => ?_) (fun hc13 => ?_)
      · refine aw_iconst dX7_lots_25 ?_
        refine aw_iretQ dX7_lots_26 rfl ?_
        rw [S_lots, if_pos (by omega)]; exact qc_mk rfl hC
      · refine aw_iload_n dX7_lots_16 rfl ?_
        refine aw_i2l (by omega) dX7_lots_17 ?_
        refine aw_ldc2 (n := 2147483647) kj_X7_355 rfl dX7_lots_18 ?_
        refine aw_lif_lt (tgt := 27) dX7_lots_21 dX7_lots_22 rfl (by omega) (by omega) (fun hc21 => ?_) (fun hc21 => ?_)
        · refine aw_aload_n dX7_lots_27 rfl ?_
          refine aw_cV0IF (c_X7_isUnspoken (by omega)) lk_X7_230 dX7_lots_28 (by decide) rfl rfl (fun _ => Nat.le_of_ble_eq_true rfl) ?_
          refine aw_ifb_eq (tgt := 37) dX7_lots_31 rfl (fun hc31 => ?_) (fun hc31 => ?_)
          · refine aw_iload_n dX7_lots_37 rfl ?_
            refine aw_i2l (by omega) dX7_lots_38 ?_
            refine aw_lstore_3 dX7_lots_39 (by decide) rfl ?_
            refine aw_iconst dX7_lots_40 ?_
            refine aw_istore5 dX7_lots_41 (by decide) rfl ?_
            refine aw_iconst dX7_lots_43 ?_
            refine aw_istore6 dX7_lots_44 (by decide) rfl ?_
            rw [S_lots, if_neg (by omega), if_neg (by omega)]
            have := lp_X7_lots (n := n) (seed := seed) (by omega) 10 0 h g seed none none (by omega) (by omega) hC hV.s hV.y hV.d.1 (by omega) (by omega)
            rw [show (n - ((0 : Nat) : Int)).toNat = n.toNat by omega] at this
            exact this
          · refine aw_bipush (by decide) dX7_lots_34 ?_
            refine aw_iretQ dX7_lots_36 rfl ?_
            rw [S_lots, if_neg (by omega), if_pos (by omega)]; exact qc_mk rfl hC
        · refine aw_iconst dX7_lots_25 ?_
          refine aw_iretQ dX7_lots_26 rfl ?_
          rw [S_lots, if_pos (by omega)]; exact qc_mk rfl hC
theorem tx_f {h g : am_H} {t : Int} (hC : CRel h g) (hV : MOK g) (ht : 0 ≤ t ∧ t ≤ 3) : ∀ j : Int, 0 ≤ j → j < 80 → h (10 + t) j = (fun j => g 4 (80 * t + j)) j ∧ -128 ≤ (fun j => g 4 (80 * t + j)) j ∧ (fun j => g 4 (80 * t + j)) j < 128 := fun j a b => ⟨hC.t.1 t j ht.1 ht.2 a b, hV.t.2 _⟩
theorem c_X7_fault {h g : am_H} {t : Int} (hC : CRel h g) (hV : MOK g) (hr : -2147483648 ≤ t ∧ t < 2147483648) : AMet GC mX7_fault 7 [am_R 0, am_I t] h (QC (S_fault g t)) := by
  have hlr := trS_rng g t
  have h1 : ¬ (trS g t).1 = 0 → S_fault g t = trS g t := by
    intro z
    unfold trS at z ⊢
    unfold S_fault
    by_cases e : ¬ (0 ≤ t ∧ t ≤ 3)
    · rw [if_pos e, if_pos e]
    · rw [if_neg e] at z
      rw [if_neg e, if_neg e]
      by_cases e2 : g 3 t < 0
      · rw [if_pos e2, if_pos e2]
      · rw [if_neg e2] at z; exact absurd rfl z
  refine am_start [some (am_R 0), some (am_I t), none] rfl rfl (by decide) (Nat.le_of_ble_eq_true rfl) ?_
  refine aw_aload_n dX7_fault_0 rfl ?_
  refine aw_iload_n dX7_fault_1 rfl ?_
  refine aw_cV1I (c_X7_textRefusalC hC hV (by omega)) lk_X7_134 dX7_fault_2 (by decide) rfl rfl (fun _ => Nat.le_of_ble_eq_true rfl) (fun v2 h2 q2 => ?_)
  refine aw_istore_2 dX7_fault_5 (by decide) rfl ?_
  refine aw_iload_n dX7_fault_6 rfl ?_
  refine aw_if_eq (tgt := 14) dX7_fault_7 rfl (by omega) (fun hc7 => ?_) (fun hc7 => ?_)
  · obtain ⟨k1, k2, k3⟩ := trS_0 (g := g) (r := t) (by omega)
    have q2c := q2.2
    rw [k3] at q2c
    have hz6 := hV.t.1 t k1.1 k1.2
    refine aw_aload_n dX7_fault_14 rfl ?_
    refine aw_getR (kx := 6) fl_X7_41 dX7_fault_15 rfl rfl rfl ?_
    refine aw_aload_n dX7_fault_18 rfl ?_
    refine aw_getR (kx := 2) fl_X7_20 dX7_fault_19 rfl rfl rfl ?_
    refine aw_iload_n dX7_fault_22 rfl ?_
    first | refine aw_aaload4 dX7_fault_23 rfl (by decide) (by omega) ?_ | refine aw_aaload5 dX7_fault_23 rfl (by decide) (by omega) ?_ | refine aw_aaload6 dX7_fault_23 rfl (by decide) (by omega) ?_
    refine aw_aload_n dX7_fault_24 rfl ?_
    refine aw_getR (kx := 3) fl_X7_23 dX7_fault_25 rfl rfl rfl ?_
    refine aw_iload_n dX7_fault_28 rfl ?_
    refine aw_iaload dX7_fault_29 rfl (by decide) (by omega) ?_
    refine aw_top (q2c.t.2 t k1.1 k1.2) ?_
    refine aw_aload_n dX7_fault_30 rfl ?_
    refine aw_getR (kx := 5) fl_X7_33 dX7_fault_31 rfl rfl rfl ?_
    refine aw_cV3I (c_X4_faultOf_27 k1 ⟨k2, hz6.2⟩ (tx_f q2c hV k1)) lk_X7_137 dX7_fault_34 (by decide) rfl rfl (fun _ => Nat.le_of_ble_eq_true rfl) (fun v34 h34 q34 => ?_)
    refine aw_iretQ dX7_fault_37 rfl ?_
    rw [S_fault, if_neg (by omega), if_neg (by omega)]
    have C34 : CRel h34 g := q2c.ofX hV.s (fun c a => q34.2.1 c (by omega) (by omega))
    by_cases e : (pT g t).1 = true
    · rw [if_pos e]; exact qc_mk (by rw [q34.1]; exact if_pos e) C34
    · rw [if_neg e]; exact qc_mk (by rw [q34.1]; exact if_neg e) C34
  · refine aw_iload_n dX7_fault_10 rfl ?_
    refine aw_goto (tgt := 37) dX7_fault_11 rfl ?_
    refine aw_iretQ dX7_fault_37 rfl ?_
    rw [h1 (by omega)]; exact q2
theorem sp_lo {g q : am_H} : (∀ x : Int, 0 ≤ x → x < q 0 1 → spF g q 5 x = q 1 x ∧ spF g q 6 x = q 2 x) ∧ (∀ k : Int, 0 ≤ k → k < q 0 2 → spF g q 7 k = q 3 k ∧ spF g q 8 k = q 4 k ∧ spF g q 9 k = q 5 k) ∧ ∀ d : Int, 0 ≤ d → d < q 0 3 → spF g q 10 d = q 6 d ∧ spF g q 11 d = q 7 d ∧ spF g q 12 d = q 8 d ∧ spF g q 13 d = q 9 d := by
  refine ⟨fun x a b => ⟨?_, ?_⟩, fun x a b => ⟨?_, ?_, ?_⟩, fun x a b => ⟨?_, ?_, ?_, ?_⟩⟩
  all_goals (show lo _ _ _ x = _; unfold lo; rw [if_pos ⟨a, b⟩])
theorem sp_n {g q : am_H} : spF g q 0 6 = q 0 1 ∧ spF g q 0 10 = q 0 2 ∧ spF g q 0 15 = q 0 3 ∧ spF g q 0 18 = 0 ∧ spF g q 0 19 = 0 := ⟨rfl, rfl, rfl, rfl, rfl⟩
theorem sp_MVs {g q : am_H} {sz : Int} (hV : PV sz q) (hn : 1 < q 0 1) : MVs (spF g q) := by
  obtain ⟨v0, v1, v2, v3, v4, v5, v6, v7, v8, v9⟩ := hV
  obtain ⟨l1, l2, l3⟩ := sp_lo (g := g) (q := q)
  have ec : ∀ x : Int, cntF (spF g q 7) x (q 0 2).toNat = cntF (q 3) x (q 0 2).toNat := fun x => cntF_congr (fun k a b => (l2 k a (by omega)).1)
  refine ⟨v1, v2, v3, fun x a b => ?_, fun k a b => ?_, fun k j a b c => ?_, fun x => ?_, fun d a b => ?_, fun z => ?_, fun _ => ?_⟩
  · have := l1 x a b
    rw [this.1, this.2]; exact v4 x a b
  · have h1 := l2 k a b
    have h2 := v5 k a b
    have h3 := (l1 (q 3 k) h2.1.1 (by omega)).1
    rw [h1.1, h1.2.1, h1.2.2, h3]; exact h2
  · have h1 := l2 k a (show k < q 0 2 by have : j < q 0 2 := c; omega)
    have h2 := l2 j (by omega) c
    rw [h1.1, h1.2.2, h2.1, h2.2.2]; exact v6 k j a b c
  · show cntF (spF g q 7) x (q 0 2).toNat ≤ 4
    rw [ec]; exact v7 x
  · have := l3 d a b
    rw [this.1, this.2.1, this.2.2.1, this.2.2.2]; exact v8 d a b
  · have : q 0 1 = 0 := z
    omega
  · show 2 ≤ q 0 1
    omega
theorem sp_SpR {h g q : am_H} (hQ : SQ15 h q) : SpR h (spF g q) := by
  obtain ⟨l1, l2, l3⟩ := sp_lo (g := g) (q := q)
  obtain ⟨s1, s2, s3, s4, s5⟩ := hQ
  have ec : ∀ x : Int, cntF (spF g q 7) x (q 0 2).toNat = cntF (q 3) x (q 0 2).toNat := fun x => cntF_congr (fun k a b => (l2 k a (by omega)).1)
  have ew : ∀ x : Int, wl (spF g q 7) x (q 0 2).toNat = wl (q 3) x (q 0 2).toNat := fun x => wl_congr (fun k a b => (l2 k a (by omega)).1)
  refine ⟨s1, fun x a b => ?_, fun x j w a b c => ?_, fun k a b => ?_, fun d a b => ?_⟩
  · have := l1 x a b
    have h2 := s2 x a b
    rw [this.1, this.2]
    refine ⟨h2.1, h2.2.1, ?_⟩
    show h 18 x = cntF (spF g q 7) x (q 0 2).toNat
    rw [ec]; exact h2.2.2
  · have c2 : (wl (spF g q 7) x (q 0 2).toNat)[j]? = some w := c
    rw [ew] at c2
    exact s3 x j w a b c2
  · have := l2 k a b
    rw [this.1, this.2.1, this.2.2]; exact s4 k a b
  · have := l3 d a b
    rw [this.1, this.2.1, this.2.2.1, this.2.2.2]; exact s5 d a b
