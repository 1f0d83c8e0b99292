theorem lp_X7_there {h : am_H} {c b : Int} {len : Nat} (hk : am_kd GC c = some (.inr (0, len, b))) (hl : len < 100) (hv : ∀ r : Int, 0 ≤ r → r < len → -2147483648 ≤ h c r ∧ h c r < 2147483648) : ∀ (m i : Nat) (x5 : Option am_V), am_nl [some (am_R c), some (am_I (thF (h c) i)), some (am_R c), some (am_I len), some (am_I i), x5] 5 = true → i ≤ len → len - i < m → AW GC mX7_there 1 (am_FI (thF (h c) len) h) 10 [some (am_R c), some (am_I (thF (h c) i)), some (am_R c), some (am_I len), some (am_I i), x5] [] h := by
  intro m
  induction m with
  | zero => intro i x5 _ h1 h2; omega
  | succ m ih =>
    intro i x5 hx h1 h2
    have hv2 := hv i
    refine aw_iload dX7_there_10 rfl ?_
    refine aw_iload_n dX7_there_12 rfl ?_
    refine aw_icmp_ge (tgt := 41) dX7_there_13 rfl (by omega) (by omega) (fun hc13 => ?_) (fun hc13 => ?_)
    · refine aw_iload_n dX7_there_41 rfl ?_
      refine aw_iretF dX7_there_42 rfl ?_
      exact ⟨by rw [show i = len by omega], rfl⟩
    · have hv3 := hv2 (by omega) (by omega)
      refine aw_aload_n dX7_there_16 rfl ?_
      refine aw_iload dX7_there_17 rfl ?_
      refine aw_iaload dX7_there_19 hk (by omega) (by omega) ?_
      refine aw_istore5 dX7_there_20 (by decide) hx ?_
      refine aw_iload_n dX7_there_22 rfl ?_
      refine aw_iload dX7_there_23 rfl ?_
      refine aw_if_lt (tgt := 32) dX7_there_25 rfl (by omega) (fun hc25 => ?_) (fun hc25 => ?_)
      · refine aw_iconst dX7_there_32 ?_
        refine aw_iadd dX7_there_33 ?_
        refine aw_istore_1 dX7_there_34 (by decide) rfl ?_
        refine aw_iinc4 dX7_there_35 (by decide) rfl ?_
        refine aw_goto (tgt := 10) dX7_there_38 rfl ?_
        refine aw_ls ?_ (ih (i + 1) (some (am_I (h c i))) rfl (by omega) (by omega)); rw [thF, if_neg (by omega)]; rfl
      · refine aw_iconst dX7_there_28 ?_
        refine aw_goto (tgt := 33) dX7_there_29 rfl ?_
        refine aw_iadd dX7_there_33 ?_
        refine aw_istore_1 dX7_there_34 (by decide) rfl ?_
        refine aw_iinc4 dX7_there_35 (by decide) rfl ?_
        refine aw_goto (tgt := 10) dX7_there_38 rfl ?_
        refine aw_ls ?_ (ih (i + 1) (some (am_I (h c i))) rfl (by omega) (by omega)); rw [thF, if_pos (by omega)]; rfl
theorem c_X7_there {h : am_H} {c b : Int} {len : Nat} (hk : am_kd GC c = some (.inr (0, len, b))) (hl : len < 100) (hv : ∀ r : Int, 0 ≤ r → r < len → -2147483648 ≤ h c r ∧ h c r < 2147483648) : AMet GC mX7_there 1 [am_R c] h (am_FI (thF (h c) len) h) := by
  refine am_start [some (am_R c), none, none, none, none, none] rfl rfl (by decide) (Nat.le_of_ble_eq_true rfl) ?_
  refine aw_iconst dX7_there_0 ?_
  refine aw_istore_1 dX7_there_1 (by decide) rfl ?_
  refine aw_aload_n dX7_there_2 rfl ?_
  refine aw_astore_2 dX7_there_3 (by decide) rfl ?_
  refine aw_aload_n dX7_there_4 rfl ?_
  refine aw_alen0 dX7_there_5 hk rfl ?_
  refine aw_istore_3 dX7_there_6 (by decide) rfl ?_
  refine aw_iconst dX7_there_7 ?_
  refine aw_istore4 dX7_there_8 (by decide) rfl ?_
  exact lp_X7_there hk hl hv _ 0 none rfl (by omega) (Nat.lt_succ_self _)
theorem thF_congr {f g : Int → Int} : ∀ n : Nat, (∀ k : Int, 0 ≤ k → k < n → f k = g k) → thF f n = thF g n
  | 0, _ => rfl
  | n + 1, h => by
    have ih := thF_congr (f := f) (g := g) n (fun k a b => h k a (by omega))
    rw [thF, thF, ih, h n (by omega) (by omega)]
theorem kdK {k : Int} (h0 : 0 ≤ k) (h1 : k < 3) : ∃ a b : Int, am_kd GC (72 + k) = some (.inl (5, [(2, a), (2, b), (0, 0), (0, 0)])) := by
  have : k = 0 ∨ k = 1 ∨ k = 2 := by omega
  rcases this with q | q | q <;> subst q <;> exact ⟨_, _, rfl⟩
theorem CRel.kc {h g : am_H} (hC : CRel h g) (hV : MOK g) {k : Int} (h0 : 0 ≤ k) (h1 : k ≤ 2) : h (72 + k) 2 = (if g 24 k = 0 then -1 else g 25 (18 * k + 16)) ∧ -1 ≤ h (72 + k) 2 ∧ h (72 + k) 2 ≤ 8 ∧ (0 ≤ h (72 + k) 2 ↔ g 24 k = 1) := by
  have hk := hC.k k h0 h1
  have hm := hV.k k h0 (by omega)
  rcases hm with e | e
  · have := hk.1 e
    rw [if_pos e]; omega
  · have h2 := (hk.2 e).1
    have h3 := hV.q.rng h0 (by omega) e
    rw [if_neg (by omega)]; omega
theorem lp_X7_keptPlaces {h g : am_H} (hC : CRel h g) (hV : MOK g) : ∀ (m i : Nat), (i : Int) ≤ 3 → 3 - (i : Int) < m → AW GC mX7_keptPlaces 1 (am_FI (g 24 0 + g 24 1 + g 24 2) h) 4 [some (am_R 0), some (am_I (thF (fun k => h (72 + k) 2) i)), some (am_I i)] [] h := by
  intro m
  induction m with
  | zero => intro i h1 h2; omega
  | succ m ih =>
    intro i h1 h2
    by_cases hi : (i : Int) < 3
    · obtain ⟨a, b, hk⟩ := kdK (k := i) (by omega) hi
      have hc := hC.kc hV (k := i) (by omega) (by omega)
      refine aw_iload_n dX7_keptPlaces_4 rfl ?_
      refine aw_iconst dX7_keptPlaces_5 ?_
      refine aw_icmp_ge (tgt := 35) dX7_keptPlaces_6 rfl (by omega) (by omega) (fun hc6 => ?_) (fun hc6 => ?_)
      · omega
      · refine aw_iload_n dX7_keptPlaces_9 rfl ?_
        refine aw_aload_n dX7_keptPlaces_10 rfl ?_
        refine aw_getR (kx := 11) fl_X7_75 dX7_keptPlaces_11 rfl rfl rfl ?_
        refine aw_iload_n dX7_keptPlaces_14 rfl ?_
        first | refine aw_aaload4 dX7_keptPlaces_15 rfl (by decide) (by omega) ?_ | refine aw_aaload5 dX7_keptPlaces_15 rfl (by decide) (by omega) ?_ | refine aw_aaload6 dX7_keptPlaces_15 rfl (by decide) (by omega) ?_
        refine aw_getI (kx := 2) fl_X7_92 dX7_keptPlaces_16 hk rfl rfl ?_
        refine aw_if_lt (tgt := 26) dX7_keptPlaces_19 rfl (by omega) (fun hc19 => ?_) (fun hc19 => ?_)
        · refine aw_iconst dX7_keptPlaces_26 ?_
          refine aw_iadd dX7_keptPlaces_27 ?_
          refine aw_istore_1 dX7_keptPlaces_28 (by decide) rfl ?_
          refine aw_iinc2 dX7_keptPlaces_29 (by decide) rfl ?_
          refine aw_goto (tgt := 4) dX7_keptPlaces_32 rfl ?_
          refine aw_ls ?_ (ih (i + 1) (by omega) (by omega)); rw [thF, if_neg (by omega)]; rfl
        · refine aw_iconst dX7_keptPlaces_22 ?_
          refine aw_goto (tgt := 27) dX7_keptPlaces_23 rfl ?_
          refine aw_iadd dX7_keptPlaces_27 ?_
          refine aw_istore_1 dX7_keptPlaces_28 (by decide) rfl ?_
          refine aw_iinc2 dX7_keptPlaces_29 (by decide) rfl ?_
          refine aw_goto (tgt := 4) dX7_keptPlaces_32 rfl ?_
          refine aw_ls ?_ (ih (i + 1) (by omega) (by omega)); rw [thF, if_pos (by omega)]; rfl
    · have e : i = 3 := by omega
      have c0 := hC.kc hV (k := 0) (by decide) (by decide)
      have c1 := hC.kc hV (k := 1) (by decide) (by decide)
      have c2 := hC.kc hV (k := 2) (by decide) (by decide)
      have m0 := hV.k 0 (by decide) (by decide)
      have m1 := hV.k 1 (by decide) (by decide)
      have m2 := hV.k 2 (by decide) (by decide)
      have hs : thF (fun k => h (72 + k) 2) 3 = g 24 0 + g 24 1 + g 24 2 := by
        show 0 + (if 0 ≤ h (72 + 0) 2 then 1 else 0) + (if 0 ≤ h (72 + 1) 2 then 1 else 0) + (if 0 ≤ h (72 + 2) 2 then 1 else 0) = _
        have x0 : (if 0 ≤ h (72 + 0) 2 then (1 : Int) else 0) = g 24 0 := by split <;> omega
        have x1 : (if 0 ≤ h (72 + 1) 2 then (1 : Int) else 0) = g 24 1 := by split <;> omega
        have x2 : (if 0 ≤ h (72 + 2) 2 then (1 : Int) else 0) = g 24 2 := by split <;> omega
        rw [x0, x1, x2]; omega
      refine aw_iload_n dX7_keptPlaces_4 rfl ?_
      refine aw_iconst dX7_keptPlaces_5 ?_
      refine aw_icmp_ge (tgt := 35) dX7_keptPlaces_6 rfl (by omega) (by omega) (fun hc6 => ?_) (fun hc6 => ?_)
      · refine aw_iload_n dX7_keptPlaces_35 rfl ?_
        refine aw_iretF dX7_keptPlaces_36 rfl ?_
        exact ⟨by rw [e]; exact hs, rfl⟩
      · omega
theorem c_X7_keptPlaces {h g : am_H} (hC : CRel h g) (hV : MOK g) : AMet GC mX7_keptPlaces 1 [am_R 0] h (am_FI (g 24 0 + g 24 1 + g 24 2) h) := by
  refine am_start [some (am_R 0), none, none] rfl rfl (by decide) (Nat.le_of_ble_eq_true rfl) ?_
  refine aw_iconst dX7_keptPlaces_0 ?_
  refine aw_istore_1 dX7_keptPlaces_1 (by decide) rfl ?_
  refine aw_iconst dX7_keptPlaces_2 ?_
  refine aw_istore_2 dX7_keptPlaces_3 (by decide) rfl ?_
  exact lp_X7_keptPlaces hC hV 5 0 (by omega) (by omega)
theorem dn_all {of : Int} {n : Nat} (hn : n ≤ 4) (h : ∀ d : Int, (n : Int) ≤ d → d < 4 → hw of d = 0) : dnF of 4 = dnF of n := by
  have key : ∀ j : Nat, n + j ≤ 4 → dnF of (n + j) = dnF of n := by
    intro j
    induction j with
    | zero => intro _; rfl
    | succ j ih =>
      intro hj
      show dnF of (n + j) + (if hw of ((n + j : Nat) : Int) = 2 then 1 else 0) = _
      rw [ih (by omega), if_neg (by rw [h ((n + j : Nat) : Int) (by omega) (by omega)]; decide)]; omega
  have := key (4 - n) (by omega)
  rw [show n + (4 - n) = 4 by omega] at this
  exact this
theorem c_X7_counted {h g : am_H} {w : Int} (hC : CRel h g) (hV : MOK g) (hw : 0 ≤ w ∧ w ≤ 8) : AMet GC mX7_counted 3 [am_R 0, am_I w] h (am_FI (cntV g w) h) := by
  obtain ⟨n1, n2, n3⟩ := hC.nn
  have hdd := hV.s.2.2.1
  have e1 : h 68 2 = g 0 18 := hC.y.1
  have est : h 68 3 = cv (g 0 19) := hC.y.2.1
  have d4 : dneF (cv (g 0 19)) 4 = dnF (g 0 19) (g 0 15).toNat := by
    rw [cv_dne hV.d.1 4 (by decide)]
    exact dn_all (by omega) (fun d a b => hV.d.2.2 d (by omega) b)
  have t6 : thF (h 8) 6 = thF (g 1) 6 := thF_congr 6 (fun k a b => hC.r.2 k a (by omega))
  have t4 : thF (h 14) 4 = thF (g 3) 4 := thF_congr 4 (fun k a b => hC.t.2 k a (by omega))
  refine am_start [some (am_R 0), some (am_I w)] rfl rfl (by decide) (Nat.le_of_ble_eq_true rfl) ?_
  refine aw_iload_n dX7_counted_0 rfl ?_
  by_cases hs1_a : w = 0
  · refine aw_top hs1_a ?_
    refine aw_tswIn (a := 0) (off := 47) (tgt := 48) dX7_counted_1 (by decide) (by decide) (by decide) rfl rfl ?_
    refine aw_aload_n dX7_counted_48 rfl ?_
    refine aw_getR (kx := 4) fl_X7_29 dX7_counted_49 rfl rfl rfl ?_
    refine aw_getI (kx := 0) fl_X7_150 dX7_counted_52 rfl rfl rfl ?_
    refine aw_iretF dX7_counted_55 rfl ?_
    rw [cntV, if_pos hs1_a]; exact ⟨n1, rfl⟩
  by_cases hs1_b : w = 1
  · refine aw_top hs1_b ?_
    refine aw_tswIn (a := 1) (off := 55) (tgt := 56) dX7_counted_1 (by decide) (by decide) (by decide) rfl rfl ?_
    refine aw_aload_n dX7_counted_56 rfl ?_
    refine aw_getR (kx := 4) fl_X7_29 dX7_counted_57 rfl rfl rfl ?_
    refine aw_getI (kx := 1) fl_X7_389 dX7_counted_60 rfl rfl rfl ?_
    refine aw_iretF dX7_counted_63 rfl ?_
    rw [cntV, if_neg hs1_a, if_pos hs1_b]; exact ⟨n2, rfl⟩
  by_cases hs1_c : w = 2
  · refine aw_top hs1_c ?_
    refine aw_tswIn (a := 2) (off := 63) (tgt := 64) dX7_counted_1 (by decide) (by decide) (by decide) rfl rfl ?_
    refine aw_aload_n dX7_counted_64 rfl ?_
    refine aw_getR (kx := 4) fl_X7_29 dX7_counted_65 rfl rfl rfl ?_
    refine aw_getI (kx := 2) fl_X7_392 dX7_counted_68 rfl rfl rfl ?_
    refine aw_iretF dX7_counted_71 rfl ?_
    rw [cntV, if_neg hs1_a, if_neg hs1_b, if_pos hs1_c]; exact ⟨n3, rfl⟩
  by_cases hs1_d : w = 3
  · refine aw_top hs1_d ?_
    refine aw_tswIn (a := 3) (off := 71) (tgt := 72) dX7_counted_1 (by decide) (by decide) (by decide) rfl rfl ?_
    refine aw_aload_n dX7_counted_72 rfl ?_
    refine aw_getR (kx := 10) fl_X7_71 dX7_counted_73 rfl rfl rfl ?_
    refine aw_getI (kx := 2) fl_X7_92 dX7_counted_76 rfl rfl rfl ?_
    refine aw_iretF dX7_counted_79 rfl ?_
    rw [cntV, if_neg hs1_a, if_neg hs1_b, if_neg hs1_c, if_pos hs1_d]; exact ⟨e1, rfl⟩
  by_cases hs1_e : w = 4
  · refine aw_top hs1_e ?_
    refine aw_tswIn (a := 4) (off := 79) (tgt := 80) dX7_counted_1 (by decide) (by decide) (by decide) rfl rfl ?_
    refine aw_aload_n dX7_counted_80 rfl ?_
    refine aw_getR (kx := 10) fl_X7_71 dX7_counted_81 rfl rfl rfl ?_
    refine aw_getI (kx := 3) fl_X7_207 dX7_counted_84 rfl rfl rfl ?_
    refine aw_top est ?_
    refine aw_cS1IF (c_X0_done) lk_X7_399 dX7_counted_87 (by decide) (fun _ => Nat.le_of_ble_eq_true rfl) ?_
    refine aw_iretF dX7_counted_90 rfl ?_
    rw [cntV, if_neg hs1_a, if_neg hs1_b, if_neg hs1_c, if_neg hs1_d, if_pos hs1_e]; exact ⟨d4, rfl⟩
  by_cases hs1_f : w = 5
  · refine aw_top hs1_f ?_
    refine aw_tswIn (a := 5) (off := 90) (tgt := 91) dX7_counted_1 (by decide) (by decide) (by decide) rfl rfl ?_
    refine aw_aload_n dX7_counted_91 rfl ?_
    refine aw_getR (kx := 4) fl_X7_29 dX7_counted_92 rfl rfl rfl ?_
    refine aw_cV0IF (c_X5_ends hV.s hC.s.1) lk_X7_402 dX7_counted_95 (by decide) rfl rfl (fun _ => Nat.le_of_ble_eq_true rfl) ?_
    refine aw_iretF dX7_counted_98 rfl ?_
    rw [cntV, if_neg hs1_a, if_neg hs1_b, if_neg hs1_c, if_neg hs1_d, if_neg hs1_e, if_pos hs1_f]; exact ⟨rfl, rfl⟩
  by_cases hs1_g : w = 6
  · refine aw_top hs1_g ?_
    refine aw_tswIn (a := 6) (off := 98) (tgt := 99) dX7_counted_1 (by decide) (by decide) (by decide) rfl rfl ?_
    refine aw_aload_n dX7_counted_99 rfl ?_
    refine aw_getR (kx := 1) fl_X7_14 dX7_counted_100 rfl rfl rfl ?_
    refine aw_cS1IF (c_X7_there (c := 8) (len := 6) rfl (by decide) (fun r a b => by have := hC.hz hV r a (by omega); omega)) lk_X7_405 dX7_counted_103 (by decide) (fun _ => Nat.le_of_ble_eq_true rfl) ?_
    refine aw_iretF dX7_counted_106 rfl ?_
    rw [cntV, if_neg hs1_a, if_neg hs1_b, if_neg hs1_c, if_neg hs1_d, if_neg hs1_e, if_neg hs1_f, if_pos hs1_g]; exact ⟨t6, rfl⟩
  by_cases hs1_h : w = 7
  · refine aw_top hs1_h ?_
    refine aw_tswIn (a := 7) (off := 106) (tgt := 107) dX7_counted_1 (by decide) (by decide) (by decide) rfl rfl ?_
    refine aw_aload_n dX7_counted_107 rfl ?_
    refine aw_getR (kx := 3) fl_X7_23 dX7_counted_108 rfl rfl rfl ?_
    refine aw_cS1IF (c_X7_there (c := 14) (len := 4) rfl (by decide) (fun r a b => by have := hC.tz hV r a (by omega); omega)) lk_X7_405 dX7_counted_111 (by decide) (fun _ => Nat.le_of_ble_eq_true rfl) ?_
    refine aw_iretF dX7_counted_114 rfl ?_
    rw [cntV, if_neg hs1_a, if_neg hs1_b, if_neg hs1_c, if_neg hs1_d, if_neg hs1_e, if_neg hs1_f, if_neg hs1_g, if_pos hs1_h]; exact ⟨t4, rfl⟩
  refine aw_tswOut (tgt := 115) dX7_counted_1 (by omega) (by omega) rfl ?_
  refine aw_aload_n dX7_counted_115 rfl ?_
  refine aw_cV0IF (c_X7_keptPlaces hC hV) lk_X7_409 dX7_counted_116 (by decide) rfl rfl (fun _ => Nat.le_of_ble_eq_true rfl) ?_
  refine aw_iretF dX7_counted_119 rfl ?_
  rw [cntV, if_neg hs1_a, if_neg hs1_b, if_neg hs1_c, if_neg hs1_d, if_neg hs1_e, if_neg hs1_f, if_neg hs1_g, if_neg hs1_h, if_pos (by omega)]; exact ⟨rfl, rfl⟩
theorem c_X7_nodeTells {h g : am_H} {x w : Int} (hC : CRel h g) (hV : MOK g) (hx : 0 ≤ x ∧ x < g 0 6) (hw : 0 ≤ w ∧ w ≤ 3) : AMet GC mX7_nodeTells 3 [am_R 0, am_I x, am_I w] h (am_FI (nodeV g x w) h) := by
  have hnn := hV.s.1
  have hs := hC.s.1.2.1 x hx.1 hx.2
  have ho := (hC.s.2 (by omega)).1 x hx.1 hx.2
  refine am_start [some (am_R 0), some (am_I x), some (am_I w)] rfl rfl (by decide) (Nat.le_of_ble_eq_true rfl) ?_
  refine aw_iload_n dX7_nodeTells_0 rfl ?_
  by_cases hs1_a : w = 0
  · refine aw_top hs1_a ?_
    refine aw_tswIn (a := 0) (off := 27) (tgt := 28) dX7_nodeTells_1 (by decide) (by decide) (by decide) rfl rfl ?_
    refine aw_aload_n dX7_nodeTells_28 rfl ?_
    refine aw_getR (kx := 4) fl_X7_29 dX7_nodeTells_29 rfl rfl rfl ?_
    refine aw_getR (kx := 3) fl_X7_309 dX7_nodeTells_32 rfl rfl rfl ?_
    refine aw_iload_n dX7_nodeTells_35 rfl ?_
    refine aw_iaload dX7_nodeTells_36 rfl (by decide) (by omega) ?_
    refine aw_iretF dX7_nodeTells_37 rfl ?_
    rw [nodeV, if_pos hs1_a]; exact ⟨hs.1, rfl⟩
  by_cases hs1_b : w = 1
  · refine aw_top hs1_b ?_
    refine aw_tswIn (a := 1) (off := 37) (tgt := 38) dX7_nodeTells_1 (by decide) (by decide) (by decide) rfl rfl ?_
    refine aw_aload_n dX7_nodeTells_38 rfl ?_
    refine aw_getR (kx := 4) fl_X7_29 dX7_nodeTells_39 rfl rfl rfl ?_
    refine aw_iload_n dX7_nodeTells_42 rfl ?_
    refine aw_cV1IF (c_X5_wordBits hV.s hC.s.1 hx) lk_X7_412 dX7_nodeTells_43 (by decide) rfl rfl (fun _ => Nat.le_of_ble_eq_true rfl) ?_
    refine aw_iretF dX7_nodeTells_46 rfl ?_
    rw [nodeV, if_neg hs1_a, if_pos hs1_b]; exact ⟨rfl, rfl⟩
  by_cases hs1_c : w = 2
  · refine aw_top hs1_c ?_
    refine aw_tswIn (a := 2) (off := 46) (tgt := 47) dX7_nodeTells_1 (by decide) (by decide) (by decide) rfl rfl ?_
    refine aw_aload_n dX7_nodeTells_47 rfl ?_
    refine aw_getR (kx := 7) fl_X7_48 dX7_nodeTells_48 rfl rfl rfl ?_
    refine aw_getR (kx := 0) fl_X7_267 dX7_nodeTells_51 rfl rfl rfl ?_
    refine aw_iload_n dX7_nodeTells_54 rfl ?_
    refine aw_iaload dX7_nodeTells_55 rfl (by decide) (by omega) ?_
    refine aw_iretF dX7_nodeTells_56 rfl ?_
    rw [nodeV, if_neg hs1_a, if_neg hs1_b, if_pos hs1_c]; exact ⟨ho.1, rfl⟩
  refine aw_tswOut (tgt := 57) dX7_nodeTells_1 (by omega) (by omega) rfl ?_
  refine aw_aload_n dX7_nodeTells_57 rfl ?_
  refine aw_getR (kx := 7) fl_X7_48 dX7_nodeTells_58 rfl rfl rfl ?_
  refine aw_getR (kx := 1) fl_X7_415 dX7_nodeTells_61 rfl rfl rfl ?_
  refine aw_iload_n dX7_nodeTells_64 rfl ?_
  refine aw_iaload dX7_nodeTells_65 rfl (by decide) (by omega) ?_
  refine aw_iretF dX7_nodeTells_66 rfl ?_
  rw [nodeV, if_neg hs1_a, if_neg hs1_b, if_neg hs1_c]; exact ⟨ho.2.1, rfl⟩
theorem c_X7_wordTells {h g : am_H} {x w : Int} (hC : CRel h g) (hV : MOK g) (hx : 0 ≤ x ∧ x < g 0 10) (hw : 0 ≤ w ∧ w ≤ 2) : AMet GC mX7_wordTells 1 [am_R 0, am_I x, am_I w] h (am_FI (wordV g x w) h) := by
  have hnn := hV.s.2.1
  have hs := hC.s.1.2.2.2.1 x hx.1 hx.2
  refine am_start [some (am_R 0), some (am_I x), some (am_I w)] rfl rfl (by decide) (Nat.le_of_ble_eq_true rfl) ?_
  refine aw_iload_n dX7_wordTells_0 rfl ?_
  by_cases hs1_a : w = 0
  · refine aw_top hs1_a ?_
    refine aw_lsw (a := 0) (off := 27) (tgt := 28) dX7_wordTells_1 (by decide) rfl rfl rfl ?_
    refine aw_aload_n dX7_wordTells_28 rfl ?_
    refine aw_getR (kx := 4) fl_X7_29 dX7_wordTells_29 rfl rfl rfl ?_
    refine aw_getR (kx := 7) fl_X7_194 dX7_wordTells_32 rfl rfl rfl ?_
    refine aw_iload_n dX7_wordTells_35 rfl ?_
    refine aw_iaload dX7_wordTells_36 rfl (by decide) (by omega) ?_
    refine aw_iretF dX7_wordTells_37 rfl ?_
    rw [wordV, if_pos hs1_a]; exact ⟨hs.1, rfl⟩
  by_cases hs1_b : w = 1
  · refine aw_top hs1_b ?_
    refine aw_lsw (a := 1) (off := 37) (tgt := 38) dX7_wordTells_1 (by decide) rfl rfl rfl ?_
    refine aw_aload_n dX7_wordTells_38 rfl ?_
    refine aw_getR (kx := 4) fl_X7_29 dX7_wordTells_39 rfl rfl rfl ?_
    refine aw_getR (kx := 8) fl_X7_204 dX7_wordTells_42 rfl rfl rfl ?_
    refine aw_iload_n dX7_wordTells_45 rfl ?_
    refine aw_iaload dX7_wordTells_46 rfl (by decide) (by omega) ?_
    refine aw_iretF dX7_wordTells_47 rfl ?_
    rw [wordV, if_neg hs1_a, if_pos hs1_b]; exact ⟨hs.2.1, rfl⟩
  refine aw_lsw (off := 47) (tgt := 48) dX7_wordTells_1 (by omega) rfl (by simp [Op.lookupswitch.offset, Ne.symm hs1_a, hs1_a, Ne.symm hs1_b, hs1_b]) rfl ?_
  refine aw_aload_n dX7_wordTells_48 rfl ?_
  refine aw_getR (kx := 4) fl_X7_29 dX7_wordTells_49 rfl rfl rfl ?_
  refine aw_getR (kx := 9) fl_X7_417 dX7_wordTells_52 rfl rfl rfl ?_
  refine aw_iload_n dX7_wordTells_55 rfl ?_
  refine aw_iaload dX7_wordTells_56 rfl (by decide) (by omega) ?_
  refine aw_iretF dX7_wordTells_57 rfl ?_
  rw [wordV, if_neg hs1_a, if_neg hs1_b]; exact ⟨hs.2.2, rfl⟩
theorem c_X7_deedTells {h g : am_H} {x w : Int} (hC : CRel h g) (hV : MOK g) (hx : 0 ≤ x ∧ x < g 0 15) (hw : 0 ≤ w ∧ w ≤ 4) : AMet GC mX7_deedTells 3 [am_R 0, am_I x, am_I w] h (am_FI (deedV g x w) h) := by
  have hnn := hV.s.2.2.1
  have hs := hC.s.1.2.2.2.2 x hx.1 hx.2
  have est : h 68 3 = cv (g 0 19) := hC.y.2.1
  refine am_start [some (am_R 0), some (am_I x), some (am_I w)] rfl rfl (by decide) (Nat.le_of_ble_eq_true rfl) ?_
  refine aw_iload_n dX7_deedTells_0 rfl ?_
  by_cases hs1_a : w = 0
  · refine aw_top hs1_a ?_
    refine aw_tswIn (a := 0) (off := 31) (tgt := 32) dX7_deedTells_1 (by decide) (by decide) (by decide) rfl rfl ?_
    refine aw_aload_n dX7_deedTells_32 rfl ?_
    refine aw_getR (kx := 4) fl_X7_29 dX7_deedTells_33 rfl rfl rfl ?_
    refine aw_getR (kx := 10) fl_X7_221 dX7_deedTells_36 rfl rfl rfl ?_
    refine aw_iload_n dX7_deedTells_39 rfl ?_
    refine aw_iaload dX7_deedTells_40 rfl (by decide) (by omega) ?_
    refine aw_iretF dX7_deedTells_41 rfl ?_
    rw [deedV, if_pos hs1_a]; exact ⟨hs.1, rfl⟩
  by_cases hs1_b : w = 1
  · refine aw_top hs1_b ?_
    refine aw_tswIn (a := 1) (off := 41) (tgt := 42) dX7_deedTells_1 (by decide) (by decide) (by decide) rfl rfl ?_
    refine aw_aload_n dX7_deedTells_42 rfl ?_
    refine aw_getR (kx := 4) fl_X7_29 dX7_deedTells_43 rfl rfl rfl ?_
    refine aw_getR (kx := 11) fl_X7_420 dX7_deedTells_46 rfl rfl rfl ?_
    refine aw_iload_n dX7_deedTells_49 rfl ?_
    refine aw_iaload dX7_deedTells_50 rfl (by decide) (by omega) ?_
    refine aw_iretF dX7_deedTells_51 rfl ?_
    rw [deedV, if_neg hs1_a, if_pos hs1_b]; exact ⟨hs.2.1, rfl⟩
  by_cases hs1_c : w = 2
  · refine aw_top hs1_c ?_
    refine aw_tswIn (a := 2) (off := 51) (tgt := 52) dX7_deedTells_1 (by decide) (by decide) (by decide) rfl rfl ?_
    refine aw_aload_n dX7_deedTells_52 rfl ?_
    refine aw_getR (kx := 4) fl_X7_29 dX7_deedTells_53 rfl rfl rfl ?_
    refine aw_getR (kx := 12) fl_X7_423 dX7_deedTells_56 rfl rfl rfl ?_
    refine aw_iload_n dX7_deedTells_59 rfl ?_
    refine aw_iaload dX7_deedTells_60 rfl (by decide) (by omega) ?_
    refine aw_iretF dX7_deedTells_61 rfl ?_
    rw [deedV, if_neg hs1_a, if_neg hs1_b, if_pos hs1_c]; exact ⟨hs.2.2.1, rfl⟩
  by_cases hs1_d : w = 3
  · refine aw_top hs1_d ?_
    refine aw_tswIn (a := 3) (off := 61) (tgt := 62) dX7_deedTells_1 (by decide) (by decide) (by decide) rfl rfl ?_
    refine aw_aload_n dX7_deedTells_62 rfl ?_
    refine aw_getR (kx := 4) fl_X7_29 dX7_deedTells_63 rfl rfl rfl ?_
    refine aw_getR (kx := 13) fl_X7_191 dX7_deedTells_66 rfl rfl rfl ?_
    refine aw_iload_n dX7_deedTells_69 rfl ?_
    refine aw_iaload dX7_deedTells_70 rfl (by decide) (by omega) ?_
    refine aw_iretF dX7_deedTells_71 rfl ?_
    rw [deedV, if_neg hs1_a, if_neg hs1_b, if_neg hs1_c, if_pos hs1_d]; exact ⟨hs.2.2.2, rfl⟩
  refine aw_tswOut (tgt := 72) dX7_deedTells_1 (by omega) (by omega) rfl ?_
  refine aw_aload_n dX7_deedTells_72 rfl ?_
  refine aw_getR (kx := 10) fl_X7_71 dX7_deedTells_73 rfl rfl rfl ?_
  refine aw_getI (kx := 3) fl_X7_207 dX7_deedTells_76 rfl rfl rfl ?_
  refine aw_top est ?_
  refine aw_iload_n dX7_deedTells_79 rfl ?_
  refine aw_cS2IF (c_X0_state) lk_X7_393 dX7_deedTells_80 (by decide) (fun _ => Nat.le_of_ble_eq_true rfl) ?_
  refine aw_iretF dX7_deedTells_83 rfl ?_
  rw [deedV, if_neg hs1_a, if_neg hs1_b, if_neg hs1_c, if_neg hs1_d]; exact ⟨dst_hw hV.d.1 ⟨hx.1, by omega⟩, rfl⟩
theorem c_X7_isBeyond {h : am_H} {z i n : Int} (hz : 0 ≤ z ∧ z ≤ 40) (hi : -2147483648 ≤ i ∧ i < 2147483648) (hn : 0 ≤ n ∧ n < 2147483648) : AMet GC mX7_isBeyond 1 [am_I z, am_I i, am_I n] h (am_FI (if ¬ (0 ≤ i ∧ i ≤ z - n) then 1 else 0) h) := by
  refine am_start [some (am_I z), some (am_I i), some (am_I n)] rfl rfl (by decide) (Nat.le_of_ble_eq_true rfl) ?_
  refine aw_iload_n dX7_isBeyond_0 rfl ?_
  refine aw_if_lt (tgt := 16) dX7_isBeyond_1 rfl (by omega) (fun hc1 => ?_) (fun hc1 => ?_)
  · refine aw_iconst dX7_isBeyond_16 ?_
    refine aw_goto (tgt := 21) dX7_isBeyond_17 rfl ?_
    refine aw_zretF dX7_isBeyond_21 rfl (by omega) ?_
    exact ⟨by split <;> omega, rfl⟩
  · refine aw_iload_n dX7_isBeyond_4 rfl ?_
    refine aw_iload_n dX7_isBeyond_5 rfl ?_
    refine aw_icmp_gt (tgt := 16) dX7_isBeyond_6 rfl (by omega) (by omega) (fun hc6 => ?_) (fun hc6 => ?_)
    · refine aw_iconst dX7_isBeyond_16 ?_
      refine aw_goto (tgt := 21) dX7_isBeyond_17 rfl ?_
      refine aw_zretF dX7_isBeyond_21 rfl (by omega) ?_
      exact ⟨by split <;> omega, rfl⟩
    · refine aw_iload_n dX7_isBeyond_9 rfl ?_
      refine aw_iload_n dX7_isBeyond_10 rfl ?_
      refine aw_iload_n dX7_isBeyond_11 rfl ?_
      refine aw_isub dX7_isBeyond_12 ?_
      refine aw_icmp_le (tgt := 20) dX7_isBeyond_13 rfl (by omega) (by omega) (fun hc13 => ?_) (fun hc13 => ?_)
      · refine aw_iconst dX7_isBeyond_20 ?_
        refine aw_zretF dX7_isBeyond_21 rfl (by omega) ?_
        exact ⟨by split <;> omega, rfl⟩
      · refine aw_iconst dX7_isBeyond_16 ?_
        refine aw_goto (tgt := 21) dX7_isBeyond_17 rfl ?_
        refine aw_zretF dX7_isBeyond_21 rfl (by omega) ?_
        exact ⟨by split <;> omega, rfl⟩
theorem c_X7_mixed {h : am_H} {a v : Int} : AMet GC mX7_mixed 1 [am_J a, am_J v] h (am_FJ (31 * a + v) h) := by
  refine am_start [some (am_J a), none, some (am_J v), none] rfl rfl (by decide) (Nat.le_of_ble_eq_true rfl) ?_
  refine aw_ldc2 (n := 31) kj_X7_426 rfl dX7_mixed_0 ?_
  refine aw_lload_n dX7_mixed_3 rfl ?_
  refine aw_lmul dX7_mixed_4 ?_
  refine aw_lload_n dX7_mixed_5 rfl ?_
  refine aw_ladd dX7_mixed_6 ?_
  refine aw_lretF dX7_mixed_7 rfl ?_
  exact ⟨rfl, rfl⟩
