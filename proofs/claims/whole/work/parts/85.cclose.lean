def FrX (h h' : am_H) (x : Int) : Prop := (∀ c : Int, c < 42 ∨ c = 48 ∨ 58 < c → h' c = h c) ∧ (∀ c i : Int, ¬ i = x → (42 ≤ c ∧ c ≤ 47) ∨ c = 58 → h' c i = h c i) ∧ ∀ y : Int, 0 ≤ y → y < 9 → ¬ y = x → h' (49 + y) = h (49 + y)
theorem FrX.rf (h : am_H) (x : Int) : FrX h h x := ⟨fun _ _ => rfl, fun _ _ _ _ => rfl, fun _ _ _ _ => rfl⟩
theorem FrX.tr {h h1 h2 : am_H} {x : Int} (a : FrX h h1 x) (b : FrX h1 h2 x) : FrX h h2 x := ⟨fun c q => (b.1 c q).trans (a.1 c q), fun c i q r => (b.2.1 c i q r).trans (a.2.1 c i q r), fun y q r s => (b.2.2 y q r s).trans (a.2.2 y q r s)⟩
theorem FrX.set {h h1 : am_H} {x c v : Int} (a : FrX h h1 x) (hc : (42 ≤ c ∧ c ≤ 47) ∨ c = 58) : FrX h (am_set h1 c x v) x := by
  refine ⟨fun e q => ?_, fun e i q r => ?_, fun y q r s => ?_⟩
  · rw [am_set_c (by omega)]; exact a.1 e q
  · rw [am_set_j q]; exact a.2.1 e i q r
  · rw [am_set_c (by omega)]; exact a.2.2 y q r s
theorem FrX.setY {h h1 : am_H} {x i v : Int} (a : FrX h h1 x) (hx : 0 ≤ x ∧ x < 9) : FrX h (am_set h1 (49 + x) i v) x := by
  refine ⟨fun e q => ?_, fun e j q r => ?_, fun y q r s => ?_⟩
  · rw [am_set_c (by omega)]; exact a.1 e q
  · rw [am_set_c (by omega)]; exact a.2.1 e j q r
  · rw [am_set_c (by omega)]; exact a.2.2 y q r s
theorem FrX.sp {h h1 g : am_H} {x : Int} (a : FrX h h1 x) (hR : SpR h g) : SpR h1 g := hR.of (fun c p q => a.1 c (by omega))
theorem c_X2_close {h g : am_H} {x : Int} (hs : MVs g) (hR : SpR h g) (hx : 0 ≤ x ∧ x < g 0 6) (hd : dgF g x = 0) (hz : ∀ n : Int, 0 ≤ n → n ≤ 8 → h (49 + x) n = 0) (h47 : h 47 x = 0) (h58 : h 58 x = ltP g x) : AMet GC mX2_close 2 [am_R 41, am_I x] h (am_QV (fun h' => FrX h h' x ∧ OlX h' g x)) := by
  have hnn := hs.1
  have hk := hR.2.1 x hx.1 hx.2
  have hkr := hs.2.2.2.1 x hx.1 hx.2
  have hd2 : cntF (g 7) x (nwN g) = 0 := hd
  have hnil := wl_nil.mpr hd2
  have es : sen g x = if fin (g 5 x) then 1 else 0 := by rw [sen_eq hs hx.1 hx.2, FS, hnil]; rfl
  have eo : out g x = if fin (g 5 x) then 2 ^ (g 6 x).toNat else 64 := by
    rw [out_eq hs hx.1 hx.2, FO, hnil]
    show outB _ _ _ _ _ = _
    rw [outB, if_pos hd2]
  have ey : yrs g x = (yBase (g 5) x, yBase (g 5) x) := by rw [yrs_eq hs hx.1 hx.2, FY, hnil]; rfl
  have ek : knw g x = 0 := by rw [knw_eq hs hx.1 hx.2, FK, hnil]; split <;> rfl
  have ej : ∀ n : Int, jst g x n = if n = 0 ∧ fin (g 5 x) then 1 else 0 := by
    intro n
    rw [jst_eq hs hx.1 hx.2, FJ, hnil]
    show (if _ then jB (g 5) x n else jB (g 5) x n) = _
    rw [ite_self]; rfl
  have post : ∀ (v m o : Int), v = sen g x → m = ((out g x % 64 : Nat) : Int) → o = ((out g x : Nat) : Int) → FrX h (am_set (am_set (am_set (am_set (am_set (am_set h 42 x v) 43 x m) 44 x o) (49 + x) 0 v) 45 x 0) 46 x 0) x ∧ OlX (am_set (am_set (am_set (am_set (am_set (am_set h 42 x v) 43 x m) 44 x o) (49 + x) 0 v) 45 x 0) 46 x 0) g x := by
    intro v m o hv hm ho
    refine ⟨(((((((FrX.rf h x).set (c := 42) (by omega)).set (c := 43) (by omega)).set (c := 44) (by omega)).setY ⟨hx.1, by omega⟩).set (c := 45) (by omega)).set (c := 46) (by omega)), ?_⟩
    refine ⟨?_, ?_, ?_, fun hp => ⟨?_, ?_⟩, ?_, fun n a b => ?_, ?_⟩
    · rw [am_set_c (by decide), am_set_c (by decide), am_set_c (by omega), am_set_c (by decide), am_set_c (by decide), am_set_s]; exact hv
    · rw [am_set_c (by decide), am_set_c (by decide), am_set_c (by omega), am_set_c (by decide), am_set_s]; exact hm
    · rw [am_set_c (by decide), am_set_c (by decide), am_set_c (by omega), am_set_s]; exact ho
    · rw [am_set_c (by decide), am_set_s, ey, yBase, if_pos (by rw [es] at hp; by_cases f : fin (g 5 x); exact f; rw [if_neg f] at hp; omega)]
    · rw [am_set_s, ey, yBase, if_pos (by rw [es] at hp; by_cases f : fin (g 5 x); exact f; rw [if_neg f] at hp; omega)]
    · rw [am_set_c (by decide), am_set_c (by decide), am_set_c (by omega), am_set_c (by decide), am_set_c (by decide), am_set_c (by decide), h47, ek]
    · rw [am_set_c (by omega), am_set_c (by omega), ej]
      by_cases e : n = 0
      · subst e
        rw [am_set_s, hv, es]
        by_cases f : fin (g 5 x)
        · rw [if_pos f, if_pos ⟨rfl, f⟩]
        · rw [if_neg f, if_neg (fun z => f z.2)]
      · rw [am_set_i e, am_set_c (by omega), am_set_c (by omega), am_set_c (by omega), hz n a b, if_neg (fun z => e z.1)]
    · rw [am_set_c (by decide), am_set_c (by decide), am_set_c (by omega), am_set_c (by decide), am_set_c (by decide), am_set_c (by decide), h58]
  refine am_start [some (am_R 41), some (am_I x), none] rfl rfl (by decide) (Nat.le_of_ble_eq_true rfl) ?_
  by_cases hf : fin (g 5 x)
  · rw [if_pos hf] at es eo
    have hme : h 17 x = (((g 6 x).toNat : Nat) : Int) := by rw [hk.2.1, if_pos hf]; omega
    have hpw : 2 ^ (g 6 x).toNat < 64 := (show _ < 2 ^ 6 from Nat.pow_lt_pow_right (by decide) (by omega))
    refine aw_aload_n dX2_close_0 rfl ?_
    refine aw_getR (kx := 9) fl_X2_41 dX2_close_1 rfl rfl rfl ?_
    refine aw_iload_n dX2_close_4 rfl ?_
    refine aw_cV1IF (c_X5_isEnd hs hR (by omega)) lk_X2_74 dX2_close_5 (by decide) rfl rfl (fun _ => Nat.le_of_ble_eq_true rfl) ?_
    rw [if_pos hf]
    refine aw_istore_2 dX2_close_8 (by decide) rfl ?_
    refine aw_aload_n dX2_close_9 rfl ?_
    refine aw_getR (kx := 0) fl_X2_9 dX2_close_10 rfl rfl rfl ?_
    refine aw_iload_n dX2_close_13 rfl ?_
    refine aw_iload_n dX2_close_14 rfl ?_
    refine aw_if_eq (tgt := 22) dX2_close_15 rfl (by omega) (fun hc15 => ?_) (fun hc15 => ?_)
    · omega
    · refine aw_iconst dX2_close_18 ?_
      refine aw_goto (tgt := 23) dX2_close_19 rfl ?_
      refine aw_iastore dX2_close_23 rfl (by decide) (by omega) ?_
      refine aw_aload_n dX2_close_24 rfl ?_
      refine aw_getR (kx := 1) fl_X2_15 dX2_close_25 rfl rfl rfl ?_
      refine aw_iload_n dX2_close_28 rfl ?_
      refine aw_iload_n dX2_close_29 rfl ?_
      refine aw_if_eq (tgt := 47) dX2_close_30 rfl (by omega) (fun hc30 => ?_) (fun hc30 => ?_)
      · omega
      · refine aw_iconst dX2_close_33 ?_
        refine aw_aload_n dX2_close_34 rfl ?_
        refine aw_getR (kx := 9) fl_X2_41 dX2_close_35 rfl rfl rfl ?_
        refine aw_getR (kx := 4) fl_X2_77 dX2_close_38 rfl rfl rfl ?_
        refine aw_iload_n dX2_close_41 rfl ?_
        refine aw_iaload dX2_close_42 rfl (by decide) (by omega) ?_
        refine aw_top (show am_set h 42 x 1 17 x = (((g 6 x).toNat : Nat) : Int) by rw [am_set_c (by decide)]; exact hme) ?_
        refine aw_ishl dX2_close_43 ?_
        refine aw_top (bt_shl1 (by omega)) ?_
        refine aw_goto (tgt := 48) dX2_close_44 rfl ?_
        refine aw_iastore dX2_close_48 rfl (by decide) (by omega) ?_
        refine aw_aload_n dX2_close_49 rfl ?_
        refine aw_getR (kx := 2) fl_X2_18 dX2_close_50 rfl rfl rfl ?_
        refine aw_iload_n dX2_close_53 rfl ?_
        refine aw_iload_n dX2_close_54 rfl ?_
        refine aw_if_eq (tgt := 67) dX2_close_55 rfl (by omega) (fun hc55 => ?_) (fun hc55 => ?_)
        · omega
        · refine aw_aload_n dX2_close_58 rfl ?_
          refine aw_getR (kx := 1) fl_X2_15 dX2_close_59 rfl rfl rfl ?_
          refine aw_iload_n dX2_close_62 rfl ?_
          refine aw_iaload dX2_close_63 rfl (by decide) (by omega) ?_
          refine aw_top (show _ = ((2 ^ (g 6 x).toNat : Nat) : Int) by rw [am_set_s]) ?_
          refine aw_goto (tgt := 69) dX2_close_64 rfl ?_
          refine aw_iastore dX2_close_69 rfl (by decide) (by omega) ?_
          refine aw_aload_n dX2_close_70 rfl ?_
          refine aw_getR (kx := 6) fl_X2_32 dX2_close_71 rfl rfl rfl ?_
          refine aw_iload_n dX2_close_74 rfl ?_
          first | refine aw_aaload4 dX2_close_75 rfl (by decide) (by omega) ?_ | refine aw_aaload5 dX2_close_75 rfl (by decide) (by omega) ?_ | refine aw_aaload6 dX2_close_75 rfl (by decide) (by omega) ?_
          refine aw_iconst dX2_close_76 ?_
          refine aw_aload_n dX2_close_77 rfl ?_
          refine aw_getR (kx := 0) fl_X2_9 dX2_close_78 rfl rfl rfl ?_
          refine aw_iload_n dX2_close_81 rfl ?_
          refine aw_iaload dX2_close_82 rfl (by decide) (by omega) ?_
          refine aw_top (show _ = (1 : Int) by rw [am_set_c (by decide), am_set_c (by decide), am_set_s]) ?_
          refine aw_iastore dX2_close_83 (by exact kdY hx.1 (by omega)) (by decide) (by omega) ?_
          refine aw_aload_n dX2_close_84 rfl ?_
          refine aw_getR (kx := 3) fl_X2_21 dX2_close_85 rfl rfl rfl ?_
          refine aw_iload_n dX2_close_88 rfl ?_
          refine aw_iconst dX2_close_89 ?_
          refine aw_iastore dX2_close_90 rfl (by decide) (by omega) ?_
          refine aw_aload_n dX2_close_91 rfl ?_
          refine aw_getR (kx := 4) fl_X2_24 dX2_close_92 rfl rfl rfl ?_
          refine aw_iload_n dX2_close_95 rfl ?_
          refine aw_iconst dX2_close_96 ?_
          refine aw_iastore dX2_close_97 rfl (by decide) (by omega) ?_
          refine aw_vretQ dX2_close_98 rfl ?_
          exact post _ _ _ es.symm (by rw [eo, Nat.mod_eq_of_lt hpw]) (by rw [eo])
  · rw [if_neg hf] at es eo
    refine aw_aload_n dX2_close_0 rfl ?_
    refine aw_getR (kx := 9) fl_X2_41 dX2_close_1 rfl rfl rfl ?_
    refine aw_iload_n dX2_close_4 rfl ?_
    refine aw_cV1IF (c_X5_isEnd hs hR (by omega)) lk_X2_74 dX2_close_5 (by decide) rfl rfl (fun _ => Nat.le_of_ble_eq_true rfl) ?_
    rw [if_neg hf]
    refine aw_istore_2 dX2_close_8 (by decide) rfl ?_
    refine aw_aload_n dX2_close_9 rfl ?_
    refine aw_getR (kx := 0) fl_X2_9 dX2_close_10 rfl rfl rfl ?_
    refine aw_iload_n dX2_close_13 rfl ?_
    refine aw_iload_n dX2_close_14 rfl ?_
    refine aw_if_eq (tgt := 22) dX2_close_15 rfl (by omega) (fun hc15 => ?_) (fun hc15 => ?_)
    · refine aw_iconst dX2_close_22 ?_
      refine aw_iastore dX2_close_23 rfl (by decide) (by omega) ?_
      refine aw_aload_n dX2_close_24 rfl ?_
      refine aw_getR (kx := 1) fl_X2_15 dX2_close_25 rfl rfl rfl ?_
      refine aw_iload_n dX2_close_28 rfl ?_
      refine aw_iload_n dX2_close_29 rfl ?_
      refine aw_if_eq (tgt := 47) dX2_close_30 rfl (by omega) (fun hc30 => ?_) (fun hc30 => ?_)
      · refine aw_iconst dX2_close_47 ?_
        refine aw_iastore dX2_close_48 rfl (by decide) (by omega) ?_
        refine aw_aload_n dX2_close_49 rfl ?_
        refine aw_getR (kx := 2) fl_X2_18 dX2_close_50 rfl rfl rfl ?_
        refine aw_iload_n dX2_close_53 rfl ?_
        refine aw_iload_n dX2_close_54 rfl ?_
        refine aw_if_eq (tgt := 67) dX2_close_55 rfl (by omega) (fun hc55 => ?_) (fun hc55 => ?_)
        · refine aw_bipush (by decide) dX2_close_67 ?_
          refine aw_iastore dX2_close_69 rfl (by decide) (by omega) ?_
          refine aw_aload_n dX2_close_70 rfl ?_
          refine aw_getR (kx := 6) fl_X2_32 dX2_close_71 rfl rfl rfl ?_
          refine aw_iload_n dX2_close_74 rfl ?_
          first | refine aw_aaload4 dX2_close_75 rfl (by decide) (by omega) ?_ | refine aw_aaload5 dX2_close_75 rfl (by decide) (by omega) ?_ | refine aw_aaload6 dX2_close_75 rfl (by decide) (by omega) ?_
          refine aw_iconst dX2_close_76 ?_
          refine aw_aload_n dX2_close_77 rfl ?_
          refine aw_getR (kx := 0) fl_X2_9 dX2_close_78 rfl rfl rfl ?_
          refine aw_iload_n dX2_close_81 rfl ?_
          refine aw_iaload dX2_close_82 rfl (by decide) (by omega) ?_
          refine aw_top (show _ = (0 : Int) by rw [am_set_c (by decide), am_set_c (by decide), am_set_s]) ?_
          refine aw_iastore dX2_close_83 (by exact kdY hx.1 (by omega)) (by decide) (by omega) ?_
          refine aw_aload_n dX2_close_84 rfl ?_
          refine aw_getR (kx := 3) fl_X2_21 dX2_close_85 rfl rfl rfl ?_
          refine aw_iload_n dX2_close_88 rfl ?_
          refine aw_iconst dX2_close_89 ?_
          refine aw_iastore dX2_close_90 rfl (by decide) (by omega) ?_
          refine aw_aload_n dX2_close_91 rfl ?_
          refine aw_getR (kx := 4) fl_X2_24 dX2_close_92 rfl rfl rfl ?_
          refine aw_iload_n dX2_close_95 rfl ?_
          refine aw_iconst dX2_close_96 ?_
          refine aw_iastore dX2_close_97 rfl (by decide) (by omega) ?_
          refine aw_vretQ dX2_close_98 rfl ?_
          exact post _ _ _ es.symm (by rw [eo]; rfl) (by rw [eo]; rfl)
        · omega
      · omega
    · omega
theorem lp_X2_settle {h g : am_H} {x : Int} (hs : MVs g) (hR : SpR h g) (hx : 0 ≤ x ∧ x < g 0 6) (hO : ∀ y : Int, x < y → y < g 0 6 → h 47 y = knw g y) (hp : 1 < pcN 16 (out g x)) : ∀ (m j : Nat) (h' : am_H) (x3 : Option am_V), (j : Int) ≤ dgF g x → dgF g x - j < m → (∀ c : Int, ¬ c = 47 → h' c = h c) → (∀ i : Int, ¬ i = x → h' 47 i = h 47 i) → h' 47 x = ((wl (g 7) x (nwN g)).take j).foldl (fun s k => kStep (yrK (g 5 x)) s (knw g (g 8 k))) 0 → (0 ≤ h' 47 x ∧ h' 47 x ≤ 9) → AW GC mX2_settle 2 (am_QV (fun h' => (∀ c : Int, ¬ c = 47 → h' c = h c) ∧ (∀ i : Int, ¬ i = x → h' 47 i = h 47 i) ∧ h' 47 x = knw g x)) 16 [some (am_R 41), some (am_I x), some (am_I j), x3] [] h' := by
  have hnn := hs.1
  have hw := hs.2.1
  have hk := (hR.2.1 x hx.1 hx.2).2.2
  have hd4 : dgF g x ≤ 4 := hs.2.2.2.2.2.2.1 x
  have hl := dg_len g x
  have hyk := yrK_rng (g 5 x)
  intro m
  induction m with
  | zero => intro j h' x3 h1 h2; omega
  | succ m ih =>
    intro j h' x3 h1 h2 hc hi hse hrn
    have hR' : SpR h' g := hR.of (fun c a b => hc c (by omega))
    have hk' : h' 18 x = dgF g x := by rw [hc 18 (by decide)]; exact hk
    by_cases hj : (j : Int) < dgF g x
    · obtain ⟨w, w1, w2, w3, w4⟩ := sp_at hs hR' hx hj
      have hv := (hs.2.2.2.2.1 w w3.1 w3.2).1
      have ht : h' 21 w = g 8 w := (hR'.2.2.2.1 w w3.1 w3.2).2.1
      have e47 : h' 47 (g 8 w) = knw g (g 8 w) := by rw [hi _ (by omega)]; exact hO _ (by omega) hv.2.2
      have hkr := knw_rng hs 9 (g 8 w) (by omega) hv.2.2 (by omega)
      refine aw_iload_n dX2_settle_16 rfl ?_
      refine aw_aload_n dX2_settle_17 rfl ?_
      refine aw_getR (kx := 9) fl_X2_41 dX2_settle_18 rfl rfl rfl ?_
      refine aw_getR (kx := 5) fl_X2_65 dX2_settle_21 rfl rfl rfl ?_
      refine aw_iload_n dX2_settle_24 rfl ?_
      refine aw_iaload dX2_settle_25 rfl (by decide) (by omega) ?_
      refine aw_icmp_ge (tgt := 83) dX2_settle_26 rfl (by omega) (by omega) (fun hc26 => ?_) (fun hc26 => ?_)
      · omega
      · refine aw_aload_n dX2_settle_29 rfl ?_
        refine aw_getR (kx := 9) fl_X2_41 dX2_settle_30 rfl rfl rfl ?_
        refine aw_getR (kx := 8) fl_X2_84 dX2_settle_33 rfl rfl rfl ?_
        refine aw_aload_n dX2_settle_36 rfl ?_
        refine aw_getR (kx := 9) fl_X2_41 dX2_settle_37 rfl rfl rfl ?_
        refine aw_iload_n dX2_settle_40 rfl ?_
        refine aw_iload_n dX2_settle_41 rfl ?_
        refine aw_cV2IF (c_X5_wordAt (by omega)) lk_X2_87 dX2_settle_42 (by decide) rfl rfl (fun _ => Nat.le_of_ble_eq_true rfl) ?_
        refine aw_top w2 ?_
        refine aw_iaload dX2_settle_45 rfl (by decide) (by omega) ?_
        refine aw_top ht ?_
        refine aw_istore_3 dX2_settle_46 (by decide) rfl ?_
        refine aw_aload_n dX2_settle_47 rfl ?_
        refine aw_getR (kx := 5) fl_X2_27 dX2_settle_48 rfl rfl rfl ?_
        refine aw_iload_n dX2_settle_51 rfl ?_
        refine aw_aload_n dX2_settle_52 rfl ?_
        refine aw_getR (kx := 5) fl_X2_27 dX2_settle_53 rfl rfl rfl ?_
        refine aw_iload_n dX2_settle_56 rfl ?_
        refine aw_iaload dX2_settle_57 rfl (by decide) (by omega) ?_
        refine aw_aload_n dX2_settle_58 rfl ?_
        refine aw_getR (kx := 5) fl_X2_27 dX2_settle_59 rfl rfl rfl ?_
        refine aw_iload_n dX2_settle_62 rfl ?_
        refine aw_iaload dX2_settle_63 rfl (by decide) (by omega) ?_
        refine aw_top e47 ?_
        refine aw_aload_n dX2_settle_64 rfl ?_
        refine aw_getR (kx := 9) fl_X2_41 dX2_settle_65 rfl rfl rfl ?_
        refine aw_iload_n dX2_settle_68 rfl ?_
        refine aw_cV1IF (c_X5_yearsOfWord hs hR' hx) lk_X2_80 dX2_settle_69 (by decide) rfl rfl (fun _ => Nat.le_of_ble_eq_true rfl) ?_
        refine aw_iadd dX2_settle_72 ?_
        refine aw_cS2IF (c_J9_max (by omega) (by omega)) lk_X2_96 dX2_settle_73 (by decide) (fun _ => Nat.le_of_ble_eq_true rfl) ?_
        refine aw_iastore dX2_settle_76 rfl (by decide) (by omega) ?_
        refine aw_iinc2 dX2_settle_77 (by decide) rfl ?_
        refine aw_goto (tgt := 16) dX2_settle_80 rfl ?_
        have ekS : (if h' 47 x < knw g (g 8 w) + yrK (g 5 x) then knw g (g 8 w) + yrK (g 5 x) else h' 47 x) = kStep (yrK (g 5 x)) (h' 47 x) (knw g (g 8 w)) := by unfold kStep; rw [Int.add_comm]
        rw [ekS]
        refine ih (j + 1) _ _ (by omega) (by omega) (fun c a => by rw [am_set_c a]; exact hc c a) (fun i a => by rw [am_set_i a]; exact hi i a) (by rw [am_set_s, tk_fold w1, ← hse]) ?_
        rw [am_set_s]; unfold kStep; split <;> omega
    · have e2 : h' 47 x = knw g x := by rw [knw_eq hs hx.1 hx.2, FK, if_pos hp, hse, tk_all (by omega)]
      refine aw_iload_n dX2_settle_16 rfl ?_
      refine aw_aload_n dX2_settle_17 rfl ?_
      refine aw_getR (kx := 9) fl_X2_41 dX2_settle_18 rfl rfl rfl ?_
      refine aw_getR (kx := 5) fl_X2_65 dX2_settle_21 rfl rfl rfl ?_
      refine aw_iload_n dX2_settle_24 rfl ?_
      refine aw_iaload dX2_settle_25 rfl (by decide) (by omega) ?_
      refine aw_icmp_ge (tgt := 83) dX2_settle_26 rfl (by omega) (by omega) (fun hc26 => ?_) (fun hc26 => ?_)
      · refine aw_vretQ dX2_settle_83 rfl ?_
        exact ⟨hc, hi, e2⟩
      · omega
theorem c_X2_settle {h g : am_H} {x : Int} (hs : MVs g) (hR : SpR h g) (hx : 0 ≤ x ∧ x < g 0 6) (hO : ∀ y : Int, x < y → y < g 0 6 → h 47 y = knw g y) (h44 : h 44 x = ((out g x : Nat) : Int)) (h47 : h 47 x = 0) : AMet GC mX2_settle 2 [am_R 41, am_I x] h (am_QV (fun h' => (∀ c : Int, ¬ c = 47 → h' c = h c) ∧ (∀ i : Int, ¬ i = x → h' 47 i = h 47 i) ∧ h' 47 x = knw g x)) := by
  have hnn := hs.1
  have hlt := out_lt hs 9 x hx.1 hx.2 (by omega)
  have hpl := pcN_le 16 (out g x)
  have hd4 : dgF g x ≤ 4 := hs.2.2.2.2.2.2.1 x
  have hd0 : 0 ≤ dgF g x := (cntF_rng _ _ _).1
  refine am_start [some (am_R 41), some (am_I x), none, none] rfl rfl (by decide) (Nat.le_of_ble_eq_true rfl) ?_
  refine aw_aload_n dX2_settle_0 rfl ?_
  refine aw_getR (kx := 2) fl_X2_18 dX2_settle_1 rfl rfl rfl ?_
  refine aw_iload_n dX2_settle_4 rfl ?_
  refine aw_iaload dX2_settle_5 rfl (by decide) (by omega) ?_
  refine aw_cS1IF (c_J6_bitCount h44 (by omega)) lk_X2_99 dX2_settle_6 (by decide) (fun _ => Nat.le_of_ble_eq_true rfl) ?_
  refine aw_iconst dX2_settle_9 ?_
  refine aw_icmp_ge (tgt := 14) dX2_settle_10 rfl (by omega) (by omega) (fun hc10 => ?_) (fun hc10 => ?_)
  · refine aw_iconst dX2_settle_14 ?_
    refine aw_istore_2 dX2_settle_15 (by decide) rfl ?_
    exact lp_X2_settle hs hR hx hO (by omega) 5 0 h _ (by omega) (by omega) (fun c _ => rfl) (fun i _ => rfl) (by rw [h47]; rfl) (by omega)
  · refine aw_vretQ dX2_settle_13 rfl ?_
    exact ⟨fun c _ => rfl, fun i _ => rfl, by rw [h47, knw_eq hs hx.1 hx.2, FK, if_neg (by omega)]⟩
