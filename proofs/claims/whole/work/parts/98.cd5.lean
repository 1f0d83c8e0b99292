abbrev QCJ (S : Int × am_H) : Option am_V → am_H → Prop := am_QJ (fun v h' => v = S.1 ∧ CRel h' S.2)
theorem lp_X7_dg1 {h g : am_H} {Q : Option am_V → am_H → Prop} (hC : CRel h g) (hV : MOK g) {s : Int} (K : ∀ x3 : Option am_V, AW GC mX7_digest 12 Q 29 [some (am_R 0), some (am_J (mixF (cntV g) s 9)), none, x3] [] h) : ∀ (m i : Nat), (i : Int) ≤ 9 → 9 - (i : Int) < m → AW GC mX7_digest 12 Q 6 [some (am_R 0), some (am_J (mixF (cntV g) s i)), none, some (am_I i)] [] h := by
  intro m
  induction m with
  | zero => intro i h1 h2; omega
  | succ m ih =>
    intro i h1 h2
    have hr := cntV_rng hV.z hV.y i
    by_cases hi : (i : Int) < 9
    · have e : mixF (cntV g) s (i + 1) = 31 * mixF (cntV g) s i + cntV g i := rfl
      refine aw_iload_n dX7_digest_6 rfl ?_
      refine aw_bipush (by decide) dX7_digest_7 ?_
      refine aw_icmp_gt (tgt := 29) dX7_digest_9 rfl (by omega) (by omega) (fun hc9 => ?_) (fun hc9 => ?_)
      · omega
      · refine aw_lload_n dX7_digest_12 rfl ?_
        refine aw_aload_n dX7_digest_13 rfl ?_
        refine aw_iload_n dX7_digest_14 rfl ?_
        refine aw_cV1IF (c_X7_counted hC hV (by omega)) lk_X7_362 dX7_digest_15 (by decide) rfl rfl (fun _ => Nat.le_of_ble_eq_true rfl) ?_
        refine aw_i2l (by omega) dX7_digest_18 ?_
        refine aw_cS2JF (c_X7_mixed) lk_X7_370 dX7_digest_19 (by decide) (fun _ => Nat.le_of_ble_eq_true rfl) ?_
        refine aw_lstore_1 dX7_digest_22 (by decide) rfl ?_
        refine aw_iinc3 dX7_digest_23 (by decide) rfl ?_
        refine aw_goto (tgt := 6) dX7_digest_26 rfl ?_
        refine aw_ls ?_ (ih (i + 1) (by omega) (by omega)); rw [e]; rfl
    · rw [show 9 = i by omega] at K
      refine aw_iload_n dX7_digest_6 rfl ?_
      refine aw_bipush (by decide) dX7_digest_7 ?_
      refine aw_icmp_gt (tgt := 29) dX7_digest_9 rfl (by omega) (by omega) (fun hc9 => ?_) (fun hc9 => ?_)
      · exact K _
      · omega
theorem lp_X7_dg2 {h g : am_H} {Q : Option am_V → am_H → Prop} (hC : CRel h g) (hV : MOK g) {s : Int} (K : ∀ x3 : Option am_V, AW GC mX7_digest 12 Q 69 [some (am_R 0), some (am_J (mixF (g 14) s (g 0 18).toNat)), none, x3] [] h) : ∀ (m i : Nat), (i : Int) ≤ g 0 18 → g 0 18 - (i : Int) < m → AW GC mX7_digest 12 Q 37 [some (am_R 0), some (am_J (mixF (g 14) s i)), none, some (am_I i)] [] h := by
  have e1 : h 68 2 = g 0 18 := hC.y.1
  have hm := hV.y.1
  have hw := hV.s.2.1
  intro m
  induction m with
  | zero => intro i h1 h2; omega
  | succ m ih =>
    intro i h1 h2
    by_cases hi : (i : Int) < g 0 18
    · have e : mixF (g 14) s (i + 1) = 31 * mixF (g 14) s i + g 14 i := rfl
      have es := (hC.y.2.2 i (by omega) hi).1
      have hsr := (hV.y.2.2 i (by omega) hi).1
      refine aw_iload_n dX7_digest_37 rfl ?_
      refine aw_aload_n dX7_digest_38 rfl ?_
      refine aw_getR (kx := 10) fl_X7_71 dX7_digest_39 rfl rfl rfl ?_
      refine aw_getI (kx := 2) fl_X7_92 dX7_digest_42 rfl rfl rfl ?_
      refine aw_icmp_ge (tgt := 69) dX7_digest_45 rfl (by omega) (by omega) (fun hc45 => ?_) (fun hc45 => ?_)
      · omega
      · refine aw_lload_n dX7_digest_48 rfl ?_
        refine aw_aload_n dX7_digest_49 rfl ?_
        refine aw_getR (kx := 10) fl_X7_71 dX7_digest_50 rfl rfl rfl ?_
        refine aw_getR (kx := 0) fl_X7_244 dX7_digest_53 rfl rfl rfl ?_
        refine aw_iload_n dX7_digest_56 rfl ?_
        refine aw_iaload dX7_digest_57 rfl (by decide) (by omega) ?_
        refine aw_top es ?_
        refine aw_i2l (by omega) dX7_digest_58 ?_
        refine aw_cS2JF (c_X7_mixed) lk_X7_370 dX7_digest_59 (by decide) (fun _ => Nat.le_of_ble_eq_true rfl) ?_
        refine aw_lstore_1 dX7_digest_62 (by decide) rfl ?_
        refine aw_iinc3 dX7_digest_63 (by decide) rfl ?_
        refine aw_goto (tgt := 37) dX7_digest_66 rfl ?_
        refine aw_ls ?_ (ih (i + 1) (by omega) (by omega)); rw [e]; rfl
    · rw [show (g 0 18).toNat = i by omega] at K
      refine aw_iload_n dX7_digest_37 rfl ?_
      refine aw_aload_n dX7_digest_38 rfl ?_
      refine aw_getR (kx := 10) fl_X7_71 dX7_digest_39 rfl rfl rfl ?_
      refine aw_getI (kx := 2) fl_X7_92 dX7_digest_42 rfl rfl rfl ?_
      refine aw_icmp_ge (tgt := 69) dX7_digest_45 rfl (by omega) (by omega) (fun hc45 => ?_) (fun hc45 => ?_)
      · exact K _
      · omega
theorem lp_X7_dg3 {h g : am_H} {Q : Option am_V → am_H → Prop} (hC : CRel h g) (hV : MOK g) {s : Int} (K : ∀ x3 : Option am_V, AW GC mX7_digest 12 Q 97 [some (am_R 0), some (am_J (mixF (fun k => if g 24 k = 0 then -1 else g 25 (18 * k + 16)) s 3)), none, x3] [] h) : ∀ (m i : Nat), (i : Int) ≤ 3 → 3 - (i : Int) < m → AW GC mX7_digest 12 Q 71 [some (am_R 0), some (am_J (mixF (fun k => if g 24 k = 0 then -1 else g 25 (18 * k + 16)) s i)), none, some (am_I i)] [] h := by
  intro m
  induction m with
  | zero => intro i h1 h2; omega
  | succ m ih =>
    intro i h1 h2
    by_cases hi : (i : Int) < 3
    · have e : mixF (fun k => if g 24 k = 0 then -1 else g 25 (18 * k + 16)) s (i + 1) = 31 * mixF (fun k => if g 24 k = 0 then -1 else g 25 (18 * k + 16)) s i + (if g 24 i = 0 then -1 else g 25 (18 * i + 16)) := rfl
      obtain ⟨a, b, hk⟩ := kdK (k := i) (by omega) hi
      obtain ⟨c1, c2, c3, c4⟩ := hC.kc hV (k := i) (by omega) (by omega)
      refine aw_iload_n dX7_digest_71 rfl ?_
      refine aw_iconst dX7_digest_72 ?_
      refine aw_icmp_ge (tgt := 97) dX7_digest_73 rfl (by omega) (by omega) (fun hc73 => ?_) (fun hc73 => ?_)
      · omega
      · refine aw_lload_n dX7_digest_76 rfl ?_
        refine aw_aload_n dX7_digest_77 rfl ?_
        refine aw_getR (kx := 11) fl_X7_75 dX7_digest_78 rfl rfl rfl ?_
        refine aw_iload_n dX7_digest_81 rfl ?_
        first | refine aw_aaload4 dX7_digest_82 rfl (by decide) (by omega) ?_ | refine aw_aaload5 dX7_digest_82 rfl (by decide) (by omega) ?_ | refine aw_aaload6 dX7_digest_82 rfl (by decide) (by omega) ?_
        refine aw_getI (kx := 2) fl_X7_92 dX7_digest_83 hk rfl rfl ?_
        refine aw_i2l (by omega) dX7_digest_86 ?_
        refine aw_cS2JF (c_X7_mixed) lk_X7_370 dX7_digest_87 (by decide) (fun _ => Nat.le_of_ble_eq_true rfl) ?_
        refine aw_lstore_1 dX7_digest_90 (by decide) rfl ?_
        refine aw_iinc3 dX7_digest_91 (by decide) rfl ?_
        refine aw_goto (tgt := 71) dX7_digest_94 rfl ?_
        refine aw_ls ?_ (ih (i + 1) (by omega) (by omega)); rw [e, ← c1]; rfl
    · rw [show 3 = i by omega] at K
      refine aw_iload_n dX7_digest_71 rfl ?_
      refine aw_iconst dX7_digest_72 ?_
      refine aw_icmp_ge (tgt := 97) dX7_digest_73 rfl (by omega) (by omega) (fun hc73 => ?_) (fun hc73 => ?_)
      · exact K _
      · omega
theorem c_X7_digest {h g : am_H} (hC : CRel h g) (hV : MOK g) : AMet GC mX7_digest 12 [am_R 0] h (QCJ (S_digest g)) := by
  have hm := hV.y.1
  refine am_start [some (am_R 0), none, none, none] rfl rfl (by decide) (Nat.le_of_ble_eq_true rfl) ?_
  refine aw_ldc2 (n := 17) kj_X7_368 rfl dX7_digest_0 ?_
  refine aw_lstore_1 dX7_digest_3 (by decide) rfl ?_
  refine aw_iconst dX7_digest_4 ?_
  refine aw_istore_3 dX7_digest_5 (by decide) rfl ?_
  refine lp_X7_dg1 (s := 17) hC hV (fun x3 => ?_) 11 0 (by omega) (by omega)
  refine aw_aload_n dX7_digest_29 rfl ?_
  refine aw_lload_n dX7_digest_30 rfl ?_
  refine aw_cV1JF (c_X7_withSpeech hC hV) lk_X7_374 dX7_digest_31 (by decide) rfl rfl (fun _ => Nat.le_of_ble_eq_true rfl) ?_
  refine aw_lstore_1 dX7_digest_34 (by decide) rfl ?_
  refine aw_iconst dX7_digest_35 ?_
  refine aw_istore_3 dX7_digest_36 (by decide) rfl ?_
  refine lp_X7_dg2 hC hV (fun x3 => ?_) 11 0 (by omega) (by omega)
  refine aw_iconst dX7_digest_69 ?_
  refine aw_istore_3 dX7_digest_70 (by decide) rfl ?_
  refine lp_X7_dg3 hC hV (fun x3 => ?_) 11 0 (by omega) (by omega)
  refine aw_aload_n dX7_digest_97 rfl ?_
  refine aw_lload_n dX7_digest_98 rfl ?_
  refine aw_cV1JF (c_X7_withRowsAndTexts hC hV) lk_X7_378 dX7_digest_99 (by decide) rfl rfl (fun _ => Nat.le_of_ble_eq_true rfl) ?_
  exact aw_lretQ dX7_digest_102 rfl ⟨rfl, hC⟩
