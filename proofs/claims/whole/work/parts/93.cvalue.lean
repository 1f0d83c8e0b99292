theorem c_X3_canBegin {h : am_H} {of d : Int} (hof : VS of) (hd : 0 ≤ d ∧ d < 4) : AMet GC mX3_canBegin 3 [am_R 60, am_I (cv of), am_I d] h (am_FI (if cbg of d then 1 else 0) h) := by
  have hc := cd_rng (cv of) d
  have hb := bz_rng (cv of)
  have hq := cv_can hof hd
  refine am_start [some (am_R 60), some (am_I (cv of)), some (am_I d)] rfl rfl (by decide) (Nat.le_of_ble_eq_true rfl) ?_
  refine aw_iload_n dX3_canBegin_0 rfl ?_
  refine aw_iload_n dX3_canBegin_1 rfl ?_
  refine aw_cS2IF (c_X0_codeOf) lk_X3_86 dX3_canBegin_2 (by decide) (fun _ => Nat.le_of_ble_eq_true rfl) ?_
  refine aw_if_ne (tgt := 19) dX3_canBegin_5 rfl (by omega) (fun hc5 => ?_) (fun hc5 => ?_)
  · refine aw_iconst dX3_canBegin_19 ?_
    refine aw_zretF dX3_canBegin_20 rfl (by omega) ?_
    exact ⟨by rw [if_neg (fun z => hc5 (hq.mpr z).1)], rfl⟩
  · refine aw_iload_n dX3_canBegin_8 rfl ?_
    refine aw_cS1IF (c_X0_busyOne) lk_X3_89 dX3_canBegin_9 (by decide) (fun _ => Nat.le_of_ble_eq_true rfl) ?_
    refine aw_if_ge (tgt := 19) dX3_canBegin_12 rfl (by omega) (fun hc12 => ?_) (fun hc12 => ?_)
    · refine aw_iconst dX3_canBegin_19 ?_
      refine aw_zretF dX3_canBegin_20 rfl (by omega) ?_
      exact ⟨by rw [if_neg (fun z => by have := (hq.mpr z).2; omega)], rfl⟩
    · refine aw_iconst dX3_canBegin_15 ?_
      refine aw_goto (tgt := 20) dX3_canBegin_16 rfl ?_
      refine aw_zretF dX3_canBegin_20 rfl (by omega) ?_
      exact ⟨by rw [if_pos (hq.mp ⟨by omega, by omega⟩)], rfl⟩
theorem c_X3_begun {h g : am_H} {of d : Int} (hs : MVs g) (hR : SpR h g) (hof : VS of) (hd : 0 ≤ d ∧ d < g 0 15) (hc : cbg of d) : AMet GC mX3_begun 2 [am_R 60, am_I (cv of), am_I d] h (am_FI (cv (bgw (g 10 d) of d)) h) := by
  have hnd := hs.2.2.1
  have e := (hR.2.2.2.2 d hd.1 hd.2).1
  have hv := (hs.2.2.2.2.2.2.2.1 d hd.1 hd.2).1
  refine am_start [some (am_R 60), some (am_I (cv of)), some (am_I d)] rfl rfl (by decide) (Nat.le_of_ble_eq_true rfl) ?_
  refine aw_iload_n dX3_begun_0 rfl ?_
  refine aw_iload_n dX3_begun_1 rfl ?_
  refine aw_aload_n dX3_begun_2 rfl ?_
  refine aw_getR (kx := 2) fl_X3_24 dX3_begun_3 rfl rfl rfl ?_
  refine aw_getR (kx := 10) fl_X3_92 dX3_begun_6 rfl rfl rfl ?_
  refine aw_iload_n dX3_begun_9 rfl ?_
  refine aw_iaload dX3_begun_10 rfl (by decide) (by omega) ?_
  refine aw_top e ?_
  refine aw_cS3IF (c_X0_with) lk_X3_95 dX3_begun_11 (by decide) (fun _ => Nat.le_of_ble_eq_true rfl) ?_
  refine aw_iretF dX3_begun_14 rfl ?_
  exact ⟨cv_wth hof hc ⟨hd.1, by omega⟩ hv, rfl⟩
theorem c_X3_once {hB g h : am_H} {D : Int → Prop} {Val : Int → Int → Int} {fs : Int → Int} {aim : Int} {lv : Nat} {x of dp : Int} (hs : MVs g) (hR : SpR hB g) (hO : OlR hB g) (hk : pvOK g aim fs D Val) (ha : hB 60 4 = aim ∧ 0 ≤ aim ∧ aim ≤ 2) (hfs : aim = 2 → ∀ y : Int, D y → ¬ dgF g y = 0 → hB 62 y = fs y) (hD : D x) (hdg : ¬ dgF g x = 0) (hlv : 10 ≤ lv) (hof : VS of) (hdp : 0 ≤ dp ∧ dp ≤ x) (hV : ∀ y : Int, x < y → D y → pvC hB g D Val lv y) (hP : PmO hB g D Val h) : AMet GC mX3_valueOnceSaid (lv + 2) [am_R 60, am_I x, am_I (cv of), am_I dp] h (am_QI (fun v h2 => v = pvO g aim fs Val x of ∧ PmO hB g D Val h2)) := by
  have hnn := hs.1
  have hx := hk.1 x hD
  have hR' := hP.sp hR
  have hkd := (hR'.2.1 x hx.1 hx.2).1
  have hkr := (hs.2.2.2.1 x hx.1 hx.2).1
  have h60 : h 60 4 = aim := by rw [hP.1 60 (by decide)]; exact ha.1
  have hnx := hk.2.2.2.1 x hD hdg
  have hvg : VS (gon (g 5 x) of) := vs_gon hof
  refine am_start [some (am_R 60), some (am_I x), some (am_I (cv of)), some (am_I dp), none] rfl rfl (by decide) (Nat.le_of_ble_eq_true rfl) ?_
  by_cases h2 : aim = 2
  · obtain ⟨n1, n2⟩ := hnx.1 h2
    have n3 := hk.1 (fs x) n1
    have e62 : h 62 x = fs x := by rw [hP.1 62 (by decide)]; exact hfs h2 x hD hdg
    refine aw_iload_n dX3_valueOnceSaid_0 rfl ?_
    refine aw_aload_n dX3_valueOnceSaid_1 rfl ?_
    refine aw_getR (kx := 2) fl_X3_24 dX3_valueOnceSaid_2 rfl rfl rfl ?_
    refine aw_getR (kx := 3) fl_X3_98 dX3_valueOnceSaid_5 rfl rfl rfl ?_
    refine aw_iload_n dX3_valueOnceSaid_8 rfl ?_
    refine aw_iaload dX3_valueOnceSaid_9 rfl (by decide) (by omega) ?_
    refine aw_top hkd ?_
    refine aw_cS2IF (c_X0_afterWord (by omega)) lk_X3_101 dX3_valueOnceSaid_10 (by omega) (fun _ => Nat.le_of_ble_eq_true rfl) ?_
    refine aw_top (cv_aft hof) ?_
    refine aw_istore4 dX3_valueOnceSaid_13 (by decide) rfl ?_
    refine aw_aload_n dX3_valueOnceSaid_15 rfl ?_
    refine aw_getI (kx := 4) fl_X3_20 dX3_valueOnceSaid_16 rfl rfl rfl ?_
    refine aw_iconst dX3_valueOnceSaid_19 ?_
    refine aw_icmp_ne (tgt := 39) dX3_valueOnceSaid_20 rfl (by omega) (by omega) (fun hc20 => ?_) (fun hc20 => ?_)
    · omega
    · refine aw_aload_n dX3_valueOnceSaid_23 rfl ?_
      refine aw_aload_n dX3_valueOnceSaid_24 rfl ?_
      refine aw_getR (kx := 1) fl_X3_17 dX3_valueOnceSaid_25 rfl rfl rfl ?_
      refine aw_iload_n dX3_valueOnceSaid_28 rfl ?_
      refine aw_iaload dX3_valueOnceSaid_29 rfl (by decide) (by omega) ?_
      refine aw_top e62 ?_
      refine aw_iload dX3_valueOnceSaid_30 rfl ?_
      refine aw_iload_n dX3_valueOnceSaid_32 rfl ?_
      refine aw_iconst dX3_valueOnceSaid_33 ?_
      refine aw_iadd dX3_valueOnceSaid_34 ?_
      refine aw_cV3I (hV (fs x) n2 n1 h (gon (g 5 x) of) (dp + 1) hP hvg (by omega) (by omega)) lk_X3_47 dX3_valueOnceSaid_35 (by omega) rfl rfl (fun _ => Nat.le_of_ble_eq_true rfl) (fun v35 h35 q35 => ?_)
      refine aw_iretQ dX3_valueOnceSaid_38 rfl ?_
      exact ⟨by rw [pvO, if_pos h2]; exact q35.1, q35.2⟩
  · have n1 := hnx.2 h2
    have hVk : ∀ k : Int, k ∈ wl (g 7) x (nwN g) → pvC hB g D Val lv (g 8 k) := by
      intro k hk2
      obtain ⟨a1, a2, a3⟩ := wl_mem.mp hk2
      have a4 := to_ok hs k a1 a2
      exact hV _ (by omega) (n1 k hk2)
    by_cases h1 : aim = 1
    · refine aw_iload_n dX3_valueOnceSaid_0 rfl ?_
      refine aw_aload_n dX3_valueOnceSaid_1 rfl ?_
      refine aw_getR (kx := 2) fl_X3_24 dX3_valueOnceSaid_2 rfl rfl rfl ?_
      refine aw_getR (kx := 3) fl_X3_98 dX3_valueOnceSaid_5 rfl rfl rfl ?_
      refine aw_iload_n dX3_valueOnceSaid_8 rfl ?_
      refine aw_iaload dX3_valueOnceSaid_9 rfl (by decide) (by omega) ?_
      refine aw_top hkd ?_
      refine aw_cS2IF (c_X0_afterWord (by omega)) lk_X3_101 dX3_valueOnceSaid_10 (by omega) (fun _ => Nat.le_of_ble_eq_true rfl) ?_
      refine aw_top (cv_aft hof) ?_
      refine aw_istore4 dX3_valueOnceSaid_13 (by decide) rfl ?_
      refine aw_aload_n dX3_valueOnceSaid_15 rfl ?_
      refine aw_getI (kx := 4) fl_X3_20 dX3_valueOnceSaid_16 rfl rfl rfl ?_
      refine aw_iconst dX3_valueOnceSaid_19 ?_
      refine aw_icmp_ne (tgt := 39) dX3_valueOnceSaid_20 rfl (by omega) (by omega) (fun hc20 => ?_) (fun hc20 => ?_)
      · refine aw_aload_n dX3_valueOnceSaid_39 rfl ?_
        refine aw_getI (kx := 4) fl_X3_20 dX3_valueOnceSaid_40 rfl rfl rfl ?_
        refine aw_iconst dX3_valueOnceSaid_43 ?_
        refine aw_icmp_ne (tgt := 58) dX3_valueOnceSaid_44 rfl (by omega) (by omega) (fun hc44 => ?_) (fun hc44 => ?_)
        · omega
        · refine aw_aload_n dX3_valueOnceSaid_47 rfl ?_
          refine aw_iload_n dX3_valueOnceSaid_48 rfl ?_
          refine aw_iload dX3_valueOnceSaid_49 rfl ?_
          refine aw_iload_n dX3_valueOnceSaid_51 rfl ?_
          refine aw_cV3I (c_X3_meanBehind hs hR hO hx hlv hvg hdp hVk hP) lk_X3_104 dX3_valueOnceSaid_52 (by omega) rfl rfl (fun _ => Nat.le_of_ble_eq_true rfl) (fun v52 h52 q52 => ?_)
          refine aw_goto (tgt := 66) dX3_valueOnceSaid_55 rfl ?_
          refine aw_iretQ dX3_valueOnceSaid_66 rfl ?_
          exact ⟨by rw [pvO, if_neg h2, if_pos h1]; exact q52.1, q52.2⟩
      · omega
    · refine aw_iload_n dX3_valueOnceSaid_0 rfl ?_
      refine aw_aload_n dX3_valueOnceSaid_1 rfl ?_
      refine aw_getR (kx := 2) fl_X3_24 dX3_valueOnceSaid_2 rfl rfl rfl ?_
      refine aw_getR (kx := 3) fl_X3_98 dX3_valueOnceSaid_5 rfl rfl rfl ?_
      refine aw_iload_n dX3_valueOnceSaid_8 rfl ?_
      refine aw_iaload dX3_valueOnceSaid_9 rfl (by decide) (by omega) ?_
      refine aw_top hkd ?_
      refine aw_cS2IF (c_X0_afterWord (by omega)) lk_X3_101 dX3_valueOnceSaid_10 (by omega) (fun _ => Nat.le_of_ble_eq_true rfl) ?_
      refine aw_top (cv_aft hof) ?_
      refine aw_istore4 dX3_valueOnceSaid_13 (by decide) rfl ?_
      refine aw_aload_n dX3_valueOnceSaid_15 rfl ?_
      refine aw_getI (kx := 4) fl_X3_20 dX3_valueOnceSaid_16 rfl rfl rfl ?_
      refine aw_iconst dX3_valueOnceSaid_19 ?_
      refine aw_icmp_ne (tgt := 39) dX3_valueOnceSaid_20 rfl (by omega) (by omega) (fun hc20 => ?_) (fun hc20 => ?_)
      · refine aw_aload_n dX3_valueOnceSaid_39 rfl ?_
        refine aw_getI (kx := 4) fl_X3_20 dX3_valueOnceSaid_40 rfl rfl rfl ?_
        refine aw_iconst dX3_valueOnceSaid_43 ?_
        refine aw_icmp_ne (tgt := 58) dX3_valueOnceSaid_44 rfl (by omega) (by omega) (fun hc44 => ?_) (fun hc44 => ?_)
        · refine aw_aload_n dX3_valueOnceSaid_58 rfl ?_
          refine aw_iload_n dX3_valueOnceSaid_59 rfl ?_
          refine aw_iload dX3_valueOnceSaid_60 rfl ?_
          refine aw_iload_n dX3_valueOnceSaid_62 rfl ?_
          refine aw_cV3I (c_X3_leastBehind hs hR hx hlv hvg hdp (fun k hk2 => ⟨hVk k hk2, hk.2.2.2.2.1 _ _ (n1 k hk2) hvg⟩) hP) lk_X3_107 dX3_valueOnceSaid_63 (by omega) rfl rfl (fun _ => Nat.le_of_ble_eq_true rfl) (fun v63 h63 q63 => ?_)
          refine aw_iretQ dX3_valueOnceSaid_66 rfl ?_
          exact ⟨by rw [pvO, if_neg h2, if_neg h1]; exact q63.1, q63.2⟩
        · omega
      · omega
theorem pv_in {g : am_H} {aim : Int} {fs : Int → Int} {D : Int → Prop} {Val : Int → Int → Int} (hs : MVs g) (hk : pvOK g aim fs D Val) {x of : Int} (hD : D x) (hof : VS of) (hdg : ¬ dgF g x = 0) : ∀ i : Nat, (i : Int) ≤ g 0 15 → -100000000 ≤ (dsL i).foldl (pvS g aim fs Val x of) (pvO g aim fs Val x of) ∧ (dsL i).foldl (pvS g aim fs Val x of) (pvO g aim fs Val x of) ≤ 100000000
  | 0, _ => hk.2.2.2.2.2 x of hD hof hdg
  | i + 1, hi => by
    have ih := pv_in hs hk hD hof hdg i (by omega)
    have hnd := hs.2.2.1
    unfold dsL at ih ⊢
    rw [wl_fold, if_pos rfl]
    generalize (wl (fun _ => 0) 0 i).foldl (pvS g aim fs Val x of) (pvO g aim fs Val x of) = s at ih ⊢
    unfold pvS
    by_cases hc : cbg of i
    · have hv := (hs.2.2.2.2.2.2.2.1 i (by omega) (by omega)).1
      have := hk.2.2.2.2.2 x (bgw (g 10 i) of i) hD (vs_bgw hof hc ⟨by omega, by omega⟩ hv) hdg
      rw [if_pos hc]; split <;> omega
    · rw [if_neg hc]; exact ih
theorem lp_X3_value {hB g : am_H} {D : Int → Prop} {Val : Int → Int → Int} {fs : Int → Int} {aim : Int} {lv : Nat} {x of dp : Int} (hs : MVs g) (hR : SpR hB g) (hO : OlR hB g) (hk : pvOK g aim fs D Val) (ha : hB 60 4 = aim ∧ 0 ≤ aim ∧ aim ≤ 2) (hfs : aim = 2 → ∀ y : Int, D y → ¬ dgF g y = 0 → hB 62 y = fs y) (hD : D x) (hdg : ¬ dgF g x = 0) (hlv : 10 ≤ lv) (hof : VS of) (hdp : 0 ≤ dp ∧ dp ≤ x) (hV : ∀ y : Int, x < y → D y → pvC hB g D Val lv y) : ∀ (m i : Nat) (h : am_H), (i : Int) ≤ g 0 15 → g 0 15 - i < m → PmO hB g D Val h → AW GC mX3_value (lv + 3) (am_QI (fun v h2 => v = Val x of ∧ PmO hB g D Val h2)) 93 [some (am_R 60), some (am_I x), some (am_I (cv of)), some (am_I dp), some (am_I (x * 621 + ix (cv of))), some (am_I ((dsL i).foldl (pvS g aim fs Val x of) (pvO g aim fs Val x of))), some (am_I i)] [] h := by
  have hnn := hs.1
  have hnd := hs.2.2.1
  have hx := hk.1 x hD
  have hix := (cv_ix hof).1
  intro m
  induction m with
  | zero => intro i h h1 h2; omega
  | succ m ih =>
    intro i h h1 h2 hP
    have hR' := hP.sp hR
    have e15 := hR'.1.2.2
    have e1 : (dsL (i + 1)).foldl (pvS g aim fs Val x of) (pvO g aim fs Val x of) = pvS g aim fs Val x of ((dsL i).foldl (pvS g aim fs Val x of) (pvO g aim fs Val x of)) i := by
      unfold dsL; rw [wl_fold, if_pos rfl]
    have hin := pv_in hs hk hD hof hdg i h1
    by_cases hlt : (i : Int) < g 0 15
    · have hv := (hs.2.2.2.2.2.2.2.1 i (by omega) (by omega)).1
      by_cases hc : cbg of i
      · have hvb := vs_bgw hof hc ⟨by omega, by omega⟩ hv
        have hor := hk.2.2.2.2.2 x (bgw (g 10 i) of i) hD hvb hdg
        rw [pvS, if_pos hc] at e1
        refine aw_iload dX3_value_93 rfl ?_
        refine aw_aload_n dX3_value_95 rfl ?_
        refine aw_getR (kx := 2) fl_X3_24 dX3_value_96 rfl rfl rfl ?_
        refine aw_getI (kx := 2) fl_X3_71 dX3_value_99 rfl rfl rfl ?_
        refine aw_icmp_ge (tgt := 141) dX3_value_102 rfl (by omega) (by omega) (fun hc102 => ?_) (fun hc102 => ?_)
        · omega
        · refine aw_aload_n dX3_value_105 rfl ?_
          refine aw_iload_n dX3_value_106 rfl ?_
          refine aw_iload dX3_value_107 rfl ?_
          refine aw_cV2IF (c_X3_canBegin hof (by omega)) lk_X3_74 dX3_value_109 (by omega) rfl rfl (fun _ => Nat.le_of_ble_eq_true rfl) ?_
          refine aw_ifb_eq (tgt := 135) dX3_value_112 rfl (fun hc112 => ?_) (fun hc112 => ?_)
          · exact absurd hc hc112
          · refine aw_iload dX3_value_115 rfl ?_
            refine aw_aload_n dX3_value_117 rfl ?_
            refine aw_iload_n dX3_value_118 rfl ?_
            refine aw_aload_n dX3_value_119 rfl ?_
            refine aw_iload_n dX3_value_120 rfl ?_
            refine aw_iload dX3_value_121 rfl ?_
            refine aw_cV2IF (c_X3_begun hs hR' hof ⟨by omega, hlt⟩ hc) lk_X3_78 dX3_value_123 (by omega) rfl rfl (fun _ => Nat.le_of_ble_eq_true rfl) ?_
            refine aw_iload_n dX3_value_126 rfl ?_
            refine aw_cV3I (c_X3_once hs hR hO hk ha hfs hD hdg hlv hvb hdp hV hP) lk_X3_68 dX3_value_127 (by omega) rfl rfl (fun _ => Nat.le_of_ble_eq_true rfl) (fun v127 h127 q127 => ?_)
            refine aw_top q127.1 ?_
            refine aw_cS2IF (c_J9_max (by omega) (by omega)) lk_X3_81 dX3_value_130 (by omega) (fun _ => Nat.le_of_ble_eq_true rfl) ?_
            refine aw_istore5 dX3_value_133 (by decide) rfl ?_
            refine aw_iinc6 dX3_value_135 (by decide) rfl ?_
            refine aw_goto (tgt := 93) dX3_value_138 rfl ?_
            rw [← e1]
            exact ih (i + 1) h127 (by omega) (by omega) q127.2
      · rw [pvS, if_neg hc] at e1
        refine aw_iload dX3_value_93 rfl ?_
        refine aw_aload_n dX3_value_95 rfl ?_
        refine aw_getR (kx := 2) fl_X3_24 dX3_value_96 rfl rfl rfl ?_
        refine aw_getI (kx := 2) fl_X3_71 dX3_value_99 rfl rfl rfl ?_
        refine aw_icmp_ge (tgt := 141) dX3_value_102 rfl (by omega) (by omega) (fun hc102 => ?_) (fun hc102 => ?_)
        · omega
        · refine aw_aload_n dX3_value_105 rfl ?_
          refine aw_iload_n dX3_value_106 rfl ?_
          refine aw_iload dX3_value_107 rfl ?_
          refine aw_cV2IF (c_X3_canBegin hof (by omega)) lk_X3_74 dX3_value_109 (by omega) rfl rfl (fun _ => Nat.le_of_ble_eq_true rfl) ?_
          refine aw_ifb_eq (tgt := 135) dX3_value_112 rfl (fun hc112 => ?_) (fun hc112 => ?_)
          · refine aw_iinc6 dX3_value_135 (by decide) rfl ?_
            refine aw_goto (tgt := 93) dX3_value_138 rfl ?_
            rw [← e1]
            exact ih (i + 1) h (by omega) (by omega) hP
          · exact absurd hc112 hc
    · have ei : (g 0 15).toNat = i := by omega
      have eV := hk.2.2.1 x of hD hof hdg
      rw [ei] at eV
      rw [← eV]
      refine aw_iload dX3_value_93 rfl ?_
      refine aw_aload_n dX3_value_95 rfl ?_
      refine aw_getR (kx := 2) fl_X3_24 dX3_value_96 rfl rfl rfl ?_
      refine aw_getI (kx := 2) fl_X3_71 dX3_value_99 rfl rfl rfl ?_
      refine aw_icmp_ge (tgt := 141) dX3_value_102 rfl (by omega) (by omega) (fun hc102 => ?_) (fun hc102 => ?_)
      · refine aw_aload_n dX3_value_141 rfl ?_
        refine aw_getR (kx := 0) fl_X3_11 dX3_value_142 rfl rfl rfl ?_
        refine aw_iload dX3_value_145 rfl ?_
        refine aw_iload dX3_value_147 rfl ?_
        refine aw_iastore dX3_value_149 rfl (by decide) (by omega) ?_
        refine aw_iload dX3_value_150 rfl ?_
        refine aw_iretQ dX3_value_152 rfl ?_
        refine ⟨rfl, fun c a => by rw [am_set_c a]; exact hP.1 c a, fun y o hy ho => ?_⟩
        by_cases e : y * 621 + ix (cv o) = x * 621 + ix (cv of)
        · have hiy := (cv_ix ho).1
          have e3 : y = x := by omega
          have e4 := cv_inj ho hof (by omega)
          subst e3; subst e4
          rw [am_set_s]; exact Or.inr rfl
        · rw [am_set_i e]; exact hP.2 y o hy ho
      · omega
theorem c_X3_value {hB g : am_H} {D : Int → Prop} {Val : Int → Int → Int} {fs : Int → Int} {aim : Int} (hs : MVs g) (hR : SpR hB g) (hO : OlR hB g) (hk : pvOK g aim fs D Val) (ha : hB 60 4 = aim ∧ 0 ≤ aim ∧ aim ≤ 2) (hfs : aim = 2 → ∀ y : Int, D y → ¬ dgF g y = 0 → hB 62 y = fs y) : ∀ (n : Nat) (x : Int), D x → g 0 6 - x ≤ n → pvC hB g D Val (10 + 3 * n) x := by
  have hnn := hs.1
  intro n
  induction n with
  | zero => intro x hD hn; have := hk.1 x hD; omega
  | succ n ihn =>
    intro x hD hn h of dp hP hof hd0 hd1
    have hx := hk.1 x hD
    have hR' := hP.sp hR
    have hO' := hP.ol hnn.2 hO
    have h60 : h 60 4 = aim := by rw [hP.1 60 (by decide)]; exact ha.1
    have h58 := hO'.2 x (by omega) (by omega)
    have hix := (cv_ix hof).1
    have hV : ∀ y : Int, x < y → D y → pvC hB g D Val (10 + 3 * n) y := fun y a b => ihn y b (by omega)
    refine am_start [some (am_R 60), some (am_I x), some (am_I (cv of)), some (am_I dp), none, none, none] rfl rfl (by decide) (Nat.le_of_ble_eq_true rfl) ?_
    by_cases hdg : dgF g x = 0
    · have eV := hk.2.1 x of hD hof hdg
      refine aw_aload_n dX3_value_0 rfl ?_
      refine aw_getR (kx := 2) fl_X3_24 dX3_value_1 rfl rfl rfl ?_
      refine aw_iload_n dX3_value_4 rfl ?_
      refine aw_cV1IF (c_X5_isOver hs hR' hx) lk_X3_51 dX3_value_5 (by omega) rfl rfl (fun _ => Nat.le_of_ble_eq_true rfl) ?_
      refine aw_ifb_ne (tgt := 17) dX3_value_8 rfl (fun hc8 => ?_) (fun hc8 => ?_)
      · refine aw_aload_n dX3_value_17 rfl ?_
        refine aw_getR (kx := 2) fl_X3_24 dX3_value_18 rfl rfl rfl ?_
        refine aw_iload_n dX3_value_21 rfl ?_
        refine aw_iload_n dX3_value_22 rfl ?_
        refine aw_cV2IF (c_X5_gain hs hR' hx hof) lk_X3_55 dX3_value_23 (by omega) rfl rfl (fun _ => Nat.le_of_ble_eq_true rfl) ?_
        refine aw_aload_n dX3_value_26 rfl ?_
        refine aw_getI (kx := 4) fl_X3_20 dX3_value_27 rfl rfl rfl ?_
        refine aw_iconst dX3_value_30 ?_
        refine aw_icmp_ne (tgt := 46) dX3_value_31 rfl (by omega) (by omega) (fun hc31 => ?_) (fun hc31 => ?_)
        · refine aw_iconst dX3_value_46 ?_
          refine aw_imul dX3_value_47 ?_
          refine aw_iretQ dX3_value_48 rfl ?_
          exact ⟨by rw [eV, if_neg (by omega)], hP⟩
        · refine aw_aload_n dX3_value_34 rfl ?_
          refine aw_getR (kx := 3) fl_X3_28 dX3_value_35 rfl rfl rfl ?_
          refine aw_getR (kx := 7) fl_X3_59 dX3_value_38 rfl rfl rfl ?_
          refine aw_iload_n dX3_value_41 rfl ?_
          refine aw_iaload dX3_value_42 rfl (by decide) (by omega) ?_
          refine aw_top h58 ?_
          refine aw_goto (tgt := 47) dX3_value_43 rfl ?_
          refine aw_imul dX3_value_47 ?_
          refine aw_iretQ dX3_value_48 rfl ?_
          exact ⟨by rw [eV, if_pos (by omega)], hP⟩
      · exact absurd hdg hc8
    · have hm := hP.2 x of hD hof
      have hvr := hk.2.2.2.2.1 x of hD hof
      refine aw_aload_n dX3_value_0 rfl ?_
      refine aw_getR (kx := 2) fl_X3_24 dX3_value_1 rfl rfl rfl ?_
      refine aw_iload_n dX3_value_4 rfl ?_
      refine aw_cV1IF (c_X5_isOver hs hR' hx) lk_X3_51 dX3_value_5 (by omega) rfl rfl (fun _ => Nat.le_of_ble_eq_true rfl) ?_
      refine aw_ifb_ne (tgt := 17) dX3_value_8 rfl (fun hc8 => ?_) (fun hc8 => ?_)
      · exact absurd hc8 hdg
      · refine aw_iload_n dX3_value_11 rfl ?_
        refine aw_bipush (by decide) dX3_value_12 ?_
        refine aw_icmp_le (tgt := 49) dX3_value_14 rfl (by omega) (by omega) (fun hc14 => ?_) (fun hc14 => ?_)
        · refine aw_iload_n dX3_value_49 rfl ?_
          refine aw_sipush (by decide) dX3_value_50 ?_
          refine aw_imul dX3_value_53 ?_
          refine aw_iload_n dX3_value_54 rfl ?_
          refine aw_cS1IF c_X0_index lk_X3_64 dX3_value_55 (by omega) (fun _ => Nat.le_of_ble_eq_true rfl) ?_
          refine aw_iadd dX3_value_58 ?_
          refine aw_istore4 dX3_value_59 (by decide) rfl ?_
          refine aw_aload_n dX3_value_61 rfl ?_
          refine aw_getR (kx := 0) fl_X3_11 dX3_value_62 rfl rfl rfl ?_
          refine aw_iload dX3_value_65 rfl ?_
          refine aw_iaload dX3_value_67 rfl (by decide) (by omega) ?_
          refine aw_ldc (n := -1000000) kc_X3_32 rfl dX3_value_68 ?_
          refine aw_icmp_eq (tgt := 81) dX3_value_70 rfl (by omega) (by omega) (fun hc70 => ?_) (fun hc70 => ?_)
          · refine aw_aload_n dX3_value_81 rfl ?_
            refine aw_iload_n dX3_value_82 rfl ?_
            refine aw_iload_n dX3_value_83 rfl ?_
            refine aw_iload_n dX3_value_84 rfl ?_
            refine aw_cV3I (c_X3_once hs hR hO hk ha hfs hD hdg (by omega) hof ⟨hd0, hd1⟩ hV hP) lk_X3_68 dX3_value_85 (by omega) rfl rfl (fun _ => Nat.le_of_ble_eq_true rfl) (fun v85 h85 q85 => ?_)
            refine aw_top q85.1 ?_
            refine aw_istore5 dX3_value_88 (by decide) rfl ?_
            refine aw_iconst dX3_value_90 ?_
            refine aw_istore6 dX3_value_91 (by decide) rfl ?_
            exact lp_X3_value hs hR hO hk ha hfs hD hdg (by omega) hof ⟨hd0, hd1⟩ hV 5 0 h85 (by have := hs.2.2.1; omega) (by have := hs.2.2.1; omega) q85.2
          · refine aw_aload_n dX3_value_73 rfl ?_
            refine aw_getR (kx := 0) fl_X3_11 dX3_value_74 rfl rfl rfl ?_
            refine aw_iload dX3_value_77 rfl ?_
            refine aw_iaload dX3_value_79 rfl (by decide) (by omega) ?_
            refine aw_iretQ dX3_value_80 rfl ?_
            exact ⟨by omega, hP⟩
        · omega
