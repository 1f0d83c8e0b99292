theorem lp_X7_ws1i {h g : am_H} {st s : Int} {Q : Option am_V → am_H → Prop} (hC : CRel h g) (hV : MOK g) {x : Nat} (hx : (x : Int) < g 0 6) (K : ∀ y6 : Option am_V, AW GC mX7_withSpeech 9 Q 5 [some (am_R 0), some (am_J st), none, some (am_J (mixF (fun k => nodeV g (k / 4) (k % 4)) s (4 * (x + 1)))), none, some (am_I (x + 1 : Nat)), y6] [] h) : ∀ (m j : Nat), j ≤ 4 → 4 - j < m → AW GC mX7_withSpeech 9 Q 20 [some (am_R 0), some (am_J st), none, some (am_J (mixF (fun k => nodeV g (k / 4) (k % 4)) s (4 * x + j))), none, some (am_I x), some (am_I j)] [] h := by
  intro m
  induction m with
  | zero => intro j h1 h2; omega
  | succ m ih =>
    intro j h1 h2
    by_cases hj : j < 4
    · have hr := nodeV_rng hV.s (x := x) (by omega) hx j
      have e : mixF (fun k => nodeV g (k / 4) (k % 4)) s (4 * x + (j + 1)) = 31 * mixF (fun k => nodeV g (k / 4) (k % 4)) s (4 * x + j) + nodeV g x j := by
        show 31 * _ + nodeV g (((4 * x + j : Nat) : Int) / 4) (((4 * x + j : Nat) : Int) % 4) = _
        rw [show ((4 * x + j : Nat) : Int) / 4 = x by omega, show ((4 * x + j : Nat) : Int) % 4 = j by omega]; rfl
      refine aw_iload dX7_withSpeech_20 rfl ?_
      refine aw_iconst dX7_withSpeech_22 ?_
      refine aw_icmp_gt (tgt := 46) dX7_withSpeech_23 rfl (by omega) (by omega) (fun hc23 => ?_) (fun hc23 => ?_)
      · omega
      · refine aw_lload_n dX7_withSpeech_26 rfl ?_
        refine aw_aload_n dX7_withSpeech_27 rfl ?_
        refine aw_iload dX7_withSpeech_28 rfl ?_
        refine aw_iload dX7_withSpeech_30 rfl ?_
        refine aw_cV2IF (c_X7_nodeTells hC hV (by omega) (by omega)) lk_X7_156 dX7_withSpeech_32 (by decide) rfl rfl (fun _ => Nat.le_of_ble_eq_true rfl) ?_
        refine aw_i2l (by omega) dX7_withSpeech_35 ?_
        refine aw_cS2JF (c_X7_mixed) lk_X7_370 dX7_withSpeech_36 (by decide) (fun _ => Nat.le_of_ble_eq_true rfl) ?_
        refine aw_lstore_3 dX7_withSpeech_39 (by decide) rfl ?_
        refine aw_iinc6 dX7_withSpeech_40 (by decide) rfl ?_
        refine aw_goto (tgt := 20) dX7_withSpeech_43 rfl ?_
        refine aw_ls ?_ (ih (j + 1) (by omega) (by omega)); rw [e]; rfl
    · have e : j = 4 := by omega
      subst e
      refine aw_iload dX7_withSpeech_20 rfl ?_
      refine aw_iconst dX7_withSpeech_22 ?_
      refine aw_icmp_gt (tgt := 46) dX7_withSpeech_23 rfl (by omega) (by omega) (fun hc23 => ?_) (fun hc23 => ?_)
      · refine aw_iinc5 dX7_withSpeech_46 (by decide) rfl ?_
        refine aw_goto (tgt := 5) dX7_withSpeech_49 rfl ?_
        exact K _
      · omega
theorem lp_X7_ws1 {h g : am_H} {st s : Int} {Q : Option am_V → am_H → Prop} (hC : CRel h g) (hV : MOK g) (K : ∀ x5 x6 : Option am_V, am_nl [some (am_R 0), some (am_J st), none, some (am_J 0), none, x5, x6] 6 = true → AW GC mX7_withSpeech 9 Q 52 [some (am_R 0), some (am_J st), none, some (am_J (mixF (fun k => nodeV g (k / 4) (k % 4)) s (4 * g 0 6).toNat)), none, x5, x6] [] h) : ∀ (m x : Nat) (x6 : Option am_V), (x : Int) ≤ g 0 6 → g 0 6 - x < m → AW GC mX7_withSpeech 9 Q 5 [some (am_R 0), some (am_J st), none, some (am_J (mixF (fun k => nodeV g (k / 4) (k % 4)) s (4 * x))), none, some (am_I x), x6] [] h := by
  obtain ⟨n1, n2, n3⟩ := hC.nn
  have r1 := hV.s.1
  have r2 := hV.s.2.1
  have r3 := hV.s.2.2.1
  intro m
  induction m with
  | zero => intro x x6 h1 h2; omega
  | succ m ih =>
    intro x x6 h1 h2
    by_cases hx : (x : Int) < g 0 6
    · refine aw_iload dX7_withSpeech_5 rfl ?_
      refine aw_aload_n dX7_withSpeech_7 rfl ?_
      refine aw_getR (kx := 4) fl_X7_29 dX7_withSpeech_8 rfl rfl rfl ?_
      refine aw_getI (kx := 0) fl_X7_150 dX7_withSpeech_11 rfl rfl rfl ?_
      refine aw_icmp_ge (tgt := 52) dX7_withSpeech_14 rfl (by omega) (by omega) (fun hc14 => ?_) (fun hc14 => ?_)
      · omega
      · refine aw_iconst dX7_withSpeech_17 ?_
        refine aw_istore6 dX7_withSpeech_18 (by decide) rfl ?_
        exact lp_X7_ws1i hC hV hx (fun y6 => ih (x + 1) y6 (by omega) (by omega)) 6 0 (by omega) (by omega)
    · have e : (4 * g 0 6).toNat = 4 * x := by omega
      rw [e] at K
      refine aw_iload dX7_withSpeech_5 rfl ?_
      refine aw_aload_n dX7_withSpeech_7 rfl ?_
      refine aw_getR (kx := 4) fl_X7_29 dX7_withSpeech_8 rfl rfl rfl ?_
      refine aw_getI (kx := 0) fl_X7_150 dX7_withSpeech_11 rfl rfl rfl ?_
      refine aw_icmp_ge (tgt := 52) dX7_withSpeech_14 rfl (by omega) (by omega) (fun hc14 => ?_) (fun hc14 => ?_)
      · exact K _ _ rfl
      · omega
theorem lp_X7_ws2i {h g : am_H} {st s : Int} {Q : Option am_V → am_H → Prop} (hC : CRel h g) (hV : MOK g) {x : Nat} (hx : (x : Int) < g 0 10) (K : ∀ y6 : Option am_V, AW GC mX7_withSpeech 9 Q 55 [some (am_R 0), some (am_J st), none, some (am_J (mixF (fun k => wordV g (k / 3) (k % 3)) s (3 * (x + 1)))), none, some (am_I (x + 1 : Nat)), y6] [] h) : ∀ (m j : Nat), j ≤ 3 → 3 - j < m → AW GC mX7_withSpeech 9 Q 70 [some (am_R 0), some (am_J st), none, some (am_J (mixF (fun k => wordV g (k / 3) (k % 3)) s (3 * x + j))), none, some (am_I x), some (am_I j)] [] h := by
  intro m
  induction m with
  | zero => intro j h1 h2; omega
  | succ m ih =>
    intro j h1 h2
    by_cases hj : j < 3
    · have hr : 0 ≤ wordV g x j ∧ wordV g x j ≤ 14 := by
        have a := hV.s.2.2.2.2.1 x (by omega) hx
        have b := hV.s.1
        unfold wordV; repeat' split
        all_goals omega
      have e : mixF (fun k => wordV g (k / 3) (k % 3)) s (3 * x + (j + 1)) = 31 * mixF (fun k => wordV g (k / 3) (k % 3)) s (3 * x + j) + wordV g x j := by
        show 31 * _ + wordV g (((3 * x + j : Nat) : Int) / 3) (((3 * x + j : Nat) : Int) % 3) = _
        rw [show ((3 * x + j : Nat) : Int) / 3 = x by omega, show ((3 * x + j : Nat) : Int) % 3 = j by omega]; rfl
      refine aw_iload dX7_withSpeech_70 rfl ?_
      refine aw_iconst dX7_withSpeech_72 ?_
      refine aw_icmp_gt (tgt := 96) dX7_withSpeech_73 rfl (by omega) (by omega) (fun hc73 => ?_) (fun hc73 => ?_)
      · omega
      · refine aw_lload_n dX7_withSpeech_76 rfl ?_
        refine aw_aload_n dX7_withSpeech_77 rfl ?_
        refine aw_iload dX7_withSpeech_78 rfl ?_
        refine aw_iload dX7_withSpeech_80 rfl ?_
        refine aw_cV2IF (c_X7_wordTells hC hV (by omega) (by omega)) lk_X7_162 dX7_withSpeech_82 (by decide) rfl rfl (fun _ => Nat.le_of_ble_eq_true rfl) ?_
        refine aw_i2l (by omega) dX7_withSpeech_85 ?_
        refine aw_cS2JF (c_X7_mixed) lk_X7_370 dX7_withSpeech_86 (by decide) (fun _ => Nat.le_of_ble_eq_true rfl) ?_
        refine aw_lstore_3 dX7_withSpeech_89 (by decide) rfl ?_
        refine aw_iinc6 dX7_withSpeech_90 (by decide) rfl ?_
        refine aw_goto (tgt := 70) dX7_withSpeech_93 rfl ?_
        refine aw_ls ?_ (ih (j + 1) (by omega) (by omega)); rw [e]; rfl
    · have e : j = 3 := by omega
      subst e
      refine aw_iload dX7_withSpeech_70 rfl ?_
      refine aw_iconst dX7_withSpeech_72 ?_
      refine aw_icmp_gt (tgt := 96) dX7_withSpeech_73 rfl (by omega) (by omega) (fun hc73 => ?_) (fun hc73 => ?_)
      · refine aw_iinc5 dX7_withSpeech_96 (by decide) rfl ?_
        refine aw_goto (tgt := 55) dX7_withSpeech_99 rfl ?_
        exact K _
      · omega
theorem lp_X7_ws2 {h g : am_H} {st s : Int} {Q : Option am_V → am_H → Prop} (hC : CRel h g) (hV : MOK g) (K : ∀ x5 x6 : Option am_V, am_nl [some (am_R 0), some (am_J st), none, some (am_J 0), none, x5, x6] 6 = true → AW GC mX7_withSpeech 9 Q 102 [some (am_R 0), some (am_J st), none, some (am_J (mixF (fun k => wordV g (k / 3) (k % 3)) s (3 * g 0 10).toNat)), none, x5, x6] [] h) : ∀ (m x : Nat) (x6 : Option am_V), (x : Int) ≤ g 0 10 → g 0 10 - x < m → AW GC mX7_withSpeech 9 Q 55 [some (am_R 0), some (am_J st), none, some (am_J (mixF (fun k => wordV g (k / 3) (k % 3)) s (3 * x))), none, some (am_I x), x6] [] h := by
  obtain ⟨n1, n2, n3⟩ := hC.nn
  have r1 := hV.s.1
  have r2 := hV.s.2.1
  have r3 := hV.s.2.2.1
  intro m
  induction m with
  | zero => intro x x6 h1 h2; omega
  | succ m ih =>
    intro x x6 h1 h2
    by_cases hx : (x : Int) < g 0 10
    · refine aw_iload dX7_withSpeech_55 rfl ?_
      refine aw_aload_n dX7_withSpeech_57 rfl ?_
      refine aw_getR (kx := 4) fl_X7_29 dX7_withSpeech_58 rfl rfl rfl ?_
      refine aw_getI (kx := 1) fl_X7_389 dX7_withSpeech_61 rfl rfl rfl ?_
      refine aw_icmp_ge (tgt := 102) dX7_withSpeech_64 rfl (by omega) (by omega) (fun hc64 => ?_) (fun hc64 => ?_)
      · omega
      · refine aw_iconst dX7_withSpeech_67 ?_
        refine aw_istore6 dX7_withSpeech_68 (by decide) rfl ?_
        exact lp_X7_ws2i hC hV hx (fun y6 => ih (x + 1) y6 (by omega) (by omega)) 5 0 (by omega) (by omega)
    · have e : (3 * g 0 10).toNat = 3 * x := by omega
      rw [e] at K
      refine aw_iload dX7_withSpeech_55 rfl ?_
      refine aw_aload_n dX7_withSpeech_57 rfl ?_
      refine aw_getR (kx := 4) fl_X7_29 dX7_withSpeech_58 rfl rfl rfl ?_
      refine aw_getI (kx := 1) fl_X7_389 dX7_withSpeech_61 rfl rfl rfl ?_
      refine aw_icmp_ge (tgt := 102) dX7_withSpeech_64 rfl (by omega) (by omega) (fun hc64 => ?_) (fun hc64 => ?_)
      · exact K _ _ rfl
      · omega
theorem lp_X7_ws3i {h g : am_H} {st s : Int} {Q : Option am_V → am_H → Prop} (hC : CRel h g) (hV : MOK g) {x : Nat} (hx : (x : Int) < g 0 15) (K : ∀ y6 : Option am_V, AW GC mX7_withSpeech 9 Q 105 [some (am_R 0), some (am_J st), none, some (am_J (mixF (fun k => deedV g (k / 5) (k % 5)) s (5 * (x + 1)))), none, some (am_I (x + 1 : Nat)), y6] [] h) : ∀ (m j : Nat), j ≤ 5 → 5 - j < m → AW GC mX7_withSpeech 9 Q 120 [some (am_R 0), some (am_J st), none, some (am_J (mixF (fun k => deedV g (k / 5) (k % 5)) s (5 * x + j))), none, some (am_I x), some (am_I j)] [] h := by
  intro m
  induction m with
  | zero => intro j h1 h2; omega
  | succ m ih =>
    intro j h1 h2
    by_cases hj : j < 5
    · have hr : 0 ≤ deedV g x j ∧ deedV g x j ≤ 14 := by
        have a := hV.s.2.2.2.2.2.2.2.1 x (by omega) hx
        have b := hw_rng (g 0 19) x
        unfold deedV; repeat' split
        all_goals omega
      have e : mixF (fun k => deedV g (k / 5) (k % 5)) s (5 * x + (j + 1)) = 31 * mixF (fun k => deedV g (k / 5) (k % 5)) s (5 * x + j) + deedV g x j := by
        show 31 * _ + deedV g (((5 * x + j : Nat) : Int) / 5) (((5 * x + j : Nat) : Int) % 5) = _
        rw [show ((5 * x + j : Nat) : Int) / 5 = x by omega, show ((5 * x + j : Nat) : Int) % 5 = j by omega]; rfl
      refine aw_iload dX7_withSpeech_120 rfl ?_
      refine aw_iconst dX7_withSpeech_122 ?_
      refine aw_icmp_gt (tgt := 146) dX7_withSpeech_123 rfl (by omega) (by omega) (fun hc123 => ?_) (fun hc123 => ?_)
      · omega
      · refine aw_lload_n dX7_withSpeech_126 rfl ?_
        refine aw_aload_n dX7_withSpeech_127 rfl ?_
        refine aw_iload dX7_withSpeech_128 rfl ?_
        refine aw_iload dX7_withSpeech_130 rfl ?_
        refine aw_cV2IF (c_X7_deedTells hC hV (by omega) (by omega)) lk_X7_168 dX7_withSpeech_132 (by decide) rfl rfl (fun _ => Nat.le_of_ble_eq_true rfl) ?_
        refine aw_i2l (by omega) dX7_withSpeech_135 ?_
        refine aw_cS2JF (c_X7_mixed) lk_X7_370 dX7_withSpeech_136 (by decide) (fun _ => Nat.le_of_ble_eq_true rfl) ?_
        refine aw_lstore_3 dX7_withSpeech_139 (by decide) rfl ?_
        refine aw_iinc6 dX7_withSpeech_140 (by decide) rfl ?_
        refine aw_goto (tgt := 120) dX7_withSpeech_143 rfl ?_
        refine aw_ls ?_ (ih (j + 1) (by omega) (by omega)); rw [e]; rfl
    · have e : j = 5 := by omega
      subst e
      refine aw_iload dX7_withSpeech_120 rfl ?_
      refine aw_iconst dX7_withSpeech_122 ?_
      refine aw_icmp_gt (tgt := 146) dX7_withSpeech_123 rfl (by omega) (by omega) (fun hc123 => ?_) (fun hc123 => ?_)
      · refine aw_iinc5 dX7_withSpeech_146 (by decide) rfl ?_
        refine aw_goto (tgt := 105) dX7_withSpeech_149 rfl ?_
        exact K _
      · omega
theorem lp_X7_ws3 {h g : am_H} {st s : Int} {Q : Option am_V → am_H → Prop} (hC : CRel h g) (hV : MOK g) (K : ∀ x5 x6 : Option am_V, am_nl [some (am_R 0), some (am_J st), none, some (am_J 0), none, x5, x6] 6 = true → AW GC mX7_withSpeech 9 Q 152 [some (am_R 0), some (am_J st), none, some (am_J (mixF (fun k => deedV g (k / 5) (k % 5)) s (5 * g 0 15).toNat)), none, x5, x6] [] h) : ∀ (m x : Nat) (x6 : Option am_V), (x : Int) ≤ g 0 15 → g 0 15 - x < m → AW GC mX7_withSpeech 9 Q 105 [some (am_R 0), some (am_J st), none, some (am_J (mixF (fun k => deedV g (k / 5) (k % 5)) s (5 * x))), none, some (am_I x), x6] [] h := by
  obtain ⟨n1, n2, n3⟩ := hC.nn
  have r1 := hV.s.1
  have r2 := hV.s.2.1
  have r3 := hV.s.2.2.1
  intro m
  induction m with
  | zero => intro x x6 h1 h2; omega
  | succ m ih =>
    intro x x6 h1 h2
    by_cases hx : (x : Int) < g 0 15
    · refine aw_iload dX7_withSpeech_105 rfl ?_
      refine aw_aload_n dX7_withSpeech_107 rfl ?_
      refine aw_getR (kx := 4) fl_X7_29 dX7_withSpeech_108 rfl rfl rfl ?_
      refine aw_getI (kx := 2) fl_X7_392 dX7_withSpeech_111 rfl rfl rfl ?_
      refine aw_icmp_ge (tgt := 152) dX7_withSpeech_114 rfl (by omega) (by omega) (fun hc114 => ?_) (fun hc114 => ?_)
      · omega
      · refine aw_iconst dX7_withSpeech_117 ?_
        refine aw_istore6 dX7_withSpeech_118 (by decide) rfl ?_
        exact lp_X7_ws3i hC hV hx (fun y6 => ih (x + 1) y6 (by omega) (by omega)) 7 0 (by omega) (by omega)
    · have e : (5 * g 0 15).toNat = 5 * x := by omega
      rw [e] at K
      refine aw_iload dX7_withSpeech_105 rfl ?_
      refine aw_aload_n dX7_withSpeech_107 rfl ?_
      refine aw_getR (kx := 4) fl_X7_29 dX7_withSpeech_108 rfl rfl rfl ?_
      refine aw_getI (kx := 2) fl_X7_392 dX7_withSpeech_111 rfl rfl rfl ?_
      refine aw_icmp_ge (tgt := 152) dX7_withSpeech_114 rfl (by omega) (by omega) (fun hc114 => ?_) (fun hc114 => ?_)
      · exact K _ _ rfl
      · omega
theorem c_X7_withSpeech {h g : am_H} {st : Int} (hC : CRel h g) (hV : MOK g) : AMet GC mX7_withSpeech 9 [am_R 0, am_J st] h (am_FJ (mixF (fun k => deedV g (k / 5) (k % 5)) (mixF (fun k => wordV g (k / 3) (k % 3)) (mixF (fun k => nodeV g (k / 4) (k % 4)) st (4 * g 0 6).toNat) (3 * g 0 10).toNat) (5 * g 0 15).toNat) h) := by
  have r1 := hV.s.1
  have r2 := hV.s.2.1
  have r3 := hV.s.2.2.1
  refine am_start [some (am_R 0), some (am_J st), none, none, none, none, none] rfl rfl (by decide) (Nat.le_of_ble_eq_true rfl) ?_
  refine aw_lload_n dX7_withSpeech_0 rfl ?_
  refine aw_lstore_3 dX7_withSpeech_1 (by decide) rfl ?_
  refine aw_iconst dX7_withSpeech_2 ?_
  refine aw_istore5 dX7_withSpeech_3 (by decide) rfl ?_
  refine lp_X7_ws1 (s := st) hC hV (fun x5 x6 hx => ?_) 20 0 none (by omega) (by omega)
  refine aw_iconst dX7_withSpeech_52 ?_
  refine aw_istore5 dX7_withSpeech_53 (by decide) rfl ?_
  refine lp_X7_ws2 hC hV (fun x5 x6 hx => ?_) 20 0 x6 (by omega) (by omega)
  refine aw_iconst dX7_withSpeech_102 ?_
  refine aw_istore5 dX7_withSpeech_103 (by decide) rfl ?_
  refine lp_X7_ws3 hC hV (fun x5 x6 hx => ?_) 20 0 x6 (by omega) (by omega)
  refine aw_lload_n dX7_withSpeech_152 rfl ?_
  exact aw_lretF dX7_withSpeech_153 rfl ⟨rfl, rfl⟩
theorem lp_X7_wr1i {h g : am_H} {st s : Int} {Q : Option am_V → am_H → Prop} (hC : CRel h g) (hV : MOK g) {x : Nat} (hx : (x : Int) < 6) (K : ∀ y6 : Option am_V, AW GC mX7_withRowsAndTexts 9 Q 5 [some (am_R 0), some (am_J st), none, some (am_J (mixF (fun k => g 2 (40 * (x : Int) + k)) s (g 1 x).toNat)), none, some (am_I (x + 1 : Nat)), y6] [] h) : ∀ (m j : Nat), (j : Int) ≤ max (g 1 x) 0 → 40 - (j : Int) < m → AW GC mX7_withRowsAndTexts 9 Q 28 [some (am_R 0), some (am_J st), none, some (am_J (mixF (fun k => g 2 (40 * (x : Int) + k)) s j)), none, some (am_I x), some (am_I j)] [] h := by
  have ez := hC.r.2 x (by omega) (by omega)
  have hz := hV.r.1 x (by omega) (by omega)
  intro m
  induction m with
  | zero => intro j h1 h2; omega
  | succ m ih =>
    intro j h1 h2
    have hr := hV.r.2 (40 * x + j)
    by_cases hj : (j : Int) < g 1 x
    · have er := hC.r.1 x j (by omega) (by omega) (by omega) (by omega)
      have e : mixF (fun k => g 2 (40 * (x : Int) + k)) s (j + 1) = 31 * mixF (fun k => g 2 (40 * (x : Int) + k)) s j + g 2 (40 * (x : Int) + j) := rfl
      refine aw_iload dX7_withRowsAndTexts_28 rfl ?_
      refine aw_aload_n dX7_withRowsAndTexts_30 rfl ?_
      refine aw_getR (kx := 1) fl_X7_14 dX7_withRowsAndTexts_31 rfl rfl rfl ?_
      refine aw_iload dX7_withRowsAndTexts_34 rfl ?_
      refine aw_iaload dX7_withRowsAndTexts_36 rfl (by decide) (by omega) ?_
      refine aw_icmp_ge (tgt := 62) dX7_withRowsAndTexts_37 rfl (by omega) (by omega) (fun hc37 => ?_) (fun hc37 => ?_)
      · omega
      · refine aw_lload_n dX7_withRowsAndTexts_40 rfl ?_
        refine aw_aload_n dX7_withRowsAndTexts_41 rfl ?_
        refine aw_getR (kx := 0) fl_X7_11 dX7_withRowsAndTexts_42 rfl rfl rfl ?_
        refine aw_iload dX7_withRowsAndTexts_45 rfl ?_
        first | refine aw_aaload4 dX7_withRowsAndTexts_47 rfl (by decide) (by omega) ?_ | refine aw_aaload5 dX7_withRowsAndTexts_47 rfl (by decide) (by omega) ?_ | refine aw_aaload6 dX7_withRowsAndTexts_47 rfl (by decide) (by omega) ?_
        refine aw_iload dX7_withRowsAndTexts_48 rfl ?_
        refine aw_iaload dX7_withRowsAndTexts_50 (by exact kdR (by omega) (by omega)) (by decide) (by omega) ?_
        refine aw_top er ?_
        refine aw_i2l (by omega) dX7_withRowsAndTexts_51 ?_
        refine aw_cS2JF (c_X7_mixed) lk_X7_370 dX7_withRowsAndTexts_52 (by decide) (fun _ => Nat.le_of_ble_eq_true rfl) ?_
        refine aw_lstore_3 dX7_withRowsAndTexts_55 (by decide) rfl ?_
        refine aw_iinc6 dX7_withRowsAndTexts_56 (by decide) rfl ?_
        refine aw_goto (tgt := 28) dX7_withRowsAndTexts_59 rfl ?_
        refine aw_ls ?_ (ih (j + 1) (by omega) (by omega)); rw [e]; rfl
    · rw [show (g 1 x).toNat = j by omega] at K
      refine aw_iload dX7_withRowsAndTexts_28 rfl ?_
      refine aw_aload_n dX7_withRowsAndTexts_30 rfl ?_
      refine aw_getR (kx := 1) fl_X7_14 dX7_withRowsAndTexts_31 rfl rfl rfl ?_
      refine aw_iload dX7_withRowsAndTexts_34 rfl ?_
      refine aw_iaload dX7_withRowsAndTexts_36 rfl (by decide) (by omega) ?_
      refine aw_icmp_ge (tgt := 62) dX7_withRowsAndTexts_37 rfl (by omega) (by omega) (fun hc37 => ?_) (fun hc37 => ?_)
      · refine aw_iinc5 dX7_withRowsAndTexts_62 (by decide) rfl ?_
        refine aw_goto (tgt := 5) dX7_withRowsAndTexts_65 rfl ?_
        exact K _
      · omega
theorem lp_X7_wr1 {h g : am_H} {st s : Int} {Q : Option am_V → am_H → Prop} (hC : CRel h g) (hV : MOK g) (K : ∀ x5 x6 : Option am_V, AW GC mX7_withRowsAndTexts 9 Q 68 [some (am_R 0), some (am_J st), none, some (am_J (dg7F g s 6)), none, x5, x6] [] h) : ∀ (m x : Nat) (x6 : Option am_V), (x : Int) ≤ 6 → 6 - (x : Int) < m → AW GC mX7_withRowsAndTexts 9 Q 5 [some (am_R 0), some (am_J st), none, some (am_J (dg7F g s x)), none, some (am_I x), x6] [] h := by
  intro m
  induction m with
  | zero => intro x x6 h1 h2; omega
  | succ m ih =>
    intro x x6 h1 h2
    by_cases hx : (x : Int) < 6
    · have ez := hC.r.2 x (by omega) (by omega)
      have hz := hV.r.1 x (by omega) (by omega)
      refine aw_iload dX7_withRowsAndTexts_5 rfl ?_
      refine aw_bipush (by decide) dX7_withRowsAndTexts_7 ?_
      refine aw_icmp_ge (tgt := 68) dX7_withRowsAndTexts_9 rfl (by omega) (by omega) (fun hc9 => ?_) (fun hc9 => ?_)
      · omega
      · refine aw_lload_n dX7_withRowsAndTexts_12 rfl ?_
        refine aw_aload_n dX7_withRowsAndTexts_13 rfl ?_
        refine aw_getR (kx := 1) fl_X7_14 dX7_withRowsAndTexts_14 rfl rfl rfl ?_
        refine aw_iload dX7_withRowsAndTexts_17 rfl ?_
        refine aw_iaload dX7_withRowsAndTexts_19 rfl (by decide) (by omega) ?_
        refine aw_top ez ?_
        refine aw_i2l (by omega) dX7_withRowsAndTexts_20 ?_
        refine aw_cS2JF (c_X7_mixed) lk_X7_370 dX7_withRowsAndTexts_21 (by decide) (fun _ => Nat.le_of_ble_eq_true rfl) ?_
        refine aw_lstore_3 dX7_withRowsAndTexts_24 (by decide) rfl ?_
        refine aw_iconst dX7_withRowsAndTexts_25 ?_
        refine aw_istore6 dX7_withRowsAndTexts_26 (by decide) rfl ?_
        exact lp_X7_wr1i (s := 31 * dg7F g s x + g 1 x) hC hV hx (fun y6 => ih (x + 1) y6 (by omega) (by omega)) 42 0 (by omega) (by omega)
    · have e : x = 6 := by omega
      subst e
      refine aw_iload dX7_withRowsAndTexts_5 rfl ?_
      refine aw_bipush (by decide) dX7_withRowsAndTexts_7 ?_
      refine aw_icmp_ge (tgt := 68) dX7_withRowsAndTexts_9 rfl (by omega) (by omega) (fun hc9 => ?_) (fun hc9 => ?_)
      · exact K _ _
      · omega
theorem lp_X7_wr2i {h g : am_H} {st s : Int} {Q : Option am_V → am_H → Prop} (hC : CRel h g) (hV : MOK g) {x : Nat} (hx : (x : Int) < 4) (K : ∀ y6 : Option am_V, AW GC mX7_withRowsAndTexts 9 Q 71 [some (am_R 0), some (am_J st), none, some (am_J (mixF (fun k => g 4 (80 * (x : Int) + k)) s (g 3 x).toNat)), none, some (am_I (x + 1 : Nat)), y6] [] h) : ∀ (m j : Nat), (j : Int) ≤ max (g 3 x) 0 → 80 - (j : Int) < m → AW GC mX7_withRowsAndTexts 9 Q 93 [some (am_R 0), some (am_J st), none, some (am_J (mixF (fun k => g 4 (80 * (x : Int) + k)) s j)), none, some (am_I x), some (am_I j)] [] h := by
  have ez := hC.t.2 x (by omega) (by omega)
  have hz := hV.t.1 x (by omega) (by omega)
  intro m
  induction m with
  | zero => intro j h1 h2; omega
  | succ m ih =>
    intro j h1 h2
    have hr := hV.t.2 (80 * x + j)
    by_cases hj : (j : Int) < g 3 x
    · have er := hC.t.1 x j (by omega) (by omega) (by omega) (by omega)
      have e : mixF (fun k => g 4 (80 * (x : Int) + k)) s (j + 1) = 31 * mixF (fun k => g 4 (80 * (x : Int) + k)) s j + g 4 (80 * (x : Int) + j) := rfl
      refine aw_iload dX7_withRowsAndTexts_93 rfl ?_
      refine aw_aload_n dX7_withRowsAndTexts_95 rfl ?_
      refine aw_getR (kx := 3) fl_X7_23 dX7_withRowsAndTexts_96 rfl rfl rfl ?_
      refine aw_iload dX7_withRowsAndTexts_99 rfl ?_
      refine aw_iaload dX7_withRowsAndTexts_101 rfl (by decide) (by omega) ?_
      refine aw_icmp_ge (tgt := 127) dX7_withRowsAndTexts_102 rfl (by omega) (by omega) (fun hc102 => ?_) (fun hc102 => ?_)
      · omega
      · refine aw_lload_n dX7_withRowsAndTexts_105 rfl ?_
        refine aw_aload_n dX7_withRowsAndTexts_106 rfl ?_
        refine aw_getR (kx := 2) fl_X7_20 dX7_withRowsAndTexts_107 rfl rfl rfl ?_
        refine aw_iload dX7_withRowsAndTexts_110 rfl ?_
        first | refine aw_aaload4 dX7_withRowsAndTexts_112 rfl (by decide) (by omega) ?_ | refine aw_aaload5 dX7_withRowsAndTexts_112 rfl (by decide) (by omega) ?_ | refine aw_aaload6 dX7_withRowsAndTexts_112 rfl (by decide) (by omega) ?_
        refine aw_iload dX7_withRowsAndTexts_113 rfl ?_
        refine aw_baload dX7_withRowsAndTexts_115 (by exact kdT (by omega) (by omega)) (by decide) (by omega) ?_
        refine aw_top er ?_
        refine aw_i2l (by omega) dX7_withRowsAndTexts_116 ?_
        refine aw_cS2JF (c_X7_mixed) lk_X7_370 dX7_withRowsAndTexts_117 (by decide) (fun _ => Nat.le_of_ble_eq_true rfl) ?_
        refine aw_lstore_3 dX7_withRowsAndTexts_120 (by decide) rfl ?_
        refine aw_iinc6 dX7_withRowsAndTexts_121 (by decide) rfl ?_
        refine aw_goto (tgt := 93) dX7_withRowsAndTexts_124 rfl ?_
        refine aw_ls ?_ (ih (j + 1) (by omega) (by omega)); rw [e]; rfl
    · rw [show (g 3 x).toNat = j by omega] at K
      refine aw_iload dX7_withRowsAndTexts_93 rfl ?_
      refine aw_aload_n dX7_withRowsAndTexts_95 rfl ?_
      refine aw_getR (kx := 3) fl_X7_23 dX7_withRowsAndTexts_96 rfl rfl rfl ?_
      refine aw_iload dX7_withRowsAndTexts_99 rfl ?_
      refine aw_iaload dX7_withRowsAndTexts_101 rfl (by decide) (by omega) ?_
      refine aw_icmp_ge (tgt := 127) dX7_withRowsAndTexts_102 rfl (by omega) (by omega) (fun hc102 => ?_) (fun hc102 => ?_)
      · refine aw_iinc5 dX7_withRowsAndTexts_127 (by decide) rfl ?_
        refine aw_goto (tgt := 71) dX7_withRowsAndTexts_130 rfl ?_
        exact K _
      · omega
theorem lp_X7_wr2 {h g : am_H} {st s : Int} {Q : Option am_V → am_H → Prop} (hC : CRel h g) (hV : MOK g) (K : ∀ x5 x6 : Option am_V, AW GC mX7_withRowsAndTexts 9 Q 133 [some (am_R 0), some (am_J st), none, some (am_J (dg8F g s 4)), none, x5, x6] [] h) : ∀ (m x : Nat) (x6 : Option am_V), (x : Int) ≤ 4 → 4 - (x : Int) < m → AW GC mX7_withRowsAndTexts 9 Q 71 [some (am_R 0), some (am_J st), none, some (am_J (dg8F g s x)), none, some (am_I x), x6] [] h := by
  intro m
  induction m with
  | zero => intro x x6 h1 h2; omega
  | succ m ih =>
    intro x x6 h1 h2
    by_cases hx : (x : Int) < 4
    · have ez := hC.t.2 x (by omega) (by omega)
      have hz := hV.t.1 x (by omega) (by omega)
      refine aw_iload dX7_withRowsAndTexts_71 rfl ?_
      refine aw_iconst dX7_withRowsAndTexts_73 ?_
      refine aw_icmp_ge (tgt := 133) dX7_withRowsAndTexts_74 rfl (by omega) (by omega) (fun hc74 => ?_) (fun hc74 => ?_)
      · omega
      · refine aw_lload_n dX7_withRowsAndTexts_77 rfl ?_
        refine aw_aload_n dX7_withRowsAndTexts_78 rfl ?_
        refine aw_getR (kx := 3) fl_X7_23 dX7_withRowsAndTexts_79 rfl rfl rfl ?_
        refine aw_iload dX7_withRowsAndTexts_82 rfl ?_
        refine aw_iaload dX7_withRowsAndTexts_84 rfl (by decide) (by omega) ?_
        refine aw_top ez ?_
        refine aw_i2l (by omega) dX7_withRowsAndTexts_85 ?_
        refine aw_cS2JF (c_X7_mixed) lk_X7_370 dX7_withRowsAndTexts_86 (by decide) (fun _ => Nat.le_of_ble_eq_true rfl) ?_
        refine aw_lstore_3 dX7_withRowsAndTexts_89 (by decide) rfl ?_
        refine aw_iconst dX7_withRowsAndTexts_90 ?_
        refine aw_istore6 dX7_withRowsAndTexts_91 (by decide) rfl ?_
        exact lp_X7_wr2i (s := 31 * dg8F g s x + g 3 x) hC hV hx (fun y6 => ih (x + 1) y6 (by omega) (by omega)) 82 0 (by omega) (by omega)
    · have e : x = 4 := by omega
      subst e
      refine aw_iload dX7_withRowsAndTexts_71 rfl ?_
      refine aw_iconst dX7_withRowsAndTexts_73 ?_
      refine aw_icmp_ge (tgt := 133) dX7_withRowsAndTexts_74 rfl (by omega) (by omega) (fun hc74 => ?_) (fun hc74 => ?_)
      · exact K _ _
      · omega
theorem c_X7_withRowsAndTexts {h g : am_H} {st : Int} (hC : CRel h g) (hV : MOK g) : AMet GC mX7_withRowsAndTexts 9 [am_R 0, am_J st] h (am_FJ (dg8F g (dg7F g st 6) 4) h) := by
  refine am_start [some (am_R 0), some (am_J st), none, none, none, none, none] rfl rfl (by decide) (Nat.le_of_ble_eq_true rfl) ?_
  refine aw_lload_n dX7_withRowsAndTexts_0 rfl ?_
  refine aw_lstore_3 dX7_withRowsAndTexts_1 (by decide) rfl ?_
  refine aw_iconst dX7_withRowsAndTexts_2 ?_
  refine aw_istore5 dX7_withRowsAndTexts_3 (by decide) rfl ?_
  refine lp_X7_wr1 (s := st) hC hV (fun x5 x6 => ?_) 20 0 none (by omega) (by omega)
  refine aw_iconst dX7_withRowsAndTexts_68 ?_
  refine aw_istore5 dX7_withRowsAndTexts_69 (by decide) rfl ?_
  refine lp_X7_wr2 hC hV (fun x5 x6 => ?_) 20 0 x6 (by omega) (by omega)
  refine aw_lload_n dX7_withRowsAndTexts_133 rfl ?_
  exact aw_lretF dX7_withRowsAndTexts_134 rfl ⟨rfl, rfl⟩
