theorem c_X3_forget {h : am_H} : AMet GC mX3_forget 1 [am_R 60] h (am_FV (am_set h 60 4 (-1))) := by
  refine am_start [some (am_R 60)] rfl rfl (by decide) (Nat.le_of_ble_eq_true rfl) ?_
  refine aw_aload_n dX3_forget_0 rfl ?_
  refine aw_iconst dX3_forget_1 ?_
  refine aw_putI (kx := 4) fp_X3_20 dX3_forget_2 rfl rfl rfl ?_
  refine aw_vretF dX3_forget_5 rfl ?_
  rfl
def rdyF (h : am_H) (a : Int) : am_H := if h 60 4 = a then h else am_set (fillF h 61 (-1000000) 5589) 60 4 a
theorem c_X3_ready {h : am_H} {a : Int} (ha : -1 ≤ h 60 4 ∧ h 60 4 ≤ 2) (ha2 : 0 ≤ a ∧ a ≤ 2) : AMet GC mX3_ready 2 [am_R 60, am_I a] h (am_FV (rdyF h a)) := by
  refine am_start [some (am_R 60), some (am_I a)] rfl rfl (by decide) (Nat.le_of_ble_eq_true rfl) ?_
  refine aw_aload_n dX3_ready_0 rfl ?_
  refine aw_getI (kx := 4) fl_X3_20 dX3_ready_1 rfl rfl rfl ?_
  refine aw_iload_n dX3_ready_4 rfl ?_
  refine aw_icmp_eq (tgt := 22) dX3_ready_5 rfl (by omega) (by omega) (fun hc5 => ?_) (fun hc5 => ?_)
  · refine aw_vretF dX3_ready_22 rfl ?_
    show h = rdyF h a
    rw [rdyF, if_pos (by omega)]
  · refine aw_aload_n dX3_ready_8 rfl ?_
    refine aw_getR (kx := 0) fl_X3_11 dX3_ready_9 rfl rfl rfl ?_
    refine aw_ldc (n := -1000000) kc_X3_32 rfl dX3_ready_12 ?_
    refine aw_cS2VF (c_J7_fillI rfl (by decide)) lk_X3_33 dX3_ready_14 (by decide) (fun _ => Nat.le_of_ble_eq_true rfl) ?_
    refine aw_aload_n dX3_ready_17 rfl ?_
    refine aw_iload_n dX3_ready_18 rfl ?_
    refine aw_putI (kx := 4) fp_X3_20 dX3_ready_19 rfl rfl rfl ?_
    refine aw_vretF dX3_ready_22 rfl ?_
    show _ = rdyF h a
    rw [rdyF, if_neg (by omega)]
theorem c_X3_foresee {h g : am_H} {k : Int} (hs : MVs g) (hR : SpR h g) (hk : 0 ≤ k ∧ k < g 0 10) : AMet GC mX3_foresee 1 [am_R 60, am_I k] h (am_FV (am_set h 62 (g 7 k) (g 8 k))) := by
  have hnn := hs.1
  have hw := hs.2.1
  have hv := (hs.2.2.2.2.1 k hk.1 hk.2).1
  have e := hR.2.2.2.1 k hk.1 hk.2
  refine am_start [some (am_R 60), some (am_I k)] rfl rfl (by decide) (Nat.le_of_ble_eq_true rfl) ?_
  refine aw_aload_n dX3_foresee_0 rfl ?_
  refine aw_getR (kx := 1) fl_X3_17 dX3_foresee_1 rfl rfl rfl ?_
  refine aw_aload_n dX3_foresee_4 rfl ?_
  refine aw_getR (kx := 2) fl_X3_24 dX3_foresee_5 rfl rfl rfl ?_
  refine aw_getR (kx := 7) fl_X3_39 dX3_foresee_8 rfl rfl rfl ?_
  refine aw_iload_n dX3_foresee_11 rfl ?_
  refine aw_iaload dX3_foresee_12 rfl (by decide) (by omega) ?_
  refine aw_top e.1 ?_
  refine aw_aload_n dX3_foresee_13 rfl ?_
  refine aw_getR (kx := 2) fl_X3_24 dX3_foresee_14 rfl rfl rfl ?_
  refine aw_getR (kx := 8) fl_X3_44 dX3_foresee_17 rfl rfl rfl ?_
  refine aw_iload_n dX3_foresee_20 rfl ?_
  refine aw_iaload dX3_foresee_21 rfl (by decide) (by omega) ?_
  refine aw_top e.2.1 ?_
  refine aw_iastore dX3_foresee_22 rfl (by decide) (by omega) ?_
  refine aw_vretF dX3_foresee_23 rfl ?_
  rfl
theorem c_X3_most {hB g h : am_H} {D : Int → Prop} {Val : Int → Int → Int} {fs : Int → Int} {aim : Int} {x of : Int} (hs : MVs g) (hR : SpR hB g) (hO : OlR hB g) (hk : pvOK g aim fs D Val) (ha : hB 60 4 = aim ∧ 0 ≤ aim ∧ aim ≤ 2) (hfs : aim = 2 → ∀ y : Int, D y → ¬ dgF g y = 0 → hB 62 y = fs y) (hD : D x) (hof : VS of) (hP : PmO hB g D Val h) : AMet GC mX3_most 38 [am_R 60, am_I x, am_I (cv of)] h (am_QI (fun v h2 => v = Val x of ∧ PmO hB g D Val h2)) := by
  have hnn := hs.1
  have hx := hk.1 x hD
  refine am_start [some (am_R 60), some (am_I x), some (am_I (cv of))] rfl rfl (by decide) (Nat.le_of_ble_eq_true rfl) ?_
  refine aw_aload_n dX3_most_0 rfl ?_
  refine aw_iload_n dX3_most_1 rfl ?_
  refine aw_iload_n dX3_most_2 rfl ?_
  refine aw_iconst dX3_most_3 ?_
  refine aw_cV3I (c_X3_value hs hR hO hk ha hfs 9 x hD (by omega) h of 0 hP hof (by omega) hx.1) lk_X3_47 dX3_most_4 (by decide) rfl rfl (fun _ => Nat.le_of_ble_eq_true rfl) (fun v4 h4 q4 => ?_)
  refine aw_iretQ dX3_most_7 rfl ?_
  exact ⟨q4.1, q4.2⟩
noncomputable def pvB (g : am_H) (aim : Int) (fs : Int → Int) (Val : Int → Int → Int) (x of d : Int) : Prop := cbg of d ∧ pvO g aim fs Val x (bgw (g 10 d) of d) = Val x of
/-- the answer is the first of the best deeds, or nothing -/
def chQ (g : am_H) (aim : Int) (fs : Int → Int) (Val : Int → Int → Int) (x of v : Int) : Prop := (dgF g x = 0 ∧ v = -9) ∨ (¬ dgF g x = 0 ∧ (((0 ≤ v ∧ v < g 0 15) ∧ pvB g aim fs Val x of v ∧ ∀ d : Int, 0 ≤ d → d < v → ¬ pvB g aim fs Val x of d) ∨ (v = -9 ∧ ∀ d : Int, 0 ≤ d → d < g 0 15 → ¬ pvB g aim fs Val x of d)))
theorem lp_X3_choice {hB g : am_H} {D : Int → Prop} {Val : Int → Int → Int} {fs : Int → Int} {aim : Int} {x of : Int} (hs : MVs g) (hR : SpR hB g) (hO : OlR hB g) (hk : pvOK g aim fs D Val) (ha : hB 60 4 = aim ∧ 0 ≤ aim ∧ aim ≤ 2) (hfs : aim = 2 → ∀ y : Int, D y → ¬ dgF g y = 0 → hB 62 y = fs y) (hD : D x) (hdg : ¬ dgF g x = 0) (hof : VS of) : ∀ (m i : Nat) (h : am_H), (i : Int) ≤ g 0 15 → g 0 15 - i < m → PmO hB g D Val h → (∀ d : Int, 0 ≤ d → d < i → ¬ pvB g aim fs Val x of d) → AW GC mX3_choice 40 (am_QI (fun v h2 => chQ g aim fs Val x of v ∧ PmO hB g D Val h2)) 25 [some (am_R 60), some (am_I x), some (am_I (cv of)), some (am_I (Val x of)), some (am_I i)] [] h := by
  have hnn := hs.1
  have hnd := hs.2.2.1
  have hx := hk.1 x hD
  have hvr := hk.2.2.2.2.1 x of hD hof
  intro m
  induction m with
  | zero => intro i h h1 h2; omega
  | succ m ih =>
    intro i h h1 h2 hP hn
    have hR' := hP.sp hR
    have e15 := hR'.1.2.2
    have nxt : ∀ h2 : am_H, PmO hB g D Val h2 → (i : Int) < g 0 15 → ¬ pvB g aim fs Val x of i → AW GC mX3_choice 40 (am_QI (fun v h2 => chQ g aim fs Val x of v ∧ PmO hB g D Val h2)) 25 [some (am_R 60), some (am_I x), some (am_I (cv of)), some (am_I (Val x of)), some (am_I (i + 1 : Nat))] [] h2 := by
      intro h2 hP2 hlt hnb
      refine ih (i + 1) h2 (by omega) (by omega) hP2 (fun d a b => ?_)
      by_cases e : d = i
      · subst e; exact hnb
      · exact hn d a (by omega)
    by_cases hlt : (i : Int) < g 0 15
    · have hv := (hs.2.2.2.2.2.2.2.1 i (by omega) (by omega)).1
      by_cases hc : cbg of i
      · have hvb := vs_bgw hof hc ⟨by omega, by omega⟩ hv
        have hor := hk.2.2.2.2.2 x (bgw (g 10 i) of i) hD hvb hdg
        refine aw_iload dX3_choice_25 rfl ?_
        refine aw_aload_n dX3_choice_27 rfl ?_
        refine aw_getR (kx := 2) fl_X3_24 dX3_choice_28 rfl rfl rfl ?_
        refine aw_getI (kx := 2) fl_X3_71 dX3_choice_31 rfl rfl rfl ?_
        refine aw_icmp_ge (tgt := 73) dX3_choice_34 rfl (by omega) (by omega) (fun hc34 => ?_) (fun hc34 => ?_)
        · omega
        · refine aw_aload_n dX3_choice_37 rfl ?_
          refine aw_iload_n dX3_choice_38 rfl ?_
          refine aw_iload dX3_choice_39 rfl ?_
          refine aw_cV2IF (c_X3_canBegin hof (by omega)) lk_X3_74 dX3_choice_41 (by omega) rfl rfl (fun _ => Nat.le_of_ble_eq_true rfl) ?_
          refine aw_ifb_eq (tgt := 67) dX3_choice_44 rfl (fun hc44 => ?_) (fun hc44 => ?_)
          · exact absurd hc hc44
          · refine aw_aload_n dX3_choice_47 rfl ?_
            refine aw_iload_n dX3_choice_48 rfl ?_
            refine aw_aload_n dX3_choice_49 rfl ?_
            refine aw_iload_n dX3_choice_50 rfl ?_
            refine aw_iload dX3_choice_51 rfl ?_
            refine aw_cV2IF (c_X3_begun hs hR' hof ⟨by omega, hlt⟩ hc) lk_X3_78 dX3_choice_53 (by omega) rfl rfl (fun _ => Nat.le_of_ble_eq_true rfl) ?_
            refine aw_iconst dX3_choice_56 ?_
            refine aw_cV3I (c_X3_once (lv := 37) hs hR hO hk ha hfs hD hdg (by omega) hvb ⟨by omega, hx.1⟩ (fun y a b => c_X3_value hs hR hO hk ha hfs 9 y b (by have := hk.1 y b; omega)) hP) lk_X3_68 dX3_choice_57 (by decide) rfl rfl (fun _ => Nat.le_of_ble_eq_true rfl) (fun v57 h57 q57 => ?_)
            refine aw_top q57.1 ?_
            refine aw_iload_n dX3_choice_60 rfl ?_
            refine aw_icmp_ne (tgt := 67) dX3_choice_61 rfl (by omega) (by omega) (fun hc61 => ?_) (fun hc61 => ?_)
            · refine aw_iinc4 dX3_choice_67 (by decide) rfl ?_
              refine aw_goto (tgt := 25) dX3_choice_70 rfl ?_
              exact nxt h57 q57.2 hlt (fun z => hc61 z.2)
            · refine aw_iload dX3_choice_64 rfl ?_
              refine aw_iretQ dX3_choice_66 rfl ?_
              exact ⟨Or.inr ⟨hdg, Or.inl ⟨⟨by omega, hlt⟩, ⟨hc, by omega⟩, fun d a b => hn d a b⟩⟩, q57.2⟩
      · refine aw_iload dX3_choice_25 rfl ?_
        refine aw_aload_n dX3_choice_27 rfl ?_
        refine aw_getR (kx := 2) fl_X3_24 dX3_choice_28 rfl rfl rfl ?_
        refine aw_getI (kx := 2) fl_X3_71 dX3_choice_31 rfl rfl rfl ?_
        refine aw_icmp_ge (tgt := 73) dX3_choice_34 rfl (by omega) (by omega) (fun hc34 => ?_) (fun hc34 => ?_)
        · omega
        · refine aw_aload_n dX3_choice_37 rfl ?_
          refine aw_iload_n dX3_choice_38 rfl ?_
          refine aw_iload dX3_choice_39 rfl ?_
          refine aw_cV2IF (c_X3_canBegin hof (by omega)) lk_X3_74 dX3_choice_41 (by omega) rfl rfl (fun _ => Nat.le_of_ble_eq_true rfl) ?_
          refine aw_ifb_eq (tgt := 67) dX3_choice_44 rfl (fun hc44 => ?_) (fun hc44 => ?_)
          · refine aw_iinc4 dX3_choice_67 (by decide) rfl ?_
            refine aw_goto (tgt := 25) dX3_choice_70 rfl ?_
            exact nxt h hP hlt (fun z => hc z.1)
          · exact absurd hc44 hc
    · refine aw_iload dX3_choice_25 rfl ?_
      refine aw_aload_n dX3_choice_27 rfl ?_
      refine aw_getR (kx := 2) fl_X3_24 dX3_choice_28 rfl rfl rfl ?_
      refine aw_getI (kx := 2) fl_X3_71 dX3_choice_31 rfl rfl rfl ?_
      refine aw_icmp_ge (tgt := 73) dX3_choice_34 rfl (by omega) (by omega) (fun hc34 => ?_) (fun hc34 => ?_)
      · refine aw_bipush (by decide) dX3_choice_73 ?_
        refine aw_iretQ dX3_choice_75 rfl ?_
        exact ⟨Or.inr ⟨hdg, Or.inr ⟨rfl, fun d a b => hn d a (by omega)⟩⟩, hP⟩
      · omega
theorem c_X3_choice {hB g h : am_H} {D : Int → Prop} {Val : Int → Int → Int} {fs : Int → Int} {aim : Int} {x of : Int} (hs : MVs g) (hR : SpR hB g) (hO : OlR hB g) (hk : pvOK g aim fs D Val) (ha : hB 60 4 = aim ∧ 0 ≤ aim ∧ aim ≤ 2) (hfs : aim = 2 → ∀ y : Int, D y → ¬ dgF g y = 0 → hB 62 y = fs y) (hD : D x) (hof : VS of) (hP : PmO hB g D Val h) : AMet GC mX3_choice 40 [am_R 60, am_I x, am_I (cv of)] h (am_QI (fun v h2 => chQ g aim fs Val x of v ∧ PmO hB g D Val h2)) := by
  have hnn := hs.1
  have hnd := hs.2.2.1
  have hx := hk.1 x hD
  have hR' := hP.sp hR
  refine am_start [some (am_R 60), some (am_I x), some (am_I (cv of)), none, none] rfl rfl (by decide) (Nat.le_of_ble_eq_true rfl) ?_
  refine aw_aload_n dX3_choice_0 rfl ?_
  refine aw_getR (kx := 2) fl_X3_24 dX3_choice_1 rfl rfl rfl ?_
  refine aw_iload_n dX3_choice_4 rfl ?_
  refine aw_cV1IF (c_X5_isOver hs hR' hx) lk_X3_51 dX3_choice_5 (by omega) rfl rfl (fun _ => Nat.le_of_ble_eq_true rfl) ?_
  refine aw_ifb_eq (tgt := 14) dX3_choice_8 rfl (fun hc8 => ?_) (fun hc8 => ?_)
  · refine aw_aload_n dX3_choice_14 rfl ?_
    refine aw_iload_n dX3_choice_15 rfl ?_
    refine aw_iload_n dX3_choice_16 rfl ?_
    refine aw_iconst dX3_choice_17 ?_
    refine aw_cV3I (c_X3_value hs hR hO hk ha hfs 9 x hD (by omega) h of 0 hP hof (by omega) hx.1) lk_X3_47 dX3_choice_18 (by decide) rfl rfl (fun _ => Nat.le_of_ble_eq_true rfl) (fun v18 h18 q18 => ?_)
    refine aw_top q18.1 ?_
    refine aw_istore_3 dX3_choice_21 (by decide) rfl ?_
    refine aw_iconst dX3_choice_22 ?_
    refine aw_istore4 dX3_choice_23 (by decide) rfl ?_
    exact lp_X3_choice hs hR hO hk ha hfs hD hc8 hof 5 0 h18 (by omega) (by omega) q18.2 (fun d a b => by omega)
  · refine aw_bipush (by decide) dX3_choice_11 ?_
    refine aw_iretQ dX3_choice_13 rfl ?_
    exact ⟨Or.inl ⟨hc8, rfl⟩, hP⟩
