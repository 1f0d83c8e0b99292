def OlR (h g : am_H) : Prop := (∀ y : Int, 0 ≤ y → y < g 0 6 → OlX h g y) ∧ ∀ y : Int, 0 ≤ y → y ≤ 9 → h 58 y = ltP g y
theorem OlR.of {h h' g : am_H} (hO : OlR h g) (hn : g 0 6 ≤ 9) (hc : ∀ c : Int, 42 ≤ c → c ≤ 58 → h' c = h c) : OlR h' g := by
  refine ⟨fun y a b => ?_, fun y a b => ?_⟩
  · unfold OlX
    rw [hc 42 (by decide) (by decide), hc 43 (by decide) (by decide), hc 44 (by decide) (by decide), hc 45 (by decide) (by decide), hc 46 (by decide) (by decide), hc 47 (by decide) (by decide), hc 58 (by decide) (by decide), hc (49 + y) (by omega) (by omega)]
    exact hO.1 y a b
  · rw [hc 58 (by decide) (by decide)]; exact hO.2 y a b
def StI (h0 h' g : am_H) (x : Int) : Prop := (∀ c : Int, c < 42 ∨ c = 48 ∨ 58 < c → h' c = h0 c) ∧ (∀ y : Int, x < y → y < g 0 6 → OlX h' g y) ∧ ∀ y : Int, x < y → y ≤ 9 → h' 58 y = ltP g y
theorem StI.step {h0 h' h2 g : am_H} {x : Int} (hx : 0 ≤ x ∧ x < 9) (hn : g 0 6 ≤ 9) (hI : StI h0 h' g x) (hF : FrX h' h2 x) (hO : OlX h2 g x) : StI h0 h2 g (x - 1) := by
  refine ⟨fun c q => (hF.1 c q).trans (hI.1 c q), fun y a b => ?_, fun y a b => ?_⟩
  · by_cases e : y = x
    · subst e; exact hO
    · exact OlX.of hF ⟨by omega, by omega⟩ e (hI.2.1 y (by omega) b)
  · by_cases e : y = x
    · subst e; exact hO.2.2.2.2.2.2
    · rw [hF.2.1 58 y e (by omega)]; exact hI.2.2 y (by omega) b
theorem fill_y {h : am_H} {x n : Int} (a : 0 ≤ n) (b : n ≤ 8) : fillF h (49 + x) 0 9 (49 + x) n = 0 := by
  unfold fillF; rw [am_up_s, if_pos (by omega)]
theorem lp_X2_study {h0 g : am_H} (hs : MVs g) (hR : SpR h0 g) : ∀ (m : Nat) (x : Int) (h' : am_H), x < g 0 6 → -1 ≤ x → x + 1 < m → StI h0 h' g x → AW GC mX2_study 3 (am_QV (fun h' => (∀ c : Int, c < 42 ∨ c = 48 ∨ 58 < c → h' c = h0 c) ∧ OlR h' g)) 18 [some (am_R 41), some (am_I x)] [] h' := by
  have hnn := hs.1
  intro m
  induction m with
  | zero => intro x h' h1 h2 h3; omega
  | succ m ih =>
    intro x h' h1 h2 h3 hI
    by_cases hx : 0 ≤ x
    · have hRS : ∀ h2 : am_H, FrX h' h2 x → SpR h2 g := fun h2 hF => hR.of (fun c a b => (hF.1 c (by omega)).trans (hI.1 c (by omega)))
      have FA : FrX h' (fillF h' (49 + x) 0 9) x := (FrX.rf h' x).upY ⟨hx, by omega⟩
      have FB : FrX h' (am_set (fillF h' (49 + x) 0 9) 47 x 0) x := FA.set (by omega)
      have e58 : am_set (fillF h' (49 + x) 0 9) 47 x 0 58 (x + 1) = ltP g (x + 1) := by
        rw [am_set_c (by decide)]; unfold fillF; rw [am_up_c (by omega)]; exact hI.2.2 (x + 1) (by omega) (by omega)
      have FC : FrX h' (am_set (am_set (fillF h' (49 + x) 0 9) 47 x 0) 58 x (ltP g (x + 1))) x := FB.set (by omega)
      have hRC := hRS _ FC
      have lts := ltP_s (g := g) (x := x) h1
      have hdg := (hRC.2.1 x hx h1).2.2
      have cz : ∀ n : Int, 0 ≤ n → n ≤ 8 → am_set (am_set (fillF h' (49 + x) 0 9) 47 x 0) 58 x (ltP g (x + 1)) (49 + x) n = 0 := by
        intro n a b; rw [am_set_c (by omega), am_set_c (by omega)]; exact fill_y a b
      have c47 : am_set (am_set (fillF h' (49 + x) 0 9) 47 x 0) 58 x (ltP g (x + 1)) 47 x = 0 := by rw [am_set_c (by decide), am_set_s]
      have c58 : am_set (am_set (fillF h' (49 + x) 0 9) 47 x 0) 58 x (ltP g (x + 1)) 58 x = ltP g (x + 1) := am_set_s _ _ _ _
      have nxt : ∀ h2 : am_H, FrX h' h2 x → OlX h2 g x → AW GC mX2_study 3 (am_QV (fun h' => (∀ c : Int, c < 42 ∨ c = 48 ∨ 58 < c → h' c = h0 c) ∧ OlR h' g)) 100 [some (am_R 41), some (am_I x)] [] h2 := by
        intro h2 hF hO
        have hI2 := hI.step ⟨hx, by omega⟩ hnn.2 hF hO
        refine aw_iinc1 dX2_study_100 (by decide) rfl ?_
        refine aw_goto (tgt := 18) dX2_study_103 rfl ?_
        exact ih (x - 1) h2 (by omega) (by omega) (by omega) hI2
      by_cases hd : dgF g x = 0
      · rw [if_pos hd] at lts
        refine aw_iload_n dX2_study_18 rfl ?_
        refine aw_if_lt (tgt := 106) dX2_study_19 rfl (by omega) (fun hc19 => ?_) (fun hc19 => ?_)
        · omega
        · refine aw_aload_n dX2_study_22 rfl ?_
          refine aw_getR (kx := 6) fl_X2_32 dX2_study_23 rfl rfl rfl ?_
          refine aw_iload_n dX2_study_26 rfl ?_
          first | refine aw_aaload4 dX2_study_27 rfl (by decide) (by omega) ?_ | refine aw_aaload5 dX2_study_27 rfl (by decide) (by omega) ?_ | refine aw_aaload6 dX2_study_27 rfl (by decide) (by omega) ?_
          refine aw_iconst dX2_study_28 ?_
          refine aw_cS2VF (c_J7_fillI (kdY hx (by omega)) (by decide)) lk_X2_45 dX2_study_29 (by decide) (fun _ => Nat.le_of_ble_eq_true rfl) ?_
          refine aw_aload_n dX2_study_32 rfl ?_
          refine aw_getR (kx := 5) fl_X2_27 dX2_study_33 rfl rfl rfl ?_
          refine aw_iload_n dX2_study_36 rfl ?_
          refine aw_iconst dX2_study_37 ?_
          refine aw_iastore dX2_study_38 rfl (by decide) (by omega) ?_
          refine aw_aload_n dX2_study_39 rfl ?_
          refine aw_getR (kx := 7) fl_X2_35 dX2_study_40 rfl rfl rfl ?_
          refine aw_iload_n dX2_study_43 rfl ?_
          refine aw_aload_n dX2_study_44 rfl ?_
          refine aw_getR (kx := 7) fl_X2_35 dX2_study_45 rfl rfl rfl ?_
          refine aw_iload_n dX2_study_48 rfl ?_
          refine aw_iconst dX2_study_49 ?_
          refine aw_iadd dX2_study_50 ?_
          refine aw_iaload dX2_study_51 rfl (by decide) (by omega) ?_
          refine aw_top e58 ?_
          refine aw_iastore dX2_study_52 rfl (by decide) (by omega) ?_
          refine aw_aload_n dX2_study_53 rfl ?_
          refine aw_getR (kx := 9) fl_X2_41 dX2_study_54 rfl rfl rfl ?_
          refine aw_iload_n dX2_study_57 rfl ?_
          refine aw_cV1IF (c_X5_isOver hs hRC ⟨hx, h1⟩) lk_X2_57 dX2_study_58 (by decide) rfl rfl (fun _ => Nat.le_of_ble_eq_true rfl) ?_
          refine aw_ifb_eq (tgt := 72) dX2_study_61 rfl (fun hc61 => ?_) (fun hc61 => ?_)
          · exact absurd hd hc61
          · refine aw_aload_n dX2_study_64 rfl ?_
            refine aw_iload_n dX2_study_65 rfl ?_
            refine aw_cV1V (c_X2_close hs hRC ⟨hx, h1⟩ hd cz c47 (by rw [c58, lts])) lk_X2_61 dX2_study_66 (by decide) rfl rfl (fun _ => Nat.le_of_ble_eq_true rfl) (fun h66 q66 => ?_)
            refine aw_goto (tgt := 100) dX2_study_69 rfl ?_
            exact nxt _ (FC.tr q66.1) q66.2
      · rw [if_neg hd] at lts
        have FD : FrX h' (am_set (am_set (am_set (fillF h' (49 + x) 0 9) 47 x 0) 58 x (ltP g (x + 1))) 58 x (ltP g (x + 1) * dgF g x)) x := FC.set (by omega)
        have hRD := hRS _ FD
        have hOD : ∀ y : Int, x < y → y < g 0 6 → OlX (am_set (am_set (am_set (fillF h' (49 + x) 0 9) 47 x 0) 58 x (ltP g (x + 1))) 58 x (ltP g (x + 1) * dgF g x)) g y := fun y a b => OlX.of FD ⟨by omega, by omega⟩ (by omega) (hI.2.1 y a b)
        have dz : ∀ n : Int, 0 ≤ n → n ≤ 8 → am_set (am_set (am_set (fillF h' (49 + x) 0 9) 47 x 0) 58 x (ltP g (x + 1))) 58 x (ltP g (x + 1) * dgF g x) (49 + x) n = 0 := by
          intro n a b; rw [am_set_c (by omega)]; exact cz n a b
        have d47 : am_set (am_set (am_set (fillF h' (49 + x) 0 9) 47 x 0) 58 x (ltP g (x + 1))) 58 x (ltP g (x + 1) * dgF g x) 47 x = 0 := by rw [am_set_c (by decide)]; exact c47
        have d58 : am_set (am_set (am_set (fillF h' (49 + x) 0 9) 47 x 0) 58 x (ltP g (x + 1))) 58 x (ltP g (x + 1) * dgF g x) 58 x = ltP g x := by rw [am_set_s, lts]
        refine aw_iload_n dX2_study_18 rfl ?_
        refine aw_if_lt (tgt := 106) dX2_study_19 rfl (by omega) (fun hc19 => ?_) (fun hc19 => ?_)
        · omega
        · refine aw_aload_n dX2_study_22 rfl ?_
          refine aw_getR (kx := 6) fl_X2_32 dX2_study_23 rfl rfl rfl ?_
          refine aw_iload_n dX2_study_26 rfl ?_
          first | refine aw_aaload4 dX2_study_27 rfl (by decide) (by omega) ?_ | refine aw_aaload5 dX2_study_27 rfl (by decide) (by omega) ?_ | refine aw_aaload6 dX2_study_27 rfl (by decide) (by omega) ?_
          refine aw_iconst dX2_study_28 ?_
          refine aw_cS2VF (c_J7_fillI (kdY hx (by omega)) (by decide)) lk_X2_45 dX2_study_29 (by decide) (fun _ => Nat.le_of_ble_eq_true rfl) ?_
          refine aw_aload_n dX2_study_32 rfl ?_
          refine aw_getR (kx := 5) fl_X2_27 dX2_study_33 rfl rfl rfl ?_
          refine aw_iload_n dX2_study_36 rfl ?_
          refine aw_iconst dX2_study_37 ?_
          refine aw_iastore dX2_study_38 rfl (by decide) (by omega) ?_
          refine aw_aload_n dX2_study_39 rfl ?_
          refine aw_getR (kx := 7) fl_X2_35 dX2_study_40 rfl rfl rfl ?_
          refine aw_iload_n dX2_study_43 rfl ?_
          refine aw_aload_n dX2_study_44 rfl ?_
          refine aw_getR (kx := 7) fl_X2_35 dX2_study_45 rfl rfl rfl ?_
          refine aw_iload_n dX2_study_48 rfl ?_
          refine aw_iconst dX2_study_49 ?_
          refine aw_iadd dX2_study_50 ?_
          refine aw_iaload dX2_study_51 rfl (by decide) (by omega) ?_
          refine aw_top e58 ?_
          refine aw_iastore dX2_study_52 rfl (by decide) (by omega) ?_
          refine aw_aload_n dX2_study_53 rfl ?_
          refine aw_getR (kx := 9) fl_X2_41 dX2_study_54 rfl rfl rfl ?_
          refine aw_iload_n dX2_study_57 rfl ?_
          refine aw_cV1IF (c_X5_isOver hs hRC ⟨hx, h1⟩) lk_X2_57 dX2_study_58 (by decide) rfl rfl (fun _ => Nat.le_of_ble_eq_true rfl) ?_
          refine aw_ifb_eq (tgt := 72) dX2_study_61 rfl (fun hc61 => ?_) (fun hc61 => ?_)
          · refine aw_aload_n dX2_study_72 rfl ?_
            refine aw_getR (kx := 7) fl_X2_35 dX2_study_73 rfl rfl rfl ?_
            refine aw_iload_n dX2_study_76 rfl ?_
            refine aw_dup2 dX2_study_77 ?_
            refine aw_iaload dX2_study_78 rfl (by decide) (by omega) ?_
            refine aw_top c58 ?_
            refine aw_aload_n dX2_study_79 rfl ?_
            refine aw_getR (kx := 9) fl_X2_41 dX2_study_80 rfl rfl rfl ?_
            refine aw_getR (kx := 5) fl_X2_65 dX2_study_83 rfl rfl rfl ?_
            refine aw_iload_n dX2_study_86 rfl ?_
            refine aw_iaload dX2_study_87 rfl (by decide) (by omega) ?_
            refine aw_top hdg ?_
            refine aw_imul dX2_study_88 ?_
            refine aw_iastore dX2_study_89 rfl (by decide) (by omega) ?_
            refine aw_aload_n dX2_study_90 rfl ?_
            refine aw_iload_n dX2_study_91 rfl ?_
            refine aw_cV1V (c_X2_gather hs hRD ⟨hx, h1⟩ hOD dz) lk_X2_68 dX2_study_92 (by decide) rfl rfl (fun _ => Nat.le_of_ble_eq_true rfl) (fun h92 q92 => ?_)
            have go := ga_ol hs ⟨hx, h1⟩ hd q92
            have FE := FD.tr q92.1
            refine aw_aload_n dX2_study_95 rfl ?_
            refine aw_iload_n dX2_study_96 rfl ?_
            refine aw_cV1V (c_X2_settle hs (hRS _ FE) ⟨hx, h1⟩ (fun y a b => (OlX.of FE ⟨by omega, by omega⟩ (by omega) (hI.2.1 y a b)).2.2.2.2.1) go.2.2.1 (by rw [q92.2.1]; exact d47)) lk_X2_71 dX2_study_97 (by decide) rfl rfl (fun _ => Nat.le_of_ble_eq_true rfl) (fun h97 q97 => ?_)
            have FF : FrX h' h97 x := FE.tr ⟨fun c q => q97.1 c (by omega), fun c i q r => by
              by_cases e : c = 47
              · subst e; exact q97.2.1 i q
              · rw [q97.1 c e], fun y a b c => q97.1 _ (by omega)⟩
            refine nxt _ FF ⟨?_, ?_, ?_, ?_, q97.2.2, ?_, ?_⟩
            · rw [q97.1 42 (by decide)]; exact go.1
            · rw [q97.1 43 (by decide)]; exact go.2.1
            · rw [q97.1 44 (by decide)]; exact go.2.2.1
            · rw [q97.1 45 (by decide), q97.1 46 (by decide)]; exact go.2.2.2.1
            · rw [q97.1 (49 + x) (by omega)]; exact go.2.2.2.2
            · rw [q97.1 58 (by decide), q92.2.2.1]; exact d58
          · exact absurd hc61 hd
    · refine aw_iload_n dX2_study_18 rfl ?_
      refine aw_if_lt (tgt := 106) dX2_study_19 rfl (by omega) (fun hc19 => ?_) (fun hc19 => ?_)
      · refine aw_vretQ dX2_study_106 rfl ?_
        have hI2 : StI h0 h' g (-1) := (show x = -1 by omega) ▸ hI
        exact ⟨hI2.1, fun y a b => hI2.2.1 y (by omega) b, fun y a b => hI2.2.2 y (by omega) b⟩
      · omega
theorem c_X2_study {h g : am_H} (hs : MVs g) (hR : SpR h g) : AMet GC mX2_study 3 [am_R 41] h (am_QV (fun h' => (∀ c : Int, c < 42 ∨ c = 48 ∨ 58 < c → h' c = h c) ∧ OlR h' g)) := by
  have hnn := hs.1
  have e0 : fillF h 58 1 10 15 0 = g 0 6 := by unfold fillF; rw [am_up_c (by decide)]; exact hR.1.1
  have hlast : ∀ y : Int, g 0 6 - 1 < y → ltP g y = 1 := by
    intro y a; unfold ltP; rw [show (g 0 6 - y).toNat = 0 by omega]; rfl
  refine am_start [some (am_R 41), none] rfl rfl (by decide) (Nat.le_of_ble_eq_true rfl) ?_
  refine aw_aload_n dX2_study_0 rfl ?_
  refine aw_getR (kx := 7) fl_X2_35 dX2_study_1 rfl rfl rfl ?_
  refine aw_iconst dX2_study_4 ?_
  refine aw_cS2VF (c_J7_fillI rfl (by decide)) lk_X2_45 dX2_study_5 (by decide) (fun _ => Nat.le_of_ble_eq_true rfl) ?_
  refine aw_aload_n dX2_study_8 rfl ?_
  refine aw_getR (kx := 9) fl_X2_41 dX2_study_9 rfl rfl rfl ?_
  refine aw_getI (kx := 0) fl_X2_51 dX2_study_12 rfl rfl rfl ?_
  refine aw_top e0 ?_
  refine aw_iconst dX2_study_15 ?_
  refine aw_isub dX2_study_16 ?_
  refine aw_istore_1 dX2_study_17 (by decide) rfl ?_
  refine lp_X2_study hs hR 11 _ _ (by omega) (by omega) (by omega) ⟨fun c q => ?_, fun y a b => by omega, fun y a b => ?_⟩
  · unfold fillF; rw [am_up_c (by omega)]
  · rw [hlast y a]; unfold fillF; rw [am_up_s, if_pos (by omega)]
