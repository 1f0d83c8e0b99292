def kStep (yr s v : Int) : Int := if s < yr + v then yr + v else s
def FK (kd fr to : Int → Int) (ou : Int → Nat) (nw : Nat) (V : Int → Int) (x : Int) : Int := if 1 < pcN 16 (ou x) then (wl fr x nw).foldl (fun s k => kStep (yrK (kd x)) s (V (to k))) 0 else 0
def knV (kd fr to : Int → Int) (ou : Int → Nat) (nw : Nat) : Int → Int := fixF (FK kd fr to ou nw) 0 9
noncomputable abbrev knw (g : am_H) : Int → Int := knV (g 5) (g 7) (g 8) (out g) (nwN g)
theorem FK_caus {g : am_H} (hs : MVs g) : Caus (g 0 6) (FK (g 5) (g 7) (g 8) (out g) (nwN g)) := by
  intro a b x _ _ hab
  unfold FK
  split
  · exact fold_caus (to_ok hs) (fun s v => kStep (yrK (g 5 x)) s v) hab _
  · rfl
theorem knw_eq {g : am_H} (hs : MVs g) {x : Int} (h1 : 0 ≤ x) (h2 : x < g 0 6) : knw g x = FK (g 5) (g 7) (g 8) (out g) (nwN g) (knw g) x := by
  unfold knw knV
  exact fix_eq (FK_caus hs) hs.1.2 h1 h2
theorem kfold_rng {g : am_H} {x c : Int} (hc : 0 ≤ c) (hv : ∀ k : Int, k ∈ wl (g 7) x (nwN g) → knw g (g 8 k) ≤ c) : ∀ i : Nat, i ≤ nwN g → 0 ≤ (wl (g 7) x i).foldl (fun s k => kStep (yrK (g 5 x)) s (knw g (g 8 k))) 0 ∧ (wl (g 7) x i).foldl (fun s k => kStep (yrK (g 5 x)) s (knw g (g 8 k))) 0 ≤ c + 1
  | 0, _ => ⟨Int.le_refl 0, by show (0 : Int) ≤ c + 1; omega⟩
  | i + 1, hi => by
    have ih := kfold_rng hc hv i (by omega)
    have hy := yrK_rng (g 5 x)
    rw [wl_fold]
    split
    · rename_i e
      have := hv i (wl_mem.mpr ⟨by omega, by omega, e⟩)
      generalize (wl (g 7) x i).foldl (fun s k => kStep (yrK (g 5 x)) s (knw g (g 8 k))) 0 = s at ih ⊢
      unfold kStep; split <;> omega
    · exact ⟨ih.1, ih.2⟩
theorem knw_rng {g : am_H} (hs : MVs g) : ∀ (n : Nat) (x : Int), 0 ≤ x → x < g 0 6 → g 0 6 - x ≤ n → 0 ≤ knw g x ∧ knw g x ≤ 9 - x := by
  intro n
  induction n with
  | zero => intro x h1 h2 h3; omega
  | succ n ih =>
    intro x h1 h2 h3
    have hnn := hs.1
    rw [knw_eq hs h1 h2]
    unfold FK
    split
    · have := kfold_rng (g := g) (x := x) (c := 8 - x) (by omega) (fun k hk => by
        obtain ⟨a1, a2, a3⟩ := wl_mem.mp hk
        have a4 := to_ok hs k a1 a2
        have := ih (g 8 k) (by omega) a4.2 (by omega)
        omega) (nwN g) (Nat.le_refl _)
      omega
    · omega
noncomputable def S_known (g : am_H) : Int × am_H := if g 0 6 = 0 then (-4, g) else (knw g (nowF g), g)
/-- behind findOutcomes, known() has come to x -/
def KnI (g g' : am_H) (x : Int) : Prop := (∀ c : Int, ¬ c = 22 → ¬ c = 23 → ¬ c = 28 → g' c = g c) ∧ (∀ y : Int, 0 ≤ y → y < g 0 6 → g' 23 y = (out g y : Nat)) ∧ ∀ y : Int, x < y → y < g 0 6 → g' 28 y = knw g y
theorem KnI.vs {g g' : am_H} {x : Int} (h : KnI g g' x) (hs : MVs g) : MVs g' := hs.of (fun k _ => by rw [h.1 0 (by decide) (by decide) (by decide)]) (fun c a b => h.1 c (by omega) (by omega) (by omega))
theorem KnI.vy {g g' : am_H} {x : Int} (h : KnI g g' x) (hy : MVy g) : MVy g' := by
  unfold MVy; rw [h.1 0 (by decide) (by decide) (by decide), h.1 14 (by decide) (by decide) (by decide), h.1 7 (by decide) (by decide) (by decide), h.1 8 (by decide) (by decide) (by decide)]; exact hy
theorem KnI.me {g g' : am_H} {x : Int} (h : KnI g g' x) : MEq g' g := ⟨fun k _ => by rw [h.1 0 (by decide) (by decide) (by decide)], fun c hc => h.1 c (by omega) (by omega) (by omega)⟩
theorem lp_X8_known2 {g : am_H} {Q : Option am_V → am_H → Prop} (hs : MVs g) {x : Int} (hx : 0 ≤ x ∧ x < g 0 6) (K : ∀ (g' : am_H) (x2 : Int) (x3 : Option am_V), KnI g g' (x - 1) → AW GM mX8_known 4 Q 119 [some (am_R 0), some (am_I x), some (am_I x2), x3] [] g') : ∀ (j i : Nat) (g' : am_H) (x3 : Option am_V), (i : Int) ≤ g 0 10 → g 0 10 - i < j → KnI g g' x → g' 28 x = (if 1 < pcN 16 (out g x) then (wl (g 7) x i).foldl (fun s k => kStep (yrK (g 5 x)) s (knw g (g 8 k))) 0 else 0) → AW GM mX8_known 4 Q 34 [some (am_R 0), some (am_I x), some (am_I i), x3] [] g' := by
  have hw := hs.2.1
  have hnn := hs.1
  have hkd := hs.2.2.2.1 x hx.1 hx.2
  have hyk := yrK_rng (g 5 x)
  have hlt := out_lt hs 9 x hx.1 hx.2 (by omega)
  have hpl := pcN_le 16 (out g x)
  have hfr := kfold_rng (g := g) (x := x) (c := 8) (by omega) (fun k hk => by
        obtain ⟨a1, a2, a3⟩ := wl_mem.mp hk
        have a4 := to_ok hs k a1 a2
        have := knw_rng hs 9 (g 8 k) (by omega) a4.2 (by omega)
        omega)
  intro j
  induction j with
  | zero => intro i g' x3 h1 h2; omega
  | succ j ih =>
    intro i g' x3 h1 h2 hI hse
    have f0 := hI.1 0 (by decide) (by decide) (by decide)
    have f5 := hI.1 5 (by decide) (by decide) (by decide)
    have f7 := hI.1 7 (by decide) (by decide) (by decide)
    have f8 := hI.1 8 (by decide) (by decide) (by decide)
    have f0w : g' 0 10 = g 0 10 := by rw [f0]
    have f5x : g' 5 x = g 5 x := by rw [f5]
    have f7i : g' 7 i = g 7 i := by rw [f7]
    have f8i : g' 8 i = g 8 i := by rw [f8]
    have ou := hI.2.1 x hx.1 hx.2
    have hfs := wl_fold (fr := g 7) (x := x) (i := i) (fun s k => kStep (yrK (g 5 x)) s (knw g (g 8 k))) 0
    have hfi := hfr i (by unfold nwN; omega)
    have hv := hs.2.2.2.2.1 i (by omega)
    have done : ((i : Int) = g 0 10 ∨ ¬ 1 < pcN 16 (out g x)) → KnI g g' (x - 1) := by
      intro h
      refine ⟨hI.1, hI.2.1, fun y a b => ?_⟩
      by_cases e : y = x
      · subst e
        rw [knw_eq hs hx.1 hx.2, FK, hse]
        rcases h with h | h
        · have en : nwN g = i := by unfold nwN; omega
          rw [en]
        · rw [if_neg h, if_neg h]
      · exact hI.2.2 y (by omega) b
    have nxt : ∀ (v : Int) (y3 : Option am_V), (i : Int) < g 0 10 → 1 < pcN 16 (out g x) → v = (wl (g 7) x (i + 1)).foldl (fun s k => kStep (yrK (g 5 x)) s (knw g (g 8 k))) 0 → AW GM mX8_known 4 Q 34 [some (am_R 0), some (am_I x), some (am_I (i + 1 : Nat)), y3] [] (am_set g' 28 x v) := by
      intro v y3 hlt2 hp hvw
      refine ih (i + 1) _ _ (by omega) (by omega) ⟨fun c a b d => ?_, fun y a b => ?_, fun y a b => ?_⟩ ?_
      · rw [am_set_c d]; exact hI.1 c a b d
      · rw [am_set_c (by decide)]; exact hI.2.1 y a b
      · rw [am_set_i (by omega)]; exact hI.2.2 y a b
      · rw [am_set_s, if_pos hp, hvw]
    refine aw_iload_n dX8_known_34 rfl ?_
    refine aw_aload_n dX8_known_35 rfl ?_
    refine aw_getI (kx := 10) fl_X8_210 dX8_known_36 rfl rfl rfl ?_
    refine aw_icmp_ge (tgt := 119) dX8_known_39 rfl (by omega) (by omega) (fun hc39 => ?_) (fun hc39 => ?_)
    · exact K g' _ _ (done (by omega))
    · refine aw_aload_n dX8_known_42 rfl ?_
      refine aw_getR (kx := 35) fl_X8_80 dX8_known_43 rfl rfl rfl ?_
      refine aw_iload_n dX8_known_46 rfl ?_
      refine aw_iaload dX8_known_47 rfl (by decide) (by omega) ?_
      refine aw_cS1IF (c_X8_ones ou (by omega)) lk_X8_256 dX8_known_48 (by decide) (fun _ => Nat.le_of_ble_eq_true rfl) ?_
      refine aw_iconst dX8_known_51 ?_
      refine aw_icmp_le (tgt := 119) dX8_known_52 rfl (by omega) (by omega) (fun hc52 => ?_) (fun hc52 => ?_)
      · exact K g' _ _ (done (by omega))
      · have hv2 := (hv (by omega)).1
        have hp1 : 1 < pcN 16 (out g x) := by omega
        rw [if_pos hp1] at hse
        refine aw_aload_n dX8_known_55 rfl ?_
        refine aw_getR (kx := 7) fl_X8_28 dX8_known_56 rfl rfl rfl ?_
        refine aw_iload_n dX8_known_59 rfl ?_
        refine aw_iaload dX8_known_60 rfl (by decide) (by omega) ?_
        refine aw_iload_n dX8_known_61 rfl ?_
        refine aw_icmp_ne (tgt := 85) dX8_known_62 rfl (by omega) (by omega) (fun hc62 => ?_) (fun hc62 => ?_)
        · refine aw_iconst dX8_known_85 ?_
          refine aw_istore_3 dX8_known_86 (by decide) rfl ?_
          refine aw_aload_n dX8_known_87 rfl ?_
          refine aw_getR (kx := 40) fl_X8_97 dX8_known_88 rfl rfl rfl ?_
          refine aw_iload_n dX8_known_91 rfl ?_
          refine aw_iload_n dX8_known_92 rfl ?_
          refine aw_aload_n dX8_known_93 rfl ?_
          refine aw_getR (kx := 40) fl_X8_97 dX8_known_94 rfl rfl rfl ?_
          refine aw_iload_n dX8_known_97 rfl ?_
          refine aw_iaload dX8_known_98 rfl (by decide) (by omega) ?_
          refine aw_icmp_le (tgt := 106) dX8_known_99 rfl (by omega) (by omega) (fun hc99 => ?_) (fun hc99 => ?_)
          · refine aw_aload_n dX8_known_106 rfl ?_
            refine aw_getR (kx := 40) fl_X8_97 dX8_known_107 rfl rfl rfl ?_
            refine aw_iload_n dX8_known_110 rfl ?_
            refine aw_iaload dX8_known_111 rfl (by decide) (by omega) ?_
            refine aw_iastore dX8_known_112 rfl (by decide) (by omega) ?_
            refine aw_iinc2 dX8_known_113 (by decide) rfl ?_
            refine aw_goto (tgt := 34) dX8_known_116 rfl ?_
            exact nxt _ _ (by omega) hp1 (by rw [hfs, if_neg (by omega), hse])
          · refine aw_iload_n dX8_known_102 rfl ?_
            refine aw_goto (tgt := 112) dX8_known_103 rfl ?_
            refine aw_iastore dX8_known_112 rfl (by decide) (by omega) ?_
            refine aw_iinc2 dX8_known_113 (by decide) rfl ?_
            refine aw_goto (tgt := 34) dX8_known_116 rfl ?_
            exact nxt _ _ (by omega) hp1 (by rw [hfs, if_neg (by omega)]; omega)
        · have hIt := hI.2.2 (g 8 i) (by omega) hv2.2.2
          have hkr := knw_rng hs 9 (g 8 i) (by omega) hv2.2.2 (by omega)
          refine aw_aload_n dX8_known_65 rfl ?_
          refine aw_iload_n dX8_known_66 rfl ?_
          refine aw_cV1IF (c_X8_yearOf (by omega) (by omega)) lk_X8_287 dX8_known_67 (by decide) rfl rfl (fun _ => Nat.le_of_ble_eq_true rfl) ?_
          rw [f5x]
          refine aw_aload_n dX8_known_70 rfl ?_
          refine aw_getR (kx := 40) fl_X8_97 dX8_known_71 rfl rfl rfl ?_
          refine aw_aload_n dX8_known_74 rfl ?_
          refine aw_getR (kx := 8) fl_X8_31 dX8_known_75 rfl rfl rfl ?_
          refine aw_iload_n dX8_known_78 rfl ?_
          refine aw_iaload dX8_known_79 rfl (by decide) (by omega) ?_
          refine aw_iaload dX8_known_80 rfl (by decide) (by omega) ?_
          refine aw_top (show g' 28 (g' 8 i) = knw g (g 8 i) by rw [f8i]; exact hIt) ?_
          refine aw_iadd dX8_known_81 ?_
          refine aw_goto (tgt := 86) dX8_known_82 rfl ?_
          refine aw_istore_3 dX8_known_86 (by decide) rfl ?_
          refine aw_aload_n dX8_known_87 rfl ?_
          refine aw_getR (kx := 40) fl_X8_97 dX8_known_88 rfl rfl rfl ?_
          refine aw_iload_n dX8_known_91 rfl ?_
          refine aw_iload_n dX8_known_92 rfl ?_
          refine aw_aload_n dX8_known_93 rfl ?_
          refine aw_getR (kx := 40) fl_X8_97 dX8_known_94 rfl rfl rfl ?_
          refine aw_iload_n dX8_known_97 rfl ?_
          refine aw_iaload dX8_known_98 rfl (by decide) (by omega) ?_
          refine aw_icmp_le (tgt := 106) dX8_known_99 rfl (by omega) (by omega) (fun hc99 => ?_) (fun hc99 => ?_)
          · refine aw_aload_n dX8_known_106 rfl ?_
            refine aw_getR (kx := 40) fl_X8_97 dX8_known_107 rfl rfl rfl ?_
            refine aw_iload_n dX8_known_110 rfl ?_
            refine aw_iaload dX8_known_111 rfl (by decide) (by omega) ?_
            refine aw_iastore dX8_known_112 rfl (by decide) (by omega) ?_
            refine aw_iinc2 dX8_known_113 (by decide) rfl ?_
            refine aw_goto (tgt := 34) dX8_known_116 rfl ?_
            exact nxt _ _ (by omega) hp1 (by rw [hfs, if_pos (by omega), kStep, if_neg (by omega), hse])
          · refine aw_iload_n dX8_known_102 rfl ?_
            refine aw_goto (tgt := 112) dX8_known_103 rfl ?_
            refine aw_iastore dX8_known_112 rfl (by decide) (by omega) ?_
            refine aw_iinc2 dX8_known_113 (by decide) rfl ?_
            refine aw_goto (tgt := 34) dX8_known_116 rfl ?_
            exact nxt _ _ (by omega) hp1 (by rw [hfs, if_pos (by omega), kStep, if_pos (by omega)])
theorem lp_X8_known1 {g : am_H} (hs : MVs g) (hy : MVy g) (h0 : ¬ g 0 6 = 0) : ∀ (j : Nat) (x : Int) (g' : am_H) (x2 x3 : Option am_V), x < g 0 6 → -1 ≤ x → x + 1 < j → KnI g g' x → AW GM mX8_known 4 (QM (S_known g)) 21 [some (am_R 0), some (am_I x), x2, x3] [] g' := by
  have hnn := hs.1
  have hnr := now_rng hs hy
  have hw := hs.2.1
  intro j
  induction j with
  | zero => intro x g' x2 x3 h1 h2 h3; omega
  | succ j ih =>
    intro x g' x2 x3 h1 h2 h3 hI
    have hvs := hI.vs hs
    have hvy := hI.vy hy
    have enow : nowF g' = nowF g := by unfold nowF; rw [hI.1 0 (by decide) (by decide) (by decide), hI.1 8 (by decide) (by decide) (by decide), hI.1 14 (by decide) (by decide) (by decide)]
    have K : ∀ (g'' : am_H) (y2 : Int) (y3 : Option am_V), KnI g g'' (x - 1) → 0 ≤ x → AW GM mX8_known 4 (QM (S_known g)) 119 [some (am_R 0), some (am_I x), some (am_I y2), y3] [] g'' := by
      intro g'' y2 y3 hI2 hx0
      refine aw_iinc1 dX8_known_119 (by decide) rfl ?_
      refine aw_goto (tgt := 21) dX8_known_122 rfl ?_
      exact ih (x - 1) g'' _ _ (by omega) (by omega) (by omega) hI2
    refine aw_iload_n dX8_known_21 rfl ?_
    refine aw_if_lt (tgt := 125) dX8_known_22 rfl (by omega) (fun hc22 => ?_) (fun hc22 => ?_)
    · refine aw_aload_n dX8_known_125 rfl ?_
      refine aw_getR (kx := 40) fl_X8_97 dX8_known_126 rfl rfl rfl ?_
      refine aw_aload_n dX8_known_129 rfl ?_
      refine aw_cV0IF (c_X8_whereNow hvs hvy) lk_X8_274 dX8_known_130 (by decide) rfl rfl (fun _ => Nat.le_of_ble_eq_true rfl) ?_
      rw [enow]
      refine aw_iaload dX8_known_133 rfl (by decide) (by omega) ?_
      refine aw_iretQ dX8_known_134 rfl ?_
      rw [S_known, if_neg h0]
      have hN := hI.2.2 (nowF g) (by omega) (by omega)
      exact ⟨by rw [hN], hI.me⟩
    · refine aw_aload_n dX8_known_25 rfl ?_
      refine aw_getR (kx := 40) fl_X8_97 dX8_known_26 rfl rfl rfl ?_
      refine aw_iload_n dX8_known_29 rfl ?_
      refine aw_iconst dX8_known_30 ?_
      refine aw_iastore dX8_known_31 rfl (by decide) (by omega) ?_
      refine aw_iconst dX8_known_32 ?_
      refine aw_istore_2 dX8_known_33 (by decide) rfl ?_
      refine lp_X8_known2 hs ⟨by omega, h1⟩ (fun g3 y2 y3 hI3 => K g3 y2 y3 hI3 (by omega)) 15 0 _ _ (by omega) (by omega) ⟨fun c a b d => ?_, fun y a b => ?_, fun y a b => ?_⟩ ?_
      · rw [am_set_c d]; exact hI.1 c a b d
      · rw [am_set_c (by decide)]; exact hI.2.1 y a b
      · rw [am_set_i (by omega)]; exact hI.2.2 y a b
      · rw [am_set_s]; split <;> rfl
theorem c_X8_known {g : am_H} (hs : MVs g) (hy : MVy g) : AMet GM mX8_known 4 [am_R 0] g (QM (S_known g)) := by
  have hnn := hs.1
  refine am_start [some (am_R 0), none, none, none] rfl rfl (by decide) (Nat.le_of_ble_eq_true rfl) ?_
  refine aw_aload_n dX8_known_0 rfl ?_
  refine aw_getI (kx := 6) fl_X8_207 dX8_known_1 rfl rfl rfl ?_
  refine aw_if_ne (tgt := 10) dX8_known_4 rfl (by omega) (fun hc4 => ?_) (fun hc4 => ?_)
  · refine aw_aload_n dX8_known_10 rfl ?_
    refine aw_cV0V (c_X8_findOutcomes hs) lk_X8_228 dX8_known_11 (by decide) rfl rfl (fun _ => Nat.le_of_ble_eq_true rfl) (fun h11 q11 => ?_)
    refine aw_aload_n dX8_known_14 rfl ?_
    refine aw_getI (kx := 6) fl_X8_207 dX8_known_15 rfl rfl rfl ?_
    refine aw_top (show h11 0 6 = g 0 6 by rw [q11.1 0 (by decide) (by decide)]) ?_
    refine aw_iconst dX8_known_18 ?_
    refine aw_isub dX8_known_19 ?_
    refine aw_istore_1 dX8_known_20 (by decide) rfl ?_
    exact lp_X8_known1 hs hy (by omega) 11 _ h11 _ _ (by omega) (by omega) (by omega) ⟨fun c a b _ => q11.1 c a b, fun y a b => (q11.2 y (by omega) b).2, fun y a b => by omega⟩
  · refine aw_bipush (by decide) dX8_known_7 ?_
    refine aw_iretQ dX8_known_9 rfl ?_
    rw [S_known, if_pos (by omega)]; exact ⟨rfl, MEq.rf _⟩
