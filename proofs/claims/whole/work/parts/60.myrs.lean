def yStep (yr : Int) (s v : Int × Int) : Int × Int := if 0 ≤ v.1 then (if s.1 < 0 ∨ v.1 + yr < s.1 then v.1 + yr else s.1, if s.2 < v.2 + yr then v.2 + yr else s.2) else s
def yBase (kd : Int → Int) (x : Int) : Int := if fin (kd x) then 0 else -9
def FY (kd fr to : Int → Int) (nw : Nat) (V : Int → Int × Int) (x : Int) : Int × Int := (wl fr x nw).foldl (fun s k => yStep (yrK (kd x)) s (V (to k))) (yBase kd x, yBase kd x)
def yrV (kd fr to : Int → Int) (nw : Nat) : Int → Int × Int := fixF (FY kd fr to nw) (0, 0) 9
abbrev yrs (g : am_H) : Int → Int × Int := yrV (g 5) (g 7) (g 8) (nwN g)
theorem FY_caus {g : am_H} (hs : MVs g) : Caus (g 0 6) (FY (g 5) (g 7) (g 8) (nwN g)) := by
  intro a b x _ _ hab
  unfold FY
  exact fold_caus (to_ok hs) (fun s v => yStep (yrK (g 5 x)) s v) hab _
theorem yrs_eq {g : am_H} (hs : MVs g) {x : Int} (h1 : 0 ≤ x) (h2 : x < g 0 6) : yrs g x = FY (g 5) (g 7) (g 8) (nwN g) (yrs g) x := by
  unfold yrs yrV
  exact fix_eq (FY_caus hs) hs.1.2 h1 h2
def yIn (c : Int) (v : Int × Int) : Prop := (-9 ≤ v.1 ∧ v.1 ≤ c) ∧ (-9 ≤ v.2 ∧ v.2 ≤ c)
theorem yStep_in {yr c : Int} {s v : Int × Int} (hy : 0 ≤ yr ∧ yr ≤ 1) (hs : yIn (c + 1) s) (hv : yIn c v) : yIn (c + 1) (yStep yr s v) := by
  obtain ⟨⟨a1, a2⟩, a3, a4⟩ := hs
  obtain ⟨⟨b1, b2⟩, b3, b4⟩ := hv
  unfold yStep
  split
  · refine ⟨?_, ?_⟩
    · dsimp only; split <;> omega
    · dsimp only; split <;> omega
  · exact ⟨⟨a1, a2⟩, a3, a4⟩
theorem yrK_rng (k : Int) : 0 ≤ yrK k ∧ yrK k ≤ 1 := by unfold yrK; split <;> omega
theorem yrs_in {g : am_H} (hs : MVs g) : ∀ (n : Nat) (x : Int), 0 ≤ x → x < g 0 6 → g 0 6 - x ≤ n → yIn (8 - x) (yrs g x) := by
  intro n
  induction n with
  | zero => intro x h1 h2 h3; omega
  | succ n ih =>
    intro x h1 h2 h3
    have hnn := hs.1
    rw [yrs_eq hs h1 h2]
    unfold FY
    have hb : yIn (7 - x + 1) (yBase (g 5) x, yBase (g 5) x) := by
      unfold yIn yBase; dsimp only; split <;> omega
    have : ∀ (l : List Int) (s : Int × Int), yIn (7 - x + 1) s → (∀ k ∈ l, k ∈ wl (g 7) x (nwN g)) → yIn (7 - x + 1) (l.foldl (fun s k => yStep (yrK (g 5 x)) s (yrs g (g 8 k))) s) := by
      intro l
      induction l with
      | nil => intro s hs _; exact hs
      | cons k l ihl =>
        intro s hs' hk
        obtain ⟨a1, a2, a3⟩ := wl_mem.mp (hk k List.mem_cons_self)
        have a4 := to_ok hs k a1 a2
        simp only [List.foldl_cons]
        refine ihl _ (yStep_in (yrK_rng _) hs' ?_) (fun j hj => hk j (List.mem_cons_of_mem _ hj))
        have h5 := ih (g 8 k) (by omega) a4.2 (by omega)
        unfold yIn at h5 ⊢
        omega
    have h6 := this _ _ hb (fun k hk => hk)
    unfold yIn at h6 ⊢
    omega
theorem yfold_in {g : am_H} (hs : MVs g) {x : Int} (h1 : 0 ≤ x) (h2 : x < g 0 6) : ∀ i : Nat, (i : Int) ≤ g 0 10 → yIn 9 ((wl (g 7) x i).foldl (fun s k => yStep (yrK (g 5 x)) s (yrs g (g 8 k))) (yBase (g 5) x, yBase (g 5) x))
  | 0, _ => by
    show yIn 9 (yBase (g 5) x, yBase (g 5) x)
    unfold yIn yBase; dsimp only; split <;> omega
  | i + 1, hi => by
    have ih := yfold_in hs h1 h2 i (by omega)
    rw [wl_fold]
    split
    · rename_i e
      have hnn := hs.1
      have a4 := to_ok hs i (by omega) (by unfold nwN; omega)
      have a5 := yrs_in hs 9 (g 8 i) (by omega) a4.2 (by omega)
      exact yStep_in (c := 8) (yrK_rng _) ih (by unfold yIn at a5 ⊢; omega)
    · exact ih
noncomputable def S_years (g : am_H) : Int × am_H := if g 0 6 = 0 then (-4, g) else if (yrs g (nowF g)).1 < 0 then (-9, g) else ((yrs g (nowF g)).1, am_set g 0 20 (yrs g (nowF g)).2)
def YrI (g g' : am_H) (x : Int) : Prop := (∀ c : Int, ¬ c = 27 → ¬ c = 28 → g' c = g c) ∧ ∀ y : Int, x < y → y < g 0 6 → g' 27 y = (yrs g y).1 ∧ g' 28 y = (yrs g y).2
theorem YrI.vs {g g' : am_H} {x : Int} (h : YrI g g' x) (hs : MVs g) : MVs g' := hs.of (fun k _ => by rw [h.1 0 (by decide) (by decide)]) (fun c a b => h.1 c (by omega) (by omega))
theorem YrI.vy {g g' : am_H} {x : Int} (h : YrI g g' x) (hy : MVy g) : MVy g' := by
  unfold MVy; rw [h.1 0 (by decide) (by decide), h.1 14 (by decide) (by decide), h.1 7 (by decide) (by decide), h.1 8 (by decide) (by decide)]; exact hy
theorem YrI.me {g g' : am_H} {x : Int} (h : YrI g g' x) : MEq g' g := ⟨fun k _ => by rw [h.1 0 (by decide) (by decide)], fun c hc => h.1 c (by omega) (by omega)⟩
theorem lp_X8_years2 {g : am_H} {Q : Option am_V → am_H → Prop} (hs : MVs g) {x : Int} (hx : 0 ≤ x ∧ x < g 0 6) (K : ∀ (g' : am_H) (x2 : Int) (x3 x4 : Option am_V), YrI g g' (x - 1) → AW GM mX8_years 2 Q 197 [some (am_R 0), some (am_I x), some (am_I x2), x3, x4] [] g') : ∀ (j i : Nat) (g' : am_H) (x3 x4 : Option am_V), (i : Int) ≤ g 0 10 → g 0 10 - i < j → YrI g g' x → (g' 27 x, g' 28 x) = (wl (g 7) x i).foldl (fun s k => yStep (yrK (g 5 x)) s (yrs g (g 8 k))) (yBase (g 5) x, yBase (g 5) x) → AW GM mX8_years 2 Q 59 [some (am_R 0), some (am_I x), some (am_I i), x3, x4] [] g' := by
  have hw := hs.2.1
  have hnn := hs.1
  have hkd := hs.2.2.2.1 x hx.1 hx.2
  have hyk := yrK_rng (g 5 x)
  intro j
  induction j with
  | zero => intro i g' x3 x4 h1 h2; omega
  | succ j ih =>
    intro i g' x3 x4 h1 h2 hI hse
    have f0 := hI.1 0 (by decide) (by decide)
    have f5 := hI.1 5 (by decide) (by decide)
    have f7 := hI.1 7 (by decide) (by decide)
    have f8 := hI.1 8 (by decide) (by decide)
    have f0w : g' 0 10 = g 0 10 := by rw [f0]
    have f5x : g' 5 x = g 5 x := by rw [f5]
    have f7i : g' 7 i = g 7 i := by rw [f7]
    have f8i : g' 8 i = g 8 i := by rw [f8]
    have hfs := wl_fold (fr := g 7) (x := x) (i := i) (fun s k => yStep (yrK (g 5 x)) s (yrs g (g 8 k))) (yBase (g 5) x, yBase (g 5) x)
    have hin := yfold_in hs hx.1 hx.2 i h1
    rw [← hse] at hfs hin
    have hv := hs.2.2.2.2.1 i (by omega)
    unfold yIn at hin
    have keep : (¬ g 7 i = x ∨ (yrs g (g 8 i)).1 < 0) → (g' 27 x, g' 28 x) = (wl (g 7) x (i + 1)).foldl (fun s k => yStep (yrK (g 5 x)) s (yrs g (g 8 k))) (yBase (g 5) x, yBase (g 5) x) := by
      intro h
      rw [hfs]
      split
      · rw [yStep, if_neg (by omega)]
      · rfl
    have nxt : ∀ (v w : Int) (y3 y4 : Option am_V), g 7 i = x → (i : Int) < g 0 10 → (v, w) = yStep (yrK (g 5 x)) (g' 27 x, g' 28 x) (yrs g (g 8 i)) → AW GM mX8_years 2 Q 59 [some (am_R 0), some (am_I x), some (am_I (i + 1 : Nat)), y3, y4] [] (am_set (am_set g' 27 x v) 28 x w) := by
      intro v w y3 y4 e hlt hvw
      refine ih (i + 1) _ _ _ (by omega) (by omega) ⟨fun c a b => ?_, fun y a b => ?_⟩ ?_
      · rw [am_set_c b, am_set_c a]; exact hI.1 c a b
      · rw [am_set_c (c := 28) (x := 27) (by decide), am_set_i (c := 27) (by omega), am_set_i (c := 28) (by omega), am_set_c (c := 27) (x := 28) (by decide)]
        exact hI.2 y a b
      · rw [am_set_c (c := 28) (x := 27) (by decide), am_set_s, am_set_s, hfs, if_pos e, ← hvw]
    refine aw_iload_n dX8_years_59 rfl ?_
    refine aw_aload_n dX8_years_60 rfl ?_
    refine aw_getI (kx := 10) fl_X8_210 dX8_years_61 rfl rfl rfl ?_
    refine aw_icmp_ge (tgt := 197) dX8_years_64 rfl (by omega) (by omega) (fun hc64 => ?_) (fun hc64 => ?_)
    · refine K g' _ _ _ ⟨hI.1, fun y a b => ?_⟩
      by_cases e : y = x
      · subst e
        have en : nwN g = i := by unfold nwN; omega
        have e2 := yrs_eq hs hx.1 hx.2
        rw [FY, en, ← hse] at e2
        rw [e2]; exact ⟨rfl, rfl⟩
      · exact hI.2 y (by omega) b
    · have hv2 := (hv (by omega)).1
      refine aw_aload_n dX8_years_67 rfl ?_
      refine aw_getR (kx := 7) fl_X8_28 dX8_years_68 rfl rfl rfl ?_
      refine aw_iload_n dX8_years_71 rfl ?_
      refine aw_iaload dX8_years_72 rfl (by decide) (by omega) ?_
      refine aw_iload_n dX8_years_73 rfl ?_
      refine aw_icmp_ne (tgt := 191) dX8_years_74 rfl (by omega) (by omega) (fun hc74 => ?_) (fun hc74 => ?_)
      · refine aw_iinc2 dX8_years_191 (by decide) rfl ?_
        refine aw_goto (tgt := 59) dX8_years_194 rfl ?_
        exact ih (i + 1) g' _ _ (by omega) (by omega) hI (keep (by omega))
      · have hIt := hI.2 (g 8 i) (by omega) hv2.2.2
        have hyi := yrs_in hs 9 (g 8 i) (by omega) hv2.2.2 (by omega)
        unfold yIn at hyi
        refine aw_aload_n dX8_years_77 rfl ?_
        refine aw_getR (kx := 39) fl_X8_94 dX8_years_78 rfl rfl rfl ?_
        refine aw_aload_n dX8_years_81 rfl ?_
        refine aw_getR (kx := 8) fl_X8_31 dX8_years_82 rfl rfl rfl ?_
        refine aw_iload_n dX8_years_85 rfl ?_
        refine aw_iaload dX8_years_86 rfl (by decide) (by omega) ?_
        refine aw_iaload dX8_years_87 rfl (by decide) (by omega) ?_
        refine aw_top (show g' 27 (g' 8 i) = (yrs g (g 8 i)).1 by rw [f8i]; exact hIt.1) ?_
        refine aw_if_lt (tgt := 191) dX8_years_88 rfl (by omega) (fun hc88 => ?_) (fun hc88 => ?_)
        · refine aw_iinc2 dX8_years_191 (by decide) rfl ?_
          refine aw_goto (tgt := 59) dX8_years_194 rfl ?_
          exact ih (i + 1) g' _ _ (by omega) (by omega) hI (keep (by omega))
        · refine aw_aload_n dX8_years_91 rfl ?_
          refine aw_getR (kx := 39) fl_X8_94 dX8_years_92 rfl rfl rfl ?_
          refine aw_aload_n dX8_years_95 rfl ?_
          refine aw_getR (kx := 8) fl_X8_31 dX8_years_96 rfl rfl rfl ?_
          refine aw_iload_n dX8_years_99 rfl ?_
          refine aw_iaload dX8_years_100 rfl (by decide) (by omega) ?_
          refine aw_iaload dX8_years_101 rfl (by decide) (by omega) ?_
          refine aw_top (show g' 27 (g' 8 i) = (yrs g (g 8 i)).1 by rw [f8i]; exact hIt.1) ?_
          refine aw_aload_n dX8_years_102 rfl ?_
          refine aw_iload_n dX8_years_103 rfl ?_
          refine aw_cV1IF (c_X8_yearOf (by omega) (by omega)) lk_X8_287 dX8_years_104 (by decide) rfl rfl (fun _ => Nat.le_of_ble_eq_true rfl) ?_
          rw [f5x]
          refine aw_iadd dX8_years_107 ?_
          refine aw_istore_3 dX8_years_108 (by decide) rfl ?_
          refine aw_aload_n dX8_years_109 rfl ?_
          refine aw_getR (kx := 40) fl_X8_97 dX8_years_110 rfl rfl rfl ?_
          refine aw_aload_n dX8_years_113 rfl ?_
          refine aw_getR (kx := 8) fl_X8_31 dX8_years_114 rfl rfl rfl ?_
          refine aw_iload_n dX8_years_117 rfl ?_
          refine aw_iaload dX8_years_118 rfl (by decide) (by omega) ?_
          refine aw_iaload dX8_years_119 rfl (by decide) (by omega) ?_
          refine aw_top (show g' 28 (g' 8 i) = (yrs g (g 8 i)).2 by rw [f8i]; exact hIt.2) ?_
          refine aw_aload_n dX8_years_120 rfl ?_
          refine aw_iload_n dX8_years_121 rfl ?_
          refine aw_cV1IF (c_X8_yearOf (by omega) (by omega)) lk_X8_287 dX8_years_122 (by decide) rfl rfl (fun _ => Nat.le_of_ble_eq_true rfl) ?_
          rw [f5x]
          refine aw_iadd dX8_years_125 ?_
          refine aw_istore4 dX8_years_126 (by decide) rfl ?_
          refine aw_aload_n dX8_years_128 rfl ?_
          refine aw_getR (kx := 39) fl_X8_94 dX8_years_129 rfl rfl rfl ?_
          refine aw_iload_n dX8_years_132 rfl ?_
          refine aw_aload_n dX8_years_133 rfl ?_
          refine aw_getR (kx := 39) fl_X8_94 dX8_years_134 rfl rfl rfl ?_
          refine aw_iload_n dX8_years_137 rfl ?_
          refine aw_iaload dX8_years_138 rfl (by decide) (by omega) ?_
          refine aw_if_lt (tgt := 152) dX8_years_139 rfl (by omega) (fun hc139 => ?_) (fun hc139 => ?_)
          · refine aw_iload_n dX8_years_152 rfl ?_
            refine aw_goto (tgt := 162) dX8_years_153 rfl ?_
            refine aw_iastore dX8_years_162 rfl (by decide) (by omega) ?_
            refine aw_aload_n dX8_years_163 rfl ?_
            refine aw_getR (kx := 40) fl_X8_97 dX8_years_164 rfl rfl rfl ?_
            refine aw_iload_n dX8_years_167 rfl ?_
            refine aw_iload dX8_years_168 rfl ?_
            refine aw_aload_n dX8_years_170 rfl ?_
            refine aw_getR (kx := 40) fl_X8_97 dX8_years_171 rfl rfl rfl ?_
            refine aw_iload_n dX8_years_174 rfl ?_
            refine aw_iaload dX8_years_175 rfl (by decide) (by omega) ?_
            rw [am_set_c (c := 27) (x := 28) (by decide)]
            refine aw_icmp_le (tgt := 184) dX8_years_176 rfl (by omega) (by omega) (fun hc176 => ?_) (fun hc176 => ?_)
            · refine aw_aload_n dX8_years_184 rfl ?_
              refine aw_getR (kx := 40) fl_X8_97 dX8_years_185 rfl rfl rfl ?_
              refine aw_iload_n dX8_years_188 rfl ?_
              refine aw_iaload dX8_years_189 rfl (by decide) (by omega) ?_
              rw [am_set_c (c := 27) (x := 28) (by decide)]
              refine aw_iastore dX8_years_190 rfl (by decide) (by omega) ?_
              refine aw_iinc2 dX8_years_191 (by decide) rfl ?_
              refine aw_goto (tgt := 59) dX8_years_194 rfl ?_
              exact nxt _ _ _ _ (by omega) (by omega) (by rw [yStep, if_pos (by omega), if_pos (by omega), if_neg (by omega)])
            · refine aw_iload dX8_years_179 rfl ?_
              refine aw_goto (tgt := 190) dX8_years_181 rfl ?_
              refine aw_iastore dX8_years_190 rfl (by decide) (by omega) ?_
              refine aw_iinc2 dX8_years_191 (by decide) rfl ?_
              refine aw_goto (tgt := 59) dX8_years_194 rfl ?_
              exact nxt _ _ _ _ (by omega) (by omega) (by rw [yStep, if_pos (by omega), if_pos (by omega), if_pos (by omega)])
          · refine aw_iload_n dX8_years_142 rfl ?_
            refine aw_aload_n dX8_years_143 rfl ?_
            refine aw_getR (kx := 39) fl_X8_94 dX8_years_144 rfl rfl rfl ?_
            refine aw_iload_n dX8_years_147 rfl ?_
            refine aw_iaload dX8_years_148 rfl (by decide) (by omega) ?_
            refine aw_icmp_ge (tgt := 156) dX8_years_149 rfl (by omega) (by omega) (fun hc149 => ?_) (fun hc149 => ?_)
            · refine aw_aload_n dX8_years_156 rfl ?_
              refine aw_getR (kx := 39) fl_X8_94 dX8_years_157 rfl rfl rfl ?_
              refine aw_iload_n dX8_years_160 rfl ?_
              refine aw_iaload dX8_years_161 rfl (by decide) (by omega) ?_
              refine aw_iastore dX8_years_162 rfl (by decide) (by omega) ?_
              refine aw_aload_n dX8_years_163 rfl ?_
              refine aw_getR (kx := 40) fl_X8_97 dX8_years_164 rfl rfl rfl ?_
              refine aw_iload_n dX8_years_167 rfl ?_
              refine aw_iload dX8_years_168 rfl ?_
              refine aw_aload_n dX8_years_170 rfl ?_
              refine aw_getR (kx := 40) fl_X8_97 dX8_years_171 rfl rfl rfl ?_
              refine aw_iload_n dX8_years_174 rfl ?_
              refine aw_iaload dX8_years_175 rfl (by decide) (by omega) ?_
              rw [am_set_c (c := 27) (x := 28) (by decide)]
              refine aw_icmp_le (tgt := 184) dX8_years_176 rfl (by omega) (by omega) (fun hc176 => ?_) (fun hc176 => ?_)
              · refine aw_aload_n dX8_years_184 rfl ?_
                refine aw_getR (kx := 40) fl_X8_97 dX8_years_185 rfl rfl rfl ?_
                refine aw_iload_n dX8_years_188 rfl ?_
                refine aw_iaload dX8_years_189 rfl (by decide) (by omega) ?_
                rw [am_set_c (c := 27) (x := 28) (by decide)]
                refine aw_iastore dX8_years_190 rfl (by decide) (by omega) ?_
                refine aw_iinc2 dX8_years_191 (by decide) rfl ?_
                refine aw_goto (tgt := 59) dX8_years_194 rfl ?_
                exact nxt _ _ _ _ (by omega) (by omega) (by rw [yStep, if_pos (by omega), if_neg (by omega), if_neg (by omega)])
              · refine aw_iload dX8_years_179 rfl ?_
                refine aw_goto (tgt := 190) dX8_years_181 rfl ?_
                refine aw_iastore dX8_years_190 rfl (by decide) (by omega) ?_
                refine aw_iinc2 dX8_years_191 (by decide) rfl ?_
                refine aw_goto (tgt := 59) dX8_years_194 rfl ?_
                exact nxt _ _ _ _ (by omega) (by omega) (by rw [yStep, if_pos (by omega), if_neg (by omega), if_pos (by omega)])
            · refine aw_iload_n dX8_years_152 rfl ?_
              refine aw_goto (tgt := 162) dX8_years_153 rfl ?_
              refine aw_iastore dX8_years_162 rfl (by decide) (by omega) ?_
              refine aw_aload_n dX8_years_163 rfl ?_
              refine aw_getR (kx := 40) fl_X8_97 dX8_years_164 rfl rfl rfl ?_
              refine aw_iload_n dX8_years_167 rfl ?_
              refine aw_iload dX8_years_168 rfl ?_
              refine aw_aload_n dX8_years_170 rfl ?_
              refine aw_getR (kx := 40) fl_X8_97 dX8_years_171 rfl rfl rfl ?_
              refine aw_iload_n dX8_years_174 rfl ?_
              refine aw_iaload dX8_years_175 rfl (by decide) (by omega) ?_
              rw [am_set_c (c := 27) (x := 28) (by decide)]
              refine aw_icmp_le (tgt := 184) dX8_years_176 rfl (by omega) (by omega) (fun hc176 => ?_) (fun hc176 => ?_)
              · refine aw_aload_n dX8_years_184 rfl ?_
                refine aw_getR (kx := 40) fl_X8_97 dX8_years_185 rfl rfl rfl ?_
                refine aw_iload_n dX8_years_188 rfl ?_
                refine aw_iaload dX8_years_189 rfl (by decide) (by omega) ?_
                rw [am_set_c (c := 27) (x := 28) (by decide)]
                refine aw_iastore dX8_years_190 rfl (by decide) (by omega) ?_
                refine aw_iinc2 dX8_years_191 (by decide) rfl ?_
                refine aw_goto (tgt := 59) dX8_years_194 rfl ?_
                exact nxt _ _ _ _ (by omega) (by omega) (by rw [yStep, if_pos (by omega), if_pos (by omega), if_neg (by omega)])
              · refine aw_iload dX8_years_179 rfl ?_
                refine aw_goto (tgt := 190) dX8_years_181 rfl ?_
                refine aw_iastore dX8_years_190 rfl (by decide) (by omega) ?_
                refine aw_iinc2 dX8_years_191 (by decide) rfl ?_
                refine aw_goto (tgt := 59) dX8_years_194 rfl ?_
                exact nxt _ _ _ _ (by omega) (by omega) (by rw [yStep, if_pos (by omega), if_pos (by omega), if_pos (by omega)])
theorem lp_X8_years1 {g : am_H} (hs : MVs g) (hy : MVy g) (h0 : ¬ g 0 6 = 0) : ∀ (j : Nat) (x : Int) (g' : am_H) (x2 x3 x4 : Option am_V), x < g 0 6 → -1 ≤ x → x + 1 < j → YrI g g' x → AW GM mX8_years 2 (QM (S_years g)) 17 [some (am_R 0), some (am_I x), x2, x3, x4] [] g' := by
  have hnn := hs.1
  have hnr := now_rng hs hy
  have hw := hs.2.1
  intro j
  induction j with
  | zero => intro x g' x2 x3 x4 h1 h2 h3; omega
  | succ j ih =>
    intro x g' x2 x3 x4 h1 h2 h3 hI
    have hvs := hI.vs hs
    have hvy := hI.vy hy
    have f5 := hI.1 5 (by decide) (by decide)
    have f0 := hI.1 0 (by decide) (by decide)
    have hk := hs.2.2.2.1 x
    have f5x : g' 5 x = g 5 x := by rw [f5]
    have enow : nowF g' = nowF g := by unfold nowF; rw [f0, hI.1 8 (by decide) (by decide), hI.1 14 (by decide) (by decide)]
    have K : ∀ (g'' : am_H) (y2 : Int) (y3 y4 : Option am_V), YrI g g'' (x - 1) → 0 ≤ x → AW GM mX8_years 2 (QM (S_years g)) 197 [some (am_R 0), some (am_I x), some (am_I y2), y3, y4] [] g'' := by
      intro g'' y2 y3 y4 hI2 hx0
      refine aw_iinc1 dX8_years_197 (by decide) rfl ?_
      refine aw_goto (tgt := 17) dX8_years_200 rfl ?_
      exact ih (x - 1) g'' _ _ _ (by omega) (by omega) (by omega) hI2
    have fin2 : ∀ (v : Int), 0 ≤ x → v = yBase (g 5) x → AW GM mX8_years 2 (QM (S_years g)) 45 [some (am_R 0), some (am_I x), x2, x3, x4] [] (am_set g' 27 x v) := by
      intro v hx0 hv
      refine aw_aload_n dX8_years_45 rfl ?_
      refine aw_getR (kx := 40) fl_X8_97 dX8_years_46 rfl rfl rfl ?_
      refine aw_iload_n dX8_years_49 rfl ?_
      refine aw_aload_n dX8_years_50 rfl ?_
      refine aw_getR (kx := 39) fl_X8_94 dX8_years_51 rfl rfl rfl ?_
      refine aw_iload_n dX8_years_54 rfl ?_
      refine aw_iaload dX8_years_55 rfl (by decide) (by omega) ?_
      refine aw_iastore dX8_years_56 rfl (by decide) (by omega) ?_
      refine aw_iconst dX8_years_57 ?_
      refine aw_istore_2 dX8_years_58 (by decide) rfl ?_
      refine lp_X8_years2 hs ⟨hx0, h1⟩ (fun g3 y2 y3 y4 hI3 => K g3 y2 y3 y4 hI3 hx0) 15 0 _ _ _ (by omega) (by omega) ⟨fun c a b => ?_, fun y a b => ?_⟩ ?_
      · rw [am_set_c b, am_set_c a]; exact hI.1 c a b
      · rw [am_set_c (c := 28) (x := 27) (by decide), am_set_i (c := 27) (by omega), am_set_i (c := 28) (by omega), am_set_c (c := 27) (x := 28) (by decide)]
        exact hI.2 y a b
      · rw [am_set_c (c := 28) (x := 27) (by decide), am_set_s, am_set_s, hv]; rfl
    refine aw_iload_n dX8_years_17 rfl ?_
    refine aw_if_lt (tgt := 203) dX8_years_18 rfl (by omega) (fun hc18 => ?_) (fun hc18 => ?_)
    · refine aw_aload_n dX8_years_203 rfl ?_
      refine aw_cV0IF (c_X8_whereNow hvs hvy) lk_X8_274 dX8_years_204 (by decide) rfl rfl (fun _ => Nat.le_of_ble_eq_true rfl) ?_
      rw [enow]
      have hcn := hI.2 (nowF g) (by omega) (by omega)
      have hyi := yrs_in hs 9 (nowF g) (by omega) (by omega) (by omega)
      unfold yIn at hyi
      refine aw_istore_1 dX8_years_207 (by decide) rfl ?_
      refine aw_aload_n dX8_years_208 rfl ?_
      refine aw_getR (kx := 39) fl_X8_94 dX8_years_209 rfl rfl rfl ?_
      refine aw_iload_n dX8_years_212 rfl ?_
      refine aw_iaload dX8_years_213 rfl (by decide) (by omega) ?_
      refine aw_top hcn.1 ?_
      refine aw_if_ge (tgt := 222) dX8_years_214 rfl (by omega) (fun hc214 => ?_) (fun hc214 => ?_)
      · refine aw_aload_n dX8_years_222 rfl ?_
        refine aw_aload_n dX8_years_223 rfl ?_
        refine aw_getR (kx := 39) fl_X8_94 dX8_years_224 rfl rfl rfl ?_
        refine aw_iload_n dX8_years_227 rfl ?_
        refine aw_iaload dX8_years_228 rfl (by decide) (by omega) ?_
        refine aw_top hcn.1 ?_
        refine aw_aload_n dX8_years_229 rfl ?_
        refine aw_getR (kx := 40) fl_X8_97 dX8_years_230 rfl rfl rfl ?_
        refine aw_iload_n dX8_years_233 rfl ?_
        refine aw_iaload dX8_years_234 rfl (by decide) (by omega) ?_
        refine aw_top hcn.2 ?_
        refine aw_cV2IF (c_X8_answer) lk_X8_151 dX8_years_235 (by decide) rfl rfl (fun _ => Nat.le_of_ble_eq_true rfl) ?_
        refine aw_iretQ dX8_years_238 rfl ?_
        rw [S_years, if_neg h0, if_neg (by omega)]; exact ⟨rfl, hI.me.set (by omega)⟩
      · refine aw_bipush (by decide) dX8_years_217 ?_
        refine aw_goto (tgt := 238) dX8_years_219 rfl ?_
        refine aw_iretQ dX8_years_238 rfl ?_
        rw [S_years, if_neg h0, if_pos (by omega)]; exact ⟨rfl, hI.me⟩
    · have hk2 := hk (by omega) (by omega)
      refine aw_aload_n dX8_years_21 rfl ?_
      refine aw_getR (kx := 39) fl_X8_94 dX8_years_22 rfl rfl rfl ?_
      refine aw_iload_n dX8_years_25 rfl ?_
      refine aw_aload_n dX8_years_26 rfl ?_
      refine aw_getR (kx := 4) fl_X8_22 dX8_years_27 rfl rfl rfl ?_
      refine aw_iload_n dX8_years_30 rfl ?_
      refine aw_iaload dX8_years_31 rfl (by decide) (by omega) ?_
      rw [f5x]
      refine aw_cS1IF (c_X8_isFinal (by omega)) lk_X8_169 dX8_years_32 (by decide) (fun _ => Nat.le_of_ble_eq_true rfl) ?_
      refine aw_ifb_eq (tgt := 42) dX8_years_35 rfl (fun hc35 => ?_) (fun hc35 => ?_)
      · refine aw_bipush (by decide) dX8_years_42 ?_
        refine aw_iastore dX8_years_44 rfl (by decide) (by omega) ?_
        exact fin2 _ (by omega) (by rw [yBase, if_neg hc35])
      · refine aw_iconst dX8_years_38 ?_
        refine aw_goto (tgt := 44) dX8_years_39 rfl ?_
        refine aw_iastore dX8_years_44 rfl (by decide) (by omega) ?_
        exact fin2 _ (by omega) (by rw [yBase, if_pos hc35])
theorem c_X8_years {g : am_H} (hs : MVs g) (hy : MVy g) : AMet GM mX8_years 2 [am_R 0] g (QM (S_years g)) := by
  have hnn := hs.1
  refine am_start [some (am_R 0), none, none, none, none] rfl rfl (by decide) (Nat.le_of_ble_eq_true rfl) ?_
  refine aw_aload_n dX8_years_0 rfl ?_
  refine aw_getI (kx := 6) fl_X8_207 dX8_years_1 rfl rfl rfl ?_
  refine aw_if_ne (tgt := 10) dX8_years_4 rfl (by omega) (fun hc4 => ?_) (fun hc4 => ?_)
  · refine aw_aload_n dX8_years_10 rfl ?_
    refine aw_getI (kx := 6) fl_X8_207 dX8_years_11 rfl rfl rfl ?_
    refine aw_iconst dX8_years_14 ?_
    refine aw_isub dX8_years_15 ?_
    refine aw_istore_1 dX8_years_16 (by decide) rfl ?_
    exact lp_X8_years1 hs hy (by omega) 11 _ g _ _ _ (by omega) (by omega) (by omega) ⟨fun c _ _ => rfl, fun y a b => by omega⟩
  · refine aw_bipush (by decide) dX8_years_7 ?_
    refine aw_iretQ dX8_years_9 rfl ?_
    rw [S_years, if_pos (by omega)]; exact ⟨rfl, MEq.rf _⟩
