def jB (kd : Int → Int) (x y : Int) : Int := if y = 0 ∧ fin (kd x) then 1 else 0
def FJ (kd fr to : Int → Int) (nw : Nat) (V : Int → Int → Int) (x y : Int) : Int := if 0 ≤ y - yrK (kd x) then (wl fr x nw).foldl (fun s k => s + V (to k) (y - yrK (kd x))) (jB kd x y) else jB kd x y
def jsV (kd fr to : Int → Int) (nw : Nat) : Int → Int → Int := fixF (FJ kd fr to nw) (fun _ => 0) 9
noncomputable abbrev jst (g : am_H) : Int → Int → Int := jsV (g 5) (g 7) (g 8) (nwN g)
theorem FJ_caus {g : am_H} (hs : MVs g) : Caus (g 0 6) (FJ (g 5) (g 7) (g 8) (nwN g)) := by
  intro a b x _ _ hab
  funext y
  unfold FJ
  split
  · exact fold_caus (to_ok hs) (fun s v => s + v (y - yrK (g 5 x))) hab _
  · rfl
theorem jst_eq {g : am_H} (hs : MVs g) {x : Int} (h1 : 0 ≤ x) (h2 : x < g 0 6) (y : Int) : jst g x y = FJ (g 5) (g 7) (g 8) (nwN g) (jst g) x y := by
  have := fix_eq (d := fun _ => 0) (FJ_caus hs) hs.1.2 h1 h2
  unfold jst jsV
  rw [this]
theorem jst_rng {g : am_H} (hs : MVs g) : ∀ (n : Nat) (x : Int), 0 ≤ x → x < g 0 6 → g 0 6 - x ≤ n → ∀ y : Int, 0 ≤ jst g x y ∧ jst g x y ≤ ((4 ^ n : Nat) : Int) := by
  intro n
  induction n with
  | zero => intro x h1 h2 h3; omega
  | succ n ih =>
    intro x h1 h2 h3 y
    have hb : 0 ≤ jB (g 5) x y ∧ jB (g 5) x y ≤ 1 := by unfold jB; split <;> omega
    have hp : 0 < 4 ^ n := Nat.pow_pos (by decide)
    have e4 : ((4 ^ (n + 1) : Nat) : Int) = 4 * ((4 ^ n : Nat) : Int) := by rw [Nat.pow_succ]; omega
    rw [jst_eq hs h1 h2, e4]
    unfold FJ
    split
    · have hf := fold_rng (lo := 0) (hi := ((4 ^ n : Nat) : Int)) (fun k => jst g (g 8 k) (y - yrK (g 5 x))) (wl (g 7) x (nwN g)) (jB (g 5) x y) (fun k hk => by
        obtain ⟨a1, a2, a3⟩ := wl_mem.mp hk
        have a4 := to_ok hs k a1 a2
        exact ih (g 8 k) (by omega) a4.2 (by omega) _)
      have hl := wl_len (g 7) x (nwN g)
      have hc : cntF (g 7) x (nwN g) ≤ 4 := hs.2.2.2.2.2.2.1 x
      have hn0 := nofin (x := x) hs
      have hm : ((wl (g 7) x (nwN g)).length : Int) * ((4 ^ n : Nat) : Int) ≤ 4 * ((4 ^ n : Nat) : Int) := Int.mul_le_mul_of_nonneg_right (by omega) (by omega)
      by_cases e : cntF (g 7) x (nwN g) = 0
      · have e0 : ((wl (g 7) x (nwN g)).length : Int) = 0 := by omega
        rw [e0] at hf hm
        omega
      · have hb0 : jB (g 5) x y = 0 := by unfold jB; rw [if_neg (fun z => hn0 e z.2)]
        rw [hb0] at hf ⊢
        omega
    · omega
theorem wl_foldr {γ : Type} {fr : Int → Int} {x : Int} {i : Nat} (f : Int → γ → γ) (s : γ) : (wl fr x (i + 1)).foldr f s = if fr i = x then (wl fr x i).foldr f (f i s) else (wl fr x i).foldr f s := by
  simp only [wl, List.foldr_append]
  split <;> simp
noncomputable def jFr (g : am_H) (x left : Int) : Int := if 0 ≤ left then (wl (g 7) x (nwN g)).foldr (fun k s => if 0 < jst g (g 8 k) left then k else s) (-9) else -9
noncomputable def S_just (g : am_H) (n : Int) : Int × am_H := if ¬ (0 ≤ n ∧ n ≤ 8) then (-1, g) else if g 0 6 = 0 then (-4, g) else (jst g (nowF g) n, am_set g 0 20 (jFr g (nowF g) (n - yrK (g 5 (nowF g)))))
def JuI (g g' : am_H) (x y : Int) : Prop := (∀ c : Int, ¬ c = 29 → g' c = g c) ∧ (∀ z : Int, x < z → z < g 0 6 → ∀ w : Int, 0 ≤ w → w < 9 → g' 29 (9 * z + w) = jst g z w) ∧ ∀ w : Int, 0 ≤ w → w < y → g' 29 (9 * x + w) = jst g x w
theorem JuI.vs {g g' : am_H} {x y : Int} (h : JuI g g' x y) (hs : MVs g) : MVs g' := hs.of (fun k _ => by rw [h.1 0 (by decide)]) (fun c a b => h.1 c (by omega))
theorem JuI.vy {g g' : am_H} {x y : Int} (h : JuI g g' x y) (hy : MVy g) : MVy g' := by
  unfold MVy; rw [h.1 0 (by decide), h.1 14 (by decide), h.1 7 (by decide), h.1 8 (by decide)]; exact hy
theorem JuI.me {g g' : am_H} {x y : Int} (h : JuI g g' x y) : MEq g' g := ⟨fun k _ => by rw [h.1 0 (by decide)], fun c hc => h.1 c (by omega)⟩
theorem lp_X8_just3 {g : am_H} {dl : Nat} {Q : Option am_V → am_H → Prop} (hs : MVs g) {n x y : Int} (hx : 0 ≤ x ∧ x < g 0 6) (hy : 0 ≤ y ∧ y < 9) (K : ∀ (g' : am_H) (k : Int), JuI g g' x (y + 1) → AW GM mX8_just dl Q 154 [some (am_R 0), some (am_I n), some (am_I x), some (am_I y), some (am_I (y - yrK (g 5 x))), some (am_I k)] [] g') : ∀ (j i : Nat) (g' : am_H), (i : Int) ≤ g 0 10 → g 0 10 - i < j → JuI g g' x y → g' 29 (9 * x + y) = (if 0 ≤ y - yrK (g 5 x) then (wl (g 7) x i).foldl (fun s k => s + jst g (g 8 k) (y - yrK (g 5 x))) (jB (g 5) x y) else jB (g 5) x y) → AW GM mX8_just dl Q 87 [some (am_R 0), some (am_I n), some (am_I x), some (am_I y), some (am_I (y - yrK (g 5 x))), some (am_I i)] [] g' := by
  have hw := hs.2.1
  have hnn := hs.1
  have hyk := yrK_rng (g 5 x)
  intro j
  induction j with
  | zero => intro i g' h1 h2; omega
  | succ j ih =>
    intro i g' h1 h2 hI hse
    have f0 := hI.1 0 (by decide)
    have f7 := hI.1 7 (by decide)
    have f8 := hI.1 8 (by decide)
    have f0w : g' 0 10 = g 0 10 := by rw [f0]
    have f7i : g' 7 i = g 7 i := by rw [f7]
    have f8i : g' 8 i = g 8 i := by rw [f8]
    have hfs := wl_fold (fr := g 7) (x := x) (i := i) (fun s k => s + jst g (g 8 k) (y - yrK (g 5 x))) (jB (g 5) x y)
    have hv := hs.2.2.2.2.1 i (by omega)
    have done : ((i : Int) = g 0 10 ∨ ¬ 0 ≤ y - yrK (g 5 x)) → JuI g g' x (y + 1) := by
      intro h
      refine ⟨hI.1, hI.2.1, fun w a b => ?_⟩
      by_cases e : w = y
      · subst e
        rw [jst_eq hs hx.1 hx.2, FJ, hse]
        rcases h with h | h
        · have en : nwN g = i := by unfold nwN; omega
          rw [en]
        · rw [if_neg h, if_neg h]
      · exact hI.2.2 w a (by omega)
    have nxt : ∀ (v : Int), (i : Int) < g 0 10 → 0 ≤ y - yrK (g 5 x) → v = (wl (g 7) x (i + 1)).foldl (fun s k => s + jst g (g 8 k) (y - yrK (g 5 x))) (jB (g 5) x y) → AW GM mX8_just dl Q 87 [some (am_R 0), some (am_I n), some (am_I x), some (am_I y), some (am_I (y - yrK (g 5 x))), some (am_I (i + 1 : Nat))] [] (am_set g' 29 (9 * x + y) v) := by
      intro v hlt2 hp hvw
      refine ih (i + 1) _ (by omega) (by omega) ⟨fun c d => ?_, fun z a b w a2 b2 => ?_, fun w a b => ?_⟩ ?_
      · rw [am_set_c d]; exact hI.1 c d
      · rw [am_set_i (by omega)]; exact hI.2.1 z a b w a2 b2
      · rw [am_set_i (by omega)]; exact hI.2.2 w a b
      · rw [am_set_s, if_pos hp, hvw]
    refine aw_iload dX8_just_87 rfl ?_
    refine aw_aload_n dX8_just_89 rfl ?_
    refine aw_getI (kx := 10) fl_X8_210 dX8_just_90 rfl rfl rfl ?_
    refine aw_icmp_ge (tgt := 154) dX8_just_93 rfl (by omega) (by omega) (fun hc93 => ?_) (fun hc93 => ?_)
    · exact K g' _ (done (by omega))
    · refine aw_iload dX8_just_96 rfl ?_
      refine aw_if_lt (tgt := 154) dX8_just_98 rfl (by omega) (fun hc98 => ?_) (fun hc98 => ?_)
      · exact K g' _ (done (by omega))
      · have hv2 := (hv (by omega)).1
        have hp : 0 ≤ y - yrK (g 5 x) := by omega
        rw [if_pos hp] at hse
        refine aw_aload_n dX8_just_101 rfl ?_
        refine aw_getR (kx := 41) fl_X8_100 dX8_just_102 rfl rfl rfl ?_
        refine aw_bipush (by decide) dX8_just_105 ?_
        refine aw_iload_n dX8_just_107 rfl ?_
        refine aw_imul dX8_just_108 ?_
        refine aw_iload_n dX8_just_109 rfl ?_
        refine aw_iadd dX8_just_110 ?_
        refine aw_dup2 dX8_just_111 ?_
        refine aw_iaload dX8_just_112 rfl (by decide) (by omega) ?_
        refine aw_aload_n dX8_just_113 rfl ?_
        refine aw_getR (kx := 7) fl_X8_28 dX8_just_114 rfl rfl rfl ?_
        refine aw_iload dX8_just_117 rfl ?_
        refine aw_iaload dX8_just_119 rfl (by decide) (by omega) ?_
        refine aw_iload_n dX8_just_120 rfl ?_
        refine aw_icmp_ne (tgt := 145) dX8_just_121 rfl (by omega) (by omega) (fun hc121 => ?_) (fun hc121 => ?_)
        · refine aw_iconst dX8_just_145 ?_
          refine aw_iadd dX8_just_146 ?_
          refine aw_iastore dX8_just_147 rfl (by decide) (by omega) ?_
          refine aw_iinc5 dX8_just_148 (by decide) rfl ?_
          refine aw_goto (tgt := 87) dX8_just_151 rfl ?_
          exact nxt _ (by omega) hp (by rw [hfs, if_neg (by omega), hse]; omega)
        · have hIt := hI.2.1 (g 8 i) (by omega) hv2.2.2 (y - yrK (g 5 x)) (by omega) (by omega)
          refine aw_aload_n dX8_just_124 rfl ?_
          refine aw_getR (kx := 41) fl_X8_100 dX8_just_125 rfl rfl rfl ?_
          refine aw_bipush (by decide) dX8_just_128 ?_
          refine aw_aload_n dX8_just_130 rfl ?_
          refine aw_getR (kx := 8) fl_X8_31 dX8_just_131 rfl rfl rfl ?_
          refine aw_iload dX8_just_134 rfl ?_
          refine aw_iaload dX8_just_136 rfl (by decide) (by omega) ?_
          refine aw_imul dX8_just_137 ?_
          refine aw_iload dX8_just_138 rfl ?_
          refine aw_iadd dX8_just_140 ?_
          refine aw_iaload dX8_just_141 rfl (by decide) (by omega) ?_
          refine aw_top (show g' 29 (9 * g' 8 i + (y - yrK (g 5 x))) = jst g (g 8 i) (y - yrK (g 5 x)) by rw [f8i]; exact hIt) ?_
          refine aw_goto (tgt := 146) dX8_just_142 rfl ?_
          refine aw_iadd dX8_just_146 ?_
          refine aw_iastore dX8_just_147 rfl (by decide) (by omega) ?_
          refine aw_iinc5 dX8_just_148 (by decide) rfl ?_
          refine aw_goto (tgt := 87) dX8_just_151 rfl ?_
          exact nxt _ (by omega) hp (by rw [hfs, if_pos (by omega), hse])
theorem lp_X8_just2 {g : am_H} {Q : Option am_V → am_H → Prop} (hs : MVs g) {n x : Int} (hx : 0 ≤ x ∧ x < g 0 6) (K : ∀ (g' : am_H) (x3 x4 x5 : Option am_V), JuI g g' (x - 1) 0 → AW GM mX8_just 2 Q 160 [some (am_R 0), some (am_I n), some (am_I x), x3, x4, x5] [] g') : ∀ (j : Nat) (y : Int) (g' : am_H) (x4 x5 : Option am_V), 0 ≤ y → y ≤ 9 → 9 - y < j → JuI g g' x y → AW GM mX8_just 2 Q 37 [some (am_R 0), some (am_I n), some (am_I x), some (am_I y), x4, x5] [] g' := by
  have hw := hs.2.1
  have hnn := hs.1
  have hkd := hs.2.2.2.1 x hx.1 hx.2
  intro j
  induction j with
  | zero => intro y g' x4 x5 h0 h1 h2; omega
  | succ j ih =>
    intro y g' x4 x5 h0 h1 h2 hI
    have f5 := hI.1 5 (by decide)
    have f5x : g' 5 x = g 5 x := by rw [f5]
    have K2 : ∀ (g3 : am_H) (k left : Int), y < 9 → JuI g g3 x (y + 1) → AW GM mX8_just 2 Q 154 [some (am_R 0), some (am_I n), some (am_I x), some (am_I y), some (am_I left), some (am_I k)] [] g3 := by
      intro g3 k left hy9 hI3
      refine aw_iinc3 dX8_just_154 (by decide) rfl ?_
      refine aw_goto (tgt := 37) dX8_just_157 rfl ?_
      exact ih (y + 1) g3 _ _ (by omega) (by omega) (by omega) hI3
    have fin2 : ∀ v : Int, y < 9 → v = jB (g 5) x y → AW GM mX8_just 2 Q 75 [some (am_R 0), some (am_I n), some (am_I x), some (am_I y), x4, x5] [] (am_set g' 29 (9 * x + y) v) := by
      intro v hy9 hv
      have f5y : am_set g' 29 (9 * x + y) v 5 x = g 5 x := by rw [am_set_c (by decide)]; exact f5x
      refine aw_iload_n dX8_just_75 rfl ?_
      refine aw_aload_n dX8_just_76 rfl ?_
      refine aw_iload_n dX8_just_77 rfl ?_
      refine aw_cV1IF (c_X8_yearOf (by omega) (by omega)) lk_X8_287 dX8_just_78 (by decide) rfl rfl (fun _ => Nat.le_of_ble_eq_true rfl) ?_
      rw [f5y]
      refine aw_isub dX8_just_81 ?_
      refine aw_istore4 dX8_just_82 (by decide) rfl ?_
      refine aw_iconst dX8_just_84 ?_
      refine aw_istore5 dX8_just_85 (by decide) rfl ?_
      refine lp_X8_just3 hs hx ⟨h0, hy9⟩ (fun g3 k hI3 => K2 g3 k _ hy9 hI3) 15 0 _ (by omega) (by omega) ⟨fun c d => ?_, fun z a b w a2 b2 => ?_, fun w a b => ?_⟩ ?_
      · rw [am_set_c d]; exact hI.1 c d
      · rw [am_set_i (by omega)]; exact hI.2.1 z a b w a2 b2
      · rw [am_set_i (by omega)]; exact hI.2.2 w a b
      · rw [am_set_s, hv]; split <;> rfl
    refine aw_iload_n dX8_just_37 rfl ?_
    refine aw_bipush (by decide) dX8_just_38 ?_
    refine aw_icmp_ge (tgt := 160) dX8_just_40 rfl (by omega) (by omega) (fun hc40 => ?_) (fun hc40 => ?_)
    · refine K g' _ _ _ ⟨hI.1, fun z a b w a2 b2 => ?_, fun w a b => by omega⟩
      by_cases e : z = x
      · subst e; exact hI.2.2 w a2 (by omega)
      · exact hI.2.1 z (by omega) b w a2 b2
    · refine aw_aload_n dX8_just_43 rfl ?_
      refine aw_getR (kx := 41) fl_X8_100 dX8_just_44 rfl rfl rfl ?_
      refine aw_bipush (by decide) dX8_just_47 ?_
      refine aw_iload_n dX8_just_49 rfl ?_
      refine aw_imul dX8_just_50 ?_
      refine aw_iload_n dX8_just_51 rfl ?_
      refine aw_iadd dX8_just_52 ?_
      refine aw_iload_n dX8_just_53 rfl ?_
      refine aw_if_ne (tgt := 73) dX8_just_54 rfl (by omega) (fun hc54 => ?_) (fun hc54 => ?_)
      · refine aw_iconst dX8_just_73 ?_
        refine aw_iastore dX8_just_74 rfl (by decide) (by omega) ?_
        exact fin2 _ (by omega) (by rw [jB, if_neg (by omega)])
      · refine aw_aload_n dX8_just_57 rfl ?_
        refine aw_getR (kx := 4) fl_X8_22 dX8_just_58 rfl rfl rfl ?_
        refine aw_iload_n dX8_just_61 rfl ?_
        refine aw_iaload dX8_just_62 rfl (by decide) (by omega) ?_
        rw [f5x]
        refine aw_cS1IF (c_X8_isFinal (by omega)) lk_X8_169 dX8_just_63 (by decide) (fun _ => Nat.le_of_ble_eq_true rfl) ?_
        refine aw_ifb_eq (tgt := 73) dX8_just_66 rfl (fun hc66 => ?_) (fun hc66 => ?_)
        · refine aw_iconst dX8_just_73 ?_
          refine aw_iastore dX8_just_74 rfl (by decide) (by omega) ?_
          exact fin2 _ (by omega) (by rw [jB, if_neg (fun z => hc66 z.2)])
        · refine aw_iconst dX8_just_69 ?_
          refine aw_goto (tgt := 74) dX8_just_70 rfl ?_
          refine aw_iastore dX8_just_74 rfl (by decide) (by omega) ?_
          exact fin2 _ (by omega) (by rw [jB, if_pos ⟨by omega, hc66⟩])
theorem lp_X8_just4 {g : am_H} (hs : MVs g) (hy : MVy g) (h0 : ¬ g 0 6 = 0) {n : Int} (hn : 0 ≤ n ∧ n ≤ 8) {g' : am_H} (hI : JuI g g' (-1) 0) : ∀ (i : Nat) (s : Int), (i : Int) ≤ g 0 10 → -9 ≤ s → s < 14 → ((0 ≤ n - yrK (g 5 (nowF g)) ∧ (wl (g 7) (nowF g) i).foldr (fun k s => if 0 < jst g (g 8 k) (n - yrK (g 5 (nowF g))) then k else s) s = jFr g (nowF g) (n - yrK (g 5 (nowF g)))) ∨ (¬ 0 ≤ n - yrK (g 5 (nowF g)) ∧ s = -9)) → AW GM mX8_just 2 (QM (S_just g n)) 191 [some (am_R 0), some (am_I n), some (am_I (nowF g)), some (am_I (n - yrK (g 5 (nowF g)))), some (am_I s), some (am_I ((i : Int) - 1))] [] g' := by
  have hnn := hs.1
  have hnr := now_rng hs hy
  have hw := hs.2.1
  have hyk := yrK_rng (g 5 (nowF g))
  have f7 := hI.1 7 (by decide)
  have f8 := hI.1 8 (by decide)
  have endw : ∀ (s k : Int), s = jFr g (nowF g) (n - yrK (g 5 (nowF g))) → AW GM mX8_just 2 (QM (S_just g n)) 246 [some (am_R 0), some (am_I n), some (am_I (nowF g)), some (am_I (n - yrK (g 5 (nowF g)))), some (am_I s), some (am_I k)] [] g' := by
    intro s k hs2
    have e2 := hI.2.1 (nowF g) (by omega) (by omega) n hn.1 (by omega)
    refine aw_aload_n dX8_just_246 rfl ?_
    refine aw_aload_n dX8_just_247 rfl ?_
    refine aw_getR (kx := 41) fl_X8_100 dX8_just_248 rfl rfl rfl ?_
    refine aw_bipush (by decide) dX8_just_251 ?_
    refine aw_iload_n dX8_just_253 rfl ?_
    refine aw_imul dX8_just_254 ?_
    refine aw_iload_n dX8_just_255 rfl ?_
    refine aw_iadd dX8_just_256 ?_
    refine aw_iaload dX8_just_257 rfl (by decide) (by omega) ?_
    refine aw_top e2 ?_
    refine aw_iload dX8_just_258 rfl ?_
    refine aw_cV2IF (c_X8_answer) lk_X8_151 dX8_just_260 (by decide) rfl rfl (fun _ => Nat.le_of_ble_eq_true rfl) ?_
    refine aw_iretQ dX8_just_263 rfl ?_
    rw [S_just, if_neg (by omega), if_neg h0, hs2]
    exact ⟨rfl, hI.me.set (by omega)⟩
  intro i
  induction i with
  | zero =>
    intro s h1 h2 h3 h4
    have hs2 : s = jFr g (nowF g) (n - yrK (g 5 (nowF g))) := by
      rcases h4 with ⟨a, b⟩ | ⟨a, b⟩
      · exact b
      · rw [jFr, if_neg a, b]
    refine aw_iload dX8_just_191 rfl ?_
    refine aw_if_lt (tgt := 246) dX8_just_193 rfl (by omega) (fun hc193 => ?_) (fun hc193 => ?_)
    · exact endw s _ hs2
    · omega
  | succ i ih =>
    intro s h1 h2 h3 h4
    have f7i : g' 7 i = g 7 i := by rw [f7]
    have f8i : g' 8 i = g 8 i := by rw [f8]
    have hv2 := (hs.2.2.2.2.1 i (by omega) (by omega)).1
    have ei : ((i + 1 : Nat) : Int) - 1 = (i : Int) := by omega
    have hjr := jst_rng hs 9 (g 8 i) (by omega) hv2.2.2 (by omega) (n - yrK (g 5 (nowF g)))
    refine aw_ls (by rw [ei]) ?_
    refine aw_iload dX8_just_191 rfl ?_
    refine aw_if_lt (tgt := 246) dX8_just_193 rfl (by omega) (fun hc193 => ?_) (fun hc193 => ?_)
    · omega
    · refine aw_iload_n dX8_just_196 rfl ?_
      refine aw_if_lt (tgt := 246) dX8_just_197 rfl (by omega) (fun hc197 => ?_) (fun hc197 => ?_)
      · rcases h4 with ⟨a, b⟩ | ⟨a, b⟩
        · omega
        · exact endw s _ (by rw [jFr, if_neg a, b])
      · have hp : 0 ≤ n - yrK (g 5 (nowF g)) := by omega
        have h5 : (wl (g 7) (nowF g) (i + 1)).foldr (fun k s => if 0 < jst g (g 8 k) (n - yrK (g 5 (nowF g))) then k else s) s = jFr g (nowF g) (n - yrK (g 5 (nowF g))) := by
          rcases h4 with ⟨a, b⟩ | ⟨a, b⟩
          · exact b
          · omega
        rw [wl_foldr] at h5
        refine aw_aload_n dX8_just_200 rfl ?_
        refine aw_getR (kx := 7) fl_X8_28 dX8_just_201 rfl rfl rfl ?_
        refine aw_iload dX8_just_204 rfl ?_
        refine aw_iaload dX8_just_206 rfl (by decide) (by omega) ?_
        refine aw_iload_n dX8_just_207 rfl ?_
        refine aw_icmp_ne (tgt := 236) dX8_just_208 rfl (by omega) (by omega) (fun hc208 => ?_) (fun hc208 => ?_)
        · refine aw_iload dX8_just_236 rfl ?_
          refine aw_istore4 dX8_just_238 (by decide) rfl ?_
          refine aw_iinc5 dX8_just_240 (by decide) rfl ?_
          refine aw_goto (tgt := 191) dX8_just_243 rfl ?_
          exact ih s (by omega) h2 h3 (Or.inl ⟨hp, by rw [if_neg (by omega)] at h5; exact h5⟩)
        · refine aw_aload_n dX8_just_211 rfl ?_
          refine aw_getR (kx := 41) fl_X8_100 dX8_just_212 rfl rfl rfl ?_
          refine aw_bipush (by decide) dX8_just_215 ?_
          refine aw_aload_n dX8_just_217 rfl ?_
          refine aw_getR (kx := 8) fl_X8_31 dX8_just_218 rfl rfl rfl ?_
          refine aw_iload dX8_just_221 rfl ?_
          refine aw_iaload dX8_just_223 rfl (by decide) (by omega) ?_
          refine aw_imul dX8_just_224 ?_
          refine aw_iload_n dX8_just_225 rfl ?_
          refine aw_iadd dX8_just_226 ?_
          refine aw_iaload dX8_just_227 rfl (by decide) (by omega) ?_
          refine aw_top (show g' 29 (9 * g' 8 i + (n - yrK (g 5 (nowF g)))) = jst g (g 8 i) (n - yrK (g 5 (nowF g))) by rw [f8i]; exact hI.2.1 (g 8 i) (by omega) hv2.2.2 _ (by omega) (by omega)) ?_
          refine aw_if_le (tgt := 236) dX8_just_228 rfl (by omega) (fun hc228 => ?_) (fun hc228 => ?_)
          · refine aw_iload dX8_just_236 rfl ?_
            refine aw_istore4 dX8_just_238 (by decide) rfl ?_
            refine aw_iinc5 dX8_just_240 (by decide) rfl ?_
            refine aw_goto (tgt := 191) dX8_just_243 rfl ?_
            exact ih s (by omega) h2 h3 (Or.inl ⟨hp, by rw [if_pos (by omega), if_neg (by omega)] at h5; exact h5⟩)
          · refine aw_iload dX8_just_231 rfl ?_
            refine aw_goto (tgt := 238) dX8_just_233 rfl ?_
            refine aw_istore4 dX8_just_238 (by decide) rfl ?_
            refine aw_iinc5 dX8_just_240 (by decide) rfl ?_
            refine aw_goto (tgt := 191) dX8_just_243 rfl ?_
            exact ih i (by omega) (by omega) (by omega) (Or.inl ⟨hp, by rw [if_pos (by omega), if_pos (by omega)] at h5; exact h5⟩)
theorem lp_X8_just1 {g : am_H} (hs : MVs g) (hy : MVy g) (h0 : ¬ g 0 6 = 0) {n : Int} (hn : 0 ≤ n ∧ n ≤ 8) : ∀ (j : Nat) (x : Int) (g' : am_H) (x3 x4 x5 : Option am_V), x < g 0 6 → -1 ≤ x → x + 1 < j → JuI g g' x 0 → AW GM mX8_just 2 (QM (S_just g n)) 31 [some (am_R 0), some (am_I n), some (am_I x), x3, x4, x5] [] g' := by
  have hnn := hs.1
  have hnr := now_rng hs hy
  have hw := hs.2.1
  intro j
  induction j with
  | zero => intro x g' x3 x4 x5 h1 h2 h3; omega
  | succ j ih =>
    intro x g' x3 x4 x5 h1 h2 h3 hI
    have hvs := hI.vs hs
    have hvy := hI.vy hy
    have f5 := hI.1 5 (by decide)
    have enow : nowF g' = nowF g := by unfold nowF; rw [hI.1 0 (by decide), hI.1 8 (by decide), hI.1 14 (by decide)]
    have f0w : g' 0 10 = g 0 10 := by rw [hI.1 0 (by decide)]
    have f5n : g' 5 (nowF g) = g 5 (nowF g) := by rw [f5]
    have hkn := hs.2.2.2.1 (nowF g) (by omega) (by omega)
    have K : ∀ (g'' : am_H) (y3 y4 y5 : Option am_V), JuI g g'' (x - 1) 0 → 0 ≤ x → AW GM mX8_just 2 (QM (S_just g n)) 160 [some (am_R 0), some (am_I n), some (am_I x), y3, y4, y5] [] g'' := by
      intro g'' y3 y4 y5 hI2 hx0
      refine aw_iinc2 dX8_just_160 (by decide) rfl ?_
      refine aw_goto (tgt := 31) dX8_just_163 rfl ?_
      exact ih (x - 1) g'' _ _ _ (by omega) (by omega) (by omega) hI2
    refine aw_iload_n dX8_just_31 rfl ?_
    refine aw_if_lt (tgt := 166) dX8_just_32 rfl (by omega) (fun hc32 => ?_) (fun hc32 => ?_)
    · refine aw_aload_n dX8_just_166 rfl ?_
      refine aw_cV0IF (c_X8_whereNow hvs hvy) lk_X8_274 dX8_just_167 (by decide) rfl rfl (fun _ => Nat.le_of_ble_eq_true rfl) ?_
      rw [enow]
      refine aw_istore_2 dX8_just_170 (by decide) rfl ?_
      refine aw_iload_n dX8_just_171 rfl ?_
      refine aw_aload_n dX8_just_172 rfl ?_
      refine aw_iload_n dX8_just_173 rfl ?_
      refine aw_cV1IF (c_X8_yearOf (by omega) (by omega)) lk_X8_287 dX8_just_174 (by decide) rfl rfl (fun _ => Nat.le_of_ble_eq_true rfl) ?_
      rw [f5]
      refine aw_isub dX8_just_177 ?_
      refine aw_istore_3 dX8_just_178 (by decide) rfl ?_
      refine aw_bipush (by decide) dX8_just_179 ?_
      refine aw_istore4 dX8_just_181 (by decide) rfl ?_
      refine aw_aload_n dX8_just_183 rfl ?_
      refine aw_getI (kx := 10) fl_X8_210 dX8_just_184 rfl rfl rfl ?_
      refine aw_iconst dX8_just_187 ?_
      refine aw_isub dX8_just_188 ?_
      refine aw_istore5 dX8_just_189 (by decide) rfl ?_
      have hxm : x = -1 := by omega
      subst hxm
      have en : g' 0 10 = (nwN g : Nat) := by unfold nwN; omega
      rw [en]
      refine lp_X8_just4 hs hy h0 hn hI (nwN g) (-9) (by unfold nwN; omega) (by omega) (by omega) ?_
      by_cases e : 0 ≤ n - yrK (g 5 (nowF g))
      · exact Or.inl ⟨e, by rw [jFr, if_pos e]⟩
      · exact Or.inr ⟨e, rfl⟩
    · refine aw_iconst dX8_just_35 ?_
      refine aw_istore_3 dX8_just_36 (by decide) rfl ?_
      exact lp_X8_just2 hs ⟨by omega, h1⟩ (fun g3 y3 y4 y5 hI3 => K g3 y3 y4 y5 hI3 (by omega)) 10 0 _ _ _ (by omega) (by omega) (by omega) hI
theorem c_X8_just {g : am_H} {n : Int} (hs : MVs g) (hy : MVy g) (hn : -2147483648 ≤ n ∧ n < 2147483648) : AMet GM mX8_just 2 [am_R 0, am_I n] g (QM (S_just g n)) := by
  have hnn := hs.1
  refine am_start [some (am_R 0), some (am_I n), none, none, none, none] rfl rfl (by decide) (Nat.le_of_ble_eq_true rfl) ?_
  refine aw_iload_n dX8_just_0 rfl ?_
  refine aw_i2l (by omega) dX8_just_1 ?_
  refine aw_lconst (v := 0) dX8_just_2 rfl ?_
  refine aw_ldc2 (n := 8) kj_X8_309 rfl dX8_just_3 ?_
  refine aw_cS3IF (c_X8_in (by omega) (by omega) (by omega)) lk_X8_133 dX8_just_6 (by decide) (fun _ => Nat.le_of_ble_eq_true rfl) ?_
  refine aw_ifb_ne (tgt := 14) dX8_just_9 rfl (fun hc9 => ?_) (fun hc9 => ?_)
  · refine aw_aload_n dX8_just_14 rfl ?_
    refine aw_getI (kx := 6) fl_X8_207 dX8_just_15 rfl rfl rfl ?_
    refine aw_if_ne (tgt := 24) dX8_just_18 rfl (by omega) (fun hc18 => ?_) (fun hc18 => ?_)
    · refine aw_aload_n dX8_just_24 rfl ?_
      refine aw_getI (kx := 6) fl_X8_207 dX8_just_25 rfl rfl rfl ?_
      refine aw_iconst dX8_just_28 ?_
      refine aw_isub dX8_just_29 ?_
      refine aw_istore_2 dX8_just_30 (by decide) rfl ?_
      exact lp_X8_just1 hs hy (by omega) (by omega) 11 _ g _ _ _ (by omega) (by omega) (by omega) ⟨fun c _ => rfl, fun z a b => by omega, fun w a b => by omega⟩
    · refine aw_bipush (by decide) dX8_just_21 ?_
      refine aw_iretQ dX8_just_23 rfl ?_
      rw [S_just, if_neg (by omega), if_pos (by omega)]; exact ⟨rfl, MEq.rf _⟩
  · refine aw_iconst dX8_just_12 ?_
    refine aw_iretQ dX8_just_13 rfl ?_
    rw [S_just, if_pos (by omega)]; exact ⟨rfl, MEq.rf _⟩
