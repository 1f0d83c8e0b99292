def tlO (fr to : Int → Int) (ou : Int → Nat) (nw : Nat) (x k : Int) : Nat := (wl fr x nw).foldl (fun s j => if j = k then s else s ||| ou (to j) % 64) 0
def tlW (fr to : Int → Int) (ou : Int → Nat) (nw : Nat) (x k : Int) : Int := if pcN 16 (tlO fr to ou nw x k) < pcN 16 (ou (to k) % 64) then (pcN 16 (ou (to k) % 64) : Nat) else (pcN 16 (tlO fr to ou nw x k) : Nat)
def tlS (W : Int → Int) (s : Int × Int) (k : Int) : Int × Int := if s.1 < 0 ∨ W k < s.2 then (k, W k) else s
noncomputable def tlR (g : am_H) (x : Int) (i : Nat) : Int × Int := (wl (g 7) x i).foldl (tlS (tlW (g 7) (g 8) (out g) (nwN g) x)) (-9, 0)
noncomputable def S_tell (g : am_H) : Int × am_H := if g 0 6 = 0 then (-4, g) else if (tlR g (nowF g) (nwN g)).1 < 0 then (-9, g) else ((tlR g (nowF g) (nwN g)).1, am_set g 0 20 (tlR g (nowF g) (nwN g)).2)
theorem tlO_lt (fr to : Int → Int) (ou : Int → Nat) (x k : Int) : ∀ i : Nat, (wl fr x i).foldl (fun s j => if j = k then s else s ||| ou (to j) % 64) 0 < 64
  | 0 => by show 0 < 64; omega
  | i + 1 => by
    have ih := tlO_lt fr to ou x k i
    rw [wl_fold]
    split
    · split
      · exact ih
      · exact (show _ < 2 ^ 6 from Nat.or_lt_two_pow ih (show _ < 2 ^ 6 by omega))
    · exact ih
theorem tlW_rng (fr to : Int → Int) (ou : Int → Nat) (nw : Nat) (x k : Int) : 0 ≤ tlW fr to ou nw x k ∧ tlW fr to ou nw x k ≤ 16 := by
  have h1 := pcN_le 16 (tlO fr to ou nw x k)
  have h2 := pcN_le 16 (ou (to k) % 64)
  unfold tlW; split <;> omega
theorem tlR_rng (g : am_H) (x : Int) : ∀ i : Nat, (-9 ≤ (tlR g x i).1 ∧ (tlR g x i).1 < i) ∧ 0 ≤ (tlR g x i).2 ∧ (tlR g x i).2 ≤ 16
  | 0 => by unfold tlR; simp only [wl, List.foldl_nil]; omega
  | i + 1 => by
    have ih := tlR_rng g x i
    unfold tlR at ih ⊢
    rw [wl_fold]
    generalize (wl (g 7) x i).foldl (tlS (tlW (g 7) (g 8) (out g) (nwN g) x)) (-9, 0) = s at ih ⊢
    have hr := tlW_rng (g 7) (g 8) (out g) (nwN g) x i
    unfold tlS
    generalize tlW (g 7) (g 8) (out g) (nwN g) x i = w at hr ⊢
    split
    · split
      · dsimp only; omega
      · omega
    · omega
theorem FoI.vy {g g' : am_H} {x : Int} (h : FoI g g' x) (hy : MVy g) : MVy g' := by
  unfold MVy; rw [h.1 0 (by decide) (by decide), h.1 14 (by decide) (by decide), h.1 7 (by decide) (by decide), h.1 8 (by decide) (by decide)]; exact hy
theorem lp_X8_tell2 {g g' : am_H} {dl : Nat} {Q : Option am_V → am_H → Prop} (hs : MVs g) (hI : FoI g g' (-1)) {x k b l : Int} {x7 : Option am_V} (hx : 0 ≤ x ∧ x < g 0 6) (hk : 0 ≤ k ∧ k < 14) (K : ∀ j : Int, AW GM mX8_tell dl Q 110 [some (am_R 0), some (am_I x), some (am_I b), some (am_I l), some (am_I k), some (am_I (tlO (g 7) (g 8) (out g) (nwN g) x k : Nat)), some (am_I j), x7] [] g') : ∀ (m i : Nat), (i : Int) ≤ g 0 10 → g 0 10 - i < m → AW GM mX8_tell dl Q 53 [some (am_R 0), some (am_I x), some (am_I b), some (am_I l), some (am_I k), some (am_I ((wl (g 7) x i).foldl (fun s j => if j = k then s else s ||| out g (g 8 j) % 64) 0 : Nat)), some (am_I i), x7] [] g' := by
  have hw := hs.2.1
  have hnn := hs.1
  have f0 := hI.1 0 (by decide) (by decide)
  have f7 := hI.1 7 (by decide) (by decide)
  have f8 := hI.1 8 (by decide) (by decide)
  have f0w : g' 0 10 = g 0 10 := by rw [f0]
  intro m
  induction m with
  | zero => intro i h1 h2; omega
  | succ m ih =>
    intro i h1 h2
    have f7i : g' 7 i = g 7 i := by rw [f7]
    have f8i : g' 8 i = g 8 i := by rw [f8]
    have hfs := wl_fold (fr := g 7) (x := x) (i := i) (fun s j => if j = k then s else s ||| out g (g 8 j) % 64) 0
    have hlt := tlO_lt (g 7) (g 8) (out g) x k i
    have hv := hs.2.2.2.2.1 i (by omega)
    have nxt : ∀ v : Int, (i : Int) < g 0 10 → v = ((wl (g 7) x (i + 1)).foldl (fun s j => if j = k then s else s ||| out g (g 8 j) % 64) 0 : Nat) → AW GM mX8_tell dl Q 53 [some (am_R 0), some (am_I x), some (am_I b), some (am_I l), some (am_I k), some (am_I v), some (am_I (i + 1 : Nat)), x7] [] g' := by
      intro v hlt2 hv2
      rw [hv2]
      exact ih (i + 1) (by omega) (by omega)
    refine aw_iload dX8_tell_53 rfl ?_
    refine aw_aload_n dX8_tell_55 rfl ?_
    refine aw_getI (kx := 10) fl_X8_210 dX8_tell_56 rfl rfl rfl ?_
    refine aw_icmp_ge (tgt := 110) dX8_tell_59 rfl (by omega) (by omega) (fun hc59 => ?_) (fun hc59 => ?_)
    · have en : i = nwN g := by unfold nwN; omega
      subst en
      exact K _
    · have hv2 := (hv (by omega)).1
      refine aw_iload dX8_tell_62 rfl ?_
      refine aw_aload_n dX8_tell_64 rfl ?_
      refine aw_getR (kx := 7) fl_X8_28 dX8_tell_65 rfl rfl rfl ?_
      refine aw_iload dX8_tell_68 rfl ?_
      refine aw_iaload dX8_tell_70 rfl (by decide) (by omega) ?_
      refine aw_iload_n dX8_tell_71 rfl ?_
      refine aw_icmp_ne (tgt := 100) dX8_tell_72 rfl (by omega) (by omega) (fun hc72 => ?_) (fun hc72 => ?_)
      · refine aw_iconst dX8_tell_100 ?_
        refine aw_ior dX8_tell_101 ?_
        refine aw_istore5 dX8_tell_102 (by decide) rfl ?_
        refine aw_iinc6 dX8_tell_104 (by decide) rfl ?_
        refine aw_goto (tgt := 53) dX8_tell_107 rfl ?_
        exact nxt _ (by omega) (by rw [bt_or0 (by omega), hfs, if_neg (by omega)])
      · refine aw_iload dX8_tell_75 rfl ?_
        refine aw_iload dX8_tell_77 rfl ?_
        refine aw_icmp_eq (tgt := 100) dX8_tell_79 rfl (by omega) (by omega) (fun hc79 => ?_) (fun hc79 => ?_)
        · refine aw_iconst dX8_tell_100 ?_
          refine aw_ior dX8_tell_101 ?_
          refine aw_istore5 dX8_tell_102 (by decide) rfl ?_
          refine aw_iinc6 dX8_tell_104 (by decide) rfl ?_
          refine aw_goto (tgt := 53) dX8_tell_107 rfl ?_
          exact nxt _ (by omega) (by rw [bt_or0 (by omega), hfs, if_pos (by omega), if_pos (by omega)])
        · have hIt := hI.2 (g 8 i) (by omega) hv2.2.2
          have hol := out_lt hs 9 (g 8 i) (by omega) hv2.2.2 (by omega)
          refine aw_aload_n dX8_tell_82 rfl ?_
          refine aw_getR (kx := 35) fl_X8_80 dX8_tell_83 rfl rfl rfl ?_
          refine aw_aload_n dX8_tell_86 rfl ?_
          refine aw_getR (kx := 8) fl_X8_31 dX8_tell_87 rfl rfl rfl ?_
          refine aw_iload dX8_tell_90 rfl ?_
          refine aw_iaload dX8_tell_92 rfl (by decide) (by omega) ?_
          refine aw_iaload dX8_tell_93 rfl (by decide) (by omega) ?_
          refine aw_top (show g' 23 (g' 8 i) = (out g (g 8 i) : Nat) by rw [f8i]; exact hIt.2) ?_
          refine aw_bipush (by decide) dX8_tell_94 ?_
          refine aw_iand dX8_tell_96 ?_
          refine aw_goto (tgt := 101) dX8_tell_97 rfl ?_
          refine aw_ior dX8_tell_101 ?_
          refine aw_istore5 dX8_tell_102 (by decide) rfl ?_
          refine aw_iinc6 dX8_tell_104 (by decide) rfl ?_
          refine aw_goto (tgt := 53) dX8_tell_107 rfl ?_
          exact nxt _ (by omega) (by rw [bt_and63 (by omega), bt_or (by omega) (by omega), hfs, if_pos (by omega), if_neg (by omega)])
theorem lp_X8_tell1 {g g' : am_H} (hs : MVs g) (hy : MVy g) (h0 : ¬ g 0 6 = 0) (hI : FoI g g' (-1)) : ∀ (m i : Nat) (x5 x6 x7 : Option am_V), (i : Int) ≤ g 0 10 → g 0 10 - i < m → AW GM mX8_tell 4 (QM (S_tell g)) 27 [some (am_R 0), some (am_I (nowF g)), some (am_I (tlR g (nowF g) i).1), some (am_I (tlR g (nowF g) i).2), some (am_I i), x5, x6, x7] [] g' := by
  have hw := hs.2.1
  have hnn := hs.1
  have hnr := now_rng hs hy
  have f0 := hI.1 0 (by decide) (by decide)
  have f7 := hI.1 7 (by decide) (by decide)
  have f8 := hI.1 8 (by decide) (by decide)
  have f0w : g' 0 10 = g 0 10 := by rw [f0]
  have hre := tlR_rng g (nowF g) (nwN g)
  have hn14 : nwN g ≤ 14 := by unfold nwN; omega
  have hfin : ∀ (x5 x6 x7 : Option am_V), AW GM mX8_tell 4 (QM (S_tell g)) 188 [some (am_R 0), some (am_I (nowF g)), some (am_I (tlR g (nowF g) (nwN g)).1), some (am_I (tlR g (nowF g) (nwN g)).2), some (am_I (nwN g)), x5, x6, x7] [] g' := by
    intro x5 x6 x7
    refine aw_iload_n dX8_tell_188 rfl ?_
    refine aw_if_ge (tgt := 197) dX8_tell_189 rfl (by omega) (fun hc189 => ?_) (fun hc189 => ?_)
    · refine aw_aload_n dX8_tell_197 rfl ?_
      refine aw_iload_n dX8_tell_198 rfl ?_
      refine aw_iload_n dX8_tell_199 rfl ?_
      refine aw_cV2IF (c_X8_answer) lk_X8_151 dX8_tell_200 (by decide) rfl rfl (fun _ => Nat.le_of_ble_eq_true rfl) ?_
      refine aw_iretQ dX8_tell_203 rfl ?_
      rw [S_tell, if_neg h0, if_neg (by omega)]; exact ⟨rfl, hI.me.set (by omega)⟩
    · refine aw_bipush (by decide) dX8_tell_192 ?_
      refine aw_goto (tgt := 203) dX8_tell_194 rfl ?_
      refine aw_iretQ dX8_tell_203 rfl ?_
      rw [S_tell, if_neg h0, if_pos (by omega)]; exact ⟨rfl, hI.me⟩
  intro m
  induction m with
  | zero => intro i x5 x6 x7 h1 h2; omega
  | succ m ih =>
    intro i x5 x6 x7 h1 h2
    have f7i : g' 7 i = g 7 i := by rw [f7]
    have f8i : g' 8 i = g 8 i := by rw [f8]
    have hv := hs.2.2.2.2.1 i (by omega)
    have hr := tlR_rng g (nowF g) i
    have hst : tlR g (nowF g) (i + 1) = if g 7 i = nowF g then tlS (tlW (g 7) (g 8) (out g) (nwN g) (nowF g)) (tlR g (nowF g) i) i else tlR g (nowF g) i := by
      unfold tlR; rw [wl_fold]
    have nxt : ∀ (s : Int × Int) (y5 y6 y7 : Option am_V), (i : Int) < g 0 10 → s = tlR g (nowF g) (i + 1) → AW GM mX8_tell 4 (QM (S_tell g)) 27 [some (am_R 0), some (am_I (nowF g)), some (am_I s.1), some (am_I s.2), some (am_I (i + 1 : Nat)), y5, y6, y7] [] g' := by
      intro s y5 y6 y7 hlt hse
      rw [hse]
      exact ih (i + 1) _ _ _ (by omega) (by omega)
    have bod : ∀ (w y6 : Int), g 7 i = nowF g → (i : Int) < g 0 10 → w = tlW (g 7) (g 8) (out g) (nwN g) (nowF g) i → AW GM mX8_tell 4 (QM (S_tell g)) 152 [some (am_R 0), some (am_I (nowF g)), some (am_I (tlR g (nowF g) i).1), some (am_I (tlR g (nowF g) i).2), some (am_I i), some (am_I (tlO (g 7) (g 8) (out g) (nwN g) (nowF g) i : Nat)), some (am_I y6), some (am_I w)] [] g' := by
      intro w y6 hfi hlt hwe
      have hwr := tlW_rng (g 7) (g 8) (out g) (nwN g) (nowF g) i
      rw [if_pos hfi] at hst
      unfold tlS at hst
      rw [← hwe] at hwr hst
      refine aw_iload_n dX8_tell_152 rfl ?_
      refine aw_if_lt (tgt := 162) dX8_tell_153 rfl (by omega) (fun hc153 => ?_) (fun hc153 => ?_)
      · refine aw_iload dX8_tell_162 rfl ?_
        refine aw_goto (tgt := 168) dX8_tell_164 rfl ?_
        refine aw_istore_2 dX8_tell_168 (by decide) rfl ?_
        refine aw_iload_n dX8_tell_169 rfl ?_
        refine aw_iload dX8_tell_170 rfl ?_
        refine aw_icmp_ne (tgt := 180) dX8_tell_172 rfl (by omega) (by omega) (fun hc172 => ?_) (fun hc172 => ?_)
        · omega
        · refine aw_iload dX8_tell_175 rfl ?_
          refine aw_goto (tgt := 181) dX8_tell_177 rfl ?_
          refine aw_istore_3 dX8_tell_181 (by decide) rfl ?_
          refine aw_iinc4 dX8_tell_182 (by decide) rfl ?_
          refine aw_goto (tgt := 27) dX8_tell_185 rfl ?_
          exact nxt (i, w) _ _ _ hlt (by rw [hst, if_pos (by omega)])
      · refine aw_iload dX8_tell_156 rfl ?_
        refine aw_iload_n dX8_tell_158 rfl ?_
        refine aw_icmp_ge (tgt := 167) dX8_tell_159 rfl (by omega) (by omega) (fun hc159 => ?_) (fun hc159 => ?_)
        · refine aw_iload_n dX8_tell_167 rfl ?_
          refine aw_istore_2 dX8_tell_168 (by decide) rfl ?_
          refine aw_iload_n dX8_tell_169 rfl ?_
          refine aw_iload dX8_tell_170 rfl ?_
          refine aw_icmp_ne (tgt := 180) dX8_tell_172 rfl (by omega) (by omega) (fun hc172 => ?_) (fun hc172 => ?_)
          · refine aw_iload_n dX8_tell_180 rfl ?_
            refine aw_istore_3 dX8_tell_181 (by decide) rfl ?_
            refine aw_iinc4 dX8_tell_182 (by decide) rfl ?_
            refine aw_goto (tgt := 27) dX8_tell_185 rfl ?_
            exact nxt _ _ _ _ hlt (by rw [hst, if_neg (by omega)])
          · omega
        · refine aw_iload dX8_tell_162 rfl ?_
          refine aw_goto (tgt := 168) dX8_tell_164 rfl ?_
          refine aw_istore_2 dX8_tell_168 (by decide) rfl ?_
          refine aw_iload_n dX8_tell_169 rfl ?_
          refine aw_iload dX8_tell_170 rfl ?_
          refine aw_icmp_ne (tgt := 180) dX8_tell_172 rfl (by omega) (by omega) (fun hc172 => ?_) (fun hc172 => ?_)
          · omega
          · refine aw_iload dX8_tell_175 rfl ?_
            refine aw_goto (tgt := 181) dX8_tell_177 rfl ?_
            refine aw_istore_3 dX8_tell_181 (by decide) rfl ?_
            refine aw_iinc4 dX8_tell_182 (by decide) rfl ?_
            refine aw_goto (tgt := 27) dX8_tell_185 rfl ?_
            exact nxt (i, w) _ _ _ hlt (by rw [hst, if_pos (by omega)])
    have b110 : ∀ (j : Int) (y7 : Option am_V), g 7 i = nowF g → (i : Int) < g 0 10 → AW GM mX8_tell 4 (QM (S_tell g)) 110 [some (am_R 0), some (am_I (nowF g)), some (am_I (tlR g (nowF g) i).1), some (am_I (tlR g (nowF g) i).2), some (am_I i), some (am_I (tlO (g 7) (g 8) (out g) (nwN g) (nowF g) i : Nat)), some (am_I j), y7] [] g' := by
      intro j y7 hfi hlt
      have hv2 := (hv (by omega)).1
      have hIt := hI.2 (g 8 i) (by omega) hv2.2.2
      have hol := out_lt hs 9 (g 8 i) (by omega) hv2.2.2 (by omega)
      have hot : tlO (g 7) (g 8) (out g) (nwN g) (nowF g) i < 64 := tlO_lt (g 7) (g 8) (out g) (nowF g) i (nwN g)
      have p1 := pcN_le 16 (tlO (g 7) (g 8) (out g) (nwN g) (nowF g) i)
      have p2 := pcN_le 16 (out g (g 8 i) % 64)
      refine aw_aload_n dX8_tell_110 rfl ?_
      refine aw_getR (kx := 35) fl_X8_80 dX8_tell_111 rfl rfl rfl ?_
      refine aw_aload_n dX8_tell_114 rfl ?_
      refine aw_getR (kx := 8) fl_X8_31 dX8_tell_115 rfl rfl rfl ?_
      refine aw_iload dX8_tell_118 rfl ?_
      refine aw_iaload dX8_tell_120 rfl (by decide) (by omega) ?_
      refine aw_iaload dX8_tell_121 rfl (by decide) (by omega) ?_
      refine aw_top (show g' 23 (g' 8 i) = (out g (g 8 i) : Nat) by rw [f8i]; exact hIt.2) ?_
      refine aw_bipush (by decide) dX8_tell_122 ?_
      refine aw_iand dX8_tell_124 ?_
      refine aw_top (bt_and63 (by omega)) ?_
      refine aw_cS1IF (c_X8_ones rfl (by omega)) lk_X8_256 dX8_tell_125 (by decide) (fun _ => Nat.le_of_ble_eq_true rfl) ?_
      refine aw_istore6 dX8_tell_128 (by decide) rfl ?_
      refine aw_iload dX8_tell_130 rfl ?_
      refine aw_iload dX8_tell_132 rfl ?_
      refine aw_cS1IF (c_X8_ones rfl (by omega)) lk_X8_256 dX8_tell_134 (by decide) (fun _ => Nat.le_of_ble_eq_true rfl) ?_
      refine aw_icmp_le (tgt := 145) dX8_tell_137 rfl (by omega) (by omega) (fun hc137 => ?_) (fun hc137 => ?_)
      · refine aw_iload dX8_tell_145 rfl ?_
        refine aw_cS1IF (c_X8_ones rfl (by omega)) lk_X8_256 dX8_tell_147 (by decide) (fun _ => Nat.le_of_ble_eq_true rfl) ?_
        refine aw_istore7 dX8_tell_150 (by decide) rfl ?_
        exact bod _ _ hfi hlt (by rw [tlW, if_neg (by omega)])
      · refine aw_iload dX8_tell_140 rfl ?_
        refine aw_goto (tgt := 150) dX8_tell_142 rfl ?_
        refine aw_istore7 dX8_tell_150 (by decide) rfl ?_
        exact bod _ _ hfi hlt (by rw [tlW, if_pos (by omega)])
    refine aw_iload dX8_tell_27 rfl ?_
    refine aw_aload_n dX8_tell_29 rfl ?_
    refine aw_getI (kx := 10) fl_X8_210 dX8_tell_30 rfl rfl rfl ?_
    refine aw_icmp_ge (tgt := 188) dX8_tell_33 rfl (by omega) (by omega) (fun hc33 => ?_) (fun hc33 => ?_)
    · have en : i = nwN g := by unfold nwN; omega
      subst en
      exact hfin _ _ _
    · have hv2 := (hv (by omega)).1
      refine aw_aload_n dX8_tell_36 rfl ?_
      refine aw_getR (kx := 7) fl_X8_28 dX8_tell_37 rfl rfl rfl ?_
      refine aw_iload dX8_tell_40 rfl ?_
      refine aw_iaload dX8_tell_42 rfl (by decide) (by omega) ?_
      refine aw_iload_n dX8_tell_43 rfl ?_
      refine aw_icmp_ne (tgt := 182) dX8_tell_44 rfl (by omega) (by omega) (fun hc44 => ?_) (fun hc44 => ?_)
      · refine aw_iinc4 dX8_tell_182 (by decide) rfl ?_
        refine aw_goto (tgt := 27) dX8_tell_185 rfl ?_
        exact nxt _ _ _ _ (by omega) (by rw [hst, if_neg (by omega)])
      · refine aw_iconst dX8_tell_47 ?_
        refine aw_istore5 dX8_tell_48 (by decide) rfl ?_
        refine aw_iconst dX8_tell_50 ?_
        refine aw_istore6 dX8_tell_51 (by decide) rfl ?_
        exact lp_X8_tell2 hs hI (by omega) (by omega) (fun j => b110 _ _ (by omega) (by omega)) 15 0 (by omega) (by omega)
theorem c_X8_tell {g : am_H} (hs : MVs g) (hy : MVy g) : AMet GM mX8_tell 4 [am_R 0] g (QM (S_tell g)) := by
  have hnn := hs.1
  have hw := hs.2.1
  refine am_start [some (am_R 0), none, none, none, none, none, none, none] rfl rfl (by decide) (Nat.le_of_ble_eq_true rfl) ?_
  refine aw_aload_n dX8_tell_0 rfl ?_
  refine aw_getI (kx := 6) fl_X8_207 dX8_tell_1 rfl rfl rfl ?_
  refine aw_if_ne (tgt := 10) dX8_tell_4 rfl (by omega) (fun hc4 => ?_) (fun hc4 => ?_)
  · refine aw_aload_n dX8_tell_10 rfl ?_
    refine aw_cV0V (c_X8_findOutcomes hs) lk_X8_228 dX8_tell_11 (by decide) rfl rfl (fun _ => Nat.le_of_ble_eq_true rfl) (fun h11 q11 => ?_)
    refine aw_aload_n dX8_tell_14 rfl ?_
    refine aw_cV0IF (c_X8_whereNow (q11.vs hs) (q11.vy hy)) lk_X8_274 dX8_tell_15 (by decide) rfl rfl (fun _ => Nat.le_of_ble_eq_true rfl) ?_
    rw [show nowF h11 = nowF g by unfold nowF; rw [q11.1 0 (by decide) (by decide), q11.1 8 (by decide) (by decide), q11.1 14 (by decide) (by decide)]]
    refine aw_istore_1 dX8_tell_18 (by decide) rfl ?_
    refine aw_bipush (by decide) dX8_tell_19 ?_
    refine aw_istore_2 dX8_tell_21 (by decide) rfl ?_
    refine aw_iconst dX8_tell_22 ?_
    refine aw_istore_3 dX8_tell_23 (by decide) rfl ?_
    refine aw_iconst dX8_tell_24 ?_
    refine aw_istore4 dX8_tell_25 (by decide) rfl ?_
    exact lp_X8_tell1 hs hy (by omega) q11 15 0 _ _ _ (by omega) (by omega)
  · refine aw_bipush (by decide) dX8_tell_7 ?_
    refine aw_iretQ dX8_tell_9 rfl ?_
    rw [S_tell, if_pos (by omega)]; exact ⟨rfl, MEq.rf _⟩
