theorem MVs.of3 {g g' : am_H} (hs : MVs g) (h6 : g' 0 6 = g 0 6) (h10 : g' 0 10 = g 0 10) (h15 : g' 0 15 = g 0 15) (hc : ∀ c : Int, 5 ≤ c → c ≤ 13 → g' c = g c) : MVs g' := by
  unfold MVs
  rw [h6, h10, h15, hc 5 (by decide) (by decide), hc 6 (by decide) (by decide), hc 7 (by decide) (by decide), hc 8 (by decide) (by decide), hc 9 (by decide) (by decide), hc 10 (by decide) (by decide), hc 11 (by decide) (by decide), hc 12 (by decide) (by decide), hc 13 (by decide) (by decide)]
  exact hs
theorem say_c {g : am_H} {k c : Int} (h0 : ¬ c = 0) (h1 : ¬ c = 14) (h2 : ¬ c = 15) : sayF g k c = g c := by
  unfold sayF; rw [am_set_c h0, am_set_c h0, am_set_c h2, am_set_c h1]
theorem say_0 {g : am_H} {k j : Int} (h1 : ¬ j = 18) (h2 : ¬ j = 19) : sayF g k 0 j = g 0 j := by
  unfold sayF; rw [am_set_i h1, am_set_i h2, am_set_c (by decide), am_set_c (by decide)]
theorem say_m {g : am_H} {k : Int} : sayF g k 0 18 = g 0 18 + 1 := by
  unfold sayF; rw [am_set_s]
theorem say_t {g : am_H} {k : Int} : sayF g k 0 19 = gon (g 5 (g 7 k)) (g 0 19) := by
  unfold sayF; rw [am_set_i (by decide), am_set_s]
theorem say_s {g : am_H} {k i : Int} : sayF g k 14 i = if i = g 0 18 then k else g 14 i := by
  unfold sayF; rw [am_set_c (by decide), am_set_c (by decide), am_set_c (by decide)]
  split
  · rename_i e; rw [e, am_set_s]
  · rename_i e; rw [am_set_i e]
theorem say_a {g : am_H} {k i : Int} : sayF g k 15 i = if i = g 0 18 then g 0 19 else g 15 i := by
  unfold sayF; rw [am_set_c (by decide), am_set_c (by decide)]
  split
  · rename_i e; rw [e, am_set_s]
  · rename_i e; rw [am_set_i e, am_set_c (by decide)]
theorem say_vs {g : am_H} {k : Int} (hs : MVs g) : MVs (sayF g k) := hs.of3 (say_0 (by decide) (by decide)) (say_0 (by decide) (by decide)) (say_0 (by decide) (by decide)) (fun c a b => say_c (by omega) (by omega) (by omega))
theorem say_now {g : am_H} {k : Int} (hm : 0 ≤ g 0 18) : nowF (sayF g k) = g 8 k := by
  unfold nowF; rw [say_m, if_neg (by omega), say_c (by decide) (by decide) (by decide), say_s, if_pos (by omega)]
theorem say_vy {g : am_H} {k : Int} (hs : MVs g) (hy : MVy g) (hk : 0 ≤ k ∧ k < g 0 10) (hf : g 7 k = nowF g) : MVy (sayF g k) := by
  have hn := now_rng hs hy
  have hv := (hs.2.2.2.2.1 k hk.1 hk.2).1
  have hnn := hs.1
  obtain ⟨y1, y2, y3⟩ := hy
  unfold MVy
  rw [say_m, say_0 (j := 6) (by decide) (by decide), say_0 (j := 10) (by decide) (by decide), say_c (c := 7) (by decide) (by decide) (by decide), say_c (c := 8) (by decide) (by decide) (by decide)]
  refine ⟨by omega, fun h => by omega, fun i a b => ?_⟩
  rw [say_s, say_s]
  by_cases e : i = g 0 18
  · rw [if_pos e]
    refine ⟨hk, ?_⟩
    rw [hf]
    unfold nowF
    by_cases e0 : i = 0
    · rw [if_pos e0, if_pos (by omega)]
    · rw [if_neg e0, if_neg (by omega), if_neg (by omega), e]
  · rw [if_neg e]
    have h3 := y3 i a (by omega)
    refine ⟨h3.1, ?_⟩
    rw [h3.2]
    by_cases e0 : i = 0
    · rw [if_pos e0, if_pos e0]
    · rw [if_neg e0, if_neg e0, if_neg (by omega)]
def ltN (lot : Int) : Int := (lot * 48271).tmod 2147483647
def ltW (g : am_H) (lot : Int) : Int := (wl (g 7) (nowF g) (nwN g)).getD (((ltN lot).tmod (dgF g (nowF g))).toNat) 0
def ltR : Nat → am_H → Int → Int → Int × am_H
  | 0, g, _, k => (k, g)
  | f + 1, g, lot, k => if dgF g (nowF g) = 0 then (k, g) else ltR f (sayF g (ltW g lot)) (ltN lot) (k + 1)
def S_lots (g : am_H) (n seed : Int) : Int × am_H := if ¬ (1 ≤ n ∧ n ≤ 8) ∨ ¬ (1 ≤ seed ∧ seed ≤ 2147483646) then (-1, g) else if g 0 6 = 0 then (-4, g) else ltR n.toNat g seed 0
theorem tmod_in {a b : Int} (ha : 0 ≤ a) (hb : 0 < b) : 0 ≤ a.tmod b ∧ a.tmod b < b := by
  have h3 : (a.tmod b).natAbs < b.natAbs := by
    rw [Int.natAbs_tmod]
    exact Nat.mod_lt _ (by omega)
  have h4 := Int.tmod_nonneg b ha
  omega
theorem drop_succ {α : Type} {L : List α} {i : Nat} {a : α} {R : List α} (h : L.drop i = a :: R) : L.drop (i + 1) = R := by
  have : (L.drop i).drop 1 = L.drop (i + 1) := by rw [List.drop_drop]
  rw [← this, h]; rfl
theorem drop_getD {α : Type} {d : α} : ∀ {L : List α} {i : Nat} {a : α} {R : List α}, L.drop i = a :: R → L.getD i d = a
  | [], i, a, R, h => by rw [List.drop_nil] at h; exact absurd h (by simp)
  | b :: L, 0, a, R, h => by obtain ⟨h1, h2⟩ := List.cons.inj h; subst h1; rfl
  | b :: L, i + 1, a, R, h => by
    have : L.drop i = a :: R := h
    have := drop_getD (d := d) this
    exact this
theorem lp_X8_lots2 {g : am_H} {dl : Nat} {Q : Option am_V → am_H → Prop} {n seed lot k x which : Int} (hs : MVs g) (hdl : 2 ≤ dl) (hx : 0 ≤ x ∧ x < g 0 6) (hw : 0 ≤ which ∧ which < dgF g x) (K : ∀ (w i : Int), (0 ≤ w ∧ w < g 0 10) → g 7 w = x → w = (wl (g 7) x (nwN g)).getD which.toNat 0 → AW GM mX8_lots dl Q 127 [some (am_R 0), some (am_I n), some (am_I seed), some (am_J lot), none, some (am_I k), some (am_I x), some (am_I which), some (am_I w), some (am_I i)] [] g) : ∀ (j i : Nat) (w : Int), (i : Int) ≤ which → which - i < j → (0 ≤ w ∧ w < g 0 10) → g 7 w = x → (wl (g 7) x (nwN g)).drop i = w :: wu (g 7) x (g 0 10 - (w + 1)).toNat (w + 1) → AW GM mX8_lots dl Q 102 [some (am_R 0), some (am_I n), some (am_I seed), some (am_J lot), none, some (am_I k), some (am_I x), some (am_I which), some (am_I w), some (am_I i)] [] g := by
  have hnn := hs.1
  have hww := hs.2.1
  have hl := wl_len (g 7) x (nwN g)
  have hd4 : cntF (g 7) x (nwN g) ≤ 4 := hs.2.2.2.2.2.2.1 x
  have hwd : 0 ≤ which ∧ which < cntF (g 7) x (nwN g) := hw
  intro j
  induction j with
  | zero => intro i w h1 h2; omega
  | succ j ih =>
    intro i w h1 h2 h3 h4 h5
    have hr := nxF_rng (g 7) x (g 0 10 - (w + 1)).toNat (w + 1) (by omega)
    have h6 := drop_succ h5
    refine aw_iload dX8_lots_102 rfl ?_
    refine aw_iload dX8_lots_104 rfl ?_
    refine aw_icmp_ge (tgt := 127) dX8_lots_106 rfl (by omega) (by omega) (fun hc106 => ?_) (fun hc106 => ?_)
    · exact K w _ h3 h4 (by rw [show which.toNat = i by omega]; exact (drop_getD h5).symm)
    · refine aw_aload_n dX8_lots_109 rfl ?_
      refine aw_iload dX8_lots_110 rfl ?_
      refine aw_iload dX8_lots_112 rfl ?_
      refine aw_iconst dX8_lots_114 ?_
      refine aw_iadd dX8_lots_115 ?_
      refine aw_cV2IF (c_X8_nextFrom hs (by omega) (by omega)) lk_X8_338 dX8_lots_116 (by omega) rfl rfl (fun _ => Nat.le_of_ble_eq_true rfl) ?_
      refine aw_istore8 dX8_lots_119 (by decide) rfl ?_
      refine aw_iinc9 dX8_lots_121 (by decide) rfl ?_
      refine aw_goto (tgt := 102) dX8_lots_124 rfl ?_
      rcases hr with ⟨r1, r2⟩ | ⟨r1, r2, r3, r4⟩
      · rw [r2] at h6
        have h7 : ((wl (g 7) x (nwN g)).drop (i + 1)).length = 0 := by rw [h6]; rfl
        rw [List.length_drop] at h7
        omega
      · refine ih (i + 1) _ (by omega) (by omega) (by omega) r3 ?_
        rw [h6]
        rw [show w + 1 + ((g 0 10 - (w + 1)).toNat : Nat) = g 0 10 by omega] at r4
        exact r4
theorem lp_X8_lots1 {n seed : Int} (hn : 1 ≤ n ∧ n ≤ 8) : ∀ (j : Nat) (k lot : Int) (g : am_H) (x6 x7 x8 x9 : Option am_V), MVs g → MVy g → VS (g 0 19) → ¬ g 0 6 = 0 → 0 ≤ k → n - k = j → (0 ≤ lot ∧ lot < 2147483647) → AW GM mX8_lots 5 (QM (ltR j g lot k)) 42 [some (am_R 0), some (am_I n), some (am_I seed), some (am_J lot), none, some (am_I k), x6, x7, x8, x9] [] g := by
  intro j
  induction j with
  | zero =>
    intro k lot g x6 x7 x8 x9 hs hy hd h0 h1 h2 h3
    refine aw_iload dX8_lots_42 rfl ?_
    refine aw_iload_n dX8_lots_44 rfl ?_
    refine aw_icmp_ge (tgt := 139) dX8_lots_45 rfl (by omega) (by omega) (fun hc45 => ?_) (fun hc45 => ?_)
    · refine aw_iload dX8_lots_139 rfl ?_
      refine aw_iretQ dX8_lots_141 rfl ?_
      exact ⟨rfl, MEq.rf _⟩
    · omega
  | succ j ih =>
    intro k lot g x6 x7 x8 x9 hs hy hd h0 h1 h2 h3
    have hnn := hs.1
    have hww := hs.2.1
    have hnr := now_rng hs hy
    have hm := hy.1
    have hd1 := hd.1
    have hd2 := hd.2.1
    have hl := tmod_in (a := lot * 48271) (b := 2147483647) (by omega) (by omega)
    have hn14 : nwN g ≤ 14 := by unfold nwN; omega
    have hws := wsN_lt16 (g 7) (nowF g) hn14
    have edg : ((pcN 16 (wsN (g 7) (nowF g) (nwN g)) : Nat) : Int) = dgF g (nowF g) := wsN_pc _ _ _ (by omega)
    have hd4 : dgF g (nowF g) ≤ 4 := hs.2.2.2.2.2.2.1 (nowF g)
    have hcr : 0 ≤ dgF g (nowF g) := (cntF_rng (g 7) (nowF g) (nwN g)).1
    have elt : (lot * 48271).tmod 2147483647 = ltN lot := rfl
    rw [elt] at hl
    have hwl := wl_len (g 7) (nowF g) (nwN g)
    have hdw : dgF g (nowF g) = cntF (g 7) (nowF g) (nwN g) := rfl
    have en : (g 0 10 - 0).toNat = nwN g := by unfold nwN; omega
    have enn : (nwN g : Int) = g 0 10 := by unfold nwN; omega
    have hr := nxF_rng (g 7) (nowF g) (nwN g) 0 (by omega)
    have b127 : ¬ dgF g (nowF g) = 0 → ∀ w i : Int, (0 ≤ w ∧ w < g 0 10) → g 7 w = nowF g → w = ltW g lot → AW GM mX8_lots 5 (QM (ltR (j + 1) g lot k)) 127 [some (am_R 0), some (am_I n), some (am_I seed), some (am_J (ltN lot)), none, some (am_I k), some (am_I (nowF g)), some (am_I ((ltN lot).tmod (dgF g (nowF g)))), some (am_I w), some (am_I i)] [] g := by
      intro hdg w i hw1 hw2 hw3
      have hv := (hs.2.2.2.2.1 w hw1.1 hw1.2).1
      have e1 : ltR (j + 1) g lot k = ltR j (sayF g w) (ltN lot) (k + 1) := by rw [hw3]; show (if _ then _ else _) = _; rw [if_neg hdg]
      rw [e1]
      refine aw_aload_n dX8_lots_127 rfl ?_
      refine aw_iload dX8_lots_128 rfl ?_
      refine aw_cV1VF (c_X8_sayNow hs hw1 (by omega) (by omega)) lk_X8_278 dX8_lots_130 (by decide) rfl rfl (fun _ => Nat.le_of_ble_eq_true rfl) ?_
      refine aw_iinc5 dX8_lots_133 (by decide) rfl ?_
      refine aw_goto (tgt := 42) dX8_lots_136 rfl ?_
      refine ih (k + 1) (ltN lot) (sayF g w) _ _ _ _ (say_vs hs) (say_vy hs hy hw1 hw2) ?_ ?_ (by omega) (by omega) (by omega)
      · rw [say_t]; exact vs_gon hd
      · rw [say_0 (by decide) (by decide)]; exact h0
    refine aw_iload dX8_lots_42 rfl ?_
    refine aw_iload_n dX8_lots_44 rfl ?_
    refine aw_icmp_ge (tgt := 139) dX8_lots_45 rfl (by omega) (by omega) (fun hc45 => ?_) (fun hc45 => ?_)
    · omega
    · refine aw_aload_n dX8_lots_48 rfl ?_
      refine aw_aload_n dX8_lots_49 rfl ?_
      refine aw_cV0IF (c_X8_whereNow hs hy) lk_X8_274 dX8_lots_50 (by decide) rfl rfl (fun _ => Nat.le_of_ble_eq_true rfl) ?_
      refine aw_cV1IF (c_X8_isOver hs (by omega)) lk_X8_225 dX8_lots_53 (by decide) rfl rfl (fun _ => Nat.le_of_ble_eq_true rfl) ?_
      refine aw_ifb_ne (tgt := 139) dX8_lots_56 rfl (fun hc56 => ?_) (fun hc56 => ?_)
      · refine aw_iload dX8_lots_139 rfl ?_
        refine aw_iretQ dX8_lots_141 rfl ?_
        refine ⟨?_, ?_⟩
        · show k = (if _ then _ else _ : Int × am_H).1; rw [if_pos hc56]
        · show MEq g (if _ then _ else _ : Int × am_H).2; rw [if_pos hc56]; exact MEq.rf _
      · refine aw_lload_n dX8_lots_59 rfl ?_
        refine aw_ldc2 (n := 48271) kj_X8_359 rfl dX8_lots_60 ?_
        refine aw_lmul dX8_lots_63 ?_
        refine aw_ldc2 (n := 2147483647) kj_X8_361 rfl dX8_lots_64 ?_
        refine aw_lrem (by omega) (by omega) dX8_lots_67 ?_
        refine aw_topJ elt ?_
        refine aw_lstore_3 dX8_lots_68 (by decide) rfl ?_
        have hdp : 0 < dgF g (nowF g) := by omega
        have hwt := tmod_in (a := ltN lot) (b := dgF g (nowF g)) (by omega) hdp
        refine aw_aload_n dX8_lots_69 rfl ?_
        refine aw_cV0IF (c_X8_whereNow hs hy) lk_X8_274 dX8_lots_70 (by decide) rfl rfl (fun _ => Nat.le_of_ble_eq_true rfl) ?_
        refine aw_istore6 dX8_lots_73 (by decide) rfl ?_
        refine aw_lload_n dX8_lots_75 rfl ?_
        refine aw_aload_n dX8_lots_76 rfl ?_
        refine aw_iload dX8_lots_77 rfl ?_
        refine aw_cV1IF (c_X8_wordsFrom hs (by omega)) lk_X8_222 dX8_lots_79 (by decide) rfl rfl (fun _ => Nat.le_of_ble_eq_true rfl) ?_
        refine aw_cS1IF (c_X8_ones rfl (by omega)) lk_X8_256 dX8_lots_82 (by decide) (fun _ => Nat.le_of_ble_eq_true rfl) ?_
        refine aw_top edg ?_
        refine aw_i2l (by omega) dX8_lots_85 ?_
        refine aw_lrem (by omega) (by omega) dX8_lots_86 ?_
        refine aw_l2i dX8_lots_87 ?_
        refine aw_istore7 dX8_lots_88 (by decide) rfl ?_
        refine aw_aload_n dX8_lots_90 rfl ?_
        refine aw_iload dX8_lots_91 rfl ?_
        refine aw_iconst dX8_lots_93 ?_
        refine aw_cV2IF (c_X8_nextFrom hs (by omega) (by omega)) lk_X8_338 dX8_lots_94 (by decide) rfl rfl (fun _ => Nat.le_of_ble_eq_true rfl) ?_
        rw [en]
        refine aw_istore8 dX8_lots_97 (by decide) rfl ?_
        refine aw_iconst dX8_lots_99 ?_
        refine aw_istore9 dX8_lots_100 (by decide) rfl ?_
        rcases hr with ⟨r1, r2⟩ | ⟨r1, r2, r3, r4⟩
        · rw [← wl_wu] at r2
          rw [r2] at hwl
          have : ((0 : Nat) : Int) = cntF (g 7) (nowF g) (nwN g) := hwl
          omega
        · refine lp_X8_lots2 hs (by decide) (by omega) hwt (fun w i a b c => b127 (by omega) w i a b c) 5 0 _ (by omega) (by omega) (by omega) r3 ?_
          rw [List.drop_zero, wl_wu, r4]
          rw [show (0 : Int) + (nwN g : Nat) - (nxF (g 7) (nowF g) (nwN g) 0 + 1) = g 0 10 - (nxF (g 7) (nowF g) (nwN g) 0 + 1) by omega]
theorem c_X8_lots {g : am_H} {n seed : Int} (hs : MVs g) (hy : MVy g) (hd : VS (g 0 19)) (hn : -2147483648 ≤ n ∧ n < 2147483648) (hk : -2147483648 ≤ seed ∧ seed < 2147483648) : AMet GM mX8_lots 5 [am_R 0, am_I n, am_I seed] g (QM (S_lots g n seed)) := by
  have hnn := hs.1
  refine am_start [some (am_R 0), some (am_I n), some (am_I seed), none, none, none, none, none, none, none] rfl rfl (by decide) (Nat.le_of_ble_eq_true rfl) ?_
  refine aw_iload_n dX8_lots_0 rfl ?_
  refine aw_i2l (by omega) dX8_lots_1 ?_
  refine aw_lconst (v := 1) dX8_lots_2 rfl ?_
  refine aw_ldc2 (n := 8) kj_X8_309 rfl dX8_lots_3 ?_
  refine aw_cS3IF (c_X8_in (by omega) (by omega) (by omega)) lk_X8_133 dX8_lots_6 (by decide) (fun _ => Nat.le_of_ble_eq_true rfl) ?_
  refine aw_ifb_eq (tgt := 24) dX8_lots_9 rfl (fun hc9 => ?_) (fun hc9 => ?_)
  · refine aw_iconst dX8_lots_24 ?_
    refine aw_iretQ dX8_lots_25 rfl ?_
    rw [S_lots, if_pos (by omega)]; exact ⟨rfl, MEq.rf _⟩
  · refine aw_iload_n dX8_lots_12 rfl ?_
    refine aw_i2l (by omega) dX8_lots_13 ?_
    refine aw_lconst (v := 1) dX8_lots_14 rfl ?_
    refine aw_ldc2 (n := 2147483646) kj_X8_357 rfl dX8_lots_15 ?_
    refine aw_cS3IF (c_X8_in (by omega) (by omega) (by omega)) lk_X8_133 dX8_lots_18 (by decide) (fun _ => Nat.le_of_ble_eq_true rfl) ?_
    refine aw_ifb_ne (tgt := 26) dX8_lots_21 rfl (fun hc21 => ?_) (fun hc21 => ?_)
    · refine aw_aload_n dX8_lots_26 rfl ?_
      refine aw_getI (kx := 6) fl_X8_207 dX8_lots_27 rfl rfl rfl ?_
      refine aw_if_ne (tgt := 36) dX8_lots_30 rfl (by omega) (fun hc30 => ?_) (fun hc30 => ?_)
      · refine aw_iload_n dX8_lots_36 rfl ?_
        refine aw_i2l (by omega) dX8_lots_37 ?_
        refine aw_lstore_3 dX8_lots_38 (by decide) rfl ?_
        refine aw_iconst dX8_lots_39 ?_
        refine aw_istore5 dX8_lots_40 (by decide) rfl ?_
        rw [S_lots, if_neg (by omega), if_neg (by omega)]
        exact lp_X8_lots1 (by omega) _ 0 seed g _ _ _ _ hs hy hd (by omega) (by omega) (by omega) (by omega)
      · refine aw_bipush (by decide) dX8_lots_33 ?_
        refine aw_iretQ dX8_lots_35 rfl ?_
        rw [S_lots, if_neg (by omega), if_pos (by omega)]; exact ⟨rfl, MEq.rf _⟩
    · refine aw_iconst dX8_lots_24 ?_
      refine aw_iretQ dX8_lots_25 rfl ?_
      rw [S_lots, if_pos (by omega)]; exact ⟨rfl, MEq.rf _⟩
