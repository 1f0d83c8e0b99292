theorem MVs.of {g g' : am_H} (hs : MVs g) (h0 : ∀ k : Int, k ≤ 25 → g' 0 k = g 0 k) (hc : ∀ c : Int, 5 ≤ c → c ≤ 13 → g' c = g c) : MVs g' := by
  unfold MVs
  rw [h0 6 (by decide), h0 10 (by decide), h0 15 (by decide), hc 5 (by decide) (by decide), hc 6 (by decide) (by decide), hc 7 (by decide) (by decide), hc 8 (by decide) (by decide), hc 9 (by decide) (by decide), hc 10 (by decide) (by decide), hc 11 (by decide) (by decide), hc 12 (by decide) (by decide), hc 13 (by decide) (by decide)]
  exact hs
theorem FoI.vs {g g' : am_H} {x : Int} (h : FoI g g' x) (hs : MVs g) : MVs g' := hs.of (fun k _ => by rw [h.1 0 (by decide) (by decide)]) (fun c a b => h.1 c (by omega) (by omega))
theorem lp_X8_fo1 {g : am_H} (hs : MVs g) : ∀ (m : Nat) (x : Int) (g' : am_H) (x2 x3 : Option am_V), x < g 0 6 → -1 ≤ x → x + 1 < m → FoI g g' x → AW GM mX8_findOutcomes 3 (am_QV (fun g' => FoI g g' (-1))) 7 [some (am_R 0), some (am_I x), x2, x3] [] g' := by
  intro m
  induction m with
  | zero => intro x g' x2 x3 h1 h2 h3; omega
  | succ m ih =>
    intro x g' x2 x3 h1 h2 h3 hI
    have hnn := hs.1
    have hvs := hI.vs hs
    have f5 := hI.1 5 (by decide) (by decide)
    have f6 := hI.1 6 (by decide) (by decide)
    have f7 := hI.1 7 (by decide) (by decide)
    have f0 := hI.1 0 (by decide) (by decide)
    have hk := hs.2.2.2.1 x
    have K : ∀ (g'' : am_H), FoI g g'' (x - 1) → 0 ≤ x → ∀ (x2' x3' : Int), AW GM mX8_findOutcomes 3 (am_QV (fun g' => FoI g g' (-1))) 155 [some (am_R 0), some (am_I x), some (am_I x2'), some (am_I x3')] [] g'' := by
      intro g'' hI2 hx0 x2' x3'
      refine aw_iinc1 dX8_findOutcomes_155 (by decide) rfl ?_
      refine aw_goto (tgt := 7) dX8_findOutcomes_158 rfl ?_
      exact ih (x - 1) g'' _ _ (by omega) (by omega) (by omega) hI2
    have fin2 : ∀ (g'' : am_H) (v w : Int), g'' = am_set (am_set g' 22 x v) 23 x w → 0 ≤ x → v = (if fin (g 5 x) then 1 else 0) → w = (outB (g 5) (g 6) (g 7) (nwN g) x : Nat) → ∀ x2' : Int, AW GM mX8_findOutcomes 3 (am_QV (fun g' => FoI g g' (-1))) 73 [some (am_R 0), some (am_I x), some (am_I x2'), some (am_I 0)] [] g'' := by
      intro g'' v w hg hx0 hv hw x2'
      refine lp_X8_fo2 hs ⟨hx0, h1⟩ (fun g3 hI3 x3' => K g3 hI3 hx0 x2' x3') 15 0 g'' (by have := hs.2.1; omega) (by have := hs.2.1; omega) ⟨fun c a b => ?_, fun y a b => ?_⟩ ?_ ?_
      · rw [hg, am_set_c b, am_set_c a]; exact hI.1 c a b
      · rw [hg, am_set_c (c := 23) (x := 22) (by decide), am_set_i (c := 22) (by omega), am_set_i (c := 23) (by omega), am_set_c (c := 22) (x := 23) (by decide)]
        exact hI.2 y a b
      · rw [hg, am_set_c (by decide), am_set_s, hv]; rfl
      · rw [hg, am_set_s, hw]; rfl
    refine aw_iload_n dX8_findOutcomes_7 rfl ?_
    refine aw_if_lt (tgt := 161) dX8_findOutcomes_8 rfl (by omega) (fun hc8 => ?_) (fun hc8 => ?_)
    · refine aw_vretQ dX8_findOutcomes_161 rfl ?_
      have e : x = -1 := by omega
      subst e; exact hI
    · have hk2 := hk (by omega) (by omega)
      have f5x : g' 5 x = g 5 x := by rw [f5]
      have f6x : g' 6 x = g 6 x := by rw [f6]
      refine aw_aload_n dX8_findOutcomes_11 rfl ?_
      refine aw_getR (kx := 4) fl_X8_22 dX8_findOutcomes_12 rfl rfl rfl ?_
      refine aw_iload_n dX8_findOutcomes_15 rfl ?_
      refine aw_iaload dX8_findOutcomes_16 rfl (by decide) (by omega) ?_
      refine aw_cS1IF (c_X8_isFinal (by omega)) lk_X8_169 dX8_findOutcomes_17 (by decide) (fun _ => Nat.le_of_ble_eq_true rfl) ?_
      rw [f5x]
      refine aw_istore_2 dX8_findOutcomes_20 (by decide) rfl ?_
      refine aw_aload_n dX8_findOutcomes_21 rfl ?_
      refine aw_getR (kx := 34) fl_X8_77 dX8_findOutcomes_22 rfl rfl rfl ?_
      refine aw_iload_n dX8_findOutcomes_25 rfl ?_
      refine aw_iload_n dX8_findOutcomes_26 rfl ?_
      refine aw_if_eq (tgt := 34) dX8_findOutcomes_27 rfl (by rcases @am_brng (fin (g 5 x)) _ with q | q <;> rw [q] <;> omega) (fun hc27 => ?_) (fun hc27 => ?_)
      · refine aw_iconst dX8_findOutcomes_34 ?_
        refine aw_iastore dX8_findOutcomes_35 rfl (by decide) (by omega) ?_
        have nf : ¬ fin (g 5 x) := am_b0.mp hc27
        refine aw_aload_n dX8_findOutcomes_36 rfl ?_
        refine aw_getR (kx := 35) fl_X8_80 dX8_findOutcomes_37 rfl rfl rfl ?_
        refine aw_iload_n dX8_findOutcomes_40 rfl ?_
        refine aw_iload_n dX8_findOutcomes_41 rfl ?_
        refine aw_if_eq (tgt := 56) dX8_findOutcomes_42 rfl (by rcases @am_brng (fin (g 5 x)) _ with q | q <;> rw [q] <;> omega) (fun hc42 => ?_) (fun hc42 => ?_)
        · refine aw_aload_n dX8_findOutcomes_56 rfl ?_
          refine aw_iload_n dX8_findOutcomes_57 rfl ?_
          refine aw_cV1IF (c_X8_isOver (hvs.of (fun k _ => by rw [am_set_c (by decide)]) (fun c a b => by rw [am_set_c (by omega)])) (by omega)) lk_X8_225 dX8_findOutcomes_58 (by decide) rfl rfl (fun _ => Nat.le_of_ble_eq_true rfl) ?_
          refine aw_ifb_eq (tgt := 69) dX8_findOutcomes_61 rfl (fun hc61 => ?_) (fun hc61 => ?_)
          · refine aw_iconst dX8_findOutcomes_69 ?_
            refine aw_iastore dX8_findOutcomes_70 rfl (by decide) (by omega) ?_
            refine aw_iconst dX8_findOutcomes_71 ?_
            refine aw_istore_3 dX8_findOutcomes_72 (by decide) rfl ?_
            exact fin2 _ _ _ rfl (by omega) (by rw [if_neg nf]) (by rw [outB, if_neg nf, if_neg (by have z := hc61; unfold dgF nwN at z; rw [am_set_c (by decide), am_set_c (by decide), f7, f0] at z; exact z)]; rfl) _
          · refine aw_bipush (by decide) dX8_findOutcomes_64 ?_
            refine aw_goto (tgt := 70) dX8_findOutcomes_66 rfl ?_
            refine aw_iastore dX8_findOutcomes_70 rfl (by decide) (by omega) ?_
            refine aw_iconst dX8_findOutcomes_71 ?_
            refine aw_istore_3 dX8_findOutcomes_72 (by decide) rfl ?_
            exact fin2 _ _ _ rfl (by omega) (by rw [if_neg nf]) (by rw [outB, if_neg nf, if_pos (by have z := hc61; unfold dgF nwN at z; rw [am_set_c (by decide), am_set_c (by decide), f7, f0] at z; exact z)]; rfl) _
        · exfalso; exact hc42 (am_b0.mpr nf)
      · refine aw_iconst dX8_findOutcomes_30 ?_
        refine aw_goto (tgt := 35) dX8_findOutcomes_31 rfl ?_
        refine aw_iastore dX8_findOutcomes_35 rfl (by decide) (by omega) ?_
        have nf : fin (g 5 x) := Classical.not_not.mp (fun z => hc27 (am_b0.mpr z))
        refine aw_aload_n dX8_findOutcomes_36 rfl ?_
        refine aw_getR (kx := 35) fl_X8_80 dX8_findOutcomes_37 rfl rfl rfl ?_
        refine aw_iload_n dX8_findOutcomes_40 rfl ?_
        refine aw_iload_n dX8_findOutcomes_41 rfl ?_
        refine aw_if_eq (tgt := 56) dX8_findOutcomes_42 rfl (by rcases @am_brng (fin (g 5 x)) _ with q | q <;> rw [q] <;> omega) (fun hc42 => ?_) (fun hc42 => ?_)
        · exfalso; exact (am_b0.mp hc42) nf
        · refine aw_iconst dX8_findOutcomes_45 ?_
          refine aw_aload_n dX8_findOutcomes_46 rfl ?_
          refine aw_getR (kx := 5) fl_X8_25 dX8_findOutcomes_47 rfl rfl rfl ?_
          refine aw_iload_n dX8_findOutcomes_50 rfl ?_
          refine aw_iaload dX8_findOutcomes_51 rfl (by decide) (by omega) ?_
          refine aw_ishl dX8_findOutcomes_52 ?_
          refine aw_goto (tgt := 70) dX8_findOutcomes_53 rfl ?_
          refine aw_iastore dX8_findOutcomes_70 rfl (by decide) (by omega) ?_
          refine aw_iconst dX8_findOutcomes_71 ?_
          refine aw_istore_3 dX8_findOutcomes_72 (by decide) rfl ?_
          refine fin2 _ _ _ rfl (by omega) (by rw [if_pos nf]) ?_ _
          rw [am_set_c (c := 22) (x := 6) (by decide), f6x, outB, if_pos nf]
          have e : g 6 x = ((g 6 x).toNat : Nat) := by omega
          have h2 := bt_shl1 (n := (g 6 x).toNat) (by omega)
          rw [← e] at h2
          exact h2
theorem c_X8_findOutcomes {g : am_H} (hs : MVs g) : AMet GM mX8_findOutcomes 3 [am_R 0] g (am_QV (fun g' => FoI g g' (-1))) := by
  have hnn := hs.1
  refine am_start [some (am_R 0), none, none, none] rfl rfl (by decide) (Nat.le_of_ble_eq_true rfl) ?_
  refine aw_aload_n dX8_findOutcomes_0 rfl ?_
  refine aw_getI (kx := 6) fl_X8_207 dX8_findOutcomes_1 rfl rfl rfl ?_
  refine aw_iconst dX8_findOutcomes_4 ?_
  refine aw_isub dX8_findOutcomes_5 ?_
  refine aw_istore_1 dX8_findOutcomes_6 (by decide) rfl ?_
  exact lp_X8_fo1 hs 11 _ g _ _ (by omega) (by omega) (by omega) ⟨fun c _ _ => rfl, fun y a b => by omega⟩
theorem FoI.me {g g' : am_H} {x : Int} (h : FoI g g' x) : MEq g' g := ⟨fun k _ => by rw [h.1 0 (by decide) (by decide)], fun c hc => h.1 c (by omega) (by omega)⟩
noncomputable def nodeV (g : am_H) (x w : Int) : Int := if w = 0 then g 5 x else if w = 1 then (wsN (g 7) x (nwN g) : Nat) else if w = 2 then sen g x else ((out g x % 64 : Nat) : Int)
theorem bt_and63 {a : Nat} (ha : a < 2147483648) : am_and a 63 = ((a % 64 : Nat) : Int) := by
  have := bt_and (a := a) (b := 63) ha
  rw [show ((63 : Nat) : Int) = 63 from rfl] at this
  rw [this, show (63 : Nat) = 2 ^ 6 - 1 from rfl, Nat.and_two_pow_sub_one_eq_mod]
theorem c_X8_nodeOf {g : am_H} {x w : Int} (hs : MVs g) (hx : 0 ≤ x ∧ x < g 0 6) (hw : 0 ≤ w ∧ w ≤ 3) : AMet GM mX8_nodeOf 4 [am_R 0, am_I x, am_I w] g (am_QI (fun v g' => v = nodeV g x w ∧ FoI g g' (-1))) := by
  have hnn := hs.1
  have hlt := out_lt hs 9 x hx.1 hx.2 (by omega)
  refine am_start [some (am_R 0), some (am_I x), some (am_I w)] rfl rfl (by decide) (Nat.le_of_ble_eq_true rfl) ?_
  refine aw_aload_n dX8_nodeOf_0 rfl ?_
  refine aw_cV0V (c_X8_findOutcomes hs) lk_X8_228 dX8_nodeOf_1 (by decide) rfl rfl (fun _ => Nat.le_of_ble_eq_true rfl) (fun h1 q1 => ?_)
  have hv := q1.2 x (by omega) (by omega)
  have hvs := q1.vs hs
  refine aw_iload_n dX8_nodeOf_4 rfl ?_
  refine aw_if_ne (tgt := 17) dX8_nodeOf_5 rfl (by omega) (fun hc5 => ?_) (fun hc5 => ?_)
  · refine aw_iload_n dX8_nodeOf_17 rfl ?_
    refine aw_iconst dX8_nodeOf_18 ?_
    refine aw_icmp_ne (tgt := 30) dX8_nodeOf_19 rfl (by omega) (by omega) (fun hc19 => ?_) (fun hc19 => ?_)
    · refine aw_iload_n dX8_nodeOf_30 rfl ?_
      refine aw_iconst dX8_nodeOf_31 ?_
      refine aw_icmp_ne (tgt := 44) dX8_nodeOf_32 rfl (by omega) (by omega) (fun hc32 => ?_) (fun hc32 => ?_)
      · refine aw_aload_n dX8_nodeOf_44 rfl ?_
        refine aw_getR (kx := 35) fl_X8_80 dX8_nodeOf_45 rfl rfl rfl ?_
        refine aw_iload_n dX8_nodeOf_48 rfl ?_
        refine aw_iaload dX8_nodeOf_49 rfl (by decide) (by omega) ?_
        refine aw_bipush (by decide) dX8_nodeOf_50 ?_
        refine aw_iand dX8_nodeOf_52 ?_
        refine aw_top (show am_and (h1 23 x) 63 = ((out g x % 64 : Nat) : Int) by rw [hv.2]; exact bt_and63 (by omega)) ?_
        refine aw_iretQ dX8_nodeOf_53 rfl ?_
        refine ⟨?_, q1⟩
        rw [nodeV, if_neg (by omega), if_neg (by omega), if_neg (by omega)]
      · refine aw_aload_n dX8_nodeOf_35 rfl ?_
        refine aw_getR (kx := 34) fl_X8_77 dX8_nodeOf_36 rfl rfl rfl ?_
        refine aw_iload_n dX8_nodeOf_39 rfl ?_
        refine aw_iaload dX8_nodeOf_40 rfl (by decide) (by omega) ?_
        refine aw_goto (tgt := 53) dX8_nodeOf_41 rfl ?_
        refine aw_iretQ dX8_nodeOf_53 rfl ?_
        refine ⟨?_, q1⟩
        rw [nodeV, if_neg (by omega), if_neg (by omega), if_pos (by omega), hv.1]
    · refine aw_aload_n dX8_nodeOf_22 rfl ?_
      refine aw_iload_n dX8_nodeOf_23 rfl ?_
      refine aw_cV1IF (c_X8_wordsFrom hvs (by omega)) lk_X8_222 dX8_nodeOf_24 (by decide) rfl rfl (fun _ => Nat.le_of_ble_eq_true rfl) ?_
      refine aw_goto (tgt := 53) dX8_nodeOf_27 rfl ?_
      refine aw_iretQ dX8_nodeOf_53 rfl ?_
      refine ⟨?_, q1⟩
      rw [nodeV, if_neg (by omega), if_pos (by omega), q1.1 7 (by decide) (by decide), nwN, q1.1 0 (by decide) (by decide)]
  · refine aw_aload_n dX8_nodeOf_8 rfl ?_
    refine aw_getR (kx := 4) fl_X8_22 dX8_nodeOf_9 rfl rfl rfl ?_
    refine aw_iload_n dX8_nodeOf_12 rfl ?_
    refine aw_iaload dX8_nodeOf_13 rfl (by decide) (by omega) ?_
    refine aw_goto (tgt := 53) dX8_nodeOf_14 rfl ?_
    refine aw_iretQ dX8_nodeOf_53 rfl ?_
    refine ⟨?_, q1⟩
    rw [nodeV, if_pos (by omega), q1.1 5 (by decide) (by decide)]
noncomputable def S_node (g : am_H) (x w : Int) : Int × am_H := if 0 ≤ x ∧ x ≤ g 0 6 - 1 ∧ 0 ≤ w ∧ w ≤ 3 then (1, am_set g 0 20 (nodeV g x w)) else (-1, g)
theorem c_X8_node {g : am_H} {x w : Int} (hs : MVs g) (hx : -2147483648 ≤ x ∧ x < 2147483648) (hw : -2147483648 ≤ w ∧ w < 2147483648) : AMet GM mX8_node 7 [am_R 0, am_I x, am_I w] g (QM (S_node g x w)) := by
  refine am_start [some (am_R 0), some (am_I x), some (am_I w)] rfl rfl (by decide) (Nat.le_of_ble_eq_true rfl) ?_
  refine aw_aload_n dX8_node_0 rfl ?_
  refine aw_iload_n dX8_node_1 rfl ?_
  refine aw_cV1IF (c_X8_isNode hs (by omega)) lk_X8_231 dX8_node_2 (by decide) rfl rfl (fun _ => Nat.le_of_ble_eq_true rfl) ?_
  refine aw_ifb_eq (tgt := 20) dX8_node_5 rfl (fun hc5 => ?_) (fun hc5 => ?_)
  · refine aw_iconst dX8_node_20 ?_
    refine aw_iretQ dX8_node_21 rfl ?_
    rw [S_node, if_neg (by omega)]; exact ⟨rfl, MEq.rf _⟩
  · refine aw_iload_n dX8_node_8 rfl ?_
    refine aw_i2l (by omega) dX8_node_9 ?_
    refine aw_lconst (v := 0) dX8_node_10 rfl ?_
    refine aw_ldc2 (n := 3) kj_X8_137 rfl dX8_node_11 ?_
    refine aw_cS3IF (c_X8_in (by omega) (by omega) (by omega)) lk_X8_133 dX8_node_14 (by decide) (fun _ => Nat.le_of_ble_eq_true rfl) ?_
    refine aw_ifb_ne (tgt := 22) dX8_node_17 rfl (fun hc17 => ?_) (fun hc17 => ?_)
    · refine aw_aload_n dX8_node_22 rfl ?_
      refine aw_iconst dX8_node_23 ?_
      refine aw_aload_n dX8_node_24 rfl ?_
      refine aw_iload_n dX8_node_25 rfl ?_
      refine aw_iload_n dX8_node_26 rfl ?_
      refine aw_cV2I (c_X8_nodeOf hs (by omega) (by omega)) lk_X8_234 dX8_node_27 (by decide) rfl rfl (fun _ => Nat.le_of_ble_eq_true rfl) (fun v27 h27 q27 => ?_)
      obtain ⟨rfl, hI⟩ := q27
      refine aw_cV2IF (c_X8_answer) lk_X8_151 dX8_node_30 (by decide) rfl rfl (fun _ => Nat.le_of_ble_eq_true rfl) ?_
      refine aw_iretQ dX8_node_33 rfl ?_
      rw [S_node, if_pos (by omega)]; exact ⟨rfl, hI.me.set (by omega)⟩
    · refine aw_iconst dX8_node_20 ?_
      refine aw_iretQ dX8_node_21 rfl ?_
      rw [S_node, if_neg (by omega)]; exact ⟨rfl, MEq.rf _⟩
def wordV (g : am_H) (k w : Int) : Int := if w = 0 then g 7 k else if w = 1 then g 8 k else g 9 k
theorem c_X8_wordOf {g : am_H} {k w : Int} (hk : 0 ≤ k ∧ k < 14) (hw : 0 ≤ w ∧ w ≤ 2) : AMet GM mX8_wordOf 1 [am_R 0, am_I k, am_I w] g (am_FI (wordV g k w) g) := by
  refine am_start [some (am_R 0), some (am_I k), some (am_I w)] rfl rfl (by decide) (Nat.le_of_ble_eq_true rfl) ?_
  refine aw_iload_n dX8_wordOf_0 rfl ?_
  refine aw_if_ne (tgt := 13) dX8_wordOf_1 rfl (by omega) (fun hc1 => ?_) (fun hc1 => ?_)
  · refine aw_iload_n dX8_wordOf_13 rfl ?_
    refine aw_iconst dX8_wordOf_14 ?_
    refine aw_icmp_ne (tgt := 27) dX8_wordOf_15 rfl (by omega) (by omega) (fun hc15 => ?_) (fun hc15 => ?_)
    · refine aw_aload_n dX8_wordOf_27 rfl ?_
      refine aw_getR (kx := 9) fl_X8_34 dX8_wordOf_28 rfl rfl rfl ?_
      refine aw_iload_n dX8_wordOf_31 rfl ?_
      refine aw_iaload dX8_wordOf_32 rfl (by decide) (by omega) ?_
      refine aw_iretF dX8_wordOf_33 rfl ?_
      exact ⟨by rw [wordV, if_neg (by omega), if_neg (by omega)], rfl⟩
    · refine aw_aload_n dX8_wordOf_18 rfl ?_
      refine aw_getR (kx := 8) fl_X8_31 dX8_wordOf_19 rfl rfl rfl ?_
      refine aw_iload_n dX8_wordOf_22 rfl ?_
      refine aw_iaload dX8_wordOf_23 rfl (by decide) (by omega) ?_
      refine aw_goto (tgt := 33) dX8_wordOf_24 rfl ?_
      refine aw_iretF dX8_wordOf_33 rfl ?_
      exact ⟨by rw [wordV, if_neg (by omega), if_pos (by omega)], rfl⟩
  · refine aw_aload_n dX8_wordOf_4 rfl ?_
    refine aw_getR (kx := 7) fl_X8_28 dX8_wordOf_5 rfl rfl rfl ?_
    refine aw_iload_n dX8_wordOf_8 rfl ?_
    refine aw_iaload dX8_wordOf_9 rfl (by decide) (by omega) ?_
    refine aw_goto (tgt := 33) dX8_wordOf_10 rfl ?_
    refine aw_iretF dX8_wordOf_33 rfl ?_
    exact ⟨by rw [wordV, if_pos (by omega)], rfl⟩
def S_word (g : am_H) (k w : Int) : Int × am_H := if 0 ≤ k ∧ k ≤ g 0 10 - 1 ∧ 0 ≤ w ∧ w ≤ 2 then (1, am_set g 0 20 (wordV g k w)) else (-1, g)
theorem c_X8_word {g : am_H} {x w : Int} (hs : MVs g) (hx : -2147483648 ≤ x ∧ x < 2147483648) (hw : -2147483648 ≤ w ∧ w < 2147483648) : AMet GM mX8_word 3 [am_R 0, am_I x, am_I w] g (QM (S_word g x w)) := by
  have h2 := hs.2.1
  refine am_start [some (am_R 0), some (am_I x), some (am_I w)] rfl rfl (by decide) (Nat.le_of_ble_eq_true rfl) ?_
  refine aw_aload_n dX8_word_0 rfl ?_
  refine aw_iload_n dX8_word_1 rfl ?_
  refine aw_cV1IF (c_X8_isWord hs (by omega)) lk_X8_237 dX8_word_2 (by decide) rfl rfl (fun _ => Nat.le_of_ble_eq_true rfl) ?_
  refine aw_ifb_eq (tgt := 20) dX8_word_5 rfl (fun hc5 => ?_) (fun hc5 => ?_)
  · refine aw_iconst dX8_word_20 ?_
    refine aw_iretQ dX8_word_21 rfl ?_
    rw [S_word, if_neg (by omega)]; exact ⟨rfl, MEq.rf _⟩
  · refine aw_iload_n dX8_word_8 rfl ?_
    refine aw_i2l (by omega) dX8_word_9 ?_
    refine aw_lconst (v := 0) dX8_word_10 rfl ?_
    refine aw_ldc2 (n := 2) kj_X8_240 rfl dX8_word_11 ?_
    refine aw_cS3IF (c_X8_in (by omega) (by omega) (by omega)) lk_X8_133 dX8_word_14 (by decide) (fun _ => Nat.le_of_ble_eq_true rfl) ?_
    refine aw_ifb_ne (tgt := 22) dX8_word_17 rfl (fun hc17 => ?_) (fun hc17 => ?_)
    · refine aw_aload_n dX8_word_22 rfl ?_
      refine aw_iconst dX8_word_23 ?_
      refine aw_aload_n dX8_word_24 rfl ?_
      refine aw_iload_n dX8_word_25 rfl ?_
      refine aw_iload_n dX8_word_26 rfl ?_
      refine aw_cV2IF (c_X8_wordOf (by omega) (by omega)) lk_X8_242 dX8_word_27 (by decide) rfl rfl (fun _ => Nat.le_of_ble_eq_true rfl) ?_
      refine aw_cV2IF (c_X8_answer) lk_X8_151 dX8_word_30 (by decide) rfl rfl (fun _ => Nat.le_of_ble_eq_true rfl) ?_
      refine aw_iretQ dX8_word_33 rfl ?_
      rw [S_word, if_pos (by omega)]; exact ⟨rfl, MEq.rf _⟩
    · refine aw_iconst dX8_word_20 ?_
      refine aw_iretQ dX8_word_21 rfl ?_
      rw [S_word, if_neg (by omega)]; exact ⟨rfl, MEq.rf _⟩
