theorem lpN_pos {g : am_H} (hs : MVs g) : ∀ j : Nat, 0 < lpN g j ∧ lpN g j ≤ ((4 ^ j : Nat) : Int)
  | 0 => by unfold lpN; exact ⟨by decide, by decide⟩
  | j + 1 => by
    have ih := lpN_pos hs j
    have hd4 : dgF g (g 0 6 - (j + 1 : Nat)) ≤ 4 := hs.2.2.2.2.2.2.1 _
    have hd0 : 0 ≤ dgF g (g 0 6 - (j + 1 : Nat)) := (cntF_rng _ _ _).1
    have e4 : ((4 ^ (j + 1) : Nat) : Int) = 4 * ((4 ^ j : Nat) : Int) := by rw [Nat.pow_succ]; omega
    unfold lpN
    rw [e4]
    split
    · omega
    · rename_i hne
      generalize dgF g (g 0 6 - (j + 1 : Nat)) = d at hd4 hd0 hne
      have h1 : 0 < lpN g j * d := Int.mul_pos ih.1 (by omega)
      have h2 : lpN g j * d ≤ lpN g j * 4 := Int.mul_le_mul_of_nonneg_left hd4 (by omega)
      omega
theorem ltP_rng {g : am_H} (hs : MVs g) {x : Int} (hx : 0 ≤ x) : 0 < ltP g x ∧ ltP g x ≤ 262144 := by
  have hnn := hs.1
  have h := lpN_pos hs (g 0 6 - x).toNat
  have h2 : 4 ^ (g 0 6 - x).toNat ≤ 4 ^ 9 := Nat.pow_le_pow_right (by decide) (by omega)
  rw [show (4 : Nat) ^ 9 = 262144 from rfl] at h2
  unfold ltP
  omega
theorem lpN_dvd (g : am_H) (i : Nat) : ∀ j : Nat, lpN g i ∣ lpN g (i + j)
  | 0 => Int.dvd_refl _
  | j + 1 => by
    have ih := lpN_dvd g i j
    rw [← Nat.add_assoc, lpN]
    split
    · exact ih
    · exact Int.dvd_trans ih (Int.dvd_mul_right _ _)
theorem ltP_dvd {g : am_H} {x y : Int} (h : x ≤ y) : ltP g y ∣ ltP g x := by
  unfold ltP
  have := lpN_dvd g (g 0 6 - y).toNat ((g 0 6 - x).toNat - (g 0 6 - y).toNat)
  rw [show (g 0 6 - y).toNat + ((g 0 6 - x).toNat - (g 0 6 - y).toNat) = (g 0 6 - x).toNat by omega] at this
  exact this
/-- by how much a next node's chances weigh more -/
def wgt (g : am_H) (x y : Int) : Int := ltP g (x + 1) / ltP g y
theorem wgt_mul {g : am_H} {x y : Int} (h : x < y) : wgt g x y * ltP g y = ltP g (x + 1) := by
  unfold wgt
  exact Int.ediv_mul_cancel (ltP_dvd (by omega))
theorem wgt_rng {g : am_H} (hs : MVs g) {x y : Int} (hx : 0 ≤ x) (hy : 0 ≤ y) : 0 ≤ wgt g x y ∧ wgt g x y ≤ 262144 := by
  have h1 := ltP_rng hs (x := x + 1) (by omega)
  have h2 := ltP_rng hs hy
  unfold wgt
  refine ⟨Int.ediv_nonneg (by omega) (by omega), ?_⟩
  have := Int.ediv_le_self (a := ltP g (x + 1)) (ltP g y) (by omega)
  omega
theorem c_X2_weight {h g : am_H} {x y : Int} (hs : MVs g) (hO : OlR h g) (hx : 0 ≤ x ∧ x < g 0 6) (hy : 0 ≤ y ∧ y < g 0 6) : AMet GC mX2_weight 1 [am_R 41, am_I x, am_I y] h (am_FI (wgt g x y) h) := by
  have hnn := hs.1
  have e1 := hO.2 (x + 1) (by omega) (by omega)
  have e2 := hO.2 y (by omega) (by omega)
  have r1 := ltP_rng hs (x := x + 1) (by omega)
  have r2 := ltP_rng hs (x := y) (by omega)
  refine am_start [some (am_R 41), some (am_I x), some (am_I y), none] rfl rfl (by decide) (Nat.le_of_ble_eq_true rfl) ?_
  refine aw_aload_n dX2_weight_0 rfl ?_
  refine aw_getR (kx := 7) fl_X2_35 dX2_weight_1 rfl rfl rfl ?_
  refine aw_iload_n dX2_weight_4 rfl ?_
  refine aw_iaload dX2_weight_5 rfl (by decide) (by omega) ?_
  refine aw_istore_3 dX2_weight_6 (by decide) rfl ?_
  refine aw_iload_n dX2_weight_7 rfl ?_
  refine aw_if_ne (tgt := 15) dX2_weight_8 rfl (by omega) (fun hc8 => ?_) (fun hc8 => ?_)
  · refine aw_aload_n dX2_weight_15 rfl ?_
    refine aw_getR (kx := 7) fl_X2_35 dX2_weight_16 rfl rfl rfl ?_
    refine aw_iload_n dX2_weight_19 rfl ?_
    refine aw_iconst dX2_weight_20 ?_
    refine aw_iadd dX2_weight_21 ?_
    refine aw_iaload dX2_weight_22 rfl (by decide) (by omega) ?_
    refine aw_iload_n dX2_weight_23 rfl ?_
    refine aw_idiv (by omega) (by omega) dX2_weight_24 ?_
    refine aw_iretF dX2_weight_25 rfl ?_
    exact ⟨by rw [e1, e2, Int.tdiv_eq_ediv_of_nonneg (by omega)]; rfl, rfl⟩
  · omega
theorem find_foldr {p : Int → Prop} [DecidablePred p] : ∀ (L : List Int) (j : Nat) (w : Int), L[j]? = some w → (∀ i : Nat, i < j → ∀ v : Int, L[i]? = some v → ¬ p v) → p w → L.foldr (fun k s => if p k then k else s) (-9) = w
  | [], j, w, h, _, _ => by simp at h
  | a :: L, 0, w, h, _, hp => by
    have e : a = w := by simpa using h
    subst e
    simp only [List.foldr_cons]
    rw [if_pos hp]
  | a :: L, j + 1, w, h, hn, hp => by
    simp only [List.foldr_cons]
    rw [if_neg (hn 0 (by omega) a rfl)]
    exact find_foldr L j w (by simpa using h) (fun i hi v hv => hn (i + 1) (by omega) v (by simpa using hv)) hp
theorem find_none {p : Int → Prop} [DecidablePred p] : ∀ (L : List Int), (∀ v ∈ L, ¬ p v) → L.foldr (fun k s => if p k then k else s) (-9) = -9
  | [], _ => rfl
  | a :: L, h => by
    simp only [List.foldr_cons]
    rw [if_neg (h a List.mem_cons_self)]
    exact find_none L (fun v hv => h v (List.mem_cons_of_mem _ hv))
theorem lp_X2_firstWordFor {h g : am_H} {n x : Int} (hs : MVs g) (hR : SpR h g) (hO : OlR h g) (hx : 0 ≤ x ∧ x < g 0 6) (hl0 : 0 ≤ n - yrK (g 5 x) ∧ n - yrK (g 5 x) ≤ 8) : ∀ (m j : Nat) (x5 : Option am_V), (j : Int) ≤ dgF g x → dgF g x - j < m → (∀ i : Nat, i < j → ∀ v : Int, (wl (g 7) x (nwN g))[i]? = some v → ¬ 0 < jst g (g 8 v) (n - yrK (g 5 x))) → AW GC mX2_firstWordFor 2 (am_FI (jFr g x (n - yrK (g 5 x))) h) 21 [some (am_R 41), some (am_I n), some (am_I x), some (am_I (n - yrK (g 5 x))), some (am_I j), x5] [] h := by
  have hnn := hs.1
  have hw := hs.2.1
  have hk := (hR.2.1 x hx.1 hx.2).2.2
  have hd4 : dgF g x ≤ 4 := hs.2.2.2.2.2.2.1 x
  have hl := dg_len g x
  intro m
  induction m with
  | zero => intro j x5 h1 h2; omega
  | succ m ih =>
    intro j x5 h1 h2 hn
    by_cases hj : (j : Int) < dgF g x
    · obtain ⟨w, w1, w2, w3, w4⟩ := sp_at hs hR hx hj
      have hv := (hs.2.2.2.2.1 w w3.1 w3.2).1
      have ht : h 21 w = g 8 w := (hR.2.2.2.1 w w3.1 w3.2).2.1
      have ej := (hO.1 (g 8 w) (by omega) hv.2.2).2.2.2.2.2.1 (n - yrK (g 5 x)) hl0.1 hl0.2
      have hjr := jst_rng hs 9 (g 8 w) (by omega) hv.2.2 (by omega) (n - yrK (g 5 x))
      refine aw_iload dX2_firstWordFor_21 rfl ?_
      refine aw_aload_n dX2_firstWordFor_23 rfl ?_
      refine aw_getR (kx := 9) fl_X2_41 dX2_firstWordFor_24 rfl rfl rfl ?_
      refine aw_getR (kx := 5) fl_X2_65 dX2_firstWordFor_27 rfl rfl rfl ?_
      refine aw_iload_n dX2_firstWordFor_30 rfl ?_
      refine aw_iaload dX2_firstWordFor_31 rfl (by decide) (by omega) ?_
      refine aw_icmp_ge (tgt := 76) dX2_firstWordFor_32 rfl (by omega) (by omega) (fun hc32 => ?_) (fun hc32 => ?_)
      · omega
      · refine aw_aload_n dX2_firstWordFor_35 rfl ?_
        refine aw_getR (kx := 9) fl_X2_41 dX2_firstWordFor_36 rfl rfl rfl ?_
        refine aw_iload_n dX2_firstWordFor_39 rfl ?_
        refine aw_iload dX2_firstWordFor_40 rfl ?_
        refine aw_cV2IF (c_X5_wordAt (by omega)) lk_X2_87 dX2_firstWordFor_42 (by decide) rfl rfl (fun _ => Nat.le_of_ble_eq_true rfl) ?_
        refine aw_top w2 ?_
        refine aw_istore5 dX2_firstWordFor_45 (by decide) rfl ?_
        refine aw_aload_n dX2_firstWordFor_47 rfl ?_
        refine aw_getR (kx := 6) fl_X2_32 dX2_firstWordFor_48 rfl rfl rfl ?_
        refine aw_aload_n dX2_firstWordFor_51 rfl ?_
        refine aw_getR (kx := 9) fl_X2_41 dX2_firstWordFor_52 rfl rfl rfl ?_
        refine aw_getR (kx := 8) fl_X2_84 dX2_firstWordFor_55 rfl rfl rfl ?_
        refine aw_iload dX2_firstWordFor_58 rfl ?_
        refine aw_iaload dX2_firstWordFor_60 rfl (by decide) (by omega) ?_
        refine aw_top ht ?_
        first | refine aw_aaload4 dX2_firstWordFor_61 rfl (by decide) (by omega) ?_ | refine aw_aaload5 dX2_firstWordFor_61 rfl (by decide) (by omega) ?_ | refine aw_aaload6 dX2_firstWordFor_61 rfl (by decide) (by omega) ?_
        refine aw_iload_n dX2_firstWordFor_62 rfl ?_
        refine aw_iaload dX2_firstWordFor_63 (by exact kdY (by omega) (by omega)) (by decide) (by omega) ?_
        refine aw_top ej ?_
        refine aw_if_le (tgt := 70) dX2_firstWordFor_64 rfl (by omega) (fun hc64 => ?_) (fun hc64 => ?_)
        · refine aw_iinc4 dX2_firstWordFor_70 (by decide) rfl ?_
          refine aw_goto (tgt := 21) dX2_firstWordFor_73 rfl ?_
          refine ih (j + 1) _ (by omega) (by omega) (fun i hi v hv2 => ?_)
          by_cases e : i = j
          · subst e; rw [w1] at hv2; have := Option.some.inj hv2; subst this; omega
          · exact hn i (by omega) v hv2
        · refine aw_iload dX2_firstWordFor_67 rfl ?_
          refine aw_iretF dX2_firstWordFor_69 rfl ?_
          exact ⟨by rw [jFr, if_pos hl0.1, find_foldr (p := fun k => 0 < jst g (g 8 k) (n - yrK (g 5 x))) _ j w w1 hn (by omega)], rfl⟩
    · refine aw_iload dX2_firstWordFor_21 rfl ?_
      refine aw_aload_n dX2_firstWordFor_23 rfl ?_
      refine aw_getR (kx := 9) fl_X2_41 dX2_firstWordFor_24 rfl rfl rfl ?_
      refine aw_getR (kx := 5) fl_X2_65 dX2_firstWordFor_27 rfl rfl rfl ?_
      refine aw_iload_n dX2_firstWordFor_30 rfl ?_
      refine aw_iaload dX2_firstWordFor_31 rfl (by decide) (by omega) ?_
      refine aw_icmp_ge (tgt := 76) dX2_firstWordFor_32 rfl (by omega) (by omega) (fun hc32 => ?_) (fun hc32 => ?_)
      · refine aw_bipush (by decide) dX2_firstWordFor_76 ?_
        refine aw_iretF dX2_firstWordFor_78 rfl ?_
        refine ⟨?_, rfl⟩
        rw [jFr, if_pos hl0.1, find_none (p := fun k => 0 < jst g (g 8 k) (n - yrK (g 5 x)))]
        intro v hv
        obtain ⟨i, hi, e⟩ := List.getElem_of_mem hv
        exact hn i (by omega) v (by rw [List.getElem?_eq_getElem hi, e])
      · omega
theorem c_X2_firstWordFor {h g : am_H} {n x : Int} (hs : MVs g) (hR : SpR h g) (hO : OlR h g) (hx : 0 ≤ x ∧ x < g 0 6) (hn : 0 ≤ n ∧ n ≤ 8) : AMet GC mX2_firstWordFor 2 [am_R 41, am_I n, am_I x] h (am_FI (jFr g x (n - yrK (g 5 x))) h) := by
  have hyk := yrK_rng (g 5 x)
  have hd4 : dgF g x ≤ 4 := hs.2.2.2.2.2.2.1 x
  have hd0 : 0 ≤ dgF g x := (cntF_rng _ _ _).1
  refine am_start [some (am_R 41), some (am_I n), some (am_I x), none, none, none] rfl rfl (by decide) (Nat.le_of_ble_eq_true rfl) ?_
  refine aw_iload_n dX2_firstWordFor_0 rfl ?_
  refine aw_aload_n dX2_firstWordFor_1 rfl ?_
  refine aw_getR (kx := 9) fl_X2_41 dX2_firstWordFor_2 rfl rfl rfl ?_
  refine aw_iload_n dX2_firstWordFor_5 rfl ?_
  refine aw_cV1IF (c_X5_yearsOfWord hs hR hx) lk_X2_80 dX2_firstWordFor_6 (by decide) rfl rfl (fun _ => Nat.le_of_ble_eq_true rfl) ?_
  refine aw_isub dX2_firstWordFor_9 ?_
  refine aw_istore_3 dX2_firstWordFor_10 (by decide) rfl ?_
  refine aw_iload_n dX2_firstWordFor_11 rfl ?_
  refine aw_if_ge (tgt := 18) dX2_firstWordFor_12 rfl (by omega) (fun hc12 => ?_) (fun hc12 => ?_)
  · refine aw_iconst dX2_firstWordFor_18 ?_
    refine aw_istore4 dX2_firstWordFor_19 (by decide) rfl ?_
    exact lp_X2_firstWordFor hs hR hO hx (by omega) 5 0 _ (by omega) (by omega) (fun i hi => absurd hi (Nat.not_lt_zero i))
  · refine aw_bipush (by decide) dX2_firstWordFor_15 ?_
    refine aw_iretF dX2_firstWordFor_17 rfl ?_
    exact ⟨by rw [jFr, if_neg (by omega)], rfl⟩
theorem lp_X2_leftAtWorst {h g : am_H} {x t : Int} {j : Nat} {w : Int} (hs : MVs g) (hR : SpR h g) (hO : OlR h g) (hx : 0 ≤ x ∧ x < g 0 6) (hj : (j : Int) < dgF g x) (hw : (wl (g 7) x (nwN g))[j]? = some w) (hnd : ∀ (i : Nat) (v : Int), (wl (g 7) x (nwN g))[i]? = some v → (v = w ↔ i = j)) (ht : t = ((out g (g 8 w) % 64 : Nat) : Int)) : ∀ (m i : Nat) (s : Nat), (i : Int) ≤ dgF g x → dgF g x - i < m → s < 64 → s = ((wl (g 7) x (nwN g)).take i).foldl (fun s k => if k = w then s else s ||| out g (g 8 k) % 64) 0 → AW GC mX2_leftAtWorst 2 (am_FI (tlW (g 7) (g 8) (out g) (nwN g) x w) h) 29 [some (am_R 41), some (am_I x), some (am_I j), some (am_I t), some (am_I s), some (am_I i)] [] h := by
  have hnn := hs.1
  have hww := hs.2.1
  have hk := (hR.2.1 x hx.1 hx.2).2.2
  have hd4 : dgF g x ≤ 4 := hs.2.2.2.2.2.2.1 x
  have hl := dg_len g x
  have hm6 : out g (g 8 w) % 64 < 64 := Nat.mod_lt _ (by decide)
  intro m
  induction m with
  | zero => intro i s h1 h2; omega
  | succ m ih =>
    intro i s h1 h2 hlt hse
    by_cases hi : (i : Int) < dgF g x
    · obtain ⟨v, w1, w2, w3, w4⟩ := sp_at hs hR hx hi
      have hv := (hs.2.2.2.2.1 v w3.1 w3.2).1
      have htv : h 21 v = g 8 v := (hR.2.2.2.1 v w3.1 w3.2).2.1
      have e43 := (hO.1 (g 8 v) (by omega) hv.2.2).2.1
      have hm7 : out g (g 8 v) % 64 < 64 := Nat.mod_lt _ (by decide)
      have hq := hnd i v w1
      refine aw_iload dX2_leftAtWorst_29 rfl ?_
      refine aw_aload_n dX2_leftAtWorst_31 rfl ?_
      refine aw_getR (kx := 9) fl_X2_41 dX2_leftAtWorst_32 rfl rfl rfl ?_
      refine aw_getR (kx := 5) fl_X2_65 dX2_leftAtWorst_35 rfl rfl rfl ?_
      refine aw_iload_n dX2_leftAtWorst_38 rfl ?_
      refine aw_iaload dX2_leftAtWorst_39 rfl (by decide) (by omega) ?_
      refine aw_icmp_ge (tgt := 83) dX2_leftAtWorst_40 rfl (by omega) (by omega) (fun hc40 => ?_) (fun hc40 => ?_)
      · omega
      · refine aw_iload dX2_leftAtWorst_43 rfl ?_
        refine aw_iload_n dX2_leftAtWorst_45 rfl ?_
        refine aw_icmp_eq (tgt := 77) dX2_leftAtWorst_46 rfl (by omega) (by omega) (fun hc46 => ?_) (fun hc46 => ?_)
        · refine aw_iinc5 dX2_leftAtWorst_77 (by decide) rfl ?_
          refine aw_goto (tgt := 29) dX2_leftAtWorst_80 rfl ?_
          exact ih (i + 1) s (by omega) (by omega) hlt (by rw [tk_fold w1, ← hse, if_pos (hq.mpr (by omega))])
        · refine aw_iload dX2_leftAtWorst_49 rfl ?_
          refine aw_aload_n dX2_leftAtWorst_51 rfl ?_
          refine aw_getR (kx := 1) fl_X2_15 dX2_leftAtWorst_52 rfl rfl rfl ?_
          refine aw_aload_n dX2_leftAtWorst_55 rfl ?_
          refine aw_getR (kx := 9) fl_X2_41 dX2_leftAtWorst_56 rfl rfl rfl ?_
          refine aw_getR (kx := 8) fl_X2_84 dX2_leftAtWorst_59 rfl rfl rfl ?_
          refine aw_aload_n dX2_leftAtWorst_62 rfl ?_
          refine aw_getR (kx := 9) fl_X2_41 dX2_leftAtWorst_63 rfl rfl rfl ?_
          refine aw_iload_n dX2_leftAtWorst_66 rfl ?_
          refine aw_iload dX2_leftAtWorst_67 rfl ?_
          refine aw_cV2IF (c_X5_wordAt (by omega)) lk_X2_87 dX2_leftAtWorst_69 (by decide) rfl rfl (fun _ => Nat.le_of_ble_eq_true rfl) ?_
          refine aw_top w2 ?_
          refine aw_iaload dX2_leftAtWorst_72 rfl (by decide) (by omega) ?_
          refine aw_top htv ?_
          refine aw_iaload dX2_leftAtWorst_73 rfl (by decide) (by omega) ?_
          refine aw_top e43 ?_
          refine aw_ior dX2_leftAtWorst_74 ?_
          refine aw_top (bt_or (by omega) (by omega)) ?_
          refine aw_istore4 dX2_leftAtWorst_75 (by decide) rfl ?_
          refine aw_iinc5 dX2_leftAtWorst_77 (by decide) rfl ?_
          refine aw_goto (tgt := 29) dX2_leftAtWorst_80 rfl ?_
          exact ih (i + 1) (s ||| out g (g 8 v) % 64) (by omega) (by omega) (show _ < 2 ^ 6 from Nat.or_lt_two_pow hlt hm7) (by rw [tk_fold w1, ← hse, if_neg (fun z => by have := hq.mp z; omega)])
    · have e : s = tlO (g 7) (g 8) (out g) (nwN g) x w := by rw [tlO, ← tk_all (j := i) (by omega), ← hse]
      have p1 := pcN_le 16 s
      have p2 := pcN_le 16 (out g (g 8 w) % 64)
      refine aw_iload dX2_leftAtWorst_29 rfl ?_
      refine aw_aload_n dX2_leftAtWorst_31 rfl ?_
      refine aw_getR (kx := 9) fl_X2_41 dX2_leftAtWorst_32 rfl rfl rfl ?_
      refine aw_getR (kx := 5) fl_X2_65 dX2_leftAtWorst_35 rfl rfl rfl ?_
      refine aw_iload_n dX2_leftAtWorst_38 rfl ?_
      refine aw_iaload dX2_leftAtWorst_39 rfl (by decide) (by omega) ?_
      refine aw_icmp_ge (tgt := 83) dX2_leftAtWorst_40 rfl (by omega) (by omega) (fun hc40 => ?_) (fun hc40 => ?_)
      · refine aw_iload_n dX2_leftAtWorst_83 rfl ?_
        refine aw_cS1IF (c_J6_bitCount ht (by omega)) lk_X2_99 dX2_leftAtWorst_84 (by decide) (fun _ => Nat.le_of_ble_eq_true rfl) ?_
        refine aw_iload dX2_leftAtWorst_87 rfl ?_
        refine aw_cS1IF (c_J6_bitCount rfl (by omega)) lk_X2_99 dX2_leftAtWorst_89 (by decide) (fun _ => Nat.le_of_ble_eq_true rfl) ?_
        refine aw_cS2IF (c_J9_max (by omega) (by omega)) lk_X2_96 dX2_leftAtWorst_92 (by decide) (fun _ => Nat.le_of_ble_eq_true rfl) ?_
        refine aw_iretF dX2_leftAtWorst_95 rfl ?_
        refine ⟨?_, rfl⟩
        rw [tlW, ← e]
        split <;> split <;> omega
      · omega
theorem c_X2_leftAtWorst {h g : am_H} {x : Int} {j : Nat} {w : Int} (hs : MVs g) (hR : SpR h g) (hO : OlR h g) (hx : 0 ≤ x ∧ x < g 0 6) (hj : (j : Int) < dgF g x) (hw : (wl (g 7) x (nwN g))[j]? = some w) (hnd : ∀ (i : Nat) (v : Int), (wl (g 7) x (nwN g))[i]? = some v → (v = w ↔ i = j)) : AMet GC mX2_leftAtWorst 2 [am_R 41, am_I x, am_I j] h (am_FI (tlW (g 7) (g 8) (out g) (nwN g) x w) h) := by
  have hnn := hs.1
  have hww := hs.2.1
  have hd4 : dgF g x ≤ 4 := hs.2.2.2.2.2.2.1 x
  have hd0 : 0 ≤ dgF g x := (cntF_rng _ _ _).1
  obtain ⟨v, w1, w2, w3, w4⟩ := sp_at hs hR hx hj
  have ev : v = w := by rw [hw] at w1; exact (Option.some.inj w1).symm
  subst ev
  have hv := (hs.2.2.2.2.1 v w3.1 w3.2).1
  have htv : h 21 v = g 8 v := (hR.2.2.2.1 v w3.1 w3.2).2.1
  have e43 := (hO.1 (g 8 v) (by omega) hv.2.2).2.1
  refine am_start [some (am_R 41), some (am_I x), some (am_I j), none, none, none] rfl rfl (by decide) (Nat.le_of_ble_eq_true rfl) ?_
  refine aw_aload_n dX2_leftAtWorst_0 rfl ?_
  refine aw_getR (kx := 1) fl_X2_15 dX2_leftAtWorst_1 rfl rfl rfl ?_
  refine aw_aload_n dX2_leftAtWorst_4 rfl ?_
  refine aw_getR (kx := 9) fl_X2_41 dX2_leftAtWorst_5 rfl rfl rfl ?_
  refine aw_getR (kx := 8) fl_X2_84 dX2_leftAtWorst_8 rfl rfl rfl ?_
  refine aw_aload_n dX2_leftAtWorst_11 rfl ?_
  refine aw_getR (kx := 9) fl_X2_41 dX2_leftAtWorst_12 rfl rfl rfl ?_
  refine aw_iload_n dX2_leftAtWorst_15 rfl ?_
  refine aw_iload_n dX2_leftAtWorst_16 rfl ?_
  refine aw_cV2IF (c_X5_wordAt (by omega)) lk_X2_87 dX2_leftAtWorst_17 (by decide) rfl rfl (fun _ => Nat.le_of_ble_eq_true rfl) ?_
  refine aw_top w2 ?_
  refine aw_iaload dX2_leftAtWorst_20 rfl (by decide) (by omega) ?_
  refine aw_top htv ?_
  refine aw_iaload dX2_leftAtWorst_21 rfl (by decide) (by omega) ?_
  refine aw_istore_3 dX2_leftAtWorst_22 (by decide) rfl ?_
  refine aw_iconst dX2_leftAtWorst_23 ?_
  refine aw_istore4 dX2_leftAtWorst_24 (by decide) rfl ?_
  refine aw_iconst dX2_leftAtWorst_26 ?_
  refine aw_istore5 dX2_leftAtWorst_27 (by decide) rfl ?_
  exact lp_X2_leftAtWorst hs hR hO hx hj hw hnd e43 5 0 0 (by omega) (by omega) (by omega) rfl
