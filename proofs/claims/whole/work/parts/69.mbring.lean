def lkR (g : am_H) (r : Int) : Int × am_H := if g 0 6 = 0 then (-4, g) else if g 1 r < 0 then (-3, findF g 1) else if 8 < g 1 r then (-3, findF g 5) else (0, g)
theorem c_X8_lacksRow {g : am_H} {r : Int} (hs : MVs g) (hv : MVr g) (hr : 0 ≤ r ∧ r ≤ 5) : AMet GM mX8_lacksRow 2 [am_R 0, am_I r] g (am_FI (lkR g r).1 (lkR g r).2) := by
  have hnn := hs.1
  have hz := hv.1 r hr.1 hr.2
  refine am_start [some (am_R 0), some (am_I r)] rfl rfl (by decide) (Nat.le_of_ble_eq_true rfl) ?_
  refine aw_aload_n dX8_lacksRow_0 rfl ?_
  refine aw_getI (kx := 6) fl_X8_207 dX8_lacksRow_1 rfl rfl rfl ?_
  refine aw_if_ne (tgt := 10) dX8_lacksRow_4 rfl (by omega) (fun hc4 => ?_) (fun hc4 => ?_)
  · refine aw_aload_n dX8_lacksRow_10 rfl ?_
    refine aw_getR (kx := 0) fl_X8_7 dX8_lacksRow_11 rfl rfl rfl ?_
    refine aw_iload_n dX8_lacksRow_14 rfl ?_
    refine aw_iaload dX8_lacksRow_15 rfl (by decide) (by omega) ?_
    refine aw_if_ge (tgt := 25) dX8_lacksRow_16 rfl (by omega) (fun hc16 => ?_) (fun hc16 => ?_)
    · refine aw_aload_n dX8_lacksRow_25 rfl ?_
      refine aw_getR (kx := 0) fl_X8_7 dX8_lacksRow_26 rfl rfl rfl ?_
      refine aw_iload_n dX8_lacksRow_29 rfl ?_
      refine aw_iaload dX8_lacksRow_30 rfl (by decide) (by omega) ?_
      refine aw_bipush (by decide) dX8_lacksRow_31 ?_
      refine aw_icmp_le (tgt := 44) dX8_lacksRow_33 rfl (by omega) (by omega) (fun hc33 => ?_) (fun hc33 => ?_)
      · refine aw_iconst dX8_lacksRow_44 ?_
        refine aw_iretF dX8_lacksRow_45 rfl ?_
        rw [lkR, if_neg (by omega), if_neg (by omega), if_neg (by omega)]; exact ⟨rfl, rfl⟩
      · refine aw_aload_n dX8_lacksRow_36 rfl ?_
        refine aw_iconst dX8_lacksRow_37 ?_
        refine aw_cV1IF (c_X8_find (by omega)) lk_X8_143 dX8_lacksRow_38 (by decide) rfl rfl (fun _ => Nat.le_of_ble_eq_true rfl) ?_
        refine aw_goto (tgt := 45) dX8_lacksRow_41 rfl ?_
        refine aw_iretF dX8_lacksRow_45 rfl ?_
        rw [lkR, if_neg (by omega), if_neg (by omega), if_pos (by omega)]; exact ⟨rfl, rfl⟩
    · refine aw_aload_n dX8_lacksRow_19 rfl ?_
      refine aw_iconst dX8_lacksRow_20 ?_
      refine aw_cV1IF (c_X8_find (by omega)) lk_X8_143 dX8_lacksRow_21 (by decide) rfl rfl (fun _ => Nat.le_of_ble_eq_true rfl) ?_
      refine aw_iretF dX8_lacksRow_24 rfl ?_
      rw [lkR, if_neg (by omega), if_pos (by omega)]; exact ⟨rfl, rfl⟩
  · refine aw_bipush (by decide) dX8_lacksRow_7 ?_
    refine aw_iretF dX8_lacksRow_9 rfl ?_
    rw [lkR, if_pos (by omega)]; exact ⟨rfl, rfl⟩
/-- the node behind the first words of the row -/
def rwS (g : am_H) (k x : Int) : Int := if x < 0 then x else if (0 ≤ k ∧ k ≤ g 0 10 - 1) ∧ g 7 k = x then g 8 k else -9
def rwE (g : am_H) (r : Int) : Nat → Int
  | 0 => nowF g
  | i + 1 => rwS g (g 2 (40 * r + i)) (rwE g r i)
abbrev rwN (g : am_H) (r : Int) : Int := rwE g r (g 1 r).toNat
theorem rwE_rng {g : am_H} (hs : MVs g) (hy : MVy g) (h0 : ¬ g 0 6 = 0) (r : Int) : ∀ i : Nat, -9 ≤ rwE g r i ∧ rwE g r i < g 0 6
  | 0 => by
    have hnn := hs.1
    have := now_rng hs hy
    unfold rwE; omega
  | i + 1 => by
    have hnn := hs.1
    have ih := rwE_rng hs hy h0 r i
    unfold rwE rwS
    split
    · exact ih
    · split
      · rename_i h1 h2
        have := (hs.2.2.2.2.1 _ h2.1.1 (by omega)).1
        omega
      · omega
theorem rwE_neg {g : am_H} {r : Int} {i : Nat} (h : rwE g r i < 0) : ∀ j : Nat, rwE g r (i + j) = rwE g r i
  | 0 => rfl
  | j + 1 => by
    have ih := rwE_neg h j
    show rwS g _ (rwE g r (i + j)) = _
    rw [ih, rwS, if_pos h]
theorem rwE_ok {g : am_H} {r : Int} {i n : Nat} (hi : i < n) (h : 0 ≤ rwE g r n) : 0 ≤ rwE g r i ∧ (0 ≤ g 2 (40 * r + i) ∧ g 2 (40 * r + i) ≤ g 0 10 - 1) ∧ g 7 (g 2 (40 * r + i)) = rwE g r i ∧ rwE g r (i + 1) = g 8 (g 2 (40 * r + i)) := by
  have h1 : 0 ≤ rwE g r (i + 1) := by
    rcases Int.lt_or_le (rwE g r (i + 1)) 0 with q | q
    · have := rwE_neg q (n - (i + 1))
      rw [show i + 1 + (n - (i + 1)) = n by omega] at this
      omega
    · exact q
  have e : rwE g r (i + 1) = rwS g (g 2 (40 * r + i)) (rwE g r i) := rfl
  rw [e] at h1 ⊢
  unfold rwS at h1 ⊢
  split at h1
  · omega
  · rename_i h2
    rw [if_neg h2]
    split at h1
    · rename_i h3
      rw [if_pos h3]
      exact ⟨by omega, h3.1, h3.2, rfl⟩
    · omega
theorem lp_X8_endOf {g : am_H} {r : Int} (hs : MVs g) (hy : MVy g) (hv : MVr g) (hr : 0 ≤ r ∧ r ≤ 5) (h0 : ¬ g 0 6 = 0) : ∀ (m i : Nat) (x4 : Option am_V), (i : Int) ≤ g 1 r → g 1 r - i < m → AW GM mX8_endOf 3 (am_FI (rwN g r) g) 7 [some (am_R 0), some (am_I r), some (am_I (rwE g r i)), some (am_I i), x4] [] g := by
  have hnn := hs.1
  have hw := hs.2.1
  have hz := hv.1 r hr.1 hr.2
  intro m
  induction m with
  | zero => intro i x4 h1 h2; omega
  | succ m ih =>
    intro i x4 h1 h2
    have he := rwE_rng hs hy h0 r i
    have hk := hv.2 (40 * r + i)
    have hf := hs.2.2.2.2.1 (g 2 (40 * r + i))
    have e1 : rwE g r (i + 1) = rwS g (g 2 (40 * r + i)) (rwE g r i) := rfl
    have nxt : ∀ (v : Int) (y4 : Option am_V), (i : Int) < g 1 r → v = rwE g r (i + 1) → AW GM mX8_endOf 3 (am_FI (rwN g r) g) 7 [some (am_R 0), some (am_I r), some (am_I v), some (am_I (i + 1 : Nat)), y4] [] g := by
      intro v y4 hlt hv
      rw [hv]
      exact ih (i + 1) y4 (by omega) (by omega)
    refine aw_iload_n dX8_endOf_7 rfl ?_
    refine aw_aload_n dX8_endOf_8 rfl ?_
    refine aw_getR (kx := 0) fl_X8_7 dX8_endOf_9 rfl rfl rfl ?_
    refine aw_iload_n dX8_endOf_12 rfl ?_
    refine aw_iaload dX8_endOf_13 rfl (by decide) (by omega) ?_
    refine aw_icmp_ge (tgt := 73) dX8_endOf_14 rfl (by omega) (by omega) (fun hc14 => ?_) (fun hc14 => ?_)
    · refine aw_iload_n dX8_endOf_73 rfl ?_
      refine aw_iretF dX8_endOf_74 rfl ?_
      exact ⟨by rw [rwN, show (g 1 r).toNat = i by omega], rfl⟩
    · refine aw_iload_n dX8_endOf_17 rfl ?_
      refine aw_if_lt (tgt := 73) dX8_endOf_18 rfl (by omega) (fun hc18 => ?_) (fun hc18 => ?_)
      · refine aw_iload_n dX8_endOf_73 rfl ?_
        refine aw_iretF dX8_endOf_74 rfl ?_
        refine ⟨?_, rfl⟩
        have := rwE_neg hc18 ((g 1 r).toNat - i)
        rw [show i + ((g 1 r).toNat - i) = (g 1 r).toNat by omega] at this
        rw [rwN, this]
      · refine aw_aload_n dX8_endOf_21 rfl ?_
        refine aw_getR (kx := 1) fl_X8_13 dX8_endOf_22 rfl rfl rfl ?_
        refine aw_bipush (by decide) dX8_endOf_25 ?_
        refine aw_iload_n dX8_endOf_27 rfl ?_
        refine aw_imul dX8_endOf_28 ?_
        refine aw_iload_n dX8_endOf_29 rfl ?_
        refine aw_iadd dX8_endOf_30 ?_
        refine aw_iaload dX8_endOf_31 rfl (by decide) (by omega) ?_
        refine aw_istore4 dX8_endOf_32 (by decide) rfl ?_
        refine aw_aload_n dX8_endOf_34 rfl ?_
        refine aw_iload dX8_endOf_35 rfl ?_
        refine aw_cV1IF (c_X8_isWord hs (by omega)) lk_X8_237 dX8_endOf_37 (by decide) rfl rfl (fun _ => Nat.le_of_ble_eq_true rfl) ?_
        refine aw_ifb_eq (tgt := 64) dX8_endOf_40 rfl (fun hc40 => ?_) (fun hc40 => ?_)
        · refine aw_bipush (by decide) dX8_endOf_64 ?_
          refine aw_istore_2 dX8_endOf_66 (by decide) rfl ?_
          refine aw_iinc3 dX8_endOf_67 (by decide) rfl ?_
          refine aw_goto (tgt := 7) dX8_endOf_70 rfl ?_
          exact nxt _ _ (by omega) (by rw [e1, rwS, if_neg (by omega), if_neg (fun z => hc40 z.1)])
        · have hf2 := (hf hc40.1 (by omega)).1
          refine aw_aload_n dX8_endOf_43 rfl ?_
          refine aw_getR (kx := 7) fl_X8_28 dX8_endOf_44 rfl rfl rfl ?_
          refine aw_iload dX8_endOf_47 rfl ?_
          refine aw_iaload dX8_endOf_49 rfl (by decide) (by omega) ?_
          refine aw_iload_n dX8_endOf_50 rfl ?_
          refine aw_icmp_ne (tgt := 64) dX8_endOf_51 rfl (by omega) (by omega) (fun hc51 => ?_) (fun hc51 => ?_)
          · refine aw_bipush (by decide) dX8_endOf_64 ?_
            refine aw_istore_2 dX8_endOf_66 (by decide) rfl ?_
            refine aw_iinc3 dX8_endOf_67 (by decide) rfl ?_
            refine aw_goto (tgt := 7) dX8_endOf_70 rfl ?_
            exact nxt _ _ (by omega) (by rw [e1, rwS, if_neg (by omega), if_neg (by omega)])
          · refine aw_aload_n dX8_endOf_54 rfl ?_
            refine aw_getR (kx := 8) fl_X8_31 dX8_endOf_55 rfl rfl rfl ?_
            refine aw_iload dX8_endOf_58 rfl ?_
            refine aw_iaload dX8_endOf_60 rfl (by decide) (by omega) ?_
            refine aw_goto (tgt := 66) dX8_endOf_61 rfl ?_
            refine aw_istore_2 dX8_endOf_66 (by decide) rfl ?_
            refine aw_iinc3 dX8_endOf_67 (by decide) rfl ?_
            refine aw_goto (tgt := 7) dX8_endOf_70 rfl ?_
            exact nxt _ _ (by omega) (by rw [e1, rwS, if_neg (by omega), if_pos (by omega)])
theorem c_X8_endOf {g : am_H} {r : Int} (hs : MVs g) (hy : MVy g) (hv : MVr g) (hr : 0 ≤ r ∧ r ≤ 5) (h0 : ¬ g 0 6 = 0) (hz : 0 ≤ g 1 r) : AMet GM mX8_endOf 3 [am_R 0, am_I r] g (am_FI (rwN g r) g) := by
  have hz2 := hv.1 r hr.1 hr.2
  refine am_start [some (am_R 0), some (am_I r), none, none, none] rfl rfl (by decide) (Nat.le_of_ble_eq_true rfl) ?_
  refine aw_aload_n dX8_endOf_0 rfl ?_
  refine aw_cV0IF (c_X8_whereNow hs hy) lk_X8_274 dX8_endOf_1 (by decide) rfl rfl (fun _ => Nat.le_of_ble_eq_true rfl) ?_
  refine aw_istore_2 dX8_endOf_4 (by decide) rfl ?_
  refine aw_iconst dX8_endOf_5 ?_
  refine aw_istore_3 dX8_endOf_6 (by decide) rfl ?_
  exact lp_X8_endOf hs hy hv hr h0 41 0 _ (by omega) (by omega)
/-- a plan is nothing, or a deed that can begin -/
theorem plan_ok {g : am_H} (hs : MVs g) (b : Int) {x : Int} (h1 : 0 ≤ x) (h2 : x < g 0 6) (of : Int) : (plV g b x of).2 = -9 ∨ ((0 ≤ (plV g b x of).2 ∧ (plV g b x of).2 < g 0 15) ∧ cbg of (plV g b x of).2) := by
  have hnd := hs.2.2.1
  rw [plV_eq hs b h1 h2]
  unfold FP
  split
  · exact Or.inl rfl
  · have : ∀ (l : List Int) (s : Int × Int), s.2 = -9 → (∀ d ∈ l, 0 ≤ d ∧ d < g 0 15) → (l.foldr (plS g b (fun y o => (plV g b y o).1) x of) s).2 = -9 ∨ ((0 ≤ (l.foldr (plS g b (fun y o => (plV g b y o).1) x of) s).2 ∧ (l.foldr (plS g b (fun y o => (plV g b y o).1) x of) s).2 < g 0 15) ∧ cbg of (l.foldr (plS g b (fun y o => (plV g b y o).1) x of) s).2) := by
      intro l
      induction l with
      | nil => intro s h _; exact Or.inl h
      | cons d l ih =>
        intro s h hd
        have h3 := ih s h (fun e he => hd e (List.mem_cons_of_mem _ he))
        have h4 := hd d List.mem_cons_self
        simp only [List.foldr_cons]
        generalize l.foldr (plS g b (fun y o => (plV g b y o).1) x of) s = t at h3 ⊢
        unfold plS
        generalize bhV g b (fun y o => (plV g b y o).1) x (bgw (g 10 d) of d) = v
        split
        · rename_i hc
          dsimp only
          split
          · exact Or.inr ⟨h4, hc⟩
          · exact h3
        · exact h3
    refine this _ _ rfl (fun d hd => ?_)
    obtain ⟨a1, a2, a3⟩ := wl_mem.mp hd
    omega
def brS (g : am_H) (x of : Int) : Int := gon (g 5 x) (if (plV g 0 x of).2 < 0 then of else bgw (g 10 (plV g 0 x of).2) of (plV g 0 x of).2)
noncomputable def brF (g : am_H) (r : Int) : Nat → Int
  | 0 => g 0 19
  | i + 1 => brS g (rwE g r i) (brF g r i)
noncomputable def S_brings (g : am_H) (r : Int) : Int × am_H := if ¬ (0 ≤ r ∧ r ≤ 5) then (-1, g) else if (lkR g r).1 < 0 then lkR g r else if rwN g r < 0 ∨ ¬ dgF g (rwN g r) = 0 then (-3, findF g 3) else (1, am_set g 0 20 (gain g (rwN g r) (brF g r (g 1 r).toNat)))
theorem brS_vs {g : am_H} (hs : MVs g) {x of : Int} (h1 : 0 ≤ x) (h2 : x < g 0 6) (hof : VS of) : VS (brS g x of) := by
  have hnd := hs.2.2.1
  unfold brS
  apply vs_gon
  rcases plan_ok hs 0 h1 h2 of with q | ⟨q, c⟩
  · rw [if_pos (by omega)]; exact hof
  · rw [if_neg (by omega)]
    have := hs.2.2.2.2.2.2.2.1 _ q.1 q.2
    exact vs_bgw hof c ⟨by omega, by omega⟩ (by omega)
theorem lkR_0 {g : am_H} {r : Int} (h : ¬ (lkR g r).1 < 0) : ¬ g 0 6 = 0 ∧ 0 ≤ g 1 r ∧ g 1 r ≤ 8 ∧ (lkR g r).2 = g ∧ (lkR g r).1 = 0 := by
  unfold lkR at h ⊢
  split at h
  · exact absurd (show (-4 : Int) < 0 by omega) h
  · rename_i e1
    split at h
    · exact absurd (show (-3 : Int) < 0 by omega) h
    · rename_i e2
      split at h
      · exact absurd (show (-3 : Int) < 0 by omega) h
      · rename_i e3
        rw [if_neg e1, if_neg e2, if_neg e3]
        exact ⟨e1, by omega, by omega, rfl, rfl⟩
theorem lkR_rng (g : am_H) (r : Int) : -4 ≤ (lkR g r).1 ∧ (lkR g r).1 ≤ 0 := by
  unfold lkR
  split
  · dsimp only; omega
  · split
    · dsimp only; omega
    · split
      · dsimp only; omega
      · dsimp only; omega
theorem lp_X8_brings {g g' : am_H} {r x2 x3 : Int} (hs : MVs g) (hy : MVy g) (hv : MVr g) (hd : VS (g 0 19)) (hr : 0 ≤ r ∧ r ≤ 5) (h0 : ¬ g 0 6 = 0) (hz : 0 ≤ g 1 r ∧ g 1 r ≤ 8) (hen : 0 ≤ rwN g r) (hI : PlI g g' 0 (-1) 0) : ∀ (m i : Nat) (x7 : Option am_V), (i : Int) ≤ g 1 r → g 1 r - i < m → VS (brF g r i) → AW GM mX8_brings 7 (QM (1, am_set g 0 20 (gain g (rwN g r) (brF g r (g 1 r).toNat)))) 65 [some (am_R 0), some (am_I r), some (am_I x2), some (am_I x3), some (am_I (rwE g r i)), some (am_I (brF g r i)), some (am_I i), x7] [] g' := by
  have hnn := hs.1
  have hw := hs.2.1
  have hnd := hs.2.2.1
  have ha := hI.1
  have hvs := ha.vs hs
  have f0 := ha 0 (by decide) (by decide) (by decide)
  have f1 := ha 1 (by decide) (by decide) (by decide)
  have f2 := ha 2 (by decide) (by decide) (by decide)
  have f5 := ha 5 (by decide) (by decide) (by decide)
  have f8 := ha 8 (by decide) (by decide) (by decide)
  have f10 := ha 10 (by decide) (by decide) (by decide)
  have f1r : g' 1 r = g 1 r := by rw [f1]
  have f0n : g' 0 6 = g 0 6 := by rw [f0]
  intro m
  induction m with
  | zero => intro i x7 h1 h2; omega
  | succ m ih =>
    intro i x7 h1 h2 hst
    have hs1 := hst.1
    have hs2 := hst.2.1
    have hed := rwE_rng hs hy h0 r i
    have hok := fun h => rwE_ok (g := g) (r := r) (i := i) (n := (g 1 r).toNat) h hen
    have f2i : g' 2 (40 * r + i) = g 2 (40 * r + i) := by rw [f2]
    have hkd := fun h : 0 ≤ rwE g r i => (hs.2.2.2.1 (rwE g r i) h hed.2).1
    have f5i : g' 5 (rwE g r i) = g 5 (rwE g r i) := by rw [f5]
    have hpl := fun h : 0 ≤ rwE g r i => plan_ok hs 0 h hed.2 (brF g r i)
    have nxt : ∀ (v w : Int) (y7 : Option am_V), (i : Int) < g 1 r → v = rwE g r (i + 1) → w = brF g r (i + 1) → AW GM mX8_brings 7 (QM (1, am_set g 0 20 (gain g (rwN g r) (brF g r (g 1 r).toNat)))) 65 [some (am_R 0), some (am_I r), some (am_I x2), some (am_I x3), some (am_I v), some (am_I w), some (am_I (i + 1 : Nat)), y7] [] g' := by
      intro v w y7 hlt hv2 hw2
      rw [hv2, hw2]
      have h5 := hok (by omega)
      exact ih (i + 1) y7 (by omega) (by omega) (brS_vs hs h5.1 hed.2 hst)
    have ebr : brF g r (i + 1) = gon (g 5 (rwE g r i)) (if (plV g 0 (rwE g r i) (brF g r i)).2 < 0 then brF g r i else bgw (g 10 (plV g 0 (rwE g r i) (brF g r i)).2) (brF g r i) (plV g 0 (rwE g r i) (brF g r i)).2) := rfl
    by_cases hlt : (i : Int) < g 1 r
    · have h5 := hok (by omega)
      have h6 := hI.2.1 (rwE g r i) (by omega) hed.2 _ hst
      have h7 := hkd h5.1
      have h8 := hpl h5.1
      have hf2 := (hs.2.2.2.2.1 _ h5.2.1.1 (by omega)).1
      have vsb : ¬ (plV g 0 (rwE g r i) (brF g r i)).2 < 0 → VS (bgw (g 10 (plV g 0 (rwE g r i) (brF g r i)).2) (brF g r i) (plV g 0 (rwE g r i) (brF g r i)).2) := by
        intro hn
        rcases h8 with q | ⟨q, c⟩
        · omega
        · have := hs.2.2.2.2.2.2.2.1 _ q.1 q.2
          exact vs_bgw hst c ⟨by omega, by omega⟩ (by omega)
      have fto : g' 8 (g' 2 (40 * r + i)) = rwE g r (i + 1) := by rw [f8, f2i, h5.2.2.2]
      refine aw_iload dX8_brings_65 rfl ?_
      refine aw_aload_n dX8_brings_67 rfl ?_
      refine aw_getR (kx := 0) fl_X8_7 dX8_brings_68 rfl rfl rfl ?_
      refine aw_iload_n dX8_brings_71 rfl ?_
      refine aw_iaload dX8_brings_72 rfl (by decide) (by omega) ?_
      refine aw_icmp_ge (tgt := 143) dX8_brings_73 rfl (by omega) (by omega) (fun hc73 => ?_) (fun hc73 => ?_)
      · omega
      · refine aw_aload_n dX8_brings_76 rfl ?_
        refine aw_getR (kx := 44) fl_X8_109 dX8_brings_77 rfl rfl rfl ?_
        refine aw_sipush (by decide) dX8_brings_80 ?_
        refine aw_iload dX8_brings_83 rfl ?_
        refine aw_imul dX8_brings_85 ?_
        refine aw_iload dX8_brings_86 rfl ?_
        refine aw_iadd dX8_brings_88 ?_
        refine aw_iaload dX8_brings_89 rfl (by decide) (by omega) ?_
        refine aw_top h6.2.2 ?_
        refine aw_istore7 dX8_brings_90 (by decide) rfl ?_
        refine aw_aload_n dX8_brings_92 rfl ?_
        refine aw_iload dX8_brings_93 rfl ?_
        refine aw_iload dX8_brings_95 rfl ?_
        refine aw_if_ge (tgt := 105) dX8_brings_97 rfl (by omega) (fun hc97 => ?_) (fun hc97 => ?_)
        · refine aw_aload_n dX8_brings_105 rfl ?_
          refine aw_iload dX8_brings_106 rfl ?_
          refine aw_iload dX8_brings_108 rfl ?_
          refine aw_cV2IF (c_X8_begunWith (by omega)) lk_X8_284 dX8_brings_110 (by decide) rfl rfl (fun _ => Nat.le_of_ble_eq_true rfl) ?_
          rw [f10]
          have hvb := vsb (by omega)
          have hvb1 := hvb.1
          have hvb2 := hvb.2.1
          refine aw_cV2IF (c_X8_goneOn (by omega) (by omega) (by omega)) lk_X8_271 dX8_brings_113 (by decide) rfl rfl (fun _ => Nat.le_of_ble_eq_true rfl) ?_
          rw [f5]
          refine aw_istore5 dX8_brings_116 (by decide) rfl ?_
          refine aw_aload_n dX8_brings_118 rfl ?_
          refine aw_getR (kx := 8) fl_X8_31 dX8_brings_119 rfl rfl rfl ?_
          refine aw_aload_n dX8_brings_122 rfl ?_
          refine aw_getR (kx := 1) fl_X8_13 dX8_brings_123 rfl rfl rfl ?_
          refine aw_bipush (by decide) dX8_brings_126 ?_
          refine aw_iload_n dX8_brings_128 rfl ?_
          refine aw_imul dX8_brings_129 ?_
          refine aw_iload dX8_brings_130 rfl ?_
          refine aw_iadd dX8_brings_132 ?_
          refine aw_iaload dX8_brings_133 rfl (by decide) (by omega) ?_
          refine aw_iaload dX8_brings_134 rfl (by decide) (by omega) ?_
          refine aw_top fto ?_
          refine aw_istore4 dX8_brings_135 (by decide) rfl ?_
          refine aw_iinc6 dX8_brings_137 (by decide) rfl ?_
          refine aw_goto (tgt := 65) dX8_brings_140 rfl ?_
          exact nxt _ _ _ hlt rfl (by rw [ebr, if_neg (by omega)])
        · refine aw_iload dX8_brings_100 rfl ?_
          refine aw_goto (tgt := 113) dX8_brings_102 rfl ?_
          refine aw_cV2IF (c_X8_goneOn (by omega) (by omega) (by omega)) lk_X8_271 dX8_brings_113 (by decide) rfl rfl (fun _ => Nat.le_of_ble_eq_true rfl) ?_
          rw [f5]
          refine aw_istore5 dX8_brings_116 (by decide) rfl ?_
          refine aw_aload_n dX8_brings_118 rfl ?_
          refine aw_getR (kx := 8) fl_X8_31 dX8_brings_119 rfl rfl rfl ?_
          refine aw_aload_n dX8_brings_122 rfl ?_
          refine aw_getR (kx := 1) fl_X8_13 dX8_brings_123 rfl rfl rfl ?_
          refine aw_bipush (by decide) dX8_brings_126 ?_
          refine aw_iload_n dX8_brings_128 rfl ?_
          refine aw_imul dX8_brings_129 ?_
          refine aw_iload dX8_brings_130 rfl ?_
          refine aw_iadd dX8_brings_132 ?_
          refine aw_iaload dX8_brings_133 rfl (by decide) (by omega) ?_
          refine aw_iaload dX8_brings_134 rfl (by decide) (by omega) ?_
          refine aw_top fto ?_
          refine aw_istore4 dX8_brings_135 (by decide) rfl ?_
          refine aw_iinc6 dX8_brings_137 (by decide) rfl ?_
          refine aw_goto (tgt := 65) dX8_brings_140 rfl ?_
          exact nxt _ _ _ hlt rfl (by rw [ebr, if_pos (by omega)])
    · have en : (g 1 r).toNat = i := by omega
      have egn : ∀ x of : Int, gain g' x of = gain g x of := by intro x of; unfold gain; rw [f0, f5, ha 6 (by decide) (by decide) (by decide), ha 12 (by decide) (by decide) (by decide), ha 13 (by decide) (by decide) (by decide), ha 11 (by decide) (by decide) (by decide)]
      rw [rwN, en] at hen
      refine aw_iload dX8_brings_65 rfl ?_
      refine aw_aload_n dX8_brings_67 rfl ?_
      refine aw_getR (kx := 0) fl_X8_7 dX8_brings_68 rfl rfl rfl ?_
      refine aw_iload_n dX8_brings_71 rfl ?_
      refine aw_iaload dX8_brings_72 rfl (by decide) (by omega) ?_
      refine aw_icmp_ge (tgt := 143) dX8_brings_73 rfl (by omega) (by omega) (fun hc73 => ?_) (fun hc73 => ?_)
      · refine aw_aload_n dX8_brings_143 rfl ?_
        refine aw_iconst dX8_brings_144 ?_
        refine aw_aload_n dX8_brings_145 rfl ?_
        refine aw_iload dX8_brings_146 rfl ?_
        refine aw_iload dX8_brings_148 rfl ?_
        refine aw_cV2IF (c_X8_gainOf hvs (by omega)) lk_X8_290 dX8_brings_150 (by decide) rfl rfl (fun _ => Nat.le_of_ble_eq_true rfl) ?_
        refine aw_cV2IF (c_X8_answer) lk_X8_151 dX8_brings_153 (by decide) rfl rfl (fun _ => Nat.le_of_ble_eq_true rfl) ?_
        refine aw_iretQ dX8_brings_156 rfl ?_
        rw [egn, rwN, en]
        exact ⟨rfl, ha.me.set (by omega)⟩
      · omega
theorem c_X8_brings {g : am_H} {r : Int} (hs : MVs g) (hy : MVy g) (hv : MVr g) (hd : VS (g 0 19)) (hr : -2147483648 ≤ r ∧ r < 2147483648) : AMet GM mX8_brings 7 [am_R 0, am_I r] g (QM (S_brings g r)) := by
  have hnn := hs.1
  have hlr := lkR_rng g r
  have hd1 := hd.1
  have hd2 := hd.2.1
  refine am_start [some (am_R 0), some (am_I r), none, none, none, none, none, none] rfl rfl (by decide) (Nat.le_of_ble_eq_true rfl) ?_
  refine aw_iload_n dX8_brings_0 rfl ?_
  refine aw_cS1IF (c_X8_isRow (by omega)) lk_X8_139 dX8_brings_1 (by decide) (fun _ => Nat.le_of_ble_eq_true rfl) ?_
  refine aw_ifb_ne (tgt := 9) dX8_brings_4 rfl (fun hc4 => ?_) (fun hc4 => ?_)
  · refine aw_aload_n dX8_brings_9 rfl ?_
    refine aw_iload_n dX8_brings_10 rfl ?_
    refine aw_cV1IF (c_X8_lacksRow hs hv (by omega)) lk_X8_329 dX8_brings_11 (by decide) rfl rfl (fun _ => Nat.le_of_ble_eq_true rfl) ?_
    refine aw_istore_2 dX8_brings_14 (by decide) rfl ?_
    refine aw_iload_n dX8_brings_15 rfl ?_
    refine aw_if_ge (tgt := 21) dX8_brings_16 rfl (by omega) (fun hc16 => ?_) (fun hc16 => ?_)
    · obtain ⟨k0, k1, k2, k3, k4⟩ := lkR_0 (g := g) (r := r) (by omega)
      refine aw_heap k3 ?_
      have hed : -9 ≤ rwN g r ∧ rwN g r < g 0 6 := rwE_rng hs hy k0 r (g 1 r).toNat
      refine aw_aload_n dX8_brings_21 rfl ?_
      refine aw_iload_n dX8_brings_22 rfl ?_
      refine aw_cV1IF (c_X8_endOf hs hy hv (by omega) (by omega) (by omega)) lk_X8_332 dX8_brings_23 (by decide) rfl rfl (fun _ => Nat.le_of_ble_eq_true rfl) ?_
      refine aw_istore_3 dX8_brings_26 (by decide) rfl ?_
      refine aw_iload_n dX8_brings_27 rfl ?_
      refine aw_if_lt (tgt := 39) dX8_brings_28 rfl (by omega) (fun hc28 => ?_) (fun hc28 => ?_)
      · refine aw_aload_n dX8_brings_39 rfl ?_
        refine aw_iconst dX8_brings_40 ?_
        refine aw_cV1IF (c_X8_find (by omega)) lk_X8_143 dX8_brings_41 (by decide) rfl rfl (fun _ => Nat.le_of_ble_eq_true rfl) ?_
        refine aw_iretQ dX8_brings_44 rfl ?_
        rw [S_brings, if_neg (by omega), if_neg (by omega), if_pos (by omega)]; exact ⟨rfl, MEq.rf _⟩
      · refine aw_aload_n dX8_brings_31 rfl ?_
        refine aw_iload_n dX8_brings_32 rfl ?_
        refine aw_cV1IF (c_X8_isOver hs (by omega)) lk_X8_225 dX8_brings_33 (by decide) rfl rfl (fun _ => Nat.le_of_ble_eq_true rfl) ?_
        refine aw_ifb_ne (tgt := 45) dX8_brings_36 rfl (fun hc36 => ?_) (fun hc36 => ?_)
        · refine aw_aload_n dX8_brings_45 rfl ?_
          refine aw_iconst dX8_brings_46 ?_
          refine aw_cV1V (c_X8_findPlans (by omega) hs) lk_X8_325 dX8_brings_47 (by decide) rfl rfl (fun _ => Nat.le_of_ble_eq_true rfl) (fun h47 q47 => ?_)
          have e0 : h47 0 = g 0 := q47.1 0 (by decide) (by decide) (by decide)
          refine aw_aload_n dX8_brings_50 rfl ?_
          refine aw_cV0IF (c_X8_whereNow (q47.1.vs hs) (q47.1.vy hy)) lk_X8_274 dX8_brings_51 (by decide) rfl rfl (fun _ => Nat.le_of_ble_eq_true rfl) ?_
          rw [q47.1.now]
          refine aw_istore4 dX8_brings_54 (by decide) rfl ?_
          refine aw_aload_n dX8_brings_56 rfl ?_
          refine aw_getI (kx := 19) fl_X8_219 dX8_brings_57 rfl rfl rfl ?_
          rw [e0]
          refine aw_istore5 dX8_brings_60 (by decide) rfl ?_
          refine aw_iconst dX8_brings_62 ?_
          refine aw_istore6 dX8_brings_63 (by decide) rfl ?_
          rw [S_brings, if_neg (by omega), if_neg (by omega), if_neg (fun z => z.elim (fun q => absurd q (by omega)) (fun q => q hc36))]
          exact lp_X8_brings hs hy hv hd (by omega) k0 ⟨k1, k2⟩ (by omega) q47 9 0 _ (by omega) (by omega) hd
        · refine aw_aload_n dX8_brings_39 rfl ?_
          refine aw_iconst dX8_brings_40 ?_
          refine aw_cV1IF (c_X8_find (by omega)) lk_X8_143 dX8_brings_41 (by decide) rfl rfl (fun _ => Nat.le_of_ble_eq_true rfl) ?_
          refine aw_iretQ dX8_brings_44 rfl ?_
          rw [S_brings, if_neg (by omega), if_neg (by omega), if_pos (Or.inr hc36)]; exact ⟨rfl, MEq.rf _⟩
    · refine aw_iload_n dX8_brings_19 rfl ?_
      refine aw_iretQ dX8_brings_20 rfl ?_
      rw [S_brings, if_neg (by omega), if_pos (by omega)]; exact ⟨rfl, MEq.rf _⟩
  · refine aw_iconst dX8_brings_7 ?_
    refine aw_iretQ dX8_brings_8 rfl ?_
    rw [S_brings, if_pos (by omega)]; exact ⟨rfl, MEq.rf _⟩
