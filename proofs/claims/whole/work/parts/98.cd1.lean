abbrev QC (S : Int × am_H) : Option am_V → am_H → Prop := am_QI (fun v h' => v = S.1 ∧ CRel h' S.2)
theorem qc_mk {v X : Int} {h' g' : am_H} (e : v = X) (c : CRel h' g') : v = (X, g').1 ∧ CRel h' (X, g').2 := ⟨e, c⟩
theorem CRel.asked {h g : am_H} {v : Int} (hC : CRel h g) (hs : MVs g) : CRel (am_set h 0 13 v) (am_set g 0 20 v) := by
  refine ⟨hC.r.cong (fun c a b => am_set_c (by omega)) (am_set_c (by decide)) (am_set_c (by decide)), hC.t.cong (fun c a b => am_set_c (by omega)) (am_set_c (by decide)) (am_set_c (by decide)), hC.s.cong hs (fun c a b => am_set_c (by omega)) (fun c a b => am_set_c (by omega)) ⟨fun c a b => am_set_c (by omega), am_set_i (by decide), am_set_i (by decide), am_set_i (by decide)⟩, hC.y.cong (fun c a b => am_set_c (by omega)) (am_set_i (by decide)) (am_set_i (by decide)) (am_set_c (by decide)) (am_set_c (by decide)), hC.k.cong (fun c a b => am_set_c (by omega)) (am_set_c (by decide)) (am_set_c (by decide)), ?_, hC.p.cong (by rw [am_set_c (by decide)]) (am_set_c (by decide)) ⟨fun c a b => am_set_c (by omega), am_set_i (by decide), am_set_i (by decide), am_set_i (by decide)⟩⟩
  obtain ⟨⟨f1, f2, f3, f4⟩, f5⟩ := hC.f
  refine ⟨⟨by rw [am_set_s, am_set_s], by rw [am_set_i (by decide), am_set_i (by decide)]; exact f2, by rw [am_set_i (by decide), am_set_i (by decide)]; exact f3, by rw [am_set_i (by decide), am_set_i (by decide)]; exact f4⟩, fun f a b => ?_⟩
  rw [am_set_c (by decide), am_set_c (by decide)]; exact f5 f a b
theorem CRel.found {h g : am_H} {f : Int} (hC : CRel h g) (hs : MVs g) (hf : 1 ≤ f ∧ f ≤ 5) : CRel (cfoF h f) (findF g f) := by
  have hh : ∀ c : Int, ¬ c = 0 → ¬ c = 81 → cfoF h f c = h c := fun c a b => by unfold cfoF; rw [am_set_c b, am_set_c a]
  have hg : ∀ c : Int, ¬ c = 0 → ¬ c = 16 → findF g f c = g c := fun c a b => by unfold findF; rw [am_set_c b, am_set_c a]
  have hg0 : ∀ k : Int, ¬ k = 23 → findF g f 0 k = g 0 k := fun k a => by unfold findF; rw [am_set_c (by decide), am_set_i a]
  have he : SpE (findF g f) g := ⟨fun c a b => hg c (by omega) (by omega), hg0 _ (by decide), hg0 _ (by decide), hg0 _ (by decide)⟩
  refine ⟨hC.r.cong (fun c a b => hh c (by omega) (by omega)) (hg _ (by decide) (by decide)) (hg _ (by decide) (by decide)), hC.t.cong (fun c a b => hh c (by omega) (by omega)) (hg _ (by decide) (by decide)) (hg _ (by decide) (by decide)), hC.s.cong hs (fun c a b => hh c (by omega) (by omega)) (fun c a b => hh c (by omega) (by omega)) he, hC.y.cong (fun c a b => hh c (by omega) (by omega)) (hg0 _ (by decide)) (hg0 _ (by decide)) (hg _ (by decide) (by decide)) (hg _ (by decide) (by decide)), hC.k.cong (fun c a b => hh c (by omega) (by omega)) (hg _ (by decide) (by decide)) (hg _ (by decide) (by decide)), ?_, hC.p.cong (by rw [hh 60 (by decide) (by decide)]) (hh _ (by decide) (by decide)) he⟩
  obtain ⟨⟨f1, f2, f3, f4⟩, f5⟩ := hC.f
  have hh0 : ∀ k : Int, ¬ k = 16 → cfoF h f 0 k = h 0 k := fun k a => by unfold cfoF; rw [am_set_c (by decide), am_set_i a]
  refine ⟨⟨by rw [hh0 _ (by decide), hg0 _ (by decide)]; exact f1, by rw [hh0 _ (by decide), hg0 _ (by decide)]; exact f2, by rw [hh0 _ (by decide), hg0 _ (by decide)]; exact f3, ?_⟩, fun i a b => ?_⟩
  · unfold cfoF findF; rw [am_set_c (c := 81) (x := 0) (by decide), am_set_c (c := 16) (x := 0) (by decide), am_set_s, am_set_s]
  · unfold cfoF findF
    rw [f5 f hf.1 hf.2]
    by_cases e : i = f
    · rw [e, am_set_s, am_set_s]
    · rw [am_set_i e, am_set_i e, am_set_c (by decide), am_set_c (by decide)]; exact f5 i a b
theorem CRel.hz {h g : am_H} (hC : CRel h g) (hV : MOK g) : ∀ r : Int, 0 ≤ r → r ≤ 5 → -1 ≤ h 8 r ∧ h 8 r ≤ 40 := fun r a b => by rw [hC.r.2 r a b]; exact hV.r.1 r a b
theorem CRel.tz {h g : am_H} (hC : CRel h g) (hV : MOK g) : ∀ r : Int, 0 ≤ r → r ≤ 3 → -1 ≤ h 14 r ∧ h 14 r ≤ 80 := fun r a b => by rw [hC.t.2 r a b]; exact hV.t.1 r a b
theorem CRel.nn {h g : am_H} (hC : CRel h g) : h 15 0 = g 0 6 ∧ h 15 1 = g 0 10 ∧ h 15 2 = g 0 15 := hC.s.1.1
def rrS (g : am_H) (r : Int) : Int × am_H := if ¬ (0 ≤ r ∧ r ≤ 5) then (-1, g) else if g 1 r < 0 then (-3, findF g 1) else (0, g)
def trS (g : am_H) (r : Int) : Int × am_H := if ¬ (0 ≤ r ∧ r ≤ 3) then (-1, g) else if g 3 r < 0 then (-3, findF g 1) else (0, g)
theorem rrS_0 {g : am_H} {r : Int} (h : (rrS g r).1 = 0) : (0 ≤ r ∧ r ≤ 5) ∧ 0 ≤ g 1 r ∧ (rrS g r).2 = g := by
  unfold rrS at h ⊢
  by_cases e : ¬ (0 ≤ r ∧ r ≤ 5)
  · rw [if_pos e] at h; exact absurd h (by show ¬ (-1 : Int) = 0; decide)
  · rw [if_neg e] at h ⊢
    by_cases e2 : g 1 r < 0
    · rw [if_pos e2] at h; exact absurd h (by show ¬ (-3 : Int) = 0; decide)
    · rw [if_neg e2]; exact ⟨by omega, by omega, rfl⟩
theorem rrS_rng (g : am_H) (r : Int) : -3 ≤ (rrS g r).1 ∧ (rrS g r).1 ≤ 0 := by
  unfold rrS; repeat' split
  all_goals (dsimp only; omega)
theorem trS_0 {g : am_H} {r : Int} (h : (trS g r).1 = 0) : (0 ≤ r ∧ r ≤ 3) ∧ 0 ≤ g 3 r ∧ (trS g r).2 = g := by
  unfold trS at h ⊢
  by_cases e : ¬ (0 ≤ r ∧ r ≤ 3)
  · rw [if_pos e] at h; exact absurd h (by show ¬ (-1 : Int) = 0; decide)
  · rw [if_neg e] at h ⊢
    by_cases e2 : g 3 r < 0
    · rw [if_pos e2] at h; exact absurd h (by show ¬ (-3 : Int) = 0; decide)
    · rw [if_neg e2]; exact ⟨by omega, by omega, rfl⟩
theorem trS_rng (g : am_H) (r : Int) : -3 ≤ (trS g r).1 ∧ (trS g r).1 ≤ 0 := by
  unfold trS; repeat' split
  all_goals (dsimp only; omega)
theorem c_X7_rowRefusalC {h g : am_H} {r : Int} (hC : CRel h g) (hV : MOK g) (hr : -2147483648 ≤ r ∧ r < 2147483648) : AMet GC mX7_rowRefusal 2 [am_R 0, am_I r] h (QC (rrS g r)) := by
  have hz2 := hC.hz hV r
  have hz4 := hC.r.2 r
  refine am_start [some (am_R 0), some (am_I r)] rfl rfl (by decide) (Nat.le_of_ble_eq_true rfl) ?_
  refine aw_iload_n dX7_rowRefusal_0 rfl ?_
  refine aw_cS1IF (c_X7_isNoRow (by omega)) lk_X7_96 dX7_rowRefusal_1 (by decide) (fun _ => Nat.le_of_ble_eq_true rfl) ?_
  refine aw_ifb_eq (tgt := 9) dX7_rowRefusal_4 rfl (fun hc4 => ?_) (fun hc4 => ?_)
  · have hz3 := hz2 (by omega) (by omega)
    have hz5 := hz4 (by omega) (by omega)
    refine aw_aload_n dX7_rowRefusal_9 rfl ?_
    refine aw_getR (kx := 1) fl_X7_14 dX7_rowRefusal_10 rfl rfl rfl ?_
    refine aw_iload_n dX7_rowRefusal_13 rfl ?_
    refine aw_iaload dX7_rowRefusal_14 rfl (by decide) (by omega) ?_
    refine aw_if_ge (tgt := 26) dX7_rowRefusal_15 rfl (by omega) (fun hc15 => ?_) (fun hc15 => ?_)
    · refine aw_iconst dX7_rowRefusal_26 ?_
      refine aw_iretQ dX7_rowRefusal_27 rfl ?_
      rw [rrS, if_neg (by omega), if_neg (by omega)]; exact ⟨rfl, hC⟩
    · refine aw_aload_n dX7_rowRefusal_18 rfl ?_
      refine aw_iconst dX7_rowRefusal_19 ?_
      refine aw_cV1IF (c_X7_found (by omega)) lk_X7_100 dX7_rowRefusal_20 (by decide) rfl rfl (fun _ => Nat.le_of_ble_eq_true rfl) ?_
      refine aw_goto (tgt := 27) dX7_rowRefusal_23 rfl ?_
      refine aw_iretQ dX7_rowRefusal_27 rfl ?_
      rw [rrS, if_neg (by omega), if_pos (by omega)]; exact ⟨rfl, hC.found hV.s (by decide)⟩
  · refine aw_iconst dX7_rowRefusal_7 ?_
    refine aw_iretQ dX7_rowRefusal_8 rfl ?_
    rw [rrS, if_pos hc4]; exact ⟨rfl, hC⟩
theorem c_X7_textRefusalC {h g : am_H} {r : Int} (hC : CRel h g) (hV : MOK g) (hr : -2147483648 ≤ r ∧ r < 2147483648) : AMet GC mX7_textRefusal 2 [am_R 0, am_I r] h (QC (trS g r)) := by
  have hz2 := hC.tz hV r
  have hz4 := hC.t.2 r
  refine am_start [some (am_R 0), some (am_I r)] rfl rfl (by decide) (Nat.le_of_ble_eq_true rfl) ?_
  refine aw_iload_n dX7_textRefusal_0 rfl ?_
  refine aw_cS1IF (c_X7_isNoText (by omega)) lk_X7_128 dX7_textRefusal_1 (by decide) (fun _ => Nat.le_of_ble_eq_true rfl) ?_
  refine aw_ifb_eq (tgt := 9) dX7_textRefusal_4 rfl (fun hc4 => ?_) (fun hc4 => ?_)
  · have hz3 := hz2 (by omega) (by omega)
    have hz5 := hz4 (by omega) (by omega)
    refine aw_aload_n dX7_textRefusal_9 rfl ?_
    refine aw_getR (kx := 3) fl_X7_23 dX7_textRefusal_10 rfl rfl rfl ?_
    refine aw_iload_n dX7_textRefusal_13 rfl ?_
    refine aw_iaload dX7_textRefusal_14 rfl (by decide) (by omega) ?_
    refine aw_if_ge (tgt := 26) dX7_textRefusal_15 rfl (by omega) (fun hc15 => ?_) (fun hc15 => ?_)
    · refine aw_iconst dX7_textRefusal_26 ?_
      refine aw_iretQ dX7_textRefusal_27 rfl ?_
      rw [trS, if_neg (by omega), if_neg (by omega)]; exact ⟨rfl, hC⟩
    · refine aw_aload_n dX7_textRefusal_18 rfl ?_
      refine aw_iconst dX7_textRefusal_19 ?_
      refine aw_cV1IF (c_X7_found (by omega)) lk_X7_100 dX7_textRefusal_20 (by decide) rfl rfl (fun _ => Nat.le_of_ble_eq_true rfl) ?_
      refine aw_goto (tgt := 27) dX7_textRefusal_23 rfl ?_
      refine aw_iretQ dX7_textRefusal_27 rfl ?_
      rw [trS, if_neg (by omega), if_pos (by omega)]; exact ⟨rfl, hC.found hV.s (by decide)⟩
  · refine aw_iconst dX7_textRefusal_7 ?_
    refine aw_iretQ dX7_textRefusal_8 rfl ?_
    rw [trS, if_pos hc4]; exact ⟨rfl, hC⟩
theorem c_X7_placeRefusal {h g : am_H} {r i : Int} (hC : CRel h g) (hV : MOK g) (hr : -2147483648 ≤ r ∧ r < 2147483648) (hi : -2147483648 ≤ i ∧ i < 2147483648) : AMet GC mX7_placeRefusal 3 [am_R 0, am_I r, am_I i] h (QC (S_lp g r i)) := by
  have hrr := rrS_rng g r
  have h1 : ¬ (rrS g r).1 = 0 → S_lp g r i = rrS g r := by
    intro z
    unfold rrS at z ⊢
    unfold S_lp
    by_cases e : ¬ (0 ≤ r ∧ r ≤ 5)
    · rw [if_pos e, if_pos e]
    · rw [if_neg e] at z
      rw [if_neg e, if_neg e]
      by_cases e2 : g 1 r < 0
      · rw [if_pos e2, if_pos e2]
      · rw [if_neg e2] at z; exact absurd rfl z
  refine am_start [some (am_R 0), some (am_I r), some (am_I i), none] rfl rfl (by decide) (Nat.le_of_ble_eq_true rfl) ?_
  refine aw_aload_n dX7_placeRefusal_0 rfl ?_
  refine aw_iload_n dX7_placeRefusal_1 rfl ?_
  refine aw_cV1I (c_X7_rowRefusalC hC hV (by omega)) lk_X7_115 dX7_placeRefusal_2 (by decide) rfl rfl (fun _ => Nat.le_of_ble_eq_true rfl) (fun v2 h2 q2 => ?_)
  refine aw_istore_3 dX7_placeRefusal_5 (by decide) rfl ?_
  refine aw_iload_n dX7_placeRefusal_6 rfl ?_
  refine aw_if_eq (tgt := 12) dX7_placeRefusal_7 rfl (by omega) (fun hc7 => ?_) (fun hc7 => ?_)
  · obtain ⟨k1, k2, k3⟩ := rrS_0 (g := g) (r := r) (by omega)
    have q2c := q2.2
    rw [k3] at q2c
    have hz5 := q2c.r.2 r k1.1 k1.2
    have hz6 := q2c.hz hV r k1.1 k1.2
    have e0 : S_lp g r i = if 0 ≤ i ∧ i ≤ g 1 r - 1 then (0, g) else (-3, findF g 2) := by unfold S_lp; rw [if_neg (by omega), if_neg (by omega)]
    rw [e0]
    refine aw_iload_n dX7_placeRefusal_12 rfl ?_
    refine aw_if_lt (tgt := 26) dX7_placeRefusal_13 rfl (by omega) (fun hc13 => ?_) (fun hc13 => ?_)
    · refine aw_aload_n dX7_placeRefusal_26 rfl ?_
      refine aw_iconst dX7_placeRefusal_27 ?_
      refine aw_cV1IF (c_X7_found (by omega)) lk_X7_100 dX7_placeRefusal_28 (by decide) rfl rfl (fun _ => Nat.le_of_ble_eq_true rfl) ?_
      refine aw_goto (tgt := 35) dX7_placeRefusal_31 rfl ?_
      refine aw_iretQ dX7_placeRefusal_35 rfl ?_
      rw [if_neg (by omega)]; exact ⟨rfl, q2c.found hV.s (by decide)⟩
    · refine aw_iload_n dX7_placeRefusal_16 rfl ?_
      refine aw_aload_n dX7_placeRefusal_17 rfl ?_
      refine aw_getR (kx := 1) fl_X7_14 dX7_placeRefusal_18 rfl rfl rfl ?_
      refine aw_iload_n dX7_placeRefusal_21 rfl ?_
      refine aw_iaload dX7_placeRefusal_22 rfl (by decide) (by omega) ?_
      refine aw_icmp_lt (tgt := 34) dX7_placeRefusal_23 rfl (by omega) (by omega) (fun hc23 => ?_) (fun hc23 => ?_)
      · refine aw_iconst dX7_placeRefusal_34 ?_
        refine aw_iretQ dX7_placeRefusal_35 rfl ?_
        rw [if_pos (by omega)]; exact ⟨rfl, q2c⟩
      · refine aw_aload_n dX7_placeRefusal_26 rfl ?_
        refine aw_iconst dX7_placeRefusal_27 ?_
        refine aw_cV1IF (c_X7_found (by omega)) lk_X7_100 dX7_placeRefusal_28 (by decide) rfl rfl (fun _ => Nat.le_of_ble_eq_true rfl) ?_
        refine aw_goto (tgt := 35) dX7_placeRefusal_31 rfl ?_
        refine aw_iretQ dX7_placeRefusal_35 rfl ?_
        rw [if_neg (by omega)]; exact ⟨rfl, q2c.found hV.s (by decide)⟩
  · refine aw_iload_n dX7_placeRefusal_10 rfl ?_
    refine aw_iretQ dX7_placeRefusal_11 rfl ?_
    rw [h1 (by omega)]; exact q2
noncomputable def srS (g : am_H) (r : Int) : Int × am_H := if ¬ (0 ≤ r ∧ r ≤ 5) then (-1, g) else lkR g r
noncomputable def ssS (g : am_H) (r : Int) : Int × am_H := if ¬ (0 ≤ r ∧ r ≤ 5) then (-1, g) else lsR g r
theorem srS_rng (g : am_H) (r : Int) : -4 ≤ (srS g r).1 ∧ (srS g r).1 ≤ 0 := by
  have := lkR_rng g r
  unfold srS; split
  · dsimp only; omega
  · exact this
theorem ssS_rng (g : am_H) (r : Int) : -4 ≤ (ssS g r).1 ∧ (ssS g r).1 ≤ 0 := by
  have := lsR_rng g r
  unfold ssS; split
  · dsimp only; omega
  · exact this
theorem srS_0 {g : am_H} {r : Int} (h : (srS g r).1 = 0) : (0 ≤ r ∧ r ≤ 5) ∧ ¬ (lkR g r).1 < 0 ∧ ¬ g 0 6 = 0 ∧ (0 ≤ g 1 r ∧ g 1 r ≤ 8) ∧ (srS g r).2 = g := by
  unfold srS at h ⊢
  by_cases e : ¬ (0 ≤ r ∧ r ≤ 5)
  · rw [if_pos e] at h; exact absurd h (by show ¬ (-1 : Int) = 0; decide)
  · rw [if_neg e] at h ⊢
    obtain ⟨a1, a2, a3, a4, a5⟩ := lkR_0 (g := g) (r := r) (by omega)
    exact ⟨by omega, by omega, a1, ⟨a2, a3⟩, a4⟩
theorem ssS_0 {g : am_H} {r : Int} (h : (ssS g r).1 = 0) : (0 ≤ r ∧ r ≤ 5) ∧ ¬ (lsR g r).1 < 0 ∧ ¬ g 0 6 = 0 ∧ (0 ≤ g 1 r ∧ g 1 r ≤ 8) ∧ (ssS g r).2 = g ∧ sdB g r (g 1 r).toNat = true := by
  unfold ssS at h ⊢
  by_cases e : ¬ (0 ≤ r ∧ r ≤ 5)
  · rw [if_pos e] at h; exact absurd h (by show ¬ (-1 : Int) = 0; decide)
  · rw [if_neg e] at h ⊢
    obtain ⟨a1, a2, a3, a4, a5, a6⟩ := lsR_0 (g := g) (r := r) (by omega)
    exact ⟨by omega, by omega, a1, ⟨a2, a3⟩, a4, a6⟩
theorem c_X7_sentenceRefusal {h g : am_H} {r : Int} (hC : CRel h g) (hV : MOK g) (hr : -2147483648 ≤ r ∧ r < 2147483648) : AMet GC mX7_sentenceRefusal 2 [am_R 0, am_I r] h (QC (srS g r)) := by
  have hz2 := hC.hz hV r
  have hz4 := hC.r.2 r
  have hn := hC.nn.1
  have hnn := hV.s.1
  refine am_start [some (am_R 0), some (am_I r)] rfl rfl (by decide) (Nat.le_of_ble_eq_true rfl) ?_
  refine aw_iload_n dX7_sentenceRefusal_0 rfl ?_
  refine aw_cS1IF (c_X7_isNoRow (by omega)) lk_X7_96 dX7_sentenceRefusal_1 (by decide) (fun _ => Nat.le_of_ble_eq_true rfl) ?_
  refine aw_ifb_eq (tgt := 9) dX7_sentenceRefusal_4 rfl (fun hc4 => ?_) (fun hc4 => ?_)
  · rw [srS, if_neg hc4, lkR]
    have hz3 := hz2 (by omega) (by omega)
    have hz5 := hz4 (by omega) (by omega)
    refine aw_aload_n dX7_sentenceRefusal_9 rfl ?_
    refine aw_cV0IF (c_X7_isUnspoken (by omega)) lk_X7_230 dX7_sentenceRefusal_10 (by decide) rfl rfl (fun _ => Nat.le_of_ble_eq_true rfl) ?_
    refine aw_ifb_eq (tgt := 19) dX7_sentenceRefusal_13 rfl (fun hc13 => ?_) (fun hc13 => ?_)
    · refine aw_aload_n dX7_sentenceRefusal_19 rfl ?_
      refine aw_getR (kx := 1) fl_X7_14 dX7_sentenceRefusal_20 rfl rfl rfl ?_
      refine aw_iload_n dX7_sentenceRefusal_23 rfl ?_
      refine aw_iaload dX7_sentenceRefusal_24 rfl (by decide) (by omega) ?_
      refine aw_if_ge (tgt := 34) dX7_sentenceRefusal_25 rfl (by omega) (fun hc25 => ?_) (fun hc25 => ?_)
      · refine aw_aload_n dX7_sentenceRefusal_34 rfl ?_
        refine aw_getR (kx := 1) fl_X7_14 dX7_sentenceRefusal_35 rfl rfl rfl ?_
        refine aw_iload_n dX7_sentenceRefusal_38 rfl ?_
        refine aw_iaload dX7_sentenceRefusal_39 rfl (by decide) (by omega) ?_
        refine aw_bipush (by decide) dX7_sentenceRefusal_40 ?_
        refine aw_icmp_le (tgt := 53) dX7_sentenceRefusal_42 rfl (by omega) (by omega) (fun hc42 => ?_) (fun hc42 => ?_)
        · refine aw_iconst dX7_sentenceRefusal_53 ?_
          refine aw_iretQ dX7_sentenceRefusal_54 rfl ?_
          rw [if_neg (by omega), if_neg (by omega), if_neg (by omega)]; exact ⟨rfl, hC⟩
        · refine aw_aload_n dX7_sentenceRefusal_45 rfl ?_
          refine aw_iconst dX7_sentenceRefusal_46 ?_
          refine aw_cV1IF (c_X7_found (by omega)) lk_X7_100 dX7_sentenceRefusal_47 (by decide) rfl rfl (fun _ => Nat.le_of_ble_eq_true rfl) ?_
          refine aw_goto (tgt := 54) dX7_sentenceRefusal_50 rfl ?_
          refine aw_iretQ dX7_sentenceRefusal_54 rfl ?_
          rw [if_neg (by omega), if_neg (by omega), if_pos (by omega)]; exact ⟨rfl, hC.found hV.s (by decide)⟩
      · refine aw_aload_n dX7_sentenceRefusal_28 rfl ?_
        refine aw_iconst dX7_sentenceRefusal_29 ?_
        refine aw_cV1IF (c_X7_found (by omega)) lk_X7_100 dX7_sentenceRefusal_30 (by decide) rfl rfl (fun _ => Nat.le_of_ble_eq_true rfl) ?_
        refine aw_iretQ dX7_sentenceRefusal_33 rfl ?_
        rw [if_neg (by omega), if_pos (by omega)]; exact ⟨rfl, hC.found hV.s (by decide)⟩
    · refine aw_bipush (by decide) dX7_sentenceRefusal_16 ?_
      refine aw_iretQ dX7_sentenceRefusal_18 rfl ?_
      rw [if_pos (by omega)]; exact ⟨rfl, hC⟩
  · refine aw_iconst dX7_sentenceRefusal_7 ?_
    refine aw_iretQ dX7_sentenceRefusal_8 rfl ?_
    rw [srS, if_pos hc4]; exact ⟨rfl, hC⟩
