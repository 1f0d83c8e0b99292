def sdB (g : am_H) (r : Int) : Nat → Bool
  | 0 => true
  | i + 1 => sdB g r i && decide (g 2 (40 * r + i) = -9 ∨ (0 ≤ g 2 (40 * r + i) ∧ g 2 (40 * r + i) ≤ 9))
theorem sdB_iff (g : am_H) (r : Int) : ∀ n : Nat, sdB g r n = true ↔ ∀ i : Nat, i < n → g 2 (40 * r + i) = -9 ∨ (0 ≤ g 2 (40 * r + i) ∧ g 2 (40 * r + i) ≤ 9)
  | 0 => ⟨fun _ i h => absurd h (Nat.not_lt_zero i), fun _ => rfl⟩
  | n + 1 => by
    have ih := sdB_iff g r n
    unfold sdB
    rw [Bool.and_eq_true, ih, decide_eq_true_iff]
    constructor
    · rintro ⟨a, b⟩ i hi
      by_cases e : i = n
      · subst e; exact b
      · exact a i (by omega)
    · intro h
      exact ⟨fun i hi => h i (by omega), h n (by omega)⟩
def lsR (g : am_H) (r : Int) : Int × am_H := if (lkR g r).1 < 0 then lkR g r else if sdB g r (g 1 r).toNat = true then (0, g) else (-3, findF g 3)
theorem lp_X8_lacksSounds {g : am_H} {r x2 : Int} (hv : MVr g) (hr : 0 ≤ r ∧ r ≤ 5) (hz : 0 ≤ g 1 r) : ∀ (m i : Nat) (x4 : Option am_V), (i : Int) ≤ g 1 r → g 1 r - i < m → sdB g r i = true → AW GM mX8_lacksSounds 3 (am_FI (if sdB g r (g 1 r).toNat = true then ((0 : Int), g) else (-3, findF g 3)).1 (if sdB g r (g 1 r).toNat = true then ((0 : Int), g) else (-3, findF g 3)).2) 14 [some (am_R 0), some (am_I r), some (am_I x2), some (am_I i), x4] [] g := by
  have hz2 := hv.1 r hr.1 hr.2
  intro m
  induction m with
  | zero => intro i x4 h1 h2; omega
  | succ m ih =>
    intro i x4 h1 h2 hb
    have hk := hv.2 (40 * r + i)
    have nxt : ∀ y4 : Option am_V, (i : Int) < g 1 r → (g 2 (40 * r + i) = -9 ∨ (0 ≤ g 2 (40 * r + i) ∧ g 2 (40 * r + i) ≤ 9)) → AW GM mX8_lacksSounds 3 (am_FI (if sdB g r (g 1 r).toNat = true then ((0 : Int), g) else (-3, findF g 3)).1 (if sdB g r (g 1 r).toNat = true then ((0 : Int), g) else (-3, findF g 3)).2) 14 [some (am_R 0), some (am_I r), some (am_I x2), some (am_I (i + 1 : Nat)), y4] [] g := by
      intro y4 hlt hc
      exact ih (i + 1) y4 (by omega) (by omega) (by unfold sdB; rw [hb, decide_eq_true hc]; rfl)
    refine aw_iload_n dX8_lacksSounds_14 rfl ?_
    refine aw_aload_n dX8_lacksSounds_15 rfl ?_
    refine aw_getR (kx := 0) fl_X8_7 dX8_lacksSounds_16 rfl rfl rfl ?_
    refine aw_iload_n dX8_lacksSounds_19 rfl ?_
    refine aw_iaload dX8_lacksSounds_20 rfl (by decide) (by omega) ?_
    refine aw_icmp_ge (tgt := 69) dX8_lacksSounds_21 rfl (by omega) (by omega) (fun hc21 => ?_) (fun hc21 => ?_)
    · refine aw_iconst dX8_lacksSounds_69 ?_
      refine aw_iretF dX8_lacksSounds_70 rfl ?_
      rw [if_pos (show sdB g r (g 1 r).toNat = true by rw [show (g 1 r).toNat = i by omega]; exact hb)]; exact ⟨rfl, rfl⟩
    · refine aw_aload_n dX8_lacksSounds_24 rfl ?_
      refine aw_getR (kx := 1) fl_X8_13 dX8_lacksSounds_25 rfl rfl rfl ?_
      refine aw_bipush (by decide) dX8_lacksSounds_28 ?_
      refine aw_iload_n dX8_lacksSounds_30 rfl ?_
      refine aw_imul dX8_lacksSounds_31 ?_
      refine aw_iload_n dX8_lacksSounds_32 rfl ?_
      refine aw_iadd dX8_lacksSounds_33 ?_
      refine aw_iaload dX8_lacksSounds_34 rfl (by decide) (by omega) ?_
      refine aw_istore4 dX8_lacksSounds_35 (by decide) rfl ?_
      refine aw_iload dX8_lacksSounds_37 rfl ?_
      refine aw_bipush (by decide) dX8_lacksSounds_39 ?_
      refine aw_icmp_eq (tgt := 63) dX8_lacksSounds_41 rfl (by omega) (by omega) (fun hc41 => ?_) (fun hc41 => ?_)
      · refine aw_iinc3 dX8_lacksSounds_63 (by decide) rfl ?_
        refine aw_goto (tgt := 14) dX8_lacksSounds_66 rfl ?_
        exact nxt _ (by omega) (by omega)
      · refine aw_iload dX8_lacksSounds_44 rfl ?_
        refine aw_i2l (by omega) dX8_lacksSounds_46 ?_
        refine aw_lconst (v := 0) dX8_lacksSounds_47 rfl ?_
        refine aw_ldc2 (n := 9) kj_X8_182 rfl dX8_lacksSounds_48 ?_
        refine aw_cS3IF (c_X8_in (by omega) (by omega) (by omega)) lk_X8_133 dX8_lacksSounds_51 (by decide) (fun _ => Nat.le_of_ble_eq_true rfl) ?_
        refine aw_ifb_ne (tgt := 63) dX8_lacksSounds_54 rfl (fun hc54 => ?_) (fun hc54 => ?_)
        · refine aw_iinc3 dX8_lacksSounds_63 (by decide) rfl ?_
          refine aw_goto (tgt := 14) dX8_lacksSounds_66 rfl ?_
          exact nxt _ (by omega) (by omega)
        · refine aw_aload_n dX8_lacksSounds_57 rfl ?_
          refine aw_iconst dX8_lacksSounds_58 ?_
          refine aw_cV1IF (c_X8_find (by omega)) lk_X8_143 dX8_lacksSounds_59 (by decide) rfl rfl (fun _ => Nat.le_of_ble_eq_true rfl) ?_
          refine aw_iretF dX8_lacksSounds_62 rfl ?_
          rw [if_neg (fun z => by have := (sdB_iff g r _).mp z i (by omega); omega)]; exact ⟨rfl, rfl⟩
theorem c_X8_lacksSounds {g : am_H} {r : Int} (hs : MVs g) (hv : MVr g) (hr : 0 ≤ r ∧ r ≤ 5) : AMet GM mX8_lacksSounds 3 [am_R 0, am_I r] g (am_FI (lsR g r).1 (lsR g r).2) := by
  have hlr := lkR_rng g r
  refine am_start [some (am_R 0), some (am_I r), none, none, none] rfl rfl (by decide) (Nat.le_of_ble_eq_true rfl) ?_
  refine aw_aload_n dX8_lacksSounds_0 rfl ?_
  refine aw_iload_n dX8_lacksSounds_1 rfl ?_
  refine aw_cV1IF (c_X8_lacksRow hs hv (by omega)) lk_X8_329 dX8_lacksSounds_2 (by decide) rfl rfl (fun _ => Nat.le_of_ble_eq_true rfl) ?_
  refine aw_istore_2 dX8_lacksSounds_5 (by decide) rfl ?_
  refine aw_iload_n dX8_lacksSounds_6 rfl ?_
  refine aw_if_ge (tgt := 12) dX8_lacksSounds_7 rfl (by omega) (fun hc7 => ?_) (fun hc7 => ?_)
  · obtain ⟨k0, k1, k2, k3, k4⟩ := lkR_0 (g := g) (r := r) (by omega)
    refine aw_heap k3 ?_
    refine aw_iconst dX8_lacksSounds_12 ?_
    refine aw_istore_3 dX8_lacksSounds_13 (by decide) rfl ?_
    rw [lsR, if_neg (by omega)]
    exact lp_X8_lacksSounds hv hr k1 41 0 _ (by omega) (by omega) rfl
  · refine aw_iload_n dX8_lacksSounds_10 rfl ?_
    refine aw_iretF dX8_lacksSounds_11 rfl ?_
    rw [lsR, if_pos (by omega)]; exact ⟨rfl, rfl⟩
theorem lsR_rng (g : am_H) (r : Int) : -4 ≤ (lsR g r).1 ∧ (lsR g r).1 ≤ 0 := by
  have h := lkR_rng g r
  unfold lsR
  split
  · exact h
  · split
    · dsimp only; omega
    · dsimp only; omega
theorem lsR_0 {g : am_H} {r : Int} (h : ¬ (lsR g r).1 < 0) : ¬ g 0 6 = 0 ∧ 0 ≤ g 1 r ∧ g 1 r ≤ 8 ∧ (lsR g r).2 = g ∧ (lsR g r).1 = 0 ∧ sdB g r (g 1 r).toNat = true := by
  unfold lsR at h ⊢
  split at h
  · rename_i e; exact absurd e h
  · rename_i e
    obtain ⟨k0, k1, k2, k3, k4⟩ := lkR_0 e
    split at h
    · rename_i e2
      rw [if_neg e, if_pos e2]
      exact ⟨k0, k1, k2, rfl, rfl, e2⟩
    · exact absurd (show (-3 : Int) < 0 by omega) h
noncomputable def hdS (g : am_H) (r n : Int) (s : Int × Nat) (P : List Int) : Int × Nat := if isS g n P ∧ mhP g r P = 0 then (s.1 + 1, s.2 ||| 2 ^ (g 6 (liE g P)).toNat) else s
noncomputable def hdR (g : am_H) (r : Int) : Int × Nat := (trL g (g 1 r).toNat []).foldl (hdS g r (g 1 r)) (0, 0)
noncomputable def S_heard (g : am_H) (r : Int) : Int × am_H := if ¬ (0 ≤ r ∧ r ≤ 5) then (-1, g) else if (lsR g r).1 < 0 then lsR g r else ((hdR g r).1, am_set g 0 20 ((hdR g r).2 : Nat))
theorem mhP_rng (g : am_H) (r : Int) : ∀ P : List Int, 0 ≤ mhP g r P ∧ mhP g r P ≤ P.length
  | [] => by unfold mhP; exact ⟨Int.le_refl _, Int.le_refl _⟩
  | w :: P => by
    have ih := mhP_rng g r P
    show 0 ≤ mhP g r P + _ ∧ mhP g r P + _ ≤ ((P.length + 1 : Nat) : Int)
    split <;> omega
theorem lp_X8_heard {g : am_H} {r n x2 : Int} {T : Int × Nat} (hs : MVs g) (hy : MVy g) (hv : MVr g) (hr : 0 ≤ r ∧ r ≤ 5) (h0 : ¬ g 0 6 = 0) (hn : 0 ≤ n ∧ n ≤ 8) : ∀ (R : List (List Int)) (s : Int × Nat) (P : List Int) (g' : am_H), LinI g g' P → (P.length : Int) ≤ n → R = rst g n.toNat P → s.2 < 64 → (P :: R).foldl (hdS g r n) s = T → AW GM mX8_heard 4 (QM (T.1, am_set g 0 20 (T.2 : Nat))) 42 [some (am_R 0), some (am_I r), some (am_I x2), some (am_I n), some (am_I s.1), some (am_I (s.2 : Nat)), some (am_I 1)] [] g' := by
  have exi : ∀ (s : Int × Nat) (g' : am_H), AgL g g' → s = T → AW GM mX8_heard 4 (QM (T.1, am_set g 0 20 (T.2 : Nat))) 42 [some (am_R 0), some (am_I r), some (am_I x2), some (am_I n), some (am_I s.1), some (am_I (s.2 : Nat)), some (am_I 0)] [] g' := by
    intro s g' ha hs2
    subst hs2
    refine aw_iload dX8_heard_42 rfl ?_
    refine aw_if_eq (tgt := 94) dX8_heard_44 rfl (by omega) (fun hc44 => ?_) (fun hc44 => ?_)
    · refine aw_aload_n dX8_heard_94 rfl ?_
      refine aw_iload dX8_heard_95 rfl ?_
      refine aw_iload dX8_heard_97 rfl ?_
      refine aw_cV2IF (c_X8_answer) lk_X8_151 dX8_heard_99 (by decide) rfl rfl (fun _ => Nat.le_of_ble_eq_true rfl) ?_
      refine aw_iretQ dX8_heard_102 rfl ?_
      exact ⟨rfl, ha.me.set (by omega)⟩
    · omega
  intro R
  induction R with
  | nil =>
    intro s P g' hI hle hR hlt hT
    have ha := hI.1
    have hlv := hI.2.2.2
    have he := liE_rng hs hy h0 P hlv
    have hnn := hs.1
    have hmr := mhP_rng g r P
    have hme := (hs.2.2.2.1 (liE g P) (by omega) he.2).2
    have f6 := ha.1 6 (by decide) (by decide) (by decide)
    have f6e : g' 6 (liE g P) = g 6 (liE g P) := by rw [f6]
    have hT2 := hT
    rw [List.foldl_cons] at hT2
    have hpw : 2 ^ (g 6 (liE g P)).toNat < 2 ^ 6 := Nat.pow_lt_pow_right (by decide) (by omega)
    have nxt : ∀ (s2 : Int × Nat), s2 = hdS g r n s P → s2.2 < 64 → AW GM mX8_heard 4 (QM (T.1, am_set g 0 20 (T.2 : Nat))) 83 [some (am_R 0), some (am_I r), some (am_I x2), some (am_I n), some (am_I s2.1), some (am_I (s2.2 : Nat)), some (am_I 1)] [] g' := by
      intro s2 hs2 hlt2
      rw [← hs2] at hT2
      refine aw_aload_n dX8_heard_83 rfl ?_
      refine aw_iload_n dX8_heard_84 rfl ?_
      refine aw_iconst dX8_heard_85 ?_
      refine aw_cV2I (c_X8_nextLine hs hy h0 hn hI hle) lk_X8_347 dX8_heard_86 (by decide) rfl rfl (fun _ => Nat.le_of_ble_eq_true rfl) (fun v86 h86 q86 => ?_)
      refine aw_istore6 dX8_heard_89 (by decide) rfl ?_
      refine aw_goto (tgt := 42) dX8_heard_91 rfl ?_
      rw [← hR] at q86
      have q86b : v86 = 0 ∧ AgL g h86 := by
        rcases q86.1 with ⟨_, a, b⟩ | ⟨P3, a, _⟩
        · exact ⟨a, b⟩
        · exact absurd a (by simp)
      rw [q86b.1]
      exact exi s2 h86 q86b.2 hT2
    refine aw_iload dX8_heard_42 rfl ?_
    refine aw_if_eq (tgt := 94) dX8_heard_44 rfl (by omega) (fun hc44 => ?_) (fun hc44 => ?_)
    · omega
    · refine aw_aload_n dX8_heard_47 rfl ?_
      refine aw_iload_n dX8_heard_48 rfl ?_
      refine aw_cV1IF (c_X8_isSentence hs hy h0 hI hn) lk_X8_351 dX8_heard_49 (by decide) rfl rfl (fun _ => Nat.le_of_ble_eq_true rfl) ?_
      refine aw_ifb_eq (tgt := 83) dX8_heard_52 rfl (fun hc52 => ?_) (fun hc52 => ?_)
      · exact nxt _ (by rw [hdS, if_neg (fun z => hc52 z.1)]) hlt
      · refine aw_aload_n dX8_heard_55 rfl ?_
        refine aw_iload_n dX8_heard_56 rfl ?_
        refine aw_iload_n dX8_heard_57 rfl ?_
        refine aw_cV2IF (c_X8_misheard hs hv hr hI hn hc52.1) lk_X8_354 dX8_heard_58 (by decide) rfl rfl (fun _ => Nat.le_of_ble_eq_true rfl) ?_
        refine aw_if_ne (tgt := 83) dX8_heard_61 rfl (by omega) (fun hc61 => ?_) (fun hc61 => ?_)
        · exact nxt _ (by rw [hdS, if_neg (fun z => hc61 z.2)]) hlt
        · refine aw_iinc4 dX8_heard_64 (by decide) rfl ?_
          refine aw_iload dX8_heard_67 rfl ?_
          refine aw_iconst dX8_heard_69 ?_
          refine aw_aload_n dX8_heard_70 rfl ?_
          refine aw_getR (kx := 5) fl_X8_25 dX8_heard_71 rfl rfl rfl ?_
          refine aw_aload_n dX8_heard_74 rfl ?_
          refine aw_cV0IF (c_X8_lineEnd hs hy h0 hI) lk_X8_341 dX8_heard_75 (by decide) rfl rfl (fun _ => Nat.le_of_ble_eq_true rfl) ?_
          refine aw_iaload dX8_heard_78 rfl (by decide) (by omega) ?_
          refine aw_top (show g' 6 (liE g P) = (((g 6 (liE g P)).toNat : Nat) : Int) by rw [f6]; omega) ?_
          refine aw_ishl dX8_heard_79 ?_
          refine aw_top (bt_shl1 (by omega)) ?_
          refine aw_ior dX8_heard_80 ?_
          refine aw_top (bt_or (by omega) (by omega)) ?_
          refine aw_istore5 dX8_heard_81 (by decide) rfl ?_
          exact nxt (s.1 + 1, s.2 ||| 2 ^ (g 6 (liE g P)).toNat) (by rw [hdS, if_pos ⟨hc52, hc61⟩]) (show _ < 2 ^ 6 from Nat.or_lt_two_pow hlt hpw)
  | cons P2 R ih =>
    intro s P g' hI hle hR hlt hT
    have ha := hI.1
    have hlv := hI.2.2.2
    have he := liE_rng hs hy h0 P hlv
    have hnn := hs.1
    have hmr := mhP_rng g r P
    have hme := (hs.2.2.2.1 (liE g P) (by omega) he.2).2
    have f6 := ha.1 6 (by decide) (by decide) (by decide)
    have f6e : g' 6 (liE g P) = g 6 (liE g P) := by rw [f6]
    have hT2 := hT
    rw [List.foldl_cons] at hT2
    have hpw : 2 ^ (g 6 (liE g P)).toNat < 2 ^ 6 := Nat.pow_lt_pow_right (by decide) (by omega)
    have nxt : ∀ (s2 : Int × Nat), s2 = hdS g r n s P → s2.2 < 64 → AW GM mX8_heard 4 (QM (T.1, am_set g 0 20 (T.2 : Nat))) 83 [some (am_R 0), some (am_I r), some (am_I x2), some (am_I n), some (am_I s2.1), some (am_I (s2.2 : Nat)), some (am_I 1)] [] g' := by
      intro s2 hs2 hlt2
      rw [← hs2] at hT2
      refine aw_aload_n dX8_heard_83 rfl ?_
      refine aw_iload_n dX8_heard_84 rfl ?_
      refine aw_iconst dX8_heard_85 ?_
      refine aw_cV2I (c_X8_nextLine hs hy h0 hn hI hle) lk_X8_347 dX8_heard_86 (by decide) rfl rfl (fun _ => Nat.le_of_ble_eq_true rfl) (fun v86 h86 q86 => ?_)
      refine aw_istore6 dX8_heard_89 (by decide) rfl ?_
      refine aw_goto (tgt := 42) dX8_heard_91 rfl ?_
      rw [← hR] at q86
      rcases q86.1 with ⟨a, _⟩ | ⟨P3, a, b, c, d⟩
      · exact absurd a (by simp)
      · obtain ⟨a1, a2⟩ := List.cons.inj a
        subst a1
        rw [b]
        exact ih s2 P2 h86 c (by omega) a2 hlt2 hT2
    refine aw_iload dX8_heard_42 rfl ?_
    refine aw_if_eq (tgt := 94) dX8_heard_44 rfl (by omega) (fun hc44 => ?_) (fun hc44 => ?_)
    · omega
    · refine aw_aload_n dX8_heard_47 rfl ?_
      refine aw_iload_n dX8_heard_48 rfl ?_
      refine aw_cV1IF (c_X8_isSentence hs hy h0 hI hn) lk_X8_351 dX8_heard_49 (by decide) rfl rfl (fun _ => Nat.le_of_ble_eq_true rfl) ?_
      refine aw_ifb_eq (tgt := 83) dX8_heard_52 rfl (fun hc52 => ?_) (fun hc52 => ?_)
      · exact nxt _ (by rw [hdS, if_neg (fun z => hc52 z.1)]) hlt
      · refine aw_aload_n dX8_heard_55 rfl ?_
        refine aw_iload_n dX8_heard_56 rfl ?_
        refine aw_iload_n dX8_heard_57 rfl ?_
        refine aw_cV2IF (c_X8_misheard hs hv hr hI hn hc52.1) lk_X8_354 dX8_heard_58 (by decide) rfl rfl (fun _ => Nat.le_of_ble_eq_true rfl) ?_
        refine aw_if_ne (tgt := 83) dX8_heard_61 rfl (by omega) (fun hc61 => ?_) (fun hc61 => ?_)
        · exact nxt _ (by rw [hdS, if_neg (fun z => hc61 z.2)]) hlt
        · refine aw_iinc4 dX8_heard_64 (by decide) rfl ?_
          refine aw_iload dX8_heard_67 rfl ?_
          refine aw_iconst dX8_heard_69 ?_
          refine aw_aload_n dX8_heard_70 rfl ?_
          refine aw_getR (kx := 5) fl_X8_25 dX8_heard_71 rfl rfl rfl ?_
          refine aw_aload_n dX8_heard_74 rfl ?_
          refine aw_cV0IF (c_X8_lineEnd hs hy h0 hI) lk_X8_341 dX8_heard_75 (by decide) rfl rfl (fun _ => Nat.le_of_ble_eq_true rfl) ?_
          refine aw_iaload dX8_heard_78 rfl (by decide) (by omega) ?_
          refine aw_top (show g' 6 (liE g P) = (((g 6 (liE g P)).toNat : Nat) : Int) by rw [f6]; omega) ?_
          refine aw_ishl dX8_heard_79 ?_
          refine aw_top (bt_shl1 (by omega)) ?_
          refine aw_ior dX8_heard_80 ?_
          refine aw_top (bt_or (by omega) (by omega)) ?_
          refine aw_istore5 dX8_heard_81 (by decide) rfl ?_
          exact nxt (s.1 + 1, s.2 ||| 2 ^ (g 6 (liE g P)).toNat) (by rw [hdS, if_pos ⟨hc52, hc61⟩]) (show _ < 2 ^ 6 from Nat.or_lt_two_pow hlt hpw)
theorem c_X8_heard {g : am_H} {r : Int} (hs : MVs g) (hy : MVy g) (hv : MVr g) (hr : -2147483648 ≤ r ∧ r < 2147483648) : AMet GM mX8_heard 4 [am_R 0, am_I r] g (QM (S_heard g r)) := by
  have hnn := hs.1
  have hlr := lsR_rng g r
  refine am_start [some (am_R 0), some (am_I r), none, none, none, none, none] rfl rfl (by decide) (Nat.le_of_ble_eq_true rfl) ?_
  refine aw_iload_n dX8_heard_0 rfl ?_
  refine aw_cS1IF (c_X8_isRow (by omega)) lk_X8_139 dX8_heard_1 (by decide) (fun _ => Nat.le_of_ble_eq_true rfl) ?_
  refine aw_ifb_ne (tgt := 9) dX8_heard_4 rfl (fun hc4 => ?_) (fun hc4 => ?_)
  · refine aw_aload_n dX8_heard_9 rfl ?_
    refine aw_iload_n dX8_heard_10 rfl ?_
    refine aw_cV1IF (c_X8_lacksSounds hs hv (by omega)) lk_X8_344 dX8_heard_11 (by decide) rfl rfl (fun _ => Nat.le_of_ble_eq_true rfl) ?_
    refine aw_istore_2 dX8_heard_14 (by decide) rfl ?_
    refine aw_iload_n dX8_heard_15 rfl ?_
    refine aw_if_ge (tgt := 21) dX8_heard_16 rfl (by omega) (fun hc16 => ?_) (fun hc16 => ?_)
    · obtain ⟨k0, k1, k2, k3, k4, k5⟩ := lsR_0 (g := g) (r := r) (by omega)
      refine aw_heap k3 ?_
      refine aw_aload_n dX8_heard_21 rfl ?_
      refine aw_getR (kx := 0) fl_X8_7 dX8_heard_22 rfl rfl rfl ?_
      refine aw_iload_n dX8_heard_25 rfl ?_
      refine aw_iaload dX8_heard_26 rfl (by decide) (by omega) ?_
      refine aw_istore_3 dX8_heard_27 (by decide) rfl ?_
      refine aw_iconst dX8_heard_28 ?_
      refine aw_istore4 dX8_heard_29 (by decide) rfl ?_
      refine aw_iconst dX8_heard_31 ?_
      refine aw_istore5 dX8_heard_32 (by decide) rfl ?_
      refine aw_aload_n dX8_heard_34 rfl ?_
      refine aw_iload_n dX8_heard_35 rfl ?_
      refine aw_iconst dX8_heard_36 ?_
      refine aw_cV2I (c_X8_nextLine1 (AgL.rf g)) lk_X8_347 dX8_heard_37 (by decide) rfl rfl (fun _ => Nat.le_of_ble_eq_true rfl) (fun v37 h37 q37 => ?_)
      refine aw_top q37.1 ?_
      refine aw_istore6 dX8_heard_40 (by decide) rfl ?_
      rw [S_heard, if_neg (by omega), if_neg (by omega)]
      exact lp_X8_heard hs hy hv hc4 k0 ⟨k1, k2⟩ _ (0, 0) [] h37 q37.2 (by show ((0 : Nat) : Int) ≤ _; omega) rfl (by decide) (by rw [hdR, ← tr_rst (P := []) (by show 0 ≤ _; omega)]; show (trL g _ [] ++ []).foldl _ _ = _; rw [List.append_nil]; rfl)
    · refine aw_iload_n dX8_heard_19 rfl ?_
      refine aw_iretQ dX8_heard_20 rfl ?_
      rw [S_heard, if_neg (by omega), if_pos (by omega)]; exact ⟨rfl, MEq.rf _⟩
  · refine aw_iconst dX8_heard_7 ?_
    refine aw_iretQ dX8_heard_8 rfl ?_
    rw [S_heard, if_pos (by omega)]; exact ⟨rfl, MEq.rf _⟩
