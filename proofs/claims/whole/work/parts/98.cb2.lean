theorem EaI.push {hB g h h' : am_H} {sd : Int → Int} {n own m : Int} {A : List (List Int)} {P : List Int} (hm : 0 ≤ m ∧ m ≤ 5) (hme : g 6 (liE g P) = m) (hI : EaI hB g sd n own h A) (hPn : (P.length : Int) = n) (hl : liA (h 66) P) (c1 : ∀ c : Int, ¬ c = 63 → ¬ c = 64 → ¬ c = 67 → h' c = h c) (c2 : ∀ k : Int, ¬ k = 1 → ¬ k = 2 → ¬ k = 8 → h' 63 k = h 63 k) (c3 : h' 63 1 = h 63 1 + 1) (c4 : h' 63 2 = am_or (h 63 2) ((2 ^ m.toNat : Nat) : Int)) (c5 : A = [] → ∀ i : Int, 0 ≤ i → i < n → h' 64 i = h 66 i) (c6 : ¬ A = [] → h' 64 = h 64) (c7 : m = own → h' 63 8 = h 63 8 ∧ h' 67 = h 67) (c8 : ¬ m = own → h' 63 8 = h 63 8 + 1 ∧ h' 67 (h 63 8) = ((msP g sd P : Nat) : Int) ∧ ∀ i : Int, ¬ i = h 63 8 → h' 67 i = h 67 i) : EaI hB g sd n own h' (A ++ [P]) ∧ liA (h' 66) P := by
  obtain ⟨i1, i2, i3, ⟨s, s1, s2, s3⟩, i5, i6, i7⟩ := hI
  have hp : 2 ^ m.toNat < 2 ^ 6 := Nat.pow_lt_pow_right (by decide) (by omega)
  refine ⟨⟨fun c a b d e => ?_, fun k a b d => ?_, ?_, ?_, ?_, ?_, ?_⟩, ?_⟩
  · rw [c1 c a b e]; exact i1 c a b d e
  · rw [c2 k a b d]; exact i2 k a b d
  · rw [c3, i3, List.length_append]; rfl
  · refine ⟨s ||| 2 ^ m.toNat, show _ < 2 ^ 6 from Nat.or_lt_two_pow s1 hp, ?_, ?_⟩
    · rw [c4, s2]; exact bt_or (by omega) (by omega)
    · rw [List.foldl_append, ← s3]
      show _ = s ||| 2 ^ (g 6 (liE g P)).toNat
      rw [hme]
  · intro Q hQ i a b
    cases A with
    | nil =>
      have e : P = Q := Option.some.inj hQ
      rw [c5 rfl i a b, ← e]
      exact liF_A P hl i a (by omega)
    | cons Z A =>
      rw [c6 (by simp)]
      exact i5 Q hQ i a b
  · rw [List.filter_append, List.length_append, List.filter_cons]
    by_cases e : m = own
    · rw [if_neg (by rw [hme, decide_eq_true_eq]; exact fun z => z e), (c7 e).1, i6]; rfl
    · rw [if_pos (by rw [hme, decide_eq_true_eq]; exact e), (c8 e).1, i6]; rfl
  · intro t Q hQ
    rw [List.filter_append, List.filter_cons] at hQ
    by_cases e : m = own
    · rw [if_neg (by rw [hme, decide_eq_true_eq]; exact fun z => z e), List.filter_nil, List.append_nil] at hQ
      rw [(c7 e).2]; exact i7 t Q hQ
    · rw [if_pos (by rw [hme, decide_eq_true_eq]; exact e), List.filter_nil] at hQ
      obtain ⟨d1, d2, d3⟩ := c8 e
      rw [i6] at d2 d3
      by_cases et : t < (A.filter (fun Q => decide (¬ g 6 (liE g Q) = own))).length
      · rw [List.getElem?_append_left et] at hQ
        rw [d3 t (by omega)]; exact i7 t Q hQ
      · rw [List.getElem?_append_right (by omega)] at hQ
        obtain ⟨f1, f2⟩ := List.getElem?_eq_some_iff.mp hQ
        have f3 : t - (A.filter (fun Q => decide (¬ g 6 (liE g Q) = own))).length = 0 := by
          have : _ < 1 := f1
          omega
        rw [f3] at hQ
        have e2 : P = Q := Option.some.inj hQ
        have e3 : t = (A.filter (fun Q => decide (¬ g 6 (liE g Q) = own))).length := by omega
        rw [← e2, e3]; exact d2
  · rw [c1 66 (by decide) (by decide) (by decide)]; exact hl
theorem lp_X1_arrive {hB g h h1 : am_H} {sd : Int → Int} {n own m : Int} {A : List (List Int)} {P : List Int} (hn : 0 ≤ n ∧ n ≤ 8) (ho : hB 63 10 = own ∧ -1 ≤ own ∧ own ≤ 5) (hA : A.length < 256) (hm : 0 ≤ m ∧ m ≤ 5) (hme : g 6 (liE g P) = m) (hI : EaI hB g sd n own h A) (hPn : (P.length : Int) = n) (hl : liA (h 66) P) (c1 : ∀ c : Int, ¬ c = 64 → h1 c = h c) (c5 : A = [] → ∀ i : Int, 0 ≤ i → i < n → h1 64 i = h 66 i) (c6 : ¬ A = [] → h1 64 = h 64) : AW GC mX1_arrive 1 (am_QV (fun h' => EaI hB g sd n own h' (A ++ [P]) ∧ liA (h' 66) P)) 24 [some (am_R 63), some (am_I m), some (am_I (msP g sd P : Nat))] [] h1 := by
  have hI2 := hI
  obtain ⟨i1, i2, i3, ⟨s, s1, s2, s3⟩, i5, i6, i7⟩ := hI
  have e63 : h1 63 = h 63 := c1 63 (by decide)
  have hf : (A.filter (fun Q => decide (¬ g 6 (liE g Q) = own))).length ≤ A.length := List.length_filter_le _ _
  have o10 : h 63 10 = own := by rw [i2 10 (by decide) (by decide) (by decide)]; exact ho.1
  have hk : am_shl 1 m = ((2 ^ m.toNat : Nat) : Int) := by
    have := bt_shl1 (n := m.toNat) (by omega)
    rw [show ((m.toNat : Nat) : Int) = m by omega] at this
    exact this
  refine aw_aload_n dX1_arrive_24 rfl ?_
  first | refine aw_dupR dX1_arrive_25 ?_ | refine aw_dupI dX1_arrive_25 ?_
  refine aw_getI (kx := 1) fl_X1_59 dX1_arrive_26 rfl rfl rfl ?_
  rw [e63]
  refine aw_iconst dX1_arrive_29 ?_
  refine aw_iadd dX1_arrive_30 ?_
  refine aw_putI (kx := 1) fp_X1_59 dX1_arrive_31 rfl rfl rfl ?_
  refine aw_aload_n dX1_arrive_34 rfl ?_
  first | refine aw_dupR dX1_arrive_35 ?_ | refine aw_dupI dX1_arrive_35 ?_
  refine aw_getI (kx := 2) fl_X1_62 dX1_arrive_36 rfl rfl rfl ?_
  refine aw_top (show am_set h1 63 1 (h 63 1 + 1) 63 2 = h 63 2 by rw [am_set_i (by decide), e63]) ?_
  refine aw_iconst dX1_arrive_39 ?_
  refine aw_iload_n dX1_arrive_40 rfl ?_
  refine aw_ishl dX1_arrive_41 ?_
  refine aw_top hk ?_
  refine aw_ior dX1_arrive_42 ?_
  refine aw_putI (kx := 2) fp_X1_62 dX1_arrive_43 rfl rfl rfl ?_
  refine aw_iload_n dX1_arrive_46 rfl ?_
  refine aw_aload_n dX1_arrive_47 rfl ?_
  refine aw_getI (kx := 10) fl_X1_47 dX1_arrive_48 rfl rfl rfl ?_
  refine aw_top (show am_set (am_set h1 63 1 (h 63 1 + 1)) 63 2 (am_or (h 63 2) ((2 ^ m.toNat : Nat) : Int)) 63 10 = own by rw [am_set_i (by decide), am_set_i (by decide), e63]; exact o10) ?_
  refine aw_icmp_eq (tgt := 84) dX1_arrive_51 rfl (by omega) (by omega) (fun hc51 => ?_) (fun hc51 => ?_)
  · refine aw_vretQ dX1_arrive_84 rfl ?_
    refine hI2.push hm hme hPn hl (fun c a b d => ?_) (fun k a b d => ?_) ?_ ?_ (fun q i a b => ?_) (fun q => ?_) (fun q => ?_) (fun q => absurd hc51 q)
    · rw [am_set_c a, am_set_c a, c1 c b]
    · rw [am_set_i b, am_set_i a, e63]
    · rw [am_set_i (by decide), am_set_s]
    · rw [am_set_s]
    · rw [am_set_c (by decide), am_set_c (by decide)]; exact c5 q i a b
    · rw [am_set_c (by decide), am_set_c (by decide)]; exact c6 q
    · exact ⟨by rw [am_set_i (by decide), am_set_i (by decide), e63], by rw [am_set_c (by decide), am_set_c (by decide), c1 67 (by decide)]⟩
  · refine aw_aload_n dX1_arrive_54 rfl ?_
    refine aw_getI (kx := 8) fl_X1_65 dX1_arrive_55 rfl rfl rfl ?_
    refine aw_top (show am_set (am_set h1 63 1 (h 63 1 + 1)) 63 2 (am_or (h 63 2) ((2 ^ m.toNat : Nat) : Int)) 63 8 = h 63 8 by rw [am_set_i (by decide), am_set_i (by decide), e63]) ?_
    refine aw_sipush (by decide) dX1_arrive_58 ?_
    refine aw_icmp_ge (tgt := 84) dX1_arrive_61 rfl (by omega) (by omega) (fun hc61 => ?_) (fun hc61 => ?_)
    · omega
    · refine aw_aload_n dX1_arrive_64 rfl ?_
      refine aw_getR (kx := 6) fl_X1_21 dX1_arrive_65 rfl rfl rfl ?_
      refine aw_aload_n dX1_arrive_68 rfl ?_
      refine aw_getI (kx := 8) fl_X1_65 dX1_arrive_69 rfl rfl rfl ?_
      refine aw_top (show am_set (am_set h1 63 1 (h 63 1 + 1)) 63 2 (am_or (h 63 2) ((2 ^ m.toNat : Nat) : Int)) 63 8 = h 63 8 by rw [am_set_i (by decide), am_set_i (by decide), e63]) ?_
      refine aw_iload_n dX1_arrive_72 rfl ?_
      refine aw_iastore dX1_arrive_73 rfl (by decide) (by omega) ?_
      refine aw_aload_n dX1_arrive_74 rfl ?_
      first | refine aw_dupR dX1_arrive_75 ?_ | refine aw_dupI dX1_arrive_75 ?_
      refine aw_getI (kx := 8) fl_X1_65 dX1_arrive_76 rfl rfl rfl ?_
      refine aw_top (show am_set (am_set (am_set h1 63 1 (h 63 1 + 1)) 63 2 (am_or (h 63 2) ((2 ^ m.toNat : Nat) : Int))) 67 (h 63 8) ((msP g sd P : Nat) : Int) 63 8 = h 63 8 by rw [am_set_c (by decide), am_set_i (by decide), am_set_i (by decide), e63]) ?_
      refine aw_iconst dX1_arrive_79 ?_
      refine aw_iadd dX1_arrive_80 ?_
      refine aw_putI (kx := 8) fp_X1_65 dX1_arrive_81 rfl rfl rfl ?_
      refine aw_vretQ dX1_arrive_84 rfl ?_
      refine hI2.push hm hme hPn hl (fun c a b d => ?_) (fun k a b d => ?_) ?_ ?_ (fun q i a b => ?_) (fun q => ?_) (fun q => absurd q hc51) (fun q => ⟨?_, ?_, fun i a => ?_⟩)
      · rw [am_set_c a, am_set_c d, am_set_c a, am_set_c a, c1 c b]
      · rw [am_set_i d, am_set_c (by decide), am_set_i b, am_set_i a, e63]
      · rw [am_set_i (by decide), am_set_c (by decide), am_set_i (by decide), am_set_s]
      · rw [am_set_i (by decide), am_set_c (by decide), am_set_s]
      · rw [am_set_c (by decide), am_set_c (by decide), am_set_c (by decide), am_set_c (by decide)]; exact c5 q i a b
      · rw [am_set_c (by decide), am_set_c (by decide), am_set_c (by decide), am_set_c (by decide)]; exact c6 q
      · rw [am_set_s]
      · rw [am_set_c (by decide), am_set_s]
      · rw [am_set_c (by decide), am_set_i a, am_set_c (by decide), am_set_c (by decide), c1 67 (by decide)]
theorem c_X1_arrive {hB g h : am_H} {sd : Int → Int} {n own m : Int} {A : List (List Int)} {P : List Int} (hn : hB 63 0 = n ∧ 0 ≤ n ∧ n ≤ 8) (ho : hB 63 10 = own ∧ -1 ≤ own ∧ own ≤ 5) (hA : A.length < 256) (hm : 0 ≤ m ∧ m ≤ 5) (hme : g 6 (liE g P) = m) (hI : EaI hB g sd n own h A) (hPn : (P.length : Int) = n) (hl : liA (h 66) P) : AMet GC mX1_arrive 1 [am_R 63, am_I m, am_I (msP g sd P : Nat)] h (am_QV (fun h' => EaI hB g sd n own h' (A ++ [P]) ∧ liA (h' 66) P)) := by
  have e1 := hI.2.2.1
  have e0 : h 63 0 = n := by rw [hI.2.1 0 (by decide) (by decide) (by decide)]; exact hn.1
  have hAl : A = [] ↔ (A.length : Int) = 0 := by rw [← List.length_eq_zero_iff]; omega
  refine am_start [some (am_R 63), some (am_I m), some (am_I (msP g sd P : Nat))] rfl rfl (by decide) (Nat.le_of_ble_eq_true rfl) ?_
  refine aw_aload_n dX1_arrive_0 rfl ?_
  refine aw_getI (kx := 1) fl_X1_59 dX1_arrive_1 rfl rfl rfl ?_
  refine aw_if_ne (tgt := 24) dX1_arrive_4 rfl (by omega) (fun hc4 => ?_) (fun hc4 => ?_)
  · exact lp_X1_arrive hn.2 ho hA hm hme hI hPn hl (fun _ _ => rfl) (fun q => absurd (hAl.mp q) (by omega)) (fun _ => rfl)
  · refine aw_aload_n dX1_arrive_7 rfl ?_
    refine aw_getR (kx := 5) fl_X1_18 dX1_arrive_8 rfl rfl rfl ?_
    refine aw_iconst dX1_arrive_11 ?_
    refine aw_aload_n dX1_arrive_12 rfl ?_
    refine aw_getR (kx := 3) fl_X1_9 dX1_arrive_13 rfl rfl rfl ?_
    refine aw_iconst dX1_arrive_16 ?_
    refine aw_aload_n dX1_arrive_17 rfl ?_
    refine aw_getI (kx := 0) fl_X1_32 dX1_arrive_18 rfl rfl rfl ?_
    rw [e0]
    refine aw_copy lc_X1_36 dX1_arrive_21 rfl rfl (by decide) (by decide) (by omega) (by omega) (by omega) (by decide) (fun _ => Nat.le_of_ble_eq_true rfl) ?_
    refine lp_X1_arrive hn.2 ho hA hm hme hI hPn hl (fun c a => am_up_c a) (fun _ i a b => ?_) (fun q => absurd (hAl.mpr (by omega)) q)
    rw [am_up_s]; unfold am_cpy; rw [if_pos (by omega)]; congr 1; omega
