def EaC (hB g : am_H) (sd : Int → Int) (n sl own : Int) (lv k : Nat) : Prop := ∀ (P : List Int) (h : am_H) (A : List (List Int)), liV g P → (P.length : Int) + k = n → ((pcN 16 (msP g sd P) : Nat) : Int) ≤ sl → EaI hB g sd n own h A → liA (h 66) P → (A ++ arL g sd n sl k P).length ≤ 256 → AMet GC mX1_listen lv [am_R 63, am_I (liE g P), am_I P.length, am_I (msP g sd P : Nat)] h (am_QV (fun h' => EaI hB g sd n own h' (A ++ arL g sd n sl k P) ∧ liA (h' 66) P))
def EaB (hB g : am_H) (sd : Int → Int) (n sl own : Int) : Prop := MVs g ∧ MVy g ∧ ¬ g 0 6 = 0 ∧ SpR hB g ∧ (hB 63 0 = n ∧ 0 ≤ n ∧ n ≤ 8) ∧ (hB 63 9 = sl ∧ 0 ≤ sl ∧ sl ≤ 8) ∧ (hB 63 10 = own ∧ -1 ≤ own ∧ own ≤ 5) ∧ ∀ i : Int, 0 ≤ i → i < n → hB 65 i = sd i ∧ -2147483648 ≤ sd i ∧ sd i < 2147483648
theorem EaI.sp {hB g h : am_H} {sd : Int → Int} {n own : Int} {A : List (List Int)} (hI : EaI hB g sd n own h A) (hR : SpR hB g) : SpR h g := hR.of (fun c a b => hI.1 c (by omega) (by omega) (by omega) (by omega))
theorem EaI.path {hB g h : am_H} {sd : Int → Int} {n own i v : Int} {A : List (List Int)} (hI : EaI hB g sd n own h A) : EaI hB g sd n own (am_set h 66 i v) A := by
  unfold EaI
  rw [am_set_c (by decide), am_set_c (by decide), am_set_c (by decide)]
  exact ⟨fun c a b d e => by rw [am_set_c d]; exact hI.1 c a b d e, hI.2⟩
theorem lp_X1_follow {hB g h : am_H} {sd : Int → Int} {n sl own w : Int} {lv k : Nat} {A : List (List Int)} {P : List Int} {x4 : Option am_V} (hB' : EaB hB g sd n sl own) (hlv : 10 ≤ lv) (hC : EaC hB g sd n sl own lv k) (hv : liV g P) (hw : (0 ≤ w ∧ w < g 0 10) ∧ g 7 w = liE g P) (hl : (P.length : Int) + (k + 1) = n) (hI : EaI hB g sd n own h A) (hlA : liA (h 66) P) (hA : (A ++ arL g sd n sl k (w :: P)).length ≤ 256) : AW GC mX1_follow (lv + 1) (am_QV (fun h' => EaI hB g sd n own h' (A ++ arL g sd n sl k (w :: P)) ∧ liA (h' 66) P)) 52 [some (am_R 63), some (am_I w), some (am_I P.length), some (am_I (msP g sd P : Nat)), x4, some (am_I (msP g sd (w :: P) : Nat))] [] h := by
  obtain ⟨hs, hy, h0, hR, hn, hsl, ho, hsd⟩ := hB'
  have hR' := hI.sp hR
  have hww := hs.2.1
  have hlt : msP g sd (w :: P) < 512 := by
    have a1 := msP_lt g sd (w :: P)
    have a2 : 2 ^ (w :: P).length ≤ 2 ^ 8 := Nat.pow_le_pow_right (by decide) (by show P.length + 1 ≤ 8; omega)
    omega
  have e9 : h 63 9 = sl := by rw [hI.2.1 9 (by decide) (by decide) (by decide)]; exact hsl.1
  have hpl := pcN_le 16 (msP g sd (w :: P))
  have ht : am_set h 66 P.length w 21 w = g 8 w := by rw [am_set_c (by decide)]; exact (hR'.2.2.2.1 w hw.1.1 hw.1.2).2.1
  have hl2 : liA (am_set h 66 P.length w 66) (w :: P) := ⟨am_set_s _ _ _ _, liA_set P hlA (fun i hi => am_set_i (by omega))⟩
  refine aw_iload dX1_follow_52 rfl ?_
  refine aw_cS1IF (c_J6_bitCount rfl hlt) lk_X1_91 dX1_follow_54 (by omega) (fun _ => Nat.le_of_ble_eq_true rfl) ?_
  refine aw_aload_n dX1_follow_57 rfl ?_
  refine aw_getI (kx := 9) fl_X1_56 dX1_follow_58 rfl rfl rfl ?_
  refine aw_top e9 ?_
  refine aw_icmp_gt (tgt := 89) dX1_follow_61 rfl (by omega) (by omega) (fun hc61 => ?_) (fun hc61 => ?_)
  · refine aw_vretQ dX1_follow_89 rfl ?_
    rw [arL_no (by show P.length + 1 + k ≤ 16; omega) (by omega), List.append_nil]; exact ⟨hI, hlA⟩
  · refine aw_aload_n dX1_follow_64 rfl ?_
    refine aw_getR (kx := 5) fl_X1_18 dX1_follow_65 rfl rfl rfl ?_
    refine aw_iload_n dX1_follow_68 rfl ?_
    refine aw_iload_n dX1_follow_69 rfl ?_
    refine aw_iastore dX1_follow_70 rfl (by decide) (by omega) ?_
    refine aw_aload_n dX1_follow_71 rfl ?_
    refine aw_aload_n dX1_follow_72 rfl ?_
    refine aw_getR (kx := 7) fl_X1_24 dX1_follow_73 rfl rfl rfl ?_
    refine aw_getR (kx := 8) fl_X1_97 dX1_follow_76 rfl rfl rfl ?_
    refine aw_iload_n dX1_follow_79 rfl ?_
    refine aw_iaload dX1_follow_80 rfl (by decide) (by omega) ?_
    refine aw_top ht ?_
    refine aw_iload_n dX1_follow_81 rfl ?_
    refine aw_iconst dX1_follow_82 ?_
    refine aw_iadd dX1_follow_83 ?_
    refine aw_top (show (P.length : Int) + 1 = (((w :: P).length : Nat) : Int) from rfl) ?_
    refine aw_iload dX1_follow_84 rfl ?_
    refine aw_cV3V (hC (w :: P) _ A ⟨hw.1, hw.2, hv⟩ (by show ((P.length + 1 : Nat) : Int) + k = n; omega) (by omega) hI.path hl2 hA) lk_X1_68 dX1_follow_86 (by omega) rfl rfl (fun _ => Nat.le_of_ble_eq_true rfl) (fun h86 q86 => ?_)
    refine aw_vretQ dX1_follow_89 rfl ?_
    exact ⟨q86.1, q86.2.2⟩
theorem c_X1_follow {hB g h : am_H} {sd : Int → Int} {n sl own w : Int} {lv k : Nat} {A : List (List Int)} {P : List Int} (hB' : EaB hB g sd n sl own) (hlv : 10 ≤ lv) (hC : EaC hB g sd n sl own lv k) (hv : liV g P) (hw : (0 ≤ w ∧ w < g 0 10) ∧ g 7 w = liE g P) (hl : (P.length : Int) + (k + 1) = n) (hI : EaI hB g sd n own h A) (hlA : liA (h 66) P) (hA : (A ++ arL g sd n sl k (w :: P)).length ≤ 256) : AMet GC mX1_follow (lv + 1) [am_R 63, am_I w, am_I P.length, am_I (msP g sd P : Nat)] h (am_QV (fun h' => EaI hB g sd n own h' (A ++ arL g sd n sl k (w :: P)) ∧ liA (h' 66) P)) := by
  have hsd := hB'.2.2.2.2.2.2.2 P.length (by omega) (by omega)
  have hs := hB'.1
  have hR' := hI.sp hB'.2.2.2.1
  have hww := hs.2.1
  have hn := hB'.2.2.2.2.1
  have e65 : h 65 P.length = sd P.length := by rw [hI.1 65 (by decide) (by decide) (by decide) (by decide)]; exact hsd.1
  have e22 : h 22 w = g 9 w := (hR'.2.2.2.1 w hw.1.1 hw.1.2).2.2
  have hsw := (hs.2.2.2.2.1 w hw.1.1 hw.1.2).2.1
  have hlt := msP_lt g sd P
  have hp : 2 ^ P.length ≤ 2 ^ 8 := Nat.pow_le_pow_right (by decide) (by omega)
  have hmc := msP_cons g sd w P
  refine am_start [some (am_R 63), some (am_I w), some (am_I P.length), some (am_I (msP g sd P : Nat)), none, none] rfl rfl (by decide) (Nat.le_of_ble_eq_true rfl) ?_
  refine aw_aload_n dX1_follow_0 rfl ?_
  refine aw_getR (kx := 4) fl_X1_15 dX1_follow_1 rfl rfl rfl ?_
  refine aw_iload_n dX1_follow_4 rfl ?_
  refine aw_iaload dX1_follow_5 rfl (by decide) (by omega) ?_
  refine aw_top e65 ?_
  refine aw_bipush (by decide) dX1_follow_6 ?_
  refine aw_icmp_eq (tgt := 29) dX1_follow_8 rfl (by omega) (by omega) (fun hc8 => ?_) (fun hc8 => ?_)
  · refine aw_iconst dX1_follow_29 ?_
    refine aw_goto (tgt := 34) dX1_follow_30 rfl ?_
    refine aw_istore4 dX1_follow_34 (by decide) rfl ?_
    refine aw_iload dX1_follow_36 rfl ?_
    refine aw_if_eq (tgt := 45) dX1_follow_38 rfl (by omega) (fun hc38 => ?_) (fun hc38 => ?_)
    · omega
    · refine aw_iload_n dX1_follow_41 rfl ?_
      refine aw_goto (tgt := 50) dX1_follow_42 rfl ?_
      refine aw_istore5 dX1_follow_50 (by decide) rfl ?_
      rw [if_pos (Or.inl hc8)] at hmc
      refine aw_ls ?_ (lp_X1_follow (x4 := some (am_I 1)) hB' hlv hC hv hw hl hI hlA hA); rw [hmc]
  · refine aw_aload_n dX1_follow_11 rfl ?_
    refine aw_getR (kx := 4) fl_X1_15 dX1_follow_12 rfl rfl rfl ?_
    refine aw_iload_n dX1_follow_15 rfl ?_
    refine aw_iaload dX1_follow_16 rfl (by decide) (by omega) ?_
    refine aw_top e65 ?_
    refine aw_aload_n dX1_follow_17 rfl ?_
    refine aw_getR (kx := 7) fl_X1_24 dX1_follow_18 rfl rfl rfl ?_
    refine aw_getR (kx := 9) fl_X1_42 dX1_follow_21 rfl rfl rfl ?_
    refine aw_iload_n dX1_follow_24 rfl ?_
    refine aw_iaload dX1_follow_25 rfl (by decide) (by omega) ?_
    refine aw_top e22 ?_
    refine aw_icmp_ne (tgt := 33) dX1_follow_26 rfl (by omega) (by omega) (fun hc26 => ?_) (fun hc26 => ?_)
    · refine aw_iconst dX1_follow_33 ?_
      refine aw_istore4 dX1_follow_34 (by decide) rfl ?_
      refine aw_iload dX1_follow_36 rfl ?_
      refine aw_if_eq (tgt := 45) dX1_follow_38 rfl (by omega) (fun hc38 => ?_) (fun hc38 => ?_)
      · refine aw_iload_n dX1_follow_45 rfl ?_
        refine aw_iconst dX1_follow_46 ?_
        refine aw_iload_n dX1_follow_47 rfl ?_
        refine aw_ishl dX1_follow_48 ?_
        refine aw_top (bt_shl1 (n := P.length) (by omega)) ?_
        refine aw_ior dX1_follow_49 ?_
        refine aw_top (bt_or2 hlt (by omega)) ?_
        refine aw_istore5 dX1_follow_50 (by decide) rfl ?_
        rw [if_neg (fun z => z.elim hc8 hc26)] at hmc
        refine aw_ls ?_ (lp_X1_follow (x4 := some (am_I 0)) hB' hlv hC hv hw hl hI hlA hA); rw [hmc]; rfl
      · omega
    · refine aw_iconst dX1_follow_29 ?_
      refine aw_goto (tgt := 34) dX1_follow_30 rfl ?_
      refine aw_istore4 dX1_follow_34 (by decide) rfl ?_
      refine aw_iload dX1_follow_36 rfl ?_
      refine aw_if_eq (tgt := 45) dX1_follow_38 rfl (by omega) (fun hc38 => ?_) (fun hc38 => ?_)
      · omega
      · refine aw_iload_n dX1_follow_41 rfl ?_
        refine aw_goto (tgt := 50) dX1_follow_42 rfl ?_
        refine aw_istore5 dX1_follow_50 (by decide) rfl ?_
        rw [if_pos (Or.inr hc26)] at hmc
        refine aw_ls ?_ (lp_X1_follow (x4 := some (am_I 1)) hB' hlv hC hv hw hl hI hlA hA); rw [hmc]
theorem tk_fm {γ : Type} {L : List Int} {j : Nat} {w : Int} (h : L[j]? = some w) (f : Int → List γ) : (L.take (j + 1)).flatMap f = (L.take j).flatMap f ++ f w := by
  rw [List.take_add_one, h, List.flatMap_append]
  show _ ++ (f w ++ []) = _
  rw [List.append_nil]
theorem tk_fl {γ : Type} (L : List Int) (j : Nat) (f : Int → List γ) : ((L.take j).flatMap f).length ≤ (L.flatMap f).length := by
  have e : L.flatMap f = (L.take j).flatMap f ++ (L.drop j).flatMap f := by rw [← List.flatMap_append, List.take_append_drop]
  rw [e, List.length_append]; omega
theorem lp_X1_listen {hB g : am_H} {sd : Int → Int} {n sl own : Int} {lv k : Nat} {A : List (List Int)} {P : List Int} (hB' : EaB hB g sd n sl own) (hlv : 10 ≤ lv) (hC : EaC hB g sd n sl own lv k) (hv : liV g P) (hl : (P.length : Int) + (k + 1) = n) (hA : (A ++ arL g sd n sl (k + 1) P).length ≤ 256) : ∀ (m j : Nat) (h : am_H), (j : Int) ≤ dgF g (liE g P) → dgF g (liE g P) - j < m → EaI hB g sd n own h (A ++ ((wl (g 7) (liE g P) (nwN g)).take j).flatMap (fun w => arL g sd n sl k (w :: P))) → liA (h 66) P → AW GC mX1_listen (lv + 2) (am_QV (fun h' => EaI hB g sd n own h' (A ++ arL g sd n sl (k + 1) P) ∧ liA (h' 66) P)) 11 [some (am_R 63), some (am_I (liE g P)), some (am_I P.length), some (am_I (msP g sd P : Nat)), some (am_I j)] [] h := by
  have hs := hB'.1
  have hnn := hs.1
  have hx := liE_rng hs hB'.2.1 hB'.2.2.1 P hv
  have hd4 : dgF g (liE g P) ≤ 4 := hs.2.2.2.2.2.2.1 _
  have hl' := dg_len g (liE g P)
  rw [arL_s (by omega)] at hA
  rw [arL_s (by omega)]
  intro m
  induction m with
  | zero => intro j h h1 h2; omega
  | succ m ih =>
    intro j h h1 h2 hI hlA
    have hR' := hI.sp hB'.2.2.2.1
    have hdg := (hR'.2.1 (liE g P) (by omega) hx.2).2.2
    by_cases hj : (j : Int) < dgF g (liE g P)
    · obtain ⟨w, w1, w2, w3, w4⟩ := sp_at hs hR' ⟨by omega, hx.2⟩ hj
      have hf := tk_fm w1 (fun w => arL g sd n sl k (w :: P))
      have hle := tk_fl (wl (g 7) (liE g P) (nwN g)) (j + 1) (fun w => arL g sd n sl k (w :: P))
      have hA2 : (A ++ ((wl (g 7) (liE g P) (nwN g)).take j).flatMap (fun w => arL g sd n sl k (w :: P)) ++ arL g sd n sl k (w :: P)).length ≤ 256 := by
        rw [List.append_assoc, ← hf, List.length_append]
        rw [List.length_append] at hA
        omega
      refine aw_iload dX1_listen_11 rfl ?_
      refine aw_aload_n dX1_listen_13 rfl ?_
      refine aw_getR (kx := 7) fl_X1_24 dX1_listen_14 rfl rfl rfl ?_
      refine aw_getR (kx := 5) fl_X1_72 dX1_listen_17 rfl rfl rfl ?_
      refine aw_iload_n dX1_listen_20 rfl ?_
      refine aw_iaload dX1_listen_21 rfl (by decide) (by omega) ?_
      refine aw_icmp_ge (tgt := 47) dX1_listen_22 rfl (by omega) (by omega) (fun hc22 => ?_) (fun hc22 => ?_)
      · omega
      · refine aw_aload_n dX1_listen_25 rfl ?_
        refine aw_aload_n dX1_listen_26 rfl ?_
        refine aw_getR (kx := 7) fl_X1_24 dX1_listen_27 rfl rfl rfl ?_
        refine aw_iload_n dX1_listen_30 rfl ?_
        refine aw_iload dX1_listen_31 rfl ?_
        refine aw_cV2IF (c_X5_wordAt (by omega)) lk_X1_75 dX1_listen_33 (by omega) rfl rfl (fun _ => Nat.le_of_ble_eq_true rfl) ?_
        refine aw_top w2 ?_
        refine aw_iload_n dX1_listen_36 rfl ?_
        refine aw_iload_n dX1_listen_37 rfl ?_
        refine aw_cV3V (c_X1_follow hB' hlv hC hv ⟨w3, w4⟩ hl hI hlA hA2) lk_X1_78 dX1_listen_38 (by omega) rfl rfl (fun _ => Nat.le_of_ble_eq_true rfl) (fun h38 q38 => ?_)
        refine aw_iinc4 dX1_listen_41 (by decide) rfl ?_
        refine aw_goto (tgt := 11) dX1_listen_44 rfl ?_
        exact ih (j + 1) h38 (by omega) (by omega) (by rw [hf, ← List.append_assoc]; exact q38.1) q38.2
    · refine aw_iload dX1_listen_11 rfl ?_
      refine aw_aload_n dX1_listen_13 rfl ?_
      refine aw_getR (kx := 7) fl_X1_24 dX1_listen_14 rfl rfl rfl ?_
      refine aw_getR (kx := 5) fl_X1_72 dX1_listen_17 rfl rfl rfl ?_
      refine aw_iload_n dX1_listen_20 rfl ?_
      refine aw_iaload dX1_listen_21 rfl (by decide) (by omega) ?_
      refine aw_icmp_ge (tgt := 47) dX1_listen_22 rfl (by omega) (by omega) (fun hc22 => ?_) (fun hc22 => ?_)
      · refine aw_goto (tgt := 75) dX1_listen_47 rfl ?_
        refine aw_vretQ dX1_listen_75 rfl ?_
        rw [List.take_of_length_le (by omega)] at hI; exact ⟨hI, hlA⟩
      · omega
theorem c_X1_listen {hB g : am_H} {sd : Int → Int} {n sl own : Int} (hB' : EaB hB g sd n sl own) : ∀ k : Nat, EaC hB g sd n sl own (12 + 2 * k) k
  | 0, P, h, A, hv, hl, hp, hI, hlA, hA => by
    obtain ⟨hs, hy, h0, hR, hn, hsl, ho, hsd⟩ := hB'
    have hnn := hs.1
    have hx := liE_rng hs hy h0 P hv
    have hR' := hI.sp hR
    have hkd := hs.2.2.2.1 (liE g P) (by omega) hx.2
    have hk := hR'.2.1 (liE g P) (by omega) hx.2
    have e0 : h 63 0 = n := by rw [hI.2.1 0 (by decide) (by decide) (by decide)]; exact hn.1
    rw [arL_0 (by omega) hp] at hA ⊢
    refine am_start [some (am_R 63), some (am_I (liE g P)), some (am_I P.length), some (am_I (msP g sd P : Nat)), none] rfl rfl (by decide) (Nat.le_of_ble_eq_true rfl) ?_
    by_cases e : fin (g 5 (liE g P))
    · rw [if_pos e] at hA ⊢
      have hA2 : A.length + 1 ≤ 256 := by rw [List.length_append] at hA; exact hA
      have em : h 17 (liE g P) = g 6 (liE g P) := by rw [hk.2.1, if_pos e]
      refine aw_iload_n dX1_listen_0 rfl ?_
      refine aw_aload_n dX1_listen_1 rfl ?_
      refine aw_getI (kx := 0) fl_X1_32 dX1_listen_2 rfl rfl rfl ?_
      refine aw_icmp_ge (tgt := 50) dX1_listen_5 rfl (by omega) (by omega) (fun hc5 => ?_) (fun hc5 => ?_)
      · refine aw_aload_n dX1_listen_50 rfl ?_
        refine aw_getR (kx := 7) fl_X1_24 dX1_listen_51 rfl rfl rfl ?_
        refine aw_iload_n dX1_listen_54 rfl ?_
        refine aw_cV1IF (c_X5_isEnd hs hR' (by omega)) lk_X1_81 dX1_listen_55 (by omega) rfl rfl (fun _ => Nat.le_of_ble_eq_true rfl) ?_
        refine aw_ifb_eq (tgt := 75) dX1_listen_58 rfl (fun hc58 => ?_) (fun hc58 => ?_)
        · exact absurd e hc58
        · refine aw_aload_n dX1_listen_61 rfl ?_
          refine aw_aload_n dX1_listen_62 rfl ?_
          refine aw_getR (kx := 7) fl_X1_24 dX1_listen_63 rfl rfl rfl ?_
          refine aw_getR (kx := 4) fl_X1_85 dX1_listen_66 rfl rfl rfl ?_
          refine aw_iload_n dX1_listen_69 rfl ?_
          refine aw_iaload dX1_listen_70 rfl (by decide) (by omega) ?_
          refine aw_top em ?_
          refine aw_iload_n dX1_listen_71 rfl ?_
          refine aw_cV2V (c_X1_arrive hn ho (by omega) hkd.2 rfl hI (by omega) hlA) lk_X1_88 dX1_listen_72 (by omega) rfl rfl (fun _ => Nat.le_of_ble_eq_true rfl) (fun h72 q72 => ?_)
          refine aw_vretQ dX1_listen_75 rfl ?_
          exact q72
      · omega
    · rw [if_neg e, List.append_nil]
      refine aw_iload_n dX1_listen_0 rfl ?_
      refine aw_aload_n dX1_listen_1 rfl ?_
      refine aw_getI (kx := 0) fl_X1_32 dX1_listen_2 rfl rfl rfl ?_
      refine aw_icmp_ge (tgt := 50) dX1_listen_5 rfl (by omega) (by omega) (fun hc5 => ?_) (fun hc5 => ?_)
      · refine aw_aload_n dX1_listen_50 rfl ?_
        refine aw_getR (kx := 7) fl_X1_24 dX1_listen_51 rfl rfl rfl ?_
        refine aw_iload_n dX1_listen_54 rfl ?_
        refine aw_cV1IF (c_X5_isEnd hs hR' (by omega)) lk_X1_81 dX1_listen_55 (by omega) rfl rfl (fun _ => Nat.le_of_ble_eq_true rfl) ?_
        refine aw_ifb_eq (tgt := 75) dX1_listen_58 rfl (fun hc58 => ?_) (fun hc58 => ?_)
        · refine aw_vretQ dX1_listen_75 rfl ?_
          exact ⟨hI, hlA⟩
        · exact absurd hc58 e
      · omega
  | k + 1, P, h, A, hv, hl, hp, hI, hlA, hA => by
    have ih := c_X1_listen hB' k
    have hs := hB'.1
    have hn := hB'.2.2.2.2.1
    have hd4 : dgF g (liE g P) ≤ 4 := hs.2.2.2.2.2.2.1 _
    have hd0 : 0 ≤ dgF g (liE g P) := (cntF_rng _ _ _).1
    have e0 : h 63 0 = n := by rw [hI.2.1 0 (by decide) (by decide) (by decide)]; exact hn.1
    refine am_start [some (am_R 63), some (am_I (liE g P)), some (am_I P.length), some (am_I (msP g sd P : Nat)), none] rfl rfl (by decide) (Nat.le_of_ble_eq_true rfl) ?_
    refine aw_iload_n dX1_listen_0 rfl ?_
    refine aw_aload_n dX1_listen_1 rfl ?_
    refine aw_getI (kx := 0) fl_X1_32 dX1_listen_2 rfl rfl rfl ?_
    refine aw_icmp_ge (tgt := 50) dX1_listen_5 rfl (by omega) (by omega) (fun hc5 => ?_) (fun hc5 => ?_)
    · omega
    · refine aw_iconst dX1_listen_8 ?_
      refine aw_istore4 dX1_listen_9 (by decide) rfl ?_
      exact lp_X1_listen hB' (by omega) ih hv (by omega) hA 5 0 h (by omega) (by omega) (by rw [List.take_zero]; show EaI _ _ _ _ _ _ (A ++ []); rw [List.append_nil]; exact hI) hlA
