/-- the strangers as they lie in the ear -/
def StR (h g : am_H) (sd : Int → Int) (n : Nat) (F : List (List Int)) : Prop := h 63 8 = F.length ∧ F.length ≤ 256 ∧ (∀ (s : Nat) (Q : List Int), F[s]? = some Q → h 67 s = ((msP g sd Q : Nat) : Int)) ∧ (∀ Q ∈ F, msP g sd Q < 2 ^ n) ∧ h 63 0 = n ∧ n ≤ 8
theorem lp_X1_findsOutAll {h g : am_H} {sd : Int → Int} {n s : Nat} {F : List (List Int)} (hS : StR h g sd n F) (hs : s < 2 ^ n) : ∀ (m j : Nat), j ≤ F.length → F.length - j < m → foB g sd (F.take j) s = true → AW GC mX1_findsOutAll 1 (am_FI (if foB g sd F s = true then 1 else 0) h) 2 [some (am_R 63), some (am_I s), some (am_I j)] [] h := by
  obtain ⟨b8, bl, bs, bm, b0, bn⟩ := hS
  have hp : 2 ^ n ≤ 2 ^ 8 := Nat.pow_le_pow_right (by decide) bn
  intro m
  induction m with
  | zero => intro j h1 h2; omega
  | succ m ih =>
    intro j h1 h2 ht
    by_cases hj : j < F.length
    · have hg : F[j]? = some F[j] := List.getElem?_eq_getElem hj
      have e1 := bs j _ hg
      have e2 := bm _ (List.getElem_mem hj)
      generalize F[j] = Q at hg e1 e2
      have e3 : foB g sd (F.take (j + 1)) s = (foB g sd (F.take j) s && decide (¬ msP g sd Q &&& s = 0)) := by
        unfold foB
        rw [List.take_add_one, hg, List.all_append]
        show (_ && (decide (¬ msP g sd Q &&& s = 0) && true)) = _
        rw [Bool.and_true]
      have hF : (msP g sd Q &&& s = 0) → foB g sd F s = false := by
        intro z
        cases q : foB g sd F s with
        | false => rfl
        | true =>
          unfold foB at q
          rw [List.all_eq_true] at q
          have := q Q (List.mem_of_getElem? hg)
          rw [decide_eq_true_eq] at this
          exact absurd z this
      have hle : msP g sd Q &&& s ≤ msP g sd Q := Nat.and_le_left
      refine aw_iload_n dX1_findsOutAll_2 rfl ?_
      refine aw_aload_n dX1_findsOutAll_3 rfl ?_
      refine aw_getI (kx := 8) fl_X1_65 dX1_findsOutAll_4 rfl rfl rfl ?_
      refine aw_icmp_ge (tgt := 29) dX1_findsOutAll_7 rfl (by omega) (by omega) (fun hc7 => ?_) (fun hc7 => ?_)
      · omega
      · refine aw_aload_n dX1_findsOutAll_10 rfl ?_
        refine aw_getR (kx := 6) fl_X1_21 dX1_findsOutAll_11 rfl rfl rfl ?_
        refine aw_iload_n dX1_findsOutAll_14 rfl ?_
        refine aw_iaload dX1_findsOutAll_15 rfl (by decide) (by omega) ?_
        refine aw_top e1 ?_
        refine aw_iload_n dX1_findsOutAll_16 rfl ?_
        refine aw_iand dX1_findsOutAll_17 ?_
        refine aw_top (bt_and (by omega)) ?_
        refine aw_if_ne (tgt := 23) dX1_findsOutAll_18 rfl (by omega) (fun hc18 => ?_) (fun hc18 => ?_)
        · refine aw_iinc2 dX1_findsOutAll_23 (by decide) rfl ?_
          refine aw_goto (tgt := 2) dX1_findsOutAll_26 rfl ?_
          exact ih (j + 1) (by omega) (by omega) (by rw [e3, ht, Bool.true_and]; exact decide_eq_true (by omega))
        · refine aw_iconst dX1_findsOutAll_21 ?_
          refine aw_zretF dX1_findsOutAll_22 rfl (by omega) ?_
          exact ⟨by rw [if_neg (by rw [hF (by omega)]; decide)], rfl⟩
    · rw [List.take_of_length_le (by omega)] at ht
      refine aw_iload_n dX1_findsOutAll_2 rfl ?_
      refine aw_aload_n dX1_findsOutAll_3 rfl ?_
      refine aw_getI (kx := 8) fl_X1_65 dX1_findsOutAll_4 rfl rfl rfl ?_
      refine aw_icmp_ge (tgt := 29) dX1_findsOutAll_7 rfl (by omega) (by omega) (fun hc7 => ?_) (fun hc7 => ?_)
      · refine aw_iconst dX1_findsOutAll_29 ?_
        refine aw_zretF dX1_findsOutAll_30 rfl (by omega) ?_
        exact ⟨by rw [if_pos ht], rfl⟩
      · omega
theorem c_X1_findsOutAll {h g : am_H} {sd : Int → Int} {n s : Nat} {F : List (List Int)} (hS : StR h g sd n F) (hs : s < 2 ^ n) : AMet GC mX1_findsOutAll 1 [am_R 63, am_I s] h (am_FI (if foB g sd F s = true then 1 else 0) h) := by
  refine am_start [some (am_R 63), some (am_I s), none] rfl rfl (by decide) (Nat.le_of_ble_eq_true rfl) ?_
  refine aw_iconst dX1_findsOutAll_0 ?_
  refine aw_istore_2 dX1_findsOutAll_1 (by decide) rfl ?_
  exact lp_X1_findsOutAll hS hs _ 0 (by omega) (Nat.lt_succ_self _) rfl
theorem lp_X1_fewestPlaces {h g : am_H} {sd : Int → Int} {n : Nat} {F : List (List Int)} (hS : StR h g sd n F) : ∀ (m s : Nat), s ≤ 2 ^ n → 2 ^ n - s < m → AW GC mX1_fewestPlaces 2 (am_FI ((cbF (foB g sd F) (2 ^ n - 1) (2 ^ n) : Nat) : Int) h) 11 [some (am_R 63), some (am_I (cbF (foB g sd F) (2 ^ n - 1) s : Nat)), some (am_I s)] [] h := by
  have b0 := hS.2.2.2.2.1
  have bn := hS.2.2.2.2.2
  have hp : 2 ^ n ≤ 2 ^ 8 := Nat.pow_le_pow_right (by decide) bn
  have hp0 : 0 < 2 ^ n := Nat.pow_pos (by decide)
  have hsh : am_shl 1 n = ((2 ^ n : Nat) : Int) := bt_shl1 (by omega)
  intro m
  induction m with
  | zero => intro s h1 h2; omega
  | succ m ih =>
    intro s h1 h2
    have hc := cbF_lt (U := foB g sd F) (b := 2 ^ n - 1) (n := n) (by omega) s h1
    have e1 : cbF (foB g sd F) (2 ^ n - 1) (s + 1) = if pcN 16 s < pcN 16 (cbF (foB g sd F) (2 ^ n - 1) s) ∧ foB g sd F s = true then s else cbF (foB g sd F) (2 ^ n - 1) s := rfl
    have p1 := pcN_le 16 s
    have p2 := pcN_le 16 (cbF (foB g sd F) (2 ^ n - 1) s)
    by_cases hj : s < 2 ^ n
    · refine aw_iload_n dX1_fewestPlaces_11 rfl ?_
      refine aw_iconst dX1_fewestPlaces_12 ?_
      refine aw_aload_n dX1_fewestPlaces_13 rfl ?_
      refine aw_getI (kx := 0) fl_X1_32 dX1_fewestPlaces_14 rfl rfl rfl ?_
      refine aw_top b0 ?_
      refine aw_ishl dX1_fewestPlaces_17 ?_
      refine aw_top hsh ?_
      refine aw_icmp_ge (tgt := 48) dX1_fewestPlaces_18 rfl (by omega) (by omega) (fun hc18 => ?_) (fun hc18 => ?_)
      · omega
      · refine aw_iload_n dX1_fewestPlaces_21 rfl ?_
        refine aw_cS1IF (c_J6_bitCount rfl (by omega)) lk_X1_91 dX1_fewestPlaces_22 (by decide) (fun _ => Nat.le_of_ble_eq_true rfl) ?_
        refine aw_iload_n dX1_fewestPlaces_25 rfl ?_
        refine aw_cS1IF (c_J6_bitCount rfl (by omega)) lk_X1_91 dX1_fewestPlaces_26 (by decide) (fun _ => Nat.le_of_ble_eq_true rfl) ?_
        refine aw_icmp_ge (tgt := 42) dX1_fewestPlaces_29 rfl (by omega) (by omega) (fun hc29 => ?_) (fun hc29 => ?_)
        · refine aw_iinc2 dX1_fewestPlaces_42 (by decide) rfl ?_
          refine aw_goto (tgt := 11) dX1_fewestPlaces_45 rfl ?_
          rw [if_neg (by omega)] at e1
          refine aw_ls ?_ (ih (s + 1) (by omega) (by omega)); rw [e1]; rfl
        · refine aw_aload_n dX1_fewestPlaces_32 rfl ?_
          refine aw_iload_n dX1_fewestPlaces_33 rfl ?_
          refine aw_cV1IF (c_X1_findsOutAll hS hj) lk_X1_100 dX1_fewestPlaces_34 (by decide) rfl rfl (fun _ => Nat.le_of_ble_eq_true rfl) ?_
          refine aw_ifb_eq (tgt := 42) dX1_fewestPlaces_37 rfl (fun hc37 => ?_) (fun hc37 => ?_)
          · refine aw_iinc2 dX1_fewestPlaces_42 (by decide) rfl ?_
            refine aw_goto (tgt := 11) dX1_fewestPlaces_45 rfl ?_
            rw [if_neg (fun z => hc37 z.2)] at e1
            refine aw_ls ?_ (ih (s + 1) (by omega) (by omega)); rw [e1]; rfl
          · refine aw_iload_n dX1_fewestPlaces_40 rfl ?_
            refine aw_istore_1 dX1_fewestPlaces_41 (by decide) rfl ?_
            refine aw_iinc2 dX1_fewestPlaces_42 (by decide) rfl ?_
            refine aw_goto (tgt := 11) dX1_fewestPlaces_45 rfl ?_
            rw [if_pos ⟨by omega, hc37⟩] at e1
            refine aw_ls ?_ (ih (s + 1) (by omega) (by omega)); rw [e1]; rfl
    · refine aw_iload_n dX1_fewestPlaces_11 rfl ?_
      refine aw_iconst dX1_fewestPlaces_12 ?_
      refine aw_aload_n dX1_fewestPlaces_13 rfl ?_
      refine aw_getI (kx := 0) fl_X1_32 dX1_fewestPlaces_14 rfl rfl rfl ?_
      refine aw_top b0 ?_
      refine aw_ishl dX1_fewestPlaces_17 ?_
      refine aw_top hsh ?_
      refine aw_icmp_ge (tgt := 48) dX1_fewestPlaces_18 rfl (by omega) (by omega) (fun hc18 => ?_) (fun hc18 => ?_)
      · refine aw_iload_n dX1_fewestPlaces_48 rfl ?_
        refine aw_iretF dX1_fewestPlaces_49 rfl ?_
        exact ⟨by rw [show s = 2 ^ n by omega], rfl⟩
      · omega
theorem c_X1_fewestPlaces {h g : am_H} {sd : Int → Int} {n : Nat} {F : List (List Int)} (hS : StR h g sd n F) : AMet GC mX1_fewestPlaces 2 [am_R 63] h (am_FI ((cbF (foB g sd F) (2 ^ n - 1) (2 ^ n) : Nat) : Int) h) := by
  have b0 := hS.2.2.2.2.1
  have bn := hS.2.2.2.2.2
  have hp : 2 ^ n ≤ 2 ^ 8 := Nat.pow_le_pow_right (by decide) bn
  have hp0 : 0 < 2 ^ n := Nat.pow_pos (by decide)
  have hsh : am_shl 1 n = ((2 ^ n : Nat) : Int) := bt_shl1 (by omega)
  refine am_start [some (am_R 63), none, none] rfl rfl (by decide) (Nat.le_of_ble_eq_true rfl) ?_
  refine aw_iconst dX1_fewestPlaces_0 ?_
  refine aw_aload_n dX1_fewestPlaces_1 rfl ?_
  refine aw_getI (kx := 0) fl_X1_32 dX1_fewestPlaces_2 rfl rfl rfl ?_
  refine aw_top b0 ?_
  refine aw_ishl dX1_fewestPlaces_5 ?_
  refine aw_top hsh ?_
  refine aw_iconst dX1_fewestPlaces_6 ?_
  refine aw_isub dX1_fewestPlaces_7 ?_
  refine aw_top (show ((2 ^ n : Nat) : Int) - 1 = ((2 ^ n - 1 : Nat) : Int) by omega) ?_
  refine aw_istore_1 dX1_fewestPlaces_8 (by decide) rfl ?_
  refine aw_iconst dX1_fewestPlaces_9 ?_
  refine aw_istore_2 dX1_fewestPlaces_10 (by decide) rfl ?_
  exact lp_X1_fewestPlaces hS _ 0 (by omega) (Nat.lt_succ_self _)
theorem ea_str {hB g h : am_H} {sd : Int → Int} {n sl own : Int} (hB' : EaB hB g sd n sl own) (hI : EaI hB g sd n own h (arL g sd n sl n.toNat [])) : StR h g sd n.toNat (strL g own (arL g sd n sl n.toNat [])) := by
  have hn := hB'.2.2.2.2.1
  have hlen := arL_len (sd := sd) (n := n) (sl := sl) hB'.1 hB'.2.1 hB'.2.2.1 n.toNat [] trivial (by show ((0 : Nat) : Int) + _ = _; omega)
  have h256 := ltP_256 hB'.1 (liE g [])
  have hf : (strL g own (arL g sd n sl n.toNat [])).length ≤ (arL g sd n sl n.toNat []).length := List.length_filter_le _ _
  refine ⟨hI.2.2.2.2.2.1, by omega, hI.2.2.2.2.2.2, fun Q hQ => ?_, ?_, by omega⟩
  · rw [strL, List.mem_filter, arL, List.mem_filter, decide_eq_true_eq] at hQ
    have hl := hQ.1.2.1.1
    have := msP_lt g sd Q
    rw [show Q.length = n.toNat by omega] at this
    exact this
  · rw [hI.2.1 0 (by decide) (by decide) (by decide), hn.1]; omega
