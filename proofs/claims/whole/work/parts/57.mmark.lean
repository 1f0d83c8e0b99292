theorem c_X8_asked {g : am_H} : AMet GM mX8_asked 1 [am_R 0] g (am_FI (g 0 20) g) := by
  refine am_start [some (am_R 0)] rfl rfl (by decide) (Nat.le_of_ble_eq_true rfl) ?_
  refine aw_aload_n dX8_asked_0 rfl ?_
  refine aw_getI (kx := 20) fl_X8_128 dX8_asked_1 rfl rfl rfl ?_
  refine aw_iretF dX8_asked_4 rfl ?_
  exact ⟨rfl, rfl⟩
theorem c_X8_upper {g : am_H} : AMet GM mX8_upper 1 [am_R 0] g (am_FJ (g 0 21) g) := by
  refine am_start [some (am_R 0)] rfl rfl (by decide) (Nat.le_of_ble_eq_true rfl) ?_
  refine aw_aload_n dX8_upper_0 rfl ?_
  refine aw_getJ (kx := 21) fl_X8_302 dX8_upper_1 rfl rfl rfl ?_
  refine aw_lretF dX8_upper_4 rfl ?_
  exact ⟨rfl, rfl⟩
theorem c_X8_lower {g : am_H} : AMet GM mX8_lower 1 [am_R 0] g (am_FJ (g 0 22) g) := by
  refine am_start [some (am_R 0)] rfl rfl (by decide) (Nat.le_of_ble_eq_true rfl) ?_
  refine aw_aload_n dX8_lower_0 rfl ?_
  refine aw_getJ (kx := 22) fl_X8_55 dX8_lower_1 rfl rfl rfl ?_
  refine aw_lretF dX8_lower_4 rfl ?_
  exact ⟨rfl, rfl⟩
theorem c_X8_finding {g : am_H} : AMet GM mX8_finding 1 [am_R 0] g (am_FI (g 0 23) g) := by
  refine am_start [some (am_R 0)] rfl rfl (by decide) (Nat.le_of_ble_eq_true rfl) ?_
  refine aw_aload_n dX8_finding_0 rfl ?_
  refine aw_getI (kx := 23) fl_X8_124 dX8_finding_1 rfl rfl rfl ?_
  refine aw_iretF dX8_finding_4 rfl ?_
  exact ⟨rfl, rfl⟩
def S_findings (g : am_H) (f : Int) : Int × am_H := if 1 ≤ f ∧ f ≤ 5 then (g 16 f, g) else (-1, g)
theorem c_X8_findings {g : am_H} {f : Int} (hf : -2147483648 ≤ f ∧ f < 2147483648) : AMet GM mX8_findings 2 [am_R 0, am_I f] g (QM (S_findings g f)) := by
  refine am_start [some (am_R 0), some (am_I f)] rfl rfl (by decide) (Nat.le_of_ble_eq_true rfl) ?_
  refine aw_iload_n dX8_findings_0 rfl ?_
  refine aw_i2l (by omega) dX8_findings_1 ?_
  refine aw_lconst (v := 1) dX8_findings_2 rfl ?_
  refine aw_ldc2 (n := 5) kj_X8_131 rfl dX8_findings_3 ?_
  refine aw_cS3IF (c_X8_in (by omega) (by omega) (by omega)) lk_X8_133 dX8_findings_6 (by decide) (fun _ => Nat.le_of_ble_eq_true rfl) ?_
  refine aw_ifb_eq (tgt := 21) dX8_findings_9 rfl (fun hc9 => ?_) (fun hc9 => ?_)
  · refine aw_iconst dX8_findings_21 ?_
    refine aw_iretQ dX8_findings_22 rfl ?_
    rw [S_findings, if_neg (by omega)]; exact ⟨rfl, MEq.rf _⟩
  · refine aw_aload_n dX8_findings_12 rfl ?_
    refine aw_getR (kx := 24) fl_X8_59 dX8_findings_13 rfl rfl rfl ?_
    refine aw_iload_n dX8_findings_16 rfl ?_
    refine aw_iaload dX8_findings_17 rfl (by decide) (by omega) ?_
    refine aw_goto (tgt := 22) dX8_findings_18 rfl ?_
    refine aw_iretQ dX8_findings_22 rfl ?_
    rw [S_findings, if_pos (by omega)]; exact ⟨rfl, MEq.rf _⟩
abbrev isK (of k : Int) : Prop := of = k ∨ (of = 4 ∧ k = 1) ∨ (of = 5 ∧ k = 2)
theorem c_X8_isKind {g : am_H} {of k : Int} (h1 : 0 ≤ of ∧ of ≤ 5) (h2 : 0 ≤ k ∧ k ≤ 5) : AMet GM mX8_isKind 1 [am_I of, am_I k] g (am_FI (if isK of k then 1 else 0) g) := by
  refine am_start [some (am_I of), some (am_I k)] rfl rfl (by decide) (Nat.le_of_ble_eq_true rfl) ?_
  refine aw_iload_n dX8_isKind_0 rfl ?_
  refine aw_iload_n dX8_isKind_1 rfl ?_
  refine aw_icmp_eq (tgt := 25) dX8_isKind_2 rfl (by omega) (by omega) (fun hc2 => ?_) (fun hc2 => ?_)
  · refine aw_iconst dX8_isKind_25 ?_
    refine aw_goto (tgt := 30) dX8_isKind_26 rfl ?_
    refine aw_zretF dX8_isKind_30 rfl (by omega) ?_
    exact ⟨by split <;> omega, rfl⟩
  · refine aw_iload_n dX8_isKind_5 rfl ?_
    refine aw_iconst dX8_isKind_6 ?_
    refine aw_icmp_ne (tgt := 15) dX8_isKind_7 rfl (by omega) (by omega) (fun hc7 => ?_) (fun hc7 => ?_)
    · refine aw_iload_n dX8_isKind_15 rfl ?_
      refine aw_iconst dX8_isKind_16 ?_
      refine aw_icmp_ne (tgt := 29) dX8_isKind_17 rfl (by omega) (by omega) (fun hc17 => ?_) (fun hc17 => ?_)
      · refine aw_iconst dX8_isKind_29 ?_
        refine aw_zretF dX8_isKind_30 rfl (by omega) ?_
        exact ⟨by split <;> omega, rfl⟩
      · refine aw_iload_n dX8_isKind_20 rfl ?_
        refine aw_iconst dX8_isKind_21 ?_
        refine aw_icmp_ne (tgt := 29) dX8_isKind_22 rfl (by omega) (by omega) (fun hc22 => ?_) (fun hc22 => ?_)
        · refine aw_iconst dX8_isKind_29 ?_
          refine aw_zretF dX8_isKind_30 rfl (by omega) ?_
          exact ⟨by split <;> omega, rfl⟩
        · refine aw_iconst dX8_isKind_25 ?_
          refine aw_goto (tgt := 30) dX8_isKind_26 rfl ?_
          refine aw_zretF dX8_isKind_30 rfl (by omega) ?_
          exact ⟨by split <;> omega, rfl⟩
    · refine aw_iload_n dX8_isKind_10 rfl ?_
      refine aw_iconst dX8_isKind_11 ?_
      refine aw_icmp_eq (tgt := 25) dX8_isKind_12 rfl (by omega) (by omega) (fun hc12 => ?_) (fun hc12 => ?_)
      · refine aw_iconst dX8_isKind_25 ?_
        refine aw_goto (tgt := 30) dX8_isKind_26 rfl ?_
        refine aw_zretF dX8_isKind_30 rfl (by omega) ?_
        exact ⟨by split <;> omega, rfl⟩
      · refine aw_iload_n dX8_isKind_15 rfl ?_
        refine aw_iconst dX8_isKind_16 ?_
        refine aw_icmp_ne (tgt := 29) dX8_isKind_17 rfl (by omega) (by omega) (fun hc17 => ?_) (fun hc17 => ?_)
        · refine aw_iconst dX8_isKind_29 ?_
          refine aw_zretF dX8_isKind_30 rfl (by omega) ?_
          exact ⟨by split <;> omega, rfl⟩
        · refine aw_iload_n dX8_isKind_20 rfl ?_
          refine aw_iconst dX8_isKind_21 ?_
          refine aw_icmp_ne (tgt := 29) dX8_isKind_22 rfl (by omega) (by omega) (fun hc22 => ?_) (fun hc22 => ?_)
          · refine aw_iconst dX8_isKind_29 ?_
            refine aw_zretF dX8_isKind_30 rfl (by omega) ?_
            exact ⟨by split <;> omega, rfl⟩
          · refine aw_iconst dX8_isKind_25 ?_
            refine aw_goto (tgt := 30) dX8_isKind_26 rfl ?_
            refine aw_zretF dX8_isKind_30 rfl (by omega) ?_
            exact ⟨by split <;> omega, rfl⟩
theorem lp_X8_wordsTo {g : am_H} {x : Int} (hs : MVs g) (hx : 0 ≤ x ∧ x < 9) : ∀ (m i : Nat), (i : Int) ≤ g 0 10 → g 0 10 - i < m → AW GM mX8_wordsTo 1 (am_FI (cntF (g 8) x (nwN g)) g) 4 [some (am_R 0), some (am_I x), some (am_I (cntF (g 8) x i)), some (am_I i)] [] g := by
  have hw := hs.2.1
  have hnn := hs.1
  intro m
  induction m with
  | zero => intro i h1 h2; omega
  | succ m ih =>
    intro i h1 h2
    have hv := hs.2.2.2.2.1 i (by omega)
    refine aw_iload_n dX8_wordsTo_4 rfl ?_
    refine aw_aload_n dX8_wordsTo_5 rfl ?_
    refine aw_getI (kx := 10) fl_X8_210 dX8_wordsTo_6 rfl rfl rfl ?_
    refine aw_icmp_ge (tgt := 36) dX8_wordsTo_9 rfl (by omega) (by omega) (fun hc9 => ?_) (fun hc9 => ?_)
    · refine aw_iload_n dX8_wordsTo_36 rfl ?_
      refine aw_iretF dX8_wordsTo_37 rfl ?_
      exact ⟨by rw [show nwN g = i by unfold nwN; omega], rfl⟩
    · refine aw_iload_n dX8_wordsTo_12 rfl ?_
      refine aw_aload_n dX8_wordsTo_13 rfl ?_
      refine aw_getR (kx := 8) fl_X8_31 dX8_wordsTo_14 rfl rfl rfl ?_
      refine aw_iload_n dX8_wordsTo_17 rfl ?_
      refine aw_iaload dX8_wordsTo_18 rfl (by decide) (by omega) ?_
      refine aw_iload_n dX8_wordsTo_19 rfl ?_
      refine aw_icmp_ne (tgt := 27) dX8_wordsTo_20 rfl (by omega) (by omega) (fun hc20 => ?_) (fun hc20 => ?_)
      · refine aw_iconst dX8_wordsTo_27 ?_
        refine aw_iadd dX8_wordsTo_28 ?_
        refine aw_istore_2 dX8_wordsTo_29 (by decide) rfl ?_
        refine aw_iinc3 dX8_wordsTo_30 (by decide) rfl ?_
        refine aw_goto (tgt := 4) dX8_wordsTo_33 rfl ?_
        refine aw_ls ?_ (ih (i + 1) (by omega) (by omega))
        simp only [cntF, if_neg hc20]; simp
      · refine aw_iconst dX8_wordsTo_23 ?_
        refine aw_goto (tgt := 28) dX8_wordsTo_24 rfl ?_
        refine aw_iadd dX8_wordsTo_28 ?_
        refine aw_istore_2 dX8_wordsTo_29 (by decide) rfl ?_
        refine aw_iinc3 dX8_wordsTo_30 (by decide) rfl ?_
        refine aw_goto (tgt := 4) dX8_wordsTo_33 rfl ?_
        refine aw_ls ?_ (ih (i + 1) (by omega) (by omega))
        simp only [cntF, if_pos hc20]; simp
theorem c_X8_wordsTo {g : am_H} {x : Int} (hs : MVs g) (hx : 0 ≤ x ∧ x < 9) : AMet GM mX8_wordsTo 1 [am_R 0, am_I x] g (am_FI (cntF (g 8) x (nwN g)) g) := by
  have hw := hs.2.1
  refine am_start [some (am_R 0), some (am_I x), none, none] rfl rfl (by decide) (Nat.le_of_ble_eq_true rfl) ?_
  refine aw_iconst dX8_wordsTo_0 ?_
  refine aw_istore_2 dX8_wordsTo_1 (by decide) rfl ?_
  refine aw_iconst dX8_wordsTo_2 ?_
  refine aw_istore_3 dX8_wordsTo_3 (by decide) rfl ?_
  exact lp_X8_wordsTo hs hx 15 0 (by omega) (by omega)
/-- the set of ends one word from x -/
def edF (kd fr to : Int → Int) (x : Int) (n : Nat) : Nat := (wl fr x n).foldl (fun s k => s ||| (if fin (kd (to k)) then 2 ^ (to k).toNat else 0)) 0
theorem edF_s (kd fr to : Int → Int) (x : Int) (i : Nat) : edF kd fr to x (i + 1) = if fr i = x then edF kd fr to x i ||| (if fin (kd (to i)) then 2 ^ (to i).toNat else 0) else edF kd fr to x i := wl_fold _ _
theorem edF_lt {g : am_H} (hs : MVs g) (x : Int) : ∀ i : Nat, (i : Int) ≤ g 0 10 → edF (g 5) (g 7) (g 8) x i < 2 ^ 9
  | 0, _ => by show 0 < 2 ^ 9; decide
  | i + 1, h => by
    have ih := edF_lt hs x i (by omega)
    have hv := (hs.2.2.2.2.1 i (by omega) (by omega)).1
    have hnn := hs.1
    rw [edF_s]
    split
    · refine Nat.or_lt_two_pow ih ?_
      split
      · exact Nat.pow_lt_pow_right (by decide) (by omega)
      · decide
    · exact ih
theorem lp_X8_endsFrom {g : am_H} {x : Int} (hs : MVs g) (hx : 0 ≤ x ∧ x < 9) : ∀ (m i : Nat), (i : Int) ≤ g 0 10 → g 0 10 - i < m → AW GM mX8_endsFrom 2 (am_FI ((pcN 16 (edF (g 5) (g 7) (g 8) x (nwN g)) : Nat) : Int) g) 4 [some (am_R 0), some (am_I x), some (am_I (edF (g 5) (g 7) (g 8) x i : Nat)), some (am_I i)] [] g := by
  have hw := hs.2.1
  have hnn := hs.1
  intro m
  induction m with
  | zero => intro i h1 h2; omega
  | succ m ih =>
    intro i h1 h2
    have hv := hs.2.2.2.2.1 i (by omega)
    have hlt := edF_lt hs x i h1
    have hst := edF_s (g 5) (g 7) (g 8) x i
    have hlt2 : edF (g 5) (g 7) (g 8) x i < 512 := hlt
    refine aw_iload_n dX8_endsFrom_4 rfl ?_
    refine aw_aload_n dX8_endsFrom_5 rfl ?_
    refine aw_getI (kx := 10) fl_X8_210 dX8_endsFrom_6 rfl rfl rfl ?_
    refine aw_icmp_ge (tgt := 60) dX8_endsFrom_9 rfl (by omega) (by omega) (fun hc9 => ?_) (fun hc9 => ?_)
    · refine aw_iload_n dX8_endsFrom_60 rfl ?_
      refine aw_cS1IF (c_X8_ones rfl (by omega)) lk_X8_256 dX8_endsFrom_61 (by decide) (fun _ => Nat.le_of_ble_eq_true rfl) ?_
      refine aw_iretF dX8_endsFrom_64 rfl ?_
      exact ⟨by rw [show nwN g = i by unfold nwN; omega], rfl⟩
    · have hv2 := (hv (by omega)).1
      have hkd := (hs.2.2.2.1 (g 8 i) (by omega) (by omega)).1
      have et : g 8 i = ((g 8 i).toNat : Nat) := by omega
      have hp : 2 ^ (g 8 i).toNat ≤ 2 ^ 9 := Nat.pow_le_pow_right (by decide) (by omega)
      refine aw_iload_n dX8_endsFrom_12 rfl ?_
      refine aw_aload_n dX8_endsFrom_13 rfl ?_
      refine aw_getR (kx := 7) fl_X8_28 dX8_endsFrom_14 rfl rfl rfl ?_
      refine aw_iload_n dX8_endsFrom_17 rfl ?_
      refine aw_iaload dX8_endsFrom_18 rfl (by decide) (by omega) ?_
      refine aw_iload_n dX8_endsFrom_19 rfl ?_
      refine aw_icmp_ne (tgt := 51) dX8_endsFrom_20 rfl (by omega) (by omega) (fun hc20 => ?_) (fun hc20 => ?_)
      · refine aw_iconst dX8_endsFrom_51 ?_
        refine aw_ior dX8_endsFrom_52 ?_
        refine aw_top (bt_or0 (by omega)) ?_
        refine aw_istore_2 dX8_endsFrom_53 (by decide) rfl ?_
        refine aw_iinc3 dX8_endsFrom_54 (by decide) rfl ?_
        refine aw_goto (tgt := 4) dX8_endsFrom_57 rfl ?_
        refine aw_ls ?_ (ih (i + 1) (by omega) (by omega))
        rw [hst, if_neg hc20]; simp
      · refine aw_aload_n dX8_endsFrom_23 rfl ?_
        refine aw_getR (kx := 4) fl_X8_22 dX8_endsFrom_24 rfl rfl rfl ?_
        refine aw_aload_n dX8_endsFrom_27 rfl ?_
        refine aw_getR (kx := 8) fl_X8_31 dX8_endsFrom_28 rfl rfl rfl ?_
        refine aw_iload_n dX8_endsFrom_31 rfl ?_
        refine aw_iaload dX8_endsFrom_32 rfl (by decide) (by omega) ?_
        refine aw_iaload dX8_endsFrom_33 rfl (by decide) (by omega) ?_
        refine aw_cS1IF (c_X8_isFinal (by omega)) lk_X8_169 dX8_endsFrom_34 (by decide) (fun _ => Nat.le_of_ble_eq_true rfl) ?_
        refine aw_ifb_eq (tgt := 51) dX8_endsFrom_37 rfl (fun hc37 => ?_) (fun hc37 => ?_)
        · refine aw_iconst dX8_endsFrom_51 ?_
          refine aw_ior dX8_endsFrom_52 ?_
          refine aw_top (bt_or0 (by omega)) ?_
          refine aw_istore_2 dX8_endsFrom_53 (by decide) rfl ?_
          refine aw_iinc3 dX8_endsFrom_54 (by decide) rfl ?_
          refine aw_goto (tgt := 4) dX8_endsFrom_57 rfl ?_
          refine aw_ls ?_ (ih (i + 1) (by omega) (by omega))
          rw [hst, if_pos hc20, if_neg hc37]; simp
        · refine aw_iconst dX8_endsFrom_40 ?_
          refine aw_aload_n dX8_endsFrom_41 rfl ?_
          refine aw_getR (kx := 8) fl_X8_31 dX8_endsFrom_42 rfl rfl rfl ?_
          refine aw_iload_n dX8_endsFrom_45 rfl ?_
          refine aw_iaload dX8_endsFrom_46 rfl (by decide) (by omega) ?_
          refine aw_ishl dX8_endsFrom_47 ?_
          refine aw_top (show am_shl 1 (g 8 i) = ((2 ^ (g 8 i).toNat : Nat) : Int) by
            have h2 := bt_shl1 (n := (g 8 i).toNat) (by omega)
            rw [← et] at h2; exact h2) ?_
          refine aw_goto (tgt := 52) dX8_endsFrom_48 rfl ?_
          refine aw_ior dX8_endsFrom_52 ?_
          refine aw_top (bt_or (by omega) (by omega)) ?_
          refine aw_istore_2 dX8_endsFrom_53 (by decide) rfl ?_
          refine aw_iinc3 dX8_endsFrom_54 (by decide) rfl ?_
          refine aw_goto (tgt := 4) dX8_endsFrom_57 rfl ?_
          refine aw_ls ?_ (ih (i + 1) (by omega) (by omega))
          rw [hst, if_pos hc20, if_pos hc37]; simp
theorem c_X8_endsFrom {g : am_H} {x : Int} (hs : MVs g) (hx : 0 ≤ x ∧ x < 9) : AMet GM mX8_endsFrom 2 [am_R 0, am_I x] g (am_FI ((pcN 16 (edF (g 5) (g 7) (g 8) x (nwN g)) : Nat) : Int) g) := by
  have hw := hs.2.1
  refine am_start [some (am_R 0), some (am_I x), none, none] rfl rfl (by decide) (Nat.le_of_ble_eq_true rfl) ?_
  refine aw_iconst dX8_endsFrom_0 ?_
  refine aw_istore_2 dX8_endsFrom_1 (by decide) rfl ?_
  refine aw_iconst dX8_endsFrom_2 ?_
  refine aw_istore_3 dX8_endsFrom_3 (by decide) rfl ?_
  exact lp_X8_endsFrom hs hx 15 0 (by omega) (by omega)
def lgF (sp : Int → Int) (of : Int) : Nat → Int
  | 0 => 0
  | n + 1 => if hw of n < 2 ∧ lgF sp of n < sp n then sp n else lgF sp of n
def S_mark (g : am_H) (x k : Int) : Int × am_H := if ¬ (0 ≤ x ∧ x ≤ g 0 6 - 1 ∧ 1 ≤ k ∧ k ≤ 5) then (-1, g) else if ¬ isK (g 5 x) k then (-3, findF g 3) else (if k = 1 then g 6 x else if k = 2 then cntF (g 8) x (nwN g) else if k = 3 then ((pcN 16 (edF (g 5) (g 7) (g 8) x (nwN g)) : Nat) : Int) else if k = 4 then cntF (g 12) (g 6 x) (g 0 15).toNat else lgF (g 10) (g 0 19) (g 0 15).toNat, g)
theorem lgF_rng {sp : Int → Int} {of : Int} : ∀ n : Nat, (∀ d : Int, 0 ≤ d → d < n → 1 ≤ sp d ∧ sp d ≤ 5) → 0 ≤ lgF sp of n ∧ lgF sp of n ≤ 5
  | 0, _ => by simp [lgF]
  | n + 1, h => by
    have ih := lgF_rng (of := of) n (fun d a b => h d a (by omega))
    have := h n (by omega) (by omega)
    simp only [lgF]; split <;> omega
theorem lp_X8_mark {g : am_H} {x k : Int} (hs : MVs g) (hx : 0 ≤ x ∧ x < g 0 6) (hk : k = 4 ∨ k = 5) (hq : isK (g 5 x) k) : ∀ (m i : Nat), (i : Int) ≤ g 0 15 → g 0 15 - i < m → AW GM mX8_mark 3 (QM (S_mark g x k)) 90 [some (am_R 0), some (am_I x), some (am_I k), some (am_I (cntF (g 12) (g 6 x) i)), some (am_I (lgF (g 10) (g 0 19) i)), some (am_I i)] [] g := by
  have hnd := hs.2.2.1
  have hnn := hs.1
  have hme := hs.2.2.2.1 x hx.1 hx.2
  intro m
  induction m with
  | zero => intro i h1 h2; omega
  | succ m ih =>
    intro i h1 h2
    have hd := hs.2.2.2.2.2.2.2.1 i (by omega)
    have hr := hw_rng (g 0 19) i
    have hlr := lgF_rng (sp := g 10) (of := g 0 19) i (fun d a b => (hs.2.2.2.2.2.2.2.1 d a (by omega)).1)
    refine aw_iload dX8_mark_90 rfl ?_
    refine aw_aload_n dX8_mark_92 rfl ?_
    refine aw_getI (kx := 15) fl_X8_213 dX8_mark_93 rfl rfl rfl ?_
    refine aw_icmp_ge (tgt := 168) dX8_mark_96 rfl (by omega) (by omega) (fun hc96 => ?_) (fun hc96 => ?_)
    · refine aw_iload_n dX8_mark_168 rfl ?_
      refine aw_iconst dX8_mark_169 ?_
      refine aw_icmp_ne (tgt := 177) dX8_mark_170 rfl (by omega) (by omega) (fun hc170 => ?_) (fun hc170 => ?_)
      · refine aw_iload dX8_mark_177 rfl ?_
        refine aw_iretQ dX8_mark_179 rfl ?_
        rw [S_mark, if_neg (by omega), if_neg (fun z => z hq), if_neg (by omega), if_neg (by omega), if_neg (by omega), if_neg (by omega), show (g 0 15).toNat = i by omega]; exact ⟨rfl, MEq.rf _⟩
      · refine aw_iload_n dX8_mark_173 rfl ?_
        refine aw_goto (tgt := 179) dX8_mark_174 rfl ?_
        refine aw_iretQ dX8_mark_179 rfl ?_
        rw [S_mark, if_neg (by omega), if_neg (fun z => z hq), if_neg (by omega), if_neg (by omega), if_neg (by omega), if_pos (by omega), show (g 0 15).toNat = i by omega]; exact ⟨rfl, MEq.rf _⟩
    · have hd2 := hd (by omega)
      refine aw_iload_n dX8_mark_99 rfl ?_
      refine aw_aload_n dX8_mark_100 rfl ?_
      refine aw_getR (kx := 13) fl_X8_43 dX8_mark_101 rfl rfl rfl ?_
      refine aw_iload dX8_mark_104 rfl ?_
      refine aw_iaload dX8_mark_106 rfl (by decide) (by omega) ?_
      refine aw_aload_n dX8_mark_107 rfl ?_
      refine aw_getR (kx := 5) fl_X8_25 dX8_mark_108 rfl rfl rfl ?_
      refine aw_iload_n dX8_mark_111 rfl ?_
      refine aw_iaload dX8_mark_112 rfl (by decide) (by omega) ?_
      refine aw_icmp_ne (tgt := 120) dX8_mark_113 rfl (by omega) (by omega) (fun hc113 => ?_) (fun hc113 => ?_)
      · refine aw_iconst dX8_mark_120 ?_
        refine aw_iadd dX8_mark_121 ?_
        refine aw_istore_3 dX8_mark_122 (by decide) rfl ?_
        refine aw_aload_n dX8_mark_123 rfl ?_
        refine aw_getI (kx := 19) fl_X8_219 dX8_mark_124 rfl rfl rfl ?_
        refine aw_iload dX8_mark_127 rfl ?_
        refine aw_cS2IF (c_X8_howOf) lk_X8_245 dX8_mark_129 (by decide) (fun _ => Nat.le_of_ble_eq_true rfl) ?_
        refine aw_iconst dX8_mark_132 ?_
        refine aw_icmp_ge (tgt := 158) dX8_mark_133 rfl (by omega) (by omega) (fun hc133 => ?_) (fun hc133 => ?_)
        · refine aw_iload dX8_mark_158 rfl ?_
          refine aw_istore4 dX8_mark_160 (by decide) rfl ?_
          refine aw_iinc5 dX8_mark_162 (by decide) rfl ?_
          refine aw_goto (tgt := 90) dX8_mark_165 rfl ?_
          refine aw_ls ?_ (ih (i + 1) (by omega) (by omega))
          simp only [cntF, lgF, if_neg hc113, if_neg (show ¬ (hw (g 0 19) i < 2 ∧ lgF (g 10) (g 0 19) i < g 10 i) by omega)]; simp
        · refine aw_aload_n dX8_mark_136 rfl ?_
          refine aw_getR (kx := 11) fl_X8_37 dX8_mark_137 rfl rfl rfl ?_
          refine aw_iload dX8_mark_140 rfl ?_
          refine aw_iaload dX8_mark_142 rfl (by decide) (by omega) ?_
          refine aw_iload dX8_mark_143 rfl ?_
          refine aw_icmp_le (tgt := 158) dX8_mark_145 rfl (by omega) (by omega) (fun hc145 => ?_) (fun hc145 => ?_)
          · refine aw_iload dX8_mark_158 rfl ?_
            refine aw_istore4 dX8_mark_160 (by decide) rfl ?_
            refine aw_iinc5 dX8_mark_162 (by decide) rfl ?_
            refine aw_goto (tgt := 90) dX8_mark_165 rfl ?_
            refine aw_ls ?_ (ih (i + 1) (by omega) (by omega))
            simp only [cntF, lgF, if_neg hc113, if_neg (show ¬ (hw (g 0 19) i < 2 ∧ lgF (g 10) (g 0 19) i < g 10 i) by omega)]; simp
          · refine aw_aload_n dX8_mark_148 rfl ?_
            refine aw_getR (kx := 11) fl_X8_37 dX8_mark_149 rfl rfl rfl ?_
            refine aw_iload dX8_mark_152 rfl ?_
            refine aw_iaload dX8_mark_154 rfl (by decide) (by omega) ?_
            refine aw_goto (tgt := 160) dX8_mark_155 rfl ?_
            refine aw_istore4 dX8_mark_160 (by decide) rfl ?_
            refine aw_iinc5 dX8_mark_162 (by decide) rfl ?_
            refine aw_goto (tgt := 90) dX8_mark_165 rfl ?_
            refine aw_ls ?_ (ih (i + 1) (by omega) (by omega))
            simp only [cntF, lgF, if_neg hc113, if_pos (show (hw (g 0 19) i < 2 ∧ lgF (g 10) (g 0 19) i < g 10 i) by omega)]; simp
      · refine aw_iconst dX8_mark_116 ?_
        refine aw_goto (tgt := 121) dX8_mark_117 rfl ?_
        refine aw_iadd dX8_mark_121 ?_
        refine aw_istore_3 dX8_mark_122 (by decide) rfl ?_
        refine aw_aload_n dX8_mark_123 rfl ?_
        refine aw_getI (kx := 19) fl_X8_219 dX8_mark_124 rfl rfl rfl ?_
        refine aw_iload dX8_mark_127 rfl ?_
        refine aw_cS2IF (c_X8_howOf) lk_X8_245 dX8_mark_129 (by decide) (fun _ => Nat.le_of_ble_eq_true rfl) ?_
        refine aw_iconst dX8_mark_132 ?_
        refine aw_icmp_ge (tgt := 158) dX8_mark_133 rfl (by omega) (by omega) (fun hc133 => ?_) (fun hc133 => ?_)
        · refine aw_iload dX8_mark_158 rfl ?_
          refine aw_istore4 dX8_mark_160 (by decide) rfl ?_
          refine aw_iinc5 dX8_mark_162 (by decide) rfl ?_
          refine aw_goto (tgt := 90) dX8_mark_165 rfl ?_
          refine aw_ls ?_ (ih (i + 1) (by omega) (by omega))
          simp only [cntF, lgF, if_pos hc113, if_neg (show ¬ (hw (g 0 19) i < 2 ∧ lgF (g 10) (g 0 19) i < g 10 i) by omega)]; simp
        · refine aw_aload_n dX8_mark_136 rfl ?_
          refine aw_getR (kx := 11) fl_X8_37 dX8_mark_137 rfl rfl rfl ?_
          refine aw_iload dX8_mark_140 rfl ?_
          refine aw_iaload dX8_mark_142 rfl (by decide) (by omega) ?_
          refine aw_iload dX8_mark_143 rfl ?_
          refine aw_icmp_le (tgt := 158) dX8_mark_145 rfl (by omega) (by omega) (fun hc145 => ?_) (fun hc145 => ?_)
          · refine aw_iload dX8_mark_158 rfl ?_
            refine aw_istore4 dX8_mark_160 (by decide) rfl ?_
            refine aw_iinc5 dX8_mark_162 (by decide) rfl ?_
            refine aw_goto (tgt := 90) dX8_mark_165 rfl ?_
            refine aw_ls ?_ (ih (i + 1) (by omega) (by omega))
            simp only [cntF, lgF, if_pos hc113, if_neg (show ¬ (hw (g 0 19) i < 2 ∧ lgF (g 10) (g 0 19) i < g 10 i) by omega)]; simp
          · refine aw_aload_n dX8_mark_148 rfl ?_
            refine aw_getR (kx := 11) fl_X8_37 dX8_mark_149 rfl rfl rfl ?_
            refine aw_iload dX8_mark_152 rfl ?_
            refine aw_iaload dX8_mark_154 rfl (by decide) (by omega) ?_
            refine aw_goto (tgt := 160) dX8_mark_155 rfl ?_
            refine aw_istore4 dX8_mark_160 (by decide) rfl ?_
            refine aw_iinc5 dX8_mark_162 (by decide) rfl ?_
            refine aw_goto (tgt := 90) dX8_mark_165 rfl ?_
            refine aw_ls ?_ (ih (i + 1) (by omega) (by omega))
            simp only [cntF, lgF, if_pos hc113, if_pos (show (hw (g 0 19) i < 2 ∧ lgF (g 10) (g 0 19) i < g 10 i) by omega)]; simp
theorem c_X8_mark {g : am_H} {x k : Int} (hs : MVs g) (hx : -2147483648 ≤ x ∧ x < 2147483648) (hk : -2147483648 ≤ k ∧ k < 2147483648) : AMet GM mX8_mark 3 [am_R 0, am_I x, am_I k] g (QM (S_mark g x k)) := by
  have hnd := hs.2.2.1
  have hnn := hs.1
  have hkx := hs.2.2.2.1 x
  refine am_start [some (am_R 0), some (am_I x), some (am_I k), none, none, none] rfl rfl (by decide) (Nat.le_of_ble_eq_true rfl) ?_
  refine aw_aload_n dX8_mark_0 rfl ?_
  refine aw_iload_n dX8_mark_1 rfl ?_
  refine aw_cV1IF (c_X8_isNode hs (by omega)) lk_X8_231 dX8_mark_2 (by decide) rfl rfl (fun _ => Nat.le_of_ble_eq_true rfl) ?_
  refine aw_ifb_eq (tgt := 20) dX8_mark_5 rfl (fun hc5 => ?_) (fun hc5 => ?_)
  · refine aw_iconst dX8_mark_20 ?_
    refine aw_iretQ dX8_mark_21 rfl ?_
    rw [S_mark, if_pos (by omega)]; exact ⟨rfl, MEq.rf _⟩
  · refine aw_iload_n dX8_mark_8 rfl ?_
    refine aw_i2l (by omega) dX8_mark_9 ?_
    refine aw_lconst (v := 1) dX8_mark_10 rfl ?_
    refine aw_ldc2 (n := 5) kj_X8_131 rfl dX8_mark_11 ?_
    refine aw_cS3IF (c_X8_in (by omega) (by omega) (by omega)) lk_X8_133 dX8_mark_14 (by decide) (fun _ => Nat.le_of_ble_eq_true rfl) ?_
    refine aw_ifb_ne (tgt := 22) dX8_mark_17 rfl (fun hc17 => ?_) (fun hc17 => ?_)
    · have hk2 := (hkx (by omega) (by omega)).1
      refine aw_aload_n dX8_mark_22 rfl ?_
      refine aw_getR (kx := 4) fl_X8_22 dX8_mark_23 rfl rfl rfl ?_
      refine aw_iload_n dX8_mark_26 rfl ?_
      refine aw_iaload dX8_mark_27 rfl (by decide) (by omega) ?_
      refine aw_iload_n dX8_mark_28 rfl ?_
      refine aw_cS2IF (c_X8_isKind (by omega) (by omega)) lk_X8_259 dX8_mark_29 (by decide) (fun _ => Nat.le_of_ble_eq_true rfl) ?_
      refine aw_ifb_ne (tgt := 41) dX8_mark_32 rfl (fun hc32 => ?_) (fun hc32 => ?_)
      · refine aw_iload_n dX8_mark_41 rfl ?_
        refine aw_iconst dX8_mark_42 ?_
        refine aw_icmp_ne (tgt := 53) dX8_mark_43 rfl (by omega) (by omega) (fun hc43 => ?_) (fun hc43 => ?_)
        · refine aw_iload_n dX8_mark_53 rfl ?_
          refine aw_iconst dX8_mark_54 ?_
          refine aw_icmp_eq (tgt := 63) dX8_mark_55 rfl (by omega) (by omega) (fun hc55 => ?_) (fun hc55 => ?_)
          · refine aw_iload_n dX8_mark_63 rfl ?_
            refine aw_iconst dX8_mark_64 ?_
            refine aw_icmp_ne (tgt := 76) dX8_mark_65 rfl (by omega) (by omega) (fun hc65 => ?_) (fun hc65 => ?_)
            · exfalso; omega
            · refine aw_aload_n dX8_mark_68 rfl ?_
              refine aw_iload_n dX8_mark_69 rfl ?_
              refine aw_cV1IF (c_X8_wordsTo hs (by omega)) lk_X8_262 dX8_mark_70 (by decide) rfl rfl (fun _ => Nat.le_of_ble_eq_true rfl) ?_
              refine aw_goto (tgt := 81) dX8_mark_73 rfl ?_
              refine aw_iretQ dX8_mark_81 rfl ?_
              rw [S_mark, if_neg (by omega), if_neg (fun z => z hc32), if_neg (by omega), if_pos (by omega)]; exact ⟨rfl, MEq.rf _⟩
          · refine aw_iload_n dX8_mark_58 rfl ?_
            refine aw_iconst dX8_mark_59 ?_
            refine aw_icmp_ne (tgt := 82) dX8_mark_60 rfl (by omega) (by omega) (fun hc60 => ?_) (fun hc60 => ?_)
            · refine aw_iconst dX8_mark_82 ?_
              refine aw_istore_3 dX8_mark_83 (by decide) rfl ?_
              refine aw_iconst dX8_mark_84 ?_
              refine aw_istore4 dX8_mark_85 (by decide) rfl ?_
              refine aw_iconst dX8_mark_87 ?_
              refine aw_istore5 dX8_mark_88 (by decide) rfl ?_
              exact lp_X8_mark hs (by omega) (by omega) hc32 5 0 (by omega) (by omega)
            · refine aw_iload_n dX8_mark_63 rfl ?_
              refine aw_iconst dX8_mark_64 ?_
              refine aw_icmp_ne (tgt := 76) dX8_mark_65 rfl (by omega) (by omega) (fun hc65 => ?_) (fun hc65 => ?_)
              · refine aw_aload_n dX8_mark_76 rfl ?_
                refine aw_iload_n dX8_mark_77 rfl ?_
                refine aw_cV1IF (c_X8_endsFrom hs (by omega)) lk_X8_265 dX8_mark_78 (by decide) rfl rfl (fun _ => Nat.le_of_ble_eq_true rfl) ?_
                refine aw_iretQ dX8_mark_81 rfl ?_
                rw [S_mark, if_neg (by omega), if_neg (fun z => z hc32), if_neg (by omega), if_neg (by omega), if_pos (by omega)]; exact ⟨rfl, MEq.rf _⟩
              · exfalso; omega
        · refine aw_aload_n dX8_mark_46 rfl ?_
          refine aw_getR (kx := 5) fl_X8_25 dX8_mark_47 rfl rfl rfl ?_
          refine aw_iload_n dX8_mark_50 rfl ?_
          refine aw_iaload dX8_mark_51 rfl (by decide) (by omega) ?_
          refine aw_iretQ dX8_mark_52 rfl ?_
          rw [S_mark, if_neg (by omega), if_neg (fun z => z hc32), if_pos (by omega)]; exact ⟨rfl, MEq.rf _⟩
      · refine aw_aload_n dX8_mark_35 rfl ?_
        refine aw_iconst dX8_mark_36 ?_
        refine aw_cV1IF (c_X8_find (by omega)) lk_X8_143 dX8_mark_37 (by decide) rfl rfl (fun _ => Nat.le_of_ble_eq_true rfl) ?_
        refine aw_iretQ dX8_mark_40 rfl ?_
        rw [S_mark, if_neg (by omega), if_pos hc32]; exact ⟨rfl, MEq.rf _⟩
    · refine aw_iconst dX8_mark_20 ?_
      refine aw_iretQ dX8_mark_21 rfl ?_
      rw [S_mark, if_pos (by omega)]; exact ⟨rfl, MEq.rf _⟩
