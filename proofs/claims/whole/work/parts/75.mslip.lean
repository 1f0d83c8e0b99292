noncomputable def slS (g : am_H) (r n : Int) (s : Int) (P : List Int) : Int := if isS g n P ∧ mhP g r P < 2 then s + 1 else s
noncomputable def slR (g : am_H) (r : Int) : Int := (trL g (g 1 r).toNat []).foldl (slS g r (g 1 r)) 0
noncomputable def S_slips (g : am_H) (r : Int) : Int × am_H := if ¬ (0 ≤ r ∧ r ≤ 5) then (-1, g) else if (lsR g r).1 < 0 then lsR g r else (slR g r, g)
theorem lp_X8_slips {g : am_H} {r n x2 : Int} {T : Int} (hs : MVs g) (hy : MVy g) (hv : MVr g) (hr : 0 ≤ r ∧ r ≤ 5) (h0 : ¬ g 0 6 = 0) (hn : 0 ≤ n ∧ n ≤ 8) : ∀ (R : List (List Int)) (s : Int) (P : List Int) (g' : am_H), LinI g g' P → (P.length : Int) ≤ n → R = rst g n.toNat P → (P :: R).foldl (slS g r n) s = T → AW GM mX8_slips 4 (QM (T, g)) 39 [some (am_R 0), some (am_I r), some (am_I x2), some (am_I n), some (am_I s), some (am_I 1)] [] g' := by
  have exi : ∀ (s : Int) (g' : am_H), AgL g g' → s = T → AW GM mX8_slips 4 (QM (T, g)) 39 [some (am_R 0), some (am_I r), some (am_I x2), some (am_I n), some (am_I s), some (am_I 0)] [] g' := by
    intro s g' ha hs2
    subst hs2
    refine aw_iload dX8_slips_39 rfl ?_
    refine aw_if_eq (tgt := 83) dX8_slips_41 rfl (by omega) (fun hc41 => ?_) (fun hc41 => ?_)
    · refine aw_iload dX8_slips_83 rfl ?_
      refine aw_iretQ dX8_slips_85 rfl ?_
      exact ⟨rfl, ha.me⟩
    · omega
  intro R
  induction R with
  | nil =>
    intro s P g' hI hle hR hT
    have ha := hI.1
    have hlv := hI.2.2.2
    have he := liE_rng hs hy h0 P hlv
    have hnn := hs.1
    have hmr := mhP_rng g r P
    have hT2 := hT
    rw [List.foldl_cons] at hT2
    have nxt : ∀ (s2 : Int), s2 = slS g r n s P → AW GM mX8_slips 4 (QM (T, g)) 70 [some (am_R 0), some (am_I r), some (am_I x2), some (am_I n), some (am_I s), some (am_I 1)] [am_I s2] g' := by
      intro s2 hs2
      rw [← hs2] at hT2
      refine aw_istore4 dX8_slips_70 (by decide) rfl ?_
      refine aw_aload_n dX8_slips_72 rfl ?_
      refine aw_iload_n dX8_slips_73 rfl ?_
      refine aw_iconst dX8_slips_74 ?_
      refine aw_cV2I (c_X8_nextLine hs hy h0 hn hI hle) lk_X8_347 dX8_slips_75 (by decide) rfl rfl (fun _ => Nat.le_of_ble_eq_true rfl) (fun v75 h75 q75 => ?_)
      refine aw_istore5 dX8_slips_78 (by decide) rfl ?_
      refine aw_goto (tgt := 39) dX8_slips_80 rfl ?_
      rw [← hR] at q75
      have q86b : v75 = 0 ∧ AgL g h75 := by
        rcases q75.1 with ⟨_, a, b⟩ | ⟨P3, a, _⟩
        · exact ⟨a, b⟩
        · exact absurd a (by simp)
      rw [q86b.1]
      exact exi s2 h75 q86b.2 hT2
    refine aw_iload dX8_slips_39 rfl ?_
    refine aw_if_eq (tgt := 83) dX8_slips_41 rfl (by omega) (fun hc41 => ?_) (fun hc41 => ?_)
    · omega
    · refine aw_iload dX8_slips_44 rfl ?_
      refine aw_aload_n dX8_slips_46 rfl ?_
      refine aw_iload_n dX8_slips_47 rfl ?_
      refine aw_cV1IF (c_X8_isSentence hs hy h0 hI hn) lk_X8_351 dX8_slips_48 (by decide) rfl rfl (fun _ => Nat.le_of_ble_eq_true rfl) ?_
      refine aw_ifb_eq (tgt := 68) dX8_slips_51 rfl (fun hc51 => ?_) (fun hc51 => ?_)
      · refine aw_iconst dX8_slips_68 ?_
        refine aw_iadd dX8_slips_69 ?_
        exact nxt _ (by rw [slS, if_neg (fun z => hc51 z.1), Int.add_zero])
      · refine aw_aload_n dX8_slips_54 rfl ?_
        refine aw_iload_n dX8_slips_55 rfl ?_
        refine aw_iload_n dX8_slips_56 rfl ?_
        refine aw_cV2IF (c_X8_misheard hs hv hr hI hn hc51.1) lk_X8_354 dX8_slips_57 (by decide) rfl rfl (fun _ => Nat.le_of_ble_eq_true rfl) ?_
        refine aw_iconst dX8_slips_60 ?_
        refine aw_icmp_ge (tgt := 68) dX8_slips_61 rfl (by omega) (by omega) (fun hc61 => ?_) (fun hc61 => ?_)
        · refine aw_iconst dX8_slips_68 ?_
          refine aw_iadd dX8_slips_69 ?_
          exact nxt _ (by rw [slS, if_neg (fun z => by omega), Int.add_zero])
        · refine aw_iconst dX8_slips_64 ?_
          refine aw_goto (tgt := 69) dX8_slips_65 rfl ?_
          refine aw_iadd dX8_slips_69 ?_
          exact nxt _ (by rw [slS, if_pos ⟨hc51, by omega⟩])
  | cons P2 R ih =>
    intro s P g' hI hle hR hT
    have ha := hI.1
    have hlv := hI.2.2.2
    have he := liE_rng hs hy h0 P hlv
    have hnn := hs.1
    have hmr := mhP_rng g r P
    have hT2 := hT
    rw [List.foldl_cons] at hT2
    have nxt : ∀ (s2 : Int), s2 = slS g r n s P → AW GM mX8_slips 4 (QM (T, g)) 70 [some (am_R 0), some (am_I r), some (am_I x2), some (am_I n), some (am_I s), some (am_I 1)] [am_I s2] g' := by
      intro s2 hs2
      rw [← hs2] at hT2
      refine aw_istore4 dX8_slips_70 (by decide) rfl ?_
      refine aw_aload_n dX8_slips_72 rfl ?_
      refine aw_iload_n dX8_slips_73 rfl ?_
      refine aw_iconst dX8_slips_74 ?_
      refine aw_cV2I (c_X8_nextLine hs hy h0 hn hI hle) lk_X8_347 dX8_slips_75 (by decide) rfl rfl (fun _ => Nat.le_of_ble_eq_true rfl) (fun v75 h75 q75 => ?_)
      refine aw_istore5 dX8_slips_78 (by decide) rfl ?_
      refine aw_goto (tgt := 39) dX8_slips_80 rfl ?_
      rw [← hR] at q75
      rcases q75.1 with ⟨a, _⟩ | ⟨P3, a, b, c, d⟩
      · exact absurd a (by simp)
      · obtain ⟨a1, a2⟩ := List.cons.inj a
        subst a1
        rw [b]
        exact ih s2 P2 h75 c (by omega) a2 hT2
    refine aw_iload dX8_slips_39 rfl ?_
    refine aw_if_eq (tgt := 83) dX8_slips_41 rfl (by omega) (fun hc41 => ?_) (fun hc41 => ?_)
    · omega
    · refine aw_iload dX8_slips_44 rfl ?_
      refine aw_aload_n dX8_slips_46 rfl ?_
      refine aw_iload_n dX8_slips_47 rfl ?_
      refine aw_cV1IF (c_X8_isSentence hs hy h0 hI hn) lk_X8_351 dX8_slips_48 (by decide) rfl rfl (fun _ => Nat.le_of_ble_eq_true rfl) ?_
      refine aw_ifb_eq (tgt := 68) dX8_slips_51 rfl (fun hc51 => ?_) (fun hc51 => ?_)
      · refine aw_iconst dX8_slips_68 ?_
        refine aw_iadd dX8_slips_69 ?_
        exact nxt _ (by rw [slS, if_neg (fun z => hc51 z.1), Int.add_zero])
      · refine aw_aload_n dX8_slips_54 rfl ?_
        refine aw_iload_n dX8_slips_55 rfl ?_
        refine aw_iload_n dX8_slips_56 rfl ?_
        refine aw_cV2IF (c_X8_misheard hs hv hr hI hn hc51.1) lk_X8_354 dX8_slips_57 (by decide) rfl rfl (fun _ => Nat.le_of_ble_eq_true rfl) ?_
        refine aw_iconst dX8_slips_60 ?_
        refine aw_icmp_ge (tgt := 68) dX8_slips_61 rfl (by omega) (by omega) (fun hc61 => ?_) (fun hc61 => ?_)
        · refine aw_iconst dX8_slips_68 ?_
          refine aw_iadd dX8_slips_69 ?_
          exact nxt _ (by rw [slS, if_neg (fun z => by omega), Int.add_zero])
        · refine aw_iconst dX8_slips_64 ?_
          refine aw_goto (tgt := 69) dX8_slips_65 rfl ?_
          refine aw_iadd dX8_slips_69 ?_
          exact nxt _ (by rw [slS, if_pos ⟨hc51, by omega⟩])
theorem c_X8_slips {g : am_H} {r : Int} (hs : MVs g) (hy : MVy g) (hv : MVr g) (hr : -2147483648 ≤ r ∧ r < 2147483648) : AMet GM mX8_slips 4 [am_R 0, am_I r] g (QM (S_slips g r)) := by
  have hnn := hs.1
  have hlr := lsR_rng g r
  refine am_start [some (am_R 0), some (am_I r), none, none, none, none] rfl rfl (by decide) (Nat.le_of_ble_eq_true rfl) ?_
  refine aw_iload_n dX8_slips_0 rfl ?_
  refine aw_cS1IF (c_X8_isRow (by omega)) lk_X8_139 dX8_slips_1 (by decide) (fun _ => Nat.le_of_ble_eq_true rfl) ?_
  refine aw_ifb_ne (tgt := 9) dX8_slips_4 rfl (fun hc4 => ?_) (fun hc4 => ?_)
  · refine aw_aload_n dX8_slips_9 rfl ?_
    refine aw_iload_n dX8_slips_10 rfl ?_
    refine aw_cV1IF (c_X8_lacksSounds hs hv (by omega)) lk_X8_344 dX8_slips_11 (by decide) rfl rfl (fun _ => Nat.le_of_ble_eq_true rfl) ?_
    refine aw_istore_2 dX8_slips_14 (by decide) rfl ?_
    refine aw_iload_n dX8_slips_15 rfl ?_
    refine aw_if_ge (tgt := 21) dX8_slips_16 rfl (by omega) (fun hc16 => ?_) (fun hc16 => ?_)
    · obtain ⟨k0, k1, k2, k3, k4, k5⟩ := lsR_0 (g := g) (r := r) (by omega)
      refine aw_heap k3 ?_
      refine aw_aload_n dX8_slips_21 rfl ?_
      refine aw_getR (kx := 0) fl_X8_7 dX8_slips_22 rfl rfl rfl ?_
      refine aw_iload_n dX8_slips_25 rfl ?_
      refine aw_iaload dX8_slips_26 rfl (by decide) (by omega) ?_
      refine aw_istore_3 dX8_slips_27 (by decide) rfl ?_
      refine aw_iconst dX8_slips_28 ?_
      refine aw_istore4 dX8_slips_29 (by decide) rfl ?_
      refine aw_aload_n dX8_slips_31 rfl ?_
      refine aw_iload_n dX8_slips_32 rfl ?_
      refine aw_iconst dX8_slips_33 ?_
      refine aw_cV2I (c_X8_nextLine1 (AgL.rf g)) lk_X8_347 dX8_slips_34 (by decide) rfl rfl (fun _ => Nat.le_of_ble_eq_true rfl) (fun v34 h34 q34 => ?_)
      refine aw_top q34.1 ?_
      refine aw_istore5 dX8_slips_37 (by decide) rfl ?_
      rw [S_slips, if_neg (by omega), if_neg (by omega)]
      exact lp_X8_slips hs hy hv hc4 k0 ⟨k1, k2⟩ _ 0 [] h34 q34.2 (by show ((0 : Nat) : Int) ≤ _; omega) rfl (by rw [slR, ← tr_rst (P := []) (by show 0 ≤ _; omega)]; show (trL g _ [] ++ []).foldl _ _ = _; rw [List.append_nil]; rfl)
    · refine aw_iload_n dX8_slips_19 rfl ?_
      refine aw_iretQ dX8_slips_20 rfl ?_
      rw [S_slips, if_neg (by omega), if_pos (by omega)]; exact ⟨rfl, MEq.rf _⟩
  · refine aw_iconst dX8_slips_7 ?_
    refine aw_iretQ dX8_slips_8 rfl ?_
    rw [S_slips, if_pos (by omega)]; exact ⟨rfl, MEq.rf _⟩
/-- the words of a line by their place -/
def liF : List Int → Int → Int
  | [], _ => 0
  | w :: P, i => if i = P.length then w else liF P i
theorem liF_A {f : Int → Int} : ∀ P : List Int, liA f P → ∀ i : Int, 0 ≤ i → i < P.length → f i = liF P i
  | [], _, i, h1, h2 => by
    have : i < ((0 : Nat) : Int) := h2
    omega
  | w :: P, h, i, h1, h2 => by
    have h3 : i < ((P.length + 1 : Nat) : Int) := h2
    unfold liF
    split
    · rename_i e; rw [e]; exact h.1
    · exact liF_A P h.2 i h1 (by omega)
noncomputable def fsS (g : am_H) (r n : Int) (s : Option (List Int)) (P : List Int) : Option (List Int) := if s = none then (if isS g n P ∧ mhP g r P = 0 then some P else none) else s
noncomputable def fsR (g : am_H) (r : Int) : Option (List Int) := (trL g (g 1 r).toNat []).foldl (fsS g r (g 1 r)) none
theorem fsS_some (g : am_H) (r n : Int) (P : List Int) : ∀ R : List (List Int), R.foldl (fsS g r n) (some P) = some P
  | [] => rfl
  | _ :: R => by rw [List.foldl_cons, fsS, if_neg (by simp)]; exact fsS_some g r n P R
/-- the row to holds the line -/
def fsF (g : am_H) (to n : Int) (P : List Int) : am_H := am_up (rowF g to n) 2 (fun j => if 40 * to ≤ j ∧ j < 40 * to + n then liF P (j - 40 * to) else rowF g to n 2 j)
noncomputable def fsX (g : am_H) (r to : Int) (T : Option (List Int)) : Int × am_H := match T with | none => (-9, g) | some P => (g 1 r, fsF g to (g 1 r) P)
noncomputable def S_first (g : am_H) (r to : Int) : Int × am_H := if ¬ (0 ≤ r ∧ r ≤ 5) ∨ ¬ (0 ≤ to ∧ to ≤ 5) then (-1, g) else if (lsR g r).1 < 0 then lsR g r else fsX g r to (fsR g r)
theorem lp_X8_first2 {g g' : am_H} {r to n x3 : Int} {P : List Int} (hI : LinI g g' P) (hP : (P.length : Int) = n) (ht : 0 ≤ to ∧ to ≤ 5) (hn : 0 ≤ n ∧ n ≤ 8) : ∀ (m : Nat) (i : Int) (f : Int → Int), 0 ≤ i → i ≤ n → n - i < m → (f = fun j => if 40 * to ≤ j ∧ j < 40 * to + i then liF P (j - 40 * to) else rowF g' to n 2 j) → AW GM mX8_first 4 (QM (n, fsF g to n P)) 80 [some (am_R 0), some (am_I r), some (am_I to), some (am_I x3), some (am_I n), some (am_I 1), some (am_I i)] [] (am_up (rowF g' to n) 2 f) := by
  obtain ⟨ha, hm, hl, hlv⟩ := hI
  intro m
  induction m with
  | zero => intro i f h0 h1 h2; omega
  | succ m ih =>
    intro i f h0 h1 h2 hf
    have el : am_up (rowF g' to n) 2 f 35 i = g' 35 i := by unfold rowF; rw [am_up_c (by decide), am_up_c (by decide), am_set_c (by decide)]
    refine aw_iload dX8_first_80 rfl ?_
    refine aw_iload dX8_first_82 rfl ?_
    refine aw_icmp_ge (tgt := 112) dX8_first_84 rfl (by omega) (by omega) (fun hc84 => ?_) (fun hc84 => ?_)
    · refine aw_iload dX8_first_112 rfl ?_
      refine aw_iretQ dX8_first_114 rfl ?_
      have ei : i = n := by omega
      subst ei
      refine ⟨rfl, ?_⟩
      show MEq _ (fsF g to i P)
      have e2 : g' 2 = g 2 := ha.1 2 (by decide) (by decide) (by decide)
      have e3 : rowF g' to i 2 = rowF g to i 2 := by unfold rowF; rw [am_up_s, am_up_s, e2]
      rw [hf, fsF, e3]
      refine MEq.up ?_
      unfold rowF
      rw [e2]
      exact MEq.up (MEq.set (by omega) ha.me)
    · refine aw_aload_n dX8_first_87 rfl ?_
      refine aw_getR (kx := 1) fl_X8_13 dX8_first_88 rfl rfl rfl ?_
      refine aw_bipush (by decide) dX8_first_91 ?_
      refine aw_iload_n dX8_first_93 rfl ?_
      refine aw_imul dX8_first_94 ?_
      refine aw_iload dX8_first_95 rfl ?_
      refine aw_iadd dX8_first_97 ?_
      refine aw_aload_n dX8_first_98 rfl ?_
      refine aw_getR (kx := 47) fl_X8_118 dX8_first_99 rfl rfl rfl ?_
      refine aw_iload dX8_first_102 rfl ?_
      refine aw_iaload dX8_first_104 rfl (by decide) (by omega) ?_
      refine aw_top el ?_
      refine aw_iastore dX8_first_105 rfl (by decide) (by omega) ?_
      refine aw_iinc6 dX8_first_106 (by decide) rfl ?_
      refine aw_goto (tgt := 80) dX8_first_109 rfl ?_
      rw [am_set_ups]
      refine ih (i + 1) _ (by omega) (by omega) (by omega) ?_
      funext j
      rw [hf, liF_A P hl i h0 (by omega)]
      by_cases e : j = 40 * to + i
      · subst e; rw [if_pos rfl, if_pos (by omega), show 40 * to + i - 40 * to = i by omega]
      · rw [if_neg e]
        dsimp only
        by_cases e2 : 40 * to ≤ j ∧ j < 40 * to + i
        · rw [if_pos e2, if_pos (by omega)]
        · rw [if_neg e2, if_neg (by omega)]
theorem lp_X8_first {g : am_H} {r to x3 : Int} {T : Option (List Int)} (hs : MVs g) (hy : MVy g) (hv : MVr g) (hr : 0 ≤ r ∧ r ≤ 5) (ht : 0 ≤ to ∧ to ≤ 5) (h0 : ¬ g 0 6 = 0) (hn : 0 ≤ g 1 r ∧ g 1 r ≤ 8) : ∀ (R : List (List Int)) (P : List Int) (g' : am_H) (x6 : Option am_V), LinI g g' P → (P.length : Int) ≤ g 1 r → R = rst g (g 1 r).toNat P → (P :: R).foldl (fsS g r (g 1 r)) none = T → AW GM mX8_first 4 (QM (fsX g r to T)) 45 [some (am_R 0), some (am_I r), some (am_I to), some (am_I x3), some (am_I (g 1 r)), some (am_I 1), x6] [] g' := by
  have exi : ∀ (g' : am_H) (x6 : Option am_V), AgL g g' → none = T → AW GM mX8_first 4 (QM (fsX g r to T)) 45 [some (am_R 0), some (am_I r), some (am_I to), some (am_I x3), some (am_I (g 1 r)), some (am_I 0), x6] [] g' := by
    intro g' x6 ha hs2
    subst hs2
    refine aw_iload dX8_first_45 rfl ?_
    refine aw_if_eq (tgt := 127) dX8_first_47 rfl (by omega) (fun hc47 => ?_) (fun hc47 => ?_)
    · refine aw_bipush (by decide) dX8_first_127 ?_
      refine aw_iretQ dX8_first_129 rfl ?_
      exact ⟨rfl, ha.me⟩
    · omega
  have hit : ∀ (g' : am_H) (P : List Int) (x6 : Option am_V), LinI g g' P → (P.length : Int) = g 1 r → some P = T → AW GM mX8_first 4 (QM (fsX g r to T)) 69 [some (am_R 0), some (am_I r), some (am_I to), some (am_I x3), some (am_I (g 1 r)), some (am_I 1), x6] [] g' := by
    intro g' P x6 hI hP hT
    subst hT
    have e2 : (S_row g' to (g 1 r)).2 = rowF g' to (g 1 r) := by rw [S_row, if_neg (by omega), if_neg (by omega)]
    refine aw_aload_n dX8_first_69 rfl ?_
    refine aw_iload_n dX8_first_70 rfl ?_
    refine aw_iload dX8_first_71 rfl ?_
    refine aw_cV2IF (c_X8_row (by omega) (by omega)) lk_X8_293 dX8_first_73 (by decide) rfl rfl (fun _ => Nat.le_of_ble_eq_true rfl) ?_
    refine aw_popI dX8_first_76 ?_
    refine aw_heap (e2.trans (am_up_self _ 2).symm) ?_
    refine aw_iconst dX8_first_77 ?_
    refine aw_istore6 dX8_first_78 (by decide) rfl ?_
    exact lp_X8_first2 hI hP ht hn 9 0 _ (by omega) (by omega) (by omega) (by funext j; rw [if_neg (by omega)])
  intro R
  induction R with
  | nil =>
    intro P g' x6 hI hle hR hT
    have ha := hI.1
    have hlv := hI.2.2.2
    have he := liE_rng hs hy h0 P hlv
    have hnn := hs.1
    have hmr := mhP_rng g r P
    have hT2 := hT
    rw [List.foldl_cons] at hT2
    have nxt : ∀ (y6 : Option am_V), none = fsS g r (g 1 r) none P → AW GM mX8_first 4 (QM (fsX g r to T)) 115 [some (am_R 0), some (am_I r), some (am_I to), some (am_I x3), some (am_I (g 1 r)), some (am_I 1), y6] [] g' := by
      intro y6 hs2
      rw [← hs2] at hT2
      refine aw_aload_n dX8_first_115 rfl ?_
      refine aw_iload dX8_first_116 rfl ?_
      refine aw_iconst dX8_first_118 ?_
      refine aw_cV2I (c_X8_nextLine hs hy h0 hn hI hle) lk_X8_347 dX8_first_119 (by decide) rfl rfl (fun _ => Nat.le_of_ble_eq_true rfl) (fun v119 h119 q119 => ?_)
      refine aw_istore5 dX8_first_122 (by decide) rfl ?_
      refine aw_goto (tgt := 45) dX8_first_124 rfl ?_
      rw [← hR] at q119
      have q86b : v119 = 0 ∧ AgL g h119 := by
        rcases q119.1 with ⟨_, a, b⟩ | ⟨P3, a, _⟩
        · exact ⟨a, b⟩
        · exact absurd a (by simp)
      rw [q86b.1]
      exact exi h119 _ q86b.2 hT2
    refine aw_iload dX8_first_45 rfl ?_
    refine aw_if_eq (tgt := 127) dX8_first_47 rfl (by omega) (fun hc47 => ?_) (fun hc47 => ?_)
    · omega
    · refine aw_aload_n dX8_first_50 rfl ?_
      refine aw_iload dX8_first_51 rfl ?_
      refine aw_cV1IF (c_X8_isSentence hs hy h0 hI hn) lk_X8_351 dX8_first_53 (by decide) rfl rfl (fun _ => Nat.le_of_ble_eq_true rfl) ?_
      refine aw_ifb_eq (tgt := 115) dX8_first_56 rfl (fun hc56 => ?_) (fun hc56 => ?_)
      · exact nxt _ (by rw [fsS, if_pos rfl, if_neg (fun z => hc56 z.1)])
      · refine aw_aload_n dX8_first_59 rfl ?_
        refine aw_iload_n dX8_first_60 rfl ?_
        refine aw_iload dX8_first_61 rfl ?_
        refine aw_cV2IF (c_X8_misheard hs hv hr hI hn hc56.1) lk_X8_354 dX8_first_63 (by decide) rfl rfl (fun _ => Nat.le_of_ble_eq_true rfl) ?_
        refine aw_if_ne (tgt := 115) dX8_first_66 rfl (by omega) (fun hc66 => ?_) (fun hc66 => ?_)
        · exact nxt _ (by rw [fsS, if_pos rfl, if_neg (fun z => by omega)])
        · exact hit g' P _ hI hc56.1 (by rw [← hT2, fsS, if_pos rfl, if_pos ⟨hc56, by omega⟩, fsS_some])
  | cons P2 R ih =>
    intro P g' x6 hI hle hR hT
    have ha := hI.1
    have hlv := hI.2.2.2
    have he := liE_rng hs hy h0 P hlv
    have hnn := hs.1
    have hmr := mhP_rng g r P
    have hT2 := hT
    rw [List.foldl_cons] at hT2
    have nxt : ∀ (y6 : Option am_V), none = fsS g r (g 1 r) none P → AW GM mX8_first 4 (QM (fsX g r to T)) 115 [some (am_R 0), some (am_I r), some (am_I to), some (am_I x3), some (am_I (g 1 r)), some (am_I 1), y6] [] g' := by
      intro y6 hs2
      rw [← hs2] at hT2
      refine aw_aload_n dX8_first_115 rfl ?_
      refine aw_iload dX8_first_116 rfl ?_
      refine aw_iconst dX8_first_118 ?_
      refine aw_cV2I (c_X8_nextLine hs hy h0 hn hI hle) lk_X8_347 dX8_first_119 (by decide) rfl rfl (fun _ => Nat.le_of_ble_eq_true rfl) (fun v119 h119 q119 => ?_)
      refine aw_istore5 dX8_first_122 (by decide) rfl ?_
      refine aw_goto (tgt := 45) dX8_first_124 rfl ?_
      rw [← hR] at q119
      rcases q119.1 with ⟨a, _⟩ | ⟨P3, a, b, c, d⟩
      · exact absurd a (by simp)
      · obtain ⟨a1, a2⟩ := List.cons.inj a
        subst a1
        rw [b]
        exact ih P2 h119 _ c (by omega) a2 hT2
    refine aw_iload dX8_first_45 rfl ?_
    refine aw_if_eq (tgt := 127) dX8_first_47 rfl (by omega) (fun hc47 => ?_) (fun hc47 => ?_)
    · omega
    · refine aw_aload_n dX8_first_50 rfl ?_
      refine aw_iload dX8_first_51 rfl ?_
      refine aw_cV1IF (c_X8_isSentence hs hy h0 hI hn) lk_X8_351 dX8_first_53 (by decide) rfl rfl (fun _ => Nat.le_of_ble_eq_true rfl) ?_
      refine aw_ifb_eq (tgt := 115) dX8_first_56 rfl (fun hc56 => ?_) (fun hc56 => ?_)
      · exact nxt _ (by rw [fsS, if_pos rfl, if_neg (fun z => hc56 z.1)])
      · refine aw_aload_n dX8_first_59 rfl ?_
        refine aw_iload_n dX8_first_60 rfl ?_
        refine aw_iload dX8_first_61 rfl ?_
        refine aw_cV2IF (c_X8_misheard hs hv hr hI hn hc56.1) lk_X8_354 dX8_first_63 (by decide) rfl rfl (fun _ => Nat.le_of_ble_eq_true rfl) ?_
        refine aw_if_ne (tgt := 115) dX8_first_66 rfl (by omega) (fun hc66 => ?_) (fun hc66 => ?_)
        · exact nxt _ (by rw [fsS, if_pos rfl, if_neg (fun z => by omega)])
        · exact hit g' P _ hI hc56.1 (by rw [← hT2, fsS, if_pos rfl, if_pos ⟨hc56, by omega⟩, fsS_some])
theorem c_X8_first {g : am_H} {r to : Int} (hs : MVs g) (hy : MVy g) (hv : MVr g) (hr : -2147483648 ≤ r ∧ r < 2147483648) (ht : -2147483648 ≤ to ∧ to < 2147483648) : AMet GM mX8_first 4 [am_R 0, am_I r, am_I to] g (QM (S_first g r to)) := by
  have hnn := hs.1
  have hlr := lsR_rng g r
  refine am_start [some (am_R 0), some (am_I r), some (am_I to), none, none, none, none] rfl rfl (by decide) (Nat.le_of_ble_eq_true rfl) ?_
  refine aw_iload_n dX8_first_0 rfl ?_
  refine aw_cS1IF (c_X8_isRow (by omega)) lk_X8_139 dX8_first_1 (by decide) (fun _ => Nat.le_of_ble_eq_true rfl) ?_
  refine aw_ifb_eq (tgt := 14) dX8_first_4 rfl (fun hc4 => ?_) (fun hc4 => ?_)
  · refine aw_iconst dX8_first_14 ?_
    refine aw_iretQ dX8_first_15 rfl ?_
    rw [S_first, if_pos (by omega)]; exact ⟨rfl, MEq.rf _⟩
  · refine aw_iload_n dX8_first_7 rfl ?_
    refine aw_cS1IF (c_X8_isRow (by omega)) lk_X8_139 dX8_first_8 (by decide) (fun _ => Nat.le_of_ble_eq_true rfl) ?_
    refine aw_ifb_ne (tgt := 16) dX8_first_11 rfl (fun hc11 => ?_) (fun hc11 => ?_)
    · refine aw_aload_n dX8_first_16 rfl ?_
      refine aw_iload_n dX8_first_17 rfl ?_
      refine aw_cV1IF (c_X8_lacksSounds hs hv (by omega)) lk_X8_344 dX8_first_18 (by decide) rfl rfl (fun _ => Nat.le_of_ble_eq_true rfl) ?_
      refine aw_istore_3 dX8_first_21 (by decide) rfl ?_
      refine aw_iload_n dX8_first_22 rfl ?_
      refine aw_if_ge (tgt := 28) dX8_first_23 rfl (by omega) (fun hc23 => ?_) (fun hc23 => ?_)
      · obtain ⟨k0, k1, k2, k3, k4, k5⟩ := lsR_0 (g := g) (r := r) (by omega)
        refine aw_heap k3 ?_
        refine aw_aload_n dX8_first_28 rfl ?_
        refine aw_getR (kx := 0) fl_X8_7 dX8_first_29 rfl rfl rfl ?_
        refine aw_iload_n dX8_first_32 rfl ?_
        refine aw_iaload dX8_first_33 rfl (by decide) (by omega) ?_
        refine aw_istore4 dX8_first_34 (by decide) rfl ?_
        refine aw_aload_n dX8_first_36 rfl ?_
        refine aw_iload dX8_first_37 rfl ?_
        refine aw_iconst dX8_first_39 ?_
        refine aw_cV2I (c_X8_nextLine1 (AgL.rf g)) lk_X8_347 dX8_first_40 (by decide) rfl rfl (fun _ => Nat.le_of_ble_eq_true rfl) (fun v40 h40 q40 => ?_)
        refine aw_top q40.1 ?_
        refine aw_istore5 dX8_first_43 (by decide) rfl ?_
        rw [S_first, if_neg (by omega), if_neg (by omega)]
        exact lp_X8_first hs hy hv (by omega) (by omega) k0 ⟨k1, k2⟩ _ [] h40 _ q40.2 (by show ((0 : Nat) : Int) ≤ _; omega) rfl (by rw [fsR, ← tr_rst (P := []) (by show 0 ≤ _; omega)]; show (trL g _ [] ++ []).foldl _ _ = _; rw [List.append_nil]; rfl)
      · refine aw_iload_n dX8_first_26 rfl ?_
        refine aw_iretQ dX8_first_27 rfl ?_
        rw [S_first, if_neg (by omega), if_pos (by omega)]; exact ⟨rfl, MEq.rf _⟩
    · refine aw_iconst dX8_first_14 ?_
      refine aw_iretQ dX8_first_15 rfl ?_
      rw [S_first, if_pos (by omega)]; exact ⟨rfl, MEq.rf _⟩
