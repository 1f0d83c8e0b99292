def vsB (of : Int) : Bool := decide (0 ≤ of ∧ of < 1536 ∧ ((hw of 0 ≠ 1 ∧ hw of 1 ≠ 1 ∧ hw of 2 ≠ 1 ∧ hw of 3 ≠ 1 ∧ of < 256) ∨ (256 ≤ of ∧ ((hw of 0 = 1 ∧ hw of 1 ≠ 1 ∧ hw of 2 ≠ 1 ∧ hw of 3 ≠ 1) ∨ (hw of 0 ≠ 1 ∧ hw of 1 = 1 ∧ hw of 2 ≠ 1 ∧ hw of 3 ≠ 1) ∨ (hw of 0 ≠ 1 ∧ hw of 1 ≠ 1 ∧ hw of 2 = 1 ∧ hw of 3 ≠ 1) ∨ (hw of 0 ≠ 1 ∧ hw of 1 ≠ 1 ∧ hw of 2 ≠ 1 ∧ hw of 3 = 1)))))
theorem vs_b {of : Int} : VS of ↔ vsB of = true := by
  unfold VS vsB; exact ⟨fun h => decide_eq_true h, fun h => of_decide_eq_true h⟩
theorem vs_gon0 : ∀ n : Nat, n < 1536 → vsB n = true → vsB (gon 0 n) = true := by decide +kernel
theorem vs_gon5 : ∀ n : Nat, n < 1536 → vsB n = true → vsB (gon 5 n) = true := by decide +kernel
theorem vs_bg0 : ∀ n : Nat, n < 1536 → vsB n = true → bg n < 0 → n < 256 := by decide +kernel
def bwB (n d : Int) : Bool := vsB (bgw 1 n d) && vsB (bgw 2 n d) && vsB (bgw 3 n d) && vsB (bgw 4 n d) && vsB (bgw 5 n d)
theorem vs_bgw1 : ∀ n : Nat, n < 256 → ∀ d : Nat, d < 4 → (!vsB n || !decide (hw n d = 0) || !decide (bg n < 0) || bwB n d) = true := by decide +kernel
theorem vs_bgw0 {n d : Nat} (hn : n < 256) (hd : d < 4) (h1 : vsB n = true) (h2 : hw n d = 0) (h3 : bg n < 0) : vsB (bgw 1 n d) = true ∧ vsB (bgw 2 n d) = true ∧ vsB (bgw 3 n d) = true ∧ vsB (bgw 4 n d) = true ∧ vsB (bgw 5 n d) = true := by
  have := vs_bgw1 n hn d hd
  rw [h1, decide_eq_true h2, decide_eq_true h3] at this
  simp only [Bool.not_true, Bool.false_or] at this
  unfold bwB at this
  simp only [Bool.and_eq_true] at this
  exact ⟨this.1.1.1.1, this.1.1.1.2, this.1.1.2, this.1.2, this.2⟩
theorem vs_gon {of k : Int} (h : VS of) : VS (gon k of) := by
  obtain ⟨h1, h2, h3⟩ := h
  have e : of = ((of.toNat : Nat) : Int) := by omega
  have a0 := vs_gon0 of.toNat (by omega) (by rw [← e]; exact vs_b.mp ⟨h1, h2, h3⟩)
  have a5 := vs_gon5 of.toNat (by omega) (by rw [← e]; exact vs_b.mp ⟨h1, h2, h3⟩)
  rw [← e, ← vs_b] at a0 a5
  by_cases c : bg of < 0 ∨ k = 3 ∨ k = 2
  · rw [gon, if_pos c]; exact ⟨h1, h2, h3⟩
  · by_cases c5 : k = 5
    · subst c5; exact a5
    · have : gon k of = gon 0 of := by
        rw [gon, gon, if_neg c, if_neg c5, if_neg (c := bg of < 0 ∨ (0 : Int) = 3 ∨ (0 : Int) = 2) (by omega), if_neg (c := (0 : Int) = 5) (by omega)]
      rw [this]; exact a0
theorem vs_bgw {of s d : Int} (h : VS of) (hc : cbg of d) (hd : 0 ≤ d ∧ d < 4) (hs : 1 ≤ s ∧ s ≤ 5) : VS (bgw s of d) := by
  obtain ⟨h1, h2, h3⟩ := h
  have e : of = ((of.toNat : Nat) : Int) := by omega
  have ed : d = ((d.toNat : Nat) : Int) := by omega
  obtain ⟨c1, c2⟩ := hc
  have a1 := vs_bg0 of.toNat (by omega) (by rw [← e]; exact vs_b.mp ⟨h1, h2, h3⟩) (by rw [← e]; exact c1)
  have a := vs_bgw0 a1 (d := d.toNat) (by omega) (by rw [← e]; exact vs_b.mp ⟨h1, h2, h3⟩) (by rw [← e, ← ed]; exact c2) (by rw [← e]; exact c1)
  rw [← e, ← ed] at a
  simp only [← vs_b] at a
  have : s = 1 ∨ s = 2 ∨ s = 3 ∨ s = 4 ∨ s = 5 := by omega
  rcases this with q | q | q | q | q <;> subst q
  · exact a.1
  · exact a.2.1
  · exact a.2.2.1
  · exact a.2.2.2.1
  · exact a.2.2.2.2
def bcF (of : Int) : Nat → Int
  | 0 => 0
  | n + 1 => bcF of n + (if hw of n = 1 then 1 else 0)
theorem bcF_rng (of : Int) : ∀ n : Nat, 0 ≤ bcF of n ∧ bcF of n ≤ n
  | 0 => by unfold bcF; omega
  | n + 1 => by
    have := bcF_rng of n
    unfold bcF; split <;> omega
theorem vs_bc {of : Int} (h1 : 0 ≤ of) (h2 : of < 1536) : vsB of = true ↔ (if bcF of 4 = 0 then of < 256 else bcF of 4 = 1 ∧ 256 ≤ of) := by
  have e : bcF of 4 = (if hw of 0 = 1 then 1 else 0) + (if hw of 1 = 1 then 1 else 0) + (if hw of 2 = 1 then 1 else 0) + (if hw of 3 = 1 then 1 else 0) := by
    show 0 + _ + _ + _ + _ = _
    rw [Int.zero_add]; rfl
  rw [e, ← vs_b]
  unfold VS
  by_cases a0 : hw of 0 = 1 <;> by_cases a1 : hw of 1 = 1 <;> by_cases a2 : hw of 2 = 1 <;> by_cases a3 : hw of 3 = 1 <;> simp [a0, a1, a2, a3] <;> omega
theorem lp_X8_isState {g : am_H} {of : Int} (hof : 0 ≤ of ∧ of < 1536) : ∀ (m i : Nat), i ≤ 4 → 4 - i < m → AW GM mX8_isState 2 (am_FI (if vsB of = true then 1 else 0) g) 4 [some (am_R 0), some (am_I of), some (am_I (bcF of i)), some (am_I i)] [] g := by
  intro m
  induction m with
  | zero => intro i h1 h2; omega
  | succ m ih =>
    intro i h1 h2
    have hr := bcF_rng of i
    have hh := hw_rng of i
    have hv := vs_bc hof.1 hof.2
    have e8 : am_shr of 8 = of / 256 := bt_shr (n := 8) (by omega) (by omega)
    refine aw_iload_n dX8_isState_4 rfl ?_
    refine aw_iconst dX8_isState_5 ?_
    refine aw_icmp_ge (tgt := 32) dX8_isState_6 rfl (by omega) (by omega) (fun hc6 => ?_) (fun hc6 => ?_)
    · have ei : i = 4 := by omega
      subst ei
      refine aw_iload_n dX8_isState_32 rfl ?_
      refine aw_bipush (by decide) dX8_isState_33 ?_
      refine aw_ishr dX8_isState_35 ?_
      refine aw_top e8 ?_
      refine aw_istore_3 dX8_isState_36 (by decide) rfl ?_
      refine aw_iload_n dX8_isState_37 rfl ?_
      refine aw_if_ne (tgt := 53) dX8_isState_38 rfl (by omega) (fun hc38 => ?_) (fun hc38 => ?_)
      · refine aw_iload_n dX8_isState_53 rfl ?_
        refine aw_iconst dX8_isState_54 ?_
        refine aw_icmp_ne (tgt := 66) dX8_isState_55 rfl (by omega) (by omega) (fun hc55 => ?_) (fun hc55 => ?_)
        · refine aw_iconst dX8_isState_66 ?_
          refine aw_zretF dX8_isState_67 rfl (by omega) ?_
          exact ⟨by rw [if_neg (fun z => by have := hv.mp z; rw [if_neg (by omega)] at this; omega)], rfl⟩
        · refine aw_iload_n dX8_isState_58 rfl ?_
          refine aw_if_le (tgt := 66) dX8_isState_59 rfl (by omega) (fun hc59 => ?_) (fun hc59 => ?_)
          · refine aw_iconst dX8_isState_66 ?_
            refine aw_zretF dX8_isState_67 rfl (by omega) ?_
            exact ⟨by rw [if_neg (fun z => by have := hv.mp z; rw [if_neg (by omega)] at this; omega)], rfl⟩
          · refine aw_iconst dX8_isState_62 ?_
            refine aw_goto (tgt := 67) dX8_isState_63 rfl ?_
            refine aw_zretF dX8_isState_67 rfl (by omega) ?_
            exact ⟨by rw [if_pos (hv.mpr (by rw [if_neg (by omega)]; omega))], rfl⟩
      · refine aw_iload_n dX8_isState_41 rfl ?_
        refine aw_if_ne (tgt := 49) dX8_isState_42 rfl (by omega) (fun hc42 => ?_) (fun hc42 => ?_)
        · refine aw_iconst dX8_isState_49 ?_
          refine aw_goto (tgt := 67) dX8_isState_50 rfl ?_
          refine aw_zretF dX8_isState_67 rfl (by omega) ?_
          exact ⟨by rw [if_neg (fun z => by have := hv.mp z; rw [if_pos (by omega)] at this; omega)], rfl⟩
        · refine aw_iconst dX8_isState_45 ?_
          refine aw_goto (tgt := 67) dX8_isState_46 rfl ?_
          refine aw_zretF dX8_isState_67 rfl (by omega) ?_
          exact ⟨by rw [if_pos (hv.mpr (by rw [if_pos (by omega)]; omega))], rfl⟩
    · refine aw_iload_n dX8_isState_9 rfl ?_
      refine aw_iload_n dX8_isState_10 rfl ?_
      refine aw_iload_n dX8_isState_11 rfl ?_
      refine aw_cS2IF (c_X8_howOf) lk_X8_245 dX8_isState_12 (by decide) (fun _ => Nat.le_of_ble_eq_true rfl) ?_
      refine aw_iconst dX8_isState_15 ?_
      refine aw_icmp_ne (tgt := 23) dX8_isState_16 rfl (by omega) (by omega) (fun hc16 => ?_) (fun hc16 => ?_)
      · refine aw_iconst dX8_isState_23 ?_
        refine aw_iadd dX8_isState_24 ?_
        refine aw_istore_2 dX8_isState_25 (by decide) rfl ?_
        refine aw_iinc3 dX8_isState_26 (by decide) rfl ?_
        refine aw_goto (tgt := 4) dX8_isState_29 rfl ?_
        refine aw_ls ?_ (ih (i + 1) (by omega) (by omega)); rw [bcF, if_neg (by omega)]; rfl
      · refine aw_iconst dX8_isState_19 ?_
        refine aw_goto (tgt := 24) dX8_isState_20 rfl ?_
        refine aw_iadd dX8_isState_24 ?_
        refine aw_istore_2 dX8_isState_25 (by decide) rfl ?_
        refine aw_iinc3 dX8_isState_26 (by decide) rfl ?_
        refine aw_goto (tgt := 4) dX8_isState_29 rfl ?_
        refine aw_ls ?_ (ih (i + 1) (by omega) (by omega)); rw [bcF, if_pos (by omega)]; rfl
theorem c_X8_isState {g : am_H} {of : Int} (hof : 0 ≤ of ∧ of < 1536) : AMet GM mX8_isState 2 [am_R 0, am_I of] g (am_FI (if vsB of = true then 1 else 0) g) := by
  refine am_start [some (am_R 0), some (am_I of), none, none] rfl rfl (by decide) (Nat.le_of_ble_eq_true rfl) ?_
  refine aw_iconst dX8_isState_0 ?_
  refine aw_istore_2 dX8_isState_1 (by decide) rfl ?_
  refine aw_iconst dX8_isState_2 ?_
  refine aw_istore_3 dX8_isState_3 (by decide) rfl ?_
  exact lp_X8_isState hof 5 0 (by omega) (by omega)
