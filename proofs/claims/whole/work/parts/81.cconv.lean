/-! the class's deeds by the reference's -/
def cde (n d : Int) : Int := if hw n d = 0 then 0 else if hw n d = 1 then n / 256 else hw n d + 4
def cv (n : Int) : Int := cde n 0 + 8 * cde n 1 + 64 * cde n 2 + 512 * cde n 3
def hh (d : Int) : Int := if d = 0 then 0 else d + 1
def ivB (b l e : Int) : Int := if b = 0 then 1 + 4 * hh (e / 9) + 16 * hh (e / 3 % 3) + 64 * hh (e % 3) + l * 256 else if b = 1 then hh (e / 9) + 4 + 16 * hh (e / 3 % 3) + 64 * hh (e % 3) + l * 256 else if b = 2 then hh (e / 9) + 4 * hh (e / 3 % 3) + 16 + 64 * hh (e % 3) + l * 256 else hh (e / 9) + 4 * hh (e / 3 % 3) + 16 * hh (e % 3) + 64 + l * 256
def inv (i : Int) : Int := if i < 81 then hh (i / 27 % 3) + 4 * hh (i / 9 % 3) + 16 * hh (i / 3 % 3) + 64 * hh (i % 3) else ivB ((i - 81) / 27 / 5) ((i - 81) / 27 % 5 + 1) ((i - 81) % 27)
def cvA (n : Int) : Bool := decide (cd (cv n) 0 = cde n 0) && decide (cd (cv n) 1 = cde n 1) && decide (cd (cv n) 2 = cde n 2) && decide (cd (cv n) 3 = cde n 3) && decide (bz (cv n) = if bg n < 0 then -1 else bg n)
def cvB (n : Int) : Bool := decide (aft (cv n) 0 = cv (gon 0 n)) && decide (aft (cv n) 5 = cv (gon 5 n))
def cvC (n : Int) : Bool := decide (0 ≤ ix (cv n)) && decide (ix (cv n) ≤ 620) && decide (inv (ix (cv n)) = n)
def cvD (n d : Int) : Bool := decide (wth (cv n) d 1 = cv (bgw 1 n d)) && decide (wth (cv n) d 2 = cv (bgw 2 n d)) && decide (wth (cv n) d 3 = cv (bgw 3 n d)) && decide (wth (cv n) d 4 = cv (bgw 4 n d)) && decide (wth (cv n) d 5 = cv (bgw 5 n d))
theorem cv_a : ∀ n : Nat, n < 1536 → (!vsB n || cvA n) = true := by decide +kernel
theorem cv_b : ∀ n : Nat, n < 1536 → (!vsB n || cvB n) = true := by decide +kernel
theorem cv_c : ∀ n : Nat, n < 1536 → (!vsB n || cvC n) = true := by decide +kernel
theorem cv_d : ∀ n : Nat, n < 256 → ∀ d : Nat, d < 4 → (!vsB n || !decide (hw n d = 0) || !decide (bg n < 0) || cvD n d) = true := by decide +kernel
theorem cv_aa {n : Int} (h : VS n) : cd (cv n) 0 = cde n 0 ∧ cd (cv n) 1 = cde n 1 ∧ cd (cv n) 2 = cde n 2 ∧ cd (cv n) 3 = cde n 3 ∧ bz (cv n) = (if bg n < 0 then -1 else bg n) := by
  have h1 := h.1
  have h2 := h.2.1
  have e : ((n.toNat : Nat) : Int) = n := by omega
  have := cv_a n.toNat (by omega)
  rw [e, vs_b.mp h] at this
  simp only [Bool.not_true, Bool.false_or] at this
  unfold cvA at this
  simp only [Bool.and_eq_true, decide_eq_true_eq] at this
  exact ⟨this.1.1.1.1, this.1.1.1.2, this.1.1.2, this.1.2, this.2⟩
theorem cv_cd {n d : Int} (h : VS n) (h0 : 0 ≤ d) (h1 : d < 4) : cd (cv n) d = cde n d := by
  obtain ⟨a0, a1, a2, a3, _⟩ := cv_aa h
  have : d = 0 ∨ d = 1 ∨ d = 2 ∨ d = 3 := by omega
  rcases this with q | q | q | q <;> subst q
  · exact a0
  · exact a1
  · exact a2
  · exact a3
theorem cv_bz {n : Int} (h : VS n) : bz (cv n) = (if bg n < 0 then -1 else bg n) := (cv_aa h).2.2.2.2
theorem cv_aft {n k : Int} (h : VS n) : aft (cv n) k = cv (gon k n) := by
  have h1 := h.1
  have h2 := h.2.1
  have e : ((n.toNat : Nat) : Int) = n := by omega
  have := cv_b n.toNat (by omega)
  rw [e, vs_b.mp h] at this
  simp only [Bool.not_true, Bool.false_or] at this
  unfold cvB at this
  simp only [Bool.and_eq_true, decide_eq_true_eq] at this
  obtain ⟨a0, a5⟩ := this
  have hb := cv_bz h
  have hb2 : bz (cv n) < 0 ↔ bg n < 0 := by
    rw [hb]; split <;> omega
  by_cases c : bg n < 0 ∨ k = 3 ∨ k = 2
  · rw [gon, if_pos c, aft, if_pos (by omega)]
  · by_cases c5 : k = 5
    · subst c5; exact a5
    · have e1 : gon k n = gon 0 n := by
        rw [gon, gon, if_neg c, if_neg c5, if_neg (c := bg n < 0 ∨ (0 : Int) = 3 ∨ (0 : Int) = 2) (by omega), if_neg (c := (0 : Int) = 5) (by omega)]
      have e2 : aft (cv n) k = aft (cv n) 0 := by
        rw [aft, aft, if_neg (by omega), if_neg c5, if_neg (c := bz (cv n) < 0 ∨ (0 : Int) = 3 ∨ (0 : Int) = 2) (by omega), if_neg (c := (0 : Int) = 5) (by omega)]
      rw [e1, e2]; exact a0
theorem cv_ix {n : Int} (h : VS n) : (0 ≤ ix (cv n) ∧ ix (cv n) ≤ 620) ∧ inv (ix (cv n)) = n := by
  have h1 := h.1
  have h2 := h.2.1
  have e : ((n.toNat : Nat) : Int) = n := by omega
  have := cv_c n.toNat (by omega)
  rw [e, vs_b.mp h] at this
  simp only [Bool.not_true, Bool.false_or] at this
  unfold cvC at this
  simp only [Bool.and_eq_true, decide_eq_true_eq] at this
  exact ⟨⟨this.1.1, this.1.2⟩, this.2⟩
theorem cv_inj {n m : Int} (h1 : VS n) (h2 : VS m) (e : ix (cv n) = ix (cv m)) : n = m := by
  rw [← (cv_ix h1).2, ← (cv_ix h2).2, e]
theorem cv_wth {n d s : Int} (h : VS n) (hc : cbg n d) (h0 : 0 ≤ d ∧ d < 4) (hs : 1 ≤ s ∧ s ≤ 5) : wth (cv n) d s = cv (bgw s n d) := by
  have h1 := h.1
  have h2 := h.2.1
  have e : ((n.toNat : Nat) : Int) = n := by omega
  have ed : ((d.toNat : Nat) : Int) = d := by omega
  have hlt := vs_bg0 n.toNat (by omega) (by rw [e]; exact vs_b.mp h) (by rw [e]; exact hc.1)
  have := cv_d n.toNat hlt d.toNat (by omega)
  rw [e, ed, vs_b.mp h, decide_eq_true hc.2, decide_eq_true hc.1] at this
  simp only [Bool.not_true, Bool.false_or] at this
  unfold cvD at this
  simp only [Bool.and_eq_true, decide_eq_true_eq] at this
  have hs5 : s = 1 ∨ s = 2 ∨ s = 3 ∨ s = 4 ∨ s = 5 := by omega
  rcases hs5 with q | q | q | q | q <;> subst q
  · exact this.1.1.1.1
  · exact this.1.1.1.2
  · exact this.1.1.2
  · exact this.1.2
  · exact this.2
theorem vs_left {n : Int} (h : VS n) {d : Int} (h0 : 0 ≤ d ∧ d < 4) (hb : hw n d = 1) : 1 ≤ n / 256 ∧ n / 256 ≤ 5 := by
  obtain ⟨h1, h2, h3⟩ := h
  rcases h3 with ⟨a0, a1, a2, a3, _⟩ | ⟨a, _⟩
  · have : d = 0 ∨ d = 1 ∨ d = 2 ∨ d = 3 := by omega
    rcases this with q | q | q | q <;> subst q
    · exact absurd hb a0
    · exact absurd hb a1
    · exact absurd hb a2
    · exact absurd hb a3
  · omega
theorem cde_rng {n : Int} (h : VS n) {d : Int} (h0 : 0 ≤ d ∧ d < 4) : (hw n d = 0 → cde n d = 0) ∧ (hw n d = 1 → 1 ≤ cde n d ∧ cde n d ≤ 5) ∧ (hw n d = 2 → cde n d = 6) ∧ (hw n d = 3 → cde n d = 7) := by
  have hl := vs_left h h0
  unfold cde
  refine ⟨fun e => by rw [if_pos e], fun e => ?_, fun e => ?_, fun e => ?_⟩
  · rw [if_neg (by omega), if_pos e]; exact hl e
  · rw [if_neg (by omega), if_neg (by omega)]; omega
  · rw [if_neg (by omega), if_neg (by omega)]; omega
/-- what the class says of a deed is what the reference says -/
theorem dst_hw {n d : Int} (h : VS n) (h0 : 0 ≤ d ∧ d < 4) : dst (cv n) d = hw n d := by
  have hr := hw_rng n d
  have hc := cde_rng h h0
  unfold dst
  rw [cv_cd h h0.1 h0.2]
  generalize cde n d = c at hc ⊢
  generalize hw n d = w at hc hr ⊢
  have : w = 0 ∨ w = 1 ∨ w = 2 ∨ w = 3 := by omega
  rcases this with q | q | q | q <;> subst q
  · rw [if_neg (by omega), if_pos (by omega)]
  · rw [if_pos (by omega)]
  · rw [if_neg (by omega), if_neg (by omega)]; omega
  · rw [if_neg (by omega), if_neg (by omega)]; omega
theorem cv_done {n d : Int} (h : VS n) (h0 : 0 ≤ d ∧ d < 4) : cd (cv n) d = 6 ↔ hw n d = 2 := by
  have hr := hw_rng n d
  have hc := cde_rng h h0
  rw [cv_cd h h0.1 h0.2]
  omega
theorem cv_open {n d : Int} (h : VS n) (h0 : 0 ≤ d ∧ d < 4) : cd (cv n) d = 0 ↔ hw n d = 0 := by
  have hr := hw_rng n d
  have hc := cde_rng h h0
  rw [cv_cd h h0.1 h0.2]
  omega
theorem cv_dne {n : Int} (h : VS n) : ∀ i : Nat, i ≤ 4 → dneF (cv n) i = dnF n i
  | 0, _ => rfl
  | i + 1, hi => by
    have ih := cv_dne h i (by omega)
    have := cv_done h (d := i) ⟨by omega, by omega⟩
    unfold dneF dnF
    rw [ih]
    by_cases e : hw n i = 2
    · rw [if_pos e, if_pos (this.mpr e)]
    · rw [if_neg e, if_neg (fun z => e (this.mp z))]
theorem cv_can {n d : Int} (h : VS n) (h0 : 0 ≤ d ∧ d < 4) : (cd (cv n) d = 0 ∧ bz (cv n) < 0) ↔ cbg n d := by
  have h1 := cv_open h h0
  have h2 := cv_bz h
  have h3 : bz (cv n) < 0 ↔ bg n < 0 := by rw [h2]; split <;> omega
  exact ⟨fun z => ⟨h3.mp z.2, h1.mp z.1⟩, fun z => ⟨h1.mpr z.2, h3.mpr z.1⟩⟩
theorem cv_rng {n : Int} (h : VS n) : 0 ≤ cv n ∧ cv n < 4096 := by
  have a0 := cde_rng h (d := 0) (by omega)
  have a1 := cde_rng h (d := 1) (by omega)
  have a2 := cde_rng h (d := 2) (by omega)
  have a3 := cde_rng h (d := 3) (by omega)
  have b0 := hw_rng n 0
  have b1 := hw_rng n 1
  have b2 := hw_rng n 2
  have b3 := hw_rng n 3
  unfold cv
  generalize cde n 0 = c0 at a0 ⊢
  generalize cde n 1 = c1 at a1 ⊢
  generalize cde n 2 = c2 at a2 ⊢
  generalize cde n 3 = c3 at a3 ⊢
  have q0 : 0 ≤ c0 ∧ c0 ≤ 7 := by omega
  have q1 : 0 ≤ c1 ∧ c1 ≤ 7 := by omega
  have q2 : 0 ≤ c2 ∧ c2 ≤ 7 := by omega
  have q3 : 0 ≤ c3 ∧ c3 ≤ 7 := by omega
  omega
