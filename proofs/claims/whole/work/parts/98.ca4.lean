/-- lowest terms are one pair -/
theorem low_terms {a b c d : Int} (hb : 0 < b) (hd : 0 < d) (h : a * d = c * b) : a.tdiv ((Int.gcd a b : Nat) : Int) = c.tdiv ((Int.gcd c d : Nat) : Int) ∧ b.tdiv ((Int.gcd a b : Nat) : Int) = d.tdiv ((Int.gcd c d : Nat) : Int) := by
  have p0 : 0 < ((Int.gcd a b : Nat) : Int) := by have := Int.gcd_pos_of_ne_zero_right a (show b ≠ 0 by omega); omega
  have q0 : 0 < ((Int.gcd c d : Nat) : Int) := by have := Int.gcd_pos_of_ne_zero_right c (show d ≠ 0 by omega); omega
  have e1 : Int.gcd (a * d) (b * d) = Int.gcd a b * d.natAbs := Int.gcd_mul_right _ _ _
  have e2 : Int.gcd (c * b) (d * b) = Int.gcd c d * b.natAbs := Int.gcd_mul_right _ _ _
  rw [h, Int.mul_comm b d, e2] at e1
  have e3 : ((Int.gcd c d : Nat) : Int) * b = ((Int.gcd a b : Nat) : Int) * d := by
    have := congrArg (fun n : Nat => (n : Int)) e1
    simp only [Int.natCast_mul] at this
    rw [show ((b.natAbs : Nat) : Int) = b by omega, show ((d.natAbs : Nat) : Int) = d by omega] at this
    exact this
  obtain ⟨a', ha⟩ := Int.gcd_dvd_left (a := a) (b := b)
  obtain ⟨b', hb'⟩ := Int.gcd_dvd_right (a := a) (b := b)
  obtain ⟨c', hc⟩ := Int.gcd_dvd_left (a := c) (b := d)
  obtain ⟨d', hd'⟩ := Int.gcd_dvd_right (a := c) (b := d)
  generalize ((Int.gcd a b : Nat) : Int) = p at *
  generalize ((Int.gcd c d : Nat) : Int) = q at *
  subst ha; subst hb'; subst hc; subst hd'
  have f1 : b' = d' := by
    have : (q * p) * b' = (q * p) * d' := by rw [Int.mul_assoc, e3, ← Int.mul_assoc, Int.mul_comm p q]
    exact Int.eq_of_mul_eq_mul_left (by have := Int.mul_pos q0 p0; omega) this
  subst f1
  have b0 : 0 < b' := by
    rcases Int.lt_or_le 0 b' with z | z
    · exact z
    · have : p * b' ≤ p * 0 := Int.mul_le_mul_of_nonneg_left z (by omega)
      rw [Int.mul_zero] at this
      omega
  have f2 : a' = c' := by
    have : (p * q * b') * a' = (p * q * b') * c' := by
      have e4 : (p * q * b') * a' = p * a' * (q * b') := by simp only [Int.mul_comm, Int.mul_left_comm, Int.mul_assoc]
      have e5 : (p * q * b') * c' = q * c' * (p * b') := by simp only [Int.mul_comm, Int.mul_left_comm, Int.mul_assoc]
      rw [e4, e5]; exact h
    exact Int.eq_of_mul_eq_mul_left (by have := Int.mul_pos (Int.mul_pos p0 q0) b0; omega) this
  subst f2
  rw [Int.mul_tdiv_cancel_left _ (by omega), Int.mul_tdiv_cancel_left _ (by omega), Int.mul_tdiv_cancel_left _ (by omega), Int.mul_tdiv_cancel_left _ (by omega)]
  exact ⟨rfl, rfl⟩
def ctrF (h : am_H) (up low : Int) : am_H := am_set (am_set h 0 14 (up.tdiv ((Int.gcd up low : Nat) : Int))) 0 15 (low.tdiv ((Int.gcd up low : Nat) : Int))
theorem c_X7_tellsRatio {h : am_H} {up low : Int} (hu : -9000000000000000000 ≤ up ∧ up ≤ 9000000000000000000) (hl : 0 < low ∧ low ≤ 262144) : AMet GC mX7_tellsRatio 2 [am_R 0, am_J up, am_J low] h (am_FV (ctrF h up low)) := by
  have p0 : 0 < ((Int.gcd up low : Nat) : Int) := by have := Int.gcd_pos_of_ne_zero_right up (show low ≠ 0 by omega); omega
  have p1 : ((Int.gcd up low : Nat) : Int) ≤ low := Int.le_of_dvd hl.1 (Int.gcd_dvd_right (a := up) (b := low))
  have eg : ((Int.gcd (if 0 ≤ up then up else -up) low : Nat) : Int) = ((Int.gcd up low : Nat) : Int) := by
    split
    · rfl
    · rw [Int.neg_gcd]
  have ea : 0 ≤ (if 0 ≤ up then up else -up) ∧ (if 0 ≤ up then up else -up) < 9223372036854775808 := by split <;> omega
  refine am_start [some (am_R 0), some (am_J up), none, some (am_J low), none, none, none] rfl rfl (by decide) (Nat.le_of_ble_eq_true rfl) ?_
  refine aw_lload_n dX7_tellsRatio_0 rfl ?_
  refine aw_cS1JF (c_J9_abs (by omega)) lk_X7_381 dX7_tellsRatio_1 (by decide) (fun _ => Nat.le_of_ble_eq_true rfl) ?_
  refine aw_lload_n dX7_tellsRatio_4 rfl ?_
  refine aw_cS2JF (c_X7_common ea hl) lk_X7_386 dX7_tellsRatio_5 (by decide) (fun _ => Nat.le_of_ble_eq_true rfl) ?_
  refine aw_topJ eg ?_
  refine aw_lstore5 dX7_tellsRatio_8 (by decide) rfl ?_
  refine aw_lload dX7_tellsRatio_10 rfl ?_
  refine aw_lconst (v := 0) dX7_tellsRatio_12 rfl ?_
  refine aw_lif_le (tgt := 33) dX7_tellsRatio_13 dX7_tellsRatio_14 rfl (by omega) (by omega) (fun hc13 => ?_) (fun hc13 => ?_)
  · omega
  · refine aw_aload_n dX7_tellsRatio_17 rfl ?_
    refine aw_lload_n dX7_tellsRatio_18 rfl ?_
    refine aw_lload dX7_tellsRatio_19 rfl ?_
    refine aw_ldiv (by omega) (by omega) dX7_tellsRatio_21 ?_
    refine aw_putJ (kx := 14) fp_X7_359 dX7_tellsRatio_22 rfl rfl rfl ?_
    refine aw_aload_n dX7_tellsRatio_25 rfl ?_
    refine aw_lload_n dX7_tellsRatio_26 rfl ?_
    refine aw_lload dX7_tellsRatio_27 rfl ?_
    refine aw_ldiv (by omega) (by omega) dX7_tellsRatio_29 ?_
    refine aw_putJ (kx := 15) fp_X7_82 dX7_tellsRatio_30 rfl rfl rfl ?_
    refine aw_vretF dX7_tellsRatio_33 rfl ?_
    rfl
