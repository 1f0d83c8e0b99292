/-- steps of Euclid, with a bound: one where y is 0, and two more for each bit of y -/
def euS : Nat → Int → Int → Prop
  | 0, _, y => y = 0
  | k + 1, x, y => y = 0 ∨ euS k y (x % y)
theorem euS_ok : ∀ (j : Nat) (x y : Int), 0 ≤ y → y ≤ x → y < ((2 ^ j : Nat) : Int) → euS (2 * j) x y
  | 0, x, y, h0, h1, h2 => by
    rw [show (2 : Nat) ^ 0 = 1 from rfl] at h2
    show y = 0
    omega
  | j + 1, x, y, h0, h1, h2 => by
    rw [show 2 * (j + 1) = 2 * j + 1 + 1 by omega]
    by_cases e : y = 0
    · exact Or.inl e
    · have a1 := Int.emod_nonneg x e
      have a2 := Int.emod_lt_of_pos x (show 0 < y by omega)
      refine Or.inr ?_
      by_cases e2 : x % y = 0
      · exact Or.inl e2
      · refine Or.inr ?_
        have b1 := Int.emod_nonneg y e2
        have b2 := Int.emod_lt_of_pos y (show 0 < x % y by omega)
        have b3 : y % (x % y) ≤ y - x % y := by
          have : (y - x % y) % (x % y) = y % (x % y) := by rw [Int.sub_emod_right]
          rw [← this]
          have q0 : 0 ≤ (x % y) * ((y - x % y) / (x % y)) := Int.mul_nonneg a1 (Int.ediv_nonneg (by omega) a1)
          rw [Int.emod_def (y - x % y) (x % y)]
          generalize (x % y) * ((y - x % y) / (x % y)) = q at q0
          omega
        have hp : ((2 ^ (j + 1) : Nat) : Int) = 2 * ((2 ^ j : Nat) : Int) := by rw [Nat.pow_succ]; omega
        exact euS_ok j (x % y) (y % (x % y)) b1 (by omega) (by omega)
theorem lp_X7_common {h : am_H} {t : Int} : ∀ (k : Nat) (x y : Int) (i x0 x2 : Int) (x9 x10 : Option am_V), 0 ≤ x → x < 9223372036854775808 → 0 ≤ y → y < 9223372036854775808 → 0 ≤ i → i + k < 100 → euS k x y → ((Int.gcd x y : Nat) : Int) = t → AW GC mX7_commonDivisor 1 (am_FJ t h) 9 [some (am_J x0), none, some (am_J x2), none, some (am_J x), none, some (am_J y), none, some (am_I i), x9, x10] [] h := by
  intro k
  induction k with
  | zero =>
    intro x y i x0 x2 x9 x10 h1 h2 h3 h4 h5 h6 h7 h8
    have hy : y = 0 := h7
    subst hy
    refine aw_iload dX7_commonDivisor_9 rfl ?_
    refine aw_bipush (by decide) dX7_commonDivisor_11 ?_
    refine aw_icmp_ge (tgt := 44) dX7_commonDivisor_13 rfl (by omega) (by omega) (fun hc13 => ?_) (fun hc13 => ?_)
    · omega
    · refine aw_lload dX7_commonDivisor_16 rfl ?_
      refine aw_lconst (v := 0) dX7_commonDivisor_18 rfl ?_
      refine aw_lif_eq (tgt := 44) dX7_commonDivisor_19 dX7_commonDivisor_20 rfl (by omega) (by omega) (fun hc19 => ?_) (fun hc19 => ?_)
      · refine aw_lload dX7_commonDivisor_44 rfl ?_
        refine aw_lretF dX7_commonDivisor_46 rfl ?_
        rw [Int.gcd_zero_right] at h8
        exact ⟨by omega, rfl⟩
      · omega
  | succ k ih =>
    intro x y i x0 x2 x9 x10 h1 h2 h3 h4 h5 h6 h7 h8
    by_cases hy : y = 0
    · subst hy
      refine aw_iload dX7_commonDivisor_9 rfl ?_
      refine aw_bipush (by decide) dX7_commonDivisor_11 ?_
      refine aw_icmp_ge (tgt := 44) dX7_commonDivisor_13 rfl (by omega) (by omega) (fun hc13 => ?_) (fun hc13 => ?_)
      · omega
      · refine aw_lload dX7_commonDivisor_16 rfl ?_
        refine aw_lconst (v := 0) dX7_commonDivisor_18 rfl ?_
        refine aw_lif_eq (tgt := 44) dX7_commonDivisor_19 dX7_commonDivisor_20 rfl (by omega) (by omega) (fun hc19 => ?_) (fun hc19 => ?_)
        · refine aw_lload dX7_commonDivisor_44 rfl ?_
          refine aw_lretF dX7_commonDivisor_46 rfl ?_
          rw [Int.gcd_zero_right] at h8
          exact ⟨by omega, rfl⟩
        · omega
    · have h9 : x.tmod y = x % y := Int.tmod_eq_emod_of_nonneg h1
      have h10 := Int.emod_nonneg x hy
      have h11 := Int.emod_lt_of_pos x (show 0 < y by omega)
      have h12 : euS k y (x % y) := by
        rcases h7 with q | q
        · exact absurd q hy
        · exact q
      refine aw_iload dX7_commonDivisor_9 rfl ?_
      refine aw_bipush (by decide) dX7_commonDivisor_11 ?_
      refine aw_icmp_ge (tgt := 44) dX7_commonDivisor_13 rfl (by omega) (by omega) (fun hc13 => ?_) (fun hc13 => ?_)
      · omega
      · refine aw_lload dX7_commonDivisor_16 rfl ?_
        refine aw_lconst (v := 0) dX7_commonDivisor_18 rfl ?_
        refine aw_lif_eq (tgt := 44) dX7_commonDivisor_19 dX7_commonDivisor_20 rfl (by omega) (by omega) (fun hc19 => ?_) (fun hc19 => ?_)
        · omega
        · refine aw_lload dX7_commonDivisor_23 rfl ?_
          refine aw_lload dX7_commonDivisor_25 rfl ?_
          refine aw_lrem (by omega) (by omega) dX7_commonDivisor_27 ?_
          refine aw_topJ h9 ?_
          refine aw_lstore9 dX7_commonDivisor_28 (by decide) rfl ?_
          refine aw_lload dX7_commonDivisor_30 rfl ?_
          refine aw_lstore4 dX7_commonDivisor_32 (by decide) rfl ?_
          refine aw_lload dX7_commonDivisor_34 rfl ?_
          refine aw_lstore6 dX7_commonDivisor_36 (by decide) rfl ?_
          refine aw_iinc8 dX7_commonDivisor_38 (by decide) rfl ?_
          refine aw_goto (tgt := 9) dX7_commonDivisor_41 rfl ?_
          refine ih y (x % y) (i + 1) _ _ _ _ (by omega) (by omega) (by omega) (by omega) (by omega) (by omega) h12 ?_
          rw [← h8]
          have e1 : y = (y.toNat : Int) := by omega
          have e2 : x = (x.toNat : Int) := by omega
          rw [e1, e2, ← Int.natCast_emod]
          simp only [Int.gcd_natCast_natCast]
          rw [Nat.gcd_comm x.toNat, Nat.gcd_rec y.toNat x.toNat, Nat.gcd_comm]
theorem c_X7_common {h : am_H} {a b : Int} (ha : 0 ≤ a ∧ a < 9223372036854775808) (hb : 0 < b ∧ b ≤ 262144) : AMet GC mX7_commonDivisor 1 [am_J a, am_J b] h (am_FJ ((Int.gcd a b : Nat) : Int) h) := by
  have a1 := Int.emod_nonneg a (show b ≠ 0 by omega)
  have a2 := Int.emod_lt_of_pos a hb.1
  have he : euS 39 a b := Or.inr (euS_ok 19 b (a % b) a1 (by omega) (by rw [show (2 : Nat) ^ 19 = 524288 from rfl]; omega))
  refine am_start [some (am_J a), none, some (am_J b), none, none, none, none, none, none, none, none] rfl rfl (by decide) (Nat.le_of_ble_eq_true rfl) ?_
  refine aw_lload_n dX7_commonDivisor_0 rfl ?_
  refine aw_lstore4 dX7_commonDivisor_1 (by decide) rfl ?_
  refine aw_lload_n dX7_commonDivisor_3 rfl ?_
  refine aw_lstore6 dX7_commonDivisor_4 (by decide) rfl ?_
  refine aw_iconst dX7_commonDivisor_6 ?_
  refine aw_istore8 dX7_commonDivisor_7 (by decide) rfl ?_
  exact lp_X7_common 39 a b 0 _ _ _ _ (by omega) (by omega) (by omega) (by omega) (by omega) (by omega) he rfl
