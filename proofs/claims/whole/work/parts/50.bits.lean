/-! bits of small numbers -/
theorem bt_fa_and (a b : Nat) : nI a &&& nI b = nI (a &&& b) := by
  apply Int32.toBitVec.inj
  apply BitVec.eq_of_getLsbD_eq
  intro i hi
  show (BitVec.ofNat 32 a &&& BitVec.ofNat 32 b).getLsbD i = (BitVec.ofNat 32 (a &&& b)).getLsbD i
  simp [BitVec.getLsbD_ofNat, hi]
theorem bt_fa_or (a b : Nat) : nI a ||| nI b = nI (a ||| b) := by
  apply Int32.toBitVec.inj
  apply BitVec.eq_of_getLsbD_eq
  intro i hi
  show (BitVec.ofNat 32 a ||| BitVec.ofNat 32 b).getLsbD i = (BitVec.ofNat 32 (a ||| b)).getLsbD i
  simp [BitVec.getLsbD_ofNat, hi]
theorem bt_nI (a : Nat) : Int32.ofInt (a : Int) = nI a := Int32.ofInt_eq_ofNat
theorem bt_and {a b : Nat} (ha : a < 2147483648) : am_and a b = ((a &&& b : Nat) : Int) := by
  unfold am_and
  rw [bt_nI, bt_nI, bt_fa_and]
  exact nI_toInt (Nat.lt_of_le_of_lt Nat.and_le_left ha)
theorem bt_or {a b : Nat} (ha : a < 2147483648) (hb : b < 2147483648) : am_or a b = ((a ||| b : Nat) : Int) := by
  unfold am_or
  rw [bt_nI, bt_nI, bt_fa_or]
  exact nI_toInt (show a ||| b < 2 ^ 31 from Nat.or_lt_two_pow ha hb)
theorem bt_or2 {a n : Nat} (ha : a < 2 ^ n) (hn : n < 31) : am_or a ((2 ^ n : Nat) : Int) = a + ((2 ^ n : Nat) : Int) := by
  have h1 : 2 ^ n ≤ 2 ^ 30 := Nat.pow_le_pow_right (by decide) (by omega)
  rw [bt_or (by omega) (by omega)]
  have h2 : 2 ^ n ||| a = 2 ^ n + a := by
    have := Nat.two_pow_add_eq_or_of_lt ha 1
    rw [Nat.mul_one] at this
    exact this.symm
  rw [Nat.or_comm, h2]
  omega
theorem bt_or0 {a : Nat} (ha : a < 2147483648) : am_or a 0 = a := by
  have := bt_or (a := a) (b := 0) ha (by decide)
  rw [Nat.or_zero] at this
  exact this
theorem bt_sm : ∀ k : Nat, k < 32 → ((Int32.ofInt k &&& 31).toBitVec.smod 32).toNat = k := by decide +kernel
theorem bt_shl1 {n : Nat} (hn : n < 31) : am_shl 1 n = ((2 ^ n : Nat) : Int) := by
  rw [am_shlT (bt_sm n (by omega))]
  have h1 : 2 ^ n ≤ 2 ^ 30 := Nat.pow_le_pow_right (by decide) (by omega)
  have h2 : ((2 ^ n : Nat) : Int) = 2 ^ n := by simp
  rw [Int.one_mul, ← h2]
  generalize 2 ^ n = m at *
  simp only [Int.bmod]
  omega
theorem bt_shr {a : Int} {n : Nat} (ha : 0 ≤ a ∧ a < 2147483648) (hn : n < 32) : am_shr a n = a / ((2 ^ n : Nat) : Int) := by
  rw [am_shrT (by omega) (bt_sm n hn), Int.shiftRight_eq_div_pow]
/-- how many ones there are in the low k bits -/
def pcN : Nat → Nat → Nat
  | 0, _ => 0
  | k + 1, n => n % 2 + pcN k (n / 2)
theorem pcN_0 : ∀ k, pcN k 0 = 0
  | 0 => rfl
  | k + 1 => by simp [pcN, pcN_0 k]
theorem pcN_le : ∀ k n, pcN k n ≤ k
  | 0, n => Nat.le_refl _
  | k + 1, n => by
    have := pcN_le k (n / 2)
    simp only [pcN]; omega
theorem pcN_and : ∀ (k n : Nat), 0 < n → n < 2 ^ k → pcN k (n &&& (n - 1)) + 1 = pcN k n
  | 0, n, h0, h => by simp at h; omega
  | k + 1, n, h0, h => by
    simp only [pcN]
    rw [Nat.and_div_two]
    have h2 : (n &&& (n - 1)) % 2 = 0 := by
      have h3 := Nat.and_mod_two_pow (a := n) (b := n - 1) (n := 1)
      rw [Nat.pow_one] at h3
      rw [h3]
      rcases Nat.mod_two_eq_zero_or_one n with e | e
      · rw [e, Nat.zero_and]
      · have : (n - 1) % 2 = 0 := by omega
        rw [this, Nat.and_zero]
    rw [h2]
    rcases Nat.mod_two_eq_zero_or_one n with e | e
    · have e2 : (n - 1) / 2 = n / 2 - 1 := by omega
      rw [e2, e]
      have := pcN_and k (n / 2) (by omega) (by rw [Nat.pow_succ] at h; omega)
      omega
    · have e2 : (n - 1) / 2 = n / 2 := by omega
      rw [e2, Nat.and_self, e]
      omega
theorem aw_ls {G : List am_K} {M : am_M} {d : Nat} {Q : Option am_V → am_H → Prop} {pc : Nat} {ls ls2 : List (Option am_V)} {st : List am_V} {h : am_H} (e : ls = ls2) (k : AW G M d Q pc ls2 st h) : AW G M d Q pc ls st h := e ▸ k
theorem lp_X8_ones {g : am_H} {t : Nat} : ∀ (m n : Nat) (c : Nat), n < 65536 → pcN 16 n < m → c + pcN 16 n = t → ∀ {x0 : Int}, AW GM mX8_ones 1 (am_FI t g) 4 [some (am_I x0), some (am_I c), some (am_I n)] [] g := by
  intro m
  induction m with
  | zero => intro n c h1 h2; omega
  | succ m ih =>
    intro n c h1 h2 h3 x0
    have hp := pcN_and 16 n
    have hle : n &&& (n - 1) ≤ n := Nat.and_le_left
    have h0 : n = 0 → pcN 16 n = 0 := by intro e; rw [e, pcN_0]
    refine aw_iload_n dX8_ones_4 rfl ?_
    refine aw_if_eq (tgt := 20) dX8_ones_5 rfl (by omega) (fun hc5 => ?_) (fun hc5 => ?_)
    · refine aw_iload_n dX8_ones_20 rfl ?_
      refine aw_iretF dX8_ones_21 rfl ?_
      exact ⟨by have := h0 (by omega); omega, rfl⟩
    · refine aw_iinc1 dX8_ones_8 (by decide) rfl ?_
      refine aw_ls (ls2 := [some (am_I x0), some (am_I ((c + 1 : Nat) : Int)), some (am_I n)]) rfl ?_
      refine aw_iload_n dX8_ones_11 rfl ?_
      refine aw_iload_n dX8_ones_12 rfl ?_
      refine aw_iconst dX8_ones_13 ?_
      refine aw_isub dX8_ones_14 ?_
      refine aw_top (show (n : Int) - 1 = ((n - 1 : Nat) : Int) by omega) ?_
      refine aw_iand dX8_ones_15 ?_
      refine aw_top (bt_and (by omega)) ?_
      refine aw_istore_2 dX8_ones_16 (by decide) rfl ?_
      refine aw_goto (tgt := 4) dX8_ones_17 rfl ?_
      exact ih _ (c + 1) (by omega) (by have := hp (by omega) (by omega); omega) (by have := hp (by omega) (by omega); omega)
theorem c_X8_ones {g : am_H} {n : Nat} {a : Int} (ha : a = n) (hn : n < 65536) : AMet GM mX8_ones 1 [am_I a] g (am_FI ((pcN 16 n : Nat) : Int) g) := by
  subst ha
  refine am_start [some (am_I n), none, none] rfl rfl (by decide) (Nat.le_of_ble_eq_true rfl) ?_
  refine aw_iconst dX8_ones_0 ?_
  refine aw_istore_1 dX8_ones_1 (by decide) rfl ?_
  refine aw_iload_n dX8_ones_2 rfl ?_
  refine aw_istore_2 dX8_ones_3 (by decide) rfl ?_
  exact lp_X8_ones (pcN 16 n + 1) n 0 hn (by omega) (by omega)
