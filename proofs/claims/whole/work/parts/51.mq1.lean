/-! what holds of the reference's speech and years -/
def MVs (g : am_H) : Prop := (0 ≤ g 0 6 ∧ g 0 6 ≤ 9) ∧ (0 ≤ g 0 10 ∧ g 0 10 ≤ 14) ∧ (0 ≤ g 0 15 ∧ g 0 15 ≤ 4) ∧ (∀ x : Int, 0 ≤ x → x < g 0 6 → (0 ≤ g 5 x ∧ g 5 x ≤ 5) ∧ (0 ≤ g 6 x ∧ g 6 x ≤ 5)) ∧ (∀ k : Int, 0 ≤ k → k < g 0 10 → (0 ≤ g 7 k ∧ g 7 k < g 8 k ∧ g 8 k < g 0 6) ∧ (0 ≤ g 9 k ∧ g 9 k ≤ 9) ∧ ¬ fin (g 5 (g 7 k))) ∧ (∀ k j : Int, 0 ≤ k → k < j → j < g 0 10 → g 7 k = g 7 j → ¬ g 9 k = g 9 j) ∧ (∀ x : Int, cntF (g 7) x (g 0 10).toNat ≤ 4) ∧ (∀ d : Int, 0 ≤ d → d < g 0 15 → (1 ≤ g 10 d ∧ g 10 d ≤ 5) ∧ (0 ≤ g 11 d ∧ g 11 d ≤ 9) ∧ (0 ≤ g 12 d ∧ g 12 d ≤ 5) ∧ (0 ≤ g 13 d ∧ g 13 d ≤ 9)) ∧ (g 0 6 = 0 → g 0 10 = 0 ∧ g 0 15 = 0) ∧ (0 < g 0 6 → 2 ≤ g 0 6)
def nowF (g : am_H) : Int := if g 0 18 = 0 then 0 else g 8 (g 14 (g 0 18 - 1))
def MVy (g : am_H) : Prop := (0 ≤ g 0 18 ∧ g 0 18 ≤ 8) ∧ (g 0 6 = 0 → g 0 18 = 0) ∧ ∀ i : Int, 0 ≤ i → i < g 0 18 → (0 ≤ g 14 i ∧ g 14 i < g 0 10) ∧ g 7 (g 14 i) = (if i = 0 then 0 else g 8 (g 14 (i - 1)))
theorem now_ge {g : am_H} (hs : MVs g) (hy : MVy g) : ∀ n : Nat, (n : Int) < g 0 18 → (n : Int) + 1 ≤ g 8 (g 14 n)
  | 0, h => by
    obtain ⟨a, b⟩ := hy.2.2 0 (by omega) (by omega)
    have := (hs.2.2.2.2.1 _ a.1 a.2).1
    rw [if_pos rfl] at b
    show (0 : Int) + 1 ≤ g 8 (g 14 0)
    omega
  | n + 1, h => by
    obtain ⟨a, b⟩ := hy.2.2 (n + 1 : Nat) (by omega) (by omega)
    have h1 := (hs.2.2.2.2.1 _ a.1 a.2).1
    rw [if_neg (by omega)] at b
    have h2 := now_ge hs hy n (by omega)
    have e : ((n + 1 : Nat) : Int) - 1 = n := by omega
    rw [e] at b
    omega
theorem now_rng {g : am_H} (hs : MVs g) (hy : MVy g) : 0 ≤ nowF g ∧ nowF g ≤ 8 ∧ (0 < g 0 6 → nowF g < g 0 6) ∧ g 0 18 ≤ nowF g := by
  unfold nowF
  split
  · omega
  · rename_i h
    obtain ⟨a, b⟩ := hy.2.2 (g 0 18 - 1) (by have := hy.1; omega) (by omega)
    have h1 := (hs.2.2.2.2.1 _ a.1 a.2).1
    have h2 := now_ge hs hy (g 0 18 - 1).toNat (by have := hy.1; omega)
    have e : (((g 0 18 - 1).toNat : Nat) : Int) = g 0 18 - 1 := by have := hy.1; omega
    rw [e] at h2
    have := hs.1
    omega
theorem c_X8_isNode {g : am_H} {x : Int} (hs : MVs g) (hx : -2147483648 ≤ x ∧ x < 2147483648) : AMet GM mX8_isNode 2 [am_R 0, am_I x] g (am_FI (if 0 ≤ x ∧ x ≤ g 0 6 - 1 then 1 else 0) g) := by
  have := hs.1
  refine am_start [some (am_R 0), some (am_I x)] rfl rfl (by decide) (Nat.le_of_ble_eq_true rfl) ?_
  refine aw_iload_n dX8_isNode_0 rfl ?_
  refine aw_i2l (by omega) dX8_isNode_1 ?_
  refine aw_lconst (v := 0) dX8_isNode_2 rfl ?_
  refine aw_aload_n dX8_isNode_3 rfl ?_
  refine aw_getI (kx := 6) fl_X8_207 dX8_isNode_4 rfl rfl rfl ?_
  refine aw_iconst dX8_isNode_7 ?_
  refine aw_isub dX8_isNode_8 ?_
  refine aw_i2l (by omega) dX8_isNode_9 ?_
  refine aw_cS3IF (c_X8_in (by omega) (by omega) (by omega)) lk_X8_133 dX8_isNode_10 (by decide) (fun _ => Nat.le_of_ble_eq_true rfl) ?_
  refine aw_zretF dX8_isNode_13 rfl (by exact am_brng) ?_
  exact ⟨rfl, rfl⟩
theorem c_X8_isWord {g : am_H} {x : Int} (hs : MVs g) (hx : -2147483648 ≤ x ∧ x < 2147483648) : AMet GM mX8_isWord 2 [am_R 0, am_I x] g (am_FI (if 0 ≤ x ∧ x ≤ g 0 10 - 1 then 1 else 0) g) := by
  have := hs.2.1
  refine am_start [some (am_R 0), some (am_I x)] rfl rfl (by decide) (Nat.le_of_ble_eq_true rfl) ?_
  refine aw_iload_n dX8_isWord_0 rfl ?_
  refine aw_i2l (by omega) dX8_isWord_1 ?_
  refine aw_lconst (v := 0) dX8_isWord_2 rfl ?_
  refine aw_aload_n dX8_isWord_3 rfl ?_
  refine aw_getI (kx := 10) fl_X8_210 dX8_isWord_4 rfl rfl rfl ?_
  refine aw_iconst dX8_isWord_7 ?_
  refine aw_isub dX8_isWord_8 ?_
  refine aw_i2l (by omega) dX8_isWord_9 ?_
  refine aw_cS3IF (c_X8_in (by omega) (by omega) (by omega)) lk_X8_133 dX8_isWord_10 (by decide) (fun _ => Nat.le_of_ble_eq_true rfl) ?_
  refine aw_zretF dX8_isWord_13 rfl (by exact am_brng) ?_
  exact ⟨rfl, rfl⟩
theorem c_X8_isDeed {g : am_H} {x : Int} (hs : MVs g) (hx : -2147483648 ≤ x ∧ x < 2147483648) : AMet GM mX8_isDeed 2 [am_R 0, am_I x] g (am_FI (if 0 ≤ x ∧ x ≤ g 0 15 - 1 then 1 else 0) g) := by
  have := hs.2.2.1
  refine am_start [some (am_R 0), some (am_I x)] rfl rfl (by decide) (Nat.le_of_ble_eq_true rfl) ?_
  refine aw_iload_n dX8_isDeed_0 rfl ?_
  refine aw_i2l (by omega) dX8_isDeed_1 ?_
  refine aw_lconst (v := 0) dX8_isDeed_2 rfl ?_
  refine aw_aload_n dX8_isDeed_3 rfl ?_
  refine aw_getI (kx := 15) fl_X8_213 dX8_isDeed_4 rfl rfl rfl ?_
  refine aw_iconst dX8_isDeed_7 ?_
  refine aw_isub dX8_isDeed_8 ?_
  refine aw_i2l (by omega) dX8_isDeed_9 ?_
  refine aw_cS3IF (c_X8_in (by omega) (by omega) (by omega)) lk_X8_133 dX8_isDeed_10 (by decide) (fun _ => Nat.le_of_ble_eq_true rfl) ?_
  refine aw_zretF dX8_isDeed_13 rfl (by exact am_brng) ?_
  exact ⟨rfl, rfl⟩
/-- the words from x, of the first n, in their order -/
def wl (fr : Int → Int) (x : Int) : Nat → List Int
  | 0 => []
  | n + 1 => wl fr x n ++ (if fr n = x then [(n : Int)] else [])
theorem wl_mem {fr : Int → Int} {x k : Int} : ∀ {n : Nat}, k ∈ wl fr x n ↔ 0 ≤ k ∧ k < n ∧ fr k = x
  | 0 => by simp [wl]; omega
  | n + 1 => by
    simp only [wl, List.mem_append, wl_mem (n := n)]
    split
    · rename_i h
      simp only [List.mem_singleton]
      constructor
      · rintro (⟨a, b, c⟩ | rfl)
        · exact ⟨a, by omega, c⟩
        · exact ⟨by omega, by omega, h⟩
      · rintro ⟨a, b, c⟩
        by_cases e : k = n
        · exact Or.inr e
        · exact Or.inl ⟨a, by omega, c⟩
    · rename_i h
      simp only [List.not_mem_nil, or_false]
      constructor
      · rintro ⟨a, b, c⟩; exact ⟨a, by omega, c⟩
      · rintro ⟨a, b, c⟩
        refine ⟨a, ?_, c⟩
        by_cases e : k = n
        · subst e; exact absurd c h
        · omega
theorem wl_len (fr : Int → Int) (x : Int) : ∀ n : Nat, ((wl fr x n).length : Int) = cntF fr x n
  | 0 => rfl
  | n + 1 => by
    have := wl_len fr x n
    simp only [wl, cntF, List.length_append]
    split
    · simp only [List.length_singleton]; omega
    · simp only [List.length_nil]; omega
theorem wl_nil {fr : Int → Int} {x : Int} {n : Nat} : wl fr x n = [] ↔ cntF fr x n = 0 := by
  rw [← wl_len, ← List.length_eq_zero_iff]; omega
def wsN (fr : Int → Int) (x : Int) : Nat → Nat
  | 0 => 0
  | n + 1 => wsN fr x n + (if fr n = x then 2 ^ n else 0)
theorem wsN_lt (fr : Int → Int) (x : Int) : ∀ n : Nat, wsN fr x n < 2 ^ n
  | 0 => by simp [wsN]
  | n + 1 => by
    have := wsN_lt fr x n
    simp only [wsN, Nat.pow_succ]
    split <;> omega
theorem wsN_lt16 (fr : Int → Int) (x : Int) {n : Nat} (hn : n ≤ 14) : wsN fr x n < 16384 := by
  have h1 := wsN_lt fr x n
  have h2 : 2 ^ n ≤ 2 ^ 14 := Nat.pow_le_pow_right (by decide) hn
  omega
theorem pcN_add : ∀ (k n a : Nat), a < 2 ^ n → n < k → pcN k (a + 2 ^ n) = pcN k a + 1
  | 0, n, a, h1, h2 => by omega
  | k + 1, 0, a, h1, h2 => by
    have : a = 0 := by simp at h1; exact h1
    subst this
    simp [pcN, pcN_0]
  | k + 1, n + 1, a, h1, h2 => by
    simp only [pcN, Nat.pow_succ]
    have e1 : (a + 2 ^ n * 2) % 2 = a % 2 := by omega
    have e2 : (a + 2 ^ n * 2) / 2 = a / 2 + 2 ^ n := by omega
    rw [e1, e2, pcN_add k n (a / 2) (by rw [Nat.pow_succ] at h1; omega) (by omega)]
    omega
theorem wsN_pc (fr : Int → Int) (x : Int) : ∀ n : Nat, n ≤ 16 → ((pcN 16 (wsN fr x n) : Nat) : Int) = cntF fr x n
  | 0, _ => by simp [wsN, cntF, pcN_0]
  | n + 1, h => by
    have ih := wsN_pc fr x n (by omega)
    simp only [wsN, cntF]
    split
    · rw [pcN_add 16 n _ (wsN_lt fr x n) (by omega)]; omega
    · simpa using ih
theorem wsN_0 (fr : Int → Int) (x : Int) : ∀ n : Nat, wsN fr x n = 0 ↔ cntF fr x n = 0
  | 0 => by simp [wsN, cntF]
  | n + 1 => by
    have ih := wsN_0 fr x n
    have h1 : 0 < 2 ^ n := Nat.two_pow_pos n
    have h2 := cntF_rng fr x n
    simp only [wsN, cntF]
    split <;> omega
abbrev nwN (g : am_H) : Nat := (g 0 10).toNat
theorem lp_X8_wordsFrom {g : am_H} {x : Int} (hs : MVs g) (hx : -2147483648 ≤ x ∧ x < 2147483648) : ∀ (m i : Nat), (i : Int) ≤ g 0 10 → g 0 10 - i < m → AW GM mX8_wordsFrom 1 (am_FI (wsN (g 7) x (nwN g) : Nat) g) 4 [some (am_R 0), some (am_I x), some (am_I (wsN (g 7) x i : Nat)), some (am_I i)] [] g := by
  intro m
  induction m with
  | zero => intro i h1 h2; omega
  | succ m ih =>
    intro i h1 h2
    have hw := hs.2.1
    have hnn := hs.1
    have hv := hs.2.2.2.2.1 i (by omega)
    have hlt := wsN_lt (g 7) x i
    have h16 := wsN_lt16 (g 7) x (n := i) (by omega)
    refine aw_iload_n dX8_wordsFrom_4 rfl ?_
    refine aw_aload_n dX8_wordsFrom_5 rfl ?_
    refine aw_getI (kx := 10) fl_X8_210 dX8_wordsFrom_6 rfl rfl rfl ?_
    refine aw_icmp_ge (tgt := 38) dX8_wordsFrom_9 rfl (by omega) (by omega) (fun hc9 => ?_) (fun hc9 => ?_)
    · refine aw_iload_n dX8_wordsFrom_38 rfl ?_
      refine aw_iretF dX8_wordsFrom_39 rfl ?_
      exact ⟨by rw [show nwN g = i by unfold nwN; omega], rfl⟩
    · refine aw_iload_n dX8_wordsFrom_12 rfl ?_
      refine aw_aload_n dX8_wordsFrom_13 rfl ?_
      refine aw_getR (kx := 7) fl_X8_28 dX8_wordsFrom_14 rfl rfl rfl ?_
      refine aw_iload_n dX8_wordsFrom_17 rfl ?_
      refine aw_iaload dX8_wordsFrom_18 rfl (by decide) (by omega) ?_
      refine aw_iload_n dX8_wordsFrom_19 rfl ?_
      refine aw_icmp_ne (tgt := 29) dX8_wordsFrom_20 rfl (by omega) (by omega) (fun hc20 => ?_) (fun hc20 => ?_)
      · refine aw_iconst dX8_wordsFrom_29 ?_
        refine aw_ior dX8_wordsFrom_30 ?_
        refine aw_top (bt_or0 (by omega)) ?_
        refine aw_istore_2 dX8_wordsFrom_31 (by decide) rfl ?_
        refine aw_iinc3 dX8_wordsFrom_32 (by decide) rfl ?_
        refine aw_goto (tgt := 4) dX8_wordsFrom_35 rfl ?_
        refine aw_ls ?_ (ih (i + 1) (by omega) (by omega))
        simp only [wsN, if_neg hc20]; simp
      · refine aw_iconst dX8_wordsFrom_23 ?_
        refine aw_iload_n dX8_wordsFrom_24 rfl ?_
        refine aw_ishl dX8_wordsFrom_25 ?_
        refine aw_top (bt_shl1 (by omega)) ?_
        refine aw_goto (tgt := 30) dX8_wordsFrom_26 rfl ?_
        refine aw_ior dX8_wordsFrom_30 ?_
        refine aw_top (bt_or2 hlt (by omega)) ?_
        refine aw_istore_2 dX8_wordsFrom_31 (by decide) rfl ?_
        refine aw_iinc3 dX8_wordsFrom_32 (by decide) rfl ?_
        refine aw_goto (tgt := 4) dX8_wordsFrom_35 rfl ?_
        refine aw_ls ?_ (ih (i + 1) (by omega) (by omega))
        simp only [wsN, if_pos hc20]; simp
theorem c_X8_wordsFrom {g : am_H} {x : Int} (hs : MVs g) (hx : -2147483648 ≤ x ∧ x < 2147483648) : AMet GM mX8_wordsFrom 1 [am_R 0, am_I x] g (am_FI (wsN (g 7) x (nwN g) : Nat) g) := by
  have hw := hs.2.1
  refine am_start [some (am_R 0), some (am_I x), none, none] rfl rfl (by decide) (Nat.le_of_ble_eq_true rfl) ?_
  refine aw_iconst dX8_wordsFrom_0 ?_
  refine aw_istore_2 dX8_wordsFrom_1 (by decide) rfl ?_
  refine aw_iconst dX8_wordsFrom_2 ?_
  refine aw_istore_3 dX8_wordsFrom_3 (by decide) rfl ?_
  exact lp_X8_wordsFrom hs hx 15 0 (by omega) (by omega)
abbrev dgF (g : am_H) (x : Int) : Int := cntF (g 7) x (nwN g)
theorem c_X8_isOver {g : am_H} {x : Int} (hs : MVs g) (hx : -2147483648 ≤ x ∧ x < 2147483648) : AMet GM mX8_isOver 2 [am_R 0, am_I x] g (am_FI (if dgF g x = 0 then 1 else 0) g) := by
  have hw := hs.2.1
  have h16 := wsN_lt16 (g 7) x (n := nwN g) (by unfold nwN; omega)
  have h0 := wsN_0 (g 7) x (nwN g)
  refine am_start [some (am_R 0), some (am_I x)] rfl rfl (by decide) (Nat.le_of_ble_eq_true rfl) ?_
  refine aw_aload_n dX8_isOver_0 rfl ?_
  refine aw_iload_n dX8_isOver_1 rfl ?_
  refine aw_cV1IF (c_X8_wordsFrom hs (by omega)) lk_X8_222 dX8_isOver_2 (by decide) rfl rfl (fun _ => Nat.le_of_ble_eq_true rfl) ?_
  refine aw_if_ne (tgt := 12) dX8_isOver_5 rfl (by omega) (fun hc5 => ?_) (fun hc5 => ?_)
  · refine aw_iconst dX8_isOver_12 ?_
    refine aw_zretF dX8_isOver_13 rfl (by omega) ?_
    exact ⟨by rw [if_neg (by unfold dgF; omega)], rfl⟩
  · refine aw_iconst dX8_isOver_8 ?_
    refine aw_goto (tgt := 13) dX8_isOver_9 rfl ?_
    refine aw_zretF dX8_isOver_13 rfl (by omega) ?_
    exact ⟨by rw [if_pos (by unfold dgF; omega)], rfl⟩
theorem c_X8_whereNow {g : am_H} (hs : MVs g) (hy : MVy g) : AMet GM mX8_whereNow 1 [am_R 0] g (am_FI (nowF g) g) := by
  have hw := hs.2.1
  have hm := hy.1
  have hv := hy.2.2 (g 0 18 - 1)
  refine am_start [some (am_R 0)] rfl rfl (by decide) (Nat.le_of_ble_eq_true rfl) ?_
  refine aw_aload_n dX8_whereNow_0 rfl ?_
  refine aw_getI (kx := 18) fl_X8_216 dX8_whereNow_1 rfl rfl rfl ?_
  refine aw_if_ne (tgt := 11) dX8_whereNow_4 rfl (by omega) (fun hc4 => ?_) (fun hc4 => ?_)
  · have hv2 := (hv (by omega) (by omega)).1
    refine aw_aload_n dX8_whereNow_11 rfl ?_
    refine aw_getR (kx := 8) fl_X8_31 dX8_whereNow_12 rfl rfl rfl ?_
    refine aw_aload_n dX8_whereNow_15 rfl ?_
    refine aw_getR (kx := 16) fl_X8_49 dX8_whereNow_16 rfl rfl rfl ?_
    refine aw_aload_n dX8_whereNow_19 rfl ?_
    refine aw_getI (kx := 18) fl_X8_216 dX8_whereNow_20 rfl rfl rfl ?_
    refine aw_iconst dX8_whereNow_23 ?_
    refine aw_isub dX8_whereNow_24 ?_
    refine aw_iaload dX8_whereNow_25 rfl (by decide) (by omega) ?_
    refine aw_iaload dX8_whereNow_26 rfl (by decide) (by omega) ?_
    refine aw_iretF dX8_whereNow_27 rfl ?_
    exact ⟨by rw [nowF, if_neg (by omega)], rfl⟩
  · refine aw_iconst dX8_whereNow_7 ?_
    refine aw_goto (tgt := 27) dX8_whereNow_8 rfl ?_
    refine aw_iretF dX8_whereNow_27 rfl ?_
    exact ⟨by rw [nowF, if_pos (by omega)], rfl⟩
