theorem lp_X8_common {g : am_H} {t : Int} : ∀ (m : Nat) (x y : Int) (x0 x2 : Int) (x8 x9 : Option am_V), 0 ≤ x → x < 9223372036854775808 → 0 ≤ y → y < 9223372036854775808 → y < m → ((Int.gcd x y : Nat) : Int) = t → AW GM mX8_common 1 (am_FJ t g) 17 [some (am_J x0), none, some (am_J x2), none, some (am_J x), none, some (am_J y), none, x8, x9] [] g := by
  intro m
  induction m with
  | zero => intro x y x0 x2 x8 x9 h1 h2 h3 h4 h5; omega
  | succ m ih =>
    intro x y x0 x2 x8 x9 h1 h2 h3 h4 h5 h6
    refine aw_lload dX8_common_17 rfl ?_
    refine aw_lconst (v := 0) dX8_common_19 rfl ?_
    refine aw_lif_eq (tgt := 42) dX8_common_20 dX8_common_21 rfl (by omega) (by omega) (fun hc20 => ?_) (fun hc20 => ?_)
    · refine aw_lload dX8_common_42 rfl ?_
      refine aw_lretF dX8_common_44 rfl ?_
      have hy : y = 0 := by omega
      subst hy
      rw [Int.gcd_zero_right] at h6
      exact ⟨by omega, rfl⟩
    · have h7 : x.tmod y = x % y := Int.tmod_eq_emod_of_nonneg h1
      have h8 := Int.emod_nonneg x (show y ≠ 0 by omega)
      have h9 := Int.emod_lt_of_pos x (show 0 < y by omega)
      refine aw_lload dX8_common_24 rfl ?_
      refine aw_lload dX8_common_26 rfl ?_
      refine aw_lrem (by omega) (by omega) dX8_common_28 ?_
      refine aw_lstore8 dX8_common_29 (by decide) rfl ?_
      refine aw_lload dX8_common_31 rfl ?_
      refine aw_lstore4 dX8_common_33 (by decide) rfl ?_
      refine aw_lload dX8_common_35 rfl ?_
      refine aw_lstore6 dX8_common_37 (by decide) rfl ?_
      refine aw_goto (tgt := 17) dX8_common_39 rfl ?_
      refine ih y (x.tmod y) _ _ _ _ (by omega) (by omega) (by omega) (by omega) (by omega) ?_
      rw [h7, ← h6]
      have e1 : y = (y.toNat : Int) := by omega
      have e2 : x = (x.toNat : Int) := by omega
      rw [e1, e2, ← Int.natCast_emod]
      simp only [Int.gcd_natCast_natCast]
      rw [Nat.gcd_comm x.toNat, Nat.gcd_rec y.toNat x.toNat, Nat.gcd_comm]
theorem c_X8_common {g : am_H} {a b : Int} (ha : -9223372036854775808 < a ∧ a < 9223372036854775808) (hb : 0 < b ∧ b < 9223372036854775808) : AMet GM mX8_common 1 [am_J a, am_J b] g (am_FJ ((Int.gcd a b : Nat) : Int) g) := by
  refine am_start [some (am_J a), none, some (am_J b), none, none, none, none, none, none, none] rfl rfl (by decide) (Nat.le_of_ble_eq_true rfl) ?_
  refine aw_lload_n dX8_common_0 rfl ?_
  refine aw_lconst (v := 0) dX8_common_1 rfl ?_
  refine aw_lif_ge (tgt := 11) dX8_common_2 dX8_common_3 rfl (by omega) (by omega) (fun hc2 => ?_) (fun hc2 => ?_)
  · refine aw_lload_n dX8_common_11 rfl ?_
    refine aw_lstore4 dX8_common_12 (by decide) rfl ?_
    refine aw_lload_n dX8_common_14 rfl ?_
    refine aw_lstore6 dX8_common_15 (by decide) rfl ?_
    exact lp_X8_common (b.toNat + 1) a b _ _ _ _ (by omega) (by omega) (by omega) (by omega) (by omega) rfl
  · refine aw_lload_n dX8_common_6 rfl ?_
    refine aw_lneg dX8_common_7 ?_
    refine aw_goto (tgt := 12) dX8_common_8 rfl ?_
    refine aw_lstore4 dX8_common_12 (by decide) rfl ?_
    refine aw_lload_n dX8_common_14 rfl ?_
    refine aw_lstore6 dX8_common_15 (by decide) rfl ?_
    exact lp_X8_common (b.toNat + 1) (-a) b _ _ _ _ (by omega) (by omega) (by omega) (by omega) (by omega) (by rw [Int.neg_gcd])
def ALLc : Int := 429981696
def tpF (g : am_H) (c : Int) : am_H := am_set (am_set g 0 21 (c.tdiv ((Int.gcd c 429981696 : Nat) : Int))) 0 22 ((429981696 : Int).tdiv ((Int.gcd c 429981696 : Nat) : Int))
theorem c_X8_tellPart {g : am_H} {c : Int} (hc : -9223372036854775808 < c ∧ c < 9223372036854775808) : AMet GM mX8_tellPart 2 [am_R 0, am_J c] g (am_FV (tpF g c)) := by
  have h1 : Int.gcd c 429981696 ≠ 0 := fun z => by have := (Int.gcd_eq_zero_iff.mp z).2; omega
  have h2 : Int.gcd c 429981696 ≤ 429981696 := Nat.le_of_dvd (by decide) (Int.natCast_dvd_natCast.mp (Int.gcd_dvd_right c 429981696))
  refine am_start [some (am_R 0), some (am_J c), none, none, none] rfl rfl (by decide) (Nat.le_of_ble_eq_true rfl) ?_
  refine aw_lload_n dX8_tellPart_0 rfl ?_
  refine aw_ldc2 (n := 429981696) kj_X8_296 rfl dX8_tellPart_1 ?_
  refine aw_cS2JF (c_X8_common (by omega) (by omega)) lk_X8_298 dX8_tellPart_4 (by decide) (fun _ => Nat.le_of_ble_eq_true rfl) ?_
  refine aw_lstore_3 dX8_tellPart_7 (by decide) rfl ?_
  refine aw_aload_n dX8_tellPart_8 rfl ?_
  refine aw_lload_n dX8_tellPart_9 rfl ?_
  refine aw_lload_n dX8_tellPart_10 rfl ?_
  refine aw_ldiv (by omega) (by omega) dX8_tellPart_11 ?_
  refine aw_putJ (kx := 21) fp_X8_302 dX8_tellPart_12 rfl rfl rfl ?_
  refine aw_aload_n dX8_tellPart_15 rfl ?_
  refine aw_ldc2 (n := 429981696) kj_X8_296 rfl dX8_tellPart_16 ?_
  refine aw_lload_n dX8_tellPart_19 rfl ?_
  refine aw_ldiv (by omega) (by omega) dX8_tellPart_20 ?_
  refine aw_putJ (kx := 22) fp_X8_55 dX8_tellPart_21 rfl rfl rfl ?_
  refine aw_vretF dX8_tellPart_24 rfl ?_
  rfl
/-- chances by 12 ^ 8: each node's are its words' in the mean -/
def FC (B fr to : Int → Int) (nw : Nat) (V : Int → Int) (x : Int) : Int := (wl fr x nw).foldl (fun s k => s + (V (to k)).tdiv (cntF fr x nw)) (B x)
def chB (kd me : Int → Int) (m x : Int) : Int := if fin (kd x) ∧ me x = m then 429981696 else 0
def chV (B fr to : Int → Int) (nw : Nat) : Int → Int := fixF (FC B fr to nw) 0 9
theorem FC_caus {g : am_H} (hs : MVs g) (B : Int → Int) : Caus (g 0 6) (FC B (g 7) (g 8) (nwN g)) := by
  intro a b x _ _ hab
  unfold FC
  exact fold_caus (to_ok hs) (fun s v => s + v.tdiv (cntF (g 7) x (nwN g))) hab _
abbrev chn (g : am_H) (m : Int) : Int → Int := chV (chB (g 5) (g 6) m) (g 7) (g 8) (nwN g)
theorem chn_eq {g : am_H} (hs : MVs g) (m : Int) {x : Int} (h1 : 0 ≤ x) (h2 : x < g 0 6) : chn g m x = FC (chB (g 5) (g 6) m) (g 7) (g 8) (nwN g) (chn g m) x := by
  unfold chn chV
  exact fix_eq (FC_caus hs _) hs.1.2 h1 h2
/-- a node with words from it is no end -/
theorem nofin {g : am_H} (hs : MVs g) {x : Int} (h : ¬ cntF (g 7) x (nwN g) = 0) : ¬ fin (g 5 x) := by
  have h2 : wl (g 7) x (nwN g) ≠ [] := fun z => h (wl_nil.mp z)
  obtain ⟨k, hk⟩ := List.exists_mem_of_ne_nil _ h2
  obtain ⟨a, b, c⟩ := wl_mem.mp hk
  have := (hs.2.2.2.2.1 k a (by unfold nwN at b; have := hs.2.1; omega)).2.2
  rw [c] at this
  exact this
/-- a fold of terms between lo and hi -/
theorem fold_rng {lo hi : Int} (f : Int → Int) : ∀ (l : List Int) (s : Int), (∀ k ∈ l, lo ≤ f k ∧ f k ≤ hi) → s + l.length * lo ≤ l.foldl (fun s k => s + f k) s ∧ l.foldl (fun s k => s + f k) s ≤ s + l.length * hi
  | [], s, _ => by simp
  | k :: l, s, h => by
    have h1 := h k List.mem_cons_self
    have ih := fold_rng f l (s + f k) (fun j hj => h j (List.mem_cons_of_mem _ hj))
    simp only [List.foldl_cons, List.length_cons]
    have e1 : (((l.length + 1 : Nat) : Int)) * lo = l.length * lo + lo := by rw [Int.natCast_add, Int.add_mul]; simp
    have e2 : (((l.length + 1 : Nat) : Int)) * hi = l.length * hi + hi := by rw [Int.natCast_add, Int.add_mul]; simp
    rw [e1, e2]
    omega
theorem tdiv_rng {v n c : Int} (hn : 0 < n) (hv : -c ≤ v ∧ v ≤ c) : n * (v.tdiv n) ≤ c ∧ -c ≤ n * (v.tdiv n) := by
  have h2 := Int.tmod_def v n
  have h3 : (v.tmod n).natAbs < n.natAbs := by
    rw [Int.natAbs_tmod]
    exact Nat.mod_lt _ (by omega)
  rcases Int.le_total 0 v with hv0 | hv0
  · have h4 := Int.tmod_nonneg n hv0
    have h5 : 0 ≤ v.tdiv n := Int.tdiv_nonneg hv0 (by omega)
    have h6 : 0 ≤ n * v.tdiv n := Int.mul_nonneg (by omega) h5
    omega
  · have h5 := Int.tmod_nonneg n (show 0 ≤ -v by omega)
    rw [Int.neg_tmod] at h5
    have h6 : 0 ≤ (-v).tdiv n := Int.tdiv_nonneg (by omega) (by omega)
    rw [Int.neg_tdiv] at h6
    have h7 : 0 ≤ n * (-(v.tdiv n)) := Int.mul_nonneg (by omega) h6
    rw [Int.mul_neg] at h7
    omega
theorem chV_rng {g : am_H} (hs : MVs g) {B : Int → Int} {c : Int} (hc : 0 ≤ c) (hB : ∀ x : Int, 0 ≤ x → x < g 0 6 → -c ≤ B x ∧ B x ≤ c) (hB0 : ∀ x : Int, 0 ≤ x → x < g 0 6 → ¬ cntF (g 7) x (nwN g) = 0 → B x = 0) : ∀ (n : Nat) (x : Int), 0 ≤ x → x < g 0 6 → g 0 6 - x ≤ n → -c ≤ chV B (g 7) (g 8) (nwN g) x ∧ chV B (g 7) (g 8) (nwN g) x ≤ c := by
  intro n
  induction n with
  | zero => intro x h1 h2 h3; omega
  | succ n ih =>
    intro x h1 h2 h3
    have he : chV B (g 7) (g 8) (nwN g) x = FC B (g 7) (g 8) (nwN g) (chV B (g 7) (g 8) (nwN g)) x := by
      unfold chV
      exact fix_eq (FC_caus hs _) hs.1.2 h1 h2
    rw [he]
    unfold FC
    by_cases h0 : cntF (g 7) x (nwN g) = 0
    · rw [wl_nil.mpr h0]; exact hB x h1 h2
    · have hcr := cntF_rng (g 7) x (nwN g)
      have hk : ∀ k ∈ wl (g 7) x (nwN g), -(c / cntF (g 7) x (nwN g)) ≤ (chV B (g 7) (g 8) (nwN g) (g 8 k)).tdiv (cntF (g 7) x (nwN g)) ∧ (chV B (g 7) (g 8) (nwN g) (g 8 k)).tdiv (cntF (g 7) x (nwN g)) ≤ c / cntF (g 7) x (nwN g) := by
        intro k hk
        obtain ⟨a, b, d⟩ := wl_mem.mp hk
        have h5 := to_ok hs k a b
        have h6 := ih (g 8 k) (by omega) h5.2 (by omega)
        have h7 := tdiv_rng (n := cntF (g 7) x (nwN g)) (by omega) h6
        have hpos : 0 < cntF (g 7) x (nwN g) := by omega
        constructor
        · have h8 : -((chV B (g 7) (g 8) (nwN g) (g 8 k)).tdiv (cntF (g 7) x (nwN g))) ≤ c / cntF (g 7) x (nwN g) := by
            rw [Int.le_ediv_iff_mul_le hpos, Int.mul_comm, Int.mul_neg]; omega
          omega
        · rw [Int.le_ediv_iff_mul_le hpos, Int.mul_comm]; omega
      have h9 := fold_rng _ (wl (g 7) x (nwN g)) (B x) hk
      rw [wl_len, hB0 x h1 h2 h0] at h9
      have h10 := Int.mul_ediv_self_le (x := c) (k := cntF (g 7) x (nwN g)) h0
      rw [hB0 x h1 h2 h0]
      rw [Int.mul_neg] at h9
      omega
theorem chn_rng {g : am_H} (hs : MVs g) (m : Int) {x : Int} (h1 : 0 ≤ x) (h2 : x < g 0 6) : -429981696 ≤ chn g m x ∧ chn g m x ≤ 429981696 := by
  refine chV_rng hs (by decide) (fun y _ _ => ?_) (fun y _ _ h0 => ?_) 9 x h1 h2 (by have := hs.1; omega)
  · unfold chB; split <;> omega
  · unfold chB; rw [if_neg (fun z => nofin hs h0 z.1)]
