/-! what the ear goes through: lines and where they are misheard -/
def msP (g : am_H) (sd : Int → Int) : List Int → Nat
  | [] => 0
  | w :: P => msP g sd P + (if sd P.length = -9 ∨ sd P.length = g 9 w then 0 else 2 ^ P.length)
theorem msP_lt (g : am_H) (sd : Int → Int) : ∀ P : List Int, msP g sd P < 2 ^ P.length
  | [] => by unfold msP; decide
  | w :: P => by
    have := msP_lt g sd P
    show msP g sd P + _ < 2 ^ (P.length + 1)
    rw [Nat.pow_succ]
    split <;> omega
theorem msP_cons (g : am_H) (sd : Int → Int) (w : Int) (P : List Int) : msP g sd (w :: P) = if sd P.length = -9 ∨ sd P.length = g 9 w then msP g sd P else msP g sd P + 2 ^ P.length := by
  show msP g sd P + _ = _
  split <;> rfl
theorem msP_pc (g : am_H) (sd : Int → Int) (w : Int) (P : List Int) (h : P.length < 16) : pcN 16 (msP g sd (w :: P)) = pcN 16 (msP g sd P) + (if sd P.length = -9 ∨ sd P.length = g 9 w then 0 else 1) := by
  rw [msP_cons]
  split
  · rfl
  · exact pcN_add 16 P.length _ (msP_lt g sd P) h
theorem msP_mh (g : am_H) (r : Int) : ∀ P : List Int, P.length ≤ 16 → ((pcN 16 (msP g (fun i => g 2 (40 * r + i)) P) : Nat) : Int) = mhP g r P
  | [], _ => by show ((pcN 16 0 : Nat) : Int) = 0; rw [pcN_0]; rfl
  | w :: P, h => by
    have h1 : P.length + 1 ≤ 16 := h
    have ih := msP_mh g r P (by omega)
    rw [msP_pc _ _ _ _ (by omega)]
    show _ = mhP g r P + _
    rw [← ih]
    by_cases e : g 2 (40 * r + P.length) = -9 ∨ g 2 (40 * r + P.length) = g 9 w
    · rw [if_pos e, if_neg (by omega)]; omega
    · rw [if_neg e, if_pos (by omega)]; omega
abbrev arB (g : am_H) (sd : Int → Int) (n sl : Int) (Q : List Int) : Bool := decide (isS g n Q ∧ ((pcN 16 (msP g sd Q) : Nat) : Int) ≤ sl)
def arL (g : am_H) (sd : Int → Int) (n sl : Int) (k : Nat) (P : List Int) : List (List Int) := (trL g k P).filter (arB g sd n sl)
theorem arL_0 {g : am_H} {sd : Int → Int} {n sl : Int} {P : List Int} (h1 : (P.length : Int) = n) (h2 : ((pcN 16 (msP g sd P) : Nat) : Int) ≤ sl) : arL g sd n sl 0 P = if fin (g 5 (liE g P)) then [P] else [] := by
  unfold arL
  show List.filter _ [P] = _
  rw [List.filter_cons]
  by_cases e : fin (g 5 (liE g P))
  · rw [if_pos e, if_pos (decide_eq_true ⟨⟨h1, e⟩, h2⟩)]; rfl
  · rw [if_neg e, if_neg (by simp only [decide_eq_true_eq]; exact fun z => e z.1.2)]; rfl
theorem arL_s {g : am_H} {sd : Int → Int} {n sl : Int} {k : Nat} {P : List Int} (h1 : (P.length : Int) < n) : arL g sd n sl (k + 1) P = (wl (g 7) (liE g P) (nwN g)).flatMap (fun w => arL g sd n sl k (w :: P)) := by
  unfold arL
  show List.filter _ (P :: (wl (g 7) (liE g P) (nwN g)).flatMap (fun w => trL g k (w :: P))) = _
  rw [List.filter_cons, if_neg (by simp only [decide_eq_true_eq]; exact fun z => by have := z.1.1; omega), List.filter_flatMap]
theorem tr_pc {g : am_H} {sd : Int → Int} : ∀ (k : Nat) (P Q : List Int), P.length + k ≤ 16 → Q ∈ trL g k P → pcN 16 (msP g sd P) ≤ pcN 16 (msP g sd Q)
  | 0, P, Q, _, h => by
    have e : Q = P := List.mem_singleton.mp h
    rw [e]; exact Nat.le_refl _
  | k + 1, P, Q, hl, h => by
    rw [trL, List.mem_cons, List.mem_flatMap] at h
    rcases h with e | ⟨w, _, hq⟩
    · rw [e]; exact Nat.le_refl _
    · have ih := tr_pc (sd := sd) k (w :: P) Q (by show P.length + 1 + k ≤ 16; omega) hq
      rw [msP_pc _ _ _ _ (by omega)] at ih
      omega
theorem arL_no {g : am_H} {sd : Int → Int} {n sl : Int} {k : Nat} {P : List Int} (hl : P.length + k ≤ 16) (h : sl < ((pcN 16 (msP g sd P) : Nat) : Int)) : arL g sd n sl k P = [] := by
  unfold arL
  rw [List.filter_eq_nil_iff]
  intro Q hq
  have := tr_pc (sd := sd) k P Q hl hq
  simp only [decide_eq_true_eq]
  intro z
  have := z.2
  omega
theorem ltP_mono {g : am_H} (hs : MVs g) {x y : Int} (h0 : 0 ≤ x) (h : x ≤ y) : ltP g y ≤ ltP g x := Int.le_of_dvd (ltP_rng hs h0).1 (ltP_dvd h)
def sdN (g : am_H) (n : Nat) : Nat → Int
  | 0 => 0
  | j + 1 => sdN g n j + cntF (g 7) (g 0 6 - (j + 1 : Nat)) n
theorem sdN_s (g : am_H) (n : Nat) : ∀ j : Nat, sdN g (n + 1) j = sdN g n j + (if g 0 6 - j ≤ g 7 n ∧ g 7 n < g 0 6 then 1 else 0)
  | 0 => by rw [if_neg (by omega)]; rfl
  | j + 1 => by
    have ih := sdN_s g n j
    show sdN g (n + 1) j + cntF (g 7) _ (n + 1) = sdN g n j + cntF (g 7) _ n + _
    rw [ih, cntF]
    by_cases e : g 7 n = g 0 6 - ((j + 1 : Nat) : Int)
    · rw [if_pos e, if_neg (by omega), if_pos (by omega)]; omega
    · rw [if_neg e]
      by_cases e2 : g 0 6 - j ≤ g 7 n ∧ g 7 n < g 0 6
      · rw [if_pos e2, if_pos (by omega)]; omega
      · rw [if_neg e2, if_neg (by omega)]; omega
theorem sdN_0 (g : am_H) : ∀ j : Nat, sdN g 0 j = 0
  | 0 => rfl
  | j + 1 => by show sdN g 0 j + 0 = 0; rw [sdN_0 g j]; rfl
theorem sdN_le (g : am_H) : ∀ (n j : Nat), sdN g n j ≤ n
  | 0, j => by rw [sdN_0]; omega
  | n + 1, j => by
    have ih := sdN_le g n j
    rw [sdN_s]; split <;> omega
theorem sdN_nn (g : am_H) (n : Nat) : ∀ j : Nat, 0 ≤ sdN g n j
  | 0 => Int.le_refl _
  | j + 1 => by
    have ih := sdN_nn g n j
    have := (cntF_rng (g 7) (g 0 6 - (j + 1 : Nat)) n).1
    show 0 ≤ sdN g n j + _
    omega
theorem lp_cube {g : am_H} (hs : MVs g) : ∀ j : Nat, 0 < lpN g j ∧ lpN g j * lpN g j * lpN g j ≤ ((3 ^ (sdN g (nwN g) j).toNat : Nat) : Int)
  | 0 => ⟨by show (0 : Int) < 1; decide, by show (1 : Int) * 1 * 1 ≤ ((3 ^ (0 : Int).toNat : Nat) : Int); decide⟩
  | j + 1 => by
    obtain ⟨h1, h2⟩ := lp_cube hs j
    have hd4 : dgF g (g 0 6 - (j + 1 : Nat)) ≤ 4 := hs.2.2.2.2.2.2.1 _
    have hd0 : 0 ≤ dgF g (g 0 6 - (j + 1 : Nat)) := (cntF_rng _ _ _).1
    have hn := sdN_nn g (nwN g) j
    have e : sdN g (nwN g) (j + 1) = sdN g (nwN g) j + dgF g (g 0 6 - (j + 1 : Nat)) := rfl
    have el : lpN g (j + 1) = if dgF g (g 0 6 - (j + 1 : Nat)) = 0 then lpN g j else lpN g j * dgF g (g 0 6 - (j + 1 : Nat)) := rfl
    generalize dgF g (g 0 6 - (j + 1 : Nat)) = d at hd4 hd0 e el
    rw [e, el]
    generalize lpN g j = a at h1 h2
    generalize sdN g (nwN g) j = s at h2 hn
    by_cases ed : d = 0
    · rw [if_pos ed, ed, Int.add_zero]; exact ⟨h1, h2⟩
    · rw [if_neg ed]
      have et : (s + d).toNat = s.toNat + d.toNat := by omega
      rw [et, Nat.pow_add, Int.natCast_mul]
      generalize ((3 ^ s.toNat : Nat) : Int) = b at h2
      have hc : (d = 1 ∨ d = 2 ∨ d = 3 ∨ d = 4) := by omega
      have ha : 0 ≤ a * a * a := Int.mul_nonneg (Int.mul_nonneg (by omega) (by omega)) (by omega)
      have hq : a * d * (a * d) * (a * d) = a * a * a * (d * d * d) := by
        simp only [Int.mul_assoc, Int.mul_comm, Int.mul_left_comm]
      refine ⟨Int.mul_pos h1 (by omega), ?_⟩
      rw [hq]
      generalize a * a * a = c at h2 ha
      rcases hc with q | q | q | q <;> subst q
      · show c * 1 ≤ b * 3; omega
      · show c * 8 ≤ b * 9; omega
      · show c * 27 ≤ b * 27; omega
      · show c * 64 ≤ b * 81; omega
theorem ltP_256 {g : am_H} (hs : MVs g) (x : Int) : ltP g x ≤ 256 := by
  unfold ltP
  obtain ⟨h1, h2⟩ := lp_cube hs (g 0 6 - x).toNat
  have h3 := sdN_le g (nwN g) (g 0 6 - x).toNat
  have h4 := hs.2.1
  have h5 : (sdN g (nwN g) (g 0 6 - x).toNat).toNat ≤ 14 := by
    have : (nwN g : Int) ≤ 14 := by unfold nwN; omega
    omega
  have h6 : 3 ^ (sdN g (nwN g) (g 0 6 - x).toNat).toNat ≤ 3 ^ 14 := Nat.pow_le_pow_right (by decide) h5
  have h7 : (3 : Nat) ^ 14 = 4782969 := by decide
  generalize lpN g (g 0 6 - x).toNat = a at h1 h2
  generalize 3 ^ (sdN g (nwN g) (g 0 6 - x).toNat).toNat = b at h2 h6
  rw [h7] at h6
  by_cases q : a ≤ 256
  · exact q
  · exfalso
    have q1 : 257 * 257 ≤ a * a := Int.mul_le_mul (by omega) (by omega) (by decide) (by omega)
    have q2 : 257 * 257 * 257 ≤ a * a * a := Int.mul_le_mul q1 (by omega) (by decide) (by omega)
    omega
theorem fm_len {g : am_H} {B : Int} {f : Int → List (List Int)} : ∀ L : List Int, (∀ w ∈ L, ((f w).length : Int) ≤ B) → ((L.flatMap f).length : Int) ≤ L.length * B
  | [], _ => by show ((0 : Nat) : Int) ≤ ((0 : Nat) : Int) * B; omega
  | w :: L, h => by
    have ih := fm_len (g := g) L (fun v hv => h v (List.mem_cons_of_mem _ hv))
    have h1 := h w List.mem_cons_self
    rw [List.flatMap_cons, List.length_append, List.length_cons]
    rw [Int.natCast_add, Int.natCast_add, Int.add_mul]
    omega
theorem arL_len {g : am_H} {sd : Int → Int} {n sl : Int} (hs : MVs g) (hy : MVy g) (h0 : ¬ g 0 6 = 0) : ∀ (k : Nat) (P : List Int), liV g P → (P.length : Int) + k = n → ((arL g sd n sl k P).length : Int) ≤ ltP g (liE g P)
  | 0, P, hv, hl => by
    have he := liE_rng hs hy h0 P hv
    have := ltP_rng hs (x := liE g P) (by omega)
    have h1 : (arL g sd n sl 0 P).length ≤ 1 := List.length_filter_le _ [P]
    omega
  | k + 1, P, hv, hl => by
    have he := liE_rng hs hy h0 P hv
    rw [arL_s (by omega)]
    have h1 := fm_len (g := g) (B := ltP g (liE g P + 1)) (f := fun w => arL g sd n sl k (w :: P)) (wl (g 7) (liE g P) (nwN g)) (fun w hw => by
      obtain ⟨a, b, c⟩ := wl_mem.mp hw
      have en : (nwN g : Int) = g 0 10 := by unfold nwN; have := hs.2.1; omega
      have hwv := (hs.2.2.2.2.1 w a (by omega)).1
      have ih := arL_len (sd := sd) (n := n) (sl := sl) hs hy h0 k (w :: P) ⟨⟨a, by omega⟩, c, hv⟩ (by show ((P.length + 1 : Nat) : Int) + k = n; omega)
      have e : liE g (w :: P) = g 8 w := rfl
      rw [e] at ih
      have := ltP_mono hs (x := liE g P + 1) (y := g 8 w) (by omega) (by omega)
      omega)
    rw [dg_len] at h1
    have h2 := ltP_s (g := g) (x := liE g P) he.2
    have hp := ltP_rng hs (x := liE g P + 1) (by omega)
    by_cases e : dgF g (liE g P) = 0
    · rw [e, Int.zero_mul] at h1
      have := (ltP_rng hs (x := liE g P) (by omega)).1
      omega
    · rw [if_neg e, Int.mul_comm] at h2
      omega
/-- the ear's state behind some arrivals -/
def EaI (hB g : am_H) (sd : Int → Int) (n own : Int) (h : am_H) (A : List (List Int)) : Prop := (∀ c : Int, ¬ c = 63 → ¬ c = 64 → ¬ c = 66 → ¬ c = 67 → h c = hB c) ∧ (∀ k : Int, ¬ k = 1 → ¬ k = 2 → ¬ k = 8 → h 63 k = hB 63 k) ∧ h 63 1 = A.length ∧ (∃ s : Nat, s < 64 ∧ h 63 2 = s ∧ s = A.foldl (fun s Q => s ||| 2 ^ (g 6 (liE g Q)).toNat) 0) ∧ (∀ Q : List Int, A.head? = some Q → ∀ i : Int, 0 ≤ i → i < n → h 64 i = liF Q i) ∧ h 63 8 = (A.filter (fun Q => decide (¬ g 6 (liE g Q) = own))).length ∧ ∀ (s : Nat) (Q : List Int), (A.filter (fun Q => decide (¬ g 6 (liE g Q) = own)))[s]? = some Q → h 67 s = ((msP g sd Q : Nat) : Int)
