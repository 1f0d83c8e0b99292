theorem rw_lt {g : am_H} (hs : MVs g) {r : Int} {n : Nat} (hen : 0 ≤ rwE g r n) (i : Nat) : ∀ j : Nat, i + j + 1 ≤ n → rwE g r i < rwE g r (i + j + 1)
  | 0, h => by
    have h5 := rwE_ok (g := g) (r := r) (i := i) (n := n) (by omega) hen
    have hv := (hs.2.2.2.2.1 _ h5.2.1.1 (by omega)).1
    show rwE g r i < rwE g r (i + 1)
    omega
  | j + 1, h => by
    have ih := rw_lt hs hen i j (by omega)
    have h5 := rwE_ok (g := g) (r := r) (i := i + j + 1) (n := n) (by omega) hen
    have hv := (hs.2.2.2.2.1 _ h5.2.1.1 (by omega)).1
    show rwE g r i < rwE g r (i + j + 1 + 1)
    omega
def posF (g : am_H) (r x : Int) : Nat → Nat
  | 0 => 0
  | i + 1 => if rwE g r (i + 1) = x then i + 1 else posF g r x i
theorem pos_eq {g : am_H} (hs : MVs g) {r : Int} {n : Nat} (hen : 0 ≤ rwE g r n) {i : Nat} : ∀ m : Nat, m ≤ n → i ≤ m → posF g r (rwE g r i) m = i
  | 0, _, h => by unfold posF; omega
  | m + 1, hm, h => by
    unfold posF
    by_cases e : i = m + 1
    · subst e; rw [if_pos rfl]
    · have := rw_lt hs hen i (m - i) (by omega)
      rw [show i + (m - i) + 1 = m + 1 by omega] at this
      rw [if_neg (by omega)]
      exact pos_eq hs hen m (by omega) (by omega)
def pvD2 (g : am_H) (r : Int) (n : Nat) (x : Int) : Prop := ∃ i : Nat, i ≤ n ∧ x = rwE g r i
def pv2 (g : am_H) (r : Int) (n : Nat) (x of : Int) : Int := kbF g r n (n - posF g r x n) of
def fs2 (g : am_H) (r : Int) (n : Nat) (x : Int) : Int := rwE g r (posF g r x n + 1)
theorem kb_rng {g : am_H} (hs : MVs g) (r : Int) (n : Nat) : ∀ (k : Nat) (of : Int), -36 ≤ kbF g r n k of ∧ kbF g r n k of ≤ 72
  | 0, of => gain_rng hs _ of
  | k + 1, of => by
    have ih := kb_rng hs r n k
    show -36 ≤ kbP g (kbF g r n k) (rwE g r (n - (k + 1))) of (g 0 15).toNat ∧ kbP g (kbF g r n k) (rwE g r (n - (k + 1))) of (g 0 15).toNat ≤ 72
    have : ∀ j : Nat, -36 ≤ kbP g (kbF g r n k) (rwE g r (n - (k + 1))) of j ∧ kbP g (kbF g r n k) (rwE g r (n - (k + 1))) of j ≤ 72 := by
      intro j
      induction j with
      | zero => exact ih _
      | succ j ihj =>
        have h2 : -36 ≤ kbO g (kbF g r n k) (rwE g r (n - (k + 1))) of j ∧ kbO g (kbF g r n k) (rwE g r (n - (k + 1))) of j ≤ 72 := ih _
        rw [kbP_s]
        split
        · exact h2
        · exact ihj
    exact this _
theorem pv2_at {g : am_H} (hs : MVs g) {r : Int} {n : Nat} (hen : 0 ≤ rwE g r n) {i : Nat} (hi : i ≤ n) (of : Int) : pv2 g r n (rwE g r i) of = kbF g r n (n - i) of := by
  unfold pv2; rw [pos_eq hs hen n (Nat.le_refl _) hi]
theorem fs2_at {g : am_H} (hs : MVs g) {r : Int} {n : Nat} (hen : 0 ≤ rwE g r n) {i : Nat} (hi : i ≤ n) : fs2 g r n (rwE g r i) = rwE g r (i + 1) := by
  unfold fs2; rw [pos_eq hs hen n (Nat.le_refl _) hi]
theorem pv2_o {g : am_H} (hs : MVs g) {r : Int} {n : Nat} (hen : 0 ≤ rwE g r n) {i : Nat} (hi : i < n) (of : Int) : pvO g 2 (fs2 g r n) (pv2 g r n) (rwE g r i) of = kbF g r n (n - (i + 1)) (gon (g 5 (rwE g r i)) of) := by
  rw [pvO, if_pos rfl, fs2_at hs hen (by omega), pv2_at hs hen (by omega)]
theorem pv2_ok {g : am_H} (hs : MVs g) (hy : MVy g) {r : Int} {n : Nat} (h0 : ¬ g 0 6 = 0) (hen : 0 ≤ rwE g r n) (hov : dgF g (rwE g r n) = 0) : pvOK g 2 (fs2 g r n) (pvD2 g r n) (pv2 g r n) := by
  have hnn := hs.1
  have hlt : ∀ i : Nat, i ≤ n → ¬ dgF g (rwE g r i) = 0 → i < n := by
    intro i hi hd
    by_cases e : i = n
    · subst e; exact absurd hov hd
    · omega
  refine ⟨?_, ?_, ?_, ?_, ?_, ?_⟩
  · rintro x ⟨i, hi, rfl⟩
    have h1 := rwE_rng hs hy h0 r i
    by_cases e : i = n
    · subst e; exact ⟨hen, h1.2⟩
    · exact ⟨(rwE_ok (n := n) (by omega) hen).1, h1.2⟩
  · rintro x of ⟨i, hi, rfl⟩ _ hd
    have e : i = n := by
      by_cases e : i = n
      · exact e
      · have h5 := rwE_ok (g := g) (r := r) (i := i) (n := n) (by omega) hen
        have en : (nwN g : Int) = g 0 10 := by unfold nwN; have := hs.2.1; omega
        have hm : g 2 (40 * r + i) ∈ wl (g 7) (rwE g r i) (nwN g) := wl_mem.mpr ⟨h5.2.1.1, by omega, h5.2.2.1⟩
        have hl := wl_len (g 7) (rwE g r i) (nwN g)
        have hp := List.length_pos_of_mem hm
        have hd2 : cntF (g 7) (rwE g r i) (nwN g) = 0 := hd
        omega
    subst e
    rw [pv2_at hs hen (Nat.le_refl _), Nat.sub_self, if_neg (by decide), Int.mul_one]
    rfl
  · rintro x of ⟨i, hi, rfl⟩ hof hd
    have hin := hlt i hi hd
    rw [pv2_at hs hen hi, show n - i = n - (i + 1) + 1 by omega]
    show kbP g (kbF g r n (n - (i + 1))) (rwE g r (n - (n - (i + 1) + 1))) of (g 0 15).toNat = _
    rw [show n - (n - (i + 1) + 1) = i by omega, pv2_o hs hen hin]
    unfold kbP
    congr 1
    funext s d
    unfold pvS
    rw [pv2_o hs hen hin]
    unfold kbO
    by_cases hc : cbg of d
    · rw [if_pos hc]
      by_cases c : s < kbF g r n (n - (i + 1)) (gon (g 5 (rwE g r i)) (bgw (g 10 d) of d))
      · rw [if_pos ⟨hc, c⟩, if_pos c]
      · rw [if_neg (fun z => c z.2), if_neg c]
    · rw [if_neg hc, if_neg (fun z => hc z.1)]
  · rintro x ⟨i, hi, rfl⟩ hd
    have hin := hlt i hi hd
    refine ⟨fun _ => ?_, fun z => absurd rfl z⟩
    rw [fs2_at hs hen hi]
    exact ⟨⟨i + 1, by omega, rfl⟩, rw_lt hs hen i 0 (by omega)⟩
  · rintro x of ⟨i, hi, rfl⟩ _
    have := kb_rng hs r n (n - i) of
    rw [pv2_at hs hen hi]; omega
  · rintro x of ⟨i, hi, rfl⟩ _ hd
    have := kb_rng hs r n (n - (i + 1)) (gon (g 5 (rwE g r i)) of)
    rw [pv2_o hs hen (hlt i hi hd)]; omega
