/-- the words from x among the j words that begin at f -/
def wu (fr : Int → Int) (x : Int) : Nat → Int → List Int
  | 0, _ => []
  | j + 1, f => if fr f = x then f :: wu fr x j (f + 1) else wu fr x j (f + 1)
theorem wu_app (fr : Int → Int) (x : Int) : ∀ (j : Nat) (f : Int), wu fr x (j + 1) f = wu fr x j f ++ (if fr (f + j) = x then [f + j] else [])
  | 0, f => by simp [wu]
  | j + 1, f => by
    have ih := wu_app fr x j (f + 1)
    have e : f + 1 + (j : Int) = f + ((j + 1 : Nat) : Int) := by omega
    rw [e] at ih
    rw [wu, ih, wu]
    split
    · rfl
    · rfl
theorem wl_wu (fr : Int → Int) (x : Int) : ∀ n : Nat, wl fr x n = wu fr x n 0
  | 0 => rfl
  | n + 1 => by rw [wu_app, ← wl_wu fr x n, Int.zero_add]; rfl
/-- the next word from x, at or behind f; 14 where there is none -/
def nxF (fr : Int → Int) (x : Int) : Nat → Int → Int
  | 0, _ => 14
  | j + 1, f => if fr f = x then f else nxF fr x j (f + 1)
theorem nxF_rng (fr : Int → Int) (x : Int) : ∀ (j : Nat) (f : Int), 0 ≤ f → (nxF fr x j f = 14 ∧ wu fr x j f = []) ∨ (f ≤ nxF fr x j f ∧ nxF fr x j f < f + j ∧ fr (nxF fr x j f) = x ∧ wu fr x j f = nxF fr x j f :: wu fr x (f + j - (nxF fr x j f + 1)).toNat (nxF fr x j f + 1))
  | 0, f, _ => Or.inl ⟨rfl, rfl⟩
  | j + 1, f, hf => by
    have e1 : nxF fr x (j + 1) f = if fr f = x then f else nxF fr x j (f + 1) := rfl
    have e2 : wu fr x (j + 1) f = if fr f = x then f :: wu fr x j (f + 1) else wu fr x j (f + 1) := rfl
    by_cases e : fr f = x
    · rw [if_pos e] at e1 e2
      rw [e1, e2]
      refine Or.inr ⟨by omega, by omega, e, ?_⟩
      rw [show (f + ((j + 1 : Nat) : Int) - (f + 1)).toNat = j by omega]
    · rw [if_neg e] at e1 e2
      rw [e1, e2]
      rcases nxF_rng fr x j (f + 1) (by omega) with q | ⟨q1, q2, q3, q4⟩
      · exact Or.inl q
      · refine Or.inr ⟨by omega, by omega, q3, ?_⟩
        rw [show f + ((j + 1 : Nat) : Int) = f + 1 + j by omega]
        exact q4
theorem lp_X8_nextFrom {g : am_H} {x a2 t : Int} (hs : MVs g) (hx : -2147483648 ≤ x ∧ x < 2147483648) : ∀ (j : Nat) (k : Int), 0 ≤ k → k + j = g 0 10 → nxF (g 7) x j k = t → AW GM mX8_nextFrom 1 (am_FI t g) 2 [some (am_R 0), some (am_I x), some (am_I a2), some (am_I k)] [] g := by
  have hw := hs.2.1
  have hnn := hs.1
  intro j
  induction j with
  | zero =>
    intro k h0 h1 h2
    refine aw_iload_n dX8_nextFrom_2 rfl ?_
    refine aw_aload_n dX8_nextFrom_3 rfl ?_
    refine aw_getI (kx := 10) fl_X8_210 dX8_nextFrom_4 rfl rfl rfl ?_
    refine aw_icmp_ge (tgt := 26) dX8_nextFrom_7 rfl (by omega) (by omega) (fun hc7 => ?_) (fun hc7 => ?_)
    · refine aw_iload_n dX8_nextFrom_26 rfl ?_
      refine aw_aload_n dX8_nextFrom_27 rfl ?_
      refine aw_getI (kx := 10) fl_X8_210 dX8_nextFrom_28 rfl rfl rfl ?_
      refine aw_icmp_ge (tgt := 38) dX8_nextFrom_31 rfl (by omega) (by omega) (fun hc31 => ?_) (fun hc31 => ?_)
      · refine aw_bipush (by decide) dX8_nextFrom_38 ?_
        refine aw_iretF dX8_nextFrom_40 rfl ?_
        exact ⟨h2, rfl⟩
      · omega
    · omega
  | succ j ih =>
    intro k h0 h1 h2
    have hv := (hs.2.2.2.2.1 k h0 (by omega)).1
    unfold nxF at h2
    refine aw_iload_n dX8_nextFrom_2 rfl ?_
    refine aw_aload_n dX8_nextFrom_3 rfl ?_
    refine aw_getI (kx := 10) fl_X8_210 dX8_nextFrom_4 rfl rfl rfl ?_
    refine aw_icmp_ge (tgt := 26) dX8_nextFrom_7 rfl (by omega) (by omega) (fun hc7 => ?_) (fun hc7 => ?_)
    · omega
    · refine aw_aload_n dX8_nextFrom_10 rfl ?_
      refine aw_getR (kx := 7) fl_X8_28 dX8_nextFrom_11 rfl rfl rfl ?_
      refine aw_iload_n dX8_nextFrom_14 rfl ?_
      refine aw_iaload dX8_nextFrom_15 rfl (by decide) (by omega) ?_
      refine aw_iload_n dX8_nextFrom_16 rfl ?_
      refine aw_icmp_eq (tgt := 26) dX8_nextFrom_17 rfl (by omega) (by omega) (fun hc17 => ?_) (fun hc17 => ?_)
      · refine aw_iload_n dX8_nextFrom_26 rfl ?_
        refine aw_aload_n dX8_nextFrom_27 rfl ?_
        refine aw_getI (kx := 10) fl_X8_210 dX8_nextFrom_28 rfl rfl rfl ?_
        refine aw_icmp_ge (tgt := 38) dX8_nextFrom_31 rfl (by omega) (by omega) (fun hc31 => ?_) (fun hc31 => ?_)
        · omega
        · refine aw_iload_n dX8_nextFrom_34 rfl ?_
          refine aw_goto (tgt := 40) dX8_nextFrom_35 rfl ?_
          refine aw_iretF dX8_nextFrom_40 rfl ?_
          exact ⟨by rw [if_pos (by omega)] at h2; exact h2, rfl⟩
      · refine aw_iinc3 dX8_nextFrom_20 (by decide) rfl ?_
        refine aw_goto (tgt := 2) dX8_nextFrom_23 rfl ?_
        exact ih (k + 1) (by omega) (by omega) (by rw [if_neg (by omega)] at h2; exact h2)
theorem c_X8_nextFrom {g : am_H} {x k : Int} (hs : MVs g) (hx : -2147483648 ≤ x ∧ x < 2147483648) (hk : 0 ≤ k ∧ k ≤ g 0 10) : AMet GM mX8_nextFrom 1 [am_R 0, am_I x, am_I k] g (am_FI (nxF (g 7) x (g 0 10 - k).toNat k) g) := by
  refine am_start [some (am_R 0), some (am_I x), some (am_I k), none] rfl rfl (by decide) (Nat.le_of_ble_eq_true rfl) ?_
  refine aw_iload_n dX8_nextFrom_0 rfl ?_
  refine aw_istore_3 dX8_nextFrom_1 (by decide) rfl ?_
  exact lp_X8_nextFrom hs hx _ k hk.1 (by omega) rfl
/-! lines, the last word first -/
def liE (g : am_H) : List Int → Int
  | [] => nowF g
  | w :: _ => g 8 w
def liV (g : am_H) : List Int → Prop
  | [] => True
  | w :: P => (0 ≤ w ∧ w < g 0 10) ∧ g 7 w = liE g P ∧ liV g P
def liA (f : Int → Int) : List Int → Prop
  | [] => True
  | w :: P => f P.length = w ∧ liA f P
def AgL (g g' : am_H) : Prop := (∀ c : Int, ¬ c = 0 → ¬ c = 35 → ¬ c = 36 → g' c = g c) ∧ ∀ k : Int, ¬ k = 48 → g' 0 k = g 0 k
theorem AgL.rf (g : am_H) : AgL g g := ⟨fun _ _ _ _ => rfl, fun _ _ => rfl⟩
theorem AgL.vs {g g' : am_H} (h : AgL g g') (hs : MVs g) : MVs g' := hs.of (fun k _ => h.2 k (by omega)) (fun c a b => h.1 c (by omega) (by omega) (by omega))
theorem AgL.vy {g g' : am_H} (h : AgL g g') (hy : MVy g) : MVy g' := by
  unfold MVy; rw [h.2 _ (by decide), h.2 _ (by decide), h.2 _ (by decide), h.1 14 (by decide) (by decide) (by decide), h.1 7 (by decide) (by decide) (by decide), h.1 8 (by decide) (by decide) (by decide)]; exact hy
theorem AgL.me {g g' : am_H} (h : AgL g g') : MEq g' g := ⟨fun k _ => h.2 k (by omega), fun c hc => h.1 c (by omega) (by omega) (by omega)⟩
theorem AgL.now {g g' : am_H} (h : AgL g g') : nowF g' = nowF g := by unfold nowF; rw [h.2 _ (by decide), h.1 8 (by decide) (by decide) (by decide), h.1 14 (by decide) (by decide) (by decide)]
theorem AgL.set0 {g g' : am_H} {v : Int} (h : AgL g g') : AgL g (am_set g' 0 48 v) := ⟨fun c a b d => by rw [am_set_c a]; exact h.1 c a b d, fun k hk => by rw [am_set_i hk]; exact h.2 k hk⟩
theorem AgL.setL {g g' : am_H} {c i v : Int} (h : AgL g g') (hc : c = 35 ∨ c = 36) : AgL g (am_set g' c i v) := ⟨fun e a b d => by rw [am_set_c (by omega)]; exact h.1 e a b d, fun k hk => by rw [am_set_c (by omega)]; exact h.2 k hk⟩
theorem liE_rng {g : am_H} (hs : MVs g) (hy : MVy g) (h0 : ¬ g 0 6 = 0) : ∀ P : List Int, liV g P → (P.length : Int) ≤ liE g P ∧ liE g P < g 0 6
  | [], _ => by
    have hnn := hs.1
    have := now_rng hs hy
    show ((0 : Nat) : Int) ≤ nowF g ∧ nowF g < g 0 6
    omega
  | w :: P, h => by
    obtain ⟨h1, h2, h3⟩ := h
    have ih := liE_rng hs hy h0 P h3
    have hv := (hs.2.2.2.2.1 w h1.1 h1.2).1
    show (((P.length + 1 : Nat)) : Int) ≤ g 8 w ∧ g 8 w < g 0 6
    omega
/-- the line that lies in the reference's heap -/
def LinI (g g' : am_H) (P : List Int) : Prop := AgL g g' ∧ g' 0 48 = P.length ∧ liA (g' 35) P ∧ liV g P
theorem c_X8_lineEnd {g g' : am_H} {P : List Int} (hs : MVs g) (hy : MVy g) (h0 : ¬ g 0 6 = 0) (hI : LinI g g' P) : AMet GM mX8_lineEnd 2 [am_R 0] g' (am_FI (liE g P) g') := by
  obtain ⟨ha, hm, hl, hv⟩ := hI
  have he := liE_rng hs hy h0 P hv
  have hnn := hs.1
  have hw := hs.2.1
  have f8 := ha.1 8 (by decide) (by decide) (by decide)
  have hP : P.length = 0 → liE g P = nowF g := by
    intro e; rw [List.length_eq_zero_iff.mp e]; rfl
  refine am_start [some (am_R 0)] rfl rfl (by decide) (Nat.le_of_ble_eq_true rfl) ?_
  cases P with
  | nil =>
    have hm0 : g' 0 48 = 0 := hm
    refine aw_aload_n dX8_lineEnd_0 rfl ?_
    refine aw_getI (kx := 48) fl_X8_335 dX8_lineEnd_1 rfl rfl rfl ?_
    refine aw_if_ne (tgt := 14) dX8_lineEnd_4 rfl (by omega) (fun hc4 => ?_) (fun hc4 => ?_)
    · omega
    · refine aw_aload_n dX8_lineEnd_7 rfl ?_
      refine aw_cV0IF (c_X8_whereNow (ha.vs hs) (ha.vy hy)) lk_X8_274 dX8_lineEnd_8 (by decide) rfl rfl (fun _ => Nat.le_of_ble_eq_true rfl) ?_
      refine aw_goto (tgt := 30) dX8_lineEnd_11 rfl ?_
      refine aw_iretF dX8_lineEnd_30 rfl ?_
      exact ⟨ha.now, rfl⟩
  | cons w P =>
    have hm1 : g' 0 48 = (P.length : Int) + 1 := hm
    have hwv := hv.1
    have hl1 : g' 35 P.length = w := hl.1
    have he1 : ((P.length : Int) + 1) ≤ liE g (w :: P) := he.1
    have em : g' 35 (g' 0 48 - 1) = w := by rw [hm1, Int.add_sub_cancel]; exact hl1
    refine aw_aload_n dX8_lineEnd_0 rfl ?_
    refine aw_getI (kx := 48) fl_X8_335 dX8_lineEnd_1 rfl rfl rfl ?_
    refine aw_if_ne (tgt := 14) dX8_lineEnd_4 rfl (by omega) (fun hc4 => ?_) (fun hc4 => ?_)
    · refine aw_aload_n dX8_lineEnd_14 rfl ?_
      refine aw_getR (kx := 8) fl_X8_31 dX8_lineEnd_15 rfl rfl rfl ?_
      refine aw_aload_n dX8_lineEnd_18 rfl ?_
      refine aw_getR (kx := 47) fl_X8_118 dX8_lineEnd_19 rfl rfl rfl ?_
      refine aw_aload_n dX8_lineEnd_22 rfl ?_
      refine aw_getI (kx := 48) fl_X8_335 dX8_lineEnd_23 rfl rfl rfl ?_
      refine aw_iconst dX8_lineEnd_26 ?_
      refine aw_isub dX8_lineEnd_27 ?_
      refine aw_iaload dX8_lineEnd_28 rfl (by decide) (by omega) ?_
      refine aw_top em ?_
      refine aw_iaload dX8_lineEnd_29 rfl (by decide) (by omega) ?_
      refine aw_iretF dX8_lineEnd_30 rfl ?_
      exact ⟨by rw [f8]; rfl, rfl⟩
    · omega
abbrev isS (g : am_H) (n : Int) (P : List Int) : Prop := (P.length : Int) = n ∧ fin (g 5 (liE g P))
theorem c_X8_isSentence {g g' : am_H} {P : List Int} {n : Int} (hs : MVs g) (hy : MVy g) (h0 : ¬ g 0 6 = 0) (hI : LinI g g' P) (hn : 0 ≤ n ∧ n ≤ 8) : AMet GM mX8_isSentence 3 [am_R 0, am_I n] g' (am_FI (if isS g n P then 1 else 0) g') := by
  have he := liE_rng hs hy h0 P hI.2.2.2
  have hm := hI.2.1
  have hnn := hs.1
  have hkd := hs.2.2.2.1 (liE g P) (by omega) he.2
  have f5 := hI.1.1 5 (by decide) (by decide) (by decide)
  refine am_start [some (am_R 0), some (am_I n)] rfl rfl (by decide) (Nat.le_of_ble_eq_true rfl) ?_
  refine aw_aload_n dX8_isSentence_0 rfl ?_
  refine aw_getI (kx := 48) fl_X8_335 dX8_isSentence_1 rfl rfl rfl ?_
  refine aw_iload_n dX8_isSentence_4 rfl ?_
  refine aw_icmp_ne (tgt := 27) dX8_isSentence_5 rfl (by omega) (by omega) (fun hc5 => ?_) (fun hc5 => ?_)
  · refine aw_iconst dX8_isSentence_27 ?_
    refine aw_zretF dX8_isSentence_28 rfl (by omega) ?_
    exact ⟨by rw [if_neg (fun z => hc5 (by have := z.1; omega))], rfl⟩
  · refine aw_aload_n dX8_isSentence_8 rfl ?_
    refine aw_getR (kx := 4) fl_X8_22 dX8_isSentence_9 rfl rfl rfl ?_
    refine aw_aload_n dX8_isSentence_12 rfl ?_
    refine aw_cV0IF (c_X8_lineEnd hs hy h0 hI) lk_X8_341 dX8_isSentence_13 (by decide) rfl rfl (fun _ => Nat.le_of_ble_eq_true rfl) ?_
    refine aw_iaload dX8_isSentence_16 rfl (by decide) (by omega) ?_
    rw [f5]
    refine aw_cS1IF (c_X8_isFinal (by omega)) lk_X8_169 dX8_isSentence_17 (by decide) (fun _ => Nat.le_of_ble_eq_true rfl) ?_
    refine aw_ifb_eq (tgt := 27) dX8_isSentence_20 rfl (fun hc20 => ?_) (fun hc20 => ?_)
    · refine aw_iconst dX8_isSentence_27 ?_
      refine aw_zretF dX8_isSentence_28 rfl (by omega) ?_
      exact ⟨by rw [if_neg (fun z => hc20 z.2)], rfl⟩
    · refine aw_iconst dX8_isSentence_23 ?_
      refine aw_goto (tgt := 28) dX8_isSentence_24 rfl ?_
      refine aw_zretF dX8_isSentence_28 rfl (by omega) ?_
      exact ⟨by rw [if_pos ⟨by omega, hc20⟩], rfl⟩
/-- how many of the first i sounds are not the line's -/
def mhF (g : am_H) (f : Int → Int) (r : Int) : Nat → Int
  | 0 => 0
  | i + 1 => mhF g f r i + (if ¬ g 2 (40 * r + i) = -9 ∧ ¬ g 2 (40 * r + i) = g 9 (f i) then 1 else 0)
theorem mhF_rng (g : am_H) (f : Int → Int) (r : Int) : ∀ i : Nat, 0 ≤ mhF g f r i ∧ mhF g f r i ≤ i
  | 0 => by unfold mhF; omega
  | i + 1 => by
    have := mhF_rng g f r i
    unfold mhF; split <;> omega
def mhP (g : am_H) (r : Int) : List Int → Int
  | [] => 0
  | w :: P => mhP g r P + (if ¬ g 2 (40 * r + P.length) = -9 ∧ ¬ g 2 (40 * r + P.length) = g 9 w then 1 else 0)
theorem mh_P (g : am_H) (f : Int → Int) (r : Int) : ∀ P : List Int, liA f P → mhF g f r P.length = mhP g r P
  | [], _ => rfl
  | w :: P, h => by
    have ih := mh_P g f r P h.2
    show mhF g f r P.length + _ = mhP g r P + _
    rw [ih, h.1]
theorem liA_at {f : Int → Int} {g : am_H} : ∀ (P : List Int), liA f P → liV g P → ∀ i : Int, 0 ≤ i → i < P.length → 0 ≤ f i ∧ f i < g 0 10
  | [], _, _, i, h1, h2 => by
    have : i < ((0 : Nat) : Int) := h2
    omega
  | w :: P, h, hv, i, h1, h2 => by
    have h3 : i < ((P.length + 1 : Nat) : Int) := h2
    by_cases e : i = P.length
    · subst e; rw [h.1]; exact hv.1
    · exact liA_at P h.2 hv.2.2 i h1 (by omega)
theorem lp_X8_misheard {g g' : am_H} {P : List Int} {r n : Int} (hs : MVs g) (hv : MVr g) (hr : 0 ≤ r ∧ r ≤ 5) (hI : LinI g g' P) (hn : 0 ≤ n ∧ n ≤ 8) (hP : (P.length : Int) = n) : ∀ (m i : Nat) (x5 : Option am_V), (i : Int) ≤ n → n - i < m → AW GM mX8_misheard 1 (am_FI (mhP g r P) g') 5 [some (am_R 0), some (am_I r), some (am_I n), some (am_I (mhF g (g' 35) r i)), some (am_I i), x5] [] g' := by
  obtain ⟨ha, hm, hl, hlv⟩ := hI
  have hw := hs.2.1
  have f2 := ha.1 2 (by decide) (by decide) (by decide)
  have f9 := ha.1 9 (by decide) (by decide) (by decide)
  intro m
  induction m with
  | zero => intro i x5 h1 h2; omega
  | succ m ih =>
    intro i x5 h1 h2
    have hk := hv.2 (40 * r + i)
    have f2i : g' 2 (40 * r + i) = g 2 (40 * r + i) := by rw [f2]
    have hli := fun h => liA_at (g := g) P hl hlv (i : Int) (by omega) h
    have hso := fun h : (i : Int) < P.length => (hs.2.2.2.2.1 (g' 35 i) (hli h).1 (hli h).2).2.1
    have e1 : mhF g (g' 35) r (i + 1) = mhF g (g' 35) r i + (if ¬ g 2 (40 * r + i) = -9 ∧ ¬ g 2 (40 * r + i) = g 9 (g' 35 i) then 1 else 0) := rfl
    have f9i : g' 9 (g' 35 i) = g 9 (g' 35 i) := by rw [f9]
    have nxt : ∀ (v : Int) (y5 : Option am_V), (i : Int) < n → v = mhF g (g' 35) r (i + 1) → AW GM mX8_misheard 1 (am_FI (mhP g r P) g') 5 [some (am_R 0), some (am_I r), some (am_I n), some (am_I v), some (am_I (i + 1 : Nat)), y5] [] g' := by
      intro v y5 hlt hv2
      rw [hv2]
      exact ih (i + 1) y5 (by omega) (by omega)
    refine aw_iload dX8_misheard_5 rfl ?_
    refine aw_iload_n dX8_misheard_7 rfl ?_
    refine aw_icmp_ge (tgt := 63) dX8_misheard_8 rfl (by omega) (by omega) (fun hc8 => ?_) (fun hc8 => ?_)
    · refine aw_iload_n dX8_misheard_63 rfl ?_
      refine aw_iretF dX8_misheard_64 rfl ?_
      exact ⟨by rw [← mh_P g (g' 35) r P hl, show P.length = i by omega], rfl⟩
    · have hli2 := hli (by omega)
      have hso2 := hso (by omega)
      refine aw_aload_n dX8_misheard_11 rfl ?_
      refine aw_getR (kx := 1) fl_X8_13 dX8_misheard_12 rfl rfl rfl ?_
      refine aw_bipush (by decide) dX8_misheard_15 ?_
      refine aw_iload_n dX8_misheard_17 rfl ?_
      refine aw_imul dX8_misheard_18 ?_
      refine aw_iload dX8_misheard_19 rfl ?_
      refine aw_iadd dX8_misheard_21 ?_
      refine aw_iaload dX8_misheard_22 rfl (by decide) (by omega) ?_
      refine aw_istore5 dX8_misheard_23 (by decide) rfl ?_
      refine aw_iload_n dX8_misheard_25 rfl ?_
      refine aw_iload dX8_misheard_26 rfl ?_
      refine aw_bipush (by decide) dX8_misheard_28 ?_
      refine aw_icmp_eq (tgt := 54) dX8_misheard_30 rfl (by omega) (by omega) (fun hc30 => ?_) (fun hc30 => ?_)
      · refine aw_iconst dX8_misheard_54 ?_
        refine aw_iadd dX8_misheard_55 ?_
        refine aw_istore_3 dX8_misheard_56 (by decide) rfl ?_
        refine aw_iinc4 dX8_misheard_57 (by decide) rfl ?_
        refine aw_goto (tgt := 5) dX8_misheard_60 rfl ?_
        exact nxt _ _ (by omega) (by rw [e1, if_neg (fun z => by omega)])
      · refine aw_iload dX8_misheard_33 rfl ?_
        refine aw_aload_n dX8_misheard_35 rfl ?_
        refine aw_getR (kx := 9) fl_X8_34 dX8_misheard_36 rfl rfl rfl ?_
        refine aw_aload_n dX8_misheard_39 rfl ?_
        refine aw_getR (kx := 47) fl_X8_118 dX8_misheard_40 rfl rfl rfl ?_
        refine aw_iload dX8_misheard_43 rfl ?_
        refine aw_iaload dX8_misheard_45 rfl (by decide) (by omega) ?_
        refine aw_iaload dX8_misheard_46 rfl (by decide) (by omega) ?_
        refine aw_icmp_eq (tgt := 54) dX8_misheard_47 rfl (by omega) (by omega) (fun hc47 => ?_) (fun hc47 => ?_)
        · refine aw_iconst dX8_misheard_54 ?_
          refine aw_iadd dX8_misheard_55 ?_
          refine aw_istore_3 dX8_misheard_56 (by decide) rfl ?_
          refine aw_iinc4 dX8_misheard_57 (by decide) rfl ?_
          refine aw_goto (tgt := 5) dX8_misheard_60 rfl ?_
          exact nxt _ _ (by omega) (by rw [e1, if_neg (fun z => by omega)])
        · refine aw_iconst dX8_misheard_50 ?_
          refine aw_goto (tgt := 55) dX8_misheard_51 rfl ?_
          refine aw_iadd dX8_misheard_55 ?_
          refine aw_istore_3 dX8_misheard_56 (by decide) rfl ?_
          refine aw_iinc4 dX8_misheard_57 (by decide) rfl ?_
          refine aw_goto (tgt := 5) dX8_misheard_60 rfl ?_
          exact nxt _ _ (by omega) (by rw [e1, if_pos (by omega)])
theorem c_X8_misheard {g g' : am_H} {P : List Int} {r n : Int} (hs : MVs g) (hv : MVr g) (hr : 0 ≤ r ∧ r ≤ 5) (hI : LinI g g' P) (hn : 0 ≤ n ∧ n ≤ 8) (hP : (P.length : Int) = n) : AMet GM mX8_misheard 1 [am_R 0, am_I r, am_I n] g' (am_FI (mhP g r P) g') := by
  refine am_start [some (am_R 0), some (am_I r), some (am_I n), none, none, none] rfl rfl (by decide) (Nat.le_of_ble_eq_true rfl) ?_
  refine aw_iconst dX8_misheard_0 ?_
  refine aw_istore_3 dX8_misheard_1 (by decide) rfl ?_
  refine aw_iconst dX8_misheard_2 ?_
  refine aw_istore4 dX8_misheard_3 (by decide) rfl ?_
  exact lp_X8_misheard hs hv hr hI hn hP 9 0 _ (by omega) (by omega)
