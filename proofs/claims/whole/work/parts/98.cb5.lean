/-! what was heard, by the reference's lines -/
theorem foldl_fil {σ α : Type} (B : α → Bool) (t f : σ → α → σ) : ∀ (L : List α) (s : σ), (∀ P ∈ L, ∀ s : σ, f s P = if B P = true then t s P else s) → L.foldl f s = (L.filter B).foldl t s
  | [], _, _ => rfl
  | P :: L, s, h => by
    have h1 := h P List.mem_cons_self s
    have ih := foldl_fil B t f L (f s P) (fun Q hQ => h Q (List.mem_cons_of_mem _ hQ))
    rw [List.foldl_cons, ih, h1, List.filter_cons]
    by_cases e : B P = true
    · rw [if_pos e, if_pos e, List.foldl_cons]
    · rw [if_neg e, if_neg e]
theorem trL_len {g : am_H} : ∀ (k : Nat) (P Q : List Int), Q ∈ trL g k P → Q.length ≤ P.length + k
  | 0, P, Q, h => by
    have e : Q = P := List.mem_singleton.mp h
    rw [e]; exact Nat.le_refl _
  | k + 1, P, Q, h => by
    rw [trL, List.mem_cons, List.mem_flatMap] at h
    rcases h with e | ⟨w, _, hq⟩
    · rw [e]; omega
    · have ih := trL_len k (w :: P) Q hq
      have : Q.length ≤ P.length + 1 + k := ih
      omega
abbrev rsd (g : am_H) (r : Int) : Int → Int := fun i => g 2 (40 * r + i)
theorem fold2 {α : Type} (u : Nat → α → Nat) : ∀ (L : List α) (a : Int) (b : Nat), L.foldl (fun (s : Int × Nat) P => (s.1 + 1, u s.2 P)) (a, b) = (a + L.length, L.foldl u b)
  | [], a, b => by show (a, b) = (a + ((0 : Nat) : Int), b); rw [show a + ((0 : Nat) : Int) = a by omega]
  | P :: L, a, b => by
    rw [List.foldl_cons, fold2 u L, List.foldl_cons, List.length_cons]
    rw [show a + 1 + (L.length : Int) = a + ((L.length + 1 : Nat) : Int) by omega]
theorem fold1 {α : Type} : ∀ (L : List α) (a : Int), L.foldl (fun (s : Int) _ => s + 1) a = a + L.length
  | [], a => by show a = a + ((0 : Nat) : Int); omega
  | P :: L, a => by
    rw [List.foldl_cons, fold1 L, List.length_cons]
    omega
theorem mh_ar {g : am_H} {r n sl : Int} (hn : 0 ≤ n ∧ n ≤ 8) {Q : List Int} (hQ : Q ∈ trL g n.toNat []) : arB g (rsd g r) n sl Q = decide (isS g n Q ∧ mhP g r Q ≤ sl) := by
  have := trL_len n.toNat [] Q hQ
  have h2 : Q.length ≤ 0 + n.toNat := this
  unfold arB
  rw [msP_mh g r Q (by omega)]
theorem mhP_nn (g : am_H) (r : Int) : ∀ P : List Int, 0 ≤ mhP g r P
  | [] => Int.le_refl _
  | w :: P => by
    have ih := mhP_nn g r P
    show 0 ≤ mhP g r P + _
    split <;> omega
theorem hd_ar {g : am_H} {r : Int} (hn : 0 ≤ g 1 r ∧ g 1 r ≤ 8) : hdR g r = (((arL g (rsd g r) (g 1 r) 0 (g 1 r).toNat []).length : Int), (arL g (rsd g r) (g 1 r) 0 (g 1 r).toNat []).foldl (fun s Q => s ||| 2 ^ (g 6 (liE g Q)).toNat) 0) := by
  unfold hdR arL
  rw [foldl_fil (arB g (rsd g r) (g 1 r) 0) (fun (s : Int × Nat) P => (s.1 + 1, (fun s Q => s ||| 2 ^ (g 6 (liE g Q)).toNat) s.2 P)) _ _ _ (fun P hP s => ?_), fold2 (fun s Q => s ||| 2 ^ (g 6 (liE g Q)).toNat), Int.zero_add]
  rw [mh_ar hn hP, hdS]
  have := mhP_nn g r P
  by_cases e : isS g (g 1 r) P ∧ mhP g r P = 0
  · rw [if_pos e, if_pos (decide_eq_true ⟨e.1, by omega⟩)]
  · rw [if_neg e, if_neg (by rw [decide_eq_true_eq]; exact fun z => e ⟨z.1, by omega⟩)]
theorem sl_ar {g : am_H} {r : Int} (hn : 0 ≤ g 1 r ∧ g 1 r ≤ 8) : slR g r = ((arL g (rsd g r) (g 1 r) 1 (g 1 r).toNat []).length : Int) := by
  unfold slR arL
  rw [foldl_fil (arB g (rsd g r) (g 1 r) 1) (fun (s : Int) _ => s + 1) _ _ _ (fun P hP s => ?_), fold1, Int.zero_add]
  rw [mh_ar hn hP, slS]
  by_cases e : isS g (g 1 r) P ∧ mhP g r P < 2
  · rw [if_pos e, if_pos (decide_eq_true ⟨e.1, by omega⟩)]
  · rw [if_neg e, if_neg (by rw [decide_eq_true_eq]; exact fun z => e ⟨z.1, by omega⟩)]
theorem foldH {α : Type} : ∀ L : List α, L.foldl (fun (s : Option α) P => if s.isNone = true then some P else s) none = L.head?
  | [] => rfl
  | P :: L => by
    rw [List.foldl_cons]
    show L.foldl _ (some P) = some P
    induction L with
    | nil => rfl
    | cons Q L ih => rw [List.foldl_cons]; exact ih
theorem fs_ar {g : am_H} {r : Int} (hn : 0 ≤ g 1 r ∧ g 1 r ≤ 8) : fsR g r = (arL g (rsd g r) (g 1 r) 0 (g 1 r).toNat []).head? := by
  unfold fsR arL
  rw [foldl_fil (arB g (rsd g r) (g 1 r) 0) (fun (s : Option (List Int)) P => if s.isNone = true then some P else s) _ _ _ (fun P hP s => ?_), foldH]
  rw [mh_ar hn hP, fsS]
  have := mhP_nn g r P
  cases s with
  | none =>
    rw [if_pos rfl, show (if (none : Option (List Int)).isNone = true then some P else none) = some P from rfl]
    by_cases e : isS g (g 1 r) P ∧ mhP g r P = 0
    · rw [if_pos e, if_pos (decide_eq_true ⟨e.1, by omega⟩)]
    · rw [if_neg e, if_neg (by rw [decide_eq_true_eq]; exact fun z => e ⟨z.1, by omega⟩)]
  | some Q =>
    rw [if_neg (by simp)]
    split <;> rfl
/-! the least places -/
theorem msP_le (g : am_H) (sd : Int → Int) : ∀ P : List Int, P.length ≤ 16 → pcN 16 (msP g sd P) ≤ P.length
  | [], _ => by show pcN 16 0 ≤ 0; rw [pcN_0]; omega
  | w :: P, h => by
    have h1 : P.length + 1 ≤ 16 := h
    have ih := msP_le g sd P (by omega)
    rw [msP_pc _ _ _ _ (by omega)]
    show _ ≤ P.length + 1
    split <;> omega
abbrev wsd (g : am_H) (r : Int) : Int → Int := fun i => g 9 (g 2 (40 * r + i))
theorem al_ms {g : am_H} {r : Int} : ∀ P : List Int, (∀ i : Int, 0 ≤ i → i < P.length → 0 ≤ wsd g r i) → alP g r P + msP g (wsd g r) P + 1 = 2 ^ P.length
  | [], _ => rfl
  | w :: P, h => by
    have ih := al_ms P (fun i a b => h i a (by show i < ((P.length + 1 : Nat) : Int); omega))
    have h2 := h P.length (by omega) (by show (P.length : Int) < ((P.length + 1 : Nat) : Int); omega)
    show alP g r P + _ + (msP g (wsd g r) P + _) + 1 = 2 ^ (P.length + 1)
    rw [Nat.pow_succ]
    by_cases e : g 9 w = g 9 (g 2 (40 * r + P.length))
    · rw [if_pos e, if_pos (Or.inr e.symm)]; omega
    · rw [if_neg e, if_neg (by
        intro z
        rcases z with z | z
        · rw [z] at h2; exact absurd h2 (by decide)
        · exact e z.symm)]; omega
theorem and_nt {s a m n : Nat} (hn : n ≤ 8) (hs : s < 2 ^ n) (ha : a + m + 1 = 2 ^ n) : am_and s (am_xor a (-1)) = 0 ↔ m &&& s = 0 := by
  have hp : 2 ^ n ≤ 2 ^ 8 := Nat.pow_le_pow_right (by decide) hn
  have em : m = 2 ^ n - (a + 1) := by omega
  have e1 : am_and s (am_xor a (-1)) = (nI s &&& (nI a ^^^ Int32.ofInt (-1))).toInt := by
    unfold am_and am_xor
    rw [bt_nI, bt_nI, Int32.ofInt_toInt]
  have e2 : nI s &&& (nI a ^^^ Int32.ofInt (-1)) = nI (m &&& s) := by
    apply Int32.toBitVec.inj
    apply BitVec.eq_of_getLsbD_eq
    intro i hi
    show (BitVec.ofNat 32 s &&& (BitVec.ofNat 32 a ^^^ BitVec.ofInt 32 (-1))).getLsbD i = (BitVec.ofNat 32 (m &&& s)).getLsbD i
    have e3 : (BitVec.ofInt 32 (-1)).getLsbD i = true := by
      rw [show BitVec.ofInt 32 (-1) = BitVec.allOnes 32 by decide, BitVec.getLsbD_allOnes]; exact decide_eq_true hi
    rw [BitVec.getLsbD_and, BitVec.getLsbD_xor, e3, BitVec.getLsbD_ofNat, BitVec.getLsbD_ofNat, BitVec.getLsbD_ofNat, Nat.testBit_and, em, Nat.testBit_two_pow_sub_succ (by omega)]
    by_cases hin : i < n
    · simp [hi, hin, Bool.and_comm]
    · have : s.testBit i = false := Nat.testBit_lt_two_pow (Nat.lt_of_lt_of_le hs (Nat.pow_le_pow_right (by decide) (by omega)))
      simp [this]
  have e4 : (nI (m &&& s)).toInt = ((m &&& s : Nat) : Int) := nI_toInt (Nat.lt_of_le_of_lt Nat.and_le_right (by omega))
  rw [e1, e2, e4]
  omega
theorem pc_full : ∀ n : Nat, n < 9 → pcN 16 (2 ^ n - 1) = n ∧ ∀ s : Nat, s < 2 ^ n - 1 → pcN 16 s < n := by decide +kernel
def cbF (U : Nat → Bool) (b : Nat) : Nat → Nat
  | 0 => b
  | s + 1 => if pcN 16 s < pcN 16 (cbF U b s) ∧ U s = true then s else cbF U b s
theorem cb_bs {T : Int → Bool} {U : Nat → Bool} {n : Nat} (hn : n ≤ 8) (hT : ∀ s : Nat, s < 2 ^ n → T s = !U s) : ∀ s : Nat, s ≤ 2 ^ n - 1 → (bsF T s < 0 ∧ cbF U (2 ^ n - 1) s = 2 ^ n - 1) ∨ (bsF T s = ((cbF U (2 ^ n - 1) s : Nat) : Int))
  | 0, _ => Or.inl ⟨by show (-9 : Int) < 0; decide, rfl⟩
  | s + 1, h => by
    have ih := cb_bs hn hT s (by omega)
    have hp := pc_full n (by omega)
    have hs := hp.2 s (by omega)
    have ht := hT s (by omega)
    have e1 : bsF T (s + 1) = if T s = false ∧ (bsF T s < 0 ∨ pcN 16 s < pcN 16 (bsF T s).toNat) then (s : Int) else bsF T s := rfl
    have e2 : cbF U (2 ^ n - 1) (s + 1) = if pcN 16 s < pcN 16 (cbF U (2 ^ n - 1) s) ∧ U s = true then s else cbF U (2 ^ n - 1) s := rfl
    rw [e1, e2, ht]
    cases hU : U s with
    | false =>
      rw [if_neg (fun z => absurd z.1 (by decide)), if_neg (fun z => absurd z.2 (by decide))]
      exact ih
    | true =>
      rcases ih with ⟨a, b⟩ | a
      · rw [if_pos ⟨rfl, Or.inl a⟩, b, if_pos ⟨by omega, rfl⟩]; exact Or.inr rfl
      · rw [a]
        have e3 : (((cbF U (2 ^ n - 1) s : Nat) : Int)).toNat = cbF U (2 ^ n - 1) s := by omega
        rw [e3]
        by_cases q : pcN 16 s < pcN 16 (cbF U (2 ^ n - 1) s)
        · rw [if_pos ⟨rfl, Or.inr q⟩, if_pos ⟨q, rfl⟩]; exact Or.inr rfl
        · rw [if_neg (fun z => z.2.elim (fun y => by omega) q), if_neg (fun z => q z.1)]; exact Or.inr rfl
theorem cbF_lt {U : Nat → Bool} {b n : Nat} (hb : b < 2 ^ n) : ∀ s : Nat, s ≤ 2 ^ n → cbF U b s < 2 ^ n
  | 0, _ => hb
  | s + 1, h => by
    have ih := cbF_lt (U := U) hb s (by omega)
    unfold cbF
    split
    · omega
    · exact ih
theorem cb_all {T : Int → Bool} {U : Nat → Bool} {n : Nat} (hn : n ≤ 8) (hT : ∀ s : Nat, s < 2 ^ n → T s = !U s) (hF : U (2 ^ n - 1) = true) : bsF T (2 ^ n) = ((cbF U (2 ^ n - 1) (2 ^ n) : Nat) : Int) := by
  have h1 := cb_bs hn hT (2 ^ n - 1) (Nat.le_refl _)
  have h2 : 0 < 2 ^ n := Nat.pow_pos (by decide)
  have hp := pc_full n (by omega)
  obtain ⟨f, hf⟩ : ∃ f, 2 ^ n = f + 1 := ⟨2 ^ n - 1, by omega⟩
  have hf2 : 2 ^ n - 1 = f := by omega
  rw [hf2] at h1 hF hp ⊢
  rw [hf]
  have ht := hT f (by omega)
  have e1 : bsF T (f + 1) = if T f = false ∧ (bsF T f < 0 ∨ pcN 16 f < pcN 16 (bsF T f).toNat) then (f : Int) else bsF T f := rfl
  have e2 : cbF U f (f + 1) = if pcN 16 f < pcN 16 (cbF U f f) ∧ U f = true then f else cbF U f f := rfl
  rw [e1, e2, ht, hF]
  rcases h1 with ⟨a, b⟩ | a
  · rw [if_pos ⟨rfl, Or.inl a⟩, b, if_neg (by omega)]
  · rw [a]
    have e3 : (((cbF U f f : Nat) : Int)).toNat = cbF U f f := by omega
    rw [e3]
    by_cases q : pcN 16 f < pcN 16 (cbF U f f)
    · rw [if_pos ⟨rfl, Or.inr q⟩, if_pos ⟨q, rfl⟩]
    · rw [if_neg (fun z => z.2.elim (fun y => by omega) q), if_neg (fun z => q z.1)]
theorem ft_any (g : am_H) (r n m : Int) (s : Int) : ∀ (L : List (List Int)) (F : Int → Bool), (L.foldl (ftS g r n m) F) s = (F s || L.any (fun P => decide (isS g n P ∧ ¬ g 6 (liE g P) = m) && decide (am_and s (am_xor (alP g r P : Nat) (-1)) = 0)))
  | [], F => by rw [List.any_nil, Bool.or_false]; rfl
  | P :: L, F => by
    rw [List.foldl_cons, ft_any g r n m s L, List.any_cons, ← Bool.or_assoc]; rfl
abbrev strL (g : am_H) (own : Int) (A : List (List Int)) : List (List Int) := A.filter (fun Q => decide (¬ g 6 (liE g Q) = own))
def foB (g : am_H) (sd : Int → Int) (F : List (List Int)) (s : Nat) : Bool := F.all (fun Q => decide (¬ msP g sd Q &&& s = 0))
/-- a line that sounds as the row's words is the row -/
theorem ms_row {g : am_H} (hs : MVs g) {r : Int} {n : Nat} (hen : 0 ≤ rwE g r n) : ∀ Q : List Int, liV g Q → Q.length ≤ n → msP g (wsd g r) Q = 0 → liE g Q = rwE g r Q.length
  | [], _, _, _ => rfl
  | w :: Q, hv, hl, hm => by
    have hl2 : Q.length + 1 ≤ n := hl
    have hm2 : msP g (wsd g r) Q + (if wsd g r Q.length = -9 ∨ wsd g r Q.length = g 9 w then 0 else 2 ^ Q.length) = 0 := hm
    have ih := ms_row hs hen Q hv.2.2 (by omega) (by omega)
    obtain ⟨k1, k2, k3, k4⟩ := rwE_ok (i := Q.length) (by omega) hen
    have ksd := (hs.2.2.2.2.1 _ k2.1 (by omega)).2.1
    have hp : 0 < 2 ^ Q.length := Nat.pow_pos (by decide)
    have e : wsd g r Q.length = -9 ∨ wsd g r Q.length = g 9 w := by
      by_cases q : wsd g r Q.length = -9 ∨ wsd g r Q.length = g 9 w
      · exact q
      · rw [if_neg q] at hm2; omega
    have e2 : g 9 (g 2 (40 * r + Q.length)) = g 9 w := by
      rcases e with e | e
      · have : g 9 (g 2 (40 * r + Q.length)) = -9 := e
        omega
      · exact e
    have hfw : g 7 w = g 7 (g 2 (40 * r + Q.length)) := by rw [hv.2.1, ih, k3]
    have ew : w = g 2 (40 * r + Q.length) := by
      have h1 := hv.1
      by_cases q1 : w < g 2 (40 * r + Q.length)
      · exact absurd e2.symm (hs.2.2.2.2.2.1 w _ h1.1 q1 (by omega) hfw)
      · by_cases q2 : g 2 (40 * r + Q.length) < w
        · exact absurd e2 (hs.2.2.2.2.2.1 _ w k2.1 q2 h1.2 hfw.symm)
        · omega
    show g 8 w = rwE g r (Q.length + 1)
    rw [k4, ew]
theorem tr_liV {g : am_H} (hs : MVs g) : ∀ (k : Nat) (P Q : List Int), liV g P → Q ∈ trL g k P → liV g Q
  | 0, P, Q, hv, h => by
    have e : Q = P := List.mem_singleton.mp h
    rw [e]; exact hv
  | k + 1, P, Q, hv, h => by
    rw [trL, List.mem_cons, List.mem_flatMap] at h
    rcases h with e | ⟨w, hw, hq⟩
    · rw [e]; exact hv
    · obtain ⟨a, b, c⟩ := wl_mem.mp hw
      have en : (nwN g : Int) = g 0 10 := by unfold nwN; have := hs.2.1; omega
      exact tr_liV hs k (w :: P) Q ⟨⟨a, by omega⟩, c, hv⟩ hq
theorem ft_fo {g : am_H} (hs : MVs g) {r : Int} (hn : 0 ≤ g 1 r ∧ g 1 r ≤ 8) (hen : 0 ≤ rwN g r) : (∀ s : Nat, s < 2 ^ (g 1 r).toNat → ftR g r s = !foB g (wsd g r) (strL g (g 6 (rwN g r)) (arL g (wsd g r) (g 1 r) 8 (g 1 r).toNat [])) s) ∧ foB g (wsd g r) (strL g (g 6 (rwN g r)) (arL g (wsd g r) (g 1 r) 8 (g 1 r).toNat [])) (2 ^ (g 1 r).toNat - 1) = true := by
  have hsd : ∀ i : Int, 0 ≤ i → i < g 1 r → 0 ≤ wsd g r i := by
    intro i a b
    obtain ⟨k1, k2, k3, k4⟩ := rwE_ok (g := g) (r := r) (i := i.toNat) (n := (g 1 r).toNat) (by omega) hen
    rw [show ((i.toNat : Nat) : Int) = i by omega] at k2
    exact (hs.2.2.2.2.1 _ k2.1 (by omega)).2.1.1
  have key : ∀ Q : List Int, Q ∈ trL g (g 1 r).toNat [] → Q.length ≤ (g 1 r).toNat := by
    intro Q hQ
    have : Q.length ≤ 0 + (g 1 r).toNat := trL_len _ _ _ hQ
    omega
  constructor
  · intro s hlt
    unfold ftR
    rw [ft_any, Bool.false_or, foB, List.not_all_eq_any_not, strL, arL, List.filter_filter, List.any_filter]
    rw [Bool.eq_iff_iff, List.any_eq_true, List.any_eq_true]
    have h3 : ∀ Q : List Int, Q ∈ trL g (g 1 r).toNat [] → isS g (g 1 r) Q → (am_and s (am_xor (alP g r Q : Nat) (-1)) = 0 ↔ msP g (wsd g r) Q &&& s = 0) := by
      intro Q hQ hS
      have hl := hS.1
      refine and_nt (n := (g 1 r).toNat) (by omega) hlt ?_
      rw [al_ms Q (fun i a b => hsd i a (by omega)), show Q.length = (g 1 r).toNat by omega]
    constructor
    · rintro ⟨Q, hQ, hq⟩
      rw [Bool.and_eq_true, decide_eq_true_eq, decide_eq_true_eq] at hq
      have hpl := msP_le g (wsd g r) Q (by have := key Q hQ; omega)
      have := key Q hQ
      refine ⟨Q, hQ, ?_⟩
      rw [Bool.and_eq_true, Bool.and_eq_true, decide_eq_true_eq, decide_eq_true_eq, Bool.not_eq_true', decide_eq_false_iff_not]
      exact ⟨⟨hq.1.2, hq.1.1, by omega⟩, fun z => z ((h3 Q hQ hq.1.1).mp hq.2)⟩
    · rintro ⟨Q, hQ, hq⟩
      rw [Bool.and_eq_true, Bool.and_eq_true, decide_eq_true_eq, decide_eq_true_eq, Bool.not_eq_true', decide_eq_false_iff_not] at hq
      refine ⟨Q, hQ, ?_⟩
      rw [Bool.and_eq_true, decide_eq_true_eq, decide_eq_true_eq]
      exact ⟨⟨hq.1.2.1, hq.1.1⟩, (h3 Q hQ hq.1.2.1).mpr (Decidable.not_not.mp hq.2)⟩
  · unfold foB
    rw [List.all_eq_true]
    intro Q hQ
    rw [strL, List.mem_filter, arL, List.mem_filter, decide_eq_true_eq, decide_eq_true_eq] at hQ
    obtain ⟨⟨h1, h2⟩, h3⟩ := hQ
    have hlt := msP_lt g (wsd g r) Q
    have hl := h2.1.1
    rw [show Q.length = (g 1 r).toNat by omega] at hlt
    rw [decide_eq_true_eq, Nat.and_two_pow_sub_one_eq_mod, Nat.mod_eq_of_lt hlt]
    intro z
    have := ms_row hs hen Q (tr_liV hs _ [] _ trivial h1) (key Q h1) z
    rw [show Q.length = (g 1 r).toNat by omega] at this
    exact h3 (by rw [this])
