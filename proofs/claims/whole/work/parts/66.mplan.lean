theorem am_set_j {h : am_H} {c i v x j : Int} (hj : ¬ j = i) : am_set h c i v x j = h x j := by
  by_cases e : x = c
  · subst e; rw [am_set_i hj]
  · rw [am_set_c e]
theorem gnF_rng {g : am_H} (hs : MVs g) (x of : Int) : ∀ n : Nat, (n : Int) ≤ g 0 15 → -9 * n ≤ gnF (g 5) (g 6) (g 12) (g 13) (g 11) x of n ∧ gnF (g 5) (g 6) (g 12) (g 13) (g 11) x of n ≤ 18 * n
  | 0, _ => by unfold gnF; omega
  | n + 1, h => by
    have ih := gnF_rng hs x of n (by omega)
    have hd := hs.2.2.2.2.2.2.2.1 n (by omega) (by omega)
    have hv : 0 ≤ wv (g 5) (g 6) (g 12) (g 13) x n ∧ wv (g 5) (g 6) (g 12) (g 13) x n ≤ 18 := by
      unfold wv; split
      · split <;> omega
      · omega
    unfold gnF; split <;> omega
theorem gain_rng {g : am_H} (hs : MVs g) (x of : Int) : -36 ≤ gain g x of ∧ gain g x of ≤ 72 := by
  have h := hs.2.2.1
  have := gnF_rng hs x of (g 0 15).toNat (by omega)
  unfold gain; omega
theorem mbF_rng {g : am_H} {c : Int} {x : Int} {V : Int → Int} (hc : 0 ≤ c) (hV : ∀ k : Int, k ∈ wl (g 7) x (nwN g) → -c ≤ V (g 8 k) ∧ V (g 8 k) ≤ c) : -c ≤ mbF V (g 7) (g 8) (dgF g x) x (nwN g) ∧ mbF V (g 7) (g 8) (dgF g x) x (nwN g) ≤ c := by
  unfold mbF
  by_cases h0 : cntF (g 7) x (nwN g) = 0
  · rw [wl_nil.mpr h0]; show -c ≤ (0 : Int) ∧ (0 : Int) ≤ c; omega
  · have hcr := cntF_rng (g 7) x (nwN g)
    have hpos : 0 < cntF (g 7) x (nwN g) := by omega
    have hk : ∀ k ∈ wl (g 7) x (nwN g), -(c / cntF (g 7) x (nwN g)) ≤ (V (g 8 k)).tdiv (dgF g x) ∧ (V (g 8 k)).tdiv (dgF g x) ≤ c / cntF (g 7) x (nwN g) := by
      intro k hk
      have h7 := tdiv_rng (n := cntF (g 7) x (nwN g)) (by omega) (hV k hk)
      unfold dgF
      constructor
      · have h8 : -((V (g 8 k)).tdiv (cntF (g 7) x (nwN g))) ≤ c / cntF (g 7) x (nwN g) := by
          rw [Int.le_ediv_iff_mul_le hpos, Int.mul_comm, Int.mul_neg]; omega
        omega
      · rw [Int.le_ediv_iff_mul_le hpos, Int.mul_comm]; omega
    have h9 := fold_rng _ (wl (g 7) x (nwN g)) 0 hk
    rw [wl_len] at h9
    have h10 := Int.mul_ediv_self_le (x := c) (k := cntF (g 7) x (nwN g)) h0
    rw [Int.mul_neg] at h9
    omega
/-- what lies behind x, of the deeds' state: the least (b = 0) or the mean, scaled -/
def bhV (g : am_H) (b : Int) (V : Int → Int → Int) (x of : Int) : Int := if b = 0 then (lbF (fun y => V y (gon (g 5 x) of)) (g 7) (g 8) x (nwN g)).2 else mbF (fun y => V y (gon (g 5 x) of)) (g 7) (g 8) (dgF g x) x (nwN g)
def plS (g : am_H) (b : Int) (V : Int → Int → Int) (x of d : Int) (s : Int × Int) : Int × Int := if cbg of d then (if s.1 < bhV g b V x (bgw (g 10 d) of d) then bhV g b V x (bgw (g 10 d) of d) else s.1, if s.1 ≤ bhV g b V x (bgw (g 10 d) of d) then d else s.2) else s
abbrev dsL (n : Nat) : List Int := wl (fun _ => 0) 0 n
def FP (g : am_H) (b : Int) (V : Int → Int → Int × Int) (x of : Int) : Int × Int := if dgF g x = 0 then (if b = 0 then gain g x of else 429981696 * gain g x of, -9) else (dsL (g 0 15).toNat).foldr (plS g b (fun y o => (V y o).1) x of) (bhV g b (fun y o => (V y o).1) x of, -9)
def plV (g : am_H) (b : Int) : Int → Int → Int × Int := fixF (FP g b) (fun _ => (0, 0)) 9
theorem bhV_caus {g : am_H} (hs : MVs g) (b : Int) {V W : Int → Int → Int × Int} {x : Int} (h : ∀ y : Int, x < y → y < g 0 6 → V y = W y) (of : Int) : bhV g b (fun y o => (V y o).1) x of = bhV g b (fun y o => (W y o).1) x of := by
  unfold bhV
  split
  · unfold lbF
    rw [fold_caus (to_ok hs) (fun s v => lbS s (v (gon (g 5 x) of)).1) h (0, 0)]
  · unfold mbF
    rw [fold_caus (to_ok hs) (fun s v => s + ((v (gon (g 5 x) of)).1).tdiv (dgF g x)) h 0]
theorem FP_caus {g : am_H} (hs : MVs g) (b : Int) : Caus (g 0 6) (FP g b) := by
  intro V W x _ _ hab
  funext of
  unfold FP
  have h1 := bhV_caus hs b hab
  have h2 : plS g b (fun y o => (V y o).1) x of = plS g b (fun y o => (W y o).1) x of := by
    funext d s
    unfold plS
    rw [h1]
  rw [h2, h1]
theorem plV_eq {g : am_H} (hs : MVs g) (b : Int) {x : Int} (h1 : 0 ≤ x) (h2 : x < g 0 6) (of : Int) : plV g b x of = FP g b (plV g b) x of := by
  have := fix_eq (d := fun _ => (0, 0)) (FP_caus hs b) hs.1.2 h1 h2
  unfold plV
  rw [this]
def plC (b : Int) : Int := if b = 0 then 100 else 42998169600
theorem plC_0 (b : Int) : 0 ≤ plC b := by unfold plC; split <;> omega
theorem bhV_rng {g : am_H} (hs : MVs g) {b x : Int} {V : Int → Int → Int} (hx : 0 ≤ x) (hV : ∀ y o : Int, x < y → y < g 0 6 → -plC b ≤ V y o ∧ V y o ≤ plC b) (of : Int) : -plC b ≤ bhV g b V x of ∧ bhV g b V x of ≤ plC b := by
  have h0 := plC_0 b
  have hk : ∀ k : Int, k ∈ wl (g 7) x (nwN g) → -plC b ≤ V (g 8 k) (gon (g 5 x) of) ∧ V (g 8 k) (gon (g 5 x) of) ≤ plC b := by
    intro k hk
    obtain ⟨a1, a2, a3⟩ := wl_mem.mp hk
    have a4 := to_ok hs k a1 a2
    exact hV _ _ (by omega) a4.2
  unfold bhV
  split
  · exact lbF_2 h0 hk (nwN g) (Nat.le_refl _)
  · exact mbF_rng h0 hk
theorem plfold_rng {g : am_H} {b x of : Int} {V : Int → Int → Int} (hV : ∀ o : Int, -plC b ≤ bhV g b V x o ∧ bhV g b V x o ≤ plC b) : ∀ (l : List Int) (s : Int × Int), -plC b ≤ s.1 ∧ s.1 ≤ plC b → -plC b ≤ (l.foldr (plS g b V x of) s).1 ∧ (l.foldr (plS g b V x of) s).1 ≤ plC b
  | [], s, h => h
  | d :: l, s, h => by
    have ih := plfold_rng (of := of) hV l s h
    simp only [List.foldr_cons]
    generalize l.foldr (plS g b V x of) s = t at ih ⊢
    have h1 := hV (bgw (g 10 d) of d)
    unfold plS
    generalize bhV g b V x (bgw (g 10 d) of d) = v at h1 ⊢
    split
    · dsimp only; split <;> omega
    · exact ih
theorem plV_rng {g : am_H} (hs : MVs g) (b : Int) : ∀ (n : Nat) (x : Int), 0 ≤ x → x < g 0 6 → g 0 6 - x ≤ n → ∀ of : Int, -plC b ≤ (plV g b x of).1 ∧ (plV g b x of).1 ≤ plC b := by
  intro n
  induction n with
  | zero => intro x h1 h2 h3; omega
  | succ n ih =>
    intro x h1 h2 h3 of
    rw [plV_eq hs b h1 h2]
    unfold FP
    have hb := fun o => bhV_rng (b := b) (V := fun y o => (plV g b y o).1) hs h1 (fun y o a c => ih y (by omega) c (by omega) o) o
    split
    · have := gain_rng hs x of
      unfold plC
      dsimp only
      split <;> omega
    · exact plfold_rng hb _ _ (hb of)
/-- the table of b holds at y what it should -/
def plT (g g' : am_H) (b y o : Int) : Prop := (b = 0 → g' 30 (1536 * y + o) = (plV g b y o).1) ∧ (¬ b = 0 → g' 31 (1536 * y + o) = (plV g b y o).1) ∧ g' 32 (1536 * y + o) = (plV g b y o).2
theorem bh_least {g g' : am_H} {x of b : Int} (hb : b = 0) (hs : MVs g) (ha : AgP g g') (hx : 0 ≤ x ∧ x < g 0 6) (hof : VS of) (hT : ∀ y : Int, x < y → y < g 0 6 → ∀ o : Int, VS o → plT g g' b y o) : AMet GM mX8_leastBehind 4 [am_R 0, am_I x, am_I of] g' (am_FI (bhV g b (fun y o => (plV g b y o).1) x of) g') := by
  subst hb
  have hnn := hs.1
  have := c_X8_leastBehind (V := fun y => (plV g 0 y (gon (g 5 x) of)).1) hs ha hx hof (fun y a b => ⟨(hT y a b _ (vs_gon hof)).1 rfl, by
    have h := plV_rng hs 0 9 y (by omega) b (by omega) (gon (g 5 x) of)
    unfold plC at h; rw [if_pos rfl] at h; omega⟩)
  rw [bhV, if_pos rfl]
  exact this
theorem bh_mean {g g' : am_H} {x of b : Int} (hb : ¬ b = 0) (hs : MVs g) (ha : AgP g g') (hx : 0 ≤ x ∧ x < g 0 6) (hof : VS of) (hT : ∀ y : Int, x < y → y < g 0 6 → ∀ o : Int, VS o → plT g g' b y o) : AMet GM mX8_meanBehind 4 [am_R 0, am_I x, am_I of] g' (am_FJ (bhV g b (fun y o => (plV g b y o).1) x of) g') := by
  have hnn := hs.1
  have := c_X8_meanBehind (V := fun y => (plV g b y (gon (g 5 x) of)).1) hs ha hx hof (fun y a c => ⟨(hT y a c _ (vs_gon hof)).2.1 hb, by
    have h := plV_rng hs b 9 y (by omega) c (by omega) (gon (g 5 x) of)
    unfold plC at h; rw [if_neg hb] at h; omega⟩)
  rw [bhV, if_neg hb]
  exact this
