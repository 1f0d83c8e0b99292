theorem plS_ind {g : am_H} {b : Int} {V : Int → Int → Int} {x of : Int} (P : Int → Prop) (hb : ∀ o : Int, VS o → P (bhV g b V x o)) (hs : MVs g) (hof : VS of) : ∀ (L : List Int) (s : Int × Int), P s.1 → (∀ d ∈ L, 0 ≤ d ∧ d < g 0 15) → P (L.foldr (plS g b V x of) s).1
  | [], s, h, _ => h
  | d :: L, s, h, hd => by
    have ih := plS_ind P hb hs hof L s h (fun e he => hd e (List.mem_cons_of_mem _ he))
    simp only [List.foldr_cons]
    generalize L.foldr (plS g b V x of) s = t at ih ⊢
    unfold plS
    have h1 := hd d List.mem_cons_self
    have hnd := hs.2.2.1
    by_cases hc : cbg of d
    · have hv := (hs.2.2.2.2.2.2.2.1 d h1.1 h1.2).1
      have := hb (bgw (g 10 d) of d) (vs_bgw hof hc ⟨h1.1, by omega⟩ hv)
      rw [if_pos hc]
      dsimp only
      split
      · exact this
      · exact ih
    · rw [if_neg hc]; exact ih
theorem dsL_mem {g : am_H} (hs : MVs g) {d : Int} (h : d ∈ dsL (g 0 15).toNat) : 0 ≤ d ∧ d < g 0 15 := by
  have hnd := hs.2.2.1
  obtain ⟨a1, a2, a3⟩ := wl_mem.mp h
  omega
theorem pl_dvd {g : am_H} (hs : MVs g) : ∀ (n : Nat) (x : Int), 0 ≤ x → x < g 0 6 → g 0 6 - x ≤ n → ∀ of : Int, VS of → (12 : Int) ^ x.toNat ∣ (plV g 1 x of).1 := by
  intro n
  induction n with
  | zero => intro x h1 h2 h3; omega
  | succ n ih =>
    intro x h1 h2 h3 of hof
    have hnn := hs.1
    rw [plV_eq hs 1 h1 h2, FP]
    by_cases hd : dgF g x = 0
    · rw [if_pos hd, if_neg (by decide)]
      have := pw_dvd (i := x.toNat) (j := 8) (by omega)
      rw [show (12 : Int) ^ 8 = 429981696 by decide] at this
      exact Int.dvd_trans this (Int.dvd_mul_right _ _)
    · rw [if_neg hd]
      have hb : ∀ o : Int, VS o → (12 : Int) ^ x.toNat ∣ bhV g 1 (fun y o => (plV g 1 y o).1) x o := by
        intro o ho
        rw [bhV, if_neg (by decide)]
        unfold mbF
        refine fold_dvd _ _ ⟨0, by omega⟩ (fun k hk => ?_)
        obtain ⟨a1, a2, a3⟩ := wl_mem.mp hk
        have a4 := to_ok hs k a1 a2
        have a5 := ih (g 8 k) (by omega) a4.2 (by omega) (gon (g 5 x) o) (vs_gon ho)
        have hl := wl_len (g 7) x (nwN g)
        have hp := List.length_pos_of_mem hk
        have hd4 : cntF (g 7) x (nwN g) ≤ 4 := hs.2.2.2.2.2.2.1 x
        have hdd : dgF g x = cntF (g 7) x (nwN g) := rfl
        exact (dv_12 (Int.dvd_trans (pw_dvd (show x.toNat + 1 ≤ (g 8 k).toNat by omega)) a5) (by omega)).1
      exact plS_ind (fun v => (12 : Int) ^ x.toNat ∣ v) hb hs hof _ _ (hb of hof) (fun d hd2 => dsL_mem hs hd2)
noncomputable abbrev pv1 (g : am_H) (x of : Int) : Int := (plV g 1 x of).1 * ltP g x / 429981696
/-- the mean's parts, told by lots -/
theorem mb_sc {g : am_H} (hs : MVs g) {x o : Int} (h1 : 0 ≤ x) (h2 : x < g 0 6) (hd : ¬ dgF g x = 0) (ho : VS o) (Val : Int → Int → Int) (hV : ∀ y : Int, x < y → y < g 0 6 → ∀ q : Int, VS q → Val y q * 429981696 = (plV g 1 y q).1 * ltP g y) : pvM g Val x (gon (g 5 x) o) (wl (g 7) x (nwN g)) * 429981696 = bhV g 1 (fun y o => (plV g 1 y o).1) x o * ltP g x := by
  have hnn := hs.1
  have hd4 : dgF g x ≤ 4 := hs.2.2.2.2.2.2.1 x
  have hd0 : 0 ≤ dgF g x := (cntF_rng _ _ _).1
  have lts := ltP_s (g := g) (x := x) h2
  rw [if_neg hd] at lts
  rw [bhV, if_neg (by decide)]
  unfold mbF pvM
  have h := fold_sc (A := 429981696) (c := ltP g (x + 1)) (d := dgF g x) (f := fun k => Val (g 8 k) (gon (g 5 x) o) * wgt g x (g 8 k)) (e := fun k => ((plV g 1 (g 8 k) (gon (g 5 x) o)).1).tdiv (dgF g x)) (wl (g 7) x (nwN g)) 0 0 (by rw [Int.zero_mul, Int.zero_mul, Int.zero_mul]) (fun k hk => by
    obtain ⟨a1, a2, a3⟩ := wl_mem.mp hk
    have a4 := to_ok hs k a1 a2
    have a5 := pl_dvd hs 9 (g 8 k) (by omega) a4.2 (by omega) (gon (g 5 x) o) (vs_gon ho)
    exact sc_step (wgt_mul (by omega)) (hV (g 8 k) (by omega) a4.2 _ (vs_gon ho)) (dv_12 (Int.dvd_trans (pw_dvd (show x.toNat + 1 ≤ (g 8 k).toNat by omega)) a5) (by omega)).2)
  rw [h, lts, Int.mul_assoc]
theorem pv1_eq {g : am_H} (hs : MVs g) : ∀ (n : Nat) (x : Int), 0 ≤ x → x < g 0 6 → g 0 6 - x ≤ n → ∀ of : Int, VS of → pv1 g x of * 429981696 = (plV g 1 x of).1 * ltP g x := by
  intro n
  induction n with
  | zero => intro x h1 h2 h3; omega
  | succ n ih =>
    intro x h1 h2 h3 of hof
    have hnn := hs.1
    refine Int.ediv_mul_cancel ?_
    rw [plV_eq hs 1 h1 h2, FP]
    by_cases hd : dgF g x = 0
    · rw [if_pos hd, if_neg (by decide)]
      show (429981696 : Int) ∣ 429981696 * gain g x of * ltP g x
      rw [Int.mul_assoc]
      exact Int.dvd_mul_right _ _
    · rw [if_neg hd]
      have hb : ∀ o : Int, VS o → (429981696 : Int) ∣ bhV g 1 (fun y o => (plV g 1 y o).1) x o * ltP g x := by
        intro o ho
        have := mb_sc hs h1 h2 hd ho (pv1 g) (fun y a b q hq => ih y (by omega) b (by omega) q hq)
        rw [← this]
        exact Int.dvd_mul_left _ _
      exact plS_ind (fun v => (429981696 : Int) ∣ v * ltP g x) hb hs hof _ _ (hb of hof) (fun d hd2 => dsL_mem hs hd2)
theorem sc_lt {A L s v S W : Int} (hA : 0 < A) (hL : 0 < L) (h1 : s * A = S * L) (h2 : v * A = W * L) : s < v ↔ S < W := by
  constructor
  · intro h
    have h3 : s * A < v * A := Int.mul_lt_mul_of_pos_right h hA
    rw [h1, h2] at h3
    exact Int.lt_of_mul_lt_mul_right h3 (by omega)
  · intro h
    have h3 : S * L < W * L := Int.mul_lt_mul_of_pos_right h hL
    rw [← h1, ← h2] at h3
    exact Int.lt_of_mul_lt_mul_right h3 (by omega)
theorem sca_eq {A L s v S W : Int} (hA : 0 < A) (hL : 0 < L) (h1 : s * A = S * L) (h2 : v * A = W * L) : s = v ↔ S = W := by
  have a := sc_lt hA hL h1 h2
  have b := sc_lt hA hL h2 h1
  omega
theorem sc_rng {A L s S c : Int} (hA : 0 < A) (hL : 0 < L ∧ L ≤ 262144) (hc : 0 ≤ c) (h1 : s * A = S * L) (h2 : -(c * A) ≤ S ∧ S ≤ c * A) : -(c * 262144) ≤ s ∧ s ≤ c * 262144 := by
  have e : c * A * L = (c * L) * A := by rw [Int.mul_assoc, Int.mul_comm A L, ← Int.mul_assoc]
  have h3 : S * L ≤ c * A * L := Int.mul_le_mul_of_nonneg_right h2.2 (by omega)
  have h4 : -(c * A) * L ≤ S * L := Int.mul_le_mul_of_nonneg_right h2.1 (by omega)
  rw [Int.neg_mul, e] at h4
  rw [e, ← h1] at h3
  rw [← h1, ← Int.neg_mul] at h4
  have h5 := Int.le_of_mul_le_mul_right h3 hA
  have h6 := Int.le_of_mul_le_mul_right h4 hA
  have h7 : c * L ≤ c * 262144 := Int.mul_le_mul_of_nonneg_left hL.2 hc
  omega
theorem pv1_o {g : am_H} (hs : MVs g) (fs : Int → Int) {x of : Int} (hx : 0 ≤ x ∧ x < g 0 6) (hd : ¬ dgF g x = 0) (hof : VS of) : pvO g 1 fs (pv1 g) x of * 429981696 = bhV g 1 (fun y o => (plV g 1 y o).1) x of * ltP g x := by
  have hnn := hs.1
  rw [pvO, if_neg (by decide), if_pos rfl]
  exact mb_sc hs hx.1 hx.2 hd hof (pv1 g) (fun y a b q hq => pv1_eq hs 9 y (by omega) b (by omega) q hq)
theorem pv1_ok {g : am_H} (hs : MVs g) (fs : Int → Int) : pvOK g 1 fs (pvD g) (pv1 g) := by
  have hnn := hs.1
  have hnd := hs.2.2.1
  refine ⟨fun x h => h, fun x of h hof hd => ?_, fun x of h hof hd => ?_, fun x h hd => ⟨fun z => absurd z (by decide), fun _ k hk => ?_⟩, fun x of h hof => ?_, fun x of h hof hd => ?_⟩
  · have e := pv1_eq hs 9 x h.1 h.2 (by have := h.1; omega) of hof
    rw [plV_eq hs 1 h.1 h.2, FP, if_pos hd, if_neg (by decide)] at e
    rw [if_pos rfl]
    have e2 : gain g x of * ltP g x * 429981696 = 429981696 * gain g x of * ltP g x := by rw [Int.mul_comm (gain g x of * ltP g x), Int.mul_assoc]
    have e3 : pv1 g x of * 429981696 = gain g x of * ltP g x * 429981696 := e.trans e2.symm
    exact Int.eq_of_mul_eq_mul_right (by decide) e3
  · have hl := ltP_rng hs h.1
    have e := pv1_eq hs 9 x h.1 h.2 (by have := h.1; omega) of hof
    have eT : plV g 1 x of = (dsL (g 0 15).toNat).foldr (plS g 1 (fun y o => (plV g 1 y o).1) x of) (bhV g 1 (fun y o => (plV g 1 y o).1) x of, -9) := by rw [plV_eq hs 1 h.1 h.2, FP, if_neg hd]
    rw [foldl_foldr (pvS_rc g 1 fs (pv1 g) x of)]
    have : ∀ (L : List Int) (s : Int × Int) (t : Int), t * 429981696 = s.1 * ltP g x → (∀ d ∈ L, 0 ≤ d ∧ d < g 0 15) → (L.foldr (fun a s => pvS g 1 fs (pv1 g) x of s a) t) * 429981696 = (L.foldr (plS g 1 (fun y o => (plV g 1 y o).1) x of) s).1 * ltP g x := by
      intro L
      induction L with
      | nil => intro s t ht _; exact ht
      | cons d L ih =>
        intro s t ht hd2
        have h3 := ih s t ht (fun e he => hd2 e (List.mem_cons_of_mem _ he))
        have h1 := hd2 d List.mem_cons_self
        simp only [List.foldr_cons]
        generalize L.foldr (plS g 1 (fun y o => (plV g 1 y o).1) x of) s = S at h3 ⊢
        generalize L.foldr (fun a s => pvS g 1 fs (pv1 g) x of s a) t = u at h3 ⊢
        unfold plS pvS
        by_cases hc : cbg of d
        · have hv := (hs.2.2.2.2.2.2.2.1 d h1.1 h1.2).1
          have ho := pv1_o hs fs h hd (vs_bgw hof hc ⟨h1.1, by omega⟩ hv)
          rw [if_pos hc, if_pos hc]
          dsimp only
          have q := sc_lt (by decide) hl.1 h3 ho
          by_cases c : u < pvO g 1 fs (pv1 g) x (bgw (g 10 d) of d)
          · rw [if_pos c, if_pos (q.mp c)]; exact ho
          · rw [if_neg c, if_neg (fun z => c (q.mpr z))]; exact h3
        · rw [if_neg hc, if_neg hc]; exact h3
    have h4 := this (dsL (g 0 15).toNat) (bhV g 1 (fun y o => (plV g 1 y o).1) x of, -9) (pvO g 1 fs (pv1 g) x of) (pv1_o hs fs h hd hof) (fun d hd2 => dsL_mem hs hd2)
    rw [← eT, ← e] at h4
    exact (Int.eq_of_mul_eq_mul_right (by decide) h4).symm
  · obtain ⟨a1, a2, a3⟩ := wl_mem.mp hk
    have a4 := to_ok hs k a1 a2
    have h0 := h.1
    exact ⟨by omega, a4.2⟩
  · have e := pv1_eq hs 9 x h.1 h.2 (by have := h.1; omega) of hof
    have r := plV_rng hs 1 9 x h.1 h.2 (by have := h.1; omega) of
    unfold plC at r
    rw [if_neg (by decide)] at r
    have := sc_rng (c := 100) (by decide) (ltP_rng hs h.1) (by decide) e (by omega)
    show -100000000 ≤ pv1 g x of ∧ pv1 g x of ≤ 100000000
    omega
  · have e := pv1_o hs fs h hd hof
    have r := bhV_rng (b := 1) (V := fun y o => (plV g 1 y o).1) hs h.1 (fun y o a c => plV_rng hs 1 9 y (by have := h.1; omega) c (by have := h.1; omega) o) of
    unfold plC at r
    rw [if_neg (by decide)] at r
    have := sc_rng (c := 100) (by decide) (ltP_rng hs h.1) (by decide) e (by omega)
    omega
theorem pv1_ch {g : am_H} (hs : MVs g) {fs : Int → Int} {x of v : Int} (hx : 0 ≤ x ∧ x < g 0 6) (hof : VS of) (hq : chQ g 1 fs (pv1 g) x of v) : v = (plV g 1 x of).2 := by
  have hnn := hs.1
  have hnd := hs.2.2.1
  refine plan_ch hs hx hq (fun hd d a c => ?_)
  unfold pvB
  have e := pv1_eq hs 9 x hx.1 hx.2 (by omega) of hof
  constructor
  · rintro ⟨hc, z⟩
    have hv := (hs.2.2.2.2.2.2.2.1 d a c).1
    exact ⟨hc, (sca_eq (by decide) (ltP_rng hs hx.1).1 (pv1_o hs fs hx hd (vs_bgw hof hc ⟨a, by omega⟩ hv)) e).mp z⟩
  · rintro ⟨hc, z⟩
    have hv := (hs.2.2.2.2.2.2.2.1 d a c).1
    exact ⟨hc, (sca_eq (by decide) (ltP_rng hs hx.1).1 (pv1_o hs fs hx hd (vs_bgw hof hc ⟨a, by omega⟩ hv)) e).mpr z⟩
