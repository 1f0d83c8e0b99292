theorem plan_first {g : am_H} {b : Int} {V : Int → Int → Int} {x of base : Int} : ∀ (j : Nat) (f : Int) (T : Int × Int), T = (wu (fun _ => 0) 0 j f).foldr (plS g b V x of) (base, -9) → (∀ d : Int, f ≤ d → d < f + j → cbg of d → bhV g b V x (bgw (g 10 d) of d) ≤ T.1) ∧ ((T.2 = -9 ∧ ∀ d : Int, f ≤ d → d < f + j → cbg of d → bhV g b V x (bgw (g 10 d) of d) < T.1) ∨ ((f ≤ T.2 ∧ T.2 < f + j) ∧ (cbg of T.2 ∧ bhV g b V x (bgw (g 10 T.2) of T.2) = T.1) ∧ ∀ d : Int, f ≤ d → d < T.2 → ¬ (cbg of d ∧ bhV g b V x (bgw (g 10 d) of d) = T.1)))
  | 0, f, T, hT => by
    subst hT
    refine ⟨fun d a c => by omega, Or.inl ⟨rfl, fun d a c => by omega⟩⟩
  | j + 1, f, T, hT => by
    have e : wu (fun _ => 0) 0 (j + 1) f = f :: wu (fun _ => 0) 0 j (f + 1) := by rw [wu, if_pos rfl]
    rw [e, List.foldr_cons] at hT
    obtain ⟨i1, i2⟩ := plan_first (g := g) (b := b) (V := V) (x := x) (of := of) (base := base) j (f + 1) _ rfl
    generalize (wu (fun _ => 0) 0 j (f + 1)).foldr (plS g b V x of) (base, -9) = t at i1 i2 hT
    unfold plS at hT
    by_cases hc : cbg of f
    · rw [if_pos hc] at hT
      by_cases hle : t.1 ≤ bhV g b V x (bgw (g 10 f) of f)
      · rw [if_pos hle] at hT
        have e1 : T.1 = bhV g b V x (bgw (g 10 f) of f) := by rw [hT]; dsimp only; split <;> omega
        have e2 : T.2 = f := by rw [hT]
        refine ⟨fun d a c hd => ?_, Or.inr ⟨by omega, by rw [e2]; exact ⟨hc, e1.symm⟩, fun d a c => by omega⟩⟩
        by_cases q : d = f
        · subst q; omega
        · have := i1 d (by omega) (by omega) hd; omega
      · rw [if_neg hle, if_neg (by omega)] at hT
        have e1 : T.1 = t.1 := by rw [hT]
        have e2 : T.2 = t.2 := by rw [hT]
        rw [e1, e2]
        refine ⟨fun d a c hd => ?_, ?_⟩
        · by_cases q : d = f
          · subst q; omega
          · exact i1 d (by omega) (by omega) hd
        · rcases i2 with ⟨k1, k2⟩ | ⟨k1, k2, k3⟩
          · refine Or.inl ⟨k1, fun d a c hd => ?_⟩
            by_cases q : d = f
            · subst q; omega
            · exact k2 d (by omega) (by omega) hd
          · refine Or.inr ⟨by omega, k2, fun d a c => ?_⟩
            by_cases q : d = f
            · subst q; intro z; omega
            · exact k3 d (by omega) c
    · rw [if_neg hc] at hT
      rw [hT]
      refine ⟨fun d a c hd => ?_, ?_⟩
      · by_cases q : d = f
        · subst q; exact absurd hd hc
        · exact i1 d (by omega) (by omega) hd
      · rcases i2 with ⟨k1, k2⟩ | ⟨k1, k2, k3⟩
        · refine Or.inl ⟨k1, fun d a c hd => ?_⟩
          by_cases q : d = f
          · subst q; exact absurd hd hc
          · exact k2 d (by omega) (by omega) hd
        · refine Or.inr ⟨by omega, k2, fun d a c => ?_⟩
          by_cases q : d = f
          · subst q; intro z; exact hc z.1
          · exact k3 d (by omega) c
/-- the first of the best is the reference's plan -/
theorem plan_ch {g : am_H} (hs : MVs g) {b aim : Int} {fs : Int → Int} {Val : Int → Int → Int} {x of v : Int} (hx : 0 ≤ x ∧ x < g 0 6) (hq : chQ g aim fs Val x of v) (hB : ¬ dgF g x = 0 → ∀ d : Int, 0 ≤ d → d < g 0 15 → (pvB g aim fs Val x of d ↔ (cbg of d ∧ bhV g b (fun y o => (plV g b y o).1) x (bgw (g 10 d) of d) = (plV g b x of).1))) : v = (plV g b x of).2 := by
  have hnd := hs.2.2.1
  rcases hq with ⟨hd, hv⟩ | ⟨hd, hq⟩
  · rw [hv, plV_eq hs b hx.1 hx.2, FP, if_pos hd]
  · have hb := hB hd
    have eT : plV g b x of = (wu (fun _ => 0) 0 (g 0 15).toNat 0).foldr (plS g b (fun y o => (plV g b y o).1) x of) (bhV g b (fun y o => (plV g b y o).1) x of, -9) := by
      rw [← wl_wu, plV_eq hs b hx.1 hx.2, FP, if_neg hd]
    obtain ⟨i1, i2⟩ := plan_first (g := g) (b := b) (V := fun y o => (plV g b y o).1) (x := x) (of := of) (base := bhV g b (fun y o => (plV g b y o).1) x of) (g 0 15).toNat 0 _ eT
    generalize plV g b x of = T at i1 i2 hb ⊢
    rcases i2 with ⟨k1, k2⟩ | ⟨k1, k2, k3⟩
    · rcases hq with ⟨q1, q2, q3⟩ | ⟨q1, q2⟩
      · have := (hb v q1.1 q1.2).mp q2
        have := k2 v q1.1 (by omega) this.1
        omega
      · rw [q1, k1]
    · rcases hq with ⟨q1, q2, q3⟩ | ⟨q1, q2⟩
      · have a1 := (hb v q1.1 q1.2).mp q2
        have a2 := (hb T.2 (by omega) (by omega)).mpr k2
        rcases Int.lt_trichotomy v T.2 with c | c | c
        · exact absurd a1 (k3 v q1.1 c)
        · exact c
        · exact absurd a2 (q3 T.2 (by omega) c)
      · exact absurd ((hb T.2 (by omega) (by omega)).mpr k2) (q2 T.2 (by omega) (by omega))
theorem pv0_ch {g : am_H} (hs : MVs g) {fs : Int → Int} {x of v : Int} (hx : 0 ≤ x ∧ x < g 0 6) (hq : chQ g 0 fs (pv0 g) x of v) : v = (plV g 0 x of).2 := by
  refine plan_ch hs hx hq (fun hd d a c => ?_)
  unfold pvB
  rw [pv0_o hs fs hx hd]
