theorem foldl_rc {f : Int → Int → Int} (hf : ∀ s a b : Int, f (f s a) b = f (f s b) a) : ∀ (L : List Int) (s a : Int), L.foldl f (f s a) = f (L.foldl f s) a
  | [], s, a => rfl
  | b :: L, s, a => by
    simp only [List.foldl_cons]
    rw [hf s a b, foldl_rc hf L (f s b) a]
theorem foldl_foldr {f : Int → Int → Int} (hf : ∀ s a b : Int, f (f s a) b = f (f s b) a) : ∀ (L : List Int) (s : Int), L.foldl f s = L.foldr (fun a s => f s a) s
  | [], s => rfl
  | a :: L, s => by
    simp only [List.foldl_cons, List.foldr_cons]
    rw [foldl_rc hf L s a, foldl_foldr hf L s]
theorem pvS_rc (g : am_H) (aim : Int) (fs : Int → Int) (Val : Int → Int → Int) (x of : Int) (s a b : Int) : pvS g aim fs Val x of (pvS g aim fs Val x of s a) b = pvS g aim fs Val x of (pvS g aim fs Val x of s b) a := by
  unfold pvS
  generalize pvO g aim fs Val x (bgw (g 10 a) of a) = u
  generalize pvO g aim fs Val x (bgw (g 10 b) of b) = v
  by_cases ca : cbg of a
  · by_cases cb : cbg of b
    · simp only [if_pos ca, if_pos cb]
      repeat' split
      all_goals omega
    · simp only [if_pos ca, if_neg cb]
  · by_cases cb : cbg of b
    · simp only [if_neg ca, if_pos cb]
    · simp only [if_neg ca, if_neg cb]
/-- the least, from nothing and from a number above all of them -/
theorem lb_pv {V : Int → Int} {to : Int → Int} : ∀ (L : List Int) (s : Int × Int) (p : Int), ((s.1 = 0 ∧ p = 1000000) ∨ (s.1 = 1 ∧ s.2 = p)) → (∀ k ∈ L, V (to k) < 1000000) → ((L.foldl (fun s k => lbS s (V (to k))) s).1 = 0 ∧ L.foldl (fun s k => if V (to k) < s then V (to k) else s) p = 1000000 ∧ L = []) ∨ ((L.foldl (fun s k => lbS s (V (to k))) s).2 = L.foldl (fun s k => if V (to k) < s then V (to k) else s) p) ∨ (L = [])
  | [], s, p, h, _ => Or.inr (Or.inr rfl)
  | k :: L, s, p, h, hk => by
    have h1 := hk k List.mem_cons_self
    simp only [List.foldl_cons]
    have h2 : (lbS s (V (to k))).1 = 1 ∧ (lbS s (V (to k))).2 = (if V (to k) < p then V (to k) else p) := by
      unfold lbS
      refine ⟨rfl, ?_⟩
      dsimp only
      rcases h with ⟨a, b⟩ | ⟨a, b⟩
      · rw [if_pos (Or.inl a), if_pos (by omega)]
      · by_cases e : V (to k) < p
        · rw [if_pos (by omega), if_pos e]
        · rw [if_neg (by omega), if_neg e, b]
    refine Or.inr (Or.inl ?_)
    have ih := lb_pv L (lbS s (V (to k))) (if V (to k) < p then V (to k) else p) (Or.inr h2) (fun j hj => hk j (List.mem_cons_of_mem _ hj))
    rcases ih with ⟨a, b, c⟩ | c | c
    · subst c; exact h2.2
    · exact c
    · subst c; exact h2.2
noncomputable abbrev pv0 (g : am_H) (x of : Int) : Int := (plV g 0 x of).1
abbrev pvD (g : am_H) (x : Int) : Prop := 0 ≤ x ∧ x < g 0 6
theorem pv0_o {g : am_H} (hs : MVs g) (fs : Int → Int) {x of : Int} (hx : 0 ≤ x ∧ x < g 0 6) (hdg : ¬ dgF g x = 0) : pvO g 0 fs (pv0 g) x of = bhV g 0 (fun y o => (plV g 0 y o).1) x of := by
  have hnn := hs.1
  rw [pvO, if_neg (by decide), if_neg (by decide), bhV, if_pos rfl]
  unfold pvL lbF
  have h := lb_pv (V := fun y => (plV g 0 y (gon (g 5 x) of)).1) (to := g 8) (wl (g 7) x (nwN g)) (0, 0) 1000000 (Or.inl ⟨rfl, rfl⟩) (fun k hk => by
    obtain ⟨a1, a2, a3⟩ := wl_mem.mp hk
    have a4 := to_ok hs k a1 a2
    have := plV_rng hs 0 9 (g 8 k) (by omega) a4.2 (by omega) (gon (g 5 x) of)
    unfold plC at this
    rw [if_pos rfl] at this
    omega)
  rcases h with ⟨_, _, c⟩ | c | c
  · exact absurd (wl_nil.mp c) hdg
  · exact c.symm
  · exact absurd (wl_nil.mp c) hdg
theorem pv0_ok {g : am_H} (hs : MVs g) (fs : Int → Int) : pvOK g 0 fs (pvD g) (pv0 g) := by
  have hnn := hs.1
  refine ⟨fun x h => h, fun x of h _ hd => ?_, fun x of h hof hd => ?_, fun x h hd => ⟨fun z => absurd z (by decide), fun _ k hk => ?_⟩, fun x of h _ => ?_, fun x of h _ hd => ?_⟩
  · show (plV g 0 x of).1 = _
    rw [plV_eq hs 0 h.1 h.2, FP, if_pos hd]
    show (if (0 : Int) = 0 then gain g x of else 429981696 * gain g x of) = _
    rw [if_pos rfl, if_neg (by decide), Int.mul_one]
  · rw [foldl_foldr (pvS_rc g 0 fs (pv0 g) x of)]
    show (plV g 0 x of).1 = _
    rw [plV_eq hs 0 h.1 h.2, FP, if_neg hd]
    have : ∀ (L : List Int) (s : Int × Int), (L.foldr (plS g 0 (fun y o => (plV g 0 y o).1) x of) s).1 = L.foldr (fun a s => pvS g 0 fs (pv0 g) x of s a) s.1 := by
      intro L
      induction L with
      | nil => intro s; rfl
      | cons d L ih =>
        intro s
        simp only [List.foldr_cons]
        rw [← ih s]
        generalize L.foldr (plS g 0 (fun y o => (plV g 0 y o).1) x of) s = t
        unfold plS pvS
        rw [pv0_o hs fs h hd]
        split
        · rfl
        · rfl
    rw [this, pv0_o hs fs h hd]
  · obtain ⟨a1, a2, a3⟩ := wl_mem.mp hk
    have a4 := to_ok hs k a1 a2
    have h0 := h.1
    exact ⟨by omega, a4.2⟩
  · have := plV_rng hs 0 9 x h.1 h.2 (by have := h.1; omega) of
    unfold plC at this
    rw [if_pos rfl] at this
    show -100000000 ≤ (plV g 0 x of).1 ∧ (plV g 0 x of).1 ≤ 100000000
    omega
  · rw [pv0_o hs fs h hd]
    have := bhV_rng (b := 0) (V := fun y o => (plV g 0 y o).1) hs h.1 (fun y o a c => plV_rng hs 0 9 y (by have := h.1; omega) c (by have := h.1; omega) o) of
    unfold plC at this
    rw [if_pos rfl] at this
    omega
