/-! the class's heap by the reference's -/
def MOK (g : am_H) : Prop := MVr g ∧ MVt g ∧ MVs g ∧ MVy g ∧ MVd g ∧ MVk g ∧ MVq g
theorem MOK.r {g : am_H} (h : MOK g) : MVr g := h.1
theorem MOK.t {g : am_H} (h : MOK g) : MVt g := h.2.1
theorem MOK.s {g : am_H} (h : MOK g) : MVs g := h.2.2.1
theorem MOK.y {g : am_H} (h : MOK g) : MVy g := h.2.2.2.1
theorem MOK.d {g : am_H} (h : MOK g) : MVd g := h.2.2.2.2.1
theorem MOK.k {g : am_H} (h : MOK g) : MVk g := h.2.2.2.2.2.1
theorem MOK.q {g : am_H} (h : MOK g) : MVq g := h.2.2.2.2.2.2
theorem MOK.z {g : am_H} (h : MOK g) : MVz g := ⟨h.r, h.t, h.k, h.s⟩
def SpE (g' g : am_H) : Prop := (∀ c : Int, 5 ≤ c → c ≤ 13 → g' c = g c) ∧ g' 0 6 = g 0 6 ∧ g' 0 10 = g 0 10 ∧ g' 0 15 = g 0 15
theorem SpE.rfl {g : am_H} : SpE g g := ⟨fun _ _ _ => by rfl, by rfl, by rfl, by rfl⟩
noncomputable def spN (g : am_H) : am_H := fun c => if c = 0 then (fun k => if k = 6 then g 0 6 else if k = 10 then g 0 10 else if k = 15 then g 0 15 else 0) else if 5 ≤ c ∧ c ≤ 13 then g c else fun _ => 0
theorem SpE.n {g g' : am_H} (h : SpE g' g) : spN g' = spN g := by
  funext c
  unfold spN
  rw [h.2.1, h.2.2.1, h.2.2.2]
  split
  · rfl
  · split
    · rename_i a b; exact h.1 c b.1 b.2
    · rfl
def CRr (h g : am_H) : Prop := (∀ r i : Int, 0 ≤ r → r ≤ 5 → 0 ≤ i → i < 40 → h (2 + r) i = g 2 (40 * r + i)) ∧ ∀ r : Int, 0 ≤ r → r ≤ 5 → h 8 r = g 1 r
def CRt (h g : am_H) : Prop := (∀ r i : Int, 0 ≤ r → r ≤ 3 → 0 ≤ i → i < 80 → h (10 + r) i = g 4 (80 * r + i)) ∧ ∀ r : Int, 0 ≤ r → r ≤ 3 → h 14 r = g 3 r
def CSp (h g : am_H) : Prop := SpR h g ∧ (¬ g 0 6 = 0 → OlR h g)
def CYr (h g : am_H) : Prop := YrR h 68 69 70 (g 0 18) (g 0 19) (g 14) (g 15)
def CKp (h g : am_H) : Prop := ∀ k : Int, 0 ≤ k → k ≤ 2 → (g 24 k = 0 → h (72 + k) 2 = -1) ∧ (g 24 k = 1 → YrR h (72 + k) (75 + 2 * k) (76 + 2 * k) (g 25 (18 * k + 16)) (g 25 (18 * k + 17)) (fun i => g 25 (18 * k + i)) (fun i => g 25 (18 * k + 8 + i)))
def CFi (h g : am_H) : Prop := (h 0 13 = g 0 20 ∧ h 0 14 = g 0 21 ∧ h 0 15 = g 0 22 ∧ h 0 16 = g 0 23) ∧ ∀ f : Int, 1 ≤ f → f ≤ 5 → h 81 f = g 16 f
def PmA (g : am_H) (Val : Int → Int → Int) (h : am_H) : Prop := ∀ x of : Int, pvD g x → VS of → h 61 (x * 621 + ix (cv of)) = -1000000 ∨ h 61 (x * 621 + ix (cv of)) = Val x of
def CPl (h g : am_H) : Prop := (-1 ≤ h 60 4 ∧ h 60 4 ≤ 2) ∧ (h 60 4 = 0 → PmA g (pv0 g) h) ∧ (h 60 4 = 1 → PmA g (pv1 g) h)
def CRel (h g : am_H) : Prop := CRr h g ∧ CRt h g ∧ CSp h g ∧ CYr h g ∧ CKp h g ∧ CFi h g ∧ CPl h g
theorem CRel.r {h g : am_H} (c : CRel h g) : CRr h g := c.1
theorem CRel.t {h g : am_H} (c : CRel h g) : CRt h g := c.2.1
theorem CRel.s {h g : am_H} (c : CRel h g) : CSp h g := c.2.2.1
theorem CRel.y {h g : am_H} (c : CRel h g) : CYr h g := c.2.2.2.1
theorem CRel.k {h g : am_H} (c : CRel h g) : CKp h g := c.2.2.2.2.1
theorem CRel.f {h g : am_H} (c : CRel h g) : CFi h g := c.2.2.2.2.2.1
theorem CRel.p {h g : am_H} (c : CRel h g) : CPl h g := c.2.2.2.2.2.2
theorem CRr.cong {h h' g g' : am_H} (c : CRr h g) (hh : ∀ c : Int, 2 ≤ c → c ≤ 8 → h' c = h c) (e1 : g' 2 = g 2) (e2 : g' 1 = g 1) : CRr h' g' := by
  refine ⟨fun r i a1 a2 a3 a4 => ?_, fun r a1 a2 => ?_⟩
  · rw [hh (2 + r) (by omega) (by omega), e1]; exact c.1 r i a1 a2 a3 a4
  · rw [hh 8 (by decide) (by decide), e2]; exact c.2 r a1 a2
theorem CRt.cong {h h' g g' : am_H} (c : CRt h g) (hh : ∀ c : Int, 10 ≤ c → c ≤ 14 → h' c = h c) (e1 : g' 4 = g 4) (e2 : g' 3 = g 3) : CRt h' g' := by
  refine ⟨fun r i a1 a2 a3 a4 => ?_, fun r a1 a2 => ?_⟩
  · rw [hh (10 + r) (by omega) (by omega), e1]; exact c.1 r i a1 a2 a3 a4
  · rw [hh 14 (by decide) (by decide), e2]; exact c.2 r a1 a2
theorem SpR.n {h g : am_H} : SpR h (spN g) = SpR h g := rfl
theorem lpN_n {g : am_H} : ∀ j : Nat, lpN (spN g) j = lpN g j
  | 0 => rfl
  | j + 1 => by
    have ih := lpN_n (g := g) j
    have e : lpN (spN g) (j + 1) = if dgF g (g 0 6 - (j + 1 : Nat)) = 0 then lpN (spN g) j else lpN (spN g) j * dgF g (g 0 6 - (j + 1 : Nat)) := rfl
    rw [e, ih]; rfl
theorem ltP_n {g : am_H} : ltP (spN g) = ltP g := by
  funext x
  exact lpN_n _
theorem OlR.n {h g : am_H} : OlR h (spN g) = OlR h g := by
  unfold OlR OlX; rw [ltP_n]; rfl
theorem SpR.eg {h g g' : am_H} (c : SpR h g) (e : SpE g' g) : SpR h g' := by
  rw [← SpR.n, e.n, SpR.n]; exact c
theorem OlR.eg {h g g' : am_H} (c : OlR h g) (e : SpE g' g) : OlR h g' := by
  rw [← OlR.n, e.n, OlR.n]; exact c
theorem OlR.eh {h h' g : am_H} (c : OlR h g) (hs : MVs g) (hh : ∀ c : Int, 42 ≤ c → c ≤ 58 → h' c = h c) : OlR h' g := by
  refine ⟨fun y a b => ?_, fun y a b => ?_⟩
  · have q := c.1 y a b
    unfold OlX at q ⊢
    have hn := hs.1
    rw [hh 42 (by decide) (by decide), hh 43 (by decide) (by decide), hh 44 (by decide) (by decide), hh 45 (by decide) (by decide), hh 46 (by decide) (by decide), hh 47 (by decide) (by decide), hh 58 (by decide) (by decide), hh (49 + y) (by omega) (by omega)]
    exact q
  · rw [hh 58 (by decide) (by decide)]; exact c.2 y a b
theorem pv0_n {g : am_H} : pv0 (spN g) = pv0 g := rfl
theorem pv1_n {g : am_H} : pv1 (spN g) = pv1 g := by
  have e : pv1 (spN g) = fun x of => (plV g 1 x of).1 * ltP (spN g) x / 429981696 := rfl
  rw [e, ltP_n]
theorem pv0_e {g g' : am_H} (e : SpE g' g) : pv0 g' = pv0 g := by
  rw [← pv0_n, e.n, pv0_n]
theorem pv1_e {g g' : am_H} (e : SpE g' g) : pv1 g' = pv1 g := by
  rw [← pv1_n, e.n, pv1_n]
theorem CSp.cong {h h' g g' : am_H} (c : CSp h g) (hs : MVs g) (h1 : ∀ c : Int, 15 ≤ c → c ≤ 26 → h' c = h c) (h2 : ∀ c : Int, 42 ≤ c → c ≤ 58 → h' c = h c) (e : SpE g' g) : CSp h' g' := by
  refine ⟨(c.1.of h1).eg e, fun hn => ?_⟩
  exact ((c.2 (by rw [← e.2.1]; exact hn)).eh hs h2).eg e
theorem CYr.cong {h h' g g' : am_H} (c : CYr h g) (h1 : ∀ c : Int, 68 ≤ c → c ≤ 70 → h' c = h c) (e1 : g' 0 18 = g 0 18) (e2 : g' 0 19 = g 0 19) (e3 : g' 14 = g 14) (e4 : g' 15 = g 15) : CYr h' g' := by
  unfold CYr YrR
  rw [h1 68 (by decide) (by decide), h1 69 (by decide) (by decide), h1 70 (by decide) (by decide), e1, e2, e3, e4]
  exact c
theorem CKp.cong {h h' g g' : am_H} (c : CKp h g) (h1 : ∀ c : Int, 72 ≤ c → c ≤ 80 → h' c = h c) (e1 : g' 24 = g 24) (e2 : g' 25 = g 25) : CKp h' g' := by
  intro k a b
  unfold YrR
  rw [h1 (72 + k) (by omega) (by omega), h1 (75 + 2 * k) (by omega) (by omega), h1 (76 + 2 * k) (by omega) (by omega), e1, e2]
  exact c k a b
theorem CFi.cong {h h' g g' : am_H} (c : CFi h g) (h0 : ∀ k : Int, 13 ≤ k → k ≤ 16 → h' 0 k = h 0 k) (h1 : h' 81 = h 81) (e1 : ∀ k : Int, 20 ≤ k → k ≤ 23 → g' 0 k = g 0 k) (e2 : g' 16 = g 16) : CFi h' g' := by
  unfold CFi
  rw [h0 13 (by decide) (by decide), h0 14 (by decide) (by decide), h0 15 (by decide) (by decide), h0 16 (by decide) (by decide), h1, e1 20 (by decide) (by decide), e1 21 (by decide) (by decide), e1 22 (by decide) (by decide), e1 23 (by decide) (by decide), e2]
  exact c
theorem PmA.cong {h h' g g' : am_H} {V : Int → Int → Int} (c : PmA g V h) (h1 : h' 61 = h 61) (e : SpE g' g) : PmA g' V h' := by
  intro x of a b
  rw [h1]
  exact c x of ⟨a.1, by rw [← e.2.1]; exact a.2⟩ b
theorem CPl.cong {h h' g g' : am_H} (c : CPl h g) (h0 : h' 60 4 = h 60 4) (h1 : h' 61 = h 61) (e : SpE g' g) : CPl h' g' := by
  unfold CPl
  rw [h0, pv0_e e, pv1_e e]
  exact ⟨c.1, fun q => (c.2.1 q).cong h1 e, fun q => (c.2.2 q).cong h1 e⟩
