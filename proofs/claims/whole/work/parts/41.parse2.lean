theorem PV.nodeA {sz kind m : Int} {q : am_H} (h : PV sz q) (h1 : q 0 1 < 9) (h2 : q 0 2 = 0) (h3 : q 0 3 = 0) (hk : 0 ≤ kind ∧ kind ≤ 5) (hm : 0 ≤ m ∧ m ≤ 5) : PV sz (pNodeA kind m q) ∧ pNodeA kind m q 0 0 = q 0 0 := by
  obtain ⟨v0, v1, v2, v3, v4, v5, v6, v7, v8, v9⟩ := h
  have e0 : pNodeA kind m q 0 0 = q 0 0 := by simp [pNodeA, am_set_if]
  have e1 : pNodeA kind m q 0 1 = q 0 1 + 1 := by simp [pNodeA, am_set_if]
  have e2 : pNodeA kind m q 0 2 = q 0 2 := by simp [pNodeA, am_set_if]
  have e3 : pNodeA kind m q 0 3 = q 0 3 := by simp [pNodeA, am_set_if]
  have k1 : ∀ x, pNodeA kind m q 1 x = if x = q 0 1 then kind else q 1 x := by intro x; simp [pNodeA, am_set_if]
  have k2 : ∀ x, pNodeA kind m q 2 x = if x = q 0 1 then m else q 2 x := by intro x; simp [pNodeA, am_set_if]
  have k3 : pNodeA kind m q 3 = q 3 := by funext x; simp [pNodeA, am_set_if]
  refine ⟨?_, e0⟩
  unfold PV
  rw [e0, e1, e2, e3, k3]
  refine ⟨v0, by omega, v2, v3, ?_, ?_, ?_, v7, ?_, by omega⟩
  · intro x hx1 hx2
    rw [k1, k2]
    split
    · exact ⟨hk, hm⟩
    · exact v4 x hx1 (by omega)
  · intro k hk1 hk2; omega
  · intro k j a b c; omega
  · intro d a b; omega
theorem PV.wordA {sz fr to so : Int} {q : am_H} (h : PV sz q) (h0 : q 0 0 < sz) (h2 : q 0 2 < 14) (h3 : q 0 3 = 0) (hf : 0 ≤ fr ∧ fr < to ∧ to < q 0 1) (hs : 0 ≤ so ∧ so ≤ 9) (hfin : ¬ fin (q 1 fr)) (hc : ¬ cntF (q 3) fr (q 0 2).toNat = 4) (hso : ¬ pHas q fr so) : PV sz (pWordA fr to so q) ∧ pWordA fr to so q 0 0 = q 0 0 + 1 := by
  obtain ⟨v0, v1, v2, v3, v4, v5, v6, v7, v8, v9⟩ := h
  have e0 : pWordA fr to so q 0 0 = q 0 0 + 1 := by simp [pWordA, pUp, am_set_if]
  have e1 : pWordA fr to so q 0 1 = q 0 1 := by simp [pWordA, pUp, am_set_if]
  have e2 : pWordA fr to so q 0 2 = q 0 2 + 1 := by simp [pWordA, pUp, am_set_if]
  have e3 : pWordA fr to so q 0 3 = q 0 3 := by simp [pWordA, pUp, am_set_if]
  have k1 : pWordA fr to so q 1 = q 1 := by funext x; simp [pWordA, pUp, am_set_if]
  have k2 : pWordA fr to so q 2 = q 2 := by funext x; simp [pWordA, pUp, am_set_if]
  have k3 : ∀ x, pWordA fr to so q 3 x = if x = q 0 2 then fr else q 3 x := by intro x; simp [pWordA, pUp, am_set_if]
  have k4 : ∀ x, pWordA fr to so q 4 x = if x = q 0 2 then to else q 4 x := by intro x; simp [pWordA, pUp, am_set_if]
  have k5 : ∀ x, pWordA fr to so q 5 x = if x = q 0 2 then so else q 5 x := by intro x; simp [pWordA, pUp, am_set_if]
  refine ⟨?_, e0⟩
  unfold PV
  rw [e0, e1, e2, e3, k1, k2]
  refine ⟨by omega, v1, by omega, v3, v4, ?_, ?_, ?_, ?_, by omega⟩
  · intro k hk1 hk2
    rw [k3, k4, k5]
    by_cases e : k = q 0 2
    · rw [if_pos e, if_pos e, if_pos e]
      exact ⟨by omega, hs, hfin⟩
    · rw [if_neg e, if_neg e, if_neg e]
      exact v5 k hk1 (by omega)
  · intro k j a b c
    have hkn : ¬ k = q 0 2 := by omega
    rw [k3, k3, k5, k5]
    simp only [if_neg hkn]
    by_cases e : j = q 0 2
    · simp only [if_pos e]
      intro e1 e2
      exact hso ⟨k, a, by omega, e1, e2⟩
    · simp only [if_neg e]
      exact v6 k j a b (by omega)
  · intro x
    have en : (q 0 2 + 1).toNat = (q 0 2).toNat + 1 := by omega
    rw [en]
    simp only [cntF]
    have ec : cntF (pWordA fr to so q 3) x (q 0 2).toNat = cntF (q 3) x (q 0 2).toNat := cntF_congr (fun k a b => by rw [k3, if_neg (by omega)])
    have en2 : ((q 0 2).toNat : Int) = q 0 2 := by omega
    rw [ec, k3, en2, if_pos rfl]
    have := v7 x
    split
    · rename_i e; rw [← e] at this ⊢; omega
    · omega
  · intro d a b; omega
theorem PV.deedA {sz y c a w : Int} {q : am_H} (h : PV sz q) (h1 : 1 < q 0 1) (h3 : q 0 3 < 4) (hy : 1 ≤ y ∧ y ≤ 5) (hc : 0 ≤ c ∧ c ≤ 9) (ha : 0 ≤ a ∧ a ≤ 5) (hw : 0 ≤ w ∧ w ≤ 9) : PV sz (pDeedA y c a w q) ∧ pDeedA y c a w q 0 0 = q 0 0 := by
  obtain ⟨v0, v1, v2, v3, v4, v5, v6, v7, v8, v9⟩ := h
  have e0 : pDeedA y c a w q 0 0 = q 0 0 := by simp [pDeedA, am_set_if]
  have e1 : pDeedA y c a w q 0 1 = q 0 1 := by simp [pDeedA, am_set_if]
  have e2 : pDeedA y c a w q 0 2 = q 0 2 := by simp [pDeedA, am_set_if]
  have e3 : pDeedA y c a w q 0 3 = q 0 3 + 1 := by simp [pDeedA, am_set_if]
  have k1 : pDeedA y c a w q 1 = q 1 := by funext x; simp [pDeedA, am_set_if]
  have k2 : pDeedA y c a w q 2 = q 2 := by funext x; simp [pDeedA, am_set_if]
  have k3 : pDeedA y c a w q 3 = q 3 := by funext x; simp [pDeedA, am_set_if]
  have k4 : pDeedA y c a w q 4 = q 4 := by funext x; simp [pDeedA, am_set_if]
  have k5 : pDeedA y c a w q 5 = q 5 := by funext x; simp [pDeedA, am_set_if]
  have k6 : ∀ x, pDeedA y c a w q 6 x = if x = q 0 3 then y else q 6 x := by intro x; simp [pDeedA, am_set_if]
  have k7 : ∀ x, pDeedA y c a w q 7 x = if x = q 0 3 then c else q 7 x := by intro x; simp [pDeedA, am_set_if]
  have k8 : ∀ x, pDeedA y c a w q 8 x = if x = q 0 3 then a else q 8 x := by intro x; simp [pDeedA, am_set_if]
  have k9 : ∀ x, pDeedA y c a w q 9 x = if x = q 0 3 then w else q 9 x := by intro x; simp [pDeedA, am_set_if]
  refine ⟨?_, e0⟩
  unfold PV
  rw [e0, e1, e2, e3, k1, k2, k3, k4, k5]
  refine ⟨v0, v1, v2, by omega, v4, v5, v6, v7, ?_, by omega⟩
  intro d a b
  rw [k6, k7, k8, k9]
  by_cases e : d = q 0 3
  · rw [if_pos e, if_pos e, if_pos e, if_pos e]
    exact ⟨hy, hc, ha, hw⟩
  · rw [if_neg e, if_neg e, if_neg e, if_neg e]
    exact v8 d a (by omega)
/-- a step: it keeps what holds, goes on if it is good -/
def pOK (sz : Int) (q : am_H) (r : Bool × am_H) : Prop := PV sz r.2 ∧ q 0 0 ≤ r.2 0 0 ∧ (r.1 = true → q 0 0 < r.2 0 0)
theorem PV.up {sz : Int} {q : am_H} (h : PV sz q) (h0 : q 0 0 < sz) : PV sz (pUp q) := h.pl (pPl.up q) (by rw [pUp_0]; have := h.1; omega)
theorem PV.fig {f : Int → Int} {sz lo hi : Int} {q : am_H} (h : PV sz q) : PV sz (pFig f sz lo hi q).2 := by
  have h0 := pFig_0 (f := f) (sz := sz) (lo := lo) (hi := hi) (q := q) ⟨h.1.1, h.1.2.1⟩
  exact h.pl (pFig_pl f sz lo hi q) ⟨h0.1, h0.2.1⟩
theorem PV.node {f : Int → Int} {sz kind : Int} {q : am_H} (h : PV sz q) (h0 : q 0 0 < sz) (h2 : q 0 2 = 0) (h3 : q 0 3 = 0) (hk : 0 ≤ kind ∧ kind ≤ 5) : pOK sz q (pNode f sz kind q) := by
  unfold pNode
  split
  · exact ⟨h, Int.le_refl _, fun e => by cases e⟩
  · rename_i h9
    have hu := h.up h0
    have hM : PV sz (pNodeM f sz kind q).2 ∧ q 0 0 < (pNodeM f sz kind q).2 0 0 ∧ pPl (pNodeM f sz kind q).2 q ∧ (pNodeM f sz kind q).1 ≤ 5 := by
      unfold pNodeM
      split
      · have h5 := pFig_0 (f := f) (sz := sz) (lo := 0) (hi := 5) (q := pUp q) ⟨hu.1.1, hu.1.2.1⟩
        rw [pUp_0] at h5
        refine ⟨hu.fig, by omega, (pFig_pl _ _ _ _ _).tr (pPl.up q), ?_⟩
        unfold pFig; split
        · dsimp only; omega
        · dsimp only; omega
      · exact ⟨hu, by dsimp only; rw [pUp_0]; omega, pPl.up q, by dsimp only; omega⟩
    obtain ⟨m1, m2, m3, m4⟩ := hM
    split
    · exact ⟨m1, by dsimp only; omega, fun e => by cases e⟩
    · rename_i hm
      have e1 := m3.1 1 (by decide)
      have e2 := m3.1 2 (by decide)
      have e3 := m3.1 3 (by decide)
      have hA := m1.nodeA (kind := kind) (m := (pNodeM f sz kind q).1) (by have := h.2.1; omega) (by omega) (by omega) hk ⟨by omega, m4⟩
      exact ⟨hA.1, by dsimp only; rw [hA.2]; omega, fun _ => by dsimp only; rw [hA.2]; omega⟩
theorem PV.word {f : Int → Int} {sz : Int} {q : am_H} (h : PV sz q) (h0 : q 0 0 < sz) (h3 : q 0 3 = 0) : pOK sz q (pWord f sz q) := by
  unfold pWord
  split
  · exact ⟨h, Int.le_refl _, fun e => by cases e⟩
  · rename_i h14
    have hu := h.up h0
    have eu := pUp_0 q
    have u1 := pUp_j q (j := 1) (by decide)
    have u2 := pUp_j q (j := 2) (by decide)
    have u3 := pUp_j q (j := 3) (by decide)
    unfold pWord2
    split
    · exact ⟨hu, by dsimp only; omega, fun e => by cases e⟩
    · rename_i hb
      have hlt : pUp q 0 0 < sz := by
        have : ¬ sz ≤ pUp q 0 0 := fun z => hb (Or.inl z)
        omega
      have hfr : 0 ≤ f (pUp q 0 0) - 48 ∧ f (pUp q 0 0) - 48 ≤ pUp q 0 1 - 1 := Classical.not_not.mp (fun z => hb (Or.inr (Or.inl z)))
      have hfi : ¬ fin (pUp q 1 (f (pUp q 0 0) - 48)) := fun z => hb (Or.inr (Or.inr (Or.inl z)))
      have hct : ¬ cntF (pUp q 3) (f (pUp q 0 0) - 48) (pUp q 0 2).toNat = 4 := fun z => hb (Or.inr (Or.inr (Or.inr z)))
      generalize hw : f (pUp q 0 0) - 48 = fr at *
      have huu := hu.up hlt
      have ht := pFig_pl f sz (fr + 1) (pUp q 0 1 - 1) (pUp (pUp q))
      have ht2 := ht.tr (pPl.up (pUp q))
      have hT := huu.fig (f := f) (lo := fr + 1) (hi := pUp q 0 1 - 1)
      have h5 := pFig_0 (f := f) (sz := sz) (lo := fr + 1) (hi := pUp q 0 1 - 1) (q := pUp (pUp q)) ⟨huu.1.1, huu.1.2.1⟩
      rw [pUp_0] at h5
      have hv := @pFig_v f sz (fr + 1) (pUp q 0 1 - 1) (pUp (pUp q))
      generalize pFig f sz (fr + 1) (pUp q 0 1 - 1) (pUp (pUp q)) = T at *
      unfold pWord3
      split
      · exact ⟨hT, by dsimp only; omega, fun e => by cases e⟩
      · rename_i htn
        obtain ⟨a1, a2, -, -⟩ := hv htn
        split
        · exact ⟨hT, by dsimp only; omega, fun e => by cases e⟩
        · rename_i hsb
          have s1 : ¬ sz ≤ T.2 0 0 := fun z => hsb (Or.inl z)
          have s2 : 0 ≤ f (T.2 0 0) - 48 ∧ f (T.2 0 0) - 48 ≤ 9 := Classical.not_not.mp (fun z => hsb (Or.inr (Or.inl z)))
          have s3 : ¬ pHas T.2 fr (f (T.2 0 0) - 48) := fun z => hsb (Or.inr (Or.inr z))
          have b1 := ht2.1 1 (by decide)
          have b2 := ht2.1 2 (by decide)
          have b3 := ht2.1 3 (by decide)
          have hA := hT.wordA (fr := fr) (to := T.1) (so := f (T.2 0 0) - 48) (by omega) (by have := h.2.2.1; omega) (by omega) (by omega) s2 (by rw [ht2.2 1 (by decide)]; exact hfi) (by rw [ht2.2 3 (by decide), b2]; exact hct) s3
          exact ⟨hA.1, by dsimp only; rw [hA.2]; omega, fun _ => by dsimp only; rw [hA.2]; omega⟩
theorem PV.deed {f : Int → Int} {sz : Int} {q : am_H} (h : PV sz q) (h0 : q 0 0 < sz) (h1 : 1 < q 0 1) : pOK sz q (pDeed f sz q) := by
  unfold pDeed
  split
  · exact ⟨h, Int.le_refl _, fun e => by cases e⟩
  · rename_i h4
    have hu := h.up h0
    have eu := pUp_0 q
    have p0 := pPl.up q
    generalize pUp q = q1 at *
    have A1 := hu.fig (f := f) (lo := 1) (hi := 5)
    have A2 := (pFig_pl f sz 1 5 q1).tr p0
    have A3 := pFig_0 (f := f) (sz := sz) (lo := 1) (hi := 5) (q := q1) ⟨hu.1.1, hu.1.2.1⟩
    have A4 := @pFig_v f sz 1 5 q1
    generalize pFig f sz 1 5 q1 = y at *
    unfold pDeed1
    split
    · exact ⟨A1, by dsimp only; omega, fun e => by cases e⟩
    rename_i hy
    have B1 := A1.fig (f := f) (lo := 0) (hi := 9)
    have B2 := (pFig_pl f sz 0 9 y.2).tr A2
    have B3 := pFig_0 (f := f) (sz := sz) (lo := 0) (hi := 9) (q := y.2) ⟨A1.1.1, A1.1.2.1⟩
    have B4 := @pFig_v f sz 0 9 y.2
    generalize pFig f sz 0 9 y.2 = c at *
    unfold pDeed2
    split
    · exact ⟨B1, by dsimp only; omega, fun e => by cases e⟩
    rename_i hc
    have C1 := B1.fig (f := f) (lo := 0) (hi := 5)
    have C2 := (pFig_pl f sz 0 5 c.2).tr B2
    have C3 := pFig_0 (f := f) (sz := sz) (lo := 0) (hi := 5) (q := c.2) ⟨B1.1.1, B1.1.2.1⟩
    have C4 := @pFig_v f sz 0 5 c.2
    generalize pFig f sz 0 5 c.2 = a at *
    unfold pDeed3
    split
    · exact ⟨C1, by dsimp only; omega, fun e => by cases e⟩
    rename_i ha
    have D1 := C1.fig (f := f) (lo := 0) (hi := 9)
    have D2 := (pFig_pl f sz 0 9 a.2).tr C2
    have D3 := pFig_0 (f := f) (sz := sz) (lo := 0) (hi := 9) (q := a.2) ⟨C1.1.1, C1.1.2.1⟩
    have D4 := @pFig_v f sz 0 9 a.2
    generalize pFig f sz 0 9 a.2 = w at *
    unfold pDeed4
    split
    · exact ⟨D1, by dsimp only; omega, fun e => by cases e⟩
    rename_i hw
    obtain ⟨a1, a2, -, -⟩ := A4 hy
    obtain ⟨b1, b2, -, -⟩ := B4 hc
    obtain ⟨c1, c2, -, -⟩ := C4 ha
    obtain ⟨d1, d2, -, -⟩ := D4 hw
    have e1 := D2.1 1 (by decide)
    have e3 := D2.1 3 (by decide)
    have hA := D1.deedA (y := y.1) (c := c.1) (a := a.1) (w := w.1) (by omega) (by have := h.2.2.2.1; omega) ⟨a1, a2⟩ ⟨b1, b2⟩ ⟨c1, c2⟩ ⟨d1, d2⟩
    exact ⟨hA.1, by dsimp only; rw [hA.2]; omega, fun _ => by dsimp only; rw [hA.2]; omega⟩
theorem PV.item {f : Int → Int} {sz : Int} {q : am_H} (h : PV sz q) (h0 : q 0 0 < sz) : pOK sz q (pItem f sz q) := by
  have hk := pKind_rng (f (q 0 0))
  have no : pOK sz q (false, q) := ⟨h, Int.le_refl _, fun e => by cases e⟩
  unfold pItem
  split
  · split
    · rename_i h1 h2; exact h.node h0 h2.1 h2.2 ⟨h1, hk.2⟩
    · exact no
  · split
    · split
      · rename_i h1; exact h.word h0 h1.2
      · exact no
    · split
      · split
        · rename_i h1; exact h.deed h0 h1
        · exact no
      · exact no
