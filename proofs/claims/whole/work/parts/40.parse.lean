/-! the reader, pure: the parser's state q: 0: place, nodes, words, deeds; 1 kinds, 2 meanings, 3 froms, 4 tos, 5 sounds, 6 years, 7 costs, 8 meanings, 9 worths of deeds -/
abbrev fin (k : Int) : Prop := k = 1 ∨ k = 4
def cntF (f : Int → Int) (x : Int) : Nat → Int
  | 0 => 0
  | n + 1 => cntF f x n + (if f n = x then 1 else 0)
theorem cntF_rng (f : Int → Int) (x : Int) : ∀ n : Nat, 0 ≤ cntF f x n ∧ cntF f x n ≤ n
  | 0 => by simp [cntF]
  | n + 1 => by
    have := cntF_rng f x n
    simp only [cntF]
    split <;> omega
theorem cntF_congr {f g : Int → Int} {x : Int} : ∀ {n : Nat}, (∀ k : Int, 0 ≤ k → k < n → f k = g k) → cntF f x n = cntF g x n
  | 0, _ => rfl
  | n + 1, h => by
    simp only [cntF]
    rw [cntF_congr (n := n) (fun k h1 h2 => h k h1 (by omega)), h n (by omega) (by omega)]
def pB (f : Int → Int) (sz : Int) (q : am_H) : Int := if sz ≤ q 0 0 then 0 else f (q 0 0)
def pUp (q : am_H) : am_H := am_set q 0 0 (q 0 0 + 1)
def pFig (f : Int → Int) (sz lo hi : Int) (q : am_H) : Int × am_H := if sz ≤ q 0 0 ∨ ¬ (lo ≤ f (q 0 0) - 48 ∧ f (q 0 0) - 48 ≤ hi) then (-1, q) else (f (q 0 0) - 48, pUp q)
def pKind (c : Int) : Int := if c = 110 then 0 else if c = 101 then 1 else if c = 99 then 2 else if c = 119 then 3 else if c = 111 then 4 else if c = 108 then 5 else -1
def pNodeA (kind m : Int) (q : am_H) : am_H := am_set (am_set (am_set q 1 (q 0 1) kind) 2 (q 0 1) m) 0 1 (q 0 1 + 1)
def pNodeM (f : Int → Int) (sz kind : Int) (q : am_H) : Int × am_H := if fin kind then pFig f sz 0 5 (pUp q) else (0, pUp q)
def pNode (f : Int → Int) (sz kind : Int) (q : am_H) : Bool × am_H := if q 0 1 = 9 then (false, q) else if (pNodeM f sz kind q).1 < 0 then (false, (pNodeM f sz kind q).2) else (true, pNodeA kind (pNodeM f sz kind q).1 (pNodeM f sz kind q).2)
def pHas (q : am_H) (x s : Int) : Prop := ∃ k : Int, 0 ≤ k ∧ k < q 0 2 ∧ q 3 k = x ∧ q 5 k = s
def pWordA (fr to so : Int) (q : am_H) : am_H := am_set (am_set (am_set (am_set (pUp q) 3 (q 0 2) fr) 4 (q 0 2) to) 5 (q 0 2) so) 0 2 (q 0 2 + 1)
/-- behind x: which fault the FROM has -/
def pFromBad (f : Int → Int) (sz : Int) (q : am_H) : Prop := sz ≤ q 0 0 ∨ ¬ (0 ≤ f (q 0 0) - 48 ∧ f (q 0 0) - 48 ≤ q 0 1 - 1) ∨ fin (q 1 (f (q 0 0) - 48)) ∨ cntF (q 3) (f (q 0 0) - 48) (q 0 2).toNat = 4
def pSndBad (f : Int → Int) (sz fr : Int) (q : am_H) : Prop := sz ≤ q 0 0 ∨ ¬ (0 ≤ f (q 0 0) - 48 ∧ f (q 0 0) - 48 ≤ 9) ∨ pHas q fr (f (q 0 0) - 48)
noncomputable def pWord3 (f : Int → Int) (sz fr : Int) (t : Int × am_H) : Bool × am_H := if t.1 < 0 then (false, t.2) else @ite _ (pSndBad f sz fr t.2) (Classical.propDecidable _) (false, t.2) (true, pWordA fr t.1 (f (t.2 0 0) - 48) t.2)
noncomputable def pWord2 (f : Int → Int) (sz : Int) (q : am_H) : Bool × am_H := @ite _ (pFromBad f sz q) (Classical.propDecidable _) (false, q) (pWord3 f sz (f (q 0 0) - 48) (pFig f sz (f (q 0 0) - 48 + 1) (q 0 1 - 1) (pUp q)))
noncomputable def pWord (f : Int → Int) (sz : Int) (q : am_H) : Bool × am_H := if q 0 2 = 14 then (false, q) else pWord2 f sz (pUp q)
def pDeedA (y c a w : Int) (q : am_H) : am_H := am_set (am_set (am_set (am_set (am_set q 6 (q 0 3) y) 7 (q 0 3) c) 8 (q 0 3) a) 9 (q 0 3) w) 0 3 (q 0 3 + 1)
def pDeed4 (f : Int → Int) (sz y c : Int) (a w : Int × am_H) : Bool × am_H := if w.1 < 0 then (false, w.2) else (true, pDeedA y c a.1 w.1 w.2)
def pDeed3 (f : Int → Int) (sz y c : Int) (a : Int × am_H) : Bool × am_H := if a.1 < 0 then (false, a.2) else pDeed4 f sz y c a (pFig f sz 0 9 a.2)
def pDeed2 (f : Int → Int) (sz y : Int) (c : Int × am_H) : Bool × am_H := if c.1 < 0 then (false, c.2) else pDeed3 f sz y c.1 (pFig f sz 0 5 c.2)
def pDeed1 (f : Int → Int) (sz : Int) (y : Int × am_H) : Bool × am_H := if y.1 < 0 then (false, y.2) else pDeed2 f sz y.1 (pFig f sz 0 9 y.2)
def pDeed (f : Int → Int) (sz : Int) (q : am_H) : Bool × am_H := if q 0 3 = 4 then (false, q) else pDeed1 f sz (pFig f sz 1 5 (pUp q))
noncomputable def pItem (f : Int → Int) (sz : Int) (q : am_H) : Bool × am_H :=
  if 0 ≤ pKind (f (q 0 0)) then (if q 0 2 = 0 ∧ q 0 3 = 0 then pNode f sz (pKind (f (q 0 0))) q else (false, q))
  else if f (q 0 0) = 120 then (if 1 < q 0 1 ∧ q 0 3 = 0 then pWord f sz q else (false, q))
  else if f (q 0 0) = 100 then (if 1 < q 0 1 then pDeed f sz q else (false, q)) else (false, q)
def skp (f : Int → Int) (sz : Int) : Nat → Int → Int
  | 0, p => p
  | n + 1, p => if p < sz ∧ f p = 32 then skp f sz n (p + 1) else p
def pSkip (f : Int → Int) (sz : Int) (q : am_H) : am_H := am_set q 0 0 (skp f sz 80 (q 0 0))
noncomputable def pLoop (f : Int → Int) (sz : Int) : Nat → am_H → Bool × am_H
  | 0, q => (false, q)
  | n + 1, q => if sz ≤ q 0 0 then (decide (1 < q 0 1), q) else if (pItem f sz q).1 = true then pLoop f sz n (pSkip f sz (pItem f sz q).2) else (false, (pItem f sz q).2)
def am_0 : am_H := fun _ _ => 0
noncomputable def pAll (f : Int → Int) (sz : Int) : Bool × am_H := pLoop f sz 82 (pSkip f sz am_0)
/-- what holds of the parser's state -/
def PV (sz : Int) (q : am_H) : Prop := (0 ≤ q 0 0 ∧ q 0 0 ≤ sz ∧ sz ≤ 80) ∧ (0 ≤ q 0 1 ∧ q 0 1 ≤ 9) ∧ (0 ≤ q 0 2 ∧ q 0 2 ≤ 14) ∧ (0 ≤ q 0 3 ∧ q 0 3 ≤ 4) ∧ (∀ x : Int, 0 ≤ x → x < q 0 1 → (0 ≤ q 1 x ∧ q 1 x ≤ 5) ∧ (0 ≤ q 2 x ∧ q 2 x ≤ 5)) ∧ (∀ k : Int, 0 ≤ k → k < q 0 2 → (0 ≤ q 3 k ∧ q 3 k < q 4 k ∧ q 4 k < q 0 1) ∧ (0 ≤ q 5 k ∧ q 5 k ≤ 9) ∧ ¬ fin (q 1 (q 3 k))) ∧ (∀ k j : Int, 0 ≤ k → k < j → j < q 0 2 → q 3 k = q 3 j → ¬ q 5 k = q 5 j) ∧ (∀ x : Int, cntF (q 3) x (q 0 2).toNat ≤ 4) ∧ (∀ d : Int, 0 ≤ d → d < q 0 3 → (1 ≤ q 6 d ∧ q 6 d ≤ 5) ∧ (0 ≤ q 7 d ∧ q 7 d ≤ 9) ∧ (0 ≤ q 8 d ∧ q 8 d ≤ 5) ∧ (0 ≤ q 9 d ∧ q 9 d ≤ 9)) ∧ (0 < q 0 2 ∨ 0 < q 0 3 → 1 < q 0 1)
theorem pUp_0 (q : am_H) : pUp q 0 0 = q 0 0 + 1 := am_set_s _ _ _ _
theorem pUp_j (q : am_H) {j : Int} (hj : ¬ j = 0) : pUp q 0 j = q 0 j := am_set_i hj
theorem pUp_c (q : am_H) {c : Int} (hc : ¬ c = 0) : pUp q c = q c := am_set_c hc
/-- two states alike but for the place -/
def pPl (a b : am_H) : Prop := (∀ j : Int, ¬ j = 0 → a 0 j = b 0 j) ∧ ∀ c : Int, ¬ c = 0 → a c = b c
theorem pPl.rf (a : am_H) : pPl a a := ⟨fun _ _ => rfl, fun _ _ => rfl⟩
theorem pPl.up (a : am_H) : pPl (pUp a) a := ⟨fun _ h => pUp_j a h, fun _ h => pUp_c a h⟩
theorem pPl.tr {a b c : am_H} (h1 : pPl a b) (h2 : pPl b c) : pPl a c := ⟨fun j hj => (h1.1 j hj).trans (h2.1 j hj), fun j hj => (h1.2 j hj).trans (h2.2 j hj)⟩
theorem pPl.set (a : am_H) (v : Int) : pPl (am_set a 0 0 v) a := ⟨fun _ h => am_set_i h, fun _ h => am_set_c h⟩
theorem PV.pl {sz : Int} {a b : am_H} (h : PV sz b) (he : pPl a b) (h0 : 0 ≤ a 0 0 ∧ a 0 0 ≤ sz) : PV sz a := by
  obtain ⟨v0, v1, v2, v3, v4, v5, v6, v7, v8, v9⟩ := h
  obtain ⟨e, f⟩ := he
  unfold PV
  rw [e 1 (by decide), e 2 (by decide), e 3 (by decide), f 1 (by decide), f 2 (by decide), f 3 (by decide), f 4 (by decide), f 5 (by decide), f 6 (by decide), f 7 (by decide), f 8 (by decide), f 9 (by decide)]
  exact ⟨⟨h0.1, h0.2, v0.2.2⟩, v1, v2, v3, v4, v5, v6, v7, v8, v9⟩
theorem pFig_pl (f : Int → Int) (sz lo hi : Int) (q : am_H) : pPl (pFig f sz lo hi q).2 q := by
  unfold pFig; split
  · exact pPl.rf q
  · exact pPl.up q
theorem pFig_0 {f : Int → Int} {sz lo hi : Int} {q : am_H} (h : 0 ≤ q 0 0 ∧ q 0 0 ≤ sz) : 0 ≤ (pFig f sz lo hi q).2 0 0 ∧ (pFig f sz lo hi q).2 0 0 ≤ sz ∧ q 0 0 ≤ (pFig f sz lo hi q).2 0 0 := by
  unfold pFig; split
  · exact ⟨h.1, h.2, Int.le_refl _⟩
  · rename_i hc
    dsimp only
    rw [pUp_0]; omega
theorem pFig_v {f : Int → Int} {sz lo hi : Int} {q : am_H} (h : ¬ (pFig f sz lo hi q).1 < 0) : lo ≤ (pFig f sz lo hi q).1 ∧ (pFig f sz lo hi q).1 ≤ hi ∧ q 0 0 < sz ∧ pFig f sz lo hi q = (f (q 0 0) - 48, pUp q) := by
  unfold pFig at h ⊢
  split at h
  · dsimp only at h; omega
  · rename_i hc
    rw [if_neg hc]
    exact ⟨by dsimp only; omega, by dsimp only; omega, by omega, rfl⟩
theorem pFig_rng {f : Int → Int} {sz lo hi : Int} {q : am_H} (hlo : -1 ≤ lo) (hhi : hi ≤ 9) : -1 ≤ (pFig f sz lo hi q).1 ∧ (pFig f sz lo hi q).1 ≤ 9 := by
  unfold pFig; split
  · dsimp only; omega
  · dsimp only; omega
theorem pKind_rng (c : Int) : -1 ≤ pKind c ∧ pKind c ≤ 5 := by
  unfold pKind; repeat' split
  all_goals omega
theorem skp_rng (f : Int → Int) (sz : Int) : ∀ (n : Nat) (p : Int), p ≤ sz → p ≤ skp f sz n p ∧ skp f sz n p ≤ sz
  | 0, p, h => by simp [skp]; exact h
  | n + 1, p, h => by
    simp only [skp]
    split
    · have := skp_rng f sz n (p + 1) (by omega)
      omega
    · omega
theorem pSkip_pl (f : Int → Int) (sz : Int) (q : am_H) : pPl (pSkip f sz q) q := pPl.set q _
theorem pSkip_0 (f : Int → Int) {sz : Int} {q : am_H} (h : q 0 0 ≤ sz) : q 0 0 ≤ pSkip f sz q 0 0 ∧ pSkip f sz q 0 0 ≤ sz := by
  unfold pSkip; rw [am_set_s]; exact skp_rng f sz 80 _ h
theorem PV.skip {f : Int → Int} {sz : Int} {q : am_H} (h : PV sz q) : PV sz (pSkip f sz q) := by
  have := pSkip_0 f (q := q) h.1.2.1
  exact h.pl (pSkip_pl f sz q) (by have := h.1; omega)
/-- skipping is done: no blank there -/
theorem skp_done (f : Int → Int) (sz : Int) : ∀ (n : Nat) (p : Int), sz - p ≤ n → ¬ (skp f sz n p < sz ∧ f (skp f sz n p) = 32)
  | 0, p, h => by simp only [skp]; omega
  | n + 1, p, h => by
    simp only [skp]
    split
    · exact skp_done f sz n (p + 1) (by omega)
    · rename_i hc; exact hc
