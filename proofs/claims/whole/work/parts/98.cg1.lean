/-! what holds of the reference's lasting state, and stays -/
def yrP (fr to : Int → Int) (nn nw nd many st : Int) (sd ah : Int → Int) : Prop := (0 ≤ many ∧ many ≤ 8) ∧ (nn = 0 → many = 0) ∧ (∀ i : Int, 0 ≤ i → i < many → (0 ≤ sd i ∧ sd i < nw) ∧ fr (sd i) = (if i = 0 then 0 else to (sd (i - 1)))) ∧ VS st ∧ (∀ i : Int, 0 ≤ i → i < many → VS (ah i)) ∧ (∀ d : Int, nd ≤ d → d < 4 → hw st d = 0) ∧ ∀ i d : Int, 0 ≤ i → i < many → nd ≤ d → d < 4 → hw (ah i) d = 0
def YP (g : am_H) : Prop := yrP (g 7) (g 8) (g 0 6) (g 0 10) (g 0 15) (g 0 18) (g 0 19) (g 14) (g 15)
def KP (g : am_H) : Prop := ∀ k : Int, 0 ≤ k → k < 3 → g 24 k = 1 → yrP (g 7) (g 8) (g 0 6) (g 0 10) (g 0 15) (g 25 (18 * k + 16)) (g 25 (18 * k + 17)) (fun i => g 25 (18 * k + i)) (fun i => g 25 (18 * k + 8 + i))
def MOX (g : am_H) : Prop := MVr g ∧ MVt g ∧ MVs g ∧ YP g ∧ MVk g ∧ KP g
theorem yrP.congr {fr to : Int → Int} {nn nw nd many st : Int} {sd ah sd' ah' : Int → Int} (h : yrP fr to nn nw nd many st sd ah) (h1 : ∀ i : Int, 0 ≤ i → i < many → sd' i = sd i) (h2 : ∀ i : Int, 0 ≤ i → i < many → ah' i = ah i) : yrP fr to nn nw nd many st sd' ah' := by
  obtain ⟨a, b, c, d, e, f, k⟩ := h
  refine ⟨a, b, fun i x y => ?_, d, fun i x y => by rw [h2 i x y]; exact e i x y, f, fun i z x y u v => by rw [h2 i x y]; exact k i z x y u v⟩
  have q := c i x y
  rw [h1 i x y]
  by_cases e0 : i = 0
  · rw [if_pos e0] at q ⊢; exact q
  · rw [if_neg e0] at q ⊢
    rw [h1 (i - 1) (by omega) (by omega)]; exact q
theorem YP.y {g : am_H} (h : YP g) : MVy g := ⟨h.1, h.2.1, h.2.2.1⟩
theorem YP.d {g : am_H} (h : YP g) : MVd g := ⟨h.2.2.2.1, h.2.2.2.2.1, h.2.2.2.2.2.1⟩
theorem KP.on {g : am_H} {k : Int} (h : KP g) (h0 : 0 ≤ k) (h1 : k < 3) (h2 : g 24 k = 1) : YP (onF g k) := by
  have q := h k h0 h1 h2
  have e18 : onF g k 0 18 = g 25 (18 * k + 16) := on_many
  have e19 : onF g k 0 19 = g 25 (18 * k + 17) := by unfold onF; rw [am_set_s]
  have e0 : ∀ j : Int, ¬ j = 18 → ¬ j = 19 → onF g k 0 j = g 0 j := fun j a b => by unfold onF; rw [am_set_i b, am_set_i a, am_up_c (by decide), am_up_c (by decide)]
  have ec : ∀ c : Int, ¬ c = 0 → ¬ c = 14 → ¬ c = 15 → onF g k c = g c := fun c a b d => by unfold onF; rw [am_set_c a, am_set_c a, am_up_c d, am_up_c b]
  have eS : onF g k 14 = lo 8 (fun i => g 25 (18 * k + i)) (g 14) := by unfold onF; rw [am_set_c (by decide), am_set_c (by decide), am_up_c (by decide), am_up_s]
  have eA : onF g k 15 = lo 8 (fun i => g 25 (18 * k + 8 + i)) (g 15) := by unfold onF; rw [am_set_c (by decide), am_set_c (by decide), am_up_s]
  unfold YP
  rw [e18, e19, e0 _ (by decide) (by decide), e0 _ (by decide) (by decide), e0 _ (by decide) (by decide), ec 7 (by decide) (by decide) (by decide), ec 8 (by decide) (by decide) (by decide), eS, eA]
  have hb := q.1
  exact q.congr (fun i a b => by unfold lo; rw [if_pos (by omega)]) (fun i a b => by unfold lo; rw [if_pos (by omega)])
theorem MOX.ok {g : am_H} (h : MOX g) : MOK g := ⟨h.1, h.2.1, h.2.2.1, h.2.2.2.1.y, h.2.2.2.1.d, h.2.2.2.2.1, fun k a b c => ⟨(h.2.2.2.2.2.on a b c).y, (h.2.2.2.2.2.on a b c).d⟩⟩
def SpE0 (g' g : am_H) : Prop := g' 7 = g 7 ∧ g' 8 = g 8 ∧ g' 0 6 = g 0 6 ∧ g' 0 10 = g 0 10 ∧ g' 0 15 = g 0 15
theorem YP.eq {g g' : am_H} (h : YP g) (e : SpE0 g' g) (e1 : g' 0 18 = g 0 18) (e2 : g' 0 19 = g 0 19) (e3 : g' 14 = g 14) (e4 : g' 15 = g 15) : YP g' := by
  unfold YP; rw [e.1, e.2.1, e.2.2.1, e.2.2.2.1, e.2.2.2.2, e1, e2, e3, e4]; exact h
theorem KP.eq {g g' : am_H} (h : KP g) (e : SpE0 g' g) (e1 : g' 24 = g 24) (e2 : g' 25 = g 25) : KP g' := by
  unfold KP; rw [e.1, e.2.1, e.2.2.1, e.2.2.2.1, e.2.2.2.2, e1, e2]; exact h
theorem MVk.eq {g g' : am_H} (h : MVk g) (e1 : g' 24 = g 24) : MVk g' := by unfold MVk; rw [e1]; exact h
theorem MVr.eq {g g' : am_H} (h : MVr g) (e1 : g' 2 = g 2) (e2 : g' 1 = g 1) : MVr g' := by unfold MVr; rw [e1, e2]; exact h
theorem MVt.eq {g g' : am_H} (h : MVt g) (e1 : g' 4 = g 4) (e2 : g' 3 = g 3) : MVt g' := by unfold MVt; rw [e1, e2]; exact h
/-- all but what is told -/
theorem MOX.eq {g g' : am_H} (h : MOX g) (hc : ∀ c : Int, (1 ≤ c ∧ c ≤ 15) ∨ c = 24 ∨ c = 25 → g' c = g c) (h0 : ∀ k : Int, k ≤ 19 → g' 0 k = g 0 k) : MOX g' := by
  obtain ⟨a1, a2, a3, a4, a5, a6⟩ := h
  have e : SpE0 g' g := ⟨hc _ (by omega), hc _ (by omega), h0 _ (by omega), h0 _ (by omega), h0 _ (by omega)⟩
  exact ⟨a1.eq (hc _ (by omega)) (hc _ (by omega)), a2.eq (hc _ (by omega)) (hc _ (by omega)), a3.of3 (h0 _ (by omega)) (h0 _ (by omega)) (h0 _ (by omega)) (fun c x y => hc c (by omega)), a4.eq e (h0 _ (by omega)) (h0 _ (by omega)) (hc _ (by omega)) (hc _ (by omega)), a5.eq (hc _ (by omega)), a6.eq e (hc _ (by omega)) (hc _ (by omega))⟩
theorem MOX.meq {g g' : am_H} (h : MOX g) (e : MEq g' g) : MOX g' := h.eq (fun c a => e.2 c (by omega)) (fun k a => e.1 k (by omega))
theorem MOX.ask {g : am_H} {v : Int} (h : MOX g) : MOX (am_set g 0 20 v) := h.eq (fun c a => am_set_c (by omega)) (fun k a => am_set_i (by omega))
theorem MOX.find {g : am_H} {f : Int} (h : MOX g) : MOX (findF g f) := h.eq (fun c a => by unfold findF; rw [am_set_c (by omega), am_set_c (by omega)]) (fun k a => by unfold findF; rw [am_set_c (by decide), am_set_i (by omega)])
theorem MOX.tp {g : am_H} {c : Int} (h : MOX g) : MOX (tpF g c) := h.eq (fun x a => by unfold tpF; rw [am_set_c (by omega), am_set_c (by omega)]) (fun k a => by unfold tpF; rw [am_set_i (by omega), am_set_i (by omega)])
/-- rows alone -/
theorem MOX.rows {g g' : am_H} (h : MOX g) (hc : ∀ c : Int, ¬ c = 1 → ¬ c = 2 → g' c = g c) (hr : MVr g') : MOX g' := by
  obtain ⟨a1, a2, a3, a4, a5, a6⟩ := h
  have e0 : g' 0 = g 0 := hc 0 (by decide) (by decide)
  have e : SpE0 g' g := ⟨hc _ (by decide) (by decide), hc _ (by decide) (by decide), by rw [e0], by rw [e0], by rw [e0]⟩
  exact ⟨hr, a2.eq (hc _ (by decide) (by decide)) (hc _ (by decide) (by decide)), a3.of3 (by rw [e0]) (by rw [e0]) (by rw [e0]) (fun c x y => hc c (by omega) (by omega)), a4.eq e (by rw [e0]) (by rw [e0]) (hc _ (by decide) (by decide)) (hc _ (by decide) (by decide)), a5.eq (hc _ (by decide) (by decide)), a6.eq e (hc _ (by decide) (by decide)) (hc _ (by decide) (by decide))⟩
theorem MOX.texts {g g' : am_H} (h : MOX g) (hc : ∀ c : Int, ¬ c = 3 → ¬ c = 4 → g' c = g c) (hr : MVt g') : MOX g' := by
  obtain ⟨a1, a2, a3, a4, a5, a6⟩ := h
  have e0 : g' 0 = g 0 := hc 0 (by decide) (by decide)
  have e : SpE0 g' g := ⟨hc _ (by decide) (by decide), hc _ (by decide) (by decide), by rw [e0], by rw [e0], by rw [e0]⟩
  exact ⟨a1.eq (hc _ (by decide) (by decide)) (hc _ (by decide) (by decide)), hr, a3.of3 (by rw [e0]) (by rw [e0]) (by rw [e0]) (fun c x y => hc c (by omega) (by omega)), a4.eq e (by rw [e0]) (by rw [e0]) (hc _ (by decide) (by decide)) (hc _ (by decide) (by decide)), a5.eq (hc _ (by decide) (by decide)), a6.eq e (hc _ (by decide) (by decide)) (hc _ (by decide) (by decide))⟩
/-- years alone -/
theorem MOX.years {g g' : am_H} (h : MOX g) (hc : ∀ c : Int, ¬ c = 0 → ¬ c = 14 → ¬ c = 15 → g' c = g c) (h0 : ∀ k : Int, ¬ k = 18 → ¬ k = 19 → g' 0 k = g 0 k) (hy : YP g') : MOX g' := by
  obtain ⟨a1, a2, a3, a4, a5, a6⟩ := h
  have e : SpE0 g' g := ⟨hc _ (by decide) (by decide) (by decide), hc _ (by decide) (by decide) (by decide), h0 _ (by decide) (by decide), h0 _ (by decide) (by decide), h0 _ (by decide) (by decide)⟩
  exact ⟨a1.eq (hc _ (by decide) (by decide) (by decide)) (hc _ (by decide) (by decide) (by decide)), a2.eq (hc _ (by decide) (by decide) (by decide)) (hc _ (by decide) (by decide) (by decide)), a3.of3 (h0 _ (by decide) (by decide)) (h0 _ (by decide) (by decide)) (h0 _ (by decide) (by decide)) (fun c x y => hc c (by omega) (by omega) (by omega)), hy, a5.eq (hc _ (by decide) (by decide) (by decide)), a6.eq e (hc _ (by decide) (by decide) (by decide)) (hc _ (by decide) (by decide) (by decide))⟩
theorem rowF_ok {g : am_H} {r n : Int} (h : MVr g) (hn : 0 ≤ n ∧ n ≤ 40) : MVr (rowF g r n) := by
  refine ⟨fun x a b => ?_, fun j => ?_⟩
  · unfold rowF; rw [am_up_c (by decide)]
    by_cases e : x = r
    · rw [e, am_set_s]; omega
    · rw [am_set_i e]; exact h.1 x a b
  · unfold rowF; rw [am_up_s]
    split
    · omega
    · exact h.2 j
theorem rowF_c {g : am_H} {r n c : Int} (h1 : ¬ c = 1) (h2 : ¬ c = 2) : rowF g r n c = g c := by unfold rowF; rw [am_up_c h2, am_set_c h1]
theorem up_ok {g : am_H} {r n : Int} {F : Int → Int} (h : MVr g) (hn : 0 ≤ n ∧ n ≤ 8) (hF : ∀ i : Int, 0 ≤ i → i < n → -2147483648 ≤ F i ∧ F i < 2147483648) : MVr (am_up (rowF g r n) 2 (fun j => if 40 * r ≤ j ∧ j < 40 * r + n then F (j - 40 * r) else rowF g r n 2 j)) := by
  have q := rowF_ok (r := r) (n := n) h (by omega)
  refine ⟨fun x a b => ?_, fun j => ?_⟩
  · rw [am_up_c (by decide)]; exact q.1 x a b
  · rw [am_up_s]
    split
    · exact hF _ (by omega) (by omega)
    · exact q.2 j
