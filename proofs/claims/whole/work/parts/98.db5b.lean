/-! the two heaps at the start -/
def gI : am_H := fun c j => if c = 0 then (if j = 22 then 1 else 0) else if c = 1 then (if 0 ≤ j ∧ j < 6 then -1 else 0) else if c = 3 then (if 0 ≤ j ∧ j < 4 then -1 else 0) else 0
theorem gI_x {c j : Int} (h0 : ¬ c = 0) (h1 : ¬ c = 1) (h3 : ¬ c = 3) : gI c j = 0 := by
  unfold gI; rw [if_neg h0, if_neg h1, if_neg h3]
theorem hI_x {c j : Int} (h0 : ¬ c = 0) (h1 : ¬ c = 8) (h2 : ¬ c = 14) (h3 : ¬ c = 39) (h4 : ¬ c = 60) (h5 : ¬ (72 ≤ c ∧ c ≤ 74)) : hI c j = 0 := by
  unfold hI; rw [if_neg h0, if_neg h1, if_neg h2, if_neg h3, if_neg h4, if_neg (by omega)]
theorem gI_yr : yrP (gI 7) (gI 8) (gI 0 6) (gI 0 10) (gI 0 15) (gI 0 18) (gI 0 19) (gI 14) (gI 15) := by
  have e1 : gI 0 18 = 0 := rfl
  have e2 : gI 0 19 = 0 := rfl
  have hz : ∀ d : Int, 0 ≤ d → d < 4 → hw 0 d = 0 := by
    intro d a b
    have : d = 0 ∨ d = 1 ∨ d = 2 ∨ d = 3 := by omega
    rcases this with rfl | rfl | rfl | rfl <;> rfl
  refine ⟨by rw [e1]; decide, fun _ => rfl, fun i a b => ?_, ?_, fun i a b => ?_, fun d a b => ?_, fun i d a b => ?_⟩
  · rw [e1] at b; omega
  · rw [e2]
    refine ⟨by decide, by decide, Or.inl ⟨?_, ?_, ?_, ?_, by decide⟩⟩
    · rw [hz 0 (by decide) (by decide)]; decide
    · rw [hz 1 (by decide) (by decide)]; decide
    · rw [hz 2 (by decide) (by decide)]; decide
    · rw [hz 3 (by decide) (by decide)]; decide
  · rw [e1] at b; omega
  · rw [e2]
    have e3 : gI 0 15 = 0 := rfl
    rw [e3] at a
    exact hz d a b
  · rw [e1] at b; omega
theorem gI_ok : MOX gI := by
  have e6 : gI 0 6 = 0 := rfl
  have e10 : gI 0 10 = 0 := rfl
  have e15 : gI 0 15 = 0 := rfl
  refine ⟨⟨fun r a b => ?_, fun j => ?_⟩, ⟨fun r a b => ?_, fun j => ?_⟩, ?_, gI_yr, fun k a b => Or.inl ?_, fun k a b c => ?_⟩
  · unfold gI; repeat' split
    all_goals omega
  · rw [gI_x (by decide) (by decide) (by decide)]; decide
  · unfold gI; repeat' split
    all_goals omega
  · rw [gI_x (by decide) (by decide) (by decide)]; decide
  · refine ⟨by rw [e6]; decide, by rw [e10]; decide, by rw [e15]; decide, fun x a b => ?_, fun k a b => ?_, fun k j a b d => ?_, fun x => ?_, fun d a b => ?_, fun _ => ⟨e10, e15⟩, fun a => ?_⟩
    · rw [e6] at b; omega
    · rw [e10] at b; omega
    · rw [e10] at d; omega
    · rw [e10]; show (0 : Int) ≤ 4; decide
    · rw [e15] at b; omega
    · rw [e6] at a; omega
  · exact gI_x (by decide) (by decide) (by decide)
  · rw [gI_x (by decide) (by decide) (by decide)] at c; omega
theorem hI_rel : CRel hI gI := by
  have e6 : gI 0 6 = 0 := rfl
  have e10 : gI 0 10 = 0 := rfl
  have e15 : gI 0 15 = 0 := rfl
  refine ⟨⟨fun r i a b c d => ?_, fun r a b => ?_⟩, ⟨fun r i a b c d => ?_, fun r a b => ?_⟩, ⟨⟨⟨rfl, rfl, rfl⟩, fun x a b => ?_, fun x j w a b => ?_, fun k a b => ?_, fun d a b => ?_⟩, fun hn => absurd e6 hn⟩, ⟨rfl, rfl, fun i a b => ?_⟩, fun k a b => ⟨fun _ => ?_, fun c => ?_⟩, ⟨⟨rfl, rfl, rfl, rfl⟩, fun f a b => ?_⟩, ?_⟩
  · rw [hI_x (by omega) (by omega) (by omega) (by omega) (by omega) (by omega), gI_x (by decide) (by decide) (by decide)]
  · unfold hI gI; repeat' split
    all_goals omega
  · rw [hI_x (by omega) (by omega) (by omega) (by omega) (by omega) (by omega), gI_x (by decide) (by decide) (by decide)]
  · unfold hI gI; repeat' split
    all_goals omega
  · rw [e6] at b; omega
  · rw [e6] at b; omega
  · rw [e10] at b; omega
  · rw [e15] at b; omega
  · have : gI 0 18 = 0 := rfl
    rw [this] at b; omega
  · unfold hI; repeat' split
    all_goals omega
  · rw [gI_x (by decide) (by decide) (by decide)] at c; omega
  · rw [hI_x (by omega) (by omega) (by omega) (by omega) (by omega) (by omega), gI_x (by decide) (by decide) (by decide)]
  · have e : hI 60 4 = -1 := rfl
    unfold CPl
    rw [e]
    exact ⟨by decide, fun h => absurd h (by decide), fun h => absurd h (by decide)⟩
