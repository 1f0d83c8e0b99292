theorem kdY {x : Int} (h0 : 0 ≤ x) (h1 : x < 9) : am_kd GC (49 + x) = some (.inr (0, 9, 0)) := by
  have : x = 0 ∨ x = 1 ∨ x = 2 ∨ x = 3 ∨ x = 4 ∨ x = 5 ∨ x = 6 ∨ x = 7 ∨ x = 8 := by omega
  rcases this with q | q | q | q | q | q | q | q | q <;> subst q <;> rfl
/-- the product of degrees, of the last j nodes -/
def lpN (g : am_H) : Nat → Int
  | 0 => 1
  | j + 1 => if dgF g (g 0 6 - (j + 1 : Nat)) = 0 then lpN g j else lpN g j * dgF g (g 0 6 - (j + 1 : Nat))
def ltP (g : am_H) (x : Int) : Int := lpN g (g 0 6 - x).toNat
theorem ltP_s {g : am_H} {x : Int} (h : x < g 0 6) : ltP g x = if dgF g x = 0 then ltP g (x + 1) else ltP g (x + 1) * dgF g x := by
  unfold ltP
  have e : (g 0 6 - x).toNat = (g 0 6 - (x + 1)).toNat + 1 := by omega
  rw [e, lpN, show g 0 6 - (((g 0 6 - (x + 1)).toNat + 1 : Nat) : Int) = x by omega]
def OlX (h g : am_H) (x : Int) : Prop := h 42 x = sen g x ∧ h 43 x = ((out g x % 64 : Nat) : Int) ∧ h 44 x = ((out g x : Nat) : Int) ∧ (0 < sen g x → h 45 x = (yrs g x).1 ∧ h 46 x = (yrs g x).2) ∧ h 47 x = knw g x ∧ (∀ n : Int, 0 ≤ n → n ≤ 8 → h (49 + x) n = jst g x n) ∧ h 58 x = ltP g x
/-- years are there where sentences are -/
def ysP (sen : Int) (v : Int × Int) : Prop := 0 ≤ sen ∧ ((sen = 0 ∧ v = (-9, -9)) ∨ (0 < sen ∧ (0 ≤ v.1 ∧ v.1 ≤ 8) ∧ 0 ≤ v.2 ∧ v.2 ≤ 8))
def fmS (yr : Int) (s : Int × Int) (se : Int) (v : Int × Int) : Int × Int := if 0 < se then (if v.1 + yr < s.1 then v.1 + yr else s.1, if s.2 < v.2 + yr then v.2 + yr else s.2) else s
/-- the class's fold and the reference's go together -/
def fmP (t : Int) (s Y : Int × Int) : Prop := 0 ≤ t ∧ ((t = 0 ∧ Y = (-9, -9) ∧ s = (9, 0)) ∨ (0 < t ∧ 0 ≤ Y.1 ∧ 0 ≤ Y.2 ∧ s = Y))
theorem fm_step {yr t se : Int} {s Y v : Int × Int} (hy : 0 ≤ yr ∧ yr ≤ 1) (h : fmP t s Y) (hv : ysP se v) (hb : v.1 + yr ≤ 8 ∧ v.2 + yr ≤ 8) : fmP (t + se) (fmS yr s se v) (yStep yr Y v) := by
  obtain ⟨v1, v2⟩ := v
  obtain ⟨s1, s2⟩ := s
  obtain ⟨y1, y2⟩ := Y
  obtain ⟨hs0, hv⟩ := hv
  obtain ⟨ht0, h⟩ := h
  rcases hv with ⟨e1, e2⟩ | ⟨e1, e2, e3⟩
  · obtain ⟨e2a, e2b⟩ := Prod.mk.inj e2
    subst e2a; subst e2b
    have a1 : fmS yr (s1, s2) se (-9, -9) = (s1, s2) := by unfold fmS; rw [if_neg (by omega)]
    have a2 : yStep yr (y1, y2) (-9, -9) = (y1, y2) := by unfold yStep; rw [if_neg (by dsimp only; omega)]
    rw [a1, a2, show t + se = t by omega]
    exact ⟨ht0, h⟩
  · have a1 : fmS yr (s1, s2) se (v1, v2) = (if v1 + yr < s1 then v1 + yr else s1, if s2 < v2 + yr then v2 + yr else s2) := by unfold fmS; rw [if_pos e1]
    have a2 : yStep yr (y1, y2) (v1, v2) = (if y1 < 0 ∨ v1 + yr < y1 then v1 + yr else y1, if y2 < v2 + yr then v2 + yr else y2) := by unfold yStep; rw [if_pos e2.1]
    rw [a1, a2]
    dsimp only at e2 e3 hb
    rcases h with ⟨b1, b2, b3⟩ | ⟨b1, b2, b3, b4⟩
    · obtain ⟨b2a, b2b⟩ := Prod.mk.inj b2
      obtain ⟨b3a, b3b⟩ := Prod.mk.inj b3
      subst b2a; subst b2b; subst b3a; subst b3b
      rw [if_pos (by omega), if_pos (Or.inl (by omega)), if_pos (c := (-9 : Int) < v2 + yr) (by omega)]
      have c2 : (if (0 : Int) < v2 + yr then v2 + yr else 0) = v2 + yr := by split <;> omega
      rw [c2]
      exact ⟨by omega, Or.inr ⟨by omega, by dsimp only; omega, by dsimp only; omega, rfl⟩⟩
    · obtain ⟨b4a, b4b⟩ := Prod.mk.inj b4
      subst b4a; subst b4b
      dsimp only at b2 b3
      have c1 : (if s1 < 0 ∨ v1 + yr < s1 then v1 + yr else s1) = (if v1 + yr < s1 then v1 + yr else s1) := by
        by_cases q : v1 + yr < s1
        · rw [if_pos (Or.inr q), if_pos q]
        · rw [if_neg (by omega), if_neg q]
      rw [c1]
      refine ⟨by omega, Or.inr ⟨by omega, ?_, ?_, rfl⟩⟩
      · dsimp only; split <;> omega
      · dsimp only; split <;> omega
theorem fm_fold {g : am_H} {yr : Int} (hy : 0 ≤ yr ∧ yr ≤ 1) : ∀ (L : List Int) (t : Int) (s Y : Int × Int), fmP t s Y → (∀ k ∈ L, ysP (sen g (g 8 k)) (yrs g (g 8 k)) ∧ (yrs g (g 8 k)).1 + yr ≤ 8 ∧ (yrs g (g 8 k)).2 + yr ≤ 8) → fmP (L.foldl (fun s k => s + sen g (g 8 k)) t) (L.foldl (fun s k => fmS yr s (sen g (g 8 k)) (yrs g (g 8 k))) s) (L.foldl (fun s k => yStep yr s (yrs g (g 8 k))) Y)
  | [], t, s, Y, h, _ => h
  | k :: L, t, s, Y, h, hk => by
    simp only [List.foldl_cons]
    have h1 := hk k List.mem_cons_self
    exact fm_fold hy L _ _ _ (fm_step hy h h1.1 h1.2) (fun j hj => hk j (List.mem_cons_of_mem _ hj))
theorem yrs_ok {g : am_H} (hs : MVs g) : ∀ (n : Nat) (x : Int), 0 ≤ x → x < g 0 6 → g 0 6 - x ≤ n → ysP (sen g x) (yrs g x) := by
  intro n
  induction n with
  | zero => intro x h1 h2 h3; omega
  | succ n ih =>
    intro x h1 h2 h3
    have hnn := hs.1
    have hyi := yrs_in hs 9 x h1 h2 (by omega)
    have hyk := yrK_rng (g 5 x)
    unfold yIn at hyi
    by_cases e : cntF (g 7) x (nwN g) = 0
    · rw [sen_eq hs h1 h2, yrs_eq hs h1 h2]
      unfold FS FY
      rw [wl_nil.mpr e]
      show ysP (if fin (g 5 x) then 1 else 0) (yBase (g 5) x, yBase (g 5) x)
      unfold yBase
      by_cases f : fin (g 5 x)
      · rw [if_pos f, if_pos f]; exact ⟨by omega, Or.inr ⟨by omega, by dsimp only; omega, by dsimp only; omega⟩⟩
      · rw [if_neg f, if_neg f]; exact ⟨by omega, Or.inl ⟨rfl, rfl⟩⟩
    · have hf := nofin (x := x) hs e
      have h := fm_fold (g := g) hyk (wl (g 7) x (nwN g)) 0 (9, 0) (-9, -9) ⟨by omega, Or.inl ⟨rfl, rfl, rfl⟩⟩ (fun k hk => by
        obtain ⟨a1, a2, a3⟩ := wl_mem.mp hk
        have a4 := to_ok hs k a1 a2
        have b := yrs_in hs 9 (g 8 k) (by omega) a4.2 (by omega)
        unfold yIn at b
        exact ⟨ih (g 8 k) (by omega) a4.2 (by omega), by omega, by omega⟩)
      have e1 : sen g x = (wl (g 7) x (nwN g)).foldl (fun s k => s + sen g (g 8 k)) 0 := by
        rw [sen_eq hs h1 h2, FS, if_neg hf]
      have e2 : yrs g x = (wl (g 7) x (nwN g)).foldl (fun s k => yStep (yrK (g 5 x)) s (yrs g (g 8 k))) (-9, -9) := by
        rw [yrs_eq hs h1 h2, FY, yBase, if_neg hf]
      rw [← e1, ← e2] at h
      obtain ⟨h4, h5⟩ := h
      refine ⟨h4, ?_⟩
      rcases h5 with ⟨b1, b2, b3⟩ | ⟨b1, b2, b3, b4⟩
      · exact Or.inl ⟨b1, b2⟩
      · exact Or.inr ⟨b1, by omega, by omega⟩
/-- what gather finds of fewest and most -/
noncomputable def fmF (g : am_H) (x : Int) (L : List Int) : Int × Int := L.foldl (fun s k => fmS (yrK (g 5 x)) s (sen g (g 8 k)) (yrs g (g 8 k))) (9, 0)
theorem fm_eq {g : am_H} (hs : MVs g) {x : Int} (h1 : 0 ≤ x) (h2 : x < g 0 6) (e : ¬ cntF (g 7) x (nwN g) = 0) (hp : 0 < sen g x) : fmF g x (wl (g 7) x (nwN g)) = yrs g x := by
  have hnn := hs.1
  have hf := nofin (x := x) hs e
  have hyk := yrK_rng (g 5 x)
  have h := fm_fold (g := g) hyk (wl (g 7) x (nwN g)) 0 (9, 0) (-9, -9) ⟨by omega, Or.inl ⟨rfl, rfl, rfl⟩⟩ (fun k hk => by
    obtain ⟨a1, a2, a3⟩ := wl_mem.mp hk
    have a4 := to_ok hs k a1 a2
    have b := yrs_in hs 9 (g 8 k) (by omega) a4.2 (by omega)
    unfold yIn at b
    exact ⟨yrs_ok hs 9 (g 8 k) (by omega) a4.2 (by omega), by omega, by omega⟩)
  have e1 : sen g x = (wl (g 7) x (nwN g)).foldl (fun s k => s + sen g (g 8 k)) 0 := by
    rw [sen_eq hs h1 h2, FS, if_neg hf]
  have e2 : yrs g x = (wl (g 7) x (nwN g)).foldl (fun s k => yStep (yrK (g 5 x)) s (yrs g (g 8 k))) (-9, -9) := by
    rw [yrs_eq hs h1 h2, FY, yBase, if_neg hf]
  rw [← e1, ← e2] at h
  obtain ⟨h4, h5⟩ := h
  rcases h5 with ⟨b1, b2, b3⟩ | ⟨b1, b2, b3, b4⟩
  · omega
  · exact b4
theorem fmF_rng {g : am_H} {x : Int} : ∀ (L : List Int) (s : Int × Int), (0 ≤ s.1 ∧ s.1 ≤ 9) → (0 ≤ s.2 ∧ s.2 ≤ 9) → (∀ k ∈ L, 0 < sen g (g 8 k) → (0 ≤ (yrs g (g 8 k)).1 ∧ (yrs g (g 8 k)).1 ≤ 8) ∧ 0 ≤ (yrs g (g 8 k)).2 ∧ (yrs g (g 8 k)).2 ≤ 8) → (0 ≤ (L.foldl (fun s k => fmS (yrK (g 5 x)) s (sen g (g 8 k)) (yrs g (g 8 k))) s).1 ∧ (L.foldl (fun s k => fmS (yrK (g 5 x)) s (sen g (g 8 k)) (yrs g (g 8 k))) s).1 ≤ 9) ∧ 0 ≤ (L.foldl (fun s k => fmS (yrK (g 5 x)) s (sen g (g 8 k)) (yrs g (g 8 k))) s).2 ∧ (L.foldl (fun s k => fmS (yrK (g 5 x)) s (sen g (g 8 k)) (yrs g (g 8 k))) s).2 ≤ 9
  | [], s, h1, h2, _ => ⟨h1, h2⟩
  | k :: L, s, h1, h2, hk => by
    simp only [List.foldl_cons]
    have hyk := yrK_rng (g 5 x)
    have h3 := hk k List.mem_cons_self
    have h4 : (0 ≤ (fmS (yrK (g 5 x)) s (sen g (g 8 k)) (yrs g (g 8 k))).1 ∧ (fmS (yrK (g 5 x)) s (sen g (g 8 k)) (yrs g (g 8 k))).1 ≤ 9) ∧ 0 ≤ (fmS (yrK (g 5 x)) s (sen g (g 8 k)) (yrs g (g 8 k))).2 ∧ (fmS (yrK (g 5 x)) s (sen g (g 8 k)) (yrs g (g 8 k))).2 ≤ 9 := by
      unfold fmS
      generalize sen g (g 8 k) = se at h3 ⊢
      generalize yrs g (g 8 k) = v at h3 ⊢
      split
      · rename_i q
        have := h3 q
        refine ⟨?_, ?_⟩
        · dsimp only; split <;> omega
        · dsimp only; split <;> omega
      · exact ⟨h1, h2⟩
    exact fmF_rng L _ h4.1 h4.2 (fun j hj => hk j (List.mem_cons_of_mem _ hj))
