theorem mo_keepF {g : am_H} {k : Int} (h : MOX g) (hk : 0 ≤ k ∧ k ≤ 2) : MOX (keepF g k) := by
  obtain ⟨a1, a2, a3, a4, a5, a6⟩ := h
  have hm := a4.1
  have e0 : ∀ c : Int, ¬ c = 24 → ¬ c = 25 → keepF g k c = g c := fun c a b => by unfold keepF; rw [am_set_c a, am_up_c b]
  have e00 : keepF g k 0 = g 0 := e0 0 (by decide) (by decide)
  have e : SpE0 (keepF g k) g := ⟨e0 _ (by decide) (by decide), e0 _ (by decide) (by decide), by rw [e00], by rw [e00], by rw [e00]⟩
  have eK : keepF g k 25 = keepC g k := by unfold keepF; rw [am_set_c (by decide), am_up_s]
  refine ⟨a1.eq (e0 _ (by decide) (by decide)) (e0 _ (by decide) (by decide)), a2.eq (e0 _ (by decide) (by decide)) (e0 _ (by decide) (by decide)), a3.of3 (by rw [e00]) (by rw [e00]) (by rw [e00]) (fun c x y => e0 c (by omega) (by omega)), a4.eq e (by rw [e00]) (by rw [e00]) (e0 _ (by decide) (by decide)) (e0 _ (by decide) (by decide)), fun j x y => ?_, fun j x y z => ?_⟩
  · unfold keepF
    by_cases q : j = k
    · rw [q, am_set_s]; exact Or.inr rfl
    · rw [am_set_i q, am_up_c (by decide)]; exact a5 j x y
  · rw [e.1, e.2.1, e.2.2.1, e.2.2.2.1, e.2.2.2.2, eK]
    by_cases q : j = k
    · subst q
      have c16 : keepC g j (18 * j + 16) = g 0 18 := by unfold keepC; rw [if_neg (by omega), if_neg (by omega), if_pos rfl]
      have c17 : keepC g j (18 * j + 17) = g 0 19 := by unfold keepC; rw [if_neg (by omega), if_neg (by omega), if_neg (by omega), if_pos rfl]
      rw [c16, c17]
      refine yrP.congr a4 (fun i u v => ?_) (fun i u v => ?_)
      · show keepC g j (18 * j + i) = g 14 i
        unfold keepC; rw [if_pos (by omega)]; congr 1; omega
      · show keepC g j (18 * j + 8 + i) = g 15 i
        unfold keepC; rw [if_neg (by omega), if_pos (by omega)]; congr 1; omega
    · have zk : g 24 j = 1 := by
        unfold keepF at z; rw [am_set_i q, am_up_c (by decide)] at z; exact z
      have old := a6 j x y zk
      have ho : ∀ i : Int, 0 ≤ i → i < 18 → keepC g k (18 * j + i) = g 25 (18 * j + i) := fun i u v => by
        unfold keepC; rw [if_neg (by omega), if_neg (by omega), if_neg (by omega), if_neg (by omega)]
      have hb := old.1
      rw [ho 16 (by decide) (by decide), ho 17 (by decide) (by decide)]
      refine yrP.congr old (fun i u v => ho i u (by omega)) (fun i u v => ?_)
      show keepC g k (18 * j + 8 + i) = g 25 (18 * j + 8 + i)
      rw [Int.add_assoc]; exact ho (8 + i) (by omega) (by omega)
theorem mo_keep {g : am_H} {k : Int} (h : MOX g) : MOX (S_keep g k).2 := by
  unfold S_keep; split
  · exact h
  · split
    · exact h
    · exact mo_keepF h (by omega)
theorem mo_on {g : am_H} {k : Int} (h : MOX g) : MOX (S_on g k).2 := by
  unfold S_on; split
  · exact h
  · split
    · exact h.find
    · rename_i h1 h2
      have hk : g 24 k = 1 := (h.2.2.2.2.1 k (by omega) (by omega)).resolve_left h2
      refine h.years (fun c a b d => ?_) (fun j a b => ?_) (h.2.2.2.2.2.on (by omega) (by omega) hk)
      · show onF g k c = g c
        unfold onF; rw [am_set_c a, am_set_c a, am_up_c d, am_up_c b]
      · show onF g k 0 j = g 0 j
        unfold onF; rw [am_set_i b, am_set_i a, am_up_c (by decide), am_up_c (by decide)]
theorem mo_odds {g : am_H} {m : Int} (h : MOX g) : MOX (S_odds g m).2 := by
  unfold S_odds; repeat' split
  all_goals first | exact h | exact h.tp
theorem mo_years {g : am_H} (h : MOX g) : MOX (S_years g).2 := by
  unfold S_years; repeat' split
  all_goals first | exact h | exact h.ask
theorem mo_just {g : am_H} {n : Int} (h : MOX g) : MOX (S_just g n).2 := by
  unfold S_just; repeat' split
  all_goals first | exact h | exact h.ask
theorem mo_known {g : am_H} (h : MOX g) : MOX (S_known g).2 := by
  unfold S_known; split
  · exact h
  · exact h
theorem mo_tell {g : am_H} (h : MOX g) : MOX (S_tell g).2 := by
  unfold S_tell; repeat' split
  all_goals first | exact h | exact h.ask
theorem mo_worst {g : am_H} (h : MOX g) : MOX (S_worst g).2 := by
  unfold S_worst; split
  · exact h
  · exact h.ask
theorem mo_hopes {g : am_H} (h : MOX g) : MOX (S_hopes g).2 := by
  unfold S_hopes; split
  · exact h
  · exact h.tp.ask
theorem mo_lk {g : am_H} {r : Int} (h : MOX g) : MOX (lkR g r).2 := by
  unfold lkR; repeat' split
  all_goals first | exact h | exact h.find
theorem mo_ls {g : am_H} {r : Int} (h : MOX g) : MOX (lsR g r).2 := by
  unfold lsR; split
  · exact mo_lk h
  · split
    · exact h
    · exact h.find
theorem mo_brings {g : am_H} {r : Int} (h : MOX g) : MOX (S_brings g r).2 := by
  unfold S_brings; repeat' split
  all_goals first | exact h | exact mo_lk h | exact h.find | exact h.ask
theorem mo_knows {g : am_H} {r : Int} (h : MOX g) : MOX (S_knows g r).2 := by
  unfold S_knows; repeat' split
  all_goals first | exact h | exact mo_lk h | exact h.find | exact h.ask
theorem mo_heard {g : am_H} {r : Int} (h : MOX g) : MOX (S_heard g r).2 := by
  unfold S_heard; repeat' split
  all_goals first | exact h | exact mo_ls h | exact h.ask
theorem mo_slips {g : am_H} {r : Int} (h : MOX g) : MOX (S_slips g r).2 := by
  unfold S_slips; repeat' split
  all_goals first | exact h | exact mo_ls h
theorem liF_rng {g : am_H} : ∀ (P : List Int), liV g P → ∀ i : Int, 0 ≤ i → i < P.length → 0 ≤ liF P i ∧ liF P i < g 0 10
  | [], _, i, a, b => by
    have : i < ((0 : Nat) : Int) := b
    omega
  | w :: P, hv, i, a, b => by
    have b2 : i < ((P.length + 1 : Nat) : Int) := b
    unfold liF
    split
    · exact hv.1
    · exact liF_rng P hv.2.2 i a (by omega)
theorem mo_first {g : am_H} {r to : Int} (h : MOX g) : MOX (S_first g r to).2 := by
  unfold S_first; split
  · exact h
  · split
    · exact mo_ls h
    · rename_i h1 h2
      obtain ⟨k0, k1, k2, k3, k4, k5⟩ := lsR_0 h2
      have hw := h.2.2.1.2.1
      have hm : ∀ P : List Int, fsR g r = some P → liV g P ∧ (P.length : Int) = g 1 r := by
        intro P hP
        rw [fs_ar ⟨k1, k2⟩] at hP
        have hin : P ∈ arL g (rsd g r) (g 1 r) 0 (g 1 r).toNat [] := List.mem_of_mem_head? hP
        unfold arL at hin
        rw [List.mem_filter, decide_eq_true_eq] at hin
        exact ⟨tr_liV h.2.2.1 _ [] _ trivial hin.1, hin.2.1.1⟩
      generalize fsR g r = T at hm
      cases T with
      | none => exact h
      | some P =>
        obtain ⟨m1, m2⟩ := hm P rfl
        refine h.rows (fun c a b => ?_) (up_ok h.1 ⟨k1, k2⟩ (fun i a b => ?_))
        · show fsF g to (g 1 r) P c = g c
          unfold fsF; rw [am_up_c b]; exact rowF_c a b
        · have := liF_rng P m1 i a (by omega)
          omega
theorem mo_least {g : am_H} {r : Int} (h : MOX g) : MOX (S_least g r).2 := by
  unfold S_least; split
  · exact h
  · split
    · exact mo_lk h
    · split
      · exact h.find
      · unfold lsX; split
        · exact h
        · exact h.ask
theorem mo_ltR : ∀ (f : Nat) (g : am_H) (lot k : Int), MOX g → ¬ g 0 6 = 0 → 0 ≤ lot → MOX (ltR f g lot k).2
  | 0, g, _, _, h, _, _ => h
  | f + 1, g, lot, k, h, h0, hl => by
    have hs := h.2.2.1
    have hy := h.2.2.2.1.y
    have hd0 : 0 ≤ dgF g (nowF g) := (cntF_rng _ _ _).1
    rw [ltR]
    split
    · exact h
    · rename_i e
      have hl1 : 0 ≤ ltN lot ∧ ltN lot < 2147483647 := tmod_in (by omega) (by decide)
      have hl2 : 0 ≤ (ltN lot).tmod (dgF g (nowF g)) ∧ (ltN lot).tmod (dgF g (nowF g)) < dgF g (nowF g) := tmod_in hl1.1 (by omega)
      have hlen := dg_len g (nowF g)
      have hlt : ((ltN lot).tmod (dgF g (nowF g))).toNat < (wl (g 7) (nowF g) (nwN g)).length := by omega
      have ew : ltW g lot ∈ wl (g 7) (nowF g) (nwN g) := by
        unfold ltW
        rw [List.getD_eq_getElem?_getD, List.getElem?_eq_getElem hlt]
        exact List.getElem_mem hlt
      obtain ⟨m1, m2, m3⟩ := wl_mem.mp ew
      have en : (nwN g : Int) = g 0 10 := by unfold nwN; have := hs.2.1; omega
      exact mo_ltR f _ _ _ (mo_sayF h ⟨m1, by omega⟩ m3) (by rw [say_0 (by decide) (by decide)]; exact h0) hl1.1
theorem mo_lots {g : am_H} {n seed : Int} (h : MOX g) : MOX (S_lots g n seed).2 := by
  unfold S_lots; split
  · exact h
  · split
    · exact h
    · exact mo_ltR _ _ _ _ h (by assumption) (by omega)
theorem mo_findings {g : am_H} {f : Int} (h : MOX g) : MOX (S_findings g f).2 := by
  unfold S_findings; split
  · exact h
  · exact h
theorem mo_speech {g : am_H} {t : Int} (h : MOX g) : MOX (S_speech g t).2 := by
  unfold S_speech; split
  · exact h
  · split
    · exact h.find
    · split
      · rename_i h1 h2 h3
        have hz := h.2.1.1 t (by omega) (by omega)
        have hPV : PV (g 3 t) (pT g t).2 := pAll_PV ⟨by omega, hz.2⟩
        have hn1 : 1 < (pT g t).2 0 1 := pLoop_t 82 _ h3
        have v0 : VS 0 := vs_b.mpr (by decide)
        have h00 : ∀ d : Int, 0 ≤ d → d < 4 → hw 0 d = 0 := by
          intro d a b
          have hc : d = 0 ∨ d = 1 ∨ d = 2 ∨ d = 3 := by omega
          rcases hc with q | q | q | q <;> subst q <;> decide
        refine ⟨h.1.eq rfl rfl, h.2.1.eq rfl rfl, sp_MVs hPV hn1, ⟨by show (0 : Int) ≤ 0 ∧ (0 : Int) ≤ 8; decide, fun _ => rfl, fun i a b => ?_, v0, fun i a b => ?_, fun d a b => ?_, fun i d a b => ?_⟩, fun k a b => Or.inl ?_, fun k a b c => ?_⟩
        · have : i < 0 := b
          omega
        · have : i < 0 := b
          omega
        · have hd := hPV.2.2.2.1
          have a2 : (pT g t).2 0 3 ≤ d := a
          exact h00 d (Int.le_trans hd.1 a2) b
        · have : i < 0 := b
          omega
        · show lo 3 (fun _ => 0) (g 24) k = 0
          unfold lo; rw [if_pos ⟨a, b⟩]
        · have e : spF g (pT g t).2 24 k = 0 := by
            show lo 3 (fun _ => 0) (g 24) k = 0
            unfold lo; rw [if_pos ⟨a, b⟩]
          have c2 : spF g (pT g t).2 24 k = 1 := c
          rw [e] at c2; exact absurd c2 (by decide)
      · exact h
