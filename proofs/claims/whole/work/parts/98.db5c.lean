/-! the tables at the law's entry -/
theorem k_cls {args : Array Value} {s : State} {ty : FieldType} (h : (Cond.arrayClass ty).before args s = true) : ∃ cA : ClassId, ArrOfT s cA ty ∧ s.vm.findClass ("[" ++ ty.toString) = some cA := by
  obtain ⟨cA, kA, comp, h1, h2, h3⟩ := Cond.arrayClass_spec h
  exact ⟨cA, fun n z => ⟨fun k h => (by cases h), kA, h2, comp, h3⟩, h1⟩
theorem k_ovA {args : Array Value} {s : State} {t : FieldType} (h : (Cond.arrayOver (.array t)).before args s = true) : ∃ cA : ClassId, ArrOfT s cA (.array t) ∧ va_RA s cA (.array t) := by
  obtain ⟨comp, cA, kA, hcomp, hkA, hkindA, hnameA⟩ := Cond.arrayOver_specA h
  exact ⟨cA, fun n z => ⟨fun k h => (by cases h), kA, hkA, comp, hkindA⟩, hnameA⟩
theorem k_ovO {args : Array Value} {s : State} {C : String} (h : (Cond.arrayOver (.object C)).before args s = true) : ∃ cA : ClassId, ArrOfT s cA (.object C) ∧ va_RA s cA (.object C) := by
  obtain ⟨comp, cA, kA, hcomp, hidx, hkA, hkindA, hnameA⟩ := Cond.arrayOver_spec h
  exact ⟨cA, fun n z => ⟨fun k h => (by cases h), kA, hkA, comp, hkindA⟩, kA, comp, hkA, hkindA, hcomp, hnameA⟩
theorem k_ov {s : State} {b : Nat} (ht : ∀ w ∈ lw_tbl, w.before #[Value.ref b] s = true) : nc_ov s ∧ nc_ne s :=
  ⟨⟨ht (.arrayOver (.array .int)) (by decide +kernel), ht (.arrayOver (.array .byte)) (by decide +kernel), ht (.arrayOver (.object "YearWord$Years")) (by decide +kernel)⟩, va_Nw.of rfl (ht (.methodLinkNest RX7 28 yX5_init RX7) (by decide +kernel)), va_Nw.of rfl (ht (.methodLinkNest RX7 70 yX6_init RX7) (by decide +kernel))⟩
theorem k_all {s : State} {b : Nat} (ht : ∀ w ∈ lw_tbl, w.before #[Value.ref b] s = true) (hts : ∀ w ∈ am_tb, w.before #[Value.ref b] s = true) : ∃ (dC : Nat → ClassId) (dI : Nat → Nat → Nat) (cT : Nat → ClassId), va_K (dC, dI) vwCl (am_tys cT) s := by
  obtain ⟨t0, x0, y0⟩ := k_cls (hts _ (am_m1 108 rfl))
  obtain ⟨t1, x1, y1⟩ := k_cls (hts _ (am_m1 109 rfl))
  obtain ⟨t2, x2, y2⟩ := k_cls (hts _ (am_m5 136 rfl))
  obtain ⟨t3, x3, y3⟩ := k_cls (hts _ (am_m5 137 rfl))
  obtain ⟨t4, x4, y4⟩ := k_ovA (k_ov ht).1.1
  obtain ⟨t5, x5, y5⟩ := k_ovA (k_ov ht).1.2.1
  obtain ⟨t6, x6, y6⟩ := k_ovO (k_ov ht).1.2.2
  obtain ⟨c0, i0, k0⟩ := u_known hts inX_X1 (hts _ (am_m1 198 rfl))
  obtain ⟨c1, i1, k1⟩ := u_known hts inX_X2 (hts _ (am_m1 130 rfl))
  obtain ⟨c2, i2, k2⟩ := u_known hts inX_X3 (hts _ (am_m1 176 rfl))
  obtain ⟨c3, i3, k3⟩ := u_known hts inX_X4 (hts _ (am_m1 111 rfl))
  obtain ⟨c4, i4, k4⟩ := u_known hts inX_X5 (hts _ (am_m1 27 rfl))
  obtain ⟨c5, i5, k5⟩ := u_known hts inX_X6 (hts _ (am_m2 2 rfl))
  obtain ⟨c6, i6, k6⟩ := u_known hts inX_X7 (hts _ (am_m1 15 rfl))
  obtain ⟨c7, i7, k7⟩ := u_known hts inX_X8 (hts _ (am_m4 217 rfl))
  refine ⟨fun i => [c0, c1, c2, c3, c4, c5, c6, c7].getD i 0, fun i => [i0, i1, i2, i3, i4, i5, i6, i7].getD i (fun _ => 0), fun i => [t0, t1, t2, t3, t4, t5, t6].getD i 0, fun c q hq => ?_, fun k q hq => ?_⟩
  · match c, hq with
    | 0, hq => cases hq; exact k0
    | 1, hq => cases hq; exact k1
    | 2, hq => cases hq; exact k2
    | 3, hq => cases hq; exact k3
    | 4, hq => cases hq; exact k4
    | 5, hq => cases hq; exact k5
    | 6, hq => cases hq; exact k6
    | 7, hq => cases hq; exact k7
    | j + 8, hq => exact absurd hq (by simp)
  · match k, hq with
    | 0, hq => cases hq; exact ⟨x0, y0⟩
    | 1, hq => cases hq; exact ⟨x1, y1⟩
    | 2, hq => cases hq; exact ⟨x2, y2⟩
    | 3, hq => cases hq; exact ⟨x3, y3⟩
    | 4, hq => cases hq; exact ⟨x4, y4⟩
    | 5, hq => cases hq; exact ⟨x5, y5⟩
    | 6, hq => cases hq; exact ⟨x6, y6⟩
    | j + 7, hq => exact absurd hq (by simp)
/-! where the cells lie -/
theorem nc_left {D : va_G} {cl : List vw_C} {w1 w2 : va_W} {H : Heap} (h : va_P D cl (w1 ++ w2) H) : va_P D cl w1 H := fun k q hq => h k q (by rw [List.getElem?_append_left (List.getElem?_eq_some_iff.mp hq).1]; exact hq)
theorem nc_right {D : va_G} {cl : List vw_C} {w1 w2 : va_W} {H : Heap} (h : va_P D cl (w1 ++ w2) H) : va_P D cl w2 H := fun k q hq => h (w1.length + k) q (by rw [List.getElem?_append_right (by omega), Nat.add_sub_cancel_left]; exact hq)
theorem nc_at1 {cT : Nat → ClassId} {ad : Int → Nat} {G : List am_K} {h : am_H} {w2 : va_W} {i : Nat} (hi : i < G.length) : ∃ e : va_E, (am_W cT ad G h ++ w2)[i]? = some (ad i, e) := by
  refine ⟨am_ent cT ad G[i] (h i), ?_⟩
  rw [List.getElem?_append_left (by unfold am_W; rw [List.length_mapIdx]; exact hi)]
  exact am_W_at (List.getElem?_eq_getElem hi)
theorem nc_at2 {cT : Nat → ClassId} {ad ad2 : Int → Nat} {G G2 : List am_K} {h g : am_H} {i : Nat} (hi : i < G2.length) : ∃ e : va_E, (am_W cT ad G h ++ am_W cT ad2 G2 g)[G.length + i]? = some (ad2 i, e) := by
  refine ⟨am_ent cT ad2 G2[i] (g i), ?_⟩
  have e : (am_W cT ad G h).length = G.length := by unfold am_W; rw [List.length_mapIdx]
  rw [List.getElem?_append_right (by omega), e, Nat.add_sub_cancel_left]
  exact am_W_at (List.getElem?_eq_getElem hi)
theorem wA_g6 : nc_m1 6 = fun j : Nat => Int32.ofInt (gI 1 j) := by
  funext j
  show (if j < 6 then (-1 : Int32) else 0) = Int32.ofInt (if 0 ≤ (j : Int) ∧ (j : Int) < 6 then -1 else 0)
  by_cases hj : j < 6
  · rw [if_pos hj, if_pos (by omega)]; rfl
  · rw [if_neg hj, if_neg (by omega)]; rfl
theorem wA_g4 : nc_m1 4 = fun j : Nat => Int32.ofInt (gI 3 j) := by
  funext j
  show (if j < 4 then (-1 : Int32) else 0) = Int32.ofInt (if 0 ≤ (j : Int) ∧ (j : Int) < 4 then -1 else 0)
  by_cases hj : j < 4
  · rw [if_pos hj, if_pos (by omega)]; rfl
  · rw [if_neg hj, if_neg (by omega)]; rfl
/-! worlds by their cells -/
theorem en0 {cT : Nat → ClassId} {ad : Int → Nat} {n : Nat} {b : Int} {f : Int → Int} (hz : ∀ j, f j = 0) : am_ent cT ad (.inr (0, n, b)) f = .inl (cT 0, (n, .inl (fun _ => 0))) := by
  show Sum.inl (cT 0, (n, Sum.inl (fun j : Nat => Int32.ofInt (f j)))) = _
  rw [show (fun j : Nat => Int32.ofInt (f j)) = (fun _ => 0) from funext fun j => by rw [hz]; rfl]
theorem en1 {cT : Nat → ClassId} {ad : Int → Nat} {n : Nat} {b : Int} {f : Int → Int} (hz : ∀ j, f j = 0) : am_ent cT ad (.inr (1, n, b)) f = .inl (cT 1, (n, .inl (fun _ => 0))) := by
  show Sum.inl (cT 1, (n, Sum.inl (fun j : Nat => Int32.ofInt (f j)))) = _
  rw [show (fun j : Nat => Int32.ofInt (f j)) = (fun _ => 0) from funext fun j => by rw [hz]; rfl]
theorem en2 {cT : Nat → ClassId} {ad : Int → Nat} {n : Nat} {b : Int} {f : Int → Int} (hz : ∀ j, f j = 0) : am_ent cT ad (.inr (2, n, b)) f = .inl (cT 2, (n, .inl (fun _ => 0))) := by
  show Sum.inl (cT 2, (n, Sum.inl (fun j : Nat => Int32.ofInt (f j)))) = _
  rw [show (fun j : Nat => Int32.ofInt (f j)) = (fun _ => 0) from funext fun j => by rw [hz]; rfl]
theorem en3 {cT : Nat → ClassId} {ad : Int → Nat} {n : Nat} {b : Int} {f : Int → Int} (hz : ∀ j, f j = 0) : am_ent cT ad (.inr (3, n, b)) f = .inl (cT 3, (n, .inr (.inl (fun _ => 0)))) := by
  show Sum.inl (cT 3, (n, Sum.inr (Sum.inl (fun j : Nat => Int64.ofInt (f j))))) = _
  rw [show (fun j : Nat => Int64.ofInt (f j)) = (fun _ => 0) from funext fun j => by rw [hz]; rfl]
theorem en_o {cT : Nat → ClassId} {ad : Int → Nat} {ci : Nat} {fts : List (Nat × Int)} {f : Int → Int} {vs : List Value} (h : (fts.mapIdx fun i t => am_fv ad t (f i)) = vs) : am_ent cT ad (.inl (ci, fts)) f = .inr (ci, vs) := by rw [← h]; rfl
theorem am_W_ext {cT : Nat → ClassId} {ad : Int → Nat} {G : List am_K} {h : am_H} {w : va_W} (hl : w.length = G.length) (hs : ∀ (i : Nat) (k : am_K), G[i]? = some k → w[i]? = some (ad i, am_ent cT ad k (h i))) : w = am_W cT ad G h := by
  apply List.ext_getElem?
  intro i
  by_cases hi : i < G.length
  · rw [am_W_at (List.getElem?_eq_getElem hi)]
    exact hs i _ (List.getElem?_eq_getElem hi)
  · rw [List.getElem?_eq_none (by omega), List.getElem?_eq_none (by unfold am_W; rw [List.length_mapIdx]; omega)]
/-- a heap's cells, as they lie in a list, in another order -/
theorem nc_key {D : va_G} {cl : List vw_C} {cT : Nat → ClassId} {ad : Int → Nat} {G : List am_K} {h : am_H} {w : va_W} {H : Heap} {A : Nat → Prop} (is : List Nat) (hn : va_nd is = true) (hl : is.length = G.length) (hP : va_P D cl w H) (hD : va_D A w) (hs : ∀ (i j : Nat) (k : am_K), G[i]? = some k → is[i]? = some j → w[j]? = some (ad i, am_ent cT ad k (h i))) : va_P D cl (am_W cT ad G h) H ∧ va_D A (am_W cT ad G h) := by
  have key : ∀ (i : Nat) (q : Nat × va_E), (am_W cT ad G h)[i]? = some q → ∃ j, is[i]? = some j ∧ w[j]? = some q := by
    intro i q hq
    have hi : i < G.length := by have := (List.getElem?_eq_some_iff.mp hq).1; unfold am_W at this; rwa [List.length_mapIdx] at this
    have hi2 : i < is.length := by omega
    refine ⟨is[i], List.getElem?_eq_getElem hi2, ?_⟩
    rw [hs i _ _ (List.getElem?_eq_getElem hi) (List.getElem?_eq_getElem hi2), ← hq]
    exact (am_W_at (List.getElem?_eq_getElem hi)).symm
  refine ⟨fun i q hq => ?_, fun i j x y hi hj hxy => ?_, fun i q hq => ?_⟩
  · obtain ⟨j, -, h2⟩ := key i q hq
    exact hP j q h2
  · obtain ⟨a, h1, h2⟩ := key i x hi
    obtain ⟨b, h3, h4⟩ := key j y hj
    have hab := hD.1 a b x y h2 h4 hxy
    subst hab
    exact va_nd_inj is hn i j a h1 h3
  · obtain ⟨a, -, h2⟩ := key i q hq
    exact hD.2 a q h2
set_option maxRecDepth 100000 in
theorem wX8_o {ad : Int → Nat} : (([(2, 1), (2, 2), (2, 3), (2, 4), (2, 5), (2, 6), (0, 0), (2, 7), (2, 8), (2, 9), (0, 0), (2, 10), (2, 11), (2, 12), (2, 13), (0, 0), (2, 14), (2, 15), (0, 0), (0, 0), (0, 0), (1, 0), (1, 0), (0, 0), (2, 16), (2, 17), (0, 0), (2, 18), (2, 19), (0, 0), (2, 20), (0, 0), (2, 21), (0, 0), (2, 22), (2, 23), (2, 24), (2, 25), (2, 26), (2, 27), (2, 28), (2, 29), (2, 30), (2, 31), (2, 32), (2, 33), (2, 34), (2, 35), (0, 0), (2, 36), (1, 0)] : List (Nat × Int)).mapIdx fun i t => am_fv ad t (gI 0 i)) = [.ref (ad 1), .ref (ad 2), .ref (ad 3), .ref (ad 4), .ref (ad 5), .ref (ad 6), .int 0, .ref (ad 7), .ref (ad 8), .ref (ad 9), .int 0, .ref (ad 10), .ref (ad 11), .ref (ad 12), .ref (ad 13), .int 0, .ref (ad 14), .ref (ad 15), .int 0, .int 0, .int 0, .long 0, .long 1, .int 0, .ref (ad 16), .ref (ad 17), .int 0, .ref (ad 18), .ref (ad 19), .int 0, .ref (ad 20), .int 0, .ref (ad 21), .int 0, .ref (ad 22), .ref (ad 23), .ref (ad 24), .ref (ad 25), .ref (ad 26), .ref (ad 27), .ref (ad 28), .ref (ad 29), .ref (ad 30), .ref (ad 31), .ref (ad 32), .ref (ad 33), .ref (ad 34), .ref (ad 35), .int 0, .ref (ad 36), .long 0] := by
  simp only [List.mapIdx_cons, List.mapIdx_nil]
  rfl
set_option maxRecDepth 100000 in
theorem wX8_eq {cT : Nat → ClassId} {h0 : Nat} {a : Nat → Nat} : wX8 cT h0 a = am_W cT (wA [h0, a 1, a 2, a 3, a 4, a 5, a 6, a 7, a 8, a 9, a 10, a 11, a 12, a 13, a 14, a 15, a 16, a 17, a 18, a 19, a 20, a 21, a 22, a 23, a 24, a 25, a 26, a 27, a 28, a 29, a 30, a 31, a 32, a 33, a 34, a 35, a 36]) GM gI := by
  refine am_W_ext rfl (fun i k hk => ?_)
  match i, hk with
  | 0, hk => cases hk; exact congrArg some (Prod.ext rfl (en_o (cT := cT) (ci := 7) (wX8_o (ad := wA [h0, a 1, a 2, a 3, a 4, a 5, a 6, a 7, a 8, a 9, a 10, a 11, a 12, a 13, a 14, a 15, a 16, a 17, a 18, a 19, a 20, a 21, a 22, a 23, a 24, a 25, a 26, a 27, a 28, a 29, a 30, a 31, a 32, a 33, a 34, a 35, a 36]))).symm)
  | 1, hk => cases hk; exact congrArg some (Prod.ext rfl (show (Sum.inl (cT 0, (6, Sum.inl (nc_m1 6))) : va_E) = _ by rw [wA_g6]; rfl))
  | 2, hk => cases hk; exact congrArg some (Prod.ext rfl (en0 (fun j => gI_x (by decide) (by decide) (by decide))).symm)
  | 3, hk => cases hk; exact congrArg some (Prod.ext rfl (show (Sum.inl (cT 0, (4, Sum.inl (nc_m1 4))) : va_E) = _ by rw [wA_g4]; rfl))
  | 4, hk => cases hk; exact congrArg some (Prod.ext rfl (en0 (fun j => gI_x (by decide) (by decide) (by decide))).symm)
  | 5, hk => cases hk; exact congrArg some (Prod.ext rfl (en0 (fun j => gI_x (by decide) (by decide) (by decide))).symm)
  | 6, hk => cases hk; exact congrArg some (Prod.ext rfl (en0 (fun j => gI_x (by decide) (by decide) (by decide))).symm)
  | 7, hk => cases hk; exact congrArg some (Prod.ext rfl (en0 (fun j => gI_x (by decide) (by decide) (by decide))).symm)
  | 8, hk => cases hk; exact congrArg some (Prod.ext rfl (en0 (fun j => gI_x (by decide) (by decide) (by decide))).symm)
  | 9, hk => cases hk; exact congrArg some (Prod.ext rfl (en0 (fun j => gI_x (by decide) (by decide) (by decide))).symm)
  | 10, hk => cases hk; exact congrArg some (Prod.ext rfl (en0 (fun j => gI_x (by decide) (by decide) (by decide))).symm)
  | 11, hk => cases hk; exact congrArg some (Prod.ext rfl (en0 (fun j => gI_x (by decide) (by decide) (by decide))).symm)
  | 12, hk => cases hk; exact congrArg some (Prod.ext rfl (en0 (fun j => gI_x (by decide) (by decide) (by decide))).symm)
  | 13, hk => cases hk; exact congrArg some (Prod.ext rfl (en0 (fun j => gI_x (by decide) (by decide) (by decide))).symm)
  | 14, hk => cases hk; exact congrArg some (Prod.ext rfl (en0 (fun j => gI_x (by decide) (by decide) (by decide))).symm)
  | 15, hk => cases hk; exact congrArg some (Prod.ext rfl (en0 (fun j => gI_x (by decide) (by decide) (by decide))).symm)
  | 16, hk => cases hk; exact congrArg some (Prod.ext rfl (en0 (fun j => gI_x (by decide) (by decide) (by decide))).symm)
  | 17, hk => cases hk; exact congrArg some (Prod.ext rfl (en0 (fun j => gI_x (by decide) (by decide) (by decide))).symm)
  | 18, hk => cases hk; exact congrArg some (Prod.ext rfl (en0 (fun j => gI_x (by decide) (by decide) (by decide))).symm)
  | 19, hk => cases hk; exact congrArg some (Prod.ext rfl (en0 (fun j => gI_x (by decide) (by decide) (by decide))).symm)
  | 20, hk => cases hk; exact congrArg some (Prod.ext rfl (en0 (fun j => gI_x (by decide) (by decide) (by decide))).symm)
  | 21, hk => cases hk; exact congrArg some (Prod.ext rfl (en0 (fun j => gI_x (by decide) (by decide) (by decide))).symm)
  | 22, hk => cases hk; exact congrArg some (Prod.ext rfl (en0 (fun j => gI_x (by decide) (by decide) (by decide))).symm)
  | 23, hk => cases hk; exact congrArg some (Prod.ext rfl (en0 (fun j => gI_x (by decide) (by decide) (by decide))).symm)
  | 24, hk => cases hk; exact congrArg some (Prod.ext rfl (en2 (fun j => gI_x (by decide) (by decide) (by decide))).symm)
  | 25, hk => cases hk; exact congrArg some (Prod.ext rfl (en0 (fun j => gI_x (by decide) (by decide) (by decide))).symm)
  | 26, hk => cases hk; exact congrArg some (Prod.ext rfl (en3 (fun j => gI_x (by decide) (by decide) (by decide))).symm)
  | 27, hk => cases hk; exact congrArg some (Prod.ext rfl (en0 (fun j => gI_x (by decide) (by decide) (by decide))).symm)
  | 28, hk => cases hk; exact congrArg some (Prod.ext rfl (en0 (fun j => gI_x (by decide) (by decide) (by decide))).symm)
  | 29, hk => cases hk; exact congrArg some (Prod.ext rfl (en0 (fun j => gI_x (by decide) (by decide) (by decide))).symm)
  | 30, hk => cases hk; exact congrArg some (Prod.ext rfl (en0 (fun j => gI_x (by decide) (by decide) (by decide))).symm)
  | 31, hk => cases hk; exact congrArg some (Prod.ext rfl (en3 (fun j => gI_x (by decide) (by decide) (by decide))).symm)
  | 32, hk => cases hk; exact congrArg some (Prod.ext rfl (en0 (fun j => gI_x (by decide) (by decide) (by decide))).symm)
  | 33, hk => cases hk; exact congrArg some (Prod.ext rfl (en2 (fun j => gI_x (by decide) (by decide) (by decide))).symm)
  | 34, hk => cases hk; exact congrArg some (Prod.ext rfl (en2 (fun j => gI_x (by decide) (by decide) (by decide))).symm)
  | 35, hk => cases hk; exact congrArg some (Prod.ext rfl (en0 (fun j => gI_x (by decide) (by decide) (by decide))).symm)
  | 36, hk => cases hk; exact congrArg some (Prod.ext rfl (en2 (fun j => gI_x (by decide) (by decide) (by decide))).symm)
  | j + 37, hk => exact absurd hk (by simp [GM])
