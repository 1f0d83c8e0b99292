section AMROWS
variable {G : List am_K} {M : am_M} {d : Nat} {Q : Option am_V → am_H → Prop} {pc : Nat} {ls : List (Option am_V)} {st : List am_V} {h : am_H}
theorem am_toI {a : Int} (ha : -2147483648 ≤ a ∧ a < 2147483648) : (Int32.ofInt a).toInt = a := Int32.toInt_ofInt_of_le (by omega) (by omega)
theorem am_toJ {a : Int} (ha : -9223372036854775808 ≤ a ∧ a < 9223372036854775808) : (Int64.ofInt a).toInt = a := Int64.toInt_ofInt_of_le (by omega) (by omega)
theorem am_lt {a b : Int} (ha : -2147483648 ≤ a ∧ a < 2147483648) (hb : -2147483648 ≤ b ∧ b < 2147483648) : Int32.ofInt a < Int32.ofInt b ↔ a < b := by rw [Int32.lt_iff_toInt_lt, am_toI ha, am_toI hb]
theorem am_le {a b : Int} (ha : -2147483648 ≤ a ∧ a < 2147483648) (hb : -2147483648 ≤ b ∧ b < 2147483648) : Int32.ofInt a ≤ Int32.ofInt b ↔ a ≤ b := by rw [Int32.le_iff_toInt_le, am_toI ha, am_toI hb]
theorem am_eq {a b : Int} (ha : -2147483648 ≤ a ∧ a < 2147483648) (hb : -2147483648 ≤ b ∧ b < 2147483648) : Int32.ofInt a = Int32.ofInt b ↔ a = b := by rw [← Int32.toInt_inj, am_toI ha, am_toI hb]
theorem am_ltJ {a b : Int} (ha : -9223372036854775808 ≤ a ∧ a < 9223372036854775808) (hb : -9223372036854775808 ≤ b ∧ b < 9223372036854775808) : Int64.ofInt a < Int64.ofInt b ↔ a < b := by rw [Int64.lt_iff_toInt_lt, am_toJ ha, am_toJ hb]
theorem am_eqJ {a b : Int} (ha : -9223372036854775808 ≤ a ∧ a < 9223372036854775808) (hb : -9223372036854775808 ≤ b ∧ b < 9223372036854775808) : Int64.ofInt a = Int64.ofInt b ↔ a = b := by rw [← Int64.toInt_inj, am_toJ ha, am_toJ hb]
theorem am_cl {a : Int} (h0 : 0 ≤ a) (ha : a < 2147483648) : (Int32.ofInt a).toNatClampNeg = a.toNat := by
  rw [Int32.toNatClampNeg_ofInt_of_le (by omega) (by omega)]
theorem am_in {a : Int} {n : Nat} (hi : 0 ≤ a ∧ a < n) (hn : n < 65536) : vp_in (Int32.ofInt a) n := by
  intro q
  have h1 := am_cl hi.1 (by omega)
  rw [show (0 : Int32) = Int32.ofInt 0 from rfl, am_lt (by omega) (by omega), h1] at q
  omega

theorem aw_iconst {n : Int} (hd : decode M.2.2.1 pc = .ok (.iconst n, 1)) (k : AW G M d Q (pc + 1) ls (am_I n :: st) h) : AW G M d Q pc ls (st) h := by
  intro p l e s m args below meth c H locs dC dI cT ad A lsC C hP hD hS hL
  exact lv_iconst C.1 C.2.1 hd rfl (k p l e s m args below meth c H locs dC dI cT ad A lsC C hP hD hS hL)
theorem aw_bipush {n : Int} (hn : -128 ≤ n ∧ n < 128) (hd : decode M.2.2.1 pc = .ok (.bipush n, 2)) (k : AW G M d Q (pc + 2) ls (am_I n :: st) h) : AW G M d Q pc ls st h := by
  intro p l e s m args below meth c H locs dC dI cT ad A lsC C hP hD hS hL
  have he : (Int8.ofInt n).toInt32 = Int32.ofInt n := by rw [← Int32.toInt_inj, Int8.toInt_toInt32, Int8.toInt_ofInt_of_le (by omega) (by omega), am_toI (by omega)]
  exact lv_bipush C.1 C.2.1 hd he (k p l e s m args below meth c H locs dC dI cT ad A lsC C hP hD hS hL)
theorem aw_sipush {n : Int} (hn : -32768 ≤ n ∧ n < 32768) (hd : decode M.2.2.1 pc = .ok (.sipush n, 3)) (k : AW G M d Q (pc + 3) ls (am_I n :: st) h) : AW G M d Q pc ls st h := by
  intro p l e s m args below meth c H locs dC dI cT ad A lsC C hP hD hS hL
  have he : (Int16.ofInt n).toInt32 = Int32.ofInt n := by rw [← Int32.toInt_inj, Int16.toInt_toInt32, Int16.toInt_ofInt_of_le (by omega) (by omega), am_toI (by omega)]
  exact lv_sipush C.1 C.2.1 hd he (k p l e s m args below meth c H locs dC dI cT ad A lsC C hP hD hS hL)
theorem aw_lconst {n : Fin 2} {v : Int} (hd : decode M.2.2.1 pc = .ok (.lconst n, 1)) (hv : ((n : Nat) : Int) = v) (k : AW G M d Q (pc + 1) ls (am_J v :: st) h) : AW G M d Q pc ls st h := by
  subst hv
  intro p l e s m args below meth c H locs dC dI cT ad A lsC C hP hD hS hL
  exact lv_lconst C.1 C.2.1 hd (Int64.ofInt_eq_ofNat).symm (k p l e s m args below meth c H locs dC dI cT ad A lsC C hP hD hS hL)
theorem aw_ldc {index : Nat} {v : Int32} {n : Int} (hw : Cond.constant M.1 index v ∈ am_tb) (hn : Int32.ofInt n = v) (hd : decode M.2.2.1 pc = .ok (.ldc index, 2)) (k : AW G M d Q (pc + 2) ls (am_I n :: st) h) : AW G M d Q pc ls st h := by
  subst hn
  intro p l e s m args below meth c H locs dC dI cT ad A lsC C hP hD hS hL
  exact lv_ldc C.1 C.2.1 C.2.2.2.2.1 (C.2.2.2.2.2.1 _ hw) hd (k p l e s m args below meth c H locs dC dI cT ad A lsC C hP hD hS hL)
theorem aw_ldcw {index : Nat} {v : Int32} {n : Int} (hw : Cond.constant M.1 index v ∈ am_tb) (hn : Int32.ofInt n = v) (hd : decode M.2.2.1 pc = .ok (.ldc_w index, 3)) (k : AW G M d Q (pc + 3) ls (am_I n :: st) h) : AW G M d Q pc ls st h := by
  subst hn
  intro p l e s m args below meth c H locs dC dI cT ad A lsC C hP hD hS hL
  exact lv_ldcw C.1 C.2.1 C.2.2.2.2.1 (C.2.2.2.2.2.1 _ hw) hd (k p l e s m args below meth c H locs dC dI cT ad A lsC C hP hD hS hL)
theorem aw_ldc2 {index : Nat} {v : Int64} {n : Int} (hw : Cond.constantLong M.1 index v ∈ am_tb) (hn : Int64.ofInt n = v) (hd : decode M.2.2.1 pc = .ok (.ldc2_w index, 3)) (k : AW G M d Q (pc + 3) ls (am_J n :: st) h) : AW G M d Q pc ls st h := by
  subst hn
  intro p l e s m args below meth c H locs dC dI cT ad A lsC C hP hD hS hL
  exact lv_ldc2 C.1 C.2.1 C.2.2.2.2.1 (C.2.2.2.2.2.1 _ hw) hd (k p l e s m args below meth c H locs dC dI cT ad A lsC C hP hD hS hL)
theorem aw_iload_n {kk : Fin 4} {v : Int} (hd : decode M.2.2.1 pc = .ok (.iload_n kk, 1)) (hl : ls[(kk : Nat)]? = some (some (am_I v))) (k : AW G M d Q (pc + 1) ls (am_I v :: st) h) : AW G M d Q pc ls st h := by
  intro p l e s m args below meth c H locs dC dI cT ad A lsC C hP hD hS hL
  exact lv_iload_n C.1 C.2.1 hd rfl (hL.2.2 _ _ hl) (k p l e s m args below meth c H locs dC dI cT ad A lsC C hP hD hS hL)
theorem aw_iload {i : Nat} {v : Int} (hd : decode M.2.2.1 pc = .ok (.iload i, 2)) (hl : ls[i]? = some (some (am_I v))) (k : AW G M d Q (pc + 2) ls (am_I v :: st) h) : AW G M d Q pc ls st h := by
  intro p l e s m args below meth c H locs dC dI cT ad A lsC C hP hD hS hL
  exact lv_iload C.1 C.2.1 hd (hL.2.2 _ _ hl) (k p l e s m args below meth c H locs dC dI cT ad A lsC C hP hD hS hL)
theorem aw_lload_n {kk : Fin 4} {v : Int} (hd : decode M.2.2.1 pc = .ok (.lload_n kk, 1)) (hl : ls[(kk : Nat)]? = some (some (am_J v))) (k : AW G M d Q (pc + 1) ls (am_J v :: st) h) : AW G M d Q pc ls st h := by
  intro p l e s m args below meth c H locs dC dI cT ad A lsC C hP hD hS hL
  exact lv_lload_n C.1 C.2.1 hd rfl (hL.2.2 _ _ hl) (k p l e s m args below meth c H locs dC dI cT ad A lsC C hP hD hS hL)
theorem aw_lload {i : Nat} {v : Int} (hd : decode M.2.2.1 pc = .ok (.lload i, 2)) (hl : ls[i]? = some (some (am_J v))) (k : AW G M d Q (pc + 2) ls (am_J v :: st) h) : AW G M d Q pc ls st h := by
  intro p l e s m args below meth c H locs dC dI cT ad A lsC C hP hD hS hL
  exact lv_lload C.1 C.2.1 hd (hL.2.2 _ _ hl) (k p l e s m args below meth c H locs dC dI cT ad A lsC C hP hD hS hL)
theorem aw_aload_n {kk : Fin 4} {v : Int} (hd : decode M.2.2.1 pc = .ok (.aload_n kk, 1)) (hl : ls[(kk : Nat)]? = some (some (am_R v))) (k : AW G M d Q (pc + 1) ls (am_R v :: st) h) : AW G M d Q pc ls st h := by
  intro p l e s m args below meth c H locs dC dI cT ad A lsC C hP hD hS hL
  exact lv_aload_n C.1 C.2.1 hd rfl (hL.2.2 _ _ hl) (k p l e s m args below meth c H locs dC dI cT ad A lsC C hP hD hS hL)
theorem aw_aload {i : Nat} {v : Int} (hd : decode M.2.2.1 pc = .ok (.aload i, 2)) (hl : ls[i]? = some (some (am_R v))) (k : AW G M d Q (pc + 2) ls (am_R v :: st) h) : AW G M d Q pc ls st h := by
  intro p l e s m args below meth c H locs dC dI cT ad A lsC C hP hD hS hL
  exact lv_aload C.1 C.2.1 hd (hL.2.2 _ _ hl) (k p l e s m args below meth c H locs dC dI cT ad A lsC C hP hD hS hL)
def am_al (ad : Int → Nat) (ls : List (Option am_V)) : List (Nat × Value) := (List.range ls.length).filterMap fun i => match ls[i]? with
  | some (some v) => some (i, am_cv ad v)
  | _ => none
theorem am_al_mem {ad : Int → Nat} {ls : List (Option am_V)} {q : Nat × Value} : q ∈ am_al ad ls ↔ ∃ (i : Nat) (v : am_V), ls[i]? = some (some v) ∧ q = (i, am_cv ad v) := by
  unfold am_al
  rw [List.mem_filterMap]
  constructor
  · rintro ⟨i, -, hi⟩
    split at hi
    · rename_i v hv
      exact ⟨i, v, hv, (Option.some.inj hi).symm⟩
    · cases hi
  · rintro ⟨i, v, hv, rfl⟩
    refine ⟨i, List.mem_range.mpr (List.getElem?_eq_some_iff.mp hv).1, ?_⟩
    rw [hv]
theorem am_has {ad : Int → Nat} {lsC : Array Slot} {nL : Nat} {ls : List (Option am_V)} (h : am_Ls ad lsC nL ls) : lv_has lsC nL (am_al ad ls) := by
  refine ⟨h.1, h.2.1, fun q hq => ?_⟩
  obtain ⟨i, v, hv, rfl⟩ := am_al_mem.mp hq
  exact h.2.2 i v hv
/-- no long just below i -/
def am_nl (ls : List (Option am_V)) (i : Nat) : Bool := match i with
  | 0 => true
  | j + 1 => match ls[j]? with
    | some (some (.inr (.inl _))) => false
    | _ => true
theorem am_cat2 {ad : Int → Nat} {v : am_V} (h : (am_cv ad v).category = 2) : ∃ a, v = am_J a := by
  rcases v with a | a | a
  · simp [am_cv, Value.category] at h
  · exact ⟨a, rfl⟩
  · simp [am_cv, Value.category] at h
theorem am_st1 {ad : Int → Nat} {lsC' : Array Slot} {nL i : Nat} {ls : List (Option am_V)} {v : am_V} (hn : am_nl ls i = true) (h : lv_has lsC' nL ((i, am_cv ad v) :: (am_al ad ls).filter (fun q => !(q.1 == i) && !(q.1 + 1 == i && q.2.category == 2)))) : am_Ls ad lsC' nL (ls.set i (some v)) := by
  refine ⟨h.1, h.2.1, fun j w hj => ?_⟩
  by_cases e : j = i
  · subst e
    rw [List.getElem?_set] at hj
    simp only [if_true] at hj
    split at hj
    · cases hj; exact h.2.2 _ List.mem_cons_self
    · cases hj
  · rw [List.getElem?_set_ne (Ne.symm e)] at hj
    refine h.2.2 (j, am_cv ad w) (List.mem_cons_of_mem _ (List.mem_filter.mpr ⟨am_al_mem.mpr ⟨j, w, hj, rfl⟩, ?_⟩))
    simp only [Bool.and_eq_true, Bool.not_eq_true', Bool.and_eq_false_iff, beq_eq_false_iff_ne]
    refine ⟨e, ?_⟩
    by_cases e2 : j + 1 = i
    · right
      intro hc
      obtain ⟨a, rfl⟩ := am_cat2 hc
      subst e2
      simp [am_nl, hj] at hn
    · left; exact e2
theorem am_st2 {ad : Int → Nat} {lsC' : Array Slot} {nL i : Nat} {ls : List (Option am_V)} {v : am_V} (hn : am_nl ls i = true) (h : lv_has lsC' nL ((i, am_cv ad v) :: (am_al ad ls).filter (fun q => !(q.1 == i) && (!(q.1 == i + 1) && !(q.1 + 1 == i && q.2.category == 2))))) : am_Ls ad lsC' nL ((ls.set i (some v)).set (i + 1) none) := by
  refine ⟨h.1, h.2.1, fun j w hj => ?_⟩
  by_cases e0 : j = i + 1
  · subst e0
    rw [List.getElem?_set] at hj
    simp only [if_true] at hj
    split at hj <;> cases hj
  rw [List.getElem?_set_ne (Ne.symm e0)] at hj
  by_cases e : j = i
  · subst e
    rw [List.getElem?_set] at hj
    simp only [if_true] at hj
    split at hj
    · cases hj; exact h.2.2 _ List.mem_cons_self
    · cases hj
  · rw [List.getElem?_set_ne (Ne.symm e)] at hj
    refine h.2.2 (j, am_cv ad w) (List.mem_cons_of_mem _ (List.mem_filter.mpr ⟨am_al_mem.mpr ⟨j, w, hj, rfl⟩, ?_⟩))
    simp only [Bool.and_eq_true, Bool.not_eq_true', Bool.and_eq_false_iff, beq_eq_false_iff_ne]
    refine ⟨e, e0, ?_⟩
    by_cases e2 : j + 1 = i
    · right
      intro hc
      obtain ⟨a, rfl⟩ := am_cat2 hc
      subst e2
      simp [am_nl, hj] at hn
    · left; exact e2
theorem aw_istoreG {i : Nat} {v : Int} {ls' : List (Option am_V)} (hd : decode M.2.2.1 pc = .ok (.istore i, 2)) (hi : i < M.2.2.2.1) (hn : am_nl ls i = true) (hs : ls.set i (some (am_I v)) = ls') (k : AW G M d Q (pc + 2) ls' st h) : AW G M d Q pc ls (am_I v :: st) h := by
  subst hs
  intro p l e s m args below meth c H locs dC dI cT ad A lsC C hP hD hS hL
  exact lv_istore C.1 C.2.1 hd (am_has hL) hi rfl (fun lsC' hl => k p l e s m args below meth c H locs dC dI cT ad A lsC' C hP hD hS (am_st1 hn hl))
theorem aw_istore_nG {kk : Fin 4} {v : Int} {ls' : List (Option am_V)} (hd : decode M.2.2.1 pc = .ok (.istore_n kk, 1)) (hi : (kk : Nat) < M.2.2.2.1) (hn : am_nl ls kk = true) (hs : ls.set (kk : Nat) (some (am_I v)) = ls') (k : AW G M d Q (pc + 1) ls' st h) : AW G M d Q pc ls (am_I v :: st) h := by
  subst hs
  intro p l e s m args below meth c H locs dC dI cT ad A lsC C hP hD hS hL
  exact lv_istore_n C.1 C.2.1 hd rfl (am_has hL) hi rfl (fun lsC' hl => k p l e s m args below meth c H locs dC dI cT ad A lsC' C hP hD hS (am_st1 hn hl))
theorem aw_astoreG {i : Nat} {v : Int} {ls' : List (Option am_V)} (hd : decode M.2.2.1 pc = .ok (.astore i, 2)) (hi : i < M.2.2.2.1) (hn : am_nl ls i = true) (hs : ls.set i (some (am_R v)) = ls') (k : AW G M d Q (pc + 2) ls' st h) : AW G M d Q pc ls (am_R v :: st) h := by
  subst hs
  intro p l e s m args below meth c H locs dC dI cT ad A lsC C hP hD hS hL
  exact lv_astore C.1 C.2.1 hd (am_has hL) hi rfl (fun lsC' hl => k p l e s m args below meth c H locs dC dI cT ad A lsC' C hP hD hS (am_st1 hn hl))
theorem aw_astore_nG {kk : Fin 4} {v : Int} {ls' : List (Option am_V)} (hd : decode M.2.2.1 pc = .ok (.astore_n kk, 1)) (hi : (kk : Nat) < M.2.2.2.1) (hn : am_nl ls kk = true) (hs : ls.set (kk : Nat) (some (am_R v)) = ls') (k : AW G M d Q (pc + 1) ls' st h) : AW G M d Q pc ls (am_R v :: st) h := by
  subst hs
  intro p l e s m args below meth c H locs dC dI cT ad A lsC C hP hD hS hL
  exact lv_astore_n C.1 C.2.1 hd rfl (am_has hL) hi rfl (fun lsC' hl => k p l e s m args below meth c H locs dC dI cT ad A lsC' C hP hD hS (am_st1 hn hl))
theorem aw_lstoreG {i : Nat} {v : Int} {ls' : List (Option am_V)} (hd : decode M.2.2.1 pc = .ok (.lstore i, 2)) (hi : i + 1 < M.2.2.2.1) (hn : am_nl ls i = true) (hs : (ls.set i (some (am_J v))).set (i + 1) none = ls') (k : AW G M d Q (pc + 2) ls' st h) : AW G M d Q pc ls (am_J v :: st) h := by
  subst hs
  intro p l e s m args below meth c H locs dC dI cT ad A lsC C hP hD hS hL
  exact lv_lstore C.1 C.2.1 hd (am_has hL) hi rfl (fun lsC' hl => k p l e s m args below meth c H locs dC dI cT ad A lsC' C hP hD hS (am_st2 hn hl))
theorem aw_lstore_nG {kk : Fin 4} {v : Int} {ls' : List (Option am_V)} (hd : decode M.2.2.1 pc = .ok (.lstore_n kk, 1)) (hi : (kk : Nat) + 1 < M.2.2.2.1) (hn : am_nl ls kk = true) (hs : (ls.set (kk : Nat) (some (am_J v))).set ((kk : Nat) + 1) none = ls') (k : AW G M d Q (pc + 1) ls' st h) : AW G M d Q pc ls (am_J v :: st) h := by
  subst hs
  intro p l e s m args below meth c H locs dC dI cT ad A lsC C hP hD hS hL
  exact lv_lstore_n C.1 C.2.1 hd rfl (am_has hL) hi rfl (fun lsC' hl => k p l e s m args below meth c H locs dC dI cT ad A lsC' C hP hD hS (am_st2 hn hl))
theorem aw_iincG {i : Nat} {n a : Int} {ls' : List (Option am_V)} (hd : decode M.2.2.1 pc = .ok (.iinc i n, 3)) (hi : i < M.2.2.2.1) (hn : am_nl ls i = true) (hg : ls[i]? = some (some (am_I a))) (hs : ls.set i (some (am_I (a + n))) = ls') (k : AW G M d Q (pc + 3) ls' st h) : AW G M d Q pc ls st h := by
  subst hs
  intro p l e s m args below meth c H locs dC dI cT ad A lsC C hP hD hS hL
  obtain ⟨kx, hkx⟩ := List.getElem?_of_mem (am_al_mem (ad := ad).mpr ⟨i, _, hg, rfl⟩)
  refine lv_iinc (v := Int32.ofInt (a + n)) C.1 C.2.1 hd (am_has hL) hkx (by rw [Int32.ofInt_add]) hi rfl (fun lsC' hl => k p l e s m args below meth c H locs dC dI cT ad A lsC' C hP hD hS (am_st1 (v := am_I (a + n)) hn hl))
theorem aw_istore_0 {y : Option am_V} {r : List (Option am_V)} {v : Int} (hd : decode M.2.2.1 pc = .ok (.istore_n 0, 1)) (hi : 0 < M.2.2.2.1) (hn : am_nl (y :: r) 0 = true) (k : AW G M d Q (pc + 1) (some (am_I v) :: r) st h) : AW G M d Q pc (y :: r) (am_I v :: st) h := aw_istore_nG (kk := 0) hd hi hn rfl k
theorem aw_istore0 {y : Option am_V} {r : List (Option am_V)} {v : Int} (hd : decode M.2.2.1 pc = .ok (.istore 0, 2)) (hi : 0 < M.2.2.2.1) (hn : am_nl (y :: r) 0 = true) (k : AW G M d Q (pc + 2) (some (am_I v) :: r) st h) : AW G M d Q pc (y :: r) (am_I v :: st) h := aw_istoreG (i := 0) hd hi hn rfl k
theorem aw_astore_0 {y : Option am_V} {r : List (Option am_V)} {v : Int} (hd : decode M.2.2.1 pc = .ok (.astore_n 0, 1)) (hi : 0 < M.2.2.2.1) (hn : am_nl (y :: r) 0 = true) (k : AW G M d Q (pc + 1) (some (am_R v) :: r) st h) : AW G M d Q pc (y :: r) (am_R v :: st) h := aw_astore_nG (kk := 0) hd hi hn rfl k
theorem aw_astore0 {y : Option am_V} {r : List (Option am_V)} {v : Int} (hd : decode M.2.2.1 pc = .ok (.astore 0, 2)) (hi : 0 < M.2.2.2.1) (hn : am_nl (y :: r) 0 = true) (k : AW G M d Q (pc + 2) (some (am_R v) :: r) st h) : AW G M d Q pc (y :: r) (am_R v :: st) h := aw_astoreG (i := 0) hd hi hn rfl k
theorem aw_iinc0 {r : List (Option am_V)} {a n : Int} (hd : decode M.2.2.1 pc = .ok (.iinc 0 n, 3)) (hi : 0 < M.2.2.2.1) (hn : am_nl (some (am_I a) :: r) 0 = true) (k : AW G M d Q (pc + 3) (some (am_I (a + n)) :: r) st h) : AW G M d Q pc (some (am_I a) :: r) st h := aw_iincG (i := 0) hd hi hn rfl rfl k
theorem aw_lstore_0 {y z : Option am_V} {r : List (Option am_V)} {v : Int} (hd : decode M.2.2.1 pc = .ok (.lstore_n 0, 1)) (hi : 0 + 1 < M.2.2.2.1) (hn : am_nl (y :: z :: r) 0 = true) (k : AW G M d Q (pc + 1) (some (am_J v) :: none :: r) st h) : AW G M d Q pc (y :: z :: r) (am_J v :: st) h := aw_lstore_nG (kk := 0) hd hi hn rfl k
theorem aw_lstore0 {y z : Option am_V} {r : List (Option am_V)} {v : Int} (hd : decode M.2.2.1 pc = .ok (.lstore 0, 2)) (hi : 0 + 1 < M.2.2.2.1) (hn : am_nl (y :: z :: r) 0 = true) (k : AW G M d Q (pc + 2) (some (am_J v) :: none :: r) st h) : AW G M d Q pc (y :: z :: r) (am_J v :: st) h := aw_lstoreG (i := 0) hd hi hn rfl k
theorem aw_istore_1 {x0 y : Option am_V} {r : List (Option am_V)} {v : Int} (hd : decode M.2.2.1 pc = .ok (.istore_n 1, 1)) (hi : 1 < M.2.2.2.1) (hn : am_nl (x0 :: y :: r) 1 = true) (k : AW G M d Q (pc + 1) (x0 :: some (am_I v) :: r) st h) : AW G M d Q pc (x0 :: y :: r) (am_I v :: st) h := aw_istore_nG (kk := 1) hd hi hn rfl k
theorem aw_istore1 {x0 y : Option am_V} {r : List (Option am_V)} {v : Int} (hd : decode M.2.2.1 pc = .ok (.istore 1, 2)) (hi : 1 < M.2.2.2.1) (hn : am_nl (x0 :: y :: r) 1 = true) (k : AW G M d Q (pc + 2) (x0 :: some (am_I v) :: r) st h) : AW G M d Q pc (x0 :: y :: r) (am_I v :: st) h := aw_istoreG (i := 1) hd hi hn rfl k
theorem aw_astore_1 {x0 y : Option am_V} {r : List (Option am_V)} {v : Int} (hd : decode M.2.2.1 pc = .ok (.astore_n 1, 1)) (hi : 1 < M.2.2.2.1) (hn : am_nl (x0 :: y :: r) 1 = true) (k : AW G M d Q (pc + 1) (x0 :: some (am_R v) :: r) st h) : AW G M d Q pc (x0 :: y :: r) (am_R v :: st) h := aw_astore_nG (kk := 1) hd hi hn rfl k
theorem aw_astore1 {x0 y : Option am_V} {r : List (Option am_V)} {v : Int} (hd : decode M.2.2.1 pc = .ok (.astore 1, 2)) (hi : 1 < M.2.2.2.1) (hn : am_nl (x0 :: y :: r) 1 = true) (k : AW G M d Q (pc + 2) (x0 :: some (am_R v) :: r) st h) : AW G M d Q pc (x0 :: y :: r) (am_R v :: st) h := aw_astoreG (i := 1) hd hi hn rfl k
theorem aw_iinc1 {x0  : Option am_V} {r : List (Option am_V)} {a n : Int} (hd : decode M.2.2.1 pc = .ok (.iinc 1 n, 3)) (hi : 1 < M.2.2.2.1) (hn : am_nl (x0 :: some (am_I a) :: r) 1 = true) (k : AW G M d Q (pc + 3) (x0 :: some (am_I (a + n)) :: r) st h) : AW G M d Q pc (x0 :: some (am_I a) :: r) st h := aw_iincG (i := 1) hd hi hn rfl rfl k
theorem aw_lstore_1 {x0 y z : Option am_V} {r : List (Option am_V)} {v : Int} (hd : decode M.2.2.1 pc = .ok (.lstore_n 1, 1)) (hi : 1 + 1 < M.2.2.2.1) (hn : am_nl (x0 :: y :: z :: r) 1 = true) (k : AW G M d Q (pc + 1) (x0 :: some (am_J v) :: none :: r) st h) : AW G M d Q pc (x0 :: y :: z :: r) (am_J v :: st) h := aw_lstore_nG (kk := 1) hd hi hn rfl k
theorem aw_lstore1 {x0 y z : Option am_V} {r : List (Option am_V)} {v : Int} (hd : decode M.2.2.1 pc = .ok (.lstore 1, 2)) (hi : 1 + 1 < M.2.2.2.1) (hn : am_nl (x0 :: y :: z :: r) 1 = true) (k : AW G M d Q (pc + 2) (x0 :: some (am_J v) :: none :: r) st h) : AW G M d Q pc (x0 :: y :: z :: r) (am_J v :: st) h := aw_lstoreG (i := 1) hd hi hn rfl k
theorem aw_istore_2 {x0 x1 y : Option am_V} {r : List (Option am_V)} {v : Int} (hd : decode M.2.2.1 pc = .ok (.istore_n 2, 1)) (hi : 2 < M.2.2.2.1) (hn : am_nl (x0 :: x1 :: y :: r) 2 = true) (k : AW G M d Q (pc + 1) (x0 :: x1 :: some (am_I v) :: r) st h) : AW G M d Q pc (x0 :: x1 :: y :: r) (am_I v :: st) h := aw_istore_nG (kk := 2) hd hi hn rfl k
theorem aw_istore2 {x0 x1 y : Option am_V} {r : List (Option am_V)} {v : Int} (hd : decode M.2.2.1 pc = .ok (.istore 2, 2)) (hi : 2 < M.2.2.2.1) (hn : am_nl (x0 :: x1 :: y :: r) 2 = true) (k : AW G M d Q (pc + 2) (x0 :: x1 :: some (am_I v) :: r) st h) : AW G M d Q pc (x0 :: x1 :: y :: r) (am_I v :: st) h := aw_istoreG (i := 2) hd hi hn rfl k
theorem aw_astore_2 {x0 x1 y : Option am_V} {r : List (Option am_V)} {v : Int} (hd : decode M.2.2.1 pc = .ok (.astore_n 2, 1)) (hi : 2 < M.2.2.2.1) (hn : am_nl (x0 :: x1 :: y :: r) 2 = true) (k : AW G M d Q (pc + 1) (x0 :: x1 :: some (am_R v) :: r) st h) : AW G M d Q pc (x0 :: x1 :: y :: r) (am_R v :: st) h := aw_astore_nG (kk := 2) hd hi hn rfl k
theorem aw_astore2 {x0 x1 y : Option am_V} {r : List (Option am_V)} {v : Int} (hd : decode M.2.2.1 pc = .ok (.astore 2, 2)) (hi : 2 < M.2.2.2.1) (hn : am_nl (x0 :: x1 :: y :: r) 2 = true) (k : AW G M d Q (pc + 2) (x0 :: x1 :: some (am_R v) :: r) st h) : AW G M d Q pc (x0 :: x1 :: y :: r) (am_R v :: st) h := aw_astoreG (i := 2) hd hi hn rfl k
theorem aw_iinc2 {x0 x1  : Option am_V} {r : List (Option am_V)} {a n : Int} (hd : decode M.2.2.1 pc = .ok (.iinc 2 n, 3)) (hi : 2 < M.2.2.2.1) (hn : am_nl (x0 :: x1 :: some (am_I a) :: r) 2 = true) (k : AW G M d Q (pc + 3) (x0 :: x1 :: some (am_I (a + n)) :: r) st h) : AW G M d Q pc (x0 :: x1 :: some (am_I a) :: r) st h := aw_iincG (i := 2) hd hi hn rfl rfl k
theorem aw_lstore_2 {x0 x1 y z : Option am_V} {r : List (Option am_V)} {v : Int} (hd : decode M.2.2.1 pc = .ok (.lstore_n 2, 1)) (hi : 2 + 1 < M.2.2.2.1) (hn : am_nl (x0 :: x1 :: y :: z :: r) 2 = true) (k : AW G M d Q (pc + 1) (x0 :: x1 :: some (am_J v) :: none :: r) st h) : AW G M d Q pc (x0 :: x1 :: y :: z :: r) (am_J v :: st) h := aw_lstore_nG (kk := 2) hd hi hn rfl k
theorem aw_lstore2 {x0 x1 y z : Option am_V} {r : List (Option am_V)} {v : Int} (hd : decode M.2.2.1 pc = .ok (.lstore 2, 2)) (hi : 2 + 1 < M.2.2.2.1) (hn : am_nl (x0 :: x1 :: y :: z :: r) 2 = true) (k : AW G M d Q (pc + 2) (x0 :: x1 :: some (am_J v) :: none :: r) st h) : AW G M d Q pc (x0 :: x1 :: y :: z :: r) (am_J v :: st) h := aw_lstoreG (i := 2) hd hi hn rfl k
theorem aw_istore_3 {x0 x1 x2 y : Option am_V} {r : List (Option am_V)} {v : Int} (hd : decode M.2.2.1 pc = .ok (.istore_n 3, 1)) (hi : 3 < M.2.2.2.1) (hn : am_nl (x0 :: x1 :: x2 :: y :: r) 3 = true) (k : AW G M d Q (pc + 1) (x0 :: x1 :: x2 :: some (am_I v) :: r) st h) : AW G M d Q pc (x0 :: x1 :: x2 :: y :: r) (am_I v :: st) h := aw_istore_nG (kk := 3) hd hi hn rfl k
theorem aw_istore3 {x0 x1 x2 y : Option am_V} {r : List (Option am_V)} {v : Int} (hd : decode M.2.2.1 pc = .ok (.istore 3, 2)) (hi : 3 < M.2.2.2.1) (hn : am_nl (x0 :: x1 :: x2 :: y :: r) 3 = true) (k : AW G M d Q (pc + 2) (x0 :: x1 :: x2 :: some (am_I v) :: r) st h) : AW G M d Q pc (x0 :: x1 :: x2 :: y :: r) (am_I v :: st) h := aw_istoreG (i := 3) hd hi hn rfl k
theorem aw_astore_3 {x0 x1 x2 y : Option am_V} {r : List (Option am_V)} {v : Int} (hd : decode M.2.2.1 pc = .ok (.astore_n 3, 1)) (hi : 3 < M.2.2.2.1) (hn : am_nl (x0 :: x1 :: x2 :: y :: r) 3 = true) (k : AW G M d Q (pc + 1) (x0 :: x1 :: x2 :: some (am_R v) :: r) st h) : AW G M d Q pc (x0 :: x1 :: x2 :: y :: r) (am_R v :: st) h := aw_astore_nG (kk := 3) hd hi hn rfl k
theorem aw_astore3 {x0 x1 x2 y : Option am_V} {r : List (Option am_V)} {v : Int} (hd : decode M.2.2.1 pc = .ok (.astore 3, 2)) (hi : 3 < M.2.2.2.1) (hn : am_nl (x0 :: x1 :: x2 :: y :: r) 3 = true) (k : AW G M d Q (pc + 2) (x0 :: x1 :: x2 :: some (am_R v) :: r) st h) : AW G M d Q pc (x0 :: x1 :: x2 :: y :: r) (am_R v :: st) h := aw_astoreG (i := 3) hd hi hn rfl k
theorem aw_iinc3 {x0 x1 x2  : Option am_V} {r : List (Option am_V)} {a n : Int} (hd : decode M.2.2.1 pc = .ok (.iinc 3 n, 3)) (hi : 3 < M.2.2.2.1) (hn : am_nl (x0 :: x1 :: x2 :: some (am_I a) :: r) 3 = true) (k : AW G M d Q (pc + 3) (x0 :: x1 :: x2 :: some (am_I (a + n)) :: r) st h) : AW G M d Q pc (x0 :: x1 :: x2 :: some (am_I a) :: r) st h := aw_iincG (i := 3) hd hi hn rfl rfl k
theorem aw_lstore_3 {x0 x1 x2 y z : Option am_V} {r : List (Option am_V)} {v : Int} (hd : decode M.2.2.1 pc = .ok (.lstore_n 3, 1)) (hi : 3 + 1 < M.2.2.2.1) (hn : am_nl (x0 :: x1 :: x2 :: y :: z :: r) 3 = true) (k : AW G M d Q (pc + 1) (x0 :: x1 :: x2 :: some (am_J v) :: none :: r) st h) : AW G M d Q pc (x0 :: x1 :: x2 :: y :: z :: r) (am_J v :: st) h := aw_lstore_nG (kk := 3) hd hi hn rfl k
theorem aw_lstore3 {x0 x1 x2 y z : Option am_V} {r : List (Option am_V)} {v : Int} (hd : decode M.2.2.1 pc = .ok (.lstore 3, 2)) (hi : 3 + 1 < M.2.2.2.1) (hn : am_nl (x0 :: x1 :: x2 :: y :: z :: r) 3 = true) (k : AW G M d Q (pc + 2) (x0 :: x1 :: x2 :: some (am_J v) :: none :: r) st h) : AW G M d Q pc (x0 :: x1 :: x2 :: y :: z :: r) (am_J v :: st) h := aw_lstoreG (i := 3) hd hi hn rfl k
theorem aw_istore4 {x0 x1 x2 x3 y : Option am_V} {r : List (Option am_V)} {v : Int} (hd : decode M.2.2.1 pc = .ok (.istore 4, 2)) (hi : 4 < M.2.2.2.1) (hn : am_nl (x0 :: x1 :: x2 :: x3 :: y :: r) 4 = true) (k : AW G M d Q (pc + 2) (x0 :: x1 :: x2 :: x3 :: some (am_I v) :: r) st h) : AW G M d Q pc (x0 :: x1 :: x2 :: x3 :: y :: r) (am_I v :: st) h := aw_istoreG (i := 4) hd hi hn rfl k
theorem aw_astore4 {x0 x1 x2 x3 y : Option am_V} {r : List (Option am_V)} {v : Int} (hd : decode M.2.2.1 pc = .ok (.astore 4, 2)) (hi : 4 < M.2.2.2.1) (hn : am_nl (x0 :: x1 :: x2 :: x3 :: y :: r) 4 = true) (k : AW G M d Q (pc + 2) (x0 :: x1 :: x2 :: x3 :: some (am_R v) :: r) st h) : AW G M d Q pc (x0 :: x1 :: x2 :: x3 :: y :: r) (am_R v :: st) h := aw_astoreG (i := 4) hd hi hn rfl k
theorem aw_iinc4 {x0 x1 x2 x3  : Option am_V} {r : List (Option am_V)} {a n : Int} (hd : decode M.2.2.1 pc = .ok (.iinc 4 n, 3)) (hi : 4 < M.2.2.2.1) (hn : am_nl (x0 :: x1 :: x2 :: x3 :: some (am_I a) :: r) 4 = true) (k : AW G M d Q (pc + 3) (x0 :: x1 :: x2 :: x3 :: some (am_I (a + n)) :: r) st h) : AW G M d Q pc (x0 :: x1 :: x2 :: x3 :: some (am_I a) :: r) st h := aw_iincG (i := 4) hd hi hn rfl rfl k
theorem aw_lstore4 {x0 x1 x2 x3 y z : Option am_V} {r : List (Option am_V)} {v : Int} (hd : decode M.2.2.1 pc = .ok (.lstore 4, 2)) (hi : 4 + 1 < M.2.2.2.1) (hn : am_nl (x0 :: x1 :: x2 :: x3 :: y :: z :: r) 4 = true) (k : AW G M d Q (pc + 2) (x0 :: x1 :: x2 :: x3 :: some (am_J v) :: none :: r) st h) : AW G M d Q pc (x0 :: x1 :: x2 :: x3 :: y :: z :: r) (am_J v :: st) h := aw_lstoreG (i := 4) hd hi hn rfl k
theorem aw_istore5 {x0 x1 x2 x3 x4 y : Option am_V} {r : List (Option am_V)} {v : Int} (hd : decode M.2.2.1 pc = .ok (.istore 5, 2)) (hi : 5 < M.2.2.2.1) (hn : am_nl (x0 :: x1 :: x2 :: x3 :: x4 :: y :: r) 5 = true) (k : AW G M d Q (pc + 2) (x0 :: x1 :: x2 :: x3 :: x4 :: some (am_I v) :: r) st h) : AW G M d Q pc (x0 :: x1 :: x2 :: x3 :: x4 :: y :: r) (am_I v :: st) h := aw_istoreG (i := 5) hd hi hn rfl k
theorem aw_astore5 {x0 x1 x2 x3 x4 y : Option am_V} {r : List (Option am_V)} {v : Int} (hd : decode M.2.2.1 pc = .ok (.astore 5, 2)) (hi : 5 < M.2.2.2.1) (hn : am_nl (x0 :: x1 :: x2 :: x3 :: x4 :: y :: r) 5 = true) (k : AW G M d Q (pc + 2) (x0 :: x1 :: x2 :: x3 :: x4 :: some (am_R v) :: r) st h) : AW G M d Q pc (x0 :: x1 :: x2 :: x3 :: x4 :: y :: r) (am_R v :: st) h := aw_astoreG (i := 5) hd hi hn rfl k
theorem aw_iinc5 {x0 x1 x2 x3 x4  : Option am_V} {r : List (Option am_V)} {a n : Int} (hd : decode M.2.2.1 pc = .ok (.iinc 5 n, 3)) (hi : 5 < M.2.2.2.1) (hn : am_nl (x0 :: x1 :: x2 :: x3 :: x4 :: some (am_I a) :: r) 5 = true) (k : AW G M d Q (pc + 3) (x0 :: x1 :: x2 :: x3 :: x4 :: some (am_I (a + n)) :: r) st h) : AW G M d Q pc (x0 :: x1 :: x2 :: x3 :: x4 :: some (am_I a) :: r) st h := aw_iincG (i := 5) hd hi hn rfl rfl k
theorem aw_lstore5 {x0 x1 x2 x3 x4 y z : Option am_V} {r : List (Option am_V)} {v : Int} (hd : decode M.2.2.1 pc = .ok (.lstore 5, 2)) (hi : 5 + 1 < M.2.2.2.1) (hn : am_nl (x0 :: x1 :: x2 :: x3 :: x4 :: y :: z :: r) 5 = true) (k : AW G M d Q (pc + 2) (x0 :: x1 :: x2 :: x3 :: x4 :: some (am_J v) :: none :: r) st h) : AW G M d Q pc (x0 :: x1 :: x2 :: x3 :: x4 :: y :: z :: r) (am_J v :: st) h := aw_lstoreG (i := 5) hd hi hn rfl k
theorem aw_istore6 {x0 x1 x2 x3 x4 x5 y : Option am_V} {r : List (Option am_V)} {v : Int} (hd : decode M.2.2.1 pc = .ok (.istore 6, 2)) (hi : 6 < M.2.2.2.1) (hn : am_nl (x0 :: x1 :: x2 :: x3 :: x4 :: x5 :: y :: r) 6 = true) (k : AW G M d Q (pc + 2) (x0 :: x1 :: x2 :: x3 :: x4 :: x5 :: some (am_I v) :: r) st h) : AW G M d Q pc (x0 :: x1 :: x2 :: x3 :: x4 :: x5 :: y :: r) (am_I v :: st) h := aw_istoreG (i := 6) hd hi hn rfl k
theorem aw_astore6 {x0 x1 x2 x3 x4 x5 y : Option am_V} {r : List (Option am_V)} {v : Int} (hd : decode M.2.2.1 pc = .ok (.astore 6, 2)) (hi : 6 < M.2.2.2.1) (hn : am_nl (x0 :: x1 :: x2 :: x3 :: x4 :: x5 :: y :: r) 6 = true) (k : AW G M d Q (pc + 2) (x0 :: x1 :: x2 :: x3 :: x4 :: x5 :: some (am_R v) :: r) st h) : AW G M d Q pc (x0 :: x1 :: x2 :: x3 :: x4 :: x5 :: y :: r) (am_R v :: st) h := aw_astoreG (i := 6) hd hi hn rfl k
theorem aw_iinc6 {x0 x1 x2 x3 x4 x5  : Option am_V} {r : List (Option am_V)} {a n : Int} (hd : decode M.2.2.1 pc = .ok (.iinc 6 n, 3)) (hi : 6 < M.2.2.2.1) (hn : am_nl (x0 :: x1 :: x2 :: x3 :: x4 :: x5 :: some (am_I a) :: r) 6 = true) (k : AW G M d Q (pc + 3) (x0 :: x1 :: x2 :: x3 :: x4 :: x5 :: some (am_I (a + n)) :: r) st h) : AW G M d Q pc (x0 :: x1 :: x2 :: x3 :: x4 :: x5 :: some (am_I a) :: r) st h := aw_iincG (i := 6) hd hi hn rfl rfl k
theorem aw_lstore6 {x0 x1 x2 x3 x4 x5 y z : Option am_V} {r : List (Option am_V)} {v : Int} (hd : decode M.2.2.1 pc = .ok (.lstore 6, 2)) (hi : 6 + 1 < M.2.2.2.1) (hn : am_nl (x0 :: x1 :: x2 :: x3 :: x4 :: x5 :: y :: z :: r) 6 = true) (k : AW G M d Q (pc + 2) (x0 :: x1 :: x2 :: x3 :: x4 :: x5 :: some (am_J v) :: none :: r) st h) : AW G M d Q pc (x0 :: x1 :: x2 :: x3 :: x4 :: x5 :: y :: z :: r) (am_J v :: st) h := aw_lstoreG (i := 6) hd hi hn rfl k
theorem aw_istore7 {x0 x1 x2 x3 x4 x5 x6 y : Option am_V} {r : List (Option am_V)} {v : Int} (hd : decode M.2.2.1 pc = .ok (.istore 7, 2)) (hi : 7 < M.2.2.2.1) (hn : am_nl (x0 :: x1 :: x2 :: x3 :: x4 :: x5 :: x6 :: y :: r) 7 = true) (k : AW G M d Q (pc + 2) (x0 :: x1 :: x2 :: x3 :: x4 :: x5 :: x6 :: some (am_I v) :: r) st h) : AW G M d Q pc (x0 :: x1 :: x2 :: x3 :: x4 :: x5 :: x6 :: y :: r) (am_I v :: st) h := aw_istoreG (i := 7) hd hi hn rfl k
theorem aw_astore7 {x0 x1 x2 x3 x4 x5 x6 y : Option am_V} {r : List (Option am_V)} {v : Int} (hd : decode M.2.2.1 pc = .ok (.astore 7, 2)) (hi : 7 < M.2.2.2.1) (hn : am_nl (x0 :: x1 :: x2 :: x3 :: x4 :: x5 :: x6 :: y :: r) 7 = true) (k : AW G M d Q (pc + 2) (x0 :: x1 :: x2 :: x3 :: x4 :: x5 :: x6 :: some (am_R v) :: r) st h) : AW G M d Q pc (x0 :: x1 :: x2 :: x3 :: x4 :: x5 :: x6 :: y :: r) (am_R v :: st) h := aw_astoreG (i := 7) hd hi hn rfl k
theorem aw_iinc7 {x0 x1 x2 x3 x4 x5 x6  : Option am_V} {r : List (Option am_V)} {a n : Int} (hd : decode M.2.2.1 pc = .ok (.iinc 7 n, 3)) (hi : 7 < M.2.2.2.1) (hn : am_nl (x0 :: x1 :: x2 :: x3 :: x4 :: x5 :: x6 :: some (am_I a) :: r) 7 = true) (k : AW G M d Q (pc + 3) (x0 :: x1 :: x2 :: x3 :: x4 :: x5 :: x6 :: some (am_I (a + n)) :: r) st h) : AW G M d Q pc (x0 :: x1 :: x2 :: x3 :: x4 :: x5 :: x6 :: some (am_I a) :: r) st h := aw_iincG (i := 7) hd hi hn rfl rfl k
theorem aw_lstore7 {x0 x1 x2 x3 x4 x5 x6 y z : Option am_V} {r : List (Option am_V)} {v : Int} (hd : decode M.2.2.1 pc = .ok (.lstore 7, 2)) (hi : 7 + 1 < M.2.2.2.1) (hn : am_nl (x0 :: x1 :: x2 :: x3 :: x4 :: x5 :: x6 :: y :: z :: r) 7 = true) (k : AW G M d Q (pc + 2) (x0 :: x1 :: x2 :: x3 :: x4 :: x5 :: x6 :: some (am_J v) :: none :: r) st h) : AW G M d Q pc (x0 :: x1 :: x2 :: x3 :: x4 :: x5 :: x6 :: y :: z :: r) (am_J v :: st) h := aw_lstoreG (i := 7) hd hi hn rfl k
theorem aw_istore8 {x0 x1 x2 x3 x4 x5 x6 x7 y : Option am_V} {r : List (Option am_V)} {v : Int} (hd : decode M.2.2.1 pc = .ok (.istore 8, 2)) (hi : 8 < M.2.2.2.1) (hn : am_nl (x0 :: x1 :: x2 :: x3 :: x4 :: x5 :: x6 :: x7 :: y :: r) 8 = true) (k : AW G M d Q (pc + 2) (x0 :: x1 :: x2 :: x3 :: x4 :: x5 :: x6 :: x7 :: some (am_I v) :: r) st h) : AW G M d Q pc (x0 :: x1 :: x2 :: x3 :: x4 :: x5 :: x6 :: x7 :: y :: r) (am_I v :: st) h := aw_istoreG (i := 8) hd hi hn rfl k
theorem aw_astore8 {x0 x1 x2 x3 x4 x5 x6 x7 y : Option am_V} {r : List (Option am_V)} {v : Int} (hd : decode M.2.2.1 pc = .ok (.astore 8, 2)) (hi : 8 < M.2.2.2.1) (hn : am_nl (x0 :: x1 :: x2 :: x3 :: x4 :: x5 :: x6 :: x7 :: y :: r) 8 = true) (k : AW G M d Q (pc + 2) (x0 :: x1 :: x2 :: x3 :: x4 :: x5 :: x6 :: x7 :: some (am_R v) :: r) st h) : AW G M d Q pc (x0 :: x1 :: x2 :: x3 :: x4 :: x5 :: x6 :: x7 :: y :: r) (am_R v :: st) h := aw_astoreG (i := 8) hd hi hn rfl k
theorem aw_iinc8 {x0 x1 x2 x3 x4 x5 x6 x7  : Option am_V} {r : List (Option am_V)} {a n : Int} (hd : decode M.2.2.1 pc = .ok (.iinc 8 n, 3)) (hi : 8 < M.2.2.2.1) (hn : am_nl (x0 :: x1 :: x2 :: x3 :: x4 :: x5 :: x6 :: x7 :: some (am_I a) :: r) 8 = true) (k : AW G M d Q (pc + 3) (x0 :: x1 :: x2 :: x3 :: x4 :: x5 :: x6 :: x7 :: some (am_I (a + n)) :: r) st h) : AW G M d Q pc (x0 :: x1 :: x2 :: x3 :: x4 :: x5 :: x6 :: x7 :: some (am_I a) :: r) st h := aw_iincG (i := 8) hd hi hn rfl rfl k
theorem aw_lstore8 {x0 x1 x2 x3 x4 x5 x6 x7 y z : Option am_V} {r : List (Option am_V)} {v : Int} (hd : decode M.2.2.1 pc = .ok (.lstore 8, 2)) (hi : 8 + 1 < M.2.2.2.1) (hn : am_nl (x0 :: x1 :: x2 :: x3 :: x4 :: x5 :: x6 :: x7 :: y :: z :: r) 8 = true) (k : AW G M d Q (pc + 2) (x0 :: x1 :: x2 :: x3 :: x4 :: x5 :: x6 :: x7 :: some (am_J v) :: none :: r) st h) : AW G M d Q pc (x0 :: x1 :: x2 :: x3 :: x4 :: x5 :: x6 :: x7 :: y :: z :: r) (am_J v :: st) h := aw_lstoreG (i := 8) hd hi hn rfl k
theorem aw_istore9 {x0 x1 x2 x3 x4 x5 x6 x7 x8 y : Option am_V} {r : List (Option am_V)} {v : Int} (hd : decode M.2.2.1 pc = .ok (.istore 9, 2)) (hi : 9 < M.2.2.2.1) (hn : am_nl (x0 :: x1 :: x2 :: x3 :: x4 :: x5 :: x6 :: x7 :: x8 :: y :: r) 9 = true) (k : AW G M d Q (pc + 2) (x0 :: x1 :: x2 :: x3 :: x4 :: x5 :: x6 :: x7 :: x8 :: some (am_I v) :: r) st h) : AW G M d Q pc (x0 :: x1 :: x2 :: x3 :: x4 :: x5 :: x6 :: x7 :: x8 :: y :: r) (am_I v :: st) h := aw_istoreG (i := 9) hd hi hn rfl k
theorem aw_astore9 {x0 x1 x2 x3 x4 x5 x6 x7 x8 y : Option am_V} {r : List (Option am_V)} {v : Int} (hd : decode M.2.2.1 pc = .ok (.astore 9, 2)) (hi : 9 < M.2.2.2.1) (hn : am_nl (x0 :: x1 :: x2 :: x3 :: x4 :: x5 :: x6 :: x7 :: x8 :: y :: r) 9 = true) (k : AW G M d Q (pc + 2) (x0 :: x1 :: x2 :: x3 :: x4 :: x5 :: x6 :: x7 :: x8 :: some (am_R v) :: r) st h) : AW G M d Q pc (x0 :: x1 :: x2 :: x3 :: x4 :: x5 :: x6 :: x7 :: x8 :: y :: r) (am_R v :: st) h := aw_astoreG (i := 9) hd hi hn rfl k
theorem aw_iinc9 {x0 x1 x2 x3 x4 x5 x6 x7 x8  : Option am_V} {r : List (Option am_V)} {a n : Int} (hd : decode M.2.2.1 pc = .ok (.iinc 9 n, 3)) (hi : 9 < M.2.2.2.1) (hn : am_nl (x0 :: x1 :: x2 :: x3 :: x4 :: x5 :: x6 :: x7 :: x8 :: some (am_I a) :: r) 9 = true) (k : AW G M d Q (pc + 3) (x0 :: x1 :: x2 :: x3 :: x4 :: x5 :: x6 :: x7 :: x8 :: some (am_I (a + n)) :: r) st h) : AW G M d Q pc (x0 :: x1 :: x2 :: x3 :: x4 :: x5 :: x6 :: x7 :: x8 :: some (am_I a) :: r) st h := aw_iincG (i := 9) hd hi hn rfl rfl k
theorem aw_lstore9 {x0 x1 x2 x3 x4 x5 x6 x7 x8 y z : Option am_V} {r : List (Option am_V)} {v : Int} (hd : decode M.2.2.1 pc = .ok (.lstore 9, 2)) (hi : 9 + 1 < M.2.2.2.1) (hn : am_nl (x0 :: x1 :: x2 :: x3 :: x4 :: x5 :: x6 :: x7 :: x8 :: y :: z :: r) 9 = true) (k : AW G M d Q (pc + 2) (x0 :: x1 :: x2 :: x3 :: x4 :: x5 :: x6 :: x7 :: x8 :: some (am_J v) :: none :: r) st h) : AW G M d Q pc (x0 :: x1 :: x2 :: x3 :: x4 :: x5 :: x6 :: x7 :: x8 :: y :: z :: r) (am_J v :: st) h := aw_lstoreG (i := 9) hd hi hn rfl k
theorem aw_istore10 {x0 x1 x2 x3 x4 x5 x6 x7 x8 x9 y : Option am_V} {r : List (Option am_V)} {v : Int} (hd : decode M.2.2.1 pc = .ok (.istore 10, 2)) (hi : 10 < M.2.2.2.1) (hn : am_nl (x0 :: x1 :: x2 :: x3 :: x4 :: x5 :: x6 :: x7 :: x8 :: x9 :: y :: r) 10 = true) (k : AW G M d Q (pc + 2) (x0 :: x1 :: x2 :: x3 :: x4 :: x5 :: x6 :: x7 :: x8 :: x9 :: some (am_I v) :: r) st h) : AW G M d Q pc (x0 :: x1 :: x2 :: x3 :: x4 :: x5 :: x6 :: x7 :: x8 :: x9 :: y :: r) (am_I v :: st) h := aw_istoreG (i := 10) hd hi hn rfl k
theorem aw_iinc10 {x0 x1 x2 x3 x4 x5 x6 x7 x8 x9  : Option am_V} {r : List (Option am_V)} {a n : Int} (hd : decode M.2.2.1 pc = .ok (.iinc 10 n, 3)) (hi : 10 < M.2.2.2.1) (hn : am_nl (x0 :: x1 :: x2 :: x3 :: x4 :: x5 :: x6 :: x7 :: x8 :: x9 :: some (am_I a) :: r) 10 = true) (k : AW G M d Q (pc + 3) (x0 :: x1 :: x2 :: x3 :: x4 :: x5 :: x6 :: x7 :: x8 :: x9 :: some (am_I (a + n)) :: r) st h) : AW G M d Q pc (x0 :: x1 :: x2 :: x3 :: x4 :: x5 :: x6 :: x7 :: x8 :: x9 :: some (am_I a) :: r) st h := aw_iincG (i := 10) hd hi hn rfl rfl k
theorem aw_lstore10 {x0 x1 x2 x3 x4 x5 x6 x7 x8 x9 y z : Option am_V} {r : List (Option am_V)} {v : Int} (hd : decode M.2.2.1 pc = .ok (.lstore 10, 2)) (hi : 10 + 1 < M.2.2.2.1) (hn : am_nl (x0 :: x1 :: x2 :: x3 :: x4 :: x5 :: x6 :: x7 :: x8 :: x9 :: y :: z :: r) 10 = true) (k : AW G M d Q (pc + 2) (x0 :: x1 :: x2 :: x3 :: x4 :: x5 :: x6 :: x7 :: x8 :: x9 :: some (am_J v) :: none :: r) st h) : AW G M d Q pc (x0 :: x1 :: x2 :: x3 :: x4 :: x5 :: x6 :: x7 :: x8 :: x9 :: y :: z :: r) (am_J v :: st) h := aw_lstoreG (i := 10) hd hi hn rfl k
theorem aw_istore11 {x0 x1 x2 x3 x4 x5 x6 x7 x8 x9 x10 y : Option am_V} {r : List (Option am_V)} {v : Int} (hd : decode M.2.2.1 pc = .ok (.istore 11, 2)) (hi : 11 < M.2.2.2.1) (hn : am_nl (x0 :: x1 :: x2 :: x3 :: x4 :: x5 :: x6 :: x7 :: x8 :: x9 :: x10 :: y :: r) 11 = true) (k : AW G M d Q (pc + 2) (x0 :: x1 :: x2 :: x3 :: x4 :: x5 :: x6 :: x7 :: x8 :: x9 :: x10 :: some (am_I v) :: r) st h) : AW G M d Q pc (x0 :: x1 :: x2 :: x3 :: x4 :: x5 :: x6 :: x7 :: x8 :: x9 :: x10 :: y :: r) (am_I v :: st) h := aw_istoreG (i := 11) hd hi hn rfl k
theorem aw_iinc11 {x0 x1 x2 x3 x4 x5 x6 x7 x8 x9 x10  : Option am_V} {r : List (Option am_V)} {a n : Int} (hd : decode M.2.2.1 pc = .ok (.iinc 11 n, 3)) (hi : 11 < M.2.2.2.1) (hn : am_nl (x0 :: x1 :: x2 :: x3 :: x4 :: x5 :: x6 :: x7 :: x8 :: x9 :: x10 :: some (am_I a) :: r) 11 = true) (k : AW G M d Q (pc + 3) (x0 :: x1 :: x2 :: x3 :: x4 :: x5 :: x6 :: x7 :: x8 :: x9 :: x10 :: some (am_I (a + n)) :: r) st h) : AW G M d Q pc (x0 :: x1 :: x2 :: x3 :: x4 :: x5 :: x6 :: x7 :: x8 :: x9 :: x10 :: some (am_I a) :: r) st h := aw_iincG (i := 11) hd hi hn rfl rfl k
theorem aw_lstore11 {x0 x1 x2 x3 x4 x5 x6 x7 x8 x9 x10 y z : Option am_V} {r : List (Option am_V)} {v : Int} (hd : decode M.2.2.1 pc = .ok (.lstore 11, 2)) (hi : 11 + 1 < M.2.2.2.1) (hn : am_nl (x0 :: x1 :: x2 :: x3 :: x4 :: x5 :: x6 :: x7 :: x8 :: x9 :: x10 :: y :: z :: r) 11 = true) (k : AW G M d Q (pc + 2) (x0 :: x1 :: x2 :: x3 :: x4 :: x5 :: x6 :: x7 :: x8 :: x9 :: x10 :: some (am_J v) :: none :: r) st h) : AW G M d Q pc (x0 :: x1 :: x2 :: x3 :: x4 :: x5 :: x6 :: x7 :: x8 :: x9 :: x10 :: y :: z :: r) (am_J v :: st) h := aw_lstoreG (i := 11) hd hi hn rfl k
theorem aw_istore12 {x0 x1 x2 x3 x4 x5 x6 x7 x8 x9 x10 x11 y : Option am_V} {r : List (Option am_V)} {v : Int} (hd : decode M.2.2.1 pc = .ok (.istore 12, 2)) (hi : 12 < M.2.2.2.1) (hn : am_nl (x0 :: x1 :: x2 :: x3 :: x4 :: x5 :: x6 :: x7 :: x8 :: x9 :: x10 :: x11 :: y :: r) 12 = true) (k : AW G M d Q (pc + 2) (x0 :: x1 :: x2 :: x3 :: x4 :: x5 :: x6 :: x7 :: x8 :: x9 :: x10 :: x11 :: some (am_I v) :: r) st h) : AW G M d Q pc (x0 :: x1 :: x2 :: x3 :: x4 :: x5 :: x6 :: x7 :: x8 :: x9 :: x10 :: x11 :: y :: r) (am_I v :: st) h := aw_istoreG (i := 12) hd hi hn rfl k
theorem aw_iinc12 {x0 x1 x2 x3 x4 x5 x6 x7 x8 x9 x10 x11  : Option am_V} {r : List (Option am_V)} {a n : Int} (hd : decode M.2.2.1 pc = .ok (.iinc 12 n, 3)) (hi : 12 < M.2.2.2.1) (hn : am_nl (x0 :: x1 :: x2 :: x3 :: x4 :: x5 :: x6 :: x7 :: x8 :: x9 :: x10 :: x11 :: some (am_I a) :: r) 12 = true) (k : AW G M d Q (pc + 3) (x0 :: x1 :: x2 :: x3 :: x4 :: x5 :: x6 :: x7 :: x8 :: x9 :: x10 :: x11 :: some (am_I (a + n)) :: r) st h) : AW G M d Q pc (x0 :: x1 :: x2 :: x3 :: x4 :: x5 :: x6 :: x7 :: x8 :: x9 :: x10 :: x11 :: some (am_I a) :: r) st h := aw_iincG (i := 12) hd hi hn rfl rfl k
theorem aw_lstore12 {x0 x1 x2 x3 x4 x5 x6 x7 x8 x9 x10 x11 y z : Option am_V} {r : List (Option am_V)} {v : Int} (hd : decode M.2.2.1 pc = .ok (.lstore 12, 2)) (hi : 12 + 1 < M.2.2.2.1) (hn : am_nl (x0 :: x1 :: x2 :: x3 :: x4 :: x5 :: x6 :: x7 :: x8 :: x9 :: x10 :: x11 :: y :: z :: r) 12 = true) (k : AW G M d Q (pc + 2) (x0 :: x1 :: x2 :: x3 :: x4 :: x5 :: x6 :: x7 :: x8 :: x9 :: x10 :: x11 :: some (am_J v) :: none :: r) st h) : AW G M d Q pc (x0 :: x1 :: x2 :: x3 :: x4 :: x5 :: x6 :: x7 :: x8 :: x9 :: x10 :: x11 :: y :: z :: r) (am_J v :: st) h := aw_lstoreG (i := 12) hd hi hn rfl k
theorem aw_istore13 {x0 x1 x2 x3 x4 x5 x6 x7 x8 x9 x10 x11 x12 y : Option am_V} {r : List (Option am_V)} {v : Int} (hd : decode M.2.2.1 pc = .ok (.istore 13, 2)) (hi : 13 < M.2.2.2.1) (hn : am_nl (x0 :: x1 :: x2 :: x3 :: x4 :: x5 :: x6 :: x7 :: x8 :: x9 :: x10 :: x11 :: x12 :: y :: r) 13 = true) (k : AW G M d Q (pc + 2) (x0 :: x1 :: x2 :: x3 :: x4 :: x5 :: x6 :: x7 :: x8 :: x9 :: x10 :: x11 :: x12 :: some (am_I v) :: r) st h) : AW G M d Q pc (x0 :: x1 :: x2 :: x3 :: x4 :: x5 :: x6 :: x7 :: x8 :: x9 :: x10 :: x11 :: x12 :: y :: r) (am_I v :: st) h := aw_istoreG (i := 13) hd hi hn rfl k
theorem aw_iinc13 {x0 x1 x2 x3 x4 x5 x6 x7 x8 x9 x10 x11 x12  : Option am_V} {r : List (Option am_V)} {a n : Int} (hd : decode M.2.2.1 pc = .ok (.iinc 13 n, 3)) (hi : 13 < M.2.2.2.1) (hn : am_nl (x0 :: x1 :: x2 :: x3 :: x4 :: x5 :: x6 :: x7 :: x8 :: x9 :: x10 :: x11 :: x12 :: some (am_I a) :: r) 13 = true) (k : AW G M d Q (pc + 3) (x0 :: x1 :: x2 :: x3 :: x4 :: x5 :: x6 :: x7 :: x8 :: x9 :: x10 :: x11 :: x12 :: some (am_I (a + n)) :: r) st h) : AW G M d Q pc (x0 :: x1 :: x2 :: x3 :: x4 :: x5 :: x6 :: x7 :: x8 :: x9 :: x10 :: x11 :: x12 :: some (am_I a) :: r) st h := aw_iincG (i := 13) hd hi hn rfl rfl k
theorem aw_lstore13 {x0 x1 x2 x3 x4 x5 x6 x7 x8 x9 x10 x11 x12 y z : Option am_V} {r : List (Option am_V)} {v : Int} (hd : decode M.2.2.1 pc = .ok (.lstore 13, 2)) (hi : 13 + 1 < M.2.2.2.1) (hn : am_nl (x0 :: x1 :: x2 :: x3 :: x4 :: x5 :: x6 :: x7 :: x8 :: x9 :: x10 :: x11 :: x12 :: y :: z :: r) 13 = true) (k : AW G M d Q (pc + 2) (x0 :: x1 :: x2 :: x3 :: x4 :: x5 :: x6 :: x7 :: x8 :: x9 :: x10 :: x11 :: x12 :: some (am_J v) :: none :: r) st h) : AW G M d Q pc (x0 :: x1 :: x2 :: x3 :: x4 :: x5 :: x6 :: x7 :: x8 :: x9 :: x10 :: x11 :: x12 :: y :: z :: r) (am_J v :: st) h := aw_lstoreG (i := 13) hd hi hn rfl k
theorem aw_istore14 {x0 x1 x2 x3 x4 x5 x6 x7 x8 x9 x10 x11 x12 x13 y : Option am_V} {r : List (Option am_V)} {v : Int} (hd : decode M.2.2.1 pc = .ok (.istore 14, 2)) (hi : 14 < M.2.2.2.1) (hn : am_nl (x0 :: x1 :: x2 :: x3 :: x4 :: x5 :: x6 :: x7 :: x8 :: x9 :: x10 :: x11 :: x12 :: x13 :: y :: r) 14 = true) (k : AW G M d Q (pc + 2) (x0 :: x1 :: x2 :: x3 :: x4 :: x5 :: x6 :: x7 :: x8 :: x9 :: x10 :: x11 :: x12 :: x13 :: some (am_I v) :: r) st h) : AW G M d Q pc (x0 :: x1 :: x2 :: x3 :: x4 :: x5 :: x6 :: x7 :: x8 :: x9 :: x10 :: x11 :: x12 :: x13 :: y :: r) (am_I v :: st) h := aw_istoreG (i := 14) hd hi hn rfl k
theorem aw_iinc14 {x0 x1 x2 x3 x4 x5 x6 x7 x8 x9 x10 x11 x12 x13  : Option am_V} {r : List (Option am_V)} {a n : Int} (hd : decode M.2.2.1 pc = .ok (.iinc 14 n, 3)) (hi : 14 < M.2.2.2.1) (hn : am_nl (x0 :: x1 :: x2 :: x3 :: x4 :: x5 :: x6 :: x7 :: x8 :: x9 :: x10 :: x11 :: x12 :: x13 :: some (am_I a) :: r) 14 = true) (k : AW G M d Q (pc + 3) (x0 :: x1 :: x2 :: x3 :: x4 :: x5 :: x6 :: x7 :: x8 :: x9 :: x10 :: x11 :: x12 :: x13 :: some (am_I (a + n)) :: r) st h) : AW G M d Q pc (x0 :: x1 :: x2 :: x3 :: x4 :: x5 :: x6 :: x7 :: x8 :: x9 :: x10 :: x11 :: x12 :: x13 :: some (am_I a) :: r) st h := aw_iincG (i := 14) hd hi hn rfl rfl k
theorem aw_lstore14 {x0 x1 x2 x3 x4 x5 x6 x7 x8 x9 x10 x11 x12 x13 y z : Option am_V} {r : List (Option am_V)} {v : Int} (hd : decode M.2.2.1 pc = .ok (.lstore 14, 2)) (hi : 14 + 1 < M.2.2.2.1) (hn : am_nl (x0 :: x1 :: x2 :: x3 :: x4 :: x5 :: x6 :: x7 :: x8 :: x9 :: x10 :: x11 :: x12 :: x13 :: y :: z :: r) 14 = true) (k : AW G M d Q (pc + 2) (x0 :: x1 :: x2 :: x3 :: x4 :: x5 :: x6 :: x7 :: x8 :: x9 :: x10 :: x11 :: x12 :: x13 :: some (am_J v) :: none :: r) st h) : AW G M d Q pc (x0 :: x1 :: x2 :: x3 :: x4 :: x5 :: x6 :: x7 :: x8 :: x9 :: x10 :: x11 :: x12 :: x13 :: y :: z :: r) (am_J v :: st) h := aw_lstoreG (i := 14) hd hi hn rfl k
theorem aw_istore15 {x0 x1 x2 x3 x4 x5 x6 x7 x8 x9 x10 x11 x12 x13 x14 y : Option am_V} {r : List (Option am_V)} {v : Int} (hd : decode M.2.2.1 pc = .ok (.istore 15, 2)) (hi : 15 < M.2.2.2.1) (hn : am_nl (x0 :: x1 :: x2 :: x3 :: x4 :: x5 :: x6 :: x7 :: x8 :: x9 :: x10 :: x11 :: x12 :: x13 :: x14 :: y :: r) 15 = true) (k : AW G M d Q (pc + 2) (x0 :: x1 :: x2 :: x3 :: x4 :: x5 :: x6 :: x7 :: x8 :: x9 :: x10 :: x11 :: x12 :: x13 :: x14 :: some (am_I v) :: r) st h) : AW G M d Q pc (x0 :: x1 :: x2 :: x3 :: x4 :: x5 :: x6 :: x7 :: x8 :: x9 :: x10 :: x11 :: x12 :: x13 :: x14 :: y :: r) (am_I v :: st) h := aw_istoreG (i := 15) hd hi hn rfl k
theorem aw_iinc15 {x0 x1 x2 x3 x4 x5 x6 x7 x8 x9 x10 x11 x12 x13 x14  : Option am_V} {r : List (Option am_V)} {a n : Int} (hd : decode M.2.2.1 pc = .ok (.iinc 15 n, 3)) (hi : 15 < M.2.2.2.1) (hn : am_nl (x0 :: x1 :: x2 :: x3 :: x4 :: x5 :: x6 :: x7 :: x8 :: x9 :: x10 :: x11 :: x12 :: x13 :: x14 :: some (am_I a) :: r) 15 = true) (k : AW G M d Q (pc + 3) (x0 :: x1 :: x2 :: x3 :: x4 :: x5 :: x6 :: x7 :: x8 :: x9 :: x10 :: x11 :: x12 :: x13 :: x14 :: some (am_I (a + n)) :: r) st h) : AW G M d Q pc (x0 :: x1 :: x2 :: x3 :: x4 :: x5 :: x6 :: x7 :: x8 :: x9 :: x10 :: x11 :: x12 :: x13 :: x14 :: some (am_I a) :: r) st h := aw_iincG (i := 15) hd hi hn rfl rfl k
theorem aw_lstore15 {x0 x1 x2 x3 x4 x5 x6 x7 x8 x9 x10 x11 x12 x13 x14 y z : Option am_V} {r : List (Option am_V)} {v : Int} (hd : decode M.2.2.1 pc = .ok (.lstore 15, 2)) (hi : 15 + 1 < M.2.2.2.1) (hn : am_nl (x0 :: x1 :: x2 :: x3 :: x4 :: x5 :: x6 :: x7 :: x8 :: x9 :: x10 :: x11 :: x12 :: x13 :: x14 :: y :: z :: r) 15 = true) (k : AW G M d Q (pc + 2) (x0 :: x1 :: x2 :: x3 :: x4 :: x5 :: x6 :: x7 :: x8 :: x9 :: x10 :: x11 :: x12 :: x13 :: x14 :: some (am_J v) :: none :: r) st h) : AW G M d Q pc (x0 :: x1 :: x2 :: x3 :: x4 :: x5 :: x6 :: x7 :: x8 :: x9 :: x10 :: x11 :: x12 :: x13 :: x14 :: y :: z :: r) (am_J v :: st) h := aw_lstoreG (i := 15) hd hi hn rfl k
theorem aw_iadd {a b : Int} (hd : decode M.2.2.1 pc = .ok (.iadd, 1)) (k : AW G M d Q (pc + 1) ls (am_I (a + b) :: st) h) : AW G M d Q pc ls (am_I b :: am_I a :: st) h := by
  intro p l e s m args below meth c H locs dC dI cT ad A lsC C hP hD hS hL
  refine lv_iadd C.1 C.2.1 hd ?_
  rw [← Int32.ofInt_add]
  exact k p l e s m args below meth c H locs dC dI cT ad A lsC C hP hD hS hL
theorem aw_isub {a b : Int} (hd : decode M.2.2.1 pc = .ok (.isub, 1)) (k : AW G M d Q (pc + 1) ls (am_I (a - b) :: st) h) : AW G M d Q pc ls (am_I b :: am_I a :: st) h := by
  intro p l e s m args below meth c H locs dC dI cT ad A lsC C hP hD hS hL
  refine lv_isub C.1 C.2.1 hd ?_
  rw [← Int32.ofInt_sub]
  exact k p l e s m args below meth c H locs dC dI cT ad A lsC C hP hD hS hL
theorem aw_imul {a b : Int} (hd : decode M.2.2.1 pc = .ok (.imul, 1)) (k : AW G M d Q (pc + 1) ls (am_I (a * b) :: st) h) : AW G M d Q pc ls (am_I b :: am_I a :: st) h := by
  intro p l e s m args below meth c H locs dC dI cT ad A lsC C hP hD hS hL
  refine lv_imul C.1 C.2.1 hd ?_
  rw [← Int32.ofInt_mul]
  exact k p l e s m args below meth c H locs dC dI cT ad A lsC C hP hD hS hL
theorem aw_ladd {a b : Int} (hd : decode M.2.2.1 pc = .ok (.ladd, 1)) (k : AW G M d Q (pc + 1) ls (am_J (a + b) :: st) h) : AW G M d Q pc ls (am_J b :: am_J a :: st) h := by
  intro p l e s m args below meth c H locs dC dI cT ad A lsC C hP hD hS hL
  refine lv_ladd C.1 C.2.1 hd ?_
  rw [← Int64.ofInt_add]
  exact k p l e s m args below meth c H locs dC dI cT ad A lsC C hP hD hS hL
theorem aw_lsub {a b : Int} (hd : decode M.2.2.1 pc = .ok (.lsub, 1)) (k : AW G M d Q (pc + 1) ls (am_J (a - b) :: st) h) : AW G M d Q pc ls (am_J b :: am_J a :: st) h := by
  intro p l e s m args below meth c H locs dC dI cT ad A lsC C hP hD hS hL
  refine lv_lsub C.1 C.2.1 hd ?_
  rw [← Int64.ofInt_sub]
  exact k p l e s m args below meth c H locs dC dI cT ad A lsC C hP hD hS hL
theorem aw_lmul {a b : Int} (hd : decode M.2.2.1 pc = .ok (.lmul, 1)) (k : AW G M d Q (pc + 1) ls (am_J (a * b) :: st) h) : AW G M d Q pc ls (am_J b :: am_J a :: st) h := by
  intro p l e s m args below meth c H locs dC dI cT ad A lsC C hP hD hS hL
  refine lv_lmul C.1 C.2.1 hd ?_
  rw [← Int64.ofInt_mul]
  exact k p l e s m args below meth c H locs dC dI cT ad A lsC C hP hD hS hL
theorem aw_lneg {a : Int} (hd : decode M.2.2.1 pc = .ok (.lneg, 1)) (k : AW G M d Q (pc + 1) ls (am_J (-a) :: st) h) : AW G M d Q pc ls (am_J a :: st) h := by
  intro p l e s m args below meth c H locs dC dI cT ad A lsC C hP hD hS hL
  refine lv_lneg C.1 C.2.1 hd ?_
  rw [← Int64.ofInt_neg]
  exact k p l e s m args below meth c H locs dC dI cT ad A lsC C hP hD hS hL
theorem am_div {a b : Int} (ha : -2147483648 ≤ a ∧ a < 2147483648) (hb : 0 < b ∧ b < 2147483648) : Int32.ofInt a / Int32.ofInt b = Int32.ofInt (a.tdiv b) := by
  rw [Int32.ofInt_tdiv (by show (-2147483648 : Int) ≤ a; omega) (by show a ≤ (2147483647 : Int); omega) (by show (-2147483648 : Int) ≤ b; omega) (by show b ≤ (2147483647 : Int); omega)]
theorem am_divJ {a b : Int} (ha : -9223372036854775808 ≤ a ∧ a < 9223372036854775808) (hb : 0 < b ∧ b < 9223372036854775808) : Int64.ofInt a / Int64.ofInt b = Int64.ofInt (a.tdiv b) := by
  rw [Int64.ofInt_tdiv (by show (-9223372036854775808 : Int) ≤ a; omega) (by show a ≤ (9223372036854775807 : Int); omega) (by show (-9223372036854775808 : Int) ≤ b; omega) (by show b ≤ (9223372036854775807 : Int); omega)]
theorem am_rem (a b : Int) : a - a.tdiv b * b = a.tmod b := by
  have := Int.tmod_def a b
  rw [this, Int.mul_comm b]
theorem aw_idiv {a b : Int} (ha : -2147483648 ≤ a ∧ a < 2147483648) (hb : 0 < b ∧ b < 2147483648) (hd : decode M.2.2.1 pc = .ok (.idiv, 1)) (k : AW G M d Q (pc + 1) ls (am_I (a.tdiv b) :: st) h) : AW G M d Q pc ls (am_I b :: am_I a :: st) h := by
  intro p l e s m args below meth c H locs dC dI cT ad A lsC C hP hD hS hL
  have hne : ¬ Int32.ofInt b = 0 := by rw [show (0 : Int32) = Int32.ofInt 0 from rfl, am_eq (by omega) (by omega)]; omega
  refine lv_idiv C.1 C.2.1 hd hne ?_
  rw [am_div ha hb]
  exact k p l e s m args below meth c H locs dC dI cT ad A lsC C hP hD hS hL
theorem aw_irem {a b : Int} (ha : -2147483648 ≤ a ∧ a < 2147483648) (hb : 0 < b ∧ b < 2147483648) (hd : decode M.2.2.1 pc = .ok (.irem, 1)) (k : AW G M d Q (pc + 1) ls (am_I (a.tmod b) :: st) h) : AW G M d Q pc ls (am_I b :: am_I a :: st) h := by
  intro p l e s m args below meth c H locs dC dI cT ad A lsC C hP hD hS hL
  have hne : ¬ Int32.ofInt b = 0 := by rw [show (0 : Int32) = Int32.ofInt 0 from rfl, am_eq (by omega) (by omega)]; omega
  refine lv_irem C.1 C.2.1 hd hne ?_
  rw [am_div ha hb, ← Int32.ofInt_mul, ← Int32.ofInt_sub, am_rem]
  exact k p l e s m args below meth c H locs dC dI cT ad A lsC C hP hD hS hL
theorem aw_ldiv {a b : Int} (ha : -9223372036854775808 ≤ a ∧ a < 9223372036854775808) (hb : 0 < b ∧ b < 9223372036854775808) (hd : decode M.2.2.1 pc = .ok (.ldiv, 1)) (k : AW G M d Q (pc + 1) ls (am_J (a.tdiv b) :: st) h) : AW G M d Q pc ls (am_J b :: am_J a :: st) h := by
  intro p l e s m args below meth c H locs dC dI cT ad A lsC C hP hD hS hL
  have hne : ¬ Int64.ofInt b = 0 := by rw [show (0 : Int64) = Int64.ofInt 0 from rfl, am_eqJ (by omega) (by omega)]; omega
  refine lv_ldiv C.1 C.2.1 hd hne ?_
  rw [am_divJ ha hb]
  exact k p l e s m args below meth c H locs dC dI cT ad A lsC C hP hD hS hL
theorem aw_lrem {a b : Int} (ha : -9223372036854775808 ≤ a ∧ a < 9223372036854775808) (hb : 0 < b ∧ b < 9223372036854775808) (hd : decode M.2.2.1 pc = .ok (.lrem, 1)) (k : AW G M d Q (pc + 1) ls (am_J (a.tmod b) :: st) h) : AW G M d Q pc ls (am_J b :: am_J a :: st) h := by
  intro p l e s m args below meth c H locs dC dI cT ad A lsC C hP hD hS hL
  have hne : ¬ Int64.ofInt b = 0 := by rw [show (0 : Int64) = Int64.ofInt 0 from rfl, am_eqJ (by omega) (by omega)]; omega
  refine lv_lrem C.1 C.2.1 hd hne ?_
  rw [am_divJ ha hb, ← Int64.ofInt_mul, ← Int64.ofInt_sub, am_rem]
  exact k p l e s m args below meth c H locs dC dI cT ad A lsC C hP hD hS hL
def am_and (a b : Int) : Int := (Int32.ofInt a &&& Int32.ofInt b).toInt
def am_or (a b : Int) : Int := (Int32.ofInt a ||| Int32.ofInt b).toInt
def am_xor (a b : Int) : Int := (Int32.ofInt a ^^^ Int32.ofInt b).toInt
def am_shl (a b : Int) : Int := (Int32.ofInt a <<< (Int32.ofInt b &&& 31)).toInt
def am_shr (a b : Int) : Int := (Int32.ofInt a >>> (Int32.ofInt b &&& 31)).toInt
def am_ushr (a b : Int) : Int := ((Int32.ofInt a).toUInt32 >>> ((Int32.ofInt b).toUInt32 &&& Int32.toUInt32 31)).toInt32.toInt
theorem aw_iand {a b : Int} (hd : decode M.2.2.1 pc = .ok (.iand, 1)) (k : AW G M d Q (pc + 1) ls (am_I (am_and a b) :: st) h) : AW G M d Q pc ls (am_I b :: am_I a :: st) h := by
  intro p l e s m args below meth c H locs dC dI cT ad A lsC C hP hD hS hL
  refine lv_iand C.1 C.2.1 hd ?_
  have K := k p l e s m args below meth c H locs dC dI cT ad A lsC C hP hD hS hL
  rw [List.map_cons, am_cv, am_and, Int32.ofInt_toInt] at K
  exact K
theorem aw_ior {a b : Int} (hd : decode M.2.2.1 pc = .ok (.ior, 1)) (k : AW G M d Q (pc + 1) ls (am_I (am_or a b) :: st) h) : AW G M d Q pc ls (am_I b :: am_I a :: st) h := by
  intro p l e s m args below meth c H locs dC dI cT ad A lsC C hP hD hS hL
  refine lv_ior C.1 C.2.1 hd ?_
  have K := k p l e s m args below meth c H locs dC dI cT ad A lsC C hP hD hS hL
  rw [List.map_cons, am_cv, am_or, Int32.ofInt_toInt] at K
  exact K
theorem aw_ixor {a b : Int} (hd : decode M.2.2.1 pc = .ok (.ixor, 1)) (k : AW G M d Q (pc + 1) ls (am_I (am_xor a b) :: st) h) : AW G M d Q pc ls (am_I b :: am_I a :: st) h := by
  intro p l e s m args below meth c H locs dC dI cT ad A lsC C hP hD hS hL
  refine lv_ixor C.1 C.2.1 hd ?_
  have K := k p l e s m args below meth c H locs dC dI cT ad A lsC C hP hD hS hL
  rw [List.map_cons, am_cv, am_xor, Int32.ofInt_toInt] at K
  exact K
theorem aw_ishl {a b : Int} (hd : decode M.2.2.1 pc = .ok (.ishl, 1)) (k : AW G M d Q (pc + 1) ls (am_I (am_shl a b) :: st) h) : AW G M d Q pc ls (am_I b :: am_I a :: st) h := by
  intro p l e s m args below meth c H locs dC dI cT ad A lsC C hP hD hS hL
  refine lv_ishl C.1 C.2.1 hd ?_
  have K := k p l e s m args below meth c H locs dC dI cT ad A lsC C hP hD hS hL
  rw [List.map_cons, am_cv, am_shl, Int32.ofInt_toInt] at K
  exact K
theorem aw_ishr {a b : Int} (hd : decode M.2.2.1 pc = .ok (.ishr, 1)) (k : AW G M d Q (pc + 1) ls (am_I (am_shr a b) :: st) h) : AW G M d Q pc ls (am_I b :: am_I a :: st) h := by
  intro p l e s m args below meth c H locs dC dI cT ad A lsC C hP hD hS hL
  refine lv_ishr C.1 C.2.1 hd ?_
  have K := k p l e s m args below meth c H locs dC dI cT ad A lsC C hP hD hS hL
  rw [List.map_cons, am_cv, am_shr, Int32.ofInt_toInt] at K
  exact K
theorem aw_iushr {a b : Int} (hd : decode M.2.2.1 pc = .ok (.iushr, 1)) (k : AW G M d Q (pc + 1) ls (am_I (am_ushr a b) :: st) h) : AW G M d Q pc ls (am_I b :: am_I a :: st) h := by
  intro p l e s m args below meth c H locs dC dI cT ad A lsC C hP hD hS hL
  have K := k p l e s m args below meth c H locs dC dI cT ad A lsC C hP hD hS hL
  rw [List.map_cons, am_cv, am_ushr, Int32.ofInt_toInt] at K
  exact lv_iushr C.1 C.2.1 hd rfl K
theorem aw_i2l {a : Int} (ha : -2147483648 ≤ a ∧ a < 2147483648) (hd : decode M.2.2.1 pc = .ok (.i2l, 1)) (k : AW G M d Q (pc + 1) ls (am_J a :: st) h) : AW G M d Q pc ls (am_I a :: st) h := by
  intro p l e s m args below meth c H locs dC dI cT ad A lsC C hP hD hS hL
  have he : (Int32.ofInt a).toInt64 = Int64.ofInt a := by rw [← Int64.toInt_inj, Int32.toInt_toInt64, am_toI ha, am_toJ (by omega)]
  exact lv_i2l C.1 C.2.1 hd he (k p l e s m args below meth c H locs dC dI cT ad A lsC C hP hD hS hL)
theorem aw_l2i {a : Int} (hd : decode M.2.2.1 pc = .ok (.l2i, 1)) (k : AW G M d Q (pc + 1) ls (am_I a :: st) h) : AW G M d Q pc ls (am_J a :: st) h := by
  intro p l e s m args below meth c H locs dC dI cT ad A lsC C hP hD hS hL
  exact lv_l2i C.1 C.2.1 hd Int64.toInt32_ofInt (k p l e s m args below meth c H locs dC dI cT ad A lsC C hP hD hS hL)
theorem aw_i2b {a v : Int} (hv : a.bmod 256 = v) (hd : decode M.2.2.1 pc = .ok (.i2b, 1)) (k : AW G M d Q (pc + 1) ls (am_I v :: st) h) : AW G M d Q pc ls (am_I a :: st) h := by
  subst hv
  intro p l e s m args below meth c H locs dC dI cT ad A lsC C hP hD hS hL
  have he : (Int32.ofInt a).toInt8.toInt32 = Int32.ofInt (a.bmod 256) := by
    have h1 := Int.bmod_lt (x := a) (m := 256) (by decide)
    have h2 := Int.le_bmod (x := a) (m := 256) (by decide)
    rw [← Int32.toInt_inj, Int8.toInt_toInt32, Int32.toInt8_ofInt, Int8.toInt_ofInt, am_toI (by omega)]
  exact lv_i2b C.1 C.2.1 hd he (k p l e s m args below meth c H locs dC dI cT ad A lsC C hP hD hS hL)
theorem am_c1 {ad : Int → Nat} {v : am_V} (hv : ∀ a, v ≠ am_J a) : (am_cv ad v).category = 1 := by
  rcases v with a | a | a
  · rfl
  · exact absurd rfl (hv a)
  · rfl
theorem aw_dupR {a : Int} (hd : decode M.2.2.1 pc = .ok (.dup, 1)) (k : AW G M d Q (pc + 1) ls (am_R a :: am_R a :: st) h) : AW G M d Q pc ls (am_R a :: st) h := by
  intro p l e s m args below meth c H locs dC dI cT ad A lsC C hP hD hS hL
  exact lv_dup C.1 C.2.1 hd rfl (k p l e s m args below meth c H locs dC dI cT ad A lsC C hP hD hS hL)
theorem aw_dupI {a : Int} (hd : decode M.2.2.1 pc = .ok (.dup, 1)) (k : AW G M d Q (pc + 1) ls (am_I a :: am_I a :: st) h) : AW G M d Q pc ls (am_I a :: st) h := by
  intro p l e s m args below meth c H locs dC dI cT ad A lsC C hP hD hS hL
  exact lv_dup C.1 C.2.1 hd rfl (k p l e s m args below meth c H locs dC dI cT ad A lsC C hP hD hS hL)
theorem aw_popI {a : Int} (hd : decode M.2.2.1 pc = .ok (.pop, 1)) (k : AW G M d Q (pc + 1) ls st h) : AW G M d Q pc ls (am_I a :: st) h := by
  intro p l e s m args below meth c H locs dC dI cT ad A lsC C hP hD hS hL
  exact lv_pop C.1 C.2.1 hd rfl (k p l e s m args below meth c H locs dC dI cT ad A lsC C hP hD hS hL)
theorem aw_dup2 {a b : Int} (hd : decode M.2.2.1 pc = .ok (.dup2, 1)) (k : AW G M d Q (pc + 1) ls (am_I a :: am_R b :: am_I a :: am_R b :: st) h) : AW G M d Q pc ls (am_I a :: am_R b :: st) h := by
  intro p l e s m args below meth c H locs dC dI cT ad A lsC C hP hD hS hL
  exact lv_dup2_11 C.1 C.2.1 hd rfl rfl (k p l e s m args below meth c H locs dC dI cT ad A lsC C hP hD hS hL)
theorem aw_icmp_eq {a b off : Int} {tgt : Nat} (hd : decode M.2.2.1 pc = .ok (.if_icmp .eq off, 3)) (ht : (pc : Int) + off = (tgt : Int)) (ha : -2147483648 ≤ a ∧ a < 2147483648) (hb : -2147483648 ≤ b ∧ b < 2147483648) (kt : a = b → AW G M d Q tgt ls st h) (kf : ¬ (a = b) → AW G M d Q (pc + 3) ls st h) : AW G M d Q pc ls (am_I b :: am_I a :: st) h := by
  intro p l e s m args below meth c H locs dC dI cT ad A lsC C hP hD hS hL
  exact lv_icmp_eq C.1 C.2.1 hd ht (fun q => kt ((am_eq ha hb).mp q) p l e s m args below meth c H locs dC dI cT ad A lsC C hP hD hS hL) (fun q => kf (fun z => q ((am_eq ha hb).mpr z)) p l e s m args below meth c H locs dC dI cT ad A lsC C hP hD hS hL)
theorem aw_if_eq {a off : Int} {tgt : Nat} (hd : decode M.2.2.1 pc = .ok (.ifCond .eq off, 3)) (ht : (pc : Int) + off = (tgt : Int)) (ha : -2147483648 ≤ a ∧ a < 2147483648) (kt : a = 0 → AW G M d Q tgt ls st h) (kf : ¬ (a = 0) → AW G M d Q (pc + 3) ls st h) : AW G M d Q pc ls (am_I a :: st) h := by
  intro p l e s m args below meth c H locs dC dI cT ad A lsC C hP hD hS hL
  exact lv_if_eq C.1 C.2.1 hd ht (fun q => kt ((am_eq (b := 0) ha (by omega)).mp q) p l e s m args below meth c H locs dC dI cT ad A lsC C hP hD hS hL) (fun q => kf (fun z => q ((am_eq (b := 0) ha (by omega)).mpr z)) p l e s m args below meth c H locs dC dI cT ad A lsC C hP hD hS hL)
theorem aw_icmp_ne {a b off : Int} {tgt : Nat} (hd : decode M.2.2.1 pc = .ok (.if_icmp .ne off, 3)) (ht : (pc : Int) + off = (tgt : Int)) (ha : -2147483648 ≤ a ∧ a < 2147483648) (hb : -2147483648 ≤ b ∧ b < 2147483648) (kt : ¬ a = b → AW G M d Q tgt ls st h) (kf : a = b → AW G M d Q (pc + 3) ls st h) : AW G M d Q pc ls (am_I b :: am_I a :: st) h := by
  intro p l e s m args below meth c H locs dC dI cT ad A lsC C hP hD hS hL
  exact lv_icmp_ne C.1 C.2.1 hd ht (fun q => kt (fun z => q ((am_eq ha hb).mpr z)) p l e s m args below meth c H locs dC dI cT ad A lsC C hP hD hS hL) (fun q => kf ((am_eq ha hb).mp q) p l e s m args below meth c H locs dC dI cT ad A lsC C hP hD hS hL)
theorem aw_if_ne {a off : Int} {tgt : Nat} (hd : decode M.2.2.1 pc = .ok (.ifCond .ne off, 3)) (ht : (pc : Int) + off = (tgt : Int)) (ha : -2147483648 ≤ a ∧ a < 2147483648) (kt : ¬ a = 0 → AW G M d Q tgt ls st h) (kf : a = 0 → AW G M d Q (pc + 3) ls st h) : AW G M d Q pc ls (am_I a :: st) h := by
  intro p l e s m args below meth c H locs dC dI cT ad A lsC C hP hD hS hL
  exact lv_if_ne C.1 C.2.1 hd ht (fun q => kt (fun z => q ((am_eq (b := 0) ha (by omega)).mpr z)) p l e s m args below meth c H locs dC dI cT ad A lsC C hP hD hS hL) (fun q => kf ((am_eq (b := 0) ha (by omega)).mp q) p l e s m args below meth c H locs dC dI cT ad A lsC C hP hD hS hL)
theorem aw_icmp_lt {a b off : Int} {tgt : Nat} (hd : decode M.2.2.1 pc = .ok (.if_icmp .lt off, 3)) (ht : (pc : Int) + off = (tgt : Int)) (ha : -2147483648 ≤ a ∧ a < 2147483648) (hb : -2147483648 ≤ b ∧ b < 2147483648) (kt : a < b → AW G M d Q tgt ls st h) (kf : ¬ (a < b) → AW G M d Q (pc + 3) ls st h) : AW G M d Q pc ls (am_I b :: am_I a :: st) h := by
  intro p l e s m args below meth c H locs dC dI cT ad A lsC C hP hD hS hL
  exact lv_icmp_lt C.1 C.2.1 hd ht (fun q => kt ((am_lt ha hb).mp q) p l e s m args below meth c H locs dC dI cT ad A lsC C hP hD hS hL) (fun q => kf (fun z => q ((am_lt ha hb).mpr z)) p l e s m args below meth c H locs dC dI cT ad A lsC C hP hD hS hL)
theorem aw_if_lt {a off : Int} {tgt : Nat} (hd : decode M.2.2.1 pc = .ok (.ifCond .lt off, 3)) (ht : (pc : Int) + off = (tgt : Int)) (ha : -2147483648 ≤ a ∧ a < 2147483648) (kt : a < 0 → AW G M d Q tgt ls st h) (kf : ¬ (a < 0) → AW G M d Q (pc + 3) ls st h) : AW G M d Q pc ls (am_I a :: st) h := by
  intro p l e s m args below meth c H locs dC dI cT ad A lsC C hP hD hS hL
  exact lv_if_lt C.1 C.2.1 hd ht (fun q => kt ((am_lt (b := 0) ha (by omega)).mp q) p l e s m args below meth c H locs dC dI cT ad A lsC C hP hD hS hL) (fun q => kf (fun z => q ((am_lt (b := 0) ha (by omega)).mpr z)) p l e s m args below meth c H locs dC dI cT ad A lsC C hP hD hS hL)
theorem aw_icmp_ge {a b off : Int} {tgt : Nat} (hd : decode M.2.2.1 pc = .ok (.if_icmp .ge off, 3)) (ht : (pc : Int) + off = (tgt : Int)) (ha : -2147483648 ≤ a ∧ a < 2147483648) (hb : -2147483648 ≤ b ∧ b < 2147483648) (kt : b ≤ a → AW G M d Q tgt ls st h) (kf : ¬ (b ≤ a) → AW G M d Q (pc + 3) ls st h) : AW G M d Q pc ls (am_I b :: am_I a :: st) h := by
  intro p l e s m args below meth c H locs dC dI cT ad A lsC C hP hD hS hL
  exact lv_icmp_ge C.1 C.2.1 hd ht (fun q => kt ((am_le hb ha).mp q) p l e s m args below meth c H locs dC dI cT ad A lsC C hP hD hS hL) (fun q => kf (fun z => q ((am_le hb ha).mpr z)) p l e s m args below meth c H locs dC dI cT ad A lsC C hP hD hS hL)
theorem aw_if_ge {a off : Int} {tgt : Nat} (hd : decode M.2.2.1 pc = .ok (.ifCond .ge off, 3)) (ht : (pc : Int) + off = (tgt : Int)) (ha : -2147483648 ≤ a ∧ a < 2147483648) (kt : 0 ≤ a → AW G M d Q tgt ls st h) (kf : ¬ (0 ≤ a) → AW G M d Q (pc + 3) ls st h) : AW G M d Q pc ls (am_I a :: st) h := by
  intro p l e s m args below meth c H locs dC dI cT ad A lsC C hP hD hS hL
  exact lv_if_ge C.1 C.2.1 hd ht (fun q => kt ((am_le (a := 0) (by omega) ha).mp q) p l e s m args below meth c H locs dC dI cT ad A lsC C hP hD hS hL) (fun q => kf (fun z => q ((am_le (a := 0) (by omega) ha).mpr z)) p l e s m args below meth c H locs dC dI cT ad A lsC C hP hD hS hL)
theorem aw_icmp_gt {a b off : Int} {tgt : Nat} (hd : decode M.2.2.1 pc = .ok (.if_icmp .gt off, 3)) (ht : (pc : Int) + off = (tgt : Int)) (ha : -2147483648 ≤ a ∧ a < 2147483648) (hb : -2147483648 ≤ b ∧ b < 2147483648) (kt : b < a → AW G M d Q tgt ls st h) (kf : ¬ (b < a) → AW G M d Q (pc + 3) ls st h) : AW G M d Q pc ls (am_I b :: am_I a :: st) h := by
  intro p l e s m args below meth c H locs dC dI cT ad A lsC C hP hD hS hL
  exact lv_icmp_gt C.1 C.2.1 hd ht (fun q => kt ((am_lt hb ha).mp q) p l e s m args below meth c H locs dC dI cT ad A lsC C hP hD hS hL) (fun q => kf (fun z => q ((am_lt hb ha).mpr z)) p l e s m args below meth c H locs dC dI cT ad A lsC C hP hD hS hL)
theorem aw_if_gt {a off : Int} {tgt : Nat} (hd : decode M.2.2.1 pc = .ok (.ifCond .gt off, 3)) (ht : (pc : Int) + off = (tgt : Int)) (ha : -2147483648 ≤ a ∧ a < 2147483648) (kt : 0 < a → AW G M d Q tgt ls st h) (kf : ¬ (0 < a) → AW G M d Q (pc + 3) ls st h) : AW G M d Q pc ls (am_I a :: st) h := by
  intro p l e s m args below meth c H locs dC dI cT ad A lsC C hP hD hS hL
  exact lv_if_gt C.1 C.2.1 hd ht (fun q => kt ((am_lt (a := 0) (by omega) ha).mp q) p l e s m args below meth c H locs dC dI cT ad A lsC C hP hD hS hL) (fun q => kf (fun z => q ((am_lt (a := 0) (by omega) ha).mpr z)) p l e s m args below meth c H locs dC dI cT ad A lsC C hP hD hS hL)
theorem aw_icmp_le {a b off : Int} {tgt : Nat} (hd : decode M.2.2.1 pc = .ok (.if_icmp .le off, 3)) (ht : (pc : Int) + off = (tgt : Int)) (ha : -2147483648 ≤ a ∧ a < 2147483648) (hb : -2147483648 ≤ b ∧ b < 2147483648) (kt : a ≤ b → AW G M d Q tgt ls st h) (kf : ¬ (a ≤ b) → AW G M d Q (pc + 3) ls st h) : AW G M d Q pc ls (am_I b :: am_I a :: st) h := by
  intro p l e s m args below meth c H locs dC dI cT ad A lsC C hP hD hS hL
  exact lv_icmp_le C.1 C.2.1 hd ht (fun q => kt ((am_le ha hb).mp q) p l e s m args below meth c H locs dC dI cT ad A lsC C hP hD hS hL) (fun q => kf (fun z => q ((am_le ha hb).mpr z)) p l e s m args below meth c H locs dC dI cT ad A lsC C hP hD hS hL)
theorem aw_if_le {a off : Int} {tgt : Nat} (hd : decode M.2.2.1 pc = .ok (.ifCond .le off, 3)) (ht : (pc : Int) + off = (tgt : Int)) (ha : -2147483648 ≤ a ∧ a < 2147483648) (kt : a ≤ 0 → AW G M d Q tgt ls st h) (kf : ¬ (a ≤ 0) → AW G M d Q (pc + 3) ls st h) : AW G M d Q pc ls (am_I a :: st) h := by
  intro p l e s m args below meth c H locs dC dI cT ad A lsC C hP hD hS hL
  exact lv_if_le C.1 C.2.1 hd ht (fun q => kt ((am_le (b := 0) ha (by omega)).mp q) p l e s m args below meth c H locs dC dI cT ad A lsC C hP hD hS hL) (fun q => kf (fun z => q ((am_le (b := 0) ha (by omega)).mpr z)) p l e s m args below meth c H locs dC dI cT ad A lsC C hP hD hS hL)
theorem aw_goto {off : Int} {tgt : Nat} (hd : decode M.2.2.1 pc = .ok (.goto off, 3)) (ht : (pc : Int) + off = (tgt : Int)) (k : AW G M d Q tgt ls st h) : AW G M d Q pc ls st h := by
  intro p l e s m args below meth c H locs dC dI cT ad A lsC C hP hD hS hL
  exact lv_goto C.1 C.2.1 hd ht (k p l e s m args below meth c H locs dC dI cT ad A lsC C hP hD hS hL)
theorem aw_tswOut {a dflt lo hi : Int} {offs : Array Int} {len tgt : Nat} (hd : decode M.2.2.1 pc = .ok (.tableswitch dflt lo hi offs, len)) (ha : -2147483648 ≤ a ∧ a < 2147483648) (hx : a < lo ∨ hi < a) (ht : (pc : Int) + dflt = (tgt : Int)) (k : AW G M d Q tgt ls st h) : AW G M d Q pc ls (am_I a :: st) h := by
  intro p l e s m args below meth c H locs dC dI cT ad A lsC C hP hD hS hL
  exact lv_tableOut C.1 C.2.1 hd (by rw [am_toI ha]; exact hx) ht (k p l e s m args below meth c H locs dC dI cT ad A lsC C hP hD hS hL)
theorem aw_tswIn {a dflt lo hi off : Int} {offs : Array Int} {len tgt : Nat} (hd : decode M.2.2.1 pc = .ok (.tableswitch dflt lo hi offs, len)) (ha : -2147483648 ≤ a ∧ a < 2147483648) (h1 : ¬ a < lo) (h2 : ¬ hi < a) (ho : offs[(a - lo).toNat]? = some off) (ht : (pc : Int) + off = (tgt : Int)) (k : AW G M d Q tgt ls st h) : AW G M d Q pc ls (am_I a :: st) h := by
  intro p l e s m args below meth c H locs dC dI cT ad A lsC C hP hD hS hL
  exact lv_tableIn C.1 C.2.1 hd (by rw [am_toI ha]; exact h1) (by rw [am_toI ha]; exact h2) (by rw [am_toI ha]; exact ho) ht (k p l e s m args below meth c H locs dC dI cT ad A lsC C hP hD hS hL)
theorem aw_lsw {a dflt off : Int} {ps : Array (Int × Int)} {len tgt : Nat} (hd : decode M.2.2.1 pc = .ok (.lookupswitch dflt ps, len)) (ha : -2147483648 ≤ a ∧ a < 2147483648) (hp : (ps.toList.zip (ps.toList.drop 1)).all (fun (a, next) => a.1 < next.1) = true) (ho : Op.lookupswitch.offset ps.toList dflt a = off) (ht : (pc : Int) + off = (tgt : Int)) (k : AW G M d Q tgt ls st h) : AW G M d Q pc ls (am_I a :: st) h := by
  intro p l e s m args below meth c H locs dC dI cT ad A lsC C hP hD hS hL
  exact lv_lookup C.1 C.2.1 hd hp (by rw [am_toI ha]; exact ho) ht (k p l e s m args below meth c H locs dC dI cT ad A lsC C hP hD hS hL)
def am_cmp (a b : Int) : Int := if b < a then 1 else if a = b then 0 else -1
theorem aw_lcmp {a b : Int} (hd : decode M.2.2.1 pc = .ok (.lcmp, 1)) (ha : -9223372036854775808 ≤ a ∧ a < 9223372036854775808) (hb : -9223372036854775808 ≤ b ∧ b < 9223372036854775808) (k : AW G M d Q (pc + 1) ls (am_I (am_cmp a b) :: st) h) : AW G M d Q pc ls (am_J b :: am_J a :: st) h := by
  intro p l e s m args below meth c H locs dC dI cT ad A lsC C hP hD hS hL
  refine W.lcmp C.1 C.2.1 hd ?_
  have he : lg_cmp (Int64.ofInt a) (Int64.ofInt b) = Int32.ofInt (am_cmp a b) := by
    unfold lg_cmp am_cmp
    simp only [gt_iff_lt, am_ltJ hb ha, am_eqJ ha hb]
    split
    · rfl
    · split <;> rfl
  rw [he]
  exact k p l e s m args below meth c H locs dC dI cT ad A lsC C hP hD hS hL
theorem aw_ireturn {a : Int} (hd : decode M.2.2.1 pc = .ok (.ireturn, 1)) (hr : M.2.2.2.2 = some .int) (hq : Q (some (am_I a)) h) : AW G M d Q pc ls [am_I a] h := by
  intro p l e s m args below meth c H locs dC dI cT ad A lsC C hP hD hS hL
  obtain ⟨hx, hb, hrt, hml, hown, hts, hlocks, hK, hA⟩ := C
  exact W.iret hx hb (hrt.trans hr) (fun t ht hW => ⟨⟨some (am_I a), h, hq, rfl, by rw [ht]; exact hP, va_K.moved hW.alike hK, hD⟩, hS.F ht⟩) hS.2.2 hd hlocks
theorem aw_zreturn {a : Int} (hd : decode M.2.2.1 pc = .ok (.ireturn, 1)) (hr : M.2.2.2.2 = some .boolean) (ha : a = 0 ∨ a = 1) (hq : Q (some (am_I a)) h) : AW G M d Q pc ls [am_I a] h := by
  intro p l e s m args below meth c H locs dC dI cT ad A lsC C hP hD hS hL
  obtain ⟨hx, hb, hrt, hml, hown, hts, hlocks, hK, hA⟩ := C
  exact W.zret hx hb (hrt.trans hr) (by rcases ha with rfl | rfl <;> rfl) (fun t ht hW => ⟨⟨some (am_I a), h, hq, rfl, by rw [ht]; exact hP, va_K.moved hW.alike hK, hD⟩, hS.F ht⟩) hS.2.2 hd hlocks
theorem aw_lreturn {a : Int} (hd : decode M.2.2.1 pc = .ok (.lreturn, 1)) (hr : M.2.2.2.2 = some .long) (hq : Q (some (am_J a)) h) : AW G M d Q pc ls [am_J a] h := by
  intro p l e s m args below meth c H locs dC dI cT ad A lsC C hP hD hS hL
  obtain ⟨hx, hb, hrt, hml, hown, hts, hlocks, hK, hA⟩ := C
  exact W.lret hx hb (hrt.trans hr) (fun t ht hW => ⟨⟨some (am_J a), h, hq, rfl, by rw [ht]; exact hP, va_K.moved hW.alike hK, hD⟩, hS.F ht⟩) hS.2.2 hd hlocks
theorem aw_return (hd : decode M.2.2.1 pc = .ok (.return_, 1)) (hr : M.2.2.2.2 = none) (hq : Q none h) : AW G M d Q pc ls [] h := by
  intro p l e s m args below meth c H locs dC dI cT ad A lsC C hP hD hS hL
  obtain ⟨hx, hb, hrt, hml, hown, hts, hlocks, hK, hA⟩ := C
  exact W.vret hx hb (hrt.trans hr) (fun t ht hW => ⟨⟨none, h, hq, rfl, by rw [ht]; exact hP, va_K.moved hW.alike hK, hD⟩, hS.F ht⟩) hS.2.2 hd hlocks
end AMROWS
