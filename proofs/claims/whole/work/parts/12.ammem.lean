section AMMEM
variable {G : List am_K} {M : am_M} {d : Nat} {Q : Option am_V → am_H → Prop} {pc : Nat} {ls : List (Option am_V)} {st : List am_V} {h : am_H}
/-- pool entry idx of the class own is field k of the class number ci -/
def am_FL (own : String) (idx ci k : Nat) : Prop := ∃ (C : String) (T : u_T) (N : Nat), vwCl[ci]? = some (C, T, N) ∧ k < N ∧ (∀ w ∈ u_ws C T N, w ∈ am_tb) ∧ (T k).1 = C ∧ Cond.fieldLink own idx C (T k).2.1 (T k).2.2.1 ∈ am_tb
/-- and may be written, at the type ty -/
def am_FP (own : String) (idx ci k : Nat) (ty : FieldType) : Prop := ∃ (C : String) (T : u_T) (N : Nat) (ty0 : Nat → FieldType), vwCl[ci]? = some (C, T, N) ∧ k < N ∧ (∀ w ∈ u_ws C T N, w ∈ am_tb) ∧ (T k).1 = C ∧ Cond.fieldLink own idx C (T k).2.1 (T k).2.2.1 ∈ am_tb ∧ (T k).2.2.2 = false ∧ parseFieldDescriptor (T k).2.2.1 = some ty ∧ (∀ k, k < N → parseFieldDescriptor (T k).2.2.1 = some (ty0 k)) ∧ (∀ a, a < N → ∀ b, b < N → a ≠ b → (T a).2.1 ≠ (T b).2.1)
theorem am_fs {ad : Int → Nat} {fts : List (Nat × Int)} {f : Int → Int} {k : Nat} {t : Nat × Int} (hf : fts[k]? = some t) : (fts.mapIdx fun i t => am_fv ad t (f i))[k]? = some (am_fv ad t (f k)) := by
  rw [List.getElem?_mapIdx, hf]; rfl
theorem am_fset {ad : Int → Nat} {fts : List (Nat × Int)} {f : Int → Int} {k : Nat} {t : Nat × Int} {x : Int} {v : Value} (hf : fts[k]? = some t) (hv : am_fv ad t x = v) : (fts.mapIdx fun i t => am_fv ad t (f i)).set k v = fts.mapIdx fun i t => am_fv ad t ((fun j : Int => if j = (k : Int) then x else f j) i) := by
  have hk : k < fts.length := (List.getElem?_eq_some_iff.mp hf).1
  apply List.ext_getElem?
  intro i
  by_cases e : i = k
  · subst e
    rw [List.getElem?_set_self (by rw [List.length_mapIdx]; exact hk), List.getElem?_mapIdx, hf]
    simp [hv]
  · rw [List.getElem?_set_ne (Ne.symm e), List.getElem?_mapIdx, List.getElem?_mapIdx]
    congr 1
    funext t'
    have e2 : ¬ ((i : Int) = (k : Int)) := by omega
    simp [e2]
theorem aw_getI {idx ci kk : Nat} {c t2 kx : Int} {fts : List (Nat × Int)} (hf : am_FL M.1 idx ci kk) (hd : decode M.2.2.1 pc = .ok (.getfield idx, 3)) (hk : am_kd G c = some (.inl (ci, fts))) (ht : fts[kk]? = some (0, t2)) (hkx : ((kk : Nat) : Int) = kx) (k : AW G M d Q (pc + 3) ls (am_I (h c kx) :: st) h) : AW G M d Q pc ls (am_R c :: st) h := by
  subst hkx
  intro p l e s m args below meth c H locs dC dI cT ad A lsC C hP hD hS hL
  obtain ⟨n, rfl, hn⟩ := am_kd_n hk
  obtain ⟨Cn, T, N, hc, hkN, hin, hC, hlk⟩ := hf
  refine va_get (D := (dC, dI)) (q0 := n) (fs := _) (v := am_fv ad (0, t2) (h n kk)) C.1 C.2.1 C.2.2.2.2.2.1 hin C.2.2.2.2.1 C.2.2.2.2.2.2.2.1 hP (am_W_at hn) hc kk hkN (C.2.2.2.2.2.1 _ hlk) (fun x hx => by rw [hC] at hx; exact hx) (am_fs ht) hd ?_
  exact k p l e s m args below meth c H locs dC dI cT ad A lsC C hP hD hS hL
theorem aw_getJ {idx ci kk : Nat} {c t2 kx : Int} {fts : List (Nat × Int)} (hf : am_FL M.1 idx ci kk) (hd : decode M.2.2.1 pc = .ok (.getfield idx, 3)) (hk : am_kd G c = some (.inl (ci, fts))) (ht : fts[kk]? = some (1, t2)) (hkx : ((kk : Nat) : Int) = kx) (k : AW G M d Q (pc + 3) ls (am_J (h c kx) :: st) h) : AW G M d Q pc ls (am_R c :: st) h := by
  subst hkx
  intro p l e s m args below meth c H locs dC dI cT ad A lsC C hP hD hS hL
  obtain ⟨n, rfl, hn⟩ := am_kd_n hk
  obtain ⟨Cn, T, N, hc, hkN, hin, hC, hlk⟩ := hf
  refine va_get (D := (dC, dI)) (q0 := n) (fs := _) (v := am_fv ad (1, t2) (h n kk)) C.1 C.2.1 C.2.2.2.2.2.1 hin C.2.2.2.2.1 C.2.2.2.2.2.2.2.1 hP (am_W_at hn) hc kk hkN (C.2.2.2.2.2.1 _ hlk) (fun x hx => by rw [hC] at hx; exact hx) (am_fs ht) hd ?_
  exact k p l e s m args below meth c H locs dC dI cT ad A lsC C hP hD hS hL
theorem aw_getR {idx ci kk : Nat} {c t2 kx : Int} {fts : List (Nat × Int)} (hf : am_FL M.1 idx ci kk) (hd : decode M.2.2.1 pc = .ok (.getfield idx, 3)) (hk : am_kd G c = some (.inl (ci, fts))) (ht : fts[kk]? = some (2, t2)) (hkx : ((kk : Nat) : Int) = kx) (k : AW G M d Q (pc + 3) ls (am_R (t2) :: st) h) : AW G M d Q pc ls (am_R c :: st) h := by
  subst hkx
  intro p l e s m args below meth c H locs dC dI cT ad A lsC C hP hD hS hL
  obtain ⟨n, rfl, hn⟩ := am_kd_n hk
  obtain ⟨Cn, T, N, hc, hkN, hin, hC, hlk⟩ := hf
  refine va_get (D := (dC, dI)) (q0 := n) (fs := _) (v := am_fv ad (2, t2) (h n kk)) C.1 C.2.1 C.2.2.2.2.2.1 hin C.2.2.2.2.1 C.2.2.2.2.2.2.2.1 hP (am_W_at hn) hc kk hkN (C.2.2.2.2.2.1 _ hlk) (fun x hx => by rw [hC] at hx; exact hx) (am_fs ht) hd ?_
  exact k p l e s m args below meth c H locs dC dI cT ad A lsC C hP hD hS hL
theorem aw_getD {idx ci kk : Nat} {c t2 kx : Int} {fts : List (Nat × Int)} (hf : am_FL M.1 idx ci kk) (hd : decode M.2.2.1 pc = .ok (.getfield idx, 3)) (hk : am_kd G c = some (.inl (ci, fts))) (ht : fts[kk]? = some (3, t2)) (hkx : ((kk : Nat) : Int) = kx) (k : AW G M d Q (pc + 3) ls (am_R (h c kx) :: st) h) : AW G M d Q pc ls (am_R c :: st) h := by
  subst hkx
  intro p l e s m args below meth c H locs dC dI cT ad A lsC C hP hD hS hL
  obtain ⟨n, rfl, hn⟩ := am_kd_n hk
  obtain ⟨Cn, T, N, hc, hkN, hin, hC, hlk⟩ := hf
  refine va_get (D := (dC, dI)) (q0 := n) (fs := _) (v := am_fv ad (3, t2) (h n kk)) C.1 C.2.1 C.2.2.2.2.2.1 hin C.2.2.2.2.1 C.2.2.2.2.2.2.2.1 hP (am_W_at hn) hc kk hkN (C.2.2.2.2.2.1 _ hlk) (fun x hx => by rw [hC] at hx; exact hx) (am_fs ht) hd ?_
  exact k p l e s m args below meth c H locs dC dI cT ad A lsC C hP hD hS hL
theorem aw_putI {idx ci kk : Nat} {c t2 v kx : Int} {fts : List (Nat × Int)} (hf : am_FP M.1 idx ci kk .int) (hd : decode M.2.2.1 pc = .ok (.putfield idx, 3)) (hk : am_kd G c = some (.inl (ci, fts))) (ht : fts[kk]? = some (0, t2)) (hkx : ((kk : Nat) : Int) = kx) (k : AW G M d Q (pc + 3) ls st (am_set h c kx v)) : AW G M d Q pc ls (am_I v :: am_R c :: st) h := by
  subst hkx
  intro p l e s m args below meth c H locs dC dI cT ad A lsC C hP hD hS hL
  obtain ⟨n, rfl, hn⟩ := am_kd_n hk
  obtain ⟨Cn, T, N, ty0, hc, hkN, hin, hC, hlk, hfin, hpt, hty0, hnm⟩ := hf
  have hkl : kk < fts.length := (List.getElem?_eq_some_iff.mp ht).1
  refine va_put (D := (dC, dI)) (q0 := n) (v := am_cv ad (am_I v)) C.1 C.2.1 C.2.2.2.2.2.1 hin ty0 hty0 hnm C.2.2.2.2.1 C.2.2.2.2.2.2.2.1 hP hD hS (am_W_at hn) hc kk hkN (C.2.2.2.2.2.1 _ hlk) (fun x hx => by rw [hC] at hx; exact hx) hfin hpt rfl rfl (by rw [List.length_mapIdx]; exact hkl) hd (fun H1 locs1 hP1 hD1 hS1 => ?_)
  have he := am_W_set (cT := cT) (ad := ad) (h := h) hn (fun j : Int => if j = (kk : Int) then v else h n j) (e := .inr (ci, (fts.mapIdx fun i t => am_fv ad t (h n i)).set kk (am_cv ad (am_I v)))) (congrArg (fun z => (Sum.inr (ci, z) : va_E)) (am_fset (ad := ad) (f := h n) ht (x := v) (v := am_cv ad (am_I v)) rfl))
  rw [he] at hP1 hD1
  exact k p l e s m args below meth c H1 locs1 dC dI cT ad A lsC C hP1 hD1 hS1 hL
theorem aw_putJ {idx ci kk : Nat} {c t2 v kx : Int} {fts : List (Nat × Int)} (hf : am_FP M.1 idx ci kk .long) (hd : decode M.2.2.1 pc = .ok (.putfield idx, 3)) (hk : am_kd G c = some (.inl (ci, fts))) (ht : fts[kk]? = some (1, t2)) (hkx : ((kk : Nat) : Int) = kx) (k : AW G M d Q (pc + 3) ls st (am_set h c kx v)) : AW G M d Q pc ls (am_J v :: am_R c :: st) h := by
  subst hkx
  intro p l e s m args below meth c H locs dC dI cT ad A lsC C hP hD hS hL
  obtain ⟨n, rfl, hn⟩ := am_kd_n hk
  obtain ⟨Cn, T, N, ty0, hc, hkN, hin, hC, hlk, hfin, hpt, hty0, hnm⟩ := hf
  have hkl : kk < fts.length := (List.getElem?_eq_some_iff.mp ht).1
  refine va_put (D := (dC, dI)) (q0 := n) (v := am_cv ad (am_J v)) C.1 C.2.1 C.2.2.2.2.2.1 hin ty0 hty0 hnm C.2.2.2.2.1 C.2.2.2.2.2.2.2.1 hP hD hS (am_W_at hn) hc kk hkN (C.2.2.2.2.2.1 _ hlk) (fun x hx => by rw [hC] at hx; exact hx) hfin hpt rfl rfl (by rw [List.length_mapIdx]; exact hkl) hd (fun H1 locs1 hP1 hD1 hS1 => ?_)
  have he := am_W_set (cT := cT) (ad := ad) (h := h) hn (fun j : Int => if j = (kk : Int) then v else h n j) (e := .inr (ci, (fts.mapIdx fun i t => am_fv ad t (h n i)).set kk (am_cv ad (am_J v)))) (congrArg (fun z => (Sum.inr (ci, z) : va_E)) (am_fset (ad := ad) (f := h n) ht (x := v) (v := am_cv ad (am_J v)) rfl))
  rw [he] at hP1 hD1
  exact k p l e s m args below meth c H1 locs1 dC dI cT ad A lsC C hP1 hD1 hS1 hL
theorem aw_putD {idx ci kk : Nat} {c t2 v kx : Int} {fts : List (Nat × Int)} {ty : FieldType} (hty : (∃ n, ty = .object n) ∨ ∃ t, ty = .array t) (hf : am_FP M.1 idx ci kk ty) (hd : decode M.2.2.1 pc = .ok (.putfield idx, 3)) (hk : am_kd G c = some (.inl (ci, fts))) (ht : fts[kk]? = some (3, t2)) (hkx : ((kk : Nat) : Int) = kx) (k : AW G M d Q (pc + 3) ls st (am_set h c kx v)) : AW G M d Q pc ls (am_R v :: am_R c :: st) h := by
  subst hkx
  intro p l e s m args below meth c H locs dC dI cT ad A lsC C hP hD hS hL
  obtain ⟨n, rfl, hn⟩ := am_kd_n hk
  obtain ⟨Cn, T, N, ty0, hc, hkN, hin, hC, hlk, hfin, hpt, hty0, hnm⟩ := hf
  have hkl : kk < fts.length := (List.getElem?_eq_some_iff.mp ht).1
  refine va_put (D := (dC, dI)) (q0 := n) (v := am_cv ad (am_R v)) C.1 C.2.1 C.2.2.2.2.2.1 hin ty0 hty0 hnm C.2.2.2.2.1 C.2.2.2.2.2.2.2.1 hP hD hS (am_W_at hn) hc kk hkN (C.2.2.2.2.2.1 _ hlk) (fun x hx => by rw [hC] at hx; exact hx) hfin hpt (by rcases hty with ⟨n, rfl⟩ | ⟨n, rfl⟩ <;> rfl) (by rcases hty with ⟨n, rfl⟩ | ⟨n, rfl⟩ <;> rfl) (by rw [List.length_mapIdx]; exact hkl) hd (fun H1 locs1 hP1 hD1 hS1 => ?_)
  have he := am_W_set (cT := cT) (ad := ad) (h := h) hn (fun j : Int => if j = (kk : Int) then v else h n j) (e := .inr (ci, (fts.mapIdx fun i t => am_fv ad t (h n i)).set kk (am_cv ad (am_R v)))) (congrArg (fun z => (Sum.inr (ci, z) : va_E)) (am_fset (ad := ad) (f := h n) ht (x := v) (v := am_cv ad (am_R v)) rfl))
  rw [he] at hP1 hD1
  exact k p l e s m args below meth c H1 locs1 dC dI cT ad A lsC C hP1 hD1 hS1 hL
theorem aw_iaload {c i b : Int} {len : Nat} (hd : decode M.2.2.1 pc = .ok (.iaload, 1)) (hk : am_kd G c = some (.inr (0, len, b))) (hlen : len < 65536) (hi : 0 ≤ i ∧ i < len) (k : AW G M d Q (pc + 1) ls (am_I (h c i) :: st) h) : AW G M d Q pc ls (am_I i :: am_R c :: st) h := by
  intro p l e s m args below meth c H locs dC dI cT ad A lsC C hP hD hS hL
  obtain ⟨n, rfl, hn⟩ := am_kd_n hk
  refine va_iald (D := (dC, dI)) C.1 C.2.1 C.2.2.2.2.2.2.2.1 hP n 0 (cA := cT 0) (n := len) (f := fun j => Int32.ofInt (h n j)) (am_W_at hn) rfl (am_in hi hlen) hd ?_
  rw [am_cl hi.1 (by omega), Int.toNat_of_nonneg hi.1]
  exact k p l e s m args below meth c H locs dC dI cT ad A lsC C hP hD hS hL
theorem aw_baload {c i b : Int} {len : Nat} (hd : decode M.2.2.1 pc = .ok (.baload, 1)) (hk : am_kd G c = some (.inr (1, len, b))) (hlen : len < 65536) (hi : 0 ≤ i ∧ i < len) (k : AW G M d Q (pc + 1) ls (am_I (h c i) :: st) h) : AW G M d Q pc ls (am_I i :: am_R c :: st) h := by
  intro p l e s m args below meth c H locs dC dI cT ad A lsC C hP hD hS hL
  obtain ⟨n, rfl, hn⟩ := am_kd_n hk
  refine va_bald (D := (dC, dI)) C.1 C.2.1 C.2.2.2.2.2.2.2.1 hP n 1 (cA := cT 1) (n := len) (f := fun j => Int32.ofInt (h n j)) (am_W_at hn) rfl (am_in hi hlen) hd ?_
  rw [am_cl hi.1 (by omega), Int.toNat_of_nonneg hi.1]
  exact k p l e s m args below meth c H locs dC dI cT ad A lsC C hP hD hS hL
theorem aw_zaload {c i b : Int} {len : Nat} (hd : decode M.2.2.1 pc = .ok (.baload, 1)) (hk : am_kd G c = some (.inr (2, len, b))) (hlen : len < 65536) (hi : 0 ≤ i ∧ i < len) (k : AW G M d Q (pc + 1) ls (am_I (h c i) :: st) h) : AW G M d Q pc ls (am_I i :: am_R c :: st) h := by
  intro p l e s m args below meth c H locs dC dI cT ad A lsC C hP hD hS hL
  obtain ⟨n, rfl, hn⟩ := am_kd_n hk
  refine va_zald (D := (dC, dI)) C.1 C.2.1 C.2.2.2.2.2.2.2.1 hP n 2 (cA := cT 2) (n := len) (f := fun j => Int32.ofInt (h n j)) (am_W_at hn) rfl (am_in hi hlen) hd ?_
  rw [am_cl hi.1 (by omega), Int.toNat_of_nonneg hi.1]
  exact k p l e s m args below meth c H locs dC dI cT ad A lsC C hP hD hS hL
theorem aw_laload {c i b : Int} {len : Nat} (hd : decode M.2.2.1 pc = .ok (.laload, 1)) (hk : am_kd G c = some (.inr (3, len, b))) (hlen : len < 65536) (hi : 0 ≤ i ∧ i < len) (k : AW G M d Q (pc + 1) ls (am_J (h c i) :: st) h) : AW G M d Q pc ls (am_I i :: am_R c :: st) h := by
  intro p l e s m args below meth c H locs dC dI cT ad A lsC C hP hD hS hL
  obtain ⟨n, rfl, hn⟩ := am_kd_n hk
  refine va_lald (D := (dC, dI)) C.1 C.2.1 C.2.2.2.2.2.2.2.1 hP n 3 (cA := cT 3) (n := len) (f := fun j => Int64.ofInt (h n j)) (am_W_at hn) rfl (am_in hi hlen) hd ?_
  rw [am_cl hi.1 (by omega), Int.toNat_of_nonneg hi.1]
  exact k p l e s m args below meth c H locs dC dI cT ad A lsC C hP hD hS hL
theorem aw_aaload4 {c i b : Int} {len : Nat} (hd : decode M.2.2.1 pc = .ok (.aaload, 1)) (hk : am_kd G c = some (.inr (4, len, b))) (hlen : len < 65536) (hi : 0 ≤ i ∧ i < len) (k : AW G M d Q (pc + 1) ls (am_R (b + i) :: st) h) : AW G M d Q pc ls (am_I i :: am_R c :: st) h := by
  intro p l e s m args below meth c H locs dC dI cT ad A lsC C hP hD hS hL
  obtain ⟨n, rfl, hn⟩ := am_kd_n hk
  have hin := am_in hi hlen
  have hcl := am_cl hi.1 (by omega)
  have hlt : (Int32.ofInt i).toNatClampNeg < len := by rw [hcl]; omega
  have hcell := hP n _ (am_W_at hn)
  have hslot : (arrV (cT 4) len (fun j => va_rf ((fun j : Nat => if j < len then some (ad (b + j)) else none) j))).slots[(Int32.ofInt i).toNatClampNeg]? = some (am_cv ad (am_R (b + i))) := by
    rw [arrV_read _ _ hlt]
    have hlt2 : i.toNat < len := by omega
    simp only [hcl, if_pos hlt2, Int.toNat_of_nonneg hi.1]
    rfl
  refine W.aald (v := am_cv ad (am_R (b + i))) (ty := .array .int) C.1 C.2.1 hcell ((C.2.2.2.2.2.2.2.1.2 4 _ rfl).1 len _) rfl (fun q => by cases q) (by show ¬ (Int32.ofInt i < 0 ∨ (arrV _ _ _).slots.size ≤ _); rw [arrV_size]; exact hin) hslot rfl rfl hd ?_
  exact k p l e s m args below meth c H locs dC dI cT ad A lsC C hP hD hS hL
theorem aw_aaload5 {c i b : Int} {len : Nat} (hd : decode M.2.2.1 pc = .ok (.aaload, 1)) (hk : am_kd G c = some (.inr (5, len, b))) (hlen : len < 65536) (hi : 0 ≤ i ∧ i < len) (k : AW G M d Q (pc + 1) ls (am_R (b + i) :: st) h) : AW G M d Q pc ls (am_I i :: am_R c :: st) h := by
  intro p l e s m args below meth c H locs dC dI cT ad A lsC C hP hD hS hL
  obtain ⟨n, rfl, hn⟩ := am_kd_n hk
  have hin := am_in hi hlen
  have hcl := am_cl hi.1 (by omega)
  have hlt : (Int32.ofInt i).toNatClampNeg < len := by rw [hcl]; omega
  have hcell := hP n _ (am_W_at hn)
  have hslot : (arrV (cT 5) len (fun j => va_rf ((fun j : Nat => if j < len then some (ad (b + j)) else none) j))).slots[(Int32.ofInt i).toNatClampNeg]? = some (am_cv ad (am_R (b + i))) := by
    rw [arrV_read _ _ hlt]
    have hlt2 : i.toNat < len := by omega
    simp only [hcl, if_pos hlt2, Int.toNat_of_nonneg hi.1]
    rfl
  refine W.aald (v := am_cv ad (am_R (b + i))) (ty := .array .byte) C.1 C.2.1 hcell ((C.2.2.2.2.2.2.2.1.2 5 _ rfl).1 len _) rfl (fun q => by cases q) (by show ¬ (Int32.ofInt i < 0 ∨ (arrV _ _ _).slots.size ≤ _); rw [arrV_size]; exact hin) hslot rfl rfl hd ?_
  exact k p l e s m args below meth c H locs dC dI cT ad A lsC C hP hD hS hL
theorem aw_aaload6 {c i b : Int} {len : Nat} (hd : decode M.2.2.1 pc = .ok (.aaload, 1)) (hk : am_kd G c = some (.inr (6, len, b))) (hlen : len < 65536) (hi : 0 ≤ i ∧ i < len) (k : AW G M d Q (pc + 1) ls (am_R (b + i) :: st) h) : AW G M d Q pc ls (am_I i :: am_R c :: st) h := by
  intro p l e s m args below meth c H locs dC dI cT ad A lsC C hP hD hS hL
  obtain ⟨n, rfl, hn⟩ := am_kd_n hk
  have hin := am_in hi hlen
  have hcl := am_cl hi.1 (by omega)
  have hlt : (Int32.ofInt i).toNatClampNeg < len := by rw [hcl]; omega
  have hcell := hP n _ (am_W_at hn)
  have hslot : (arrV (cT 6) len (fun j => va_rf ((fun j : Nat => if j < len then some (ad (b + j)) else none) j))).slots[(Int32.ofInt i).toNatClampNeg]? = some (am_cv ad (am_R (b + i))) := by
    rw [arrV_read _ _ hlt]
    have hlt2 : i.toNat < len := by omega
    simp only [hcl, if_pos hlt2, Int.toNat_of_nonneg hi.1]
    rfl
  refine W.aald (v := am_cv ad (am_R (b + i))) (ty := .object "YearWord$Years") C.1 C.2.1 hcell ((C.2.2.2.2.2.2.2.1.2 6 _ rfl).1 len _) rfl (fun q => by cases q) (by show ¬ (Int32.ofInt i < 0 ∨ (arrV _ _ _).slots.size ≤ _); rw [arrV_size]; exact hin) hslot rfl rfl hd ?_
  exact k p l e s m args below meth c H locs dC dI cT ad A lsC C hP hD hS hL
theorem am_updI {f : Int → Int} {i v : Int} (hi : 0 ≤ i) : upd (fun j : Nat => Int32.ofInt (f j)) i.toNat (Int32.ofInt v) = fun j : Nat => Int32.ofInt ((fun x : Int => if x = i then v else f x) j) := by
  funext j
  by_cases e : j = i.toNat
  · have e2 : (j : Int) = i := by omega
    simp [upd, e2]
    intro q
    exact absurd e q
  · have e2 : ¬ (j : Int) = i := by omega
    simp [upd, e, e2]
theorem am_updJ {f : Int → Int} {i v : Int} (hi : 0 ≤ i) : vp_updL (fun j : Nat => Int64.ofInt (f j)) i.toNat (Int64.ofInt v) = fun j : Nat => Int64.ofInt ((fun x : Int => if x = i then v else f x) j) := by
  funext j
  by_cases e : j = i.toNat
  · have e2 : (j : Int) = i := by omega
    simp [vp_updL, e2]
    intro q
    exact absurd e q
  · have e2 : ¬ (j : Int) = i := by omega
    simp [vp_updL, e, e2]
theorem aw_iastore {c i b v : Int} {len : Nat} (hd : decode M.2.2.1 pc = .ok (.iastore, 1)) (hk : am_kd G c = some (.inr (0, len, b))) (hlen : len < 65536) (hi : 0 ≤ i ∧ i < len) (k : AW G M d Q (pc + 1) ls st (am_set h c i v)) : AW G M d Q pc ls (am_I v :: am_I i :: am_R c :: st) h := by
  intro p l e s m args below meth c H locs dC dI cT ad A lsC C hP hD hS hL
  obtain ⟨n, rfl, hn⟩ := am_kd_n hk
  refine va_iast (D := (dC, dI)) C.1 C.2.1 C.2.2.2.2.2.2.2.1 hP hD hS n 0 (cA := cT 0) (n := len) (f := fun j => Int32.ofInt (h n j)) (am_W_at hn) rfl (am_in hi hlen) hd (fun H1 locs1 hP1 hD1 hS1 => ?_)
  rw [am_cl hi.1 (by omega), am_updI hi.1] at hP1 hD1
  have he := am_W_set (cT := cT) (ad := ad) (h := h) hn (fun x : Int => if x = i then v else h n x) (e := .inl (cT 0, len, .inl (fun j : Nat => Int32.ofInt ((fun x : Int => if x = i then v else h n x) j)))) rfl
  rw [he] at hP1 hD1
  exact k p l e s m args below meth c H1 locs1 dC dI cT ad A lsC C hP1 hD1 hS1 hL
theorem aw_bastore {c i b v : Int} {len : Nat} (hd : decode M.2.2.1 pc = .ok (.bastore, 1)) (hk : am_kd G c = some (.inr (1, len, b))) (hlen : len < 65536) (hi : 0 ≤ i ∧ i < len) (hv : -128 ≤ v ∧ v < 128) (k : AW G M d Q (pc + 1) ls st (am_set h c i v)) : AW G M d Q pc ls (am_I v :: am_I i :: am_R c :: st) h := by
  intro p l e s m args below meth c H locs dC dI cT ad A lsC C hP hD hS hL
  obtain ⟨n, rfl, hn⟩ := am_kd_n hk
  refine va_bast (D := (dC, dI)) C.1 C.2.1 C.2.2.2.2.2.2.2.1 hP hD hS n 1 (cA := cT 1) (n := len) (f := fun j => Int32.ofInt (h n j)) (am_W_at hn) rfl (am_in hi hlen) hd (fun H1 locs1 hP1 hD1 hS1 => ?_)
  have hnar : vp_nar .byte (Int32.ofInt v) = Int32.ofInt v := by
    rw [vp_nar_byte, ← Int32.toInt_inj, Int8.toInt_toInt32, Int32.toInt8_ofInt, Int8.toInt_ofInt_of_le (by omega) (by omega), am_toI (by omega)]
  rw [hnar] at hP1 hD1
  rw [am_cl hi.1 (by omega), am_updI hi.1] at hP1 hD1
  have he := am_W_set (cT := cT) (ad := ad) (h := h) hn (fun x : Int => if x = i then v else h n x) (e := .inl (cT 1, len, .inl (fun j : Nat => Int32.ofInt ((fun x : Int => if x = i then v else h n x) j)))) rfl
  rw [he] at hP1 hD1
  exact k p l e s m args below meth c H1 locs1 dC dI cT ad A lsC C hP1 hD1 hS1 hL
theorem aw_zastore {c i b v : Int} {len : Nat} (hd : decode M.2.2.1 pc = .ok (.bastore, 1)) (hk : am_kd G c = some (.inr (2, len, b))) (hlen : len < 65536) (hi : 0 ≤ i ∧ i < len) (hv : v = 0 ∨ v = 1) (k : AW G M d Q (pc + 1) ls st (am_set h c i v)) : AW G M d Q pc ls (am_I v :: am_I i :: am_R c :: st) h := by
  intro p l e s m args below meth c H locs dC dI cT ad A lsC C hP hD hS hL
  obtain ⟨n, rfl, hn⟩ := am_kd_n hk
  refine va_zast (D := (dC, dI)) C.1 C.2.1 C.2.2.2.2.2.2.2.1 hP hD hS n 2 (cA := cT 2) (n := len) (f := fun j => Int32.ofInt (h n j)) (am_W_at hn) rfl (am_in hi hlen) hd (fun H1 locs1 hP1 hD1 hS1 => ?_)
  have hnar : vp_nar .boolean (Int32.ofInt v) = Int32.ofInt v := by rcases hv with rfl | rfl <;> rfl
  rw [hnar] at hP1 hD1
  rw [am_cl hi.1 (by omega), am_updI hi.1] at hP1 hD1
  have he := am_W_set (cT := cT) (ad := ad) (h := h) hn (fun x : Int => if x = i then v else h n x) (e := .inl (cT 2, len, .inl (fun j : Nat => Int32.ofInt ((fun x : Int => if x = i then v else h n x) j)))) rfl
  rw [he] at hP1 hD1
  exact k p l e s m args below meth c H1 locs1 dC dI cT ad A lsC C hP1 hD1 hS1 hL
theorem aw_lastore {c i b v : Int} {len : Nat} (hd : decode M.2.2.1 pc = .ok (.lastore, 1)) (hk : am_kd G c = some (.inr (3, len, b))) (hlen : len < 65536) (hi : 0 ≤ i ∧ i < len) (k : AW G M d Q (pc + 1) ls st (am_set h c i v)) : AW G M d Q pc ls (am_J v :: am_I i :: am_R c :: st) h := by
  intro p l e s m args below meth c H locs dC dI cT ad A lsC C hP hD hS hL
  obtain ⟨n, rfl, hn⟩ := am_kd_n hk
  refine va_last (D := (dC, dI)) C.1 C.2.1 C.2.2.2.2.2.2.2.1 hP hD hS n 3 (cA := cT 3) (n := len) (f := fun j => Int64.ofInt (h n j)) (am_W_at hn) rfl (am_in hi hlen) hd (fun H1 locs1 hP1 hD1 hS1 => ?_)
  rw [am_cl hi.1 (by omega), am_updJ hi.1] at hP1 hD1
  have he := am_W_set (cT := cT) (ad := ad) (h := h) hn (fun x : Int => if x = i then v else h n x) (e := .inl (cT 3, len, .inr (.inl (fun j : Nat => Int64.ofInt ((fun x : Int => if x = i then v else h n x) j))))) rfl
  rw [he] at hP1 hD1
  exact k p l e s m args below meth c H1 locs1 dC dI cT ad A lsC C hP1 hD1 hS1 hL
theorem aw_alen0 {c b lx : Int} {len : Nat} (hd : decode M.2.2.1 pc = .ok (.arraylength, 1)) (hk : am_kd G c = some (.inr (0, len, b))) (hlx : (len : Int) = lx) (k : AW G M d Q (pc + 1) ls (am_I lx :: st) h) : AW G M d Q pc ls (am_R c :: st) h := by
  subst hlx
  intro p l e s m args below meth c H locs dC dI cT ad A lsC C hP hD hS hL
  obtain ⟨n, rfl, hn⟩ := am_kd_n hk
  refine va_alen (D := (dC, dI)) C.1 C.2.1 C.2.2.2.2.2.2.2.1 hP n 0 (cA := cT 0) (am_W_at hn) rfl (v := Int32.ofInt len) (Int32.ofInt_eq_ofNat).symm hd ?_
  exact k p l e s m args below meth c H locs dC dI cT ad A lsC C hP hD hS hL
theorem aw_alen1 {c b lx : Int} {len : Nat} (hd : decode M.2.2.1 pc = .ok (.arraylength, 1)) (hk : am_kd G c = some (.inr (1, len, b))) (hlx : (len : Int) = lx) (k : AW G M d Q (pc + 1) ls (am_I lx :: st) h) : AW G M d Q pc ls (am_R c :: st) h := by
  subst hlx
  intro p l e s m args below meth c H locs dC dI cT ad A lsC C hP hD hS hL
  obtain ⟨n, rfl, hn⟩ := am_kd_n hk
  refine va_alen (D := (dC, dI)) C.1 C.2.1 C.2.2.2.2.2.2.2.1 hP n 1 (cA := cT 1) (am_W_at hn) rfl (v := Int32.ofInt len) (Int32.ofInt_eq_ofNat).symm hd ?_
  exact k p l e s m args below meth c H locs dC dI cT ad A lsC C hP hD hS hL
/-- words for calls: every word of the law's list is good -/
theorem am_good : ∀ w ∈ am_tb, w ∈ am_tb ∧ ((w.onTables && w.keeps) = true ∨ ∃ ty, w = .arrayClass ty) := fun w hw => ⟨hw, good_of_word (List.all_eq_true.mp am_allgood w hw)⟩
/-- a call site: pool entry idx of own is the method M' (n parameters) -/
def am_LV (own : String) (idx : Nat) (M' : am_M) (n : Nat) : Prop := Cond.methodLink own idx M'.2.1 ∈ am_tb ∧ Cond.instanceMethod M'.2.1 ∈ am_tb ∧ Cond.selects M'.1 M'.2.1 M'.2.1 ∈ am_tb ∧ Cond.initialized M'.1 ∈ am_tb ∧ Cond.code M'.2.1 M'.2.2.1 M'.2.2.2.1 M'.2.2.2.2 ∈ am_tb ∧ M'.2.1.cls = M'.1 ∧ M'.2.1.cls ≠ "java/lang/invoke/MethodHandle" ∧ M'.2.1.cls ≠ "java/lang/invoke/VarHandle" ∧ (parseMethodDescriptor M'.2.1.desc).map (fun d => d.parameters.length) = some n ∧ M'.2.2.2.1 ≤ 40
def am_LS (own : String) (idx : Nat) (M' : am_M) (n : Nat) : Prop := Cond.methodLink own idx M'.2.1 ∈ am_tb ∧ Cond.static M'.2.1 ∈ am_tb ∧ Cond.initialized M'.1 ∈ am_tb ∧ Cond.code M'.2.1 M'.2.2.1 M'.2.2.2.1 M'.2.2.2.2 ∈ am_tb ∧ M'.2.1.cls = M'.1 ∧ M'.2.1.cls ≠ "java/lang/invoke/MethodHandle" ∧ M'.2.1.cls ≠ "java/lang/invoke/VarHandle" ∧ (parseMethodDescriptor M'.2.1.desc).map (fun d => d.parameters.length) = some n ∧ M'.2.2.2.1 ≤ 40
theorem am_ret {p : Program} {l : Launch} {e : Env} {R : Room} {s : State} {m : MethodId} {args a : Array Value} {below : List Frame} {meth : Method} {c : Code} {H : Heap} {locs : List Loc} {Z : State → Prop} {pc : Nat} {lsC : Array Slot} {st0 rest : List Value} {dC : Nat → ClassId} {dI : Nat → Nat → Nat} {cT : Nat → ClassId} {ad : Int → Nat} {A0 A1 : Nat → Prop} {Q' : Option am_V → am_H → Prop} {H0 : Heap}
    (hr : va_Run p l e R s m args below meth c H locs 0 0 0 0 (F0 m pc lsC st0) rest (am_Qc G dC dI cT ad A1 Q' a) A1) (hS : va_S A0 H0 H locs) (hA : ∀ q, A1 q → A0 q)
    (kk : ∀ (r : Option am_V) (h' : am_H) (H1 : Heap) (locs1 : List Loc), Q' r h' → va_P (dC, dI) vwCl (am_W cT ad G h') H1 → va_D A0 (am_W cT ad G h') → va_S A0 H0 H1 locs1 → W p l e R s m args below meth c H1 locs1 0 0 Z (F0 m (pc + 3) lsC ((r.map (am_cv ad)).toList ++ rest))) : W p l e R s m args below meth c H locs 0 0 Z (F0 m pc lsC st0) := by
  intro T hT X
  obtain ⟨v, st₀, t, T', L, h0, X', hL, e1, e2, ⟨⟨r, h', hq, hv, hp, hk, hd⟩, hz, hkp⟩, st⟩ := hr T hT X
  have hv' : v = r.map (am_cv ad) := by cases hv; rfl
  subst hv'
  rw [h0] at hz hkp
  obtain ⟨t2, a1, b1⟩ := kk r h' T'.heap (locs ++ L) hq (by rw [e1]; exact hp) (hd.weaken (fun _ q _ z => hA q.1 z))
    ⟨Nat.le_trans hS.1 (by rw [e1]; exact hz), fun q h1 h2 => by rw [e1, hkp q (Nat.lt_of_lt_of_le h1 hS.1) (fun z => h2 (hA q z))]; exact hS.2.1 q h1 h2, fun q hq => by
      rcases List.mem_append.mp hq with h | h
      · exact hS.2.2 q h
      · exact hA _ (hL q h)⟩ T' rfl X'
  exact ⟨t2, st t2 a1, b1⟩
theorem am_free {cT : Nat → ClassId} {ad : Int → Nat} {A : Nat → Prop} {H0 H : Heap} {locs : List Loc} (hD : va_D A (am_W cT ad G h)) (hS : va_S A H0 H locs) (hA : ∀ q, H0.size ≤ q → A q) : ∀ q, va_A (am_W cT ad G h) H.size q → A q := by
  intro q hq
  rcases hq with ⟨k, e, hk⟩ | hq
  · exact hD.2 k _ hk
  · exact hA q (Nat.le_trans hS.1 hq)
theorem aw_callV {M' : am_M} {d' n idx ci : Nat} {b : Int} {as : List am_V} {Q' : Option am_V → am_H → Prop} {fts : List (Nat × Int)} {T : u_T} {N : Nat} {stk : List am_V} (hM : AMet G M' d' (am_R b :: as) h Q') (hl : am_LV M.1 idx M' n) (hd : decode M.2.2.1 pc = .ok (.invokevirtual idx, 3)) (hdd : d' < d) (hn : as.length = n) (hk : am_kd G b = some (.inl (ci, fts))) (hci : vwCl[ci]? = some (M'.1, T, N)) (hstk : stk = as.reverse ++ am_R b :: st) (hw : ∀ ad : Int → Nat, ((st.map (am_cv ad)).map fun v => v.category).sum ≤ 8)
    (k : ∀ (r : Option am_V) (h' : am_H), Q' r h' → AW G M d Q (pc + 3) ls (r.toList ++ st) h') : AW G M d Q pc ls stk h := by
  subst hstk
  intro p l e s m args below meth c H locs dC dI cT ad A lsC C hP hD hS hL
  obtain ⟨nb, rfl, hnb⟩ := am_kd_n hk
  obtain ⟨hx, hb, hrt, hml, hown, hts, hlocks, hK, hA⟩ := C
  obtain ⟨l1, l2, l3, l4, l5, l6, l7, l8, l9, l10⟩ := hl
  have hfree := am_free hD hS hA
  refine am_ret (A1 := va_A (am_W cT ad G h) H.size) (Q' := Q') (rest := st.map (am_cv ad)) (va_runV (As := as.map (am_cv ad)) (rest := st.map (am_cv ad)) (C := M'.1) (n := n) (bytes := M'.2.2.1) (maxL := M'.2.2.2.1) (ret := M'.2.2.2.2) ⟨hx, hb, hml, hown, hts⟩ (hM l dC dI cT ad H.size)
    ⟨⟨rfl, rfl, (by show d' + 1 ≤ d; omega), (by show 8 + (M'.2.2.2.1 + 11) + 64 * d' ≤ 64 * d; omega), pay_in hts (fun w hw => by
        rcases List.mem_cons.mp hw with rfl | hw
        · exact am_good _ l5
        · exact am_good w hw), List.mem_cons_self, hts _ l5, hts _ (by rw [l6]; exact l4), ⟨l7, l8⟩, fun sig hsig => by rw [hsig] at l9; exact (Option.some.inj l9).symm, hts _ l1⟩, hts _ l2, hts _ l3⟩
    ⟨fun a U g mk q => by obtain ⟨q0, q1, qP, qK, qD⟩ := q; exact ⟨q0, q1, qP, va_K.moved (u := U) (U := U.calling g mk a) (Vm.Alike.refl U.vm) qK, qD⟩, va_recv hK hP hci (am_W_at hnb), fun U hU hW => ⟨rfl, by rw [hU], by rw [hU]; exact hP, va_K.moved hW.alike hK, hD.weaken (fun _ _ _ _ => trivial)⟩⟩
    rfl (by rw [List.length_map]; exact hn) hL.1 (by show List.map _ _ = _; rw [List.map_append, List.map_reverse]; rfl) (lv_room (hw ad)) hd ⟨Nat.zero_le _, Nat.zero_le _⟩) hS hfree (fun r h' H1 locs1 hq hP1 hD1 hS1 => ?_)
  have KK := k r h' hq p l e s m args below meth c H1 locs1 dC dI cT ad A lsC ⟨hx, hb, hrt, hml, hown, hts, hlocks, hK, hA⟩ hP1 hD1 hS1 hL
  cases r with
  | none => exact KK
  | some v => exact KK
theorem aw_callS {M' : am_M} {d' n idx : Nat} {as : List am_V} {Q' : Option am_V → am_H → Prop} {stk : List am_V} (hM : AMet G M' d' as h Q') (hl : am_LS M.1 idx M' n) (hd : decode M.2.2.1 pc = .ok (.invokestatic idx, 3)) (hdd : d' < d) (hn : as.length = n) (hstk : stk = as.reverse ++ st) (hw : ∀ ad : Int → Nat, ((st.map (am_cv ad)).map fun v => v.category).sum ≤ 8)
    (k : ∀ (r : Option am_V) (h' : am_H), Q' r h' → AW G M d Q (pc + 3) ls (r.toList ++ st) h') : AW G M d Q pc ls stk h := by
  subst hstk
  intro p l e s m args below meth c H locs dC dI cT ad A lsC C hP hD hS hL
  obtain ⟨hx, hb, hrt, hml, hown, hts, hlocks, hK, hA⟩ := C
  obtain ⟨l1, l2, l4, l5, l6, l7, l8, l9, l10⟩ := hl
  have hfree := am_free hD hS hA
  refine am_ret (A1 := va_A (am_W cT ad G h) H.size) (Q' := Q') (rest := st.map (am_cv ad)) (va_runS (As := as.map (am_cv ad)) (rest := st.map (am_cv ad)) (n := n) (bytes := M'.2.2.1) (maxL := M'.2.2.2.1) (ret := M'.2.2.2.2) ⟨hx, hb, hml, hown, hts⟩ (hM l dC dI cT ad H.size)
    ⟨⟨rfl, rfl, (by show d' + 1 ≤ d; omega), (by show 8 + (M'.2.2.2.1 + 11) + 64 * d' ≤ 64 * d; omega), pay_in hts (fun w hw => by
        rcases List.mem_cons.mp hw with rfl | hw
        · exact am_good _ l5
        · exact am_good w hw), List.mem_cons_self, hts _ l5, hts _ (by rw [l6]; exact l4), ⟨l7, l8⟩, fun sig hsig => by rw [hsig] at l9; exact (Option.some.inj l9).symm, hts _ l1⟩, hts _ l2⟩
    ⟨fun a U g mk q => by obtain ⟨q0, q1, qP, qK, qD⟩ := q; exact ⟨q0, q1, qP, va_K.moved (u := U) (U := U.calling g mk a) (Vm.Alike.refl U.vm) qK, qD⟩, fun U hU hW => ⟨rfl, by rw [hU], by rw [hU]; exact hP, va_K.moved hW.alike hK, hD.weaken (fun _ _ _ _ => trivial)⟩⟩
    rfl (by rw [List.length_map]; exact hn) hL.1 (by show List.map _ _ = _; rw [List.map_append, List.map_reverse]) (lv_room (hw ad)) hd ⟨Nat.zero_le _, Nat.zero_le _⟩) hS hfree (fun r h' H1 locs1 hq hP1 hD1 hS1 => ?_)
  have KK := k r h' hq p l e s m args below meth c H1 locs1 dC dI cT ad A lsC ⟨hx, hb, hrt, hml, hown, hts, hlocks, hK, hA⟩ hP1 hD1 hS1 hL
  cases r with
  | none => exact KK
  | some v => exact KK
/-- n places of a row of numbers f, from sp on, into g, from dp on -/
def am_cpy (f g : Int → Int) (sp dp n : Int) : Int → Int := fun j => if dp ≤ j ∧ j < dp + n then f (sp + (j - dp)) else g j
theorem am_cpyN {f g : Int → Int} {sp dp n : Int} (h1 : 0 ≤ sp) (h2 : 0 ≤ dp) (h3 : 0 ≤ n) : va_cpy (fun j : Nat => Int32.ofInt (f j)) (fun j : Nat => Int32.ofInt (g j)) sp.toNat dp.toNat n.toNat = fun j : Nat => Int32.ofInt (am_cpy f g sp dp n j) := by
  funext j
  unfold va_cpy am_cpy
  by_cases q : dp.toNat ≤ j ∧ j < dp.toNat + n.toNat
  · have q2 : dp ≤ (j : Int) ∧ (j : Int) < dp + n := by omega
    rw [if_pos q, if_pos q2]
    have e : ((sp.toNat + (j - dp.toNat) : Nat) : Int) = sp + ((j : Int) - dp) := by omega
    show Int32.ofInt (f _) = _
    rw [e]
  · have q2 : ¬ (dp ≤ (j : Int) ∧ (j : Int) < dp + n) := by omega
    rw [if_neg q, if_neg q2]
/-- System.arraycopy of ints -/
def am_LC (own : String) (idx : Nat) : Prop := Cond.methodLink own idx arraycopyName ∈ am_tb ∧ Cond.native arraycopyName ∈ am_tb ∧ Cond.static arraycopyName ∈ am_tb ∧ Cond.initialized "java/lang/System" ∈ am_tb
theorem aw_copy {idx : Nat} {c0 c1 b0 b1 sp dp n : Int} {n0 n1 : Nat} (hl : am_LC M.1 idx) (hd : decode M.2.2.1 pc = .ok (.invokestatic idx, 3)) (hk0 : am_kd G c0 = some (.inr (0, n0, b0))) (hk1 : am_kd G c1 = some (.inr (0, n1, b1))) (hn0 : n0 < 65536) (hn1 : n1 < 65536) (h1 : 0 ≤ sp ∧ 0 ≤ dp ∧ 0 ≤ n) (h2 : sp + n ≤ n0) (h3 : dp + n ≤ n1) (hdd : 1 ≤ d) (hw : ∀ ad : Int → Nat, ((st.map (am_cv ad)).map fun v => v.category).sum ≤ 8)
    (k : AW G M d Q (pc + 3) ls st (am_up h c1 (am_cpy (h c0) (h c1) sp dp n))) : AW G M d Q pc ls (am_I n :: am_I dp :: am_R c1 :: am_I sp :: am_R c0 :: st) h := by
  intro p l e s m args below meth c H locs dC dI cT ad A lsC C hP hD hS hL
  obtain ⟨m0, rfl, hm0⟩ := am_kd_n hk0
  obtain ⟨m1, rfl, hm1⟩ := am_kd_n hk1
  have e1 := am_cl h1.1 (by omega)
  have e2 := am_cl h1.2.1 (by omega)
  have e3 := am_cl h1.2.2 (by omega)
  have ng : ∀ z : Int, 0 ≤ z → z < 2147483648 → ¬ Int32.ofInt z < 0 := fun z hz hz2 => by
    rw [show (0 : Int32) = Int32.ofInt 0 from rfl, am_lt (by omega) (by omega)]; omega
  refine va_copyi (D := (dC, dI)) C.1 C.2.1 (C.2.2.2.1.trans hL.1.symm) C.2.2.2.2.1 (C.2.2.2.2.2.1 _ hl.1) (C.2.2.2.2.2.1 _ hl.2.1) (C.2.2.2.2.2.1 _ hl.2.2.1) (C.2.2.2.2.2.1 _ hl.2.2.2) C.2.2.2.2.2.2.2.1 hP hD hS m0 m1 0 0 (c0 := cT 0) (c1 := cT 0) (n0 := n0) (n1 := n1) (f := fun j => Int32.ofInt (h m0 j)) (g := fun j => Int32.ofInt (h m1 j)) (am_W_at hm0) (am_W_at hm1) rfl rfl rfl
    (ng sp h1.1 (by omega)) (ng dp h1.2.1 (by omega)) (ng n h1.2.2 (by omega)) (by rw [e1, e3]; omega) (by rw [e2, e3]; omega) (fun _ _ => rfl) hdd (by
      have := hw ad
      have hz : nativeFrameWords "java/lang/System" "arraycopy" 5 + 11 ≤ 40 := by decide
      show _ ≤ 64 * d
      omega) hd (fun H1 locs1 hP1 hD1 hS1 => ?_)
  rw [e1, e2, e3, am_cpyN h1.1 h1.2.1 h1.2.2] at hP1 hD1
  have he := am_W_set (cT := cT) (ad := ad) (h := h) hm1 (am_cpy (h m0) (h m1) sp dp n) (e := .inl (cT 0, n1, .inl (fun j : Nat => Int32.ofInt (am_cpy (h m0) (h m1) sp dp n j)))) rfl
  rw [he] at hP1 hD1
  exact k p l e s m args below meth c H1 locs1 dC dI cT ad A lsC C hP1 hD1 hS1 hL
end AMMEM
