/-! making objects: rows over worlds that grow -/
section NC
variable {p : Program} {l : Launch} {e : Env} {R : Room} {s : State} {m : MethodId} {args : Array Value} {below : List Frame} {meth : Method} {c : Code} {H : Heap} {locs : List Loc} {cells slots : Nat} {Q : State → Prop} {cc : ByteArray} {pc : Nat} {ls : Array Slot} {rest : List Value} {dC : Nat → ClassId} {dI : Nat → Nat → Nat} {cT : Nat → ClassId} {A : Nat → Prop} {ws : va_W} {H0 : Heap}
theorem nc_newa {atype : ArrayType} {ty : FieldType} {t : Nat} (hexec : p.tables.exec = Jvm.exec) (hb : c.code = cc) (harr : (Cond.arrayClass (newarray.typeOf atype)).before args s = true) (hty : newarray.typeOf atype = ty) (hK : va_K (dC, dI) vwCl (am_tys cT) s) (ht : (am_tys cT)[t]? = some (cT t, ty)) (hra : ∀ a b : ClassId, va_RA s a ty → va_RA s b ty → a = b) (hP : va_P (dC, dI) vwCl ws H) (hD : va_D A ws) (hS : va_S A H0 H locs) (hA : ∀ q, H0.size ≤ q → A q)
    {n : Int32} {N' : Nat} {a0 : vp_A} (ha : ∀ cA : ClassId, vp_cell cA a0 = arrV cA N' (fun _ => defaultValue ty)) (hn : ¬ n < 0) (hN : n.toNatClampNeg = N') (hbytes : N' * componentBytes ty ≤ 536870912) (hcells : cells + 1 ≤ R.cells) (hslots : slots + N' ≤ R.slots) (hdg : decode cc pc = .ok (.newarray atype, 2))
    (kk : ∀ (q : Nat) (H1 : Heap), va_P (dC, dI) vwCl (ws ++ [(q, .inl (cT t, a0))]) H1 → va_D A (ws ++ [(q, .inl (cT t, a0))]) → va_S A H0 H1 locs → W p l e R s m args below meth c H1 locs (cells + 1) (slots + N') Q (F0 m (pc + 2) ls (.ref q :: rest))) : W p l e R s m args below meth c H locs cells slots Q (F0 m pc ls (.int n :: rest)) := by
  refine va_newa hexec hb harr hty hK hP hD hS hA ha hn hN hbytes hcells hslots hdg (fun q cA H1 hK' hP' hD' hS' => ?_)
  have e1 : cA = cT t := hra cA (cT t) (hK'.2 7 (cA, ty) rfl).2 (hK.2 t _ ht).2
  subst e1
  exact kk q H1 hP' hD' hS'
theorem nc_mh (cA : ClassId) (N h0 : Nat) : ∀ i, (Jvm.Free.Multi.outerC cA N h0 i).monitor = {} ∧ (Jvm.Free.Multi.outerC cA N h0 i).hash = none
  | 0 => ⟨rfl, rfl⟩
  | i + 1 => by
    obtain ⟨a, b⟩ := nc_mh cA N h0 i
    exact ⟨by simp [Jvm.Free.Multi.outerC, Cell.setSlot, a], by simp [Jvm.Free.Multi.outerC, Cell.setSlot, b]⟩
theorem nc_arr {cA : ClassId} {N : Nat} {h0 : Nat} : Jvm.Free.Multi.outerC cA N h0 N = arrV cA N (fun j => .ref (h0 + 1 + j)) := by
  obtain ⟨o1, o2, o3⟩ := Jvm.Free.Multi.outerC_facts cA N h0 N
  have hs := Jvm.Free.Multi.outerC_slot cA N h0 N
  obtain ⟨o4, o5⟩ := nc_mh cA N h0 N
  generalize Jvm.Free.Multi.outerC cA N h0 N = x at o1 o2 o3 o4 o5 hs
  obtain ⟨cl, sl, vm, mo, ha⟩ := x
  dsimp only at o1 o2 o3 o4 o5 hs
  subst o1; subst o2; subst o4; subst o5
  unfold arrV
  congr 1
  apply Array.ext_getElem?
  intro j
  by_cases hj : j < N
  · rw [hs j hj, if_pos hj]
    simp [hj]
  · rw [Array.getElem?_eq_none (by omega), Array.getElem?_eq_none (by simp; omega)]
theorem nc_multi {own : String} {index : Nat} {ty : FieldType} {t0 t1 : Nat} (hexec : p.tables.exec = Jvm.exec) (hb : c.code = cc) (hown : s.vm.findClass own = some m.cls) (hclink : (Cond.classLink own index ("[" ++ (FieldType.array ty).toString)).before args s = true) (hover : (Cond.arrayOver (.array ty)).before args s = true) (harr : (Cond.arrayClass ty).before args s = true)
    (hK : va_K (dC, dI) vwCl (am_tys cT) s) (ht0 : s.vm.findClass ("[" ++ (FieldType.array ty).toString) = some (cT t0)) (ht1 : s.vm.findClass (FieldType.array ty).toString = some (cT t1)) (hP : va_P (dC, dI) vwCl ws H) (hD : va_D A ws) (hS : va_S A H0 H locs) (hA : ∀ q, H0.size ≤ q → A q)
    {n k : Int32} {N M : Nat} (hdv : defaultValue ty = .int 0) (hdf : fits ty (defaultValue ty) = true) (hdd : (defaultValue ty).isDefault = true) (hn : ¬ n < 0) (hk : ¬ k < 0) (hN : n.toNatClampNeg = N) (hM : k.toNatClampNeg = M) (hb1 : N * 4 ≤ 536870912) (hb2 : M * componentBytes ty ≤ 536870912) (hb3 : M ≤ 536870912) (hcells : cells + (1 + N) ≤ R.cells) (hslots : slots + (N + N * M) ≤ R.slots) (hdg : decode cc pc = .ok (.multianewarray index 2, 4))
    (kk : ∀ (q : Nat) (H1 : Heap), va_P (dC, dI) vwCl (ws ++ ((q, .inl (cT t0, (N, .inr (.inr (.inr (.inr (fun j => if j < N then some (q + 1 + j) else none))))))) :: (List.range N).map (fun j => (q + 1 + j, .inl (cT t1, (M, .inl (fun _ => 0))))))) H1 → va_D A (ws ++ ((q, .inl (cT t0, (N, .inr (.inr (.inr (.inr (fun j => if j < N then some (q + 1 + j) else none))))))) :: (List.range N).map (fun j => (q + 1 + j, .inl (cT t1, (M, .inl (fun _ => 0))))))) → va_S A H0 H1 locs → W p l e R s m args below meth c H1 locs (cells + 1 + N) (slots + N + N * M) Q (F0 m (pc + 4) ls (.ref q :: rest))) : W p l e R s m args below meth c H locs cells slots Q (F0 m pc ls (.int k :: .int n :: rest)) := by
  subst hN
  subst hM
  intro T hT X
  obtain ⟨vm₁, cA, comp, hW, hfA, hfC, hO, hI, X1, step⟩ := X.multianewarray2F hexec hown hclink hover harr (g := F0 m pc ls (.int k :: .int n :: rest)) rfl (by rw [hb]; exact hdg) (n := n) (k := k) (rest := rest) rfl hn hk hb1 hb2 hb3 hdf hdd hcells hslots
  have eA : cA = cT t0 := Option.some.inj (hfA.symm.trans ht0)
  have eC : comp = cT t1 := Option.some.inj (hfC.symm.trans ht1)
  subst eA; subst eC
  obtain ⟨f1, f2, f3, f4⟩ := Jvm.Free.Multi.fill_facts (T.setVm vm₁) (cT t0) (cT t1) n.toNatClampNeg k.toNatClampNeg (defaultValue ty) n.toNatClampNeg
  have fo := fun {a : Addr} (ha : a < (T.setVm vm₁).heap.size) => Jvm.Free.Multi.fill_old (T.setVm vm₁) (cT t0) (cT t1) n.toNatClampNeg k.toNatClampNeg (defaultValue ty) ha n.toNatClampNeg
  have fi := Jvm.Free.Multi.fill_inner (T.setVm vm₁) (cT t0) (cT t1) n.toNatClampNeg k.toNatClampNeg (defaultValue ty) n.toNatClampNeg
  have hsz : (T.setVm vm₁).heap = H := hT
  rw [hsz] at f1 f2 fo fi
  rw [nc_arr] at f2
  generalize hF : Jvm.Free.Multi.fill (T.setVm vm₁) (cT t0) (cT t1) n.toNatClampNeg k.toNatClampNeg (defaultValue ty) n.toNatClampNeg = T1 at X1 step f1 f2 fo fi
  have hk1 : ∀ (i : Nat) (x : Nat × va_E), ws[i]? = some x → T1.heap[x.1]? = H[x.1]? := fun i x hx => fo ((hP i x hx).lt)
  have hnew : ∀ x ∈ ((H.size, .inl (cT t0, (n.toNatClampNeg, .inr (.inr (.inr (.inr (fun j => if j < n.toNatClampNeg then some (H.size + 1 + j) else none))))))) :: (List.range n.toNatClampNeg).map (fun j => (H.size + 1 + j, .inl (cT t1, (k.toNatClampNeg, .inl (fun _ => 0))))) : va_W), va_at (dC, dI) vwCl x T1.heap ∧ H.size ≤ x.1 := by
    intro x hx
    rcases List.mem_cons.mp hx with rfl | hx
    · refine ⟨?_, Nat.le_refl _⟩
      show T1.heap[H.size]? = some (vp_cell _ _)
      rw [f2, vp_cell_q]
      congr 1
      unfold arrV
      congr 1
      apply Array.ext_getElem?
      intro j
      by_cases hj : j < n.toNatClampNeg
      · simp [hj, va_rf]
      · rw [Array.getElem?_eq_none (by simp; omega), Array.getElem?_eq_none (by simp; omega)]
    · obtain ⟨j, hj, rfl⟩ := List.mem_map.mp hx
      refine ⟨?_, by show H.size ≤ H.size + 1 + j; omega⟩
      show T1.heap[H.size + 1 + j]? = some (vp_cell _ _)
      rw [fi j (List.mem_range.mp hj), vp_cell_i, ← arrV_new, ← hdv]
      rfl
  have hPn : va_P (dC, dI) vwCl ((H.size, .inl (cT t0, (n.toNatClampNeg, .inr (.inr (.inr (.inr (fun j => if j < n.toNatClampNeg then some (H.size + 1 + j) else none))))))) :: (List.range n.toNatClampNeg).map (fun j => (H.size + 1 + j, .inl (cT t1, (k.toNatClampNeg, .inl (fun _ => 0)))))) T1.heap := fun i x hx => (hnew x (List.mem_of_getElem? hx)).1
  have hDn : va_D A (ws ++ ((H.size, .inl (cT t0, (n.toNatClampNeg, .inr (.inr (.inr (.inr (fun j => if j < n.toNatClampNeg then some (H.size + 1 + j) else none))))))) :: (List.range n.toNatClampNeg).map (fun j => (H.size + 1 + j, .inl (cT t1, (k.toNatClampNeg, .inl (fun _ => 0))))))) := by
    have hpos : ∀ (i : Nat) (x : Nat × va_E), (((H.size, .inl (cT t0, (n.toNatClampNeg, .inr (.inr (.inr (.inr (fun j => if j < n.toNatClampNeg then some (H.size + 1 + j) else none))))))) :: (List.range n.toNatClampNeg).map (fun j => (H.size + 1 + j, .inl (cT t1, (k.toNatClampNeg, .inl (fun _ => 0)))))) : va_W)[i]? = some x → x.1 = H.size + i := by
      intro i x hx
      cases i with
      | zero => have := Option.some.inj hx; rw [← this]; rfl
      | succ i =>
        rw [List.getElem?_cons_succ, List.getElem?_map] at hx
        cases hr : (List.range n.toNatClampNeg)[i]? with
        | none => rw [hr] at hx; simp at hx
        | some j =>
          rw [hr] at hx
          have hj : j = i := by
            rw [List.getElem?_range] at hr
            · exact (Option.some.inj hr).symm
            · have := (List.getElem?_eq_some_iff.mp hr).1; rwa [List.length_range] at this
          have := Option.some.inj hx
          rw [← this, hj]
          show H.size + 1 + i = H.size + (i + 1)
          omega
    refine ⟨fun i j x y hx hy he => ?_, fun i x hx => ?_⟩
    · by_cases hi : i < ws.length
      · rw [List.getElem?_append_left hi] at hx
        have lx := (hP i x hx).lt
        by_cases hj : j < ws.length
        · rw [List.getElem?_append_left hj] at hy
          exact hD.1 i j x y hx hy he
        · rw [List.getElem?_append_right (by omega)] at hy
          have := hpos _ y hy
          omega
      · rw [List.getElem?_append_right (by omega)] at hx
        have lx := hpos _ x hx
        by_cases hj : j < ws.length
        · rw [List.getElem?_append_left hj] at hy
          have := (hP j y hy).lt
          omega
        · rw [List.getElem?_append_right (by omega)] at hy
          have := hpos _ y hy
          omega
    · by_cases hi : i < ws.length
      · rw [List.getElem?_append_left hi] at hx
        exact hD.2 i x hx
      · rw [List.getElem?_append_right (by omega)] at hx
        have := hpos _ x hx
        exact hA _ (Nat.le_trans hS.1 (by omega))
  obtain ⟨t2, a1, b1⟩ := kk H.size T1.heap ((hP.kept hk1).app hPn) hDn ⟨Nat.le_trans hS.1 (by rw [f1]; omega), fun x h1 h2 => (fo (Nat.lt_of_lt_of_le h1 hS.1)).trans (hS.2.1 x h1 h2), hS.2.2⟩ T1 rfl X1
  refine ⟨t2, step t2 ?_, b1⟩
  rw [hT]
  exact a1
/-- behind a call whose world was the last cell -/
theorem nc_join {D : va_G} {cl : List vw_C} {x : Nat × va_E} {w1 : va_W} {H1 : Heap} (hP : va_P D cl (ws ++ [x]) H) (hD : va_D A (ws ++ [x])) (hk : ∀ q : Nat, q < H.size → ¬ va_A [x] H.size q → H1[q]? = H[q]?) (hF : ∀ q, va_A [x] H.size q → A q) (hP1 : va_P D cl w1 H1) (hD1 : va_D (va_A [x] H.size) w1) : va_P D cl (ws ++ w1) H1 ∧ va_D A (ws ++ w1) := by
  have hin : ∀ (i : Nat) (y : Nat × va_E), ws[i]? = some y → (ws ++ [x])[i]? = some y := fun i y hy => by rw [List.getElem?_append_left (List.getElem?_eq_some_iff.mp hy).1]; exact hy
  have hlast : (ws ++ [x])[ws.length]? = some x := by rw [List.getElem?_append_right (Nat.le_refl _)]; simp
  have hne : ∀ (i : Nat) (y : Nat × va_E), ws[i]? = some y → ¬ va_A [x] H.size y.1 := by
    intro i y hy hz
    have hlt := (hP i y (hin i y hy)).lt
    rcases hz with ⟨k, e, hk⟩ | hz
    · have hk0 : k = 0 := by have := (List.getElem?_eq_some_iff.mp hk).1; simp at this; omega
      subst hk0
      have hx : x = (y.1, e) := Option.some.inj hk
      have := hD.1 i ws.length y x (hin i y hy) hlast (by rw [hx])
      have := (List.getElem?_eq_some_iff.mp hy).1
      omega
    · omega
  refine ⟨va_P.app (fun i y hy => (hP i y (hin i y hy)).kept (hk y.1 ((hP i y (hin i y hy)).lt) (hne i y hy))) hP1, fun i j y z hy hz he => ?_, fun i y hy => ?_⟩
  · by_cases hi : i < ws.length
    · rw [List.getElem?_append_left hi] at hy
      by_cases hj : j < ws.length
      · rw [List.getElem?_append_left hj] at hz
        exact hD.1 i j y z (hin i y hy) (hin j z hz) he
      · rw [List.getElem?_append_right (by omega)] at hz
        exact absurd (by rw [he]; exact hD1.2 _ z hz) (hne i y hy)
    · rw [List.getElem?_append_right (by omega)] at hy
      by_cases hj : j < ws.length
      · rw [List.getElem?_append_left hj] at hz
        exact absurd (by rw [← he]; exact hD1.2 _ y hy) (hne j z hz)
      · rw [List.getElem?_append_right (by omega)] at hz
        have := hD1.1 _ _ y z hy hz he
        omega
  · by_cases hi : i < ws.length
    · rw [List.getElem?_append_left hi] at hy
      exact hD.2 i y (hin i y hy)
    · rw [List.getElem?_append_right (by omega)] at hy
      exact hF _ (hD1.2 _ y hy)
/-- behind a call whose world was one cell among others, which stays at its place -/
theorem nc_set {D : va_G} {cl : List vw_C} {i : Nat} {a : Nat} {e0 e1 : va_E} {H1 : Heap} (hP : va_P D cl ws H) (hD : va_D A ws) (hi : ws[i]? = some (a, e0)) (hk : ∀ q : Nat, q < H.size → ¬ va_A [(a, e0)] H.size q → H1[q]? = H[q]?) (hP1 : va_P D cl [(a, e1)] H1) : va_P D cl (ws.set i (a, e1)) H1 ∧ va_D A (ws.set i (a, e1)) := by
  refine ⟨fun k q hq => ?_, hD.set hi⟩
  have hl := (List.getElem?_eq_some_iff.mp hi).1
  by_cases hkp : k = i
  · subst hkp
    rw [List.getElem?_set_self hl] at hq
    cases hq
    exact hP1 0 _ rfl
  · rw [List.getElem?_set_ne (Ne.symm hkp)] at hq
    refine (hP k q hq).kept (hk q.1 (hP k q hq).lt ?_)
    rintro (⟨j, e, hj⟩ | hz)
    · have hj0 : j = 0 := by have := (List.getElem?_eq_some_iff.mp hj).1; simp at this; omega
      subst hj0
      have : (a, e0) = (q.1, e) := Option.some.inj hj
      exact hkp (hD.1 k i q (a, e0) hq hi (by rw [this]))
    · have := (hP k q hq).lt
      omega
end NC
def nc_m1 (n : Nat) : Nat → Int32 := fun j => if j < n then -1 else 0
/-- which arrays over arrays and objects the tables know -/
def nc_ov (U : State) : Prop := (Cond.arrayOver (.array .int)).before #[] U = true ∧ (Cond.arrayOver (.array .byte)).before #[] U = true ∧ va_AO "YearWord$Years" U
theorem nc_ov.moved {u U : State} (hvm : u.vm.Alike U.vm) (h : nc_ov u) : nc_ov U :=
  ⟨(show (Cond.arrayOver (.array .int)).before #[] (u.setVm U.vm) = true by rw [Cond.arrayOver_setVmC hvm]; exact h.1), (show (Cond.arrayOver (.array .byte)).before #[] (u.setVm U.vm) = true by rw [Cond.arrayOver_setVmC hvm]; exact h.2.1), h.2.2.moved hvm⟩
def nc_B (dC : Nat → ClassId) (dI : Nat → Nat → Nat) (cT : Nat → ClassId) (w : va_W) (sz : Nat) (U : State) : Prop := U.heap.size = sz ∧ va_P (dC, dI) vwCl w U.heap ∧ va_K (dC, dI) vwCl (am_tys cT) U ∧ va_D (fun _ => True) w ∧ nc_ov U
def nc_Q (dC : Nat → ClassId) (dI : Nat → Nat → Nat) (cT : Nat → ClassId) (A : Nat → Prop) (P : va_W → Prop) : Array Value → State → Outcome → State → Prop := fun _ st oc t => (oc = .returned none ∧ ∃ w : va_W, P w ∧ va_P (dC, dI) vwCl w t.heap ∧ va_K (dC, dI) vwCl (am_tys cT) t ∧ va_D A w) ∧ va_F A st t
def nc_LI (own : String) (idx : Nat) (M' : am_M) (n : Nat) : Prop := Cond.methodLink own idx M'.2.1 ∈ am_tb ∧ Cond.instanceMethod M'.2.1 ∈ am_tb ∧ Cond.initialized M'.1 ∈ am_tb ∧ Cond.code M'.2.1 M'.2.2.1 M'.2.2.2.1 none ∈ am_tb ∧ M'.2.1.cls = M'.1 ∧ M'.2.1.cls ≠ "java/lang/invoke/MethodHandle" ∧ M'.2.1.cls ≠ "java/lang/invoke/VarHandle" ∧ (parseMethodDescriptor M'.2.1.desc).map (fun d => d.parameters.length) = some n ∧ M'.2.1.name = "<init>" ∧ M'.2.2.2.2 = none
theorem nc_free {A : Nat → Prop} {ws : va_W} {x : Nat × va_E} {H0 H : Heap} {locs : List Loc} (hx : ∃ i : Nat, ws[i]? = some x) (hD : va_D A ws) (hS : va_S A H0 H locs) (hA : ∀ q, H0.size ≤ q → A q) : ∀ q, va_A [x] H.size q → A q := by
  obtain ⟨i, hi⟩ := hx
  rintro q (⟨k, e, hk⟩ | hz)
  · have hk0 : k = 0 := by have := (List.getElem?_eq_some_iff.mp hk).1; simp at this; omega
    subst hk0
    have hq : x = (q, e) := Option.some.inj hk
    have := hD.2 i x hi
    rw [hq] at this
    exact this
  · exact hA q (Nat.le_trans hS.1 hz)
section NC2
variable {p : Program} {l : Launch} {e : Env} {R : Room} {s : State} {m : MethodId} {args : Array Value} {below : List Frame} {meth : Method} {c : Code} {H : Heap} {locs : List Loc} {cells slots : Nat} {Q : State → Prop} {cc : ByteArray} {pc : Nat} {ls : Array Slot} {rest : List Value} {dC : Nat → ClassId} {dI : Nat → Nat → Nat} {cT : Nat → ClassId} {A : Nat → Prop} {ws : va_W}
theorem nc_ctor {own : String} {index n nL mc ms : Nat} {M' : am_M} {rm : Room} {q : Nat} {e0 : va_E} {As : List Value} {Pw : va_W → Prop} {stk : List Value} (hx : p.tables.exec = Jvm.exec) (hb : c.code = cc) (hml : c.maxLocals = nL) (hown : s.vm.findClass own = some m.cls) (hts : ∀ w ∈ am_tb, w.before args s = true) (hK : va_K (dC, dI) vwCl (am_tys cT) s) (hO : nc_ov s)
    (hP : va_P (dC, dI) vwCl (ws ++ [(q, e0)]) H) (hD : va_D A (ws ++ [(q, e0)])) (hS : va_S A s.heap H locs) (hA : ∀ q, s.heap.size ≤ q → A q)
    (hM : Met l M'.2.1 (am_ws M') rm (va_Pc (.ref q :: As) (nc_B dC dI cT [(q, e0)] H.size)) (nc_Q dC dI cT (va_A [(q, e0)] H.size) Pw) mc ms (va_A [(q, e0)] H.size)) (hl : nc_LI own index M' n) (hrm : rm.cells = mc ∧ rm.slots = ms ∧ rm.frames + 1 ≤ R.frames ∧ 8 + (M'.2.2.2.1 + 11) + rm.locals ≤ R.locals)
    (hn : As.length = n) (hsz : ls.size = nL) (hw : (rest.map fun v => v.category).sum ≤ 8) (hd : decode cc pc = .ok (.invokespecial index, 3)) (hf : cells + mc ≤ R.cells ∧ slots + ms ≤ R.slots) (hstk : stk = As.reverse ++ .ref q :: rest)
    (kk : ∀ (w1 : va_W) (H1 : Heap) (locs1 : List Loc), Pw w1 → va_P (dC, dI) vwCl (ws ++ w1) H1 → va_D A (ws ++ w1) → va_S A s.heap H1 locs1 → (∀ a : Nat, a < H.size → ¬ va_A [(q, e0)] H.size a → H1[a]? = H[a]?) → W p l e R s m args below meth c H1 locs1 (cells + mc) (slots + ms) Q (F0 m (pc + 3) ls rest)) : W p l e R s m args below meth c H locs cells slots Q (F0 m pc ls stk) := by
  subst hstk
  obtain ⟨l1, l2, l4, l5, l6, l7, l8, l9, l10, l11⟩ := hl
  have hlast : (ws ++ [(q, e0)])[ws.length]? = some (q, e0) := by rw [List.getElem?_append_right (Nat.le_refl _)]; simp
  have hfree := nc_free ⟨_, hlast⟩ hD hS hA
  have hP0 : va_P (dC, dI) vwCl [(q, e0)] H := fun k x hx => by
    have hk0 : k = 0 := by have := (List.getElem?_eq_some_iff.mp hx).1; simp at this; omega
    subst hk0
    cases hx
    exact hP _ _ hlast
  have hD0 : va_D (fun _ => True) [(q, e0)] := ⟨fun i j x y hx hy _ => by
    have h1 := (List.getElem?_eq_some_iff.mp hx).1
    have h2 := (List.getElem?_eq_some_iff.mp hy).1
    simp at h1 h2
    omega, fun _ _ _ => trivial⟩
  have hr := va_runI (p := p) (l := l) (e := e) (R := R) (s := s) (m := m) (args := args) (below := below) (meth := meth) (c := c) (H := H) (locs := locs) (cells := cells) (slots := slots) (g := F0 m pc ls (As.reverse ++ .ref q :: rest)) (b := q) (As := As) (rest := rest) (n := n) (bytes := M'.2.2.1) (maxL := M'.2.2.2.1) ⟨hx, hb, hml, hown, hts⟩ hM
    ⟨⟨hrm.1, hrm.2.1, hrm.2.2.1, hrm.2.2.2, pay_in hts (fun w hw => by
        rcases List.mem_cons.mp hw with rfl | hw
        · exact am_good _ (by rw [l11]; exact l5)
        · exact am_good w hw), by rw [← l11]; exact List.mem_cons_self, hts _ l5, hts _ (by rw [l6]; exact l4), ⟨l7, l8⟩, fun sig hsig => by rw [hsig] at l9; exact (Option.some.inj l9).symm, hts _ l1⟩, l10, hts _ l2⟩
    ⟨fun a U g mk q => by obtain ⟨q0, q1, qP, qK, qD, qO⟩ := q; exact ⟨q0, q1, qP, va_K.moved (u := U) (U := U.calling g mk a) (Vm.Alike.refl U.vm) qK, qD, nc_ov.moved (u := U) (U := U.calling g mk a) (Vm.Alike.refl U.vm) qO⟩, fun U hU hW => ⟨rfl, by rw [hU], by rw [hU]; exact hP0, va_K.moved hW.alike hK, hD0, hO.moved hW.alike⟩⟩
    rfl hn hsz rfl (lv_room hw) hd hf
  intro T hT X
  obtain ⟨v, st₀, t, T', L, h0, X', hL, e1, e2, ⟨⟨hv, w1, hq, hp, hk, hdd2⟩, hz, hkp⟩, stp⟩ := hr T hT X
  have hv' : v = none := by cases hv; rfl
  subst hv'
  rw [h0] at hz hkp
  obtain ⟨j1, j2⟩ := nc_join hP hD (fun a h1 h2 => by rw [e1]; exact hkp a h1 h2) hfree (H1 := T'.heap) (by rw [e1]; exact hp) hdd2
  obtain ⟨t2, a1, b1⟩ := kk w1 T'.heap (locs ++ L) hq j1 j2
    ⟨Nat.le_trans hS.1 (by rw [e1]; exact hz), fun a h1 h2 => by rw [e1, hkp a (Nat.lt_of_lt_of_le h1 hS.1) (fun z => h2 (hfree a z))]; exact hS.2.1 a h1 h2, fun x hq => by
      rcases List.mem_append.mp hq with h | h
      · exact hS.2.2 x h
      · exact hfree _ (hL x h)⟩ (fun a h1 h2 => by rw [e1]; exact hkp a h1 h2) T' rfl X'
  exact ⟨t2, stp t2 a1, b1⟩
end NC2
/-! a row of numbers filled, alone in its world -/
def nf_G (len : Nat) : List am_K := [.inr (0, len, 0)]
theorem nf_lp {h : am_H} {v : Int} {len : Nat} (hl : len < 65536) : ∀ (m : Nat) (i : Int) (f : Int → Int), 0 ≤ i → i ≤ len → len - i < m → (f = fun j => if 0 ≤ j ∧ j < i then v else h 0 j) → AW (nf_G len) mJ7_fill_53178 1 (am_FV (fillF h 0 v len)) 5 [some (am_R 0), some (am_I v), some (am_I i), some (am_I len)] [] (am_up h 0 f) := by
  have hk : am_kd (nf_G len) 0 = some (.inr (0, len, 0)) := rfl
  intro m
  induction m with
  | zero => intro i f h0 h1 h2; omega
  | succ m ih =>
    intro i f h0 h1 h2 hf
    refine aw_iload_n dJ7_fill_53178_5 rfl ?_
    refine aw_iload_n dJ7_fill_53178_6 rfl ?_
    refine aw_icmp_ge (tgt := 20) dJ7_fill_53178_7 rfl (by omega) (by omega) (fun hc7 => ?_) (fun hc7 => ?_)
    · refine aw_vretF dJ7_fill_53178_20 rfl ?_
      show _ = fillF h 0 v len
      rw [hf, show i = len by omega]; rfl
    · refine aw_aload_n dJ7_fill_53178_10 rfl ?_
      refine aw_iload_n dJ7_fill_53178_11 rfl ?_
      refine aw_iload_n dJ7_fill_53178_12 rfl ?_
      refine aw_iastore dJ7_fill_53178_13 hk (by omega) (by omega) ?_
      refine aw_iinc2 dJ7_fill_53178_14 (by decide) rfl ?_
      refine aw_goto (tgt := 5) dJ7_fill_53178_17 rfl ?_
      rw [am_set_ups]
      refine ih _ _ (by omega) (by omega) (by omega) ?_
      rw [hf]; funext j; dsimp only; repeat' split
      all_goals first | rfl | omega
theorem nf_c {h : am_H} {v : Int} {len : Nat} (hl : len < 65536) : AMet (nf_G len) mJ7_fill_53178 1 [am_R 0, am_I v] h (am_FV (fillF h 0 v len)) := by
  refine am_start [some (am_R 0), some (am_I v), none, none] rfl rfl (by decide) (Nat.le_of_ble_eq_true rfl) ?_
  refine aw_iconst dJ7_fill_53178_0 ?_
  refine aw_istore_2 dJ7_fill_53178_1 (by decide) rfl ?_
  refine aw_aload_n dJ7_fill_53178_2 rfl ?_
  refine aw_alen0 (len := len) (b := 0) dJ7_fill_53178_3 (show am_kd (nf_G len) 0 = some (.inr (0, len, 0)) from rfl) rfl ?_
  refine aw_istore_3 dJ7_fill_53178_4 (by decide) rfl ?_
  refine aw_heap (am_up_self h 0).symm ?_
  exact nf_lp hl (len + 1) 0 _ (by omega) (by omega) (by omega) (by funext j; rw [if_neg (by omega)])
section NC3
variable {p : Program} {l : Launch} {e : Env} {R : Room} {s : State} {m : MethodId} {args : Array Value} {below : List Frame} {meth : Method} {c : Code} {H : Heap} {locs : List Loc} {cells slots : Nat} {Q : State → Prop} {cc : ByteArray} {pc : Nat} {ls : Array Slot} {rest : List Value} {dC : Nat → ClassId} {dI : Nat → Nat → Nat} {cT : Nat → ClassId} {A : Nat → Prop} {ws : va_W}
theorem nc_fill {own : String} {index nL i q len : Nat} (hx : p.tables.exec = Jvm.exec) (hb : c.code = cc) (hml : c.maxLocals = nL) (hown : s.vm.findClass own = some m.cls) (hts : ∀ w ∈ am_tb, w.before args s = true) (hK : va_K (dC, dI) vwCl (am_tys cT) s)
    (hP : va_P (dC, dI) vwCl ws H) (hD : va_D A ws) (hS : va_S A s.heap H locs) (hA : ∀ q, s.heap.size ≤ q → A q) (hi : ws[i]? = some (q, .inl (cT 0, (len, .inl (fun _ => 0))))) (hlen : len < 65536)
    (hl : am_LS own index mJ7_fill_53178 2) (hrm : 2 ≤ R.frames ∧ 200 ≤ R.locals) (hsz : ls.size = nL) (hw : (rest.map fun v => v.category).sum ≤ 8) (hd : decode cc pc = .ok (.invokestatic index, 3)) (hf : cells ≤ R.cells ∧ slots ≤ R.slots)
    (kk : ∀ (H1 : Heap) (locs1 : List Loc), va_P (dC, dI) vwCl (ws.set i (q, .inl (cT 0, (len, .inl (nc_m1 len))))) H1 → va_D A (ws.set i (q, .inl (cT 0, (len, .inl (nc_m1 len))))) → va_S A s.heap H1 locs1 → W p l e R s m args below meth c H1 locs1 cells slots Q (F0 m (pc + 3) ls rest)) : W p l e R s m args below meth c H locs cells slots Q (F0 m pc ls (.int (-1) :: .ref q :: rest)) := by
  have hfree := nc_free ⟨_, hi⟩ hD hS hA
  have hP0 : va_P (dC, dI) vwCl (am_W cT (fun _ => q) (nf_G len) (fun _ _ => 0)) H := fun k x hx => by
    have hk0 : k = 0 := by have := (List.getElem?_eq_some_iff.mp hx).1; simp [am_W, nf_G] at this; omega
    subst hk0
    cases hx
    exact hP _ _ hi
  have hD0 : va_D (fun _ => True) (am_W cT (fun _ => q) (nf_G len) (fun _ _ => 0)) := ⟨fun i j x y hx hy _ => by
    have h1 := (List.getElem?_eq_some_iff.mp hx).1
    have h2 := (List.getElem?_eq_some_iff.mp hy).1
    simp [am_W, nf_G] at h1 h2
    omega, fun _ _ _ => trivial⟩
  obtain ⟨l1, l2, l4, l5, l6, l7, l8, l9, l10⟩ := hl
  have hr := va_runS (p := p) (l := l) (e := e) (R := R) (s := s) (m := m) (args := args) (below := below) (meth := meth) (c := c) (H := H) (locs := locs) (cells := cells) (slots := slots) (g := F0 m pc ls (.int (-1) :: .ref q :: rest)) (As := [am_R 0, am_I (-1)].map (am_cv (fun _ => q))) (rest := rest) (n := 2) (bytes := mJ7_fill_53178.2.2.1) (maxL := mJ7_fill_53178.2.2.2.1) (ret := mJ7_fill_53178.2.2.2.2) ⟨hx, hb, hml, hown, hts⟩ (nf_c (h := fun _ _ => 0) (v := -1) hlen l dC dI cT (fun _ => q) H.size)
    ⟨⟨rfl, rfl, hrm.1, Nat.le_trans (by decide) hrm.2, pay_in hts (fun w hw => by
        rcases List.mem_cons.mp hw with rfl | hw
        · exact am_good _ l5
        · exact am_good w hw), List.mem_cons_self, hts _ l5, hts _ (by rw [l6]; exact l4), ⟨l7, l8⟩, fun sig hsig => by rw [hsig] at l9; exact (Option.some.inj l9).symm, hts _ l1⟩, hts _ l2⟩
    ⟨fun a U g mk q => by obtain ⟨q0, q1, qP, qK, qD⟩ := q; exact ⟨q0, q1, qP, va_K.moved (u := U) (U := U.calling g mk a) (Vm.Alike.refl U.vm) qK, qD⟩, fun U hU hW => ⟨rfl, by rw [hU], by rw [hU]; exact hP0, va_K.moved hW.alike hK, hD0⟩⟩
    rfl rfl hsz rfl (lv_room hw) hd hf
  intro T hT X
  obtain ⟨v, st₀, t, T', L, h0, X', hL, e1, e2, ⟨⟨r, h', hq, hv, hp, hk, hdd2⟩, hz, hkp⟩, stp⟩ := hr T hT X
  obtain ⟨hq1, hq2⟩ := hq
  subst hq2
  subst hq1
  have hv' : v = none := by cases hv; rfl
  subst hv'
  rw [h0] at hz hkp
  have ew : am_W cT (fun _ => q) (nf_G len) (fun _ _ => 0) = [(q, .inl (cT 0, (len, .inl (fun _ => 0))))] := rfl
  rw [ew] at hkp hL
  have ef : (fun j : Nat => Int32.ofInt (if 0 ≤ (j : Int) ∧ (j : Int) < len then -1 else 0)) = nc_m1 len := by
    funext j
    unfold nc_m1
    by_cases hj : j < len
    · rw [if_pos hj, if_pos (by omega)]; rfl
    · rw [if_neg hj, if_neg (by omega)]; rfl
  have hp' : va_P (dC, dI) vwCl [(q, .inl (cT 0, (len, .inl (nc_m1 len))))] T'.heap := by
    rw [e1, ← ef]
    exact hp
  obtain ⟨j1, j2⟩ := nc_set hP hD hi (fun a h1 h2 => by rw [e1]; exact hkp a h1 h2) hp'
  obtain ⟨t2, a1, b1⟩ := kk T'.heap (locs ++ L) j1 j2
    ⟨Nat.le_trans hS.1 (by rw [e1]; exact hz), fun a h1 h2 => by rw [e1, hkp a (Nat.lt_of_lt_of_le h1 hS.1) (fun z => h2 (hfree a z))]; exact hS.2.1 a h1 h2, fun x hq => by
      rcases List.mem_append.mp hq with h | h
      · exact hS.2.2 x h
      · exact hfree _ (hL x h)⟩ T' rfl X'
  exact ⟨t2, stp t2 a1, b1⟩
end NC3
