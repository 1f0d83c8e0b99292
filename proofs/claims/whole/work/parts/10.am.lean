/-! AM: an abstract machine over a FIXED set of cells (logical numbers), numbers as Int. AW: weakest precondition, the kit's W with its context hidden. AMet: a contract. -/
abbrev am_V : Type := Int ⊕ Int ⊕ Int
abbrev am_I (a : Int) : am_V := Sum.inl a
abbrev am_J (a : Int) : am_V := Sum.inr (Sum.inl a)
abbrev am_R (a : Int) : am_V := Sum.inr (Sum.inr a)
abbrev am_H : Type := Int → Int → Int
/-- an object: class number, its fields (0 int, 1 long, 2 a fixed cell, 3 a cell by number); an array: type number, length, first cell (arrays of cells) -/
abbrev am_K : Type := (Nat × List (Nat × Int)) ⊕ (Nat × Nat × Int)
abbrev am_M : Type := String × MethodName × ByteArray × Nat × Option FieldType
def am_kd (G : List am_K) (c : Int) : Option am_K := match c with
  | .ofNat n => G[n]?
  | .negSucc _ => none
def am_cv (ad : Int → Nat) (v : am_V) : Value := match v with
  | .inl a => .int (Int32.ofInt a)
  | .inr (.inl a) => .long (Int64.ofInt a)
  | .inr (.inr a) => .ref (ad a)
def am_fv (ad : Int → Nat) (t : Nat × Int) (v : Int) : Value := match t.1 with
  | 0 => .int (Int32.ofInt v)
  | 1 => .long (Int64.ofInt v)
  | 2 => .ref (ad t.2)
  | _ => .ref (ad v)
def am_ar (ad : Int → Nat) (tc len : Nat) (b : Int) (f : Int → Int) : vp_A := match tc with
  | 0 => (len, .inl (fun j => Int32.ofInt (f j)))
  | 1 => (len, .inl (fun j => Int32.ofInt (f j)))
  | 2 => (len, .inl (fun j => Int32.ofInt (f j)))
  | 3 => (len, .inr (.inl (fun j => Int64.ofInt (f j))))
  | _ => (len, .inr (.inr (.inr (.inr (fun j => if j < len then some (ad (b + j)) else none)))))
def am_ent (cT : Nat → ClassId) (ad : Int → Nat) (k : am_K) (f : Int → Int) : va_E := match k with
  | .inl (ci, fts) => .inr (ci, fts.mapIdx fun i t => am_fv ad t (f i))
  | .inr (tc, len, b) => .inl (cT tc, am_ar ad tc len b f)
def am_W (cT : Nat → ClassId) (ad : Int → Nat) (G : List am_K) (h : am_H) : va_W := G.mapIdx fun c k => (ad (c : Int), am_ent cT ad k (h (c : Int)))
abbrev am_tys (cT : Nat → ClassId) : List (ClassId × FieldType) := [(cT 0, .int), (cT 1, .byte), (cT 2, .boolean), (cT 3, .long), (cT 4, .array .int), (cT 5, .array .byte), (cT 6, .object "YearWord$Years")]
def am_up (h : am_H) (c : Int) (f : Int → Int) : am_H := fun x => if x = c then f else h x
def am_set (h : am_H) (c i v : Int) : am_H := fun x => if x = c then (fun j => if j = i then v else h c j) else h x
theorem am_set_c {h : am_H} {c i v x : Int} (hx : ¬ x = c) : am_set h c i v x = h x := if_neg hx
theorem am_set_s (h : am_H) (c i v : Int) : am_set h c i v c i = v := by simp [am_set]
theorem am_set_i {h : am_H} {c i v j : Int} (hj : ¬ j = i) : am_set h c i v c j = h c j := by simp [am_set, hj]
theorem am_set_if (h : am_H) (c i v x j : Int) : am_set h c i v x j = if x = c then (if j = i then v else h c j) else h x j := by
  unfold am_set; split <;> rfl
theorem am_up_c {h : am_H} {c x : Int} {f : Int → Int} (hx : ¬ x = c) : am_up h c f x = h x := if_neg hx
theorem am_up_s (h : am_H) (c : Int) (f : Int → Int) : am_up h c f c = f := by simp [am_up]
theorem am_up_if (h : am_H) (c : Int) (f : Int → Int) (x : Int) : am_up h c f x = if x = c then f else h x := rfl
theorem am_set_up (h : am_H) (c i v : Int) : am_set h c i v = am_up h c (fun j => if j = i then v else h c j) := rfl
theorem am_kd_n {G : List am_K} {c : Int} {k : am_K} (h : am_kd G c = some k) : ∃ n : Nat, c = (n : Int) ∧ G[n]? = some k := by
  cases c with
  | ofNat n => exact ⟨n, rfl, h⟩
  | negSucc n => cases h
theorem am_W_at {cT : Nat → ClassId} {ad : Int → Nat} {G : List am_K} {h : am_H} {n : Nat} {k : am_K} (hk : G[n]? = some k) : (am_W cT ad G h)[n]? = some (ad (n : Int), am_ent cT ad k (h (n : Int))) := by
  unfold am_W
  rw [List.getElem?_mapIdx, hk]; rfl
theorem am_W_set {cT : Nat → ClassId} {ad : Int → Nat} {G : List am_K} {h : am_H} {n : Nat} {k : am_K} (hk : G[n]? = some k) (f : Int → Int) {e : va_E} (he : e = am_ent cT ad k f) : (am_W cT ad G h).set n (ad (n : Int), e) = am_W cT ad G (am_up h (n : Int) f) := by
  subst he
  have hn : n < G.length := (List.getElem?_eq_some_iff.mp hk).1
  apply List.ext_getElem?
  intro i
  by_cases e : i = n
  · subst e
    rw [List.getElem?_set_self (by unfold am_W; rw [List.length_mapIdx]; exact hn), am_W_at hk, am_up_s]
  · rw [List.getElem?_set_ne (Ne.symm e)]
    unfold am_W
    rw [List.getElem?_mapIdx, List.getElem?_mapIdx]
    congr 1
    funext k'
    rw [am_up_c (by omega)]
def am_rm (d : Nat) : Room := { frames := d, cells := 0, slots := 0, locals := 64 * d }
abbrev am_ws (M : am_M) : List Cond := Cond.code M.2.1 M.2.2.1 M.2.2.2.1 M.2.2.2.2 :: am_tb
def am_C (M : am_M) (p : Program) (s : State) (m : MethodId) (args : Array Value) (meth : Method) (c : Code) (dC : Nat → ClassId) (dI : Nat → Nat → Nat) (cT : Nat → ClassId) (A : Nat → Prop) : Prop :=
  p.tables.exec = Jvm.exec ∧ c.code = M.2.2.1 ∧ meth.sig.returnType = M.2.2.2.2 ∧ c.maxLocals = M.2.2.2.1 ∧ s.vm.findClass M.1 = some m.cls ∧ (∀ w ∈ am_tb, w.before args s = true) ∧ meth.locks = false ∧ va_K (dC, dI) vwCl (am_tys cT) s ∧ (∀ q : Nat, s.heap.size ≤ q → A q)
def am_Ls (ad : Int → Nat) (lsC : Array Slot) (nL : Nat) (ls : List (Option am_V)) : Prop := lsC.size = nL ∧ lv_wf lsC ∧ ∀ (i : Nat) (v : am_V), ls[i]? = some (some v) → lsC[i]? = some (.val (am_cv ad v))
def am_Qc (G : List am_K) (dC : Nat → ClassId) (dI : Nat → Nat → Nat) (cT : Nat → ClassId) (ad : Int → Nat) (A : Nat → Prop) (Q : Option am_V → am_H → Prop) : Array Value → State → Outcome → State → Prop := fun _ st oc t =>
  (∃ (r : Option am_V) (h' : am_H), Q r h' ∧ oc = .returned (r.map (am_cv ad)) ∧ va_P (dC, dI) vwCl (am_W cT ad G h') t.heap ∧ va_K (dC, dI) vwCl (am_tys cT) t ∧ va_D A (am_W cT ad G h')) ∧ va_F A st t
/-- the machine, at pc of the method M, with these locals, this stack, this heap, comes to the method's end with Q -/
def AW (G : List am_K) (M : am_M) (d : Nat) (Q : Option am_V → am_H → Prop) (pc : Nat) (ls : List (Option am_V)) (st : List am_V) (h : am_H) : Prop :=
  ∀ (p : Program) (l : Launch) (e : Env) (s : State) (m : MethodId) (args : Array Value) (below : List Frame) (meth : Method) (c : Code) (H : Heap) (locs : List Loc) (dC : Nat → ClassId) (dI : Nat → Nat → Nat) (cT : Nat → ClassId) (ad : Int → Nat) (A : Nat → Prop) (lsC : Array Slot),
    am_C M p s m args meth c dC dI cT A → va_P (dC, dI) vwCl (am_W cT ad G h) H → va_D A (am_W cT ad G h) → va_S A s.heap H locs → am_Ls ad lsC M.2.2.2.1 ls →
    W p l e (am_rm d) s m args below meth c H locs 0 0 (MQ below (am_Qc G dC dI cT ad A Q) args s 0 0 A) (F0 m pc lsC (st.map (am_cv ad)))
/-- a contract: from the heap h, with these arguments, the method returns, and Q answer heap' -/
def AMet (G : List am_K) (M : am_M) (d : Nat) (as : List am_V) (h : am_H) (Q : Option am_V → am_H → Prop) : Prop :=
  ∀ (l : Launch) (dC : Nat → ClassId) (dI : Nat → Nat → Nat) (cT : Nat → ClassId) (ad : Int → Nat) (sz : Nat),
    Met l M.2.1 (am_ws M) (am_rm d) (va_Pc (as.map (am_cv ad)) (fun U => U.heap.size = sz ∧ va_P (dC, dI) vwCl (am_W cT ad G h) U.heap ∧ va_K (dC, dI) vwCl (am_tys cT) U ∧ va_D (fun _ => True) (am_W cT ad G h)))
      (am_Qc G dC dI cT ad (va_A (am_W cT ad G h) sz) Q) 0 0 (va_A (am_W cT ad G h) sz)
/-- the locals at a method's start -/
def am_args : List am_V → List (Option am_V)
  | [] => []
  | .inr (.inl a) :: r => some (am_J a) :: none :: am_args r
  | .inl a :: r => some (am_I a) :: am_args r
  | .inr (.inr a) :: r => some (am_R a) :: am_args r
theorem am_entry {ad : Int → Nat} : ∀ (as : List am_V) (k : Nat) (i : Nat) (v : am_V), (am_args as)[i]? = some (some v) → (k + i, am_cv ad v) ∈ lv_args k (as.map (am_cv ad))
  | [], k, i, v, h => by simp [am_args] at h
  | .inr (.inl a) :: r, k, i, v, h => by
    match i, h with
    | 0, h => simp [am_args] at h; subst h; simp [lv_args, am_cv]
    | 1, h => simp [am_args] at h
    | i + 2, h =>
      have h' : (am_args r)[i]? = some (some v) := by simpa [am_args] using h
      have := am_entry (ad := ad) r (k + 2) i v h'
      have e : k + 2 + i = k + (i + 2) := by omega
      rw [← e]
      exact List.mem_cons_of_mem _ this
  | .inl a :: r, k, i, v, h => by
    match i, h with
    | 0, h => simp [am_args] at h; subst h; simp [lv_args, am_cv]
    | i + 1, h =>
      have h' : (am_args r)[i]? = some (some v) := by simpa [am_args] using h
      have := am_entry (ad := ad) r (k + 1) i v h'
      have e : k + 1 + i = k + (i + 1) := by omega
      rw [← e]
      exact List.mem_cons_of_mem _ this
  | .inr (.inr a) :: r, k, i, v, h => by
    match i, h with
    | 0, h => simp [am_args] at h; subst h; simp [lv_args, am_cv]
    | i + 1, h =>
      have h' : (am_args r)[i]? = some (some v) := by simpa [am_args] using h
      have := am_entry (ad := ad) r (k + 1) i v h'
      have e : k + 1 + i = k + (i + 1) := by omega
      rw [← e]
      exact List.mem_cons_of_mem _ this
theorem am_sl_len (ad : Int → Nat) : ∀ as : List am_V, (lg_sl (as.map (am_cv ad))).length = (am_args as).length
  | [] => rfl
  | .inr (.inl a) :: r => congrArg (· + 2) (am_sl_len ad r)
  | .inl a :: r => congrArg (· + 1) (am_sl_len ad r)
  | .inr (.inr a) :: r => congrArg (· + 1) (am_sl_len ad r)
theorem am_start {G : List am_K} {M : am_M} {d : Nat} {as : List am_V} {h : am_H} {Q : Option am_V → am_H → Prop} (ls : List (Option am_V)) (hls : am_args as ++ List.replicate (M.2.2.2.1 - (am_args as).length) none = ls) (hc : M.2.1.cls = M.1) (hpn : plainName M.2.1.cls = true) (hlen : (am_args as).length ≤ M.2.2.2.1)
    (k : AW G M d Q 0 ls [] h) : AMet G M d as h Q := by
  subst hls
  intro l dC dI cT ad sz
  refine Met.ofW (cc := M.2.2.1) (maxL := M.2.2.2.1) (ret := M.2.2.2.2) hpn rfl ?_
  intro p e s m args below meth c s₁ B hml hv
  obtain ⟨rfl, hsz, hP, hK, hD0⟩ := hv
  have hts := atoms_spec (ws := am_ws M) B.pre
  have hown : s.vm.findClass M.1 = some m.cls := by rw [← hc]; exact findClass_of_methodNamed B.named
  have hlocks := B.notSynchronized
  subst hsz
  have hD := hD0.self (sz := s.heap.size)
  have hl := lv_entry (as.map (am_cv ad)) (n := M.2.2.2.1) (by rw [am_sl_len]; exact hlen)
  rw [lg_entry_eq]
  refine k p l e s m _ below meth c s.heap [] dC dI cT ad _ _ ⟨B.exec, B.bytes, B.returns, hml, hown, fun w hw => hts w (List.mem_cons_of_mem _ hw), hlocks, hK, fun q hq => Or.inr hq⟩ hP hD va_S.rf ⟨hl.1, hl.2.1, ?_⟩
  intro i v hi
  have hi' : (am_args as)[i]? = some (some v) := by
    rcases Nat.lt_or_ge i (am_args as).length with q | q
    · rwa [List.getElem?_append_left q] at hi
    · rw [List.getElem?_append_right q, List.getElem?_replicate] at hi
      split at hi <;> simp at hi
  have := am_entry (ad := ad) as 0 i v hi'
  rw [Nat.zero_add] at this
  exact hl.2.2 _ this
