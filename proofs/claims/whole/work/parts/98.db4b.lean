def nc_ne (U : State) : Prop := va_Nw (.methodLinkNest RX7 28 yX5_init RX7) U ∧ va_Nw (.methodLinkNest RX7 70 yX6_init RX7) U
theorem nc_ne.warm {s U : State} (hW : s.WarmedH U.vm) (h : nc_ne s) : nc_ne U := ⟨h.1.warmM hW, h.2.warmM hW⟩
theorem nc_ne.same {u U : State} (hv : u.vm = U.vm) (h : nc_ne u) : nc_ne U := ⟨h.1.same rfl hv, h.2.same rfl hv⟩
section NC4
variable {p : Program} {l : Launch} {e : Env} {R : Room} {s : State} {m : MethodId} {args : Array Value} {below : List Frame} {meth : Method} {c : Code} {H : Heap} {locs : List Loc} {cells slots : Nat} {Q : State → Prop} {cc : ByteArray} {pc : Nat} {ls : Array Slot} {rest : List Value} {dC : Nat → ClassId} {dI : Nat → Nat → Nat} {cT : Nat → ClassId} {A : Nat → Prop} {ws : va_W}
theorem nc_last {q : Nat} {e0 : va_E} (hP : va_P (dC, dI) vwCl (ws ++ [(q, e0)]) H) : va_P (dC, dI) vwCl [(q, e0)] H ∧ va_D (fun _ => True) [(q, e0)] := by
  have hlast : (ws ++ [(q, e0)])[ws.length]? = some (q, e0) := by rw [List.getElem?_append_right (Nat.le_refl _)]; simp
  refine ⟨fun k x hx => ?_, fun i j x y hx hy _ => ?_, fun _ _ _ => trivial⟩
  · have hk0 : k = 0 := by have := (List.getElem?_eq_some_iff.mp hx).1; simp at this; omega
    subst hk0
    cases hx
    exact hP _ _ hlast
  · have h1 := (List.getElem?_eq_some_iff.mp hx).1
    have h2 := (List.getElem?_eq_some_iff.mp hy).1
    simp at h1 h2
    omega
theorem nc_back {mc ms : Nat} {q : Nat} {e0 : va_E} {Pw : va_W → Prop} {stk : List Value} {av : Array Value} (hr : va_Run p l e R s m args below meth c H locs cells slots mc ms (F0 m pc ls stk) rest (nc_Q dC dI cT (va_A [(q, e0)] H.size) Pw av) (va_A [(q, e0)] H.size))
    (hP : va_P (dC, dI) vwCl (ws ++ [(q, e0)]) H) (hD : va_D A (ws ++ [(q, e0)])) (hS : va_S A s.heap H locs) (hA : ∀ q, s.heap.size ≤ q → A q)
    (kk : ∀ (w1 : va_W) (H1 : Heap) (locs1 : List Loc), Pw w1 → va_P (dC, dI) vwCl (ws ++ w1) H1 → va_D A (ws ++ w1) → va_S A s.heap H1 locs1 → (∀ a : Nat, a < H.size → ¬ va_A [(q, e0)] H.size a → H1[a]? = H[a]?) → W p l e R s m args below meth c H1 locs1 (cells + mc) (slots + ms) Q (F0 m (pc + 3) ls rest)) : W p l e R s m args below meth c H locs cells slots Q (F0 m pc ls stk) := by
  have hlast : (ws ++ [(q, e0)])[ws.length]? = some (q, e0) := by rw [List.getElem?_append_right (Nat.le_refl _)]; simp
  have hfree := nc_free ⟨_, hlast⟩ hD hS hA
  intro T hT X
  obtain ⟨v, st₀, t, T', L, h0, X', hL, e1, e2, ⟨⟨hv, w1, hq, hp, hk, hdd2⟩, hz, hkp⟩, stp⟩ := hr T hT X
  have hv' : v = none := by cases hv; rfl
  subst hv'
  rw [h0] at hz hkp
  obtain ⟨j1, j2⟩ := nc_join hP hD (fun a h1 h2 => by rw [e1]; exact hkp a h1 h2) hfree (H1 := T'.heap) (by rw [e1]; exact hp) hdd2
  obtain ⟨t2, a1, b1⟩ := kk w1 T'.heap (locs ++ L) hq j1 j2
    ⟨Nat.le_trans hS.1 (by rw [e1]; exact hz), fun a h1 h2 => by rw [e1, hkp a (Nat.lt_of_lt_of_le h1 hS.1) (fun z => h2 (hfree a z))]; exact hS.2.1 a h1 h2, fun x hq => by
      rcases List.mem_append.mp hq with h | h
      · exact hS.2.2 x h
      · exact hfree _ (hL x h)⟩ (fun a h1 h2 => by rw [e1]; exact hkp a h1 h2) T' rfl X'
  exact ⟨t2, stp t2 a1, b1⟩
def nc_LN (M' : am_M) (n : Nat) : Prop := Cond.instanceMethod M'.2.1 ∈ am_tb ∧ Cond.initialized M'.1 ∈ am_tb ∧ Cond.code M'.2.1 M'.2.2.1 M'.2.2.2.1 none ∈ am_tb ∧ M'.2.1.cls = M'.1 ∧ M'.2.1.cls ≠ "java/lang/invoke/MethodHandle" ∧ M'.2.1.cls ≠ "java/lang/invoke/VarHandle" ∧ (parseMethodDescriptor M'.2.1.desc).map (fun d => d.parameters.length) = some n ∧ M'.2.1.name = "<init>" ∧ M'.2.2.2.2 = none
theorem nc_ctorN {own host : String} {index n nL mc ms : Nat} {M' : am_M} {rm : Room} {q : Nat} {e0 : va_E} {As : List Value} {Pw : va_W → Prop} {stk : List Value} (hx : p.tables.exec = Jvm.exec) (hb : c.code = cc) (hml : c.maxLocals = nL) (hown : s.vm.findClass own = some m.cls) (hts : ∀ w ∈ am_tb, w.before args s = true) (hK : va_K (dC, dI) vwCl (am_tys cT) s) (hO : nc_ov s)
    (hP : va_P (dC, dI) vwCl (ws ++ [(q, e0)]) H) (hD : va_D A (ws ++ [(q, e0)])) (hS : va_S A s.heap H locs) (hA : ∀ q, s.heap.size ≤ q → A q)
    (hM : Met l M'.2.1 (am_ws M') rm (va_Pc (.ref q :: As) (nc_B dC dI cT [(q, e0)] H.size)) (nc_Q dC dI cT (va_A [(q, e0)] H.size) Pw) mc ms (va_A [(q, e0)] H.size)) (hne : va_Nw (.methodLinkNest own index M'.2.1 host) s) (hl : nc_LN M' n) (hrm : rm.cells = mc ∧ rm.slots = ms ∧ rm.frames + 1 ≤ R.frames ∧ 8 + (M'.2.2.2.1 + 11) + rm.locals ≤ R.locals)
    (hn : As.length = n) (hsz : ls.size = nL) (hw : (rest.map fun v => v.category).sum ≤ 8) (hd : decode cc pc = .ok (.invokespecial index, 3)) (hf : cells + mc ≤ R.cells ∧ slots + ms ≤ R.slots) (hstk : stk = As.reverse ++ .ref q :: rest)
    (kk : ∀ (w1 : va_W) (H1 : Heap) (locs1 : List Loc), Pw w1 → va_P (dC, dI) vwCl (ws ++ w1) H1 → va_D A (ws ++ w1) → va_S A s.heap H1 locs1 → (∀ a : Nat, a < H.size → ¬ va_A [(q, e0)] H.size a → H1[a]? = H[a]?) → W p l e R s m args below meth c H1 locs1 (cells + mc) (slots + ms) Q (F0 m (pc + 3) ls rest)) : W p l e R s m args below meth c H locs cells slots Q (F0 m pc ls stk) := by
  subst hstk
  obtain ⟨l2, l4, l5, l6, l7, l8, l9, l10, l11⟩ := hl
  obtain ⟨hP0, hD0⟩ := nc_last hP
  refine nc_back (va_runIN (p := p) (l := l) (e := e) (R := R) (s := s) (m := m) (args := args) (below := below) (meth := meth) (c := c) (H := H) (locs := locs) (cells := cells) (slots := slots) (g := F0 m pc ls (As.reverse ++ .ref q :: rest)) (b := q) (As := As) (rest := rest) (n := n) (bytes := M'.2.2.1) (maxL := M'.2.2.2.1) (host := host) ⟨hx, hb, hml, hown, hts⟩ hM
    ⟨⟨⟨hrm.1, hrm.2.1, hrm.2.2.1, hrm.2.2.2, pay_in hts (fun w hw => by
        rcases List.mem_cons.mp hw with rfl | hw
        · exact am_good _ (by rw [l11]; exact l5)
        · exact am_good w hw), by rw [← l11]; exact List.mem_cons_self⟩, hts _ l5, hts _ (by rw [l6]; exact l4), ⟨l7, l8⟩, fun sig hsig => by rw [hsig] at l9; exact (Option.some.inj l9).symm, va_Nw.use rfl hne⟩, l10, hts _ l2⟩
    ⟨fun a U g mk q => by obtain ⟨q0, q1, qP, qK, qD, qO⟩ := q; exact ⟨q0, q1, qP, va_K.moved (u := U) (U := U.calling g mk a) (Vm.Alike.refl U.vm) qK, qD, nc_ov.moved (u := U) (U := U.calling g mk a) (Vm.Alike.refl U.vm) qO⟩, fun U hU hW => ⟨rfl, by rw [hU], by rw [hU]; exact hP0, va_K.moved hW.alike hK, hD0, hO.moved hW.alike⟩⟩
    rfl hn hsz rfl (lv_room hw) hd hf) hP hD hS hA kk
theorem nc_ctorX {own : String} {index n nL mc ms : Nat} {M' : am_M} {rm : Room} {q : Nat} {e0 : va_E} {As : List Value} {Pw : va_W → Prop} {stk : List Value} (hx : p.tables.exec = Jvm.exec) (hb : c.code = cc) (hml : c.maxLocals = nL) (hown : s.vm.findClass own = some m.cls) (hts : ∀ w ∈ am_tb, w.before args s = true) (hK : va_K (dC, dI) vwCl (am_tys cT) s) (hO : nc_ov s) (hN : nc_ne s)
    (hP : va_P (dC, dI) vwCl (ws ++ [(q, e0)]) H) (hD : va_D A (ws ++ [(q, e0)])) (hS : va_S A s.heap H locs) (hA : ∀ q, s.heap.size ≤ q → A q)
    (hM : Met l M'.2.1 (am_ws M') rm (va_Pc (.ref q :: As) (fun U => nc_B dC dI cT [(q, e0)] H.size U ∧ nc_ne U)) (nc_Q dC dI cT (va_A [(q, e0)] H.size) Pw) mc ms (va_A [(q, e0)] H.size)) (hl : nc_LI own index M' n) (hrm : rm.cells = mc ∧ rm.slots = ms ∧ rm.frames + 1 ≤ R.frames ∧ 8 + (M'.2.2.2.1 + 11) + rm.locals ≤ R.locals)
    (hn : As.length = n) (hsz : ls.size = nL) (hw : (rest.map fun v => v.category).sum ≤ 8) (hd : decode cc pc = .ok (.invokespecial index, 3)) (hf : cells + mc ≤ R.cells ∧ slots + ms ≤ R.slots) (hstk : stk = As.reverse ++ .ref q :: rest)
    (kk : ∀ (w1 : va_W) (H1 : Heap) (locs1 : List Loc), Pw w1 → va_P (dC, dI) vwCl (ws ++ w1) H1 → va_D A (ws ++ w1) → va_S A s.heap H1 locs1 → (∀ a : Nat, a < H.size → ¬ va_A [(q, e0)] H.size a → H1[a]? = H[a]?) → W p l e R s m args below meth c H1 locs1 (cells + mc) (slots + ms) Q (F0 m (pc + 3) ls rest)) : W p l e R s m args below meth c H locs cells slots Q (F0 m pc ls stk) := by
  subst hstk
  obtain ⟨l1, l2, l4, l5, l6, l7, l8, l9, l10, l11⟩ := hl
  obtain ⟨hP0, hD0⟩ := nc_last hP
  refine nc_back (va_runI (p := p) (l := l) (e := e) (R := R) (s := s) (m := m) (args := args) (below := below) (meth := meth) (c := c) (H := H) (locs := locs) (cells := cells) (slots := slots) (g := F0 m pc ls (As.reverse ++ .ref q :: rest)) (b := q) (As := As) (rest := rest) (n := n) (bytes := M'.2.2.1) (maxL := M'.2.2.2.1) ⟨hx, hb, hml, hown, hts⟩ hM
    ⟨⟨hrm.1, hrm.2.1, hrm.2.2.1, hrm.2.2.2, pay_in hts (fun w hw => by
        rcases List.mem_cons.mp hw with rfl | hw
        · exact am_good _ (by rw [l11]; exact l5)
        · exact am_good w hw), by rw [← l11]; exact List.mem_cons_self, hts _ l5, hts _ (by rw [l6]; exact l4), ⟨l7, l8⟩, fun sig hsig => by rw [hsig] at l9; exact (Option.some.inj l9).symm, hts _ l1⟩, l10, hts _ l2⟩
    ⟨fun a U g mk q => by obtain ⟨q0, ⟨q1, qP, qK, qD, qO⟩, qN⟩ := q; exact ⟨q0, ⟨q1, qP, va_K.moved (u := U) (U := U.calling g mk a) (Vm.Alike.refl U.vm) qK, qD, nc_ov.moved (u := U) (U := U.calling g mk a) (Vm.Alike.refl U.vm) qO⟩, qN.same (U := U.calling g mk a) rfl⟩, fun U hU hW => ⟨rfl, ⟨by rw [hU], by rw [hU]; exact hP0, va_K.moved hW.alike hK, hD0, hO.moved hW.alike⟩, hN.warm hW⟩⟩
    rfl hn hsz rfl (lv_room hw) hd hf) hP hD hS hA kk
end NC4
