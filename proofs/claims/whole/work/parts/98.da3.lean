theorem lw_Pk {D : va_G} {cl : List vw_C} {ws : va_W} {H H1 : Heap} (hP : va_P D cl ws H) (hk : ∀ (i : Nat) (q : Nat × va_E), ws[i]? = some q → H1[q.1]? = H[q.1]?) : va_P D cl ws H1 := by
  intro i q hq
  have h1 := hP i q hq
  have h2 := hk i q hq
  obtain ⟨a, x⟩ := q
  cases x with
  | inl u =>
    show H1[a]? = some _
    rw [h2]; exact h1
  | inr o =>
    obtain ⟨r, h3, cell, g1, g2⟩ := h1
    exact ⟨r, h3, cell, by rw [h2]; exact g1, g2⟩
theorem lw_Plt {D : va_G} {cl : List vw_C} {ws : va_W} {H : Heap} (hP : va_P D cl ws H) {i : Nat} {q : Nat × va_E} (hq : ws[i]? = some q) : q.1 < H.size := by
  have h1 := hP i q hq
  obtain ⟨a, x⟩ := q
  cases x with
  | inl u => exact (Array.getElem?_eq_some_iff.mp h1).1
  | inr o =>
    obtain ⟨r, h3, cell, g1, g2⟩ := h1
    exact (Array.getElem?_eq_some_iff.mp g1).1
theorem am_Wi {cT : Nat → ClassId} {ad : Int → Nat} {G : List am_K} {h : am_H} {i : Nat} {q : Nat × va_E} (hq : (am_W cT ad G h)[i]? = some q) : i < G.length ∧ q.1 = ad i := by
  unfold am_W at hq
  rw [List.getElem?_mapIdx] at hq
  cases hg : G[i]? with
  | none => rw [hg] at hq; simp at hq
  | some k =>
    rw [hg] at hq
    have : q = _ := (Option.some.inj hq).symm
    rw [this]
    exact ⟨(List.getElem?_eq_some_iff.mp hg).1, rfl⟩
theorem lw_D {A : Nat → Prop} {cT : Nat → ClassId} {ad : Int → Nat} {G : List am_K} {h : am_H} (h1 : ∀ i j : Nat, i < G.length → j < G.length → ad i = ad j → i = j) (h2 : ∀ i : Nat, i < G.length → A (ad i)) : va_D A (am_W cT ad G h) := by
  refine ⟨fun i j p q hp hq e => ?_, fun i q hq => ?_⟩
  · obtain ⟨a1, a2⟩ := am_Wi hp
    obtain ⟨b1, b2⟩ := am_Wi hq
    exact h1 i j a1 b1 (by rw [← a2, ← b2]; exact e)
  · obtain ⟨a1, a2⟩ := am_Wi hq
    rw [a2]; exact h2 i a1
theorem lw_callW {G : List am_K} {M' : am_M} {d' n idx ci : Nat} {as : List am_V} {Q' : Option am_V → am_H → Prop} {fts : List (Nat × Int)} {TT : u_T} {N : Nat} {p : Program} {l : Launch} {e : Env} {s : State} {m : MethodId} {args : Array Value} {below : List Frame} {meth : Method} {c : Code} {H : Heap} {locs : List Loc} {dC : Nat → ClassId} {dI : Nat → Nat → Nat} {cT : Nat → ClassId} {ad : Int → Nat} {h : am_H} {pc : Nat} {lsC : Array Slot} {rest : List Value} {Z : State → Prop} {stk : List Value}
    (hx : p.tables.exec = Jvm.exec) (hb : c.code = code) (hml : c.maxLocals = 4) (hown : s.vm.findClass RL = some m.cls) (hts : ∀ w ∈ am_tb, w.before args s = true) (hK : va_K (dC, dI) vwCl (am_tys cT) s) (hP : va_P (dC, dI) vwCl (am_W cT ad G h) H) (hD : va_D (fun q : Nat => s.heap.size ≤ q) (am_W cT ad G h)) (hS : va_S (fun q : Nat => s.heap.size ≤ q) s.heap H locs)
    (hM : AMet G M' d' (am_R 0 :: as) h Q') (hl : am_LV RL idx M' n) (hd : decode code pc = .ok (.invokevirtual idx, 3)) (hdd : d' ≤ 100) (hn : as.length = n) (hk : am_kd G 0 = some (.inl (ci, fts))) (hci : vwCl[ci]? = some (M'.1, TT, N)) (hsz : lsC.size = 4) (hstk : stk = (as.map (am_cv ad)).reverse ++ .ref (ad 0) :: rest) (hw : (rest.map fun v => v.category).sum ≤ 8)
    (kk : ∀ (r : Option am_V) (h' : am_H) (H1 : Heap) (locs1 : List Loc), Q' r h' → va_P (dC, dI) vwCl (am_W cT ad G h') H1 → va_S (fun q : Nat => s.heap.size ≤ q) s.heap H1 locs1 → (∀ q : Nat, q < H.size → ¬ va_A (am_W cT ad G h) H.size q → H1[q]? = H[q]?) → W p l e room_1 s m args below meth c H1 locs1 600000 7302250 Z (F0 m (pc + 3) lsC ((r.map (am_cv ad)).toList ++ rest))) : W p l e room_1 s m args below meth c H locs 600000 7302250 Z (F0 m pc lsC stk) := by
  subst hstk
  obtain ⟨nb, hnb0, hnb⟩ := am_kd_n hk
  have hnb1 : nb = 0 := by omega
  subst hnb1
  obtain ⟨l1, l2, l3, l4, l5, l6, l7, l8, l9, l10⟩ := hl
  have hfree := am_free hD hS (fun q hq => hq)
  have hr := va_runV (p := p) (l := l) (e := e) (R := room_1) (s := s) (m := m) (args := args) (below := below) (meth := meth) (c := c) (H := H) (locs := locs) (cells := 600000) (slots := 7302250) (g := F0 m pc lsC ((as.map (am_cv ad)).reverse ++ .ref (ad 0) :: rest)) (b := ad 0) (As := as.map (am_cv ad)) (rest := rest) (C := M'.1) (n := n) (bytes := M'.2.2.1) (maxL := M'.2.2.2.1) (ret := M'.2.2.2.2) ⟨hx, hb, hml, hown, hts⟩ (hM l dC dI cT ad H.size)
    ⟨⟨rfl, rfl, (by show d' + 1 ≤ 2048; omega), (by show 8 + (M'.2.2.2.1 + 11) + 64 * d' ≤ 84000; omega), pay_in hts (fun w hw => by
        rcases List.mem_cons.mp hw with rfl | hw
        · exact am_good _ l5
        · exact am_good w hw), List.mem_cons_self, hts _ l5, hts _ (by rw [l6]; exact l4), ⟨l7, l8⟩, fun sig hsig => by rw [hsig] at l9; exact (Option.some.inj l9).symm, hts _ l1⟩, hts _ l2, hts _ l3⟩
    ⟨fun a U g mk q => by obtain ⟨q0, q1, qP, qK, qD⟩ := q; exact ⟨q0, q1, qP, va_K.moved (u := U) (U := U.calling g mk a) (Vm.Alike.refl U.vm) qK, qD⟩, va_recv hK hP hci (am_W_at hnb), fun U hU hW => ⟨rfl, by rw [hU], by rw [hU]; exact hP, va_K.moved hW.alike hK, hD.weaken (fun _ _ _ _ => trivial)⟩⟩
    rfl (by rw [List.length_map]; exact hn) hsz rfl (lv_room hw) hd ⟨Nat.le_refl _, Nat.le_refl _⟩
  intro T hT X
  obtain ⟨v, st₀, t, T', L, h0, X', hL, e1, e2, ⟨⟨r, h', hq, hv, hp, hk, hdd2⟩, hz, hkp⟩, stp⟩ := hr T hT X
  have hv' : v = r.map (am_cv ad) := by cases hv; rfl
  subst hv'
  rw [h0] at hz hkp
  obtain ⟨t2, a1, b1⟩ := kk r h' T'.heap (locs ++ L) hq (by rw [e1]; exact hp)
    ⟨Nat.le_trans hS.1 (by rw [e1]; exact hz), fun q h1 h2 => by rw [e1, hkp q (Nat.lt_of_lt_of_le h1 hS.1) (fun z => h2 (hfree q z))]; exact hS.2.1 q h1 h2, fun q hq => by
      rcases List.mem_append.mp hq with h | h
      · exact hS.2.2 q h
      · exact hfree _ (hL q h)⟩ (fun q a b => by rw [e1]; exact hkp q a b) T' rfl X'
  exact ⟨t2, stp t2 a1, b1⟩
section LAWCALLS
variable {k : lc_T} {pc : Nat} {ls : List (Option am_V)} {st : List am_V} {h g : am_H}
theorem lr_iinc {n a : Int} {x0 x1 x2 : Option am_V} (ok : lc_ok k) (hd : decode code pc = .ok (.iinc 3 n, 3)) (hn : am_nl [x0, x1, x2, some (am_I a)] 3 = true) (kk : LW k (pc + 3) [x0, x1, x2, some (am_I (a + n))] st h g) : LW k pc [x0, x1, x2, some (am_I a)] st h g := by
  obtain ⟨p, l, e, s, m, below, meth, c, b, L, xs, dC, dI, cT, ad, ad2⟩ := k
  obtain ⟨C, ok⟩ := ok
  intro H locs lsC hP1 hP2 hS hL
  obtain ⟨kx, hkx⟩ := List.getElem?_of_mem (am_al_mem (ad := lw_ad ad ad2 b) (ls := [x0, x1, x2, some (am_I a)]).mpr ⟨3, _, rfl, rfl⟩)
  exact lv_iinc (v := Int32.ofInt (a + n)) C.1 C.2.1 hd (am_has hL) hkx (by rw [Int32.ofInt_add]) (by decide) rfl (fun lsC' hl => kk H locs lsC' hP1 hP2 hS (am_st1 (v := am_I (a + n)) hn hl))
theorem lr_callC {M' : am_M} {d' n idx : Nat} {as : List am_V} {Q' : Option am_V → am_H → Prop} {stk : List am_V} (ok : lc_ok k) (hM : AMet GC M' d' (am_R 0 :: as) h Q') (hl : am_LV RL idx M' n) (hd : decode code pc = .ok (.invokevirtual idx, 3)) (hdd : d' ≤ 100) (hn : as.length = n) (hMc : M'.1 = RX7) (hstk : stk = as.reverse ++ am_R 0 :: st) (has : ∀ a ∈ as, ∃ i : Int, a = am_I i) (hw : ∀ ad : Int → Nat, ((st.map (am_cv ad)).map fun v => v.category).sum ≤ 8)
    (kk : ∀ (r : Option am_V) (h' : am_H), Q' r h' → (∀ c : Int, r ≠ some (am_R c)) → LW k (pc + 3) ls (r.toList ++ st) h' g) (hnr : ∀ (r : Option am_V) (h' : am_H), Q' r h' → ∀ c : Int, r ≠ some (am_R c)) : LW k pc ls stk h g := by
  subst hstk
  obtain ⟨p, l, e, s, m, below, meth, c, b, L, xs, dC, dI, cT, ad, ad2⟩ := k
  obtain ⟨C, hL3, hK, o1, o2, o3, o4, o5⟩ := ok
  obtain ⟨hx, hb, hr, hml, hown, hts, hX, hbl, hlocks, hgv⟩ := C
  intro H locs lsC hP1 hP2 hS hL
  have eas : as.map (am_cv (lw_ad ad ad2 b)) = as.map (am_cv ad) := List.map_congr_left (fun a ha => by obtain ⟨i, rfl⟩ := has a ha; rfl)
  refine lw_callW (G := GC) (rest := st.map (am_cv (lw_ad ad ad2 b))) hx hb hml hown (fun w hw => hts w (am_tbl w hw)) hK hP1 (lw_D (fun i j a b c => o1 i j a b c) (fun i a => o2 i a)) hS hM hl hd hdd hn (ci := 6) rfl (by rw [hMc]; rfl) hL.1 (by rw [List.map_append, List.map_reverse, eas, List.map_cons]; rfl) (hw _) (fun r h' H1 locs1 hq hP' hS' hk' => ?_)
  have hP2' := lw_Pk hP2 (fun i q hq2 => by
    obtain ⟨a1, a2⟩ := am_Wi hq2
    refine hk' q.1 (lw_Plt hP2 hq2) ?_
    rintro (⟨j, e, hj⟩ | z)
    · obtain ⟨b1, b2⟩ := am_Wi hj
      exact o5 j i b1 a1 (by rw [← a2]; exact b2.symm)
    · have := lw_Plt hP2 hq2; omega)
  have K := kk r h' hq (hnr r h' hq) H1 locs1 lsC hP' hP2' hS' hL
  cases r with
  | none => exact K
  | some v =>
    have ev : am_cv (lw_ad ad ad2 b) v = am_cv ad v := by
      cases v with
      | inl i => rfl
      | inr z =>
        cases z with
        | inl j => rfl
        | inr c => exact absurd rfl (hnr _ h' hq c)
    rw [show ((some v).toList ++ st).map (am_cv (lw_ad ad ad2 b)) = am_cv (lw_ad ad ad2 b) v :: st.map (am_cv (lw_ad ad ad2 b)) from rfl, ev] at K
    exact K
theorem lr_callM {M' : am_M} {d' n idx : Nat} {as : List am_V} {Q' : Option am_V → am_H → Prop} {stk : List am_V} (ok : lc_ok k) (hM : AMet GM M' d' (am_R 0 :: as) g Q') (hl : am_LV RL idx M' n) (hd : decode code pc = .ok (.invokevirtual idx, 3)) (hdd : d' ≤ 100) (hn : as.length = n) (hMc : M'.1 = RX8) (hstk : stk = as.reverse ++ am_R 1 :: st) (has : ∀ a ∈ as, ∃ i : Int, a = am_I i) (hw : ∀ ad : Int → Nat, ((st.map (am_cv ad)).map fun v => v.category).sum ≤ 8)
    (kk : ∀ (r : Option am_V) (h' : am_H), Q' r h' → (∀ c : Int, r ≠ some (am_R c)) → LW k (pc + 3) ls (r.toList ++ st) h h') (hnr : ∀ (r : Option am_V) (h' : am_H), Q' r h' → ∀ c : Int, r ≠ some (am_R c)) : LW k pc ls stk h g := by
  subst hstk
  obtain ⟨p, l, e, s, m, below, meth, c, b, L, xs, dC, dI, cT, ad, ad2⟩ := k
  obtain ⟨C, hL3, hK, o1, o2, o3, o4, o5⟩ := ok
  obtain ⟨hx, hb, hr, hml, hown, hts, hX, hbl, hlocks, hgv⟩ := C
  intro H locs lsC hP1 hP2 hS hL
  have eas : as.map (am_cv (lw_ad ad ad2 b)) = as.map (am_cv ad2) := List.map_congr_left (fun a ha => by obtain ⟨i, rfl⟩ := has a ha; rfl)
  refine lw_callW (G := GM) (rest := st.map (am_cv (lw_ad ad ad2 b))) hx hb hml hown (fun w hw => hts w (am_tbl w hw)) hK hP2 (lw_D (fun i j a b c => o3 i j a b c) (fun i a => o4 i a)) hS hM hl hd hdd hn (ci := 7) rfl (by rw [hMc]; rfl) hL.1 (by rw [List.map_append, List.map_reverse, eas, List.map_cons]; rfl) (hw _) (fun r h' H1 locs1 hq hP' hS' hk' => ?_)
  have hP1' := lw_Pk hP1 (fun i q hq2 => by
    obtain ⟨a1, a2⟩ := am_Wi hq2
    refine hk' q.1 (lw_Plt hP1 hq2) ?_
    rintro (⟨j, e, hj⟩ | z)
    · obtain ⟨b1, b2⟩ := am_Wi hj
      exact o5 i j a1 b1 (by rw [← a2]; exact b2)
    · have := lw_Plt hP1 hq2; omega)
  have K := kk r h' hq (hnr r h' hq) H1 locs1 lsC hP1' hP' hS' hL
  cases r with
  | none => exact K
  | some v =>
    have ev : am_cv (lw_ad ad ad2 b) v = am_cv ad2 v := by
      cases v with
      | inl i => rfl
      | inr z =>
        cases z with
        | inl j => rfl
        | inr c => exact absurd rfl (hnr _ h' hq c)
    rw [show ((some v).toList ++ st).map (am_cv (lw_ad ad ad2 b)) = am_cv (lw_ad ad ad2 b) v :: st.map (am_cv (lw_ad ad ad2 b)) from rfl, ev] at K
    exact K
end LAWCALLS
