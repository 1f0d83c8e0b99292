def w6c (cT : Nat → ClassId) (h0 : Nat) (a : Nat → Nat) : va_W := [(h0, .inr (5, [.ref (a 1), .ref (a 2), .int (-1), .int 0])), ((a 1), .inl (cT 0, (8, .inl (fun _ => 0)))), ((a 2), .inl (cT 0, (8, .inl (fun _ => 0))))]
def w7k (cT : Nat → ClassId) (q : Nat) (F : Nat → Option Nat) : Nat × va_E := (q, .inl (cT 6, (3, .inr (.inr (.inr (.inr F))))))
section N7
variable {p : Program} {l : Launch} {e : Env} {R : Room} {s : State} {m : MethodId} {args : Array Value} {below : List Frame} {meth : Method} {c : Code} {H : Heap} {locs : List Loc} {cells slots : Nat} {Q : State → Prop} {ls : Array Slot} {dC : Nat → ClassId} {dI : Nat → Nat → Nat} {cT : Nat → ClassId} {A : Nat → Prop}
theorem n7_step {P B : va_W} {F : Nat → Option Nat} {h0 q12 n : Nat} {fs : List Value} {iv iv' : Int32} (hn : iv.toNatClampNeg = n) (hv : vp_in iv 3) (hi : iv + Int32.ofInt 1 = iv') (hx : p.tables.exec = Jvm.exec) (hb : c.code = cX7_init) (hml : c.maxLocals = 2) (hown : s.vm.findClass RX7 = some m.cls) (hts : ∀ w ∈ am_tb, w.before args s = true) (hK : va_K (dC, dI) vwCl (am_tys cT) s) (hO : nc_ov s) (hN : nc_ne s) (hA : ∀ q, s.heap.size ≤ q → A q)
    (hPl : P.length = 71) (hP0 : P[0]? = some (h0, .inr (6, fs))) (hf : fs[11]? = some (.ref q12)) (hR : cells + 3 ≤ R.cells ∧ slots + 20 ≤ R.slots ∧ 2 ≤ R.frames ∧ 200 ≤ R.locals)
    (hP : va_P (dC, dI) vwCl (P ++ (w7k cT q12 F :: B)) H) (hD : va_D A (P ++ (w7k cT q12 F :: B))) (hS : va_S A s.heap H locs) (hl : lv_has ls 2 [(1, .int iv), (0, .ref h0)])
    (kk : ∀ (q : Nat) (a : Nat → Nat) (H : Heap) (locs : List Loc) (ls : Array Slot), va_P (dC, dI) vwCl (P ++ (w7k cT q12 (va_up F n (some q)) :: (B ++ w6c cT q a))) H → va_D A (P ++ (w7k cT q12 (va_up F n (some q)) :: (B ++ w6c cT q a))) → va_S A s.heap H locs → lv_has ls 2 [(1, .int iv'), (0, .ref h0)] → W p l e R s m args below meth c H locs (cells + 1 + 2) (slots + 4 + 16) Q (F0 m 178 ls [])) : W p l e R s m args below meth c H locs cells slots Q (F0 m 183 ls []) := by
  subst hn
  refine lv_aload_n hx hb dX7_init_183 rfl (lv_at hl 1 rfl) ?_
  refine va_get (D := (dC, dI)) (ci := 6) (v := .ref q12) (C := RX7) (T := TX7) (N := 17) hx hb hts inX_X7 hown hK hP 0 (by rw [List.getElem?_append_left (by omega)]; exact hP0) rfl 11 (by decide) (hts _ (am_m2 38 rfl)) (fun _ h9 => h9) hf dX7_init_184 ?_
  refine lv_iload_n hx hb dX7_init_187 rfl (lv_at hl 0 rfl) ?_
  refine va_new (D := (dC, dI)) (ci := 5) (C := RX6) (T := TX6) (N := 4) (fs := [.null, .null, .int 0, .int 0]) hx hb hts inX_X6 tyX6 tyX6_ok hown (hts _ (am_m2 1 rfl)) (hts _ (am_m2 2 rfl)) (hts _ (am_m1 7 rfl)) hK hP hD hS hA rfl df_X6 (by omega) (by omega) dX7_init_188 (fun q H hP hD hS => ?_)
  refine lv_dup hx hb dX7_init_191 rfl ?_
  refine nc_ctorN (M' := mX6_init) (n := 0) (As := []) (rest := [.ref q, .int iv, .ref q12]) hx hb hml hown hts hK hO hP hD hS hA (cn_X6 l dC dI cT q H.size) hN.2 li_X7_70 ⟨rfl, rfl, hR.2.2.1, Nat.le_trans (by decide) hR.2.2.2⟩ rfl hl.1 (Nat.le_of_ble_eq_true rfl) dX7_init_192 ⟨by omega, by omega⟩ rfl (fun w1 H locs hw hP hD hS _ => ?_)
  obtain ⟨a, rfl⟩ := hw
  rw [List.append_assoc, List.cons_append] at hP hD
  refine va_astq hx hb hK hP hD hS 71 6 (72 + B.length) 5 (f := F) (by rw [List.getElem?_append_right (by omega), hPl]; rfl) rfl (v := q) (vs := [.ref (a 1), .ref (a 2), .int 0, .int 0]) (by rw [List.getElem?_append_right (by omega), hPl, show 72 + B.length - 71 = B.length + 1 by omega, List.getElem?_cons_succ, List.getElem?_append_right (Nat.le_refl _), Nat.sub_self]; rfl) rfl hv dX7_init_195 (fun H locs hP hD hS => ?_)
  have e1 : (P ++ (w7k cT q12 F :: (B ++ wX6 cT q a))).set 71 (w7k cT q12 (va_up F iv.toNatClampNeg (some q))) = P ++ (w7k cT q12 (va_up F iv.toNatClampNeg (some q)) :: (B ++ wX6 cT q a)) := by
    rw [List.set_append_right _ _ (by omega), hPl]
    rfl
  have hP : va_P (dC, dI) vwCl ((P ++ (w7k cT q12 F :: (B ++ wX6 cT q a))).set 71 (w7k cT q12 (va_up F iv.toNatClampNeg (some q)))) H := hP
  have hD : va_D A ((P ++ (w7k cT q12 F :: (B ++ wX6 cT q a))).set 71 (w7k cT q12 (va_up F iv.toNatClampNeg (some q)))) := hD
  rw [e1] at hP hD
  refine lv_aload_n hx hb dX7_init_196 rfl (lv_at hl 1 rfl) ?_
  refine va_get (D := (dC, dI)) (ci := 6) (v := .ref q12) (C := RX7) (T := TX7) (N := 17) hx hb hts inX_X7 hown hK hP 0 (by rw [List.getElem?_append_left (by omega)]; exact hP0) rfl 11 (by decide) (hts _ (am_m2 38 rfl)) (fun _ h9 => h9) hf dX7_init_197 ?_
  refine lv_iload_n hx hb dX7_init_200 rfl (lv_at hl 0 rfl) ?_
  refine va_aldq hx hb hK hP 71 6 (f := va_up F iv.toNatClampNeg (some q)) (by rw [List.getElem?_append_right (by omega), hPl]; rfl) rfl hv dX7_init_201 ?_
  refine W.eq (g2 := F0 m 202 ls [.ref q]) (by rw [va_up_self]; rfl) ?_
  refine lv_iconst (v := -1) hx hb dX7_init_202 (by decide) ?_
  refine va_put (D := (dC, dI)) (ci := 5) (v := .int (-1)) (ty := .int) (C := RX6) (T := TX6) (N := 4) (fs := [.ref (a 1), .ref (a 2), .int 0, .int 0]) hx hb hts inX_X6 tyX6 tyX6_ok nmX6 hown hK hP hD hS (72 + B.length) (by rw [List.getElem?_append_right (by omega), hPl, show 72 + B.length - 71 = B.length + 1 by omega, List.getElem?_cons_succ, List.getElem?_append_right (Nat.le_refl _), Nat.sub_self]; rfl) rfl 2 (by decide) (hts _ (am_m2 10 rfl)) (fun _ h9 => h9) rfl (by decide +kernel) rfl rfl (Nat.le_of_ble_eq_true rfl) dX7_init_203 (fun H locs hP hD hS => ?_)
  have e2 : (P ++ (w7k cT q12 (va_up F iv.toNatClampNeg (some q)) :: (B ++ wX6 cT q a))).set (72 + B.length) (q, .inr (5, [.ref (a 1), .ref (a 2), .int (-1), .int 0])) = P ++ (w7k cT q12 (va_up F iv.toNatClampNeg (some q)) :: (B ++ w6c cT q a)) := by
    rw [List.set_append_right _ _ (by omega), hPl, show 72 + B.length - 71 = B.length + 1 by omega, List.set_cons_succ, List.set_append_right _ _ (Nat.le_refl _), Nat.sub_self]
    rfl
  have hP : va_P (dC, dI) vwCl ((P ++ (w7k cT q12 (va_up F iv.toNatClampNeg (some q)) :: (B ++ wX6 cT q a))).set (72 + B.length) (q, .inr (5, [.ref (a 1), .ref (a 2), .int (-1), .int 0]))) H := hP
  have hD : va_D A ((P ++ (w7k cT q12 (va_up F iv.toNatClampNeg (some q)) :: (B ++ wX6 cT q a))).set (72 + B.length) (q, .inr (5, [.ref (a 1), .ref (a 2), .int (-1), .int 0]))) := hD
  rw [e2] at hP hD
  refine lv_iinc (v := iv') (lv' := [(1, .int iv'), (0, .ref h0)]) hx hb dX7_init_206 hl (k := 0) rfl hi (by decide) rfl (fun ls hl => ?_)
  refine lv_goto (tgt := 178) hx hb dX7_init_209 (by decide) ?_
  exact kk q a H _ ls hP hD hS hl
theorem n7_loop {P : va_W} {fnd : Nat × va_E} {h0 q12 : Nat} {fs : List Value} (hx : p.tables.exec = Jvm.exec) (hb : c.code = cX7_init) (hml : c.maxLocals = 2) (hown : s.vm.findClass RX7 = some m.cls) (hts : ∀ w ∈ am_tb, w.before args s = true) (hK : va_K (dC, dI) vwCl (am_tys cT) s) (hO : nc_ov s) (hN : nc_ne s) (hA : ∀ q, s.heap.size ≤ q → A q)
    (hPl : P.length = 71) (hP0 : P[0]? = some (h0, .inr (6, fs))) (hf : fs[11]? = some (.ref q12)) (hR : cells + 9 ≤ R.cells ∧ slots + 60 ≤ R.slots ∧ 2 ≤ R.frames ∧ 200 ≤ R.locals)
    (hP : va_P (dC, dI) vwCl (P ++ [w7k cT q12 (fun _ => none), fnd]) H) (hD : va_D A (P ++ [w7k cT q12 (fun _ => none), fnd])) (hS : va_S A s.heap H locs) (hl : lv_has ls 2 [(1, .int 0), (0, .ref h0)])
    (kk : ∀ (q14 q15 q16 : Nat) (a14 a15 a16 : Nat → Nat) (H : Heap) (locs : List Loc) (ls : Array Slot), va_P (dC, dI) vwCl (P ++ (w7k cT q12 (va_up (va_up (va_up (fun _ => none) 0 (some q14)) 1 (some q15)) 2 (some q16)) :: ((([fnd] ++ w6c cT q14 a14) ++ w6c cT q15 a15) ++ w6c cT q16 a16))) H → va_D A (P ++ (w7k cT q12 (va_up (va_up (va_up (fun _ => none) 0 (some q14)) 1 (some q15)) 2 (some q16)) :: ((([fnd] ++ w6c cT q14 a14) ++ w6c cT q15 a15) ++ w6c cT q16 a16))) → va_S A s.heap H locs → W p l e R s m args below meth c H locs (cells + 9) (slots + 60) Q (F0 m 212 ls [])) : W p l e R s m args below meth c H locs cells slots Q (F0 m 178 ls []) := by
  refine lv_iload_n hx hb dX7_init_178 rfl (lv_at hl 0 rfl) ?_
  refine lv_iconst (v := 3) hx hb dX7_init_179 (by decide) ?_
  refine lv_icmp_ge (tgt := 212) hx hb dX7_init_180 (by decide) (fun z => absurd z (by decide)) (fun _ => ?_)
  refine n7_step (n := 0) (iv' := 1) (by decide) (nc_in6 (by decide)) (by decide) hx hb hml hown hts hK hO hN hA hPl hP0 hf ⟨by omega, by omega, hR.2.2.1, hR.2.2.2⟩ hP hD hS hl (fun q14 a14 H locs ls hP hD hS hl => ?_)
  refine lv_iload_n hx hb dX7_init_178 rfl (lv_at hl 0 rfl) ?_
  refine lv_iconst (v := 3) hx hb dX7_init_179 (by decide) ?_
  refine lv_icmp_ge (tgt := 212) hx hb dX7_init_180 (by decide) (fun z => absurd z (by decide)) (fun _ => ?_)
  refine n7_step (n := 1) (iv' := 2) (by decide) (nc_in6 (by decide)) (by decide) hx hb hml hown hts hK hO hN hA hPl hP0 hf ⟨by omega, by omega, hR.2.2.1, hR.2.2.2⟩ hP hD hS hl (fun q15 a15 H locs ls hP hD hS hl => ?_)
  refine lv_iload_n hx hb dX7_init_178 rfl (lv_at hl 0 rfl) ?_
  refine lv_iconst (v := 3) hx hb dX7_init_179 (by decide) ?_
  refine lv_icmp_ge (tgt := 212) hx hb dX7_init_180 (by decide) (fun z => absurd z (by decide)) (fun _ => ?_)
  refine n7_step (n := 2) (iv' := 3) (by decide) (nc_in6 (by decide)) (by decide) hx hb hml hown hts hK hO hN hA hPl hP0 hf ⟨by omega, by omega, hR.2.2.1, hR.2.2.2⟩ hP hD hS hl (fun q16 a16 H locs ls hP hD hS hl => ?_)
  refine lv_iload_n hx hb dX7_init_178 rfl (lv_at hl 0 rfl) ?_
  refine lv_iconst (v := 3) hx hb dX7_init_179 (by decide) ?_
  refine lv_icmp_ge (tgt := 212) hx hb dX7_init_180 (by decide) (fun _ => ?_) (fun z => absurd (by decide) z)
  exact kk q14 q15 q16 a14 a15 a16 H locs ls hP hD hS
end N7
