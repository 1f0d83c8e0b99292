def wX6 (cT : Nat → ClassId) (h0 : Nat) (a : Nat → Nat) : va_W := [(h0, .inr (5, [.ref (a 1), .ref (a 2), .int 0, .int 0])), ((a 1), .inl (cT 0, (8, .inl (fun _ => 0)))), ((a 2), .inl (cT 0, (8, .inl (fun _ => 0))))]
set_option maxRecDepth 100000 in
theorem cn_X6 (l : Launch) (dC : Nat → ClassId) (dI : Nat → Nat → Nat) (cT : Nat → ClassId) (h0 : Nat) (sz : Nat) : Met l yX6_init (am_ws mX6_init) ({ frames := 1, cells := 2, slots := 16, locals := 64 }) (va_Pc [.ref h0] (nc_B dC dI cT [(h0, .inr (5, [.null, .null, .int 0, .int 0]))] sz)) (nc_Q dC dI cT (va_A [(h0, .inr (5, [.null, .null, .int 0, .int 0]))] sz) (fun w => ∃ a : Nat → Nat, w = wX6 cT h0 a)) 2 16 (va_A [(h0, .inr (5, [.null, .null, .int 0, .int 0]))] sz) := by
  refine Met.ofW (cc := cX6_init) (maxL := 1) (ret := none) (by decide) rfl ?_
  intro p e s m args below meth c s₁ B hml hv
  obtain ⟨rfl, hsz, hP, hK, hD0, hO⟩ := hv
  have hx := B.exec
  have hb := B.bytes
  have hr := B.returns
  have hts0 := atoms_spec (ws := am_ws mX6_init) B.pre
  have hts : ∀ w ∈ am_tb, w.before [.ref h0].toArray s = true := fun w hw => hts0 w (List.mem_cons_of_mem _ hw)
  have hown : s.vm.findClass RX6 = some m.cls := findClass_of_methodNamed B.named
  have hlocks := B.notSynchronized
  have hin : meth.name = "<init>" := (name_of_methodNamed B.named B.method).1
  subst hsz
  have hD := hD0.self (sz := s.heap.size)
  generalize hAe : va_A [(h0, .inr (5, [.null, .null, .int 0, .int 0]))] s.heap.size = A at hD ⊢
  have hA : ∀ q : Nat, s.heap.size ≤ q → A q := fun q h => by rw [← hAe]; exact Or.inr h
  have hS : va_S A s.heap s.heap [] := va_S.rf
  have hP : va_P (dC, dI) vwCl [(h0, .inr (5, [.null, .null, .int 0, .int 0]))] s.heap := hP
  have hl := lv_entry ([.ref h0]) (n := 1) (Nat.le_of_ble_eq_true rfl)
  rw [lg_entry_eq]
  generalize (lg_sl ([.ref h0]) ++ List.replicate (1 - (lg_sl ([.ref h0])).length) Slot.unset).toArray = ls at hl ⊢
  have hl : lv_has ls 1 [(0, .ref h0)] := hl
  refine lv_aload_n hx hb dX6_init_0 rfl (lv_at hl 0 rfl) ?_
  refine W.objInit hx hb hown (hts _ (am_m2 6 rfl)) (hts _ (am_m1 20 rfl)) (hts _ (am_m1 21 rfl)) rfl (by rw [hml]; exact hl.1) rfl dX6_init_1 (Nat.le_of_ble_eq_true rfl) (Nat.le_of_ble_eq_true rfl) ?_
  refine W.eq (g2 := F0 m 4 ls []) rfl ?_
  refine lv_aload_n hx hb dX6_init_4 rfl (lv_at hl 0 rfl) ?_
  refine lv_bipush (v := 8) hx hb dX6_init_5 (by decide) ?_
  refine nc_newa (t := 0) (ty := .int) (N' := 8) (a0 := (8, .inl (fun _ => 0))) hx hb (hts _ (am_m1 108 rfl)) rfl hK rfl (fun a b x y => Option.some.inj (x.symm.trans y)) hP hD hS hA (fun _ => rfl) (by decide) (by decide) (by decide) (Nat.le_of_ble_eq_true rfl) (Nat.le_of_ble_eq_true rfl) dX6_init_7 (fun q1 H hP hD hS => ?_)
  have hP : va_P (dC, dI) vwCl [(h0, .inr (5, [.null, .null, .int 0, .int 0])), (q1, .inl (cT 0, (8, .inl (fun _ => 0))))] H := hP
  have hD : va_D A [(h0, .inr (5, [.null, .null, .int 0, .int 0])), (q1, .inl (cT 0, (8, .inl (fun _ => 0))))] := hD
  refine va_putF (D := (dC, dI)) (ci := 5) (v := .ref q1) (ty := .array .int) (C := RX6) (T := TX6) (N := 4) hx hb hts inX_X6 tyX6 tyX6_ok nmX6 hown hK hP hD hS 0 rfl rfl 0 (by decide) (hts _ (am_m2 7 rfl)) (fun _ h9 => h9) rfl hin rfl (by decide +kernel) rfl rfl (Nat.le_of_ble_eq_true rfl) dX6_init_9 (fun H locs hP hD hS => ?_)
  have hP : va_P (dC, dI) vwCl [(h0, .inr (5, [.ref q1, .null, .int 0, .int 0])), (q1, .inl (cT 0, (8, .inl (fun _ => 0))))] H := hP
  have hD : va_D A [(h0, .inr (5, [.ref q1, .null, .int 0, .int 0])), (q1, .inl (cT 0, (8, .inl (fun _ => 0))))] := hD
  refine lv_aload_n hx hb dX6_init_12 rfl (lv_at hl 0 rfl) ?_
  refine lv_bipush (v := 8) hx hb dX6_init_13 (by decide) ?_
  refine nc_newa (t := 0) (ty := .int) (N' := 8) (a0 := (8, .inl (fun _ => 0))) hx hb (hts _ (am_m1 108 rfl)) rfl hK rfl (fun a b x y => Option.some.inj (x.symm.trans y)) hP hD hS hA (fun _ => rfl) (by decide) (by decide) (by decide) (Nat.le_of_ble_eq_true rfl) (Nat.le_of_ble_eq_true rfl) dX6_init_15 (fun q2 H hP hD hS => ?_)
  have hP : va_P (dC, dI) vwCl [(h0, .inr (5, [.ref q1, .null, .int 0, .int 0])), (q1, .inl (cT 0, (8, .inl (fun _ => 0)))), (q2, .inl (cT 0, (8, .inl (fun _ => 0))))] H := hP
  have hD : va_D A [(h0, .inr (5, [.ref q1, .null, .int 0, .int 0])), (q1, .inl (cT 0, (8, .inl (fun _ => 0)))), (q2, .inl (cT 0, (8, .inl (fun _ => 0))))] := hD
  refine va_putF (D := (dC, dI)) (ci := 5) (v := .ref q2) (ty := .array .int) (C := RX6) (T := TX6) (N := 4) hx hb hts inX_X6 tyX6 tyX6_ok nmX6 hown hK hP hD hS 0 rfl rfl 1 (by decide) (hts _ (am_m2 9 rfl)) (fun _ h9 => h9) rfl hin rfl (by decide +kernel) rfl rfl (Nat.le_of_ble_eq_true rfl) dX6_init_17 (fun H locs hP hD hS => ?_)
  have hP : va_P (dC, dI) vwCl [(h0, .inr (5, [.ref q1, .ref q2, .int 0, .int 0])), (q1, .inl (cT 0, (8, .inl (fun _ => 0)))), (q2, .inl (cT 0, (8, .inl (fun _ => 0))))] H := hP
  have hD : va_D A [(h0, .inr (5, [.ref q1, .ref q2, .int 0, .int 0])), (q1, .inl (cT 0, (8, .inl (fun _ => 0)))), (q2, .inl (cT 0, (8, .inl (fun _ => 0))))] := hD
  refine W.widen (k := 2) (n := 16) (by decide) (by decide) ?_
  exact W.vret hx hb hr (fun t ht hW => ⟨⟨rfl, wX6 cT h0 (fun i => [0, q1, q2].getD i 0), ⟨_, rfl⟩, by rw [ht]; exact hP, va_K.moved hW.alike hK, hD⟩, hS.F ht⟩) hS.2.2 dX6_init_20
def wX5 (cT : Nat → ClassId) (h0 : Nat) (a : Nat → Nat) : va_W := [(h0, .inr (4, [.int 0, .int 0, .int 0, .ref (a 1), .ref (a 2), .ref (a 3), .ref (a 4), .ref (a 5), .ref (a 6), .ref (a 7), .ref (a 8), .ref (a 9), .ref (a 10), .ref (a 11)])), ((a 1), .inl (cT 0, (9, .inl (fun _ => 0)))), ((a 2), .inl (cT 0, (9, .inl (fun _ => 0)))), ((a 3), .inl (cT 0, (9, .inl (fun _ => 0)))), ((a 4), .inl (cT 0, (36, .inl (fun _ => 0)))), ((a 5), .inl (cT 0, (14, .inl (fun _ => 0)))), ((a 6), .inl (cT 0, (14, .inl (fun _ => 0)))), ((a 7), .inl (cT 0, (14, .inl (fun _ => 0)))), ((a 8), .inl (cT 0, (4, .inl (fun _ => 0)))), ((a 9), .inl (cT 0, (4, .inl (fun _ => 0)))), ((a 10), .inl (cT 0, (4, .inl (fun _ => 0)))), ((a 11), .inl (cT 0, (4, .inl (fun _ => 0))))]
set_option maxRecDepth 100000 in
theorem cn_X5 (l : Launch) (dC : Nat → ClassId) (dI : Nat → Nat → Nat) (cT : Nat → ClassId) (h0 : Nat) (sz : Nat) : Met l yX5_init (am_ws mX5_init) ({ frames := 1, cells := 11, slots := 121, locals := 64 }) (va_Pc [.ref h0] (nc_B dC dI cT [(h0, .inr (4, [.int 0, .int 0, .int 0, .null, .null, .null, .null, .null, .null, .null, .null, .null, .null, .null]))] sz)) (nc_Q dC dI cT (va_A [(h0, .inr (4, [.int 0, .int 0, .int 0, .null, .null, .null, .null, .null, .null, .null, .null, .null, .null, .null]))] sz) (fun w => ∃ a : Nat → Nat, w = wX5 cT h0 a)) 11 121 (va_A [(h0, .inr (4, [.int 0, .int 0, .int 0, .null, .null, .null, .null, .null, .null, .null, .null, .null, .null, .null]))] sz) := by
  refine Met.ofW (cc := cX5_init) (maxL := 1) (ret := none) (by decide) rfl ?_
  intro p e s m args below meth c s₁ B hml hv
  obtain ⟨rfl, hsz, hP, hK, hD0, hO⟩ := hv
  have hx := B.exec
  have hb := B.bytes
  have hr := B.returns
  have hts0 := atoms_spec (ws := am_ws mX5_init) B.pre
  have hts : ∀ w ∈ am_tb, w.before [.ref h0].toArray s = true := fun w hw => hts0 w (List.mem_cons_of_mem _ hw)
  have hown : s.vm.findClass RX5 = some m.cls := findClass_of_methodNamed B.named
  have hlocks := B.notSynchronized
  have hin : meth.name = "<init>" := (name_of_methodNamed B.named B.method).1
  subst hsz
  have hD := hD0.self (sz := s.heap.size)
  generalize hAe : va_A [(h0, .inr (4, [.int 0, .int 0, .int 0, .null, .null, .null, .null, .null, .null, .null, .null, .null, .null, .null]))] s.heap.size = A at hD ⊢
  have hA : ∀ q : Nat, s.heap.size ≤ q → A q := fun q h => by rw [← hAe]; exact Or.inr h
  have hS : va_S A s.heap s.heap [] := va_S.rf
  have hP : va_P (dC, dI) vwCl [(h0, .inr (4, [.int 0, .int 0, .int 0, .null, .null, .null, .null, .null, .null, .null, .null, .null, .null, .null]))] s.heap := hP
  have hl := lv_entry ([.ref h0]) (n := 1) (Nat.le_of_ble_eq_true rfl)
  rw [lg_entry_eq]
  generalize (lg_sl ([.ref h0]) ++ List.replicate (1 - (lg_sl ([.ref h0])).length) Slot.unset).toArray = ls at hl ⊢
  have hl : lv_has ls 1 [(0, .ref h0)] := hl
  refine lv_aload_n hx hb dX5_init_0 rfl (lv_at hl 0 rfl) ?_
  refine W.objInit hx hb hown (hts _ (am_m1 31 rfl)) (hts _ (am_m1 20 rfl)) (hts _ (am_m1 21 rfl)) rfl (by rw [hml]; exact hl.1) rfl dX5_init_1 (Nat.le_of_ble_eq_true rfl) (Nat.le_of_ble_eq_true rfl) ?_
  refine W.eq (g2 := F0 m 4 ls []) rfl ?_
  refine lv_aload_n hx hb dX5_init_4 rfl (lv_at hl 0 rfl) ?_
  refine lv_bipush (v := 9) hx hb dX5_init_5 (by decide) ?_
  refine nc_newa (t := 0) (ty := .int) (N' := 9) (a0 := (9, .inl (fun _ => 0))) hx hb (hts _ (am_m1 108 rfl)) rfl hK rfl (fun a b x y => Option.some.inj (x.symm.trans y)) hP hD hS hA (fun _ => rfl) (by decide) (by decide) (by decide) (Nat.le_of_ble_eq_true rfl) (Nat.le_of_ble_eq_true rfl) dX5_init_7 (fun q1 H hP hD hS => ?_)
  have hP : va_P (dC, dI) vwCl [(h0, .inr (4, [.int 0, .int 0, .int 0, .null, .null, .null, .null, .null, .null, .null, .null, .null, .null, .null])), (q1, .inl (cT 0, (9, .inl (fun _ => 0))))] H := hP
  have hD : va_D A [(h0, .inr (4, [.int 0, .int 0, .int 0, .null, .null, .null, .null, .null, .null, .null, .null, .null, .null, .null])), (q1, .inl (cT 0, (9, .inl (fun _ => 0))))] := hD
  refine va_putF (D := (dC, dI)) (ci := 4) (v := .ref q1) (ty := .array .int) (C := RX5) (T := TX5) (N := 14) hx hb hts inX_X5 tyX5 tyX5_ok nmX5 hown hK hP hD hS 0 rfl rfl 3 (by decide) (hts _ (am_m1 43 rfl)) (fun _ h9 => h9) rfl hin rfl (by decide +kernel) rfl rfl (Nat.le_of_ble_eq_true rfl) dX5_init_9 (fun H locs hP hD hS => ?_)
  have hP : va_P (dC, dI) vwCl [(h0, .inr (4, [.int 0, .int 0, .int 0, .ref q1, .null, .null, .null, .null, .null, .null, .null, .null, .null, .null])), (q1, .inl (cT 0, (9, .inl (fun _ => 0))))] H := hP
  have hD : va_D A [(h0, .inr (4, [.int 0, .int 0, .int 0, .ref q1, .null, .null, .null, .null, .null, .null, .null, .null, .null, .null])), (q1, .inl (cT 0, (9, .inl (fun _ => 0))))] := hD
  refine lv_aload_n hx hb dX5_init_12 rfl (lv_at hl 0 rfl) ?_
  refine lv_bipush (v := 9) hx hb dX5_init_13 (by decide) ?_
  refine nc_newa (t := 0) (ty := .int) (N' := 9) (a0 := (9, .inl (fun _ => 0))) hx hb (hts _ (am_m1 108 rfl)) rfl hK rfl (fun a b x y => Option.some.inj (x.symm.trans y)) hP hD hS hA (fun _ => rfl) (by decide) (by decide) (by decide) (Nat.le_of_ble_eq_true rfl) (Nat.le_of_ble_eq_true rfl) dX5_init_15 (fun q2 H hP hD hS => ?_)
  have hP : va_P (dC, dI) vwCl [(h0, .inr (4, [.int 0, .int 0, .int 0, .ref q1, .null, .null, .null, .null, .null, .null, .null, .null, .null, .null])), (q1, .inl (cT 0, (9, .inl (fun _ => 0)))), (q2, .inl (cT 0, (9, .inl (fun _ => 0))))] H := hP
  have hD : va_D A [(h0, .inr (4, [.int 0, .int 0, .int 0, .ref q1, .null, .null, .null, .null, .null, .null, .null, .null, .null, .null])), (q1, .inl (cT 0, (9, .inl (fun _ => 0)))), (q2, .inl (cT 0, (9, .inl (fun _ => 0))))] := hD
  refine va_putF (D := (dC, dI)) (ci := 4) (v := .ref q2) (ty := .array .int) (C := RX5) (T := TX5) (N := 14) hx hb hts inX_X5 tyX5 tyX5_ok nmX5 hown hK hP hD hS 0 rfl rfl 4 (by decide) (hts _ (am_m1 47 rfl)) (fun _ h9 => h9) rfl hin rfl (by decide +kernel) rfl rfl (Nat.le_of_ble_eq_true rfl) dX5_init_17 (fun H locs hP hD hS => ?_)
  have hP : va_P (dC, dI) vwCl [(h0, .inr (4, [.int 0, .int 0, .int 0, .ref q1, .ref q2, .null, .null, .null, .null, .null, .null, .null, .null, .null])), (q1, .inl (cT 0, (9, .inl (fun _ => 0)))), (q2, .inl (cT 0, (9, .inl (fun _ => 0))))] H := hP
  have hD : va_D A [(h0, .inr (4, [.int 0, .int 0, .int 0, .ref q1, .ref q2, .null, .null, .null, .null, .null, .null, .null, .null, .null])), (q1, .inl (cT 0, (9, .inl (fun _ => 0)))), (q2, .inl (cT 0, (9, .inl (fun _ => 0))))] := hD
  refine lv_aload_n hx hb dX5_init_20 rfl (lv_at hl 0 rfl) ?_
  refine lv_bipush (v := 9) hx hb dX5_init_21 (by decide) ?_
  refine nc_newa (t := 0) (ty := .int) (N' := 9) (a0 := (9, .inl (fun _ => 0))) hx hb (hts _ (am_m1 108 rfl)) rfl hK rfl (fun a b x y => Option.some.inj (x.symm.trans y)) hP hD hS hA (fun _ => rfl) (by decide) (by decide) (by decide) (Nat.le_of_ble_eq_true rfl) (Nat.le_of_ble_eq_true rfl) dX5_init_23 (fun q3 H hP hD hS => ?_)
  have hP : va_P (dC, dI) vwCl [(h0, .inr (4, [.int 0, .int 0, .int 0, .ref q1, .ref q2, .null, .null, .null, .null, .null, .null, .null, .null, .null])), (q1, .inl (cT 0, (9, .inl (fun _ => 0)))), (q2, .inl (cT 0, (9, .inl (fun _ => 0)))), (q3, .inl (cT 0, (9, .inl (fun _ => 0))))] H := hP
  have hD : va_D A [(h0, .inr (4, [.int 0, .int 0, .int 0, .ref q1, .ref q2, .null, .null, .null, .null, .null, .null, .null, .null, .null])), (q1, .inl (cT 0, (9, .inl (fun _ => 0)))), (q2, .inl (cT 0, (9, .inl (fun _ => 0)))), (q3, .inl (cT 0, (9, .inl (fun _ => 0))))] := hD
  refine va_putF (D := (dC, dI)) (ci := 4) (v := .ref q3) (ty := .array .int) (C := RX5) (T := TX5) (N := 14) hx hb hts inX_X5 tyX5 tyX5_ok nmX5 hown hK hP hD hS 0 rfl rfl 5 (by decide) (hts _ (am_m1 51 rfl)) (fun _ h9 => h9) rfl hin rfl (by decide +kernel) rfl rfl (Nat.le_of_ble_eq_true rfl) dX5_init_25 (fun H locs hP hD hS => ?_)
  have hP : va_P (dC, dI) vwCl [(h0, .inr (4, [.int 0, .int 0, .int 0, .ref q1, .ref q2, .ref q3, .null, .null, .null, .null, .null, .null, .null, .null])), (q1, .inl (cT 0, (9, .inl (fun _ => 0)))), (q2, .inl (cT 0, (9, .inl (fun _ => 0)))), (q3, .inl (cT 0, (9, .inl (fun _ => 0))))] H := hP
  have hD : va_D A [(h0, .inr (4, [.int 0, .int 0, .int 0, .ref q1, .ref q2, .ref q3, .null, .null, .null, .null, .null, .null, .null, .null])), (q1, .inl (cT 0, (9, .inl (fun _ => 0)))), (q2, .inl (cT 0, (9, .inl (fun _ => 0)))), (q3, .inl (cT 0, (9, .inl (fun _ => 0))))] := hD
  refine lv_aload_n hx hb dX5_init_28 rfl (lv_at hl 0 rfl) ?_
  refine lv_bipush (v := 36) hx hb dX5_init_29 (by decide) ?_
  refine nc_newa (t := 0) (ty := .int) (N' := 36) (a0 := (36, .inl (fun _ => 0))) hx hb (hts _ (am_m1 108 rfl)) rfl hK rfl (fun a b x y => Option.some.inj (x.symm.trans y)) hP hD hS hA (fun _ => rfl) (by decide) (by decide) (by decide) (Nat.le_of_ble_eq_true rfl) (Nat.le_of_ble_eq_true rfl) dX5_init_31 (fun q4 H hP hD hS => ?_)
  have hP : va_P (dC, dI) vwCl [(h0, .inr (4, [.int 0, .int 0, .int 0, .ref q1, .ref q2, .ref q3, .null, .null, .null, .null, .null, .null, .null, .null])), (q1, .inl (cT 0, (9, .inl (fun _ => 0)))), (q2, .inl (cT 0, (9, .inl (fun _ => 0)))), (q3, .inl (cT 0, (9, .inl (fun _ => 0)))), (q4, .inl (cT 0, (36, .inl (fun _ => 0))))] H := hP
  have hD : va_D A [(h0, .inr (4, [.int 0, .int 0, .int 0, .ref q1, .ref q2, .ref q3, .null, .null, .null, .null, .null, .null, .null, .null])), (q1, .inl (cT 0, (9, .inl (fun _ => 0)))), (q2, .inl (cT 0, (9, .inl (fun _ => 0)))), (q3, .inl (cT 0, (9, .inl (fun _ => 0)))), (q4, .inl (cT 0, (36, .inl (fun _ => 0))))] := hD
  refine va_putF (D := (dC, dI)) (ci := 4) (v := .ref q4) (ty := .array .int) (C := RX5) (T := TX5) (N := 14) hx hb hts inX_X5 tyX5 tyX5_ok nmX5 hown hK hP hD hS 0 rfl rfl 6 (by decide) (hts _ (am_m1 57 rfl)) (fun _ h9 => h9) rfl hin rfl (by decide +kernel) rfl rfl (Nat.le_of_ble_eq_true rfl) dX5_init_33 (fun H locs hP hD hS => ?_)
  have hP : va_P (dC, dI) vwCl [(h0, .inr (4, [.int 0, .int 0, .int 0, .ref q1, .ref q2, .ref q3, .ref q4, .null, .null, .null, .null, .null, .null, .null])), (q1, .inl (cT 0, (9, .inl (fun _ => 0)))), (q2, .inl (cT 0, (9, .inl (fun _ => 0)))), (q3, .inl (cT 0, (9, .inl (fun _ => 0)))), (q4, .inl (cT 0, (36, .inl (fun _ => 0))))] H := hP
  have hD : va_D A [(h0, .inr (4, [.int 0, .int 0, .int 0, .ref q1, .ref q2, .ref q3, .ref q4, .null, .null, .null, .null, .null, .null, .null])), (q1, .inl (cT 0, (9, .inl (fun _ => 0)))), (q2, .inl (cT 0, (9, .inl (fun _ => 0)))), (q3, .inl (cT 0, (9, .inl (fun _ => 0)))), (q4, .inl (cT 0, (36, .inl (fun _ => 0))))] := hD
  refine lv_aload_n hx hb dX5_init_36 rfl (lv_at hl 0 rfl) ?_
  refine lv_bipush (v := 14) hx hb dX5_init_37 (by decide) ?_
  refine nc_newa (t := 0) (ty := .int) (N' := 14) (a0 := (14, .inl (fun _ => 0))) hx hb (hts _ (am_m1 108 rfl)) rfl hK rfl (fun a b x y => Option.some.inj (x.symm.trans y)) hP hD hS hA (fun _ => rfl) (by decide) (by decide) (by decide) (Nat.le_of_ble_eq_true rfl) (Nat.le_of_ble_eq_true rfl) dX5_init_39 (fun q5 H hP hD hS => ?_)
  have hP : va_P (dC, dI) vwCl [(h0, .inr (4, [.int 0, .int 0, .int 0, .ref q1, .ref q2, .ref q3, .ref q4, .null, .null, .null, .null, .null, .null, .null])), (q1, .inl (cT 0, (9, .inl (fun _ => 0)))), (q2, .inl (cT 0, (9, .inl (fun _ => 0)))), (q3, .inl (cT 0, (9, .inl (fun _ => 0)))), (q4, .inl (cT 0, (36, .inl (fun _ => 0)))), (q5, .inl (cT 0, (14, .inl (fun _ => 0))))] H := hP
  have hD : va_D A [(h0, .inr (4, [.int 0, .int 0, .int 0, .ref q1, .ref q2, .ref q3, .ref q4, .null, .null, .null, .null, .null, .null, .null])), (q1, .inl (cT 0, (9, .inl (fun _ => 0)))), (q2, .inl (cT 0, (9, .inl (fun _ => 0)))), (q3, .inl (cT 0, (9, .inl (fun _ => 0)))), (q4, .inl (cT 0, (36, .inl (fun _ => 0)))), (q5, .inl (cT 0, (14, .inl (fun _ => 0))))] := hD
  refine va_putF (D := (dC, dI)) (ci := 4) (v := .ref q5) (ty := .array .int) (C := RX5) (T := TX5) (N := 14) hx hb hts inX_X5 tyX5 tyX5_ok nmX5 hown hK hP hD hS 0 rfl rfl 7 (by decide) (hts _ (am_m1 58 rfl)) (fun _ h9 => h9) rfl hin rfl (by decide +kernel) rfl rfl (Nat.le_of_ble_eq_true rfl) dX5_init_41 (fun H locs hP hD hS => ?_)
  have hP : va_P (dC, dI) vwCl [(h0, .inr (4, [.int 0, .int 0, .int 0, .ref q1, .ref q2, .ref q3, .ref q4, .ref q5, .null, .null, .null, .null, .null, .null])), (q1, .inl (cT 0, (9, .inl (fun _ => 0)))), (q2, .inl (cT 0, (9, .inl (fun _ => 0)))), (q3, .inl (cT 0, (9, .inl (fun _ => 0)))), (q4, .inl (cT 0, (36, .inl (fun _ => 0)))), (q5, .inl (cT 0, (14, .inl (fun _ => 0))))] H := hP
  have hD : va_D A [(h0, .inr (4, [.int 0, .int 0, .int 0, .ref q1, .ref q2, .ref q3, .ref q4, .ref q5, .null, .null, .null, .null, .null, .null])), (q1, .inl (cT 0, (9, .inl (fun _ => 0)))), (q2, .inl (cT 0, (9, .inl (fun _ => 0)))), (q3, .inl (cT 0, (9, .inl (fun _ => 0)))), (q4, .inl (cT 0, (36, .inl (fun _ => 0)))), (q5, .inl (cT 0, (14, .inl (fun _ => 0))))] := hD
  refine lv_aload_n hx hb dX5_init_44 rfl (lv_at hl 0 rfl) ?_
  refine lv_bipush (v := 14) hx hb dX5_init_45 (by decide) ?_
  refine nc_newa (t := 0) (ty := .int) (N' := 14) (a0 := (14, .inl (fun _ => 0))) hx hb (hts _ (am_m1 108 rfl)) rfl hK rfl (fun a b x y => Option.some.inj (x.symm.trans y)) hP hD hS hA (fun _ => rfl) (by decide) (by decide) (by decide) (Nat.le_of_ble_eq_true rfl) (Nat.le_of_ble_eq_true rfl) dX5_init_47 (fun q6 H hP hD hS => ?_)
  have hP : va_P (dC, dI) vwCl [(h0, .inr (4, [.int 0, .int 0, .int 0, .ref q1, .ref q2, .ref q3, .ref q4, .ref q5, .null, .null, .null, .null, .null, .null])), (q1, .inl (cT 0, (9, .inl (fun _ => 0)))), (q2, .inl (cT 0, (9, .inl (fun _ => 0)))), (q3, .inl (cT 0, (9, .inl (fun _ => 0)))), (q4, .inl (cT 0, (36, .inl (fun _ => 0)))), (q5, .inl (cT 0, (14, .inl (fun _ => 0)))), (q6, .inl (cT 0, (14, .inl (fun _ => 0))))] H := hP
  have hD : va_D A [(h0, .inr (4, [.int 0, .int 0, .int 0, .ref q1, .ref q2, .ref q3, .ref q4, .ref q5, .null, .null, .null, .null, .null, .null])), (q1, .inl (cT 0, (9, .inl (fun _ => 0)))), (q2, .inl (cT 0, (9, .inl (fun _ => 0)))), (q3, .inl (cT 0, (9, .inl (fun _ => 0)))), (q4, .inl (cT 0, (36, .inl (fun _ => 0)))), (q5, .inl (cT 0, (14, .inl (fun _ => 0)))), (q6, .inl (cT 0, (14, .inl (fun _ => 0))))] := hD
  refine va_putF (D := (dC, dI)) (ci := 4) (v := .ref q6) (ty := .array .int) (C := RX5) (T := TX5) (N := 14) hx hb hts inX_X5 tyX5 tyX5_ok nmX5 hown hK hP hD hS 0 rfl rfl 8 (by decide) (hts _ (am_m1 62 rfl)) (fun _ h9 => h9) rfl hin rfl (by decide +kernel) rfl rfl (Nat.le_of_ble_eq_true rfl) dX5_init_49 (fun H locs hP hD hS => ?_)
  have hP : va_P (dC, dI) vwCl [(h0, .inr (4, [.int 0, .int 0, .int 0, .ref q1, .ref q2, .ref q3, .ref q4, .ref q5, .ref q6, .null, .null, .null, .null, .null])), (q1, .inl (cT 0, (9, .inl (fun _ => 0)))), (q2, .inl (cT 0, (9, .inl (fun _ => 0)))), (q3, .inl (cT 0, (9, .inl (fun _ => 0)))), (q4, .inl (cT 0, (36, .inl (fun _ => 0)))), (q5, .inl (cT 0, (14, .inl (fun _ => 0)))), (q6, .inl (cT 0, (14, .inl (fun _ => 0))))] H := hP
  have hD : va_D A [(h0, .inr (4, [.int 0, .int 0, .int 0, .ref q1, .ref q2, .ref q3, .ref q4, .ref q5, .ref q6, .null, .null, .null, .null, .null])), (q1, .inl (cT 0, (9, .inl (fun _ => 0)))), (q2, .inl (cT 0, (9, .inl (fun _ => 0)))), (q3, .inl (cT 0, (9, .inl (fun _ => 0)))), (q4, .inl (cT 0, (36, .inl (fun _ => 0)))), (q5, .inl (cT 0, (14, .inl (fun _ => 0)))), (q6, .inl (cT 0, (14, .inl (fun _ => 0))))] := hD
  refine lv_aload_n hx hb dX5_init_52 rfl (lv_at hl 0 rfl) ?_
  refine lv_bipush (v := 14) hx hb dX5_init_53 (by decide) ?_
  refine nc_newa (t := 0) (ty := .int) (N' := 14) (a0 := (14, .inl (fun _ => 0))) hx hb (hts _ (am_m1 108 rfl)) rfl hK rfl (fun a b x y => Option.some.inj (x.symm.trans y)) hP hD hS hA (fun _ => rfl) (by decide) (by decide) (by decide) (Nat.le_of_ble_eq_true rfl) (Nat.le_of_ble_eq_true rfl) dX5_init_55 (fun q7 H hP hD hS => ?_)
  have hP : va_P (dC, dI) vwCl [(h0, .inr (4, [.int 0, .int 0, .int 0, .ref q1, .ref q2, .ref q3, .ref q4, .ref q5, .ref q6, .null, .null, .null, .null, .null])), (q1, .inl (cT 0, (9, .inl (fun _ => 0)))), (q2, .inl (cT 0, (9, .inl (fun _ => 0)))), (q3, .inl (cT 0, (9, .inl (fun _ => 0)))), (q4, .inl (cT 0, (36, .inl (fun _ => 0)))), (q5, .inl (cT 0, (14, .inl (fun _ => 0)))), (q6, .inl (cT 0, (14, .inl (fun _ => 0)))), (q7, .inl (cT 0, (14, .inl (fun _ => 0))))] H := hP
  have hD : va_D A [(h0, .inr (4, [.int 0, .int 0, .int 0, .ref q1, .ref q2, .ref q3, .ref q4, .ref q5, .ref q6, .null, .null, .null, .null, .null])), (q1, .inl (cT 0, (9, .inl (fun _ => 0)))), (q2, .inl (cT 0, (9, .inl (fun _ => 0)))), (q3, .inl (cT 0, (9, .inl (fun _ => 0)))), (q4, .inl (cT 0, (36, .inl (fun _ => 0)))), (q5, .inl (cT 0, (14, .inl (fun _ => 0)))), (q6, .inl (cT 0, (14, .inl (fun _ => 0)))), (q7, .inl (cT 0, (14, .inl (fun _ => 0))))] := hD
  refine va_putF (D := (dC, dI)) (ci := 4) (v := .ref q7) (ty := .array .int) (C := RX5) (T := TX5) (N := 14) hx hb hts inX_X5 tyX5 tyX5_ok nmX5 hown hK hP hD hS 0 rfl rfl 9 (by decide) (hts _ (am_m1 67 rfl)) (fun _ h9 => h9) rfl hin rfl (by decide +kernel) rfl rfl (Nat.le_of_ble_eq_true rfl) dX5_init_57 (fun H locs hP hD hS => ?_)
  have hP : va_P (dC, dI) vwCl [(h0, .inr (4, [.int 0, .int 0, .int 0, .ref q1, .ref q2, .ref q3, .ref q4, .ref q5, .ref q6, .ref q7, .null, .null, .null, .null])), (q1, .inl (cT 0, (9, .inl (fun _ => 0)))), (q2, .inl (cT 0, (9, .inl (fun _ => 0)))), (q3, .inl (cT 0, (9, .inl (fun _ => 0)))), (q4, .inl (cT 0, (36, .inl (fun _ => 0)))), (q5, .inl (cT 0, (14, .inl (fun _ => 0)))), (q6, .inl (cT 0, (14, .inl (fun _ => 0)))), (q7, .inl (cT 0, (14, .inl (fun _ => 0))))] H := hP
  have hD : va_D A [(h0, .inr (4, [.int 0, .int 0, .int 0, .ref q1, .ref q2, .ref q3, .ref q4, .ref q5, .ref q6, .ref q7, .null, .null, .null, .null])), (q1, .inl (cT 0, (9, .inl (fun _ => 0)))), (q2, .inl (cT 0, (9, .inl (fun _ => 0)))), (q3, .inl (cT 0, (9, .inl (fun _ => 0)))), (q4, .inl (cT 0, (36, .inl (fun _ => 0)))), (q5, .inl (cT 0, (14, .inl (fun _ => 0)))), (q6, .inl (cT 0, (14, .inl (fun _ => 0)))), (q7, .inl (cT 0, (14, .inl (fun _ => 0))))] := hD
  refine lv_aload_n hx hb dX5_init_60 rfl (lv_at hl 0 rfl) ?_
  refine lv_iconst (v := 4) hx hb dX5_init_61 (by decide) ?_
  refine nc_newa (t := 0) (ty := .int) (N' := 4) (a0 := (4, .inl (fun _ => 0))) hx hb (hts _ (am_m1 108 rfl)) rfl hK rfl (fun a b x y => Option.some.inj (x.symm.trans y)) hP hD hS hA (fun _ => rfl) (by decide) (by decide) (by decide) (Nat.le_of_ble_eq_true rfl) (Nat.le_of_ble_eq_true rfl) dX5_init_62 (fun q8 H hP hD hS => ?_)
  have hP : va_P (dC, dI) vwCl [(h0, .inr (4, [.int 0, .int 0, .int 0, .ref q1, .ref q2, .ref q3, .ref q4, .ref q5, .ref q6, .ref q7, .null, .null, .null, .null])), (q1, .inl (cT 0, (9, .inl (fun _ => 0)))), (q2, .inl (cT 0, (9, .inl (fun _ => 0)))), (q3, .inl (cT 0, (9, .inl (fun _ => 0)))), (q4, .inl (cT 0, (36, .inl (fun _ => 0)))), (q5, .inl (cT 0, (14, .inl (fun _ => 0)))), (q6, .inl (cT 0, (14, .inl (fun _ => 0)))), (q7, .inl (cT 0, (14, .inl (fun _ => 0)))), (q8, .inl (cT 0, (4, .inl (fun _ => 0))))] H := hP
  have hD : va_D A [(h0, .inr (4, [.int 0, .int 0, .int 0, .ref q1, .ref q2, .ref q3, .ref q4, .ref q5, .ref q6, .ref q7, .null, .null, .null, .null])), (q1, .inl (cT 0, (9, .inl (fun _ => 0)))), (q2, .inl (cT 0, (9, .inl (fun _ => 0)))), (q3, .inl (cT 0, (9, .inl (fun _ => 0)))), (q4, .inl (cT 0, (36, .inl (fun _ => 0)))), (q5, .inl (cT 0, (14, .inl (fun _ => 0)))), (q6, .inl (cT 0, (14, .inl (fun _ => 0)))), (q7, .inl (cT 0, (14, .inl (fun _ => 0)))), (q8, .inl (cT 0, (4, .inl (fun _ => 0))))] := hD
  refine va_putF (D := (dC, dI)) (ci := 4) (v := .ref q8) (ty := .array .int) (C := RX5) (T := TX5) (N := 14) hx hb hts inX_X5 tyX5 tyX5_ok nmX5 hown hK hP hD hS 0 rfl rfl 10 (by decide) (hts _ (am_m1 70 rfl)) (fun _ h9 => h9) rfl hin rfl (by decide +kernel) rfl rfl (Nat.le_of_ble_eq_true rfl) dX5_init_64 (fun H locs hP hD hS => ?_)
  have hP : va_P (dC, dI) vwCl [(h0, .inr (4, [.int 0, .int 0, .int 0, .ref q1, .ref q2, .ref q3, .ref q4, .ref q5, .ref q6, .ref q7, .ref q8, .null, .null, .null])), (q1, .inl (cT 0, (9, .inl (fun _ => 0)))), (q2, .inl (cT 0, (9, .inl (fun _ => 0)))), (q3, .inl (cT 0, (9, .inl (fun _ => 0)))), (q4, .inl (cT 0, (36, .inl (fun _ => 0)))), (q5, .inl (cT 0, (14, .inl (fun _ => 0)))), (q6, .inl (cT 0, (14, .inl (fun _ => 0)))), (q7, .inl (cT 0, (14, .inl (fun _ => 0)))), (q8, .inl (cT 0, (4, .inl (fun _ => 0))))] H := hP
  have hD : va_D A [(h0, .inr (4, [.int 0, .int 0, .int 0, .ref q1, .ref q2, .ref q3, .ref q4, .ref q5, .ref q6, .ref q7, .ref q8, .null, .null, .null])), (q1, .inl (cT 0, (9, .inl (fun _ => 0)))), (q2, .inl (cT 0, (9, .inl (fun _ => 0)))), (q3, .inl (cT 0, (9, .inl (fun _ => 0)))), (q4, .inl (cT 0, (36, .inl (fun _ => 0)))), (q5, .inl (cT 0, (14, .inl (fun _ => 0)))), (q6, .inl (cT 0, (14, .inl (fun _ => 0)))), (q7, .inl (cT 0, (14, .inl (fun _ => 0)))), (q8, .inl (cT 0, (4, .inl (fun _ => 0))))] := hD
  refine lv_aload_n hx hb dX5_init_67 rfl (lv_at hl 0 rfl) ?_
  refine lv_iconst (v := 4) hx hb dX5_init_68 (by decide) ?_
  refine nc_newa (t := 0) (ty := .int) (N' := 4) (a0 := (4, .inl (fun _ => 0))) hx hb (hts _ (am_m1 108 rfl)) rfl hK rfl (fun a b x y => Option.some.inj (x.symm.trans y)) hP hD hS hA (fun _ => rfl) (by decide) (by decide) (by decide) (Nat.le_of_ble_eq_true rfl) (Nat.le_of_ble_eq_true rfl) dX5_init_69 (fun q9 H hP hD hS => ?_)
  have hP : va_P (dC, dI) vwCl [(h0, .inr (4, [.int 0, .int 0, .int 0, .ref q1, .ref q2, .ref q3, .ref q4, .ref q5, .ref q6, .ref q7, .ref q8, .null, .null, .null])), (q1, .inl (cT 0, (9, .inl (fun _ => 0)))), (q2, .inl (cT 0, (9, .inl (fun _ => 0)))), (q3, .inl (cT 0, (9, .inl (fun _ => 0)))), (q4, .inl (cT 0, (36, .inl (fun _ => 0)))), (q5, .inl (cT 0, (14, .inl (fun _ => 0)))), (q6, .inl (cT 0, (14, .inl (fun _ => 0)))), (q7, .inl (cT 0, (14, .inl (fun _ => 0)))), (q8, .inl (cT 0, (4, .inl (fun _ => 0)))), (q9, .inl (cT 0, (4, .inl (fun _ => 0))))] H := hP
  have hD : va_D A [(h0, .inr (4, [.int 0, .int 0, .int 0, .ref q1, .ref q2, .ref q3, .ref q4, .ref q5, .ref q6, .ref q7, .ref q8, .null, .null, .null])), (q1, .inl (cT 0, (9, .inl (fun _ => 0)))), (q2, .inl (cT 0, (9, .inl (fun _ => 0)))), (q3, .inl (cT 0, (9, .inl (fun _ => 0)))), (q4, .inl (cT 0, (36, .inl (fun _ => 0)))), (q5, .inl (cT 0, (14, .inl (fun _ => 0)))), (q6, .inl (cT 0, (14, .inl (fun _ => 0)))), (q7, .inl (cT 0, (14, .inl (fun _ => 0)))), (q8, .inl (cT 0, (4, .inl (fun _ => 0)))), (q9, .inl (cT 0, (4, .inl (fun _ => 0))))] := hD
  refine va_putF (D := (dC, dI)) (ci := 4) (v := .ref q9) (ty := .array .int) (C := RX5) (T := TX5) (N := 14) hx hb hts inX_X5 tyX5 tyX5_ok nmX5 hown hK hP hD hS 0 rfl rfl 11 (by decide) (hts _ (am_m1 73 rfl)) (fun _ h9 => h9) rfl hin rfl (by decide +kernel) rfl rfl (Nat.le_of_ble_eq_true rfl) dX5_init_71 (fun H locs hP hD hS => ?_)
  have hP : va_P (dC, dI) vwCl [(h0, .inr (4, [.int 0, .int 0, .int 0, .ref q1, .ref q2, .ref q3, .ref q4, .ref q5, .ref q6, .ref q7, .ref q8, .ref q9, .null, .null])), (q1, .inl (cT 0, (9, .inl (fun _ => 0)))), (q2, .inl (cT 0, (9, .inl (fun _ => 0)))), (q3, .inl (cT 0, (9, .inl (fun _ => 0)))), (q4, .inl (cT 0, (36, .inl (fun _ => 0)))), (q5, .inl (cT 0, (14, .inl (fun _ => 0)))), (q6, .inl (cT 0, (14, .inl (fun _ => 0)))), (q7, .inl (cT 0, (14, .inl (fun _ => 0)))), (q8, .inl (cT 0, (4, .inl (fun _ => 0)))), (q9, .inl (cT 0, (4, .inl (fun _ => 0))))] H := hP
  have hD : va_D A [(h0, .inr (4, [.int 0, .int 0, .int 0, .ref q1, .ref q2, .ref q3, .ref q4, .ref q5, .ref q6, .ref q7, .ref q8, .ref q9, .null, .null])), (q1, .inl (cT 0, (9, .inl (fun _ => 0)))), (q2, .inl (cT 0, (9, .inl (fun _ => 0)))), (q3, .inl (cT 0, (9, .inl (fun _ => 0)))), (q4, .inl (cT 0, (36, .inl (fun _ => 0)))), (q5, .inl (cT 0, (14, .inl (fun _ => 0)))), (q6, .inl (cT 0, (14, .inl (fun _ => 0)))), (q7, .inl (cT 0, (14, .inl (fun _ => 0)))), (q8, .inl (cT 0, (4, .inl (fun _ => 0)))), (q9, .inl (cT 0, (4, .inl (fun _ => 0))))] := hD
  refine lv_aload_n hx hb dX5_init_74 rfl (lv_at hl 0 rfl) ?_
  refine lv_iconst (v := 4) hx hb dX5_init_75 (by decide) ?_
  refine nc_newa (t := 0) (ty := .int) (N' := 4) (a0 := (4, .inl (fun _ => 0))) hx hb (hts _ (am_m1 108 rfl)) rfl hK rfl (fun a b x y => Option.some.inj (x.symm.trans y)) hP hD hS hA (fun _ => rfl) (by decide) (by decide) (by decide) (Nat.le_of_ble_eq_true rfl) (Nat.le_of_ble_eq_true rfl) dX5_init_76 (fun q10 H hP hD hS => ?_)
  have hP : va_P (dC, dI) vwCl [(h0, .inr (4, [.int 0, .int 0, .int 0, .ref q1, .ref q2, .ref q3, .ref q4, .ref q5, .ref q6, .ref q7, .ref q8, .ref q9, .null, .null])), (q1, .inl (cT 0, (9, .inl (fun _ => 0)))), (q2, .inl (cT 0, (9, .inl (fun _ => 0)))), (q3, .inl (cT 0, (9, .inl (fun _ => 0)))), (q4, .inl (cT 0, (36, .inl (fun _ => 0)))), (q5, .inl (cT 0, (14, .inl (fun _ => 0)))), (q6, .inl (cT 0, (14, .inl (fun _ => 0)))), (q7, .inl (cT 0, (14, .inl (fun _ => 0)))), (q8, .inl (cT 0, (4, .inl (fun _ => 0)))), (q9, .inl (cT 0, (4, .inl (fun _ => 0)))), (q10, .inl (cT 0, (4, .inl (fun _ => 0))))] H := hP
  have hD : va_D A [(h0, .inr (4, [.int 0, .int 0, .int 0, .ref q1, .ref q2, .ref q3, .ref q4, .ref q5, .ref q6, .ref q7, .ref q8, .ref q9, .null, .null])), (q1, .inl (cT 0, (9, .inl (fun _ => 0)))), (q2, .inl (cT 0, (9, .inl (fun _ => 0)))), (q3, .inl (cT 0, (9, .inl (fun _ => 0)))), (q4, .inl (cT 0, (36, .inl (fun _ => 0)))), (q5, .inl (cT 0, (14, .inl (fun _ => 0)))), (q6, .inl (cT 0, (14, .inl (fun _ => 0)))), (q7, .inl (cT 0, (14, .inl (fun _ => 0)))), (q8, .inl (cT 0, (4, .inl (fun _ => 0)))), (q9, .inl (cT 0, (4, .inl (fun _ => 0)))), (q10, .inl (cT 0, (4, .inl (fun _ => 0))))] := hD
  refine va_putF (D := (dC, dI)) (ci := 4) (v := .ref q10) (ty := .array .int) (C := RX5) (T := TX5) (N := 14) hx hb hts inX_X5 tyX5 tyX5_ok nmX5 hown hK hP hD hS 0 rfl rfl 12 (by decide) (hts _ (am_m1 75 rfl)) (fun _ h9 => h9) rfl hin rfl (by decide +kernel) rfl rfl (Nat.le_of_ble_eq_true rfl) dX5_init_78 (fun H locs hP hD hS => ?_)
  have hP : va_P (dC, dI) vwCl [(h0, .inr (4, [.int 0, .int 0, .int 0, .ref q1, .ref q2, .ref q3, .ref q4, .ref q5, .ref q6, .ref q7, .ref q8, .ref q9, .ref q10, .null])), (q1, .inl (cT 0, (9, .inl (fun _ => 0)))), (q2, .inl (cT 0, (9, .inl (fun _ => 0)))), (q3, .inl (cT 0, (9, .inl (fun _ => 0)))), (q4, .inl (cT 0, (36, .inl (fun _ => 0)))), (q5, .inl (cT 0, (14, .inl (fun _ => 0)))), (q6, .inl (cT 0, (14, .inl (fun _ => 0)))), (q7, .inl (cT 0, (14, .inl (fun _ => 0)))), (q8, .inl (cT 0, (4, .inl (fun _ => 0)))), (q9, .inl (cT 0, (4, .inl (fun _ => 0)))), (q10, .inl (cT 0, (4, .inl (fun _ => 0))))] H := hP
  have hD : va_D A [(h0, .inr (4, [.int 0, .int 0, .int 0, .ref q1, .ref q2, .ref q3, .ref q4, .ref q5, .ref q6, .ref q7, .ref q8, .ref q9, .ref q10, .null])), (q1, .inl (cT 0, (9, .inl (fun _ => 0)))), (q2, .inl (cT 0, (9, .inl (fun _ => 0)))), (q3, .inl (cT 0, (9, .inl (fun _ => 0)))), (q4, .inl (cT 0, (36, .inl (fun _ => 0)))), (q5, .inl (cT 0, (14, .inl (fun _ => 0)))), (q6, .inl (cT 0, (14, .inl (fun _ => 0)))), (q7, .inl (cT 0, (14, .inl (fun _ => 0)))), (q8, .inl (cT 0, (4, .inl (fun _ => 0)))), (q9, .inl (cT 0, (4, .inl (fun _ => 0)))), (q10, .inl (cT 0, (4, .inl (fun _ => 0))))] := hD
  refine lv_aload_n hx hb dX5_init_81 rfl (lv_at hl 0 rfl) ?_
  refine lv_iconst (v := 4) hx hb dX5_init_82 (by decide) ?_
  refine nc_newa (t := 0) (ty := .int) (N' := 4) (a0 := (4, .inl (fun _ => 0))) hx hb (hts _ (am_m1 108 rfl)) rfl hK rfl (fun a b x y => Option.some.inj (x.symm.trans y)) hP hD hS hA (fun _ => rfl) (by decide) (by decide) (by decide) (Nat.le_of_ble_eq_true rfl) (Nat.le_of_ble_eq_true rfl) dX5_init_83 (fun q11 H hP hD hS => ?_)
  have hP : va_P (dC, dI) vwCl [(h0, .inr (4, [.int 0, .int 0, .int 0, .ref q1, .ref q2, .ref q3, .ref q4, .ref q5, .ref q6, .ref q7, .ref q8, .ref q9, .ref q10, .null])), (q1, .inl (cT 0, (9, .inl (fun _ => 0)))), (q2, .inl (cT 0, (9, .inl (fun _ => 0)))), (q3, .inl (cT 0, (9, .inl (fun _ => 0)))), (q4, .inl (cT 0, (36, .inl (fun _ => 0)))), (q5, .inl (cT 0, (14, .inl (fun _ => 0)))), (q6, .inl (cT 0, (14, .inl (fun _ => 0)))), (q7, .inl (cT 0, (14, .inl (fun _ => 0)))), (q8, .inl (cT 0, (4, .inl (fun _ => 0)))), (q9, .inl (cT 0, (4, .inl (fun _ => 0)))), (q10, .inl (cT 0, (4, .inl (fun _ => 0)))), (q11, .inl (cT 0, (4, .inl (fun _ => 0))))] H := hP
  have hD : va_D A [(h0, .inr (4, [.int 0, .int 0, .int 0, .ref q1, .ref q2, .ref q3, .ref q4, .ref q5, .ref q6, .ref q7, .ref q8, .ref q9, .ref q10, .null])), (q1, .inl (cT 0, (9, .inl (fun _ => 0)))), (q2, .inl (cT 0, (9, .inl (fun _ => 0)))), (q3, .inl (cT 0, (9, .inl (fun _ => 0)))), (q4, .inl (cT 0, (36, .inl (fun _ => 0)))), (q5, .inl (cT 0, (14, .inl (fun _ => 0)))), (q6, .inl (cT 0, (14, .inl (fun _ => 0)))), (q7, .inl (cT 0, (14, .inl (fun _ => 0)))), (q8, .inl (cT 0, (4, .inl (fun _ => 0)))), (q9, .inl (cT 0, (4, .inl (fun _ => 0)))), (q10, .inl (cT 0, (4, .inl (fun _ => 0)))), (q11, .inl (cT 0, (4, .inl (fun _ => 0))))] := hD
  refine va_putF (D := (dC, dI)) (ci := 4) (v := .ref q11) (ty := .array .int) (C := RX5) (T := TX5) (N := 14) hx hb hts inX_X5 tyX5 tyX5_ok nmX5 hown hK hP hD hS 0 rfl rfl 13 (by decide) (hts _ (am_m1 77 rfl)) (fun _ h9 => h9) rfl hin rfl (by decide +kernel) rfl rfl (Nat.le_of_ble_eq_true rfl) dX5_init_85 (fun H locs hP hD hS => ?_)
  have hP : va_P (dC, dI) vwCl [(h0, .inr (4, [.int 0, .int 0, .int 0, .ref q1, .ref q2, .ref q3, .ref q4, .ref q5, .ref q6, .ref q7, .ref q8, .ref q9, .ref q10, .ref q11])), (q1, .inl (cT 0, (9, .inl (fun _ => 0)))), (q2, .inl (cT 0, (9, .inl (fun _ => 0)))), (q3, .inl (cT 0, (9, .inl (fun _ => 0)))), (q4, .inl (cT 0, (36, .inl (fun _ => 0)))), (q5, .inl (cT 0, (14, .inl (fun _ => 0)))), (q6, .inl (cT 0, (14, .inl (fun _ => 0)))), (q7, .inl (cT 0, (14, .inl (fun _ => 0)))), (q8, .inl (cT 0, (4, .inl (fun _ => 0)))), (q9, .inl (cT 0, (4, .inl (fun _ => 0)))), (q10, .inl (cT 0, (4, .inl (fun _ => 0)))), (q11, .inl (cT 0, (4, .inl (fun _ => 0))))] H := hP
  have hD : va_D A [(h0, .inr (4, [.int 0, .int 0, .int 0, .ref q1, .ref q2, .ref q3, .ref q4, .ref q5, .ref q6, .ref q7, .ref q8, .ref q9, .ref q10, .ref q11])), (q1, .inl (cT 0, (9, .inl (fun _ => 0)))), (q2, .inl (cT 0, (9, .inl (fun _ => 0)))), (q3, .inl (cT 0, (9, .inl (fun _ => 0)))), (q4, .inl (cT 0, (36, .inl (fun _ => 0)))), (q5, .inl (cT 0, (14, .inl (fun _ => 0)))), (q6, .inl (cT 0, (14, .inl (fun _ => 0)))), (q7, .inl (cT 0, (14, .inl (fun _ => 0)))), (q8, .inl (cT 0, (4, .inl (fun _ => 0)))), (q9, .inl (cT 0, (4, .inl (fun _ => 0)))), (q10, .inl (cT 0, (4, .inl (fun _ => 0)))), (q11, .inl (cT 0, (4, .inl (fun _ => 0))))] := hD
  refine W.widen (k := 11) (n := 121) (by decide) (by decide) ?_
  exact W.vret hx hb hr (fun t ht hW => ⟨⟨rfl, wX5 cT h0 (fun i => [0, q1, q2, q3, q4, q5, q6, q7, q8, q9, q10, q11].getD i 0), ⟨_, rfl⟩, by rw [ht]; exact hP, va_K.moved hW.alike hK, hD⟩, hS.F ht⟩) hS.2.2 dX5_init_88
def wX1 (cT : Nat → ClassId) (h0 : Nat) (r1 : Nat) (a : Nat → Nat) : va_W := [(h0, .inr (0, [.int 0, .int 0, .int 0, .ref (a 1), .ref (a 2), .ref (a 3), .ref (a 4), .ref r1, .int 0, .int 0, .int 0])), ((a 1), .inl (cT 0, (8, .inl (fun _ => 0)))), ((a 2), .inl (cT 0, (8, .inl (fun _ => 0)))), ((a 3), .inl (cT 0, (8, .inl (fun _ => 0)))), ((a 4), .inl (cT 0, (256, .inl (fun _ => 0))))]
set_option maxRecDepth 100000 in
theorem cn_X1 (l : Launch) (dC : Nat → ClassId) (dI : Nat → Nat → Nat) (cT : Nat → ClassId) (h0 r1 : Nat) (sz : Nat) : Met l yX1_init (am_ws mX1_init) ({ frames := 1, cells := 4, slots := 280, locals := 64 }) (va_Pc [.ref h0, .ref r1] (nc_B dC dI cT [(h0, .inr (0, [.int 0, .int 0, .int 0, .null, .null, .null, .null, .null, .int 0, .int 0, .int 0]))] sz)) (nc_Q dC dI cT (va_A [(h0, .inr (0, [.int 0, .int 0, .int 0, .null, .null, .null, .null, .null, .int 0, .int 0, .int 0]))] sz) (fun w => ∃ a : Nat → Nat, w = wX1 cT h0 r1 a)) 4 280 (va_A [(h0, .inr (0, [.int 0, .int 0, .int 0, .null, .null, .null, .null, .null, .int 0, .int 0, .int 0]))] sz) := by
  refine Met.ofW (cc := cX1_init) (maxL := 2) (ret := none) (by decide) rfl ?_
  intro p e s m args below meth c s₁ B hml hv
  obtain ⟨rfl, hsz, hP, hK, hD0, hO⟩ := hv
  have hx := B.exec
  have hb := B.bytes
  have hr := B.returns
  have hts0 := atoms_spec (ws := am_ws mX1_init) B.pre
  have hts : ∀ w ∈ am_tb, w.before [.ref h0, .ref r1].toArray s = true := fun w hw => hts0 w (List.mem_cons_of_mem _ hw)
  have hown : s.vm.findClass RX1 = some m.cls := findClass_of_methodNamed B.named
  have hlocks := B.notSynchronized
  have hin : meth.name = "<init>" := (name_of_methodNamed B.named B.method).1
  subst hsz
  have hD := hD0.self (sz := s.heap.size)
  generalize hAe : va_A [(h0, .inr (0, [.int 0, .int 0, .int 0, .null, .null, .null, .null, .null, .int 0, .int 0, .int 0]))] s.heap.size = A at hD ⊢
  have hA : ∀ q : Nat, s.heap.size ≤ q → A q := fun q h => by rw [← hAe]; exact Or.inr h
  have hS : va_S A s.heap s.heap [] := va_S.rf
  have hP : va_P (dC, dI) vwCl [(h0, .inr (0, [.int 0, .int 0, .int 0, .null, .null, .null, .null, .null, .int 0, .int 0, .int 0]))] s.heap := hP
  have hl := lv_entry ([.ref h0, .ref r1]) (n := 2) (Nat.le_of_ble_eq_true rfl)
  rw [lg_entry_eq]
  generalize (lg_sl ([.ref h0, .ref r1]) ++ List.replicate (2 - (lg_sl ([.ref h0, .ref r1])).length) Slot.unset).toArray = ls at hl ⊢
  have hl : lv_has ls 2 [(0, .ref h0), (1, .ref r1)] := hl
  refine lv_aload_n hx hb dX1_init_0 rfl (lv_at hl 0 rfl) ?_
  refine W.objInit hx hb hown (hts _ (am_m1 202 rfl)) (hts _ (am_m1 20 rfl)) (hts _ (am_m1 21 rfl)) rfl (by rw [hml]; exact hl.1) rfl dX1_init_1 (Nat.le_of_ble_eq_true rfl) (Nat.le_of_ble_eq_true rfl) ?_
  refine W.eq (g2 := F0 m 4 ls []) rfl ?_
  refine lv_aload_n hx hb dX1_init_4 rfl (lv_at hl 0 rfl) ?_
  refine lv_bipush (v := 8) hx hb dX1_init_5 (by decide) ?_
  refine nc_newa (t := 0) (ty := .int) (N' := 8) (a0 := (8, .inl (fun _ => 0))) hx hb (hts _ (am_m1 108 rfl)) rfl hK rfl (fun a b x y => Option.some.inj (x.symm.trans y)) hP hD hS hA (fun _ => rfl) (by decide) (by decide) (by decide) (Nat.le_of_ble_eq_true rfl) (Nat.le_of_ble_eq_true rfl) dX1_init_7 (fun q1 H hP hD hS => ?_)
  have hP : va_P (dC, dI) vwCl [(h0, .inr (0, [.int 0, .int 0, .int 0, .null, .null, .null, .null, .null, .int 0, .int 0, .int 0])), (q1, .inl (cT 0, (8, .inl (fun _ => 0))))] H := hP
  have hD : va_D A [(h0, .inr (0, [.int 0, .int 0, .int 0, .null, .null, .null, .null, .null, .int 0, .int 0, .int 0])), (q1, .inl (cT 0, (8, .inl (fun _ => 0))))] := hD
  refine va_putF (D := (dC, dI)) (ci := 0) (v := .ref q1) (ty := .array .int) (C := RX1) (T := TX1) (N := 11) hx hb hts inX_X1 tyX1 tyX1_ok nmX1 hown hK hP hD hS 0 rfl rfl 3 (by decide) (hts _ (am_m1 209 rfl)) (fun _ h9 => h9) rfl hin rfl (by decide +kernel) rfl rfl (Nat.le_of_ble_eq_true rfl) dX1_init_9 (fun H locs hP hD hS => ?_)
  have hP : va_P (dC, dI) vwCl [(h0, .inr (0, [.int 0, .int 0, .int 0, .ref q1, .null, .null, .null, .null, .int 0, .int 0, .int 0])), (q1, .inl (cT 0, (8, .inl (fun _ => 0))))] H := hP
  have hD : va_D A [(h0, .inr (0, [.int 0, .int 0, .int 0, .ref q1, .null, .null, .null, .null, .int 0, .int 0, .int 0])), (q1, .inl (cT 0, (8, .inl (fun _ => 0))))] := hD
  refine lv_aload_n hx hb dX1_init_12 rfl (lv_at hl 0 rfl) ?_
  refine lv_bipush (v := 8) hx hb dX1_init_13 (by decide) ?_
  refine nc_newa (t := 0) (ty := .int) (N' := 8) (a0 := (8, .inl (fun _ => 0))) hx hb (hts _ (am_m1 108 rfl)) rfl hK rfl (fun a b x y => Option.some.inj (x.symm.trans y)) hP hD hS hA (fun _ => rfl) (by decide) (by decide) (by decide) (Nat.le_of_ble_eq_true rfl) (Nat.le_of_ble_eq_true rfl) dX1_init_15 (fun q2 H hP hD hS => ?_)
  have hP : va_P (dC, dI) vwCl [(h0, .inr (0, [.int 0, .int 0, .int 0, .ref q1, .null, .null, .null, .null, .int 0, .int 0, .int 0])), (q1, .inl (cT 0, (8, .inl (fun _ => 0)))), (q2, .inl (cT 0, (8, .inl (fun _ => 0))))] H := hP
  have hD : va_D A [(h0, .inr (0, [.int 0, .int 0, .int 0, .ref q1, .null, .null, .null, .null, .int 0, .int 0, .int 0])), (q1, .inl (cT 0, (8, .inl (fun _ => 0)))), (q2, .inl (cT 0, (8, .inl (fun _ => 0))))] := hD
  refine va_putF (D := (dC, dI)) (ci := 0) (v := .ref q2) (ty := .array .int) (C := RX1) (T := TX1) (N := 11) hx hb hts inX_X1 tyX1 tyX1_ok nmX1 hown hK hP hD hS 0 rfl rfl 4 (by decide) (hts _ (am_m1 211 rfl)) (fun _ h9 => h9) rfl hin rfl (by decide +kernel) rfl rfl (Nat.le_of_ble_eq_true rfl) dX1_init_17 (fun H locs hP hD hS => ?_)
  have hP : va_P (dC, dI) vwCl [(h0, .inr (0, [.int 0, .int 0, .int 0, .ref q1, .ref q2, .null, .null, .null, .int 0, .int 0, .int 0])), (q1, .inl (cT 0, (8, .inl (fun _ => 0)))), (q2, .inl (cT 0, (8, .inl (fun _ => 0))))] H := hP
  have hD : va_D A [(h0, .inr (0, [.int 0, .int 0, .int 0, .ref q1, .ref q2, .null, .null, .null, .int 0, .int 0, .int 0])), (q1, .inl (cT 0, (8, .inl (fun _ => 0)))), (q2, .inl (cT 0, (8, .inl (fun _ => 0))))] := hD
  refine lv_aload_n hx hb dX1_init_20 rfl (lv_at hl 0 rfl) ?_
  refine lv_bipush (v := 8) hx hb dX1_init_21 (by decide) ?_
  refine nc_newa (t := 0) (ty := .int) (N' := 8) (a0 := (8, .inl (fun _ => 0))) hx hb (hts _ (am_m1 108 rfl)) rfl hK rfl (fun a b x y => Option.some.inj (x.symm.trans y)) hP hD hS hA (fun _ => rfl) (by decide) (by decide) (by decide) (Nat.le_of_ble_eq_true rfl) (Nat.le_of_ble_eq_true rfl) dX1_init_23 (fun q3 H hP hD hS => ?_)
  have hP : va_P (dC, dI) vwCl [(h0, .inr (0, [.int 0, .int 0, .int 0, .ref q1, .ref q2, .null, .null, .null, .int 0, .int 0, .int 0])), (q1, .inl (cT 0, (8, .inl (fun _ => 0)))), (q2, .inl (cT 0, (8, .inl (fun _ => 0)))), (q3, .inl (cT 0, (8, .inl (fun _ => 0))))] H := hP
  have hD : va_D A [(h0, .inr (0, [.int 0, .int 0, .int 0, .ref q1, .ref q2, .null, .null, .null, .int 0, .int 0, .int 0])), (q1, .inl (cT 0, (8, .inl (fun _ => 0)))), (q2, .inl (cT 0, (8, .inl (fun _ => 0)))), (q3, .inl (cT 0, (8, .inl (fun _ => 0))))] := hD
  refine va_putF (D := (dC, dI)) (ci := 0) (v := .ref q3) (ty := .array .int) (C := RX1) (T := TX1) (N := 11) hx hb hts inX_X1 tyX1 tyX1_ok nmX1 hown hK hP hD hS 0 rfl rfl 5 (by decide) (hts _ (am_m1 212 rfl)) (fun _ h9 => h9) rfl hin rfl (by decide +kernel) rfl rfl (Nat.le_of_ble_eq_true rfl) dX1_init_25 (fun H locs hP hD hS => ?_)
  have hP : va_P (dC, dI) vwCl [(h0, .inr (0, [.int 0, .int 0, .int 0, .ref q1, .ref q2, .ref q3, .null, .null, .int 0, .int 0, .int 0])), (q1, .inl (cT 0, (8, .inl (fun _ => 0)))), (q2, .inl (cT 0, (8, .inl (fun _ => 0)))), (q3, .inl (cT 0, (8, .inl (fun _ => 0))))] H := hP
  have hD : va_D A [(h0, .inr (0, [.int 0, .int 0, .int 0, .ref q1, .ref q2, .ref q3, .null, .null, .int 0, .int 0, .int 0])), (q1, .inl (cT 0, (8, .inl (fun _ => 0)))), (q2, .inl (cT 0, (8, .inl (fun _ => 0)))), (q3, .inl (cT 0, (8, .inl (fun _ => 0))))] := hD
  refine lv_aload_n hx hb dX1_init_28 rfl (lv_at hl 0 rfl) ?_
  refine lv_sipush (v := 256) hx hb dX1_init_29 (by decide) ?_
  refine nc_newa (t := 0) (ty := .int) (N' := 256) (a0 := (256, .inl (fun _ => 0))) hx hb (hts _ (am_m1 108 rfl)) rfl hK rfl (fun a b x y => Option.some.inj (x.symm.trans y)) hP hD hS hA (fun _ => rfl) (by decide) (by decide) (by decide) (Nat.le_of_ble_eq_true rfl) (Nat.le_of_ble_eq_true rfl) dX1_init_32 (fun q4 H hP hD hS => ?_)
  have hP : va_P (dC, dI) vwCl [(h0, .inr (0, [.int 0, .int 0, .int 0, .ref q1, .ref q2, .ref q3, .null, .null, .int 0, .int 0, .int 0])), (q1, .inl (cT 0, (8, .inl (fun _ => 0)))), (q2, .inl (cT 0, (8, .inl (fun _ => 0)))), (q3, .inl (cT 0, (8, .inl (fun _ => 0)))), (q4, .inl (cT 0, (256, .inl (fun _ => 0))))] H := hP
  have hD : va_D A [(h0, .inr (0, [.int 0, .int 0, .int 0, .ref q1, .ref q2, .ref q3, .null, .null, .int 0, .int 0, .int 0])), (q1, .inl (cT 0, (8, .inl (fun _ => 0)))), (q2, .inl (cT 0, (8, .inl (fun _ => 0)))), (q3, .inl (cT 0, (8, .inl (fun _ => 0)))), (q4, .inl (cT 0, (256, .inl (fun _ => 0))))] := hD
  refine va_putF (D := (dC, dI)) (ci := 0) (v := .ref q4) (ty := .array .int) (C := RX1) (T := TX1) (N := 11) hx hb hts inX_X1 tyX1 tyX1_ok nmX1 hown hK hP hD hS 0 rfl rfl 6 (by decide) (hts _ (am_m1 213 rfl)) (fun _ h9 => h9) rfl hin rfl (by decide +kernel) rfl rfl (Nat.le_of_ble_eq_true rfl) dX1_init_34 (fun H locs hP hD hS => ?_)
  have hP : va_P (dC, dI) vwCl [(h0, .inr (0, [.int 0, .int 0, .int 0, .ref q1, .ref q2, .ref q3, .ref q4, .null, .int 0, .int 0, .int 0])), (q1, .inl (cT 0, (8, .inl (fun _ => 0)))), (q2, .inl (cT 0, (8, .inl (fun _ => 0)))), (q3, .inl (cT 0, (8, .inl (fun _ => 0)))), (q4, .inl (cT 0, (256, .inl (fun _ => 0))))] H := hP
  have hD : va_D A [(h0, .inr (0, [.int 0, .int 0, .int 0, .ref q1, .ref q2, .ref q3, .ref q4, .null, .int 0, .int 0, .int 0])), (q1, .inl (cT 0, (8, .inl (fun _ => 0)))), (q2, .inl (cT 0, (8, .inl (fun _ => 0)))), (q3, .inl (cT 0, (8, .inl (fun _ => 0)))), (q4, .inl (cT 0, (256, .inl (fun _ => 0))))] := hD
  refine lv_aload_n hx hb dX1_init_37 rfl (lv_at hl 0 rfl) ?_
  refine lv_aload_n hx hb dX1_init_38 rfl (lv_at hl 1 rfl) ?_
  refine va_putF (D := (dC, dI)) (ci := 0) (v := .ref r1) (ty := .object "YearWord$Speech") (C := RX1) (T := TX1) (N := 11) hx hb hts inX_X1 tyX1 tyX1_ok nmX1 hown hK hP hD hS 0 rfl rfl 7 (by decide) (hts _ (am_m1 214 rfl)) (fun _ h9 => h9) rfl hin rfl (by decide +kernel) rfl rfl (Nat.le_of_ble_eq_true rfl) dX1_init_39 (fun H locs hP hD hS => ?_)
  have hP : va_P (dC, dI) vwCl [(h0, .inr (0, [.int 0, .int 0, .int 0, .ref q1, .ref q2, .ref q3, .ref q4, .ref r1, .int 0, .int 0, .int 0])), (q1, .inl (cT 0, (8, .inl (fun _ => 0)))), (q2, .inl (cT 0, (8, .inl (fun _ => 0)))), (q3, .inl (cT 0, (8, .inl (fun _ => 0)))), (q4, .inl (cT 0, (256, .inl (fun _ => 0))))] H := hP
  have hD : va_D A [(h0, .inr (0, [.int 0, .int 0, .int 0, .ref q1, .ref q2, .ref q3, .ref q4, .ref r1, .int 0, .int 0, .int 0])), (q1, .inl (cT 0, (8, .inl (fun _ => 0)))), (q2, .inl (cT 0, (8, .inl (fun _ => 0)))), (q3, .inl (cT 0, (8, .inl (fun _ => 0)))), (q4, .inl (cT 0, (256, .inl (fun _ => 0))))] := hD
  refine W.widen (k := 4) (n := 280) (by decide) (by decide) ?_
  exact W.vret hx hb hr (fun t ht hW => ⟨⟨rfl, wX1 cT h0 r1 (fun i => [0, q1, q2, q3, q4].getD i 0), ⟨_, rfl⟩, by rw [ht]; exact hP, va_K.moved hW.alike hK, hD⟩, hS.F ht⟩) hS.2.2 dX1_init_42
def wX3 (cT : Nat → ClassId) (h0 : Nat) (r1 r2 : Nat) (a : Nat → Nat) : va_W := [(h0, .inr (2, [.ref (a 1), .ref (a 2), .ref r1, .ref r2, .int (-1)])), ((a 1), .inl (cT 0, (5589, .inl (fun _ => 0)))), ((a 2), .inl (cT 0, (9, .inl (fun _ => 0))))]
set_option maxRecDepth 100000 in
theorem cn_X3 (l : Launch) (dC : Nat → ClassId) (dI : Nat → Nat → Nat) (cT : Nat → ClassId) (h0 r1 r2 : Nat) (sz : Nat) : Met l yX3_init (am_ws mX3_init) ({ frames := 1, cells := 2, slots := 5598, locals := 64 }) (va_Pc [.ref h0, .ref r1, .ref r2] (nc_B dC dI cT [(h0, .inr (2, [.null, .null, .null, .null, .int 0]))] sz)) (nc_Q dC dI cT (va_A [(h0, .inr (2, [.null, .null, .null, .null, .int 0]))] sz) (fun w => ∃ a : Nat → Nat, w = wX3 cT h0 r1 r2 a)) 2 5598 (va_A [(h0, .inr (2, [.null, .null, .null, .null, .int 0]))] sz) := by
  refine Met.ofW (cc := cX3_init) (maxL := 3) (ret := none) (by decide) rfl ?_
  intro p e s m args below meth c s₁ B hml hv
  obtain ⟨rfl, hsz, hP, hK, hD0, hO⟩ := hv
  have hx := B.exec
  have hb := B.bytes
  have hr := B.returns
  have hts0 := atoms_spec (ws := am_ws mX3_init) B.pre
  have hts : ∀ w ∈ am_tb, w.before [.ref h0, .ref r1, .ref r2].toArray s = true := fun w hw => hts0 w (List.mem_cons_of_mem _ hw)
  have hown : s.vm.findClass RX3 = some m.cls := findClass_of_methodNamed B.named
  have hlocks := B.notSynchronized
  have hin : meth.name = "<init>" := (name_of_methodNamed B.named B.method).1
  subst hsz
  have hD := hD0.self (sz := s.heap.size)
  generalize hAe : va_A [(h0, .inr (2, [.null, .null, .null, .null, .int 0]))] s.heap.size = A at hD ⊢
  have hA : ∀ q : Nat, s.heap.size ≤ q → A q := fun q h => by rw [← hAe]; exact Or.inr h
  have hS : va_S A s.heap s.heap [] := va_S.rf
  have hP : va_P (dC, dI) vwCl [(h0, .inr (2, [.null, .null, .null, .null, .int 0]))] s.heap := hP
  have hl := lv_entry ([.ref h0, .ref r1, .ref r2]) (n := 3) (Nat.le_of_ble_eq_true rfl)
  rw [lg_entry_eq]
  generalize (lg_sl ([.ref h0, .ref r1, .ref r2]) ++ List.replicate (3 - (lg_sl ([.ref h0, .ref r1, .ref r2])).length) Slot.unset).toArray = ls at hl ⊢
  have hl : lv_has ls 3 [(0, .ref h0), (1, .ref r1), (2, .ref r2)] := hl
  refine lv_aload_n hx hb dX3_init_0 rfl (lv_at hl 0 rfl) ?_
  refine W.objInit hx hb hown (hts _ (am_m1 180 rfl)) (hts _ (am_m1 20 rfl)) (hts _ (am_m1 21 rfl)) rfl (by rw [hml]; exact hl.1) rfl dX3_init_1 (Nat.le_of_ble_eq_true rfl) (Nat.le_of_ble_eq_true rfl) ?_
  refine W.eq (g2 := F0 m 4 ls []) rfl ?_
  refine lv_aload_n hx hb dX3_init_4 rfl (lv_at hl 0 rfl) ?_
  refine lv_sipush (v := 5589) hx hb dX3_init_5 (by decide) ?_
  refine nc_newa (t := 0) (ty := .int) (N' := 5589) (a0 := (5589, .inl (fun _ => 0))) hx hb (hts _ (am_m1 108 rfl)) rfl hK rfl (fun a b x y => Option.some.inj (x.symm.trans y)) hP hD hS hA (fun _ => rfl) (by decide) (by decide) (by decide) (Nat.le_of_ble_eq_true rfl) (Nat.le_of_ble_eq_true rfl) dX3_init_8 (fun q1 H hP hD hS => ?_)
  have hP : va_P (dC, dI) vwCl [(h0, .inr (2, [.null, .null, .null, .null, .int 0])), (q1, .inl (cT 0, (5589, .inl (fun _ => 0))))] H := hP
  have hD : va_D A [(h0, .inr (2, [.null, .null, .null, .null, .int 0])), (q1, .inl (cT 0, (5589, .inl (fun _ => 0))))] := hD
  refine va_putF (D := (dC, dI)) (ci := 2) (v := .ref q1) (ty := .array .int) (C := RX3) (T := TX3) (N := 5) hx hb hts inX_X3 tyX3 tyX3_ok nmX3 hown hK hP hD hS 0 rfl rfl 0 (by decide) (hts _ (am_m1 181 rfl)) (fun _ h9 => h9) rfl hin rfl (by decide +kernel) rfl rfl (Nat.le_of_ble_eq_true rfl) dX3_init_10 (fun H locs hP hD hS => ?_)
  have hP : va_P (dC, dI) vwCl [(h0, .inr (2, [.ref q1, .null, .null, .null, .int 0])), (q1, .inl (cT 0, (5589, .inl (fun _ => 0))))] H := hP
  have hD : va_D A [(h0, .inr (2, [.ref q1, .null, .null, .null, .int 0])), (q1, .inl (cT 0, (5589, .inl (fun _ => 0))))] := hD
  refine lv_aload_n hx hb dX3_init_13 rfl (lv_at hl 0 rfl) ?_
  refine lv_bipush (v := 9) hx hb dX3_init_14 (by decide) ?_
  refine nc_newa (t := 0) (ty := .int) (N' := 9) (a0 := (9, .inl (fun _ => 0))) hx hb (hts _ (am_m1 108 rfl)) rfl hK rfl (fun a b x y => Option.some.inj (x.symm.trans y)) hP hD hS hA (fun _ => rfl) (by decide) (by decide) (by decide) (Nat.le_of_ble_eq_true rfl) (Nat.le_of_ble_eq_true rfl) dX3_init_16 (fun q2 H hP hD hS => ?_)
  have hP : va_P (dC, dI) vwCl [(h0, .inr (2, [.ref q1, .null, .null, .null, .int 0])), (q1, .inl (cT 0, (5589, .inl (fun _ => 0)))), (q2, .inl (cT 0, (9, .inl (fun _ => 0))))] H := hP
  have hD : va_D A [(h0, .inr (2, [.ref q1, .null, .null, .null, .int 0])), (q1, .inl (cT 0, (5589, .inl (fun _ => 0)))), (q2, .inl (cT 0, (9, .inl (fun _ => 0))))] := hD
  refine va_putF (D := (dC, dI)) (ci := 2) (v := .ref q2) (ty := .array .int) (C := RX3) (T := TX3) (N := 5) hx hb hts inX_X3 tyX3 tyX3_ok nmX3 hown hK hP hD hS 0 rfl rfl 1 (by decide) (hts _ (am_m1 182 rfl)) (fun _ h9 => h9) rfl hin rfl (by decide +kernel) rfl rfl (Nat.le_of_ble_eq_true rfl) dX3_init_18 (fun H locs hP hD hS => ?_)
  have hP : va_P (dC, dI) vwCl [(h0, .inr (2, [.ref q1, .ref q2, .null, .null, .int 0])), (q1, .inl (cT 0, (5589, .inl (fun _ => 0)))), (q2, .inl (cT 0, (9, .inl (fun _ => 0))))] H := hP
  have hD : va_D A [(h0, .inr (2, [.ref q1, .ref q2, .null, .null, .int 0])), (q1, .inl (cT 0, (5589, .inl (fun _ => 0)))), (q2, .inl (cT 0, (9, .inl (fun _ => 0))))] := hD
  refine lv_aload_n hx hb dX3_init_21 rfl (lv_at hl 0 rfl) ?_
  refine lv_iconst (v := -1) hx hb dX3_init_22 (by decide) ?_
  refine va_put (D := (dC, dI)) (ci := 2) (v := .int (-1)) (ty := .int) (C := RX3) (T := TX3) (N := 5) hx hb hts inX_X3 tyX3 tyX3_ok nmX3 hown hK hP hD hS 0 rfl rfl 4 (by decide) (hts _ (am_m1 185 rfl)) (fun _ h9 => h9) rfl (by decide +kernel) rfl rfl (Nat.le_of_ble_eq_true rfl) dX3_init_23 (fun H locs hP hD hS => ?_)
  have hP : va_P (dC, dI) vwCl [(h0, .inr (2, [.ref q1, .ref q2, .null, .null, .int (-1)])), (q1, .inl (cT 0, (5589, .inl (fun _ => 0)))), (q2, .inl (cT 0, (9, .inl (fun _ => 0))))] H := hP
  have hD : va_D A [(h0, .inr (2, [.ref q1, .ref q2, .null, .null, .int (-1)])), (q1, .inl (cT 0, (5589, .inl (fun _ => 0)))), (q2, .inl (cT 0, (9, .inl (fun _ => 0))))] := hD
  refine lv_aload_n hx hb dX3_init_26 rfl (lv_at hl 0 rfl) ?_
  refine lv_aload_n hx hb dX3_init_27 rfl (lv_at hl 1 rfl) ?_
  refine va_putF (D := (dC, dI)) (ci := 2) (v := .ref r1) (ty := .object "YearWord$Speech") (C := RX3) (T := TX3) (N := 5) hx hb hts inX_X3 tyX3 tyX3_ok nmX3 hown hK hP hD hS 0 rfl rfl 2 (by decide) (hts _ (am_m1 183 rfl)) (fun _ h9 => h9) rfl hin rfl (by decide +kernel) rfl rfl (Nat.le_of_ble_eq_true rfl) dX3_init_28 (fun H locs hP hD hS => ?_)
  have hP : va_P (dC, dI) vwCl [(h0, .inr (2, [.ref q1, .ref q2, .ref r1, .null, .int (-1)])), (q1, .inl (cT 0, (5589, .inl (fun _ => 0)))), (q2, .inl (cT 0, (9, .inl (fun _ => 0))))] H := hP
  have hD : va_D A [(h0, .inr (2, [.ref q1, .ref q2, .ref r1, .null, .int (-1)])), (q1, .inl (cT 0, (5589, .inl (fun _ => 0)))), (q2, .inl (cT 0, (9, .inl (fun _ => 0))))] := hD
  refine lv_aload_n hx hb dX3_init_31 rfl (lv_at hl 0 rfl) ?_
  refine lv_aload_n hx hb dX3_init_32 rfl (lv_at hl 2 rfl) ?_
  refine va_putF (D := (dC, dI)) (ci := 2) (v := .ref r2) (ty := .object "YearWord$Outlook") (C := RX3) (T := TX3) (N := 5) hx hb hts inX_X3 tyX3 tyX3_ok nmX3 hown hK hP hD hS 0 rfl rfl 3 (by decide) (hts _ (am_m1 184 rfl)) (fun _ h9 => h9) rfl hin rfl (by decide +kernel) rfl rfl (Nat.le_of_ble_eq_true rfl) dX3_init_33 (fun H locs hP hD hS => ?_)
  have hP : va_P (dC, dI) vwCl [(h0, .inr (2, [.ref q1, .ref q2, .ref r1, .ref r2, .int (-1)])), (q1, .inl (cT 0, (5589, .inl (fun _ => 0)))), (q2, .inl (cT 0, (9, .inl (fun _ => 0))))] H := hP
  have hD : va_D A [(h0, .inr (2, [.ref q1, .ref q2, .ref r1, .ref r2, .int (-1)])), (q1, .inl (cT 0, (5589, .inl (fun _ => 0)))), (q2, .inl (cT 0, (9, .inl (fun _ => 0))))] := hD
  refine W.widen (k := 2) (n := 5598) (by decide) (by decide) ?_
  exact W.vret hx hb hr (fun t ht hW => ⟨⟨rfl, wX3 cT h0 r1 r2 (fun i => [0, q1, q2].getD i 0), ⟨_, rfl⟩, by rw [ht]; exact hP, va_K.moved hW.alike hK, hD⟩, hS.F ht⟩) hS.2.2 dX3_init_36
def wX4 (cT : Nat → ClassId) (h0 : Nat) (r1 : Nat) (a : Nat → Nat) : va_W := [(h0, .inr (3, [.ref (a 1), .int 0, .int 0, .ref r1])), ((a 1), .inl (cT 1, (0, .inl (fun _ => 0))))]
set_option maxRecDepth 100000 in
theorem cn_X4 (l : Launch) (dC : Nat → ClassId) (dI : Nat → Nat → Nat) (cT : Nat → ClassId) (h0 r1 : Nat) (sz : Nat) : Met l yX4_init (am_ws mX4_init) ({ frames := 1, cells := 1, slots := 0, locals := 64 }) (va_Pc [.ref h0, .ref r1] (nc_B dC dI cT [(h0, .inr (3, [.null, .int 0, .int 0, .null]))] sz)) (nc_Q dC dI cT (va_A [(h0, .inr (3, [.null, .int 0, .int 0, .null]))] sz) (fun w => ∃ a : Nat → Nat, w = wX4 cT h0 r1 a)) 1 0 (va_A [(h0, .inr (3, [.null, .int 0, .int 0, .null]))] sz) := by
  refine Met.ofW (cc := cX4_init) (maxL := 2) (ret := none) (by decide) rfl ?_
  intro p e s m args below meth c s₁ B hml hv
  obtain ⟨rfl, hsz, hP, hK, hD0, hO⟩ := hv
  have hx := B.exec
  have hb := B.bytes
  have hr := B.returns
  have hts0 := atoms_spec (ws := am_ws mX4_init) B.pre
  have hts : ∀ w ∈ am_tb, w.before [.ref h0, .ref r1].toArray s = true := fun w hw => hts0 w (List.mem_cons_of_mem _ hw)
  have hown : s.vm.findClass RX4 = some m.cls := findClass_of_methodNamed B.named
  have hlocks := B.notSynchronized
  have hin : meth.name = "<init>" := (name_of_methodNamed B.named B.method).1
  subst hsz
  have hD := hD0.self (sz := s.heap.size)
  generalize hAe : va_A [(h0, .inr (3, [.null, .int 0, .int 0, .null]))] s.heap.size = A at hD ⊢
  have hA : ∀ q : Nat, s.heap.size ≤ q → A q := fun q h => by rw [← hAe]; exact Or.inr h
  have hS : va_S A s.heap s.heap [] := va_S.rf
  have hP : va_P (dC, dI) vwCl [(h0, .inr (3, [.null, .int 0, .int 0, .null]))] s.heap := hP
  have hl := lv_entry ([.ref h0, .ref r1]) (n := 2) (Nat.le_of_ble_eq_true rfl)
  rw [lg_entry_eq]
  generalize (lg_sl ([.ref h0, .ref r1]) ++ List.replicate (2 - (lg_sl ([.ref h0, .ref r1])).length) Slot.unset).toArray = ls at hl ⊢
  have hl : lv_has ls 2 [(0, .ref h0), (1, .ref r1)] := hl
  refine lv_aload_n hx hb dX4_init_0 rfl (lv_at hl 0 rfl) ?_
  refine W.objInit hx hb hown (hts _ (am_m1 115 rfl)) (hts _ (am_m1 20 rfl)) (hts _ (am_m1 21 rfl)) rfl (by rw [hml]; exact hl.1) rfl dX4_init_1 (Nat.le_of_ble_eq_true rfl) (Nat.le_of_ble_eq_true rfl) ?_
  refine W.eq (g2 := F0 m 4 ls []) rfl ?_
  refine lv_aload_n hx hb dX4_init_4 rfl (lv_at hl 0 rfl) ?_
  refine lv_iconst (v := 0) hx hb dX4_init_5 (by decide) ?_
  refine nc_newa (t := 1) (ty := .byte) (N' := 0) (a0 := (0, .inl (fun _ => 0))) hx hb (hts _ (am_m1 109 rfl)) rfl hK rfl (fun a b x y => Option.some.inj (x.symm.trans y)) hP hD hS hA (fun _ => rfl) (by decide) (by decide) (by decide) (Nat.le_of_ble_eq_true rfl) (Nat.le_of_ble_eq_true rfl) dX4_init_6 (fun q1 H hP hD hS => ?_)
  have hP : va_P (dC, dI) vwCl [(h0, .inr (3, [.null, .int 0, .int 0, .null])), (q1, .inl (cT 1, (0, .inl (fun _ => 0))))] H := hP
  have hD : va_D A [(h0, .inr (3, [.null, .int 0, .int 0, .null])), (q1, .inl (cT 1, (0, .inl (fun _ => 0))))] := hD
  refine va_put (D := (dC, dI)) (ci := 3) (v := .ref q1) (ty := .array .byte) (C := RX4) (T := TX4) (N := 4) hx hb hts inX_X4 tyX4 tyX4_ok nmX4 hown hK hP hD hS 0 rfl rfl 0 (by decide) (hts _ (am_m1 116 rfl)) (fun _ h9 => h9) rfl (by decide +kernel) rfl rfl (Nat.le_of_ble_eq_true rfl) dX4_init_8 (fun H locs hP hD hS => ?_)
  have hP : va_P (dC, dI) vwCl [(h0, .inr (3, [.ref q1, .int 0, .int 0, .null])), (q1, .inl (cT 1, (0, .inl (fun _ => 0))))] H := hP
  have hD : va_D A [(h0, .inr (3, [.ref q1, .int 0, .int 0, .null])), (q1, .inl (cT 1, (0, .inl (fun _ => 0))))] := hD
  refine lv_aload_n hx hb dX4_init_11 rfl (lv_at hl 0 rfl) ?_
  refine lv_aload_n hx hb dX4_init_12 rfl (lv_at hl 1 rfl) ?_
  refine va_put (D := (dC, dI)) (ci := 3) (v := .ref r1) (ty := .object "YearWord$Speech") (C := RX4) (T := TX4) (N := 4) hx hb hts inX_X4 tyX4 tyX4_ok nmX4 hown hK hP hD hS 0 rfl rfl 3 (by decide) (hts _ (am_m1 119 rfl)) (fun _ h9 => h9) rfl (by decide +kernel) rfl rfl (Nat.le_of_ble_eq_true rfl) dX4_init_13 (fun H locs hP hD hS => ?_)
  have hP : va_P (dC, dI) vwCl [(h0, .inr (3, [.ref q1, .int 0, .int 0, .ref r1])), (q1, .inl (cT 1, (0, .inl (fun _ => 0))))] H := hP
  have hD : va_D A [(h0, .inr (3, [.ref q1, .int 0, .int 0, .ref r1])), (q1, .inl (cT 1, (0, .inl (fun _ => 0))))] := hD
  refine W.widen (k := 1) (n := 0) (by decide) (by decide) ?_
  exact W.vret hx hb hr (fun t ht hW => ⟨⟨rfl, wX4 cT h0 r1 (fun i => [0, q1].getD i 0), ⟨_, rfl⟩, by rw [ht]; exact hP, va_K.moved hW.alike hK, hD⟩, hS.F ht⟩) hS.2.2 dX4_init_16
