set_option maxRecDepth 100000 in
theorem cn_X7 (l : Launch) (dC : Nat → ClassId) (dI : Nat → Nat → Nat) (cT : Nat → ClassId) (h0 : Nat) (sz : Nat) : Met l yX7_init (am_ws mX7_init) ({ frames := 2, cells := 81, slots := 7010, locals := 200 }) (va_Pc [.ref h0] (fun U => nc_B dC dI cT [(h0, .inr (6, [.null, .null, .null, .null, .null, .null, .null, .null, .null, .null, .null, .null, .null, .int 0, .long 0, .long 0, .int 0]))] sz U ∧ nc_ne U)) (nc_Q dC dI cT (va_A [(h0, .inr (6, [.null, .null, .null, .null, .null, .null, .null, .null, .null, .null, .null, .null, .null, .int 0, .long 0, .long 0, .int 0]))] sz) (fun w => ∃ ad : Int → Nat, ad 0 = h0 ∧ w = am_W cT ad GC hI)) 81 7010 (va_A [(h0, .inr (6, [.null, .null, .null, .null, .null, .null, .null, .null, .null, .null, .null, .null, .null, .int 0, .long 0, .long 0, .int 0]))] sz) := by
  refine Met.ofW (cc := cX7_init) (maxL := 2) (ret := none) (by decide) rfl ?_
  intro p e s m args below meth c s₁ B hml hv
  obtain ⟨rfl, ⟨hsz, hP, hK, hD0, hO⟩, hN⟩ := hv
  have hx := B.exec
  have hb := B.bytes
  have hr := B.returns
  have hts0 := atoms_spec (ws := am_ws mX7_init) B.pre
  have hts : ∀ w ∈ am_tb, w.before [.ref h0].toArray s = true := fun w hw => hts0 w (List.mem_cons_of_mem _ hw)
  have hown : s.vm.findClass RX7 = some m.cls := findClass_of_methodNamed B.named
  have hin : meth.name = "<init>" := (name_of_methodNamed B.named B.method).1
  subst hsz
  have hD := hD0.self (sz := s.heap.size)
  generalize hAe : va_A [(h0, .inr (6, [.null, .null, .null, .null, .null, .null, .null, .null, .null, .null, .null, .null, .null, .int 0, .long 0, .long 0, .int 0]))] s.heap.size = A at hD ⊢
  have hA : ∀ q : Nat, s.heap.size ≤ q → A q := fun q h => by rw [← hAe]; exact Or.inr h
  have hS : va_S A s.heap s.heap [] := va_S.rf
  have hP : va_P (dC, dI) vwCl [(h0, .inr (6, [.null, .null, .null, .null, .null, .null, .null, .null, .null, .null, .null, .null, .null, .int 0, .long 0, .long 0, .int 0]))] s.heap := hP
  have hl := lv_entry ([.ref h0]) (n := 2) (Nat.le_of_ble_eq_true rfl)
  rw [lg_entry_eq]
  generalize (lg_sl ([.ref h0]) ++ List.replicate (2 - (lg_sl ([.ref h0])).length) Slot.unset).toArray = ls at hl ⊢
  have hl : lv_has ls 2 [(0, .ref h0)] := hl
  refine lv_aload_n hx hb dX7_init_0 rfl (lv_at hl 0 rfl) ?_
  refine W.objInit hx hb hown (hts _ (am_m1 19 rfl)) (hts _ (am_m1 20 rfl)) (hts _ (am_m1 21 rfl)) rfl (by rw [hml]; exact hl.1) rfl dX7_init_1 (Nat.le_of_ble_eq_true rfl) (Nat.le_of_ble_eq_true rfl) ?_
  refine W.eq (g2 := F0 m 4 ls []) rfl ?_
  refine lv_aload_n hx hb dX7_init_4 rfl (lv_at hl 0 rfl) ?_
  refine lv_bipush (v := 6) hx hb dX7_init_5 (by decide) ?_
  refine lv_bipush (v := 40) hx hb dX7_init_7 (by decide) ?_
  refine nc_multi (t0 := 4) (t1 := 0) (ty := .int) (N := 6) (M := 40) hx hb hown (hts _ (am_m1 22 rfl)) hO.1 (hts _ (am_m1 108 rfl)) hK (hK.2 4 _ rfl).2 (hK.2 0 _ rfl).2 hP hD hS hA rfl rfl rfl (by decide) (by decide) (by decide) (by decide) (by decide) (by decide) (by decide) (Nat.le_of_ble_eq_true rfl) (Nat.le_of_ble_eq_true rfl) dX7_init_9 (fun q1 H hP hD hS => ?_)
  have hP : va_P (dC, dI) vwCl ((h0, .inr (6, [.null, .null, .null, .null, .null, .null, .null, .null, .null, .null, .null, .null, .null, .int 0, .long 0, .long 0, .int 0])) :: ((q1, .inl (cT 4, (6, .inr (.inr (.inr (.inr (fun j => if j < 6 then some (q1 + 1 + j) else none))))))) :: (List.range 6).map (fun j => (q1 + 1 + j, .inl (cT 0, (40, .inl (fun _ => 0))))))) H := hP
  have hD : va_D A ((h0, .inr (6, [.null, .null, .null, .null, .null, .null, .null, .null, .null, .null, .null, .null, .null, .int 0, .long 0, .long 0, .int 0])) :: ((q1, .inl (cT 4, (6, .inr (.inr (.inr (.inr (fun j => if j < 6 then some (q1 + 1 + j) else none))))))) :: (List.range 6).map (fun j => (q1 + 1 + j, .inl (cT 0, (40, .inl (fun _ => 0))))))) := hD
  generalize hT1 : (((q1, .inl (cT 4, (6, .inr (.inr (.inr (.inr (fun j => if j < 6 then some (q1 + 1 + j) else none))))))) :: (List.range 6).map (fun j => (q1 + 1 + j, .inl (cT 0, (40, .inl (fun _ => 0)))))) : va_W) = T1 at hP hD
  refine va_putF (D := (dC, dI)) (ci := 6) (v := .ref q1) (ty := .array (.array .int)) (C := RX7) (T := TX7) (N := 17) hx hb hts inX_X7 tyX7 tyX7_ok nmX7 hown hK hP hD hS 0 rfl rfl 0 (by decide) (hts _ (am_m2 27 rfl)) (fun _ h9 => h9) rfl hin rfl (by decide +kernel) rfl rfl (Nat.le_of_ble_eq_true rfl) dX7_init_13 (fun H locs hP hD hS => ?_)
  have hP : va_P (dC, dI) vwCl ((h0, .inr (6, [.ref q1, .null, .null, .null, .null, .null, .null, .null, .null, .null, .null, .null, .null, .int 0, .long 0, .long 0, .int 0])) :: T1) H := hP
  have hD : va_D A ((h0, .inr (6, [.ref q1, .null, .null, .null, .null, .null, .null, .null, .null, .null, .null, .null, .null, .int 0, .long 0, .long 0, .int 0])) :: T1) := hD
  refine lv_aload_n hx hb dX7_init_16 rfl (lv_at hl 0 rfl) ?_
  refine lv_bipush (v := 6) hx hb dX7_init_17 (by decide) ?_
  refine nc_newa (t := 0) (ty := .int) (N' := 6) (a0 := (6, .inl (fun _ => 0))) hx hb (hts _ (am_m1 108 rfl)) rfl hK rfl (fun a b x y => Option.some.inj (x.symm.trans y)) hP hD hS hA (fun _ => rfl) (by decide) (by decide) (by decide) (Nat.le_of_ble_eq_true rfl) (Nat.le_of_ble_eq_true rfl) dX7_init_19 (fun q2 H hP hD hS => ?_)
  have hP : va_P (dC, dI) vwCl ((h0, .inr (6, [.ref q1, .null, .null, .null, .null, .null, .null, .null, .null, .null, .null, .null, .null, .int 0, .long 0, .long 0, .int 0])) :: (T1 ++ [(q2, .inl (cT 0, (6, .inl (fun _ => 0))))])) H := hP
  have hD : va_D A ((h0, .inr (6, [.ref q1, .null, .null, .null, .null, .null, .null, .null, .null, .null, .null, .null, .null, .int 0, .long 0, .long 0, .int 0])) :: (T1 ++ [(q2, .inl (cT 0, (6, .inl (fun _ => 0))))])) := hD
  generalize hT2 : T1 ++ [(q2, .inl (cT 0, (6, .inl (fun _ => 0))))] = T2 at hP hD
  refine va_putF (D := (dC, dI)) (ci := 6) (v := .ref q2) (ty := .array .int) (C := RX7) (T := TX7) (N := 17) hx hb hts inX_X7 tyX7 tyX7_ok nmX7 hown hK hP hD hS 0 rfl rfl 1 (by decide) (hts _ (am_m2 28 rfl)) (fun _ h9 => h9) rfl hin rfl (by decide +kernel) rfl rfl (Nat.le_of_ble_eq_true rfl) dX7_init_21 (fun H locs hP hD hS => ?_)
  have hP : va_P (dC, dI) vwCl ((h0, .inr (6, [.ref q1, .ref q2, .null, .null, .null, .null, .null, .null, .null, .null, .null, .null, .null, .int 0, .long 0, .long 0, .int 0])) :: T2) H := hP
  have hD : va_D A ((h0, .inr (6, [.ref q1, .ref q2, .null, .null, .null, .null, .null, .null, .null, .null, .null, .null, .null, .int 0, .long 0, .long 0, .int 0])) :: T2) := hD
  refine lv_aload_n hx hb dX7_init_24 rfl (lv_at hl 0 rfl) ?_
  refine lv_iconst (v := 4) hx hb dX7_init_25 (by decide) ?_
  refine lv_bipush (v := 80) hx hb dX7_init_26 (by decide) ?_
  refine nc_multi (t0 := 5) (t1 := 1) (ty := .byte) (N := 4) (M := 80) hx hb hown (hts _ (am_m1 24 rfl)) hO.2.1 (hts _ (am_m1 109 rfl)) hK (hK.2 5 _ rfl).2 (hK.2 1 _ rfl).2 hP hD hS hA rfl rfl rfl (by decide) (by decide) (by decide) (by decide) (by decide) (by decide) (by decide) (Nat.le_of_ble_eq_true rfl) (Nat.le_of_ble_eq_true rfl) dX7_init_28 (fun q3 H hP hD hS => ?_)
  have hP : va_P (dC, dI) vwCl ((h0, .inr (6, [.ref q1, .ref q2, .null, .null, .null, .null, .null, .null, .null, .null, .null, .null, .null, .int 0, .long 0, .long 0, .int 0])) :: (T2 ++ ((q3, .inl (cT 5, (4, .inr (.inr (.inr (.inr (fun j => if j < 4 then some (q3 + 1 + j) else none))))))) :: (List.range 4).map (fun j => (q3 + 1 + j, .inl (cT 1, (80, .inl (fun _ => 0)))))))) H := hP
  have hD : va_D A ((h0, .inr (6, [.ref q1, .ref q2, .null, .null, .null, .null, .null, .null, .null, .null, .null, .null, .null, .int 0, .long 0, .long 0, .int 0])) :: (T2 ++ ((q3, .inl (cT 5, (4, .inr (.inr (.inr (.inr (fun j => if j < 4 then some (q3 + 1 + j) else none))))))) :: (List.range 4).map (fun j => (q3 + 1 + j, .inl (cT 1, (80, .inl (fun _ => 0)))))))) := hD
  generalize hT3 : T2 ++ ((q3, .inl (cT 5, (4, .inr (.inr (.inr (.inr (fun j => if j < 4 then some (q3 + 1 + j) else none))))))) :: (List.range 4).map (fun j => (q3 + 1 + j, .inl (cT 1, (80, .inl (fun _ => 0)))))) = T3 at hP hD
  refine va_putF (D := (dC, dI)) (ci := 6) (v := .ref q3) (ty := .array (.array .byte)) (C := RX7) (T := TX7) (N := 17) hx hb hts inX_X7 tyX7 tyX7_ok nmX7 hown hK hP hD hS 0 rfl rfl 2 (by decide) (hts _ (am_m2 29 rfl)) (fun _ h9 => h9) rfl hin rfl (by decide +kernel) rfl rfl (Nat.le_of_ble_eq_true rfl) dX7_init_32 (fun H locs hP hD hS => ?_)
  have hP : va_P (dC, dI) vwCl ((h0, .inr (6, [.ref q1, .ref q2, .ref q3, .null, .null, .null, .null, .null, .null, .null, .null, .null, .null, .int 0, .long 0, .long 0, .int 0])) :: T3) H := hP
  have hD : va_D A ((h0, .inr (6, [.ref q1, .ref q2, .ref q3, .null, .null, .null, .null, .null, .null, .null, .null, .null, .null, .int 0, .long 0, .long 0, .int 0])) :: T3) := hD
  refine lv_aload_n hx hb dX7_init_35 rfl (lv_at hl 0 rfl) ?_
  refine lv_iconst (v := 4) hx hb dX7_init_36 (by decide) ?_
  refine nc_newa (t := 0) (ty := .int) (N' := 4) (a0 := (4, .inl (fun _ => 0))) hx hb (hts _ (am_m1 108 rfl)) rfl hK rfl (fun a b x y => Option.some.inj (x.symm.trans y)) hP hD hS hA (fun _ => rfl) (by decide) (by decide) (by decide) (Nat.le_of_ble_eq_true rfl) (Nat.le_of_ble_eq_true rfl) dX7_init_37 (fun q4 H hP hD hS => ?_)
  have hP : va_P (dC, dI) vwCl ((h0, .inr (6, [.ref q1, .ref q2, .ref q3, .null, .null, .null, .null, .null, .null, .null, .null, .null, .null, .int 0, .long 0, .long 0, .int 0])) :: (T3 ++ [(q4, .inl (cT 0, (4, .inl (fun _ => 0))))])) H := hP
  have hD : va_D A ((h0, .inr (6, [.ref q1, .ref q2, .ref q3, .null, .null, .null, .null, .null, .null, .null, .null, .null, .null, .int 0, .long 0, .long 0, .int 0])) :: (T3 ++ [(q4, .inl (cT 0, (4, .inl (fun _ => 0))))])) := hD
  generalize hT4 : T3 ++ [(q4, .inl (cT 0, (4, .inl (fun _ => 0))))] = T4 at hP hD
  refine va_putF (D := (dC, dI)) (ci := 6) (v := .ref q4) (ty := .array .int) (C := RX7) (T := TX7) (N := 17) hx hb hts inX_X7 tyX7 tyX7_ok nmX7 hown hK hP hD hS 0 rfl rfl 3 (by decide) (hts _ (am_m2 30 rfl)) (fun _ h9 => h9) rfl hin rfl (by decide +kernel) rfl rfl (Nat.le_of_ble_eq_true rfl) dX7_init_39 (fun H locs hP hD hS => ?_)
  have hP : va_P (dC, dI) vwCl ((h0, .inr (6, [.ref q1, .ref q2, .ref q3, .ref q4, .null, .null, .null, .null, .null, .null, .null, .null, .null, .int 0, .long 0, .long 0, .int 0])) :: T4) H := hP
  have hD : va_D A ((h0, .inr (6, [.ref q1, .ref q2, .ref q3, .ref q4, .null, .null, .null, .null, .null, .null, .null, .null, .null, .int 0, .long 0, .long 0, .int 0])) :: T4) := hD
  refine lv_aload_n hx hb dX7_init_42 rfl (lv_at hl 0 rfl) ?_
  refine va_new (D := (dC, dI)) (ci := 4) (C := RX5) (T := TX5) (N := 14) (fs := [.int 0, .int 0, .int 0, .null, .null, .null, .null, .null, .null, .null, .null, .null, .null, .null]) hx hb hts inX_X5 tyX5 tyX5_ok hown (hts _ (am_m1 26 rfl)) (hts _ (am_m1 27 rfl)) (hts _ (am_m1 2 rfl)) hK hP hD hS hA rfl df_X5 (Nat.le_of_ble_eq_true rfl) (Nat.le_of_ble_eq_true rfl) dX7_init_43 (fun q5 H hP hD hS => ?_)
  refine lv_dup hx hb dX7_init_46 rfl ?_
  refine nc_ctorN (M' := mX5_init) (n := 0) (As := []) (rest := [.ref q5, .ref h0]) hx hb hml hown hts hK hO hP hD hS hA (cn_X5 l dC dI cT q5 H.size) hN.1 li_X7_28 ⟨rfl, rfl, (Nat.le_of_ble_eq_true rfl), (Nat.le_of_ble_eq_true rfl)⟩ rfl hl.1 (Nat.le_of_ble_eq_true rfl) dX7_init_47 ⟨(Nat.le_of_ble_eq_true rfl), (Nat.le_of_ble_eq_true rfl)⟩ rfl (fun w1 H locs hw hP hD hS _ => ?_)
  obtain ⟨a5, rfl⟩ := hw
  have hP : va_P (dC, dI) vwCl ((h0, .inr (6, [.ref q1, .ref q2, .ref q3, .ref q4, .null, .null, .null, .null, .null, .null, .null, .null, .null, .int 0, .long 0, .long 0, .int 0])) :: (T4 ++ wX5 cT q5 a5)) H := hP
  have hD : va_D A ((h0, .inr (6, [.ref q1, .ref q2, .ref q3, .ref q4, .null, .null, .null, .null, .null, .null, .null, .null, .null, .int 0, .long 0, .long 0, .int 0])) :: (T4 ++ wX5 cT q5 a5)) := hD
  generalize hT5 : T4 ++ wX5 cT q5 a5 = T5 at hP hD
  refine va_putF (D := (dC, dI)) (ci := 6) (v := .ref q5) (ty := .object "YearWord$Speech") (C := RX7) (T := TX7) (N := 17) hx hb hts inX_X7 tyX7 tyX7_ok nmX7 hown hK hP hD hS 0 rfl rfl 4 (by decide) (hts _ (am_m2 31 rfl)) (fun _ h9 => h9) rfl hin rfl (by decide +kernel) rfl rfl (Nat.le_of_ble_eq_true rfl) dX7_init_50 (fun H locs hP hD hS => ?_)
  have hP : va_P (dC, dI) vwCl ((h0, .inr (6, [.ref q1, .ref q2, .ref q3, .ref q4, .ref q5, .null, .null, .null, .null, .null, .null, .null, .null, .int 0, .long 0, .long 0, .int 0])) :: T5) H := hP
  have hD : va_D A ((h0, .inr (6, [.ref q1, .ref q2, .ref q3, .ref q4, .ref q5, .null, .null, .null, .null, .null, .null, .null, .null, .int 0, .long 0, .long 0, .int 0])) :: T5) := hD
  refine lv_aload_n hx hb dX7_init_53 rfl (lv_at hl 0 rfl) ?_
  refine va_new (D := (dC, dI)) (ci := 4) (C := RX5) (T := TX5) (N := 14) (fs := [.int 0, .int 0, .int 0, .null, .null, .null, .null, .null, .null, .null, .null, .null, .null, .null]) hx hb hts inX_X5 tyX5 tyX5_ok hown (hts _ (am_m1 26 rfl)) (hts _ (am_m1 27 rfl)) (hts _ (am_m1 2 rfl)) hK hP hD hS hA rfl df_X5 (Nat.le_of_ble_eq_true rfl) (Nat.le_of_ble_eq_true rfl) dX7_init_54 (fun q6 H hP hD hS => ?_)
  refine lv_dup hx hb dX7_init_57 rfl ?_
  refine nc_ctorN (M' := mX5_init) (n := 0) (As := []) (rest := [.ref q6, .ref h0]) hx hb hml hown hts hK hO hP hD hS hA (cn_X5 l dC dI cT q6 H.size) hN.1 li_X7_28 ⟨rfl, rfl, (Nat.le_of_ble_eq_true rfl), (Nat.le_of_ble_eq_true rfl)⟩ rfl hl.1 (Nat.le_of_ble_eq_true rfl) dX7_init_58 ⟨(Nat.le_of_ble_eq_true rfl), (Nat.le_of_ble_eq_true rfl)⟩ rfl (fun w1 H locs hw hP hD hS _ => ?_)
  obtain ⟨a6, rfl⟩ := hw
  have hP : va_P (dC, dI) vwCl ((h0, .inr (6, [.ref q1, .ref q2, .ref q3, .ref q4, .ref q5, .null, .null, .null, .null, .null, .null, .null, .null, .int 0, .long 0, .long 0, .int 0])) :: (T5 ++ wX5 cT q6 a6)) H := hP
  have hD : va_D A ((h0, .inr (6, [.ref q1, .ref q2, .ref q3, .ref q4, .ref q5, .null, .null, .null, .null, .null, .null, .null, .null, .int 0, .long 0, .long 0, .int 0])) :: (T5 ++ wX5 cT q6 a6)) := hD
  generalize hT6 : T5 ++ wX5 cT q6 a6 = T6 at hP hD
  refine va_putF (D := (dC, dI)) (ci := 6) (v := .ref q6) (ty := .object "YearWord$Speech") (C := RX7) (T := TX7) (N := 17) hx hb hts inX_X7 tyX7 tyX7_ok nmX7 hown hK hP hD hS 0 rfl rfl 5 (by decide) (hts _ (am_m2 32 rfl)) (fun _ h9 => h9) rfl hin rfl (by decide +kernel) rfl rfl (Nat.le_of_ble_eq_true rfl) dX7_init_61 (fun H locs hP hD hS => ?_)
  have hP : va_P (dC, dI) vwCl ((h0, .inr (6, [.ref q1, .ref q2, .ref q3, .ref q4, .ref q5, .ref q6, .null, .null, .null, .null, .null, .null, .null, .int 0, .long 0, .long 0, .int 0])) :: T6) H := hP
  have hD : va_D A ((h0, .inr (6, [.ref q1, .ref q2, .ref q3, .ref q4, .ref q5, .ref q6, .null, .null, .null, .null, .null, .null, .null, .int 0, .long 0, .long 0, .int 0])) :: T6) := hD
  refine lv_aload_n hx hb dX7_init_64 rfl (lv_at hl 0 rfl) ?_
  refine va_new (D := (dC, dI)) (ci := 3) (C := RX4) (T := TX4) (N := 4) (fs := [.null, .int 0, .int 0, .null]) hx hb hts inX_X4 tyX4 tyX4_ok hown (hts _ (am_m1 110 rfl)) (hts _ (am_m1 111 rfl)) (hts _ (am_m1 3 rfl)) hK hP hD hS hA rfl df_X4 (Nat.le_of_ble_eq_true rfl) (Nat.le_of_ble_eq_true rfl) dX7_init_65 (fun q7 H hP hD hS => ?_)
  refine lv_dup hx hb dX7_init_68 rfl ?_
  refine lv_aload_n hx hb dX7_init_69 rfl (lv_at hl 0 rfl) ?_
  refine va_get (D := (dC, dI)) (ci := 6) (v := .ref q6) (C := RX7) (T := TX7) (N := 17) hx hb hts inX_X7 hown hK hP 0 rfl rfl 5 (by decide) (hts _ (am_m2 32 rfl)) (fun _ h9 => h9) rfl dX7_init_70 ?_
  refine nc_ctor (M' := mX4_init) (n := 1) (As := [.ref q6]) (rest := [.ref q7, .ref h0]) hx hb hml hown hts hK hO hP hD hS hA (cn_X4 l dC dI cT q7 q6 H.size) li_X7_38 ⟨rfl, rfl, (Nat.le_of_ble_eq_true rfl), (Nat.le_of_ble_eq_true rfl)⟩ rfl hl.1 (Nat.le_of_ble_eq_true rfl) dX7_init_73 ⟨(Nat.le_of_ble_eq_true rfl), (Nat.le_of_ble_eq_true rfl)⟩ rfl (fun w1 H locs hw hP hD hS _ => ?_)
  obtain ⟨a7, rfl⟩ := hw
  have hP : va_P (dC, dI) vwCl ((h0, .inr (6, [.ref q1, .ref q2, .ref q3, .ref q4, .ref q5, .ref q6, .null, .null, .null, .null, .null, .null, .null, .int 0, .long 0, .long 0, .int 0])) :: (T6 ++ wX4 cT q7 q6 a7)) H := hP
  have hD : va_D A ((h0, .inr (6, [.ref q1, .ref q2, .ref q3, .ref q4, .ref q5, .ref q6, .null, .null, .null, .null, .null, .null, .null, .int 0, .long 0, .long 0, .int 0])) :: (T6 ++ wX4 cT q7 q6 a7)) := hD
  generalize hT7 : T6 ++ wX4 cT q7 q6 a7 = T7 at hP hD
  refine va_putF (D := (dC, dI)) (ci := 6) (v := .ref q7) (ty := .object "YearWord$Reader") (C := RX7) (T := TX7) (N := 17) hx hb hts inX_X7 tyX7 tyX7_ok nmX7 hown hK hP hD hS 0 rfl rfl 6 (by decide) (hts _ (am_m2 33 rfl)) (fun _ h9 => h9) rfl hin rfl (by decide +kernel) rfl rfl (Nat.le_of_ble_eq_true rfl) dX7_init_76 (fun H locs hP hD hS => ?_)
  have hP : va_P (dC, dI) vwCl ((h0, .inr (6, [.ref q1, .ref q2, .ref q3, .ref q4, .ref q5, .ref q6, .ref q7, .null, .null, .null, .null, .null, .null, .int 0, .long 0, .long 0, .int 0])) :: T7) H := hP
  have hD : va_D A ((h0, .inr (6, [.ref q1, .ref q2, .ref q3, .ref q4, .ref q5, .ref q6, .ref q7, .null, .null, .null, .null, .null, .null, .int 0, .long 0, .long 0, .int 0])) :: T7) := hD
  refine lv_aload_n hx hb dX7_init_79 rfl (lv_at hl 0 rfl) ?_
  refine va_new (D := (dC, dI)) (ci := 1) (C := RX2) (T := TX2) (N := 10) (fs := [.null, .null, .null, .null, .null, .null, .null, .null, .null, .null]) hx hb hts inX_X2 tyX2 tyX2_ok hown (hts _ (am_m1 129 rfl)) (hts _ (am_m1 130 rfl)) (hts _ (am_m1 4 rfl)) hK hP hD hS hA rfl df_X2 (Nat.le_of_ble_eq_true rfl) (Nat.le_of_ble_eq_true rfl) dX7_init_80 (fun q8 H hP hD hS => ?_)
  refine lv_dup hx hb dX7_init_83 rfl ?_
  refine lv_aload_n hx hb dX7_init_84 rfl (lv_at hl 0 rfl) ?_
  refine va_get (D := (dC, dI)) (ci := 6) (v := .ref q5) (C := RX7) (T := TX7) (N := 17) hx hb hts inX_X7 hown hK hP 0 rfl rfl 4 (by decide) (hts _ (am_m2 31 rfl)) (fun _ h9 => h9) rfl dX7_init_85 ?_
  refine nc_ctor (M' := mX2_init) (n := 1) (As := [.ref q5]) (rest := [.ref q8, .ref h0]) hx hb hml hown hts hK hO hP hD hS hA (cn_X2 l dC dI cT q8 q5 H.size) li_X7_47 ⟨rfl, rfl, (Nat.le_of_ble_eq_true rfl), (Nat.le_of_ble_eq_true rfl)⟩ rfl hl.1 (Nat.le_of_ble_eq_true rfl) dX7_init_88 ⟨(Nat.le_of_ble_eq_true rfl), (Nat.le_of_ble_eq_true rfl)⟩ rfl (fun w1 H locs hw hP hD hS _ => ?_)
  obtain ⟨a8, rfl⟩ := hw
  have hP : va_P (dC, dI) vwCl ((h0, .inr (6, [.ref q1, .ref q2, .ref q3, .ref q4, .ref q5, .ref q6, .ref q7, .null, .null, .null, .null, .null, .null, .int 0, .long 0, .long 0, .int 0])) :: (T7 ++ wX2 cT q8 q5 a8)) H := hP
  have hD : va_D A ((h0, .inr (6, [.ref q1, .ref q2, .ref q3, .ref q4, .ref q5, .ref q6, .ref q7, .null, .null, .null, .null, .null, .null, .int 0, .long 0, .long 0, .int 0])) :: (T7 ++ wX2 cT q8 q5 a8)) := hD
  generalize hT8 : T7 ++ wX2 cT q8 q5 a8 = T8 at hP hD
  refine va_putF (D := (dC, dI)) (ci := 6) (v := .ref q8) (ty := .object "YearWord$Outlook") (C := RX7) (T := TX7) (N := 17) hx hb hts inX_X7 tyX7 tyX7_ok nmX7 hown hK hP hD hS 0 rfl rfl 7 (by decide) (hts _ (am_m2 34 rfl)) (fun _ h9 => h9) rfl hin rfl (by decide +kernel) rfl rfl (Nat.le_of_ble_eq_true rfl) dX7_init_91 (fun H locs hP hD hS => ?_)
  have hP : va_P (dC, dI) vwCl ((h0, .inr (6, [.ref q1, .ref q2, .ref q3, .ref q4, .ref q5, .ref q6, .ref q7, .ref q8, .null, .null, .null, .null, .null, .int 0, .long 0, .long 0, .int 0])) :: T8) H := hP
  have hD : va_D A ((h0, .inr (6, [.ref q1, .ref q2, .ref q3, .ref q4, .ref q5, .ref q6, .ref q7, .ref q8, .null, .null, .null, .null, .null, .int 0, .long 0, .long 0, .int 0])) :: T8) := hD
  refine lv_aload_n hx hb dX7_init_94 rfl (lv_at hl 0 rfl) ?_
  refine va_new (D := (dC, dI)) (ci := 2) (C := RX3) (T := TX3) (N := 5) (fs := [.null, .null, .null, .null, .int 0]) hx hb hts inX_X3 tyX3 tyX3_ok hown (hts _ (am_m1 175 rfl)) (hts _ (am_m1 176 rfl)) (hts _ (am_m1 5 rfl)) hK hP hD hS hA rfl df_X3 (Nat.le_of_ble_eq_true rfl) (Nat.le_of_ble_eq_true rfl) dX7_init_95 (fun q9 H hP hD hS => ?_)
  refine lv_dup hx hb dX7_init_98 rfl ?_
  refine lv_aload_n hx hb dX7_init_99 rfl (lv_at hl 0 rfl) ?_
  refine va_get (D := (dC, dI)) (ci := 6) (v := .ref q5) (C := RX7) (T := TX7) (N := 17) hx hb hts inX_X7 hown hK hP 0 rfl rfl 4 (by decide) (hts _ (am_m2 31 rfl)) (fun _ h9 => h9) rfl dX7_init_100 ?_
  refine lv_aload_n hx hb dX7_init_103 rfl (lv_at hl 0 rfl) ?_
  refine va_get (D := (dC, dI)) (ci := 6) (v := .ref q8) (C := RX7) (T := TX7) (N := 17) hx hb hts inX_X7 hown hK hP 0 rfl rfl 7 (by decide) (hts _ (am_m2 34 rfl)) (fun _ h9 => h9) rfl dX7_init_104 ?_
  refine nc_ctor (M' := mX3_init) (n := 2) (As := [.ref q5, .ref q8]) (rest := [.ref q9, .ref h0]) hx hb hml hown hts hK hO hP hD hS hA (cn_X3 l dC dI cT q9 q5 q8 H.size) li_X7_54 ⟨rfl, rfl, (Nat.le_of_ble_eq_true rfl), (Nat.le_of_ble_eq_true rfl)⟩ rfl hl.1 (Nat.le_of_ble_eq_true rfl) dX7_init_107 ⟨(Nat.le_of_ble_eq_true rfl), (Nat.le_of_ble_eq_true rfl)⟩ rfl (fun w1 H locs hw hP hD hS _ => ?_)
  obtain ⟨a9, rfl⟩ := hw
  have hP : va_P (dC, dI) vwCl ((h0, .inr (6, [.ref q1, .ref q2, .ref q3, .ref q4, .ref q5, .ref q6, .ref q7, .ref q8, .null, .null, .null, .null, .null, .int 0, .long 0, .long 0, .int 0])) :: (T8 ++ wX3 cT q9 q5 q8 a9)) H := hP
  have hD : va_D A ((h0, .inr (6, [.ref q1, .ref q2, .ref q3, .ref q4, .ref q5, .ref q6, .ref q7, .ref q8, .null, .null, .null, .null, .null, .int 0, .long 0, .long 0, .int 0])) :: (T8 ++ wX3 cT q9 q5 q8 a9)) := hD
  generalize hT9 : T8 ++ wX3 cT q9 q5 q8 a9 = T9 at hP hD
  refine va_putF (D := (dC, dI)) (ci := 6) (v := .ref q9) (ty := .object "YearWord$Planner") (C := RX7) (T := TX7) (N := 17) hx hb hts inX_X7 tyX7 tyX7_ok nmX7 hown hK hP hD hS 0 rfl rfl 8 (by decide) (hts _ (am_m2 35 rfl)) (fun _ h9 => h9) rfl hin rfl (by decide +kernel) rfl rfl (Nat.le_of_ble_eq_true rfl) dX7_init_110 (fun H locs hP hD hS => ?_)
  have hP : va_P (dC, dI) vwCl ((h0, .inr (6, [.ref q1, .ref q2, .ref q3, .ref q4, .ref q5, .ref q6, .ref q7, .ref q8, .ref q9, .null, .null, .null, .null, .int 0, .long 0, .long 0, .int 0])) :: T9) H := hP
  have hD : va_D A ((h0, .inr (6, [.ref q1, .ref q2, .ref q3, .ref q4, .ref q5, .ref q6, .ref q7, .ref q8, .ref q9, .null, .null, .null, .null, .int 0, .long 0, .long 0, .int 0])) :: T9) := hD
  refine lv_aload_n hx hb dX7_init_113 rfl (lv_at hl 0 rfl) ?_
  refine va_new (D := (dC, dI)) (ci := 0) (C := RX1) (T := TX1) (N := 11) (fs := [.int 0, .int 0, .int 0, .null, .null, .null, .null, .null, .int 0, .int 0, .int 0]) hx hb hts inX_X1 tyX1 tyX1_ok hown (hts _ (am_m1 197 rfl)) (hts _ (am_m1 198 rfl)) (hts _ (am_m1 6 rfl)) hK hP hD hS hA rfl df_X1 (Nat.le_of_ble_eq_true rfl) (Nat.le_of_ble_eq_true rfl) dX7_init_114 (fun q10 H hP hD hS => ?_)
  refine lv_dup hx hb dX7_init_117 rfl ?_
  refine lv_aload_n hx hb dX7_init_118 rfl (lv_at hl 0 rfl) ?_
  refine va_get (D := (dC, dI)) (ci := 6) (v := .ref q5) (C := RX7) (T := TX7) (N := 17) hx hb hts inX_X7 hown hK hP 0 rfl rfl 4 (by decide) (hts _ (am_m2 31 rfl)) (fun _ h9 => h9) rfl dX7_init_119 ?_
  refine nc_ctor (M' := mX1_init) (n := 1) (As := [.ref q5]) (rest := [.ref q10, .ref h0]) hx hb hml hown hts hK hO hP hD hS hA (cn_X1 l dC dI cT q10 q5 H.size) li_X7_63 ⟨rfl, rfl, (Nat.le_of_ble_eq_true rfl), (Nat.le_of_ble_eq_true rfl)⟩ rfl hl.1 (Nat.le_of_ble_eq_true rfl) dX7_init_122 ⟨(Nat.le_of_ble_eq_true rfl), (Nat.le_of_ble_eq_true rfl)⟩ rfl (fun w1 H locs hw hP hD hS _ => ?_)
  obtain ⟨a10, rfl⟩ := hw
  have hP : va_P (dC, dI) vwCl ((h0, .inr (6, [.ref q1, .ref q2, .ref q3, .ref q4, .ref q5, .ref q6, .ref q7, .ref q8, .ref q9, .null, .null, .null, .null, .int 0, .long 0, .long 0, .int 0])) :: (T9 ++ wX1 cT q10 q5 a10)) H := hP
  have hD : va_D A ((h0, .inr (6, [.ref q1, .ref q2, .ref q3, .ref q4, .ref q5, .ref q6, .ref q7, .ref q8, .ref q9, .null, .null, .null, .null, .int 0, .long 0, .long 0, .int 0])) :: (T9 ++ wX1 cT q10 q5 a10)) := hD
  generalize hT10 : T9 ++ wX1 cT q10 q5 a10 = T10 at hP hD
  refine va_putF (D := (dC, dI)) (ci := 6) (v := .ref q10) (ty := .object "YearWord$Ear") (C := RX7) (T := TX7) (N := 17) hx hb hts inX_X7 tyX7 tyX7_ok nmX7 hown hK hP hD hS 0 rfl rfl 9 (by decide) (hts _ (am_m2 36 rfl)) (fun _ h9 => h9) rfl hin rfl (by decide +kernel) rfl rfl (Nat.le_of_ble_eq_true rfl) dX7_init_125 (fun H locs hP hD hS => ?_)
  have hP : va_P (dC, dI) vwCl ((h0, .inr (6, [.ref q1, .ref q2, .ref q3, .ref q4, .ref q5, .ref q6, .ref q7, .ref q8, .ref q9, .ref q10, .null, .null, .null, .int 0, .long 0, .long 0, .int 0])) :: T10) H := hP
  have hD : va_D A ((h0, .inr (6, [.ref q1, .ref q2, .ref q3, .ref q4, .ref q5, .ref q6, .ref q7, .ref q8, .ref q9, .ref q10, .null, .null, .null, .int 0, .long 0, .long 0, .int 0])) :: T10) := hD
  refine lv_aload_n hx hb dX7_init_128 rfl (lv_at hl 0 rfl) ?_
  refine va_new (D := (dC, dI)) (ci := 5) (C := RX6) (T := TX6) (N := 4) (fs := [.null, .null, .int 0, .int 0]) hx hb hts inX_X6 tyX6 tyX6_ok hown (hts _ (am_m2 1 rfl)) (hts _ (am_m2 2 rfl)) (hts _ (am_m1 7 rfl)) hK hP hD hS hA rfl df_X6 (Nat.le_of_ble_eq_true rfl) (Nat.le_of_ble_eq_true rfl) dX7_init_129 (fun q11 H hP hD hS => ?_)
  refine lv_dup hx hb dX7_init_132 rfl ?_
  refine nc_ctorN (M' := mX6_init) (n := 0) (As := []) (rest := [.ref q11, .ref h0]) hx hb hml hown hts hK hO hP hD hS hA (cn_X6 l dC dI cT q11 H.size) hN.2 li_X7_70 ⟨rfl, rfl, (Nat.le_of_ble_eq_true rfl), (Nat.le_of_ble_eq_true rfl)⟩ rfl hl.1 (Nat.le_of_ble_eq_true rfl) dX7_init_133 ⟨(Nat.le_of_ble_eq_true rfl), (Nat.le_of_ble_eq_true rfl)⟩ rfl (fun w1 H locs hw hP hD hS _ => ?_)
  obtain ⟨a11, rfl⟩ := hw
  have hP : va_P (dC, dI) vwCl ((h0, .inr (6, [.ref q1, .ref q2, .ref q3, .ref q4, .ref q5, .ref q6, .ref q7, .ref q8, .ref q9, .ref q10, .null, .null, .null, .int 0, .long 0, .long 0, .int 0])) :: (T10 ++ wX6 cT q11 a11)) H := hP
  have hD : va_D A ((h0, .inr (6, [.ref q1, .ref q2, .ref q3, .ref q4, .ref q5, .ref q6, .ref q7, .ref q8, .ref q9, .ref q10, .null, .null, .null, .int 0, .long 0, .long 0, .int 0])) :: (T10 ++ wX6 cT q11 a11)) := hD
  generalize hT11 : T10 ++ wX6 cT q11 a11 = T11 at hP hD
  refine va_putF (D := (dC, dI)) (ci := 6) (v := .ref q11) (ty := .object "YearWord$Years") (C := RX7) (T := TX7) (N := 17) hx hb hts inX_X7 tyX7 tyX7_ok nmX7 hown hK hP hD hS 0 rfl rfl 10 (by decide) (hts _ (am_m2 37 rfl)) (fun _ h9 => h9) rfl hin rfl (by decide +kernel) rfl rfl (Nat.le_of_ble_eq_true rfl) dX7_init_136 (fun H locs hP hD hS => ?_)
  have hP : va_P (dC, dI) vwCl ((h0, .inr (6, [.ref q1, .ref q2, .ref q3, .ref q4, .ref q5, .ref q6, .ref q7, .ref q8, .ref q9, .ref q10, .ref q11, .null, .null, .int 0, .long 0, .long 0, .int 0])) :: T11) H := hP
  have hD : va_D A ((h0, .inr (6, [.ref q1, .ref q2, .ref q3, .ref q4, .ref q5, .ref q6, .ref q7, .ref q8, .ref q9, .ref q10, .ref q11, .null, .null, .int 0, .long 0, .long 0, .int 0])) :: T11) := hD
  refine lv_aload_n hx hb dX7_init_139 rfl (lv_at hl 0 rfl) ?_
  refine lv_iconst (v := 3) hx hb dX7_init_140 (by decide) ?_
  refine va_newq (D := (dC, dI)) (C := "YearWord$Years") hx hb hown (hts _ (am_m2 1 rfl)) hO.2.2 hK hP hD hS hA (N' := 3) (by decide) (by decide) (by decide) (Nat.le_of_ble_eq_true rfl) (Nat.le_of_ble_eq_true rfl) dX7_init_141 (fun q12 cA H hK9 hP hD hS => ?_)
  have eA : cA = cT 6 := by
    obtain ⟨kA, cp, h1, h2, h3, h4⟩ := (hK9.2 7 _ rfl).2
    obtain ⟨kA, cp, h1, h2, h3, h5⟩ := (hK.2 6 _ rfl).2
    exact Option.some.inj (h4.symm.trans h5)
  subst eA
  have hP : va_P (dC, dI) vwCl ((h0, .inr (6, [.ref q1, .ref q2, .ref q3, .ref q4, .ref q5, .ref q6, .ref q7, .ref q8, .ref q9, .ref q10, .ref q11, .null, .null, .int 0, .long 0, .long 0, .int 0])) :: (T11 ++ [(q12, .inl (cT 6, (3, .inr (.inr (.inr (.inr (fun _ => none)))))))])) H := hP
  have hD : va_D A ((h0, .inr (6, [.ref q1, .ref q2, .ref q3, .ref q4, .ref q5, .ref q6, .ref q7, .ref q8, .ref q9, .ref q10, .ref q11, .null, .null, .int 0, .long 0, .long 0, .int 0])) :: (T11 ++ [(q12, .inl (cT 6, (3, .inr (.inr (.inr (.inr (fun _ => none)))))))])) := hD
  generalize hT12 : T11 ++ [(q12, .inl (cT 6, (3, .inr (.inr (.inr (.inr (fun _ => none)))))))] = T12 at hP hD
  refine va_putF (D := (dC, dI)) (ci := 6) (v := .ref q12) (ty := .array (.object "YearWord$Years")) (C := RX7) (T := TX7) (N := 17) hx hb hts inX_X7 tyX7 tyX7_ok nmX7 hown hK hP hD hS 0 rfl rfl 11 (by decide) (hts _ (am_m2 38 rfl)) (fun _ h9 => h9) rfl hin rfl (by decide +kernel) rfl rfl (Nat.le_of_ble_eq_true rfl) dX7_init_144 (fun H locs hP hD hS => ?_)
  have hP : va_P (dC, dI) vwCl ((h0, .inr (6, [.ref q1, .ref q2, .ref q3, .ref q4, .ref q5, .ref q6, .ref q7, .ref q8, .ref q9, .ref q10, .ref q11, .ref q12, .null, .int 0, .long 0, .long 0, .int 0])) :: T12) H := hP
  have hD : va_D A ((h0, .inr (6, [.ref q1, .ref q2, .ref q3, .ref q4, .ref q5, .ref q6, .ref q7, .ref q8, .ref q9, .ref q10, .ref q11, .ref q12, .null, .int 0, .long 0, .long 0, .int 0])) :: T12) := hD
  refine lv_aload_n hx hb dX7_init_147 rfl (lv_at hl 0 rfl) ?_
  refine lv_bipush (v := 6) hx hb dX7_init_148 (by decide) ?_
  refine nc_newa (t := 0) (ty := .int) (N' := 6) (a0 := (6, .inl (fun _ => 0))) hx hb (hts _ (am_m1 108 rfl)) rfl hK rfl (fun a b x y => Option.some.inj (x.symm.trans y)) hP hD hS hA (fun _ => rfl) (by decide) (by decide) (by decide) (Nat.le_of_ble_eq_true rfl) (Nat.le_of_ble_eq_true rfl) dX7_init_150 (fun q13 H hP hD hS => ?_)
  have hP : va_P (dC, dI) vwCl ((h0, .inr (6, [.ref q1, .ref q2, .ref q3, .ref q4, .ref q5, .ref q6, .ref q7, .ref q8, .ref q9, .ref q10, .ref q11, .ref q12, .null, .int 0, .long 0, .long 0, .int 0])) :: (T12 ++ [(q13, .inl (cT 0, (6, .inl (fun _ => 0))))])) H := hP
  have hD : va_D A ((h0, .inr (6, [.ref q1, .ref q2, .ref q3, .ref q4, .ref q5, .ref q6, .ref q7, .ref q8, .ref q9, .ref q10, .ref q11, .ref q12, .null, .int 0, .long 0, .long 0, .int 0])) :: (T12 ++ [(q13, .inl (cT 0, (6, .inl (fun _ => 0))))])) := hD
  generalize hT13 : T12 ++ [(q13, .inl (cT 0, (6, .inl (fun _ => 0))))] = T13 at hP hD
  refine va_putF (D := (dC, dI)) (ci := 6) (v := .ref q13) (ty := .array .int) (C := RX7) (T := TX7) (N := 17) hx hb hts inX_X7 tyX7 tyX7_ok nmX7 hown hK hP hD hS 0 rfl rfl 12 (by decide) (hts _ (am_m2 39 rfl)) (fun _ h9 => h9) rfl hin rfl (by decide +kernel) rfl rfl (Nat.le_of_ble_eq_true rfl) dX7_init_152 (fun H locs hP hD hS => ?_)
  have hP : va_P (dC, dI) vwCl ((h0, .inr (6, [.ref q1, .ref q2, .ref q3, .ref q4, .ref q5, .ref q6, .ref q7, .ref q8, .ref q9, .ref q10, .ref q11, .ref q12, .ref q13, .int 0, .long 0, .long 0, .int 0])) :: T13) H := hP
  have hD : va_D A ((h0, .inr (6, [.ref q1, .ref q2, .ref q3, .ref q4, .ref q5, .ref q6, .ref q7, .ref q8, .ref q9, .ref q10, .ref q11, .ref q12, .ref q13, .int 0, .long 0, .long 0, .int 0])) :: T13) := hD
  refine lv_aload_n hx hb dX7_init_155 rfl (lv_at hl 0 rfl) ?_
  refine lv_lconst (v := 1) hx hb dX7_init_156 (by decide) ?_
  refine va_put (D := (dC, dI)) (ci := 6) (v := .long 1) (ty := .long) (C := RX7) (T := TX7) (N := 17) hx hb hts inX_X7 tyX7 tyX7_ok nmX7 hown hK hP hD hS 0 rfl rfl 15 (by decide) (hts _ (am_m2 42 rfl)) (fun _ h9 => h9) rfl (by decide +kernel) rfl rfl (Nat.le_of_ble_eq_true rfl) dX7_init_157 (fun H locs hP hD hS => ?_)
  have hP : va_P (dC, dI) vwCl ((h0, .inr (6, [.ref q1, .ref q2, .ref q3, .ref q4, .ref q5, .ref q6, .ref q7, .ref q8, .ref q9, .ref q10, .ref q11, .ref q12, .ref q13, .int 0, .long 0, .long 1, .int 0])) :: T13) H := hP
  have hD : va_D A ((h0, .inr (6, [.ref q1, .ref q2, .ref q3, .ref q4, .ref q5, .ref q6, .ref q7, .ref q8, .ref q9, .ref q10, .ref q11, .ref q12, .ref q13, .int 0, .long 0, .long 1, .int 0])) :: T13) := hD
  refine lv_aload_n hx hb dX7_init_160 rfl (lv_at hl 0 rfl) ?_
  refine va_get (D := (dC, dI)) (ci := 6) (v := .ref q2) (C := RX7) (T := TX7) (N := 17) hx hb hts inX_X7 hown hK hP 0 rfl rfl 1 (by decide) (hts _ (am_m2 28 rfl)) (fun _ h9 => h9) rfl dX7_init_161 ?_
  refine lv_iconst (v := -1) hx hb dX7_init_164 (by decide) ?_
  subst hT1
  subst hT2
  subst hT3
  subst hT4
  subst hT5
  subst hT6
  subst hT7
  subst hT8
  subst hT9
  subst hT10
  subst hT11
  subst hT12
  subst hT13
  have hP : va_P (dC, dI) vwCl (wX7a cT h0 q1 q2 q3 q4 q5 q6 q7 q8 q9 q10 q11 q12 q13 a5 a6 a7 a8 a9 a10 a11 (fun _ => 0) (fun _ => 0) ++ [w7k cT q12 (fun _ => none), (q13, .inl (cT 0, (6, .inl (fun _ => 0))))]) H := hP
  have hD : va_D A (wX7a cT h0 q1 q2 q3 q4 q5 q6 q7 q8 q9 q10 q11 q12 q13 a5 a6 a7 a8 a9 a10 a11 (fun _ => 0) (fun _ => 0) ++ [w7k cT q12 (fun _ => none), (q13, .inl (cT 0, (6, .inl (fun _ => 0))))]) := hD
  refine nc_fill (i := 8) (len := 6) (rest := []) hx hb hml hown hts hK hP hD hS hA rfl (by decide) lk_X7_86 ⟨(Nat.le_of_ble_eq_true rfl), (Nat.le_of_ble_eq_true rfl)⟩ hl.1 (Nat.le_of_ble_eq_true rfl) dX7_init_165 ⟨(Nat.le_of_ble_eq_true rfl), (Nat.le_of_ble_eq_true rfl)⟩ (fun H locs hP hD hS => ?_)
  have hP : va_P (dC, dI) vwCl (wX7a cT h0 q1 q2 q3 q4 q5 q6 q7 q8 q9 q10 q11 q12 q13 a5 a6 a7 a8 a9 a10 a11 (nc_m1 6) (fun _ => 0) ++ [w7k cT q12 (fun _ => none), (q13, .inl (cT 0, (6, .inl (fun _ => 0))))]) H := hP
  have hD : va_D A (wX7a cT h0 q1 q2 q3 q4 q5 q6 q7 q8 q9 q10 q11 q12 q13 a5 a6 a7 a8 a9 a10 a11 (nc_m1 6) (fun _ => 0) ++ [w7k cT q12 (fun _ => none), (q13, .inl (cT 0, (6, .inl (fun _ => 0))))]) := hD
  refine lv_aload_n hx hb dX7_init_168 rfl (lv_at hl 0 rfl) ?_
  refine va_get (D := (dC, dI)) (ci := 6) (v := .ref q4) (C := RX7) (T := TX7) (N := 17) hx hb hts inX_X7 hown hK hP 0 rfl rfl 3 (by decide) (hts _ (am_m2 30 rfl)) (fun _ h9 => h9) rfl dX7_init_169 ?_
  refine lv_iconst (v := -1) hx hb dX7_init_172 (by decide) ?_
  refine nc_fill (i := 14) (len := 4) (rest := []) hx hb hml hown hts hK hP hD hS hA rfl (by decide) lk_X7_86 ⟨(Nat.le_of_ble_eq_true rfl), (Nat.le_of_ble_eq_true rfl)⟩ hl.1 (Nat.le_of_ble_eq_true rfl) dX7_init_173 ⟨(Nat.le_of_ble_eq_true rfl), (Nat.le_of_ble_eq_true rfl)⟩ (fun H locs hP hD hS => ?_)
  have hP : va_P (dC, dI) vwCl (wX7a cT h0 q1 q2 q3 q4 q5 q6 q7 q8 q9 q10 q11 q12 q13 a5 a6 a7 a8 a9 a10 a11 (nc_m1 6) (nc_m1 4) ++ [w7k cT q12 (fun _ => none), (q13, .inl (cT 0, (6, .inl (fun _ => 0))))]) H := hP
  have hD : va_D A (wX7a cT h0 q1 q2 q3 q4 q5 q6 q7 q8 q9 q10 q11 q12 q13 a5 a6 a7 a8 a9 a10 a11 (nc_m1 6) (nc_m1 4) ++ [w7k cT q12 (fun _ => none), (q13, .inl (cT 0, (6, .inl (fun _ => 0))))]) := hD
  refine lv_iconst (v := 0) hx hb dX7_init_176 (by decide) ?_
  refine lv_istore_n (lv' := [(1, .int 0), (0, .ref h0)]) hx hb dX7_init_177 rfl hl (by decide) rfl (fun ls hl => ?_)
  refine n7_loop (P := wX7a cT h0 q1 q2 q3 q4 q5 q6 q7 q8 q9 q10 q11 q12 q13 a5 a6 a7 a8 a9 a10 a11 (nc_m1 6) (nc_m1 4)) hx hb hml hown hts hK hO hN hA rfl rfl rfl ⟨(Nat.le_of_ble_eq_true rfl), (Nat.le_of_ble_eq_true rfl), (Nat.le_of_ble_eq_true rfl), (Nat.le_of_ble_eq_true rfl)⟩ hP hD hS hl (fun q14 q15 q16 a14 a15 a16 H locs ls hP hD hS => ?_)
  have hP : va_P (dC, dI) vwCl (wX7 cT h0 q1 q2 q3 q4 q5 q6 q7 q8 q9 q10 q11 q12 q13 q14 q15 q16 a5 a6 a7 a8 a9 a10 a11 a14 a15 a16) H := hP
  have hD : va_D A (wX7 cT h0 q1 q2 q3 q4 q5 q6 q7 q8 q9 q10 q11 q12 q13 q14 q15 q16 a5 a6 a7 a8 a9 a10 a11 a14 a15 a16) := hD
  obtain ⟨hP, hD⟩ := nc_key (h := hI) [0, 1, 2, 3, 4, 5, 6, 7, 8, 9, 10, 11, 12, 13, 14, 15, 16, 17, 18, 19, 20, 21, 22, 23, 24, 25, 26, 27, 28, 29, 30, 31, 32, 33, 34, 35, 36, 37, 38, 39, 40, 41, 42, 43, 44, 45, 46, 47, 48, 49, 50, 51, 52, 53, 54, 55, 56, 57, 58, 59, 60, 61, 62, 63, 64, 65, 66, 67, 68, 69, 70, 71, 73, 76, 79, 74, 75, 77, 78, 80, 81, 72] (by decide) rfl hP hD cv_X7
  refine W.widen (k := 81) (n := 7010) (by decide) (by decide) ?_
  exact W.vret hx hb hr (fun t ht hW => ⟨⟨rfl, _, ⟨(aX7 h0 q1 q2 q3 q4 q5 q6 q7 q8 q9 q10 q11 q12 q13 q14 q15 q16 a5 a6 a7 a8 a9 a10 a11 a14 a15 a16), rfl, rfl⟩, by rw [ht]; exact hP, va_K.moved hW.alike hK, hD⟩, hS.F ht⟩) hS.2.2 dX7_init_212
