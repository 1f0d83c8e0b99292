/-- from the entry, for every script of at most 384 ints, the law comes to its end with true -/
theorem whole_start {p : Program} {e : Env} {s : State} {m : MethodId} {below : List Frame} {meth : Method} {c : Code} (l : Launch) {b L : Nat} {xs : Nat → Int32} (hL : L ≤ 384) (C0 : lw_At p s m meth c b L xs) : W p l e room_1 s m #[Value.ref b] below meth c s.heap [] 0 0 (lw_Z below #[Value.ref b] s) (entryFrame m ([Value.ref b] : List Value).toArray 4) := by
  have hx := C0.1
  have hb := C0.2.1
  have hml := C0.2.2.2.1
  have hown : s.vm.findClass RL = some m.cls := C0.2.2.2.2.1
  have ht := C0.2.2.2.2.2.1
  have hts : ∀ w ∈ am_tb, w.before #[Value.ref b] s = true := fun w hw => ht w (List.mem_filter.mp hw).1
  obtain ⟨hO, hN⟩ := k_ov ht
  obtain ⟨dC, dI, cT, hK⟩ := k_all ht hts
  have hA : ∀ q : Nat, s.heap.size ≤ q → (fun q : Nat => s.heap.size ≤ q) q := fun q h => h
  have hP : va_P (dC, dI) vwCl [] s.heap := fun k q hq => by simp at hq
  have hD : va_D (fun q : Nat => s.heap.size ≤ q) [] := ⟨fun i j x y hx => by simp at hx, fun i x hx => by simp at hx⟩
  have hS : va_S (fun q : Nat => s.heap.size ≤ q) s.heap s.heap [] := va_S.rf
  have hl := lv_entry ([.ref b]) (n := 4) (Nat.le_of_ble_eq_true rfl)
  rw [lg_entry_eq]
  generalize (lg_sl ([.ref b]) ++ List.replicate (4 - (lg_sl ([.ref b])).length) Slot.unset).toArray = ls at hl ⊢
  have hl : lv_has ls 4 [(0, .ref b)] := hl
  refine va_new (D := (dC, dI)) (ci := 6) (C := RX7) (T := TX7) (N := 17) (fs := [.null, .null, .null, .null, .null, .null, .null, .null, .null, .null, .null, .null, .null, .int 0, .long 0, .long 0, .int 0]) hx hb hts inX_X7 tyX7 tyX7_ok hown (hts _ (am_m1 14 rfl)) (hts _ (am_m1 15 rfl)) (hts _ (am_m1 1 rfl)) hK hP hD hS hA rfl df_X7 (Nat.le_of_ble_eq_true rfl) (Nat.le_of_ble_eq_true rfl) dL_law_0 (fun q1 H hP hD hS => ?_)
  refine lv_dup hx hb dL_law_3 rfl ?_
  refine nc_ctorX (ws := []) (M' := mX7_init) (n := 0) (As := []) (rest := [.ref q1]) hx hb hml hown hts hK hO hN hP hD hS hA (cn_X7 l dC dI cT q1 H.size) li_L_9 ⟨rfl, rfl, (Nat.le_of_ble_eq_true rfl), (Nat.le_of_ble_eq_true rfl)⟩ rfl hl.1 (Nat.le_of_ble_eq_true rfl) dL_law_4 ⟨(Nat.le_of_ble_eq_true rfl), (Nat.le_of_ble_eq_true rfl)⟩ rfl (fun w1 H locs hw hP hD hS _ => ?_)
  obtain ⟨ad, had, hW1⟩ := hw
  rw [List.nil_append] at hP hD
  refine lv_astore_n (lv' := [(1, .ref q1), (0, .ref b)]) hx hb dL_law_7 rfl hl (by decide) rfl (fun ls hl => ?_)
  refine va_new (D := (dC, dI)) (ci := 7) (C := RX8) (T := TX8) (N := 51) (fs := [.null, .null, .null, .null, .null, .null, .int 0, .null, .null, .null, .int 0, .null, .null, .null, .null, .int 0, .null, .null, .int 0, .int 0, .int 0, .long 0, .long 0, .int 0, .null, .null, .int 0, .null, .null, .int 0, .null, .int 0, .null, .int 0, .null, .null, .null, .null, .null, .null, .null, .null, .null, .null, .null, .null, .null, .null, .int 0, .null, .long 0]) hx hb hts inX_X8 tyX8 tyX8_ok hown (hts _ (am_m4 216 rfl)) (hts _ (am_m4 217 rfl)) (hts _ (am_m1 9 rfl)) hK hP hD hS hA rfl df_X8 (Nat.le_of_ble_eq_true rfl) (Nat.le_of_ble_eq_true rfl) dL_law_8 (fun q2 H hP hD hS => ?_)
  refine lv_dup hx hb dL_law_11 rfl ?_
  refine nc_ctor (ws := w1) (M' := mX8_init) (n := 0) (As := []) (rest := [.ref q2]) hx hb hml hown hts hK hO hP hD hS hA (cn_X8 l dC dI cT q2 H.size) li_L_12 ⟨rfl, rfl, (Nat.le_of_ble_eq_true rfl), (Nat.le_of_ble_eq_true rfl)⟩ rfl hl.1 (Nat.le_of_ble_eq_true rfl) dL_law_12 ⟨(Nat.le_of_ble_eq_true rfl), (Nat.le_of_ble_eq_true rfl)⟩ rfl (fun w2 H locs hw hP hD hS _ => ?_)
  obtain ⟨a, hW2⟩ := hw
  rw [hW2, wX8_eq] at hP hD
  have had2 : (wA [q2, a 1, a 2, a 3, a 4, a 5, a 6, a 7, a 8, a 9, a 10, a 11, a 12, a 13, a 14, a 15, a 16, a 17, a 18, a 19, a 20, a 21, a 22, a 23, a 24, a 25, a 26, a 27, a 28, a 29, a 30, a 31, a 32, a 33, a 34, a 35, a 36]) 0 = q2 := rfl
  generalize (wA [q2, a 1, a 2, a 3, a 4, a 5, a 6, a 7, a 8, a 9, a 10, a 11, a 12, a 13, a 14, a 15, a 16, a 17, a 18, a 19, a 20, a 21, a 22, a 23, a 24, a 25, a 26, a 27, a 28, a 29, a 30, a 31, a 32, a 33, a 34, a 35, a 36]) = ad2 at hP hD had2
  refine lv_astore_n (lv' := [(2, .ref q2), (1, .ref q1), (0, .ref b)]) hx hb dL_law_15 rfl hl (by decide) rfl (fun ls hl => ?_)
  refine lv_iconst (v := 0) hx hb dL_law_16 (by decide) ?_
  refine lv_istore_n (lv' := [(3, .int 0), (2, .ref q2), (1, .ref q1), (0, .ref b)]) hx hb dL_law_17 rfl hl (by decide) rfl (fun ls hl => ?_)
  refine W.widen (k := 600000) (n := 7302250) (Nat.le_of_ble_eq_true rfl) (Nat.le_of_ble_eq_true rfl) ?_
  rw [hW1] at hP hD
  have gl : GC.length = 82 := rfl
  have ml : GM.length = 37 := rfl
  have ok : lc_ok (p, l, e, s, m, below, meth, c, b, L, xs, dC, dI, cT, ad, ad2) := by
    refine ⟨C0, hL, hK, fun i j hi hj he => ?_, fun i hi => ?_, fun i j hi hj he => ?_, fun i hi => ?_, fun i j hi hj he => ?_⟩
    · obtain ⟨x, hx1⟩ := nc_at1 (cT := cT) (ad := ad) (h := hI) (w2 := am_W cT ad2 GM gI) (show i < GC.length by omega)
      obtain ⟨y, hy1⟩ := nc_at1 (cT := cT) (ad := ad) (h := hI) (w2 := am_W cT ad2 GM gI) (show j < GC.length by omega)
      exact hD.1 _ _ _ _ hx1 hy1 he
    · obtain ⟨x, hx1⟩ := nc_at1 (cT := cT) (ad := ad) (h := hI) (w2 := am_W cT ad2 GM gI) (show i < GC.length by omega)
      exact hD.2 _ _ hx1
    · obtain ⟨x, hx1⟩ := nc_at2 (cT := cT) (ad := ad) (ad2 := ad2) (G := GC) (h := hI) (g := gI) (show i < GM.length by omega)
      obtain ⟨y, hy1⟩ := nc_at2 (cT := cT) (ad := ad) (ad2 := ad2) (G := GC) (h := hI) (g := gI) (show j < GM.length by omega)
      have := hD.1 _ _ _ _ hx1 hy1 he
      omega
    · obtain ⟨x, hx1⟩ := nc_at2 (cT := cT) (ad := ad) (ad2 := ad2) (G := GC) (h := hI) (g := gI) (show i < GM.length by omega)
      exact hD.2 _ _ hx1
    · obtain ⟨x, hx1⟩ := nc_at1 (cT := cT) (ad := ad) (h := hI) (w2 := am_W cT ad2 GM gI) (show i < GC.length by omega)
      obtain ⟨y, hy1⟩ := nc_at2 (cT := cT) (ad := ad) (ad2 := ad2) (G := GC) (h := hI) (g := gI) (show j < GM.length by omega)
      have := hD.1 _ _ _ _ hx1 hy1 he
      omega
  have hLs : am_Ls (lw_ad ad ad2 b) ls 4 [some (am_R 2), some (am_R 0), some (am_R 1), some (am_I 0)] := by
    refine ⟨hl.1, hl.2.1, fun i v hv => ?_⟩
    match i, hv with
    | 0, hv => cases hv; exact lv_at hl 3 rfl
    | 1, hv =>
      cases hv
      show ls[1]? = some (.val (.ref (ad 0)))
      rw [had]
      exact lv_at hl 2 rfl
    | 2, hv =>
      cases hv
      show ls[2]? = some (.val (.ref (ad2 0)))
      rw [had2]
      exact lv_at hl 1 rfl
    | 3, hv => cases hv; exact lv_at hl 0 rfl
    | j + 4, hv => exact absurd hv (by simp)
  exact law_loop ok (L + 1) 0 hI gI (by decide) (by decide) (by show (L : Int) - 0 < ((L + 1 : Nat) : Int); omega) hI_rel gI_ok H _ ls (nc_left hP) (nc_right hP) hS hLs
