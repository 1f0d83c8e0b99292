/-! the class's speech by the reference's -/
def SpR (h g : am_H) : Prop := (h 15 0 = g 0 6 ∧ h 15 1 = g 0 10 ∧ h 15 2 = g 0 15) ∧ (∀ x : Int, 0 ≤ x → x < g 0 6 → h 16 x = g 5 x ∧ h 17 x = (if fin (g 5 x) then g 6 x else -1) ∧ h 18 x = dgF g x) ∧ (∀ (x : Int) (j : Nat) (w : Int), 0 ≤ x → x < g 0 6 → (wl (g 7) x (nwN g))[j]? = some w → h 19 (x * 4 + j) = w) ∧ (∀ k : Int, 0 ≤ k → k < g 0 10 → h 20 k = g 7 k ∧ h 21 k = g 8 k ∧ h 22 k = g 9 k) ∧ ∀ d : Int, 0 ≤ d → d < g 0 15 → h 23 d = g 10 d ∧ h 24 d = g 11 d ∧ h 25 d = g 12 d ∧ h 26 d = g 13 d
theorem SpR.of {h h' g : am_H} (hR : SpR h g) (hc : ∀ c : Int, 15 ≤ c → c ≤ 26 → h' c = h c) : SpR h' g := by
  unfold SpR
  rw [hc 15 (by decide) (by decide), hc 16 (by decide) (by decide), hc 17 (by decide) (by decide), hc 18 (by decide) (by decide), hc 19 (by decide) (by decide), hc 20 (by decide) (by decide), hc 21 (by decide) (by decide), hc 22 (by decide) (by decide), hc 23 (by decide) (by decide), hc 24 (by decide) (by decide), hc 25 (by decide) (by decide), hc 26 (by decide) (by decide)]
  exact hR
theorem dg_len (g : am_H) (x : Int) : ((wl (g 7) x (nwN g)).length : Int) = dgF g x := wl_len _ _ _
theorem sp_at {h g : am_H} (hs : MVs g) (hR : SpR h g) {x : Int} (hx : 0 ≤ x ∧ x < g 0 6) {j : Nat} (hj : (j : Int) < dgF g x) : ∃ w : Int, (wl (g 7) x (nwN g))[j]? = some w ∧ h 19 (x * 4 + j) = w ∧ (0 ≤ w ∧ w < g 0 10) ∧ g 7 w = x := by
  have hl := dg_len g x
  have hlt : j < (wl (g 7) x (nwN g)).length := by omega
  refine ⟨(wl (g 7) x (nwN g))[j], List.getElem?_eq_getElem hlt, hR.2.2.1 x j _ hx.1 hx.2 (List.getElem?_eq_getElem hlt), ?_⟩
  obtain ⟨a, b, c⟩ := wl_mem.mp (List.getElem_mem hlt)
  have en : (nwN g : Int) = g 0 10 := by unfold nwN; have := hs.2.1; omega
  exact ⟨⟨a, by omega⟩, c⟩
theorem tk_fold {γ : Type} {L : List Int} {j : Nat} {w : Int} (h : L[j]? = some w) (f : γ → Int → γ) (s : γ) : (L.take (j + 1)).foldl f s = f ((L.take j).foldl f s) w := by
  rw [List.take_add_one, h, List.foldl_append]; rfl
theorem tk_all {γ : Type} {L : List Int} {j : Nat} (h : L.length = j) (f : γ → Int → γ) (s : γ) : (L.take j).foldl f s = L.foldl f s := by
  rw [← h, List.take_length]
theorem c_X5_wordAt {h : am_H} {x j : Int} (hx : 0 ≤ x * 4 + j ∧ x * 4 + j < 36) : AMet GC mX5_wordAt 1 [am_R 15, am_I x, am_I j] h (am_FI (h 19 (x * 4 + j)) h) := by
  refine am_start [some (am_R 15), some (am_I x), some (am_I j)] rfl rfl (by decide) (Nat.le_of_ble_eq_true rfl) ?_
  refine aw_aload_n dX5_wordAt_0 rfl ?_
  refine aw_getR (kx := 6) fl_X5_21 dX5_wordAt_1 rfl rfl rfl ?_
  refine aw_iload_n dX5_wordAt_4 rfl ?_
  refine aw_iconst dX5_wordAt_5 ?_
  refine aw_imul dX5_wordAt_6 ?_
  refine aw_iload_n dX5_wordAt_7 rfl ?_
  refine aw_iadd dX5_wordAt_8 ?_
  refine aw_iaload dX5_wordAt_9 rfl (by decide) (by omega) ?_
  refine aw_iretF dX5_wordAt_10 rfl ?_
  exact ⟨rfl, rfl⟩
theorem c_X5_isEnd {h g : am_H} {x : Int} (hs : MVs g) (hR : SpR h g) (hx : 0 ≤ x ∧ x < g 0 6) : AMet GC mX5_isEnd 1 [am_R 15, am_I x] h (am_FI (if fin (g 5 x) then 1 else 0) h) := by
  have hnn := hs.1
  have hk := (hR.2.1 x hx.1 hx.2).1
  have hkr := (hs.2.2.2.1 x hx.1 hx.2).1
  refine am_start [some (am_R 15), some (am_I x)] rfl rfl (by decide) (Nat.le_of_ble_eq_true rfl) ?_
  refine aw_aload_n dX5_isEnd_0 rfl ?_
  refine aw_getR (kx := 3) fl_X5_9 dX5_isEnd_1 rfl rfl rfl ?_
  refine aw_iload_n dX5_isEnd_4 rfl ?_
  refine aw_iaload dX5_isEnd_5 rfl (by decide) (by omega) ?_
  refine aw_iconst dX5_isEnd_6 ?_
  refine aw_icmp_eq (tgt := 20) dX5_isEnd_7 rfl (by omega) (by omega) (fun hc7 => ?_) (fun hc7 => ?_)
  · refine aw_iconst dX5_isEnd_20 ?_
    refine aw_goto (tgt := 25) dX5_isEnd_21 rfl ?_
    refine aw_zretF dX5_isEnd_25 rfl (by omega) ?_
    exact ⟨by split <;> omega, rfl⟩
  · refine aw_aload_n dX5_isEnd_10 rfl ?_
    refine aw_getR (kx := 3) fl_X5_9 dX5_isEnd_11 rfl rfl rfl ?_
    refine aw_iload_n dX5_isEnd_14 rfl ?_
    refine aw_iaload dX5_isEnd_15 rfl (by decide) (by omega) ?_
    refine aw_iconst dX5_isEnd_16 ?_
    refine aw_icmp_ne (tgt := 24) dX5_isEnd_17 rfl (by omega) (by omega) (fun hc17 => ?_) (fun hc17 => ?_)
    · refine aw_iconst dX5_isEnd_24 ?_
      refine aw_zretF dX5_isEnd_25 rfl (by omega) ?_
      exact ⟨by split <;> omega, rfl⟩
    · refine aw_iconst dX5_isEnd_20 ?_
      refine aw_goto (tgt := 25) dX5_isEnd_21 rfl ?_
      refine aw_zretF dX5_isEnd_25 rfl (by omega) ?_
      exact ⟨by split <;> omega, rfl⟩
theorem c_X5_isOver {h g : am_H} {x : Int} (hs : MVs g) (hR : SpR h g) (hx : 0 ≤ x ∧ x < g 0 6) : AMet GC mX5_isOver 1 [am_R 15, am_I x] h (am_FI (if dgF g x = 0 then 1 else 0) h) := by
  have hnn := hs.1
  have hk := (hR.2.1 x hx.1 hx.2).2.2
  have hd4 : dgF g x ≤ 4 := hs.2.2.2.2.2.2.1 x
  have hd0 : 0 ≤ dgF g x := (cntF_rng _ _ _).1
  refine am_start [some (am_R 15), some (am_I x)] rfl rfl (by decide) (Nat.le_of_ble_eq_true rfl) ?_
  refine aw_aload_n dX5_isOver_0 rfl ?_
  refine aw_getR (kx := 5) fl_X5_18 dX5_isOver_1 rfl rfl rfl ?_
  refine aw_iload_n dX5_isOver_4 rfl ?_
  refine aw_iaload dX5_isOver_5 rfl (by decide) (by omega) ?_
  refine aw_if_ne (tgt := 13) dX5_isOver_6 rfl (by omega) (fun hc6 => ?_) (fun hc6 => ?_)
  · refine aw_iconst dX5_isOver_13 ?_
    refine aw_zretF dX5_isOver_14 rfl (by omega) ?_
    exact ⟨by split <;> omega, rfl⟩
  · refine aw_iconst dX5_isOver_9 ?_
    refine aw_goto (tgt := 14) dX5_isOver_10 rfl ?_
    refine aw_zretF dX5_isOver_14 rfl (by omega) ?_
    exact ⟨by split <;> omega, rfl⟩
theorem c_X5_isOfKind {h g : am_H} {x k : Int} (hs : MVs g) (hR : SpR h g) (hx : 0 ≤ x ∧ x < g 0 6) (hk : 1 ≤ k ∧ k ≤ 5) : AMet GC mX5_isOfKind 1 [am_R 15, am_I x, am_I k] h (am_FI (if isK (g 5 x) k then 1 else 0) h) := by
  have hnn := hs.1
  have hk := (hR.2.1 x hx.1 hx.2).1
  have hkr := (hs.2.2.2.1 x hx.1 hx.2).1
  refine am_start [some (am_R 15), some (am_I x), some (am_I k)] rfl rfl (by decide) (Nat.le_of_ble_eq_true rfl) ?_
  refine aw_aload_n dX5_isOfKind_0 rfl ?_
  refine aw_getR (kx := 3) fl_X5_9 dX5_isOfKind_1 rfl rfl rfl ?_
  refine aw_iload_n dX5_isOfKind_4 rfl ?_
  refine aw_iaload dX5_isOfKind_5 rfl (by decide) (by omega) ?_
  refine aw_iload_n dX5_isOfKind_6 rfl ?_
  refine aw_icmp_eq (tgt := 40) dX5_isOfKind_7 rfl (by omega) (by omega) (fun hc7 => ?_) (fun hc7 => ?_)
  · refine aw_iconst dX5_isOfKind_40 ?_
    refine aw_goto (tgt := 45) dX5_isOfKind_41 rfl ?_
    refine aw_zretF dX5_isOfKind_45 rfl (by omega) ?_
    exact ⟨by split <;> omega, rfl⟩
  · refine aw_iload_n dX5_isOfKind_10 rfl ?_
    refine aw_iconst dX5_isOfKind_11 ?_
    refine aw_icmp_ne (tgt := 25) dX5_isOfKind_12 rfl (by omega) (by omega) (fun hc12 => ?_) (fun hc12 => ?_)
    · refine aw_iload_n dX5_isOfKind_25 rfl ?_
      refine aw_iconst dX5_isOfKind_26 ?_
      refine aw_icmp_ne (tgt := 44) dX5_isOfKind_27 rfl (by omega) (by omega) (fun hc27 => ?_) (fun hc27 => ?_)
      · refine aw_iconst dX5_isOfKind_44 ?_
        refine aw_zretF dX5_isOfKind_45 rfl (by omega) ?_
        exact ⟨by split <;> omega, rfl⟩
      · refine aw_aload_n dX5_isOfKind_30 rfl ?_
        refine aw_getR (kx := 3) fl_X5_9 dX5_isOfKind_31 rfl rfl rfl ?_
        refine aw_iload_n dX5_isOfKind_34 rfl ?_
        refine aw_iaload dX5_isOfKind_35 rfl (by decide) (by omega) ?_
        refine aw_iconst dX5_isOfKind_36 ?_
        refine aw_icmp_ne (tgt := 44) dX5_isOfKind_37 rfl (by omega) (by omega) (fun hc37 => ?_) (fun hc37 => ?_)
        · refine aw_iconst dX5_isOfKind_44 ?_
          refine aw_zretF dX5_isOfKind_45 rfl (by omega) ?_
          exact ⟨by split <;> omega, rfl⟩
        · refine aw_iconst dX5_isOfKind_40 ?_
          refine aw_goto (tgt := 45) dX5_isOfKind_41 rfl ?_
          refine aw_zretF dX5_isOfKind_45 rfl (by omega) ?_
          exact ⟨by split <;> omega, rfl⟩
    · refine aw_aload_n dX5_isOfKind_15 rfl ?_
      refine aw_getR (kx := 3) fl_X5_9 dX5_isOfKind_16 rfl rfl rfl ?_
      refine aw_iload_n dX5_isOfKind_19 rfl ?_
      refine aw_iaload dX5_isOfKind_20 rfl (by decide) (by omega) ?_
      refine aw_iconst dX5_isOfKind_21 ?_
      refine aw_icmp_eq (tgt := 40) dX5_isOfKind_22 rfl (by omega) (by omega) (fun hc22 => ?_) (fun hc22 => ?_)
      · refine aw_iconst dX5_isOfKind_40 ?_
        refine aw_goto (tgt := 45) dX5_isOfKind_41 rfl ?_
        refine aw_zretF dX5_isOfKind_45 rfl (by omega) ?_
        exact ⟨by split <;> omega, rfl⟩
      · refine aw_iload_n dX5_isOfKind_25 rfl ?_
        refine aw_iconst dX5_isOfKind_26 ?_
        refine aw_icmp_ne (tgt := 44) dX5_isOfKind_27 rfl (by omega) (by omega) (fun hc27 => ?_) (fun hc27 => ?_)
        · refine aw_iconst dX5_isOfKind_44 ?_
          refine aw_zretF dX5_isOfKind_45 rfl (by omega) ?_
          exact ⟨by split <;> omega, rfl⟩
        · refine aw_aload_n dX5_isOfKind_30 rfl ?_
          refine aw_getR (kx := 3) fl_X5_9 dX5_isOfKind_31 rfl rfl rfl ?_
          refine aw_iload_n dX5_isOfKind_34 rfl ?_
          refine aw_iaload dX5_isOfKind_35 rfl (by decide) (by omega) ?_
          refine aw_iconst dX5_isOfKind_36 ?_
          refine aw_icmp_ne (tgt := 44) dX5_isOfKind_37 rfl (by omega) (by omega) (fun hc37 => ?_) (fun hc37 => ?_)
          · refine aw_iconst dX5_isOfKind_44 ?_
            refine aw_zretF dX5_isOfKind_45 rfl (by omega) ?_
            exact ⟨by split <;> omega, rfl⟩
          · refine aw_iconst dX5_isOfKind_40 ?_
            refine aw_goto (tgt := 45) dX5_isOfKind_41 rfl ?_
            refine aw_zretF dX5_isOfKind_45 rfl (by omega) ?_
            exact ⟨by split <;> omega, rfl⟩
theorem c_X5_yearsOfWord {h g : am_H} {x : Int} (hs : MVs g) (hR : SpR h g) (hx : 0 ≤ x ∧ x < g 0 6) : AMet GC mX5_yearsOfWord 1 [am_R 15, am_I x] h (am_FI (yrK (g 5 x)) h) := by
  have hnn := hs.1
  have hk := (hR.2.1 x hx.1 hx.2).1
  have hkr := (hs.2.2.2.1 x hx.1 hx.2).1
  refine am_start [some (am_R 15), some (am_I x)] rfl rfl (by decide) (Nat.le_of_ble_eq_true rfl) ?_
  refine aw_aload_n dX5_yearsOfWord_0 rfl ?_
  refine aw_getR (kx := 3) fl_X5_9 dX5_yearsOfWord_1 rfl rfl rfl ?_
  refine aw_iload_n dX5_yearsOfWord_4 rfl ?_
  refine aw_iaload dX5_yearsOfWord_5 rfl (by decide) (by omega) ?_
  refine aw_iconst dX5_yearsOfWord_6 ?_
  refine aw_icmp_ne (tgt := 14) dX5_yearsOfWord_7 rfl (by omega) (by omega) (fun hc7 => ?_) (fun hc7 => ?_)
  · refine aw_iconst dX5_yearsOfWord_14 ?_
    refine aw_iretF dX5_yearsOfWord_15 rfl ?_
    exact ⟨by unfold yrK; split <;> omega, rfl⟩
  · refine aw_iconst dX5_yearsOfWord_10 ?_
    refine aw_goto (tgt := 15) dX5_yearsOfWord_11 rfl ?_
    refine aw_iretF dX5_yearsOfWord_15 rfl ?_
    exact ⟨by unfold yrK; split <;> omega, rfl⟩
theorem wsN_wl (fr : Int → Int) (x : Int) : ∀ n : Nat, wsN fr x n = (wl fr x n).foldl (fun s k => s ||| 2 ^ k.toNat) 0
  | 0 => rfl
  | n + 1 => by
    have ih := wsN_wl fr x n
    have e : wsN fr x (n + 1) = wsN fr x n + (if fr n = x then 2 ^ n else 0) := rfl
    have hlt := wsN_lt fr x n
    rw [e, wl_fold, ← ih]
    split
    · have h2 := Nat.two_pow_add_eq_or_of_lt hlt 1
      rw [Nat.mul_one] at h2
      rw [show ((n : Int)).toNat = n by omega, Nat.add_comm, h2, Nat.or_comm]
    · rfl
theorem lp_X5_wordBits {h g : am_H} {x : Int} (hs : MVs g) (hR : SpR h g) (hx : 0 ≤ x ∧ x < g 0 6) : ∀ (m j : Nat) (s : Nat), (j : Int) ≤ dgF g x → dgF g x - j < m → s = ((wl (g 7) x (nwN g)).take j).foldl (fun s k => s ||| 2 ^ k.toNat) 0 → s < 16384 → AW GC mX5_wordBits 2 (am_FI (wsN (g 7) x (nwN g) : Nat) h) 4 [some (am_R 15), some (am_I x), some (am_I (s : Nat)), some (am_I j)] [] h := by
  have hnn := hs.1
  have hw := hs.2.1
  have hk := (hR.2.1 x hx.1 hx.2).2.2
  have hd4 : dgF g x ≤ 4 := hs.2.2.2.2.2.2.1 x
  have hl := dg_len g x
  intro m
  induction m with
  | zero => intro j s h1 h2; omega
  | succ m ih =>
    intro j s h1 h2 hse hlt
    by_cases hj : (j : Int) < dgF g x
    · obtain ⟨w, w1, w2, w3, w4⟩ := sp_at hs hR hx hj
      have hp : 2 ^ w.toNat < 2 ^ 14 := Nat.pow_lt_pow_right (by decide) (by omega)
      refine aw_iload_n dX5_wordBits_4 rfl ?_
      refine aw_aload_n dX5_wordBits_5 rfl ?_
      refine aw_getR (kx := 5) fl_X5_18 dX5_wordBits_6 rfl rfl rfl ?_
      refine aw_iload_n dX5_wordBits_9 rfl ?_
      refine aw_iaload dX5_wordBits_10 rfl (by decide) (by omega) ?_
      refine aw_icmp_ge (tgt := 31) dX5_wordBits_11 rfl (by omega) (by omega) (fun hc11 => ?_) (fun hc11 => ?_)
      · omega
      · refine aw_iload_n dX5_wordBits_14 rfl ?_
        refine aw_iconst dX5_wordBits_15 ?_
        refine aw_aload_n dX5_wordBits_16 rfl ?_
        refine aw_iload_n dX5_wordBits_17 rfl ?_
        refine aw_iload_n dX5_wordBits_18 rfl ?_
        refine aw_cV2IF (c_X5_wordAt (by omega)) lk_X5_55 dX5_wordBits_19 (by decide) rfl rfl (fun _ => Nat.le_of_ble_eq_true rfl) ?_
        refine aw_top (show h 19 (x * 4 + j) = ((w.toNat : Nat) : Int) by omega) ?_
        refine aw_ishl dX5_wordBits_22 ?_
        refine aw_top (bt_shl1 (by omega)) ?_
        refine aw_ior dX5_wordBits_23 ?_
        refine aw_top (bt_or (by omega) (by omega)) ?_
        refine aw_istore_2 dX5_wordBits_24 (by decide) rfl ?_
        refine aw_iinc3 dX5_wordBits_25 (by decide) rfl ?_
        refine aw_goto (tgt := 4) dX5_wordBits_28 rfl ?_
        exact ih (j + 1) (s ||| 2 ^ w.toNat) (by omega) (by omega) (by rw [tk_fold w1, ← hse]) (show _ < 2 ^ 14 from Nat.or_lt_two_pow hlt hp)
    · refine aw_iload_n dX5_wordBits_4 rfl ?_
      refine aw_aload_n dX5_wordBits_5 rfl ?_
      refine aw_getR (kx := 5) fl_X5_18 dX5_wordBits_6 rfl rfl rfl ?_
      refine aw_iload_n dX5_wordBits_9 rfl ?_
      refine aw_iaload dX5_wordBits_10 rfl (by decide) (by omega) ?_
      refine aw_icmp_ge (tgt := 31) dX5_wordBits_11 rfl (by omega) (by omega) (fun hc11 => ?_) (fun hc11 => ?_)
      · refine aw_iload_n dX5_wordBits_31 rfl ?_
        refine aw_iretF dX5_wordBits_32 rfl ?_
        exact ⟨by rw [wsN_wl, ← tk_all (j := j) (by omega), ← hse], rfl⟩
      · omega
theorem c_X5_wordBits {h g : am_H} {x : Int} (hs : MVs g) (hR : SpR h g) (hx : 0 ≤ x ∧ x < g 0 6) : AMet GC mX5_wordBits 2 [am_R 15, am_I x] h (am_FI (wsN (g 7) x (nwN g) : Nat) h) := by
  have hd4 : dgF g x ≤ 4 := hs.2.2.2.2.2.2.1 x
  have hd0 : 0 ≤ dgF g x := (cntF_rng _ _ _).1
  refine am_start [some (am_R 15), some (am_I x), none, none] rfl rfl (by decide) (Nat.le_of_ble_eq_true rfl) ?_
  refine aw_iconst dX5_wordBits_0 ?_
  refine aw_istore_2 dX5_wordBits_1 (by decide) rfl ?_
  refine aw_iconst dX5_wordBits_2 ?_
  refine aw_istore_3 dX5_wordBits_3 (by decide) rfl ?_
  exact lp_X5_wordBits hs hR hx 5 0 0 (by omega) (by omega) rfl (by omega)
theorem lp_X5_wordsTo {h g : am_H} {x : Int} (hs : MVs g) (hR : SpR h g) (hx : 0 ≤ x ∧ x < 9) : ∀ (m i : Nat), (i : Int) ≤ g 0 10 → g 0 10 - i < m → AW GC mX5_wordsTo 1 (am_FI (cntF (g 8) x (nwN g)) h) 4 [some (am_R 15), some (am_I x), some (am_I (cntF (g 8) x i)), some (am_I i)] [] h := by
  have hw := hs.2.1
  have hnn := hs.1
  have e1 := hR.1.2.1
  intro m
  induction m with
  | zero => intro i h1 h2; omega
  | succ m ih =>
    intro i h1 h2
    have hv := hs.2.2.2.2.1 i (by omega)
    have hr := hR.2.2.2.1 i (by omega)
    refine aw_iload_n dX5_wordsTo_4 rfl ?_
    refine aw_aload_n dX5_wordsTo_5 rfl ?_
    refine aw_getI (kx := 1) fl_X5_49 dX5_wordsTo_6 rfl rfl rfl ?_
    refine aw_icmp_ge (tgt := 36) dX5_wordsTo_9 rfl (by omega) (by omega) (fun hc9 => ?_) (fun hc9 => ?_)
    · refine aw_iload_n dX5_wordsTo_36 rfl ?_
      refine aw_iretF dX5_wordsTo_37 rfl ?_
      exact ⟨by rw [show nwN g = i by unfold nwN; omega], rfl⟩
    · have hv2 := (hv (by omega)).1
      have hr2 := (hr (by omega)).2.1
      refine aw_iload_n dX5_wordsTo_12 rfl ?_
      refine aw_aload_n dX5_wordsTo_13 rfl ?_
      refine aw_getR (kx := 8) fl_X5_27 dX5_wordsTo_14 rfl rfl rfl ?_
      refine aw_iload_n dX5_wordsTo_17 rfl ?_
      refine aw_iaload dX5_wordsTo_18 rfl (by decide) (by omega) ?_
      refine aw_iload_n dX5_wordsTo_19 rfl ?_
      refine aw_icmp_ne (tgt := 27) dX5_wordsTo_20 rfl (by omega) (by omega) (fun hc20 => ?_) (fun hc20 => ?_)
      · refine aw_iconst dX5_wordsTo_27 ?_
        refine aw_iadd dX5_wordsTo_28 ?_
        refine aw_istore_2 dX5_wordsTo_29 (by decide) rfl ?_
        refine aw_iinc3 dX5_wordsTo_30 (by decide) rfl ?_
        refine aw_goto (tgt := 4) dX5_wordsTo_33 rfl ?_
        refine aw_ls ?_ (ih (i + 1) (by omega) (by omega)); rw [cntF, if_neg (by omega)]; rfl
      · refine aw_iconst dX5_wordsTo_23 ?_
        refine aw_goto (tgt := 28) dX5_wordsTo_24 rfl ?_
        refine aw_iadd dX5_wordsTo_28 ?_
        refine aw_istore_2 dX5_wordsTo_29 (by decide) rfl ?_
        refine aw_iinc3 dX5_wordsTo_30 (by decide) rfl ?_
        refine aw_goto (tgt := 4) dX5_wordsTo_33 rfl ?_
        refine aw_ls ?_ (ih (i + 1) (by omega) (by omega)); rw [cntF, if_pos (by omega)]; rfl
theorem c_X5_wordsTo {h g : am_H} {x : Int} (hs : MVs g) (hR : SpR h g) (hx : 0 ≤ x ∧ x < 9) : AMet GC mX5_wordsTo 1 [am_R 15, am_I x] h (am_FI (cntF (g 8) x (nwN g)) h) := by
  have hw := hs.2.1
  refine am_start [some (am_R 15), some (am_I x), none, none] rfl rfl (by decide) (Nat.le_of_ble_eq_true rfl) ?_
  refine aw_iconst dX5_wordsTo_0 ?_
  refine aw_istore_2 dX5_wordsTo_1 (by decide) rfl ?_
  refine aw_iconst dX5_wordsTo_2 ?_
  refine aw_istore_3 dX5_wordsTo_3 (by decide) rfl ?_
  exact lp_X5_wordsTo hs hR hx 15 0 (by omega) (by omega)
theorem lp_X5_endsNextTo {h g : am_H} {x : Int} (hs : MVs g) (hR : SpR h g) (hx : 0 ≤ x ∧ x < g 0 6) : ∀ (m j : Nat) (s : Nat) (x4 : Option am_V), (j : Int) ≤ dgF g x → dgF g x - j < m → s = ((wl (g 7) x (nwN g)).take j).foldl (fun s k => s ||| (if fin (g 5 (g 8 k)) then 2 ^ (g 8 k).toNat else 0)) 0 → s < 512 → AW GC mX5_endsNextTo 2 (am_FI (pcN 16 (edF (g 5) (g 7) (g 8) x (nwN g)) : Nat) h) 4 [some (am_R 15), some (am_I x), some (am_I (s : Nat)), some (am_I j), x4] [] h := by
  have hnn := hs.1
  have hw := hs.2.1
  have hk := (hR.2.1 x hx.1 hx.2).2.2
  have hd4 : dgF g x ≤ 4 := hs.2.2.2.2.2.2.1 x
  have hl := dg_len g x
  intro m
  induction m with
  | zero => intro j s x4 h1 h2; omega
  | succ m ih =>
    intro j s x4 h1 h2 hse hlt
    by_cases hj : (j : Int) < dgF g x
    · obtain ⟨w, w1, w2, w3, w4⟩ := sp_at hs hR hx hj
      have hv := (hs.2.2.2.2.1 w w3.1 w3.2).1
      have ht : h 21 w = g 8 w := (hR.2.2.2.1 w w3.1 w3.2).2.1
      have hp : 2 ^ (g 8 w).toNat < 2 ^ 9 := Nat.pow_lt_pow_right (by decide) (by omega)
      refine aw_iload_n dX5_endsNextTo_4 rfl ?_
      refine aw_aload_n dX5_endsNextTo_5 rfl ?_
      refine aw_getR (kx := 5) fl_X5_18 dX5_endsNextTo_6 rfl rfl rfl ?_
      refine aw_iload_n dX5_endsNextTo_9 rfl ?_
      refine aw_iaload dX5_endsNextTo_10 rfl (by decide) (by omega) ?_
      refine aw_icmp_ge (tgt := 53) dX5_endsNextTo_11 rfl (by omega) (by omega) (fun hc11 => ?_) (fun hc11 => ?_)
      · omega
      · refine aw_aload_n dX5_endsNextTo_14 rfl ?_
        refine aw_getR (kx := 8) fl_X5_27 dX5_endsNextTo_15 rfl rfl rfl ?_
        refine aw_aload_n dX5_endsNextTo_18 rfl ?_
        refine aw_iload_n dX5_endsNextTo_19 rfl ?_
        refine aw_iload_n dX5_endsNextTo_20 rfl ?_
        refine aw_cV2IF (c_X5_wordAt (by omega)) lk_X5_55 dX5_endsNextTo_21 (by decide) rfl rfl (fun _ => Nat.le_of_ble_eq_true rfl) ?_
        refine aw_top w2 ?_
        refine aw_iaload dX5_endsNextTo_24 rfl (by decide) (by omega) ?_
        refine aw_top ht ?_
        refine aw_istore4 dX5_endsNextTo_25 (by decide) rfl ?_
        refine aw_iload_n dX5_endsNextTo_27 rfl ?_
        refine aw_aload_n dX5_endsNextTo_28 rfl ?_
        refine aw_iload dX5_endsNextTo_29 rfl ?_
        refine aw_cV1IF (c_X5_isEnd hs hR (by omega)) lk_X5_59 dX5_endsNextTo_31 (by decide) rfl rfl (fun _ => Nat.le_of_ble_eq_true rfl) ?_
        refine aw_ifb_eq (tgt := 44) dX5_endsNextTo_34 rfl (fun hc34 => ?_) (fun hc34 => ?_)
        · refine aw_iconst dX5_endsNextTo_44 ?_
          refine aw_ior dX5_endsNextTo_45 ?_
          refine aw_top (bt_or0 (by omega)) ?_
          refine aw_istore_2 dX5_endsNextTo_46 (by decide) rfl ?_
          refine aw_iinc3 dX5_endsNextTo_47 (by decide) rfl ?_
          refine aw_goto (tgt := 4) dX5_endsNextTo_50 rfl ?_
          exact ih (j + 1) s _ (by omega) (by omega) (by rw [tk_fold w1, ← hse, if_neg hc34, Nat.or_zero]) hlt
        · refine aw_iconst dX5_endsNextTo_37 ?_
          refine aw_iload dX5_endsNextTo_38 rfl ?_
          refine aw_top (show g 8 w = (((g 8 w).toNat : Nat) : Int) by omega) ?_
          refine aw_ishl dX5_endsNextTo_40 ?_
          refine aw_top (bt_shl1 (by omega)) ?_
          refine aw_goto (tgt := 45) dX5_endsNextTo_41 rfl ?_
          refine aw_ior dX5_endsNextTo_45 ?_
          refine aw_top (bt_or (by omega) (by omega)) ?_
          refine aw_istore_2 dX5_endsNextTo_46 (by decide) rfl ?_
          refine aw_iinc3 dX5_endsNextTo_47 (by decide) rfl ?_
          refine aw_goto (tgt := 4) dX5_endsNextTo_50 rfl ?_
          exact ih (j + 1) (s ||| 2 ^ (g 8 w).toNat) _ (by omega) (by omega) (by rw [tk_fold w1, ← hse, if_pos hc34]) (show _ < 2 ^ 9 from Nat.or_lt_two_pow hlt hp)
    · have e : s = edF (g 5) (g 7) (g 8) x (nwN g) := by rw [edF, ← tk_all (j := j) (by omega), ← hse]
      refine aw_iload_n dX5_endsNextTo_4 rfl ?_
      refine aw_aload_n dX5_endsNextTo_5 rfl ?_
      refine aw_getR (kx := 5) fl_X5_18 dX5_endsNextTo_6 rfl rfl rfl ?_
      refine aw_iload_n dX5_endsNextTo_9 rfl ?_
      refine aw_iaload dX5_endsNextTo_10 rfl (by decide) (by omega) ?_
      refine aw_icmp_ge (tgt := 53) dX5_endsNextTo_11 rfl (by omega) (by omega) (fun hc11 => ?_) (fun hc11 => ?_)
      · refine aw_iload_n dX5_endsNextTo_53 rfl ?_
        refine aw_cS1IF (c_J6_bitCount rfl hlt) lk_X5_63 dX5_endsNextTo_54 (by decide) (fun _ => Nat.le_of_ble_eq_true rfl) ?_
        refine aw_iretF dX5_endsNextTo_57 rfl ?_
        exact ⟨by rw [← e], rfl⟩
      · omega
theorem c_X5_endsNextTo {h g : am_H} {x : Int} (hs : MVs g) (hR : SpR h g) (hx : 0 ≤ x ∧ x < g 0 6) : AMet GC mX5_endsNextTo 2 [am_R 15, am_I x] h (am_FI (pcN 16 (edF (g 5) (g 7) (g 8) x (nwN g)) : Nat) h) := by
  have hd4 : dgF g x ≤ 4 := hs.2.2.2.2.2.2.1 x
  have hd0 : 0 ≤ dgF g x := (cntF_rng _ _ _).1
  refine am_start [some (am_R 15), some (am_I x), none, none, none] rfl rfl (by decide) (Nat.le_of_ble_eq_true rfl) ?_
  refine aw_iconst dX5_endsNextTo_0 ?_
  refine aw_istore_2 dX5_endsNextTo_1 (by decide) rfl ?_
  refine aw_iconst dX5_endsNextTo_2 ?_
  refine aw_istore_3 dX5_endsNextTo_3 (by decide) rfl ?_
  exact lp_X5_endsNextTo hs hR hx 5 0 0 _ (by omega) (by omega) rfl (by omega)
theorem lp_X5_deedsOf {h g : am_H} {x : Int} (hs : MVs g) (hR : SpR h g) (hx : -1 ≤ x ∧ x < 9) : ∀ (m i : Nat), (i : Int) ≤ g 0 15 → g 0 15 - i < m → AW GC mX5_deedsOf 1 (am_FI (cntF (g 12) x (g 0 15).toNat) h) 4 [some (am_R 15), some (am_I x), some (am_I (cntF (g 12) x i)), some (am_I i)] [] h := by
  have hnd := hs.2.2.1
  have e1 := hR.1.2.2
  intro m
  induction m with
  | zero => intro i h1 h2; omega
  | succ m ih =>
    intro i h1 h2
    have hv := hs.2.2.2.2.2.2.2.1 i (by omega)
    have hr := hR.2.2.2.2 i (by omega)
    refine aw_iload_n dX5_deedsOf_4 rfl ?_
    refine aw_aload_n dX5_deedsOf_5 rfl ?_
    refine aw_getI (kx := 2) fl_X5_52 dX5_deedsOf_6 rfl rfl rfl ?_
    refine aw_icmp_ge (tgt := 36) dX5_deedsOf_9 rfl (by omega) (by omega) (fun hc9 => ?_) (fun hc9 => ?_)
    · refine aw_iload_n dX5_deedsOf_36 rfl ?_
      refine aw_iretF dX5_deedsOf_37 rfl ?_
      exact ⟨by rw [show (g 0 15).toNat = i by omega], rfl⟩
    · have hv2 := hv (by omega)
      have hr2 := (hr (by omega)).2.2.1
      refine aw_iload_n dX5_deedsOf_12 rfl ?_
      refine aw_aload_n dX5_deedsOf_13 rfl ?_
      refine aw_getR (kx := 12) fl_X5_39 dX5_deedsOf_14 rfl rfl rfl ?_
      refine aw_iload_n dX5_deedsOf_17 rfl ?_
      refine aw_iaload dX5_deedsOf_18 rfl (by decide) (by omega) ?_
      refine aw_iload_n dX5_deedsOf_19 rfl ?_
      refine aw_icmp_ne (tgt := 27) dX5_deedsOf_20 rfl (by omega) (by omega) (fun hc20 => ?_) (fun hc20 => ?_)
      · refine aw_iconst dX5_deedsOf_27 ?_
        refine aw_iadd dX5_deedsOf_28 ?_
        refine aw_istore_2 dX5_deedsOf_29 (by decide) rfl ?_
        refine aw_iinc3 dX5_deedsOf_30 (by decide) rfl ?_
        refine aw_goto (tgt := 4) dX5_deedsOf_33 rfl ?_
        refine aw_ls ?_ (ih (i + 1) (by omega) (by omega)); rw [cntF, if_neg (by omega)]; rfl
      · refine aw_iconst dX5_deedsOf_23 ?_
        refine aw_goto (tgt := 28) dX5_deedsOf_24 rfl ?_
        refine aw_iadd dX5_deedsOf_28 ?_
        refine aw_istore_2 dX5_deedsOf_29 (by decide) rfl ?_
        refine aw_iinc3 dX5_deedsOf_30 (by decide) rfl ?_
        refine aw_goto (tgt := 4) dX5_deedsOf_33 rfl ?_
        refine aw_ls ?_ (ih (i + 1) (by omega) (by omega)); rw [cntF, if_pos (by omega)]; rfl
theorem c_X5_deedsOf {h g : am_H} {x : Int} (hs : MVs g) (hR : SpR h g) (hx : -1 ≤ x ∧ x < 9) : AMet GC mX5_deedsOf 1 [am_R 15, am_I x] h (am_FI (cntF (g 12) x (g 0 15).toNat) h) := by
  have hnd := hs.2.2.1
  refine am_start [some (am_R 15), some (am_I x), none, none] rfl rfl (by decide) (Nat.le_of_ble_eq_true rfl) ?_
  refine aw_iconst dX5_deedsOf_0 ?_
  refine aw_istore_2 dX5_deedsOf_1 (by decide) rfl ?_
  refine aw_iconst dX5_deedsOf_2 ?_
  refine aw_istore_3 dX5_deedsOf_3 (by decide) rfl ?_
  exact lp_X5_deedsOf hs hR hx 5 0 (by omega) (by omega)
theorem lp_X5_ends {h g : am_H} (hs : MVs g) (hR : SpR h g) : ∀ (m i : Nat), (i : Int) ≤ g 0 6 → g 0 6 - i < m → AW GC mX5_ends 2 (am_FI (enF (g 5) (g 0 6).toNat) h) 4 [some (am_R 15), some (am_I (enF (g 5) i)), some (am_I i)] [] h := by
  have hnn := hs.1
  have e1 := hR.1.1
  intro m
  induction m with
  | zero => intro i h1 h2; omega
  | succ m ih =>
    intro i h1 h2
    refine aw_iload_n dX5_ends_4 rfl ?_
    refine aw_aload_n dX5_ends_5 rfl ?_
    refine aw_getI (kx := 0) fl_X5_45 dX5_ends_6 rfl rfl rfl ?_
    refine aw_icmp_ge (tgt := 34) dX5_ends_9 rfl (by omega) (by omega) (fun hc9 => ?_) (fun hc9 => ?_)
    · refine aw_iload_n dX5_ends_34 rfl ?_
      refine aw_iretF dX5_ends_35 rfl ?_
      exact ⟨by rw [show (g 0 6).toNat = i by omega], rfl⟩
    · refine aw_iload_n dX5_ends_12 rfl ?_
      refine aw_aload_n dX5_ends_13 rfl ?_
      refine aw_iload_n dX5_ends_14 rfl ?_
      refine aw_cV1IF (c_X5_isEnd hs hR (by omega)) lk_X5_59 dX5_ends_15 (by decide) rfl rfl (fun _ => Nat.le_of_ble_eq_true rfl) ?_
      refine aw_ifb_eq (tgt := 25) dX5_ends_18 rfl (fun hc18 => ?_) (fun hc18 => ?_)
      · refine aw_iconst dX5_ends_25 ?_
        refine aw_iadd dX5_ends_26 ?_
        refine aw_istore_1 dX5_ends_27 (by decide) rfl ?_
        refine aw_iinc2 dX5_ends_28 (by decide) rfl ?_
        refine aw_goto (tgt := 4) dX5_ends_31 rfl ?_
        refine aw_ls ?_ (ih (i + 1) (by omega) (by omega)); rw [enF, if_neg hc18]; rfl
      · refine aw_iconst dX5_ends_21 ?_
        refine aw_goto (tgt := 26) dX5_ends_22 rfl ?_
        refine aw_iadd dX5_ends_26 ?_
        refine aw_istore_1 dX5_ends_27 (by decide) rfl ?_
        refine aw_iinc2 dX5_ends_28 (by decide) rfl ?_
        refine aw_goto (tgt := 4) dX5_ends_31 rfl ?_
        refine aw_ls ?_ (ih (i + 1) (by omega) (by omega)); rw [enF, if_pos hc18]; rfl
theorem c_X5_ends {h g : am_H} (hs : MVs g) (hR : SpR h g) : AMet GC mX5_ends 2 [am_R 15] h (am_FI (enF (g 5) (g 0 6).toNat) h) := by
  have hnn := hs.1
  refine am_start [some (am_R 15), none, none] rfl rfl (by decide) (Nat.le_of_ble_eq_true rfl) ?_
  refine aw_iconst dX5_ends_0 ?_
  refine aw_istore_1 dX5_ends_1 (by decide) rfl ?_
  refine aw_iconst dX5_ends_2 ?_
  refine aw_istore_2 dX5_ends_3 (by decide) rfl ?_
  exact lp_X5_ends hs hR 10 0 (by omega) (by omega)
theorem c_X5_worthAt {h g : am_H} {x d : Int} (hs : MVs g) (hR : SpR h g) (hx : 0 ≤ x ∧ x < g 0 6) (hd : 0 ≤ d ∧ d < g 0 15) : AMet GC mX5_worthAt 1 [am_R 15, am_I x, am_I d] h (am_FI (wv (g 5) (g 6) (g 12) (g 13) x d) h) := by
  have hnn := hs.1
  have hnd := hs.2.2.1
  have hk := hR.2.1 x hx.1 hx.2
  have hkr := hs.2.2.2.1 x hx.1 hx.2
  have hdr := hR.2.2.2.2 d hd.1 hd.2
  have hdv := hs.2.2.2.2.2.2.2.1 d hd.1 hd.2
  have hme : -1 ≤ h 17 x ∧ h 17 x ≤ 5 := by rw [hk.2.1]; split <;> omega
  have hiff : h 25 d = h 17 x ↔ fin (g 5 x) ∧ g 12 d = g 6 x := by
    rw [hk.2.1, hdr.2.2.1]
    by_cases e : fin (g 5 x)
    · rw [if_pos e]; exact ⟨fun z => ⟨e, z⟩, fun z => z.2⟩
    · rw [if_neg e]; exact ⟨fun z => by omega, fun z => absurd z.1 e⟩
  refine am_start [some (am_R 15), some (am_I x), some (am_I d)] rfl rfl (by decide) (Nat.le_of_ble_eq_true rfl) ?_
  refine aw_aload_n dX5_worthAt_0 rfl ?_
  refine aw_getR (kx := 12) fl_X5_39 dX5_worthAt_1 rfl rfl rfl ?_
  refine aw_iload_n dX5_worthAt_4 rfl ?_
  refine aw_iaload dX5_worthAt_5 rfl (by decide) (by omega) ?_
  refine aw_aload_n dX5_worthAt_6 rfl ?_
  refine aw_getR (kx := 4) fl_X5_15 dX5_worthAt_7 rfl rfl rfl ?_
  refine aw_iload_n dX5_worthAt_10 rfl ?_
  refine aw_iaload dX5_worthAt_11 rfl (by decide) (by omega) ?_
  refine aw_icmp_eq (tgt := 17) dX5_worthAt_12 rfl (by omega) (by omega) (fun hc12 => ?_) (fun hc12 => ?_)
  · refine aw_aload_n dX5_worthAt_17 rfl ?_
    refine aw_getR (kx := 3) fl_X5_9 dX5_worthAt_18 rfl rfl rfl ?_
    refine aw_iload_n dX5_worthAt_21 rfl ?_
    refine aw_iaload dX5_worthAt_22 rfl (by decide) (by omega) ?_
    refine aw_iconst dX5_worthAt_23 ?_
    refine aw_icmp_ne (tgt := 38) dX5_worthAt_24 rfl (by omega) (by omega) (fun hc24 => ?_) (fun hc24 => ?_)
    · refine aw_aload_n dX5_worthAt_38 rfl ?_
      refine aw_getR (kx := 13) fl_X5_42 dX5_worthAt_39 rfl rfl rfl ?_
      refine aw_iload_n dX5_worthAt_42 rfl ?_
      refine aw_iaload dX5_worthAt_43 rfl (by decide) (by omega) ?_
      refine aw_iretF dX5_worthAt_44 rfl ?_
      exact ⟨by rw [wv, if_pos (hiff.mp hc12), if_neg (by omega), hdr.2.2.2], rfl⟩
    · refine aw_iconst dX5_worthAt_27 ?_
      refine aw_aload_n dX5_worthAt_28 rfl ?_
      refine aw_getR (kx := 13) fl_X5_42 dX5_worthAt_29 rfl rfl rfl ?_
      refine aw_iload_n dX5_worthAt_32 rfl ?_
      refine aw_iaload dX5_worthAt_33 rfl (by decide) (by omega) ?_
      refine aw_imul dX5_worthAt_34 ?_
      refine aw_goto (tgt := 44) dX5_worthAt_35 rfl ?_
      refine aw_iretF dX5_worthAt_44 rfl ?_
      exact ⟨by rw [wv, if_pos (hiff.mp hc12), if_pos (by omega), hdr.2.2.2], rfl⟩
  · refine aw_iconst dX5_worthAt_15 ?_
    refine aw_iretF dX5_worthAt_16 rfl ?_
    exact ⟨by rw [wv, if_neg (fun z => hc12 (hiff.mpr z))], rfl⟩
theorem lp_X5_gain {h g : am_H} {x of : Int} (hs : MVs g) (hR : SpR h g) (hx : 0 ≤ x ∧ x < g 0 6) (hof : VS of) : ∀ (m i : Nat), (i : Int) ≤ g 0 15 → g 0 15 - i < m → AW GC mX5_gain 2 (am_FI (gain g x of) h) 5 [some (am_R 15), some (am_I x), some (am_I (cv of)), some (am_I (gnF (g 5) (g 6) (g 12) (g 13) (g 11) x of i)), some (am_I i)] [] h := by
  have hnn := hs.1
  have hnd := hs.2.2.1
  have e1 := hR.1.2.2
  intro m
  induction m with
  | zero => intro i h1 h2; omega
  | succ m ih =>
    intro i h1 h2
    have hr := cd_rng (cv of) i
    have e2 : gnF (g 5) (g 6) (g 12) (g 13) (g 11) x of (i + 1) = gnF (g 5) (g 6) (g 12) (g 13) (g 11) x of i + (if hw of i = 2 then wv (g 5) (g 6) (g 12) (g 13) x i - g 11 i else 0) := rfl
    by_cases hlt : (i : Int) < g 0 15
    · have hdr := hR.2.2.2.2 i (by omega) hlt
      have hdn := cv_done hof (d := i) ⟨by omega, by omega⟩
      refine aw_iload dX5_gain_5 rfl ?_
      refine aw_aload_n dX5_gain_7 rfl ?_
      refine aw_getI (kx := 2) fl_X5_52 dX5_gain_8 rfl rfl rfl ?_
      refine aw_icmp_ge (tgt := 49) dX5_gain_11 rfl (by omega) (by omega) (fun hc11 => ?_) (fun hc11 => ?_)
      · omega
      · refine aw_iload_n dX5_gain_14 rfl ?_
        refine aw_iload dX5_gain_15 rfl ?_
        refine aw_cS2IF (c_X0_codeOf) lk_X5_69 dX5_gain_17 (by decide) (fun _ => Nat.le_of_ble_eq_true rfl) ?_
        refine aw_bipush (by decide) dX5_gain_20 ?_
        refine aw_icmp_ne (tgt := 43) dX5_gain_22 rfl (by omega) (by omega) (fun hc22 => ?_) (fun hc22 => ?_)
        · refine aw_iinc4 dX5_gain_43 (by decide) rfl ?_
          refine aw_goto (tgt := 5) dX5_gain_46 rfl ?_
          refine aw_ls ?_ (ih (i + 1) (by omega) (by omega)); rw [e2, if_neg (fun z => hc22 (hdn.mpr z)), Int.add_zero]; rfl
        · refine aw_iload_n dX5_gain_25 rfl ?_
          refine aw_aload_n dX5_gain_26 rfl ?_
          refine aw_iload_n dX5_gain_27 rfl ?_
          refine aw_iload dX5_gain_28 rfl ?_
          refine aw_cV2IF (c_X5_worthAt hs hR (by omega) (by omega)) lk_X5_74 dX5_gain_30 (by decide) rfl rfl (fun _ => Nat.le_of_ble_eq_true rfl) ?_
          refine aw_aload_n dX5_gain_33 rfl ?_
          refine aw_getR (kx := 11) fl_X5_36 dX5_gain_34 rfl rfl rfl ?_
          refine aw_iload dX5_gain_37 rfl ?_
          refine aw_iaload dX5_gain_39 rfl (by decide) (by omega) ?_
          refine aw_isub dX5_gain_40 ?_
          refine aw_iadd dX5_gain_41 ?_
          refine aw_istore_3 dX5_gain_42 (by decide) rfl ?_
          refine aw_iinc4 dX5_gain_43 (by decide) rfl ?_
          refine aw_goto (tgt := 5) dX5_gain_46 rfl ?_
          refine aw_ls ?_ (ih (i + 1) (by omega) (by omega)); rw [e2, if_pos (hdn.mp (by omega)), ← hdr.2.1]; rfl
    · refine aw_iload dX5_gain_5 rfl ?_
      refine aw_aload_n dX5_gain_7 rfl ?_
      refine aw_getI (kx := 2) fl_X5_52 dX5_gain_8 rfl rfl rfl ?_
      refine aw_icmp_ge (tgt := 49) dX5_gain_11 rfl (by omega) (by omega) (fun hc11 => ?_) (fun hc11 => ?_)
      · refine aw_iload_n dX5_gain_49 rfl ?_
        refine aw_iretF dX5_gain_50 rfl ?_
        exact ⟨by rw [gain, show (g 0 15).toNat = i by omega], rfl⟩
      · omega
theorem c_X5_gain {h g : am_H} {x of : Int} (hs : MVs g) (hR : SpR h g) (hx : 0 ≤ x ∧ x < g 0 6) (hof : VS of) : AMet GC mX5_gain 2 [am_R 15, am_I x, am_I (cv of)] h (am_FI (gain g x of) h) := by
  have hnd := hs.2.2.1
  refine am_start [some (am_R 15), some (am_I x), some (am_I (cv of)), none, none] rfl rfl (by decide) (Nat.le_of_ble_eq_true rfl) ?_
  refine aw_iconst dX5_gain_0 ?_
  refine aw_istore_3 dX5_gain_1 (by decide) rfl ?_
  refine aw_iconst dX5_gain_2 ?_
  refine aw_istore4 dX5_gain_3 (by decide) rfl ?_
  exact lp_X5_gain hs hR hx hof 5 0 (by omega) (by omega)
