theorem fold_nn {f : Int → Int} : ∀ (L : List Int) (s : Int), 0 ≤ s → (∀ k ∈ L, 0 ≤ f k) → 0 ≤ L.foldl (fun s k => s + f k) s
  | [], s, h, _ => h
  | k :: L, s, h, hk => by
    simp only [List.foldl_cons]
    have := hk k List.mem_cons_self
    exact fold_nn L _ (by omega) (fun j hj => hk j (List.mem_cons_of_mem _ hj))
theorem ch_end {g : am_H} (hs : MVs g) {m x : Int} (hx : 0 ≤ x ∧ x < g 0 6) {V : Int → Int} (hV : ∀ y : Int, x < y → y < g 0 6 → ChI g m y (V y)) : ChI g m x ((wl (g 7) x (nwN g)).foldl (fun s k => s + V (g 8 k) * wgt g x (g 8 k)) (if fin (g 5 x) ∧ g 6 x = m then ltP g x else 0)) := by
  have hnn := hs.1
  have hlr := ltP_rng hs hx.1
  have hcr := chn_rng hs m hx.1 hx.2
  have hd4 : cntF (g 7) x (nwN g) ≤ 4 := hs.2.2.2.2.2.2.1 x
  have hd0 := (cntF_rng (g 7) x (nwN g)).1
  have lts := ltP_s (g := g) (x := x) hx.2
  by_cases e : cntF (g 7) x (nwN g) = 0
  · have ec : chn g m x = if fin (g 5 x) ∧ g 6 x = m then 429981696 else 0 := by rw [chn_eq hs m hx.1 hx.2, FC, wl_nil.mpr e]; rfl
    rw [wl_nil.mpr e]
    show ChI g m x (if fin (g 5 x) ∧ g 6 x = m then ltP g x else 0)
    unfold ChI
    rw [ec]
    split
    · rw [Int.mul_comm]; omega
    · rw [Int.zero_mul, Int.zero_mul]; omega
  · have hf := nofin (x := x) hs e
    rw [if_neg (fun z => hf z.1)]
    have ec : chn g m x = (wl (g 7) x (nwN g)).foldl (fun s k => s + (chn g m (g 8 k)).tdiv (cntF (g 7) x (nwN g))) 0 := by
      rw [chn_eq hs m hx.1 hx.2, FC, chB, if_neg (fun z => hf z.1)]
    have hdn : ¬ dgF g x = 0 := e
    rw [if_neg hdn] at lts
    have h1 := fold_sc (A := 429981696) (c := ltP g (x + 1)) (d := cntF (g 7) x (nwN g)) (f := fun k => V (g 8 k) * wgt g x (g 8 k)) (e := fun k => (chn g m (g 8 k)).tdiv (cntF (g 7) x (nwN g))) (wl (g 7) x (nwN g)) 0 0 (by rw [Int.zero_mul, Int.zero_mul, Int.zero_mul]) (fun k hk => by
      obtain ⟨a1, a2, a3⟩ := wl_mem.mp hk
      have a4 := to_ok hs k a1 a2
      have a5 := chn_dvd hs m 9 (g 8 k) (by omega) a4.2 (by omega)
      exact sc_step (wgt_mul (by omega)) (hV (g 8 k) (by omega) a4.2).1 (dv_12 (Int.dvd_trans (pw_dvd (show x.toNat + 1 ≤ (g 8 k).toNat by omega)) a5) (by omega)).2)
    rw [← ec] at h1
    have h2 : chn g m x * ltP g (x + 1) * cntF (g 7) x (nwN g) = chn g m x * ltP g x := by
      have : dgF g x = cntF (g 7) x (nwN g) := rfl
      rw [lts, this, Int.mul_assoc]
    rw [h2] at h1
    have h3 : 0 ≤ (wl (g 7) x (nwN g)).foldl (fun s k => s + V (g 8 k) * wgt g x (g 8 k)) 0 := fold_nn (f := fun k => V (g 8 k) * wgt g x (g 8 k)) _ _ (by omega) (fun k hk => by
      obtain ⟨a1, a2, a3⟩ := wl_mem.mp hk
      have a4 := to_ok hs k a1 a2
      exact Int.mul_nonneg (hV (g 8 k) (by omega) a4.2).2.1 (wgt_rng hs hx.1 (by omega)).1)
    refine ⟨h1, h3, ?_⟩
    have h4 : chn g m x * ltP g x ≤ 429981696 * ltP g x := Int.mul_le_mul_of_nonneg_right hcr.2 (by omega)
    rw [← h1, Int.mul_comm 429981696] at h4
    exact Int.le_of_mul_le_mul_right h4 (by decide)
theorem lp_X2_chances2 {h g : am_H} {m st x : Int} {V : Int → Int} {Q : Option am_V → am_H → Prop} (hs : MVs g) (hR : SpR h g) (hO : OlR h g) (hx : 0 ≤ x ∧ x < g 0 6) (K : ∀ (h' : am_H) (x4 x5 : Option am_V), (∀ c : Int, ¬ c = 59 → h' c = h c) → (∀ y : Int, x < y → y < g 0 6 → h' 59 y = V y) → h' 59 x = (wl (g 7) x (nwN g)).foldl (fun s k => s + V (g 8 k) * wgt g x (g 8 k)) (if fin (g 5 x) ∧ g 6 x = m then ltP g x else 0) → AW GC mX2_chancesOf 2 Q 121 [some (am_R 41), some (am_I m), some (am_I st), some (am_I x), x4, x5] [] h') : ∀ (n j : Nat) (h' : am_H) (x5 : Option am_V), (j : Int) ≤ dgF g x → dgF g x - j < n → (∀ c : Int, ¬ c = 59 → h' c = h c) → (∀ y : Int, x < y → y < g 0 6 → h' 59 y = V y) → h' 59 x = ((wl (g 7) x (nwN g)).take j).foldl (fun s k => s + V (g 8 k) * wgt g x (g 8 k)) (if fin (g 5 x) ∧ g 6 x = m then ltP g x else 0) → AW GC mX2_chancesOf 2 Q 57 [some (am_R 41), some (am_I m), some (am_I st), some (am_I x), some (am_I j), x5] [] h' := by
  have hnn := hs.1
  have hw := hs.2.1
  have hd4 : dgF g x ≤ 4 := hs.2.2.2.2.2.2.1 x
  have hl := dg_len g x
  intro n
  induction n with
  | zero => intro j h' x5 h1 h2; omega
  | succ n ih =>
    intro j h' x5 h1 h2 hc hV hse
    have hR' : SpR h' g := hR.of (fun c a b => hc c (by omega))
    have hO' : OlR h' g := hO.of hnn.2 (fun c a b => hc c (by omega))
    have hk' := (hR'.2.1 x hx.1 hx.2).2.2
    by_cases hj : (j : Int) < dgF g x
    · obtain ⟨w, w1, w2, w3, w4⟩ := sp_at hs hR' hx hj
      have hv := (hs.2.2.2.2.1 w w3.1 w3.2).1
      have ht : h' 21 w = g 8 w := (hR'.2.2.2.1 w w3.1 w3.2).2.1
      have e59 := hV (g 8 w) (by omega) hv.2.2
      refine aw_iload dX2_chancesOf_57 rfl ?_
      refine aw_aload_n dX2_chancesOf_59 rfl ?_
      refine aw_getR (kx := 9) fl_X2_41 dX2_chancesOf_60 rfl rfl rfl ?_
      refine aw_getR (kx := 5) fl_X2_65 dX2_chancesOf_63 rfl rfl rfl ?_
      refine aw_iload_n dX2_chancesOf_66 rfl ?_
      refine aw_iaload dX2_chancesOf_67 rfl (by decide) (by omega) ?_
      refine aw_icmp_ge (tgt := 121) dX2_chancesOf_68 rfl (by omega) (by omega) (fun hc68 => ?_) (fun hc68 => ?_)
      · omega
      · refine aw_aload_n dX2_chancesOf_71 rfl ?_
        refine aw_getR (kx := 9) fl_X2_41 dX2_chancesOf_72 rfl rfl rfl ?_
        refine aw_getR (kx := 8) fl_X2_84 dX2_chancesOf_75 rfl rfl rfl ?_
        refine aw_aload_n dX2_chancesOf_78 rfl ?_
        refine aw_getR (kx := 9) fl_X2_41 dX2_chancesOf_79 rfl rfl rfl ?_
        refine aw_iload_n dX2_chancesOf_82 rfl ?_
        refine aw_iload dX2_chancesOf_83 rfl ?_
        refine aw_cV2IF (c_X5_wordAt (by omega)) lk_X2_87 dX2_chancesOf_85 (by decide) rfl rfl (fun _ => Nat.le_of_ble_eq_true rfl) ?_
        refine aw_top w2 ?_
        refine aw_iaload dX2_chancesOf_88 rfl (by decide) (by omega) ?_
        refine aw_top ht ?_
        refine aw_istore5 dX2_chancesOf_89 (by decide) rfl ?_
        refine aw_aload_n dX2_chancesOf_91 rfl ?_
        refine aw_getR (kx := 8) fl_X2_38 dX2_chancesOf_92 rfl rfl rfl ?_
        refine aw_iload_n dX2_chancesOf_95 rfl ?_
        refine aw_dup2 dX2_chancesOf_96 ?_
        refine aw_iaload dX2_chancesOf_97 rfl (by decide) (by omega) ?_
        refine aw_aload_n dX2_chancesOf_98 rfl ?_
        refine aw_getR (kx := 8) fl_X2_38 dX2_chancesOf_99 rfl rfl rfl ?_
        refine aw_iload dX2_chancesOf_102 rfl ?_
        refine aw_iaload dX2_chancesOf_104 rfl (by decide) (by omega) ?_
        refine aw_top e59 ?_
        refine aw_aload_n dX2_chancesOf_105 rfl ?_
        refine aw_iload_n dX2_chancesOf_106 rfl ?_
        refine aw_iload dX2_chancesOf_107 rfl ?_
        refine aw_cV2IF (c_X2_weight hs hO' hx ⟨by omega, hv.2.2⟩) lk_X2_104 dX2_chancesOf_109 (by decide) rfl rfl (fun _ => Nat.le_of_ble_eq_true rfl) ?_
        refine aw_imul dX2_chancesOf_112 ?_
        refine aw_iadd dX2_chancesOf_113 ?_
        refine aw_iastore dX2_chancesOf_114 rfl (by decide) (by omega) ?_
        refine aw_iinc4 dX2_chancesOf_115 (by decide) rfl ?_
        refine aw_goto (tgt := 57) dX2_chancesOf_118 rfl ?_
        refine ih (j + 1) _ _ (by omega) (by omega) (fun c a => by rw [am_set_c a]; exact hc c a) (fun y a b => by rw [am_set_i (by omega)]; exact hV y a b) ?_
        rw [am_set_s, tk_fold w1, ← hse]
    · refine aw_iload dX2_chancesOf_57 rfl ?_
      refine aw_aload_n dX2_chancesOf_59 rfl ?_
      refine aw_getR (kx := 9) fl_X2_41 dX2_chancesOf_60 rfl rfl rfl ?_
      refine aw_getR (kx := 5) fl_X2_65 dX2_chancesOf_63 rfl rfl rfl ?_
      refine aw_iload_n dX2_chancesOf_66 rfl ?_
      refine aw_iaload dX2_chancesOf_67 rfl (by decide) (by omega) ?_
      refine aw_icmp_ge (tgt := 121) dX2_chancesOf_68 rfl (by omega) (by omega) (fun hc68 => ?_) (fun hc68 => ?_)
      · exact K h' _ _ hc hV (by rw [hse, tk_all (by omega)])
      · omega
theorem lp_X2_chances1 {h g : am_H} {m st : Int} (hs : MVs g) (hR : SpR h g) (hO : OlR h g) (hm : 0 ≤ m ∧ m ≤ 5) (hst : 0 ≤ st ∧ st < g 0 6) : ∀ (n : Nat) (x : Int) (h' : am_H) (x4 x5 : Option am_V), x < g 0 6 → st - 1 ≤ x → x + 1 - st < n → (∀ c : Int, ¬ c = 59 → h' c = h c) → (∀ y : Int, x < y → y < g 0 6 → ChI g m y (h' 59 y)) → AW GC mX2_chancesOf 2 (am_QI (fun v h' => ChI g m st v ∧ ∀ c : Int, ¬ c = 59 → h' c = h c)) 10 [some (am_R 41), some (am_I m), some (am_I st), some (am_I x), x4, x5] [] h' := by
  have hnn := hs.1
  intro n
  induction n with
  | zero => intro x h' x4 x5 h1 h2 h3; omega
  | succ n ih =>
    intro x h' x4 x5 h1 h2 h3 hc hI
    have hR' : SpR h' g := hR.of (fun c a b => hc c (by omega))
    have hO' : OlR h' g := hO.of hnn.2 (fun c a b => hc c (by omega))
    by_cases hlt : st ≤ x
    · have hx : 0 ≤ x ∧ x < g 0 6 := ⟨by omega, h1⟩
      have hol := hO'.1 x hx.1 hx.2
      have h43 := hol.2.1
      have h58 := hol.2.2.2.2.2.2
      have hm6 : out g x % 64 < 64 := Nat.mod_lt _ (by decide)
      have hkr := hs.2.2.2.1 x hx.1 hx.2
      have hd0 := (cntF_rng (g 7) x (nwN g)).1
      have hd4 : dgF g x ≤ 4 := hs.2.2.2.2.2.2.1 x
      have hd00 : 0 ≤ dgF g x := hd0
      have hpm : 2 ^ m.toNat < 2 ^ 6 := Nat.pow_lt_pow_right (by decide) (by omega)
      obtain ⟨pm, hpd⟩ : ∃ pm : Nat, pm = 2 ^ m.toNat := ⟨_, rfl⟩
      rw [← hpd, show (2 : Nat) ^ 6 = 64 from rfl] at hpm
      have esh : am_shl 1 m = (pm : Int) := by
        have := bt_shl1 (n := m.toNat) (by omega)
        rw [show ((m.toNat : Nat) : Int) = m by omega, ← hpd] at this
        exact this
      have eqm : fin (g 5 x) → (((out g x % 64 : Nat) : Int) = (pm : Int) ↔ g 6 x = m) := by
        rw [hpd]
        intro hf
        have e0 : cntF (g 7) x (nwN g) = 0 := by
          by_cases e : cntF (g 7) x (nwN g) = 0
          · exact e
          · exact absurd hf (nofin hs e)
        have eo : out g x = 2 ^ (g 6 x).toNat := by
          rw [out_eq hs hx.1 hx.2, FO, wl_nil.mpr e0]
          show outB _ _ _ _ _ = _
          rw [outB, if_pos hf]
        have hpw : 2 ^ (g 6 x).toNat < 2 ^ 6 := Nat.pow_lt_pow_right (by decide) (by omega)
        rw [eo, Nat.mod_eq_of_lt hpw]
        constructor
        · intro z
          have z2 : 2 ^ (g 6 x).toNat = 2 ^ m.toNat := by omega
          have := (Nat.pow_right_inj (a := 2) (by decide)).mp z2
          omega
        · intro z; rw [z]
      have K : ∀ (h2 : am_H) (y4 y5 : Option am_V), (∀ c : Int, ¬ c = 59 → h2 c = h c) → (∀ y : Int, x < y → y < g 0 6 → h2 59 y = h' 59 y) → h2 59 x = (wl (g 7) x (nwN g)).foldl (fun s k => s + h' 59 (g 8 k) * wgt g x (g 8 k)) (if fin (g 5 x) ∧ g 6 x = m then ltP g x else 0) → AW GC mX2_chancesOf 2 (am_QI (fun v h' => ChI g m st v ∧ ∀ c : Int, ¬ c = 59 → h' c = h c)) 121 [some (am_R 41), some (am_I m), some (am_I st), some (am_I x), y4, y5] [] h2 := by
        intro h2 y4 y5 hc2 hV2 hx2
        have hce := ch_end hs hx hI
        rw [← hx2] at hce
        refine aw_iinc3 dX2_chancesOf_121 (by decide) rfl ?_
        refine aw_goto (tgt := 10) dX2_chancesOf_124 rfl ?_
        refine ih (x - 1) h2 _ _ (by omega) (by omega) (by omega) hc2 (fun y a b => ?_)
        by_cases e : y = x
        · subst e; exact hce
        · rw [hV2 y (by omega) b]; exact hI y (by omega) b
      have go : ∀ (v : Int), v = (if fin (g 5 x) ∧ g 6 x = m then ltP g x else 0) → AW GC mX2_chancesOf 2 (am_QI (fun v h' => ChI g m st v ∧ ∀ c : Int, ¬ c = 59 → h' c = h c)) 54 [some (am_R 41), some (am_I m), some (am_I st), some (am_I x), x4, x5] [] (am_set h' 59 x v) := by
        intro v hv
        refine aw_iconst dX2_chancesOf_54 ?_
        refine aw_istore4 dX2_chancesOf_55 (by decide) rfl ?_
        exact lp_X2_chances2 hs hR hO hx K 5 0 _ _ (by omega) (by omega) (fun c a => by rw [am_set_c a]; exact hc c a) (fun y a b => by rw [am_set_i (by omega)]) (by rw [am_set_s, hv]; rfl)
      refine aw_iload_n dX2_chancesOf_10 rfl ?_
      refine aw_iload_n dX2_chancesOf_11 rfl ?_
      refine aw_icmp_lt (tgt := 127) dX2_chancesOf_12 rfl (by omega) (by omega) (fun hc12 => ?_) (fun hc12 => ?_)
      · omega
      · refine aw_aload_n dX2_chancesOf_15 rfl ?_
        refine aw_getR (kx := 8) fl_X2_38 dX2_chancesOf_16 rfl rfl rfl ?_
        refine aw_iload_n dX2_chancesOf_19 rfl ?_
        refine aw_aload_n dX2_chancesOf_20 rfl ?_
        refine aw_getR (kx := 1) fl_X2_15 dX2_chancesOf_21 rfl rfl rfl ?_
        refine aw_iload_n dX2_chancesOf_24 rfl ?_
        refine aw_iaload dX2_chancesOf_25 rfl (by decide) (by omega) ?_
        refine aw_top h43 ?_
        refine aw_iconst dX2_chancesOf_26 ?_
        refine aw_iload_n dX2_chancesOf_27 rfl ?_
        refine aw_ishl dX2_chancesOf_28 ?_
        refine aw_top esh ?_
        refine aw_icmp_ne (tgt := 52) dX2_chancesOf_29 rfl (by omega) (by omega) (fun hc29 => ?_) (fun hc29 => ?_)
        · refine aw_iconst dX2_chancesOf_52 ?_
          refine aw_iastore dX2_chancesOf_53 rfl (by decide) (by omega) ?_
          exact go _ (by rw [if_neg (fun z => hc29 ((eqm z.1).mpr z.2))])
        · refine aw_aload_n dX2_chancesOf_32 rfl ?_
          refine aw_getR (kx := 9) fl_X2_41 dX2_chancesOf_33 rfl rfl rfl ?_
          refine aw_iload_n dX2_chancesOf_36 rfl ?_
          refine aw_cV1IF (c_X5_isEnd hs hR' hx) lk_X2_74 dX2_chancesOf_37 (by decide) rfl rfl (fun _ => Nat.le_of_ble_eq_true rfl) ?_
          refine aw_ifb_eq (tgt := 52) dX2_chancesOf_40 rfl (fun hc40 => ?_) (fun hc40 => ?_)
          · refine aw_iconst dX2_chancesOf_52 ?_
            refine aw_iastore dX2_chancesOf_53 rfl (by decide) (by omega) ?_
            exact go _ (by rw [if_neg (fun z => hc40 z.1)])
          · refine aw_aload_n dX2_chancesOf_43 rfl ?_
            refine aw_getR (kx := 7) fl_X2_35 dX2_chancesOf_44 rfl rfl rfl ?_
            refine aw_iload_n dX2_chancesOf_47 rfl ?_
            refine aw_iaload dX2_chancesOf_48 rfl (by decide) (by omega) ?_
            refine aw_top h58 ?_
            refine aw_goto (tgt := 53) dX2_chancesOf_49 rfl ?_
            refine aw_iastore dX2_chancesOf_53 rfl (by decide) (by omega) ?_
            exact go _ (by rw [if_pos ⟨hc40, (eqm hc40).mp (by omega)⟩])
    · have ex : x = st - 1 := by omega
      have hIs := hI st (by omega) hst.2
      refine aw_iload_n dX2_chancesOf_10 rfl ?_
      refine aw_iload_n dX2_chancesOf_11 rfl ?_
      refine aw_icmp_lt (tgt := 127) dX2_chancesOf_12 rfl (by omega) (by omega) (fun hc12 => ?_) (fun hc12 => ?_)
      · refine aw_aload_n dX2_chancesOf_127 rfl ?_
        refine aw_getR (kx := 8) fl_X2_38 dX2_chancesOf_128 rfl rfl rfl ?_
        refine aw_iload_n dX2_chancesOf_131 rfl ?_
        refine aw_iaload dX2_chancesOf_132 rfl (by decide) (by omega) ?_
        refine aw_iretQ dX2_chancesOf_133 rfl ?_
        exact ⟨hIs, hc⟩
      · omega
theorem c_X2_chancesOf {h g : am_H} {m st : Int} (hs : MVs g) (hR : SpR h g) (hO : OlR h g) (hm : 0 ≤ m ∧ m ≤ 5) (hst : 0 ≤ st ∧ st < g 0 6) : AMet GC mX2_chancesOf 2 [am_R 41, am_I m, am_I st] h (am_QI (fun v h' => ChI g m st v ∧ ∀ c : Int, ¬ c = 59 → h' c = h c)) := by
  have hnn := hs.1
  have e0 := hR.1.1
  refine am_start [some (am_R 41), some (am_I m), some (am_I st), none, none, none] rfl rfl (by decide) (Nat.le_of_ble_eq_true rfl) ?_
  refine aw_aload_n dX2_chancesOf_0 rfl ?_
  refine aw_getR (kx := 9) fl_X2_41 dX2_chancesOf_1 rfl rfl rfl ?_
  refine aw_getI (kx := 0) fl_X2_51 dX2_chancesOf_4 rfl rfl rfl ?_
  refine aw_top e0 ?_
  refine aw_iconst dX2_chancesOf_7 ?_
  refine aw_isub dX2_chancesOf_8 ?_
  refine aw_istore_3 dX2_chancesOf_9 (by decide) rfl ?_
  exact lp_X2_chances1 hs hR hO hm hst 10 _ h _ _ (by omega) (by omega) (by omega) (fun c _ => rfl) (fun y a b => by omega)
