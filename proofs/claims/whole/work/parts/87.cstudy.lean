theorem lp_X2_gather1 {h g : am_H} {x : Int} (hs : MVs g) (hR : SpR h g) (hx : 0 ≤ x ∧ x < g 0 6) (hO : ∀ y : Int, x < y → y < g 0 6 → OlX h g y) : ∀ (m j : Nat) (h' : am_H) (x4 x5 : Option am_V), (j : Int) ≤ dgF g x → dgF g x - j < m → GaI h h' g x ((wl (g 7) x (nwN g)).take j) → AW GC mX2_gather 2 (am_QV (fun h' => GaI h h' g x (wl (g 7) x (nwN g)))) 47 [some (am_R 41), some (am_I x), some (am_I (yrK (g 5 x))), some (am_I j), x4, x5] [] h' := by
  have hnn := hs.1
  have hw := hs.2.1
  have hk := (hR.2.1 x hx.1 hx.2).2.2
  have hd4 : dgF g x ≤ 4 := hs.2.2.2.2.2.2.1 x
  have hl := dg_len g x
  have hyk := yrK_rng (g 5 x)
  have htk : ∀ (j : Nat) (k : Int), k ∈ (wl (g 7) x (nwN g)).take j → 0 ≤ g 8 k ∧ g 8 k < g 0 6 := by
    intro j k hk2
    obtain ⟨a1, a2, a3⟩ := wl_mem.mp (List.mem_of_mem_take hk2)
    have a4 := to_ok hs k a1 a2
    omega
  intro m
  induction m with
  | zero => intro j h' x4 x5 h1 h2; omega
  | succ m ih =>
    intro j h' x4 x5 h1 h2 hI
    have hF := hI.1
    have hR' := hF.sp hR
    have hk' : h' 18 x = dgF g x := (hR'.2.1 x hx.1 hx.2).2.2
    by_cases hj : (j : Int) < dgF g x
    · obtain ⟨w, w1, w2, w3, w4⟩ := sp_at hs hR' hx hj
      have hv := (hs.2.2.2.2.1 w w3.1 w3.2).1
      have ht : h' 21 w = g 8 w := (hR'.2.2.2.1 w w3.1 w3.2).2.1
      have hOt := OlX.of (y := g 8 w) hF ⟨by omega, by omega⟩ (by omega) (hO (g 8 w) (by omega) hv.2.2)
      have hol := out_lt hs 9 (g 8 w) (by omega) hv.2.2 (by omega)
      have hlt := ga_lt (x := x) hs ((wl (g 7) x (nwN g)).take j) 0 (by decide) (htk j)
      have hlt6 : ((wl (g 7) x (nwN g)).take j).foldl (fun s k => s ||| out g (g 8 k) % 64) 0 < 64 := by
        have := fold_mod64 (g := g) ((wl (g 7) x (nwN g)).take j) 0
        rw [Nat.zero_mod] at this
        rw [← this]; exact Nat.mod_lt _ (by decide)
      have hm6 : out g (g 8 w) % 64 < 64 := Nat.mod_lt _ (by decide)
      have hys := yrs_ok hs 9 (g 8 w) (by omega) hv.2.2 (by omega)
      have hsr := sen_rng hs 9 (g 8 w) (by omega) hv.2.2 (by omega)
      rw [show (4 : Nat) ^ 9 = 262144 from rfl] at hsr
      have hfr := fmF_rng (g := g) (x := x) ((wl (g 7) x (nwN g)).take j) (9, 0) (by dsimp only; omega) (by dsimp only; omega) (fun k hk2 hp => by
        have t1 := htk j k hk2
        have t2 := yrs_ok hs 9 (g 8 k) t1.1 t1.2 (by omega)
        rcases t2.2 with q | q
        · omega
        · exact q.2)
      have i45 := hI.2.2.2.2.2.2.1
      have i46 := hI.2.2.2.2.2.2.2.1
      have r45 : 0 ≤ h' 45 x ∧ h' 45 x ≤ 9 := by rw [i45]; exact hfr.1
      have r46 : 0 ≤ h' 46 x ∧ h' 46 x ≤ 9 := by rw [i46]; exact hfr.2
      have hne : ¬ g 8 w = x := by omega
      have B1 : ∀ A : Int, am_or (am_set h' 42 x A 43 x) (am_set h' 42 x A 43 (g 8 w)) = ((((wl (g 7) x (nwN g)).take j).foldl (fun s k => s ||| out g (g 8 k) % 64) 0 ||| out g (g 8 w) % 64 : Nat) : Int) := by
        intro A
        rw [am_set_c (by decide), hI.2.2.2.2.1, hOt.2.1]; exact bt_or (by omega) (by omega)
      have C1 : ∀ A B : Int, am_or (am_set (am_set h' 42 x A) 43 x B 44 x) (am_set (am_set h' 42 x A) 43 x B 44 (g 8 w)) = ((((wl (g 7) x (nwN g)).take j).foldl (fun s k => s ||| out g (g 8 k)) 0 ||| out g (g 8 w) : Nat) : Int) := by
        intro A B
        rw [am_set_c (by decide), am_set_c (by decide), hI.2.2.2.2.2.1, hOt.2.2.1]; exact bt_or (by omega) (by omega)
      have A1 : h' 42 x + h' 42 (g 8 w) = h' 42 x + sen g (g 8 w) := by rw [hOt.1]
      have nxt : ∀ (h3 : am_H) (y4 y5 : Option am_V), GaI h h3 g x ((wl (g 7) x (nwN g)).take j ++ [w]) → AW GC mX2_gather 2 (am_QV (fun h' => GaI h h' g x (wl (g 7) x (nwN g)))) 225 [some (am_R 41), some (am_I x), some (am_I (yrK (g 5 x))), some (am_I j), y4, y5] [] h3 := by
        intro h3 y4 y5 hI3
        rw [← tk_cons w1] at hI3
        refine aw_iinc3 dX2_gather_225 (by decide) rfl ?_
        refine aw_goto (tgt := 47) dX2_gather_228 rfl ?_
        exact ih (j + 1) h3 _ _ (by omega) (by omega) hI3
      have K167 : ∀ (A B C n : Int) (h2 : am_H), A = h' 42 x + sen g (g 8 w) → B = ((((wl (g 7) x (nwN g)).take j).foldl (fun s k => s ||| out g (g 8 k) % 64) 0 ||| out g (g 8 w) % 64 : Nat) : Int) → C = ((((wl (g 7) x (nwN g)).take j).foldl (fun s k => s ||| out g (g 8 k)) 0 ||| out g (g 8 w) : Nat) : Int) → h2 = am_up (am_set (am_set (am_set h' 42 x A) 43 x B) 44 x C) (49 + x) (gaY (am_set (am_set (am_set h' 42 x A) 43 x B) 44 x C) x (g 8 w) (yrK (g 5 x)) 9) → AW GC mX2_gather 2 (am_QV (fun h' => GaI h h' g x (wl (g 7) x (nwN g)))) 167 [some (am_R 41), some (am_I x), some (am_I (yrK (g 5 x))), some (am_I j), some (am_I (g 8 w)), some (am_I n)] [] h2 := by
        intro A B C n h2 eA eB eC eh
        have t42 : h2 42 (g 8 w) = sen g (g 8 w) := by rw [eh, am_up_c (by omega), am_set_c (by decide), am_set_c (by decide), am_set_i hne]; exact hOt.1
        have t45 : h2 45 (g 8 w) = h' 45 (g 8 w) := by rw [eh, am_up_c (by omega), am_set_c (by decide), am_set_c (by decide), am_set_c (by decide)]
        have t46 : h2 46 (g 8 w) = h' 46 (g 8 w) := by rw [eh, am_up_c (by omega), am_set_c (by decide), am_set_c (by decide), am_set_c (by decide)]
        have x45 : h2 45 x = h' 45 x := by rw [eh, am_up_c (by omega), am_set_c (by decide), am_set_c (by decide), am_set_c (by decide)]
        have x46 : h2 46 x = h' 46 x := by rw [eh, am_up_c (by omega), am_set_c (by decide), am_set_c (by decide), am_set_c (by decide)]
        have gs := fun p q h3 => ga_step (p := p) (q := q) hs hx w3 w4 hO hI eA eB eC h2 eh h3
        by_cases hp : 0 < sen g (g 8 w)
        · have hy2 := hOt.2.2.2.1 hp
          have hyr : (0 ≤ (yrs g (g 8 w)).1 ∧ (yrs g (g 8 w)).1 ≤ 8) ∧ 0 ≤ (yrs g (g 8 w)).2 ∧ (yrs g (g 8 w)).2 ≤ 8 := by
            rcases hys.2 with q | q
            · omega
            · exact q.2
          refine aw_aload_n dX2_gather_167 rfl ?_
          refine aw_getR (kx := 0) fl_X2_9 dX2_gather_168 rfl rfl rfl ?_
          refine aw_iload dX2_gather_171 rfl ?_
          refine aw_iaload dX2_gather_173 rfl (by decide) (by omega) ?_
          refine aw_top t42 ?_
          refine aw_if_le (tgt := 225) dX2_gather_174 rfl (by omega) (fun hc174 => ?_) (fun hc174 => ?_)
          · omega
          · refine aw_aload_n dX2_gather_177 rfl ?_
            refine aw_getR (kx := 3) fl_X2_21 dX2_gather_178 rfl rfl rfl ?_
            refine aw_iload_n dX2_gather_181 rfl ?_
            refine aw_aload_n dX2_gather_182 rfl ?_
            refine aw_getR (kx := 3) fl_X2_21 dX2_gather_183 rfl rfl rfl ?_
            refine aw_iload_n dX2_gather_186 rfl ?_
            refine aw_iaload dX2_gather_187 rfl (by decide) (by omega) ?_
            refine aw_top x45 ?_
            refine aw_aload_n dX2_gather_188 rfl ?_
            refine aw_getR (kx := 3) fl_X2_21 dX2_gather_189 rfl rfl rfl ?_
            refine aw_iload dX2_gather_192 rfl ?_
            refine aw_iaload dX2_gather_194 rfl (by decide) (by omega) ?_
            refine aw_top (t45.trans hy2.1) ?_
            refine aw_iload_n dX2_gather_195 rfl ?_
            refine aw_iadd dX2_gather_196 ?_
            refine aw_cS2IF (c_J9_min (by omega) (by omega)) lk_X2_91 dX2_gather_197 (by decide) (fun _ => Nat.le_of_ble_eq_true rfl) ?_
            refine aw_iastore dX2_gather_200 rfl (by decide) (by omega) ?_
            refine aw_aload_n dX2_gather_201 rfl ?_
            refine aw_getR (kx := 4) fl_X2_24 dX2_gather_202 rfl rfl rfl ?_
            refine aw_iload_n dX2_gather_205 rfl ?_
            refine aw_aload_n dX2_gather_206 rfl ?_
            refine aw_getR (kx := 4) fl_X2_24 dX2_gather_207 rfl rfl rfl ?_
            refine aw_iload_n dX2_gather_210 rfl ?_
            refine aw_iaload dX2_gather_211 rfl (by decide) (by omega) ?_
            refine aw_top (show _ = h' 46 x by rw [am_set_c (by decide)]; exact x46) ?_
            refine aw_aload_n dX2_gather_212 rfl ?_
            refine aw_getR (kx := 4) fl_X2_24 dX2_gather_213 rfl rfl rfl ?_
            refine aw_iload dX2_gather_216 rfl ?_
            refine aw_iaload dX2_gather_218 rfl (by decide) (by omega) ?_
            refine aw_top (show _ = (yrs g (g 8 w)).2 by rw [am_set_c (by decide)]; exact t46.trans hy2.2) ?_
            refine aw_iload_n dX2_gather_219 rfl ?_
            refine aw_iadd dX2_gather_220 ?_
            refine aw_cS2IF (c_J9_max (by omega) (by omega)) lk_X2_96 dX2_gather_221 (by decide) (fun _ => Nat.le_of_ble_eq_true rfl) ?_
            refine aw_iastore dX2_gather_224 rfl (by decide) (by omega) ?_
            exact nxt _ _ _ (gs _ _ _ (Or.inr ⟨hp, rfl, rfl, rfl⟩))
        · refine aw_aload_n dX2_gather_167 rfl ?_
          refine aw_getR (kx := 0) fl_X2_9 dX2_gather_168 rfl rfl rfl ?_
          refine aw_iload dX2_gather_171 rfl ?_
          refine aw_iaload dX2_gather_173 rfl (by decide) (by omega) ?_
          refine aw_top t42 ?_
          refine aw_if_le (tgt := 225) dX2_gather_174 rfl (by omega) (fun hc174 => ?_) (fun hc174 => ?_)
          · exact nxt _ _ _ (gs 0 0 h2 (Or.inl ⟨hp, rfl⟩))
          · omega
      refine aw_iload_n dX2_gather_47 rfl ?_
      refine aw_aload_n dX2_gather_48 rfl ?_
      refine aw_getR (kx := 9) fl_X2_41 dX2_gather_49 rfl rfl rfl ?_
      refine aw_getR (kx := 5) fl_X2_65 dX2_gather_52 rfl rfl rfl ?_
      refine aw_iload_n dX2_gather_55 rfl ?_
      refine aw_iaload dX2_gather_56 rfl (by decide) (by omega) ?_
      refine aw_icmp_ge (tgt := 231) dX2_gather_57 rfl (by omega) (by omega) (fun hc57 => ?_) (fun hc57 => ?_)
      · omega
      · refine aw_aload_n dX2_gather_60 rfl ?_
        refine aw_getR (kx := 9) fl_X2_41 dX2_gather_61 rfl rfl rfl ?_
        refine aw_getR (kx := 8) fl_X2_84 dX2_gather_64 rfl rfl rfl ?_
        refine aw_aload_n dX2_gather_67 rfl ?_
        refine aw_getR (kx := 9) fl_X2_41 dX2_gather_68 rfl rfl rfl ?_
        refine aw_iload_n dX2_gather_71 rfl ?_
        refine aw_iload_n dX2_gather_72 rfl ?_
        refine aw_cV2IF (c_X5_wordAt (by omega)) lk_X2_87 dX2_gather_73 (by decide) rfl rfl (fun _ => Nat.le_of_ble_eq_true rfl) ?_
        refine aw_top w2 ?_
        refine aw_iaload dX2_gather_76 rfl (by decide) (by omega) ?_
        refine aw_top ht ?_
        refine aw_istore4 dX2_gather_77 (by decide) rfl ?_
        refine aw_aload_n dX2_gather_79 rfl ?_
        refine aw_getR (kx := 0) fl_X2_9 dX2_gather_80 rfl rfl rfl ?_
        refine aw_iload_n dX2_gather_83 rfl ?_
        refine aw_dup2 dX2_gather_84 ?_
        refine aw_iaload dX2_gather_85 rfl (by decide) (by omega) ?_
        refine aw_aload_n dX2_gather_86 rfl ?_
        refine aw_getR (kx := 0) fl_X2_9 dX2_gather_87 rfl rfl rfl ?_
        refine aw_iload dX2_gather_90 rfl ?_
        refine aw_iaload dX2_gather_92 rfl (by decide) (by omega) ?_
        refine aw_iadd dX2_gather_93 ?_
        refine aw_top A1 ?_
        refine aw_iastore dX2_gather_94 rfl (by decide) (by omega) ?_
        refine aw_aload_n dX2_gather_95 rfl ?_
        refine aw_getR (kx := 1) fl_X2_15 dX2_gather_96 rfl rfl rfl ?_
        refine aw_iload_n dX2_gather_99 rfl ?_
        refine aw_dup2 dX2_gather_100 ?_
        refine aw_iaload dX2_gather_101 rfl (by decide) (by omega) ?_
        refine aw_aload_n dX2_gather_102 rfl ?_
        refine aw_getR (kx := 1) fl_X2_15 dX2_gather_103 rfl rfl rfl ?_
        refine aw_iload dX2_gather_106 rfl ?_
        refine aw_iaload dX2_gather_108 rfl (by decide) (by omega) ?_
        refine aw_ior dX2_gather_109 ?_
        refine aw_top (B1 _) ?_
        refine aw_iastore dX2_gather_110 rfl (by decide) (by omega) ?_
        refine aw_aload_n dX2_gather_111 rfl ?_
        refine aw_getR (kx := 2) fl_X2_18 dX2_gather_112 rfl rfl rfl ?_
        refine aw_iload_n dX2_gather_115 rfl ?_
        refine aw_dup2 dX2_gather_116 ?_
        refine aw_iaload dX2_gather_117 rfl (by decide) (by omega) ?_
        refine aw_aload_n dX2_gather_118 rfl ?_
        refine aw_getR (kx := 2) fl_X2_18 dX2_gather_119 rfl rfl rfl ?_
        refine aw_iload dX2_gather_122 rfl ?_
        refine aw_iaload dX2_gather_124 rfl (by decide) (by omega) ?_
        refine aw_ior dX2_gather_125 ?_
        refine aw_top (C1 _ _) ?_
        refine aw_iastore dX2_gather_126 rfl (by decide) (by omega) ?_
        refine aw_iload_n dX2_gather_127 rfl ?_
        refine aw_istore5 dX2_gather_128 (by decide) rfl ?_
        refine aw_heap (am_up_self _ (49 + x)).symm ?_
        refine lp_X2_gather2 ⟨hx.1, by omega⟩ ⟨by omega, by omega⟩ hne hyk (fun n => K167 _ _ _ n _ rfl rfl rfl rfl) 10 _ _ (by omega) (by omega) (by omega) ?_
        funext i; unfold gaY; rw [if_neg (by omega)]
    · have e : (wl (g 7) x (nwN g)).take j = wl (g 7) x (nwN g) := List.take_of_length_le (by omega)
      rw [e] at hI
      refine aw_iload_n dX2_gather_47 rfl ?_
      refine aw_aload_n dX2_gather_48 rfl ?_
      refine aw_getR (kx := 9) fl_X2_41 dX2_gather_49 rfl rfl rfl ?_
      refine aw_getR (kx := 5) fl_X2_65 dX2_gather_52 rfl rfl rfl ?_
      refine aw_iload_n dX2_gather_55 rfl ?_
      refine aw_iaload dX2_gather_56 rfl (by decide) (by omega) ?_
      refine aw_icmp_ge (tgt := 231) dX2_gather_57 rfl (by omega) (by omega) (fun hc57 => ?_) (fun hc57 => ?_)
      · refine aw_vretQ dX2_gather_231 rfl ?_
        exact hI
      · omega
theorem c_X2_gather {h g : am_H} {x : Int} (hs : MVs g) (hR : SpR h g) (hx : 0 ≤ x ∧ x < g 0 6) (hO : ∀ y : Int, x < y → y < g 0 6 → OlX h g y) (hz : ∀ n : Int, 0 ≤ n → n ≤ 8 → h (49 + x) n = 0) : AMet GC mX2_gather 2 [am_R 41, am_I x] h (am_QV (fun h' => GaI h h' g x (wl (g 7) x (nwN g)))) := by
  have hnn := hs.1
  have hd4 : dgF g x ≤ 4 := hs.2.2.2.2.2.2.1 x
  have hd0 : 0 ≤ dgF g x := (cntF_rng _ _ _).1
  refine am_start [some (am_R 41), some (am_I x), none, none, none, none] rfl rfl (by decide) (Nat.le_of_ble_eq_true rfl) ?_
  refine aw_aload_n dX2_gather_0 rfl ?_
  refine aw_getR (kx := 9) fl_X2_41 dX2_gather_1 rfl rfl rfl ?_
  refine aw_iload_n dX2_gather_4 rfl ?_
  refine aw_cV1IF (c_X5_yearsOfWord hs hR hx) lk_X2_80 dX2_gather_5 (by decide) rfl rfl (fun _ => Nat.le_of_ble_eq_true rfl) ?_
  refine aw_istore_2 dX2_gather_8 (by decide) rfl ?_
  refine aw_aload_n dX2_gather_9 rfl ?_
  refine aw_getR (kx := 0) fl_X2_9 dX2_gather_10 rfl rfl rfl ?_
  refine aw_iload_n dX2_gather_13 rfl ?_
  refine aw_iconst dX2_gather_14 ?_
  refine aw_iastore dX2_gather_15 rfl (by decide) (by omega) ?_
  refine aw_aload_n dX2_gather_16 rfl ?_
  refine aw_getR (kx := 1) fl_X2_15 dX2_gather_17 rfl rfl rfl ?_
  refine aw_iload_n dX2_gather_20 rfl ?_
  refine aw_iconst dX2_gather_21 ?_
  refine aw_iastore dX2_gather_22 rfl (by decide) (by omega) ?_
  refine aw_aload_n dX2_gather_23 rfl ?_
  refine aw_getR (kx := 2) fl_X2_18 dX2_gather_24 rfl rfl rfl ?_
  refine aw_iload_n dX2_gather_27 rfl ?_
  refine aw_iconst dX2_gather_28 ?_
  refine aw_iastore dX2_gather_29 rfl (by decide) (by omega) ?_
  refine aw_aload_n dX2_gather_30 rfl ?_
  refine aw_getR (kx := 3) fl_X2_21 dX2_gather_31 rfl rfl rfl ?_
  refine aw_iload_n dX2_gather_34 rfl ?_
  refine aw_bipush (by decide) dX2_gather_35 ?_
  refine aw_iastore dX2_gather_37 rfl (by decide) (by omega) ?_
  refine aw_aload_n dX2_gather_38 rfl ?_
  refine aw_getR (kx := 4) fl_X2_24 dX2_gather_39 rfl rfl rfl ?_
  refine aw_iload_n dX2_gather_42 rfl ?_
  refine aw_iconst dX2_gather_43 ?_
  refine aw_iastore dX2_gather_44 rfl (by decide) (by omega) ?_
  refine aw_iconst dX2_gather_45 ?_
  refine aw_istore_3 dX2_gather_46 (by decide) rfl ?_
  refine lp_X2_gather1 hs hR hx hO 5 0 _ _ _ (by omega) (by omega) ⟨((((((FrX.rf h x).set (c := 42) (by omega)).set (c := 43) (by omega)).set (c := 44) (by omega)).set (c := 45) (by omega)).set (c := 46) (by omega)), ?_, ?_, ?_, ?_, ?_, ?_, ?_, fun n a b => ?_⟩
  · rw [am_set_c (by decide), am_set_c (by decide), am_set_c (by decide), am_set_c (by decide), am_set_c (by decide)]
  · rw [am_set_c (by decide), am_set_c (by decide), am_set_c (by decide), am_set_c (by decide), am_set_c (by decide)]
  · rw [am_set_c (by decide), am_set_c (by decide), am_set_c (by decide), am_set_c (by decide), am_set_s]; rfl
  · rw [am_set_c (by decide), am_set_c (by decide), am_set_c (by decide), am_set_s]; rfl
  · rw [am_set_c (by decide), am_set_c (by decide), am_set_s]; rfl
  · rw [am_set_c (by decide), am_set_s]; rfl
  · rw [am_set_s]; rfl
  · rw [am_set_c (by omega), am_set_c (by omega), am_set_c (by omega), am_set_c (by omega), am_set_c (by omega), hz n a b]; unfold jsF; split <;> rfl
/-- what gather found is what the reference says -/
theorem ga_ol {h h' g : am_H} {x : Int} (hs : MVs g) (hx : 0 ≤ x ∧ x < g 0 6) (hd : ¬ dgF g x = 0) (hI : GaI h h' g x (wl (g 7) x (nwN g))) : h' 42 x = sen g x ∧ h' 43 x = ((out g x % 64 : Nat) : Int) ∧ h' 44 x = ((out g x : Nat) : Int) ∧ (0 < sen g x → h' 45 x = (yrs g x).1 ∧ h' 46 x = (yrs g x).2) ∧ ∀ n : Int, 0 ≤ n → n ≤ 8 → h' (49 + x) n = jst g x n := by
  have hd2 : ¬ cntF (g 7) x (nwN g) = 0 := hd
  have hf := nofin (x := x) hs hd2
  obtain ⟨hF, i47, i58, i42, i43, i44, i45, i46, iY⟩ := hI
  have eo : out g x = (wl (g 7) x (nwN g)).foldl (fun s k => s ||| out g (g 8 k)) 0 := by
    rw [out_eq hs hx.1 hx.2, FO, outB, if_neg hf, if_neg hd2]
  refine ⟨?_, ?_, ?_, fun hp => ?_, fun n a b => ?_⟩
  · rw [i42, sen_eq hs hx.1 hx.2, FS, if_neg hf]
  · rw [i43, eo, fold_mod64]
  · rw [i44, eo]
  · have := fm_eq hs hx.1 hx.2 hd2 hp
    rw [i45, i46, this]; exact ⟨rfl, rfl⟩
  · have ejB : jB (g 5) x n = 0 := by unfold jB; rw [if_neg (fun z => hf z.2)]
    rw [iY n a b, jst_eq hs hx.1 hx.2, FJ, ejB]
    unfold jsF
    by_cases q : n < yrK (g 5 x)
    · rw [if_pos q, if_neg (by omega)]
    · rw [if_neg q, if_pos (by omega)]
