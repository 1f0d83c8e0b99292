/-! how deeds are: the reference's states, below 1536: two bits each, the years left above 8 bits -/
def hw (of d : Int) : Int := am_and (am_shr of (2 * d)) 3
theorem am_and3 (a : Int) : 0 ≤ am_and a 3 ∧ am_and a 3 ≤ 3 := by
  unfold am_and
  rw [pk_and (Int32.ofInt a) (m := Int32.ofInt 3) 2 (by decide), nI_toInt (by omega)]
  omega
theorem hw_rng (of d : Int) : 0 ≤ hw of d ∧ hw of d ≤ 3 := am_and3 _
theorem c_X8_howOf {g : am_H} {of d : Int} : AMet GM mX8_howOf 1 [am_I of, am_I d] g (am_FI (hw of d) g) := by
  refine am_start [some (am_I of), some (am_I d)] rfl rfl (by decide) (Nat.le_of_ble_eq_true rfl) ?_
  refine aw_iload_n dX8_howOf_0 rfl ?_
  refine aw_iconst dX8_howOf_1 ?_
  refine aw_iload_n dX8_howOf_2 rfl ?_
  refine aw_imul dX8_howOf_3 ?_
  refine aw_ishr dX8_howOf_4 ?_
  refine aw_iconst dX8_howOf_5 ?_
  refine aw_iand dX8_howOf_6 ?_
  refine aw_iretF dX8_howOf_7 rfl ?_
  exact ⟨rfl, rfl⟩
def bgF (of : Int) : Nat → Int
  | 0 => -9
  | n + 1 => if hw of n = 1 then n else bgF of n
def bg (of : Int) : Int := bgF of 4
theorem bgF_rng (of : Int) : ∀ n : Nat, -9 ≤ bgF of n ∧ bgF of n < n
  | 0 => by simp [bgF]
  | n + 1 => by
    have := bgF_rng of n
    simp only [bgF]; split <;> omega
theorem lp_X8_begunOf {g : am_H} {of : Int} : ∀ (m i : Nat), i ≤ 4 → 4 - i < m → AW GM mX8_begunOf 2 (am_FI (bg of) g) 5 [some (am_I of), some (am_I (bgF of i)), some (am_I i)] [] g := by
  intro m
  induction m with
  | zero => intro i h1 h2; omega
  | succ m ih =>
    intro i h1 h2
    have hr := hw_rng of i
    refine aw_iload_n dX8_begunOf_5 rfl ?_
    refine aw_iconst dX8_begunOf_6 ?_
    refine aw_icmp_ge (tgt := 31) dX8_begunOf_7 rfl (by omega) (by omega) (fun hc7 => ?_) (fun hc7 => ?_)
    · refine aw_iload_n dX8_begunOf_31 rfl ?_
      refine aw_iretF dX8_begunOf_32 rfl ?_
      exact ⟨by rw [bg, show i = 4 by omega], rfl⟩
    · refine aw_iload_n dX8_begunOf_10 rfl ?_
      refine aw_iload_n dX8_begunOf_11 rfl ?_
      refine aw_cS2IF (c_X8_howOf) lk_X8_245 dX8_begunOf_12 (by decide) (fun _ => Nat.le_of_ble_eq_true rfl) ?_
      refine aw_iconst dX8_begunOf_15 ?_
      refine aw_icmp_ne (tgt := 23) dX8_begunOf_16 rfl (by omega) (by omega) (fun hc16 => ?_) (fun hc16 => ?_)
      · refine aw_iload_n dX8_begunOf_23 rfl ?_
        refine aw_istore_1 dX8_begunOf_24 (by decide) rfl ?_
        refine aw_iinc2 dX8_begunOf_25 (by decide) rfl ?_
        refine aw_goto (tgt := 5) dX8_begunOf_28 rfl ?_
        refine aw_ls ?_ (ih (i + 1) (by omega) (by omega))
        simp only [bgF, if_neg hc16]; simp
      · refine aw_iload_n dX8_begunOf_19 rfl ?_
        refine aw_goto (tgt := 24) dX8_begunOf_20 rfl ?_
        refine aw_istore_1 dX8_begunOf_24 (by decide) rfl ?_
        refine aw_iinc2 dX8_begunOf_25 (by decide) rfl ?_
        refine aw_goto (tgt := 5) dX8_begunOf_28 rfl ?_
        refine aw_ls ?_ (ih (i + 1) (by omega) (by omega))
        simp only [bgF, if_pos hc16]; simp
theorem c_X8_begunOf {g : am_H} {of : Int} : AMet GM mX8_begunOf 2 [am_I of] g (am_FI (bg of) g) := by
  refine am_start [some (am_I of), none, none] rfl rfl (by decide) (Nat.le_of_ble_eq_true rfl) ?_
  refine aw_bipush (by decide) dX8_begunOf_0 ?_
  refine aw_istore_1 dX8_begunOf_2 (by decide) rfl ?_
  refine aw_iconst dX8_begunOf_3 ?_
  refine aw_istore_2 dX8_begunOf_4 (by decide) rfl ?_
  exact lp_X8_begunOf 5 0 (by omega) (by omega)
/-- behind a word from a node of this kind -/
def gon (k of : Int) : Int := if bg of < 0 ∨ k = 3 ∨ k = 2 then of else if k = 5 then am_or (am_and (am_and of 255) (am_xor (am_shl 3 (2 * bg of)) (-1))) (am_shl 3 (2 * bg of)) else if am_shr of 8 = 1 then am_or (am_and (am_and of 255) (am_xor (am_shl 3 (2 * bg of)) (-1))) (am_shl 2 (2 * bg of)) else am_or (am_or (am_and (am_and of 255) (am_xor (am_shl 3 (2 * bg of)) (-1))) (am_shl 1 (2 * bg of))) (am_shl (am_shr of 8 - 1) 8)
theorem am_shr_rng (a b : Int) : -2147483648 ≤ am_shr a b ∧ am_shr a b < 2147483648 := fb_rngI _
theorem c_X8_goneOn {g : am_H} {x of : Int} (hx : 0 ≤ x ∧ x < 9) (hk : 0 ≤ g 5 x ∧ g 5 x ≤ 5) (hof : -2147483648 ≤ of ∧ of < 2147483648) : AMet GM mX8_goneOn 3 [am_R 0, am_I x, am_I of] g (am_FI (gon (g 5 x) of) g) := by
  have hb := bgF_rng of 4
  have hbb : -9 ≤ bg of ∧ bg of < 4 := hb
  have hsr := am_shr_rng of 8
  refine am_start [some (am_R 0), some (am_I x), some (am_I of), none, none, none] rfl rfl (by decide) (Nat.le_of_ble_eq_true rfl) ?_
  refine aw_iload_n dX8_goneOn_0 rfl ?_
  refine aw_cS1IF (c_X8_begunOf) lk_X8_268 dX8_goneOn_1 (by decide) (fun _ => Nat.le_of_ble_eq_true rfl) ?_
  refine aw_istore_3 dX8_goneOn_4 (by decide) rfl ?_
  refine aw_iload_n dX8_goneOn_5 rfl ?_
  refine aw_if_lt (tgt := 29) dX8_goneOn_6 rfl (by omega) (fun hc6 => ?_) (fun hc6 => ?_)
  · refine aw_iload_n dX8_goneOn_29 rfl ?_
    refine aw_iretF dX8_goneOn_30 rfl ?_
    exact ⟨by rw [gon, if_pos (by omega)], rfl⟩
  · refine aw_aload_n dX8_goneOn_9 rfl ?_
    refine aw_getR (kx := 4) fl_X8_22 dX8_goneOn_10 rfl rfl rfl ?_
    refine aw_iload_n dX8_goneOn_13 rfl ?_
    refine aw_iaload dX8_goneOn_14 rfl (by decide) (by omega) ?_
    refine aw_iconst dX8_goneOn_15 ?_
    refine aw_icmp_eq (tgt := 29) dX8_goneOn_16 rfl (by omega) (by omega) (fun hc16 => ?_) (fun hc16 => ?_)
    · refine aw_iload_n dX8_goneOn_29 rfl ?_
      refine aw_iretF dX8_goneOn_30 rfl ?_
      exact ⟨by rw [gon, if_pos (by omega)], rfl⟩
    · refine aw_aload_n dX8_goneOn_19 rfl ?_
      refine aw_getR (kx := 4) fl_X8_22 dX8_goneOn_20 rfl rfl rfl ?_
      refine aw_iload_n dX8_goneOn_23 rfl ?_
      refine aw_iaload dX8_goneOn_24 rfl (by decide) (by omega) ?_
      refine aw_iconst dX8_goneOn_25 ?_
      refine aw_icmp_ne (tgt := 31) dX8_goneOn_26 rfl (by omega) (by omega) (fun hc26 => ?_) (fun hc26 => ?_)
      · refine aw_iload_n dX8_goneOn_31 rfl ?_
        refine aw_bipush (by decide) dX8_goneOn_32 ?_
        refine aw_ishr dX8_goneOn_34 ?_
        refine aw_istore4 dX8_goneOn_35 (by decide) rfl ?_
        refine aw_iload_n dX8_goneOn_37 rfl ?_
        refine aw_sipush (by decide) dX8_goneOn_38 ?_
        refine aw_iand dX8_goneOn_41 ?_
        refine aw_iconst dX8_goneOn_42 ?_
        refine aw_iconst dX8_goneOn_43 ?_
        refine aw_iload_n dX8_goneOn_44 rfl ?_
        refine aw_imul dX8_goneOn_45 ?_
        refine aw_ishl dX8_goneOn_46 ?_
        refine aw_iconst dX8_goneOn_47 ?_
        refine aw_ixor dX8_goneOn_48 ?_
        refine aw_iand dX8_goneOn_49 ?_
        refine aw_istore5 dX8_goneOn_50 (by decide) rfl ?_
        refine aw_aload_n dX8_goneOn_52 rfl ?_
        refine aw_getR (kx := 4) fl_X8_22 dX8_goneOn_53 rfl rfl rfl ?_
        refine aw_iload_n dX8_goneOn_56 rfl ?_
        refine aw_iaload dX8_goneOn_57 rfl (by decide) (by omega) ?_
        refine aw_iconst dX8_goneOn_58 ?_
        refine aw_icmp_ne (tgt := 71) dX8_goneOn_59 rfl (by omega) (by omega) (fun hc59 => ?_) (fun hc59 => ?_)
        · refine aw_iload dX8_goneOn_71 rfl ?_
          refine aw_iconst dX8_goneOn_73 ?_
          refine aw_icmp_ne (tgt := 88) dX8_goneOn_74 rfl (by omega) (by omega) (fun hc74 => ?_) (fun hc74 => ?_)
          · refine aw_iload dX8_goneOn_88 rfl ?_
            refine aw_iconst dX8_goneOn_90 ?_
            refine aw_iconst dX8_goneOn_91 ?_
            refine aw_iload_n dX8_goneOn_92 rfl ?_
            refine aw_imul dX8_goneOn_93 ?_
            refine aw_ishl dX8_goneOn_94 ?_
            refine aw_ior dX8_goneOn_95 ?_
            refine aw_iload dX8_goneOn_96 rfl ?_
            refine aw_iconst dX8_goneOn_98 ?_
            refine aw_isub dX8_goneOn_99 ?_
            refine aw_bipush (by decide) dX8_goneOn_100 ?_
            refine aw_ishl dX8_goneOn_102 ?_
            refine aw_ior dX8_goneOn_103 ?_
            refine aw_iretF dX8_goneOn_104 rfl ?_
            exact ⟨by rw [gon, if_neg (by omega), if_neg (by omega), if_neg (by omega)], rfl⟩
          · refine aw_iload dX8_goneOn_77 rfl ?_
            refine aw_iconst dX8_goneOn_79 ?_
            refine aw_iconst dX8_goneOn_80 ?_
            refine aw_iload_n dX8_goneOn_81 rfl ?_
            refine aw_imul dX8_goneOn_82 ?_
            refine aw_ishl dX8_goneOn_83 ?_
            refine aw_ior dX8_goneOn_84 ?_
            refine aw_goto (tgt := 104) dX8_goneOn_85 rfl ?_
            refine aw_iretF dX8_goneOn_104 rfl ?_
            exact ⟨by rw [gon, if_neg (by omega), if_neg (by omega), if_pos (by omega)], rfl⟩
        · refine aw_iload dX8_goneOn_62 rfl ?_
          refine aw_iconst dX8_goneOn_64 ?_
          refine aw_iconst dX8_goneOn_65 ?_
          refine aw_iload_n dX8_goneOn_66 rfl ?_
          refine aw_imul dX8_goneOn_67 ?_
          refine aw_ishl dX8_goneOn_68 ?_
          refine aw_ior dX8_goneOn_69 ?_
          refine aw_iretF dX8_goneOn_70 rfl ?_
          exact ⟨by rw [gon, if_neg (by omega), if_pos (by omega)], rfl⟩
      · refine aw_iload_n dX8_goneOn_29 rfl ?_
        refine aw_iretF dX8_goneOn_30 rfl ?_
        exact ⟨by rw [gon, if_pos (by omega)], rfl⟩
def bgw (s of d : Int) : Int := am_or (am_or of (am_shl 1 (2 * d))) (am_shl s 8)
theorem c_X8_begunWith {g : am_H} {of d : Int} (hd : 0 ≤ d ∧ d < 4) : AMet GM mX8_begunWith 1 [am_R 0, am_I of, am_I d] g (am_FI (bgw (g 10 d) of d) g) := by
  refine am_start [some (am_R 0), some (am_I of), some (am_I d)] rfl rfl (by decide) (Nat.le_of_ble_eq_true rfl) ?_
  refine aw_iload_n dX8_begunWith_0 rfl ?_
  refine aw_iconst dX8_begunWith_1 ?_
  refine aw_iconst dX8_begunWith_2 ?_
  refine aw_iload_n dX8_begunWith_3 rfl ?_
  refine aw_imul dX8_begunWith_4 ?_
  refine aw_ishl dX8_begunWith_5 ?_
  refine aw_ior dX8_begunWith_6 ?_
  refine aw_aload_n dX8_begunWith_7 rfl ?_
  refine aw_getR (kx := 11) fl_X8_37 dX8_begunWith_8 rfl rfl rfl ?_
  refine aw_iload_n dX8_begunWith_11 rfl ?_
  refine aw_iaload dX8_begunWith_12 rfl (by decide) (by omega) ?_
  refine aw_bipush (by decide) dX8_begunWith_13 ?_
  refine aw_ishl dX8_begunWith_15 ?_
  refine aw_ior dX8_begunWith_16 ?_
  refine aw_iretF dX8_begunWith_17 rfl ?_
  exact ⟨rfl, rfl⟩
abbrev cbg (of d : Int) : Prop := bg of < 0 ∧ hw of d = 0
theorem c_X8_canBegin {g : am_H} {of d : Int} : AMet GM mX8_canBegin 3 [am_R 0, am_I of, am_I d] g (am_FI (if cbg of d then 1 else 0) g) := by
  have hbb : -9 ≤ bg of ∧ bg of < 4 := bgF_rng of 4
  have hr := hw_rng of d
  refine am_start [some (am_R 0), some (am_I of), some (am_I d)] rfl rfl (by decide) (Nat.le_of_ble_eq_true rfl) ?_
  refine aw_iload_n dX8_canBegin_0 rfl ?_
  refine aw_cS1IF (c_X8_begunOf) lk_X8_268 dX8_canBegin_1 (by decide) (fun _ => Nat.le_of_ble_eq_true rfl) ?_
  refine aw_if_ge (tgt := 19) dX8_canBegin_4 rfl (by omega) (fun hc4 => ?_) (fun hc4 => ?_)
  · refine aw_iconst dX8_canBegin_19 ?_
    refine aw_zretF dX8_canBegin_20 rfl (by omega) ?_
    exact ⟨by rw [if_neg (by omega)], rfl⟩
  · refine aw_iload_n dX8_canBegin_7 rfl ?_
    refine aw_iload_n dX8_canBegin_8 rfl ?_
    refine aw_cS2IF (c_X8_howOf) lk_X8_245 dX8_canBegin_9 (by decide) (fun _ => Nat.le_of_ble_eq_true rfl) ?_
    refine aw_if_ne (tgt := 19) dX8_canBegin_12 rfl (by omega) (fun hc12 => ?_) (fun hc12 => ?_)
    · refine aw_iconst dX8_canBegin_19 ?_
      refine aw_zretF dX8_canBegin_20 rfl (by omega) ?_
      exact ⟨by rw [if_neg (by omega)], rfl⟩
    · refine aw_iconst dX8_canBegin_15 ?_
      refine aw_goto (tgt := 20) dX8_canBegin_16 rfl ?_
      refine aw_zretF dX8_canBegin_20 rfl (by omega) ?_
      exact ⟨by rw [if_pos (by omega)], rfl⟩
/-- what a deed is worth at a node -/
def wv (kd me mn wo : Int → Int) (x d : Int) : Int := if fin (kd x) ∧ mn d = me x then (if kd x = 4 then 2 * wo d else wo d) else 0
def gnF (kd me mn wo co : Int → Int) (x of : Int) : Nat → Int
  | 0 => 0
  | n + 1 => gnF kd me mn wo co x of n + (if hw of n = 2 then wv kd me mn wo x n - co n else 0)
abbrev gain (g : am_H) (x of : Int) : Int := gnF (g 5) (g 6) (g 12) (g 13) (g 11) x of (g 0 15).toNat
theorem lp_X8_gainOf {g : am_H} {x of : Int} (hs : MVs g) (hx : 0 ≤ x ∧ x < g 0 6) : ∀ (m i : Nat) (x5 x6 : Option am_V), (i : Int) ≤ g 0 15 → g 0 15 - i < m → AW GM mX8_gainOf 2 (am_FI (gain g x of) g) 5 [some (am_R 0), some (am_I x), some (am_I of), some (am_I (gnF (g 5) (g 6) (g 12) (g 13) (g 11) x of i)), some (am_I i), x5, x6] [] g := by
  have hnn := hs.1
  have hnd := hs.2.2.1
  have hk := hs.2.2.2.1 x hx.1 hx.2
  intro m
  induction m with
  | zero => intro i x5 x6 h1 h2; omega
  | succ m ih =>
    intro i x5 x6 h1 h2
    have hd := hs.2.2.2.2.2.2.2.1 i (by omega)
    have hr := hw_rng of i
    have K : ∀ (y5 y6 : Int) (w : Int), w = wv (g 5) (g 6) (g 12) (g 13) x i → (i : Int) < g 0 15 → AW GM mX8_gainOf 2 (am_FI (gain g x of) g) 89 [some (am_R 0), some (am_I x), some (am_I of), some (am_I (gnF (g 5) (g 6) (g 12) (g 13) (g 11) x of i)), some (am_I i), some (am_I y5), some (am_I w)] [] g := by
      intro y5 y6 w hw' hlt
      refine aw_iload_n dX8_gainOf_89 rfl ?_
      refine aw_iload_n dX8_gainOf_90 rfl ?_
      refine aw_iload dX8_gainOf_91 rfl ?_
      refine aw_cS2IF (c_X8_howOf) lk_X8_245 dX8_gainOf_93 (by decide) (fun _ => Nat.le_of_ble_eq_true rfl) ?_
      refine aw_iconst dX8_gainOf_96 ?_
      refine aw_icmp_ne (tgt := 113) dX8_gainOf_97 rfl (by omega) (by omega) (fun hc97 => ?_) (fun hc97 => ?_)
      · refine aw_iconst dX8_gainOf_113 ?_
        refine aw_iadd dX8_gainOf_114 ?_
        refine aw_istore_3 dX8_gainOf_115 (by decide) rfl ?_
        refine aw_iinc4 dX8_gainOf_116 (by decide) rfl ?_
        refine aw_goto (tgt := 5) dX8_gainOf_119 rfl ?_
        refine aw_ls ?_ (ih (i + 1) (some (am_I y5)) (some (am_I w)) (by omega) (by omega))
        simp only [gnF, if_neg hc97]; simp
      · refine aw_iload dX8_gainOf_100 rfl ?_
        refine aw_aload_n dX8_gainOf_102 rfl ?_
        refine aw_getR (kx := 12) fl_X8_40 dX8_gainOf_103 rfl rfl rfl ?_
        refine aw_iload dX8_gainOf_106 rfl ?_
        refine aw_iaload dX8_gainOf_108 rfl (by decide) (by omega) ?_
        refine aw_isub dX8_gainOf_109 ?_
        refine aw_goto (tgt := 114) dX8_gainOf_110 rfl ?_
        refine aw_iadd dX8_gainOf_114 ?_
        refine aw_istore_3 dX8_gainOf_115 (by decide) rfl ?_
        refine aw_iinc4 dX8_gainOf_116 (by decide) rfl ?_
        refine aw_goto (tgt := 5) dX8_gainOf_119 rfl ?_
        refine aw_ls ?_ (ih (i + 1) (some (am_I y5)) (some (am_I w)) (by omega) (by omega))
        simp only [gnF, if_pos hc97, hw']; simp
    refine aw_iload dX8_gainOf_5 rfl ?_
    refine aw_aload_n dX8_gainOf_7 rfl ?_
    refine aw_getI (kx := 15) fl_X8_213 dX8_gainOf_8 rfl rfl rfl ?_
    refine aw_icmp_ge (tgt := 122) dX8_gainOf_11 rfl (by omega) (by omega) (fun hc11 => ?_) (fun hc11 => ?_)
    · refine aw_iload_n dX8_gainOf_122 rfl ?_
      refine aw_iretF dX8_gainOf_123 rfl ?_
      exact ⟨by rw [gain, show (g 0 15).toNat = i by omega], rfl⟩
    · have hd2 := hd (by omega)
      refine aw_aload_n dX8_gainOf_14 rfl ?_
      refine aw_getR (kx := 4) fl_X8_22 dX8_gainOf_15 rfl rfl rfl ?_
      refine aw_iload_n dX8_gainOf_18 rfl ?_
      refine aw_iaload dX8_gainOf_19 rfl (by decide) (by omega) ?_
      refine aw_cS1IF (c_X8_isFinal (by omega)) lk_X8_169 dX8_gainOf_20 (by decide) (fun _ => Nat.le_of_ble_eq_true rfl) ?_
      refine aw_ifb_eq (tgt := 46) dX8_gainOf_23 rfl (fun hc23 => ?_) (fun hc23 => ?_)
      · refine aw_iconst dX8_gainOf_46 ?_
        refine aw_istore5 dX8_gainOf_47 (by decide) rfl ?_
        refine aw_iload dX8_gainOf_49 rfl ?_
        refine aw_if_eq (tgt := 86) dX8_gainOf_51 rfl (by omega) (fun hc51 => ?_) (fun hc51 => ?_)
        · refine aw_iconst dX8_gainOf_86 ?_
          refine aw_istore6 dX8_gainOf_87 (by decide) rfl ?_
          exact K _ 0 _ (by rw [wv, if_neg (by omega)]) (by omega)
        · exfalso; omega
      · refine aw_aload_n dX8_gainOf_26 rfl ?_
        refine aw_getR (kx := 13) fl_X8_43 dX8_gainOf_27 rfl rfl rfl ?_
        refine aw_iload dX8_gainOf_30 rfl ?_
        refine aw_iaload dX8_gainOf_32 rfl (by decide) (by omega) ?_
        refine aw_aload_n dX8_gainOf_33 rfl ?_
        refine aw_getR (kx := 5) fl_X8_25 dX8_gainOf_34 rfl rfl rfl ?_
        refine aw_iload_n dX8_gainOf_37 rfl ?_
        refine aw_iaload dX8_gainOf_38 rfl (by decide) (by omega) ?_
        refine aw_icmp_ne (tgt := 46) dX8_gainOf_39 rfl (by omega) (by omega) (fun hc39 => ?_) (fun hc39 => ?_)
        · refine aw_iconst dX8_gainOf_46 ?_
          refine aw_istore5 dX8_gainOf_47 (by decide) rfl ?_
          refine aw_iload dX8_gainOf_49 rfl ?_
          refine aw_if_eq (tgt := 86) dX8_gainOf_51 rfl (by omega) (fun hc51 => ?_) (fun hc51 => ?_)
          · refine aw_iconst dX8_gainOf_86 ?_
            refine aw_istore6 dX8_gainOf_87 (by decide) rfl ?_
            exact K _ 0 _ (by rw [wv, if_neg (by omega)]) (by omega)
          · exfalso; omega
        · refine aw_iconst dX8_gainOf_42 ?_
          refine aw_goto (tgt := 47) dX8_gainOf_43 rfl ?_
          refine aw_istore5 dX8_gainOf_47 (by decide) rfl ?_
          refine aw_iload dX8_gainOf_49 rfl ?_
          refine aw_if_eq (tgt := 86) dX8_gainOf_51 rfl (by omega) (fun hc51 => ?_) (fun hc51 => ?_)
          · exfalso; omega
          · refine aw_aload_n dX8_gainOf_54 rfl ?_
            refine aw_getR (kx := 4) fl_X8_22 dX8_gainOf_55 rfl rfl rfl ?_
            refine aw_iload_n dX8_gainOf_58 rfl ?_
            refine aw_iaload dX8_gainOf_59 rfl (by decide) (by omega) ?_
            refine aw_iconst dX8_gainOf_60 ?_
            refine aw_icmp_ne (tgt := 76) dX8_gainOf_61 rfl (by omega) (by omega) (fun hc61 => ?_) (fun hc61 => ?_)
            · refine aw_aload_n dX8_gainOf_76 rfl ?_
              refine aw_getR (kx := 14) fl_X8_46 dX8_gainOf_77 rfl rfl rfl ?_
              refine aw_iload dX8_gainOf_80 rfl ?_
              refine aw_iaload dX8_gainOf_82 rfl (by decide) (by omega) ?_
              refine aw_goto (tgt := 87) dX8_gainOf_83 rfl ?_
              refine aw_istore6 dX8_gainOf_87 (by decide) rfl ?_
              exact K _ 0 _ (by rw [wv, if_pos ⟨hc23, by omega⟩, if_neg (by omega)]) (by omega)
            · refine aw_iconst dX8_gainOf_64 ?_
              refine aw_aload_n dX8_gainOf_65 rfl ?_
              refine aw_getR (kx := 14) fl_X8_46 dX8_gainOf_66 rfl rfl rfl ?_
              refine aw_iload dX8_gainOf_69 rfl ?_
              refine aw_iaload dX8_gainOf_71 rfl (by decide) (by omega) ?_
              refine aw_imul dX8_gainOf_72 ?_
              refine aw_goto (tgt := 87) dX8_gainOf_73 rfl ?_
              refine aw_istore6 dX8_gainOf_87 (by decide) rfl ?_
              exact K _ 0 _ (by rw [wv, if_pos ⟨hc23, by omega⟩, if_pos (by omega)]) (by omega)
theorem c_X8_gainOf {g : am_H} {x of : Int} (hs : MVs g) (hx : 0 ≤ x ∧ x < g 0 6) : AMet GM mX8_gainOf 2 [am_R 0, am_I x, am_I of] g (am_FI (gain g x of) g) := by
  have hnd := hs.2.2.1
  refine am_start [some (am_R 0), some (am_I x), some (am_I of), none, none, none, none] rfl rfl (by decide) (Nat.le_of_ble_eq_true rfl) ?_
  refine aw_iconst dX8_gainOf_0 ?_
  refine aw_istore_3 dX8_gainOf_1 (by decide) rfl ?_
  refine aw_iconst dX8_gainOf_2 ?_
  refine aw_istore4 dX8_gainOf_3 (by decide) rfl ?_
  exact lp_X8_gainOf hs hx 5 0 _ _ (by omega) (by omega)
def deedV (g : am_H) (d w : Int) : Int := if w = 0 then g 10 d else if w = 1 then g 11 d else if w = 2 then g 12 d else if w = 3 then g 13 d else hw (g 0 19) d
theorem c_X8_deedOf {g : am_H} {d w : Int} (hd : 0 ≤ d ∧ d < 4) (hw : 0 ≤ w ∧ w ≤ 4) : AMet GM mX8_deedOf 2 [am_R 0, am_I d, am_I w] g (am_FI (deedV g d w) g) := by
  refine am_start [some (am_R 0), some (am_I d), some (am_I w)] rfl rfl (by decide) (Nat.le_of_ble_eq_true rfl) ?_
  refine aw_iload_n dX8_deedOf_0 rfl ?_
  refine aw_if_ne (tgt := 13) dX8_deedOf_1 rfl (by omega) (fun hc1 => ?_) (fun hc1 => ?_)
  · refine aw_iload_n dX8_deedOf_13 rfl ?_
    refine aw_iconst dX8_deedOf_14 ?_
    refine aw_icmp_ne (tgt := 27) dX8_deedOf_15 rfl (by omega) (by omega) (fun hc15 => ?_) (fun hc15 => ?_)
    · refine aw_iload_n dX8_deedOf_27 rfl ?_
      refine aw_iconst dX8_deedOf_28 ?_
      refine aw_icmp_ne (tgt := 41) dX8_deedOf_29 rfl (by omega) (by omega) (fun hc29 => ?_) (fun hc29 => ?_)
      · refine aw_iload_n dX8_deedOf_41 rfl ?_
        refine aw_iconst dX8_deedOf_42 ?_
        refine aw_icmp_ne (tgt := 55) dX8_deedOf_43 rfl (by omega) (by omega) (fun hc43 => ?_) (fun hc43 => ?_)
        · refine aw_aload_n dX8_deedOf_55 rfl ?_
          refine aw_getI (kx := 19) fl_X8_219 dX8_deedOf_56 rfl rfl rfl ?_
          refine aw_iload_n dX8_deedOf_59 rfl ?_
          refine aw_cS2IF (c_X8_howOf) lk_X8_245 dX8_deedOf_60 (by decide) (fun _ => Nat.le_of_ble_eq_true rfl) ?_
          refine aw_iretF dX8_deedOf_63 rfl ?_
          exact ⟨by rw [deedV, if_neg (by omega), if_neg (by omega), if_neg (by omega), if_neg (by omega)], rfl⟩
        · refine aw_aload_n dX8_deedOf_46 rfl ?_
          refine aw_getR (kx := 14) fl_X8_46 dX8_deedOf_47 rfl rfl rfl ?_
          refine aw_iload_n dX8_deedOf_50 rfl ?_
          refine aw_iaload dX8_deedOf_51 rfl (by decide) (by omega) ?_
          refine aw_goto (tgt := 63) dX8_deedOf_52 rfl ?_
          refine aw_iretF dX8_deedOf_63 rfl ?_
          exact ⟨by rw [deedV, if_neg (by omega), if_neg (by omega), if_neg (by omega), if_pos (by omega)], rfl⟩
      · refine aw_aload_n dX8_deedOf_32 rfl ?_
        refine aw_getR (kx := 13) fl_X8_43 dX8_deedOf_33 rfl rfl rfl ?_
        refine aw_iload_n dX8_deedOf_36 rfl ?_
        refine aw_iaload dX8_deedOf_37 rfl (by decide) (by omega) ?_
        refine aw_goto (tgt := 63) dX8_deedOf_38 rfl ?_
        refine aw_iretF dX8_deedOf_63 rfl ?_
        exact ⟨by rw [deedV, if_neg (by omega), if_neg (by omega), if_pos (by omega)], rfl⟩
    · refine aw_aload_n dX8_deedOf_18 rfl ?_
      refine aw_getR (kx := 12) fl_X8_40 dX8_deedOf_19 rfl rfl rfl ?_
      refine aw_iload_n dX8_deedOf_22 rfl ?_
      refine aw_iaload dX8_deedOf_23 rfl (by decide) (by omega) ?_
      refine aw_goto (tgt := 63) dX8_deedOf_24 rfl ?_
      refine aw_iretF dX8_deedOf_63 rfl ?_
      exact ⟨by rw [deedV, if_neg (by omega), if_pos (by omega)], rfl⟩
  · refine aw_aload_n dX8_deedOf_4 rfl ?_
    refine aw_getR (kx := 11) fl_X8_37 dX8_deedOf_5 rfl rfl rfl ?_
    refine aw_iload_n dX8_deedOf_8 rfl ?_
    refine aw_iaload dX8_deedOf_9 rfl (by decide) (by omega) ?_
    refine aw_goto (tgt := 63) dX8_deedOf_10 rfl ?_
    refine aw_iretF dX8_deedOf_63 rfl ?_
    exact ⟨by rw [deedV, if_pos (by omega)], rfl⟩
def S_deed (g : am_H) (d w : Int) : Int × am_H := if 0 ≤ d ∧ d ≤ g 0 15 - 1 ∧ 0 ≤ w ∧ w ≤ 4 then (1, am_set g 0 20 (deedV g d w)) else (-1, g)
theorem c_X8_deed {g : am_H} {d w : Int} (hs : MVs g) (hx : -2147483648 ≤ d ∧ d < 2147483648) (hw : -2147483648 ≤ w ∧ w < 2147483648) : AMet GM mX8_deed 3 [am_R 0, am_I d, am_I w] g (QM (S_deed g d w)) := by
  have h2 := hs.2.2.1
  refine am_start [some (am_R 0), some (am_I d), some (am_I w)] rfl rfl (by decide) (Nat.le_of_ble_eq_true rfl) ?_
  refine aw_aload_n dX8_deed_0 rfl ?_
  refine aw_iload_n dX8_deed_1 rfl ?_
  refine aw_cV1IF (c_X8_isDeed hs (by omega)) lk_X8_248 dX8_deed_2 (by decide) rfl rfl (fun _ => Nat.le_of_ble_eq_true rfl) ?_
  refine aw_ifb_eq (tgt := 20) dX8_deed_5 rfl (fun hc5 => ?_) (fun hc5 => ?_)
  · refine aw_iconst dX8_deed_20 ?_
    refine aw_iretQ dX8_deed_21 rfl ?_
    rw [S_deed, if_neg (by omega)]; exact ⟨rfl, MEq.rf _⟩
  · refine aw_iload_n dX8_deed_8 rfl ?_
    refine aw_i2l (by omega) dX8_deed_9 ?_
    refine aw_lconst (v := 0) dX8_deed_10 rfl ?_
    refine aw_ldc2 (n := 4) kj_X8_251 rfl dX8_deed_11 ?_
    refine aw_cS3IF (c_X8_in (by omega) (by omega) (by omega)) lk_X8_133 dX8_deed_14 (by decide) (fun _ => Nat.le_of_ble_eq_true rfl) ?_
    refine aw_ifb_ne (tgt := 22) dX8_deed_17 rfl (fun hc17 => ?_) (fun hc17 => ?_)
    · refine aw_aload_n dX8_deed_22 rfl ?_
      refine aw_iconst dX8_deed_23 ?_
      refine aw_aload_n dX8_deed_24 rfl ?_
      refine aw_iload_n dX8_deed_25 rfl ?_
      refine aw_iload_n dX8_deed_26 rfl ?_
      refine aw_cV2IF (c_X8_deedOf (by omega) (by omega)) lk_X8_253 dX8_deed_27 (by decide) rfl rfl (fun _ => Nat.le_of_ble_eq_true rfl) ?_
      refine aw_cV2IF (c_X8_answer) lk_X8_151 dX8_deed_30 (by decide) rfl rfl (fun _ => Nat.le_of_ble_eq_true rfl) ?_
      refine aw_iretQ dX8_deed_33 rfl ?_
      rw [S_deed, if_pos (by omega)]; exact ⟨rfl, MEq.rf _⟩
    · refine aw_iconst dX8_deed_20 ?_
      refine aw_iretQ dX8_deed_21 rfl ?_
      rw [S_deed, if_neg (by omega)]; exact ⟨rfl, MEq.rf _⟩
def S_prize (g : am_H) (d v : Int) : Int × am_H := if 0 ≤ d ∧ d ≤ g 0 15 - 1 ∧ 0 ≤ v ∧ v ≤ 9 then (g 13 d, am_set g 13 d v) else (-1, g)
theorem c_X8_prize {g : am_H} {d v : Int} (hs : MVs g) (hx : -2147483648 ≤ d ∧ d < 2147483648) (hw : -2147483648 ≤ v ∧ v < 2147483648) : AMet GM mX8_prize 3 [am_R 0, am_I d, am_I v] g (QM (S_prize g d v)) := by
  have h2 := hs.2.2.1
  refine am_start [some (am_R 0), some (am_I d), some (am_I v), none] rfl rfl (by decide) (Nat.le_of_ble_eq_true rfl) ?_
  refine aw_aload_n dX8_prize_0 rfl ?_
  refine aw_iload_n dX8_prize_1 rfl ?_
  refine aw_cV1IF (c_X8_isDeed hs (by omega)) lk_X8_248 dX8_prize_2 (by decide) rfl rfl (fun _ => Nat.le_of_ble_eq_true rfl) ?_
  refine aw_ifb_eq (tgt := 20) dX8_prize_5 rfl (fun hc5 => ?_) (fun hc5 => ?_)
  · refine aw_iconst dX8_prize_20 ?_
    refine aw_iretQ dX8_prize_21 rfl ?_
    rw [S_prize, if_neg (by omega)]; exact ⟨rfl, MEq.rf _⟩
  · refine aw_iload_n dX8_prize_8 rfl ?_
    refine aw_i2l (by omega) dX8_prize_9 ?_
    refine aw_lconst (v := 0) dX8_prize_10 rfl ?_
    refine aw_ldc2 (n := 9) kj_X8_182 rfl dX8_prize_11 ?_
    refine aw_cS3IF (c_X8_in (by omega) (by omega) (by omega)) lk_X8_133 dX8_prize_14 (by decide) (fun _ => Nat.le_of_ble_eq_true rfl) ?_
    refine aw_ifb_ne (tgt := 22) dX8_prize_17 rfl (fun hc17 => ?_) (fun hc17 => ?_)
    · refine aw_aload_n dX8_prize_22 rfl ?_
      refine aw_getR (kx := 14) fl_X8_46 dX8_prize_23 rfl rfl rfl ?_
      refine aw_iload_n dX8_prize_26 rfl ?_
      refine aw_iaload dX8_prize_27 rfl (by decide) (by omega) ?_
      refine aw_istore_3 dX8_prize_28 (by decide) rfl ?_
      refine aw_aload_n dX8_prize_29 rfl ?_
      refine aw_getR (kx := 14) fl_X8_46 dX8_prize_30 rfl rfl rfl ?_
      refine aw_iload_n dX8_prize_33 rfl ?_
      refine aw_iload_n dX8_prize_34 rfl ?_
      refine aw_iastore dX8_prize_35 rfl (by decide) (by omega) ?_
      refine aw_iload_n dX8_prize_36 rfl ?_
      refine aw_iretQ dX8_prize_37 rfl ?_
      rw [S_prize, if_pos (by omega)]; exact ⟨rfl, MEq.rf _⟩
    · refine aw_iconst dX8_prize_20 ?_
      refine aw_iretQ dX8_prize_21 rfl ?_
      rw [S_prize, if_neg (by omega)]; exact ⟨rfl, MEq.rf _⟩
