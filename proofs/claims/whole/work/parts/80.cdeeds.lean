/-! a method whose class has natives beside her: she herself has no row among them -/
theorem am_ofWF {l : Launch} {y : MethodName} {ws ws' : List Cond} {rm : Room} {Pc : Array Value → State → Prop} {Qc : Array Value → State → Outcome → State → Prop} {mc ms : Nat} {free : Addr → Prop} {cc : ByteArray} {maxL : Nat} {ret : Option FieldType} (hy : plainFor y = true) (hw : ws = Cond.code y cc maxL ret :: ws')
    (k : ∀ p e s m args below meth c s₁, BodyLoose p l y (headSpec ws rm) cc maxL ret e s m args below meth c s₁ → c.maxLocals = maxL → Pc args s → W p l e (headSpec ws rm).room s m args below meth c s.heap [] 0 0 (MQ below Qc args s mc ms free) (entryFrame m args maxL)) : Met l y ws rm Pc Qc mc ms free := by
  refine MetFree.of_bodySF (code := cc) (maxLocals := maxL) (ret := ret) hy (fun args s m hb hn => ?_) (fun p e s m args below meth c s₁ B hm hP _ => ?_)
  · have hmem : Cond.code y cc maxL ret ∈ ws := by rw [hw]; exact List.mem_cons_self
    obtain ⟨meth, c, q1, q2, q3, q4, q5, q6, -, -⟩ := Cond.code_spec hn (atoms_spec (ws := ws) hb _ hmem)
    exact ⟨meth, c, q1, q2, q3, q4, q5, q6⟩
  · have hH : s₁.heap = s.heap := by rw [B.state]; rfl
    obtain ⟨t, st, o, r1, r2, r3⟩ := k p e s m args below meth c s₁ B hm hP s₁ hH (Stand.of_body B)
    exact ⟨t, o, st, r1, r2, ⟨r3.1, r3.2⟩⟩
theorem am_startF {G : List am_K} {M : am_M} {d : Nat} {as : List am_V} {h : am_H} {Q : Option am_V → am_H → Prop} (ls : List (Option am_V)) (hls : am_args as ++ List.replicate (M.2.2.2.1 - (am_args as).length) none = ls) (hc : M.2.1.cls = M.1) (hpn : plainFor M.2.1 = true) (hlen : (am_args as).length ≤ M.2.2.2.1)
    (k : AW G M d Q 0 ls [] h) : AMet G M d as h Q := by
  subst hls
  intro l dC dI cT ad sz
  refine am_ofWF (cc := M.2.2.1) (maxL := M.2.2.2.1) (ret := M.2.2.2.2) hpn rfl ?_
  intro p e s m args below meth c s₁ B hml hv
  obtain ⟨rfl, hsz, hP, hK, hD0⟩ := hv
  have hts := atoms_spec (ws := am_ws M) B.pre
  have hown : s.vm.findClass M.1 = some m.cls := by rw [← hc]; exact findClass_of_methodNamed B.named
  have hlocks := B.notSynchronized
  subst hsz
  have hD := hD0.self (sz := s.heap.size)
  have hl := lv_entry (as.map (am_cv ad)) (n := M.2.2.2.1) (by rw [am_sl_len]; exact hlen)
  rw [lg_entry_eq]
  refine k p l e s m _ below meth c s.heap [] dC dI cT ad _ _ ⟨B.exec, B.bytes, B.returns, hml, hown, fun w hw => hts w (List.mem_cons_of_mem _ hw), hlocks, hK, fun q hq => Or.inr hq⟩ hP hD va_S.rf ⟨hl.1, hl.2.1, ?_⟩
  intro i v hi
  have hi' : (am_args as)[i]? = some (some v) := by
    rcases Nat.lt_or_ge i (am_args as).length with q | q
    · rwa [List.getElem?_append_left q] at hi
    · rw [List.getElem?_append_right q, List.getElem?_replicate] at hi
      split at hi <;> simp at hi
  have := am_entry (ad := ad) as 0 i v hi'
  rw [Nat.zero_add] at this
  exact hl.2.2 _ this
/-! the library's small methods -/
def sw1 (n : Int) : Int := n - am_and (am_ushr n 1) 1431655765
def sw2 (n : Int) : Int := am_and (sw1 n) 858993459 + am_and (am_ushr (sw1 n) 2) 858993459
def sw3 (n : Int) : Int := am_and (sw2 n + am_ushr (sw2 n) 4) 252645135
def sw4 (n : Int) : Int := sw3 n + am_ushr (sw3 n) 8
def sw5 (n : Int) : Int := sw4 n + am_ushr (sw4 n) 16
def sw6 (n : Int) : Int := am_and (sw5 n) 63
theorem sw_pc : ∀ n : Nat, n < 512 → sw6 n = ((pcN 16 n : Nat) : Int) := by decide +kernel
theorem c_J6_bitCount {h : am_H} {n : Nat} {a : Int} (ha : a = n) (hn : n < 512) : AMet GC mJ6_bitCount_0f7a4 1 [am_I a] h (am_FI ((pcN 16 n : Nat) : Int) h) := by
  subst ha
  refine am_start [some (am_I n)] rfl rfl (by decide) (Nat.le_of_ble_eq_true rfl) ?_
  refine aw_iload_n dJ6_bitCount_0f7a4_0 rfl ?_
  refine aw_iload_n dJ6_bitCount_0f7a4_1 rfl ?_
  refine aw_iconst dJ6_bitCount_0f7a4_2 ?_
  refine aw_iushr dJ6_bitCount_0f7a4_3 ?_
  refine aw_ldcw (n := 1431655765) kc_J6_265 rfl dJ6_bitCount_0f7a4_4 ?_
  refine aw_iand dJ6_bitCount_0f7a4_7 ?_
  refine aw_isub dJ6_bitCount_0f7a4_8 ?_
  refine aw_istore_0 dJ6_bitCount_0f7a4_9 (by decide) rfl ?_
  refine aw_iload_n dJ6_bitCount_0f7a4_10 rfl ?_
  refine aw_ldcw (n := 858993459) kc_J6_266 rfl dJ6_bitCount_0f7a4_11 ?_
  refine aw_iand dJ6_bitCount_0f7a4_14 ?_
  refine aw_iload_n dJ6_bitCount_0f7a4_15 rfl ?_
  refine aw_iconst dJ6_bitCount_0f7a4_16 ?_
  refine aw_iushr dJ6_bitCount_0f7a4_17 ?_
  refine aw_ldcw (n := 858993459) kc_J6_266 rfl dJ6_bitCount_0f7a4_18 ?_
  refine aw_iand dJ6_bitCount_0f7a4_21 ?_
  refine aw_iadd dJ6_bitCount_0f7a4_22 ?_
  refine aw_istore_0 dJ6_bitCount_0f7a4_23 (by decide) rfl ?_
  refine aw_iload_n dJ6_bitCount_0f7a4_24 rfl ?_
  refine aw_iload_n dJ6_bitCount_0f7a4_25 rfl ?_
  refine aw_iconst dJ6_bitCount_0f7a4_26 ?_
  refine aw_iushr dJ6_bitCount_0f7a4_27 ?_
  refine aw_iadd dJ6_bitCount_0f7a4_28 ?_
  refine aw_ldcw (n := 252645135) kc_J6_267 rfl dJ6_bitCount_0f7a4_29 ?_
  refine aw_iand dJ6_bitCount_0f7a4_32 ?_
  refine aw_istore_0 dJ6_bitCount_0f7a4_33 (by decide) rfl ?_
  refine aw_iload_n dJ6_bitCount_0f7a4_34 rfl ?_
  refine aw_iload_n dJ6_bitCount_0f7a4_35 rfl ?_
  refine aw_bipush (by decide) dJ6_bitCount_0f7a4_36 ?_
  refine aw_iushr dJ6_bitCount_0f7a4_38 ?_
  refine aw_iadd dJ6_bitCount_0f7a4_39 ?_
  refine aw_istore_0 dJ6_bitCount_0f7a4_40 (by decide) rfl ?_
  refine aw_iload_n dJ6_bitCount_0f7a4_41 rfl ?_
  refine aw_iload_n dJ6_bitCount_0f7a4_42 rfl ?_
  refine aw_bipush (by decide) dJ6_bitCount_0f7a4_43 ?_
  refine aw_iushr dJ6_bitCount_0f7a4_45 ?_
  refine aw_iadd dJ6_bitCount_0f7a4_46 ?_
  refine aw_istore_0 dJ6_bitCount_0f7a4_47 (by decide) rfl ?_
  refine aw_iload_n dJ6_bitCount_0f7a4_48 rfl ?_
  refine aw_bipush (by decide) dJ6_bitCount_0f7a4_49 ?_
  refine aw_iand dJ6_bitCount_0f7a4_51 ?_
  refine aw_iretF dJ6_bitCount_0f7a4_52 rfl ?_
  exact ⟨sw_pc n hn, rfl⟩
theorem c_J9_max {h : am_H} {a b : Int} (ha : -2147483648 ≤ a ∧ a < 2147483648) (hb : -2147483648 ≤ b ∧ b < 2147483648) : AMet GC mJ9_max_7cf53 1 [am_I a, am_I b] h (am_FI (if a < b then b else a) h) := by
  refine am_startF [some (am_I a), some (am_I b)] rfl rfl (by decide +kernel) (Nat.le_of_ble_eq_true rfl) ?_
  refine aw_iload_n dJ9_max_7cf53_0 rfl ?_
  refine aw_iload_n dJ9_max_7cf53_1 rfl ?_
  refine aw_icmp_lt (tgt := 9) dJ9_max_7cf53_2 rfl (by omega) (by omega) (fun hc2 => ?_) (fun hc2 => ?_)
  · refine aw_iload_n dJ9_max_7cf53_9 rfl ?_
    refine aw_iretF dJ9_max_7cf53_10 rfl ?_
    exact ⟨by split <;> omega, rfl⟩
  · refine aw_iload_n dJ9_max_7cf53_5 rfl ?_
    refine aw_goto (tgt := 10) dJ9_max_7cf53_6 rfl ?_
    refine aw_iretF dJ9_max_7cf53_10 rfl ?_
    exact ⟨by split <;> omega, rfl⟩
theorem c_J9_min {h : am_H} {a b : Int} (ha : -2147483648 ≤ a ∧ a < 2147483648) (hb : -2147483648 ≤ b ∧ b < 2147483648) : AMet GC mJ9_min_7cf53 1 [am_I a, am_I b] h (am_FI (if b < a then b else a) h) := by
  refine am_startF [some (am_I a), some (am_I b)] rfl rfl (by decide +kernel) (Nat.le_of_ble_eq_true rfl) ?_
  refine aw_iload_n dJ9_min_7cf53_0 rfl ?_
  refine aw_iload_n dJ9_min_7cf53_1 rfl ?_
  refine aw_icmp_gt (tgt := 9) dJ9_min_7cf53_2 rfl (by omega) (by omega) (fun hc2 => ?_) (fun hc2 => ?_)
  · refine aw_iload_n dJ9_min_7cf53_9 rfl ?_
    refine aw_iretF dJ9_min_7cf53_10 rfl ?_
    exact ⟨by split <;> omega, rfl⟩
  · refine aw_iload_n dJ9_min_7cf53_5 rfl ?_
    refine aw_goto (tgt := 10) dJ9_min_7cf53_6 rfl ?_
    refine aw_iretF dJ9_min_7cf53_10 rfl ?_
    exact ⟨by split <;> omega, rfl⟩
theorem c_J9_abs {h : am_H} {a : Int} (ha : -9223372036854775808 < a ∧ a < 9223372036854775808) : AMet GC mJ9_abs_067f4 1 [am_J a] h (am_FJ (if 0 ≤ a then a else -a) h) := by
  refine am_startF [some (am_J a), none] rfl rfl (by decide +kernel) (Nat.le_of_ble_eq_true rfl) ?_
  refine aw_lload_n dJ9_abs_067f4_0 rfl ?_
  refine aw_lconst (v := 0) dJ9_abs_067f4_1 rfl ?_
  refine aw_lif_ge (tgt := 11) dJ9_abs_067f4_2 dJ9_abs_067f4_3 rfl (by omega) (by omega) (fun hc2 => ?_) (fun hc2 => ?_)
  · refine aw_lload_n dJ9_abs_067f4_11 rfl ?_
    refine aw_lretF dJ9_abs_067f4_12 rfl ?_
    exact ⟨by split <;> omega, rfl⟩
  · refine aw_lload_n dJ9_abs_067f4_6 rfl ?_
    refine aw_lneg dJ9_abs_067f4_7 ?_
    refine aw_goto (tgt := 12) dJ9_abs_067f4_8 rfl ?_
    refine aw_lretF dJ9_abs_067f4_12 rfl ?_
    exact ⟨by split <;> omega, rfl⟩
def fillF (h : am_H) (c v : Int) (len : Nat) : am_H := am_up h c (fun j => if 0 ≤ j ∧ j < len then v else h c j)
theorem lp_J7_fillI {h : am_H} {c b v : Int} {len : Nat} (hk : am_kd GC c = some (.inr (0, len, b))) (hl : len < 65536) : ∀ (m : Nat) (i : Int) (f : Int → Int), 0 ≤ i → i ≤ len → len - i < m → (f = fun j => if 0 ≤ j ∧ j < i then v else h c j) → AW GC mJ7_fill_53178 1 (am_FV (fillF h c v len)) 5 [some (am_R c), some (am_I v), some (am_I i), some (am_I len)] [] (am_up h c f) := by
  intro m
  induction m with
  | zero => intro i f h0 h1 h2; omega
  | succ m ih =>
    intro i f h0 h1 h2 hf
    refine aw_iload_n dJ7_fill_53178_5 rfl ?_
    refine aw_iload_n dJ7_fill_53178_6 rfl ?_
    refine aw_icmp_ge (tgt := 20) dJ7_fill_53178_7 rfl (by omega) (by omega) (fun hc7 => ?_) (fun hc7 => ?_)
    · refine aw_vretF dJ7_fill_53178_20 rfl ?_
      show _ = fillF h c v len
      rw [hf, show i = len by omega]; rfl
    · refine aw_aload_n dJ7_fill_53178_10 rfl ?_
      refine aw_iload_n dJ7_fill_53178_11 rfl ?_
      refine aw_iload_n dJ7_fill_53178_12 rfl ?_
      refine aw_iastore dJ7_fill_53178_13 hk (by omega) (by omega) ?_
      refine aw_iinc2 dJ7_fill_53178_14 (by decide) rfl ?_
      refine aw_goto (tgt := 5) dJ7_fill_53178_17 rfl ?_
      rw [am_set_ups]
      refine ih _ _ (by omega) (by omega) (by omega) ?_
      rw [hf]; funext j; dsimp only; repeat' split
      all_goals first | rfl | omega
theorem c_J7_fillI {h : am_H} {c b v : Int} {len : Nat} (hk : am_kd GC c = some (.inr (0, len, b))) (hl : len < 65536) : AMet GC mJ7_fill_53178 1 [am_R c, am_I v] h (am_FV (fillF h c v len)) := by
  refine am_start [some (am_R c), some (am_I v), none, none] rfl rfl (by decide) (Nat.le_of_ble_eq_true rfl) ?_
  refine aw_iconst dJ7_fill_53178_0 ?_
  refine aw_istore_2 dJ7_fill_53178_1 (by decide) rfl ?_
  refine aw_aload_n dJ7_fill_53178_2 rfl ?_
  refine aw_alen0 dJ7_fill_53178_3 hk rfl ?_
  refine aw_istore_3 dJ7_fill_53178_4 (by decide) rfl ?_
  refine aw_heap (am_up_self h c).symm ?_
  exact lp_J7_fillI hk hl (len + 1) 0 _ (by omega) (by omega) (by omega) (by funext j; rw [if_neg (by omega)])
theorem lp_J7_fillB {h : am_H} {c b v : Int} {len : Nat} (hk : am_kd GC c = some (.inr (1, len, b))) (hl : len < 65536) (hv : -128 ≤ v ∧ v < 128) : ∀ (m : Nat) (i : Int) (f : Int → Int), 0 ≤ i → i ≤ len → len - i < m → (f = fun j => if 0 ≤ j ∧ j < i then v else h c j) → AW GC mJ7_fill_031fb 1 (am_FV (fillF h c v len)) 5 [some (am_R c), some (am_I v), some (am_I i), some (am_I len)] [] (am_up h c f) := by
  intro m
  induction m with
  | zero => intro i f h0 h1 h2; omega
  | succ m ih =>
    intro i f h0 h1 h2 hf
    refine aw_iload_n dJ7_fill_031fb_5 rfl ?_
    refine aw_iload_n dJ7_fill_031fb_6 rfl ?_
    refine aw_icmp_ge (tgt := 20) dJ7_fill_031fb_7 rfl (by omega) (by omega) (fun hc7 => ?_) (fun hc7 => ?_)
    · refine aw_vretF dJ7_fill_031fb_20 rfl ?_
      show _ = fillF h c v len
      rw [hf, show i = len by omega]; rfl
    · refine aw_aload_n dJ7_fill_031fb_10 rfl ?_
      refine aw_iload_n dJ7_fill_031fb_11 rfl ?_
      refine aw_iload_n dJ7_fill_031fb_12 rfl ?_
      refine aw_bastore dJ7_fill_031fb_13 hk (by omega) (by omega) hv ?_
      refine aw_iinc2 dJ7_fill_031fb_14 (by decide) rfl ?_
      refine aw_goto (tgt := 5) dJ7_fill_031fb_17 rfl ?_
      rw [am_set_ups]
      refine ih _ _ (by omega) (by omega) (by omega) ?_
      rw [hf]; funext j; dsimp only; repeat' split
      all_goals first | rfl | omega
theorem c_J7_fillB {h : am_H} {c b v : Int} {len : Nat} (hk : am_kd GC c = some (.inr (1, len, b))) (hl : len < 65536) (hv : -128 ≤ v ∧ v < 128) : AMet GC mJ7_fill_031fb 1 [am_R c, am_I v] h (am_FV (fillF h c v len)) := by
  refine am_start [some (am_R c), some (am_I v), none, none] rfl rfl (by decide) (Nat.le_of_ble_eq_true rfl) ?_
  refine aw_iconst dJ7_fill_031fb_0 ?_
  refine aw_istore_2 dJ7_fill_031fb_1 (by decide) rfl ?_
  refine aw_aload_n dJ7_fill_031fb_2 rfl ?_
  refine aw_alen1 dJ7_fill_031fb_3 hk rfl ?_
  refine aw_istore_3 dJ7_fill_031fb_4 (by decide) rfl ?_
  refine aw_heap (am_up_self h c).symm ?_
  exact lp_J7_fillB hk hl hv (len + 1) 0 _ (by omega) (by omega) (by omega) (by funext j; rw [if_neg (by omega)])
/-! Deeds -/
def cd (p d : Int) : Int := am_and (am_shr p (3 * d)) 7
theorem am_and7 (a : Int) : 0 ≤ am_and a 7 ∧ am_and a 7 ≤ 7 := by
  unfold am_and
  rw [pk_and (Int32.ofInt a) (m := Int32.ofInt 7) 3 (by decide), nI_toInt (by omega)]
  omega
theorem cd_rng (p d : Int) : 0 ≤ cd p d ∧ cd p d ≤ 7 := am_and7 _
theorem c_X0_codeOf {h : am_H} {p d : Int} : AMet GC mX0_codeOf 1 [am_I p, am_I d] h (am_FI (cd p d) h) := by
  refine am_start [some (am_I p), some (am_I d)] rfl rfl (by decide) (Nat.le_of_ble_eq_true rfl) ?_
  refine aw_iload_n dX0_codeOf_0 rfl ?_
  refine aw_iconst dX0_codeOf_1 ?_
  refine aw_iload_n dX0_codeOf_2 rfl ?_
  refine aw_imul dX0_codeOf_3 ?_
  refine aw_ishr dX0_codeOf_4 ?_
  refine aw_bipush (by decide) dX0_codeOf_5 ?_
  refine aw_iand dX0_codeOf_7 ?_
  refine aw_iretF dX0_codeOf_8 rfl ?_
  exact ⟨rfl, rfl⟩
def wth (p d c : Int) : Int := am_or (am_and p (am_xor (am_shl 7 (3 * d)) (-1))) (am_shl c (3 * d))
theorem c_X0_with {h : am_H} {p d c : Int} : AMet GC mX0_with 1 [am_I p, am_I d, am_I c] h (am_FI (wth p d c) h) := by
  refine am_start [some (am_I p), some (am_I d), some (am_I c)] rfl rfl (by decide) (Nat.le_of_ble_eq_true rfl) ?_
  refine aw_iload_n dX0_with_0 rfl ?_
  refine aw_bipush (by decide) dX0_with_1 ?_
  refine aw_iconst dX0_with_3 ?_
  refine aw_iload_n dX0_with_4 rfl ?_
  refine aw_imul dX0_with_5 ?_
  refine aw_ishl dX0_with_6 ?_
  refine aw_iconst dX0_with_7 ?_
  refine aw_ixor dX0_with_8 ?_
  refine aw_iand dX0_with_9 ?_
  refine aw_iload_n dX0_with_10 rfl ?_
  refine aw_iconst dX0_with_11 ?_
  refine aw_iload_n dX0_with_12 rfl ?_
  refine aw_imul dX0_with_13 ?_
  refine aw_ishl dX0_with_14 ?_
  refine aw_ior dX0_with_15 ?_
  refine aw_iretF dX0_with_16 rfl ?_
  exact ⟨rfl, rfl⟩
theorem c_X0_isBusy {h : am_H} {c : Int} (hc : -2147483648 ≤ c ∧ c < 2147483648) : AMet GC mX0_isBusy 1 [am_I c] h (am_FI (if 0 < c ∧ c < 6 then 1 else 0) h) := by
  refine am_start [some (am_I c)] rfl rfl (by decide) (Nat.le_of_ble_eq_true rfl) ?_
  refine aw_iload_n dX0_isBusy_0 rfl ?_
  refine aw_if_le (tgt := 14) dX0_isBusy_1 rfl (by omega) (fun hc1 => ?_) (fun hc1 => ?_)
  · refine aw_iconst dX0_isBusy_14 ?_
    refine aw_zretF dX0_isBusy_15 rfl (by omega) ?_
    exact ⟨by split <;> omega, rfl⟩
  · refine aw_iload_n dX0_isBusy_4 rfl ?_
    refine aw_bipush (by decide) dX0_isBusy_5 ?_
    refine aw_icmp_ge (tgt := 14) dX0_isBusy_7 rfl (by omega) (by omega) (fun hc7 => ?_) (fun hc7 => ?_)
    · refine aw_iconst dX0_isBusy_14 ?_
      refine aw_zretF dX0_isBusy_15 rfl (by omega) ?_
      exact ⟨by split <;> omega, rfl⟩
    · refine aw_iconst dX0_isBusy_10 ?_
      refine aw_goto (tgt := 15) dX0_isBusy_11 rfl ?_
      refine aw_zretF dX0_isBusy_15 rfl (by omega) ?_
      exact ⟨by split <;> omega, rfl⟩
def dst (p d : Int) : Int := if 0 < cd p d ∧ cd p d < 6 then 1 else if cd p d = 0 then 0 else cd p d - 6 + 2
theorem c_X0_state {h : am_H} {p d : Int} : AMet GC mX0_state 2 [am_I p, am_I d] h (am_FI (dst p d) h) := by
  have hr := cd_rng p d
  refine am_start [some (am_I p), some (am_I d), none] rfl rfl (by decide) (Nat.le_of_ble_eq_true rfl) ?_
  refine aw_iload_n dX0_state_0 rfl ?_
  refine aw_iload_n dX0_state_1 rfl ?_
  refine aw_cS2IF (c_X0_codeOf) lk_X0_11 dX0_state_2 (by decide) (fun _ => Nat.le_of_ble_eq_true rfl) ?_
  refine aw_istore_2 dX0_state_5 (by decide) rfl ?_
  refine aw_iload_n dX0_state_6 rfl ?_
  refine aw_cS1IF (c_X0_isBusy (by omega)) lk_X0_15 dX0_state_7 (by decide) (fun _ => Nat.le_of_ble_eq_true rfl) ?_
  refine aw_ifb_eq (tgt := 15) dX0_state_10 rfl (fun hc10 => ?_) (fun hc10 => ?_)
  · refine aw_iload_n dX0_state_15 rfl ?_
    refine aw_if_ne (tgt := 23) dX0_state_16 rfl (by omega) (fun hc16 => ?_) (fun hc16 => ?_)
    · refine aw_iload_n dX0_state_23 rfl ?_
      refine aw_bipush (by decide) dX0_state_24 ?_
      refine aw_isub dX0_state_26 ?_
      refine aw_iconst dX0_state_27 ?_
      refine aw_iadd dX0_state_28 ?_
      refine aw_iretF dX0_state_29 rfl ?_
      exact ⟨by rw [dst, if_neg (by omega), if_neg (by omega)], rfl⟩
    · refine aw_iconst dX0_state_19 ?_
      refine aw_goto (tgt := 29) dX0_state_20 rfl ?_
      refine aw_iretF dX0_state_29 rfl ?_
      exact ⟨by rw [dst, if_neg (by omega), if_pos (by omega)], rfl⟩
  · refine aw_iconst dX0_state_13 ?_
    refine aw_iretF dX0_state_14 rfl ?_
    exact ⟨by rw [dst, if_pos (by omega)], rfl⟩
/-- the busy one among the j that begin at d; -1 where there is none -/
def byF (p : Int) : Nat → Int → Int
  | 0, _ => -1
  | j + 1, d => if 0 < cd p d ∧ cd p d < 6 then d else byF p j (d + 1)
def bz (p : Int) : Int := byF p 4 0
theorem byF_rng (p : Int) : ∀ (j : Nat) (d : Int), 0 ≤ d → -1 ≤ byF p j d ∧ byF p j d < d + j
  | 0, d, h => by unfold byF; omega
  | j + 1, d, h => by
    have := byF_rng p j (d + 1) (by omega)
    unfold byF; split <;> omega
theorem bz_rng (p : Int) : -1 ≤ bz p ∧ bz p < 4 := by
  have := byF_rng p 4 0 (by omega)
  unfold bz; omega
theorem lp_X0_busyOne {h : am_H} {p t : Int} : ∀ (j : Nat) (d : Int), 0 ≤ d → d + j = 4 → byF p j d = t → AW GC mX0_busyOne 2 (am_FI t h) 2 [some (am_I p), some (am_I d)] [] h := by
  intro j
  induction j with
  | zero =>
    intro d h0 h1 h2
    refine aw_iload_n dX0_busyOne_2 rfl ?_
    refine aw_iconst dX0_busyOne_3 ?_
    refine aw_icmp_ge (tgt := 26) dX0_busyOne_4 rfl (by omega) (by omega) (fun hc4 => ?_) (fun hc4 => ?_)
    · refine aw_iconst dX0_busyOne_26 ?_
      refine aw_iretF dX0_busyOne_27 rfl ?_
      exact ⟨h2, rfl⟩
    · omega
  | succ j ih =>
    intro d h0 h1 h2
    have hr := cd_rng p d
    unfold byF at h2
    refine aw_iload_n dX0_busyOne_2 rfl ?_
    refine aw_iconst dX0_busyOne_3 ?_
    refine aw_icmp_ge (tgt := 26) dX0_busyOne_4 rfl (by omega) (by omega) (fun hc4 => ?_) (fun hc4 => ?_)
    · omega
    · refine aw_iload_n dX0_busyOne_7 rfl ?_
      refine aw_iload_n dX0_busyOne_8 rfl ?_
      refine aw_cS2IF (c_X0_codeOf) lk_X0_11 dX0_busyOne_9 (by decide) (fun _ => Nat.le_of_ble_eq_true rfl) ?_
      refine aw_cS1IF (c_X0_isBusy (by omega)) lk_X0_15 dX0_busyOne_12 (by decide) (fun _ => Nat.le_of_ble_eq_true rfl) ?_
      refine aw_ifb_eq (tgt := 20) dX0_busyOne_15 rfl (fun hc15 => ?_) (fun hc15 => ?_)
      · refine aw_iinc1 dX0_busyOne_20 (by decide) rfl ?_
        refine aw_goto (tgt := 2) dX0_busyOne_23 rfl ?_
        exact ih (d + 1) (by omega) (by omega) (by rw [if_neg hc15] at h2; exact h2)
      · refine aw_iload_n dX0_busyOne_18 rfl ?_
        refine aw_iretF dX0_busyOne_19 rfl ?_
        exact ⟨by rw [if_pos hc15] at h2; exact h2, rfl⟩
theorem c_X0_busyOne {h : am_H} {p : Int} : AMet GC mX0_busyOne 2 [am_I p] h (am_FI (bz p) h) := by
  refine am_start [some (am_I p), none] rfl rfl (by decide) (Nat.le_of_ble_eq_true rfl) ?_
  refine aw_iconst dX0_busyOne_0 ?_
  refine aw_istore_1 dX0_busyOne_1 (by decide) rfl ?_
  exact lp_X0_busyOne 4 0 (by omega) (by omega) rfl
def dneF (p : Int) : Nat → Int
  | 0 => 0
  | n + 1 => dneF p n + (if cd p n = 6 then 1 else 0)
theorem lp_X0_done {h : am_H} {p : Int} : ∀ (m i : Nat), i ≤ 4 → 4 - i < m → AW GC mX0_done 2 (am_FI (dneF p 4) h) 4 [some (am_I p), some (am_I (dneF p i)), some (am_I i)] [] h := by
  intro m
  induction m with
  | zero => intro i h1 h2; omega
  | succ m ih =>
    intro i h1 h2
    have hr := cd_rng p i
    refine aw_iload_n dX0_done_4 rfl ?_
    refine aw_iconst dX0_done_5 ?_
    refine aw_icmp_ge (tgt := 33) dX0_done_6 rfl (by omega) (by omega) (fun hc6 => ?_) (fun hc6 => ?_)
    · refine aw_iload_n dX0_done_33 rfl ?_
      refine aw_iretF dX0_done_34 rfl ?_
      exact ⟨by rw [show i = 4 by omega], rfl⟩
    · refine aw_iload_n dX0_done_9 rfl ?_
      refine aw_iload_n dX0_done_10 rfl ?_
      refine aw_iload_n dX0_done_11 rfl ?_
      refine aw_cS2IF (c_X0_codeOf) lk_X0_11 dX0_done_12 (by decide) (fun _ => Nat.le_of_ble_eq_true rfl) ?_
      refine aw_bipush (by decide) dX0_done_15 ?_
      refine aw_icmp_ne (tgt := 24) dX0_done_17 rfl (by omega) (by omega) (fun hc17 => ?_) (fun hc17 => ?_)
      · refine aw_iconst dX0_done_24 ?_
        refine aw_iadd dX0_done_25 ?_
        refine aw_istore_1 dX0_done_26 (by decide) rfl ?_
        refine aw_iinc2 dX0_done_27 (by decide) rfl ?_
        refine aw_goto (tgt := 4) dX0_done_30 rfl ?_
        refine aw_ls ?_ (ih (i + 1) (by omega) (by omega)); rw [dneF, if_neg (by omega)]; rfl
      · refine aw_iconst dX0_done_20 ?_
        refine aw_goto (tgt := 25) dX0_done_21 rfl ?_
        refine aw_iadd dX0_done_25 ?_
        refine aw_istore_1 dX0_done_26 (by decide) rfl ?_
        refine aw_iinc2 dX0_done_27 (by decide) rfl ?_
        refine aw_goto (tgt := 4) dX0_done_30 rfl ?_
        refine aw_ls ?_ (ih (i + 1) (by omega) (by omega)); rw [dneF, if_pos (by omega)]; rfl
theorem c_X0_done {h : am_H} {p : Int} : AMet GC mX0_done 2 [am_I p] h (am_FI (dneF p 4) h) := by
  refine am_start [some (am_I p), none, none] rfl rfl (by decide) (Nat.le_of_ble_eq_true rfl) ?_
  refine aw_iconst dX0_done_0 ?_
  refine aw_istore_1 dX0_done_1 (by decide) rfl ?_
  refine aw_iconst dX0_done_2 ?_
  refine aw_istore_2 dX0_done_3 (by decide) rfl ?_
  exact lp_X0_done 5 0 (by omega) (by omega)
def aft (p k : Int) : Int := if bz p < 0 ∨ k = 3 ∨ k = 2 then p else if k = 5 then wth p (bz p) 7 else if cd p (bz p) - 1 = 0 then wth p (bz p) 6 else wth p (bz p) (cd p (bz p) - 1)
theorem c_X0_afterWord {h : am_H} {p k : Int} (hk : 0 ≤ k ∧ k ≤ 5) : AMet GC mX0_afterWord 3 [am_I p, am_I k] h (am_FI (aft p k) h) := by
  have hb := bz_rng p
  have hc := cd_rng p (bz p)
  refine am_start [some (am_I p), some (am_I k), none, none] rfl rfl (by decide) (Nat.le_of_ble_eq_true rfl) ?_
  refine aw_iload_n dX0_afterWord_0 rfl ?_
  refine aw_cS1IF (c_X0_busyOne) lk_X0_19 dX0_afterWord_1 (by decide) (fun _ => Nat.le_of_ble_eq_true rfl) ?_
  refine aw_istore_2 dX0_afterWord_4 (by decide) rfl ?_
  refine aw_iload_n dX0_afterWord_5 rfl ?_
  refine aw_if_lt (tgt := 19) dX0_afterWord_6 rfl (by omega) (fun hc6 => ?_) (fun hc6 => ?_)
  · refine aw_iload_n dX0_afterWord_19 rfl ?_
    refine aw_iretF dX0_afterWord_20 rfl ?_
    exact ⟨by rw [aft, if_pos (by omega)], rfl⟩
  · refine aw_iload_n dX0_afterWord_9 rfl ?_
    refine aw_iconst dX0_afterWord_10 ?_
    refine aw_icmp_eq (tgt := 19) dX0_afterWord_11 rfl (by omega) (by omega) (fun hc11 => ?_) (fun hc11 => ?_)
    · refine aw_iload_n dX0_afterWord_19 rfl ?_
      refine aw_iretF dX0_afterWord_20 rfl ?_
      exact ⟨by rw [aft, if_pos (by omega)], rfl⟩
    · refine aw_iload_n dX0_afterWord_14 rfl ?_
      refine aw_iconst dX0_afterWord_15 ?_
      refine aw_icmp_ne (tgt := 21) dX0_afterWord_16 rfl (by omega) (by omega) (fun hc16 => ?_) (fun hc16 => ?_)
      · refine aw_iload_n dX0_afterWord_21 rfl ?_
        refine aw_iconst dX0_afterWord_22 ?_
        refine aw_icmp_ne (tgt := 34) dX0_afterWord_23 rfl (by omega) (by omega) (fun hc23 => ?_) (fun hc23 => ?_)
        · refine aw_iload_n dX0_afterWord_34 rfl ?_
          refine aw_iload_n dX0_afterWord_35 rfl ?_
          refine aw_cS2IF (c_X0_codeOf) lk_X0_11 dX0_afterWord_36 (by decide) (fun _ => Nat.le_of_ble_eq_true rfl) ?_
          refine aw_iconst dX0_afterWord_39 ?_
          refine aw_isub dX0_afterWord_40 ?_
          refine aw_istore_3 dX0_afterWord_41 (by decide) rfl ?_
          refine aw_iload_n dX0_afterWord_42 rfl ?_
          refine aw_iload_n dX0_afterWord_43 rfl ?_
          refine aw_iload_n dX0_afterWord_44 rfl ?_
          refine aw_if_ne (tgt := 53) dX0_afterWord_45 rfl (by omega) (fun hc45 => ?_) (fun hc45 => ?_)
          · refine aw_iload_n dX0_afterWord_53 rfl ?_
            refine aw_cS3IF (c_X0_with) lk_X0_23 dX0_afterWord_54 (by decide) (fun _ => Nat.le_of_ble_eq_true rfl) ?_
            refine aw_iretF dX0_afterWord_57 rfl ?_
            exact ⟨by rw [aft, if_neg (by omega), if_neg (by omega), if_neg (by omega)], rfl⟩
          · refine aw_bipush (by decide) dX0_afterWord_48 ?_
            refine aw_goto (tgt := 54) dX0_afterWord_50 rfl ?_
            refine aw_cS3IF (c_X0_with) lk_X0_23 dX0_afterWord_54 (by decide) (fun _ => Nat.le_of_ble_eq_true rfl) ?_
            refine aw_iretF dX0_afterWord_57 rfl ?_
            exact ⟨by rw [aft, if_neg (by omega), if_neg (by omega), if_pos (by omega)], rfl⟩
        · refine aw_iload_n dX0_afterWord_26 rfl ?_
          refine aw_iload_n dX0_afterWord_27 rfl ?_
          refine aw_bipush (by decide) dX0_afterWord_28 ?_
          refine aw_cS3IF (c_X0_with) lk_X0_23 dX0_afterWord_30 (by decide) (fun _ => Nat.le_of_ble_eq_true rfl) ?_
          refine aw_iretF dX0_afterWord_33 rfl ?_
          exact ⟨by rw [aft, if_neg (by omega), if_pos (by omega)], rfl⟩
      · refine aw_iload_n dX0_afterWord_19 rfl ?_
        refine aw_iretF dX0_afterWord_20 rfl ?_
        exact ⟨by rw [aft, if_pos (by omega)], rfl⟩
/-- digits, the busy one, what it has left -/
def ixF (p : Int) : Nat → Int × Int × Int
  | 0 => (0, -1, 0)
  | d + 1 => if 0 < cd p d ∧ cd p d < 6 then ((ixF p d).1, (d : Int), cd p d) else ((ixF p d).1 * 3 + (if cd p d = 0 then 0 else cd p d - 6 + 1), (ixF p d).2)
def ix (p : Int) : Int := if (ixF p 4).2.1 < 0 then (ixF p 4).1 else 81 + ((ixF p 4).2.1 * 5 + (ixF p 4).2.2 - 1) * 27 + (ixF p 4).1
theorem ixF_rng (p : Int) : ∀ d : Nat, -1 ≤ (ixF p d).2.1 ∧ (ixF p d).2.1 < d
  | 0 => by unfold ixF; dsimp only; omega
  | d + 1 => by
    have := ixF_rng p d
    unfold ixF; split
    · dsimp only; omega
    · dsimp only; omega
theorem lp_X0_index {h : am_H} {p : Int} : ∀ (m i : Nat) (x5 : Option am_V), i ≤ 4 → 4 - i < m → AW GC mX0_index 2 (am_FI (ix p) h) 9 [some (am_I p), some (am_I (ixF p i).1), some (am_I (ixF p i).2.1), some (am_I (ixF p i).2.2), some (am_I i), x5] [] h := by
  intro m
  induction m with
  | zero => intro i x5 h1 h2; omega
  | succ m ih =>
    intro i x5 h1 h2
    have hr := cd_rng p i
    have hx := ixF_rng p i
    have e : ixF p (i + 1) = if 0 < cd p i ∧ cd p i < 6 then ((ixF p i).1, (i : Int), cd p i) else ((ixF p i).1 * 3 + (if cd p i = 0 then 0 else cd p i - 6 + 1), (ixF p i).2) := rfl
    have nxt : ∀ (s : Int × Int × Int) (y5 : Option am_V), i < 4 → s = ixF p (i + 1) → AW GC mX0_index 2 (am_FI (ix p) h) 9 [some (am_I p), some (am_I s.1), some (am_I s.2.1), some (am_I s.2.2), some (am_I (i + 1 : Nat)), y5] [] h := by
      intro s y5 hlt hs
      rw [hs]
      exact ih (i + 1) y5 (by omega) (by omega)
    by_cases hlt : i < 4
    · refine aw_iload dX0_index_9 rfl ?_
      refine aw_iconst dX0_index_11 ?_
      refine aw_icmp_ge (tgt := 67) dX0_index_12 rfl (by omega) (by omega) (fun hc12 => ?_) (fun hc12 => ?_)
      · omega
      · refine aw_iload_n dX0_index_15 rfl ?_
        refine aw_iload dX0_index_16 rfl ?_
        refine aw_cS2IF (c_X0_codeOf) lk_X0_11 dX0_index_18 (by decide) (fun _ => Nat.le_of_ble_eq_true rfl) ?_
        refine aw_istore5 dX0_index_21 (by decide) rfl ?_
        refine aw_iload dX0_index_23 rfl ?_
        refine aw_cS1IF (c_X0_isBusy (by omega)) lk_X0_15 dX0_index_25 (by decide) (fun _ => Nat.le_of_ble_eq_true rfl) ?_
        refine aw_ifb_eq (tgt := 40) dX0_index_28 rfl (fun hc28 => ?_) (fun hc28 => ?_)
        · refine aw_iload_n dX0_index_40 rfl ?_
          refine aw_iconst dX0_index_41 ?_
          refine aw_imul dX0_index_42 ?_
          refine aw_iload dX0_index_43 rfl ?_
          refine aw_if_ne (tgt := 52) dX0_index_45 rfl (by omega) (fun hc45 => ?_) (fun hc45 => ?_)
          · refine aw_iload dX0_index_52 rfl ?_
            refine aw_bipush (by decide) dX0_index_54 ?_
            refine aw_isub dX0_index_56 ?_
            refine aw_iconst dX0_index_57 ?_
            refine aw_iadd dX0_index_58 ?_
            refine aw_iadd dX0_index_59 ?_
            refine aw_istore_1 dX0_index_60 (by decide) rfl ?_
            refine aw_iinc4 dX0_index_61 (by decide) rfl ?_
            refine aw_goto (tgt := 9) dX0_index_64 rfl ?_
            exact nxt (_, (ixF p i).2) _ hlt (by rw [e, if_neg hc28, if_neg (by omega)])
          · refine aw_iconst dX0_index_48 ?_
            refine aw_goto (tgt := 59) dX0_index_49 rfl ?_
            refine aw_iadd dX0_index_59 ?_
            refine aw_istore_1 dX0_index_60 (by decide) rfl ?_
            refine aw_iinc4 dX0_index_61 (by decide) rfl ?_
            refine aw_goto (tgt := 9) dX0_index_64 rfl ?_
            exact nxt (_, (ixF p i).2) _ hlt (by rw [e, if_neg hc28, if_pos (by omega)])
        · refine aw_iload dX0_index_31 rfl ?_
          refine aw_istore_2 dX0_index_33 (by decide) rfl ?_
          refine aw_iload dX0_index_34 rfl ?_
          refine aw_istore_3 dX0_index_36 (by decide) rfl ?_
          refine aw_goto (tgt := 61) dX0_index_37 rfl ?_
          refine aw_iinc4 dX0_index_61 (by decide) rfl ?_
          refine aw_goto (tgt := 9) dX0_index_64 rfl ?_
          exact nxt (_, _, _) _ hlt (by rw [e, if_pos hc28])
    · have ei : i = 4 := by omega
      subst ei
      refine aw_iload dX0_index_9 rfl ?_
      refine aw_iconst dX0_index_11 ?_
      refine aw_icmp_ge (tgt := 67) dX0_index_12 rfl (by omega) (by omega) (fun hc12 => ?_) (fun hc12 => ?_)
      · refine aw_iload_n dX0_index_67 rfl ?_
        refine aw_if_ge (tgt := 75) dX0_index_68 rfl (by omega) (fun hc68 => ?_) (fun hc68 => ?_)
        · refine aw_bipush (by decide) dX0_index_75 ?_
          refine aw_iload_n dX0_index_77 rfl ?_
          refine aw_iconst dX0_index_78 ?_
          refine aw_imul dX0_index_79 ?_
          refine aw_iload_n dX0_index_80 rfl ?_
          refine aw_iadd dX0_index_81 ?_
          refine aw_iconst dX0_index_82 ?_
          refine aw_isub dX0_index_83 ?_
          refine aw_bipush (by decide) dX0_index_84 ?_
          refine aw_imul dX0_index_86 ?_
          refine aw_iadd dX0_index_87 ?_
          refine aw_iload_n dX0_index_88 rfl ?_
          refine aw_iadd dX0_index_89 ?_
          refine aw_iretF dX0_index_90 rfl ?_
          exact ⟨by rw [ix, if_neg (by omega)], rfl⟩
        · refine aw_iload_n dX0_index_71 rfl ?_
          refine aw_goto (tgt := 90) dX0_index_72 rfl ?_
          refine aw_iretF dX0_index_90 rfl ?_
          exact ⟨by rw [ix, if_pos (by omega)], rfl⟩
      · omega
theorem c_X0_index {h : am_H} {p : Int} : AMet GC mX0_index 2 [am_I p] h (am_FI (ix p) h) := by
  refine am_start [some (am_I p), none, none, none, none, none] rfl rfl (by decide) (Nat.le_of_ble_eq_true rfl) ?_
  refine aw_iconst dX0_index_0 ?_
  refine aw_istore_1 dX0_index_1 (by decide) rfl ?_
  refine aw_iconst dX0_index_2 ?_
  refine aw_istore_2 dX0_index_3 (by decide) rfl ?_
  refine aw_iconst dX0_index_4 ?_
  refine aw_istore_3 dX0_index_5 (by decide) rfl ?_
  refine aw_iconst dX0_index_6 ?_
  refine aw_istore4 dX0_index_7 (by decide) rfl ?_
  exact lp_X0_index 5 0 _ (by omega) (by omega)
