theorem fb_rngI (x : Int32) : -2147483648 ≤ x.toInt ∧ x.toInt < 2147483648 := ⟨by have := x.le_toInt; omega, by have := x.toInt_lt; omega⟩
theorem am_shlT {a : Int} {k : Nat} (hs : ((Int32.ofInt k &&& 31).toBitVec.smod 32).toNat = k) : am_shl a k = (a * 2 ^ k).bmod 4294967296 := by
  unfold am_shl
  have h1 := pk_shl (Int32.ofInt a) (Int32.ofInt k &&& 31) k hs
  have h2 : (Int32.ofInt a <<< (Int32.ofInt k &&& 31)).toInt = ((Int32.ofInt a <<< (Int32.ofInt k &&& 31)).toBitVec.toNat : Int).bmod 4294967296 := BitVec.toInt_eq_toNat_bmod _
  rw [h2, h1]
  have h3 : ((Int32.ofInt a).toBitVec.toNat : Int) = a % 4294967296 := by
    show ((BitVec.ofInt 32 a).toNat : Int) = _
    rw [BitVec.toNat_ofInt]
    omega
  rw [Int.natCast_emod, Int.natCast_mul, h3]
  have h4 : (((2 ^ k : Nat) : Int)) = 2 ^ k := by simp
  rw [h4]
  have key : ∀ x y : Int, x % 4294967296 = y % 4294967296 → x.bmod 4294967296 = y.bmod 4294967296 := by
    intro x y q
    simp only [Int.bmod]
    omega
  refine key _ _ ?_
  show a % 4294967296 * 2 ^ k % 4294967296 % 4294967296 = _
  rw [Int.emod_emod_of_dvd _ (Int.dvd_refl _), Int.mul_emod, Int.emod_emod_of_dvd _ (Int.dvd_refl _), ← Int.mul_emod]
theorem am_shrT {a : Int} {k : Nat} (ha : -2147483648 ≤ a ∧ a < 2147483648) (hs : ((Int32.ofInt k &&& 31).toBitVec.smod 32).toNat = k) : am_shr a k = a >>> k := by
  unfold am_shr
  rw [pk_shr (Int32.ofInt a) (Int32.ofInt k &&& 31) k hs, am_toI ha]
theorem am_byte (v : Int) : am_shr (am_shl v 24) 24 = v.bmod 256 := by
  have h1 := am_shlT (a := v) (k := 24) (by decide)
  rw [show ((24 : Nat) : Int) = 24 from rfl] at h1
  have h2 : -2147483648 ≤ am_shl v 24 ∧ am_shl v 24 < 2147483648 := fb_rngI _
  have h3 := am_shrT (a := am_shl v 24) (k := 24) h2 (by decide)
  rw [show ((24 : Nat) : Int) = 24 from rfl] at h3
  rw [h3, h1, Int.shiftRight_eq_div_pow]
  simp only [Int.bmod]
  omega
def textF (g : am_H) (t n : Int) : am_H := am_up (am_set g 3 t n) 4 (fun j => if 80 * t ≤ j ∧ j < 80 * t + 80 then 32 else g 4 j)
theorem lp_X8_text {r n : Int} {g : am_H} (hr : 0 ≤ r ∧ r ≤ 3) : ∀ (m : Nat) (i : Int) (f : Int → Int), 0 ≤ i → i ≤ 80 → 80 - i < m → (f = fun j => if 80 * r ≤ j ∧ j < 80 * r + i then 32 else g 4 j) → AW GM mX8_text 3 (am_FI n (textF g r n)) 34 [some (am_R 0), some (am_I r), some (am_I n), some (am_I i)] [] (am_up (am_set g 3 r n) 4 f) := by
  intro m
  induction m with
  | zero => intro i f h0 h1 h2; omega
  | succ m ih =>
    intro i f h0 h1 h2 hf
    refine aw_iload_n dX8_text_34 rfl ?_
    refine aw_bipush (by decide) dX8_text_35 ?_
    refine aw_icmp_ge (tgt := 59) dX8_text_37 rfl (by omega) (by omega) (fun hc37 => ?_) (fun hc37 => ?_)
    · refine aw_iload_n dX8_text_59 rfl ?_
      refine aw_iretF dX8_text_60 rfl ?_
      refine ⟨rfl, ?_⟩
      rw [hf, show i = 80 by omega]; rfl
    · refine aw_aload_n dX8_text_40 rfl ?_
      refine aw_getR (kx := 3) fl_X8_19 dX8_text_41 rfl rfl rfl ?_
      refine aw_bipush (by decide) dX8_text_44 ?_
      refine aw_iload_n dX8_text_46 rfl ?_
      refine aw_imul dX8_text_47 ?_
      refine aw_iload_n dX8_text_48 rfl ?_
      refine aw_iadd dX8_text_49 ?_
      refine aw_bipush (by decide) dX8_text_50 ?_
      refine aw_iastore dX8_text_52 rfl (by decide) (by omega) ?_
      refine aw_iinc3 dX8_text_53 (by decide) rfl ?_
      refine aw_goto (tgt := 34) dX8_text_56 rfl ?_
      rw [am_set_ups]
      refine ih _ _ (by omega) (by omega) (by omega) ?_
      rw [hf]; funext j; dsimp only; repeat' split
      all_goals first | rfl | omega
def S_text (g : am_H) (t n : Int) : Int × am_H := if ¬ (0 ≤ t ∧ t ≤ 3) ∨ 80 < n then (-1, g) else if n < 0 then (-3, findF g 5) else (n, textF g t n)
theorem c_X8_text {r n : Int} {g : am_H} (hr : -2147483648 ≤ r ∧ r < 2147483648) (hn : -2147483648 ≤ n ∧ n < 2147483648) : AMet GM mX8_text 3 [am_R 0, am_I r, am_I n] g (am_FI (S_text g r n).1 (S_text g r n).2) := by
  refine am_start [some (am_R 0), some (am_I r), some (am_I n), none] rfl rfl (by decide) (Nat.le_of_ble_eq_true rfl) ?_
  refine aw_iload_n dX8_text_0 rfl ?_
  refine aw_cS1IF (c_X8_isText (by omega)) lk_X8_154 dX8_text_1 (by decide) (fun _ => Nat.le_of_ble_eq_true rfl) ?_
  refine aw_ifb_eq (tgt := 13) dX8_text_4 rfl (fun hc4 => ?_) (fun hc4 => ?_)
  · refine aw_iconst dX8_text_13 ?_
    refine aw_iretF dX8_text_14 rfl ?_
    rw [S_text, if_pos (by omega)]; exact ⟨rfl, rfl⟩
  · refine aw_iload_n dX8_text_7 rfl ?_
    refine aw_bipush (by decide) dX8_text_8 ?_
    refine aw_icmp_le (tgt := 15) dX8_text_10 rfl (by omega) (by omega) (fun hc10 => ?_) (fun hc10 => ?_)
    · refine aw_iload_n dX8_text_15 rfl ?_
      refine aw_if_ge (tgt := 25) dX8_text_16 rfl (by omega) (fun hc16 => ?_) (fun hc16 => ?_)
      · refine aw_aload_n dX8_text_25 rfl ?_
        refine aw_getR (kx := 2) fl_X8_16 dX8_text_26 rfl rfl rfl ?_
        refine aw_iload_n dX8_text_29 rfl ?_
        refine aw_iload_n dX8_text_30 rfl ?_
        refine aw_iastore dX8_text_31 rfl (by decide) (by omega) ?_
        refine aw_iconst dX8_text_32 ?_
        refine aw_istore_3 dX8_text_33 (by decide) rfl ?_
        refine aw_heap (h2 := am_up (am_set g 3 r n) 4 (g 4)) ?_ ?_
        · rw [← am_set_c (h := g) (c := 3) (i := r) (v := n) (x := 4) (by decide), am_up_self]
        rw [S_text, if_neg (by omega), if_neg (by omega)]
        exact lp_X8_text hc4 81 0 _ (by omega) (by omega) (by omega) (by funext j; rw [if_neg (by omega)])
      · refine aw_aload_n dX8_text_19 rfl ?_
        refine aw_iconst dX8_text_20 ?_
        refine aw_cV1IF (c_X8_find (by omega)) lk_X8_143 dX8_text_21 (by decide) rfl rfl (fun _ => Nat.le_of_ble_eq_true rfl) ?_
        refine aw_iretF dX8_text_24 rfl ?_
        rw [S_text, if_neg (by omega), if_pos (by omega)]; exact ⟨rfl, rfl⟩
    · refine aw_iconst dX8_text_13 ?_
      refine aw_iretF dX8_text_14 rfl ?_
      rw [S_text, if_pos (by omega)]; exact ⟨rfl, rfl⟩
def S_put (g : am_H) (t i v : Int) : Int × am_H := if ¬ (0 ≤ t ∧ t ≤ 3) then (-1, g) else if g 3 t < 0 then (-3, findF g 1) else if ¬ (0 ≤ i ∧ i ≤ g 3 t - 1) then (-3, findF g 2) else (g 4 (80 * t + i) + 1000, am_set g 4 (80 * t + i) (v.bmod 256))
theorem c_X8_put {t i v : Int} {g : am_H} (hv : MVt g) (hr : -2147483648 ≤ t ∧ t < 2147483648) (hi : -2147483648 ≤ i ∧ i < 2147483648) : AMet GM mX8_put 3 [am_R 0, am_I t, am_I i, am_I v] g (am_FI (S_put g t i v).1 (S_put g t i v).2) := by
  refine am_start [some (am_R 0), some (am_I t), some (am_I i), some (am_I v), none] rfl rfl (by decide) (Nat.le_of_ble_eq_true rfl) ?_
  refine aw_iload_n dX8_put_0 rfl ?_
  refine aw_cS1IF (c_X8_isText (by omega)) lk_X8_154 dX8_put_1 (by decide) (fun _ => Nat.le_of_ble_eq_true rfl) ?_
  refine aw_ifb_ne (tgt := 9) dX8_put_4 rfl (fun hc4 => ?_) (fun hc4 => ?_)
  · have hs := hv.1 t (by omega) (by omega)
    refine aw_aload_n dX8_put_9 rfl ?_
    refine aw_getR (kx := 2) fl_X8_16 dX8_put_10 rfl rfl rfl ?_
    refine aw_iload_n dX8_put_13 rfl ?_
    refine aw_iaload dX8_put_14 rfl (by decide) (by omega) ?_
    refine aw_if_ge (tgt := 24) dX8_put_15 rfl (by omega) (fun hc15 => ?_) (fun hc15 => ?_)
    · refine aw_iload_n dX8_put_24 rfl ?_
      refine aw_i2l (by omega) dX8_put_25 ?_
      refine aw_lconst (v := 0) dX8_put_26 rfl ?_
      refine aw_aload_n dX8_put_27 rfl ?_
      refine aw_getR (kx := 2) fl_X8_16 dX8_put_28 rfl rfl rfl ?_
      refine aw_iload_n dX8_put_31 rfl ?_
      refine aw_iaload dX8_put_32 rfl (by decide) (by omega) ?_
      refine aw_iconst dX8_put_33 ?_
      refine aw_isub dX8_put_34 ?_
      refine aw_i2l (by omega) dX8_put_35 ?_
      refine aw_cS3IF (c_X8_in (by omega) (by omega) (by omega)) lk_X8_133 dX8_put_36 (by decide) (fun _ => Nat.le_of_ble_eq_true rfl) ?_
      refine aw_ifb_ne (tgt := 48) dX8_put_39 rfl (fun hc39 => ?_) (fun hc39 => ?_)
      · refine aw_aload_n dX8_put_48 rfl ?_
        refine aw_getR (kx := 3) fl_X8_19 dX8_put_49 rfl rfl rfl ?_
        refine aw_bipush (by decide) dX8_put_52 ?_
        refine aw_iload_n dX8_put_54 rfl ?_
        refine aw_imul dX8_put_55 ?_
        refine aw_iload_n dX8_put_56 rfl ?_
        refine aw_iadd dX8_put_57 ?_
        refine aw_iaload dX8_put_58 rfl (by decide) (by omega) ?_
        refine aw_istore4 dX8_put_59 (by decide) rfl ?_
        refine aw_aload_n dX8_put_61 rfl ?_
        refine aw_getR (kx := 3) fl_X8_19 dX8_put_62 rfl rfl rfl ?_
        refine aw_bipush (by decide) dX8_put_65 ?_
        refine aw_iload_n dX8_put_67 rfl ?_
        refine aw_imul dX8_put_68 ?_
        refine aw_iload_n dX8_put_69 rfl ?_
        refine aw_iadd dX8_put_70 ?_
        refine aw_iload_n dX8_put_71 rfl ?_
        refine aw_bipush (by decide) dX8_put_72 ?_
        refine aw_ishl dX8_put_74 ?_
        refine aw_bipush (by decide) dX8_put_75 ?_
        refine aw_ishr dX8_put_77 ?_
        refine aw_top (am_byte v) ?_
        refine aw_iastore dX8_put_78 rfl (by decide) (by omega) ?_
        refine aw_iload dX8_put_79 rfl ?_
        refine aw_sipush (by decide) dX8_put_81 ?_
        refine aw_iadd dX8_put_84 ?_
        refine aw_iretF dX8_put_85 rfl ?_
        rw [S_put, if_neg (by omega), if_neg (by omega), if_neg (by omega)]; exact ⟨rfl, rfl⟩
      · refine aw_aload_n dX8_put_42 rfl ?_
        refine aw_iconst dX8_put_43 ?_
        refine aw_cV1IF (c_X8_find (by omega)) lk_X8_143 dX8_put_44 (by decide) rfl rfl (fun _ => Nat.le_of_ble_eq_true rfl) ?_
        refine aw_iretF dX8_put_47 rfl ?_
        rw [S_put, if_neg (by omega), if_neg (by omega), if_pos (by omega)]; exact ⟨rfl, rfl⟩
    · refine aw_aload_n dX8_put_18 rfl ?_
      refine aw_iconst dX8_put_19 ?_
      refine aw_cV1IF (c_X8_find (by omega)) lk_X8_143 dX8_put_20 (by decide) rfl rfl (fun _ => Nat.le_of_ble_eq_true rfl) ?_
      refine aw_iretF dX8_put_23 rfl ?_
      rw [S_put, if_neg (by omega), if_pos (by omega)]; exact ⟨rfl, rfl⟩
  · refine aw_iconst dX8_put_7 ?_
    refine aw_iretF dX8_put_8 rfl ?_
    rw [S_put, if_pos (by omega)]; exact ⟨rfl, rfl⟩
theorem MEq.up {a b : am_H} {c : Int} {f : Int → Int} (h : MEq a b) : MEq (am_up a c f) (am_up b c f) := by
  refine ⟨fun k hk => ?_, fun x hx => ?_⟩
  · rw [am_up_if, am_up_if]; split
    · rfl
    · exact h.1 k hk
  · rw [am_up_if, am_up_if]; split
    · rfl
    · exact h.2 x hx
theorem MEq.scr {a : am_H} {c : Int} {f : Int → Int} (hc : 17 ≤ c ∧ ¬ c = 24 ∧ ¬ c = 25) : MEq (am_up a c f) a :=
  ⟨fun k _ => by rw [am_up_c (by omega)], fun x hx => by rw [am_up_c (by omega)]⟩
theorem MEq.scs {a : am_H} {c i v : Int} (hc : 17 ≤ c ∧ ¬ c = 24 ∧ ¬ c = 25) : MEq (am_set a c i v) a :=
  ⟨fun k _ => by rw [am_set_c (by omega)], fun x hx => by rw [am_set_c (by omega)]⟩
theorem MEq.sc0 {a : am_H} {k v : Int} (hk : 26 ≤ k) : MEq (am_set a 0 k v) a :=
  ⟨fun j hj => by rw [am_set_i (by omega)], fun x hx => by rw [am_set_c (by omega)]⟩
theorem MEq.set {a b : am_H} {c i v : Int} (hc : (0 ≤ c ∧ c ≤ 16) ∨ c = 24 ∨ c = 25) (h : MEq a b) : MEq (am_set a c i v) (am_set b c i v) := by
  refine ⟨fun k hk => ?_, fun x hx => ?_⟩
  · rw [am_set_if, am_set_if]; split
    · rename_i e; rw [← e]; split
      · rfl
      · exact h.1 k hk
    · exact h.1 k hk
  · unfold am_set; split
    · rename_i e; funext j; split
      · rfl
      · rw [h.2 c (by omega)]
    · exact h.2 x hx
def copyF (g : am_H) (r i to j n : Int) : am_H := am_up g 2 (fun x => if 40 * to + j ≤ x ∧ x < 40 * to + j + n then g 2 (40 * r + i + (x - (40 * to + j))) else g 2 x)
def S_copy (g : am_H) (r i to j n : Int) : Int × am_H := if ¬ (0 ≤ r ∧ r ≤ 5) ∨ ¬ (0 ≤ to ∧ to ≤ 5) then (-1, g) else if n < 0 then (-3, findF g 5) else if g 1 r < 0 ∨ g 1 to < 0 then (-3, findF g 1) else if ¬ (0 ≤ i ∧ i ≤ g 1 r - n) ∨ ¬ (0 ≤ j ∧ j ≤ g 1 to - n) then (-3, findF g 2) else (1, copyF g r i to j n)
abbrev QM (S : Int × am_H) : Option am_V → am_H → Prop := am_QI (fun v g' => v = S.1 ∧ MEq g' S.2)
theorem lp_X8_copy2 {r i to j n : Int} {g : am_H} (hv : MVr g) (hr : 0 ≤ r ∧ r ≤ 5) (ht : 0 ≤ to ∧ to ≤ 5) (hn : 0 ≤ n ∧ n ≤ 40) (hi : 0 ≤ i ∧ i + n ≤ 40) (hj : 0 ≤ j ∧ j + n ≤ 40) (mv : Int → Int) (hmv : ∀ x, 0 ≤ x → x < n → mv x = g 2 (40 * r + i + x)) : ∀ (m : Nat) (k : Int) (f : Int → Int), 0 ≤ k → k ≤ n → n - k < m → (f = fun x => if 40 * to + j ≤ x ∧ x < 40 * to + j + k then g 2 (40 * r + i + (x - (40 * to + j))) else g 2 x) → AW GM mX8_copy 3 (QM (1, copyF g r i to j n)) 138 [some (am_R 0), some (am_I r), some (am_I i), some (am_I to), some (am_I j), some (am_I n), some (am_I k)] [] (am_up (am_up g 17 mv) 2 f) := by
  intro m
  induction m with
  | zero => intro k f h0 h1 h2; omega
  | succ m ih =>
    intro k f h0 h1 h2 hf
    refine aw_iload dX8_copy_138 rfl ?_
    refine aw_iload dX8_copy_140 rfl ?_
    refine aw_icmp_ge (tgt := 173) dX8_copy_142 rfl (by omega) (by omega) (fun hc142 => ?_) (fun hc142 => ?_)
    · refine aw_iconst dX8_copy_173 ?_
      refine aw_iretQ dX8_copy_174 rfl ?_
      refine ⟨rfl, ?_⟩
      show MEq _ (copyF g r i to j n)
      rw [hf, show k = n by omega]
      exact MEq.up (MEq.scr (by omega))
    · refine aw_aload_n dX8_copy_145 rfl ?_
      refine aw_getR (kx := 1) fl_X8_13 dX8_copy_146 rfl rfl rfl ?_
      refine aw_bipush (by decide) dX8_copy_149 ?_
      refine aw_iload_n dX8_copy_151 rfl ?_
      refine aw_imul dX8_copy_152 ?_
      refine aw_iload dX8_copy_153 rfl ?_
      refine aw_iadd dX8_copy_155 ?_
      refine aw_iload dX8_copy_156 rfl ?_
      refine aw_iadd dX8_copy_158 ?_
      refine aw_aload_n dX8_copy_159 rfl ?_
      refine aw_getR (kx := 25) fl_X8_62 dX8_copy_160 rfl rfl rfl ?_
      refine aw_iload dX8_copy_163 rfl ?_
      refine aw_iaload dX8_copy_165 rfl (by decide) (by omega) ?_
      refine aw_iastore dX8_copy_166 rfl (by decide) (by omega) ?_
      refine aw_iinc6 dX8_copy_167 (by decide) rfl ?_
      refine aw_goto (tgt := 138) dX8_copy_170 rfl ?_
      rw [am_set_ups]
      refine ih _ _ (by omega) (by omega) (by omega) ?_
      rw [am_up_c (by decide), am_up_s, hmv k (by omega) (by omega), hf]; funext x; dsimp only; repeat' split
      all_goals first | rfl | omega | (congr 1; omega)
theorem lp_X8_copy1 {r i to j n : Int} {g : am_H} (hv : MVr g) (hr : 0 ≤ r ∧ r ≤ 5) (ht : 0 ≤ to ∧ to ≤ 5) (hn : 0 ≤ n ∧ n ≤ 40) (hi : 0 ≤ i ∧ i + n ≤ 40) (hj : 0 ≤ j ∧ j + n ≤ 40) : ∀ (m : Nat) (k : Int) (mv : Int → Int), 0 ≤ k → k ≤ n → n - k < m → (∀ x, 0 ≤ x → x < k → mv x = g 2 (40 * r + i + x)) → AW GM mX8_copy 3 (QM (1, copyF g r i to j n)) 101 [some (am_R 0), some (am_I r), some (am_I i), some (am_I to), some (am_I j), some (am_I n), some (am_I k)] [] (am_up g 17 mv) := by
  intro m
  induction m with
  | zero => intro k f h0 h1 h2; omega
  | succ m ih =>
    intro k mv h0 h1 h2 hf
    refine aw_iload dX8_copy_101 rfl ?_
    refine aw_iload dX8_copy_103 rfl ?_
    refine aw_icmp_ge (tgt := 135) dX8_copy_105 rfl (by omega) (by omega) (fun hc105 => ?_) (fun hc105 => ?_)
    · refine aw_iconst dX8_copy_135 ?_
      refine aw_istore6 dX8_copy_136 (by decide) rfl ?_
      refine aw_heap (h2 := am_up (am_up g 17 mv) 2 (g 2)) ?_ ?_
      · rw [← am_up_c (h := g) (c := 17) (f := mv) (x := 2) (by decide), am_up_self]
      exact lp_X8_copy2 hv hr ht hn hi hj mv (fun x h1 h2 => hf x h1 (by omega)) 41 0 _ (by omega) (by omega) (by omega) (by funext x; rw [if_neg (by omega)])
    · refine aw_aload_n dX8_copy_108 rfl ?_
      refine aw_getR (kx := 25) fl_X8_62 dX8_copy_109 rfl rfl rfl ?_
      refine aw_iload dX8_copy_112 rfl ?_
      refine aw_aload_n dX8_copy_114 rfl ?_
      refine aw_getR (kx := 1) fl_X8_13 dX8_copy_115 rfl rfl rfl ?_
      refine aw_bipush (by decide) dX8_copy_118 ?_
      refine aw_iload_n dX8_copy_120 rfl ?_
      refine aw_imul dX8_copy_121 ?_
      refine aw_iload_n dX8_copy_122 rfl ?_
      refine aw_iadd dX8_copy_123 ?_
      refine aw_iload dX8_copy_124 rfl ?_
      refine aw_iadd dX8_copy_126 ?_
      refine aw_iaload dX8_copy_127 rfl (by decide) (by omega) ?_
      refine aw_iastore dX8_copy_128 rfl (by decide) (by omega) ?_
      refine aw_iinc6 dX8_copy_129 (by decide) rfl ?_
      refine aw_goto (tgt := 101) dX8_copy_132 rfl ?_
      rw [am_set_ups]
      refine ih _ _ (by omega) (by omega) (by omega) ?_
      intro x hx1 hx2
      split
      · rename_i e; rw [e, am_up_c (by decide)]
      · exact hf x hx1 (by omega)
theorem c_X8_copy {r i to j n : Int} {g : am_H} (hv : MVr g) (hr : -2147483648 ≤ r ∧ r < 2147483648) (hi : -2147483648 ≤ i ∧ i < 2147483648) (ht : -2147483648 ≤ to ∧ to < 2147483648) (hj : -2147483648 ≤ j ∧ j < 2147483648) (hn : -2147483648 ≤ n ∧ n < 2147483648) : AMet GM mX8_copy 3 [am_R 0, am_I r, am_I i, am_I to, am_I j, am_I n] g (QM (S_copy g r i to j n)) := by
  refine am_start [some (am_R 0), some (am_I r), some (am_I i), some (am_I to), some (am_I j), some (am_I n), none] rfl rfl (by decide) (Nat.le_of_ble_eq_true rfl) ?_
  refine aw_iload_n dX8_copy_0 rfl ?_
  refine aw_cS1IF (c_X8_isRow (by omega)) lk_X8_139 dX8_copy_1 (by decide) (fun _ => Nat.le_of_ble_eq_true rfl) ?_
  refine aw_ifb_eq (tgt := 14) dX8_copy_4 rfl (fun hc4 => ?_) (fun hc4 => ?_)
  · refine aw_iconst dX8_copy_14 ?_
    refine aw_iretQ dX8_copy_15 rfl ?_
    rw [S_copy, if_pos (by omega)]; exact ⟨rfl, MEq.rf _⟩
  · refine aw_iload_n dX8_copy_7 rfl ?_
    refine aw_cS1IF (c_X8_isRow (by omega)) lk_X8_139 dX8_copy_8 (by decide) (fun _ => Nat.le_of_ble_eq_true rfl) ?_
    refine aw_ifb_ne (tgt := 16) dX8_copy_11 rfl (fun hc11 => ?_) (fun hc11 => ?_)
    · refine aw_iload dX8_copy_16 rfl ?_
      refine aw_if_ge (tgt := 27) dX8_copy_18 rfl (by omega) (fun hc18 => ?_) (fun hc18 => ?_)
      · have hs := hv.1 r (by omega) (by omega)
        have hs2 := hv.1 to (by omega) (by omega)
        refine aw_aload_n dX8_copy_27 rfl ?_
        refine aw_getR (kx := 0) fl_X8_7 dX8_copy_28 rfl rfl rfl ?_
        refine aw_iload_n dX8_copy_31 rfl ?_
        refine aw_iaload dX8_copy_32 rfl (by decide) (by omega) ?_
        refine aw_if_lt (tgt := 45) dX8_copy_33 rfl (by omega) (fun hc33 => ?_) (fun hc33 => ?_)
        · refine aw_aload_n dX8_copy_45 rfl ?_
          refine aw_iconst dX8_copy_46 ?_
          refine aw_cV1IF (c_X8_find (by omega)) lk_X8_143 dX8_copy_47 (by decide) rfl rfl (fun _ => Nat.le_of_ble_eq_true rfl) ?_
          refine aw_iretQ dX8_copy_50 rfl ?_
          rw [S_copy, if_neg (by omega), if_neg (by omega), if_pos (by omega)]; exact ⟨rfl, MEq.rf _⟩
        · refine aw_aload_n dX8_copy_36 rfl ?_
          refine aw_getR (kx := 0) fl_X8_7 dX8_copy_37 rfl rfl rfl ?_
          refine aw_iload_n dX8_copy_40 rfl ?_
          refine aw_iaload dX8_copy_41 rfl (by decide) (by omega) ?_
          refine aw_if_ge (tgt := 51) dX8_copy_42 rfl (by omega) (fun hc42 => ?_) (fun hc42 => ?_)
          · refine aw_iload_n dX8_copy_51 rfl ?_
            refine aw_i2l (by omega) dX8_copy_52 ?_
            refine aw_lconst (v := 0) dX8_copy_53 rfl ?_
            refine aw_aload_n dX8_copy_54 rfl ?_
            refine aw_getR (kx := 0) fl_X8_7 dX8_copy_55 rfl rfl rfl ?_
            refine aw_iload_n dX8_copy_58 rfl ?_
            refine aw_iaload dX8_copy_59 rfl (by decide) (by omega) ?_
            refine aw_i2l (by omega) dX8_copy_60 ?_
            refine aw_iload dX8_copy_61 rfl ?_
            refine aw_i2l (by omega) dX8_copy_63 ?_
            refine aw_lsub dX8_copy_64 ?_
            refine aw_cS3IF (c_X8_in (by omega) (by omega) (by omega)) lk_X8_133 dX8_copy_65 (by decide) (fun _ => Nat.le_of_ble_eq_true rfl) ?_
            refine aw_ifb_eq (tgt := 92) dX8_copy_68 rfl (fun hc68 => ?_) (fun hc68 => ?_)
            · refine aw_aload_n dX8_copy_92 rfl ?_
              refine aw_iconst dX8_copy_93 ?_
              refine aw_cV1IF (c_X8_find (by omega)) lk_X8_143 dX8_copy_94 (by decide) rfl rfl (fun _ => Nat.le_of_ble_eq_true rfl) ?_
              refine aw_iretQ dX8_copy_97 rfl ?_
              rw [S_copy, if_neg (by omega), if_neg (by omega), if_neg (by omega), if_pos (by omega)]; exact ⟨rfl, MEq.rf _⟩
            · refine aw_iload dX8_copy_71 rfl ?_
              refine aw_i2l (by omega) dX8_copy_73 ?_
              refine aw_lconst (v := 0) dX8_copy_74 rfl ?_
              refine aw_aload_n dX8_copy_75 rfl ?_
              refine aw_getR (kx := 0) fl_X8_7 dX8_copy_76 rfl rfl rfl ?_
              refine aw_iload_n dX8_copy_79 rfl ?_
              refine aw_iaload dX8_copy_80 rfl (by decide) (by omega) ?_
              refine aw_i2l (by omega) dX8_copy_81 ?_
              refine aw_iload dX8_copy_82 rfl ?_
              refine aw_i2l (by omega) dX8_copy_84 ?_
              refine aw_lsub dX8_copy_85 ?_
              refine aw_cS3IF (c_X8_in (by omega) (by omega) (by omega)) lk_X8_133 dX8_copy_86 (by decide) (fun _ => Nat.le_of_ble_eq_true rfl) ?_
              refine aw_ifb_ne (tgt := 98) dX8_copy_89 rfl (fun hc89 => ?_) (fun hc89 => ?_)
              · refine aw_iconst dX8_copy_98 ?_
                refine aw_istore6 dX8_copy_99 (by decide) rfl ?_
                rw [S_copy, if_neg (by omega), if_neg (by omega), if_neg (by omega), if_neg (by omega)]
                refine aw_heap (h2 := am_up g 17 (g 17)) (am_up_self g 17).symm ?_
                exact lp_X8_copy1 hv (by omega) (by omega) (by omega) (by omega) (by omega) 41 0 _ (by omega) (by omega) (by omega) (fun x h1 h2 => by omega)
              · refine aw_aload_n dX8_copy_92 rfl ?_
                refine aw_iconst dX8_copy_93 ?_
                refine aw_cV1IF (c_X8_find (by omega)) lk_X8_143 dX8_copy_94 (by decide) rfl rfl (fun _ => Nat.le_of_ble_eq_true rfl) ?_
                refine aw_iretQ dX8_copy_97 rfl ?_
                rw [S_copy, if_neg (by omega), if_neg (by omega), if_neg (by omega), if_pos (by omega)]; exact ⟨rfl, MEq.rf _⟩
          · refine aw_aload_n dX8_copy_45 rfl ?_
            refine aw_iconst dX8_copy_46 ?_
            refine aw_cV1IF (c_X8_find (by omega)) lk_X8_143 dX8_copy_47 (by decide) rfl rfl (fun _ => Nat.le_of_ble_eq_true rfl) ?_
            refine aw_iretQ dX8_copy_50 rfl ?_
            rw [S_copy, if_neg (by omega), if_neg (by omega), if_pos (by omega)]; exact ⟨rfl, MEq.rf _⟩
      · refine aw_aload_n dX8_copy_21 rfl ?_
        refine aw_iconst dX8_copy_22 ?_
        refine aw_cV1IF (c_X8_find (by omega)) lk_X8_143 dX8_copy_23 (by decide) rfl rfl (fun _ => Nat.le_of_ble_eq_true rfl) ?_
        refine aw_iretQ dX8_copy_26 rfl ?_
        rw [S_copy, if_neg (by omega), if_pos (by omega)]; exact ⟨rfl, MEq.rf _⟩
    · refine aw_iconst dX8_copy_14 ?_
      refine aw_iretQ dX8_copy_15 rfl ?_
      rw [S_copy, if_pos (by omega)]; exact ⟨rfl, MEq.rf _⟩
