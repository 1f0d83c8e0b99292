/-! the law's own walk: two systems beside one another -/
abbrev lc_T : Type := Program × Launch × Env × State × MethodId × List Frame × Method × Code × Nat × Nat × (Nat → Int32) × (Nat → ClassId) × (Nat → Nat → Nat) × (Nat → ClassId) × (Int → Nat) × (Int → Nat)
def lw_ad (ad ad2 : Int → Nat) (b : Nat) : Int → Nat := fun c => if c = 0 then ad 0 else if c = 1 then ad2 0 else b
def lc_ok : lc_T → Prop := fun k => match k with
  | (p, l, e, s, m, below, meth, c, b, L, xs, dC, dI, cT, ad, ad2) => lw_At p s m meth c b L xs ∧ L ≤ 384 ∧ va_K (dC, dI) vwCl (am_tys cT) s ∧ (∀ i j : Nat, i < 82 → j < 82 → ad i = ad j → i = j) ∧ (∀ i : Nat, i < 82 → s.heap.size ≤ ad i) ∧ (∀ i j : Nat, i < 37 → j < 37 → ad2 i = ad2 j → i = j) ∧ (∀ i : Nat, i < 37 → s.heap.size ≤ ad2 i) ∧ ∀ i j : Nat, i < 82 → j < 37 → ¬ ad i = ad2 j
def lc_L (k : lc_T) : Nat := k.2.2.2.2.2.2.2.2.2.1
def lc_x (k : lc_T) (j : Int) : Int := (k.2.2.2.2.2.2.2.2.2.2.1 j.toNat).toInt
def LW : lc_T → Nat → List (Option am_V) → List am_V → am_H → am_H → Prop := fun k pc ls st h g => match k with
  | (p, l, e, s, m, below, meth, c, b, L, xs, dC, dI, cT, ad, ad2) => ∀ (H : Heap) (locs : List Loc) (lsC : Array Slot), va_P (dC, dI) vwCl (am_W cT ad GC h) H → va_P (dC, dI) vwCl (am_W cT ad2 GM g) H → va_S (fun q : Nat => s.heap.size ≤ q) s.heap H locs → am_Ls (lw_ad ad ad2 b) lsC 4 ls → W p l e room_1 s m #[Value.ref b] below meth c H locs 600000 7302250 (lw_Z below #[Value.ref b] s) (F0 m pc lsC (st.map (am_cv (lw_ad ad ad2 b))))
section LAWROWS
variable {k : lc_T} {pc : Nat} {ls : List (Option am_V)} {st : List am_V} {h g : am_H}
theorem lr_iconst {n : Int} (ok : lc_ok k) (hd : decode code pc = .ok (.iconst n, 1)) (kk : LW k (pc + 1) ls (am_I n :: st) h g) : LW k pc ls st h g := by
  obtain ⟨p, l, e, s, m, below, meth, c, b, L, xs, dC, dI, cT, ad, ad2⟩ := k
  obtain ⟨C, ok⟩ := ok
  intro H locs lsC hP1 hP2 hS hL
  exact lv_iconst C.1 C.2.1 hd rfl (kk H locs lsC hP1 hP2 hS hL)
theorem lr_bipush {n : Int} (ok : lc_ok k) (hn : -128 ≤ n ∧ n < 128) (hd : decode code pc = .ok (.bipush n, 2)) (kk : LW k (pc + 2) ls (am_I n :: st) h g) : LW k pc ls st h g := by
  obtain ⟨p, l, e, s, m, below, meth, c, b, L, xs, dC, dI, cT, ad, ad2⟩ := k
  obtain ⟨C, ok⟩ := ok
  intro H locs lsC hP1 hP2 hS hL
  have he : (Int8.ofInt n).toInt32 = Int32.ofInt n := by rw [← Int32.toInt_inj, Int8.toInt_toInt32, Int8.toInt_ofInt_of_le (by omega) (by omega), am_toI (by omega)]
  exact lv_bipush C.1 C.2.1 hd he (kk H locs lsC hP1 hP2 hS hL)
theorem lr_iload {i : Fin 4} {v : Int} (ok : lc_ok k) (hd : decode code pc = .ok (.iload_n i, 1)) (hl : ls[(i : Nat)]? = some (some (am_I v))) (kk : LW k (pc + 1) ls (am_I v :: st) h g) : LW k pc ls st h g := by
  obtain ⟨p, l, e, s, m, below, meth, c, b, L, xs, dC, dI, cT, ad, ad2⟩ := k
  obtain ⟨C, ok⟩ := ok
  intro H locs lsC hP1 hP2 hS hL
  exact lv_iload_n C.1 C.2.1 hd rfl (hL.2.2 _ _ hl) (kk H locs lsC hP1 hP2 hS hL)
theorem lr_aload {i : Fin 4} {v : Int} (ok : lc_ok k) (hd : decode code pc = .ok (.aload_n i, 1)) (hl : ls[(i : Nat)]? = some (some (am_R v))) (kk : LW k (pc + 1) ls (am_R v :: st) h g) : LW k pc ls st h g := by
  obtain ⟨p, l, e, s, m, below, meth, c, b, L, xs, dC, dI, cT, ad, ad2⟩ := k
  obtain ⟨C, ok⟩ := ok
  intro H locs lsC hP1 hP2 hS hL
  exact lv_aload_n C.1 C.2.1 hd rfl (hL.2.2 _ _ hl) (kk H locs lsC hP1 hP2 hS hL)
theorem lr_iadd {a b : Int} (ok : lc_ok k) (hd : decode code pc = .ok (.iadd, 1)) (kk : LW k (pc + 1) ls (am_I (a + b) :: st) h g) : LW k pc ls (am_I b :: am_I a :: st) h g := by
  obtain ⟨p, l, e, s, m, below, meth, c, b, L, xs, dC, dI, cT, ad, ad2⟩ := k
  obtain ⟨C, ok⟩ := ok
  intro H locs lsC hP1 hP2 hS hL
  refine lv_iadd C.1 C.2.1 hd ?_
  rw [← Int32.ofInt_add]
  exact kk H locs lsC hP1 hP2 hS hL
theorem lr_isub {a b : Int} (ok : lc_ok k) (hd : decode code pc = .ok (.isub, 1)) (kk : LW k (pc + 1) ls (am_I (a - b) :: st) h g) : LW k pc ls (am_I b :: am_I a :: st) h g := by
  obtain ⟨p, l, e, s, m, below, meth, c, b, L, xs, dC, dI, cT, ad, ad2⟩ := k
  obtain ⟨C, ok⟩ := ok
  intro H locs lsC hP1 hP2 hS hL
  refine lv_isub C.1 C.2.1 hd ?_
  rw [← Int32.ofInt_sub]
  exact kk H locs lsC hP1 hP2 hS hL
theorem lr_iand {a b : Int} (ok : lc_ok k) (hd : decode code pc = .ok (.iand, 1)) (kk : LW k (pc + 1) ls (am_I (am_and a b) :: st) h g) : LW k pc ls (am_I b :: am_I a :: st) h g := by
  obtain ⟨p, l, e, s, m, below, meth, c, b, L, xs, dC, dI, cT, ad, ad2⟩ := k
  obtain ⟨C, ok⟩ := ok
  intro H locs lsC hP1 hP2 hS hL
  refine lv_iand C.1 C.2.1 hd ?_
  have K := kk H locs lsC hP1 hP2 hS hL
  rw [List.map_cons, am_cv, am_and, Int32.ofInt_toInt] at K
  exact K
theorem lr_slen (ok : lc_ok k) (hd : decode code pc = .ok (.arraylength, 1)) (kk : LW k (pc + 1) ls (am_I (lc_L k) :: st) h g) : LW k pc ls (am_R 2 :: st) h g := by
  obtain ⟨p, l, e, s, m, below, meth, c, b, L, xs, dC, dI, cT, ad, ad2⟩ := k
  obtain ⟨C, ok⟩ := ok
  obtain ⟨hx, hb, hr, hml, hown, hts, hX, hbl, hlocks, hgv⟩ := C
  intro H locs lsC hP1 hP2 hS hL
  refine va_slen hx hb hX hbl (Nat.not_le.mpr hbl) hS hd ?_
  have K := kk H locs lsC hP1 hP2 hS hL
  have e1 : Int32.ofNat L = Int32.ofInt ((L : Nat) : Int) := Int32.ofInt_eq_ofNat.symm
  rw [e1]
  exact K
theorem lr_sld {j : Int} (ok : lc_ok k) (hj : 0 ≤ j ∧ j < lc_L k) (hd : decode code pc = .ok (.iaload, 1)) (kk : LW k (pc + 1) ls (am_I (lc_x k j) :: st) h g) : LW k pc ls (am_I j :: am_R 2 :: st) h g := by
  obtain ⟨p, l, e, s, m, below, meth, c, b, L, xs, dC, dI, cT, ad, ad2⟩ := k
  obtain ⟨C, ok2, ok⟩ := ok
  obtain ⟨hx, hb, hr, hml, hown, hts, hX, hbl, hlocks, hgv⟩ := C
  intro H locs lsC hP1 hP2 hS hL
  have hj2 : 0 ≤ j ∧ j < (L : Int) := hj
  have en0 : ((j.toNat : Nat) : Int) = j := by omega
  have en : Int32.ofInt j = nI j.toNat := by rw [← bt_nI, en0]
  have hin : vp_in (Int32.ofInt j) L := by rw [en]; exact vp_in_nI (by omega) (by omega)
  refine va_sld hx hb hX hbl (Nat.not_le.mpr hbl) hS hin hd ?_
  have K := kk H locs lsC hP1 hP2 hS hL
  have e2 : (Int32.ofInt j).toNatClampNeg = j.toNat := by rw [en]; exact nI_clamp (by omega)
  rw [e2]
  have e3 : am_cv (lw_ad ad ad2 b) (am_I (lc_x (p, l, e, s, m, below, meth, c, b, L, xs, dC, dI, cT, ad, ad2) j)) = .int (xs j.toNat) := by
    show Value.int (Int32.ofInt (xs j.toNat).toInt) = _
    rw [Int32.ofInt_toInt]
  rw [List.map_cons, e3] at K
  exact K
theorem lr_goto {off : Int} {tgt : Nat} (ok : lc_ok k) (hd : decode code pc = .ok (.goto off, 3)) (ht : (pc : Int) + off = (tgt : Int)) (kk : LW k tgt ls st h g) : LW k pc ls st h g := by
  obtain ⟨p, l, e, s, m, below, meth, c, b, L, xs, dC, dI, cT, ad, ad2⟩ := k
  obtain ⟨C, ok⟩ := ok
  intro H locs lsC hP1 hP2 hS hL
  exact lv_goto C.1 C.2.1 hd ht (kk H locs lsC hP1 hP2 hS hL)
theorem lr_gt {a b off : Int} {tgt : Nat} (ok : lc_ok k) (hd : decode code pc = .ok (.if_icmp .gt off, 3)) (ht : (pc : Int) + off = (tgt : Int)) (ha : -2147483648 ≤ a ∧ a < 2147483648) (hb : -2147483648 ≤ b ∧ b < 2147483648) (kt : b < a → LW k tgt ls st h g) (kf : ¬ b < a → LW k (pc + 3) ls st h g) : LW k pc ls (am_I b :: am_I a :: st) h g := by
  obtain ⟨p, l, e, s, m, below, meth, c, b, L, xs, dC, dI, cT, ad, ad2⟩ := k
  obtain ⟨C, ok⟩ := ok
  intro H locs lsC hP1 hP2 hS hL
  exact lv_icmp_gt C.1 C.2.1 hd ht (fun q => kt ((am_lt hb ha).mp q) H locs lsC hP1 hP2 hS hL) (fun q => kf (fun z => q ((am_lt hb ha).mpr z)) H locs lsC hP1 hP2 hS hL)
theorem lr_eqI {a off : Int} {tgt : Nat} (ok : lc_ok k) (hd : decode code pc = .ok (.if_icmp .eq off, 3)) (ht : (pc : Int) + off = (tgt : Int)) (kk : LW k tgt ls st h g) : LW k pc ls (am_I a :: am_I a :: st) h g := by
  obtain ⟨p, l, e, s, m, below, meth, c, b, L, xs, dC, dI, cT, ad, ad2⟩ := k
  obtain ⟨C, ok⟩ := ok
  intro H locs lsC hP1 hP2 hS hL
  exact lv_icmp_eq C.1 C.2.1 hd ht (fun _ => kk H locs lsC hP1 hP2 hS hL) (fun q => absurd rfl q)
theorem lr_eqJ {a off : Int} {tgt : Nat} (ok : lc_ok k) (hd : decode code pc = .ok (.lcmp, 1)) (hd2 : decode code (pc + 1) = .ok (.ifCond .eq off, 3)) (ht : ((pc + 1 : Nat) : Int) + off = (tgt : Int)) (kk : LW k tgt ls st h g) : LW k pc ls (am_J a :: am_J a :: st) h g := by
  obtain ⟨p, l, e, s, m, below, meth, c, b, L, xs, dC, dI, cT, ad, ad2⟩ := k
  obtain ⟨C, ok⟩ := ok
  intro H locs lsC hP1 hP2 hS hL
  refine W.lcmp C.1 C.2.1 hd ?_
  have e0 : lg_cmp (Int64.ofInt a) (Int64.ofInt a) = 0 := by unfold lg_cmp; simp
  rw [e0]
  exact lv_if_eq C.1 C.2.1 hd2 ht (fun _ => kk H locs lsC hP1 hP2 hS hL) (fun q => absurd rfl q)
theorem lr_swIn {a dflt lo hi off : Int} {offs : Array Int} {len tgt : Nat} (ok : lc_ok k) (hd : decode code pc = .ok (.tableswitch dflt lo hi offs, len)) (ha : -2147483648 ≤ a ∧ a < 2147483648) (h1 : ¬ a < lo) (h2 : ¬ hi < a) (ho : offs[(a - lo).toNat]? = some off) (ht : (pc : Int) + off = (tgt : Int)) (kk : LW k tgt ls st h g) : LW k pc ls (am_I a :: st) h g := by
  obtain ⟨p, l, e, s, m, below, meth, c, b, L, xs, dC, dI, cT, ad, ad2⟩ := k
  obtain ⟨C, ok⟩ := ok
  intro H locs lsC hP1 hP2 hS hL
  exact lv_tableIn C.1 C.2.1 hd (by rw [am_toI ha]; exact h1) (by rw [am_toI ha]; exact h2) (by rw [am_toI ha]; exact ho) ht (kk H locs lsC hP1 hP2 hS hL)
theorem lr_swOut {a dflt lo hi : Int} {offs : Array Int} {len tgt : Nat} (ok : lc_ok k) (hd : decode code pc = .ok (.tableswitch dflt lo hi offs, len)) (ha : -2147483648 ≤ a ∧ a < 2147483648) (hx : a < lo ∨ hi < a) (ht : (pc : Int) + dflt = (tgt : Int)) (kk : LW k tgt ls st h g) : LW k pc ls (am_I a :: st) h g := by
  obtain ⟨p, l, e, s, m, below, meth, c, b, L, xs, dC, dI, cT, ad, ad2⟩ := k
  obtain ⟨C, ok⟩ := ok
  intro H locs lsC hP1 hP2 hS hL
  exact lv_tableOut C.1 C.2.1 hd (by rw [am_toI ha]; exact hx) ht (kk H locs lsC hP1 hP2 hS hL)
end LAWROWS
