/-- the lines that begin so (last word first), k words longer at most, in the order of nextLine -/
def trL (g : am_H) : Nat → List Int → List (List Int)
  | 0, P => [P]
  | k + 1, P => P :: (wl (g 7) (liE g P) (nwN g)).flatMap (fun w => trL g k (w :: P))
/-- what follows behind all lines that begin so -/
def aftL (g : am_H) (n : Nat) : List Int → List (List Int)
  | [] => []
  | w :: P => (wu (g 7) (liE g P) (g 0 10 - (w + 1)).toNat (w + 1)).flatMap (fun v => trL g (n - P.length - 1) (v :: P)) ++ aftL g n P
def rst (g : am_H) (n : Nat) (P : List Int) : List (List Int) := (if P.length < n then (wl (g 7) (liE g P) (nwN g)).flatMap (fun w => trL g (n - P.length - 1) (w :: P)) else []) ++ aftL g n P
theorem tr_rst {g : am_H} {n : Nat} {P : List Int} (h : P.length ≤ n) : trL g (n - P.length) P ++ aftL g n P = P :: rst g n P := by
  unfold rst
  by_cases e : P.length < n
  · rw [if_pos e]
    obtain ⟨k, hk⟩ : ∃ k, n - P.length = k + 1 := ⟨n - P.length - 1, by omega⟩
    rw [hk, trL, Nat.add_sub_cancel]; rfl
  · rw [if_neg e, show n - P.length = 0 by omega]; rfl
theorem rst_sib {g : am_H} {n : Nat} {P : List Int} {k : Int} {f : Int} {j : Nat} (h : P.length < n) (hw : wu (g 7) (liE g P) j f = k :: wu (g 7) (liE g P) (g 0 10 - (k + 1)).toNat (k + 1)) : (wu (g 7) (liE g P) j f).flatMap (fun v => trL g (n - P.length - 1) (v :: P)) ++ aftL g n P = (k :: P) :: rst g n (k :: P) := by
  rw [← tr_rst (P := k :: P) (by show P.length + 1 ≤ n; omega), hw, List.flatMap_cons, List.append_assoc]
  show trL g (n - P.length - 1) (k :: P) ++ _ = trL g (n - (P.length + 1)) (k :: P) ++ aftL g n (k :: P)
  rw [aftL, Nat.sub_sub]
def NQ (g : am_H) (n : Nat) (R : List (List Int)) (v : Int) (g2 : am_H) : Prop := (R = [] ∧ v = 0 ∧ AgL g g2) ∨ ∃ P : List Int, R = P :: rst g n P ∧ v = 1 ∧ LinI g g2 P ∧ P.length ≤ n
def NQ2 (g : am_H) (n : Nat) (R : List (List Int)) (F : Int → Int) (v : Int) (g2 : am_H) : Prop := NQ g n R v g2 ∧ g2 36 = F
theorem liA_set {f f2 : Int → Int} : ∀ P : List Int, liA f P → (∀ i : Int, i < P.length → f2 i = f i) → liA f2 P
  | [], _, _ => trivial
  | w :: P, h, he => ⟨by rw [he _ (by show (P.length : Int) < ((P.length + 1 : Nat) : Int); omega)]; exact h.1, liA_set P h.2 (fun i hi => he i (by show i < ((P.length + 1 : Nat) : Int); omega))⟩
theorem lp_X8_nextLine {g : am_H} {n : Int} {F : Int → Int} (hs : MVs g) (hy : MVy g) (h0 : ¬ g 0 6 = 0) (hn : 0 ≤ n ∧ n ≤ 8) {x3 : Int} : ∀ (P : List Int) (k : Int) (g' : am_H), g' 36 = F → LinI g g' P → (P.length : Int) ≤ n → (k = 14 ∨ ((0 ≤ k ∧ k < g 0 10) ∧ g 7 k = liE g P ∧ (P.length : Int) < n)) → AW GM mX8_nextLine 2 (am_QI (NQ2 g n.toNat (if k = 14 then aftL g n.toNat P else (k :: P) :: rst g n.toNat (k :: P)) F)) 63 [some (am_R 0), some (am_I n), some (am_I 0), some (am_I x3), some (am_I k)] [] g' := by
  have hw := hs.2.1
  have hnn := hs.1
  have push : ∀ (P : List Int) (k : Int) (g' : am_H), g' 36 = F → LinI g g' P → ((0 ≤ k ∧ k < g 0 10) ∧ g 7 k = liE g P ∧ (P.length : Int) < n) → AW GM mX8_nextLine 2 (am_QI (NQ2 g n.toNat (if k = 14 then aftL g n.toNat P else (k :: P) :: rst g n.toNat (k :: P)) F)) 130 [some (am_R 0), some (am_I n), some (am_I 0), some (am_I x3), some (am_I k)] [] g' := by
    intro P k g' hFt hI hk
    obtain ⟨ha, hm, hl, hv⟩ := hI
    have hq : ∀ (v : Int), v = P.length → NQ2 g n.toNat (if k = 14 then aftL g n.toNat P else (k :: P) :: rst g n.toNat (k :: P)) F 1 (am_set (am_set g' 35 v k) 0 48 (v + 1)) := by
      intro v hv2
      subst hv2
      rw [if_neg (by omega)]
      refine ⟨?_, by rw [am_set_c (by decide), am_set_c (by decide)]; exact hFt⟩
      refine Or.inr ⟨k :: P, rfl, rfl, ⟨(ha.setL (Or.inl rfl)).set0, ?_, ⟨?_, liA_set P hl (fun i hi => ?_)⟩, ⟨hk.1, hk.2.1, hv⟩⟩, ?_⟩
      · rw [am_set_s]; rfl
      · rw [am_set_c (by decide), am_set_s]
      · rw [am_set_c (by decide), am_set_i (by omega)]
      · show P.length + 1 ≤ n.toNat; omega
    refine aw_aload_n dX8_nextLine_130 rfl ?_
    refine aw_getR (kx := 47) fl_X8_118 dX8_nextLine_131 rfl rfl rfl ?_
    refine aw_aload_n dX8_nextLine_134 rfl ?_
    refine aw_getI (kx := 48) fl_X8_335 dX8_nextLine_135 rfl rfl rfl ?_
    refine aw_iload dX8_nextLine_138 rfl ?_
    refine aw_iastore dX8_nextLine_140 rfl (by decide) (by omega) ?_
    refine aw_aload_n dX8_nextLine_141 rfl ?_
    first | refine aw_dupR dX8_nextLine_142 ?_ | refine aw_dupI dX8_nextLine_142 ?_
    refine aw_getI (kx := 48) fl_X8_335 dX8_nextLine_143 rfl rfl rfl ?_
    rw [am_set_c (c := 35) (x := 0) (by decide)]
    refine aw_iconst dX8_nextLine_146 ?_
    refine aw_iadd dX8_nextLine_147 ?_
    refine aw_putI (kx := 48) fp_X8_335 dX8_nextLine_148 rfl rfl rfl ?_
    refine aw_iconst dX8_nextLine_151 ?_
    refine aw_zretQ dX8_nextLine_152 rfl (by omega) ?_
    exact hq _ hm
  intro P
  induction P with
  | nil =>
    intro k g' hFt hI hle hk
    have hm0 : g' 0 48 = 0 := hI.2.1
    refine aw_iload dX8_nextLine_63 rfl ?_
    refine aw_bipush (by decide) dX8_nextLine_65 ?_
    refine aw_icmp_lt (tgt := 121) dX8_nextLine_67 rfl (by omega) (by omega) (fun hc67 => ?_) (fun hc67 => ?_)
    · refine aw_iload dX8_nextLine_121 rfl ?_
      refine aw_bipush (by decide) dX8_nextLine_123 ?_
      refine aw_icmp_lt (tgt := 130) dX8_nextLine_125 rfl (by omega) (by omega) (fun hc125 => ?_) (fun hc125 => ?_)
      · exact push [] k g' hFt hI (by omega)
      · omega
    · refine aw_aload_n dX8_nextLine_70 rfl ?_
      refine aw_getI (kx := 48) fl_X8_335 dX8_nextLine_71 rfl rfl rfl ?_
      refine aw_if_le (tgt := 121) dX8_nextLine_74 rfl (by omega) (fun hc74 => ?_) (fun hc74 => ?_)
      · refine aw_iload dX8_nextLine_121 rfl ?_
        refine aw_bipush (by decide) dX8_nextLine_123 ?_
        refine aw_icmp_lt (tgt := 130) dX8_nextLine_125 rfl (by omega) (by omega) (fun hc125 => ?_) (fun hc125 => ?_)
        · omega
        · refine aw_iconst dX8_nextLine_128 ?_
          refine aw_zretQ dX8_nextLine_129 rfl (by omega) ?_
          rw [if_pos (by omega)]; exact ⟨Or.inl ⟨rfl, rfl, hI.1⟩, hFt⟩
      · omega
  | cons w P ih =>
    intro k g' hFt hI hle hk
    have hI0 := hI
    obtain ⟨ha, hm, hl, hv⟩ := hI
    have hm1 : g' 0 48 = (P.length : Int) + 1 := hm
    have hle1 : (P.length : Int) + 1 ≤ n := hle
    have hl1 : g' 35 P.length = w := hl.1
    have hwv := hv.1
    have hwf := hv.2.1
    have hdone : (0 ≤ k ∧ k < g 0 10) ∧ g 7 k = liE g (w :: P) ∧ (((w :: P).length : Nat) : Int) < n → AW GM mX8_nextLine 2 (am_QI (NQ2 g n.toNat (if k = 14 then aftL g n.toNat (w :: P) else (k :: w :: P) :: rst g n.toNat (k :: w :: P)) F)) 130 [some (am_R 0), some (am_I n), some (am_I 0), some (am_I x3), some (am_I k)] [] g' := push (w :: P) k g' hFt hI0
    have hI2 : LinI g (am_set g' 0 48 (P.length : Int)) P := ⟨ha.set0, am_set_s _ _ _ _, by rw [am_set_c (by decide)]; exact hl.2, hv.2.2⟩
    have el : am_set g' 0 48 (P.length : Int) 35 (am_set g' 0 48 (P.length : Int) 0 48) = w := by rw [am_set_s, am_set_c (by decide)]; exact hl1
    have ef : am_set g' 0 48 (P.length : Int) 7 w = liE g P := by rw [hI2.1.1 7 (by decide) (by decide) (by decide)]; exact hwf
    have heP := liE_rng hs hy h0 P hv.2.2
    have es : am_set g' 0 48 (P.length : Int) 0 48 = (P.length : Int) := am_set_s _ _ _ _
    have hs2 := hI2.1.vs hs
    have e0w : am_set g' 0 48 (P.length : Int) 0 10 = g 0 10 := hI2.1.2 _ (by decide)
    have e7 : am_set g' 0 48 (P.length : Int) 7 = g 7 := hI2.1.1 7 (by decide) (by decide) (by decide)
    have em : g' 0 48 - 1 = (P.length : Int) := by omega
    have aft : k = 14 → ∀ q : Int, q = nxF (g 7) (liE g P) (g 0 10 - (w + 1)).toNat (w + 1) → AW GM mX8_nextLine 2 (am_QI (NQ2 g n.toNat (if k = 14 then aftL g n.toNat (w :: P) else (k :: w :: P) :: rst g n.toNat (k :: w :: P)) F)) 63 [some (am_R 0), some (am_I n), some (am_I 0), some (am_I x3), some (am_I q)] [] (am_set g' 0 48 (P.length : Int)) := by
      intro hk14 q hq
      have hr := nxF_rng (g 7) (liE g P) (g 0 10 - (w + 1)).toNat (w + 1) (by omega)
      rw [← hq] at hr
      have hR : (if k = 14 then aftL g n.toNat (w :: P) else (k :: w :: P) :: rst g n.toNat (k :: w :: P)) = (if q = 14 then aftL g n.toNat P else (q :: P) :: rst g n.toNat (q :: P)) := by
        rw [if_pos hk14]
        rcases hr with ⟨r1, r2⟩ | ⟨r1, r2, r3, r4⟩
        · rw [if_pos r1, aftL, r2]; rfl
        · rw [if_neg (by omega), aftL]
          refine rst_sib (by omega) ?_
          rw [show g 0 10 - (q + 1) = w + 1 + ((g 0 10 - (w + 1)).toNat : Nat) - (q + 1) by omega]
          exact r4
      rw [hR]
      refine ih q _ (by rw [am_set_c (by decide)]; exact hFt) hI2 (by omega) ?_
      rcases hr with ⟨r1, r2⟩ | ⟨r1, r2, r3, r4⟩
      · exact Or.inl r1
      · exact Or.inr ⟨by omega, r3, by omega⟩
    refine aw_iload dX8_nextLine_63 rfl ?_
    refine aw_bipush (by decide) dX8_nextLine_65 ?_
    refine aw_icmp_lt (tgt := 121) dX8_nextLine_67 rfl (by omega) (by omega) (fun hc67 => ?_) (fun hc67 => ?_)
    · refine aw_iload dX8_nextLine_121 rfl ?_
      refine aw_bipush (by decide) dX8_nextLine_123 ?_
      refine aw_icmp_lt (tgt := 130) dX8_nextLine_125 rfl (by omega) (by omega) (fun hc125 => ?_) (fun hc125 => ?_)
      · exact hdone (by omega)
      · omega
    · refine aw_aload_n dX8_nextLine_70 rfl ?_
      refine aw_getI (kx := 48) fl_X8_335 dX8_nextLine_71 rfl rfl rfl ?_
      refine aw_if_le (tgt := 121) dX8_nextLine_74 rfl (by omega) (fun hc74 => ?_) (fun hc74 => ?_)
      · omega
      · refine aw_aload_n dX8_nextLine_77 rfl ?_
        first | refine aw_dupR dX8_nextLine_78 ?_ | refine aw_dupI dX8_nextLine_78 ?_
        refine aw_getI (kx := 48) fl_X8_335 dX8_nextLine_79 rfl rfl rfl ?_
        refine aw_iconst dX8_nextLine_82 ?_
        refine aw_isub dX8_nextLine_83 ?_
        refine aw_top em ?_
        refine aw_putI (kx := 48) fp_X8_335 dX8_nextLine_84 rfl rfl rfl ?_
        refine aw_aload_n dX8_nextLine_87 rfl ?_
        refine aw_aload_n dX8_nextLine_88 rfl ?_
        refine aw_getR (kx := 7) fl_X8_28 dX8_nextLine_89 rfl rfl rfl ?_
        refine aw_aload_n dX8_nextLine_92 rfl ?_
        refine aw_getR (kx := 47) fl_X8_118 dX8_nextLine_93 rfl rfl rfl ?_
        refine aw_aload_n dX8_nextLine_96 rfl ?_
        refine aw_getI (kx := 48) fl_X8_335 dX8_nextLine_97 rfl rfl rfl ?_
        refine aw_iaload dX8_nextLine_100 rfl (by decide) (by omega) ?_
        refine aw_top el ?_
        refine aw_iaload dX8_nextLine_101 rfl (by decide) (by omega) ?_
        refine aw_top ef ?_
        refine aw_aload_n dX8_nextLine_102 rfl ?_
        refine aw_getR (kx := 47) fl_X8_118 dX8_nextLine_103 rfl rfl rfl ?_
        refine aw_aload_n dX8_nextLine_106 rfl ?_
        refine aw_getI (kx := 48) fl_X8_335 dX8_nextLine_107 rfl rfl rfl ?_
        refine aw_iaload dX8_nextLine_110 rfl (by decide) (by omega) ?_
        refine aw_top el ?_
        refine aw_iconst dX8_nextLine_111 ?_
        refine aw_iadd dX8_nextLine_112 ?_
        refine aw_cV2IF (c_X8_nextFrom hs2 (by omega) (by omega)) lk_X8_338 dX8_nextLine_113 (by decide) rfl rfl (fun _ => Nat.le_of_ble_eq_true rfl) ?_
        rw [e7, e0w]
        refine aw_istore4 dX8_nextLine_116 (by decide) rfl ?_
        refine aw_goto (tgt := 63) dX8_nextLine_118 rfl ?_
        exact aft (by omega) _ rfl
theorem c_X8_nextLine {g g' : am_H} {n : Int} {P : List Int} (hs : MVs g) (hy : MVy g) (h0 : ¬ g 0 6 = 0) (hn : 0 ≤ n ∧ n ≤ 8) (hI : LinI g g' P) (hle : (P.length : Int) ≤ n) : AMet GM mX8_nextLine 2 [am_R 0, am_I n, am_I 0] g' (am_QI (NQ2 g n.toNat (rst g n.toNat P) (g' 36))) := by
  have hw := hs.2.1
  have hnn := hs.1
  have hm := hI.2.1
  have ha := hI.1
  have he := liE_rng hs hy h0 P hI.2.2.2
  have hs2 := ha.vs hs
  have e0w : g' 0 10 = g 0 10 := ha.2 _ (by decide)
  have e7 : g' 7 = g 7 := ha.1 7 (by decide) (by decide) (by decide)
  have e8 : g' 8 = g 8 := ha.1 8 (by decide) (by decide) (by decide)
  have go : ∀ x : Int, x = liE g P → AW GM mX8_nextLine 2 (am_QI (NQ2 g n.toNat (rst g n.toNat P) (g' 36))) 41 [some (am_R 0), some (am_I n), some (am_I 0), none, none] [am_I x] g' := by
    intro x hx
    subst hx
    have hr := nxF_rng (g 7) (liE g P) (g 0 10 - 0).toNat 0 (by omega)
    have en : (g 0 10 - 0).toNat = nwN g := by unfold nwN; omega
    have enn : (nwN g : Int) = g 0 10 := by unfold nwN; omega
    rw [en] at hr
    refine aw_istore_3 dX8_nextLine_41 (by decide) rfl ?_
    refine aw_aload_n dX8_nextLine_42 rfl ?_
    refine aw_getI (kx := 48) fl_X8_335 dX8_nextLine_43 rfl rfl rfl ?_
    refine aw_iload_n dX8_nextLine_46 rfl ?_
    refine aw_icmp_ge (tgt := 59) dX8_nextLine_47 rfl (by omega) (by omega) (fun hc47 => ?_) (fun hc47 => ?_)
    · refine aw_bipush (by decide) dX8_nextLine_59 ?_
      refine aw_istore4 dX8_nextLine_61 (by decide) rfl ?_
      have := lp_X8_nextLine (x3 := liE g P) hs hy h0 hn P 14 g' rfl hI hle (Or.inl rfl)
      rw [if_pos rfl] at this
      rw [rst, if_neg (by omega), List.nil_append]
      exact this
    · refine aw_aload_n dX8_nextLine_50 rfl ?_
      refine aw_iload_n dX8_nextLine_51 rfl ?_
      refine aw_iconst dX8_nextLine_52 ?_
      refine aw_cV2IF (c_X8_nextFrom hs2 (by omega) (by omega)) lk_X8_338 dX8_nextLine_53 (by decide) rfl rfl (fun _ => Nat.le_of_ble_eq_true rfl) ?_
      refine aw_goto (tgt := 61) dX8_nextLine_56 rfl ?_
      rw [e7, e0w, en]
      refine aw_istore4 dX8_nextLine_61 (by decide) rfl ?_
      have h1 := lp_X8_nextLine (x3 := liE g P) hs hy h0 hn P (nxF (g 7) (liE g P) (nwN g) 0) g' rfl hI hle (by
        rcases hr with ⟨r1, r2⟩ | ⟨r1, r2, r3, r4⟩
        · exact Or.inl r1
        · exact Or.inr ⟨by omega, r3, by omega⟩)
      have hR : rst g n.toNat P = (if nxF (g 7) (liE g P) (nwN g) 0 = 14 then aftL g n.toNat P else (nxF (g 7) (liE g P) (nwN g) 0 :: P) :: rst g n.toNat (nxF (g 7) (liE g P) (nwN g) 0 :: P)) := by
        rw [rst, if_pos (by omega), wl_wu]
        rcases hr with ⟨r1, r2⟩ | ⟨r1, r2, r3, r4⟩
        · rw [if_pos r1, r2]; rfl
        · rw [if_neg (by omega)]
          refine rst_sib (by omega) ?_
          rw [show g 0 10 - (nxF (g 7) (liE g P) (nwN g) 0 + 1) = 0 + ((nwN g : Nat) : Int) - (nxF (g 7) (liE g P) (nwN g) 0 + 1) by omega]
          exact r4
      rw [hR]
      exact h1
  refine am_start [some (am_R 0), some (am_I n), some (am_I 0), none, none] rfl rfl (by decide) (Nat.le_of_ble_eq_true rfl) ?_
  cases P with
  | nil =>
    have hm0 : g' 0 48 = 0 := hm
    refine aw_iload_n dX8_nextLine_0 rfl ?_
    refine aw_if_eq (tgt := 11) dX8_nextLine_1 rfl (by omega) (fun hc1 => ?_) (fun hc1 => ?_)
    · refine aw_aload_n dX8_nextLine_11 rfl ?_
      refine aw_getI (kx := 48) fl_X8_335 dX8_nextLine_12 rfl rfl rfl ?_
      refine aw_if_ne (tgt := 25) dX8_nextLine_15 rfl (by omega) (fun hc15 => ?_) (fun hc15 => ?_)
      · omega
      · refine aw_aload_n dX8_nextLine_18 rfl ?_
        refine aw_cV0IF (c_X8_whereNow hs2 (ha.vy hy)) lk_X8_274 dX8_nextLine_19 (by decide) rfl rfl (fun _ => Nat.le_of_ble_eq_true rfl) ?_
        refine aw_goto (tgt := 41) dX8_nextLine_22 rfl ?_
        exact go _ ha.now
    · omega
  | cons w P =>
    have hm1 : g' 0 48 = (P.length : Int) + 1 := hm
    have hl1 : g' 35 P.length = w := hI.2.2.1.1
    have hle1 : (P.length : Int) + 1 ≤ n := hle
    have hwv := hI.2.2.2.1
    have em : g' 35 (g' 0 48 - 1) = w := by rw [hm1, Int.add_sub_cancel]; exact hl1
    refine aw_iload_n dX8_nextLine_0 rfl ?_
    refine aw_if_eq (tgt := 11) dX8_nextLine_1 rfl (by omega) (fun hc1 => ?_) (fun hc1 => ?_)
    · refine aw_aload_n dX8_nextLine_11 rfl ?_
      refine aw_getI (kx := 48) fl_X8_335 dX8_nextLine_12 rfl rfl rfl ?_
      refine aw_if_ne (tgt := 25) dX8_nextLine_15 rfl (by omega) (fun hc15 => ?_) (fun hc15 => ?_)
      · refine aw_aload_n dX8_nextLine_25 rfl ?_
        refine aw_getR (kx := 8) fl_X8_31 dX8_nextLine_26 rfl rfl rfl ?_
        refine aw_aload_n dX8_nextLine_29 rfl ?_
        refine aw_getR (kx := 47) fl_X8_118 dX8_nextLine_30 rfl rfl rfl ?_
        refine aw_aload_n dX8_nextLine_33 rfl ?_
        refine aw_getI (kx := 48) fl_X8_335 dX8_nextLine_34 rfl rfl rfl ?_
        refine aw_iconst dX8_nextLine_37 ?_
        refine aw_isub dX8_nextLine_38 ?_
        refine aw_iaload dX8_nextLine_39 rfl (by decide) (by omega) ?_
        refine aw_top em ?_
        refine aw_iaload dX8_nextLine_40 rfl (by decide) (by omega) ?_
        exact go _ (by rw [e8]; rfl)
      · omega
    · omega
theorem c_X8_nextLine1 {g g' : am_H} {n : Int} (ha : AgL g g') : AMet GM mX8_nextLine 2 [am_R 0, am_I n, am_I 1] g' (am_QI (fun v g2 => v = 1 ∧ LinI g g2 [])) := by
  refine am_start [some (am_R 0), some (am_I n), some (am_I 1), none, none] rfl rfl (by decide) (Nat.le_of_ble_eq_true rfl) ?_
  refine aw_iload_n dX8_nextLine_0 rfl ?_
  refine aw_if_eq (tgt := 11) dX8_nextLine_1 rfl (by omega) (fun hc1 => ?_) (fun hc1 => ?_)
  · omega
  · refine aw_aload_n dX8_nextLine_4 rfl ?_
    refine aw_iconst dX8_nextLine_5 ?_
    refine aw_putI (kx := 48) fp_X8_335 dX8_nextLine_6 rfl rfl rfl ?_
    refine aw_iconst dX8_nextLine_9 ?_
    refine aw_zretQ dX8_nextLine_10 rfl (by omega) ?_
    exact ⟨rfl, ha.set0, am_set_s _ _ _ _, trivial, trivial⟩
theorem c_X8_nextLine1b {g g' : am_H} {n : Int} (ha : AgL g g') : AMet GM mX8_nextLine 2 [am_R 0, am_I n, am_I 1] g' (am_QI (fun v g2 => v = 1 ∧ LinI g g2 [] ∧ g2 36 = g' 36)) := by
  refine am_start [some (am_R 0), some (am_I n), some (am_I 1), none, none] rfl rfl (by decide) (Nat.le_of_ble_eq_true rfl) ?_
  refine aw_iload_n dX8_nextLine_0 rfl ?_
  refine aw_if_eq (tgt := 11) dX8_nextLine_1 rfl (by omega) (fun hc1 => ?_) (fun hc1 => ?_)
  · omega
  · refine aw_aload_n dX8_nextLine_4 rfl ?_
    refine aw_iconst dX8_nextLine_5 ?_
    refine aw_putI (kx := 48) fp_X8_335 dX8_nextLine_6 rfl rfl rfl ?_
    refine aw_iconst dX8_nextLine_9 ?_
    refine aw_zretQ dX8_nextLine_10 rfl (by omega) ?_
    exact ⟨rfl, ⟨ha.set0, am_set_s _ _ _ _, trivial, trivial⟩, am_set_c (by decide)⟩
