theorem pLoop_t {f : Int → Int} {sz : Int} : ∀ (n : Nat) (q : am_H), (pLoop f sz n q).1 = true → 1 < (pLoop f sz n q).2 0 1
  | 0, q, h => by exact absurd h (by show ¬ (false : Bool) = true; decide)
  | n + 1, q, h => by
    have e : pLoop f sz (n + 1) q = if sz ≤ q 0 0 then (decide (1 < q 0 1), q) else if (pItem f sz q).1 = true then pLoop f sz n (pSkip f sz (pItem f sz q).2) else (false, (pItem f sz q).2) := rfl
    rw [e] at h ⊢
    by_cases c : sz ≤ q 0 0
    · rw [if_pos c] at h ⊢
      exact of_decide_eq_true h
    · rw [if_neg c] at h ⊢
      by_cases d : (pItem f sz q).1 = true
      · rw [if_pos d] at h ⊢
        exact pLoop_t n _ h
      · rw [if_neg d] at h
        exact absurd h (by show ¬ (false : Bool) = true; decide)
def spX (g q h0 h1 h' : am_H) : Prop := (∀ c : Int, c < 15 ∨ (26 < c ∧ c < 42) ∨ 58 < c → ¬ c = 39 → ¬ c = 60 → ¬ c = 68 → ¬ c = 72 → ¬ c = 73 → ¬ c = 74 → h' c = h0 c) ∧ (∀ c : Int, 15 ≤ c → c ≤ 58 → ¬ c = 39 → h' c = h1 c) ∧ h' 60 4 = -1 ∧ h' 68 2 = 0 ∧ h' 68 3 = 0
theorem sp_C {g q h0 h1 h' : am_H} (hC : CRel h0 g) (hs : MVs (spF g q)) (hR : SpR h1 (spF g q)) (hO : OlR h1 (spF g q)) (hx : spX g q h0 h1 h') (hk : ∀ j : Int, 0 ≤ j → j ≤ 2 → h' (72 + j) 2 = -1) : CRel h' (spF g q) := by
  obtain ⟨x1, x2, x3, x4, x5⟩ := hx
  refine ⟨hC.r.cong (fun c a b => x1 c (by omega) (by omega) (by omega) (by omega) (by omega) (by omega) (by omega)) rfl rfl, hC.t.cong (fun c a b => x1 c (by omega) (by omega) (by omega) (by omega) (by omega) (by omega) (by omega)) rfl rfl, ⟨hR.of (fun c a b => x2 c a (by omega) (by omega)), fun _ => hO.eh hs (fun c a b => x2 c (by omega) b (by omega))⟩, ⟨x4, by rw [x5]; show (0 : Int) = cv 0; decide, fun i a b => ?_⟩, fun k a b => ⟨fun _ => hk k a b, fun z => ?_⟩, hC.f.cong (fun k a b => by rw [x1 0 (by omega) (by decide) (by decide) (by decide) (by decide) (by decide) (by decide)]) (x1 81 (by omega) (by decide) (by decide) (by decide) (by decide) (by decide) (by decide)) (fun k a b => ?_) rfl, ?_⟩
  · have : i < 0 := b
    omega
  · have e : spF g q 24 k = 0 := by
      show lo 3 (fun _ => 0) (g 24) k = 0
      unfold lo; rw [if_pos (by omega)]
    rw [e] at z; exact absurd z (by decide)
  · show (if k = 6 then q 0 1 else if k = 10 then q 0 2 else if k = 15 then q 0 3 else if k = 18 then 0 else if k = 19 then 0 else g 0 k) = g 0 k
    rw [if_neg (by omega), if_neg (by omega), if_neg (by omega), if_neg (by omega), if_neg (by omega)]
  · exact ⟨by rw [x3]; decide, fun z => by rw [x3] at z; exact absurd z (by decide), fun z => by rw [x3] at z; exact absurd z (by decide)⟩
theorem lp_X7_speech {g q h0 h1 : am_H} {t x2 : Int} {sz : Int} (hC : CRel h0 g) (hV : PV sz q) (hn : 1 < q 0 1) (hR : SpR h1 (spF g q)) (hO : OlR h1 (spF g q)) : ∀ (m i : Nat) (h' : am_H), (i : Int) ≤ 3 → 3 - (i : Int) < m → spX g q h0 h1 h' → (∀ j : Int, 0 ≤ j → j < i → h' (72 + j) 2 = -1) → AW GC mX7_speech 7 (QC (q 0 1, spF g q)) 90 [some (am_R 0), some (am_I t), some (am_I x2), some (am_I i)] [] h' := by
  intro m
  induction m with
  | zero => intro i h' h1 h2; omega
  | succ m ih =>
    intro i h' h1 h2 hx hk
    by_cases hi : (i : Int) < 3
    · obtain ⟨a, b, hkd⟩ := kdK (k := i) (by omega) hi
      refine aw_iload_n dX7_speech_90 rfl ?_
      refine aw_iconst dX7_speech_91 ?_
      refine aw_icmp_ge (tgt := 111) dX7_speech_92 rfl (by omega) (by omega) (fun hc92 => ?_) (fun hc92 => ?_)
      · omega
      · refine aw_aload_n dX7_speech_95 rfl ?_
        refine aw_getR (kx := 11) fl_X7_75 dX7_speech_96 rfl rfl rfl ?_
        refine aw_iload_n dX7_speech_99 rfl ?_
        first | refine aw_aaload4 dX7_speech_100 rfl (by decide) (by omega) ?_ | refine aw_aaload5 dX7_speech_100 rfl (by decide) (by omega) ?_ | refine aw_aaload6 dX7_speech_100 rfl (by decide) (by omega) ?_
        refine aw_iconst dX7_speech_101 ?_
        refine aw_putI (kx := 2) fp_X7_92 dX7_speech_102 hkd rfl rfl ?_
        refine aw_iinc3 dX7_speech_105 (by decide) rfl ?_
        refine aw_goto (tgt := 90) dX7_speech_108 rfl ?_
        obtain ⟨x1, x2, x3, x4, x5⟩ := hx
        refine ih (i + 1) _ (by omega) (by omega) ⟨fun c a b d e f g k => ?_, fun c a b d => ?_, ?_, ?_, ?_⟩ (fun j a b => ?_)
        · rw [am_set_c (by omega)]; exact x1 c a b d e f g k
        · rw [am_set_c (by omega)]; exact x2 c a b d
        · rw [am_set_c (by omega)]; exact x3
        · rw [am_set_c (by omega)]; exact x4
        · rw [am_set_c (by omega)]; exact x5
        · by_cases e : j = i
          · rw [e, am_set_s]
          · rw [am_set_c (by omega)]; exact hk j a (by omega)
    · have C := sp_C hC (sp_MVs (g := g) hV hn) hR hO hx (fun j a b => hk j a (by omega))
      refine aw_iload_n dX7_speech_90 rfl ?_
      refine aw_iconst dX7_speech_91 ?_
      refine aw_icmp_ge (tgt := 111) dX7_speech_92 rfl (by omega) (by omega) (fun hc92 => ?_) (fun hc92 => ?_)
      · refine aw_aload_n dX7_speech_111 rfl ?_
        refine aw_getR (kx := 4) fl_X7_29 dX7_speech_112 rfl rfl rfl ?_
        refine aw_getI (kx := 0) fl_X7_150 dX7_speech_115 rfl rfl rfl ?_
        refine aw_iretQ dX7_speech_118 rfl ?_
        exact qc_mk C.s.1.1.1 C
      · omega
theorem c_X7_speech {h g : am_H} {t : Int} (hC : CRel h g) (hV : MOK g) (hr : -2147483648 ≤ t ∧ t < 2147483648) : AMet GC mX7_speech 7 [am_R 0, am_I t] h (QC (S_speech g t)) := by
  have hlr := trS_rng g t
  have h1 : ¬ (trS g t).1 = 0 → S_speech g t = trS g t := by
    intro z
    unfold trS at z ⊢
    unfold S_speech
    by_cases e : ¬ (0 ≤ t ∧ t ≤ 3)
    · rw [if_pos e, if_pos e]
    · rw [if_neg e] at z
      rw [if_neg e, if_neg e]
      by_cases e2 : g 3 t < 0
      · rw [if_pos e2, if_pos e2]
      · rw [if_neg e2] at z; exact absurd rfl z
  refine am_start [some (am_R 0), some (am_I t), none, none] rfl rfl (by decide) (Nat.le_of_ble_eq_true rfl) ?_
  by_cases e : (pT g t).1 = true
  · refine aw_aload_n dX7_speech_0 rfl ?_
    refine aw_iload_n dX7_speech_1 rfl ?_
    refine aw_cV1I (c_X7_textRefusalC hC hV (by omega)) lk_X7_134 dX7_speech_2 (by decide) rfl rfl (fun _ => Nat.le_of_ble_eq_true rfl) (fun v2 h2 q2 => ?_)
    refine aw_istore_2 dX7_speech_5 (by decide) rfl ?_
    refine aw_iload_n dX7_speech_6 rfl ?_
    refine aw_if_eq (tgt := 12) dX7_speech_7 rfl (by omega) (fun hc7 => ?_) (fun hc7 => ?_)
    · obtain ⟨k1, k2, k3⟩ := trS_0 (g := g) (r := t) (by omega)
      have q2c := q2.2
      rw [k3] at q2c
      have hz6 := hV.t.1 t k1.1 k1.2
      rw [S_speech, if_neg (by omega), if_neg (by omega), if_pos e]
      refine aw_aload_n dX7_speech_12 rfl ?_
      refine aw_getR (kx := 6) fl_X7_41 dX7_speech_13 rfl rfl rfl ?_
      refine aw_aload_n dX7_speech_16 rfl ?_
      refine aw_getR (kx := 2) fl_X7_20 dX7_speech_17 rfl rfl rfl ?_
      refine aw_iload_n dX7_speech_20 rfl ?_
      first | refine aw_aaload4 dX7_speech_21 rfl (by decide) (by omega) ?_ | refine aw_aaload5 dX7_speech_21 rfl (by decide) (by omega) ?_ | refine aw_aaload6 dX7_speech_21 rfl (by decide) (by omega) ?_
      refine aw_aload_n dX7_speech_22 rfl ?_
      refine aw_getR (kx := 3) fl_X7_23 dX7_speech_23 rfl rfl rfl ?_
      refine aw_iload_n dX7_speech_26 rfl ?_
      refine aw_iaload dX7_speech_27 rfl (by decide) (by omega) ?_
      refine aw_top (q2c.t.2 t k1.1 k1.2) ?_
      refine aw_aload_n dX7_speech_28 rfl ?_
      refine aw_getR (kx := 5) fl_X7_33 dX7_speech_29 rfl rfl rfl ?_
      refine aw_cV3I (c_X4_faultOf_27 k1 ⟨k2, hz6.2⟩ (tx_f q2c hV k1)) lk_X7_137 dX7_speech_32 (by decide) rfl rfl (fun _ => Nat.le_of_ble_eq_true rfl) (fun v32 h32 q32 => ?_)
      have C32 : CRel h32 g := q2c.ofX hV.s (fun c a => q32.2.1 c (by omega) (by omega))
      refine aw_top (q32.1.trans (if_pos e)) ?_
      refine aw_bipush (by decide) dX7_speech_35 ?_
      refine aw_icmp_eq (tgt := 43) dX7_speech_37 rfl (by omega) (by omega) (fun hc37 => ?_) (fun hc37 => ?_)
      · refine aw_aload_n dX7_speech_43 rfl ?_
        refine aw_getR (kx := 6) fl_X7_41 dX7_speech_44 rfl rfl rfl ?_
        refine aw_aload_n dX7_speech_47 rfl ?_
        refine aw_getR (kx := 2) fl_X7_20 dX7_speech_48 rfl rfl rfl ?_
        refine aw_iload_n dX7_speech_51 rfl ?_
        first | refine aw_aaload4 dX7_speech_52 rfl (by decide) (by omega) ?_ | refine aw_aaload5 dX7_speech_52 rfl (by decide) (by omega) ?_ | refine aw_aaload6 dX7_speech_52 rfl (by decide) (by omega) ?_
        refine aw_aload_n dX7_speech_53 rfl ?_
        refine aw_getR (kx := 3) fl_X7_23 dX7_speech_54 rfl rfl rfl ?_
        refine aw_iload_n dX7_speech_57 rfl ?_
        refine aw_iaload dX7_speech_58 rfl (by decide) (by omega) ?_
        refine aw_top (C32.t.2 t k1.1 k1.2) ?_
        refine aw_aload_n dX7_speech_59 rfl ?_
        refine aw_getR (kx := 4) fl_X7_29 dX7_speech_60 rfl rfl rfl ?_
        refine aw_cV3I (c_X4_faultOf_15 k1 ⟨k2, hz6.2⟩ (tx_f C32 hV k1)) lk_X7_137 dX7_speech_63 (by decide) rfl rfl (fun _ => Nat.le_of_ble_eq_true rfl) (fun v63 h63 q63 => ?_)
        refine aw_popI dX7_speech_66 ?_
        have hPV : PV (g 3 t) (pT g t).2 := pAll_PV ⟨k2, hz6.2⟩
        have hn1 : 1 < (pT g t).2 0 1 := pLoop_t 82 _ e
        have hR63 : SpR h63 (spF g (pT g t).2) := sp_SpR q63.2.2.2.2.2
        refine aw_aload_n dX7_speech_67 rfl ?_
        refine aw_getR (kx := 7) fl_X7_48 dX7_speech_68 rfl rfl rfl ?_
        refine aw_cV0V (c_X2_study (sp_MVs (g := g) hPV hn1) hR63) lk_X7_141 dX7_speech_71 (by decide) rfl rfl (fun _ => Nat.le_of_ble_eq_true rfl) (fun h71 q71 => ?_)
        refine aw_aload_n dX7_speech_74 rfl ?_
        refine aw_getR (kx := 8) fl_X7_57 dX7_speech_75 rfl rfl rfl ?_
        refine aw_cV0VF c_X3_forget lk_X7_144 dX7_speech_78 (by decide) rfl rfl (fun _ => Nat.le_of_ble_eq_true rfl) ?_
        refine aw_aload_n dX7_speech_81 rfl ?_
        refine aw_getR (kx := 10) fl_X7_71 dX7_speech_82 rfl rfl rfl ?_
        refine aw_cV0VF c_X6_restart lk_X7_147 dX7_speech_85 (by decide) rfl rfl (fun _ => Nat.le_of_ble_eq_true rfl) ?_
        refine aw_iconst dX7_speech_88 ?_
        refine aw_istore_3 dX7_speech_89 (by decide) rfl ?_
        refine lp_X7_speech (h0 := h32) (h1 := h71) C32 hPV hn1 (hR63.of (fun c a b => q71.1 c (by omega))) q71.2 5 0 _ (by omega) (by omega) ⟨fun c a b d f i j k => ?_, fun c a b d => ?_, ?_, ?_, ?_⟩ (fun j a b => by omega)
        · rw [am_set_c f, am_set_c f, am_set_c d, q71.1 c (by omega)]; exact q63.2.1 c b (by omega)
        · rw [am_set_c (by omega), am_set_c (by omega), am_set_c (by omega)]
        · rw [am_set_c (by decide), am_set_c (by decide), am_set_s]
        · rw [am_set_i (by decide), am_set_s]
        · rw [am_set_s]
      · omega
    · refine aw_iload_n dX7_speech_10 rfl ?_
      refine aw_iretQ dX7_speech_11 rfl ?_
      rw [h1 (by omega)]; exact q2
  · have hnn9 : (0 ≤ t ∧ t ≤ 3) → 0 ≤ g 3 t → 0 ≤ (pT g t).2 0 0 ∧ (pT g t).2 0 0 ≤ 80 := by
      intro a b
      have := (pAll_PV (f := fun j => g 4 (80 * t + j)) (sz := g 3 t) ⟨b, (hV.t.1 t a.1 a.2).2⟩).1
      exact ⟨this.1, by have h2 := this.2.1; have h3 := this.2.2; exact Int.le_trans h2 h3⟩
    refine aw_aload_n dX7_speech_0 rfl ?_
    refine aw_iload_n dX7_speech_1 rfl ?_
    refine aw_cV1I (c_X7_textRefusalC hC hV (by omega)) lk_X7_134 dX7_speech_2 (by decide) rfl rfl (fun _ => Nat.le_of_ble_eq_true rfl) (fun v2 h2 q2 => ?_)
    refine aw_istore_2 dX7_speech_5 (by decide) rfl ?_
    refine aw_iload_n dX7_speech_6 rfl ?_
    refine aw_if_eq (tgt := 12) dX7_speech_7 rfl (by omega) (fun hc7 => ?_) (fun hc7 => ?_)
    · obtain ⟨k1, k2, k3⟩ := trS_0 (g := g) (r := t) (by omega)
      have q2c := q2.2
      rw [k3] at q2c
      have hz6 := hV.t.1 t k1.1 k1.2
      have hp9 := hnn9 k1 k2
      rw [S_speech, if_neg (by omega), if_neg (by omega), if_neg e]
      refine aw_aload_n dX7_speech_12 rfl ?_
      refine aw_getR (kx := 6) fl_X7_41 dX7_speech_13 rfl rfl rfl ?_
      refine aw_aload_n dX7_speech_16 rfl ?_
      refine aw_getR (kx := 2) fl_X7_20 dX7_speech_17 rfl rfl rfl ?_
      refine aw_iload_n dX7_speech_20 rfl ?_
      first | refine aw_aaload4 dX7_speech_21 rfl (by decide) (by omega) ?_ | refine aw_aaload5 dX7_speech_21 rfl (by decide) (by omega) ?_ | refine aw_aaload6 dX7_speech_21 rfl (by decide) (by omega) ?_
      refine aw_aload_n dX7_speech_22 rfl ?_
      refine aw_getR (kx := 3) fl_X7_23 dX7_speech_23 rfl rfl rfl ?_
      refine aw_iload_n dX7_speech_26 rfl ?_
      refine aw_iaload dX7_speech_27 rfl (by decide) (by omega) ?_
      refine aw_top (q2c.t.2 t k1.1 k1.2) ?_
      refine aw_aload_n dX7_speech_28 rfl ?_
      refine aw_getR (kx := 5) fl_X7_33 dX7_speech_29 rfl rfl rfl ?_
      refine aw_cV3I (c_X4_faultOf_27 k1 ⟨k2, hz6.2⟩ (tx_f q2c hV k1)) lk_X7_137 dX7_speech_32 (by decide) rfl rfl (fun _ => Nat.le_of_ble_eq_true rfl) (fun v32 h32 q32 => ?_)
      have C32 : CRel h32 g := q2c.ofX hV.s (fun c a => q32.2.1 c (by omega) (by omega))
      have hv32 : v32 = (pT g t).2 0 0 := q32.1.trans (if_neg e)
      refine aw_bipush (by decide) dX7_speech_35 ?_
      refine aw_icmp_eq (tgt := 43) dX7_speech_37 rfl (by omega) (by omega) (fun hc37 => ?_) (fun hc37 => ?_)
      · omega
      · refine aw_bipush (by decide) dX7_speech_40 ?_
        refine aw_iretQ dX7_speech_42 rfl ?_
        exact qc_mk rfl C32
    · refine aw_iload_n dX7_speech_10 rfl ?_
      refine aw_iretQ dX7_speech_11 rfl ?_
      rw [h1 (by omega)]; exact q2
