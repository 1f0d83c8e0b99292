theorem lp_X7_soundsRefusal {h g : am_H} {r x2 : Int} (hC : CRel h g) (hV : MOK g) (hr : 0 ≤ r ∧ r ≤ 5) (hz : 0 ≤ g 1 r ∧ g 1 r ≤ 8) : ∀ (m i : Nat) (x4 : Option am_V), (i : Int) ≤ g 1 r → g 1 r - i < m → sdB g r i = true → AW GC mX7_soundsRefusal 3 (QC (if sdB g r (g 1 r).toNat = true then (0, g) else (-3, findF g 3))) 14 [some (am_R 0), some (am_I r), some (am_I x2), some (am_I i), x4] [] h := by
  have hz2 := hC.r.2 r hr.1 hr.2
  intro m
  induction m with
  | zero => intro i x4 h1 h2; omega
  | succ m ih =>
    intro i x4 h1 h2 hb
    have hk := hV.r.2 (40 * r + i)
    have nxt : ∀ y4 : Option am_V, (i : Int) < g 1 r → (g 2 (40 * r + i) = -9 ∨ (0 ≤ g 2 (40 * r + i) ∧ g 2 (40 * r + i) ≤ 9)) → AW GC mX7_soundsRefusal 3 (QC (if sdB g r (g 1 r).toNat = true then (0, g) else (-3, findF g 3))) 14 [some (am_R 0), some (am_I r), some (am_I x2), some (am_I (i + 1 : Nat)), y4] [] h := by
      intro y4 hlt hc
      exact ih (i + 1) y4 (by omega) (by omega) (by unfold sdB; rw [hb, decide_eq_true hc]; rfl)
    by_cases hi : (i : Int) < g 1 r
    · have er := hC.r.1 r i hr.1 hr.2 (by omega) (by omega)
      refine aw_iload_n dX7_soundsRefusal_14 rfl ?_
      refine aw_aload_n dX7_soundsRefusal_15 rfl ?_
      refine aw_getR (kx := 1) fl_X7_14 dX7_soundsRefusal_16 rfl rfl rfl ?_
      refine aw_iload_n dX7_soundsRefusal_19 rfl ?_
      refine aw_iaload dX7_soundsRefusal_20 rfl (by decide) (by omega) ?_
      refine aw_icmp_ge (tgt := 65) dX7_soundsRefusal_21 rfl (by omega) (by omega) (fun hc21 => ?_) (fun hc21 => ?_)
      · omega
      · refine aw_aload_n dX7_soundsRefusal_24 rfl ?_
        refine aw_getR (kx := 0) fl_X7_11 dX7_soundsRefusal_25 rfl rfl rfl ?_
        refine aw_iload_n dX7_soundsRefusal_28 rfl ?_
        first | refine aw_aaload4 dX7_soundsRefusal_29 rfl (by decide) (by omega) ?_ | refine aw_aaload5 dX7_soundsRefusal_29 rfl (by decide) (by omega) ?_ | refine aw_aaload6 dX7_soundsRefusal_29 rfl (by decide) (by omega) ?_
        refine aw_iload_n dX7_soundsRefusal_30 rfl ?_
        refine aw_iaload dX7_soundsRefusal_31 (by exact kdR hr.1 (by omega)) (by decide) (by omega) ?_
        refine aw_top er ?_
        refine aw_istore4 dX7_soundsRefusal_32 (by decide) rfl ?_
        refine aw_iload dX7_soundsRefusal_34 rfl ?_
        refine aw_bipush (by decide) dX7_soundsRefusal_36 ?_
        refine aw_icmp_eq (tgt := 59) dX7_soundsRefusal_38 rfl (by omega) (by omega) (fun hc38 => ?_) (fun hc38 => ?_)
        · refine aw_iinc3 dX7_soundsRefusal_59 (by decide) rfl ?_
          refine aw_goto (tgt := 14) dX7_soundsRefusal_62 rfl ?_
          exact nxt _ (by omega) (by omega)
        · refine aw_iload dX7_soundsRefusal_41 rfl ?_
          refine aw_if_lt (tgt := 53) dX7_soundsRefusal_43 rfl (by omega) (fun hc43 => ?_) (fun hc43 => ?_)
          · refine aw_aload_n dX7_soundsRefusal_53 rfl ?_
            refine aw_iconst dX7_soundsRefusal_54 ?_
            refine aw_cV1IF (c_X7_found (by omega)) lk_X7_100 dX7_soundsRefusal_55 (by decide) rfl rfl (fun _ => Nat.le_of_ble_eq_true rfl) ?_
            refine aw_iretQ dX7_soundsRefusal_58 rfl ?_
            rw [if_neg (fun z => by have := (sdB_iff g r _).mp z i (by omega); omega)]; exact ⟨rfl, hC.found hV.s (by decide)⟩
          · refine aw_iload dX7_soundsRefusal_46 rfl ?_
            refine aw_bipush (by decide) dX7_soundsRefusal_48 ?_
            refine aw_icmp_lt (tgt := 59) dX7_soundsRefusal_50 rfl (by omega) (by omega) (fun hc50 => ?_) (fun hc50 => ?_)
            · refine aw_iinc3 dX7_soundsRefusal_59 (by decide) rfl ?_
              refine aw_goto (tgt := 14) dX7_soundsRefusal_62 rfl ?_
              exact nxt _ (by omega) (by omega)
            · refine aw_aload_n dX7_soundsRefusal_53 rfl ?_
              refine aw_iconst dX7_soundsRefusal_54 ?_
              refine aw_cV1IF (c_X7_found (by omega)) lk_X7_100 dX7_soundsRefusal_55 (by decide) rfl rfl (fun _ => Nat.le_of_ble_eq_true rfl) ?_
              refine aw_iretQ dX7_soundsRefusal_58 rfl ?_
              rw [if_neg (fun z => by have := (sdB_iff g r _).mp z i (by omega); omega)]; exact ⟨rfl, hC.found hV.s (by decide)⟩
    · refine aw_iload_n dX7_soundsRefusal_14 rfl ?_
      refine aw_aload_n dX7_soundsRefusal_15 rfl ?_
      refine aw_getR (kx := 1) fl_X7_14 dX7_soundsRefusal_16 rfl rfl rfl ?_
      refine aw_iload_n dX7_soundsRefusal_19 rfl ?_
      refine aw_iaload dX7_soundsRefusal_20 rfl (by decide) (by omega) ?_
      refine aw_icmp_ge (tgt := 65) dX7_soundsRefusal_21 rfl (by omega) (by omega) (fun hc21 => ?_) (fun hc21 => ?_)
      · refine aw_iconst dX7_soundsRefusal_65 ?_
        refine aw_iretQ dX7_soundsRefusal_66 rfl ?_
        rw [if_pos (show sdB g r (g 1 r).toNat = true by rw [show (g 1 r).toNat = i by omega]; exact hb)]; exact ⟨rfl, hC⟩
      · omega
theorem c_X7_soundsRefusal {h g : am_H} {r : Int} (hC : CRel h g) (hV : MOK g) (hr : -2147483648 ≤ r ∧ r < 2147483648) : AMet GC mX7_soundsRefusal 3 [am_R 0, am_I r] h (QC (ssS g r)) := by
  have hrr := srS_rng g r
  have h1 : ¬ (srS g r).1 = 0 → ssS g r = srS g r := by
    intro z
    unfold srS at z ⊢
    unfold ssS
    by_cases e : ¬ (0 ≤ r ∧ r ≤ 5)
    · rw [if_pos e, if_pos e]
    · rw [if_neg e] at z
      rw [if_neg e, if_neg e]
      have := lkR_rng g r
      rw [lsR, if_pos (by omega)]
  refine am_start [some (am_R 0), some (am_I r), none, none, none] rfl rfl (by decide) (Nat.le_of_ble_eq_true rfl) ?_
  refine aw_aload_n dX7_soundsRefusal_0 rfl ?_
  refine aw_iload_n dX7_soundsRefusal_1 rfl ?_
  refine aw_cV1I (c_X7_sentenceRefusal hC hV (by omega)) lk_X7_303 dX7_soundsRefusal_2 (by decide) rfl rfl (fun _ => Nat.le_of_ble_eq_true rfl) (fun v2 h2 q2 => ?_)
  refine aw_istore_2 dX7_soundsRefusal_5 (by decide) rfl ?_
  refine aw_iload_n dX7_soundsRefusal_6 rfl ?_
  refine aw_if_eq (tgt := 12) dX7_soundsRefusal_7 rfl (by omega) (fun hc7 => ?_) (fun hc7 => ?_)
  · refine aw_iconst dX7_soundsRefusal_12 ?_
    refine aw_istore_3 dX7_soundsRefusal_13 (by decide) rfl ?_
    obtain ⟨k1, k2, k3, k4, k5⟩ := srS_0 (g := g) (r := r) (by omega)
    have q2c := q2.2
    rw [k5] at q2c
    rw [ssS, if_neg (by omega), lsR, if_neg k2]
    exact lp_X7_soundsRefusal q2c hV k1 k4 10 0 _ (by omega) (by omega) rfl
  · refine aw_iload_n dX7_soundsRefusal_10 rfl ?_
    refine aw_iretQ dX7_soundsRefusal_11 rfl ?_
    rw [h1 (by omega)]; exact q2
theorem lp_X7_nodeBehind {h g : am_H} {r : Int} (hC : CRel h g) (hV : MOK g) (hr : 0 ≤ r ∧ r ≤ 5) (h0 : ¬ g 0 6 = 0) (hz : 0 ≤ g 1 r ∧ g 1 r ≤ 8) : ∀ (m i : Nat) (x4 : Option am_V), (i : Int) ≤ g 1 r → g 1 r - i < m → 0 ≤ rwE g r i → AW GC mX7_nodeBehind 2 (am_FI (if rwN g r < 0 then -1 else rwN g r) h) 7 [some (am_R 0), some (am_I r), some (am_I (rwE g r i)), some (am_I i), x4] [] h := by
  have hz2 := hC.r.2 r hr.1 hr.2
  have hw := hC.nn.2.1
  have hww := hV.s.2.1
  have hnn := hV.s.1
  intro m
  induction m with
  | zero => intro i x4 h1 h2; omega
  | succ m ih =>
    intro i x4 h1 h2 h3
    have hk := hV.r.2 (40 * r + i)
    have hrg := rwE_rng hV.s hV.y h0 r i
    have es : rwE g r (i + 1) = if (0 ≤ g 2 (40 * r + i) ∧ g 2 (40 * r + i) ≤ g 0 10 - 1) ∧ g 7 (g 2 (40 * r + i)) = rwE g r i then g 8 (g 2 (40 * r + i)) else -9 := by
      show rwS g _ (rwE g r i) = _
      rw [rwS, if_neg (by omega)]
    by_cases hi : (i : Int) < g 1 r
    · have er := hC.r.1 r i hr.1 hr.2 (by omega) (by omega)
      have hlast : (g 1 r).toNat = i + 1 + ((g 1 r).toNat - (i + 1)) := by omega
      have bad : ¬ ((0 ≤ g 2 (40 * r + i) ∧ g 2 (40 * r + i) ≤ g 0 10 - 1) ∧ g 7 (g 2 (40 * r + i)) = rwE g r i) → rwN g r < 0 := by
        intro z
        rw [if_neg z] at es
        have hb := rwE_neg (g := g) (r := r) (i := i + 1) (by omega) ((g 1 r).toNat - (i + 1))
        show rwE g r (g 1 r).toNat < 0
        rw [hlast, hb]; omega
      by_cases hg : 0 ≤ g 2 (40 * r + i) ∧ g 2 (40 * r + i) ≤ g 0 10 - 1
      · have hsp := hC.s.1.2.2.2.1 _ hg.1 (by omega)
        have hv := (hV.s.2.2.2.2.1 _ hg.1 (by omega)).1
        refine aw_iload_n dX7_nodeBehind_7 rfl ?_
        refine aw_aload_n dX7_nodeBehind_8 rfl ?_
        refine aw_getR (kx := 1) fl_X7_14 dX7_nodeBehind_9 rfl rfl rfl ?_
        refine aw_iload_n dX7_nodeBehind_12 rfl ?_
        refine aw_iaload dX7_nodeBehind_13 rfl (by decide) (by omega) ?_
        refine aw_icmp_ge (tgt := 69) dX7_nodeBehind_14 rfl (by omega) (by omega) (fun hc14 => ?_) (fun hc14 => ?_)
        · omega
        · refine aw_aload_n dX7_nodeBehind_17 rfl ?_
          refine aw_getR (kx := 0) fl_X7_11 dX7_nodeBehind_18 rfl rfl rfl ?_
          refine aw_iload_n dX7_nodeBehind_21 rfl ?_
          first | refine aw_aaload4 dX7_nodeBehind_22 rfl (by decide) (by omega) ?_ | refine aw_aaload5 dX7_nodeBehind_22 rfl (by decide) (by omega) ?_ | refine aw_aaload6 dX7_nodeBehind_22 rfl (by decide) (by omega) ?_
          refine aw_iload_n dX7_nodeBehind_23 rfl ?_
          refine aw_iaload dX7_nodeBehind_24 (by exact kdR hr.1 (by omega)) (by decide) (by omega) ?_
          refine aw_top er ?_
          refine aw_istore4 dX7_nodeBehind_25 (by decide) rfl ?_
          refine aw_aload_n dX7_nodeBehind_27 rfl ?_
          refine aw_iload dX7_nodeBehind_28 rfl ?_
          refine aw_cV1IF (c_X7_isNoWord (by omega) (by omega)) lk_X7_159 dX7_nodeBehind_30 (by decide) rfl rfl (fun _ => Nat.le_of_ble_eq_true rfl) ?_
          refine aw_ifb_ne (tgt := 50) dX7_nodeBehind_33 rfl (fun hc33 => ?_) (fun hc33 => ?_)
          · omega
          · refine aw_aload_n dX7_nodeBehind_36 rfl ?_
            refine aw_getR (kx := 4) fl_X7_29 dX7_nodeBehind_37 rfl rfl rfl ?_
            refine aw_getR (kx := 7) fl_X7_194 dX7_nodeBehind_40 rfl rfl rfl ?_
            refine aw_iload dX7_nodeBehind_43 rfl ?_
            refine aw_iaload dX7_nodeBehind_45 rfl (by decide) (by omega) ?_
            refine aw_top hsp.1 ?_
            refine aw_iload_n dX7_nodeBehind_46 rfl ?_
            refine aw_icmp_eq (tgt := 52) dX7_nodeBehind_47 rfl (by omega) (by omega) (fun hc47 => ?_) (fun hc47 => ?_)
            · refine aw_aload_n dX7_nodeBehind_52 rfl ?_
              refine aw_getR (kx := 4) fl_X7_29 dX7_nodeBehind_53 rfl rfl rfl ?_
              refine aw_getR (kx := 8) fl_X7_204 dX7_nodeBehind_56 rfl rfl rfl ?_
              refine aw_iload dX7_nodeBehind_59 rfl ?_
              refine aw_iaload dX7_nodeBehind_61 rfl (by decide) (by omega) ?_
              refine aw_top hsp.2.1 ?_
              refine aw_istore_2 dX7_nodeBehind_62 (by decide) rfl ?_
              refine aw_iinc3 dX7_nodeBehind_63 (by decide) rfl ?_
              refine aw_goto (tgt := 7) dX7_nodeBehind_66 rfl ?_
              rw [if_pos ⟨hg, hc47⟩] at es
              refine aw_ls ?_ (ih (i + 1) (some (am_I (g 2 (40 * r + i)))) (by omega) (by omega) (by rw [es]; omega))
              rw [es]; rfl
            · refine aw_iconst dX7_nodeBehind_50 ?_
              refine aw_iretF dX7_nodeBehind_51 rfl ?_
              exact ⟨by rw [if_pos (bad (fun z => hc47 z.2))], rfl⟩
      · refine aw_iload_n dX7_nodeBehind_7 rfl ?_
        refine aw_aload_n dX7_nodeBehind_8 rfl ?_
        refine aw_getR (kx := 1) fl_X7_14 dX7_nodeBehind_9 rfl rfl rfl ?_
        refine aw_iload_n dX7_nodeBehind_12 rfl ?_
        refine aw_iaload dX7_nodeBehind_13 rfl (by decide) (by omega) ?_
        refine aw_icmp_ge (tgt := 69) dX7_nodeBehind_14 rfl (by omega) (by omega) (fun hc14 => ?_) (fun hc14 => ?_)
        · omega
        · refine aw_aload_n dX7_nodeBehind_17 rfl ?_
          refine aw_getR (kx := 0) fl_X7_11 dX7_nodeBehind_18 rfl rfl rfl ?_
          refine aw_iload_n dX7_nodeBehind_21 rfl ?_
          first | refine aw_aaload4 dX7_nodeBehind_22 rfl (by decide) (by omega) ?_ | refine aw_aaload5 dX7_nodeBehind_22 rfl (by decide) (by omega) ?_ | refine aw_aaload6 dX7_nodeBehind_22 rfl (by decide) (by omega) ?_
          refine aw_iload_n dX7_nodeBehind_23 rfl ?_
          refine aw_iaload dX7_nodeBehind_24 (by exact kdR hr.1 (by omega)) (by decide) (by omega) ?_
          refine aw_top er ?_
          refine aw_istore4 dX7_nodeBehind_25 (by decide) rfl ?_
          refine aw_aload_n dX7_nodeBehind_27 rfl ?_
          refine aw_iload dX7_nodeBehind_28 rfl ?_
          refine aw_cV1IF (c_X7_isNoWord (by omega) (by omega)) lk_X7_159 dX7_nodeBehind_30 (by decide) rfl rfl (fun _ => Nat.le_of_ble_eq_true rfl) ?_
          refine aw_ifb_ne (tgt := 50) dX7_nodeBehind_33 rfl (fun hc33 => ?_) (fun hc33 => ?_)
          · refine aw_iconst dX7_nodeBehind_50 ?_
            refine aw_iretF dX7_nodeBehind_51 rfl ?_
            exact ⟨by rw [if_pos (bad (fun z => hg z.1))], rfl⟩
          · omega
    · have e : rwN g r = rwE g r i := by show rwE g r _ = _; rw [show (g 1 r).toNat = i by omega]
      refine aw_iload_n dX7_nodeBehind_7 rfl ?_
      refine aw_aload_n dX7_nodeBehind_8 rfl ?_
      refine aw_getR (kx := 1) fl_X7_14 dX7_nodeBehind_9 rfl rfl rfl ?_
      refine aw_iload_n dX7_nodeBehind_12 rfl ?_
      refine aw_iaload dX7_nodeBehind_13 rfl (by decide) (by omega) ?_
      refine aw_icmp_ge (tgt := 69) dX7_nodeBehind_14 rfl (by omega) (by omega) (fun hc14 => ?_) (fun hc14 => ?_)
      · refine aw_iload_n dX7_nodeBehind_69 rfl ?_
        refine aw_iretF dX7_nodeBehind_70 rfl ?_
        exact ⟨by rw [e, if_neg (by omega)], rfl⟩
      · omega
theorem c_X7_nodeBehind {h g : am_H} {r : Int} (hC : CRel h g) (hV : MOK g) (hr : 0 ≤ r ∧ r ≤ 5) (h0 : ¬ g 0 6 = 0) (hz : 0 ≤ g 1 r ∧ g 1 r ≤ 8) : AMet GC mX7_nodeBehind 2 [am_R 0, am_I r] h (am_FI (if rwN g r < 0 then -1 else rwN g r) h) := by
  have hnn := hV.s.1
  have hnow := now_rng hV.s hV.y
  refine am_start [some (am_R 0), some (am_I r), none, none, none] rfl rfl (by decide) (Nat.le_of_ble_eq_true rfl) ?_
  refine aw_aload_n dX7_nodeBehind_0 rfl ?_
  refine aw_cV0IF (c_X7_nodeNow hV.s hV.y hC.s.1 hC.y) lk_X7_197 dX7_nodeBehind_1 (by decide) rfl rfl (fun _ => Nat.le_of_ble_eq_true rfl) ?_
  refine aw_istore_2 dX7_nodeBehind_4 (by decide) rfl ?_
  refine aw_iconst dX7_nodeBehind_5 ?_
  refine aw_istore_3 dX7_nodeBehind_6 (by decide) rfl ?_
  exact lp_X7_nodeBehind hC hV hr h0 hz 10 0 _ (by omega) (by omega) (by show 0 ≤ nowF g; omega)
theorem c_X7_isToAnOver {h g : am_H} {r : Int} (hC : CRel h g) (hV : MOK g) (hr : 0 ≤ r ∧ r ≤ 5) (h0 : ¬ g 0 6 = 0) (hz : 0 ≤ g 1 r ∧ g 1 r ≤ 8) : AMet GC mX7_isToAnOver 3 [am_R 0, am_I r] h (am_FI (if ¬ (rwN g r < 0 ∨ ¬ dgF g (rwN g r) = 0) then 1 else 0) h) := by
  have hnn := hV.s.1
  have hrg : -9 ≤ rwN g r ∧ rwN g r < g 0 6 := rwE_rng hV.s hV.y h0 r (g 1 r).toNat
  refine am_start [some (am_R 0), some (am_I r), none] rfl rfl (by decide) (Nat.le_of_ble_eq_true rfl) ?_
  by_cases e : rwN g r < 0
  · refine aw_aload_n dX7_isToAnOver_0 rfl ?_
    refine aw_iload_n dX7_isToAnOver_1 rfl ?_
    refine aw_cV1IF (c_X7_nodeBehind hC hV hr h0 hz) lk_X7_338 dX7_isToAnOver_2 (by decide) rfl rfl (fun _ => Nat.le_of_ble_eq_true rfl) ?_
    refine aw_top (if_pos e) ?_
    refine aw_istore_2 dX7_isToAnOver_5 (by decide) rfl ?_
    refine aw_iload_n dX7_isToAnOver_6 rfl ?_
    refine aw_if_lt (tgt := 25) dX7_isToAnOver_7 rfl (by omega) (fun hc7 => ?_) (fun hc7 => ?_)
    · refine aw_iconst dX7_isToAnOver_25 ?_
      refine aw_zretF dX7_isToAnOver_26 rfl (by omega) ?_
      exact ⟨by rw [if_neg (fun z => z (Or.inl e))], rfl⟩
    · omega
  · refine aw_aload_n dX7_isToAnOver_0 rfl ?_
    refine aw_iload_n dX7_isToAnOver_1 rfl ?_
    refine aw_cV1IF (c_X7_nodeBehind hC hV hr h0 hz) lk_X7_338 dX7_isToAnOver_2 (by decide) rfl rfl (fun _ => Nat.le_of_ble_eq_true rfl) ?_
    refine aw_top (if_neg e) ?_
    refine aw_istore_2 dX7_isToAnOver_5 (by decide) rfl ?_
    refine aw_iload_n dX7_isToAnOver_6 rfl ?_
    refine aw_if_lt (tgt := 25) dX7_isToAnOver_7 rfl (by omega) (fun hc7 => ?_) (fun hc7 => ?_)
    · omega
    · refine aw_aload_n dX7_isToAnOver_10 rfl ?_
      refine aw_getR (kx := 4) fl_X7_29 dX7_isToAnOver_11 rfl rfl rfl ?_
      refine aw_iload_n dX7_isToAnOver_14 rfl ?_
      refine aw_cV1IF (c_X5_isOver hV.s hC.s.1 (by omega)) lk_X7_218 dX7_isToAnOver_15 (by decide) rfl rfl (fun _ => Nat.le_of_ble_eq_true rfl) ?_
      refine aw_ifb_eq (tgt := 25) dX7_isToAnOver_18 rfl (fun hc18 => ?_) (fun hc18 => ?_)
      · refine aw_iconst dX7_isToAnOver_25 ?_
        refine aw_zretF dX7_isToAnOver_26 rfl (by omega) ?_
        exact ⟨by rw [if_neg (fun z => z (Or.inr hc18))], rfl⟩
      · refine aw_iconst dX7_isToAnOver_21 ?_
        refine aw_goto (tgt := 26) dX7_isToAnOver_22 rfl ?_
        refine aw_zretF dX7_isToAnOver_26 rfl (by omega) ?_
        exact ⟨by rw [if_pos (fun z => z.elim e (fun y => y hc18))], rfl⟩
theorem lp_X7_longestOpenDeed {h g : am_H} (hC : CRel h g) (hV : MOK g) : ∀ (m i : Nat), (i : Int) ≤ g 0 15 → g 0 15 - i < m → AW GC mX7_longestOpenDeed 3 (am_FI (lgF (g 10) (g 0 19) (g 0 15).toNat) h) 4 [some (am_R 0), some (am_I (lgF (g 10) (g 0 19) i)), some (am_I i)] [] h := by
  have hd := hC.nn.2.2
  have hdd := hV.s.2.2.1
  have est : h 68 3 = cv (g 0 19) := hC.y.2.1
  intro m
  induction m with
  | zero => intro i h1 h2; omega
  | succ m ih =>
    intro i h1 h2
    have hlr := lgF_rng (sp := g 10) (of := g 0 19) i (fun d a b => (hV.s.2.2.2.2.2.2.2.1 d a (by omega)).1)
    have e1 : lgF (g 10) (g 0 19) (i + 1) = if hw (g 0 19) i < 2 ∧ lgF (g 10) (g 0 19) i < g 10 i then g 10 i else lgF (g 10) (g 0 19) i := rfl
    by_cases hi : (i : Int) < g 0 15
    · have hsp := (hC.s.1.2.2.2.2 i (by omega) hi).1
      have hsr := (hV.s.2.2.2.2.2.2.2.1 i (by omega) hi).1
      have hst := dst_hw hV.d.1 (d := i) ⟨by omega, by omega⟩
      have hhr := hw_rng (g 0 19) i
      refine aw_iload_n dX7_longestOpenDeed_4 rfl ?_
      refine aw_aload_n dX7_longestOpenDeed_5 rfl ?_
      refine aw_getR (kx := 4) fl_X7_29 dX7_longestOpenDeed_6 rfl rfl rfl ?_
      refine aw_getI (kx := 2) fl_X7_392 dX7_longestOpenDeed_9 rfl rfl rfl ?_
      refine aw_icmp_ge (tgt := 50) dX7_longestOpenDeed_12 rfl (by omega) (by omega) (fun hc12 => ?_) (fun hc12 => ?_)
      · omega
      · refine aw_aload_n dX7_longestOpenDeed_15 rfl ?_
        refine aw_getR (kx := 10) fl_X7_71 dX7_longestOpenDeed_16 rfl rfl rfl ?_
        refine aw_getI (kx := 3) fl_X7_207 dX7_longestOpenDeed_19 rfl rfl rfl ?_
        refine aw_top est ?_
        refine aw_iload_n dX7_longestOpenDeed_22 rfl ?_
        refine aw_cS2IF (c_X0_state) lk_X7_393 dX7_longestOpenDeed_23 (by decide) (fun _ => Nat.le_of_ble_eq_true rfl) ?_
        refine aw_top hst ?_
        refine aw_iconst dX7_longestOpenDeed_26 ?_
        refine aw_icmp_ge (tgt := 44) dX7_longestOpenDeed_27 rfl (by omega) (by omega) (fun hc27 => ?_) (fun hc27 => ?_)
        · refine aw_iinc2 dX7_longestOpenDeed_44 (by decide) rfl ?_
          refine aw_goto (tgt := 4) dX7_longestOpenDeed_47 rfl ?_
          rw [if_neg (by omega)] at e1
          refine aw_ls ?_ (ih (i + 1) (by omega) (by omega)); rw [e1]; rfl
        · refine aw_iload_n dX7_longestOpenDeed_30 rfl ?_
          refine aw_aload_n dX7_longestOpenDeed_31 rfl ?_
          refine aw_getR (kx := 4) fl_X7_29 dX7_longestOpenDeed_32 rfl rfl rfl ?_
          refine aw_getR (kx := 10) fl_X7_221 dX7_longestOpenDeed_35 rfl rfl rfl ?_
          refine aw_iload_n dX7_longestOpenDeed_38 rfl ?_
          refine aw_iaload dX7_longestOpenDeed_39 rfl (by decide) (by omega) ?_
          refine aw_top hsp ?_
          refine aw_cS2IF (c_J9_max (by omega) (by omega)) lk_X7_396 dX7_longestOpenDeed_40 (by decide) (fun _ => Nat.le_of_ble_eq_true rfl) ?_
          refine aw_istore_1 dX7_longestOpenDeed_43 (by decide) rfl ?_
          refine aw_iinc2 dX7_longestOpenDeed_44 (by decide) rfl ?_
          refine aw_goto (tgt := 4) dX7_longestOpenDeed_47 rfl ?_
          refine aw_ls ?_ (ih (i + 1) (by omega) (by omega))
          have e2 : lgF (g 10) (g 0 19) (i + 1) = if lgF (g 10) (g 0 19) i < g 10 i then g 10 i else lgF (g 10) (g 0 19) i := by
            rw [e1]
            by_cases c : lgF (g 10) (g 0 19) i < g 10 i
            · rw [if_pos c, if_pos ⟨by omega, c⟩]
            · rw [if_neg c, if_neg (fun z => c z.2)]
          rw [e2]; rfl
    · refine aw_iload_n dX7_longestOpenDeed_4 rfl ?_
      refine aw_aload_n dX7_longestOpenDeed_5 rfl ?_
      refine aw_getR (kx := 4) fl_X7_29 dX7_longestOpenDeed_6 rfl rfl rfl ?_
      refine aw_getI (kx := 2) fl_X7_392 dX7_longestOpenDeed_9 rfl rfl rfl ?_
      refine aw_icmp_ge (tgt := 50) dX7_longestOpenDeed_12 rfl (by omega) (by omega) (fun hc12 => ?_) (fun hc12 => ?_)
      · refine aw_iload_n dX7_longestOpenDeed_50 rfl ?_
        refine aw_iretF dX7_longestOpenDeed_51 rfl ?_
        exact ⟨by rw [show (g 0 15).toNat = i by omega], rfl⟩
      · omega
theorem c_X7_longestOpenDeed {h g : am_H} (hC : CRel h g) (hV : MOK g) : AMet GC mX7_longestOpenDeed 3 [am_R 0] h (am_FI (lgF (g 10) (g 0 19) (g 0 15).toNat) h) := by
  have hdd := hV.s.2.2.1
  refine am_start [some (am_R 0), none, none] rfl rfl (by decide) (Nat.le_of_ble_eq_true rfl) ?_
  refine aw_iconst dX7_longestOpenDeed_0 ?_
  refine aw_istore_1 dX7_longestOpenDeed_1 (by decide) rfl ?_
  refine aw_iconst dX7_longestOpenDeed_2 ?_
  refine aw_istore_2 dX7_longestOpenDeed_3 (by decide) rfl ?_
  exact lp_X7_longestOpenDeed hC hV 6 0 (by omega) (by omega)
