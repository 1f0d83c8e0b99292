/-! the planner: a value function that solves her recursion, a memory that holds nothing else -/
def pMIN : Int := -1000000
def PmO (hB g : am_H) (D : Int → Prop) (Val : Int → Int → Int) (h : am_H) : Prop := (∀ c : Int, ¬ c = 61 → h c = hB c) ∧ ∀ x of : Int, D x → VS of → h 61 (x * 621 + ix (cv of)) = -1000000 ∨ h 61 (x * 621 + ix (cv of)) = Val x of
theorem PmO.sp {hB g h : am_H} {D : Int → Prop} {Val : Int → Int → Int} (a : PmO hB g D Val h) (hR : SpR hB g) : SpR h g := hR.of (fun c p q => a.1 c (by omega))
theorem PmO.ol {hB g h : am_H} {D : Int → Prop} {Val : Int → Int → Int} (a : PmO hB g D Val h) (hn : g 0 6 ≤ 9) (hO : OlR hB g) : OlR h g := hO.of hn (fun c p q => a.1 c (by omega))
def pvL (g : am_H) (Val : Int → Int → Int) (x of : Int) (L : List Int) : Int := L.foldl (fun s k => if Val (g 8 k) of < s then Val (g 8 k) of else s) 1000000
def pvM (g : am_H) (Val : Int → Int → Int) (x of : Int) (L : List Int) : Int := L.foldl (fun s k => s + Val (g 8 k) of * wgt g x (g 8 k)) 0
/-- the value once a word is said from x -/
def pvO (g : am_H) (aim : Int) (fs : Int → Int) (Val : Int → Int → Int) (x of : Int) : Int := if aim = 2 then Val (fs x) (gon (g 5 x) of) else if aim = 1 then pvM g Val x (gon (g 5 x) of) (wl (g 7) x (nwN g)) else pvL g Val x (gon (g 5 x) of) (wl (g 7) x (nwN g))
def pvS (g : am_H) (aim : Int) (fs : Int → Int) (Val : Int → Int → Int) (x of : Int) (s d : Int) : Int := if cbg of d then (if s < pvO g aim fs Val x (bgw (g 10 d) of d) then pvO g aim fs Val x (bgw (g 10 d) of d) else s) else s
/-- what is asked of the value function -/
def pvOK (g : am_H) (aim : Int) (fs : Int → Int) (D : Int → Prop) (Val : Int → Int → Int) : Prop := (∀ x : Int, D x → 0 ≤ x ∧ x < g 0 6) ∧ (∀ x of : Int, D x → VS of → dgF g x = 0 → Val x of = gain g x of * (if aim = 1 then ltP g x else 1)) ∧ (∀ x of : Int, D x → VS of → ¬ dgF g x = 0 → Val x of = (dsL (g 0 15).toNat).foldl (pvS g aim fs Val x of) (pvO g aim fs Val x of)) ∧ (∀ x : Int, D x → ¬ dgF g x = 0 → (aim = 2 → D (fs x) ∧ x < fs x) ∧ (¬ aim = 2 → ∀ k : Int, k ∈ wl (g 7) x (nwN g) → D (g 8 k))) ∧ (∀ x of : Int, D x → VS of → -100000000 ≤ Val x of ∧ Val x of ≤ 100000000) ∧ ∀ x of : Int, D x → VS of → ¬ dgF g x = 0 → -100000000 ≤ pvO g aim fs Val x of ∧ pvO g aim fs Val x of ≤ 100000000
def pvC (hB g : am_H) (D : Int → Prop) (Val : Int → Int → Int) (lv : Nat) (y : Int) : Prop := ∀ (h : am_H) (of dp : Int), PmO hB g D Val h → VS of → 0 ≤ dp → dp ≤ y → AMet GC mX3_value lv [am_R 60, am_I y, am_I (cv of), am_I dp] h (am_QI (fun v h2 => v = Val y of ∧ PmO hB g D Val h2))
theorem lp_X3_leastBehind {hB g : am_H} {D : Int → Prop} {Val : Int → Int → Int} {lv : Nat} {x of dp : Int} (hs : MVs g) (hR : SpR hB g) (hx : 0 ≤ x ∧ x < g 0 6) (hlv : 10 ≤ lv) (hof : VS of) (hdp : 0 ≤ dp ∧ dp ≤ x) (hV : ∀ k : Int, k ∈ wl (g 7) x (nwN g) → pvC hB g D Val lv (g 8 k) ∧ -100000000 ≤ Val (g 8 k) of ∧ Val (g 8 k) of ≤ 100000000) : ∀ (m j : Nat) (h : am_H), (j : Int) ≤ dgF g x → dgF g x - j < m → PmO hB g D Val h → (-100000000 ≤ pvL g Val x of ((wl (g 7) x (nwN g)).take j) ∧ pvL g Val x of ((wl (g 7) x (nwN g)).take j) ≤ 2147483647) → AW GC mX3_leastBehind (lv + 1) (am_QI (fun v h2 => v = pvL g Val x of (wl (g 7) x (nwN g)) ∧ PmO hB g D Val h2)) 7 [some (am_R 60), some (am_I x), some (am_I (cv of)), some (am_I dp), some (am_I (pvL g Val x of ((wl (g 7) x (nwN g)).take j))), some (am_I j)] [] h := by
  have hnn := hs.1
  have hw := hs.2.1
  have hd4 : dgF g x ≤ 4 := hs.2.2.2.2.2.2.1 x
  have hl := dg_len g x
  intro m
  induction m with
  | zero => intro j h h1 h2; omega
  | succ m ih =>
    intro j h h1 h2 hP hr
    have hR' := hP.sp hR
    have hk' := (hR'.2.1 x hx.1 hx.2).2.2
    by_cases hj : (j : Int) < dgF g x
    · obtain ⟨w, w1, w2, w3, w4⟩ := sp_at hs hR' hx hj
      have hv := (hs.2.2.2.2.1 w w3.1 w3.2).1
      have ht : h 21 w = g 8 w := (hR'.2.2.2.1 w w3.1 w3.2).2.1
      obtain ⟨hc, hb⟩ := hV w (List.mem_of_getElem? w1)
      have e1 : pvL g Val x of ((wl (g 7) x (nwN g)).take (j + 1)) = if Val (g 8 w) of < pvL g Val x of ((wl (g 7) x (nwN g)).take j) then Val (g 8 w) of else pvL g Val x of ((wl (g 7) x (nwN g)).take j) := by
        unfold pvL; rw [tk_fold w1]
      refine aw_iload dX3_leastBehind_7 rfl ?_
      refine aw_aload_n dX3_leastBehind_9 rfl ?_
      refine aw_getR (kx := 2) fl_X3_24 dX3_leastBehind_10 rfl rfl rfl ?_
      refine aw_getR (kx := 5) fl_X3_111 dX3_leastBehind_13 rfl rfl rfl ?_
      refine aw_iload_n dX3_leastBehind_16 rfl ?_
      refine aw_iaload dX3_leastBehind_17 rfl (by decide) (by omega) ?_
      refine aw_icmp_ge (tgt := 60) dX3_leastBehind_18 rfl (by omega) (by omega) (fun hc18 => ?_) (fun hc18 => ?_)
      · omega
      · refine aw_iload dX3_leastBehind_21 rfl ?_
        refine aw_aload_n dX3_leastBehind_23 rfl ?_
        refine aw_aload_n dX3_leastBehind_24 rfl ?_
        refine aw_getR (kx := 2) fl_X3_24 dX3_leastBehind_25 rfl rfl rfl ?_
        refine aw_getR (kx := 8) fl_X3_44 dX3_leastBehind_28 rfl rfl rfl ?_
        refine aw_aload_n dX3_leastBehind_31 rfl ?_
        refine aw_getR (kx := 2) fl_X3_24 dX3_leastBehind_32 rfl rfl rfl ?_
        refine aw_iload_n dX3_leastBehind_35 rfl ?_
        refine aw_iload dX3_leastBehind_36 rfl ?_
        refine aw_cV2IF (c_X5_wordAt (by omega)) lk_X3_114 dX3_leastBehind_38 (by omega) rfl rfl (fun _ => Nat.le_of_ble_eq_true rfl) ?_
        refine aw_top w2 ?_
        refine aw_iaload dX3_leastBehind_41 rfl (by decide) (by omega) ?_
        refine aw_top ht ?_
        refine aw_iload_n dX3_leastBehind_42 rfl ?_
        refine aw_iload_n dX3_leastBehind_43 rfl ?_
        refine aw_iconst dX3_leastBehind_44 ?_
        refine aw_iadd dX3_leastBehind_45 ?_
        refine aw_cV3I (hc h of (dp + 1) hP hof (by omega) (by omega)) lk_X3_47 dX3_leastBehind_46 (by omega) rfl rfl (fun _ => Nat.le_of_ble_eq_true rfl) (fun v46 h46 q46 => ?_)
        refine aw_top q46.1 ?_
        refine aw_cS2IF (c_J9_min (by omega) (by omega)) lk_X3_117 dX3_leastBehind_49 (by omega) (fun _ => Nat.le_of_ble_eq_true rfl) ?_
        refine aw_istore4 dX3_leastBehind_52 (by decide) rfl ?_
        refine aw_iinc5 dX3_leastBehind_54 (by decide) rfl ?_
        refine aw_goto (tgt := 7) dX3_leastBehind_57 rfl ?_
        rw [← e1]
        exact ih (j + 1) h46 (by omega) (by omega) q46.2 (by rw [e1]; split <;> omega)
    · refine aw_iload dX3_leastBehind_7 rfl ?_
      refine aw_aload_n dX3_leastBehind_9 rfl ?_
      refine aw_getR (kx := 2) fl_X3_24 dX3_leastBehind_10 rfl rfl rfl ?_
      refine aw_getR (kx := 5) fl_X3_111 dX3_leastBehind_13 rfl rfl rfl ?_
      refine aw_iload_n dX3_leastBehind_16 rfl ?_
      refine aw_iaload dX3_leastBehind_17 rfl (by decide) (by omega) ?_
      refine aw_icmp_ge (tgt := 60) dX3_leastBehind_18 rfl (by omega) (by omega) (fun hc18 => ?_) (fun hc18 => ?_)
      · refine aw_iload dX3_leastBehind_60 rfl ?_
        refine aw_iretQ dX3_leastBehind_62 rfl ?_
        exact ⟨by unfold pvL; rw [tk_all (by omega)], hP⟩
      · omega
theorem c_X3_leastBehind {hB g h : am_H} {D : Int → Prop} {Val : Int → Int → Int} {lv : Nat} {x of dp : Int} (hs : MVs g) (hR : SpR hB g) (hx : 0 ≤ x ∧ x < g 0 6) (hlv : 10 ≤ lv) (hof : VS of) (hdp : 0 ≤ dp ∧ dp ≤ x) (hV : ∀ k : Int, k ∈ wl (g 7) x (nwN g) → pvC hB g D Val lv (g 8 k) ∧ -100000000 ≤ Val (g 8 k) of ∧ Val (g 8 k) of ≤ 100000000) (hP : PmO hB g D Val h) : AMet GC mX3_leastBehind (lv + 1) [am_R 60, am_I x, am_I (cv of), am_I dp] h (am_QI (fun v h2 => v = pvL g Val x of (wl (g 7) x (nwN g)) ∧ PmO hB g D Val h2)) := by
  have hd4 : dgF g x ≤ 4 := hs.2.2.2.2.2.2.1 x
  have hd0 : 0 ≤ dgF g x := (cntF_rng _ _ _).1
  refine am_start [some (am_R 60), some (am_I x), some (am_I (cv of)), some (am_I dp), none, none] rfl rfl (by decide) (Nat.le_of_ble_eq_true rfl) ?_
  refine aw_ldc (n := 1000000) kc_X3_110 rfl dX3_leastBehind_0 ?_
  refine aw_istore4 dX3_leastBehind_2 (by decide) rfl ?_
  refine aw_iconst dX3_leastBehind_4 ?_
  refine aw_istore5 dX3_leastBehind_5 (by decide) rfl ?_
  exact lp_X3_leastBehind hs hR hx hlv hof hdp hV 5 0 h (by omega) (by omega) hP (by show -100000000 ≤ (1000000 : Int) ∧ (1000000 : Int) ≤ 2147483647; omega)
theorem lp_X3_meanBehind {hB g : am_H} {D : Int → Prop} {Val : Int → Int → Int} {lv : Nat} {x of dp : Int} (hs : MVs g) (hR : SpR hB g) (hO : OlR hB g) (hx : 0 ≤ x ∧ x < g 0 6) (hlv : 10 ≤ lv) (hof : VS of) (hdp : 0 ≤ dp ∧ dp ≤ x) (hV : ∀ k : Int, k ∈ wl (g 7) x (nwN g) → pvC hB g D Val lv (g 8 k)) : ∀ (m j : Nat) (h : am_H) (x6 : Option am_V), (j : Int) ≤ dgF g x → dgF g x - j < m → PmO hB g D Val h → AW GC mX3_meanBehind (lv + 1) (am_QI (fun v h2 => v = pvM g Val x of (wl (g 7) x (nwN g)) ∧ PmO hB g D Val h2)) 6 [some (am_R 60), some (am_I x), some (am_I (cv of)), some (am_I dp), some (am_I (pvM g Val x of ((wl (g 7) x (nwN g)).take j))), some (am_I j), x6] [] h := by
  have hnn := hs.1
  have hw := hs.2.1
  have hd4 : dgF g x ≤ 4 := hs.2.2.2.2.2.2.1 x
  have hl := dg_len g x
  intro m
  induction m with
  | zero => intro j h x6 h1 h2; omega
  | succ m ih =>
    intro j h x6 h1 h2 hP
    have hR' := hP.sp hR
    have hk' := (hR'.2.1 x hx.1 hx.2).2.2
    by_cases hj : (j : Int) < dgF g x
    · obtain ⟨w, w1, w2, w3, w4⟩ := sp_at hs hR' hx hj
      have hv := (hs.2.2.2.2.1 w w3.1 w3.2).1
      have ht : h 21 w = g 8 w := (hR'.2.2.2.1 w w3.1 w3.2).2.1
      have hc := hV w (List.mem_of_getElem? w1)
      have e1 : pvM g Val x of ((wl (g 7) x (nwN g)).take (j + 1)) = pvM g Val x of ((wl (g 7) x (nwN g)).take j) + Val (g 8 w) of * wgt g x (g 8 w) := by
        unfold pvM; rw [tk_fold w1]
      refine aw_iload dX3_meanBehind_6 rfl ?_
      refine aw_aload_n dX3_meanBehind_8 rfl ?_
      refine aw_getR (kx := 2) fl_X3_24 dX3_meanBehind_9 rfl rfl rfl ?_
      refine aw_getR (kx := 5) fl_X3_111 dX3_meanBehind_12 rfl rfl rfl ?_
      refine aw_iload_n dX3_meanBehind_15 rfl ?_
      refine aw_iaload dX3_meanBehind_16 rfl (by decide) (by omega) ?_
      refine aw_icmp_ge (tgt := 72) dX3_meanBehind_17 rfl (by omega) (by omega) (fun hc17 => ?_) (fun hc17 => ?_)
      · omega
      · refine aw_aload_n dX3_meanBehind_20 rfl ?_
        refine aw_getR (kx := 2) fl_X3_24 dX3_meanBehind_21 rfl rfl rfl ?_
        refine aw_getR (kx := 8) fl_X3_44 dX3_meanBehind_24 rfl rfl rfl ?_
        refine aw_aload_n dX3_meanBehind_27 rfl ?_
        refine aw_getR (kx := 2) fl_X3_24 dX3_meanBehind_28 rfl rfl rfl ?_
        refine aw_iload_n dX3_meanBehind_31 rfl ?_
        refine aw_iload dX3_meanBehind_32 rfl ?_
        refine aw_cV2IF (c_X5_wordAt (by omega)) lk_X3_114 dX3_meanBehind_34 (by omega) rfl rfl (fun _ => Nat.le_of_ble_eq_true rfl) ?_
        refine aw_top w2 ?_
        refine aw_iaload dX3_meanBehind_37 rfl (by decide) (by omega) ?_
        refine aw_top ht ?_
        refine aw_istore6 dX3_meanBehind_38 (by decide) rfl ?_
        refine aw_iload dX3_meanBehind_40 rfl ?_
        refine aw_aload_n dX3_meanBehind_42 rfl ?_
        refine aw_iload dX3_meanBehind_43 rfl ?_
        refine aw_iload_n dX3_meanBehind_45 rfl ?_
        refine aw_iload_n dX3_meanBehind_46 rfl ?_
        refine aw_iconst dX3_meanBehind_47 ?_
        refine aw_iadd dX3_meanBehind_48 ?_
        refine aw_cV3I (hc h of (dp + 1) hP hof (by omega) (by omega)) lk_X3_47 dX3_meanBehind_49 (by omega) rfl rfl (fun _ => Nat.le_of_ble_eq_true rfl) (fun v49 h49 q49 => ?_)
        refine aw_top q49.1 ?_
        refine aw_aload_n dX3_meanBehind_52 rfl ?_
        refine aw_getR (kx := 3) fl_X3_28 dX3_meanBehind_53 rfl rfl rfl ?_
        refine aw_iload_n dX3_meanBehind_56 rfl ?_
        refine aw_iload dX3_meanBehind_57 rfl ?_
        refine aw_cV2IF (c_X2_weight hs (q49.2.ol hnn.2 hO) hx ⟨by omega, hv.2.2⟩) lk_X3_120 dX3_meanBehind_59 (by omega) rfl rfl (fun _ => Nat.le_of_ble_eq_true rfl) ?_
        refine aw_imul dX3_meanBehind_62 ?_
        refine aw_iadd dX3_meanBehind_63 ?_
        refine aw_istore4 dX3_meanBehind_64 (by decide) rfl ?_
        refine aw_iinc5 dX3_meanBehind_66 (by decide) rfl ?_
        refine aw_goto (tgt := 6) dX3_meanBehind_69 rfl ?_
        rw [← e1]
        exact ih (j + 1) h49 _ (by omega) (by omega) q49.2
    · refine aw_iload dX3_meanBehind_6 rfl ?_
      refine aw_aload_n dX3_meanBehind_8 rfl ?_
      refine aw_getR (kx := 2) fl_X3_24 dX3_meanBehind_9 rfl rfl rfl ?_
      refine aw_getR (kx := 5) fl_X3_111 dX3_meanBehind_12 rfl rfl rfl ?_
      refine aw_iload_n dX3_meanBehind_15 rfl ?_
      refine aw_iaload dX3_meanBehind_16 rfl (by decide) (by omega) ?_
      refine aw_icmp_ge (tgt := 72) dX3_meanBehind_17 rfl (by omega) (by omega) (fun hc17 => ?_) (fun hc17 => ?_)
      · refine aw_iload dX3_meanBehind_72 rfl ?_
        refine aw_iretQ dX3_meanBehind_74 rfl ?_
        exact ⟨by unfold pvM; rw [tk_all (by omega)], hP⟩
      · omega
theorem c_X3_meanBehind {hB g h : am_H} {D : Int → Prop} {Val : Int → Int → Int} {lv : Nat} {x of dp : Int} (hs : MVs g) (hR : SpR hB g) (hO : OlR hB g) (hx : 0 ≤ x ∧ x < g 0 6) (hlv : 10 ≤ lv) (hof : VS of) (hdp : 0 ≤ dp ∧ dp ≤ x) (hV : ∀ k : Int, k ∈ wl (g 7) x (nwN g) → pvC hB g D Val lv (g 8 k)) (hP : PmO hB g D Val h) : AMet GC mX3_meanBehind (lv + 1) [am_R 60, am_I x, am_I (cv of), am_I dp] h (am_QI (fun v h2 => v = pvM g Val x of (wl (g 7) x (nwN g)) ∧ PmO hB g D Val h2)) := by
  have hd4 : dgF g x ≤ 4 := hs.2.2.2.2.2.2.1 x
  have hd0 : 0 ≤ dgF g x := (cntF_rng _ _ _).1
  refine am_start [some (am_R 60), some (am_I x), some (am_I (cv of)), some (am_I dp), none, none, none] rfl rfl (by decide) (Nat.le_of_ble_eq_true rfl) ?_
  refine aw_iconst dX3_meanBehind_0 ?_
  refine aw_istore4 dX3_meanBehind_1 (by decide) rfl ?_
  refine aw_iconst dX3_meanBehind_3 ?_
  refine aw_istore5 dX3_meanBehind_4 (by decide) rfl ?_
  exact lp_X3_meanBehind hs hR hO hx hlv hof hdp hV 5 0 h _ (by omega) (by omega) hP
