def lbS (s : Int × Int) (v : Int) : Int × Int := (1, if s.1 = 0 ∨ v < s.2 then v else s.2)
def lbF (V : Int → Int) (fr to : Int → Int) (x : Int) (i : Nat) : Int × Int := (wl fr x i).foldl (fun s k => lbS s (V (to k))) (0, 0)
def mbF (V : Int → Int) (fr to : Int → Int) (n x : Int) (i : Nat) : Int := (wl fr x i).foldl (fun s k => s + (V (to k)).tdiv n) 0
def AgP (g g' : am_H) : Prop := ∀ c : Int, ¬ c = 30 → ¬ c = 31 → ¬ c = 32 → g' c = g c
theorem AgP.vs {g g' : am_H} (h : AgP g g') (hs : MVs g) : MVs g' := hs.of (fun k _ => by rw [h 0 (by decide) (by decide) (by decide)]) (fun c a b => h c (by omega) (by omega) (by omega))
theorem AgP.vy {g g' : am_H} (h : AgP g g') (hy : MVy g) : MVy g' := by
  unfold MVy; rw [h 0 (by decide) (by decide) (by decide), h 14 (by decide) (by decide) (by decide), h 7 (by decide) (by decide) (by decide), h 8 (by decide) (by decide) (by decide)]; exact hy
theorem AgP.me {g g' : am_H} (h : AgP g g') : MEq g' g := ⟨fun k _ => by rw [h 0 (by decide) (by decide) (by decide)], fun c hc => h c (by omega) (by omega) (by omega)⟩
theorem lbF_1 (V : Int → Int) (fr to : Int → Int) (x : Int) : ∀ i : Nat, (lbF V fr to x i).1 = 0 ∨ (lbF V fr to x i).1 = 1
  | 0 => Or.inl rfl
  | i + 1 => by
    have ih := lbF_1 V fr to x i
    unfold lbF at ih ⊢
    rw [wl_fold]
    split
    · exact Or.inr rfl
    · exact ih
theorem lbF_2 {c : Int} {V : Int → Int} {fr to : Int → Int} {x : Int} {nw : Nat} (hc : 0 ≤ c) (hV : ∀ k : Int, k ∈ wl fr x nw → -c ≤ V (to k) ∧ V (to k) ≤ c) : ∀ i : Nat, i ≤ nw → -c ≤ (lbF V fr to x i).2 ∧ (lbF V fr to x i).2 ≤ c
  | 0, _ => by show -c ≤ (0 : Int) ∧ (0 : Int) ≤ c; omega
  | i + 1, h => by
    have ih := lbF_2 hc hV i (by omega)
    unfold lbF at ih ⊢
    rw [wl_fold]
    split
    · rename_i e
      have h2 := hV i (wl_mem.mpr ⟨by omega, by omega, e⟩)
      generalize (wl fr x i).foldl (fun s k => lbS s (V (to k))) (0, 0) = s at ih ⊢
      unfold lbS; dsimp only; split <;> omega
    · exact ih
theorem lp_X8_leastBehind {g g' : am_H} {x of st : Int} {V : Int → Int} (hs : MVs g) (ha : AgP g g') (hx : 0 ≤ x ∧ x < g 0 6) (hst : 0 ≤ st ∧ st < 1536) (hV : ∀ y : Int, x < y → y < g 0 6 → g' 30 (1536 * y + st) = V y ∧ -1000 ≤ V y ∧ V y ≤ 1000) : ∀ (m i : Nat) (x7 : Option am_V), (i : Int) ≤ g 0 10 → g 0 10 - i < m → AW GM mX8_leastBehind 4 (am_FI (lbF V (g 7) (g 8) x (nwN g)).2 g') 16 [some (am_R 0), some (am_I x), some (am_I of), some (am_I (lbF V (g 7) (g 8) x i).1), some (am_I (lbF V (g 7) (g 8) x i).2), some (am_I st), some (am_I i), x7] [] g' := by
  have hw := hs.2.1
  have hnn := hs.1
  have f0 := ha 0 (by decide) (by decide) (by decide)
  have f7 := ha 7 (by decide) (by decide) (by decide)
  have f8 := ha 8 (by decide) (by decide) (by decide)
  have f0w : g' 0 10 = g 0 10 := by rw [f0]
  have hr2 := lbF_2 (c := 1000) (V := V) (fr := g 7) (to := g 8) (x := x) (nw := nwN g) (by omega) (fun k hk => by
    obtain ⟨a1, a2, a3⟩ := wl_mem.mp hk
    have a4 := to_ok hs k a1 a2
    exact (hV (g 8 k) (by omega) a4.2).2)
  intro m
  induction m with
  | zero => intro i x7 h1 h2; omega
  | succ m ih =>
    intro i x7 h1 h2
    have f7i : g' 7 i = g 7 i := by rw [f7]
    have f8i : g' 8 i = g 8 i := by rw [f8]
    have r1 := lbF_1 V (g 7) (g 8) x i
    have r2 := hr2 i (by unfold nwN; omega)
    have hv := hs.2.2.2.2.1 i (by omega)
    have hst1 : lbF V (g 7) (g 8) x (i + 1) = if g 7 i = x then lbS (lbF V (g 7) (g 8) x i) (V (g 8 i)) else lbF V (g 7) (g 8) x i := by
      unfold lbF; rw [wl_fold]
    have nxt : ∀ (s : Int × Int) (y7 : Option am_V), (i : Int) < g 0 10 → s = lbF V (g 7) (g 8) x (i + 1) → AW GM mX8_leastBehind 4 (am_FI (lbF V (g 7) (g 8) x (nwN g)).2 g') 16 [some (am_R 0), some (am_I x), some (am_I of), some (am_I s.1), some (am_I s.2), some (am_I st), some (am_I (i + 1 : Nat)), y7] [] g' := by
      intro s y7 hlt hse
      rw [hse]
      exact ih (i + 1) _ (by omega) (by omega)
    by_cases hfi : (i : Int) < g 0 10 ∧ g 7 i = x
    · have hv2 := (hv hfi.1).1
      have hIt := hV (g 8 i) (by omega) hv2.2.2
      rw [if_pos hfi.2] at hst1
      unfold lbS at hst1
      refine aw_iload dX8_leastBehind_16 rfl ?_
      refine aw_aload_n dX8_leastBehind_18 rfl ?_
      refine aw_getI (kx := 10) fl_X8_210 dX8_leastBehind_19 rfl rfl rfl ?_
      refine aw_icmp_ge (tgt := 119) dX8_leastBehind_22 rfl (by omega) (by omega) (fun hc22 => ?_) (fun hc22 => ?_)
      · omega
      · refine aw_aload_n dX8_leastBehind_25 rfl ?_
        refine aw_getR (kx := 7) fl_X8_28 dX8_leastBehind_26 rfl rfl rfl ?_
        refine aw_iload dX8_leastBehind_29 rfl ?_
        refine aw_iaload dX8_leastBehind_31 rfl (by decide) (by omega) ?_
        refine aw_iload_n dX8_leastBehind_32 rfl ?_
        refine aw_icmp_ne (tgt := 58) dX8_leastBehind_33 rfl (by omega) (by omega) (fun hc33 => ?_) (fun hc33 => ?_)
        · omega
        · refine aw_aload_n dX8_leastBehind_36 rfl ?_
          refine aw_getR (kx := 42) fl_X8_103 dX8_leastBehind_37 rfl rfl rfl ?_
          refine aw_sipush (by decide) dX8_leastBehind_40 ?_
          refine aw_aload_n dX8_leastBehind_43 rfl ?_
          refine aw_getR (kx := 8) fl_X8_31 dX8_leastBehind_44 rfl rfl rfl ?_
          refine aw_iload dX8_leastBehind_47 rfl ?_
          refine aw_iaload dX8_leastBehind_49 rfl (by decide) (by omega) ?_
          refine aw_imul dX8_leastBehind_50 ?_
          refine aw_iload dX8_leastBehind_51 rfl ?_
          refine aw_iadd dX8_leastBehind_53 ?_
          refine aw_iaload dX8_leastBehind_54 rfl (by decide) (by omega) ?_
          refine aw_top (show g' 30 (1536 * g' 8 i + st) = V (g 8 i) by rw [f8i]; exact hIt.1) ?_
          refine aw_goto (tgt := 59) dX8_leastBehind_55 rfl ?_
          refine aw_istore7 dX8_leastBehind_59 (by decide) rfl ?_
          refine aw_aload_n dX8_leastBehind_61 rfl ?_
          refine aw_getR (kx := 7) fl_X8_28 dX8_leastBehind_62 rfl rfl rfl ?_
          refine aw_iload dX8_leastBehind_65 rfl ?_
          refine aw_iaload dX8_leastBehind_67 rfl (by decide) (by omega) ?_
          refine aw_iload_n dX8_leastBehind_68 rfl ?_
          refine aw_icmp_ne (tgt := 88) dX8_leastBehind_69 rfl (by omega) (by omega) (fun hc69 => ?_) (fun hc69 => ?_)
          · omega
          · refine aw_iload_n dX8_leastBehind_72 rfl ?_
            refine aw_if_eq (tgt := 83) dX8_leastBehind_73 rfl (by omega) (fun hc73 => ?_) (fun hc73 => ?_)
            · refine aw_iload dX8_leastBehind_83 rfl ?_
              refine aw_goto (tgt := 90) dX8_leastBehind_85 rfl ?_
              refine aw_istore4 dX8_leastBehind_90 (by decide) rfl ?_
              refine aw_iload_n dX8_leastBehind_92 rfl ?_
              refine aw_if_ne (tgt := 107) dX8_leastBehind_93 rfl (by omega) (fun hc93 => ?_) (fun hc93 => ?_)
              · omega
              · refine aw_aload_n dX8_leastBehind_96 rfl ?_
                refine aw_getR (kx := 7) fl_X8_28 dX8_leastBehind_97 rfl rfl rfl ?_
                refine aw_iload dX8_leastBehind_100 rfl ?_
                refine aw_iaload dX8_leastBehind_102 rfl (by decide) (by omega) ?_
                refine aw_iload_n dX8_leastBehind_103 rfl ?_
                refine aw_icmp_ne (tgt := 111) dX8_leastBehind_104 rfl (by omega) (by omega) (fun hc104 => ?_) (fun hc104 => ?_)
                · omega
                · refine aw_iconst dX8_leastBehind_107 ?_
                  refine aw_goto (tgt := 112) dX8_leastBehind_108 rfl ?_
                  refine aw_istore_3 dX8_leastBehind_112 (by decide) rfl ?_
                  refine aw_iinc6 dX8_leastBehind_113 (by decide) rfl ?_
                  refine aw_goto (tgt := 16) dX8_leastBehind_116 rfl ?_
                  exact nxt (1, V (g 8 i)) _ hfi.1 (by rw [hst1, if_pos (by omega)])
            · refine aw_iload dX8_leastBehind_76 rfl ?_
              refine aw_iload dX8_leastBehind_78 rfl ?_
              refine aw_icmp_ge (tgt := 88) dX8_leastBehind_80 rfl (by omega) (by omega) (fun hc80 => ?_) (fun hc80 => ?_)
              · refine aw_iload dX8_leastBehind_88 rfl ?_
                refine aw_istore4 dX8_leastBehind_90 (by decide) rfl ?_
                refine aw_iload_n dX8_leastBehind_92 rfl ?_
                refine aw_if_ne (tgt := 107) dX8_leastBehind_93 rfl (by omega) (fun hc93 => ?_) (fun hc93 => ?_)
                · refine aw_iconst dX8_leastBehind_107 ?_
                  refine aw_goto (tgt := 112) dX8_leastBehind_108 rfl ?_
                  refine aw_istore_3 dX8_leastBehind_112 (by decide) rfl ?_
                  refine aw_iinc6 dX8_leastBehind_113 (by decide) rfl ?_
                  refine aw_goto (tgt := 16) dX8_leastBehind_116 rfl ?_
                  exact nxt (1, _) _ hfi.1 (by rw [hst1, if_neg (by omega)])
                · omega
              · refine aw_iload dX8_leastBehind_83 rfl ?_
                refine aw_goto (tgt := 90) dX8_leastBehind_85 rfl ?_
                refine aw_istore4 dX8_leastBehind_90 (by decide) rfl ?_
                refine aw_iload_n dX8_leastBehind_92 rfl ?_
                refine aw_if_ne (tgt := 107) dX8_leastBehind_93 rfl (by omega) (fun hc93 => ?_) (fun hc93 => ?_)
                · refine aw_iconst dX8_leastBehind_107 ?_
                  refine aw_goto (tgt := 112) dX8_leastBehind_108 rfl ?_
                  refine aw_istore_3 dX8_leastBehind_112 (by decide) rfl ?_
                  refine aw_iinc6 dX8_leastBehind_113 (by decide) rfl ?_
                  refine aw_goto (tgt := 16) dX8_leastBehind_116 rfl ?_
                  exact nxt (1, _) _ hfi.1 (by rw [hst1, if_pos (by omega)])
                · omega
    · by_cases hlt : (i : Int) < g 0 10
      · have hv2 := (hv hlt).1
        have hne : ¬ g 7 i = x := fun z => hfi ⟨hlt, z⟩
        rw [if_neg hne] at hst1
        refine aw_iload dX8_leastBehind_16 rfl ?_
        refine aw_aload_n dX8_leastBehind_18 rfl ?_
        refine aw_getI (kx := 10) fl_X8_210 dX8_leastBehind_19 rfl rfl rfl ?_
        refine aw_icmp_ge (tgt := 119) dX8_leastBehind_22 rfl (by omega) (by omega) (fun hc22 => ?_) (fun hc22 => ?_)
        · omega
        · refine aw_aload_n dX8_leastBehind_25 rfl ?_
          refine aw_getR (kx := 7) fl_X8_28 dX8_leastBehind_26 rfl rfl rfl ?_
          refine aw_iload dX8_leastBehind_29 rfl ?_
          refine aw_iaload dX8_leastBehind_31 rfl (by decide) (by omega) ?_
          refine aw_iload_n dX8_leastBehind_32 rfl ?_
          refine aw_icmp_ne (tgt := 58) dX8_leastBehind_33 rfl (by omega) (by omega) (fun hc33 => ?_) (fun hc33 => ?_)
          · refine aw_iconst dX8_leastBehind_58 ?_
            refine aw_istore7 dX8_leastBehind_59 (by decide) rfl ?_
            refine aw_aload_n dX8_leastBehind_61 rfl ?_
            refine aw_getR (kx := 7) fl_X8_28 dX8_leastBehind_62 rfl rfl rfl ?_
            refine aw_iload dX8_leastBehind_65 rfl ?_
            refine aw_iaload dX8_leastBehind_67 rfl (by decide) (by omega) ?_
            refine aw_iload_n dX8_leastBehind_68 rfl ?_
            refine aw_icmp_ne (tgt := 88) dX8_leastBehind_69 rfl (by omega) (by omega) (fun hc69 => ?_) (fun hc69 => ?_)
            · refine aw_iload dX8_leastBehind_88 rfl ?_
              refine aw_istore4 dX8_leastBehind_90 (by decide) rfl ?_
              refine aw_iload_n dX8_leastBehind_92 rfl ?_
              refine aw_if_ne (tgt := 107) dX8_leastBehind_93 rfl (by omega) (fun hc93 => ?_) (fun hc93 => ?_)
              · refine aw_iconst dX8_leastBehind_107 ?_
                refine aw_goto (tgt := 112) dX8_leastBehind_108 rfl ?_
                refine aw_istore_3 dX8_leastBehind_112 (by decide) rfl ?_
                refine aw_iinc6 dX8_leastBehind_113 (by decide) rfl ?_
                refine aw_goto (tgt := 16) dX8_leastBehind_116 rfl ?_
                exact nxt (1, _) _ hlt (by rw [hst1]; exact Prod.ext (show (1 : Int) = _ by omega) rfl)
              · refine aw_aload_n dX8_leastBehind_96 rfl ?_
                refine aw_getR (kx := 7) fl_X8_28 dX8_leastBehind_97 rfl rfl rfl ?_
                refine aw_iload dX8_leastBehind_100 rfl ?_
                refine aw_iaload dX8_leastBehind_102 rfl (by decide) (by omega) ?_
                refine aw_iload_n dX8_leastBehind_103 rfl ?_
                refine aw_icmp_ne (tgt := 111) dX8_leastBehind_104 rfl (by omega) (by omega) (fun hc104 => ?_) (fun hc104 => ?_)
                · refine aw_iconst dX8_leastBehind_111 ?_
                  refine aw_istore_3 dX8_leastBehind_112 (by decide) rfl ?_
                  refine aw_iinc6 dX8_leastBehind_113 (by decide) rfl ?_
                  refine aw_goto (tgt := 16) dX8_leastBehind_116 rfl ?_
                  exact nxt (0, _) _ hlt (by rw [hst1]; exact Prod.ext (show (0 : Int) = _ by omega) rfl)
                · omega
            · omega
          · omega
      · have en : i = nwN g := by unfold nwN; omega
        subst en
        refine aw_iload dX8_leastBehind_16 rfl ?_
        refine aw_aload_n dX8_leastBehind_18 rfl ?_
        refine aw_getI (kx := 10) fl_X8_210 dX8_leastBehind_19 rfl rfl rfl ?_
        refine aw_icmp_ge (tgt := 119) dX8_leastBehind_22 rfl (by omega) (by omega) (fun hc22 => ?_) (fun hc22 => ?_)
        · refine aw_iload dX8_leastBehind_119 rfl ?_
          refine aw_iretF dX8_leastBehind_121 rfl ?_
          exact ⟨rfl, rfl⟩
        · omega
theorem c_X8_leastBehind {g g' : am_H} {x of : Int} {V : Int → Int} (hs : MVs g) (ha : AgP g g') (hx : 0 ≤ x ∧ x < g 0 6) (hof : VS of) (hV : ∀ y : Int, x < y → y < g 0 6 → g' 30 (1536 * y + gon (g 5 x) of) = V y ∧ -1000 ≤ V y ∧ V y ≤ 1000) : AMet GM mX8_leastBehind 4 [am_R 0, am_I x, am_I of] g' (am_FI (lbF V (g 7) (g 8) x (nwN g)).2 g') := by
  have hnn := hs.1
  have hw := hs.2.1
  have hvg := vs_gon (k := g 5 x) hof
  have h1 := hof.1
  have h2 := hof.2.1
  have h3 := hvg.1
  have h4 := hvg.2.1
  have hk := hs.2.2.2.1 x hx.1 hx.2
  have f5 := ha 5 (by decide) (by decide) (by decide)
  have f5x : g' 5 x = g 5 x := by rw [f5]
  refine am_start [some (am_R 0), some (am_I x), some (am_I of), none, none, none, none, none] rfl rfl (by decide) (Nat.le_of_ble_eq_true rfl) ?_
  refine aw_iconst dX8_leastBehind_0 ?_
  refine aw_istore_3 dX8_leastBehind_1 (by decide) rfl ?_
  refine aw_iconst dX8_leastBehind_2 ?_
  refine aw_istore4 dX8_leastBehind_3 (by decide) rfl ?_
  refine aw_aload_n dX8_leastBehind_5 rfl ?_
  refine aw_iload_n dX8_leastBehind_6 rfl ?_
  refine aw_iload_n dX8_leastBehind_7 rfl ?_
  refine aw_cV2IF (c_X8_goneOn (by omega) (by omega) (by omega)) lk_X8_271 dX8_leastBehind_8 (by decide) rfl rfl (fun _ => Nat.le_of_ble_eq_true rfl) ?_
  rw [f5]
  refine aw_istore5 dX8_leastBehind_11 (by decide) rfl ?_
  refine aw_iconst dX8_leastBehind_13 ?_
  refine aw_istore6 dX8_leastBehind_14 (by decide) rfl ?_
  exact lp_X8_leastBehind hs ha hx ⟨h3, h4⟩ hV 15 0 _ (by omega) (by omega)
theorem lp_X8_meanBehind {g g' : am_H} {x of st : Int} {V : Int → Int} (hs : MVs g) (ha : AgP g g') (hx : 0 ≤ x ∧ x < g 0 6) (hst : 0 ≤ st ∧ st < 1536) (hV : ∀ y : Int, x < y → y < g 0 6 → g' 31 (1536 * y + st) = V y ∧ -100000000000 ≤ V y ∧ V y ≤ 100000000000) : ∀ (m i : Nat), (i : Int) ≤ g 0 10 → g 0 10 - i < m → AW GM mX8_meanBehind 4 (am_FJ (mbF V (g 7) (g 8) (dgF g x) x (nwN g)) g') 23 [some (am_R 0), some (am_I x), some (am_I of), some (am_J (mbF V (g 7) (g 8) (dgF g x) x i)), none, some (am_I (dgF g x)), some (am_I st), some (am_I i)] [] g' := by
  have hw := hs.2.1
  have hnn := hs.1
  have f0 := ha 0 (by decide) (by decide) (by decide)
  have f7 := ha 7 (by decide) (by decide) (by decide)
  have f8 := ha 8 (by decide) (by decide) (by decide)
  have f0w : g' 0 10 = g 0 10 := by rw [f0]
  intro m
  induction m with
  | zero => intro i h1 h2; omega
  | succ m ih =>
    intro i h1 h2
    have f7i : g' 7 i = g 7 i := by rw [f7]
    have f8i : g' 8 i = g 8 i := by rw [f8]
    have hv := hs.2.2.2.2.1 i (by omega)
    have hst1 : mbF V (g 7) (g 8) (dgF g x) x (i + 1) = if g 7 i = x then mbF V (g 7) (g 8) (dgF g x) x i + (V (g 8 i)).tdiv (dgF g x) else mbF V (g 7) (g 8) (dgF g x) x i := by
      unfold mbF; rw [wl_fold]
    have hdg : (i : Int) < g 0 10 → g 7 i = x → 0 < dgF g x ∧ dgF g x ≤ 14 := by
      intro a b
      have hm : (i : Int) ∈ wl (g 7) x (nwN g) := wl_mem.mpr ⟨by omega, by unfold nwN; omega, b⟩
      have hl := wl_len (g 7) x (nwN g)
      have h4 : cntF (g 7) x (nwN g) ≤ 4 := hs.2.2.2.2.2.2.1 x
      have := List.length_pos_of_mem hm
      show 0 < cntF (g 7) x (nwN g) ∧ cntF (g 7) x (nwN g) ≤ 14
      omega
    refine aw_iload dX8_meanBehind_23 rfl ?_
    refine aw_aload_n dX8_meanBehind_25 rfl ?_
    refine aw_getI (kx := 10) fl_X8_210 dX8_meanBehind_26 rfl rfl rfl ?_
    refine aw_icmp_ge (tgt := 79) dX8_meanBehind_29 rfl (by omega) (by omega) (fun hc29 => ?_) (fun hc29 => ?_)
    · refine aw_lload_n dX8_meanBehind_79 rfl ?_
      refine aw_lretF dX8_meanBehind_80 rfl ?_
      exact ⟨by rw [show nwN g = i by unfold nwN; omega], rfl⟩
    · have hv2 := (hv (by omega)).1
      refine aw_lload_n dX8_meanBehind_32 rfl ?_
      refine aw_aload_n dX8_meanBehind_33 rfl ?_
      refine aw_getR (kx := 7) fl_X8_28 dX8_meanBehind_34 rfl rfl rfl ?_
      refine aw_iload dX8_meanBehind_37 rfl ?_
      refine aw_iaload dX8_meanBehind_39 rfl (by decide) (by omega) ?_
      refine aw_iload_n dX8_meanBehind_40 rfl ?_
      refine aw_icmp_ne (tgt := 70) dX8_meanBehind_41 rfl (by omega) (by omega) (fun hc41 => ?_) (fun hc41 => ?_)
      · refine aw_lconst (v := 0) dX8_meanBehind_70 rfl ?_
        refine aw_ladd dX8_meanBehind_71 ?_
        refine aw_lstore_3 dX8_meanBehind_72 (by decide) rfl ?_
        refine aw_iinc7 dX8_meanBehind_73 (by decide) rfl ?_
        refine aw_goto (tgt := 23) dX8_meanBehind_76 rfl ?_
        refine aw_ls ?_ (ih (i + 1) (by omega) (by omega)); rw [hst1, if_neg (by omega), Int.add_zero]; rfl
      · have hIt := hV (g 8 i) (by omega) hv2.2.2
        have hd2 := hdg (by omega) (by omega)
        refine aw_aload_n dX8_meanBehind_44 rfl ?_
        refine aw_getR (kx := 43) fl_X8_106 dX8_meanBehind_45 rfl rfl rfl ?_
        refine aw_sipush (by decide) dX8_meanBehind_48 ?_
        refine aw_aload_n dX8_meanBehind_51 rfl ?_
        refine aw_getR (kx := 8) fl_X8_31 dX8_meanBehind_52 rfl rfl rfl ?_
        refine aw_iload dX8_meanBehind_55 rfl ?_
        refine aw_iaload dX8_meanBehind_57 rfl (by decide) (by omega) ?_
        refine aw_imul dX8_meanBehind_58 ?_
        refine aw_iload dX8_meanBehind_59 rfl ?_
        refine aw_iadd dX8_meanBehind_61 ?_
        refine aw_laload dX8_meanBehind_62 rfl (by decide) (by omega) ?_
        refine aw_topJ (show g' 31 (1536 * g' 8 i + st) = V (g 8 i) by rw [f8i]; exact hIt.1) ?_
        refine aw_iload dX8_meanBehind_63 rfl ?_
        refine aw_i2l (by omega) dX8_meanBehind_65 ?_
        refine aw_ldiv (by omega) (by omega) dX8_meanBehind_66 ?_
        refine aw_goto (tgt := 71) dX8_meanBehind_67 rfl ?_
        refine aw_ladd dX8_meanBehind_71 ?_
        refine aw_lstore_3 dX8_meanBehind_72 (by decide) rfl ?_
        refine aw_iinc7 dX8_meanBehind_73 (by decide) rfl ?_
        refine aw_goto (tgt := 23) dX8_meanBehind_76 rfl ?_
        refine aw_ls ?_ (ih (i + 1) (by omega) (by omega)); rw [hst1, if_pos (by omega)]; rfl
theorem c_X8_meanBehind {g g' : am_H} {x of : Int} {V : Int → Int} (hs : MVs g) (ha : AgP g g') (hx : 0 ≤ x ∧ x < g 0 6) (hof : VS of) (hV : ∀ y : Int, x < y → y < g 0 6 → g' 31 (1536 * y + gon (g 5 x) of) = V y ∧ -100000000000 ≤ V y ∧ V y ≤ 100000000000) : AMet GM mX8_meanBehind 4 [am_R 0, am_I x, am_I of] g' (am_FJ (mbF V (g 7) (g 8) (dgF g x) x (nwN g)) g') := by
  have hnn := hs.1
  have hw := hs.2.1
  have hvg := vs_gon (k := g 5 x) hof
  have h1 := hof.1
  have h2 := hof.2.1
  have h3 := hvg.1
  have h4 := hvg.2.1
  have hk := hs.2.2.2.1 x hx.1 hx.2
  have f5 := ha 5 (by decide) (by decide) (by decide)
  have f5x : g' 5 x = g 5 x := by rw [f5]
  have hs' := ha.vs hs
  have f0 := ha 0 (by decide) (by decide) (by decide)
  have hn14 : nwN g' ≤ 14 := by unfold nwN; rw [f0]; omega
  have hws := wsN_lt16 (g' 7) x hn14
  have edg : ((pcN 16 (wsN (g' 7) x (nwN g')) : Nat) : Int) = dgF g x := by
    rw [wsN_pc _ _ _ (by omega)]; unfold dgF nwN; rw [f0, ha 7 (by decide) (by decide) (by decide)]
  refine am_start [some (am_R 0), some (am_I x), some (am_I of), none, none, none, none, none] rfl rfl (by decide) (Nat.le_of_ble_eq_true rfl) ?_
  refine aw_lconst (v := 0) dX8_meanBehind_0 rfl ?_
  refine aw_lstore_3 dX8_meanBehind_1 (by decide) rfl ?_
  refine aw_aload_n dX8_meanBehind_2 rfl ?_
  refine aw_iload_n dX8_meanBehind_3 rfl ?_
  refine aw_cV1IF (c_X8_wordsFrom hs' (by omega)) lk_X8_222 dX8_meanBehind_4 (by decide) rfl rfl (fun _ => Nat.le_of_ble_eq_true rfl) ?_
  refine aw_cS1IF (c_X8_ones rfl (by omega)) lk_X8_256 dX8_meanBehind_7 (by decide) (fun _ => Nat.le_of_ble_eq_true rfl) ?_
  refine aw_top edg ?_
  refine aw_istore5 dX8_meanBehind_10 (by decide) rfl ?_
  refine aw_aload_n dX8_meanBehind_12 rfl ?_
  refine aw_iload_n dX8_meanBehind_13 rfl ?_
  refine aw_iload_n dX8_meanBehind_14 rfl ?_
  refine aw_cV2IF (c_X8_goneOn (by omega) (by omega) (by omega)) lk_X8_271 dX8_meanBehind_15 (by decide) rfl rfl (fun _ => Nat.le_of_ble_eq_true rfl) ?_
  rw [f5]
  refine aw_istore6 dX8_meanBehind_18 (by decide) rfl ?_
  refine aw_iconst dX8_meanBehind_20 ?_
  refine aw_istore7 dX8_meanBehind_21 (by decide) rfl ?_
  exact lp_X8_meanBehind hs ha hx ⟨h3, h4⟩ hV 15 0 (by omega) (by omega)
