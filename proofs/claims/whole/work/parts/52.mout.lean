/-! values by nodes, from the last node to the first -/
def fixF {β : Type} (F : (Int → β) → Int → β) (d : β) : Nat → Int → β
  | 0, _ => d
  | n + 1, x => F (fixF F d n) x
def Caus {β : Type} (nn : Int) (F : (Int → β) → Int → β) : Prop := ∀ (a b : Int → β) (x : Int), 0 ≤ x → x < nn → (∀ y : Int, x < y → y < nn → a y = b y) → F a x = F b x
theorem fix_ind {β : Type} {nn : Int} {F : (Int → β) → Int → β} {d : β} (hc : Caus nn F) : ∀ (n m : Nat) (x : Int), 0 ≤ x → x < nn → nn - x ≤ n → nn - x ≤ m → fixF F d n x = fixF F d m x
  | 0, m, x, h1, h2, h3, h4 => by omega
  | n + 1, 0, x, h1, h2, h3, h4 => by omega
  | n + 1, m + 1, x, h1, h2, h3, h4 => by
    simp only [fixF]
    exact hc _ _ x h1 h2 (fun y a b => fix_ind hc n m y (by omega) b (by omega) (by omega))
theorem fix_eq {β : Type} {nn : Int} {F : (Int → β) → Int → β} {d : β} (hc : Caus nn F) (hn : nn ≤ 9) {x : Int} (h1 : 0 ≤ x) (h2 : x < nn) : fixF F d 9 x = F (fixF F d 9) x := by
  rw [fix_ind hc 9 10 x h1 h2 (by omega) (by omega)]; rfl
/-- a fold over the words from x sees only what is behind x -/
theorem fold_caus {β γ : Type} {fr to : Int → Int} {nw : Nat} {x nn : Int} (ht : ∀ k : Int, 0 ≤ k → k < nw → fr k < to k ∧ to k < nn) (f : γ → β → γ) {a b : Int → β} (hab : ∀ y : Int, x < y → y < nn → a y = b y) (s : γ) : (wl fr x nw).foldl (fun s k => f s (a (to k))) s = (wl fr x nw).foldl (fun s k => f s (b (to k))) s := by
  have : ∀ (l : List Int) (s : γ), (∀ k ∈ l, 0 ≤ k ∧ k < nw ∧ fr k = x) → l.foldl (fun s k => f s (a (to k))) s = l.foldl (fun s k => f s (b (to k))) s := by
    intro l
    induction l with
    | nil => intro s _; rfl
    | cons k l ih =>
      intro s h
      obtain ⟨h1, h2, h3⟩ := h k List.mem_cons_self
      have h4 := ht k h1 h2
      simp only [List.foldl_cons]
      rw [hab (to k) (by omega) h4.2]
      exact ih _ (fun j hj => h j (List.mem_cons_of_mem _ hj))
  exact this _ s (fun k hk => wl_mem.mp hk)
theorem wl_fold {γ : Type} {fr : Int → Int} {x : Int} {i : Nat} (f : γ → Int → γ) (s : γ) : (wl fr x (i + 1)).foldl f s = if fr i = x then f ((wl fr x i).foldl f s) i else (wl fr x i).foldl f s := by
  simp only [wl, List.foldl_append]
  split <;> simp
def FS (kd fr to : Int → Int) (nw : Nat) (V : Int → Int) (x : Int) : Int := (wl fr x nw).foldl (fun s k => s + V (to k)) (if fin (kd x) then 1 else 0)
def outB (kd me fr : Int → Int) (nw : Nat) (x : Int) : Nat := if fin (kd x) then 2 ^ (me x).toNat else if cntF fr x nw = 0 then 64 else 0
def FO (kd me fr to : Int → Int) (nw : Nat) (V : Int → Nat) (x : Int) : Nat := (wl fr x nw).foldl (fun s k => s ||| V (to k)) (outB kd me fr nw x)
def senV (kd fr to : Int → Int) (nw : Nat) : Int → Int := fixF (FS kd fr to nw) 0 9
def outV (kd me fr to : Int → Int) (nw : Nat) : Int → Nat := fixF (FO kd me fr to nw) 0 9
abbrev sen (g : am_H) : Int → Int := senV (g 5) (g 7) (g 8) (nwN g)
abbrev out (g : am_H) : Int → Nat := outV (g 5) (g 6) (g 7) (g 8) (nwN g)
theorem to_ok {g : am_H} (hs : MVs g) : ∀ k : Int, 0 ≤ k → k < nwN g → g 7 k < g 8 k ∧ g 8 k < g 0 6 := by
  intro k h1 h2
  have := (hs.2.2.2.2.1 k h1 (by unfold nwN at h2; have := hs.2.1; omega)).1
  exact ⟨this.2.1, this.2.2⟩
theorem FS_caus {g : am_H} (hs : MVs g) : Caus (g 0 6) (FS (g 5) (g 7) (g 8) (nwN g)) := by
  intro a b x _ _ hab
  unfold FS
  exact fold_caus (to_ok hs) (fun s v => s + v) hab _
theorem FO_caus {g : am_H} (hs : MVs g) : Caus (g 0 6) (FO (g 5) (g 6) (g 7) (g 8) (nwN g)) := by
  intro a b x _ _ hab
  unfold FO
  exact fold_caus (to_ok hs) (fun s v => s ||| v) hab _
theorem sen_eq {g : am_H} (hs : MVs g) {x : Int} (h1 : 0 ≤ x) (h2 : x < g 0 6) : sen g x = FS (g 5) (g 7) (g 8) (nwN g) (sen g) x := by
  unfold sen senV
  exact fix_eq (FS_caus hs) hs.1.2 h1 h2
theorem out_eq {g : am_H} (hs : MVs g) {x : Int} (h1 : 0 ≤ x) (h2 : x < g 0 6) : out g x = FO (g 5) (g 6) (g 7) (g 8) (nwN g) (out g) x := by
  unfold out outV
  exact fix_eq (FO_caus hs) hs.1.2 h1 h2
/-- outcomes are below 128 -/
theorem out_lt {g : am_H} (hs : MVs g) : ∀ (n : Nat) (x : Int), 0 ≤ x → x < g 0 6 → g 0 6 - x ≤ n → out g x < 128 := by
  intro n
  induction n with
  | zero => intro x h1 h2 h3; omega
  | succ n ih =>
    intro x h1 h2 h3
    rw [out_eq hs h1 h2]
    unfold FO
    have hb : outB (g 5) (g 6) (g 7) (nwN g) x < 128 := by
      unfold outB
      have hm := (hs.2.2.2.1 x h1 h2).2
      split
      · have : 2 ^ (g 6 x).toNat ≤ 2 ^ 5 := Nat.pow_le_pow_right (by decide) (by omega)
        omega
      · split <;> omega
    have : ∀ (l : List Int) (s : Nat), s < 2 ^ 7 → (∀ k ∈ l, k ∈ wl (g 7) x (nwN g)) → l.foldl (fun s k => s ||| out g (g 8 k)) s < 2 ^ 7 := by
      intro l
      induction l with
      | nil => intro s hs _; exact hs
      | cons k l ihl =>
        intro s hs' hk
        obtain ⟨a1, a2, a3⟩ := wl_mem.mp (hk k List.mem_cons_self)
        have a4 := to_ok hs k a1 a2
        simp only [List.foldl_cons]
        refine ihl _ (Nat.or_lt_two_pow hs' ?_) (fun j hj => hk j (List.mem_cons_of_mem _ hj))
        exact ih (g 8 k) (by omega) a4.2 (by omega)
    exact this _ _ hb (fun k hk => hk)
theorem fold_or_lt {g : am_H} (hs : MVs g) {x : Int} (h1 : 0 ≤ x) (h2 : x < g 0 6) : ∀ i : Nat, (i : Int) ≤ g 0 10 → (wl (g 7) x i).foldl (fun s k => s ||| out g (g 8 k)) (outB (g 5) (g 6) (g 7) (nwN g) x) < 128
  | 0, _ => by
    show outB (g 5) (g 6) (g 7) (nwN g) x < 128
    unfold outB
    have hm := (hs.2.2.2.1 x h1 h2).2
    split
    · have : 2 ^ (g 6 x).toNat ≤ 2 ^ 5 := Nat.pow_le_pow_right (by decide) (by omega)
      omega
    · split <;> omega
  | i + 1, hi => by
    have ih := fold_or_lt hs h1 h2 i (by omega)
    rw [wl_fold]
    split
    · rename_i e
      have a4 := to_ok hs i (by omega) (by unfold nwN; omega)
      have a5 := out_lt hs 9 (g 8 i) (by omega) a4.2 (by have := hs.1; omega)
      exact (show _ < 2 ^ 7 from Nat.or_lt_two_pow ih a5)
    · exact ih
/-- how far findOutcomes has come -/
def FoI (g g' : am_H) (x : Int) : Prop := (∀ c : Int, ¬ c = 22 → ¬ c = 23 → g' c = g c) ∧ ∀ y : Int, x < y → y < g 0 6 → g' 22 y = sen g y ∧ g' 23 y = (out g y : Nat)
theorem lp_X8_fo2 {g : am_H} {dl : Nat} (hs : MVs g) {x : Int} (hx : 0 ≤ x ∧ x < g 0 6) {x2 : Int} (K : ∀ g' : am_H, FoI g g' (x - 1) → ∀ x3 : Int, AW GM mX8_findOutcomes dl (am_QV (fun g' => FoI g g' (-1))) 155 [some (am_R 0), some (am_I x), some (am_I x2), some (am_I x3)] [] g') : ∀ (m i : Nat) (g' : am_H), (i : Int) ≤ g 0 10 → g 0 10 - i < m → FoI g g' x → g' 22 x = (wl (g 7) x i).foldl (fun s k => s + sen g (g 8 k)) (if fin (g 5 x) then 1 else 0) → g' 23 x = ((wl (g 7) x i).foldl (fun s k => s ||| out g (g 8 k)) (outB (g 5) (g 6) (g 7) (nwN g) x) : Nat) → AW GM mX8_findOutcomes dl (am_QV (fun g' => FoI g g' (-1))) 73 [some (am_R 0), some (am_I x), some (am_I x2), some (am_I i)] [] g' := by
  intro m
  induction m with
  | zero => intro i g' h1 h2; omega
  | succ m ih =>
    intro i g' h1 h2 hI hse hou
    have hw := hs.2.1
    have hnn := hs.1
    have f0 := hI.1 0 (by decide) (by decide)
    have f7 := hI.1 7 (by decide) (by decide)
    have f8 := hI.1 8 (by decide) (by decide)
    have hlt := fold_or_lt hs hx.1 hx.2 i h1
    have hfs := wl_fold (fr := g 7) (x := x) (i := i) (fun s k => s + sen g (g 8 k)) (if fin (g 5 x) then 1 else 0)
    have hfo := wl_fold (fr := g 7) (x := x) (i := i) (fun s k => s ||| out g (g 8 k)) (outB (g 5) (g 6) (g 7) (nwN g) x)
    have hv := hs.2.2.2.2.1 i (by omega)
    have f0w : g' 0 10 = g 0 10 := by rw [f0]
    refine aw_iload_n dX8_findOutcomes_73 rfl ?_
    refine aw_aload_n dX8_findOutcomes_74 rfl ?_
    refine aw_getI (kx := 10) fl_X8_210 dX8_findOutcomes_75 rfl rfl rfl ?_
    refine aw_icmp_ge (tgt := 155) dX8_findOutcomes_78 rfl (by omega) (by omega) (fun hc78 => ?_) (fun hc78 => ?_)
    · refine K g' ⟨hI.1, fun y a b => ?_⟩ _
      by_cases e : y = x
      · subst e
        have en : nwN g = i := by unfold nwN; omega
        rw [sen_eq hs hx.1 hx.2, out_eq hs hx.1 hx.2, hse, hou, FS, FO, en]
        exact ⟨rfl, rfl⟩
      · exact hI.2 y (by omega) b
    · have hv2 := (hv (by omega)).1
      have f7i : g' 7 i = g 7 i := by rw [f7]
      have f8i : g' 8 i = g 8 i := by rw [f8]
      refine aw_aload_n dX8_findOutcomes_81 rfl ?_
      refine aw_getR (kx := 34) fl_X8_77 dX8_findOutcomes_82 rfl rfl rfl ?_
      refine aw_iload_n dX8_findOutcomes_85 rfl ?_
      refine aw_dup2 dX8_findOutcomes_86 ?_
      refine aw_iaload dX8_findOutcomes_87 rfl (by decide) (by omega) ?_
      refine aw_aload_n dX8_findOutcomes_88 rfl ?_
      refine aw_getR (kx := 7) fl_X8_28 dX8_findOutcomes_89 rfl rfl rfl ?_
      refine aw_iload_n dX8_findOutcomes_92 rfl ?_
      refine aw_iaload dX8_findOutcomes_93 rfl (by decide) (by omega) ?_
      refine aw_iload_n dX8_findOutcomes_94 rfl ?_
      refine aw_icmp_ne (tgt := 112) dX8_findOutcomes_95 rfl (by omega) (by omega) (fun hc95 => ?_) (fun hc95 => ?_)
      · refine aw_iconst dX8_findOutcomes_112 ?_
        refine aw_iadd dX8_findOutcomes_113 ?_
        refine aw_iastore dX8_findOutcomes_114 rfl (by decide) (by omega) ?_
        have e1 : g' 22 x + 0 = (wl (g 7) x (i + 1)).foldl (fun s k => s + sen g (g 8 k)) (if fin (g 5 x) then 1 else 0) := by
          rw [hfs, if_neg (by omega), hse]; omega
        rw [e1]
        refine aw_aload_n dX8_findOutcomes_115 rfl ?_
        refine aw_getR (kx := 35) fl_X8_80 dX8_findOutcomes_116 rfl rfl rfl ?_
        refine aw_iload_n dX8_findOutcomes_119 rfl ?_
        refine aw_dup2 dX8_findOutcomes_120 ?_
        refine aw_iaload dX8_findOutcomes_121 rfl (by decide) (by omega) ?_
        refine aw_aload_n dX8_findOutcomes_122 rfl ?_
        refine aw_getR (kx := 7) fl_X8_28 dX8_findOutcomes_123 rfl rfl rfl ?_
        refine aw_iload_n dX8_findOutcomes_126 rfl ?_
        refine aw_iaload dX8_findOutcomes_127 rfl (by decide) (by omega) ?_
        refine aw_iload_n dX8_findOutcomes_128 rfl ?_
        refine aw_icmp_ne (tgt := 146) dX8_findOutcomes_129 rfl (by first | omega | (simp only [am_set_if]; simp; omega)) (by first | omega | (simp only [am_set_if]; simp; omega)) (fun hc129 => ?_) (fun hc129 => ?_)
        · refine aw_iconst dX8_findOutcomes_146 ?_
          refine aw_ior dX8_findOutcomes_147 ?_
          refine aw_iastore dX8_findOutcomes_148 rfl (by decide) (by omega) ?_
          refine aw_iinc3 dX8_findOutcomes_149 (by decide) rfl ?_
          refine aw_goto (tgt := 73) dX8_findOutcomes_152 rfl ?_
          refine ih (i + 1) _ (by omega) (by omega) ⟨fun c a b => ?_, fun y a b => ?_⟩ ?_ ?_
          · rw [am_set_c b, am_set_c a]; exact hI.1 c a b
          · rw [am_set_c (c := 23) (x := 22) (by decide), am_set_i (c := 22) (by omega), am_set_i (c := 23) (by omega), am_set_c (c := 22) (x := 23) (by decide)]
            exact hI.2 y a b
          · rw [am_set_c (c := 23) (x := 22) (by decide), am_set_s]
          · rw [am_set_s, am_set_c (c := 22) (x := 23) (by decide), hou, bt_or0 (by omega), hfo, if_neg (by omega)]
        · simp only [am_set_if] at hc129; simp at hc129; exfalso; omega
      · refine aw_aload_n dX8_findOutcomes_98 rfl ?_
        refine aw_getR (kx := 34) fl_X8_77 dX8_findOutcomes_99 rfl rfl rfl ?_
        refine aw_aload_n dX8_findOutcomes_102 rfl ?_
        refine aw_getR (kx := 8) fl_X8_31 dX8_findOutcomes_103 rfl rfl rfl ?_
        refine aw_iload_n dX8_findOutcomes_106 rfl ?_
        refine aw_iaload dX8_findOutcomes_107 rfl (by decide) (by omega) ?_
        refine aw_iaload dX8_findOutcomes_108 rfl (by decide) (by omega) ?_
        refine aw_goto (tgt := 113) dX8_findOutcomes_109 rfl ?_
        refine aw_iadd dX8_findOutcomes_113 ?_
        refine aw_iastore dX8_findOutcomes_114 rfl (by decide) (by omega) ?_
        have hIt := hI.2 (g 8 i) (by omega) hv2.2.2
        have e1 : g' 22 x + g' 22 (g' 8 i) = (wl (g 7) x (i + 1)).foldl (fun s k => s + sen g (g 8 k)) (if fin (g 5 x) then 1 else 0) := by
          rw [hfs, if_pos (by omega), hse, f8i, hIt.1]
        rw [e1]
        have e2 : (g' 23 x) = ((wl (g 7) x i).foldl (fun s k => s ||| out g (g 8 k)) (outB (g 5) (g 6) (g 7) (nwN g) x) : Nat) := hou
        have hlt2 := out_lt hs 9 (g 8 i) (by omega) hv2.2.2 (by omega)
        refine aw_aload_n dX8_findOutcomes_115 rfl ?_
        refine aw_getR (kx := 35) fl_X8_80 dX8_findOutcomes_116 rfl rfl rfl ?_
        refine aw_iload_n dX8_findOutcomes_119 rfl ?_
        refine aw_dup2 dX8_findOutcomes_120 ?_
        refine aw_iaload dX8_findOutcomes_121 rfl (by decide) (by omega) ?_
        refine aw_aload_n dX8_findOutcomes_122 rfl ?_
        refine aw_getR (kx := 7) fl_X8_28 dX8_findOutcomes_123 rfl rfl rfl ?_
        refine aw_iload_n dX8_findOutcomes_126 rfl ?_
        refine aw_iaload dX8_findOutcomes_127 rfl (by decide) (by omega) ?_
        refine aw_iload_n dX8_findOutcomes_128 rfl ?_
        refine aw_icmp_ne (tgt := 146) dX8_findOutcomes_129 rfl (by first | omega | (simp only [am_set_if]; simp; omega)) (by first | omega | (simp only [am_set_if]; simp; omega)) (fun hc129 => ?_) (fun hc129 => ?_)
        · simp only [am_set_if] at hc129; simp at hc129; exfalso; omega
        · refine aw_aload_n dX8_findOutcomes_132 rfl ?_
          refine aw_getR (kx := 35) fl_X8_80 dX8_findOutcomes_133 rfl rfl rfl ?_
          refine aw_aload_n dX8_findOutcomes_136 rfl ?_
          refine aw_getR (kx := 8) fl_X8_31 dX8_findOutcomes_137 rfl rfl rfl ?_
          refine aw_iload_n dX8_findOutcomes_140 rfl ?_
          refine aw_iaload dX8_findOutcomes_141 rfl (by decide) (by first | omega | (simp only [am_set_if]; simp; omega)) ?_
          refine aw_iaload dX8_findOutcomes_142 rfl (by decide) (by first | omega | (simp only [am_set_if]; simp; omega)) ?_
          refine aw_goto (tgt := 147) dX8_findOutcomes_143 rfl ?_
          refine aw_ior dX8_findOutcomes_147 ?_
          refine aw_iastore dX8_findOutcomes_148 rfl (by decide) (by omega) ?_
          refine aw_iinc3 dX8_findOutcomes_149 (by decide) rfl ?_
          refine aw_goto (tgt := 73) dX8_findOutcomes_152 rfl ?_
          refine ih (i + 1) _ (by omega) (by omega) ⟨fun c a b => ?_, fun y a b => ?_⟩ ?_ ?_
          · rw [am_set_c b, am_set_c a]; exact hI.1 c a b
          · rw [am_set_c (c := 23) (x := 22) (by decide), am_set_i (c := 22) (by omega), am_set_i (c := 23) (by omega), am_set_c (c := 22) (x := 23) (by decide)]
            exact hI.2 y a b
          · rw [am_set_c (c := 23) (x := 22) (by decide), am_set_s]
          · rw [am_set_s, am_set_c (c := 22) (x := 23) (by decide), am_set_c (c := 22) (x := 8) (by decide), f8i, hIt.2, hou, bt_or (by omega) (by omega), hfo, if_pos (by omega)]
