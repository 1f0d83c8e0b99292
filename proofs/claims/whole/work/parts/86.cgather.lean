theorem FrX.upY {h h1 : am_H} {x : Int} {F : Int → Int} (a : FrX h h1 x) (hx : 0 ≤ x ∧ x < 9) : FrX h (am_up h1 (49 + x) F) x := by
  refine ⟨fun e q => ?_, fun e j q r => ?_, fun y q r s => ?_⟩
  · rw [am_up_c (by omega)]; exact a.1 e q
  · rw [am_up_c (by omega)]; exact a.2.1 e j q r
  · rw [am_up_c (by omega)]; exact a.2.2 y q r s
theorem OlX.of {h h' g : am_H} {x y : Int} (hF : FrX h h' x) (hy : 0 ≤ y ∧ y < 9) (hne : ¬ y = x) (hO : OlX h g y) : OlX h' g y := by
  unfold OlX
  rw [hF.2.1 42 y hne (by omega), hF.2.1 43 y hne (by omega), hF.2.1 44 y hne (by omega), hF.2.1 45 y hne (by omega), hF.2.1 46 y hne (by omega), hF.2.1 47 y hne (by omega), hF.2.1 58 y hne (by omega), hF.2.2 y hy.1 hy.2 hne]
  exact hO
noncomputable def jsF (g : am_H) (x n : Int) (L : List Int) : Int := if n < yrK (g 5 x) then 0 else L.foldl (fun s k => s + jst g (g 8 k) (n - yrK (g 5 x))) 0
def GaI (h h' g : am_H) (x : Int) (L : List Int) : Prop := FrX h h' x ∧ h' 47 x = h 47 x ∧ h' 58 x = h 58 x ∧ h' 42 x = L.foldl (fun s k => s + sen g (g 8 k)) 0 ∧ h' 43 x = ((L.foldl (fun s k => s ||| out g (g 8 k) % 64) 0 : Nat) : Int) ∧ h' 44 x = ((L.foldl (fun s k => s ||| out g (g 8 k)) 0 : Nat) : Int) ∧ h' 45 x = (fmF g x L).1 ∧ h' 46 x = (fmF g x L).2 ∧ ∀ n : Int, 0 ≤ n → n ≤ 8 → h' (49 + x) n = jsF g x n L
def gaY (hB : am_H) (x t yr n : Int) : Int → Int := fun i => if yr ≤ i ∧ i < n then hB (49 + x) i + hB (49 + t) (i - yr) else hB (49 + x) i
theorem lp_X2_gather2 {hB : am_H} {dl : Nat} {Q : Option am_V → am_H → Prop} {x t yr j : Int} (hx : 0 ≤ x ∧ x < 9) (ht : 0 ≤ t ∧ t < 9) (hne : ¬ t = x) (hy : 0 ≤ yr ∧ yr ≤ 1) (K : ∀ n : Int, AW GC mX2_gather dl Q 167 [some (am_R 41), some (am_I x), some (am_I yr), some (am_I j), some (am_I t), some (am_I n)] [] (am_up hB (49 + x) (gaY hB x t yr 9))) : ∀ (m : Nat) (n : Int) (f : Int → Int), yr ≤ n → n ≤ 9 → 9 - n < m → f = gaY hB x t yr n → AW GC mX2_gather dl Q 130 [some (am_R 41), some (am_I x), some (am_I yr), some (am_I j), some (am_I t), some (am_I n)] [] (am_up hB (49 + x) f) := by
  intro m
  induction m with
  | zero => intro n f h0 h1 h2; omega
  | succ m ih =>
    intro n f h0 h1 h2 hf
    by_cases hlt : n < 9
    · refine aw_iload dX2_gather_130 rfl ?_
      refine aw_bipush (by decide) dX2_gather_132 ?_
      refine aw_icmp_gt (tgt := 167) dX2_gather_134 rfl (by omega) (by omega) (fun hc134 => ?_) (fun hc134 => ?_)
      · omega
      · refine aw_aload_n dX2_gather_137 rfl ?_
        refine aw_getR (kx := 6) fl_X2_32 dX2_gather_138 rfl rfl rfl ?_
        refine aw_iload_n dX2_gather_141 rfl ?_
        first | refine aw_aaload4 dX2_gather_142 rfl (by decide) (by omega) ?_ | refine aw_aaload5 dX2_gather_142 rfl (by decide) (by omega) ?_ | refine aw_aaload6 dX2_gather_142 rfl (by decide) (by omega) ?_
        refine aw_iload dX2_gather_143 rfl ?_
        refine aw_dup2 dX2_gather_145 ?_
        refine aw_iaload dX2_gather_146 (by exact kdY hx.1 hx.2) (by decide) (by omega) ?_
        refine aw_aload_n dX2_gather_147 rfl ?_
        refine aw_getR (kx := 6) fl_X2_32 dX2_gather_148 rfl rfl rfl ?_
        refine aw_iload dX2_gather_151 rfl ?_
        first | refine aw_aaload4 dX2_gather_153 rfl (by decide) (by omega) ?_ | refine aw_aaload5 dX2_gather_153 rfl (by decide) (by omega) ?_ | refine aw_aaload6 dX2_gather_153 rfl (by decide) (by omega) ?_
        refine aw_iload dX2_gather_154 rfl ?_
        refine aw_iload_n dX2_gather_156 rfl ?_
        refine aw_isub dX2_gather_157 ?_
        refine aw_iaload dX2_gather_158 (by exact kdY ht.1 ht.2) (by decide) (by omega) ?_
        refine aw_iadd dX2_gather_159 ?_
        refine aw_iastore dX2_gather_160 (by exact kdY hx.1 hx.2) (by decide) (by omega) ?_
        refine aw_iinc5 dX2_gather_161 (by decide) rfl ?_
        refine aw_goto (tgt := 130) dX2_gather_164 rfl ?_
        rw [am_set_ups, am_up_s, am_up_c (by omega)]
        refine ih (n + 1) _ (by omega) (by omega) (by omega) ?_
        funext i
        rw [hf]
        unfold gaY
        by_cases e : i = n
        · subst e; rw [if_pos rfl, if_neg (by omega), if_pos (by omega)]
        · rw [if_neg e]
          by_cases e2 : yr ≤ i ∧ i < n
          · rw [if_pos e2, if_pos (by omega)]
          · rw [if_neg e2, if_neg (by omega)]
    · have en : n = 9 := by omega
      subst en
      rw [hf]
      refine aw_iload dX2_gather_130 rfl ?_
      refine aw_bipush (by decide) dX2_gather_132 ?_
      refine aw_icmp_gt (tgt := 167) dX2_gather_134 rfl (by omega) (by omega) (fun hc134 => ?_) (fun hc134 => ?_)
      · exact K _
      · omega
theorem or_mod64 (a b : Nat) : (a ||| b) % 64 = a % 64 ||| b % 64 := Nat.or_mod_two_pow (n := 6)
theorem fold_mod64 {g : am_H} : ∀ (L : List Int) (s : Nat), (L.foldl (fun s k => s ||| out g (g 8 k)) s) % 64 = L.foldl (fun s k => s ||| out g (g 8 k) % 64) (s % 64)
  | [], s => rfl
  | k :: L, s => by
    simp only [List.foldl_cons]
    rw [fold_mod64 L, or_mod64]
theorem tk_cons {L : List Int} {j : Nat} {w : Int} (h : L[j]? = some w) : L.take (j + 1) = L.take j ++ [w] := by
  rw [List.take_add_one, h]; rfl
/-- the heap once a word more was gathered -/
theorem ga_step {h h' g : am_H} {x w : Int} {L : List Int} {A B C p q : Int} (hs : MVs g) (hx : 0 ≤ x ∧ x < g 0 6) (hw : 0 ≤ w ∧ w < g 0 10) (hf : g 7 w = x) (hO : ∀ y : Int, x < y → y < g 0 6 → OlX h g y) (hI : GaI h h' g x L) (hA : A = h' 42 x + sen g (g 8 w)) (hB : B = ((L.foldl (fun s k => s ||| out g (g 8 k) % 64) 0 ||| out g (g 8 w) % 64 : Nat) : Int)) (hC : C = ((L.foldl (fun s k => s ||| out g (g 8 k)) 0 ||| out g (g 8 w) : Nat) : Int)) (h2 : am_H) (hh : h2 = am_up (am_set (am_set (am_set h' 42 x A) 43 x B) 44 x C) (49 + x) (gaY (am_set (am_set (am_set h' 42 x A) 43 x B) 44 x C) x (g 8 w) (yrK (g 5 x)) 9)) (h3 : am_H) (hcase : (¬ 0 < sen g (g 8 w) ∧ h3 = h2) ∨ (0 < sen g (g 8 w) ∧ h3 = am_set (am_set h2 45 x p) 46 x q ∧ p = (if (yrs g (g 8 w)).1 + yrK (g 5 x) < h' 45 x then (yrs g (g 8 w)).1 + yrK (g 5 x) else h' 45 x) ∧ q = (if h' 46 x < (yrs g (g 8 w)).2 + yrK (g 5 x) then (yrs g (g 8 w)).2 + yrK (g 5 x) else h' 46 x))) : GaI h h3 g x (L ++ [w]) := by
  have hnn := hs.1
  have hv := (hs.2.2.2.2.1 w hw.1 hw.2).1
  have hyk := yrK_rng (g 5 x)
  obtain ⟨hF, i47, i58, i42, i43, i44, i45, i46, iY⟩ := hI
  have hOt := OlX.of (y := g 8 w) hF ⟨by omega, by omega⟩ (by omega) (hO (g 8 w) (by omega) hv.2.2)
  have hF2 : FrX h h2 x := by rw [hh]; exact ((((hF.set (c := 42) (by omega)).set (c := 43) (by omega)).set (c := 44) (by omega)).upY ⟨hx.1, by omega⟩)
  have c42 : h2 42 x = A := by rw [hh, am_up_c (by omega), am_set_c (by decide), am_set_c (by decide), am_set_s]
  have c43 : h2 43 x = B := by rw [hh, am_up_c (by omega), am_set_c (by decide), am_set_s]
  have c44 : h2 44 x = C := by rw [hh, am_up_c (by omega), am_set_s]
  have c45 : h2 45 x = h' 45 x := by rw [hh, am_up_c (by omega), am_set_c (by decide), am_set_c (by decide), am_set_c (by decide)]
  have c46 : h2 46 x = h' 46 x := by rw [hh, am_up_c (by omega), am_set_c (by decide), am_set_c (by decide), am_set_c (by decide)]
  have c47 : h2 47 x = h' 47 x := by rw [hh, am_up_c (by omega), am_set_c (by decide), am_set_c (by decide), am_set_c (by decide)]
  have c58 : h2 58 x = h' 58 x := by rw [hh, am_up_c (by omega), am_set_c (by decide), am_set_c (by decide), am_set_c (by decide)]
  have cY : ∀ n : Int, 0 ≤ n → n ≤ 8 → h2 (49 + x) n = jsF g x n (L ++ [w]) := by
    intro n a b
    have e1 := iY n a b
    have e2 := fun (q : yrK (g 5 x) ≤ n) => hOt.2.2.2.2.2.1 (n - yrK (g 5 x)) (by omega) (by omega)
    rw [hh, am_up_s]
    unfold gaY
    rw [am_set_c (x := 49 + x) (by omega), am_set_c (x := 49 + x) (by omega), am_set_c (x := 49 + x) (by omega), am_set_c (x := 49 + g 8 w) (by omega), am_set_c (x := 49 + g 8 w) (by omega), am_set_c (x := 49 + g 8 w) (by omega)]
    unfold jsF at e1 ⊢
    by_cases q : yrK (g 5 x) ≤ n
    · rw [if_pos (by omega), e1, e2 q, if_neg (by omega), if_neg (by omega), List.foldl_append]; rfl
    · rw [if_neg (by omega), e1, if_pos (by omega), if_pos (by omega)]
  have fA : A = (L ++ [w]).foldl (fun s k => s + sen g (g 8 k)) 0 := by rw [hA, i42, List.foldl_append]; rfl
  have fB : B = (((L ++ [w]).foldl (fun s k => s ||| out g (g 8 k) % 64) 0 : Nat) : Int) := by rw [hB, List.foldl_append]; rfl
  have fC : C = (((L ++ [w]).foldl (fun s k => s ||| out g (g 8 k)) 0 : Nat) : Int) := by rw [hC, List.foldl_append]; rfl
  have fm : fmF g x (L ++ [w]) = fmS (yrK (g 5 x)) (fmF g x L) (sen g (g 8 w)) (yrs g (g 8 w)) := by unfold fmF; rw [List.foldl_append]; rfl
  rcases hcase with ⟨hn, e⟩ | ⟨hp, e, ep, eq⟩
  · rw [fmS, if_neg hn] at fm
    rw [e]
    exact ⟨hF2, by rw [c47]; exact i47, by rw [c58]; exact i58, by rw [c42]; exact fA, by rw [c43]; exact fB, by rw [c44]; exact fC, by rw [c45, fm]; exact i45, by rw [c46, fm]; exact i46, cY⟩
  · rw [fmS, if_pos hp, ← i45, ← i46, ← ep, ← eq] at fm
    rw [e]
    refine ⟨(hF2.set (c := 45) (by omega)).set (c := 46) (by omega), ?_, ?_, ?_, ?_, ?_, ?_, ?_, fun n a b => ?_⟩
    · rw [am_set_c (by decide), am_set_c (by decide), c47]; exact i47
    · rw [am_set_c (by decide), am_set_c (by decide), c58]; exact i58
    · rw [am_set_c (by decide), am_set_c (by decide), c42]; exact fA
    · rw [am_set_c (by decide), am_set_c (by decide), c43]; exact fB
    · rw [am_set_c (by decide), am_set_c (by decide), c44]; exact fC
    · rw [am_set_c (by decide), am_set_s, fm]
    · rw [am_set_s, fm]
    · rw [am_set_c (by omega), am_set_c (by omega)]; exact cY n a b
theorem ga_lt {g : am_H} (hs : MVs g) {x : Int} : ∀ (L : List Int) (s : Nat), s < 128 → (∀ k ∈ L, 0 ≤ g 8 k ∧ g 8 k < g 0 6) → L.foldl (fun s k => s ||| out g (g 8 k)) s < 128
  | [], s, h, _ => h
  | k :: L, s, h, hk => by
    simp only [List.foldl_cons]
    have hnn := hs.1
    have h1 := hk k List.mem_cons_self
    have h2 := out_lt hs 9 (g 8 k) h1.1 h1.2 (by omega)
    exact ga_lt (x := x) hs L _ (show _ < 2 ^ 7 from Nat.or_lt_two_pow h h2) (fun j hj => hk j (List.mem_cons_of_mem _ hj))
