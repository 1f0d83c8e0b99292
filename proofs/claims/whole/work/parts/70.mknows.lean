def kbO (g : am_H) (v : Int → Int) (x of d : Int) : Int := v (gon (g 5 x) (bgw (g 10 d) of d))
def kbP (g : am_H) (v : Int → Int) (x of : Int) (i : Nat) : Int := (dsL i).foldl (fun s d => if cbg of d ∧ s < kbO g v x of d then kbO g v x of d else s) (v (gon (g 5 x) of))
/-- the best end, seen from k words before it -/
def kbF (g : am_H) (r : Int) (n : Nat) : Nat → Int → Int
  | 0, of => gain g (rwE g r n) of
  | k + 1, of => kbP g (kbF g r n k) (rwE g r (n - (k + 1))) of (g 0 15).toNat
theorem kbP_s (g : am_H) (v : Int → Int) (x of : Int) (i : Nat) : kbP g v x of (i + 1) = if cbg of i ∧ kbP g v x of i < kbO g v x of i then kbO g v x of i else kbP g v x of i := by
  unfold kbP dsL; rw [wl_fold, if_pos rfl]
theorem kbP_mono (g : am_H) (v : Int → Int) (x of : Int) (i : Nat) : ∀ j : Nat, kbP g v x of i ≤ kbP g v x of (i + j)
  | 0 => Int.le_refl _
  | j + 1 => by
    have := kbP_mono g v x of i j
    rw [← Nat.add_assoc, kbP_s]
    split <;> omega
theorem kbP_opt (g : am_H) (v : Int → Int) (x of : Int) {i n : Nat} (hi : i < n) (hc : cbg of i) : kbO g v x of i ≤ kbP g v x of n := by
  have h1 := kbP_mono g v x of (i + 1) (n - (i + 1))
  rw [show i + 1 + (n - (i + 1)) = n by omega] at h1
  have h2 := kbP_s g v x of i
  by_cases h : kbP g v x of i < kbO g v x of i
  · rw [if_pos ⟨hc, h⟩] at h2; omega
  · rw [if_neg (fun z => h z.2)] at h2; omega
def CanOK (f v : Int → Int) (M : Int) : Prop := (∀ o : Int, 0 ≤ o → o < 1536 → f o = 0 ∨ (f o = 1 ∧ VS o ∧ v o ≤ M)) ∧ ∃ o : Int, (0 ≤ o ∧ o < 1536) ∧ f o = 1 ∧ v o = M
def Ag2 (g g' : am_H) : Prop := ∀ c : Int, ¬ c = 33 → ¬ c = 34 → g' c = g c
theorem Ag2.vs {g g' : am_H} (h : Ag2 g g') (hs : MVs g) : MVs g' := hs.of (fun k _ => by rw [h 0 (by decide) (by decide)]) (fun c a b => h c (by omega) (by omega))
theorem Ag2.vy {g g' : am_H} (h : Ag2 g g') (hy : MVy g) : MVy g' := by
  unfold MVy; rw [h 0 (by decide) (by decide), h 14 (by decide) (by decide), h 7 (by decide) (by decide), h 8 (by decide) (by decide)]; exact hy
theorem Ag2.me {g g' : am_H} (h : Ag2 g g') : MEq g' g := ⟨fun k _ => by rw [h 0 (by decide) (by decide)], fun c hc => h c (by omega) (by omega)⟩
theorem Ag2.now {g g' : am_H} (h : Ag2 g g') : nowF g' = nowF g := by unfold nowF; rw [h 0 (by decide) (by decide), h 8 (by decide) (by decide), h 14 (by decide) (by decide)]
theorem Ag2.set {g g' : am_H} {c i v : Int} (h : Ag2 g g') (hc : c = 33 ∨ c = 34) : Ag2 g (am_set g' c i v) := fun e a b => by rw [am_set_c (by omega)]; exact h e a b
/-- then := false -/
theorem lp_X8_knows2 {g : am_H} {dl : Nat} {Q : Option am_V → am_H → Prop} {r a2 a3 a4 a5 : Int} {C : Int → Int} (K : ∀ (g' : am_H) (x6 x7 x8 : Option am_V), Ag2 g g' → g' 33 = C → (∀ o : Int, 0 ≤ o → o < 1536 → g' 34 o = 0) → AW GM mX8_knows dl Q 128 [some (am_R 0), some (am_I r), some (am_I a2), some (am_I a3), some (am_I a4), some (am_I a5), x6, x7, x8] [] g') : ∀ (j : Nat) (of : Int) (g' : am_H) (x7 x8 : Option am_V), 0 ≤ of → of ≤ 1536 → 1536 - of < j → Ag2 g g' → g' 33 = C → (∀ o : Int, 0 ≤ o → o < of → g' 34 o = 0) → AW GM mX8_knows dl Q 106 [some (am_R 0), some (am_I r), some (am_I a2), some (am_I a3), some (am_I a4), some (am_I a5), some (am_I of), x7, x8] [] g' := by
  intro j
  induction j with
  | zero => intro of g' x7 x8 h0 h1 h2; omega
  | succ j ih =>
    intro of g' x7 x8 h0 h1 h2 ha hC hT
    refine aw_iload dX8_knows_106 rfl ?_
    refine aw_sipush (by decide) dX8_knows_108 ?_
    refine aw_icmp_ge (tgt := 128) dX8_knows_111 rfl (by omega) (by omega) (fun hc111 => ?_) (fun hc111 => ?_)
    · exact K g' _ _ _ ha hC (fun o a b => hT o a (by omega))
    · refine aw_aload_n dX8_knows_114 rfl ?_
      refine aw_getR (kx := 46) fl_X8_115 dX8_knows_115 rfl rfl rfl ?_
      refine aw_iload dX8_knows_118 rfl ?_
      refine aw_iconst dX8_knows_120 ?_
      refine aw_zastore dX8_knows_121 rfl (by decide) (by omega) (by omega) ?_
      refine aw_iinc6 dX8_knows_122 (by decide) rfl ?_
      refine aw_goto (tgt := 106) dX8_knows_125 rfl ?_
      refine ih (of + 1) _ _ _ (by omega) (by omega) (by omega) (ha.set (Or.inr rfl)) (by rw [am_set_c (by decide)]; exact hC) (fun o a b => ?_)
      by_cases e : o = of
      · subst e; rw [am_set_s]
      · rw [am_set_i e]; exact hT o a (by omega)
/-- what then holds -/
def ThI (v1 v0 C f : Int → Int) (M of : Int) : Prop := (∀ o : Int, 0 ≤ o → o < 1536 → f o = 0 ∨ (f o = 1 ∧ VS o ∧ v0 o ≤ M)) ∧ ∀ o : Int, 0 ≤ o → o < of → C o = 1 → ∃ o2 : Int, (0 ≤ o2 ∧ o2 < 1536) ∧ f o2 = 1 ∧ v0 o2 = v1 o
theorem ThI.set {v1 v0 C f : Int → Int} {M of t : Int} (h : ThI v1 v0 C f M of) (ht : VS t) (hv : v0 t ≤ M) {f2 : Int → Int} (hf : f2 t = 1) (hf2 : ∀ o : Int, ¬ o = t → f2 o = f o) : ThI v1 v0 C f2 M of := by
  refine ⟨fun o a b => ?_, fun o a b c => ?_⟩
  · by_cases e : o = t
    · subst e; exact Or.inr ⟨hf, ht, hv⟩
    · rw [hf2 o e]; exact h.1 o a b
  · obtain ⟨o2, q1, q2, q3⟩ := h.2 o a b c
    refine ⟨o2, q1, ?_, q3⟩
    by_cases e : o2 = t
    · rw [e]; exact hf
    · rw [hf2 o2 e]; exact q2
theorem lp_X8_knows4 {g : am_H} {dl : Nat} {Q : Option am_V → am_H → Prop} {r a2 a3 x a5 of M : Int} {C v1 v0 : Int → Int} (hs : MVs g) (hx : 0 ≤ x ∧ x < g 0 6) (hof : VS of) (hv1 : v1 of = kbP g v0 x of (g 0 15).toNat) (hM : v1 of ≤ M) (K : ∀ (g' : am_H) (x7 x8 : Option am_V), Ag2 g g' → g' 33 = C → ThI v1 v0 C (g' 34) M (of + 1) → AW GM mX8_knows dl Q 212 [some (am_R 0), some (am_I r), some (am_I a2), some (am_I a3), some (am_I x), some (am_I a5), some (am_I of), x7, x8] [] g') (hdl : 4 ≤ dl) : ∀ (j d : Nat) (g' : am_H) (x8 : Option am_V), (d : Int) ≤ g 0 15 → g 0 15 - d < j → Ag2 g g' → g' 33 = C → ThI v1 v0 C (g' 34) M of → (∃ o2 : Int, (0 ≤ o2 ∧ o2 < 1536) ∧ g' 34 o2 = 1 ∧ v0 o2 = kbP g v0 x of d) → AW GM mX8_knows dl Q 166 [some (am_R 0), some (am_I r), some (am_I a2), some (am_I a3), some (am_I x), some (am_I a5), some (am_I of), some (am_I d), x8] [] g' := by
  have hnn := hs.1
  have hnd := hs.2.2.1
  have ho1 := hof.1
  have ho2 := hof.2.1
  have hkd := hs.2.2.2.1 x hx.1 hx.2
  intro j
  induction j with
  | zero => intro d g' x8 h1 h2; omega
  | succ j ih =>
    intro d g' x8 h1 h2 ha hC hI hE
    have f0 := ha 0 (by decide) (by decide)
    have f5 := ha 5 (by decide) (by decide)
    have f10 := ha 10 (by decide) (by decide)
    have f0d : g' 0 15 = g 0 15 := by rw [f0]
    have f5x : g' 5 x = g 5 x := by rw [f5]
    have hsp := fun h : (d : Int) < g 0 15 => hs.2.2.2.2.2.2.2.1 d (by omega) h
    have ks := kbP_s g v0 x of d
    by_cases hlt : (d : Int) < g 0 15
    · have hsp2 := hsp hlt
      have vb : cbg of d → VS (bgw (g 10 d) of d) := fun hc => vs_bgw hof hc ⟨by omega, by omega⟩ (by omega)
      refine aw_iload dX8_knows_166 rfl ?_
      refine aw_aload_n dX8_knows_168 rfl ?_
      refine aw_getI (kx := 15) fl_X8_213 dX8_knows_169 rfl rfl rfl ?_
      refine aw_icmp_ge (tgt := 212) dX8_knows_172 rfl (by omega) (by omega) (fun hc172 => ?_) (fun hc172 => ?_)
      · omega
      · refine aw_aload_n dX8_knows_175 rfl ?_
        refine aw_iload dX8_knows_176 rfl ?_
        refine aw_iload dX8_knows_178 rfl ?_
        refine aw_cV2IF c_X8_canBegin lk_X8_281 dX8_knows_180 (by omega) rfl rfl (fun _ => Nat.le_of_ble_eq_true rfl) ?_
        refine aw_ifb_eq (tgt := 206) dX8_knows_183 rfl (fun hc183 => ?_) (fun hc183 => ?_)
        · refine aw_iinc7 dX8_knows_206 (by decide) rfl ?_
          refine aw_goto (tgt := 166) dX8_knows_209 rfl ?_
          exact ih (d + 1) g' _ (by omega) (by omega) ha hC hI (by rw [ks, if_neg (fun z => hc183 z.1)]; exact hE)
        · refine aw_aload_n dX8_knows_186 rfl ?_
          refine aw_getR (kx := 46) fl_X8_115 dX8_knows_187 rfl rfl rfl ?_
          refine aw_aload_n dX8_knows_190 rfl ?_
          refine aw_iload dX8_knows_191 rfl ?_
          refine aw_aload_n dX8_knows_193 rfl ?_
          refine aw_iload dX8_knows_194 rfl ?_
          refine aw_iload dX8_knows_196 rfl ?_
          refine aw_cV2IF (c_X8_begunWith (by omega)) lk_X8_284 dX8_knows_198 (by omega) rfl rfl (fun _ => Nat.le_of_ble_eq_true rfl) ?_
          rw [f10]
          have hb := vb hc183
          have hb1 := hb.1
          have hb2 := hb.2.1
          have hg := vs_gon (k := g 5 x) hb
          have hg1 := hg.1
          have hg2 := hg.2.1
          refine aw_cV2IF (c_X8_goneOn (by omega) (by omega) (by omega)) lk_X8_271 dX8_knows_201 (by omega) rfl rfl (fun _ => Nat.le_of_ble_eq_true rfl) ?_
          rw [f5]
          refine aw_iconst dX8_knows_204 ?_
          refine aw_zastore dX8_knows_205 rfl (by decide) (by omega) (by omega) ?_
          refine aw_iinc7 dX8_knows_206 (by decide) rfl ?_
          refine aw_goto (tgt := 166) dX8_knows_209 rfl ?_
          have hopt := kbP_opt g v0 x of (i := d) (n := (g 0 15).toNat) (by omega) hc183
          have hle : v0 (gon (g 5 x) (bgw (g 10 d) of d)) ≤ M := by unfold kbO at hopt; omega
          refine ih (d + 1) _ _ (by omega) (by omega) (ha.set (Or.inr rfl)) (by rw [am_set_c (by decide)]; exact hC) (hI.set hg hle (am_set_s _ _ _ _) (fun o e => am_set_i e)) ?_
          rw [ks]
          split
          · exact ⟨_, ⟨hg1, hg2⟩, am_set_s _ _ _ _, rfl⟩
          · obtain ⟨o2, q1, q2, q3⟩ := hE
            refine ⟨o2, q1, ?_, q3⟩
            by_cases e : o2 = gon (g 5 x) (bgw (g 10 d) of d)
            · rw [e, am_set_s]
            · rw [am_set_i e]; exact q2
    · have en : (g 0 15).toNat = d := by omega
      refine aw_iload dX8_knows_166 rfl ?_
      refine aw_aload_n dX8_knows_168 rfl ?_
      refine aw_getI (kx := 15) fl_X8_213 dX8_knows_169 rfl rfl rfl ?_
      refine aw_icmp_ge (tgt := 212) dX8_knows_172 rfl (by omega) (by omega) (fun hc172 => ?_) (fun hc172 => ?_)
      · refine K g' _ _ ha hC ⟨hI.1, fun o a b c => ?_⟩
        by_cases e : o = of
        · subst e; rw [hv1, en]; exact hE
        · exact hI.2 o a (by omega) c
      · omega
theorem lp_X8_knows3 {g : am_H} {dl : Nat} {Q : Option am_V → am_H → Prop} {r a2 a3 x a5 M : Int} {C v1 v0 : Int → Int} (hs : MVs g) (hx : 0 ≤ x ∧ x < g 0 6) (hC1 : ∀ o : Int, 0 ≤ o → o < 1536 → C o = 0 ∨ (C o = 1 ∧ VS o ∧ v1 o ≤ M)) (hv1 : ∀ of : Int, v1 of = kbP g v0 x of (g 0 15).toNat) (K : ∀ (g' : am_H) (x6 x7 x8 : Option am_V), Ag2 g g' → g' 33 = C → ThI v1 v0 C (g' 34) M 1536 → AW GM mX8_knows dl Q 218 [some (am_R 0), some (am_I r), some (am_I a2), some (am_I a3), some (am_I x), some (am_I a5), x6, x7, x8] [] g') (hdl : 4 ≤ dl) : ∀ (j : Nat) (of : Int) (g' : am_H) (x7 x8 : Option am_V), 0 ≤ of → of ≤ 1536 → 1536 - of < j → Ag2 g g' → g' 33 = C → ThI v1 v0 C (g' 34) M of → AW GM mX8_knows dl Q 131 [some (am_R 0), some (am_I r), some (am_I a2), some (am_I a3), some (am_I x), some (am_I a5), some (am_I of), x7, x8] [] g' := by
  have hnn := hs.1
  have hnd := hs.2.2.1
  have hkd := hs.2.2.2.1 x hx.1 hx.2
  intro j
  induction j with
  | zero => intro of g' x7 x8 h0 h1 h2; omega
  | succ j ih =>
    intro of g' x7 x8 h0 h1 h2 ha hC hI
    have f5 := ha 5 (by decide) (by decide)
    have f5x : g' 5 x = g 5 x := by rw [f5]
    have hCo : 0 ≤ of → of < 1536 → g' 33 of = 0 ∨ (g' 33 of = 1 ∧ VS of ∧ v1 of ≤ M) := by rw [hC]; exact hC1 of
    have nxt : ∀ (g2 : am_H) (y7 y8 : Option am_V), of < 1536 → Ag2 g g2 → g2 33 = C → ThI v1 v0 C (g2 34) M (of + 1) → AW GM mX8_knows dl Q 212 [some (am_R 0), some (am_I r), some (am_I a2), some (am_I a3), some (am_I x), some (am_I a5), some (am_I of), y7, y8] [] g2 := by
      intro g2 y7 y8 hlt ha2 hC2 hI2
      refine aw_iinc6 dX8_knows_212 (by decide) rfl ?_
      refine aw_goto (tgt := 131) dX8_knows_215 rfl ?_
      exact ih (of + 1) g2 _ _ (by omega) (by omega) (by omega) ha2 hC2 hI2
    refine aw_iload dX8_knows_131 rfl ?_
    refine aw_sipush (by decide) dX8_knows_133 ?_
    refine aw_icmp_ge (tgt := 218) dX8_knows_136 rfl (by omega) (by omega) (fun hc136 => ?_) (fun hc136 => ?_)
    · exact K g' _ _ _ ha hC ⟨hI.1, fun o a b => hI.2 o a (by omega)⟩
    · have hCo2 := hCo h0 (by omega)
      refine aw_aload_n dX8_knows_139 rfl ?_
      refine aw_getR (kx := 45) fl_X8_112 dX8_knows_140 rfl rfl rfl ?_
      refine aw_iload dX8_knows_143 rfl ?_
      refine aw_zaload dX8_knows_145 rfl (by decide) (by omega) ?_
      refine aw_if_eq (tgt := 212) dX8_knows_146 rfl (by omega) (fun hc146 => ?_) (fun hc146 => ?_)
      · refine nxt g' _ _ (by omega) ha hC ⟨hI.1, fun o a b c => ?_⟩
        by_cases e : o = of
        · subst e; rw [hC] at hc146; omega
        · exact hI.2 o a (by omega) c
      · have hCo3 : g' 33 of = 1 ∧ VS of ∧ v1 of ≤ M := by
          rcases hCo2 with q | q
          · exact absurd q hc146
          · exact q
        have hg := vs_gon (k := g 5 x) hCo3.2.1
        have hg1 := hg.1
        have hg2 := hg.2.1
        refine aw_aload_n dX8_knows_149 rfl ?_
        refine aw_getR (kx := 46) fl_X8_115 dX8_knows_150 rfl rfl rfl ?_
        refine aw_aload_n dX8_knows_153 rfl ?_
        refine aw_iload dX8_knows_154 rfl ?_
        refine aw_iload dX8_knows_156 rfl ?_
        refine aw_cV2IF (c_X8_goneOn (by omega) (by omega) (by omega)) lk_X8_271 dX8_knows_158 (by omega) rfl rfl (fun _ => Nat.le_of_ble_eq_true rfl) ?_
        rw [f5]
        refine aw_iconst dX8_knows_161 ?_
        refine aw_zastore dX8_knows_162 rfl (by decide) (by omega) (by omega) ?_
        refine aw_iconst dX8_knows_163 ?_
        refine aw_istore7 dX8_knows_164 (by decide) rfl ?_
        have hb := kbP_mono g v0 x of 0 (g 0 15).toNat
        rw [Nat.zero_add, ← hv1 of] at hb
        have hb2 : v0 (gon (g 5 x) of) ≤ M := Int.le_trans hb hCo3.2.2
        exact lp_X8_knows4 hs hx hCo3.2.1 (hv1 of) hCo3.2.2 (fun g3 y7 y8 a b c => nxt g3 y7 y8 (by omega) a b c) hdl 5 0 _ _ (by omega) (by omega) (ha.set (Or.inr rfl)) (by rw [am_set_c (by decide)]; exact hC) (hI.set hg hb2 (am_set_s _ _ _ _) (fun o e => am_set_i e)) ⟨_, ⟨hg1, hg2⟩, am_set_s _ _ _ _, rfl⟩
