/-- can := then -/
theorem lp_X8_knows5 {g : am_H} {dl : Nat} {Q : Option am_V → am_H → Prop} {r a2 a3 a4 a5 : Int} {T : Int → Int} (hT : ∀ o : Int, 0 ≤ o → o < 1536 → T o = 0 ∨ T o = 1) (K : ∀ (g' : am_H) (x6 x7 x8 : Option am_V), Ag2 g g' → (∀ o : Int, 0 ≤ o → o < 1536 → g' 33 o = T o) → AW GM mX8_knows dl Q 249 [some (am_R 0), some (am_I r), some (am_I a2), some (am_I a3), some (am_I a4), some (am_I a5), x6, x7, x8] [] g') : ∀ (j : Nat) (of : Int) (g' : am_H) (x7 x8 : Option am_V), 0 ≤ of → of ≤ 1536 → 1536 - of < j → Ag2 g g' → g' 34 = T → (∀ o : Int, 0 ≤ o → o < of → g' 33 o = T o) → AW GM mX8_knows dl Q 221 [some (am_R 0), some (am_I r), some (am_I a2), some (am_I a3), some (am_I a4), some (am_I a5), some (am_I of), x7, x8] [] g' := by
  intro j
  induction j with
  | zero => intro of g' x7 x8 h0 h1 h2; omega
  | succ j ih =>
    intro of g' x7 x8 h0 h1 h2 ha hTe hI
    have hTo : of < 1536 → g' 34 of = 0 ∨ g' 34 of = 1 := fun h => by rw [hTe]; exact hT of h0 h
    refine aw_iload dX8_knows_221 rfl ?_
    refine aw_sipush (by decide) dX8_knows_223 ?_
    refine aw_icmp_ge (tgt := 249) dX8_knows_226 rfl (by omega) (by omega) (fun hc226 => ?_) (fun hc226 => ?_)
    · exact K g' _ _ _ ha (fun o a b => hI o a (by omega))
    · have hTo2 := hTo (by omega)
      refine aw_aload_n dX8_knows_229 rfl ?_
      refine aw_getR (kx := 45) fl_X8_112 dX8_knows_230 rfl rfl rfl ?_
      refine aw_iload dX8_knows_233 rfl ?_
      refine aw_aload_n dX8_knows_235 rfl ?_
      refine aw_getR (kx := 46) fl_X8_115 dX8_knows_236 rfl rfl rfl ?_
      refine aw_iload dX8_knows_239 rfl ?_
      refine aw_zaload dX8_knows_241 rfl (by decide) (by omega) ?_
      refine aw_zastore dX8_knows_242 rfl (by decide) (by omega) (by omega) ?_
      refine aw_iinc6 dX8_knows_243 (by decide) rfl ?_
      refine aw_goto (tgt := 221) dX8_knows_246 rfl ?_
      refine ih (of + 1) _ _ _ (by omega) (by omega) (by omega) (ha.set (Or.inl rfl)) (by rw [am_set_c (by decide)]; exact hTe) (fun o a b => ?_)
      by_cases e : o = of
      · subst e; rw [am_set_s, hTe]
      · rw [am_set_i e]; exact hI o a (by omega)
/-- the most of what can be -/
theorem lp_X8_knows6 {g g' : am_H} {dl : Nat} {r a2 a3 x M : Int} (hs : MVs g) (ha : Ag2 g g') (hx : 0 ≤ x ∧ x < g 0 6) (hC : CanOK (g' 33) (gain g x) M) (hdl : 4 ≤ dl) : ∀ (j : Nat) (of any most : Int) (x8 : Option am_V), 0 ≤ of → of ≤ 1536 → 1536 - of < j → (any = 0 ∨ any = 1) → (-1000 ≤ most ∧ most ≤ 1000) → (any = 0 → ∀ o : Int, 0 ≤ o → o < of → g' 33 o = 0) → (any = 1 → most ≤ M ∧ ∀ o : Int, 0 ≤ o → o < of → g' 33 o = 1 → gain g x o ≤ most) → AW GM mX8_knows dl (QM (1, am_set g 0 20 M)) 283 [some (am_R 0), some (am_I r), some (am_I a2), some (am_I a3), some (am_I x), some (am_I any), some (am_I most), some (am_I of), x8] [] g' := by
  have hnn := hs.1
  have hvs := ha.vs hs
  have f0 := ha 0 (by decide) (by decide)
  have f0n : g' 0 6 = g 0 6 := by rw [f0]
  have egn : ∀ of : Int, gain g' x of = gain g x of := by intro of; unfold gain; rw [f0, ha 5 (by decide) (by decide), ha 6 (by decide) (by decide), ha 12 (by decide) (by decide), ha 13 (by decide) (by decide), ha 11 (by decide) (by decide)]
  obtain ⟨hC1, o2, q1, q2, q3⟩ := hC
  intro j
  induction j with
  | zero => intro of any most x8 h0 h1 h2; omega
  | succ j ih =>
    intro of any most x8 h0 h1 h2 hany hmr hA0 hA1
    have hco := hC1 of h0
    have hgr := gain_rng hs x of
    have w0 := hA0
    by_cases hlt : of < 1536
    · have hco2 := hco hlt
      by_cases hc1 : g' 33 of = 1
      · have hle : gain g x of ≤ M := by
          rcases hco2 with q | q
          · omega
          · exact q.2.2
        have nxt : ∀ (any2 most2 : Int) (y8 : Option am_V), any2 = 1 → (-1000 ≤ most2 ∧ most2 ≤ 1000) → (most2 ≤ M ∧ gain g x of ≤ most2 ∧ (any = 1 → most ≤ most2)) → AW GM mX8_knows dl (QM (1, am_set g 0 20 M)) 283 [some (am_R 0), some (am_I r), some (am_I a2), some (am_I a3), some (am_I x), some (am_I any2), some (am_I most2), some (am_I (of + 1)), y8] [] g' := by
          intro any2 most2 y8 e1 hr2 e2
          subst e1
          refine ih (of + 1) 1 most2 y8 (by omega) (by omega) (by omega) (Or.inr rfl) hr2 (fun z => by omega) (fun _ => ⟨e2.1, fun o a b c => ?_⟩)
          by_cases e : o = of
          · subst e; exact e2.2.1
          · rcases hany with z | z
            · have := hA0 z o a (by omega); omega
            · have := (hA1 z).2 o a (by omega) c
              have := e2.2.2 z
              omega
        have hA1m := fun z => (hA1 z).1
        refine aw_iload dX8_knows_283 rfl ?_
        refine aw_sipush (by decide) dX8_knows_285 ?_
        refine aw_icmp_ge (tgt := 374) dX8_knows_288 rfl (by omega) (by omega) (fun hc288 => ?_) (fun hc288 => ?_)
        · omega
        · refine aw_aload_n dX8_knows_291 rfl ?_
          refine aw_getR (kx := 45) fl_X8_112 dX8_knows_292 rfl rfl rfl ?_
          refine aw_iload dX8_knows_295 rfl ?_
          refine aw_zaload dX8_knows_297 rfl (by decide) (by omega) ?_
          refine aw_if_eq (tgt := 312) dX8_knows_298 rfl (by omega) (fun hc298 => ?_) (fun hc298 => ?_)
          · omega
          · refine aw_aload_n dX8_knows_301 rfl ?_
            refine aw_iload dX8_knows_302 rfl ?_
            refine aw_iload dX8_knows_304 rfl ?_
            refine aw_cV2IF (c_X8_gainOf hvs (by omega)) lk_X8_290 dX8_knows_306 (by omega) rfl rfl (fun _ => Nat.le_of_ble_eq_true rfl) ?_
            refine aw_top (egn of) ?_
            refine aw_goto (tgt := 313) dX8_knows_309 rfl ?_
            refine aw_istore8 dX8_knows_313 (by decide) rfl ?_
            refine aw_aload_n dX8_knows_315 rfl ?_
            refine aw_getR (kx := 45) fl_X8_112 dX8_knows_316 rfl rfl rfl ?_
            refine aw_iload dX8_knows_319 rfl ?_
            refine aw_zaload dX8_knows_321 rfl (by decide) (by omega) ?_
            refine aw_if_eq (tgt := 342) dX8_knows_322 rfl (by omega) (fun hc322 => ?_) (fun hc322 => ?_)
            · omega
            · refine aw_iload dX8_knows_325 rfl ?_
              refine aw_if_eq (tgt := 337) dX8_knows_327 rfl (by omega) (fun hc327 => ?_) (fun hc327 => ?_)
              · refine aw_iload dX8_knows_337 rfl ?_
                refine aw_goto (tgt := 344) dX8_knows_339 rfl ?_
                refine aw_istore6 dX8_knows_344 (by decide) rfl ?_
                refine aw_iload dX8_knows_346 rfl ?_
                refine aw_if_ne (tgt := 361) dX8_knows_348 rfl (by omega) (fun hc348 => ?_) (fun hc348 => ?_)
                · omega
                · refine aw_aload_n dX8_knows_351 rfl ?_
                  refine aw_getR (kx := 45) fl_X8_112 dX8_knows_352 rfl rfl rfl ?_
                  refine aw_iload dX8_knows_355 rfl ?_
                  refine aw_zaload dX8_knows_357 rfl (by decide) (by omega) ?_
                  refine aw_if_eq (tgt := 365) dX8_knows_358 rfl (by omega) (fun hc358 => ?_) (fun hc358 => ?_)
                  · omega
                  · refine aw_iconst dX8_knows_361 ?_
                    refine aw_goto (tgt := 366) dX8_knows_362 rfl ?_
                    refine aw_istore5 dX8_knows_366 (by decide) rfl ?_
                    refine aw_iinc7 dX8_knows_368 (by decide) rfl ?_
                    refine aw_goto (tgt := 283) dX8_knows_371 rfl ?_
                    exact nxt _ _ _ rfl (by omega) ⟨hle, by omega, fun z => by omega⟩
              · refine aw_iload dX8_knows_330 rfl ?_
                refine aw_iload dX8_knows_332 rfl ?_
                refine aw_icmp_le (tgt := 342) dX8_knows_334 rfl (by omega) (by omega) (fun hc334 => ?_) (fun hc334 => ?_)
                · refine aw_iload dX8_knows_342 rfl ?_
                  refine aw_istore6 dX8_knows_344 (by decide) rfl ?_
                  refine aw_iload dX8_knows_346 rfl ?_
                  refine aw_if_ne (tgt := 361) dX8_knows_348 rfl (by omega) (fun hc348 => ?_) (fun hc348 => ?_)
                  · refine aw_iconst dX8_knows_361 ?_
                    refine aw_goto (tgt := 366) dX8_knows_362 rfl ?_
                    refine aw_istore5 dX8_knows_366 (by decide) rfl ?_
                    refine aw_iinc7 dX8_knows_368 (by decide) rfl ?_
                    refine aw_goto (tgt := 283) dX8_knows_371 rfl ?_
                    exact nxt _ _ _ rfl (by omega) ⟨hA1m (by omega), by omega, fun z => by omega⟩
                  · omega
                · refine aw_iload dX8_knows_337 rfl ?_
                  refine aw_goto (tgt := 344) dX8_knows_339 rfl ?_
                  refine aw_istore6 dX8_knows_344 (by decide) rfl ?_
                  refine aw_iload dX8_knows_346 rfl ?_
                  refine aw_if_ne (tgt := 361) dX8_knows_348 rfl (by omega) (fun hc348 => ?_) (fun hc348 => ?_)
                  · refine aw_iconst dX8_knows_361 ?_
                    refine aw_goto (tgt := 366) dX8_knows_362 rfl ?_
                    refine aw_istore5 dX8_knows_366 (by decide) rfl ?_
                    refine aw_iinc7 dX8_knows_368 (by decide) rfl ?_
                    refine aw_goto (tgt := 283) dX8_knows_371 rfl ?_
                    exact nxt _ _ _ rfl (by omega) ⟨hle, by omega, fun z => by omega⟩
                  · omega
      · have hc0 : g' 33 of = 0 := by omega
        have nxt : ∀ (any2 most2 : Int) (y8 : Option am_V), any2 = any → most2 = most → AW GM mX8_knows dl (QM (1, am_set g 0 20 M)) 283 [some (am_R 0), some (am_I r), some (am_I a2), some (am_I a3), some (am_I x), some (am_I any2), some (am_I most2), some (am_I (of + 1)), y8] [] g' := by
          intro any2 most2 y8 e1 e2
          subst e1 e2
          refine ih (of + 1) _ _ y8 (by omega) (by omega) (by omega) hany hmr (fun z o a b => ?_) (fun z => ⟨(hA1 z).1, fun o a b c => ?_⟩)
          · by_cases e : o = of
            · subst e; exact hc0
            · exact hA0 z o a (by omega)
          · by_cases e : o = of
            · subst e; omega
            · exact (hA1 z).2 o a (by omega) c
        refine aw_iload dX8_knows_283 rfl ?_
        refine aw_sipush (by decide) dX8_knows_285 ?_
        refine aw_icmp_ge (tgt := 374) dX8_knows_288 rfl (by omega) (by omega) (fun hc288 => ?_) (fun hc288 => ?_)
        · omega
        · refine aw_aload_n dX8_knows_291 rfl ?_
          refine aw_getR (kx := 45) fl_X8_112 dX8_knows_292 rfl rfl rfl ?_
          refine aw_iload dX8_knows_295 rfl ?_
          refine aw_zaload dX8_knows_297 rfl (by decide) (by omega) ?_
          refine aw_if_eq (tgt := 312) dX8_knows_298 rfl (by omega) (fun hc298 => ?_) (fun hc298 => ?_)
          · refine aw_iconst dX8_knows_312 ?_
            refine aw_istore8 dX8_knows_313 (by decide) rfl ?_
            refine aw_aload_n dX8_knows_315 rfl ?_
            refine aw_getR (kx := 45) fl_X8_112 dX8_knows_316 rfl rfl rfl ?_
            refine aw_iload dX8_knows_319 rfl ?_
            refine aw_zaload dX8_knows_321 rfl (by decide) (by omega) ?_
            refine aw_if_eq (tgt := 342) dX8_knows_322 rfl (by omega) (fun hc322 => ?_) (fun hc322 => ?_)
            · refine aw_iload dX8_knows_342 rfl ?_
              refine aw_istore6 dX8_knows_344 (by decide) rfl ?_
              refine aw_iload dX8_knows_346 rfl ?_
              refine aw_if_ne (tgt := 361) dX8_knows_348 rfl (by omega) (fun hc348 => ?_) (fun hc348 => ?_)
              · refine aw_iconst dX8_knows_361 ?_
                refine aw_goto (tgt := 366) dX8_knows_362 rfl ?_
                refine aw_istore5 dX8_knows_366 (by decide) rfl ?_
                refine aw_iinc7 dX8_knows_368 (by decide) rfl ?_
                refine aw_goto (tgt := 283) dX8_knows_371 rfl ?_
                exact nxt _ _ _ (by omega) rfl
              · refine aw_aload_n dX8_knows_351 rfl ?_
                refine aw_getR (kx := 45) fl_X8_112 dX8_knows_352 rfl rfl rfl ?_
                refine aw_iload dX8_knows_355 rfl ?_
                refine aw_zaload dX8_knows_357 rfl (by decide) (by omega) ?_
                refine aw_if_eq (tgt := 365) dX8_knows_358 rfl (by omega) (fun hc358 => ?_) (fun hc358 => ?_)
                · refine aw_iconst dX8_knows_365 ?_
                  refine aw_istore5 dX8_knows_366 (by decide) rfl ?_
                  refine aw_iinc7 dX8_knows_368 (by decide) rfl ?_
                  refine aw_goto (tgt := 283) dX8_knows_371 rfl ?_
                  exact nxt _ _ _ (by omega) rfl
                · omega
            · omega
          · omega
    · have h5 : any = 1 := by
        rcases hany with z | z
        · have := hA0 z o2 q1.1 (by omega); omega
        · exact z
      have h6 := hA1 h5
      have h7 := h6.2 o2 q1.1 (by omega) q2
      have h8 : most = M := by omega
      refine aw_iload dX8_knows_283 rfl ?_
      refine aw_sipush (by decide) dX8_knows_285 ?_
      refine aw_icmp_ge (tgt := 374) dX8_knows_288 rfl (by omega) (by omega) (fun hc288 => ?_) (fun hc288 => ?_)
      · refine aw_aload_n dX8_knows_374 rfl ?_
        refine aw_iconst dX8_knows_375 ?_
        refine aw_iload dX8_knows_376 rfl ?_
        refine aw_cV2IF c_X8_answer lk_X8_151 dX8_knows_378 (by omega) rfl rfl (fun _ => Nat.le_of_ble_eq_true rfl) ?_
        refine aw_iretQ dX8_knows_381 rfl ?_
        rw [h8]; exact ⟨rfl, ha.me.set (by omega)⟩
      · omega
theorem lp_X8_knows1 {g : am_H} {r a2 a3 M : Int} (hs : MVs g) (hy : MVy g) (hr : 0 ≤ r ∧ r ≤ 5) (h0 : ¬ g 0 6 = 0) (hz : 0 ≤ g 1 r ∧ g 1 r ≤ 8) (hen : 0 ≤ rwN g r) : ∀ (m i : Nat) (g' : am_H) (x6 x7 x8 : Option am_V), (i : Int) ≤ g 1 r → g 1 r - i < m → Ag2 g g' → CanOK (g' 33) (kbF g r (g 1 r).toNat ((g 1 r).toNat - i)) M → AW GM mX8_knows 4 (QM (1, am_set g 0 20 M)) 92 [some (am_R 0), some (am_I r), some (am_I a2), some (am_I a3), some (am_I (rwE g r i)), some (am_I i), x6, x7, x8] [] g' := by
  have hnn := hs.1
  have hw := hs.2.1
  intro m
  induction m with
  | zero => intro i g' x6 x7 x8 h1 h2; omega
  | succ m ih =>
    intro i g' x6 x7 x8 h1 h2 ha hC
    have f1 := ha 1 (by decide) (by decide)
    have f2 := ha 2 (by decide) (by decide)
    have f8 := ha 8 (by decide) (by decide)
    have f1r : g' 1 r = g 1 r := by rw [f1]
    have hed := rwE_rng hs hy h0 r i
    by_cases hlt : (i : Int) < g 1 r
    · have h5 := rwE_ok (g := g) (r := r) (i := i) (n := (g 1 r).toNat) (by omega) hen
      have hf2 := (hs.2.2.2.2.1 _ h5.2.1.1 (by omega)).1
      have ek : (g 1 r).toNat - i = ((g 1 r).toNat - (i + 1)) + 1 := by omega
      rw [ek] at hC
      have hv1 : ∀ of : Int, kbF g r (g 1 r).toNat ((g 1 r).toNat - (i + 1) + 1) of = kbP g (kbF g r (g 1 r).toNat ((g 1 r).toNat - (i + 1))) (rwE g r i) of (g 0 15).toNat := by
        intro of
        show kbP g _ (rwE g r ((g 1 r).toNat - ((g 1 r).toNat - (i + 1) + 1))) of _ = _
        rw [show (g 1 r).toNat - ((g 1 r).toNat - (i + 1) + 1) = i by omega]
      obtain ⟨hC1, o2, q1, q2, q3⟩ := hC
      have K5 : ∀ (g2 : am_H) (y6 y7 y8 : Option am_V), Ag2 g g2 → CanOK (g2 33) (kbF g r (g 1 r).toNat ((g 1 r).toNat - (i + 1))) M → AW GM mX8_knows 4 (QM (1, am_set g 0 20 M)) 249 [some (am_R 0), some (am_I r), some (am_I a2), some (am_I a3), some (am_I (rwE g r i)), some (am_I i), y6, y7, y8] [] g2 := by
        intro g2 y6 y7 y8 ha2 hC2
        have f2i : g2 2 (40 * r + i) = g 2 (40 * r + i) := by rw [ha2 2 (by decide) (by decide)]
        have fto : g2 8 (g2 2 (40 * r + i)) = rwE g r (i + 1) := by rw [ha2 8 (by decide) (by decide), f2i, h5.2.2.2]
        refine aw_aload_n dX8_knows_249 rfl ?_
        refine aw_getR (kx := 8) fl_X8_31 dX8_knows_250 rfl rfl rfl ?_
        refine aw_aload_n dX8_knows_253 rfl ?_
        refine aw_getR (kx := 1) fl_X8_13 dX8_knows_254 rfl rfl rfl ?_
        refine aw_bipush (by decide) dX8_knows_257 ?_
        refine aw_iload_n dX8_knows_259 rfl ?_
        refine aw_imul dX8_knows_260 ?_
        refine aw_iload dX8_knows_261 rfl ?_
        refine aw_iadd dX8_knows_263 ?_
        refine aw_iaload dX8_knows_264 rfl (by decide) (by omega) ?_
        refine aw_iaload dX8_knows_265 rfl (by decide) (by omega) ?_
        refine aw_top fto ?_
        refine aw_istore4 dX8_knows_266 (by decide) rfl ?_
        refine aw_iinc5 dX8_knows_268 (by decide) rfl ?_
        refine aw_goto (tgt := 92) dX8_knows_271 rfl ?_
        exact ih (i + 1) g2 _ _ _ (by omega) (by omega) ha2 hC2
      have K3 : ∀ (g2 : am_H) (y6 y7 y8 : Option am_V), Ag2 g g2 → g2 33 = g' 33 → ThI (kbF g r (g 1 r).toNat ((g 1 r).toNat - (i + 1) + 1)) (kbF g r (g 1 r).toNat ((g 1 r).toNat - (i + 1))) (g' 33) (g2 34) M 1536 → AW GM mX8_knows 4 (QM (1, am_set g 0 20 M)) 218 [some (am_R 0), some (am_I r), some (am_I a2), some (am_I a3), some (am_I (rwE g r i)), some (am_I i), y6, y7, y8] [] g2 := by
        intro g2 y6 y7 y8 ha2 hc2 hTh
        obtain ⟨t2, t3, t4, t5⟩ := hTh.2 o2 q1.1 q1.2 q2
        have hfin : ∀ f : Int → Int, (∀ o : Int, 0 ≤ o → o < 1536 → f o = g2 34 o) → CanOK f (kbF g r (g 1 r).toNat ((g 1 r).toNat - (i + 1))) M := by
          intro f hf
          refine ⟨fun o a b => ?_, t2, t3, ?_, ?_⟩
          · rw [hf o a b]; exact hTh.1 o a b
          · rw [hf t2 t3.1 t3.2]; exact t4
          · rw [t5]; exact q3
        refine aw_iconst dX8_knows_218 ?_
        refine aw_istore6 dX8_knows_219 (by decide) rfl ?_
        exact lp_X8_knows5 (T := g2 34) (fun o a b => (hTh.1 o a b).elim (fun q => Or.inl q) (fun q => Or.inr q.1)) (fun g3 z6 z7 z8 ha3 hE => K5 g3 z6 z7 z8 ha3 (hfin _ hE)) 1537 0 g2 _ _ (by omega) (by omega) (by omega) ha2 rfl (fun o a b => by omega)
      have K2 : ∀ (g2 : am_H) (y6 y7 y8 : Option am_V), Ag2 g g2 → g2 33 = g' 33 → (∀ o : Int, 0 ≤ o → o < 1536 → g2 34 o = 0) → AW GM mX8_knows 4 (QM (1, am_set g 0 20 M)) 128 [some (am_R 0), some (am_I r), some (am_I a2), some (am_I a3), some (am_I (rwE g r i)), some (am_I i), y6, y7, y8] [] g2 := by
        intro g2 y6 y7 y8 ha2 hc2 hT0
        refine aw_iconst dX8_knows_128 ?_
        refine aw_istore6 dX8_knows_129 (by decide) rfl ?_
        exact lp_X8_knows3 hs ⟨h5.1, hed.2⟩ hC1 hv1 K3 (by decide) 1537 0 g2 _ _ (by omega) (by omega) (by omega) ha2 hc2 ⟨fun o a b => Or.inl (hT0 o a b), fun o a b => by omega⟩
      refine aw_iload dX8_knows_92 rfl ?_
      refine aw_aload_n dX8_knows_94 rfl ?_
      refine aw_getR (kx := 0) fl_X8_7 dX8_knows_95 rfl rfl rfl ?_
      refine aw_iload_n dX8_knows_98 rfl ?_
      refine aw_iaload dX8_knows_99 rfl (by decide) (by omega) ?_
      refine aw_icmp_ge (tgt := 274) dX8_knows_100 rfl (by omega) (by omega) (fun hc100 => ?_) (fun hc100 => ?_)
      · omega
      · refine aw_iconst dX8_knows_103 ?_
        refine aw_istore6 dX8_knows_104 (by decide) rfl ?_
        exact lp_X8_knows2 K2 1537 0 g' _ _ (by omega) (by omega) (by omega) ha rfl (fun o a b => by omega)
    · have en : (g 1 r).toNat = i := by omega
      rw [en, Nat.sub_self] at hC
      rw [rwN, en] at hen
      refine aw_iload dX8_knows_92 rfl ?_
      refine aw_aload_n dX8_knows_94 rfl ?_
      refine aw_getR (kx := 0) fl_X8_7 dX8_knows_95 rfl rfl rfl ?_
      refine aw_iload_n dX8_knows_98 rfl ?_
      refine aw_iaload dX8_knows_99 rfl (by decide) (by omega) ?_
      refine aw_icmp_ge (tgt := 274) dX8_knows_100 rfl (by omega) (by omega) (fun hc100 => ?_) (fun hc100 => ?_)
      · refine aw_iconst dX8_knows_274 ?_
        refine aw_istore5 dX8_knows_275 (by decide) rfl ?_
        refine aw_iconst dX8_knows_277 ?_
        refine aw_istore6 dX8_knows_278 (by decide) rfl ?_
        refine aw_iconst dX8_knows_280 ?_
        refine aw_istore7 dX8_knows_281 (by decide) rfl ?_
        exact lp_X8_knows6 hs ha ⟨hen, hed.2⟩ hC (by decide) 1537 0 0 0 _ (by omega) (by omega) (by omega) (Or.inl rfl) (by omega) (fun _ o a b => by omega) (fun z => by omega)
      · omega
theorem lp_X8_knows0 {g : am_H} {dl : Nat} {Q : Option am_V → am_H → Prop} {r a2 a3 : Int} (hd : VS (g 0 19)) (K : ∀ (g' : am_H) (x4 x5 x6 x7 x8 : Option am_V), Ag2 g g' → (∀ o : Int, 0 ≤ o → o < 1536 → g' 33 o = if o = g 0 19 then 1 else 0) → AW GM mX8_knows dl Q 83 [some (am_R 0), some (am_I r), some (am_I a2), some (am_I a3), x4, x5, x6, x7, x8] [] g') : ∀ (j : Nat) (of : Int) (g' : am_H) (x5 x6 x7 x8 : Option am_V), 0 ≤ of → of ≤ 1536 → 1536 - of < j → Ag2 g g' → (∀ o : Int, 0 ≤ o → o < of → g' 33 o = if o = g 0 19 then 1 else 0) → AW GM mX8_knows dl Q 48 [some (am_R 0), some (am_I r), some (am_I a2), some (am_I a3), some (am_I of), x5, x6, x7, x8] [] g' := by
  have hd1 := hd.1
  have hd2 := hd.2.1
  intro j
  induction j with
  | zero => intro of g' x5 x6 x7 x8 h0 h1 h2; omega
  | succ j ih =>
    intro of g' x5 x6 x7 x8 h0 h1 h2 ha hI
    have f0s : g' 0 19 = g 0 19 := by rw [ha 0 (by decide) (by decide)]
    have nxt : ∀ v : Int, of < 1536 → v = (if of = g 0 19 then 1 else 0) → AW GM mX8_knows dl Q 48 [some (am_R 0), some (am_I r), some (am_I a2), some (am_I a3), some (am_I (of + 1)), x5, x6, x7, x8] [] (am_set g' 33 of v) := by
      intro v hlt hv
      refine ih (of + 1) _ _ _ _ _ (by omega) (by omega) (by omega) (ha.set (Or.inl rfl)) (fun o a b => ?_)
      by_cases e : o = of
      · subst e; rw [am_set_s, hv]
      · rw [am_set_i e]; exact hI o a (by omega)
    refine aw_iload dX8_knows_48 rfl ?_
    refine aw_sipush (by decide) dX8_knows_50 ?_
    refine aw_icmp_ge (tgt := 83) dX8_knows_53 rfl (by omega) (by omega) (fun hc53 => ?_) (fun hc53 => ?_)
    · exact K g' _ _ _ _ _ ha (fun o a b => hI o a (by omega))
    · refine aw_aload_n dX8_knows_56 rfl ?_
      refine aw_getR (kx := 45) fl_X8_112 dX8_knows_57 rfl rfl rfl ?_
      refine aw_iload dX8_knows_60 rfl ?_
      refine aw_iload dX8_knows_62 rfl ?_
      refine aw_aload_n dX8_knows_64 rfl ?_
      refine aw_getI (kx := 19) fl_X8_219 dX8_knows_65 rfl rfl rfl ?_
      refine aw_icmp_ne (tgt := 75) dX8_knows_68 rfl (by omega) (by omega) (fun hc68 => ?_) (fun hc68 => ?_)
      · refine aw_iconst dX8_knows_75 ?_
        refine aw_zastore dX8_knows_76 rfl (by decide) (by omega) (by omega) ?_
        refine aw_iinc4 dX8_knows_77 (by decide) rfl ?_
        refine aw_goto (tgt := 48) dX8_knows_80 rfl ?_
        exact nxt _ (by omega) (by rw [if_neg (by omega)])
      · refine aw_iconst dX8_knows_71 ?_
        refine aw_goto (tgt := 76) dX8_knows_72 rfl ?_
        refine aw_zastore dX8_knows_76 rfl (by decide) (by omega) (by omega) ?_
        refine aw_iinc4 dX8_knows_77 (by decide) rfl ?_
        refine aw_goto (tgt := 48) dX8_knows_80 rfl ?_
        exact nxt _ (by omega) (by rw [if_pos (by omega)])
noncomputable def S_knows (g : am_H) (r : Int) : Int × am_H := if ¬ (0 ≤ r ∧ r ≤ 5) then (-1, g) else if (lkR g r).1 < 0 then lkR g r else if rwN g r < 0 ∨ ¬ dgF g (rwN g r) = 0 then (-3, findF g 3) else (1, am_set g 0 20 (kbF g r (g 1 r).toNat (g 1 r).toNat (g 0 19)))
theorem c_X8_knows {g : am_H} {r : Int} (hs : MVs g) (hy : MVy g) (hv : MVr g) (hd : VS (g 0 19)) (hr : -2147483648 ≤ r ∧ r < 2147483648) : AMet GM mX8_knows 4 [am_R 0, am_I r] g (QM (S_knows g r)) := by
  have hnn := hs.1
  have hlr := lkR_rng g r
  have hd1 := hd.1
  have hd2 := hd.2.1
  refine am_start [some (am_R 0), some (am_I r), none, none, none, none, none, none, none] rfl rfl (by decide) (Nat.le_of_ble_eq_true rfl) ?_
  have K : ∀ (g' : am_H) (no en : Int) (x4 x5 x6 x7 x8 : Option am_V), 0 ≤ r ∧ r ≤ 5 → ¬ (lkR g r).1 < 0 → 0 ≤ rwN g r → dgF g (rwN g r) = 0 → Ag2 g g' → (∀ o : Int, 0 ≤ o → o < 1536 → g' 33 o = if o = g 0 19 then 1 else 0) → AW GM mX8_knows 4 (QM (S_knows g r)) 83 [some (am_R 0), some (am_I r), some (am_I no), some (am_I en), x4, x5, x6, x7, x8] [] g' := by
    intro g' no en x4 x5 x6 x7 x8 hr2 hlk he hdg ha hC
    obtain ⟨k0, k1, k2, k3, k4⟩ := lkR_0 hlk
    rw [S_knows, if_neg (by omega), if_neg hlk, if_neg (fun z => z.elim (fun q => absurd q (by omega)) (fun q => q hdg))]
    refine aw_aload_n dX8_knows_83 rfl ?_
    refine aw_cV0IF (c_X8_whereNow (ha.vs hs) (ha.vy hy)) lk_X8_274 dX8_knows_84 (by decide) rfl rfl (fun _ => Nat.le_of_ble_eq_true rfl) ?_
    rw [ha.now]
    refine aw_istore4 dX8_knows_87 (by decide) rfl ?_
    refine aw_iconst dX8_knows_89 ?_
    refine aw_istore5 dX8_knows_90 (by decide) rfl ?_
    refine lp_X8_knows1 hs hy hr2 k0 ⟨k1, k2⟩ he 9 0 g' _ _ _ (by omega) (by omega) ha ⟨fun o a b => ?_, g 0 19, ⟨hd1, hd2⟩, ?_, rfl⟩
    · rw [hC o a b]
      by_cases e : o = g 0 19
      · subst e; rw [if_pos rfl]; exact Or.inr ⟨rfl, hd, Int.le_refl _⟩
      · rw [if_neg e]; exact Or.inl rfl
    · rw [hC _ hd1 hd2, if_pos rfl]
  refine aw_iload_n dX8_knows_0 rfl ?_
  refine aw_cS1IF (c_X8_isRow (by omega)) lk_X8_139 dX8_knows_1 (by decide) (fun _ => Nat.le_of_ble_eq_true rfl) ?_
  refine aw_ifb_ne (tgt := 9) dX8_knows_4 rfl (fun hc4 => ?_) (fun hc4 => ?_)
  · refine aw_aload_n dX8_knows_9 rfl ?_
    refine aw_iload_n dX8_knows_10 rfl ?_
    refine aw_cV1IF (c_X8_lacksRow hs hv (by omega)) lk_X8_329 dX8_knows_11 (by decide) rfl rfl (fun _ => Nat.le_of_ble_eq_true rfl) ?_
    refine aw_istore_2 dX8_knows_14 (by decide) rfl ?_
    refine aw_iload_n dX8_knows_15 rfl ?_
    refine aw_if_ge (tgt := 21) dX8_knows_16 rfl (by omega) (fun hc16 => ?_) (fun hc16 => ?_)
    · obtain ⟨k0, k1, k2, k3, k4⟩ := lkR_0 (g := g) (r := r) (by omega)
      refine aw_heap k3 ?_
      have hed : -9 ≤ rwN g r ∧ rwN g r < g 0 6 := rwE_rng hs hy k0 r (g 1 r).toNat
      refine aw_aload_n dX8_knows_21 rfl ?_
      refine aw_iload_n dX8_knows_22 rfl ?_
      refine aw_cV1IF (c_X8_endOf hs hy hv (by omega) (by omega) (by omega)) lk_X8_332 dX8_knows_23 (by decide) rfl rfl (fun _ => Nat.le_of_ble_eq_true rfl) ?_
      refine aw_istore_3 dX8_knows_26 (by decide) rfl ?_
      refine aw_iload_n dX8_knows_27 rfl ?_
      refine aw_if_lt (tgt := 39) dX8_knows_28 rfl (by omega) (fun hc28 => ?_) (fun hc28 => ?_)
      · refine aw_aload_n dX8_knows_39 rfl ?_
        refine aw_iconst dX8_knows_40 ?_
        refine aw_cV1IF (c_X8_find (by omega)) lk_X8_143 dX8_knows_41 (by decide) rfl rfl (fun _ => Nat.le_of_ble_eq_true rfl) ?_
        refine aw_iretQ dX8_knows_44 rfl ?_
        rw [S_knows, if_neg (by omega), if_neg (by omega), if_pos (by omega)]; exact ⟨rfl, MEq.rf _⟩
      · refine aw_aload_n dX8_knows_31 rfl ?_
        refine aw_iload_n dX8_knows_32 rfl ?_
        refine aw_cV1IF (c_X8_isOver hs (by omega)) lk_X8_225 dX8_knows_33 (by decide) rfl rfl (fun _ => Nat.le_of_ble_eq_true rfl) ?_
        refine aw_ifb_ne (tgt := 45) dX8_knows_36 rfl (fun hc36 => ?_) (fun hc36 => ?_)
        · refine aw_iconst dX8_knows_45 ?_
          refine aw_istore4 dX8_knows_46 (by decide) rfl ?_
          exact lp_X8_knows0 hd (fun g' y4 y5 y6 y7 y8 ha hC => K g' _ _ _ _ _ _ _ hc4 (by omega) (by omega) hc36 ha hC) 1537 0 g _ _ _ _ (by omega) (by omega) (by omega) (fun c _ _ => rfl) (fun o a b => by omega)
        · refine aw_aload_n dX8_knows_39 rfl ?_
          refine aw_iconst dX8_knows_40 ?_
          refine aw_cV1IF (c_X8_find (by omega)) lk_X8_143 dX8_knows_41 (by decide) rfl rfl (fun _ => Nat.le_of_ble_eq_true rfl) ?_
          refine aw_iretQ dX8_knows_44 rfl ?_
          rw [S_knows, if_neg (by omega), if_neg (by omega), if_pos (Or.inr hc36)]; exact ⟨rfl, MEq.rf _⟩
    · refine aw_iload_n dX8_knows_19 rfl ?_
      refine aw_iretQ dX8_knows_20 rfl ?_
      rw [S_knows, if_neg (by omega), if_pos (by omega)]; exact ⟨rfl, MEq.rf _⟩
  · refine aw_iconst dX8_knows_7 ?_
    refine aw_iretQ dX8_knows_8 rfl ?_
    rw [S_knows, if_pos (by omega)]; exact ⟨rfl, MEq.rf _⟩
