/-- the places at which a line sounds as the row's words do -/
def alF (g : am_H) (f : Int → Int) (r : Int) : Nat → Nat
  | 0 => 0
  | i + 1 => alF g f r i + (if g 9 (f i) = g 9 (g 2 (40 * r + i)) then 2 ^ i else 0)
theorem alF_lt (g : am_H) (f : Int → Int) (r : Int) : ∀ i : Nat, alF g f r i < 2 ^ i
  | 0 => by unfold alF; decide
  | i + 1 => by
    have := alF_lt g f r i
    unfold alF
    rw [Nat.pow_succ]
    split <;> omega
def alP (g : am_H) (r : Int) : List Int → Nat
  | [] => 0
  | w :: P => alP g r P + (if g 9 w = g 9 (g 2 (40 * r + P.length)) then 2 ^ P.length else 0)
theorem al_P (g : am_H) (f : Int → Int) (r : Int) : ∀ P : List Int, liA f P → alF g f r P.length = alP g r P
  | [], _ => rfl
  | w :: P, h => by
    have ih := al_P g f r P h.2
    show alF g f r P.length + _ = alP g r P + _
    rw [ih, h.1]
def fitP (s a : Int) : Prop := am_and s (am_xor a (-1)) = 0
def ftS (g : am_H) (r n m : Int) (F : Int → Bool) (P : List Int) : Int → Bool := fun s => F s || (decide (isS g n P ∧ ¬ g 6 (liE g P) = m) && decide (am_and s (am_xor (alP g r P : Nat) (-1)) = 0))
def ftR (g : am_H) (r : Int) : Int → Bool := (trL g (g 1 r).toNat []).foldl (ftS g r (g 1 r) (g 6 (rwN g r))) (fun _ => false)
def bsF (T : Int → Bool) : Nat → Int
  | 0 => -9
  | s + 1 => if T s = false ∧ (bsF T s < 0 ∨ pcN 16 s < pcN 16 (bsF T s).toNat) then (s : Int) else bsF T s
theorem bsF_rng (T : Int → Bool) : ∀ s : Nat, -9 ≤ bsF T s ∧ bsF T s < s
  | 0 => by unfold bsF; omega
  | s + 1 => by
    have := bsF_rng T s
    unfold bsF; split <;> omega
noncomputable def lsX (g : am_H) (n : Nat) (T : Int → Bool) : Int × am_H := if bsF T (2 ^ n) < 0 then (-9, g) else ((pcN 16 (bsF T (2 ^ n)).toNat : Nat), am_set g 0 20 (bsF T (2 ^ n)))
noncomputable def S_least (g : am_H) (r : Int) : Int × am_H := if ¬ (0 ≤ r ∧ r ≤ 5) then (-1, g) else if (lkR g r).1 < 0 then lkR g r else if rwN g r < 0 ∨ ¬ fin (g 5 (rwN g r)) then (-3, findF g 3) else lsX g (g 1 r).toNat (ftR g r)
def FtI (g' : am_H) (n : Nat) (F : Int → Bool) : Prop := ∀ s : Int, 0 ≤ s → s < ((2 ^ n : Nat) : Int) → g' 36 s = if F s = true then 1 else 0
theorem pw8 {n : Nat} (h : n ≤ 8) : 0 < 2 ^ n ∧ 2 ^ n ≤ 256 := ⟨Nat.pow_pos (by decide), (Nat.pow_le_pow_right (by decide) h : 2 ^ n ≤ 2 ^ 8)⟩
theorem lp_X8_least4 {g g' : am_H} {r a2 a3 : Int} {n : Nat} {T : Int → Bool} (ha : AgL g g') (hn : n ≤ 8) (hF : FtI g' n T) : ∀ (m s : Nat) (x7 : Option am_V), s ≤ 2 ^ n → 2 ^ n - s < m → AW GM mX8_least 4 (QM (lsX g n T)) 257 [some (am_R 0), some (am_I r), some (am_I a2), some (am_I a3), some (am_I n), some (am_I (bsF T s)), some (am_I s), x7] [] g' := by
  have hp := pw8 hn
  have hsh : am_shl 1 n = ((2 ^ n : Nat) : Int) := bt_shl1 (by omega)
  intro m
  induction m with
  | zero => intro s x7 h1 h2; omega
  | succ m ih =>
    intro s x7 h1 h2
    have hb := bsF_rng T s
    have e1 : bsF T (s + 1) = if T s = false ∧ (bsF T s < 0 ∨ pcN 16 s < pcN 16 (bsF T s).toNat) then (s : Int) else bsF T s := rfl
    have p1 := pcN_le 16 s
    have p2 := pcN_le 16 (bsF T s).toNat
    by_cases hlt : s < 2 ^ n
    · have hfs := hF s (by omega) (by omega)
      have nxt : ∀ v : Int, v = bsF T (s + 1) → AW GM mX8_least 4 (QM (lsX g n T)) 257 [some (am_R 0), some (am_I r), some (am_I a2), some (am_I a3), some (am_I n), some (am_I v), some (am_I (s + 1 : Nat)), x7] [] g' := by
        intro v hv
        rw [hv]
        exact ih (s + 1) x7 (by omega) (by omega)
      cases hTs : T s with
      | true =>
        rw [hTs, if_pos rfl] at hfs
        rw [hTs, if_neg (fun z => absurd z.1 (by decide))] at e1
        refine aw_iload dX8_least_257 rfl ?_
        refine aw_iconst dX8_least_259 ?_
        refine aw_iload dX8_least_260 rfl ?_
        refine aw_ishl dX8_least_262 ?_
        refine aw_top hsh ?_
        refine aw_icmp_ge (tgt := 309) dX8_least_263 rfl (by omega) (by omega) (fun hc263 => ?_) (fun hc263 => ?_)
        · omega
        · refine aw_aload_n dX8_least_266 rfl ?_
          refine aw_getR (kx := 49) fl_X8_121 dX8_least_267 rfl rfl rfl ?_
          refine aw_iload dX8_least_270 rfl ?_
          refine aw_zaload dX8_least_272 rfl (by decide) (by omega) ?_
          refine aw_if_ne (tgt := 299) dX8_least_273 rfl (by omega) (fun hc273 => ?_) (fun hc273 => ?_)
          · refine aw_iload dX8_least_299 rfl ?_
            refine aw_istore5 dX8_least_301 (by decide) rfl ?_
            refine aw_iinc6 dX8_least_303 (by decide) rfl ?_
            refine aw_goto (tgt := 257) dX8_least_306 rfl ?_
            exact nxt _ e1.symm
          · omega
      | false =>
        rw [hTs, if_neg (by decide)] at hfs
        rw [hTs] at e1
        refine aw_iload dX8_least_257 rfl ?_
        refine aw_iconst dX8_least_259 ?_
        refine aw_iload dX8_least_260 rfl ?_
        refine aw_ishl dX8_least_262 ?_
        refine aw_top hsh ?_
        refine aw_icmp_ge (tgt := 309) dX8_least_263 rfl (by omega) (by omega) (fun hc263 => ?_) (fun hc263 => ?_)
        · omega
        · refine aw_aload_n dX8_least_266 rfl ?_
          refine aw_getR (kx := 49) fl_X8_121 dX8_least_267 rfl rfl rfl ?_
          refine aw_iload dX8_least_270 rfl ?_
          refine aw_zaload dX8_least_272 rfl (by decide) (by omega) ?_
          refine aw_if_ne (tgt := 299) dX8_least_273 rfl (by omega) (fun hc273 => ?_) (fun hc273 => ?_)
          · omega
          · refine aw_iload dX8_least_276 rfl ?_
            refine aw_if_lt (tgt := 294) dX8_least_278 rfl (by omega) (fun hc278 => ?_) (fun hc278 => ?_)
            · refine aw_iload dX8_least_294 rfl ?_
              refine aw_goto (tgt := 301) dX8_least_296 rfl ?_
              refine aw_istore5 dX8_least_301 (by decide) rfl ?_
              refine aw_iinc6 dX8_least_303 (by decide) rfl ?_
              refine aw_goto (tgt := 257) dX8_least_306 rfl ?_
              exact nxt _ (by rw [e1, if_pos ⟨rfl, Or.inl hc278⟩])
            · refine aw_iload dX8_least_281 rfl ?_
              refine aw_cS1IF (c_X8_ones rfl (by omega)) lk_X8_256 dX8_least_283 (by decide) (fun _ => Nat.le_of_ble_eq_true rfl) ?_
              refine aw_iload dX8_least_286 rfl ?_
              refine aw_cS1IF (c_X8_ones (n := (bsF T s).toNat) (by omega) (by omega)) lk_X8_256 dX8_least_288 (by decide) (fun _ => Nat.le_of_ble_eq_true rfl) ?_
              refine aw_icmp_ge (tgt := 299) dX8_least_291 rfl (by omega) (by omega) (fun hc291 => ?_) (fun hc291 => ?_)
              · refine aw_iload dX8_least_299 rfl ?_
                refine aw_istore5 dX8_least_301 (by decide) rfl ?_
                refine aw_iinc6 dX8_least_303 (by decide) rfl ?_
                refine aw_goto (tgt := 257) dX8_least_306 rfl ?_
                exact nxt _ (by rw [e1, if_neg (fun z => by have := z.2; omega)])
              · refine aw_iload dX8_least_294 rfl ?_
                refine aw_goto (tgt := 301) dX8_least_296 rfl ?_
                refine aw_istore5 dX8_least_301 (by decide) rfl ?_
                refine aw_iinc6 dX8_least_303 (by decide) rfl ?_
                refine aw_goto (tgt := 257) dX8_least_306 rfl ?_
                exact nxt _ (by rw [e1, if_pos ⟨rfl, by omega⟩])
    · have es : s = 2 ^ n := by omega
      subst es
      refine aw_iload dX8_least_257 rfl ?_
      refine aw_iconst dX8_least_259 ?_
      refine aw_iload dX8_least_260 rfl ?_
      refine aw_ishl dX8_least_262 ?_
      refine aw_top hsh ?_
      refine aw_icmp_ge (tgt := 309) dX8_least_263 rfl (by omega) (by omega) (fun hc263 => ?_) (fun hc263 => ?_)
      · refine aw_iload dX8_least_309 rfl ?_
        refine aw_if_ge (tgt := 319) dX8_least_311 rfl (by omega) (fun hc311 => ?_) (fun hc311 => ?_)
        · refine aw_aload_n dX8_least_319 rfl ?_
          refine aw_iload dX8_least_320 rfl ?_
          refine aw_cS1IF (c_X8_ones (n := (bsF T (2 ^ n)).toNat) (by omega) (by omega)) lk_X8_256 dX8_least_322 (by decide) (fun _ => Nat.le_of_ble_eq_true rfl) ?_
          refine aw_iload dX8_least_325 rfl ?_
          refine aw_cV2IF (c_X8_answer) lk_X8_151 dX8_least_327 (by decide) rfl rfl (fun _ => Nat.le_of_ble_eq_true rfl) ?_
          refine aw_iretQ dX8_least_330 rfl ?_
          rw [lsX, if_neg (by omega)]; exact ⟨rfl, ha.me.set (by omega)⟩
        · refine aw_bipush (by decide) dX8_least_314 ?_
          refine aw_goto (tgt := 330) dX8_least_316 rfl ?_
          refine aw_iretQ dX8_least_330 rfl ?_
          rw [lsX, if_pos (by omega)]; exact ⟨rfl, ha.me⟩
      · omega
theorem lp_X8_least3 {g : am_H} {dl : Nat} {Q : Option am_V → am_H → Prop} {r a2 a3 a5 al : Int} {n : Nat} {F : Int → Bool} {P : List Int} (hn : n ≤ 8) (K : ∀ (g' : am_H) (x7 : Option am_V), LinI g g' P → FtI g' n (fun s => F s || decide (am_and s (am_xor al (-1)) = 0)) → AW GM mX8_least dl Q 238 [some (am_R 0), some (am_I r), some (am_I a2), some (am_I a3), some (am_I n), some (am_I a5), some (am_I al), x7] [] g') : ∀ (m s : Nat) (g' : am_H), s ≤ 2 ^ n → 2 ^ n - s < m → LinI g g' P → (∀ t : Int, 0 ≤ t → t < ((2 ^ n : Nat) : Int) → g' 36 t = if (F t || (decide (t < s) && decide (am_and t (am_xor al (-1)) = 0))) = true then 1 else 0) → AW GM mX8_least dl Q 191 [some (am_R 0), some (am_I r), some (am_I a2), some (am_I a3), some (am_I n), some (am_I a5), some (am_I al), some (am_I s)] [] g' := by
  have hp := pw8 hn
  have hsh : am_shl 1 n = ((2 ^ n : Nat) : Int) := bt_shl1 (by omega)
  intro m
  induction m with
  | zero => intro s g' h1 h2; omega
  | succ m ih =>
    intro s g' h1 h2 hI hF
    by_cases hlt : s < 2 ^ n
    · have hfs := hF s (by omega) (by omega)
      have hsr : -2147483648 ≤ am_and s (am_xor al (-1)) ∧ am_and s (am_xor al (-1)) < 2147483648 := fb_rngI _
      have hss : decide ((s : Int) < (s : Nat)) = false := decide_eq_false (by omega)
      rw [hss, Bool.false_and, Bool.or_false] at hfs
      have nxt : ∀ v : Int, v = (if (F s || decide (am_and s (am_xor al (-1)) = 0)) = true then 1 else 0) → AW GM mX8_least dl Q 191 [some (am_R 0), some (am_I r), some (am_I a2), some (am_I a3), some (am_I n), some (am_I a5), some (am_I al), some (am_I (s + 1 : Nat))] [] (am_set g' 36 s v) := by
        intro v hv
        refine ih (s + 1) _ (by omega) (by omega) ⟨hI.1.setL (Or.inr rfl), by rw [am_set_c (by decide)]; exact hI.2.1, by rw [am_set_c (by decide)]; exact hI.2.2.1, hI.2.2.2⟩ (fun t a b => ?_)
        by_cases e : t = s
        · subst e
          rw [am_set_s, hv, decide_eq_true (show ((s : Nat) : Int) < ((s + 1 : Nat) : Int) by omega), Bool.true_and]
        · rw [am_set_i e, hF t a b]
          by_cases e2 : t < (s : Int)
          · rw [decide_eq_true e2, decide_eq_true (show t < ((s + 1 : Nat) : Int) by omega)]
          · rw [decide_eq_false e2, decide_eq_false (show ¬ t < ((s + 1 : Nat) : Int) by omega)]
      cases hFs : F s with
      | true =>
        rw [hFs, if_pos rfl] at hfs
        refine aw_iload dX8_least_191 rfl ?_
        refine aw_iconst dX8_least_193 ?_
        refine aw_iload dX8_least_194 rfl ?_
        refine aw_ishl dX8_least_196 ?_
        refine aw_top hsh ?_
        refine aw_icmp_ge (tgt := 238) dX8_least_197 rfl (by omega) (by omega) (fun hc197 => ?_) (fun hc197 => ?_)
        · omega
        · refine aw_aload_n dX8_least_200 rfl ?_
          refine aw_getR (kx := 49) fl_X8_121 dX8_least_201 rfl rfl rfl ?_
          refine aw_iload dX8_least_204 rfl ?_
          refine aw_aload_n dX8_least_206 rfl ?_
          refine aw_getR (kx := 49) fl_X8_121 dX8_least_207 rfl rfl rfl ?_
          refine aw_iload dX8_least_210 rfl ?_
          refine aw_zaload dX8_least_212 rfl (by decide) (by omega) ?_
          refine aw_if_ne (tgt := 226) dX8_least_213 rfl (by omega) (fun hc213 => ?_) (fun hc213 => ?_)
          · refine aw_iconst dX8_least_226 ?_
            refine aw_goto (tgt := 231) dX8_least_227 rfl ?_
            refine aw_zastore dX8_least_231 rfl (by decide) (by omega) (by omega) ?_
            refine aw_iinc7 dX8_least_232 (by decide) rfl ?_
            refine aw_goto (tgt := 191) dX8_least_235 rfl ?_
            exact nxt _ (by rw [hFs, Bool.true_or, if_pos rfl])
          · omega
      | false =>
        rw [hFs, if_neg (by decide)] at hfs
        refine aw_iload dX8_least_191 rfl ?_
        refine aw_iconst dX8_least_193 ?_
        refine aw_iload dX8_least_194 rfl ?_
        refine aw_ishl dX8_least_196 ?_
        refine aw_top hsh ?_
        refine aw_icmp_ge (tgt := 238) dX8_least_197 rfl (by omega) (by omega) (fun hc197 => ?_) (fun hc197 => ?_)
        · omega
        · refine aw_aload_n dX8_least_200 rfl ?_
          refine aw_getR (kx := 49) fl_X8_121 dX8_least_201 rfl rfl rfl ?_
          refine aw_iload dX8_least_204 rfl ?_
          refine aw_aload_n dX8_least_206 rfl ?_
          refine aw_getR (kx := 49) fl_X8_121 dX8_least_207 rfl rfl rfl ?_
          refine aw_iload dX8_least_210 rfl ?_
          refine aw_zaload dX8_least_212 rfl (by decide) (by omega) ?_
          refine aw_if_ne (tgt := 226) dX8_least_213 rfl (by omega) (fun hc213 => ?_) (fun hc213 => ?_)
          · omega
          · refine aw_iload dX8_least_216 rfl ?_
            refine aw_iload dX8_least_218 rfl ?_
            refine aw_iconst dX8_least_220 ?_
            refine aw_ixor dX8_least_221 ?_
            refine aw_iand dX8_least_222 ?_
            refine aw_if_ne (tgt := 230) dX8_least_223 rfl (by omega) (fun hc223 => ?_) (fun hc223 => ?_)
            · refine aw_iconst dX8_least_230 ?_
              refine aw_zastore dX8_least_231 rfl (by decide) (by omega) (by omega) ?_
              refine aw_iinc7 dX8_least_232 (by decide) rfl ?_
              refine aw_goto (tgt := 191) dX8_least_235 rfl ?_
              exact nxt _ (by rw [hFs, Bool.false_or, decide_eq_false hc223, if_neg (by decide)])
            · refine aw_iconst dX8_least_226 ?_
              refine aw_goto (tgt := 231) dX8_least_227 rfl ?_
              refine aw_zastore dX8_least_231 rfl (by decide) (by omega) (by omega) ?_
              refine aw_iinc7 dX8_least_232 (by decide) rfl ?_
              refine aw_goto (tgt := 191) dX8_least_235 rfl ?_
              exact nxt _ (by rw [hFs, Bool.false_or, decide_eq_true hc223, if_pos rfl])
    · refine aw_iload dX8_least_191 rfl ?_
      refine aw_iconst dX8_least_193 ?_
      refine aw_iload dX8_least_194 rfl ?_
      refine aw_ishl dX8_least_196 ?_
      refine aw_top hsh ?_
      refine aw_icmp_ge (tgt := 238) dX8_least_197 rfl (by omega) (by omega) (fun hc197 => ?_) (fun hc197 => ?_)
      · refine K g' _ hI (fun t a b => ?_)
        rw [hF t a b, decide_eq_true (show t < (s : Int) by omega), Bool.true_and]
      · omega
theorem lp_X8_least2 {g g' : am_H} {dl : Nat} {Q : Option am_V → am_H → Prop} {r a2 a3 a5 n : Int} {P : List Int} (hs : MVs g) (hI : LinI g g' P) (hr : 0 ≤ r ∧ r ≤ 5) (hn : 0 ≤ n ∧ n ≤ 8) (hP : (P.length : Int) = n) (hw : ∀ i : Int, 0 ≤ i → i < n → 0 ≤ g 2 (40 * r + i) ∧ g 2 (40 * r + i) < g 0 10) (K : ∀ (x7 : Option am_V), AW GM mX8_least dl Q 188 [some (am_R 0), some (am_I r), some (am_I a2), some (am_I a3), some (am_I n), some (am_I a5), some (am_I (alP g r P : Nat)), x7] [] g') : ∀ (m i : Nat), (i : Int) ≤ n → n - i < m → AW GM mX8_least dl Q 130 [some (am_R 0), some (am_I r), some (am_I a2), some (am_I a3), some (am_I n), some (am_I a5), some (am_I (alF g (g' 35) r i : Nat)), some (am_I i)] [] g' := by
  obtain ⟨ha, hm, hl, hlv⟩ := hI
  have hw2 := hs.2.1
  have f2 := ha.1 2 (by decide) (by decide) (by decide)
  have f9 := ha.1 9 (by decide) (by decide) (by decide)
  intro m
  induction m with
  | zero => intro i h1 h2; omega
  | succ m ih =>
    intro i h1 h2
    have f2i : g' 2 (40 * r + i) = g 2 (40 * r + i) := by rw [f2]
    by_cases hlt : (i : Int) < n
    · have hli := liA_at (g := g) P hl hlv (i : Int) (by omega) (by omega)
      have hso := (hs.2.2.2.2.1 (g' 35 i) hli.1 hli.2).2.1
      have hwi := hw i (by omega) hlt
      have hso2 := (hs.2.2.2.2.1 _ hwi.1 hwi.2).2.1
      have f9i : g' 9 (g' 35 i) = g 9 (g' 35 i) := by rw [f9]
      have f9j : g' 9 (g' 2 (40 * r + i)) = g 9 (g 2 (40 * r + i)) := by rw [f9, f2i]
      have e1 : alF g (g' 35) r (i + 1) = alF g (g' 35) r i + (if g 9 (g' 35 i) = g 9 (g 2 (40 * r + i)) then 2 ^ i else 0) := rfl
      have hal := alF_lt g (g' 35) r i
      have hpi : 2 ^ i ≤ 2 ^ 8 := Nat.pow_le_pow_right (by decide) (by omega)
      have nxt : ∀ v : Int, v = (alF g (g' 35) r (i + 1) : Nat) → AW GM mX8_least dl Q 130 [some (am_R 0), some (am_I r), some (am_I a2), some (am_I a3), some (am_I n), some (am_I a5), some (am_I v), some (am_I (i + 1 : Nat))] [] g' := by
        intro v hv
        rw [hv]
        exact ih (i + 1) (by omega) (by omega)
      refine aw_iload dX8_least_130 rfl ?_
      refine aw_iload dX8_least_132 rfl ?_
      refine aw_icmp_ge (tgt := 188) dX8_least_134 rfl (by omega) (by omega) (fun hc134 => ?_) (fun hc134 => ?_)
      · omega
      · refine aw_iload dX8_least_137 rfl ?_
        refine aw_aload_n dX8_least_139 rfl ?_
        refine aw_getR (kx := 9) fl_X8_34 dX8_least_140 rfl rfl rfl ?_
        refine aw_aload_n dX8_least_143 rfl ?_
        refine aw_getR (kx := 47) fl_X8_118 dX8_least_144 rfl rfl rfl ?_
        refine aw_iload dX8_least_147 rfl ?_
        refine aw_iaload dX8_least_149 rfl (by decide) (by omega) ?_
        refine aw_iaload dX8_least_150 rfl (by decide) (by omega) ?_
        refine aw_top f9i ?_
        refine aw_aload_n dX8_least_151 rfl ?_
        refine aw_getR (kx := 9) fl_X8_34 dX8_least_152 rfl rfl rfl ?_
        refine aw_aload_n dX8_least_155 rfl ?_
        refine aw_getR (kx := 1) fl_X8_13 dX8_least_156 rfl rfl rfl ?_
        refine aw_bipush (by decide) dX8_least_159 ?_
        refine aw_iload_n dX8_least_161 rfl ?_
        refine aw_imul dX8_least_162 ?_
        refine aw_iload dX8_least_163 rfl ?_
        refine aw_iadd dX8_least_165 ?_
        refine aw_iaload dX8_least_166 rfl (by decide) (by omega) ?_
        refine aw_iaload dX8_least_167 rfl (by decide) (by omega) ?_
        refine aw_top f9j ?_
        refine aw_icmp_ne (tgt := 178) dX8_least_168 rfl (by omega) (by omega) (fun hc168 => ?_) (fun hc168 => ?_)
        · refine aw_iconst dX8_least_178 ?_
          refine aw_ior dX8_least_179 ?_
          refine aw_istore6 dX8_least_180 (by decide) rfl ?_
          refine aw_iinc7 dX8_least_182 (by decide) rfl ?_
          refine aw_goto (tgt := 130) dX8_least_185 rfl ?_
          exact nxt _ (by rw [e1, if_neg hc168, bt_or0 (by omega)]; rfl)
        · refine aw_iconst dX8_least_171 ?_
          refine aw_iload dX8_least_172 rfl ?_
          refine aw_ishl dX8_least_174 ?_
          refine aw_top (bt_shl1 (by omega)) ?_
          refine aw_goto (tgt := 179) dX8_least_175 rfl ?_
          refine aw_ior dX8_least_179 ?_
          refine aw_istore6 dX8_least_180 (by decide) rfl ?_
          refine aw_iinc7 dX8_least_182 (by decide) rfl ?_
          refine aw_goto (tgt := 130) dX8_least_185 rfl ?_
          exact nxt _ (by rw [e1, if_pos (by omega), bt_or2 hal (by omega)]; omega)
    · have ei : P.length = i := by omega
      have e2 := al_P g (g' 35) r P hl
      rw [ei] at e2
      rw [e2]
      refine aw_iload dX8_least_130 rfl ?_
      refine aw_iload dX8_least_132 rfl ?_
      refine aw_icmp_ge (tgt := 188) dX8_least_134 rfl (by omega) (by omega) (fun hc134 => ?_) (fun hc134 => ?_)
      · exact K _
      · omega
theorem lp_X8_least1 {g : am_H} {r a2 en n : Int} {T : Int → Bool} (hs : MVs g) (hy : MVy g) (hr : 0 ≤ r ∧ r ≤ 5) (h0 : ¬ g 0 6 = 0) (hn : 0 ≤ n ∧ n ≤ 8) (hen : 0 ≤ en ∧ en < g 0 6) (hw : ∀ i : Int, 0 ≤ i → i < n → 0 ≤ g 2 (40 * r + i) ∧ g 2 (40 * r + i) < g 0 10) : ∀ (R : List (List Int)) (F : Int → Bool) (P : List Int) (g' : am_H) (x6 x7 : Option am_V), LinI g g' P → (P.length : Int) ≤ n → R = rst g n.toNat P → FtI g' n.toNat F → (P :: R).foldl (ftS g r n (g 6 en)) F = T → AW GM mX8_least 4 (QM (lsX g n.toNat T)) 92 [some (am_R 0), some (am_I r), some (am_I a2), some (am_I en), some (am_I n), some (am_I 1), x6, x7] [] g' := by
  have enn : (n.toNat : Int) = n := by omega
  have exi : ∀ (g' : am_H) (F : Int → Bool) (x6 x7 : Option am_V), AgL g g' → FtI g' n.toNat F → F = T → AW GM mX8_least 4 (QM (lsX g n.toNat T)) 92 [some (am_R 0), some (am_I r), some (am_I a2), some (am_I en), some (am_I n), some (am_I 0), x6, x7] [] g' := by
    intro g' F x6 x7 ha hF hs2
    subst hs2
    have h4 := lp_X8_least4 (r := r) (a2 := a2) (a3 := en) ha (by omega) hF 257 0 x7 (Nat.zero_le _) (by have := pw8 (n := n.toNat) (by omega); omega)
    rw [enn] at h4
    refine aw_iload dX8_least_92 rfl ?_
    refine aw_if_eq (tgt := 250) dX8_least_94 rfl (by omega) (fun hc94 => ?_) (fun hc94 => ?_)
    · refine aw_bipush (by decide) dX8_least_250 ?_
      refine aw_istore5 dX8_least_252 (by decide) rfl ?_
      refine aw_iconst dX8_least_254 ?_
      refine aw_istore6 dX8_least_255 (by decide) rfl ?_
      exact h4
    · omega
  intro R
  induction R with
  | nil =>
    intro F P g' x6 x7 hI hle hR hF hT
    have ha := hI.1
    have hlv := hI.2.2.2
    have he := liE_rng hs hy h0 P hlv
    have hnn := hs.1
    have hme := (hs.2.2.2.1 (liE g P) (by omega) he.2).2
    have hme2 := (hs.2.2.2.1 en hen.1 hen.2).2
    have f6 := ha.1 6 (by decide) (by decide) (by decide)
    have f6e : g' 6 (liE g P) = g 6 (liE g P) := by rw [f6]
    have f6n : g' 6 en = g 6 en := by rw [f6]
    have hT2 := hT
    rw [List.foldl_cons] at hT2
    have nxt : ∀ (g3 : am_H) (F2 : Int → Bool) (y6 y7 : Option am_V), LinI g g3 P → FtI g3 n.toNat F2 → F2 = ftS g r n (g 6 en) F P → AW GM mX8_least 4 (QM (lsX g n.toNat T)) 238 [some (am_R 0), some (am_I r), some (am_I a2), some (am_I en), some (am_I n), some (am_I 1), y6, y7] [] g3 := by
      intro g3 F2 y6 y7 hI3 hF3 hs2
      rw [← hs2] at hT2
      refine aw_aload_n dX8_least_238 rfl ?_
      refine aw_iload dX8_least_239 rfl ?_
      refine aw_iconst dX8_least_241 ?_
      refine aw_cV2I (c_X8_nextLine hs hy h0 hn hI3 hle) lk_X8_347 dX8_least_242 (by decide) rfl rfl (fun _ => Nat.le_of_ble_eq_true rfl) (fun v242 h242 q242 => ?_)
      refine aw_istore5 dX8_least_245 (by decide) rfl ?_
      refine aw_goto (tgt := 92) dX8_least_247 rfl ?_
      rw [← hR] at q242
      have q86b : v242 = 0 ∧ AgL g h242 := by
        rcases q242.1 with ⟨_, a, b⟩ | ⟨P3, a, _⟩
        · exact ⟨a, b⟩
        · exact absurd a (by simp)
      rw [q86b.1]
      exact exi h242 F2 _ _ q86b.2 (by intro s a b; rw [q242.2]; exact hF3 s a b) hT2
    have l188 : ∀ (al : Int) (y7 : Option am_V), AW GM mX8_least 4 (QM (lsX g n.toNat T)) 191 [some (am_R 0), some (am_I r), some (am_I a2), some (am_I en), some (am_I n), some (am_I 1), some (am_I al), some (am_I 0)] [] g' → AW GM mX8_least 4 (QM (lsX g n.toNat T)) 188 [some (am_R 0), some (am_I r), some (am_I a2), some (am_I en), some (am_I n), some (am_I 1), some (am_I al), y7] [] g' := by
      intro al y7 h3
      refine aw_iconst dX8_least_188 ?_
      refine aw_istore7 dX8_least_189 (by decide) rfl ?_
      exact h3
    refine aw_iload dX8_least_92 rfl ?_
    refine aw_if_eq (tgt := 250) dX8_least_94 rfl (by omega) (fun hc94 => ?_) (fun hc94 => ?_)
    · omega
    · refine aw_aload_n dX8_least_97 rfl ?_
      refine aw_iload dX8_least_98 rfl ?_
      refine aw_cV1IF (c_X8_isSentence hs hy h0 hI hn) lk_X8_351 dX8_least_100 (by decide) rfl rfl (fun _ => Nat.le_of_ble_eq_true rfl) ?_
      refine aw_ifb_eq (tgt := 238) dX8_least_103 rfl (fun hc103 => ?_) (fun hc103 => ?_)
      · exact nxt g' F _ _ hI hF (by funext s; rw [ftS, decide_eq_false (fun z => hc103 z.1), Bool.false_and, Bool.or_false])
      · refine aw_aload_n dX8_least_106 rfl ?_
        refine aw_getR (kx := 5) fl_X8_25 dX8_least_107 rfl rfl rfl ?_
        refine aw_aload_n dX8_least_110 rfl ?_
        refine aw_cV0IF (c_X8_lineEnd hs hy h0 hI) lk_X8_341 dX8_least_111 (by decide) rfl rfl (fun _ => Nat.le_of_ble_eq_true rfl) ?_
        refine aw_iaload dX8_least_114 rfl (by decide) (by omega) ?_
        refine aw_top f6e ?_
        refine aw_aload_n dX8_least_115 rfl ?_
        refine aw_getR (kx := 5) fl_X8_25 dX8_least_116 rfl rfl rfl ?_
        refine aw_iload_n dX8_least_119 rfl ?_
        refine aw_iaload dX8_least_120 rfl (by decide) (by omega) ?_
        refine aw_top f6n ?_
        refine aw_icmp_eq (tgt := 238) dX8_least_121 rfl (by omega) (by omega) (fun hc121 => ?_) (fun hc121 => ?_)
        · exact nxt g' F _ _ hI hF (by funext s; rw [ftS, decide_eq_false (fun z => z.2 (by omega)), Bool.false_and, Bool.or_false])
        · refine aw_iconst dX8_least_124 ?_
          refine aw_istore6 dX8_least_125 (by decide) rfl ?_
          refine aw_iconst dX8_least_127 ?_
          refine aw_istore7 dX8_least_128 (by decide) rfl ?_
          refine lp_X8_least2 hs hI hr hn hc103.1 hw (fun y7 => ?_) 9 0 (by omega) (by omega)
          have h3 := fun K => lp_X8_least3 (g := g) (dl := 4) (Q := QM (lsX g n.toNat T)) (r := r) (a2 := a2) (a3 := en) (a5 := 1) (al := (alP g r P : Nat)) (n := n.toNat) (F := F) (P := P) (by omega) K 257 0 g' (Nat.zero_le _) (by have := pw8 (n := n.toNat) (by omega); omega) hI (fun t a b => by rw [decide_eq_false (show ¬ t < ((0 : Nat) : Int) by omega), Bool.false_and, Bool.or_false]; exact hF t a b)
          rw [enn] at h3
          exact l188 _ _ (h3 (fun g3 y7 hI3 hF3 => nxt g3 _ _ y7 hI3 hF3 (by funext s; rw [ftS, decide_eq_true (p := isS g n P ∧ ¬ g 6 (liE g P) = g 6 en) ⟨hc103, hc121⟩, Bool.true_and])))
  | cons P2 R ih =>
    intro F P g' x6 x7 hI hle hR hF hT
    have ha := hI.1
    have hlv := hI.2.2.2
    have he := liE_rng hs hy h0 P hlv
    have hnn := hs.1
    have hme := (hs.2.2.2.1 (liE g P) (by omega) he.2).2
    have hme2 := (hs.2.2.2.1 en hen.1 hen.2).2
    have f6 := ha.1 6 (by decide) (by decide) (by decide)
    have f6e : g' 6 (liE g P) = g 6 (liE g P) := by rw [f6]
    have f6n : g' 6 en = g 6 en := by rw [f6]
    have hT2 := hT
    rw [List.foldl_cons] at hT2
    have nxt : ∀ (g3 : am_H) (F2 : Int → Bool) (y6 y7 : Option am_V), LinI g g3 P → FtI g3 n.toNat F2 → F2 = ftS g r n (g 6 en) F P → AW GM mX8_least 4 (QM (lsX g n.toNat T)) 238 [some (am_R 0), some (am_I r), some (am_I a2), some (am_I en), some (am_I n), some (am_I 1), y6, y7] [] g3 := by
      intro g3 F2 y6 y7 hI3 hF3 hs2
      rw [← hs2] at hT2
      refine aw_aload_n dX8_least_238 rfl ?_
      refine aw_iload dX8_least_239 rfl ?_
      refine aw_iconst dX8_least_241 ?_
      refine aw_cV2I (c_X8_nextLine hs hy h0 hn hI3 hle) lk_X8_347 dX8_least_242 (by decide) rfl rfl (fun _ => Nat.le_of_ble_eq_true rfl) (fun v242 h242 q242 => ?_)
      refine aw_istore5 dX8_least_245 (by decide) rfl ?_
      refine aw_goto (tgt := 92) dX8_least_247 rfl ?_
      rw [← hR] at q242
      rcases q242.1 with ⟨a, _⟩ | ⟨P3, a, b, c, d⟩
      · exact absurd a (by simp)
      · obtain ⟨a1, a2⟩ := List.cons.inj a
        subst a1
        rw [b]
        exact ih F2 P2 h242 _ _ c (by omega) a2 (by intro s a b; rw [q242.2]; exact hF3 s a b) hT2
    have l188 : ∀ (al : Int) (y7 : Option am_V), AW GM mX8_least 4 (QM (lsX g n.toNat T)) 191 [some (am_R 0), some (am_I r), some (am_I a2), some (am_I en), some (am_I n), some (am_I 1), some (am_I al), some (am_I 0)] [] g' → AW GM mX8_least 4 (QM (lsX g n.toNat T)) 188 [some (am_R 0), some (am_I r), some (am_I a2), some (am_I en), some (am_I n), some (am_I 1), some (am_I al), y7] [] g' := by
      intro al y7 h3
      refine aw_iconst dX8_least_188 ?_
      refine aw_istore7 dX8_least_189 (by decide) rfl ?_
      exact h3
    refine aw_iload dX8_least_92 rfl ?_
    refine aw_if_eq (tgt := 250) dX8_least_94 rfl (by omega) (fun hc94 => ?_) (fun hc94 => ?_)
    · omega
    · refine aw_aload_n dX8_least_97 rfl ?_
      refine aw_iload dX8_least_98 rfl ?_
      refine aw_cV1IF (c_X8_isSentence hs hy h0 hI hn) lk_X8_351 dX8_least_100 (by decide) rfl rfl (fun _ => Nat.le_of_ble_eq_true rfl) ?_
      refine aw_ifb_eq (tgt := 238) dX8_least_103 rfl (fun hc103 => ?_) (fun hc103 => ?_)
      · exact nxt g' F _ _ hI hF (by funext s; rw [ftS, decide_eq_false (fun z => hc103 z.1), Bool.false_and, Bool.or_false])
      · refine aw_aload_n dX8_least_106 rfl ?_
        refine aw_getR (kx := 5) fl_X8_25 dX8_least_107 rfl rfl rfl ?_
        refine aw_aload_n dX8_least_110 rfl ?_
        refine aw_cV0IF (c_X8_lineEnd hs hy h0 hI) lk_X8_341 dX8_least_111 (by decide) rfl rfl (fun _ => Nat.le_of_ble_eq_true rfl) ?_
        refine aw_iaload dX8_least_114 rfl (by decide) (by omega) ?_
        refine aw_top f6e ?_
        refine aw_aload_n dX8_least_115 rfl ?_
        refine aw_getR (kx := 5) fl_X8_25 dX8_least_116 rfl rfl rfl ?_
        refine aw_iload_n dX8_least_119 rfl ?_
        refine aw_iaload dX8_least_120 rfl (by decide) (by omega) ?_
        refine aw_top f6n ?_
        refine aw_icmp_eq (tgt := 238) dX8_least_121 rfl (by omega) (by omega) (fun hc121 => ?_) (fun hc121 => ?_)
        · exact nxt g' F _ _ hI hF (by funext s; rw [ftS, decide_eq_false (fun z => z.2 (by omega)), Bool.false_and, Bool.or_false])
        · refine aw_iconst dX8_least_124 ?_
          refine aw_istore6 dX8_least_125 (by decide) rfl ?_
          refine aw_iconst dX8_least_127 ?_
          refine aw_istore7 dX8_least_128 (by decide) rfl ?_
          refine lp_X8_least2 hs hI hr hn hc103.1 hw (fun y7 => ?_) 9 0 (by omega) (by omega)
          have h3 := fun K => lp_X8_least3 (g := g) (dl := 4) (Q := QM (lsX g n.toNat T)) (r := r) (a2 := a2) (a3 := en) (a5 := 1) (al := (alP g r P : Nat)) (n := n.toNat) (F := F) (P := P) (by omega) K 257 0 g' (Nat.zero_le _) (by have := pw8 (n := n.toNat) (by omega); omega) hI (fun t a b => by rw [decide_eq_false (show ¬ t < ((0 : Nat) : Int) by omega), Bool.false_and, Bool.or_false]; exact hF t a b)
          rw [enn] at h3
          exact l188 _ _ (h3 (fun g3 y7 hI3 hF3 => nxt g3 _ _ y7 hI3 hF3 (by funext s; rw [ftS, decide_eq_true (p := isS g n P ∧ ¬ g 6 (liE g P) = g 6 en) ⟨hc103, hc121⟩, Bool.true_and])))
theorem lp_X8_least0 {g : am_H} {dl : Nat} {Q : Option am_V → am_H → Prop} {r a2 a3 : Int} {n : Nat} (hn : n ≤ 8) (K : ∀ (g' : am_H) (x5 x6 x7 : Option am_V), AgL g g' → FtI g' n (fun _ => false) → AW GM mX8_least dl Q 83 [some (am_R 0), some (am_I r), some (am_I a2), some (am_I a3), some (am_I n), x5, x6, x7] [] g') : ∀ (m s : Nat) (g' : am_H) (x6 x7 : Option am_V), s ≤ 2 ^ n → 2 ^ n - s < m → AgL g g' → (∀ t : Int, 0 ≤ t → t < s → g' 36 t = 0) → AW GM mX8_least dl Q 60 [some (am_R 0), some (am_I r), some (am_I a2), some (am_I a3), some (am_I n), some (am_I s), x6, x7] [] g' := by
  have hp := pw8 hn
  have hsh : am_shl 1 n = ((2 ^ n : Nat) : Int) := bt_shl1 (by omega)
  intro m
  induction m with
  | zero => intro s g' x6 x7 h1 h2; omega
  | succ m ih =>
    intro s g' x6 x7 h1 h2 ha hF
    refine aw_iload dX8_least_60 rfl ?_
    refine aw_iconst dX8_least_62 ?_
    refine aw_iload dX8_least_63 rfl ?_
    refine aw_ishl dX8_least_65 ?_
    refine aw_top hsh ?_
    refine aw_icmp_ge (tgt := 83) dX8_least_66 rfl (by omega) (by omega) (fun hc66 => ?_) (fun hc66 => ?_)
    · exact K g' _ _ _ ha (fun t a b => by rw [if_neg (fun z => absurd z Bool.false_ne_true)]; exact hF t a (by omega))
    · refine aw_aload_n dX8_least_69 rfl ?_
      refine aw_getR (kx := 49) fl_X8_121 dX8_least_70 rfl rfl rfl ?_
      refine aw_iload dX8_least_73 rfl ?_
      refine aw_iconst dX8_least_75 ?_
      refine aw_zastore dX8_least_76 rfl (by decide) (by omega) (by omega) ?_
      refine aw_iinc5 dX8_least_77 (by decide) rfl ?_
      refine aw_goto (tgt := 60) dX8_least_80 rfl ?_
      refine ih (s + 1) _ _ _ (by omega) (by omega) (ha.setL (Or.inr rfl)) (fun t a b => ?_)
      by_cases e : t = s
      · subst e; rw [am_set_s]
      · rw [am_set_i e]; exact hF t a (by omega)
theorem c_X8_least {g : am_H} {r : Int} (hs : MVs g) (hy : MVy g) (hv : MVr g) (hr : -2147483648 ≤ r ∧ r < 2147483648) : AMet GM mX8_least 4 [am_R 0, am_I r] g (QM (S_least g r)) := by
  have hnn := hs.1
  have hlr := lkR_rng g r
  refine am_start [some (am_R 0), some (am_I r), none, none, none, none, none, none] rfl rfl (by decide) (Nat.le_of_ble_eq_true rfl) ?_
  have K : ∀ (g' : am_H) (no : Int) (x5 x6 x7 : Option am_V), 0 ≤ r ∧ r ≤ 5 → ¬ (lkR g r).1 < 0 → 0 ≤ rwN g r → fin (g 5 (rwN g r)) → AgL g g' → FtI g' (g 1 r).toNat (fun _ => false) → AW GM mX8_least 4 (QM (S_least g r)) 83 [some (am_R 0), some (am_I r), some (am_I no), some (am_I (rwN g r)), some (am_I (g 1 r)), x5, x6, x7] [] g' := by
    intro g' no x5 x6 x7 hr2 hlk he hfn ha hF
    obtain ⟨k0, k1, k2, k3, k4⟩ := lkR_0 hlk
    have hed : -9 ≤ rwN g r ∧ rwN g r < g 0 6 := rwE_rng hs hy k0 r (g 1 r).toNat
    have hw : ∀ i : Int, 0 ≤ i → i < g 1 r → 0 ≤ g 2 (40 * r + i) ∧ g 2 (40 * r + i) < g 0 10 := by
      intro i a b
      have h5 := rwE_ok (g := g) (r := r) (i := i.toNat) (n := (g 1 r).toNat) (by omega) he
      have ei : ((i.toNat : Nat) : Int) = i := by omega
      rw [ei] at h5
      omega
    rw [S_least, if_neg (by omega), if_neg hlk, if_neg (fun z => z.elim (fun q => absurd q (by omega)) (fun q => q hfn))]
    refine aw_aload_n dX8_least_83 rfl ?_
    refine aw_iload dX8_least_84 rfl ?_
    refine aw_iconst dX8_least_86 ?_
    refine aw_cV2I (c_X8_nextLine1b ha) lk_X8_347 dX8_least_87 (by decide) rfl rfl (fun _ => Nat.le_of_ble_eq_true rfl) (fun v87 h87 q87 => ?_)
    refine aw_top q87.1 ?_
    refine aw_istore5 dX8_least_90 (by decide) rfl ?_
    exact lp_X8_least1 hs hy hr2 k0 ⟨k1, k2⟩ ⟨he, hed.2⟩ hw _ (fun _ => false) [] h87 _ _ q87.2.1 (by show ((0 : Nat) : Int) ≤ _; omega) rfl (by intro s a b; rw [q87.2.2]; exact hF s a b) (by rw [ftR, ← tr_rst (P := []) (by show 0 ≤ _; omega)]; show (trL g _ [] ++ []).foldl _ _ = _; rw [List.append_nil]; rfl)
  refine aw_iload_n dX8_least_0 rfl ?_
  refine aw_cS1IF (c_X8_isRow (by omega)) lk_X8_139 dX8_least_1 (by decide) (fun _ => Nat.le_of_ble_eq_true rfl) ?_
  refine aw_ifb_ne (tgt := 9) dX8_least_4 rfl (fun hc4 => ?_) (fun hc4 => ?_)
  · refine aw_aload_n dX8_least_9 rfl ?_
    refine aw_iload_n dX8_least_10 rfl ?_
    refine aw_cV1IF (c_X8_lacksRow hs hv (by omega)) lk_X8_329 dX8_least_11 (by decide) rfl rfl (fun _ => Nat.le_of_ble_eq_true rfl) ?_
    refine aw_istore_2 dX8_least_14 (by decide) rfl ?_
    refine aw_iload_n dX8_least_15 rfl ?_
    refine aw_if_ge (tgt := 21) dX8_least_16 rfl (by omega) (fun hc16 => ?_) (fun hc16 => ?_)
    · obtain ⟨k0, k1, k2, k3, k4⟩ := lkR_0 (g := g) (r := r) (by omega)
      refine aw_heap k3 ?_
      have hed : -9 ≤ rwN g r ∧ rwN g r < g 0 6 := rwE_rng hs hy k0 r (g 1 r).toNat
      refine aw_aload_n dX8_least_21 rfl ?_
      refine aw_iload_n dX8_least_22 rfl ?_
      refine aw_cV1IF (c_X8_endOf hs hy hv (by omega) (by omega) (by omega)) lk_X8_332 dX8_least_23 (by decide) rfl rfl (fun _ => Nat.le_of_ble_eq_true rfl) ?_
      refine aw_istore_3 dX8_least_26 (by decide) rfl ?_
      refine aw_iload_n dX8_least_27 rfl ?_
      refine aw_if_lt (tgt := 43) dX8_least_28 rfl (by omega) (fun hc28 => ?_) (fun hc28 => ?_)
      · refine aw_aload_n dX8_least_43 rfl ?_
        refine aw_iconst dX8_least_44 ?_
        refine aw_cV1IF (c_X8_find (by omega)) lk_X8_143 dX8_least_45 (by decide) rfl rfl (fun _ => Nat.le_of_ble_eq_true rfl) ?_
        refine aw_iretQ dX8_least_48 rfl ?_
        rw [S_least, if_neg (by omega), if_neg (by omega), if_pos (by omega)]; exact ⟨rfl, MEq.rf _⟩
      · have hkd := hs.2.2.2.1 (rwN g r) (by omega) hed.2
        refine aw_aload_n dX8_least_31 rfl ?_
        refine aw_getR (kx := 4) fl_X8_22 dX8_least_32 rfl rfl rfl ?_
        refine aw_iload_n dX8_least_35 rfl ?_
        refine aw_iaload dX8_least_36 rfl (by decide) (by omega) ?_
        refine aw_cS1IF (c_X8_isFinal (by omega)) lk_X8_169 dX8_least_37 (by decide) (fun _ => Nat.le_of_ble_eq_true rfl) ?_
        refine aw_ifb_ne (tgt := 49) dX8_least_40 rfl (fun hc40 => ?_) (fun hc40 => ?_)
        · refine aw_aload_n dX8_least_49 rfl ?_
          refine aw_getR (kx := 0) fl_X8_7 dX8_least_50 rfl rfl rfl ?_
          refine aw_iload_n dX8_least_53 rfl ?_
          refine aw_iaload dX8_least_54 rfl (by decide) (by omega) ?_
          refine aw_top (show g 1 r = (((g 1 r).toNat : Nat) : Int) by omega) ?_
          refine aw_istore4 dX8_least_55 (by decide) rfl ?_
          refine aw_iconst dX8_least_57 ?_
          refine aw_istore5 dX8_least_58 (by decide) rfl ?_
          refine lp_X8_least0 (by omega) (fun g' y5 y6 y7 ha hF => ?_) 257 0 g _ _ (Nat.zero_le _) (by have := pw8 (n := (g 1 r).toNat) (by omega); omega) (AgL.rf g) (fun t a b => by omega)
          refine aw_ls (ls2 := [some (am_R 0), some (am_I r), some (am_I (lkR g r).1), some (am_I (rwN g r)), some (am_I (g 1 r)), y5, y6, y7]) ?_ (K g' (lkR g r).1 y5 y6 y7 hc4 (by omega) (by omega) hc40 ha hF)
          rw [show (((g 1 r).toNat : Nat) : Int) = g 1 r by omega]
        · refine aw_aload_n dX8_least_43 rfl ?_
          refine aw_iconst dX8_least_44 ?_
          refine aw_cV1IF (c_X8_find (by omega)) lk_X8_143 dX8_least_45 (by decide) rfl rfl (fun _ => Nat.le_of_ble_eq_true rfl) ?_
          refine aw_iretQ dX8_least_48 rfl ?_
          rw [S_least, if_neg (by omega), if_neg (by omega), if_pos (Or.inr hc40)]; exact ⟨rfl, MEq.rf _⟩
    · refine aw_iload_n dX8_least_19 rfl ?_
      refine aw_iretQ dX8_least_20 rfl ?_
      rw [S_least, if_neg (by omega), if_pos (by omega)]; exact ⟨rfl, MEq.rf _⟩
  · refine aw_iconst dX8_least_7 ?_
    refine aw_iretQ dX8_least_8 rfl ?_
    rw [S_least, if_pos (by omega)]; exact ⟨rfl, MEq.rf _⟩
