/-- f below n, else e -/
def lo (n : Int) (f e : Int → Int) : Int → Int := fun x => if 0 ≤ x ∧ x < n then f x else e x
theorem lo_0 (f e : Int → Int) : lo 0 f e = e := by funext x; unfold lo; rw [if_neg (by omega)]
theorem lo_in {n x : Int} {f e : Int → Int} (h1 : 0 ≤ x) (h2 : x < n) : lo n f e x = f x := by unfold lo; rw [if_pos ⟨h1, h2⟩]
theorem lo_out {n x : Int} {f e : Int → Int} (h : ¬ (0 ≤ x ∧ x < n)) : lo n f e x = e x := by unfold lo; rw [if_neg h]
theorem lo_s {i : Int} {f e : Int → Int} (hi : 0 ≤ i) {v : Int} (hv : v = f i) : (fun j => if j = i then v else lo i f e j) = lo (i + 1) f e := by
  funext j
  unfold lo
  repeat' split
  all_goals first | rfl | omega | (rename_i h1 _; subst h1; exact hv) | (rename_i h1; subst h1; exact hv)
/-- the reference's lasting state behind speech(), out of the parser's end q -/
def spF (g q : am_H) : am_H := fun c => if c = 0 then (fun k => if k = 6 then q 0 1 else if k = 10 then q 0 2 else if k = 15 then q 0 3 else if k = 18 then 0 else if k = 19 then 0 else g 0 k)
  else if c = 5 then lo (q 0 1) (q 1) (g 5) else if c = 6 then lo (q 0 1) (q 2) (g 6) else if c = 7 then lo (q 0 2) (q 3) (g 7) else if c = 8 then lo (q 0 2) (q 4) (g 8) else if c = 9 then lo (q 0 2) (q 5) (g 9)
  else if c = 10 then lo (q 0 3) (q 6) (g 10) else if c = 11 then lo (q 0 3) (q 7) (g 11) else if c = 12 then lo (q 0 3) (q 8) (g 12) else if c = 13 then lo (q 0 3) (q 9) (g 13) else if c = 24 then lo 3 (fun _ => 0) (g 24) else g c
noncomputable def S_speech (g : am_H) (t : Int) : Int × am_H := if ¬ (0 ≤ t ∧ t ≤ 3) then (-1, g) else if g 3 t < 0 then (-3, findF g 1) else if (pT g t).1 = true then ((pT g t).2 0 1, spF g (pT g t).2) else (-4, g)
/-- how far speech() has come: i kinds, k words, d deeds, e kept places -/
def SpI (g0 q g : am_H) (i k d e : Int) : Prop := (∀ j : Int, j ≤ 25 → g 0 j = if j = 6 then q 0 1 else if j = 10 then q 0 2 else if j = 15 then q 0 3 else g0 0 j) ∧ g 5 = lo i (q 1) (g0 5) ∧ g 6 = lo i (q 2) (g0 6) ∧ g 7 = lo k (q 3) (g0 7) ∧ g 8 = lo k (q 4) (g0 8) ∧ g 9 = lo k (q 5) (g0 9) ∧ g 10 = lo d (q 6) (g0 10) ∧ g 11 = lo d (q 7) (g0 11) ∧ g 12 = lo d (q 8) (g0 12) ∧ g 13 = lo d (q 9) (g0 13) ∧ g 24 = lo e (fun _ => 0) (g0 24) ∧ (∀ c : Int, (1 ≤ c ∧ c ≤ 4) ∨ (14 ≤ c ∧ c ≤ 16) ∨ c = 25 → g c = g0 c) ∧ (∀ x : Int, 0 ≤ x → x < q 0 1 → g 18 x = q 1 x ∧ g 19 x = q 2 x) ∧ (∀ k : Int, 0 ≤ k → k < q 0 2 → g 20 (3 * k) = q 3 k ∧ g 20 (3 * k + 1) = q 4 k ∧ g 20 (3 * k + 2) = q 5 k) ∧ (∀ d : Int, 0 ≤ d → d < q 0 3 → g 21 (4 * d) = q 6 d ∧ g 21 (4 * d + 1) = q 7 d ∧ g 21 (4 * d + 2) = q 8 d ∧ g 21 (4 * d + 3) = q 9 d)
theorem lp_X8_sp4 {g0 q : am_H} : ∀ (m : Nat) (e : Int) (g : am_H) , SpI g0 q g (q 0 1) (q 0 2) (q 0 3) e → 0 ≤ e → e ≤ 3 → 3 - e < m → ∀ {x1 : Int}, AW GM mX8_speech 7 (QM (q 0 1, spF g0 q)) 251 [some (am_R 0), some (am_I x1), some (am_I e)] [] (am_set (am_set g 0 18 0) 0 19 0) := by
  intro m
  induction m with
  | zero => intro e g hI h1 h2 h3; omega
  | succ m ih =>
    intro e g hI h1 h2 h3 x1
    obtain ⟨s0, s1, s2, s3, s4, s5, s6, s7, s8, s9, s10, s11, s12, s13, s14⟩ := hI
    refine aw_iload_n dX8_speech_251 rfl ?_
    refine aw_iconst dX8_speech_252 ?_
    refine aw_icmp_ge (tgt := 269) dX8_speech_253 rfl (by omega) (by omega) (fun hc253 => ?_) (fun hc253 => ?_)
    · refine aw_aload_n dX8_speech_269 rfl ?_
      refine aw_getI (kx := 6) fl_X8_207 dX8_speech_270 rfl rfl rfl ?_
      refine aw_iretQ dX8_speech_273 rfl ?_
      refine ⟨by simp [am_set_if, s0], fun k hk => ?_, fun c hc => ?_⟩
      · show am_set (am_set g 0 18 0) 0 19 0 0 k = spF g0 q 0 k
        simp only [am_set_if, spF, if_true, s0 k hk]
        repeat' split
        all_goals first | rfl | omega
      · show am_set (am_set g 0 18 0) 0 19 0 c = spF g0 q c
        rw [am_set_c (by omega), am_set_c (by omega)]
        have e3 : e = 3 := by omega
        subst e3
        have hcs : c = 5 ∨ c = 6 ∨ c = 7 ∨ c = 8 ∨ c = 9 ∨ c = 10 ∨ c = 11 ∨ c = 12 ∨ c = 13 ∨ c = 24 ∨ ((1 ≤ c ∧ c ≤ 4) ∨ (14 ≤ c ∧ c ≤ 16) ∨ c = 25) := by omega
        rcases hcs with rfl | rfl | rfl | rfl | rfl | rfl | rfl | rfl | rfl | rfl | hcs
        · rw [s1]; rfl
        · rw [s2]; rfl
        · rw [s3]; rfl
        · rw [s4]; rfl
        · rw [s5]; rfl
        · rw [s6]; rfl
        · rw [s7]; rfl
        · rw [s8]; rfl
        · rw [s9]; rfl
        · rw [s10]; rfl
        · rw [s11 c hcs, spF]
          repeat rw [if_neg (by omega)]
    · refine aw_aload_n dX8_speech_256 rfl ?_
      refine aw_getR (kx := 36) fl_X8_83 dX8_speech_257 rfl rfl rfl ?_
      refine aw_iload_n dX8_speech_260 rfl ?_
      refine aw_iconst dX8_speech_261 ?_
      refine aw_zastore dX8_speech_262 rfl (by decide) (by omega) (by omega) ?_
      refine aw_iinc2 dX8_speech_263 (by decide) rfl ?_
      refine aw_goto (tgt := 251) dX8_speech_266 rfl ?_
      refine aw_heap (h2 := am_set (am_set (am_set g 24 e 0) 0 18 0) 0 19 0) ?_ ?_
      · funext x; by_cases e0 : x = 0
        · subst e0; rw [am_set_c (by decide)]; funext y; simp [am_set_if]
        · by_cases e24 : x = 24
          · subst e24; funext y; simp [am_set_if]
          · rw [am_set_c e24, am_set_c e0, am_set_c e0, am_set_c e0, am_set_c e0, am_set_c e24]
      refine ih (e + 1) _ ⟨?_, ?_, ?_, ?_, ?_, ?_, ?_, ?_, ?_, ?_, ?_, ?_, ?_, ?_, ?_⟩ (by omega) (by omega) (by omega)
      · rw [am_set_c (by decide)]; exact s0
      · rw [am_set_c (by decide)]; exact s1
      · rw [am_set_c (by decide)]; exact s2
      · rw [am_set_c (by decide)]; exact s3
      · rw [am_set_c (by decide)]; exact s4
      · rw [am_set_c (by decide)]; exact s5
      · rw [am_set_c (by decide)]; exact s6
      · rw [am_set_c (by decide)]; exact s7
      · rw [am_set_c (by decide)]; exact s8
      · rw [am_set_c (by decide)]; exact s9
      · unfold am_set; rw [if_pos rfl, s10]; exact lo_s h1 rfl
      · intro c hc; rw [am_set_c (by omega)]; exact s11 c hc
      · rw [am_set_c (by decide), am_set_c (by decide)]; exact s12
      · rw [am_set_c (by decide)]; exact s13
      · rw [am_set_c (by decide)]; exact s14
theorem lp_X8_sp3 {g0 q : am_H} (hq : 0 ≤ q 0 3 ∧ q 0 3 ≤ 4) : ∀ (m : Nat) (d : Int) (g : am_H), SpI g0 q g (q 0 1) (q 0 2) d 0 → 0 ≤ d → d ≤ q 0 3 → q 0 3 - d < m → ∀ {x1 : Int}, AW GM mX8_speech 7 (QM (q 0 1, spF g0 q)) 163 [some (am_R 0), some (am_I x1), some (am_I d)] [] g := by
  intro m
  induction m with
  | zero => intro e g hI h1 h2 h3; omega
  | succ m ih =>
    intro d g hI h1 h2 h3 x1
    have hI' := hI
    obtain ⟨s0, s1, s2, s3, s4, s5, s6, s7, s8, s9, s10, s11, s12, s13, s14⟩ := hI'
    have hd : g 0 15 = q 0 3 := by rw [s0 _ (by decide)]; rfl
    refine aw_iload_n dX8_speech_163 rfl ?_
    refine aw_aload_n dX8_speech_164 rfl ?_
    refine aw_getI (kx := 15) fl_X8_213 dX8_speech_165 rfl rfl rfl ?_
    refine aw_icmp_ge (tgt := 239) dX8_speech_168 rfl (by omega) (by omega) (fun hc168 => ?_) (fun hc168 => ?_)
    · refine aw_aload_n dX8_speech_239 rfl ?_
      refine aw_iconst dX8_speech_240 ?_
      refine aw_putI (kx := 18) fp_X8_216 dX8_speech_241 rfl rfl rfl ?_
      refine aw_aload_n dX8_speech_244 rfl ?_
      refine aw_iconst dX8_speech_245 ?_
      refine aw_putI (kx := 19) fp_X8_219 dX8_speech_246 rfl rfl rfl ?_
      refine aw_iconst dX8_speech_249 ?_
      refine aw_istore_2 dX8_speech_250 (by decide) rfl ?_
      have e : d = q 0 3 := by omega
      subst e
      exact lp_X8_sp4 4 0 g hI (by omega) (by omega) (by omega)
    · refine aw_aload_n dX8_speech_171 rfl ?_
      refine aw_getR (kx := 11) fl_X8_37 dX8_speech_172 rfl rfl rfl ?_
      refine aw_iload_n dX8_speech_175 rfl ?_
      refine aw_aload_n dX8_speech_176 rfl ?_
      refine aw_getR (kx := 32) fl_X8_74 dX8_speech_177 rfl rfl rfl ?_
      refine aw_iconst dX8_speech_180 ?_
      refine aw_iload_n dX8_speech_181 rfl ?_
      refine aw_imul dX8_speech_182 ?_
      refine aw_iaload dX8_speech_183 rfl (by decide) (by omega) ?_
      refine aw_iastore dX8_speech_184 rfl (by decide) (by omega) ?_
      refine aw_aload_n dX8_speech_185 rfl ?_
      refine aw_getR (kx := 12) fl_X8_40 dX8_speech_186 rfl rfl rfl ?_
      refine aw_iload_n dX8_speech_189 rfl ?_
      refine aw_aload_n dX8_speech_190 rfl ?_
      refine aw_getR (kx := 32) fl_X8_74 dX8_speech_191 rfl rfl rfl ?_
      refine aw_iconst dX8_speech_194 ?_
      refine aw_iload_n dX8_speech_195 rfl ?_
      refine aw_imul dX8_speech_196 ?_
      refine aw_iconst dX8_speech_197 ?_
      refine aw_iadd dX8_speech_198 ?_
      refine aw_iaload dX8_speech_199 rfl (by decide) (by omega) ?_
      refine aw_iastore dX8_speech_200 rfl (by decide) (by omega) ?_
      refine aw_aload_n dX8_speech_201 rfl ?_
      refine aw_getR (kx := 13) fl_X8_43 dX8_speech_202 rfl rfl rfl ?_
      refine aw_iload_n dX8_speech_205 rfl ?_
      refine aw_aload_n dX8_speech_206 rfl ?_
      refine aw_getR (kx := 32) fl_X8_74 dX8_speech_207 rfl rfl rfl ?_
      refine aw_iconst dX8_speech_210 ?_
      refine aw_iload_n dX8_speech_211 rfl ?_
      refine aw_imul dX8_speech_212 ?_
      refine aw_iconst dX8_speech_213 ?_
      refine aw_iadd dX8_speech_214 ?_
      refine aw_iaload dX8_speech_215 rfl (by decide) (by omega) ?_
      refine aw_iastore dX8_speech_216 rfl (by decide) (by omega) ?_
      refine aw_aload_n dX8_speech_217 rfl ?_
      refine aw_getR (kx := 14) fl_X8_46 dX8_speech_218 rfl rfl rfl ?_
      refine aw_iload_n dX8_speech_221 rfl ?_
      refine aw_aload_n dX8_speech_222 rfl ?_
      refine aw_getR (kx := 32) fl_X8_74 dX8_speech_223 rfl rfl rfl ?_
      refine aw_iconst dX8_speech_226 ?_
      refine aw_iload_n dX8_speech_227 rfl ?_
      refine aw_imul dX8_speech_228 ?_
      refine aw_iconst dX8_speech_229 ?_
      refine aw_iadd dX8_speech_230 ?_
      refine aw_iaload dX8_speech_231 rfl (by decide) (by omega) ?_
      refine aw_iastore dX8_speech_232 rfl (by decide) (by omega) ?_
      refine aw_iinc2 dX8_speech_233 (by decide) rfl ?_
      refine aw_goto (tgt := 163) dX8_speech_236 rfl ?_
      have hw := s14 d h1 (by omega)
      refine ih (d + 1) _ ⟨?_, ?_, ?_, ?_, ?_, ?_, ?_, ?_, ?_, ?_, ?_, ?_, ?_, ?_, ?_⟩ (by omega) (by omega) (by omega)
      · simp only [am_set_c (show ¬ (0 : Int) = 10 by decide), am_set_c (show ¬ (0 : Int) = 11 by decide), am_set_c (show ¬ (0 : Int) = 12 by decide), am_set_c (show ¬ (0 : Int) = 13 by decide)]; exact s0
      · rw [am_set_c (by decide), am_set_c (by decide), am_set_c (by decide), am_set_c (by decide)]; exact s1
      · rw [am_set_c (by decide), am_set_c (by decide), am_set_c (by decide), am_set_c (by decide)]; exact s2
      · rw [am_set_c (by decide), am_set_c (by decide), am_set_c (by decide), am_set_c (by decide)]; exact s3
      · rw [am_set_c (by decide), am_set_c (by decide), am_set_c (by decide), am_set_c (by decide)]; exact s4
      · rw [am_set_c (by decide), am_set_c (by decide), am_set_c (by decide), am_set_c (by decide)]; exact s5
      · rw [am_set_c (by decide), am_set_c (by decide), am_set_c (by decide)]; unfold am_set; rw [if_pos rfl, s6]; exact lo_s h1 hw.1
      · rw [am_set_c (by decide), am_set_c (by decide)]; rw [am_set_up, am_up_s, am_set_c (by decide), am_set_c (by decide), s7]; exact lo_s h1 hw.2.1
      · rw [am_set_c (by decide)]; rw [am_set_up, am_up_s, am_set_c (by decide), am_set_c (by decide), am_set_c (by decide), am_set_c (by decide), s8]; exact lo_s h1 hw.2.2.1
      · rw [am_set_up, am_up_s]; simp only [am_set_c (show ¬ (13 : Int) = 10 by decide), am_set_c (show ¬ (13 : Int) = 11 by decide), am_set_c (show ¬ (13 : Int) = 12 by decide), am_set_c (show ¬ (21 : Int) = 10 by decide), am_set_c (show ¬ (21 : Int) = 11 by decide), am_set_c (show ¬ (21 : Int) = 12 by decide), s9]; exact lo_s h1 hw.2.2.2
      · rw [am_set_c (by decide), am_set_c (by decide), am_set_c (by decide), am_set_c (by decide)]; exact s10
      · intro c hc; rw [am_set_c (by omega), am_set_c (by omega), am_set_c (by omega), am_set_c (by omega)]; exact s11 c hc
      · simp only [am_set_c (show ¬ (18 : Int) = 10 by decide), am_set_c (show ¬ (18 : Int) = 11 by decide), am_set_c (show ¬ (18 : Int) = 12 by decide), am_set_c (show ¬ (18 : Int) = 13 by decide), am_set_c (show ¬ (19 : Int) = 10 by decide), am_set_c (show ¬ (19 : Int) = 11 by decide), am_set_c (show ¬ (19 : Int) = 12 by decide), am_set_c (show ¬ (19 : Int) = 13 by decide)]; exact s12
      · rw [am_set_c (by decide), am_set_c (by decide), am_set_c (by decide), am_set_c (by decide)]; exact s13
      · rw [am_set_c (by decide), am_set_c (by decide), am_set_c (by decide), am_set_c (by decide)]; exact s14
theorem lp_X8_sp2 {g0 q : am_H} (hq : 0 ≤ q 0 3 ∧ q 0 3 ≤ 4) (hq2 : 0 ≤ q 0 2 ∧ q 0 2 ≤ 14) : ∀ (m : Nat) (d : Int) (g : am_H), SpI g0 q g (q 0 1) d 0 0 → 0 ≤ d → d ≤ q 0 2 → q 0 2 - d < m → ∀ {x1 : Int}, AW GM mX8_speech 7 (QM (q 0 1, spF g0 q)) 101 [some (am_R 0), some (am_I x1), some (am_I d)] [] g := by
  intro m
  induction m with
  | zero => intro e g hI h1 h2 h3; omega
  | succ m ih =>
    intro d g hI h1 h2 h3 x1
    have hI' := hI
    obtain ⟨s0, s1, s2, s3, s4, s5, s6, s7, s8, s9, s10, s11, s12, s13, s14⟩ := hI'
    have hd : g 0 10 = q 0 2 := by rw [s0 _ (by decide)]; rfl
    refine aw_iload_n dX8_speech_101 rfl ?_
    refine aw_aload_n dX8_speech_102 rfl ?_
    refine aw_getI (kx := 10) fl_X8_210 dX8_speech_103 rfl rfl rfl ?_
    refine aw_icmp_ge (tgt := 161) dX8_speech_106 rfl (by omega) (by omega) (fun hc106 => ?_) (fun hc106 => ?_)
    · refine aw_iconst dX8_speech_161 ?_
      refine aw_istore_2 dX8_speech_162 (by decide) rfl ?_
      have e : d = q 0 2 := by omega
      subst e
      exact lp_X8_sp3 hq 5 0 g hI (by omega) (by omega) (by omega)
    · refine aw_aload_n dX8_speech_109 rfl ?_
      refine aw_getR (kx := 7) fl_X8_28 dX8_speech_110 rfl rfl rfl ?_
      refine aw_iload_n dX8_speech_113 rfl ?_
      refine aw_aload_n dX8_speech_114 rfl ?_
      refine aw_getR (kx := 30) fl_X8_71 dX8_speech_115 rfl rfl rfl ?_
      refine aw_iconst dX8_speech_118 ?_
      refine aw_iload_n dX8_speech_119 rfl ?_
      refine aw_imul dX8_speech_120 ?_
      refine aw_iaload dX8_speech_121 rfl (by decide) (by omega) ?_
      refine aw_iastore dX8_speech_122 rfl (by decide) (by omega) ?_
      refine aw_aload_n dX8_speech_123 rfl ?_
      refine aw_getR (kx := 8) fl_X8_31 dX8_speech_124 rfl rfl rfl ?_
      refine aw_iload_n dX8_speech_127 rfl ?_
      refine aw_aload_n dX8_speech_128 rfl ?_
      refine aw_getR (kx := 30) fl_X8_71 dX8_speech_129 rfl rfl rfl ?_
      refine aw_iconst dX8_speech_132 ?_
      refine aw_iload_n dX8_speech_133 rfl ?_
      refine aw_imul dX8_speech_134 ?_
      refine aw_iconst dX8_speech_135 ?_
      refine aw_iadd dX8_speech_136 ?_
      refine aw_iaload dX8_speech_137 rfl (by decide) (by omega) ?_
      refine aw_iastore dX8_speech_138 rfl (by decide) (by omega) ?_
      refine aw_aload_n dX8_speech_139 rfl ?_
      refine aw_getR (kx := 9) fl_X8_34 dX8_speech_140 rfl rfl rfl ?_
      refine aw_iload_n dX8_speech_143 rfl ?_
      refine aw_aload_n dX8_speech_144 rfl ?_
      refine aw_getR (kx := 30) fl_X8_71 dX8_speech_145 rfl rfl rfl ?_
      refine aw_iconst dX8_speech_148 ?_
      refine aw_iload_n dX8_speech_149 rfl ?_
      refine aw_imul dX8_speech_150 ?_
      refine aw_iconst dX8_speech_151 ?_
      refine aw_iadd dX8_speech_152 ?_
      refine aw_iaload dX8_speech_153 rfl (by decide) (by omega) ?_
      refine aw_iastore dX8_speech_154 rfl (by decide) (by omega) ?_
      refine aw_iinc2 dX8_speech_155 (by decide) rfl ?_
      refine aw_goto (tgt := 101) dX8_speech_158 rfl ?_
      have hw := s13 d h1 (by omega)
      refine ih (d + 1) _ ⟨?_, ?_, ?_, ?_, ?_, ?_, ?_, ?_, ?_, ?_, ?_, ?_, ?_, ?_, ?_⟩ (by omega) (by omega) (by omega)
      · simp only [am_set_c (show ¬ (0 : Int) = 7 by decide), am_set_c (show ¬ (0 : Int) = 8 by decide), am_set_c (show ¬ (0 : Int) = 9 by decide)]; exact s0
      · rw [am_set_c (by decide), am_set_c (by decide), am_set_c (by decide)]; exact s1
      · rw [am_set_c (by decide), am_set_c (by decide), am_set_c (by decide)]; exact s2
      · rw [am_set_c (by decide), am_set_c (by decide)]; unfold am_set; rw [if_pos rfl, s3]; exact lo_s h1 hw.1
      · rw [am_set_c (by decide)]; rw [am_set_up, am_up_s, am_set_c (by decide), am_set_c (by decide), s4]; exact lo_s h1 hw.2.1
      · rw [am_set_up, am_up_s]; simp only [am_set_c (show ¬ (9 : Int) = 7 by decide), am_set_c (show ¬ (9 : Int) = 8 by decide), am_set_c (show ¬ (20 : Int) = 7 by decide), am_set_c (show ¬ (20 : Int) = 8 by decide), s5]; exact lo_s h1 hw.2.2
      · rw [am_set_c (by decide), am_set_c (by decide), am_set_c (by decide)]; exact s6
      · rw [am_set_c (by decide), am_set_c (by decide), am_set_c (by decide)]; exact s7
      · rw [am_set_c (by decide), am_set_c (by decide), am_set_c (by decide)]; exact s8
      · rw [am_set_c (by decide), am_set_c (by decide), am_set_c (by decide)]; exact s9
      · rw [am_set_c (by decide), am_set_c (by decide), am_set_c (by decide)]; exact s10
      · intro c hc; rw [am_set_c (by omega), am_set_c (by omega), am_set_c (by omega)]; exact s11 c hc
      · simp only [am_set_c (show ¬ (18 : Int) = 7 by decide), am_set_c (show ¬ (18 : Int) = 8 by decide), am_set_c (show ¬ (18 : Int) = 9 by decide), am_set_c (show ¬ (19 : Int) = 7 by decide), am_set_c (show ¬ (19 : Int) = 8 by decide), am_set_c (show ¬ (19 : Int) = 9 by decide)]; exact s12
      · rw [am_set_c (by decide), am_set_c (by decide), am_set_c (by decide)]; exact s13
      · rw [am_set_c (by decide), am_set_c (by decide), am_set_c (by decide)]; exact s14
theorem lp_X8_sp1 {g0 q : am_H} (hq : 0 ≤ q 0 3 ∧ q 0 3 ≤ 4) (hq2 : 0 ≤ q 0 2 ∧ q 0 2 ≤ 14) (hq1 : 0 ≤ q 0 1 ∧ q 0 1 ≤ 9) : ∀ (m : Nat) (d : Int) (g : am_H), SpI g0 q g d 0 0 0 → 0 ≤ d → d ≤ q 0 1 → q 0 1 - d < m → ∀ {x1 : Int}, AW GM mX8_speech 7 (QM (q 0 1, spF g0 q)) 61 [some (am_R 0), some (am_I x1), some (am_I d)] [] g := by
  intro m
  induction m with
  | zero => intro e g hI h1 h2 h3; omega
  | succ m ih =>
    intro d g hI h1 h2 h3 x1
    have hI' := hI
    obtain ⟨s0, s1, s2, s3, s4, s5, s6, s7, s8, s9, s10, s11, s12, s13, s14⟩ := hI'
    have hd : g 0 6 = q 0 1 := by rw [s0 _ (by decide)]; rfl
    refine aw_iload_n dX8_speech_61 rfl ?_
    refine aw_aload_n dX8_speech_62 rfl ?_
    refine aw_getI (kx := 6) fl_X8_207 dX8_speech_63 rfl rfl rfl ?_
    refine aw_icmp_ge (tgt := 99) dX8_speech_66 rfl (by omega) (by omega) (fun hc66 => ?_) (fun hc66 => ?_)
    · refine aw_iconst dX8_speech_99 ?_
      refine aw_istore_2 dX8_speech_100 (by decide) rfl ?_
      have e : d = q 0 1 := by omega
      subst e
      exact lp_X8_sp2 hq hq2 15 0 g hI (by omega) (by omega) (by omega)
    · refine aw_aload_n dX8_speech_69 rfl ?_
      refine aw_getR (kx := 4) fl_X8_22 dX8_speech_70 rfl rfl rfl ?_
      refine aw_iload_n dX8_speech_73 rfl ?_
      refine aw_aload_n dX8_speech_74 rfl ?_
      refine aw_getR (kx := 27) fl_X8_65 dX8_speech_75 rfl rfl rfl ?_
      refine aw_iload_n dX8_speech_78 rfl ?_
      refine aw_iaload dX8_speech_79 rfl (by decide) (by omega) ?_
      refine aw_iastore dX8_speech_80 rfl (by decide) (by omega) ?_
      refine aw_aload_n dX8_speech_81 rfl ?_
      refine aw_getR (kx := 5) fl_X8_25 dX8_speech_82 rfl rfl rfl ?_
      refine aw_iload_n dX8_speech_85 rfl ?_
      refine aw_aload_n dX8_speech_86 rfl ?_
      refine aw_getR (kx := 28) fl_X8_68 dX8_speech_87 rfl rfl rfl ?_
      refine aw_iload_n dX8_speech_90 rfl ?_
      refine aw_iaload dX8_speech_91 rfl (by decide) (by omega) ?_
      refine aw_iastore dX8_speech_92 rfl (by decide) (by omega) ?_
      refine aw_iinc2 dX8_speech_93 (by decide) rfl ?_
      refine aw_goto (tgt := 61) dX8_speech_96 rfl ?_
      have hw := s12 d h1 (by omega)
      refine ih (d + 1) _ ⟨?_, ?_, ?_, ?_, ?_, ?_, ?_, ?_, ?_, ?_, ?_, ?_, ?_, ?_, ?_⟩ (by omega) (by omega) (by omega)
      · simp only [am_set_c (show ¬ (0 : Int) = 5 by decide), am_set_c (show ¬ (0 : Int) = 6 by decide)]; exact s0
      · rw [am_set_c (by decide)]; unfold am_set; rw [if_pos rfl, s1]; exact lo_s h1 hw.1
      · rw [am_set_up, am_up_s, am_set_c (by decide), am_set_c (by decide), s2]; exact lo_s h1 hw.2
      · rw [am_set_c (by decide), am_set_c (by decide)]; exact s3
      · rw [am_set_c (by decide), am_set_c (by decide)]; exact s4
      · rw [am_set_c (by decide), am_set_c (by decide)]; exact s5
      · rw [am_set_c (by decide), am_set_c (by decide)]; exact s6
      · rw [am_set_c (by decide), am_set_c (by decide)]; exact s7
      · rw [am_set_c (by decide), am_set_c (by decide)]; exact s8
      · rw [am_set_c (by decide), am_set_c (by decide)]; exact s9
      · rw [am_set_c (by decide), am_set_c (by decide)]; exact s10
      · intro c hc; rw [am_set_c (by omega), am_set_c (by omega)]; exact s11 c hc
      · simp only [am_set_c (show ¬ (18 : Int) = 5 by decide), am_set_c (show ¬ (18 : Int) = 6 by decide), am_set_c (show ¬ (19 : Int) = 5 by decide), am_set_c (show ¬ (19 : Int) = 6 by decide)]; exact s12
      · rw [am_set_c (by decide), am_set_c (by decide)]; exact s13
      · rw [am_set_c (by decide), am_set_c (by decide)]; exact s14
theorem pLoop_PV {f : Int → Int} {sz : Int} : ∀ (n : Nat) (q : am_H), PV sz q → PV sz (pLoop f sz n q).2
  | 0, q, h => h
  | n + 1, q, h => by
    simp only [pLoop]
    split
    · exact h
    · rename_i hs
      have hI := h.item (f := f) (by omega)
      split
      · exact pLoop_PV n _ hI.1.skip
      · exact hI.1
theorem PV_0 {sz : Int} (h : 0 ≤ sz ∧ sz ≤ 80) : PV sz am_0 := by
  have z00 : am_0 0 0 = 0 := rfl
  have z01 : am_0 0 1 = 0 := rfl
  have z02 : am_0 0 2 = 0 := rfl
  have z03 : am_0 0 3 = 0 := rfl
  refine ⟨by omega, by omega, by omega, by omega, ?_, ?_, ?_, ?_, ?_, by omega⟩
  · intro x h1 h2; omega
  · intro x h1 h2; omega
  · intro x y h1 h2 h3; omega
  · intro x; rw [z02]; simp [cntF]
  · intro x h1 h2; omega
theorem pAll_PV {f : Int → Int} {sz : Int} (h : 0 ≤ sz ∧ sz ≤ 80) : PV sz (pAll f sz).2 := pLoop_PV _ _ (PV_0 h).skip
theorem c_X8_speech {g : am_H} {t : Int} (hv : MVt g) (ht : -2147483648 ≤ t ∧ t < 2147483648) : AMet GM mX8_speech 7 [am_R 0, am_I t] g (QM (S_speech g t)) := by
  refine am_start [some (am_R 0), some (am_I t), none] rfl rfl (by decide) (Nat.le_of_ble_eq_true rfl) ?_
  refine aw_iload_n dX8_speech_0 rfl ?_
  refine aw_cS1IF (c_X8_isText (by omega)) lk_X8_154 dX8_speech_1 (by decide) (fun _ => Nat.le_of_ble_eq_true rfl) ?_
  refine aw_ifb_ne (tgt := 9) dX8_speech_4 rfl (fun hc4 => ?_) (fun hc4 => ?_)
  · have hs := hv.1 t (by omega) (by omega)
    refine aw_aload_n dX8_speech_9 rfl ?_
    refine aw_getR (kx := 2) fl_X8_16 dX8_speech_10 rfl rfl rfl ?_
    refine aw_iload_n dX8_speech_13 rfl ?_
    refine aw_iaload dX8_speech_14 rfl (by decide) (by omega) ?_
    refine aw_if_ge (tgt := 24) dX8_speech_15 rfl (by omega) (fun hc15 => ?_) (fun hc15 => ?_)
    · refine aw_aload_n dX8_speech_24 rfl ?_
      refine aw_iload_n dX8_speech_25 rfl ?_
      refine aw_cV1I (c_X8_readSpeech hv (by omega) (by omega)) lk_X8_204 dX8_speech_26 (by decide) rfl rfl (fun _ => Nat.le_of_ble_eq_true rfl) (fun v26 h26 q26 => ?_)
      obtain ⟨rfl, hR⟩ := q26
      refine aw_ifb_ne (tgt := 35) dX8_speech_29 rfl (fun hc29 => ?_) (fun hc29 => ?_)
      · refine aw_aload_n dX8_speech_35 rfl ?_
        refine aw_aload_n dX8_speech_36 rfl ?_
        refine aw_getI (kx := 29) fl_X8_166 dX8_speech_37 rfl rfl rfl ?_
        refine aw_putI (kx := 6) fp_X8_207 dX8_speech_40 rfl rfl rfl ?_
        refine aw_aload_n dX8_speech_43 rfl ?_
        refine aw_aload_n dX8_speech_44 rfl ?_
        refine aw_getI (kx := 31) fl_X8_176 dX8_speech_45 rfl rfl rfl ?_
        refine aw_putI (kx := 10) fp_X8_210 dX8_speech_48 rfl rfl rfl ?_
        refine aw_aload_n dX8_speech_51 rfl ?_
        refine aw_aload_n dX8_speech_52 rfl ?_
        refine aw_getI (kx := 33) fl_X8_184 dX8_speech_53 rfl rfl rfl ?_
        refine aw_putI (kx := 15) fp_X8_213 dX8_speech_56 rfl rfl rfl ?_
        refine aw_iconst dX8_speech_59 ?_
        refine aw_istore_2 dX8_speech_60 (by decide) rfl ?_
        rw [S_speech, if_neg (by omega), if_neg (by omega), if_pos hc29]
        have hV := pAll_PV (f := fun j => g 4 (80 * t + j)) (sz := g 3 t) (by omega)
        obtain ⟨h0, ht, hsz, hf, hfr, e0, e1, e2, e3, hK, hW, hD⟩ := hR
        refine lp_X8_sp1 hV.2.2.2.1 hV.2.2.1 hV.2.1 10 0 _ ⟨?_, ?_, ?_, ?_, ?_, ?_, ?_, ?_, ?_, ?_, ?_, ?_, ?_, ?_, ?_⟩ (by omega) (by have := hV.2.1; omega) (by have := hV.2.1; omega)
        · intro j hj
          simp only [am_set_if, if_true]
          repeat' split
          all_goals first | exact h0.1 j hj | omega | (simp at *; omega)
        · rw [am_set_c (by decide), am_set_c (by decide), am_set_c (by decide), lo_0]; exact h0.2 _ (by omega)
        · rw [am_set_c (by decide), am_set_c (by decide), am_set_c (by decide), lo_0]; exact h0.2 _ (by omega)
        · rw [am_set_c (by decide), am_set_c (by decide), am_set_c (by decide), lo_0]; exact h0.2 _ (by omega)
        · rw [am_set_c (by decide), am_set_c (by decide), am_set_c (by decide), lo_0]; exact h0.2 _ (by omega)
        · rw [am_set_c (by decide), am_set_c (by decide), am_set_c (by decide), lo_0]; exact h0.2 _ (by omega)
        · rw [am_set_c (by decide), am_set_c (by decide), am_set_c (by decide), lo_0]; exact h0.2 _ (by omega)
        · rw [am_set_c (by decide), am_set_c (by decide), am_set_c (by decide), lo_0]; exact h0.2 _ (by omega)
        · rw [am_set_c (by decide), am_set_c (by decide), am_set_c (by decide), lo_0]; exact h0.2 _ (by omega)
        · rw [am_set_c (by decide), am_set_c (by decide), am_set_c (by decide), lo_0]; exact h0.2 _ (by omega)
        · rw [am_set_c (by decide), am_set_c (by decide), am_set_c (by decide), lo_0]; exact h0.2 _ (by omega)
        · intro c hc; rw [am_set_c (by omega), am_set_c (by omega), am_set_c (by omega)]; exact h0.2 c (by omega)
        · simp only [am_set_c (show ¬ (18 : Int) = 0 by decide), am_set_c (show ¬ (19 : Int) = 0 by decide)]; exact hK
        · simp only [am_set_c (show ¬ (20 : Int) = 0 by decide)]; exact hW
        · simp only [am_set_c (show ¬ (21 : Int) = 0 by decide)]; exact hD
      · refine aw_bipush (by decide) dX8_speech_32 ?_
        refine aw_iretQ dX8_speech_34 rfl ?_
        rw [S_speech, if_neg (by omega), if_neg (by omega), if_neg hc29]; exact ⟨rfl, hR.1⟩
    · refine aw_aload_n dX8_speech_18 rfl ?_
      refine aw_iconst dX8_speech_19 ?_
      refine aw_cV1IF (c_X8_find (by omega)) lk_X8_143 dX8_speech_20 (by decide) rfl rfl (fun _ => Nat.le_of_ble_eq_true rfl) ?_
      refine aw_iretQ dX8_speech_23 rfl ?_
      rw [S_speech, if_neg (by omega), if_pos (by omega)]; exact ⟨rfl, MEq.rf _⟩
  · refine aw_iconst dX8_speech_7 ?_
    refine aw_iretQ dX8_speech_8 rfl ?_
    rw [S_speech, if_pos (by omega)]; exact ⟨rfl, MEq.rf _⟩
