def MVq (g : am_H) : Prop := ∀ k : Int, 0 ≤ k → k < 3 → g 24 k = 1 → MVy (onF g k) ∧ MVd (onF g k)
theorem on_many {g : am_H} {k : Int} : onF g k 0 18 = g 25 (18 * k + 16) := by
  unfold onF; rw [am_set_i (by decide), am_set_s]
theorem MVq.rng {g : am_H} (h : MVq g) {k : Int} (h0 : 0 ≤ k) (h1 : k < 3) (h2 : g 24 k = 1) : 0 ≤ g 25 (18 * k + 16) ∧ g 25 (18 * k + 16) ≤ 8 := by
  have := (h k h0 h1 h2).1.1
  rw [on_many] at this
  exact this
def mixF (f : Int → Int) (s : Int) : Nat → Int
  | 0 => s
  | i + 1 => 31 * mixF f s i + f i
def DgI (g g' : am_H) (s : Int) : Prop := (∀ c : Int, ¬ c = 0 → ¬ c = 22 → ¬ c = 23 → g' c = g c) ∧ (∀ k : Int, ¬ k = 50 → g' 0 k = g 0 k) ∧ g' 0 50 = s
theorem DgI.vs {g g' : am_H} {s : Int} (h : DgI g g' s) (hs : MVs g) : MVs g' := hs.of (fun k _ => h.2.1 k (by omega)) (fun c a b => h.1 c (by omega) (by omega) (by omega))
theorem DgI.me {g g' : am_H} {s : Int} (h : DgI g g' s) : MEq g' g := ⟨fun k _ => h.2.1 k (by omega), fun c hc => h.1 c (by omega) (by omega) (by omega)⟩
theorem DgI.mix {g g' : am_H} {s v : Int} (h : DgI g g' s) : DgI g (am_set g' 0 50 (31 * g' 0 50 + v)) (31 * s + v) := ⟨fun c a b d => by rw [am_set_c a]; exact h.1 c a b d, fun k hk => by rw [am_set_i hk]; exact h.2.1 k hk, by rw [am_set_s, h.2.2]⟩
theorem DgI.fo {g g' g2 : am_H} {s x : Int} (h : DgI g g' s) (hf : FoI g' g2 x) : DgI g g2 s := ⟨fun c a b d => by rw [hf.1 c b d]; exact h.1 c a b d, fun k hk => by rw [hf.1 0 (by decide) (by decide)]; exact h.2.1 k hk, by rw [hf.1 0 (by decide) (by decide)]; exact h.2.2⟩
theorem DgI.vz {g g' : am_H} {s : Int} (h : DgI g g' s) (hz : MVz g) : MVz g' := by
  refine ⟨?_, ?_, ?_, h.vs hz.2.2.2⟩
  · unfold MVr; rw [h.1 1 (by decide) (by decide) (by decide), h.1 2 (by decide) (by decide) (by decide)]; exact hz.1
  · unfold MVt; rw [h.1 3 (by decide) (by decide) (by decide), h.1 4 (by decide) (by decide) (by decide)]; exact hz.2.1
  · unfold MVk; rw [h.1 24 (by decide) (by decide) (by decide)]; exact hz.2.2.1
theorem DgI.cnt {g g' : am_H} {s w : Int} (h : DgI g g' s) : cntV g' w = cntV g w := by
  unfold cntV
  rw [h.2.1 _ (by decide), h.2.1 10 (by decide), h.2.1 15 (by decide), h.2.1 18 (by decide), h.2.1 19 (by decide), h.1 5 (by decide) (by decide) (by decide), h.1 1 (by decide) (by decide) (by decide), h.1 3 (by decide) (by decide) (by decide), h.1 24 (by decide) (by decide) (by decide)]
theorem DgI.nod {g g' : am_H} {s x w : Int} (h : DgI g g' s) : nodeV g' x w = nodeV g x w := by
  unfold nodeV sen out nwN
  rw [h.2.1 10 (by decide), h.1 5 (by decide) (by decide) (by decide), h.1 6 (by decide) (by decide) (by decide), h.1 7 (by decide) (by decide) (by decide), h.1 8 (by decide) (by decide) (by decide)]
theorem DgI.wor {g g' : am_H} {s x w : Int} (h : DgI g g' s) : wordV g' x w = wordV g x w := by
  unfold wordV
  rw [h.1 7 (by decide) (by decide) (by decide), h.1 8 (by decide) (by decide) (by decide), h.1 9 (by decide) (by decide) (by decide)]
theorem DgI.dee {g g' : am_H} {s x w : Int} (h : DgI g g' s) : deedV g' x w = deedV g x w := by
  unfold deedV
  rw [h.2.1 19 (by decide), h.1 10 (by decide) (by decide) (by decide), h.1 11 (by decide) (by decide) (by decide), h.1 12 (by decide) (by decide) (by decide), h.1 13 (by decide) (by decide) (by decide)]
theorem thF_rng (f : Int → Int) : ∀ n : Nat, 0 ≤ thF f n ∧ thF f n ≤ n
  | 0 => by unfold thF; omega
  | n + 1 => by
    have := thF_rng f n
    unfold thF; split <;> omega
theorem dnF_rng (f : Int) : ∀ n : Nat, 0 ≤ dnF f n ∧ dnF f n ≤ n
  | 0 => by unfold dnF; omega
  | n + 1 => by
    have := dnF_rng f n
    unfold dnF; split <;> omega
theorem enF_rng (f : Int → Int) : ∀ n : Nat, 0 ≤ enF f n ∧ enF f n ≤ n
  | 0 => by unfold enF; omega
  | n + 1 => by
    have := enF_rng f n
    unfold enF; split <;> omega
theorem cntV_rng {g : am_H} (hz : MVz g) (hy : MVy g) (w : Int) : -1 ≤ cntV g w ∧ cntV g w ≤ 100 := by
  have h1 := hz.2.2.2.1
  have h2 := hz.2.2.2.2.1
  have h3 := hz.2.2.2.2.2.1
  have h4 := hy.1
  have k0 := hz.2.2.1 0 (by omega) (by omega)
  have k1 := hz.2.2.1 1 (by omega) (by omega)
  have k2 := hz.2.2.1 2 (by omega) (by omega)
  have r1 := dnF_rng (g 0 19) (g 0 15).toNat
  have r2 := enF_rng (g 5) (g 0 6).toNat
  have r3 := thF_rng (g 1) 6
  have r4 := thF_rng (g 3) 4
  unfold cntV
  repeat' split
  all_goals omega
theorem sen_rng {g : am_H} (hs : MVs g) : ∀ (n : Nat) (x : Int), 0 ≤ x → x < g 0 6 → g 0 6 - x ≤ n → 0 ≤ sen g x ∧ sen g x ≤ ((4 ^ n : Nat) : Int) := by
  intro n
  induction n with
  | zero => intro x h1 h2 h3; omega
  | succ n ih =>
    intro x h1 h2 h3
    have hb : 0 ≤ (if fin (g 5 x) then (1 : Int) else 0) ∧ (if fin (g 5 x) then (1 : Int) else 0) ≤ 1 := by split <;> omega
    have hp : 0 < 4 ^ n := Nat.pow_pos (by decide)
    have e4 : ((4 ^ (n + 1) : Nat) : Int) = 4 * ((4 ^ n : Nat) : Int) := by rw [Nat.pow_succ]; omega
    rw [sen_eq hs h1 h2, e4]
    unfold FS
    have hf := fold_rng (lo := 0) (hi := ((4 ^ n : Nat) : Int)) (fun k => sen g (g 8 k)) (wl (g 7) x (nwN g)) (if fin (g 5 x) then 1 else 0) (fun k hk => by
      obtain ⟨a1, a2, a3⟩ := wl_mem.mp hk
      have a4 := to_ok hs k a1 a2
      exact ih (g 8 k) (by omega) a4.2 (by omega))
    have hl := wl_len (g 7) x (nwN g)
    have hc : cntF (g 7) x (nwN g) ≤ 4 := hs.2.2.2.2.2.2.1 x
    have hn0 := nofin (x := x) hs
    have hm : ((wl (g 7) x (nwN g)).length : Int) * ((4 ^ n : Nat) : Int) ≤ 4 * ((4 ^ n : Nat) : Int) := Int.mul_le_mul_of_nonneg_right (by omega) (by omega)
    by_cases e : cntF (g 7) x (nwN g) = 0
    · have e0 : ((wl (g 7) x (nwN g)).length : Int) = 0 := by omega
      rw [e0] at hf hm
      omega
    · rw [if_neg (hn0 e)] at hf ⊢
      omega
theorem nodeV_rng {g : am_H} (hs : MVs g) {x : Int} (h1 : 0 ≤ x) (h2 : x < g 0 6) (w : Int) : 0 ≤ nodeV g x w ∧ nodeV g x w ≤ 262144 := by
  have hnn := hs.1
  have hw := hs.2.1
  have a := (hs.2.2.2.1 x h1 h2).1
  have b := wsN_lt16 (g 7) x (n := nwN g) (by unfold nwN; omega)
  have c := sen_rng hs 9 x h1 h2 (by omega)
  rw [show (4 : Nat) ^ 9 = 262144 from rfl] at c
  have d : out g x % 64 < 64 := Nat.mod_lt _ (by decide)
  unfold nodeV
  repeat' split
  all_goals omega
theorem c_X8_mix {g : am_H} {v : Int} : AMet GM mX8_mix 1 [am_R 0, am_J v] g (am_FV (am_set g 0 50 (31 * g 0 50 + v))) := by
  refine am_start [some (am_R 0), some (am_J v), none] rfl rfl (by decide) (Nat.le_of_ble_eq_true rfl) ?_
  refine aw_aload_n dX8_mix_0 rfl ?_
  refine aw_ldc2 (n := 31) kj_X8_367 rfl dX8_mix_1 ?_
  refine aw_aload_n dX8_mix_4 rfl ?_
  refine aw_getJ (kx := 50) fl_X8_369 dX8_mix_5 rfl rfl rfl ?_
  refine aw_lmul dX8_mix_8 ?_
  refine aw_lload_n dX8_mix_9 rfl ?_
  refine aw_ladd dX8_mix_10 ?_
  refine aw_putJ (kx := 50) fp_X8_369 dX8_mix_11 rfl rfl rfl ?_
  refine aw_vretF dX8_mix_14 rfl ?_
  rfl
theorem lp_X8_dg1 {g : am_H} {Q : Option am_V → am_H → Prop} (hz : MVz g) (hy : MVy g) (hq : MVq g) {s0 : Int} {x2 : Option am_V} (K : ∀ (g' : am_H) (x1 : Option am_V), DgI g g' (mixF (cntV g) s0 ((9 : Int)).toNat) → AW GM mX8_digest 5 Q 31 [some (am_R 0), x1, x2] [] g') : ∀ (m i : Nat) (g' : am_H), (i : Int) ≤ (9 : Int) → (9 : Int) - i < m → DgI g g' (mixF (cntV g) s0 i) → AW GM mX8_digest 5 Q 9 [some (am_R 0), some (am_I i), x2] [] g' := by
  have hs := hz.2.2.2
  have hnn := hs.1
  have hw := hs.2.1
  have hnd := hs.2.2.1
  have hmy := hy.1
  intro m
  induction m with
  | zero => intro i g' h1 h2; omega
  | succ m ih =>
    intro i g' h1 h2 hI
    have q6 : g' 0 6 = g 0 6 := hI.2.1 _ (by decide)
    have q10 : g' 0 10 = g 0 10 := hI.2.1 _ (by decide)
    have q15 : g' 0 15 = g 0 15 := hI.2.1 _ (by decide)
    have q18 : g' 0 18 = g 0 18 := hI.2.1 _ (by decide)
    have td : ∀ b : Int, (i : Int).tdiv b = (i : Int) / b := fun b => Int.tdiv_eq_ediv_of_nonneg (by omega)
    have tm : ∀ b : Int, (i : Int).tmod b = (i : Int) % b := fun b => Int.tmod_eq_emod_of_nonneg (by omega)
    have nxt : ∀ g3 : am_H, (i : Int) < (9 : Int) → DgI g g3 (31 * mixF (cntV g) s0 i + (cntV g) i) → AW GM mX8_digest 5 Q 9 [some (am_R 0), some (am_I (i + 1 : Nat)), x2] [] g3 := fun g3 hlt hd => ih (i + 1) g3 (by omega) (by omega) hd
    have hr := cntV_rng hz hy i
    refine aw_iload_n dX8_digest_9 rfl ?_
    refine aw_bipush (by decide) dX8_digest_10 ?_
    refine aw_icmp_ge (tgt := 31) dX8_digest_12 rfl (by omega) (by omega) (fun hc12 => ?_) (fun hc12 => ?_)
    · exact K g' _ (by rw [show ((9 : Int)).toNat = i by omega]; exact hI)
    · refine aw_aload_n dX8_digest_15 rfl ?_
      refine aw_aload_n dX8_digest_16 rfl ?_
      refine aw_iload_n dX8_digest_17 rfl ?_
      refine aw_cV1IF (c_X8_count (hI.vz hz) (by omega)) lk_X8_374 dX8_digest_18 (by decide) rfl rfl (fun _ => Nat.le_of_ble_eq_true rfl) ?_
      refine aw_top (hI.cnt) ?_
      refine aw_i2l (by omega) dX8_digest_21 ?_
      refine aw_cV1VF (c_X8_mix) lk_X8_377 dX8_digest_22 (by decide) rfl rfl (fun _ => Nat.le_of_ble_eq_true rfl) ?_
      refine aw_iinc1 dX8_digest_25 (by decide) rfl ?_
      refine aw_goto (tgt := 9) dX8_digest_28 rfl ?_
      exact nxt _ (by omega) hI.mix
theorem lp_X8_dg2 {g : am_H} {Q : Option am_V → am_H → Prop} (hz : MVz g) (hy : MVy g) (hq : MVq g) {s0 : Int} {x2 : Option am_V} (K : ∀ (g' : am_H) (x1 : Option am_V), DgI g g' (mixF (fun k => nodeV g (k / 4) (k % 4)) s0 (4 * g 0 6).toNat) → AW GM mX8_digest 5 Q 64 [some (am_R 0), x1, x2] [] g') : ∀ (m i : Nat) (g' : am_H), (i : Int) ≤ 4 * g 0 6 → 4 * g 0 6 - i < m → DgI g g' (mixF (fun k => nodeV g (k / 4) (k % 4)) s0 i) → AW GM mX8_digest 5 Q 33 [some (am_R 0), some (am_I i), x2] [] g' := by
  have hs := hz.2.2.2
  have hnn := hs.1
  have hw := hs.2.1
  have hnd := hs.2.2.1
  have hmy := hy.1
  intro m
  induction m with
  | zero => intro i g' h1 h2; omega
  | succ m ih =>
    intro i g' h1 h2 hI
    have q6 : g' 0 6 = g 0 6 := hI.2.1 _ (by decide)
    have q10 : g' 0 10 = g 0 10 := hI.2.1 _ (by decide)
    have q15 : g' 0 15 = g 0 15 := hI.2.1 _ (by decide)
    have q18 : g' 0 18 = g 0 18 := hI.2.1 _ (by decide)
    have td : ∀ b : Int, (i : Int).tdiv b = (i : Int) / b := fun b => Int.tdiv_eq_ediv_of_nonneg (by omega)
    have tm : ∀ b : Int, (i : Int).tmod b = (i : Int) % b := fun b => Int.tmod_eq_emod_of_nonneg (by omega)
    have nxt : ∀ g3 : am_H, (i : Int) < 4 * g 0 6 → DgI g g3 (31 * mixF (fun k => nodeV g (k / 4) (k % 4)) s0 i + (fun k => nodeV g (k / 4) (k % 4)) i) → AW GM mX8_digest 5 Q 33 [some (am_R 0), some (am_I (i + 1 : Nat)), x2] [] g3 := fun g3 hlt hd => ih (i + 1) g3 (by omega) (by omega) hd
    refine aw_iload_n dX8_digest_33 rfl ?_
    refine aw_iconst dX8_digest_34 ?_
    refine aw_aload_n dX8_digest_35 rfl ?_
    refine aw_getI (kx := 6) fl_X8_207 dX8_digest_36 rfl rfl rfl ?_
    refine aw_imul dX8_digest_39 ?_
    refine aw_icmp_ge (tgt := 64) dX8_digest_40 rfl (by omega) (by omega) (fun hc40 => ?_) (fun hc40 => ?_)
    · exact K g' _ (by rw [show (4 * g 0 6).toNat = i by omega]; exact hI)
    · have hr := nodeV_rng hs (x := (i : Int) / 4) (by omega) (by omega) ((i : Int) % 4)
      refine aw_aload_n dX8_digest_43 rfl ?_
      refine aw_aload_n dX8_digest_44 rfl ?_
      refine aw_iload_n dX8_digest_45 rfl ?_
      refine aw_iconst dX8_digest_46 ?_
      refine aw_idiv (by omega) (by omega) dX8_digest_47 ?_
      rw [td]
      refine aw_iload_n dX8_digest_48 rfl ?_
      refine aw_iconst dX8_digest_49 ?_
      refine aw_irem (by omega) (by omega) dX8_digest_50 ?_
      rw [tm]
      refine aw_cV2I (c_X8_nodeOf (hI.vs hs) (by omega) (by omega)) lk_X8_234 dX8_digest_51 (by decide) rfl rfl (fun _ => Nat.le_of_ble_eq_true rfl) (fun v51 h51 q51 => ?_)
      refine aw_top (q51.1.trans hI.nod) ?_
      refine aw_i2l (by omega) dX8_digest_54 ?_
      refine aw_cV1VF (c_X8_mix) lk_X8_377 dX8_digest_55 (by decide) rfl rfl (fun _ => Nat.le_of_ble_eq_true rfl) ?_
      refine aw_iinc1 dX8_digest_58 (by decide) rfl ?_
      refine aw_goto (tgt := 33) dX8_digest_61 rfl ?_
      exact nxt _ (by omega) (hI.fo q51.2).mix
theorem lp_X8_dg3 {g : am_H} {Q : Option am_V → am_H → Prop} (hz : MVz g) (hy : MVy g) (hq : MVq g) {s0 : Int} {x2 : Option am_V} (K : ∀ (g' : am_H) (x1 : Option am_V), DgI g g' (mixF (fun k => wordV g (k / 3) (k % 3)) s0 (3 * g 0 10).toNat) → AW GM mX8_digest 5 Q 97 [some (am_R 0), x1, x2] [] g') : ∀ (m i : Nat) (g' : am_H), (i : Int) ≤ 3 * g 0 10 → 3 * g 0 10 - i < m → DgI g g' (mixF (fun k => wordV g (k / 3) (k % 3)) s0 i) → AW GM mX8_digest 5 Q 66 [some (am_R 0), some (am_I i), x2] [] g' := by
  have hs := hz.2.2.2
  have hnn := hs.1
  have hw := hs.2.1
  have hnd := hs.2.2.1
  have hmy := hy.1
  intro m
  induction m with
  | zero => intro i g' h1 h2; omega
  | succ m ih =>
    intro i g' h1 h2 hI
    have q6 : g' 0 6 = g 0 6 := hI.2.1 _ (by decide)
    have q10 : g' 0 10 = g 0 10 := hI.2.1 _ (by decide)
    have q15 : g' 0 15 = g 0 15 := hI.2.1 _ (by decide)
    have q18 : g' 0 18 = g 0 18 := hI.2.1 _ (by decide)
    have td : ∀ b : Int, (i : Int).tdiv b = (i : Int) / b := fun b => Int.tdiv_eq_ediv_of_nonneg (by omega)
    have tm : ∀ b : Int, (i : Int).tmod b = (i : Int) % b := fun b => Int.tmod_eq_emod_of_nonneg (by omega)
    have nxt : ∀ g3 : am_H, (i : Int) < 3 * g 0 10 → DgI g g3 (31 * mixF (fun k => wordV g (k / 3) (k % 3)) s0 i + (fun k => wordV g (k / 3) (k % 3)) i) → AW GM mX8_digest 5 Q 66 [some (am_R 0), some (am_I (i + 1 : Nat)), x2] [] g3 := fun g3 hlt hd => ih (i + 1) g3 (by omega) (by omega) hd
    refine aw_iload_n dX8_digest_66 rfl ?_
    refine aw_iconst dX8_digest_67 ?_
    refine aw_aload_n dX8_digest_68 rfl ?_
    refine aw_getI (kx := 10) fl_X8_210 dX8_digest_69 rfl rfl rfl ?_
    refine aw_imul dX8_digest_72 ?_
    refine aw_icmp_ge (tgt := 97) dX8_digest_73 rfl (by omega) (by omega) (fun hc73 => ?_) (fun hc73 => ?_)
    · exact K g' _ (by rw [show (3 * g 0 10).toNat = i by omega]; exact hI)
    · have hv := hs.2.2.2.2.1 ((i : Int) / 3) (by omega) (by omega)
      have hr : -1 ≤ wordV g ((i : Int) / 3) ((i : Int) % 3) ∧ wordV g ((i : Int) / 3) ((i : Int) % 3) ≤ 100 := by unfold wordV; (repeat' split) <;> omega
      refine aw_aload_n dX8_digest_76 rfl ?_
      refine aw_aload_n dX8_digest_77 rfl ?_
      refine aw_iload_n dX8_digest_78 rfl ?_
      refine aw_iconst dX8_digest_79 ?_
      refine aw_idiv (by omega) (by omega) dX8_digest_80 ?_
      rw [td]
      refine aw_iload_n dX8_digest_81 rfl ?_
      refine aw_iconst dX8_digest_82 ?_
      refine aw_irem (by omega) (by omega) dX8_digest_83 ?_
      rw [tm]
      refine aw_cV2IF (c_X8_wordOf (by omega) (by omega)) lk_X8_242 dX8_digest_84 (by decide) rfl rfl (fun _ => Nat.le_of_ble_eq_true rfl) ?_
      refine aw_top hI.wor ?_
      refine aw_i2l (by omega) dX8_digest_87 ?_
      refine aw_cV1VF (c_X8_mix) lk_X8_377 dX8_digest_88 (by decide) rfl rfl (fun _ => Nat.le_of_ble_eq_true rfl) ?_
      refine aw_iinc1 dX8_digest_91 (by decide) rfl ?_
      refine aw_goto (tgt := 66) dX8_digest_94 rfl ?_
      exact nxt _ (by omega) hI.mix
theorem lp_X8_dg4 {g : am_H} {Q : Option am_V → am_H → Prop} (hz : MVz g) (hy : MVy g) (hq : MVq g) {s0 : Int} {x2 : Option am_V} (K : ∀ (g' : am_H) (x1 : Option am_V), DgI g g' (mixF (fun k => deedV g (k / 5) (k % 5)) s0 (5 * g 0 15).toNat) → AW GM mX8_digest 5 Q 130 [some (am_R 0), x1, x2] [] g') : ∀ (m i : Nat) (g' : am_H), (i : Int) ≤ 5 * g 0 15 → 5 * g 0 15 - i < m → DgI g g' (mixF (fun k => deedV g (k / 5) (k % 5)) s0 i) → AW GM mX8_digest 5 Q 99 [some (am_R 0), some (am_I i), x2] [] g' := by
  have hs := hz.2.2.2
  have hnn := hs.1
  have hw := hs.2.1
  have hnd := hs.2.2.1
  have hmy := hy.1
  intro m
  induction m with
  | zero => intro i g' h1 h2; omega
  | succ m ih =>
    intro i g' h1 h2 hI
    have q6 : g' 0 6 = g 0 6 := hI.2.1 _ (by decide)
    have q10 : g' 0 10 = g 0 10 := hI.2.1 _ (by decide)
    have q15 : g' 0 15 = g 0 15 := hI.2.1 _ (by decide)
    have q18 : g' 0 18 = g 0 18 := hI.2.1 _ (by decide)
    have td : ∀ b : Int, (i : Int).tdiv b = (i : Int) / b := fun b => Int.tdiv_eq_ediv_of_nonneg (by omega)
    have tm : ∀ b : Int, (i : Int).tmod b = (i : Int) % b := fun b => Int.tmod_eq_emod_of_nonneg (by omega)
    have nxt : ∀ g3 : am_H, (i : Int) < 5 * g 0 15 → DgI g g3 (31 * mixF (fun k => deedV g (k / 5) (k % 5)) s0 i + (fun k => deedV g (k / 5) (k % 5)) i) → AW GM mX8_digest 5 Q 99 [some (am_R 0), some (am_I (i + 1 : Nat)), x2] [] g3 := fun g3 hlt hd => ih (i + 1) g3 (by omega) (by omega) hd
    refine aw_iload_n dX8_digest_99 rfl ?_
    refine aw_iconst dX8_digest_100 ?_
    refine aw_aload_n dX8_digest_101 rfl ?_
    refine aw_getI (kx := 15) fl_X8_213 dX8_digest_102 rfl rfl rfl ?_
    refine aw_imul dX8_digest_105 ?_
    refine aw_icmp_ge (tgt := 130) dX8_digest_106 rfl (by omega) (by omega) (fun hc106 => ?_) (fun hc106 => ?_)
    · exact K g' _ (by rw [show (5 * g 0 15).toNat = i by omega]; exact hI)
    · have hv := hs.2.2.2.2.2.2.2.1 ((i : Int) / 5) (by omega) (by omega)
      have hh := hw_rng (g 0 19) ((i : Int) / 5)
      have hr : -1 ≤ deedV g ((i : Int) / 5) ((i : Int) % 5) ∧ deedV g ((i : Int) / 5) ((i : Int) % 5) ≤ 100 := by unfold deedV; (repeat' split) <;> omega
      refine aw_aload_n dX8_digest_109 rfl ?_
      refine aw_aload_n dX8_digest_110 rfl ?_
      refine aw_iload_n dX8_digest_111 rfl ?_
      refine aw_iconst dX8_digest_112 ?_
      refine aw_idiv (by omega) (by omega) dX8_digest_113 ?_
      rw [td]
      refine aw_iload_n dX8_digest_114 rfl ?_
      refine aw_iconst dX8_digest_115 ?_
      refine aw_irem (by omega) (by omega) dX8_digest_116 ?_
      rw [tm]
      refine aw_cV2IF (c_X8_deedOf (by omega) (by omega)) lk_X8_253 dX8_digest_117 (by decide) rfl rfl (fun _ => Nat.le_of_ble_eq_true rfl) ?_
      refine aw_top hI.dee ?_
      refine aw_i2l (by omega) dX8_digest_120 ?_
      refine aw_cV1VF (c_X8_mix) lk_X8_377 dX8_digest_121 (by decide) rfl rfl (fun _ => Nat.le_of_ble_eq_true rfl) ?_
      refine aw_iinc1 dX8_digest_124 (by decide) rfl ?_
      refine aw_goto (tgt := 99) dX8_digest_127 rfl ?_
      exact nxt _ (by omega) hI.mix
theorem lp_X8_dg5 {g : am_H} {Q : Option am_V → am_H → Prop} (hz : MVz g) (hy : MVy g) (hq : MVq g) {s0 : Int} {x2 : Option am_V} (K : ∀ (g' : am_H) (x1 : Option am_V), DgI g g' (mixF (g 14) s0 (g 0 18).toNat) → AW GM mX8_digest 5 Q 157 [some (am_R 0), x1, x2] [] g') : ∀ (m i : Nat) (g' : am_H), (i : Int) ≤ g 0 18 → g 0 18 - i < m → DgI g g' (mixF (g 14) s0 i) → AW GM mX8_digest 5 Q 132 [some (am_R 0), some (am_I i), x2] [] g' := by
  have hs := hz.2.2.2
  have hnn := hs.1
  have hw := hs.2.1
  have hnd := hs.2.2.1
  have hmy := hy.1
  intro m
  induction m with
  | zero => intro i g' h1 h2; omega
  | succ m ih =>
    intro i g' h1 h2 hI
    have q6 : g' 0 6 = g 0 6 := hI.2.1 _ (by decide)
    have q10 : g' 0 10 = g 0 10 := hI.2.1 _ (by decide)
    have q15 : g' 0 15 = g 0 15 := hI.2.1 _ (by decide)
    have q18 : g' 0 18 = g 0 18 := hI.2.1 _ (by decide)
    have td : ∀ b : Int, (i : Int).tdiv b = (i : Int) / b := fun b => Int.tdiv_eq_ediv_of_nonneg (by omega)
    have tm : ∀ b : Int, (i : Int).tmod b = (i : Int) % b := fun b => Int.tmod_eq_emod_of_nonneg (by omega)
    have nxt : ∀ g3 : am_H, (i : Int) < g 0 18 → DgI g g3 (31 * mixF (g 14) s0 i + (g 14) i) → AW GM mX8_digest 5 Q 132 [some (am_R 0), some (am_I (i + 1 : Nat)), x2] [] g3 := fun g3 hlt hd => ih (i + 1) g3 (by omega) (by omega) hd
    have hsd : g' 14 i = g 14 i := by rw [hI.1 14 (by decide) (by decide) (by decide)]
    have hv := hy.2.2 i (by omega)
    refine aw_iload_n dX8_digest_132 rfl ?_
    refine aw_aload_n dX8_digest_133 rfl ?_
    refine aw_getI (kx := 18) fl_X8_216 dX8_digest_134 rfl rfl rfl ?_
    refine aw_icmp_ge (tgt := 157) dX8_digest_137 rfl (by omega) (by omega) (fun hc137 => ?_) (fun hc137 => ?_)
    · exact K g' _ (by rw [show (g 0 18).toNat = i by omega]; exact hI)
    · have hv2 := (hv (by omega)).1
      refine aw_aload_n dX8_digest_140 rfl ?_
      refine aw_aload_n dX8_digest_141 rfl ?_
      refine aw_getR (kx := 16) fl_X8_49 dX8_digest_142 rfl rfl rfl ?_
      refine aw_iload_n dX8_digest_145 rfl ?_
      refine aw_iaload dX8_digest_146 rfl (by decide) (by omega) ?_
      refine aw_top hsd ?_
      refine aw_i2l (by omega) dX8_digest_147 ?_
      refine aw_cV1VF (c_X8_mix) lk_X8_377 dX8_digest_148 (by decide) rfl rfl (fun _ => Nat.le_of_ble_eq_true rfl) ?_
      refine aw_iinc1 dX8_digest_151 (by decide) rfl ?_
      refine aw_goto (tgt := 132) dX8_digest_154 rfl ?_
      exact nxt _ (by omega) hI.mix
theorem lp_X8_dg6 {g : am_H} {Q : Option am_V → am_H → Prop} (hz : MVz g) (hy : MVy g) (hq : MVq g) {s0 : Int} {x2 : Option am_V} (K : ∀ (g' : am_H) (x1 : Option am_V), DgI g g' (mixF (fun k => if g 24 k = 0 then -1 else g 25 (18 * k + 16)) s0 ((3 : Int)).toNat) → AW GM mX8_digest 5 Q 202 [some (am_R 0), x1, x2] [] g') : ∀ (m i : Nat) (g' : am_H), (i : Int) ≤ (3 : Int) → (3 : Int) - i < m → DgI g g' (mixF (fun k => if g 24 k = 0 then -1 else g 25 (18 * k + 16)) s0 i) → AW GM mX8_digest 5 Q 159 [some (am_R 0), some (am_I i), x2] [] g' := by
  have hs := hz.2.2.2
  have hnn := hs.1
  have hw := hs.2.1
  have hnd := hs.2.2.1
  have hmy := hy.1
  intro m
  induction m with
  | zero => intro i g' h1 h2; omega
  | succ m ih =>
    intro i g' h1 h2 hI
    have q6 : g' 0 6 = g 0 6 := hI.2.1 _ (by decide)
    have q10 : g' 0 10 = g 0 10 := hI.2.1 _ (by decide)
    have q15 : g' 0 15 = g 0 15 := hI.2.1 _ (by decide)
    have q18 : g' 0 18 = g 0 18 := hI.2.1 _ (by decide)
    have td : ∀ b : Int, (i : Int).tdiv b = (i : Int) / b := fun b => Int.tdiv_eq_ediv_of_nonneg (by omega)
    have tm : ∀ b : Int, (i : Int).tmod b = (i : Int) % b := fun b => Int.tmod_eq_emod_of_nonneg (by omega)
    have nxt : ∀ g3 : am_H, (i : Int) < (3 : Int) → DgI g g3 (31 * mixF (fun k => if g 24 k = 0 then -1 else g 25 (18 * k + 16)) s0 i + (fun k => if g 24 k = 0 then -1 else g 25 (18 * k + 16)) i) → AW GM mX8_digest 5 Q 159 [some (am_R 0), some (am_I (i + 1 : Nat)), x2] [] g3 := fun g3 hlt hd => ih (i + 1) g3 (by omega) (by omega) hd
    have hik : g' 24 i = g 24 i := by rw [hI.1 24 (by decide) (by decide) (by decide)]
    have hke : g' 25 (18 * i + 16) = g 25 (18 * i + 16) := by rw [hI.1 25 (by decide) (by decide) (by decide)]
    have hv := hz.2.2.1 i (by omega)
    have hv3 := fun a b => hq.rng (k := i) (by omega) a b
    refine aw_iload_n dX8_digest_159 rfl ?_
    refine aw_iconst dX8_digest_160 ?_
    refine aw_icmp_ge (tgt := 202) dX8_digest_161 rfl (by omega) (by omega) (fun hc161 => ?_) (fun hc161 => ?_)
    · exact K g' _ (by rw [show ((3 : Int)).toNat = i by omega]; exact hI)
    · have hv2 := hv (by omega)
      have hv4 := fun b => hv3 (by omega) b
      refine aw_aload_n dX8_digest_164 rfl ?_
      refine aw_aload_n dX8_digest_165 rfl ?_
      refine aw_getR (kx := 36) fl_X8_83 dX8_digest_166 rfl rfl rfl ?_
      refine aw_iload_n dX8_digest_169 rfl ?_
      refine aw_zaload dX8_digest_170 rfl (by decide) (by omega) ?_
      refine aw_if_eq (tgt := 190) dX8_digest_171 rfl (by omega) (fun hc171 => ?_) (fun hc171 => ?_)
      · refine aw_ldc2 (n := -1) kj_X8_380 rfl dX8_digest_190 ?_
        refine aw_cV1VF (c_X8_mix) lk_X8_377 dX8_digest_193 (by decide) rfl rfl (fun _ => Nat.le_of_ble_eq_true rfl) ?_
        refine aw_iinc1 dX8_digest_196 (by decide) rfl ?_
        refine aw_goto (tgt := 159) dX8_digest_199 rfl ?_
        exact nxt _ (by omega) (by dsimp only; rw [if_pos (by omega)]; exact hI.mix)
      · refine aw_aload_n dX8_digest_174 rfl ?_
        refine aw_getR (kx := 37) fl_X8_87 dX8_digest_175 rfl rfl rfl ?_
        refine aw_bipush (by decide) dX8_digest_178 ?_
        refine aw_iload_n dX8_digest_180 rfl ?_
        refine aw_imul dX8_digest_181 ?_
        refine aw_bipush (by decide) dX8_digest_182 ?_
        refine aw_iadd dX8_digest_184 ?_
        refine aw_iaload dX8_digest_185 rfl (by decide) (by omega) ?_
        refine aw_top hke ?_
        refine aw_i2l (by omega) dX8_digest_186 ?_
        refine aw_goto (tgt := 193) dX8_digest_187 rfl ?_
        refine aw_cV1VF (c_X8_mix) lk_X8_377 dX8_digest_193 (by decide) rfl rfl (fun _ => Nat.le_of_ble_eq_true rfl) ?_
        refine aw_iinc1 dX8_digest_196 (by decide) rfl ?_
        refine aw_goto (tgt := 159) dX8_digest_199 rfl ?_
        exact nxt _ (by omega) (by dsimp only; rw [if_neg (by omega)]; exact hI.mix)
def dg7F (g : am_H) (s0 : Int) : Nat → Int
  | 0 => s0
  | i + 1 => mixF (fun k => g 2 (40 * (i : Int) + k)) (31 * dg7F g s0 i + g 1 i) (g 1 i).toNat
theorem lp_X8_dg7b {g : am_H} {Q : Option am_V → am_H → Prop} (hz : MVz g) (hy : MVy g) (hq : MVq g) {s0 : Int} {i : Nat} (hi : (i : Int) < 6) (K : ∀ (g' : am_H) (x2 : Option am_V), DgI g g' (mixF (fun k => g 2 (40 * (i : Int) + k)) s0 (g 1 i).toNat) → AW GM mX8_digest 5 Q 255 [some (am_R 0), some (am_I i), x2] [] g') : ∀ (m k : Nat) (g' : am_H), (k : Int) ≤ (g 1 i).toNat → (g 1 i).toNat - (k : Int) < m → DgI g g' (mixF (fun k => g 2 (40 * (i : Int) + k)) s0 k) → AW GM mX8_digest 5 Q 223 [some (am_R 0), some (am_I i), some (am_I k)] [] g' := by
  have hv := hz.1.1 i (by omega) (by omega)
  intro m
  induction m with
  | zero => intro k g' h1 h2; omega
  | succ m ih =>
    intro k g' h1 h2 hI
    have q1 : g' 1 i = g 1 i := by rw [hI.1 1 (by decide) (by decide) (by decide)]
    have q2 : g' 2 (40 * i + k) = g 2 (40 * i + k) := by rw [hI.1 2 (by decide) (by decide) (by decide)]
    have hr := hz.1.2 (40 * i + k)
    refine aw_iload_n dX8_digest_223 rfl ?_
    refine aw_aload_n dX8_digest_224 rfl ?_
    refine aw_getR (kx := 0) fl_X8_7 dX8_digest_225 rfl rfl rfl ?_
    refine aw_iload_n dX8_digest_228 rfl ?_
    refine aw_iaload dX8_digest_229 rfl (by decide) (by omega) ?_
    refine aw_icmp_ge (tgt := 255) dX8_digest_230 rfl (by omega) (by omega) (fun hc230 => ?_) (fun hc230 => ?_)
    · exact K g' _ (by rw [show (g 1 i).toNat = k by omega]; exact hI)
    · refine aw_aload_n dX8_digest_233 rfl ?_
      refine aw_aload_n dX8_digest_234 rfl ?_
      refine aw_getR (kx := 1) fl_X8_13 dX8_digest_235 rfl rfl rfl ?_
      refine aw_bipush (by decide) dX8_digest_238 ?_
      refine aw_iload_n dX8_digest_240 rfl ?_
      refine aw_imul dX8_digest_241 ?_
      refine aw_iload_n dX8_digest_242 rfl ?_
      refine aw_iadd dX8_digest_243 ?_
      refine aw_iaload dX8_digest_244 rfl (by decide) (by omega) ?_
      refine aw_i2l (by omega) dX8_digest_245 ?_
      refine aw_cV1VF (c_X8_mix) lk_X8_377 dX8_digest_246 (by decide) rfl rfl (fun _ => Nat.le_of_ble_eq_true rfl) ?_
      refine aw_iinc2 dX8_digest_249 (by decide) rfl ?_
      refine aw_goto (tgt := 223) dX8_digest_252 rfl ?_
      exact ih (k + 1) _ (by omega) (by omega) (by show DgI g _ (31 * _ + g 2 (40 * (i : Int) + k)); rw [← q2]; exact hI.mix)
theorem lp_X8_dg7 {g : am_H} {Q : Option am_V → am_H → Prop} (hz : MVz g) (hy : MVy g) (hq : MVq g) {s0 : Int} (K : ∀ (g' : am_H) (x1 x2 : Option am_V), DgI g g' (dg7F g s0 6) → AW GM mX8_digest 5 Q 261 [some (am_R 0), x1, x2] [] g') : ∀ (m i : Nat) (g' : am_H) (x2 : Option am_V), (i : Int) ≤ 6 → 6 - (i : Int) < m → DgI g g' (dg7F g s0 i) → AW GM mX8_digest 5 Q 204 [some (am_R 0), some (am_I i), x2] [] g' := by
  intro m
  induction m with
  | zero => intro i g' x2 h1 h2; omega
  | succ m ih =>
    intro i g' x2 h1 h2 hI
    have hv := hz.1.1 i (by omega)
    have q1 : g' 1 i = g 1 i := by rw [hI.1 1 (by decide) (by decide) (by decide)]
    have K2 : ∀ (g3 : am_H) (y2 : Option am_V), (i : Int) < 6 → DgI g g3 (dg7F g s0 (i + 1)) → AW GM mX8_digest 5 Q 255 [some (am_R 0), some (am_I i), y2] [] g3 := by
      intro g3 y2 hlt hI3
      refine aw_iinc1 dX8_digest_255 (by decide) rfl ?_
      refine aw_goto (tgt := 204) dX8_digest_258 rfl ?_
      exact ih (i + 1) g3 _ (by omega) (by omega) hI3
    refine aw_iload_n dX8_digest_204 rfl ?_
    refine aw_bipush (by decide) dX8_digest_205 ?_
    refine aw_icmp_ge (tgt := 261) dX8_digest_207 rfl (by omega) (by omega) (fun hc207 => ?_) (fun hc207 => ?_)
    · exact K g' _ _ (by rw [show 6 = i by omega]; exact hI)
    · have hv2 := hv (by omega)
      refine aw_aload_n dX8_digest_210 rfl ?_
      refine aw_aload_n dX8_digest_211 rfl ?_
      refine aw_getR (kx := 0) fl_X8_7 dX8_digest_212 rfl rfl rfl ?_
      refine aw_iload_n dX8_digest_215 rfl ?_
      refine aw_iaload dX8_digest_216 rfl (by decide) (by omega) ?_
      refine aw_i2l (by omega) dX8_digest_217 ?_
      refine aw_cV1VF (c_X8_mix) lk_X8_377 dX8_digest_218 (by decide) rfl rfl (fun _ => Nat.le_of_ble_eq_true rfl) ?_
      refine aw_iconst dX8_digest_221 ?_
      refine aw_istore_2 dX8_digest_222 (by decide) rfl ?_
      exact lp_X8_dg7b hz hy hq (s0 := 31 * dg7F g s0 i + g 1 i) (by omega) (fun g3 y2 h3 => K2 g3 y2 (by omega) h3) 100 0 _ (by omega) (by omega) (by show DgI g _ (31 * _ + _); rw [← q1]; exact hI.mix)
def dg8F (g : am_H) (s0 : Int) : Nat → Int
  | 0 => s0
  | i + 1 => mixF (fun k => g 4 (80 * (i : Int) + k)) (31 * dg8F g s0 i + g 3 i) (g 3 i).toNat
theorem lp_X8_dg8b {g : am_H} {Q : Option am_V → am_H → Prop} (hz : MVz g) (hy : MVy g) (hq : MVq g) {s0 : Int} {i : Nat} (hi : (i : Int) < 4) (K : ∀ (g' : am_H) (x2 : Option am_V), DgI g g' (mixF (fun k => g 4 (80 * (i : Int) + k)) s0 (g 3 i).toNat) → AW GM mX8_digest 5 Q 313 [some (am_R 0), some (am_I i), x2] [] g') : ∀ (m k : Nat) (g' : am_H), (k : Int) ≤ (g 3 i).toNat → (g 3 i).toNat - (k : Int) < m → DgI g g' (mixF (fun k => g 4 (80 * (i : Int) + k)) s0 k) → AW GM mX8_digest 5 Q 281 [some (am_R 0), some (am_I i), some (am_I k)] [] g' := by
  have hv := hz.2.1.1 i (by omega) (by omega)
  intro m
  induction m with
  | zero => intro k g' h1 h2; omega
  | succ m ih =>
    intro k g' h1 h2 hI
    have q1 : g' 3 i = g 3 i := by rw [hI.1 3 (by decide) (by decide) (by decide)]
    have q2 : g' 4 (80 * i + k) = g 4 (80 * i + k) := by rw [hI.1 4 (by decide) (by decide) (by decide)]
    have hr := hz.2.1.2 (80 * i + k)
    refine aw_iload_n dX8_digest_281 rfl ?_
    refine aw_aload_n dX8_digest_282 rfl ?_
    refine aw_getR (kx := 2) fl_X8_16 dX8_digest_283 rfl rfl rfl ?_
    refine aw_iload_n dX8_digest_286 rfl ?_
    refine aw_iaload dX8_digest_287 rfl (by decide) (by omega) ?_
    refine aw_icmp_ge (tgt := 313) dX8_digest_288 rfl (by omega) (by omega) (fun hc288 => ?_) (fun hc288 => ?_)
    · exact K g' _ (by rw [show (g 3 i).toNat = k by omega]; exact hI)
    · refine aw_aload_n dX8_digest_291 rfl ?_
      refine aw_aload_n dX8_digest_292 rfl ?_
      refine aw_getR (kx := 3) fl_X8_19 dX8_digest_293 rfl rfl rfl ?_
      refine aw_bipush (by decide) dX8_digest_296 ?_
      refine aw_iload_n dX8_digest_298 rfl ?_
      refine aw_imul dX8_digest_299 ?_
      refine aw_iload_n dX8_digest_300 rfl ?_
      refine aw_iadd dX8_digest_301 ?_
      refine aw_iaload dX8_digest_302 rfl (by decide) (by omega) ?_
      refine aw_i2l (by omega) dX8_digest_303 ?_
      refine aw_cV1VF (c_X8_mix) lk_X8_377 dX8_digest_304 (by decide) rfl rfl (fun _ => Nat.le_of_ble_eq_true rfl) ?_
      refine aw_iinc2 dX8_digest_307 (by decide) rfl ?_
      refine aw_goto (tgt := 281) dX8_digest_310 rfl ?_
      exact ih (k + 1) _ (by omega) (by omega) (by show DgI g _ (31 * _ + g 4 (80 * (i : Int) + k)); rw [← q2]; exact hI.mix)
theorem lp_X8_dg8 {g : am_H} {Q : Option am_V → am_H → Prop} (hz : MVz g) (hy : MVy g) (hq : MVq g) {s0 : Int} (K : ∀ (g' : am_H) (x1 x2 : Option am_V), DgI g g' (dg8F g s0 4) → AW GM mX8_digest 5 Q 319 [some (am_R 0), x1, x2] [] g') : ∀ (m i : Nat) (g' : am_H) (x2 : Option am_V), (i : Int) ≤ 4 → 4 - (i : Int) < m → DgI g g' (dg8F g s0 i) → AW GM mX8_digest 5 Q 263 [some (am_R 0), some (am_I i), x2] [] g' := by
  intro m
  induction m with
  | zero => intro i g' x2 h1 h2; omega
  | succ m ih =>
    intro i g' x2 h1 h2 hI
    have hv := hz.2.1.1 i (by omega)
    have q1 : g' 3 i = g 3 i := by rw [hI.1 3 (by decide) (by decide) (by decide)]
    have K2 : ∀ (g3 : am_H) (y2 : Option am_V), (i : Int) < 4 → DgI g g3 (dg8F g s0 (i + 1)) → AW GM mX8_digest 5 Q 313 [some (am_R 0), some (am_I i), y2] [] g3 := by
      intro g3 y2 hlt hI3
      refine aw_iinc1 dX8_digest_313 (by decide) rfl ?_
      refine aw_goto (tgt := 263) dX8_digest_316 rfl ?_
      exact ih (i + 1) g3 _ (by omega) (by omega) hI3
    refine aw_iload_n dX8_digest_263 rfl ?_
    refine aw_iconst dX8_digest_264 ?_
    refine aw_icmp_ge (tgt := 319) dX8_digest_265 rfl (by omega) (by omega) (fun hc265 => ?_) (fun hc265 => ?_)
    · exact K g' _ _ (by rw [show 4 = i by omega]; exact hI)
    · have hv2 := hv (by omega)
      refine aw_aload_n dX8_digest_268 rfl ?_
      refine aw_aload_n dX8_digest_269 rfl ?_
      refine aw_getR (kx := 2) fl_X8_16 dX8_digest_270 rfl rfl rfl ?_
      refine aw_iload_n dX8_digest_273 rfl ?_
      refine aw_iaload dX8_digest_274 rfl (by decide) (by omega) ?_
      refine aw_i2l (by omega) dX8_digest_275 ?_
      refine aw_cV1VF (c_X8_mix) lk_X8_377 dX8_digest_276 (by decide) rfl rfl (fun _ => Nat.le_of_ble_eq_true rfl) ?_
      refine aw_iconst dX8_digest_279 ?_
      refine aw_istore_2 dX8_digest_280 (by decide) rfl ?_
      exact lp_X8_dg8b hz hy hq (s0 := 31 * dg8F g s0 i + g 3 i) (by omega) (fun g3 y2 h3 => K2 g3 y2 (by omega) h3) 100 0 _ (by omega) (by omega) (by show DgI g _ (31 * _ + _); rw [← q1]; exact hI.mix)
noncomputable def dgV (g : am_H) : Int := dg8F g (dg7F g (mixF (fun k => if g 24 k = 0 then -1 else g 25 (18 * k + 16)) (mixF (g 14) (mixF (fun k => deedV g (k / 5) (k % 5)) (mixF (fun k => wordV g (k / 3) (k % 3)) (mixF (fun k => nodeV g (k / 4) (k % 4)) (mixF (cntV g) 17 9) (4 * g 0 6).toNat) (3 * g 0 10).toNat) (5 * g 0 15).toNat) (g 0 18).toNat) 3) 6) 4
abbrev QMJ (S : Int × am_H) : Option am_V → am_H → Prop := am_QJ (fun v g' => v = S.1 ∧ MEq g' S.2)
noncomputable def S_digest (g : am_H) : Int × am_H := (dgV g, g)
theorem c_X8_digest {g : am_H} (hz : MVz g) (hy : MVy g) (hq : MVq g) : AMet GM mX8_digest 5 [am_R 0] g (QMJ (S_digest g)) := by
  have hs := hz.2.2.2
  have hnn := hs.1
  have hw := hs.2.1
  have hnd := hs.2.2.1
  have hmy := hy.1
  refine am_start [some (am_R 0), none, none] rfl rfl (by decide) (Nat.le_of_ble_eq_true rfl) ?_
  have k319 : ∀ (g' : am_H) (x1 x2 : Option am_V), DgI g g' (dg8F g (dg7F g (mixF (fun k => if g 24 k = 0 then -1 else g 25 (18 * k + 16)) (mixF (g 14) (mixF (fun k => deedV g (k / 5) (k % 5)) (mixF (fun k => wordV g (k / 3) (k % 3)) (mixF (fun k => nodeV g (k / 4) (k % 4)) (mixF (cntV g) 17 9) (4 * g 0 6).toNat) (3 * g 0 10).toNat) (5 * g 0 15).toNat) (g 0 18).toNat) 3) 6) 4) → AW GM mX8_digest 5 (QMJ (S_digest g)) 319 [some (am_R 0), x1, x2] [] g' := by
    intro g' x1 x2 hI
    refine aw_aload_n dX8_digest_319 rfl ?_
    refine aw_getJ (kx := 50) fl_X8_369 dX8_digest_320 rfl rfl rfl ?_
    refine aw_lretQ dX8_digest_323 rfl ?_
    exact ⟨hI.2.2, hI.me⟩
  have k261 : ∀ (g' : am_H) (x1 x2 : Option am_V), DgI g g' (dg7F g (mixF (fun k => if g 24 k = 0 then -1 else g 25 (18 * k + 16)) (mixF (g 14) (mixF (fun k => deedV g (k / 5) (k % 5)) (mixF (fun k => wordV g (k / 3) (k % 3)) (mixF (fun k => nodeV g (k / 4) (k % 4)) (mixF (cntV g) 17 9) (4 * g 0 6).toNat) (3 * g 0 10).toNat) (5 * g 0 15).toNat) (g 0 18).toNat) 3) 6) → AW GM mX8_digest 5 (QMJ (S_digest g)) 261 [some (am_R 0), x1, x2] [] g' := by
    intro g' x1 x2 hI
    refine aw_iconst dX8_digest_261 ?_
    refine aw_istore_1 dX8_digest_262 (by decide) rfl ?_
    exact lp_X8_dg8 hz hy hq (fun g3 y1 y2 h => k319 g3 y1 y2 h) 5 0 g' _ (by omega) (by omega) hI
  have k202 : ∀ (g' : am_H) (x1 x2 : Option am_V), DgI g g' (mixF (fun k => if g 24 k = 0 then -1 else g 25 (18 * k + 16)) (mixF (g 14) (mixF (fun k => deedV g (k / 5) (k % 5)) (mixF (fun k => wordV g (k / 3) (k % 3)) (mixF (fun k => nodeV g (k / 4) (k % 4)) (mixF (cntV g) 17 9) (4 * g 0 6).toNat) (3 * g 0 10).toNat) (5 * g 0 15).toNat) (g 0 18).toNat) 3) → AW GM mX8_digest 5 (QMJ (S_digest g)) 202 [some (am_R 0), x1, x2] [] g' := by
    intro g' x1 x2 hI
    refine aw_iconst dX8_digest_202 ?_
    refine aw_istore_1 dX8_digest_203 (by decide) rfl ?_
    exact lp_X8_dg7 hz hy hq (fun g3 y1 y2 h => k261 g3 y1 y2 h) 7 0 g' _ (by omega) (by omega) hI
  have k157 : ∀ (g' : am_H) (x1 x2 : Option am_V), DgI g g' (mixF (g 14) (mixF (fun k => deedV g (k / 5) (k % 5)) (mixF (fun k => wordV g (k / 3) (k % 3)) (mixF (fun k => nodeV g (k / 4) (k % 4)) (mixF (cntV g) 17 9) (4 * g 0 6).toNat) (3 * g 0 10).toNat) (5 * g 0 15).toNat) (g 0 18).toNat) → AW GM mX8_digest 5 (QMJ (S_digest g)) 157 [some (am_R 0), x1, x2] [] g' := by
    intro g' x1 x2 hI
    refine aw_iconst dX8_digest_157 ?_
    refine aw_istore_1 dX8_digest_158 (by decide) rfl ?_
    exact lp_X8_dg6 hz hy hq (fun g3 y1 h => k202 g3 y1 _ h) 4 0 g' (by omega) (by omega) hI
  have k130 : ∀ (g' : am_H) (x1 x2 : Option am_V), DgI g g' (mixF (fun k => deedV g (k / 5) (k % 5)) (mixF (fun k => wordV g (k / 3) (k % 3)) (mixF (fun k => nodeV g (k / 4) (k % 4)) (mixF (cntV g) 17 9) (4 * g 0 6).toNat) (3 * g 0 10).toNat) (5 * g 0 15).toNat) → AW GM mX8_digest 5 (QMJ (S_digest g)) 130 [some (am_R 0), x1, x2] [] g' := by
    intro g' x1 x2 hI
    refine aw_iconst dX8_digest_130 ?_
    refine aw_istore_1 dX8_digest_131 (by decide) rfl ?_
    exact lp_X8_dg5 hz hy hq (fun g3 y1 h => k157 g3 y1 _ h) 9 0 g' (by omega) (by omega) hI
  have k97 : ∀ (g' : am_H) (x1 x2 : Option am_V), DgI g g' (mixF (fun k => wordV g (k / 3) (k % 3)) (mixF (fun k => nodeV g (k / 4) (k % 4)) (mixF (cntV g) 17 9) (4 * g 0 6).toNat) (3 * g 0 10).toNat) → AW GM mX8_digest 5 (QMJ (S_digest g)) 97 [some (am_R 0), x1, x2] [] g' := by
    intro g' x1 x2 hI
    refine aw_iconst dX8_digest_97 ?_
    refine aw_istore_1 dX8_digest_98 (by decide) rfl ?_
    exact lp_X8_dg4 hz hy hq (fun g3 y1 h => k130 g3 y1 _ h) 21 0 g' (by omega) (by omega) hI
  have k64 : ∀ (g' : am_H) (x1 x2 : Option am_V), DgI g g' (mixF (fun k => nodeV g (k / 4) (k % 4)) (mixF (cntV g) 17 9) (4 * g 0 6).toNat) → AW GM mX8_digest 5 (QMJ (S_digest g)) 64 [some (am_R 0), x1, x2] [] g' := by
    intro g' x1 x2 hI
    refine aw_iconst dX8_digest_64 ?_
    refine aw_istore_1 dX8_digest_65 (by decide) rfl ?_
    exact lp_X8_dg3 hz hy hq (fun g3 y1 h => k97 g3 y1 _ h) 43 0 g' (by omega) (by omega) hI
  have k31 : ∀ (g' : am_H) (x1 x2 : Option am_V), DgI g g' (mixF (cntV g) 17 9) → AW GM mX8_digest 5 (QMJ (S_digest g)) 31 [some (am_R 0), x1, x2] [] g' := by
    intro g' x1 x2 hI
    refine aw_iconst dX8_digest_31 ?_
    refine aw_istore_1 dX8_digest_32 (by decide) rfl ?_
    exact lp_X8_dg2 hz hy hq (fun g3 y1 h => k64 g3 y1 _ h) 37 0 g' (by omega) (by omega) hI
  refine aw_aload_n dX8_digest_0 rfl ?_
  refine aw_ldc2 (n := 17) kj_X8_372 rfl dX8_digest_1 ?_
  refine aw_putJ (kx := 50) fp_X8_369 dX8_digest_4 rfl rfl rfl ?_
  refine aw_iconst dX8_digest_7 ?_
  refine aw_istore_1 dX8_digest_8 (by decide) rfl ?_
  exact lp_X8_dg1 hz hy hq (s0 := 17) (fun g3 y1 h => k31 g3 y1 _ h) 10 0 _ (by omega) (by omega) ⟨fun c a _ _ => am_set_c a, fun k hk => am_set_i hk, am_set_s _ _ _ _⟩
