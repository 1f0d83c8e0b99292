theorem hw_gon {n k d : Int} (h : VS n) (hd : 0 ≤ d ∧ d < 4) (h0 : hw n d = 0) : hw (gon k n) d = 0 := by
  have h1 := h.1
  have h2 := h.2.1
  have e : ((n.toNat : Nat) : Int) = n := by omega
  have := hg_a n.toNat (by omega)
  rw [e, vs_b.mp h] at this
  simp only [Bool.not_true, Bool.false_or, Bool.and_eq_true, Bool.or_eq_true, Bool.not_eq_true', decide_eq_true_eq, decide_eq_false_iff_not] at this
  obtain ⟨⟨⟨a0, a1⟩, a2⟩, a3⟩ := this
  have key : hw (gon 0 n) d = 0 ∧ hw (gon 5 n) d = 0 := by
    have hc : d = 0 ∨ d = 1 ∨ d = 2 ∨ d = 3 := by omega
    rcases hc with q | q | q | q <;> subst q
    · exact a0.resolve_left (fun z => z h0)
    · exact a1.resolve_left (fun z => z h0)
    · exact a2.resolve_left (fun z => z h0)
    · exact a3.resolve_left (fun z => z h0)
  by_cases c : bg n < 0 ∨ k = 3 ∨ k = 2
  · rw [gon, if_pos c]; exact h0
  · by_cases c5 : k = 5
    · subst c5; exact key.2
    · have e1 : gon k n = gon 0 n := by
        rw [gon, gon, if_neg c, if_neg c5, if_neg (c := bg n < 0 ∨ (0 : Int) = 3 ∨ (0 : Int) = 2) (by omega), if_neg (c := (0 : Int) = 5) (by omega)]
      rw [e1]; exact key.1
theorem hw_bgw {n s d e : Int} (h : VS n) (hc : cbg n e) (he : 0 ≤ e ∧ e < 4) (hd : 0 ≤ d ∧ d < 4) (hs : 1 ≤ s ∧ s ≤ 5) (hne : ¬ d = e) (h0 : hw n d = 0) : hw (bgw s n e) d = 0 := by
  have h1 := h.1
  have hn2 := h.2.1
  have en0 : ((n.toNat : Nat) : Int) = n := by omega
  have hlt : n < 256 := by
    have := vs_bg0 n.toNat (by omega) (by rw [en0]; exact vs_b.mp h) (by rw [en0]; exact hc.1)
    omega
  have en : ((n.toNat : Nat) : Int) = n := by omega
  have ed : ((d.toNat : Nat) : Int) = d := by omega
  have ee : ((e.toNat : Nat) : Int) = e := by omega
  have := hb_a n.toNat (by omega) d.toNat (by omega) e.toNat (by omega)
  rw [en, ed, ee, vs_b.mp h] at this
  simp only [Bool.not_true, Bool.false_or, Bool.and_eq_true, Bool.or_eq_true, Bool.not_eq_true', decide_eq_true_eq, decide_eq_false_iff_not] at this
  have key := (((this.resolve_left (fun z => by
    rcases z with z | z
    · rcases z with z | z
      · rcases z with z | z
        · exact z h0
        · exact z hc.2
      · exact z hc.1
    · omega))))
  obtain ⟨⟨⟨⟨b1, b2⟩, b3⟩, b4⟩, b5⟩ := key
  have hcs : s = 1 ∨ s = 2 ∨ s = 3 ∨ s = 4 ∨ s = 5 := by omega
  rcases hcs with q | q | q | q | q <;> subst q
  · exact b1
  · exact b2
  · exact b3
  · exact b4
  · exact b5
theorem mo_row {g : am_H} {r n : Int} (h : MOX g) : MOX (S_row g r n).2 := by
  unfold S_row; split
  · exact h
  · split
    · exact h.find
    · exact h.rows (fun c a b => rowF_c a b) (rowF_ok h.1 (by omega))
theorem mo_lp {g : am_H} {r i : Int} (h : MOX g) : MOX (S_lp g r i).2 := by
  unfold S_lp; repeat' split
  all_goals first | exact h | exact h.find
theorem mo_lay {g : am_H} {r i v : Int} (h : MOX g) (hv : -2147483648 ≤ v ∧ v < 2147483648) : MOX (S_lay g r i v).2 := by
  unfold S_lay; split
  · exact mo_lp h
  · refine MOX.ask (h.rows (fun c a b => am_set_c b) ⟨fun x a b => by rw [am_set_c (by decide)]; exact h.1.1 x a b, fun j => ?_⟩)
    by_cases e : j = 40 * r + i
    · rw [e, am_set_s]; exact hv
    · rw [am_set_i e]; exact h.1.2 j
theorem mo_at {g : am_H} {r i : Int} (h : MOX g) : MOX (S_at g r i).2 := by
  unfold S_at; split
  · exact mo_lp h
  · exact h.ask
theorem mo_tear {g : am_H} {r : Int} (h : MOX g) : MOX (S_tear g r).2 := by
  unfold S_tear; split
  · exact h
  · split
    · exact h.find
    · show MOX (am_set g 1 r (-1))
      refine h.rows (fun c a b => am_set_c a) ⟨fun x a b => ?_, fun j => by rw [am_set_c (by decide)]; exact h.1.2 j⟩
      by_cases e : x = r
      · rw [e, am_set_s]; omega
      · rw [am_set_i e]; exact h.1.1 x a b
theorem mo_copy {g : am_H} {r i to j n : Int} (h : MOX g) : MOX (S_copy g r i to j n).2 := by
  unfold S_copy; repeat' split
  all_goals first | exact h | exact h.find | skip
  refine h.rows (fun c a b => by show copyF g r i to j n c = g c; unfold copyF; rw [am_up_c b]) ⟨fun x a b => ?_, fun k => ?_⟩
  · show -1 ≤ copyF g r i to j n 1 x ∧ copyF g r i to j n 1 x ≤ 40
    unfold copyF; rw [am_up_c (by decide)]; exact h.1.1 x a b
  · show -2147483648 ≤ copyF g r i to j n 2 k ∧ copyF g r i to j n 2 k < 2147483648
    unfold copyF; rw [am_up_s]
    split
    · exact h.1.2 _
    · exact h.1.2 _
theorem mo_mean {g : am_H} {r : Int} (h : MOX g) : MOX (S_mean g r).2 := by
  unfold S_mean; repeat' split
  all_goals first | exact h | exact h.find | exact h.ask
theorem mo_text {g : am_H} {t n : Int} (h : MOX g) : MOX (S_text g t n).2 := by
  unfold S_text; split
  · exact h
  · split
    · exact h.find
    · refine h.texts (fun c a b => by show textF g t n c = g c; unfold textF; rw [am_up_c b, am_set_c a]) ⟨fun x a b => ?_, fun k => ?_⟩
      · show -1 ≤ textF g t n 3 x ∧ textF g t n 3 x ≤ 80
        unfold textF; rw [am_up_c (by decide)]
        by_cases e : x = t
        · rw [e, am_set_s]; omega
        · rw [am_set_i e]; exact h.2.1.1 x a b
      · show -128 ≤ textF g t n 4 k ∧ textF g t n 4 k < 128
        unfold textF; rw [am_up_s]
        split
        · omega
        · exact h.2.1.2 k
theorem mo_put {g : am_H} {t i v : Int} (h : MOX g) : MOX (S_put g t i v).2 := by
  unfold S_put; repeat' split
  all_goals first | exact h | exact h.find | skip
  refine h.texts (fun c a b => am_set_c b) ⟨fun x a b => ?_, fun k => ?_⟩
  · show -1 ≤ am_set g 4 (80 * t + i) (v.bmod 256) 3 x ∧ am_set g 4 (80 * t + i) (v.bmod 256) 3 x ≤ 80
    rw [am_set_c (by decide)]; exact h.2.1.1 x a b
  · show -128 ≤ am_set g 4 (80 * t + i) (v.bmod 256) 4 k ∧ am_set g 4 (80 * t + i) (v.bmod 256) 4 k < 128
    by_cases e : k = 80 * t + i
    · rw [e, am_set_s]; simp only [Int.bmod]; omega
    · rw [am_set_i e]; exact h.2.1.2 k
theorem mo_fault {g : am_H} {t : Int} (h : MOX g) : MOX (S_fault g t).2 := by
  unfold S_fault; repeat' split
  all_goals first | exact h | exact h.find
theorem mo_node {g : am_H} {x w : Int} (h : MOX g) : MOX (S_node g x w).2 := by
  unfold S_node; split
  · exact h.ask
  · exact h
theorem mo_word {g : am_H} {x w : Int} (h : MOX g) : MOX (S_word g x w).2 := by
  unfold S_word; split
  · exact h.ask
  · exact h
theorem mo_deed {g : am_H} {x w : Int} (h : MOX g) : MOX (S_deed g x w).2 := by
  unfold S_deed; split
  · exact h.ask
  · exact h
theorem mo_mark {g : am_H} {x k : Int} (h : MOX g) : MOX (S_mark g x k).2 := by
  unfold S_mark; split
  · exact h
  · split
    · exact h.find
    · exact h
theorem mo_prize {g : am_H} {d v : Int} (h : MOX g) : MOX (S_prize g d v).2 := by
  unfold S_prize; split
  · rename_i hc
    obtain ⟨a1, a2, a3, a4, a5, a6⟩ := h
    have e0 : ∀ c : Int, ¬ c = 13 → am_set g 13 d v c = g c := fun c a => am_set_c a
    have e00 : am_set g 13 d v 0 = g 0 := e0 0 (by decide)
    have e : SpE0 (am_set g 13 d v) g := ⟨e0 _ (by decide), e0 _ (by decide), by rw [e00], by rw [e00], by rw [e00]⟩
    show MOX (am_set g 13 d v)
    refine ⟨a1.eq (e0 _ (by decide)) (e0 _ (by decide)), a2.eq (e0 _ (by decide)) (e0 _ (by decide)), ?_, a4.eq e (by rw [e00]) (by rw [e00]) (e0 _ (by decide)) (e0 _ (by decide)), a5.eq (e0 _ (by decide)), a6.eq e (e0 _ (by decide)) (e0 _ (by decide))⟩
    show MVs (am_set g 13 d v)
    unfold MVs
    rw [e00, e0 5 (by decide), e0 6 (by decide), e0 7 (by decide), e0 8 (by decide), e0 9 (by decide), e0 10 (by decide), e0 11 (by decide), e0 12 (by decide)]
    obtain ⟨b1, b2, b3, b4, b5, b6, b7, b8, b9, b10⟩ := a3
    refine ⟨b1, b2, b3, b4, b5, b6, b7, fun x a b => ?_, b9, b10⟩
    have q := b8 x a b
    refine ⟨q.1, q.2.1, q.2.2.1, ?_⟩
    by_cases ex : x = d
    · rw [ex, am_set_s]; omega
    · rw [am_set_i ex]; exact q.2.2.2
  · exact h
theorem say_YP {g : am_H} {k : Int} (h : MOX g) (hk : 0 ≤ k ∧ k < g 0 10) (hf : g 7 k = nowF g) : YP (sayF g k) := by
  have hy := say_vy h.2.2.1 h.2.2.2.1.y hk hf
  obtain ⟨b1, b2, b3, b4, b5, b6, b7⟩ := h.2.2.2.1
  refine ⟨hy.1, hy.2.1, hy.2.2, ?_, fun i a b => ?_, fun d a b => ?_, fun i d a b u v => ?_⟩
  · rw [say_t]; exact vs_gon b4
  · rw [say_m] at b
    rw [say_a]
    split
    · exact b4
    · exact b5 i a (by omega)
  · rw [say_0 (by decide) (by decide)] at a
    have hdd := h.2.2.1.2.2.1
    rw [say_t]; exact hw_gon b4 ⟨by omega, b⟩ (b6 d a b)
  · rw [say_m] at b
    rw [say_0 (by decide) (by decide)] at u
    rw [say_a]
    split
    · exact b6 d u v
    · exact b7 i d a (by omega) u v
theorem mo_sayF {g : am_H} {k : Int} (h : MOX g) (hk : 0 ≤ k ∧ k < g 0 10) (hf : g 7 k = nowF g) : MOX (sayF g k) := h.years (fun c a b d => say_c a b d) (fun j a b => say_0 a b) (say_YP h hk hf)
theorem mo_say {g : am_H} {k : Int} (h : MOX g) : MOX (S_say g k).2 := by
  unfold S_say; split
  · exact h
  · split
    · rename_i h1 h2
      exact mo_sayF h (by omega) h2
    · exact h
theorem mo_begin {g : am_H} {d : Int} (h : MOX g) : MOX (S_begin g d).2 := by
  unfold S_begin; split
  · exact h
  · split
    · rename_i h1 h2
      have hdd := h.2.2.1.2.2.1
      have hsp := (h.2.2.1.2.2.2.2.2.2.2.1 d (by omega) (by omega)).1
      obtain ⟨b1, b2, b3, b4, b5, b6, b7⟩ := h.2.2.2.1
      show MOX (am_set g 0 19 (bgw (g 10 d) (g 0 19) d))
      refine h.years (fun c a b e => am_set_c a) (fun j a b => am_set_i b) ?_
      show YP (am_set g 0 19 (bgw (g 10 d) (g 0 19) d))
      unfold YP
      rw [am_set_c (x := 7) (by decide), am_set_c (x := 8) (by decide), am_set_c (x := 14) (by decide), am_set_c (x := 15) (by decide), am_set_s, am_set_i (j := 6) (by decide), am_set_i (j := 10) (by decide), am_set_i (j := 15) (by decide), am_set_i (j := 18) (by decide)]
      exact ⟨b1, b2, b3, vs_bgw b4 h2.1 ⟨by omega, by omega⟩ hsp, b5, fun x a b => hw_bgw b4 h2.1 ⟨by omega, by omega⟩ ⟨by omega, b⟩ hsp (by omega) (b6 x a b), b7⟩
    · exact h
theorem mo_undo {g : am_H} {n : Int} (h : MOX g) : MOX (S_undo g n).2 := by
  unfold S_undo; split
  · rename_i hc
    obtain ⟨b1, b2, b3, b4, b5, b6, b7⟩ := h.2.2.2.1
    show MOX (am_set (am_set g 0 19 (if 0 < g 0 18 - n then g 15 n else g 0 19)) 0 18 n)
    refine h.years (fun c a b e => by rw [am_set_c a, am_set_c a]) (fun j a b => by rw [am_set_i a, am_set_i b]) ?_
    show YP (am_set (am_set g 0 19 (if 0 < g 0 18 - n then g 15 n else g 0 19)) 0 18 n)
    generalize hst : (if 0 < g 0 18 - n then g 15 n else g 0 19) = st
    have hs : VS st ∧ ∀ d : Int, g 0 15 ≤ d → d < 4 → hw st d = 0 := by
      rw [← hst]
      by_cases q : 0 < g 0 18 - n
      · rw [if_pos q]; exact ⟨b5 n hc.1 (by omega), fun d a b => b7 n d hc.1 (by omega) a b⟩
      · rw [if_neg q]; exact ⟨b4, b6⟩
    have e0 : ∀ j : Int, ¬ j = 18 → ¬ j = 19 → am_set (am_set g 0 19 st) 0 18 n 0 j = g 0 j := fun j a b => by rw [am_set_i a, am_set_i b]
    have ec : ∀ c : Int, ¬ c = 0 → am_set (am_set g 0 19 st) 0 18 n c = g c := fun c a => by rw [am_set_c a, am_set_c a]
    have e18 : am_set (am_set g 0 19 st) 0 18 n 0 18 = n := am_set_s _ _ _ _
    have e19 : am_set (am_set g 0 19 st) 0 18 n 0 19 = st := by rw [am_set_i (by decide), am_set_s]
    unfold YP
    rw [e18, e19, e0 _ (by decide) (by decide), e0 _ (by decide) (by decide), e0 _ (by decide) (by decide), ec 7 (by decide), ec 8 (by decide), ec 14 (by decide), ec 15 (by decide)]
    exact ⟨by omega, fun z => by have := b2 z; omega, fun i a b => b3 i a (by omega), hs.1, fun i a b => b5 i a (by omega), hs.2, fun i d a b u v => b7 i d a (by omega) u v⟩
  · exact h
theorem mo_here {g : am_H} (h : MOX g) : MOX (S_here g).2 := by
  unfold S_here; split
  · exact h
  · exact h.ask
theorem mo_over {g : am_H} (h : MOX g) : MOX (S_over g).2 := by
  unfold S_over; repeat' split
  all_goals first | exact h | exact h.ask
theorem mo_told {g : am_H} {r : Int} (h : MOX g) : MOX (S_told g r).2 := by
  unfold S_told; split
  · exact h
  · have hy := h.2.2.2.1
    have hm := hy.1
    have hw := h.2.2.1.2.1
    refine h.rows (fun c a b => ?_) (up_ok h.1 hm (fun i a b => ?_))
    · show toldF g r c = g c
      unfold toldF; rw [am_up_c b]; exact rowF_c a b
    · have := (hy.2.2.1 i a b).1
      omega
