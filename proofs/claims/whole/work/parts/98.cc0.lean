theorem aw_topR {G : List am_K} {M : am_M} {d : Nat} {Q : Option am_V → am_H → Prop} {pc : Nat} {ls : List (Option am_V)} {st : List am_V} {h : am_H} {a b : Int} (e : a = b) (k : AW G M d Q pc ls (am_R b :: st) h) : AW G M d Q pc ls (am_R a :: st) h := e ▸ k
theorem c_X4_kindOf {c : Int} {h : am_H} (hc : -2147483648 ≤ c ∧ c < 2147483648) : AMet GC mX4_kindOf 1 [am_I c] h (am_FI (pKind c) h) := by
  refine am_start [some (am_I c)] rfl rfl (by decide) (Nat.le_of_ble_eq_true rfl) ?_
  refine aw_iload_n dX4_kindOf_0 rfl ?_
  by_cases hs1_a : c = 99
  · refine aw_top hs1_a ?_
    refine aw_lsw (a := 99) (off := 63) (tgt := 64) dX4_kindOf_1 (by decide) rfl rfl rfl ?_
    refine aw_iconst dX4_kindOf_64 ?_
    refine aw_iretF dX4_kindOf_65 rfl ?_
    refine ⟨?_, rfl⟩
    unfold pKind; repeat' split
    all_goals omega
  by_cases hs1_b : c = 101
  · refine aw_top hs1_b ?_
    refine aw_lsw (a := 101) (off := 61) (tgt := 62) dX4_kindOf_1 (by decide) rfl rfl rfl ?_
    refine aw_iconst dX4_kindOf_62 ?_
    refine aw_iretF dX4_kindOf_63 rfl ?_
    refine ⟨?_, rfl⟩
    unfold pKind; repeat' split
    all_goals omega
  by_cases hs1_c : c = 108
  · refine aw_top hs1_c ?_
    refine aw_lsw (a := 108) (off := 69) (tgt := 70) dX4_kindOf_1 (by decide) rfl rfl rfl ?_
    refine aw_iconst dX4_kindOf_70 ?_
    refine aw_iretF dX4_kindOf_71 rfl ?_
    refine ⟨?_, rfl⟩
    unfold pKind; repeat' split
    all_goals omega
  by_cases hs1_d : c = 110
  · refine aw_top hs1_d ?_
    refine aw_lsw (a := 110) (off := 59) (tgt := 60) dX4_kindOf_1 (by decide) rfl rfl rfl ?_
    refine aw_iconst dX4_kindOf_60 ?_
    refine aw_iretF dX4_kindOf_61 rfl ?_
    refine ⟨?_, rfl⟩
    unfold pKind; repeat' split
    all_goals omega
  by_cases hs1_e : c = 111
  · refine aw_top hs1_e ?_
    refine aw_lsw (a := 111) (off := 67) (tgt := 68) dX4_kindOf_1 (by decide) rfl rfl rfl ?_
    refine aw_iconst dX4_kindOf_68 ?_
    refine aw_iretF dX4_kindOf_69 rfl ?_
    refine ⟨?_, rfl⟩
    unfold pKind; repeat' split
    all_goals omega
  by_cases hs1_f : c = 119
  · refine aw_top hs1_f ?_
    refine aw_lsw (a := 119) (off := 65) (tgt := 66) dX4_kindOf_1 (by decide) rfl rfl rfl ?_
    refine aw_iconst dX4_kindOf_66 ?_
    refine aw_iretF dX4_kindOf_67 rfl ?_
    refine ⟨?_, rfl⟩
    unfold pKind; repeat' split
    all_goals omega
  refine aw_lsw (off := 71) (tgt := 72) dX4_kindOf_1 (by omega) rfl (by simp [Op.lookupswitch.offset, Ne.symm hs1_a, hs1_a, Ne.symm hs1_b, hs1_b, Ne.symm hs1_c, hs1_c, Ne.symm hs1_d, hs1_d, Ne.symm hs1_e, hs1_e, Ne.symm hs1_f, hs1_f]) rfl ?_
  refine aw_iconst dX4_kindOf_72 ?_
  refine aw_iretF dX4_kindOf_73 rfl ?_
  refine ⟨?_, rfl⟩
  unfold pKind; repeat' split
  all_goals omega
theorem wl_congr {f g : Int → Int} {x : Int} : ∀ {n : Nat}, (∀ k : Int, 0 ≤ k → k < n → f k = g k) → wl f x n = wl g x n
  | 0, _ => rfl
  | n + 1, h => by
    have ih := wl_congr (f := f) (g := g) (x := x) (n := n) (fun k a b => h k a (by omega))
    show wl f x n ++ (if f n = x then [(n : Int)] else []) = wl g x n ++ (if g n = x then [(n : Int)] else [])
    rw [ih, h n (by omega) (by omega)]
