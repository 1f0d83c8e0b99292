theorem am_set_ups (h : am_H) (c i v : Int) (f : Int → Int) : am_set (am_up h c f) c i v = am_up h c (fun j => if j = i then v else f j) := by
  funext x
  by_cases e : x = c
  · subst e; rw [am_up_s]; unfold am_set; rw [if_pos rfl, am_up_s]
  · rw [am_set_c e, am_up_c e, am_up_c e]
theorem am_up_up (h : am_H) (c : Int) (f g : Int → Int) : am_up (am_up h c f) c g = am_up h c g := by
  funext x
  by_cases e : x = c
  · subst e; rw [am_up_s, am_up_s]
  · rw [am_up_c e, am_up_c e, am_up_c e]
theorem am_up_self (h : am_H) (c : Int) : am_up h c (h c) = h := by
  funext x
  by_cases e : x = c
  · subst e; rw [am_up_s]
  · rw [am_up_c e]
theorem am_up_comm (h : am_H) {c e : Int} (f g : Int → Int) (hce : ¬ c = e) : am_up (am_up h c f) e g = am_up (am_up h e g) c f := by
  funext x
  unfold am_up
  by_cases e1 : x = c <;> by_cases e2 : x = e <;> simp [e1, e2] <;> (intro q; omega)
section AMBASE
variable {G : List am_K} {M : am_M} {d : Nat} {Q : Option am_V → am_H → Prop} {pc : Nat} {ls : List (Option am_V)} {st : List am_V} {h : am_H}
theorem am_b0 {P : Prop} {inst : Decidable P} : (@ite Int P inst 1 0) = 0 ↔ ¬ P := by
  by_cases q : P
  · rw [if_pos q]; exact ⟨fun z => by omega, fun z => absurd q z⟩
  · rw [if_neg q]; exact ⟨fun _ => q, fun _ => rfl⟩
theorem am_brng {P : Prop} {inst : Decidable P} : (@ite Int P inst 1 0) = 0 ∨ (@ite Int P inst 1 0) = 1 := by
  by_cases q : P
  · rw [if_pos q]; exact Or.inr rfl
  · rw [if_neg q]; exact Or.inl rfl
theorem aw_ifb_eq {P : Prop} {inst : Decidable P} {off : Int} {tgt : Nat} (hd : decode M.2.2.1 pc = .ok (.ifCond .eq off, 3)) (ht : (pc : Int) + off = (tgt : Int)) (kt : ¬ P → AW G M d Q tgt ls st h) (kf : P → AW G M d Q (pc + 3) ls st h) : AW G M d Q pc ls (am_I (@ite Int P inst 1 0) :: st) h :=
  aw_if_eq hd ht (by rcases @am_brng P inst with q | q <;> rw [q] <;> omega) (fun q => kt (am_b0.mp q)) (fun q => kf (Classical.not_not.mp (fun z => q (am_b0.mpr z))))
theorem aw_ifb_ne {P : Prop} {inst : Decidable P} {off : Int} {tgt : Nat} (hd : decode M.2.2.1 pc = .ok (.ifCond .ne off, 3)) (ht : (pc : Int) + off = (tgt : Int)) (kt : P → AW G M d Q tgt ls st h) (kf : ¬ P → AW G M d Q (pc + 3) ls st h) : AW G M d Q pc ls (am_I (@ite Int P inst 1 0) :: st) h :=
  aw_if_ne hd ht (by rcases @am_brng P inst with q | q <;> rw [q] <;> omega) (fun q => kt (Classical.not_not.mp (fun z => q (am_b0.mpr z)))) (fun q => kf (am_b0.mp q))
theorem aw_zretB {P : Prop} {inst : Decidable P} {a : Int} {Y : am_H} (hd : decode M.2.2.1 pc = .ok (.ireturn, 1)) (hr : M.2.2.2.2 = some .boolean) (ha : a = 0 ∨ a = 1) (hq : a = 1 ↔ P) (hy : h = Y) : AW G M d (am_FI (@ite Int P inst 1 0) Y) pc ls [am_I a] h :=
  aw_zretF hd hr ha ⟨by
    rcases ha with q | q
    · rw [if_neg (fun z => by have := hq.mpr z; omega)]; exact q
    · rw [if_pos (hq.mp q)]; exact q, hy⟩
/-- a heap may be written in another way -/
theorem aw_heap {h2 : am_H} (e : h = h2) (k : AW G M d Q pc ls st h2) : AW G M d Q pc ls st h := e ▸ k
theorem aw_stk {st2 : List am_V} (e : st = st2) (k : AW G M d Q pc ls st2 h) : AW G M d Q pc ls st h := e ▸ k
theorem aw_pc {pc2 : Nat} (e : pc = pc2) (k : AW G M d Q pc2 ls st h) : AW G M d Q pc ls st h := e ▸ k
/-- the top int may be written in another way -/
theorem aw_top {a b : Int} (e : a = b) (k : AW G M d Q pc ls (am_I b :: st) h) : AW G M d Q pc ls (am_I a :: st) h := e ▸ k
theorem aw_topJ {a b : Int} (e : a = b) (k : AW G M d Q pc ls (am_J b :: st) h) : AW G M d Q pc ls (am_J a :: st) h := e ▸ k
end AMBASE
