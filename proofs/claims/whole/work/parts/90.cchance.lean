/-- a twelfth's parts divide without rest -/
theorem dv_12 {k : Nat} {c n : Int} (h : (12 : Int) ^ (k + 1) ∣ c) (hn : 1 ≤ n ∧ n ≤ 4) : (12 : Int) ^ k ∣ c.tdiv n ∧ n * c.tdiv n = c := by
  obtain ⟨q, hq⟩ := h
  have key : ∀ e : Int, n * e = 12 → (12 : Int) ^ k ∣ c.tdiv n ∧ n * c.tdiv n = c := by
    intro e he
    have e1 : c = n * (12 ^ k * (e * q)) := by
      rw [hq, Int.pow_succ, ← he]
      simp only [Int.mul_comm, Int.mul_left_comm, Int.mul_assoc]
    have e2 : c.tdiv n = 12 ^ k * (e * q) := by
      rw [e1]; exact Int.mul_tdiv_cancel_left _ (by omega)
    rw [e2]
    exact ⟨Int.dvd_mul_right _ _, e1.symm⟩
  have : n = 1 ∨ n = 2 ∨ n = 3 ∨ n = 4 := by omega
  rcases this with r | r | r | r <;> subst r
  · exact key 12 rfl
  · exact key 6 rfl
  · exact key 4 rfl
  · exact key 3 rfl
theorem pw_dvd {i j : Nat} (h : i ≤ j) : (12 : Int) ^ i ∣ (12 : Int) ^ j := by
  obtain ⟨k, rfl⟩ := Nat.exists_eq_add_of_le h
  rw [Int.pow_add]; exact Int.dvd_mul_right _ _
theorem fold_dvd {d : Int} {f : Int → Int} : ∀ (L : List Int) (s : Int), d ∣ s → (∀ k ∈ L, d ∣ f k) → d ∣ L.foldl (fun s k => s + f k) s
  | [], s, h, _ => h
  | k :: L, s, h, hk => by
    simp only [List.foldl_cons]
    exact fold_dvd L _ (Int.dvd_add h (hk k List.mem_cons_self)) (fun j hj => hk j (List.mem_cons_of_mem _ hj))
theorem chn_dvd {g : am_H} (hs : MVs g) (m : Int) : ∀ (n : Nat) (x : Int), 0 ≤ x → x < g 0 6 → g 0 6 - x ≤ n → (12 : Int) ^ x.toNat ∣ chn g m x := by
  intro n
  induction n with
  | zero => intro x h1 h2 h3; omega
  | succ n ih =>
    intro x h1 h2 h3
    have hnn := hs.1
    rw [chn_eq hs m h1 h2]
    unfold FC
    refine fold_dvd _ _ ?_ (fun k hk => ?_)
    · unfold chB
      split
      · have := pw_dvd (i := x.toNat) (j := 8) (by omega)
        rw [show (12 : Int) ^ 8 = 429981696 by decide] at this
        exact this
      · exact ⟨0, by omega⟩
    · obtain ⟨a1, a2, a3⟩ := wl_mem.mp hk
      have a4 := to_ok hs k a1 a2
      have a5 := ih (g 8 k) (by omega) a4.2 (by omega)
      have hl := wl_len (g 7) x (nwN g)
      have hp := List.length_pos_of_mem hk
      have hd4 : cntF (g 7) x (nwN g) ≤ 4 := hs.2.2.2.2.2.2.1 x
      exact (dv_12 (Int.dvd_trans (pw_dvd (show x.toNat + 1 ≤ (g 8 k).toNat by omega)) a5) (by omega)).1
/-- what the class holds of chances: the reference's, told by lots -/
def ChI (g : am_H) (m y v : Int) : Prop := v * 429981696 = chn g m y * ltP g y ∧ 0 ≤ v ∧ v ≤ ltP g y
theorem fold_sc {A c d : Int} {f e : Int → Int} : ∀ (L : List Int) (s t : Int), s * A = t * c * d → (∀ k ∈ L, f k * A = e k * c * d) → (L.foldl (fun s k => s + f k) s) * A = (L.foldl (fun s k => s + e k) t) * c * d
  | [], s, t, h, _ => h
  | k :: L, s, t, h, hk => by
    simp only [List.foldl_cons]
    refine fold_sc L _ _ ?_ (fun j hj => hk j (List.mem_cons_of_mem _ hj))
    rw [Int.add_mul, h, hk k List.mem_cons_self, Int.add_mul, Int.add_mul]
/-- one step: a next node's part of x's lots -/
theorem sc_step {A L1 Ly W n c v : Int} (hW : W * Ly = L1) (hv : v * A = c * Ly) (hc : n * c.tdiv n = c) : (v * W) * A = (c.tdiv n) * L1 * n := by
  have e1 : (v * W) * A = (v * A) * W := by rw [Int.mul_assoc, Int.mul_comm W A, ← Int.mul_assoc]
  rw [e1, hv]
  have e2 : c.tdiv n * L1 * n = (n * c.tdiv n) * L1 := by rw [Int.mul_comm n, Int.mul_assoc, Int.mul_comm L1 n, ← Int.mul_assoc]
  rw [e2, hc, ← hW, Int.mul_assoc, Int.mul_comm Ly W]
