theorem df_X1 : ∀ j, j < 11 → defaultValue (tyX1 j) = vp_V [.int 0, .int 0, .int 0, .null, .null, .null, .null, .null, .int 0, .int 0, .int 0] j := fun j hj => match j, hj with
  | 0, _ => rfl
  | 1, _ => rfl
  | 2, _ => rfl
  | 3, _ => rfl
  | 4, _ => rfl
  | 5, _ => rfl
  | 6, _ => rfl
  | 7, _ => rfl
  | 8, _ => rfl
  | 9, _ => rfl
  | 10, _ => rfl
  | j + 11, h => absurd h (by omega)
theorem df_X2 : ∀ j, j < 10 → defaultValue (tyX2 j) = vp_V [.null, .null, .null, .null, .null, .null, .null, .null, .null, .null] j := fun j hj => match j, hj with
  | 0, _ => rfl
  | 1, _ => rfl
  | 2, _ => rfl
  | 3, _ => rfl
  | 4, _ => rfl
  | 5, _ => rfl
  | 6, _ => rfl
  | 7, _ => rfl
  | 8, _ => rfl
  | 9, _ => rfl
  | j + 10, h => absurd h (by omega)
theorem df_X3 : ∀ j, j < 5 → defaultValue (tyX3 j) = vp_V [.null, .null, .null, .null, .int 0] j := fun j hj => match j, hj with
  | 0, _ => rfl
  | 1, _ => rfl
  | 2, _ => rfl
  | 3, _ => rfl
  | 4, _ => rfl
  | j + 5, h => absurd h (by omega)
theorem df_X4 : ∀ j, j < 4 → defaultValue (tyX4 j) = vp_V [.null, .int 0, .int 0, .null] j := fun j hj => match j, hj with
  | 0, _ => rfl
  | 1, _ => rfl
  | 2, _ => rfl
  | 3, _ => rfl
  | j + 4, h => absurd h (by omega)
theorem df_X5 : ∀ j, j < 14 → defaultValue (tyX5 j) = vp_V [.int 0, .int 0, .int 0, .null, .null, .null, .null, .null, .null, .null, .null, .null, .null, .null] j := fun j hj => match j, hj with
  | 0, _ => rfl
  | 1, _ => rfl
  | 2, _ => rfl
  | 3, _ => rfl
  | 4, _ => rfl
  | 5, _ => rfl
  | 6, _ => rfl
  | 7, _ => rfl
  | 8, _ => rfl
  | 9, _ => rfl
  | 10, _ => rfl
  | 11, _ => rfl
  | 12, _ => rfl
  | 13, _ => rfl
  | j + 14, h => absurd h (by omega)
theorem df_X6 : ∀ j, j < 4 → defaultValue (tyX6 j) = vp_V [.null, .null, .int 0, .int 0] j := fun j hj => match j, hj with
  | 0, _ => rfl
  | 1, _ => rfl
  | 2, _ => rfl
  | 3, _ => rfl
  | j + 4, h => absurd h (by omega)
theorem df_X7 : ∀ j, j < 17 → defaultValue (tyX7 j) = vp_V [.null, .null, .null, .null, .null, .null, .null, .null, .null, .null, .null, .null, .null, .int 0, .long 0, .long 0, .int 0] j := fun j hj => match j, hj with
  | 0, _ => rfl
  | 1, _ => rfl
  | 2, _ => rfl
  | 3, _ => rfl
  | 4, _ => rfl
  | 5, _ => rfl
  | 6, _ => rfl
  | 7, _ => rfl
  | 8, _ => rfl
  | 9, _ => rfl
  | 10, _ => rfl
  | 11, _ => rfl
  | 12, _ => rfl
  | 13, _ => rfl
  | 14, _ => rfl
  | 15, _ => rfl
  | 16, _ => rfl
  | j + 17, h => absurd h (by omega)
theorem df_X8 : ∀ j, j < 51 → defaultValue (tyX8 j) = vp_V [.null, .null, .null, .null, .null, .null, .int 0, .null, .null, .null, .int 0, .null, .null, .null, .null, .int 0, .null, .null, .int 0, .int 0, .int 0, .long 0, .long 0, .int 0, .null, .null, .int 0, .null, .null, .int 0, .null, .int 0, .null, .int 0, .null, .null, .null, .null, .null, .null, .null, .null, .null, .null, .null, .null, .null, .null, .int 0, .null, .long 0] j := fun j hj => match j, hj with
  | 0, _ => rfl
  | 1, _ => rfl
  | 2, _ => rfl
  | 3, _ => rfl
  | 4, _ => rfl
  | 5, _ => rfl
  | 6, _ => rfl
  | 7, _ => rfl
  | 8, _ => rfl
  | 9, _ => rfl
  | 10, _ => rfl
  | 11, _ => rfl
  | 12, _ => rfl
  | 13, _ => rfl
  | 14, _ => rfl
  | 15, _ => rfl
  | 16, _ => rfl
  | 17, _ => rfl
  | 18, _ => rfl
  | 19, _ => rfl
  | 20, _ => rfl
  | 21, _ => rfl
  | 22, _ => rfl
  | 23, _ => rfl
  | 24, _ => rfl
  | 25, _ => rfl
  | 26, _ => rfl
  | 27, _ => rfl
  | 28, _ => rfl
  | 29, _ => rfl
  | 30, _ => rfl
  | 31, _ => rfl
  | 32, _ => rfl
  | 33, _ => rfl
  | 34, _ => rfl
  | 35, _ => rfl
  | 36, _ => rfl
  | 37, _ => rfl
  | 38, _ => rfl
  | 39, _ => rfl
  | 40, _ => rfl
  | 41, _ => rfl
  | 42, _ => rfl
  | 43, _ => rfl
  | 44, _ => rfl
  | 45, _ => rfl
  | 46, _ => rfl
  | 47, _ => rfl
  | 48, _ => rfl
  | 49, _ => rfl
  | 50, _ => rfl
  | j + 51, h => absurd h (by omega)
theorem li_X7_28 : nc_LN mX5_init 0 := ⟨am_m1 29 rfl, am_m1 2 rfl, am_m1 30 rfl, rfl, by decide +kernel, by decide +kernel, by decide +kernel, rfl, rfl⟩
theorem li_X7_70 : nc_LN mX6_init 0 := ⟨am_m2 4 rfl, am_m1 7 rfl, am_m2 5 rfl, rfl, by decide +kernel, by decide +kernel, by decide +kernel, rfl, rfl⟩
theorem li_X7_38 : nc_LI RX7 38 mX4_init 1 := ⟨am_m1 112 rfl, am_m1 113 rfl, am_m1 3 rfl, am_m1 114 rfl, rfl, by decide +kernel, by decide +kernel, by decide +kernel, rfl, rfl⟩
theorem li_X7_47 : nc_LI RX7 47 mX2_init 1 := ⟨am_m1 131 rfl, am_m1 132 rfl, am_m1 4 rfl, am_m1 133 rfl, rfl, by decide +kernel, by decide +kernel, by decide +kernel, rfl, rfl⟩
theorem li_X7_54 : nc_LI RX7 54 mX3_init 2 := ⟨am_m1 177 rfl, am_m1 178 rfl, am_m1 5 rfl, am_m1 179 rfl, rfl, by decide +kernel, by decide +kernel, by decide +kernel, rfl, rfl⟩
theorem li_X7_63 : nc_LI RX7 63 mX1_init 1 := ⟨am_m1 199 rfl, am_m1 200 rfl, am_m1 6 rfl, am_m1 201 rfl, rfl, by decide +kernel, by decide +kernel, by decide +kernel, rfl, rfl⟩
theorem li_L_9 : nc_LI RL 9 mX7_init 0 := ⟨am_m1 16 rfl, am_m1 17 rfl, am_m1 1 rfl, am_m1 18 rfl, rfl, by decide +kernel, by decide +kernel, by decide +kernel, rfl, rfl⟩
theorem li_L_12 : nc_LI RL 12 mX8_init 0 := ⟨am_m4 218 rfl, am_m4 219 rfl, am_m1 9 rfl, am_m4 220 rfl, rfl, by decide +kernel, by decide +kernel, by decide +kernel, rfl, rfl⟩
def hI : am_H := fun c j => if c = 0 then (if j = 15 then 1 else 0) else if c = 8 then (if 0 ≤ j ∧ j < 6 then -1 else 0) else if c = 14 then (if 0 ≤ j ∧ j < 4 then -1 else 0) else if c = 39 then (if j = 0 then 40 else if j = 3 then 27 else 0) else if c = 60 then (if j = 4 then -1 else 0) else if c = 72 ∨ c = 73 ∨ c = 74 then (if j = 2 then -1 else 0) else 0
def wA (l : List Nat) : Int → Nat := fun i => l.getD i.toNat 0
theorem wA_e (n : Nat) (b : Int) (f : Nat → Nat) (g : Int → Nat) (_ : 0 ≤ b) (h : ∀ j, j < n → f j = g (b + (j : Int))) : (fun j => if j < n then some (f j) else none) = (fun j : Nat => if j < n then some (g (b + (j : Int))) else none) := by
  funext j
  by_cases hj : j < n
  · rw [if_pos hj, if_pos hj, h j hj]
  · rw [if_neg hj, if_neg hj]
theorem wA_k (g : Int → Nat) (x y z : Nat) (hx : x = g 72) (hy : y = g 73) (hz : z = g 74) : va_up (va_up (va_up (fun _ => none) 0 (some x)) 1 (some y)) 2 (some z) = (fun j : Nat => if j < 3 then some (g (72 + (j : Int))) else none) := by
  funext j
  by_cases hj : j < 3
  · have h9 : j = 0 ∨ j = 1 ∨ j = 2 := by omega
    rcases h9 with rfl | rfl | rfl
    · rw [hx]; rfl
    · rw [hy]; rfl
    · rw [hz]; rfl
  · rw [if_neg hj]
    unfold va_up
    rw [if_neg (by omega), if_neg (by omega), if_neg (by omega)]
theorem wA_m6 : nc_m1 6 = fun j : Nat => Int32.ofInt (hI 8 j) := by
  funext j
  show (if j < 6 then (-1 : Int32) else 0) = Int32.ofInt (if 0 ≤ (j : Int) ∧ (j : Int) < 6 then -1 else 0)
  by_cases hj : j < 6
  · rw [if_pos hj, if_pos (by omega)]; rfl
  · rw [if_neg hj, if_neg (by omega)]; rfl
theorem wA_m4 : nc_m1 4 = fun j : Nat => Int32.ofInt (hI 14 j) := by
  funext j
  show (if j < 4 then (-1 : Int32) else 0) = Int32.ofInt (if 0 ≤ (j : Int) ∧ (j : Int) < 4 then -1 else 0)
  by_cases hj : j < 4
  · rw [if_pos hj, if_pos (by omega)]; rfl
  · rw [if_neg hj, if_neg (by omega)]; rfl
theorem nc_conv {D : va_G} {cl : List vw_C} {w w' : va_W} {H : Heap} {is : List Nat} (hP : va_P D cl w H) (hs : is.map (fun i => w[i]?) = w'.map some) : va_P D cl w' H := by
  intro k q hk
  have h1 : (is.map (fun i => w[i]?))[k]? = some (some q) := by rw [hs, List.getElem?_map, hk]; rfl
  rw [List.getElem?_map] at h1
  cases hi : is[k]? with
  | none => rw [hi] at h1; cases h1
  | some i => rw [hi] at h1; exact hP i q (Option.some.inj h1)
