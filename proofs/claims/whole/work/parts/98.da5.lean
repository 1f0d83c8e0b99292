theorem lw_fin {k : lc_T} {ls : List (Option am_V)} {h g : am_H} (ok : lc_ok k) : LW k 1305 ls [] h g := by
  refine lr_iconst ok dL_law_1305 ?_
  obtain ⟨p, l, e, s, m, below, meth, c, b, L, xs, dC, dI, cT, ad, ad2⟩ := k
  obtain ⟨C, ok⟩ := ok
  obtain ⟨hx, hb, hr, hml, hown, hts, hX, hbl, hlocks, hgv⟩ := C
  intro H locs lsC hP1 hP2 hS hL
  refine va_forget (fun q hq => hS.2.2 q hq) ?_
  exact lw_ret hx hb hr hlocks dL_law_1306
theorem and63 (a : Int) : 0 ≤ am_and a 63 ∧ am_and a 63 ≤ 63 := by
  unfold am_and
  rw [pk_and (Int32.ofInt a) (m := Int32.ofInt 63) 6 (by decide), nI_toInt (by omega)]
  omega
theorem law_loop {k : lc_T} (ok : lc_ok k) : ∀ (n : Nat) (i : Int) (h g : am_H), 0 ≤ i → i ≤ 400 → (lc_L k : Int) - i < n → CRel h g → MOX g → LW k 18 [some (am_R 2), some (am_R 0), some (am_R 1), some (am_I i)] [] h g := by
  have hL : lc_L k ≤ 384 := ok.2.1
  intro n
  induction n with
  | zero =>
    intro i h g h0 h4 hn hC hV
    refine lr_iload ok dL_law_18 rfl ?_
    refine lr_aload ok dL_law_19 rfl ?_
    refine lr_slen ok dL_law_20 ?_
    refine lr_bipush ok (by decide) dL_law_21 ?_
    refine lr_isub ok dL_law_23 ?_
    refine lr_gt (tgt := 1305) ok dL_law_24 rfl (by omega) (by omega) (fun _ => lw_fin ok) (fun z => by omega)
  | succ n ih =>
    intro i h g h0 h4 hn hC hV
    refine lr_iload ok dL_law_18 rfl ?_
    refine lr_aload ok dL_law_19 rfl ?_
    refine lr_slen ok dL_law_20 ?_
    refine lr_bipush ok (by decide) dL_law_21 ?_
    refine lr_isub ok dL_law_23 ?_
    refine lr_gt (tgt := 1305) ok dL_law_24 rfl (by omega) (by omega) (fun _ => lw_fin ok) (fun z => ?_)
    have hi : 0 ≤ i ∧ i + 6 ≤ lc_L k := by omega
    have K : ∀ h' g' : am_H, CRel h' g' → MOX g' → LW k 1299 [some (am_R 2), some (am_R 0), some (am_R 1), some (am_I i)] [] h' g' := by
      intro h' g' hC' hV'
      refine lr_iinc ok dL_law_1299 rfl ?_
      refine lr_goto (tgt := 18) ok dL_law_1302 rfl ?_
      exact ih (i + 6) h' g' (by omega) (by omega) (by omega) hC' hV'
    refine lr_aload ok dL_law_27 rfl ?_
    refine lr_iload ok dL_law_28 rfl ?_
    refine lr_sld ok (by omega) dL_law_29 ?_
    refine lr_bipush ok (by decide) dL_law_30 ?_
    refine lr_iand ok dL_law_32 ?_
    have hr := and63 (lc_x k i)
    generalize am_and (lc_x k i) 63 = w at hr ⊢
    by_cases e0 : w = 0
    · rw [e0]
      refine lr_swIn (off := 191) (tgt := 224) ok dL_law_33 (by decide) (by decide) (by decide) rfl rfl ?_
      exact lc_row ok hi hC hV K
    by_cases e1 : w = 1
    · rw [e1]
      refine lr_swIn (off := 224) (tgt := 257) ok dL_law_33 (by decide) (by decide) (by decide) rfl rfl ?_
      exact lc_lay ok hi hC hV K
    by_cases e2 : w = 2
    · rw [e2]
      refine lr_swIn (off := 267) (tgt := 300) ok dL_law_33 (by decide) (by decide) (by decide) rfl rfl ?_
      exact lc_at ok hi hC hV K
    by_cases e3 : w = 3
    · rw [e3]
      refine lr_swIn (off := 300) (tgt := 333) ok dL_law_33 (by decide) (by decide) (by decide) rfl rfl ?_
      exact lc_tear ok hi hC hV K
    by_cases e4 : w = 4
    · rw [e4]
      refine lr_swIn (off := 323) (tgt := 356) ok dL_law_33 (by decide) (by decide) (by decide) rfl rfl ?_
      exact lc_copy ok hi hC hV K
    by_cases e5 : w = 5
    · rw [e5]
      refine lr_swIn (off := 386) (tgt := 419) ok dL_law_33 (by decide) (by decide) (by decide) rfl rfl ?_
      exact lc_mean ok hi hC hV K
    by_cases e6 : w = 6
    · rw [e6]
      refine lr_swIn (off := 409) (tgt := 442) ok dL_law_33 (by decide) (by decide) (by decide) rfl rfl ?_
      exact lc_text ok hi hC hV K
    by_cases e7 : w = 7
    · rw [e7]
      refine lr_swIn (off := 442) (tgt := 475) ok dL_law_33 (by decide) (by decide) (by decide) rfl rfl ?_
      exact lc_put ok hi hC hV K
    by_cases e8 : w = 8
    · rw [e8]
      refine lr_swIn (off := 485) (tgt := 518) ok dL_law_33 (by decide) (by decide) (by decide) rfl rfl ?_
      exact lc_fault ok hi hC hV K
    by_cases e9 : w = 9
    · rw [e9]
      refine lr_swIn (off := 508) (tgt := 541) ok dL_law_33 (by decide) (by decide) (by decide) rfl rfl ?_
      exact lc_speech ok hi hC hV K
    by_cases e10 : w = 10
    · rw [e10]
      refine lr_swIn (off := 531) (tgt := 564) ok dL_law_33 (by decide) (by decide) (by decide) rfl rfl ?_
      exact lc_node ok hi hC hV K
    by_cases e11 : w = 11
    · rw [e11]
      refine lr_swIn (off := 564) (tgt := 597) ok dL_law_33 (by decide) (by decide) (by decide) rfl rfl ?_
      exact lc_word ok hi hC hV K
    by_cases e12 : w = 12
    · rw [e12]
      refine lr_swIn (off := 597) (tgt := 630) ok dL_law_33 (by decide) (by decide) (by decide) rfl rfl ?_
      exact lc_deed ok hi hC hV K
    by_cases e13 : w = 13
    · rw [e13]
      refine lr_swIn (off := 630) (tgt := 663) ok dL_law_33 (by decide) (by decide) (by decide) rfl rfl ?_
      exact lc_mark ok hi hC hV K
    by_cases e14 : w = 14
    · rw [e14]
      refine lr_swIn (off := 663) (tgt := 696) ok dL_law_33 (by decide) (by decide) (by decide) rfl rfl ?_
      exact lc_prize ok hi hC hV K
    by_cases e15 : w = 15
    · rw [e15]
      refine lr_swIn (off := 696) (tgt := 729) ok dL_law_33 (by decide) (by decide) (by decide) rfl rfl ?_
      exact lc_say ok hi hC hV K
    by_cases e16 : w = 16
    · rw [e16]
      refine lr_swIn (off := 719) (tgt := 752) ok dL_law_33 (by decide) (by decide) (by decide) rfl rfl ?_
      exact lc_begin ok hi hC hV K
    by_cases e17 : w = 17
    · rw [e17]
      refine lr_swIn (off := 742) (tgt := 775) ok dL_law_33 (by decide) (by decide) (by decide) rfl rfl ?_
      exact lc_undo ok hi hC hV K
    by_cases e18 : w = 18
    · rw [e18]
      refine lr_swIn (off := 765) (tgt := 798) ok dL_law_33 (by decide) (by decide) (by decide) rfl rfl ?_
      exact lc_here ok hi hC hV K
    by_cases e19 : w = 19
    · rw [e19]
      refine lr_swIn (off := 778) (tgt := 811) ok dL_law_33 (by decide) (by decide) (by decide) rfl rfl ?_
      exact lc_over ok hi hC hV K
    by_cases e20 : w = 20
    · rw [e20]
      refine lr_swIn (off := 791) (tgt := 824) ok dL_law_33 (by decide) (by decide) (by decide) rfl rfl ?_
      exact lc_told ok hi hC hV K
    by_cases e21 : w = 21
    · rw [e21]
      refine lr_swIn (off := 814) (tgt := 847) ok dL_law_33 (by decide) (by decide) (by decide) rfl rfl ?_
      exact lc_keep ok hi hC hV K
    by_cases e22 : w = 22
    · rw [e22]
      refine lr_swIn (off := 837) (tgt := 870) ok dL_law_33 (by decide) (by decide) (by decide) rfl rfl ?_
      exact lc_on ok hi hC hV K
    by_cases e23 : w = 23
    · rw [e23]
      refine lr_swIn (off := 860) (tgt := 893) ok dL_law_33 (by decide) (by decide) (by decide) rfl rfl ?_
      exact lc_odds ok hi hC hV K
    by_cases e24 : w = 24
    · rw [e24]
      refine lr_swIn (off := 883) (tgt := 916) ok dL_law_33 (by decide) (by decide) (by decide) rfl rfl ?_
      exact lc_years ok hi hC hV K
    by_cases e25 : w = 25
    · rw [e25]
      refine lr_swIn (off := 896) (tgt := 929) ok dL_law_33 (by decide) (by decide) (by decide) rfl rfl ?_
      exact lc_just ok hi hC hV K
    by_cases e26 : w = 26
    · rw [e26]
      refine lr_swIn (off := 919) (tgt := 952) ok dL_law_33 (by decide) (by decide) (by decide) rfl rfl ?_
      exact lc_known ok hi hC hV K
    by_cases e27 : w = 27
    · rw [e27]
      refine lr_swIn (off := 932) (tgt := 965) ok dL_law_33 (by decide) (by decide) (by decide) rfl rfl ?_
      exact lc_tell ok hi hC hV K
    by_cases e28 : w = 28
    · rw [e28]
      refine lr_swIn (off := 945) (tgt := 978) ok dL_law_33 (by decide) (by decide) (by decide) rfl rfl ?_
      exact lc_worst ok hi hC hV K
    by_cases e29 : w = 29
    · rw [e29]
      refine lr_swIn (off := 958) (tgt := 991) ok dL_law_33 (by decide) (by decide) (by decide) rfl rfl ?_
      exact lc_hopes ok hi hC hV K
    by_cases e30 : w = 30
    · rw [e30]
      refine lr_swIn (off := 971) (tgt := 1004) ok dL_law_33 (by decide) (by decide) (by decide) rfl rfl ?_
      exact lc_brings ok hi hC hV K
    by_cases e31 : w = 31
    · rw [e31]
      refine lr_swIn (off := 994) (tgt := 1027) ok dL_law_33 (by decide) (by decide) (by decide) rfl rfl ?_
      exact lc_knows ok hi hC hV K
    by_cases e32 : w = 32
    · rw [e32]
      refine lr_swIn (off := 1017) (tgt := 1050) ok dL_law_33 (by decide) (by decide) (by decide) rfl rfl ?_
      exact lc_heard ok hi hC hV K
    by_cases e33 : w = 33
    · rw [e33]
      refine lr_swIn (off := 1040) (tgt := 1073) ok dL_law_33 (by decide) (by decide) (by decide) rfl rfl ?_
      exact lc_slips ok hi hC hV K
    by_cases e34 : w = 34
    · rw [e34]
      refine lr_swIn (off := 1063) (tgt := 1096) ok dL_law_33 (by decide) (by decide) (by decide) rfl rfl ?_
      exact lc_first ok hi hC hV K
    by_cases e35 : w = 35
    · rw [e35]
      refine lr_swIn (off := 1096) (tgt := 1129) ok dL_law_33 (by decide) (by decide) (by decide) rfl rfl ?_
      exact lc_least ok hi hC hV K
    by_cases e36 : w = 36
    · rw [e36]
      refine lr_swIn (off := 1119) (tgt := 1152) ok dL_law_33 (by decide) (by decide) (by decide) rfl rfl ?_
      exact lc_lots ok hi hC hV K
    by_cases e37 : w = 37
    · rw [e37]
      refine lr_swIn (off := 1152) (tgt := 1185) ok dL_law_33 (by decide) (by decide) (by decide) rfl rfl ?_
      exact lc_asked ok hi hC hV K
    by_cases e38 : w = 38
    · rw [e38]
      refine lr_swIn (off := 1165) (tgt := 1198) ok dL_law_33 (by decide) (by decide) (by decide) rfl rfl ?_
      exact lc_upper ok hi hC hV K
    by_cases e39 : w = 39
    · rw [e39]
      refine lr_swIn (off := 1179) (tgt := 1212) ok dL_law_33 (by decide) (by decide) (by decide) rfl rfl ?_
      exact lc_lower ok hi hC hV K
    by_cases e40 : w = 40
    · rw [e40]
      refine lr_swIn (off := 1193) (tgt := 1226) ok dL_law_33 (by decide) (by decide) (by decide) rfl rfl ?_
      exact lc_count ok hi hC hV K
    by_cases e41 : w = 41
    · rw [e41]
      refine lr_swIn (off := 1216) (tgt := 1249) ok dL_law_33 (by decide) (by decide) (by decide) rfl rfl ?_
      exact lc_finding ok hi hC hV K
    by_cases e42 : w = 42
    · rw [e42]
      refine lr_swIn (off := 1229) (tgt := 1262) ok dL_law_33 (by decide) (by decide) (by decide) rfl rfl ?_
      exact lc_findings ok hi hC hV K
    by_cases e43 : w = 43
    · rw [e43]
      refine lr_swIn (off := 1252) (tgt := 1285) ok dL_law_33 (by decide) (by decide) (by decide) rfl rfl ?_
      exact lc_digest ok hi hC hV K
    refine lr_swOut (tgt := 1299) ok dL_law_33 (by omega) (by omega) rfl ?_
    exact K h g hC hV
