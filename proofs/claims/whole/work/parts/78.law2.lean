theorem law_step {G : vG} {p : Program} {e : Env} {s : State} {m : MethodId} {below : List Frame} {meth : Method} {c : Code} {b L : Nat} {xs : Nat → Int32} {C S : Nat} {j : Nat} {σ : vS} (A : LwA G p s m meth c b L xs) (hC : C ≤ 600000) (hS0 : S ≤ 7302250) (hj6 : 6 * j ≤ 3078) (h : Inv j σ) (ih : 6 * j + 6 ≤ L → ∀ σ2, Inv (j + 1) σ2 → Lw G p e s m below meth c b L xs C S (6 * (j + 1)) 18 [] σ2) : Lw G p e s m below meth c b L xs C S (6 * j) 18 [] σ := by
  intro H locs ls hP hS hl
  obtain ⟨hx, hb, hr, hml, hown, hts, hX, hbl, hlk, hK, hwr, hL⟩ := id A
  have hbA : ¬ G.wr b := by rw [hwr]; exact Nat.not_le.mpr hbl
  refine lv_iload_n hx hb dL_law_18 rfl (lv_at hl 3 rfl) ?_
  refine lv_aload_n hx hb dL_law_19 rfl (lv_at hl 0 rfl) ?_
  refine va_slen hx hb hX hbl hbA hS dL_law_20 ?_
  refine lv_bipush (v := 6) hx hb dL_law_21 (by decide) ?_
  refine lv_isub hx hb dL_law_23 ?_
  refine lv_icmp_gt (tgt := 1545) hx hb dL_law_24 (by decide) (fun c_0 => ?_) (fun c_0 => ?_)
  · refine lv_iconst (v := 1) hx hb dL_law_1545 (by decide) ?_
    refine va_forget (fun q hq => by have := hS.2.2 q hq; rw [hwr] at this; exact this) ?_
    refine W.widen (k := 600000) (n := 7302250) hC hS0 ?_
    exact lw_ret hx hb hr hlk dL_law_1546
  · have hi : 6 * j + 6 ≤ L := by
      apply Classical.byContradiction
      intro hn
      apply c_0
      rw [Int32.lt_iff_toInt_lt, Int32.toInt_sub, nI_toInt (by omega), show (Int32.ofNat L).toInt = (L : Int) from nI_toInt (n := L) (by omega), show (6 : Int32).toInt = 6 from rfl, Int.bmod_eq_of_le (by omega) (by omega)]
      omega
    refine lv_aload_n hx hb dL_law_27 rfl (lv_at hl 0 rfl) ?_
    refine lv_iload_n hx hb dL_law_28 rfl (lv_at hl 3 rfl) ?_
    refine va_sld hx hb hX hbl hbA hS (vp_in_nI (by omega) (by omega)) dL_law_29 ?_
    refine lv_bipush (v := 63) hx hb dL_law_30 (by decide) ?_
    refine lv_iand hx hb dL_law_32 ?_
    refine lv_topi (fun z ez => ?_)
    have next : ∀ σ2, Inv (j + 1) σ2 → Lw G p e s m below meth c b L xs C S (6 * j) 1539 [] σ2 := by
      intro σ2 h2 H locs ls hP hS hl
      refine lv_iinc (v := nI (6 * (j + 1))) (lv' := [(3, .int (nI (6 * (j + 1)))), (0, .ref b), (1, .ref (G.th 0)), (2, .ref (G.th 97))]) hx hb dL_law_1539 hl (k := 3) rfl (nI_add (6 * j) 6) (by decide) rfl (fun ls hl => ?_)
      refine lv_goto (tgt := 18) hx hb dL_law_1542 (by decide) ?_
      exact ih hi σ2 h2 H locs ls hP hS (lv_sub hl [1, 2, 3, 0] rfl)
    have hj : j < 512 := by omega
    rcases (show (z.toInt < 0 ∨ 42 < z.toInt) ∨ z.toInt = 0 ∨ z.toInt = 1 ∨ z.toInt = 2 ∨ z.toInt = 3 ∨ z.toInt = 4 ∨ z.toInt = 5 ∨ z.toInt = 6 ∨ z.toInt = 7 ∨ z.toInt = 8 ∨ z.toInt = 9 ∨ z.toInt = 10 ∨ z.toInt = 11 ∨ z.toInt = 12 ∨ z.toInt = 13 ∨ z.toInt = 14 ∨ z.toInt = 15 ∨ z.toInt = 16 ∨ z.toInt = 17 ∨ z.toInt = 18 ∨ z.toInt = 19 ∨ z.toInt = 20 ∨ z.toInt = 21 ∨ z.toInt = 22 ∨ z.toInt = 23 ∨ z.toInt = 24 ∨ z.toInt = 25 ∨ z.toInt = 26 ∨ z.toInt = 27 ∨ z.toInt = 28 ∨ z.toInt = 29 ∨ z.toInt = 30 ∨ z.toInt = 31 ∨ z.toInt = 32 ∨ z.toInt = 33 ∨ z.toInt = 34 ∨ z.toInt = 35 ∨ z.toInt = 36 ∨ z.toInt = 37 ∨ z.toInt = 38 ∨ z.toInt = 39 ∨ z.toInt = 40 ∨ z.toInt = 41 ∨ z.toInt = 42 by omega) with hz | hz | hz | hz | hz | hz | hz | hz | hz | hz | hz | hz | hz | hz | hz | hz | hz | hz | hz | hz | hz | hz | hz | hz | hz | hz | hz | hz | hz | hz | hz | hz | hz | hz | hz | hz | hz | hz | hz | hz | hz | hz | hz | hz
    · exact lv_tableOut (tgt := 1539) hx hb dL_law_33 hz (by decide) (next σ (h.fi FI.rf) H locs ls hP hS hl)
    · exact lv_tableIn (off := 187) (tgt := 220) hx hb dL_law_33 (by omega) (by omega) (by rw [hz]; rfl) (by decide) (law_cellar A hi hC hS0 hj h next H locs ls hP hS hl)
    · exact lv_tableIn (off := 230) (tgt := 263) hx hb dL_law_33 (by omega) (by omega) (by rw [hz]; rfl) (by decide) (law_told A hi hC hS0 hj h next H locs ls hP hS hl)
    · exact lv_tableIn (off := 263) (tgt := 296) hx hb dL_law_33 (by omega) (by omega) (by rw [hz]; rfl) (by decide) (law_takes A hi hC hS0 hj h next H locs ls hP hS hl)
    · exact lv_tableIn (off := 296) (tgt := 329) hx hb dL_law_33 (by omega) (by omega) (by rw [hz]; rfl) (by decide) (law_as A hi hC hS0 hj h next H locs ls hP hS hl)
    · exact lv_tableIn (off := 329) (tgt := 362) hx hb dL_law_33 (by omega) (by omega) (by rw [hz]; rfl) (by decide) (law_turns A hi hC hS0 hj h next H locs ls hP hS hl)
    · exact lv_tableIn (off := 362) (tgt := 395) hx hb dL_law_33 (by omega) (by omega) (by rw [hz]; rfl) (by decide) (law_set A hi hC hS0 hj h next H locs ls hP hS hl)
    · exact lv_tableIn (off := 405) (tgt := 438) hx hb dL_law_33 (by omega) (by omega) (by rw [hz]; rfl) (by decide) (law_pipe A hi hC hS0 hj h next H locs ls hP hS hl)
    · exact lv_tableIn (off := 448) (tgt := 481) hx hb dL_law_33 (by omega) (by omega) (by rw [hz]; rfl) (by decide) (law_pipeOf A hi hC hS0 hj h next H locs ls hP hS hl)
    · exact lv_tableIn (off := 481) (tgt := 514) hx hb dL_law_33 (by omega) (by omega) (by rw [hz]; rfl) (by decide) (law_cork A hi hC hS0 hj h next H locs ls hP hS hl)
    · exact lv_tableIn (off := 514) (tgt := 547) hx hb dL_law_33 (by omega) (by omega) (by rw [hz]; rfl) (by decide) (law_thirst A hi hC hS0 hj h next H locs ls hP hS hl)
    · exact lv_tableIn (off := 537) (tgt := 570) hx hb dL_law_33 (by omega) (by omega) (by rw [hz]; rfl) (by decide) (law_deal A hi hC hS0 hj h next H locs ls hP hS hl)
    · exact lv_tableIn (off := 560) (tgt := 593) hx hb dL_law_33 (by omega) (by omega) (by rw [hz]; rfl) (by decide) (law_seed A hi hC hS0 hj h next H locs ls hP hS hl)
    · exact lv_tableIn (off := 583) (tgt := 616) hx hb dL_law_33 (by omega) (by omega) (by rw [hz]; rfl) (by decide) (law_hours A hi hC hS0 hj h next H locs ls hP hS hl)
    · exact lv_tableIn (off := 606) (tgt := 639) hx hb dL_law_33 (by omega) (by omega) (by rw [hz]; rfl) (by decide) (law_town A hi hC hS0 hj h next H locs ls hP hS hl)
    · exact lv_tableIn (off := 629) (tgt := 662) hx hb dL_law_33 (by omega) (by omega) (by rw [hz]; rfl) (by decide) (law_behind A hi hC hS0 hj h next H locs ls hP hS hl)
    · exact lv_tableIn (off := 662) (tgt := 695) hx hb dL_law_33 (by omega) (by omega) (by rw [hz]; rfl) (by decide) (law_taste A hi hC hS0 hj h next H locs ls hP hS hl)
    · exact lv_tableIn (off := 705) (tgt := 738) hx hb dL_law_33 (by omega) (by omega) (by rw [hz]; rfl) (by decide) (law_rests A hi hC hS0 hj h next H locs ls hP hS hl)
    · exact lv_tableIn (off := 718) (tgt := 751) hx hb dL_law_33 (by omega) (by omega) (by rw [hz]; rfl) (by decide) (law_corks A hi hC hS0 hj h next H locs ls hP hS hl)
    · exact lv_tableIn (off := 761) (tgt := 794) hx hb dL_law_33 (by omega) (by omega) (by rw [hz]; rfl) (by decide) (law_dig A hi hC hS0 hj h next H locs ls hP hS hl)
    · exact lv_tableIn (off := 794) (tgt := 827) hx hb dL_law_33 (by omega) (by omega) (by rw [hz]; rfl) (by decide) (law_loser A hi hC hS0 hj h next H locs ls hP hS hl)
    · exact lv_tableIn (off := 827) (tgt := 860) hx hb dL_law_33 (by omega) (by omega) (by rw [hz]; rfl) (by decide) (law_tap A hi hC hS0 hj h next H locs ls hP hS hl)
    · exact lv_tableIn (off := 860) (tgt := 893) hx hb dL_law_33 (by omega) (by omega) (by rw [hz]; rfl) (by decide) (law_dug A hi hC hS0 hj h next H locs ls hP hS hl)
    · exact lv_tableIn (off := 903) (tgt := 936) hx hb dL_law_33 (by omega) (by omega) (by rw [hz]; rfl) (by decide) (law_fee A hi hC hS0 hj h next H locs ls hP hS hl)
    · exact lv_tableIn (off := 916) (tgt := 949) hx hb dL_law_33 (by omega) (by omega) (by rw [hz]; rfl) (by decide) (law_fine A hi hC hS0 hj h next H locs ls hP hS hl)
    · exact lv_tableIn (off := 939) (tgt := 972) hx hb dL_law_33 (by omega) (by omega) (by rw [hz]; rfl) (by decide) (law_feed A hi hC hS0 hj h next H locs ls hP hS hl)
    · exact lv_tableIn (off := 982) (tgt := 1015) hx hb dL_law_33 (by omega) (by omega) (by rw [hz]; rfl) (by decide) (law_trim A hi hC hS0 hj h next H locs ls hP hS hl)
    · exact lv_tableIn (off := 1005) (tgt := 1038) hx hb dL_law_33 (by omega) (by omega) (by rw [hz]; rfl) (by decide) (law_text A hi hC hS0 hj h next H locs ls hP hS hl)
    · exact lv_tableIn (off := 1018) (tgt := 1051) hx hb dL_law_33 (by omega) (by omega) (by rw [hz]; rfl) (by decide) (law_textTold A hi hC hS0 hj h next H locs ls hP hS hl)
    · exact lv_tableIn (off := 1051) (tgt := 1084) hx hb dL_law_33 (by omega) (by omega) (by rw [hz]; rfl) (by decide) (law_why A hi hC hS0 hj h next H locs ls hP hS hl)
    · exact lv_tableIn (off := 1074) (tgt := 1107) hx hb dL_law_33 (by omega) (by omega) (by rw [hz]; rfl) (by decide) (law_sheet A hi hC hS0 hj h next H locs ls hP hS hl)
    · exact lv_tableIn (off := 1117) (tgt := 1150) hx hb dL_law_33 (by omega) (by omega) (by rw [hz]; rfl) (by decide) (law_mark A hi hC hS0 hj h next H locs ls hP hS hl)
    · exact lv_tableIn (off := 1160) (tgt := 1193) hx hb dL_law_33 (by omega) (by omega) (by rw [hz]; rfl) (by decide) (law_pour A hi hC hS0 hj h next H locs ls hP hS hl)
    · exact lv_tableIn (off := 1183) (tgt := 1216) hx hb dL_law_33 (by omega) (by omega) (by rw [hz]; rfl) (by decide) (law_reads A hi hC hS0 hj h next H locs ls hP hS hl)
    · exact lv_tableIn (off := 1206) (tgt := 1239) hx hb dL_law_33 (by omega) (by omega) (by rw [hz]; rfl) (by decide) (law_copy A hi hC hS0 hj h next H locs ls hP hS hl)
    · exact lv_tableIn (off := 1269) (tgt := 1302) hx hb dL_law_33 (by omega) (by omega) (by rw [hz]; rfl) (by decide) (law_lay A hi hC hS0 hj h next H locs ls hP hS hl)
    · exact lv_tableIn (off := 1312) (tgt := 1345) hx hb dL_law_33 (by omega) (by omega) (by rw [hz]; rfl) (by decide) (law_ask A hi hC hS0 hj h next H locs ls hP hS hl)
    · exact lv_tableIn (off := 1345) (tgt := 1378) hx hb dL_law_33 (by omega) (by omega) (by rw [hz]; rfl) (by decide) (law_item A hi hC hS0 hj h next H locs ls hP hS hl)
    · exact lv_tableIn (off := 1378) (tgt := 1411) hx hb dL_law_33 (by omega) (by omega) (by rw [hz]; rfl) (by decide) (law_rest A hi hC hS0 hj h next H locs ls hP hS hl)
    · exact lv_tableIn (off := 1411) (tgt := 1444) hx hb dL_law_33 (by omega) (by omega) (by rw [hz]; rfl) (by decide) (law_tell A hi hC hS0 hj h next H locs ls hP hS hl)
    · exact lv_tableIn (off := 1434) (tgt := 1467) hx hb dL_law_33 (by omega) (by omega) (by rw [hz]; rfl) (by decide) (law_check A hi hC hS0 hj h next H locs ls hP hS hl)
    · exact lv_tableIn (off := 1457) (tgt := 1490) hx hb dL_law_33 (by omega) (by omega) (by rw [hz]; rfl) (by decide) (law_keep A hi hC hS0 hj h next H locs ls hP hS hl)
    · exact lv_tableIn (off := 1470) (tgt := 1503) hx hb dL_law_33 (by omega) (by omega) (by rw [hz]; rfl) (by decide) (law_back A hi hC hS0 hj h next H locs ls hP hS hl)
    · exact lv_tableIn (off := 1483) (tgt := 1516) hx hb dL_law_33 (by omega) (by omega) (by rw [hz]; rfl) (by decide) (law_count A hi hC hS0 hj h next H locs ls hP hS hl)
theorem law_loop {G : vG} {p : Program} {e : Env} {s : State} {m : MethodId} {below : List Frame} {meth : Method} {c : Code} {b L : Nat} {xs : Nat → Int32} {C S : Nat} (A : LwA G p s m meth c b L xs) (hC : C ≤ 600000) (hS0 : S ≤ 7302250) : ∀ (n j : Nat) (σ : vS), L + 6 ≤ 6 * j + 6 * n → 6 * j ≤ 3078 → Inv j σ → Lw G p e s m below meth c b L xs C S (6 * j) 18 [] σ := by
  intro n
  have hL : L ≤ 3072 := A.2.2.2.2.2.2.2.2.2.2.2
  induction n with
  | zero =>
    intro j σ h1 h2 h
    exact law_step A hC hS0 h2 h (fun h3 => absurd h3 (by omega))
  | succ n ihn =>
    intro j σ h1 h2 h
    exact law_step A hC hS0 h2 h (fun h3 σ2 hi => ihn (j + 1) σ2 (by omega) (by omega) hi)
