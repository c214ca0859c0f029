/-! ===== feed ===== -/
def byN (x : Int32) (r : Nat) : Nat := x.toBitVec.toNat / 2 ^ (24 - 8 * r) % 256
theorem byN_lt {x : Int32} {r : Nat} : byN x r < 256 := Nat.mod_lt _ (by decide)
theorem m255 : (255 : Int32).toBitVec.toNat = 2 ^ 8 - 1 := by decide
theorem by_c {x s : Int32} {r : Nat} (hs : ((s.toUInt32 &&& Int32.toUInt32 31).toBitVec % 32).toNat = 24 - 8 * r) : (x.toUInt32 >>> (s.toUInt32 &&& Int32.toUInt32 31)).toInt32 &&& 255 = nI (byN x r) := by
  rw [pk_and _ 8 m255, pk_ushr x s _ hs]
  rfl
theorem i3_nat (y : Int32) : (y.toBitVec.toNat : Int) = y.toInt % 4294967296 := by
  have h : y.toInt = y.toBitVec.toInt := rfl
  rw [h, BitVec.toInt_eq_toNat_cond]
  have hl := y.toBitVec.isLt
  split <;> omega
theorem by_m {x s : Int32} {r : Nat} (hr : r < 4) (hs : (s.toBitVec.smod 32).toNat = 24 - 8 * r) : (x >>> s) &&& 255 = nI (byN x r) := by
  rw [pk_and _ 8 m255]
  congr 1
  have h1 := i3_nat (x >>> s)
  rw [pk_shr x s _ hs, Int.shiftRight_eq_div_pow] at h1
  have h2 := i3_nat x
  unfold byN
  rcases (show r = 0 ∨ r = 1 ∨ r = 2 ∨ r = 3 by omega) with rfl | rfl | rfl | rfl
  · have e : ((2 ^ (24 - 8 * 0) : Nat) : Int) = 16777216 := by decide
    rw [e] at h1
    have e2 : 2 ^ (24 - 8 * 0) = 16777216 := by decide
    rw [e2]
    omega
  · have e : ((2 ^ (24 - 8 * 1) : Nat) : Int) = 65536 := by decide
    rw [e] at h1
    have e2 : 2 ^ (24 - 8 * 1) = 65536 := by decide
    rw [e2]
    omega
  · have e : ((2 ^ (24 - 8 * 2) : Nat) : Int) = 256 := by decide
    rw [e] at h1
    have e2 : 2 ^ (24 - 8 * 2) = 256 := by decide
    rw [e2]
    omega
  · have e : ((2 ^ (24 - 8 * 3) : Nat) : Int) = 1 := by decide
    rw [e] at h1
    have e2 : 2 ^ (24 - 8 * 3) = 1 := by decide
    rw [e2]
    omega
def fdN (a b c : Int32) (k : Nat) : Nat := byN (if k < 4 then a else if k < 8 then b else c) (k % 4)
/-- the tape at q is longer by k bytes -/
def FD (q n k : Nat) (f : Nat → Nat) (σ σ' : vS) : Prop := (∀ j, j < n → σ' q j = σ q j) ∧ ∀ j, j < k → σ' q (n + j) = nI (f j)
def FE (σ σ' : vS) : Prop := (∀ q, q ≠ 4 → q ≠ 1 → σ' q = σ q) ∧ ∀ j, j ≠ 0 → σ' 1 j = σ 1 j
theorem tk4 {σ : vS} {n : Nat} {b0 b1 b2 b3 : Nat} {f : Nat → Nat} (h0 : f 0 = b0) (h1 : f 1 = b1) (h2 : f 2 = b2) (h3 : f 3 = b3) {l1 l2 l3 l4 : Int32} :
    FD 4 n 4 f σ (vup (vup (vup (vup (vup (vup (vup (vup σ 4 n (nI b0)) 1 0 l1) 4 (n + 1) (nI b1)) 1 0 l2) 4 (n + 1 + 1) (nI b2)) 1 0 l3) 4 (n + 1 + 1 + 1) (nI b3)) 1 0 l4) ∧
    FE σ (vup (vup (vup (vup (vup (vup (vup (vup σ 4 n (nI b0)) 1 0 l1) 4 (n + 1) (nI b1)) 1 0 l2) 4 (n + 1 + 1) (nI b2)) 1 0 l3) 4 (n + 1 + 1 + 1) (nI b3)) 1 0 l4) := by
  refine ⟨⟨fun j hj => ?_, fun j hj => ?_⟩, fun q a b => ?_, fun j hj => ?_⟩
  · repeat rw [vup_ne (by omega)]
  · rcases (show j = 0 ∨ j = 1 ∨ j = 2 ∨ j = 3 by omega) with rfl | rfl | rfl | rfl
    · rw [vup_ne (by omega), vup_ne (by omega), vup_ne (by omega), vup_ne (by omega), vup_ne (by omega), vup_ne (by omega), vup_ne (by omega), h0]
      exact vup_same
    · rw [vup_ne (by omega), vup_ne (by omega), vup_ne (by omega), vup_ne (by omega), vup_ne (by omega), h1]
      exact vup_same
    · rw [vup_ne (by omega), vup_ne (by omega), vup_ne (by omega), h2]
      exact vup_same
    · rw [vup_ne (by omega), h3]
      exact vup_same
  · repeat rw [vup_p (by omega)]
  · repeat rw [vup_ne (by omega)]
theorem FD.app {σ σ1 σ2 : vS} {n k m : Nat} {f g : Nat → Nat} (h1 : FD 4 n k f σ σ1) (h2 : FD 4 (n + k) m g σ1 σ2) (hg : ∀ j, j < m → g j = f (k + j)) : FD 4 n (k + m) f σ σ2 := by
  refine ⟨fun j hj => by rw [h2.1 j (by omega)]; exact h1.1 j hj, fun j hj => ?_⟩
  by_cases e : j < k
  · rw [h2.1 (n + j) (by omega)]
    exact h1.2 j e
  · obtain ⟨r, rfl⟩ : ∃ r, j = k + r := ⟨j - k, by omega⟩
    rw [← Nat.add_assoc, h2.2 r (by omega), hg r (by omega)]
theorem FE.tr {σ σ1 σ2 : vS} (h1 : FE σ σ1) (h2 : FE σ1 σ2) : FE σ σ2 := ⟨fun q a b => (h2.1 q a b).trans (h1.1 q a b), fun j a => (h2.2 j a).trans (h1.2 j a)⟩

set_option maxRecDepth 100000 in
set_option maxHeartbeats 4000000 in
theorem k_R_takeFour {G : vG} {σ : vS} {d : Nat} {n : Nat} {x : Int32} (hl : σ 1 0 = nI n) (hn : n ≤ 92) : Cr G yX2_takeFour cX2_takeFour 3 none d [.ref 1, .int x] σ none (fun σ' => FD 4 n 4 (byN x) σ σ' ∧ FE σ σ' ∧ σ' 1 0 = nI (n + 4)) := by
  refine Ct.ofV (by decide) (Nat.le_of_ble_eq_true rfl) rfl ?_
  show V G RX2 cX2_takeFour none 3 d _ 0 [some (.ref 1), some (.int x), none] [] _
  refine V_bipush 24 dX2_takeFour_0 (by decide) ?_
  refine V_istoren_2 dX2_takeFour_2 (by first | exact rfl | exact True.intro) (by decide) ?_
  refine V_iloadn_2 dX2_takeFour_3 ?_
  refine V_if_lt_f dX2_takeFour_4 48 (by decide) (by decide) ?_
  refine V_aloadn_0 dX2_takeFour_7 ?_
  refine V_getI dX2_takeFour_8 fl_X2_22 oR_length ?_
  refine V_topi (y := nI n) (by first | exact hl | exact vup_same | (rw [vup_ne (by omega)]; first | exact hl | exact vup_same)) ?_
  refine V_bipush 96 dX2_takeFour_11 (by decide) ?_
  refine V_icmpN_ge (a := n) (b := 96) dX2_takeFour_13 48 (by decide) (by omega) (by omega) (fun h13 => ?_) (fun h13 => ?_)
  · exfalso; omega
  · refine V_aloadn_0 dX2_takeFour_16 ?_
    refine V_getR dX2_takeFour_17 fl_X2_18 oR_tape ?_
    refine V_aloadn_0 dX2_takeFour_20 ?_
    refine V_getI dX2_takeFour_21 fl_X2_22 oR_length ?_
    refine V_topi (y := nI n) (by first | exact hl | exact vup_same | (rw [vup_ne (by omega)]; first | exact hl | exact vup_same)) ?_
    refine V_iloadn_1 dX2_takeFour_24 ?_
    refine V_iloadn_2 dX2_takeFour_25 ?_
    refine V_iushr dX2_takeFour_26 ?_
    refine V_sipush 255 dX2_takeFour_27 (by decide) ?_
    refine V_iand dX2_takeFour_30 ?_
    refine V_topi (y := nI (byN x 0)) (by_c (r := 0) (by decide)) ?_
    refine V_iast (j := n) dX2_takeFour_31 aR_tape (by omega) (by decide) ?_
    refine V_aloadn_0 dX2_takeFour_32 ?_
    refine V_dup dX2_takeFour_33 rfl ?_
    refine V_getI dX2_takeFour_34 fl_X2_22 oR_length ?_
    refine V_topi (y := nI n) (by first | exact hl | exact vup_same | (rw [vup_ne (by omega)]; first | exact hl | exact vup_same)) ?_
    refine V_iconst 1 dX2_takeFour_37 (by decide) ?_
    refine V_iaddN (a := n) (b := 1) dX2_takeFour_38 ?_
    refine V_putI dX2_takeFour_39 fp_X2_22 oR_length ?_
    refine V_iinc_2 dX2_takeFour_42 (by first | exact rfl | exact True.intro) (by decide) 16 (by decide) ?_
    refine V_goto dX2_takeFour_45 3 (by decide) ?_
    refine V_iloadn_2 dX2_takeFour_3 ?_
    refine V_if_lt_f dX2_takeFour_4 48 (by decide) (by decide) ?_
    refine V_aloadn_0 dX2_takeFour_7 ?_
    refine V_getI dX2_takeFour_8 fl_X2_22 oR_length ?_
    refine V_topi (y := nI (n + 1)) (by first | exact hl | exact vup_same | (rw [vup_ne (by omega)]; first | exact hl | exact vup_same)) ?_
    refine V_bipush 96 dX2_takeFour_11 (by decide) ?_
    refine V_icmpN_ge (a := n + 1) (b := 96) dX2_takeFour_13 48 (by decide) (by omega) (by omega) (fun h13 => ?_) (fun h13 => ?_)
    · exfalso; omega
    · refine V_aloadn_0 dX2_takeFour_16 ?_
      refine V_getR dX2_takeFour_17 fl_X2_18 oR_tape ?_
      refine V_aloadn_0 dX2_takeFour_20 ?_
      refine V_getI dX2_takeFour_21 fl_X2_22 oR_length ?_
      refine V_topi (y := nI (n + 1)) (by first | exact hl | exact vup_same | (rw [vup_ne (by omega)]; first | exact hl | exact vup_same)) ?_
      refine V_iloadn_1 dX2_takeFour_24 ?_
      refine V_iloadn_2 dX2_takeFour_25 ?_
      refine V_iushr dX2_takeFour_26 ?_
      refine V_sipush 255 dX2_takeFour_27 (by decide) ?_
      refine V_iand dX2_takeFour_30 ?_
      refine V_topi (y := nI (byN x 1)) (by_c (r := 1) (by decide)) ?_
      refine V_iast (j := n + 1) dX2_takeFour_31 aR_tape (by omega) (by decide) ?_
      refine V_aloadn_0 dX2_takeFour_32 ?_
      refine V_dup dX2_takeFour_33 rfl ?_
      refine V_getI dX2_takeFour_34 fl_X2_22 oR_length ?_
      refine V_topi (y := nI (n + 1)) (by first | exact hl | exact vup_same | (rw [vup_ne (by omega)]; first | exact hl | exact vup_same)) ?_
      refine V_iconst 1 dX2_takeFour_37 (by decide) ?_
      refine V_iaddN (a := n + 1) (b := 1) dX2_takeFour_38 ?_
      refine V_putI dX2_takeFour_39 fp_X2_22 oR_length ?_
      refine V_iinc_2 dX2_takeFour_42 (by first | exact rfl | exact True.intro) (by decide) 8 (by decide) ?_
      refine V_goto dX2_takeFour_45 3 (by decide) ?_
      refine V_iloadn_2 dX2_takeFour_3 ?_
      refine V_if_lt_f dX2_takeFour_4 48 (by decide) (by decide) ?_
      refine V_aloadn_0 dX2_takeFour_7 ?_
      refine V_getI dX2_takeFour_8 fl_X2_22 oR_length ?_
      refine V_topi (y := nI (n + 1 + 1)) (by first | exact hl | exact vup_same | (rw [vup_ne (by omega)]; first | exact hl | exact vup_same)) ?_
      refine V_bipush 96 dX2_takeFour_11 (by decide) ?_
      refine V_icmpN_ge (a := n + 1 + 1) (b := 96) dX2_takeFour_13 48 (by decide) (by omega) (by omega) (fun h13 => ?_) (fun h13 => ?_)
      · exfalso; omega
      · refine V_aloadn_0 dX2_takeFour_16 ?_
        refine V_getR dX2_takeFour_17 fl_X2_18 oR_tape ?_
        refine V_aloadn_0 dX2_takeFour_20 ?_
        refine V_getI dX2_takeFour_21 fl_X2_22 oR_length ?_
        refine V_topi (y := nI (n + 1 + 1)) (by first | exact hl | exact vup_same | (rw [vup_ne (by omega)]; first | exact hl | exact vup_same)) ?_
        refine V_iloadn_1 dX2_takeFour_24 ?_
        refine V_iloadn_2 dX2_takeFour_25 ?_
        refine V_iushr dX2_takeFour_26 ?_
        refine V_sipush 255 dX2_takeFour_27 (by decide) ?_
        refine V_iand dX2_takeFour_30 ?_
        refine V_topi (y := nI (byN x 2)) (by_c (r := 2) (by decide)) ?_
        refine V_iast (j := n + 1 + 1) dX2_takeFour_31 aR_tape (by omega) (by decide) ?_
        refine V_aloadn_0 dX2_takeFour_32 ?_
        refine V_dup dX2_takeFour_33 rfl ?_
        refine V_getI dX2_takeFour_34 fl_X2_22 oR_length ?_
        refine V_topi (y := nI (n + 1 + 1)) (by first | exact hl | exact vup_same | (rw [vup_ne (by omega)]; first | exact hl | exact vup_same)) ?_
        refine V_iconst 1 dX2_takeFour_37 (by decide) ?_
        refine V_iaddN (a := n + 1 + 1) (b := 1) dX2_takeFour_38 ?_
        refine V_putI dX2_takeFour_39 fp_X2_22 oR_length ?_
        refine V_iinc_2 dX2_takeFour_42 (by first | exact rfl | exact True.intro) (by decide) 0 (by decide) ?_
        refine V_goto dX2_takeFour_45 3 (by decide) ?_
        refine V_iloadn_2 dX2_takeFour_3 ?_
        refine V_if_lt_f dX2_takeFour_4 48 (by decide) (by decide) ?_
        refine V_aloadn_0 dX2_takeFour_7 ?_
        refine V_getI dX2_takeFour_8 fl_X2_22 oR_length ?_
        refine V_topi (y := nI (n + 1 + 1 + 1)) (by first | exact hl | exact vup_same | (rw [vup_ne (by omega)]; first | exact hl | exact vup_same)) ?_
        refine V_bipush 96 dX2_takeFour_11 (by decide) ?_
        refine V_icmpN_ge (a := n + 1 + 1 + 1) (b := 96) dX2_takeFour_13 48 (by decide) (by omega) (by omega) (fun h13 => ?_) (fun h13 => ?_)
        · exfalso; omega
        · refine V_aloadn_0 dX2_takeFour_16 ?_
          refine V_getR dX2_takeFour_17 fl_X2_18 oR_tape ?_
          refine V_aloadn_0 dX2_takeFour_20 ?_
          refine V_getI dX2_takeFour_21 fl_X2_22 oR_length ?_
          refine V_topi (y := nI (n + 1 + 1 + 1)) (by first | exact hl | exact vup_same | (rw [vup_ne (by omega)]; first | exact hl | exact vup_same)) ?_
          refine V_iloadn_1 dX2_takeFour_24 ?_
          refine V_iloadn_2 dX2_takeFour_25 ?_
          refine V_iushr dX2_takeFour_26 ?_
          refine V_sipush 255 dX2_takeFour_27 (by decide) ?_
          refine V_iand dX2_takeFour_30 ?_
          refine V_topi (y := nI (byN x 3)) (by_c (r := 3) (by decide)) ?_
          refine V_iast (j := n + 1 + 1 + 1) dX2_takeFour_31 aR_tape (by omega) (by decide) ?_
          refine V_aloadn_0 dX2_takeFour_32 ?_
          refine V_dup dX2_takeFour_33 rfl ?_
          refine V_getI dX2_takeFour_34 fl_X2_22 oR_length ?_
          refine V_topi (y := nI (n + 1 + 1 + 1)) (by first | exact hl | exact vup_same | (rw [vup_ne (by omega)]; first | exact hl | exact vup_same)) ?_
          refine V_iconst 1 dX2_takeFour_37 (by decide) ?_
          refine V_iaddN (a := n + 1 + 1 + 1) (b := 1) dX2_takeFour_38 ?_
          refine V_putI dX2_takeFour_39 fp_X2_22 oR_length ?_
          refine V_iinc_2 dX2_takeFour_42 (by first | exact rfl | exact True.intro) (by decide) (-8) (by decide) ?_
          refine V_goto dX2_takeFour_45 3 (by decide) ?_
          refine V_iloadn_2 dX2_takeFour_3 ?_
          refine V_if_lt_t dX2_takeFour_4 48 (by decide) (by decide) ?_
          exact V_vret dX2_takeFour_48 ⟨rfl, (tk4 rfl rfl rfl rfl).1, (tk4 (f := byN x) rfl rfl rfl rfl).2, vup_same⟩

theorem fd12 {σ σ1 σ2 σ3 : vS} {n : Nat} {a b c : Int32} (h1 : FD 4 n 4 (byN a) σ σ1) (h2 : FD 4 (n + 4) 4 (byN b) σ1 σ2) (h3 : FD 4 (n + 8) 4 (byN c) σ2 σ3) : FD 4 n 12 (fdN a b c) σ σ3 := by
  have k1 : FD 4 n 4 (fdN a b c) σ σ1 := ⟨h1.1, fun j hj => by
    rw [h1.2 j hj]
    unfold fdN
    rw [if_pos hj, Nat.mod_eq_of_lt hj]⟩
  have k2 := k1.app h2 (fun j hj => by
    unfold fdN
    rw [if_neg (by omega), if_pos (by omega), show (4 + j) % 4 = j by omega])
  exact k2.app h3 (fun j hj => by
    unfold fdN
    rw [if_neg (by omega), if_neg (by omega), show (4 + 4 + j) % 4 = j by omega])
set_option maxRecDepth 100000 in
set_option maxHeartbeats 4000000 in
theorem c_feed {G : vG} {σ : vS} {d : Nat} (hd : 1 ≤ d) {n : Nat} {a b c : Int32} (hl : σ 1 0 = nI n) (hn : n ≤ 84) : Cr G yX6_feed cX6_feed 4 (some .int) d [.ref 0, .int a, .int b, .int c] σ (some (.int (nI (n + 12)))) (fun σ' => FD 4 n 12 (fdN a b c) σ σ' ∧ FE σ σ' ∧ σ' 1 0 = nI (n + 12)) := by
  refine Ct.ofV (by decide) (Nat.le_of_ble_eq_true rfl) rfl ?_
  show V G RX6 cX6_feed (some .int) 4 d _ 0 [some (.ref 0), some (.int a), some (.int b), some (.int c)] [] _
  obtain ⟨d, rfl⟩ : ∃ e, d = e + 1 := ⟨d - 1, by omega⟩
  refine V_aloadn_0 dX6_feed_0 ?_
  refine V_getR dX6_feed_1 fl_X6_10 oC_reader ?_
  refine V_getI dX6_feed_4 fl_X6_225 oR_length ?_
  refine V_topi (y := nI n) hl ?_
  refine V_bipush 84 dX6_feed_7 (by decide) ?_
  refine V_icmpN_le (a := n) (b := 84) dX6_feed_9 15 (by decide) (by omega) (by omega) (fun h9 => ?_) (fun h9 => ?_)
  · refine V_aloadn_0 dX6_feed_15 ?_
    refine V_getR dX6_feed_16 fl_X6_10 oC_reader ?_
    refine V_iloadn_1 dX6_feed_19 ?_
    refine V_cv1n dX6_feed_20 cv_X6_228 rcR (Nat.le_of_ble_eq_true rfl) (k_R_takeFour (n := n) hl (by omega)) (fun σ1 g1 => ?_)
    refine V_aloadn_0 dX6_feed_23 ?_
    refine V_getR dX6_feed_24 fl_X6_10 oC_reader ?_
    refine V_iloadn_2 dX6_feed_27 ?_
    refine V_cv1n dX6_feed_28 cv_X6_228 rcR (Nat.le_of_ble_eq_true rfl) (k_R_takeFour (n := n + 4) g1.2.2 (by omega)) (fun σ2 g2 => ?_)
    refine V_aloadn_0 dX6_feed_31 ?_
    refine V_getR dX6_feed_32 fl_X6_10 oC_reader ?_
    refine V_iloadn_3 dX6_feed_35 ?_
    refine V_cv1n dX6_feed_36 cv_X6_228 rcR (Nat.le_of_ble_eq_true rfl) (k_R_takeFour (n := n + 8) g2.2.2 (by omega)) (fun σ3 g3 => ?_)
    refine V_aloadn_0 dX6_feed_39 ?_
    refine V_getR dX6_feed_40 fl_X6_10 oC_reader ?_
    refine V_getI dX6_feed_43 fl_X6_225 oR_length ?_
    refine V_topi (y := nI (n + 12)) g3.2.2 ?_
    exact V_iret dX6_feed_46 ⟨rfl, fd12 g1.1 g2.1 g3.1, (g1.2.1.tr g2.2.1).tr g3.2.1, g3.2.2⟩
  · exfalso; omega

set_option maxRecDepth 100000 in
set_option maxHeartbeats 4000000 in
theorem c_feed_full {G : vG} {σ : vS} {d : Nat} (hd : 1 ≤ d) {n : Nat} {a b c : Int32} (hl : σ 1 0 = nI n) (hn : 84 < n) (hn96 : n ≤ 96) : Cf G yX6_feed cX6_feed 4 (some .int) d [.ref 0, .int a, .int b, .int c] σ (some (.int (-1000000003))) σ := by
  refine Ct.ofV (by decide) (Nat.le_of_ble_eq_true rfl) rfl ?_
  show V G RX6 cX6_feed (some .int) 4 d _ 0 [some (.ref 0), some (.int a), some (.int b), some (.int c)] [] _
  obtain ⟨d, rfl⟩ : ∃ e, d = e + 1 := ⟨d - 1, by omega⟩
  refine V_aloadn_0 dX6_feed_0 ?_
  refine V_getR dX6_feed_1 fl_X6_10 oC_reader ?_
  refine V_getI dX6_feed_4 fl_X6_225 oR_length ?_
  refine V_topi (y := nI n) hl ?_
  refine V_bipush 84 dX6_feed_7 (by decide) ?_
  refine V_icmpN_le (a := n) (b := 84) dX6_feed_9 15 (by decide) (by omega) (by omega) (fun h9 => ?_) (fun h9 => ?_)
  · exfalso; omega
  · refine V_ldc (-1000000003) dX6_feed_12 cn_X6_75 ?_
    exact V_iret dX6_feed_14 ⟨rfl, rfl⟩

theorem s_m {r : Nat} (hr : r < 4) : ((nI (24 - 8 * r) &&& 31).toBitVec.smod 32).toNat = 24 - 8 * r := by
  rcases (show r = 0 ∨ r = 1 ∨ r = 2 ∨ r = 3 by omega) with rfl | rfl | rfl | rfl <;> decide

set_option maxRecDepth 100000 in
set_option maxHeartbeats 4000000 in
theorem lp_m_feed {G : vG} {d : Nat} {σ0 : vS} {n : Nat} {a b c : Int32} (hl : σ0 97 8 = nI n) (hn : n ≤ 84) : ∀ (k : Nat) (k1 : Nat) (σ : vS), ((∀ q, q ≠ 104 → σ q = σ0 q) ∧ k1 ≤ 12 ∧ FD 104 n k1 (fdN a b c) σ0 σ) → 12 - k1 < k → V G RX7 cX7_feed (some .int) 6 d (fun r' σ' => r' = some (.int (nI (n + 12))) ∧ ∃ σ1, σ' = vup σ1 97 8 (nI (n + 12)) ∧ (∀ q, q ≠ 104 → σ1 q = σ0 q) ∧ FD 104 n 12 (fdN a b c) σ0 σ1) 18 [some (.ref 97), some (.int a), some (.int b), some (.int c), some (.int (nI k1)), none] [] σ := by
  intro k
  induction k with
  | zero => intros; omega
  | succ k ih =>
    intro k1 σ hh hk
    obtain ⟨hs, hk12, hF⟩ := hh
    have hl2 : σ 97 8 = nI n := by rw [hs 97 (by decide)]; exact hl
    refine V_iload_4 dX7_feed_18 ?_
    refine V_bipush 12 dX7_feed_20 (by decide) ?_
    refine V_icmpN_ge (a := k1) (b := 12) dX7_feed_22 84 (by decide) (by omega) (by omega) (fun h22 => ?_) (fun h22 => ?_)
    · refine V_aloadn_0 dX7_feed_84 ?_
      refine V_dup dX7_feed_85 rfl ?_
      refine V_getI dX7_feed_86 fl_X7_203 oM_taped ?_
      refine V_topi (y := nI n) hl2 ?_
      refine V_bipush 12 dX7_feed_89 (by decide) ?_
      refine V_iaddN (a := n) (b := 12) dX7_feed_91 ?_
      refine V_putI dX7_feed_92 fp_X7_203 oM_taped ?_
      refine V_aloadn_0 dX7_feed_95 ?_
      refine V_getI dX7_feed_96 fl_X7_203 oM_taped ?_
      refine V_topi (y := nI (n + 12)) vup_same ?_
      exact V_iret dX7_feed_99 ⟨rfl, _, rfl, hs, by rw [show 12 = k1 by omega]; exact hF⟩
    · refine V_iload_4 dX7_feed_25 ?_
      refine V_iconst 4 dX7_feed_27 (by decide) ?_
      refine V_icmpN_ge (a := k1) (b := 4) dX7_feed_28 35 (by decide) (by omega) (by omega) (fun h28 => ?_) (fun h28 => ?_)
      · refine V_iload_4 dX7_feed_35 ?_
        refine V_bipush 8 dX7_feed_37 (by decide) ?_
        refine V_icmpN_ge (a := k1) (b := 8) dX7_feed_39 46 (by decide) (by omega) (by omega) (fun h39 => ?_) (fun h39 => ?_)
        · refine V_iloadn_3 dX7_feed_46 ?_
          refine V_istore_5 dX7_feed_47 (by first | exact rfl | exact True.intro) (by decide) ?_
          refine V_aloadn_0 dX7_feed_49 ?_
          refine V_getR dX7_feed_50 fl_X7_28 oM_tape ?_
          refine V_aloadn_0 dX7_feed_53 ?_
          refine V_getI dX7_feed_54 fl_X7_203 oM_taped ?_
          refine V_topi (y := nI n) hl2 ?_
          refine V_iload_4 dX7_feed_57 ?_
          refine V_iaddN (a := n) (b := k1) dX7_feed_59 ?_
          refine V_iload_5 dX7_feed_60 ?_
          refine V_bipush 24 dX7_feed_62 (by decide) ?_
          refine V_bipush 8 dX7_feed_64 (by decide) ?_
          refine V_iload_4 dX7_feed_66 ?_
          refine V_iconst 4 dX7_feed_68 (by decide) ?_
          refine V_iremN (a := k1) (b := 4) dX7_feed_69 (by omega) (by omega) (by omega) ?_
          refine V_imulN (a := 8) (b := k1 % 4) dX7_feed_70 ?_
          refine V_isubN (a := 24) (b := 8 * (k1 % 4)) dX7_feed_71 (by omega) ?_
          refine V_ishr dX7_feed_72 ?_
          refine V_sipush 255 dX7_feed_73 (by decide) ?_
          refine V_iand dX7_feed_76 ?_
          refine V_topi (y := nI (byN c (k1 % 4))) (by_m (r := k1 % 4) (by omega) (s_m (by omega))) ?_
          refine V_iast (j := n + k1) dX7_feed_77 aM_tape (by omega) (by decide) ?_
          refine V_iinc_4 dX7_feed_78 (by first | exact rfl | exact True.intro) (by decide) (nI (k1 + 1)) (nI_inc _) ?_
          refine V_goto dX7_feed_81 18 (by decide) ?_
          refine V_fg_5 ?_
          refine ih (k1 + 1) _ ⟨fun q hq => by rw [vup_p hq]; exact hs q hq, by omega, fun j hj => by rw [vup_ne (by omega)]; exact hF.1 j hj, fun j hj => ?_⟩ (by omega)
          by_cases e : j = k1
          · rw [e, vup_same]
            unfold fdN
            rw [if_neg (by omega), if_neg (by omega)]
          · rw [vup_ne (by omega)]; exact hF.2 j (by omega)
        · refine V_iloadn_2 dX7_feed_42 ?_
          refine V_goto dX7_feed_43 47 (by decide) ?_
          refine V_istore_5 dX7_feed_47 (by first | exact rfl | exact True.intro) (by decide) ?_
          refine V_aloadn_0 dX7_feed_49 ?_
          refine V_getR dX7_feed_50 fl_X7_28 oM_tape ?_
          refine V_aloadn_0 dX7_feed_53 ?_
          refine V_getI dX7_feed_54 fl_X7_203 oM_taped ?_
          refine V_topi (y := nI n) hl2 ?_
          refine V_iload_4 dX7_feed_57 ?_
          refine V_iaddN (a := n) (b := k1) dX7_feed_59 ?_
          refine V_iload_5 dX7_feed_60 ?_
          refine V_bipush 24 dX7_feed_62 (by decide) ?_
          refine V_bipush 8 dX7_feed_64 (by decide) ?_
          refine V_iload_4 dX7_feed_66 ?_
          refine V_iconst 4 dX7_feed_68 (by decide) ?_
          refine V_iremN (a := k1) (b := 4) dX7_feed_69 (by omega) (by omega) (by omega) ?_
          refine V_imulN (a := 8) (b := k1 % 4) dX7_feed_70 ?_
          refine V_isubN (a := 24) (b := 8 * (k1 % 4)) dX7_feed_71 (by omega) ?_
          refine V_ishr dX7_feed_72 ?_
          refine V_sipush 255 dX7_feed_73 (by decide) ?_
          refine V_iand dX7_feed_76 ?_
          refine V_topi (y := nI (byN b (k1 % 4))) (by_m (r := k1 % 4) (by omega) (s_m (by omega))) ?_
          refine V_iast (j := n + k1) dX7_feed_77 aM_tape (by omega) (by decide) ?_
          refine V_iinc_4 dX7_feed_78 (by first | exact rfl | exact True.intro) (by decide) (nI (k1 + 1)) (nI_inc _) ?_
          refine V_goto dX7_feed_81 18 (by decide) ?_
          refine V_fg_5 ?_
          refine ih (k1 + 1) _ ⟨fun q hq => by rw [vup_p hq]; exact hs q hq, by omega, fun j hj => by rw [vup_ne (by omega)]; exact hF.1 j hj, fun j hj => ?_⟩ (by omega)
          by_cases e : j = k1
          · rw [e, vup_same]
            unfold fdN
            rw [if_neg (by omega), if_pos (by omega)]
          · rw [vup_ne (by omega)]; exact hF.2 j (by omega)
      · refine V_iloadn_1 dX7_feed_31 ?_
        refine V_goto dX7_feed_32 47 (by decide) ?_
        refine V_istore_5 dX7_feed_47 (by first | exact rfl | exact True.intro) (by decide) ?_
        refine V_aloadn_0 dX7_feed_49 ?_
        refine V_getR dX7_feed_50 fl_X7_28 oM_tape ?_
        refine V_aloadn_0 dX7_feed_53 ?_
        refine V_getI dX7_feed_54 fl_X7_203 oM_taped ?_
        refine V_topi (y := nI n) hl2 ?_
        refine V_iload_4 dX7_feed_57 ?_
        refine V_iaddN (a := n) (b := k1) dX7_feed_59 ?_
        refine V_iload_5 dX7_feed_60 ?_
        refine V_bipush 24 dX7_feed_62 (by decide) ?_
        refine V_bipush 8 dX7_feed_64 (by decide) ?_
        refine V_iload_4 dX7_feed_66 ?_
        refine V_iconst 4 dX7_feed_68 (by decide) ?_
        refine V_iremN (a := k1) (b := 4) dX7_feed_69 (by omega) (by omega) (by omega) ?_
        refine V_imulN (a := 8) (b := k1 % 4) dX7_feed_70 ?_
        refine V_isubN (a := 24) (b := 8 * (k1 % 4)) dX7_feed_71 (by omega) ?_
        refine V_ishr dX7_feed_72 ?_
        refine V_sipush 255 dX7_feed_73 (by decide) ?_
        refine V_iand dX7_feed_76 ?_
        refine V_topi (y := nI (byN a (k1 % 4))) (by_m (r := k1 % 4) (by omega) (s_m (by omega))) ?_
        refine V_iast (j := n + k1) dX7_feed_77 aM_tape (by omega) (by decide) ?_
        refine V_iinc_4 dX7_feed_78 (by first | exact rfl | exact True.intro) (by decide) (nI (k1 + 1)) (nI_inc _) ?_
        refine V_goto dX7_feed_81 18 (by decide) ?_
        refine V_fg_5 ?_
        refine ih (k1 + 1) _ ⟨fun q hq => by rw [vup_p hq]; exact hs q hq, by omega, fun j hj => by rw [vup_ne (by omega)]; exact hF.1 j hj, fun j hj => ?_⟩ (by omega)
        by_cases e : j = k1
        · rw [e, vup_same]
          unfold fdN
          rw [if_pos (by omega)]
        · rw [vup_ne (by omega)]; exact hF.2 j (by omega)

set_option maxRecDepth 100000 in
set_option maxHeartbeats 4000000 in
theorem m_feed {G : vG} {σ : vS} {d : Nat} {n : Nat} {a b c : Int32} (hl : σ 97 8 = nI n) (hn : n ≤ 84) : Cr G yX7_feed cX7_feed 6 (some .int) d [.ref 97, .int a, .int b, .int c] σ (some (.int (nI (n + 12)))) (fun σ' => ∃ σ1, σ' = vup σ1 97 8 (nI (n + 12)) ∧ (∀ q, q ≠ 104 → σ1 q = σ q) ∧ FD 104 n 12 (fdN a b c) σ σ1) := by
  refine Ct.ofV (by decide) (Nat.le_of_ble_eq_true rfl) rfl ?_
  show V G RX7 cX7_feed (some .int) 6 d _ 0 [some (.ref 97), some (.int a), some (.int b), some (.int c), none, none] [] _
  refine V_aloadn_0 dX7_feed_0 ?_
  refine V_getI dX7_feed_1 fl_X7_203 oM_taped ?_
  refine V_topi (y := nI n) hl ?_
  refine V_bipush 12 dX7_feed_4 (by decide) ?_
  refine V_iaddN (a := n) (b := 12) dX7_feed_6 ?_
  refine V_bipush 96 dX7_feed_7 (by decide) ?_
  refine V_icmpN_le (a := n + 12) (b := 96) dX7_feed_9 15 (by decide) (by omega) (by omega) (fun h9 => ?_) (fun h9 => ?_)
  · refine V_iconst 0 dX7_feed_15 (by decide) ?_
    refine V_istore_4 dX7_feed_16 (by first | exact rfl | exact True.intro) (by decide) ?_
    exact lp_m_feed hl hn 13 0 σ ⟨fun _ _ => rfl, by omega, fun _ _ => rfl, fun j hj => absurd hj (Nat.not_lt_zero j)⟩ (by omega)
  · exfalso; omega

set_option maxRecDepth 100000 in
set_option maxHeartbeats 4000000 in
theorem m_feed_full {G : vG} {σ : vS} {d : Nat} {n : Nat} {a b c : Int32} (hl : σ 97 8 = nI n) (hn : 84 < n) (hn96 : n ≤ 96) : Cf G yX7_feed cX7_feed 6 (some .int) d [.ref 97, .int a, .int b, .int c] σ (some (.int (-1000000003))) σ := by
  refine Ct.ofV (by decide) (Nat.le_of_ble_eq_true rfl) rfl ?_
  show V G RX7 cX7_feed (some .int) 6 d _ 0 [some (.ref 97), some (.int a), some (.int b), some (.int c), none, none] [] _
  refine V_aloadn_0 dX7_feed_0 ?_
  refine V_getI dX7_feed_1 fl_X7_203 oM_taped ?_
  refine V_topi (y := nI n) hl ?_
  refine V_bipush 12 dX7_feed_4 (by decide) ?_
  refine V_iaddN (a := n) (b := 12) dX7_feed_6 ?_
  refine V_bipush 96 dX7_feed_7 (by decide) ?_
  refine V_icmpN_le (a := n + 12) (b := 96) dX7_feed_9 15 (by decide) (by omega) (by omega) (fun h9 => ?_) (fun h9 => ?_)
  · exfalso; omega
  · refine V_ldc (-1000000003) dX7_feed_12 cn_X7_87 ?_
    exact V_iret dX7_feed_14 ⟨rfl, rfl⟩

set_option maxRecDepth 100000 in
set_option maxHeartbeats 4000000 in
theorem op_feed {G : vG} {σ : vS} {d i : Nat} (hd : 100 ≤ d) (hi : i < 512) {x y z : Int32} (h : Inv i σ) : Op G yX6_feed cX6_feed 4 yX7_feed cX7_feed 6 d [.int x, .int y, .int z] i σ := by
  have hh := h
  obtain ⟨L, T, I, b, hT, hB, hM, hS, hO, hW, hR, hK⟩ := h
  have hC := hT.1
  have hE := hT.2.1
  have hI := hC.2.2.1
  have hn := hI.nc
  have hm := hI.np
  obtain ⟨n, n96, r1, r2, r3⟩ := id hR
  by_cases hx : n ≤ 84
  · refine Op.mk (c_feed (by omega) r1 hx) (fun σ1 h1 => ?_)
    obtain ⟨d1, e1, l1⟩ := h1
    refine Ct.mono (fun r σ2 h2 => ⟨h2.1, ?_⟩) (m_feed (n := n) (a := x) (b := y) (c := z) (by rw [e1.1 97 (by decide) (by decide)]; exact r2) hx)
    obtain ⟨-, σ3, rfl, s3, d3⟩ := h2
    have e : ∀ q, q ≠ 1 → q ≠ 4 → q ≠ 104 → q ≠ 97 → vup σ3 97 8 (nI (n + 12)) q = σ q := fun q a b c f => by rw [vup_p f, s3 q c, e1.1 q b a]
    have e97 : ∀ j, j ≠ 8 → vup σ3 97 8 (nI (n + 12)) 97 j = σ 97 j := fun j a => by rw [vup_ne (by omega), s3 97 (by decide), e1.1 97 (by decide) (by decide)]
    refine hh.of (fun q _ _ _ _ _ _ _ => e q (by assumption) (by assumption) (by assumption) (by assumption)) (by rw [e 0 (by decide) (by decide) (by decide) (by decide)]) (e97 3 (by decide)) (hW.fq (by rw [e 0 (by decide) (by decide) (by decide) (by decide)]) (e97 34 (by decide)) (e 7 (by decide) (by decide) (by decide) (by decide)) (e 120 (by decide) (by decide) (by decide) (by decide))) ?_
    refine ⟨n + 12, by omega, by rw [vup_ne (by omega), s3 1 (by decide)]; exact l1, vup_same, fun j hj => ?_⟩
    rw [vup_p (by decide), vup_p (by decide), s3 4 (by decide)]
    by_cases c : j < n
    · rw [d1.1 j c, d3.1 j c, e1.1 104 (by decide) (by decide)]
      exact r3 j c
    · obtain ⟨k, rfl⟩ : ∃ k, j = n + k := ⟨j - n, by omega⟩
      exact ⟨fdN x y z k, byN_lt, d1.2 k (by omega), d3.2 k (by omega)⟩
  · exact Op.ask hh (Cf.fi (c_feed_full (by omega) r1 (by omega) n96)) (fun σ1 f1 => Cf.fi (m_feed_full (n := n) (by rw [f1 97 8 (by unfold relP; omega)]; exact r2) (by omega) n96))
