/-! ===== the parts of what both hold, each by its own cells ===== -/
section FQ
variable {i b : Nat} {L T I : nT} {σ σ' : vS}
theorem IT.fq (h : IT i L T σ) (hq : ∀ q, ((9 ≤ q ∧ q ≤ 36) ∨ (61 ≤ q ∧ q ≤ 71) ∨ q = 98) → σ' q = σ q) : IT i L T σ' := by
  obtain ⟨⟨h1, h2, h3, h4, h5, h6, h7⟩, hE, hr⟩ := h
  exact ⟨⟨h1, h2.congr (fun q a b => hq q (by omega)), h3, h4.congr h7 (fun q a b => hq q (by omega)), h5, h6, h7⟩, hE.e98 (hq 98 (by omega)), hr⟩
theorem IM.fq (h : IM i L T I σ) (hq : ∀ q, ((9 ≤ q ∧ q ≤ 36) ∨ (73 ≤ q ∧ q ≤ 83) ∨ q = 99) → σ' q = σ q) : IM i L T I σ' := by
  obtain ⟨⟨h1, h2, h3, h4, h5, h6, h7⟩, hA, hL, hr⟩ := h
  have e := hq 99 (by omega)
  exact ⟨⟨h1, h2.congr (fun q a b => hq q (by omega)), h3, h4.congr h7 (fun q a b => hq q (by omega)), h5, h6, h7⟩, hA.congr (fun j _ => by rw [e]) h3.nc h3.np, hL.congr (fun j _ => by rw [e]), hr⟩
theorem IB.fq (h : IB b σ) (h0 : σ' 0 3 = σ 0 3) (h97 : σ' 97 3 = σ 97 3) : IB b σ' := by
  unfold IB
  rw [h0, h97]
  exact h
theorem IS.fq (h : IS σ) (hq : ∀ q, ((37 ≤ q ∧ q ≤ 44) ∨ q = 112 ∨ q = 113 ∨ q = 114) → σ' q = σ q) : IS σ' := by
  intro s hs
  rw [hq (37 + 2 * s) (by omega), hq (37 + 2 * s + 1) (by omega), hq 112 (by omega), hq 113 (by omega), hq 114 (by omega)]
  exact h s hs
theorem IQ.fq (h : IQ σ) (hq : ∀ q, ((45 ≤ q ∧ q ≤ 59) ∨ q = 115 ∨ q = 116 ∨ q = 117 ∨ q = 118) → σ' q = σ q) : IQ σ' := by
  intro s hs
  rw [hq (45 + 3 * s) (by omega), hq (45 + 3 * s + 1) (by omega), hq (45 + 3 * s + 1 + 1) (by omega), hq 115 (by omega), hq 116 (by omega), hq 117 (by omega), hq 118 (by omega)]
  exact h s hs
theorem IW.fq (h : IW σ) (h0 : σ' 0 9 = σ 0 9) (h97 : σ' 97 34 = σ 97 34) (h7 : σ' 7 = σ 7) (h120 : σ' 120 = σ 120) : IW σ' := by
  unfold IW
  rw [h0, h97, h7, h120]
  exact h
theorem IR.fq (h : IR σ) (h0 : σ' 1 0 = σ 1 0) (h97 : σ' 97 8 = σ 97 8) (h4 : σ' 4 = σ 4) (h104 : σ' 104 = σ 104) : IR σ' := by
  unfold IR
  rw [h0, h97, h4, h104]
  exact h
theorem IK.fq (h : IK σ) (h5 : σ' 105 = σ 105) (h6 : σ' 106 = σ 106) : IK σ' := by
  unfold IK
  rw [h5, h6]
  exact h
/-- all but what waits, the tape -/
theorem Inv.of (h : Inv i σ) (hq : ∀ q, q ≠ 0 → q ≠ 1 → q ≠ 4 → q ≠ 7 → q ≠ 97 → q ≠ 104 → q ≠ 120 → σ' q = σ q) (h0 : σ' 0 3 = σ 0 3) (h97 : σ' 97 3 = σ 97 3) (hW : IW σ') (hR : IR σ') : Inv (i + 1) σ' := by
  obtain ⟨L, T, I, b, h1, h2, h3, h4, h5, h6, h7, h8⟩ := h
  exact ⟨L, T, I, b, (h1.fq (fun q a => hq q (by omega) (by omega) (by omega) (by omega) (by omega) (by omega) (by omega))).up (by omega), h2.fq h0 h97, fun e => ((h3 e).fq (fun q a => hq q (by omega) (by omega) (by omega) (by omega) (by omega) (by omega) (by omega))).up (by omega),
    h4.fq (fun q a => hq q (by omega) (by omega) (by omega) (by omega) (by omega) (by omega) (by omega)), h5.fq (fun q a => hq q (by omega) (by omega) (by omega) (by omega) (by omega) (by omega) (by omega)), hW, hR,
    h8.fq (hq 105 (by decide) (by decide) (by decide) (by decide) (by decide) (by decide) (by decide)) (hq 106 (by decide) (by decide) (by decide) (by decide) (by decide) (by decide) (by decide))⟩
end FQ
/-! ===== fee, fine ===== -/
theorem run_c {a b c c' : Int32} {row : Nat → Nat} {n : Nat} (h : ∀ i, i < n → row i ≠ 10002) (hw : wfE row n) : ∀ k, k ≤ n → runE a b c row k = runE a b c' row k := by
  intro k
  induction k with
  | zero => intro _; rfl
  | succ k ih =>
    intro hk
    have h1 := h k (by omega)
    have h2 := (hw.2.1 k (by omega)).1
    simp only [runE]
    rw [ih (by omega)]
    unfold stepE
    by_cases g1 : row k < 10000
    · rw [if_pos g1, if_pos g1]
    · rw [if_neg g1, if_neg g1]
      by_cases g2 : row k < 20000
      · rw [if_pos g2, if_pos g2]
        by_cases g3 : row k = 10000
        · rw [if_pos g3, if_pos g3]
        · rw [if_neg g3, if_neg g3, if_pos (by omega), if_pos (by omega)]
      · rw [if_neg g2, if_neg g2]
theorem law_c {L : nT} {j : Nat} {a b c c' : Int32} (h : ∀ i, i < L j 2 → L j (3 + i) ≠ 10002) (hw : wfE (fun i => L j (3 + i)) (L j 2)) : lawI L j a b c = lawI L j a b c' := by
  unfold lawI
  rw [run_c (c' := c') h hw (L j 2) (Nat.le_refl _)]
theorem law_k {L T : nT} {σ : vS} {k : Nat} {a b c c' : Int32} (h : MC L T σ) (hk : k < 3) (hk0 : k ≠ 0) (hl : T 10 k ≠ 0) : lawI L (T 10 k - 1) a b c = lawI L (T 10 k - 1) a b c' := by
  have h1 := h.2.2.2.2 k hk
  have h2 := h.2.2.2.1 (T 10 k - 1) (by have := h1.1; omega)
  exact law_c (h2.2.1.2 (by rw [h1.2.1 hl]; exact hk0)) h2.2.2
def feeI (L T : nT) : Int32 := if T 10 1 = 0 then nI (T 0 11) else lawI L (T 10 1 - 1) (nI (T 0 11)) (nI (T 0 13)) 0
def fineI (L T : nT) (c : Nat) : Int32 := if T 10 2 = 0 then nI (fullT T c) else lawI L (T 10 2 - 1) (nI (fullT T c)) (nI (levT L T c)) 0

set_option maxRecDepth 100000 in
set_option maxHeartbeats 4000000 in
theorem c_fee {G : vG} {σ : vS} {d : Nat} (hd : 2 ≤ d) {L T : nT} {N : Nat} (hC : TC L N 61 T σ) : Cr G yX6_fee cX6_fee 2 (some .int) d [.ref 0] σ (some (.int (feeI L T))) (fun σ' => FI σ σ') := by
  refine Ct.ofV (by decide) (Nat.le_of_ble_eq_true rfl) rfl ?_
  show V G RX6 cX6_fee (some .int) 2 d _ 0 [some (.ref 0), none] [] _
  obtain ⟨d, rfl⟩ : ∃ e, d = e + 1 := ⟨d - 1, by omega⟩
  obtain ⟨ht, hH, hI, hL, hLI, hN, hN2⟩ := id hC
  have hT := hH.1
  have hn := hI.nc
  have hm := hI.np
  have hx := hI.tx
  have hlw := hI.lw (k := 1) (by decide)
  refine V_aloadn_0 dX6_fee_0 ?_
  refine V_getR dX6_fee_1 fl_X6_46 oC_now ?_
  refine V_getR dX6_fee_4 fl_X6_215 (oT_lawOf tw61) ?_
  refine V_iconst 1 dX6_fee_7 (by decide) ?_
  refine V_iald (j := 1) dX6_fee_8 (aT_lawOf tw61) (by decide) (by decide) ?_
  refine V_topi (hT.k10 (by decide)) ?_
  refine V_istoren_1 dX6_fee_9 (by first | exact rfl | exact True.intro) (by decide) ?_
  refine V_iloadn_1 dX6_fee_10 ?_
  refine V_if_ge dX6_fee_11 24 (by decide) (fun h11 => ?_) (fun h11 => ?_)
  · have hl := lw_ge h11
    refine V_aloadn_0 dX6_fee_24 ?_
    refine V_getR dX6_fee_25 fl_X6_37 oC_laws ?_
    refine V_iloadn_1 dX6_fee_28 ?_
    refine V_topi (y := nI (T 10 1 - 1)) (lw_val hl) ?_
    refine V_aald (j := T 10 1 - 1) dX6_fee_29 (eLaw (by omega)) (by decide) ?_
    refine V_aloadn_0 dX6_fee_30 ?_
    refine V_getR dX6_fee_31 fl_X6_46 oC_now ?_
    refine V_getI dX6_fee_34 fl_X6_164 (oT_spilt tw61) ?_
    refine V_topi hT.n11 ?_
    refine V_aloadn_0 dX6_fee_37 ?_
    refine V_getR dX6_fee_38 fl_X6_46 oC_now ?_
    refine V_getI dX6_fee_41 fl_X6_167 (oT_hour tw61) ?_
    refine V_topi hT.n13 ?_
    refine V_iconst 0 dX6_fee_44 (by decide) ?_
    refine V_aloadn_0 dX6_fee_45 ?_
    refine V_getR dX6_fee_46 fl_X6_46 oC_now ?_
    refine V_getR dX6_fee_49 fl_X6_218 (oT_stack tw61) ?_
    refine V_cv4r dX6_fee_52 cv_X6_221 (rcW (Or.inr ⟨_, (by omega), rfl⟩)) (Nat.le_of_ble_eq_true rfl) (k_give (n := L (T 10 1 - 1) 2) (row := fun i => L (T 10 1 - 1) (3 + i)) (by omega) (Or.inr ⟨_, (by omega), rfl⟩) (hL _ (by omega)).2.2.1 (hL _ (by omega)).2.2.2 (hLI _ (by omega)).2.2) (fun σ hq => ?_)
    exact V_iret dX6_fee_55 ⟨rI (by unfold feeI; rw [if_neg hl]; rfl), FI.st hq⟩
  · have hl := lw_lt (by omega) h11
    refine V_aloadn_0 dX6_fee_14 ?_
    refine V_getR dX6_fee_15 fl_X6_46 oC_now ?_
    refine V_getI dX6_fee_18 fl_X6_164 (oT_spilt tw61) ?_
    refine V_topi hT.n11 ?_
    refine V_goto dX6_fee_21 55 (by decide) ?_
    exact V_iret dX6_fee_55 ⟨rI (by unfold feeI; rw [if_pos hl]), FI.rf⟩

set_option maxRecDepth 100000 in
set_option maxHeartbeats 4000000 in
theorem m_fee {G : vG} {σ : vS} {d : Nat} (hd : 2 ≤ d) {L T : nT} (hC : MC L T σ) : Cr G yX7_fee cX7_fee 2 (some .int) d [.ref 97] σ (some (.int (feeI L T))) (fun σ' => FI σ σ') := by
  refine Ct.ofV (by decide) (Nat.le_of_ble_eq_true rfl) rfl ?_
  show V G RX7 cX7_fee (some .int) 2 d _ 0 [some (.ref 97), none] [] _
  obtain ⟨d, rfl⟩ : ∃ e, d = e + 1 := ⟨d - 1, by omega⟩
  have hI := hC.2.2.1
  have hn := hI.nc
  have hm := hI.np
  have hx := hI.tx
  have hlw := hI.lw (k := 1) (by decide)
  refine V_aloadn_0 dX7_fee_0 ?_
  refine V_iconst 1 dX7_fee_1 (by decide) ?_
  refine V_cv1f dX7_fee_2 cv_X7_100 rcM (Nat.le_of_ble_eq_true rfl) (k_M_counts hC (ky := 1) (by decide)) ?_
  refine V_istoren_1 dX7_fee_5 (by first | exact rfl | exact True.intro) (by decide) ?_
  refine V_aloadn_0 dX7_fee_6 ?_
  refine V_getR dX7_fee_7 fl_X7_51 oM_facts ?_
  refine V_iconst 0 dX7_fee_10 (by decide) ?_
  refine V_aloadn_0 dX7_fee_11 ?_
  refine V_getR dX7_fee_12 fl_X7_9 oM_now ?_
  refine V_iconst 5 dX7_fee_15 (by decide) ?_
  refine V_iald (j := 5) dX7_fee_16 aM_now (by decide) (by decide) ?_
  refine V_topi hC.1.s5 ?_
  refine V_iast (j := 0) dX7_fee_17 aM_facts (by decide) (by decide) ?_
  refine V_abs (fun σ1 => Fh σ σ1 ∧ MC L T σ1 ∧ σ1 111 0 = nI (T 0 11)) ⟨Fh.fa, hC.fh Fh.fa, vup_same⟩ (fun σ1 h1 => ?_)
  obtain ⟨hF, hC, ha⟩ := h1
  refine V_aloadn_0 dX7_fee_18 ?_
  refine V_getR dX7_fee_19 fl_X7_51 oM_facts ?_
  refine V_iconst 1 dX7_fee_22 (by decide) ?_
  refine V_aloadn_0 dX7_fee_23 ?_
  refine V_getR dX7_fee_24 fl_X7_9 oM_now ?_
  refine V_iconst 3 dX7_fee_27 (by decide) ?_
  refine V_iald (j := 3) dX7_fee_28 aM_now (by decide) (by decide) ?_
  refine V_topi hC.1.s3 ?_
  refine V_iast (j := 1) dX7_fee_29 aM_facts (by decide) (by decide) ?_
  refine V_abs (fun σ1 => Fh σ σ1 ∧ MC L T σ1 ∧ σ1 111 0 = nI (T 0 11) ∧ σ1 111 1 = nI (T 0 13)) ⟨hF.tr Fh.fa, hC.fh Fh.fa, by rw [vup_ne (by omega)]; exact ha, vup_same⟩ (fun σ1 h1 => ?_)
  obtain ⟨hF, hC, ha, hb⟩ := h1
  refine V_iloadn_1 dX7_fee_30 ?_
  refine V_if_ge dX7_fee_31 43 (by decide) (fun h31 => ?_) (fun h31 => ?_)
  · have hl := lw_ge h31
    refine V_aloadn_0 dX7_fee_43 ?_
    refine V_iloadn_1 dX7_fee_44 ?_
    refine V_topi (y := nI (T 10 1 - 1)) (lw_val hl) ?_
    refine V_cv1r dX7_fee_45 cv_X7_106 rcM (Nat.le_of_ble_eq_true rfl) (k_M_worksOut (by omega) hC (by omega) ha hb rfl) (fun σ3 h3 => ?_)
    exact V_iret dX7_fee_48 ⟨rI (by unfold feeI; rw [if_neg hl]; exact law_k hC (by decide) (by decide) hl), (hF.tr (Fh.st h3)).fi⟩
  · have hl := lw_lt (by omega) h31
    refine V_aloadn_0 dX7_fee_34 ?_
    refine V_getR dX7_fee_35 fl_X7_9 oM_now ?_
    refine V_iconst 5 dX7_fee_38 (by decide) ?_
    refine V_iald (j := 5) dX7_fee_39 aM_now (by decide) (by decide) ?_
    refine V_topi hC.1.s5 ?_
    refine V_goto dX7_fee_40 48 (by decide) ?_
    exact V_iret dX7_fee_48 ⟨rI (by unfold feeI; rw [if_pos hl]), hF.fi⟩

set_option maxRecDepth 100000 in
set_option maxHeartbeats 4000000 in
theorem op_fee {G : vG} {σ : vS} {d i : Nat} (hd : 100 ≤ d) (hi : i < 512) (h : Inv i σ) : Op G yX6_fee cX6_fee 2 yX7_fee cX7_fee 2 d [] i σ := by
  have hh := h
  obtain ⟨L, T, I, b, hT, hB, hM, hS, hO, hW, hR, hK⟩ := h
  have hC := hT.1
  have hE := hT.2.1
  have hI := hC.2.2.1
  have hn := hI.nc
  have hm := hI.np
  exact Op.ask hh (c_fee (by omega) hC) (fun σ1 f1 => m_fee (by omega) (hE.fi f1))

set_option maxRecDepth 100000 in
set_option maxHeartbeats 4000000 in
theorem c_fine {G : vG} {σ : vS} {d : Nat} (hd : 2 ≤ d) {L T : nT} {N : Nat} (hC : TC L N 61 T σ) {c : Nat} (hc : c < T 0 5) : Cr G yX6_fine cX6_fine 4 (some .int) d [.ref 0, .int (nI c)] σ (some (.int (fineI L T c))) (fun σ' => FI σ σ') := by
  refine Ct.ofV (by decide) (Nat.le_of_ble_eq_true rfl) rfl ?_
  show V G RX6 cX6_fine (some .int) 4 d _ 0 [some (.ref 0), some (.int (nI c)), none, none] [] _
  obtain ⟨d, rfl⟩ : ∃ e, d = e + 1 := ⟨d - 1, by omega⟩
  obtain ⟨ht, hH, hI, hL, hLI, hN, hN2⟩ := id hC
  have hT := hH.1
  have hn := hI.nc
  have hm := hI.np
  have hx := hI.tx
  have hlw := hI.lw (k := 2) (by decide)
  refine V_aloadn_0 dX6_fine_0 ?_
  refine V_getR dX6_fine_1 fl_X6_46 oC_now ?_
  refine V_iloadn_1 dX6_fine_4 ?_
  refine V_cv1f dX6_fine_5 cv_X6_76 (rcT tw61) (Nat.le_of_ble_eq_true rfl) (k_T_hasCellar tw61 hT) ?_
  refine V_ifB_ne dX6_fine_8 14 (by decide) (fun h8 => ?_) (fun h8 => ?_)
  · refine V_aloadn_0 dX6_fine_14 ?_
    refine V_getR dX6_fine_15 fl_X6_46 oC_now ?_
    refine V_iloadn_1 dX6_fine_18 ?_
    refine V_cv1f dX6_fine_19 cv_X6_88 (rcT tw61) (Nat.le_of_ble_eq_true rfl) (k_T_fullOf tw61 hT hI (by omega)) ?_
    refine V_istoren_2 dX6_fine_22 (by first | exact rfl | exact True.intro) (by decide) ?_
    refine V_aloadn_0 dX6_fine_23 ?_
    refine V_getR dX6_fine_24 fl_X6_46 oC_now ?_
    refine V_getR dX6_fine_27 fl_X6_215 (oT_lawOf tw61) ?_
    refine V_iconst 2 dX6_fine_30 (by decide) ?_
    refine V_iald (j := 2) dX6_fine_31 (aT_lawOf tw61) (by decide) (by decide) ?_
    refine V_topi (hT.k10 (by decide)) ?_
    refine V_istoren_3 dX6_fine_32 (by first | exact rfl | exact True.intro) (by decide) ?_
    refine V_iloadn_3 dX6_fine_33 ?_
    refine V_if_ge dX6_fine_34 41 (by decide) (fun h34 => ?_) (fun h34 => ?_)
    · have hl := lw_ge h34
      refine V_aloadn_0 dX6_fine_41 ?_
      refine V_getR dX6_fine_42 fl_X6_37 oC_laws ?_
      refine V_iloadn_3 dX6_fine_45 ?_
      refine V_topi (y := nI (T 10 2 - 1)) (lw_val hl) ?_
      refine V_aald (j := T 10 2 - 1) dX6_fine_46 (eLaw (by omega)) (by decide) ?_
      refine V_iloadn_2 dX6_fine_47 ?_
      refine V_aloadn_0 dX6_fine_48 ?_
      refine V_getR dX6_fine_49 fl_X6_46 oC_now ?_
      refine V_iloadn_1 dX6_fine_52 ?_
      refine V_cv1f dX6_fine_53 cv_X6_95 (rcT tw61) (Nat.le_of_ble_eq_true rfl) (k_T_levelOf tw61 hH hI (by omega)) ?_
      refine V_iconst 0 dX6_fine_56 (by decide) ?_
      refine V_aloadn_0 dX6_fine_57 ?_
      refine V_getR dX6_fine_58 fl_X6_46 oC_now ?_
      refine V_getR dX6_fine_61 fl_X6_218 (oT_stack tw61) ?_
      refine V_cv4r dX6_fine_64 cv_X6_221 (rcW (Or.inr ⟨_, (by omega), rfl⟩)) (Nat.le_of_ble_eq_true rfl) (k_give (n := L (T 10 2 - 1) 2) (row := fun i => L (T 10 2 - 1) (3 + i)) (by omega) (Or.inr ⟨_, (by omega), rfl⟩) (hL _ (by omega)).2.2.1 (hL _ (by omega)).2.2.2 (hLI _ (by omega)).2.2) (fun σ hq => ?_)
      exact V_iret dX6_fine_67 ⟨rI (by unfold fineI; rw [if_neg hl]; rfl), FI.st hq⟩
    · have hl := lw_lt (by omega) h34
      refine V_iloadn_2 dX6_fine_37 ?_
      refine V_goto dX6_fine_38 67 (by decide) ?_
      exact V_iret dX6_fine_67 ⟨rI (by unfold fineI; rw [if_pos hl]), FI.rf⟩
  · exact absurd (hasN hc (by omega)) h8

set_option maxRecDepth 100000 in
set_option maxHeartbeats 4000000 in
theorem c_fine_bad {G : vG} {σ : vS} {d : Nat} (hd : 2 ≤ d) {L T : nT} {N : Nat} (hC : TC L N 61 T σ) {x : Int32} (hb : ¬ (hasI x (T 0 5))) : Cf G yX6_fine cX6_fine 4 (some .int) d [.ref 0, .int x] σ (some (.int (-1000000001))) σ := by
  refine Ct.ofV (by decide) (Nat.le_of_ble_eq_true rfl) rfl ?_
  show V G RX6 cX6_fine (some .int) 4 d _ 0 [some (.ref 0), some (.int x), none, none] [] _
  obtain ⟨d, rfl⟩ : ∃ e, d = e + 1 := ⟨d - 1, by omega⟩
  obtain ⟨ht, hH, hI, hL, hLI, hN, hN2⟩ := id hC
  have hT := hH.1
  have hn := hI.nc
  have hm := hI.np
  refine V_aloadn_0 dX6_fine_0 ?_
  refine V_getR dX6_fine_1 fl_X6_46 oC_now ?_
  refine V_iloadn_1 dX6_fine_4 ?_
  refine V_cv1f dX6_fine_5 cv_X6_76 (rcT tw61) (Nat.le_of_ble_eq_true rfl) (k_T_hasCellar tw61 hT) ?_
  refine V_ifB_ne dX6_fine_8 14 (by decide) (fun h8 => ?_) (fun h8 => ?_)
  · exact absurd h8 hb
  · refine V_ldc (-1000000001) dX6_fine_11 cn_X6_66 ?_
    exact V_iret dX6_fine_13 ⟨rfl, rfl⟩

set_option maxRecDepth 100000 in
set_option maxHeartbeats 4000000 in
theorem m_fine {G : vG} {σ : vS} {d : Nat} (hd : 4 ≤ d) {L T : nT} (hC : MC L T σ) {c : Nat} (hc : c < T 0 5) : Cr G yX7_fine cX7_fine 4 (some .int) d [.ref 97, .int (nI c)] σ (some (.int (fineI L T c))) (fun σ' => FI σ σ') := by
  refine Ct.ofV (by decide) (Nat.le_of_ble_eq_true rfl) rfl ?_
  show V G RX7 cX7_fine (some .int) 4 d _ 0 [some (.ref 97), some (.int (nI c)), none, none] [] _
  obtain ⟨d, rfl⟩ : ∃ e, d = e + 1 := ⟨d - 1, by omega⟩
  have hI := hC.2.2.1
  have hn := hI.nc
  have hm := hI.np
  have hx := hI.tx
  have hlw := hI.lw (k := 2) (by decide)
  refine V_aloadn_0 dX7_fine_0 ?_
  refine V_iloadn_1 dX7_fine_1 ?_
  refine V_cv1f dX7_fine_2 cv_X7_112 rcM (Nat.le_of_ble_eq_true rfl) (k_M_isCellar (by omega) hC) ?_
  refine V_ifB_ne dX7_fine_5 11 (by decide) (fun h5 => ?_) (fun h5 => ?_)
  · refine V_aloadn_0 dX7_fine_11 ?_
    refine V_iloadn_1 dX7_fine_12 ?_
    refine V_cv1r dX7_fine_13 cv_X7_116 rcM (Nat.le_of_ble_eq_true rfl) (k_M_levelOf (by omega) hC (by omega)) (fun σ0 hF => ?_)
    replace hC := hC.fh hF
    refine V_istoren_2 dX7_fine_16 (by first | exact rfl | exact True.intro) (by decide) ?_
    refine V_aloadn_0 dX7_fine_17 ?_
    refine V_iconst 2 dX7_fine_18 (by decide) ?_
    refine V_cv1f dX7_fine_19 cv_X7_100 rcM (Nat.le_of_ble_eq_true rfl) (k_M_counts hC (ky := 2) (by decide)) ?_
    refine V_istoren_3 dX7_fine_22 (by first | exact rfl | exact True.intro) (by decide) ?_
    refine V_aloadn_0 dX7_fine_23 ?_
    refine V_getR dX7_fine_24 fl_X7_51 oM_facts ?_
    refine V_iconst 0 dX7_fine_27 (by decide) ?_
    refine V_aloadn_0 dX7_fine_28 ?_
    refine V_iloadn_1 dX7_fine_29 ?_
    refine V_cv1f dX7_fine_30 cv_X7_96 rcM (Nat.le_of_ble_eq_true rfl) (k_M_fullOf (by omega) hC (by omega)) ?_
    refine V_iast (j := 0) dX7_fine_33 aM_facts (by decide) (by decide) ?_
    refine V_abs (fun σ1 => Fh σ σ1 ∧ MC L T σ1 ∧ σ1 111 0 = nI (fullT T c)) ⟨hF.tr Fh.fa, hC.fh Fh.fa, vup_same⟩ (fun σ1 h1 => ?_)
    obtain ⟨hF, hC, ha⟩ := h1
    refine V_aloadn_0 dX7_fine_34 ?_
    refine V_getR dX7_fine_35 fl_X7_51 oM_facts ?_
    refine V_iconst 1 dX7_fine_38 (by decide) ?_
    refine V_iloadn_2 dX7_fine_39 ?_
    refine V_iast (j := 1) dX7_fine_40 aM_facts (by decide) (by decide) ?_
    refine V_abs (fun σ1 => Fh σ σ1 ∧ MC L T σ1 ∧ σ1 111 0 = nI (fullT T c) ∧ σ1 111 1 = nI (levT L T c)) ⟨hF.tr Fh.fa, hC.fh Fh.fa, by rw [vup_ne (by omega)]; exact ha, vup_same⟩ (fun σ1 h1 => ?_)
    obtain ⟨hF, hC, ha, hb⟩ := h1
    refine V_iloadn_3 dX7_fine_41 ?_
    refine V_if_ge dX7_fine_42 53 (by decide) (fun h42 => ?_) (fun h42 => ?_)
    · have hl := lw_ge h42
      refine V_aloadn_0 dX7_fine_53 ?_
      refine V_iloadn_3 dX7_fine_54 ?_
      refine V_topi (y := nI (T 10 2 - 1)) (lw_val hl) ?_
      refine V_cv1r dX7_fine_55 cv_X7_106 rcM (Nat.le_of_ble_eq_true rfl) (k_M_worksOut (by omega) hC (by omega) ha hb rfl) (fun σ3 h3 => ?_)
      exact V_iret dX7_fine_58 ⟨rI (by unfold fineI; rw [if_neg hl]; exact law_k hC (by decide) (by decide) hl), (hF.tr (Fh.st h3)).fi⟩
    · have hl := lw_lt (by omega) h42
      refine V_aloadn_0 dX7_fine_45 ?_
      refine V_iloadn_1 dX7_fine_46 ?_
      refine V_cv1f dX7_fine_47 cv_X7_96 rcM (Nat.le_of_ble_eq_true rfl) (k_M_fullOf (by omega) hC (by omega)) ?_
      refine V_goto dX7_fine_50 58 (by decide) ?_
      exact V_iret dX7_fine_58 ⟨rI (by unfold fineI; rw [if_pos hl]), hF.fi⟩
  · exact absurd (hasN hc (by omega)) h5

set_option maxRecDepth 100000 in
set_option maxHeartbeats 4000000 in
theorem m_fine_bad {G : vG} {σ : vS} {d : Nat} (hd : 4 ≤ d) {L T : nT} (hC : MC L T σ) {x : Int32} (hb : ¬ (hasI x (T 0 5))) : Cf G yX7_fine cX7_fine 4 (some .int) d [.ref 97, .int x] σ (some (.int (-1000000001))) σ := by
  refine Ct.ofV (by decide) (Nat.le_of_ble_eq_true rfl) rfl ?_
  show V G RX7 cX7_fine (some .int) 4 d _ 0 [some (.ref 97), some (.int x), none, none] [] _
  obtain ⟨d, rfl⟩ : ∃ e, d = e + 1 := ⟨d - 1, by omega⟩
  have hI := hC.2.2.1
  have hn := hI.nc
  have hm := hI.np
  refine V_aloadn_0 dX7_fine_0 ?_
  refine V_iloadn_1 dX7_fine_1 ?_
  refine V_cv1f dX7_fine_2 cv_X7_112 rcM (Nat.le_of_ble_eq_true rfl) (k_M_isCellar (by omega) hC) ?_
  refine V_ifB_ne dX7_fine_5 11 (by decide) (fun h5 => ?_) (fun h5 => ?_)
  · exact absurd h5 hb
  · refine V_ldc (-1000000001) dX7_fine_8 cn_X7_86 ?_
    exact V_iret dX7_fine_10 ⟨rfl, rfl⟩

set_option maxRecDepth 100000 in
set_option maxHeartbeats 4000000 in
theorem op_fine {G : vG} {σ : vS} {d i : Nat} (hd : 100 ≤ d) (hi : i < 512) {x : Int32} (h : Inv i σ) : Op G yX6_fine cX6_fine 4 yX7_fine cX7_fine 4 d [.int x] i σ := by
  have hh := h
  obtain ⟨L, T, I, b, hT, hB, hM, hS, hO, hW, hR, hK⟩ := h
  have hC := hT.1
  have hE := hT.2.1
  have hI := hC.2.2.1
  have hn := hI.nc
  have hm := hI.np
  by_cases hx : hasI x (T 0 5)
  · obtain ⟨c, hc, rfl⟩ := (hasI_iff (by omega)).mp hx
    exact Op.ask hh (c_fine (by omega) hC hc) (fun σ1 f1 => m_fine (by omega) (hE.fi f1) hc)
  · exact Op.ask hh (Cf.fi (c_fine_bad (by omega) hC hx)) (fun σ1 f1 => Cf.fi (m_fine_bad (by omega) (hE.fi f1) hx))

set_option maxRecDepth 100000 in
set_option maxHeartbeats 4000000 in
theorem c_trim {G : vG} {σ : vS} {d : Nat} (hd : 1 ≤ d) {n j : Nat} (hn : σ 1 0 = nI n) (hn96 : n ≤ 96) (hj : j ≤ n) : Cf G yX6_trim cX6_trim 2 (some .int) d [.ref 0, .int (nI j)] σ (some (.int (nI j))) (vup σ 1 0 (nI j)) := by
  refine Ct.ofV (by decide) (Nat.le_of_ble_eq_true rfl) rfl ?_
  show V G RX6 cX6_trim (some .int) 2 d _ 0 [some (.ref 0), some (.int (nI j))] [] _
  obtain ⟨d, rfl⟩ : ∃ e, d = e + 1 := ⟨d - 1, by omega⟩
  refine V_iloadn_1 dX6_trim_0 ?_
  refine V_iconst 0 dX6_trim_1 (by decide) ?_
  refine V_aloadn_0 dX6_trim_2 ?_
  refine V_getR dX6_trim_3 fl_X6_10 oC_reader ?_
  refine V_getI dX6_trim_6 fl_X6_225 oR_length ?_
  refine V_topi (y := nI n) hn ?_
  refine V_cs3f dX6_trim_9 cs_X6_108 (Nat.le_of_ble_eq_true rfl) k_C_within ?_
  refine V_ifB_ne dX6_trim_12 18 (by decide) (fun h12 => ?_) (fun h12 => ?_)
  · refine V_aloadn_0 dX6_trim_18 ?_
    refine V_getR dX6_trim_19 fl_X6_10 oC_reader ?_
    refine V_iloadn_1 dX6_trim_22 ?_
    refine V_putI dX6_trim_23 fp_X6_225 oR_length ?_
    refine V_iloadn_1 dX6_trim_26 ?_
    exact V_iret dX6_trim_27 ⟨rfl, rfl⟩
  · exact absurd (inN (a := 0) (b := n) (by omega) hj (by omega)) h12

set_option maxRecDepth 100000 in
set_option maxHeartbeats 4000000 in
theorem c_trim_bad {G : vG} {σ : vS} {d : Nat} (hd : 1 ≤ d) {n : Nat} {x : Int32} (hn : σ 1 0 = nI n) (hb : ¬ inI x 0 (nI n)) : Cf G yX6_trim cX6_trim 2 (some .int) d [.ref 0, .int x] σ (some (.int (-1000000001))) σ := by
  refine Ct.ofV (by decide) (Nat.le_of_ble_eq_true rfl) rfl ?_
  show V G RX6 cX6_trim (some .int) 2 d _ 0 [some (.ref 0), some (.int x)] [] _
  obtain ⟨d, rfl⟩ : ∃ e, d = e + 1 := ⟨d - 1, by omega⟩
  refine V_iloadn_1 dX6_trim_0 ?_
  refine V_iconst 0 dX6_trim_1 (by decide) ?_
  refine V_aloadn_0 dX6_trim_2 ?_
  refine V_getR dX6_trim_3 fl_X6_10 oC_reader ?_
  refine V_getI dX6_trim_6 fl_X6_225 oR_length ?_
  refine V_topi (y := nI n) hn ?_
  refine V_cs3f dX6_trim_9 cs_X6_108 (Nat.le_of_ble_eq_true rfl) k_C_within ?_
  refine V_ifB_ne dX6_trim_12 18 (by decide) (fun h12 => ?_) (fun h12 => ?_)
  · exact absurd h12 hb
  · refine V_ldc (-1000000001) dX6_trim_15 cn_X6_66 ?_
    exact V_iret dX6_trim_17 ⟨rfl, rfl⟩

set_option maxRecDepth 100000 in
set_option maxHeartbeats 4000000 in
theorem m_trim {G : vG} {σ : vS} {d : Nat} (hd : 1 ≤ d) {n j : Nat} (hn : σ 97 8 = nI n) (hn96 : n ≤ 96) (hj : j ≤ n) : Cf G yX7_trim cX7_trim 2 (some .int) d [.ref 97, .int (nI j)] σ (some (.int (nI j))) (vup σ 97 8 (nI j)) := by
  refine Ct.ofV (by decide) (Nat.le_of_ble_eq_true rfl) rfl ?_
  show V G RX7 cX7_trim (some .int) 2 d _ 0 [some (.ref 97), some (.int (nI j))] [] _
  obtain ⟨d, rfl⟩ : ∃ e, d = e + 1 := ⟨d - 1, by omega⟩
  refine V_iloadn_1 dX7_trim_0 ?_
  refine V_iconst 0 dX7_trim_1 (by decide) ?_
  refine V_aloadn_0 dX7_trim_2 ?_
  refine V_getI dX7_trim_3 fl_X7_203 oM_taped ?_
  refine V_topi (y := nI n) hn ?_
  refine V_cs3f dX7_trim_6 cs_X7_82 (Nat.le_of_ble_eq_true rfl) k_M_in ?_
  refine V_ifB_ne dX7_trim_9 15 (by decide) (fun h9 => ?_) (fun h9 => ?_)
  · refine V_aloadn_0 dX7_trim_15 ?_
    refine V_iloadn_1 dX7_trim_16 ?_
    refine V_putI dX7_trim_17 fp_X7_203 oM_taped ?_
    refine V_iloadn_1 dX7_trim_20 ?_
    exact V_iret dX7_trim_21 ⟨rfl, rfl⟩
  · exact absurd (inN (a := 0) (b := n) (by omega) hj (by omega)) h9

set_option maxRecDepth 100000 in
set_option maxHeartbeats 4000000 in
theorem m_trim_bad {G : vG} {σ : vS} {d : Nat} (hd : 1 ≤ d) {n : Nat} {x : Int32} (hn : σ 97 8 = nI n) (hb : ¬ inI x 0 (nI n)) : Cf G yX7_trim cX7_trim 2 (some .int) d [.ref 97, .int x] σ (some (.int (-1000000001))) σ := by
  refine Ct.ofV (by decide) (Nat.le_of_ble_eq_true rfl) rfl ?_
  show V G RX7 cX7_trim (some .int) 2 d _ 0 [some (.ref 97), some (.int x)] [] _
  obtain ⟨d, rfl⟩ : ∃ e, d = e + 1 := ⟨d - 1, by omega⟩
  refine V_iloadn_1 dX7_trim_0 ?_
  refine V_iconst 0 dX7_trim_1 (by decide) ?_
  refine V_aloadn_0 dX7_trim_2 ?_
  refine V_getI dX7_trim_3 fl_X7_203 oM_taped ?_
  refine V_topi (y := nI n) hn ?_
  refine V_cs3f dX7_trim_6 cs_X7_82 (Nat.le_of_ble_eq_true rfl) k_M_in ?_
  refine V_ifB_ne dX7_trim_9 15 (by decide) (fun h9 => ?_) (fun h9 => ?_)
  · exact absurd h9 hb
  · refine V_ldc (-1000000001) dX7_trim_12 cn_X7_86 ?_
    exact V_iret dX7_trim_14 ⟨rfl, rfl⟩

set_option maxRecDepth 100000 in
set_option maxHeartbeats 4000000 in
theorem op_trim {G : vG} {σ : vS} {d i : Nat} (hd : 100 ≤ d) (hi : i < 512) {x : Int32} (h : Inv i σ) : Op G yX6_trim cX6_trim 2 yX7_trim cX7_trim 2 d [.int x] i σ := by
  have hh := h
  obtain ⟨L, T, I, b, hT, hB, hM, hS, hO, hW, hR, hK⟩ := h
  have hC := hT.1
  have hE := hT.2.1
  have hI := hC.2.2.1
  have hn := hI.nc
  have hm := hI.np
  obtain ⟨n, n96, r1, r2, r3⟩ := id hR
  by_cases hx : inI x 0 (nI n)
  · obtain ⟨j, hj, rfl⟩ := (inI_iff (b := n) (by omega)).mp hx
    refine Op.mk (P := fun σ1 => σ1 = vup σ 1 0 (nI j)) (c_trim (by omega) r1 n96 hj) (fun σ1 e1 => Ct.mono (fun r σ2 h2 => ⟨h2.1, ?_⟩) (m_trim (n := n) (by omega) (by rw [e1, vup_ne (by omega)]; exact r2) n96 hj))
    obtain ⟨-, rfl⟩ := h2
    subst e1
    refine hh.of (fun q _ _ _ _ _ _ _ => by rw [vup_p (by assumption), vup_p (by assumption)]) (by rw [vup_ne (by omega), vup_ne (by omega)]) (by rw [vup_ne (by omega), vup_ne (by omega)]) (hW.fq (by rw [vup_ne (by omega), vup_ne (by omega)]) (by rw [vup_ne (by omega), vup_ne (by omega)]) (by rw [vup_p (by decide), vup_p (by decide)]) (by rw [vup_p (by decide), vup_p (by decide)])) ?_
    refine ⟨j, by omega, by rw [vup_ne (by omega), vup_same], vup_same, fun k hk => ?_⟩
    rw [vup_p (by decide), vup_p (by decide), vup_p (by decide), vup_p (by decide)]
    exact r3 k (by omega)
  · exact Op.ask hh (Cf.fi (c_trim_bad (by omega) r1 hx)) (fun σ1 f1 => Cf.fi (m_trim_bad (by omega) (by rw [f1 97 8 (by unfold relP; omega)]; exact r2) hx))

set_option maxRecDepth 100000 in
set_option maxHeartbeats 4000000 in
theorem c_tell {G : vG} {σ : vS} {d : Nat} {n : Nat} {x : Int32} (hn : σ 0 9 = nI n) (hn60 : n < 60) : Cf G yX6_tell cX6_tell 2 (some .int) d [.ref 0, .int x] σ (some (.int (nI (n + 1)))) (vup (vup σ 7 n x) 0 9 (nI (n + 1))) := by
  refine Ct.ofV (by decide) (Nat.le_of_ble_eq_true rfl) rfl ?_
  show V G RX6 cX6_tell (some .int) 2 d _ 0 [some (.ref 0), some (.int x)] [] _
  refine V_aloadn_0 dX6_tell_0 ?_
  refine V_getI dX6_tell_1 fl_X6_309 oC_waitingCount ?_
  refine V_topi (y := nI n) hn ?_
  refine V_bipush 60 dX6_tell_4 (by decide) ?_
  refine V_icmpN_lt (a := n) (b := 60) dX6_tell_6 12 (by decide) (by omega) (by omega) (fun h6 => ?_) (fun h6 => ?_)
  · refine V_aloadn_0 dX6_tell_12 ?_
    refine V_getR dX6_tell_13 fl_X6_28 oC_waiting ?_
    refine V_aloadn_0 dX6_tell_16 ?_
    refine V_getI dX6_tell_17 fl_X6_309 oC_waitingCount ?_
    refine V_topi (y := nI n) hn ?_
    refine V_iloadn_1 dX6_tell_20 ?_
    refine V_iast (j := n) dX6_tell_21 aC_waiting (by omega) (by decide) ?_
    refine V_aloadn_0 dX6_tell_22 ?_
    refine V_dup dX6_tell_23 rfl ?_
    refine V_getI dX6_tell_24 fl_X6_309 oC_waitingCount ?_
    refine V_topi (y := nI n) (by rw [vup_ne (by omega)]; exact hn) ?_
    refine V_iconst 1 dX6_tell_27 (by decide) ?_
    refine V_iaddN (a := n) (b := 1) dX6_tell_28 ?_
    refine V_putI dX6_tell_29 fp_X6_309 oC_waitingCount ?_
    refine V_aloadn_0 dX6_tell_32 ?_
    refine V_getI dX6_tell_33 fl_X6_309 oC_waitingCount ?_
    refine V_topi (y := nI (n + 1)) vup_same ?_
    exact V_iret dX6_tell_36 ⟨rfl, rfl⟩
  · exfalso; omega

set_option maxRecDepth 100000 in
set_option maxHeartbeats 4000000 in
theorem c_tell_full {G : vG} {σ : vS} {d : Nat} {x : Int32} (hn : σ 0 9 = nI 60) : Cf G yX6_tell cX6_tell 2 (some .int) d [.ref 0, .int x] σ (some (.int (-1000000003))) σ := by
  refine Ct.ofV (by decide) (Nat.le_of_ble_eq_true rfl) rfl ?_
  show V G RX6 cX6_tell (some .int) 2 d _ 0 [some (.ref 0), some (.int x)] [] _
  refine V_aloadn_0 dX6_tell_0 ?_
  refine V_getI dX6_tell_1 fl_X6_309 oC_waitingCount ?_
  refine V_topi (y := 60) hn ?_
  refine V_bipush 60 dX6_tell_4 (by decide) ?_
  refine V_icmp_lt_f dX6_tell_6 12 (by decide) (by decide) ?_
  refine V_ldc (-1000000003) dX6_tell_9 cn_X6_75 ?_
  exact V_iret dX6_tell_11 ⟨rfl, rfl⟩

set_option maxRecDepth 100000 in
set_option maxHeartbeats 4000000 in
theorem m_tell {G : vG} {σ : vS} {d : Nat} {n : Nat} {x : Int32} (hn : σ 97 34 = nI n) (hn60 : n < 60) : Cf G yX7_tell cX7_tell 2 (some .int) d [.ref 97, .int x] σ (some (.int (nI (n + 1)))) (vup (vup σ 120 n x) 97 34 (nI (n + 1))) := by
  refine Ct.ofV (by decide) (Nat.le_of_ble_eq_true rfl) rfl ?_
  show V G RX7 cX7_tell (some .int) 2 d _ 0 [some (.ref 97), some (.int x)] [] _
  refine V_aloadn_0 dX7_tell_0 ?_
  refine V_getI dX7_tell_1 fl_X7_279 oM_waiting ?_
  refine V_topi (y := nI n) hn ?_
  refine V_bipush 60 dX7_tell_4 (by decide) ?_
  refine V_icmpN_ne (a := n) (b := 60) dX7_tell_6 12 (by decide) (by omega) (by omega) (fun h6 => ?_) (fun h6 => ?_)
  · refine V_aloadn_0 dX7_tell_12 ?_
    refine V_getR dX7_tell_13 fl_X7_78 oM_tells ?_
    refine V_aloadn_0 dX7_tell_16 ?_
    refine V_getI dX7_tell_17 fl_X7_279 oM_waiting ?_
    refine V_topi (y := nI n) hn ?_
    refine V_iloadn_1 dX7_tell_20 ?_
    refine V_iast (j := n) dX7_tell_21 aM_tells (by omega) (by decide) ?_
    refine V_aloadn_0 dX7_tell_22 ?_
    refine V_dup dX7_tell_23 rfl ?_
    refine V_getI dX7_tell_24 fl_X7_279 oM_waiting ?_
    refine V_topi (y := nI n) (by rw [vup_ne (by omega)]; exact hn) ?_
    refine V_iconst 1 dX7_tell_27 (by decide) ?_
    refine V_iaddN (a := n) (b := 1) dX7_tell_28 ?_
    refine V_putI dX7_tell_29 fp_X7_279 oM_waiting ?_
    refine V_aloadn_0 dX7_tell_32 ?_
    refine V_getI dX7_tell_33 fl_X7_279 oM_waiting ?_
    refine V_topi (y := nI (n + 1)) vup_same ?_
    exact V_iret dX7_tell_36 ⟨rfl, rfl⟩
  · exfalso; omega

set_option maxRecDepth 100000 in
set_option maxHeartbeats 4000000 in
theorem m_tell_full {G : vG} {σ : vS} {d : Nat} {x : Int32} (hn : σ 97 34 = nI 60) : Cf G yX7_tell cX7_tell 2 (some .int) d [.ref 97, .int x] σ (some (.int (-1000000003))) σ := by
  refine Ct.ofV (by decide) (Nat.le_of_ble_eq_true rfl) rfl ?_
  show V G RX7 cX7_tell (some .int) 2 d _ 0 [some (.ref 97), some (.int x)] [] _
  refine V_aloadn_0 dX7_tell_0 ?_
  refine V_getI dX7_tell_1 fl_X7_279 oM_waiting ?_
  refine V_topi (y := 60) hn ?_
  refine V_bipush 60 dX7_tell_4 (by decide) ?_
  refine V_icmp_ne_f dX7_tell_6 12 (by decide) (by decide) ?_
  refine V_ldc (-1000000003) dX7_tell_9 cn_X7_87 ?_
  exact V_iret dX7_tell_11 ⟨rfl, rfl⟩

set_option maxRecDepth 100000 in
set_option maxHeartbeats 4000000 in
theorem op_tell {G : vG} {σ : vS} {d i : Nat} (hd : 100 ≤ d) (hi : i < 512) {x : Int32} (h : Inv i σ) : Op G yX6_tell cX6_tell 2 yX7_tell cX7_tell 2 d [.int x] i σ := by
  have hh := h
  obtain ⟨L, T, I, b, hT, hB, hM, hS, hO, hW, hR, hK⟩ := h
  have hC := hT.1
  have hE := hT.2.1
  have hI := hC.2.2.1
  have hn := hI.nc
  have hm := hI.np
  obtain ⟨n, n60, r1, r2, r3⟩ := id hW
  by_cases hx : n < 60
  · refine Op.mk (P := fun σ1 => σ1 = vup (vup σ 7 n x) 0 9 (nI (n + 1))) (c_tell r1 hx) (fun σ1 e1 => Ct.mono (fun r σ2 h2 => ⟨h2.1, ?_⟩) (m_tell (n := n) (by rw [e1, vup_ne (by omega), vup_ne (by omega)]; exact r2) hx))
    obtain ⟨-, rfl⟩ := h2
    subst e1
    have e7 : vup (vup (vup (vup σ 7 n x) 0 9 (nI (n + 1))) 120 n x) 97 34 (nI (n + 1)) 7 = vup σ 7 n x 7 := by rw [vup_p (by decide), vup_p (by decide), vup_p (by decide)]
    have e120 : ∀ j, vup (vup (vup (vup σ 7 n x) 0 9 (nI (n + 1))) 120 n x) 97 34 (nI (n + 1)) 120 j = if j = n then x else σ 120 j := fun j => by
      rw [vup_p (by decide)]
      by_cases e : j = n
      · rw [e, if_pos rfl, vup_same]
      · rw [if_neg e, vup_ne (by omega), vup_p (by decide), vup_p (by decide)]
    refine hh.of (fun q _ _ _ _ _ _ _ => by rw [vup_p (by assumption), vup_p (by assumption), vup_p (by assumption), vup_p (by assumption)]) (by rw [vup_ne (by omega), vup_ne (by omega), vup_ne (by omega), vup_ne (by omega)]) (by rw [vup_ne (by omega), vup_ne (by omega), vup_ne (by omega), vup_ne (by omega)]) ?_ (hR.fq (by rw [vup_ne (by omega), vup_ne (by omega), vup_ne (by omega), vup_ne (by omega)]) (by rw [vup_ne (by omega), vup_ne (by omega), vup_ne (by omega), vup_ne (by omega)]) (by rw [vup_p (by decide), vup_p (by decide), vup_p (by decide), vup_p (by decide)]) (by rw [vup_p (by decide), vup_p (by decide), vup_p (by decide), vup_p (by decide)]))
    refine ⟨n + 1, by omega, by rw [vup_ne (by omega), vup_ne (by omega), vup_same], vup_same, fun j hj => ?_⟩
    rw [e7, e120]
    by_cases e : j = n
    · rw [e, if_pos rfl, vup_same]
    · rw [if_neg e, vup_ne (by omega)]
      exact r3 j (by omega)
  · have e60 : n = 60 := by omega
    subst e60
    exact Op.ask hh (Cf.fi (c_tell_full r1)) (fun σ1 f1 => Cf.fi (m_tell_full (by rw [f1 97 34 (by unfold relP; omega)]; exact r2)))

theorem MA.mv {q q' : Nat} {T : nT} {σ σ' : vS} (h : MA q T σ) (hq : ∀ j, j < 107 → σ' q' j = σ q j) (hn : T 0 5 ≤ 8) (hm : T 0 10 ≤ 13) : MA q' T σ' := by
  obtain ⟨a1, a2, a3⟩ := h
  refine ⟨?_, fun c hc => ?_, fun p hp => ?_⟩
  · rw [hq 0 (by decide), hq 1 (by decide), hq 2 (by decide), hq 3 (by decide), hq 4 (by decide), hq 5 (by decide), hq 6 (by decide)]; exact a1
  · obtain ⟨g1, g2, g3, g4⟩ := a2 c hc
    rw [hq (7 + 6 * c + 0) (by omega), hq (7 + 6 * c + 1) (by omega), hq (7 + 6 * c + 2) (by omega)]
    exact ⟨g1, g2, g3, fun s hs => by rw [hq (7 + 6 * c + 3 + s) (by omega)]; exact g4 s hs⟩
  · rw [hq (55 + 4 * p + 0) (by omega), hq (55 + 4 * p + 1) (by omega), hq (55 + 4 * p + 2) (by omega), hq (55 + 4 * p + 3) (by omega)]
    exact a3 p hp
theorem ML.mv {q q' n : Nat} {L : nT} {σ σ' : vS} (h : ML q L n σ) (hn : n ≤ 14) (hL : LI L n) (hq : ∀ j, j < 1479 → σ' q' j = σ q j) : ML q' L n σ' := by
  intro j hj
  obtain ⟨g1, g2, g3⟩ := h j hj
  have h96 := (hL j hj).2.2.1
  exact ⟨by rw [hq _ (by omega)]; exact g1, by rw [hq _ (by omega)]; exact g2, fun i hi => by rw [hq _ (by omega)]; exact g3 i hi⟩
theorem TC.fewer {L I : nT} {N t : Nat} {σ : vS} (h : TC L N t I σ) : TC L (I 0 15) t I σ := by
  obtain ⟨h1, h2, h3, h4, h5, h6, h7⟩ := h
  exact ⟨h1, h2, h3, fun j hj => h4 j (by omega), fun j hj => h5 j (by omega), Nat.le_refl _, by omega⟩

set_option maxRecDepth 100000 in
set_option maxHeartbeats 4000000 in
theorem c_keep {G : vG} {σ : vS} {d : Nat} (hd : 2 ≤ d) {L T : nT} {N : Nat} (hC : TC L N 61 T σ) (hm12 : T 0 10 ≤ 12) : Cr G yX6_keep cX6_keep 1 (some .int) d [.ref 0] σ (some (.int (nI (T 0 5)))) (fun σ' => ∃ σ1, TC L N 73 T σ1 ∧ Fr 73 σ σ1 ∧ σ' = vup σ1 0 3 1) := by
  refine Ct.ofV (by decide) (Nat.le_of_ble_eq_true rfl) rfl ?_
  show V G RX6 cX6_keep (some .int) 1 d _ 0 [some (.ref 0)] [] _
  obtain ⟨d, rfl⟩ : ∃ e, d = e + 1 := ⟨d - 1, by omega⟩
  obtain ⟨ht, hH, hI, hL, hLI, hN, hN2⟩ := id hC
  have hT := hH.1
  have hn := hI.nc
  have hm := hI.np
  refine V_aloadn_0 dX6_keep_0 ?_
  refine V_getR dX6_keep_1 fl_X6_50 oC_image ?_
  refine V_aloadn_0 dX6_keep_4 ?_
  refine V_getR dX6_keep_5 fl_X6_46 oC_now ?_
  refine V_cv1n dX6_keep_8 cv_X6_316 (rcT tw73) (Nat.le_of_ble_eq_true rfl) (k_T_become (by omega) tw73 (by decide) hC hm12) (fun σ h5 => ?_)
  refine V_aloadn_0 dX6_keep_11 ?_
  refine V_iconst 1 dX6_keep_12 (by decide) ?_
  refine V_putZ dX6_keep_13 fp_X6_312 oC_imageKept (by decide) ?_
  refine V_aloadn_0 dX6_keep_16 ?_
  refine V_getR dX6_keep_17 fl_X6_46 oC_now ?_
  have hT5 := ((hC.other h5.2 tw73 (by decide)).2.1.1).n5
  refine V_getI dX6_keep_20 fl_X6_67 (oT_cellars tw61) ?_
  refine V_topi (y := nI (T 0 5)) (by rw [vup_ne (by omega)]; exact hT5) ?_
  exact V_iret dX6_keep_23 ⟨rfl, _, h5.1, h5.2, rfl⟩

set_option maxRecDepth 100000 in
set_option maxHeartbeats 4000000 in
theorem m_keep {G : vG} {σ : vS} {d : Nat} (hd : 1 ≤ d) {L T : nT} (hC : MC L T σ) : Cf G yX7_keep cX7_keep 1 (some .int) d [.ref 97] σ (some (.int (nI (T 0 5)))) (vup (vcp σ 98 99 0 0 1479) 97 3 1) := by
  refine Ct.ofV (by decide) (Nat.le_of_ble_eq_true rfl) rfl ?_
  show V G RX7 cX7_keep (some .int) 1 d _ 0 [some (.ref 97)] [] _
  obtain ⟨d, rfl⟩ : ∃ e, d = e + 1 := ⟨d - 1, by omega⟩
  have hI := hC.2.2.1
  have hn := hI.nc
  have hm := hI.np
  refine V_aloadn_0 dX7_keep_0 ?_
  refine V_getR dX7_keep_1 fl_X7_9 oM_now ?_
  refine V_aloadn_0 dX7_keep_4 ?_
  refine V_getR dX7_keep_5 fl_X7_13 oM_image ?_
  refine V_cs2v dX7_keep_8 cs_X7_286 (Nat.le_of_ble_eq_true rfl) k_M_cp_nowImage ?_
  refine V_aloadn_0 dX7_keep_11 ?_
  refine V_iconst 1 dX7_keep_12 (by decide) ?_
  refine V_putZ dX7_keep_13 fp_X7_282 oM_hasImage (by decide) ?_
  refine V_aloadn_0 dX7_keep_16 ?_
  refine V_getR dX7_keep_17 fl_X7_9 oM_now ?_
  refine V_iconst 1 dX7_keep_20 (by decide) ?_
  refine V_iald (j := 1) dX7_keep_21 aM_now (by decide) (by decide) ?_
  refine V_topi (y := nI (T 0 5)) (by rw [vup_ne (by omega), vcp_ne (by decide)]; exact hC.1.s1) ?_
  exact V_iret dX7_keep_22 ⟨rfl, rfl⟩

set_option maxRecDepth 100000 in
set_option maxHeartbeats 4000000 in
theorem op_keep {G : vG} {σ : vS} {d i : Nat} (hd : 100 ≤ d) (hi : i < 512) (h : Inv i σ) : Op G yX6_keep cX6_keep 1 yX7_keep cX7_keep 1 d [] i σ := by
  have hh := h
  obtain ⟨L, T, I, b, hT, hB, hM, hS, hO, hW, hR, hK⟩ := h
  have hC := hT.1
  have hE := hT.2.1
  have hI := hC.2.2.1
  have hn := hI.nc
  have hm := hI.np
  obtain ⟨-, -, hbd, hm12, h13⟩ := id hT
  refine Op.mk (c_keep (by omega) hC hm12) (fun σ1 h1 => ?_)
  obtain ⟨σa, k1, k2, rfl⟩ := h1
  have ea : ∀ q, ¬ (73 ≤ q ∧ q ≤ 84) → q ≠ 60 → σa q = σ q := fun q a b => k2 q (by omega) b
  have hE1 : MC L T (vup σa 0 3 1) := hE.e98 (by rw [vup_p (by decide), ea 98 (by omega) (by omega)])
  refine Ct.mono (fun r σ2 h2 => ⟨h2.1, ?_⟩) (m_keep (by omega) hE1)
  obtain ⟨-, rfl⟩ := h2
  have e : ∀ q, ¬ (73 ≤ q ∧ q ≤ 84) → q ≠ 60 → q ≠ 0 → q ≠ 97 → q ≠ 99 → vup (vcp (vup σa 0 3 1) 98 99 0 0 1479) 97 3 1 q = σ q := fun q a b c d f => by
    rw [vup_p d, vcp_p f, vup_p c, ea q a b]
  have e73 : ∀ q, (73 ≤ q ∧ q ≤ 84) ∨ (9 ≤ q ∧ q ≤ 36) → vup (vcp (vup σa 0 3 1) 98 99 0 0 1479) 97 3 1 q = σa q := fun q a => by
    rw [vup_p (by omega), vcp_p (by omega), vup_p (by omega)]
  have e99 : ∀ j, j < 1479 → vup (vcp (vup σa 0 3 1) 98 99 0 0 1479) 97 3 1 99 j = (vup σa 0 3 1) 98 j := fun j hj => by
    rw [vup_p (by decide), vcp0 hj]
  refine ⟨L, T, T, 1, (hT.fq (fun q a => e q (by omega) (by omega) (by omega) (by omega) (by omega))).up (by omega), ⟨by rw [vup_ne (by omega), vcp_ne (by decide), vup_same]; rfl, by rw [vup_same]; rfl, by decide⟩, fun _ => ?_,
    hS.fq (fun q a => e q (by omega) (by omega) (by omega) (by omega) (by omega)), hO.fq (fun q a => e q (by omega) (by omega) (by omega) (by omega) (by omega)),
    hW.fq ?_ ?_ (e 7 (by omega) (by omega) (by omega) (by omega) (by omega)) (e 120 (by omega) (by omega) (by omega) (by omega) (by omega)), hR.fq ?_ ?_ (e 4 (by omega) (by omega) (by omega) (by omega) (by omega)) (e 104 (by omega) (by omega) (by omega) (by omega) (by omega)),
    hK.fq (e 105 (by omega) (by omega) (by omega) (by omega) (by omega)) (e 106 (by omega) (by omega) (by omega) (by omega) (by omega))⟩
  · obtain ⟨g1, g2, g3, g4, g5, g6, g7⟩ := k1
    exact ⟨⟨g1, g2.congr (fun q a b => e73 q (by omega)), g3, g4.congr g7 (fun q a b => e73 q (by omega)), g5, g6, g7⟩, hE1.1.mv (fun j hj => e99 j (by omega)) hn hm, hE1.2.1.mv hI.tx hE.2.2.2.1 e99, hE.2.2.2.2, Nat.le_trans hbd (Nat.mul_le_mul_left _ (by omega)), hm12, h13⟩
  · rw [vup_ne (by omega), vcp_ne (by decide), vup_ne (by omega), ea 0 (by omega) (by omega)]
  · rw [vup_ne (by omega), vcp_ne (by decide), vup_ne (by omega), ea 97 (by omega) (by omega)]
  · rw [vup_ne (by omega), vcp_ne (by decide), vup_ne (by omega), ea 1 (by omega) (by omega)]
  · rw [vup_ne (by omega), vcp_ne (by decide), vup_ne (by omega), ea 97 (by omega) (by omega)]

set_option maxRecDepth 100000 in
set_option maxHeartbeats 4000000 in
theorem c_back {G : vG} {σ : vS} {d : Nat} (hd : 2 ≤ d) {L I : nT} {N : Nat} (hC : TC L N 73 I σ) (hm12 : I 0 10 ≤ 12) (h3 : σ 0 3 = nI 1) : Cr G yX6_back cX6_back 1 (some .int) d [.ref 0] σ (some (.int (nI (I 0 5)))) (fun σ' => TC L N 61 I σ' ∧ Fr 61 σ σ') := by
  refine Ct.ofV (by decide) (Nat.le_of_ble_eq_true rfl) rfl ?_
  show V G RX6 cX6_back (some .int) 1 d _ 0 [some (.ref 0)] [] _
  obtain ⟨d, rfl⟩ : ∃ e, d = e + 1 := ⟨d - 1, by omega⟩
  refine V_aloadn_0 dX6_back_0 ?_
  refine V_getI dX6_back_1 fl_X6_312 oC_imageKept ?_
  refine V_topi (y := 1) h3 ?_
  refine V_if_ne_t dX6_back_4 11 (by decide) (by decide) ?_
  refine V_aloadn_0 dX6_back_11 ?_
  refine V_getR dX6_back_12 fl_X6_46 oC_now ?_
  refine V_aloadn_0 dX6_back_15 ?_
  refine V_getR dX6_back_16 fl_X6_50 oC_image ?_
  refine V_cv1n dX6_back_19 cv_X6_316 (rcT tw61) (Nat.le_of_ble_eq_true rfl) (k_T_become (by omega) tw61 (by decide) hC hm12) (fun σ h5 => ?_)
  refine V_aloadn_0 dX6_back_22 ?_
  refine V_getR dX6_back_23 fl_X6_46 oC_now ?_
  refine V_getI dX6_back_26 fl_X6_67 (oT_cellars tw61) ?_
  refine V_topi (y := nI (I 0 5)) h5.1.2.1.1.n5 ?_
  exact V_iret dX6_back_29 ⟨rfl, h5⟩

set_option maxRecDepth 100000 in
set_option maxHeartbeats 4000000 in
theorem c_back_no {G : vG} {σ : vS} {d : Nat} (hd : 2 ≤ d) (h3 : σ 0 3 = nI 0) : Cf G yX6_back cX6_back 1 (some .int) d [.ref 0] σ (some (.int (-1000000002))) σ := by
  refine Ct.ofV (by decide) (Nat.le_of_ble_eq_true rfl) rfl ?_
  show V G RX6 cX6_back (some .int) 1 d _ 0 [some (.ref 0)] [] _
  obtain ⟨d, rfl⟩ : ∃ e, d = e + 1 := ⟨d - 1, by omega⟩
  refine V_aloadn_0 dX6_back_0 ?_
  refine V_getI dX6_back_1 fl_X6_312 oC_imageKept ?_
  refine V_topi (y := 0) h3 ?_
  refine V_if_ne_f dX6_back_4 11 (by decide) (by decide) ?_
  refine V_ldcw (-1000000002) dX6_back_7 cn_X6_308 ?_
  exact V_iret dX6_back_10 ⟨rfl, rfl⟩

set_option maxRecDepth 100000 in
set_option maxHeartbeats 4000000 in
theorem m_back {G : vG} {σ : vS} {d : Nat} (hd : 1 ≤ d) {I : nT} (h3 : σ 97 3 = nI 1) (h5 : σ 99 1 = nI (I 0 5)) : Cf G yX7_back cX7_back 1 (some .int) d [.ref 97] σ (some (.int (nI (I 0 5)))) (vcp σ 99 98 0 0 1479) := by
  refine Ct.ofV (by decide) (Nat.le_of_ble_eq_true rfl) rfl ?_
  show V G RX7 cX7_back (some .int) 1 d _ 0 [some (.ref 97)] [] _
  obtain ⟨d, rfl⟩ : ∃ e, d = e + 1 := ⟨d - 1, by omega⟩
  refine V_aloadn_0 dX7_back_0 ?_
  refine V_getI dX7_back_1 fl_X7_282 oM_hasImage ?_
  refine V_topi (y := 1) h3 ?_
  refine V_if_ne_t dX7_back_4 11 (by decide) (by decide) ?_
  refine V_aloadn_0 dX7_back_11 ?_
  refine V_getR dX7_back_12 fl_X7_13 oM_image ?_
  refine V_aloadn_0 dX7_back_15 ?_
  refine V_getR dX7_back_16 fl_X7_9 oM_now ?_
  refine V_cs2v dX7_back_19 cs_X7_286 (Nat.le_of_ble_eq_true rfl) k_M_cp_imageNow ?_
  refine V_aloadn_0 dX7_back_22 ?_
  refine V_getR dX7_back_23 fl_X7_9 oM_now ?_
  refine V_iconst 1 dX7_back_26 (by decide) ?_
  refine V_iald (j := 1) dX7_back_27 aM_now (by decide) (by decide) ?_
  refine V_topi (y := nI (I 0 5)) (by rw [vcp0 (by decide)]; exact h5) ?_
  exact V_iret dX7_back_28 ⟨rfl, rfl⟩

set_option maxRecDepth 100000 in
set_option maxHeartbeats 4000000 in
theorem m_back_no {G : vG} {σ : vS} {d : Nat} (hd : 1 ≤ d) (h3 : σ 97 3 = nI 0) : Cf G yX7_back cX7_back 1 (some .int) d [.ref 97] σ (some (.int (-1000000002))) σ := by
  refine Ct.ofV (by decide) (Nat.le_of_ble_eq_true rfl) rfl ?_
  show V G RX7 cX7_back (some .int) 1 d _ 0 [some (.ref 97)] [] _
  obtain ⟨d, rfl⟩ : ∃ e, d = e + 1 := ⟨d - 1, by omega⟩
  refine V_aloadn_0 dX7_back_0 ?_
  refine V_getI dX7_back_1 fl_X7_282 oM_hasImage ?_
  refine V_topi (y := 0) h3 ?_
  refine V_if_ne_f dX7_back_4 11 (by decide) (by decide) ?_
  refine V_ldcw (-1000000002) dX7_back_7 cn_X7_278 ?_
  exact V_iret dX7_back_10 ⟨rfl, rfl⟩

set_option maxRecDepth 100000 in
set_option maxHeartbeats 4000000 in
theorem op_back {G : vG} {σ : vS} {d i : Nat} (hd : 100 ≤ d) (hi : i < 512) (h : Inv i σ) : Op G yX6_back cX6_back 1 yX7_back cX7_back 1 d [] i σ := by
  have hh := h
  obtain ⟨L, T, I, b, hT, hB, hM, hS, hO, hW, hR, hK⟩ := h
  have hC := hT.1
  have hE := hT.2.1
  have hI := hC.2.2.1
  have hn := hI.nc
  have hm := hI.np
  rcases (show b = 0 ∨ b = 1 by have := hB.2.2; omega) with rfl | rfl
  · exact Op.ask hh (Cf.fi (c_back_no (by omega) hB.1)) (fun σ1 f1 => Cf.fi (m_back_no (by omega) (by rw [f1 97 3 (by unfold relP; omega)]; exact hB.2.1)))
  · obtain ⟨j1, j2, j3, j4, j5, j6, j7⟩ := hM rfl
    have hI2 := j1.2.2.1
    refine Op.mk (c_back (by omega) j1 j6 hB.1) (fun σ1 h1 => ?_)
    have ea : ∀ q, ¬ (61 ≤ q ∧ q ≤ 72) → q ≠ 60 → σ1 q = σ q := fun q a b => h1.2 q (by omega) b
    refine Ct.mono (fun r σ2 h2 => ⟨h2.1, ?_⟩) (m_back (I := I) (by omega) (by rw [ea 97 (by omega) (by omega)]; exact hB.2.1) (by rw [ea 99 (by omega) (by omega)]; exact j2.s1))
    obtain ⟨-, rfl⟩ := h2
    have e : ∀ q, ¬ (61 ≤ q ∧ q ≤ 72) → q ≠ 60 → q ≠ 98 → vcp σ1 99 98 0 0 1479 q = σ q := fun q a b c => by rw [vcp_p c, ea q a b]
    have e98 : ∀ j, j < 1479 → vcp σ1 99 98 0 0 1479 98 j = σ 99 j := fun j hj => by rw [vcp0 hj, ea 99 (by omega) (by omega)]
    have hbd : bud I ≤ 7992 * (i + 1) := Nat.le_trans j5 (Nat.mul_le_mul_left _ (by omega))
    obtain ⟨g1, g2, g3, g4, g5, g6, g7⟩ := h1.1
    have hTC : TC L (T 0 15) 61 I (vcp σ1 99 98 0 0 1479) := ⟨g1, g2.congr (fun q a b => vcp_p (by omega)), g3, g4.congr g7 (fun q a b => vcp_p (by omega)), g5, g6, g7⟩
    obtain ⟨f1, f2, f3, f4, f5, f6, f7⟩ := j1
    have hTC2 : TC L (T 0 15) 73 I (vcp σ1 99 98 0 0 1479) := ⟨f1, f2.congr (fun q a b => e q (by omega) (by omega) (by omega)), f3, f4.congr f7 (fun q a b => e q (by omega) (by omega) (by omega)), f5, f6, f7⟩
    have hLI : LI L (I 0 15) := fun j hj => f5 j (by omega)
    refine ⟨L, I, I, 1, ⟨hTC.fewer, ⟨j2.mv (fun j hj => e98 j (by omega)) hI2.nc hI2.np, j3.mv (by omega) hLI e98, hI2, hLI, j4⟩, hbd, j6, j7⟩, hB.fq (by rw [e 0 (by omega) (by omega) (by omega)]) (by rw [e 97 (by omega) (by omega) (by omega)]),
      fun _ => ⟨hTC2.fewer, j2.mv (fun j hj => by rw [e 99 (by omega) (by omega) (by omega)]) hI2.nc hI2.np, j3.mv (by omega) hLI (fun j hj => by rw [e 99 (by omega) (by omega) (by omega)]), j4, hbd, j6, j7⟩,
      hS.fq (fun q a => e q (by omega) (by omega) (by omega)), hO.fq (fun q a => e q (by omega) (by omega) (by omega)), hW.fq (by rw [e 0 (by omega) (by omega) (by omega)]) (by rw [e 97 (by omega) (by omega) (by omega)]) (e 7 (by omega) (by omega) (by omega)) (e 120 (by omega) (by omega) (by omega)),
      hR.fq (by rw [e 1 (by omega) (by omega) (by omega)]) (by rw [e 97 (by omega) (by omega) (by omega)]) (e 4 (by omega) (by omega) (by omega)) (e 104 (by omega) (by omega) (by omega)), hK.fq (e 105 (by omega) (by omega) (by omega)) (e 106 (by omega) (by omega) (by omega))⟩
