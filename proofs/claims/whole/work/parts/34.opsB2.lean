def dealsT : Nat → nT → nT
  | 0, T => T
  | k + 1, T => dealT (dealsT k T)
theorem deal_k {T : nT} {i : Nat} (h5 : i ≠ 5) (h14 : i ≠ 14) : dealT T 0 i = T 0 i := by
  unfold dealT
  rw [Tup_ne (by omega), Tup_ne (by omega), addC_0 h5, Tup_ne (by omega)]
theorem deal_5 {T : nT} : dealT T 0 5 = T 0 5 + 1 := by
  unfold dealT
  rw [Tup_ne (by omega), Tup_ne (by omega), addC_5, Tup_ne (by omega)]
theorem deal_bud {T : nT} : bud (dealT T) ≤ bud T + 299 := by
  have e1 : ∀ (U : nT) (x : Nat), bud (Tup U 0 14 x) = bud U := fun U x => by
    unfold bud
    rw [Tup_ne (by omega), Tup_ne (by omega), sum_eq _ (fun c _ => z_full x)]
  unfold dealT
  refine Nat.le_trans bud_wine ?_
  rw [e1, addC_bud, e1]
  exact Nat.add_le_add_left (Nat.le_of_lt_succ (Nat.mod_lt _ (show 0 < 300 by decide))) _
theorem deals_5 {T : nT} : ∀ k, dealsT k T 0 5 = T 0 5 + k := by
  intro k
  induction k with
  | zero => rfl
  | succ k ih => show dealT (dealsT k T) 0 5 = _; rw [deal_5, ih]; omega
theorem deals_k {T : nT} {i : Nat} (h5 : i ≠ 5) (h14 : i ≠ 14) : ∀ k, dealsT k T 0 i = T 0 i := by
  intro k
  induction k with
  | zero => rfl
  | succ k ih => show dealT (dealsT k T) 0 i = _; rw [deal_k h5 h14, ih]
theorem deals_bud {T : nT} : ∀ k, bud (dealsT k T) ≤ bud T + 299 * k := by
  intro k
  induction k with
  | zero => exact Nat.le_refl _
  | succ k ih =>
    exact Nat.le_trans (deal_bud (T := dealsT k T)) (by rw [Nat.mul_succ, ← Nat.add_assoc]; exact Nat.add_le_add_right ih 299)

set_option maxRecDepth 100000 in
set_option maxHeartbeats 4000000 in
theorem lp_c_deal {G : vG} {d : Nat} {σ0 : vS} {L T : nT} {N n : Nat} (hd : 6 ≤ d + 1) (hn8 : n ≤ 8) (h8 : T 0 5 + n ≤ 8) (hbd : bud T + 2700 < 2 ^ 30) {l1 : Option Value} : ∀ (k : Nat) (j : Nat) (σ : vS), (TC L N 61 (dealsT j T) σ ∧ Fr 61 σ0 σ ∧ j ≤ n) → n - j < k → V G RX6 cX6_deal (some .int) 4 (d + 1) (fun r' σ' => r' = some (.int (nI n)) ∧ (TC L N 61 (dealsT n T) σ' ∧ Fr 61 σ0 σ')) 30 [some (.ref 0), l1, some (.int (nI n)), some (.int (nI j))] [] σ := by
  intro k
  induction k with
  | zero => intros; omega
  | succ k ih =>
    intro j σ hh hk
    obtain ⟨hC, hF, hj⟩ := hh
    have e5 := deals_5 (T := T) j
    have eb := deals_bud (T := T) j
    refine V_iloadn_3 dX6_deal_30 ?_
    refine V_iloadn_2 dX6_deal_31 ?_
    refine V_icmpN_ge (a := j) (b := n) dX6_deal_32 48 (by decide) (by omega) (by omega) (fun h32 => ?_) (fun h32 => ?_)
    · refine V_iloadn_2 dX6_deal_48 ?_
      exact V_iret dX6_deal_49 ⟨rfl, by rw [show n = j by omega]; exact hC, hF⟩
    · refine V_aloadn_0 dX6_deal_35 ?_
      refine V_getR dX6_deal_36 fl_X6_46 oC_now ?_
      refine V_cv0n dX6_deal_39 cv_X6_158 (rcT tw61) (Nat.le_of_ble_eq_true rfl) (k_T_drawCellar (by omega) hC (by omega) (by omega)) (fun σ h9 => ?_)
      refine V_iinc_3 dX6_deal_42 (by first | exact rfl | exact True.intro) (by decide) (nI (j + 1)) (nI_inc _) ?_
      refine V_goto dX6_deal_45 30 (by decide) ?_
      exact ih (j + 1) _ ⟨h9.1, hF.tr h9.2, by omega⟩ (by omega)

set_option maxRecDepth 100000 in
set_option maxHeartbeats 4000000 in
theorem c_deal {G : vG} {σ : vS} {d : Nat} (hd : 6 ≤ d) {L T : nT} {N : Nat} (hC : TC L N 61 T σ) {n : Nat} (hn1 : 1 ≤ n) (hn8 : n ≤ 8) (hbd : bud T + 2700 < 2 ^ 30) : Cr G yX6_deal cX6_deal 4 (some .int) d [.ref 0, .int (nI n)] σ (some (.int (nI (min n (8 - T 0 5))))) (fun σ' => TC L N 61 (dealsT (min n (8 - T 0 5)) T) σ' ∧ Fr 61 σ σ') := by
  refine Ct.ofV (by decide) (Nat.le_of_ble_eq_true rfl) rfl ?_
  show V G RX6 cX6_deal (some .int) 4 d _ 0 [some (.ref 0), some (.int (nI n)), none, none] [] _
  obtain ⟨d, rfl⟩ : ∃ e, d = e + 1 := ⟨d - 1, by omega⟩
  obtain ⟨ht, hH, hI, hL, hLI, hN, hN2⟩ := id hC
  have hT := hH.1
  have hn := hI.nc
  have hm := hI.np
  refine V_iloadn_1 dX6_deal_0 ?_
  refine V_iconst 1 dX6_deal_1 (by decide) ?_
  refine V_bipush 8 dX6_deal_2 (by decide) ?_
  refine V_cs3f dX6_deal_4 cs_X6_108 (Nat.le_of_ble_eq_true rfl) k_C_within ?_
  refine V_ifB_ne dX6_deal_7 13 (by decide) (fun h7 => ?_) (fun h7 => ?_)
  · refine V_iloadn_1 dX6_deal_13 ?_
    refine V_bipush 8 dX6_deal_14 (by decide) ?_
    refine V_aloadn_0 dX6_deal_16 ?_
    refine V_getR dX6_deal_17 fl_X6_46 oC_now ?_
    refine V_getI dX6_deal_20 fl_X6_67 (oT_cellars tw61) ?_
    refine V_topi hT.n5 ?_
    refine V_isubN (a := 8) (b := T 0 5) dX6_deal_23 (by omega) ?_
    refine V_mminN (a := n) (b := 8 - (T 0 5)) dX6_deal_24 ml_X6_153 (Nat.le_of_ble_eq_true rfl) (by omega) (by omega) ?_
    refine V_istoren_2 dX6_deal_27 (by first | exact rfl | exact True.intro) (by decide) ?_
    refine V_iconst 0 dX6_deal_28 (by decide) ?_
    refine V_istoren_3 dX6_deal_29 (by first | exact rfl | exact True.intro) (by decide) ?_
    exact lp_c_deal (by omega) (by omega) (by omega) hbd (min n (8 - T 0 5) + 1) 0 σ ⟨hC, Fr.rf, by omega⟩ (by omega)
  · exact absurd (inN (a := 1) (b := 8) hn1 hn8 (by decide)) h7

set_option maxRecDepth 100000 in
set_option maxHeartbeats 4000000 in
theorem c_deal_bad {G : vG} {σ : vS} {d : Nat} (hd : 6 ≤ d) {L T : nT} {N : Nat} (hC : TC L N 61 T σ) {x : Int32} (hb : ¬ (inI x 1 8)) : Cf G yX6_deal cX6_deal 4 (some .int) d [.ref 0, .int x] σ (some (.int (-1000000001))) σ := by
  refine Ct.ofV (by decide) (Nat.le_of_ble_eq_true rfl) rfl ?_
  show V G RX6 cX6_deal (some .int) 4 d _ 0 [some (.ref 0), some (.int x), none, none] [] _
  obtain ⟨d, rfl⟩ : ∃ e, d = e + 1 := ⟨d - 1, by omega⟩
  obtain ⟨ht, hH, hI, hL, hLI, hN, hN2⟩ := id hC
  have hT := hH.1
  have hn := hI.nc
  have hm := hI.np
  refine V_iloadn_1 dX6_deal_0 ?_
  refine V_iconst 1 dX6_deal_1 (by decide) ?_
  refine V_bipush 8 dX6_deal_2 (by decide) ?_
  refine V_cs3f dX6_deal_4 cs_X6_108 (Nat.le_of_ble_eq_true rfl) k_C_within ?_
  refine V_ifB_ne dX6_deal_7 13 (by decide) (fun h7 => ?_) (fun h7 => ?_)
  · exact absurd h7 hb
  · refine V_ldc (-1000000001) dX6_deal_10 cn_X6_66 ?_
    exact V_iret dX6_deal_12 ⟨rfl, rfl⟩

set_option maxRecDepth 100000 in
set_option maxHeartbeats 4000000 in
theorem lp_m_deal {G : vG} {d : Nat} {σ0 : vS} {L T : nT} {n : Nat} (hd : 1 ≤ d + 1) (hn8 : n ≤ 8) (hnc : T 0 5 ≤ 8) (hbd : bud T + 2700 < 2 ^ 30) : ∀ (k : Nat) (j : Nat) (σ : vS), (MC L (dealsT j T) σ ∧ Fm σ0 σ ∧ j ≤ min n (8 - T 0 5)) → min n (8 - T 0 5) - j < k → V G RX7 cX7_deal (some .int) 6 (d + 1) (fun r' σ' => r' = some (.int (nI (min n (8 - T 0 5)))) ∧ (MC L (dealsT (min n (8 - T 0 5)) T) σ' ∧ Fm σ0 σ')) 15 [some (.ref 97), some (.int (nI n)), some (.int (nI j)), none, none, none] [] σ := by
  intro k
  induction k with
  | zero => intros; omega
  | succ k ih =>
    intro j σ hh hk
    obtain ⟨hC, hF, hj⟩ := hh
    have e5 := deals_5 (T := T) j
    have eb := deals_bud (T := T) j
    obtain ⟨U, hU⟩ : ∃ U, U = dealsT j T := ⟨_, rfl⟩
    rw [← hU] at hC e5 eb
    have hI := hC.2.2.1
    have z1 := zN_lt (U 0 14)
    have z2 := zN_lt (zN (U 0 14))
    have z3 := zN_lt (zN (zN (U 0 14)))
    have z4 := zN_lt (zN (zN (zN (U 0 14))))
    refine V_iloadn_2 dX7_deal_15 ?_
    refine V_iloadn_1 dX7_deal_16 ?_
    refine V_icmpN_ge (a := j) (b := n) dX7_deal_17 100 (by decide) (by omega) (by omega) (fun h17 => ?_) (fun h17 => ?_)
    · refine V_iloadn_2 dX7_deal_100 ?_
      exact V_iret dX7_deal_101 ⟨rN (by omega), by rw [show min n (8 - T 0 5) = j by omega, ← hU]; exact hC, hF⟩
    · refine V_aloadn_0 dX7_deal_20 ?_
      refine V_getR dX7_deal_21 fl_X7_9 oM_now ?_
      refine V_iconst 1 dX7_deal_24 (by decide) ?_
      refine V_iald (j := 1) dX7_deal_25 aM_now (by decide) (by decide) ?_
      refine V_topi hC.1.s1 ?_
      refine V_bipush 8 dX7_deal_26 (by decide) ?_
      refine V_icmpN_ge (a := U 0 5) (b := 8) dX7_deal_28 100 (by decide) (by omega) (by omega) (fun h28 => ?_) (fun h28 => ?_)
      · refine V_iloadn_2 dX7_deal_100 ?_
        exact V_iret dX7_deal_101 ⟨rN (by omega), by rw [show min n (8 - T 0 5) = j by omega, ← hU]; exact hC, hF⟩
      · refine V_aloadn_0 dX7_deal_31 ?_
        refine V_cv0f dX7_deal_32 cv_X7_153 rcM (Nat.le_of_ble_eq_true rfl) (k_M_draw hC.1.s0) ?_
        have hC1 := hC.sc (k := 0) (i := 14) (x := zN (U 0 14)) (by omega) (hI.zz (zN_lt _))
        refine V_bipush 6 dX7_deal_35 (by decide) ?_
        refine V_iremN (a := zN (U 0 14) / 2 ^ 8) (b := 6) dX7_deal_37 (by omega) (by omega) (by omega) ?_
        refine V_istoren_3 dX7_deal_38 (by first | exact rfl | exact True.intro) (by decide) ?_
        refine V_aloadn_0 dX7_deal_39 ?_
        refine V_cv0f dX7_deal_40 cv_X7_153 rcM (Nat.le_of_ble_eq_true rfl) (k_M_draw hC1.1.s0) ?_
        have hC2 := hC1.sc (k := 0) (i := 14) (x := zN (zN (U 0 14))) (by omega) (hC1.2.2.1.zz (zN_lt _))
        rw [Tup_Tup] at hC2
        refine V_hp (σ' := vup (vup σ 98 0 (nI (zN (U 0 14)))) 98 0 (nI (zN (zN (U 0 14))))) (by rw [Tup_same]) ?_
        refine V_topi (y := nI (zN (zN (U 0 14)) / 2 ^ 8)) (by rw [Tup_same]) ?_
        refine V_bipush 60 dX7_deal_43 (by decide) ?_
        refine V_iremN (a := zN (zN (U 0 14)) / 2 ^ 8) (b := 60) dX7_deal_45 (by omega) (by omega) (by omega) ?_
        refine V_istore_4 dX7_deal_46 (by first | exact rfl | exact True.intro) (by decide) ?_
        refine V_aloadn_0 dX7_deal_48 ?_
        refine V_iloadn_3 dX7_deal_49 ?_
        refine V_iload_4 dX7_deal_50 ?_
        refine V_iconst 1 dX7_deal_52 (by decide) ?_
        refine V_aloadn_0 dX7_deal_53 ?_
        refine V_cv0f dX7_deal_54 cv_X7_153 rcM (Nat.le_of_ble_eq_true rfl) (k_M_draw hC2.1.s0) ?_
        have hC3 := hC2.sc (k := 0) (i := 14) (x := zN (zN (zN (U 0 14)))) (by omega) (hC2.2.2.1.zz (zN_lt _))
        rw [Tup_Tup] at hC3
        refine V_hp (σ' := vup (vup (vup σ 98 0 (nI (zN (U 0 14)))) 98 0 (nI (zN (zN (U 0 14))))) 98 0 (nI (zN (zN (zN (U 0 14)))))) (by rw [Tup_same]) ?_
        refine V_topi (y := nI (zN (zN (zN (U 0 14))) / 2 ^ 8)) (by rw [Tup_same]) ?_
        refine V_bipush 60 dX7_deal_57 (by decide) ?_
        refine V_iremN (a := zN (zN (zN (U 0 14))) / 2 ^ 8) (b := 60) dX7_deal_59 (by omega) (by omega) (by omega) ?_
        refine V_iaddN (a := 1) (b := (zN (zN (zN (U 0 14))) / 2 ^ 8) % 60) dX7_deal_60 ?_
        refine V_cv3r dX7_deal_61 cv_X7_88 rcM (Nat.le_of_ble_eq_true rfl) (k_M_comes hC3 (by rw [Tup_ne (by omega)]; omega) (by omega) (by omega) (by omega)) (fun σ4 h4 => ?_)
        refine V_topi (y := nI (U 0 5)) (by rw [Tup_ne (by omega)]) ?_
        refine V_istore_5 dX7_deal_64 (by first | exact rfl | exact True.intro) (by decide) ?_
        refine V_aloadn_0 dX7_deal_66 ?_
        refine V_getR dX7_deal_67 fl_X7_9 oM_now ?_
        refine V_bipush 7 dX7_deal_70 (by decide) ?_
        refine V_bipush 6 dX7_deal_72 (by decide) ?_
        refine V_iload_5 dX7_deal_74 ?_
        refine V_imulN (a := 6) (b := U 0 5) dX7_deal_76 ?_
        refine V_iaddN (a := 7) (b := 6 * (U 0 5)) dX7_deal_77 ?_
        refine V_iconst 3 dX7_deal_78 (by decide) ?_
        refine V_iaddN (a := 7 + (6 * (U 0 5))) (b := 3) dX7_deal_79 ?_
        refine V_iload_5 dX7_deal_80 ?_
        refine V_iconst 3 dX7_deal_82 (by decide) ?_
        refine V_iremN (a := U 0 5) (b := 3) dX7_deal_83 (by omega) (by omega) (by omega) ?_
        refine V_iaddN (a := (7 + (6 * (U 0 5))) + 3) (b := (U 0 5) % 3) dX7_deal_84 ?_
        refine V_aloadn_0 dX7_deal_85 ?_
        refine V_cv0f dX7_deal_86 cv_X7_153 rcM (Nat.le_of_ble_eq_true rfl) (k_M_draw h4.1.1.s0) ?_
        have hC5 := h4.1.sc (k := 0) (i := 14) (x := zN (zN (zN (zN (U 0 14))))) (by omega) (h4.1.2.2.1.zz (zN_lt _))
        refine V_hp (σ' := vup σ4 98 0 (nI (zN (zN (zN (zN (U 0 14))))))) (by rw [addC_0 (by decide), Tup_same]) ?_
        refine V_topi (y := nI (zN (zN (zN (zN (U 0 14)))) / 2 ^ 8)) (by rw [addC_0 (by decide), Tup_same]) ?_
        refine V_sipush 300 dX7_deal_89 (by decide) ?_
        refine V_iremN (a := zN (zN (zN (zN (U 0 14)))) / 2 ^ 8) (b := 300) dX7_deal_92 (by omega) (by omega) (by omega) ?_
        refine V_iast (j := ((7 + (6 * (U 0 5))) + 3) + ((U 0 5) % 3)) dX7_deal_93 aM_now (by omega) (by decide) ?_
        have hb5 : bud (Tup (addCT (Tup U 0 14 (zN (zN (zN (U 0 14))))) (zN (U 0 14) / 2 ^ 8 % 6) (zN (zN (U 0 14)) / 2 ^ 8 % 60) (1 + zN (zN (zN (U 0 14))) / 2 ^ 8 % 60)) 0 14 (zN (zN (zN (zN (U 0 14)))))) = bud U := by
          have e1 : ∀ (U : nT) (x : Nat), bud (Tup U 0 14 x) = bud U := fun U x => by
            unfold bud
            rw [Tup_ne (by omega), Tup_ne (by omega), sum_eq _ (fun c _ => z_full x)]
          rw [e1, addC_bud, e1]
        have hI6 : TI (dealT U) := hC5.2.2.1.wine (by rw [hb5]; omega)
        have q5 : (Tup (addCT (Tup U 0 14 (zN (zN (zN (U 0 14))))) (zN (U 0 14) / 2 ^ 8 % 6) (zN (zN (U 0 14)) / 2 ^ 8 % 60) (1 + zN (zN (zN (U 0 14))) / 2 ^ 8 % 60)) 0 14 (zN (zN (zN (zN (U 0 14)))))) 0 5 = U 0 5 + 1 := by rw [Tup_ne (by omega), addC_5, Tup_ne (by omega)]
        have hA6 := hC5.1.win (c := U 0 5) (s := U 0 5 % 3) (x := zN (zN (zN (zN (U 0 14)))) / 2 ^ 8 % 300) (by rw [q5]; omega) hC5.2.2.1.np (by rw [q5]; omega) (by omega)
        have hC6 : MC L (dealT U) _ := hC5.next (Fm.up (j := 7 + 6 * U 0 5 + 3 + U 0 5 % 3) (by omega)) hA6 hI6 (Tup_ne (by omega)) (fun _ => Tup_ne (by omega))
        refine V_iinc_2 dX7_deal_94 (by first | exact rfl | exact True.intro) (by decide) (nI (j + 1)) (nI_inc _) ?_
        refine V_goto dX7_deal_97 15 (by decide) ?_
        refine V_fg_3 ?_
        refine V_fg_4 ?_
        refine V_fg_5 ?_
        refine ih (j + 1) _ ⟨?_, ((((hF.tr (Fm.up (by decide))).tr (Fm.up (by decide))).tr (Fm.up (by decide))).tr h4.2).tr ((Fm.up (by decide)).tr (Fm.up (by omega))), by omega⟩ (by omega)
        show MC L (dealT (dealsT j T)) _
        rw [← hU]
        exact hC6

set_option maxRecDepth 100000 in
set_option maxHeartbeats 4000000 in
theorem m_deal {G : vG} {σ : vS} {d : Nat} (hd : 1 ≤ d) {L T : nT} (hC : MC L T σ) {n : Nat} (hn1 : 1 ≤ n) (hn8 : n ≤ 8) (hbd : bud T + 2700 < 2 ^ 30) : Cr G yX7_deal cX7_deal 6 (some .int) d [.ref 97, .int (nI n)] σ (some (.int (nI (min n (8 - T 0 5))))) (fun σ' => MC L (dealsT (min n (8 - T 0 5)) T) σ' ∧ Fm σ σ') := by
  refine Ct.ofV (by decide) (Nat.le_of_ble_eq_true rfl) rfl ?_
  show V G RX7 cX7_deal (some .int) 6 d _ 0 [some (.ref 97), some (.int (nI n)), none, none, none, none] [] _
  obtain ⟨d, rfl⟩ : ∃ e, d = e + 1 := ⟨d - 1, by omega⟩
  have hI := hC.2.2.1
  have hn := hI.nc
  have hm := hI.np
  refine V_iloadn_1 dX7_deal_0 ?_
  refine V_iconst 1 dX7_deal_1 (by decide) ?_
  refine V_bipush 8 dX7_deal_2 (by decide) ?_
  refine V_cs3f dX7_deal_4 cs_X7_82 (Nat.le_of_ble_eq_true rfl) k_M_in ?_
  refine V_ifB_ne dX7_deal_7 13 (by decide) (fun h7 => ?_) (fun h7 => ?_)
  · refine V_iconst 0 dX7_deal_13 (by decide) ?_
    refine V_istoren_2 dX7_deal_14 (by first | exact rfl | exact True.intro) (by decide) ?_
    exact lp_m_deal (by omega) hn8 hn hbd (min n (8 - T 0 5) + 1) 0 σ ⟨hC, Fm.rf, by omega⟩ (by omega)
  · exact absurd (inN (a := 1) (b := 8) hn1 hn8 (by decide)) h7

set_option maxRecDepth 100000 in
set_option maxHeartbeats 4000000 in
theorem m_deal_bad {G : vG} {σ : vS} {d : Nat} (hd : 1 ≤ d) {L T : nT} (hC : MC L T σ) {x : Int32} (hb : ¬ (inI x 1 8)) : Cf G yX7_deal cX7_deal 6 (some .int) d [.ref 97, .int x] σ (some (.int (-1000000001))) σ := by
  refine Ct.ofV (by decide) (Nat.le_of_ble_eq_true rfl) rfl ?_
  show V G RX7 cX7_deal (some .int) 6 d _ 0 [some (.ref 97), some (.int x), none, none, none, none] [] _
  obtain ⟨d, rfl⟩ : ∃ e, d = e + 1 := ⟨d - 1, by omega⟩
  have hI := hC.2.2.1
  have hn := hI.nc
  have hm := hI.np
  refine V_iloadn_1 dX7_deal_0 ?_
  refine V_iconst 1 dX7_deal_1 (by decide) ?_
  refine V_bipush 8 dX7_deal_2 (by decide) ?_
  refine V_cs3f dX7_deal_4 cs_X7_82 (Nat.le_of_ble_eq_true rfl) k_M_in ?_
  refine V_ifB_ne dX7_deal_7 13 (by decide) (fun h7 => ?_) (fun h7 => ?_)
  · exact absurd h7 hb
  · refine V_ldc (-1000000001) dX7_deal_10 cn_X7_86 ?_
    exact V_iret dX7_deal_12 ⟨rfl, rfl⟩

set_option maxRecDepth 100000 in
set_option maxHeartbeats 4000000 in
theorem op_deal {G : vG} {σ : vS} {d i : Nat} (hd : 100 ≤ d) (hi : i < 512) {x : Int32} (h : Inv i σ) : Op G yX6_deal cX6_deal 4 yX7_deal cX7_deal 6 d [.int x] i σ := by
  have hh := h
  obtain ⟨L, T, I, b, hT, hB, hM, hS, hO, hW, hR, hK⟩ := h
  have hC := hT.1
  have hE := hT.2.1
  have hI := hC.2.2.1
  have hn := hI.nc
  have hm := hI.np
  have hbd : bud T ≤ 7992 * i := hT.2.2.1
  by_cases hx : inI x 1 8
  · obtain ⟨n, hn1, hn2, rfl⟩ := (inI_iff' (a := 1) (b := 8) (by decide) (by decide)).mp hx
    have st := deals_bud (T := T) (min n (8 - T 0 5))
    exact Op.town (T' := dealsT (min n (8 - T 0 5)) T) hT hB hM hS hO hW hR hK (by omega) (by rw [deals_k (by decide) (by decide)]; exact hT.2.2.2.1) (by rw [deals_k (by decide) (by decide)]; exact hT.2.2.2.2) (deals_k (by decide) (by decide) _) (c_deal (by omega) hC hn1 hn2 (by omega)) (fun σ1 f1 => m_deal (by omega) f1 hn1 hn2 (by omega))
  · exact Op.ask hh (Cf.fi (c_deal_bad (by omega) hC hx)) (fun σ1 f1 => Cf.fi (m_deal_bad (by omega) (hE.fi f1) hx))
