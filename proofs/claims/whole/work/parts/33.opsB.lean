set_option maxRecDepth 100000 in
set_option maxHeartbeats 4000000 in
theorem c_cellar {G : vG} {σ : vS} {d : Nat} (hd : 5 ≤ d) {L T : nT} {N : Nat} (hC : TC L N 61 T σ) {k f l : Nat} (hk : k ≤ 5) (hf : f ≤ 99) (hl : 1 ≤ l ∧ l ≤ 99) (hn8 : T 0 5 < 8) : Cr G yX6_cellar cX6_cellar 4 (some .int) d [.ref 0, .int (nI k), .int (nI f), .int (nI l)] σ (some (.int (nI (T 0 5)))) (fun σ' => TC L N 61 (addCT T k f l) σ' ∧ Fr 61 σ σ') := by
  refine Ct.ofV (by decide) (Nat.le_of_ble_eq_true rfl) rfl ?_
  show V G RX6 cX6_cellar (some .int) 4 d _ 0 [some (.ref 0), some (.int (nI k)), some (.int (nI f)), some (.int (nI l))] [] _
  obtain ⟨d, rfl⟩ : ∃ e, d = e + 1 := ⟨d - 1, by omega⟩
  obtain ⟨ht, hH, hI, hL, hLI, hN, hN2⟩ := id hC
  have hT := hH.1
  have hn := hI.nc
  have hm := hI.np
  refine V_iloadn_1 dX6_cellar_0 ?_
  refine V_cs1f dX6_cellar_1 cs_X6_56 (Nat.le_of_ble_eq_true rfl) k_isKind ?_
  refine V_ifB_eq dX6_cellar_4 23 (by decide) (fun h4 => ?_) (fun h4 => ?_)
  · exact absurd (hasN (n := 6) (by omega) (by decide)) h4
  · refine V_iconst 1 dX6_cellar_7 (by decide) ?_
    refine V_iloadn_2 dX6_cellar_8 ?_
    refine V_cs2f dX6_cellar_9 cs_X6_62 (Nat.le_of_ble_eq_true rfl) (k_C_fits (by omega)) ?_
    refine V_ifB_eq dX6_cellar_12 23 (by decide) (fun h12 => ?_) (fun h12 => ?_)
    · exact absurd (fits1.mp (inN (a := 0) (b := 99) (by omega) (by omega) (by decide))) h12
    · refine V_iconst 2 dX6_cellar_15 (by decide) ?_
      refine V_iloadn_3 dX6_cellar_16 ?_
      refine V_cs2f dX6_cellar_17 cs_X6_62 (Nat.le_of_ble_eq_true rfl) (k_C_fits (by omega)) ?_
      refine V_ifB_ne dX6_cellar_20 26 (by decide) (fun h20 => ?_) (fun h20 => ?_)
      · refine V_aloadn_0 dX6_cellar_26 ?_
        refine V_getR dX6_cellar_27 fl_X6_46 oC_now ?_
        refine V_getI dX6_cellar_30 fl_X6_67 (oT_cellars tw61) ?_
        refine V_topi hT.n5 ?_
        refine V_bipush 8 dX6_cellar_33 (by decide) ?_
        refine V_icmpN_ge (a := T 0 5) (b := 8) dX6_cellar_35 51 (by decide) (by omega) (by omega) (fun h35 => ?_) (fun h35 => ?_)
        · exfalso; omega
        · refine V_aloadn_0 dX6_cellar_38 ?_
          refine V_getR dX6_cellar_39 fl_X6_46 oC_now ?_
          refine V_iloadn_1 dX6_cellar_42 ?_
          refine V_iloadn_2 dX6_cellar_43 ?_
          refine V_iloadn_3 dX6_cellar_44 ?_
          refine V_cv3r dX6_cellar_45 cv_X6_71 (rcT tw61) (Nat.le_of_ble_eq_true rfl) (k_T_addCellar (by omega) hC hn8 hk hf hl) (fun σ' h9 => ?_)
          refine V_goto dX6_cellar_48 53 (by decide) ?_
          exact V_iret dX6_cellar_53 ⟨rfl, h9⟩
      · exact absurd (fits2.mp (inN (a := 1) (b := 99) (by omega) (by omega) (by decide))) h20

set_option maxRecDepth 100000 in
set_option maxHeartbeats 4000000 in
theorem c_cellar_full {G : vG} {σ : vS} {d : Nat} (hd : 5 ≤ d) {L T : nT} {N : Nat} (hC : TC L N 61 T σ) {k f l : Nat} (hk : k ≤ 5) (hf : f ≤ 99) (hl : 1 ≤ l ∧ l ≤ 99) (hn8 : ¬ T 0 5 < 8) : Cf G yX6_cellar cX6_cellar 4 (some .int) d [.ref 0, .int (nI k), .int (nI f), .int (nI l)] σ (some (.int (-1000000003))) σ := by
  refine Ct.ofV (by decide) (Nat.le_of_ble_eq_true rfl) rfl ?_
  show V G RX6 cX6_cellar (some .int) 4 d _ 0 [some (.ref 0), some (.int (nI k)), some (.int (nI f)), some (.int (nI l))] [] _
  obtain ⟨d, rfl⟩ : ∃ e, d = e + 1 := ⟨d - 1, by omega⟩
  obtain ⟨ht, hH, hI, hL, hLI, hN, hN2⟩ := id hC
  have hT := hH.1
  have hn := hI.nc
  have hm := hI.np
  refine V_iloadn_1 dX6_cellar_0 ?_
  refine V_cs1f dX6_cellar_1 cs_X6_56 (Nat.le_of_ble_eq_true rfl) k_isKind ?_
  refine V_ifB_eq dX6_cellar_4 23 (by decide) (fun h4 => ?_) (fun h4 => ?_)
  · exact absurd (hasN (n := 6) (by omega) (by decide)) h4
  · refine V_iconst 1 dX6_cellar_7 (by decide) ?_
    refine V_iloadn_2 dX6_cellar_8 ?_
    refine V_cs2f dX6_cellar_9 cs_X6_62 (Nat.le_of_ble_eq_true rfl) (k_C_fits (by omega)) ?_
    refine V_ifB_eq dX6_cellar_12 23 (by decide) (fun h12 => ?_) (fun h12 => ?_)
    · exact absurd (fits1.mp (inN (a := 0) (b := 99) (by omega) (by omega) (by decide))) h12
    · refine V_iconst 2 dX6_cellar_15 (by decide) ?_
      refine V_iloadn_3 dX6_cellar_16 ?_
      refine V_cs2f dX6_cellar_17 cs_X6_62 (Nat.le_of_ble_eq_true rfl) (k_C_fits (by omega)) ?_
      refine V_ifB_ne dX6_cellar_20 26 (by decide) (fun h20 => ?_) (fun h20 => ?_)
      · refine V_aloadn_0 dX6_cellar_26 ?_
        refine V_getR dX6_cellar_27 fl_X6_46 oC_now ?_
        refine V_getI dX6_cellar_30 fl_X6_67 (oT_cellars tw61) ?_
        refine V_topi hT.n5 ?_
        refine V_bipush 8 dX6_cellar_33 (by decide) ?_
        refine V_icmpN_ge (a := T 0 5) (b := 8) dX6_cellar_35 51 (by decide) (by omega) (by omega) (fun h35 => ?_) (fun h35 => ?_)
        · refine V_ldc (-1000000003) dX6_cellar_51 cn_X6_75 ?_
          exact V_iret dX6_cellar_53 ⟨rfl, rfl⟩
        · exfalso; omega
      · exact absurd (fits2.mp (inN (a := 1) (b := 99) (by omega) (by omega) (by decide))) h20

set_option maxRecDepth 100000 in
set_option maxHeartbeats 4000000 in
theorem c_cellar_bad {G : vG} {σ : vS} {d : Nat} (hd : 5 ≤ d) {L T : nT} {N : Nat} (hC : TC L N 61 T σ) {x y z : Int32} (hb : ¬ (hasI x 6 ∧ inI y 0 99 ∧ inI z 1 99)) : Cf G yX6_cellar cX6_cellar 4 (some .int) d [.ref 0, .int x, .int y, .int z] σ (some (.int (-1000000001))) σ := by
  refine Ct.ofV (by decide) (Nat.le_of_ble_eq_true rfl) rfl ?_
  show V G RX6 cX6_cellar (some .int) 4 d _ 0 [some (.ref 0), some (.int x), some (.int y), some (.int z)] [] _
  obtain ⟨d, rfl⟩ : ∃ e, d = e + 1 := ⟨d - 1, by omega⟩
  obtain ⟨ht, hH, hI, hL, hLI, hN, hN2⟩ := id hC
  have hT := hH.1
  have hn := hI.nc
  have hm := hI.np
  refine V_iloadn_1 dX6_cellar_0 ?_
  refine V_cs1f dX6_cellar_1 cs_X6_56 (Nat.le_of_ble_eq_true rfl) k_isKind ?_
  refine V_ifB_eq dX6_cellar_4 23 (by decide) (fun h4 => ?_) (fun h4 => ?_)
  · refine V_ldc (-1000000001) dX6_cellar_23 cn_X6_66 ?_
    exact V_iret dX6_cellar_25 ⟨rfl, rfl⟩
  · refine V_iconst 1 dX6_cellar_7 (by decide) ?_
    refine V_iloadn_2 dX6_cellar_8 ?_
    refine V_cs2f dX6_cellar_9 cs_X6_62 (Nat.le_of_ble_eq_true rfl) (k_C_fits (by omega)) ?_
    refine V_ifB_eq dX6_cellar_12 23 (by decide) (fun h12 => ?_) (fun h12 => ?_)
    · refine V_ldc (-1000000001) dX6_cellar_23 cn_X6_66 ?_
      exact V_iret dX6_cellar_25 ⟨rfl, rfl⟩
    · refine V_iconst 2 dX6_cellar_15 (by decide) ?_
      refine V_iloadn_3 dX6_cellar_16 ?_
      refine V_cs2f dX6_cellar_17 cs_X6_62 (Nat.le_of_ble_eq_true rfl) (k_C_fits (by omega)) ?_
      refine V_ifB_ne dX6_cellar_20 26 (by decide) (fun h20 => ?_) (fun h20 => ?_)
      · exact absurd ⟨h4, fits1.mpr h12, fits2.mpr h20⟩ hb
      · refine V_ldc (-1000000001) dX6_cellar_23 cn_X6_66 ?_
        exact V_iret dX6_cellar_25 ⟨rfl, rfl⟩

set_option maxRecDepth 100000 in
set_option maxHeartbeats 4000000 in
theorem m_cellar {G : vG} {σ : vS} {d : Nat} (hd : 1 ≤ d) {L T : nT} (hC : MC L T σ) {k f l : Nat} (hk : k ≤ 5) (hf : f ≤ 99) (hl : 1 ≤ l ∧ l ≤ 99) (hn8 : T 0 5 < 8) : Cr G yX7_cellar cX7_cellar 4 (some .int) d [.ref 97, .int (nI k), .int (nI f), .int (nI l)] σ (some (.int (nI (T 0 5)))) (fun σ' => MC L (addCT T k f l) σ' ∧ Fm σ σ') := by
  refine Ct.ofV (by decide) (Nat.le_of_ble_eq_true rfl) rfl ?_
  show V G RX7 cX7_cellar (some .int) 4 d _ 0 [some (.ref 97), some (.int (nI k)), some (.int (nI f)), some (.int (nI l))] [] _
  obtain ⟨d, rfl⟩ : ∃ e, d = e + 1 := ⟨d - 1, by omega⟩
  have hI := hC.2.2.1
  have hn := hI.nc
  have hm := hI.np
  refine V_iloadn_1 dX7_cellar_0 ?_
  refine V_iconst 0 dX7_cellar_1 (by decide) ?_
  refine V_iconst 5 dX7_cellar_2 (by decide) ?_
  refine V_cs3f dX7_cellar_3 cs_X7_82 (Nat.le_of_ble_eq_true rfl) k_M_in ?_
  refine V_ifB_eq dX7_cellar_6 29 (by decide) (fun h6 => ?_) (fun h6 => ?_)
  · exact absurd (inN (a := 0) (b := 5) (by omega) hk (by decide)) h6
  · refine V_iloadn_2 dX7_cellar_9 ?_
    refine V_iconst 0 dX7_cellar_10 (by decide) ?_
    refine V_bipush 99 dX7_cellar_11 (by decide) ?_
    refine V_cs3f dX7_cellar_13 cs_X7_82 (Nat.le_of_ble_eq_true rfl) k_M_in ?_
    refine V_ifB_eq dX7_cellar_16 29 (by decide) (fun h16 => ?_) (fun h16 => ?_)
    · exact absurd (inN (a := 0) (b := 99) (by omega) hf (by decide)) h16
    · refine V_iloadn_3 dX7_cellar_19 ?_
      refine V_iconst 1 dX7_cellar_20 (by decide) ?_
      refine V_bipush 99 dX7_cellar_21 (by decide) ?_
      refine V_cs3f dX7_cellar_23 cs_X7_82 (Nat.le_of_ble_eq_true rfl) k_M_in ?_
      refine V_ifB_ne dX7_cellar_26 32 (by decide) (fun h26 => ?_) (fun h26 => ?_)
      · refine V_aloadn_0 dX7_cellar_32 ?_
        refine V_getR dX7_cellar_33 fl_X7_9 oM_now ?_
        refine V_iconst 1 dX7_cellar_36 (by decide) ?_
        refine V_iald (j := 1) dX7_cellar_37 aM_now (by decide) (by decide) ?_
        refine V_topi hC.1.s1 ?_
        refine V_bipush 8 dX7_cellar_38 (by decide) ?_
        refine V_icmpN_ne (a := T 0 5) (b := 8) dX7_cellar_40 48 (by decide) (by omega) (by omega) (fun h40 => ?_) (fun h40 => ?_)
        · refine V_aloadn_0 dX7_cellar_48 ?_
          refine V_iloadn_1 dX7_cellar_49 ?_
          refine V_iloadn_2 dX7_cellar_50 ?_
          refine V_iloadn_3 dX7_cellar_51 ?_
          refine V_cv3r dX7_cellar_52 cv_X7_88 rcM (Nat.le_of_ble_eq_true rfl) (k_M_comes hC hn8 hk hf hl) (fun σ' h9 => ?_)
          exact V_iret dX7_cellar_55 ⟨rfl, h9⟩
        · exfalso; omega
      · exact absurd (inN (a := 1) (b := 99) hl.1 hl.2 (by decide)) h26

set_option maxRecDepth 100000 in
set_option maxHeartbeats 4000000 in
theorem m_cellar_full {G : vG} {σ : vS} {d : Nat} (hd : 1 ≤ d) {L T : nT} (hC : MC L T σ) {k f l : Nat} (hk : k ≤ 5) (hf : f ≤ 99) (hl : 1 ≤ l ∧ l ≤ 99) (hn8 : ¬ T 0 5 < 8) : Cf G yX7_cellar cX7_cellar 4 (some .int) d [.ref 97, .int (nI k), .int (nI f), .int (nI l)] σ (some (.int (-1000000003))) σ := by
  refine Ct.ofV (by decide) (Nat.le_of_ble_eq_true rfl) rfl ?_
  show V G RX7 cX7_cellar (some .int) 4 d _ 0 [some (.ref 97), some (.int (nI k)), some (.int (nI f)), some (.int (nI l))] [] _
  obtain ⟨d, rfl⟩ : ∃ e, d = e + 1 := ⟨d - 1, by omega⟩
  have hI := hC.2.2.1
  have hn := hI.nc
  have hm := hI.np
  refine V_iloadn_1 dX7_cellar_0 ?_
  refine V_iconst 0 dX7_cellar_1 (by decide) ?_
  refine V_iconst 5 dX7_cellar_2 (by decide) ?_
  refine V_cs3f dX7_cellar_3 cs_X7_82 (Nat.le_of_ble_eq_true rfl) k_M_in ?_
  refine V_ifB_eq dX7_cellar_6 29 (by decide) (fun h6 => ?_) (fun h6 => ?_)
  · exact absurd (inN (a := 0) (b := 5) (by omega) hk (by decide)) h6
  · refine V_iloadn_2 dX7_cellar_9 ?_
    refine V_iconst 0 dX7_cellar_10 (by decide) ?_
    refine V_bipush 99 dX7_cellar_11 (by decide) ?_
    refine V_cs3f dX7_cellar_13 cs_X7_82 (Nat.le_of_ble_eq_true rfl) k_M_in ?_
    refine V_ifB_eq dX7_cellar_16 29 (by decide) (fun h16 => ?_) (fun h16 => ?_)
    · exact absurd (inN (a := 0) (b := 99) (by omega) hf (by decide)) h16
    · refine V_iloadn_3 dX7_cellar_19 ?_
      refine V_iconst 1 dX7_cellar_20 (by decide) ?_
      refine V_bipush 99 dX7_cellar_21 (by decide) ?_
      refine V_cs3f dX7_cellar_23 cs_X7_82 (Nat.le_of_ble_eq_true rfl) k_M_in ?_
      refine V_ifB_ne dX7_cellar_26 32 (by decide) (fun h26 => ?_) (fun h26 => ?_)
      · refine V_aloadn_0 dX7_cellar_32 ?_
        refine V_getR dX7_cellar_33 fl_X7_9 oM_now ?_
        refine V_iconst 1 dX7_cellar_36 (by decide) ?_
        refine V_iald (j := 1) dX7_cellar_37 aM_now (by decide) (by decide) ?_
        refine V_topi hC.1.s1 ?_
        refine V_bipush 8 dX7_cellar_38 (by decide) ?_
        refine V_icmpN_ne (a := T 0 5) (b := 8) dX7_cellar_40 48 (by decide) (by omega) (by omega) (fun h40 => ?_) (fun h40 => ?_)
        · exfalso; omega
        · refine V_ldc (-1000000003) dX7_cellar_43 cn_X7_87 ?_
          refine V_goto dX7_cellar_45 55 (by decide) ?_
          exact V_iret dX7_cellar_55 ⟨rfl, rfl⟩
      · exact absurd (inN (a := 1) (b := 99) hl.1 hl.2 (by decide)) h26

set_option maxRecDepth 100000 in
set_option maxHeartbeats 4000000 in
theorem m_cellar_bad {G : vG} {σ : vS} {d : Nat} (hd : 1 ≤ d) {L T : nT} (hC : MC L T σ) {x y z : Int32} (hb : ¬ (hasI x 6 ∧ inI y 0 99 ∧ inI z 1 99)) : Cf G yX7_cellar cX7_cellar 4 (some .int) d [.ref 97, .int x, .int y, .int z] σ (some (.int (-1000000001))) σ := by
  refine Ct.ofV (by decide) (Nat.le_of_ble_eq_true rfl) rfl ?_
  show V G RX7 cX7_cellar (some .int) 4 d _ 0 [some (.ref 97), some (.int x), some (.int y), some (.int z)] [] _
  obtain ⟨d, rfl⟩ : ∃ e, d = e + 1 := ⟨d - 1, by omega⟩
  have hI := hC.2.2.1
  have hn := hI.nc
  have hm := hI.np
  refine V_iloadn_1 dX7_cellar_0 ?_
  refine V_iconst 0 dX7_cellar_1 (by decide) ?_
  refine V_iconst 5 dX7_cellar_2 (by decide) ?_
  refine V_cs3f dX7_cellar_3 cs_X7_82 (Nat.le_of_ble_eq_true rfl) k_M_in ?_
  refine V_ifB_eq dX7_cellar_6 29 (by decide) (fun h6 => ?_) (fun h6 => ?_)
  · refine V_ldc (-1000000001) dX7_cellar_29 cn_X7_86 ?_
    exact V_iret dX7_cellar_31 ⟨rfl, rfl⟩
  · refine V_iloadn_2 dX7_cellar_9 ?_
    refine V_iconst 0 dX7_cellar_10 (by decide) ?_
    refine V_bipush 99 dX7_cellar_11 (by decide) ?_
    refine V_cs3f dX7_cellar_13 cs_X7_82 (Nat.le_of_ble_eq_true rfl) k_M_in ?_
    refine V_ifB_eq dX7_cellar_16 29 (by decide) (fun h16 => ?_) (fun h16 => ?_)
    · refine V_ldc (-1000000001) dX7_cellar_29 cn_X7_86 ?_
      exact V_iret dX7_cellar_31 ⟨rfl, rfl⟩
    · refine V_iloadn_3 dX7_cellar_19 ?_
      refine V_iconst 1 dX7_cellar_20 (by decide) ?_
      refine V_bipush 99 dX7_cellar_21 (by decide) ?_
      refine V_cs3f dX7_cellar_23 cs_X7_82 (Nat.le_of_ble_eq_true rfl) k_M_in ?_
      refine V_ifB_ne dX7_cellar_26 32 (by decide) (fun h26 => ?_) (fun h26 => ?_)
      · exact absurd ⟨in5.mp h6, h16, h26⟩ hb
      · refine V_ldc (-1000000001) dX7_cellar_29 cn_X7_86 ?_
        exact V_iret dX7_cellar_31 ⟨rfl, rfl⟩

set_option maxRecDepth 100000 in
set_option maxHeartbeats 4000000 in
theorem op_cellar {G : vG} {σ : vS} {d i : Nat} (hd : 100 ≤ d) (hi : i < 512) {x y z : Int32} (h : Inv i σ) : Op G yX6_cellar cX6_cellar 4 yX7_cellar cX7_cellar 4 d [.int x, .int y, .int z] i σ := by
  have hh := h
  obtain ⟨L, T, I, b, hT, hB, hM, hS, hO, hW, hR, hK⟩ := h
  have hC := hT.1
  have hE := hT.2.1
  have hI := hC.2.2.1
  have hn := hI.nc
  have hm := hI.np
  by_cases hx : hasI x 6 ∧ inI y 0 99 ∧ inI z 1 99
  · obtain ⟨k, hk, rfl⟩ := (hasI_iff (by decide)).mp hx.1
    obtain ⟨f, hf, rfl⟩ := (inI_iff (b := 99) (by decide)).mp hx.2.1
    obtain ⟨l, hl, hl2, rfl⟩ := (inI_iff' (a := 1) (b := 99) (by decide) (by decide)).mp hx.2.2
    by_cases hn8 : T 0 5 < 8
    · exact Op.town (T' := addCT T k f l) hT hB hM hS hO hW hR hK (by rw [addC_bud]; have := hT.2.2.1; omega) (by rw [addC_0 (by decide)]; exact hT.2.2.2.1) (by rw [addC_0 (by decide)]; exact hT.2.2.2.2) (addC_0 (by decide)) (c_cellar (by omega) hC (by omega) hf ⟨hl, hl2⟩ hn8) (fun σ1 f1 => m_cellar (by omega) f1 (by omega) hf ⟨hl, hl2⟩ hn8)
    · exact Op.ask hh (Cf.fi (c_cellar_full (by omega) hC (by omega) hf ⟨hl, hl2⟩ hn8)) (fun σ1 f1 => Cf.fi (m_cellar_full (by omega) (hE.fi f1) (by omega) hf ⟨hl, hl2⟩ hn8))
  · exact Op.ask hh (Cf.fi (c_cellar_bad (by omega) hC hx)) (fun σ1 f1 => Cf.fi (m_cellar_bad (by omega) (hE.fi f1) hx))

set_option maxRecDepth 100000 in
set_option maxHeartbeats 4000000 in
theorem c_turns {G : vG} {σ : vS} {d : Nat} (hd : 3 ≤ d) {L T : nT} {N : Nat} (hC : TC L N 61 T σ) {c k : Nat} (hc : c < T 0 5) (hk : k ≤ 5) : Cr G yX6_turns cX6_turns 4 (some .int) d [.ref 0, .int (nI c), .int (nI k)] σ (some (.int (nI (T 1 c)))) (fun σ' => TC L N 61 (Tup T 1 c k) σ' ∧ Fr 61 σ σ') := by
  refine Ct.ofV (by decide) (Nat.le_of_ble_eq_true rfl) rfl ?_
  show V G RX6 cX6_turns (some .int) 4 d _ 0 [some (.ref 0), some (.int (nI c)), some (.int (nI k)), none] [] _
  obtain ⟨d, rfl⟩ : ∃ e, d = e + 1 := ⟨d - 1, by omega⟩
  obtain ⟨ht, hH, hI, hL, hLI, hN, hN2⟩ := id hC
  have hT := hH.1
  have hn := hI.nc
  have hm := hI.np
  have hI2 := (hI.cel (k := 1) (i := c) (x := k) (by omega)).1
  refine V_aloadn_0 dX6_turns_0 ?_
  refine V_getR dX6_turns_1 fl_X6_46 oC_now ?_
  refine V_iloadn_1 dX6_turns_4 ?_
  refine V_cv1f dX6_turns_5 cv_X6_76 (rcT tw61) (Nat.le_of_ble_eq_true rfl) (k_T_hasCellar tw61 hT) ?_
  refine V_ifB_eq dX6_turns_8 18 (by decide) (fun h8 => ?_) (fun h8 => ?_)
  · exact absurd (hasN hc (by omega)) h8
  · refine V_iloadn_2 dX6_turns_11 ?_
    refine V_cs1f dX6_turns_12 cs_X6_56 (Nat.le_of_ble_eq_true rfl) k_isKind ?_
    refine V_ifB_ne dX6_turns_15 21 (by decide) (fun h15 => ?_) (fun h15 => ?_)
    · refine V_aloadn_0 dX6_turns_21 ?_
      refine V_getR dX6_turns_22 fl_X6_46 oC_now ?_
      refine V_getR dX6_turns_25 fl_X6_79 (oT_kind tw61) ?_
      refine V_iloadn_1 dX6_turns_28 ?_
      refine V_iald (j := c) dX6_turns_29 (aT_kind tw61) (by omega) (by decide) ?_
      refine V_topi (hT.k1 (by omega)) ?_
      refine V_istoren_3 dX6_turns_30 (by first | exact rfl | exact True.intro) (by decide) ?_
      refine V_aloadn_0 dX6_turns_31 ?_
      refine V_getR dX6_turns_32 fl_X6_46 oC_now ?_
      refine V_getR dX6_turns_35 fl_X6_79 (oT_kind tw61) ?_
      refine V_iloadn_1 dX6_turns_38 ?_
      refine V_iloadn_2 dX6_turns_39 ?_
      refine V_iast (j := c) dX6_turns_40 (aT_kind tw61) (by omega) (by decide) ?_
      refine V_aloadn_0 dX6_turns_41 ?_
      refine V_getR dX6_turns_42 fl_X6_46 oC_now ?_
      refine V_iloadn_1 dX6_turns_45 ?_
      refine V_cv1n dX6_turns_46 cv_X6_119 (rcT tw61) (Nat.le_of_ble_eq_true rfl) (k_T_refresh (by omega) (hC.c1 (k := 1) (by omega) hI2) (by rw [Tup_ne (by omega)]; exact hc)) (fun σ' h9 => ?_)
      refine V_iloadn_3 dX6_turns_49 ?_
      exact V_iret dX6_turns_50 ⟨rfl, hC.store (by omega) (by omega) hI2 rfl h9⟩
    · exact absurd (hasN (n := 6) (by omega) (by decide)) h15

set_option maxRecDepth 100000 in
set_option maxHeartbeats 4000000 in
theorem c_turns_bad {G : vG} {σ : vS} {d : Nat} (hd : 3 ≤ d) {L T : nT} {N : Nat} (hC : TC L N 61 T σ) {x y : Int32} (hb : ¬ (hasI x (T 0 5) ∧ hasI y 6)) : Cf G yX6_turns cX6_turns 4 (some .int) d [.ref 0, .int x, .int y] σ (some (.int (-1000000001))) σ := by
  refine Ct.ofV (by decide) (Nat.le_of_ble_eq_true rfl) rfl ?_
  show V G RX6 cX6_turns (some .int) 4 d _ 0 [some (.ref 0), some (.int x), some (.int y), none] [] _
  obtain ⟨d, rfl⟩ : ∃ e, d = e + 1 := ⟨d - 1, by omega⟩
  obtain ⟨ht, hH, hI, hL, hLI, hN, hN2⟩ := id hC
  have hT := hH.1
  have hn := hI.nc
  have hm := hI.np
  refine V_aloadn_0 dX6_turns_0 ?_
  refine V_getR dX6_turns_1 fl_X6_46 oC_now ?_
  refine V_iloadn_1 dX6_turns_4 ?_
  refine V_cv1f dX6_turns_5 cv_X6_76 (rcT tw61) (Nat.le_of_ble_eq_true rfl) (k_T_hasCellar tw61 hT) ?_
  refine V_ifB_eq dX6_turns_8 18 (by decide) (fun h8 => ?_) (fun h8 => ?_)
  · refine V_ldc (-1000000001) dX6_turns_18 cn_X6_66 ?_
    exact V_iret dX6_turns_20 ⟨rfl, rfl⟩
  · refine V_iloadn_2 dX6_turns_11 ?_
    refine V_cs1f dX6_turns_12 cs_X6_56 (Nat.le_of_ble_eq_true rfl) k_isKind ?_
    refine V_ifB_ne dX6_turns_15 21 (by decide) (fun h15 => ?_) (fun h15 => ?_)
    · exact absurd ⟨h8, h15⟩ hb
    · refine V_ldc (-1000000001) dX6_turns_18 cn_X6_66 ?_
      exact V_iret dX6_turns_20 ⟨rfl, rfl⟩

set_option maxRecDepth 100000 in
set_option maxHeartbeats 4000000 in
theorem m_turns {G : vG} {σ : vS} {d : Nat} (hd : 2 ≤ d) {L T : nT} (hC : MC L T σ) {c k : Nat} (hc : c < T 0 5) (hk : k ≤ 5) : Cr G yX7_turns cX7_turns 3 (some .int) d [.ref 97, .int (nI c), .int (nI k)] σ (some (.int (nI (T 1 c)))) (fun σ' => MC L (Tup T 1 c k) σ' ∧ Fm σ σ') := by
  refine Ct.ofV (by decide) (Nat.le_of_ble_eq_true rfl) rfl ?_
  show V G RX7 cX7_turns (some .int) 3 d _ 0 [some (.ref 97), some (.int (nI c)), some (.int (nI k))] [] _
  obtain ⟨d, rfl⟩ : ∃ e, d = e + 1 := ⟨d - 1, by omega⟩
  have hI := hC.2.2.1
  have hn := hI.nc
  have hm := hI.np
  refine V_aloadn_0 dX7_turns_0 ?_
  refine V_iloadn_1 dX7_turns_1 ?_
  refine V_cv1f dX7_turns_2 cv_X7_112 rcM (Nat.le_of_ble_eq_true rfl) (k_M_isCellar (by omega) hC) ?_
  refine V_ifB_eq dX7_turns_5 32 (by decide) (fun h5 => ?_) (fun h5 => ?_)
  · exact absurd (hasN hc (by omega)) h5
  · refine V_iloadn_2 dX7_turns_8 ?_
    refine V_iconst 0 dX7_turns_9 (by decide) ?_
    refine V_iconst 5 dX7_turns_10 (by decide) ?_
    refine V_cs3f dX7_turns_11 cs_X7_82 (Nat.le_of_ble_eq_true rfl) k_M_in ?_
    refine V_ifB_eq dX7_turns_14 32 (by decide) (fun h14 => ?_) (fun h14 => ?_)
    · exact absurd (inN (a := 0) (b := 5) (by omega) hk (by decide)) h14
    · refine V_aloadn_0 dX7_turns_17 ?_
      refine V_bipush 7 dX7_turns_18 (by decide) ?_
      refine V_bipush 6 dX7_turns_20 (by decide) ?_
      refine V_iloadn_1 dX7_turns_22 ?_
      refine V_imulN (a := 6) (b := c) dX7_turns_23 ?_
      refine V_iaddN (a := 7) (b := 6 * c) dX7_turns_24 ?_
      refine V_iloadn_2 dX7_turns_25 ?_
      refine V_cv2f dX7_turns_26 cv_X7_133 rcM (Nat.le_of_ble_eq_true rfl) (k_M_becomes (by omega)) ?_
      refine V_goto dX7_turns_29 34 (by decide) ?_
      exact V_iret dX7_turns_34 ⟨rI (hC.1.c1 hc), hC.next (Fm.up (by omega)) (hC.1.cel (w := 0) hn hc (by decide)) (hI.cel (k := 1) (by omega)).1 (Tup_ne (by omega)) (fun _ => Tup_ne (by omega)), Fm.up (by omega)⟩

set_option maxRecDepth 100000 in
set_option maxHeartbeats 4000000 in
theorem m_turns_bad {G : vG} {σ : vS} {d : Nat} (hd : 2 ≤ d) {L T : nT} (hC : MC L T σ) {x y : Int32} (hb : ¬ (hasI x (T 0 5) ∧ hasI y 6)) : Cf G yX7_turns cX7_turns 3 (some .int) d [.ref 97, .int x, .int y] σ (some (.int (-1000000001))) σ := by
  refine Ct.ofV (by decide) (Nat.le_of_ble_eq_true rfl) rfl ?_
  show V G RX7 cX7_turns (some .int) 3 d _ 0 [some (.ref 97), some (.int x), some (.int y)] [] _
  obtain ⟨d, rfl⟩ : ∃ e, d = e + 1 := ⟨d - 1, by omega⟩
  have hI := hC.2.2.1
  have hn := hI.nc
  have hm := hI.np
  refine V_aloadn_0 dX7_turns_0 ?_
  refine V_iloadn_1 dX7_turns_1 ?_
  refine V_cv1f dX7_turns_2 cv_X7_112 rcM (Nat.le_of_ble_eq_true rfl) (k_M_isCellar (by omega) hC) ?_
  refine V_ifB_eq dX7_turns_5 32 (by decide) (fun h5 => ?_) (fun h5 => ?_)
  · refine V_ldc (-1000000001) dX7_turns_32 cn_X7_86 ?_
    exact V_iret dX7_turns_34 ⟨rfl, rfl⟩
  · refine V_iloadn_2 dX7_turns_8 ?_
    refine V_iconst 0 dX7_turns_9 (by decide) ?_
    refine V_iconst 5 dX7_turns_10 (by decide) ?_
    refine V_cs3f dX7_turns_11 cs_X7_82 (Nat.le_of_ble_eq_true rfl) k_M_in ?_
    refine V_ifB_eq dX7_turns_14 32 (by decide) (fun h14 => ?_) (fun h14 => ?_)
    · refine V_ldc (-1000000001) dX7_turns_32 cn_X7_86 ?_
      exact V_iret dX7_turns_34 ⟨rfl, rfl⟩
    · exact absurd ⟨h5, in5.mp h14⟩ hb

set_option maxRecDepth 100000 in
set_option maxHeartbeats 4000000 in
theorem op_turns {G : vG} {σ : vS} {d i : Nat} (hd : 100 ≤ d) (hi : i < 512) {x y : Int32} (h : Inv i σ) : Op G yX6_turns cX6_turns 4 yX7_turns cX7_turns 3 d [.int x, .int y] i σ := by
  have hh := h
  obtain ⟨L, T, I, b, hT, hB, hM, hS, hO, hW, hR, hK⟩ := h
  have hC := hT.1
  have hE := hT.2.1
  have hI := hC.2.2.1
  have hn := hI.nc
  have hm := hI.np
  by_cases hx : hasI x (T 0 5) ∧ hasI y 6
  · obtain ⟨c, hc, rfl⟩ := (hasI_iff (by omega)).mp hx.1
    obtain ⟨k, hk, rfl⟩ := (hasI_iff (by decide)).mp hx.2
    exact Op.town (T' := Tup T 1 c k) hT hB hM hS hO hW hR hK (by rw [(hI.cel (k := 1) (i := c) (x := k) (by omega)).2]; have := hT.2.2.1; omega) (by rw [Tup_ne (by omega)]; exact hT.2.2.2.1) (by rw [Tup_ne (by omega)]; exact hT.2.2.2.2) (Tup_ne (by omega)) (c_turns (by omega) hC hc (by omega)) (fun σ1 f1 => m_turns (by omega) f1 hc (by omega))
  · exact Op.ask hh (Cf.fi (c_turns_bad (by omega) hC hx)) (fun σ1 f1 => Cf.fi (m_turns_bad (by omega) (hE.fi f1) hx))

theorem toldC_w {L T : nT} {c s : Nat} (hs : s < 3) : toldC L T c (nI (8 + s)) = nI (T 4 (c * 3 + s)) := by
  rcases (show s = 0 ∨ s = 1 ∨ s = 2 by omega) with rfl | rfl | rfl <;> rfl

set_option maxRecDepth 100000 in
set_option maxHeartbeats 4000000 in
theorem c_set_1 {G : vG} {σ : vS} {d : Nat} (hd : 3 ≤ d) {L T : nT} {N : Nat} (hC : TC L N 61 T σ) {c x : Nat} (hc : c < T 0 5) (hx : x ≤ 99) : Cr G yX6_set cX6_set 5 (some .int) d [.ref 0, .int (nI c), .int 1, .int (nI x)] σ (some (.int (nI (T 2 c)))) (fun σ' => TC L N 61 (Tup T 2 c x) σ' ∧ Fr 61 σ σ') := by
  refine Ct.ofV (by decide) (Nat.le_of_ble_eq_true rfl) rfl ?_
  show V G RX6 cX6_set (some .int) 5 d _ 0 [some (.ref 0), some (.int (nI c)), some (.int 1), some (.int (nI x)), none] [] _
  obtain ⟨d, rfl⟩ : ∃ e, d = e + 1 := ⟨d - 1, by omega⟩
  obtain ⟨ht, hH, hI, hL, hLI, hN, hN2⟩ := id hC
  have hT := hH.1
  have hn := hI.nc
  have hm := hI.np
  have hI2 : TI (Tup T 2 c x) := (hI.cel (k := 2) (i := c) (x := x) (by omega)).1
  refine V_aloadn_0 dX6_set_0 ?_
  refine V_getR dX6_set_1 fl_X6_46 oC_now ?_
  refine V_iloadn_1 dX6_set_4 ?_
  refine V_cv1f dX6_set_5 cv_X6_76 (rcT tw61) (Nat.le_of_ble_eq_true rfl) (k_T_hasCellar tw61 hT) ?_
  refine V_ifB_eq dX6_set_8 19 (by decide) (fun h8 => ?_) (fun h8 => ?_)
  · exact absurd (hasN hc (by omega)) h8
  · refine V_iloadn_2 dX6_set_11 ?_
    refine V_iloadn_3 dX6_set_12 ?_
    refine V_cs2f dX6_set_13 cs_X6_62 (Nat.le_of_ble_eq_true rfl) (k_C_fits (by omega)) ?_
    refine V_ifB_ne dX6_set_16 22 (by decide) (fun h16 => ?_) (fun h16 => ?_)
    · refine V_aloadn_0 dX6_set_22 ?_
      refine V_iloadn_1 dX6_set_23 ?_
      refine V_iloadn_2 dX6_set_24 ?_
      refine V_cv2f dX6_set_25 cv_X6_123 rcC (Nat.le_of_ble_eq_true rfl) (c_told (by omega) hC hc) ?_
      refine V_topi (y := nI (T 2 c)) rfl ?_
      refine V_istore_4 dX6_set_28 (by first | exact rfl | exact True.intro) (by decide) ?_
      refine V_iloadn_2 dX6_set_30 ?_
      refine V_iconst 1 dX6_set_31 (by decide) ?_
      refine V_icmp_ne_f dX6_set_32 48 (by decide) (by decide) ?_
      refine V_aloadn_0 dX6_set_35 ?_
      refine V_getR dX6_set_36 fl_X6_46 oC_now ?_
      refine V_getR dX6_set_39 fl_X6_82 (oT_floor tw61) ?_
      refine V_iloadn_1 dX6_set_42 ?_
      refine V_iloadn_3 dX6_set_43 ?_
      refine V_iast (j := c) dX6_set_44 (aT_floor tw61) (by omega) (by decide) ?_
      refine V_goto dX6_set_45 83 (by decide) ?_
      refine V_aloadn_0 dX6_set_83 ?_
      refine V_getR dX6_set_84 fl_X6_46 oC_now ?_
      refine V_iloadn_1 dX6_set_87 ?_
      refine V_cv1n dX6_set_88 cv_X6_119 (rcT tw61) (Nat.le_of_ble_eq_true rfl) (k_T_refresh (by omega) (hC.c1 (k := 2) (by omega) hI2) (by rw [Tup_ne (by omega)]; exact hc)) (fun σ' h9 => ?_)
      refine V_iload_4 dX6_set_91 ?_
      exact V_iret dX6_set_93 ⟨rfl, hC.store (by omega) (by omega) hI2 rfl h9⟩
    · exact absurd (fits1.mp (inN (a := 0) (b := 99) (by omega) hx (by decide))) h16

set_option maxRecDepth 100000 in
set_option maxHeartbeats 4000000 in
theorem c_set_2 {G : vG} {σ : vS} {d : Nat} (hd : 3 ≤ d) {L T : nT} {N : Nat} (hC : TC L N 61 T σ) {c x : Nat} (hc : c < T 0 5) (hx : 1 ≤ x ∧ x ≤ 99) : Cr G yX6_set cX6_set 5 (some .int) d [.ref 0, .int (nI c), .int 2, .int (nI x)] σ (some (.int (nI (T 3 c)))) (fun σ' => TC L N 61 (Tup T 3 c x) σ' ∧ Fr 61 σ σ') := by
  refine Ct.ofV (by decide) (Nat.le_of_ble_eq_true rfl) rfl ?_
  show V G RX6 cX6_set (some .int) 5 d _ 0 [some (.ref 0), some (.int (nI c)), some (.int 2), some (.int (nI x)), none] [] _
  obtain ⟨d, rfl⟩ : ∃ e, d = e + 1 := ⟨d - 1, by omega⟩
  obtain ⟨ht, hH, hI, hL, hLI, hN, hN2⟩ := id hC
  have hT := hH.1
  have hn := hI.nc
  have hm := hI.np
  have hI2 : TI (Tup T 3 c x) := (hI.cel (k := 3) (i := c) (x := x) (by omega)).1
  refine V_aloadn_0 dX6_set_0 ?_
  refine V_getR dX6_set_1 fl_X6_46 oC_now ?_
  refine V_iloadn_1 dX6_set_4 ?_
  refine V_cv1f dX6_set_5 cv_X6_76 (rcT tw61) (Nat.le_of_ble_eq_true rfl) (k_T_hasCellar tw61 hT) ?_
  refine V_ifB_eq dX6_set_8 19 (by decide) (fun h8 => ?_) (fun h8 => ?_)
  · exact absurd (hasN hc (by omega)) h8
  · refine V_iloadn_2 dX6_set_11 ?_
    refine V_iloadn_3 dX6_set_12 ?_
    refine V_cs2f dX6_set_13 cs_X6_62 (Nat.le_of_ble_eq_true rfl) (k_C_fits (by omega)) ?_
    refine V_ifB_ne dX6_set_16 22 (by decide) (fun h16 => ?_) (fun h16 => ?_)
    · refine V_aloadn_0 dX6_set_22 ?_
      refine V_iloadn_1 dX6_set_23 ?_
      refine V_iloadn_2 dX6_set_24 ?_
      refine V_cv2f dX6_set_25 cv_X6_123 rcC (Nat.le_of_ble_eq_true rfl) (c_told (by omega) hC hc) ?_
      refine V_topi (y := nI (T 3 c)) rfl ?_
      refine V_istore_4 dX6_set_28 (by first | exact rfl | exact True.intro) (by decide) ?_
      refine V_iloadn_2 dX6_set_30 ?_
      refine V_iconst 1 dX6_set_31 (by decide) ?_
      refine V_icmp_ne_t dX6_set_32 48 (by decide) (by decide) ?_
      refine V_iloadn_2 dX6_set_48 ?_
      refine V_iconst 2 dX6_set_49 (by decide) ?_
      refine V_icmp_ne_f dX6_set_50 66 (by decide) (by decide) ?_
      refine V_aloadn_0 dX6_set_53 ?_
      refine V_getR dX6_set_54 fl_X6_46 oC_now ?_
      refine V_getR dX6_set_57 fl_X6_85 (oT_lip tw61) ?_
      refine V_iloadn_1 dX6_set_60 ?_
      refine V_iloadn_3 dX6_set_61 ?_
      refine V_iast (j := c) dX6_set_62 (aT_lip tw61) (by omega) (by decide) ?_
      refine V_goto dX6_set_63 83 (by decide) ?_
      refine V_aloadn_0 dX6_set_83 ?_
      refine V_getR dX6_set_84 fl_X6_46 oC_now ?_
      refine V_iloadn_1 dX6_set_87 ?_
      refine V_cv1n dX6_set_88 cv_X6_119 (rcT tw61) (Nat.le_of_ble_eq_true rfl) (k_T_refresh (by omega) (hC.c1 (k := 3) (by omega) hI2) (by rw [Tup_ne (by omega)]; exact hc)) (fun σ' h9 => ?_)
      refine V_iload_4 dX6_set_91 ?_
      exact V_iret dX6_set_93 ⟨rfl, hC.store (by omega) (by omega) hI2 rfl h9⟩
    · exact absurd (fits2.mp (inN (a := 1) (b := 99) hx.1 hx.2 (by decide))) h16

set_option maxRecDepth 100000 in
set_option maxHeartbeats 4000000 in
theorem c_set_w {G : vG} {σ : vS} {d : Nat} (hd : 3 ≤ d) {L T : nT} {N : Nat} (hC : TC L N 61 T σ) {c x : Nat} (hc : c < T 0 5) {s : Nat} (hs : s < 3) (hx : x ≤ 999) (hbd : bud T + 999 < 2 ^ 30) : Cr G yX6_set cX6_set 5 (some .int) d [.ref 0, .int (nI c), .int (nI (8 + s)), .int (nI x)] σ (some (.int (nI (T 4 (c * 3 + s))))) (fun σ' => TC L N 61 (Tup T 4 (c * 3 + s) x) σ' ∧ Fr 61 σ σ') := by
  refine Ct.ofV (by decide) (Nat.le_of_ble_eq_true rfl) rfl ?_
  show V G RX6 cX6_set (some .int) 5 d _ 0 [some (.ref 0), some (.int (nI c)), some (.int (nI (8 + s))), some (.int (nI x)), none] [] _
  obtain ⟨d, rfl⟩ : ∃ e, d = e + 1 := ⟨d - 1, by omega⟩
  obtain ⟨ht, hH, hI, hL, hLI, hN, hN2⟩ := id hC
  have hT := hH.1
  have hn := hI.nc
  have hm := hI.np
  have hI2 : TI (Tup T 4 (c * 3 + s) x) := hI.wine (by omega)
  refine V_aloadn_0 dX6_set_0 ?_
  refine V_getR dX6_set_1 fl_X6_46 oC_now ?_
  refine V_iloadn_1 dX6_set_4 ?_
  refine V_cv1f dX6_set_5 cv_X6_76 (rcT tw61) (Nat.le_of_ble_eq_true rfl) (k_T_hasCellar tw61 hT) ?_
  refine V_ifB_eq dX6_set_8 19 (by decide) (fun h8 => ?_) (fun h8 => ?_)
  · exact absurd (hasN hc (by omega)) h8
  · refine V_iloadn_2 dX6_set_11 ?_
    refine V_iloadn_3 dX6_set_12 ?_
    refine V_cs2f dX6_set_13 cs_X6_62 (Nat.le_of_ble_eq_true rfl) (k_C_fits (by omega)) ?_
    refine V_ifB_ne dX6_set_16 22 (by decide) (fun h16 => ?_) (fun h16 => ?_)
    · refine V_aloadn_0 dX6_set_22 ?_
      refine V_iloadn_1 dX6_set_23 ?_
      refine V_iloadn_2 dX6_set_24 ?_
      refine V_cv2f dX6_set_25 cv_X6_123 rcC (Nat.le_of_ble_eq_true rfl) (c_told (by omega) hC hc) ?_
      refine V_topi (y := nI (T 4 (c * 3 + s))) (toldC_w hs) ?_
      refine V_istore_4 dX6_set_28 (by first | exact rfl | exact True.intro) (by decide) ?_
      refine V_iloadn_2 dX6_set_30 ?_
      refine V_iconst 1 dX6_set_31 (by decide) ?_
      refine V_icmpN_ne (a := 8 + s) (b := 1) dX6_set_32 48 (by decide) (by omega) (by omega) (fun h32 => ?_) (fun h32 => ?_)
      · refine V_iloadn_2 dX6_set_48 ?_
        refine V_iconst 2 dX6_set_49 (by decide) ?_
        refine V_icmpN_ne (a := 8 + s) (b := 2) dX6_set_50 66 (by decide) (by omega) (by omega) (fun h50 => ?_) (fun h50 => ?_)
        · refine V_aloadn_0 dX6_set_66 ?_
          refine V_getR dX6_set_67 fl_X6_46 oC_now ?_
          refine V_getR dX6_set_70 fl_X6_105 (oT_wine tw61) ?_
          refine V_iloadn_1 dX6_set_73 ?_
          refine V_iconst 3 dX6_set_74 (by decide) ?_
          refine V_imulN (a := c) (b := 3) dX6_set_75 ?_
          refine V_iloadn_2 dX6_set_76 ?_
          refine V_iaddN (a := c * 3) (b := 8 + s) dX6_set_77 ?_
          refine V_bipush 8 dX6_set_78 (by decide) ?_
          refine V_isubN (a := (c * 3) + (8 + s)) (b := 8) dX6_set_80 (by omega) ?_
          refine V_topi (y := nI (c * 3 + s)) (by congr 1; omega) ?_
          refine V_iloadn_3 dX6_set_81 ?_
          refine V_iast (j := c * 3 + s) dX6_set_82 (aT_wine tw61) (by omega) (by decide) ?_
          refine V_aloadn_0 dX6_set_83 ?_
          refine V_getR dX6_set_84 fl_X6_46 oC_now ?_
          refine V_iloadn_1 dX6_set_87 ?_
          refine V_cv1n dX6_set_88 cv_X6_119 (rcT tw61) (Nat.le_of_ble_eq_true rfl) (k_T_refresh (by omega) (hC.c1 (k := 4) (by omega) hI2) (by rw [Tup_ne (by omega)]; exact hc)) (fun σ' h9 => ?_)
          refine V_iload_4 dX6_set_91 ?_
          exact V_iret dX6_set_93 ⟨rfl, hC.store (by omega) (by omega) hI2 rfl h9⟩
        · exfalso; omega
      · exfalso; omega
    · exact absurd (show fitsI (nI (8 + s)) (nI x) from (fits8 (by rcases (show s = 0 ∨ s = 1 ∨ s = 2 by omega) with rfl | rfl | rfl <;> decide)).mp (inN (a := 0) (b := 999) (by omega) hx (by decide))) h16

set_option maxRecDepth 100000 in
set_option maxHeartbeats 4000000 in
theorem c_set_bad {G : vG} {σ : vS} {d : Nat} (hd : 3 ≤ d) {L T : nT} {N : Nat} (hC : TC L N 61 T σ) {x w v : Int32} (hb : ¬ (hasI x (T 0 5) ∧ fitsI w v)) : Cf G yX6_set cX6_set 5 (some .int) d [.ref 0, .int x, .int w, .int v] σ (some (.int (-1000000001))) σ := by
  refine Ct.ofV (by decide) (Nat.le_of_ble_eq_true rfl) rfl ?_
  show V G RX6 cX6_set (some .int) 5 d _ 0 [some (.ref 0), some (.int x), some (.int w), some (.int v), none] [] _
  obtain ⟨d, rfl⟩ : ∃ e, d = e + 1 := ⟨d - 1, by omega⟩
  obtain ⟨ht, hH, hI, hL, hLI, hN, hN2⟩ := id hC
  have hT := hH.1
  have hn := hI.nc
  have hm := hI.np
  refine V_aloadn_0 dX6_set_0 ?_
  refine V_getR dX6_set_1 fl_X6_46 oC_now ?_
  refine V_iloadn_1 dX6_set_4 ?_
  refine V_cv1f dX6_set_5 cv_X6_76 (rcT tw61) (Nat.le_of_ble_eq_true rfl) (k_T_hasCellar tw61 hT) ?_
  refine V_ifB_eq dX6_set_8 19 (by decide) (fun h8 => ?_) (fun h8 => ?_)
  · refine V_ldc (-1000000001) dX6_set_19 cn_X6_66 ?_
    exact V_iret dX6_set_21 ⟨rfl, rfl⟩
  · refine V_iloadn_2 dX6_set_11 ?_
    refine V_iloadn_3 dX6_set_12 ?_
    refine V_cs2f dX6_set_13 cs_X6_62 (Nat.le_of_ble_eq_true rfl) (k_C_fits (by omega)) ?_
    refine V_ifB_ne dX6_set_16 22 (by decide) (fun h16 => ?_) (fun h16 => ?_)
    · exact absurd ⟨h8, h16⟩ hb
    · refine V_ldc (-1000000001) dX6_set_19 cn_X6_66 ?_
      exact V_iret dX6_set_21 ⟨rfl, rfl⟩

set_option maxRecDepth 100000 in
set_option maxHeartbeats 4000000 in
theorem m_set_1 {G : vG} {σ : vS} {d : Nat} (hd : 2 ≤ d) {L T : nT} (hC : MC L T σ) {c x : Nat} (hc : c < T 0 5) (hx : x ≤ 99) : Cr G yX7_set cX7_set 4 (some .int) d [.ref 97, .int (nI c), .int 1, .int (nI x)] σ (some (.int (nI (T 2 c)))) (fun σ' => MC L (Tup T 2 c x) σ' ∧ Fm σ σ') := by
  refine Ct.ofV (by decide) (Nat.le_of_ble_eq_true rfl) rfl ?_
  show V G RX7 cX7_set (some .int) 4 d _ 0 [some (.ref 97), some (.int (nI c)), some (.int 1), some (.int (nI x))] [] _
  obtain ⟨d, rfl⟩ : ∃ e, d = e + 1 := ⟨d - 1, by omega⟩
  have hI := hC.2.2.1
  have hn := hI.nc
  have hm := hI.np
  have hI2 : TI (Tup T 2 c x) := (hI.cel (k := 2) (i := c) (x := x) (by omega)).1
  refine V_aloadn_0 dX7_set_0 ?_
  refine V_iloadn_1 dX7_set_1 ?_
  refine V_cv1f dX7_set_2 cv_X7_112 rcM (Nat.le_of_ble_eq_true rfl) (k_M_isCellar (by omega) hC) ?_
  refine V_ifB_ne dX7_set_5 11 (by decide) (fun h5 => ?_) (fun h5 => ?_)
  · refine V_iloadn_2 dX7_set_11 ?_
    refine V_bipush 8 dX7_set_12 (by decide) ?_
    refine V_bipush 10 dX7_set_14 (by decide) ?_
    refine V_cs3f dX7_set_16 cs_X7_82 (Nat.le_of_ble_eq_true rfl) k_M_in ?_
    refine V_ifB_eq dX7_set_19 55 (by decide) (fun h19 => ?_) (fun h19 => ?_)
    · refine V_iloadn_2 dX7_set_55 ?_
      refine V_iconst 1 dX7_set_56 (by decide) ?_
      refine V_iconst 2 dX7_set_57 (by decide) ?_
      refine V_cs3f dX7_set_58 cs_X7_82 (Nat.le_of_ble_eq_true rfl) k_M_in ?_
      refine V_ifB_eq dX7_set_61 93 (by decide) (fun h61 => ?_) (fun h61 => ?_)
      · exact absurd (by decide) h61
      · refine V_iloadn_3 dX7_set_64 ?_
        refine V_iloadn_2 dX7_set_65 ?_
        refine V_iconst 1 dX7_set_66 (by decide) ?_
        refine V_isub dX7_set_67 ?_
        refine V_topi (y := 0) (by decide) ?_
        refine V_bipush 99 dX7_set_68 (by decide) ?_
        refine V_cs3f dX7_set_70 cs_X7_82 (Nat.le_of_ble_eq_true rfl) k_M_in ?_
        refine V_ifB_eq dX7_set_73 93 (by decide) (fun h73 => ?_) (fun h73 => ?_)
        · exact absurd (inN (a := 0) (b := 99) (by omega) hx (by decide)) h73
        · refine V_aloadn_0 dX7_set_76 ?_
          refine V_bipush 7 dX7_set_77 (by decide) ?_
          refine V_bipush 6 dX7_set_79 (by decide) ?_
          refine V_iloadn_1 dX7_set_81 ?_
          refine V_imulN (a := 6) (b := c) dX7_set_82 ?_
          refine V_iaddN (a := 7) (b := 6 * c) dX7_set_83 ?_
          refine V_iloadn_2 dX7_set_84 ?_
          refine V_iaddN (a := 7 + (6 * c)) (b := 1) dX7_set_85 ?_
          refine V_iloadn_3 dX7_set_86 ?_
          refine V_cv2f dX7_set_87 cv_X7_133 rcM (Nat.le_of_ble_eq_true rfl) (k_M_becomes (j := 7 + 6 * c + 1) (by omega)) ?_
          refine V_goto dX7_set_90 95 (by decide) ?_
          exact V_iret dX7_set_95 ⟨rI (hC.1.c2 hc), hC.next (Fm.up (by omega)) (hC.1.cel (w := 1) hn hc (by decide)) hI2 (Tup_ne (by omega)) (fun _ => Tup_ne (by omega)), Fm.up (by omega)⟩
    · exact absurd h19 (by decide)
  · exact absurd (hasN hc (by omega)) h5

set_option maxRecDepth 100000 in
set_option maxHeartbeats 4000000 in
theorem m_set_2 {G : vG} {σ : vS} {d : Nat} (hd : 2 ≤ d) {L T : nT} (hC : MC L T σ) {c x : Nat} (hc : c < T 0 5) (hx : 1 ≤ x ∧ x ≤ 99) : Cr G yX7_set cX7_set 4 (some .int) d [.ref 97, .int (nI c), .int 2, .int (nI x)] σ (some (.int (nI (T 3 c)))) (fun σ' => MC L (Tup T 3 c x) σ' ∧ Fm σ σ') := by
  refine Ct.ofV (by decide) (Nat.le_of_ble_eq_true rfl) rfl ?_
  show V G RX7 cX7_set (some .int) 4 d _ 0 [some (.ref 97), some (.int (nI c)), some (.int 2), some (.int (nI x))] [] _
  obtain ⟨d, rfl⟩ : ∃ e, d = e + 1 := ⟨d - 1, by omega⟩
  have hI := hC.2.2.1
  have hn := hI.nc
  have hm := hI.np
  have hI2 : TI (Tup T 3 c x) := (hI.cel (k := 3) (i := c) (x := x) (by omega)).1
  refine V_aloadn_0 dX7_set_0 ?_
  refine V_iloadn_1 dX7_set_1 ?_
  refine V_cv1f dX7_set_2 cv_X7_112 rcM (Nat.le_of_ble_eq_true rfl) (k_M_isCellar (by omega) hC) ?_
  refine V_ifB_ne dX7_set_5 11 (by decide) (fun h5 => ?_) (fun h5 => ?_)
  · refine V_iloadn_2 dX7_set_11 ?_
    refine V_bipush 8 dX7_set_12 (by decide) ?_
    refine V_bipush 10 dX7_set_14 (by decide) ?_
    refine V_cs3f dX7_set_16 cs_X7_82 (Nat.le_of_ble_eq_true rfl) k_M_in ?_
    refine V_ifB_eq dX7_set_19 55 (by decide) (fun h19 => ?_) (fun h19 => ?_)
    · refine V_iloadn_2 dX7_set_55 ?_
      refine V_iconst 1 dX7_set_56 (by decide) ?_
      refine V_iconst 2 dX7_set_57 (by decide) ?_
      refine V_cs3f dX7_set_58 cs_X7_82 (Nat.le_of_ble_eq_true rfl) k_M_in ?_
      refine V_ifB_eq dX7_set_61 93 (by decide) (fun h61 => ?_) (fun h61 => ?_)
      · exact absurd (by decide) h61
      · refine V_iloadn_3 dX7_set_64 ?_
        refine V_iloadn_2 dX7_set_65 ?_
        refine V_iconst 1 dX7_set_66 (by decide) ?_
        refine V_isub dX7_set_67 ?_
        refine V_topi (y := 1) (by decide) ?_
        refine V_bipush 99 dX7_set_68 (by decide) ?_
        refine V_cs3f dX7_set_70 cs_X7_82 (Nat.le_of_ble_eq_true rfl) k_M_in ?_
        refine V_ifB_eq dX7_set_73 93 (by decide) (fun h73 => ?_) (fun h73 => ?_)
        · exact absurd (inN (a := 1) (b := 99) hx.1 hx.2 (by decide)) h73
        · refine V_aloadn_0 dX7_set_76 ?_
          refine V_bipush 7 dX7_set_77 (by decide) ?_
          refine V_bipush 6 dX7_set_79 (by decide) ?_
          refine V_iloadn_1 dX7_set_81 ?_
          refine V_imulN (a := 6) (b := c) dX7_set_82 ?_
          refine V_iaddN (a := 7) (b := 6 * c) dX7_set_83 ?_
          refine V_iloadn_2 dX7_set_84 ?_
          refine V_iaddN (a := 7 + (6 * c)) (b := 2) dX7_set_85 ?_
          refine V_iloadn_3 dX7_set_86 ?_
          refine V_cv2f dX7_set_87 cv_X7_133 rcM (Nat.le_of_ble_eq_true rfl) (k_M_becomes (j := 7 + 6 * c + 2) (by omega)) ?_
          refine V_goto dX7_set_90 95 (by decide) ?_
          exact V_iret dX7_set_95 ⟨rI (hC.1.c3 hc), hC.next (Fm.up (by omega)) (hC.1.cel (w := 2) hn hc (by decide)) hI2 (Tup_ne (by omega)) (fun _ => Tup_ne (by omega)), Fm.up (by omega)⟩
    · exact absurd h19 (by decide)
  · exact absurd (hasN hc (by omega)) h5

set_option maxRecDepth 100000 in
set_option maxHeartbeats 4000000 in
theorem m_set_w {G : vG} {σ : vS} {d : Nat} (hd : 2 ≤ d) {L T : nT} (hC : MC L T σ) {c x : Nat} (hc : c < T 0 5) {s : Nat} (hs : s < 3) (hx : x ≤ 999) (hbd : bud T + 999 < 2 ^ 30) : Cr G yX7_set cX7_set 4 (some .int) d [.ref 97, .int (nI c), .int (nI (8 + s)), .int (nI x)] σ (some (.int (nI (T 4 (c * 3 + s))))) (fun σ' => MC L (Tup T 4 (c * 3 + s) x) σ' ∧ Fm σ σ') := by
  refine Ct.ofV (by decide) (Nat.le_of_ble_eq_true rfl) rfl ?_
  show V G RX7 cX7_set (some .int) 4 d _ 0 [some (.ref 97), some (.int (nI c)), some (.int (nI (8 + s))), some (.int (nI x))] [] _
  obtain ⟨d, rfl⟩ : ∃ e, d = e + 1 := ⟨d - 1, by omega⟩
  have hI := hC.2.2.1
  have hn := hI.nc
  have hm := hI.np
  have hI2 : TI (Tup T 4 (c * 3 + s) x) := hI.wine (by omega)
  refine V_aloadn_0 dX7_set_0 ?_
  refine V_iloadn_1 dX7_set_1 ?_
  refine V_cv1f dX7_set_2 cv_X7_112 rcM (Nat.le_of_ble_eq_true rfl) (k_M_isCellar (by omega) hC) ?_
  refine V_ifB_ne dX7_set_5 11 (by decide) (fun h5 => ?_) (fun h5 => ?_)
  · refine V_iloadn_2 dX7_set_11 ?_
    refine V_bipush 8 dX7_set_12 (by decide) ?_
    refine V_bipush 10 dX7_set_14 (by decide) ?_
    refine V_cs3f dX7_set_16 cs_X7_82 (Nat.le_of_ble_eq_true rfl) k_M_in ?_
    refine V_ifB_eq dX7_set_19 55 (by decide) (fun h19 => ?_) (fun h19 => ?_)
    · exact absurd (inN (a := 8) (b := 10) (by omega) (by omega) (by decide)) h19
    · refine V_iloadn_3 dX7_set_22 ?_
      refine V_iconst 0 dX7_set_23 (by decide) ?_
      refine V_sipush 999 dX7_set_24 (by decide) ?_
      refine V_cs3f dX7_set_27 cs_X7_82 (Nat.le_of_ble_eq_true rfl) k_M_in ?_
      refine V_ifB_eq dX7_set_30 52 (by decide) (fun h30 => ?_) (fun h30 => ?_)
      · exact absurd (inN (a := 0) (b := 999) (by omega) hx (by decide)) h30
      · refine V_aloadn_0 dX7_set_33 ?_
        refine V_bipush 7 dX7_set_34 (by decide) ?_
        refine V_bipush 6 dX7_set_36 (by decide) ?_
        refine V_iloadn_1 dX7_set_38 ?_
        refine V_imulN (a := 6) (b := c) dX7_set_39 ?_
        refine V_iaddN (a := 7) (b := 6 * c) dX7_set_40 ?_
        refine V_iloadn_2 dX7_set_41 ?_
        refine V_iaddN (a := 7 + (6 * c)) (b := 8 + s) dX7_set_42 ?_
        refine V_iconst 5 dX7_set_43 (by decide) ?_
        refine V_isubN (a := (7 + (6 * c)) + (8 + s)) (b := 5) dX7_set_44 (by omega) ?_
        refine V_topi (y := nI (7 + 6 * c + 3 + s)) (by congr 1; omega) ?_
        refine V_iloadn_3 dX7_set_45 ?_
        refine V_cv2f dX7_set_46 cv_X7_133 rcM (Nat.le_of_ble_eq_true rfl) (k_M_becomes (j := 7 + 6 * c + 3 + s) (by omega)) ?_
        refine V_goto dX7_set_49 54 (by decide) ?_
        exact V_iret dX7_set_54 ⟨rI (hC.1.w hc hs), hC.next (Fm.up (by omega)) (hC.1.win hn hm hc hs) hI2 (Tup_ne (by omega)) (fun _ => Tup_ne (by omega)), Fm.up (by omega)⟩
  · exact absurd (hasN hc (by omega)) h5

set_option maxRecDepth 100000 in
set_option maxHeartbeats 4000000 in
theorem m_set_bad {G : vG} {σ : vS} {d : Nat} (hd : 2 ≤ d) {L T : nT} (hC : MC L T σ) {x w v : Int32} (hb : ¬ (hasI x (T 0 5) ∧ fitsI w v)) : Cf G yX7_set cX7_set 4 (some .int) d [.ref 97, .int x, .int w, .int v] σ (some (.int (-1000000001))) σ := by
  refine Ct.ofV (by decide) (Nat.le_of_ble_eq_true rfl) rfl ?_
  show V G RX7 cX7_set (some .int) 4 d _ 0 [some (.ref 97), some (.int x), some (.int w), some (.int v)] [] _
  obtain ⟨d, rfl⟩ : ∃ e, d = e + 1 := ⟨d - 1, by omega⟩
  have hI := hC.2.2.1
  have hn := hI.nc
  have hm := hI.np
  refine V_aloadn_0 dX7_set_0 ?_
  refine V_iloadn_1 dX7_set_1 ?_
  refine V_cv1f dX7_set_2 cv_X7_112 rcM (Nat.le_of_ble_eq_true rfl) (k_M_isCellar (by omega) hC) ?_
  refine V_ifB_ne dX7_set_5 11 (by decide) (fun h5 => ?_) (fun h5 => ?_)
  · refine V_iloadn_2 dX7_set_11 ?_
    refine V_bipush 8 dX7_set_12 (by decide) ?_
    refine V_bipush 10 dX7_set_14 (by decide) ?_
    refine V_cs3f dX7_set_16 cs_X7_82 (Nat.le_of_ble_eq_true rfl) k_M_in ?_
    refine V_ifB_eq dX7_set_19 55 (by decide) (fun h19 => ?_) (fun h19 => ?_)
    · refine V_iloadn_2 dX7_set_55 ?_
      refine V_iconst 1 dX7_set_56 (by decide) ?_
      refine V_iconst 2 dX7_set_57 (by decide) ?_
      refine V_cs3f dX7_set_58 cs_X7_82 (Nat.le_of_ble_eq_true rfl) k_M_in ?_
      refine V_ifB_eq dX7_set_61 93 (by decide) (fun h61 => ?_) (fun h61 => ?_)
      · refine V_ldc (-1000000001) dX7_set_93 cn_X7_86 ?_
        exact V_iret dX7_set_95 ⟨rfl, rfl⟩
      · refine V_iloadn_3 dX7_set_64 ?_
        refine V_iloadn_2 dX7_set_65 ?_
        refine V_iconst 1 dX7_set_66 (by decide) ?_
        refine V_isub dX7_set_67 ?_
        refine V_bipush 99 dX7_set_68 (by decide) ?_
        refine V_cs3f dX7_set_70 cs_X7_82 (Nat.le_of_ble_eq_true rfl) k_M_in ?_
        refine V_ifB_eq dX7_set_73 93 (by decide) (fun h73 => ?_) (fun h73 => ?_)
        · refine V_ldc (-1000000001) dX7_set_93 cn_X7_86 ?_
          exact V_iret dX7_set_95 ⟨rfl, rfl⟩
        · exfalso
          obtain ⟨j, h1, h2, rfl⟩ := (inI_iff' (a := 1) (b := 2) (by decide) (by decide)).mp h61
          rcases (show j = 1 ∨ j = 2 by omega) with rfl | rfl
          · exact hb ⟨h5, fits1.mp h73⟩
          · exact hb ⟨h5, fits2.mp h73⟩
    · refine V_iloadn_3 dX7_set_22 ?_
      refine V_iconst 0 dX7_set_23 (by decide) ?_
      refine V_sipush 999 dX7_set_24 (by decide) ?_
      refine V_cs3f dX7_set_27 cs_X7_82 (Nat.le_of_ble_eq_true rfl) k_M_in ?_
      refine V_ifB_eq dX7_set_30 52 (by decide) (fun h30 => ?_) (fun h30 => ?_)
      · refine V_ldc (-1000000001) dX7_set_52 cn_X7_86 ?_
        exact V_iret dX7_set_54 ⟨rfl, rfl⟩
      · exact absurd ⟨h5, (fits8 (by
          obtain ⟨j, h1, h2, rfl⟩ := (inI_iff' (a := 8) (b := 10) (by decide) (by decide)).mp h19
          rcases (show j = 8 ∨ j = 9 ∨ j = 10 by omega) with rfl | rfl | rfl <;> decide)).mp h30⟩ hb
  · refine V_ldc (-1000000001) dX7_set_8 cn_X7_86 ?_
    exact V_iret dX7_set_10 ⟨rfl, rfl⟩

set_option maxRecDepth 100000 in
set_option maxHeartbeats 4000000 in
theorem op_set {G : vG} {σ : vS} {d i : Nat} (hd : 100 ≤ d) (hi : i < 512) {x w v : Int32} (h : Inv i σ) : Op G yX6_set cX6_set 5 yX7_set cX7_set 4 d [.int x, .int w, .int v] i σ := by
  have hh := h
  obtain ⟨L, T, I, b, hT, hB, hM, hS, hO, hW, hR, hK⟩ := h
  have hC := hT.1
  have hE := hT.2.1
  have hI := hC.2.2.1
  have hn := hI.nc
  have hm := hI.np
  have hbd : bud T ≤ 7992 * i := hT.2.2.1
  by_cases hx : hasI x (T 0 5) ∧ fitsI w v
  · obtain ⟨c, hc, rfl⟩ := (hasI_iff (by omega)).mp hx.1
    rcases hx.2 with ⟨rfl, h2⟩ | ⟨rfl, h2⟩ | ⟨h1, h2⟩
    · obtain ⟨x, hx9, rfl⟩ := (inI_iff (b := 99) (by decide)).mp h2
      exact Op.town (T' := Tup T 2 c x) hT hB hM hS hO hW hR hK (by rw [(hI.cel (k := 2) (i := c) (x := x) (by omega)).2]; omega) (by rw [Tup_ne (by omega)]; exact hT.2.2.2.1) (by rw [Tup_ne (by omega)]; exact hT.2.2.2.2) (Tup_ne (by omega)) (c_set_1 (by omega) hC hc hx9) (fun σ1 f1 => m_set_1 (by omega) f1 hc hx9)
    · obtain ⟨x, hx8, hx9, rfl⟩ := (inI_iff' (a := 1) (b := 99) (by decide) (by decide)).mp h2
      exact Op.town (T' := Tup T 3 c x) hT hB hM hS hO hW hR hK (by rw [(hI.cel (k := 3) (i := c) (x := x) (by omega)).2]; omega) (by rw [Tup_ne (by omega)]; exact hT.2.2.2.1) (by rw [Tup_ne (by omega)]; exact hT.2.2.2.2) (Tup_ne (by omega)) (c_set_2 (by omega) hC hc ⟨hx8, hx9⟩) (fun σ1 f1 => m_set_2 (by omega) f1 hc ⟨hx8, hx9⟩)
    · obtain ⟨x, hx9, rfl⟩ := (inI_iff (b := 999) (by decide)).mp h2
      obtain ⟨s, hs, rfl⟩ : ∃ s, s < 3 ∧ w = nI (8 + s) := by
        rcases h1 with rfl | rfl | rfl
        · exact ⟨0, by decide, rfl⟩
        · exact ⟨1, by decide, rfl⟩
        · exact ⟨2, by decide, rfl⟩
      have hb9 := bud_wine (T := T) (i := c * 3 + s) (x := x)
      exact Op.town (T' := Tup T 4 (c * 3 + s) x) hT hB hM hS hO hW hR hK (by omega) (by rw [Tup_ne (by omega)]; exact hT.2.2.2.1) (by rw [Tup_ne (by omega)]; exact hT.2.2.2.2) (Tup_ne (by omega)) (c_set_w (by omega) hC hc hs hx9 (by omega)) (fun σ1 f1 => m_set_w (by omega) f1 hc hs hx9 (by omega))
  · exact Op.ask hh (Cf.fi (c_set_bad (by omega) hC hx)) (fun σ1 f1 => Cf.fi (m_set_bad (by omega) (hE.fi f1) hx))

set_option maxRecDepth 100000 in
set_option maxHeartbeats 4000000 in
theorem c_pipe {G : vG} {σ : vS} {d : Nat} (hd : 1 ≤ d) {L T : nT} {N : Nat} (hC : TC L N 61 T σ) {a b v : Nat} (ha : a < T 0 5) (hb : b < T 0 5) (hab : a ≠ b) (hv : 1 ≤ v ∧ v ≤ 9) (hm12 : T 0 10 < 12) : Cr G yX6_pipe cX6_pipe 4 (some .int) d [.ref 0, .int (nI a), .int (nI b), .int (nI v)] σ (some (.int (nI (T 0 10)))) (fun σ' => TC L N 61 (addPT T a b v) σ' ∧ Fr 61 σ σ') := by
  refine Ct.ofV (by decide) (Nat.le_of_ble_eq_true rfl) rfl ?_
  show V G RX6 cX6_pipe (some .int) 4 d _ 0 [some (.ref 0), some (.int (nI a)), some (.int (nI b)), some (.int (nI v))] [] _
  obtain ⟨d, rfl⟩ : ∃ e, d = e + 1 := ⟨d - 1, by omega⟩
  obtain ⟨ht, hH, hI, hL, hLI, hN, hN2⟩ := id hC
  have hT := hH.1
  have hn := hI.nc
  have hm := hI.np
  refine V_aloadn_0 dX6_pipe_0 ?_
  refine V_getR dX6_pipe_1 fl_X6_46 oC_now ?_
  refine V_iloadn_1 dX6_pipe_4 ?_
  refine V_cv1f dX6_pipe_5 cv_X6_76 (rcT tw61) (Nat.le_of_ble_eq_true rfl) (k_T_hasCellar tw61 hT) ?_
  refine V_ifB_eq dX6_pipe_8 37 (by decide) (fun h8 => ?_) (fun h8 => ?_)
  · exact absurd (hasN ha (by omega)) h8
  · refine V_aloadn_0 dX6_pipe_11 ?_
    refine V_getR dX6_pipe_12 fl_X6_46 oC_now ?_
    refine V_iloadn_2 dX6_pipe_15 ?_
    refine V_cv1f dX6_pipe_16 cv_X6_76 (rcT tw61) (Nat.le_of_ble_eq_true rfl) (k_T_hasCellar tw61 hT) ?_
    refine V_ifB_eq dX6_pipe_19 37 (by decide) (fun h19 => ?_) (fun h19 => ?_)
    · exact absurd (hasN hb (by omega)) h19
    · refine V_iloadn_1 dX6_pipe_22 ?_
      refine V_iloadn_2 dX6_pipe_23 ?_
      refine V_icmpN_eq (a := a) (b := b) dX6_pipe_24 37 (by decide) (by omega) (by omega) (fun h24 => ?_) (fun h24 => ?_)
      · exact absurd h24 hab
      · refine V_iloadn_3 dX6_pipe_27 ?_
        refine V_iconst 1 dX6_pipe_28 (by decide) ?_
        refine V_bipush 9 dX6_pipe_29 (by decide) ?_
        refine V_cs3f dX6_pipe_31 cs_X6_108 (Nat.le_of_ble_eq_true rfl) k_C_within ?_
        refine V_ifB_ne dX6_pipe_34 40 (by decide) (fun h34 => ?_) (fun h34 => ?_)
        · refine V_aloadn_0 dX6_pipe_40 ?_
          refine V_getR dX6_pipe_41 fl_X6_46 oC_now ?_
          refine V_getI dX6_pipe_44 fl_X6_126 (oT_pipes tw61) ?_
          refine V_topi hT.n10 ?_
          refine V_bipush 12 dX6_pipe_47 (by decide) ?_
          refine V_icmpN_ge (a := T 0 10) (b := 12) dX6_pipe_49 65 (by decide) (by omega) (by omega) (fun h49 => ?_) (fun h49 => ?_)
          · exfalso; omega
          · refine V_aloadn_0 dX6_pipe_52 ?_
            refine V_getR dX6_pipe_53 fl_X6_46 oC_now ?_
            refine V_iloadn_1 dX6_pipe_56 ?_
            refine V_iloadn_2 dX6_pipe_57 ?_
            refine V_iloadn_3 dX6_pipe_58 ?_
            refine V_cv3r dX6_pipe_59 cv_X6_129 (rcT tw61) (Nat.le_of_ble_eq_true rfl) (k_T_addPipe hC (by omega) ha hb hab hv.2) (fun σ' h9 => ?_)
            refine V_goto dX6_pipe_62 67 (by decide) ?_
            exact V_iret dX6_pipe_67 ⟨rfl, h9⟩
        · exact absurd (inN (a := 1) (b := 9) hv.1 hv.2 (by decide)) h34

set_option maxRecDepth 100000 in
set_option maxHeartbeats 4000000 in
theorem c_pipe_full {G : vG} {σ : vS} {d : Nat} (hd : 1 ≤ d) {L T : nT} {N : Nat} (hC : TC L N 61 T σ) {a b v : Nat} (ha : a < T 0 5) (hb : b < T 0 5) (hab : a ≠ b) (hv : 1 ≤ v ∧ v ≤ 9) (hm12 : ¬ T 0 10 < 12) : Cf G yX6_pipe cX6_pipe 4 (some .int) d [.ref 0, .int (nI a), .int (nI b), .int (nI v)] σ (some (.int (-1000000003))) σ := by
  refine Ct.ofV (by decide) (Nat.le_of_ble_eq_true rfl) rfl ?_
  show V G RX6 cX6_pipe (some .int) 4 d _ 0 [some (.ref 0), some (.int (nI a)), some (.int (nI b)), some (.int (nI v))] [] _
  obtain ⟨d, rfl⟩ : ∃ e, d = e + 1 := ⟨d - 1, by omega⟩
  obtain ⟨ht, hH, hI, hL, hLI, hN, hN2⟩ := id hC
  have hT := hH.1
  have hn := hI.nc
  have hm := hI.np
  refine V_aloadn_0 dX6_pipe_0 ?_
  refine V_getR dX6_pipe_1 fl_X6_46 oC_now ?_
  refine V_iloadn_1 dX6_pipe_4 ?_
  refine V_cv1f dX6_pipe_5 cv_X6_76 (rcT tw61) (Nat.le_of_ble_eq_true rfl) (k_T_hasCellar tw61 hT) ?_
  refine V_ifB_eq dX6_pipe_8 37 (by decide) (fun h8 => ?_) (fun h8 => ?_)
  · exact absurd (hasN ha (by omega)) h8
  · refine V_aloadn_0 dX6_pipe_11 ?_
    refine V_getR dX6_pipe_12 fl_X6_46 oC_now ?_
    refine V_iloadn_2 dX6_pipe_15 ?_
    refine V_cv1f dX6_pipe_16 cv_X6_76 (rcT tw61) (Nat.le_of_ble_eq_true rfl) (k_T_hasCellar tw61 hT) ?_
    refine V_ifB_eq dX6_pipe_19 37 (by decide) (fun h19 => ?_) (fun h19 => ?_)
    · exact absurd (hasN hb (by omega)) h19
    · refine V_iloadn_1 dX6_pipe_22 ?_
      refine V_iloadn_2 dX6_pipe_23 ?_
      refine V_icmpN_eq (a := a) (b := b) dX6_pipe_24 37 (by decide) (by omega) (by omega) (fun h24 => ?_) (fun h24 => ?_)
      · exact absurd h24 hab
      · refine V_iloadn_3 dX6_pipe_27 ?_
        refine V_iconst 1 dX6_pipe_28 (by decide) ?_
        refine V_bipush 9 dX6_pipe_29 (by decide) ?_
        refine V_cs3f dX6_pipe_31 cs_X6_108 (Nat.le_of_ble_eq_true rfl) k_C_within ?_
        refine V_ifB_ne dX6_pipe_34 40 (by decide) (fun h34 => ?_) (fun h34 => ?_)
        · refine V_aloadn_0 dX6_pipe_40 ?_
          refine V_getR dX6_pipe_41 fl_X6_46 oC_now ?_
          refine V_getI dX6_pipe_44 fl_X6_126 (oT_pipes tw61) ?_
          refine V_topi hT.n10 ?_
          refine V_bipush 12 dX6_pipe_47 (by decide) ?_
          refine V_icmpN_ge (a := T 0 10) (b := 12) dX6_pipe_49 65 (by decide) (by omega) (by omega) (fun h49 => ?_) (fun h49 => ?_)
          · refine V_ldc (-1000000003) dX6_pipe_65 cn_X6_75 ?_
            exact V_iret dX6_pipe_67 ⟨rfl, rfl⟩
          · exfalso; omega
        · exact absurd (inN (a := 1) (b := 9) hv.1 hv.2 (by decide)) h34

set_option maxRecDepth 100000 in
set_option maxHeartbeats 4000000 in
theorem c_pipe_bad {G : vG} {σ : vS} {d : Nat} (hd : 1 ≤ d) {L T : nT} {N : Nat} (hC : TC L N 61 T σ) {x y z : Int32} (hb : ¬ (hasI x (T 0 5) ∧ hasI y (T 0 5) ∧ x ≠ y ∧ inI z 1 9)) : Cf G yX6_pipe cX6_pipe 4 (some .int) d [.ref 0, .int x, .int y, .int z] σ (some (.int (-1000000001))) σ := by
  refine Ct.ofV (by decide) (Nat.le_of_ble_eq_true rfl) rfl ?_
  show V G RX6 cX6_pipe (some .int) 4 d _ 0 [some (.ref 0), some (.int x), some (.int y), some (.int z)] [] _
  obtain ⟨d, rfl⟩ : ∃ e, d = e + 1 := ⟨d - 1, by omega⟩
  obtain ⟨ht, hH, hI, hL, hLI, hN, hN2⟩ := id hC
  have hT := hH.1
  have hn := hI.nc
  have hm := hI.np
  refine V_aloadn_0 dX6_pipe_0 ?_
  refine V_getR dX6_pipe_1 fl_X6_46 oC_now ?_
  refine V_iloadn_1 dX6_pipe_4 ?_
  refine V_cv1f dX6_pipe_5 cv_X6_76 (rcT tw61) (Nat.le_of_ble_eq_true rfl) (k_T_hasCellar tw61 hT) ?_
  refine V_ifB_eq dX6_pipe_8 37 (by decide) (fun h8 => ?_) (fun h8 => ?_)
  · refine V_ldc (-1000000001) dX6_pipe_37 cn_X6_66 ?_
    exact V_iret dX6_pipe_39 ⟨rfl, rfl⟩
  · refine V_aloadn_0 dX6_pipe_11 ?_
    refine V_getR dX6_pipe_12 fl_X6_46 oC_now ?_
    refine V_iloadn_2 dX6_pipe_15 ?_
    refine V_cv1f dX6_pipe_16 cv_X6_76 (rcT tw61) (Nat.le_of_ble_eq_true rfl) (k_T_hasCellar tw61 hT) ?_
    refine V_ifB_eq dX6_pipe_19 37 (by decide) (fun h19 => ?_) (fun h19 => ?_)
    · refine V_ldc (-1000000001) dX6_pipe_37 cn_X6_66 ?_
      exact V_iret dX6_pipe_39 ⟨rfl, rfl⟩
    · refine V_iloadn_1 dX6_pipe_22 ?_
      refine V_iloadn_2 dX6_pipe_23 ?_
      refine V_icmp_eq dX6_pipe_24 37 (by decide) (fun h24 => ?_) (fun h24 => ?_)
      · refine V_ldc (-1000000001) dX6_pipe_37 cn_X6_66 ?_
        exact V_iret dX6_pipe_39 ⟨rfl, rfl⟩
      · refine V_iloadn_3 dX6_pipe_27 ?_
        refine V_iconst 1 dX6_pipe_28 (by decide) ?_
        refine V_bipush 9 dX6_pipe_29 (by decide) ?_
        refine V_cs3f dX6_pipe_31 cs_X6_108 (Nat.le_of_ble_eq_true rfl) k_C_within ?_
        refine V_ifB_ne dX6_pipe_34 40 (by decide) (fun h34 => ?_) (fun h34 => ?_)
        · exact absurd ⟨h8, h19, h24, h34⟩ hb
        · refine V_ldc (-1000000001) dX6_pipe_37 cn_X6_66 ?_
          exact V_iret dX6_pipe_39 ⟨rfl, rfl⟩

set_option maxRecDepth 100000 in
set_option maxHeartbeats 4000000 in
theorem m_pipe {G : vG} {σ : vS} {d : Nat} (hd : 2 ≤ d) {L T : nT} (hC : MC L T σ) {a b v : Nat} (ha : a < T 0 5) (hb : b < T 0 5) (hab : a ≠ b) (hv : 1 ≤ v ∧ v ≤ 9) (hm12 : T 0 10 < 12) : Cr G yX7_pipe cX7_pipe 4 (some .int) d [.ref 97, .int (nI a), .int (nI b), .int (nI v)] σ (some (.int (nI (T 0 10)))) (fun σ' => MC L (addPT T a b v) σ' ∧ Fm σ σ') := by
  refine Ct.ofV (by decide) (Nat.le_of_ble_eq_true rfl) rfl ?_
  show V G RX7 cX7_pipe (some .int) 4 d _ 0 [some (.ref 97), some (.int (nI a)), some (.int (nI b)), some (.int (nI v))] [] _
  obtain ⟨d, rfl⟩ : ∃ e, d = e + 1 := ⟨d - 1, by omega⟩
  have hI := hC.2.2.1
  have hn := hI.nc
  have hm := hI.np
  refine V_aloadn_0 dX7_pipe_0 ?_
  refine V_iloadn_1 dX7_pipe_1 ?_
  refine V_cv1f dX7_pipe_2 cv_X7_112 rcM (Nat.le_of_ble_eq_true rfl) (k_M_isCellar (by omega) hC) ?_
  refine V_ifB_eq dX7_pipe_5 31 (by decide) (fun h5 => ?_) (fun h5 => ?_)
  · exact absurd (hasN ha (by omega)) h5
  · refine V_aloadn_0 dX7_pipe_8 ?_
    refine V_iloadn_2 dX7_pipe_9 ?_
    refine V_cv1f dX7_pipe_10 cv_X7_112 rcM (Nat.le_of_ble_eq_true rfl) (k_M_isCellar (by omega) hC) ?_
    refine V_ifB_eq dX7_pipe_13 31 (by decide) (fun h13 => ?_) (fun h13 => ?_)
    · exact absurd (hasN hb (by omega)) h13
    · refine V_iloadn_1 dX7_pipe_16 ?_
      refine V_iloadn_2 dX7_pipe_17 ?_
      refine V_icmpN_eq (a := a) (b := b) dX7_pipe_18 31 (by decide) (by omega) (by omega) (fun h18 => ?_) (fun h18 => ?_)
      · exact absurd h18 hab
      · refine V_iloadn_3 dX7_pipe_21 ?_
        refine V_iconst 1 dX7_pipe_22 (by decide) ?_
        refine V_bipush 9 dX7_pipe_23 (by decide) ?_
        refine V_cs3f dX7_pipe_25 cs_X7_82 (Nat.le_of_ble_eq_true rfl) k_M_in ?_
        refine V_ifB_ne dX7_pipe_28 34 (by decide) (fun h28 => ?_) (fun h28 => ?_)
        · refine V_aloadn_0 dX7_pipe_34 ?_
          refine V_getR dX7_pipe_35 fl_X7_9 oM_now ?_
          refine V_iconst 2 dX7_pipe_38 (by decide) ?_
          refine V_iald (j := 2) dX7_pipe_39 aM_now (by decide) (by decide) ?_
          refine V_topi hC.1.s2 ?_
          refine V_bipush 12 dX7_pipe_40 (by decide) ?_
          refine V_icmpN_ne (a := T 0 10) (b := 12) dX7_pipe_42 48 (by decide) (by omega) (by omega) (fun h42 => ?_) (fun h42 => ?_)
          · refine V_aloadn_0 dX7_pipe_48 ?_
            refine V_aloadn_0 dX7_pipe_49 ?_
            refine V_getR dX7_pipe_50 fl_X7_9 oM_now ?_
            refine V_iconst 2 dX7_pipe_53 (by decide) ?_
            refine V_iald (j := 2) dX7_pipe_54 aM_now (by decide) (by decide) ?_
            refine V_topi hC.1.s2 ?_
            refine V_iloadn_1 dX7_pipe_55 ?_
            refine V_iloadn_2 dX7_pipe_56 ?_
            refine V_iloadn_3 dX7_pipe_57 ?_
            refine V_cv4v dX7_pipe_58 cv_X7_136 rcM (Nat.le_of_ble_eq_true rfl) (k_M_lays (p := T 0 10) (by omega)) ?_
            refine V_aloadn_0 dX7_pipe_61 ?_
            refine V_getR dX7_pipe_62 fl_X7_9 oM_now ?_
            refine V_iconst 2 dX7_pipe_65 (by decide) ?_
            refine V_dup2 dX7_pipe_66 rfl rfl ?_
            refine V_iald (j := 2) dX7_pipe_67 aM_now (by decide) (by decide) ?_
            refine V_topi (y := nI (T 0 10)) (by (repeat rw [vup_ne (by omega)]); exact hC.1.s2) ?_
            refine V_iconst 1 dX7_pipe_68 (by decide) ?_
            refine V_iaddN (a := T 0 10) (b := 1) dX7_pipe_69 ?_
            refine V_iast (j := 2) dX7_pipe_70 aM_now (by decide) (by decide) ?_
            have hFm : Fm σ (vup (vup (vup (vup (vup σ 98 (55 + 4 * T 0 10) (nI a)) 98 (55 + 4 * T 0 10 + 1) (nI b)) 98 (55 + 4 * T 0 10 + 2) (nI v)) 98 (55 + 4 * T 0 10 + 3) 0) 98 2 (nI (T 0 10 + 1))) := ((((Fm.up (by omega)).tr (Fm.up (by omega))).tr (Fm.up (by omega))).tr (Fm.up (by omega))).tr (Fm.up (by omega))
            refine V_aloadn_0 dX7_pipe_71 ?_
            refine V_getR dX7_pipe_72 fl_X7_9 oM_now ?_
            refine V_iconst 2 dX7_pipe_75 (by decide) ?_
            refine V_iald (j := 2) dX7_pipe_76 aM_now (by decide) (by decide) ?_
            refine V_topi (y := nI (T 0 10 + 1)) vup_same ?_
            refine V_iconst 1 dX7_pipe_77 (by decide) ?_
            refine V_isubN (a := T 0 10 + 1) (b := 1) dX7_pipe_78 (by omega) ?_
            refine V_topi (y := nI (T 0 10)) (by congr 1) ?_
            exact V_iret dX7_pipe_79 ⟨rfl, hC.next hFm (hC.1.addP hn) (hI.addP (by omega) ha hb hab hv.2) (addP_k (by omega) (by omega)) (fun _ => addP_k (by omega) (by omega)), hFm⟩
          · exfalso; omega
        · exact absurd (inN (a := 1) (b := 9) hv.1 hv.2 (by decide)) h28

set_option maxRecDepth 100000 in
set_option maxHeartbeats 4000000 in
theorem m_pipe_full {G : vG} {σ : vS} {d : Nat} (hd : 2 ≤ d) {L T : nT} (hC : MC L T σ) {a b v : Nat} (ha : a < T 0 5) (hb : b < T 0 5) (hab : a ≠ b) (hv : 1 ≤ v ∧ v ≤ 9) (hm12 : T 0 10 = 12) : Cf G yX7_pipe cX7_pipe 4 (some .int) d [.ref 97, .int (nI a), .int (nI b), .int (nI v)] σ (some (.int (-1000000003))) σ := by
  refine Ct.ofV (by decide) (Nat.le_of_ble_eq_true rfl) rfl ?_
  show V G RX7 cX7_pipe (some .int) 4 d _ 0 [some (.ref 97), some (.int (nI a)), some (.int (nI b)), some (.int (nI v))] [] _
  obtain ⟨d, rfl⟩ : ∃ e, d = e + 1 := ⟨d - 1, by omega⟩
  have hI := hC.2.2.1
  have hn := hI.nc
  have hm := hI.np
  refine V_aloadn_0 dX7_pipe_0 ?_
  refine V_iloadn_1 dX7_pipe_1 ?_
  refine V_cv1f dX7_pipe_2 cv_X7_112 rcM (Nat.le_of_ble_eq_true rfl) (k_M_isCellar (by omega) hC) ?_
  refine V_ifB_eq dX7_pipe_5 31 (by decide) (fun h5 => ?_) (fun h5 => ?_)
  · exact absurd (hasN ha (by omega)) h5
  · refine V_aloadn_0 dX7_pipe_8 ?_
    refine V_iloadn_2 dX7_pipe_9 ?_
    refine V_cv1f dX7_pipe_10 cv_X7_112 rcM (Nat.le_of_ble_eq_true rfl) (k_M_isCellar (by omega) hC) ?_
    refine V_ifB_eq dX7_pipe_13 31 (by decide) (fun h13 => ?_) (fun h13 => ?_)
    · exact absurd (hasN hb (by omega)) h13
    · refine V_iloadn_1 dX7_pipe_16 ?_
      refine V_iloadn_2 dX7_pipe_17 ?_
      refine V_icmpN_eq (a := a) (b := b) dX7_pipe_18 31 (by decide) (by omega) (by omega) (fun h18 => ?_) (fun h18 => ?_)
      · exact absurd h18 hab
      · refine V_iloadn_3 dX7_pipe_21 ?_
        refine V_iconst 1 dX7_pipe_22 (by decide) ?_
        refine V_bipush 9 dX7_pipe_23 (by decide) ?_
        refine V_cs3f dX7_pipe_25 cs_X7_82 (Nat.le_of_ble_eq_true rfl) k_M_in ?_
        refine V_ifB_ne dX7_pipe_28 34 (by decide) (fun h28 => ?_) (fun h28 => ?_)
        · refine V_aloadn_0 dX7_pipe_34 ?_
          refine V_getR dX7_pipe_35 fl_X7_9 oM_now ?_
          refine V_iconst 2 dX7_pipe_38 (by decide) ?_
          refine V_iald (j := 2) dX7_pipe_39 aM_now (by decide) (by decide) ?_
          refine V_topi hC.1.s2 ?_
          refine V_bipush 12 dX7_pipe_40 (by decide) ?_
          refine V_icmpN_ne (a := T 0 10) (b := 12) dX7_pipe_42 48 (by decide) (by omega) (by omega) (fun h42 => ?_) (fun h42 => ?_)
          · exfalso; omega
          · refine V_ldc (-1000000003) dX7_pipe_45 cn_X7_87 ?_
            exact V_iret dX7_pipe_47 ⟨rfl, rfl⟩
        · exact absurd (inN (a := 1) (b := 9) hv.1 hv.2 (by decide)) h28

set_option maxRecDepth 100000 in
set_option maxHeartbeats 4000000 in
theorem m_pipe_bad {G : vG} {σ : vS} {d : Nat} (hd : 2 ≤ d) {L T : nT} (hC : MC L T σ) {x y z : Int32} (hb : ¬ (hasI x (T 0 5) ∧ hasI y (T 0 5) ∧ x ≠ y ∧ inI z 1 9)) : Cf G yX7_pipe cX7_pipe 4 (some .int) d [.ref 97, .int x, .int y, .int z] σ (some (.int (-1000000001))) σ := by
  refine Ct.ofV (by decide) (Nat.le_of_ble_eq_true rfl) rfl ?_
  show V G RX7 cX7_pipe (some .int) 4 d _ 0 [some (.ref 97), some (.int x), some (.int y), some (.int z)] [] _
  obtain ⟨d, rfl⟩ : ∃ e, d = e + 1 := ⟨d - 1, by omega⟩
  have hI := hC.2.2.1
  have hn := hI.nc
  have hm := hI.np
  refine V_aloadn_0 dX7_pipe_0 ?_
  refine V_iloadn_1 dX7_pipe_1 ?_
  refine V_cv1f dX7_pipe_2 cv_X7_112 rcM (Nat.le_of_ble_eq_true rfl) (k_M_isCellar (by omega) hC) ?_
  refine V_ifB_eq dX7_pipe_5 31 (by decide) (fun h5 => ?_) (fun h5 => ?_)
  · refine V_ldc (-1000000001) dX7_pipe_31 cn_X7_86 ?_
    exact V_iret dX7_pipe_33 ⟨rfl, rfl⟩
  · refine V_aloadn_0 dX7_pipe_8 ?_
    refine V_iloadn_2 dX7_pipe_9 ?_
    refine V_cv1f dX7_pipe_10 cv_X7_112 rcM (Nat.le_of_ble_eq_true rfl) (k_M_isCellar (by omega) hC) ?_
    refine V_ifB_eq dX7_pipe_13 31 (by decide) (fun h13 => ?_) (fun h13 => ?_)
    · refine V_ldc (-1000000001) dX7_pipe_31 cn_X7_86 ?_
      exact V_iret dX7_pipe_33 ⟨rfl, rfl⟩
    · refine V_iloadn_1 dX7_pipe_16 ?_
      refine V_iloadn_2 dX7_pipe_17 ?_
      refine V_icmp_eq dX7_pipe_18 31 (by decide) (fun h18 => ?_) (fun h18 => ?_)
      · refine V_ldc (-1000000001) dX7_pipe_31 cn_X7_86 ?_
        exact V_iret dX7_pipe_33 ⟨rfl, rfl⟩
      · refine V_iloadn_3 dX7_pipe_21 ?_
        refine V_iconst 1 dX7_pipe_22 (by decide) ?_
        refine V_bipush 9 dX7_pipe_23 (by decide) ?_
        refine V_cs3f dX7_pipe_25 cs_X7_82 (Nat.le_of_ble_eq_true rfl) k_M_in ?_
        refine V_ifB_ne dX7_pipe_28 34 (by decide) (fun h28 => ?_) (fun h28 => ?_)
        · exact absurd ⟨h5, h13, h18, h28⟩ hb
        · refine V_ldc (-1000000001) dX7_pipe_31 cn_X7_86 ?_
          exact V_iret dX7_pipe_33 ⟨rfl, rfl⟩

set_option maxRecDepth 100000 in
set_option maxHeartbeats 4000000 in
theorem op_pipe {G : vG} {σ : vS} {d i : Nat} (hd : 100 ≤ d) (hi : i < 512) {x y z : Int32} (h : Inv i σ) : Op G yX6_pipe cX6_pipe 4 yX7_pipe cX7_pipe 4 d [.int x, .int y, .int z] i σ := by
  have hh := h
  obtain ⟨L, T, I, b, hT, hB, hM, hS, hO, hW, hR, hK⟩ := h
  have hC := hT.1
  have hE := hT.2.1
  have hI := hC.2.2.1
  have hn := hI.nc
  have hm := hI.np
  have hbd : bud T ≤ 7992 * i := hT.2.2.1
  have hm12 : T 0 10 ≤ 12 := hT.2.2.2.1
  by_cases hx : hasI x (T 0 5) ∧ hasI y (T 0 5) ∧ x ≠ y ∧ inI z 1 9
  · obtain ⟨a, ha, rfl⟩ := (hasI_iff (by omega)).mp hx.1
    obtain ⟨c, hc, rfl⟩ := (hasI_iff (by omega)).mp hx.2.1
    obtain ⟨v, hv, hv2, rfl⟩ := (inI_iff' (a := 1) (b := 9) (by decide) (by decide)).mp hx.2.2.2
    have hab : a ≠ c := fun e => hx.2.2.1 (by rw [e])
    by_cases hl : T 0 10 < 12
    · exact Op.town (T' := addPT T a c v) hT hB hM hS hO hW hR hK (by rw [addP_bud]; omega) (by rw [addP_10]; omega) (by rw [addP_k (by omega) (by omega)]; exact hT.2.2.2.2) (addP_k (by omega) (by omega)) (c_pipe (by omega) hC ha hc hab ⟨hv, hv2⟩ hl) (fun σ1 f1 => m_pipe (by omega) f1 ha hc hab ⟨hv, hv2⟩ hl)
    · exact Op.ask hh (Cf.fi (c_pipe_full (by omega) hC ha hc hab ⟨hv, hv2⟩ hl)) (fun σ1 f1 => Cf.fi (m_pipe_full (by omega) (hE.fi f1) ha hc hab ⟨hv, hv2⟩ (by omega)))
  · exact Op.ask hh (Cf.fi (c_pipe_bad (by omega) hC hx)) (fun σ1 f1 => Cf.fi (m_pipe_bad (by omega) (hE.fi f1) hx))

theorem TC.cork {L : nT} {N t p x : Nat} {T : nT} {σ : vS} (h : TC L N t T σ) (hx : x ≤ 1) : TC L N t (Tup T 9 p x) (vup σ (t + 9) p (nI x)) ∧ Fr t σ (vup σ (t + 9) p (nI x)) := by
  refine ⟨h.next (Fr.up (k := 9) (by omega)) ⟨h.2.1.1.arr (by omega), fun c hc => ?_⟩ (h.2.2.1.ck hx).1 (Tup_ne (by omega)), Fr.up (k := 9) (by omega)⟩
  rw [Tup_ne (by omega)] at hc
  rw [vup_p (by omega), h.2.1.2 c hc, high_eq (T' := Tup T 9 p x) (T := T) (Tup_ne (by omega)) (Tup_ne (by omega)) (Tup_ne (by omega)) (fun s _ => Tup_ne (by omega))]

set_option maxRecDepth 100000 in
set_option maxHeartbeats 4000000 in
theorem c_cork {G : vG} {σ : vS} {d : Nat} (hd : 1 ≤ d) {L T : nT} {N : Nat} (hC : TC L N 61 T σ) {p x : Nat} (hp : p < T 0 10) (hx : x ≤ 1) : Cr G yX6_cork cX6_cork 4 (some .int) d [.ref 0, .int (nI p), .int (nI x)] σ (some (.int (nI (T 9 p)))) (fun σ' => TC L N 61 (Tup T 9 p x) σ' ∧ Fr 61 σ σ') := by
  refine Ct.ofV (by decide) (Nat.le_of_ble_eq_true rfl) rfl ?_
  show V G RX6 cX6_cork (some .int) 4 d _ 0 [some (.ref 0), some (.int (nI p)), some (.int (nI x)), none] [] _
  obtain ⟨d, rfl⟩ : ∃ e, d = e + 1 := ⟨d - 1, by omega⟩
  obtain ⟨ht, hH, hI, hL, hLI, hN, hN2⟩ := id hC
  have hT := hH.1
  have hn := hI.nc
  have hm := hI.np
  refine V_aloadn_0 dX6_cork_0 ?_
  refine V_getR dX6_cork_1 fl_X6_46 oC_now ?_
  refine V_iloadn_1 dX6_cork_4 ?_
  refine V_cv1f dX6_cork_5 cv_X6_132 (rcT tw61) (Nat.le_of_ble_eq_true rfl) (k_T_hasPipe tw61 hT) ?_
  refine V_ifB_eq dX6_cork_8 20 (by decide) (fun h8 => ?_) (fun h8 => ?_)
  · exact absurd (hasN hp (by omega)) h8
  · refine V_iloadn_2 dX6_cork_11 ?_
    refine V_iconst 0 dX6_cork_12 (by decide) ?_
    refine V_iconst 1 dX6_cork_13 (by decide) ?_
    refine V_cs3f dX6_cork_14 cs_X6_108 (Nat.le_of_ble_eq_true rfl) k_C_within ?_
    refine V_ifB_ne dX6_cork_17 23 (by decide) (fun h17 => ?_) (fun h17 => ?_)
    · refine V_aloadn_0 dX6_cork_23 ?_
      refine V_getR dX6_cork_24 fl_X6_46 oC_now ?_
      refine V_getR dX6_cork_27 fl_X6_144 (oT_corked tw61) ?_
      refine V_iloadn_1 dX6_cork_30 ?_
      refine V_iald (j := p) dX6_cork_31 (aT_corked tw61) (by omega) (by decide) ?_
      refine V_topi (hT.k9 (by omega)) ?_
      refine V_istoren_3 dX6_cork_32 (by first | exact rfl | exact True.intro) (by decide) ?_
      refine V_aloadn_0 dX6_cork_33 ?_
      refine V_getR dX6_cork_34 fl_X6_46 oC_now ?_
      refine V_getR dX6_cork_37 fl_X6_144 (oT_corked tw61) ?_
      refine V_iloadn_1 dX6_cork_40 ?_
      refine V_iloadn_2 dX6_cork_41 ?_
      refine V_iast (j := p) dX6_cork_42 (aT_corked tw61) (by omega) (by decide) ?_
      refine V_iloadn_3 dX6_cork_43 ?_
      exact V_iret dX6_cork_44 ⟨rfl, hC.cork hx⟩
    · exact absurd (inN (a := 0) (b := 1) (by omega) hx (by decide)) h17

set_option maxRecDepth 100000 in
set_option maxHeartbeats 4000000 in
theorem c_cork_bad {G : vG} {σ : vS} {d : Nat} (hd : 1 ≤ d) {L T : nT} {N : Nat} (hC : TC L N 61 T σ) {x y : Int32} (hb : ¬ (hasI x (T 0 10) ∧ inI y 0 1)) : Cf G yX6_cork cX6_cork 4 (some .int) d [.ref 0, .int x, .int y] σ (some (.int (-1000000001))) σ := by
  refine Ct.ofV (by decide) (Nat.le_of_ble_eq_true rfl) rfl ?_
  show V G RX6 cX6_cork (some .int) 4 d _ 0 [some (.ref 0), some (.int x), some (.int y), none] [] _
  obtain ⟨d, rfl⟩ : ∃ e, d = e + 1 := ⟨d - 1, by omega⟩
  obtain ⟨ht, hH, hI, hL, hLI, hN, hN2⟩ := id hC
  have hT := hH.1
  have hn := hI.nc
  have hm := hI.np
  refine V_aloadn_0 dX6_cork_0 ?_
  refine V_getR dX6_cork_1 fl_X6_46 oC_now ?_
  refine V_iloadn_1 dX6_cork_4 ?_
  refine V_cv1f dX6_cork_5 cv_X6_132 (rcT tw61) (Nat.le_of_ble_eq_true rfl) (k_T_hasPipe tw61 hT) ?_
  refine V_ifB_eq dX6_cork_8 20 (by decide) (fun h8 => ?_) (fun h8 => ?_)
  · refine V_ldc (-1000000001) dX6_cork_20 cn_X6_66 ?_
    exact V_iret dX6_cork_22 ⟨rfl, rfl⟩
  · refine V_iloadn_2 dX6_cork_11 ?_
    refine V_iconst 0 dX6_cork_12 (by decide) ?_
    refine V_iconst 1 dX6_cork_13 (by decide) ?_
    refine V_cs3f dX6_cork_14 cs_X6_108 (Nat.le_of_ble_eq_true rfl) k_C_within ?_
    refine V_ifB_ne dX6_cork_17 23 (by decide) (fun h17 => ?_) (fun h17 => ?_)
    · exact absurd ⟨h8, h17⟩ hb
    · refine V_ldc (-1000000001) dX6_cork_20 cn_X6_66 ?_
      exact V_iret dX6_cork_22 ⟨rfl, rfl⟩

set_option maxRecDepth 100000 in
set_option maxHeartbeats 4000000 in
theorem m_cork {G : vG} {σ : vS} {d : Nat} (hd : 2 ≤ d) {L T : nT} (hC : MC L T σ) {p x : Nat} (hp : p < T 0 10) (hx : x ≤ 1) : Cr G yX7_cork cX7_cork 3 (some .int) d [.ref 97, .int (nI p), .int (nI x)] σ (some (.int (nI (T 9 p)))) (fun σ' => MC L (Tup T 9 p x) σ' ∧ Fm σ σ') := by
  refine Ct.ofV (by decide) (Nat.le_of_ble_eq_true rfl) rfl ?_
  show V G RX7 cX7_cork (some .int) 3 d _ 0 [some (.ref 97), some (.int (nI p)), some (.int (nI x))] [] _
  obtain ⟨d, rfl⟩ : ∃ e, d = e + 1 := ⟨d - 1, by omega⟩
  have hI := hC.2.2.1
  have hn := hI.nc
  have hm := hI.np
  refine V_aloadn_0 dX7_cork_0 ?_
  refine V_iloadn_1 dX7_cork_1 ?_
  refine V_cv1f dX7_cork_2 cv_X7_146 rcM (Nat.le_of_ble_eq_true rfl) (k_M_isPipe (by omega) hC) ?_
  refine V_ifB_eq dX7_cork_5 33 (by decide) (fun h5 => ?_) (fun h5 => ?_)
  · exact absurd (hasN hp (by omega)) h5
  · refine V_iloadn_2 dX7_cork_8 ?_
    refine V_iconst 0 dX7_cork_9 (by decide) ?_
    refine V_iconst 1 dX7_cork_10 (by decide) ?_
    refine V_cs3f dX7_cork_11 cs_X7_82 (Nat.le_of_ble_eq_true rfl) k_M_in ?_
    refine V_ifB_eq dX7_cork_14 33 (by decide) (fun h14 => ?_) (fun h14 => ?_)
    · exact absurd (inN (a := 0) (b := 1) (by omega) hx (by decide)) h14
    · refine V_aloadn_0 dX7_cork_17 ?_
      refine V_bipush 55 dX7_cork_18 (by decide) ?_
      refine V_iconst 4 dX7_cork_20 (by decide) ?_
      refine V_iloadn_1 dX7_cork_21 ?_
      refine V_imulN (a := 4) (b := p) dX7_cork_22 ?_
      refine V_iaddN (a := 55) (b := 4 * p) dX7_cork_23 ?_
      refine V_iconst 3 dX7_cork_24 (by decide) ?_
      refine V_iaddN (a := 55 + (4 * p)) (b := 3) dX7_cork_25 ?_
      refine V_iloadn_2 dX7_cork_26 ?_
      refine V_cv2f dX7_cork_27 cv_X7_133 rcM (Nat.le_of_ble_eq_true rfl) (k_M_becomes (by omega)) ?_
      refine V_goto dX7_cork_30 35 (by decide) ?_
      exact V_iret dX7_cork_35 ⟨rI (hC.1.p9 hp), hC.next (Fm.up (by omega)) (hC.1.cork hn hp) (hI.ck hx).1 (Tup_ne (by omega)) (fun _ => Tup_ne (by omega)), Fm.up (by omega)⟩

set_option maxRecDepth 100000 in
set_option maxHeartbeats 4000000 in
theorem m_cork_bad {G : vG} {σ : vS} {d : Nat} (hd : 2 ≤ d) {L T : nT} (hC : MC L T σ) {x y : Int32} (hb : ¬ (hasI x (T 0 10) ∧ inI y 0 1)) : Cf G yX7_cork cX7_cork 3 (some .int) d [.ref 97, .int x, .int y] σ (some (.int (-1000000001))) σ := by
  refine Ct.ofV (by decide) (Nat.le_of_ble_eq_true rfl) rfl ?_
  show V G RX7 cX7_cork (some .int) 3 d _ 0 [some (.ref 97), some (.int x), some (.int y)] [] _
  obtain ⟨d, rfl⟩ : ∃ e, d = e + 1 := ⟨d - 1, by omega⟩
  have hI := hC.2.2.1
  have hn := hI.nc
  have hm := hI.np
  refine V_aloadn_0 dX7_cork_0 ?_
  refine V_iloadn_1 dX7_cork_1 ?_
  refine V_cv1f dX7_cork_2 cv_X7_146 rcM (Nat.le_of_ble_eq_true rfl) (k_M_isPipe (by omega) hC) ?_
  refine V_ifB_eq dX7_cork_5 33 (by decide) (fun h5 => ?_) (fun h5 => ?_)
  · refine V_ldc (-1000000001) dX7_cork_33 cn_X7_86 ?_
    exact V_iret dX7_cork_35 ⟨rfl, rfl⟩
  · refine V_iloadn_2 dX7_cork_8 ?_
    refine V_iconst 0 dX7_cork_9 (by decide) ?_
    refine V_iconst 1 dX7_cork_10 (by decide) ?_
    refine V_cs3f dX7_cork_11 cs_X7_82 (Nat.le_of_ble_eq_true rfl) k_M_in ?_
    refine V_ifB_eq dX7_cork_14 33 (by decide) (fun h14 => ?_) (fun h14 => ?_)
    · refine V_ldc (-1000000001) dX7_cork_33 cn_X7_86 ?_
      exact V_iret dX7_cork_35 ⟨rfl, rfl⟩
    · exact absurd ⟨h5, h14⟩ hb

set_option maxRecDepth 100000 in
set_option maxHeartbeats 4000000 in
theorem op_cork {G : vG} {σ : vS} {d i : Nat} (hd : 100 ≤ d) (hi : i < 512) {x y : Int32} (h : Inv i σ) : Op G yX6_cork cX6_cork 4 yX7_cork cX7_cork 3 d [.int x, .int y] i σ := by
  have hh := h
  obtain ⟨L, T, I, b, hT, hB, hM, hS, hO, hW, hR, hK⟩ := h
  have hC := hT.1
  have hE := hT.2.1
  have hI := hC.2.2.1
  have hn := hI.nc
  have hm := hI.np
  have hbd : bud T ≤ 7992 * i := hT.2.2.1
  by_cases hx : hasI x (T 0 10) ∧ inI y 0 1
  · obtain ⟨p, hp, rfl⟩ := (hasI_iff (by omega)).mp hx.1
    obtain ⟨v, hv, rfl⟩ := (inI_iff (b := 1) (by decide)).mp hx.2
    exact Op.town (T' := Tup T 9 p v) hT hB hM hS hO hW hR hK (by rw [(hI.ck (i := p) hv).2]; omega) (by rw [Tup_ne (by omega)]; exact hT.2.2.2.1) (by rw [Tup_ne (by omega)]; exact hT.2.2.2.2) (Tup_ne (by omega)) (c_cork (by omega) hC hp hv) (fun σ1 f1 => m_cork (by omega) f1 hp hv)
  · exact Op.ask hh (Cf.fi (c_cork_bad (by omega) hC hx)) (fun σ1 f1 => Cf.fi (m_cork_bad (by omega) (hE.fi f1) hx))

theorem TI.thi {T : nT} {x : Nat} (h : TI T) (hx : x ≤ 100) : TI (Tup T 0 12 x) ∧ bud (Tup T 0 12 x) = bud T := by
  obtain ⟨i1, i2, i3, i4, i5, i6, i7, i8, i9⟩ := h
  have e : ∀ a j, ¬ (a = 0 ∧ j = 12) → Tup T 0 12 x a j = T a j := fun a j g => Tup_ne g
  have hb : bud (Tup T 0 12 x) = bud T := by
    unfold bud
    rw [e 0 5 (by omega), e 0 11 (by omega), sum_eq _ (fun c _ => full_eq (fun s _ => e 4 _ (by omega)))]
  refine ⟨⟨by rw [e 0 5 (by omega)]; exact i1, by rw [e 0 10 (by omega)]; exact i2, fun c hc => ?_, fun p hp => ?_, by unfold bud at hb; omega, by rw [Tup_same]; exact hx, by rw [e 0 14 (by omega)]; exact i7, by rw [e 0 15 (by omega)]; exact i8, fun q hq => by rw [e 10 q (by omega), e 0 15 (by omega)]; exact i9 q hq⟩, hb⟩
  · rw [e 0 5 (by omega)] at hc
    rw [e 1 c (by omega), e 2 c (by omega), e 3 c (by omega)]
    exact i3 c hc
  · rw [e 0 10 (by omega)] at hp
    rw [e 0 5 (by omega), e 6 p (by omega), e 7 p (by omega), e 8 p (by omega), e 9 p (by omega)]
    exact i4 p hp

set_option maxRecDepth 100000 in
set_option maxHeartbeats 4000000 in
theorem c_thirst {G : vG} {σ : vS} {d : Nat} (hd : 1 ≤ d) {L T : nT} {N : Nat} (hC : TC L N 61 T σ) {x : Nat} (hx : x ≤ 100) : Cr G yX6_thirst cX6_thirst 3 (some .int) d [.ref 0, .int (nI x)] σ (some (.int (nI (T 0 12)))) (fun σ' => TC L N 61 (Tup T 0 12 x) σ' ∧ Fr 61 σ σ') := by
  refine Ct.ofV (by decide) (Nat.le_of_ble_eq_true rfl) rfl ?_
  show V G RX6 cX6_thirst (some .int) 3 d _ 0 [some (.ref 0), some (.int (nI x)), none] [] _
  obtain ⟨d, rfl⟩ : ∃ e, d = e + 1 := ⟨d - 1, by omega⟩
  obtain ⟨ht, hH, hI, hL, hLI, hN, hN2⟩ := id hC
  have hT := hH.1
  have hn := hI.nc
  have hm := hI.np
  refine V_iloadn_1 dX6_thirst_0 ?_
  refine V_iconst 0 dX6_thirst_1 (by decide) ?_
  refine V_bipush 100 dX6_thirst_2 (by decide) ?_
  refine V_cs3f dX6_thirst_4 cs_X6_108 (Nat.le_of_ble_eq_true rfl) k_C_within ?_
  refine V_ifB_ne dX6_thirst_7 13 (by decide) (fun h7 => ?_) (fun h7 => ?_)
  · refine V_aloadn_0 dX6_thirst_13 ?_
    refine V_getR dX6_thirst_14 fl_X6_46 oC_now ?_
    refine V_getI dX6_thirst_17 fl_X6_150 (oT_thirst tw61) ?_
    refine V_topi hT.n12 ?_
    refine V_istoren_2 dX6_thirst_20 (by first | exact rfl | exact True.intro) (by decide) ?_
    refine V_aloadn_0 dX6_thirst_21 ?_
    refine V_getR dX6_thirst_22 fl_X6_46 oC_now ?_
    refine V_iloadn_1 dX6_thirst_25 ?_
    refine V_putI dX6_thirst_26 fp_X6_150 (oT_thirst tw61) ?_
    refine V_iloadn_2 dX6_thirst_29 ?_
    exact V_iret dX6_thirst_30 ⟨rfl, hC.sc (by omega) (hI.thi hx).1, Fr.up (k := 0) (by omega)⟩
  · exact absurd (inN (a := 0) (b := 100) (by omega) hx (by decide)) h7

set_option maxRecDepth 100000 in
set_option maxHeartbeats 4000000 in
theorem c_thirst_bad {G : vG} {σ : vS} {d : Nat} (hd : 1 ≤ d) {L T : nT} {N : Nat} (hC : TC L N 61 T σ) {x : Int32} (hb : ¬ (inI x 0 100)) : Cf G yX6_thirst cX6_thirst 3 (some .int) d [.ref 0, .int x] σ (some (.int (-1000000001))) σ := by
  refine Ct.ofV (by decide) (Nat.le_of_ble_eq_true rfl) rfl ?_
  show V G RX6 cX6_thirst (some .int) 3 d _ 0 [some (.ref 0), some (.int x), none] [] _
  obtain ⟨d, rfl⟩ : ∃ e, d = e + 1 := ⟨d - 1, by omega⟩
  obtain ⟨ht, hH, hI, hL, hLI, hN, hN2⟩ := id hC
  have hT := hH.1
  have hn := hI.nc
  have hm := hI.np
  refine V_iloadn_1 dX6_thirst_0 ?_
  refine V_iconst 0 dX6_thirst_1 (by decide) ?_
  refine V_bipush 100 dX6_thirst_2 (by decide) ?_
  refine V_cs3f dX6_thirst_4 cs_X6_108 (Nat.le_of_ble_eq_true rfl) k_C_within ?_
  refine V_ifB_ne dX6_thirst_7 13 (by decide) (fun h7 => ?_) (fun h7 => ?_)
  · exact absurd h7 hb
  · refine V_ldc (-1000000001) dX6_thirst_10 cn_X6_66 ?_
    exact V_iret dX6_thirst_12 ⟨rfl, rfl⟩

set_option maxRecDepth 100000 in
set_option maxHeartbeats 4000000 in
theorem m_thirst {G : vG} {σ : vS} {d : Nat} (hd : 1 ≤ d) {L T : nT} (hC : MC L T σ) {x : Nat} (hx : x ≤ 100) : Cr G yX7_thirst cX7_thirst 2 (some .int) d [.ref 97, .int (nI x)] σ (some (.int (nI (T 0 12)))) (fun σ' => MC L (Tup T 0 12 x) σ' ∧ Fm σ σ') := by
  refine Ct.ofV (by decide) (Nat.le_of_ble_eq_true rfl) rfl ?_
  show V G RX7 cX7_thirst (some .int) 2 d _ 0 [some (.ref 97), some (.int (nI x))] [] _
  obtain ⟨d, rfl⟩ : ∃ e, d = e + 1 := ⟨d - 1, by omega⟩
  have hI := hC.2.2.1
  have hn := hI.nc
  have hm := hI.np
  refine V_iloadn_1 dX7_thirst_0 ?_
  refine V_iconst 0 dX7_thirst_1 (by decide) ?_
  refine V_bipush 100 dX7_thirst_2 (by decide) ?_
  refine V_cs3f dX7_thirst_4 cs_X7_82 (Nat.le_of_ble_eq_true rfl) k_M_in ?_
  refine V_ifB_eq dX7_thirst_7 19 (by decide) (fun h7 => ?_) (fun h7 => ?_)
  · exact absurd (inN (a := 0) (b := 100) (by omega) hx (by decide)) h7
  · refine V_aloadn_0 dX7_thirst_10 ?_
    refine V_iconst 4 dX7_thirst_11 (by decide) ?_
    refine V_iloadn_1 dX7_thirst_12 ?_
    refine V_cv2f dX7_thirst_13 cv_X7_133 rcM (Nat.le_of_ble_eq_true rfl) (k_M_becomes (j := 4) (by omega)) ?_
    refine V_goto dX7_thirst_16 21 (by decide) ?_
    exact V_iret dX7_thirst_21 ⟨rI hC.1.s4, hC.sc (by omega) (hI.thi hx).1, Fm.up (by omega)⟩

set_option maxRecDepth 100000 in
set_option maxHeartbeats 4000000 in
theorem m_thirst_bad {G : vG} {σ : vS} {d : Nat} (hd : 1 ≤ d) {L T : nT} (hC : MC L T σ) {x : Int32} (hb : ¬ (inI x 0 100)) : Cf G yX7_thirst cX7_thirst 2 (some .int) d [.ref 97, .int x] σ (some (.int (-1000000001))) σ := by
  refine Ct.ofV (by decide) (Nat.le_of_ble_eq_true rfl) rfl ?_
  show V G RX7 cX7_thirst (some .int) 2 d _ 0 [some (.ref 97), some (.int x)] [] _
  obtain ⟨d, rfl⟩ : ∃ e, d = e + 1 := ⟨d - 1, by omega⟩
  have hI := hC.2.2.1
  have hn := hI.nc
  have hm := hI.np
  refine V_iloadn_1 dX7_thirst_0 ?_
  refine V_iconst 0 dX7_thirst_1 (by decide) ?_
  refine V_bipush 100 dX7_thirst_2 (by decide) ?_
  refine V_cs3f dX7_thirst_4 cs_X7_82 (Nat.le_of_ble_eq_true rfl) k_M_in ?_
  refine V_ifB_eq dX7_thirst_7 19 (by decide) (fun h7 => ?_) (fun h7 => ?_)
  · refine V_ldc (-1000000001) dX7_thirst_19 cn_X7_86 ?_
    exact V_iret dX7_thirst_21 ⟨rfl, rfl⟩
  · exact absurd h7 hb

set_option maxRecDepth 100000 in
set_option maxHeartbeats 4000000 in
theorem op_thirst {G : vG} {σ : vS} {d i : Nat} (hd : 100 ≤ d) (hi : i < 512) {x : Int32} (h : Inv i σ) : Op G yX6_thirst cX6_thirst 3 yX7_thirst cX7_thirst 2 d [.int x] i σ := by
  have hh := h
  obtain ⟨L, T, I, b, hT, hB, hM, hS, hO, hW, hR, hK⟩ := h
  have hC := hT.1
  have hE := hT.2.1
  have hI := hC.2.2.1
  have hn := hI.nc
  have hm := hI.np
  have hbd : bud T ≤ 7992 * i := hT.2.2.1
  by_cases hx : inI x 0 100
  · obtain ⟨v, hv, rfl⟩ := (inI_iff (b := 100) (by decide)).mp hx
    exact Op.town (T' := Tup T 0 12 v) hT hB hM hS hO hW hR hK (by rw [(hI.thi hv).2]; omega) (by rw [Tup_ne (by omega)]; exact hT.2.2.2.1) (by rw [Tup_ne (by omega)]; exact hT.2.2.2.2) (Tup_ne (by omega)) (c_thirst (by omega) hC hv) (fun σ1 f1 => m_thirst (by omega) f1 hv)
  · exact Op.ask hh (Cf.fi (c_thirst_bad (by omega) hC hx)) (fun σ1 f1 => Cf.fi (m_thirst_bad (by omega) (hE.fi f1) hx))

set_option maxRecDepth 100000 in
set_option maxHeartbeats 4000000 in
theorem c_seed {G : vG} {σ : vS} {d : Nat} {L T : nT} {N : Nat} (hC : TC L N 61 T σ) {z : Nat} (hz : z < 2 ^ 32) : Cr G yX6_seed cX6_seed 3 (some .int) d [.ref 0, .int (nI z)] σ (some (.int (nI (T 0 14)))) (fun σ' => TC L N 61 (Tup T 0 14 z) σ' ∧ Fr 61 σ σ') := by
  refine Ct.ofV (by decide) (Nat.le_of_ble_eq_true rfl) rfl ?_
  show V G RX6 cX6_seed (some .int) 3 d _ 0 [some (.ref 0), some (.int (nI z)), none] [] _
  obtain ⟨ht, hH, hI, hL, hLI, hN, hN2⟩ := id hC
  have hT := hH.1
  have hn := hI.nc
  have hm := hI.np
  refine V_aloadn_0 dX6_seed_0 ?_
  refine V_getR dX6_seed_1 fl_X6_46 oC_now ?_
  refine V_getI dX6_seed_4 fl_X6_161 (oT_z tw61) ?_
  refine V_topi hT.n14 ?_
  refine V_istoren_2 dX6_seed_7 (by first | exact rfl | exact True.intro) (by decide) ?_
  refine V_aloadn_0 dX6_seed_8 ?_
  refine V_getR dX6_seed_9 fl_X6_46 oC_now ?_
  refine V_iloadn_1 dX6_seed_12 ?_
  refine V_putI dX6_seed_13 fp_X6_161 (oT_z tw61) ?_
  refine V_iloadn_2 dX6_seed_16 ?_
  exact V_iret dX6_seed_17 ⟨rfl, hC.sc (by omega) (hI.zz hz), Fr.up (k := 0) (by omega)⟩

set_option maxRecDepth 100000 in
set_option maxHeartbeats 4000000 in
theorem m_seed {G : vG} {σ : vS} {d : Nat} (hd : 1 ≤ d) {L T : nT} (hC : MC L T σ) {z : Nat} (hz : z < 2 ^ 32) : Cr G yX7_seed cX7_seed 2 (some .int) d [.ref 97, .int (nI z)] σ (some (.int (nI (T 0 14)))) (fun σ' => MC L (Tup T 0 14 z) σ' ∧ Fm σ σ') := by
  refine Ct.ofV (by decide) (Nat.le_of_ble_eq_true rfl) rfl ?_
  show V G RX7 cX7_seed (some .int) 2 d _ 0 [some (.ref 97), some (.int (nI z))] [] _
  obtain ⟨d, rfl⟩ : ∃ e, d = e + 1 := ⟨d - 1, by omega⟩
  have hI := hC.2.2.1
  have hn := hI.nc
  have hm := hI.np
  refine V_aloadn_0 dX7_seed_0 ?_
  refine V_iconst 0 dX7_seed_1 (by decide) ?_
  refine V_iloadn_1 dX7_seed_2 ?_
  refine V_cv2f dX7_seed_3 cv_X7_133 rcM (Nat.le_of_ble_eq_true rfl) (k_M_becomes (j := 0) (by omega)) ?_
  exact V_iret dX7_seed_6 ⟨rI hC.1.s0, hC.sc (by omega) (hI.zz hz), Fm.up (by omega)⟩

set_option maxRecDepth 100000 in
set_option maxHeartbeats 4000000 in
theorem op_seed {G : vG} {σ : vS} {d i : Nat} (hd : 100 ≤ d) (hi : i < 512) {x : Int32} (h : Inv i σ) : Op G yX6_seed cX6_seed 3 yX7_seed cX7_seed 2 d [.int x] i σ := by
  have hh := h
  obtain ⟨L, T, I, b, hT, hB, hM, hS, hO, hW, hR, hK⟩ := h
  have hC := hT.1
  have hE := hT.2.1
  have hI := hC.2.2.1
  have hn := hI.nc
  have hm := hI.np
  have hbd : bud T ≤ 7992 * i := hT.2.2.1
  obtain ⟨z, hz, rfl⟩ := i32_nat x
  exact Op.town (T' := Tup T 0 14 z) hT hB hM hS hO hW hR hK (by have := (step_z (T := T) z).2; omega) (by rw [Tup_ne (by omega)]; exact hT.2.2.2.1) (by rw [Tup_ne (by omega)]; exact hT.2.2.2.2) (Tup_ne (by omega)) (c_seed hC hz) (fun σ1 f1 => m_seed (by omega) f1 hz)

set_option maxRecDepth 100000 in
set_option maxHeartbeats 4000000 in
theorem c_hours {G : vG} {σ : vS} {d : Nat} (hd : 6 ≤ d) {L T : nT} {N : Nat} (hC : TC L N 61 T σ) {n : Nat} (hn1 : 1 ≤ n) (hn100 : n ≤ 100) (h13 : T 0 13 ≤ 9999) : Cr G yX6_hours cX6_hours 3 (some .int) d [.ref 0, .int (nI n)] σ (some (.int (nI (hoursT L (min n (9999 - T 0 13)) T 0 11) - nI (T 0 11)))) (fun σ' => TC L N 61 (hoursT L (min n (9999 - T 0 13)) T) σ' ∧ Fr 61 σ σ') := by
  refine Ct.ofV (by decide) (Nat.le_of_ble_eq_true rfl) rfl ?_
  show V G RX6 cX6_hours (some .int) 3 d _ 0 [some (.ref 0), some (.int (nI n)), none] [] _
  obtain ⟨d, rfl⟩ : ∃ e, d = e + 1 := ⟨d - 1, by omega⟩
  obtain ⟨ht, hH, hI, hL, hLI, hN, hN2⟩ := id hC
  have hT := hH.1
  have hn := hI.nc
  have hm := hI.np
  refine V_iloadn_1 dX6_hours_0 ?_
  refine V_iconst 1 dX6_hours_1 (by decide) ?_
  refine V_bipush 100 dX6_hours_2 (by decide) ?_
  refine V_cs3f dX6_hours_4 cs_X6_108 (Nat.le_of_ble_eq_true rfl) k_C_within ?_
  refine V_ifB_ne dX6_hours_7 13 (by decide) (fun h7 => ?_) (fun h7 => ?_)
  · refine V_aloadn_0 dX6_hours_13 ?_
    refine V_getR dX6_hours_14 fl_X6_46 oC_now ?_
    refine V_getI dX6_hours_17 fl_X6_164 (oT_spilt tw61) ?_
    refine V_topi hT.n11 ?_
    refine V_istoren_2 dX6_hours_20 (by first | exact rfl | exact True.intro) (by decide) ?_
    refine V_aloadn_0 dX6_hours_21 ?_
    refine V_getR dX6_hours_22 fl_X6_46 oC_now ?_
    refine V_iloadn_1 dX6_hours_25 ?_
    refine V_sipush 9999 dX6_hours_26 (by decide) ?_
    refine V_aloadn_0 dX6_hours_29 ?_
    refine V_getR dX6_hours_30 fl_X6_46 oC_now ?_
    refine V_getI dX6_hours_33 fl_X6_167 (oT_hour tw61) ?_
    refine V_topi hT.n13 ?_
    refine V_isubN (a := 9999) (b := T 0 13) dX6_hours_36 (by omega) ?_
    refine V_mminN (a := n) (b := 9999 - (T 0 13)) dX6_hours_37 ml_X6_153 (Nat.le_of_ble_eq_true rfl) (by omega) (by omega) ?_
    refine V_cv1n dX6_hours_40 cv_X6_170 (rcT tw61) (Nat.le_of_ble_eq_true rfl) (k_T_passHours (by omega) hC (by omega)) (fun σ' h9 => ?_)
    refine V_aloadn_0 dX6_hours_43 ?_
    refine V_getR dX6_hours_44 fl_X6_46 oC_now ?_
    refine V_getI dX6_hours_47 fl_X6_164 (oT_spilt tw61) ?_
    refine V_topi (y := nI (hoursT L (min n (9999 - T 0 13)) T 0 11)) h9.1.2.1.1.n11 ?_
    refine V_iloadn_2 dX6_hours_50 ?_
    refine V_isub dX6_hours_51 ?_
    exact V_iret dX6_hours_52 ⟨rfl, h9⟩
  · exact absurd (inN (a := 1) (b := 100) hn1 hn100 (by decide)) h7

set_option maxRecDepth 100000 in
set_option maxHeartbeats 4000000 in
theorem c_hours_bad {G : vG} {σ : vS} {d : Nat} (hd : 6 ≤ d) {L T : nT} {N : Nat} (hC : TC L N 61 T σ) {x : Int32} (hb : ¬ (inI x 1 100)) : Cf G yX6_hours cX6_hours 3 (some .int) d [.ref 0, .int x] σ (some (.int (-1000000001))) σ := by
  refine Ct.ofV (by decide) (Nat.le_of_ble_eq_true rfl) rfl ?_
  show V G RX6 cX6_hours (some .int) 3 d _ 0 [some (.ref 0), some (.int x), none] [] _
  obtain ⟨d, rfl⟩ : ∃ e, d = e + 1 := ⟨d - 1, by omega⟩
  obtain ⟨ht, hH, hI, hL, hLI, hN, hN2⟩ := id hC
  have hT := hH.1
  have hn := hI.nc
  have hm := hI.np
  refine V_iloadn_1 dX6_hours_0 ?_
  refine V_iconst 1 dX6_hours_1 (by decide) ?_
  refine V_bipush 100 dX6_hours_2 (by decide) ?_
  refine V_cs3f dX6_hours_4 cs_X6_108 (Nat.le_of_ble_eq_true rfl) k_C_within ?_
  refine V_ifB_ne dX6_hours_7 13 (by decide) (fun h7 => ?_) (fun h7 => ?_)
  · exact absurd h7 hb
  · refine V_ldc (-1000000001) dX6_hours_10 cn_X6_66 ?_
    exact V_iret dX6_hours_12 ⟨rfl, rfl⟩

set_option maxRecDepth 100000 in
set_option maxHeartbeats 4000000 in
theorem m_hours {G : vG} {σ : vS} {d : Nat} (hd : 9 ≤ d) {L T : nT} (hC : MC L T σ) {n : Nat} (hn1 : 1 ≤ n) (hn100 : n ≤ 100) (h13 : T 0 13 ≤ 9999) : Cr G yX7_hours cX7_hours 3 (some .int) d [.ref 97, .int (nI n)] σ (some (.int (nI (hoursT L (min n (9999 - T 0 13)) T 0 11) - nI (T 0 11)))) (fun σ' => MC L (hoursT L (min n (9999 - T 0 13)) T) σ' ∧ Fm σ σ') := by
  refine Ct.ofV (by decide) (Nat.le_of_ble_eq_true rfl) rfl ?_
  show V G RX7 cX7_hours (some .int) 3 d _ 0 [some (.ref 97), some (.int (nI n)), none] [] _
  obtain ⟨d, rfl⟩ : ∃ e, d = e + 1 := ⟨d - 1, by omega⟩
  have hI := hC.2.2.1
  have hn := hI.nc
  have hm := hI.np
  refine V_iloadn_1 dX7_hours_0 ?_
  refine V_iconst 1 dX7_hours_1 (by decide) ?_
  refine V_bipush 100 dX7_hours_2 (by decide) ?_
  refine V_cs3f dX7_hours_4 cs_X7_82 (Nat.le_of_ble_eq_true rfl) k_M_in ?_
  refine V_ifB_ne dX7_hours_7 13 (by decide) (fun h7 => ?_) (fun h7 => ?_)
  · refine V_aloadn_0 dX7_hours_13 ?_
    refine V_getR dX7_hours_14 fl_X7_9 oM_now ?_
    refine V_iconst 5 dX7_hours_17 (by decide) ?_
    refine V_iald (j := 5) dX7_hours_18 aM_now (by decide) (by decide) ?_
    refine V_topi hC.1.s5 ?_
    refine V_istoren_2 dX7_hours_19 (by first | exact rfl | exact True.intro) (by decide) ?_
    refine V_aloadn_0 dX7_hours_20 ?_
    refine V_sipush 9999 dX7_hours_21 (by decide) ?_
    refine V_aloadn_0 dX7_hours_24 ?_
    refine V_getR dX7_hours_25 fl_X7_9 oM_now ?_
    refine V_iconst 3 dX7_hours_28 (by decide) ?_
    refine V_iald (j := 3) dX7_hours_29 aM_now (by decide) (by decide) ?_
    refine V_topi hC.1.s3 ?_
    refine V_isubN (a := 9999) (b := T 0 13) dX7_hours_30 (by omega) ?_
    refine V_iconst 0 dX7_hours_31 (by decide) ?_
    refine V_iloadn_1 dX7_hours_32 ?_
    refine V_cs3f dX7_hours_33 cs_X7_103 (Nat.le_of_ble_eq_true rfl) k_M_within ?_
    refine V_topi (y := nI (min n (9999 - T 0 13))) (by rw [Nat.min_comm]; exact wiN (by omega) (by omega)) ?_
    refine V_cv1n dX7_hours_36 cv_X7_171 rcM (Nat.le_of_ble_eq_true rfl) (k_M_goesOn (by omega) hC (by omega)) (fun σ' h9 => ?_)
    refine V_aloadn_0 dX7_hours_39 ?_
    refine V_getR dX7_hours_40 fl_X7_9 oM_now ?_
    refine V_iconst 5 dX7_hours_43 (by decide) ?_
    refine V_iald (j := 5) dX7_hours_44 aM_now (by decide) (by decide) ?_
    refine V_topi (y := nI (hoursT L (min n (9999 - T 0 13)) T 0 11)) h9.1.1.s5 ?_
    refine V_iloadn_2 dX7_hours_45 ?_
    refine V_isub dX7_hours_46 ?_
    exact V_iret dX7_hours_47 ⟨rfl, h9⟩
  · exact absurd (inN (a := 1) (b := 100) hn1 hn100 (by decide)) h7

set_option maxRecDepth 100000 in
set_option maxHeartbeats 4000000 in
theorem m_hours_bad {G : vG} {σ : vS} {d : Nat} (hd : 9 ≤ d) {L T : nT} (hC : MC L T σ) {x : Int32} (hb : ¬ (inI x 1 100)) : Cf G yX7_hours cX7_hours 3 (some .int) d [.ref 97, .int x] σ (some (.int (-1000000001))) σ := by
  refine Ct.ofV (by decide) (Nat.le_of_ble_eq_true rfl) rfl ?_
  show V G RX7 cX7_hours (some .int) 3 d _ 0 [some (.ref 97), some (.int x), none] [] _
  obtain ⟨d, rfl⟩ : ∃ e, d = e + 1 := ⟨d - 1, by omega⟩
  have hI := hC.2.2.1
  have hn := hI.nc
  have hm := hI.np
  refine V_iloadn_1 dX7_hours_0 ?_
  refine V_iconst 1 dX7_hours_1 (by decide) ?_
  refine V_bipush 100 dX7_hours_2 (by decide) ?_
  refine V_cs3f dX7_hours_4 cs_X7_82 (Nat.le_of_ble_eq_true rfl) k_M_in ?_
  refine V_ifB_ne dX7_hours_7 13 (by decide) (fun h7 => ?_) (fun h7 => ?_)
  · exact absurd h7 hb
  · refine V_ldc (-1000000001) dX7_hours_10 cn_X7_86 ?_
    exact V_iret dX7_hours_12 ⟨rfl, rfl⟩

set_option maxRecDepth 100000 in
set_option maxHeartbeats 4000000 in
theorem op_hours {G : vG} {σ : vS} {d i : Nat} (hd : 100 ≤ d) (hi : i < 512) {x : Int32} (h : Inv i σ) : Op G yX6_hours cX6_hours 3 yX7_hours cX7_hours 3 d [.int x] i σ := by
  have hh := h
  obtain ⟨L, T, I, b, hT, hB, hM, hS, hO, hW, hR, hK⟩ := h
  have hC := hT.1
  have hE := hT.2.1
  have hI := hC.2.2.1
  have hn := hI.nc
  have hm := hI.np
  have hbd : bud T ≤ 7992 * i := hT.2.2.1
  have h13 : T 0 13 ≤ 9999 := hT.2.2.2.2
  by_cases hx : inI x 1 100
  · obtain ⟨n, hn1, hn2, rfl⟩ := (inI_iff' (a := 1) (b := 100) (by decide) (by decide)).mp hx
    have st := hours_step (L := L) hI (min n (9999 - T 0 13))
    have fx := (hI.hours (L := L) (min n (9999 - T 0 13))).2
    exact Op.town (T' := hoursT L (min n (9999 - T 0 13)) T) hT hB hM hS hO hW hR hK (by omega) (by rw [fx 0 10 (by decide) (by omega)]; exact hT.2.2.2.1) (by rw [st.1]; omega) (fx 0 15 (by decide) (by omega)) (c_hours (by omega) hC hn1 hn2 h13) (fun σ1 f1 => m_hours (by omega) f1 hn1 hn2 h13)
  · exact Op.ask hh (Cf.fi (c_hours_bad (by omega) hC hx)) (fun σ1 f1 => Cf.fi (m_hours_bad (by omega) (hE.fi f1) hx))
