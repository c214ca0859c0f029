theorem c16 : ∀ b, b < 256 → ((nI b).toUInt32 % 65536).toInt32 = nI b := by decide +kernel
theorem nm_le {ky b : Nat} : nmN ky b ≤ 3 := by
  unfold nmN
  repeat' split
  all_goals omega

set_option maxRecDepth 100000 in
set_option maxHeartbeats 4000000 in
theorem k_R_names0 {G : vG} {σ : vS} {d : Nat}  : Cf G yX2_namesOf cX2_namesOf 1 (some (.object "java/lang/String")) d [.int 0] σ (some (.ref 1004)) σ := by
  refine Ct.ofV (by decide) (Nat.le_of_ble_eq_true rfl) rfl ?_
  show V G RX2 cX2_namesOf (some (.object "java/lang/String")) 1 d _ 0 [some (.int 0)] [] _
  refine V_iloadn_0 dX2_namesOf_0 ?_
  refine V_lks 27 28 dX2_namesOf_1 (by decide) (by decide) (by decide) ?_
  refine V_ldcS dX2_namesOf_28 txR3 ?_
  exact V_aret dX2_namesOf_30 ⟨rfl, rfl⟩

set_option maxRecDepth 100000 in
set_option maxHeartbeats 4000000 in
theorem k_R_nameBad0 {G : vG} {σ : vS} {d : Nat} (hd : 7 ≤ d) {tp : Nat → Nat} {n k : Nat} (hS : RS tp n k σ) (hF : FF tp n k < n) (hs : srt (tp (FF tp n k)) = 1) (hky : σ 2 0 = 0) (hb : gluP tp n k ∨ ¬ (EE tp n (k + 1) - FF tp n k = 1 ∧ nmN 0 (tp (FF tp n k)) ≠ 0)) : Cf G yX2_readName cX2_readName 2 none d [.ref 1] σ none (vup σ 1 6 (nI (FF tp n k))) := by
  refine Ct.ofV (by decide) (Nat.le_of_ble_eq_true rfl) rfl ?_
  show V G RX2 cX2_readName none 2 d _ 0 [some (.ref 1), none] [] _
  obtain ⟨d, rfl⟩ : ∃ e, d = e + 1 := ⟨d - 1, by omega⟩
  obtain ⟨hT, h3, h14, h15⟩ := id hS
  obtain ⟨h10, hn96, hta, h256⟩ := id hT
  have hfl := FF_le (tp := tp) (n := n) (k := k)
  have hel := EE_le (tp := tp) (n := n) (k := k + 1)
  have hfe := EE_gt hF
  have hnl := nm_le (ky := 0) (b := tp (FF tp n k))
  refine V_aloadn_0 dX2_readName_0 ?_
  refine V_getR dX2_readName_1 fl_X2_12 oR_draft ?_
  refine V_getI dX2_readName_4 fl_X2_54 (oW_key (Or.inl rfl)) ?_
  refine V_topi (y := 0) hky ?_
  refine V_cs1f dX2_readName_7 cs_X2_96 (Nat.le_of_ble_eq_true rfl) k_R_names0 ?_
  refine V_aloadn_0 dX2_readName_10 ?_
  refine V_cv0f dX2_readName_11 cv_X2_65 rcR (Nat.le_of_ble_eq_true rfl) (k_R_head hT h3 hfl) ?_
  refine V_topi (y := nI (tp (FF tp n k))) (if_pos hF) ?_
  refine V_i2c dX2_readName_14 ?_
  refine V_topi (y := nI (tp (FF tp n k))) (c16 _ (h256 _ hF)) ?_
  refine V_cv1f dX2_readName_15 cv_X2_100 (rcX (j := 3) (by decide)) (Nat.le_of_ble_eq_true rfl) (k_J_io_0 (by omega) (srt1 hs)) ?_
  refine V_istoren_1 dX2_readName_18 (by first | exact rfl | exact True.intro) (by decide) ?_
  refine V_aloadn_0 dX2_readName_19 ?_
  refine V_getI dX2_readName_20 fl_X2_89 oR_glued ?_
  refine V_topi (y := bI (gluP tp n k)) h15 ?_
  refine V_ifB_ne dX2_readName_23 43 (by decide) (fun h23 => ?_) (fun h23 => ?_)
  · refine V_aloadn_0 dX2_readName_43 ?_
    refine V_aloadn_0 dX2_readName_44 ?_
    refine V_getI dX2_readName_45 fl_X2_45 oR_from ?_
    refine V_topi (y := nI (FF tp n k)) h3 ?_
    refine V_putI dX2_readName_48 fp_X2_29 oR_fault ?_
    exact V_vret dX2_readName_51 ⟨rfl, rfl⟩
  · refine V_aloadn_0 dX2_readName_26 ?_
    refine V_getI dX2_readName_27 fl_X2_32 oR_end ?_
    refine V_topi (y := nI (EE tp n (k + 1))) h14 ?_
    refine V_aloadn_0 dX2_readName_30 ?_
    refine V_getI dX2_readName_31 fl_X2_45 oR_from ?_
    refine V_topi (y := nI (FF tp n k)) h3 ?_
    refine V_isubN (a := EE tp n (k + 1)) (b := FF tp n k) dX2_readName_34 (by omega) ?_
    refine V_iconst 1 dX2_readName_35 (by decide) ?_
    refine V_icmpN_ne (a := (EE tp n (k + 1)) - (FF tp n k)) (b := 1) dX2_readName_36 43 (by decide) (by omega) (by omega) (fun h36 => ?_) (fun h36 => ?_)
    · refine V_aloadn_0 dX2_readName_43 ?_
      refine V_aloadn_0 dX2_readName_44 ?_
      refine V_getI dX2_readName_45 fl_X2_45 oR_from ?_
      refine V_topi (y := nI (FF tp n k)) h3 ?_
      refine V_putI dX2_readName_48 fp_X2_29 oR_fault ?_
      exact V_vret dX2_readName_51 ⟨rfl, rfl⟩
    · refine V_iloadn_1 dX2_readName_39 ?_
      refine V_if_ge dX2_readName_40 52 (by decide) (fun h40 => ?_) (fun h40 => ?_)
      · exact absurd hb (fun q => q.elim (fun q => h23 q) (fun q => q ⟨h36, lw_ge h40⟩))
      · refine V_aloadn_0 dX2_readName_43 ?_
        refine V_aloadn_0 dX2_readName_44 ?_
        refine V_getI dX2_readName_45 fl_X2_45 oR_from ?_
        refine V_topi (y := nI (FF tp n k)) h3 ?_
        refine V_putI dX2_readName_48 fp_X2_29 oR_fault ?_
        exact V_vret dX2_readName_51 ⟨rfl, rfl⟩

set_option maxRecDepth 100000 in
set_option maxHeartbeats 4000000 in
theorem k_R_name0 {G : vG} {σ : vS} {d : Nat} (hd : 7 ≤ d) {tp : Nat → Nat} {n k : Nat} (hS : RS tp n k σ) (hF : FF tp n k < n) (hs : srt (tp (FF tp n k)) = 1) (hg : ¬ gluP tp n k) (h1 : EE tp n (k + 1) - FF tp n k = 1) (hnm : nmN 0 (tp (FF tp n k)) ≠ 0) {c : List Nat} (hD : DR 0 c σ) (hl : c.length < 96) : Cr G yX2_readName cX2_readName 2 none d [.ref 1] σ none (fun σ' => RS tp n (k + 1) σ' ∧ DR 0 (c ++ [10000 + (nmN 0 (tp (FF tp n k)) - 1)]) σ' ∧ FPq σ σ' ∧ σ' 1 6 = σ 1 6) := by
  refine Ct.ofV (by decide) (Nat.le_of_ble_eq_true rfl) rfl ?_
  show V G RX2 cX2_readName none 2 d _ 0 [some (.ref 1), none] [] _
  obtain ⟨d, rfl⟩ : ∃ e, d = e + 1 := ⟨d - 1, by omega⟩
  obtain ⟨hT, h3, h14, h15⟩ := id hS
  obtain ⟨h10, hn96, hta, h256⟩ := id hT
  have hfl := FF_le (tp := tp) (n := n) (k := k)
  have hel := EE_le (tp := tp) (n := n) (k := k + 1)
  have hfe := EE_gt hF
  have hnl := nm_le (ky := 0) (b := tp (FF tp n k))
  have hky : σ 2 0 = 0 := hD.1
  refine V_aloadn_0 dX2_readName_0 ?_
  refine V_getR dX2_readName_1 fl_X2_12 oR_draft ?_
  refine V_getI dX2_readName_4 fl_X2_54 (oW_key (Or.inl rfl)) ?_
  refine V_topi (y := 0) hky ?_
  refine V_cs1f dX2_readName_7 cs_X2_96 (Nat.le_of_ble_eq_true rfl) k_R_names0 ?_
  refine V_aloadn_0 dX2_readName_10 ?_
  refine V_cv0f dX2_readName_11 cv_X2_65 rcR (Nat.le_of_ble_eq_true rfl) (k_R_head hT h3 hfl) ?_
  refine V_topi (y := nI (tp (FF tp n k))) (if_pos hF) ?_
  refine V_i2c dX2_readName_14 ?_
  refine V_topi (y := nI (tp (FF tp n k))) (c16 _ (h256 _ hF)) ?_
  refine V_cv1f dX2_readName_15 cv_X2_100 (rcX (j := 3) (by decide)) (Nat.le_of_ble_eq_true rfl) (k_J_io_0 (by omega) (srt1 hs)) ?_
  refine V_istoren_1 dX2_readName_18 (by first | exact rfl | exact True.intro) (by decide) ?_
  refine V_aloadn_0 dX2_readName_19 ?_
  refine V_getI dX2_readName_20 fl_X2_89 oR_glued ?_
  refine V_topi (y := bI (gluP tp n k)) h15 ?_
  refine V_ifB_ne dX2_readName_23 43 (by decide) (fun h23 => ?_) (fun h23 => ?_)
  · exact absurd h23 hg
  · refine V_aloadn_0 dX2_readName_26 ?_
    refine V_getI dX2_readName_27 fl_X2_32 oR_end ?_
    refine V_topi (y := nI (EE tp n (k + 1))) h14 ?_
    refine V_aloadn_0 dX2_readName_30 ?_
    refine V_getI dX2_readName_31 fl_X2_45 oR_from ?_
    refine V_topi (y := nI (FF tp n k)) h3 ?_
    refine V_isubN (a := EE tp n (k + 1)) (b := FF tp n k) dX2_readName_34 (by omega) ?_
    refine V_iconst 1 dX2_readName_35 (by decide) ?_
    refine V_icmpN_ne (a := (EE tp n (k + 1)) - (FF tp n k)) (b := 1) dX2_readName_36 43 (by decide) (by omega) (by omega) (fun h36 => ?_) (fun h36 => ?_)
    · exact absurd h1 h36
    · refine V_iloadn_1 dX2_readName_39 ?_
      refine V_if_ge dX2_readName_40 52 (by decide) (fun h40 => ?_) (fun h40 => ?_)
      · refine V_aloadn_0 dX2_readName_52 ?_
        refine V_getR dX2_readName_53 fl_X2_12 oR_draft ?_
        refine V_iloadn_1 dX2_readName_56 ?_
        refine V_topi (y := nI (nmN 0 (tp (FF tp n k)) - 1)) (lw_val hnm) ?_
        refine V_cv1n dX2_readName_57 cv_X2_105 (rcW (Or.inl rfl)) (Nat.le_of_ble_eq_true rfl) (k_W_addName (by omega) hD hl (by omega)) (fun σ1 h5 => ?_)
        refine V_aloadn_0 dX2_readName_60 ?_
        refine V_cv0v dX2_readName_61 cv_X2_35 rcR (Nat.le_of_ble_eq_true rfl) (k_R_step (k := k + 1) (by omega) (hT.fp h5.2.q) (by rw [h5.2 1 (by decide) (by decide)]; exact h14)) ?_
        exact V_vret dX2_readName_64 ⟨rfl, RS.mk (hT.fp h5.2.q), h5.1.st, h5.2.q.tr FPq.st, by rw [stS_1 (by decide) (by decide) (by decide), h5.2 1 (by decide) (by decide)]⟩
      · exact absurd (lw_lt (by omega) h40) hnm

set_option maxRecDepth 100000 in
set_option maxHeartbeats 4000000 in
theorem k_R_names1 {G : vG} {σ : vS} {d : Nat}  : Cf G yX2_namesOf cX2_namesOf 1 (some (.object "java/lang/String")) d [.int 1] σ (some (.ref 1005)) σ := by
  refine Ct.ofV (by decide) (Nat.le_of_ble_eq_true rfl) rfl ?_
  show V G RX2 cX2_namesOf (some (.object "java/lang/String")) 1 d _ 0 [some (.int 1)] [] _
  refine V_iloadn_0 dX2_namesOf_0 ?_
  refine V_lks 30 31 dX2_namesOf_1 (by decide) (by decide) (by decide) ?_
  refine V_ldcS dX2_namesOf_31 txR4 ?_
  exact V_aret dX2_namesOf_33 ⟨rfl, rfl⟩

set_option maxRecDepth 100000 in
set_option maxHeartbeats 4000000 in
theorem k_R_nameBad1 {G : vG} {σ : vS} {d : Nat} (hd : 7 ≤ d) {tp : Nat → Nat} {n k : Nat} (hS : RS tp n k σ) (hF : FF tp n k < n) (hs : srt (tp (FF tp n k)) = 1) (hky : σ 2 0 = 1) (hb : gluP tp n k ∨ ¬ (EE tp n (k + 1) - FF tp n k = 1 ∧ nmN 1 (tp (FF tp n k)) ≠ 0)) : Cf G yX2_readName cX2_readName 2 none d [.ref 1] σ none (vup σ 1 6 (nI (FF tp n k))) := by
  refine Ct.ofV (by decide) (Nat.le_of_ble_eq_true rfl) rfl ?_
  show V G RX2 cX2_readName none 2 d _ 0 [some (.ref 1), none] [] _
  obtain ⟨d, rfl⟩ : ∃ e, d = e + 1 := ⟨d - 1, by omega⟩
  obtain ⟨hT, h3, h14, h15⟩ := id hS
  obtain ⟨h10, hn96, hta, h256⟩ := id hT
  have hfl := FF_le (tp := tp) (n := n) (k := k)
  have hel := EE_le (tp := tp) (n := n) (k := k + 1)
  have hfe := EE_gt hF
  have hnl := nm_le (ky := 1) (b := tp (FF tp n k))
  refine V_aloadn_0 dX2_readName_0 ?_
  refine V_getR dX2_readName_1 fl_X2_12 oR_draft ?_
  refine V_getI dX2_readName_4 fl_X2_54 (oW_key (Or.inl rfl)) ?_
  refine V_topi (y := 1) hky ?_
  refine V_cs1f dX2_readName_7 cs_X2_96 (Nat.le_of_ble_eq_true rfl) k_R_names1 ?_
  refine V_aloadn_0 dX2_readName_10 ?_
  refine V_cv0f dX2_readName_11 cv_X2_65 rcR (Nat.le_of_ble_eq_true rfl) (k_R_head hT h3 hfl) ?_
  refine V_topi (y := nI (tp (FF tp n k))) (if_pos hF) ?_
  refine V_i2c dX2_readName_14 ?_
  refine V_topi (y := nI (tp (FF tp n k))) (c16 _ (h256 _ hF)) ?_
  refine V_cv1f dX2_readName_15 cv_X2_100 (rcX (j := 4) (by decide)) (Nat.le_of_ble_eq_true rfl) (k_J_io_1 (by omega) (srt1 hs)) ?_
  refine V_istoren_1 dX2_readName_18 (by first | exact rfl | exact True.intro) (by decide) ?_
  refine V_aloadn_0 dX2_readName_19 ?_
  refine V_getI dX2_readName_20 fl_X2_89 oR_glued ?_
  refine V_topi (y := bI (gluP tp n k)) h15 ?_
  refine V_ifB_ne dX2_readName_23 43 (by decide) (fun h23 => ?_) (fun h23 => ?_)
  · refine V_aloadn_0 dX2_readName_43 ?_
    refine V_aloadn_0 dX2_readName_44 ?_
    refine V_getI dX2_readName_45 fl_X2_45 oR_from ?_
    refine V_topi (y := nI (FF tp n k)) h3 ?_
    refine V_putI dX2_readName_48 fp_X2_29 oR_fault ?_
    exact V_vret dX2_readName_51 ⟨rfl, rfl⟩
  · refine V_aloadn_0 dX2_readName_26 ?_
    refine V_getI dX2_readName_27 fl_X2_32 oR_end ?_
    refine V_topi (y := nI (EE tp n (k + 1))) h14 ?_
    refine V_aloadn_0 dX2_readName_30 ?_
    refine V_getI dX2_readName_31 fl_X2_45 oR_from ?_
    refine V_topi (y := nI (FF tp n k)) h3 ?_
    refine V_isubN (a := EE tp n (k + 1)) (b := FF tp n k) dX2_readName_34 (by omega) ?_
    refine V_iconst 1 dX2_readName_35 (by decide) ?_
    refine V_icmpN_ne (a := (EE tp n (k + 1)) - (FF tp n k)) (b := 1) dX2_readName_36 43 (by decide) (by omega) (by omega) (fun h36 => ?_) (fun h36 => ?_)
    · refine V_aloadn_0 dX2_readName_43 ?_
      refine V_aloadn_0 dX2_readName_44 ?_
      refine V_getI dX2_readName_45 fl_X2_45 oR_from ?_
      refine V_topi (y := nI (FF tp n k)) h3 ?_
      refine V_putI dX2_readName_48 fp_X2_29 oR_fault ?_
      exact V_vret dX2_readName_51 ⟨rfl, rfl⟩
    · refine V_iloadn_1 dX2_readName_39 ?_
      refine V_if_ge dX2_readName_40 52 (by decide) (fun h40 => ?_) (fun h40 => ?_)
      · exact absurd hb (fun q => q.elim (fun q => h23 q) (fun q => q ⟨h36, lw_ge h40⟩))
      · refine V_aloadn_0 dX2_readName_43 ?_
        refine V_aloadn_0 dX2_readName_44 ?_
        refine V_getI dX2_readName_45 fl_X2_45 oR_from ?_
        refine V_topi (y := nI (FF tp n k)) h3 ?_
        refine V_putI dX2_readName_48 fp_X2_29 oR_fault ?_
        exact V_vret dX2_readName_51 ⟨rfl, rfl⟩

set_option maxRecDepth 100000 in
set_option maxHeartbeats 4000000 in
theorem k_R_name1 {G : vG} {σ : vS} {d : Nat} (hd : 7 ≤ d) {tp : Nat → Nat} {n k : Nat} (hS : RS tp n k σ) (hF : FF tp n k < n) (hs : srt (tp (FF tp n k)) = 1) (hg : ¬ gluP tp n k) (h1 : EE tp n (k + 1) - FF tp n k = 1) (hnm : nmN 1 (tp (FF tp n k)) ≠ 0) {c : List Nat} (hD : DR 1 c σ) (hl : c.length < 96) : Cr G yX2_readName cX2_readName 2 none d [.ref 1] σ none (fun σ' => RS tp n (k + 1) σ' ∧ DR 1 (c ++ [10000 + (nmN 1 (tp (FF tp n k)) - 1)]) σ' ∧ FPq σ σ' ∧ σ' 1 6 = σ 1 6) := by
  refine Ct.ofV (by decide) (Nat.le_of_ble_eq_true rfl) rfl ?_
  show V G RX2 cX2_readName none 2 d _ 0 [some (.ref 1), none] [] _
  obtain ⟨d, rfl⟩ : ∃ e, d = e + 1 := ⟨d - 1, by omega⟩
  obtain ⟨hT, h3, h14, h15⟩ := id hS
  obtain ⟨h10, hn96, hta, h256⟩ := id hT
  have hfl := FF_le (tp := tp) (n := n) (k := k)
  have hel := EE_le (tp := tp) (n := n) (k := k + 1)
  have hfe := EE_gt hF
  have hnl := nm_le (ky := 1) (b := tp (FF tp n k))
  have hky : σ 2 0 = 1 := hD.1
  refine V_aloadn_0 dX2_readName_0 ?_
  refine V_getR dX2_readName_1 fl_X2_12 oR_draft ?_
  refine V_getI dX2_readName_4 fl_X2_54 (oW_key (Or.inl rfl)) ?_
  refine V_topi (y := 1) hky ?_
  refine V_cs1f dX2_readName_7 cs_X2_96 (Nat.le_of_ble_eq_true rfl) k_R_names1 ?_
  refine V_aloadn_0 dX2_readName_10 ?_
  refine V_cv0f dX2_readName_11 cv_X2_65 rcR (Nat.le_of_ble_eq_true rfl) (k_R_head hT h3 hfl) ?_
  refine V_topi (y := nI (tp (FF tp n k))) (if_pos hF) ?_
  refine V_i2c dX2_readName_14 ?_
  refine V_topi (y := nI (tp (FF tp n k))) (c16 _ (h256 _ hF)) ?_
  refine V_cv1f dX2_readName_15 cv_X2_100 (rcX (j := 4) (by decide)) (Nat.le_of_ble_eq_true rfl) (k_J_io_1 (by omega) (srt1 hs)) ?_
  refine V_istoren_1 dX2_readName_18 (by first | exact rfl | exact True.intro) (by decide) ?_
  refine V_aloadn_0 dX2_readName_19 ?_
  refine V_getI dX2_readName_20 fl_X2_89 oR_glued ?_
  refine V_topi (y := bI (gluP tp n k)) h15 ?_
  refine V_ifB_ne dX2_readName_23 43 (by decide) (fun h23 => ?_) (fun h23 => ?_)
  · exact absurd h23 hg
  · refine V_aloadn_0 dX2_readName_26 ?_
    refine V_getI dX2_readName_27 fl_X2_32 oR_end ?_
    refine V_topi (y := nI (EE tp n (k + 1))) h14 ?_
    refine V_aloadn_0 dX2_readName_30 ?_
    refine V_getI dX2_readName_31 fl_X2_45 oR_from ?_
    refine V_topi (y := nI (FF tp n k)) h3 ?_
    refine V_isubN (a := EE tp n (k + 1)) (b := FF tp n k) dX2_readName_34 (by omega) ?_
    refine V_iconst 1 dX2_readName_35 (by decide) ?_
    refine V_icmpN_ne (a := (EE tp n (k + 1)) - (FF tp n k)) (b := 1) dX2_readName_36 43 (by decide) (by omega) (by omega) (fun h36 => ?_) (fun h36 => ?_)
    · exact absurd h1 h36
    · refine V_iloadn_1 dX2_readName_39 ?_
      refine V_if_ge dX2_readName_40 52 (by decide) (fun h40 => ?_) (fun h40 => ?_)
      · refine V_aloadn_0 dX2_readName_52 ?_
        refine V_getR dX2_readName_53 fl_X2_12 oR_draft ?_
        refine V_iloadn_1 dX2_readName_56 ?_
        refine V_topi (y := nI (nmN 1 (tp (FF tp n k)) - 1)) (lw_val hnm) ?_
        refine V_cv1n dX2_readName_57 cv_X2_105 (rcW (Or.inl rfl)) (Nat.le_of_ble_eq_true rfl) (k_W_addName (by omega) hD hl (by omega)) (fun σ1 h5 => ?_)
        refine V_aloadn_0 dX2_readName_60 ?_
        refine V_cv0v dX2_readName_61 cv_X2_35 rcR (Nat.le_of_ble_eq_true rfl) (k_R_step (k := k + 1) (by omega) (hT.fp h5.2.q) (by rw [h5.2 1 (by decide) (by decide)]; exact h14)) ?_
        exact V_vret dX2_readName_64 ⟨rfl, RS.mk (hT.fp h5.2.q), h5.1.st, h5.2.q.tr FPq.st, by rw [stS_1 (by decide) (by decide) (by decide), h5.2 1 (by decide) (by decide)]⟩
      · exact absurd (lw_lt (by omega) h40) hnm

set_option maxRecDepth 100000 in
set_option maxHeartbeats 4000000 in
theorem k_R_names2 {G : vG} {σ : vS} {d : Nat}  : Cf G yX2_namesOf cX2_namesOf 1 (some (.object "java/lang/String")) d [.int 2] σ (some (.ref 1006)) σ := by
  refine Ct.ofV (by decide) (Nat.le_of_ble_eq_true rfl) rfl ?_
  show V G RX2 cX2_namesOf (some (.object "java/lang/String")) 1 d _ 0 [some (.int 2)] [] _
  refine V_iloadn_0 dX2_namesOf_0 ?_
  refine V_lks 33 34 dX2_namesOf_1 (by decide) (by decide) (by decide) ?_
  refine V_ldcS dX2_namesOf_34 txR5 ?_
  exact V_aret dX2_namesOf_36 ⟨rfl, rfl⟩

set_option maxRecDepth 100000 in
set_option maxHeartbeats 4000000 in
theorem k_R_nameBad2 {G : vG} {σ : vS} {d : Nat} (hd : 7 ≤ d) {tp : Nat → Nat} {n k : Nat} (hS : RS tp n k σ) (hF : FF tp n k < n) (hs : srt (tp (FF tp n k)) = 1) (hky : σ 2 0 = 2) (hb : gluP tp n k ∨ ¬ (EE tp n (k + 1) - FF tp n k = 1 ∧ nmN 2 (tp (FF tp n k)) ≠ 0)) : Cf G yX2_readName cX2_readName 2 none d [.ref 1] σ none (vup σ 1 6 (nI (FF tp n k))) := by
  refine Ct.ofV (by decide) (Nat.le_of_ble_eq_true rfl) rfl ?_
  show V G RX2 cX2_readName none 2 d _ 0 [some (.ref 1), none] [] _
  obtain ⟨d, rfl⟩ : ∃ e, d = e + 1 := ⟨d - 1, by omega⟩
  obtain ⟨hT, h3, h14, h15⟩ := id hS
  obtain ⟨h10, hn96, hta, h256⟩ := id hT
  have hfl := FF_le (tp := tp) (n := n) (k := k)
  have hel := EE_le (tp := tp) (n := n) (k := k + 1)
  have hfe := EE_gt hF
  have hnl := nm_le (ky := 2) (b := tp (FF tp n k))
  refine V_aloadn_0 dX2_readName_0 ?_
  refine V_getR dX2_readName_1 fl_X2_12 oR_draft ?_
  refine V_getI dX2_readName_4 fl_X2_54 (oW_key (Or.inl rfl)) ?_
  refine V_topi (y := 2) hky ?_
  refine V_cs1f dX2_readName_7 cs_X2_96 (Nat.le_of_ble_eq_true rfl) k_R_names2 ?_
  refine V_aloadn_0 dX2_readName_10 ?_
  refine V_cv0f dX2_readName_11 cv_X2_65 rcR (Nat.le_of_ble_eq_true rfl) (k_R_head hT h3 hfl) ?_
  refine V_topi (y := nI (tp (FF tp n k))) (if_pos hF) ?_
  refine V_i2c dX2_readName_14 ?_
  refine V_topi (y := nI (tp (FF tp n k))) (c16 _ (h256 _ hF)) ?_
  refine V_cv1f dX2_readName_15 cv_X2_100 (rcX (j := 5) (by decide)) (Nat.le_of_ble_eq_true rfl) (k_J_io_2 (by omega) (srt1 hs)) ?_
  refine V_istoren_1 dX2_readName_18 (by first | exact rfl | exact True.intro) (by decide) ?_
  refine V_aloadn_0 dX2_readName_19 ?_
  refine V_getI dX2_readName_20 fl_X2_89 oR_glued ?_
  refine V_topi (y := bI (gluP tp n k)) h15 ?_
  refine V_ifB_ne dX2_readName_23 43 (by decide) (fun h23 => ?_) (fun h23 => ?_)
  · refine V_aloadn_0 dX2_readName_43 ?_
    refine V_aloadn_0 dX2_readName_44 ?_
    refine V_getI dX2_readName_45 fl_X2_45 oR_from ?_
    refine V_topi (y := nI (FF tp n k)) h3 ?_
    refine V_putI dX2_readName_48 fp_X2_29 oR_fault ?_
    exact V_vret dX2_readName_51 ⟨rfl, rfl⟩
  · refine V_aloadn_0 dX2_readName_26 ?_
    refine V_getI dX2_readName_27 fl_X2_32 oR_end ?_
    refine V_topi (y := nI (EE tp n (k + 1))) h14 ?_
    refine V_aloadn_0 dX2_readName_30 ?_
    refine V_getI dX2_readName_31 fl_X2_45 oR_from ?_
    refine V_topi (y := nI (FF tp n k)) h3 ?_
    refine V_isubN (a := EE tp n (k + 1)) (b := FF tp n k) dX2_readName_34 (by omega) ?_
    refine V_iconst 1 dX2_readName_35 (by decide) ?_
    refine V_icmpN_ne (a := (EE tp n (k + 1)) - (FF tp n k)) (b := 1) dX2_readName_36 43 (by decide) (by omega) (by omega) (fun h36 => ?_) (fun h36 => ?_)
    · refine V_aloadn_0 dX2_readName_43 ?_
      refine V_aloadn_0 dX2_readName_44 ?_
      refine V_getI dX2_readName_45 fl_X2_45 oR_from ?_
      refine V_topi (y := nI (FF tp n k)) h3 ?_
      refine V_putI dX2_readName_48 fp_X2_29 oR_fault ?_
      exact V_vret dX2_readName_51 ⟨rfl, rfl⟩
    · refine V_iloadn_1 dX2_readName_39 ?_
      refine V_if_ge dX2_readName_40 52 (by decide) (fun h40 => ?_) (fun h40 => ?_)
      · exact absurd hb (fun q => q.elim (fun q => h23 q) (fun q => q ⟨h36, lw_ge h40⟩))
      · refine V_aloadn_0 dX2_readName_43 ?_
        refine V_aloadn_0 dX2_readName_44 ?_
        refine V_getI dX2_readName_45 fl_X2_45 oR_from ?_
        refine V_topi (y := nI (FF tp n k)) h3 ?_
        refine V_putI dX2_readName_48 fp_X2_29 oR_fault ?_
        exact V_vret dX2_readName_51 ⟨rfl, rfl⟩

set_option maxRecDepth 100000 in
set_option maxHeartbeats 4000000 in
theorem k_R_name2 {G : vG} {σ : vS} {d : Nat} (hd : 7 ≤ d) {tp : Nat → Nat} {n k : Nat} (hS : RS tp n k σ) (hF : FF tp n k < n) (hs : srt (tp (FF tp n k)) = 1) (hg : ¬ gluP tp n k) (h1 : EE tp n (k + 1) - FF tp n k = 1) (hnm : nmN 2 (tp (FF tp n k)) ≠ 0) {c : List Nat} (hD : DR 2 c σ) (hl : c.length < 96) : Cr G yX2_readName cX2_readName 2 none d [.ref 1] σ none (fun σ' => RS tp n (k + 1) σ' ∧ DR 2 (c ++ [10000 + (nmN 2 (tp (FF tp n k)) - 1)]) σ' ∧ FPq σ σ' ∧ σ' 1 6 = σ 1 6) := by
  refine Ct.ofV (by decide) (Nat.le_of_ble_eq_true rfl) rfl ?_
  show V G RX2 cX2_readName none 2 d _ 0 [some (.ref 1), none] [] _
  obtain ⟨d, rfl⟩ : ∃ e, d = e + 1 := ⟨d - 1, by omega⟩
  obtain ⟨hT, h3, h14, h15⟩ := id hS
  obtain ⟨h10, hn96, hta, h256⟩ := id hT
  have hfl := FF_le (tp := tp) (n := n) (k := k)
  have hel := EE_le (tp := tp) (n := n) (k := k + 1)
  have hfe := EE_gt hF
  have hnl := nm_le (ky := 2) (b := tp (FF tp n k))
  have hky : σ 2 0 = 2 := hD.1
  refine V_aloadn_0 dX2_readName_0 ?_
  refine V_getR dX2_readName_1 fl_X2_12 oR_draft ?_
  refine V_getI dX2_readName_4 fl_X2_54 (oW_key (Or.inl rfl)) ?_
  refine V_topi (y := 2) hky ?_
  refine V_cs1f dX2_readName_7 cs_X2_96 (Nat.le_of_ble_eq_true rfl) k_R_names2 ?_
  refine V_aloadn_0 dX2_readName_10 ?_
  refine V_cv0f dX2_readName_11 cv_X2_65 rcR (Nat.le_of_ble_eq_true rfl) (k_R_head hT h3 hfl) ?_
  refine V_topi (y := nI (tp (FF tp n k))) (if_pos hF) ?_
  refine V_i2c dX2_readName_14 ?_
  refine V_topi (y := nI (tp (FF tp n k))) (c16 _ (h256 _ hF)) ?_
  refine V_cv1f dX2_readName_15 cv_X2_100 (rcX (j := 5) (by decide)) (Nat.le_of_ble_eq_true rfl) (k_J_io_2 (by omega) (srt1 hs)) ?_
  refine V_istoren_1 dX2_readName_18 (by first | exact rfl | exact True.intro) (by decide) ?_
  refine V_aloadn_0 dX2_readName_19 ?_
  refine V_getI dX2_readName_20 fl_X2_89 oR_glued ?_
  refine V_topi (y := bI (gluP tp n k)) h15 ?_
  refine V_ifB_ne dX2_readName_23 43 (by decide) (fun h23 => ?_) (fun h23 => ?_)
  · exact absurd h23 hg
  · refine V_aloadn_0 dX2_readName_26 ?_
    refine V_getI dX2_readName_27 fl_X2_32 oR_end ?_
    refine V_topi (y := nI (EE tp n (k + 1))) h14 ?_
    refine V_aloadn_0 dX2_readName_30 ?_
    refine V_getI dX2_readName_31 fl_X2_45 oR_from ?_
    refine V_topi (y := nI (FF tp n k)) h3 ?_
    refine V_isubN (a := EE tp n (k + 1)) (b := FF tp n k) dX2_readName_34 (by omega) ?_
    refine V_iconst 1 dX2_readName_35 (by decide) ?_
    refine V_icmpN_ne (a := (EE tp n (k + 1)) - (FF tp n k)) (b := 1) dX2_readName_36 43 (by decide) (by omega) (by omega) (fun h36 => ?_) (fun h36 => ?_)
    · exact absurd h1 h36
    · refine V_iloadn_1 dX2_readName_39 ?_
      refine V_if_ge dX2_readName_40 52 (by decide) (fun h40 => ?_) (fun h40 => ?_)
      · refine V_aloadn_0 dX2_readName_52 ?_
        refine V_getR dX2_readName_53 fl_X2_12 oR_draft ?_
        refine V_iloadn_1 dX2_readName_56 ?_
        refine V_topi (y := nI (nmN 2 (tp (FF tp n k)) - 1)) (lw_val hnm) ?_
        refine V_cv1n dX2_readName_57 cv_X2_105 (rcW (Or.inl rfl)) (Nat.le_of_ble_eq_true rfl) (k_W_addName (by omega) hD hl (by omega)) (fun σ1 h5 => ?_)
        refine V_aloadn_0 dX2_readName_60 ?_
        refine V_cv0v dX2_readName_61 cv_X2_35 rcR (Nat.le_of_ble_eq_true rfl) (k_R_step (k := k + 1) (by omega) (hT.fp h5.2.q) (by rw [h5.2 1 (by decide) (by decide)]; exact h14)) ?_
        exact V_vret dX2_readName_64 ⟨rfl, RS.mk (hT.fp h5.2.q), h5.1.st, h5.2.q.tr FPq.st, by rw [stS_1 (by decide) (by decide) (by decide), h5.2 1 (by decide) (by decide)]⟩
      · exact absurd (lw_lt (by omega) h40) hnm

set_option maxRecDepth 100000 in
set_option maxHeartbeats 4000000 in
theorem k_R_closeY {G : vG} {σ : vS} {d : Nat} (hd : 3 ≤ d) {tp : Nat → Nat} {n k : Nat} (hS : RS tp n k σ) (hfa : σ 1 6 = -1) (hF : FF tp n k < n) (hc : tp (FF tp n k) = 41) : Cf G yX2_readClosing cX2_readClosing 1 none d [.ref 1] σ none (stS σ (FF tp n (k + 1)) (bI (gluP tp n (k + 1))) (EE tp n (k + 1 + 1))) := by
  refine Ct.ofV (by decide) (Nat.le_of_ble_eq_true rfl) rfl ?_
  show V G RX2 cX2_readClosing none 1 d _ 0 [some (.ref 1)] [] _
  obtain ⟨d, rfl⟩ : ∃ e, d = e + 1 := ⟨d - 1, by omega⟩
  obtain ⟨hT, h3, h14, h15⟩ := id hS
  obtain ⟨h10, hn96, hta, h256⟩ := id hT
  have hfl := FF_le (tp := tp) (n := n) (k := k)
  have hel := EE_le (tp := tp) (n := n) (k := k + 1)
  refine V_aloadn_0 dX2_readClosing_0 ?_
  refine V_getI dX2_readClosing_1 fl_X2_29 oR_fault ?_
  refine V_topi (y := -1) hfa ?_
  refine V_if_lt_t dX2_readClosing_4 8 (by decide) (by decide) ?_
  refine V_aloadn_0 dX2_readClosing_8 ?_
  refine V_cv0f dX2_readClosing_9 cv_X2_65 rcR (Nat.le_of_ble_eq_true rfl) (k_R_head hT h3 hfl) ?_
  refine V_topi (y := 41) (by unfold hdI; rw [if_pos hF, hc]; rfl) ?_
  refine V_bipush 41 dX2_readClosing_12 (by decide) ?_
  refine V_icmp_ne_f dX2_readClosing_14 24 (by decide) (by decide) ?_
  refine V_aloadn_0 dX2_readClosing_17 ?_
  refine V_cv0v dX2_readClosing_18 cv_X2_35 rcR (Nat.le_of_ble_eq_true rfl) (k_R_step (k := k + 1) (by omega) hT h14) ?_
  refine V_goto dX2_readClosing_21 32 (by decide) ?_
  exact V_vret dX2_readClosing_32 ⟨rfl, rfl⟩

set_option maxRecDepth 100000 in
set_option maxHeartbeats 4000000 in
theorem k_R_closeN {G : vG} {σ : vS} {d : Nat} (hd : 3 ≤ d) {tp : Nat → Nat} {n k : Nat} (hS : RS tp n k σ) (hfa : σ 1 6 = -1) (hF : FF tp n k < n) (hc : tp (FF tp n k) ≠ 41) : Cf G yX2_readClosing cX2_readClosing 1 none d [.ref 1] σ none (vup σ 1 6 (nI (FF tp n k))) := by
  refine Ct.ofV (by decide) (Nat.le_of_ble_eq_true rfl) rfl ?_
  show V G RX2 cX2_readClosing none 1 d _ 0 [some (.ref 1)] [] _
  obtain ⟨d, rfl⟩ : ∃ e, d = e + 1 := ⟨d - 1, by omega⟩
  obtain ⟨hT, h3, h14, h15⟩ := id hS
  obtain ⟨h10, hn96, hta, h256⟩ := id hT
  have hfl := FF_le (tp := tp) (n := n) (k := k)
  have hel := EE_le (tp := tp) (n := n) (k := k + 1)
  have hb := h256 _ hF
  refine V_aloadn_0 dX2_readClosing_0 ?_
  refine V_getI dX2_readClosing_1 fl_X2_29 oR_fault ?_
  refine V_topi (y := -1) hfa ?_
  refine V_if_lt_t dX2_readClosing_4 8 (by decide) (by decide) ?_
  refine V_aloadn_0 dX2_readClosing_8 ?_
  refine V_cv0f dX2_readClosing_9 cv_X2_65 rcR (Nat.le_of_ble_eq_true rfl) (k_R_head hT h3 hfl) ?_
  refine V_topi (y := nI (tp (FF tp n k))) (if_pos hF) ?_
  refine V_bipush 41 dX2_readClosing_12 (by decide) ?_
  refine V_icmpN_ne (a := tp (FF tp n k)) (b := 41) dX2_readClosing_14 24 (by decide) (by omega) (by omega) (fun h14 => ?_) (fun h14 => ?_)
  · refine V_aloadn_0 dX2_readClosing_24 ?_
    refine V_aloadn_0 dX2_readClosing_25 ?_
    refine V_getI dX2_readClosing_26 fl_X2_45 oR_from ?_
    refine V_topi (y := nI (FF tp n k)) h3 ?_
    refine V_putI dX2_readClosing_29 fp_X2_29 oR_fault ?_
    exact V_vret dX2_readClosing_32 ⟨rfl, rfl⟩
  · exact absurd h14 hc

set_option maxRecDepth 100000 in
set_option maxHeartbeats 4000000 in
theorem k_R_closeE {G : vG} {σ : vS} {d : Nat} (hd : 3 ≤ d) {tp : Nat → Nat} {n k : Nat} (hS : RS tp n k σ) (hfa : σ 1 6 = -1) (hF : ¬ FF tp n k < n) : Cf G yX2_readClosing cX2_readClosing 1 none d [.ref 1] σ none (vup σ 1 6 (nI (FF tp n k))) := by
  refine Ct.ofV (by decide) (Nat.le_of_ble_eq_true rfl) rfl ?_
  show V G RX2 cX2_readClosing none 1 d _ 0 [some (.ref 1)] [] _
  obtain ⟨d, rfl⟩ : ∃ e, d = e + 1 := ⟨d - 1, by omega⟩
  obtain ⟨hT, h3, h14, h15⟩ := id hS
  obtain ⟨h10, hn96, hta, h256⟩ := id hT
  have hfl := FF_le (tp := tp) (n := n) (k := k)
  have hel := EE_le (tp := tp) (n := n) (k := k + 1)
  refine V_aloadn_0 dX2_readClosing_0 ?_
  refine V_getI dX2_readClosing_1 fl_X2_29 oR_fault ?_
  refine V_topi (y := -1) hfa ?_
  refine V_if_lt_t dX2_readClosing_4 8 (by decide) (by decide) ?_
  refine V_aloadn_0 dX2_readClosing_8 ?_
  refine V_cv0f dX2_readClosing_9 cv_X2_65 rcR (Nat.le_of_ble_eq_true rfl) (k_R_head hT h3 hfl) ?_
  refine V_topi (y := -1) (if_neg hF) ?_
  refine V_bipush 41 dX2_readClosing_12 (by decide) ?_
  refine V_icmp_ne_t dX2_readClosing_14 24 (by decide) (by decide) ?_
  refine V_aloadn_0 dX2_readClosing_24 ?_
  refine V_aloadn_0 dX2_readClosing_25 ?_
  refine V_getI dX2_readClosing_26 fl_X2_45 oR_from ?_
  refine V_topi (y := nI (FF tp n k)) h3 ?_
  refine V_putI dX2_readClosing_29 fp_X2_29 oR_fault ?_
  exact V_vret dX2_readClosing_32 ⟨rfl, rfl⟩

set_option maxRecDepth 100000 in
set_option maxHeartbeats 4000000 in
theorem k_R_closeF {G : vG} {σ : vS} {d : Nat} (hd : 3 ≤ d) {x : Nat} (hfa : σ 1 6 = nI x) (hx : x ≤ 96) : Cf G yX2_readClosing cX2_readClosing 1 none d [.ref 1] σ none σ := by
  refine Ct.ofV (by decide) (Nat.le_of_ble_eq_true rfl) rfl ?_
  show V G RX2 cX2_readClosing none 1 d _ 0 [some (.ref 1)] [] _
  obtain ⟨d, rfl⟩ : ∃ e, d = e + 1 := ⟨d - 1, by omega⟩
  refine V_aloadn_0 dX2_readClosing_0 ?_
  refine V_getI dX2_readClosing_1 fl_X2_29 oR_fault ?_
  refine V_topi (y := nI x) hfa ?_
  refine V_ifN_lt (a := x) dX2_readClosing_4 8 (by decide) (by omega) ?_
  exact V_vret dX2_readClosing_7 ⟨rfl, rfl⟩

/-! ===== tokens ===== -/
section TL
variable {tp : Nat → Nat} {n ky k : Nat}
theorem tk_end (h : ¬ FF tp n k < n) : tkN tp n ky k = 40000 := by
  unfold tkN
  rw [if_neg h]
theorem tk_sign (h : FF tp n k < n) (hs : srt (tp (FF tp n k)) = 0) : tkN tp n ky k = 20000 + tp (FF tp n k) := by
  unfold tkN
  rw [if_pos h, if_pos hs]
theorem tk_numB (h : FF tp n k < n) (hs : srt (tp (FF tp n k)) = 2) (hb : gluP tp n k ∨ 4 < EE tp n (k + 1) - FF tp n k) : tkN tp n ky k = 30000 := by
  unfold tkN
  rw [if_pos h, if_neg (by omega)]
  by_cases g : gluP tp n k
  · rw [if_pos g]
  · rw [if_neg g, if_pos hs, if_neg (by have := hb.resolve_left g; omega)]
theorem tk_num (h : FF tp n k < n) (hs : srt (tp (FF tp n k)) = 2) (hg : ¬ gluP tp n k) (hl : EE tp n (k + 1) - FF tp n k ≤ 4) : tkN tp n ky k = numF tp (FF tp n k) (EE tp n (k + 1) - FF tp n k) := by
  unfold tkN
  rw [if_pos h, if_neg (by omega), if_neg hg, if_pos hs, if_pos hl]
theorem tk_num_lt (h : FF tp n k < n) (hs : srt (tp (FF tp n k)) = 2) (hl : EE tp n (k + 1) - FF tp n k ≤ 4) : numF tp (FF tp n k) (EE tp n (k + 1) - FF tp n k) < 10000 := by
  have hnu := num_lt (tp := tp) (F := FF tp n k) (EE tp n (k + 1) - FF tp n k) (fun j hj => by rw [word_in h (by rw [hs]; decide) (by omega) (by omega)]; exact hs)
  have hp4 : 10 ^ (EE tp n (k + 1) - FF tp n k) ≤ 10000 := Nat.pow_le_pow_right (by decide) hl
  omega
theorem tk_nameB (h : FF tp n k < n) (hs : srt (tp (FF tp n k)) = 1) (hb : gluP tp n k ∨ ¬ (EE tp n (k + 1) - FF tp n k = 1 ∧ nmN ky (tp (FF tp n k)) ≠ 0)) : tkN tp n ky k = 30000 := by
  unfold tkN
  rw [if_pos h, if_neg (by omega)]
  by_cases g : gluP tp n k
  · rw [if_pos g]
  · rw [if_neg g, if_neg (by omega), if_neg (hb.resolve_left g)]
theorem tk_name (h : FF tp n k < n) (hs : srt (tp (FF tp n k)) = 1) (hg : ¬ gluP tp n k) (h1 : EE tp n (k + 1) - FF tp n k = 1) (hm : nmN ky (tp (FF tp n k)) ≠ 0) : tkN tp n ky k = 10000 + (nmN ky (tp (FF tp n k)) - 1) := by
  unfold tkN
  rw [if_pos h, if_neg (by omega), if_neg hg, if_neg (by omega), if_pos ⟨h1, hm⟩]
theorem tk_word (h : FF tp n k < n) (hs : srt (tp (FF tp n k)) ≠ 0) : tkN tp n ky k < 10003 ∨ tkN tp n ky k = 30000 := by
  have hl := srt_le (b := tp (FF tp n k))
  rcases (show srt (tp (FF tp n k)) = 1 ∨ srt (tp (FF tp n k)) = 2 by omega) with e | e
  · by_cases hb : gluP tp n k ∨ ¬ (EE tp n (k + 1) - FF tp n k = 1 ∧ nmN ky (tp (FF tp n k)) ≠ 0)
    · exact Or.inr (tk_nameB h e hb)
    · left
      have hb2 : ¬ gluP tp n k := fun q => hb (Or.inl q)
      have hb3 : EE tp n (k + 1) - FF tp n k = 1 ∧ nmN ky (tp (FF tp n k)) ≠ 0 := Classical.byContradiction (fun q => hb (Or.inr q))
      rw [tk_name h e hb2 hb3.1 hb3.2]
      have := nm_le (ky := ky) (b := tp (FF tp n k))
      omega
  · by_cases hb : gluP tp n k ∨ 4 < EE tp n (k + 1) - FF tp n k
    · exact Or.inr (tk_numB h e hb)
    · left
      have hb2 : ¬ gluP tp n k := fun q => hb (Or.inl q)
      have hb3 : EE tp n (k + 1) - FF tp n k ≤ 4 := Nat.le_of_not_lt (fun q => hb (Or.inr q))
      rw [tk_num h e hb2 hb3]
      have := tk_num_lt h e hb3
      omega
theorem bk_le {s : Nat} : bk s ≤ 5 := by
  unfold bk
  repeat' split
  all_goals omega
theorem bk_srt {b : Nat} (h : srt b ≠ 0) : bk b = 0 := by
  have hl := srt_le (b := b)
  rcases (show srt b = 1 ∨ srt b = 2 by omega) with e | e
  · have := srt1 e
    unfold bk
    rw [if_neg (by omega), if_neg (by omega), if_neg (by omega), if_neg (by omega), if_neg (by omega)]
  · have := srt2 e
    unfold bk
    rw [if_neg (by omega), if_neg (by omega), if_neg (by omega), if_neg (by omega), if_neg (by omega)]
theorem bkT_sign {b : Nat} : bkT (20000 + b) = bk b := by
  unfold bkT
  rw [if_pos (by omega), show 20000 + b - 20000 = b by omega]
theorem bkT_lo {t : Nat} (h : t < 20000) : bkT t = 0 := by
  unfold bkT
  rw [if_neg (by omega)]
theorem bk_tk (h : FF tp n k < n) : bkT (tkN tp n ky k) = bk (tp (FF tp n k)) := by
  by_cases hs : srt (tp (FF tp n k)) = 0
  · rw [tk_sign h hs, bkT_sign]
  · rw [bk_srt hs]
    rcases tk_word (ky := ky) h hs with e | e
    · exact bkT_lo (by omega)
    · rw [e]; rfl
theorem bk_end (h : ¬ FF tp n k < n) : bkT (tkN tp n ky k) = 0 := by
  rw [tk_end h]; rfl
theorem bk_pos (h : bkT (tkN tp n ky k) ≠ 0) : FF tp n k < n ∧ srt (tp (FF tp n k)) = 0 ∧ tkN tp n ky k = 20000 + tp (FF tp n k) := by
  have hF : FF tp n k < n := Classical.byContradiction (fun q => h (bk_end q))
  have hs : srt (tp (FF tp n k)) = 0 := Classical.byContradiction (fun q => h (by rw [bk_tk hF, bk_srt q]))
  exact ⟨hF, hs, tk_sign hF hs⟩
theorem bk_rk {s : Nat} (h : bk s ≠ 0) : rk s = bk s ∧ s ≠ 33 ∧ s ≠ 40 ∧ s ≠ 41 := by
  have h3 : s ≠ 33 := fun e => h (by rw [e]; rfl)
  refine ⟨?_, h3, fun e => h (by rw [e]; rfl), fun e => h (by rw [e]; rfl)⟩
  unfold rk
  rw [if_neg h3]
theorem lw_eq {m l : Nat} (hm : m ≤ 5) (hl : l ≤ 5) : lwI m = nI l ↔ m = l + 1 := by
  unfold lwI
  by_cases h : m = 0
  · rw [if_pos h]
    refine ⟨fun q => ?_, fun q => by omega⟩
    have e : (-1 : Int32).toInt = (nI l).toInt := congrArg _ q
    rw [nI_toInt (by omega)] at e
    have e1 : (-1 : Int32).toInt = -1 := by decide
    omega
  · rw [if_neg h, nI_eq (by omega) (by omega)]
    omega
end TL

theorem k_R_looseH {G : vG} {σ : vS} {d : Nat} {tp : Nat → Nat} {n ky k : Nat} (h256 : ∀ j, j < n → tp j < 256) : Cf G yX2_loosenessOf cX2_loosenessOf 1 (some .int) d [.int (hdI tp n (FF tp n k))] σ (some (.int (lwI (bkT (tkN tp n ky k))))) σ := by
  unfold hdI
  by_cases h : FF tp n k < n
  · rw [if_pos h, bk_tk h]
    exact k_R_loose (h256 _ h)
  · rw [if_neg h, bk_end h]
    exact k_R_looseM
