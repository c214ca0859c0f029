/-! ===== the draft ===== -/
def lvN (c : List Nat) : Nat := (c.filter (fun x => decide (x < 20000))).length
theorem lv_app {c : List Nat} {v : Nat} : lvN (c ++ [v]) = lvN c + if v < 20000 then 1 else 0 := by
  unfold lvN
  rw [List.filter_append, List.length_append]
  congr 1
  by_cases h : v < 20000
  · simp [h]
  · simp [h]
theorem lv_le {c : List Nat} : lvN c ≤ c.length := List.length_filter_le _ _
def DR (ky : Nat) (c : List Nat) (σ : vS) : Prop := σ 2 0 = nI ky ∧ σ 2 1 = nI (lvN c) ∧ σ 2 2 = nI c.length ∧ ∀ i, i < c.length → σ 3 i = nI (c.getD i 0)
def FW (σ σ' : vS) : Prop := ∀ q, q ≠ 2 → q ≠ 3 → σ' q = σ q
theorem DR.of {ky : Nat} {c : List Nat} {σ σ' : vS} (h : DR ky c σ) (h2 : σ' 2 = σ 2) (h3 : σ' 3 = σ 3) : DR ky c σ' := by
  unfold DR
  rw [h2, h3]
  exact h
theorem getD_app {c : List Nat} {v i : Nat} (h : i < c.length + 1) : (c ++ [v]).getD i 0 = if i = c.length then v else c.getD i 0 := by
  by_cases e : i = c.length
  · subst e
    rw [if_pos rfl]
    simp
  · rw [if_neg e]
    simp only [List.getD_eq_getElem?_getD]
    rw [List.getElem?_append_left (by omega)]
theorem DR.push {ky v : Nat} {c : List Nat} {σ σ1 : vS} (h : DR ky c σ) (h0 : σ1 2 0 = nI ky) (h1 : σ1 2 1 = nI (lvN (c ++ [v]))) (h3 : σ1 3 = σ 3) : DR ky (c ++ [v]) (vup (vup σ1 (2 + 1) c.length (nI v)) 2 2 (nI (c.length + 1))) := by
  refine ⟨?_, ?_, ?_, fun i hi => ?_⟩
  · rw [vup_ne (by omega), vup_ne (by omega)]; exact h0
  · rw [vup_ne (by omega), vup_ne (by omega)]; exact h1
  · rw [vup_same, List.length_append]; rfl
  · rw [List.length_append] at hi
    rw [vup_ne (by omega), getD_app (by simpa using hi)]
    by_cases e : i = c.length
    · rw [if_pos e, e]; exact vup_same
    · rw [if_neg e, vup_ne (by omega), h3]
      exact h.2.2.2 i (by simp at hi; omega)

set_option maxRecDepth 100000 in
set_option maxHeartbeats 4000000 in
theorem k_W_add {G : vG} {σ : vS} {d : Nat} {z : Nat} {v : Int32} (hz : σ 2 2 = nI z) (h96 : z < 96) : Cf G yX1_add cX1_add 2 none d [.ref 2, .int v] σ none (vup (vup σ (2 + 1) z v) 2 2 (nI (z + 1))) := by
  refine Ct.ofV (by decide) (Nat.le_of_ble_eq_true rfl) rfl ?_
  show V G RX1 cX1_add none 2 d _ 0 [some (.ref 2), some (.int v)] [] _
  refine V_aloadn_0 dX1_add_0 ?_
  refine V_getI dX1_add_1 fl_X1_22 (oW_size (Or.inl rfl)) ?_
  refine V_topi (y := nI z) hz ?_
  refine V_bipush 96 dX1_add_4 (by decide) ?_
  refine V_icmpN_ge (a := z) (b := 96) dX1_add_6 29 (by decide) (by omega) (by omega) (fun h6 => ?_) (fun h6 => ?_)
  · exfalso; omega
  · refine V_aloadn_0 dX1_add_9 ?_
    refine V_getR dX1_add_10 fl_X1_9 (oW_row (Or.inl rfl)) ?_
    refine V_aloadn_0 dX1_add_13 ?_
    refine V_getI dX1_add_14 fl_X1_22 (oW_size (Or.inl rfl)) ?_
    refine V_topi (y := nI z) hz ?_
    refine V_iloadn_1 dX1_add_17 ?_
    refine V_iast (j := z) dX1_add_18 (aW_row (Or.inl rfl)) (by omega) (by decide) ?_
    refine V_aloadn_0 dX1_add_19 ?_
    refine V_dup dX1_add_20 rfl ?_
    refine V_getI dX1_add_21 fl_X1_22 (oW_size (Or.inl rfl)) ?_
    refine V_topi (y := nI z) (by rw [vup_ne (by omega)]; exact hz) ?_
    refine V_iconst 1 dX1_add_24 (by decide) ?_
    refine V_iaddN (a := z) (b := 1) dX1_add_25 ?_
    refine V_putI dX1_add_26 fp_X1_22 (oW_size (Or.inl rfl)) ?_
    exact V_vret dX1_add_29 ⟨rfl, rfl⟩

set_option maxRecDepth 100000 in
set_option maxHeartbeats 4000000 in
theorem k_W_addF {G : vG} {σ : vS} {d : Nat} {z : Nat} {v : Int32} (hz : σ 2 2 = nI z) (h96 : z ≤ 96) : Cr G yX1_add cX1_add 2 none d [.ref 2, .int v] σ none (fun σ' => FW σ σ' ∧ ∃ y, y ≤ 96 ∧ σ' 2 2 = nI y) := by
  refine Ct.ofV (by decide) (Nat.le_of_ble_eq_true rfl) rfl ?_
  show V G RX1 cX1_add none 2 d _ 0 [some (.ref 2), some (.int v)] [] _
  refine V_aloadn_0 dX1_add_0 ?_
  refine V_getI dX1_add_1 fl_X1_22 (oW_size (Or.inl rfl)) ?_
  refine V_topi (y := nI z) hz ?_
  refine V_bipush 96 dX1_add_4 (by decide) ?_
  refine V_icmpN_ge (a := z) (b := 96) dX1_add_6 29 (by decide) (by omega) (by omega) (fun h6 => ?_) (fun h6 => ?_)
  · exact V_vret dX1_add_29 ⟨rfl, fun _ _ _ => rfl, z, by omega, hz⟩
  · refine V_aloadn_0 dX1_add_9 ?_
    refine V_getR dX1_add_10 fl_X1_9 (oW_row (Or.inl rfl)) ?_
    refine V_aloadn_0 dX1_add_13 ?_
    refine V_getI dX1_add_14 fl_X1_22 (oW_size (Or.inl rfl)) ?_
    refine V_topi (y := nI z) hz ?_
    refine V_iloadn_1 dX1_add_17 ?_
    refine V_iast (j := z) dX1_add_18 (aW_row (Or.inl rfl)) (by omega) (by decide) ?_
    refine V_aloadn_0 dX1_add_19 ?_
    refine V_dup dX1_add_20 rfl ?_
    refine V_getI dX1_add_21 fl_X1_22 (oW_size (Or.inl rfl)) ?_
    refine V_topi (y := nI z) (by rw [vup_ne (by omega)]; exact hz) ?_
    refine V_iconst 1 dX1_add_24 (by decide) ?_
    refine V_iaddN (a := z) (b := 1) dX1_add_25 ?_
    refine V_putI dX1_add_26 fp_X1_22 (oW_size (Or.inl rfl)) ?_
    exact V_vret dX1_add_29 ⟨rfl, fun q a b => by rw [vup_p a, vup_p (by omega)], z + 1, by omega, vup_same⟩

set_option maxRecDepth 100000 in
set_option maxHeartbeats 4000000 in
theorem k_W_addSign {G : vG} {σ : vS} {d : Nat} (hd : 1 ≤ d) {ky : Nat} {c : List Nat} (hD : DR ky c σ) (hl : c.length < 96) {s : Nat} (hs : s < 256) : Cr G yX1_addSign cX1_addSign 2 none d [.ref 2, .int (nI s)] σ none (fun σ' => DR ky (c ++ [20000 + s]) σ' ∧ FW σ σ') := by
  refine Ct.ofV (by decide) (Nat.le_of_ble_eq_true rfl) rfl ?_
  show V G RX1 cX1_addSign none 2 d _ 0 [some (.ref 2), some (.int (nI s))] [] _
  obtain ⟨d, rfl⟩ : ∃ e, d = e + 1 := ⟨d - 1, by omega⟩
  refine V_aloadn_0 dX1_addSign_0 ?_
  refine V_sipush 20000 dX1_addSign_1 (by decide) ?_
  refine V_iloadn_1 dX1_addSign_4 ?_
  refine V_iaddN (a := 20000) (b := s) dX1_addSign_5 ?_
  refine V_cv1v dX1_addSign_6 cv_X1_31 (rcW (Or.inl rfl)) (Nat.le_of_ble_eq_true rfl) (k_W_add hD.2.2.1 hl) ?_
  exact V_vret dX1_addSign_9 ⟨rfl, hD.push hD.1 (by rw [lv_app, if_neg (by omega)]; exact hD.2.1) rfl, fun q a b => by (repeat rw [vup_p (by omega)])⟩

set_option maxRecDepth 100000 in
set_option maxHeartbeats 4000000 in
theorem k_W_addSignF {G : vG} {σ : vS} {d : Nat} (hd : 1 ≤ d) {z : Nat} {s : Int32} (hz : σ 2 2 = nI z) (h96 : z ≤ 96) : Cr G yX1_addSign cX1_addSign 2 none d [.ref 2, .int s] σ none (fun σ' => FW σ σ' ∧ ∃ y, y ≤ 96 ∧ σ' 2 2 = nI y) := by
  refine Ct.ofV (by decide) (Nat.le_of_ble_eq_true rfl) rfl ?_
  show V G RX1 cX1_addSign none 2 d _ 0 [some (.ref 2), some (.int s)] [] _
  obtain ⟨d, rfl⟩ : ∃ e, d = e + 1 := ⟨d - 1, by omega⟩
  refine V_aloadn_0 dX1_addSign_0 ?_
  refine V_sipush 20000 dX1_addSign_1 (by decide) ?_
  refine V_iloadn_1 dX1_addSign_4 ?_
  refine V_iadd dX1_addSign_5 ?_
  refine V_cv1n dX1_addSign_6 cv_X1_31 (rcW (Or.inl rfl)) (Nat.le_of_ble_eq_true rfl) (k_W_addF hz h96) (fun σ' h5 => ?_)
  exact V_vret dX1_addSign_9 ⟨rfl, h5⟩

set_option maxRecDepth 100000 in
set_option maxHeartbeats 4000000 in
theorem k_W_addNumber {G : vG} {σ : vS} {d : Nat} (hd : 1 ≤ d) {ky : Nat} {c : List Nat} (hD : DR ky c σ) (hl : c.length < 96) {v : Nat} (hv : v < 20000) : Cr G yX1_addNumber cX1_addNumber 2 none d [.ref 2, .int (nI v)] σ none (fun σ' => DR ky (c ++ [v]) σ' ∧ FW σ σ') := by
  refine Ct.ofV (by decide) (Nat.le_of_ble_eq_true rfl) rfl ?_
  show V G RX1 cX1_addNumber none 2 d _ 0 [some (.ref 2), some (.int (nI v))] [] _
  obtain ⟨d, rfl⟩ : ∃ e, d = e + 1 := ⟨d - 1, by omega⟩
  have hlv := lv_le (c := c)
  refine V_aloadn_0 dX1_addNumber_0 ?_
  refine V_dup dX1_addNumber_1 rfl ?_
  refine V_getI dX1_addNumber_2 fl_X1_19 (oW_leaves (Or.inl rfl)) ?_
  refine V_topi (y := nI (lvN c)) hD.2.1 ?_
  refine V_iconst 1 dX1_addNumber_5 (by decide) ?_
  refine V_iaddN (a := lvN c) (b := 1) dX1_addNumber_6 ?_
  refine V_putI dX1_addNumber_7 fp_X1_19 (oW_leaves (Or.inl rfl)) ?_
  refine V_aloadn_0 dX1_addNumber_10 ?_
  refine V_iloadn_1 dX1_addNumber_11 ?_
  refine V_cv1v dX1_addNumber_12 cv_X1_31 (rcW (Or.inl rfl)) (Nat.le_of_ble_eq_true rfl) (k_W_add (by rw [vup_ne (by omega)]; exact hD.2.2.1) hl) ?_
  exact V_vret dX1_addNumber_15 ⟨rfl, hD.push (σ1 := vup σ 2 1 (nI (lvN c + 1))) (by rw [vup_ne (by omega)]; exact hD.1) (by rw [lv_app, if_pos (by omega), vup_same]) (vup_p (by decide)), fun q a b => by (repeat rw [vup_p (by omega)])⟩

set_option maxRecDepth 100000 in
set_option maxHeartbeats 4000000 in
theorem k_W_addName {G : vG} {σ : vS} {d : Nat} (hd : 1 ≤ d) {ky : Nat} {c : List Nat} (hD : DR ky c σ) (hl : c.length < 96) {v : Nat} (hv : v < 3) : Cr G yX1_addName cX1_addName 2 none d [.ref 2, .int (nI v)] σ none (fun σ' => DR ky (c ++ [10000 + v]) σ' ∧ FW σ σ') := by
  refine Ct.ofV (by decide) (Nat.le_of_ble_eq_true rfl) rfl ?_
  show V G RX1 cX1_addName none 2 d _ 0 [some (.ref 2), some (.int (nI v))] [] _
  obtain ⟨d, rfl⟩ : ∃ e, d = e + 1 := ⟨d - 1, by omega⟩
  have hlv := lv_le (c := c)
  refine V_aloadn_0 dX1_addName_0 ?_
  refine V_dup dX1_addName_1 rfl ?_
  refine V_getI dX1_addName_2 fl_X1_19 (oW_leaves (Or.inl rfl)) ?_
  refine V_topi (y := nI (lvN c)) hD.2.1 ?_
  refine V_iconst 1 dX1_addName_5 (by decide) ?_
  refine V_iaddN (a := lvN c) (b := 1) dX1_addName_6 ?_
  refine V_putI dX1_addName_7 fp_X1_19 (oW_leaves (Or.inl rfl)) ?_
  refine V_aloadn_0 dX1_addName_10 ?_
  refine V_sipush 10000 dX1_addName_11 (by decide) ?_
  refine V_iloadn_1 dX1_addName_14 ?_
  refine V_iaddN (a := 10000) (b := v) dX1_addName_15 ?_
  refine V_cv1v dX1_addName_16 cv_X1_31 (rcW (Or.inl rfl)) (Nat.le_of_ble_eq_true rfl) (k_W_add (by rw [vup_ne (by omega)]; exact hD.2.2.1) hl) ?_
  exact V_vret dX1_addName_19 ⟨rfl, hD.push (σ1 := vup σ 2 1 (nI (lvN c + 1))) (by rw [vup_ne (by omega)]; exact hD.1) (by rw [lv_app, if_pos (by omega), vup_same]) (vup_p (by decide)), fun q a b => by (repeat rw [vup_p (by omega)])⟩

abbrev kw0 (tp : Nat → Nat) (F E : Nat) : Prop := E - F = 4 ∧ tp (F + 0) = 104 ∧ tp (F + 1) = 105 ∧ tp (F + 2) = 103 ∧ tp (F + 3) = 104
abbrev kw1 (tp : Nat → Nat) (F E : Nat) : Prop := E - F = 3 ∧ tp (F + 0) = 102 ∧ tp (F + 1) = 101 ∧ tp (F + 2) = 101
abbrev kw2 (tp : Nat → Nat) (F E : Nat) : Prop := E - F = 4 ∧ tp (F + 0) = 102 ∧ tp (F + 1) = 105 ∧ tp (F + 2) = 110 ∧ tp (F + 3) = 101
set_option maxRecDepth 100000 in
set_option maxHeartbeats 4000000 in
theorem k_R_isWord0 {G : vG} {σ : vS} {d : Nat} (hd : 5 ≤ d) {tp : Nat → Nat} {n : Nat} (hT : RT tp n σ) {F E : Nat} (h3 : σ 1 3 = nI F) (h14 : σ 1 4 = nI E) (hFE : F ≤ E) (hE : E ≤ n) : Cf G yX2_isWord cX2_isWord 3 (some .boolean) d [.ref 1, .ref 1001] σ (some (.int (bI (kw0 tp F E)))) σ := by
  refine Ct.ofV (by decide) (Nat.le_of_ble_eq_true rfl) rfl ?_
  show V G RX2 cX2_isWord (some .boolean) 3 d _ 0 [some (.ref 1), some (.ref 1001), none] [] _
  obtain ⟨d, rfl⟩ : ∃ e, d = e + 1 := ⟨d - 1, by omega⟩
  obtain ⟨h10, hn96, h4, h256⟩ := id hT
  refine V_aloadn_0 dX2_isWord_0 ?_
  refine V_getI dX2_isWord_1 fl_X2_32 oR_end ?_
  refine V_topi (y := nI E) h14 ?_
  refine V_aloadn_0 dX2_isWord_4 ?_
  refine V_getI dX2_isWord_5 fl_X2_45 oR_from ?_
  refine V_topi (y := nI F) h3 ?_
  refine V_isubN (a := E) (b := F) dX2_isWord_8 (by omega) ?_
  refine V_aloadn_1 dX2_isWord_9 ?_
  refine V_cv0f dX2_isWord_10 cv_X2_114 (rcX (j := 0) (by decide)) (Nat.le_of_ble_eq_true rfl) (k_J_length (j := 0) (by omega) (by decide)) ?_
  refine V_topi (y := 4) (by decide) ?_
  refine V_icmpN_eq (a := E - F) (b := 4) dX2_isWord_13 18 (by decide) (by omega) (by omega) (fun h13 => ?_) (fun h13 => ?_)
  · refine V_iconst 0 dX2_isWord_18 (by decide) ?_
    refine V_istoren_2 dX2_isWord_19 (by first | exact rfl | exact True.intro) (by decide) ?_
    refine V_iloadn_2 dX2_isWord_20 ?_
    refine V_aloadn_1 dX2_isWord_21 ?_
    refine V_cv0f dX2_isWord_22 cv_X2_114 (rcX (j := 0) (by decide)) (Nat.le_of_ble_eq_true rfl) (k_J_length (j := 0) (by omega) (by decide)) ?_
    refine V_topi (y := 4) (by decide) ?_
    refine V_icmp_ge_f dX2_isWord_25 55 (by decide) (by decide) ?_
    refine V_aloadn_0 dX2_isWord_28 ?_
    refine V_getR dX2_isWord_29 fl_X2_18 oR_tape ?_
    refine V_aloadn_0 dX2_isWord_32 ?_
    refine V_getI dX2_isWord_33 fl_X2_45 oR_from ?_
    refine V_topi (y := nI F) h3 ?_
    refine V_iloadn_2 dX2_isWord_36 ?_
    refine V_iaddN (a := F) (b := 0) dX2_isWord_37 ?_
    have hb0 := h256 (F + 0) (by omega)
    refine V_iald (j := F + 0) dX2_isWord_38 aR_tape (by omega) (by decide) ?_
    refine V_topi (y := nI (tp (F + 0))) (h4 (F + 0) (by omega)) ?_
    refine V_aloadn_1 dX2_isWord_39 ?_
    refine V_iloadn_2 dX2_isWord_40 ?_
    refine V_cv1f dX2_isWord_41 cv_X2_116 (rcX (j := 0) (by decide)) (Nat.le_of_ble_eq_true rfl) (k_J_charAt (j := 0) (i := 0) (by omega) (by decide) (by decide)) ?_
    refine V_topi (y := 104) (by decide) ?_
    refine V_icmpN_eq (a := tp (F + 0)) (b := 104) dX2_isWord_44 49 (by decide) (by omega) (by omega) (fun h44 => ?_) (fun h44 => ?_)
    · have hc0 := h44
      refine V_iinc_2 dX2_isWord_49 (by first | exact rfl | exact True.intro) (by decide) 1 (by decide) ?_
      refine V_goto dX2_isWord_52 20 (by decide) ?_
      refine V_iloadn_2 dX2_isWord_20 ?_
      refine V_aloadn_1 dX2_isWord_21 ?_
      refine V_cv0f dX2_isWord_22 cv_X2_114 (rcX (j := 0) (by decide)) (Nat.le_of_ble_eq_true rfl) (k_J_length (j := 0) (by omega) (by decide)) ?_
      refine V_topi (y := 4) (by decide) ?_
      refine V_icmp_ge_f dX2_isWord_25 55 (by decide) (by decide) ?_
      refine V_aloadn_0 dX2_isWord_28 ?_
      refine V_getR dX2_isWord_29 fl_X2_18 oR_tape ?_
      refine V_aloadn_0 dX2_isWord_32 ?_
      refine V_getI dX2_isWord_33 fl_X2_45 oR_from ?_
      refine V_topi (y := nI F) h3 ?_
      refine V_iloadn_2 dX2_isWord_36 ?_
      refine V_iaddN (a := F) (b := 1) dX2_isWord_37 ?_
      have hb1 := h256 (F + 1) (by omega)
      refine V_iald (j := F + 1) dX2_isWord_38 aR_tape (by omega) (by decide) ?_
      refine V_topi (y := nI (tp (F + 1))) (h4 (F + 1) (by omega)) ?_
      refine V_aloadn_1 dX2_isWord_39 ?_
      refine V_iloadn_2 dX2_isWord_40 ?_
      refine V_cv1f dX2_isWord_41 cv_X2_116 (rcX (j := 0) (by decide)) (Nat.le_of_ble_eq_true rfl) (k_J_charAt (j := 0) (i := 1) (by omega) (by decide) (by decide)) ?_
      refine V_topi (y := 105) (by decide) ?_
      refine V_icmpN_eq (a := tp (F + 1)) (b := 105) dX2_isWord_44 49 (by decide) (by omega) (by omega) (fun h44 => ?_) (fun h44 => ?_)
      · have hc1 := h44
        refine V_iinc_2 dX2_isWord_49 (by first | exact rfl | exact True.intro) (by decide) 2 (by decide) ?_
        refine V_goto dX2_isWord_52 20 (by decide) ?_
        refine V_iloadn_2 dX2_isWord_20 ?_
        refine V_aloadn_1 dX2_isWord_21 ?_
        refine V_cv0f dX2_isWord_22 cv_X2_114 (rcX (j := 0) (by decide)) (Nat.le_of_ble_eq_true rfl) (k_J_length (j := 0) (by omega) (by decide)) ?_
        refine V_topi (y := 4) (by decide) ?_
        refine V_icmp_ge_f dX2_isWord_25 55 (by decide) (by decide) ?_
        refine V_aloadn_0 dX2_isWord_28 ?_
        refine V_getR dX2_isWord_29 fl_X2_18 oR_tape ?_
        refine V_aloadn_0 dX2_isWord_32 ?_
        refine V_getI dX2_isWord_33 fl_X2_45 oR_from ?_
        refine V_topi (y := nI F) h3 ?_
        refine V_iloadn_2 dX2_isWord_36 ?_
        refine V_iaddN (a := F) (b := 2) dX2_isWord_37 ?_
        have hb2 := h256 (F + 2) (by omega)
        refine V_iald (j := F + 2) dX2_isWord_38 aR_tape (by omega) (by decide) ?_
        refine V_topi (y := nI (tp (F + 2))) (h4 (F + 2) (by omega)) ?_
        refine V_aloadn_1 dX2_isWord_39 ?_
        refine V_iloadn_2 dX2_isWord_40 ?_
        refine V_cv1f dX2_isWord_41 cv_X2_116 (rcX (j := 0) (by decide)) (Nat.le_of_ble_eq_true rfl) (k_J_charAt (j := 0) (i := 2) (by omega) (by decide) (by decide)) ?_
        refine V_topi (y := 103) (by decide) ?_
        refine V_icmpN_eq (a := tp (F + 2)) (b := 103) dX2_isWord_44 49 (by decide) (by omega) (by omega) (fun h44 => ?_) (fun h44 => ?_)
        · have hc2 := h44
          refine V_iinc_2 dX2_isWord_49 (by first | exact rfl | exact True.intro) (by decide) 3 (by decide) ?_
          refine V_goto dX2_isWord_52 20 (by decide) ?_
          refine V_iloadn_2 dX2_isWord_20 ?_
          refine V_aloadn_1 dX2_isWord_21 ?_
          refine V_cv0f dX2_isWord_22 cv_X2_114 (rcX (j := 0) (by decide)) (Nat.le_of_ble_eq_true rfl) (k_J_length (j := 0) (by omega) (by decide)) ?_
          refine V_topi (y := 4) (by decide) ?_
          refine V_icmp_ge_f dX2_isWord_25 55 (by decide) (by decide) ?_
          refine V_aloadn_0 dX2_isWord_28 ?_
          refine V_getR dX2_isWord_29 fl_X2_18 oR_tape ?_
          refine V_aloadn_0 dX2_isWord_32 ?_
          refine V_getI dX2_isWord_33 fl_X2_45 oR_from ?_
          refine V_topi (y := nI F) h3 ?_
          refine V_iloadn_2 dX2_isWord_36 ?_
          refine V_iaddN (a := F) (b := 3) dX2_isWord_37 ?_
          have hb3 := h256 (F + 3) (by omega)
          refine V_iald (j := F + 3) dX2_isWord_38 aR_tape (by omega) (by decide) ?_
          refine V_topi (y := nI (tp (F + 3))) (h4 (F + 3) (by omega)) ?_
          refine V_aloadn_1 dX2_isWord_39 ?_
          refine V_iloadn_2 dX2_isWord_40 ?_
          refine V_cv1f dX2_isWord_41 cv_X2_116 (rcX (j := 0) (by decide)) (Nat.le_of_ble_eq_true rfl) (k_J_charAt (j := 0) (i := 3) (by omega) (by decide) (by decide)) ?_
          refine V_topi (y := 104) (by decide) ?_
          refine V_icmpN_eq (a := tp (F + 3)) (b := 104) dX2_isWord_44 49 (by decide) (by omega) (by omega) (fun h44 => ?_) (fun h44 => ?_)
          · have hc3 := h44
            refine V_iinc_2 dX2_isWord_49 (by first | exact rfl | exact True.intro) (by decide) 4 (by decide) ?_
            refine V_goto dX2_isWord_52 20 (by decide) ?_
            refine V_iloadn_2 dX2_isWord_20 ?_
            refine V_aloadn_1 dX2_isWord_21 ?_
            refine V_cv0f dX2_isWord_22 cv_X2_114 (rcX (j := 0) (by decide)) (Nat.le_of_ble_eq_true rfl) (k_J_length (j := 0) (by omega) (by decide)) ?_
            refine V_topi (y := 4) (by decide) ?_
            refine V_icmp_ge_t dX2_isWord_25 55 (by decide) (by decide) ?_
            refine V_iconst 1 dX2_isWord_55 (by decide) ?_
            exact V_zret dX2_isWord_56 (by decide) ⟨rB1 ⟨h13, hc0, hc1, hc2, hc3⟩, rfl⟩
          · refine V_iconst 0 dX2_isWord_47 (by decide) ?_
            exact V_zret dX2_isWord_48 (by decide) ⟨rB0 (fun q => by obtain ⟨-, a0, a1, a2, a3⟩ := q; exact h44 a3), rfl⟩
        · refine V_iconst 0 dX2_isWord_47 (by decide) ?_
          exact V_zret dX2_isWord_48 (by decide) ⟨rB0 (fun q => by obtain ⟨-, a0, a1, a2, a3⟩ := q; exact h44 a2), rfl⟩
      · refine V_iconst 0 dX2_isWord_47 (by decide) ?_
        exact V_zret dX2_isWord_48 (by decide) ⟨rB0 (fun q => by obtain ⟨-, a0, a1, a2, a3⟩ := q; exact h44 a1), rfl⟩
    · refine V_iconst 0 dX2_isWord_47 (by decide) ?_
      exact V_zret dX2_isWord_48 (by decide) ⟨rB0 (fun q => by obtain ⟨-, a0, a1, a2, a3⟩ := q; exact h44 a0), rfl⟩
  · refine V_iconst 0 dX2_isWord_16 (by decide) ?_
    exact V_zret dX2_isWord_17 (by decide) ⟨rB0 (fun q => h13 q.1), rfl⟩

set_option maxRecDepth 100000 in
set_option maxHeartbeats 4000000 in
theorem k_R_isWord1 {G : vG} {σ : vS} {d : Nat} (hd : 5 ≤ d) {tp : Nat → Nat} {n : Nat} (hT : RT tp n σ) {F E : Nat} (h3 : σ 1 3 = nI F) (h14 : σ 1 4 = nI E) (hFE : F ≤ E) (hE : E ≤ n) : Cf G yX2_isWord cX2_isWord 3 (some .boolean) d [.ref 1, .ref 1002] σ (some (.int (bI (kw1 tp F E)))) σ := by
  refine Ct.ofV (by decide) (Nat.le_of_ble_eq_true rfl) rfl ?_
  show V G RX2 cX2_isWord (some .boolean) 3 d _ 0 [some (.ref 1), some (.ref 1002), none] [] _
  obtain ⟨d, rfl⟩ : ∃ e, d = e + 1 := ⟨d - 1, by omega⟩
  obtain ⟨h10, hn96, h4, h256⟩ := id hT
  refine V_aloadn_0 dX2_isWord_0 ?_
  refine V_getI dX2_isWord_1 fl_X2_32 oR_end ?_
  refine V_topi (y := nI E) h14 ?_
  refine V_aloadn_0 dX2_isWord_4 ?_
  refine V_getI dX2_isWord_5 fl_X2_45 oR_from ?_
  refine V_topi (y := nI F) h3 ?_
  refine V_isubN (a := E) (b := F) dX2_isWord_8 (by omega) ?_
  refine V_aloadn_1 dX2_isWord_9 ?_
  refine V_cv0f dX2_isWord_10 cv_X2_114 (rcX (j := 1) (by decide)) (Nat.le_of_ble_eq_true rfl) (k_J_length (j := 1) (by omega) (by decide)) ?_
  refine V_topi (y := 3) (by decide) ?_
  refine V_icmpN_eq (a := E - F) (b := 3) dX2_isWord_13 18 (by decide) (by omega) (by omega) (fun h13 => ?_) (fun h13 => ?_)
  · refine V_iconst 0 dX2_isWord_18 (by decide) ?_
    refine V_istoren_2 dX2_isWord_19 (by first | exact rfl | exact True.intro) (by decide) ?_
    refine V_iloadn_2 dX2_isWord_20 ?_
    refine V_aloadn_1 dX2_isWord_21 ?_
    refine V_cv0f dX2_isWord_22 cv_X2_114 (rcX (j := 1) (by decide)) (Nat.le_of_ble_eq_true rfl) (k_J_length (j := 1) (by omega) (by decide)) ?_
    refine V_topi (y := 3) (by decide) ?_
    refine V_icmp_ge_f dX2_isWord_25 55 (by decide) (by decide) ?_
    refine V_aloadn_0 dX2_isWord_28 ?_
    refine V_getR dX2_isWord_29 fl_X2_18 oR_tape ?_
    refine V_aloadn_0 dX2_isWord_32 ?_
    refine V_getI dX2_isWord_33 fl_X2_45 oR_from ?_
    refine V_topi (y := nI F) h3 ?_
    refine V_iloadn_2 dX2_isWord_36 ?_
    refine V_iaddN (a := F) (b := 0) dX2_isWord_37 ?_
    have hb0 := h256 (F + 0) (by omega)
    refine V_iald (j := F + 0) dX2_isWord_38 aR_tape (by omega) (by decide) ?_
    refine V_topi (y := nI (tp (F + 0))) (h4 (F + 0) (by omega)) ?_
    refine V_aloadn_1 dX2_isWord_39 ?_
    refine V_iloadn_2 dX2_isWord_40 ?_
    refine V_cv1f dX2_isWord_41 cv_X2_116 (rcX (j := 1) (by decide)) (Nat.le_of_ble_eq_true rfl) (k_J_charAt (j := 1) (i := 0) (by omega) (by decide) (by decide)) ?_
    refine V_topi (y := 102) (by decide) ?_
    refine V_icmpN_eq (a := tp (F + 0)) (b := 102) dX2_isWord_44 49 (by decide) (by omega) (by omega) (fun h44 => ?_) (fun h44 => ?_)
    · have hc0 := h44
      refine V_iinc_2 dX2_isWord_49 (by first | exact rfl | exact True.intro) (by decide) 1 (by decide) ?_
      refine V_goto dX2_isWord_52 20 (by decide) ?_
      refine V_iloadn_2 dX2_isWord_20 ?_
      refine V_aloadn_1 dX2_isWord_21 ?_
      refine V_cv0f dX2_isWord_22 cv_X2_114 (rcX (j := 1) (by decide)) (Nat.le_of_ble_eq_true rfl) (k_J_length (j := 1) (by omega) (by decide)) ?_
      refine V_topi (y := 3) (by decide) ?_
      refine V_icmp_ge_f dX2_isWord_25 55 (by decide) (by decide) ?_
      refine V_aloadn_0 dX2_isWord_28 ?_
      refine V_getR dX2_isWord_29 fl_X2_18 oR_tape ?_
      refine V_aloadn_0 dX2_isWord_32 ?_
      refine V_getI dX2_isWord_33 fl_X2_45 oR_from ?_
      refine V_topi (y := nI F) h3 ?_
      refine V_iloadn_2 dX2_isWord_36 ?_
      refine V_iaddN (a := F) (b := 1) dX2_isWord_37 ?_
      have hb1 := h256 (F + 1) (by omega)
      refine V_iald (j := F + 1) dX2_isWord_38 aR_tape (by omega) (by decide) ?_
      refine V_topi (y := nI (tp (F + 1))) (h4 (F + 1) (by omega)) ?_
      refine V_aloadn_1 dX2_isWord_39 ?_
      refine V_iloadn_2 dX2_isWord_40 ?_
      refine V_cv1f dX2_isWord_41 cv_X2_116 (rcX (j := 1) (by decide)) (Nat.le_of_ble_eq_true rfl) (k_J_charAt (j := 1) (i := 1) (by omega) (by decide) (by decide)) ?_
      refine V_topi (y := 101) (by decide) ?_
      refine V_icmpN_eq (a := tp (F + 1)) (b := 101) dX2_isWord_44 49 (by decide) (by omega) (by omega) (fun h44 => ?_) (fun h44 => ?_)
      · have hc1 := h44
        refine V_iinc_2 dX2_isWord_49 (by first | exact rfl | exact True.intro) (by decide) 2 (by decide) ?_
        refine V_goto dX2_isWord_52 20 (by decide) ?_
        refine V_iloadn_2 dX2_isWord_20 ?_
        refine V_aloadn_1 dX2_isWord_21 ?_
        refine V_cv0f dX2_isWord_22 cv_X2_114 (rcX (j := 1) (by decide)) (Nat.le_of_ble_eq_true rfl) (k_J_length (j := 1) (by omega) (by decide)) ?_
        refine V_topi (y := 3) (by decide) ?_
        refine V_icmp_ge_f dX2_isWord_25 55 (by decide) (by decide) ?_
        refine V_aloadn_0 dX2_isWord_28 ?_
        refine V_getR dX2_isWord_29 fl_X2_18 oR_tape ?_
        refine V_aloadn_0 dX2_isWord_32 ?_
        refine V_getI dX2_isWord_33 fl_X2_45 oR_from ?_
        refine V_topi (y := nI F) h3 ?_
        refine V_iloadn_2 dX2_isWord_36 ?_
        refine V_iaddN (a := F) (b := 2) dX2_isWord_37 ?_
        have hb2 := h256 (F + 2) (by omega)
        refine V_iald (j := F + 2) dX2_isWord_38 aR_tape (by omega) (by decide) ?_
        refine V_topi (y := nI (tp (F + 2))) (h4 (F + 2) (by omega)) ?_
        refine V_aloadn_1 dX2_isWord_39 ?_
        refine V_iloadn_2 dX2_isWord_40 ?_
        refine V_cv1f dX2_isWord_41 cv_X2_116 (rcX (j := 1) (by decide)) (Nat.le_of_ble_eq_true rfl) (k_J_charAt (j := 1) (i := 2) (by omega) (by decide) (by decide)) ?_
        refine V_topi (y := 101) (by decide) ?_
        refine V_icmpN_eq (a := tp (F + 2)) (b := 101) dX2_isWord_44 49 (by decide) (by omega) (by omega) (fun h44 => ?_) (fun h44 => ?_)
        · have hc2 := h44
          refine V_iinc_2 dX2_isWord_49 (by first | exact rfl | exact True.intro) (by decide) 3 (by decide) ?_
          refine V_goto dX2_isWord_52 20 (by decide) ?_
          refine V_iloadn_2 dX2_isWord_20 ?_
          refine V_aloadn_1 dX2_isWord_21 ?_
          refine V_cv0f dX2_isWord_22 cv_X2_114 (rcX (j := 1) (by decide)) (Nat.le_of_ble_eq_true rfl) (k_J_length (j := 1) (by omega) (by decide)) ?_
          refine V_topi (y := 3) (by decide) ?_
          refine V_icmp_ge_t dX2_isWord_25 55 (by decide) (by decide) ?_
          refine V_iconst 1 dX2_isWord_55 (by decide) ?_
          exact V_zret dX2_isWord_56 (by decide) ⟨rB1 ⟨h13, hc0, hc1, hc2⟩, rfl⟩
        · refine V_iconst 0 dX2_isWord_47 (by decide) ?_
          exact V_zret dX2_isWord_48 (by decide) ⟨rB0 (fun q => by obtain ⟨-, a0, a1, a2⟩ := q; exact h44 a2), rfl⟩
      · refine V_iconst 0 dX2_isWord_47 (by decide) ?_
        exact V_zret dX2_isWord_48 (by decide) ⟨rB0 (fun q => by obtain ⟨-, a0, a1, a2⟩ := q; exact h44 a1), rfl⟩
    · refine V_iconst 0 dX2_isWord_47 (by decide) ?_
      exact V_zret dX2_isWord_48 (by decide) ⟨rB0 (fun q => by obtain ⟨-, a0, a1, a2⟩ := q; exact h44 a0), rfl⟩
  · refine V_iconst 0 dX2_isWord_16 (by decide) ?_
    exact V_zret dX2_isWord_17 (by decide) ⟨rB0 (fun q => h13 q.1), rfl⟩

set_option maxRecDepth 100000 in
set_option maxHeartbeats 4000000 in
theorem k_R_isWord2 {G : vG} {σ : vS} {d : Nat} (hd : 5 ≤ d) {tp : Nat → Nat} {n : Nat} (hT : RT tp n σ) {F E : Nat} (h3 : σ 1 3 = nI F) (h14 : σ 1 4 = nI E) (hFE : F ≤ E) (hE : E ≤ n) : Cf G yX2_isWord cX2_isWord 3 (some .boolean) d [.ref 1, .ref 1003] σ (some (.int (bI (kw2 tp F E)))) σ := by
  refine Ct.ofV (by decide) (Nat.le_of_ble_eq_true rfl) rfl ?_
  show V G RX2 cX2_isWord (some .boolean) 3 d _ 0 [some (.ref 1), some (.ref 1003), none] [] _
  obtain ⟨d, rfl⟩ : ∃ e, d = e + 1 := ⟨d - 1, by omega⟩
  obtain ⟨h10, hn96, h4, h256⟩ := id hT
  refine V_aloadn_0 dX2_isWord_0 ?_
  refine V_getI dX2_isWord_1 fl_X2_32 oR_end ?_
  refine V_topi (y := nI E) h14 ?_
  refine V_aloadn_0 dX2_isWord_4 ?_
  refine V_getI dX2_isWord_5 fl_X2_45 oR_from ?_
  refine V_topi (y := nI F) h3 ?_
  refine V_isubN (a := E) (b := F) dX2_isWord_8 (by omega) ?_
  refine V_aloadn_1 dX2_isWord_9 ?_
  refine V_cv0f dX2_isWord_10 cv_X2_114 (rcX (j := 2) (by decide)) (Nat.le_of_ble_eq_true rfl) (k_J_length (j := 2) (by omega) (by decide)) ?_
  refine V_topi (y := 4) (by decide) ?_
  refine V_icmpN_eq (a := E - F) (b := 4) dX2_isWord_13 18 (by decide) (by omega) (by omega) (fun h13 => ?_) (fun h13 => ?_)
  · refine V_iconst 0 dX2_isWord_18 (by decide) ?_
    refine V_istoren_2 dX2_isWord_19 (by first | exact rfl | exact True.intro) (by decide) ?_
    refine V_iloadn_2 dX2_isWord_20 ?_
    refine V_aloadn_1 dX2_isWord_21 ?_
    refine V_cv0f dX2_isWord_22 cv_X2_114 (rcX (j := 2) (by decide)) (Nat.le_of_ble_eq_true rfl) (k_J_length (j := 2) (by omega) (by decide)) ?_
    refine V_topi (y := 4) (by decide) ?_
    refine V_icmp_ge_f dX2_isWord_25 55 (by decide) (by decide) ?_
    refine V_aloadn_0 dX2_isWord_28 ?_
    refine V_getR dX2_isWord_29 fl_X2_18 oR_tape ?_
    refine V_aloadn_0 dX2_isWord_32 ?_
    refine V_getI dX2_isWord_33 fl_X2_45 oR_from ?_
    refine V_topi (y := nI F) h3 ?_
    refine V_iloadn_2 dX2_isWord_36 ?_
    refine V_iaddN (a := F) (b := 0) dX2_isWord_37 ?_
    have hb0 := h256 (F + 0) (by omega)
    refine V_iald (j := F + 0) dX2_isWord_38 aR_tape (by omega) (by decide) ?_
    refine V_topi (y := nI (tp (F + 0))) (h4 (F + 0) (by omega)) ?_
    refine V_aloadn_1 dX2_isWord_39 ?_
    refine V_iloadn_2 dX2_isWord_40 ?_
    refine V_cv1f dX2_isWord_41 cv_X2_116 (rcX (j := 2) (by decide)) (Nat.le_of_ble_eq_true rfl) (k_J_charAt (j := 2) (i := 0) (by omega) (by decide) (by decide)) ?_
    refine V_topi (y := 102) (by decide) ?_
    refine V_icmpN_eq (a := tp (F + 0)) (b := 102) dX2_isWord_44 49 (by decide) (by omega) (by omega) (fun h44 => ?_) (fun h44 => ?_)
    · have hc0 := h44
      refine V_iinc_2 dX2_isWord_49 (by first | exact rfl | exact True.intro) (by decide) 1 (by decide) ?_
      refine V_goto dX2_isWord_52 20 (by decide) ?_
      refine V_iloadn_2 dX2_isWord_20 ?_
      refine V_aloadn_1 dX2_isWord_21 ?_
      refine V_cv0f dX2_isWord_22 cv_X2_114 (rcX (j := 2) (by decide)) (Nat.le_of_ble_eq_true rfl) (k_J_length (j := 2) (by omega) (by decide)) ?_
      refine V_topi (y := 4) (by decide) ?_
      refine V_icmp_ge_f dX2_isWord_25 55 (by decide) (by decide) ?_
      refine V_aloadn_0 dX2_isWord_28 ?_
      refine V_getR dX2_isWord_29 fl_X2_18 oR_tape ?_
      refine V_aloadn_0 dX2_isWord_32 ?_
      refine V_getI dX2_isWord_33 fl_X2_45 oR_from ?_
      refine V_topi (y := nI F) h3 ?_
      refine V_iloadn_2 dX2_isWord_36 ?_
      refine V_iaddN (a := F) (b := 1) dX2_isWord_37 ?_
      have hb1 := h256 (F + 1) (by omega)
      refine V_iald (j := F + 1) dX2_isWord_38 aR_tape (by omega) (by decide) ?_
      refine V_topi (y := nI (tp (F + 1))) (h4 (F + 1) (by omega)) ?_
      refine V_aloadn_1 dX2_isWord_39 ?_
      refine V_iloadn_2 dX2_isWord_40 ?_
      refine V_cv1f dX2_isWord_41 cv_X2_116 (rcX (j := 2) (by decide)) (Nat.le_of_ble_eq_true rfl) (k_J_charAt (j := 2) (i := 1) (by omega) (by decide) (by decide)) ?_
      refine V_topi (y := 105) (by decide) ?_
      refine V_icmpN_eq (a := tp (F + 1)) (b := 105) dX2_isWord_44 49 (by decide) (by omega) (by omega) (fun h44 => ?_) (fun h44 => ?_)
      · have hc1 := h44
        refine V_iinc_2 dX2_isWord_49 (by first | exact rfl | exact True.intro) (by decide) 2 (by decide) ?_
        refine V_goto dX2_isWord_52 20 (by decide) ?_
        refine V_iloadn_2 dX2_isWord_20 ?_
        refine V_aloadn_1 dX2_isWord_21 ?_
        refine V_cv0f dX2_isWord_22 cv_X2_114 (rcX (j := 2) (by decide)) (Nat.le_of_ble_eq_true rfl) (k_J_length (j := 2) (by omega) (by decide)) ?_
        refine V_topi (y := 4) (by decide) ?_
        refine V_icmp_ge_f dX2_isWord_25 55 (by decide) (by decide) ?_
        refine V_aloadn_0 dX2_isWord_28 ?_
        refine V_getR dX2_isWord_29 fl_X2_18 oR_tape ?_
        refine V_aloadn_0 dX2_isWord_32 ?_
        refine V_getI dX2_isWord_33 fl_X2_45 oR_from ?_
        refine V_topi (y := nI F) h3 ?_
        refine V_iloadn_2 dX2_isWord_36 ?_
        refine V_iaddN (a := F) (b := 2) dX2_isWord_37 ?_
        have hb2 := h256 (F + 2) (by omega)
        refine V_iald (j := F + 2) dX2_isWord_38 aR_tape (by omega) (by decide) ?_
        refine V_topi (y := nI (tp (F + 2))) (h4 (F + 2) (by omega)) ?_
        refine V_aloadn_1 dX2_isWord_39 ?_
        refine V_iloadn_2 dX2_isWord_40 ?_
        refine V_cv1f dX2_isWord_41 cv_X2_116 (rcX (j := 2) (by decide)) (Nat.le_of_ble_eq_true rfl) (k_J_charAt (j := 2) (i := 2) (by omega) (by decide) (by decide)) ?_
        refine V_topi (y := 110) (by decide) ?_
        refine V_icmpN_eq (a := tp (F + 2)) (b := 110) dX2_isWord_44 49 (by decide) (by omega) (by omega) (fun h44 => ?_) (fun h44 => ?_)
        · have hc2 := h44
          refine V_iinc_2 dX2_isWord_49 (by first | exact rfl | exact True.intro) (by decide) 3 (by decide) ?_
          refine V_goto dX2_isWord_52 20 (by decide) ?_
          refine V_iloadn_2 dX2_isWord_20 ?_
          refine V_aloadn_1 dX2_isWord_21 ?_
          refine V_cv0f dX2_isWord_22 cv_X2_114 (rcX (j := 2) (by decide)) (Nat.le_of_ble_eq_true rfl) (k_J_length (j := 2) (by omega) (by decide)) ?_
          refine V_topi (y := 4) (by decide) ?_
          refine V_icmp_ge_f dX2_isWord_25 55 (by decide) (by decide) ?_
          refine V_aloadn_0 dX2_isWord_28 ?_
          refine V_getR dX2_isWord_29 fl_X2_18 oR_tape ?_
          refine V_aloadn_0 dX2_isWord_32 ?_
          refine V_getI dX2_isWord_33 fl_X2_45 oR_from ?_
          refine V_topi (y := nI F) h3 ?_
          refine V_iloadn_2 dX2_isWord_36 ?_
          refine V_iaddN (a := F) (b := 3) dX2_isWord_37 ?_
          have hb3 := h256 (F + 3) (by omega)
          refine V_iald (j := F + 3) dX2_isWord_38 aR_tape (by omega) (by decide) ?_
          refine V_topi (y := nI (tp (F + 3))) (h4 (F + 3) (by omega)) ?_
          refine V_aloadn_1 dX2_isWord_39 ?_
          refine V_iloadn_2 dX2_isWord_40 ?_
          refine V_cv1f dX2_isWord_41 cv_X2_116 (rcX (j := 2) (by decide)) (Nat.le_of_ble_eq_true rfl) (k_J_charAt (j := 2) (i := 3) (by omega) (by decide) (by decide)) ?_
          refine V_topi (y := 101) (by decide) ?_
          refine V_icmpN_eq (a := tp (F + 3)) (b := 101) dX2_isWord_44 49 (by decide) (by omega) (by omega) (fun h44 => ?_) (fun h44 => ?_)
          · have hc3 := h44
            refine V_iinc_2 dX2_isWord_49 (by first | exact rfl | exact True.intro) (by decide) 4 (by decide) ?_
            refine V_goto dX2_isWord_52 20 (by decide) ?_
            refine V_iloadn_2 dX2_isWord_20 ?_
            refine V_aloadn_1 dX2_isWord_21 ?_
            refine V_cv0f dX2_isWord_22 cv_X2_114 (rcX (j := 2) (by decide)) (Nat.le_of_ble_eq_true rfl) (k_J_length (j := 2) (by omega) (by decide)) ?_
            refine V_topi (y := 4) (by decide) ?_
            refine V_icmp_ge_t dX2_isWord_25 55 (by decide) (by decide) ?_
            refine V_iconst 1 dX2_isWord_55 (by decide) ?_
            exact V_zret dX2_isWord_56 (by decide) ⟨rB1 ⟨h13, hc0, hc1, hc2, hc3⟩, rfl⟩
          · refine V_iconst 0 dX2_isWord_47 (by decide) ?_
            exact V_zret dX2_isWord_48 (by decide) ⟨rB0 (fun q => by obtain ⟨-, a0, a1, a2, a3⟩ := q; exact h44 a3), rfl⟩
        · refine V_iconst 0 dX2_isWord_47 (by decide) ?_
          exact V_zret dX2_isWord_48 (by decide) ⟨rB0 (fun q => by obtain ⟨-, a0, a1, a2, a3⟩ := q; exact h44 a2), rfl⟩
      · refine V_iconst 0 dX2_isWord_47 (by decide) ?_
        exact V_zret dX2_isWord_48 (by decide) ⟨rB0 (fun q => by obtain ⟨-, a0, a1, a2, a3⟩ := q; exact h44 a1), rfl⟩
    · refine V_iconst 0 dX2_isWord_47 (by decide) ?_
      exact V_zret dX2_isWord_48 (by decide) ⟨rB0 (fun q => by obtain ⟨-, a0, a1, a2, a3⟩ := q; exact h44 a0), rfl⟩
  · refine V_iconst 0 dX2_isWord_16 (by decide) ?_
    exact V_zret dX2_isWord_17 (by decide) ⟨rB0 (fun q => h13 q.1), rfl⟩

def FPq (σ σ' : vS) : Prop := (∀ q, q ≠ 1 → q ≠ 2 → q ≠ 3 → σ' q = σ q) ∧ σ' 1 0 = σ 1 0
theorem FPq.rf {σ : vS} : FPq σ σ := ⟨fun _ _ _ _ => rfl, rfl⟩
theorem FPq.tr {σ σ1 σ2 : vS} (h1 : FPq σ σ1) (h2 : FPq σ1 σ2) : FPq σ σ2 := ⟨fun q a b c => (h2.1 q a b c).trans (h1.1 q a b c), h2.2.trans h1.2⟩
theorem FW.q {σ σ' : vS} (h : FW σ σ') : FPq σ σ' := ⟨fun q _ b c => h q b c, by rw [h 1 (by decide) (by decide)]⟩
theorem FPq.st {σ : vS} {F E : Nat} {g : Int32} : FPq σ (stS σ F g E) := ⟨fun q a _ _ => stS_p a, stS_1 (by decide) (by decide) (by decide)⟩
theorem FPq.fa {σ : vS} {v : Int32} : FPq σ (vup σ 1 6 v) := ⟨fun q a _ _ => vup_p a, vup_ne (by omega)⟩
theorem RT.fp {tp : Nat → Nat} {n : Nat} {σ σ' : vS} (h : RT tp n σ) (hf : FPq σ σ') : RT tp n σ' := h.of hf.2 (hf.1 4 (by decide) (by decide) (by decide))
theorem RS.fw {tp : Nat → Nat} {n k : Nat} {σ σ' : vS} (h : RS tp n k σ) (hf : FW σ σ') : RS tp n k σ' := by
  have e := hf 1 (by decide) (by decide)
  exact ⟨h.1.fp hf.q, by rw [e]; exact h.2.1, by rw [e]; exact h.2.2.1, by rw [e]; exact h.2.2.2⟩
theorem DR.st {ky : Nat} {c : List Nat} {σ : vS} {F E : Nat} {g : Int32} (h : DR ky c σ) : DR ky c (stS σ F g E) := h.of (stS_p (by decide)) (stS_p (by decide))

set_option maxRecDepth 100000 in
set_option maxHeartbeats 4000000 in
theorem k_R_readKey0 {G : vG} {σ : vS} {d : Nat} (hd : 6 ≤ d) {tp : Nat → Nat} {n : Nat} (hS : RS tp n 0 σ) (g0 : kw0 tp (FF tp n 0) (EE tp n (0 + 1))) : Cf G yX2_readKey cX2_readKey 1 none d [.ref 1] σ none (stS (vup σ 2 0 0) (FF tp n (0 + 1)) (bI (gluP tp n (0 + 1))) (EE tp n (0 + 1 + 1))) := by
  refine Ct.ofV (by decide) (Nat.le_of_ble_eq_true rfl) rfl ?_
  show V G RX2 cX2_readKey none 1 d _ 0 [some (.ref 1)] [] _
  obtain ⟨d, rfl⟩ : ∃ e, d = e + 1 := ⟨d - 1, by omega⟩
  obtain ⟨hT, h3, h14, h15⟩ := id hS
  obtain ⟨h10, hn96, hta, h256⟩ := id hT
  have hfl := FF_le (tp := tp) (n := n) (k := 0)
  have hel := EE_le (tp := tp) (n := n) (k := 0 + 1)
  have hfe : FF tp n 0 ≤ EE tp n (0 + 1) := by
    by_cases q : FF tp n 0 < n
    · exact Nat.le_of_lt (EE_gt q)
    · rw [EE_end q]; exact FF_le
  refine V_aloadn_0 dX2_readKey_0 ?_
  refine V_ldcS dX2_readKey_1 txR0 ?_
  refine V_cv1f dX2_readKey_3 cv_X2_50 rcR (Nat.le_of_ble_eq_true rfl) (k_R_isWord0 (by omega) hT h3 h14 hfe hel) ?_
  refine V_ifB_eq dX2_readKey_6 20 (by decide) (fun h6 => ?_) (fun h6 => ?_)
  · exact absurd g0 h6
  · refine V_aloadn_0 dX2_readKey_9 ?_
    refine V_getR dX2_readKey_10 fl_X2_12 oR_draft ?_
    refine V_iconst 0 dX2_readKey_13 (by decide) ?_
    refine V_putI dX2_readKey_14 fp_X2_54 (oW_key (Or.inl rfl)) ?_
    refine V_goto dX2_readKey_17 69 (by decide) ?_
    refine V_aloadn_0 dX2_readKey_69 ?_
    refine V_cv0v dX2_readKey_70 cv_X2_35 rcR (Nat.le_of_ble_eq_true rfl) (k_R_step (k := 0 + 1) (by omega) (hT.of (by rw [vup_p (by decide)]) (vup_p (by decide))) (by rw [vup_p (by decide)]; exact h14)) ?_
    exact V_vret dX2_readKey_73 ⟨rfl, rfl⟩

set_option maxRecDepth 100000 in
set_option maxHeartbeats 4000000 in
theorem k_R_readKey1 {G : vG} {σ : vS} {d : Nat} (hd : 6 ≤ d) {tp : Nat → Nat} {n : Nat} (hS : RS tp n 0 σ) (g0 : ¬ kw0 tp (FF tp n 0) (EE tp n (0 + 1))) (g1 : kw1 tp (FF tp n 0) (EE tp n (0 + 1))) : Cf G yX2_readKey cX2_readKey 1 none d [.ref 1] σ none (stS (vup σ 2 0 1) (FF tp n (0 + 1)) (bI (gluP tp n (0 + 1))) (EE tp n (0 + 1 + 1))) := by
  refine Ct.ofV (by decide) (Nat.le_of_ble_eq_true rfl) rfl ?_
  show V G RX2 cX2_readKey none 1 d _ 0 [some (.ref 1)] [] _
  obtain ⟨d, rfl⟩ : ∃ e, d = e + 1 := ⟨d - 1, by omega⟩
  obtain ⟨hT, h3, h14, h15⟩ := id hS
  obtain ⟨h10, hn96, hta, h256⟩ := id hT
  have hfl := FF_le (tp := tp) (n := n) (k := 0)
  have hel := EE_le (tp := tp) (n := n) (k := 0 + 1)
  have hfe : FF tp n 0 ≤ EE tp n (0 + 1) := by
    by_cases q : FF tp n 0 < n
    · exact Nat.le_of_lt (EE_gt q)
    · rw [EE_end q]; exact FF_le
  refine V_aloadn_0 dX2_readKey_0 ?_
  refine V_ldcS dX2_readKey_1 txR0 ?_
  refine V_cv1f dX2_readKey_3 cv_X2_50 rcR (Nat.le_of_ble_eq_true rfl) (k_R_isWord0 (by omega) hT h3 h14 hfe hel) ?_
  refine V_ifB_eq dX2_readKey_6 20 (by decide) (fun h6 => ?_) (fun h6 => ?_)
  · refine V_aloadn_0 dX2_readKey_20 ?_
    refine V_ldcS dX2_readKey_21 txR1 ?_
    refine V_cv1f dX2_readKey_23 cv_X2_50 rcR (Nat.le_of_ble_eq_true rfl) (k_R_isWord1 (by omega) hT h3 h14 hfe hel) ?_
    refine V_ifB_eq dX2_readKey_26 40 (by decide) (fun h26 => ?_) (fun h26 => ?_)
    · exact absurd g1 h26
    · refine V_aloadn_0 dX2_readKey_29 ?_
      refine V_getR dX2_readKey_30 fl_X2_12 oR_draft ?_
      refine V_iconst 1 dX2_readKey_33 (by decide) ?_
      refine V_putI dX2_readKey_34 fp_X2_54 (oW_key (Or.inl rfl)) ?_
      refine V_goto dX2_readKey_37 69 (by decide) ?_
      refine V_aloadn_0 dX2_readKey_69 ?_
      refine V_cv0v dX2_readKey_70 cv_X2_35 rcR (Nat.le_of_ble_eq_true rfl) (k_R_step (k := 0 + 1) (by omega) (hT.of (by rw [vup_p (by decide)]) (vup_p (by decide))) (by rw [vup_p (by decide)]; exact h14)) ?_
      exact V_vret dX2_readKey_73 ⟨rfl, rfl⟩
  · exact absurd h6 g0

set_option maxRecDepth 100000 in
set_option maxHeartbeats 4000000 in
theorem k_R_readKey2 {G : vG} {σ : vS} {d : Nat} (hd : 6 ≤ d) {tp : Nat → Nat} {n : Nat} (hS : RS tp n 0 σ) (g0 : ¬ kw0 tp (FF tp n 0) (EE tp n (0 + 1))) (g1 : ¬ kw1 tp (FF tp n 0) (EE tp n (0 + 1))) (g2 : kw2 tp (FF tp n 0) (EE tp n (0 + 1))) : Cf G yX2_readKey cX2_readKey 1 none d [.ref 1] σ none (stS (vup σ 2 0 2) (FF tp n (0 + 1)) (bI (gluP tp n (0 + 1))) (EE tp n (0 + 1 + 1))) := by
  refine Ct.ofV (by decide) (Nat.le_of_ble_eq_true rfl) rfl ?_
  show V G RX2 cX2_readKey none 1 d _ 0 [some (.ref 1)] [] _
  obtain ⟨d, rfl⟩ : ∃ e, d = e + 1 := ⟨d - 1, by omega⟩
  obtain ⟨hT, h3, h14, h15⟩ := id hS
  obtain ⟨h10, hn96, hta, h256⟩ := id hT
  have hfl := FF_le (tp := tp) (n := n) (k := 0)
  have hel := EE_le (tp := tp) (n := n) (k := 0 + 1)
  have hfe : FF tp n 0 ≤ EE tp n (0 + 1) := by
    by_cases q : FF tp n 0 < n
    · exact Nat.le_of_lt (EE_gt q)
    · rw [EE_end q]; exact FF_le
  refine V_aloadn_0 dX2_readKey_0 ?_
  refine V_ldcS dX2_readKey_1 txR0 ?_
  refine V_cv1f dX2_readKey_3 cv_X2_50 rcR (Nat.le_of_ble_eq_true rfl) (k_R_isWord0 (by omega) hT h3 h14 hfe hel) ?_
  refine V_ifB_eq dX2_readKey_6 20 (by decide) (fun h6 => ?_) (fun h6 => ?_)
  · refine V_aloadn_0 dX2_readKey_20 ?_
    refine V_ldcS dX2_readKey_21 txR1 ?_
    refine V_cv1f dX2_readKey_23 cv_X2_50 rcR (Nat.le_of_ble_eq_true rfl) (k_R_isWord1 (by omega) hT h3 h14 hfe hel) ?_
    refine V_ifB_eq dX2_readKey_26 40 (by decide) (fun h26 => ?_) (fun h26 => ?_)
    · refine V_aloadn_0 dX2_readKey_40 ?_
      refine V_ldcS dX2_readKey_41 txR2 ?_
      refine V_cv1f dX2_readKey_43 cv_X2_50 rcR (Nat.le_of_ble_eq_true rfl) (k_R_isWord2 (by omega) hT h3 h14 hfe hel) ?_
      refine V_ifB_eq dX2_readKey_46 60 (by decide) (fun h46 => ?_) (fun h46 => ?_)
      · exact absurd g2 h46
      · refine V_aloadn_0 dX2_readKey_49 ?_
        refine V_getR dX2_readKey_50 fl_X2_12 oR_draft ?_
        refine V_iconst 2 dX2_readKey_53 (by decide) ?_
        refine V_putI dX2_readKey_54 fp_X2_54 (oW_key (Or.inl rfl)) ?_
        refine V_goto dX2_readKey_57 69 (by decide) ?_
        refine V_aloadn_0 dX2_readKey_69 ?_
        refine V_cv0v dX2_readKey_70 cv_X2_35 rcR (Nat.le_of_ble_eq_true rfl) (k_R_step (k := 0 + 1) (by omega) (hT.of (by rw [vup_p (by decide)]) (vup_p (by decide))) (by rw [vup_p (by decide)]; exact h14)) ?_
        exact V_vret dX2_readKey_73 ⟨rfl, rfl⟩
    · exact absurd h26 g1
  · exact absurd h6 g0

set_option maxRecDepth 100000 in
set_option maxHeartbeats 4000000 in
theorem k_R_readKeyN {G : vG} {σ : vS} {d : Nat} (hd : 6 ≤ d) {tp : Nat → Nat} {n : Nat} (hS : RS tp n 0 σ) (g0 : ¬ kw0 tp (FF tp n 0) (EE tp n (0 + 1))) (g1 : ¬ kw1 tp (FF tp n 0) (EE tp n (0 + 1))) (g2 : ¬ kw2 tp (FF tp n 0) (EE tp n (0 + 1))) : Cf G yX2_readKey cX2_readKey 1 none d [.ref 1] σ none (vup σ 1 6 (nI (FF tp n 0))) := by
  refine Ct.ofV (by decide) (Nat.le_of_ble_eq_true rfl) rfl ?_
  show V G RX2 cX2_readKey none 1 d _ 0 [some (.ref 1)] [] _
  obtain ⟨d, rfl⟩ : ∃ e, d = e + 1 := ⟨d - 1, by omega⟩
  obtain ⟨hT, h3, h14, h15⟩ := id hS
  obtain ⟨h10, hn96, hta, h256⟩ := id hT
  have hfl := FF_le (tp := tp) (n := n) (k := 0)
  have hel := EE_le (tp := tp) (n := n) (k := 0 + 1)
  have hfe : FF tp n 0 ≤ EE tp n (0 + 1) := by
    by_cases q : FF tp n 0 < n
    · exact Nat.le_of_lt (EE_gt q)
    · rw [EE_end q]; exact FF_le
  refine V_aloadn_0 dX2_readKey_0 ?_
  refine V_ldcS dX2_readKey_1 txR0 ?_
  refine V_cv1f dX2_readKey_3 cv_X2_50 rcR (Nat.le_of_ble_eq_true rfl) (k_R_isWord0 (by omega) hT h3 h14 hfe hel) ?_
  refine V_ifB_eq dX2_readKey_6 20 (by decide) (fun h6 => ?_) (fun h6 => ?_)
  · refine V_aloadn_0 dX2_readKey_20 ?_
    refine V_ldcS dX2_readKey_21 txR1 ?_
    refine V_cv1f dX2_readKey_23 cv_X2_50 rcR (Nat.le_of_ble_eq_true rfl) (k_R_isWord1 (by omega) hT h3 h14 hfe hel) ?_
    refine V_ifB_eq dX2_readKey_26 40 (by decide) (fun h26 => ?_) (fun h26 => ?_)
    · refine V_aloadn_0 dX2_readKey_40 ?_
      refine V_ldcS dX2_readKey_41 txR2 ?_
      refine V_cv1f dX2_readKey_43 cv_X2_50 rcR (Nat.le_of_ble_eq_true rfl) (k_R_isWord2 (by omega) hT h3 h14 hfe hel) ?_
      refine V_ifB_eq dX2_readKey_46 60 (by decide) (fun h46 => ?_) (fun h46 => ?_)
      · refine V_aloadn_0 dX2_readKey_60 ?_
        refine V_aloadn_0 dX2_readKey_61 ?_
        refine V_getI dX2_readKey_62 fl_X2_45 oR_from ?_
        refine V_topi (y := nI (FF tp n 0)) h3 ?_
        refine V_putI dX2_readKey_65 fp_X2_29 oR_fault ?_
        exact V_vret dX2_readKey_68 ⟨rfl, rfl⟩
      · exact absurd h46 g2
    · exact absurd h26 g1
  · exact absurd h6 g0

theorem srt2 {b : Nat} (h : srt b = 2) : 48 ≤ b ∧ b ≤ 57 := by
  unfold srt at h
  split at h
  · omega
  · split at h
    · assumption
    · omega
theorem srt1 {b : Nat} (h : srt b = 1) : 97 ≤ b ∧ b ≤ 122 := by
  unfold srt at h
  split at h
  · assumption
  · split at h <;> omega

set_option maxRecDepth 100000 in
set_option maxHeartbeats 4000000 in
theorem k_R_numBad {G : vG} {σ : vS} {d : Nat} (hd : 3 ≤ d) {tp : Nat → Nat} {n k : Nat} (hS : RS tp n k σ) (hb : gluP tp n k ∨ 4 < EE tp n (k + 1) - FF tp n k) : Cf G yX2_readNumber cX2_readNumber 3 none d [.ref 1] σ none (vup σ 1 6 (nI (FF tp n k))) := by
  refine Ct.ofV (by decide) (Nat.le_of_ble_eq_true rfl) rfl ?_
  show V G RX2 cX2_readNumber none 3 d _ 0 [some (.ref 1), none, none] [] _
  obtain ⟨d, rfl⟩ : ∃ e, d = e + 1 := ⟨d - 1, by omega⟩
  obtain ⟨hT, h3, h14, h15⟩ := id hS
  obtain ⟨h10, hn96, hta, h256⟩ := id hT
  have hfl := FF_le (tp := tp) (n := n) (k := k)
  have hel := EE_le (tp := tp) (n := n) (k := k + 1)
  have hfe : FF tp n k ≤ EE tp n (k + 1) := by
    by_cases q : FF tp n k < n
    · exact Nat.le_of_lt (EE_gt q)
    · rw [EE_end q]; exact FF_le
  refine V_aloadn_0 dX2_readNumber_0 ?_
  refine V_getI dX2_readNumber_1 fl_X2_89 oR_glued ?_
  refine V_topi (y := bI (gluP tp n k)) h15 ?_
  refine V_ifB_ne dX2_readNumber_4 20 (by decide) (fun h4 => ?_) (fun h4 => ?_)
  · refine V_aloadn_0 dX2_readNumber_20 ?_
    refine V_aloadn_0 dX2_readNumber_21 ?_
    refine V_getI dX2_readNumber_22 fl_X2_45 oR_from ?_
    refine V_topi (y := nI (FF tp n k)) h3 ?_
    refine V_putI dX2_readNumber_25 fp_X2_29 oR_fault ?_
    exact V_vret dX2_readNumber_28 ⟨rfl, rfl⟩
  · refine V_aloadn_0 dX2_readNumber_7 ?_
    refine V_getI dX2_readNumber_8 fl_X2_32 oR_end ?_
    refine V_topi (y := nI (EE tp n (k + 1))) h14 ?_
    refine V_aloadn_0 dX2_readNumber_11 ?_
    refine V_getI dX2_readNumber_12 fl_X2_45 oR_from ?_
    refine V_topi (y := nI (FF tp n k)) h3 ?_
    refine V_isubN (a := EE tp n (k + 1)) (b := FF tp n k) dX2_readNumber_15 (by omega) ?_
    refine V_iconst 4 dX2_readNumber_16 (by decide) ?_
    refine V_icmpN_le (a := (EE tp n (k + 1)) - (FF tp n k)) (b := 4) dX2_readNumber_17 29 (by decide) (by omega) (by omega) (fun h17 => ?_) (fun h17 => ?_)
    · exact absurd hb (fun q => q.elim (fun q => h4 q) (fun q => by omega))
    · refine V_aloadn_0 dX2_readNumber_20 ?_
      refine V_aloadn_0 dX2_readNumber_21 ?_
      refine V_getI dX2_readNumber_22 fl_X2_45 oR_from ?_
      refine V_topi (y := nI (FF tp n k)) h3 ?_
      refine V_putI dX2_readNumber_25 fp_X2_29 oR_fault ?_
      exact V_vret dX2_readNumber_28 ⟨rfl, rfl⟩

set_option maxRecDepth 100000 in
set_option maxHeartbeats 4000000 in
theorem lp_R_num {G : vG} {d : Nat} {Q : Option Value → vS → Prop} {σ : vS} {tp : Nat → Nat} {n kt : Nat} (hS : RS tp n kt σ) (hF : FF tp n kt < n) (hs : srt (tp (FF tp n kt)) = 2) (hlen : EE tp n (kt + 1) - FF tp n kt ≤ 4) (kont : V G RX2 cX2_readNumber none 3 (d + 1) Q 65 [some (.ref 1), some (.int (nI (numF tp (FF tp n kt) (EE tp n (kt + 1) - FF tp n kt)))), none] [] σ) : ∀ (k : Nat) (x : Nat), (x ≤ EE tp n (kt + 1) - FF tp n kt) → EE tp n (kt + 1) - FF tp n kt - x < k → V G RX2 cX2_readNumber none 3 (d + 1) Q 36 [some (.ref 1), some (.int (nI (numF tp (FF tp n kt) x))), some (.int (nI (FF tp n kt + x)))] [] σ := by
  intro k
  induction k with
  | zero => intros; omega
  | succ k ih =>
    intro x hx hk
    obtain ⟨hT, h3, h14, h15⟩ := id hS
    obtain ⟨h10, hn96, hta, h256⟩ := id hT
    have hfl := FF_le (tp := tp) (n := n) (k := kt)
    have hel := EE_le (tp := tp) (n := n) (k := kt + 1)
    have hfe := EE_gt hF
    have hnu := num_lt (tp := tp) (F := FF tp n kt) x (fun j hj => by rw [word_in hF (by rw [hs]; decide) (by omega) (by omega)]; exact hs)
    have hp4 : 10 ^ x ≤ 10000 := Nat.pow_le_pow_right (by decide) (show x ≤ 4 by omega)
    refine V_iloadn_2 dX2_readNumber_36 ?_
    refine V_aloadn_0 dX2_readNumber_37 ?_
    refine V_getI dX2_readNumber_38 fl_X2_32 oR_end ?_
    refine V_topi (y := nI (EE tp n (kt + 1))) h14 ?_
    refine V_icmpN_ge (a := FF tp n kt + x) (b := EE tp n (kt + 1)) dX2_readNumber_41 65 (by decide) (by omega) (by omega) (fun h41 => ?_) (fun h41 => ?_)
    · refine V_fg_2 ?_
      have ex : EE tp n (kt + 1) - FF tp n kt = x := by omega
      rw [ex] at kont
      exact kont
    · refine V_iloadn_1 dX2_readNumber_44 ?_
      refine V_bipush 10 dX2_readNumber_45 (by decide) ?_
      refine V_imulN (a := numF tp (FF tp n kt) x) (b := 10) dX2_readNumber_47 ?_
      refine V_aloadn_0 dX2_readNumber_48 ?_
      refine V_getR dX2_readNumber_49 fl_X2_18 oR_tape ?_
      refine V_iloadn_2 dX2_readNumber_52 ?_
      have hd2 := srt2 ((word_in hF (by rw [hs]; decide) (show FF tp n kt ≤ FF tp n kt + x by omega) (by omega)).trans hs)
      refine V_iald (j := FF tp n kt + x) dX2_readNumber_53 aR_tape (by omega) (by decide) ?_
      refine V_topi (y := nI (tp (FF tp n kt + x))) (hta _ (by omega)) ?_
      refine V_iaddN (a := (numF tp (FF tp n kt) x) * 10) (b := tp (FF tp n kt + x)) dX2_readNumber_54 ?_
      refine V_bipush 48 dX2_readNumber_55 (by decide) ?_
      refine V_isubN (a := ((numF tp (FF tp n kt) x) * 10) + (tp (FF tp n kt + x))) (b := 48) dX2_readNumber_57 (by omega) ?_
      refine V_topi (y := nI (numF tp (FF tp n kt) (x + 1))) (by congr 1; simp only [numF]; omega) ?_
      refine V_istoren_1 dX2_readNumber_58 (by first | exact rfl | exact True.intro) (by decide) ?_
      refine V_iinc_2 dX2_readNumber_59 (by first | exact rfl | exact True.intro) (by decide) (nI ((FF tp n kt + x) + 1)) (nI_inc _) ?_
      refine V_goto dX2_readNumber_62 36 (by decide) ?_
      exact ih (x + 1) (by omega) (by omega)

set_option maxRecDepth 100000 in
set_option maxHeartbeats 4000000 in
theorem t_num {G : vG} {d : Nat} {σ : vS} (hd : 3 ≤ d + 1) {tp : Nat → Nat} {n k : Nat} (hS : RS tp n k σ) (hF : FF tp n k < n) (hs : srt (tp (FF tp n k)) = 2) (hlen : EE tp n (k + 1) - FF tp n k ≤ 4) {ky : Nat} {c : List Nat} (hD : DR ky c σ) (hl : c.length < 96) : V G RX2 cX2_readNumber none 3 (d + 1) (fun r' σ' => r' = none ∧ (RS tp n (k + 1) σ' ∧ DR ky (c ++ [numF tp (FF tp n k) (EE tp n (k + 1) - FF tp n k)]) σ' ∧ FPq σ σ' ∧ σ' 1 6 = σ 1 6)) 65 [some (.ref 1), some (.int (nI (numF tp (FF tp n k) (EE tp n (k + 1) - FF tp n k)))), none] [] σ := by
  obtain ⟨hT, h3, h14, h15⟩ := id hS
  obtain ⟨h10, hn96, hta, h256⟩ := id hT
  have hfl := FF_le (tp := tp) (n := n) (k := k)
  have hel := EE_le (tp := tp) (n := n) (k := k + 1)
  have hnu := num_lt (tp := tp) (F := FF tp n k) (EE tp n (k + 1) - FF tp n k) (fun j hj => by rw [word_in hF (by rw [hs]; decide) (by omega) (by omega)]; exact hs)
  have hp4 : 10 ^ (EE tp n (k + 1) - FF tp n k) ≤ 10000 := Nat.pow_le_pow_right (by decide) (show EE tp n (k + 1) - FF tp n k ≤ 4 by omega)
  refine V_aloadn_0 dX2_readNumber_65 ?_
  refine V_getR dX2_readNumber_66 fl_X2_12 oR_draft ?_
  refine V_iloadn_1 dX2_readNumber_69 ?_
  refine V_cv1n dX2_readNumber_70 cv_X2_93 (rcW (Or.inl rfl)) (Nat.le_of_ble_eq_true rfl) (k_W_addNumber (by omega) hD hl (by omega)) (fun σ1 h5 => ?_)
  refine V_aloadn_0 dX2_readNumber_73 ?_
  refine V_cv0v dX2_readNumber_74 cv_X2_35 rcR (Nat.le_of_ble_eq_true rfl) (k_R_step (k := k + 1) (by omega) (hT.fp h5.2.q) (by rw [h5.2 1 (by decide) (by decide)]; exact h14)) ?_
  exact V_vret dX2_readNumber_77 ⟨rfl, RS.mk (hT.fp h5.2.q), h5.1.st, h5.2.q.tr FPq.st, by rw [stS_1 (by decide) (by decide) (by decide), h5.2 1 (by decide) (by decide)]⟩

set_option maxRecDepth 100000 in
set_option maxHeartbeats 4000000 in
theorem k_R_num {G : vG} {σ : vS} {d : Nat} (hd : 3 ≤ d) {tp : Nat → Nat} {n k : Nat} (hS : RS tp n k σ) (hF : FF tp n k < n) (hs : srt (tp (FF tp n k)) = 2) (hg : ¬ gluP tp n k) (hlen : EE tp n (k + 1) - FF tp n k ≤ 4) {ky : Nat} {c : List Nat} (hD : DR ky c σ) (hl : c.length < 96) : Cr G yX2_readNumber cX2_readNumber 3 none d [.ref 1] σ none (fun σ' => RS tp n (k + 1) σ' ∧ DR ky (c ++ [numF tp (FF tp n k) (EE tp n (k + 1) - FF tp n k)]) σ' ∧ FPq σ σ' ∧ σ' 1 6 = σ 1 6) := by
  refine Ct.ofV (by decide) (Nat.le_of_ble_eq_true rfl) rfl ?_
  show V G RX2 cX2_readNumber none 3 d _ 0 [some (.ref 1), none, none] [] _
  obtain ⟨d, rfl⟩ : ∃ e, d = e + 1 := ⟨d - 1, by omega⟩
  obtain ⟨hT, h3, h14, h15⟩ := id hS
  obtain ⟨h10, hn96, hta, h256⟩ := id hT
  have hfl := FF_le (tp := tp) (n := n) (k := k)
  have hel := EE_le (tp := tp) (n := n) (k := k + 1)
  have hfe := EE_gt hF
  refine V_aloadn_0 dX2_readNumber_0 ?_
  refine V_getI dX2_readNumber_1 fl_X2_89 oR_glued ?_
  refine V_topi (y := bI (gluP tp n k)) h15 ?_
  refine V_ifB_ne dX2_readNumber_4 20 (by decide) (fun h4 => ?_) (fun h4 => ?_)
  · exact absurd h4 hg
  · refine V_aloadn_0 dX2_readNumber_7 ?_
    refine V_getI dX2_readNumber_8 fl_X2_32 oR_end ?_
    refine V_topi (y := nI (EE tp n (k + 1))) h14 ?_
    refine V_aloadn_0 dX2_readNumber_11 ?_
    refine V_getI dX2_readNumber_12 fl_X2_45 oR_from ?_
    refine V_topi (y := nI (FF tp n k)) h3 ?_
    refine V_isubN (a := EE tp n (k + 1)) (b := FF tp n k) dX2_readNumber_15 (by omega) ?_
    refine V_iconst 4 dX2_readNumber_16 (by decide) ?_
    refine V_icmpN_le (a := (EE tp n (k + 1)) - (FF tp n k)) (b := 4) dX2_readNumber_17 29 (by decide) (by omega) (by omega) (fun h17 => ?_) (fun h17 => ?_)
    · refine V_iconst 0 dX2_readNumber_29 (by decide) ?_
      refine V_istoren_1 dX2_readNumber_30 (by first | exact rfl | exact True.intro) (by decide) ?_
      refine V_aloadn_0 dX2_readNumber_31 ?_
      refine V_getI dX2_readNumber_32 fl_X2_45 oR_from ?_
      refine V_topi (y := nI (FF tp n k)) h3 ?_
      refine V_istoren_2 dX2_readNumber_35 (by first | exact rfl | exact True.intro) (by decide) ?_
      refine lp_R_num hS hF hs hlen ?_ 5 0 (by omega) (by omega)
      exact t_num (by omega) hS hF hs hlen hD hl
    · exfalso; omega
