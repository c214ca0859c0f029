set_option maxRecDepth 100000 in
set_option maxHeartbeats 4000000 in
theorem k_isUnder {G : vG} {σ : vS} {d : Nat} (hd : 1 ≤ d) {k u : Nat} (hk : k ≤ 5) (hu : u ≤ 5) : Cf G yX0_isUnder cX0_isUnder 4 (some .boolean) d [.int (nI k), .int (nI u)] σ (some (.int (bI (underN k u)))) σ := by
  refine Ct.ofV (by decide) (Nat.le_of_ble_eq_true rfl) rfl ?_
  show V G RX0 cX0_isUnder (some .boolean) 4 d _ 0 [some (.int (nI k)), some (.int (nI u)), none, none] [] _
  obtain ⟨d, rfl⟩ : ∃ e, d = e + 1 := ⟨d - 1, by omega⟩
  rcases (show k = 0 ∨ k = 1 ∨ k = 2 ∨ k = 3 ∨ k = 4 ∨ k = 5 by omega) with rfl | rfl | rfl | rfl | rfl | rfl
  · refine V_iloadn_0 dX0_isUnder_0 ?_
    refine V_istoren_2 dX0_isUnder_1 (by exact rfl) (by decide) ?_
    refine V_iconst 0 dX0_isUnder_2 (by decide) ?_
    refine V_istoren_3 dX0_isUnder_3 (by exact rfl) (by decide) ?_
    refine V_iloadn_3 dX0_isUnder_4 ?_
    refine V_bipush 6 dX0_isUnder_5 (by decide) ?_
    refine V_icmp_ge_f dX0_isUnder_7 36 (by decide) (by decide) ?_
    refine V_iloadn_2 dX0_isUnder_10 ?_
    refine V_cs1f dX0_isUnder_11 cs_X0_9 (Nat.le_of_ble_eq_true rfl) (k_isKind (x := 0)) ?_
    refine V_if_eq_f dX0_isUnder_14 36 (by decide) (by decide) ?_
    refine V_iloadn_2 dX0_isUnder_17 ?_
    refine V_iloadn_1 dX0_isUnder_18 ?_
    refine V_icmpN_ne (a := 0) (b := u) dX0_isUnder_19 24 (by decide) (by omega) (by omega) (fun h0 => ?_) (fun h0 => ?_)
    rotate_left
    · refine V_iconst 1 dX0_isUnder_22 (by decide) ?_
      exact V_zret dX0_isUnder_23 (by decide) ⟨rB1 (by omega), rfl⟩
    refine V_getsA dX0_isUnder_24 (wd 384 (by decide +kernel) (by decide +kernel)) ?_
    refine V_iloadn_2 dX0_isUnder_27 ?_
    refine V_abald (j := 0) dX0_isUnder_28 (by decide) ?_
    refine V_topi (y := (-1)) (by decide) ?_
    refine V_istoren_2 dX0_isUnder_29 (by exact rfl) (by decide) ?_
    refine V_iinc_3 dX0_isUnder_30 (by exact rfl) (by decide) 1 (by decide) ?_
    refine V_goto dX0_isUnder_33 4 (by decide) ?_
    refine V_iloadn_3 dX0_isUnder_4 ?_
    refine V_bipush 6 dX0_isUnder_5 (by decide) ?_
    refine V_icmp_ge_f dX0_isUnder_7 36 (by decide) (by decide) ?_
    refine V_iloadn_2 dX0_isUnder_10 ?_
    refine V_cs1f dX0_isUnder_11 cs_X0_9 (Nat.le_of_ble_eq_true rfl) (k_isKind (x := (-1))) ?_
    refine V_if_eq_t dX0_isUnder_14 36 (by decide) (by decide) ?_
    refine V_iconst 0 dX0_isUnder_36 (by decide) ?_
    exact V_zret dX0_isUnder_37 (by decide) ⟨rB0 (by omega), rfl⟩
  · refine V_iloadn_0 dX0_isUnder_0 ?_
    refine V_istoren_2 dX0_isUnder_1 (by exact rfl) (by decide) ?_
    refine V_iconst 0 dX0_isUnder_2 (by decide) ?_
    refine V_istoren_3 dX0_isUnder_3 (by exact rfl) (by decide) ?_
    refine V_iloadn_3 dX0_isUnder_4 ?_
    refine V_bipush 6 dX0_isUnder_5 (by decide) ?_
    refine V_icmp_ge_f dX0_isUnder_7 36 (by decide) (by decide) ?_
    refine V_iloadn_2 dX0_isUnder_10 ?_
    refine V_cs1f dX0_isUnder_11 cs_X0_9 (Nat.le_of_ble_eq_true rfl) (k_isKind (x := 1)) ?_
    refine V_if_eq_f dX0_isUnder_14 36 (by decide) (by decide) ?_
    refine V_iloadn_2 dX0_isUnder_17 ?_
    refine V_iloadn_1 dX0_isUnder_18 ?_
    refine V_icmpN_ne (a := 1) (b := u) dX0_isUnder_19 24 (by decide) (by omega) (by omega) (fun h0 => ?_) (fun h0 => ?_)
    rotate_left
    · refine V_iconst 1 dX0_isUnder_22 (by decide) ?_
      exact V_zret dX0_isUnder_23 (by decide) ⟨rB1 (by omega), rfl⟩
    refine V_getsA dX0_isUnder_24 (wd 384 (by decide +kernel) (by decide +kernel)) ?_
    refine V_iloadn_2 dX0_isUnder_27 ?_
    refine V_abald (j := 1) dX0_isUnder_28 (by decide) ?_
    refine V_topi (y := 0) (by decide) ?_
    refine V_istoren_2 dX0_isUnder_29 (by exact rfl) (by decide) ?_
    refine V_iinc_3 dX0_isUnder_30 (by exact rfl) (by decide) 1 (by decide) ?_
    refine V_goto dX0_isUnder_33 4 (by decide) ?_
    refine V_iloadn_3 dX0_isUnder_4 ?_
    refine V_bipush 6 dX0_isUnder_5 (by decide) ?_
    refine V_icmp_ge_f dX0_isUnder_7 36 (by decide) (by decide) ?_
    refine V_iloadn_2 dX0_isUnder_10 ?_
    refine V_cs1f dX0_isUnder_11 cs_X0_9 (Nat.le_of_ble_eq_true rfl) (k_isKind (x := 0)) ?_
    refine V_if_eq_f dX0_isUnder_14 36 (by decide) (by decide) ?_
    refine V_iloadn_2 dX0_isUnder_17 ?_
    refine V_iloadn_1 dX0_isUnder_18 ?_
    refine V_icmpN_ne (a := 0) (b := u) dX0_isUnder_19 24 (by decide) (by omega) (by omega) (fun h1 => ?_) (fun h1 => ?_)
    rotate_left
    · refine V_iconst 1 dX0_isUnder_22 (by decide) ?_
      exact V_zret dX0_isUnder_23 (by decide) ⟨rB1 (by omega), rfl⟩
    refine V_getsA dX0_isUnder_24 (wd 384 (by decide +kernel) (by decide +kernel)) ?_
    refine V_iloadn_2 dX0_isUnder_27 ?_
    refine V_abald (j := 0) dX0_isUnder_28 (by decide) ?_
    refine V_topi (y := (-1)) (by decide) ?_
    refine V_istoren_2 dX0_isUnder_29 (by exact rfl) (by decide) ?_
    refine V_iinc_3 dX0_isUnder_30 (by exact rfl) (by decide) 2 (by decide) ?_
    refine V_goto dX0_isUnder_33 4 (by decide) ?_
    refine V_iloadn_3 dX0_isUnder_4 ?_
    refine V_bipush 6 dX0_isUnder_5 (by decide) ?_
    refine V_icmp_ge_f dX0_isUnder_7 36 (by decide) (by decide) ?_
    refine V_iloadn_2 dX0_isUnder_10 ?_
    refine V_cs1f dX0_isUnder_11 cs_X0_9 (Nat.le_of_ble_eq_true rfl) (k_isKind (x := (-1))) ?_
    refine V_if_eq_t dX0_isUnder_14 36 (by decide) (by decide) ?_
    refine V_iconst 0 dX0_isUnder_36 (by decide) ?_
    exact V_zret dX0_isUnder_37 (by decide) ⟨rB0 (by omega), rfl⟩
  · refine V_iloadn_0 dX0_isUnder_0 ?_
    refine V_istoren_2 dX0_isUnder_1 (by exact rfl) (by decide) ?_
    refine V_iconst 0 dX0_isUnder_2 (by decide) ?_
    refine V_istoren_3 dX0_isUnder_3 (by exact rfl) (by decide) ?_
    refine V_iloadn_3 dX0_isUnder_4 ?_
    refine V_bipush 6 dX0_isUnder_5 (by decide) ?_
    refine V_icmp_ge_f dX0_isUnder_7 36 (by decide) (by decide) ?_
    refine V_iloadn_2 dX0_isUnder_10 ?_
    refine V_cs1f dX0_isUnder_11 cs_X0_9 (Nat.le_of_ble_eq_true rfl) (k_isKind (x := 2)) ?_
    refine V_if_eq_f dX0_isUnder_14 36 (by decide) (by decide) ?_
    refine V_iloadn_2 dX0_isUnder_17 ?_
    refine V_iloadn_1 dX0_isUnder_18 ?_
    refine V_icmpN_ne (a := 2) (b := u) dX0_isUnder_19 24 (by decide) (by omega) (by omega) (fun h0 => ?_) (fun h0 => ?_)
    rotate_left
    · refine V_iconst 1 dX0_isUnder_22 (by decide) ?_
      exact V_zret dX0_isUnder_23 (by decide) ⟨rB1 (by omega), rfl⟩
    refine V_getsA dX0_isUnder_24 (wd 384 (by decide +kernel) (by decide +kernel)) ?_
    refine V_iloadn_2 dX0_isUnder_27 ?_
    refine V_abald (j := 2) dX0_isUnder_28 (by decide) ?_
    refine V_topi (y := 0) (by decide) ?_
    refine V_istoren_2 dX0_isUnder_29 (by exact rfl) (by decide) ?_
    refine V_iinc_3 dX0_isUnder_30 (by exact rfl) (by decide) 1 (by decide) ?_
    refine V_goto dX0_isUnder_33 4 (by decide) ?_
    refine V_iloadn_3 dX0_isUnder_4 ?_
    refine V_bipush 6 dX0_isUnder_5 (by decide) ?_
    refine V_icmp_ge_f dX0_isUnder_7 36 (by decide) (by decide) ?_
    refine V_iloadn_2 dX0_isUnder_10 ?_
    refine V_cs1f dX0_isUnder_11 cs_X0_9 (Nat.le_of_ble_eq_true rfl) (k_isKind (x := 0)) ?_
    refine V_if_eq_f dX0_isUnder_14 36 (by decide) (by decide) ?_
    refine V_iloadn_2 dX0_isUnder_17 ?_
    refine V_iloadn_1 dX0_isUnder_18 ?_
    refine V_icmpN_ne (a := 0) (b := u) dX0_isUnder_19 24 (by decide) (by omega) (by omega) (fun h1 => ?_) (fun h1 => ?_)
    rotate_left
    · refine V_iconst 1 dX0_isUnder_22 (by decide) ?_
      exact V_zret dX0_isUnder_23 (by decide) ⟨rB1 (by omega), rfl⟩
    refine V_getsA dX0_isUnder_24 (wd 384 (by decide +kernel) (by decide +kernel)) ?_
    refine V_iloadn_2 dX0_isUnder_27 ?_
    refine V_abald (j := 0) dX0_isUnder_28 (by decide) ?_
    refine V_topi (y := (-1)) (by decide) ?_
    refine V_istoren_2 dX0_isUnder_29 (by exact rfl) (by decide) ?_
    refine V_iinc_3 dX0_isUnder_30 (by exact rfl) (by decide) 2 (by decide) ?_
    refine V_goto dX0_isUnder_33 4 (by decide) ?_
    refine V_iloadn_3 dX0_isUnder_4 ?_
    refine V_bipush 6 dX0_isUnder_5 (by decide) ?_
    refine V_icmp_ge_f dX0_isUnder_7 36 (by decide) (by decide) ?_
    refine V_iloadn_2 dX0_isUnder_10 ?_
    refine V_cs1f dX0_isUnder_11 cs_X0_9 (Nat.le_of_ble_eq_true rfl) (k_isKind (x := (-1))) ?_
    refine V_if_eq_t dX0_isUnder_14 36 (by decide) (by decide) ?_
    refine V_iconst 0 dX0_isUnder_36 (by decide) ?_
    exact V_zret dX0_isUnder_37 (by decide) ⟨rB0 (by omega), rfl⟩
  · refine V_iloadn_0 dX0_isUnder_0 ?_
    refine V_istoren_2 dX0_isUnder_1 (by exact rfl) (by decide) ?_
    refine V_iconst 0 dX0_isUnder_2 (by decide) ?_
    refine V_istoren_3 dX0_isUnder_3 (by exact rfl) (by decide) ?_
    refine V_iloadn_3 dX0_isUnder_4 ?_
    refine V_bipush 6 dX0_isUnder_5 (by decide) ?_
    refine V_icmp_ge_f dX0_isUnder_7 36 (by decide) (by decide) ?_
    refine V_iloadn_2 dX0_isUnder_10 ?_
    refine V_cs1f dX0_isUnder_11 cs_X0_9 (Nat.le_of_ble_eq_true rfl) (k_isKind (x := 3)) ?_
    refine V_if_eq_f dX0_isUnder_14 36 (by decide) (by decide) ?_
    refine V_iloadn_2 dX0_isUnder_17 ?_
    refine V_iloadn_1 dX0_isUnder_18 ?_
    refine V_icmpN_ne (a := 3) (b := u) dX0_isUnder_19 24 (by decide) (by omega) (by omega) (fun h0 => ?_) (fun h0 => ?_)
    rotate_left
    · refine V_iconst 1 dX0_isUnder_22 (by decide) ?_
      exact V_zret dX0_isUnder_23 (by decide) ⟨rB1 (by omega), rfl⟩
    refine V_getsA dX0_isUnder_24 (wd 384 (by decide +kernel) (by decide +kernel)) ?_
    refine V_iloadn_2 dX0_isUnder_27 ?_
    refine V_abald (j := 3) dX0_isUnder_28 (by decide) ?_
    refine V_topi (y := 1) (by decide) ?_
    refine V_istoren_2 dX0_isUnder_29 (by exact rfl) (by decide) ?_
    refine V_iinc_3 dX0_isUnder_30 (by exact rfl) (by decide) 1 (by decide) ?_
    refine V_goto dX0_isUnder_33 4 (by decide) ?_
    refine V_iloadn_3 dX0_isUnder_4 ?_
    refine V_bipush 6 dX0_isUnder_5 (by decide) ?_
    refine V_icmp_ge_f dX0_isUnder_7 36 (by decide) (by decide) ?_
    refine V_iloadn_2 dX0_isUnder_10 ?_
    refine V_cs1f dX0_isUnder_11 cs_X0_9 (Nat.le_of_ble_eq_true rfl) (k_isKind (x := 1)) ?_
    refine V_if_eq_f dX0_isUnder_14 36 (by decide) (by decide) ?_
    refine V_iloadn_2 dX0_isUnder_17 ?_
    refine V_iloadn_1 dX0_isUnder_18 ?_
    refine V_icmpN_ne (a := 1) (b := u) dX0_isUnder_19 24 (by decide) (by omega) (by omega) (fun h1 => ?_) (fun h1 => ?_)
    rotate_left
    · refine V_iconst 1 dX0_isUnder_22 (by decide) ?_
      exact V_zret dX0_isUnder_23 (by decide) ⟨rB1 (by omega), rfl⟩
    refine V_getsA dX0_isUnder_24 (wd 384 (by decide +kernel) (by decide +kernel)) ?_
    refine V_iloadn_2 dX0_isUnder_27 ?_
    refine V_abald (j := 1) dX0_isUnder_28 (by decide) ?_
    refine V_topi (y := 0) (by decide) ?_
    refine V_istoren_2 dX0_isUnder_29 (by exact rfl) (by decide) ?_
    refine V_iinc_3 dX0_isUnder_30 (by exact rfl) (by decide) 2 (by decide) ?_
    refine V_goto dX0_isUnder_33 4 (by decide) ?_
    refine V_iloadn_3 dX0_isUnder_4 ?_
    refine V_bipush 6 dX0_isUnder_5 (by decide) ?_
    refine V_icmp_ge_f dX0_isUnder_7 36 (by decide) (by decide) ?_
    refine V_iloadn_2 dX0_isUnder_10 ?_
    refine V_cs1f dX0_isUnder_11 cs_X0_9 (Nat.le_of_ble_eq_true rfl) (k_isKind (x := 0)) ?_
    refine V_if_eq_f dX0_isUnder_14 36 (by decide) (by decide) ?_
    refine V_iloadn_2 dX0_isUnder_17 ?_
    refine V_iloadn_1 dX0_isUnder_18 ?_
    refine V_icmpN_ne (a := 0) (b := u) dX0_isUnder_19 24 (by decide) (by omega) (by omega) (fun h2 => ?_) (fun h2 => ?_)
    rotate_left
    · refine V_iconst 1 dX0_isUnder_22 (by decide) ?_
      exact V_zret dX0_isUnder_23 (by decide) ⟨rB1 (by omega), rfl⟩
    refine V_getsA dX0_isUnder_24 (wd 384 (by decide +kernel) (by decide +kernel)) ?_
    refine V_iloadn_2 dX0_isUnder_27 ?_
    refine V_abald (j := 0) dX0_isUnder_28 (by decide) ?_
    refine V_topi (y := (-1)) (by decide) ?_
    refine V_istoren_2 dX0_isUnder_29 (by exact rfl) (by decide) ?_
    refine V_iinc_3 dX0_isUnder_30 (by exact rfl) (by decide) 3 (by decide) ?_
    refine V_goto dX0_isUnder_33 4 (by decide) ?_
    refine V_iloadn_3 dX0_isUnder_4 ?_
    refine V_bipush 6 dX0_isUnder_5 (by decide) ?_
    refine V_icmp_ge_f dX0_isUnder_7 36 (by decide) (by decide) ?_
    refine V_iloadn_2 dX0_isUnder_10 ?_
    refine V_cs1f dX0_isUnder_11 cs_X0_9 (Nat.le_of_ble_eq_true rfl) (k_isKind (x := (-1))) ?_
    refine V_if_eq_t dX0_isUnder_14 36 (by decide) (by decide) ?_
    refine V_iconst 0 dX0_isUnder_36 (by decide) ?_
    exact V_zret dX0_isUnder_37 (by decide) ⟨rB0 (by omega), rfl⟩
  · refine V_iloadn_0 dX0_isUnder_0 ?_
    refine V_istoren_2 dX0_isUnder_1 (by exact rfl) (by decide) ?_
    refine V_iconst 0 dX0_isUnder_2 (by decide) ?_
    refine V_istoren_3 dX0_isUnder_3 (by exact rfl) (by decide) ?_
    refine V_iloadn_3 dX0_isUnder_4 ?_
    refine V_bipush 6 dX0_isUnder_5 (by decide) ?_
    refine V_icmp_ge_f dX0_isUnder_7 36 (by decide) (by decide) ?_
    refine V_iloadn_2 dX0_isUnder_10 ?_
    refine V_cs1f dX0_isUnder_11 cs_X0_9 (Nat.le_of_ble_eq_true rfl) (k_isKind (x := 4)) ?_
    refine V_if_eq_f dX0_isUnder_14 36 (by decide) (by decide) ?_
    refine V_iloadn_2 dX0_isUnder_17 ?_
    refine V_iloadn_1 dX0_isUnder_18 ?_
    refine V_icmpN_ne (a := 4) (b := u) dX0_isUnder_19 24 (by decide) (by omega) (by omega) (fun h0 => ?_) (fun h0 => ?_)
    rotate_left
    · refine V_iconst 1 dX0_isUnder_22 (by decide) ?_
      exact V_zret dX0_isUnder_23 (by decide) ⟨rB1 (by omega), rfl⟩
    refine V_getsA dX0_isUnder_24 (wd 384 (by decide +kernel) (by decide +kernel)) ?_
    refine V_iloadn_2 dX0_isUnder_27 ?_
    refine V_abald (j := 4) dX0_isUnder_28 (by decide) ?_
    refine V_topi (y := 2) (by decide) ?_
    refine V_istoren_2 dX0_isUnder_29 (by exact rfl) (by decide) ?_
    refine V_iinc_3 dX0_isUnder_30 (by exact rfl) (by decide) 1 (by decide) ?_
    refine V_goto dX0_isUnder_33 4 (by decide) ?_
    refine V_iloadn_3 dX0_isUnder_4 ?_
    refine V_bipush 6 dX0_isUnder_5 (by decide) ?_
    refine V_icmp_ge_f dX0_isUnder_7 36 (by decide) (by decide) ?_
    refine V_iloadn_2 dX0_isUnder_10 ?_
    refine V_cs1f dX0_isUnder_11 cs_X0_9 (Nat.le_of_ble_eq_true rfl) (k_isKind (x := 2)) ?_
    refine V_if_eq_f dX0_isUnder_14 36 (by decide) (by decide) ?_
    refine V_iloadn_2 dX0_isUnder_17 ?_
    refine V_iloadn_1 dX0_isUnder_18 ?_
    refine V_icmpN_ne (a := 2) (b := u) dX0_isUnder_19 24 (by decide) (by omega) (by omega) (fun h1 => ?_) (fun h1 => ?_)
    rotate_left
    · refine V_iconst 1 dX0_isUnder_22 (by decide) ?_
      exact V_zret dX0_isUnder_23 (by decide) ⟨rB1 (by omega), rfl⟩
    refine V_getsA dX0_isUnder_24 (wd 384 (by decide +kernel) (by decide +kernel)) ?_
    refine V_iloadn_2 dX0_isUnder_27 ?_
    refine V_abald (j := 2) dX0_isUnder_28 (by decide) ?_
    refine V_topi (y := 0) (by decide) ?_
    refine V_istoren_2 dX0_isUnder_29 (by exact rfl) (by decide) ?_
    refine V_iinc_3 dX0_isUnder_30 (by exact rfl) (by decide) 2 (by decide) ?_
    refine V_goto dX0_isUnder_33 4 (by decide) ?_
    refine V_iloadn_3 dX0_isUnder_4 ?_
    refine V_bipush 6 dX0_isUnder_5 (by decide) ?_
    refine V_icmp_ge_f dX0_isUnder_7 36 (by decide) (by decide) ?_
    refine V_iloadn_2 dX0_isUnder_10 ?_
    refine V_cs1f dX0_isUnder_11 cs_X0_9 (Nat.le_of_ble_eq_true rfl) (k_isKind (x := 0)) ?_
    refine V_if_eq_f dX0_isUnder_14 36 (by decide) (by decide) ?_
    refine V_iloadn_2 dX0_isUnder_17 ?_
    refine V_iloadn_1 dX0_isUnder_18 ?_
    refine V_icmpN_ne (a := 0) (b := u) dX0_isUnder_19 24 (by decide) (by omega) (by omega) (fun h2 => ?_) (fun h2 => ?_)
    rotate_left
    · refine V_iconst 1 dX0_isUnder_22 (by decide) ?_
      exact V_zret dX0_isUnder_23 (by decide) ⟨rB1 (by omega), rfl⟩
    refine V_getsA dX0_isUnder_24 (wd 384 (by decide +kernel) (by decide +kernel)) ?_
    refine V_iloadn_2 dX0_isUnder_27 ?_
    refine V_abald (j := 0) dX0_isUnder_28 (by decide) ?_
    refine V_topi (y := (-1)) (by decide) ?_
    refine V_istoren_2 dX0_isUnder_29 (by exact rfl) (by decide) ?_
    refine V_iinc_3 dX0_isUnder_30 (by exact rfl) (by decide) 3 (by decide) ?_
    refine V_goto dX0_isUnder_33 4 (by decide) ?_
    refine V_iloadn_3 dX0_isUnder_4 ?_
    refine V_bipush 6 dX0_isUnder_5 (by decide) ?_
    refine V_icmp_ge_f dX0_isUnder_7 36 (by decide) (by decide) ?_
    refine V_iloadn_2 dX0_isUnder_10 ?_
    refine V_cs1f dX0_isUnder_11 cs_X0_9 (Nat.le_of_ble_eq_true rfl) (k_isKind (x := (-1))) ?_
    refine V_if_eq_t dX0_isUnder_14 36 (by decide) (by decide) ?_
    refine V_iconst 0 dX0_isUnder_36 (by decide) ?_
    exact V_zret dX0_isUnder_37 (by decide) ⟨rB0 (by omega), rfl⟩
  · refine V_iloadn_0 dX0_isUnder_0 ?_
    refine V_istoren_2 dX0_isUnder_1 (by exact rfl) (by decide) ?_
    refine V_iconst 0 dX0_isUnder_2 (by decide) ?_
    refine V_istoren_3 dX0_isUnder_3 (by exact rfl) (by decide) ?_
    refine V_iloadn_3 dX0_isUnder_4 ?_
    refine V_bipush 6 dX0_isUnder_5 (by decide) ?_
    refine V_icmp_ge_f dX0_isUnder_7 36 (by decide) (by decide) ?_
    refine V_iloadn_2 dX0_isUnder_10 ?_
    refine V_cs1f dX0_isUnder_11 cs_X0_9 (Nat.le_of_ble_eq_true rfl) (k_isKind (x := 5)) ?_
    refine V_if_eq_f dX0_isUnder_14 36 (by decide) (by decide) ?_
    refine V_iloadn_2 dX0_isUnder_17 ?_
    refine V_iloadn_1 dX0_isUnder_18 ?_
    refine V_icmpN_ne (a := 5) (b := u) dX0_isUnder_19 24 (by decide) (by omega) (by omega) (fun h0 => ?_) (fun h0 => ?_)
    rotate_left
    · refine V_iconst 1 dX0_isUnder_22 (by decide) ?_
      exact V_zret dX0_isUnder_23 (by decide) ⟨rB1 (by omega), rfl⟩
    refine V_getsA dX0_isUnder_24 (wd 384 (by decide +kernel) (by decide +kernel)) ?_
    refine V_iloadn_2 dX0_isUnder_27 ?_
    refine V_abald (j := 5) dX0_isUnder_28 (by decide) ?_
    refine V_topi (y := 0) (by decide) ?_
    refine V_istoren_2 dX0_isUnder_29 (by exact rfl) (by decide) ?_
    refine V_iinc_3 dX0_isUnder_30 (by exact rfl) (by decide) 1 (by decide) ?_
    refine V_goto dX0_isUnder_33 4 (by decide) ?_
    refine V_iloadn_3 dX0_isUnder_4 ?_
    refine V_bipush 6 dX0_isUnder_5 (by decide) ?_
    refine V_icmp_ge_f dX0_isUnder_7 36 (by decide) (by decide) ?_
    refine V_iloadn_2 dX0_isUnder_10 ?_
    refine V_cs1f dX0_isUnder_11 cs_X0_9 (Nat.le_of_ble_eq_true rfl) (k_isKind (x := 0)) ?_
    refine V_if_eq_f dX0_isUnder_14 36 (by decide) (by decide) ?_
    refine V_iloadn_2 dX0_isUnder_17 ?_
    refine V_iloadn_1 dX0_isUnder_18 ?_
    refine V_icmpN_ne (a := 0) (b := u) dX0_isUnder_19 24 (by decide) (by omega) (by omega) (fun h1 => ?_) (fun h1 => ?_)
    rotate_left
    · refine V_iconst 1 dX0_isUnder_22 (by decide) ?_
      exact V_zret dX0_isUnder_23 (by decide) ⟨rB1 (by omega), rfl⟩
    refine V_getsA dX0_isUnder_24 (wd 384 (by decide +kernel) (by decide +kernel)) ?_
    refine V_iloadn_2 dX0_isUnder_27 ?_
    refine V_abald (j := 0) dX0_isUnder_28 (by decide) ?_
    refine V_topi (y := (-1)) (by decide) ?_
    refine V_istoren_2 dX0_isUnder_29 (by exact rfl) (by decide) ?_
    refine V_iinc_3 dX0_isUnder_30 (by exact rfl) (by decide) 2 (by decide) ?_
    refine V_goto dX0_isUnder_33 4 (by decide) ?_
    refine V_iloadn_3 dX0_isUnder_4 ?_
    refine V_bipush 6 dX0_isUnder_5 (by decide) ?_
    refine V_icmp_ge_f dX0_isUnder_7 36 (by decide) (by decide) ?_
    refine V_iloadn_2 dX0_isUnder_10 ?_
    refine V_cs1f dX0_isUnder_11 cs_X0_9 (Nat.le_of_ble_eq_true rfl) (k_isKind (x := (-1))) ?_
    refine V_if_eq_t dX0_isUnder_14 36 (by decide) (by decide) ?_
    refine V_iconst 0 dX0_isUnder_36 (by decide) ?_
    exact V_zret dX0_isUnder_37 (by decide) ⟨rB0 (by omega), rfl⟩

set_option maxRecDepth 100000 in
set_option maxHeartbeats 4000000 in
theorem k_T_hasCellar {G : vG} {σ : vS} {d : Nat} {t : Nat} {T : nT} {x : Int32} (ht : Twn t) (hT : TA0 t T σ) : Cf G yX5_hasCellar cX5_hasCellar 2 (some .boolean) d [.ref t, .int x] σ (some (.int (bI (hasI x (T 0 5))))) σ := by
  refine Ct.ofV (by decide) (Nat.le_of_ble_eq_true rfl) rfl ?_
  show V G RX5 cX5_hasCellar (some .boolean) 2 d _ 0 [some (.ref t), some (.int x)] [] _
  refine V_iloadn_1 dX5_hasCellar_0 ?_
  refine V_if_lt dX5_hasCellar_1 16 (by decide) (fun h1 => ?_) (fun h1 => ?_)
  · refine V_iconst 0 dX5_hasCellar_16 (by decide) ?_
    exact V_zret dX5_hasCellar_17 (by decide) ⟨rB0 (fun q => by first | exact absurd h1 q.1 | exact absurd h9 q.2), rfl⟩
  · refine V_iloadn_1 dX5_hasCellar_4 ?_
    refine V_aloadn_0 dX5_hasCellar_5 ?_
    refine V_getI dX5_hasCellar_6 fl_X5_62 (oT_cellars ht) ?_
    refine V_topi hT.n5 ?_
    refine V_icmp_ge dX5_hasCellar_9 16 (by decide) (fun h9 => ?_) (fun h9 => ?_)
    · refine V_iconst 0 dX5_hasCellar_16 (by decide) ?_
      exact V_zret dX5_hasCellar_17 (by decide) ⟨rB0 (fun q => by first | exact absurd h1 q.1 | exact absurd h9 q.2), rfl⟩
    · refine V_iconst 1 dX5_hasCellar_12 (by decide) ?_
      refine V_goto dX5_hasCellar_13 17 (by decide) ?_
      exact V_zret dX5_hasCellar_17 (by decide) ⟨rB1 ⟨h1, h9⟩, rfl⟩

set_option maxRecDepth 100000 in
set_option maxHeartbeats 4000000 in
theorem k_T_hasPipe {G : vG} {σ : vS} {d : Nat} {t : Nat} {T : nT} {x : Int32} (ht : Twn t) (hT : TA0 t T σ) : Cf G yX5_hasPipe cX5_hasPipe 2 (some .boolean) d [.ref t, .int x] σ (some (.int (bI (hasI x (T 0 10))))) σ := by
  refine Ct.ofV (by decide) (Nat.le_of_ble_eq_true rfl) rfl ?_
  show V G RX5 cX5_hasPipe (some .boolean) 2 d _ 0 [some (.ref t), some (.int x)] [] _
  refine V_iloadn_1 dX5_hasPipe_0 ?_
  refine V_if_lt dX5_hasPipe_1 16 (by decide) (fun h1 => ?_) (fun h1 => ?_)
  · refine V_iconst 0 dX5_hasPipe_16 (by decide) ?_
    exact V_zret dX5_hasPipe_17 (by decide) ⟨rB0 (fun q => by first | exact absurd h1 q.1 | exact absurd h9 q.2), rfl⟩
  · refine V_iloadn_1 dX5_hasPipe_4 ?_
    refine V_aloadn_0 dX5_hasPipe_5 ?_
    refine V_getI dX5_hasPipe_6 fl_X5_65 (oT_pipes ht) ?_
    refine V_topi hT.n10 ?_
    refine V_icmp_ge dX5_hasPipe_9 16 (by decide) (fun h9 => ?_) (fun h9 => ?_)
    · refine V_iconst 0 dX5_hasPipe_16 (by decide) ?_
      exact V_zret dX5_hasPipe_17 (by decide) ⟨rB0 (fun q => by first | exact absurd h1 q.1 | exact absurd h9 q.2), rfl⟩
    · refine V_iconst 1 dX5_hasPipe_12 (by decide) ?_
      refine V_goto dX5_hasPipe_13 17 (by decide) ?_
      exact V_zret dX5_hasPipe_17 (by decide) ⟨rB1 ⟨h1, h9⟩, rfl⟩

set_option maxRecDepth 100000 in
set_option maxHeartbeats 4000000 in
theorem k_T_fullOf {G : vG} {σ : vS} {d : Nat} {t : Nat} {T : nT} (ht : Twn t) (hT : TA0 t T σ) (hI : TI T) {c : Nat} (hc : c < T 0 5) : Cf G yX5_fullOf cX5_fullOf 3 (some .int) d [.ref t, .int (nI c)] σ (some (.int (nI (fullT T c)))) σ := by
  refine Ct.ofV (by decide) (Nat.le_of_ble_eq_true rfl) rfl ?_
  show V G RX5 cX5_fullOf (some .int) 3 d _ 0 [some (.ref t), some (.int (nI c)), none] [] _
  have hn := hI.nc
  have hm := hI.np
  refine V_iloadn_1 dX5_fullOf_0 ?_
  refine V_iconst 3 dX5_fullOf_1 (by decide) ?_
  refine V_imulN (a := c) (b := 3) dX5_fullOf_2 ?_
  refine V_istoren_2 dX5_fullOf_3 (by first | exact rfl | exact True.intro) (by decide) ?_
  refine V_aloadn_0 dX5_fullOf_4 ?_
  refine V_getR dX5_fullOf_5 fl_X5_21 (oT_wine ht) ?_
  refine V_iloadn_2 dX5_fullOf_8 ?_
  refine V_iald (j := c * 3) dX5_fullOf_9 (aT_wine ht) (by omega) (by decide) ?_
  refine V_topi (hT.k4 (by omega)) ?_
  refine V_aloadn_0 dX5_fullOf_10 ?_
  refine V_getR dX5_fullOf_11 fl_X5_21 (oT_wine ht) ?_
  refine V_iloadn_2 dX5_fullOf_14 ?_
  refine V_iconst 1 dX5_fullOf_15 (by decide) ?_
  refine V_iaddN (a := c * 3) (b := 1) dX5_fullOf_16 ?_
  refine V_iald (j := (c * 3) + 1) dX5_fullOf_17 (aT_wine ht) (by omega) (by decide) ?_
  refine V_topi (hT.k4 (by omega)) ?_
  refine V_iaddN (a := T 4 (c * 3)) (b := T 4 ((c * 3) + 1)) dX5_fullOf_18 ?_
  refine V_aloadn_0 dX5_fullOf_19 ?_
  refine V_getR dX5_fullOf_20 fl_X5_21 (oT_wine ht) ?_
  refine V_iloadn_2 dX5_fullOf_23 ?_
  refine V_iconst 2 dX5_fullOf_24 (by decide) ?_
  refine V_iaddN (a := c * 3) (b := 2) dX5_fullOf_25 ?_
  refine V_iald (j := (c * 3) + 2) dX5_fullOf_26 (aT_wine ht) (by omega) (by decide) ?_
  refine V_topi (hT.k4 (by omega)) ?_
  refine V_iaddN (a := (T 4 (c * 3)) + (T 4 ((c * 3) + 1))) (b := T 4 ((c * 3) + 2)) dX5_fullOf_27 ?_
  exact V_iret dX5_fullOf_28 ⟨rfl, rfl⟩

set_option maxRecDepth 100000 in
set_option maxHeartbeats 4000000 in
theorem lp_T_fullOfAll {G : vG} {d : Nat} {σ : vS} {t : Nat} {T : nT} (ht : Twn t) (hT : TA0 t T σ) (hI : TI T) : ∀ (k : Nat) (c : Nat), c ≤ T 0 5 → T 0 5 - c < k → V G RX5 cX5_fullOfAll (some .int) 3 (d + 1) (fun r' σ' => r' = some (.int (nI (sumT T (T 0 5)))) ∧ σ' = σ) 4 [some (.ref t), some (.int (nI (sumT T c))), some (.int (nI c))] [] σ := by
  intro k
  induction k with
  | zero => intros; omega
  | succ k ih =>
    intro c hc hk
    have hn := hI.nc
    have hm := hI.np
    refine V_iloadn_2 dX5_fullOfAll_4 ?_
    refine V_aloadn_0 dX5_fullOfAll_5 ?_
    refine V_getI dX5_fullOfAll_6 fl_X5_62 (oT_cellars ht) ?_
    refine V_topi hT.n5 ?_
    refine V_icmpN_ge (a := c) (b := T 0 5) dX5_fullOfAll_9 26 (by decide) (by omega) (by omega) (fun h9 => ?_) (fun h9 => ?_)
    · refine V_iloadn_1 dX5_fullOfAll_26 ?_
      exact V_iret dX5_fullOfAll_27 ⟨rN (by rw [show c = T 0 5 by omega]), rfl⟩
    · refine V_iloadn_1 dX5_fullOfAll_12 ?_
      refine V_aloadn_0 dX5_fullOfAll_13 ?_
      refine V_iloadn_2 dX5_fullOfAll_14 ?_
      refine V_cv1f dX5_fullOfAll_15 cv_X5_89 (rcT ht) (Nat.le_of_ble_eq_true rfl) (k_T_fullOf ht hT hI (by omega)) ?_
      refine V_iaddN (a := sumT T c) (b := fullT T c) dX5_fullOfAll_18 ?_
      refine V_istoren_1 dX5_fullOfAll_19 (by first | exact rfl | exact True.intro) (by decide) ?_
      refine V_iinc_2 dX5_fullOfAll_20 (by first | exact rfl | exact True.intro) (by decide) (nI (c + 1)) (nI_inc _) ?_
      refine V_goto dX5_fullOfAll_23 4 (by decide) ?_
      exact ih (c + 1) (by omega) (by omega)

set_option maxRecDepth 100000 in
set_option maxHeartbeats 4000000 in
theorem k_T_fullOfAll {G : vG} {σ : vS} {d : Nat} (hd : 1 ≤ d) {t : Nat} {T : nT} (ht : Twn t) (hT : TA0 t T σ) (hI : TI T) : Cf G yX5_fullOfAll cX5_fullOfAll 3 (some .int) d [.ref t] σ (some (.int (nI (sumT T (T 0 5))))) σ := by
  refine Ct.ofV (by decide) (Nat.le_of_ble_eq_true rfl) rfl ?_
  show V G RX5 cX5_fullOfAll (some .int) 3 d _ 0 [some (.ref t), none, none] [] _
  obtain ⟨d, rfl⟩ : ∃ e, d = e + 1 := ⟨d - 1, by omega⟩
  have hn := hI.nc
  have hm := hI.np
  refine V_iconst 0 dX5_fullOfAll_0 (by decide) ?_
  refine V_istoren_1 dX5_fullOfAll_1 (by first | exact rfl | exact True.intro) (by decide) ?_
  refine V_iconst 0 dX5_fullOfAll_2 (by decide) ?_
  refine V_istoren_2 dX5_fullOfAll_3 (by first | exact rfl | exact True.intro) (by decide) ?_
  exact lp_T_fullOfAll ht hT hI (T 0 5 + 1) 0 (by omega) (by omega)

theorem clampN_le (x : Int32) : clampN x ≤ 999 := by
  unfold clampN
  split
  · omega
  · split
    · omega
    · rename_i h1 h2
      obtain ⟨j, hj, rfl⟩ := nI_of h1
      have := mt (nI_ltI (a := 999) (b := j) (by decide) hj).mpr h2
      rw [nI_clamp hj]
      omega
theorem plainT_le (L T : nT) (c : Nat) : plainT L T c ≤ 999 := by
  unfold plainT
  split
  · exact Nat.min_le_right _ _
  · exact clampN_le _
theorem highT_le (L T : nT) (c : Nat) : highT L T c ≤ 1000 := by
  have := plainT_le L T c
  unfold highT highK
  split
  · omega
  · split
    · omega
    · split
      · split <;> omega
      · split <;> omega
theorem levT_le {L T : nT} {c : Nat} (hI : TI T) (hc : c < T 0 5) : levT L T c ≤ 1099 := by
  have := highT_le L T c
  have := (hI.ce hc).2.1
  unfold levT
  omega
theorem up_cases (L T : nT) (p : Nat) : (upT L T p = T 6 p ∧ loT L T p = T 7 p ∧ levT L T (T 7 p) ≤ levT L T (T 6 p)) ∨ (upT L T p = T 7 p ∧ loT L T p = T 6 p ∧ levT L T (T 6 p) < levT L T (T 7 p)) := by
  by_cases h : levT L T (T 7 p) ≤ levT L T (T 6 p)
  · have e : upT L T p = T 6 p := by unfold upT; rw [if_pos h]
    exact Or.inl ⟨e, by unfold loT; rw [e]; omega, h⟩
  · have e : upT L T p = T 7 p := by unfold upT; rw [if_neg h]
    exact Or.inr ⟨e, by unfold loT; rw [e]; omega, by omega⟩
theorem up_ok {L T : nT} {p : Nat} (hI : TI T) (hp : p < T 0 10) : upT L T p < T 0 5 ∧ loT L T p < T 0 5 ∧ upT L T p ≠ loT L T p ∧ levT L T (loT L T p) ≤ levT L T (upT L T p) ∧ upT L T p ≤ T 6 p + T 7 p := by
  obtain ⟨h1, h2, h3, -⟩ := hI.pi hp
  rcases up_cases L T p with ⟨e1, e2, e3⟩ | ⟨e1, e2, e3⟩
  · rw [e1, e2]; exact ⟨h1, h2, h3, e3, by omega⟩
  · rw [e1, e2]; exact ⟨h2, h1, fun e => h3 e.symm, by omega, by omega⟩

set_option maxRecDepth 100000 in
set_option maxHeartbeats 4000000 in
theorem k_T_levelOf {G : vG} {σ : vS} {d : Nat} {t : Nat} {L T : nT} (ht : Twn t) (hH : TA L t T σ) (hI : TI T) {c : Nat} (hc : c < T 0 5) : Cf G yX5_levelOf cX5_levelOf 2 (some .int) d [.ref t, .int (nI c)] σ (some (.int (nI (levT L T c)))) σ := by
  refine Ct.ofV (by decide) (Nat.le_of_ble_eq_true rfl) rfl ?_
  show V G RX5 cX5_levelOf (some .int) 2 d _ 0 [some (.ref t), some (.int (nI c))] [] _
  have hn := hI.nc
  have hm := hI.np
  refine V_aloadn_0 dX5_levelOf_0 ?_
  refine V_getR dX5_levelOf_1 fl_X5_15 (oT_floor ht) ?_
  refine V_iloadn_1 dX5_levelOf_4 ?_
  refine V_iald (j := c) dX5_levelOf_5 (aT_floor ht) (by omega) (by decide) ?_
  refine V_topi (hH.1.k2 (by omega)) ?_
  refine V_aloadn_0 dX5_levelOf_6 ?_
  refine V_getR dX5_levelOf_7 fl_X5_24 (oT_high ht) ?_
  refine V_iloadn_1 dX5_levelOf_10 ?_
  refine V_iald (j := c) dX5_levelOf_11 (aT_high ht) (by omega) (by decide) ?_
  refine V_topi (hH.k5 (by omega)) ?_
  refine V_iaddN (a := T 2 c) (b := highT L T c) dX5_levelOf_12 ?_
  exact V_iret dX5_levelOf_13 ⟨rfl, rfl⟩

set_option maxRecDepth 100000 in
set_option maxHeartbeats 4000000 in
theorem k_T_upperOf {G : vG} {σ : vS} {d : Nat} (hd : 1 ≤ d) {t : Nat} {L T : nT} (ht : Twn t) (hH : TA L t T σ) (hI : TI T) {p : Nat} (hp : p < T 0 10) : Cf G yX5_upperOf cX5_upperOf 2 (some .int) d [.ref t, .int (nI p)] σ (some (.int (nI (upT L T p)))) σ := by
  refine Ct.ofV (by decide) (Nat.le_of_ble_eq_true rfl) rfl ?_
  show V G RX5 cX5_upperOf (some .int) 2 d _ 0 [some (.ref t), some (.int (nI p))] [] _
  obtain ⟨d, rfl⟩ : ∃ e, d = e + 1 := ⟨d - 1, by omega⟩
  have hn := hI.nc
  have hm := hI.np
  obtain ⟨p1, p2, p3, p4, p5⟩ := hI.pi hp
  have l1 := levT_le (L := L) hI p1
  have l2 := levT_le (L := L) hI p2
  refine V_aloadn_0 dX5_upperOf_0 ?_
  refine V_aloadn_0 dX5_upperOf_1 ?_
  refine V_getR dX5_upperOf_2 fl_X5_27 (oT_one ht) ?_
  refine V_iloadn_1 dX5_upperOf_5 ?_
  refine V_iald (j := p) dX5_upperOf_6 (aT_one ht) (by omega) (by decide) ?_
  refine V_topi (hH.1.k6 (by omega)) ?_
  refine V_cv1f dX5_upperOf_7 cv_X5_111 (rcT ht) (Nat.le_of_ble_eq_true rfl) (k_T_levelOf ht hH hI (by omega)) ?_
  refine V_aloadn_0 dX5_upperOf_10 ?_
  refine V_aloadn_0 dX5_upperOf_11 ?_
  refine V_getR dX5_upperOf_12 fl_X5_30 (oT_other ht) ?_
  refine V_iloadn_1 dX5_upperOf_15 ?_
  refine V_iald (j := p) dX5_upperOf_16 (aT_other ht) (by omega) (by decide) ?_
  refine V_topi (hH.1.k7 (by omega)) ?_
  refine V_cv1f dX5_upperOf_17 cv_X5_111 (rcT ht) (Nat.le_of_ble_eq_true rfl) (k_T_levelOf ht hH hI (by omega)) ?_
  refine V_icmpN_lt (a := levT L T (T 6 p)) (b := levT L T (T 7 p)) dX5_upperOf_20 32 (by decide) (by omega) (by omega) (fun h20 => ?_) (fun h20 => ?_)
  · refine V_aloadn_0 dX5_upperOf_32 ?_
    refine V_getR dX5_upperOf_33 fl_X5_30 (oT_other ht) ?_
    refine V_iloadn_1 dX5_upperOf_36 ?_
    refine V_iald (j := p) dX5_upperOf_37 (aT_other ht) (by omega) (by decide) ?_
    refine V_topi (hH.1.k7 (by omega)) ?_
    exact V_iret dX5_upperOf_38 ⟨rN (by simp only [upT]; first | rw [if_pos h20] | rw [if_neg (by omega)]), rfl⟩
  · refine V_aloadn_0 dX5_upperOf_23 ?_
    refine V_getR dX5_upperOf_24 fl_X5_27 (oT_one ht) ?_
    refine V_iloadn_1 dX5_upperOf_27 ?_
    refine V_iald (j := p) dX5_upperOf_28 (aT_one ht) (by omega) (by decide) ?_
    refine V_topi (hH.1.k6 (by omega)) ?_
    refine V_goto dX5_upperOf_29 38 (by decide) ?_
    exact V_iret dX5_upperOf_38 ⟨rN (by simp only [upT]; first | rw [if_pos h20] | rw [if_neg (by omega)]), rfl⟩

set_option maxRecDepth 100000 in
set_option maxHeartbeats 4000000 in
theorem k_T_farUp {G : vG} {σ : vS} {d : Nat} {t : Nat} {L T : nT} (ht : Twn t) (hH : TA L t T σ) (hI : TI T) {p : Nat} (hp : p < T 0 10) : Cf G yX5_farEndOf cX5_farEndOf 3 (some .int) d [.ref t, .int (nI p), .int (nI (upT L T p))] σ (some (.int (nI (loT L T p)))) σ := by
  refine Ct.ofV (by decide) (Nat.le_of_ble_eq_true rfl) rfl ?_
  show V G RX5 cX5_farEndOf (some .int) 3 d _ 0 [some (.ref t), some (.int (nI p)), some (.int (nI (upT L T p)))] [] _
  have hn := hI.nc
  have hm := hI.np
  obtain ⟨p1, p2, p3, p4, p5⟩ := hI.pi hp
  obtain ⟨q1, q2, q3, q4, q5⟩ := up_ok (L := L) hI hp
  refine V_aloadn_0 dX5_farEndOf_0 ?_
  refine V_getR dX5_farEndOf_1 fl_X5_27 (oT_one ht) ?_
  refine V_iloadn_1 dX5_farEndOf_4 ?_
  refine V_iald (j := p) dX5_farEndOf_5 (aT_one ht) (by omega) (by decide) ?_
  refine V_topi (hH.1.k6 (by omega)) ?_
  refine V_aloadn_0 dX5_farEndOf_6 ?_
  refine V_getR dX5_farEndOf_7 fl_X5_30 (oT_other ht) ?_
  refine V_iloadn_1 dX5_farEndOf_10 ?_
  refine V_iald (j := p) dX5_farEndOf_11 (aT_other ht) (by omega) (by decide) ?_
  refine V_topi (hH.1.k7 (by omega)) ?_
  refine V_iaddN (a := T 6 p) (b := T 7 p) dX5_farEndOf_12 ?_
  refine V_iloadn_2 dX5_farEndOf_13 ?_
  refine V_isubN (a := (T 6 p) + (T 7 p)) (b := upT L T p) dX5_farEndOf_14 (by omega) ?_
  exact V_iret dX5_farEndOf_15 ⟨rfl, rfl⟩

set_option maxRecDepth 100000 in
set_option maxHeartbeats 4000000 in
theorem k_T_runsFrom {G : vG} {σ : vS} {d : Nat} (hd : 1 ≤ d) {t : Nat} {L T : nT} (ht : Twn t) (hH : TA L t T σ) (hI : TI T) {p : Nat} (hp : p < T 0 10) : Cf G yX5_runsFrom cX5_runsFrom 5 (some .int) d [.ref t, .int (nI (upT L T p)), .int (nI p)] σ (some (.int (nI (runsT L T p)))) σ := by
  refine Ct.ofV (by decide) (Nat.le_of_ble_eq_true rfl) rfl ?_
  show V G RX5 cX5_runsFrom (some .int) 5 d _ 0 [some (.ref t), some (.int (nI (upT L T p))), some (.int (nI p)), none, none] [] _
  obtain ⟨d, rfl⟩ : ∃ e, d = e + 1 := ⟨d - 1, by omega⟩
  have hn := hI.nc
  have hm := hI.np
  obtain ⟨p1, p2, p3, p4, p5⟩ := hI.pi hp
  obtain ⟨q1, q2, q3, q4, q5⟩ := up_ok (L := L) hI hp
  have l1 := levT_le (L := L) hI q1
  have l2 := levT_le (L := L) hI q2
  have f1 := hI.full q1
  have k1 := (hI.ce q2).1
  have hb : T 8 p * (levT L T (upT L T p) - levT L T (loT L T p)) ≤ 9 * 1099 := Nat.mul_le_mul p4 (by omega)
  refine V_aloadn_0 dX5_runsFrom_0 ?_
  refine V_getR dX5_runsFrom_1 fl_X5_36 (oT_corked ht) ?_
  refine V_iloadn_2 dX5_runsFrom_4 ?_
  refine V_iald (j := p) dX5_runsFrom_5 (aT_corked ht) (by omega) (by decide) ?_
  refine V_topi (hH.1.k9 (by omega)) ?_
  refine V_ifN_eq (a := T 9 p) dX5_runsFrom_6 11 (by decide) (by omega) (fun h6 => ?_) (fun h6 => ?_)
  · refine V_aloadn_0 dX5_runsFrom_11 ?_
    refine V_iloadn_2 dX5_runsFrom_12 ?_
    refine V_iloadn_1 dX5_runsFrom_13 ?_
    refine V_cv2f dX5_runsFrom_14 cv_X5_120 (rcT ht) (Nat.le_of_ble_eq_true rfl) (k_T_farUp ht hH hI (by omega)) ?_
    refine V_istoren_3 dX5_runsFrom_17 (by first | exact rfl | exact True.intro) (by decide) ?_
    refine V_aloadn_0 dX5_runsFrom_18 ?_
    refine V_getR dX5_runsFrom_19 fl_X5_33 (oT_wide ht) ?_
    refine V_iloadn_2 dX5_runsFrom_22 ?_
    refine V_iald (j := p) dX5_runsFrom_23 (aT_wide ht) (by omega) (by decide) ?_
    refine V_topi (hH.1.k8 (by omega)) ?_
    refine V_aloadn_0 dX5_runsFrom_24 ?_
    refine V_iloadn_1 dX5_runsFrom_25 ?_
    refine V_cv1f dX5_runsFrom_26 cv_X5_111 (rcT ht) (Nat.le_of_ble_eq_true rfl) (k_T_levelOf ht hH hI (by omega)) ?_
    refine V_aloadn_0 dX5_runsFrom_29 ?_
    refine V_iloadn_3 dX5_runsFrom_30 ?_
    refine V_cv1f dX5_runsFrom_31 cv_X5_111 (rcT ht) (Nat.le_of_ble_eq_true rfl) (k_T_levelOf ht hH hI (by omega)) ?_
    refine V_isubN (a := levT L T (upT L T p)) (b := levT L T (loT L T p)) dX5_runsFrom_34 (by omega) ?_
    refine V_imulN (a := T 8 p) (b := (levT L T (upT L T p)) - (levT L T (loT L T p))) dX5_runsFrom_35 ?_
    refine V_iconst 2 dX5_runsFrom_36 (by decide) ?_
    refine V_idivN (a := (T 8 p) * ((levT L T (upT L T p)) - (levT L T (loT L T p)))) (b := 2) dX5_runsFrom_37 (by omega) (by omega) (by omega) ?_
    refine V_istore_4 dX5_runsFrom_38 (by first | exact rfl | exact True.intro) (by decide) ?_
    refine V_aloadn_0 dX5_runsFrom_40 ?_
    refine V_getR dX5_runsFrom_41 fl_X5_9 (oT_kind ht) ?_
    refine V_iloadn_3 dX5_runsFrom_44 ?_
    refine V_iald (j := loT L T p) dX5_runsFrom_45 (aT_kind ht) (by omega) (by decide) ?_
    refine V_topi (hH.1.k1 (by omega)) ?_
    refine V_iload_4 dX5_runsFrom_46 ?_
    refine V_aloadn_0 dX5_runsFrom_48 ?_
    refine V_iloadn_1 dX5_runsFrom_49 ?_
    refine V_cv1f dX5_runsFrom_50 cv_X5_89 (rcT ht) (Nat.le_of_ble_eq_true rfl) (k_T_fullOf ht hH.1 hI (by omega)) ?_
    refine V_mminN (a := ((T 8 p) * ((levT L T (upT L T p)) - (levT L T (loT L T p)))) / 2) (b := fullT T (upT L T p)) dX5_runsFrom_53 ml_X5_97 (Nat.le_of_ble_eq_true rfl) (by omega) (by omega) ?_
    refine V_cs2f dX5_runsFrom_56 cs_X5_123 (Nat.le_of_ble_eq_true rfl) (k_takesIn (by omega) (by omega)) ?_
    exact V_iret dX5_runsFrom_59 ⟨rN (by simp only [runsT]; rw [if_pos h6]), rfl⟩
  · refine V_iconst 0 dX5_runsFrom_9 (by decide) ?_
    exact V_iret dX5_runsFrom_10 ⟨rN (a := 0) (by simp [runsT, h6]), rfl⟩

set_option maxRecDepth 100000 in
set_option maxHeartbeats 4000000 in
theorem k_T_runs {G : vG} {σ : vS} {d : Nat} (hd : 2 ≤ d) {t : Nat} {L T : nT} (ht : Twn t) (hH : TA L t T σ) (hI : TI T) {p : Nat} (hp : p < T 0 10) : Cf G yX5_runs cX5_runs 2 (some .int) d [.ref t, .int (nI p)] σ (some (.int (nI (runsT L T p)))) σ := by
  refine Ct.ofV (by decide) (Nat.le_of_ble_eq_true rfl) rfl ?_
  show V G RX5 cX5_runs (some .int) 2 d _ 0 [some (.ref t), some (.int (nI p))] [] _
  obtain ⟨d, rfl⟩ : ∃ e, d = e + 1 := ⟨d - 1, by omega⟩
  have hn := hI.nc
  have hm := hI.np
  refine V_aloadn_0 dX5_runs_0 ?_
  refine V_aloadn_0 dX5_runs_1 ?_
  refine V_iloadn_1 dX5_runs_2 ?_
  refine V_cv1f dX5_runs_3 cv_X5_114 (rcT ht) (Nat.le_of_ble_eq_true rfl) (k_T_upperOf (by omega) ht hH hI (by omega)) ?_
  refine V_iloadn_1 dX5_runs_6 ?_
  refine V_cv2f dX5_runs_7 cv_X5_117 (rcT ht) (Nat.le_of_ble_eq_true rfl) (k_T_runsFrom (by omega) ht hH hI (by omega)) ?_
  exact V_iret dX5_runs_10 ⟨rfl, rfl⟩

theorem runsT_lt {L T : nT} {p : Nat} (hI : TI T) (hp : p < T 0 10) : runsT L T p ≤ fullT T (upT L T p) := by
  unfold runsT
  split
  · unfold takesN
    have := Nat.min_le_right (T 8 p * (levT L T (upT L T p) - levT L T (loT L T p)) / 2) (fullT T (upT L T p))
    split
    · omega
    · split <;> omega
  · omega
def runN (L T : nT) : Nat → Nat
  | 0 => 0
  | p + 1 => runN L T p + (if 0 < runsT L T p then 1 else 0)
def ckN (T : nT) : Nat → Nat
  | 0 => 0
  | p + 1 => ckN T p + T 9 p
def setI (T : nT) : Nat → Int32
  | 0 => 0
  | c + 1 => if 0 < fullT T c then setI T c ||| (1 <<< (nI c &&& 31)) else setI T c
def jnP (T : nT) (a b p : Nat) : Prop := (T 6 p = a ∧ T 7 p = b) ∨ (T 6 p = b ∧ T 7 p = a)
def jnB (T : nT) (a b : Nat) : Prop := ∃ p, p < T 0 10 ∧ jnP T a b p

set_option maxRecDepth 100000 in
set_option maxHeartbeats 4000000 in
theorem lp_T_running {G : vG} {d : Nat} {σ : vS} {t : Nat} {L T : nT} (ht : Twn t) (hH : TA L t T σ) (hI : TI T) (hd : 3 ≤ d + 1) : ∀ (k : Nat) (p : Nat), p ≤ T 0 10 → T 0 10 - p < k → V G RX5 cX5_runningPipes (some .int) 3 (d + 1) (fun r' σ' => r' = some (.int (nI (runN L T (T 0 10)))) ∧ σ' = σ) 4 [some (.ref t), some (.int (nI (runN L T p))), some (.int (nI p))] [] σ := by
  intro k
  induction k with
  | zero => intros; omega
  | succ k ih =>
    intro p hp hk
    have hn := hI.nc
    have hm := hI.np
    refine V_iloadn_2 dX5_runningPipes_4 ?_
    refine V_aloadn_0 dX5_runningPipes_5 ?_
    refine V_getI dX5_runningPipes_6 fl_X5_65 (oT_pipes ht) ?_
    refine V_topi hH.1.n10 ?_
    refine V_icmpN_ge (a := p) (b := T 0 10) dX5_runningPipes_9 34 (by decide) (by omega) (by omega) (fun h9 => ?_) (fun h9 => ?_)
    · refine V_iloadn_1 dX5_runningPipes_34 ?_
      exact V_iret dX5_runningPipes_35 ⟨rN (by rw [show p = T 0 10 by omega]), rfl⟩
    · refine V_iloadn_1 dX5_runningPipes_12 ?_
      refine V_aloadn_0 dX5_runningPipes_13 ?_
      refine V_iloadn_2 dX5_runningPipes_14 ?_
      refine V_cv1f dX5_runningPipes_15 cv_X5_126 (rcT ht) (Nat.le_of_ble_eq_true rfl) (k_T_runs (by omega) ht hH hI (by omega)) ?_
      refine V_ifN_le (a := runsT L T p) dX5_runningPipes_18 25 (by decide) (by have := runsT_lt (L := L) hI (p := p) (by omega); have := hI.full (up_ok (L := L) hI (p := p) (by omega)).1; omega) (fun h18 => ?_) (fun h18 => ?_)
      · refine V_iconst 0 dX5_runningPipes_25 (by decide) ?_
        refine V_iaddN (a := runN L T p) (b := 0) dX5_runningPipes_26 ?_
        refine V_istoren_1 dX5_runningPipes_27 (by first | exact rfl | exact True.intro) (by decide) ?_
        refine V_iinc_2 dX5_runningPipes_28 (by first | exact rfl | exact True.intro) (by decide) (nI (p + 1)) (nI_inc _) ?_
        refine V_goto dX5_runningPipes_31 4 (by decide) ?_
        refine V_lo (lo' := [some (.ref t), some (.int (nI (runN L T (p + 1)))), some (.int (nI (p + 1)))]) ?_ ?_
        · simp only [runN]
          first | rw [if_pos h18] | rw [if_neg (by omega)]
        exact ih (p + 1) (by omega) (by omega)
      · refine V_iconst 1 dX5_runningPipes_21 (by decide) ?_
        refine V_goto dX5_runningPipes_22 26 (by decide) ?_
        refine V_iaddN (a := runN L T p) (b := 1) dX5_runningPipes_26 ?_
        refine V_istoren_1 dX5_runningPipes_27 (by first | exact rfl | exact True.intro) (by decide) ?_
        refine V_iinc_2 dX5_runningPipes_28 (by first | exact rfl | exact True.intro) (by decide) (nI (p + 1)) (nI_inc _) ?_
        refine V_goto dX5_runningPipes_31 4 (by decide) ?_
        refine V_lo (lo' := [some (.ref t), some (.int (nI (runN L T (p + 1)))), some (.int (nI (p + 1)))]) ?_ ?_
        · simp only [runN]
          first | rw [if_pos h18] | rw [if_neg (by omega)]
        exact ih (p + 1) (by omega) (by omega)

set_option maxRecDepth 100000 in
set_option maxHeartbeats 4000000 in
theorem k_T_runningPipes {G : vG} {σ : vS} {d : Nat} (hd : 3 ≤ d) {t : Nat} {L T : nT} (ht : Twn t) (hH : TA L t T σ) (hI : TI T) : Cf G yX5_runningPipes cX5_runningPipes 3 (some .int) d [.ref t] σ (some (.int (nI (runN L T (T 0 10))))) σ := by
  refine Ct.ofV (by decide) (Nat.le_of_ble_eq_true rfl) rfl ?_
  show V G RX5 cX5_runningPipes (some .int) 3 d _ 0 [some (.ref t), none, none] [] _
  obtain ⟨d, rfl⟩ : ∃ e, d = e + 1 := ⟨d - 1, by omega⟩
  have hn := hI.nc
  have hm := hI.np
  refine V_iconst 0 dX5_runningPipes_0 (by decide) ?_
  refine V_istoren_1 dX5_runningPipes_1 (by first | exact rfl | exact True.intro) (by decide) ?_
  refine V_iconst 0 dX5_runningPipes_2 (by decide) ?_
  refine V_istoren_2 dX5_runningPipes_3 (by first | exact rfl | exact True.intro) (by decide) ?_
  exact lp_T_running ht hH hI (by omega) (T 0 10 + 1) 0 (by omega) (by omega)

set_option maxRecDepth 100000 in
set_option maxHeartbeats 4000000 in
theorem lp_T_corked {G : vG} {d : Nat} {σ : vS} {t : Nat} {T : nT} (ht : Twn t) (hT : TA0 t T σ) (hI : TI T) : ∀ (k : Nat) (p : Nat), p ≤ T 0 10 → T 0 10 - p < k → V G RX5 cX5_corkedPipes (some .int) 3 d (fun r' σ' => r' = some (.int (nI (ckN T (T 0 10)))) ∧ σ' = σ) 4 [some (.ref t), some (.int (nI (ckN T p))), some (.int (nI p))] [] σ := by
  intro k
  induction k with
  | zero => intros; omega
  | succ k ih =>
    intro p hp hk
    have hn := hI.nc
    have hm := hI.np
    refine V_iloadn_2 dX5_corkedPipes_4 ?_
    refine V_aloadn_0 dX5_corkedPipes_5 ?_
    refine V_getI dX5_corkedPipes_6 fl_X5_65 (oT_pipes ht) ?_
    refine V_topi hT.n10 ?_
    refine V_icmpN_ge (a := p) (b := T 0 10) dX5_corkedPipes_9 27 (by decide) (by omega) (by omega) (fun h9 => ?_) (fun h9 => ?_)
    · refine V_iloadn_1 dX5_corkedPipes_27 ?_
      exact V_iret dX5_corkedPipes_28 ⟨rN (by rw [show p = T 0 10 by omega]), rfl⟩
    · refine V_iloadn_1 dX5_corkedPipes_12 ?_
      refine V_aloadn_0 dX5_corkedPipes_13 ?_
      refine V_getR dX5_corkedPipes_14 fl_X5_36 (oT_corked ht) ?_
      refine V_iloadn_2 dX5_corkedPipes_17 ?_
      refine V_iald (j := p) dX5_corkedPipes_18 (aT_corked ht) (by omega) (by decide) ?_
      refine V_topi (hT.k9 (by omega)) ?_
      refine V_iaddN (a := ckN T p) (b := T 9 p) dX5_corkedPipes_19 ?_
      refine V_istoren_1 dX5_corkedPipes_20 (by first | exact rfl | exact True.intro) (by decide) ?_
      refine V_iinc_2 dX5_corkedPipes_21 (by first | exact rfl | exact True.intro) (by decide) (nI (p + 1)) (nI_inc _) ?_
      refine V_goto dX5_corkedPipes_24 4 (by decide) ?_
      exact ih (p + 1) (by omega) (by omega)

set_option maxRecDepth 100000 in
set_option maxHeartbeats 4000000 in
theorem k_T_corkedPipes {G : vG} {σ : vS} {d : Nat} {t : Nat} {T : nT} (ht : Twn t) (hT : TA0 t T σ) (hI : TI T) : Cf G yX5_corkedPipes cX5_corkedPipes 3 (some .int) d [.ref t] σ (some (.int (nI (ckN T (T 0 10))))) σ := by
  refine Ct.ofV (by decide) (Nat.le_of_ble_eq_true rfl) rfl ?_
  show V G RX5 cX5_corkedPipes (some .int) 3 d _ 0 [some (.ref t), none, none] [] _
  have hn := hI.nc
  have hm := hI.np
  refine V_iconst 0 dX5_corkedPipes_0 (by decide) ?_
  refine V_istoren_1 dX5_corkedPipes_1 (by first | exact rfl | exact True.intro) (by decide) ?_
  refine V_iconst 0 dX5_corkedPipes_2 (by decide) ?_
  refine V_istoren_2 dX5_corkedPipes_3 (by first | exact rfl | exact True.intro) (by decide) ?_
  exact lp_T_corked ht hT hI (T 0 10 + 1) 0 (by omega) (by omega)

set_option maxRecDepth 100000 in
set_option maxHeartbeats 4000000 in
theorem lp_T_filled {G : vG} {d : Nat} {σ : vS} {t : Nat} {T : nT} (ht : Twn t) (hT : TA0 t T σ) (hI : TI T) : ∀ (k : Nat) (c : Nat), c ≤ T 0 5 → T 0 5 - c < k → V G RX5 cX5_filledCellars (some .int) 3 (d + 1) (fun r' σ' => r' = some (.int (setI T (T 0 5))) ∧ σ' = σ) 4 [some (.ref t), some (.int (setI T c)), some (.int (nI c))] [] σ := by
  intro k
  induction k with
  | zero => intros; omega
  | succ k ih =>
    intro c hc hk
    have hn := hI.nc
    have hm := hI.np
    refine V_iloadn_2 dX5_filledCellars_4 ?_
    refine V_aloadn_0 dX5_filledCellars_5 ?_
    refine V_getI dX5_filledCellars_6 fl_X5_62 (oT_cellars ht) ?_
    refine V_topi hT.n5 ?_
    refine V_icmpN_ge (a := c) (b := T 0 5) dX5_filledCellars_9 32 (by decide) (by omega) (by omega) (fun h9 => ?_) (fun h9 => ?_)
    · refine V_iloadn_1 dX5_filledCellars_32 ?_
      exact V_iret dX5_filledCellars_33 ⟨rI (by rw [show c = T 0 5 by omega]), rfl⟩
    · refine V_aloadn_0 dX5_filledCellars_12 ?_
      refine V_iloadn_2 dX5_filledCellars_13 ?_
      refine V_cv1f dX5_filledCellars_14 cv_X5_89 (rcT ht) (Nat.le_of_ble_eq_true rfl) (k_T_fullOf ht hT hI (by omega)) ?_
      refine V_ifN_le (a := fullT T c) dX5_filledCellars_17 26 (by decide) (by have := hI.full (c := c) (by omega); omega) (fun h17 => ?_) (fun h17 => ?_)
      · refine V_iinc_2 dX5_filledCellars_26 (by first | exact rfl | exact True.intro) (by decide) (nI (c + 1)) (nI_inc _) ?_
        refine V_goto dX5_filledCellars_29 4 (by decide) ?_
        refine V_lo (lo' := [some (.ref t), some (.int (setI T (c + 1))), some (.int (nI (c + 1)))]) ?_ ?_
        · simp only [setI]
          first | rw [if_pos h17] | rw [if_neg (by omega)]
        exact ih (c + 1) (by omega) (by omega)
      · refine V_iloadn_1 dX5_filledCellars_20 ?_
        refine V_iconst 1 dX5_filledCellars_21 (by decide) ?_
        refine V_iloadn_2 dX5_filledCellars_22 ?_
        refine V_ishl dX5_filledCellars_23 ?_
        refine V_ior dX5_filledCellars_24 ?_
        refine V_istoren_1 dX5_filledCellars_25 (by first | exact rfl | exact True.intro) (by decide) ?_
        refine V_iinc_2 dX5_filledCellars_26 (by first | exact rfl | exact True.intro) (by decide) (nI (c + 1)) (nI_inc _) ?_
        refine V_goto dX5_filledCellars_29 4 (by decide) ?_
        refine V_lo (lo' := [some (.ref t), some (.int (setI T (c + 1))), some (.int (nI (c + 1)))]) ?_ ?_
        · simp only [setI]
          first | rw [if_pos h17] | rw [if_neg (by omega)]
        exact ih (c + 1) (by omega) (by omega)

set_option maxRecDepth 100000 in
set_option maxHeartbeats 4000000 in
theorem k_T_filledCellars {G : vG} {σ : vS} {d : Nat} (hd : 1 ≤ d) {t : Nat} {T : nT} (ht : Twn t) (hT : TA0 t T σ) (hI : TI T) : Cf G yX5_filledCellars cX5_filledCellars 3 (some .int) d [.ref t] σ (some (.int (setI T (T 0 5)))) σ := by
  refine Ct.ofV (by decide) (Nat.le_of_ble_eq_true rfl) rfl ?_
  show V G RX5 cX5_filledCellars (some .int) 3 d _ 0 [some (.ref t), none, none] [] _
  obtain ⟨d, rfl⟩ : ∃ e, d = e + 1 := ⟨d - 1, by omega⟩
  have hn := hI.nc
  have hm := hI.np
  refine V_iconst 0 dX5_filledCellars_0 (by decide) ?_
  refine V_istoren_1 dX5_filledCellars_1 (by first | exact rfl | exact True.intro) (by decide) ?_
  refine V_iconst 0 dX5_filledCellars_2 (by decide) ?_
  refine V_istoren_2 dX5_filledCellars_3 (by first | exact rfl | exact True.intro) (by decide) ?_
  exact lp_T_filled ht hT hI (T 0 5 + 1) 0 (by omega) (by omega)
