/-! ===== texts ===== -/
section VI2
variable {G : vG} {own : String} {cc : ByteArray} {ret : Option FieldType} {nL d pc : Nat} {Q : Option Value → vS → Prop} {lo : List (Option Value)} {st : List Value} {σ : vS}
theorem V_i2b {x : Int32} (hd : decode cc pc = .ok (.i2b, 1)) (k : V G own cc ret nL d Q (pc + 1) lo (.int x.toInt8.toInt32 :: st) σ) : V G own cc ret nL d Q pc lo (.int x :: st) σ := by
  intro p e s m args below meth c H locs ls hA hP hS hL
  obtain ⟨hx, hb, -⟩ := id hA
  exact lv_i2b hx hb hd rfl (k p e s m args below meth c H locs ls hA hP hS hL)
end VI2
theorem wJ_38 : Cond.fieldLink RJ0 38 "java/lang/String" "COMPACT_STRINGS" "Z" ∈ WD := wd 636 (by decide +kernel) (by decide +kernel)
theorem wJ_1053 : Cond.fieldLink RJ0 1053 "jdk/internal/util/Preconditions" "SIOOBE_FORMATTER" "Ljava/util/function/BiFunction;" ∈ WD := wd 652 (by decide +kernel) (by decide +kernel)
theorem wJ_9 : Cond.fieldLink RJ0 9 "java/lang/String" "value" "[B" ∈ WD := wd 1372 (by decide +kernel) (by decide +kernel)
theorem wJ_15 : Cond.fieldLink RJ0 15 "java/lang/String" "coder" "B" ∈ WD := wd 1373 (by decide +kernel) (by decide +kernel)

theorem ml_J1_92 : Cond.methodLink RJ1 92 Lib.Math.max.name ∈ WD := wd 723 (by decide +kernel) (by decide +kernel)
theorem ml_J1_38 : Cond.methodLink RJ1 38 Lib.Math.min.name ∈ WD := wd 724 (by decide +kernel) (by decide +kernel)
def tbI (j i : Nat) : Int32 := (txB.getD j []).getD i 0
theorem tx_c : ∀ j, j < 6 → ∀ i, i < txL.getD j 0 → ((tbI j i &&& 255).toUInt32 % 65536).toInt32 = tbI j i ∧ narrow .char (.int (tbI j i)) = .int (tbI j i) := by decide
theorem tx_l : ∀ j, j < 6 → txL.getD j 0 ≤ 4 := by decide

set_option maxRecDepth 100000 in
set_option maxHeartbeats 4000000 in
theorem k_J_coder {G : vG} {σ : vS} {d : Nat} {j : Nat} (hj : j < 6) : Cf G yJ0_coder_7d493 cJ0_coder_7d493 1 (some .byte) d [.ref (1001 + j)] σ (some (.int 0)) σ := by
  refine Ct.ofV (by decide) (Nat.le_of_ble_eq_true rfl) rfl ?_
  show V G RJ0 cJ0_coder_7d493 (some .byte) 1 d _ 0 [some (.ref (1001 + j))] [] _
  refine V_getsC dJ0_coder_7d493_0 wJ_38 ?_
  refine V_if_eq_f dJ0_coder_7d493_3 13 (by decide) (by decide) ?_
  refine V_aloadn_0 dJ0_coder_7d493_6 ?_
  refine V_getSc dJ0_coder_7d493_7 wJ_15 hj ?_
  refine V_goto dJ0_coder_7d493_10 14 (by decide) ?_
  exact V_zret dJ0_coder_7d493_14 (by decide) ⟨rfl, rfl⟩

set_option maxRecDepth 100000 in
set_option maxHeartbeats 4000000 in
theorem k_J_isLatin1 {G : vG} {σ : vS} {d : Nat} {j : Nat} (hj : j < 6) : Cf G yJ0_isLatin1_aae02 cJ0_isLatin1_aae02 1 (some .boolean) d [.ref (1001 + j)] σ (some (.int 1)) σ := by
  refine Ct.ofV (by decide) (Nat.le_of_ble_eq_true rfl) rfl ?_
  show V G RJ0 cJ0_isLatin1_aae02 (some .boolean) 1 d _ 0 [some (.ref (1001 + j))] [] _
  refine V_getsC dJ0_isLatin1_aae02_0 wJ_38 ?_
  refine V_if_eq_f dJ0_isLatin1_aae02_3 17 (by decide) (by decide) ?_
  refine V_aloadn_0 dJ0_isLatin1_aae02_6 ?_
  refine V_getSc dJ0_isLatin1_aae02_7 wJ_15 hj ?_
  refine V_if_ne_f dJ0_isLatin1_aae02_10 17 (by decide) (by decide) ?_
  refine V_iconst 1 dJ0_isLatin1_aae02_13 (by decide) ?_
  refine V_goto dJ0_isLatin1_aae02_14 18 (by decide) ?_
  exact V_zret dJ0_isLatin1_aae02_18 (by decide) ⟨rfl, rfl⟩

set_option maxRecDepth 100000 in
set_option maxHeartbeats 4000000 in
theorem k_J_length {G : vG} {σ : vS} {d : Nat} (hd : 1 ≤ d) {j : Nat} (hj : j < 6) : Cf G yJ0_length_8abf5 cJ0_length_8abf5 1 (some .int) d [.ref (1001 + j)] σ (some (.int (nI (txL.getD j 0)))) σ := by
  refine Ct.ofV (by decide) (Nat.le_of_ble_eq_true rfl) rfl ?_
  show V G RJ0 cJ0_length_8abf5 (some .int) 1 d _ 0 [some (.ref (1001 + j))] [] _
  obtain ⟨d, rfl⟩ : ∃ e, d = e + 1 := ⟨d - 1, by omega⟩
  refine V_aloadn_0 dJ0_length_8abf5_0 ?_
  refine V_getSv dJ0_length_8abf5_1 wJ_9 hj ?_
  refine V_slen dJ0_length_8abf5_4 hj ?_
  refine V_aloadn_0 dJ0_length_8abf5_5 ?_
  refine V_cv0f dJ0_length_8abf5_6 cv_J0_335 (rcX hj) (Nat.le_of_ble_eq_true rfl) (k_J_coder hj) ?_
  refine V_ishr dJ0_length_8abf5_9 ?_
  exact V_iret dJ0_length_8abf5_10 ⟨rI (sb_shr0 _), rfl⟩

set_option maxRecDepth 100000 in
set_option maxHeartbeats 4000000 in
theorem k_J3_check {G : vG} {σ : vS} {d : Nat} {i n : Nat} {v : Value} (hv : v.category = 1) (hi : i < n) (hn : n < 2 ^ 31) : Cf G yJ3_checkIndex_8e157 cJ3_checkIndex_8e157 3 (some .int) d [.int (nI i), .int (nI n), v] σ (some (.int (nI i))) σ := by
  refine Ct.ofV (by decide) (Nat.le_of_ble_eq_true rfl) (by simp [hv]; exact ⟨rfl, rfl⟩) ?_
  show V G RJ3 cJ3_checkIndex_8e157 (some .int) 3 d _ 0 [some (.int (nI i)), some (.int (nI n)), some v] [] _
  refine V_iloadn_0 dJ3_checkIndex_8e157_0 ?_
  refine V_ifN_lt (a := i) dJ3_checkIndex_8e157_1 9 (by decide) (by omega) ?_
  refine V_iloadn_0 dJ3_checkIndex_8e157_4 ?_
  refine V_iloadn_1 dJ3_checkIndex_8e157_5 ?_
  refine V_icmpN_lt (a := i) (b := n) dJ3_checkIndex_8e157_6 16 (by decide) (by omega) (by omega) (fun h6 => ?_) (fun h6 => ?_)
  · refine V_iloadn_0 dJ3_checkIndex_8e157_16 ?_
    exact V_iret dJ3_checkIndex_8e157_17 ⟨rfl, rfl⟩
  · exfalso; omega

set_option maxRecDepth 100000 in
set_option maxHeartbeats 4000000 in
theorem k_J0_check {G : vG} {σ : vS} {d : Nat} (hd : 1 ≤ d) {i n : Nat} (hi : i < n) (hn : n < 2 ^ 31) : Cf G yJ0_checkIndex_df160 cJ0_checkIndex_df160 2 none d [.int (nI i), .int (nI n)] σ none σ := by
  refine Ct.ofV (by decide) (Nat.le_of_ble_eq_true rfl) rfl ?_
  show V G RJ0 cJ0_checkIndex_df160 none 2 d _ 0 [some (.int (nI i)), some (.int (nI n))] [] _
  obtain ⟨d, rfl⟩ : ∃ e, d = e + 1 := ⟨d - 1, by omega⟩
  refine V_iloadn_0 dJ0_checkIndex_df160_0 ?_
  refine V_iloadn_1 dJ0_checkIndex_df160_1 ?_
  refine V_getsF dJ0_checkIndex_df160_2 wJ_1053 (fun v hv => ?_)
  refine V_cs3f dJ0_checkIndex_df160_5 cs_J0_1059 (Nat.le_of_ble_eq_true rfl) (k_J3_check hv hi hn) ?_
  refine V_pop dJ0_checkIndex_df160_8 rfl ?_
  exact V_vret dJ0_checkIndex_df160_9 ⟨rfl, rfl⟩

set_option maxRecDepth 100000 in
set_option maxHeartbeats 4000000 in
theorem k_J1_charAt {G : vG} {σ : vS} {d : Nat} (hd : 2 ≤ d) {j : Nat} (hj : j < 6) {i : Nat} (hi : i < txL.getD j 0) : Cf G yJ1_charAt_3b067 cJ1_charAt_3b067 2 (some .char) d [.ref (1011 + j), .int (nI i)] σ (some (.int (tbI j i))) σ := by
  refine Ct.ofV (by decide) (Nat.le_of_ble_eq_true rfl) rfl ?_
  show V G RJ1 cJ1_charAt_3b067 (some .char) 2 d _ 0 [some (.ref (1011 + j)), some (.int (nI i))] [] _
  obtain ⟨d, rfl⟩ : ∃ e, d = e + 1 := ⟨d - 1, by omega⟩
  have hl := tx_l j hj
  have hc := tx_c j hj i hi
  refine V_iloadn_1 dJ1_charAt_3b067_0 ?_
  refine V_aloadn_0 dJ1_charAt_3b067_1 ?_
  refine V_slen dJ1_charAt_3b067_2 hj ?_
  refine V_cs2v dJ1_charAt_3b067_3 cs_J1_9 (Nat.le_of_ble_eq_true rfl) (k_J0_check (by omega) hi (by omega)) ?_
  refine V_aloadn_0 dJ1_charAt_3b067_6 ?_
  refine V_iloadn_1 dJ1_charAt_3b067_7 ?_
  refine V_bald dJ1_charAt_3b067_8 hj hi (by omega) (by omega) ?_
  refine V_sipush 255 dJ1_charAt_3b067_9 (by decide) ?_
  refine V_iand dJ1_charAt_3b067_12 ?_
  refine V_i2c dJ1_charAt_3b067_13 ?_
  refine V_topi (y := tbI j i) hc.1 ?_
  exact V_zret dJ1_charAt_3b067_14 hc.2 ⟨rfl, rfl⟩

set_option maxRecDepth 100000 in
set_option maxHeartbeats 4000000 in
theorem k_J_charAt {G : vG} {σ : vS} {d : Nat} (hd : 4 ≤ d) {j : Nat} (hj : j < 6) {i : Nat} (hi : i < txL.getD j 0) : Cf G yJ0_charAt_5068e cJ0_charAt_5068e 2 (some .char) d [.ref (1001 + j), .int (nI i)] σ (some (.int (tbI j i))) σ := by
  refine Ct.ofV (by decide) (Nat.le_of_ble_eq_true rfl) rfl ?_
  show V G RJ0 cJ0_charAt_5068e (some .char) 2 d _ 0 [some (.ref (1001 + j)), some (.int (nI i))] [] _
  obtain ⟨d, rfl⟩ : ∃ e, d = e + 1 := ⟨d - 1, by omega⟩
  have hc := tx_c j hj i hi
  refine V_aloadn_0 dJ0_charAt_5068e_0 ?_
  refine V_cv0f dJ0_charAt_5068e_1 cv_J0_492 (rcX hj) (Nat.le_of_ble_eq_true rfl) (k_J_isLatin1 hj) ?_
  refine V_if_eq_f dJ0_charAt_5068e_4 16 (by decide) (by decide) ?_
  refine V_aloadn_0 dJ0_charAt_5068e_7 ?_
  refine V_getSv dJ0_charAt_5068e_8 wJ_9 hj ?_
  refine V_iloadn_1 dJ0_charAt_5068e_11 ?_
  refine V_cs2f dJ0_charAt_5068e_12 cs_J0_495 (Nat.le_of_ble_eq_true rfl) (k_J1_charAt (by omega) hj hi) ?_
  exact V_zret dJ0_charAt_5068e_15 hc.2 ⟨rfl, rfl⟩

theorem b8 : ∀ b, b < 128 → (nI b).toInt8.toInt32 = nI b := by decide +kernel

theorem nm_0 {b : Nat} : nmN 0 b = if b = 102 then 1 else if b = 108 then 2 else if b = 119 then 3 else 0 := rfl
set_option maxRecDepth 100000 in
set_option maxHeartbeats 4000000 in
theorem k_J1_ioc_0 {G : vG} {σ : vS} {d : Nat} {b : Nat} (hb : 97 ≤ b ∧ b ≤ 122) : Cf G yJ1_indexOfChar_4cfef cJ1_indexOfChar_4cfef 6 (some .int) d [.ref (1011 + 3), .int (nI b), .int 0, .int 3] σ (some (.int (lwI (nmN 0 b)))) σ := by
  refine Ct.ofV (by decide) (Nat.le_of_ble_eq_true rfl) rfl ?_
  show V G RJ1 cJ1_indexOfChar_4cfef (some .int) 6 d _ 0 [some (.ref (1011 + 3)), some (.int (nI b)), some (.int 0), some (.int 3), none, none] [] _
  refine V_iloadn_1 dJ1_indexOfChar_4cfef_0 ?_
  refine V_i2b dJ1_indexOfChar_4cfef_1 ?_
  refine V_topi (b8 b (by omega)) ?_
  refine V_istore_4 dJ1_indexOfChar_4cfef_2 (by first | exact rfl | exact True.intro) (by decide) ?_
  refine V_iloadn_2 dJ1_indexOfChar_4cfef_4 ?_
  refine V_istore_5 dJ1_indexOfChar_4cfef_5 (by first | exact rfl | exact True.intro) (by decide) ?_
  refine V_iload_5 dJ1_indexOfChar_4cfef_7 ?_
  refine V_iloadn_3 dJ1_indexOfChar_4cfef_9 ?_
  refine V_icmp_ge_f dJ1_indexOfChar_4cfef_10 31 (by decide) (by decide) ?_
  refine V_aloadn_0 dJ1_indexOfChar_4cfef_13 ?_
  refine V_iload_5 dJ1_indexOfChar_4cfef_14 ?_
  refine V_bald (j := 3) (i := 0) dJ1_indexOfChar_4cfef_16 (by decide) (by decide) (by decide) (by decide) ?_
  refine V_topi (y := 102) (by decide) ?_
  refine V_iload_4 dJ1_indexOfChar_4cfef_17 ?_
  refine V_icmpN_ne (a := 102) (b := b) dJ1_indexOfChar_4cfef_19 25 (by decide) (by omega) (by omega) (fun h19 => ?_) (fun h19 => ?_)
  · refine V_iinc_5 dJ1_indexOfChar_4cfef_25 (by first | exact rfl | exact True.intro) (by decide) 1 (by decide) ?_
    refine V_goto dJ1_indexOfChar_4cfef_28 7 (by decide) ?_
    refine V_iload_5 dJ1_indexOfChar_4cfef_7 ?_
    refine V_iloadn_3 dJ1_indexOfChar_4cfef_9 ?_
    refine V_icmp_ge_f dJ1_indexOfChar_4cfef_10 31 (by decide) (by decide) ?_
    refine V_aloadn_0 dJ1_indexOfChar_4cfef_13 ?_
    refine V_iload_5 dJ1_indexOfChar_4cfef_14 ?_
    refine V_bald (j := 3) (i := 1) dJ1_indexOfChar_4cfef_16 (by decide) (by decide) (by decide) (by decide) ?_
    refine V_topi (y := 108) (by decide) ?_
    refine V_iload_4 dJ1_indexOfChar_4cfef_17 ?_
    refine V_icmpN_ne (a := 108) (b := b) dJ1_indexOfChar_4cfef_19 25 (by decide) (by omega) (by omega) (fun h19 => ?_) (fun h19 => ?_)
    · refine V_iinc_5 dJ1_indexOfChar_4cfef_25 (by first | exact rfl | exact True.intro) (by decide) 2 (by decide) ?_
      refine V_goto dJ1_indexOfChar_4cfef_28 7 (by decide) ?_
      refine V_iload_5 dJ1_indexOfChar_4cfef_7 ?_
      refine V_iloadn_3 dJ1_indexOfChar_4cfef_9 ?_
      refine V_icmp_ge_f dJ1_indexOfChar_4cfef_10 31 (by decide) (by decide) ?_
      refine V_aloadn_0 dJ1_indexOfChar_4cfef_13 ?_
      refine V_iload_5 dJ1_indexOfChar_4cfef_14 ?_
      refine V_bald (j := 3) (i := 2) dJ1_indexOfChar_4cfef_16 (by decide) (by decide) (by decide) (by decide) ?_
      refine V_topi (y := 119) (by decide) ?_
      refine V_iload_4 dJ1_indexOfChar_4cfef_17 ?_
      refine V_icmpN_ne (a := 119) (b := b) dJ1_indexOfChar_4cfef_19 25 (by decide) (by omega) (by omega) (fun h19 => ?_) (fun h19 => ?_)
      · refine V_iinc_5 dJ1_indexOfChar_4cfef_25 (by first | exact rfl | exact True.intro) (by decide) 3 (by decide) ?_
        refine V_goto dJ1_indexOfChar_4cfef_28 7 (by decide) ?_
        refine V_iload_5 dJ1_indexOfChar_4cfef_7 ?_
        refine V_iloadn_3 dJ1_indexOfChar_4cfef_9 ?_
        refine V_icmp_ge_t dJ1_indexOfChar_4cfef_10 31 (by decide) (by decide) ?_
        refine V_iconst (-1) dJ1_indexOfChar_4cfef_31 (by decide) ?_
        exact V_iret dJ1_indexOfChar_4cfef_32 ⟨rI (by rw [nm_0, if_neg (by omega), if_neg (by omega), if_neg (by omega)]; rfl), rfl⟩
      · refine V_iload_5 dJ1_indexOfChar_4cfef_22 ?_
        exact V_iret dJ1_indexOfChar_4cfef_24 ⟨rI (by rw [nm_0, if_neg (by omega), if_neg (by omega), if_pos (by omega)]; rfl), rfl⟩
    · refine V_iload_5 dJ1_indexOfChar_4cfef_22 ?_
      exact V_iret dJ1_indexOfChar_4cfef_24 ⟨rI (by rw [nm_0, if_neg (by omega), if_pos (by omega)]; rfl), rfl⟩
  · refine V_iload_5 dJ1_indexOfChar_4cfef_22 ?_
    exact V_iret dJ1_indexOfChar_4cfef_24 ⟨rI (by rw [nm_0, if_pos (by omega)]; rfl), rfl⟩

set_option maxRecDepth 100000 in
set_option maxHeartbeats 4000000 in
theorem k_J1_can {G : vG} {σ : vS} {d : Nat} {b : Nat} (hb : 97 ≤ b ∧ b ≤ 122) : Cf G yJ1_canEncode_9a6ad cJ1_canEncode_9a6ad 1 (some .boolean) d [.int (nI b)] σ (some (.int 1)) σ := by
  refine Ct.ofV (by decide) (Nat.le_of_ble_eq_true rfl) rfl ?_
  show V G RJ1 cJ1_canEncode_9a6ad (some .boolean) 1 d _ 0 [some (.int (nI b))] [] _
  refine V_iloadn_0 dJ1_canEncode_9a6ad_0 ?_
  refine V_ifN_lt (a := b) dJ1_canEncode_9a6ad_1 15 (by decide) (by omega) ?_
  refine V_iloadn_0 dJ1_canEncode_9a6ad_4 ?_
  refine V_sipush 255 dJ1_canEncode_9a6ad_5 (by decide) ?_
  refine V_icmpN_gt (a := b) (b := 255) dJ1_canEncode_9a6ad_8 15 (by decide) (by omega) (by omega) (fun h8 => ?_) (fun h8 => ?_)
  · exfalso; omega
  · refine V_iconst 1 dJ1_canEncode_9a6ad_11 (by decide) ?_
    refine V_goto dJ1_canEncode_9a6ad_12 16 (by decide) ?_
    exact V_zret dJ1_canEncode_9a6ad_16 (by decide) ⟨rfl, rfl⟩

set_option maxRecDepth 100000 in
set_option maxHeartbeats 4000000 in
theorem k_J1_io_0 {G : vG} {σ : vS} {d : Nat} (hd : 1 ≤ d) {b : Nat} (hb : 97 ≤ b ∧ b ≤ 122) : Cf G yJ1_indexOf_4cfef cJ1_indexOf_4cfef 4 (some .int) d [.ref (1011 + 3), .int (nI b), .int 0, .int 3] σ (some (.int (lwI (nmN 0 b)))) σ := by
  refine Ct.ofV (by decide) (Nat.le_of_ble_eq_true rfl) rfl ?_
  show V G RJ1 cJ1_indexOf_4cfef (some .int) 4 d _ 0 [some (.ref (1011 + 3)), some (.int (nI b)), some (.int 0), some (.int 3)] [] _
  obtain ⟨d, rfl⟩ : ∃ e, d = e + 1 := ⟨d - 1, by omega⟩
  refine V_iloadn_1 dJ1_indexOf_4cfef_0 ?_
  refine V_cs1f dJ1_indexOf_4cfef_1 cs_J1_88 (Nat.le_of_ble_eq_true rfl) (k_J1_can hb) ?_
  refine V_if_ne_t dJ1_indexOf_4cfef_4 9 (by decide) (by decide) ?_
  refine V_iloadn_2 dJ1_indexOf_4cfef_9 ?_
  refine V_iconst 0 dJ1_indexOf_4cfef_10 (by decide) ?_
  refine V_mmax dJ1_indexOf_4cfef_11 ml_J1_92 (Nat.le_of_ble_eq_true rfl) ?_
  refine V_topi (y := 0) (by decide) ?_
  refine V_istoren_2 dJ1_indexOf_4cfef_14 (by first | exact rfl | exact True.intro) (by decide) ?_
  refine V_iloadn_3 dJ1_indexOf_4cfef_15 ?_
  refine V_aloadn_0 dJ1_indexOf_4cfef_16 ?_
  refine V_slen (j := 3) dJ1_indexOf_4cfef_17 (by decide) ?_
  refine V_topi (y := 3) (by decide) ?_
  refine V_mmin dJ1_indexOf_4cfef_18 ml_J1_38 (Nat.le_of_ble_eq_true rfl) ?_
  refine V_topi (y := 3) (by decide) ?_
  refine V_istoren_3 dJ1_indexOf_4cfef_21 (by first | exact rfl | exact True.intro) (by decide) ?_
  refine V_iloadn_2 dJ1_indexOf_4cfef_22 ?_
  refine V_iloadn_3 dJ1_indexOf_4cfef_23 ?_
  refine V_icmp_lt_t dJ1_indexOf_4cfef_24 29 (by decide) (by decide) ?_
  refine V_aloadn_0 dJ1_indexOf_4cfef_29 ?_
  refine V_iloadn_1 dJ1_indexOf_4cfef_30 ?_
  refine V_iloadn_2 dJ1_indexOf_4cfef_31 ?_
  refine V_iloadn_3 dJ1_indexOf_4cfef_32 ?_
  refine V_cs4f dJ1_indexOf_4cfef_33 cs_J1_95 (Nat.le_of_ble_eq_true rfl) (k_J1_ioc_0 hb) ?_
  exact V_iret dJ1_indexOf_4cfef_36 ⟨rfl, rfl⟩

set_option maxRecDepth 100000 in
set_option maxHeartbeats 4000000 in
theorem k_J_io2_0 {G : vG} {σ : vS} {d : Nat} (hd : 5 ≤ d) {b : Nat} (hb : 97 ≤ b ∧ b ≤ 122) : Cf G yJ0_indexOf_7cf53 cJ0_indexOf_7cf53 3 (some .int) d [.ref (1001 + 3), .int (nI b), .int 0] σ (some (.int (lwI (nmN 0 b)))) σ := by
  refine Ct.ofV (by decide) (Nat.le_of_ble_eq_true rfl) rfl ?_
  show V G RJ0 cJ0_indexOf_7cf53 (some .int) 3 d _ 0 [some (.ref (1001 + 3)), some (.int (nI b)), some (.int 0)] [] _
  obtain ⟨d, rfl⟩ : ∃ e, d = e + 1 := ⟨d - 1, by omega⟩
  refine V_aloadn_0 dJ0_indexOf_7cf53_0 ?_
  refine V_cv0f dJ0_indexOf_7cf53_1 cv_J0_492 (rcX (j := 3) (by decide)) (Nat.le_of_ble_eq_true rfl) (k_J_isLatin1 (j := 3) (by decide)) ?_
  refine V_if_eq_f dJ0_indexOf_7cf53_4 23 (by decide) (by decide) ?_
  refine V_aloadn_0 dJ0_indexOf_7cf53_7 ?_
  refine V_getSv (j := 3) dJ0_indexOf_7cf53_8 wJ_9 (by decide) ?_
  refine V_iloadn_1 dJ0_indexOf_7cf53_11 ?_
  refine V_iloadn_2 dJ0_indexOf_7cf53_12 ?_
  refine V_aloadn_0 dJ0_indexOf_7cf53_13 ?_
  refine V_cv0f dJ0_indexOf_7cf53_14 cv_J0_505 (rcX (j := 3) (by decide)) (Nat.le_of_ble_eq_true rfl) (k_J_length (j := 3) (by omega) (by decide)) ?_
  refine V_topi (y := 3) (by decide) ?_
  refine V_cs4f dJ0_indexOf_7cf53_17 cs_J0_637 (Nat.le_of_ble_eq_true rfl) (k_J1_io_0 (by omega) hb) ?_
  refine V_goto dJ0_indexOf_7cf53_20 36 (by decide) ?_
  exact V_iret dJ0_indexOf_7cf53_36 ⟨rfl, rfl⟩

set_option maxRecDepth 100000 in
set_option maxHeartbeats 4000000 in
theorem k_J_io_0 {G : vG} {σ : vS} {d : Nat} (hd : 6 ≤ d) {b : Nat} (hb : 97 ≤ b ∧ b ≤ 122) : Cf G yJ0_indexOf_0f7a4 cJ0_indexOf_0f7a4 2 (some .int) d [.ref (1001 + 3), .int (nI b)] σ (some (.int (lwI (nmN 0 b)))) σ := by
  refine Ct.ofV (by decide) (Nat.le_of_ble_eq_true rfl) rfl ?_
  show V G RJ0 cJ0_indexOf_0f7a4 (some .int) 2 d _ 0 [some (.ref (1001 + 3)), some (.int (nI b))] [] _
  obtain ⟨d, rfl⟩ : ∃ e, d = e + 1 := ⟨d - 1, by omega⟩
  refine V_aloadn_0 dJ0_indexOf_0f7a4_0 ?_
  refine V_iloadn_1 dJ0_indexOf_0f7a4_1 ?_
  refine V_iconst 0 dJ0_indexOf_0f7a4_2 (by decide) ?_
  refine V_cv2f dJ0_indexOf_0f7a4_3 cv_J0_633 (rcX (j := 3) (by decide)) (Nat.le_of_ble_eq_true rfl) (k_J_io2_0 (by omega) hb) ?_
  exact V_iret dJ0_indexOf_0f7a4_6 ⟨rfl, rfl⟩

theorem nm_1 {b : Nat} : nmN 1 b = if b = 115 then 1 else if b = 104 then 2 else 0 := rfl
set_option maxRecDepth 100000 in
set_option maxHeartbeats 4000000 in
theorem k_J1_ioc_1 {G : vG} {σ : vS} {d : Nat} {b : Nat} (hb : 97 ≤ b ∧ b ≤ 122) : Cf G yJ1_indexOfChar_4cfef cJ1_indexOfChar_4cfef 6 (some .int) d [.ref (1011 + 4), .int (nI b), .int 0, .int 2] σ (some (.int (lwI (nmN 1 b)))) σ := by
  refine Ct.ofV (by decide) (Nat.le_of_ble_eq_true rfl) rfl ?_
  show V G RJ1 cJ1_indexOfChar_4cfef (some .int) 6 d _ 0 [some (.ref (1011 + 4)), some (.int (nI b)), some (.int 0), some (.int 2), none, none] [] _
  refine V_iloadn_1 dJ1_indexOfChar_4cfef_0 ?_
  refine V_i2b dJ1_indexOfChar_4cfef_1 ?_
  refine V_topi (b8 b (by omega)) ?_
  refine V_istore_4 dJ1_indexOfChar_4cfef_2 (by first | exact rfl | exact True.intro) (by decide) ?_
  refine V_iloadn_2 dJ1_indexOfChar_4cfef_4 ?_
  refine V_istore_5 dJ1_indexOfChar_4cfef_5 (by first | exact rfl | exact True.intro) (by decide) ?_
  refine V_iload_5 dJ1_indexOfChar_4cfef_7 ?_
  refine V_iloadn_3 dJ1_indexOfChar_4cfef_9 ?_
  refine V_icmp_ge_f dJ1_indexOfChar_4cfef_10 31 (by decide) (by decide) ?_
  refine V_aloadn_0 dJ1_indexOfChar_4cfef_13 ?_
  refine V_iload_5 dJ1_indexOfChar_4cfef_14 ?_
  refine V_bald (j := 4) (i := 0) dJ1_indexOfChar_4cfef_16 (by decide) (by decide) (by decide) (by decide) ?_
  refine V_topi (y := 115) (by decide) ?_
  refine V_iload_4 dJ1_indexOfChar_4cfef_17 ?_
  refine V_icmpN_ne (a := 115) (b := b) dJ1_indexOfChar_4cfef_19 25 (by decide) (by omega) (by omega) (fun h19 => ?_) (fun h19 => ?_)
  · refine V_iinc_5 dJ1_indexOfChar_4cfef_25 (by first | exact rfl | exact True.intro) (by decide) 1 (by decide) ?_
    refine V_goto dJ1_indexOfChar_4cfef_28 7 (by decide) ?_
    refine V_iload_5 dJ1_indexOfChar_4cfef_7 ?_
    refine V_iloadn_3 dJ1_indexOfChar_4cfef_9 ?_
    refine V_icmp_ge_f dJ1_indexOfChar_4cfef_10 31 (by decide) (by decide) ?_
    refine V_aloadn_0 dJ1_indexOfChar_4cfef_13 ?_
    refine V_iload_5 dJ1_indexOfChar_4cfef_14 ?_
    refine V_bald (j := 4) (i := 1) dJ1_indexOfChar_4cfef_16 (by decide) (by decide) (by decide) (by decide) ?_
    refine V_topi (y := 104) (by decide) ?_
    refine V_iload_4 dJ1_indexOfChar_4cfef_17 ?_
    refine V_icmpN_ne (a := 104) (b := b) dJ1_indexOfChar_4cfef_19 25 (by decide) (by omega) (by omega) (fun h19 => ?_) (fun h19 => ?_)
    · refine V_iinc_5 dJ1_indexOfChar_4cfef_25 (by first | exact rfl | exact True.intro) (by decide) 2 (by decide) ?_
      refine V_goto dJ1_indexOfChar_4cfef_28 7 (by decide) ?_
      refine V_iload_5 dJ1_indexOfChar_4cfef_7 ?_
      refine V_iloadn_3 dJ1_indexOfChar_4cfef_9 ?_
      refine V_icmp_ge_t dJ1_indexOfChar_4cfef_10 31 (by decide) (by decide) ?_
      refine V_iconst (-1) dJ1_indexOfChar_4cfef_31 (by decide) ?_
      exact V_iret dJ1_indexOfChar_4cfef_32 ⟨rI (by rw [nm_1, if_neg (by omega), if_neg (by omega)]; rfl), rfl⟩
    · refine V_iload_5 dJ1_indexOfChar_4cfef_22 ?_
      exact V_iret dJ1_indexOfChar_4cfef_24 ⟨rI (by rw [nm_1, if_neg (by omega), if_pos (by omega)]; rfl), rfl⟩
  · refine V_iload_5 dJ1_indexOfChar_4cfef_22 ?_
    exact V_iret dJ1_indexOfChar_4cfef_24 ⟨rI (by rw [nm_1, if_pos (by omega)]; rfl), rfl⟩

set_option maxRecDepth 100000 in
set_option maxHeartbeats 4000000 in
theorem k_J1_io_1 {G : vG} {σ : vS} {d : Nat} (hd : 1 ≤ d) {b : Nat} (hb : 97 ≤ b ∧ b ≤ 122) : Cf G yJ1_indexOf_4cfef cJ1_indexOf_4cfef 4 (some .int) d [.ref (1011 + 4), .int (nI b), .int 0, .int 2] σ (some (.int (lwI (nmN 1 b)))) σ := by
  refine Ct.ofV (by decide) (Nat.le_of_ble_eq_true rfl) rfl ?_
  show V G RJ1 cJ1_indexOf_4cfef (some .int) 4 d _ 0 [some (.ref (1011 + 4)), some (.int (nI b)), some (.int 0), some (.int 2)] [] _
  obtain ⟨d, rfl⟩ : ∃ e, d = e + 1 := ⟨d - 1, by omega⟩
  refine V_iloadn_1 dJ1_indexOf_4cfef_0 ?_
  refine V_cs1f dJ1_indexOf_4cfef_1 cs_J1_88 (Nat.le_of_ble_eq_true rfl) (k_J1_can hb) ?_
  refine V_if_ne_t dJ1_indexOf_4cfef_4 9 (by decide) (by decide) ?_
  refine V_iloadn_2 dJ1_indexOf_4cfef_9 ?_
  refine V_iconst 0 dJ1_indexOf_4cfef_10 (by decide) ?_
  refine V_mmax dJ1_indexOf_4cfef_11 ml_J1_92 (Nat.le_of_ble_eq_true rfl) ?_
  refine V_topi (y := 0) (by decide) ?_
  refine V_istoren_2 dJ1_indexOf_4cfef_14 (by first | exact rfl | exact True.intro) (by decide) ?_
  refine V_iloadn_3 dJ1_indexOf_4cfef_15 ?_
  refine V_aloadn_0 dJ1_indexOf_4cfef_16 ?_
  refine V_slen (j := 4) dJ1_indexOf_4cfef_17 (by decide) ?_
  refine V_topi (y := 2) (by decide) ?_
  refine V_mmin dJ1_indexOf_4cfef_18 ml_J1_38 (Nat.le_of_ble_eq_true rfl) ?_
  refine V_topi (y := 2) (by decide) ?_
  refine V_istoren_3 dJ1_indexOf_4cfef_21 (by first | exact rfl | exact True.intro) (by decide) ?_
  refine V_iloadn_2 dJ1_indexOf_4cfef_22 ?_
  refine V_iloadn_3 dJ1_indexOf_4cfef_23 ?_
  refine V_icmp_lt_t dJ1_indexOf_4cfef_24 29 (by decide) (by decide) ?_
  refine V_aloadn_0 dJ1_indexOf_4cfef_29 ?_
  refine V_iloadn_1 dJ1_indexOf_4cfef_30 ?_
  refine V_iloadn_2 dJ1_indexOf_4cfef_31 ?_
  refine V_iloadn_3 dJ1_indexOf_4cfef_32 ?_
  refine V_cs4f dJ1_indexOf_4cfef_33 cs_J1_95 (Nat.le_of_ble_eq_true rfl) (k_J1_ioc_1 hb) ?_
  exact V_iret dJ1_indexOf_4cfef_36 ⟨rfl, rfl⟩

set_option maxRecDepth 100000 in
set_option maxHeartbeats 4000000 in
theorem k_J_io2_1 {G : vG} {σ : vS} {d : Nat} (hd : 5 ≤ d) {b : Nat} (hb : 97 ≤ b ∧ b ≤ 122) : Cf G yJ0_indexOf_7cf53 cJ0_indexOf_7cf53 3 (some .int) d [.ref (1001 + 4), .int (nI b), .int 0] σ (some (.int (lwI (nmN 1 b)))) σ := by
  refine Ct.ofV (by decide) (Nat.le_of_ble_eq_true rfl) rfl ?_
  show V G RJ0 cJ0_indexOf_7cf53 (some .int) 3 d _ 0 [some (.ref (1001 + 4)), some (.int (nI b)), some (.int 0)] [] _
  obtain ⟨d, rfl⟩ : ∃ e, d = e + 1 := ⟨d - 1, by omega⟩
  refine V_aloadn_0 dJ0_indexOf_7cf53_0 ?_
  refine V_cv0f dJ0_indexOf_7cf53_1 cv_J0_492 (rcX (j := 4) (by decide)) (Nat.le_of_ble_eq_true rfl) (k_J_isLatin1 (j := 4) (by decide)) ?_
  refine V_if_eq_f dJ0_indexOf_7cf53_4 23 (by decide) (by decide) ?_
  refine V_aloadn_0 dJ0_indexOf_7cf53_7 ?_
  refine V_getSv (j := 4) dJ0_indexOf_7cf53_8 wJ_9 (by decide) ?_
  refine V_iloadn_1 dJ0_indexOf_7cf53_11 ?_
  refine V_iloadn_2 dJ0_indexOf_7cf53_12 ?_
  refine V_aloadn_0 dJ0_indexOf_7cf53_13 ?_
  refine V_cv0f dJ0_indexOf_7cf53_14 cv_J0_505 (rcX (j := 4) (by decide)) (Nat.le_of_ble_eq_true rfl) (k_J_length (j := 4) (by omega) (by decide)) ?_
  refine V_topi (y := 2) (by decide) ?_
  refine V_cs4f dJ0_indexOf_7cf53_17 cs_J0_637 (Nat.le_of_ble_eq_true rfl) (k_J1_io_1 (by omega) hb) ?_
  refine V_goto dJ0_indexOf_7cf53_20 36 (by decide) ?_
  exact V_iret dJ0_indexOf_7cf53_36 ⟨rfl, rfl⟩

set_option maxRecDepth 100000 in
set_option maxHeartbeats 4000000 in
theorem k_J_io_1 {G : vG} {σ : vS} {d : Nat} (hd : 6 ≤ d) {b : Nat} (hb : 97 ≤ b ∧ b ≤ 122) : Cf G yJ0_indexOf_0f7a4 cJ0_indexOf_0f7a4 2 (some .int) d [.ref (1001 + 4), .int (nI b)] σ (some (.int (lwI (nmN 1 b)))) σ := by
  refine Ct.ofV (by decide) (Nat.le_of_ble_eq_true rfl) rfl ?_
  show V G RJ0 cJ0_indexOf_0f7a4 (some .int) 2 d _ 0 [some (.ref (1001 + 4)), some (.int (nI b))] [] _
  obtain ⟨d, rfl⟩ : ∃ e, d = e + 1 := ⟨d - 1, by omega⟩
  refine V_aloadn_0 dJ0_indexOf_0f7a4_0 ?_
  refine V_iloadn_1 dJ0_indexOf_0f7a4_1 ?_
  refine V_iconst 0 dJ0_indexOf_0f7a4_2 (by decide) ?_
  refine V_cv2f dJ0_indexOf_0f7a4_3 cv_J0_633 (rcX (j := 4) (by decide)) (Nat.le_of_ble_eq_true rfl) (k_J_io2_1 (by omega) hb) ?_
  exact V_iret dJ0_indexOf_0f7a4_6 ⟨rfl, rfl⟩

theorem nm_2 {b : Nat} : nmN 2 b = if b = 119 then 1 else if b = 108 then 2 else 0 := rfl
set_option maxRecDepth 100000 in
set_option maxHeartbeats 4000000 in
theorem k_J1_ioc_2 {G : vG} {σ : vS} {d : Nat} {b : Nat} (hb : 97 ≤ b ∧ b ≤ 122) : Cf G yJ1_indexOfChar_4cfef cJ1_indexOfChar_4cfef 6 (some .int) d [.ref (1011 + 5), .int (nI b), .int 0, .int 2] σ (some (.int (lwI (nmN 2 b)))) σ := by
  refine Ct.ofV (by decide) (Nat.le_of_ble_eq_true rfl) rfl ?_
  show V G RJ1 cJ1_indexOfChar_4cfef (some .int) 6 d _ 0 [some (.ref (1011 + 5)), some (.int (nI b)), some (.int 0), some (.int 2), none, none] [] _
  refine V_iloadn_1 dJ1_indexOfChar_4cfef_0 ?_
  refine V_i2b dJ1_indexOfChar_4cfef_1 ?_
  refine V_topi (b8 b (by omega)) ?_
  refine V_istore_4 dJ1_indexOfChar_4cfef_2 (by first | exact rfl | exact True.intro) (by decide) ?_
  refine V_iloadn_2 dJ1_indexOfChar_4cfef_4 ?_
  refine V_istore_5 dJ1_indexOfChar_4cfef_5 (by first | exact rfl | exact True.intro) (by decide) ?_
  refine V_iload_5 dJ1_indexOfChar_4cfef_7 ?_
  refine V_iloadn_3 dJ1_indexOfChar_4cfef_9 ?_
  refine V_icmp_ge_f dJ1_indexOfChar_4cfef_10 31 (by decide) (by decide) ?_
  refine V_aloadn_0 dJ1_indexOfChar_4cfef_13 ?_
  refine V_iload_5 dJ1_indexOfChar_4cfef_14 ?_
  refine V_bald (j := 5) (i := 0) dJ1_indexOfChar_4cfef_16 (by decide) (by decide) (by decide) (by decide) ?_
  refine V_topi (y := 119) (by decide) ?_
  refine V_iload_4 dJ1_indexOfChar_4cfef_17 ?_
  refine V_icmpN_ne (a := 119) (b := b) dJ1_indexOfChar_4cfef_19 25 (by decide) (by omega) (by omega) (fun h19 => ?_) (fun h19 => ?_)
  · refine V_iinc_5 dJ1_indexOfChar_4cfef_25 (by first | exact rfl | exact True.intro) (by decide) 1 (by decide) ?_
    refine V_goto dJ1_indexOfChar_4cfef_28 7 (by decide) ?_
    refine V_iload_5 dJ1_indexOfChar_4cfef_7 ?_
    refine V_iloadn_3 dJ1_indexOfChar_4cfef_9 ?_
    refine V_icmp_ge_f dJ1_indexOfChar_4cfef_10 31 (by decide) (by decide) ?_
    refine V_aloadn_0 dJ1_indexOfChar_4cfef_13 ?_
    refine V_iload_5 dJ1_indexOfChar_4cfef_14 ?_
    refine V_bald (j := 5) (i := 1) dJ1_indexOfChar_4cfef_16 (by decide) (by decide) (by decide) (by decide) ?_
    refine V_topi (y := 108) (by decide) ?_
    refine V_iload_4 dJ1_indexOfChar_4cfef_17 ?_
    refine V_icmpN_ne (a := 108) (b := b) dJ1_indexOfChar_4cfef_19 25 (by decide) (by omega) (by omega) (fun h19 => ?_) (fun h19 => ?_)
    · refine V_iinc_5 dJ1_indexOfChar_4cfef_25 (by first | exact rfl | exact True.intro) (by decide) 2 (by decide) ?_
      refine V_goto dJ1_indexOfChar_4cfef_28 7 (by decide) ?_
      refine V_iload_5 dJ1_indexOfChar_4cfef_7 ?_
      refine V_iloadn_3 dJ1_indexOfChar_4cfef_9 ?_
      refine V_icmp_ge_t dJ1_indexOfChar_4cfef_10 31 (by decide) (by decide) ?_
      refine V_iconst (-1) dJ1_indexOfChar_4cfef_31 (by decide) ?_
      exact V_iret dJ1_indexOfChar_4cfef_32 ⟨rI (by rw [nm_2, if_neg (by omega), if_neg (by omega)]; rfl), rfl⟩
    · refine V_iload_5 dJ1_indexOfChar_4cfef_22 ?_
      exact V_iret dJ1_indexOfChar_4cfef_24 ⟨rI (by rw [nm_2, if_neg (by omega), if_pos (by omega)]; rfl), rfl⟩
  · refine V_iload_5 dJ1_indexOfChar_4cfef_22 ?_
    exact V_iret dJ1_indexOfChar_4cfef_24 ⟨rI (by rw [nm_2, if_pos (by omega)]; rfl), rfl⟩

set_option maxRecDepth 100000 in
set_option maxHeartbeats 4000000 in
theorem k_J1_io_2 {G : vG} {σ : vS} {d : Nat} (hd : 1 ≤ d) {b : Nat} (hb : 97 ≤ b ∧ b ≤ 122) : Cf G yJ1_indexOf_4cfef cJ1_indexOf_4cfef 4 (some .int) d [.ref (1011 + 5), .int (nI b), .int 0, .int 2] σ (some (.int (lwI (nmN 2 b)))) σ := by
  refine Ct.ofV (by decide) (Nat.le_of_ble_eq_true rfl) rfl ?_
  show V G RJ1 cJ1_indexOf_4cfef (some .int) 4 d _ 0 [some (.ref (1011 + 5)), some (.int (nI b)), some (.int 0), some (.int 2)] [] _
  obtain ⟨d, rfl⟩ : ∃ e, d = e + 1 := ⟨d - 1, by omega⟩
  refine V_iloadn_1 dJ1_indexOf_4cfef_0 ?_
  refine V_cs1f dJ1_indexOf_4cfef_1 cs_J1_88 (Nat.le_of_ble_eq_true rfl) (k_J1_can hb) ?_
  refine V_if_ne_t dJ1_indexOf_4cfef_4 9 (by decide) (by decide) ?_
  refine V_iloadn_2 dJ1_indexOf_4cfef_9 ?_
  refine V_iconst 0 dJ1_indexOf_4cfef_10 (by decide) ?_
  refine V_mmax dJ1_indexOf_4cfef_11 ml_J1_92 (Nat.le_of_ble_eq_true rfl) ?_
  refine V_topi (y := 0) (by decide) ?_
  refine V_istoren_2 dJ1_indexOf_4cfef_14 (by first | exact rfl | exact True.intro) (by decide) ?_
  refine V_iloadn_3 dJ1_indexOf_4cfef_15 ?_
  refine V_aloadn_0 dJ1_indexOf_4cfef_16 ?_
  refine V_slen (j := 5) dJ1_indexOf_4cfef_17 (by decide) ?_
  refine V_topi (y := 2) (by decide) ?_
  refine V_mmin dJ1_indexOf_4cfef_18 ml_J1_38 (Nat.le_of_ble_eq_true rfl) ?_
  refine V_topi (y := 2) (by decide) ?_
  refine V_istoren_3 dJ1_indexOf_4cfef_21 (by first | exact rfl | exact True.intro) (by decide) ?_
  refine V_iloadn_2 dJ1_indexOf_4cfef_22 ?_
  refine V_iloadn_3 dJ1_indexOf_4cfef_23 ?_
  refine V_icmp_lt_t dJ1_indexOf_4cfef_24 29 (by decide) (by decide) ?_
  refine V_aloadn_0 dJ1_indexOf_4cfef_29 ?_
  refine V_iloadn_1 dJ1_indexOf_4cfef_30 ?_
  refine V_iloadn_2 dJ1_indexOf_4cfef_31 ?_
  refine V_iloadn_3 dJ1_indexOf_4cfef_32 ?_
  refine V_cs4f dJ1_indexOf_4cfef_33 cs_J1_95 (Nat.le_of_ble_eq_true rfl) (k_J1_ioc_2 hb) ?_
  exact V_iret dJ1_indexOf_4cfef_36 ⟨rfl, rfl⟩

set_option maxRecDepth 100000 in
set_option maxHeartbeats 4000000 in
theorem k_J_io2_2 {G : vG} {σ : vS} {d : Nat} (hd : 5 ≤ d) {b : Nat} (hb : 97 ≤ b ∧ b ≤ 122) : Cf G yJ0_indexOf_7cf53 cJ0_indexOf_7cf53 3 (some .int) d [.ref (1001 + 5), .int (nI b), .int 0] σ (some (.int (lwI (nmN 2 b)))) σ := by
  refine Ct.ofV (by decide) (Nat.le_of_ble_eq_true rfl) rfl ?_
  show V G RJ0 cJ0_indexOf_7cf53 (some .int) 3 d _ 0 [some (.ref (1001 + 5)), some (.int (nI b)), some (.int 0)] [] _
  obtain ⟨d, rfl⟩ : ∃ e, d = e + 1 := ⟨d - 1, by omega⟩
  refine V_aloadn_0 dJ0_indexOf_7cf53_0 ?_
  refine V_cv0f dJ0_indexOf_7cf53_1 cv_J0_492 (rcX (j := 5) (by decide)) (Nat.le_of_ble_eq_true rfl) (k_J_isLatin1 (j := 5) (by decide)) ?_
  refine V_if_eq_f dJ0_indexOf_7cf53_4 23 (by decide) (by decide) ?_
  refine V_aloadn_0 dJ0_indexOf_7cf53_7 ?_
  refine V_getSv (j := 5) dJ0_indexOf_7cf53_8 wJ_9 (by decide) ?_
  refine V_iloadn_1 dJ0_indexOf_7cf53_11 ?_
  refine V_iloadn_2 dJ0_indexOf_7cf53_12 ?_
  refine V_aloadn_0 dJ0_indexOf_7cf53_13 ?_
  refine V_cv0f dJ0_indexOf_7cf53_14 cv_J0_505 (rcX (j := 5) (by decide)) (Nat.le_of_ble_eq_true rfl) (k_J_length (j := 5) (by omega) (by decide)) ?_
  refine V_topi (y := 2) (by decide) ?_
  refine V_cs4f dJ0_indexOf_7cf53_17 cs_J0_637 (Nat.le_of_ble_eq_true rfl) (k_J1_io_2 (by omega) hb) ?_
  refine V_goto dJ0_indexOf_7cf53_20 36 (by decide) ?_
  exact V_iret dJ0_indexOf_7cf53_36 ⟨rfl, rfl⟩

set_option maxRecDepth 100000 in
set_option maxHeartbeats 4000000 in
theorem k_J_io_2 {G : vG} {σ : vS} {d : Nat} (hd : 6 ≤ d) {b : Nat} (hb : 97 ≤ b ∧ b ≤ 122) : Cf G yJ0_indexOf_0f7a4 cJ0_indexOf_0f7a4 2 (some .int) d [.ref (1001 + 5), .int (nI b)] σ (some (.int (lwI (nmN 2 b)))) σ := by
  refine Ct.ofV (by decide) (Nat.le_of_ble_eq_true rfl) rfl ?_
  show V G RJ0 cJ0_indexOf_0f7a4 (some .int) 2 d _ 0 [some (.ref (1001 + 5)), some (.int (nI b))] [] _
  obtain ⟨d, rfl⟩ : ∃ e, d = e + 1 := ⟨d - 1, by omega⟩
  refine V_aloadn_0 dJ0_indexOf_0f7a4_0 ?_
  refine V_iloadn_1 dJ0_indexOf_0f7a4_1 ?_
  refine V_iconst 0 dJ0_indexOf_0f7a4_2 (by decide) ?_
  refine V_cv2f dJ0_indexOf_0f7a4_3 cv_J0_633 (rcX (j := 5) (by decide)) (Nat.le_of_ble_eq_true rfl) (k_J_io2_2 (by omega) hb) ?_
  exact V_iret dJ0_indexOf_0f7a4_6 ⟨rfl, rfl⟩
