/-! ===== copy ===== -/
abbrev hpI (x n : Int32) (z : Nat) : Prop := ¬ x < 0 ∧ ¬ n < 0 ∧ ¬ nI z < n ∧ ¬ (nI z - n < x)
theorem hp_ex {x n : Int32} {z : Nat} (hz : z ≤ 24) (h : hpI x n z) : ∃ p m, p + m ≤ z ∧ x = nI p ∧ n = nI m := by
  obtain ⟨h1, h2, h3, h4⟩ := h
  obtain ⟨p, hp, rfl⟩ := nI_of h1
  obtain ⟨m, hm, rfl⟩ := nI_of h2
  have g3 := mt (nI_ltI (by omega) hm).mpr h3
  rw [pk_sub (by omega)] at h4
  have g4 := mt (nI_ltI (by omega) hp).mpr h4
  exact ⟨p, m, by omega, rfl, rfl⟩
theorem hp_of {p m z : Nat} (hz : z ≤ 24) (h : p + m ≤ z) : hpI (nI p) (nI m) z := by
  refine ⟨nI_pos (by omega), nI_pos (by omega), fun q => ?_, fun q => ?_⟩
  · have := (nI_ltI (by omega) (by omega)).mp q
    omega
  · rw [pk_sub (by omega)] at q
    have := (nI_ltI (by omega) (by omega)).mp q
    omega
theorem hp_mk {x n : Int32} {z : Nat} (hz : z ≤ 24) (h1 : ¬ x < 0) (h2 : ¬ n < 0) (h4 : ¬ (nI z - n < x)) : hpI x n z := by
  refine ⟨h1, h2, fun q => h4 ?_, h4⟩
  obtain ⟨p, hp, rfl⟩ := nI_of h1
  obtain ⟨m, hm, rfl⟩ := nI_of h2
  have := (nI_ltI (by omega) hm).mp q
  rw [Int32.lt_iff_toInt_lt, Int32.toInt_sub, nI_toInt (by omega), nI_toInt hm, nI_toInt hp, bm32 (by omega) (by omega)]
  omega
def cpF (p q m : Nat) (va vb : Nat → Int32) (k : Nat) : Int32 := if q ≤ k ∧ k < q + m then va (p + (k - q)) else vb k

set_option maxRecDepth 100000 in
set_option maxHeartbeats 4000000 in
theorem k_S_hasPlaces {G : vG} {σ : vS} {d : Nat} {w z : Nat} (hw : Shp w) (hz : σ w 1 = nI z) {x n : Int32} : Cf G yX3_hasPlaces cX3_hasPlaces 3 (some .boolean) d [.ref w, .int x, .int n] σ (some (.int (bI (hpI x n z)))) σ := by
  refine Ct.ofV (by decide) (Nat.le_of_ble_eq_true rfl) rfl ?_
  show V G RX3 cX3_hasPlaces (some .boolean) 3 d _ 0 [some (.ref w), some (.int x), some (.int n)] [] _
  refine V_iloadn_1 dX3_hasPlaces_0 ?_
  refine V_if_lt dX3_hasPlaces_1 30 (by decide) (fun h1 => ?_) (fun h1 => ?_)
  · refine V_iconst 0 dX3_hasPlaces_30 (by decide) ?_
    exact V_zret dX3_hasPlaces_31 (by decide) ⟨rB0 (fun q => by first | exact absurd h1 q.1 | exact absurd h5 q.2.1 | exact absurd h13 q.2.2.1 | exact absurd h23 q.2.2.2), rfl⟩
  · refine V_iloadn_2 dX3_hasPlaces_4 ?_
    refine V_if_lt dX3_hasPlaces_5 30 (by decide) (fun h5 => ?_) (fun h5 => ?_)
    · refine V_iconst 0 dX3_hasPlaces_30 (by decide) ?_
      exact V_zret dX3_hasPlaces_31 (by decide) ⟨rB0 (fun q => by first | exact absurd h1 q.1 | exact absurd h5 q.2.1 | exact absurd h13 q.2.2.1 | exact absurd h23 q.2.2.2), rfl⟩
    · refine V_iloadn_2 dX3_hasPlaces_8 ?_
      refine V_aloadn_0 dX3_hasPlaces_9 ?_
      refine V_getI dX3_hasPlaces_10 fl_X3_19 (oS_size hw) ?_
      refine V_topi (y := nI z) hz ?_
      refine V_icmp_gt dX3_hasPlaces_13 30 (by decide) (fun h13 => ?_) (fun h13 => ?_)
      · refine V_iconst 0 dX3_hasPlaces_30 (by decide) ?_
        exact V_zret dX3_hasPlaces_31 (by decide) ⟨rB0 (fun q => by first | exact absurd h1 q.1 | exact absurd h5 q.2.1 | exact absurd h13 q.2.2.1 | exact absurd h23 q.2.2.2), rfl⟩
      · refine V_iloadn_1 dX3_hasPlaces_16 ?_
        refine V_aloadn_0 dX3_hasPlaces_17 ?_
        refine V_getI dX3_hasPlaces_18 fl_X3_19 (oS_size hw) ?_
        refine V_topi (y := nI z) hz ?_
        refine V_iloadn_2 dX3_hasPlaces_21 ?_
        refine V_isub dX3_hasPlaces_22 ?_
        refine V_icmp_gt dX3_hasPlaces_23 30 (by decide) (fun h23 => ?_) (fun h23 => ?_)
        · refine V_iconst 0 dX3_hasPlaces_30 (by decide) ?_
          exact V_zret dX3_hasPlaces_31 (by decide) ⟨rB0 (fun q => by first | exact absurd h1 q.1 | exact absurd h5 q.2.1 | exact absurd h13 q.2.2.1 | exact absurd h23 q.2.2.2), rfl⟩
        · refine V_iconst 1 dX3_hasPlaces_26 (by decide) ?_
          refine V_goto dX3_hasPlaces_27 31 (by decide) ?_
          exact V_zret dX3_hasPlaces_31 (by decide) ⟨rB1 ⟨h1, h5, h13, h23⟩, rfl⟩

set_option maxRecDepth 100000 in
set_option maxHeartbeats 4000000 in
theorem c_copy_no {G : vG} {σ : vS} {d : Nat} (hd : 2 ≤ d) {a b : Nat} (ha : a < 4) (hb : b < 4) {x y n : Int32} (h : σ (37 + 2 * a) 0 = -1 ∨ σ (37 + 2 * b) 0 = -1) : Cf G yX6_copy cX6_copy 8 (some .int) d [.ref 0, .int (nI a), .int x, .int (nI b), .int y, .int n] σ (some (.int (-1000000011))) σ := by
  refine Ct.ofV (by decide) (Nat.le_of_ble_eq_true rfl) rfl ?_
  show V G RX6 cX6_copy (some .int) 8 d _ 0 [some (.ref 0), some (.int (nI a)), some (.int x), some (.int (nI b)), some (.int y), some (.int n), none, none] [] _
  obtain ⟨d, rfl⟩ : ∃ e, d = e + 1 := ⟨d - 1, by omega⟩
  refine V_iloadn_1 dX6_copy_0 ?_
  refine V_cs1f dX6_copy_1 cs_X6_203 (Nat.le_of_ble_eq_true rfl) (k_C_isSheet (by omega)) ?_
  refine V_ifB_eq dX6_copy_4 14 (by decide) (fun h4 => ?_) (fun h4 => ?_)
  · exact absurd (hasN ha (by decide)) h4
  · refine V_iloadn_3 dX6_copy_7 ?_
    refine V_cs1f dX6_copy_8 cs_X6_203 (Nat.le_of_ble_eq_true rfl) (k_C_isSheet (by omega)) ?_
    refine V_ifB_ne dX6_copy_11 17 (by decide) (fun h11 => ?_) (fun h11 => ?_)
    · refine V_aloadn_0 dX6_copy_17 ?_
      refine V_getR dX6_copy_18 fl_X6_18 oC_sheets ?_
      refine V_iloadn_1 dX6_copy_21 ?_
      refine V_aald (j := a) dX6_copy_22 (eSheet (by omega)) (by decide) ?_
      refine V_astore_6 dX6_copy_23 (by first | exact rfl | exact True.intro) (by decide) ?_
      refine V_aloadn_0 dX6_copy_25 ?_
      refine V_getR dX6_copy_26 fl_X6_18 oC_sheets ?_
      refine V_iloadn_3 dX6_copy_29 ?_
      refine V_aald (j := b) dX6_copy_30 (eSheet (by omega)) (by decide) ?_
      refine V_astore_7 dX6_copy_31 (by first | exact rfl | exact True.intro) (by decide) ?_
      refine V_aload_6 dX6_copy_33 ?_
      refine V_cv0f dX6_copy_35 cv_X6_206 (rcS (Or.inl ⟨_, (by omega), rfl⟩)) (Nat.le_of_ble_eq_true rfl) (k_S_isMissing (Or.inl ⟨_, (by omega), rfl⟩)) ?_
      refine V_ifB_ne dX6_copy_38 49 (by decide) (fun h38 => ?_) (fun h38 => ?_)
      · refine V_ldc (-1000000011) dX6_copy_49 cn_X6_210 ?_
        exact V_iret dX6_copy_51 ⟨rfl, rfl⟩
      · refine V_aload_7 dX6_copy_41 ?_
        refine V_cv0f dX6_copy_43 cv_X6_206 (rcS (Or.inl ⟨_, (by omega), rfl⟩)) (Nat.le_of_ble_eq_true rfl) (k_S_isMissing (Or.inl ⟨_, (by omega), rfl⟩)) ?_
        refine V_ifB_eq dX6_copy_46 52 (by decide) (fun h46 => ?_) (fun h46 => ?_)
        · exact absurd h (fun q => q.elim (fun q => h38 q) (fun q => h46 q))
        · refine V_ldc (-1000000011) dX6_copy_49 cn_X6_210 ?_
          exact V_iret dX6_copy_51 ⟨rfl, rfl⟩
    · exact absurd (hasN hb (by decide)) h11

set_option maxRecDepth 100000 in
set_option maxHeartbeats 4000000 in
theorem c_copy_k {G : vG} {σ : vS} {d : Nat} (hd : 2 ≤ d) {a b : Nat} (ha : a < 4) (hb : b < 4) {x y n : Int32} (h1 : σ (37 + 2 * a) 0 ≠ -1) (h2 : σ (37 + 2 * b) 0 ≠ -1) (hne : σ (37 + 2 * a) 0 ≠ σ (37 + 2 * b) 0) : Cf G yX6_copy cX6_copy 8 (some .int) d [.ref 0, .int (nI a), .int x, .int (nI b), .int y, .int n] σ (some (.int (-1000000012))) σ := by
  refine Ct.ofV (by decide) (Nat.le_of_ble_eq_true rfl) rfl ?_
  show V G RX6 cX6_copy (some .int) 8 d _ 0 [some (.ref 0), some (.int (nI a)), some (.int x), some (.int (nI b)), some (.int y), some (.int n), none, none] [] _
  obtain ⟨d, rfl⟩ : ∃ e, d = e + 1 := ⟨d - 1, by omega⟩
  refine V_iloadn_1 dX6_copy_0 ?_
  refine V_cs1f dX6_copy_1 cs_X6_203 (Nat.le_of_ble_eq_true rfl) (k_C_isSheet (by omega)) ?_
  refine V_ifB_eq dX6_copy_4 14 (by decide) (fun h4 => ?_) (fun h4 => ?_)
  · exact absurd (hasN ha (by decide)) h4
  · refine V_iloadn_3 dX6_copy_7 ?_
    refine V_cs1f dX6_copy_8 cs_X6_203 (Nat.le_of_ble_eq_true rfl) (k_C_isSheet (by omega)) ?_
    refine V_ifB_ne dX6_copy_11 17 (by decide) (fun h11 => ?_) (fun h11 => ?_)
    · refine V_aloadn_0 dX6_copy_17 ?_
      refine V_getR dX6_copy_18 fl_X6_18 oC_sheets ?_
      refine V_iloadn_1 dX6_copy_21 ?_
      refine V_aald (j := a) dX6_copy_22 (eSheet (by omega)) (by decide) ?_
      refine V_astore_6 dX6_copy_23 (by first | exact rfl | exact True.intro) (by decide) ?_
      refine V_aloadn_0 dX6_copy_25 ?_
      refine V_getR dX6_copy_26 fl_X6_18 oC_sheets ?_
      refine V_iloadn_3 dX6_copy_29 ?_
      refine V_aald (j := b) dX6_copy_30 (eSheet (by omega)) (by decide) ?_
      refine V_astore_7 dX6_copy_31 (by first | exact rfl | exact True.intro) (by decide) ?_
      refine V_aload_6 dX6_copy_33 ?_
      refine V_cv0f dX6_copy_35 cv_X6_206 (rcS (Or.inl ⟨_, (by omega), rfl⟩)) (Nat.le_of_ble_eq_true rfl) (k_S_isMissing (Or.inl ⟨_, (by omega), rfl⟩)) ?_
      refine V_ifB_ne dX6_copy_38 49 (by decide) (fun h38 => ?_) (fun h38 => ?_)
      · exact absurd h38 h1
      · refine V_aload_7 dX6_copy_41 ?_
        refine V_cv0f dX6_copy_43 cv_X6_206 (rcS (Or.inl ⟨_, (by omega), rfl⟩)) (Nat.le_of_ble_eq_true rfl) (k_S_isMissing (Or.inl ⟨_, (by omega), rfl⟩)) ?_
        refine V_ifB_eq dX6_copy_46 52 (by decide) (fun h46 => ?_) (fun h46 => ?_)
        · refine V_aload_6 dX6_copy_52 ?_
          refine V_getI dX6_copy_54 fl_X6_262 (oS_sort (Or.inl ⟨_, (by omega), rfl⟩)) ?_
          refine V_aload_7 dX6_copy_57 ?_
          refine V_getI dX6_copy_59 fl_X6_262 (oS_sort (Or.inl ⟨_, (by omega), rfl⟩)) ?_
          refine V_icmp_eq dX6_copy_62 68 (by decide) (fun h62 => ?_) (fun h62 => ?_)
          · exact absurd h62 hne
          · refine V_ldc (-1000000012) dX6_copy_65 cn_X6_118 ?_
            exact V_iret dX6_copy_67 ⟨rfl, rfl⟩
        · exact absurd h46 h2
    · exact absurd (hasN hb (by decide)) h11

set_option maxRecDepth 100000 in
set_option maxHeartbeats 4000000 in
theorem c_copy_ix {G : vG} {σ : vS} {d : Nat} (hd : 2 ≤ d) {a b : Nat} (ha : a < 4) (hb : b < 4) {z1 z2 : Nat} {x y n : Int32} (h1 : σ (37 + 2 * a) 0 ≠ -1) (h2 : σ (37 + 2 * b) 0 ≠ -1) (hse : σ (37 + 2 * a) 0 = σ (37 + 2 * b) 0) (hz1 : σ (37 + 2 * a) 1 = nI z1) (hz2 : σ (37 + 2 * b) 1 = nI z2) (hx : ¬ (hpI x n z1 ∧ hpI y n z2)) : Cf G yX6_copy cX6_copy 8 (some .int) d [.ref 0, .int (nI a), .int x, .int (nI b), .int y, .int n] σ (some (.int (-1000000013))) σ := by
  refine Ct.ofV (by decide) (Nat.le_of_ble_eq_true rfl) rfl ?_
  show V G RX6 cX6_copy (some .int) 8 d _ 0 [some (.ref 0), some (.int (nI a)), some (.int x), some (.int (nI b)), some (.int y), some (.int n), none, none] [] _
  obtain ⟨d, rfl⟩ : ∃ e, d = e + 1 := ⟨d - 1, by omega⟩
  refine V_iloadn_1 dX6_copy_0 ?_
  refine V_cs1f dX6_copy_1 cs_X6_203 (Nat.le_of_ble_eq_true rfl) (k_C_isSheet (by omega)) ?_
  refine V_ifB_eq dX6_copy_4 14 (by decide) (fun h4 => ?_) (fun h4 => ?_)
  · exact absurd (hasN ha (by decide)) h4
  · refine V_iloadn_3 dX6_copy_7 ?_
    refine V_cs1f dX6_copy_8 cs_X6_203 (Nat.le_of_ble_eq_true rfl) (k_C_isSheet (by omega)) ?_
    refine V_ifB_ne dX6_copy_11 17 (by decide) (fun h11 => ?_) (fun h11 => ?_)
    · refine V_aloadn_0 dX6_copy_17 ?_
      refine V_getR dX6_copy_18 fl_X6_18 oC_sheets ?_
      refine V_iloadn_1 dX6_copy_21 ?_
      refine V_aald (j := a) dX6_copy_22 (eSheet (by omega)) (by decide) ?_
      refine V_astore_6 dX6_copy_23 (by first | exact rfl | exact True.intro) (by decide) ?_
      refine V_aloadn_0 dX6_copy_25 ?_
      refine V_getR dX6_copy_26 fl_X6_18 oC_sheets ?_
      refine V_iloadn_3 dX6_copy_29 ?_
      refine V_aald (j := b) dX6_copy_30 (eSheet (by omega)) (by decide) ?_
      refine V_astore_7 dX6_copy_31 (by first | exact rfl | exact True.intro) (by decide) ?_
      refine V_aload_6 dX6_copy_33 ?_
      refine V_cv0f dX6_copy_35 cv_X6_206 (rcS (Or.inl ⟨_, (by omega), rfl⟩)) (Nat.le_of_ble_eq_true rfl) (k_S_isMissing (Or.inl ⟨_, (by omega), rfl⟩)) ?_
      refine V_ifB_ne dX6_copy_38 49 (by decide) (fun h38 => ?_) (fun h38 => ?_)
      · exact absurd h38 h1
      · refine V_aload_7 dX6_copy_41 ?_
        refine V_cv0f dX6_copy_43 cv_X6_206 (rcS (Or.inl ⟨_, (by omega), rfl⟩)) (Nat.le_of_ble_eq_true rfl) (k_S_isMissing (Or.inl ⟨_, (by omega), rfl⟩)) ?_
        refine V_ifB_eq dX6_copy_46 52 (by decide) (fun h46 => ?_) (fun h46 => ?_)
        · refine V_aload_6 dX6_copy_52 ?_
          refine V_getI dX6_copy_54 fl_X6_262 (oS_sort (Or.inl ⟨_, (by omega), rfl⟩)) ?_
          refine V_aload_7 dX6_copy_57 ?_
          refine V_getI dX6_copy_59 fl_X6_262 (oS_sort (Or.inl ⟨_, (by omega), rfl⟩)) ?_
          refine V_icmp_eq dX6_copy_62 68 (by decide) (fun h62 => ?_) (fun h62 => ?_)
          · refine V_aload_6 dX6_copy_68 ?_
            refine V_iloadn_2 dX6_copy_70 ?_
            refine V_iload_5 dX6_copy_71 ?_
            refine V_cv2f dX6_copy_73 cv_X6_279 (rcS (Or.inl ⟨_, (by omega), rfl⟩)) (Nat.le_of_ble_eq_true rfl) (k_S_hasPlaces (Or.inl ⟨_, ha, rfl⟩) hz1) ?_
            refine V_ifB_eq dX6_copy_76 91 (by decide) (fun h76 => ?_) (fun h76 => ?_)
            · refine V_ldcw (-1000000013) dX6_copy_91 cn_X6_261 ?_
              exact V_iret dX6_copy_94 ⟨rfl, rfl⟩
            · refine V_aload_7 dX6_copy_79 ?_
              refine V_iload_4 dX6_copy_81 ?_
              refine V_iload_5 dX6_copy_83 ?_
              refine V_cv2f dX6_copy_85 cv_X6_279 (rcS (Or.inl ⟨_, (by omega), rfl⟩)) (Nat.le_of_ble_eq_true rfl) (k_S_hasPlaces (Or.inl ⟨_, hb, rfl⟩) hz2) ?_
              refine V_ifB_ne dX6_copy_88 95 (by decide) (fun h88 => ?_) (fun h88 => ?_)
              · exact absurd ⟨h76, h88⟩ hx
              · refine V_ldcw (-1000000013) dX6_copy_91 cn_X6_261 ?_
                exact V_iret dX6_copy_94 ⟨rfl, rfl⟩
          · exact absurd hse h62
        · exact absurd h46 h2
    · exact absurd (hasN hb (by decide)) h11

set_option maxRecDepth 100000 in
set_option maxHeartbeats 4000000 in
theorem c_copy {G : vG} {σ : vS} {d : Nat} (hd : 2 ≤ d) {a b : Nat} (ha : a < 4) (hb : b < 4) {z1 z2 p q m : Nat} (h1 : σ (37 + 2 * a) 0 ≠ -1) (h2 : σ (37 + 2 * b) 0 ≠ -1) (hse : σ (37 + 2 * a) 0 = σ (37 + 2 * b) 0) (hz1 : σ (37 + 2 * a) 1 = nI z1) (hz2 : σ (37 + 2 * b) 1 = nI z2) (hp : p + m ≤ z1) (hq : q + m ≤ z2) (hz24 : z1 ≤ 24 ∧ z2 ≤ 24) : Cr G yX6_copy cX6_copy 8 (some .int) d [.ref 0, .int (nI a), .int (nI p), .int (nI b), .int (nI q), .int (nI m)] σ (some (.int (nI m))) (SC b (σ (37 + 2 * b) 0) z2 (cpF p q m (σ (37 + 2 * a + 1)) (σ (37 + 2 * b + 1))) σ) := by
  refine Ct.ofV (by decide) (Nat.le_of_ble_eq_true rfl) rfl ?_
  show V G RX6 cX6_copy (some .int) 8 d _ 0 [some (.ref 0), some (.int (nI a)), some (.int (nI p)), some (.int (nI b)), some (.int (nI q)), some (.int (nI m)), none, none] [] _
  obtain ⟨d, rfl⟩ : ∃ e, d = e + 1 := ⟨d - 1, by omega⟩
  refine V_iloadn_1 dX6_copy_0 ?_
  refine V_cs1f dX6_copy_1 cs_X6_203 (Nat.le_of_ble_eq_true rfl) (k_C_isSheet (by omega)) ?_
  refine V_ifB_eq dX6_copy_4 14 (by decide) (fun h4 => ?_) (fun h4 => ?_)
  · exact absurd (hasN ha (by decide)) h4
  · refine V_iloadn_3 dX6_copy_7 ?_
    refine V_cs1f dX6_copy_8 cs_X6_203 (Nat.le_of_ble_eq_true rfl) (k_C_isSheet (by omega)) ?_
    refine V_ifB_ne dX6_copy_11 17 (by decide) (fun h11 => ?_) (fun h11 => ?_)
    · refine V_aloadn_0 dX6_copy_17 ?_
      refine V_getR dX6_copy_18 fl_X6_18 oC_sheets ?_
      refine V_iloadn_1 dX6_copy_21 ?_
      refine V_aald (j := a) dX6_copy_22 (eSheet (by omega)) (by decide) ?_
      refine V_astore_6 dX6_copy_23 (by first | exact rfl | exact True.intro) (by decide) ?_
      refine V_aloadn_0 dX6_copy_25 ?_
      refine V_getR dX6_copy_26 fl_X6_18 oC_sheets ?_
      refine V_iloadn_3 dX6_copy_29 ?_
      refine V_aald (j := b) dX6_copy_30 (eSheet (by omega)) (by decide) ?_
      refine V_astore_7 dX6_copy_31 (by first | exact rfl | exact True.intro) (by decide) ?_
      refine V_aload_6 dX6_copy_33 ?_
      refine V_cv0f dX6_copy_35 cv_X6_206 (rcS (Or.inl ⟨_, (by omega), rfl⟩)) (Nat.le_of_ble_eq_true rfl) (k_S_isMissing (Or.inl ⟨_, (by omega), rfl⟩)) ?_
      refine V_ifB_ne dX6_copy_38 49 (by decide) (fun h38 => ?_) (fun h38 => ?_)
      · exact absurd h38 h1
      · refine V_aload_7 dX6_copy_41 ?_
        refine V_cv0f dX6_copy_43 cv_X6_206 (rcS (Or.inl ⟨_, (by omega), rfl⟩)) (Nat.le_of_ble_eq_true rfl) (k_S_isMissing (Or.inl ⟨_, (by omega), rfl⟩)) ?_
        refine V_ifB_eq dX6_copy_46 52 (by decide) (fun h46 => ?_) (fun h46 => ?_)
        · refine V_aload_6 dX6_copy_52 ?_
          refine V_getI dX6_copy_54 fl_X6_262 (oS_sort (Or.inl ⟨_, (by omega), rfl⟩)) ?_
          refine V_aload_7 dX6_copy_57 ?_
          refine V_getI dX6_copy_59 fl_X6_262 (oS_sort (Or.inl ⟨_, (by omega), rfl⟩)) ?_
          refine V_icmp_eq dX6_copy_62 68 (by decide) (fun h62 => ?_) (fun h62 => ?_)
          · refine V_aload_6 dX6_copy_68 ?_
            refine V_iloadn_2 dX6_copy_70 ?_
            refine V_iload_5 dX6_copy_71 ?_
            refine V_cv2f dX6_copy_73 cv_X6_279 (rcS (Or.inl ⟨_, (by omega), rfl⟩)) (Nat.le_of_ble_eq_true rfl) (k_S_hasPlaces (Or.inl ⟨_, ha, rfl⟩) hz1) ?_
            refine V_ifB_eq dX6_copy_76 91 (by decide) (fun h76 => ?_) (fun h76 => ?_)
            · exact absurd (hp_of hz24.1 hp) h76
            · refine V_aload_7 dX6_copy_79 ?_
              refine V_iload_4 dX6_copy_81 ?_
              refine V_iload_5 dX6_copy_83 ?_
              refine V_cv2f dX6_copy_85 cv_X6_279 (rcS (Or.inl ⟨_, (by omega), rfl⟩)) (Nat.le_of_ble_eq_true rfl) (k_S_hasPlaces (Or.inl ⟨_, hb, rfl⟩) hz2) ?_
              refine V_ifB_ne dX6_copy_88 95 (by decide) (fun h88 => ?_) (fun h88 => ?_)
              · refine V_aload_6 dX6_copy_95 ?_
                refine V_getR dX6_copy_97 fl_X6_267 (oS_places (Or.inl ⟨_, (by omega), rfl⟩)) ?_
                refine V_iloadn_2 dX6_copy_100 ?_
                refine V_aload_7 dX6_copy_101 ?_
                refine V_getR dX6_copy_103 fl_X6_267 (oS_places (Or.inl ⟨_, (by omega), rfl⟩)) ?_
                refine V_iload_4 dX6_copy_106 ?_
                refine V_iload_5 dX6_copy_108 ?_
                refine V_copy (sp := p) (dp := q) (n := m) dX6_copy_110 ml_X6_282 (aS_places (Or.inl ⟨_, (by omega), rfl⟩)) (aS_places (Or.inl ⟨_, (by omega), rfl⟩)) (by decide) (by decide) (by omega) (by omega) (Nat.le_of_ble_eq_true rfl) ?_
                refine V_iload_5 dX6_copy_113 ?_
                exact V_iret dX6_copy_115 ⟨rfl, by rw [vcp_ne (by omega)], by rw [vcp_ne (by omega)]; exact hz2, fun k hk => by
                    unfold vcp cpF
                    by_cases e : q ≤ k ∧ k < q + m
                    · rw [if_pos ⟨rfl, e⟩, if_pos e]
                    · rw [if_neg (fun g => e g.2), if_neg e], fun r _ c => vcp_p c⟩
              · exact absurd (hp_of hz24.2 hq) h88
          · exact absurd hse h62
        · exact absurd h46 h2
    · exact absurd (hasN hb (by decide)) h11

set_option maxRecDepth 100000 in
set_option maxHeartbeats 4000000 in
theorem c_copy_bad {G : vG} {σ : vS} {d : Nat} (hd : 2 ≤ d) {x y z u v : Int32} (hb : ¬ (hasI x 4 ∧ hasI z 4)) : Cf G yX6_copy cX6_copy 8 (some .int) d [.ref 0, .int x, .int y, .int z, .int u, .int v] σ (some (.int (-1000000001))) σ := by
  refine Ct.ofV (by decide) (Nat.le_of_ble_eq_true rfl) rfl ?_
  show V G RX6 cX6_copy (some .int) 8 d _ 0 [some (.ref 0), some (.int x), some (.int y), some (.int z), some (.int u), some (.int v), none, none] [] _
  obtain ⟨d, rfl⟩ : ∃ e, d = e + 1 := ⟨d - 1, by omega⟩
  refine V_iloadn_1 dX6_copy_0 ?_
  refine V_cs1f dX6_copy_1 cs_X6_203 (Nat.le_of_ble_eq_true rfl) (k_C_isSheet (by omega)) ?_
  refine V_ifB_eq dX6_copy_4 14 (by decide) (fun h4 => ?_) (fun h4 => ?_)
  · refine V_ldc (-1000000001) dX6_copy_14 cn_X6_66 ?_
    exact V_iret dX6_copy_16 ⟨rfl, rfl⟩
  · refine V_iloadn_3 dX6_copy_7 ?_
    refine V_cs1f dX6_copy_8 cs_X6_203 (Nat.le_of_ble_eq_true rfl) (k_C_isSheet (by omega)) ?_
    refine V_ifB_ne dX6_copy_11 17 (by decide) (fun h11 => ?_) (fun h11 => ?_)
    · exact absurd ⟨h4, h11⟩ hb
    · refine V_ldc (-1000000001) dX6_copy_14 cn_X6_66 ?_
      exact V_iret dX6_copy_16 ⟨rfl, rfl⟩

set_option maxRecDepth 100000 in
set_option maxHeartbeats 4000000 in
theorem m_copy_no {G : vG} {σ : vS} {d : Nat} (hd : 2 ≤ d) {a b : Nat} (ha : a < 4) (hb : b < 4) {x y n : Int32} (h : ¬ 0 ≤ σ 112 a ∨ ¬ 0 ≤ σ 112 b) : Cf G yX7_copy cX7_copy 7 (some .int) d [.ref 97, .int (nI a), .int x, .int (nI b), .int y, .int n] σ (some (.int (-1000000011))) σ := by
  refine Ct.ofV (by decide) (Nat.le_of_ble_eq_true rfl) rfl ?_
  show V G RX7 cX7_copy (some .int) 7 d _ 0 [some (.ref 97), some (.int (nI a)), some (.int x), some (.int (nI b)), some (.int y), some (.int n), none] [] _
  obtain ⟨d, rfl⟩ : ∃ e, d = e + 1 := ⟨d - 1, by omega⟩
  refine V_iloadn_1 dX7_copy_0 ?_
  refine V_cs1f dX7_copy_1 cs_X7_192 (Nat.le_of_ble_eq_true rfl) (k_M_isSheet (by omega)) ?_
  refine V_ifB_eq dX7_copy_4 14 (by decide) (fun h4 => ?_) (fun h4 => ?_)
  · exact absurd (hasN ha (by decide)) h4
  · refine V_iloadn_3 dX7_copy_7 ?_
    refine V_cs1f dX7_copy_8 cs_X7_192 (Nat.le_of_ble_eq_true rfl) (k_M_isSheet (by omega)) ?_
    refine V_ifB_ne dX7_copy_11 17 (by decide) (fun h11 => ?_) (fun h11 => ?_)
    · refine V_aloadn_0 dX7_copy_17 ?_
      refine V_getR dX7_copy_18 fl_X7_54 oM_sorts ?_
      refine V_iloadn_1 dX7_copy_21 ?_
      refine V_iald (j := a) dX7_copy_22 aM_sorts (by omega) (by decide) ?_
      refine V_if_lt dX7_copy_23 35 (by decide) (fun h23 => ?_) (fun h23 => ?_)
      · refine V_ldc (-1000000011) dX7_copy_35 cn_X7_195 ?_
        exact V_iret dX7_copy_37 ⟨rfl, rfl⟩
      · refine V_aloadn_0 dX7_copy_26 ?_
        refine V_getR dX7_copy_27 fl_X7_54 oM_sorts ?_
        refine V_iloadn_3 dX7_copy_30 ?_
        refine V_iald (j := b) dX7_copy_31 aM_sorts (by omega) (by decide) ?_
        refine V_if_ge dX7_copy_32 38 (by decide) (fun h32 => ?_) (fun h32 => ?_)
        · exact absurd h (fun q => q.elim (fun q => q (Int32.not_lt.mp h23)) (fun q => q h32))
        · refine V_ldc (-1000000011) dX7_copy_35 cn_X7_195 ?_
          exact V_iret dX7_copy_37 ⟨rfl, rfl⟩
    · exact absurd (hasN hb (by decide)) h11

set_option maxRecDepth 100000 in
set_option maxHeartbeats 4000000 in
theorem m_copy_k {G : vG} {σ : vS} {d : Nat} (hd : 2 ≤ d) {a b : Nat} (ha : a < 4) (hb : b < 4) {x y n : Int32} (h1 : 0 ≤ σ 112 a) (h2 : 0 ≤ σ 112 b) (hne : σ 112 a ≠ σ 112 b) : Cf G yX7_copy cX7_copy 7 (some .int) d [.ref 97, .int (nI a), .int x, .int (nI b), .int y, .int n] σ (some (.int (-1000000012))) σ := by
  refine Ct.ofV (by decide) (Nat.le_of_ble_eq_true rfl) rfl ?_
  show V G RX7 cX7_copy (some .int) 7 d _ 0 [some (.ref 97), some (.int (nI a)), some (.int x), some (.int (nI b)), some (.int y), some (.int n), none] [] _
  obtain ⟨d, rfl⟩ : ∃ e, d = e + 1 := ⟨d - 1, by omega⟩
  refine V_iloadn_1 dX7_copy_0 ?_
  refine V_cs1f dX7_copy_1 cs_X7_192 (Nat.le_of_ble_eq_true rfl) (k_M_isSheet (by omega)) ?_
  refine V_ifB_eq dX7_copy_4 14 (by decide) (fun h4 => ?_) (fun h4 => ?_)
  · exact absurd (hasN ha (by decide)) h4
  · refine V_iloadn_3 dX7_copy_7 ?_
    refine V_cs1f dX7_copy_8 cs_X7_192 (Nat.le_of_ble_eq_true rfl) (k_M_isSheet (by omega)) ?_
    refine V_ifB_ne dX7_copy_11 17 (by decide) (fun h11 => ?_) (fun h11 => ?_)
    · refine V_aloadn_0 dX7_copy_17 ?_
      refine V_getR dX7_copy_18 fl_X7_54 oM_sorts ?_
      refine V_iloadn_1 dX7_copy_21 ?_
      refine V_iald (j := a) dX7_copy_22 aM_sorts (by omega) (by decide) ?_
      refine V_if_lt dX7_copy_23 35 (by decide) (fun h23 => ?_) (fun h23 => ?_)
      · exact absurd h23 (Int32.not_lt.mpr h1)
      · refine V_aloadn_0 dX7_copy_26 ?_
        refine V_getR dX7_copy_27 fl_X7_54 oM_sorts ?_
        refine V_iloadn_3 dX7_copy_30 ?_
        refine V_iald (j := b) dX7_copy_31 aM_sorts (by omega) (by decide) ?_
        refine V_if_ge dX7_copy_32 38 (by decide) (fun h32 => ?_) (fun h32 => ?_)
        · refine V_aloadn_0 dX7_copy_38 ?_
          refine V_getR dX7_copy_39 fl_X7_54 oM_sorts ?_
          refine V_iloadn_1 dX7_copy_42 ?_
          refine V_iald (j := a) dX7_copy_43 aM_sorts (by omega) (by decide) ?_
          refine V_aloadn_0 dX7_copy_44 ?_
          refine V_getR dX7_copy_45 fl_X7_54 oM_sorts ?_
          refine V_iloadn_3 dX7_copy_48 ?_
          refine V_iald (j := b) dX7_copy_49 aM_sorts (by omega) (by decide) ?_
          refine V_icmp_eq dX7_copy_50 56 (by decide) (fun h50 => ?_) (fun h50 => ?_)
          · exact absurd h50 hne
          · refine V_ldc (-1000000012) dX7_copy_53 cn_X7_132 ?_
            exact V_iret dX7_copy_55 ⟨rfl, rfl⟩
        · exact absurd h2 h32
    · exact absurd (hasN hb (by decide)) h11

set_option maxRecDepth 100000 in
set_option maxHeartbeats 4000000 in
theorem m_copy_ix {G : vG} {σ : vS} {d : Nat} (hd : 2 ≤ d) {a b : Nat} (ha : a < 4) (hb : b < 4) {z1 z2 : Nat} {x y n : Int32} (h1 : 0 ≤ σ 112 a) (h2 : 0 ≤ σ 112 b) (hse : σ 112 a = σ 112 b) (hz1 : σ 113 a = nI z1) (hz2 : σ 113 b = nI z2) (hx : ¬ (hpI x n z1 ∧ hpI y n z2)) (hz24 : z1 ≤ 24 ∧ z2 ≤ 24) : Cf G yX7_copy cX7_copy 7 (some .int) d [.ref 97, .int (nI a), .int x, .int (nI b), .int y, .int n] σ (some (.int (-1000000013))) σ := by
  refine Ct.ofV (by decide) (Nat.le_of_ble_eq_true rfl) rfl ?_
  show V G RX7 cX7_copy (some .int) 7 d _ 0 [some (.ref 97), some (.int (nI a)), some (.int x), some (.int (nI b)), some (.int y), some (.int n), none] [] _
  obtain ⟨d, rfl⟩ : ∃ e, d = e + 1 := ⟨d - 1, by omega⟩
  refine V_iloadn_1 dX7_copy_0 ?_
  refine V_cs1f dX7_copy_1 cs_X7_192 (Nat.le_of_ble_eq_true rfl) (k_M_isSheet (by omega)) ?_
  refine V_ifB_eq dX7_copy_4 14 (by decide) (fun h4 => ?_) (fun h4 => ?_)
  · exact absurd (hasN ha (by decide)) h4
  · refine V_iloadn_3 dX7_copy_7 ?_
    refine V_cs1f dX7_copy_8 cs_X7_192 (Nat.le_of_ble_eq_true rfl) (k_M_isSheet (by omega)) ?_
    refine V_ifB_ne dX7_copy_11 17 (by decide) (fun h11 => ?_) (fun h11 => ?_)
    · refine V_aloadn_0 dX7_copy_17 ?_
      refine V_getR dX7_copy_18 fl_X7_54 oM_sorts ?_
      refine V_iloadn_1 dX7_copy_21 ?_
      refine V_iald (j := a) dX7_copy_22 aM_sorts (by omega) (by decide) ?_
      refine V_if_lt dX7_copy_23 35 (by decide) (fun h23 => ?_) (fun h23 => ?_)
      · exact absurd h23 (Int32.not_lt.mpr h1)
      · refine V_aloadn_0 dX7_copy_26 ?_
        refine V_getR dX7_copy_27 fl_X7_54 oM_sorts ?_
        refine V_iloadn_3 dX7_copy_30 ?_
        refine V_iald (j := b) dX7_copy_31 aM_sorts (by omega) (by decide) ?_
        refine V_if_ge dX7_copy_32 38 (by decide) (fun h32 => ?_) (fun h32 => ?_)
        · refine V_aloadn_0 dX7_copy_38 ?_
          refine V_getR dX7_copy_39 fl_X7_54 oM_sorts ?_
          refine V_iloadn_1 dX7_copy_42 ?_
          refine V_iald (j := a) dX7_copy_43 aM_sorts (by omega) (by decide) ?_
          refine V_aloadn_0 dX7_copy_44 ?_
          refine V_getR dX7_copy_45 fl_X7_54 oM_sorts ?_
          refine V_iloadn_3 dX7_copy_48 ?_
          refine V_iald (j := b) dX7_copy_49 aM_sorts (by omega) (by decide) ?_
          refine V_icmp_eq dX7_copy_50 56 (by decide) (fun h50 => ?_) (fun h50 => ?_)
          · refine V_iloadn_2 dX7_copy_56 ?_
            refine V_if_lt dX7_copy_57 97 (by decide) (fun h57 => ?_) (fun h57 => ?_)
            · refine V_ldcw (-1000000013) dX7_copy_97 cn_X7_272 ?_
              exact V_iret dX7_copy_100 ⟨rfl, rfl⟩
            · refine V_iload_4 dX7_copy_60 ?_
              refine V_if_lt dX7_copy_62 97 (by decide) (fun h62 => ?_) (fun h62 => ?_)
              · refine V_ldcw (-1000000013) dX7_copy_97 cn_X7_272 ?_
                exact V_iret dX7_copy_100 ⟨rfl, rfl⟩
              · refine V_iload_5 dX7_copy_65 ?_
                refine V_if_lt dX7_copy_67 97 (by decide) (fun h67 => ?_) (fun h67 => ?_)
                · refine V_ldcw (-1000000013) dX7_copy_97 cn_X7_272 ?_
                  exact V_iret dX7_copy_100 ⟨rfl, rfl⟩
                · refine V_iloadn_2 dX7_copy_70 ?_
                  refine V_aloadn_0 dX7_copy_71 ?_
                  refine V_getR dX7_copy_72 fl_X7_57 oM_sizes ?_
                  refine V_iloadn_1 dX7_copy_75 ?_
                  refine V_iald (j := a) dX7_copy_76 aM_sizes (by omega) (by decide) ?_
                  refine V_topi (y := nI z1) hz1 ?_
                  refine V_iload_5 dX7_copy_77 ?_
                  refine V_isub dX7_copy_79 ?_
                  refine V_icmp_gt dX7_copy_80 97 (by decide) (fun h80 => ?_) (fun h80 => ?_)
                  · refine V_ldcw (-1000000013) dX7_copy_97 cn_X7_272 ?_
                    exact V_iret dX7_copy_100 ⟨rfl, rfl⟩
                  · refine V_iload_4 dX7_copy_83 ?_
                    refine V_aloadn_0 dX7_copy_85 ?_
                    refine V_getR dX7_copy_86 fl_X7_57 oM_sizes ?_
                    refine V_iloadn_3 dX7_copy_89 ?_
                    refine V_iald (j := b) dX7_copy_90 aM_sizes (by omega) (by decide) ?_
                    refine V_topi (y := nI z2) hz2 ?_
                    refine V_iload_5 dX7_copy_91 ?_
                    refine V_isub dX7_copy_93 ?_
                    refine V_icmp_le dX7_copy_94 101 (by decide) (fun h94 => ?_) (fun h94 => ?_)
                    · exact absurd ⟨hp_mk hz24.1 h57 h67 h80, hp_mk hz24.2 h62 h67 (Int32.not_lt.mpr h94)⟩ hx
                    · refine V_ldcw (-1000000013) dX7_copy_97 cn_X7_272 ?_
                      exact V_iret dX7_copy_100 ⟨rfl, rfl⟩
          · exact absurd hse h50
        · exact absurd h2 h32
    · exact absurd (hasN hb (by decide)) h11

set_option maxRecDepth 100000 in
set_option maxHeartbeats 4000000 in
theorem lp_m_copy2 {G : vG} {d : Nat} {σ0 : vS} {a b z2 p q m : Nat} (hb : b < 4) (hq : q + m ≤ z2) (hz2 : z2 ≤ 24) : ∀ (k : Nat) (k1 : Nat) (σ : vS), ((∀ r, r ≠ 114 → σ r = σ0 r) ∧ k1 ≤ m ∧ (∀ j, j < k1 → σ 114 (24 * b + q + j) = σ0 119 j) ∧ ∀ j, ¬ (24 * b + q ≤ j ∧ j < 24 * b + q + k1) → σ 114 j = σ0 114 j) → m - k1 < k → V G RX7 cX7_copy (some .int) 7 d (fun r' σ' => r' = some (.int (nI m)) ∧ (∀ r, r ≠ 114 → σ' r = σ0 r) ∧ (∀ j, j < m → σ' 114 (24 * b + q + j) = σ0 119 j) ∧ ∀ j, ¬ (24 * b + q ≤ j ∧ j < 24 * b + q + m) → σ' 114 j = σ0 114 j) 141 [some (.ref 97), some (.int (nI a)), some (.int (nI p)), some (.int (nI b)), some (.int (nI q)), some (.int (nI m)), some (.int (nI k1))] [] σ := by
  intro k
  induction k with
  | zero => intros; omega
  | succ k ih =>
    intro k1 σ hh hk
    obtain ⟨hr, hkm, h3, h4⟩ := hh
    refine V_iload_6 dX7_copy_141 ?_
    refine V_iload_5 dX7_copy_143 ?_
    refine V_icmpN_ge (a := k1) (b := m) dX7_copy_145 176 (by decide) (by omega) (by omega) (fun h145 => ?_) (fun h145 => ?_)
    · refine V_iload_5 dX7_copy_176 ?_
      exact V_iret dX7_copy_178 ⟨rfl, hr, fun j hj => h3 j (by omega), fun j hj => h4 j (by omega)⟩
    · refine V_aloadn_0 dX7_copy_148 ?_
      refine V_getR dX7_copy_149 fl_X7_60 oM_cells ?_
      refine V_bipush 24 dX7_copy_152 (by decide) ?_
      refine V_iloadn_3 dX7_copy_154 ?_
      refine V_imulN (a := 24) (b := b) dX7_copy_155 ?_
      refine V_iload_4 dX7_copy_156 ?_
      refine V_iaddN (a := 24 * b) (b := q) dX7_copy_158 ?_
      refine V_iload_6 dX7_copy_159 ?_
      refine V_iaddN (a := (24 * b) + q) (b := k1) dX7_copy_161 ?_
      refine V_aloadn_0 dX7_copy_162 ?_
      refine V_getR dX7_copy_163 fl_X7_75 oM_moved ?_
      refine V_iload_6 dX7_copy_166 ?_
      refine V_iald (j := k1) dX7_copy_168 aM_moved (by omega) (by decide) ?_
      refine V_iast (j := ((24 * b) + q) + k1) dX7_copy_169 aM_cells (by omega) (by decide) ?_
      refine V_iinc_6 dX7_copy_170 (by first | exact rfl | exact True.intro) (by decide) (nI (k1 + 1)) (nI_inc _) ?_
      refine V_goto dX7_copy_173 141 (by decide) ?_
      refine ih (k1 + 1) _ ⟨fun r c => by rw [vup_p c]; exact hr r c, by omega, fun j hj => ?_, fun j hj => by rw [vup_ne (by omega)]; exact h4 j (by omega)⟩ (by omega)
      by_cases e : j = k1
      · rw [e, vup_same, hr 119 (by decide)]
      · rw [vup_ne (by omega)]; exact h3 j (by omega)

set_option maxRecDepth 100000 in
set_option maxHeartbeats 4000000 in
theorem lp_m_copy1 {G : vG} {d : Nat} {σ0 : vS} {a b z1 z2 p q m : Nat} (ha : a < 4) (hb : b < 4) (hp : p + m ≤ z1) (hq : q + m ≤ z2) (hz1 : z1 ≤ 24) (hz2 : z2 ≤ 24) : ∀ (k : Nat) (k1 : Nat) (σ : vS), ((∀ r, r ≠ 119 → σ r = σ0 r) ∧ k1 ≤ m ∧ ∀ j, j < k1 → σ 119 j = σ0 114 (24 * a + p + j)) → m - k1 < k → V G RX7 cX7_copy (some .int) 7 d (fun r' σ' => r' = some (.int (nI m)) ∧ (∀ r, r ≠ 114 → r ≠ 119 → σ' r = σ0 r) ∧ (∀ j, j < m → σ' 114 (24 * b + q + j) = σ0 114 (24 * a + p + j)) ∧ ∀ j, ¬ (24 * b + q ≤ j ∧ j < 24 * b + q + m) → σ' 114 j = σ0 114 j) 104 [some (.ref 97), some (.int (nI a)), some (.int (nI p)), some (.int (nI b)), some (.int (nI q)), some (.int (nI m)), some (.int (nI k1))] [] σ := by
  intro k
  induction k with
  | zero => intros; omega
  | succ k ih =>
    intro k1 σ hh hk
    obtain ⟨hr, hkm, h3⟩ := hh
    refine V_iload_6 dX7_copy_104 ?_
    refine V_iload_5 dX7_copy_106 ?_
    refine V_icmpN_ge (a := k1) (b := m) dX7_copy_108 138 (by decide) (by omega) (by omega) (fun h108 => ?_) (fun h108 => ?_)
    · refine V_iconst 0 dX7_copy_138 (by decide) ?_
      refine V_istore_6 dX7_copy_139 (by first | exact rfl | exact True.intro) (by decide) ?_
      have e114 := hr 114 (by decide)
      exact V.mono (fun r' σ' h => ⟨h.1, fun r c d => by rw [h.2.1 r c, hr r d], fun j hj => by rw [h.2.2.1 j hj]; exact h3 j (by omega), fun j hj => by rw [h.2.2.2 j hj, e114]⟩) (lp_m_copy2 (a := a) (p := p) hb hq hz2 (m + 1) 0 σ ⟨fun _ _ => rfl, by omega, fun j hj => absurd hj (Nat.not_lt_zero j), fun _ _ => rfl⟩ (by omega))
    · refine V_aloadn_0 dX7_copy_111 ?_
      refine V_getR dX7_copy_112 fl_X7_75 oM_moved ?_
      refine V_iload_6 dX7_copy_115 ?_
      refine V_aloadn_0 dX7_copy_117 ?_
      refine V_getR dX7_copy_118 fl_X7_60 oM_cells ?_
      refine V_bipush 24 dX7_copy_121 (by decide) ?_
      refine V_iloadn_1 dX7_copy_123 ?_
      refine V_imulN (a := 24) (b := a) dX7_copy_124 ?_
      refine V_iloadn_2 dX7_copy_125 ?_
      refine V_iaddN (a := 24 * a) (b := p) dX7_copy_126 ?_
      refine V_iload_6 dX7_copy_127 ?_
      refine V_iaddN (a := (24 * a) + p) (b := k1) dX7_copy_129 ?_
      refine V_iald (j := ((24 * a) + p) + k1) dX7_copy_130 aM_cells (by omega) (by decide) ?_
      refine V_iast (j := k1) dX7_copy_131 aM_moved (by omega) (by decide) ?_
      refine V_iinc_6 dX7_copy_132 (by first | exact rfl | exact True.intro) (by decide) (nI (k1 + 1)) (nI_inc _) ?_
      refine V_goto dX7_copy_135 104 (by decide) ?_
      refine ih (k1 + 1) _ ⟨fun r c => by rw [vup_p c]; exact hr r c, by omega, fun j hj => ?_⟩ (by omega)
      by_cases e : j = k1
      · rw [e, vup_same, hr 114 (by decide)]
      · rw [vup_ne (by omega)]; exact h3 j (by omega)

set_option maxRecDepth 100000 in
set_option maxHeartbeats 4000000 in
theorem m_copy {G : vG} {σ : vS} {d : Nat} (hd : 2 ≤ d) {a b : Nat} (ha : a < 4) (hb : b < 4) {z1 z2 p q m : Nat} (h1 : 0 ≤ σ 112 a) (h2 : 0 ≤ σ 112 b) (hse : σ 112 a = σ 112 b) (hz1 : σ 113 a = nI z1) (hz2 : σ 113 b = nI z2) (hp : p + m ≤ z1) (hq : q + m ≤ z2) (hz24 : z1 ≤ 24 ∧ z2 ≤ 24) : Cr G yX7_copy cX7_copy 7 (some .int) d [.ref 97, .int (nI a), .int (nI p), .int (nI b), .int (nI q), .int (nI m)] σ (some (.int (nI m))) (SM b (σ 112 b) z2 (cpF p q m (fun k => σ 114 (24 * a + k)) (fun k => σ 114 (24 * b + k))) σ) := by
  refine Ct.ofV (by decide) (Nat.le_of_ble_eq_true rfl) rfl ?_
  show V G RX7 cX7_copy (some .int) 7 d _ 0 [some (.ref 97), some (.int (nI a)), some (.int (nI p)), some (.int (nI b)), some (.int (nI q)), some (.int (nI m)), none] [] _
  obtain ⟨d, rfl⟩ : ∃ e, d = e + 1 := ⟨d - 1, by omega⟩
  refine V_iloadn_1 dX7_copy_0 ?_
  refine V_cs1f dX7_copy_1 cs_X7_192 (Nat.le_of_ble_eq_true rfl) (k_M_isSheet (by omega)) ?_
  refine V_ifB_eq dX7_copy_4 14 (by decide) (fun h4 => ?_) (fun h4 => ?_)
  · exact absurd (hasN ha (by decide)) h4
  · refine V_iloadn_3 dX7_copy_7 ?_
    refine V_cs1f dX7_copy_8 cs_X7_192 (Nat.le_of_ble_eq_true rfl) (k_M_isSheet (by omega)) ?_
    refine V_ifB_ne dX7_copy_11 17 (by decide) (fun h11 => ?_) (fun h11 => ?_)
    · refine V_aloadn_0 dX7_copy_17 ?_
      refine V_getR dX7_copy_18 fl_X7_54 oM_sorts ?_
      refine V_iloadn_1 dX7_copy_21 ?_
      refine V_iald (j := a) dX7_copy_22 aM_sorts (by omega) (by decide) ?_
      refine V_if_lt dX7_copy_23 35 (by decide) (fun h23 => ?_) (fun h23 => ?_)
      · exact absurd h23 (Int32.not_lt.mpr h1)
      · refine V_aloadn_0 dX7_copy_26 ?_
        refine V_getR dX7_copy_27 fl_X7_54 oM_sorts ?_
        refine V_iloadn_3 dX7_copy_30 ?_
        refine V_iald (j := b) dX7_copy_31 aM_sorts (by omega) (by decide) ?_
        refine V_if_ge dX7_copy_32 38 (by decide) (fun h32 => ?_) (fun h32 => ?_)
        · refine V_aloadn_0 dX7_copy_38 ?_
          refine V_getR dX7_copy_39 fl_X7_54 oM_sorts ?_
          refine V_iloadn_1 dX7_copy_42 ?_
          refine V_iald (j := a) dX7_copy_43 aM_sorts (by omega) (by decide) ?_
          refine V_aloadn_0 dX7_copy_44 ?_
          refine V_getR dX7_copy_45 fl_X7_54 oM_sorts ?_
          refine V_iloadn_3 dX7_copy_48 ?_
          refine V_iald (j := b) dX7_copy_49 aM_sorts (by omega) (by decide) ?_
          refine V_icmp_eq dX7_copy_50 56 (by decide) (fun h50 => ?_) (fun h50 => ?_)
          · refine V_iloadn_2 dX7_copy_56 ?_
            refine V_ifN_lt (a := p) dX7_copy_57 97 (by decide) (by omega) ?_
            refine V_iload_4 dX7_copy_60 ?_
            refine V_ifN_lt (a := q) dX7_copy_62 97 (by decide) (by omega) ?_
            refine V_iload_5 dX7_copy_65 ?_
            refine V_ifN_lt (a := m) dX7_copy_67 97 (by decide) (by omega) ?_
            refine V_iloadn_2 dX7_copy_70 ?_
            refine V_aloadn_0 dX7_copy_71 ?_
            refine V_getR dX7_copy_72 fl_X7_57 oM_sizes ?_
            refine V_iloadn_1 dX7_copy_75 ?_
            refine V_iald (j := a) dX7_copy_76 aM_sizes (by omega) (by decide) ?_
            refine V_topi (y := nI z1) hz1 ?_
            refine V_iload_5 dX7_copy_77 ?_
            refine V_isubN (a := z1) (b := m) dX7_copy_79 (by omega) ?_
            refine V_icmpN_gt (a := p) (b := z1 - m) dX7_copy_80 97 (by decide) (by omega) (by omega) (fun h80 => ?_) (fun h80 => ?_)
            · exfalso; omega
            · refine V_iload_4 dX7_copy_83 ?_
              refine V_aloadn_0 dX7_copy_85 ?_
              refine V_getR dX7_copy_86 fl_X7_57 oM_sizes ?_
              refine V_iloadn_3 dX7_copy_89 ?_
              refine V_iald (j := b) dX7_copy_90 aM_sizes (by omega) (by decide) ?_
              refine V_topi (y := nI z2) hz2 ?_
              refine V_iload_5 dX7_copy_91 ?_
              refine V_isubN (a := z2) (b := m) dX7_copy_93 (by omega) ?_
              refine V_icmpN_le (a := q) (b := z2 - m) dX7_copy_94 101 (by decide) (by omega) (by omega) (fun h94 => ?_) (fun h94 => ?_)
              · refine V_iconst 0 dX7_copy_101 (by decide) ?_
                refine V_istore_6 dX7_copy_102 (by first | exact rfl | exact True.intro) (by decide) ?_
                refine V.mono (fun r' σ' h => ?_) (lp_m_copy1 ha hb hp hq hz24.1 hz24.2 (m + 1) 0 σ ⟨fun _ _ => rfl, by omega, fun j hj => absurd hj (Nat.not_lt_zero j)⟩ (by omega))
                obtain ⟨g1, g2, g3, g4⟩ := h
                refine ⟨g1, by rw [g2 112 (by decide) (by decide)], by rw [g2 113 (by decide) (by decide)]; exact hz2, fun k hk => ?_, fun j hj => ⟨by rw [g2 112 (by decide) (by decide)], by rw [g2 113 (by decide) (by decide)]⟩, fun j hj => g4 j (by omega), fun r _ _ c d => g2 r c d⟩
                unfold cpF
                by_cases e : q ≤ k ∧ k < q + m
                · have g := g3 (k - q) (by omega)
                  rw [if_pos e]
                  rw [show 24 * b + q + (k - q) = 24 * b + k by omega, show 24 * a + p + (k - q) = 24 * a + (p + (k - q)) by omega] at g
                  exact g
                · rw [if_neg e]
                  exact g4 _ (by omega)
              · exfalso; omega
          · exact absurd hse h50
        · exact absurd h2 h32
    · exact absurd (hasN hb (by decide)) h11

set_option maxRecDepth 100000 in
set_option maxHeartbeats 4000000 in
theorem m_copy_bad {G : vG} {σ : vS} {d : Nat} (hd : 2 ≤ d) {x y z u v : Int32} (hb : ¬ (hasI x 4 ∧ hasI z 4)) : Cf G yX7_copy cX7_copy 7 (some .int) d [.ref 97, .int x, .int y, .int z, .int u, .int v] σ (some (.int (-1000000001))) σ := by
  refine Ct.ofV (by decide) (Nat.le_of_ble_eq_true rfl) rfl ?_
  show V G RX7 cX7_copy (some .int) 7 d _ 0 [some (.ref 97), some (.int x), some (.int y), some (.int z), some (.int u), some (.int v), none] [] _
  obtain ⟨d, rfl⟩ : ∃ e, d = e + 1 := ⟨d - 1, by omega⟩
  refine V_iloadn_1 dX7_copy_0 ?_
  refine V_cs1f dX7_copy_1 cs_X7_192 (Nat.le_of_ble_eq_true rfl) (k_M_isSheet (by omega)) ?_
  refine V_ifB_eq dX7_copy_4 14 (by decide) (fun h4 => ?_) (fun h4 => ?_)
  · refine V_ldc (-1000000001) dX7_copy_14 cn_X7_86 ?_
    exact V_iret dX7_copy_16 ⟨rfl, rfl⟩
  · refine V_iloadn_3 dX7_copy_7 ?_
    refine V_cs1f dX7_copy_8 cs_X7_192 (Nat.le_of_ble_eq_true rfl) (k_M_isSheet (by omega)) ?_
    refine V_ifB_ne dX7_copy_11 17 (by decide) (fun h11 => ?_) (fun h11 => ?_)
    · exact absurd ⟨h4, h11⟩ hb
    · refine V_ldc (-1000000001) dX7_copy_14 cn_X7_86 ?_
      exact V_iret dX7_copy_16 ⟨rfl, rfl⟩

set_option maxRecDepth 100000 in
set_option maxHeartbeats 4000000 in
theorem op_copy {G : vG} {σ : vS} {d i : Nat} (hd : 100 ≤ d) (hi : i < 512) {x y z u v : Int32} (h : Inv i σ) : Op G yX6_copy cX6_copy 8 yX7_copy cX7_copy 7 d [.int x, .int y, .int z, .int u, .int v] i σ := by
  have hh := h
  obtain ⟨L, T, I, b, hT, hB, hM, hS, hO, hW, hR, hK⟩ := h
  have hC := hT.1
  have hE := hT.2.1
  have hI := hC.2.2.1
  have hn := hI.nc
  have hm := hI.np
  by_cases hx : hasI x 4 ∧ hasI z 4
  · obtain ⟨a, ha, rfl⟩ := (hasI_iff (by decide)).mp hx.1
    obtain ⟨c, hc, rfl⟩ := (hasI_iff (by decide)).mp hx.2
    obtain ⟨s1, s2, ⟨z1, z124, s3, s4⟩, s5⟩ := hS a ha
    obtain ⟨t1, t2, ⟨z2, z224, t3, t4⟩, t5⟩ := hS c hc
    rcases s2 with s2 | s2
    · exact Op.ask hh (Cf.fi (c_copy_no (by omega) ha hc (Or.inl (s1.trans s2)))) (fun σ1 f1 => Cf.fi (m_copy_no (by omega) ha hc (Or.inl (by rw [f1.p (q := 112) (by omega)]; exact so_no s2))))
    rcases id t2 with t2' | t2'
    · exact Op.ask hh (Cf.fi (c_copy_no (by omega) ha hc (Or.inr (t1.trans t2')))) (fun σ1 f1 => Cf.fi (m_copy_no (by omega) ha hc (Or.inr (by rw [f1.p (q := 112) (by omega)]; exact so_no t2'))))
    have k1 : σ (37 + 2 * a) 0 ≠ -1 := by rw [s1]; exact so_ne s2
    have k2 : σ (37 + 2 * c) 0 ≠ -1 := by rw [t1]; exact so_ne t2'
    by_cases he : σ 112 a = σ 112 c
    · have he' : σ (37 + 2 * a) 0 = σ (37 + 2 * c) 0 := by rw [s1, t1]; exact he
      by_cases hp : hpI y v z1 ∧ hpI u v z2
      · obtain ⟨p, m, pm, rfl, rfl⟩ := hp_ex z124 hp.1
        obtain ⟨q, m', qm, rfl, em⟩ := hp_ex z224 hp.2
        have em2 : m = m' := (nI_eq (by omega) (by omega)).mp em
        subst em2
        have ef : ∀ k, k < 24 → cpF p q m (σ (37 + 2 * a + 1)) (σ (37 + 2 * c + 1)) k = cpF p q m (fun k => σ 114 (24 * a + k)) (fun k => σ 114 (24 * c + k)) k := fun k hk => by
          unfold cpF
          split
          · exact (s5 _ (by omega)).1
          · exact (t5 _ hk).1
        refine Op.mk (c_copy (by omega) ha hc k1 k2 he' s3 t3 pm qm ⟨z124, z224⟩) (fun σ1 c1 => ?_)
        refine Ct.mono (fun r σ2 h2 => ⟨h2.1, hh.sheet (f := cpF p q m (fun k => σ 114 (24 * a + k)) (fun k => σ 114 (24 * c + k))) hc (by rw [t1]; exact t2) z224 (fun k hk => ?_) ⟨c1.1, c1.2.1, fun k hk => by rw [c1.2.2.1 k hk, ef k hk], c1.2.2.2⟩ ?_⟩) (m_copy (by omega) ha hc (by rw [c1.2.2.2 112 (by omega) (by omega)]; exact so_yes s2) (by rw [c1.2.2.2 112 (by omega) (by omega)]; exact so_yes t2') (by rw [c1.2.2.2 112 (by omega) (by omega)]; exact he) (by rw [c1.2.2.2 113 (by omega) (by omega)]; exact s4) (by rw [c1.2.2.2 113 (by omega) (by omega)]; exact t4) pm qm ⟨z124, z224⟩)
        · unfold cpF
          split
          · exact (s5 _ (by omega)).2
          · exact (t5 _ hk).2
        · have g := h2.2
          rw [c1.2.2.2 112 (by omega) (by omega), c1.2.2.2 114 (by omega) (by omega), ← t1] at g
          exact g
      · exact Op.ask hh (Cf.fi (c_copy_ix (by omega) ha hc k1 k2 he' s3 t3 hp)) (fun σ1 f1 => Cf.fi (m_copy_ix (by omega) ha hc (by rw [f1.p (q := 112) (by omega)]; exact so_yes s2) (by rw [f1.p (q := 112) (by omega)]; exact so_yes t2') (by rw [f1.p (q := 112) (by omega)]; exact he) (by rw [f1.p (q := 113) (by omega)]; exact s4) (by rw [f1.p (q := 113) (by omega)]; exact t4) hp ⟨z124, z224⟩))
    · exact Op.ask hh (Cf.fi (c_copy_k (by omega) ha hc k1 k2 (by rw [s1, t1]; exact he))) (fun σ1 f1 => Cf.fi (m_copy_k (by omega) ha hc (by rw [f1.p (q := 112) (by omega)]; exact so_yes s2) (by rw [f1.p (q := 112) (by omega)]; exact so_yes t2') (by rw [f1.p (q := 112) (by omega)]; exact he)))
  · exact Op.ask hh (Cf.fi (c_copy_bad (by omega) hx)) (fun σ1 f1 => Cf.fi (m_copy_bad (by omega) hx))
