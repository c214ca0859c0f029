/-! ===== sheets that change ===== -/
/-- the developers' sheet s is made so, z, f; the reference's too -/
def SC (s : Nat) (so : Int32) (z : Nat) (f : Nat → Int32) (σ σ' : vS) : Prop :=
  σ' (37 + 2 * s) 0 = so ∧ σ' (37 + 2 * s) 1 = nI z ∧ (∀ k, k < 24 → σ' (37 + 2 * s + 1) k = f k) ∧ ∀ q, q ≠ 37 + 2 * s → q ≠ 37 + 2 * s + 1 → σ' q = σ q
def SM (s : Nat) (so : Int32) (z : Nat) (f : Nat → Int32) (σ σ' : vS) : Prop :=
  σ' 112 s = so ∧ σ' 113 s = nI z ∧ (∀ k, k < 24 → σ' 114 (24 * s + k) = f k) ∧ (∀ j, j ≠ s → σ' 112 j = σ 112 j ∧ σ' 113 j = σ 113 j) ∧ (∀ j, ¬ (24 * s ≤ j ∧ j < 24 * s + 24) → σ' 114 j = σ 114 j) ∧
  ∀ q, q ≠ 112 → q ≠ 113 → q ≠ 114 → q ≠ 119 → σ' q = σ q
theorem Inv.sheet {i s z : Nat} {so : Int32} {f : Nat → Int32} {σ σ1 σ2 : vS} (h : Inv i σ) (hs : s < 4) (hso : so = -1 ∨ so = 0 ∨ so = 1) (hz : z ≤ 24) (hf : ∀ k, k < 24 → okV (f k)) (c : SC s so z f σ σ1) (m : SM s so z f σ1 σ2) : Inv (i + 1) σ2 := by
  obtain ⟨L, T, I, b, h1, h2, h3, h4, h5, h6, h7, h8⟩ := h
  obtain ⟨c1, c2, c3, c4⟩ := c
  obtain ⟨m1, m2, m3, m4, m5, m6⟩ := m
  have e : ∀ q, q ≠ 37 + 2 * s → q ≠ 37 + 2 * s + 1 → q ≠ 112 → q ≠ 113 → q ≠ 114 → q ≠ 119 → σ2 q = σ q := fun q a b c d f g => by rw [m6 q c d f g, c4 q a b]
  refine ⟨L, T, I, b, (h1.fq (fun q a => e q (by omega) (by omega) (by omega) (by omega) (by omega) (by omega))).up (by omega), h2.fq (by rw [e 0 (by omega) (by omega) (by omega) (by omega) (by omega) (by omega)]) (by rw [e 97 (by omega) (by omega) (by omega) (by omega) (by omega) (by omega)]),
    fun e1 => ((h3 e1).fq (fun q a => e q (by omega) (by omega) (by omega) (by omega) (by omega) (by omega))).up (by omega), ?_, h5.fq (fun q a => e q (by omega) (by omega) (by omega) (by omega) (by omega) (by omega)),
    h6.fq (by rw [e 0 (by omega) (by omega) (by omega) (by omega) (by omega) (by omega)]) (by rw [e 97 (by omega) (by omega) (by omega) (by omega) (by omega) (by omega)]) (e 7 (by omega) (by omega) (by omega) (by omega) (by omega) (by omega)) (e 120 (by omega) (by omega) (by omega) (by omega) (by omega) (by omega)),
    h7.fq (by rw [e 1 (by omega) (by omega) (by omega) (by omega) (by omega) (by omega)]) (by rw [e 97 (by omega) (by omega) (by omega) (by omega) (by omega) (by omega)]) (e 4 (by omega) (by omega) (by omega) (by omega) (by omega) (by omega)) (e 104 (by omega) (by omega) (by omega) (by omega) (by omega) (by omega)),
    h8.fq (e 105 (by omega) (by omega) (by omega) (by omega) (by omega) (by omega)) (e 106 (by omega) (by omega) (by omega) (by omega) (by omega) (by omega))⟩
  intro t ht
  by_cases et : t = s
  · subst et
    refine ⟨?_, by rw [m1]; exact hso, ⟨z, hz, ?_, m2⟩, fun k hk => ⟨?_, by rw [m3 k hk]; exact hf k hk⟩⟩
    · rw [m1, m6 _ (by omega) (by omega) (by omega) (by omega), c1]
    · rw [m6 _ (by omega) (by omega) (by omega) (by omega), c2]
    · rw [m3 k hk, m6 _ (by omega) (by omega) (by omega) (by omega), c3 k hk]
  · obtain ⟨g1, g2, ⟨y, y24, g3, g4⟩, g5⟩ := h4 t ht
    have e112 : σ1 112 = σ 112 := c4 112 (by omega) (by omega)
    have e113 : σ1 113 = σ 113 := c4 113 (by omega) (by omega)
    have e114 : σ1 114 = σ 114 := c4 114 (by omega) (by omega)
    have eo : σ2 (37 + 2 * t) = σ (37 + 2 * t) := e _ (by omega) (by omega) (by omega) (by omega) (by omega) (by omega)
    have ep : σ2 (37 + 2 * t + 1) = σ (37 + 2 * t + 1) := e _ (by omega) (by omega) (by omega) (by omega) (by omega) (by omega)
    rw [eo, ep, (m4 t et).1, (m4 t et).2, e112, e113]
    refine ⟨g1, g2, ⟨y, y24, g3, g4⟩, fun k hk => ?_⟩
    rw [m5 _ (by omega), e114]
    exact g5 k hk
theorem okV0 : okV 0 := Or.inr ⟨by decide, by decide⟩

set_option maxRecDepth 100000 in
set_option maxHeartbeats 4000000 in
theorem lp_S_clear {G : vG} {d : Nat} {σ0 : vS} {w z : Nat} {so : Int32} {a1 a2 : Int32} (hw : Shp w) : ∀ (k : Nat) (k1 : Nat) (σ : vS), ((∀ q, q ≠ w → q ≠ w + 1 → σ q = σ0 q) ∧ σ w 0 = so ∧ σ w 1 = nI z ∧ k1 ≤ 24 ∧ ∀ j, j < k1 → σ (w + 1) j = 0) → 24 - k1 < k → V G RX3 cX3_clear none 4 d (fun r' σ' => r' = none ∧ (∀ q, q ≠ w → q ≠ w + 1 → σ' q = σ0 q) ∧ σ' w 0 = so ∧ σ' w 1 = nI z ∧ ∀ j, j < 24 → σ' (w + 1) j = 0) 12 [some (.ref w), some (.int a1), some (.int a2), some (.int (nI k1))] [] σ := by
  intro k
  induction k with
  | zero => intros; omega
  | succ k ih =>
    intro k1 σ hh hk
    obtain ⟨hs, h0, h1, hk24, hz⟩ := hh
    refine V_iloadn_3 dX3_clear_12 ?_
    refine V_bipush 24 dX3_clear_13 (by decide) ?_
    refine V_icmpN_ge (a := k1) (b := 24) dX3_clear_15 31 (by decide) (by omega) (by omega) (fun h15 => ?_) (fun h15 => ?_)
    · exact V_vret dX3_clear_31 ⟨rfl, hs, h0, h1, fun j hj => hz j (by omega)⟩
    · refine V_aloadn_0 dX3_clear_18 ?_
      refine V_getR dX3_clear_19 fl_X3_15 (oS_places hw) ?_
      refine V_iloadn_3 dX3_clear_22 ?_
      refine V_iconst 0 dX3_clear_23 (by decide) ?_
      refine V_iast (j := k1) dX3_clear_24 (aS_places hw) (by omega) (by decide) ?_
      refine V_iinc_3 dX3_clear_25 (by first | exact rfl | exact True.intro) (by decide) (nI (k1 + 1)) (nI_inc _) ?_
      refine V_goto dX3_clear_28 12 (by decide) ?_
      refine ih (k1 + 1) _ ⟨fun q a b => by rw [vup_p b]; exact hs q a b, by rw [vup_ne (by omega)]; exact h0, by rw [vup_ne (by omega)]; exact h1, by omega, fun j hj => ?_⟩ (by omega)
      by_cases e : j = k1
      · rw [e, vup_same]
      · rw [vup_ne (by omega)]; exact hz j (by omega)

set_option maxRecDepth 100000 in
set_option maxHeartbeats 4000000 in
theorem k_S_clear {G : vG} {σ : vS} {d : Nat} {w z : Nat} {so : Int32} (hw : Shp w) : Cr G yX3_clear cX3_clear 4 none d [.ref w, .int so, .int (nI z)] σ none (fun σ' => (∀ q, q ≠ w → q ≠ w + 1 → σ' q = σ q) ∧ σ' w 0 = so ∧ σ' w 1 = nI z ∧ ∀ j, j < 24 → σ' (w + 1) j = 0) := by
  refine Ct.ofV (by decide) (Nat.le_of_ble_eq_true rfl) rfl ?_
  show V G RX3 cX3_clear none 4 d _ 0 [some (.ref w), some (.int so), some (.int (nI z)), none] [] _
  refine V_aloadn_0 dX3_clear_0 ?_
  refine V_iloadn_1 dX3_clear_1 ?_
  refine V_putI dX3_clear_2 fp_X3_11 (oS_sort hw) ?_
  refine V_aloadn_0 dX3_clear_5 ?_
  refine V_iloadn_2 dX3_clear_6 ?_
  refine V_putI dX3_clear_7 fp_X3_19 (oS_size hw) ?_
  refine V_iconst 0 dX3_clear_10 (by decide) ?_
  refine V_istoren_3 dX3_clear_11 (by first | exact rfl | exact True.intro) (by decide) ?_
  exact lp_S_clear hw 25 0 _ ⟨fun q a b => by rw [vup_p a, vup_p a], by rw [vup_ne (by omega), vup_same], vup_same, by omega, fun j hj => absurd hj (Nat.not_lt_zero j)⟩ (by omega)

set_option maxRecDepth 100000 in
set_option maxHeartbeats 4000000 in
theorem c_sheet_m {G : vG} {σ : vS} {d : Nat} (hd : 2 ≤ d) {s : Nat} (hs : s < 4) {x : Int32} : Cr G yX6_sheet cX6_sheet 5 (some .int) d [.ref 0, .int (nI s), .int (-1), .int x] σ (some (.int 0)) (SC s (-1) 0 (fun _ => 0) σ) := by
  refine Ct.ofV (by decide) (Nat.le_of_ble_eq_true rfl) rfl ?_
  show V G RX6 cX6_sheet (some .int) 5 d _ 0 [some (.ref 0), some (.int (nI s)), some (.int (-1)), some (.int x), none] [] _
  obtain ⟨d, rfl⟩ : ∃ e, d = e + 1 := ⟨d - 1, by omega⟩
  refine V_iloadn_1 dX6_sheet_0 ?_
  refine V_cs1f dX6_sheet_1 cs_X6_203 (Nat.le_of_ble_eq_true rfl) (k_C_isSheet (by omega)) ?_
  refine V_ifB_eq dX6_sheet_4 16 (by decide) (fun h4 => ?_) (fun h4 => ?_)
  · exact absurd (hasN hs (by decide)) h4
  · refine V_iloadn_2 dX6_sheet_7 ?_
    refine V_iconst (-1) dX6_sheet_8 (by decide) ?_
    refine V_iconst 1 dX6_sheet_9 (by decide) ?_
    refine V_cs3f dX6_sheet_10 cs_X6_108 (Nat.le_of_ble_eq_true rfl) k_C_within ?_
    refine V_ifB_ne dX6_sheet_13 19 (by decide) (fun h13 => ?_) (fun h13 => ?_)
    · refine V_iloadn_2 dX6_sheet_19 ?_
      refine V_iconst (-1) dX6_sheet_20 (by decide) ?_
      refine V_icmp_ne_f dX6_sheet_21 28 (by decide) (by decide) ?_
      refine V_iconst 0 dX6_sheet_24 (by decide) ?_
      refine V_goto dX6_sheet_25 29 (by decide) ?_
      refine V_istore_4 dX6_sheet_29 (by first | exact rfl | exact True.intro) (by decide) ?_
      refine V_iload_4 dX6_sheet_31 ?_
      refine V_bipush 24 dX6_sheet_33 (by decide) ?_
      refine V_icmp_le_t dX6_sheet_35 41 (by decide) (by decide) ?_
      refine V_iload_4 dX6_sheet_41 ?_
      refine V_if_ge_t dX6_sheet_43 49 (by decide) (by decide) ?_
      refine V_aloadn_0 dX6_sheet_49 ?_
      refine V_getR dX6_sheet_50 fl_X6_18 oC_sheets ?_
      refine V_iloadn_1 dX6_sheet_53 ?_
      refine V_aald (j := s) dX6_sheet_54 (eSheet (by omega)) (by decide) ?_
      refine V_iloadn_2 dX6_sheet_55 ?_
      refine V_iload_4 dX6_sheet_56 ?_
      refine V_cv2n dX6_sheet_58 cv_X6_255 (rcS (Or.inl ⟨_, (by omega), rfl⟩)) (Nat.le_of_ble_eq_true rfl) (k_S_clear (z := 0) (Or.inl ⟨_, hs, rfl⟩)) (fun σ' h5 => ?_)
      refine V_iload_4 dX6_sheet_61 ?_
      exact V_iret dX6_sheet_63 ⟨rfl, h5.2.1, h5.2.2.1, h5.2.2.2, h5.1⟩
    · exact absurd (by decide) h13

set_option maxRecDepth 100000 in
set_option maxHeartbeats 4000000 in
theorem c_sheet_0 {G : vG} {σ : vS} {d : Nat} (hd : 2 ≤ d) {s z : Nat} (hs : s < 4) (hz : z ≤ 24) : Cr G yX6_sheet cX6_sheet 5 (some .int) d [.ref 0, .int (nI s), .int 0, .int (nI z)] σ (some (.int (nI z))) (SC s 0 z (fun _ => 0) σ) := by
  refine Ct.ofV (by decide) (Nat.le_of_ble_eq_true rfl) rfl ?_
  show V G RX6 cX6_sheet (some .int) 5 d _ 0 [some (.ref 0), some (.int (nI s)), some (.int 0), some (.int (nI z)), none] [] _
  obtain ⟨d, rfl⟩ : ∃ e, d = e + 1 := ⟨d - 1, by omega⟩
  refine V_iloadn_1 dX6_sheet_0 ?_
  refine V_cs1f dX6_sheet_1 cs_X6_203 (Nat.le_of_ble_eq_true rfl) (k_C_isSheet (by omega)) ?_
  refine V_ifB_eq dX6_sheet_4 16 (by decide) (fun h4 => ?_) (fun h4 => ?_)
  · exact absurd (hasN hs (by decide)) h4
  · refine V_iloadn_2 dX6_sheet_7 ?_
    refine V_iconst (-1) dX6_sheet_8 (by decide) ?_
    refine V_iconst 1 dX6_sheet_9 (by decide) ?_
    refine V_cs3f dX6_sheet_10 cs_X6_108 (Nat.le_of_ble_eq_true rfl) k_C_within ?_
    refine V_ifB_ne dX6_sheet_13 19 (by decide) (fun h13 => ?_) (fun h13 => ?_)
    · refine V_iloadn_2 dX6_sheet_19 ?_
      refine V_iconst (-1) dX6_sheet_20 (by decide) ?_
      refine V_icmp_ne_t dX6_sheet_21 28 (by decide) (by decide) ?_
      refine V_iloadn_3 dX6_sheet_28 ?_
      refine V_istore_4 dX6_sheet_29 (by first | exact rfl | exact True.intro) (by decide) ?_
      refine V_iload_4 dX6_sheet_31 ?_
      refine V_bipush 24 dX6_sheet_33 (by decide) ?_
      refine V_icmpN_le (a := z) (b := 24) dX6_sheet_35 41 (by decide) (by omega) (by omega) (fun h35 => ?_) (fun h35 => ?_)
      · refine V_iload_4 dX6_sheet_41 ?_
        refine V_ifN_ge (a := z) dX6_sheet_43 49 (by decide) (by omega) ?_
        refine V_aloadn_0 dX6_sheet_49 ?_
        refine V_getR dX6_sheet_50 fl_X6_18 oC_sheets ?_
        refine V_iloadn_1 dX6_sheet_53 ?_
        refine V_aald (j := s) dX6_sheet_54 (eSheet (by omega)) (by decide) ?_
        refine V_iloadn_2 dX6_sheet_55 ?_
        refine V_iload_4 dX6_sheet_56 ?_
        refine V_cv2n dX6_sheet_58 cv_X6_255 (rcS (Or.inl ⟨_, (by omega), rfl⟩)) (Nat.le_of_ble_eq_true rfl) (k_S_clear (Or.inl ⟨_, hs, rfl⟩)) (fun σ' h5 => ?_)
        refine V_iload_4 dX6_sheet_61 ?_
        exact V_iret dX6_sheet_63 ⟨rfl, h5.2.1, h5.2.2.1, h5.2.2.2, h5.1⟩
      · exfalso; omega
    · exact absurd (by decide) h13

set_option maxRecDepth 100000 in
set_option maxHeartbeats 4000000 in
theorem c_sheet_0_big {G : vG} {σ : vS} {d : Nat} (hd : 2 ≤ d) {s : Nat} (hs : s < 4) {x : Int32} (hx : 24 < x) : Cf G yX6_sheet cX6_sheet 5 (some .int) d [.ref 0, .int (nI s), .int 0, .int x] σ (some (.int (-1000000001))) σ := by
  refine Ct.ofV (by decide) (Nat.le_of_ble_eq_true rfl) rfl ?_
  show V G RX6 cX6_sheet (some .int) 5 d _ 0 [some (.ref 0), some (.int (nI s)), some (.int 0), some (.int x), none] [] _
  obtain ⟨d, rfl⟩ : ∃ e, d = e + 1 := ⟨d - 1, by omega⟩
  refine V_iloadn_1 dX6_sheet_0 ?_
  refine V_cs1f dX6_sheet_1 cs_X6_203 (Nat.le_of_ble_eq_true rfl) (k_C_isSheet (by omega)) ?_
  refine V_ifB_eq dX6_sheet_4 16 (by decide) (fun h4 => ?_) (fun h4 => ?_)
  · exact absurd (hasN hs (by decide)) h4
  · refine V_iloadn_2 dX6_sheet_7 ?_
    refine V_iconst (-1) dX6_sheet_8 (by decide) ?_
    refine V_iconst 1 dX6_sheet_9 (by decide) ?_
    refine V_cs3f dX6_sheet_10 cs_X6_108 (Nat.le_of_ble_eq_true rfl) k_C_within ?_
    refine V_ifB_ne dX6_sheet_13 19 (by decide) (fun h13 => ?_) (fun h13 => ?_)
    · refine V_iloadn_2 dX6_sheet_19 ?_
      refine V_iconst (-1) dX6_sheet_20 (by decide) ?_
      refine V_icmp_ne_t dX6_sheet_21 28 (by decide) (by decide) ?_
      refine V_iloadn_3 dX6_sheet_28 ?_
      refine V_istore_4 dX6_sheet_29 (by first | exact rfl | exact True.intro) (by decide) ?_
      refine V_iload_4 dX6_sheet_31 ?_
      refine V_bipush 24 dX6_sheet_33 (by decide) ?_
      refine V_icmp_le dX6_sheet_35 41 (by decide) (fun h35 => ?_) (fun h35 => ?_)
      · exact absurd h35 (Int32.not_le.mpr hx)
      · refine V_ldc (-1000000001) dX6_sheet_38 cn_X6_66 ?_
        exact V_iret dX6_sheet_40 ⟨rfl, rfl⟩
    · exact absurd (by decide) h13

set_option maxRecDepth 100000 in
set_option maxHeartbeats 4000000 in
theorem c_sheet_0_neg {G : vG} {σ : vS} {d : Nat} (hd : 2 ≤ d) {s : Nat} (hs : s < 4) {x : Int32} (hx : x < 0) : Cf G yX6_sheet cX6_sheet 5 (some .int) d [.ref 0, .int (nI s), .int 0, .int x] σ (some (.int (-1000000014))) σ := by
  refine Ct.ofV (by decide) (Nat.le_of_ble_eq_true rfl) rfl ?_
  show V G RX6 cX6_sheet (some .int) 5 d _ 0 [some (.ref 0), some (.int (nI s)), some (.int 0), some (.int x), none] [] _
  obtain ⟨d, rfl⟩ : ∃ e, d = e + 1 := ⟨d - 1, by omega⟩
  refine V_iloadn_1 dX6_sheet_0 ?_
  refine V_cs1f dX6_sheet_1 cs_X6_203 (Nat.le_of_ble_eq_true rfl) (k_C_isSheet (by omega)) ?_
  refine V_ifB_eq dX6_sheet_4 16 (by decide) (fun h4 => ?_) (fun h4 => ?_)
  · exact absurd (hasN hs (by decide)) h4
  · refine V_iloadn_2 dX6_sheet_7 ?_
    refine V_iconst (-1) dX6_sheet_8 (by decide) ?_
    refine V_iconst 1 dX6_sheet_9 (by decide) ?_
    refine V_cs3f dX6_sheet_10 cs_X6_108 (Nat.le_of_ble_eq_true rfl) k_C_within ?_
    refine V_ifB_ne dX6_sheet_13 19 (by decide) (fun h13 => ?_) (fun h13 => ?_)
    · refine V_iloadn_2 dX6_sheet_19 ?_
      refine V_iconst (-1) dX6_sheet_20 (by decide) ?_
      refine V_icmp_ne_t dX6_sheet_21 28 (by decide) (by decide) ?_
      refine V_iloadn_3 dX6_sheet_28 ?_
      refine V_istore_4 dX6_sheet_29 (by first | exact rfl | exact True.intro) (by decide) ?_
      refine V_iload_4 dX6_sheet_31 ?_
      refine V_bipush 24 dX6_sheet_33 (by decide) ?_
      refine V_icmp_le dX6_sheet_35 41 (by decide) (fun h35 => ?_) (fun h35 => ?_)
      · refine V_iload_4 dX6_sheet_41 ?_
        refine V_if_ge dX6_sheet_43 49 (by decide) (fun h43 => ?_) (fun h43 => ?_)
        · exact absurd h43 (Int32.not_le.mpr hx)
        · refine V_ldc (-1000000014) dX6_sheet_46 cn_X6_254 ?_
          exact V_iret dX6_sheet_48 ⟨rfl, rfl⟩
      · exact absurd (Int32.le_of_lt (Int32.lt_trans hx (by decide))) h35
    · exact absurd (by decide) h13

set_option maxRecDepth 100000 in
set_option maxHeartbeats 4000000 in
theorem c_sheet_1 {G : vG} {σ : vS} {d : Nat} (hd : 2 ≤ d) {s z : Nat} (hs : s < 4) (hz : z ≤ 24) : Cr G yX6_sheet cX6_sheet 5 (some .int) d [.ref 0, .int (nI s), .int 1, .int (nI z)] σ (some (.int (nI z))) (SC s 1 z (fun _ => 0) σ) := by
  refine Ct.ofV (by decide) (Nat.le_of_ble_eq_true rfl) rfl ?_
  show V G RX6 cX6_sheet (some .int) 5 d _ 0 [some (.ref 0), some (.int (nI s)), some (.int 1), some (.int (nI z)), none] [] _
  obtain ⟨d, rfl⟩ : ∃ e, d = e + 1 := ⟨d - 1, by omega⟩
  refine V_iloadn_1 dX6_sheet_0 ?_
  refine V_cs1f dX6_sheet_1 cs_X6_203 (Nat.le_of_ble_eq_true rfl) (k_C_isSheet (by omega)) ?_
  refine V_ifB_eq dX6_sheet_4 16 (by decide) (fun h4 => ?_) (fun h4 => ?_)
  · exact absurd (hasN hs (by decide)) h4
  · refine V_iloadn_2 dX6_sheet_7 ?_
    refine V_iconst (-1) dX6_sheet_8 (by decide) ?_
    refine V_iconst 1 dX6_sheet_9 (by decide) ?_
    refine V_cs3f dX6_sheet_10 cs_X6_108 (Nat.le_of_ble_eq_true rfl) k_C_within ?_
    refine V_ifB_ne dX6_sheet_13 19 (by decide) (fun h13 => ?_) (fun h13 => ?_)
    · refine V_iloadn_2 dX6_sheet_19 ?_
      refine V_iconst (-1) dX6_sheet_20 (by decide) ?_
      refine V_icmp_ne_t dX6_sheet_21 28 (by decide) (by decide) ?_
      refine V_iloadn_3 dX6_sheet_28 ?_
      refine V_istore_4 dX6_sheet_29 (by first | exact rfl | exact True.intro) (by decide) ?_
      refine V_iload_4 dX6_sheet_31 ?_
      refine V_bipush 24 dX6_sheet_33 (by decide) ?_
      refine V_icmpN_le (a := z) (b := 24) dX6_sheet_35 41 (by decide) (by omega) (by omega) (fun h35 => ?_) (fun h35 => ?_)
      · refine V_iload_4 dX6_sheet_41 ?_
        refine V_ifN_ge (a := z) dX6_sheet_43 49 (by decide) (by omega) ?_
        refine V_aloadn_0 dX6_sheet_49 ?_
        refine V_getR dX6_sheet_50 fl_X6_18 oC_sheets ?_
        refine V_iloadn_1 dX6_sheet_53 ?_
        refine V_aald (j := s) dX6_sheet_54 (eSheet (by omega)) (by decide) ?_
        refine V_iloadn_2 dX6_sheet_55 ?_
        refine V_iload_4 dX6_sheet_56 ?_
        refine V_cv2n dX6_sheet_58 cv_X6_255 (rcS (Or.inl ⟨_, (by omega), rfl⟩)) (Nat.le_of_ble_eq_true rfl) (k_S_clear (Or.inl ⟨_, hs, rfl⟩)) (fun σ' h5 => ?_)
        refine V_iload_4 dX6_sheet_61 ?_
        exact V_iret dX6_sheet_63 ⟨rfl, h5.2.1, h5.2.2.1, h5.2.2.2, h5.1⟩
      · exfalso; omega
    · exact absurd (by decide) h13

set_option maxRecDepth 100000 in
set_option maxHeartbeats 4000000 in
theorem c_sheet_1_big {G : vG} {σ : vS} {d : Nat} (hd : 2 ≤ d) {s : Nat} (hs : s < 4) {x : Int32} (hx : 24 < x) : Cf G yX6_sheet cX6_sheet 5 (some .int) d [.ref 0, .int (nI s), .int 1, .int x] σ (some (.int (-1000000001))) σ := by
  refine Ct.ofV (by decide) (Nat.le_of_ble_eq_true rfl) rfl ?_
  show V G RX6 cX6_sheet (some .int) 5 d _ 0 [some (.ref 0), some (.int (nI s)), some (.int 1), some (.int x), none] [] _
  obtain ⟨d, rfl⟩ : ∃ e, d = e + 1 := ⟨d - 1, by omega⟩
  refine V_iloadn_1 dX6_sheet_0 ?_
  refine V_cs1f dX6_sheet_1 cs_X6_203 (Nat.le_of_ble_eq_true rfl) (k_C_isSheet (by omega)) ?_
  refine V_ifB_eq dX6_sheet_4 16 (by decide) (fun h4 => ?_) (fun h4 => ?_)
  · exact absurd (hasN hs (by decide)) h4
  · refine V_iloadn_2 dX6_sheet_7 ?_
    refine V_iconst (-1) dX6_sheet_8 (by decide) ?_
    refine V_iconst 1 dX6_sheet_9 (by decide) ?_
    refine V_cs3f dX6_sheet_10 cs_X6_108 (Nat.le_of_ble_eq_true rfl) k_C_within ?_
    refine V_ifB_ne dX6_sheet_13 19 (by decide) (fun h13 => ?_) (fun h13 => ?_)
    · refine V_iloadn_2 dX6_sheet_19 ?_
      refine V_iconst (-1) dX6_sheet_20 (by decide) ?_
      refine V_icmp_ne_t dX6_sheet_21 28 (by decide) (by decide) ?_
      refine V_iloadn_3 dX6_sheet_28 ?_
      refine V_istore_4 dX6_sheet_29 (by first | exact rfl | exact True.intro) (by decide) ?_
      refine V_iload_4 dX6_sheet_31 ?_
      refine V_bipush 24 dX6_sheet_33 (by decide) ?_
      refine V_icmp_le dX6_sheet_35 41 (by decide) (fun h35 => ?_) (fun h35 => ?_)
      · exact absurd h35 (Int32.not_le.mpr hx)
      · refine V_ldc (-1000000001) dX6_sheet_38 cn_X6_66 ?_
        exact V_iret dX6_sheet_40 ⟨rfl, rfl⟩
    · exact absurd (by decide) h13

set_option maxRecDepth 100000 in
set_option maxHeartbeats 4000000 in
theorem c_sheet_1_neg {G : vG} {σ : vS} {d : Nat} (hd : 2 ≤ d) {s : Nat} (hs : s < 4) {x : Int32} (hx : x < 0) : Cf G yX6_sheet cX6_sheet 5 (some .int) d [.ref 0, .int (nI s), .int 1, .int x] σ (some (.int (-1000000014))) σ := by
  refine Ct.ofV (by decide) (Nat.le_of_ble_eq_true rfl) rfl ?_
  show V G RX6 cX6_sheet (some .int) 5 d _ 0 [some (.ref 0), some (.int (nI s)), some (.int 1), some (.int x), none] [] _
  obtain ⟨d, rfl⟩ : ∃ e, d = e + 1 := ⟨d - 1, by omega⟩
  refine V_iloadn_1 dX6_sheet_0 ?_
  refine V_cs1f dX6_sheet_1 cs_X6_203 (Nat.le_of_ble_eq_true rfl) (k_C_isSheet (by omega)) ?_
  refine V_ifB_eq dX6_sheet_4 16 (by decide) (fun h4 => ?_) (fun h4 => ?_)
  · exact absurd (hasN hs (by decide)) h4
  · refine V_iloadn_2 dX6_sheet_7 ?_
    refine V_iconst (-1) dX6_sheet_8 (by decide) ?_
    refine V_iconst 1 dX6_sheet_9 (by decide) ?_
    refine V_cs3f dX6_sheet_10 cs_X6_108 (Nat.le_of_ble_eq_true rfl) k_C_within ?_
    refine V_ifB_ne dX6_sheet_13 19 (by decide) (fun h13 => ?_) (fun h13 => ?_)
    · refine V_iloadn_2 dX6_sheet_19 ?_
      refine V_iconst (-1) dX6_sheet_20 (by decide) ?_
      refine V_icmp_ne_t dX6_sheet_21 28 (by decide) (by decide) ?_
      refine V_iloadn_3 dX6_sheet_28 ?_
      refine V_istore_4 dX6_sheet_29 (by first | exact rfl | exact True.intro) (by decide) ?_
      refine V_iload_4 dX6_sheet_31 ?_
      refine V_bipush 24 dX6_sheet_33 (by decide) ?_
      refine V_icmp_le dX6_sheet_35 41 (by decide) (fun h35 => ?_) (fun h35 => ?_)
      · refine V_iload_4 dX6_sheet_41 ?_
        refine V_if_ge dX6_sheet_43 49 (by decide) (fun h43 => ?_) (fun h43 => ?_)
        · exact absurd h43 (Int32.not_le.mpr hx)
        · refine V_ldc (-1000000014) dX6_sheet_46 cn_X6_254 ?_
          exact V_iret dX6_sheet_48 ⟨rfl, rfl⟩
      · exact absurd (Int32.le_of_lt (Int32.lt_trans hx (by decide))) h35
    · exact absurd (by decide) h13

set_option maxRecDepth 100000 in
set_option maxHeartbeats 4000000 in
theorem c_sheet_bad {G : vG} {σ : vS} {d : Nat} (hd : 2 ≤ d) {x y z : Int32} (hb : ¬ (hasI x 4 ∧ inI y (-1) 1)) : Cf G yX6_sheet cX6_sheet 5 (some .int) d [.ref 0, .int x, .int y, .int z] σ (some (.int (-1000000001))) σ := by
  refine Ct.ofV (by decide) (Nat.le_of_ble_eq_true rfl) rfl ?_
  show V G RX6 cX6_sheet (some .int) 5 d _ 0 [some (.ref 0), some (.int x), some (.int y), some (.int z), none] [] _
  obtain ⟨d, rfl⟩ : ∃ e, d = e + 1 := ⟨d - 1, by omega⟩
  refine V_iloadn_1 dX6_sheet_0 ?_
  refine V_cs1f dX6_sheet_1 cs_X6_203 (Nat.le_of_ble_eq_true rfl) (k_C_isSheet (by omega)) ?_
  refine V_ifB_eq dX6_sheet_4 16 (by decide) (fun h4 => ?_) (fun h4 => ?_)
  · refine V_ldc (-1000000001) dX6_sheet_16 cn_X6_66 ?_
    exact V_iret dX6_sheet_18 ⟨rfl, rfl⟩
  · refine V_iloadn_2 dX6_sheet_7 ?_
    refine V_iconst (-1) dX6_sheet_8 (by decide) ?_
    refine V_iconst 1 dX6_sheet_9 (by decide) ?_
    refine V_cs3f dX6_sheet_10 cs_X6_108 (Nat.le_of_ble_eq_true rfl) k_C_within ?_
    refine V_ifB_ne dX6_sheet_13 19 (by decide) (fun h13 => ?_) (fun h13 => ?_)
    · exact absurd ⟨h4, h13⟩ hb
    · refine V_ldc (-1000000001) dX6_sheet_16 cn_X6_66 ?_
      exact V_iret dX6_sheet_18 ⟨rfl, rfl⟩

set_option maxRecDepth 100000 in
set_option maxHeartbeats 4000000 in
theorem lp_m_sheet {G : vG} {d : Nat} {σ0 : vS} {s z : Nat} {so : Int32} {a2 a3 : Int32} (hs : s < 4) : ∀ (k : Nat) (k1 : Nat) (σ : vS), ((∀ q, q ≠ 112 → q ≠ 113 → q ≠ 114 → q ≠ 119 → σ q = σ0 q) ∧ σ 112 s = so ∧ σ 113 s = nI z ∧ (∀ j, j ≠ s → σ 112 j = σ0 112 j ∧ σ 113 j = σ0 113 j) ∧ (∀ j, ¬ (24 * s ≤ j ∧ j < 24 * s + 24) → σ 114 j = σ0 114 j) ∧ k1 ≤ 24 ∧ ∀ j, j < k1 → σ 114 (24 * s + j) = 0) → 24 - k1 < k → V G RX7 cX7_sheet (some .int) 5 d (fun r' σ' => r' = some (.int (nI z)) ∧ SM s so z (fun _ => 0) σ0 σ') 66 [some (.ref 97), some (.int (nI s)), some (.int a2), some (.int a3), some (.int (nI k1))] [] σ := by
  intro k
  induction k with
  | zero => intros; omega
  | succ k ih =>
    intro k1 σ hh hk
    obtain ⟨hq, h0, h1, ho, hc, hk24, hz⟩ := hh
    refine V_iload_4 dX7_sheet_66 ?_
    refine V_bipush 24 dX7_sheet_68 (by decide) ?_
    refine V_icmpN_ge (a := k1) (b := 24) dX7_sheet_70 92 (by decide) (by omega) (by omega) (fun h70 => ?_) (fun h70 => ?_)
    · refine V_aloadn_0 dX7_sheet_92 ?_
      refine V_getR dX7_sheet_93 fl_X7_57 oM_sizes ?_
      refine V_iloadn_1 dX7_sheet_96 ?_
      refine V_iald (j := s) dX7_sheet_97 aM_sizes (by omega) (by decide) ?_
      refine V_topi (y := nI z) h1 ?_
      exact V_iret dX7_sheet_98 ⟨rfl, h0, h1, fun j hj => hz j (by omega), ho, hc, hq⟩
    · refine V_aloadn_0 dX7_sheet_73 ?_
      refine V_getR dX7_sheet_74 fl_X7_60 oM_cells ?_
      refine V_bipush 24 dX7_sheet_77 (by decide) ?_
      refine V_iloadn_1 dX7_sheet_79 ?_
      refine V_imulN (a := 24) (b := s) dX7_sheet_80 ?_
      refine V_iload_4 dX7_sheet_81 ?_
      refine V_iaddN (a := 24 * s) (b := k1) dX7_sheet_83 ?_
      refine V_iconst 0 dX7_sheet_84 (by decide) ?_
      refine V_iast (j := (24 * s) + k1) dX7_sheet_85 aM_cells (by omega) (by decide) ?_
      refine V_iinc_4 dX7_sheet_86 (by first | exact rfl | exact True.intro) (by decide) (nI (k1 + 1)) (nI_inc _) ?_
      refine V_goto dX7_sheet_89 66 (by decide) ?_
      refine ih (k1 + 1) _ ⟨fun q a b c d => by rw [vup_p c]; exact hq q a b c d, by rw [vup_ne (by omega)]; exact h0, by rw [vup_ne (by omega)]; exact h1, fun j hj => by rw [vup_ne (by omega), vup_ne (by omega)]; exact ho j hj, fun j hj => by rw [vup_ne (by omega)]; exact hc j hj, by omega, fun j hj => ?_⟩ (by omega)
      by_cases e : j = k1
      · rw [e, vup_same]
      · rw [vup_ne (by omega)]; exact hz j (by omega)

set_option maxRecDepth 100000 in
set_option maxHeartbeats 4000000 in
theorem m_sheet_m {G : vG} {σ : vS} {d : Nat} (hd : 2 ≤ d) {s : Nat} (hs : s < 4) {x : Int32} : Cr G yX7_sheet cX7_sheet 5 (some .int) d [.ref 97, .int (nI s), .int (-1), .int x] σ (some (.int (nI (0)))) (SM s (-1) (0) (fun _ => 0) σ) := by
  refine Ct.ofV (by decide) (Nat.le_of_ble_eq_true rfl) rfl ?_
  show V G RX7 cX7_sheet (some .int) 5 d _ 0 [some (.ref 97), some (.int (nI s)), some (.int (-1)), some (.int x), none] [] _
  obtain ⟨d, rfl⟩ : ∃ e, d = e + 1 := ⟨d - 1, by omega⟩
  refine V_iloadn_1 dX7_sheet_0 ?_
  refine V_cs1f dX7_sheet_1 cs_X7_192 (Nat.le_of_ble_eq_true rfl) (k_M_isSheet (by omega)) ?_
  refine V_ifB_eq dX7_sheet_4 26 (by decide) (fun h4 => ?_) (fun h4 => ?_)
  · exact absurd (hasN hs (by decide)) h4
  · refine V_iloadn_2 dX7_sheet_7 ?_
    refine V_iconst (-1) dX7_sheet_8 (by decide) ?_
    refine V_iconst 1 dX7_sheet_9 (by decide) ?_
    refine V_cs3f dX7_sheet_10 cs_X7_82 (Nat.le_of_ble_eq_true rfl) k_M_in ?_
    refine V_ifB_eq dX7_sheet_13 26 (by decide) (fun h13 => ?_) (fun h13 => ?_)
    · exact absurd (by decide) h13
    · refine V_iloadn_2 dX7_sheet_16 ?_
      refine V_if_lt_t dX7_sheet_17 29 (by decide) (by decide) ?_
      refine V_iloadn_2 dX7_sheet_29 ?_
      refine V_if_lt_t dX7_sheet_30 41 (by decide) (by decide) ?_
      refine V_aloadn_0 dX7_sheet_41 ?_
      refine V_getR dX7_sheet_42 fl_X7_54 oM_sorts ?_
      refine V_iloadn_1 dX7_sheet_45 ?_
      refine V_iloadn_2 dX7_sheet_46 ?_
      refine V_iast (j := s) dX7_sheet_47 aM_sorts (by omega) (by decide) ?_
      refine V_aloadn_0 dX7_sheet_48 ?_
      refine V_getR dX7_sheet_49 fl_X7_57 oM_sizes ?_
      refine V_iloadn_1 dX7_sheet_52 ?_
      refine V_iloadn_2 dX7_sheet_53 ?_
      refine V_if_ge_f dX7_sheet_54 61 (by decide) (by decide) ?_
      refine V_iconst 0 dX7_sheet_57 (by decide) ?_
      refine V_goto dX7_sheet_58 62 (by decide) ?_
      refine V_iast (j := s) dX7_sheet_62 aM_sizes (by omega) (by decide) ?_
      refine V_iconst 0 dX7_sheet_63 (by decide) ?_
      refine V_istore_4 dX7_sheet_64 (by first | exact rfl | exact True.intro) (by decide) ?_
      exact lp_m_sheet (z := 0) hs 25 0 _ ⟨fun q a b c d => by rw [vup_p b, vup_p a], by rw [vup_ne (by omega), vup_same], by first | exact vup_same | (rw [vup_same]; rfl), fun j hj => ⟨by rw [vup_ne (by omega), vup_ne (by omega)], by rw [vup_ne (by omega), vup_ne (by omega)]⟩, fun j hj => by rw [vup_ne (by omega), vup_ne (by omega)], by omega, fun j hj => absurd hj (Nat.not_lt_zero j)⟩ (by omega)

set_option maxRecDepth 100000 in
set_option maxHeartbeats 4000000 in
theorem m_sheet_0 {G : vG} {σ : vS} {d : Nat} (hd : 2 ≤ d) {s : Nat} (hs : s < 4) {z : Nat} (hz : z ≤ 24) : Cr G yX7_sheet cX7_sheet 5 (some .int) d [.ref 97, .int (nI s), .int 0, .int (nI z)] σ (some (.int (nI (z)))) (SM s 0 (z) (fun _ => 0) σ) := by
  refine Ct.ofV (by decide) (Nat.le_of_ble_eq_true rfl) rfl ?_
  show V G RX7 cX7_sheet (some .int) 5 d _ 0 [some (.ref 97), some (.int (nI s)), some (.int 0), some (.int (nI z)), none] [] _
  obtain ⟨d, rfl⟩ : ∃ e, d = e + 1 := ⟨d - 1, by omega⟩
  refine V_iloadn_1 dX7_sheet_0 ?_
  refine V_cs1f dX7_sheet_1 cs_X7_192 (Nat.le_of_ble_eq_true rfl) (k_M_isSheet (by omega)) ?_
  refine V_ifB_eq dX7_sheet_4 26 (by decide) (fun h4 => ?_) (fun h4 => ?_)
  · exact absurd (hasN hs (by decide)) h4
  · refine V_iloadn_2 dX7_sheet_7 ?_
    refine V_iconst (-1) dX7_sheet_8 (by decide) ?_
    refine V_iconst 1 dX7_sheet_9 (by decide) ?_
    refine V_cs3f dX7_sheet_10 cs_X7_82 (Nat.le_of_ble_eq_true rfl) k_M_in ?_
    refine V_ifB_eq dX7_sheet_13 26 (by decide) (fun h13 => ?_) (fun h13 => ?_)
    · exact absurd (by decide) h13
    · refine V_iloadn_2 dX7_sheet_16 ?_
      refine V_if_lt_f dX7_sheet_17 29 (by decide) (by decide) ?_
      refine V_iloadn_3 dX7_sheet_20 ?_
      refine V_bipush 24 dX7_sheet_21 (by decide) ?_
      refine V_icmpN_le (a := z) (b := 24) dX7_sheet_23 29 (by decide) (by omega) (by omega) (fun h23 => ?_) (fun h23 => ?_)
      · refine V_iloadn_2 dX7_sheet_29 ?_
        refine V_if_lt_f dX7_sheet_30 41 (by decide) (by decide) ?_
        refine V_iloadn_3 dX7_sheet_33 ?_
        refine V_ifN_ge (a := z) dX7_sheet_34 41 (by decide) (by omega) ?_
        refine V_aloadn_0 dX7_sheet_41 ?_
        refine V_getR dX7_sheet_42 fl_X7_54 oM_sorts ?_
        refine V_iloadn_1 dX7_sheet_45 ?_
        refine V_iloadn_2 dX7_sheet_46 ?_
        refine V_iast (j := s) dX7_sheet_47 aM_sorts (by omega) (by decide) ?_
        refine V_aloadn_0 dX7_sheet_48 ?_
        refine V_getR dX7_sheet_49 fl_X7_57 oM_sizes ?_
        refine V_iloadn_1 dX7_sheet_52 ?_
        refine V_iloadn_2 dX7_sheet_53 ?_
        refine V_if_ge_t dX7_sheet_54 61 (by decide) (by decide) ?_
        refine V_iloadn_3 dX7_sheet_61 ?_
        refine V_iast (j := s) dX7_sheet_62 aM_sizes (by omega) (by decide) ?_
        refine V_iconst 0 dX7_sheet_63 (by decide) ?_
        refine V_istore_4 dX7_sheet_64 (by first | exact rfl | exact True.intro) (by decide) ?_
        exact lp_m_sheet (z := z) hs 25 0 _ ⟨fun q a b c d => by rw [vup_p b, vup_p a], by rw [vup_ne (by omega), vup_same], by first | exact vup_same | (rw [vup_same]; rfl), fun j hj => ⟨by rw [vup_ne (by omega), vup_ne (by omega)], by rw [vup_ne (by omega), vup_ne (by omega)]⟩, fun j hj => by rw [vup_ne (by omega), vup_ne (by omega)], by omega, fun j hj => absurd hj (Nat.not_lt_zero j)⟩ (by omega)
      · exfalso; omega

set_option maxRecDepth 100000 in
set_option maxHeartbeats 4000000 in
theorem m_sheet_0_big {G : vG} {σ : vS} {d : Nat} (hd : 2 ≤ d) {s : Nat} (hs : s < 4) {x : Int32} (hx : 24 < x) : Cf G yX7_sheet cX7_sheet 5 (some .int) d [.ref 97, .int (nI s), .int 0, .int x] σ (some (.int (-1000000001))) σ := by
  refine Ct.ofV (by decide) (Nat.le_of_ble_eq_true rfl) rfl ?_
  show V G RX7 cX7_sheet (some .int) 5 d _ 0 [some (.ref 97), some (.int (nI s)), some (.int 0), some (.int x), none] [] _
  obtain ⟨d, rfl⟩ : ∃ e, d = e + 1 := ⟨d - 1, by omega⟩
  refine V_iloadn_1 dX7_sheet_0 ?_
  refine V_cs1f dX7_sheet_1 cs_X7_192 (Nat.le_of_ble_eq_true rfl) (k_M_isSheet (by omega)) ?_
  refine V_ifB_eq dX7_sheet_4 26 (by decide) (fun h4 => ?_) (fun h4 => ?_)
  · exact absurd (hasN hs (by decide)) h4
  · refine V_iloadn_2 dX7_sheet_7 ?_
    refine V_iconst (-1) dX7_sheet_8 (by decide) ?_
    refine V_iconst 1 dX7_sheet_9 (by decide) ?_
    refine V_cs3f dX7_sheet_10 cs_X7_82 (Nat.le_of_ble_eq_true rfl) k_M_in ?_
    refine V_ifB_eq dX7_sheet_13 26 (by decide) (fun h13 => ?_) (fun h13 => ?_)
    · exact absurd (by decide) h13
    · refine V_iloadn_2 dX7_sheet_16 ?_
      refine V_if_lt_f dX7_sheet_17 29 (by decide) (by decide) ?_
      refine V_iloadn_3 dX7_sheet_20 ?_
      refine V_bipush 24 dX7_sheet_21 (by decide) ?_
      refine V_icmp_le dX7_sheet_23 29 (by decide) (fun h23 => ?_) (fun h23 => ?_)
      · exact absurd h23 (Int32.not_le.mpr hx)
      · refine V_ldc (-1000000001) dX7_sheet_26 cn_X7_86 ?_
        exact V_iret dX7_sheet_28 ⟨rfl, rfl⟩

set_option maxRecDepth 100000 in
set_option maxHeartbeats 4000000 in
theorem m_sheet_0_neg {G : vG} {σ : vS} {d : Nat} (hd : 2 ≤ d) {s : Nat} (hs : s < 4) {x : Int32} (hx : x < 0) : Cf G yX7_sheet cX7_sheet 5 (some .int) d [.ref 97, .int (nI s), .int 0, .int x] σ (some (.int (-1000000014))) σ := by
  refine Ct.ofV (by decide) (Nat.le_of_ble_eq_true rfl) rfl ?_
  show V G RX7 cX7_sheet (some .int) 5 d _ 0 [some (.ref 97), some (.int (nI s)), some (.int 0), some (.int x), none] [] _
  obtain ⟨d, rfl⟩ : ∃ e, d = e + 1 := ⟨d - 1, by omega⟩
  refine V_iloadn_1 dX7_sheet_0 ?_
  refine V_cs1f dX7_sheet_1 cs_X7_192 (Nat.le_of_ble_eq_true rfl) (k_M_isSheet (by omega)) ?_
  refine V_ifB_eq dX7_sheet_4 26 (by decide) (fun h4 => ?_) (fun h4 => ?_)
  · exact absurd (hasN hs (by decide)) h4
  · refine V_iloadn_2 dX7_sheet_7 ?_
    refine V_iconst (-1) dX7_sheet_8 (by decide) ?_
    refine V_iconst 1 dX7_sheet_9 (by decide) ?_
    refine V_cs3f dX7_sheet_10 cs_X7_82 (Nat.le_of_ble_eq_true rfl) k_M_in ?_
    refine V_ifB_eq dX7_sheet_13 26 (by decide) (fun h13 => ?_) (fun h13 => ?_)
    · exact absurd (by decide) h13
    · refine V_iloadn_2 dX7_sheet_16 ?_
      refine V_if_lt_f dX7_sheet_17 29 (by decide) (by decide) ?_
      refine V_iloadn_3 dX7_sheet_20 ?_
      refine V_bipush 24 dX7_sheet_21 (by decide) ?_
      refine V_icmp_le dX7_sheet_23 29 (by decide) (fun h23 => ?_) (fun h23 => ?_)
      · refine V_iloadn_2 dX7_sheet_29 ?_
        refine V_if_lt_f dX7_sheet_30 41 (by decide) (by decide) ?_
        refine V_iloadn_3 dX7_sheet_33 ?_
        refine V_if_ge dX7_sheet_34 41 (by decide) (fun h34 => ?_) (fun h34 => ?_)
        · exact absurd h34 (Int32.not_le.mpr hx)
        · refine V_ldcw (-1000000014) dX7_sheet_37 cn_X7_271 ?_
          exact V_iret dX7_sheet_40 ⟨rfl, rfl⟩
      · exact absurd (Int32.le_of_lt (Int32.lt_trans hx (by decide))) h23

set_option maxRecDepth 100000 in
set_option maxHeartbeats 4000000 in
theorem m_sheet_1 {G : vG} {σ : vS} {d : Nat} (hd : 2 ≤ d) {s : Nat} (hs : s < 4) {z : Nat} (hz : z ≤ 24) : Cr G yX7_sheet cX7_sheet 5 (some .int) d [.ref 97, .int (nI s), .int 1, .int (nI z)] σ (some (.int (nI (z)))) (SM s 1 (z) (fun _ => 0) σ) := by
  refine Ct.ofV (by decide) (Nat.le_of_ble_eq_true rfl) rfl ?_
  show V G RX7 cX7_sheet (some .int) 5 d _ 0 [some (.ref 97), some (.int (nI s)), some (.int 1), some (.int (nI z)), none] [] _
  obtain ⟨d, rfl⟩ : ∃ e, d = e + 1 := ⟨d - 1, by omega⟩
  refine V_iloadn_1 dX7_sheet_0 ?_
  refine V_cs1f dX7_sheet_1 cs_X7_192 (Nat.le_of_ble_eq_true rfl) (k_M_isSheet (by omega)) ?_
  refine V_ifB_eq dX7_sheet_4 26 (by decide) (fun h4 => ?_) (fun h4 => ?_)
  · exact absurd (hasN hs (by decide)) h4
  · refine V_iloadn_2 dX7_sheet_7 ?_
    refine V_iconst (-1) dX7_sheet_8 (by decide) ?_
    refine V_iconst 1 dX7_sheet_9 (by decide) ?_
    refine V_cs3f dX7_sheet_10 cs_X7_82 (Nat.le_of_ble_eq_true rfl) k_M_in ?_
    refine V_ifB_eq dX7_sheet_13 26 (by decide) (fun h13 => ?_) (fun h13 => ?_)
    · exact absurd (by decide) h13
    · refine V_iloadn_2 dX7_sheet_16 ?_
      refine V_if_lt_f dX7_sheet_17 29 (by decide) (by decide) ?_
      refine V_iloadn_3 dX7_sheet_20 ?_
      refine V_bipush 24 dX7_sheet_21 (by decide) ?_
      refine V_icmpN_le (a := z) (b := 24) dX7_sheet_23 29 (by decide) (by omega) (by omega) (fun h23 => ?_) (fun h23 => ?_)
      · refine V_iloadn_2 dX7_sheet_29 ?_
        refine V_if_lt_f dX7_sheet_30 41 (by decide) (by decide) ?_
        refine V_iloadn_3 dX7_sheet_33 ?_
        refine V_ifN_ge (a := z) dX7_sheet_34 41 (by decide) (by omega) ?_
        refine V_aloadn_0 dX7_sheet_41 ?_
        refine V_getR dX7_sheet_42 fl_X7_54 oM_sorts ?_
        refine V_iloadn_1 dX7_sheet_45 ?_
        refine V_iloadn_2 dX7_sheet_46 ?_
        refine V_iast (j := s) dX7_sheet_47 aM_sorts (by omega) (by decide) ?_
        refine V_aloadn_0 dX7_sheet_48 ?_
        refine V_getR dX7_sheet_49 fl_X7_57 oM_sizes ?_
        refine V_iloadn_1 dX7_sheet_52 ?_
        refine V_iloadn_2 dX7_sheet_53 ?_
        refine V_if_ge_t dX7_sheet_54 61 (by decide) (by decide) ?_
        refine V_iloadn_3 dX7_sheet_61 ?_
        refine V_iast (j := s) dX7_sheet_62 aM_sizes (by omega) (by decide) ?_
        refine V_iconst 0 dX7_sheet_63 (by decide) ?_
        refine V_istore_4 dX7_sheet_64 (by first | exact rfl | exact True.intro) (by decide) ?_
        exact lp_m_sheet (z := z) hs 25 0 _ ⟨fun q a b c d => by rw [vup_p b, vup_p a], by rw [vup_ne (by omega), vup_same], by first | exact vup_same | (rw [vup_same]; rfl), fun j hj => ⟨by rw [vup_ne (by omega), vup_ne (by omega)], by rw [vup_ne (by omega), vup_ne (by omega)]⟩, fun j hj => by rw [vup_ne (by omega), vup_ne (by omega)], by omega, fun j hj => absurd hj (Nat.not_lt_zero j)⟩ (by omega)
      · exfalso; omega

set_option maxRecDepth 100000 in
set_option maxHeartbeats 4000000 in
theorem m_sheet_1_big {G : vG} {σ : vS} {d : Nat} (hd : 2 ≤ d) {s : Nat} (hs : s < 4) {x : Int32} (hx : 24 < x) : Cf G yX7_sheet cX7_sheet 5 (some .int) d [.ref 97, .int (nI s), .int 1, .int x] σ (some (.int (-1000000001))) σ := by
  refine Ct.ofV (by decide) (Nat.le_of_ble_eq_true rfl) rfl ?_
  show V G RX7 cX7_sheet (some .int) 5 d _ 0 [some (.ref 97), some (.int (nI s)), some (.int 1), some (.int x), none] [] _
  obtain ⟨d, rfl⟩ : ∃ e, d = e + 1 := ⟨d - 1, by omega⟩
  refine V_iloadn_1 dX7_sheet_0 ?_
  refine V_cs1f dX7_sheet_1 cs_X7_192 (Nat.le_of_ble_eq_true rfl) (k_M_isSheet (by omega)) ?_
  refine V_ifB_eq dX7_sheet_4 26 (by decide) (fun h4 => ?_) (fun h4 => ?_)
  · exact absurd (hasN hs (by decide)) h4
  · refine V_iloadn_2 dX7_sheet_7 ?_
    refine V_iconst (-1) dX7_sheet_8 (by decide) ?_
    refine V_iconst 1 dX7_sheet_9 (by decide) ?_
    refine V_cs3f dX7_sheet_10 cs_X7_82 (Nat.le_of_ble_eq_true rfl) k_M_in ?_
    refine V_ifB_eq dX7_sheet_13 26 (by decide) (fun h13 => ?_) (fun h13 => ?_)
    · exact absurd (by decide) h13
    · refine V_iloadn_2 dX7_sheet_16 ?_
      refine V_if_lt_f dX7_sheet_17 29 (by decide) (by decide) ?_
      refine V_iloadn_3 dX7_sheet_20 ?_
      refine V_bipush 24 dX7_sheet_21 (by decide) ?_
      refine V_icmp_le dX7_sheet_23 29 (by decide) (fun h23 => ?_) (fun h23 => ?_)
      · exact absurd h23 (Int32.not_le.mpr hx)
      · refine V_ldc (-1000000001) dX7_sheet_26 cn_X7_86 ?_
        exact V_iret dX7_sheet_28 ⟨rfl, rfl⟩

set_option maxRecDepth 100000 in
set_option maxHeartbeats 4000000 in
theorem m_sheet_1_neg {G : vG} {σ : vS} {d : Nat} (hd : 2 ≤ d) {s : Nat} (hs : s < 4) {x : Int32} (hx : x < 0) : Cf G yX7_sheet cX7_sheet 5 (some .int) d [.ref 97, .int (nI s), .int 1, .int x] σ (some (.int (-1000000014))) σ := by
  refine Ct.ofV (by decide) (Nat.le_of_ble_eq_true rfl) rfl ?_
  show V G RX7 cX7_sheet (some .int) 5 d _ 0 [some (.ref 97), some (.int (nI s)), some (.int 1), some (.int x), none] [] _
  obtain ⟨d, rfl⟩ : ∃ e, d = e + 1 := ⟨d - 1, by omega⟩
  refine V_iloadn_1 dX7_sheet_0 ?_
  refine V_cs1f dX7_sheet_1 cs_X7_192 (Nat.le_of_ble_eq_true rfl) (k_M_isSheet (by omega)) ?_
  refine V_ifB_eq dX7_sheet_4 26 (by decide) (fun h4 => ?_) (fun h4 => ?_)
  · exact absurd (hasN hs (by decide)) h4
  · refine V_iloadn_2 dX7_sheet_7 ?_
    refine V_iconst (-1) dX7_sheet_8 (by decide) ?_
    refine V_iconst 1 dX7_sheet_9 (by decide) ?_
    refine V_cs3f dX7_sheet_10 cs_X7_82 (Nat.le_of_ble_eq_true rfl) k_M_in ?_
    refine V_ifB_eq dX7_sheet_13 26 (by decide) (fun h13 => ?_) (fun h13 => ?_)
    · exact absurd (by decide) h13
    · refine V_iloadn_2 dX7_sheet_16 ?_
      refine V_if_lt_f dX7_sheet_17 29 (by decide) (by decide) ?_
      refine V_iloadn_3 dX7_sheet_20 ?_
      refine V_bipush 24 dX7_sheet_21 (by decide) ?_
      refine V_icmp_le dX7_sheet_23 29 (by decide) (fun h23 => ?_) (fun h23 => ?_)
      · refine V_iloadn_2 dX7_sheet_29 ?_
        refine V_if_lt_f dX7_sheet_30 41 (by decide) (by decide) ?_
        refine V_iloadn_3 dX7_sheet_33 ?_
        refine V_if_ge dX7_sheet_34 41 (by decide) (fun h34 => ?_) (fun h34 => ?_)
        · exact absurd h34 (Int32.not_le.mpr hx)
        · refine V_ldcw (-1000000014) dX7_sheet_37 cn_X7_271 ?_
          exact V_iret dX7_sheet_40 ⟨rfl, rfl⟩
      · exact absurd (Int32.le_of_lt (Int32.lt_trans hx (by decide))) h23

set_option maxRecDepth 100000 in
set_option maxHeartbeats 4000000 in
theorem m_sheet_bad {G : vG} {σ : vS} {d : Nat} (hd : 2 ≤ d) {x y z : Int32} (hb : ¬ (hasI x 4 ∧ inI y (-1) 1)) : Cf G yX7_sheet cX7_sheet 5 (some .int) d [.ref 97, .int x, .int y, .int z] σ (some (.int (-1000000001))) σ := by
  refine Ct.ofV (by decide) (Nat.le_of_ble_eq_true rfl) rfl ?_
  show V G RX7 cX7_sheet (some .int) 5 d _ 0 [some (.ref 97), some (.int x), some (.int y), some (.int z), none] [] _
  obtain ⟨d, rfl⟩ : ∃ e, d = e + 1 := ⟨d - 1, by omega⟩
  refine V_iloadn_1 dX7_sheet_0 ?_
  refine V_cs1f dX7_sheet_1 cs_X7_192 (Nat.le_of_ble_eq_true rfl) (k_M_isSheet (by omega)) ?_
  refine V_ifB_eq dX7_sheet_4 26 (by decide) (fun h4 => ?_) (fun h4 => ?_)
  · refine V_ldc (-1000000001) dX7_sheet_26 cn_X7_86 ?_
    exact V_iret dX7_sheet_28 ⟨rfl, rfl⟩
  · refine V_iloadn_2 dX7_sheet_7 ?_
    refine V_iconst (-1) dX7_sheet_8 (by decide) ?_
    refine V_iconst 1 dX7_sheet_9 (by decide) ?_
    refine V_cs3f dX7_sheet_10 cs_X7_82 (Nat.le_of_ble_eq_true rfl) k_M_in ?_
    refine V_ifB_eq dX7_sheet_13 26 (by decide) (fun h13 => ?_) (fun h13 => ?_)
    · refine V_ldc (-1000000001) dX7_sheet_26 cn_X7_86 ?_
      exact V_iret dX7_sheet_28 ⟨rfl, rfl⟩
    · exact absurd ⟨h4, h13⟩ hb

theorem in_m1 {y : Int32} (h : inI y (-1) 1) : y = -1 ∨ y = 0 ∨ y = 1 := by
  obtain ⟨h1, h2⟩ := h
  have e1 : (-1 : Int32).toInt = -1 := by decide
  have e2 : (1 : Int32).toInt = 1 := by decide
  have e3 : (0 : Int32).toInt = 0 := by decide
  rw [Int32.lt_iff_toInt_lt, e1] at h1
  rw [Int32.lt_iff_toInt_lt, e2] at h2
  rcases (show y.toInt = -1 ∨ y.toInt = 0 ∨ y.toInt = 1 by omega) with e | e | e
  · exact Or.inl (Int32.toInt_inj.mp (by rw [e, e1]))
  · exact Or.inr (Or.inl (Int32.toInt_inj.mp (by rw [e, e3])))
  · exact Or.inr (Or.inr (Int32.toInt_inj.mp (by rw [e, e2])))
theorem z_cases (x : Int32) : 24 < x ∨ x < 0 ∨ ∃ z, z ≤ 24 ∧ x = nI z := by
  by_cases h : inI x 0 (nI 24)
  · exact Or.inr (Or.inr ((inI_iff (by decide)).mp h))
  · by_cases h0 : x < 0
    · exact Or.inr (Or.inl h0)
    · left
      exact Classical.byContradiction (fun q => h ⟨h0, q⟩)

set_option maxRecDepth 100000 in
set_option maxHeartbeats 4000000 in
theorem op_sheet {G : vG} {σ : vS} {d i : Nat} (hd : 100 ≤ d) (hi : i < 512) {x y z : Int32} (h : Inv i σ) : Op G yX6_sheet cX6_sheet 5 yX7_sheet cX7_sheet 5 d [.int x, .int y, .int z] i σ := by
  have hh := h
  obtain ⟨L, T, I, b, hT, hB, hM, hS, hO, hW, hR, hK⟩ := h
  have hC := hT.1
  have hE := hT.2.1
  have hI := hC.2.2.1
  have hn := hI.nc
  have hm := hI.np
  by_cases hx : hasI x 4 ∧ inI y (-1) 1
  · obtain ⟨s, hs, rfl⟩ := (hasI_iff (by decide)).mp hx.1
    rcases in_m1 hx.2 with rfl | rfl | rfl
    · exact Op.mk (c_sheet_m (by omega) hs) (fun σ1 c1 => Ct.mono (fun r σ2 h2 => ⟨h2.1, hh.sheet hs (by decide) (by decide) (fun _ _ => okV0) c1 h2.2⟩) (m_sheet_m (by omega) hs))
    · rcases z_cases z with hz | hz | ⟨n, hn, rfl⟩
      · exact Op.ask hh (Cf.fi (c_sheet_0_big (by omega) hs hz)) (fun σ1 f1 => Cf.fi (m_sheet_0_big (by omega) hs hz))
      · exact Op.ask hh (Cf.fi (c_sheet_0_neg (by omega) hs hz)) (fun σ1 f1 => Cf.fi (m_sheet_0_neg (by omega) hs hz))
      · exact Op.mk (c_sheet_0 (by omega) hs hn) (fun σ1 c1 => Ct.mono (fun r σ2 h2 => ⟨h2.1, hh.sheet hs (by decide) hn (fun _ _ => okV0) c1 h2.2⟩) (m_sheet_0 (by omega) hs hn))
    · rcases z_cases z with hz | hz | ⟨n, hn, rfl⟩
      · exact Op.ask hh (Cf.fi (c_sheet_1_big (by omega) hs hz)) (fun σ1 f1 => Cf.fi (m_sheet_1_big (by omega) hs hz))
      · exact Op.ask hh (Cf.fi (c_sheet_1_neg (by omega) hs hz)) (fun σ1 f1 => Cf.fi (m_sheet_1_neg (by omega) hs hz))
      · exact Op.mk (c_sheet_1 (by omega) hs hn) (fun σ1 c1 => Ct.mono (fun r σ2 h2 => ⟨h2.1, hh.sheet hs (by decide) hn (fun _ _ => okV0) c1 h2.2⟩) (m_sheet_1 (by omega) hs hn))
  · exact Op.ask hh (Cf.fi (c_sheet_bad (by omega) hx)) (fun σ1 f1 => Cf.fi (m_sheet_bad (by omega) hx))

theorem i2s_ok (v : Int32) : okV v.toInt16.toInt32 := by
  have h : v.toInt16.toInt32.toInt = v.toInt16.toInt := Int16.toInt_toInt32 _
  have h1 := Int16.toInt_lt v.toInt16
  have h2 := Int16.le_toInt v.toInt16
  exact Or.inr ⟨by omega, by omega⟩
theorem fl_ok {v : Int32} (h : v = -1000000005 ∨ inI v (-99999) 99999) : okV v := by
  rcases h with h | h
  · exact Or.inl h
  · obtain ⟨h1, h2⟩ := h
    have e1 : (-99999 : Int32).toInt = -99999 := by decide
    have e2 : (99999 : Int32).toInt = 99999 := by decide
    rw [Int32.lt_iff_toInt_lt, e1] at h1
    rw [Int32.lt_iff_toInt_lt, e2] at h2
    exact Or.inr ⟨by omega, by omega⟩

set_option maxRecDepth 100000 in
set_option maxHeartbeats 4000000 in
theorem c_mark_0_ix {G : vG} {σ : vS} {d : Nat} (hd : 2 ≤ d) {s z : Nat} (hs : s < 4) {v : Int32} (hso : σ (37 + 2 * s) 0 = 0) (hz : σ (37 + 2 * s) 1 = nI z) (hz24 : z ≤ 24) {x : Int32} (hx : ¬ hasI x z) : Cf G yX6_mark cX6_mark 5 (some .int) d [.ref 0, .int (nI s), .int x, .int v] σ (some (.int (-1000000013))) σ := by
  refine Ct.ofV (by decide) (Nat.le_of_ble_eq_true rfl) rfl ?_
  show V G RX6 cX6_mark (some .int) 5 d _ 0 [some (.ref 0), some (.int (nI s)), some (.int x), some (.int v), none] [] _
  obtain ⟨d, rfl⟩ : ∃ e, d = e + 1 := ⟨d - 1, by omega⟩
  refine V_iloadn_1 dX6_mark_0 ?_
  refine V_cs1f dX6_mark_1 cs_X6_203 (Nat.le_of_ble_eq_true rfl) (k_C_isSheet (by omega)) ?_
  refine V_ifB_ne dX6_mark_4 10 (by decide) (fun h4 => ?_) (fun h4 => ?_)
  · refine V_aloadn_0 dX6_mark_10 ?_
    refine V_getR dX6_mark_11 fl_X6_18 oC_sheets ?_
    refine V_iloadn_1 dX6_mark_14 ?_
    refine V_aald (j := s) dX6_mark_15 (eSheet (by omega)) (by decide) ?_
    refine V_astore_4 dX6_mark_16 (by first | exact rfl | exact True.intro) (by decide) ?_
    refine V_aload_4 dX6_mark_18 ?_
    refine V_cv0f dX6_mark_20 cv_X6_206 (rcS (Or.inl ⟨_, (by omega), rfl⟩)) (Nat.le_of_ble_eq_true rfl) (k_S_isMissing (Or.inl ⟨_, (by omega), rfl⟩)) ?_
    refine V_ifB_eq dX6_mark_23 29 (by decide) (fun h23 => ?_) (fun h23 => ?_)
    · refine V_aload_4 dX6_mark_29 ?_
      refine V_iloadn_2 dX6_mark_31 ?_
      refine V_cv1f dX6_mark_32 cv_X6_258 (rcS (Or.inl ⟨_, (by omega), rfl⟩)) (Nat.le_of_ble_eq_true rfl) (k_S_hasPlace (Or.inl ⟨_, hs, rfl⟩) hz) ?_
      refine V_ifB_ne dX6_mark_35 42 (by decide) (fun h35 => ?_) (fun h35 => ?_)
      · exact absurd h35 hx
      · refine V_ldcw (-1000000013) dX6_mark_38 cn_X6_261 ?_
        exact V_iret dX6_mark_41 ⟨rfl, rfl⟩
    · exact absurd (hso.symm.trans h23) (by decide)
  · exact absurd (hasN hs (by decide)) h4

set_option maxRecDepth 100000 in
set_option maxHeartbeats 4000000 in
theorem c_mark_0 {G : vG} {σ : vS} {d : Nat} (hd : 2 ≤ d) {s z : Nat} (hs : s < 4) {v : Int32} (hso : σ (37 + 2 * s) 0 = 0) (hz : σ (37 + 2 * s) 1 = nI z) (hz24 : z ≤ 24) {p : Nat} (hp : p < z) (hv : v ≠ -1000000005) : Cr G yX6_mark cX6_mark 5 (some .int) d [.ref 0, .int (nI s), .int (nI p), .int v] σ (some (.int 1)) (SC s 0 z (fun k => if k = p then v.toInt16.toInt32 else σ (37 + 2 * s + 1) k) σ) := by
  refine Ct.ofV (by decide) (Nat.le_of_ble_eq_true rfl) rfl ?_
  show V G RX6 cX6_mark (some .int) 5 d _ 0 [some (.ref 0), some (.int (nI s)), some (.int (nI p)), some (.int v), none] [] _
  obtain ⟨d, rfl⟩ : ∃ e, d = e + 1 := ⟨d - 1, by omega⟩
  refine V_iloadn_1 dX6_mark_0 ?_
  refine V_cs1f dX6_mark_1 cs_X6_203 (Nat.le_of_ble_eq_true rfl) (k_C_isSheet (by omega)) ?_
  refine V_ifB_ne dX6_mark_4 10 (by decide) (fun h4 => ?_) (fun h4 => ?_)
  · refine V_aloadn_0 dX6_mark_10 ?_
    refine V_getR dX6_mark_11 fl_X6_18 oC_sheets ?_
    refine V_iloadn_1 dX6_mark_14 ?_
    refine V_aald (j := s) dX6_mark_15 (eSheet (by omega)) (by decide) ?_
    refine V_astore_4 dX6_mark_16 (by first | exact rfl | exact True.intro) (by decide) ?_
    refine V_aload_4 dX6_mark_18 ?_
    refine V_cv0f dX6_mark_20 cv_X6_206 (rcS (Or.inl ⟨_, (by omega), rfl⟩)) (Nat.le_of_ble_eq_true rfl) (k_S_isMissing (Or.inl ⟨_, (by omega), rfl⟩)) ?_
    refine V_ifB_eq dX6_mark_23 29 (by decide) (fun h23 => ?_) (fun h23 => ?_)
    · refine V_aload_4 dX6_mark_29 ?_
      refine V_iloadn_2 dX6_mark_31 ?_
      refine V_cv1f dX6_mark_32 cv_X6_258 (rcS (Or.inl ⟨_, (by omega), rfl⟩)) (Nat.le_of_ble_eq_true rfl) (k_S_hasPlace (Or.inl ⟨_, hs, rfl⟩) hz) ?_
      refine V_ifB_ne dX6_mark_35 42 (by decide) (fun h35 => ?_) (fun h35 => ?_)
      · refine V_aload_4 dX6_mark_42 ?_
        refine V_getI dX6_mark_44 fl_X6_262 (oS_sort (Or.inl ⟨_, (by omega), rfl⟩)) ?_
        refine V_topi (y := 0) hso ?_
        refine V_if_ne_f dX6_mark_47 59 (by decide) (by decide) ?_
        refine V_iloadn_3 dX6_mark_50 ?_
        refine V_ldc (-1000000005) dX6_mark_51 cn_X6_189 ?_
        refine V_icmp_ne dX6_mark_53 59 (by decide) (fun h53 => ?_) (fun h53 => ?_)
        · refine V_aload_4 dX6_mark_59 ?_
          refine V_getI dX6_mark_61 fl_X6_262 (oS_sort (Or.inl ⟨_, (by omega), rfl⟩)) ?_
          refine V_topi (y := 0) hso ?_
          refine V_iconst 1 dX6_mark_64 (by decide) ?_
          refine V_icmp_ne_t dX6_mark_65 90 (by decide) (by decide) ?_
          refine V_aload_4 dX6_mark_90 ?_
          refine V_getR dX6_mark_92 fl_X6_267 (oS_places (Or.inl ⟨_, (by omega), rfl⟩)) ?_
          refine V_iloadn_2 dX6_mark_95 ?_
          refine V_aload_4 dX6_mark_96 ?_
          refine V_getI dX6_mark_98 fl_X6_262 (oS_sort (Or.inl ⟨_, (by omega), rfl⟩)) ?_
          refine V_topi (y := 0) hso ?_
          refine V_if_ne_f dX6_mark_101 109 (by decide) (by decide) ?_
          refine V_iloadn_3 dX6_mark_104 ?_
          refine V_i2s dX6_mark_105 ?_
          refine V_goto dX6_mark_106 110 (by decide) ?_
          refine V_iast (j := p) dX6_mark_110 (aS_places (Or.inl ⟨_, (by omega), rfl⟩)) (by omega) (by decide) ?_
          refine V_iconst 1 dX6_mark_111 (by decide) ?_
          exact V_iret dX6_mark_112 ⟨rfl, by rw [vup_ne (by omega)]; exact hso, by rw [vup_ne (by omega)]; exact hz, fun k hk => by
              by_cases e : k = p
              · rw [e, vup_same]; exact (if_pos rfl).symm
              · rw [vup_ne (by omega)]; exact (if_neg e).symm, fun q a b => vup_p b⟩
        · exact absurd h53 hv
      · exact absurd (hasN hp (by omega)) h35
    · exact absurd (hso.symm.trans h23) (by decide)
  · exact absurd (hasN hs (by decide)) h4

set_option maxRecDepth 100000 in
set_option maxHeartbeats 4000000 in
theorem c_mark_1_ix {G : vG} {σ : vS} {d : Nat} (hd : 2 ≤ d) {s z : Nat} (hs : s < 4) {v : Int32} (hso : σ (37 + 2 * s) 0 = 1) (hz : σ (37 + 2 * s) 1 = nI z) (hz24 : z ≤ 24) {x : Int32} (hx : ¬ hasI x z) : Cf G yX6_mark cX6_mark 5 (some .int) d [.ref 0, .int (nI s), .int x, .int v] σ (some (.int (-1000000013))) σ := by
  refine Ct.ofV (by decide) (Nat.le_of_ble_eq_true rfl) rfl ?_
  show V G RX6 cX6_mark (some .int) 5 d _ 0 [some (.ref 0), some (.int (nI s)), some (.int x), some (.int v), none] [] _
  obtain ⟨d, rfl⟩ : ∃ e, d = e + 1 := ⟨d - 1, by omega⟩
  refine V_iloadn_1 dX6_mark_0 ?_
  refine V_cs1f dX6_mark_1 cs_X6_203 (Nat.le_of_ble_eq_true rfl) (k_C_isSheet (by omega)) ?_
  refine V_ifB_ne dX6_mark_4 10 (by decide) (fun h4 => ?_) (fun h4 => ?_)
  · refine V_aloadn_0 dX6_mark_10 ?_
    refine V_getR dX6_mark_11 fl_X6_18 oC_sheets ?_
    refine V_iloadn_1 dX6_mark_14 ?_
    refine V_aald (j := s) dX6_mark_15 (eSheet (by omega)) (by decide) ?_
    refine V_astore_4 dX6_mark_16 (by first | exact rfl | exact True.intro) (by decide) ?_
    refine V_aload_4 dX6_mark_18 ?_
    refine V_cv0f dX6_mark_20 cv_X6_206 (rcS (Or.inl ⟨_, (by omega), rfl⟩)) (Nat.le_of_ble_eq_true rfl) (k_S_isMissing (Or.inl ⟨_, (by omega), rfl⟩)) ?_
    refine V_ifB_eq dX6_mark_23 29 (by decide) (fun h23 => ?_) (fun h23 => ?_)
    · refine V_aload_4 dX6_mark_29 ?_
      refine V_iloadn_2 dX6_mark_31 ?_
      refine V_cv1f dX6_mark_32 cv_X6_258 (rcS (Or.inl ⟨_, (by omega), rfl⟩)) (Nat.le_of_ble_eq_true rfl) (k_S_hasPlace (Or.inl ⟨_, hs, rfl⟩) hz) ?_
      refine V_ifB_ne dX6_mark_35 42 (by decide) (fun h35 => ?_) (fun h35 => ?_)
      · exact absurd h35 hx
      · refine V_ldcw (-1000000013) dX6_mark_38 cn_X6_261 ?_
        exact V_iret dX6_mark_41 ⟨rfl, rfl⟩
    · exact absurd (hso.symm.trans h23) (by decide)
  · exact absurd (hasN hs (by decide)) h4

set_option maxRecDepth 100000 in
set_option maxHeartbeats 4000000 in
theorem c_mark_1 {G : vG} {σ : vS} {d : Nat} (hd : 2 ≤ d) {s z : Nat} (hs : s < 4) {v : Int32} (hso : σ (37 + 2 * s) 0 = 1) (hz : σ (37 + 2 * s) 1 = nI z) (hz24 : z ≤ 24) {p : Nat} (hp : p < z) (hv : v = -1000000005 ∨ inI v (-99999) 99999) : Cr G yX6_mark cX6_mark 5 (some .int) d [.ref 0, .int (nI s), .int (nI p), .int v] σ (some (.int 1)) (SC s 1 z (fun k => if k = p then v else σ (37 + 2 * s + 1) k) σ) := by
  refine Ct.ofV (by decide) (Nat.le_of_ble_eq_true rfl) rfl ?_
  show V G RX6 cX6_mark (some .int) 5 d _ 0 [some (.ref 0), some (.int (nI s)), some (.int (nI p)), some (.int v), none] [] _
  obtain ⟨d, rfl⟩ : ∃ e, d = e + 1 := ⟨d - 1, by omega⟩
  refine V_iloadn_1 dX6_mark_0 ?_
  refine V_cs1f dX6_mark_1 cs_X6_203 (Nat.le_of_ble_eq_true rfl) (k_C_isSheet (by omega)) ?_
  refine V_ifB_ne dX6_mark_4 10 (by decide) (fun h4 => ?_) (fun h4 => ?_)
  · refine V_aloadn_0 dX6_mark_10 ?_
    refine V_getR dX6_mark_11 fl_X6_18 oC_sheets ?_
    refine V_iloadn_1 dX6_mark_14 ?_
    refine V_aald (j := s) dX6_mark_15 (eSheet (by omega)) (by decide) ?_
    refine V_astore_4 dX6_mark_16 (by first | exact rfl | exact True.intro) (by decide) ?_
    refine V_aload_4 dX6_mark_18 ?_
    refine V_cv0f dX6_mark_20 cv_X6_206 (rcS (Or.inl ⟨_, (by omega), rfl⟩)) (Nat.le_of_ble_eq_true rfl) (k_S_isMissing (Or.inl ⟨_, (by omega), rfl⟩)) ?_
    refine V_ifB_eq dX6_mark_23 29 (by decide) (fun h23 => ?_) (fun h23 => ?_)
    · refine V_aload_4 dX6_mark_29 ?_
      refine V_iloadn_2 dX6_mark_31 ?_
      refine V_cv1f dX6_mark_32 cv_X6_258 (rcS (Or.inl ⟨_, (by omega), rfl⟩)) (Nat.le_of_ble_eq_true rfl) (k_S_hasPlace (Or.inl ⟨_, hs, rfl⟩) hz) ?_
      refine V_ifB_ne dX6_mark_35 42 (by decide) (fun h35 => ?_) (fun h35 => ?_)
      · refine V_aload_4 dX6_mark_42 ?_
        refine V_getI dX6_mark_44 fl_X6_262 (oS_sort (Or.inl ⟨_, (by omega), rfl⟩)) ?_
        refine V_topi (y := 1) hso ?_
        refine V_if_ne_t dX6_mark_47 59 (by decide) (by decide) ?_
        refine V_aload_4 dX6_mark_59 ?_
        refine V_getI dX6_mark_61 fl_X6_262 (oS_sort (Or.inl ⟨_, (by omega), rfl⟩)) ?_
        refine V_topi (y := 1) hso ?_
        refine V_iconst 1 dX6_mark_64 (by decide) ?_
        refine V_icmp_ne_f dX6_mark_65 90 (by decide) (by decide) ?_
        refine V_iloadn_3 dX6_mark_68 ?_
        refine V_ldc (-1000000005) dX6_mark_69 cn_X6_189 ?_
        refine V_icmp_eq dX6_mark_71 90 (by decide) (fun h71 => ?_) (fun h71 => ?_)
        · refine V_aload_4 dX6_mark_90 ?_
          refine V_getR dX6_mark_92 fl_X6_267 (oS_places (Or.inl ⟨_, (by omega), rfl⟩)) ?_
          refine V_iloadn_2 dX6_mark_95 ?_
          refine V_aload_4 dX6_mark_96 ?_
          refine V_getI dX6_mark_98 fl_X6_262 (oS_sort (Or.inl ⟨_, (by omega), rfl⟩)) ?_
          refine V_topi (y := 1) hso ?_
          refine V_if_ne_t dX6_mark_101 109 (by decide) (by decide) ?_
          refine V_iloadn_3 dX6_mark_109 ?_
          refine V_iast (j := p) dX6_mark_110 (aS_places (Or.inl ⟨_, (by omega), rfl⟩)) (by omega) (by decide) ?_
          refine V_iconst 1 dX6_mark_111 (by decide) ?_
          exact V_iret dX6_mark_112 ⟨rfl, by rw [vup_ne (by omega)]; exact hso, by rw [vup_ne (by omega)]; exact hz, fun k hk => by
              by_cases e : k = p
              · rw [e, vup_same]; exact (if_pos rfl).symm
              · rw [vup_ne (by omega)]; exact (if_neg e).symm, fun q a b => vup_p b⟩
        · refine V_iloadn_3 dX6_mark_74 ?_
          refine V_ldcw (-99999) dX6_mark_75 cn_X6_265 ?_
          refine V_ldcw 99999 dX6_mark_78 cn_X6_266 ?_
          refine V_cs3f dX6_mark_81 cs_X6_108 (Nat.le_of_ble_eq_true rfl) k_C_within ?_
          refine V_ifB_ne dX6_mark_84 90 (by decide) (fun h84 => ?_) (fun h84 => ?_)
          · refine V_aload_4 dX6_mark_90 ?_
            refine V_getR dX6_mark_92 fl_X6_267 (oS_places (Or.inl ⟨_, (by omega), rfl⟩)) ?_
            refine V_iloadn_2 dX6_mark_95 ?_
            refine V_aload_4 dX6_mark_96 ?_
            refine V_getI dX6_mark_98 fl_X6_262 (oS_sort (Or.inl ⟨_, (by omega), rfl⟩)) ?_
            refine V_topi (y := 1) hso ?_
            refine V_if_ne_t dX6_mark_101 109 (by decide) (by decide) ?_
            refine V_iloadn_3 dX6_mark_109 ?_
            refine V_iast (j := p) dX6_mark_110 (aS_places (Or.inl ⟨_, (by omega), rfl⟩)) (by omega) (by decide) ?_
            refine V_iconst 1 dX6_mark_111 (by decide) ?_
            exact V_iret dX6_mark_112 ⟨rfl, by rw [vup_ne (by omega)]; exact hso, by rw [vup_ne (by omega)]; exact hz, fun k hk => by
                by_cases e : k = p
                · rw [e, vup_same]; exact (if_pos rfl).symm
                · rw [vup_ne (by omega)]; exact (if_neg e).symm, fun q a b => vup_p b⟩
          · exact absurd (hv.resolve_left h71) h84
      · exact absurd (hasN hp (by omega)) h35
    · exact absurd (hso.symm.trans h23) (by decide)
  · exact absurd (hasN hs (by decide)) h4

set_option maxRecDepth 100000 in
set_option maxHeartbeats 4000000 in
theorem c_mark_0_k {G : vG} {σ : vS} {d : Nat} (hd : 2 ≤ d) {s z : Nat} (hs : s < 4)  (hso : σ (37 + 2 * s) 0 = 0) (hz : σ (37 + 2 * s) 1 = nI z) (hz24 : z ≤ 24) {p : Nat} (hp : p < z) : Cf G yX6_mark cX6_mark 5 (some .int) d [.ref 0, .int (nI s), .int (nI p), .int (-1000000005)] σ (some (.int (-1000000012))) σ := by
  refine Ct.ofV (by decide) (Nat.le_of_ble_eq_true rfl) rfl ?_
  show V G RX6 cX6_mark (some .int) 5 d _ 0 [some (.ref 0), some (.int (nI s)), some (.int (nI p)), some (.int (-1000000005)), none] [] _
  obtain ⟨d, rfl⟩ : ∃ e, d = e + 1 := ⟨d - 1, by omega⟩
  refine V_iloadn_1 dX6_mark_0 ?_
  refine V_cs1f dX6_mark_1 cs_X6_203 (Nat.le_of_ble_eq_true rfl) (k_C_isSheet (by omega)) ?_
  refine V_ifB_ne dX6_mark_4 10 (by decide) (fun h4 => ?_) (fun h4 => ?_)
  · refine V_aloadn_0 dX6_mark_10 ?_
    refine V_getR dX6_mark_11 fl_X6_18 oC_sheets ?_
    refine V_iloadn_1 dX6_mark_14 ?_
    refine V_aald (j := s) dX6_mark_15 (eSheet (by omega)) (by decide) ?_
    refine V_astore_4 dX6_mark_16 (by first | exact rfl | exact True.intro) (by decide) ?_
    refine V_aload_4 dX6_mark_18 ?_
    refine V_cv0f dX6_mark_20 cv_X6_206 (rcS (Or.inl ⟨_, (by omega), rfl⟩)) (Nat.le_of_ble_eq_true rfl) (k_S_isMissing (Or.inl ⟨_, (by omega), rfl⟩)) ?_
    refine V_ifB_eq dX6_mark_23 29 (by decide) (fun h23 => ?_) (fun h23 => ?_)
    · refine V_aload_4 dX6_mark_29 ?_
      refine V_iloadn_2 dX6_mark_31 ?_
      refine V_cv1f dX6_mark_32 cv_X6_258 (rcS (Or.inl ⟨_, (by omega), rfl⟩)) (Nat.le_of_ble_eq_true rfl) (k_S_hasPlace (Or.inl ⟨_, hs, rfl⟩) hz) ?_
      refine V_ifB_ne dX6_mark_35 42 (by decide) (fun h35 => ?_) (fun h35 => ?_)
      · refine V_aload_4 dX6_mark_42 ?_
        refine V_getI dX6_mark_44 fl_X6_262 (oS_sort (Or.inl ⟨_, (by omega), rfl⟩)) ?_
        refine V_topi (y := 0) hso ?_
        refine V_if_ne_f dX6_mark_47 59 (by decide) (by decide) ?_
        refine V_iloadn_3 dX6_mark_50 ?_
        refine V_ldc (-1000000005) dX6_mark_51 cn_X6_189 ?_
        refine V_icmp_ne_f dX6_mark_53 59 (by decide) (by decide) ?_
        refine V_ldc (-1000000012) dX6_mark_56 cn_X6_118 ?_
        exact V_iret dX6_mark_58 ⟨rfl, rfl⟩
      · exact absurd (hasN hp (by omega)) h35
    · exact absurd (hso.symm.trans h23) (by decide)
  · exact absurd (hasN hs (by decide)) h4

set_option maxRecDepth 100000 in
set_option maxHeartbeats 4000000 in
theorem c_mark_1_b {G : vG} {σ : vS} {d : Nat} (hd : 2 ≤ d) {s z : Nat} (hs : s < 4) {v : Int32} (hso : σ (37 + 2 * s) 0 = 1) (hz : σ (37 + 2 * s) 1 = nI z) (hz24 : z ≤ 24) {p : Nat} (hp : p < z) (hv : ¬ (v = -1000000005 ∨ inI v (-99999) 99999)) : Cf G yX6_mark cX6_mark 5 (some .int) d [.ref 0, .int (nI s), .int (nI p), .int v] σ (some (.int (-1000000001))) σ := by
  refine Ct.ofV (by decide) (Nat.le_of_ble_eq_true rfl) rfl ?_
  show V G RX6 cX6_mark (some .int) 5 d _ 0 [some (.ref 0), some (.int (nI s)), some (.int (nI p)), some (.int v), none] [] _
  obtain ⟨d, rfl⟩ : ∃ e, d = e + 1 := ⟨d - 1, by omega⟩
  refine V_iloadn_1 dX6_mark_0 ?_
  refine V_cs1f dX6_mark_1 cs_X6_203 (Nat.le_of_ble_eq_true rfl) (k_C_isSheet (by omega)) ?_
  refine V_ifB_ne dX6_mark_4 10 (by decide) (fun h4 => ?_) (fun h4 => ?_)
  · refine V_aloadn_0 dX6_mark_10 ?_
    refine V_getR dX6_mark_11 fl_X6_18 oC_sheets ?_
    refine V_iloadn_1 dX6_mark_14 ?_
    refine V_aald (j := s) dX6_mark_15 (eSheet (by omega)) (by decide) ?_
    refine V_astore_4 dX6_mark_16 (by first | exact rfl | exact True.intro) (by decide) ?_
    refine V_aload_4 dX6_mark_18 ?_
    refine V_cv0f dX6_mark_20 cv_X6_206 (rcS (Or.inl ⟨_, (by omega), rfl⟩)) (Nat.le_of_ble_eq_true rfl) (k_S_isMissing (Or.inl ⟨_, (by omega), rfl⟩)) ?_
    refine V_ifB_eq dX6_mark_23 29 (by decide) (fun h23 => ?_) (fun h23 => ?_)
    · refine V_aload_4 dX6_mark_29 ?_
      refine V_iloadn_2 dX6_mark_31 ?_
      refine V_cv1f dX6_mark_32 cv_X6_258 (rcS (Or.inl ⟨_, (by omega), rfl⟩)) (Nat.le_of_ble_eq_true rfl) (k_S_hasPlace (Or.inl ⟨_, hs, rfl⟩) hz) ?_
      refine V_ifB_ne dX6_mark_35 42 (by decide) (fun h35 => ?_) (fun h35 => ?_)
      · refine V_aload_4 dX6_mark_42 ?_
        refine V_getI dX6_mark_44 fl_X6_262 (oS_sort (Or.inl ⟨_, (by omega), rfl⟩)) ?_
        refine V_topi (y := 1) hso ?_
        refine V_if_ne_t dX6_mark_47 59 (by decide) (by decide) ?_
        refine V_aload_4 dX6_mark_59 ?_
        refine V_getI dX6_mark_61 fl_X6_262 (oS_sort (Or.inl ⟨_, (by omega), rfl⟩)) ?_
        refine V_topi (y := 1) hso ?_
        refine V_iconst 1 dX6_mark_64 (by decide) ?_
        refine V_icmp_ne_f dX6_mark_65 90 (by decide) (by decide) ?_
        refine V_iloadn_3 dX6_mark_68 ?_
        refine V_ldc (-1000000005) dX6_mark_69 cn_X6_189 ?_
        refine V_icmp_eq dX6_mark_71 90 (by decide) (fun h71 => ?_) (fun h71 => ?_)
        · exact absurd (Or.inl h71) hv
        · refine V_iloadn_3 dX6_mark_74 ?_
          refine V_ldcw (-99999) dX6_mark_75 cn_X6_265 ?_
          refine V_ldcw 99999 dX6_mark_78 cn_X6_266 ?_
          refine V_cs3f dX6_mark_81 cs_X6_108 (Nat.le_of_ble_eq_true rfl) k_C_within ?_
          refine V_ifB_ne dX6_mark_84 90 (by decide) (fun h84 => ?_) (fun h84 => ?_)
          · exact absurd (Or.inr h84) hv
          · refine V_ldc (-1000000001) dX6_mark_87 cn_X6_66 ?_
            exact V_iret dX6_mark_89 ⟨rfl, rfl⟩
      · exact absurd (hasN hp (by omega)) h35
    · exact absurd (hso.symm.trans h23) (by decide)
  · exact absurd (hasN hs (by decide)) h4

set_option maxRecDepth 100000 in
set_option maxHeartbeats 4000000 in
theorem c_mark_no {G : vG} {σ : vS} {d : Nat} (hd : 2 ≤ d) {s : Nat} (hs : s < 4) (hso : σ (37 + 2 * s) 0 = -1) {x y : Int32} : Cf G yX6_mark cX6_mark 5 (some .int) d [.ref 0, .int (nI s), .int x, .int y] σ (some (.int (-1000000011))) σ := by
  refine Ct.ofV (by decide) (Nat.le_of_ble_eq_true rfl) rfl ?_
  show V G RX6 cX6_mark (some .int) 5 d _ 0 [some (.ref 0), some (.int (nI s)), some (.int x), some (.int y), none] [] _
  obtain ⟨d, rfl⟩ : ∃ e, d = e + 1 := ⟨d - 1, by omega⟩
  refine V_iloadn_1 dX6_mark_0 ?_
  refine V_cs1f dX6_mark_1 cs_X6_203 (Nat.le_of_ble_eq_true rfl) (k_C_isSheet (by omega)) ?_
  refine V_ifB_ne dX6_mark_4 10 (by decide) (fun h4 => ?_) (fun h4 => ?_)
  · refine V_aloadn_0 dX6_mark_10 ?_
    refine V_getR dX6_mark_11 fl_X6_18 oC_sheets ?_
    refine V_iloadn_1 dX6_mark_14 ?_
    refine V_aald (j := s) dX6_mark_15 (eSheet (by omega)) (by decide) ?_
    refine V_astore_4 dX6_mark_16 (by first | exact rfl | exact True.intro) (by decide) ?_
    refine V_aload_4 dX6_mark_18 ?_
    refine V_cv0f dX6_mark_20 cv_X6_206 (rcS (Or.inl ⟨_, (by omega), rfl⟩)) (Nat.le_of_ble_eq_true rfl) (k_S_isMissing (Or.inl ⟨_, (by omega), rfl⟩)) ?_
    refine V_ifB_eq dX6_mark_23 29 (by decide) (fun h23 => ?_) (fun h23 => ?_)
    · exact absurd hso h23
    · refine V_ldc (-1000000011) dX6_mark_26 cn_X6_210 ?_
      exact V_iret dX6_mark_28 ⟨rfl, rfl⟩
  · exact absurd (hasN hs (by decide)) h4

set_option maxRecDepth 100000 in
set_option maxHeartbeats 4000000 in
theorem c_mark_bad {G : vG} {σ : vS} {d : Nat} (hd : 2 ≤ d) {x y z : Int32} (hb : ¬ (hasI x 4)) : Cf G yX6_mark cX6_mark 5 (some .int) d [.ref 0, .int x, .int y, .int z] σ (some (.int (-1000000001))) σ := by
  refine Ct.ofV (by decide) (Nat.le_of_ble_eq_true rfl) rfl ?_
  show V G RX6 cX6_mark (some .int) 5 d _ 0 [some (.ref 0), some (.int x), some (.int y), some (.int z), none] [] _
  obtain ⟨d, rfl⟩ : ∃ e, d = e + 1 := ⟨d - 1, by omega⟩
  refine V_iloadn_1 dX6_mark_0 ?_
  refine V_cs1f dX6_mark_1 cs_X6_203 (Nat.le_of_ble_eq_true rfl) (k_C_isSheet (by omega)) ?_
  refine V_ifB_ne dX6_mark_4 10 (by decide) (fun h4 => ?_) (fun h4 => ?_)
  · exact absurd h4 hb
  · refine V_ldc (-1000000001) dX6_mark_7 cn_X6_66 ?_
    exact V_iret dX6_mark_9 ⟨rfl, rfl⟩

set_option maxRecDepth 100000 in
set_option maxHeartbeats 4000000 in
theorem m_mark_0_ix {G : vG} {σ : vS} {d : Nat} (hd : 2 ≤ d) {s z : Nat} (hs : s < 4) {v : Int32} (hso : σ 112 s = 0) (hz : σ 113 s = nI z) (hz24 : z ≤ 24) {x : Int32} (hx : ¬ hasI x z) : Cf G yX7_mark cX7_mark 4 (some .int) d [.ref 97, .int (nI s), .int x, .int v] σ (some (.int (-1000000013))) σ := by
  refine Ct.ofV (by decide) (Nat.le_of_ble_eq_true rfl) rfl ?_
  show V G RX7 cX7_mark (some .int) 4 d _ 0 [some (.ref 97), some (.int (nI s)), some (.int x), some (.int v)] [] _
  obtain ⟨d, rfl⟩ : ∃ e, d = e + 1 := ⟨d - 1, by omega⟩
  refine V_iloadn_1 dX7_mark_0 ?_
  refine V_cs1f dX7_mark_1 cs_X7_192 (Nat.le_of_ble_eq_true rfl) (k_M_isSheet (by omega)) ?_
  refine V_ifB_ne dX7_mark_4 10 (by decide) (fun h4 => ?_) (fun h4 => ?_)
  · refine V_aloadn_0 dX7_mark_10 ?_
    refine V_getR dX7_mark_11 fl_X7_54 oM_sorts ?_
    refine V_iloadn_1 dX7_mark_14 ?_
    refine V_iald (j := s) dX7_mark_15 aM_sorts (by omega) (by decide) ?_
    refine V_topi (y := 0) hso ?_
    refine V_if_ge_t dX7_mark_16 22 (by decide) (by decide) ?_
    refine V_iloadn_2 dX7_mark_22 ?_
    refine V_iconst 0 dX7_mark_23 (by decide) ?_
    refine V_aloadn_0 dX7_mark_24 ?_
    refine V_getR dX7_mark_25 fl_X7_57 oM_sizes ?_
    refine V_iloadn_1 dX7_mark_28 ?_
    refine V_iald (j := s) dX7_mark_29 aM_sizes (by omega) (by decide) ?_
    refine V_topi (y := nI z) hz ?_
    refine V_iconst 1 dX7_mark_30 (by decide) ?_
    refine V_isub dX7_mark_31 ?_
    refine V_cs3f dX7_mark_32 cs_X7_82 (Nat.le_of_ble_eq_true rfl) k_M_in ?_
    refine V_ifB_ne dX7_mark_35 42 (by decide) (fun h35 => ?_) (fun h35 => ?_)
    · exact absurd ((in_has (by omega)).mp h35) hx
    · refine V_ldcw (-1000000013) dX7_mark_38 cn_X7_272 ?_
      exact V_iret dX7_mark_41 ⟨rfl, rfl⟩
  · exact absurd (hasN hs (by decide)) h4

set_option maxRecDepth 100000 in
set_option maxHeartbeats 4000000 in
theorem m_mark_0 {G : vG} {σ : vS} {d : Nat} (hd : 2 ≤ d) {s z : Nat} (hs : s < 4) {v : Int32} (hso : σ 112 s = 0) (hz : σ 113 s = nI z) (hz24 : z ≤ 24) {p : Nat} {f : Nat → Int32} (hp : p < z) (hf : ∀ k, k < 24 → σ 114 (24 * s + k) = f k) (hv : v ≠ -1000000005) : Cr G yX7_mark cX7_mark 4 (some .int) d [.ref 97, .int (nI s), .int (nI p), .int v] σ (some (.int 1)) (SM s 0 z (fun k => if k = p then v.toInt16.toInt32 else f k) σ) := by
  refine Ct.ofV (by decide) (Nat.le_of_ble_eq_true rfl) rfl ?_
  show V G RX7 cX7_mark (some .int) 4 d _ 0 [some (.ref 97), some (.int (nI s)), some (.int (nI p)), some (.int v)] [] _
  obtain ⟨d, rfl⟩ : ∃ e, d = e + 1 := ⟨d - 1, by omega⟩
  refine V_iloadn_1 dX7_mark_0 ?_
  refine V_cs1f dX7_mark_1 cs_X7_192 (Nat.le_of_ble_eq_true rfl) (k_M_isSheet (by omega)) ?_
  refine V_ifB_ne dX7_mark_4 10 (by decide) (fun h4 => ?_) (fun h4 => ?_)
  · refine V_aloadn_0 dX7_mark_10 ?_
    refine V_getR dX7_mark_11 fl_X7_54 oM_sorts ?_
    refine V_iloadn_1 dX7_mark_14 ?_
    refine V_iald (j := s) dX7_mark_15 aM_sorts (by omega) (by decide) ?_
    refine V_topi (y := 0) hso ?_
    refine V_if_ge_t dX7_mark_16 22 (by decide) (by decide) ?_
    refine V_iloadn_2 dX7_mark_22 ?_
    refine V_iconst 0 dX7_mark_23 (by decide) ?_
    refine V_aloadn_0 dX7_mark_24 ?_
    refine V_getR dX7_mark_25 fl_X7_57 oM_sizes ?_
    refine V_iloadn_1 dX7_mark_28 ?_
    refine V_iald (j := s) dX7_mark_29 aM_sizes (by omega) (by decide) ?_
    refine V_topi (y := nI z) hz ?_
    refine V_iconst 1 dX7_mark_30 (by decide) ?_
    refine V_isub dX7_mark_31 ?_
    refine V_cs3f dX7_mark_32 cs_X7_82 (Nat.le_of_ble_eq_true rfl) k_M_in ?_
    refine V_ifB_ne dX7_mark_35 42 (by decide) (fun h35 => ?_) (fun h35 => ?_)
    · refine V_aloadn_0 dX7_mark_42 ?_
      refine V_getR dX7_mark_43 fl_X7_54 oM_sorts ?_
      refine V_iloadn_1 dX7_mark_46 ?_
      refine V_iald (j := s) dX7_mark_47 aM_sorts (by omega) (by decide) ?_
      refine V_topi (y := 0) hso ?_
      refine V_if_ne_f dX7_mark_48 60 (by decide) (by decide) ?_
      refine V_iloadn_3 dX7_mark_51 ?_
      refine V_ldc (-1000000005) dX7_mark_52 cn_X7_81 ?_
      refine V_icmp_ne dX7_mark_54 60 (by decide) (fun h54 => ?_) (fun h54 => ?_)
      · refine V_aloadn_0 dX7_mark_60 ?_
        refine V_getR dX7_mark_61 fl_X7_54 oM_sorts ?_
        refine V_iloadn_1 dX7_mark_64 ?_
        refine V_iald (j := s) dX7_mark_65 aM_sorts (by omega) (by decide) ?_
        refine V_topi (y := 0) hso ?_
        refine V_iconst 1 dX7_mark_66 (by decide) ?_
        refine V_icmp_ne_t dX7_mark_67 92 (by decide) (by decide) ?_
        refine V_aloadn_0 dX7_mark_92 ?_
        refine V_getR dX7_mark_93 fl_X7_60 oM_cells ?_
        refine V_bipush 24 dX7_mark_96 (by decide) ?_
        refine V_iloadn_1 dX7_mark_98 ?_
        refine V_imulN (a := 24) (b := s) dX7_mark_99 ?_
        refine V_iloadn_2 dX7_mark_100 ?_
        refine V_iaddN (a := 24 * s) (b := p) dX7_mark_101 ?_
        refine V_aloadn_0 dX7_mark_102 ?_
        refine V_getR dX7_mark_103 fl_X7_54 oM_sorts ?_
        refine V_iloadn_1 dX7_mark_106 ?_
        refine V_iald (j := s) dX7_mark_107 aM_sorts (by omega) (by decide) ?_
        refine V_topi (y := 0) hso ?_
        refine V_if_ne_f dX7_mark_108 116 (by decide) (by decide) ?_
        refine V_iloadn_3 dX7_mark_111 ?_
        refine V_i2s dX7_mark_112 ?_
        refine V_goto dX7_mark_113 117 (by decide) ?_
        refine V_iast (j := (24 * s) + p) dX7_mark_117 aM_cells (by omega) (by decide) ?_
        refine V_iconst 1 dX7_mark_118 (by decide) ?_
        exact V_iret dX7_mark_119 ⟨rfl, by rw [vup_ne (by omega)]; exact hso, by rw [vup_ne (by omega)]; exact hz, fun k hk => by
            by_cases e : k = p
            · rw [e, vup_same]; exact (if_pos rfl).symm
            · rw [vup_ne (by omega), hf k hk]; exact (if_neg e).symm, fun j hj => ⟨by rw [vup_ne (by omega)], by rw [vup_ne (by omega)]⟩, fun j hj => by rw [vup_ne (by omega)], fun q a b c _ => vup_p c⟩
      · exact absurd h54 hv
    · exact absurd ((in_has (by omega)).mpr (hasN hp (by omega))) h35
  · exact absurd (hasN hs (by decide)) h4

set_option maxRecDepth 100000 in
set_option maxHeartbeats 4000000 in
theorem m_mark_1_ix {G : vG} {σ : vS} {d : Nat} (hd : 2 ≤ d) {s z : Nat} (hs : s < 4) {v : Int32} (hso : σ 112 s = 1) (hz : σ 113 s = nI z) (hz24 : z ≤ 24) {x : Int32} (hx : ¬ hasI x z) : Cf G yX7_mark cX7_mark 4 (some .int) d [.ref 97, .int (nI s), .int x, .int v] σ (some (.int (-1000000013))) σ := by
  refine Ct.ofV (by decide) (Nat.le_of_ble_eq_true rfl) rfl ?_
  show V G RX7 cX7_mark (some .int) 4 d _ 0 [some (.ref 97), some (.int (nI s)), some (.int x), some (.int v)] [] _
  obtain ⟨d, rfl⟩ : ∃ e, d = e + 1 := ⟨d - 1, by omega⟩
  refine V_iloadn_1 dX7_mark_0 ?_
  refine V_cs1f dX7_mark_1 cs_X7_192 (Nat.le_of_ble_eq_true rfl) (k_M_isSheet (by omega)) ?_
  refine V_ifB_ne dX7_mark_4 10 (by decide) (fun h4 => ?_) (fun h4 => ?_)
  · refine V_aloadn_0 dX7_mark_10 ?_
    refine V_getR dX7_mark_11 fl_X7_54 oM_sorts ?_
    refine V_iloadn_1 dX7_mark_14 ?_
    refine V_iald (j := s) dX7_mark_15 aM_sorts (by omega) (by decide) ?_
    refine V_topi (y := 1) hso ?_
    refine V_if_ge_t dX7_mark_16 22 (by decide) (by decide) ?_
    refine V_iloadn_2 dX7_mark_22 ?_
    refine V_iconst 0 dX7_mark_23 (by decide) ?_
    refine V_aloadn_0 dX7_mark_24 ?_
    refine V_getR dX7_mark_25 fl_X7_57 oM_sizes ?_
    refine V_iloadn_1 dX7_mark_28 ?_
    refine V_iald (j := s) dX7_mark_29 aM_sizes (by omega) (by decide) ?_
    refine V_topi (y := nI z) hz ?_
    refine V_iconst 1 dX7_mark_30 (by decide) ?_
    refine V_isub dX7_mark_31 ?_
    refine V_cs3f dX7_mark_32 cs_X7_82 (Nat.le_of_ble_eq_true rfl) k_M_in ?_
    refine V_ifB_ne dX7_mark_35 42 (by decide) (fun h35 => ?_) (fun h35 => ?_)
    · exact absurd ((in_has (by omega)).mp h35) hx
    · refine V_ldcw (-1000000013) dX7_mark_38 cn_X7_272 ?_
      exact V_iret dX7_mark_41 ⟨rfl, rfl⟩
  · exact absurd (hasN hs (by decide)) h4

set_option maxRecDepth 100000 in
set_option maxHeartbeats 4000000 in
theorem m_mark_1 {G : vG} {σ : vS} {d : Nat} (hd : 2 ≤ d) {s z : Nat} (hs : s < 4) {v : Int32} (hso : σ 112 s = 1) (hz : σ 113 s = nI z) (hz24 : z ≤ 24) {p : Nat} {f : Nat → Int32} (hp : p < z) (hf : ∀ k, k < 24 → σ 114 (24 * s + k) = f k) (hv : v = -1000000005 ∨ inI v (-99999) 99999) : Cr G yX7_mark cX7_mark 4 (some .int) d [.ref 97, .int (nI s), .int (nI p), .int v] σ (some (.int 1)) (SM s 1 z (fun k => if k = p then v else f k) σ) := by
  refine Ct.ofV (by decide) (Nat.le_of_ble_eq_true rfl) rfl ?_
  show V G RX7 cX7_mark (some .int) 4 d _ 0 [some (.ref 97), some (.int (nI s)), some (.int (nI p)), some (.int v)] [] _
  obtain ⟨d, rfl⟩ : ∃ e, d = e + 1 := ⟨d - 1, by omega⟩
  refine V_iloadn_1 dX7_mark_0 ?_
  refine V_cs1f dX7_mark_1 cs_X7_192 (Nat.le_of_ble_eq_true rfl) (k_M_isSheet (by omega)) ?_
  refine V_ifB_ne dX7_mark_4 10 (by decide) (fun h4 => ?_) (fun h4 => ?_)
  · refine V_aloadn_0 dX7_mark_10 ?_
    refine V_getR dX7_mark_11 fl_X7_54 oM_sorts ?_
    refine V_iloadn_1 dX7_mark_14 ?_
    refine V_iald (j := s) dX7_mark_15 aM_sorts (by omega) (by decide) ?_
    refine V_topi (y := 1) hso ?_
    refine V_if_ge_t dX7_mark_16 22 (by decide) (by decide) ?_
    refine V_iloadn_2 dX7_mark_22 ?_
    refine V_iconst 0 dX7_mark_23 (by decide) ?_
    refine V_aloadn_0 dX7_mark_24 ?_
    refine V_getR dX7_mark_25 fl_X7_57 oM_sizes ?_
    refine V_iloadn_1 dX7_mark_28 ?_
    refine V_iald (j := s) dX7_mark_29 aM_sizes (by omega) (by decide) ?_
    refine V_topi (y := nI z) hz ?_
    refine V_iconst 1 dX7_mark_30 (by decide) ?_
    refine V_isub dX7_mark_31 ?_
    refine V_cs3f dX7_mark_32 cs_X7_82 (Nat.le_of_ble_eq_true rfl) k_M_in ?_
    refine V_ifB_ne dX7_mark_35 42 (by decide) (fun h35 => ?_) (fun h35 => ?_)
    · refine V_aloadn_0 dX7_mark_42 ?_
      refine V_getR dX7_mark_43 fl_X7_54 oM_sorts ?_
      refine V_iloadn_1 dX7_mark_46 ?_
      refine V_iald (j := s) dX7_mark_47 aM_sorts (by omega) (by decide) ?_
      refine V_topi (y := 1) hso ?_
      refine V_if_ne_t dX7_mark_48 60 (by decide) (by decide) ?_
      refine V_aloadn_0 dX7_mark_60 ?_
      refine V_getR dX7_mark_61 fl_X7_54 oM_sorts ?_
      refine V_iloadn_1 dX7_mark_64 ?_
      refine V_iald (j := s) dX7_mark_65 aM_sorts (by omega) (by decide) ?_
      refine V_topi (y := 1) hso ?_
      refine V_iconst 1 dX7_mark_66 (by decide) ?_
      refine V_icmp_ne_f dX7_mark_67 92 (by decide) (by decide) ?_
      refine V_iloadn_3 dX7_mark_70 ?_
      refine V_ldc (-1000000005) dX7_mark_71 cn_X7_81 ?_
      refine V_icmp_eq dX7_mark_73 92 (by decide) (fun h73 => ?_) (fun h73 => ?_)
      · refine V_aloadn_0 dX7_mark_92 ?_
        refine V_getR dX7_mark_93 fl_X7_60 oM_cells ?_
        refine V_bipush 24 dX7_mark_96 (by decide) ?_
        refine V_iloadn_1 dX7_mark_98 ?_
        refine V_imulN (a := 24) (b := s) dX7_mark_99 ?_
        refine V_iloadn_2 dX7_mark_100 ?_
        refine V_iaddN (a := 24 * s) (b := p) dX7_mark_101 ?_
        refine V_aloadn_0 dX7_mark_102 ?_
        refine V_getR dX7_mark_103 fl_X7_54 oM_sorts ?_
        refine V_iloadn_1 dX7_mark_106 ?_
        refine V_iald (j := s) dX7_mark_107 aM_sorts (by omega) (by decide) ?_
        refine V_topi (y := 1) hso ?_
        refine V_if_ne_t dX7_mark_108 116 (by decide) (by decide) ?_
        refine V_iloadn_3 dX7_mark_116 ?_
        refine V_iast (j := (24 * s) + p) dX7_mark_117 aM_cells (by omega) (by decide) ?_
        refine V_iconst 1 dX7_mark_118 (by decide) ?_
        exact V_iret dX7_mark_119 ⟨rfl, by rw [vup_ne (by omega)]; exact hso, by rw [vup_ne (by omega)]; exact hz, fun k hk => by
            by_cases e : k = p
            · rw [e, vup_same]; exact (if_pos rfl).symm
            · rw [vup_ne (by omega), hf k hk]; exact (if_neg e).symm, fun j hj => ⟨by rw [vup_ne (by omega)], by rw [vup_ne (by omega)]⟩, fun j hj => by rw [vup_ne (by omega)], fun q a b c _ => vup_p c⟩
      · refine V_iloadn_3 dX7_mark_76 ?_
        refine V_ldcw (-99999) dX7_mark_77 cn_X7_273 ?_
        refine V_ldcw 99999 dX7_mark_80 cn_X7_274 ?_
        refine V_cs3f dX7_mark_83 cs_X7_82 (Nat.le_of_ble_eq_true rfl) k_M_in ?_
        refine V_ifB_ne dX7_mark_86 92 (by decide) (fun h86 => ?_) (fun h86 => ?_)
        · refine V_aloadn_0 dX7_mark_92 ?_
          refine V_getR dX7_mark_93 fl_X7_60 oM_cells ?_
          refine V_bipush 24 dX7_mark_96 (by decide) ?_
          refine V_iloadn_1 dX7_mark_98 ?_
          refine V_imulN (a := 24) (b := s) dX7_mark_99 ?_
          refine V_iloadn_2 dX7_mark_100 ?_
          refine V_iaddN (a := 24 * s) (b := p) dX7_mark_101 ?_
          refine V_aloadn_0 dX7_mark_102 ?_
          refine V_getR dX7_mark_103 fl_X7_54 oM_sorts ?_
          refine V_iloadn_1 dX7_mark_106 ?_
          refine V_iald (j := s) dX7_mark_107 aM_sorts (by omega) (by decide) ?_
          refine V_topi (y := 1) hso ?_
          refine V_if_ne_t dX7_mark_108 116 (by decide) (by decide) ?_
          refine V_iloadn_3 dX7_mark_116 ?_
          refine V_iast (j := (24 * s) + p) dX7_mark_117 aM_cells (by omega) (by decide) ?_
          refine V_iconst 1 dX7_mark_118 (by decide) ?_
          exact V_iret dX7_mark_119 ⟨rfl, by rw [vup_ne (by omega)]; exact hso, by rw [vup_ne (by omega)]; exact hz, fun k hk => by
              by_cases e : k = p
              · rw [e, vup_same]; exact (if_pos rfl).symm
              · rw [vup_ne (by omega), hf k hk]; exact (if_neg e).symm, fun j hj => ⟨by rw [vup_ne (by omega)], by rw [vup_ne (by omega)]⟩, fun j hj => by rw [vup_ne (by omega)], fun q a b c _ => vup_p c⟩
        · exact absurd (hv.resolve_left h73) h86
    · exact absurd ((in_has (by omega)).mpr (hasN hp (by omega))) h35
  · exact absurd (hasN hs (by decide)) h4

set_option maxRecDepth 100000 in
set_option maxHeartbeats 4000000 in
theorem m_mark_0_k {G : vG} {σ : vS} {d : Nat} (hd : 2 ≤ d) {s z : Nat} (hs : s < 4)  (hso : σ 112 s = 0) (hz : σ 113 s = nI z) (hz24 : z ≤ 24) {p : Nat} (hp : p < z) : Cf G yX7_mark cX7_mark 4 (some .int) d [.ref 97, .int (nI s), .int (nI p), .int (-1000000005)] σ (some (.int (-1000000012))) σ := by
  refine Ct.ofV (by decide) (Nat.le_of_ble_eq_true rfl) rfl ?_
  show V G RX7 cX7_mark (some .int) 4 d _ 0 [some (.ref 97), some (.int (nI s)), some (.int (nI p)), some (.int (-1000000005))] [] _
  obtain ⟨d, rfl⟩ : ∃ e, d = e + 1 := ⟨d - 1, by omega⟩
  refine V_iloadn_1 dX7_mark_0 ?_
  refine V_cs1f dX7_mark_1 cs_X7_192 (Nat.le_of_ble_eq_true rfl) (k_M_isSheet (by omega)) ?_
  refine V_ifB_ne dX7_mark_4 10 (by decide) (fun h4 => ?_) (fun h4 => ?_)
  · refine V_aloadn_0 dX7_mark_10 ?_
    refine V_getR dX7_mark_11 fl_X7_54 oM_sorts ?_
    refine V_iloadn_1 dX7_mark_14 ?_
    refine V_iald (j := s) dX7_mark_15 aM_sorts (by omega) (by decide) ?_
    refine V_topi (y := 0) hso ?_
    refine V_if_ge_t dX7_mark_16 22 (by decide) (by decide) ?_
    refine V_iloadn_2 dX7_mark_22 ?_
    refine V_iconst 0 dX7_mark_23 (by decide) ?_
    refine V_aloadn_0 dX7_mark_24 ?_
    refine V_getR dX7_mark_25 fl_X7_57 oM_sizes ?_
    refine V_iloadn_1 dX7_mark_28 ?_
    refine V_iald (j := s) dX7_mark_29 aM_sizes (by omega) (by decide) ?_
    refine V_topi (y := nI z) hz ?_
    refine V_iconst 1 dX7_mark_30 (by decide) ?_
    refine V_isub dX7_mark_31 ?_
    refine V_cs3f dX7_mark_32 cs_X7_82 (Nat.le_of_ble_eq_true rfl) k_M_in ?_
    refine V_ifB_ne dX7_mark_35 42 (by decide) (fun h35 => ?_) (fun h35 => ?_)
    · refine V_aloadn_0 dX7_mark_42 ?_
      refine V_getR dX7_mark_43 fl_X7_54 oM_sorts ?_
      refine V_iloadn_1 dX7_mark_46 ?_
      refine V_iald (j := s) dX7_mark_47 aM_sorts (by omega) (by decide) ?_
      refine V_topi (y := 0) hso ?_
      refine V_if_ne_f dX7_mark_48 60 (by decide) (by decide) ?_
      refine V_iloadn_3 dX7_mark_51 ?_
      refine V_ldc (-1000000005) dX7_mark_52 cn_X7_81 ?_
      refine V_icmp_ne_f dX7_mark_54 60 (by decide) (by decide) ?_
      refine V_ldc (-1000000012) dX7_mark_57 cn_X7_132 ?_
      exact V_iret dX7_mark_59 ⟨rfl, rfl⟩
    · exact absurd ((in_has (by omega)).mpr (hasN hp (by omega))) h35
  · exact absurd (hasN hs (by decide)) h4

set_option maxRecDepth 100000 in
set_option maxHeartbeats 4000000 in
theorem m_mark_1_b {G : vG} {σ : vS} {d : Nat} (hd : 2 ≤ d) {s z : Nat} (hs : s < 4) {v : Int32} (hso : σ 112 s = 1) (hz : σ 113 s = nI z) (hz24 : z ≤ 24) {p : Nat} (hp : p < z) (hv : ¬ (v = -1000000005 ∨ inI v (-99999) 99999)) : Cf G yX7_mark cX7_mark 4 (some .int) d [.ref 97, .int (nI s), .int (nI p), .int v] σ (some (.int (-1000000001))) σ := by
  refine Ct.ofV (by decide) (Nat.le_of_ble_eq_true rfl) rfl ?_
  show V G RX7 cX7_mark (some .int) 4 d _ 0 [some (.ref 97), some (.int (nI s)), some (.int (nI p)), some (.int v)] [] _
  obtain ⟨d, rfl⟩ : ∃ e, d = e + 1 := ⟨d - 1, by omega⟩
  refine V_iloadn_1 dX7_mark_0 ?_
  refine V_cs1f dX7_mark_1 cs_X7_192 (Nat.le_of_ble_eq_true rfl) (k_M_isSheet (by omega)) ?_
  refine V_ifB_ne dX7_mark_4 10 (by decide) (fun h4 => ?_) (fun h4 => ?_)
  · refine V_aloadn_0 dX7_mark_10 ?_
    refine V_getR dX7_mark_11 fl_X7_54 oM_sorts ?_
    refine V_iloadn_1 dX7_mark_14 ?_
    refine V_iald (j := s) dX7_mark_15 aM_sorts (by omega) (by decide) ?_
    refine V_topi (y := 1) hso ?_
    refine V_if_ge_t dX7_mark_16 22 (by decide) (by decide) ?_
    refine V_iloadn_2 dX7_mark_22 ?_
    refine V_iconst 0 dX7_mark_23 (by decide) ?_
    refine V_aloadn_0 dX7_mark_24 ?_
    refine V_getR dX7_mark_25 fl_X7_57 oM_sizes ?_
    refine V_iloadn_1 dX7_mark_28 ?_
    refine V_iald (j := s) dX7_mark_29 aM_sizes (by omega) (by decide) ?_
    refine V_topi (y := nI z) hz ?_
    refine V_iconst 1 dX7_mark_30 (by decide) ?_
    refine V_isub dX7_mark_31 ?_
    refine V_cs3f dX7_mark_32 cs_X7_82 (Nat.le_of_ble_eq_true rfl) k_M_in ?_
    refine V_ifB_ne dX7_mark_35 42 (by decide) (fun h35 => ?_) (fun h35 => ?_)
    · refine V_aloadn_0 dX7_mark_42 ?_
      refine V_getR dX7_mark_43 fl_X7_54 oM_sorts ?_
      refine V_iloadn_1 dX7_mark_46 ?_
      refine V_iald (j := s) dX7_mark_47 aM_sorts (by omega) (by decide) ?_
      refine V_topi (y := 1) hso ?_
      refine V_if_ne_t dX7_mark_48 60 (by decide) (by decide) ?_
      refine V_aloadn_0 dX7_mark_60 ?_
      refine V_getR dX7_mark_61 fl_X7_54 oM_sorts ?_
      refine V_iloadn_1 dX7_mark_64 ?_
      refine V_iald (j := s) dX7_mark_65 aM_sorts (by omega) (by decide) ?_
      refine V_topi (y := 1) hso ?_
      refine V_iconst 1 dX7_mark_66 (by decide) ?_
      refine V_icmp_ne_f dX7_mark_67 92 (by decide) (by decide) ?_
      refine V_iloadn_3 dX7_mark_70 ?_
      refine V_ldc (-1000000005) dX7_mark_71 cn_X7_81 ?_
      refine V_icmp_eq dX7_mark_73 92 (by decide) (fun h73 => ?_) (fun h73 => ?_)
      · exact absurd (Or.inl h73) hv
      · refine V_iloadn_3 dX7_mark_76 ?_
        refine V_ldcw (-99999) dX7_mark_77 cn_X7_273 ?_
        refine V_ldcw 99999 dX7_mark_80 cn_X7_274 ?_
        refine V_cs3f dX7_mark_83 cs_X7_82 (Nat.le_of_ble_eq_true rfl) k_M_in ?_
        refine V_ifB_ne dX7_mark_86 92 (by decide) (fun h86 => ?_) (fun h86 => ?_)
        · exact absurd (Or.inr h86) hv
        · refine V_ldc (-1000000001) dX7_mark_89 cn_X7_86 ?_
          exact V_iret dX7_mark_91 ⟨rfl, rfl⟩
    · exact absurd ((in_has (by omega)).mpr (hasN hp (by omega))) h35
  · exact absurd (hasN hs (by decide)) h4

set_option maxRecDepth 100000 in
set_option maxHeartbeats 4000000 in
theorem m_mark_no {G : vG} {σ : vS} {d : Nat} (hd : 2 ≤ d) {s : Nat} (hs : s < 4) (hso : ¬ 0 ≤ σ 112 s) {x y : Int32} : Cf G yX7_mark cX7_mark 4 (some .int) d [.ref 97, .int (nI s), .int x, .int y] σ (some (.int (-1000000011))) σ := by
  refine Ct.ofV (by decide) (Nat.le_of_ble_eq_true rfl) rfl ?_
  show V G RX7 cX7_mark (some .int) 4 d _ 0 [some (.ref 97), some (.int (nI s)), some (.int x), some (.int y)] [] _
  obtain ⟨d, rfl⟩ : ∃ e, d = e + 1 := ⟨d - 1, by omega⟩
  refine V_iloadn_1 dX7_mark_0 ?_
  refine V_cs1f dX7_mark_1 cs_X7_192 (Nat.le_of_ble_eq_true rfl) (k_M_isSheet (by omega)) ?_
  refine V_ifB_ne dX7_mark_4 10 (by decide) (fun h4 => ?_) (fun h4 => ?_)
  · refine V_aloadn_0 dX7_mark_10 ?_
    refine V_getR dX7_mark_11 fl_X7_54 oM_sorts ?_
    refine V_iloadn_1 dX7_mark_14 ?_
    refine V_iald (j := s) dX7_mark_15 aM_sorts (by omega) (by decide) ?_
    refine V_if_ge_f dX7_mark_16 22 (by decide) hso ?_
    refine V_ldc (-1000000011) dX7_mark_19 cn_X7_195 ?_
    exact V_iret dX7_mark_21 ⟨rfl, rfl⟩
  · exact absurd (hasN hs (by decide)) h4

set_option maxRecDepth 100000 in
set_option maxHeartbeats 4000000 in
theorem m_mark_bad {G : vG} {σ : vS} {d : Nat} (hd : 2 ≤ d) {x y z : Int32} (hb : ¬ (hasI x 4)) : Cf G yX7_mark cX7_mark 4 (some .int) d [.ref 97, .int x, .int y, .int z] σ (some (.int (-1000000001))) σ := by
  refine Ct.ofV (by decide) (Nat.le_of_ble_eq_true rfl) rfl ?_
  show V G RX7 cX7_mark (some .int) 4 d _ 0 [some (.ref 97), some (.int x), some (.int y), some (.int z)] [] _
  obtain ⟨d, rfl⟩ : ∃ e, d = e + 1 := ⟨d - 1, by omega⟩
  refine V_iloadn_1 dX7_mark_0 ?_
  refine V_cs1f dX7_mark_1 cs_X7_192 (Nat.le_of_ble_eq_true rfl) (k_M_isSheet (by omega)) ?_
  refine V_ifB_ne dX7_mark_4 10 (by decide) (fun h4 => ?_) (fun h4 => ?_)
  · exact absurd h4 hb
  · refine V_ldc (-1000000001) dX7_mark_7 cn_X7_86 ?_
    exact V_iret dX7_mark_9 ⟨rfl, rfl⟩

set_option maxRecDepth 100000 in
set_option maxHeartbeats 4000000 in
theorem op_mark {G : vG} {σ : vS} {d i : Nat} (hd : 100 ≤ d) (hi : i < 512) {x y v : Int32} (h : Inv i σ) : Op G yX6_mark cX6_mark 5 yX7_mark cX7_mark 4 d [.int x, .int y, .int v] i σ := by
  have hh := h
  obtain ⟨L, T, I, b, hT, hB, hM, hS, hO, hW, hR, hK⟩ := h
  have hC := hT.1
  have hE := hT.2.1
  have hI := hC.2.2.1
  have hn := hI.nc
  have hm := hI.np
  by_cases hx : hasI x 4
  · obtain ⟨s, hs, rfl⟩ := (hasI_iff (by decide)).mp hx
    obtain ⟨s1, s2, ⟨n, n24, s3, s4⟩, s5⟩ := hS s hs
    rcases s2 with s2 | s2 | s2
    · exact Op.ask hh (Cf.fi (c_mark_no (by omega) hs (s1.trans s2))) (fun σ1 f1 => Cf.fi (m_mark_no (by omega) hs (by rw [f1.p (q := 112) (by omega)]; exact so_no s2)))
    · by_cases hy : hasI y n
      · obtain ⟨p, hp, rfl⟩ := (hasI_iff (by omega)).mp hy
        by_cases hv : v = -1000000005
        · subst hv
          exact Op.ask hh (Cf.fi (c_mark_0_k (by omega) hs (s1.trans s2) s3 n24 hp)) (fun σ1 f1 => Cf.fi (m_mark_0_k (by omega) hs (by rw [f1.p (q := 112) (by omega)]; exact s2) (by rw [f1.p (q := 113) (by omega)]; exact s4) n24 hp))
        · refine Op.mk (c_mark_0 (by omega) hs (s1.trans s2) s3 n24 hp hv) (fun σ1 c1 => Ct.mono (fun r σ2 h2 => ⟨h2.1, hh.sheet hs (by decide) n24 (fun k hk => ?_) c1 h2.2⟩) (m_mark_0 (by omega) hs (by rw [c1.2.2.2 112 (by omega) (by omega)]; exact s2) (by rw [c1.2.2.2 113 (by omega) (by omega)]; exact s4) n24 hp (fun k hk => by rw [c1.2.2.2 114 (by omega) (by omega)]; exact (s5 k hk).1.symm) hv))
          show okV (if k = p then _ else _)
          split
          · exact i2s_ok v
          · rw [(s5 k hk).1]; exact (s5 k hk).2
      · exact Op.ask hh (Cf.fi (c_mark_0_ix (by omega) hs (s1.trans s2) s3 n24 hy)) (fun σ1 f1 => Cf.fi (m_mark_0_ix (by omega) hs (by rw [f1.p (q := 112) (by omega)]; exact s2) (by rw [f1.p (q := 113) (by omega)]; exact s4) n24 hy))
    · by_cases hy : hasI y n
      · obtain ⟨p, hp, rfl⟩ := (hasI_iff (by omega)).mp hy
        by_cases hv : ¬ (v = -1000000005 ∨ inI v (-99999) 99999)
        · exact Op.ask hh (Cf.fi (c_mark_1_b (by omega) hs (s1.trans s2) s3 n24 hp hv)) (fun σ1 f1 => Cf.fi (m_mark_1_b (by omega) hs (by rw [f1.p (q := 112) (by omega)]; exact s2) (by rw [f1.p (q := 113) (by omega)]; exact s4) n24 hp hv))
        · refine Op.mk (c_mark_1 (by omega) hs (s1.trans s2) s3 n24 hp (Classical.not_not.mp hv)) (fun σ1 c1 => Ct.mono (fun r σ2 h2 => ⟨h2.1, hh.sheet hs (by decide) n24 (fun k hk => ?_) c1 h2.2⟩) (m_mark_1 (by omega) hs (by rw [c1.2.2.2 112 (by omega) (by omega)]; exact s2) (by rw [c1.2.2.2 113 (by omega) (by omega)]; exact s4) n24 hp (fun k hk => by rw [c1.2.2.2 114 (by omega) (by omega)]; exact (s5 k hk).1.symm) (Classical.not_not.mp hv)))
          show okV (if k = p then _ else _)
          split
          · exact fl_ok (Classical.not_not.mp hv)
          · rw [(s5 k hk).1]; exact (s5 k hk).2
      · exact Op.ask hh (Cf.fi (c_mark_1_ix (by omega) hs (s1.trans s2) s3 n24 hy)) (fun σ1 f1 => Cf.fi (m_mark_1_ix (by omega) hs (by rw [f1.p (q := 112) (by omega)]; exact s2) (by rw [f1.p (q := 113) (by omega)]; exact s4) n24 hy))
  · exact Op.ask hh (Cf.fi (c_mark_bad (by omega) hx)) (fun σ1 f1 => Cf.fi (m_mark_bad (by omega) hx))
