/-! ===== lay ===== -/
theorem Inv.slot {i s th : Nat} {σ σ1 σ2 : vS} (h : Inv i σ) (hs : s < 5) (hth : th ≤ 3)
    (c0 : σ1 (45 + 3 * s) 0 = nI th) (c1 : ∀ q, q ≠ 45 + 3 * s → q ≠ 45 + 3 * s + 1 → q ≠ 45 + 3 * s + 1 + 1 → σ1 q = σ q)
    (m0 : σ2 115 s = nI th) (m1 : ∀ j, j ≠ s → σ2 115 j = σ1 115 j ∧ σ2 116 j = σ1 116 j ∧ σ2 117 j = σ1 117 j) (m2 : ∀ j, ¬ (24 * s ≤ j ∧ j < 24 * s + 24) → σ2 118 j = σ1 118 j)
    (m3 : ∀ q, q ≠ 115 → q ≠ 116 → q ≠ 117 → q ≠ 118 → σ2 q = σ1 q)
    (p1 : th = 1 → ∃ k l, k ≤ 5 ∧ 1 ≤ l ∧ l ≤ 99 ∧ σ1 (45 + 3 * s) 1 = nI k ∧ σ1 (45 + 3 * s) 2 = nI l ∧ σ2 116 s = nI k ∧ σ2 117 s = worthI k l)
    (p2 : th = 2 → ∃ z, z ≤ 24 ∧ σ1 (45 + 3 * s + 1) 1 = nI z ∧ σ2 116 s = nI z ∧ ∀ k, k < 24 → σ1 (45 + 3 * s + 1 + 1) k = σ2 118 (24 * s + k))
    (p3 : th = 3 → σ1 (45 + 3 * s) 3 = σ2 116 s) : Inv (i + 1) σ2 := by
  obtain ⟨L, T, I, b, h1, h2, h3, h4, h5, h6, h7, h8⟩ := h
  have e : ∀ q, q ≠ 45 + 3 * s → q ≠ 45 + 3 * s + 1 → q ≠ 45 + 3 * s + 1 + 1 → q ≠ 115 → q ≠ 116 → q ≠ 117 → q ≠ 118 → σ2 q = σ q := fun q a b c d f g k => by rw [m3 q d f g k, c1 q a b c]
  have e0 := e 0 (by omega) (by omega) (by omega) (by omega) (by omega) (by omega) (by omega)
  have e97 := e 97 (by omega) (by omega) (by omega) (by omega) (by omega) (by omega) (by omega)
  refine ⟨L, T, I, b, (h1.fq (fun q a => e q (by omega) (by omega) (by omega) (by omega) (by omega) (by omega) (by omega))).up (by omega), h2.fq (by rw [e0]) (by rw [e97]),
    fun e1 => ((h3 e1).fq (fun q a => e q (by omega) (by omega) (by omega) (by omega) (by omega) (by omega) (by omega))).up (by omega), h4.fq (fun q a => e q (by omega) (by omega) (by omega) (by omega) (by omega) (by omega) (by omega)), ?_,
    h6.fq (by rw [e0]) (by rw [e97]) (e 7 (by omega) (by omega) (by omega) (by omega) (by omega) (by omega) (by omega)) (e 120 (by omega) (by omega) (by omega) (by omega) (by omega) (by omega) (by omega)),
    h7.fq (by rw [e 1 (by omega) (by omega) (by omega) (by omega) (by omega) (by omega) (by omega)]) (by rw [e97]) (e 4 (by omega) (by omega) (by omega) (by omega) (by omega) (by omega) (by omega)) (e 104 (by omega) (by omega) (by omega) (by omega) (by omega) (by omega) (by omega)),
    h8.fq (e 105 (by omega) (by omega) (by omega) (by omega) (by omega) (by omega) (by omega)) (e 106 (by omega) (by omega) (by omega) (by omega) (by omega) (by omega) (by omega))⟩
  intro t ht
  by_cases et : t = s
  · subst et
    have f0 : σ2 (45 + 3 * t) = σ1 (45 + 3 * t) := m3 _ (by omega) (by omega) (by omega) (by omega)
    have f1 : σ2 (45 + 3 * t + 1) = σ1 (45 + 3 * t + 1) := m3 _ (by omega) (by omega) (by omega) (by omega)
    have f2 : σ2 (45 + 3 * t + 1 + 1) = σ1 (45 + 3 * t + 1 + 1) := m3 _ (by omega) (by omega) (by omega) (by omega)
    rw [f0, f1, f2]
    exact ⟨th, hth, c0, m0, p1, p2, p3⟩
  · clear p1 p2 p3
    have m2' : ∀ k, k < 24 → σ2 118 (24 * t + k) = σ1 118 (24 * t + k) := fun k hk => m2 _ (by omega)
    have f0 : σ2 (45 + 3 * t) = σ (45 + 3 * t) := e _ (by omega) (by omega) (by omega) (by omega) (by omega) (by omega) (by omega)
    have f1 : σ2 (45 + 3 * t + 1) = σ (45 + 3 * t + 1) := e _ (by omega) (by omega) (by omega) (by omega) (by omega) (by omega) (by omega)
    have f2 : σ2 (45 + 3 * t + 1 + 1) = σ (45 + 3 * t + 1 + 1) := e _ (by omega) (by omega) (by omega) (by omega) (by omega) (by omega) (by omega)
    obtain ⟨n1, n2, n3⟩ := m1 t et
    have e115 : σ1 115 = σ 115 := c1 115 (by omega) (by omega) (by omega)
    have e116 : σ1 116 = σ 116 := c1 116 (by omega) (by omega) (by omega)
    have e117 : σ1 117 = σ 117 := c1 117 (by omega) (by omega) (by omega)
    have e118 : σ1 118 = σ 118 := c1 118 (by omega) (by omega) (by omega)
    obtain ⟨y, g1, g2, g3, g4, g5, g6⟩ := h5 t ht
    rw [f0, f1, f2, n1, n2, n3, e115, e116, e117]
    refine ⟨y, g1, g2, g3, g4, fun q => ?_, g6⟩
    obtain ⟨z, z24, k1, k2, k3⟩ := g5 q
    exact ⟨z, z24, k1, k2, fun k hk => by rw [m2' k hk, e118]; exact k3 k hk⟩

set_option maxRecDepth 100000 in
set_option maxHeartbeats 4000000 in
theorem k_S_become {G : vG} {σ : vS} {d : Nat} (hd : 1 ≤ d) {w f : Nat} (hw : Shp w) (hf : Shp f) (hlt : f + 1 < w) : Cr G yX3_become cX3_become 2 none d [.ref w, .ref f] σ none (fun σ' => σ' w 1 = σ f 1 ∧ (∀ k, k < 24 → σ' (w + 1) k = σ (f + 1) k) ∧ ∀ q, q ≠ w → q ≠ w + 1 → σ' q = σ q) := by
  refine Ct.ofV (by decide) (Nat.le_of_ble_eq_true rfl) rfl ?_
  show V G RX3 cX3_become none 2 d _ 0 [some (.ref w), some (.ref f)] [] _
  obtain ⟨d, rfl⟩ : ∃ e, d = e + 1 := ⟨d - 1, by omega⟩
  refine V_aloadn_0 dX3_become_0 ?_
  refine V_aloadn_1 dX3_become_1 ?_
  refine V_getI dX3_become_2 fl_X3_11 (oS_sort hf) ?_
  refine V_putI dX3_become_5 fp_X3_11 (oS_sort hw) ?_
  refine V_aloadn_0 dX3_become_8 ?_
  refine V_aloadn_1 dX3_become_9 ?_
  refine V_getI dX3_become_10 fl_X3_19 (oS_size hf) ?_
  refine V_putI dX3_become_13 fp_X3_19 (oS_size hw) ?_
  refine V_aloadn_1 dX3_become_16 ?_
  refine V_getR dX3_become_17 fl_X3_15 (oS_places hf) ?_
  refine V_iconst 0 dX3_become_20 (by decide) ?_
  refine V_aloadn_0 dX3_become_21 ?_
  refine V_getR dX3_become_22 fl_X3_15 (oS_places hw) ?_
  refine V_iconst 0 dX3_become_25 (by decide) ?_
  refine V_bipush 24 dX3_become_26 (by decide) ?_
  refine V_copy (sp := 0) (dp := 0) (n := 24) dX3_become_28 ml_X3_27 (aS_places hf) (aS_places hw) (by decide) (by decide) (by decide) (by decide) (Nat.le_of_ble_eq_true rfl) ?_
  exact V_vret dX3_become_31 ⟨rfl, by rw [vcp_ne (by omega), vup_same, vup_ne (by omega)], fun k hk => by rw [vcp0 hk, vup_ne (by omega), vup_ne (by omega)], fun q a b => by rw [vcp_p b, vup_p a, vup_p a]⟩

set_option maxRecDepth 100000 in
set_option maxHeartbeats 4000000 in
theorem c_lay_0 {G : vG} {σ : vS} {d : Nat} (hd : 2 ≤ d) {s th : Nat} (hs : s < 5) (h0 : σ (45 + 3 * s) 0 = nI th) {x : Int32} : Cf G yX6_lay cX6_lay 6 (some .int) d [.ref 0, .int (nI s), .int 0, .int x] σ (some (.int (nI th))) (vup (vup σ (45 + 3 * s) 0 0) (45 + 3 * s) 3 x) := by
  refine Ct.ofV (by decide) (Nat.le_of_ble_eq_true rfl) rfl ?_
  show V G RX6 cX6_lay (some .int) 6 d _ 0 [some (.ref 0), some (.int (nI s)), some (.int 0), some (.int x), none, none] [] _
  obtain ⟨d, rfl⟩ : ∃ e, d = e + 1 := ⟨d - 1, by omega⟩
  refine V_iloadn_1 dX6_lay_0 ?_
  refine V_cs1f dX6_lay_1 cs_X6_288 (Nat.le_of_ble_eq_true rfl) (k_C_isSlot (by omega)) ?_
  refine V_ifB_eq dX6_lay_4 44 (by decide) (fun h4 => ?_) (fun h4 => ?_)
  · exact absurd (hasN hs (by decide)) h4
  · refine V_iloadn_2 dX6_lay_7 ?_
    refine V_iconst 0 dX6_lay_8 (by decide) ?_
    refine V_iconst 3 dX6_lay_9 (by decide) ?_
    refine V_cs3f dX6_lay_10 cs_X6_108 (Nat.le_of_ble_eq_true rfl) k_C_within ?_
    refine V_ifB_eq dX6_lay_13 44 (by decide) (fun h13 => ?_) (fun h13 => ?_)
    · exact absurd (by decide) h13
    · refine V_iloadn_2 dX6_lay_16 ?_
      refine V_iconst 1 dX6_lay_17 (by decide) ?_
      refine V_icmp_ne_t dX6_lay_18 32 (by decide) (by decide) ?_
      refine V_iloadn_2 dX6_lay_32 ?_
      refine V_iconst 2 dX6_lay_33 (by decide) ?_
      refine V_icmp_ne_t dX6_lay_34 47 (by decide) (by decide) ?_
      refine V_iloadn_2 dX6_lay_47 ?_
      refine V_iconst 2 dX6_lay_48 (by decide) ?_
      refine V_icmp_ne_t dX6_lay_49 67 (by decide) (by decide) ?_
      refine V_aloadn_0 dX6_lay_67 ?_
      refine V_getR dX6_lay_68 fl_X6_24 oC_slots ?_
      refine V_iloadn_1 dX6_lay_71 ?_
      refine V_aald (j := s) dX6_lay_72 (eSlot (by omega)) (by decide) ?_
      refine V_astore_4 dX6_lay_73 (by first | exact rfl | exact True.intro) (by decide) ?_
      refine V_aload_4 dX6_lay_75 ?_
      refine V_getI dX6_lay_77 fl_X6_291 (oO_thing ⟨_, (by omega), rfl⟩) ?_
      refine V_topi (y := nI th) h0 ?_
      refine V_istore_5 dX6_lay_80 (by first | exact rfl | exact True.intro) (by decide) ?_
      refine V_aload_4 dX6_lay_82 ?_
      refine V_iloadn_2 dX6_lay_84 ?_
      refine V_putI dX6_lay_85 fp_X6_291 (oO_thing ⟨_, (by omega), rfl⟩) ?_
      refine V_iloadn_2 dX6_lay_88 ?_
      refine V_iconst 1 dX6_lay_89 (by decide) ?_
      refine V_icmp_ne_t dX6_lay_90 124 (by decide) (by decide) ?_
      refine V_iloadn_2 dX6_lay_124 ?_
      refine V_iconst 2 dX6_lay_125 (by decide) ?_
      refine V_icmp_ne_t dX6_lay_126 146 (by decide) (by decide) ?_
      refine V_aload_4 dX6_lay_146 ?_
      refine V_iloadn_3 dX6_lay_148 ?_
      refine V_putI dX6_lay_149 fp_X6_305 (oO_number ⟨_, (by omega), rfl⟩) ?_
      refine V_iload_5 dX6_lay_152 ?_
      exact V_iret dX6_lay_154 ⟨rfl, rfl⟩

set_option maxRecDepth 100000 in
set_option maxHeartbeats 4000000 in
theorem c_lay_3 {G : vG} {σ : vS} {d : Nat} (hd : 2 ≤ d) {s th : Nat} (hs : s < 5) (h0 : σ (45 + 3 * s) 0 = nI th) {x : Int32} : Cf G yX6_lay cX6_lay 6 (some .int) d [.ref 0, .int (nI s), .int 3, .int x] σ (some (.int (nI th))) (vup (vup σ (45 + 3 * s) 0 3) (45 + 3 * s) 3 x) := by
  refine Ct.ofV (by decide) (Nat.le_of_ble_eq_true rfl) rfl ?_
  show V G RX6 cX6_lay (some .int) 6 d _ 0 [some (.ref 0), some (.int (nI s)), some (.int 3), some (.int x), none, none] [] _
  obtain ⟨d, rfl⟩ : ∃ e, d = e + 1 := ⟨d - 1, by omega⟩
  refine V_iloadn_1 dX6_lay_0 ?_
  refine V_cs1f dX6_lay_1 cs_X6_288 (Nat.le_of_ble_eq_true rfl) (k_C_isSlot (by omega)) ?_
  refine V_ifB_eq dX6_lay_4 44 (by decide) (fun h4 => ?_) (fun h4 => ?_)
  · exact absurd (hasN hs (by decide)) h4
  · refine V_iloadn_2 dX6_lay_7 ?_
    refine V_iconst 0 dX6_lay_8 (by decide) ?_
    refine V_iconst 3 dX6_lay_9 (by decide) ?_
    refine V_cs3f dX6_lay_10 cs_X6_108 (Nat.le_of_ble_eq_true rfl) k_C_within ?_
    refine V_ifB_eq dX6_lay_13 44 (by decide) (fun h13 => ?_) (fun h13 => ?_)
    · exact absurd (by decide) h13
    · refine V_iloadn_2 dX6_lay_16 ?_
      refine V_iconst 1 dX6_lay_17 (by decide) ?_
      refine V_icmp_ne_t dX6_lay_18 32 (by decide) (by decide) ?_
      refine V_iloadn_2 dX6_lay_32 ?_
      refine V_iconst 2 dX6_lay_33 (by decide) ?_
      refine V_icmp_ne_t dX6_lay_34 47 (by decide) (by decide) ?_
      refine V_iloadn_2 dX6_lay_47 ?_
      refine V_iconst 2 dX6_lay_48 (by decide) ?_
      refine V_icmp_ne_t dX6_lay_49 67 (by decide) (by decide) ?_
      refine V_aloadn_0 dX6_lay_67 ?_
      refine V_getR dX6_lay_68 fl_X6_24 oC_slots ?_
      refine V_iloadn_1 dX6_lay_71 ?_
      refine V_aald (j := s) dX6_lay_72 (eSlot (by omega)) (by decide) ?_
      refine V_astore_4 dX6_lay_73 (by first | exact rfl | exact True.intro) (by decide) ?_
      refine V_aload_4 dX6_lay_75 ?_
      refine V_getI dX6_lay_77 fl_X6_291 (oO_thing ⟨_, (by omega), rfl⟩) ?_
      refine V_topi (y := nI th) h0 ?_
      refine V_istore_5 dX6_lay_80 (by first | exact rfl | exact True.intro) (by decide) ?_
      refine V_aload_4 dX6_lay_82 ?_
      refine V_iloadn_2 dX6_lay_84 ?_
      refine V_putI dX6_lay_85 fp_X6_291 (oO_thing ⟨_, (by omega), rfl⟩) ?_
      refine V_iloadn_2 dX6_lay_88 ?_
      refine V_iconst 1 dX6_lay_89 (by decide) ?_
      refine V_icmp_ne_t dX6_lay_90 124 (by decide) (by decide) ?_
      refine V_iloadn_2 dX6_lay_124 ?_
      refine V_iconst 2 dX6_lay_125 (by decide) ?_
      refine V_icmp_ne_t dX6_lay_126 146 (by decide) (by decide) ?_
      refine V_aload_4 dX6_lay_146 ?_
      refine V_iloadn_3 dX6_lay_148 ?_
      refine V_putI dX6_lay_149 fp_X6_305 (oO_number ⟨_, (by omega), rfl⟩) ?_
      refine V_iload_5 dX6_lay_152 ?_
      exact V_iret dX6_lay_154 ⟨rfl, rfl⟩

set_option maxRecDepth 100000 in
set_option maxHeartbeats 4000000 in
theorem c_lay_1 {G : vG} {σ : vS} {d : Nat} (hd : 2 ≤ d) {L T : nT} {N : Nat} (hC : TC L N 61 T σ) {s th : Nat} (hs : s < 5) (h0 : σ (45 + 3 * s) 0 = nI th) {c : Nat} (hc : c < T 0 5) : Cf G yX6_lay cX6_lay 6 (some .int) d [.ref 0, .int (nI s), .int 1, .int (nI c)] σ (some (.int (nI th))) (vup (vup (vup σ (45 + 3 * s) 0 1) (45 + 3 * s) 1 (nI (T 1 c))) (45 + 3 * s) 2 (nI (T 3 c))) := by
  refine Ct.ofV (by decide) (Nat.le_of_ble_eq_true rfl) rfl ?_
  show V G RX6 cX6_lay (some .int) 6 d _ 0 [some (.ref 0), some (.int (nI s)), some (.int 1), some (.int (nI c)), none, none] [] _
  obtain ⟨d, rfl⟩ : ∃ e, d = e + 1 := ⟨d - 1, by omega⟩
  obtain ⟨ht, hH, hI, hL, hLI, hN, hN2⟩ := id hC
  have hT := hH.1
  have hn := hI.nc
  have hm := hI.np
  refine V_iloadn_1 dX6_lay_0 ?_
  refine V_cs1f dX6_lay_1 cs_X6_288 (Nat.le_of_ble_eq_true rfl) (k_C_isSlot (by omega)) ?_
  refine V_ifB_eq dX6_lay_4 44 (by decide) (fun h4 => ?_) (fun h4 => ?_)
  · exact absurd (hasN hs (by decide)) h4
  · refine V_iloadn_2 dX6_lay_7 ?_
    refine V_iconst 0 dX6_lay_8 (by decide) ?_
    refine V_iconst 3 dX6_lay_9 (by decide) ?_
    refine V_cs3f dX6_lay_10 cs_X6_108 (Nat.le_of_ble_eq_true rfl) k_C_within ?_
    refine V_ifB_eq dX6_lay_13 44 (by decide) (fun h13 => ?_) (fun h13 => ?_)
    · exact absurd (by decide) h13
    · refine V_iloadn_2 dX6_lay_16 ?_
      refine V_iconst 1 dX6_lay_17 (by decide) ?_
      refine V_icmp_ne_f dX6_lay_18 32 (by decide) (by decide) ?_
      refine V_aloadn_0 dX6_lay_21 ?_
      refine V_getR dX6_lay_22 fl_X6_46 oC_now ?_
      refine V_iloadn_3 dX6_lay_25 ?_
      refine V_cv1f dX6_lay_26 cv_X6_76 (rcT tw61) (Nat.le_of_ble_eq_true rfl) (k_T_hasCellar tw61 hT) ?_
      refine V_ifB_eq dX6_lay_29 44 (by decide) (fun h29 => ?_) (fun h29 => ?_)
      · exact absurd (hasN hc (by omega)) h29
      · refine V_iloadn_2 dX6_lay_32 ?_
        refine V_iconst 2 dX6_lay_33 (by decide) ?_
        refine V_icmp_ne_t dX6_lay_34 47 (by decide) (by decide) ?_
        refine V_iloadn_2 dX6_lay_47 ?_
        refine V_iconst 2 dX6_lay_48 (by decide) ?_
        refine V_icmp_ne_t dX6_lay_49 67 (by decide) (by decide) ?_
        refine V_aloadn_0 dX6_lay_67 ?_
        refine V_getR dX6_lay_68 fl_X6_24 oC_slots ?_
        refine V_iloadn_1 dX6_lay_71 ?_
        refine V_aald (j := s) dX6_lay_72 (eSlot (by omega)) (by decide) ?_
        refine V_astore_4 dX6_lay_73 (by first | exact rfl | exact True.intro) (by decide) ?_
        refine V_aload_4 dX6_lay_75 ?_
        refine V_getI dX6_lay_77 fl_X6_291 (oO_thing ⟨_, (by omega), rfl⟩) ?_
        refine V_topi (y := nI th) h0 ?_
        refine V_istore_5 dX6_lay_80 (by first | exact rfl | exact True.intro) (by decide) ?_
        refine V_aload_4 dX6_lay_82 ?_
        refine V_iloadn_2 dX6_lay_84 ?_
        refine V_putI dX6_lay_85 fp_X6_291 (oO_thing ⟨_, (by omega), rfl⟩) ?_
        refine V_abs (fun σ1 => σ1 = vup σ (45 + 3 * s) 0 1 ∧ TC L N 61 T σ1) ⟨rfl, hC.fq (fun q a => vup_p (by omega))⟩ (fun σ1 h1 => ?_)
        obtain ⟨e1, hC⟩ := h1
        have hT := hC.2.1.1
        refine V_iloadn_2 dX6_lay_88 ?_
        refine V_iconst 1 dX6_lay_89 (by decide) ?_
        refine V_icmp_ne_f dX6_lay_90 124 (by decide) (by decide) ?_
        refine V_aload_4 dX6_lay_93 ?_
        refine V_aloadn_0 dX6_lay_95 ?_
        refine V_getR dX6_lay_96 fl_X6_46 oC_now ?_
        refine V_getR dX6_lay_99 fl_X6_79 (oT_kind tw61) ?_
        refine V_iloadn_3 dX6_lay_102 ?_
        refine V_iald (j := c) dX6_lay_103 (aT_kind tw61) (by omega) (by decide) ?_
        refine V_topi (hT.k1 (by omega)) ?_
        refine V_putI dX6_lay_104 fp_X6_294 (oO_kind ⟨_, (by omega), rfl⟩) ?_
        refine V_abs (fun σ2 => σ2 = vup σ1 (45 + 3 * s) 1 (nI (T 1 c)) ∧ TC L N 61 T σ2) ⟨rfl, hC.fq (fun q a => vup_p (by omega))⟩ (fun σ2 h2 => ?_)
        obtain ⟨e2, hC⟩ := h2
        have hT := hC.2.1.1
        refine V_aload_4 dX6_lay_107 ?_
        refine V_aloadn_0 dX6_lay_109 ?_
        refine V_getR dX6_lay_110 fl_X6_46 oC_now ?_
        refine V_getR dX6_lay_113 fl_X6_85 (oT_lip tw61) ?_
        refine V_iloadn_3 dX6_lay_116 ?_
        refine V_iald (j := c) dX6_lay_117 (aT_lip tw61) (by omega) (by decide) ?_
        refine V_topi (hT.k3 (by omega)) ?_
        refine V_putI dX6_lay_118 fp_X6_296 (oO_lip ⟨_, (by omega), rfl⟩) ?_
        refine V_goto dX6_lay_121 152 (by decide) ?_
        refine V_iload_5 dX6_lay_152 ?_
        exact V_iret dX6_lay_154 ⟨rfl, by rw [e2, e1]⟩

set_option maxRecDepth 100000 in
set_option maxHeartbeats 4000000 in
theorem c_lay_2 {G : vG} {σ : vS} {d : Nat} (hd : 2 ≤ d) {s th : Nat} (hs : s < 5) (h0 : σ (45 + 3 * s) 0 = nI th) {c : Nat} (hc : c < 4) (hso : σ (37 + 2 * c) 0 ≠ -1) : Cr G yX6_lay cX6_lay 6 (some .int) d [.ref 0, .int (nI s), .int 2, .int (nI c)] σ (some (.int (nI th))) (fun σ' => σ' (45 + 3 * s) 0 = 2 ∧ σ' (45 + 3 * s + 1) 1 = σ (37 + 2 * c) 1 ∧ (∀ k, k < 24 → σ' (45 + 3 * s + 1 + 1) k = σ (37 + 2 * c + 1) k) ∧ ∀ q, q ≠ 45 + 3 * s → q ≠ 45 + 3 * s + 1 → q ≠ 45 + 3 * s + 1 + 1 → σ' q = σ q) := by
  refine Ct.ofV (by decide) (Nat.le_of_ble_eq_true rfl) rfl ?_
  show V G RX6 cX6_lay (some .int) 6 d _ 0 [some (.ref 0), some (.int (nI s)), some (.int 2), some (.int (nI c)), none, none] [] _
  obtain ⟨d, rfl⟩ : ∃ e, d = e + 1 := ⟨d - 1, by omega⟩
  refine V_iloadn_1 dX6_lay_0 ?_
  refine V_cs1f dX6_lay_1 cs_X6_288 (Nat.le_of_ble_eq_true rfl) (k_C_isSlot (by omega)) ?_
  refine V_ifB_eq dX6_lay_4 44 (by decide) (fun h4 => ?_) (fun h4 => ?_)
  · exact absurd (hasN hs (by decide)) h4
  · refine V_iloadn_2 dX6_lay_7 ?_
    refine V_iconst 0 dX6_lay_8 (by decide) ?_
    refine V_iconst 3 dX6_lay_9 (by decide) ?_
    refine V_cs3f dX6_lay_10 cs_X6_108 (Nat.le_of_ble_eq_true rfl) k_C_within ?_
    refine V_ifB_eq dX6_lay_13 44 (by decide) (fun h13 => ?_) (fun h13 => ?_)
    · exact absurd (by decide) h13
    · refine V_iloadn_2 dX6_lay_16 ?_
      refine V_iconst 1 dX6_lay_17 (by decide) ?_
      refine V_icmp_ne_t dX6_lay_18 32 (by decide) (by decide) ?_
      refine V_iloadn_2 dX6_lay_32 ?_
      refine V_iconst 2 dX6_lay_33 (by decide) ?_
      refine V_icmp_ne_f dX6_lay_34 47 (by decide) (by decide) ?_
      refine V_iloadn_3 dX6_lay_37 ?_
      refine V_cs1f dX6_lay_38 cs_X6_203 (Nat.le_of_ble_eq_true rfl) (k_C_isSheet (by omega)) ?_
      refine V_ifB_ne dX6_lay_41 47 (by decide) (fun h41 => ?_) (fun h41 => ?_)
      · refine V_iloadn_2 dX6_lay_47 ?_
        refine V_iconst 2 dX6_lay_48 (by decide) ?_
        refine V_icmp_ne_f dX6_lay_49 67 (by decide) (by decide) ?_
        refine V_aloadn_0 dX6_lay_52 ?_
        refine V_getR dX6_lay_53 fl_X6_18 oC_sheets ?_
        refine V_iloadn_3 dX6_lay_56 ?_
        refine V_aald (j := c) dX6_lay_57 (eSheet (by omega)) (by decide) ?_
        refine V_cv0f dX6_lay_58 cv_X6_206 (rcS (Or.inl ⟨_, (by omega), rfl⟩)) (Nat.le_of_ble_eq_true rfl) (k_S_isMissing (Or.inl ⟨_, (by omega), rfl⟩)) ?_
        refine V_ifB_eq dX6_lay_61 67 (by decide) (fun h61 => ?_) (fun h61 => ?_)
        · refine V_aloadn_0 dX6_lay_67 ?_
          refine V_getR dX6_lay_68 fl_X6_24 oC_slots ?_
          refine V_iloadn_1 dX6_lay_71 ?_
          refine V_aald (j := s) dX6_lay_72 (eSlot (by omega)) (by decide) ?_
          refine V_astore_4 dX6_lay_73 (by first | exact rfl | exact True.intro) (by decide) ?_
          refine V_aload_4 dX6_lay_75 ?_
          refine V_getI dX6_lay_77 fl_X6_291 (oO_thing ⟨_, (by omega), rfl⟩) ?_
          refine V_topi (y := nI th) h0 ?_
          refine V_istore_5 dX6_lay_80 (by first | exact rfl | exact True.intro) (by decide) ?_
          refine V_aload_4 dX6_lay_82 ?_
          refine V_iloadn_2 dX6_lay_84 ?_
          refine V_putI dX6_lay_85 fp_X6_291 (oO_thing ⟨_, (by omega), rfl⟩) ?_
          refine V_iloadn_2 dX6_lay_88 ?_
          refine V_iconst 1 dX6_lay_89 (by decide) ?_
          refine V_icmp_ne_t dX6_lay_90 124 (by decide) (by decide) ?_
          refine V_iloadn_2 dX6_lay_124 ?_
          refine V_iconst 2 dX6_lay_125 (by decide) ?_
          refine V_icmp_ne_f dX6_lay_126 146 (by decide) (by decide) ?_
          refine V_aload_4 dX6_lay_129 ?_
          refine V_getR dX6_lay_131 fl_X6_298 (oO_sheet ⟨_, (by omega), rfl⟩) ?_
          refine V_aloadn_0 dX6_lay_134 ?_
          refine V_getR dX6_lay_135 fl_X6_18 oC_sheets ?_
          refine V_iloadn_3 dX6_lay_138 ?_
          refine V_aald (j := c) dX6_lay_139 (eSheet (by omega)) (by decide) ?_
          refine V_cv1n dX6_lay_140 cv_X6_302 (rcS (slpS ⟨_, (by omega), rfl⟩)) (Nat.le_of_ble_eq_true rfl) (k_S_become (by omega) (slpS ⟨_, hs, rfl⟩) (Or.inl ⟨_, hc, rfl⟩) (by omega)) (fun σ' h5 => ?_)
          refine V_goto dX6_lay_143 152 (by decide) ?_
          refine V_iload_5 dX6_lay_152 ?_
          exact V_iret dX6_lay_154 ⟨rfl, by rw [h5.2.2 _ (by omega) (by omega), vup_same], by rw [h5.1, vup_ne (by omega)], fun k hk => by rw [h5.2.1 k hk, vup_ne (by omega)], fun q a b c => by rw [h5.2.2 q b c, vup_p a]⟩
        · exact absurd h61 hso
      · exact absurd (hasN hc (by decide)) h41

set_option maxRecDepth 100000 in
set_option maxHeartbeats 4000000 in
theorem c_lay_2n {G : vG} {σ : vS} {d : Nat} (hd : 2 ≤ d) {s : Nat} (hs : s < 5) {c : Nat} (hc : c < 4) (hso : σ (37 + 2 * c) 0 = -1) : Cf G yX6_lay cX6_lay 6 (some .int) d [.ref 0, .int (nI s), .int 2, .int (nI c)] σ (some (.int (-1000000011))) σ := by
  refine Ct.ofV (by decide) (Nat.le_of_ble_eq_true rfl) rfl ?_
  show V G RX6 cX6_lay (some .int) 6 d _ 0 [some (.ref 0), some (.int (nI s)), some (.int 2), some (.int (nI c)), none, none] [] _
  obtain ⟨d, rfl⟩ : ∃ e, d = e + 1 := ⟨d - 1, by omega⟩
  refine V_iloadn_1 dX6_lay_0 ?_
  refine V_cs1f dX6_lay_1 cs_X6_288 (Nat.le_of_ble_eq_true rfl) (k_C_isSlot (by omega)) ?_
  refine V_ifB_eq dX6_lay_4 44 (by decide) (fun h4 => ?_) (fun h4 => ?_)
  · exact absurd (hasN hs (by decide)) h4
  · refine V_iloadn_2 dX6_lay_7 ?_
    refine V_iconst 0 dX6_lay_8 (by decide) ?_
    refine V_iconst 3 dX6_lay_9 (by decide) ?_
    refine V_cs3f dX6_lay_10 cs_X6_108 (Nat.le_of_ble_eq_true rfl) k_C_within ?_
    refine V_ifB_eq dX6_lay_13 44 (by decide) (fun h13 => ?_) (fun h13 => ?_)
    · exact absurd (by decide) h13
    · refine V_iloadn_2 dX6_lay_16 ?_
      refine V_iconst 1 dX6_lay_17 (by decide) ?_
      refine V_icmp_ne_t dX6_lay_18 32 (by decide) (by decide) ?_
      refine V_iloadn_2 dX6_lay_32 ?_
      refine V_iconst 2 dX6_lay_33 (by decide) ?_
      refine V_icmp_ne_f dX6_lay_34 47 (by decide) (by decide) ?_
      refine V_iloadn_3 dX6_lay_37 ?_
      refine V_cs1f dX6_lay_38 cs_X6_203 (Nat.le_of_ble_eq_true rfl) (k_C_isSheet (by omega)) ?_
      refine V_ifB_ne dX6_lay_41 47 (by decide) (fun h41 => ?_) (fun h41 => ?_)
      · refine V_iloadn_2 dX6_lay_47 ?_
        refine V_iconst 2 dX6_lay_48 (by decide) ?_
        refine V_icmp_ne_f dX6_lay_49 67 (by decide) (by decide) ?_
        refine V_aloadn_0 dX6_lay_52 ?_
        refine V_getR dX6_lay_53 fl_X6_18 oC_sheets ?_
        refine V_iloadn_3 dX6_lay_56 ?_
        refine V_aald (j := c) dX6_lay_57 (eSheet (by omega)) (by decide) ?_
        refine V_cv0f dX6_lay_58 cv_X6_206 (rcS (Or.inl ⟨_, (by omega), rfl⟩)) (Nat.le_of_ble_eq_true rfl) (k_S_isMissing (Or.inl ⟨_, (by omega), rfl⟩)) ?_
        refine V_ifB_eq dX6_lay_61 67 (by decide) (fun h61 => ?_) (fun h61 => ?_)
        · exact absurd hso h61
        · refine V_ldc (-1000000011) dX6_lay_64 cn_X6_210 ?_
          exact V_iret dX6_lay_66 ⟨rfl, rfl⟩
      · exact absurd (hasN hc (by decide)) h41

set_option maxRecDepth 100000 in
set_option maxHeartbeats 4000000 in
theorem c_lay_bad {G : vG} {σ : vS} {d : Nat} (hd : 2 ≤ d) {L T : nT} {N : Nat} (hC : TC L N 61 T σ) {x y z : Int32} (hb : ¬ (hasI x 5 ∧ inI y 0 3 ∧ (y = 1 → hasI z (T 0 5)) ∧ (y = 2 → hasI z 4))) : Cf G yX6_lay cX6_lay 6 (some .int) d [.ref 0, .int x, .int y, .int z] σ (some (.int (-1000000001))) σ := by
  refine Ct.ofV (by decide) (Nat.le_of_ble_eq_true rfl) rfl ?_
  show V G RX6 cX6_lay (some .int) 6 d _ 0 [some (.ref 0), some (.int x), some (.int y), some (.int z), none, none] [] _
  obtain ⟨d, rfl⟩ : ∃ e, d = e + 1 := ⟨d - 1, by omega⟩
  obtain ⟨ht, hH, hI, hL, hLI, hN, hN2⟩ := id hC
  have hT := hH.1
  have hn := hI.nc
  have hm := hI.np
  refine V_iloadn_1 dX6_lay_0 ?_
  refine V_cs1f dX6_lay_1 cs_X6_288 (Nat.le_of_ble_eq_true rfl) (k_C_isSlot (by omega)) ?_
  refine V_ifB_eq dX6_lay_4 44 (by decide) (fun h4 => ?_) (fun h4 => ?_)
  · refine V_ldc (-1000000001) dX6_lay_44 cn_X6_66 ?_
    exact V_iret dX6_lay_46 ⟨rfl, rfl⟩
  · refine V_iloadn_2 dX6_lay_7 ?_
    refine V_iconst 0 dX6_lay_8 (by decide) ?_
    refine V_iconst 3 dX6_lay_9 (by decide) ?_
    refine V_cs3f dX6_lay_10 cs_X6_108 (Nat.le_of_ble_eq_true rfl) k_C_within ?_
    refine V_ifB_eq dX6_lay_13 44 (by decide) (fun h13 => ?_) (fun h13 => ?_)
    · refine V_ldc (-1000000001) dX6_lay_44 cn_X6_66 ?_
      exact V_iret dX6_lay_46 ⟨rfl, rfl⟩
    · refine V_iloadn_2 dX6_lay_16 ?_
      refine V_iconst 1 dX6_lay_17 (by decide) ?_
      refine V_icmp_ne dX6_lay_18 32 (by decide) (fun h18 => ?_) (fun h18 => ?_)
      · refine V_iloadn_2 dX6_lay_32 ?_
        refine V_iconst 2 dX6_lay_33 (by decide) ?_
        refine V_icmp_ne dX6_lay_34 47 (by decide) (fun h34 => ?_) (fun h34 => ?_)
        · exact absurd ⟨h4, h13, fun e => absurd e h18, fun e => absurd e h34⟩ hb
        · refine V_iloadn_3 dX6_lay_37 ?_
          refine V_cs1f dX6_lay_38 cs_X6_203 (Nat.le_of_ble_eq_true rfl) (k_C_isSheet (by omega)) ?_
          refine V_ifB_ne dX6_lay_41 47 (by decide) (fun h41 => ?_) (fun h41 => ?_)
          · exact absurd ⟨h4, h13, fun e => absurd e h18, fun _ => h41⟩ hb
          · refine V_ldc (-1000000001) dX6_lay_44 cn_X6_66 ?_
            exact V_iret dX6_lay_46 ⟨rfl, rfl⟩
      · refine V_aloadn_0 dX6_lay_21 ?_
        refine V_getR dX6_lay_22 fl_X6_46 oC_now ?_
        refine V_iloadn_3 dX6_lay_25 ?_
        refine V_cv1f dX6_lay_26 cv_X6_76 (rcT tw61) (Nat.le_of_ble_eq_true rfl) (k_T_hasCellar tw61 hT) ?_
        refine V_ifB_eq dX6_lay_29 44 (by decide) (fun h29 => ?_) (fun h29 => ?_)
        · refine V_ldc (-1000000001) dX6_lay_44 cn_X6_66 ?_
          exact V_iret dX6_lay_46 ⟨rfl, rfl⟩
        · refine V_iloadn_2 dX6_lay_32 ?_
          refine V_iconst 2 dX6_lay_33 (by decide) ?_
          refine V_icmp_ne dX6_lay_34 47 (by decide) (fun h34 => ?_) (fun h34 => ?_)
          · exact absurd ⟨h4, h13, fun _ => h29, fun e => absurd e h34⟩ hb
          · refine V_iloadn_3 dX6_lay_37 ?_
            refine V_cs1f dX6_lay_38 cs_X6_203 (Nat.le_of_ble_eq_true rfl) (k_C_isSheet (by omega)) ?_
            refine V_ifB_ne dX6_lay_41 47 (by decide) (fun h41 => ?_) (fun h41 => ?_)
            · exact absurd ⟨h4, h13, fun _ => h29, fun _ => h41⟩ hb
            · refine V_ldc (-1000000001) dX6_lay_44 cn_X6_66 ?_
              exact V_iret dX6_lay_46 ⟨rfl, rfl⟩

set_option maxRecDepth 100000 in
set_option maxHeartbeats 4000000 in
theorem m_lay_0 {G : vG} {σ : vS} {d : Nat} (hd : 2 ≤ d) {s th : Nat} (hs : s < 5) (h0 : σ 115 s = nI th) {x : Int32} : Cf G yX7_lay cX7_lay 6 (some .int) d [.ref 97, .int (nI s), .int 0, .int x] σ (some (.int (nI th))) (vup (vup (vup σ 115 s 0) 116 s x) 117 s 0) := by
  refine Ct.ofV (by decide) (Nat.le_of_ble_eq_true rfl) rfl ?_
  show V G RX7 cX7_lay (some .int) 6 d _ 0 [some (.ref 97), some (.int (nI s)), some (.int 0), some (.int x), none, none] [] _
  obtain ⟨d, rfl⟩ : ∃ e, d = e + 1 := ⟨d - 1, by omega⟩
  refine V_iloadn_1 dX7_lay_0 ?_
  refine V_cs1f dX7_lay_1 cs_X7_275 (Nat.le_of_ble_eq_true rfl) (k_M_isSlot (by omega)) ?_
  refine V_ifB_eq dX7_lay_4 41 (by decide) (fun h4 => ?_) (fun h4 => ?_)
  · exact absurd (hasN hs (by decide)) h4
  · refine V_iloadn_2 dX7_lay_7 ?_
    refine V_iconst 0 dX7_lay_8 (by decide) ?_
    refine V_iconst 3 dX7_lay_9 (by decide) ?_
    refine V_cs3f dX7_lay_10 cs_X7_82 (Nat.le_of_ble_eq_true rfl) k_M_in ?_
    refine V_ifB_eq dX7_lay_13 41 (by decide) (fun h13 => ?_) (fun h13 => ?_)
    · exact absurd (by decide) h13
    · refine V_iloadn_2 dX7_lay_16 ?_
      refine V_iconst 1 dX7_lay_17 (by decide) ?_
      refine V_icmp_ne_t dX7_lay_18 29 (by decide) (by decide) ?_
      refine V_iloadn_2 dX7_lay_29 ?_
      refine V_iconst 2 dX7_lay_30 (by decide) ?_
      refine V_icmp_ne_t dX7_lay_31 44 (by decide) (by decide) ?_
      refine V_iloadn_2 dX7_lay_44 ?_
      refine V_iconst 2 dX7_lay_45 (by decide) ?_
      refine V_icmp_ne_t dX7_lay_46 61 (by decide) (by decide) ?_
      refine V_aloadn_0 dX7_lay_61 ?_
      refine V_getR dX7_lay_62 fl_X7_63 oM_holds ?_
      refine V_iloadn_1 dX7_lay_65 ?_
      refine V_iald (j := s) dX7_lay_66 aM_holds (by omega) (by decide) ?_
      refine V_topi (y := nI th) h0 ?_
      refine V_istore_4 dX7_lay_67 (by first | exact rfl | exact True.intro) (by decide) ?_
      refine V_aloadn_0 dX7_lay_69 ?_
      refine V_getR dX7_lay_70 fl_X7_63 oM_holds ?_
      refine V_iloadn_1 dX7_lay_73 ?_
      refine V_iloadn_2 dX7_lay_74 ?_
      refine V_iast (j := s) dX7_lay_75 aM_holds (by omega) (by decide) ?_
      refine V_aloadn_0 dX7_lay_76 ?_
      refine V_getR dX7_lay_77 fl_X7_66 oM_holdsA ?_
      refine V_iloadn_1 dX7_lay_80 ?_
      refine V_iloadn_2 dX7_lay_81 ?_
      refine V_iconst 1 dX7_lay_82 (by decide) ?_
      refine V_icmp_ne_t dX7_lay_83 95 (by decide) (by decide) ?_
      refine V_iloadn_2 dX7_lay_95 ?_
      refine V_iconst 2 dX7_lay_96 (by decide) ?_
      refine V_icmp_ne_t dX7_lay_97 109 (by decide) (by decide) ?_
      refine V_iloadn_3 dX7_lay_109 ?_
      refine V_iast (j := s) dX7_lay_110 aM_holdsA (by omega) (by decide) ?_
      refine V_aloadn_0 dX7_lay_111 ?_
      refine V_getR dX7_lay_112 fl_X7_69 oM_holdsB ?_
      refine V_iloadn_1 dX7_lay_115 ?_
      refine V_iloadn_2 dX7_lay_116 ?_
      refine V_iconst 1 dX7_lay_117 (by decide) ?_
      refine V_icmp_ne_t dX7_lay_118 129 (by decide) (by decide) ?_
      refine V_iconst 0 dX7_lay_129 (by decide) ?_
      refine V_iast (j := s) dX7_lay_130 aM_holdsB (by omega) (by decide) ?_
      refine V_iconst 0 dX7_lay_131 (by decide) ?_
      refine V_istore_5 dX7_lay_132 (by first | exact rfl | exact True.intro) (by decide) ?_
      refine V_iload_5 dX7_lay_134 ?_
      refine V_bipush 24 dX7_lay_136 (by decide) ?_
      refine V_icmp_ge_f dX7_lay_138 176 (by decide) (by decide) ?_
      refine V_iloadn_2 dX7_lay_141 ?_
      refine V_iconst 2 dX7_lay_142 (by decide) ?_
      refine V_icmp_ne_t dX7_lay_143 176 (by decide) (by decide) ?_
      refine V_iload_4 dX7_lay_176 ?_
      exact V_iret dX7_lay_178 ⟨rfl, rfl⟩

set_option maxRecDepth 100000 in
set_option maxHeartbeats 4000000 in
theorem m_lay_3 {G : vG} {σ : vS} {d : Nat} (hd : 2 ≤ d) {s th : Nat} (hs : s < 5) (h0 : σ 115 s = nI th) {x : Int32} : Cf G yX7_lay cX7_lay 6 (some .int) d [.ref 97, .int (nI s), .int 3, .int x] σ (some (.int (nI th))) (vup (vup (vup σ 115 s 3) 116 s x) 117 s 0) := by
  refine Ct.ofV (by decide) (Nat.le_of_ble_eq_true rfl) rfl ?_
  show V G RX7 cX7_lay (some .int) 6 d _ 0 [some (.ref 97), some (.int (nI s)), some (.int 3), some (.int x), none, none] [] _
  obtain ⟨d, rfl⟩ : ∃ e, d = e + 1 := ⟨d - 1, by omega⟩
  refine V_iloadn_1 dX7_lay_0 ?_
  refine V_cs1f dX7_lay_1 cs_X7_275 (Nat.le_of_ble_eq_true rfl) (k_M_isSlot (by omega)) ?_
  refine V_ifB_eq dX7_lay_4 41 (by decide) (fun h4 => ?_) (fun h4 => ?_)
  · exact absurd (hasN hs (by decide)) h4
  · refine V_iloadn_2 dX7_lay_7 ?_
    refine V_iconst 0 dX7_lay_8 (by decide) ?_
    refine V_iconst 3 dX7_lay_9 (by decide) ?_
    refine V_cs3f dX7_lay_10 cs_X7_82 (Nat.le_of_ble_eq_true rfl) k_M_in ?_
    refine V_ifB_eq dX7_lay_13 41 (by decide) (fun h13 => ?_) (fun h13 => ?_)
    · exact absurd (by decide) h13
    · refine V_iloadn_2 dX7_lay_16 ?_
      refine V_iconst 1 dX7_lay_17 (by decide) ?_
      refine V_icmp_ne_t dX7_lay_18 29 (by decide) (by decide) ?_
      refine V_iloadn_2 dX7_lay_29 ?_
      refine V_iconst 2 dX7_lay_30 (by decide) ?_
      refine V_icmp_ne_t dX7_lay_31 44 (by decide) (by decide) ?_
      refine V_iloadn_2 dX7_lay_44 ?_
      refine V_iconst 2 dX7_lay_45 (by decide) ?_
      refine V_icmp_ne_t dX7_lay_46 61 (by decide) (by decide) ?_
      refine V_aloadn_0 dX7_lay_61 ?_
      refine V_getR dX7_lay_62 fl_X7_63 oM_holds ?_
      refine V_iloadn_1 dX7_lay_65 ?_
      refine V_iald (j := s) dX7_lay_66 aM_holds (by omega) (by decide) ?_
      refine V_topi (y := nI th) h0 ?_
      refine V_istore_4 dX7_lay_67 (by first | exact rfl | exact True.intro) (by decide) ?_
      refine V_aloadn_0 dX7_lay_69 ?_
      refine V_getR dX7_lay_70 fl_X7_63 oM_holds ?_
      refine V_iloadn_1 dX7_lay_73 ?_
      refine V_iloadn_2 dX7_lay_74 ?_
      refine V_iast (j := s) dX7_lay_75 aM_holds (by omega) (by decide) ?_
      refine V_aloadn_0 dX7_lay_76 ?_
      refine V_getR dX7_lay_77 fl_X7_66 oM_holdsA ?_
      refine V_iloadn_1 dX7_lay_80 ?_
      refine V_iloadn_2 dX7_lay_81 ?_
      refine V_iconst 1 dX7_lay_82 (by decide) ?_
      refine V_icmp_ne_t dX7_lay_83 95 (by decide) (by decide) ?_
      refine V_iloadn_2 dX7_lay_95 ?_
      refine V_iconst 2 dX7_lay_96 (by decide) ?_
      refine V_icmp_ne_t dX7_lay_97 109 (by decide) (by decide) ?_
      refine V_iloadn_3 dX7_lay_109 ?_
      refine V_iast (j := s) dX7_lay_110 aM_holdsA (by omega) (by decide) ?_
      refine V_aloadn_0 dX7_lay_111 ?_
      refine V_getR dX7_lay_112 fl_X7_69 oM_holdsB ?_
      refine V_iloadn_1 dX7_lay_115 ?_
      refine V_iloadn_2 dX7_lay_116 ?_
      refine V_iconst 1 dX7_lay_117 (by decide) ?_
      refine V_icmp_ne_t dX7_lay_118 129 (by decide) (by decide) ?_
      refine V_iconst 0 dX7_lay_129 (by decide) ?_
      refine V_iast (j := s) dX7_lay_130 aM_holdsB (by omega) (by decide) ?_
      refine V_iconst 0 dX7_lay_131 (by decide) ?_
      refine V_istore_5 dX7_lay_132 (by first | exact rfl | exact True.intro) (by decide) ?_
      refine V_iload_5 dX7_lay_134 ?_
      refine V_bipush 24 dX7_lay_136 (by decide) ?_
      refine V_icmp_ge_f dX7_lay_138 176 (by decide) (by decide) ?_
      refine V_iloadn_2 dX7_lay_141 ?_
      refine V_iconst 2 dX7_lay_142 (by decide) ?_
      refine V_icmp_ne_t dX7_lay_143 176 (by decide) (by decide) ?_
      refine V_iload_4 dX7_lay_176 ?_
      exact V_iret dX7_lay_178 ⟨rfl, rfl⟩

set_option maxRecDepth 100000 in
set_option maxHeartbeats 4000000 in
theorem m_lay_1 {G : vG} {σ : vS} {d : Nat} (hd : 2 ≤ d) {L T : nT} (hC : MC L T σ) {s th : Nat} (hs : s < 5) (h0 : σ 115 s = nI th) {c : Nat} (hc : c < T 0 5) : Cf G yX7_lay cX7_lay 6 (some .int) d [.ref 97, .int (nI s), .int 1, .int (nI c)] σ (some (.int (nI th))) (vup (vup (vup σ 115 s 1) 116 s (nI (T 1 c))) 117 s (worthI (T 1 c) (T 3 c))) := by
  refine Ct.ofV (by decide) (Nat.le_of_ble_eq_true rfl) rfl ?_
  show V G RX7 cX7_lay (some .int) 6 d _ 0 [some (.ref 97), some (.int (nI s)), some (.int 1), some (.int (nI c)), none, none] [] _
  obtain ⟨d, rfl⟩ : ∃ e, d = e + 1 := ⟨d - 1, by omega⟩
  have hI := hC.2.2.1
  have hn := hI.nc
  have hm := hI.np
  refine V_iloadn_1 dX7_lay_0 ?_
  refine V_cs1f dX7_lay_1 cs_X7_275 (Nat.le_of_ble_eq_true rfl) (k_M_isSlot (by omega)) ?_
  refine V_ifB_eq dX7_lay_4 41 (by decide) (fun h4 => ?_) (fun h4 => ?_)
  · exact absurd (hasN hs (by decide)) h4
  · refine V_iloadn_2 dX7_lay_7 ?_
    refine V_iconst 0 dX7_lay_8 (by decide) ?_
    refine V_iconst 3 dX7_lay_9 (by decide) ?_
    refine V_cs3f dX7_lay_10 cs_X7_82 (Nat.le_of_ble_eq_true rfl) k_M_in ?_
    refine V_ifB_eq dX7_lay_13 41 (by decide) (fun h13 => ?_) (fun h13 => ?_)
    · exact absurd (by decide) h13
    · refine V_iloadn_2 dX7_lay_16 ?_
      refine V_iconst 1 dX7_lay_17 (by decide) ?_
      refine V_icmp_ne_f dX7_lay_18 29 (by decide) (by decide) ?_
      refine V_aloadn_0 dX7_lay_21 ?_
      refine V_iloadn_3 dX7_lay_22 ?_
      refine V_cv1f dX7_lay_23 cv_X7_112 rcM (Nat.le_of_ble_eq_true rfl) (k_M_isCellar (by omega) hC) ?_
      refine V_ifB_eq dX7_lay_26 41 (by decide) (fun h26 => ?_) (fun h26 => ?_)
      · exact absurd (hasN hc (by omega)) h26
      · refine V_iloadn_2 dX7_lay_29 ?_
        refine V_iconst 2 dX7_lay_30 (by decide) ?_
        refine V_icmp_ne_t dX7_lay_31 44 (by decide) (by decide) ?_
        refine V_iloadn_2 dX7_lay_44 ?_
        refine V_iconst 2 dX7_lay_45 (by decide) ?_
        refine V_icmp_ne_t dX7_lay_46 61 (by decide) (by decide) ?_
        refine V_aloadn_0 dX7_lay_61 ?_
        refine V_getR dX7_lay_62 fl_X7_63 oM_holds ?_
        refine V_iloadn_1 dX7_lay_65 ?_
        refine V_iald (j := s) dX7_lay_66 aM_holds (by omega) (by decide) ?_
        refine V_topi (y := nI th) h0 ?_
        refine V_istore_4 dX7_lay_67 (by first | exact rfl | exact True.intro) (by decide) ?_
        refine V_aloadn_0 dX7_lay_69 ?_
        refine V_getR dX7_lay_70 fl_X7_63 oM_holds ?_
        refine V_iloadn_1 dX7_lay_73 ?_
        refine V_iloadn_2 dX7_lay_74 ?_
        refine V_iast (j := s) dX7_lay_75 aM_holds (by omega) (by decide) ?_
        have hC1 : MC L T (vup σ 115 s 1) := hC.e98 (vup_p (by decide))
        refine V_aloadn_0 dX7_lay_76 ?_
        refine V_getR dX7_lay_77 fl_X7_66 oM_holdsA ?_
        refine V_iloadn_1 dX7_lay_80 ?_
        refine V_iloadn_2 dX7_lay_81 ?_
        refine V_iconst 1 dX7_lay_82 (by decide) ?_
        refine V_icmp_ne_f dX7_lay_83 95 (by decide) (by decide) ?_
        refine V_aloadn_0 dX7_lay_86 ?_
        refine V_iloadn_3 dX7_lay_87 ?_
        refine V_iconst 0 dX7_lay_88 (by decide) ?_
        refine V_cv2f dX7_lay_89 cv_X7_92 rcM (Nat.le_of_ble_eq_true rfl) (k_M_of (w := 0) (v := nI (T 1 c)) (by omega) (hC1.1.c1 hc)) ?_
        refine V_goto dX7_lay_92 110 (by decide) ?_
        refine V_iast (j := s) dX7_lay_110 aM_holdsA (by omega) (by decide) ?_
        have hC2 : MC L T (vup (vup σ 115 s 1) 116 s (nI (T 1 c))) := hC.e98 (by rw [vup_p (by decide), vup_p (by decide)])
        refine V_aloadn_0 dX7_lay_111 ?_
        refine V_getR dX7_lay_112 fl_X7_69 oM_holdsB ?_
        refine V_iloadn_1 dX7_lay_115 ?_
        refine V_iloadn_2 dX7_lay_116 ?_
        refine V_iconst 1 dX7_lay_117 (by decide) ?_
        refine V_icmp_ne_f dX7_lay_118 129 (by decide) (by decide) ?_
        refine V_aloadn_0 dX7_lay_121 ?_
        refine V_iloadn_3 dX7_lay_122 ?_
        refine V_cv1f dX7_lay_123 cv_X7_122 rcM (Nat.le_of_ble_eq_true rfl) (k_M_worthOf (by omega) hC2 hc) ?_
        refine V_goto dX7_lay_126 130 (by decide) ?_
        refine V_iast (j := s) dX7_lay_130 aM_holdsB (by omega) (by decide) ?_
        refine V_iconst 0 dX7_lay_131 (by decide) ?_
        refine V_istore_5 dX7_lay_132 (by first | exact rfl | exact True.intro) (by decide) ?_
        refine V_iload_5 dX7_lay_134 ?_
        refine V_bipush 24 dX7_lay_136 (by decide) ?_
        refine V_icmp_ge_f dX7_lay_138 176 (by decide) (by decide) ?_
        refine V_iloadn_2 dX7_lay_141 ?_
        refine V_iconst 2 dX7_lay_142 (by decide) ?_
        refine V_icmp_ne_t dX7_lay_143 176 (by decide) (by decide) ?_
        refine V_iload_4 dX7_lay_176 ?_
        exact V_iret dX7_lay_178 ⟨rfl, rfl⟩

set_option maxRecDepth 100000 in
set_option maxHeartbeats 4000000 in
theorem lp_m_lay {G : vG} {d : Nat} {σ0 : vS} {s th c : Nat} (hs : s < 5) (hc : c < 4) : ∀ (k : Nat) (k1 : Nat) (σ : vS), ((∀ q, q ≠ 118 → σ q = σ0 q) ∧ (∀ j, ¬ (24 * s ≤ j ∧ j < 24 * s + 24) → σ 118 j = σ0 118 j) ∧ k1 ≤ 24 ∧ ∀ j, j < k1 → σ 118 (24 * s + j) = σ0 114 (24 * c + j)) → 24 - k1 < k → V G RX7 cX7_lay (some .int) 6 d (fun r' σ' => r' = some (.int (nI th)) ∧ (∀ q, q ≠ 118 → σ' q = σ0 q) ∧ (∀ j, ¬ (24 * s ≤ j ∧ j < 24 * s + 24) → σ' 118 j = σ0 118 j) ∧ ∀ j, j < 24 → σ' 118 (24 * s + j) = σ0 114 (24 * c + j)) 134 [some (.ref 97), some (.int (nI s)), some (.int 2), some (.int (nI c)), some (.int (nI th)), some (.int (nI k1))] [] σ := by
  intro k
  induction k with
  | zero => intros; omega
  | succ k ih =>
    intro k1 σ hh hk
    obtain ⟨hq, hc8, hk24, hz⟩ := hh
    refine V_iload_5 dX7_lay_134 ?_
    refine V_bipush 24 dX7_lay_136 (by decide) ?_
    refine V_icmpN_ge (a := k1) (b := 24) dX7_lay_138 176 (by decide) (by omega) (by omega) (fun h138 => ?_) (fun h138 => ?_)
    · refine V_iload_4 dX7_lay_176 ?_
      exact V_iret dX7_lay_178 ⟨rfl, hq, hc8, fun j hj => hz j (by omega)⟩
    · refine V_iloadn_2 dX7_lay_141 ?_
      refine V_iconst 2 dX7_lay_142 (by decide) ?_
      refine V_icmp_ne_f dX7_lay_143 176 (by decide) (by decide) ?_
      refine V_aloadn_0 dX7_lay_146 ?_
      refine V_getR dX7_lay_147 fl_X7_72 oM_heldCells ?_
      refine V_bipush 24 dX7_lay_150 (by decide) ?_
      refine V_iloadn_1 dX7_lay_152 ?_
      refine V_imulN (a := 24) (b := s) dX7_lay_153 ?_
      refine V_iload_5 dX7_lay_154 ?_
      refine V_iaddN (a := 24 * s) (b := k1) dX7_lay_156 ?_
      refine V_aloadn_0 dX7_lay_157 ?_
      refine V_getR dX7_lay_158 fl_X7_60 oM_cells ?_
      refine V_bipush 24 dX7_lay_161 (by decide) ?_
      refine V_iloadn_3 dX7_lay_163 ?_
      refine V_imulN (a := 24) (b := c) dX7_lay_164 ?_
      refine V_iload_5 dX7_lay_165 ?_
      refine V_iaddN (a := 24 * c) (b := k1) dX7_lay_167 ?_
      refine V_iald (j := (24 * c) + k1) dX7_lay_168 aM_cells (by omega) (by decide) ?_
      refine V_iast (j := (24 * s) + k1) dX7_lay_169 aM_heldCells (by omega) (by decide) ?_
      refine V_iinc_5 dX7_lay_170 (by first | exact rfl | exact True.intro) (by decide) (nI (k1 + 1)) (nI_inc _) ?_
      refine V_goto dX7_lay_173 134 (by decide) ?_
      refine ih (k1 + 1) _ ⟨fun q a => by rw [vup_p a]; exact hq q a, fun j hj => by rw [vup_ne (by omega)]; exact hc8 j hj, by omega, fun j hj => ?_⟩ (by omega)
      by_cases e : j = k1
      · rw [e, vup_same, hq 114 (by decide)]
      · rw [vup_ne (by omega)]; exact hz j (by omega)

set_option maxRecDepth 100000 in
set_option maxHeartbeats 4000000 in
theorem m_lay_2 {G : vG} {σ : vS} {d : Nat} (hd : 2 ≤ d) {s th : Nat} (hs : s < 5) (h0 : σ 115 s = nI th) {c z : Nat} (hc : c < 4) (hso : 0 ≤ σ 112 c) (hz : σ 113 c = nI z) : Cr G yX7_lay cX7_lay 6 (some .int) d [.ref 97, .int (nI s), .int 2, .int (nI c)] σ (some (.int (nI th))) (fun σ' => σ' 115 s = 2 ∧ σ' 116 s = nI z ∧ (∀ j, j < 24 → σ' 118 (24 * s + j) = σ 114 (24 * c + j)) ∧ (∀ j, j ≠ s → σ' 115 j = σ 115 j ∧ σ' 116 j = σ 116 j ∧ σ' 117 j = σ 117 j) ∧ (∀ j, ¬ (24 * s ≤ j ∧ j < 24 * s + 24) → σ' 118 j = σ 118 j) ∧ ∀ q, q ≠ 115 → q ≠ 116 → q ≠ 117 → q ≠ 118 → σ' q = σ q) := by
  refine Ct.ofV (by decide) (Nat.le_of_ble_eq_true rfl) rfl ?_
  show V G RX7 cX7_lay (some .int) 6 d _ 0 [some (.ref 97), some (.int (nI s)), some (.int 2), some (.int (nI c)), none, none] [] _
  obtain ⟨d, rfl⟩ : ∃ e, d = e + 1 := ⟨d - 1, by omega⟩
  refine V_iloadn_1 dX7_lay_0 ?_
  refine V_cs1f dX7_lay_1 cs_X7_275 (Nat.le_of_ble_eq_true rfl) (k_M_isSlot (by omega)) ?_
  refine V_ifB_eq dX7_lay_4 41 (by decide) (fun h4 => ?_) (fun h4 => ?_)
  · exact absurd (hasN hs (by decide)) h4
  · refine V_iloadn_2 dX7_lay_7 ?_
    refine V_iconst 0 dX7_lay_8 (by decide) ?_
    refine V_iconst 3 dX7_lay_9 (by decide) ?_
    refine V_cs3f dX7_lay_10 cs_X7_82 (Nat.le_of_ble_eq_true rfl) k_M_in ?_
    refine V_ifB_eq dX7_lay_13 41 (by decide) (fun h13 => ?_) (fun h13 => ?_)
    · exact absurd (by decide) h13
    · refine V_iloadn_2 dX7_lay_16 ?_
      refine V_iconst 1 dX7_lay_17 (by decide) ?_
      refine V_icmp_ne_t dX7_lay_18 29 (by decide) (by decide) ?_
      refine V_iloadn_2 dX7_lay_29 ?_
      refine V_iconst 2 dX7_lay_30 (by decide) ?_
      refine V_icmp_ne_f dX7_lay_31 44 (by decide) (by decide) ?_
      refine V_iloadn_3 dX7_lay_34 ?_
      refine V_cs1f dX7_lay_35 cs_X7_192 (Nat.le_of_ble_eq_true rfl) (k_M_isSheet (by omega)) ?_
      refine V_ifB_ne dX7_lay_38 44 (by decide) (fun h38 => ?_) (fun h38 => ?_)
      · refine V_iloadn_2 dX7_lay_44 ?_
        refine V_iconst 2 dX7_lay_45 (by decide) ?_
        refine V_icmp_ne_f dX7_lay_46 61 (by decide) (by decide) ?_
        refine V_aloadn_0 dX7_lay_49 ?_
        refine V_getR dX7_lay_50 fl_X7_54 oM_sorts ?_
        refine V_iloadn_3 dX7_lay_53 ?_
        refine V_iald (j := c) dX7_lay_54 aM_sorts (by omega) (by decide) ?_
        refine V_if_ge_t dX7_lay_55 61 (by decide) hso ?_
        refine V_aloadn_0 dX7_lay_61 ?_
        refine V_getR dX7_lay_62 fl_X7_63 oM_holds ?_
        refine V_iloadn_1 dX7_lay_65 ?_
        refine V_iald (j := s) dX7_lay_66 aM_holds (by omega) (by decide) ?_
        refine V_topi (y := nI th) h0 ?_
        refine V_istore_4 dX7_lay_67 (by first | exact rfl | exact True.intro) (by decide) ?_
        refine V_aloadn_0 dX7_lay_69 ?_
        refine V_getR dX7_lay_70 fl_X7_63 oM_holds ?_
        refine V_iloadn_1 dX7_lay_73 ?_
        refine V_iloadn_2 dX7_lay_74 ?_
        refine V_iast (j := s) dX7_lay_75 aM_holds (by omega) (by decide) ?_
        refine V_aloadn_0 dX7_lay_76 ?_
        refine V_getR dX7_lay_77 fl_X7_66 oM_holdsA ?_
        refine V_iloadn_1 dX7_lay_80 ?_
        refine V_iloadn_2 dX7_lay_81 ?_
        refine V_iconst 1 dX7_lay_82 (by decide) ?_
        refine V_icmp_ne_t dX7_lay_83 95 (by decide) (by decide) ?_
        refine V_iloadn_2 dX7_lay_95 ?_
        refine V_iconst 2 dX7_lay_96 (by decide) ?_
        refine V_icmp_ne_f dX7_lay_97 109 (by decide) (by decide) ?_
        refine V_aloadn_0 dX7_lay_100 ?_
        refine V_getR dX7_lay_101 fl_X7_57 oM_sizes ?_
        refine V_iloadn_3 dX7_lay_104 ?_
        refine V_iald (j := c) dX7_lay_105 aM_sizes (by omega) (by decide) ?_
        refine V_topi (y := nI z) (by rw [vup_ne (by omega)]; exact hz) ?_
        refine V_goto dX7_lay_106 110 (by decide) ?_
        refine V_iast (j := s) dX7_lay_110 aM_holdsA (by omega) (by decide) ?_
        refine V_aloadn_0 dX7_lay_111 ?_
        refine V_getR dX7_lay_112 fl_X7_69 oM_holdsB ?_
        refine V_iloadn_1 dX7_lay_115 ?_
        refine V_iloadn_2 dX7_lay_116 ?_
        refine V_iconst 1 dX7_lay_117 (by decide) ?_
        refine V_icmp_ne_t dX7_lay_118 129 (by decide) (by decide) ?_
        refine V_iconst 0 dX7_lay_129 (by decide) ?_
        refine V_iast (j := s) dX7_lay_130 aM_holdsB (by omega) (by decide) ?_
        refine V_iconst 0 dX7_lay_131 (by decide) ?_
        refine V_istore_5 dX7_lay_132 (by first | exact rfl | exact True.intro) (by decide) ?_
        refine V.mono (fun r' σ' h => ?_) (lp_m_lay hs hc 25 0 _ ⟨fun _ _ => rfl, fun _ _ => rfl, by omega, fun j hj => absurd hj (Nat.not_lt_zero j)⟩ (by omega))
        obtain ⟨g1, g2, g3, g4⟩ := h
        refine ⟨g1, by rw [g2 115 (by decide), vup_ne (by omega), vup_ne (by omega), vup_same], by rw [g2 116 (by decide), vup_ne (by omega), vup_same], fun j hj => by rw [g4 j hj, vup_ne (by omega), vup_ne (by omega), vup_ne (by omega)], fun j hj => ⟨by rw [g2 115 (by decide), vup_ne (by omega), vup_ne (by omega), vup_ne (by omega)], by rw [g2 116 (by decide), vup_ne (by omega), vup_ne (by omega), vup_ne (by omega)], by rw [g2 117 (by decide), vup_ne (by omega), vup_ne (by omega), vup_ne (by omega)]⟩, fun j hj => by rw [g3 j hj, vup_ne (by omega), vup_ne (by omega), vup_ne (by omega)], fun q a b c d => by rw [g2 q d, vup_p c, vup_p b, vup_p a]⟩
      · exact absurd (hasN hc (by decide)) h38

set_option maxRecDepth 100000 in
set_option maxHeartbeats 4000000 in
theorem m_lay_2n {G : vG} {σ : vS} {d : Nat} (hd : 2 ≤ d) {s : Nat} (hs : s < 5) {c : Nat} (hc : c < 4) (hso : ¬ 0 ≤ σ 112 c) : Cf G yX7_lay cX7_lay 6 (some .int) d [.ref 97, .int (nI s), .int 2, .int (nI c)] σ (some (.int (-1000000011))) σ := by
  refine Ct.ofV (by decide) (Nat.le_of_ble_eq_true rfl) rfl ?_
  show V G RX7 cX7_lay (some .int) 6 d _ 0 [some (.ref 97), some (.int (nI s)), some (.int 2), some (.int (nI c)), none, none] [] _
  obtain ⟨d, rfl⟩ : ∃ e, d = e + 1 := ⟨d - 1, by omega⟩
  refine V_iloadn_1 dX7_lay_0 ?_
  refine V_cs1f dX7_lay_1 cs_X7_275 (Nat.le_of_ble_eq_true rfl) (k_M_isSlot (by omega)) ?_
  refine V_ifB_eq dX7_lay_4 41 (by decide) (fun h4 => ?_) (fun h4 => ?_)
  · exact absurd (hasN hs (by decide)) h4
  · refine V_iloadn_2 dX7_lay_7 ?_
    refine V_iconst 0 dX7_lay_8 (by decide) ?_
    refine V_iconst 3 dX7_lay_9 (by decide) ?_
    refine V_cs3f dX7_lay_10 cs_X7_82 (Nat.le_of_ble_eq_true rfl) k_M_in ?_
    refine V_ifB_eq dX7_lay_13 41 (by decide) (fun h13 => ?_) (fun h13 => ?_)
    · exact absurd (by decide) h13
    · refine V_iloadn_2 dX7_lay_16 ?_
      refine V_iconst 1 dX7_lay_17 (by decide) ?_
      refine V_icmp_ne_t dX7_lay_18 29 (by decide) (by decide) ?_
      refine V_iloadn_2 dX7_lay_29 ?_
      refine V_iconst 2 dX7_lay_30 (by decide) ?_
      refine V_icmp_ne_f dX7_lay_31 44 (by decide) (by decide) ?_
      refine V_iloadn_3 dX7_lay_34 ?_
      refine V_cs1f dX7_lay_35 cs_X7_192 (Nat.le_of_ble_eq_true rfl) (k_M_isSheet (by omega)) ?_
      refine V_ifB_ne dX7_lay_38 44 (by decide) (fun h38 => ?_) (fun h38 => ?_)
      · refine V_iloadn_2 dX7_lay_44 ?_
        refine V_iconst 2 dX7_lay_45 (by decide) ?_
        refine V_icmp_ne_f dX7_lay_46 61 (by decide) (by decide) ?_
        refine V_aloadn_0 dX7_lay_49 ?_
        refine V_getR dX7_lay_50 fl_X7_54 oM_sorts ?_
        refine V_iloadn_3 dX7_lay_53 ?_
        refine V_iald (j := c) dX7_lay_54 aM_sorts (by omega) (by decide) ?_
        refine V_if_ge_f dX7_lay_55 61 (by decide) hso ?_
        refine V_ldc (-1000000011) dX7_lay_58 cn_X7_195 ?_
        exact V_iret dX7_lay_60 ⟨rfl, rfl⟩
      · exact absurd (hasN hc (by decide)) h38

set_option maxRecDepth 100000 in
set_option maxHeartbeats 4000000 in
theorem m_lay_bad {G : vG} {σ : vS} {d : Nat} (hd : 2 ≤ d) {L T : nT} (hC : MC L T σ) {x y z : Int32} (hb : ¬ (hasI x 5 ∧ inI y 0 3 ∧ (y = 1 → hasI z (T 0 5)) ∧ (y = 2 → hasI z 4))) : Cf G yX7_lay cX7_lay 6 (some .int) d [.ref 97, .int x, .int y, .int z] σ (some (.int (-1000000001))) σ := by
  refine Ct.ofV (by decide) (Nat.le_of_ble_eq_true rfl) rfl ?_
  show V G RX7 cX7_lay (some .int) 6 d _ 0 [some (.ref 97), some (.int x), some (.int y), some (.int z), none, none] [] _
  obtain ⟨d, rfl⟩ : ∃ e, d = e + 1 := ⟨d - 1, by omega⟩
  have hI := hC.2.2.1
  have hn := hI.nc
  have hm := hI.np
  refine V_iloadn_1 dX7_lay_0 ?_
  refine V_cs1f dX7_lay_1 cs_X7_275 (Nat.le_of_ble_eq_true rfl) (k_M_isSlot (by omega)) ?_
  refine V_ifB_eq dX7_lay_4 41 (by decide) (fun h4 => ?_) (fun h4 => ?_)
  · refine V_ldc (-1000000001) dX7_lay_41 cn_X7_86 ?_
    exact V_iret dX7_lay_43 ⟨rfl, rfl⟩
  · refine V_iloadn_2 dX7_lay_7 ?_
    refine V_iconst 0 dX7_lay_8 (by decide) ?_
    refine V_iconst 3 dX7_lay_9 (by decide) ?_
    refine V_cs3f dX7_lay_10 cs_X7_82 (Nat.le_of_ble_eq_true rfl) k_M_in ?_
    refine V_ifB_eq dX7_lay_13 41 (by decide) (fun h13 => ?_) (fun h13 => ?_)
    · refine V_ldc (-1000000001) dX7_lay_41 cn_X7_86 ?_
      exact V_iret dX7_lay_43 ⟨rfl, rfl⟩
    · refine V_iloadn_2 dX7_lay_16 ?_
      refine V_iconst 1 dX7_lay_17 (by decide) ?_
      refine V_icmp_ne dX7_lay_18 29 (by decide) (fun h18 => ?_) (fun h18 => ?_)
      · refine V_iloadn_2 dX7_lay_29 ?_
        refine V_iconst 2 dX7_lay_30 (by decide) ?_
        refine V_icmp_ne dX7_lay_31 44 (by decide) (fun h31 => ?_) (fun h31 => ?_)
        · exact absurd ⟨h4, h13, fun e => absurd e h18, fun e => absurd e h31⟩ hb
        · refine V_iloadn_3 dX7_lay_34 ?_
          refine V_cs1f dX7_lay_35 cs_X7_192 (Nat.le_of_ble_eq_true rfl) (k_M_isSheet (by omega)) ?_
          refine V_ifB_ne dX7_lay_38 44 (by decide) (fun h38 => ?_) (fun h38 => ?_)
          · exact absurd ⟨h4, h13, fun e => absurd e h18, fun _ => h38⟩ hb
          · refine V_ldc (-1000000001) dX7_lay_41 cn_X7_86 ?_
            exact V_iret dX7_lay_43 ⟨rfl, rfl⟩
      · refine V_aloadn_0 dX7_lay_21 ?_
        refine V_iloadn_3 dX7_lay_22 ?_
        refine V_cv1f dX7_lay_23 cv_X7_112 rcM (Nat.le_of_ble_eq_true rfl) (k_M_isCellar (by omega) hC) ?_
        refine V_ifB_eq dX7_lay_26 41 (by decide) (fun h26 => ?_) (fun h26 => ?_)
        · refine V_ldc (-1000000001) dX7_lay_41 cn_X7_86 ?_
          exact V_iret dX7_lay_43 ⟨rfl, rfl⟩
        · refine V_iloadn_2 dX7_lay_29 ?_
          refine V_iconst 2 dX7_lay_30 (by decide) ?_
          refine V_icmp_ne dX7_lay_31 44 (by decide) (fun h31 => ?_) (fun h31 => ?_)
          · exact absurd ⟨h4, h13, fun _ => h26, fun e => absurd e h31⟩ hb
          · refine V_iloadn_3 dX7_lay_34 ?_
            refine V_cs1f dX7_lay_35 cs_X7_192 (Nat.le_of_ble_eq_true rfl) (k_M_isSheet (by omega)) ?_
            refine V_ifB_ne dX7_lay_38 44 (by decide) (fun h38 => ?_) (fun h38 => ?_)
            · exact absurd ⟨h4, h13, fun _ => h26, fun _ => h38⟩ hb
            · refine V_ldc (-1000000001) dX7_lay_41 cn_X7_86 ?_
              exact V_iret dX7_lay_43 ⟨rfl, rfl⟩

set_option maxRecDepth 100000 in
set_option maxHeartbeats 4000000 in
theorem op_lay {G : vG} {σ : vS} {d i : Nat} (hd : 100 ≤ d) (hi : i < 512) {x y z : Int32} (h : Inv i σ) : Op G yX6_lay cX6_lay 6 yX7_lay cX7_lay 6 d [.int x, .int y, .int z] i σ := by
  have hh := h
  obtain ⟨L, T, I, b, hT, hB, hM, hS, hO, hW, hR, hK⟩ := h
  have hC := hT.1
  have hE := hT.2.1
  have hI := hC.2.2.1
  have hn := hI.nc
  have hm := hI.np
  by_cases hx : hasI x 5 ∧ inI y 0 3 ∧ (y = 1 → hasI z (T 0 5)) ∧ (y = 2 → hasI z 4)
  · obtain ⟨s, hs, rfl⟩ := (hasI_iff (by decide)).mp hx.1
    obtain ⟨t, ht, rfl⟩ := (inI_iff (b := 3) (by decide)).mp hx.2.1
    obtain ⟨th, q1, q2, q3, q4, q5, q6⟩ := hO s hs
    rcases (show t = 0 ∨ t = 1 ∨ t = 2 ∨ t = 3 by omega) with rfl | rfl | rfl | rfl
    · refine Op.mk (P := fun σ1 => σ1 = vup (vup σ (45 + 3 * s) 0 0) (45 + 3 * s) 3 z) (c_lay_0 (by omega) hs q2) (fun σ1 e1 => ?_)
      have ea : ∀ q, q ≠ 45 + 3 * s → σ1 q = σ q := fun q a => by rw [e1, vup_p a, vup_p a]
      refine Ct.mono (fun r σ2 h2 => ⟨h2.1, ?_⟩) (m_lay_0 (th := th) (by omega) hs (by rw [ea 115 (by omega)]; exact q3))
      obtain ⟨-, rfl⟩ := h2
      refine hh.slot (th := 0) hs (by decide) (by rw [e1, vup_ne (by omega), vup_same]; rfl) (fun q a _ _ => ea q a) (by rw [vup_ne (by omega), vup_ne (by omega), vup_same]; rfl) (fun j hj => ⟨by rw [vup_ne (by omega), vup_ne (by omega), vup_ne (by omega)], by rw [vup_ne (by omega), vup_ne (by omega), vup_ne (by omega)], by rw [vup_ne (by omega), vup_ne (by omega), vup_ne (by omega)]⟩) (fun j hj => by rw [vup_ne (by omega), vup_ne (by omega), vup_ne (by omega)]) (fun q a b c _ => by rw [vup_p c, vup_p b, vup_p a]) (fun e => absurd e (by decide)) (fun e => absurd e (by decide)) (fun _ => by rw [e1, vup_same, vup_ne (by omega), vup_same])
    · obtain ⟨c, hc, rfl⟩ := (hasI_iff (by omega)).mp (hx.2.2.1 rfl)
      have hce := hI.ce hc
      refine Op.mk (P := fun σ1 => σ1 = vup (vup (vup σ (45 + 3 * s) 0 1) (45 + 3 * s) 1 (nI (T 1 c))) (45 + 3 * s) 2 (nI (T 3 c))) (c_lay_1 (by omega) hC hs q2 hc) (fun σ1 e1 => ?_)
      have ea : ∀ q, q ≠ 45 + 3 * s → σ1 q = σ q := fun q a => by rw [e1, vup_p a, vup_p a, vup_p a]
      refine Ct.mono (fun r σ2 h2 => ⟨h2.1, ?_⟩) (m_lay_1 (th := th) (by omega) (hE.e98 (ea 98 (by omega))) hs (by rw [ea 115 (by omega)]; exact q3) hc)
      obtain ⟨-, rfl⟩ := h2
      refine hh.slot (th := 1) hs (by decide) (by rw [e1, vup_ne (by omega), vup_ne (by omega), vup_same]; rfl) (fun q a _ _ => ea q a) (by rw [vup_ne (by omega), vup_ne (by omega), vup_same]; rfl) (fun j hj => ⟨by rw [vup_ne (by omega), vup_ne (by omega), vup_ne (by omega)], by rw [vup_ne (by omega), vup_ne (by omega), vup_ne (by omega)], by rw [vup_ne (by omega), vup_ne (by omega), vup_ne (by omega)]⟩) (fun j hj => by rw [vup_ne (by omega), vup_ne (by omega), vup_ne (by omega)]) (fun q a b c _ => by rw [vup_p c, vup_p b, vup_p a]) (fun _ => ⟨T 1 c, T 3 c, hce.1, hce.2.2.1, hce.2.2.2, by rw [e1, vup_ne (by omega), vup_same], by rw [e1, vup_same], by rw [vup_ne (by omega), vup_same], vup_same⟩) (fun e => absurd e (by decide)) (fun e => absurd e (by decide))
    · obtain ⟨c, hc, rfl⟩ := (hasI_iff (by decide)).mp (hx.2.2.2 rfl)
      obtain ⟨s1, s2, ⟨n, n24, s3, s4⟩, s5⟩ := hS c hc
      rcases s2 with s2 | s2
      · exact Op.ask hh (Cf.fi (c_lay_2n (by omega) hs hc (s1.trans s2))) (fun σ1 f1 => Cf.fi (m_lay_2n (by omega) hs hc (by rw [f1.p (q := 112) (by omega)]; exact so_no s2)))
      · refine Op.mk (c_lay_2 (by omega) hs q2 hc (by rw [s1]; exact so_ne s2)) (fun σ1 c1 => ?_)
        obtain ⟨c1, c2, c3, c4⟩ := c1
        have ea : ∀ q, ¬ (45 ≤ q ∧ q ≤ 59) → σ1 q = σ q := fun q a => c4 q (by omega) (by omega) (by omega)
        refine Ct.mono (fun r σ2 h2 => ⟨h2.1, ?_⟩) (m_lay_2 (th := th) (z := n) (by omega) hs (by rw [ea 115 (by omega)]; exact q3) hc (by rw [ea 112 (by omega)]; exact so_yes s2) (by rw [ea 113 (by omega)]; exact s4))
        obtain ⟨-, m1, m2, m3, m4, m5, m6⟩ := h2
        exact hh.slot (th := 2) hs (by decide) c1 c4 m1 m4 m5 m6 (fun e => absurd e (by decide)) (fun _ => ⟨n, n24, by rw [c2]; exact s3, m2, fun k hk => by rw [c3 k hk, m3 k hk, ea 114 (by omega)]; exact (s5 k hk).1⟩) (fun e => absurd e (by decide))
    · refine Op.mk (P := fun σ1 => σ1 = vup (vup σ (45 + 3 * s) 0 3) (45 + 3 * s) 3 z) (c_lay_3 (by omega) hs q2) (fun σ1 e1 => ?_)
      have ea : ∀ q, q ≠ 45 + 3 * s → σ1 q = σ q := fun q a => by rw [e1, vup_p a, vup_p a]
      refine Ct.mono (fun r σ2 h2 => ⟨h2.1, ?_⟩) (m_lay_3 (th := th) (by omega) hs (by rw [ea 115 (by omega)]; exact q3))
      obtain ⟨-, rfl⟩ := h2
      refine hh.slot (th := 3) hs (by decide) (by rw [e1, vup_ne (by omega), vup_same]; rfl) (fun q a _ _ => ea q a) (by rw [vup_ne (by omega), vup_ne (by omega), vup_same]; rfl) (fun j hj => ⟨by rw [vup_ne (by omega), vup_ne (by omega), vup_ne (by omega)], by rw [vup_ne (by omega), vup_ne (by omega), vup_ne (by omega)], by rw [vup_ne (by omega), vup_ne (by omega), vup_ne (by omega)]⟩) (fun j hj => by rw [vup_ne (by omega), vup_ne (by omega), vup_ne (by omega)]) (fun q a b c _ => by rw [vup_p c, vup_p b, vup_p a]) (fun e => absurd e (by decide)) (fun e => absurd e (by decide)) (fun _ => by rw [e1, vup_same, vup_ne (by omega), vup_same])
  · exact Op.ask hh (Cf.fi (c_lay_bad (by omega) hC hx)) (fun σ1 f1 => Cf.fi (m_lay_bad (by omega) (hE.fi f1) hx))
