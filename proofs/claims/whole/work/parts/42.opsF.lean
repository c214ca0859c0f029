/-! ===== slots ===== -/
def askI (th kk l k : Nat) : Int32 := if th = 0 then -1000000011 else if th = 1 ∧ underN kk k then worthI kk l else -1000000012

set_option maxRecDepth 100000 in
set_option maxHeartbeats 4000000 in
theorem c_ask {G : vG} {σ : vS} {d : Nat} (hd : 2 ≤ d) {s k th kk l : Nat} (hs : s < 5) (hk : k ≤ 5) (hth : th ≤ 3) (h0 : σ (45 + 3 * s) 0 = nI th) (h1 : th = 1 → kk ≤ 5 ∧ l ≤ 99 ∧ σ (45 + 3 * s) 1 = nI kk ∧ σ (45 + 3 * s) 2 = nI l) : Cf G yX6_ask cX6_ask 4 (some .int) d [.ref 0, .int (nI s), .int (nI k)] σ (some (.int (askI th kk l k))) σ := by
  refine Ct.ofV (by decide) (Nat.le_of_ble_eq_true rfl) rfl ?_
  show V G RX6 cX6_ask (some .int) 4 d _ 0 [some (.ref 0), some (.int (nI s)), some (.int (nI k)), none] [] _
  obtain ⟨d, rfl⟩ : ∃ e, d = e + 1 := ⟨d - 1, by omega⟩
  refine V_iloadn_1 dX6_ask_0 ?_
  refine V_cs1f dX6_ask_1 cs_X6_288 (Nat.le_of_ble_eq_true rfl) (k_C_isSlot (by omega)) ?_
  refine V_ifB_eq dX6_ask_4 14 (by decide) (fun h4 => ?_) (fun h4 => ?_)
  · exact absurd (hasN hs (by decide)) h4
  · refine V_iloadn_2 dX6_ask_7 ?_
    refine V_cs1f dX6_ask_8 cs_X6_56 (Nat.le_of_ble_eq_true rfl) k_isKind ?_
    refine V_ifB_ne dX6_ask_11 17 (by decide) (fun h11 => ?_) (fun h11 => ?_)
    · refine V_aloadn_0 dX6_ask_17 ?_
      refine V_getR dX6_ask_18 fl_X6_24 oC_slots ?_
      refine V_iloadn_1 dX6_ask_21 ?_
      refine V_aald (j := s) dX6_ask_22 (eSlot (by omega)) (by decide) ?_
      refine V_astoren_3 dX6_ask_23 (by first | exact rfl | exact True.intro) (by decide) ?_
      refine V_aloadn_3 dX6_ask_24 ?_
      refine V_getI dX6_ask_25 fl_X6_291 (oO_thing ⟨_, (by omega), rfl⟩) ?_
      refine V_topi (y := nI th) h0 ?_
      refine V_ifN_ne (a := th) dX6_ask_28 34 (by decide) (by omega) (fun h28 => ?_) (fun h28 => ?_)
      · refine V_aloadn_3 dX6_ask_34 ?_
        refine V_getI dX6_ask_35 fl_X6_291 (oO_thing ⟨_, (by omega), rfl⟩) ?_
        refine V_topi (y := nI th) h0 ?_
        refine V_iconst 1 dX6_ask_38 (by decide) ?_
        refine V_icmpN_ne (a := th) (b := 1) dX6_ask_39 53 (by decide) (by omega) (by omega) (fun h39 => ?_) (fun h39 => ?_)
        · refine V_ldc (-1000000012) dX6_ask_53 cn_X6_118 ?_
          exact V_iret dX6_ask_55 ⟨rI (by unfold askI; rw [if_neg h28, if_neg (fun q => h39 q.1)]), rfl⟩
        · obtain ⟨k1, k2, k3, k4⟩ := h1 h39
          refine V_aloadn_3 dX6_ask_42 ?_
          refine V_getI dX6_ask_43 fl_X6_294 (oO_kind ⟨_, (by omega), rfl⟩) ?_
          refine V_topi (y := nI kk) k3 ?_
          refine V_iloadn_2 dX6_ask_46 ?_
          refine V_cs2f dX6_ask_47 cs_X6_115 (Nat.le_of_ble_eq_true rfl) (k_isUnder (by omega) (by omega) (by omega)) ?_
          refine V_ifB_ne dX6_ask_50 56 (by decide) (fun h50 => ?_) (fun h50 => ?_)
          · refine V_aloadn_3 dX6_ask_56 ?_
            refine V_getI dX6_ask_57 fl_X6_294 (oO_kind ⟨_, (by omega), rfl⟩) ?_
            refine V_topi (y := nI kk) k3 ?_
            refine V_aloadn_3 dX6_ask_60 ?_
            refine V_getI dX6_ask_61 fl_X6_296 (oO_lip ⟨_, (by omega), rfl⟩) ?_
            refine V_topi (y := nI l) k4 ?_
            refine V_cs2f dX6_ask_64 cs_X6_102 (Nat.le_of_ble_eq_true rfl) (k_worth (by omega) (by omega)) ?_
            exact V_iret dX6_ask_67 ⟨rI (by unfold askI; rw [if_neg h28, if_pos ⟨h39, h50⟩]), rfl⟩
          · refine V_ldc (-1000000012) dX6_ask_53 cn_X6_118 ?_
            exact V_iret dX6_ask_55 ⟨rI (by unfold askI; rw [if_neg h28, if_neg (fun q => h50 q.2)]), rfl⟩
      · refine V_ldc (-1000000011) dX6_ask_31 cn_X6_210 ?_
        exact V_iret dX6_ask_33 ⟨rI (by unfold askI; rw [if_pos h28]), rfl⟩
    · exact absurd (hasN (n := 6) (by omega) (by decide)) h11

set_option maxRecDepth 100000 in
set_option maxHeartbeats 4000000 in
theorem c_ask_bad {G : vG} {σ : vS} {d : Nat} (hd : 2 ≤ d) {x y : Int32} (hb : ¬ (hasI x 5 ∧ hasI y 6)) : Cf G yX6_ask cX6_ask 4 (some .int) d [.ref 0, .int x, .int y] σ (some (.int (-1000000001))) σ := by
  refine Ct.ofV (by decide) (Nat.le_of_ble_eq_true rfl) rfl ?_
  show V G RX6 cX6_ask (some .int) 4 d _ 0 [some (.ref 0), some (.int x), some (.int y), none] [] _
  obtain ⟨d, rfl⟩ : ∃ e, d = e + 1 := ⟨d - 1, by omega⟩
  refine V_iloadn_1 dX6_ask_0 ?_
  refine V_cs1f dX6_ask_1 cs_X6_288 (Nat.le_of_ble_eq_true rfl) (k_C_isSlot (by omega)) ?_
  refine V_ifB_eq dX6_ask_4 14 (by decide) (fun h4 => ?_) (fun h4 => ?_)
  · refine V_ldc (-1000000001) dX6_ask_14 cn_X6_66 ?_
    exact V_iret dX6_ask_16 ⟨rfl, rfl⟩
  · refine V_iloadn_2 dX6_ask_7 ?_
    refine V_cs1f dX6_ask_8 cs_X6_56 (Nat.le_of_ble_eq_true rfl) k_isKind ?_
    refine V_ifB_ne dX6_ask_11 17 (by decide) (fun h11 => ?_) (fun h11 => ?_)
    · exact absurd ⟨h4, h11⟩ hb
    · refine V_ldc (-1000000001) dX6_ask_14 cn_X6_66 ?_
      exact V_iret dX6_ask_16 ⟨rfl, rfl⟩

set_option maxRecDepth 100000 in
set_option maxHeartbeats 4000000 in
theorem m_ask {G : vG} {σ : vS} {d : Nat} (hd : 2 ≤ d) {s k th kk l : Nat} (hs : s < 5) (hk : k ≤ 5) (hth : th ≤ 3) (h0 : σ 115 s = nI th) (h1 : th = 1 → kk ≤ 5 ∧ σ 116 s = nI kk ∧ σ 117 s = worthI kk l) : Cf G yX7_ask cX7_ask 3 (some .int) d [.ref 97, .int (nI s), .int (nI k)] σ (some (.int (askI th kk l k))) σ := by
  refine Ct.ofV (by decide) (Nat.le_of_ble_eq_true rfl) rfl ?_
  show V G RX7 cX7_ask (some .int) 3 d _ 0 [some (.ref 97), some (.int (nI s)), some (.int (nI k))] [] _
  obtain ⟨d, rfl⟩ : ∃ e, d = e + 1 := ⟨d - 1, by omega⟩
  refine V_iloadn_1 dX7_ask_0 ?_
  refine V_cs1f dX7_ask_1 cs_X7_275 (Nat.le_of_ble_eq_true rfl) (k_M_isSlot (by omega)) ?_
  refine V_ifB_eq dX7_ask_4 16 (by decide) (fun h4 => ?_) (fun h4 => ?_)
  · exact absurd (hasN hs (by decide)) h4
  · refine V_iloadn_2 dX7_ask_7 ?_
    refine V_iconst 0 dX7_ask_8 (by decide) ?_
    refine V_iconst 5 dX7_ask_9 (by decide) ?_
    refine V_cs3f dX7_ask_10 cs_X7_82 (Nat.le_of_ble_eq_true rfl) k_M_in ?_
    refine V_ifB_ne dX7_ask_13 19 (by decide) (fun h13 => ?_) (fun h13 => ?_)
    · refine V_aloadn_0 dX7_ask_19 ?_
      refine V_getR dX7_ask_20 fl_X7_63 oM_holds ?_
      refine V_iloadn_1 dX7_ask_23 ?_
      refine V_iald (j := s) dX7_ask_24 aM_holds (by omega) (by decide) ?_
      refine V_topi (y := nI th) h0 ?_
      refine V_ifN_ne (a := th) dX7_ask_25 31 (by decide) (by omega) (fun h25 => ?_) (fun h25 => ?_)
      · refine V_aloadn_0 dX7_ask_31 ?_
        refine V_getR dX7_ask_32 fl_X7_63 oM_holds ?_
        refine V_iloadn_1 dX7_ask_35 ?_
        refine V_iald (j := s) dX7_ask_36 aM_holds (by omega) (by decide) ?_
        refine V_topi (y := nI th) h0 ?_
        refine V_iconst 1 dX7_ask_37 (by decide) ?_
        refine V_icmpN_ne (a := th) (b := 1) dX7_ask_38 63 (by decide) (by omega) (by omega) (fun h38 => ?_) (fun h38 => ?_)
        · refine V_ldc (-1000000012) dX7_ask_63 cn_X7_132 ?_
          exact V_iret dX7_ask_65 ⟨rI (by unfold askI; rw [if_neg h25, if_neg (fun q => h38 q.1)]), rfl⟩
        · obtain ⟨k1, k3, k4⟩ := h1 h38
          refine V_aloadn_0 dX7_ask_41 ?_
          refine V_getR dX7_ask_42 fl_X7_66 oM_holdsA ?_
          refine V_iloadn_1 dX7_ask_45 ?_
          refine V_iald (j := s) dX7_ask_46 aM_holdsA (by omega) (by decide) ?_
          refine V_topi (y := nI kk) k3 ?_
          refine V_iloadn_2 dX7_ask_47 ?_
          refine V_cs2f dX7_ask_48 cs_X7_128 (Nat.le_of_ble_eq_true rfl) (k_M_isUnder (by omega) (by omega)) ?_
          refine V_ifB_eq dX7_ask_51 63 (by decide) (fun h51 => ?_) (fun h51 => ?_)
          · refine V_ldc (-1000000012) dX7_ask_63 cn_X7_132 ?_
            exact V_iret dX7_ask_65 ⟨rI (by unfold askI; rw [if_neg h25, if_neg (fun q => h51 q.2)]), rfl⟩
          · refine V_aloadn_0 dX7_ask_54 ?_
            refine V_getR dX7_ask_55 fl_X7_69 oM_holdsB ?_
            refine V_iloadn_1 dX7_ask_58 ?_
            refine V_iald (j := s) dX7_ask_59 aM_holdsB (by omega) (by decide) ?_
            refine V_topi (y := worthI kk l) k4 ?_
            refine V_goto dX7_ask_60 65 (by decide) ?_
            exact V_iret dX7_ask_65 ⟨rI (by unfold askI; rw [if_neg h25, if_pos ⟨h38, h51⟩]), rfl⟩
      · refine V_ldc (-1000000011) dX7_ask_28 cn_X7_195 ?_
        exact V_iret dX7_ask_30 ⟨rI (by unfold askI; rw [if_pos h25]), rfl⟩
    · exact absurd (inN (a := 0) (b := 5) (by omega) hk (by decide)) h13

set_option maxRecDepth 100000 in
set_option maxHeartbeats 4000000 in
theorem m_ask_bad {G : vG} {σ : vS} {d : Nat} (hd : 2 ≤ d) {x y : Int32} (hb : ¬ (hasI x 5 ∧ hasI y 6)) : Cf G yX7_ask cX7_ask 3 (some .int) d [.ref 97, .int x, .int y] σ (some (.int (-1000000001))) σ := by
  refine Ct.ofV (by decide) (Nat.le_of_ble_eq_true rfl) rfl ?_
  show V G RX7 cX7_ask (some .int) 3 d _ 0 [some (.ref 97), some (.int x), some (.int y)] [] _
  obtain ⟨d, rfl⟩ : ∃ e, d = e + 1 := ⟨d - 1, by omega⟩
  refine V_iloadn_1 dX7_ask_0 ?_
  refine V_cs1f dX7_ask_1 cs_X7_275 (Nat.le_of_ble_eq_true rfl) (k_M_isSlot (by omega)) ?_
  refine V_ifB_eq dX7_ask_4 16 (by decide) (fun h4 => ?_) (fun h4 => ?_)
  · refine V_ldc (-1000000001) dX7_ask_16 cn_X7_86 ?_
    exact V_iret dX7_ask_18 ⟨rfl, rfl⟩
  · refine V_iloadn_2 dX7_ask_7 ?_
    refine V_iconst 0 dX7_ask_8 (by decide) ?_
    refine V_iconst 5 dX7_ask_9 (by decide) ?_
    refine V_cs3f dX7_ask_10 cs_X7_82 (Nat.le_of_ble_eq_true rfl) k_M_in ?_
    refine V_ifB_ne dX7_ask_13 19 (by decide) (fun h13 => ?_) (fun h13 => ?_)
    · exact absurd ⟨h4, in5.mp h13⟩ hb
    · refine V_ldc (-1000000001) dX7_ask_16 cn_X7_86 ?_
      exact V_iret dX7_ask_18 ⟨rfl, rfl⟩

set_option maxRecDepth 100000 in
set_option maxHeartbeats 4000000 in
theorem op_ask {G : vG} {σ : vS} {d i : Nat} (hd : 100 ≤ d) (hi : i < 512) {x y : Int32} (h : Inv i σ) : Op G yX6_ask cX6_ask 4 yX7_ask cX7_ask 3 d [.int x, .int y] i σ := by
  have hh := h
  obtain ⟨L, T, I, b, hT, hB, hM, hS, hO, hW, hR, hK⟩ := h
  have hC := hT.1
  have hE := hT.2.1
  have hI := hC.2.2.1
  have hn := hI.nc
  have hm := hI.np
  by_cases hx : hasI x 5 ∧ hasI y 6
  · obtain ⟨s, hs, rfl⟩ := (hasI_iff (by decide)).mp hx.1
    obtain ⟨k, hk, rfl⟩ := (hasI_iff (by decide)).mp hx.2
    obtain ⟨th, q1, q2, q3, q4, q5, q6⟩ := hO s hs
    obtain ⟨kk, l, hkl⟩ : ∃ kk l : Nat, th = 1 → kk ≤ 5 ∧ 1 ≤ l ∧ l ≤ 99 ∧ σ (45 + 3 * s) 1 = nI kk ∧ σ (45 + 3 * s) 2 = nI l ∧ σ 116 s = nI kk ∧ σ 117 s = worthI kk l := by
      by_cases e : th = 1
      · obtain ⟨kk, l, h⟩ := q4 e
        exact ⟨kk, l, fun _ => h⟩
      · exact ⟨0, 0, fun h => absurd h e⟩
    exact Op.ask hh (Cf.fi (c_ask (by omega) hs (by omega) q1 q2 (fun e => ⟨(hkl e).1, (hkl e).2.2.1, (hkl e).2.2.2.1, (hkl e).2.2.2.2.1⟩)))
      (fun σ1 f1 => Cf.fi (m_ask (by omega) hs (by omega) q1 (by rw [f1.p (q := 115) (by omega)]; exact q3) (fun e => ⟨(hkl e).1, by rw [f1.p (q := 116) (by omega)]; exact (hkl e).2.2.2.2.2.1, by rw [f1.p (q := 117) (by omega)]; exact (hkl e).2.2.2.2.2.2⟩)))
  · exact Op.ask hh (Cf.fi (c_ask_bad (by omega) hx)) (fun σ1 f1 => Cf.fi (m_ask_bad (by omega) hx))

set_option maxRecDepth 100000 in
set_option maxHeartbeats 4000000 in
theorem c_item_a {G : vG} {σ : vS} {d : Nat} (hd : 2 ≤ d) {s th : Nat} (hs : s < 5) (hth : th ≤ 3) (hn2 : th ≠ 2) {x : Int32} (h0 : σ (45 + 3 * s) 0 = nI th) : Cf G yX6_item cX6_item 4 (some .int) d [.ref 0, .int (nI s), .int x] σ (some (.int (if th = 0 then -1000000011 else -1000000012))) σ := by
  refine Ct.ofV (by decide) (Nat.le_of_ble_eq_true rfl) rfl ?_
  show V G RX6 cX6_item (some .int) 4 d _ 0 [some (.ref 0), some (.int (nI s)), some (.int x), none] [] _
  obtain ⟨d, rfl⟩ : ∃ e, d = e + 1 := ⟨d - 1, by omega⟩
  refine V_iloadn_1 dX6_item_0 ?_
  refine V_cs1f dX6_item_1 cs_X6_288 (Nat.le_of_ble_eq_true rfl) (k_C_isSlot (by omega)) ?_
  refine V_ifB_ne dX6_item_4 10 (by decide) (fun h4 => ?_) (fun h4 => ?_)
  · refine V_aloadn_0 dX6_item_10 ?_
    refine V_getR dX6_item_11 fl_X6_24 oC_slots ?_
    refine V_iloadn_1 dX6_item_14 ?_
    refine V_aald (j := s) dX6_item_15 (eSlot (by omega)) (by decide) ?_
    refine V_astoren_3 dX6_item_16 (by first | exact rfl | exact True.intro) (by decide) ?_
    refine V_aloadn_3 dX6_item_17 ?_
    refine V_getI dX6_item_18 fl_X6_291 (oO_thing ⟨_, (by omega), rfl⟩) ?_
    refine V_topi (y := nI th) h0 ?_
    refine V_ifN_ne (a := th) dX6_item_21 27 (by decide) (by omega) (fun h21 => ?_) (fun h21 => ?_)
    · refine V_aloadn_3 dX6_item_27 ?_
      refine V_getI dX6_item_28 fl_X6_291 (oO_thing ⟨_, (by omega), rfl⟩) ?_
      refine V_topi (y := nI th) h0 ?_
      refine V_iconst 2 dX6_item_31 (by decide) ?_
      refine V_icmpN_eq (a := th) (b := 2) dX6_item_32 38 (by decide) (by omega) (by omega) (fun h32 => ?_) (fun h32 => ?_)
      · exact absurd h32 hn2
      · refine V_ldc (-1000000012) dX6_item_35 cn_X6_118 ?_
        exact V_iret dX6_item_37 ⟨rI (by rw [if_neg h21]), rfl⟩
    · refine V_ldc (-1000000011) dX6_item_24 cn_X6_210 ?_
      exact V_iret dX6_item_26 ⟨rI (by rw [if_pos h21]), rfl⟩
  · exact absurd (hasN hs (by decide)) h4

set_option maxRecDepth 100000 in
set_option maxHeartbeats 4000000 in
theorem c_item_b {G : vG} {σ : vS} {d : Nat} (hd : 2 ≤ d) {s z : Nat} (hs : s < 5) {x : Int32} (h0 : σ (45 + 3 * s) 0 = nI 2) (hz : σ (45 + 3 * s + 1) 1 = nI z) (hx : ¬ hasI x z) : Cf G yX6_item cX6_item 4 (some .int) d [.ref 0, .int (nI s), .int x] σ (some (.int (-1000000013))) σ := by
  refine Ct.ofV (by decide) (Nat.le_of_ble_eq_true rfl) rfl ?_
  show V G RX6 cX6_item (some .int) 4 d _ 0 [some (.ref 0), some (.int (nI s)), some (.int x), none] [] _
  obtain ⟨d, rfl⟩ : ∃ e, d = e + 1 := ⟨d - 1, by omega⟩
  refine V_iloadn_1 dX6_item_0 ?_
  refine V_cs1f dX6_item_1 cs_X6_288 (Nat.le_of_ble_eq_true rfl) (k_C_isSlot (by omega)) ?_
  refine V_ifB_ne dX6_item_4 10 (by decide) (fun h4 => ?_) (fun h4 => ?_)
  · refine V_aloadn_0 dX6_item_10 ?_
    refine V_getR dX6_item_11 fl_X6_24 oC_slots ?_
    refine V_iloadn_1 dX6_item_14 ?_
    refine V_aald (j := s) dX6_item_15 (eSlot (by omega)) (by decide) ?_
    refine V_astoren_3 dX6_item_16 (by first | exact rfl | exact True.intro) (by decide) ?_
    refine V_aloadn_3 dX6_item_17 ?_
    refine V_getI dX6_item_18 fl_X6_291 (oO_thing ⟨_, (by omega), rfl⟩) ?_
    refine V_topi (y := 2) h0 ?_
    refine V_if_ne_t dX6_item_21 27 (by decide) (by decide) ?_
    refine V_aloadn_3 dX6_item_27 ?_
    refine V_getI dX6_item_28 fl_X6_291 (oO_thing ⟨_, (by omega), rfl⟩) ?_
    refine V_topi (y := 2) h0 ?_
    refine V_iconst 2 dX6_item_31 (by decide) ?_
    refine V_icmp_eq_t dX6_item_32 38 (by decide) (by decide) ?_
    refine V_aloadn_3 dX6_item_38 ?_
    refine V_getR dX6_item_39 fl_X6_298 (oO_sheet ⟨_, (by omega), rfl⟩) ?_
    refine V_iloadn_2 dX6_item_42 ?_
    refine V_cv1f dX6_item_43 cv_X6_258 (rcS (slpS ⟨_, (by omega), rfl⟩)) (Nat.le_of_ble_eq_true rfl) (k_S_hasPlace (slpS ⟨_, hs, rfl⟩) hz) ?_
    refine V_ifB_ne dX6_item_46 53 (by decide) (fun h46 => ?_) (fun h46 => ?_)
    · exact absurd h46 hx
    · refine V_ldcw (-1000000013) dX6_item_49 cn_X6_261 ?_
      exact V_iret dX6_item_52 ⟨rfl, rfl⟩
  · exact absurd (hasN hs (by decide)) h4

set_option maxRecDepth 100000 in
set_option maxHeartbeats 4000000 in
theorem c_item_c {G : vG} {σ : vS} {d : Nat} (hd : 2 ≤ d) {s z j : Nat} (hs : s < 5) {v : Int32} (h0 : σ (45 + 3 * s) 0 = nI 2) (hz : σ (45 + 3 * s + 1) 1 = nI z) (hz24 : z ≤ 24) (hj : j < z) (hv : σ (45 + 3 * s + 1 + 1) j = v) : Cf G yX6_item cX6_item 4 (some .int) d [.ref 0, .int (nI s), .int (nI j)] σ (some (.int (if v = -1000000005 then -1000000012 else v))) σ := by
  refine Ct.ofV (by decide) (Nat.le_of_ble_eq_true rfl) rfl ?_
  show V G RX6 cX6_item (some .int) 4 d _ 0 [some (.ref 0), some (.int (nI s)), some (.int (nI j)), none] [] _
  obtain ⟨d, rfl⟩ : ∃ e, d = e + 1 := ⟨d - 1, by omega⟩
  refine V_iloadn_1 dX6_item_0 ?_
  refine V_cs1f dX6_item_1 cs_X6_288 (Nat.le_of_ble_eq_true rfl) (k_C_isSlot (by omega)) ?_
  refine V_ifB_ne dX6_item_4 10 (by decide) (fun h4 => ?_) (fun h4 => ?_)
  · refine V_aloadn_0 dX6_item_10 ?_
    refine V_getR dX6_item_11 fl_X6_24 oC_slots ?_
    refine V_iloadn_1 dX6_item_14 ?_
    refine V_aald (j := s) dX6_item_15 (eSlot (by omega)) (by decide) ?_
    refine V_astoren_3 dX6_item_16 (by first | exact rfl | exact True.intro) (by decide) ?_
    refine V_aloadn_3 dX6_item_17 ?_
    refine V_getI dX6_item_18 fl_X6_291 (oO_thing ⟨_, (by omega), rfl⟩) ?_
    refine V_topi (y := 2) h0 ?_
    refine V_if_ne_t dX6_item_21 27 (by decide) (by decide) ?_
    refine V_aloadn_3 dX6_item_27 ?_
    refine V_getI dX6_item_28 fl_X6_291 (oO_thing ⟨_, (by omega), rfl⟩) ?_
    refine V_topi (y := 2) h0 ?_
    refine V_iconst 2 dX6_item_31 (by decide) ?_
    refine V_icmp_eq_t dX6_item_32 38 (by decide) (by decide) ?_
    refine V_aloadn_3 dX6_item_38 ?_
    refine V_getR dX6_item_39 fl_X6_298 (oO_sheet ⟨_, (by omega), rfl⟩) ?_
    refine V_iloadn_2 dX6_item_42 ?_
    refine V_cv1f dX6_item_43 cv_X6_258 (rcS (slpS ⟨_, (by omega), rfl⟩)) (Nat.le_of_ble_eq_true rfl) (k_S_hasPlace (slpS ⟨_, hs, rfl⟩) hz) ?_
    refine V_ifB_ne dX6_item_46 53 (by decide) (fun h46 => ?_) (fun h46 => ?_)
    · refine V_aloadn_3 dX6_item_53 ?_
      refine V_getR dX6_item_54 fl_X6_298 (oO_sheet ⟨_, (by omega), rfl⟩) ?_
      refine V_iloadn_2 dX6_item_57 ?_
      refine V_cv1f dX6_item_58 cv_X6_270 (rcS (slpS ⟨_, (by omega), rfl⟩)) (Nat.le_of_ble_eq_true rfl) (k_S_hasNumber (by omega) (slpS ⟨_, hs, rfl⟩) hz hz24 (by omega)) ?_
      refine V_ifB_eq dX6_item_61 76 (by decide) (fun h61 => ?_) (fun h61 => ?_)
      · refine V_ldc (-1000000012) dX6_item_76 cn_X6_118 ?_
        exact V_iret dX6_item_78 ⟨rI (by rw [if_pos (Classical.byContradiction (fun e => h61 ⟨hj, fun g => e (by rw [← hv]; exact g)⟩))]), rfl⟩
      · refine V_aloadn_3 dX6_item_64 ?_
        refine V_getR dX6_item_65 fl_X6_298 (oO_sheet ⟨_, (by omega), rfl⟩) ?_
        refine V_getR dX6_item_68 fl_X6_267 (oS_places (slpS ⟨_, (by omega), rfl⟩)) ?_
        refine V_iloadn_2 dX6_item_71 ?_
        refine V_iald (j := j) dX6_item_72 (aS_places (slpS ⟨_, (by omega), rfl⟩)) (by omega) (by decide) ?_
        refine V_goto dX6_item_73 78 (by decide) ?_
        exact V_iret dX6_item_78 ⟨rI (by rw [hv, if_neg (fun e => h61.2 (by rw [hv]; exact e))]), rfl⟩
    · exact absurd (hasN hj (by omega)) h46
  · exact absurd (hasN hs (by decide)) h4

set_option maxRecDepth 100000 in
set_option maxHeartbeats 4000000 in
theorem c_item_bad {G : vG} {σ : vS} {d : Nat} (hd : 2 ≤ d) {x y : Int32} (hb : ¬ (hasI x 5)) : Cf G yX6_item cX6_item 4 (some .int) d [.ref 0, .int x, .int y] σ (some (.int (-1000000001))) σ := by
  refine Ct.ofV (by decide) (Nat.le_of_ble_eq_true rfl) rfl ?_
  show V G RX6 cX6_item (some .int) 4 d _ 0 [some (.ref 0), some (.int x), some (.int y), none] [] _
  obtain ⟨d, rfl⟩ : ∃ e, d = e + 1 := ⟨d - 1, by omega⟩
  refine V_iloadn_1 dX6_item_0 ?_
  refine V_cs1f dX6_item_1 cs_X6_288 (Nat.le_of_ble_eq_true rfl) (k_C_isSlot (by omega)) ?_
  refine V_ifB_ne dX6_item_4 10 (by decide) (fun h4 => ?_) (fun h4 => ?_)
  · exact absurd h4 hb
  · refine V_ldc (-1000000001) dX6_item_7 cn_X6_66 ?_
    exact V_iret dX6_item_9 ⟨rfl, rfl⟩

set_option maxRecDepth 100000 in
set_option maxHeartbeats 4000000 in
theorem m_item_a {G : vG} {σ : vS} {d : Nat} (hd : 2 ≤ d) {s th : Nat} (hs : s < 5) (hth : th ≤ 3) (hn2 : th ≠ 2) {x : Int32} (h0 : σ 115 s = nI th) : Cf G yX7_item cX7_item 4 (some .int) d [.ref 97, .int (nI s), .int x] σ (some (.int (if th = 0 then -1000000011 else -1000000012))) σ := by
  refine Ct.ofV (by decide) (Nat.le_of_ble_eq_true rfl) rfl ?_
  show V G RX7 cX7_item (some .int) 4 d _ 0 [some (.ref 97), some (.int (nI s)), some (.int x), none] [] _
  obtain ⟨d, rfl⟩ : ∃ e, d = e + 1 := ⟨d - 1, by omega⟩
  refine V_iloadn_1 dX7_item_0 ?_
  refine V_cs1f dX7_item_1 cs_X7_275 (Nat.le_of_ble_eq_true rfl) (k_M_isSlot (by omega)) ?_
  refine V_ifB_ne dX7_item_4 10 (by decide) (fun h4 => ?_) (fun h4 => ?_)
  · refine V_aloadn_0 dX7_item_10 ?_
    refine V_getR dX7_item_11 fl_X7_63 oM_holds ?_
    refine V_iloadn_1 dX7_item_14 ?_
    refine V_iald (j := s) dX7_item_15 aM_holds (by omega) (by decide) ?_
    refine V_topi (y := nI th) h0 ?_
    refine V_ifN_ne (a := th) dX7_item_16 22 (by decide) (by omega) (fun h16 => ?_) (fun h16 => ?_)
    · refine V_aloadn_0 dX7_item_22 ?_
      refine V_getR dX7_item_23 fl_X7_63 oM_holds ?_
      refine V_iloadn_1 dX7_item_26 ?_
      refine V_iald (j := s) dX7_item_27 aM_holds (by omega) (by decide) ?_
      refine V_topi (y := nI th) h0 ?_
      refine V_iconst 2 dX7_item_28 (by decide) ?_
      refine V_icmpN_eq (a := th) (b := 2) dX7_item_29 35 (by decide) (by omega) (by omega) (fun h29 => ?_) (fun h29 => ?_)
      · exact absurd h29 hn2
      · refine V_ldc (-1000000012) dX7_item_32 cn_X7_132 ?_
        exact V_iret dX7_item_34 ⟨rI (by rw [if_neg h16]), rfl⟩
    · refine V_ldc (-1000000011) dX7_item_19 cn_X7_195 ?_
      exact V_iret dX7_item_21 ⟨rI (by rw [if_pos h16]), rfl⟩
  · exact absurd (hasN hs (by decide)) h4

set_option maxRecDepth 100000 in
set_option maxHeartbeats 4000000 in
theorem m_item_b {G : vG} {σ : vS} {d : Nat} (hd : 2 ≤ d) {s z : Nat} (hs : s < 5) {x : Int32} (h0 : σ 115 s = nI 2) (hz : σ 116 s = nI z) (hz24 : z ≤ 24) (hx : ¬ hasI x z) : Cf G yX7_item cX7_item 4 (some .int) d [.ref 97, .int (nI s), .int x] σ (some (.int (-1000000013))) σ := by
  refine Ct.ofV (by decide) (Nat.le_of_ble_eq_true rfl) rfl ?_
  show V G RX7 cX7_item (some .int) 4 d _ 0 [some (.ref 97), some (.int (nI s)), some (.int x), none] [] _
  obtain ⟨d, rfl⟩ : ∃ e, d = e + 1 := ⟨d - 1, by omega⟩
  refine V_iloadn_1 dX7_item_0 ?_
  refine V_cs1f dX7_item_1 cs_X7_275 (Nat.le_of_ble_eq_true rfl) (k_M_isSlot (by omega)) ?_
  refine V_ifB_ne dX7_item_4 10 (by decide) (fun h4 => ?_) (fun h4 => ?_)
  · refine V_aloadn_0 dX7_item_10 ?_
    refine V_getR dX7_item_11 fl_X7_63 oM_holds ?_
    refine V_iloadn_1 dX7_item_14 ?_
    refine V_iald (j := s) dX7_item_15 aM_holds (by omega) (by decide) ?_
    refine V_topi (y := 2) h0 ?_
    refine V_if_ne_t dX7_item_16 22 (by decide) (by decide) ?_
    refine V_aloadn_0 dX7_item_22 ?_
    refine V_getR dX7_item_23 fl_X7_63 oM_holds ?_
    refine V_iloadn_1 dX7_item_26 ?_
    refine V_iald (j := s) dX7_item_27 aM_holds (by omega) (by decide) ?_
    refine V_topi (y := 2) h0 ?_
    refine V_iconst 2 dX7_item_28 (by decide) ?_
    refine V_icmp_eq_t dX7_item_29 35 (by decide) (by decide) ?_
    refine V_iloadn_2 dX7_item_35 ?_
    refine V_iconst 0 dX7_item_36 (by decide) ?_
    refine V_aloadn_0 dX7_item_37 ?_
    refine V_getR dX7_item_38 fl_X7_66 oM_holdsA ?_
    refine V_iloadn_1 dX7_item_41 ?_
    refine V_iald (j := s) dX7_item_42 aM_holdsA (by omega) (by decide) ?_
    refine V_topi (y := nI z) hz ?_
    refine V_iconst 1 dX7_item_43 (by decide) ?_
    refine V_isub dX7_item_44 ?_
    refine V_cs3f dX7_item_45 cs_X7_82 (Nat.le_of_ble_eq_true rfl) k_M_in ?_
    refine V_ifB_ne dX7_item_48 55 (by decide) (fun h48 => ?_) (fun h48 => ?_)
    · exact absurd ((in_has (by omega)).mp h48) hx
    · refine V_ldcw (-1000000013) dX7_item_51 cn_X7_272 ?_
      exact V_iret dX7_item_54 ⟨rfl, rfl⟩
  · exact absurd (hasN hs (by decide)) h4

set_option maxRecDepth 100000 in
set_option maxHeartbeats 4000000 in
theorem m_item_c {G : vG} {σ : vS} {d : Nat} (hd : 2 ≤ d) {s z j : Nat} (hs : s < 5) {v : Int32} (h0 : σ 115 s = nI 2) (hz : σ 116 s = nI z) (hz24 : z ≤ 24) (hj : j < z) (hv : σ 118 (24 * s + j) = v) : Cf G yX7_item cX7_item 4 (some .int) d [.ref 97, .int (nI s), .int (nI j)] σ (some (.int (if v = -1000000005 then -1000000012 else v))) σ := by
  refine Ct.ofV (by decide) (Nat.le_of_ble_eq_true rfl) rfl ?_
  show V G RX7 cX7_item (some .int) 4 d _ 0 [some (.ref 97), some (.int (nI s)), some (.int (nI j)), none] [] _
  obtain ⟨d, rfl⟩ : ∃ e, d = e + 1 := ⟨d - 1, by omega⟩
  refine V_iloadn_1 dX7_item_0 ?_
  refine V_cs1f dX7_item_1 cs_X7_275 (Nat.le_of_ble_eq_true rfl) (k_M_isSlot (by omega)) ?_
  refine V_ifB_ne dX7_item_4 10 (by decide) (fun h4 => ?_) (fun h4 => ?_)
  · refine V_aloadn_0 dX7_item_10 ?_
    refine V_getR dX7_item_11 fl_X7_63 oM_holds ?_
    refine V_iloadn_1 dX7_item_14 ?_
    refine V_iald (j := s) dX7_item_15 aM_holds (by omega) (by decide) ?_
    refine V_topi (y := 2) h0 ?_
    refine V_if_ne_t dX7_item_16 22 (by decide) (by decide) ?_
    refine V_aloadn_0 dX7_item_22 ?_
    refine V_getR dX7_item_23 fl_X7_63 oM_holds ?_
    refine V_iloadn_1 dX7_item_26 ?_
    refine V_iald (j := s) dX7_item_27 aM_holds (by omega) (by decide) ?_
    refine V_topi (y := 2) h0 ?_
    refine V_iconst 2 dX7_item_28 (by decide) ?_
    refine V_icmp_eq_t dX7_item_29 35 (by decide) (by decide) ?_
    refine V_iloadn_2 dX7_item_35 ?_
    refine V_iconst 0 dX7_item_36 (by decide) ?_
    refine V_aloadn_0 dX7_item_37 ?_
    refine V_getR dX7_item_38 fl_X7_66 oM_holdsA ?_
    refine V_iloadn_1 dX7_item_41 ?_
    refine V_iald (j := s) dX7_item_42 aM_holdsA (by omega) (by decide) ?_
    refine V_topi (y := nI z) hz ?_
    refine V_iconst 1 dX7_item_43 (by decide) ?_
    refine V_isub dX7_item_44 ?_
    refine V_cs3f dX7_item_45 cs_X7_82 (Nat.le_of_ble_eq_true rfl) k_M_in ?_
    refine V_ifB_ne dX7_item_48 55 (by decide) (fun h48 => ?_) (fun h48 => ?_)
    · refine V_aloadn_0 dX7_item_55 ?_
      refine V_getR dX7_item_56 fl_X7_72 oM_heldCells ?_
      refine V_bipush 24 dX7_item_59 (by decide) ?_
      refine V_iloadn_1 dX7_item_61 ?_
      refine V_imulN (a := 24) (b := s) dX7_item_62 ?_
      refine V_iloadn_2 dX7_item_63 ?_
      refine V_iaddN (a := 24 * s) (b := j) dX7_item_64 ?_
      refine V_iald (j := (24 * s) + j) dX7_item_65 aM_heldCells (by omega) (by decide) ?_
      refine V_topi (y := v) hv ?_
      refine V_istoren_3 dX7_item_66 (by first | exact rfl | exact True.intro) (by decide) ?_
      refine V_iloadn_3 dX7_item_67 ?_
      refine V_ldc (-1000000005) dX7_item_68 cn_X7_81 ?_
      refine V_icmp_ne dX7_item_70 78 (by decide) (fun h70 => ?_) (fun h70 => ?_)
      · refine V_iloadn_3 dX7_item_78 ?_
        exact V_iret dX7_item_79 ⟨rI (by rw [if_neg h70]), rfl⟩
      · refine V_ldc (-1000000012) dX7_item_73 cn_X7_132 ?_
        refine V_goto dX7_item_75 79 (by decide) ?_
        exact V_iret dX7_item_79 ⟨rI (by rw [if_pos h70]), rfl⟩
    · exact absurd ((in_has (by omega)).mpr (hasN hj (by omega))) h48
  · exact absurd (hasN hs (by decide)) h4

set_option maxRecDepth 100000 in
set_option maxHeartbeats 4000000 in
theorem m_item_bad {G : vG} {σ : vS} {d : Nat} (hd : 2 ≤ d) {x y : Int32} (hb : ¬ (hasI x 5)) : Cf G yX7_item cX7_item 4 (some .int) d [.ref 97, .int x, .int y] σ (some (.int (-1000000001))) σ := by
  refine Ct.ofV (by decide) (Nat.le_of_ble_eq_true rfl) rfl ?_
  show V G RX7 cX7_item (some .int) 4 d _ 0 [some (.ref 97), some (.int x), some (.int y), none] [] _
  obtain ⟨d, rfl⟩ : ∃ e, d = e + 1 := ⟨d - 1, by omega⟩
  refine V_iloadn_1 dX7_item_0 ?_
  refine V_cs1f dX7_item_1 cs_X7_275 (Nat.le_of_ble_eq_true rfl) (k_M_isSlot (by omega)) ?_
  refine V_ifB_ne dX7_item_4 10 (by decide) (fun h4 => ?_) (fun h4 => ?_)
  · exact absurd h4 hb
  · refine V_ldc (-1000000001) dX7_item_7 cn_X7_86 ?_
    exact V_iret dX7_item_9 ⟨rfl, rfl⟩

set_option maxRecDepth 100000 in
set_option maxHeartbeats 4000000 in
theorem op_item {G : vG} {σ : vS} {d i : Nat} (hd : 100 ≤ d) (hi : i < 512) {x y : Int32} (h : Inv i σ) : Op G yX6_item cX6_item 4 yX7_item cX7_item 4 d [.int x, .int y] i σ := by
  have hh := h
  obtain ⟨L, T, I, b, hT, hB, hM, hS, hO, hW, hR, hK⟩ := h
  have hC := hT.1
  have hE := hT.2.1
  have hI := hC.2.2.1
  have hn := hI.nc
  have hm := hI.np
  by_cases hx : hasI x 5
  · obtain ⟨s, hs, rfl⟩ := (hasI_iff (by decide)).mp hx
    obtain ⟨th, q1, q2, q3, q4, q5, q6⟩ := hO s hs
    by_cases e : th = 2
    · obtain ⟨z, z24, z1, z2, z3⟩ := q5 e
      subst e
      by_cases hy : hasI y z
      · obtain ⟨j, hj, rfl⟩ := (hasI_iff (by omega)).mp hy
        exact Op.ask hh (Cf.fi (c_item_c (by omega) hs q2 z1 z24 hj (z3 j (by omega)))) (fun σ1 f1 => Cf.fi (m_item_c (by omega) hs (by rw [f1.p (q := 115) (by omega)]; exact q3) (by rw [f1.p (q := 116) (by omega)]; exact z2) z24 hj (by rw [f1.p (q := 118) (by omega)])))
      · exact Op.ask hh (Cf.fi (c_item_b (by omega) hs q2 z1 hy)) (fun σ1 f1 => Cf.fi (m_item_b (by omega) hs (by rw [f1.p (q := 115) (by omega)]; exact q3) (by rw [f1.p (q := 116) (by omega)]; exact z2) z24 hy))
    · exact Op.ask hh (Cf.fi (c_item_a (by omega) hs q1 e q2)) (fun σ1 f1 => Cf.fi (m_item_a (by omega) hs q1 e (by rw [f1.p (q := 115) (by omega)]; exact q3)))
  · exact Op.ask hh (Cf.fi (c_item_bad (by omega) hx)) (fun σ1 f1 => Cf.fi (m_item_bad (by omega) hx))

theorem mod_m1 (x : Int32) : x - x / (-1) * (-1) = 0 := by
  have h : x / (-1) = -x := by
    apply Int32.toInt_inj.mp
    have e : (-1 : Int32).toInt = -1 := by decide
    rw [Int32.toInt_div, e, Int32.toInt_neg, Int.tdiv_neg, Int.tdiv_one]
  rw [h, Int32.neg_mul, Int32.mul_neg, Int32.mul_one, Int32.neg_neg, Int32.sub_self]
def restI (x v : Int32) : Int32 := if x = 0 then -1000000002 else v - v / x * x

set_option maxRecDepth 100000 in
set_option maxHeartbeats 4000000 in
theorem c_rest_a {G : vG} {σ : vS} {d : Nat} (hd : 2 ≤ d) {s th : Nat} (hs : s < 5) (hth : th ≤ 3) (hn2 : th ≠ 3) {x : Int32} (h0 : σ (45 + 3 * s) 0 = nI th) : Cf G yX6_rest cX6_rest 4 (some .int) d [.ref 0, .int (nI s), .int x] σ (some (.int (if th = 0 then -1000000011 else -1000000012))) σ := by
  refine Ct.ofV (by decide) (Nat.le_of_ble_eq_true rfl) rfl ?_
  show V G RX6 cX6_rest (some .int) 4 d _ 0 [some (.ref 0), some (.int (nI s)), some (.int x), none] [] _
  obtain ⟨d, rfl⟩ : ∃ e, d = e + 1 := ⟨d - 1, by omega⟩
  refine V_iloadn_1 dX6_rest_0 ?_
  refine V_cs1f dX6_rest_1 cs_X6_288 (Nat.le_of_ble_eq_true rfl) (k_C_isSlot (by omega)) ?_
  refine V_ifB_ne dX6_rest_4 10 (by decide) (fun h4 => ?_) (fun h4 => ?_)
  · refine V_aloadn_0 dX6_rest_10 ?_
    refine V_getR dX6_rest_11 fl_X6_24 oC_slots ?_
    refine V_iloadn_1 dX6_rest_14 ?_
    refine V_aald (j := s) dX6_rest_15 (eSlot (by omega)) (by decide) ?_
    refine V_astoren_3 dX6_rest_16 (by first | exact rfl | exact True.intro) (by decide) ?_
    refine V_aloadn_3 dX6_rest_17 ?_
    refine V_getI dX6_rest_18 fl_X6_291 (oO_thing ⟨_, (by omega), rfl⟩) ?_
    refine V_topi (y := nI th) h0 ?_
    refine V_ifN_ne (a := th) dX6_rest_21 27 (by decide) (by omega) (fun h21 => ?_) (fun h21 => ?_)
    · refine V_aloadn_3 dX6_rest_27 ?_
      refine V_getI dX6_rest_28 fl_X6_291 (oO_thing ⟨_, (by omega), rfl⟩) ?_
      refine V_topi (y := nI th) h0 ?_
      refine V_iconst 3 dX6_rest_31 (by decide) ?_
      refine V_icmpN_eq (a := th) (b := 3) dX6_rest_32 38 (by decide) (by omega) (by omega) (fun h32 => ?_) (fun h32 => ?_)
      · exact absurd h32 hn2
      · refine V_ldc (-1000000012) dX6_rest_35 cn_X6_118 ?_
        exact V_iret dX6_rest_37 ⟨rI (by rw [if_neg h21]), rfl⟩
    · refine V_ldc (-1000000011) dX6_rest_24 cn_X6_210 ?_
      exact V_iret dX6_rest_26 ⟨rI (by rw [if_pos h21]), rfl⟩
  · exact absurd (hasN hs (by decide)) h4

set_option maxRecDepth 100000 in
set_option maxHeartbeats 4000000 in
theorem c_rest_b {G : vG} {σ : vS} {d : Nat} (hd : 2 ≤ d) {s : Nat} (hs : s < 5) {x v : Int32} (h0 : σ (45 + 3 * s) 0 = nI 3) (hv : σ (45 + 3 * s) 3 = v) : Cf G yX6_rest cX6_rest 4 (some .int) d [.ref 0, .int (nI s), .int x] σ (some (.int (restI x v))) σ := by
  refine Ct.ofV (by decide) (Nat.le_of_ble_eq_true rfl) rfl ?_
  show V G RX6 cX6_rest (some .int) 4 d _ 0 [some (.ref 0), some (.int (nI s)), some (.int x), none] [] _
  obtain ⟨d, rfl⟩ : ∃ e, d = e + 1 := ⟨d - 1, by omega⟩
  refine V_iloadn_1 dX6_rest_0 ?_
  refine V_cs1f dX6_rest_1 cs_X6_288 (Nat.le_of_ble_eq_true rfl) (k_C_isSlot (by omega)) ?_
  refine V_ifB_ne dX6_rest_4 10 (by decide) (fun h4 => ?_) (fun h4 => ?_)
  · refine V_aloadn_0 dX6_rest_10 ?_
    refine V_getR dX6_rest_11 fl_X6_24 oC_slots ?_
    refine V_iloadn_1 dX6_rest_14 ?_
    refine V_aald (j := s) dX6_rest_15 (eSlot (by omega)) (by decide) ?_
    refine V_astoren_3 dX6_rest_16 (by first | exact rfl | exact True.intro) (by decide) ?_
    refine V_aloadn_3 dX6_rest_17 ?_
    refine V_getI dX6_rest_18 fl_X6_291 (oO_thing ⟨_, (by omega), rfl⟩) ?_
    refine V_topi (y := 3) h0 ?_
    refine V_if_ne_t dX6_rest_21 27 (by decide) (by decide) ?_
    refine V_aloadn_3 dX6_rest_27 ?_
    refine V_getI dX6_rest_28 fl_X6_291 (oO_thing ⟨_, (by omega), rfl⟩) ?_
    refine V_topi (y := 3) h0 ?_
    refine V_iconst 3 dX6_rest_31 (by decide) ?_
    refine V_icmp_eq_t dX6_rest_32 38 (by decide) (by decide) ?_
    refine V_iloadn_2 dX6_rest_38 ?_
    refine V_if_ne dX6_rest_39 48 (by decide) (fun h39 => ?_) (fun h39 => ?_)
    · refine V_aloadn_3 dX6_rest_48 ?_
      refine V_getI dX6_rest_49 fl_X6_305 (oO_number ⟨_, (by omega), rfl⟩) ?_
      refine V_topi (y := v) hv ?_
      refine V_iloadn_2 dX6_rest_52 ?_
      refine V_irem dX6_rest_53 h39 ?_
      exact V_iret dX6_rest_54 ⟨rI (by unfold restI; rw [if_neg h39]), rfl⟩
    · refine V_ldcw (-1000000002) dX6_rest_42 cn_X6_308 ?_
      refine V_goto dX6_rest_45 54 (by decide) ?_
      exact V_iret dX6_rest_54 ⟨rI (by unfold restI; rw [if_pos h39]), rfl⟩
  · exact absurd (hasN hs (by decide)) h4

set_option maxRecDepth 100000 in
set_option maxHeartbeats 4000000 in
theorem c_rest_bad {G : vG} {σ : vS} {d : Nat} (hd : 2 ≤ d) {x y : Int32} (hb : ¬ (hasI x 5)) : Cf G yX6_rest cX6_rest 4 (some .int) d [.ref 0, .int x, .int y] σ (some (.int (-1000000001))) σ := by
  refine Ct.ofV (by decide) (Nat.le_of_ble_eq_true rfl) rfl ?_
  show V G RX6 cX6_rest (some .int) 4 d _ 0 [some (.ref 0), some (.int x), some (.int y), none] [] _
  obtain ⟨d, rfl⟩ : ∃ e, d = e + 1 := ⟨d - 1, by omega⟩
  refine V_iloadn_1 dX6_rest_0 ?_
  refine V_cs1f dX6_rest_1 cs_X6_288 (Nat.le_of_ble_eq_true rfl) (k_C_isSlot (by omega)) ?_
  refine V_ifB_ne dX6_rest_4 10 (by decide) (fun h4 => ?_) (fun h4 => ?_)
  · exact absurd h4 hb
  · refine V_ldc (-1000000001) dX6_rest_7 cn_X6_66 ?_
    exact V_iret dX6_rest_9 ⟨rfl, rfl⟩

set_option maxRecDepth 100000 in
set_option maxHeartbeats 4000000 in
theorem m_rest_a {G : vG} {σ : vS} {d : Nat} (hd : 2 ≤ d) {s th : Nat} (hs : s < 5) (hth : th ≤ 3) (hn2 : th ≠ 3) {x : Int32} (h0 : σ 115 s = nI th) : Cf G yX7_rest cX7_rest 3 (some .int) d [.ref 97, .int (nI s), .int x] σ (some (.int (if th = 0 then -1000000011 else -1000000012))) σ := by
  refine Ct.ofV (by decide) (Nat.le_of_ble_eq_true rfl) rfl ?_
  show V G RX7 cX7_rest (some .int) 3 d _ 0 [some (.ref 97), some (.int (nI s)), some (.int x)] [] _
  obtain ⟨d, rfl⟩ : ∃ e, d = e + 1 := ⟨d - 1, by omega⟩
  refine V_iloadn_1 dX7_rest_0 ?_
  refine V_cs1f dX7_rest_1 cs_X7_275 (Nat.le_of_ble_eq_true rfl) (k_M_isSlot (by omega)) ?_
  refine V_ifB_ne dX7_rest_4 10 (by decide) (fun h4 => ?_) (fun h4 => ?_)
  · refine V_aloadn_0 dX7_rest_10 ?_
    refine V_getR dX7_rest_11 fl_X7_63 oM_holds ?_
    refine V_iloadn_1 dX7_rest_14 ?_
    refine V_iald (j := s) dX7_rest_15 aM_holds (by omega) (by decide) ?_
    refine V_topi (y := nI th) h0 ?_
    refine V_ifN_ne (a := th) dX7_rest_16 22 (by decide) (by omega) (fun h16 => ?_) (fun h16 => ?_)
    · refine V_aloadn_0 dX7_rest_22 ?_
      refine V_getR dX7_rest_23 fl_X7_63 oM_holds ?_
      refine V_iloadn_1 dX7_rest_26 ?_
      refine V_iald (j := s) dX7_rest_27 aM_holds (by omega) (by decide) ?_
      refine V_topi (y := nI th) h0 ?_
      refine V_iconst 3 dX7_rest_28 (by decide) ?_
      refine V_icmpN_eq (a := th) (b := 3) dX7_rest_29 35 (by decide) (by omega) (by omega) (fun h29 => ?_) (fun h29 => ?_)
      · exact absurd h29 hn2
      · refine V_ldc (-1000000012) dX7_rest_32 cn_X7_132 ?_
        exact V_iret dX7_rest_34 ⟨rI (by rw [if_neg h16]), rfl⟩
    · refine V_ldc (-1000000011) dX7_rest_19 cn_X7_195 ?_
      exact V_iret dX7_rest_21 ⟨rI (by rw [if_pos h16]), rfl⟩
  · exact absurd (hasN hs (by decide)) h4

set_option maxRecDepth 100000 in
set_option maxHeartbeats 4000000 in
theorem m_rest_b {G : vG} {σ : vS} {d : Nat} (hd : 2 ≤ d) {s : Nat} (hs : s < 5) {x v : Int32} (h0 : σ 115 s = nI 3) (hv : σ 116 s = v) : Cf G yX7_rest cX7_rest 3 (some .int) d [.ref 97, .int (nI s), .int x] σ (some (.int (restI x v))) σ := by
  refine Ct.ofV (by decide) (Nat.le_of_ble_eq_true rfl) rfl ?_
  show V G RX7 cX7_rest (some .int) 3 d _ 0 [some (.ref 97), some (.int (nI s)), some (.int x)] [] _
  obtain ⟨d, rfl⟩ : ∃ e, d = e + 1 := ⟨d - 1, by omega⟩
  refine V_iloadn_1 dX7_rest_0 ?_
  refine V_cs1f dX7_rest_1 cs_X7_275 (Nat.le_of_ble_eq_true rfl) (k_M_isSlot (by omega)) ?_
  refine V_ifB_ne dX7_rest_4 10 (by decide) (fun h4 => ?_) (fun h4 => ?_)
  · refine V_aloadn_0 dX7_rest_10 ?_
    refine V_getR dX7_rest_11 fl_X7_63 oM_holds ?_
    refine V_iloadn_1 dX7_rest_14 ?_
    refine V_iald (j := s) dX7_rest_15 aM_holds (by omega) (by decide) ?_
    refine V_topi (y := 3) h0 ?_
    refine V_if_ne_t dX7_rest_16 22 (by decide) (by decide) ?_
    refine V_aloadn_0 dX7_rest_22 ?_
    refine V_getR dX7_rest_23 fl_X7_63 oM_holds ?_
    refine V_iloadn_1 dX7_rest_26 ?_
    refine V_iald (j := s) dX7_rest_27 aM_holds (by omega) (by decide) ?_
    refine V_topi (y := 3) h0 ?_
    refine V_iconst 3 dX7_rest_28 (by decide) ?_
    refine V_icmp_eq_t dX7_rest_29 35 (by decide) (by decide) ?_
    refine V_iloadn_2 dX7_rest_35 ?_
    refine V_if_ne dX7_rest_36 45 (by decide) (fun h36 => ?_) (fun h36 => ?_)
    · refine V_iloadn_2 dX7_rest_45 ?_
      refine V_iconst (-1) dX7_rest_46 (by decide) ?_
      refine V_icmp_ne dX7_rest_47 54 (by decide) (fun h47 => ?_) (fun h47 => ?_)
      · refine V_aloadn_0 dX7_rest_54 ?_
        refine V_getR dX7_rest_55 fl_X7_66 oM_holdsA ?_
        refine V_iloadn_1 dX7_rest_58 ?_
        refine V_iald (j := s) dX7_rest_59 aM_holdsA (by omega) (by decide) ?_
        refine V_topi (y := v) hv ?_
        refine V_iloadn_2 dX7_rest_60 ?_
        refine V_irem dX7_rest_61 h36 ?_
        exact V_iret dX7_rest_62 ⟨rI (by unfold restI; rw [if_neg h36]), rfl⟩
      · refine V_iconst 0 dX7_rest_50 (by decide) ?_
        refine V_goto dX7_rest_51 62 (by decide) ?_
        exact V_iret dX7_rest_62 ⟨rI (by unfold restI; rw [if_neg h36, h47, mod_m1]), rfl⟩
    · refine V_ldcw (-1000000002) dX7_rest_39 cn_X7_278 ?_
      refine V_goto dX7_rest_42 62 (by decide) ?_
      exact V_iret dX7_rest_62 ⟨rI (by unfold restI; rw [if_pos h36]), rfl⟩
  · exact absurd (hasN hs (by decide)) h4

set_option maxRecDepth 100000 in
set_option maxHeartbeats 4000000 in
theorem m_rest_bad {G : vG} {σ : vS} {d : Nat} (hd : 2 ≤ d) {x y : Int32} (hb : ¬ (hasI x 5)) : Cf G yX7_rest cX7_rest 3 (some .int) d [.ref 97, .int x, .int y] σ (some (.int (-1000000001))) σ := by
  refine Ct.ofV (by decide) (Nat.le_of_ble_eq_true rfl) rfl ?_
  show V G RX7 cX7_rest (some .int) 3 d _ 0 [some (.ref 97), some (.int x), some (.int y)] [] _
  obtain ⟨d, rfl⟩ : ∃ e, d = e + 1 := ⟨d - 1, by omega⟩
  refine V_iloadn_1 dX7_rest_0 ?_
  refine V_cs1f dX7_rest_1 cs_X7_275 (Nat.le_of_ble_eq_true rfl) (k_M_isSlot (by omega)) ?_
  refine V_ifB_ne dX7_rest_4 10 (by decide) (fun h4 => ?_) (fun h4 => ?_)
  · exact absurd h4 hb
  · refine V_ldc (-1000000001) dX7_rest_7 cn_X7_86 ?_
    exact V_iret dX7_rest_9 ⟨rfl, rfl⟩

set_option maxRecDepth 100000 in
set_option maxHeartbeats 4000000 in
theorem op_rest {G : vG} {σ : vS} {d i : Nat} (hd : 100 ≤ d) (hi : i < 512) {x y : Int32} (h : Inv i σ) : Op G yX6_rest cX6_rest 4 yX7_rest cX7_rest 3 d [.int x, .int y] i σ := by
  have hh := h
  obtain ⟨L, T, I, b, hT, hB, hM, hS, hO, hW, hR, hK⟩ := h
  have hC := hT.1
  have hE := hT.2.1
  have hI := hC.2.2.1
  have hn := hI.nc
  have hm := hI.np
  by_cases hx : hasI x 5
  · obtain ⟨s, hs, rfl⟩ := (hasI_iff (by decide)).mp hx
    obtain ⟨th, q1, q2, q3, q4, q5, q6⟩ := hO s hs
    by_cases e : th = 3
    · have z1 := q6 e
      subst e
      exact Op.ask hh (Cf.fi (c_rest_b (by omega) hs q2 z1)) (fun σ1 f1 => Cf.fi (m_rest_b (by omega) hs (by rw [f1.p (q := 115) (by omega)]; exact q3) (by rw [f1.p (q := 116) (by omega)])))
    · exact Op.ask hh (Cf.fi (c_rest_a (by omega) hs q1 e q2)) (fun σ1 f1 => Cf.fi (m_rest_a (by omega) hs q1 e (by rw [f1.p (q := 115) (by omega)]; exact q3)))
  · exact Op.ask hh (Cf.fi (c_rest_bad (by omega) hx)) (fun σ1 f1 => Cf.fi (m_rest_bad (by omega) hx))

/-! ===== reads ===== -/
abbrev rdP (L T : nT) (v : Nat → Int32) (k : Nat) : Prop := v k ≠ -1000000005 ∧ ¬ (k < T 0 5 ∧ v k = nI (levT L T k))
def rdF (L T : nT) (v : Nat → Int32) : Nat → Nat → Int32
  | 0, _ => -1000000005
  | r + 1, k => if rdP L T v k then nI k else rdF L T v r (k + 1)
theorem rd_t {L T : nT} {v : Nat → Int32} {z k : Nat} {R : Int32} (h : rdF L T v (z - k) k = R) (hk : k < z) (hp : rdP L T v k) : R = nI k := by
  rw [show z - k = z - (k + 1) + 1 by omega] at h
  simp only [rdF] at h
  rw [if_pos hp] at h
  exact h.symm
theorem rd_f {L T : nT} {v : Nat → Int32} {z k : Nat} {R : Int32} (h : rdF L T v (z - k) k = R) (hk : k < z) (hp : ¬ rdP L T v k) : rdF L T v (z - (k + 1)) (k + 1) = R := by
  rw [show z - k = z - (k + 1) + 1 by omega] at h
  simp only [rdF] at h
  rw [if_neg hp] at h
  exact h
theorem rd_e {L T : nT} {v : Nat → Int32} {z k : Nat} {R : Int32} (h : rdF L T v (z - k) k = R) (hk : z ≤ k) : R = -1000000005 := by
  rw [show z - k = 0 by omega] at h
  exact h.symm

set_option maxRecDepth 100000 in
set_option maxHeartbeats 4000000 in
theorem lp_c_reads {G : vG} {d : Nat} {σ : vS} {L T : nT} {N : Nat} (hC : TC L N 61 T σ) {s z : Nat} {v : Nat → Int32} {R : Int32} (hs : s < 4) (hd : 2 ≤ d + 1) (hz : σ (37 + 2 * s) 1 = nI z) (hz24 : z ≤ 24) (hv : ∀ k, k < 24 → σ (37 + 2 * s + 1) k = v k) : ∀ (k : Nat) (k1 : Nat), (k1 ≤ z ∧ rdF L T v (z - k1) k1 = R) → z - k1 < k → V G RX6 cX6_reads (some .int) 4 (d + 1) (fun r' σ' => r' = some (.int R) ∧ σ' = σ) 29 [some (.ref 0), some (.int (nI s)), some (.ref (37 + 2 * s)), some (.int (nI k1))] [] σ := by
  intro k
  induction k with
  | zero => intros; omega
  | succ k ih =>
    intro k1 hh hk
    obtain ⟨hkz, hR⟩ := hh
    obtain ⟨ht, hH, hI, hL, hLI, hN, hN2⟩ := id hC
    have hT := hH.1
    have hn := hI.nc
    have hm := hI.np
    refine V_iloadn_3 dX6_reads_29 ?_
    refine V_aloadn_2 dX6_reads_30 ?_
    refine V_getI dX6_reads_31 fl_X6_276 (oS_size (Or.inl ⟨_, hs, rfl⟩)) ?_
    refine V_topi (y := nI z) hz ?_
    refine V_icmpN_ge (a := k1) (b := z) dX6_reads_34 81 (by decide) (by omega) (by omega) (fun h34 => ?_) (fun h34 => ?_)
    · refine V_ldc (-1000000005) dX6_reads_81 cn_X6_189 ?_
      exact V_iret dX6_reads_83 ⟨rI (rd_e hR h34).symm, rfl⟩
    · refine V_aloadn_2 dX6_reads_37 ?_
      refine V_iloadn_3 dX6_reads_38 ?_
      refine V_cv1f dX6_reads_39 cv_X6_270 (rcS (Or.inl ⟨_, hs, rfl⟩)) (Nat.le_of_ble_eq_true rfl) (k_S_hasNumber (by omega) (Or.inl ⟨_, hs, rfl⟩) hz hz24 (by omega)) ?_
      refine V_ifB_eq dX6_reads_42 75 (by decide) (fun h42 => ?_) (fun h42 => ?_)
      · refine V_iinc_3 dX6_reads_75 (by first | exact rfl | exact True.intro) (by decide) (nI (k1 + 1)) (nI_inc _) ?_
        refine V_goto dX6_reads_78 29 (by decide) ?_
        exact ih (k1 + 1) ⟨by omega, rd_f hR h34 (fun q => h42 ⟨h34, fun e => q.1 (by rw [← hv k1 (by omega)]; exact e)⟩)⟩ (by omega)
      · refine V_aloadn_0 dX6_reads_45 ?_
        refine V_getR dX6_reads_46 fl_X6_46 oC_now ?_
        refine V_iloadn_3 dX6_reads_49 ?_
        refine V_cv1f dX6_reads_50 cv_X6_76 (rcT tw61) (Nat.le_of_ble_eq_true rfl) (k_T_hasCellar tw61 hT) ?_
        refine V_ifB_eq dX6_reads_53 73 (by decide) (fun h53 => ?_) (fun h53 => ?_)
        · refine V_iloadn_3 dX6_reads_73 ?_
          exact V_iret dX6_reads_74 ⟨rI (rd_t hR h34 ⟨fun e => h42.2 (by rw [hv k1 (by omega)]; exact e), fun q => h53 (hasN q.1 (by omega))⟩).symm, rfl⟩
        · have hkc : k1 < T 0 5 := by
            obtain ⟨j, hj, e⟩ := (hasI_iff (by omega)).mp h53
            have := (nI_eq (by omega) (by omega)).mp e
            omega
          refine V_aloadn_2 dX6_reads_56 ?_
          refine V_getR dX6_reads_57 fl_X6_267 (oS_places (Or.inl ⟨_, hs, rfl⟩)) ?_
          refine V_iloadn_3 dX6_reads_60 ?_
          refine V_iald (j := k1) dX6_reads_61 (aS_places (Or.inl ⟨_, hs, rfl⟩)) (by omega) (by decide) ?_
          refine V_aloadn_0 dX6_reads_62 ?_
          refine V_getR dX6_reads_63 fl_X6_46 oC_now ?_
          refine V_iloadn_3 dX6_reads_66 ?_
          refine V_cv1f dX6_reads_67 cv_X6_95 (rcT tw61) (Nat.le_of_ble_eq_true rfl) (k_T_levelOf tw61 hH hI (by omega)) ?_
          refine V_icmp_eq dX6_reads_70 75 (by decide) (fun h70 => ?_) (fun h70 => ?_)
          · refine V_iinc_3 dX6_reads_75 (by first | exact rfl | exact True.intro) (by decide) (nI (k1 + 1)) (nI_inc _) ?_
            refine V_goto dX6_reads_78 29 (by decide) ?_
            exact ih (k1 + 1) ⟨by omega, rd_f hR h34 (fun q => q.2 ⟨hkc, by rw [← hv k1 (by omega)]; exact h70⟩)⟩ (by omega)
          · refine V_iloadn_3 dX6_reads_73 ?_
            exact V_iret dX6_reads_74 ⟨rI (rd_t hR h34 ⟨fun e => h42.2 (by rw [hv k1 (by omega)]; exact e), fun q => h70 (by rw [hv k1 (by omega)]; exact q.2)⟩).symm, rfl⟩

set_option maxRecDepth 100000 in
set_option maxHeartbeats 4000000 in
theorem c_reads {G : vG} {σ : vS} {d : Nat} (hd : 2 ≤ d) {L T : nT} {N : Nat} (hC : TC L N 61 T σ) {s z : Nat} {v : Nat → Int32} (hs : s < 4) (hso : σ (37 + 2 * s) 0 ≠ -1) (hz : σ (37 + 2 * s) 1 = nI z) (hz24 : z ≤ 24) (hv : ∀ k, k < 24 → σ (37 + 2 * s + 1) k = v k) : Cf G yX6_reads cX6_reads 4 (some .int) d [.ref 0, .int (nI s)] σ (some (.int (rdF L T v z 0))) σ := by
  refine Ct.ofV (by decide) (Nat.le_of_ble_eq_true rfl) rfl ?_
  show V G RX6 cX6_reads (some .int) 4 d _ 0 [some (.ref 0), some (.int (nI s)), none, none] [] _
  obtain ⟨d, rfl⟩ : ∃ e, d = e + 1 := ⟨d - 1, by omega⟩
  refine V_iloadn_1 dX6_reads_0 ?_
  refine V_cs1f dX6_reads_1 cs_X6_203 (Nat.le_of_ble_eq_true rfl) (k_C_isSheet (by omega)) ?_
  refine V_ifB_ne dX6_reads_4 10 (by decide) (fun h4 => ?_) (fun h4 => ?_)
  · refine V_aloadn_0 dX6_reads_10 ?_
    refine V_getR dX6_reads_11 fl_X6_18 oC_sheets ?_
    refine V_iloadn_1 dX6_reads_14 ?_
    refine V_aald (j := s) dX6_reads_15 (eSheet (by omega)) (by decide) ?_
    refine V_astoren_2 dX6_reads_16 (by first | exact rfl | exact True.intro) (by decide) ?_
    refine V_aloadn_2 dX6_reads_17 ?_
    refine V_cv0f dX6_reads_18 cv_X6_206 (rcS (Or.inl ⟨_, (by omega), rfl⟩)) (Nat.le_of_ble_eq_true rfl) (k_S_isMissing (Or.inl ⟨_, (by omega), rfl⟩)) ?_
    refine V_ifB_eq dX6_reads_21 27 (by decide) (fun h21 => ?_) (fun h21 => ?_)
    · refine V_iconst 0 dX6_reads_27 (by decide) ?_
      refine V_istoren_3 dX6_reads_28 (by first | exact rfl | exact True.intro) (by decide) ?_
      exact lp_c_reads hC hs (by omega) hz hz24 hv (z + 1) 0 ⟨by omega, rfl⟩ (by omega)
    · exact absurd h21 hso
  · exact absurd (hasN hs (by decide)) h4

set_option maxRecDepth 100000 in
set_option maxHeartbeats 4000000 in
theorem c_reads_no {G : vG} {σ : vS} {d : Nat} (hd : 2 ≤ d) {s : Nat} (hs : s < 4) (hso : σ (37 + 2 * s) 0 = -1) : Cf G yX6_reads cX6_reads 4 (some .int) d [.ref 0, .int (nI s)] σ (some (.int (-1000000011))) σ := by
  refine Ct.ofV (by decide) (Nat.le_of_ble_eq_true rfl) rfl ?_
  show V G RX6 cX6_reads (some .int) 4 d _ 0 [some (.ref 0), some (.int (nI s)), none, none] [] _
  obtain ⟨d, rfl⟩ : ∃ e, d = e + 1 := ⟨d - 1, by omega⟩
  refine V_iloadn_1 dX6_reads_0 ?_
  refine V_cs1f dX6_reads_1 cs_X6_203 (Nat.le_of_ble_eq_true rfl) (k_C_isSheet (by omega)) ?_
  refine V_ifB_ne dX6_reads_4 10 (by decide) (fun h4 => ?_) (fun h4 => ?_)
  · refine V_aloadn_0 dX6_reads_10 ?_
    refine V_getR dX6_reads_11 fl_X6_18 oC_sheets ?_
    refine V_iloadn_1 dX6_reads_14 ?_
    refine V_aald (j := s) dX6_reads_15 (eSheet (by omega)) (by decide) ?_
    refine V_astoren_2 dX6_reads_16 (by first | exact rfl | exact True.intro) (by decide) ?_
    refine V_aloadn_2 dX6_reads_17 ?_
    refine V_cv0f dX6_reads_18 cv_X6_206 (rcS (Or.inl ⟨_, (by omega), rfl⟩)) (Nat.le_of_ble_eq_true rfl) (k_S_isMissing (Or.inl ⟨_, (by omega), rfl⟩)) ?_
    refine V_ifB_eq dX6_reads_21 27 (by decide) (fun h21 => ?_) (fun h21 => ?_)
    · exact absurd hso h21
    · refine V_ldc (-1000000011) dX6_reads_24 cn_X6_210 ?_
      exact V_iret dX6_reads_26 ⟨rfl, rfl⟩
  · exact absurd (hasN hs (by decide)) h4

set_option maxRecDepth 100000 in
set_option maxHeartbeats 4000000 in
theorem c_reads_bad {G : vG} {σ : vS} {d : Nat} (hd : 2 ≤ d) {x : Int32} (hb : ¬ (hasI x 4)) : Cf G yX6_reads cX6_reads 4 (some .int) d [.ref 0, .int x] σ (some (.int (-1000000001))) σ := by
  refine Ct.ofV (by decide) (Nat.le_of_ble_eq_true rfl) rfl ?_
  show V G RX6 cX6_reads (some .int) 4 d _ 0 [some (.ref 0), some (.int x), none, none] [] _
  obtain ⟨d, rfl⟩ : ∃ e, d = e + 1 := ⟨d - 1, by omega⟩
  refine V_iloadn_1 dX6_reads_0 ?_
  refine V_cs1f dX6_reads_1 cs_X6_203 (Nat.le_of_ble_eq_true rfl) (k_C_isSheet (by omega)) ?_
  refine V_ifB_ne dX6_reads_4 10 (by decide) (fun h4 => ?_) (fun h4 => ?_)
  · exact absurd h4 hb
  · refine V_ldc (-1000000001) dX6_reads_7 cn_X6_66 ?_
    exact V_iret dX6_reads_9 ⟨rfl, rfl⟩

set_option maxRecDepth 100000 in
set_option maxHeartbeats 4000000 in
theorem lp_m_reads {G : vG} {d : Nat} {σ0 : vS} {L T : nT} {s z : Nat} {v : Nat → Int32} {R : Int32} (hs : s < 4) (hd : 4 ≤ d + 1) (hz : σ0 113 s = nI z) (hz24 : z ≤ 24) (hv : ∀ k, k < 24 → σ0 114 (24 * s + k) = v k) : ∀ (k : Nat) (k1 : Nat) (σ : vS), (MC L T σ ∧ Fh σ0 σ ∧ k1 ≤ z ∧ rdF L T v (z - k1) k1 = R) → z - k1 < k → V G RX7 cX7_reads (some .int) 4 (d + 1) (fun r' σ' => r' = some (.int R) ∧ Fh σ0 σ') 24 [some (.ref 97), some (.int (nI s)), some (.int (nI k1)), none] [] σ := by
  intro k
  induction k with
  | zero => intros; omega
  | succ k ih =>
    intro k1 σ hh hk
    obtain ⟨hC, hF, hkz, hR⟩ := hh
    have hI := hC.2.2.1
    have hn := hI.nc
    have hm := hI.np
    have e113 := hF 113 (by decide) (by decide)
    have e114 := hF 114 (by decide) (by decide)
    refine V_iloadn_2 dX7_reads_24 ?_
    refine V_aloadn_0 dX7_reads_25 ?_
    refine V_getR dX7_reads_26 fl_X7_57 oM_sizes ?_
    refine V_iloadn_1 dX7_reads_29 ?_
    refine V_iald (j := s) dX7_reads_30 aM_sizes (by omega) (by decide) ?_
    refine V_topi (y := nI z) (by rw [e113]; exact hz) ?_
    refine V_icmpN_ge (a := k1) (b := z) dX7_reads_31 77 (by decide) (by omega) (by omega) (fun h31 => ?_) (fun h31 => ?_)
    · refine V_ldc (-1000000005) dX7_reads_77 cn_X7_81 ?_
      exact V_iret dX7_reads_79 ⟨rI (rd_e hR h31).symm, hF⟩
    · refine V_aloadn_0 dX7_reads_34 ?_
      refine V_getR dX7_reads_35 fl_X7_60 oM_cells ?_
      refine V_bipush 24 dX7_reads_38 (by decide) ?_
      refine V_iloadn_1 dX7_reads_40 ?_
      refine V_imulN (a := 24) (b := s) dX7_reads_41 ?_
      refine V_iloadn_2 dX7_reads_42 ?_
      refine V_iaddN (a := 24 * s) (b := k1) dX7_reads_43 ?_
      refine V_iald (j := (24 * s) + k1) dX7_reads_44 aM_cells (by omega) (by decide) ?_
      refine V_topi (y := v k1) (by rw [e114]; exact hv k1 (by omega)) ?_
      refine V_istoren_3 dX7_reads_45 (by first | exact rfl | exact True.intro) (by decide) ?_
      refine V_iloadn_3 dX7_reads_46 ?_
      refine V_ldc (-1000000005) dX7_reads_47 cn_X7_81 ?_
      refine V_icmp_eq dX7_reads_49 71 (by decide) (fun h49 => ?_) (fun h49 => ?_)
      · refine V_iinc_2 dX7_reads_71 (by first | exact rfl | exact True.intro) (by decide) (nI (k1 + 1)) (nI_inc _) ?_
        refine V_goto dX7_reads_74 24 (by decide) ?_
        refine V_fg_3 ?_
        exact ih (k1 + 1) _ ⟨hC, hF, by omega, rd_f hR h31 (fun q => q.1 h49)⟩ (by omega)
      · refine V_aloadn_0 dX7_reads_52 ?_
        refine V_iloadn_2 dX7_reads_53 ?_
        refine V_cv1f dX7_reads_54 cv_X7_112 rcM (Nat.le_of_ble_eq_true rfl) (k_M_isCellar (by omega) hC) ?_
        refine V_ifB_eq dX7_reads_57 69 (by decide) (fun h57 => ?_) (fun h57 => ?_)
        · refine V_iloadn_2 dX7_reads_69 ?_
          exact V_iret dX7_reads_70 ⟨rI (rd_t hR h31 ⟨h49, fun q => h57 (hasN q.1 (by omega))⟩).symm, hF⟩
        · have hkc : k1 < T 0 5 := by
            obtain ⟨j, hj, e⟩ := (hasI_iff (by omega)).mp h57
            have := (nI_eq (by omega) (by omega)).mp e
            omega
          refine V_iloadn_3 dX7_reads_60 ?_
          refine V_aloadn_0 dX7_reads_61 ?_
          refine V_iloadn_2 dX7_reads_62 ?_
          refine V_cv1r dX7_reads_63 cv_X7_116 rcM (Nat.le_of_ble_eq_true rfl) (k_M_levelOf (by omega) hC (by omega)) (fun σ hq => ?_)
          replace hC := hC.fh hq
          replace hF := hF.tr hq
          refine V_icmp_eq dX7_reads_66 71 (by decide) (fun h66 => ?_) (fun h66 => ?_)
          · refine V_iinc_2 dX7_reads_71 (by first | exact rfl | exact True.intro) (by decide) (nI (k1 + 1)) (nI_inc _) ?_
            refine V_goto dX7_reads_74 24 (by decide) ?_
            refine V_fg_3 ?_
            exact ih (k1 + 1) _ ⟨hC, hF, by omega, rd_f hR h31 (fun q => q.2 ⟨hkc, h66⟩)⟩ (by omega)
          · refine V_iloadn_2 dX7_reads_69 ?_
            exact V_iret dX7_reads_70 ⟨rI (rd_t hR h31 ⟨h49, fun q => h66 q.2⟩).symm, hF⟩

set_option maxRecDepth 100000 in
set_option maxHeartbeats 4000000 in
theorem m_reads {G : vG} {σ : vS} {d : Nat} (hd : 4 ≤ d) {L T : nT} (hC : MC L T σ) {s z : Nat} {v : Nat → Int32} (hs : s < 4) (hso : 0 ≤ σ 112 s) (hz : σ 113 s = nI z) (hz24 : z ≤ 24) (hv : ∀ k, k < 24 → σ 114 (24 * s + k) = v k) : Cr G yX7_reads cX7_reads 4 (some .int) d [.ref 97, .int (nI s)] σ (some (.int (rdF L T v z 0))) (fun σ' => Fh σ σ') := by
  refine Ct.ofV (by decide) (Nat.le_of_ble_eq_true rfl) rfl ?_
  show V G RX7 cX7_reads (some .int) 4 d _ 0 [some (.ref 97), some (.int (nI s)), none, none] [] _
  obtain ⟨d, rfl⟩ : ∃ e, d = e + 1 := ⟨d - 1, by omega⟩
  refine V_iloadn_1 dX7_reads_0 ?_
  refine V_cs1f dX7_reads_1 cs_X7_192 (Nat.le_of_ble_eq_true rfl) (k_M_isSheet (by omega)) ?_
  refine V_ifB_ne dX7_reads_4 10 (by decide) (fun h4 => ?_) (fun h4 => ?_)
  · refine V_aloadn_0 dX7_reads_10 ?_
    refine V_getR dX7_reads_11 fl_X7_54 oM_sorts ?_
    refine V_iloadn_1 dX7_reads_14 ?_
    refine V_iald (j := s) dX7_reads_15 aM_sorts (by omega) (by decide) ?_
    refine V_if_ge_t dX7_reads_16 22 (by decide) hso ?_
    refine V_iconst 0 dX7_reads_22 (by decide) ?_
    refine V_istoren_2 dX7_reads_23 (by first | exact rfl | exact True.intro) (by decide) ?_
    exact lp_m_reads hs (by omega) hz hz24 hv (z + 1) 0 σ ⟨hC, Fh.rf, by omega, rfl⟩ (by omega)
  · exact absurd (hasN hs (by decide)) h4

set_option maxRecDepth 100000 in
set_option maxHeartbeats 4000000 in
theorem m_reads_no {G : vG} {σ : vS} {d : Nat} (hd : 4 ≤ d) {s : Nat} (hs : s < 4) (hso : ¬ 0 ≤ σ 112 s) : Cf G yX7_reads cX7_reads 4 (some .int) d [.ref 97, .int (nI s)] σ (some (.int (-1000000011))) σ := by
  refine Ct.ofV (by decide) (Nat.le_of_ble_eq_true rfl) rfl ?_
  show V G RX7 cX7_reads (some .int) 4 d _ 0 [some (.ref 97), some (.int (nI s)), none, none] [] _
  obtain ⟨d, rfl⟩ : ∃ e, d = e + 1 := ⟨d - 1, by omega⟩
  refine V_iloadn_1 dX7_reads_0 ?_
  refine V_cs1f dX7_reads_1 cs_X7_192 (Nat.le_of_ble_eq_true rfl) (k_M_isSheet (by omega)) ?_
  refine V_ifB_ne dX7_reads_4 10 (by decide) (fun h4 => ?_) (fun h4 => ?_)
  · refine V_aloadn_0 dX7_reads_10 ?_
    refine V_getR dX7_reads_11 fl_X7_54 oM_sorts ?_
    refine V_iloadn_1 dX7_reads_14 ?_
    refine V_iald (j := s) dX7_reads_15 aM_sorts (by omega) (by decide) ?_
    refine V_if_ge_f dX7_reads_16 22 (by decide) hso ?_
    refine V_ldc (-1000000011) dX7_reads_19 cn_X7_195 ?_
    exact V_iret dX7_reads_21 ⟨rfl, rfl⟩
  · exact absurd (hasN hs (by decide)) h4

set_option maxRecDepth 100000 in
set_option maxHeartbeats 4000000 in
theorem m_reads_bad {G : vG} {σ : vS} {d : Nat} (hd : 4 ≤ d) {x : Int32} (hb : ¬ (hasI x 4)) : Cf G yX7_reads cX7_reads 4 (some .int) d [.ref 97, .int x] σ (some (.int (-1000000001))) σ := by
  refine Ct.ofV (by decide) (Nat.le_of_ble_eq_true rfl) rfl ?_
  show V G RX7 cX7_reads (some .int) 4 d _ 0 [some (.ref 97), some (.int x), none, none] [] _
  obtain ⟨d, rfl⟩ : ∃ e, d = e + 1 := ⟨d - 1, by omega⟩
  refine V_iloadn_1 dX7_reads_0 ?_
  refine V_cs1f dX7_reads_1 cs_X7_192 (Nat.le_of_ble_eq_true rfl) (k_M_isSheet (by omega)) ?_
  refine V_ifB_ne dX7_reads_4 10 (by decide) (fun h4 => ?_) (fun h4 => ?_)
  · exact absurd h4 hb
  · refine V_ldc (-1000000001) dX7_reads_7 cn_X7_86 ?_
    exact V_iret dX7_reads_9 ⟨rfl, rfl⟩

set_option maxRecDepth 100000 in
set_option maxHeartbeats 4000000 in
theorem op_reads {G : vG} {σ : vS} {d i : Nat} (hd : 100 ≤ d) (hi : i < 512) {x : Int32} (h : Inv i σ) : Op G yX6_reads cX6_reads 4 yX7_reads cX7_reads 4 d [.int x] i σ := by
  have hh := h
  obtain ⟨L, T, I, b, hT, hB, hM, hS, hO, hW, hR, hK⟩ := h
  have hC := hT.1
  have hE := hT.2.1
  have hI := hC.2.2.1
  have hn := hI.nc
  have hm := hI.np
  by_cases hx : hasI x 4
  · obtain ⟨s, hs, rfl⟩ := (hasI_iff (by decide)).mp hx
    obtain ⟨s1, s2, ⟨n, n24, s3, s4⟩, s5⟩ := hS s hs
    rcases s2 with s2 | s2
    · exact Op.ask hh (Cf.fi (c_reads_no (by omega) hs (s1.trans s2))) (fun σ1 f1 => Cf.fi (m_reads_no (by omega) hs (by rw [f1.p (q := 112) (by omega)]; exact so_no s2)))
    · exact Op.ask hh (Cf.fi (c_reads (v := fun k => σ 114 (24 * s + k)) (by omega) hC hs (by rw [s1]; exact so_ne s2) s3 n24 (fun k hk => (s5 k hk).1)))
        (fun σ1 f1 => Cr.fh (m_reads (v := fun k => σ 114 (24 * s + k)) (by omega) (hE.fi f1) hs (by rw [f1.p (q := 112) (by omega)]; exact so_yes s2) (by rw [f1.p (q := 113) (by omega)]; exact s4) n24 (fun k hk => by rw [f1.p (q := 114) (by omega)])))
  · exact Op.ask hh (Cf.fi (c_reads_bad (by omega) hx)) (fun σ1 f1 => Cf.fi (m_reads_bad (by omega) hx))
