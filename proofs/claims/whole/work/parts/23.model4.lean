set_option maxRecDepth 100000 in
set_option maxHeartbeats 4000000 in
theorem k_M_flows {G : vG} {σ : vS} {d : Nat} (hd : 6 ≤ d) {L T : nT} (hC : MC L T σ) {p : Nat} (hp : p < T 0 10) : Cr G yX7_flows cX7_flows 6 none d [.ref 97, .int (nI p)] σ none (fun σ' => MC L (flowT L p T) σ' ∧ Fm σ σ') := by
  refine Ct.ofV (by decide) (Nat.le_of_ble_eq_true rfl) rfl ?_
  show V G RX7 cX7_flows none 6 d _ 0 [some (.ref 97), some (.int (nI p)), none, none, none, none] [] _
  obtain ⟨d, rfl⟩ : ∃ e, d = e + 1 := ⟨d - 1, by omega⟩
  have hI := hC.2.2.1
  have hn := hI.nc
  have hm := hI.np
  have hF : Fh σ σ := Fh.rf
  obtain ⟨p1, p2, p3, p4, p5⟩ := hI.pi hp
  obtain ⟨q1, q2, q3, q4, q5⟩ := up_ok (L := L) hI hp
  have b3 := hI.full q1
  have b4 := runsT_lt (L := L) hI hp
  have b5 := hI.full q2
  refine V_aloadn_0 dX7_flows_0 ?_
  refine V_iloadn_1 dX7_flows_1 ?_
  refine V_cv1r dX7_flows_2 cv_X7_149 rcM (Nat.le_of_ble_eq_true rfl) (k_M_runsIn (by omega) hC (by omega)) (fun σ hq => ?_)
  replace hC := hC.fh hq
  replace hF := hF.tr hq
  refine V_istoren_2 dX7_flows_5 (by first | exact rfl | exact True.intro) (by decide) ?_
  refine V_iloadn_2 dX7_flows_6 ?_
  refine V_ifN_le (a := runsT L T p) dX7_flows_7 82 (by decide) (by omega) (fun h7 => ?_) (fun h7 => ?_)
  · exact V_vret dX7_flows_82 ⟨rfl, by unfold flowT; rw [if_pos h7]; exact ⟨hC, hF.m⟩⟩
  · have hu := runs_up h7
    have hfl : flowT L p T = leadT T (upT L T p) (runsT L T p) (loT L T p) := by unfold flowT; rw [if_neg (by omega)]
    refine V_aloadn_0 dX7_flows_10 ?_
    refine V_iloadn_1 dX7_flows_11 ?_
    refine V_cv1r dX7_flows_12 cv_X7_143 rcM (Nat.le_of_ble_eq_true rfl) (k_M_higher (by omega) hC (by omega)) (fun σ hq => ?_)
    replace hC := hC.fh hq
    replace hF := hF.tr hq
    refine V_topi (y := nI (upT L T p)) (by rw [hu.1]) ?_
    refine V_istoren_3 dX7_flows_15 (by first | exact rfl | exact True.intro) (by decide) ?_
    refine V_aloadn_0 dX7_flows_16 ?_
    refine V_iloadn_1 dX7_flows_17 ?_
    refine V_iconst 0 dX7_flows_18 (by decide) ?_
    refine V_cv2f dX7_flows_19 cv_X7_140 rcM (Nat.le_of_ble_eq_true rfl) (k_M_at (p := p) (w := 0) (by omega) (hC.1.p6 (by omega))) ?_
    refine V_aloadn_0 dX7_flows_22 ?_
    refine V_iloadn_1 dX7_flows_23 ?_
    refine V_iconst 1 dX7_flows_24 (by decide) ?_
    refine V_cv2f dX7_flows_25 cv_X7_140 rcM (Nat.le_of_ble_eq_true rfl) (k_M_at (p := p) (w := 1) (by omega) (hC.1.p7 (by omega))) ?_
    refine V_iaddN (a := T 6 p) (b := T 7 p) dX7_flows_28 ?_
    refine V_iloadn_3 dX7_flows_29 ?_
    refine V_isubN (a := (T 6 p) + (T 7 p)) (b := upT L T p) dX7_flows_30 (by omega) ?_
    refine V_topi (y := nI (loT L T p)) rfl ?_
    refine V_istore_4 dX7_flows_31 (by first | exact rfl | exact True.intro) (by decide) ?_
    refine V_aloadn_0 dX7_flows_33 ?_
    refine V_iloadn_3 dX7_flows_34 ?_
    refine V_iloadn_2 dX7_flows_35 ?_
    refine V_cv2n dX7_flows_36 cv_X7_157 rcM (Nat.le_of_ble_eq_true rfl) (k_M_drains (by omega) hC q1 b4) (fun σ1 h1 => ?_)
    refine V_iconst 0 dX7_flows_39 (by decide) ?_
    refine V_istore_5 dX7_flows_40 (by first | exact rfl | exact True.intro) (by decide) ?_
    refine V_iload_5 dX7_flows_42 ?_
    refine V_iconst 3 dX7_flows_44 (by decide) ?_
    refine V_icmp_ge_f dX7_flows_45 82 (by decide) (by decide) ?_
    refine V_aloadn_0 dX7_flows_48 ?_
    refine V_getR dX7_flows_49 fl_X7_9 oM_now ?_
    refine V_bipush 7 dX7_flows_52 (by decide) ?_
    refine V_bipush 6 dX7_flows_54 (by decide) ?_
    refine V_iload_4 dX7_flows_56 ?_
    refine V_imulN (a := 6) (b := loT L T p) dX7_flows_58 ?_
    refine V_iaddN (a := 7) (b := 6 * (loT L T p)) dX7_flows_59 ?_
    refine V_iconst 3 dX7_flows_60 (by decide) ?_
    refine V_iaddN (a := 7 + (6 * (loT L T p))) (b := 3) dX7_flows_61 ?_
    refine V_iload_5 dX7_flows_62 ?_
    refine V_iaddN (a := (7 + (6 * (loT L T p))) + 3) (b := 0) dX7_flows_64 ?_
    refine V_dup2 dX7_flows_65 rfl rfl ?_
    refine V_iald (j := ((7 + (6 * (loT L T p))) + 3) + 0) dX7_flows_66 aM_now (by omega) (by decide) ?_
    refine V_topi (y := nI (T 4 (loT L T p * 3 + 0))) (by (repeat rw [vup_ne (by omega)]); rw [h1.1.1.w (s := 0) (by rw [drain_k (by decide)]; exact q2) (by decide), drain_off (by omega)]) ?_
    refine V_aloadn_0 dX7_flows_67 ?_
    refine V_getR dX7_flows_68 fl_X7_19 oM_goes ?_
    refine V_iload_5 dX7_flows_71 ?_
    refine V_iald (j := 0) dX7_flows_73 aM_goes (by decide) (by decide) ?_
    refine V_topi (y := nI (goT T (upT L T p) (runsT L T p) 0)) (by (repeat rw [vup_ne (by omega)]); exact h1.2.1 0 (by decide)) ?_
    refine V_iaddN (a := T 4 (loT L T p * 3 + 0)) (b := goT T (upT L T p) (runsT L T p) 0) dX7_flows_74 ?_
    refine V_iast (j := ((7 + (6 * (loT L T p))) + 3) + 0) dX7_flows_75 aM_now (by omega) (by decide) ?_
    refine V_iinc_5 dX7_flows_76 (by first | exact rfl | exact True.intro) (by decide) 1 (by decide) ?_
    refine V_goto dX7_flows_79 42 (by decide) ?_
    refine V_iload_5 dX7_flows_42 ?_
    refine V_iconst 3 dX7_flows_44 (by decide) ?_
    refine V_icmp_ge_f dX7_flows_45 82 (by decide) (by decide) ?_
    refine V_aloadn_0 dX7_flows_48 ?_
    refine V_getR dX7_flows_49 fl_X7_9 oM_now ?_
    refine V_bipush 7 dX7_flows_52 (by decide) ?_
    refine V_bipush 6 dX7_flows_54 (by decide) ?_
    refine V_iload_4 dX7_flows_56 ?_
    refine V_imulN (a := 6) (b := loT L T p) dX7_flows_58 ?_
    refine V_iaddN (a := 7) (b := 6 * (loT L T p)) dX7_flows_59 ?_
    refine V_iconst 3 dX7_flows_60 (by decide) ?_
    refine V_iaddN (a := 7 + (6 * (loT L T p))) (b := 3) dX7_flows_61 ?_
    refine V_iload_5 dX7_flows_62 ?_
    refine V_iaddN (a := (7 + (6 * (loT L T p))) + 3) (b := 1) dX7_flows_64 ?_
    refine V_dup2 dX7_flows_65 rfl rfl ?_
    refine V_iald (j := ((7 + (6 * (loT L T p))) + 3) + 1) dX7_flows_66 aM_now (by omega) (by decide) ?_
    refine V_topi (y := nI (T 4 (loT L T p * 3 + 1))) (by (repeat rw [vup_ne (by omega)]); rw [h1.1.1.w (s := 1) (by rw [drain_k (by decide)]; exact q2) (by decide), drain_off (by omega)]) ?_
    refine V_aloadn_0 dX7_flows_67 ?_
    refine V_getR dX7_flows_68 fl_X7_19 oM_goes ?_
    refine V_iload_5 dX7_flows_71 ?_
    refine V_iald (j := 1) dX7_flows_73 aM_goes (by decide) (by decide) ?_
    refine V_topi (y := nI (goT T (upT L T p) (runsT L T p) 1)) (by (repeat rw [vup_ne (by omega)]); exact h1.2.1 1 (by decide)) ?_
    refine V_iaddN (a := T 4 (loT L T p * 3 + 1)) (b := goT T (upT L T p) (runsT L T p) 1) dX7_flows_74 ?_
    refine V_iast (j := ((7 + (6 * (loT L T p))) + 3) + 1) dX7_flows_75 aM_now (by omega) (by decide) ?_
    refine V_iinc_5 dX7_flows_76 (by first | exact rfl | exact True.intro) (by decide) 2 (by decide) ?_
    refine V_goto dX7_flows_79 42 (by decide) ?_
    refine V_iload_5 dX7_flows_42 ?_
    refine V_iconst 3 dX7_flows_44 (by decide) ?_
    refine V_icmp_ge_f dX7_flows_45 82 (by decide) (by decide) ?_
    refine V_aloadn_0 dX7_flows_48 ?_
    refine V_getR dX7_flows_49 fl_X7_9 oM_now ?_
    refine V_bipush 7 dX7_flows_52 (by decide) ?_
    refine V_bipush 6 dX7_flows_54 (by decide) ?_
    refine V_iload_4 dX7_flows_56 ?_
    refine V_imulN (a := 6) (b := loT L T p) dX7_flows_58 ?_
    refine V_iaddN (a := 7) (b := 6 * (loT L T p)) dX7_flows_59 ?_
    refine V_iconst 3 dX7_flows_60 (by decide) ?_
    refine V_iaddN (a := 7 + (6 * (loT L T p))) (b := 3) dX7_flows_61 ?_
    refine V_iload_5 dX7_flows_62 ?_
    refine V_iaddN (a := (7 + (6 * (loT L T p))) + 3) (b := 2) dX7_flows_64 ?_
    refine V_dup2 dX7_flows_65 rfl rfl ?_
    refine V_iald (j := ((7 + (6 * (loT L T p))) + 3) + 2) dX7_flows_66 aM_now (by omega) (by decide) ?_
    refine V_topi (y := nI (T 4 (loT L T p * 3 + 2))) (by (repeat rw [vup_ne (by omega)]); rw [h1.1.1.w (s := 2) (by rw [drain_k (by decide)]; exact q2) (by decide), drain_off (by omega)]) ?_
    refine V_aloadn_0 dX7_flows_67 ?_
    refine V_getR dX7_flows_68 fl_X7_19 oM_goes ?_
    refine V_iload_5 dX7_flows_71 ?_
    refine V_iald (j := 2) dX7_flows_73 aM_goes (by decide) (by decide) ?_
    refine V_topi (y := nI (goT T (upT L T p) (runsT L T p) 2)) (by (repeat rw [vup_ne (by omega)]); exact h1.2.1 2 (by decide)) ?_
    refine V_iaddN (a := T 4 (loT L T p * 3 + 2)) (b := goT T (upT L T p) (runsT L T p) 2) dX7_flows_74 ?_
    refine V_iast (j := ((7 + (6 * (loT L T p))) + 3) + 2) dX7_flows_75 aM_now (by omega) (by decide) ?_
    refine V_iinc_5 dX7_flows_76 (by first | exact rfl | exact True.intro) (by decide) 3 (by decide) ?_
    refine V_goto dX7_flows_79 42 (by decide) ?_
    refine V_iload_5 dX7_flows_42 ?_
    refine V_iconst 3 dX7_flows_44 (by decide) ?_
    refine V_icmp_ge_t dX7_flows_45 82 (by decide) (by decide) ?_
    refine V_abs (fun σ2 => Fm σ1 σ2 ∧ (∀ j, j < 107 → (∀ c s, c < T 0 5 → s < 3 → j ≠ 7 + 6 * c + 3 + s) → σ2 98 j = σ1 98 j) ∧ (∀ c s, c < T 0 5 → s < 3 → σ2 98 (7 + 6 * c + 3 + s) = nI (leadT T (upT L T p) (runsT L T p) (loT L T p) 4 (c * 3 + s)))) ⟨⟨fun q g1 g2 g3 g4 => ?_, fun j hj => ?_⟩, ?_, ?_⟩ (fun σ2 h2 => ?_)
    · repeat (first | rw [vup_p g1] | rw [vup_p g2])
    · repeat rw [vup_ne (by omega)]
    · intro j hj hx
      have x0 := hx _ 0 q2 (by decide)
      have x1 := hx _ 1 q2 (by decide)
      have x2 := hx _ 2 q2 (by decide)
      repeat rw [vup_ne (by omega)]
    · intro c s hc hs
      by_cases e : c = loT L T p
      · subst e
        rw [lead_to q3 hs]
        rcases (show s = 0 ∨ s = 1 ∨ s = 2 by omega) with rfl | rfl | rfl
        · repeat (first | rw [vup_same] | rw [vup_ne (by omega)])
        · repeat (first | rw [vup_same] | rw [vup_ne (by omega)])
        · repeat (first | rw [vup_same] | rw [vup_ne (by omega)])
      · (repeat rw [vup_ne (by omega)])
        rw [h1.1.1.w (by rw [drain_k (by decide)]; exact hc) hs]
        unfold leadT
        rw [if_neg (by omega)]
    obtain ⟨g1, g2, g3⟩ := h2
    have eD : drainT T (upT L T p) (runsT L T p) 0 5 = T 0 5 := drain_k (by decide)
    have eE : drainT T (upT L T p) (runsT L T p) 0 10 = T 0 10 := drain_k (by decide)
    have hA : MA 98 (leadT T (upT L T p) (runsT L T p) (loT L T p)) σ2 := h1.1.1.of (by rw [eD]; exact hn) (by rw [eE]; exact hm) (fun k i h => by rw [lead_k h, drain_k h]) (by rw [eD]; exact g2) (by rw [eD]; exact g3)
    have hF2 := (hF.m.tr h1.2.2).tr g1
    exact V_vret dX7_flows_82 ⟨rfl, by rw [hfl]; exact ⟨hC.next (h1.2.2.tr g1) hA (hI.lead q1 q2 q3 b4) (lead_k (by decide)) (fun _ => lead_k (by decide)), hF2⟩⟩

set_option maxRecDepth 100000 in
set_option maxHeartbeats 4000000 in
theorem k_M_spills {G : vG} {σ : vS} {d : Nat} (hd : 3 ≤ d) {L T : nT} (hC : MC L T σ) {a n : Nat} (ha : a < T 0 5) (hnf : n ≤ fullT T a) : Cr G yX7_spills cX7_spills 3 none d [.ref 97, .int (nI a), .int (nI n)] σ none (fun σ' => MC L (spillT T a n) σ' ∧ Fm σ σ') := by
  refine Ct.ofV (by decide) (Nat.le_of_ble_eq_true rfl) rfl ?_
  show V G RX7 cX7_spills none 3 d _ 0 [some (.ref 97), some (.int (nI a)), some (.int (nI n))] [] _
  obtain ⟨d, rfl⟩ : ∃ e, d = e + 1 := ⟨d - 1, by omega⟩
  have hI := hC.2.2.1
  have hn := hI.nc
  have hm := hI.np
  refine V_aloadn_0 dX7_spills_0 ?_
  refine V_iloadn_1 dX7_spills_1 ?_
  refine V_iloadn_2 dX7_spills_2 ?_
  refine V_cv2n dX7_spills_3 cv_X7_157 rcM (Nat.le_of_ble_eq_true rfl) (k_M_drains (by omega) hC ha hnf) (fun σ1 h1 => ?_)
  refine V_aloadn_0 dX7_spills_6 ?_
  refine V_getR dX7_spills_7 fl_X7_9 oM_now ?_
  refine V_iconst 5 dX7_spills_10 (by decide) ?_
  refine V_dup2 dX7_spills_11 rfl rfl ?_
  refine V_iald (j := 5) dX7_spills_12 aM_now (by decide) (by decide) ?_
  refine V_topi (y := nI (T 0 11)) (by rw [h1.1.1.s5, drain_k (by decide)]) ?_
  refine V_iloadn_2 dX7_spills_13 ?_
  refine V_iaddN (a := T 0 11) (b := n) dX7_spills_14 ?_
  refine V_iast (j := 5) dX7_spills_15 aM_now (by decide) (by decide) ?_
  exact V_vret dX7_spills_16 ⟨rfl, h1.1.sc (k := 5) (i := 11) (x := T 0 11 + n) (by omega) (hI.spill ha hnf), h1.2.2.tr (Fm.up (by decide))⟩

set_option maxRecDepth 100000 in
set_option maxHeartbeats 4000000 in
theorem lp_mh4 {G : vG} {d : Nat} {σ0 : vS} {L U : nT} {σ : vS} (hd : 7 ≤ d + 1) (hC : MC L U σ) (hF : Fm σ0 σ) {l1 l2 : Option Value} : V G RX7 cX7_hour none 3 (d + 1) (fun r' σ' => r' = none ∧ (MC L (tickT (drinkT U)) σ' ∧ Fm σ0 σ')) 106 [some (.ref 97), l1, l2] [] σ := by
  have hI := hC.2.2.1
  have hn := hI.nc
  have hm := hI.np
  have hth := hI.th
  refine V_fg_1 ?_
  refine V_fg_2 ?_
  refine V_aloadn_0 dX7_hour_106 ?_
  refine V_cv0f dX7_hour_107 cv_X7_153 rcM (Nat.le_of_ble_eq_true rfl) (k_M_draw hC.1.s0) ?_
  have hC1 := hC.sc (k := 0) (i := 14) (x := zN (U 0 14)) (by omega) (hI.zz (zN_lt _))
  have z1 := zN_lt (U 0 14)
  have z2 := zN_lt (zN (U 0 14))
  refine V_bipush 100 dX7_hour_110 (by decide) ?_
  refine V_iremN (a := zN (U 0 14) / 2 ^ 8) (b := 100) dX7_hour_112 (by omega) (by omega) (by omega) ?_
  refine V_aloadn_0 dX7_hour_113 ?_
  refine V_getR dX7_hour_114 fl_X7_9 oM_now ?_
  refine V_iconst 4 dX7_hour_117 (by decide) ?_
  refine V_iald (j := 4) dX7_hour_118 aM_now (by decide) (by decide) ?_
  refine V_topi (y := nI (U 0 12)) (by rw [hC1.1.s4, Tup_ne (by omega)]) ?_
  refine V_icmpN_ge (a := (zN (U 0 14) / 2 ^ 8) % 100) (b := U 0 12) dX7_hour_119 126 (by decide) (by omega) (by omega) (fun h119 => ?_) (fun h119 => ?_)
  · refine V_iconst 0 dX7_hour_126 (by decide) ?_
    refine V_istoren_1 dX7_hour_127 (by first | exact rfl | exact True.intro) (by decide) ?_
    refine V_iloadn_1 dX7_hour_128 ?_
    refine V_if_eq_t dX7_hour_129 168 (by decide) (by decide) ?_
    refine V_abs (fun σ1 => MC L (drinkT U) σ1 ∧ Fm σ0 σ1) ?_ (fun σ1 h1 => ?_)
    · refine ⟨?_, hF.tr (Fm.up (by decide))⟩
      unfold drinkT
      rw [if_neg (by omega)]
      exact hC1
    clear hC hF hI
    obtain ⟨hC, hF⟩ := h1
    have hC9 := hC.sc (k := 3) (i := 13) (x := drinkT U 0 13 + 1) (by omega) hC.2.2.1.tick
    refine V_aloadn_0 dX7_hour_168 ?_
    refine V_getR dX7_hour_169 fl_X7_9 oM_now ?_
    refine V_iconst 3 dX7_hour_172 (by decide) ?_
    refine V_dup2 dX7_hour_173 rfl rfl ?_
    refine V_iald (j := 3) dX7_hour_174 aM_now (by decide) (by decide) ?_
    refine V_topi (y := nI (drinkT U 0 13)) hC.1.s3 ?_
    refine V_iconst 1 dX7_hour_175 (by decide) ?_
    refine V_iaddN (a := drinkT U 0 13) (b := 1) dX7_hour_176 ?_
    refine V_iast (j := 3) dX7_hour_177 aM_now (by decide) (by decide) ?_
    exact V_vret dX7_hour_178 ⟨rfl, hC9, hF.tr (Fm.up (by decide))⟩
  · refine V_iconst 1 dX7_hour_122 (by decide) ?_
    refine V_goto dX7_hour_123 127 (by decide) ?_
    refine V_istoren_1 dX7_hour_127 (by first | exact rfl | exact True.intro) (by decide) ?_
    refine V_iloadn_1 dX7_hour_128 ?_
    refine V_if_eq_f dX7_hour_129 168 (by decide) (by decide) ?_
    refine V_aloadn_0 dX7_hour_132 ?_
    refine V_getR dX7_hour_133 fl_X7_9 oM_now ?_
    refine V_iconst 1 dX7_hour_136 (by decide) ?_
    refine V_iald (j := 1) dX7_hour_137 aM_now (by decide) (by decide) ?_
    refine V_topi (y := nI (U 0 5)) (by rw [hC1.1.s1, Tup_ne (by omega)]) ?_
    refine V_ifN_le (a := U 0 5) dX7_hour_138 168 (by decide) (by omega) (fun h138 => ?_) (fun h138 => ?_)
    · refine V_abs (fun σ1 => MC L (drinkT U) σ1 ∧ Fm σ0 σ1) ?_ (fun σ1 h1 => ?_)
      · refine ⟨?_, hF.tr (Fm.up (by decide))⟩
        unfold drinkT
        rw [if_neg (by omega)]
        exact hC1
      clear hC hF hI
      obtain ⟨hC, hF⟩ := h1
      have hC9 := hC.sc (k := 3) (i := 13) (x := drinkT U 0 13 + 1) (by omega) hC.2.2.1.tick
      refine V_aloadn_0 dX7_hour_168 ?_
      refine V_getR dX7_hour_169 fl_X7_9 oM_now ?_
      refine V_iconst 3 dX7_hour_172 (by decide) ?_
      refine V_dup2 dX7_hour_173 rfl rfl ?_
      refine V_iald (j := 3) dX7_hour_174 aM_now (by decide) (by decide) ?_
      refine V_topi (y := nI (drinkT U 0 13)) hC.1.s3 ?_
      refine V_iconst 1 dX7_hour_175 (by decide) ?_
      refine V_iaddN (a := drinkT U 0 13) (b := 1) dX7_hour_176 ?_
      refine V_iast (j := 3) dX7_hour_177 aM_now (by decide) (by decide) ?_
      exact V_vret dX7_hour_178 ⟨rfl, hC9, hF.tr (Fm.up (by decide))⟩
    · refine V_aloadn_0 dX7_hour_141 ?_
      refine V_cv0f dX7_hour_142 cv_X7_153 rcM (Nat.le_of_ble_eq_true rfl) (k_M_draw hC1.1.s0) ?_
      have hC2 := hC1.sc (k := 0) (i := 14) (x := zN (zN (U 0 14))) (by omega) (hC1.2.2.1.zz (zN_lt _))
      rw [Tup_Tup] at hC2
      refine V_hp (σ' := vup (vup σ 98 0 (nI (zN (U 0 14)))) 98 0 (nI (zN (zN (U 0 14))))) (by rw [Tup_same]) ?_
      have hcc : zN (zN (U 0 14)) / 2 ^ 8 % U 0 5 < U 0 5 := Nat.mod_lt _ (by omega)
      have hfc := hI.full hcc
      refine V_topi (y := nI (zN (zN (U 0 14)) / 2 ^ 8)) (by rw [Tup_same]) ?_
      refine V_aloadn_0 dX7_hour_145 ?_
      refine V_getR dX7_hour_146 fl_X7_9 oM_now ?_
      refine V_iconst 1 dX7_hour_149 (by decide) ?_
      refine V_iald (j := 1) dX7_hour_150 aM_now (by decide) (by decide) ?_
      refine V_topi (y := nI (U 0 5)) (by rw [hC2.1.s1, Tup_ne (by omega)]) ?_
      refine V_iremN (a := zN (zN (U 0 14)) / 2 ^ 8) (b := U 0 5) dX7_hour_151 (by omega) (by omega) (by omega) ?_
      refine V_istoren_2 dX7_hour_152 (by first | exact rfl | exact True.intro) (by decide) ?_
      refine V_aloadn_0 dX7_hour_153 ?_
      refine V_iloadn_2 dX7_hour_154 ?_
      refine V_iconst 5 dX7_hour_155 (by decide) ?_
      refine V_iconst 0 dX7_hour_156 (by decide) ?_
      refine V_aloadn_0 dX7_hour_157 ?_
      refine V_iloadn_2 dX7_hour_158 ?_
      refine V_cv1f dX7_hour_159 cv_X7_96 rcM (Nat.le_of_ble_eq_true rfl) (k_M_fullOf (by omega) hC2 (by rw [Tup_ne (by omega)]; exact hcc)) ?_
      refine V_topi (y := nI (fullT U (zN (zN (U 0 14)) / 2 ^ 8 % U 0 5))) (by rw [z_full]) ?_
      refine V_cs3f dX7_hour_162 cs_X7_103 (Nat.le_of_ble_eq_true rfl) k_M_within ?_
      refine V_topi (y := nI (min 5 (fullT U (zN (zN (U 0 14)) / 2 ^ 8 % U 0 5)))) (wiN (a := 5) (by decide) (by omega)) ?_
      refine V_cv2n dX7_hour_165 cv_X7_157 rcM (Nat.le_of_ble_eq_true rfl) (k_M_drains (a := zN (zN (U 0 14)) / 2 ^ 8 % U 0 5) (n := min 5 (fullT U (zN (zN (U 0 14)) / 2 ^ 8 % U 0 5))) (by omega) hC2 (by rw [Tup_ne (by omega)]; exact hcc) (by rw [z_full]; omega)) (fun σ h9 => ?_)
      refine V_abs (fun σ1 => MC L (drinkT U) σ1 ∧ Fm σ0 σ1) ?_ (fun σ1 h1 => ?_)
      · refine ⟨?_, (hF.tr ((Fm.up (by decide)).tr (Fm.up (by decide)))).tr h9.2.2⟩
        unfold drinkT
        rw [if_pos ⟨h119, by omega⟩]
        exact h9.1
      clear hC hF hI
      obtain ⟨hC, hF⟩ := h1
      have hC9 := hC.sc (k := 3) (i := 13) (x := drinkT U 0 13 + 1) (by omega) hC.2.2.1.tick
      refine V_aloadn_0 dX7_hour_168 ?_
      refine V_getR dX7_hour_169 fl_X7_9 oM_now ?_
      refine V_iconst 3 dX7_hour_172 (by decide) ?_
      refine V_dup2 dX7_hour_173 rfl rfl ?_
      refine V_iald (j := 3) dX7_hour_174 aM_now (by decide) (by decide) ?_
      refine V_topi (y := nI (drinkT U 0 13)) hC.1.s3 ?_
      refine V_iconst 1 dX7_hour_175 (by decide) ?_
      refine V_iaddN (a := drinkT U 0 13) (b := 1) dX7_hour_176 ?_
      refine V_iast (j := 3) dX7_hour_177 aM_now (by decide) (by decide) ?_
      exact V_vret dX7_hour_178 ⟨rfl, hC9, hF.tr (Fm.up (by decide))⟩

set_option maxRecDepth 100000 in
set_option maxHeartbeats 4000000 in
theorem lp_mh3 {G : vG} {d : Nat} {σ0 : vS} {L T : nT} (hd : 7 ≤ d + 1) (hI0 : TI T) : ∀ (k : Nat) (c : Nat) (σ : vS), (MC L (itT (overT L) c T) σ ∧ Fm σ0 σ ∧ c ≤ T 0 5) → T 0 5 - c < k → V G RX7 cX7_hour none 3 (d + 1) (fun r' σ' => r' = none ∧ (MC L (tickT (drinkT (itT (overT L) (T 0 5) T))) σ' ∧ Fm σ0 σ')) 53 [some (.ref 97), some (.int (nI c)), none] [] σ := by
  intro k
  induction k with
  | zero => intros; omega
  | succ k ih =>
    intro c σ hh hk
    obtain ⟨hC, hF, hc⟩ := hh
    obtain ⟨U, hU⟩ : ∃ U, U = itT (overT L) c T := ⟨_, rfl⟩
    rw [← hU] at hC
    have hI := hC.2.2.1
    have hn := hI.nc
    have hm := hI.np
    have e5 : U 0 5 = T 0 5 := by rw [hU]; exact (it_over hI0 (by omega)).2 0 5 (by decide) (by omega)
    have e10 : U 0 10 = T 0 10 := by rw [hU]; exact (it_over hI0 (by omega)).2 0 10 (by decide) (by omega)
    refine V_iloadn_1 dX7_hour_53 ?_
    refine V_aloadn_0 dX7_hour_54 ?_
    refine V_getR dX7_hour_55 fl_X7_9 oM_now ?_
    refine V_iconst 1 dX7_hour_58 (by decide) ?_
    refine V_iald (j := 1) dX7_hour_59 aM_now (by decide) (by decide) ?_
    refine V_topi hC.1.s1 ?_
    refine V_icmpN_ge (a := c) (b := U 0 5) dX7_hour_60 106 (by decide) (by omega) (by omega) (fun h60 => ?_) (fun h60 => ?_)
    · have e9 : c = T 0 5 := by omega
      rw [hU, e9] at hC
      exact lp_mh4 hd hC hF
    · have hc2 : c < U 0 5 := by omega
      have b1 := highT_le L U c
      have b2 := (hI.ce hc2).2.2.2
      have b3 := hI.full hc2
      refine V_aloadn_0 dX7_hour_63 ?_
      refine V_iloadn_1 dX7_hour_64 ?_
      refine V_cv1r dX7_hour_65 cv_X7_109 rcM (Nat.le_of_ble_eq_true rfl) (k_M_highOf (by omega) hC hc2) (fun σ hq => ?_)
      replace hC := hC.fh hq
      replace hF := hF.tr hq.m
      refine V_aloadn_0 dX7_hour_68 ?_
      refine V_iloadn_1 dX7_hour_69 ?_
      refine V_iconst 2 dX7_hour_70 (by decide) ?_
      refine V_cv2f dX7_hour_71 cv_X7_92 rcM (Nat.le_of_ble_eq_true rfl) (k_M_of (c := c) (w := 2) (by omega) (hC.1.c3 (by omega))) ?_
      refine V_icmpN_le (a := highT L U c) (b := U 3 c) dX7_hour_74 100 (by decide) (by omega) (by omega) (fun h74 => ?_) (fun h74 => ?_)
      · refine V_iinc_1 dX7_hour_100 (by first | exact rfl | exact True.intro) (by decide) (nI (c + 1)) (nI_inc _) ?_
        refine V_goto dX7_hour_103 53 (by decide) ?_
        refine ih (c + 1) _ ⟨?_, hF, by omega⟩ (by omega)
        show MC L (overT L c (itT (overT L) c T)) _
        rw [← hU]
        unfold overT
        rw [if_neg (by omega)]
        exact hC
      · refine V_aloadn_0 dX7_hour_77 ?_
        refine V_iloadn_1 dX7_hour_78 ?_
        refine V_aloadn_0 dX7_hour_79 ?_
        refine V_iloadn_1 dX7_hour_80 ?_
        refine V_cv1f dX7_hour_81 cv_X7_96 rcM (Nat.le_of_ble_eq_true rfl) (k_M_fullOf (by omega) hC (by omega)) ?_
        refine V_iconst 4 dX7_hour_84 (by decide) ?_
        refine V_idivN (a := fullT U c) (b := 4) dX7_hour_85 (by omega) (by omega) (by omega) ?_
        refine V_iconst 1 dX7_hour_86 (by decide) ?_
        refine V_iaddN (a := (fullT U c) / 4) (b := 1) dX7_hour_87 ?_
        refine V_iconst 0 dX7_hour_88 (by decide) ?_
        refine V_aloadn_0 dX7_hour_89 ?_
        refine V_iloadn_1 dX7_hour_90 ?_
        refine V_cv1f dX7_hour_91 cv_X7_96 rcM (Nat.le_of_ble_eq_true rfl) (k_M_fullOf (by omega) hC (by omega)) ?_
        refine V_cs3f dX7_hour_94 cs_X7_103 (Nat.le_of_ble_eq_true rfl) k_M_within ?_
        refine V_topi (y := nI (min (fullT U c / 4 + 1) (fullT U c))) (wiN (by omega) (by omega)) ?_
        refine V_cv2n dX7_hour_97 cv_X7_165 rcM (Nat.le_of_ble_eq_true rfl) (k_M_spills (by omega) hC hc2 (by omega)) (fun σ h9 => ?_)
        refine V_iinc_1 dX7_hour_100 (by first | exact rfl | exact True.intro) (by decide) (nI (c + 1)) (nI_inc _) ?_
        refine V_goto dX7_hour_103 53 (by decide) ?_
        refine ih (c + 1) _ ⟨?_, hF.tr h9.2, by omega⟩ (by omega)
        show MC L (overT L c (itT (overT L) c T)) _
        rw [← hU]
        unfold overT
        rw [if_pos h74]
        exact h9.1

set_option maxRecDepth 100000 in
set_option maxHeartbeats 4000000 in
theorem lp_mh2 {G : vG} {d : Nat} {σ0 : vS} {L T : nT} (hd : 7 ≤ d + 1) (hI0 : TI T) : ∀ (k : Nat) (c : Nat) (σ : vS), (MC L (itT loseT c T) σ ∧ Fm σ0 σ ∧ c ≤ T 0 5) → T 0 5 - c < k → V G RX7 cX7_hour none 3 (d + 1) (fun r' σ' => r' = none ∧ (MC L (tickT (drinkT (itT (overT L) (T 0 5) (itT loseT (T 0 5) T)))) σ' ∧ Fm σ0 σ')) 25 [some (.ref 97), some (.int (nI c)), none] [] σ := by
  intro k
  induction k with
  | zero => intros; omega
  | succ k ih =>
    intro c σ hh hk
    obtain ⟨hC, hF, hc⟩ := hh
    obtain ⟨U, hU⟩ : ∃ U, U = itT loseT c T := ⟨_, rfl⟩
    rw [← hU] at hC
    have hI := hC.2.2.1
    have hn := hI.nc
    have hm := hI.np
    have e5 : U 0 5 = T 0 5 := by rw [hU]; exact (it_lose hI0 (by omega)).2 0 5 (by decide) (by omega)
    have e10 : U 0 10 = T 0 10 := by rw [hU]; exact (it_lose hI0 (by omega)).2 0 10 (by decide) (by omega)
    refine V_iloadn_1 dX7_hour_25 ?_
    refine V_aloadn_0 dX7_hour_26 ?_
    refine V_getR dX7_hour_27 fl_X7_9 oM_now ?_
    refine V_iconst 1 dX7_hour_30 (by decide) ?_
    refine V_iald (j := 1) dX7_hour_31 aM_now (by decide) (by decide) ?_
    refine V_topi hC.1.s1 ?_
    refine V_icmpN_ge (a := c) (b := U 0 5) dX7_hour_32 51 (by decide) (by omega) (by omega) (fun h32 => ?_) (fun h32 => ?_)
    · refine V_iconst 0 dX7_hour_51 (by decide) ?_
      refine V_istoren_1 dX7_hour_52 (by first | exact rfl | exact True.intro) (by decide) ?_
      have e9 : c = T 0 5 := by omega
      rw [hU, e9] at hC
      have g1 := (it_lose hI0 (Nat.le_refl _)).1
      have g2 : itT loseT (T 0 5) T 0 5 = T 0 5 := (it_lose hI0 (Nat.le_refl _)).2 0 5 (by decide) (by omega)
      have g3 := lp_mh3 (G := G) (σ0 := σ0) (L := L) hd g1 (T 0 5 + 1) 0 σ ⟨hC, hF, by omega⟩ (by omega)
      rw [g2] at g3
      exact g3
    · have hc2 : c < U 0 5 := by omega
      have b4 := loses_le (k := U 1 c) (f := fullT U c)
      refine V_aloadn_0 dX7_hour_35 ?_
      refine V_iloadn_1 dX7_hour_36 ?_
      refine V_aloadn_0 dX7_hour_37 ?_
      refine V_iloadn_1 dX7_hour_38 ?_
      refine V_cv1f dX7_hour_39 cv_X7_119 rcM (Nat.le_of_ble_eq_true rfl) (k_M_losesOf (by omega) hC hc2) ?_
      refine V_cv2n dX7_hour_42 cv_X7_165 rcM (Nat.le_of_ble_eq_true rfl) (k_M_spills (by omega) hC hc2 b4) (fun σ h9 => ?_)
      refine V_iinc_1 dX7_hour_45 (by first | exact rfl | exact True.intro) (by decide) (nI (c + 1)) (nI_inc _) ?_
      refine V_goto dX7_hour_48 25 (by decide) ?_
      refine ih (c + 1) _ ⟨?_, hF.tr h9.2, by omega⟩ (by omega)
      show MC L (loseT c (itT loseT c T)) _
      rw [← hU]
      exact h9.1

set_option maxRecDepth 100000 in
set_option maxHeartbeats 4000000 in
theorem lp_mh1 {G : vG} {d : Nat} {σ0 : vS} {L T : nT} (hd : 7 ≤ d + 1) (hI0 : TI T) : ∀ (k : Nat) (c : Nat) (σ : vS), (MC L (itT (flowT L) c T) σ ∧ Fm σ0 σ ∧ c ≤ T 0 10) → T 0 10 - c < k → V G RX7 cX7_hour none 3 (d + 1) (fun r' σ' => r' = none ∧ (MC L (hourT L T) σ' ∧ Fm σ0 σ')) 2 [some (.ref 97), some (.int (nI c)), none] [] σ := by
  intro k
  induction k with
  | zero => intros; omega
  | succ k ih =>
    intro c σ hh hk
    obtain ⟨hC, hF, hc⟩ := hh
    obtain ⟨U, hU⟩ : ∃ U, U = itT (flowT L) c T := ⟨_, rfl⟩
    rw [← hU] at hC
    have hI := hC.2.2.1
    have hn := hI.nc
    have hm := hI.np
    have e5 : U 0 5 = T 0 5 := by rw [hU]; exact (it_flow hI0 (by omega)).2 0 5 (by decide) (by omega)
    have e10 : U 0 10 = T 0 10 := by rw [hU]; exact (it_flow hI0 (by omega)).2 0 10 (by decide) (by omega)
    refine V_iloadn_1 dX7_hour_2 ?_
    refine V_aloadn_0 dX7_hour_3 ?_
    refine V_getR dX7_hour_4 fl_X7_9 oM_now ?_
    refine V_iconst 2 dX7_hour_7 (by decide) ?_
    refine V_iald (j := 2) dX7_hour_8 aM_now (by decide) (by decide) ?_
    refine V_topi hC.1.s2 ?_
    refine V_icmpN_ge (a := c) (b := U 0 10) dX7_hour_9 23 (by decide) (by omega) (by omega) (fun h9 => ?_) (fun h9 => ?_)
    · refine V_iconst 0 dX7_hour_23 (by decide) ?_
      refine V_istoren_1 dX7_hour_24 (by first | exact rfl | exact True.intro) (by decide) ?_
      have e9 : c = T 0 10 := by omega
      rw [hU, e9] at hC
      have g1 := (it_flow (L := L) hI0 (Nat.le_refl _)).1
      have g2 : itT (flowT L) (T 0 10) T 0 5 = T 0 5 := (it_flow hI0 (Nat.le_refl _)).2 0 5 (by decide) (by omega)
      have g3 := lp_mh2 (G := G) (σ0 := σ0) (L := L) hd g1 (T 0 5 + 1) 0 σ ⟨hC, hF, by omega⟩ (by omega)
      rw [g2] at g3
      exact g3
    · have hc2 : c < U 0 10 := by omega
      refine V_aloadn_0 dX7_hour_12 ?_
      refine V_iloadn_1 dX7_hour_13 ?_
      refine V_cv1n dX7_hour_14 cv_X7_161 rcM (Nat.le_of_ble_eq_true rfl) (k_M_flows (by omega) hC hc2) (fun σ h9 => ?_)
      refine V_iinc_1 dX7_hour_17 (by first | exact rfl | exact True.intro) (by decide) (nI (c + 1)) (nI_inc _) ?_
      refine V_goto dX7_hour_20 2 (by decide) ?_
      refine ih (c + 1) _ ⟨?_, hF.tr h9.2, by omega⟩ (by omega)
      show MC L (flowT L c (itT (flowT L) c T)) _
      rw [← hU]
      exact h9.1

set_option maxRecDepth 100000 in
set_option maxHeartbeats 4000000 in
theorem k_M_hour {G : vG} {σ : vS} {d : Nat} (hd : 7 ≤ d) {L T : nT} (hC : MC L T σ) : Cr G yX7_hour cX7_hour 3 none d [.ref 97] σ none (fun σ' => MC L (hourT L T) σ' ∧ Fm σ σ') := by
  refine Ct.ofV (by decide) (Nat.le_of_ble_eq_true rfl) rfl ?_
  show V G RX7 cX7_hour none 3 d _ 0 [some (.ref 97), none, none] [] _
  obtain ⟨d, rfl⟩ : ∃ e, d = e + 1 := ⟨d - 1, by omega⟩
  refine V_iconst 0 dX7_hour_0 (by decide) ?_
  refine V_istoren_1 dX7_hour_1 (by first | exact rfl | exact True.intro) (by decide) ?_
  exact lp_mh1 hd hC.2.2.1 (T 0 10 + 1) 0 σ ⟨hC, Fm.rf, by omega⟩ (by omega)

set_option maxRecDepth 100000 in
set_option maxHeartbeats 4000000 in
theorem lp_goesOn {G : vG} {d : Nat} {σ0 : vS} {L T : nT} {n : Nat} (hd : 8 ≤ d + 1) (hn : n < 2 ^ 31) : ∀ (k : Nat) (i : Nat) (σ : vS), (MC L (hoursT L i T) σ ∧ Fm σ0 σ ∧ i ≤ n) → n - i < k → V G RX7 cX7_goesOn none 3 (d + 1) (fun r' σ' => r' = none ∧ (MC L (hoursT L n T) σ' ∧ Fm σ0 σ')) 2 [some (.ref 97), some (.int (nI n)), some (.int (nI i))] [] σ := by
  intro k
  induction k with
  | zero => intros; omega
  | succ k ih =>
    intro i σ hh hk
    obtain ⟨hC, hF, hi⟩ := hh
    refine V_iloadn_2 dX7_goesOn_2 ?_
    refine V_iloadn_1 dX7_goesOn_3 ?_
    refine V_icmpN_ge (a := i) (b := n) dX7_goesOn_4 17 (by decide) (by omega) (by omega) (fun h4 => ?_) (fun h4 => ?_)
    · exact V_vret dX7_goesOn_17 ⟨rfl, by rw [show n = i by omega]; exact hC, hF⟩
    · refine V_aloadn_0 dX7_goesOn_7 ?_
      refine V_cv0n dX7_goesOn_8 cv_X7_168 rcM (Nat.le_of_ble_eq_true rfl) (k_M_hour (by omega) hC) (fun σ h9 => ?_)
      refine V_iinc_2 dX7_goesOn_11 (by first | exact rfl | exact True.intro) (by decide) (nI (i + 1)) (nI_inc _) ?_
      refine V_goto dX7_goesOn_14 2 (by decide) ?_
      exact ih (i + 1) _ ⟨h9.1, hF.tr h9.2, by omega⟩ (by omega)

set_option maxRecDepth 100000 in
set_option maxHeartbeats 4000000 in
theorem k_M_goesOn {G : vG} {σ : vS} {d : Nat} (hd : 8 ≤ d) {L T : nT} (hC : MC L T σ) {n : Nat} (hn : n < 2 ^ 31) : Cr G yX7_goesOn cX7_goesOn 3 none d [.ref 97, .int (nI n)] σ none (fun σ' => MC L (hoursT L n T) σ' ∧ Fm σ σ') := by
  refine Ct.ofV (by decide) (Nat.le_of_ble_eq_true rfl) rfl ?_
  show V G RX7 cX7_goesOn none 3 d _ 0 [some (.ref 97), some (.int (nI n)), none] [] _
  obtain ⟨d, rfl⟩ : ∃ e, d = e + 1 := ⟨d - 1, by omega⟩
  refine V_iconst 0 dX7_goesOn_0 (by decide) ?_
  refine V_istoren_2 dX7_goesOn_1 (by first | exact rfl | exact True.intro) (by decide) ?_
  exact lp_goesOn hd hn (n + 1) 0 σ ⟨hC, Fm.rf, by omega⟩ (by omega)

theorem vcp_step {σ : vS} {p0 p1 n : Nat} (h : p0 ≠ p1) : vup (vcp σ p0 p1 0 0 n) p1 n (vcp σ p0 p1 0 0 n p0 n) = vcp σ p0 p1 0 0 (n + 1) := by
  funext q j
  rw [vcp_ne h]
  by_cases hq : q = p1
  · subst hq
    by_cases hj : j = n
    · subst hj
      rw [vup_same, vcp0 (by omega)]
    · rw [vup_ne (by omega)]
      by_cases hl : j < n
      · rw [vcp0 hl, vcp0 (by omega)]
      · unfold vcp
        rw [if_neg (by omega), if_neg (by omega)]
  · rw [vup_p hq, vcp_p hq, vcp_p hq]
theorem vcp_0 {σ : vS} {p0 p1 : Nat} : vcp σ p0 p1 0 0 0 = σ := by
  funext q j
  unfold vcp
  rw [if_neg (by omega)]

set_option maxRecDepth 100000 in
set_option maxHeartbeats 4000000 in
theorem lp_M_thinks {G : vG} {d : Nat} {σ0 : vS} : ∀ (k : Nat) (i : Nat), i ≤ 107 → 107 - i < k → V G RX7 cX7_thinks none 2 d (fun r' σ' => r' = none ∧ σ' = vcp σ0 98 102 0 0 107) 2 [some (.ref 97), some (.int (nI i))] [] (vcp σ0 98 102 0 0 i) := by
  intro k
  induction k with
  | zero => intros; omega
  | succ k ih =>
    intro i hi hk
    refine V_iloadn_1 dX7_thinks_2 ?_
    refine V_bipush 107 dX7_thinks_3 (by decide) ?_
    refine V_icmpN_ge (a := i) (b := 107) dX7_thinks_5 26 (by decide) (by omega) (by omega) (fun h5 => ?_) (fun h5 => ?_)
    · exact V_vret dX7_thinks_26 ⟨rfl, by rw [show i = 107 by omega]⟩
    · refine V_aloadn_0 dX7_thinks_8 ?_
      refine V_getR dX7_thinks_9 fl_X7_22 oM_before ?_
      refine V_iloadn_1 dX7_thinks_12 ?_
      refine V_aloadn_0 dX7_thinks_13 ?_
      refine V_getR dX7_thinks_14 fl_X7_9 oM_now ?_
      refine V_iloadn_1 dX7_thinks_17 ?_
      refine V_iald (j := i) dX7_thinks_18 aM_now (by omega) (by decide) ?_
      refine V_iast (j := i) dX7_thinks_19 aM_before (by omega) (by decide) ?_
      refine V_iinc_1 dX7_thinks_20 (by first | exact rfl | exact True.intro) (by decide) (nI (i + 1)) (nI_inc _) ?_
      refine V_goto dX7_thinks_23 2 (by decide) ?_
      rw [vcp_step (by decide)]
      exact ih (i + 1) (by omega) (by omega)

set_option maxRecDepth 100000 in
set_option maxHeartbeats 4000000 in
theorem k_M_thinks {G : vG} {σ : vS} {d : Nat}  : Cf G yX7_thinks cX7_thinks 2 none d [.ref 97] σ none (vcp σ 98 102 0 0 107) := by
  refine Ct.ofV (by decide) (Nat.le_of_ble_eq_true rfl) rfl ?_
  show V G RX7 cX7_thinks none 2 d _ 0 [some (.ref 97), none] [] _
  refine V_iconst 0 dX7_thinks_0 (by decide) ?_
  refine V_istoren_1 dX7_thinks_1 (by first | exact rfl | exact True.intro) (by decide) ?_
  have := lp_M_thinks (G := G) (d := d) (σ0 := σ) 108 0 (by omega) (by omega)
  rw [vcp_0] at this
  exact this

set_option maxRecDepth 100000 in
set_option maxHeartbeats 4000000 in
theorem lp_M_putsBack {G : vG} {d : Nat} {σ0 : vS} : ∀ (k : Nat) (i : Nat), i ≤ 107 → 107 - i < k → V G RX7 cX7_putsBack none 2 d (fun r' σ' => r' = none ∧ σ' = vcp σ0 102 98 0 0 107) 2 [some (.ref 97), some (.int (nI i))] [] (vcp σ0 102 98 0 0 i) := by
  intro k
  induction k with
  | zero => intros; omega
  | succ k ih =>
    intro i hi hk
    refine V_iloadn_1 dX7_putsBack_2 ?_
    refine V_bipush 107 dX7_putsBack_3 (by decide) ?_
    refine V_icmpN_ge (a := i) (b := 107) dX7_putsBack_5 26 (by decide) (by omega) (by omega) (fun h5 => ?_) (fun h5 => ?_)
    · exact V_vret dX7_putsBack_26 ⟨rfl, by rw [show i = 107 by omega]⟩
    · refine V_aloadn_0 dX7_putsBack_8 ?_
      refine V_getR dX7_putsBack_9 fl_X7_9 oM_now ?_
      refine V_iloadn_1 dX7_putsBack_12 ?_
      refine V_aloadn_0 dX7_putsBack_13 ?_
      refine V_getR dX7_putsBack_14 fl_X7_22 oM_before ?_
      refine V_iloadn_1 dX7_putsBack_17 ?_
      refine V_iald (j := i) dX7_putsBack_18 aM_before (by omega) (by decide) ?_
      refine V_iast (j := i) dX7_putsBack_19 aM_now (by omega) (by decide) ?_
      refine V_iinc_1 dX7_putsBack_20 (by first | exact rfl | exact True.intro) (by decide) (nI (i + 1)) (nI_inc _) ?_
      refine V_goto dX7_putsBack_23 2 (by decide) ?_
      rw [vcp_step (by decide)]
      exact ih (i + 1) (by omega) (by omega)

set_option maxRecDepth 100000 in
set_option maxHeartbeats 4000000 in
theorem k_M_putsBack {G : vG} {σ : vS} {d : Nat}  : Cf G yX7_putsBack cX7_putsBack 2 none d [.ref 97] σ none (vcp σ 102 98 0 0 107) := by
  refine Ct.ofV (by decide) (Nat.le_of_ble_eq_true rfl) rfl ?_
  show V G RX7 cX7_putsBack none 2 d _ 0 [some (.ref 97), none] [] _
  refine V_iconst 0 dX7_putsBack_0 (by decide) ?_
  refine V_istoren_1 dX7_putsBack_1 (by first | exact rfl | exact True.intro) (by decide) ?_
  have := lp_M_putsBack (G := G) (d := d) (σ0 := σ) 108 0 (by omega) (by omega)
  rw [vcp_0] at this
  exact this

set_option maxRecDepth 100000 in
set_option maxHeartbeats 4000000 in
theorem lp_M_cp_nowAside {G : vG} {d : Nat} {σ0 : vS} : ∀ (k : Nat) (i : Nat), i ≤ 1479 → 1479 - i < k → V G RX7 cX7_copyAll none 3 d (fun r' σ' => r' = none ∧ σ' = vcp σ0 98 100 0 0 1479) 2 [some (.ref 98), some (.ref 100), some (.int (nI i))] [] (vcp σ0 98 100 0 0 i) := by
  intro k
  induction k with
  | zero => intros; omega
  | succ k ih =>
    intro i hi hk
    refine V_iloadn_2 dX7_copyAll_2 ?_
    refine V_sipush 1479 dX7_copyAll_3 (by decide) ?_
    refine V_icmpN_ge (a := i) (b := 1479) dX7_copyAll_6 21 (by decide) (by omega) (by omega) (fun h6 => ?_) (fun h6 => ?_)
    · exact V_vret dX7_copyAll_21 ⟨rfl, by rw [show i = 1479 by omega]⟩
    · refine V_aloadn_1 dX7_copyAll_9 ?_
      refine V_iloadn_2 dX7_copyAll_10 ?_
      refine V_aloadn_0 dX7_copyAll_11 ?_
      refine V_iloadn_2 dX7_copyAll_12 ?_
      refine V_iald (j := i) dX7_copyAll_13 aM_now (by omega) (by decide) ?_
      refine V_iast (j := i) dX7_copyAll_14 aM_aside (by omega) (by decide) ?_
      refine V_iinc_2 dX7_copyAll_15 (by first | exact rfl | exact True.intro) (by decide) (nI (i + 1)) (nI_inc _) ?_
      refine V_goto dX7_copyAll_18 2 (by decide) ?_
      rw [vcp_step (by decide)]
      exact ih (i + 1) (by omega) (by omega)

set_option maxRecDepth 100000 in
set_option maxHeartbeats 4000000 in
theorem k_M_cp_nowAside {G : vG} {σ : vS} {d : Nat}  : Cf G yX7_copyAll cX7_copyAll 3 none d [.ref 98, .ref 100] σ none (vcp σ 98 100 0 0 1479) := by
  refine Ct.ofV (by decide) (Nat.le_of_ble_eq_true rfl) rfl ?_
  show V G RX7 cX7_copyAll none 3 d _ 0 [some (.ref 98), some (.ref 100), none] [] _
  refine V_iconst 0 dX7_copyAll_0 (by decide) ?_
  refine V_istoren_2 dX7_copyAll_1 (by first | exact rfl | exact True.intro) (by decide) ?_
  have := lp_M_cp_nowAside (G := G) (d := d) (σ0 := σ) 1480 0 (by omega) (by omega)
  rw [vcp_0] at this
  exact this

set_option maxRecDepth 100000 in
set_option maxHeartbeats 4000000 in
theorem lp_M_cp_imageNow {G : vG} {d : Nat} {σ0 : vS} : ∀ (k : Nat) (i : Nat), i ≤ 1479 → 1479 - i < k → V G RX7 cX7_copyAll none 3 d (fun r' σ' => r' = none ∧ σ' = vcp σ0 99 98 0 0 1479) 2 [some (.ref 99), some (.ref 98), some (.int (nI i))] [] (vcp σ0 99 98 0 0 i) := by
  intro k
  induction k with
  | zero => intros; omega
  | succ k ih =>
    intro i hi hk
    refine V_iloadn_2 dX7_copyAll_2 ?_
    refine V_sipush 1479 dX7_copyAll_3 (by decide) ?_
    refine V_icmpN_ge (a := i) (b := 1479) dX7_copyAll_6 21 (by decide) (by omega) (by omega) (fun h6 => ?_) (fun h6 => ?_)
    · exact V_vret dX7_copyAll_21 ⟨rfl, by rw [show i = 1479 by omega]⟩
    · refine V_aloadn_1 dX7_copyAll_9 ?_
      refine V_iloadn_2 dX7_copyAll_10 ?_
      refine V_aloadn_0 dX7_copyAll_11 ?_
      refine V_iloadn_2 dX7_copyAll_12 ?_
      refine V_iald (j := i) dX7_copyAll_13 aM_image (by omega) (by decide) ?_
      refine V_iast (j := i) dX7_copyAll_14 aM_now (by omega) (by decide) ?_
      refine V_iinc_2 dX7_copyAll_15 (by first | exact rfl | exact True.intro) (by decide) (nI (i + 1)) (nI_inc _) ?_
      refine V_goto dX7_copyAll_18 2 (by decide) ?_
      rw [vcp_step (by decide)]
      exact ih (i + 1) (by omega) (by omega)

set_option maxRecDepth 100000 in
set_option maxHeartbeats 4000000 in
theorem k_M_cp_imageNow {G : vG} {σ : vS} {d : Nat}  : Cf G yX7_copyAll cX7_copyAll 3 none d [.ref 99, .ref 98] σ none (vcp σ 99 98 0 0 1479) := by
  refine Ct.ofV (by decide) (Nat.le_of_ble_eq_true rfl) rfl ?_
  show V G RX7 cX7_copyAll none 3 d _ 0 [some (.ref 99), some (.ref 98), none] [] _
  refine V_iconst 0 dX7_copyAll_0 (by decide) ?_
  refine V_istoren_2 dX7_copyAll_1 (by first | exact rfl | exact True.intro) (by decide) ?_
  have := lp_M_cp_imageNow (G := G) (d := d) (σ0 := σ) 1480 0 (by omega) (by omega)
  rw [vcp_0] at this
  exact this

set_option maxRecDepth 100000 in
set_option maxHeartbeats 4000000 in
theorem lp_M_cp_asideNow {G : vG} {d : Nat} {σ0 : vS} : ∀ (k : Nat) (i : Nat), i ≤ 1479 → 1479 - i < k → V G RX7 cX7_copyAll none 3 d (fun r' σ' => r' = none ∧ σ' = vcp σ0 100 98 0 0 1479) 2 [some (.ref 100), some (.ref 98), some (.int (nI i))] [] (vcp σ0 100 98 0 0 i) := by
  intro k
  induction k with
  | zero => intros; omega
  | succ k ih =>
    intro i hi hk
    refine V_iloadn_2 dX7_copyAll_2 ?_
    refine V_sipush 1479 dX7_copyAll_3 (by decide) ?_
    refine V_icmpN_ge (a := i) (b := 1479) dX7_copyAll_6 21 (by decide) (by omega) (by omega) (fun h6 => ?_) (fun h6 => ?_)
    · exact V_vret dX7_copyAll_21 ⟨rfl, by rw [show i = 1479 by omega]⟩
    · refine V_aloadn_1 dX7_copyAll_9 ?_
      refine V_iloadn_2 dX7_copyAll_10 ?_
      refine V_aloadn_0 dX7_copyAll_11 ?_
      refine V_iloadn_2 dX7_copyAll_12 ?_
      refine V_iald (j := i) dX7_copyAll_13 aM_aside (by omega) (by decide) ?_
      refine V_iast (j := i) dX7_copyAll_14 aM_now (by omega) (by decide) ?_
      refine V_iinc_2 dX7_copyAll_15 (by first | exact rfl | exact True.intro) (by decide) (nI (i + 1)) (nI_inc _) ?_
      refine V_goto dX7_copyAll_18 2 (by decide) ?_
      rw [vcp_step (by decide)]
      exact ih (i + 1) (by omega) (by omega)

set_option maxRecDepth 100000 in
set_option maxHeartbeats 4000000 in
theorem k_M_cp_asideNow {G : vG} {σ : vS} {d : Nat}  : Cf G yX7_copyAll cX7_copyAll 3 none d [.ref 100, .ref 98] σ none (vcp σ 100 98 0 0 1479) := by
  refine Ct.ofV (by decide) (Nat.le_of_ble_eq_true rfl) rfl ?_
  show V G RX7 cX7_copyAll none 3 d _ 0 [some (.ref 100), some (.ref 98), none] [] _
  refine V_iconst 0 dX7_copyAll_0 (by decide) ?_
  refine V_istoren_2 dX7_copyAll_1 (by first | exact rfl | exact True.intro) (by decide) ?_
  have := lp_M_cp_asideNow (G := G) (d := d) (σ0 := σ) 1480 0 (by omega) (by omega)
  rw [vcp_0] at this
  exact this

set_option maxRecDepth 100000 in
set_option maxHeartbeats 4000000 in
theorem lp_M_cp_nowImage {G : vG} {d : Nat} {σ0 : vS} : ∀ (k : Nat) (i : Nat), i ≤ 1479 → 1479 - i < k → V G RX7 cX7_copyAll none 3 d (fun r' σ' => r' = none ∧ σ' = vcp σ0 98 99 0 0 1479) 2 [some (.ref 98), some (.ref 99), some (.int (nI i))] [] (vcp σ0 98 99 0 0 i) := by
  intro k
  induction k with
  | zero => intros; omega
  | succ k ih =>
    intro i hi hk
    refine V_iloadn_2 dX7_copyAll_2 ?_
    refine V_sipush 1479 dX7_copyAll_3 (by decide) ?_
    refine V_icmpN_ge (a := i) (b := 1479) dX7_copyAll_6 21 (by decide) (by omega) (by omega) (fun h6 => ?_) (fun h6 => ?_)
    · exact V_vret dX7_copyAll_21 ⟨rfl, by rw [show i = 1479 by omega]⟩
    · refine V_aloadn_1 dX7_copyAll_9 ?_
      refine V_iloadn_2 dX7_copyAll_10 ?_
      refine V_aloadn_0 dX7_copyAll_11 ?_
      refine V_iloadn_2 dX7_copyAll_12 ?_
      refine V_iald (j := i) dX7_copyAll_13 aM_now (by omega) (by decide) ?_
      refine V_iast (j := i) dX7_copyAll_14 aM_image (by omega) (by decide) ?_
      refine V_iinc_2 dX7_copyAll_15 (by first | exact rfl | exact True.intro) (by decide) (nI (i + 1)) (nI_inc _) ?_
      refine V_goto dX7_copyAll_18 2 (by decide) ?_
      rw [vcp_step (by decide)]
      exact ih (i + 1) (by omega) (by omega)

set_option maxRecDepth 100000 in
set_option maxHeartbeats 4000000 in
theorem k_M_cp_nowImage {G : vG} {σ : vS} {d : Nat}  : Cf G yX7_copyAll cX7_copyAll 3 none d [.ref 98, .ref 99] σ none (vcp σ 98 99 0 0 1479) := by
  refine Ct.ofV (by decide) (Nat.le_of_ble_eq_true rfl) rfl ?_
  show V G RX7 cX7_copyAll none 3 d _ 0 [some (.ref 98), some (.ref 99), none] [] _
  refine V_iconst 0 dX7_copyAll_0 (by decide) ?_
  refine V_istoren_2 dX7_copyAll_1 (by first | exact rfl | exact True.intro) (by decide) ?_
  have := lp_M_cp_nowImage (G := G) (d := d) (σ0 := σ) 1480 0 (by omega) (by omega)
  rw [vcp_0] at this
  exact this

set_option maxRecDepth 100000 in
set_option maxHeartbeats 4000000 in
theorem k_M_becomes {G : vG} {σ : vS} {d : Nat} {j : Nat} {v : Int32} (hj : j < 1479) : Cf G yX7_becomes cX7_becomes 4 (some .int) d [.ref 97, .int (nI j), .int v] σ (some (.int (σ 98 j))) (vup σ 98 j v) := by
  refine Ct.ofV (by decide) (Nat.le_of_ble_eq_true rfl) rfl ?_
  show V G RX7 cX7_becomes (some .int) 4 d _ 0 [some (.ref 97), some (.int (nI j)), some (.int v), none] [] _
  refine V_aloadn_0 dX7_becomes_0 ?_
  refine V_getR dX7_becomes_1 fl_X7_9 oM_now ?_
  refine V_iloadn_1 dX7_becomes_4 ?_
  refine V_iald (j := j) dX7_becomes_5 aM_now (by omega) (by decide) ?_
  refine V_istoren_3 dX7_becomes_6 (by first | exact rfl | exact True.intro) (by decide) ?_
  refine V_aloadn_0 dX7_becomes_7 ?_
  refine V_getR dX7_becomes_8 fl_X7_9 oM_now ?_
  refine V_iloadn_1 dX7_becomes_11 ?_
  refine V_iloadn_2 dX7_becomes_12 ?_
  refine V_iast (j := j) dX7_becomes_13 aM_now (by omega) (by decide) ?_
  refine V_iloadn_3 dX7_becomes_14 ?_
  exact V_iret dX7_becomes_15 ⟨rfl, rfl⟩

set_option maxRecDepth 100000 in
set_option maxHeartbeats 4000000 in
theorem k_M_lays {G : vG} {σ : vS} {d : Nat} {p a b v : Nat} (hp : p < 13) : Cf G yX7_lays cX7_lays 6 none d [.ref 97, .int (nI p), .int (nI a), .int (nI b), .int (nI v)] σ none (vup (vup (vup (vup σ 98 (55 + 4 * p) (nI a)) 98 (55 + 4 * p + 1) (nI b)) 98 (55 + 4 * p + 2) (nI v)) 98 (55 + 4 * p + 3) 0) := by
  refine Ct.ofV (by decide) (Nat.le_of_ble_eq_true rfl) rfl ?_
  show V G RX7 cX7_lays none 6 d _ 0 [some (.ref 97), some (.int (nI p)), some (.int (nI a)), some (.int (nI b)), some (.int (nI v)), none] [] _
  refine V_bipush 55 dX7_lays_0 (by decide) ?_
  refine V_iconst 4 dX7_lays_2 (by decide) ?_
  refine V_iloadn_1 dX7_lays_3 ?_
  refine V_imulN (a := 4) (b := p) dX7_lays_4 ?_
  refine V_iaddN (a := 55) (b := 4 * p) dX7_lays_5 ?_
  refine V_istore_5 dX7_lays_6 (by first | exact rfl | exact True.intro) (by decide) ?_
  refine V_aloadn_0 dX7_lays_8 ?_
  refine V_getR dX7_lays_9 fl_X7_9 oM_now ?_
  refine V_iload_5 dX7_lays_12 ?_
  refine V_iloadn_2 dX7_lays_14 ?_
  refine V_iast (j := 55 + (4 * p)) dX7_lays_15 aM_now (by omega) (by decide) ?_
  refine V_aloadn_0 dX7_lays_16 ?_
  refine V_getR dX7_lays_17 fl_X7_9 oM_now ?_
  refine V_iload_5 dX7_lays_20 ?_
  refine V_iconst 1 dX7_lays_22 (by decide) ?_
  refine V_iaddN (a := 55 + (4 * p)) (b := 1) dX7_lays_23 ?_
  refine V_iloadn_3 dX7_lays_24 ?_
  refine V_iast (j := (55 + (4 * p)) + 1) dX7_lays_25 aM_now (by omega) (by decide) ?_
  refine V_aloadn_0 dX7_lays_26 ?_
  refine V_getR dX7_lays_27 fl_X7_9 oM_now ?_
  refine V_iload_5 dX7_lays_30 ?_
  refine V_iconst 2 dX7_lays_32 (by decide) ?_
  refine V_iaddN (a := 55 + (4 * p)) (b := 2) dX7_lays_33 ?_
  refine V_iload_4 dX7_lays_34 ?_
  refine V_iast (j := (55 + (4 * p)) + 2) dX7_lays_36 aM_now (by omega) (by decide) ?_
  refine V_aloadn_0 dX7_lays_37 ?_
  refine V_getR dX7_lays_38 fl_X7_9 oM_now ?_
  refine V_iload_5 dX7_lays_41 ?_
  refine V_iconst 3 dX7_lays_43 (by decide) ?_
  refine V_iaddN (a := 55 + (4 * p)) (b := 3) dX7_lays_44 ?_
  refine V_iconst 0 dX7_lays_45 (by decide) ?_
  refine V_iast (j := (55 + (4 * p)) + 3) dX7_lays_46 aM_now (by omega) (by decide) ?_
  exact V_vret dX7_lays_47 ⟨rfl, rfl⟩

set_option maxRecDepth 100000 in
set_option maxHeartbeats 4000000 in
theorem k_M_told0 {G : vG} {σ : vS} {d : Nat} {v : Int32} : Cf G yX7_told0 cX7_told0 1 (some .int) d [.int v] σ (some (.int (if v < 0 then -1000000005 else v))) σ := by
  refine Ct.ofV (by decide) (Nat.le_of_ble_eq_true rfl) rfl ?_
  show V G RX7 cX7_told0 (some .int) 1 d _ 0 [some (.int v)] [] _
  refine V_iloadn_0 dX7_told0_0 ?_
  refine V_if_ge dX7_told0_1 9 (by decide) (fun h1 => ?_) (fun h1 => ?_)
  · refine V_iloadn_0 dX7_told0_9 ?_
    exact V_iret dX7_told0_10 ⟨rI (by first | rw [if_neg (Int32.not_lt.mpr h1)] | rw [if_pos (Int32.not_le.mp h1)]), rfl⟩
  · refine V_ldc (-1000000005) dX7_told0_4 cn_X7_81 ?_
    refine V_goto dX7_told0_6 10 (by decide) ?_
    exact V_iret dX7_told0_10 ⟨rI (by first | rw [if_neg (Int32.not_lt.mpr h1)] | rw [if_pos (Int32.not_le.mp h1)]), rfl⟩

set_option maxRecDepth 100000 in
set_option maxHeartbeats 4000000 in
theorem k_M_comes {G : vG} {σ : vS} {d : Nat} {L T : nT} (hC : MC L T σ) {k f l : Nat} (hn8 : T 0 5 < 8) (hk : k ≤ 5) (hf : f ≤ 99) (hl : 1 ≤ l ∧ l ≤ 99) : Cr G yX7_comes cX7_comes 7 (some .int) d [.ref 97, .int (nI k), .int (nI f), .int (nI l)] σ (some (.int (nI (T 0 5)))) (fun σ' => MC L (addCT T k f l) σ' ∧ Fm σ σ') := by
  refine Ct.ofV (by decide) (Nat.le_of_ble_eq_true rfl) rfl ?_
  show V G RX7 cX7_comes (some .int) 7 d _ 0 [some (.ref 97), some (.int (nI k)), some (.int (nI f)), some (.int (nI l)), none, none, none] [] _
  have hI := hC.2.2.1
  have hn := hI.nc
  have hm := hI.np
  have e5 := addC_5 (T := T) (k := k) (f := f) (l := l)
  refine V_aloadn_0 dX7_comes_0 ?_
  refine V_getR dX7_comes_1 fl_X7_9 oM_now ?_
  refine V_iconst 1 dX7_comes_4 (by decide) ?_
  refine V_iald (j := 1) dX7_comes_5 aM_now (by decide) (by decide) ?_
  refine V_topi hC.1.s1 ?_
  refine V_istore_4 dX7_comes_6 (by first | exact rfl | exact True.intro) (by decide) ?_
  refine V_bipush 7 dX7_comes_8 (by decide) ?_
  refine V_bipush 6 dX7_comes_10 (by decide) ?_
  refine V_iload_4 dX7_comes_12 ?_
  refine V_imulN (a := 6) (b := T 0 5) dX7_comes_14 ?_
  refine V_iaddN (a := 7) (b := 6 * (T 0 5)) dX7_comes_15 ?_
  refine V_istore_5 dX7_comes_16 (by first | exact rfl | exact True.intro) (by decide) ?_
  refine V_iconst 0 dX7_comes_18 (by decide) ?_
  refine V_istore_6 dX7_comes_19 (by first | exact rfl | exact True.intro) (by decide) ?_
  refine V_iload_6 dX7_comes_21 ?_
  refine V_bipush 6 dX7_comes_23 (by decide) ?_
  refine V_icmp_ge_f dX7_comes_25 45 (by decide) (by decide) ?_
  refine V_aloadn_0 dX7_comes_28 ?_
  refine V_getR dX7_comes_29 fl_X7_9 oM_now ?_
  refine V_iload_5 dX7_comes_32 ?_
  refine V_iload_6 dX7_comes_34 ?_
  refine V_iaddN (a := 7 + (6 * (T 0 5))) (b := 0) dX7_comes_36 ?_
  refine V_iconst 0 dX7_comes_37 (by decide) ?_
  refine V_iast (j := (7 + (6 * (T 0 5))) + 0) dX7_comes_38 aM_now (by omega) (by decide) ?_
  refine V_iinc_6 dX7_comes_39 (by first | exact rfl | exact True.intro) (by decide) 1 (by decide) ?_
  refine V_goto dX7_comes_42 21 (by decide) ?_
  refine V_iload_6 dX7_comes_21 ?_
  refine V_bipush 6 dX7_comes_23 (by decide) ?_
  refine V_icmp_ge_f dX7_comes_25 45 (by decide) (by decide) ?_
  refine V_aloadn_0 dX7_comes_28 ?_
  refine V_getR dX7_comes_29 fl_X7_9 oM_now ?_
  refine V_iload_5 dX7_comes_32 ?_
  refine V_iload_6 dX7_comes_34 ?_
  refine V_iaddN (a := 7 + (6 * (T 0 5))) (b := 1) dX7_comes_36 ?_
  refine V_iconst 0 dX7_comes_37 (by decide) ?_
  refine V_iast (j := (7 + (6 * (T 0 5))) + 1) dX7_comes_38 aM_now (by omega) (by decide) ?_
  refine V_iinc_6 dX7_comes_39 (by first | exact rfl | exact True.intro) (by decide) 2 (by decide) ?_
  refine V_goto dX7_comes_42 21 (by decide) ?_
  refine V_iload_6 dX7_comes_21 ?_
  refine V_bipush 6 dX7_comes_23 (by decide) ?_
  refine V_icmp_ge_f dX7_comes_25 45 (by decide) (by decide) ?_
  refine V_aloadn_0 dX7_comes_28 ?_
  refine V_getR dX7_comes_29 fl_X7_9 oM_now ?_
  refine V_iload_5 dX7_comes_32 ?_
  refine V_iload_6 dX7_comes_34 ?_
  refine V_iaddN (a := 7 + (6 * (T 0 5))) (b := 2) dX7_comes_36 ?_
  refine V_iconst 0 dX7_comes_37 (by decide) ?_
  refine V_iast (j := (7 + (6 * (T 0 5))) + 2) dX7_comes_38 aM_now (by omega) (by decide) ?_
  refine V_iinc_6 dX7_comes_39 (by first | exact rfl | exact True.intro) (by decide) 3 (by decide) ?_
  refine V_goto dX7_comes_42 21 (by decide) ?_
  refine V_iload_6 dX7_comes_21 ?_
  refine V_bipush 6 dX7_comes_23 (by decide) ?_
  refine V_icmp_ge_f dX7_comes_25 45 (by decide) (by decide) ?_
  refine V_aloadn_0 dX7_comes_28 ?_
  refine V_getR dX7_comes_29 fl_X7_9 oM_now ?_
  refine V_iload_5 dX7_comes_32 ?_
  refine V_iload_6 dX7_comes_34 ?_
  refine V_iaddN (a := 7 + (6 * (T 0 5))) (b := 3) dX7_comes_36 ?_
  refine V_iconst 0 dX7_comes_37 (by decide) ?_
  refine V_iast (j := (7 + (6 * (T 0 5))) + 3) dX7_comes_38 aM_now (by omega) (by decide) ?_
  refine V_iinc_6 dX7_comes_39 (by first | exact rfl | exact True.intro) (by decide) 4 (by decide) ?_
  refine V_goto dX7_comes_42 21 (by decide) ?_
  refine V_iload_6 dX7_comes_21 ?_
  refine V_bipush 6 dX7_comes_23 (by decide) ?_
  refine V_icmp_ge_f dX7_comes_25 45 (by decide) (by decide) ?_
  refine V_aloadn_0 dX7_comes_28 ?_
  refine V_getR dX7_comes_29 fl_X7_9 oM_now ?_
  refine V_iload_5 dX7_comes_32 ?_
  refine V_iload_6 dX7_comes_34 ?_
  refine V_iaddN (a := 7 + (6 * (T 0 5))) (b := 4) dX7_comes_36 ?_
  refine V_iconst 0 dX7_comes_37 (by decide) ?_
  refine V_iast (j := (7 + (6 * (T 0 5))) + 4) dX7_comes_38 aM_now (by omega) (by decide) ?_
  refine V_iinc_6 dX7_comes_39 (by first | exact rfl | exact True.intro) (by decide) 5 (by decide) ?_
  refine V_goto dX7_comes_42 21 (by decide) ?_
  refine V_iload_6 dX7_comes_21 ?_
  refine V_bipush 6 dX7_comes_23 (by decide) ?_
  refine V_icmp_ge_f dX7_comes_25 45 (by decide) (by decide) ?_
  refine V_aloadn_0 dX7_comes_28 ?_
  refine V_getR dX7_comes_29 fl_X7_9 oM_now ?_
  refine V_iload_5 dX7_comes_32 ?_
  refine V_iload_6 dX7_comes_34 ?_
  refine V_iaddN (a := 7 + (6 * (T 0 5))) (b := 5) dX7_comes_36 ?_
  refine V_iconst 0 dX7_comes_37 (by decide) ?_
  refine V_iast (j := (7 + (6 * (T 0 5))) + 5) dX7_comes_38 aM_now (by omega) (by decide) ?_
  refine V_iinc_6 dX7_comes_39 (by first | exact rfl | exact True.intro) (by decide) 6 (by decide) ?_
  refine V_goto dX7_comes_42 21 (by decide) ?_
  refine V_iload_6 dX7_comes_21 ?_
  refine V_bipush 6 dX7_comes_23 (by decide) ?_
  refine V_icmp_ge_t dX7_comes_25 45 (by decide) (by decide) ?_
  refine V_aloadn_0 dX7_comes_45 ?_
  refine V_getR dX7_comes_46 fl_X7_9 oM_now ?_
  refine V_iload_5 dX7_comes_49 ?_
  refine V_iloadn_1 dX7_comes_51 ?_
  refine V_iast (j := 7 + (6 * (T 0 5))) dX7_comes_52 aM_now (by omega) (by decide) ?_
  refine V_aloadn_0 dX7_comes_53 ?_
  refine V_getR dX7_comes_54 fl_X7_9 oM_now ?_
  refine V_iload_5 dX7_comes_57 ?_
  refine V_iconst 1 dX7_comes_59 (by decide) ?_
  refine V_iaddN (a := 7 + (6 * (T 0 5))) (b := 1) dX7_comes_60 ?_
  refine V_iloadn_2 dX7_comes_61 ?_
  refine V_iast (j := (7 + (6 * (T 0 5))) + 1) dX7_comes_62 aM_now (by omega) (by decide) ?_
  refine V_aloadn_0 dX7_comes_63 ?_
  refine V_getR dX7_comes_64 fl_X7_9 oM_now ?_
  refine V_iload_5 dX7_comes_67 ?_
  refine V_iconst 2 dX7_comes_69 (by decide) ?_
  refine V_iaddN (a := 7 + (6 * (T 0 5))) (b := 2) dX7_comes_70 ?_
  refine V_iloadn_3 dX7_comes_71 ?_
  refine V_iast (j := (7 + (6 * (T 0 5))) + 2) dX7_comes_72 aM_now (by omega) (by decide) ?_
  refine V_aloadn_0 dX7_comes_73 ?_
  refine V_getR dX7_comes_74 fl_X7_9 oM_now ?_
  refine V_iconst 1 dX7_comes_77 (by decide) ?_
  refine V_dup2 dX7_comes_78 rfl rfl ?_
  refine V_iald (j := 1) dX7_comes_79 aM_now (by decide) (by decide) ?_
  refine V_topi (y := nI (T 0 5)) (by (repeat rw [vup_ne (by omega)]); exact hC.1.s1) ?_
  refine V_iconst 1 dX7_comes_80 (by decide) ?_
  refine V_iaddN (a := T 0 5) (b := 1) dX7_comes_81 ?_
  refine V_iast (j := 1) dX7_comes_82 aM_now (by decide) (by decide) ?_
  refine V_abs (fun σ1 => Fm σ σ1 ∧ MA 98 (addCT T k f l) σ1) ⟨⟨fun q g1 g2 g3 g4 => ?_, fun j hj => ?_⟩, ⟨?_, ?_, ?_, ?_, ?_, ?_, ?_⟩, fun c hc => ?_, fun p hp => ?_⟩ (fun σ1 h1 => ?_)
  · repeat rw [vup_p g1]
  · repeat rw [vup_ne (by omega)]
  · (repeat rw [vup_ne (by omega)]); rw [addC_0 (by decide)]; exact hC.1.s0
  · rw [vup_same, e5]
  · (repeat rw [vup_ne (by omega)]); rw [addC_0 (by decide)]; exact hC.1.s2
  · (repeat rw [vup_ne (by omega)]); rw [addC_0 (by decide)]; exact hC.1.s3
  · (repeat rw [vup_ne (by omega)]); rw [addC_0 (by decide)]; exact hC.1.s4
  · (repeat rw [vup_ne (by omega)]); rw [addC_0 (by decide)]; exact hC.1.s5
  · (repeat rw [vup_ne (by omega)]); rw [addC_0 (by decide)]; exact hC.1.s6
  · rw [e5] at hc
    by_cases e : c = T 0 5
    · subst e
      obtain ⟨e1, e2, e3⟩ := addC_new (T := T) (k := k) (f := f) (l := l)
      rw [e1, e2, e3]
      refine ⟨?_, ?_, ?_, fun s hs => ?_⟩
      · (repeat rw [vup_ne (by omega)]); exact vup_same
      · repeat (first | rw [vup_same] | rw [vup_ne (by omega)])
      · repeat (first | rw [vup_same] | rw [vup_ne (by omega)])
      · rw [addC_w0 hs]
        rcases (show s = 0 ∨ s = 1 ∨ s = 2 by omega) with rfl | rfl | rfl
        · (repeat (first | rw [vup_same] | rw [vup_ne (by omega)])); rfl
        · (repeat (first | rw [vup_same] | rw [vup_ne (by omega)])); rfl
        · (repeat (first | rw [vup_same] | rw [vup_ne (by omega)])); rfl
    · obtain ⟨e1, e2, e3⟩ := addC_old (T := T) (k := k) (f := f) (l := l) e
      rw [e1, e2, e3]
      refine ⟨?_, ?_, ?_, fun s hs => ?_⟩
      · (repeat rw [vup_ne (by omega)]); exact hC.1.c1 (by omega)
      · (repeat rw [vup_ne (by omega)]); exact hC.1.c2 (by omega)
      · (repeat rw [vup_ne (by omega)]); exact hC.1.c3 (by omega)
      · (repeat rw [vup_ne (by omega)]); rw [addC_w (by omega)]; exact hC.1.w (by omega) hs
  · rw [addC_0 (by decide)] at hp
    rw [addC_k (by decide), addC_k (by decide), addC_k (by decide), addC_k (by decide)]
    refine ⟨?_, ?_, ?_, ?_⟩
    · (repeat rw [vup_ne (by omega)]); exact hC.1.p6 hp
    · (repeat rw [vup_ne (by omega)]); exact hC.1.p7 hp
    · (repeat rw [vup_ne (by omega)]); exact hC.1.p8 hp
    · (repeat rw [vup_ne (by omega)]); exact hC.1.p9 hp
  refine V_iload_4 dX7_comes_83 ?_
  exact V_iret dX7_comes_85 ⟨rfl, hC.next h1.1 h1.2 (hI.addC hn8 hk hf hl) (addC_0 (by decide)) (fun _ => addC_k (by decide)), h1.1⟩
