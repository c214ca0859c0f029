/-! ===== check ===== -/
theorem TC.fq {L T : nT} {N t : Nat} {σ σ' : vS} (h : TC L N t T σ) (hq : ∀ q, ((9 ≤ q ∧ q ≤ 36) ∨ (t ≤ q ∧ q ≤ t + 10)) → σ' q = σ q) : TC L N t T σ' := by
  obtain ⟨h1, h2, h3, h4, h5, h6, h7⟩ := h
  exact ⟨h1, h2.congr (fun q a b => hq q (by omega)), h3, h4.congr h7 (fun q a b => hq q (by omega)), h5, h6, h7⟩
theorem FI.up2 {σ σ' : vS} {p k : Nat} {v : Int32} (h : FI σ σ') : FI (vup σ p k v) (vup σ' p k v) := fun q j hr => by
  by_cases e : q = p ∧ j = k
  · rw [e.1, e.2, vup_same, vup_same]
  · rw [vup_ne e, vup_ne e]; exact h q j hr
theorem Inv.of0 {i : Nat} {σ σ' : vS} (h : Inv i σ) (hq : ∀ q, q ≠ 0 → q ≠ 1 → q ≠ 4 → q ≠ 7 → q ≠ 97 → q ≠ 104 → q ≠ 120 → σ' q = σ q) (h0 : σ' 0 3 = σ 0 3) (h97 : σ' 97 3 = σ 97 3) (hW : IW σ') (hR : IR σ') : Inv i σ' := by
  obtain ⟨L, T, I, b, h1, h2, h3, h4, h5, h6, h7, h8⟩ := h
  exact ⟨L, T, I, b, h1.fq (fun q a => hq q (by omega) (by omega) (by omega) (by omega) (by omega) (by omega) (by omega)), h2.fq h0 h97, fun e => (h3 e).fq (fun q a => hq q (by omega) (by omega) (by omega) (by omega) (by omega) (by omega) (by omega)),
    h4.fq (fun q a => hq q (by omega) (by omega) (by omega) (by omega) (by omega) (by omega) (by omega)), h5.fq (fun q a => hq q (by omega) (by omega) (by omega) (by omega) (by omega) (by omega) (by omega)), hW, hR,
    h8.fq (hq 105 (by decide) (by decide) (by decide) (by decide) (by decide) (by decide) (by decide)) (hq 106 (by decide) (by decide) (by decide) (by decide) (by decide) (by decide) (by decide))⟩
theorem Inv.w0 {i : Nat} {σ σ1 σ2 : vS} (h : Inv i σ) (h1 : FI (vup σ 0 9 0) σ1) (h2 : FI (vup σ1 97 34 0) σ2) : Inv (i + 1) σ2 := by
  obtain ⟨L, T, I, b, g1, g2, g3, g4, g5, g6, g7, g8⟩ := id h
  have h3 : Inv i (vup (vup σ 0 9 0) 97 34 0) := by
    refine h.of0 (fun q _ _ _ _ _ _ _ => by rw [vup_p (by assumption), vup_p (by assumption)]) (by rw [vup_ne (by omega), vup_ne (by omega)]) (by rw [vup_ne (by omega), vup_ne (by omega)]) ?_ (g7.fq (by rw [vup_ne (by omega), vup_ne (by omega)]) (by rw [vup_ne (by omega), vup_ne (by omega)]) (by rw [vup_p (by decide), vup_p (by decide)]) (by rw [vup_p (by decide), vup_p (by decide)]))
    exact ⟨0, by decide, by rw [vup_ne (by omega), vup_same]; rfl, by rw [vup_same]; rfl, fun j hj => absurd hj (Nat.not_lt_zero j)⟩
  exact h3.fi ((FI.up2 h1).tr h2)
def chF (L I : nT) (w : Nat → Int32) (m : Nat) : Nat → Nat → Nat
  | 0, k => if 2 * k < m then 1 + 2 * k else 0
  | r + 1, k => if 2 * k < m ∧ w (2 * k) = nI (sumT (hoursT L (k + 1) I) (hoursT L (k + 1) I 0 5)) then
      (if 2 * k + 1 < m ∧ w (2 * k + 1) = nI (hoursT L (k + 1) I 0 11) then chF L I w m r (k + 1) else 2 + 2 * k) else 1 + 2 * k
section CH
variable {L I : nT} {w : Nat → Int32} {m H k R : Nat}
theorem ch_s (h : chF L I w m (H - k) k = R) (hk : k < H) : (if 2 * k < m ∧ w (2 * k) = nI (sumT (hoursT L (k + 1) I) (hoursT L (k + 1) I 0 5)) then
      (if 2 * k + 1 < m ∧ w (2 * k + 1) = nI (hoursT L (k + 1) I 0 11) then chF L I w m (H - (k + 1)) (k + 1) else 2 + 2 * k) else 1 + 2 * k) = R := by
  rw [show H - k = H - (k + 1) + 1 by omega] at h
  exact h
theorem ch_a (h : chF L I w m (H - k) k = R) (hk : k < H) (hn : ¬ (2 * k < m ∧ w (2 * k) = nI (sumT (hoursT L (k + 1) I) (hoursT L (k + 1) I 0 5)))) : R = 1 + 2 * k := by
  rw [← ch_s h hk, if_neg hn]
theorem ch_b (h : chF L I w m (H - k) k = R) (hk : k < H) (h1 : 2 * k < m ∧ w (2 * k) = nI (sumT (hoursT L (k + 1) I) (hoursT L (k + 1) I 0 5))) (hn : ¬ (2 * k + 1 < m ∧ w (2 * k + 1) = nI (hoursT L (k + 1) I 0 11))) : R = 2 + 2 * k := by
  rw [← ch_s h hk, if_pos h1, if_neg hn]
theorem ch_c (h : chF L I w m (H - k) k = R) (hk : k < H) (h1 : 2 * k < m ∧ w (2 * k) = nI (sumT (hoursT L (k + 1) I) (hoursT L (k + 1) I 0 5))) (h2 : 2 * k + 1 < m ∧ w (2 * k + 1) = nI (hoursT L (k + 1) I 0 11)) : chF L I w m (H - (k + 1)) (k + 1) = R := by
  rw [← ch_s h hk, if_pos h1, if_pos h2]
theorem ch_e (h : chF L I w m (H - k) k = R) (hk : H ≤ k) : R = if 2 * k < m then 1 + 2 * k else 0 := by
  rw [show H - k = 0 by omega] at h
  exact h.symm
end CH

set_option maxRecDepth 100000 in
set_option maxHeartbeats 4000000 in
theorem k_C_waits {G : vG} {σ : vS} {d : Nat} {p m : Nat} {v : Int32} (hp : p < 2 ^ 31) (hm60 : m ≤ 60) : Cf G yX6_waits cX6_waits 4 (some .boolean) d [.ref 0, .int (nI p), .int (nI m), .int v] σ (some (.int (bI (p < m ∧ σ 7 p = v)))) σ := by
  refine Ct.ofV (by decide) (Nat.le_of_ble_eq_true rfl) rfl ?_
  show V G RX6 cX6_waits (some .boolean) 4 d _ 0 [some (.ref 0), some (.int (nI p)), some (.int (nI m)), some (.int v)] [] _
  refine V_iloadn_1 dX6_waits_0 ?_
  refine V_iloadn_2 dX6_waits_1 ?_
  refine V_icmpN_ge (a := p) (b := m) dX6_waits_2 19 (by decide) (by omega) (by omega) (fun h2 => ?_) (fun h2 => ?_)
  · refine V_iconst 0 dX6_waits_19 (by decide) ?_
    exact V_zret dX6_waits_20 (by decide) ⟨rB0 (fun q => absurd q.1 (by omega)), rfl⟩
  · refine V_aloadn_0 dX6_waits_5 ?_
    refine V_getR dX6_waits_6 fl_X6_28 oC_waiting ?_
    refine V_iloadn_1 dX6_waits_9 ?_
    refine V_iald (j := p) dX6_waits_10 aC_waiting (by omega) (by decide) ?_
    refine V_iloadn_3 dX6_waits_11 ?_
    refine V_icmp_ne dX6_waits_12 19 (by decide) (fun h12 => ?_) (fun h12 => ?_)
    · refine V_iconst 0 dX6_waits_19 (by decide) ?_
      exact V_zret dX6_waits_20 (by decide) ⟨rB0 (fun q => h12 q.2), rfl⟩
    · refine V_iconst 1 dX6_waits_15 (by decide) ?_
      refine V_goto dX6_waits_16 20 (by decide) ?_
      exact V_zret dX6_waits_20 (by decide) ⟨rB1 ⟨h2, h12⟩, rfl⟩

set_option maxRecDepth 100000 in
set_option maxHeartbeats 4000000 in
theorem lp_c_check {G : vG} {d : Nat} {σ0 : vS} {L I : nT} {N n m H R : Nat} (hd : 5 ≤ d + 1) (hm60 : m ≤ 60) (hH : H ≤ 30) : ∀ (k : Nat) (k1 : Nat) (σ : vS), (TC L N 85 (hoursT L k1 I) σ ∧ Fr 85 σ0 σ ∧ k1 ≤ H ∧ chF L I (σ0 7) m (H - k1) k1 = R) → H - k1 < k → V G RX6 cX6_check (some .int) 5 (d + 1) (fun r' σ' => r' = some (.int (nI R)) ∧ Fr 85 σ0 σ') 64 [some (.ref 0), some (.int (nI n)), some (.int (nI m)), some (.int (nI H)), some (.int (nI k1))] [] σ := by
  intro k
  induction k with
  | zero => intros; omega
  | succ k ih =>
    intro k1 σ hh hk
    obtain ⟨hP, hF, hkH, hR⟩ := hh
    refine V_iload_4 dX6_check_64 ?_
    refine V_iloadn_3 dX6_check_66 ?_
    refine V_icmpN_ge (a := k1) (b := H) dX6_check_67 137 (by decide) (by omega) (by omega) (fun h67 => ?_) (fun h67 => ?_)
    · refine V_iloadn_2 dX6_check_137 ?_
      refine V_iconst 2 dX6_check_138 (by decide) ?_
      refine V_iloadn_3 dX6_check_139 ?_
      refine V_imulN (a := 2) (b := H) dX6_check_140 ?_
      refine V_icmpN_le (a := m) (b := 2 * H) dX6_check_141 152 (by decide) (by omega) (by omega) (fun h141 => ?_) (fun h141 => ?_)
      · refine V_iconst 0 dX6_check_152 (by decide) ?_
        exact V_iret dX6_check_153 ⟨rI (by rw [ch_e hR (by omega), if_neg (by omega)]; rfl), hF⟩
      · refine V_iconst 1 dX6_check_144 (by decide) ?_
        refine V_iconst 2 dX6_check_145 (by decide) ?_
        refine V_iloadn_3 dX6_check_146 ?_
        refine V_imulN (a := 2) (b := H) dX6_check_147 ?_
        refine V_iaddN (a := 1) (b := 2 * H) dX6_check_148 ?_
        refine V_goto dX6_check_149 153 (by decide) ?_
        exact V_iret dX6_check_153 ⟨rI (by rw [ch_e hR (by omega), show H = k1 by omega, if_pos (by omega)]), hF⟩
    · refine V_aloadn_0 dX6_check_70 ?_
      refine V_getR dX6_check_71 fl_X6_53 oC_thought ?_
      refine V_cv0n dX6_check_74 cv_X6_186 (rcT tw85) (Nat.le_of_ble_eq_true rfl) (k_T_oneHour (by omega) hP) (fun σ h9 => ?_)
      replace hF := hF.tr h9.2
      have hQ : TC L N 85 (hoursT L (k1 + 1) I) _ := h9.1
      obtain ⟨U, hUe⟩ : ∃ U, U = hoursT L (k1 + 1) I := ⟨_, rfl⟩
      rw [← hUe] at hQ
      have hU := hQ.2.1.1
      have hIU := hQ.2.2.1
      have e7 : _ = σ0 7 := hF 7 (by omega) (by omega)
      refine V_aloadn_0 dX6_check_77 ?_
      refine V_iconst 2 dX6_check_78 (by decide) ?_
      refine V_iload_4 dX6_check_79 ?_
      refine V_imulN (a := 2) (b := k1) dX6_check_81 ?_
      refine V_iloadn_2 dX6_check_82 ?_
      refine V_aloadn_0 dX6_check_83 ?_
      refine V_getR dX6_check_84 fl_X6_53 oC_thought ?_
      refine V_cv0f dX6_check_87 cv_X6_173 (rcT tw85) (Nat.le_of_ble_eq_true rfl) (k_T_fullOfAll (by omega) tw85 hU hIU) ?_
      refine V_cv3f dX6_check_90 cv_X6_319 rcC (Nat.le_of_ble_eq_true rfl) (k_C_waits (by omega) hm60) ?_
      refine V_ifB_ne dX6_check_93 103 (by decide) (fun h93 => ?_) (fun h93 => ?_)
      · have c1 : 2 * k1 < m ∧ σ0 7 (2 * k1) = nI (sumT (hoursT L (k1 + 1) I) (hoursT L (k1 + 1) I 0 5)) := by rw [← hUe, ← e7]; exact h93
        refine V_aloadn_0 dX6_check_103 ?_
        refine V_iconst 2 dX6_check_104 (by decide) ?_
        refine V_iload_4 dX6_check_105 ?_
        refine V_imulN (a := 2) (b := k1) dX6_check_107 ?_
        refine V_iconst 1 dX6_check_108 (by decide) ?_
        refine V_iaddN (a := 2 * k1) (b := 1) dX6_check_109 ?_
        refine V_iloadn_2 dX6_check_110 ?_
        refine V_aloadn_0 dX6_check_111 ?_
        refine V_getR dX6_check_112 fl_X6_53 oC_thought ?_
        refine V_getI dX6_check_115 fl_X6_164 (oT_spilt tw85) ?_
        refine V_topi hU.n11 ?_
        refine V_cv3f dX6_check_118 cv_X6_319 rcC (Nat.le_of_ble_eq_true rfl) (k_C_waits (by omega) hm60) ?_
        refine V_ifB_ne dX6_check_121 131 (by decide) (fun h121 => ?_) (fun h121 => ?_)
        · refine V_iinc_4 dX6_check_131 (by first | exact rfl | exact True.intro) (by decide) (nI (k1 + 1)) (nI_inc _) ?_
          refine V_goto dX6_check_134 64 (by decide) ?_
          exact ih (k1 + 1) _ ⟨by rw [hUe] at hQ; exact hQ, hF, by omega, ch_c hR h67 c1 (by rw [← hUe, ← e7]; exact h121)⟩ (by omega)
        · refine V_iconst 2 dX6_check_124 (by decide) ?_
          refine V_iconst 2 dX6_check_125 (by decide) ?_
          refine V_iload_4 dX6_check_126 ?_
          refine V_imulN (a := 2) (b := k1) dX6_check_128 ?_
          refine V_iaddN (a := 2) (b := 2 * k1) dX6_check_129 ?_
          exact V_iret dX6_check_130 ⟨rN (ch_b hR h67 c1 (by rw [← hUe, ← e7]; exact h121)).symm, hF⟩
      · refine V_iconst 1 dX6_check_96 (by decide) ?_
        refine V_iconst 2 dX6_check_97 (by decide) ?_
        refine V_iload_4 dX6_check_98 ?_
        refine V_imulN (a := 2) (b := k1) dX6_check_100 ?_
        refine V_iaddN (a := 1) (b := 2 * k1) dX6_check_101 ?_
        exact V_iret dX6_check_102 ⟨rN (ch_a hR h67 (by rw [← hUe, ← e7]; exact h93)).symm, hF⟩

set_option maxRecDepth 100000 in
set_option maxHeartbeats 4000000 in
theorem c_check {G : vG} {σ : vS} {d : Nat} (hd : 5 ≤ d) {L I : nT} {N : Nat} (hC : TC L N 73 I σ) (hm12 : I 0 10 ≤ 12) (h13 : I 0 13 ≤ 9999) (h3 : σ 0 3 = nI 1) {n m : Nat} (hn : 1 ≤ n ∧ n ≤ 30) (hm60 : m ≤ 60) (h9 : σ 0 9 = nI m) : Cr G yX6_check cX6_check 5 (some .int) d [.ref 0, .int (nI n)] σ (some (.int (nI (chF L I (σ 7) m (min n (9999 - I 0 13)) 0)))) (fun σ' => Fr 85 (vup σ 0 9 0) σ') := by
  refine Ct.ofV (by decide) (Nat.le_of_ble_eq_true rfl) rfl ?_
  show V G RX6 cX6_check (some .int) 5 d _ 0 [some (.ref 0), some (.int (nI n)), none, none, none] [] _
  obtain ⟨d, rfl⟩ : ∃ e, d = e + 1 := ⟨d - 1, by omega⟩
  refine V_aloadn_0 dX6_check_0 ?_
  refine V_getI dX6_check_1 fl_X6_309 oC_waitingCount ?_
  refine V_topi (y := nI m) h9 ?_
  refine V_istoren_2 dX6_check_4 (by first | exact rfl | exact True.intro) (by decide) ?_
  refine V_aloadn_0 dX6_check_5 ?_
  refine V_iconst 0 dX6_check_6 (by decide) ?_
  refine V_putI dX6_check_7 fp_X6_309 oC_waitingCount ?_
  refine V_abs (fun σ1 => σ1 = vup σ 0 9 0) rfl (fun σ1 e1 => ?_)
  replace hC : TC L N 73 I σ1 := hC.fq (fun q a => by rw [e1, vup_p (by omega)])
  have h31 : σ1 0 3 = nI 1 := by rw [e1, vup_ne (by omega)]; exact h3
  have hV := hC.2.1.1
  have e17 : σ1 7 = σ 7 := by rw [e1, vup_p (by decide)]
  refine V_iloadn_1 dX6_check_10 ?_
  refine V_iconst 1 dX6_check_11 (by decide) ?_
  refine V_bipush 30 dX6_check_12 (by decide) ?_
  refine V_cs3f dX6_check_14 cs_X6_108 (Nat.le_of_ble_eq_true rfl) k_C_within ?_
  refine V_ifB_ne dX6_check_17 23 (by decide) (fun h17 => ?_) (fun h17 => ?_)
  · refine V_aloadn_0 dX6_check_23 ?_
    refine V_getI dX6_check_24 fl_X6_312 oC_imageKept ?_
    refine V_topi (y := 1) h31 ?_
    refine V_if_ne_t dX6_check_27 34 (by decide) (by decide) ?_
    refine V_iloadn_1 dX6_check_34 ?_
    refine V_sipush 9999 dX6_check_35 (by decide) ?_
    refine V_aloadn_0 dX6_check_38 ?_
    refine V_getR dX6_check_39 fl_X6_50 oC_image ?_
    refine V_getI dX6_check_42 fl_X6_167 (oT_hour tw73) ?_
    refine V_topi hV.n13 ?_
    refine V_isubN (a := 9999) (b := I 0 13) dX6_check_45 (by omega) ?_
    refine V_mminN (a := n) (b := 9999 - (I 0 13)) dX6_check_46 ml_X6_153 (Nat.le_of_ble_eq_true rfl) (by omega) (by omega) ?_
    refine V_istoren_3 dX6_check_49 (by first | exact rfl | exact True.intro) (by decide) ?_
    refine V_aloadn_0 dX6_check_50 ?_
    refine V_getR dX6_check_51 fl_X6_53 oC_thought ?_
    refine V_aloadn_0 dX6_check_54 ?_
    refine V_getR dX6_check_55 fl_X6_50 oC_image ?_
    refine V_cv1n dX6_check_58 cv_X6_316 (rcT tw85) (Nat.le_of_ble_eq_true rfl) (k_T_become (by omega) tw85 (by decide) hC hm12) (fun σ2 h5 => ?_)
    refine V_iconst 0 dX6_check_61 (by decide) ?_
    refine V_istore_4 dX6_check_62 (by first | exact rfl | exact True.intro) (by decide) ?_
    rw [← e1]
    exact lp_c_check (by omega) hm60 (by omega) (min n (9999 - I 0 13) + 1) 0 σ2 ⟨h5.1, h5.2, by omega, by rw [e17]; rfl⟩ (by omega)
  · exact absurd (inN (a := 1) (b := 30) hn.1 hn.2 (by decide)) h17

set_option maxRecDepth 100000 in
set_option maxHeartbeats 4000000 in
theorem c_check_bad {G : vG} {σ : vS} {d : Nat} (hd : 5 ≤ d) {x : Int32} (hb : ¬ inI x 1 30) : Cf G yX6_check cX6_check 5 (some .int) d [.ref 0, .int x] σ (some (.int (-1000000001))) (vup σ 0 9 0) := by
  refine Ct.ofV (by decide) (Nat.le_of_ble_eq_true rfl) rfl ?_
  show V G RX6 cX6_check (some .int) 5 d _ 0 [some (.ref 0), some (.int x), none, none, none] [] _
  obtain ⟨d, rfl⟩ : ∃ e, d = e + 1 := ⟨d - 1, by omega⟩
  refine V_aloadn_0 dX6_check_0 ?_
  refine V_getI dX6_check_1 fl_X6_309 oC_waitingCount ?_
  refine V_istoren_2 dX6_check_4 (by first | exact rfl | exact True.intro) (by decide) ?_
  refine V_aloadn_0 dX6_check_5 ?_
  refine V_iconst 0 dX6_check_6 (by decide) ?_
  refine V_putI dX6_check_7 fp_X6_309 oC_waitingCount ?_
  refine V_iloadn_1 dX6_check_10 ?_
  refine V_iconst 1 dX6_check_11 (by decide) ?_
  refine V_bipush 30 dX6_check_12 (by decide) ?_
  refine V_cs3f dX6_check_14 cs_X6_108 (Nat.le_of_ble_eq_true rfl) k_C_within ?_
  refine V_ifB_ne dX6_check_17 23 (by decide) (fun h17 => ?_) (fun h17 => ?_)
  · exact absurd h17 hb
  · refine V_ldc (-1000000001) dX6_check_20 cn_X6_66 ?_
    exact V_iret dX6_check_22 ⟨rfl, rfl⟩

set_option maxRecDepth 100000 in
set_option maxHeartbeats 4000000 in
theorem c_check_no {G : vG} {σ : vS} {d : Nat} (hd : 5 ≤ d) {n : Nat} (hn : 1 ≤ n ∧ n ≤ 30) (h3 : σ 0 3 = nI 0) : Cf G yX6_check cX6_check 5 (some .int) d [.ref 0, .int (nI n)] σ (some (.int (-1000000002))) (vup σ 0 9 0) := by
  refine Ct.ofV (by decide) (Nat.le_of_ble_eq_true rfl) rfl ?_
  show V G RX6 cX6_check (some .int) 5 d _ 0 [some (.ref 0), some (.int (nI n)), none, none, none] [] _
  obtain ⟨d, rfl⟩ : ∃ e, d = e + 1 := ⟨d - 1, by omega⟩
  refine V_aloadn_0 dX6_check_0 ?_
  refine V_getI dX6_check_1 fl_X6_309 oC_waitingCount ?_
  refine V_istoren_2 dX6_check_4 (by first | exact rfl | exact True.intro) (by decide) ?_
  refine V_aloadn_0 dX6_check_5 ?_
  refine V_iconst 0 dX6_check_6 (by decide) ?_
  refine V_putI dX6_check_7 fp_X6_309 oC_waitingCount ?_
  refine V_iloadn_1 dX6_check_10 ?_
  refine V_iconst 1 dX6_check_11 (by decide) ?_
  refine V_bipush 30 dX6_check_12 (by decide) ?_
  refine V_cs3f dX6_check_14 cs_X6_108 (Nat.le_of_ble_eq_true rfl) k_C_within ?_
  refine V_ifB_ne dX6_check_17 23 (by decide) (fun h17 => ?_) (fun h17 => ?_)
  · refine V_aloadn_0 dX6_check_23 ?_
    refine V_getI dX6_check_24 fl_X6_312 oC_imageKept ?_
    refine V_topi (y := 0) (by rw [vup_ne (by omega)]; exact h3) ?_
    refine V_if_ne_f dX6_check_27 34 (by decide) (by decide) ?_
    refine V_ldcw (-1000000002) dX6_check_30 cn_X6_308 ?_
    exact V_iret dX6_check_33 ⟨rfl, rfl⟩
  · exact absurd (inN (a := 1) (b := 30) hn.1 hn.2 (by decide)) h17

def CK (σ0 σ : vS) : Prop := (∀ j, j < 1479 → σ 100 j = σ0 98 j) ∧ (∀ j, 1479 ≤ j → σ 98 j = σ0 98 j) ∧ ∀ q, q ≠ 98 → q ≠ 100 → q ≠ 101 → q ≠ 110 → q ≠ 111 → σ q = σ0 q
theorem CK.fm {σ0 σ σ' : vS} (h : CK σ0 σ) (hf : Fm σ σ') : CK σ0 σ' :=
  ⟨fun j hj => by rw [hf.1 100 (by decide) (by decide) (by decide) (by decide)]; exact h.1 j hj, fun j hj => by rw [hf.2 j (by omega)]; exact h.2.1 j hj, fun q a b c d e => by rw [hf.1 q a c d e]; exact h.2.2 q a b c d e⟩
theorem CK.fin {σ0 σ : vS} (h : CK σ0 σ) : FI σ0 (vcp σ 100 98 0 0 1479) := fun q j hr => by
  by_cases e : q = 98
  · subst e
    by_cases hj : j < 1479
    · rw [vcp0 hj]; exact h.1 j hj
    · unfold vcp
      rw [if_neg (by omega)]
      exact h.2.1 j (by omega)
  · unfold relP at hr
    rw [vcp_p e, h.2.2 q e (by omega) (by omega) (by omega) (by omega)]
theorem CK.st (σ : vS) : CK σ (vcp (vcp σ 98 100 0 0 1479) 99 98 0 0 1479) := by
  refine ⟨fun j hj => ?_, fun j hj => ?_, fun q a b _ _ _ => ?_⟩
  · rw [vcp_p (by decide), vcp0 hj]
  · rw [show vcp (vcp σ 98 100 0 0 1479) 99 98 0 0 1479 98 j = (vcp σ 98 100 0 0 1479) 98 j from if_neg (by omega), vcp_p (by decide)]
  · rw [vcp_p a, vcp_p b]
theorem MC.img {L I : nT} {σ : vS} (hA : MA 99 I σ) (hL : ML 99 L (I 0 15) σ) (hI : TI I) (hLI : LI L (I 0 15)) (hKI : KI L I) : MC L I (vcp (vcp σ 98 100 0 0 1479) 99 98 0 0 1479) := by
  have e : ∀ j, j < 1479 → vcp (vcp σ 98 100 0 0 1479) 99 98 0 0 1479 98 j = σ 99 j := fun j hj => by rw [vcp0 hj, vcp_p (by decide)]
  exact ⟨hA.mv (fun j hj => e j (by omega)) hI.nc hI.np, hL.mv hI.tx hLI e, hI, hLI, hKI⟩

set_option maxRecDepth 100000 in
set_option maxHeartbeats 4000000 in
theorem lp_m_check {G : vG} {d : Nat} {σ0 : vS} {L I : nT} {n m H R : Nat} (hd : 8 ≤ d + 1) (hm60 : m ≤ 60) (hH : H ≤ 30) : ∀ (k : Nat) (k1 : Nat) (σ : vS), (MC L (hoursT L k1 I) σ ∧ CK σ0 σ ∧ k1 ≤ H ∧ 2 * k1 ≤ m ∧ chF L I (σ0 120) m (H - k1) k1 = R) → H - k1 < k → V G RX7 cX7_check (some .int) 6 (d + 1) (fun r' σ' => r' = some (.int (nI R)) ∧ FI σ0 σ') 80 [some (.ref 97), some (.int (nI n)), some (.int (nI m)), some (.int (nI (2 * H))), some (.int (nI (2 * k1))), some (.int (nI k1))] [] σ := by
  intro k
  induction k with
  | zero => intros; omega
  | succ k ih =>
    intro k1 σ hh hk
    obtain ⟨hC, hK, hkH, hkm, hR⟩ := hh
    refine V_iconst 2 dX7_check_80 (by decide) ?_
    refine V_iload_5 dX7_check_81 ?_
    refine V_imulN (a := 2) (b := k1) dX7_check_83 ?_
    refine V_iloadn_3 dX7_check_84 ?_
    refine V_icmpN_ge (a := 2 * k1) (b := 2 * H) dX7_check_85 180 (by decide) (by omega) (by omega) (fun h85 => ?_) (fun h85 => ?_)
    · refine V_aloadn_0 dX7_check_180 ?_
      refine V_getR dX7_check_181 fl_X7_16 oM_aside ?_
      refine V_aloadn_0 dX7_check_184 ?_
      refine V_getR dX7_check_185 fl_X7_9 oM_now ?_
      refine V_cs2v dX7_check_188 cs_X7_286 (Nat.le_of_ble_eq_true rfl) k_M_cp_asideNow ?_
      refine V_iload_4 dX7_check_191 ?_
      refine V_iloadn_2 dX7_check_193 ?_
      refine V_icmpN_ne (a := 2 * k1) (b := m) dX7_check_194 207 (by decide) (by omega) (by omega) (fun h194 => ?_) (fun h194 => ?_)
      · refine V_iconst 1 dX7_check_207 (by decide) ?_
        refine V_iload_4 dX7_check_208 ?_
        refine V_iaddN (a := 1) (b := 2 * k1) dX7_check_210 ?_
        exact V_iret dX7_check_211 ⟨rN (by have e := ch_e hR (by omega); first | (rw [if_pos (by omega)] at e; exact e.symm) | (exfalso; omega)), hK.fin⟩
      · refine V_iload_4 dX7_check_197 ?_
        refine V_iloadn_3 dX7_check_199 ?_
        refine V_icmpN_ne (a := 2 * k1) (b := 2 * H) dX7_check_200 207 (by decide) (by omega) (by omega) (fun h200 => ?_) (fun h200 => ?_)
        · refine V_iconst 1 dX7_check_207 (by decide) ?_
          refine V_iload_4 dX7_check_208 ?_
          refine V_iaddN (a := 1) (b := 2 * k1) dX7_check_210 ?_
          exact V_iret dX7_check_211 ⟨rN (by have e := ch_e hR (by omega); first | (rw [if_pos (by omega)] at e; exact e.symm) | (exfalso; omega)), hK.fin⟩
        · refine V_iconst 0 dX7_check_203 (by decide) ?_
          refine V_goto dX7_check_204 211 (by decide) ?_
          exact V_iret dX7_check_211 ⟨rI (by rw [ch_e hR (by omega), if_neg (by omega)]; rfl), hK.fin⟩
    · refine V_iload_4 dX7_check_88 ?_
      refine V_iconst 2 dX7_check_90 (by decide) ?_
      refine V_iload_5 dX7_check_91 ?_
      refine V_imulN (a := 2) (b := k1) dX7_check_93 ?_
      refine V_icmpN_ne (a := 2 * k1) (b := 2 * k1) dX7_check_94 180 (by decide) (by omega) (by omega) (fun h94 => ?_) (fun h94 => ?_)
      · exact absurd rfl h94
      · refine V_aloadn_0 dX7_check_97 ?_
        refine V_cv0n dX7_check_98 cv_X7_168 rcM (Nat.le_of_ble_eq_true rfl) (k_M_hour (by omega) hC) (fun σ h9 => ?_)
        replace hK := hK.fm h9.2
        have hQ : MC L (hoursT L (k1 + 1) I) _ := h9.1
        obtain ⟨U, hUe⟩ : ∃ U, U = hoursT L (k1 + 1) I := ⟨_, rfl⟩
        rw [← hUe] at hQ
        have hC := hQ
        have hIU := hC.2.2.1
        have e120 : _ = σ0 120 := hK.2.2 120 (by decide) (by decide) (by decide) (by decide) (by decide)
        have hk1 : k1 < H := by omega
        refine V_iload_4 dX7_check_101 ?_
        refine V_iload_4 dX7_check_103 ?_
        refine V_iloadn_2 dX7_check_105 ?_
        refine V_icmpN_ge (a := 2 * k1) (b := m) dX7_check_106 127 (by decide) (by omega) (by omega) (fun h106 => ?_) (fun h106 => ?_)
        · have eR := ch_a hR hk1 (fun q => absurd q.1 (by omega))
          refine V_iconst 0 dX7_check_127 (by decide) ?_
          refine V_iaddN (a := 2 * k1) (b := 0) dX7_check_128 ?_
          refine V_istore_4 dX7_check_129 (by first | exact rfl | exact True.intro) (by decide) ?_
          refine V_iload_4 dX7_check_131 ?_
          refine V_iload_4 dX7_check_133 ?_
          refine V_iconst 2 dX7_check_135 (by decide) ?_
          refine V_iload_5 dX7_check_136 ?_
          refine V_imulN (a := 2) (b := k1) dX7_check_138 ?_
          refine V_iconst 1 dX7_check_139 (by decide) ?_
          refine V_iaddN (a := 2 * k1) (b := 1) dX7_check_140 ?_
          refine V_icmpN_ne (a := (2 * k1) + 0) (b := (2 * k1) + 1) dX7_check_141 170 (by decide) (by omega) (by omega) (fun h141 => ?_) (fun h141 => ?_)
          · refine V_iconst 0 dX7_check_170 (by decide) ?_
            refine V_iaddN (a := (2 * k1) + 0) (b := 0) dX7_check_171 ?_
            refine V_istore_4 dX7_check_172 (by first | exact rfl | exact True.intro) (by decide) ?_
            refine V_iinc_5 dX7_check_174 (by first | exact rfl | exact True.intro) (by decide) (nI (k1 + 1)) (nI_inc _) ?_
            refine V_goto dX7_check_177 80 (by decide) ?_
            refine V_iconst 2 dX7_check_80 (by decide) ?_
            refine V_iload_5 dX7_check_81 ?_
            refine V_imulN (a := 2) (b := k1 + 1) dX7_check_83 ?_
            refine V_iloadn_3 dX7_check_84 ?_
            refine V_icmpN_ge (a := 2 * (k1 + 1)) (b := 2 * H) dX7_check_85 180 (by decide) (by omega) (by omega) (fun h85 => ?_) (fun h85 => ?_)
            · refine V_aloadn_0 dX7_check_180 ?_
              refine V_getR dX7_check_181 fl_X7_16 oM_aside ?_
              refine V_aloadn_0 dX7_check_184 ?_
              refine V_getR dX7_check_185 fl_X7_9 oM_now ?_
              refine V_cs2v dX7_check_188 cs_X7_286 (Nat.le_of_ble_eq_true rfl) k_M_cp_asideNow ?_
              refine V_iload_4 dX7_check_191 ?_
              refine V_iloadn_2 dX7_check_193 ?_
              refine V_icmpN_ne (a := ((2 * k1) + 0) + 0) (b := m) dX7_check_194 207 (by decide) (by omega) (by omega) (fun h194 => ?_) (fun h194 => ?_)
              · refine V_iconst 1 dX7_check_207 (by decide) ?_
                refine V_iload_4 dX7_check_208 ?_
                refine V_iaddN (a := 1) (b := ((2 * k1) + 0) + 0) dX7_check_210 ?_
                exact V_iret dX7_check_211 ⟨rN (by omega), hK.fin⟩
              · refine V_iload_4 dX7_check_197 ?_
                refine V_iloadn_3 dX7_check_199 ?_
                refine V_icmpN_ne (a := ((2 * k1) + 0) + 0) (b := 2 * H) dX7_check_200 207 (by decide) (by omega) (by omega) (fun h200 => ?_) (fun h200 => ?_)
                · refine V_iconst 1 dX7_check_207 (by decide) ?_
                  refine V_iload_4 dX7_check_208 ?_
                  refine V_iaddN (a := 1) (b := ((2 * k1) + 0) + 0) dX7_check_210 ?_
                  exact V_iret dX7_check_211 ⟨rN (by omega), hK.fin⟩
                · refine V_iconst 0 dX7_check_203 (by decide) ?_
                  refine V_goto dX7_check_204 211 (by decide) ?_
                  exact V_iret dX7_check_211 ⟨by exfalso; omega, hK.fin⟩
            · refine V_iload_4 dX7_check_88 ?_
              refine V_iconst 2 dX7_check_90 (by decide) ?_
              refine V_iload_5 dX7_check_91 ?_
              refine V_imulN (a := 2) (b := k1 + 1) dX7_check_93 ?_
              refine V_icmpN_ne (a := ((2 * k1) + 0) + 0) (b := 2 * (k1 + 1)) dX7_check_94 180 (by decide) (by omega) (by omega) (fun h94 => ?_) (fun h94 => ?_)
              · refine V_aloadn_0 dX7_check_180 ?_
                refine V_getR dX7_check_181 fl_X7_16 oM_aside ?_
                refine V_aloadn_0 dX7_check_184 ?_
                refine V_getR dX7_check_185 fl_X7_9 oM_now ?_
                refine V_cs2v dX7_check_188 cs_X7_286 (Nat.le_of_ble_eq_true rfl) k_M_cp_asideNow ?_
                refine V_iload_4 dX7_check_191 ?_
                refine V_iloadn_2 dX7_check_193 ?_
                refine V_icmpN_ne (a := ((2 * k1) + 0) + 0) (b := m) dX7_check_194 207 (by decide) (by omega) (by omega) (fun h194 => ?_) (fun h194 => ?_)
                · refine V_iconst 1 dX7_check_207 (by decide) ?_
                  refine V_iload_4 dX7_check_208 ?_
                  refine V_iaddN (a := 1) (b := ((2 * k1) + 0) + 0) dX7_check_210 ?_
                  exact V_iret dX7_check_211 ⟨rN (by omega), hK.fin⟩
                · refine V_iload_4 dX7_check_197 ?_
                  refine V_iloadn_3 dX7_check_199 ?_
                  refine V_icmpN_ne (a := ((2 * k1) + 0) + 0) (b := 2 * H) dX7_check_200 207 (by decide) (by omega) (by omega) (fun h200 => ?_) (fun h200 => ?_)
                  · refine V_iconst 1 dX7_check_207 (by decide) ?_
                    refine V_iload_4 dX7_check_208 ?_
                    refine V_iaddN (a := 1) (b := ((2 * k1) + 0) + 0) dX7_check_210 ?_
                    exact V_iret dX7_check_211 ⟨rN (by omega), hK.fin⟩
                  · refine V_iconst 0 dX7_check_203 (by decide) ?_
                    refine V_goto dX7_check_204 211 (by decide) ?_
                    exact V_iret dX7_check_211 ⟨by exfalso; omega, hK.fin⟩
              · exfalso; omega
          · exfalso; omega
        · refine V_aloadn_0 dX7_check_109 ?_
          refine V_getR dX7_check_110 fl_X7_78 oM_tells ?_
          refine V_iload_4 dX7_check_113 ?_
          refine V_iald (j := 2 * k1) dX7_check_115 aM_tells (by omega) (by decide) ?_
          refine V_topi (y := σ0 120 (2 * k1)) (by rw [e120]) ?_
          refine V_aloadn_0 dX7_check_116 ?_
          refine V_cv0f dX7_check_117 cv_X7_174 rcM (Nat.le_of_ble_eq_true rfl) (k_M_fullOfAll (by omega) hC) ?_
          refine V_icmp_ne dX7_check_120 127 (by decide) (fun h120 => ?_) (fun h120 => ?_)
          · have eR := ch_a hR hk1 (fun q => h120 (by rw [hUe]; exact q.2))
            refine V_iconst 0 dX7_check_127 (by decide) ?_
            refine V_iaddN (a := 2 * k1) (b := 0) dX7_check_128 ?_
            refine V_istore_4 dX7_check_129 (by first | exact rfl | exact True.intro) (by decide) ?_
            refine V_iload_4 dX7_check_131 ?_
            refine V_iload_4 dX7_check_133 ?_
            refine V_iconst 2 dX7_check_135 (by decide) ?_
            refine V_iload_5 dX7_check_136 ?_
            refine V_imulN (a := 2) (b := k1) dX7_check_138 ?_
            refine V_iconst 1 dX7_check_139 (by decide) ?_
            refine V_iaddN (a := 2 * k1) (b := 1) dX7_check_140 ?_
            refine V_icmpN_ne (a := (2 * k1) + 0) (b := (2 * k1) + 1) dX7_check_141 170 (by decide) (by omega) (by omega) (fun h141 => ?_) (fun h141 => ?_)
            · refine V_iconst 0 dX7_check_170 (by decide) ?_
              refine V_iaddN (a := (2 * k1) + 0) (b := 0) dX7_check_171 ?_
              refine V_istore_4 dX7_check_172 (by first | exact rfl | exact True.intro) (by decide) ?_
              refine V_iinc_5 dX7_check_174 (by first | exact rfl | exact True.intro) (by decide) (nI (k1 + 1)) (nI_inc _) ?_
              refine V_goto dX7_check_177 80 (by decide) ?_
              refine V_iconst 2 dX7_check_80 (by decide) ?_
              refine V_iload_5 dX7_check_81 ?_
              refine V_imulN (a := 2) (b := k1 + 1) dX7_check_83 ?_
              refine V_iloadn_3 dX7_check_84 ?_
              refine V_icmpN_ge (a := 2 * (k1 + 1)) (b := 2 * H) dX7_check_85 180 (by decide) (by omega) (by omega) (fun h85 => ?_) (fun h85 => ?_)
              · refine V_aloadn_0 dX7_check_180 ?_
                refine V_getR dX7_check_181 fl_X7_16 oM_aside ?_
                refine V_aloadn_0 dX7_check_184 ?_
                refine V_getR dX7_check_185 fl_X7_9 oM_now ?_
                refine V_cs2v dX7_check_188 cs_X7_286 (Nat.le_of_ble_eq_true rfl) k_M_cp_asideNow ?_
                refine V_iload_4 dX7_check_191 ?_
                refine V_iloadn_2 dX7_check_193 ?_
                refine V_icmpN_ne (a := ((2 * k1) + 0) + 0) (b := m) dX7_check_194 207 (by decide) (by omega) (by omega) (fun h194 => ?_) (fun h194 => ?_)
                · refine V_iconst 1 dX7_check_207 (by decide) ?_
                  refine V_iload_4 dX7_check_208 ?_
                  refine V_iaddN (a := 1) (b := ((2 * k1) + 0) + 0) dX7_check_210 ?_
                  exact V_iret dX7_check_211 ⟨rN (by omega), hK.fin⟩
                · refine V_iload_4 dX7_check_197 ?_
                  refine V_iloadn_3 dX7_check_199 ?_
                  refine V_icmpN_ne (a := ((2 * k1) + 0) + 0) (b := 2 * H) dX7_check_200 207 (by decide) (by omega) (by omega) (fun h200 => ?_) (fun h200 => ?_)
                  · refine V_iconst 1 dX7_check_207 (by decide) ?_
                    refine V_iload_4 dX7_check_208 ?_
                    refine V_iaddN (a := 1) (b := ((2 * k1) + 0) + 0) dX7_check_210 ?_
                    exact V_iret dX7_check_211 ⟨rN (by omega), hK.fin⟩
                  · refine V_iconst 0 dX7_check_203 (by decide) ?_
                    refine V_goto dX7_check_204 211 (by decide) ?_
                    exact V_iret dX7_check_211 ⟨by exfalso; omega, hK.fin⟩
              · refine V_iload_4 dX7_check_88 ?_
                refine V_iconst 2 dX7_check_90 (by decide) ?_
                refine V_iload_5 dX7_check_91 ?_
                refine V_imulN (a := 2) (b := k1 + 1) dX7_check_93 ?_
                refine V_icmpN_ne (a := ((2 * k1) + 0) + 0) (b := 2 * (k1 + 1)) dX7_check_94 180 (by decide) (by omega) (by omega) (fun h94 => ?_) (fun h94 => ?_)
                · refine V_aloadn_0 dX7_check_180 ?_
                  refine V_getR dX7_check_181 fl_X7_16 oM_aside ?_
                  refine V_aloadn_0 dX7_check_184 ?_
                  refine V_getR dX7_check_185 fl_X7_9 oM_now ?_
                  refine V_cs2v dX7_check_188 cs_X7_286 (Nat.le_of_ble_eq_true rfl) k_M_cp_asideNow ?_
                  refine V_iload_4 dX7_check_191 ?_
                  refine V_iloadn_2 dX7_check_193 ?_
                  refine V_icmpN_ne (a := ((2 * k1) + 0) + 0) (b := m) dX7_check_194 207 (by decide) (by omega) (by omega) (fun h194 => ?_) (fun h194 => ?_)
                  · refine V_iconst 1 dX7_check_207 (by decide) ?_
                    refine V_iload_4 dX7_check_208 ?_
                    refine V_iaddN (a := 1) (b := ((2 * k1) + 0) + 0) dX7_check_210 ?_
                    exact V_iret dX7_check_211 ⟨rN (by omega), hK.fin⟩
                  · refine V_iload_4 dX7_check_197 ?_
                    refine V_iloadn_3 dX7_check_199 ?_
                    refine V_icmpN_ne (a := ((2 * k1) + 0) + 0) (b := 2 * H) dX7_check_200 207 (by decide) (by omega) (by omega) (fun h200 => ?_) (fun h200 => ?_)
                    · refine V_iconst 1 dX7_check_207 (by decide) ?_
                      refine V_iload_4 dX7_check_208 ?_
                      refine V_iaddN (a := 1) (b := ((2 * k1) + 0) + 0) dX7_check_210 ?_
                      exact V_iret dX7_check_211 ⟨rN (by omega), hK.fin⟩
                    · refine V_iconst 0 dX7_check_203 (by decide) ?_
                      refine V_goto dX7_check_204 211 (by decide) ?_
                      exact V_iret dX7_check_211 ⟨by exfalso; omega, hK.fin⟩
                · exfalso; omega
            · exfalso; omega
          · have c1 : 2 * k1 < m ∧ σ0 120 (2 * k1) = nI (sumT (hoursT L (k1 + 1) I) (hoursT L (k1 + 1) I 0 5)) := by rw [← hUe]; exact ⟨h106, h120⟩
            refine V_iconst 1 dX7_check_123 (by decide) ?_
            refine V_goto dX7_check_124 128 (by decide) ?_
            refine V_iaddN (a := 2 * k1) (b := 1) dX7_check_128 ?_
            refine V_istore_4 dX7_check_129 (by first | exact rfl | exact True.intro) (by decide) ?_
            refine V_iload_4 dX7_check_131 ?_
            refine V_iload_4 dX7_check_133 ?_
            refine V_iconst 2 dX7_check_135 (by decide) ?_
            refine V_iload_5 dX7_check_136 ?_
            refine V_imulN (a := 2) (b := k1) dX7_check_138 ?_
            refine V_iconst 1 dX7_check_139 (by decide) ?_
            refine V_iaddN (a := 2 * k1) (b := 1) dX7_check_140 ?_
            refine V_icmpN_ne (a := (2 * k1) + 1) (b := (2 * k1) + 1) dX7_check_141 170 (by decide) (by omega) (by omega) (fun h141 => ?_) (fun h141 => ?_)
            · exact absurd rfl h141
            · refine V_iload_4 dX7_check_144 ?_
              refine V_iloadn_2 dX7_check_146 ?_
              refine V_icmpN_ge (a := (2 * k1) + 1) (b := m) dX7_check_147 170 (by decide) (by omega) (by omega) (fun h147 => ?_) (fun h147 => ?_)
              · have eR := ch_b hR hk1 c1 (fun q => absurd q.1 (by omega))
                refine V_iconst 0 dX7_check_170 (by decide) ?_
                refine V_iaddN (a := (2 * k1) + 1) (b := 0) dX7_check_171 ?_
                refine V_istore_4 dX7_check_172 (by first | exact rfl | exact True.intro) (by decide) ?_
                refine V_iinc_5 dX7_check_174 (by first | exact rfl | exact True.intro) (by decide) (nI (k1 + 1)) (nI_inc _) ?_
                refine V_goto dX7_check_177 80 (by decide) ?_
                refine V_iconst 2 dX7_check_80 (by decide) ?_
                refine V_iload_5 dX7_check_81 ?_
                refine V_imulN (a := 2) (b := k1 + 1) dX7_check_83 ?_
                refine V_iloadn_3 dX7_check_84 ?_
                refine V_icmpN_ge (a := 2 * (k1 + 1)) (b := 2 * H) dX7_check_85 180 (by decide) (by omega) (by omega) (fun h85 => ?_) (fun h85 => ?_)
                · refine V_aloadn_0 dX7_check_180 ?_
                  refine V_getR dX7_check_181 fl_X7_16 oM_aside ?_
                  refine V_aloadn_0 dX7_check_184 ?_
                  refine V_getR dX7_check_185 fl_X7_9 oM_now ?_
                  refine V_cs2v dX7_check_188 cs_X7_286 (Nat.le_of_ble_eq_true rfl) k_M_cp_asideNow ?_
                  refine V_iload_4 dX7_check_191 ?_
                  refine V_iloadn_2 dX7_check_193 ?_
                  refine V_icmpN_ne (a := ((2 * k1) + 1) + 0) (b := m) dX7_check_194 207 (by decide) (by omega) (by omega) (fun h194 => ?_) (fun h194 => ?_)
                  · refine V_iconst 1 dX7_check_207 (by decide) ?_
                    refine V_iload_4 dX7_check_208 ?_
                    refine V_iaddN (a := 1) (b := ((2 * k1) + 1) + 0) dX7_check_210 ?_
                    exact V_iret dX7_check_211 ⟨rN (by omega), hK.fin⟩
                  · refine V_iload_4 dX7_check_197 ?_
                    refine V_iloadn_3 dX7_check_199 ?_
                    refine V_icmpN_ne (a := ((2 * k1) + 1) + 0) (b := 2 * H) dX7_check_200 207 (by decide) (by omega) (by omega) (fun h200 => ?_) (fun h200 => ?_)
                    · refine V_iconst 1 dX7_check_207 (by decide) ?_
                      refine V_iload_4 dX7_check_208 ?_
                      refine V_iaddN (a := 1) (b := ((2 * k1) + 1) + 0) dX7_check_210 ?_
                      exact V_iret dX7_check_211 ⟨rN (by omega), hK.fin⟩
                    · refine V_iconst 0 dX7_check_203 (by decide) ?_
                      refine V_goto dX7_check_204 211 (by decide) ?_
                      exact V_iret dX7_check_211 ⟨by exfalso; omega, hK.fin⟩
                · refine V_iload_4 dX7_check_88 ?_
                  refine V_iconst 2 dX7_check_90 (by decide) ?_
                  refine V_iload_5 dX7_check_91 ?_
                  refine V_imulN (a := 2) (b := k1 + 1) dX7_check_93 ?_
                  refine V_icmpN_ne (a := ((2 * k1) + 1) + 0) (b := 2 * (k1 + 1)) dX7_check_94 180 (by decide) (by omega) (by omega) (fun h94 => ?_) (fun h94 => ?_)
                  · refine V_aloadn_0 dX7_check_180 ?_
                    refine V_getR dX7_check_181 fl_X7_16 oM_aside ?_
                    refine V_aloadn_0 dX7_check_184 ?_
                    refine V_getR dX7_check_185 fl_X7_9 oM_now ?_
                    refine V_cs2v dX7_check_188 cs_X7_286 (Nat.le_of_ble_eq_true rfl) k_M_cp_asideNow ?_
                    refine V_iload_4 dX7_check_191 ?_
                    refine V_iloadn_2 dX7_check_193 ?_
                    refine V_icmpN_ne (a := ((2 * k1) + 1) + 0) (b := m) dX7_check_194 207 (by decide) (by omega) (by omega) (fun h194 => ?_) (fun h194 => ?_)
                    · refine V_iconst 1 dX7_check_207 (by decide) ?_
                      refine V_iload_4 dX7_check_208 ?_
                      refine V_iaddN (a := 1) (b := ((2 * k1) + 1) + 0) dX7_check_210 ?_
                      exact V_iret dX7_check_211 ⟨rN (by omega), hK.fin⟩
                    · refine V_iload_4 dX7_check_197 ?_
                      refine V_iloadn_3 dX7_check_199 ?_
                      refine V_icmpN_ne (a := ((2 * k1) + 1) + 0) (b := 2 * H) dX7_check_200 207 (by decide) (by omega) (by omega) (fun h200 => ?_) (fun h200 => ?_)
                      · refine V_iconst 1 dX7_check_207 (by decide) ?_
                        refine V_iload_4 dX7_check_208 ?_
                        refine V_iaddN (a := 1) (b := ((2 * k1) + 1) + 0) dX7_check_210 ?_
                        exact V_iret dX7_check_211 ⟨rN (by omega), hK.fin⟩
                      · refine V_iconst 0 dX7_check_203 (by decide) ?_
                        refine V_goto dX7_check_204 211 (by decide) ?_
                        exact V_iret dX7_check_211 ⟨by exfalso; omega, hK.fin⟩
                  · exfalso; omega
              · refine V_aloadn_0 dX7_check_150 ?_
                refine V_getR dX7_check_151 fl_X7_78 oM_tells ?_
                refine V_iload_4 dX7_check_154 ?_
                refine V_iald (j := (2 * k1) + 1) dX7_check_156 aM_tells (by omega) (by decide) ?_
                refine V_topi (y := σ0 120 (2 * k1 + 1)) (by rw [e120]) ?_
                refine V_aloadn_0 dX7_check_157 ?_
                refine V_getR dX7_check_158 fl_X7_9 oM_now ?_
                refine V_iconst 5 dX7_check_161 (by decide) ?_
                refine V_iald (j := 5) dX7_check_162 aM_now (by decide) (by decide) ?_
                refine V_topi hC.1.s5 ?_
                refine V_icmp_ne dX7_check_163 170 (by decide) (fun h163 => ?_) (fun h163 => ?_)
                · have eR := ch_b hR hk1 c1 (fun q => h163 (by rw [hUe]; exact q.2))
                  refine V_iconst 0 dX7_check_170 (by decide) ?_
                  refine V_iaddN (a := (2 * k1) + 1) (b := 0) dX7_check_171 ?_
                  refine V_istore_4 dX7_check_172 (by first | exact rfl | exact True.intro) (by decide) ?_
                  refine V_iinc_5 dX7_check_174 (by first | exact rfl | exact True.intro) (by decide) (nI (k1 + 1)) (nI_inc _) ?_
                  refine V_goto dX7_check_177 80 (by decide) ?_
                  refine V_iconst 2 dX7_check_80 (by decide) ?_
                  refine V_iload_5 dX7_check_81 ?_
                  refine V_imulN (a := 2) (b := k1 + 1) dX7_check_83 ?_
                  refine V_iloadn_3 dX7_check_84 ?_
                  refine V_icmpN_ge (a := 2 * (k1 + 1)) (b := 2 * H) dX7_check_85 180 (by decide) (by omega) (by omega) (fun h85 => ?_) (fun h85 => ?_)
                  · refine V_aloadn_0 dX7_check_180 ?_
                    refine V_getR dX7_check_181 fl_X7_16 oM_aside ?_
                    refine V_aloadn_0 dX7_check_184 ?_
                    refine V_getR dX7_check_185 fl_X7_9 oM_now ?_
                    refine V_cs2v dX7_check_188 cs_X7_286 (Nat.le_of_ble_eq_true rfl) k_M_cp_asideNow ?_
                    refine V_iload_4 dX7_check_191 ?_
                    refine V_iloadn_2 dX7_check_193 ?_
                    refine V_icmpN_ne (a := ((2 * k1) + 1) + 0) (b := m) dX7_check_194 207 (by decide) (by omega) (by omega) (fun h194 => ?_) (fun h194 => ?_)
                    · refine V_iconst 1 dX7_check_207 (by decide) ?_
                      refine V_iload_4 dX7_check_208 ?_
                      refine V_iaddN (a := 1) (b := ((2 * k1) + 1) + 0) dX7_check_210 ?_
                      exact V_iret dX7_check_211 ⟨rN (by omega), hK.fin⟩
                    · refine V_iload_4 dX7_check_197 ?_
                      refine V_iloadn_3 dX7_check_199 ?_
                      refine V_icmpN_ne (a := ((2 * k1) + 1) + 0) (b := 2 * H) dX7_check_200 207 (by decide) (by omega) (by omega) (fun h200 => ?_) (fun h200 => ?_)
                      · refine V_iconst 1 dX7_check_207 (by decide) ?_
                        refine V_iload_4 dX7_check_208 ?_
                        refine V_iaddN (a := 1) (b := ((2 * k1) + 1) + 0) dX7_check_210 ?_
                        exact V_iret dX7_check_211 ⟨rN (by omega), hK.fin⟩
                      · refine V_iconst 0 dX7_check_203 (by decide) ?_
                        refine V_goto dX7_check_204 211 (by decide) ?_
                        exact V_iret dX7_check_211 ⟨by exfalso; omega, hK.fin⟩
                  · refine V_iload_4 dX7_check_88 ?_
                    refine V_iconst 2 dX7_check_90 (by decide) ?_
                    refine V_iload_5 dX7_check_91 ?_
                    refine V_imulN (a := 2) (b := k1 + 1) dX7_check_93 ?_
                    refine V_icmpN_ne (a := ((2 * k1) + 1) + 0) (b := 2 * (k1 + 1)) dX7_check_94 180 (by decide) (by omega) (by omega) (fun h94 => ?_) (fun h94 => ?_)
                    · refine V_aloadn_0 dX7_check_180 ?_
                      refine V_getR dX7_check_181 fl_X7_16 oM_aside ?_
                      refine V_aloadn_0 dX7_check_184 ?_
                      refine V_getR dX7_check_185 fl_X7_9 oM_now ?_
                      refine V_cs2v dX7_check_188 cs_X7_286 (Nat.le_of_ble_eq_true rfl) k_M_cp_asideNow ?_
                      refine V_iload_4 dX7_check_191 ?_
                      refine V_iloadn_2 dX7_check_193 ?_
                      refine V_icmpN_ne (a := ((2 * k1) + 1) + 0) (b := m) dX7_check_194 207 (by decide) (by omega) (by omega) (fun h194 => ?_) (fun h194 => ?_)
                      · refine V_iconst 1 dX7_check_207 (by decide) ?_
                        refine V_iload_4 dX7_check_208 ?_
                        refine V_iaddN (a := 1) (b := ((2 * k1) + 1) + 0) dX7_check_210 ?_
                        exact V_iret dX7_check_211 ⟨rN (by omega), hK.fin⟩
                      · refine V_iload_4 dX7_check_197 ?_
                        refine V_iloadn_3 dX7_check_199 ?_
                        refine V_icmpN_ne (a := ((2 * k1) + 1) + 0) (b := 2 * H) dX7_check_200 207 (by decide) (by omega) (by omega) (fun h200 => ?_) (fun h200 => ?_)
                        · refine V_iconst 1 dX7_check_207 (by decide) ?_
                          refine V_iload_4 dX7_check_208 ?_
                          refine V_iaddN (a := 1) (b := ((2 * k1) + 1) + 0) dX7_check_210 ?_
                          exact V_iret dX7_check_211 ⟨rN (by omega), hK.fin⟩
                        · refine V_iconst 0 dX7_check_203 (by decide) ?_
                          refine V_goto dX7_check_204 211 (by decide) ?_
                          exact V_iret dX7_check_211 ⟨by exfalso; omega, hK.fin⟩
                    · exfalso; omega
                · have c2 := ch_c hR hk1 c1 (by rw [← hUe]; exact ⟨h147, h163⟩)
                  refine V_iconst 1 dX7_check_166 (by decide) ?_
                  refine V_goto dX7_check_167 171 (by decide) ?_
                  refine V_iaddN (a := (2 * k1) + 1) (b := 1) dX7_check_171 ?_
                  refine V_istore_4 dX7_check_172 (by first | exact rfl | exact True.intro) (by decide) ?_
                  refine V_iinc_5 dX7_check_174 (by first | exact rfl | exact True.intro) (by decide) (nI (k1 + 1)) (nI_inc _) ?_
                  refine V_goto dX7_check_177 80 (by decide) ?_
                  refine V_lo (lo' := [some (.ref 97), some (.int (nI n)), some (.int (nI m)), some (.int (nI (2 * H))), some (.int (nI (2 * (k1 + 1)))), some (.int (nI (k1 + 1)))]) (by rw [show 2 * (k1 + 1) = 2 * k1 + 1 + 1 by omega]) ?_
                  exact ih (k1 + 1) _ ⟨by rw [hUe] at hC; exact hC, hK, by omega, by omega, c2⟩ (by omega)

set_option maxRecDepth 100000 in
set_option maxHeartbeats 4000000 in
theorem m_check {G : vG} {σ : vS} {d : Nat} (hd : 8 ≤ d) {L I : nT} (hA : MA 99 I σ) (hL : ML 99 L (I 0 15) σ) (hI : TI I) (hLI : LI L (I 0 15)) (hKI : KI L I) (h13 : I 0 13 ≤ 9999) (h3 : σ 97 3 = nI 1) {n m : Nat} (hn : 1 ≤ n ∧ n ≤ 30) (hm60 : m ≤ 60) (h9 : σ 97 34 = nI m) : Cr G yX7_check cX7_check 6 (some .int) d [.ref 97, .int (nI n)] σ (some (.int (nI (chF L I (σ 120) m (min n (9999 - I 0 13)) 0)))) (fun σ' => FI (vup σ 97 34 0) σ') := by
  refine Ct.ofV (by decide) (Nat.le_of_ble_eq_true rfl) rfl ?_
  show V G RX7 cX7_check (some .int) 6 d _ 0 [some (.ref 97), some (.int (nI n)), none, none, none, none] [] _
  obtain ⟨d, rfl⟩ : ∃ e, d = e + 1 := ⟨d - 1, by omega⟩
  refine V_aloadn_0 dX7_check_0 ?_
  refine V_getI dX7_check_1 fl_X7_279 oM_waiting ?_
  refine V_topi (y := nI m) h9 ?_
  refine V_istoren_2 dX7_check_4 (by first | exact rfl | exact True.intro) (by decide) ?_
  refine V_aloadn_0 dX7_check_5 ?_
  refine V_iconst 0 dX7_check_6 (by decide) ?_
  refine V_putI dX7_check_7 fp_X7_279 oM_waiting ?_
  refine V_abs (fun σ1 => σ1 = vup σ 97 34 0) rfl (fun σ1 e1 => ?_)
  have h31 : σ1 97 3 = nI 1 := by rw [e1, vup_ne (by omega)]; exact h3
  have e120 : σ1 120 = σ 120 := by rw [e1, vup_p (by decide)]
  have e99 : σ1 99 = σ 99 := by rw [e1, vup_p (by decide)]
  have hA1 : MA 99 I σ1 := hA.mv (fun j _ => by rw [e99]) hI.nc hI.np
  have hL1 : ML 99 L (I 0 15) σ1 := hL.mv hI.tx hLI (fun j _ => by rw [e99])
  refine V_iloadn_1 dX7_check_10 ?_
  refine V_iconst 1 dX7_check_11 (by decide) ?_
  refine V_bipush 30 dX7_check_12 (by decide) ?_
  refine V_cs3f dX7_check_14 cs_X7_82 (Nat.le_of_ble_eq_true rfl) k_M_in ?_
  refine V_ifB_ne dX7_check_17 23 (by decide) (fun h17 => ?_) (fun h17 => ?_)
  · refine V_aloadn_0 dX7_check_23 ?_
    refine V_getI dX7_check_24 fl_X7_282 oM_hasImage ?_
    refine V_topi (y := 1) h31 ?_
    refine V_if_ne_t dX7_check_27 34 (by decide) (by decide) ?_
    refine V_aloadn_0 dX7_check_34 ?_
    refine V_getR dX7_check_35 fl_X7_9 oM_now ?_
    refine V_aloadn_0 dX7_check_38 ?_
    refine V_getR dX7_check_39 fl_X7_16 oM_aside ?_
    refine V_cs2v dX7_check_42 cs_X7_286 (Nat.le_of_ble_eq_true rfl) k_M_cp_nowAside ?_
    refine V_aloadn_0 dX7_check_45 ?_
    refine V_getR dX7_check_46 fl_X7_13 oM_image ?_
    refine V_aloadn_0 dX7_check_49 ?_
    refine V_getR dX7_check_50 fl_X7_9 oM_now ?_
    refine V_cs2v dX7_check_53 cs_X7_286 (Nat.le_of_ble_eq_true rfl) k_M_cp_imageNow ?_
    refine V_abs (fun σ2 => CK σ1 σ2 ∧ MC L I σ2) ⟨CK.st σ1, MC.img hA1 hL1 hI hLI hKI⟩ (fun σ2 h2 => ?_)
    obtain ⟨hK, hC⟩ := h2
    refine V_iconst 2 dX7_check_56 (by decide) ?_
    refine V_sipush 9999 dX7_check_57 (by decide) ?_
    refine V_aloadn_0 dX7_check_60 ?_
    refine V_getR dX7_check_61 fl_X7_9 oM_now ?_
    refine V_iconst 3 dX7_check_64 (by decide) ?_
    refine V_iald (j := 3) dX7_check_65 aM_now (by decide) (by decide) ?_
    refine V_topi hC.1.s3 ?_
    refine V_isubN (a := 9999) (b := I 0 13) dX7_check_66 (by omega) ?_
    refine V_iconst 0 dX7_check_67 (by decide) ?_
    refine V_iloadn_1 dX7_check_68 ?_
    refine V_cs3f dX7_check_69 cs_X7_103 (Nat.le_of_ble_eq_true rfl) k_M_within ?_
    refine V_topi (y := nI (min n (9999 - I 0 13))) (by first | rw [wiN (by omega) (by omega), Nat.min_comm] | rw [Nat.min_comm]) ?_
    refine V_imulN (a := 2) (b := min n (9999 - I 0 13)) dX7_check_72 ?_
    refine V_istoren_3 dX7_check_73 (by first | exact rfl | exact True.intro) (by decide) ?_
    refine V_iconst 0 dX7_check_74 (by decide) ?_
    refine V_istore_4 dX7_check_75 (by first | exact rfl | exact True.intro) (by decide) ?_
    refine V_iconst 0 dX7_check_77 (by decide) ?_
    refine V_istore_5 dX7_check_78 (by first | exact rfl | exact True.intro) (by decide) ?_
    rw [← e1, ← e120]
    exact lp_m_check (by omega) hm60 (by omega) (min n (9999 - I 0 13) + 1) 0 σ2 ⟨hC, hK, by omega, by omega, rfl⟩ (by omega)
  · exact absurd (inN (a := 1) (b := 30) hn.1 hn.2 (by decide)) h17

set_option maxRecDepth 100000 in
set_option maxHeartbeats 4000000 in
theorem m_check_bad {G : vG} {σ : vS} {d : Nat} (hd : 8 ≤ d) {x : Int32} (hb : ¬ inI x 1 30) : Cf G yX7_check cX7_check 6 (some .int) d [.ref 97, .int x] σ (some (.int (-1000000001))) (vup σ 97 34 0) := by
  refine Ct.ofV (by decide) (Nat.le_of_ble_eq_true rfl) rfl ?_
  show V G RX7 cX7_check (some .int) 6 d _ 0 [some (.ref 97), some (.int x), none, none, none, none] [] _
  obtain ⟨d, rfl⟩ : ∃ e, d = e + 1 := ⟨d - 1, by omega⟩
  refine V_aloadn_0 dX7_check_0 ?_
  refine V_getI dX7_check_1 fl_X7_279 oM_waiting ?_
  refine V_istoren_2 dX7_check_4 (by first | exact rfl | exact True.intro) (by decide) ?_
  refine V_aloadn_0 dX7_check_5 ?_
  refine V_iconst 0 dX7_check_6 (by decide) ?_
  refine V_putI dX7_check_7 fp_X7_279 oM_waiting ?_
  refine V_iloadn_1 dX7_check_10 ?_
  refine V_iconst 1 dX7_check_11 (by decide) ?_
  refine V_bipush 30 dX7_check_12 (by decide) ?_
  refine V_cs3f dX7_check_14 cs_X7_82 (Nat.le_of_ble_eq_true rfl) k_M_in ?_
  refine V_ifB_ne dX7_check_17 23 (by decide) (fun h17 => ?_) (fun h17 => ?_)
  · exact absurd h17 hb
  · refine V_ldc (-1000000001) dX7_check_20 cn_X7_86 ?_
    exact V_iret dX7_check_22 ⟨rfl, rfl⟩

set_option maxRecDepth 100000 in
set_option maxHeartbeats 4000000 in
theorem m_check_no {G : vG} {σ : vS} {d : Nat} (hd : 8 ≤ d) {n : Nat} (hn : 1 ≤ n ∧ n ≤ 30) (h3 : σ 97 3 = nI 0) : Cf G yX7_check cX7_check 6 (some .int) d [.ref 97, .int (nI n)] σ (some (.int (-1000000002))) (vup σ 97 34 0) := by
  refine Ct.ofV (by decide) (Nat.le_of_ble_eq_true rfl) rfl ?_
  show V G RX7 cX7_check (some .int) 6 d _ 0 [some (.ref 97), some (.int (nI n)), none, none, none, none] [] _
  obtain ⟨d, rfl⟩ : ∃ e, d = e + 1 := ⟨d - 1, by omega⟩
  refine V_aloadn_0 dX7_check_0 ?_
  refine V_getI dX7_check_1 fl_X7_279 oM_waiting ?_
  refine V_istoren_2 dX7_check_4 (by first | exact rfl | exact True.intro) (by decide) ?_
  refine V_aloadn_0 dX7_check_5 ?_
  refine V_iconst 0 dX7_check_6 (by decide) ?_
  refine V_putI dX7_check_7 fp_X7_279 oM_waiting ?_
  refine V_iloadn_1 dX7_check_10 ?_
  refine V_iconst 1 dX7_check_11 (by decide) ?_
  refine V_bipush 30 dX7_check_12 (by decide) ?_
  refine V_cs3f dX7_check_14 cs_X7_82 (Nat.le_of_ble_eq_true rfl) k_M_in ?_
  refine V_ifB_ne dX7_check_17 23 (by decide) (fun h17 => ?_) (fun h17 => ?_)
  · refine V_aloadn_0 dX7_check_23 ?_
    refine V_getI dX7_check_24 fl_X7_282 oM_hasImage ?_
    refine V_topi (y := 0) (by rw [vup_ne (by omega)]; exact h3) ?_
    refine V_if_ne_f dX7_check_27 34 (by decide) (by decide) ?_
    refine V_ldcw (-1000000002) dX7_check_30 cn_X7_278 ?_
    exact V_iret dX7_check_33 ⟨rfl, rfl⟩
  · exact absurd (inN (a := 1) (b := 30) hn.1 hn.2 (by decide)) h17

theorem ch_w {L I : nT} {w w' : Nat → Int32} {m : Nat} (h : ∀ j, j < m → w j = w' j) : ∀ r k, chF L I w m r k = chF L I w' m r k := by
  intro r
  induction r with
  | zero => intro k; rfl
  | succ r ih =>
    intro k
    simp only [chF]
    rw [ih]
    have e1 : (2 * k < m ∧ w (2 * k) = nI (sumT (hoursT L (k + 1) I) (hoursT L (k + 1) I 0 5))) ↔ (2 * k < m ∧ w' (2 * k) = nI (sumT (hoursT L (k + 1) I) (hoursT L (k + 1) I 0 5))) :=
      ⟨fun q => ⟨q.1, by rw [← h _ q.1]; exact q.2⟩, fun q => ⟨q.1, by rw [h _ q.1]; exact q.2⟩⟩
    have e2 : (2 * k + 1 < m ∧ w (2 * k + 1) = nI (hoursT L (k + 1) I 0 11)) ↔ (2 * k + 1 < m ∧ w' (2 * k + 1) = nI (hoursT L (k + 1) I 0 11)) :=
      ⟨fun q => ⟨q.1, by rw [← h _ q.1]; exact q.2⟩, fun q => ⟨q.1, by rw [h _ q.1]; exact q.2⟩⟩
    simp only [e1, e2]
set_option maxRecDepth 100000 in
set_option maxHeartbeats 4000000 in
theorem op_check {G : vG} {σ : vS} {d i : Nat} (hd : 100 ≤ d) (hi : i < 512) {x : Int32} (h : Inv i σ) : Op G yX6_check cX6_check 5 yX7_check cX7_check 6 d [.int x] i σ := by
  have hh := h
  obtain ⟨L, T, I, b, hT, hB, hM, hS, hO, hW, hR, hK⟩ := h
  have hC := hT.1
  have hE := hT.2.1
  have hI := hC.2.2.1
  have hn := hI.nc
  have hm := hI.np
  obtain ⟨m, m60, r1, r2, r3⟩ := id hW
  by_cases hx : inI x 1 30
  · obtain ⟨n, hn1, hn2, rfl⟩ := (inI_iff' (a := 1) (b := 30) (by decide) (by decide)).mp hx
    rcases (show b = 0 ∨ b = 1 by have := hB.2.2; omega) with rfl | rfl
    · refine Op.mk (P := fun σ1 => σ1 = vup σ 0 9 0) (c_check_no (by omega) ⟨hn1, hn2⟩ hB.1) (fun σ1 e1 => Ct.mono (fun r σ2 h2 => ⟨h2.1, ?_⟩) (m_check_no (by omega) ⟨hn1, hn2⟩ (by rw [e1, vup_ne (by omega)]; exact hB.2.1)))
      exact hh.w0 (σ1 := σ1) (by rw [e1]; exact FI.rf) (by rw [h2.2]; exact FI.rf)
    · obtain ⟨j1, j2, j3, j4, j5, j6, j7⟩ := hM rfl
      refine Op.mk (c_check (by omega) j1 j6 j7 hB.1 ⟨hn1, hn2⟩ m60 r1) (fun σ1 h1 => ?_)
      have ea : ∀ q, ¬ (85 ≤ q ∧ q ≤ 96) → q ≠ 60 → q ≠ 0 → σ1 q = σ q := fun q a b c => by rw [h1 q (by omega) b, vup_p c]
      have e99 := ea 99 (by omega) (by omega) (by omega)
      have hI2 := j1.2.2.1
      have hLI : LI L (I 0 15) := fun j hj => j1.2.2.2.2.1 j (by have := j1.2.2.2.2.2.1; omega)
      have e7 : chF L I (σ 7) m (min n (9999 - I 0 13)) 0 = chF L I (σ1 120) m (min n (9999 - I 0 13)) 0 := by
        rw [ea 120 (by omega) (by omega) (by omega)]
        exact ch_w r3 _ _
      rw [e7]
      refine Ct.mono (fun r σ2 h2 => ⟨h2.1, ?_⟩) (m_check (by omega) (j2.mv (fun j _ => by rw [e99]) hI2.nc hI2.np) (j3.mv hI2.tx hLI (fun j _ => by rw [e99])) hI2 hLI j4 j7 (by rw [ea 97 (by omega) (by omega) (by omega)]; exact hB.2.1) ⟨hn1, hn2⟩ m60 (by rw [ea 97 (by omega) (by omega) (by omega)]; exact r2))
      exact hh.w0 h1.fi h2.2
  · refine Op.mk (P := fun σ1 => σ1 = vup σ 0 9 0) (c_check_bad (by omega) hx) (fun σ1 e1 => Ct.mono (fun r σ2 h2 => ⟨h2.1, ?_⟩) (m_check_bad (by omega) hx))
    exact hh.w0 (σ1 := σ1) (by rw [e1]; exact FI.rf) (by rw [h2.2]; exact FI.rf)
