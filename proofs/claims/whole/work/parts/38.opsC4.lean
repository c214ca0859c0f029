/-! ===== tap ===== -/
section EM
variable {L T : nT} {N t b c k i s : Nat} {σ σ' : vS}
theorem emp_k (h : k ≠ 4) : emptyT T c k i = T k i := by
  unfold emptyT
  rw [if_neg (fun q => h q.1)]
theorem emp_in (hs : s < 3) : emptyT T c 4 (c * 3 + s) = 0 := by
  unfold emptyT
  rw [if_pos ⟨rfl, by omega, by omega⟩]
theorem emp_off (h : ¬ (c * 3 ≤ i ∧ i < c * 3 + 3)) : emptyT T c 4 i = T 4 i := by
  unfold emptyT
  rw [if_neg (fun q => h q.2)]
theorem emp_full0 : fullT (emptyT T c) c = 0 := by
  have h0 := emp_in (T := T) (c := c) (s := 0) (by decide)
  have h1 := emp_in (T := T) (c := c) (s := 1) (by decide)
  have h2 := emp_in (T := T) (c := c) (s := 2) (by decide)
  rw [Nat.add_zero] at h0
  unfold fullT
  rw [h0, h1, h2]
theorem emp_full (h : b ≠ c) : fullT (emptyT T c) b = fullT T b := full_eq (fun s hs => emp_off (by omega))
theorem TI.emp (h : TI T) : TI (emptyT T c) := by
  refine h.of (fun k i a _ => emp_k a) ?_ (by rw [emp_k (by decide)]; exact h.z)
  have := sum_less (T := T) (T' := emptyT T c) (a := c) (n := fullT T c) (by rw [emp_full0, Nat.zero_add]) (fun b hb => emp_full hb) (T 0 5)
  rw [emp_k (by decide)]
  omega
theorem emp_TC0 (h : TC L N t T σ) (hc : c < T 0 5) : TC0 L N t (emptyT T c) (emS σ t c) := by
  obtain ⟨h1, h2, h3, h4, h5, h6, h7⟩ := h
  refine ⟨h1, wine_TA0 h2.1 (fun q a _ => emS_p a) (fun i hi => ?_) (fun k i a => emp_k a), h3.emp, h4.congr h7 (fun q a b => emS_p (by have := h1.ge; omega)), h5, by rw [emp_k (by decide)]; exact h6, h7⟩
  by_cases e : c * 3 ≤ i ∧ i < c * 3 + 3
  · obtain ⟨s, hs, rfl⟩ : ∃ s, s < 3 ∧ i = c * 3 + s := ⟨i - c * 3, by omega, by omega⟩
    rw [emS_in hs, emp_in hs]
    rfl
  · rw [emS_off e, emp_off e]
    exact h2.1.k4 hi
theorem emp_TC (h : TC L N t T σ) (hc : c < T 0 5) (h2 : refP t c (highT L (emptyT T c) c) (emS σ t c) σ') : TC L N t (emptyT T c) σ' ∧ Fr t σ σ' := by
  have h0 := emp_TC0 h hc
  have ht := h.1
  have hg := ht.ge
  refine ⟨⟨ht, ⟨h2.T0 ht h0.2.1, fun b hb => ?_⟩, h0.2.2.1, h0.2.2.2.1.congr h.2.2.2.2.2.2 (fun q a b => h2.p (by omega) (by omega)), h0.2.2.2.2⟩, emS_fr.tr h2.fr⟩
  rw [emp_k (by decide)] at hb
  by_cases e : b = c
  · rw [e]; exact h2.1
  · rw [h2.2 (t + 5) b (by omega) (by omega), emS_p (by omega), h.2.1.2 b hb, high_eq (T' := emptyT T c) (T := T) (emp_k (by decide)) (emp_k (by decide)) (emp_k (by decide)) (fun s hs => emp_off (by omega))]
theorem emp_MC (h : MC L T σ) (hc : c < T 0 5) : MC L (emptyT T c) (vup (vup (vup σ 98 (7 + 6 * c + 3 + 0) 0) 98 (7 + 6 * c + 3 + 1) 0) 98 (7 + 6 * c + 3 + 2) 0) ∧ Fm σ (vup (vup (vup σ 98 (7 + 6 * c + 3 + 0) 0) 98 (7 + 6 * c + 3 + 1) 0) 98 (7 + 6 * c + 3 + 2) 0) := by
  have hI := h.2.2.1
  have hn := hI.nc
  have hf : Fm σ (vup (vup (vup σ 98 (7 + 6 * c + 3 + 0) 0) 98 (7 + 6 * c + 3 + 1) 0) 98 (7 + 6 * c + 3 + 2) 0) := ((Fm.up (by omega)).tr (Fm.up (by omega))).tr (Fm.up (by omega))
  refine ⟨h.next hf (h.1.of hn hI.np (fun k i a => emp_k a) (fun j hj hne => ?_) (fun b s hb hs => ?_)) hI.emp (emp_k (by decide)) (fun _ => emp_k (by decide)), hf⟩
  · have q0 := hne c 0 hc (by decide)
    have q1 := hne c 1 hc (by decide)
    have q2 := hne c 2 hc (by decide)
    rw [vup_ne (by omega), vup_ne (by omega), vup_ne (by omega)]
  · by_cases e : b = c
    · subst e
      rw [emp_in hs]
      rcases (show s = 0 ∨ s = 1 ∨ s = 2 by omega) with rfl | rfl | rfl
      · rw [vup_ne (by omega), vup_ne (by omega), vup_same]; rfl
      · rw [vup_ne (by omega), vup_same]; rfl
      · rw [vup_same]; rfl
    · rw [vup_ne (by omega), vup_ne (by omega), vup_ne (by omega), emp_off (by omega)]
      exact h.1.w hb hs
end EM
def othN (U : nT) (c : Nat) : Nat := sumT U (U 0 5) - fullT U c
def tapI (L T : nT) (c n : Nat) : Int32 := nI (othN (hoursT L n T) c) - nI (othN (hoursT L n (emptyT T c)) c)

set_option maxRecDepth 100000 in
set_option maxHeartbeats 4000000 in
theorem c_tap {G : vG} {σ : vS} {d : Nat} (hd : 6 ≤ d) {L T : nT} {N : Nat} (hC : TC L N 61 T σ) (hm12 : T 0 10 ≤ 12) {c n : Nat} (hc : c < T 0 5) (hn1 : 1 ≤ n ∧ n ≤ 60) : Cr G yX6_tap cX6_tap 4 (some .int) d [.ref 0, .int (nI c), .int (nI n)] σ (some (.int (tapI L T c n))) (fun σ' => FI σ σ') := by
  refine Ct.ofV (by decide) (Nat.le_of_ble_eq_true rfl) rfl ?_
  show V G RX6 cX6_tap (some .int) 4 d _ 0 [some (.ref 0), some (.int (nI c)), some (.int (nI n)), none] [] _
  obtain ⟨d, rfl⟩ : ∃ e, d = e + 1 := ⟨d - 1, by omega⟩
  obtain ⟨ht, hH, hI, hL, hLI, hN, hN2⟩ := id hC
  have hT := hH.1
  have hn := hI.nc
  have hm := hI.np
  have hIP := hI
  refine V_aloadn_0 dX6_tap_0 ?_
  refine V_getR dX6_tap_1 fl_X6_46 oC_now ?_
  refine V_iloadn_1 dX6_tap_4 ?_
  refine V_cv1f dX6_tap_5 cv_X6_76 (rcT tw61) (Nat.le_of_ble_eq_true rfl) (k_T_hasCellar tw61 hT) ?_
  refine V_ifB_eq dX6_tap_8 21 (by decide) (fun h8 => ?_) (fun h8 => ?_)
  · exact absurd (hasN hc (by omega)) h8
  · refine V_iloadn_2 dX6_tap_11 ?_
    refine V_iconst 1 dX6_tap_12 (by decide) ?_
    refine V_bipush 60 dX6_tap_13 (by decide) ?_
    refine V_cs3f dX6_tap_15 cs_X6_108 (Nat.le_of_ble_eq_true rfl) k_C_within ?_
    refine V_ifB_ne dX6_tap_18 24 (by decide) (fun h18 => ?_) (fun h18 => ?_)
    · refine V_aloadn_0 dX6_tap_24 ?_
      refine V_cv0n dX6_tap_25 cv_X6_183 rcC (Nat.le_of_ble_eq_true rfl) (k_C_think (by omega) hC (by omega)) (fun σ h5 => ?_)
      have hF := h5.2
      have hP := h5.1
      replace hC := hC.other h5.2 tw85 (by decide)
      have hT := hC.2.1.1
      have hH := hC.2.1
      refine V_aloadn_0 dX6_tap_28 ?_
      refine V_getR dX6_tap_29 fl_X6_53 oC_thought ?_
      refine V_iloadn_2 dX6_tap_32 ?_
      refine V_cv1n dX6_tap_33 cv_X6_170 (rcT tw85) (Nat.le_of_ble_eq_true rfl) (k_T_passHours (by omega) hP (by omega)) (fun σ h6 => ?_)
      replace hF := hF.tr h6.2
      replace hP := h6.1
      replace hC := hC.other h6.2 tw85 (by decide)
      have hT := hC.2.1.1
      have hH := hC.2.1
      have hX := hIP.hours (L := L) n
      obtain ⟨U, hUe⟩ : ∃ U, U = hoursT L n T := ⟨_, rfl⟩
      rw [← hUe] at hP hX
      have hU := hP.2.1.1
      have hHU := hP.2.1
      have hIU := hP.2.2.1
      have u5 := hX.2 0 5 (by decide) (by omega)
      have u10 := hX.2 0 10 (by decide) (by omega)
      refine V_aloadn_0 dX6_tap_36 ?_
      refine V_getR dX6_tap_37 fl_X6_53 oC_thought ?_
      refine V_cv0f dX6_tap_40 cv_X6_173 (rcT tw85) (Nat.le_of_ble_eq_true rfl) (k_T_fullOfAll (by omega) tw85 hU hIU) ?_
      refine V_aloadn_0 dX6_tap_43 ?_
      refine V_getR dX6_tap_44 fl_X6_53 oC_thought ?_
      refine V_iloadn_1 dX6_tap_47 ?_
      refine V_cv1f dX6_tap_48 cv_X6_88 (rcT tw85) (Nat.le_of_ble_eq_true rfl) (k_T_fullOf tw85 hU hIU (by omega)) ?_
      refine V_isubN (a := sumT U (U 0 5)) (b := fullT U c) dX6_tap_51 (fullT_le (by omega)) ?_
      refine V_istoren_3 dX6_tap_52 (by first | exact rfl | exact True.intro) (by decide) ?_
      refine V_aloadn_0 dX6_tap_53 ?_
      refine V_cv0n dX6_tap_54 cv_X6_183 rcC (Nat.le_of_ble_eq_true rfl) (k_C_think (by omega) hC (by omega)) (fun σ h5 => ?_)
      have hUe1 := hUe
      replace hF := hF.tr h5.2
      replace hP := h5.1
      replace hC := hC.other h5.2 tw85 (by decide)
      have hT := hC.2.1.1
      have hH := hC.2.1
      refine V_aloadn_0 dX6_tap_57 ?_
      refine V_getR dX6_tap_58 fl_X6_53 oC_thought ?_
      refine V_iloadn_1 dX6_tap_61 ?_
      refine V_cv1n dX6_tap_62 cv_X6_200 (rcT tw85) (Nat.le_of_ble_eq_true rfl) (k_T_empty (by omega) (by omega) (emp_TC0 hP hc) (by rw [emp_k (by decide)]; exact hc)) (fun σ h7 => ?_)
      have h8 := emp_TC hP hc h7
      replace hF := hF.tr h8.2
      replace hP := h8.1
      replace hIP := hP.2.2.1
      replace hC := hC.other h8.2 tw85 (by decide)
      have hT := hC.2.1.1
      have hH := hC.2.1
      refine V_aloadn_0 dX6_tap_65 ?_
      refine V_getR dX6_tap_66 fl_X6_53 oC_thought ?_
      refine V_iloadn_2 dX6_tap_69 ?_
      refine V_cv1n dX6_tap_70 cv_X6_170 (rcT tw85) (Nat.le_of_ble_eq_true rfl) (k_T_passHours (by omega) hP (by omega)) (fun σ h6 => ?_)
      replace hF := hF.tr h6.2
      replace hP := h6.1
      replace hC := hC.other h6.2 tw85 (by decide)
      have hT := hC.2.1.1
      have hH := hC.2.1
      have hX := hIP.hours (L := L) n
      obtain ⟨U, hUe⟩ : ∃ U, U = hoursT L n (emptyT T c) := ⟨_, rfl⟩
      rw [← hUe] at hP hX
      have hU := hP.2.1.1
      have hHU := hP.2.1
      have hIU := hP.2.2.1
      have u5 := hX.2 0 5 (by decide) (by omega)
      have u10 := hX.2 0 10 (by decide) (by omega)
      rw [emp_k (by decide)] at u5
      refine V_iloadn_3 dX6_tap_73 ?_
      refine V_aloadn_0 dX6_tap_74 ?_
      refine V_getR dX6_tap_75 fl_X6_53 oC_thought ?_
      refine V_cv0f dX6_tap_78 cv_X6_173 (rcT tw85) (Nat.le_of_ble_eq_true rfl) (k_T_fullOfAll (by omega) tw85 hU hIU) ?_
      refine V_aloadn_0 dX6_tap_81 ?_
      refine V_getR dX6_tap_82 fl_X6_53 oC_thought ?_
      refine V_iloadn_1 dX6_tap_85 ?_
      refine V_cv1f dX6_tap_86 cv_X6_88 (rcT tw85) (Nat.le_of_ble_eq_true rfl) (k_T_fullOf tw85 hU hIU (by omega)) ?_
      refine V_isubN (a := sumT U (U 0 5)) (b := fullT U c) dX6_tap_89 (fullT_le (by omega)) ?_
      refine V_isub dX6_tap_90 ?_
      exact V_iret dX6_tap_91 ⟨rI (by unfold tapI othN; rw [← hUe, ← hUe1]), hF.fi⟩
    · exact absurd (inN (a := 1) (b := 60) hn1.1 hn1.2 (by decide)) h18

set_option maxRecDepth 100000 in
set_option maxHeartbeats 4000000 in
theorem c_tap_bad {G : vG} {σ : vS} {d : Nat} (hd : 6 ≤ d) {L T : nT} {N : Nat} (hC : TC L N 61 T σ) {x y : Int32} (hb : ¬ (hasI x (T 0 5) ∧ inI y 1 60)) : Cf G yX6_tap cX6_tap 4 (some .int) d [.ref 0, .int x, .int y] σ (some (.int (-1000000001))) σ := by
  refine Ct.ofV (by decide) (Nat.le_of_ble_eq_true rfl) rfl ?_
  show V G RX6 cX6_tap (some .int) 4 d _ 0 [some (.ref 0), some (.int x), some (.int y), none] [] _
  obtain ⟨d, rfl⟩ : ∃ e, d = e + 1 := ⟨d - 1, by omega⟩
  obtain ⟨ht, hH, hI, hL, hLI, hN, hN2⟩ := id hC
  have hT := hH.1
  have hn := hI.nc
  have hm := hI.np
  refine V_aloadn_0 dX6_tap_0 ?_
  refine V_getR dX6_tap_1 fl_X6_46 oC_now ?_
  refine V_iloadn_1 dX6_tap_4 ?_
  refine V_cv1f dX6_tap_5 cv_X6_76 (rcT tw61) (Nat.le_of_ble_eq_true rfl) (k_T_hasCellar tw61 hT) ?_
  refine V_ifB_eq dX6_tap_8 21 (by decide) (fun h8 => ?_) (fun h8 => ?_)
  · refine V_ldc (-1000000001) dX6_tap_21 cn_X6_66 ?_
    exact V_iret dX6_tap_23 ⟨rfl, rfl⟩
  · refine V_iloadn_2 dX6_tap_11 ?_
    refine V_iconst 1 dX6_tap_12 (by decide) ?_
    refine V_bipush 60 dX6_tap_13 (by decide) ?_
    refine V_cs3f dX6_tap_15 cs_X6_108 (Nat.le_of_ble_eq_true rfl) k_C_within ?_
    refine V_ifB_ne dX6_tap_18 24 (by decide) (fun h18 => ?_) (fun h18 => ?_)
    · exact absurd ⟨h8, h18⟩ hb
    · refine V_ldc (-1000000001) dX6_tap_21 cn_X6_66 ?_
      exact V_iret dX6_tap_23 ⟨rfl, rfl⟩

set_option maxRecDepth 100000 in
set_option maxHeartbeats 4000000 in
theorem k_M_others {G : vG} {σ : vS} {d : Nat} (hd : 9 ≤ d) {L T : nT} (hC : MC L T σ) {σ0 : vS} (hK : BK σ0 σ) {c n : Nat} (hc : c < T 0 5) (hn60 : n ≤ 60) : Cr G yX7_othersBehind cX7_othersBehind 4 (some .int) d [.ref 97, .int (nI c), .int (nI n)] σ (some (.int (nI (othN (hoursT L n T) c)))) (fun σ' => σ' 98 = σ0 98 ∧ BK σ0 σ') := by
  refine Ct.ofV (by decide) (Nat.le_of_ble_eq_true rfl) rfl ?_
  show V G RX7 cX7_othersBehind (some .int) 4 d _ 0 [some (.ref 97), some (.int (nI c)), some (.int (nI n)), none] [] _
  obtain ⟨d, rfl⟩ : ∃ e, d = e + 1 := ⟨d - 1, by omega⟩
  have hI := hC.2.2.1
  have hn := hI.nc
  have hm := hI.np
  have hIP := hI
  refine V_aloadn_0 dX7_othersBehind_0 ?_
  refine V_iloadn_2 dX7_othersBehind_1 ?_
  refine V_cv1n dX7_othersBehind_2 cv_X7_171 rcM (Nat.le_of_ble_eq_true rfl) (k_M_goesOn (by omega) hC (by omega)) (fun σ2 h2 => ?_)
  replace hC := h2.1
  replace hK := hK.fm h2.2
  have hX := hIP.hours (L := L) n
  obtain ⟨U, hUe⟩ : ∃ U, U = hoursT L n T := ⟨_, rfl⟩
  rw [← hUe] at hC hX
  have hIU := hC.2.2.1
  have u5 := hX.2 0 5 (by decide) (by omega)
  have u10 := hX.2 0 10 (by decide) (by omega)
  refine V_aloadn_0 dX7_othersBehind_5 ?_
  refine V_cv0f dX7_othersBehind_6 cv_X7_174 rcM (Nat.le_of_ble_eq_true rfl) (k_M_fullOfAll (by omega) hC) ?_
  refine V_aloadn_0 dX7_othersBehind_9 ?_
  refine V_iloadn_1 dX7_othersBehind_10 ?_
  refine V_cv1f dX7_othersBehind_11 cv_X7_96 rcM (Nat.le_of_ble_eq_true rfl) (k_M_fullOf (by omega) hC (by omega)) ?_
  refine V_isubN (a := sumT U (U 0 5)) (b := fullT U c) dX7_othersBehind_14 (fullT_le (by omega)) ?_
  refine V_istoren_3 dX7_othersBehind_15 (by first | exact rfl | exact True.intro) (by decide) ?_
  refine V_aloadn_0 dX7_othersBehind_16 ?_
  refine V_cv0v dX7_othersBehind_17 cv_X7_183 rcM (Nat.le_of_ble_eq_true rfl) k_M_putsBack ?_
  refine V_iloadn_3 dX7_othersBehind_20 ?_
  exact V_iret dX7_othersBehind_21 ⟨rN (by unfold othN; rw [← hUe]), hK.put98, hK.put⟩

set_option maxRecDepth 100000 in
set_option maxHeartbeats 4000000 in
theorem m_tap {G : vG} {σ : vS} {d : Nat} (hd : 10 ≤ d) {L T : nT} (hC : MC L T σ) {c n : Nat} (hc : c < T 0 5) (hn1 : 1 ≤ n ∧ n ≤ 60) : Cr G yX7_tap cX7_tap 5 (some .int) d [.ref 97, .int (nI c), .int (nI n)] σ (some (.int (tapI L T c n))) (fun σ' => FI σ σ') := by
  refine Ct.ofV (by decide) (Nat.le_of_ble_eq_true rfl) rfl ?_
  show V G RX7 cX7_tap (some .int) 5 d _ 0 [some (.ref 97), some (.int (nI c)), some (.int (nI n)), none, none] [] _
  obtain ⟨d, rfl⟩ : ∃ e, d = e + 1 := ⟨d - 1, by omega⟩
  have hI := hC.2.2.1
  have hn := hI.nc
  have hm := hI.np
  refine V_aloadn_0 dX7_tap_0 ?_
  refine V_iloadn_1 dX7_tap_1 ?_
  refine V_cv1f dX7_tap_2 cv_X7_112 rcM (Nat.le_of_ble_eq_true rfl) (k_M_isCellar (by omega) hC) ?_
  refine V_ifB_eq dX7_tap_5 18 (by decide) (fun h5 => ?_) (fun h5 => ?_)
  · exact absurd (hasN hc (by omega)) h5
  · refine V_iloadn_2 dX7_tap_8 ?_
    refine V_iconst 1 dX7_tap_9 (by decide) ?_
    refine V_bipush 60 dX7_tap_10 (by decide) ?_
    refine V_cs3f dX7_tap_12 cs_X7_82 (Nat.le_of_ble_eq_true rfl) k_M_in ?_
    refine V_ifB_ne dX7_tap_15 21 (by decide) (fun h15 => ?_) (fun h15 => ?_)
    · refine V_aloadn_0 dX7_tap_21 ?_
      refine V_cv0v dX7_tap_22 cv_X7_180 rcM (Nat.le_of_ble_eq_true rfl) k_M_thinks ?_
      refine V_abs (fun σ1 => BK σ σ1 ∧ MC L T σ1) ⟨BK.think (fun _ _ _ _ _ _ => rfl), hC.thk⟩ (fun σ1 h1 => ?_)
      have hC0 := hC
      have hK := h1.1
      replace hC := h1.2
      refine V_aloadn_0 dX7_tap_25 ?_
      refine V_iloadn_1 dX7_tap_26 ?_
      refine V_iloadn_2 dX7_tap_27 ?_
      refine V_cv2r dX7_tap_28 cv_X7_189 rcM (Nat.le_of_ble_eq_true rfl) (k_M_others (by omega) hC hK hc hn1.2) (fun σ2 h2 => ?_)
      obtain ⟨h98, hK2⟩ := h2
      replace hC := hC0.e98 h98
      refine V_istoren_3 dX7_tap_31 (by first | exact rfl | exact True.intro) (by decide) ?_
      refine V_iconst 0 dX7_tap_32 (by decide) ?_
      refine V_istore_4 dX7_tap_33 (by first | exact rfl | exact True.intro) (by decide) ?_
      refine V_iload_4 dX7_tap_35 ?_
      refine V_iconst 3 dX7_tap_37 (by decide) ?_
      refine V_icmp_ge_f dX7_tap_38 65 (by decide) (by decide) ?_
      refine V_aloadn_0 dX7_tap_41 ?_
      refine V_getR dX7_tap_42 fl_X7_9 oM_now ?_
      refine V_bipush 7 dX7_tap_45 (by decide) ?_
      refine V_bipush 6 dX7_tap_47 (by decide) ?_
      refine V_iloadn_1 dX7_tap_49 ?_
      refine V_imulN (a := 6) (b := c) dX7_tap_50 ?_
      refine V_iaddN (a := 7) (b := 6 * c) dX7_tap_51 ?_
      refine V_iconst 3 dX7_tap_52 (by decide) ?_
      refine V_iaddN (a := 7 + (6 * c)) (b := 3) dX7_tap_53 ?_
      refine V_iload_4 dX7_tap_54 ?_
      refine V_iaddN (a := (7 + (6 * c)) + 3) (b := 0) dX7_tap_56 ?_
      refine V_iconst 0 dX7_tap_57 (by decide) ?_
      refine V_iast (j := ((7 + (6 * c)) + 3) + 0) dX7_tap_58 aM_now (by omega) (by decide) ?_
      refine V_iinc_4 dX7_tap_59 (by first | exact rfl | exact True.intro) (by decide) 1 (by decide) ?_
      refine V_goto dX7_tap_62 35 (by decide) ?_
      refine V_iload_4 dX7_tap_35 ?_
      refine V_iconst 3 dX7_tap_37 (by decide) ?_
      refine V_icmp_ge_f dX7_tap_38 65 (by decide) (by decide) ?_
      refine V_aloadn_0 dX7_tap_41 ?_
      refine V_getR dX7_tap_42 fl_X7_9 oM_now ?_
      refine V_bipush 7 dX7_tap_45 (by decide) ?_
      refine V_bipush 6 dX7_tap_47 (by decide) ?_
      refine V_iloadn_1 dX7_tap_49 ?_
      refine V_imulN (a := 6) (b := c) dX7_tap_50 ?_
      refine V_iaddN (a := 7) (b := 6 * c) dX7_tap_51 ?_
      refine V_iconst 3 dX7_tap_52 (by decide) ?_
      refine V_iaddN (a := 7 + (6 * c)) (b := 3) dX7_tap_53 ?_
      refine V_iload_4 dX7_tap_54 ?_
      refine V_iaddN (a := (7 + (6 * c)) + 3) (b := 1) dX7_tap_56 ?_
      refine V_iconst 0 dX7_tap_57 (by decide) ?_
      refine V_iast (j := ((7 + (6 * c)) + 3) + 1) dX7_tap_58 aM_now (by omega) (by decide) ?_
      refine V_iinc_4 dX7_tap_59 (by first | exact rfl | exact True.intro) (by decide) 2 (by decide) ?_
      refine V_goto dX7_tap_62 35 (by decide) ?_
      refine V_iload_4 dX7_tap_35 ?_
      refine V_iconst 3 dX7_tap_37 (by decide) ?_
      refine V_icmp_ge_f dX7_tap_38 65 (by decide) (by decide) ?_
      refine V_aloadn_0 dX7_tap_41 ?_
      refine V_getR dX7_tap_42 fl_X7_9 oM_now ?_
      refine V_bipush 7 dX7_tap_45 (by decide) ?_
      refine V_bipush 6 dX7_tap_47 (by decide) ?_
      refine V_iloadn_1 dX7_tap_49 ?_
      refine V_imulN (a := 6) (b := c) dX7_tap_50 ?_
      refine V_iaddN (a := 7) (b := 6 * c) dX7_tap_51 ?_
      refine V_iconst 3 dX7_tap_52 (by decide) ?_
      refine V_iaddN (a := 7 + (6 * c)) (b := 3) dX7_tap_53 ?_
      refine V_iload_4 dX7_tap_54 ?_
      refine V_iaddN (a := (7 + (6 * c)) + 3) (b := 2) dX7_tap_56 ?_
      refine V_iconst 0 dX7_tap_57 (by decide) ?_
      refine V_iast (j := ((7 + (6 * c)) + 3) + 2) dX7_tap_58 aM_now (by omega) (by decide) ?_
      refine V_iinc_4 dX7_tap_59 (by first | exact rfl | exact True.intro) (by decide) 3 (by decide) ?_
      refine V_goto dX7_tap_62 35 (by decide) ?_
      refine V_iload_4 dX7_tap_35 ?_
      refine V_iconst 3 dX7_tap_37 (by decide) ?_
      refine V_icmp_ge_t dX7_tap_38 65 (by decide) (by decide) ?_
      refine V_abs (fun σ3 => MC L (emptyT T c) σ3 ∧ BK σ σ3) ⟨(emp_MC hC hc).1, hK2.fm (emp_MC hC hc).2⟩ (fun σ3 h3 => ?_)
      refine V_iloadn_3 dX7_tap_65 ?_
      refine V_aloadn_0 dX7_tap_66 ?_
      refine V_iloadn_1 dX7_tap_67 ?_
      refine V_iloadn_2 dX7_tap_68 ?_
      refine V_cv2r dX7_tap_69 cv_X7_189 rcM (Nat.le_of_ble_eq_true rfl) (k_M_others (by omega) h3.1 h3.2 (by rw [emp_k (by decide)]; exact hc) hn1.2) (fun σ4 h4 => ?_)
      refine V_isub dX7_tap_72 ?_
      exact V_iret dX7_tap_73 ⟨rfl, h4.2.fi h4.1⟩
    · exact absurd (inN (a := 1) (b := 60) hn1.1 hn1.2 (by decide)) h15

set_option maxRecDepth 100000 in
set_option maxHeartbeats 4000000 in
theorem m_tap_bad {G : vG} {σ : vS} {d : Nat} (hd : 10 ≤ d) {L T : nT} (hC : MC L T σ) {x y : Int32} (hb : ¬ (hasI x (T 0 5) ∧ inI y 1 60)) : Cf G yX7_tap cX7_tap 5 (some .int) d [.ref 97, .int x, .int y] σ (some (.int (-1000000001))) σ := by
  refine Ct.ofV (by decide) (Nat.le_of_ble_eq_true rfl) rfl ?_
  show V G RX7 cX7_tap (some .int) 5 d _ 0 [some (.ref 97), some (.int x), some (.int y), none, none] [] _
  obtain ⟨d, rfl⟩ : ∃ e, d = e + 1 := ⟨d - 1, by omega⟩
  have hI := hC.2.2.1
  have hn := hI.nc
  have hm := hI.np
  refine V_aloadn_0 dX7_tap_0 ?_
  refine V_iloadn_1 dX7_tap_1 ?_
  refine V_cv1f dX7_tap_2 cv_X7_112 rcM (Nat.le_of_ble_eq_true rfl) (k_M_isCellar (by omega) hC) ?_
  refine V_ifB_eq dX7_tap_5 18 (by decide) (fun h5 => ?_) (fun h5 => ?_)
  · refine V_ldc (-1000000001) dX7_tap_18 cn_X7_86 ?_
    exact V_iret dX7_tap_20 ⟨rfl, rfl⟩
  · refine V_iloadn_2 dX7_tap_8 ?_
    refine V_iconst 1 dX7_tap_9 (by decide) ?_
    refine V_bipush 60 dX7_tap_10 (by decide) ?_
    refine V_cs3f dX7_tap_12 cs_X7_82 (Nat.le_of_ble_eq_true rfl) k_M_in ?_
    refine V_ifB_ne dX7_tap_15 21 (by decide) (fun h15 => ?_) (fun h15 => ?_)
    · exact absurd ⟨h5, h15⟩ hb
    · refine V_ldc (-1000000001) dX7_tap_18 cn_X7_86 ?_
      exact V_iret dX7_tap_20 ⟨rfl, rfl⟩

set_option maxRecDepth 100000 in
set_option maxHeartbeats 4000000 in
theorem op_tap {G : vG} {σ : vS} {d i : Nat} (hd : 100 ≤ d) (hi : i < 512) {x y : Int32} (h : Inv i σ) : Op G yX6_tap cX6_tap 4 yX7_tap cX7_tap 5 d [.int x, .int y] i σ := by
  have hh := h
  obtain ⟨L, T, I, b, hT, hB, hM, hS, hO, hW, hR, hK⟩ := h
  have hC := hT.1
  have hE := hT.2.1
  have hI := hC.2.2.1
  have hn := hI.nc
  have hm := hI.np
  by_cases hx : hasI x (T 0 5) ∧ inI y 1 60
  · obtain ⟨c, hc, rfl⟩ := (hasI_iff (by omega)).mp hx.1
    obtain ⟨n, hn1, hn2, rfl⟩ := (inI_iff' (a := 1) (b := 60) (by decide) (by decide)).mp hx.2
    exact Op.ask hh (c_tap (by omega) hC hT.2.2.2.1 hc ⟨hn1, hn2⟩) (fun σ1 f1 => m_tap (by omega) (hE.fi f1) hc ⟨hn1, hn2⟩)
  · exact Op.ask hh (Cf.fi (c_tap_bad (by omega) hC hx)) (fun σ1 f1 => Cf.fi (m_tap_bad (by omega) (hE.fi f1) hx))

set_option maxRecDepth 100000 in
set_option maxHeartbeats 4000000 in
theorem k_S_isMissing {G : vG} {σ : vS} {d : Nat} {w : Nat} (hw : Shp w) : Cf G yX3_isMissing cX3_isMissing 1 (some .boolean) d [.ref w] σ (some (.int (bI (σ w 0 = -1)))) σ := by
  refine Ct.ofV (by decide) (Nat.le_of_ble_eq_true rfl) rfl ?_
  show V G RX3 cX3_isMissing (some .boolean) 1 d _ 0 [some (.ref w)] [] _
  refine V_aloadn_0 dX3_isMissing_0 ?_
  refine V_getI dX3_isMissing_1 fl_X3_11 (oS_sort hw) ?_
  refine V_iconst (-1) dX3_isMissing_4 (by decide) ?_
  refine V_icmp_ne dX3_isMissing_5 12 (by decide) (fun h5 => ?_) (fun h5 => ?_)
  · refine V_iconst 0 dX3_isMissing_12 (by decide) ?_
    exact V_zret dX3_isMissing_13 (by decide) ⟨rB0 (fun q => by first | exact absurd q h5 | exact h5 q), rfl⟩
  · refine V_iconst 1 dX3_isMissing_8 (by decide) ?_
    refine V_goto dX3_isMissing_9 13 (by decide) ?_
    exact V_zret dX3_isMissing_13 (by decide) ⟨rB1 h5, rfl⟩

set_option maxRecDepth 100000 in
set_option maxHeartbeats 4000000 in
theorem k_S_hasPlace {G : vG} {σ : vS} {d : Nat} {w z : Nat} (hw : Shp w) (hz : σ w 1 = nI z) {x : Int32} : Cf G yX3_hasPlace cX3_hasPlace 2 (some .boolean) d [.ref w, .int x] σ (some (.int (bI (hasI x z)))) σ := by
  refine Ct.ofV (by decide) (Nat.le_of_ble_eq_true rfl) rfl ?_
  show V G RX3 cX3_hasPlace (some .boolean) 2 d _ 0 [some (.ref w), some (.int x)] [] _
  refine V_iloadn_1 dX3_hasPlace_0 ?_
  refine V_if_lt dX3_hasPlace_1 16 (by decide) (fun h1 => ?_) (fun h1 => ?_)
  · refine V_iconst 0 dX3_hasPlace_16 (by decide) ?_
    exact V_zret dX3_hasPlace_17 (by decide) ⟨rB0 (fun q => by first | exact absurd h1 q.1 | exact absurd h9 q.2), rfl⟩
  · refine V_iloadn_1 dX3_hasPlace_4 ?_
    refine V_aloadn_0 dX3_hasPlace_5 ?_
    refine V_getI dX3_hasPlace_6 fl_X3_19 (oS_size hw) ?_
    refine V_topi (y := nI z) hz ?_
    refine V_icmp_ge dX3_hasPlace_9 16 (by decide) (fun h9 => ?_) (fun h9 => ?_)
    · refine V_iconst 0 dX3_hasPlace_16 (by decide) ?_
      exact V_zret dX3_hasPlace_17 (by decide) ⟨rB0 (fun q => by first | exact absurd h1 q.1 | exact absurd h9 q.2), rfl⟩
    · refine V_iconst 1 dX3_hasPlace_12 (by decide) ?_
      refine V_goto dX3_hasPlace_13 17 (by decide) ?_
      exact V_zret dX3_hasPlace_17 (by decide) ⟨rB1 ⟨h1, h9⟩, rfl⟩

set_option maxRecDepth 100000 in
set_option maxHeartbeats 4000000 in
theorem k_S_hasNumber {G : vG} {σ : vS} {d : Nat} (hd : 1 ≤ d) {w z : Nat} (hw : Shp w) (hz : σ w 1 = nI z) (hz24 : z ≤ 24) {k : Nat} (hk : k < 2 ^ 31) : Cf G yX3_hasNumber cX3_hasNumber 2 (some .boolean) d [.ref w, .int (nI k)] σ (some (.int (bI (k < z ∧ σ (w + 1) k ≠ -1000000005)))) σ := by
  refine Ct.ofV (by decide) (Nat.le_of_ble_eq_true rfl) rfl ?_
  show V G RX3 cX3_hasNumber (some .boolean) 2 d _ 0 [some (.ref w), some (.int (nI k))] [] _
  obtain ⟨d, rfl⟩ : ∃ e, d = e + 1 := ⟨d - 1, by omega⟩
  refine V_aloadn_0 dX3_hasNumber_0 ?_
  refine V_iloadn_1 dX3_hasNumber_1 ?_
  refine V_cv1f dX3_hasNumber_2 cv_X3_22 (rcS hw) (Nat.le_of_ble_eq_true rfl) (k_S_hasPlace hw hz) ?_
  refine V_ifB_eq dX3_hasNumber_5 23 (by decide) (fun h5 => ?_) (fun h5 => ?_)
  · refine V_iconst 0 dX3_hasNumber_23 (by decide) ?_
    exact V_zret dX3_hasNumber_24 (by decide) ⟨rB0 (fun q => h5 (hasN q.1 (by omega))), rfl⟩
  · have hkz : k < z := by
      obtain ⟨j, hj, e⟩ := (hasI_iff (by omega)).mp h5
      have := (nI_eq hk (by omega)).mp e
      omega
    refine V_aloadn_0 dX3_hasNumber_8 ?_
    refine V_getR dX3_hasNumber_9 fl_X3_15 (oS_places hw) ?_
    refine V_iloadn_1 dX3_hasNumber_12 ?_
    refine V_iald (j := k) dX3_hasNumber_13 (aS_places hw) (by omega) (by decide) ?_
    refine V_ldc (-1000000005) dX3_hasNumber_14 cn_X3_26 ?_
    refine V_icmp_eq dX3_hasNumber_16 23 (by decide) (fun h16 => ?_) (fun h16 => ?_)
    · refine V_iconst 0 dX3_hasNumber_23 (by decide) ?_
      exact V_zret dX3_hasNumber_24 (by decide) ⟨rB0 (fun q => q.2 h16), rfl⟩
    · refine V_iconst 1 dX3_hasNumber_19 (by decide) ?_
      refine V_goto dX3_hasNumber_20 24 (by decide) ?_
      exact V_zret dX3_hasNumber_24 (by decide) ⟨rB1 ⟨hkz, h16⟩, rfl⟩

/-! ===== dug ===== -/
theorem bm32 {x : Int} (h1 : -2147483648 ≤ x) (h2 : x < 2147483648) : x.bmod (2 ^ 32) = x := by
  have e : ((2 ^ 32 : Nat) : Int) = 4294967296 := by decide
  exact Int.bmod_eq_of_le (by rw [e]; omega) (by rw [e]; omega)
theorem bm64 {x : Int} (h1 : -9223372036854775808 ≤ x) (h2 : x < 9223372036854775808) : x.bmod (2 ^ 64) = x := by
  have e : ((2 ^ 64 : Nat) : Int) = 18446744073709551616 := by decide
  exact Int.bmod_eq_of_le (by rw [e]; omega) (by rw [e]; omega)
def daN (x : Int32) (l : Nat) : Nat := if x = -1000000005 then 0 else if x.toInt ≤ l then ((l : Int) - x.toInt).toNat else (x.toInt - l).toNat
def dsN (L T : nT) (c : Nat) (v : Nat → Int32) : Nat → Nat
  | 0 => 0
  | k + 1 => dsN L T c v k + daN (v k) (levT L (hoursT L k T) c)
theorem okV.r {x : Int32} (h : okV x) (hn : x ≠ -1000000005) : -99999 ≤ x.toInt ∧ x.toInt ≤ 99999 := h.elim (fun e => absurd e hn) id
theorem da_le {x : Int32} {l : Nat} (h : okV x) (hl : l ≤ 1099) : daN x l ≤ 101098 := by
  unfold daN
  split
  · omega
  · rename_i hn
    have := h.r hn
    split <;> omega
theorem ds_le {L T : nT} {c : Nat} {v : Nat → Int32} (hI : TI T) (hc : c < T 0 5) : ∀ k, (∀ j, j < k → okV (v j)) → dsN L T c v k ≤ 101098 * k := by
  intro k
  induction k with
  | zero => intro _; exact Nat.le_refl _
  | succ k ih =>
    intro h
    have h1 := ih (fun j hj => h j (by omega))
    have hX := hI.hours (L := L) k
    have h2 := da_le (h k (by omega)) (levT_le (L := L) (c := c) hX.1 (by rw [hX.2 0 5 (by decide) (by omega)]; exact hc))
    simp only [dsN]
    omega
theorem ds_none {L T : nT} {c k : Nat} {v : Nat → Int32} (h : v k = -1000000005) : dsN L T c v (k + 1) = dsN L T c v k := by
  simp only [dsN, daN, if_pos h, Nat.add_zero]
theorem abs_da {l : Nat} {x : Int32} (hx : okV x) (hn : x ≠ -1000000005) (hl : l ≤ 1099) : (if (0 : Int32) ≤ nI l - x then nI l - x else 0 - (nI l - x)) = nI (daN x l) := by
  have hr := hx.r hn
  have ey : (nI l - x).toInt = l - x.toInt := by
    rw [Int32.toInt_sub, nI_toInt (by omega), bm32 (by omega) (by omega)]
  have hd := da_le hx hl
  have e0 : (0 : Int32).toInt = 0 := by decide
  apply Int32.toInt_inj.mp
  rw [nI_toInt (by omega)]
  unfold daN
  rw [if_neg hn]
  by_cases h : (0 : Int32) ≤ nI l - x
  · rw [if_pos h, ey]
    rw [Int32.le_iff_toInt_le, ey, e0] at h
    rw [if_pos (by omega)]
    omega
  · rw [if_neg h, Int32.toInt_sub, ey, e0, bm32 (by omega) (by omega)]
    rw [Int32.le_iff_toInt_le, ey, e0] at h
    rw [if_neg (by omega)]
    omega
theorem off_to {l : Nat} {x : Int32} (hx : okV x) (hn : x ≠ -1000000005) (hl : l ≤ 1099) : (x.toInt64 - (nI l).toInt64).toInt = x.toInt - l := by
  have hr := hx.r hn
  rw [Int64.toInt_sub, Int32.toInt_toInt64, Int32.toInt_toInt64, nI_toInt (by omega), bm64 (by omega) (by omega)]
theorem off_ge {a l : Nat} {x : Int32} (ha : a < 2 ^ 30) (hx : okV x) (hn : x ≠ -1000000005) (hl : l ≤ 1099) (h : 0 ≤ lg_cmp (x.toInt64 - (nI l).toInt64) 0) : lN a + (x.toInt64 - (nI l).toInt64) = lN (a + daN x l) := by
  have hr := hx.r hn
  have ey := off_to hx hn hl
  have hd := da_le hx hl
  have e0 : (0 : Int64).toInt = 0 := by decide
  rw [lg_cmp_ge, Int64.le_iff_toInt_le, ey, e0] at h
  apply Int64.toInt_inj.mp
  rw [Int64.toInt_add, ey, lN_toInt (by omega), lN_toInt (by omega), bm64 (by omega) (by omega)]
  unfold daN
  rw [if_neg hn]
  split <;> omega
theorem off_lt {a l : Nat} {x : Int32} (ha : a < 2 ^ 30) (hx : okV x) (hn : x ≠ -1000000005) (hl : l ≤ 1099) (h : ¬ 0 ≤ lg_cmp (x.toInt64 - (nI l).toInt64) 0) : lN a + -(x.toInt64 - (nI l).toInt64) = lN (a + daN x l) := by
  have hr := hx.r hn
  have ey := off_to hx hn hl
  have hd := da_le hx hl
  have e0 : (0 : Int64).toInt = 0 := by decide
  rw [lg_cmp_ge, Int64.le_iff_toInt_le, ey, e0] at h
  apply Int64.toInt_inj.mp
  rw [Int64.toInt_add, Int64.toInt_neg, ey, lN_toInt (by omega), lN_toInt (by omega), bm64 (x := -(x.toInt - (l : Int))) (by omega) (by omega), bm64 (by omega) (by omega)]
  unfold daN
  rw [if_neg hn]
  split <;> omega
theorem hours_pred {L T : nT} {k : Nat} (h : 0 < k) : hourT L (hoursT L (k - 1) T) = hoursT L k T := by
  cases k with
  | zero => omega
  | succ k => rfl
def dqF (L T : nT) (c : Nat) (v : Nat → Int32) (z : Nat) : Nat → Option Nat × Nat
  | 0 => (none, dsN L T c v z)
  | p + 1 => if dsN L (Tup T 9 p 1) c v z < (dqF L T c v z p).2 then (some p, dsN L (Tup T 9 p 1) c v z) else dqF L T c v z p
theorem dqF_s {L T : nT} {c z p : Nat} {v : Nat → Int32} : dqF L T c v z (p + 1) = if dsN L (Tup T 9 p 1) c v z < (dqF L T c v z p).2 then (some p, dsN L (Tup T 9 p 1) c v z) else dqF L T c v z p := rfl
def bq (e : Int32) (o : Option Nat) : Int32 := match o with | none => e | some p => nI p
theorem dq_ok {L T : nT} {c z : Nat} {v : Nat → Int32} : ∀ p, ∀ j, (dqF L T c v z p).1 = some j → j < p := by
  intro p
  induction p with
  | zero => intro j h; cases h
  | succ p ih =>
    intro j h
    rw [dqF_s] at h
    split at h
    · cases h; omega
    · have := ih j h; omega
theorem dq_le {L T : nT} {c z : Nat} {v : Nat → Int32} : ∀ p, (dqF L T c v z p).2 ≤ dsN L T c v z := by
  intro p
  induction p with
  | zero => exact Nat.le_refl _
  | succ p ih =>
    rw [dqF_s]
    split
    · rename_i h; exact Nat.le_trans (Nat.le_of_lt h) ih
    · exact ih
theorem bq_told {o : Option Nat} (h : ∀ j, o = some j → j < 100) : (if bq (-1) o < 0 then (-1000000005 : Int32) else bq (-1) o) = bq (-1000000005) o := by
  cases o with
  | none => rfl
  | some j => exact if_neg (nI_pos (by have := h j rfl; omega))
def dqA (w : Nat) (q : Option Nat × Nat) : Int32 := if w = 0 then bq (-1000000005) q.1 else nI q.2

set_option maxRecDepth 100000 in
set_option maxHeartbeats 4000000 in
theorem lp_C_diff {G : vG} {d : Nat} {σ0 : vS} {L T : nT} {N : Nat} {s c z : Nat} {v : Nat → Int32} (hs : s < 4) (hc : c < T 0 5) (hd : 5 ≤ d + 1) (hI : TI T) (hz : σ0 (37 + 2 * s) 1 = nI z) (hz24 : z ≤ 24) (hv : ∀ k, k < 24 → σ0 (37 + 2 * s + 1) k = v k) (hok : ∀ k, k < 24 → okV (v k)) : ∀ (k : Nat) (k1 : Nat) (σ : vS), (TC L N 85 (hoursT L (k1 - 1) T) σ ∧ Fr 85 σ0 σ ∧ k1 ≤ z) → z - k1 < k → V G RX6 cX6_differenceFromThought (some .int) 5 (d + 1) (fun r' σ' => r' = some (.int (nI (dsN L T c v z))) ∧ Fr 85 σ0 σ') 5 [some (.ref 0), some (.ref (37 + 2 * s)), some (.int (nI c)), some (.int (nI (dsN L T c v k1))), some (.int (nI k1))] [] σ := by
  intro k
  induction k with
  | zero => intros; omega
  | succ k ih =>
    intro k1 σ hh hk
    obtain ⟨hP, hF, hkz⟩ := hh
    have e00 : σ (37 + 2 * s) = σ0 (37 + 2 * s) := hF (37 + 2 * s) (by omega) (by omega)
    have hdl := ds_le (L := L) (v := v) hI hc k1 (fun j hj => hok j (by omega))
    refine V_iload_4 dX6_differenceFromThought_5 ?_
    refine V_aloadn_1 dX6_differenceFromThought_7 ?_
    refine V_getI dX6_differenceFromThought_8 fl_X6_276 (oS_size (Or.inl ⟨_, hs, rfl⟩)) ?_
    refine V_topi (y := nI z) (by rw [e00]; exact hz) ?_
    refine V_icmpN_ge (a := k1) (b := z) dX6_differenceFromThought_11 63 (by decide) (by omega) (by omega) (fun h11 => ?_) (fun h11 => ?_)
    · refine V_iloadn_3 dX6_differenceFromThought_63 ?_
      exact V_iret dX6_differenceFromThought_64 ⟨rN (by rw [show z = k1 by omega]), hF⟩
    · refine V_iload_4 dX6_differenceFromThought_14 ?_
      refine V_ifN_le (a := k1) dX6_differenceFromThought_16 26 (by decide) (by omega) (fun h16 => ?_) (fun h16 => ?_)
      · have hQ : TC L N 85 (hoursT L k1 T) σ := by rw [h16] at hP ⊢; exact hP
        have hHU : TA L 85 (hoursT L k1 T) _ := hQ.2.1
        have hIU := hQ.2.2.1
        have hX := hI.hours (L := L) k1
        have u5 := hX.2 0 5 (by decide) (by omega)
        have e0 : _ = σ0 (37 + 2 * s) := hF (37 + 2 * s) (by omega) (by omega)
        have e1 : _ = σ0 (37 + 2 * s + 1) := hF (37 + 2 * s + 1) (by omega) (by omega)
        refine V_aloadn_1 dX6_differenceFromThought_26 ?_
        refine V_iload_4 dX6_differenceFromThought_27 ?_
        refine V_cv1f dX6_differenceFromThought_29 cv_X6_270 (rcS (Or.inl ⟨_, hs, rfl⟩)) (Nat.le_of_ble_eq_true rfl) (k_S_hasNumber (by omega) (Or.inl ⟨_, hs, rfl⟩) (by rw [e0]; exact hz) hz24 (by omega)) ?_
        refine V_ifB_eq dX6_differenceFromThought_32 57 (by decide) (fun h32 => ?_) (fun h32 => ?_)
        · refine V_iinc_4 dX6_differenceFromThought_57 (by first | exact rfl | exact True.intro) (by decide) (nI (k1 + 1)) (nI_inc _) ?_
          refine V_goto dX6_differenceFromThought_60 5 (by decide) ?_
          have hnn : v k1 = -1000000005 := by
            rcases Classical.em (v k1 = -1000000005) with q | q
            · exact q
            · exact absurd ⟨by omega, fun e => q (by rw [← hv k1 (by omega), ← e1]; exact e)⟩ h32
          refine V_lo (lo' := [some (.ref 0), some (.ref (37 + 2 * s)), some (.int (nI c)), some (.int (nI (dsN L T c v (k1 + 1)))), some (.int (nI (k1 + 1)))]) (by rw [ds_none hnn]) ?_
          exact ih (k1 + 1) _ ⟨hQ, hF, by omega⟩ (by omega)
        · refine V_iloadn_3 dX6_differenceFromThought_35 ?_
          refine V_aloadn_0 dX6_differenceFromThought_36 ?_
          refine V_getR dX6_differenceFromThought_37 fl_X6_53 oC_thought ?_
          refine V_iloadn_2 dX6_differenceFromThought_40 ?_
          refine V_cv1f dX6_differenceFromThought_41 cv_X6_95 (rcT tw85) (Nat.le_of_ble_eq_true rfl) (k_T_levelOf tw85 hHU hIU (by omega)) ?_
          refine V_aloadn_1 dX6_differenceFromThought_44 ?_
          refine V_getR dX6_differenceFromThought_45 fl_X6_267 (oS_places (Or.inl ⟨_, hs, rfl⟩)) ?_
          refine V_iload_4 dX6_differenceFromThought_48 ?_
          refine V_iald (j := k1) dX6_differenceFromThought_50 (aS_places (Or.inl ⟨_, hs, rfl⟩)) (by omega) (by decide) ?_
          refine V_isub dX6_differenceFromThought_51 ?_
          refine V_mabs dX6_differenceFromThought_52 ml_X6_325 (Nat.le_of_ble_eq_true rfl) ?_
          refine V_iadd dX6_differenceFromThought_55 ?_
          refine V_topi (y := nI (dsN L T c v (k1 + 1))) (by rw [e1, hv k1 (by omega), abs_da (hok k1 (by omega)) (fun e => h32.2 (by rw [e1, hv k1 (by omega)]; exact e)) (levT_le hIU (by omega)), nI_add]; rfl) ?_
          refine V_istoren_3 dX6_differenceFromThought_56 (by first | exact rfl | exact True.intro) (by decide) ?_
          refine V_iinc_4 dX6_differenceFromThought_57 (by first | exact rfl | exact True.intro) (by decide) (nI (k1 + 1)) (nI_inc _) ?_
          refine V_goto dX6_differenceFromThought_60 5 (by decide) ?_
          refine ih (k1 + 1) _ ⟨hQ, hF, by omega⟩ (by omega)
      · refine V_aloadn_0 dX6_differenceFromThought_19 ?_
        refine V_getR dX6_differenceFromThought_20 fl_X6_53 oC_thought ?_
        refine V_cv0n dX6_differenceFromThought_23 cv_X6_186 (rcT tw85) (Nat.le_of_ble_eq_true rfl) (k_T_oneHour (by omega) hP) (fun σ h9 => ?_)
        replace hF := hF.tr h9.2
        have hQ : TC L N 85 (hoursT L k1 T) σ := by rw [← hours_pred h16]; exact h9.1
        have hHU : TA L 85 (hoursT L k1 T) _ := hQ.2.1
        have hIU := hQ.2.2.1
        have hX := hI.hours (L := L) k1
        have u5 := hX.2 0 5 (by decide) (by omega)
        have e0 : _ = σ0 (37 + 2 * s) := hF (37 + 2 * s) (by omega) (by omega)
        have e1 : _ = σ0 (37 + 2 * s + 1) := hF (37 + 2 * s + 1) (by omega) (by omega)
        refine V_aloadn_1 dX6_differenceFromThought_26 ?_
        refine V_iload_4 dX6_differenceFromThought_27 ?_
        refine V_cv1f dX6_differenceFromThought_29 cv_X6_270 (rcS (Or.inl ⟨_, hs, rfl⟩)) (Nat.le_of_ble_eq_true rfl) (k_S_hasNumber (by omega) (Or.inl ⟨_, hs, rfl⟩) (by rw [e0]; exact hz) hz24 (by omega)) ?_
        refine V_ifB_eq dX6_differenceFromThought_32 57 (by decide) (fun h32 => ?_) (fun h32 => ?_)
        · refine V_iinc_4 dX6_differenceFromThought_57 (by first | exact rfl | exact True.intro) (by decide) (nI (k1 + 1)) (nI_inc _) ?_
          refine V_goto dX6_differenceFromThought_60 5 (by decide) ?_
          have hnn : v k1 = -1000000005 := by
            rcases Classical.em (v k1 = -1000000005) with q | q
            · exact q
            · exact absurd ⟨by omega, fun e => q (by rw [← hv k1 (by omega), ← e1]; exact e)⟩ h32
          refine V_lo (lo' := [some (.ref 0), some (.ref (37 + 2 * s)), some (.int (nI c)), some (.int (nI (dsN L T c v (k1 + 1)))), some (.int (nI (k1 + 1)))]) (by rw [ds_none hnn]) ?_
          exact ih (k1 + 1) _ ⟨hQ, hF, by omega⟩ (by omega)
        · refine V_iloadn_3 dX6_differenceFromThought_35 ?_
          refine V_aloadn_0 dX6_differenceFromThought_36 ?_
          refine V_getR dX6_differenceFromThought_37 fl_X6_53 oC_thought ?_
          refine V_iloadn_2 dX6_differenceFromThought_40 ?_
          refine V_cv1f dX6_differenceFromThought_41 cv_X6_95 (rcT tw85) (Nat.le_of_ble_eq_true rfl) (k_T_levelOf tw85 hHU hIU (by omega)) ?_
          refine V_aloadn_1 dX6_differenceFromThought_44 ?_
          refine V_getR dX6_differenceFromThought_45 fl_X6_267 (oS_places (Or.inl ⟨_, hs, rfl⟩)) ?_
          refine V_iload_4 dX6_differenceFromThought_48 ?_
          refine V_iald (j := k1) dX6_differenceFromThought_50 (aS_places (Or.inl ⟨_, hs, rfl⟩)) (by omega) (by decide) ?_
          refine V_isub dX6_differenceFromThought_51 ?_
          refine V_mabs dX6_differenceFromThought_52 ml_X6_325 (Nat.le_of_ble_eq_true rfl) ?_
          refine V_iadd dX6_differenceFromThought_55 ?_
          refine V_topi (y := nI (dsN L T c v (k1 + 1))) (by rw [e1, hv k1 (by omega), abs_da (hok k1 (by omega)) (fun e => h32.2 (by rw [e1, hv k1 (by omega)]; exact e)) (levT_le hIU (by omega)), nI_add]; rfl) ?_
          refine V_istoren_3 dX6_differenceFromThought_56 (by first | exact rfl | exact True.intro) (by decide) ?_
          refine V_iinc_4 dX6_differenceFromThought_57 (by first | exact rfl | exact True.intro) (by decide) (nI (k1 + 1)) (nI_inc _) ?_
          refine V_goto dX6_differenceFromThought_60 5 (by decide) ?_
          refine ih (k1 + 1) _ ⟨hQ, hF, by omega⟩ (by omega)

set_option maxRecDepth 100000 in
set_option maxHeartbeats 4000000 in
theorem k_C_diff {G : vG} {σ : vS} {d : Nat} (hd : 5 ≤ d) {L T : nT} {N : Nat} (hP : TC L N 85 T σ) {s c z : Nat} {v : Nat → Int32} (hs : s < 4) (hc : c < T 0 5) (hz : σ (37 + 2 * s) 1 = nI z) (hz24 : z ≤ 24) (hv : ∀ k, k < 24 → σ (37 + 2 * s + 1) k = v k) (hok : ∀ k, k < 24 → okV (v k)) : Cr G yX6_differenceFromThought cX6_differenceFromThought 5 (some .int) d [.ref 0, .ref (37 + 2 * s), .int (nI c)] σ (some (.int (nI (dsN L T c v z)))) (fun σ' => Fr 85 σ σ') := by
  refine Ct.ofV (by decide) (Nat.le_of_ble_eq_true rfl) rfl ?_
  show V G RX6 cX6_differenceFromThought (some .int) 5 d _ 0 [some (.ref 0), some (.ref (37 + 2 * s)), some (.int (nI c)), none, none] [] _
  obtain ⟨d, rfl⟩ : ∃ e, d = e + 1 := ⟨d - 1, by omega⟩
  refine V_iconst 0 dX6_differenceFromThought_0 (by decide) ?_
  refine V_istoren_3 dX6_differenceFromThought_1 (by first | exact rfl | exact True.intro) (by decide) ?_
  refine V_iconst 0 dX6_differenceFromThought_2 (by decide) ?_
  refine V_istore_4 dX6_differenceFromThought_3 (by first | exact rfl | exact True.intro) (by decide) ?_
  exact lp_C_diff hs hc (by omega) hP.2.2.1 hz hz24 hv hok (z + 1) 0 σ ⟨hP, Fr.rf, by omega⟩ (by omega)

set_option maxRecDepth 100000 in
set_option maxHeartbeats 4000000 in
theorem lp_c_dug {G : vG} {d : Nat} {σ0 : vS} {L T : nT} {N w : Nat} {s c z : Nat} {v : Nat → Int32} (hs : s < 4) (hc : c < T 0 5) (hd : 6 ≤ d + 1) (hI : TI T) (hm12 : T 0 10 ≤ 12) (hw : w ≤ 1) (hz : σ0 (37 + 2 * s) 1 = nI z) (hz24 : z ≤ 24) (hv : ∀ k, k < 24 → σ0 (37 + 2 * s + 1) k = v k) (hok : ∀ k, k < 24 → okV (v k)) : ∀ (k : Nat) (p : Nat) (σ : vS), (TC L N 61 T σ ∧ Fr 85 σ0 σ ∧ p ≤ T 0 10) → T 0 10 - p < k → V G RX6 cX6_dug (some .int) 9 (d + 1) (fun r' σ' => r' = some (.int (dqA w (dqF L T c v z (T 0 10)))) ∧ FI σ0 σ') 69 [some (.ref 0), some (.int (nI s)), some (.int (nI c)), some (.int (nI w)), some (.ref (37 + 2 * s)), some (.int (bq (-1000000005) (dqF L T c v z p).1)), some (.int (nI (dqF L T c v z p).2)), some (.int (nI p)), none] [] σ := by
  intro k
  induction k with
  | zero => intros; omega
  | succ k ih =>
    intro p σ hh hk
    obtain ⟨hC, hF, hp⟩ := hh
    obtain ⟨ht, hH, -, hL, hLI, hN, hN2⟩ := id hC
    have hT := hH.1
    have hn := hI.nc
    have hm := hI.np
    have hb1 := dq_le (L := L) (T := T) (c := c) (v := v) (z := z) p
    have hb2 := ds_le (L := L) (v := v) hI hc z (fun j hj => hok j (by omega))
    have hb3 := ds_le (L := L) (v := v) (hI.ck (i := p) (x := 1) (by decide)).1 (c := c) (by rw [Tup_ne (by omega)]; exact hc) z (fun j hj => hok j (by omega))
    refine V_iload_7 dX6_dug_69 ?_
    refine V_aloadn_0 dX6_dug_71 ?_
    refine V_getR dX6_dug_72 fl_X6_46 oC_now ?_
    refine V_getI dX6_dug_75 fl_X6_126 (oT_pipes tw61) ?_
    refine V_topi hT.n10 ?_
    refine V_icmpN_ge (a := p) (b := T 0 10) dX6_dug_78 117 (by decide) (by omega) (by omega) (fun h78 => ?_) (fun h78 => ?_)
    · refine V_iloadn_3 dX6_dug_117 ?_
      refine V_ifN_ne (a := w) dX6_dug_118 126 (by decide) (by omega) (fun h118 => ?_) (fun h118 => ?_)
      · refine V_iload_6 dX6_dug_126 ?_
        exact V_iret dX6_dug_128 ⟨rI (by rw [show T 0 10 = p by omega]; unfold dqA; rw [if_neg h118]), hF.fi⟩
      · refine V_iload_5 dX6_dug_121 ?_
        refine V_goto dX6_dug_123 128 (by decide) ?_
        exact V_iret dX6_dug_128 ⟨rI (by rw [show T 0 10 = p by omega]; unfold dqA; rw [if_pos h118]), hF.fi⟩
    · refine V_aloadn_0 dX6_dug_81 ?_
      refine V_iload_7 dX6_dug_82 ?_
      refine V_cv1n dX6_dug_84 cv_X6_190 rcC (Nat.le_of_ble_eq_true rfl) (k_C_thinkC (by omega) hC hm12 (by omega)) (fun σ h5 => ?_)
      replace hF := hF.tr h5.2
      have hP := h5.1
      replace hC := hC.other h5.2 tw85 (by decide)
      have hT := hC.2.1.1
      have hH := hC.2.1
      refine V_aloadn_0 dX6_dug_87 ?_
      refine V_aload_4 dX6_dug_88 ?_
      refine V_iloadn_2 dX6_dug_90 ?_
      refine V_cv2r dX6_dug_91 cv_X6_211 rcC (Nat.le_of_ble_eq_true rfl) (k_C_diff (by omega) hP hs (by rw [Tup_ne (by omega)]; exact hc) (by rw [hF (37 + 2 * s) (by omega) (by omega)]; exact hz) hz24 (fun k hk => by rw [hF (37 + 2 * s + 1) (by omega) (by omega)]; exact hv k hk) hok) (fun σ h6 => ?_)
      replace hF := hF.tr h6
      replace hC := hC.other h6 tw85 (by decide)
      refine V_istore_8 dX6_dug_94 (by first | exact rfl | exact True.intro) (by decide) ?_
      refine V_iload_8 dX6_dug_96 ?_
      refine V_iload_6 dX6_dug_98 ?_
      refine V_icmpN_ge (a := dsN L (Tup T 9 p 1) c v z) (b := (dqF L T c v z p).2) dX6_dug_100 111 (by decide) (by omega) (by omega) (fun h100 => ?_) (fun h100 => ?_)
      · refine V_iinc_7 dX6_dug_111 (by first | exact rfl | exact True.intro) (by decide) (nI (p + 1)) (nI_inc _) ?_
        refine V_goto dX6_dug_114 69 (by decide) ?_
        refine V_fg_8 ?_
        have e9 : dqF L T c v z (p + 1) = dqF L T c v z p := by rw [dqF_s, if_neg (by omega)]
        refine V_lo (lo' := [some (.ref 0), some (.int (nI s)), some (.int (nI c)), some (.int (nI w)), some (.ref (37 + 2 * s)), some (.int (bq (-1000000005) (dqF L T c v z (p + 1)).1)), some (.int (nI (dqF L T c v z (p + 1)).2)), some (.int (nI (p + 1))), none]) (by rw [e9] <;> rfl) ?_
        exact ih (p + 1) _ ⟨hC, hF, by omega⟩ (by omega)
      · refine V_iload_7 dX6_dug_103 ?_
        refine V_istore_5 dX6_dug_105 (by first | exact rfl | exact True.intro) (by decide) ?_
        refine V_iload_8 dX6_dug_107 ?_
        refine V_istore_6 dX6_dug_109 (by first | exact rfl | exact True.intro) (by decide) ?_
        refine V_iinc_7 dX6_dug_111 (by first | exact rfl | exact True.intro) (by decide) (nI (p + 1)) (nI_inc _) ?_
        refine V_goto dX6_dug_114 69 (by decide) ?_
        refine V_fg_8 ?_
        have e9 : dqF L T c v z (p + 1) = (some p, dsN L (Tup T 9 p 1) c v z) := by rw [dqF_s, if_pos h100]
        refine V_lo (lo' := [some (.ref 0), some (.int (nI s)), some (.int (nI c)), some (.int (nI w)), some (.ref (37 + 2 * s)), some (.int (bq (-1000000005) (dqF L T c v z (p + 1)).1)), some (.int (nI (dqF L T c v z (p + 1)).2)), some (.int (nI (p + 1))), none]) (by rw [e9] <;> rfl) ?_
        exact ih (p + 1) _ ⟨hC, hF, by omega⟩ (by omega)

set_option maxRecDepth 100000 in
set_option maxHeartbeats 4000000 in
theorem c_dug {G : vG} {σ : vS} {d : Nat} (hd : 6 ≤ d) {L T : nT} {N : Nat} (hC : TC L N 61 T σ) (hm12 : T 0 10 ≤ 12) {w : Nat} {s c z : Nat} {v : Nat → Int32} (hs : s < 4) (hc : c < T 0 5) (hw : w ≤ 1) (hso : σ (37 + 2 * s) 0 ≠ -1) (hz : σ (37 + 2 * s) 1 = nI z) (hz24 : z ≤ 24) (hv : ∀ k, k < 24 → σ (37 + 2 * s + 1) k = v k) (hok : ∀ k, k < 24 → okV (v k)) : Cr G yX6_dug cX6_dug 9 (some .int) d [.ref 0, .int (nI s), .int (nI c), .int (nI w)] σ (some (.int (dqA w (dqF L T c v z (T 0 10))))) (fun σ' => FI σ σ') := by
  refine Ct.ofV (by decide) (Nat.le_of_ble_eq_true rfl) rfl ?_
  show V G RX6 cX6_dug (some .int) 9 d _ 0 [some (.ref 0), some (.int (nI s)), some (.int (nI c)), some (.int (nI w)), none, none, none, none, none] [] _
  obtain ⟨d, rfl⟩ : ∃ e, d = e + 1 := ⟨d - 1, by omega⟩
  obtain ⟨ht, hH, hI, hL, hLI, hN, hN2⟩ := id hC
  have hT := hH.1
  have hn := hI.nc
  have hm := hI.np
  have hIP := hI
  have hb2 := ds_le (L := L) (v := v) hI hc z (fun j hj => hok j (by omega))
  refine V_iloadn_1 dX6_dug_0 ?_
  refine V_cs1f dX6_dug_1 cs_X6_203 (Nat.le_of_ble_eq_true rfl) (k_C_isSheet (by omega)) ?_
  refine V_ifB_eq dX6_dug_4 27 (by decide) (fun h4 => ?_) (fun h4 => ?_)
  · exact absurd (hasN hs (by decide)) h4
  · refine V_aloadn_0 dX6_dug_7 ?_
    refine V_getR dX6_dug_8 fl_X6_46 oC_now ?_
    refine V_iloadn_2 dX6_dug_11 ?_
    refine V_cv1f dX6_dug_12 cv_X6_76 (rcT tw61) (Nat.le_of_ble_eq_true rfl) (k_T_hasCellar tw61 hT) ?_
    refine V_ifB_eq dX6_dug_15 27 (by decide) (fun h15 => ?_) (fun h15 => ?_)
    · exact absurd (hasN hc (by omega)) h15
    · refine V_iloadn_3 dX6_dug_18 ?_
      refine V_iconst 0 dX6_dug_19 (by decide) ?_
      refine V_iconst 1 dX6_dug_20 (by decide) ?_
      refine V_cs3f dX6_dug_21 cs_X6_108 (Nat.le_of_ble_eq_true rfl) k_C_within ?_
      refine V_ifB_ne dX6_dug_24 30 (by decide) (fun h24 => ?_) (fun h24 => ?_)
      · refine V_aloadn_0 dX6_dug_30 ?_
        refine V_getR dX6_dug_31 fl_X6_18 oC_sheets ?_
        refine V_iloadn_1 dX6_dug_34 ?_
        refine V_aald (j := s) dX6_dug_35 (eSheet (by omega)) (by decide) ?_
        refine V_astore_4 dX6_dug_36 (by first | exact rfl | exact True.intro) (by decide) ?_
        refine V_aload_4 dX6_dug_38 ?_
        refine V_cv0f dX6_dug_40 cv_X6_206 (rcS (Or.inl ⟨_, (by omega), rfl⟩)) (Nat.le_of_ble_eq_true rfl) (k_S_isMissing (Or.inl ⟨_, (by omega), rfl⟩)) ?_
        refine V_ifB_eq dX6_dug_43 49 (by decide) (fun h43 => ?_) (fun h43 => ?_)
        · refine V_aloadn_0 dX6_dug_49 ?_
          refine V_cv0n dX6_dug_50 cv_X6_183 rcC (Nat.le_of_ble_eq_true rfl) (k_C_think (by omega) hC (by omega)) (fun σ h5 => ?_)
          have hF := h5.2
          have hP := h5.1
          replace hC := hC.other h5.2 tw85 (by decide)
          have hT := hC.2.1.1
          have hH := hC.2.1
          refine V_ldc (-1000000005) dX6_dug_53 cn_X6_189 ?_
          refine V_istore_5 dX6_dug_55 (by first | exact rfl | exact True.intro) (by decide) ?_
          refine V_aloadn_0 dX6_dug_57 ?_
          refine V_aload_4 dX6_dug_58 ?_
          refine V_iloadn_2 dX6_dug_60 ?_
          refine V_cv2r dX6_dug_61 cv_X6_211 rcC (Nat.le_of_ble_eq_true rfl) (k_C_diff (by omega) hP hs hc (by rw [hF (37 + 2 * s) (by omega) (by omega)]; exact hz) hz24 (fun k hk => by rw [hF (37 + 2 * s + 1) (by omega) (by omega)]; exact hv k hk) hok) (fun σ h6 => ?_)
          replace hF := hF.tr h6
          replace hC := hC.other h6 tw85 (by decide)
          refine V_istore_6 dX6_dug_64 (by first | exact rfl | exact True.intro) (by decide) ?_
          refine V_iconst 0 dX6_dug_66 (by decide) ?_
          refine V_istore_7 dX6_dug_67 (by first | exact rfl | exact True.intro) (by decide) ?_
          exact lp_c_dug hs hc (by omega) hI hm12 hw hz hz24 hv hok (T 0 10 + 1) 0 σ ⟨hC, hF, by omega⟩ (by omega)
        · exact absurd h43 hso
      · exact absurd (inN (a := 0) (b := 1) (by omega) hw (by decide)) h24

set_option maxRecDepth 100000 in
set_option maxHeartbeats 4000000 in
theorem c_dug_no {G : vG} {σ : vS} {d : Nat} (hd : 6 ≤ d) {L T : nT} {N : Nat} (hC : TC L N 61 T σ) {s c w : Nat} (hs : s < 4) (hc : c < T 0 5) (hw : w ≤ 1) (hso : σ (37 + 2 * s) 0 = -1) : Cf G yX6_dug cX6_dug 9 (some .int) d [.ref 0, .int (nI s), .int (nI c), .int (nI w)] σ (some (.int (-1000000011))) σ := by
  refine Ct.ofV (by decide) (Nat.le_of_ble_eq_true rfl) rfl ?_
  show V G RX6 cX6_dug (some .int) 9 d _ 0 [some (.ref 0), some (.int (nI s)), some (.int (nI c)), some (.int (nI w)), none, none, none, none, none] [] _
  obtain ⟨d, rfl⟩ : ∃ e, d = e + 1 := ⟨d - 1, by omega⟩
  obtain ⟨ht, hH, hI, hL, hLI, hN, hN2⟩ := id hC
  have hT := hH.1
  have hn := hI.nc
  have hm := hI.np
  refine V_iloadn_1 dX6_dug_0 ?_
  refine V_cs1f dX6_dug_1 cs_X6_203 (Nat.le_of_ble_eq_true rfl) (k_C_isSheet (by omega)) ?_
  refine V_ifB_eq dX6_dug_4 27 (by decide) (fun h4 => ?_) (fun h4 => ?_)
  · exact absurd (hasN hs (by decide)) h4
  · refine V_aloadn_0 dX6_dug_7 ?_
    refine V_getR dX6_dug_8 fl_X6_46 oC_now ?_
    refine V_iloadn_2 dX6_dug_11 ?_
    refine V_cv1f dX6_dug_12 cv_X6_76 (rcT tw61) (Nat.le_of_ble_eq_true rfl) (k_T_hasCellar tw61 hT) ?_
    refine V_ifB_eq dX6_dug_15 27 (by decide) (fun h15 => ?_) (fun h15 => ?_)
    · exact absurd (hasN hc (by omega)) h15
    · refine V_iloadn_3 dX6_dug_18 ?_
      refine V_iconst 0 dX6_dug_19 (by decide) ?_
      refine V_iconst 1 dX6_dug_20 (by decide) ?_
      refine V_cs3f dX6_dug_21 cs_X6_108 (Nat.le_of_ble_eq_true rfl) k_C_within ?_
      refine V_ifB_ne dX6_dug_24 30 (by decide) (fun h24 => ?_) (fun h24 => ?_)
      · refine V_aloadn_0 dX6_dug_30 ?_
        refine V_getR dX6_dug_31 fl_X6_18 oC_sheets ?_
        refine V_iloadn_1 dX6_dug_34 ?_
        refine V_aald (j := s) dX6_dug_35 (eSheet (by omega)) (by decide) ?_
        refine V_astore_4 dX6_dug_36 (by first | exact rfl | exact True.intro) (by decide) ?_
        refine V_aload_4 dX6_dug_38 ?_
        refine V_cv0f dX6_dug_40 cv_X6_206 (rcS (Or.inl ⟨_, (by omega), rfl⟩)) (Nat.le_of_ble_eq_true rfl) (k_S_isMissing (Or.inl ⟨_, (by omega), rfl⟩)) ?_
        refine V_ifB_eq dX6_dug_43 49 (by decide) (fun h43 => ?_) (fun h43 => ?_)
        · exact absurd hso h43
        · refine V_ldc (-1000000011) dX6_dug_46 cn_X6_210 ?_
          exact V_iret dX6_dug_48 ⟨rfl, rfl⟩
      · exact absurd (inN (a := 0) (b := 1) (by omega) hw (by decide)) h24

set_option maxRecDepth 100000 in
set_option maxHeartbeats 4000000 in
theorem c_dug_bad {G : vG} {σ : vS} {d : Nat} (hd : 6 ≤ d) {L T : nT} {N : Nat} (hC : TC L N 61 T σ) {x y z : Int32} (hb : ¬ (hasI x 4 ∧ hasI y (T 0 5) ∧ inI z 0 1)) : Cf G yX6_dug cX6_dug 9 (some .int) d [.ref 0, .int x, .int y, .int z] σ (some (.int (-1000000001))) σ := by
  refine Ct.ofV (by decide) (Nat.le_of_ble_eq_true rfl) rfl ?_
  show V G RX6 cX6_dug (some .int) 9 d _ 0 [some (.ref 0), some (.int x), some (.int y), some (.int z), none, none, none, none, none] [] _
  obtain ⟨d, rfl⟩ : ∃ e, d = e + 1 := ⟨d - 1, by omega⟩
  obtain ⟨ht, hH, hI, hL, hLI, hN, hN2⟩ := id hC
  have hT := hH.1
  have hn := hI.nc
  have hm := hI.np
  refine V_iloadn_1 dX6_dug_0 ?_
  refine V_cs1f dX6_dug_1 cs_X6_203 (Nat.le_of_ble_eq_true rfl) (k_C_isSheet (by omega)) ?_
  refine V_ifB_eq dX6_dug_4 27 (by decide) (fun h4 => ?_) (fun h4 => ?_)
  · refine V_ldc (-1000000001) dX6_dug_27 cn_X6_66 ?_
    exact V_iret dX6_dug_29 ⟨rfl, rfl⟩
  · refine V_aloadn_0 dX6_dug_7 ?_
    refine V_getR dX6_dug_8 fl_X6_46 oC_now ?_
    refine V_iloadn_2 dX6_dug_11 ?_
    refine V_cv1f dX6_dug_12 cv_X6_76 (rcT tw61) (Nat.le_of_ble_eq_true rfl) (k_T_hasCellar tw61 hT) ?_
    refine V_ifB_eq dX6_dug_15 27 (by decide) (fun h15 => ?_) (fun h15 => ?_)
    · refine V_ldc (-1000000001) dX6_dug_27 cn_X6_66 ?_
      exact V_iret dX6_dug_29 ⟨rfl, rfl⟩
    · refine V_iloadn_3 dX6_dug_18 ?_
      refine V_iconst 0 dX6_dug_19 (by decide) ?_
      refine V_iconst 1 dX6_dug_20 (by decide) ?_
      refine V_cs3f dX6_dug_21 cs_X6_108 (Nat.le_of_ble_eq_true rfl) k_C_within ?_
      refine V_ifB_ne dX6_dug_24 30 (by decide) (fun h24 => ?_) (fun h24 => ?_)
      · exact absurd ⟨h4, h15, h24⟩ hb
      · refine V_ldc (-1000000001) dX6_dug_27 cn_X6_66 ?_
        exact V_iret dX6_dug_29 ⟨rfl, rfl⟩

set_option maxRecDepth 100000 in
set_option maxHeartbeats 4000000 in
theorem lp_M_off {G : vG} {d : Nat} {σ0 : vS} {L T : nT} {s c z : Nat} {v : Nat → Int32} (hs : s < 4) (hc : c < T 0 5) (hd : 8 ≤ d + 1) (hI : TI T) (hz : σ0 113 s = nI z) (hz24 : z ≤ 24) (hv : ∀ k, k < 24 → σ0 114 (24 * s + k) = v k) (hok : ∀ k, k < 24 → okV (v k)) : ∀ (k : Nat) (k1 : Nat) (σ : vS), (MC L (hoursT L k1 T) σ ∧ BK σ0 σ ∧ k1 ≤ z) → z - k1 < k → V G RX7 cX7_offBy (some .long) 9 (d + 1) (fun r' σ' => r' = some (.long (lN (dsN L T c v z))) ∧ (σ' 98 = σ0 98 ∧ BK σ0 σ')) 5 [some (.ref 97), some (.int (nI s)), some (.int (nI c)), some (.long (lN (dsN L T c v k1))), none, some (.int (nI k1)), none, none, none] [] σ := by
  intro k
  induction k with
  | zero => intros; omega
  | succ k ih =>
    intro k1 σ hh hk
    obtain ⟨hC, hK, hkz⟩ := hh
    have hX := hI.hours (L := L) k1
    have u5 := hX.2 0 5 (by decide) (by omega)
    have hlev := levT_le (L := L) (c := c) hX.1 (by omega)
    have hdl := ds_le (L := L) (v := v) hI hc k1 (fun j hj => hok j (by omega))
    refine V_iload_5 dX7_offBy_5 ?_
    refine V_aloadn_0 dX7_offBy_7 ?_
    refine V_getR dX7_offBy_8 fl_X7_57 oM_sizes ?_
    refine V_iloadn_1 dX7_offBy_11 ?_
    refine V_iald (j := s) dX7_offBy_12 aM_sizes (by omega) (by decide) ?_
    refine V_topi (y := nI z) (by rw [hK.2.2 113 (by decide) (by decide) (by decide) (by decide) (by decide) (by decide)]; exact hz) ?_
    refine V_icmpN_ge (a := k1) (b := z) dX7_offBy_13 81 (by decide) (by omega) (by omega) (fun h13 => ?_) (fun h13 => ?_)
    · refine V_aloadn_0 dX7_offBy_81 ?_
      refine V_cv0v dX7_offBy_82 cv_X7_183 rcM (Nat.le_of_ble_eq_true rfl) k_M_putsBack ?_
      refine V_lloadn_3 dX7_offBy_85 ?_
      exact V_lret dX7_offBy_86 ⟨by rw [show z = k1 by omega], hK.put98, hK.put⟩
    · refine V_aloadn_0 dX7_offBy_16 ?_
      refine V_getR dX7_offBy_17 fl_X7_60 oM_cells ?_
      refine V_bipush 24 dX7_offBy_20 (by decide) ?_
      refine V_iloadn_1 dX7_offBy_22 ?_
      refine V_imulN (a := 24) (b := s) dX7_offBy_23 ?_
      refine V_iload_5 dX7_offBy_24 ?_
      refine V_iaddN (a := 24 * s) (b := k1) dX7_offBy_26 ?_
      refine V_iald (j := (24 * s) + k1) dX7_offBy_27 aM_cells (by omega) (by decide) ?_
      refine V_topi (y := v k1) (by rw [hK.2.2 114 (by decide) (by decide) (by decide) (by decide) (by decide) (by decide)]; exact hv k1 (by omega)) ?_
      refine V_istore_6 dX7_offBy_28 (by first | exact rfl | exact True.intro) (by decide) ?_
      refine V_iload_6 dX7_offBy_30 ?_
      refine V_i2l dX7_offBy_32 ?_
      refine V_aloadn_0 dX7_offBy_33 ?_
      refine V_iloadn_2 dX7_offBy_34 ?_
      refine V_cv1r dX7_offBy_35 cv_X7_116 rcM (Nat.le_of_ble_eq_true rfl) (k_M_levelOf (by omega) hC (by omega)) (fun σ hq => ?_)
      replace hC := hC.fh hq
      replace hK := hK.fm hq.m
      refine V_i2l dX7_offBy_38 ?_
      refine V_lsub dX7_offBy_39 ?_
      refine V_lstore_7 dX7_offBy_40 (by first | exact rfl | exact True.intro) (by decide) ?_
      refine V_lloadn_3 dX7_offBy_42 ?_
      refine V_iload_6 dX7_offBy_43 ?_
      refine V_ldc (-1000000005) dX7_offBy_45 cn_X7_81 ?_
      refine V_icmp_ne dX7_offBy_47 54 (by decide) (fun h47 => ?_) (fun h47 => ?_)
      · refine V_lload_7 dX7_offBy_54 ?_
        refine V_lconst 0 dX7_offBy_56 (by decide) ?_
        refine V_lcmp dX7_offBy_57 ?_
        refine V_if_ge dX7_offBy_58 67 (by decide) (fun h58 => ?_) (fun h58 => ?_)
        · refine V_lload_7 dX7_offBy_67 ?_
          refine V_ladd dX7_offBy_69 ?_
          refine V_top (w := .long (lN (dsN L T c v (k1 + 1)))) (congrArg Value.long (off_ge (by omega) (hok k1 (by omega)) h47 hlev h58)) ?_
          refine V_lstoren_3 dX7_offBy_70 (by first | exact rfl | exact True.intro) (by decide) ?_
          refine V_aloadn_0 dX7_offBy_71 ?_
          refine V_cv0n dX7_offBy_72 cv_X7_168 rcM (Nat.le_of_ble_eq_true rfl) (k_M_hour (by omega) hC) (fun σ h9 => ?_)
          replace hK := hK.fm h9.2
          refine V_iinc_5 dX7_offBy_75 (by first | exact rfl | exact True.intro) (by decide) (nI (k1 + 1)) (nI_inc _) ?_
          refine V_goto dX7_offBy_78 5 (by decide) ?_
          refine V_fg_6 ?_
          refine V_fg_7 ?_
          exact ih (k1 + 1) _ ⟨h9.1, hK, by omega⟩ (by omega)
        · refine V_lload_7 dX7_offBy_61 ?_
          refine V_lneg dX7_offBy_63 ?_
          refine V_goto dX7_offBy_64 69 (by decide) ?_
          refine V_ladd dX7_offBy_69 ?_
          refine V_top (w := .long (lN (dsN L T c v (k1 + 1)))) (congrArg Value.long (off_lt (by omega) (hok k1 (by omega)) h47 hlev h58)) ?_
          refine V_lstoren_3 dX7_offBy_70 (by first | exact rfl | exact True.intro) (by decide) ?_
          refine V_aloadn_0 dX7_offBy_71 ?_
          refine V_cv0n dX7_offBy_72 cv_X7_168 rcM (Nat.le_of_ble_eq_true rfl) (k_M_hour (by omega) hC) (fun σ h9 => ?_)
          replace hK := hK.fm h9.2
          refine V_iinc_5 dX7_offBy_75 (by first | exact rfl | exact True.intro) (by decide) (nI (k1 + 1)) (nI_inc _) ?_
          refine V_goto dX7_offBy_78 5 (by decide) ?_
          refine V_fg_6 ?_
          refine V_fg_7 ?_
          exact ih (k1 + 1) _ ⟨h9.1, hK, by omega⟩ (by omega)
      · refine V_lconst 0 dX7_offBy_50 (by decide) ?_
        refine V_goto dX7_offBy_51 69 (by decide) ?_
        refine V_ladd dX7_offBy_69 ?_
        refine V_top (w := .long (lN (dsN L T c v (k1 + 1)))) (congrArg Value.long (by rw [ds_none h47]; exact Int64.add_zero _)) ?_
        refine V_lstoren_3 dX7_offBy_70 (by first | exact rfl | exact True.intro) (by decide) ?_
        refine V_aloadn_0 dX7_offBy_71 ?_
        refine V_cv0n dX7_offBy_72 cv_X7_168 rcM (Nat.le_of_ble_eq_true rfl) (k_M_hour (by omega) hC) (fun σ h9 => ?_)
        replace hK := hK.fm h9.2
        refine V_iinc_5 dX7_offBy_75 (by first | exact rfl | exact True.intro) (by decide) (nI (k1 + 1)) (nI_inc _) ?_
        refine V_goto dX7_offBy_78 5 (by decide) ?_
        refine V_fg_6 ?_
        refine V_fg_7 ?_
        exact ih (k1 + 1) _ ⟨h9.1, hK, by omega⟩ (by omega)

set_option maxRecDepth 100000 in
set_option maxHeartbeats 4000000 in
theorem k_M_off {G : vG} {σ : vS} {d : Nat} (hd : 8 ≤ d) {L T : nT} (hC : MC L T σ) {σ0 : vS} (hK : BK σ0 σ) {s c z : Nat} {v : Nat → Int32} (hs : s < 4) (hc : c < T 0 5) (hz : σ0 113 s = nI z) (hz24 : z ≤ 24) (hv : ∀ k, k < 24 → σ0 114 (24 * s + k) = v k) (hok : ∀ k, k < 24 → okV (v k)) : Cr G yX7_offBy cX7_offBy 9 (some .long) d [.ref 97, .int (nI s), .int (nI c)] σ (some (.long (lN (dsN L T c v z)))) (fun σ' => σ' 98 = σ0 98 ∧ BK σ0 σ') := by
  refine Ct.ofV (by decide) (Nat.le_of_ble_eq_true rfl) rfl ?_
  show V G RX7 cX7_offBy (some .long) 9 d _ 0 [some (.ref 97), some (.int (nI s)), some (.int (nI c)), none, none, none, none, none, none] [] _
  obtain ⟨d, rfl⟩ : ∃ e, d = e + 1 := ⟨d - 1, by omega⟩
  have hI := hC.2.2.1
  have hn := hI.nc
  have hm := hI.np
  refine V_lconst 0 dX7_offBy_0 (by decide) ?_
  refine V_lstoren_3 dX7_offBy_1 (by first | exact rfl | exact True.intro) (by decide) ?_
  refine V_iconst 0 dX7_offBy_2 (by decide) ?_
  refine V_istore_5 dX7_offBy_3 (by first | exact rfl | exact True.intro) (by decide) ?_
  exact lp_M_off hs hc (by omega) hI hz hz24 hv hok (z + 1) 0 σ ⟨hC, hK, by omega⟩ (by omega)

set_option maxRecDepth 100000 in
set_option maxHeartbeats 4000000 in
theorem lp_m_dug {G : vG} {d : Nat} {σ0 : vS} {L T : nT} {w : Nat} {s c z : Nat} {v : Nat → Int32} (hs : s < 4) (hc : c < T 0 5) (hd : 9 ≤ d + 1) (hC0 : MC L T σ0) (hm12 : T 0 10 ≤ 12) (hw : w ≤ 1) (hz : σ0 113 s = nI z) (hz24 : z ≤ 24) (hv : ∀ k, k < 24 → σ0 114 (24 * s + k) = v k) (hok : ∀ k, k < 24 → okV (v k)) : ∀ (k : Nat) (p : Nat) (σ : vS), (σ 98 = σ0 98 ∧ BK σ0 σ ∧ p ≤ T 0 10) → T 0 10 - p < k → V G RX7 cX7_dug (some .int) 10 (d + 1) (fun r' σ' => r' = some (.int (dqA w (dqF L T c v z (T 0 10)))) ∧ FI σ0 σ') 57 [some (.ref 97), some (.int (nI s)), some (.int (nI c)), some (.int (nI w)), some (.int (bq (-1) (dqF L T c v z p).1)), some (.long (lN (dqF L T c v z p).2)), none, some (.int (nI p)), none, none] [] σ := by
  intro k
  induction k with
  | zero => intros; omega
  | succ k ih =>
    intro p σ hh hk
    obtain ⟨h98, hK, hp⟩ := hh
    have hC := hC0.e98 h98
    have hI := hC.2.2.1
    have hn := hI.nc
    have hm := hI.np
    have hb1 := dq_le (L := L) (T := T) (c := c) (v := v) (z := z) p
    have hb2 := ds_le (L := L) (v := v) hI hc z (fun j hj => hok j (by omega))
    have hb3 := ds_le (L := L) (v := v) (hI.ck (i := p) (x := 1) (by decide)).1 (c := c) (by rw [Tup_ne (by omega)]; exact hc) z (fun j hj => hok j (by omega))
    refine V_iload_7 dX7_dug_57 ?_
    refine V_aloadn_0 dX7_dug_59 ?_
    refine V_getR dX7_dug_60 fl_X7_9 oM_now ?_
    refine V_iconst 2 dX7_dug_63 (by decide) ?_
    refine V_iald (j := 2) dX7_dug_64 aM_now (by decide) (by decide) ?_
    refine V_topi hC.1.s2 ?_
    refine V_icmpN_ge (a := p) (b := T 0 10) dX7_dug_65 131 (by decide) (by omega) (by omega) (fun h65 => ?_) (fun h65 => ?_)
    · have hpe : T 0 10 = p := by omega
      refine V_iloadn_3 dX7_dug_131 ?_
      refine V_ifN_ne (a := w) dX7_dug_132 143 (by decide) (by omega) (fun h132 => ?_) (fun h132 => ?_)
      · refine V_lload_5 dX7_dug_143 ?_
        refine V_l2i dX7_dug_145 ?_
        rw [lN_i]
        exact V_iret dX7_dug_146 ⟨rI (by rw [hpe]; unfold dqA; rw [if_neg h132]), hK.fi h98⟩
      · refine V_iload_4 dX7_dug_135 ?_
        refine V_cs1f dX7_dug_137 cs_X7_200 (Nat.le_of_ble_eq_true rfl) k_M_told0 ?_
        refine V_goto dX7_dug_140 146 (by decide) ?_
        exact V_iret dX7_dug_146 ⟨rI (by rw [hpe]; unfold dqA; rw [if_pos h132, bq_told (fun j hj => by have := dq_ok p j hj; omega)]), hK.fi h98⟩
    · refine V_aloadn_0 dX7_dug_68 ?_
      refine V_getR dX7_dug_69 fl_X7_9 oM_now ?_
      refine V_bipush 55 dX7_dug_72 (by decide) ?_
      refine V_iconst 4 dX7_dug_74 (by decide) ?_
      refine V_iload_7 dX7_dug_75 ?_
      refine V_imulN (a := 4) (b := p) dX7_dug_77 ?_
      refine V_iaddN (a := 55) (b := 4 * p) dX7_dug_78 ?_
      refine V_iconst 3 dX7_dug_79 (by decide) ?_
      refine V_iaddN (a := 55 + (4 * p)) (b := 3) dX7_dug_80 ?_
      refine V_iconst 1 dX7_dug_81 (by decide) ?_
      refine V_iast (j := (55 + (4 * p)) + 3) dX7_dug_82 aM_now (by omega) (by decide) ?_
      have hIP := (hI.ck (i := p) (x := 1) (by decide)).1
      have hC1 : MC L (Tup T 9 p 1) (vup σ 98 (55 + 4 * p + 3) 1) := hC.next (Fm.up (by omega)) (hC.1.cork (x := 1) hn (by omega)) hIP (Tup_ne (by omega)) (fun _ => Tup_ne (by omega))
      replace hK := hK.fm (Fm.up (j := 55 + 4 * p + 3) (v := 1) (by omega))
      refine V_aloadn_0 dX7_dug_83 ?_
      refine V_iloadn_1 dX7_dug_84 ?_
      refine V_iloadn_2 dX7_dug_85 ?_
      refine V_cv2r dX7_dug_86 cv_X7_196 rcM (Nat.le_of_ble_eq_true rfl) (k_M_off (by omega) hC1 hK hs (by rw [Tup_ne (by omega)]; exact hc) hz hz24 hv hok) (fun σ h7 => ?_)
      refine V_lstore_8 dX7_dug_89 (by first | exact rfl | exact True.intro) (by decide) ?_
      refine V_lload_8 dX7_dug_91 ?_
      refine V_lload_5 dX7_dug_93 ?_
      refine V_lcmp dX7_dug_95 ?_
      refine V_if_ge dX7_dug_96 104 (by decide) (fun h96 => ?_) (fun h96 => ?_)
      · refine V_iload_4 dX7_dug_104 ?_
        refine V_istore_4 dX7_dug_106 (by first | exact rfl | exact True.intro) (by decide) ?_
        refine V_lload_8 dX7_dug_108 ?_
        refine V_lload_5 dX7_dug_110 ?_
        refine V_lcmp dX7_dug_112 ?_
        refine V_if_ge dX7_dug_113 121 (by decide) (fun h113 => ?_) (fun h113 => ?_)
        · refine V_lload_5 dX7_dug_121 ?_
          refine V_lstore_5 dX7_dug_123 (by first | exact rfl | exact True.intro) (by decide) ?_
          refine V_iinc_7 dX7_dug_125 (by first | exact rfl | exact True.intro) (by decide) (nI (p + 1)) (nI_inc _) ?_
          refine V_goto dX7_dug_128 57 (by decide) ?_
          refine V_fg_8 ?_
          have e9 : dqF L T c v z (p + 1) = dqF L T c v z p := by rw [dqF_s, if_neg (by have := (lN_le (by omega) (by omega)).mp ((lg_cmp_ge _ _).mp h96); omega)]
          refine V_lo (lo' := [some (.ref 97), some (.int (nI s)), some (.int (nI c)), some (.int (nI w)), some (.int (bq (-1) (dqF L T c v z (p + 1)).1)), some (.long (lN (dqF L T c v z (p + 1)).2)), none, some (.int (nI (p + 1))), none, none]) (by rw [e9] <;> rfl) ?_
          exact ih (p + 1) _ ⟨h7.1, h7.2, by omega⟩ (by omega)
        · refine V_lload_8 dX7_dug_116 ?_
          refine V_goto dX7_dug_118 123 (by decide) ?_
          refine V_lstore_5 dX7_dug_123 (by first | exact rfl | exact True.intro) (by decide) ?_
          refine V_iinc_7 dX7_dug_125 (by first | exact rfl | exact True.intro) (by decide) (nI (p + 1)) (nI_inc _) ?_
          refine V_goto dX7_dug_128 57 (by decide) ?_
          exact absurd h96 h113
      · refine V_iload_7 dX7_dug_99 ?_
        refine V_goto dX7_dug_101 106 (by decide) ?_
        refine V_istore_4 dX7_dug_106 (by first | exact rfl | exact True.intro) (by decide) ?_
        refine V_lload_8 dX7_dug_108 ?_
        refine V_lload_5 dX7_dug_110 ?_
        refine V_lcmp dX7_dug_112 ?_
        refine V_if_ge dX7_dug_113 121 (by decide) (fun h113 => ?_) (fun h113 => ?_)
        · refine V_lload_5 dX7_dug_121 ?_
          refine V_lstore_5 dX7_dug_123 (by first | exact rfl | exact True.intro) (by decide) ?_
          refine V_iinc_7 dX7_dug_125 (by first | exact rfl | exact True.intro) (by decide) (nI (p + 1)) (nI_inc _) ?_
          refine V_goto dX7_dug_128 57 (by decide) ?_
          exact absurd h113 h96
        · refine V_lload_8 dX7_dug_116 ?_
          refine V_goto dX7_dug_118 123 (by decide) ?_
          refine V_lstore_5 dX7_dug_123 (by first | exact rfl | exact True.intro) (by decide) ?_
          refine V_iinc_7 dX7_dug_125 (by first | exact rfl | exact True.intro) (by decide) (nI (p + 1)) (nI_inc _) ?_
          refine V_goto dX7_dug_128 57 (by decide) ?_
          refine V_fg_8 ?_
          have e9 : dqF L T c v z (p + 1) = (some p, dsN L (Tup T 9 p 1) c v z) := by rw [dqF_s, if_pos (by have := mt (fun q => (lg_cmp_ge _ _).mpr ((lN_le (by omega) (by omega)).mpr q)) h96; omega)]
          refine V_lo (lo' := [some (.ref 97), some (.int (nI s)), some (.int (nI c)), some (.int (nI w)), some (.int (bq (-1) (dqF L T c v z (p + 1)).1)), some (.long (lN (dqF L T c v z (p + 1)).2)), none, some (.int (nI (p + 1))), none, none]) (by rw [e9] <;> rfl) ?_
          exact ih (p + 1) _ ⟨h7.1, h7.2, by omega⟩ (by omega)

set_option maxRecDepth 100000 in
set_option maxHeartbeats 4000000 in
theorem m_dug {G : vG} {σ : vS} {d : Nat} (hd : 9 ≤ d) {L T : nT} (hC : MC L T σ) (hm12 : T 0 10 ≤ 12) {w : Nat} {s c z : Nat} {v : Nat → Int32} (hs : s < 4) (hc : c < T 0 5) (hw : w ≤ 1) (hso : 0 ≤ σ 112 s) (hz : σ 113 s = nI z) (hz24 : z ≤ 24) (hv : ∀ k, k < 24 → σ 114 (24 * s + k) = v k) (hok : ∀ k, k < 24 → okV (v k)) : Cr G yX7_dug cX7_dug 10 (some .int) d [.ref 97, .int (nI s), .int (nI c), .int (nI w)] σ (some (.int (dqA w (dqF L T c v z (T 0 10))))) (fun σ' => FI σ σ') := by
  refine Ct.ofV (by decide) (Nat.le_of_ble_eq_true rfl) rfl ?_
  show V G RX7 cX7_dug (some .int) 10 d _ 0 [some (.ref 97), some (.int (nI s)), some (.int (nI c)), some (.int (nI w)), none, none, none, none, none, none] [] _
  obtain ⟨d, rfl⟩ : ∃ e, d = e + 1 := ⟨d - 1, by omega⟩
  have hI := hC.2.2.1
  have hn := hI.nc
  have hm := hI.np
  refine V_iloadn_1 dX7_dug_0 ?_
  refine V_cs1f dX7_dug_1 cs_X7_192 (Nat.le_of_ble_eq_true rfl) (k_M_isSheet (by omega)) ?_
  refine V_ifB_eq dX7_dug_4 24 (by decide) (fun h4 => ?_) (fun h4 => ?_)
  · exact absurd (hasN hs (by decide)) h4
  · refine V_aloadn_0 dX7_dug_7 ?_
    refine V_iloadn_2 dX7_dug_8 ?_
    refine V_cv1f dX7_dug_9 cv_X7_112 rcM (Nat.le_of_ble_eq_true rfl) (k_M_isCellar (by omega) hC) ?_
    refine V_ifB_eq dX7_dug_12 24 (by decide) (fun h12 => ?_) (fun h12 => ?_)
    · exact absurd (hasN hc (by omega)) h12
    · refine V_iloadn_3 dX7_dug_15 ?_
      refine V_iconst 0 dX7_dug_16 (by decide) ?_
      refine V_iconst 1 dX7_dug_17 (by decide) ?_
      refine V_cs3f dX7_dug_18 cs_X7_82 (Nat.le_of_ble_eq_true rfl) k_M_in ?_
      refine V_ifB_ne dX7_dug_21 27 (by decide) (fun h21 => ?_) (fun h21 => ?_)
      · refine V_aloadn_0 dX7_dug_27 ?_
        refine V_getR dX7_dug_28 fl_X7_54 oM_sorts ?_
        refine V_iloadn_1 dX7_dug_31 ?_
        refine V_iald (j := s) dX7_dug_32 aM_sorts (by omega) (by decide) ?_
        refine V_if_ge_t dX7_dug_33 39 (by decide) hso ?_
        refine V_aloadn_0 dX7_dug_39 ?_
        refine V_cv0v dX7_dug_40 cv_X7_180 rcM (Nat.le_of_ble_eq_true rfl) k_M_thinks ?_
        refine V_abs (fun σ1 => BK σ σ1 ∧ MC L T σ1) ⟨BK.think (fun _ _ _ _ _ _ => rfl), hC.thk⟩ (fun σ1 h1 => ?_)
        have hC0 := hC
        have hK := h1.1
        replace hC := h1.2
        refine V_iconst (-1) dX7_dug_43 (by decide) ?_
        refine V_istore_4 dX7_dug_44 (by first | exact rfl | exact True.intro) (by decide) ?_
        refine V_aloadn_0 dX7_dug_46 ?_
        refine V_iloadn_1 dX7_dug_47 ?_
        refine V_iloadn_2 dX7_dug_48 ?_
        refine V_cv2r dX7_dug_49 cv_X7_196 rcM (Nat.le_of_ble_eq_true rfl) (k_M_off (by omega) hC hK hs hc hz hz24 hv hok) (fun σ2 h7 => ?_)
        refine V_lstore_5 dX7_dug_52 (by first | exact rfl | exact True.intro) (by decide) ?_
        refine V_iconst 0 dX7_dug_54 (by decide) ?_
        refine V_istore_7 dX7_dug_55 (by first | exact rfl | exact True.intro) (by decide) ?_
        exact lp_m_dug hs hc (by omega) hC0 hm12 hw hz hz24 hv hok (T 0 10 + 1) 0 σ2 ⟨h7.1, h7.2, by omega⟩ (by omega)
      · exact absurd (inN (a := 0) (b := 1) (by omega) hw (by decide)) h21

set_option maxRecDepth 100000 in
set_option maxHeartbeats 4000000 in
theorem m_dug_no {G : vG} {σ : vS} {d : Nat} (hd : 9 ≤ d) {L T : nT} (hC : MC L T σ) {s c w : Nat} (hs : s < 4) (hc : c < T 0 5) (hw : w ≤ 1) (hso : ¬ 0 ≤ σ 112 s) : Cf G yX7_dug cX7_dug 10 (some .int) d [.ref 97, .int (nI s), .int (nI c), .int (nI w)] σ (some (.int (-1000000011))) σ := by
  refine Ct.ofV (by decide) (Nat.le_of_ble_eq_true rfl) rfl ?_
  show V G RX7 cX7_dug (some .int) 10 d _ 0 [some (.ref 97), some (.int (nI s)), some (.int (nI c)), some (.int (nI w)), none, none, none, none, none, none] [] _
  obtain ⟨d, rfl⟩ : ∃ e, d = e + 1 := ⟨d - 1, by omega⟩
  have hI := hC.2.2.1
  have hn := hI.nc
  have hm := hI.np
  refine V_iloadn_1 dX7_dug_0 ?_
  refine V_cs1f dX7_dug_1 cs_X7_192 (Nat.le_of_ble_eq_true rfl) (k_M_isSheet (by omega)) ?_
  refine V_ifB_eq dX7_dug_4 24 (by decide) (fun h4 => ?_) (fun h4 => ?_)
  · exact absurd (hasN hs (by decide)) h4
  · refine V_aloadn_0 dX7_dug_7 ?_
    refine V_iloadn_2 dX7_dug_8 ?_
    refine V_cv1f dX7_dug_9 cv_X7_112 rcM (Nat.le_of_ble_eq_true rfl) (k_M_isCellar (by omega) hC) ?_
    refine V_ifB_eq dX7_dug_12 24 (by decide) (fun h12 => ?_) (fun h12 => ?_)
    · exact absurd (hasN hc (by omega)) h12
    · refine V_iloadn_3 dX7_dug_15 ?_
      refine V_iconst 0 dX7_dug_16 (by decide) ?_
      refine V_iconst 1 dX7_dug_17 (by decide) ?_
      refine V_cs3f dX7_dug_18 cs_X7_82 (Nat.le_of_ble_eq_true rfl) k_M_in ?_
      refine V_ifB_ne dX7_dug_21 27 (by decide) (fun h21 => ?_) (fun h21 => ?_)
      · refine V_aloadn_0 dX7_dug_27 ?_
        refine V_getR dX7_dug_28 fl_X7_54 oM_sorts ?_
        refine V_iloadn_1 dX7_dug_31 ?_
        refine V_iald (j := s) dX7_dug_32 aM_sorts (by omega) (by decide) ?_
        refine V_if_ge_f dX7_dug_33 39 (by decide) hso ?_
        refine V_ldc (-1000000011) dX7_dug_36 cn_X7_195 ?_
        exact V_iret dX7_dug_38 ⟨rfl, rfl⟩
      · exact absurd (inN (a := 0) (b := 1) (by omega) hw (by decide)) h21

set_option maxRecDepth 100000 in
set_option maxHeartbeats 4000000 in
theorem m_dug_bad {G : vG} {σ : vS} {d : Nat} (hd : 9 ≤ d) {L T : nT} (hC : MC L T σ) {x y z : Int32} (hb : ¬ (hasI x 4 ∧ hasI y (T 0 5) ∧ inI z 0 1)) : Cf G yX7_dug cX7_dug 10 (some .int) d [.ref 97, .int x, .int y, .int z] σ (some (.int (-1000000001))) σ := by
  refine Ct.ofV (by decide) (Nat.le_of_ble_eq_true rfl) rfl ?_
  show V G RX7 cX7_dug (some .int) 10 d _ 0 [some (.ref 97), some (.int x), some (.int y), some (.int z), none, none, none, none, none, none] [] _
  obtain ⟨d, rfl⟩ : ∃ e, d = e + 1 := ⟨d - 1, by omega⟩
  have hI := hC.2.2.1
  have hn := hI.nc
  have hm := hI.np
  refine V_iloadn_1 dX7_dug_0 ?_
  refine V_cs1f dX7_dug_1 cs_X7_192 (Nat.le_of_ble_eq_true rfl) (k_M_isSheet (by omega)) ?_
  refine V_ifB_eq dX7_dug_4 24 (by decide) (fun h4 => ?_) (fun h4 => ?_)
  · refine V_ldc (-1000000001) dX7_dug_24 cn_X7_86 ?_
    exact V_iret dX7_dug_26 ⟨rfl, rfl⟩
  · refine V_aloadn_0 dX7_dug_7 ?_
    refine V_iloadn_2 dX7_dug_8 ?_
    refine V_cv1f dX7_dug_9 cv_X7_112 rcM (Nat.le_of_ble_eq_true rfl) (k_M_isCellar (by omega) hC) ?_
    refine V_ifB_eq dX7_dug_12 24 (by decide) (fun h12 => ?_) (fun h12 => ?_)
    · refine V_ldc (-1000000001) dX7_dug_24 cn_X7_86 ?_
      exact V_iret dX7_dug_26 ⟨rfl, rfl⟩
    · refine V_iloadn_3 dX7_dug_15 ?_
      refine V_iconst 0 dX7_dug_16 (by decide) ?_
      refine V_iconst 1 dX7_dug_17 (by decide) ?_
      refine V_cs3f dX7_dug_18 cs_X7_82 (Nat.le_of_ble_eq_true rfl) k_M_in ?_
      refine V_ifB_ne dX7_dug_21 27 (by decide) (fun h21 => ?_) (fun h21 => ?_)
      · exact absurd ⟨h4, h12, h21⟩ hb
      · refine V_ldc (-1000000001) dX7_dug_24 cn_X7_86 ?_
        exact V_iret dX7_dug_26 ⟨rfl, rfl⟩

theorem so_no {x : Int32} (h : x = -1) : ¬ 0 ≤ x := by rw [h]; decide
theorem so_yes {x : Int32} (h : x = 0 ∨ x = 1) : 0 ≤ x := by rcases h with h | h <;> rw [h] <;> decide
theorem so_ne {x : Int32} (h : x = 0 ∨ x = 1) : x ≠ -1 := by rcases h with h | h <;> rw [h] <;> decide

set_option maxRecDepth 100000 in
set_option maxHeartbeats 4000000 in
theorem op_dug {G : vG} {σ : vS} {d i : Nat} (hd : 100 ≤ d) (hi : i < 512) {x y z : Int32} (h : Inv i σ) : Op G yX6_dug cX6_dug 9 yX7_dug cX7_dug 10 d [.int x, .int y, .int z] i σ := by
  have hh := h
  obtain ⟨L, T, I, b, hT, hB, hM, hS, hO, hW, hR, hK⟩ := h
  have hC := hT.1
  have hE := hT.2.1
  have hI := hC.2.2.1
  have hn := hI.nc
  have hm := hI.np
  by_cases hx : hasI x 4 ∧ hasI y (T 0 5) ∧ inI z 0 1
  · obtain ⟨s, hs, rfl⟩ := (hasI_iff (by decide)).mp hx.1
    obtain ⟨c, hc, rfl⟩ := (hasI_iff (by omega)).mp hx.2.1
    obtain ⟨w, hw, rfl⟩ := (inI_iff (b := 1) (by decide)).mp hx.2.2
    obtain ⟨s1, s2, ⟨n, n24, s3, s4⟩, s5⟩ := hS s hs
    rcases s2 with s2 | s2
    · exact Op.ask hh (Cf.fi (c_dug_no (by omega) hC hs hc hw (s1.trans s2))) (fun σ1 f1 => Cf.fi (m_dug_no (by omega) (hE.fi f1) hs hc hw (by rw [f1.p (q := 112) (by omega)]; exact so_no s2)))
    · exact Op.ask hh (c_dug (v := fun k => σ 114 (24 * s + k)) (by omega) hC hT.2.2.2.1 hs hc hw (by rw [s1]; exact so_ne s2) s3 n24 (fun k hk => (s5 k hk).1) (fun k hk => (s5 k hk).2))
        (fun σ1 f1 => m_dug (v := fun k => σ 114 (24 * s + k)) (by omega) (hE.fi f1) hT.2.2.2.1 hs hc hw (by rw [f1.p (q := 112) (by omega)]; exact so_yes s2) (by rw [f1.p (q := 113) (by omega)]; exact s4) n24 (fun k hk => by rw [f1.p (q := 114) (by omega)]) (fun k hk => (s5 k hk).2))
  · exact Op.ask hh (Cf.fi (c_dug_bad (by omega) hC hx)) (fun σ1 f1 => Cf.fi (m_dug_bad (by omega) (hE.fi f1) hx))
