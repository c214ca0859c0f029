/-! ===== loser ===== -/
def lsF (T U : nT) : Nat → Option (Nat × Int32)
  | 0 => none
  | c + 1 => stO true (lsF T U c) c (nI (fullT T c) - nI (fullT U c))
theorem lsF_s {T U : nT} {c : Nat} : lsF T U (c + 1) = stO true (lsF T U c) c (nI (fullT T c) - nI (fullT U c)) := rfl
theorem lsF_ok {T U : nT} : ∀ c, c ≤ 100 → okO (lsF T U c) := by
  intro c
  induction c with
  | zero => intro _; exact okO.n
  | succ c ih => intro h; rw [lsF_s]; exact (ih (by omega)).st (by omega)

set_option maxRecDepth 100000 in
set_option maxHeartbeats 4000000 in
theorem lp_c_loser {G : vG} {d : Nat} {σ0 σ : vS} {L T U : nT} {N n w : Nat} (hd : 6 ≤ d + 1) (hC : TC L N 61 T σ) (hP : TC L N 85 U σ) (hF : Fr 85 σ0 σ) (u5 : U 0 5 = T 0 5) (hw : w ≤ 1) : ∀ (k : Nat) (c : Nat) (b m : Int32), (c ≤ T 0 5 ∧ b = bO (-1000000005) (lsF T U c) ∧ m = wO (-1000000005) (lsF T U c)) → T 0 5 - c < k → V G RX6 cX6_loser (some .int) 7 (d + 1) (fun r' σ' => r' = some (.int (anO w (lsF T U (T 0 5)))) ∧ FI σ0 σ') 44 [some (.ref 0), some (.int (nI n)), some (.int (nI w)), some (.int b), some (.int m), some (.int (nI c)), none] [] σ := by
  intro k
  induction k with
  | zero => intros; omega
  | succ k ih =>
    intro c b m hh hk
    obtain ⟨hc, hbb, hmm⟩ := hh
    obtain ⟨ht, hH, hI, hL, hLI, hN, hN2⟩ := id hC
    have hT := hH.1
    have hU := hP.2.1.1
    have hIU := hP.2.2.1
    have hn := hI.nc
    have hm := hI.np
    have hok := lsF_ok (T := T) (U := U) c (by omega)
    refine V_iload_5 dX6_loser_44 ?_
    refine V_aloadn_0 dX6_loser_46 ?_
    refine V_getR dX6_loser_47 fl_X6_46 oC_now ?_
    refine V_getI dX6_loser_50 fl_X6_67 (oT_cellars tw61) ?_
    refine V_topi hT.n5 ?_
    refine V_icmpN_ge (a := c) (b := T 0 5) dX6_loser_53 103 (by decide) (by omega) (by omega) (fun h53 => ?_) (fun h53 => ?_)
    · refine V_iloadn_2 dX6_loser_103 ?_
      refine V_ifN_ne (a := w) dX6_loser_104 111 (by decide) (by omega) (fun h104 => ?_) (fun h104 => ?_)
      · refine V_iload_4 dX6_loser_111 ?_
        exact V_iret dX6_loser_113 ⟨rI (by rw [show T 0 5 = c by omega, hmm]; unfold anO; rw [if_neg h104]), hF.fi⟩
      · refine V_iloadn_3 dX6_loser_107 ?_
        refine V_goto dX6_loser_108 113 (by decide) ?_
        exact V_iret dX6_loser_113 ⟨rI (by rw [show T 0 5 = c by omega, hbb]; unfold anO; rw [if_pos h104]), hF.fi⟩
    · refine V_aloadn_0 dX6_loser_56 ?_
      refine V_getR dX6_loser_57 fl_X6_46 oC_now ?_
      refine V_iload_5 dX6_loser_60 ?_
      refine V_cv1f dX6_loser_62 cv_X6_88 (rcT tw61) (Nat.le_of_ble_eq_true rfl) (k_T_fullOf tw61 hT hI (by omega)) ?_
      refine V_aloadn_0 dX6_loser_65 ?_
      refine V_getR dX6_loser_66 fl_X6_53 oC_thought ?_
      refine V_iload_5 dX6_loser_69 ?_
      refine V_cv1f dX6_loser_71 cv_X6_88 (rcT tw85) (Nat.le_of_ble_eq_true rfl) (k_T_fullOf tw85 hU hIU (by omega)) ?_
      refine V_isub dX6_loser_74 ?_
      refine V_istore_6 dX6_loser_75 (by first | exact rfl | exact True.intro) (by decide) ?_
      refine V_iloadn_3 dX6_loser_77 ?_
      refine V_ldc (-1000000005) dX6_loser_78 cn_X6_189 ?_
      refine V_icmp_eq dX6_loser_80 90 (by decide) (fun h80 => ?_) (fun h80 => ?_)
      · refine V_iload_5 dX6_loser_90 ?_
        refine V_istoren_3 dX6_loser_92 (by first | exact rfl | exact True.intro) (by decide) ?_
        refine V_iload_6 dX6_loser_93 ?_
        refine V_istore_4 dX6_loser_95 (by first | exact rfl | exact True.intro) (by decide) ?_
        refine V_iinc_5 dX6_loser_97 (by first | exact rfl | exact True.intro) (by decide) (nI (c + 1)) (nI_inc _) ?_
        refine V_goto dX6_loser_100 44 (by decide) ?_
        refine V_fg_6 ?_
        have e9 : lsF T U (c + 1) = some (c, nI (fullT T c) - nI (fullT U c)) := by
          rw [lsF_s]
          exact stN_t ((bO_none hok).mp (by rw [← hbb]; exact h80))
        exact ih (c + 1) _ _ ⟨by omega, by rw [e9]; rfl, by rw [e9]; rfl⟩ (by omega)
      · refine V_iload_6 dX6_loser_83 ?_
        refine V_iload_4 dX6_loser_85 ?_
        refine V_icmp_le dX6_loser_87 97 (by decide) (fun h87 => ?_) (fun h87 => ?_)
        · refine V_iinc_5 dX6_loser_97 (by first | exact rfl | exact True.intro) (by decide) (nI (c + 1)) (nI_inc _) ?_
          refine V_goto dX6_loser_100 44 (by decide) ?_
          refine V_fg_6 ?_
          have e9 : lsF T U (c + 1) = lsF T U c := by
            rw [lsF_s]
            exact stU_k (e := -1000000005) (fun e => h80 (by rw [hbb]; exact (bO_none hok).mpr e)) (by rw [← hmm]; exact h87)
          exact ih (c + 1) b m ⟨by omega, by rw [e9]; exact hbb, by rw [e9]; exact hmm⟩ (by omega)
        · refine V_iload_5 dX6_loser_90 ?_
          refine V_istoren_3 dX6_loser_92 (by first | exact rfl | exact True.intro) (by decide) ?_
          refine V_iload_6 dX6_loser_93 ?_
          refine V_istore_4 dX6_loser_95 (by first | exact rfl | exact True.intro) (by decide) ?_
          refine V_iinc_5 dX6_loser_97 (by first | exact rfl | exact True.intro) (by decide) (nI (c + 1)) (nI_inc _) ?_
          refine V_goto dX6_loser_100 44 (by decide) ?_
          refine V_fg_6 ?_
          have e9 : lsF T U (c + 1) = some (c, nI (fullT T c) - nI (fullT U c)) := by
            rw [lsF_s]
            exact stU_t (e := -1000000005) (by rw [← hmm]; exact h87)
          exact ih (c + 1) _ _ ⟨by omega, by rw [e9]; rfl, by rw [e9]; rfl⟩ (by omega)

set_option maxRecDepth 100000 in
set_option maxHeartbeats 4000000 in
theorem c_loser {G : vG} {σ : vS} {d : Nat} (hd : 6 ≤ d) {L T : nT} {N : Nat} (hC : TC L N 61 T σ) (hm12 : T 0 10 ≤ 12) {n w : Nat} (hn1 : 1 ≤ n ∧ n ≤ 60) (hw : w ≤ 1) : Cr G yX6_loser cX6_loser 7 (some .int) d [.ref 0, .int (nI n), .int (nI w)] σ (some (.int (anO w (lsF T (hoursT L n T) (T 0 5))))) (fun σ' => FI σ σ') := by
  refine Ct.ofV (by decide) (Nat.le_of_ble_eq_true rfl) rfl ?_
  show V G RX6 cX6_loser (some .int) 7 d _ 0 [some (.ref 0), some (.int (nI n)), some (.int (nI w)), none, none, none, none] [] _
  obtain ⟨d, rfl⟩ : ∃ e, d = e + 1 := ⟨d - 1, by omega⟩
  obtain ⟨ht, hH, hI, hL, hLI, hN, hN2⟩ := id hC
  have hT := hH.1
  have hn := hI.nc
  have hm := hI.np
  have hIP := hI
  refine V_iloadn_1 dX6_loser_0 ?_
  refine V_iconst 1 dX6_loser_1 (by decide) ?_
  refine V_bipush 60 dX6_loser_2 (by decide) ?_
  refine V_cs3f dX6_loser_4 cs_X6_108 (Nat.le_of_ble_eq_true rfl) k_C_within ?_
  refine V_ifB_eq dX6_loser_7 19 (by decide) (fun h7 => ?_) (fun h7 => ?_)
  · exact absurd (inN (a := 1) (b := 60) hn1.1 hn1.2 (by decide)) h7
  · refine V_iloadn_2 dX6_loser_10 ?_
    refine V_iconst 0 dX6_loser_11 (by decide) ?_
    refine V_iconst 1 dX6_loser_12 (by decide) ?_
    refine V_cs3f dX6_loser_13 cs_X6_108 (Nat.le_of_ble_eq_true rfl) k_C_within ?_
    refine V_ifB_ne dX6_loser_16 22 (by decide) (fun h16 => ?_) (fun h16 => ?_)
    · refine V_aloadn_0 dX6_loser_22 ?_
      refine V_cv0n dX6_loser_23 cv_X6_183 rcC (Nat.le_of_ble_eq_true rfl) (k_C_think (by omega) hC (by omega)) (fun σ h5 => ?_)
      have hF := h5.2
      have hP := h5.1
      replace hC := hC.other h5.2 tw85 (by decide)
      have hT := hC.2.1.1
      have hH := hC.2.1
      refine V_aloadn_0 dX6_loser_26 ?_
      refine V_getR dX6_loser_27 fl_X6_53 oC_thought ?_
      refine V_iloadn_1 dX6_loser_30 ?_
      refine V_cv1n dX6_loser_31 cv_X6_170 (rcT tw85) (Nat.le_of_ble_eq_true rfl) (k_T_passHours (by omega) hP (by omega)) (fun σ h6 => ?_)
      replace hF := hF.tr h6.2
      replace hP := h6.1
      replace hC := hC.other h6.2 tw85 (by decide)
      have hT := hC.2.1.1
      have hH := hC.2.1
      have hX := hIP.hours (L := L) n
      obtain ⟨U, hUe⟩ : ∃ U, U = hoursT L n T := ⟨_, rfl⟩
      rw [← hUe] at hP hX
      have hU := hP.2.1.1
      have hHU := hP.2.1
      have hIU := hP.2.2.1
      have u5 := hX.2 0 5 (by decide) (by omega)
      have u10 := hX.2 0 10 (by decide) (by omega)
      refine V_ldc (-1000000005) dX6_loser_34 cn_X6_189 ?_
      refine V_istoren_3 dX6_loser_36 (by first | exact rfl | exact True.intro) (by decide) ?_
      refine V_ldc (-1000000005) dX6_loser_37 cn_X6_189 ?_
      refine V_istore_4 dX6_loser_39 (by first | exact rfl | exact True.intro) (by decide) ?_
      refine V_iconst 0 dX6_loser_41 (by decide) ?_
      refine V_istore_5 dX6_loser_42 (by first | exact rfl | exact True.intro) (by decide) ?_
      rw [← hUe]
      exact lp_c_loser (by omega) hC hP hF u5 hw (T 0 5 + 1) 0 _ _ ⟨by omega, rfl, rfl⟩ (by omega)
    · exact absurd (inN (a := 0) (b := 1) (by omega) hw (by decide)) h16

set_option maxRecDepth 100000 in
set_option maxHeartbeats 4000000 in
theorem c_loser_bad {G : vG} {σ : vS} {d : Nat} (hd : 6 ≤ d) {L T : nT} {N : Nat} (hC : TC L N 61 T σ) {x y : Int32} (hb : ¬ (inI x 1 60 ∧ inI y 0 1)) : Cf G yX6_loser cX6_loser 7 (some .int) d [.ref 0, .int x, .int y] σ (some (.int (-1000000001))) σ := by
  refine Ct.ofV (by decide) (Nat.le_of_ble_eq_true rfl) rfl ?_
  show V G RX6 cX6_loser (some .int) 7 d _ 0 [some (.ref 0), some (.int x), some (.int y), none, none, none, none] [] _
  obtain ⟨d, rfl⟩ : ∃ e, d = e + 1 := ⟨d - 1, by omega⟩
  obtain ⟨ht, hH, hI, hL, hLI, hN, hN2⟩ := id hC
  have hT := hH.1
  have hn := hI.nc
  have hm := hI.np
  refine V_iloadn_1 dX6_loser_0 ?_
  refine V_iconst 1 dX6_loser_1 (by decide) ?_
  refine V_bipush 60 dX6_loser_2 (by decide) ?_
  refine V_cs3f dX6_loser_4 cs_X6_108 (Nat.le_of_ble_eq_true rfl) k_C_within ?_
  refine V_ifB_eq dX6_loser_7 19 (by decide) (fun h7 => ?_) (fun h7 => ?_)
  · refine V_ldc (-1000000001) dX6_loser_19 cn_X6_66 ?_
    exact V_iret dX6_loser_21 ⟨rfl, rfl⟩
  · refine V_iloadn_2 dX6_loser_10 ?_
    refine V_iconst 0 dX6_loser_11 (by decide) ?_
    refine V_iconst 1 dX6_loser_12 (by decide) ?_
    refine V_cs3f dX6_loser_13 cs_X6_108 (Nat.le_of_ble_eq_true rfl) k_C_within ?_
    refine V_ifB_ne dX6_loser_16 22 (by decide) (fun h16 => ?_) (fun h16 => ?_)
    · exact absurd ⟨h7, h16⟩ hb
    · refine V_ldc (-1000000001) dX6_loser_19 cn_X6_66 ?_
      exact V_iret dX6_loser_21 ⟨rfl, rfl⟩

set_option maxRecDepth 100000 in
set_option maxHeartbeats 4000000 in
theorem lp_m_loser {G : vG} {d : Nat} {σ0 σ : vS} {L T U : nT} {n w : Nat} (hd : 9 ≤ d + 1) (hC : MC L U σ) (hI : TI T) (hK : BK σ0 σ) (u5 : U 0 5 = T 0 5) (hw : w ≤ 1) (h103 : ∀ c, c < T 0 5 → σ 103 c = nI (fullT T c)) : ∀ (k : Nat) (c : Nat) (b m : Int32), (c ≤ T 0 5 ∧ b = bO (-1) (lsF T U c) ∧ m = wO 0 (lsF T U c)) → T 0 5 - c < k → V G RX7 cX7_loser (some .int) 7 (d + 1) (fun r' σ' => r' = some (.int (anO w (lsF T U (T 0 5)))) ∧ FI σ0 σ') 68 [some (.ref 97), some (.int (nI n)), some (.int (nI w)), some (.int b), some (.int m), some (.int (nI c)), none] [] σ := by
  intro k
  induction k with
  | zero => intros; omega
  | succ k ih =>
    intro c b m hh hk
    obtain ⟨hc, hbb, hmm⟩ := hh
    have hIU := hC.2.2.1
    have hn := hI.nc
    have hok := lsF_ok (T := T) (U := U) c (by omega)
    refine V_iload_5 dX7_loser_68 ?_
    refine V_aloadn_0 dX7_loser_70 ?_
    refine V_getR dX7_loser_71 fl_X7_9 oM_now ?_
    refine V_iconst 1 dX7_loser_74 (by decide) ?_
    refine V_iald (j := 1) dX7_loser_75 aM_now (by decide) (by decide) ?_
    refine V_topi hC.1.s1 ?_
    refine V_icmpN_ge (a := c) (b := U 0 5) dX7_loser_76 119 (by decide) (by omega) (by omega) (fun h76 => ?_) (fun h76 => ?_)
    · have hce : T 0 5 = c := by omega
      refine V_aloadn_0 dX7_loser_119 ?_
      refine V_cv0v dX7_loser_120 cv_X7_183 rcM (Nat.le_of_ble_eq_true rfl) k_M_putsBack ?_
      refine V_iloadn_3 dX7_loser_123 ?_
      refine V_if_ge dX7_loser_124 132 (by decide) (fun h124 => ?_) (fun h124 => ?_)
      · refine V_iloadn_2 dX7_loser_132 ?_
        refine V_ifN_ne (a := w) dX7_loser_133 140 (by decide) (by omega) (fun h133 => ?_) (fun h133 => ?_)
        · refine V_iload_4 dX7_loser_140 ?_
          exact V_iret dX7_loser_142 ⟨rI (by rw [hce]; exact (by rw [hmm]; exact an_v (fun e => absurd (by rw [hbb]; exact (bO_neg hok).mpr e) (Int32.not_lt.mpr h124)) h133)), hK.fin⟩
        · refine V_iloadn_3 dX7_loser_136 ?_
          refine V_goto dX7_loser_137 142 (by decide) ?_
          exact V_iret dX7_loser_142 ⟨rI (by rw [hce]; exact (by rw [hbb]; exact an_b (fun e => absurd (by rw [hbb]; exact (bO_neg hok).mpr e) (Int32.not_lt.mpr h124)) h133)), hK.fin⟩
      · refine V_ldc (-1000000005) dX7_loser_127 cn_X7_81 ?_
        refine V_goto dX7_loser_129 142 (by decide) ?_
        exact V_iret dX7_loser_142 ⟨rI (by rw [hce]; exact an_n ((bO_neg hok).mp (by rw [← hbb]; exact Int32.not_le.mp h124))), hK.fin⟩
    · refine V_aloadn_0 dX7_loser_79 ?_
      refine V_getR dX7_loser_80 fl_X7_25 oM_fullWas ?_
      refine V_iload_5 dX7_loser_83 ?_
      refine V_iald (j := c) dX7_loser_85 aM_fullWas (by omega) (by decide) ?_
      refine V_topi (y := nI (fullT T c)) (h103 c (by omega)) ?_
      refine V_aloadn_0 dX7_loser_86 ?_
      refine V_iload_5 dX7_loser_87 ?_
      refine V_cv1f dX7_loser_89 cv_X7_96 rcM (Nat.le_of_ble_eq_true rfl) (k_M_fullOf (by omega) hC (by omega)) ?_
      refine V_isub dX7_loser_92 ?_
      refine V_istore_6 dX7_loser_93 (by first | exact rfl | exact True.intro) (by decide) ?_
      refine V_iloadn_3 dX7_loser_95 ?_
      refine V_if_lt dX7_loser_96 106 (by decide) (fun h96 => ?_) (fun h96 => ?_)
      · refine V_iload_5 dX7_loser_106 ?_
        refine V_istoren_3 dX7_loser_108 (by first | exact rfl | exact True.intro) (by decide) ?_
        refine V_iload_6 dX7_loser_109 ?_
        refine V_istore_4 dX7_loser_111 (by first | exact rfl | exact True.intro) (by decide) ?_
        refine V_iinc_5 dX7_loser_113 (by first | exact rfl | exact True.intro) (by decide) (nI (c + 1)) (nI_inc _) ?_
        refine V_goto dX7_loser_116 68 (by decide) ?_
        refine V_fg_6 ?_
        have e9 : lsF T U (c + 1) = some (c, nI (fullT T c) - nI (fullT U c)) := by
          rw [lsF_s]
          exact stN_t ((bO_neg hok).mp (by rw [← hbb]; exact h96))
        exact ih (c + 1) _ _ ⟨by omega, by rw [e9]; rfl, by rw [e9]; rfl⟩ (by omega)
      · refine V_iload_6 dX7_loser_99 ?_
        refine V_iload_4 dX7_loser_101 ?_
        refine V_icmp_le dX7_loser_103 113 (by decide) (fun h103 => ?_) (fun h103 => ?_)
        · refine V_iinc_5 dX7_loser_113 (by first | exact rfl | exact True.intro) (by decide) (nI (c + 1)) (nI_inc _) ?_
          refine V_goto dX7_loser_116 68 (by decide) ?_
          refine V_fg_6 ?_
          have e9 : lsF T U (c + 1) = lsF T U c := by
            rw [lsF_s]
            exact stU_k (e := 0) (fun e => h96 (by rw [hbb]; exact (bO_neg hok).mpr e)) (by rw [← hmm]; exact h103)
          exact ih (c + 1) b m ⟨by omega, by rw [e9]; exact hbb, by rw [e9]; exact hmm⟩ (by omega)
        · refine V_iload_5 dX7_loser_106 ?_
          refine V_istoren_3 dX7_loser_108 (by first | exact rfl | exact True.intro) (by decide) ?_
          refine V_iload_6 dX7_loser_109 ?_
          refine V_istore_4 dX7_loser_111 (by first | exact rfl | exact True.intro) (by decide) ?_
          refine V_iinc_5 dX7_loser_113 (by first | exact rfl | exact True.intro) (by decide) (nI (c + 1)) (nI_inc _) ?_
          refine V_goto dX7_loser_116 68 (by decide) ?_
          refine V_fg_6 ?_
          have e9 : lsF T U (c + 1) = some (c, nI (fullT T c) - nI (fullT U c)) := by
            rw [lsF_s]
            exact stU_t (e := 0) (by rw [← hmm]; exact h103)
          exact ih (c + 1) _ _ ⟨by omega, by rw [e9]; rfl, by rw [e9]; rfl⟩ (by omega)

set_option maxRecDepth 100000 in
set_option maxHeartbeats 4000000 in
theorem lp_m_loser1 {G : vG} {d : Nat} {σ0 : vS} {L T : nT} {n w : Nat} (hd : 9 ≤ d + 1) (hn60 : n ≤ 60) (hw : w ≤ 1) : ∀ (k : Nat) (c : Nat) (σ : vS), (MC L T σ ∧ (∀ q, q ≠ 103 → σ q = σ0 q) ∧ c ≤ T 0 5 ∧ ∀ j, j < c → σ 103 j = nI (fullT T j)) → T 0 5 - c < k → V G RX7 cX7_loser (some .int) 7 (d + 1) (fun r' σ' => r' = some (.int (anO w (lsF T (hoursT L n T) (T 0 5)))) ∧ FI σ0 σ') 24 [some (.ref 97), some (.int (nI n)), some (.int (nI w)), some (.int (nI c)), none, none, none] [] σ := by
  intro k
  induction k with
  | zero => intros; omega
  | succ k ih =>
    intro c σ hh hk
    obtain ⟨hC, hs, hc, h3⟩ := hh
    have hI := hC.2.2.1
    have hIP := hI
    have hn := hI.nc
    refine V_iloadn_3 dX7_loser_24 ?_
    refine V_aloadn_0 dX7_loser_25 ?_
    refine V_getR dX7_loser_26 fl_X7_9 oM_now ?_
    refine V_iconst 1 dX7_loser_29 (by decide) ?_
    refine V_iald (j := 1) dX7_loser_30 aM_now (by decide) (by decide) ?_
    refine V_topi hC.1.s1 ?_
    refine V_icmpN_ge (a := c) (b := T 0 5) dX7_loser_31 51 (by decide) (by omega) (by omega) (fun h31 => ?_) (fun h31 => ?_)
    · refine V_aloadn_0 dX7_loser_51 ?_
      refine V_cv0v dX7_loser_52 cv_X7_180 rcM (Nat.le_of_ble_eq_true rfl) k_M_thinks ?_
      refine V_abs (fun σ1 => BK σ0 σ1 ∧ MC L T σ1 ∧ ∀ c, c < T 0 5 → σ1 103 c = nI (fullT T c)) ⟨BK.think (fun q _ _ h _ _ => hs q h), hC.thk, fun j hj => by rw [vcp_p (by decide)]; exact h3 j (by omega)⟩ (fun σ1 h1 => ?_)
      obtain ⟨hK, hC, h3⟩ := h1
      have h9 := h3
      refine V_aloadn_0 dX7_loser_55 ?_
      refine V_iloadn_1 dX7_loser_56 ?_
      refine V_cv1n dX7_loser_57 cv_X7_171 rcM (Nat.le_of_ble_eq_true rfl) (k_M_goesOn (by omega) hC (by omega)) (fun σ2 h2 => ?_)
      replace hC := h2.1
      replace hK := hK.fm h2.2
      have hX := hIP.hours (L := L) n
      obtain ⟨U, hUe⟩ : ∃ U, U = hoursT L n T := ⟨_, rfl⟩
      rw [← hUe] at hC hX
      have hIU := hC.2.2.1
      have u5 := hX.2 0 5 (by decide) (by omega)
      have u10 := hX.2 0 10 (by decide) (by omega)
      replace h3 : ∀ c, c < T 0 5 → σ2 103 c = nI (fullT T c) := fun j hj => by rw [h2.2.1 103 (by decide) (by decide) (by decide) (by decide)]; exact h9 j hj
      refine V_iconst (-1) dX7_loser_60 (by decide) ?_
      refine V_istoren_3 dX7_loser_61 (by first | exact rfl | exact True.intro) (by decide) ?_
      refine V_iconst 0 dX7_loser_62 (by decide) ?_
      refine V_istore_4 dX7_loser_63 (by first | exact rfl | exact True.intro) (by decide) ?_
      refine V_iconst 0 dX7_loser_65 (by decide) ?_
      refine V_istore_5 dX7_loser_66 (by first | exact rfl | exact True.intro) (by decide) ?_
      rw [← hUe]
      exact lp_m_loser (by omega) hC hI hK u5 hw h3 (T 0 5 + 1) 0 _ _ ⟨by omega, rfl, rfl⟩ (by omega)
    · refine V_aloadn_0 dX7_loser_34 ?_
      refine V_getR dX7_loser_35 fl_X7_25 oM_fullWas ?_
      refine V_iloadn_3 dX7_loser_38 ?_
      refine V_aloadn_0 dX7_loser_39 ?_
      refine V_iloadn_3 dX7_loser_40 ?_
      refine V_cv1f dX7_loser_41 cv_X7_96 rcM (Nat.le_of_ble_eq_true rfl) (k_M_fullOf (by omega) hC (by omega)) ?_
      refine V_iast (j := c) dX7_loser_44 aM_fullWas (by omega) (by decide) ?_
      refine V_iinc_3 dX7_loser_45 (by first | exact rfl | exact True.intro) (by decide) (nI (c + 1)) (nI_inc _) ?_
      refine V_goto dX7_loser_48 24 (by decide) ?_
      refine ih (c + 1) _ ⟨hC.e98 (vup_p (by decide)), fun q hq => by rw [vup_p hq]; exact hs q hq, by omega, fun j hj => ?_⟩ (by omega)
      by_cases e : j = c
      · rw [e]; exact vup_same
      · rw [vup_ne (by omega)]; exact h3 j (by omega)

set_option maxRecDepth 100000 in
set_option maxHeartbeats 4000000 in
theorem m_loser {G : vG} {σ : vS} {d : Nat} (hd : 9 ≤ d) {L T : nT} (hC : MC L T σ) {n w : Nat} (hn1 : 1 ≤ n ∧ n ≤ 60) (hw : w ≤ 1) : Cr G yX7_loser cX7_loser 7 (some .int) d [.ref 97, .int (nI n), .int (nI w)] σ (some (.int (anO w (lsF T (hoursT L n T) (T 0 5))))) (fun σ' => FI σ σ') := by
  refine Ct.ofV (by decide) (Nat.le_of_ble_eq_true rfl) rfl ?_
  show V G RX7 cX7_loser (some .int) 7 d _ 0 [some (.ref 97), some (.int (nI n)), some (.int (nI w)), none, none, none, none] [] _
  obtain ⟨d, rfl⟩ : ∃ e, d = e + 1 := ⟨d - 1, by omega⟩
  have hI := hC.2.2.1
  have hn := hI.nc
  have hm := hI.np
  refine V_iloadn_1 dX7_loser_0 ?_
  refine V_iconst 1 dX7_loser_1 (by decide) ?_
  refine V_bipush 60 dX7_loser_2 (by decide) ?_
  refine V_cs3f dX7_loser_4 cs_X7_82 (Nat.le_of_ble_eq_true rfl) k_M_in ?_
  refine V_ifB_eq dX7_loser_7 19 (by decide) (fun h7 => ?_) (fun h7 => ?_)
  · exact absurd (inN (a := 1) (b := 60) hn1.1 hn1.2 (by decide)) h7
  · refine V_iloadn_2 dX7_loser_10 ?_
    refine V_iconst 0 dX7_loser_11 (by decide) ?_
    refine V_iconst 1 dX7_loser_12 (by decide) ?_
    refine V_cs3f dX7_loser_13 cs_X7_82 (Nat.le_of_ble_eq_true rfl) k_M_in ?_
    refine V_ifB_ne dX7_loser_16 22 (by decide) (fun h16 => ?_) (fun h16 => ?_)
    · refine V_iconst 0 dX7_loser_22 (by decide) ?_
      refine V_istoren_3 dX7_loser_23 (by first | exact rfl | exact True.intro) (by decide) ?_
      exact lp_m_loser1 (by omega) hn1.2 hw (T 0 5 + 1) 0 _ ⟨hC, fun _ _ => rfl, by omega, fun j hj => absurd hj (Nat.not_lt_zero j)⟩ (by omega)
    · exact absurd (inN (a := 0) (b := 1) (by omega) hw (by decide)) h16

set_option maxRecDepth 100000 in
set_option maxHeartbeats 4000000 in
theorem m_loser_bad {G : vG} {σ : vS} {d : Nat} (hd : 9 ≤ d) {L T : nT} (hC : MC L T σ) {x y : Int32} (hb : ¬ (inI x 1 60 ∧ inI y 0 1)) : Cf G yX7_loser cX7_loser 7 (some .int) d [.ref 97, .int x, .int y] σ (some (.int (-1000000001))) σ := by
  refine Ct.ofV (by decide) (Nat.le_of_ble_eq_true rfl) rfl ?_
  show V G RX7 cX7_loser (some .int) 7 d _ 0 [some (.ref 97), some (.int x), some (.int y), none, none, none, none] [] _
  obtain ⟨d, rfl⟩ : ∃ e, d = e + 1 := ⟨d - 1, by omega⟩
  have hI := hC.2.2.1
  have hn := hI.nc
  have hm := hI.np
  refine V_iloadn_1 dX7_loser_0 ?_
  refine V_iconst 1 dX7_loser_1 (by decide) ?_
  refine V_bipush 60 dX7_loser_2 (by decide) ?_
  refine V_cs3f dX7_loser_4 cs_X7_82 (Nat.le_of_ble_eq_true rfl) k_M_in ?_
  refine V_ifB_eq dX7_loser_7 19 (by decide) (fun h7 => ?_) (fun h7 => ?_)
  · refine V_ldc (-1000000001) dX7_loser_19 cn_X7_86 ?_
    exact V_iret dX7_loser_21 ⟨rfl, rfl⟩
  · refine V_iloadn_2 dX7_loser_10 ?_
    refine V_iconst 0 dX7_loser_11 (by decide) ?_
    refine V_iconst 1 dX7_loser_12 (by decide) ?_
    refine V_cs3f dX7_loser_13 cs_X7_82 (Nat.le_of_ble_eq_true rfl) k_M_in ?_
    refine V_ifB_ne dX7_loser_16 22 (by decide) (fun h16 => ?_) (fun h16 => ?_)
    · exact absurd ⟨h7, h16⟩ hb
    · refine V_ldc (-1000000001) dX7_loser_19 cn_X7_86 ?_
      exact V_iret dX7_loser_21 ⟨rfl, rfl⟩

set_option maxRecDepth 100000 in
set_option maxHeartbeats 4000000 in
theorem op_loser {G : vG} {σ : vS} {d i : Nat} (hd : 100 ≤ d) (hi : i < 512) {x y : Int32} (h : Inv i σ) : Op G yX6_loser cX6_loser 7 yX7_loser cX7_loser 7 d [.int x, .int y] i σ := by
  have hh := h
  obtain ⟨L, T, I, b, hT, hB, hM, hS, hO, hW, hR, hK⟩ := h
  have hC := hT.1
  have hE := hT.2.1
  have hI := hC.2.2.1
  have hn := hI.nc
  have hm := hI.np
  by_cases hx : inI x 1 60 ∧ inI y 0 1
  · obtain ⟨n, hn1, hn2, rfl⟩ := (inI_iff' (a := 1) (b := 60) (by decide) (by decide)).mp hx.1
    obtain ⟨w, hw, rfl⟩ := (inI_iff (b := 1) (by decide)).mp hx.2
    exact Op.ask hh (c_loser (by omega) hC hT.2.2.2.1 ⟨hn1, hn2⟩ hw) (fun σ1 f1 => m_loser (by omega) (hE.fi f1) ⟨hn1, hn2⟩ hw)
  · exact Op.ask hh (Cf.fi (c_loser_bad (by omega) hC hx)) (fun σ1 f1 => Cf.fi (m_loser_bad (by omega) (hE.fi f1) hx))

/-! ===== dig ===== -/
def dgV (L T : nT) (n a b : Nat) : Int32 := nI (hoursT L n (addPT T a b 3) 0 11)
def dgI (L T : nT) (n a : Nat) (o : Option (Nat × Int32)) : Nat → Option (Nat × Int32)
  | 0 => o
  | j + 1 => if jnb T a (a + 1 + j) (T 0 10) = true then dgI L T n a o j else stO false (dgI L T n a o j) (10 * a + (a + 1 + j)) (dgV L T n a (a + 1 + j))
theorem dgI_s {L T : nT} {n a j : Nat} {o : Option (Nat × Int32)} : dgI L T n a o (j + 1) = if jnb T a (a + 1 + j) (T 0 10) = true then dgI L T n a o j else stO false (dgI L T n a o j) (10 * a + (a + 1 + j)) (dgV L T n a (a + 1 + j)) := rfl
def dgO (L T : nT) (n : Nat) : Nat → Option (Nat × Int32)
  | 0 => none
  | a + 1 => dgI L T n a (dgO L T n a) (T 0 5 - (a + 1))
theorem dgI_ok {L T : nT} {n a : Nat} {o : Option (Nat × Int32)} (ho : okO o) (ha : a ≤ 10) : ∀ j, j ≤ 10 → okO (dgI L T n a o j) := by
  intro j
  induction j with
  | zero => intro _; exact ho
  | succ j ih =>
    intro h
    rw [dgI_s]
    split
    · exact ih (by omega)
    · exact (ih (by omega)).st (by omega)
theorem dgO_ok {L T : nT} {n : Nat} (h5 : T 0 5 ≤ 8) : ∀ a, a ≤ 8 → okO (dgO L T n a) := by
  intro a
  induction a with
  | zero => intro _; exact okO.n
  | succ a ih => intro h; exact dgI_ok (ih (by omega)) (by omega) _ (by omega)

set_option maxRecDepth 100000 in
set_option maxHeartbeats 4000000 in
theorem lp_c_digI {G : vG} {d : Nat} {Q : Option Value → vS → Prop} {σ0 : vS} {L T : nT} {N n w a : Nat} {o : Option (Nat × Int32)} (hd : 6 ≤ d + 1) (hm12 : T 0 10 ≤ 12) (hn40 : n ≤ 40) (ha : a < T 0 5) (ho : okO o)
    (kont : ∀ (b m : Int32) (σ : vS), TC L N 61 T σ → Fr 85 σ0 σ → b = bO (-1000000005) (dgI L T n a o (T 0 5 - (a + 1))) → m = wO (-1000000005) (dgI L T n a o (T 0 5 - (a + 1))) → V G RX6 cX6_dig (some .int) 7 (d + 1) Q 134 [some (.ref 0), some (.int (nI n)), some (.int (nI w)), some (.int b), some (.int m), some (.int (nI a)), none] [] σ) : ∀ (k : Nat) (j : Nat) (b m : Int32) (σ : vS), (TC L N 61 T σ ∧ Fr 85 σ0 σ ∧ j ≤ T 0 5 - (a + 1) ∧ b = bO (-1000000005) (dgI L T n a o j) ∧ m = wO (-1000000005) (dgI L T n a o j)) → T 0 5 - (a + 1) - j < k → V G RX6 cX6_dig (some .int) 7 (d + 1) Q 50 [some (.ref 0), some (.int (nI n)), some (.int (nI w)), some (.int b), some (.int m), some (.int (nI a)), some (.int (nI (a + 1 + j)))] [] σ := by
  intro k
  induction k with
  | zero => intros; omega
  | succ k ih =>
    intro j b m σ hh hk
    obtain ⟨hC, hF, hj, hbb, hmm⟩ := hh
    obtain ⟨ht, hH, hI, hL, hLI, hN, hN2⟩ := id hC
    have hT := hH.1
    have hn := hI.nc
    have hm := hI.np
    have hok := dgI_ok (L := L) (T := T) (n := n) (a := a) ho (by omega) j (by omega)
    refine V_iload_6 dX6_dig_50 ?_
    refine V_aloadn_0 dX6_dig_52 ?_
    refine V_getR dX6_dig_53 fl_X6_46 oC_now ?_
    refine V_getI dX6_dig_56 fl_X6_67 (oT_cellars tw61) ?_
    refine V_topi hT.n5 ?_
    refine V_icmpN_ge (a := a + 1 + j) (b := T 0 5) dX6_dig_59 134 (by decide) (by omega) (by omega) (fun h59 => ?_) (fun h59 => ?_)
    · refine V_fg_6 ?_
      have hje : T 0 5 - (a + 1) = j := by omega
      exact kont b m σ hC hF (by rw [hje]; exact hbb) (by rw [hje]; exact hmm)
    · refine V_aloadn_0 dX6_dig_62 ?_
      refine V_getR dX6_dig_63 fl_X6_46 oC_now ?_
      refine V_iload_5 dX6_dig_66 ?_
      refine V_iload_6 dX6_dig_68 ?_
      refine V_cv2f dX6_dig_70 cv_X6_193 (rcT tw61) (Nat.le_of_ble_eq_true rfl) (k_T_isJoined tw61 hT hI (by omega) (by omega)) ?_
      refine V_ifB_ne dX6_dig_73 128 (by decide) (fun h73 => ?_) (fun h73 => ?_)
      · refine V_iinc_6 dX6_dig_128 (by first | exact rfl | exact True.intro) (by decide) (nI ((a + 1 + j) + 1)) (nI_inc _) ?_
        refine V_goto dX6_dig_131 50 (by decide) ?_
        have e9 : dgI L T n a o (j + 1) = dgI L T n a o j := by rw [dgI_s, if_pos h73]
        exact ih (j + 1) b m σ ⟨hC, hF, by omega, by rw [e9]; exact hbb, by rw [e9]; exact hmm⟩ (by omega)
      · refine V_aloadn_0 dX6_dig_76 ?_
        refine V_iload_5 dX6_dig_77 ?_
        refine V_iload_6 dX6_dig_79 ?_
        refine V_cv2n dX6_dig_81 cv_X6_196 rcC (Nat.le_of_ble_eq_true rfl) (k_C_thinkP (by omega) hC hm12 (by omega) (by omega) (by omega)) (fun σ h5 => ?_)
        replace hF := hF.tr h5.2
        have hP := h5.1
        have hIP := hP.2.2.1
        replace hC := hC.other h5.2 tw85 (by decide)
        have hT := hC.2.1.1
        have hH := hC.2.1
        refine V_aloadn_0 dX6_dig_84 ?_
        refine V_getR dX6_dig_85 fl_X6_53 oC_thought ?_
        refine V_iloadn_1 dX6_dig_88 ?_
        refine V_cv1n dX6_dig_89 cv_X6_170 (rcT tw85) (Nat.le_of_ble_eq_true rfl) (k_T_passHours (by omega) hP (by omega)) (fun σ h6 => ?_)
        replace hF := hF.tr h6.2
        replace hP := h6.1
        replace hC := hC.other h6.2 tw85 (by decide)
        have hT := hC.2.1.1
        have hH := hC.2.1
        have hX := hIP.hours (L := L) n
        obtain ⟨U, hUe⟩ : ∃ U, U = hoursT L n (addPT T a (a + 1 + j) 3) := ⟨_, rfl⟩
        rw [← hUe] at hP hX
        have hU := hP.2.1.1
        have hHU := hP.2.1
        have hIU := hP.2.2.1
        have u5 := hX.2 0 5 (by decide) (by omega)
        have u10 := hX.2 0 10 (by decide) (by omega)
        refine V_iloadn_3 dX6_dig_92 ?_
        refine V_ldc (-1000000005) dX6_dig_93 cn_X6_189 ?_
        refine V_icmp_eq dX6_dig_95 110 (by decide) (fun h95 => ?_) (fun h95 => ?_)
        · refine V_bipush 10 dX6_dig_110 (by decide) ?_
          refine V_iload_5 dX6_dig_112 ?_
          refine V_imulN (a := 10) (b := a) dX6_dig_114 ?_
          refine V_iload_6 dX6_dig_115 ?_
          refine V_iaddN (a := 10 * a) (b := a + 1 + j) dX6_dig_117 ?_
          refine V_istoren_3 dX6_dig_118 (by first | exact rfl | exact True.intro) (by decide) ?_
          refine V_aloadn_0 dX6_dig_119 ?_
          refine V_getR dX6_dig_120 fl_X6_53 oC_thought ?_
          refine V_getI dX6_dig_123 fl_X6_164 (oT_spilt tw85) ?_
          refine V_topi hU.n11 ?_
          refine V_istore_4 dX6_dig_126 (by first | exact rfl | exact True.intro) (by decide) ?_
          refine V_iinc_6 dX6_dig_128 (by first | exact rfl | exact True.intro) (by decide) (nI ((a + 1 + j) + 1)) (nI_inc _) ?_
          refine V_goto dX6_dig_131 50 (by decide) ?_
          have e9 : dgI L T n a o (j + 1) = some (10 * a + (a + 1 + j), nI (U 0 11)) := by
            rw [dgI_s, if_neg h73]
            unfold dgV
            rw [← hUe]
            exact stN_t ((bO_none hok).mp (by rw [← hbb]; exact h95))
          exact ih (j + 1) _ _ _ ⟨hC, hF, by omega, by rw [e9]; rfl, by rw [e9]; rfl⟩ (by omega)
        · refine V_aloadn_0 dX6_dig_98 ?_
          refine V_getR dX6_dig_99 fl_X6_53 oC_thought ?_
          refine V_getI dX6_dig_102 fl_X6_164 (oT_spilt tw85) ?_
          refine V_topi hU.n11 ?_
          refine V_iload_4 dX6_dig_105 ?_
          refine V_icmp_ge dX6_dig_107 128 (by decide) (fun h107 => ?_) (fun h107 => ?_)
          · refine V_iinc_6 dX6_dig_128 (by first | exact rfl | exact True.intro) (by decide) (nI ((a + 1 + j) + 1)) (nI_inc _) ?_
            refine V_goto dX6_dig_131 50 (by decide) ?_
            have e9 : dgI L T n a o (j + 1) = dgI L T n a o j := by
              rw [dgI_s, if_neg h73]
              unfold dgV
              rw [← hUe]
              exact stD_k (e := -1000000005) (fun e => h95 (by rw [hbb]; exact (bO_none hok).mpr e)) (by rw [← hmm]; exact h107)
            exact ih (j + 1) b m _ ⟨hC, hF, by omega, by rw [e9]; exact hbb, by rw [e9]; exact hmm⟩ (by omega)
          · refine V_bipush 10 dX6_dig_110 (by decide) ?_
            refine V_iload_5 dX6_dig_112 ?_
            refine V_imulN (a := 10) (b := a) dX6_dig_114 ?_
            refine V_iload_6 dX6_dig_115 ?_
            refine V_iaddN (a := 10 * a) (b := a + 1 + j) dX6_dig_117 ?_
            refine V_istoren_3 dX6_dig_118 (by first | exact rfl | exact True.intro) (by decide) ?_
            refine V_aloadn_0 dX6_dig_119 ?_
            refine V_getR dX6_dig_120 fl_X6_53 oC_thought ?_
            refine V_getI dX6_dig_123 fl_X6_164 (oT_spilt tw85) ?_
            refine V_topi hU.n11 ?_
            refine V_istore_4 dX6_dig_126 (by first | exact rfl | exact True.intro) (by decide) ?_
            refine V_iinc_6 dX6_dig_128 (by first | exact rfl | exact True.intro) (by decide) (nI ((a + 1 + j) + 1)) (nI_inc _) ?_
            refine V_goto dX6_dig_131 50 (by decide) ?_
            have e9 : dgI L T n a o (j + 1) = some (10 * a + (a + 1 + j), nI (U 0 11)) := by
              rw [dgI_s, if_neg h73]
              unfold dgV
              rw [← hUe]
              exact stD_t (e := -1000000005) (by rw [← hmm]; exact h107)
            exact ih (j + 1) _ _ _ ⟨hC, hF, by omega, by rw [e9]; rfl, by rw [e9]; rfl⟩ (by omega)

set_option maxRecDepth 100000 in
set_option maxHeartbeats 4000000 in
theorem lp_c_dig {G : vG} {d : Nat} {σ0 : vS} {L T : nT} {N n w : Nat} (hd : 6 ≤ d + 1) (hm12 : T 0 10 ≤ 12) (hn40 : n ≤ 40) (hw : w ≤ 1) : ∀ (k : Nat) (a : Nat) (b m : Int32) (σ : vS), (TC L N 61 T σ ∧ Fr 85 σ0 σ ∧ a ≤ T 0 5 ∧ b = bO (-1000000005) (dgO L T n a) ∧ m = wO (-1000000005) (dgO L T n a)) → T 0 5 - a < k → V G RX6 cX6_dig (some .int) 7 (d + 1) (fun r' σ' => r' = some (.int (anO w (dgO L T n (T 0 5)))) ∧ FI σ0 σ') 32 [some (.ref 0), some (.int (nI n)), some (.int (nI w)), some (.int b), some (.int m), some (.int (nI a)), none] [] σ := by
  intro k
  induction k with
  | zero => intros; omega
  | succ k ih =>
    intro a b m σ hh hk
    obtain ⟨hC, hF, ha, hbb, hmm⟩ := hh
    obtain ⟨ht, hH, hI, hL, hLI, hN, hN2⟩ := id hC
    have hT := hH.1
    have hn := hI.nc
    have hm := hI.np
    have hok := dgO_ok (L := L) (n := n) hn a (by omega)
    refine V_iload_5 dX6_dig_32 ?_
    refine V_aloadn_0 dX6_dig_34 ?_
    refine V_getR dX6_dig_35 fl_X6_46 oC_now ?_
    refine V_getI dX6_dig_38 fl_X6_67 (oT_cellars tw61) ?_
    refine V_topi hT.n5 ?_
    refine V_icmpN_ge (a := a) (b := T 0 5) dX6_dig_41 140 (by decide) (by omega) (by omega) (fun h41 => ?_) (fun h41 => ?_)
    · refine V_iloadn_2 dX6_dig_140 ?_
      refine V_ifN_ne (a := w) dX6_dig_141 148 (by decide) (by omega) (fun h141 => ?_) (fun h141 => ?_)
      · refine V_iload_4 dX6_dig_148 ?_
        exact V_iret dX6_dig_150 ⟨rI (by rw [show T 0 5 = a by omega, hmm]; unfold anO; rw [if_neg h141]), hF.fi⟩
      · refine V_iloadn_3 dX6_dig_144 ?_
        refine V_goto dX6_dig_145 150 (by decide) ?_
        exact V_iret dX6_dig_150 ⟨rI (by rw [show T 0 5 = a by omega, hbb]; unfold anO; rw [if_pos h141]), hF.fi⟩
    · refine V_iload_5 dX6_dig_44 ?_
      refine V_iconst 1 dX6_dig_46 (by decide) ?_
      refine V_iaddN (a := a) (b := 1) dX6_dig_47 ?_
      refine V_istore_6 dX6_dig_48 (by first | exact rfl | exact True.intro) (by decide) ?_
      refine lp_c_digI (by omega) hm12 hn40 h41 hok (fun b m σ hC hF hbb hmm => ?_) (T 0 5 + 1) 0 b m σ ⟨hC, hF, by omega, hbb, hmm⟩ (by omega)
      refine V_iinc_5 dX6_dig_134 (by first | exact rfl | exact True.intro) (by decide) (nI (a + 1)) (nI_inc _) ?_
      refine V_goto dX6_dig_137 32 (by decide) ?_
      exact ih (a + 1) b m σ ⟨hC, hF, by omega, hbb, hmm⟩ (by omega)

set_option maxRecDepth 100000 in
set_option maxHeartbeats 4000000 in
theorem c_dig {G : vG} {σ : vS} {d : Nat} (hd : 6 ≤ d) {L T : nT} {N : Nat} (hC : TC L N 61 T σ) (hm12 : T 0 10 ≤ 12) {n w : Nat} (hn1 : 1 ≤ n ∧ n ≤ 40) (hw : w ≤ 1) : Cr G yX6_dig cX6_dig 7 (some .int) d [.ref 0, .int (nI n), .int (nI w)] σ (some (.int (anO w (dgO L T n (T 0 5))))) (fun σ' => FI σ σ') := by
  refine Ct.ofV (by decide) (Nat.le_of_ble_eq_true rfl) rfl ?_
  show V G RX6 cX6_dig (some .int) 7 d _ 0 [some (.ref 0), some (.int (nI n)), some (.int (nI w)), none, none, none, none] [] _
  obtain ⟨d, rfl⟩ : ∃ e, d = e + 1 := ⟨d - 1, by omega⟩
  obtain ⟨ht, hH, hI, hL, hLI, hN, hN2⟩ := id hC
  have hT := hH.1
  have hn := hI.nc
  have hm := hI.np
  refine V_iloadn_1 dX6_dig_0 ?_
  refine V_iconst 1 dX6_dig_1 (by decide) ?_
  refine V_bipush 40 dX6_dig_2 (by decide) ?_
  refine V_cs3f dX6_dig_4 cs_X6_108 (Nat.le_of_ble_eq_true rfl) k_C_within ?_
  refine V_ifB_eq dX6_dig_7 19 (by decide) (fun h7 => ?_) (fun h7 => ?_)
  · exact absurd (inN (a := 1) (b := 40) hn1.1 hn1.2 (by decide)) h7
  · refine V_iloadn_2 dX6_dig_10 ?_
    refine V_iconst 0 dX6_dig_11 (by decide) ?_
    refine V_iconst 1 dX6_dig_12 (by decide) ?_
    refine V_cs3f dX6_dig_13 cs_X6_108 (Nat.le_of_ble_eq_true rfl) k_C_within ?_
    refine V_ifB_ne dX6_dig_16 22 (by decide) (fun h16 => ?_) (fun h16 => ?_)
    · refine V_ldc (-1000000005) dX6_dig_22 cn_X6_189 ?_
      refine V_istoren_3 dX6_dig_24 (by first | exact rfl | exact True.intro) (by decide) ?_
      refine V_ldc (-1000000005) dX6_dig_25 cn_X6_189 ?_
      refine V_istore_4 dX6_dig_27 (by first | exact rfl | exact True.intro) (by decide) ?_
      refine V_iconst 0 dX6_dig_29 (by decide) ?_
      refine V_istore_5 dX6_dig_30 (by first | exact rfl | exact True.intro) (by decide) ?_
      exact lp_c_dig (by omega) hm12 hn1.2 hw (T 0 5 + 1) 0 _ _ σ ⟨hC, Fr.rf, by omega, rfl, rfl⟩ (by omega)
    · exact absurd (inN (a := 0) (b := 1) (by omega) hw (by decide)) h16

set_option maxRecDepth 100000 in
set_option maxHeartbeats 4000000 in
theorem c_dig_bad {G : vG} {σ : vS} {d : Nat} (hd : 6 ≤ d) {L T : nT} {N : Nat} (hC : TC L N 61 T σ) {x y : Int32} (hb : ¬ (inI x 1 40 ∧ inI y 0 1)) : Cf G yX6_dig cX6_dig 7 (some .int) d [.ref 0, .int x, .int y] σ (some (.int (-1000000001))) σ := by
  refine Ct.ofV (by decide) (Nat.le_of_ble_eq_true rfl) rfl ?_
  show V G RX6 cX6_dig (some .int) 7 d _ 0 [some (.ref 0), some (.int x), some (.int y), none, none, none, none] [] _
  obtain ⟨d, rfl⟩ : ∃ e, d = e + 1 := ⟨d - 1, by omega⟩
  obtain ⟨ht, hH, hI, hL, hLI, hN, hN2⟩ := id hC
  have hT := hH.1
  have hn := hI.nc
  have hm := hI.np
  refine V_iloadn_1 dX6_dig_0 ?_
  refine V_iconst 1 dX6_dig_1 (by decide) ?_
  refine V_bipush 40 dX6_dig_2 (by decide) ?_
  refine V_cs3f dX6_dig_4 cs_X6_108 (Nat.le_of_ble_eq_true rfl) k_C_within ?_
  refine V_ifB_eq dX6_dig_7 19 (by decide) (fun h7 => ?_) (fun h7 => ?_)
  · refine V_ldc (-1000000001) dX6_dig_19 cn_X6_66 ?_
    exact V_iret dX6_dig_21 ⟨rfl, rfl⟩
  · refine V_iloadn_2 dX6_dig_10 ?_
    refine V_iconst 0 dX6_dig_11 (by decide) ?_
    refine V_iconst 1 dX6_dig_12 (by decide) ?_
    refine V_cs3f dX6_dig_13 cs_X6_108 (Nat.le_of_ble_eq_true rfl) k_C_within ?_
    refine V_ifB_ne dX6_dig_16 22 (by decide) (fun h16 => ?_) (fun h16 => ?_)
    · exact absurd ⟨h7, h16⟩ hb
    · refine V_ldc (-1000000001) dX6_dig_19 cn_X6_66 ?_
      exact V_iret dX6_dig_21 ⟨rfl, rfl⟩

set_option maxRecDepth 100000 in
set_option maxHeartbeats 4000000 in
theorem lp_m_digI {G : vG} {d : Nat} {Q : Option Value → vS → Prop} {σ0 : vS} {L T : nT} {n w a : Nat} {o : Option (Nat × Int32)} (hd : 9 ≤ d + 1) (hC0 : MC L T σ0) (hm12 : T 0 10 ≤ 12) (hn40 : n ≤ 40) (ha : a < T 0 5) (ho : okO o)
    (kont : ∀ (b m : Int32) (σ : vS), σ 98 = σ0 98 → BK σ0 σ → b = bO (-1) (dgI L T n a o (T 0 5 - (a + 1))) → m = wO 0 (dgI L T n a o (T 0 5 - (a + 1))) → V G RX7 cX7_dig (some .int) 8 (d + 1) Q 145 [some (.ref 97), some (.int (nI n)), some (.int (nI w)), some (.int b), some (.int m), some (.int (nI a)), none, none] [] σ) : ∀ (k : Nat) (j : Nat) (b m : Int32) (σ : vS), (σ 98 = σ0 98 ∧ BK σ0 σ ∧ j ≤ T 0 5 - (a + 1) ∧ b = bO (-1) (dgI L T n a o j) ∧ m = wO 0 (dgI L T n a o j)) → T 0 5 - (a + 1) - j < k → V G RX7 cX7_dig (some .int) 8 (d + 1) Q 51 [some (.ref 97), some (.int (nI n)), some (.int (nI w)), some (.int b), some (.int m), some (.int (nI a)), some (.int (nI (a + 1 + j))), none] [] σ := by
  intro k
  induction k with
  | zero => intros; omega
  | succ k ih =>
    intro j b m σ hh hk
    obtain ⟨h98, hK, hj, hbb, hmm⟩ := hh
    have hC := hC0.e98 h98
    have hI := hC.2.2.1
    have hn := hI.nc
    have hm := hI.np
    have hok := dgI_ok (L := L) (T := T) (n := n) (a := a) ho (by omega) j (by omega)
    refine V_iload_6 dX7_dig_51 ?_
    refine V_aloadn_0 dX7_dig_53 ?_
    refine V_getR dX7_dig_54 fl_X7_9 oM_now ?_
    refine V_iconst 1 dX7_dig_57 (by decide) ?_
    refine V_iald (j := 1) dX7_dig_58 aM_now (by decide) (by decide) ?_
    refine V_topi hC.1.s1 ?_
    refine V_icmpN_ge (a := a + 1 + j) (b := T 0 5) dX7_dig_59 145 (by decide) (by omega) (by omega) (fun h59 => ?_) (fun h59 => ?_)
    · refine V_fg_6 ?_
      have hje : T 0 5 - (a + 1) = j := by omega
      exact kont b m σ h98 hK (by rw [hje]; exact hbb) (by rw [hje]; exact hmm)
    · refine V_aloadn_0 dX7_dig_62 ?_
      refine V_iload_5 dX7_dig_63 ?_
      refine V_iload_6 dX7_dig_65 ?_
      refine V_cv2f dX7_dig_67 cv_X7_186 rcM (Nat.le_of_ble_eq_true rfl) (k_M_areJoined (by omega) hC (by omega) (by omega)) ?_
      refine V_ifB_ne dX7_dig_70 139 (by decide) (fun h70 => ?_) (fun h70 => ?_)
      · refine V_iinc_6 dX7_dig_139 (by first | exact rfl | exact True.intro) (by decide) (nI ((a + 1 + j) + 1)) (nI_inc _) ?_
        refine V_goto dX7_dig_142 51 (by decide) ?_
        have e9 : dgI L T n a o (j + 1) = dgI L T n a o j := by rw [dgI_s, if_pos h70]
        exact ih (j + 1) b m σ ⟨h98, hK, by omega, by rw [e9]; exact hbb, by rw [e9]; exact hmm⟩ (by omega)
      · refine V_aloadn_0 dX7_dig_73 ?_
        refine V_aloadn_0 dX7_dig_74 ?_
        refine V_getR dX7_dig_75 fl_X7_9 oM_now ?_
        refine V_iconst 2 dX7_dig_78 (by decide) ?_
        refine V_iald (j := 2) dX7_dig_79 aM_now (by decide) (by decide) ?_
        refine V_topi hC.1.s2 ?_
        refine V_iload_5 dX7_dig_80 ?_
        refine V_iload_6 dX7_dig_82 ?_
        refine V_iconst 3 dX7_dig_84 (by decide) ?_
        refine V_cv4v dX7_dig_85 cv_X7_136 rcM (Nat.le_of_ble_eq_true rfl) (k_M_lays (p := T 0 10) (a := a) (b := a + 1 + j) (v := 3) (by omega)) ?_
        refine V_aloadn_0 dX7_dig_88 ?_
        refine V_getR dX7_dig_89 fl_X7_9 oM_now ?_
        refine V_iconst 2 dX7_dig_92 (by decide) ?_
        refine V_dup2 dX7_dig_93 rfl rfl ?_
        refine V_iald (j := 2) dX7_dig_94 aM_now (by decide) (by decide) ?_
        refine V_topi (y := nI (T 0 10)) (by (repeat rw [vup_ne (by omega)]); exact hC.1.s2) ?_
        refine V_iconst 1 dX7_dig_95 (by decide) ?_
        refine V_iaddN (a := T 0 10) (b := 1) dX7_dig_96 ?_
        refine V_iast (j := 2) dX7_dig_97 aM_now (by decide) (by decide) ?_
        have hFm : Fm σ (vup (vup (vup (vup (vup σ 98 (55 + 4 * T 0 10) (nI a)) 98 (55 + 4 * T 0 10 + 1) (nI (a + 1 + j))) 98 (55 + 4 * T 0 10 + 2) (nI 3)) 98 (55 + 4 * T 0 10 + 3) 0) 98 2 (nI (T 0 10 + 1))) := ((((Fm.up (by omega)).tr (Fm.up (by omega))).tr (Fm.up (by omega))).tr (Fm.up (by omega))).tr (Fm.up (by omega))
        have hIP := hI.addP (x := a) (y := a + 1 + j) (v := 3) (by omega) (by omega) (by omega) (by omega) (by decide)
        replace hC := hC.next hFm (hC.1.addP hn) hIP (addP_k (by omega) (by omega)) (fun _ => addP_k (by omega) (by omega))
        replace hK := hK.fm hFm
        refine V_aloadn_0 dX7_dig_98 ?_
        refine V_iloadn_1 dX7_dig_99 ?_
        refine V_cv1n dX7_dig_100 cv_X7_171 rcM (Nat.le_of_ble_eq_true rfl) (k_M_goesOn (by omega) hC (by omega)) (fun σ2 h2 => ?_)
        replace hC := h2.1
        replace hK := hK.fm h2.2
        have hX := hIP.hours (L := L) n
        obtain ⟨U, hUe⟩ : ∃ U, U = hoursT L n (addPT T a (a + 1 + j) 3) := ⟨_, rfl⟩
        rw [← hUe] at hC hX
        have hIU := hC.2.2.1
        have u5 := hX.2 0 5 (by decide) (by omega)
        have u10 := hX.2 0 10 (by decide) (by omega)
        refine V_aloadn_0 dX7_dig_103 ?_
        refine V_getR dX7_dig_104 fl_X7_9 oM_now ?_
        refine V_iconst 5 dX7_dig_107 (by decide) ?_
        refine V_iald (j := 5) dX7_dig_108 aM_now (by decide) (by decide) ?_
        refine V_topi (y := nI (U 0 11)) hC.1.s5 ?_
        refine V_istore_7 dX7_dig_109 (by first | exact rfl | exact True.intro) (by decide) ?_
        refine V_aloadn_0 dX7_dig_111 ?_
        refine V_cv0v dX7_dig_112 cv_X7_183 rcM (Nat.le_of_ble_eq_true rfl) k_M_putsBack ?_
        refine V_abs (fun σ3 => σ3 98 = σ0 98 ∧ BK σ0 σ3) ⟨hK.put98, hK.put⟩ (fun σ3 h3 => ?_)
        obtain ⟨g98, gK⟩ := h3
        refine V_iloadn_3 dX7_dig_115 ?_
        refine V_if_lt dX7_dig_116 126 (by decide) (fun h116 => ?_) (fun h116 => ?_)
        · refine V_bipush 10 dX7_dig_126 (by decide) ?_
          refine V_iload_5 dX7_dig_128 ?_
          refine V_imulN (a := 10) (b := a) dX7_dig_130 ?_
          refine V_iload_6 dX7_dig_131 ?_
          refine V_iaddN (a := 10 * a) (b := a + 1 + j) dX7_dig_133 ?_
          refine V_istoren_3 dX7_dig_134 (by first | exact rfl | exact True.intro) (by decide) ?_
          refine V_iload_7 dX7_dig_135 ?_
          refine V_istore_4 dX7_dig_137 (by first | exact rfl | exact True.intro) (by decide) ?_
          refine V_iinc_6 dX7_dig_139 (by first | exact rfl | exact True.intro) (by decide) (nI ((a + 1 + j) + 1)) (nI_inc _) ?_
          refine V_goto dX7_dig_142 51 (by decide) ?_
          refine V_fg_7 ?_
          have e9 : dgI L T n a o (j + 1) = some (10 * a + (a + 1 + j), nI (U 0 11)) := by
            rw [dgI_s, if_neg h70]
            unfold dgV
            rw [← hUe]
            exact stN_t ((bO_neg hok).mp (by rw [← hbb]; exact h116))
          exact ih (j + 1) _ _ _ ⟨g98, gK, by omega, by rw [e9]; rfl, by rw [e9]; rfl⟩ (by omega)
        · refine V_iload_7 dX7_dig_119 ?_
          refine V_iload_4 dX7_dig_121 ?_
          refine V_icmp_ge dX7_dig_123 139 (by decide) (fun h123 => ?_) (fun h123 => ?_)
          · refine V_iinc_6 dX7_dig_139 (by first | exact rfl | exact True.intro) (by decide) (nI ((a + 1 + j) + 1)) (nI_inc _) ?_
            refine V_goto dX7_dig_142 51 (by decide) ?_
            refine V_fg_7 ?_
            have e9 : dgI L T n a o (j + 1) = dgI L T n a o j := by
              rw [dgI_s, if_neg h70]
              unfold dgV
              rw [← hUe]
              exact stD_k (e := 0) (fun e => h116 (by rw [hbb]; exact (bO_neg hok).mpr e)) (by rw [← hmm]; exact h123)
            exact ih (j + 1) b m _ ⟨g98, gK, by omega, by rw [e9]; exact hbb, by rw [e9]; exact hmm⟩ (by omega)
          · refine V_bipush 10 dX7_dig_126 (by decide) ?_
            refine V_iload_5 dX7_dig_128 ?_
            refine V_imulN (a := 10) (b := a) dX7_dig_130 ?_
            refine V_iload_6 dX7_dig_131 ?_
            refine V_iaddN (a := 10 * a) (b := a + 1 + j) dX7_dig_133 ?_
            refine V_istoren_3 dX7_dig_134 (by first | exact rfl | exact True.intro) (by decide) ?_
            refine V_iload_7 dX7_dig_135 ?_
            refine V_istore_4 dX7_dig_137 (by first | exact rfl | exact True.intro) (by decide) ?_
            refine V_iinc_6 dX7_dig_139 (by first | exact rfl | exact True.intro) (by decide) (nI ((a + 1 + j) + 1)) (nI_inc _) ?_
            refine V_goto dX7_dig_142 51 (by decide) ?_
            refine V_fg_7 ?_
            have e9 : dgI L T n a o (j + 1) = some (10 * a + (a + 1 + j), nI (U 0 11)) := by
              rw [dgI_s, if_neg h70]
              unfold dgV
              rw [← hUe]
              exact stD_t (e := 0) (by rw [← hmm]; exact h123)
            exact ih (j + 1) _ _ _ ⟨g98, gK, by omega, by rw [e9]; rfl, by rw [e9]; rfl⟩ (by omega)

set_option maxRecDepth 100000 in
set_option maxHeartbeats 4000000 in
theorem lp_m_dig {G : vG} {d : Nat} {σ0 : vS} {L T : nT} {n w : Nat} (hd : 9 ≤ d + 1) (hC0 : MC L T σ0) (hm12 : T 0 10 ≤ 12) (hn40 : n ≤ 40) (hw : w ≤ 1) : ∀ (k : Nat) (a : Nat) (b m : Int32) (σ : vS), (σ 98 = σ0 98 ∧ BK σ0 σ ∧ a ≤ T 0 5 ∧ b = bO (-1) (dgO L T n a) ∧ m = wO 0 (dgO L T n a)) → T 0 5 - a < k → V G RX7 cX7_dig (some .int) 8 (d + 1) (fun r' σ' => r' = some (.int (anO w (dgO L T n (T 0 5)))) ∧ FI σ0 σ') 34 [some (.ref 97), some (.int (nI n)), some (.int (nI w)), some (.int b), some (.int m), some (.int (nI a)), none, none] [] σ := by
  intro k
  induction k with
  | zero => intros; omega
  | succ k ih =>
    intro a b m σ hh hk
    obtain ⟨h98, hK, ha, hbb, hmm⟩ := hh
    have hC := hC0.e98 h98
    have hI := hC.2.2.1
    have hn := hI.nc
    have hm := hI.np
    have hok := dgO_ok (L := L) (n := n) hn a (by omega)
    refine V_iload_5 dX7_dig_34 ?_
    refine V_aloadn_0 dX7_dig_36 ?_
    refine V_getR dX7_dig_37 fl_X7_9 oM_now ?_
    refine V_iconst 1 dX7_dig_40 (by decide) ?_
    refine V_iald (j := 1) dX7_dig_41 aM_now (by decide) (by decide) ?_
    refine V_topi hC.1.s1 ?_
    refine V_icmpN_ge (a := a) (b := T 0 5) dX7_dig_42 151 (by decide) (by omega) (by omega) (fun h42 => ?_) (fun h42 => ?_)
    · have hae : T 0 5 = a := by omega
      refine V_iloadn_3 dX7_dig_151 ?_
      refine V_if_ge dX7_dig_152 160 (by decide) (fun h152 => ?_) (fun h152 => ?_)
      · refine V_iloadn_2 dX7_dig_160 ?_
        refine V_ifN_ne (a := w) dX7_dig_161 168 (by decide) (by omega) (fun h161 => ?_) (fun h161 => ?_)
        · refine V_iload_4 dX7_dig_168 ?_
          exact V_iret dX7_dig_170 ⟨rI (by rw [hae]; exact (by rw [hmm]; exact an_v (fun e => absurd (by rw [hbb]; exact (bO_neg hok).mpr e) (Int32.not_lt.mpr h152)) h161)), hK.fi h98⟩
        · refine V_iloadn_3 dX7_dig_164 ?_
          refine V_goto dX7_dig_165 170 (by decide) ?_
          exact V_iret dX7_dig_170 ⟨rI (by rw [hae]; exact (by rw [hbb]; exact an_b (fun e => absurd (by rw [hbb]; exact (bO_neg hok).mpr e) (Int32.not_lt.mpr h152)) h161)), hK.fi h98⟩
      · refine V_ldc (-1000000005) dX7_dig_155 cn_X7_81 ?_
        refine V_goto dX7_dig_157 170 (by decide) ?_
        exact V_iret dX7_dig_170 ⟨rI (by rw [hae]; exact an_n ((bO_neg hok).mp (by rw [← hbb]; exact Int32.not_le.mp h152))), hK.fi h98⟩
    · refine V_iload_5 dX7_dig_45 ?_
      refine V_iconst 1 dX7_dig_47 (by decide) ?_
      refine V_iaddN (a := a) (b := 1) dX7_dig_48 ?_
      refine V_istore_6 dX7_dig_49 (by first | exact rfl | exact True.intro) (by decide) ?_
      refine lp_m_digI (by omega) hC0 hm12 hn40 h42 hok (fun b m σ h98 hK hbb hmm => ?_) (T 0 5 + 1) 0 b m σ ⟨h98, hK, by omega, hbb, hmm⟩ (by omega)
      refine V_iinc_5 dX7_dig_145 (by first | exact rfl | exact True.intro) (by decide) (nI (a + 1)) (nI_inc _) ?_
      refine V_goto dX7_dig_148 34 (by decide) ?_
      exact ih (a + 1) b m σ ⟨h98, hK, by omega, hbb, hmm⟩ (by omega)

set_option maxRecDepth 100000 in
set_option maxHeartbeats 4000000 in
theorem m_dig {G : vG} {σ : vS} {d : Nat} (hd : 9 ≤ d) {L T : nT} (hC : MC L T σ) (hm12 : T 0 10 ≤ 12) {n w : Nat} (hn1 : 1 ≤ n ∧ n ≤ 40) (hw : w ≤ 1) : Cr G yX7_dig cX7_dig 8 (some .int) d [.ref 97, .int (nI n), .int (nI w)] σ (some (.int (anO w (dgO L T n (T 0 5))))) (fun σ' => FI σ σ') := by
  refine Ct.ofV (by decide) (Nat.le_of_ble_eq_true rfl) rfl ?_
  show V G RX7 cX7_dig (some .int) 8 d _ 0 [some (.ref 97), some (.int (nI n)), some (.int (nI w)), none, none, none, none, none] [] _
  obtain ⟨d, rfl⟩ : ∃ e, d = e + 1 := ⟨d - 1, by omega⟩
  have hI := hC.2.2.1
  have hn := hI.nc
  have hm := hI.np
  refine V_iloadn_1 dX7_dig_0 ?_
  refine V_iconst 1 dX7_dig_1 (by decide) ?_
  refine V_bipush 40 dX7_dig_2 (by decide) ?_
  refine V_cs3f dX7_dig_4 cs_X7_82 (Nat.le_of_ble_eq_true rfl) k_M_in ?_
  refine V_ifB_eq dX7_dig_7 19 (by decide) (fun h7 => ?_) (fun h7 => ?_)
  · exact absurd (inN (a := 1) (b := 40) hn1.1 hn1.2 (by decide)) h7
  · refine V_iloadn_2 dX7_dig_10 ?_
    refine V_iconst 0 dX7_dig_11 (by decide) ?_
    refine V_iconst 1 dX7_dig_12 (by decide) ?_
    refine V_cs3f dX7_dig_13 cs_X7_82 (Nat.le_of_ble_eq_true rfl) k_M_in ?_
    refine V_ifB_ne dX7_dig_16 22 (by decide) (fun h16 => ?_) (fun h16 => ?_)
    · refine V_aloadn_0 dX7_dig_22 ?_
      refine V_cv0v dX7_dig_23 cv_X7_180 rcM (Nat.le_of_ble_eq_true rfl) k_M_thinks ?_
      refine V_abs (fun σ1 => σ1 98 = σ 98 ∧ BK σ σ1) ⟨vcp_p (by decide), BK.think (fun _ _ _ _ _ _ => rfl)⟩ (fun σ1 h1 => ?_)
      refine V_iconst (-1) dX7_dig_26 (by decide) ?_
      refine V_istoren_3 dX7_dig_27 (by first | exact rfl | exact True.intro) (by decide) ?_
      refine V_iconst 0 dX7_dig_28 (by decide) ?_
      refine V_istore_4 dX7_dig_29 (by first | exact rfl | exact True.intro) (by decide) ?_
      refine V_iconst 0 dX7_dig_31 (by decide) ?_
      refine V_istore_5 dX7_dig_32 (by first | exact rfl | exact True.intro) (by decide) ?_
      exact lp_m_dig (by omega) hC hm12 hn1.2 hw (T 0 5 + 1) 0 _ _ σ1 ⟨h1.1, h1.2, by omega, rfl, rfl⟩ (by omega)
    · exact absurd (inN (a := 0) (b := 1) (by omega) hw (by decide)) h16

set_option maxRecDepth 100000 in
set_option maxHeartbeats 4000000 in
theorem m_dig_bad {G : vG} {σ : vS} {d : Nat} (hd : 9 ≤ d) {L T : nT} (hC : MC L T σ) {x y : Int32} (hb : ¬ (inI x 1 40 ∧ inI y 0 1)) : Cf G yX7_dig cX7_dig 8 (some .int) d [.ref 97, .int x, .int y] σ (some (.int (-1000000001))) σ := by
  refine Ct.ofV (by decide) (Nat.le_of_ble_eq_true rfl) rfl ?_
  show V G RX7 cX7_dig (some .int) 8 d _ 0 [some (.ref 97), some (.int x), some (.int y), none, none, none, none, none] [] _
  obtain ⟨d, rfl⟩ : ∃ e, d = e + 1 := ⟨d - 1, by omega⟩
  have hI := hC.2.2.1
  have hn := hI.nc
  have hm := hI.np
  refine V_iloadn_1 dX7_dig_0 ?_
  refine V_iconst 1 dX7_dig_1 (by decide) ?_
  refine V_bipush 40 dX7_dig_2 (by decide) ?_
  refine V_cs3f dX7_dig_4 cs_X7_82 (Nat.le_of_ble_eq_true rfl) k_M_in ?_
  refine V_ifB_eq dX7_dig_7 19 (by decide) (fun h7 => ?_) (fun h7 => ?_)
  · refine V_ldc (-1000000001) dX7_dig_19 cn_X7_86 ?_
    exact V_iret dX7_dig_21 ⟨rfl, rfl⟩
  · refine V_iloadn_2 dX7_dig_10 ?_
    refine V_iconst 0 dX7_dig_11 (by decide) ?_
    refine V_iconst 1 dX7_dig_12 (by decide) ?_
    refine V_cs3f dX7_dig_13 cs_X7_82 (Nat.le_of_ble_eq_true rfl) k_M_in ?_
    refine V_ifB_ne dX7_dig_16 22 (by decide) (fun h16 => ?_) (fun h16 => ?_)
    · exact absurd ⟨h7, h16⟩ hb
    · refine V_ldc (-1000000001) dX7_dig_19 cn_X7_86 ?_
      exact V_iret dX7_dig_21 ⟨rfl, rfl⟩

set_option maxRecDepth 100000 in
set_option maxHeartbeats 4000000 in
theorem op_dig {G : vG} {σ : vS} {d i : Nat} (hd : 100 ≤ d) (hi : i < 512) {x y : Int32} (h : Inv i σ) : Op G yX6_dig cX6_dig 7 yX7_dig cX7_dig 8 d [.int x, .int y] i σ := by
  have hh := h
  obtain ⟨L, T, I, b, hT, hB, hM, hS, hO, hW, hR, hK⟩ := h
  have hC := hT.1
  have hE := hT.2.1
  have hI := hC.2.2.1
  have hn := hI.nc
  have hm := hI.np
  by_cases hx : inI x 1 40 ∧ inI y 0 1
  · obtain ⟨n, hn1, hn2, rfl⟩ := (inI_iff' (a := 1) (b := 40) (by decide) (by decide)).mp hx.1
    obtain ⟨w, hw, rfl⟩ := (inI_iff (b := 1) (by decide)).mp hx.2
    exact Op.ask hh (c_dig (by omega) hC hT.2.2.2.1 ⟨hn1, hn2⟩ hw) (fun σ1 f1 => m_dig (by omega) (hE.fi f1) hT.2.2.2.1 ⟨hn1, hn2⟩ hw)
  · exact Op.ask hh (Cf.fi (c_dig_bad (by omega) hC hx)) (fun σ1 f1 => Cf.fi (m_dig_bad (by omega) (hE.fi f1) hx))
