set_option maxRecDepth 100000 in
set_option maxHeartbeats 4000000 in
theorem k_M_levelOf {G : vG} {σ : vS} {d : Nat} (hd : 3 ≤ d) {L T : nT} (hC : MC L T σ) {c : Nat} (hc : c < T 0 5) : Cr G yX7_levelOf cX7_levelOf 2 (some .int) d [.ref 97, .int (nI c)] σ (some (.int (nI (levT L T c)))) (fun σ' => Fh σ σ') := by
  refine Ct.ofV (by decide) (Nat.le_of_ble_eq_true rfl) rfl ?_
  show V G RX7 cX7_levelOf (some .int) 2 d _ 0 [some (.ref 97), some (.int (nI c))] [] _
  obtain ⟨d, rfl⟩ : ∃ e, d = e + 1 := ⟨d - 1, by omega⟩
  have hI := hC.2.2.1
  have hn := hI.nc
  have hm := hI.np
  have hF : Fh σ σ := Fh.rf
  refine V_aloadn_0 dX7_levelOf_0 ?_
  refine V_iloadn_1 dX7_levelOf_1 ?_
  refine V_iconst 1 dX7_levelOf_2 (by decide) ?_
  refine V_cv2f dX7_levelOf_3 cv_X7_92 rcM (Nat.le_of_ble_eq_true rfl) (k_M_of (c := c) (w := 1) (by omega) (hC.1.c2 (by omega))) ?_
  refine V_aloadn_0 dX7_levelOf_6 ?_
  refine V_iloadn_1 dX7_levelOf_7 ?_
  refine V_cv1r dX7_levelOf_8 cv_X7_109 rcM (Nat.le_of_ble_eq_true rfl) (k_M_highOf (by omega) hC (by omega)) (fun σ hq => ?_)
  replace hC := hC.fh hq
  replace hF := hF.tr hq
  refine V_iaddN (a := T 2 c) (b := highT L T c) dX7_levelOf_11 ?_
  exact V_iret dX7_levelOf_12 ⟨rfl, hF⟩

def hiT (L T : nT) (p : Nat) : Nat := if levT L T (T 7 p) < levT L T (T 6 p) then T 6 p else T 7 p
theorem hi_cases (L T : nT) (p : Nat) : (hiT L T p = T 6 p ∧ upT L T p = T 6 p ∧ loT L T p = T 7 p ∧ levT L T (T 7 p) < levT L T (T 6 p)) ∨ (hiT L T p = T 7 p ∧ upT L T p = T 7 p ∧ loT L T p = T 6 p ∧ levT L T (T 6 p) < levT L T (T 7 p)) ∨ (hiT L T p = T 7 p ∧ upT L T p = T 6 p ∧ loT L T p = T 7 p ∧ levT L T (T 6 p) = levT L T (T 7 p)) := by
  by_cases h : levT L T (T 7 p) < levT L T (T 6 p)
  · have e : hiT L T p = T 6 p := by unfold hiT; rw [if_pos h]
    rcases up_cases L T p with ⟨e1, e2, e3⟩ | ⟨e1, e2, e3⟩
    · exact Or.inl ⟨e, e1, e2, h⟩
    · omega
  · have e : hiT L T p = T 7 p := by unfold hiT; rw [if_neg h]
    rcases up_cases L T p with ⟨e1, e2, e3⟩ | ⟨e1, e2, e3⟩
    · exact Or.inr (Or.inr ⟨e, e1, e2, by omega⟩)
    · exact Or.inr (Or.inl ⟨e, e1, e2, e3⟩)
theorem takes0 (k : Nat) : takesN k 0 = 0 := by
  unfold takesN
  split
  · rfl
  · split <;> rfl
theorem runs_hi {L T : nT} {p : Nat} (h9 : T 9 p = 0) : takesN (T 1 (T 6 p + T 7 p - hiT L T p)) (min (T 8 p * (levT L T (hiT L T p) - levT L T (T 6 p + T 7 p - hiT L T p)) / 2) (fullT T (hiT L T p))) = runsT L T p := by
  unfold runsT
  rw [if_pos h9]
  rcases hi_cases L T p with ⟨e1, e2, e3, e4⟩ | ⟨e1, e2, e3, e4⟩ | ⟨e1, e2, e3, e4⟩
  · rw [e1, e2, e3, show T 6 p + T 7 p - T 6 p = T 7 p by omega]
  · rw [e1, e2, e3, show T 6 p + T 7 p - T 7 p = T 6 p by omega]
  · rw [e1, e2, e3, show T 6 p + T 7 p - T 7 p = T 6 p by omega, e4, Nat.sub_self, Nat.mul_zero, Nat.zero_div, Nat.zero_min, Nat.zero_min, takes0, takes0]
theorem runs_up {L T : nT} {p : Nat} (h : 0 < runsT L T p) : hiT L T p = upT L T p ∧ T 6 p + T 7 p - hiT L T p = loT L T p := by
  rcases hi_cases L T p with ⟨e1, e2, e3, e4⟩ | ⟨e1, e2, e3, e4⟩ | ⟨e1, e2, e3, e4⟩
  · omega
  · omega
  · exfalso
    unfold runsT at h
    split at h
    · rw [e2, e3, e4, Nat.sub_self, Nat.mul_zero, Nat.zero_div, Nat.zero_min, takes0] at h
      omega
    · omega

set_option maxRecDepth 100000 in
set_option maxHeartbeats 4000000 in
theorem k_M_higher {G : vG} {σ : vS} {d : Nat} (hd : 4 ≤ d) {L T : nT} (hC : MC L T σ) {p : Nat} (hp : p < T 0 10) : Cr G yX7_higher cX7_higher 2 (some .int) d [.ref 97, .int (nI p)] σ (some (.int (nI (hiT L T p)))) (fun σ' => Fh σ σ') := by
  refine Ct.ofV (by decide) (Nat.le_of_ble_eq_true rfl) rfl ?_
  show V G RX7 cX7_higher (some .int) 2 d _ 0 [some (.ref 97), some (.int (nI p))] [] _
  obtain ⟨d, rfl⟩ : ∃ e, d = e + 1 := ⟨d - 1, by omega⟩
  have hI := hC.2.2.1
  have hn := hI.nc
  have hm := hI.np
  have hF : Fh σ σ := Fh.rf
  obtain ⟨p1, p2, p3, p4, p5⟩ := hI.pi hp
  have l1 := levT_le (L := L) hI p1
  have l2 := levT_le (L := L) hI p2
  refine V_aloadn_0 dX7_higher_0 ?_
  refine V_aloadn_0 dX7_higher_1 ?_
  refine V_iloadn_1 dX7_higher_2 ?_
  refine V_iconst 0 dX7_higher_3 (by decide) ?_
  refine V_cv2f dX7_higher_4 cv_X7_140 rcM (Nat.le_of_ble_eq_true rfl) (k_M_at (p := p) (w := 0) (by omega) (hC.1.p6 (by omega))) ?_
  refine V_cv1r dX7_higher_7 cv_X7_116 rcM (Nat.le_of_ble_eq_true rfl) (k_M_levelOf (by omega) hC (by omega)) (fun σ hq => ?_)
  replace hC := hC.fh hq
  replace hF := hF.tr hq
  refine V_aloadn_0 dX7_higher_10 ?_
  refine V_aloadn_0 dX7_higher_11 ?_
  refine V_iloadn_1 dX7_higher_12 ?_
  refine V_iconst 1 dX7_higher_13 (by decide) ?_
  refine V_cv2f dX7_higher_14 cv_X7_140 rcM (Nat.le_of_ble_eq_true rfl) (k_M_at (p := p) (w := 1) (by omega) (hC.1.p7 (by omega))) ?_
  refine V_cv1r dX7_higher_17 cv_X7_116 rcM (Nat.le_of_ble_eq_true rfl) (k_M_levelOf (by omega) hC (by omega)) (fun σ hq => ?_)
  replace hC := hC.fh hq
  replace hF := hF.tr hq
  refine V_icmpN_le (a := levT L T (T 6 p)) (b := levT L T (T 7 p)) dX7_higher_20 32 (by decide) (by omega) (by omega) (fun h20 => ?_) (fun h20 => ?_)
  · refine V_aloadn_0 dX7_higher_32 ?_
    refine V_iloadn_1 dX7_higher_33 ?_
    refine V_iconst 1 dX7_higher_34 (by decide) ?_
    refine V_cv2f dX7_higher_35 cv_X7_140 rcM (Nat.le_of_ble_eq_true rfl) (k_M_at (p := p) (w := 1) (by omega) (hC.1.p7 (by omega))) ?_
    exact V_iret dX7_higher_38 ⟨rN (by simp only [hiT]; first | rw [if_pos h20] | rw [if_neg (by omega)]), hF⟩
  · refine V_aloadn_0 dX7_higher_23 ?_
    refine V_iloadn_1 dX7_higher_24 ?_
    refine V_iconst 0 dX7_higher_25 (by decide) ?_
    refine V_cv2f dX7_higher_26 cv_X7_140 rcM (Nat.le_of_ble_eq_true rfl) (k_M_at (p := p) (w := 0) (by omega) (hC.1.p6 (by omega))) ?_
    refine V_goto dX7_higher_29 38 (by decide) ?_
    exact V_iret dX7_higher_38 ⟨rN (by simp only [hiT]; first | rw [if_pos h20] | rw [if_neg (by omega)]), hF⟩

set_option maxRecDepth 100000 in
set_option maxHeartbeats 4000000 in
theorem k_M_runsIn {G : vG} {σ : vS} {d : Nat} (hd : 5 ≤ d) {L T : nT} (hC : MC L T σ) {p : Nat} (hp : p < T 0 10) : Cr G yX7_runsIn cX7_runsIn 5 (some .int) d [.ref 97, .int (nI p)] σ (some (.int (nI (runsT L T p)))) (fun σ' => Fh σ σ') := by
  refine Ct.ofV (by decide) (Nat.le_of_ble_eq_true rfl) rfl ?_
  show V G RX7 cX7_runsIn (some .int) 5 d _ 0 [some (.ref 97), some (.int (nI p)), none, none, none] [] _
  obtain ⟨d, rfl⟩ : ∃ e, d = e + 1 := ⟨d - 1, by omega⟩
  have hI := hC.2.2.1
  have hn := hI.nc
  have hm := hI.np
  have hF : Fh σ σ := Fh.rf
  obtain ⟨p1, p2, p3, p4, p5⟩ := hI.pi hp
  have l1 := levT_le (L := L) hI p1
  have l2 := levT_le (L := L) hI p2
  have hh : hiT L T p = T 6 p ∨ hiT L T p = T 7 p := by rcases hi_cases L T p with h | h | h <;> omega
  have hl : levT L T (T 6 p + T 7 p - hiT L T p) ≤ levT L T (hiT L T p) ∧ hiT L T p < T 0 5 ∧ T 6 p + T 7 p - hiT L T p < T 0 5 := by
    rcases hi_cases L T p with ⟨e1, e2, e3, e4⟩ | ⟨e1, e2, e3, e4⟩ | ⟨e1, e2, e3, e4⟩
    · rw [e1, show T 6 p + T 7 p - T 6 p = T 7 p by omega]; omega
    · rw [e1, show T 6 p + T 7 p - T 7 p = T 6 p by omega]; omega
    · rw [e1, show T 6 p + T 7 p - T 7 p = T 6 p by omega]; omega
  have l3 := levT_le (L := L) hI hl.2.1
  have f1 := hI.full hl.2.1
  have k1 := (hI.ce hl.2.2).1
  have hb : T 8 p * (levT L T (hiT L T p) - levT L T (T 6 p + T 7 p - hiT L T p)) ≤ 9 * 1099 := Nat.mul_le_mul p4 (by omega)
  refine V_aloadn_0 dX7_runsIn_0 ?_
  refine V_iloadn_1 dX7_runsIn_1 ?_
  refine V_iconst 3 dX7_runsIn_2 (by decide) ?_
  refine V_cv2f dX7_runsIn_3 cv_X7_140 rcM (Nat.le_of_ble_eq_true rfl) (k_M_at (p := p) (w := 3) (by omega) (hC.1.p9 (by omega))) ?_
  refine V_iconst 1 dX7_runsIn_6 (by decide) ?_
  refine V_icmpN_ne (a := T 9 p) (b := 1) dX7_runsIn_7 12 (by decide) (by omega) (by omega) (fun h7 => ?_) (fun h7 => ?_)
  · refine V_aloadn_0 dX7_runsIn_12 ?_
    refine V_iloadn_1 dX7_runsIn_13 ?_
    refine V_cv1r dX7_runsIn_14 cv_X7_143 rcM (Nat.le_of_ble_eq_true rfl) (k_M_higher (by omega) hC (by omega)) (fun σ hq => ?_)
    replace hC := hC.fh hq
    replace hF := hF.tr hq
    refine V_istoren_2 dX7_runsIn_17 (by first | exact rfl | exact True.intro) (by decide) ?_
    refine V_aloadn_0 dX7_runsIn_18 ?_
    refine V_iloadn_1 dX7_runsIn_19 ?_
    refine V_iconst 0 dX7_runsIn_20 (by decide) ?_
    refine V_cv2f dX7_runsIn_21 cv_X7_140 rcM (Nat.le_of_ble_eq_true rfl) (k_M_at (p := p) (w := 0) (by omega) (hC.1.p6 (by omega))) ?_
    refine V_aloadn_0 dX7_runsIn_24 ?_
    refine V_iloadn_1 dX7_runsIn_25 ?_
    refine V_iconst 1 dX7_runsIn_26 (by decide) ?_
    refine V_cv2f dX7_runsIn_27 cv_X7_140 rcM (Nat.le_of_ble_eq_true rfl) (k_M_at (p := p) (w := 1) (by omega) (hC.1.p7 (by omega))) ?_
    refine V_iaddN (a := T 6 p) (b := T 7 p) dX7_runsIn_30 ?_
    refine V_iloadn_2 dX7_runsIn_31 ?_
    refine V_isubN (a := (T 6 p) + (T 7 p)) (b := hiT L T p) dX7_runsIn_32 (by omega) ?_
    refine V_istoren_3 dX7_runsIn_33 (by first | exact rfl | exact True.intro) (by decide) ?_
    refine V_aloadn_0 dX7_runsIn_34 ?_
    refine V_iloadn_1 dX7_runsIn_35 ?_
    refine V_iconst 2 dX7_runsIn_36 (by decide) ?_
    refine V_cv2f dX7_runsIn_37 cv_X7_140 rcM (Nat.le_of_ble_eq_true rfl) (k_M_at (p := p) (w := 2) (by omega) (hC.1.p8 (by omega))) ?_
    refine V_aloadn_0 dX7_runsIn_40 ?_
    refine V_iloadn_2 dX7_runsIn_41 ?_
    refine V_cv1r dX7_runsIn_42 cv_X7_116 rcM (Nat.le_of_ble_eq_true rfl) (k_M_levelOf (by omega) hC (by omega)) (fun σ hq => ?_)
    replace hC := hC.fh hq
    replace hF := hF.tr hq
    refine V_aloadn_0 dX7_runsIn_45 ?_
    refine V_iloadn_3 dX7_runsIn_46 ?_
    refine V_cv1r dX7_runsIn_47 cv_X7_116 rcM (Nat.le_of_ble_eq_true rfl) (k_M_levelOf (by omega) hC (by omega)) (fun σ hq => ?_)
    replace hC := hC.fh hq
    replace hF := hF.tr hq
    refine V_isubN (a := levT L T (hiT L T p)) (b := levT L T (((T 6 p) + (T 7 p)) - (hiT L T p))) dX7_runsIn_50 (by omega) ?_
    refine V_imulN (a := T 8 p) (b := (levT L T (hiT L T p)) - (levT L T (((T 6 p) + (T 7 p)) - (hiT L T p)))) dX7_runsIn_51 ?_
    refine V_iconst 2 dX7_runsIn_52 (by decide) ?_
    refine V_idivN (a := (T 8 p) * ((levT L T (hiT L T p)) - (levT L T (((T 6 p) + (T 7 p)) - (hiT L T p))))) (b := 2) dX7_runsIn_53 (by omega) (by omega) (by omega) ?_
    refine V_istore_4 dX7_runsIn_54 (by first | exact rfl | exact True.intro) (by decide) ?_
    refine V_aloadn_0 dX7_runsIn_56 ?_
    refine V_iloadn_3 dX7_runsIn_57 ?_
    refine V_iload_4 dX7_runsIn_58 ?_
    refine V_iconst 0 dX7_runsIn_60 (by decide) ?_
    refine V_aloadn_0 dX7_runsIn_61 ?_
    refine V_iloadn_2 dX7_runsIn_62 ?_
    refine V_cv1f dX7_runsIn_63 cv_X7_96 rcM (Nat.le_of_ble_eq_true rfl) (k_M_fullOf (by omega) hC (by omega)) ?_
    refine V_cs3f dX7_runsIn_66 cs_X7_103 (Nat.le_of_ble_eq_true rfl) k_M_within ?_
    refine V_topi (y := nI (min (T 8 p * (levT L T (hiT L T p) - levT L T (T 6 p + T 7 p - hiT L T p)) / 2) (fullT T (hiT L T p)))) (wiN (by omega) (by omega)) ?_
    refine V_cv2f dX7_runsIn_69 cv_X7_125 rcM (Nat.le_of_ble_eq_true rfl) (k_M_takesIn (by omega) hC (by omega) (by omega)) ?_
    exact V_iret dX7_runsIn_72 ⟨rN (runs_hi (by omega)), hF⟩
  · refine V_iconst 0 dX7_runsIn_10 (by decide) ?_
    exact V_iret dX7_runsIn_11 ⟨rN (a := 0) (by unfold runsT; rw [if_neg (by omega)]), hF⟩

set_option maxRecDepth 100000 in
set_option maxHeartbeats 4000000 in
theorem lp_M_running {G : vG} {d : Nat} {σ0 : vS} {L T : nT} (hd : 6 ≤ d + 1) : ∀ (k : Nat) (p : Nat) (σ : vS), (MC L T σ ∧ Fh σ0 σ ∧ p ≤ T 0 10) → T 0 10 - p < k → V G RX7 cX7_running (some .int) 3 (d + 1) (fun r' σ' => r' = some (.int (nI (runN L T (T 0 10)))) ∧ Fh σ0 σ') 4 [some (.ref 97), some (.int (nI (runN L T p))), some (.int (nI p))] [] σ := by
  intro k
  induction k with
  | zero => intros; omega
  | succ k ih =>
    intro p σ hh hk
    obtain ⟨hC, hF, hp⟩ := hh
    have hI := hC.2.2.1
    have hn := hI.nc
    have hm := hI.np
    refine V_iloadn_2 dX7_running_4 ?_
    refine V_aloadn_0 dX7_running_5 ?_
    refine V_getR dX7_running_6 fl_X7_9 oM_now ?_
    refine V_iconst 2 dX7_running_9 (by decide) ?_
    refine V_iald (j := 2) dX7_running_10 aM_now (by decide) (by decide) ?_
    refine V_topi hC.1.s2 ?_
    refine V_icmpN_ge (a := p) (b := T 0 10) dX7_running_11 36 (by decide) (by omega) (by omega) (fun h11 => ?_) (fun h11 => ?_)
    · refine V_iloadn_1 dX7_running_36 ?_
      exact V_iret dX7_running_37 ⟨rN (by rw [show p = T 0 10 by omega]), hF⟩
    · refine V_iloadn_1 dX7_running_14 ?_
      refine V_aloadn_0 dX7_running_15 ?_
      refine V_iloadn_2 dX7_running_16 ?_
      refine V_cv1r dX7_running_17 cv_X7_149 rcM (Nat.le_of_ble_eq_true rfl) (k_M_runsIn (by omega) hC (by omega)) (fun σ hq => ?_)
      replace hC := hC.fh hq
      replace hF := hF.tr hq
      refine V_ifN_le (a := runsT L T p) dX7_running_20 27 (by decide) (by have := runsT_lt (L := L) hI (p := p) (by omega); have := hI.full (up_ok (L := L) hI (p := p) (by omega)).1; omega) (fun h20 => ?_) (fun h20 => ?_)
      · refine V_iconst 0 dX7_running_27 (by decide) ?_
        refine V_iaddN (a := runN L T p) (b := 0) dX7_running_28 ?_
        refine V_istoren_1 dX7_running_29 (by first | exact rfl | exact True.intro) (by decide) ?_
        refine V_iinc_2 dX7_running_30 (by first | exact rfl | exact True.intro) (by decide) (nI (p + 1)) (nI_inc _) ?_
        refine V_goto dX7_running_33 4 (by decide) ?_
        refine V_lo (lo' := [some (.ref 97), some (.int (nI (runN L T (p + 1)))), some (.int (nI (p + 1)))]) ?_ ?_
        · simp only [runN]
          first | rw [if_pos h20] | rw [if_neg (by omega)]
        exact ih (p + 1) _ ⟨hC, hF, by omega⟩ (by omega)
      · refine V_iconst 1 dX7_running_23 (by decide) ?_
        refine V_goto dX7_running_24 28 (by decide) ?_
        refine V_iaddN (a := runN L T p) (b := 1) dX7_running_28 ?_
        refine V_istoren_1 dX7_running_29 (by first | exact rfl | exact True.intro) (by decide) ?_
        refine V_iinc_2 dX7_running_30 (by first | exact rfl | exact True.intro) (by decide) (nI (p + 1)) (nI_inc _) ?_
        refine V_goto dX7_running_33 4 (by decide) ?_
        refine V_lo (lo' := [some (.ref 97), some (.int (nI (runN L T (p + 1)))), some (.int (nI (p + 1)))]) ?_ ?_
        · simp only [runN]
          first | rw [if_pos h20] | rw [if_neg (by omega)]
        exact ih (p + 1) _ ⟨hC, hF, by omega⟩ (by omega)

set_option maxRecDepth 100000 in
set_option maxHeartbeats 4000000 in
theorem k_M_running {G : vG} {σ : vS} {d : Nat} (hd : 6 ≤ d) {L T : nT} (hC : MC L T σ) : Cr G yX7_running cX7_running 3 (some .int) d [.ref 97] σ (some (.int (nI (runN L T (T 0 10))))) (fun σ' => Fh σ σ') := by
  refine Ct.ofV (by decide) (Nat.le_of_ble_eq_true rfl) rfl ?_
  show V G RX7 cX7_running (some .int) 3 d _ 0 [some (.ref 97), none, none] [] _
  obtain ⟨d, rfl⟩ : ∃ e, d = e + 1 := ⟨d - 1, by omega⟩
  refine V_iconst 0 dX7_running_0 (by decide) ?_
  refine V_istoren_1 dX7_running_1 (by first | exact rfl | exact True.intro) (by decide) ?_
  refine V_iconst 0 dX7_running_2 (by decide) ?_
  refine V_istoren_2 dX7_running_3 (by first | exact rfl | exact True.intro) (by decide) ?_
  exact lp_M_running (by omega) (T 0 10 + 1) 0 σ ⟨hC, Fh.rf, by omega⟩ (by omega)

set_option maxRecDepth 100000 in
set_option maxHeartbeats 4000000 in
theorem lp_M_areJoined {G : vG} {d : Nat} {σ : vS} {L T : nT} (hC : MC L T σ) {a b : Nat} (hd : 1 ≤ d + 1) (ha : a < T 0 5) (hb : b < T 0 5) : ∀ (k : Nat) (p : Nat), p ≤ T 0 10 → T 0 10 - p < k → V G RX7 cX7_areJoined (some .boolean) 5 (d + 1) (fun r' σ' => r' = some (.int (bI (jnb T a b (T 0 10) = true))) ∧ σ' = σ) 5 [some (.ref 97), some (.int (nI a)), some (.int (nI b)), some (.int (bI (jnb T a b p = true))), some (.int (nI p))] [] σ := by
  intro k
  induction k with
  | zero => intros; omega
  | succ k ih =>
    intro p hp hk
    have hI := hC.2.2.1
    have hn := hI.nc
    have hm := hI.np
    refine V_iload_4 dX7_areJoined_5 ?_
    refine V_aloadn_0 dX7_areJoined_7 ?_
    refine V_getR dX7_areJoined_8 fl_X7_9 oM_now ?_
    refine V_iconst 2 dX7_areJoined_11 (by decide) ?_
    refine V_iald (j := 2) dX7_areJoined_12 aM_now (by decide) (by decide) ?_
    refine V_topi hC.1.s2 ?_
    refine V_icmpN_ge (a := p) (b := T 0 10) dX7_areJoined_13 76 (by decide) (by omega) (by omega) (fun h13 => ?_) (fun h13 => ?_)
    · refine V_iloadn_3 dX7_areJoined_76 ?_
      exact V_zret dX7_areJoined_77 (by rcases bI_01 (jnb T a b p = true) with h | h <;> rw [h] <;> decide) ⟨rI (by rw [show T 0 10 = p by omega]), rfl⟩
    · obtain ⟨p1, p2, p3, p4, p5⟩ := hI.pi (p := p) h13
      refine V_iloadn_3 dX7_areJoined_16 ?_
      refine V_ifB_ne dX7_areJoined_17 64 (by decide) (fun h17 => ?_) (fun h17 => ?_)
      · refine V_iconst 1 dX7_areJoined_64 (by decide) ?_
        refine V_goto dX7_areJoined_65 69 (by decide) ?_
        refine V_istoren_3 dX7_areJoined_69 (by first | exact rfl | exact True.intro) (by decide) ?_
        refine V_iinc_4 dX7_areJoined_70 (by first | exact rfl | exact True.intro) (by decide) (nI (p + 1)) (nI_inc _) ?_
        refine V_goto dX7_areJoined_73 5 (by decide) ?_
        refine V_lo (lo' := [some (.ref 97), some (.int (nI a)), some (.int (nI b)), some (.int (bI (jnb T a b (p + 1) = true))), some (.int (nI (p + 1)))]) ?_ ?_
        · rw [bI_t (show jnb T a b (p + 1) = true by simp only [jnb, Bool.or_eq_true, decide_eq_true_eq]; first | exact Or.inl h17 | exact Or.inr (by omega))]
        exact ih (p + 1) (by omega) (by omega)
      · refine V_aloadn_0 dX7_areJoined_20 ?_
        refine V_iload_4 dX7_areJoined_21 ?_
        refine V_iconst 0 dX7_areJoined_23 (by decide) ?_
        refine V_cv2f dX7_areJoined_24 cv_X7_140 rcM (Nat.le_of_ble_eq_true rfl) (k_M_at (p := p) (w := 0) (by omega) (hC.1.p6 (by omega))) ?_
        refine V_iloadn_1 dX7_areJoined_27 ?_
        refine V_icmpN_ne (a := T 6 p) (b := a) dX7_areJoined_28 42 (by decide) (by omega) (by omega) (fun h28 => ?_) (fun h28 => ?_)
        · refine V_aloadn_0 dX7_areJoined_42 ?_
          refine V_iload_4 dX7_areJoined_43 ?_
          refine V_iconst 0 dX7_areJoined_45 (by decide) ?_
          refine V_cv2f dX7_areJoined_46 cv_X7_140 rcM (Nat.le_of_ble_eq_true rfl) (k_M_at (p := p) (w := 0) (by omega) (hC.1.p6 (by omega))) ?_
          refine V_iloadn_2 dX7_areJoined_49 ?_
          refine V_icmpN_ne (a := T 6 p) (b := b) dX7_areJoined_50 68 (by decide) (by omega) (by omega) (fun h50 => ?_) (fun h50 => ?_)
          · refine V_iconst 0 dX7_areJoined_68 (by decide) ?_
            refine V_istoren_3 dX7_areJoined_69 (by first | exact rfl | exact True.intro) (by decide) ?_
            refine V_iinc_4 dX7_areJoined_70 (by first | exact rfl | exact True.intro) (by decide) (nI (p + 1)) (nI_inc _) ?_
            refine V_goto dX7_areJoined_73 5 (by decide) ?_
            refine V_lo (lo' := [some (.ref 97), some (.int (nI a)), some (.int (nI b)), some (.int (bI (jnb T a b (p + 1) = true))), some (.int (nI (p + 1)))]) ?_ ?_
            · rw [bI_f (show ¬ jnb T a b (p + 1) = true by simp only [jnb, Bool.or_eq_true, decide_eq_true_eq]; intro q; rcases q with q | q; exact h17 q; omega)]
            exact ih (p + 1) (by omega) (by omega)
          · refine V_aloadn_0 dX7_areJoined_53 ?_
            refine V_iload_4 dX7_areJoined_54 ?_
            refine V_iconst 1 dX7_areJoined_56 (by decide) ?_
            refine V_cv2f dX7_areJoined_57 cv_X7_140 rcM (Nat.le_of_ble_eq_true rfl) (k_M_at (p := p) (w := 1) (by omega) (hC.1.p7 (by omega))) ?_
            refine V_iloadn_1 dX7_areJoined_60 ?_
            refine V_icmpN_ne (a := T 7 p) (b := a) dX7_areJoined_61 68 (by decide) (by omega) (by omega) (fun h61 => ?_) (fun h61 => ?_)
            · refine V_iconst 0 dX7_areJoined_68 (by decide) ?_
              refine V_istoren_3 dX7_areJoined_69 (by first | exact rfl | exact True.intro) (by decide) ?_
              refine V_iinc_4 dX7_areJoined_70 (by first | exact rfl | exact True.intro) (by decide) (nI (p + 1)) (nI_inc _) ?_
              refine V_goto dX7_areJoined_73 5 (by decide) ?_
              refine V_lo (lo' := [some (.ref 97), some (.int (nI a)), some (.int (nI b)), some (.int (bI (jnb T a b (p + 1) = true))), some (.int (nI (p + 1)))]) ?_ ?_
              · rw [bI_f (show ¬ jnb T a b (p + 1) = true by simp only [jnb, Bool.or_eq_true, decide_eq_true_eq]; intro q; rcases q with q | q; exact h17 q; omega)]
              exact ih (p + 1) (by omega) (by omega)
            · refine V_iconst 1 dX7_areJoined_64 (by decide) ?_
              refine V_goto dX7_areJoined_65 69 (by decide) ?_
              refine V_istoren_3 dX7_areJoined_69 (by first | exact rfl | exact True.intro) (by decide) ?_
              refine V_iinc_4 dX7_areJoined_70 (by first | exact rfl | exact True.intro) (by decide) (nI (p + 1)) (nI_inc _) ?_
              refine V_goto dX7_areJoined_73 5 (by decide) ?_
              refine V_lo (lo' := [some (.ref 97), some (.int (nI a)), some (.int (nI b)), some (.int (bI (jnb T a b (p + 1) = true))), some (.int (nI (p + 1)))]) ?_ ?_
              · rw [bI_t (show jnb T a b (p + 1) = true by simp only [jnb, Bool.or_eq_true, decide_eq_true_eq]; first | exact Or.inl h17 | exact Or.inr (by omega))]
              exact ih (p + 1) (by omega) (by omega)
        · refine V_aloadn_0 dX7_areJoined_31 ?_
          refine V_iload_4 dX7_areJoined_32 ?_
          refine V_iconst 1 dX7_areJoined_34 (by decide) ?_
          refine V_cv2f dX7_areJoined_35 cv_X7_140 rcM (Nat.le_of_ble_eq_true rfl) (k_M_at (p := p) (w := 1) (by omega) (hC.1.p7 (by omega))) ?_
          refine V_iloadn_2 dX7_areJoined_38 ?_
          refine V_icmpN_eq (a := T 7 p) (b := b) dX7_areJoined_39 64 (by decide) (by omega) (by omega) (fun h39 => ?_) (fun h39 => ?_)
          · refine V_iconst 1 dX7_areJoined_64 (by decide) ?_
            refine V_goto dX7_areJoined_65 69 (by decide) ?_
            refine V_istoren_3 dX7_areJoined_69 (by first | exact rfl | exact True.intro) (by decide) ?_
            refine V_iinc_4 dX7_areJoined_70 (by first | exact rfl | exact True.intro) (by decide) (nI (p + 1)) (nI_inc _) ?_
            refine V_goto dX7_areJoined_73 5 (by decide) ?_
            refine V_lo (lo' := [some (.ref 97), some (.int (nI a)), some (.int (nI b)), some (.int (bI (jnb T a b (p + 1) = true))), some (.int (nI (p + 1)))]) ?_ ?_
            · rw [bI_t (show jnb T a b (p + 1) = true by simp only [jnb, Bool.or_eq_true, decide_eq_true_eq]; first | exact Or.inl h17 | exact Or.inr (by omega))]
            exact ih (p + 1) (by omega) (by omega)
          · refine V_aloadn_0 dX7_areJoined_42 ?_
            refine V_iload_4 dX7_areJoined_43 ?_
            refine V_iconst 0 dX7_areJoined_45 (by decide) ?_
            refine V_cv2f dX7_areJoined_46 cv_X7_140 rcM (Nat.le_of_ble_eq_true rfl) (k_M_at (p := p) (w := 0) (by omega) (hC.1.p6 (by omega))) ?_
            refine V_iloadn_2 dX7_areJoined_49 ?_
            refine V_icmpN_ne (a := T 6 p) (b := b) dX7_areJoined_50 68 (by decide) (by omega) (by omega) (fun h50 => ?_) (fun h50 => ?_)
            · refine V_iconst 0 dX7_areJoined_68 (by decide) ?_
              refine V_istoren_3 dX7_areJoined_69 (by first | exact rfl | exact True.intro) (by decide) ?_
              refine V_iinc_4 dX7_areJoined_70 (by first | exact rfl | exact True.intro) (by decide) (nI (p + 1)) (nI_inc _) ?_
              refine V_goto dX7_areJoined_73 5 (by decide) ?_
              refine V_lo (lo' := [some (.ref 97), some (.int (nI a)), some (.int (nI b)), some (.int (bI (jnb T a b (p + 1) = true))), some (.int (nI (p + 1)))]) ?_ ?_
              · rw [bI_f (show ¬ jnb T a b (p + 1) = true by simp only [jnb, Bool.or_eq_true, decide_eq_true_eq]; intro q; rcases q with q | q; exact h17 q; omega)]
              exact ih (p + 1) (by omega) (by omega)
            · refine V_aloadn_0 dX7_areJoined_53 ?_
              refine V_iload_4 dX7_areJoined_54 ?_
              refine V_iconst 1 dX7_areJoined_56 (by decide) ?_
              refine V_cv2f dX7_areJoined_57 cv_X7_140 rcM (Nat.le_of_ble_eq_true rfl) (k_M_at (p := p) (w := 1) (by omega) (hC.1.p7 (by omega))) ?_
              refine V_iloadn_1 dX7_areJoined_60 ?_
              refine V_icmpN_ne (a := T 7 p) (b := a) dX7_areJoined_61 68 (by decide) (by omega) (by omega) (fun h61 => ?_) (fun h61 => ?_)
              · refine V_iconst 0 dX7_areJoined_68 (by decide) ?_
                refine V_istoren_3 dX7_areJoined_69 (by first | exact rfl | exact True.intro) (by decide) ?_
                refine V_iinc_4 dX7_areJoined_70 (by first | exact rfl | exact True.intro) (by decide) (nI (p + 1)) (nI_inc _) ?_
                refine V_goto dX7_areJoined_73 5 (by decide) ?_
                refine V_lo (lo' := [some (.ref 97), some (.int (nI a)), some (.int (nI b)), some (.int (bI (jnb T a b (p + 1) = true))), some (.int (nI (p + 1)))]) ?_ ?_
                · rw [bI_f (show ¬ jnb T a b (p + 1) = true by simp only [jnb, Bool.or_eq_true, decide_eq_true_eq]; intro q; rcases q with q | q; exact h17 q; omega)]
                exact ih (p + 1) (by omega) (by omega)
              · refine V_iconst 1 dX7_areJoined_64 (by decide) ?_
                refine V_goto dX7_areJoined_65 69 (by decide) ?_
                refine V_istoren_3 dX7_areJoined_69 (by first | exact rfl | exact True.intro) (by decide) ?_
                refine V_iinc_4 dX7_areJoined_70 (by first | exact rfl | exact True.intro) (by decide) (nI (p + 1)) (nI_inc _) ?_
                refine V_goto dX7_areJoined_73 5 (by decide) ?_
                refine V_lo (lo' := [some (.ref 97), some (.int (nI a)), some (.int (nI b)), some (.int (bI (jnb T a b (p + 1) = true))), some (.int (nI (p + 1)))]) ?_ ?_
                · rw [bI_t (show jnb T a b (p + 1) = true by simp only [jnb, Bool.or_eq_true, decide_eq_true_eq]; first | exact Or.inl h17 | exact Or.inr (by omega))]
                exact ih (p + 1) (by omega) (by omega)

set_option maxRecDepth 100000 in
set_option maxHeartbeats 4000000 in
theorem k_M_areJoined {G : vG} {σ : vS} {d : Nat} (hd : 1 ≤ d) {L T : nT} (hC : MC L T σ) {a b : Nat} (ha : a < T 0 5) (hb : b < T 0 5) : Cf G yX7_areJoined cX7_areJoined 5 (some .boolean) d [.ref 97, .int (nI a), .int (nI b)] σ (some (.int (bI (jnb T a b (T 0 10) = true)))) σ := by
  refine Ct.ofV (by decide) (Nat.le_of_ble_eq_true rfl) rfl ?_
  show V G RX7 cX7_areJoined (some .boolean) 5 d _ 0 [some (.ref 97), some (.int (nI a)), some (.int (nI b)), none, none] [] _
  obtain ⟨d, rfl⟩ : ∃ e, d = e + 1 := ⟨d - 1, by omega⟩
  refine V_iconst 0 dX7_areJoined_0 (by decide) ?_
  refine V_istoren_3 dX7_areJoined_1 (by first | exact rfl | exact True.intro) (by decide) ?_
  refine V_iconst 0 dX7_areJoined_2 (by decide) ?_
  refine V_istore_4 dX7_areJoined_3 (by first | exact rfl | exact True.intro) (by decide) ?_
  exact lp_M_areJoined hC hd ha hb (T 0 10 + 1) 0 (by omega) (by omega)

set_option maxRecDepth 100000 in
set_option maxHeartbeats 4000000 in
theorem k_M_draw {G : vG} {σ : vS} {d : Nat} {z : Nat} (hz : σ 98 0 = nI z) : Cf G yX7_draw cX7_draw 1 (some .int) d [.ref 97] σ (some (.int (nI (zN z / 2 ^ 8)))) (vup σ 98 0 (nI (zN z))) := by
  refine Ct.ofV (by decide) (Nat.le_of_ble_eq_true rfl) rfl ?_
  show V G RX7 cX7_draw (some .int) 1 d _ 0 [some (.ref 97)] [] _
  refine V_aloadn_0 dX7_draw_0 ?_
  refine V_getR dX7_draw_1 fl_X7_9 oM_now ?_
  refine V_iconst 0 dX7_draw_4 (by decide) ?_
  refine V_aloadn_0 dX7_draw_5 ?_
  refine V_getR dX7_draw_6 fl_X7_9 oM_now ?_
  refine V_iconst 0 dX7_draw_9 (by decide) ?_
  refine V_iald (j := 0) dX7_draw_10 aM_now (by decide) (by decide) ?_
  refine V_topi (y := nI z) hz ?_
  refine V_ldc 1103515245 dX7_draw_11 cn_X7_152 ?_
  refine V_imulN (a := z) (b := 1103515245) dX7_draw_13 ?_
  refine V_sipush 12345 dX7_draw_14 (by decide) ?_
  refine V_iaddN (a := z * 1103515245) (b := 12345) dX7_draw_17 ?_
  refine V_topi (y := nI (zN z)) (nI_mod _) ?_
  refine V_iast (j := 0) dX7_draw_18 aM_now (by decide) (by decide) ?_
  refine V_aloadn_0 dX7_draw_19 ?_
  refine V_getR dX7_draw_20 fl_X7_9 oM_now ?_
  refine V_iconst 0 dX7_draw_23 (by decide) ?_
  refine V_iald (j := 0) dX7_draw_24 aM_now (by decide) (by decide) ?_
  refine V_topi (y := nI (zN z)) vup_same ?_
  refine V_bipush 8 dX7_draw_25 (by decide) ?_
  refine V_iushr dX7_draw_27 ?_
  refine V_topi (y := nI (zN z / 2 ^ 8)) (pk_ushrN (zN_lt z) 8 8 (by decide)) ?_
  exact V_iret dX7_draw_28 ⟨rfl, rfl⟩

theorem MA.of {q : Nat} {T T' : nT} {σ σ' : vS} (h : MA q T σ) (hn : T 0 5 ≤ 8) (hm : T 0 10 ≤ 13) (hk : ∀ k i, k ≠ 4 → T' k i = T k i) (hj : ∀ j, j < 107 → (∀ c s, c < T 0 5 → s < 3 → j ≠ 7 + 6 * c + 3 + s) → σ' q j = σ q j) (hw : ∀ c s, c < T 0 5 → s < 3 → σ' q (7 + 6 * c + 3 + s) = nI (T' 4 (c * 3 + s))) : MA q T' σ' := by
  obtain ⟨a1, a2, a3⟩ := h
  have e0 : ∀ i, T' 0 i = T 0 i := fun i => hk 0 i (by decide)
  have hj2 : ∀ j, j < 7 → σ' q j = σ q j := fun j hh => hj j (by omega) (fun c s _ _ => by omega)
  refine ⟨?_, fun c hc => ?_, fun p hp => ?_⟩
  · rw [hj2 0 (by decide), hj2 1 (by decide), hj2 2 (by decide), hj2 3 (by decide), hj2 4 (by decide), hj2 5 (by decide), hj2 6 (by decide), e0, e0, e0, e0, e0, e0, e0]; exact a1
  · rw [e0] at hc
    obtain ⟨g1, g2, g3, g4⟩ := a2 c hc
    rw [hj (7 + 6 * c + 0) (by omega) (fun c s _ _ => by omega), hj (7 + 6 * c + 1) (by omega) (fun c s _ _ => by omega), hj (7 + 6 * c + 2) (by omega) (fun c s _ _ => by omega), hk 1 c (by decide), hk 2 c (by decide), hk 3 c (by decide)]
    exact ⟨g1, g2, g3, fun s hs => hw c s hc hs⟩
  · rw [e0] at hp
    rw [hj (55 + 4 * p + 0) (by omega) (fun c s _ _ => by omega), hj (55 + 4 * p + 1) (by omega) (fun c s _ _ => by omega), hj (55 + 4 * p + 2) (by omega) (fun c s _ _ => by omega), hj (55 + 4 * p + 3) (by omega) (fun c s _ _ => by omega), hk 6 p (by decide), hk 7 p (by decide), hk 8 p (by decide), hk 9 p (by decide)]
    exact a3 p hp
theorem MA.sc {q k i x : Nat} {T : nT} {σ : vS} (h : MA q T σ) (hki : (k = 0 ∧ i = 14) ∨ (k = 3 ∧ i = 13) ∨ (k = 4 ∧ i = 12) ∨ (k = 5 ∧ i = 11)) : MA q (Tup T 0 i x) (vup σ q k (nI x)) := by
  obtain ⟨⟨b1, b2, b3, b4, b5, b6, b7⟩, a2, a3⟩ := h
  have e : ∀ a j, ¬ (a = 0 ∧ j = i) → Tup T 0 i x a j = T a j := fun a j g => Tup_ne g
  have g : ∀ kk j, σ q kk = nI (T 0 j) → (kk = k ↔ j = i) → vup σ q k (nI x) q kk = nI (Tup T 0 i x 0 j) := by
    intro kk j hv hiff
    by_cases c : kk = k
    · rw [c, hiff.mp c, vup_same, Tup_same]
    · rw [vup_ne (by omega), e 0 j (by omega)]; exact hv
  refine ⟨⟨g 0 14 b1 (by omega), g 1 5 b2 (by omega), g 2 10 b3 (by omega), g 3 13 b4 (by omega), g 4 12 b5 (by omega), g 5 11 b6 (by omega), g 6 15 b7 (by omega)⟩, fun c hc => ?_, fun p hp => ?_⟩
  · rw [e 0 5 (by omega)] at hc
    obtain ⟨g1, g2, g3, g4⟩ := a2 c hc
    rw [vup_ne (by omega), vup_ne (by omega), vup_ne (by omega), e 1 c (by omega), e 2 c (by omega), e 3 c (by omega)]
    exact ⟨g1, g2, g3, fun s hs => by rw [vup_ne (by omega), e 4 _ (by omega)]; exact g4 s hs⟩
  · rw [e 0 10 (by omega)] at hp
    rw [vup_ne (by omega), vup_ne (by omega), vup_ne (by omega), vup_ne (by omega), e 6 p (by omega), e 7 p (by omega), e 8 p (by omega), e 9 p (by omega)]
    exact a3 p hp
theorem Fm.up {σ : vS} {j : Nat} {v : Int32} (h : j < 107) : Fm σ (vup σ 98 j v) := ⟨fun q a _ _ _ => vup_p a, fun i hi => vup_ne (by omega)⟩
theorem MC.sc {L T : nT} {k i x : Nat} {σ : vS} (h : MC L T σ) (hki : (k = 0 ∧ i = 14) ∨ (k = 3 ∧ i = 13) ∨ (k = 4 ∧ i = 12) ∨ (k = 5 ∧ i = 11)) (hI : TI (Tup T 0 i x)) : MC L (Tup T 0 i x) (vup σ 98 k (nI x)) :=
  h.next (Fm.up (by omega)) (h.1.sc hki) hI (Tup_ne (by omega)) (fun _ => Tup_ne (by omega))
theorem sh_zero {T : nT} {a n s : Nat} (h : fullT T a = 0) : shT T a n s = 0 := by
  unfold shT
  rw [h, Nat.div_zero]

theorem dm_drains {G : vG} {d : Nat} {Q : Option Value → vS → Prop} {σ : vS} {a0 a1 a2 a3 a5 a7 : Option Value} {a b : Nat} {st : List Value} (ha : a < 2 ^ 31) (hb : b < 2 ^ 31) (k : V G RX7 cX7_drains none 8 d Q 110 [a0, a1, a2, a3, some (.int (nI a)), a5, some (.int (nI b)), a7] (.int (nI (min a b)) :: st) σ) : V G RX7 cX7_drains none 8 d Q 100 [a0, a1, a2, a3, some (.int (nI a)), a5, some (.int (nI b)), a7] (.int (nI b) :: .int (nI a) :: st) σ := by
  refine V_icmpN_ge (a := a) (b := b) dX7_drains_100 108 (by decide) ha hb (fun h => ?_) (fun h => ?_)
  · refine V_iload_6 dX7_drains_108 ?_
    rw [Nat.min_eq_right h] at k
    exact k
  · refine V_iload_4 dX7_drains_103 ?_
    refine V_goto dX7_drains_105 110 (by decide) ?_
    rw [Nat.min_eq_left (by omega)] at k
    exact k

set_option maxRecDepth 100000 in
set_option maxHeartbeats 4000000 in
theorem k_M_drains_p {G : vG} {σ : vS} {d : Nat} (hd : 2 ≤ d) {L T : nT} (hC : MC L T σ) {a n : Nat} (ha : a < T 0 5) (hnf : n ≤ fullT T a) (hz : 0 < fullT T a) : Cr G yX7_drains cX7_drains 8 none d [.ref 97, .int (nI a), .int (nI n)] σ none (fun σ' => MC L (drainT T a n) σ' ∧ (∀ s, s < 3 → σ' 101 s = nI (goT T a n s)) ∧ Fm σ σ') := by
  refine Ct.ofV (by decide) (Nat.le_of_ble_eq_true rfl) rfl ?_
  show V G RX7 cX7_drains none 8 d _ 0 [some (.ref 97), some (.int (nI a)), some (.int (nI n)), none, none, none, none, none] [] _
  obtain ⟨d, rfl⟩ : ∃ e, d = e + 1 := ⟨d - 1, by omega⟩
  have hI := hC.2.2.1
  have hn := hI.nc
  have hm := hI.np
  have hfa := hI.full ha
  have s0 := sh_le (s := 0) hnf
  have s1 := sh_le (s := 1) hnf
  have s2 := sh_le (s := 2) hnf
  have ss := sh_sum (T := T) (a := a) (n := n)
  have w0 := w_le_full (T := T) (a := a) (s := 0) (by decide)
  have w1 := w_le_full (T := T) (a := a) (s := 1) (by decide)
  have w2 := w_le_full (T := T) (a := a) (s := 2) (by decide)
  have lk0 : lkT T a n 0 ≤ n := by simp only [lkT]; omega
  have lk1 : lkT T a n 1 ≤ n := by simp only [lkT]; omega
  have lk2 : lkT T a n 2 ≤ n := by simp only [lkT]; omega
  refine V_aloadn_0 dX7_drains_0 ?_
  refine V_iloadn_1 dX7_drains_1 ?_
  refine V_cv1f dX7_drains_2 cv_X7_96 rcM (Nat.le_of_ble_eq_true rfl) (k_M_fullOf (by omega) hC (by omega)) ?_
  refine V_istoren_3 dX7_drains_5 (by first | exact rfl | exact True.intro) (by decide) ?_
  refine V_iloadn_2 dX7_drains_6 ?_
  refine V_istore_4 dX7_drains_7 (by first | exact rfl | exact True.intro) (by decide) ?_
  refine V_iconst 0 dX7_drains_9 (by decide) ?_
  refine V_istore_5 dX7_drains_10 (by first | exact rfl | exact True.intro) (by decide) ?_
  refine V_iload_5 dX7_drains_12 ?_
  refine V_iconst 3 dX7_drains_14 (by decide) ?_
  refine V_icmp_ge_f dX7_drains_15 68 (by decide) (by decide) ?_
  refine V_aloadn_0 dX7_drains_18 ?_
  refine V_getR dX7_drains_19 fl_X7_19 oM_goes ?_
  refine V_iload_5 dX7_drains_22 ?_
  refine V_iloadn_3 dX7_drains_24 ?_
  refine V_if_ne_t dX7_drains_25 32 (by decide) (nI_ne0 hz (by omega)) ?_
  refine V_aloadn_0 dX7_drains_32 ?_
  refine V_iloadn_1 dX7_drains_33 ?_
  refine V_iconst 3 dX7_drains_34 (by decide) ?_
  refine V_iload_5 dX7_drains_35 ?_
  refine V_iadd dX7_drains_37 ?_
  refine V_topi (y := 3) (by decide) ?_
  refine V_cv2f dX7_drains_38 cv_X7_92 rcM (Nat.le_of_ble_eq_true rfl) (k_M_of (c := a) (w := 3) (v := nI (T 4 (a * 3 + 0))) (by omega) (by (repeat rw [vup_ne (by omega)]); exact hC.1.w (s := 0) (by omega) (by decide))) ?_
  refine V_i2l dX7_drains_41 ?_
  refine V_iloadn_2 dX7_drains_42 ?_
  refine V_i2l dX7_drains_43 ?_
  refine V_lmul dX7_drains_44 ?_
  refine V_iloadn_3 dX7_drains_45 ?_
  refine V_i2l dX7_drains_46 ?_
  refine V_ldiv dX7_drains_47 (long_ne0 (by omega) (by omega)) ?_
  refine V_l2i dX7_drains_48 ?_
  refine V_topi (y := nI (shT T a n 0)) (share_long (by omega) (by omega) (by omega) (by omega)) ?_
  refine V_iast (j := 0) dX7_drains_49 aM_goes (by decide) (by decide) ?_
  refine V_iload_4 dX7_drains_50 ?_
  refine V_aloadn_0 dX7_drains_52 ?_
  refine V_getR dX7_drains_53 fl_X7_19 oM_goes ?_
  refine V_iload_5 dX7_drains_56 ?_
  refine V_iald (j := 0) dX7_drains_58 aM_goes (by decide) (by decide) ?_
  refine V_topi (y := nI (shT T a n 0)) (by repeat (first | rw [vup_same] | rw [vup_ne (by omega)])) ?_
  refine V_isubN (a := n) (b := shT T a n 0) dX7_drains_59 (by omega) ?_
  refine V_istore_4 dX7_drains_60 (by first | exact rfl | exact True.intro) (by decide) ?_
  refine V_iinc_5 dX7_drains_62 (by first | exact rfl | exact True.intro) (by decide) 1 (by decide) ?_
  refine V_goto dX7_drains_65 12 (by decide) ?_
  refine V_iload_5 dX7_drains_12 ?_
  refine V_iconst 3 dX7_drains_14 (by decide) ?_
  refine V_icmp_ge_f dX7_drains_15 68 (by decide) (by decide) ?_
  refine V_aloadn_0 dX7_drains_18 ?_
  refine V_getR dX7_drains_19 fl_X7_19 oM_goes ?_
  refine V_iload_5 dX7_drains_22 ?_
  refine V_iloadn_3 dX7_drains_24 ?_
  refine V_if_ne_t dX7_drains_25 32 (by decide) (nI_ne0 hz (by omega)) ?_
  refine V_aloadn_0 dX7_drains_32 ?_
  refine V_iloadn_1 dX7_drains_33 ?_
  refine V_iconst 3 dX7_drains_34 (by decide) ?_
  refine V_iload_5 dX7_drains_35 ?_
  refine V_iadd dX7_drains_37 ?_
  refine V_topi (y := 4) (by decide) ?_
  refine V_cv2f dX7_drains_38 cv_X7_92 rcM (Nat.le_of_ble_eq_true rfl) (k_M_of (c := a) (w := 4) (v := nI (T 4 (a * 3 + 1))) (by omega) (by (repeat rw [vup_ne (by omega)]); exact hC.1.w (s := 1) (by omega) (by decide))) ?_
  refine V_i2l dX7_drains_41 ?_
  refine V_iloadn_2 dX7_drains_42 ?_
  refine V_i2l dX7_drains_43 ?_
  refine V_lmul dX7_drains_44 ?_
  refine V_iloadn_3 dX7_drains_45 ?_
  refine V_i2l dX7_drains_46 ?_
  refine V_ldiv dX7_drains_47 (long_ne0 (by omega) (by omega)) ?_
  refine V_l2i dX7_drains_48 ?_
  refine V_topi (y := nI (shT T a n 1)) (share_long (by omega) (by omega) (by omega) (by omega)) ?_
  refine V_iast (j := 1) dX7_drains_49 aM_goes (by decide) (by decide) ?_
  refine V_iload_4 dX7_drains_50 ?_
  refine V_aloadn_0 dX7_drains_52 ?_
  refine V_getR dX7_drains_53 fl_X7_19 oM_goes ?_
  refine V_iload_5 dX7_drains_56 ?_
  refine V_iald (j := 1) dX7_drains_58 aM_goes (by decide) (by decide) ?_
  refine V_topi (y := nI (shT T a n 1)) (by repeat (first | rw [vup_same] | rw [vup_ne (by omega)])) ?_
  refine V_isubN (a := n - (shT T a n 0)) (b := shT T a n 1) dX7_drains_59 (by omega) ?_
  refine V_istore_4 dX7_drains_60 (by first | exact rfl | exact True.intro) (by decide) ?_
  refine V_iinc_5 dX7_drains_62 (by first | exact rfl | exact True.intro) (by decide) 2 (by decide) ?_
  refine V_goto dX7_drains_65 12 (by decide) ?_
  refine V_iload_5 dX7_drains_12 ?_
  refine V_iconst 3 dX7_drains_14 (by decide) ?_
  refine V_icmp_ge_f dX7_drains_15 68 (by decide) (by decide) ?_
  refine V_aloadn_0 dX7_drains_18 ?_
  refine V_getR dX7_drains_19 fl_X7_19 oM_goes ?_
  refine V_iload_5 dX7_drains_22 ?_
  refine V_iloadn_3 dX7_drains_24 ?_
  refine V_if_ne_t dX7_drains_25 32 (by decide) (nI_ne0 hz (by omega)) ?_
  refine V_aloadn_0 dX7_drains_32 ?_
  refine V_iloadn_1 dX7_drains_33 ?_
  refine V_iconst 3 dX7_drains_34 (by decide) ?_
  refine V_iload_5 dX7_drains_35 ?_
  refine V_iadd dX7_drains_37 ?_
  refine V_topi (y := 5) (by decide) ?_
  refine V_cv2f dX7_drains_38 cv_X7_92 rcM (Nat.le_of_ble_eq_true rfl) (k_M_of (c := a) (w := 5) (v := nI (T 4 (a * 3 + 2))) (by omega) (by (repeat rw [vup_ne (by omega)]); exact hC.1.w (s := 2) (by omega) (by decide))) ?_
  refine V_i2l dX7_drains_41 ?_
  refine V_iloadn_2 dX7_drains_42 ?_
  refine V_i2l dX7_drains_43 ?_
  refine V_lmul dX7_drains_44 ?_
  refine V_iloadn_3 dX7_drains_45 ?_
  refine V_i2l dX7_drains_46 ?_
  refine V_ldiv dX7_drains_47 (long_ne0 (by omega) (by omega)) ?_
  refine V_l2i dX7_drains_48 ?_
  refine V_topi (y := nI (shT T a n 2)) (share_long (by omega) (by omega) (by omega) (by omega)) ?_
  refine V_iast (j := 2) dX7_drains_49 aM_goes (by decide) (by decide) ?_
  refine V_iload_4 dX7_drains_50 ?_
  refine V_aloadn_0 dX7_drains_52 ?_
  refine V_getR dX7_drains_53 fl_X7_19 oM_goes ?_
  refine V_iload_5 dX7_drains_56 ?_
  refine V_iald (j := 2) dX7_drains_58 aM_goes (by decide) (by decide) ?_
  refine V_topi (y := nI (shT T a n 2)) (by repeat (first | rw [vup_same] | rw [vup_ne (by omega)])) ?_
  refine V_isubN (a := (n - (shT T a n 0)) - (shT T a n 1)) (b := shT T a n 2) dX7_drains_59 (by omega) ?_
  refine V_istore_4 dX7_drains_60 (by first | exact rfl | exact True.intro) (by decide) ?_
  refine V_iinc_5 dX7_drains_62 (by first | exact rfl | exact True.intro) (by decide) 3 (by decide) ?_
  refine V_goto dX7_drains_65 12 (by decide) ?_
  refine V_iload_5 dX7_drains_12 ?_
  refine V_iconst 3 dX7_drains_14 (by decide) ?_
  refine V_icmp_ge_t dX7_drains_15 68 (by decide) (by decide) ?_
  refine V_lo (lo' := [some (.ref 97), some (.int (nI a)), some (.int (nI n)), some (.int (nI (fullT T a))), some (.int (nI (lkT T a n 0))), some (.int 3), none, none]) rfl ?_
  refine V_iconst 0 dX7_drains_68 (by decide) ?_
  refine V_istore_5 dX7_drains_69 (by first | exact rfl | exact True.intro) (by decide) ?_
  refine V_iload_5 dX7_drains_71 ?_
  refine V_iconst 3 dX7_drains_73 (by decide) ?_
  refine V_icmp_ge_f dX7_drains_74 164 (by decide) (by decide) ?_
  refine V_aloadn_0 dX7_drains_77 ?_
  refine V_iloadn_1 dX7_drains_78 ?_
  refine V_iconst 3 dX7_drains_79 (by decide) ?_
  refine V_iload_5 dX7_drains_80 ?_
  refine V_iadd dX7_drains_82 ?_
  refine V_topi (y := 3) (by decide) ?_
  refine V_cv2f dX7_drains_83 cv_X7_92 rcM (Nat.le_of_ble_eq_true rfl) (k_M_of (c := a) (w := 3) (v := nI (T 4 (a * 3 + 0))) (by omega) (by (repeat rw [vup_ne (by omega)]); exact hC.1.w (s := 0) (by omega) (by decide))) ?_
  refine V_aloadn_0 dX7_drains_86 ?_
  refine V_getR dX7_drains_87 fl_X7_19 oM_goes ?_
  refine V_iload_5 dX7_drains_90 ?_
  refine V_iald (j := 0) dX7_drains_92 aM_goes (by decide) (by decide) ?_
  refine V_topi (y := nI (shT T a n 0)) (by repeat (first | rw [vup_same] | rw [vup_ne (by omega)])) ?_
  refine V_isubN (a := T 4 (a * 3 + 0)) (b := shT T a n 0) dX7_drains_93 (by omega) ?_
  refine V_istore_6 dX7_drains_94 (by first | exact rfl | exact True.intro) (by decide) ?_
  refine V_iload_4 dX7_drains_96 ?_
  refine V_iload_6 dX7_drains_98 ?_
  refine dm_drains (by omega) (by omega) ?_
  refine V_istore_7 dX7_drains_110 (by first | exact rfl | exact True.intro) (by decide) ?_
  refine V_aloadn_0 dX7_drains_112 ?_
  refine V_getR dX7_drains_113 fl_X7_19 oM_goes ?_
  refine V_iload_5 dX7_drains_116 ?_
  refine V_dup2 dX7_drains_118 rfl rfl ?_
  refine V_iald (j := 0) dX7_drains_119 aM_goes (by decide) (by decide) ?_
  refine V_topi (y := nI (shT T a n 0)) (by repeat (first | rw [vup_same] | rw [vup_ne (by omega)])) ?_
  refine V_iload_7 dX7_drains_120 ?_
  refine V_iaddN (a := shT T a n 0) (b := min (lkT T a n 0) ((T 4 (a * 3 + 0)) - (shT T a n 0))) dX7_drains_122 ?_
  refine V_topi (y := nI (goT T a n 0)) rfl ?_
  refine V_iast (j := 0) dX7_drains_123 aM_goes (by decide) (by decide) ?_
  refine V_iload_4 dX7_drains_124 ?_
  refine V_iload_7 dX7_drains_126 ?_
  refine V_isubN (a := lkT T a n 0) (b := min (lkT T a n 0) ((T 4 (a * 3 + 0)) - (shT T a n 0))) dX7_drains_128 (by omega) ?_
  refine V_istore_4 dX7_drains_129 (by first | exact rfl | exact True.intro) (by decide) ?_
  refine V_lo (lo' := [some (.ref 97), some (.int (nI a)), some (.int (nI n)), some (.int (nI (fullT T a))), some (.int (nI (lkT T a n 1))), some (.int 0), some (.int (nI ((T 4 (a * 3 + 0)) - (shT T a n 0)))), some (.int (nI (min (lkT T a n 0) ((T 4 (a * 3 + 0)) - (shT T a n 0)))))]) rfl ?_
  refine V_aloadn_0 dX7_drains_131 ?_
  refine V_getR dX7_drains_132 fl_X7_9 oM_now ?_
  refine V_bipush 7 dX7_drains_135 (by decide) ?_
  refine V_bipush 6 dX7_drains_137 (by decide) ?_
  refine V_iloadn_1 dX7_drains_139 ?_
  refine V_imulN (a := 6) (b := a) dX7_drains_140 ?_
  refine V_iaddN (a := 7) (b := 6 * a) dX7_drains_141 ?_
  refine V_iconst 3 dX7_drains_142 (by decide) ?_
  refine V_iaddN (a := 7 + (6 * a)) (b := 3) dX7_drains_143 ?_
  refine V_iload_5 dX7_drains_144 ?_
  refine V_iaddN (a := (7 + (6 * a)) + 3) (b := 0) dX7_drains_146 ?_
  refine V_dup2 dX7_drains_147 rfl rfl ?_
  refine V_iald (j := ((7 + (6 * a)) + 3) + 0) dX7_drains_148 aM_now (by omega) (by decide) ?_
  refine V_topi (y := nI (T 4 (a * 3 + 0))) (by (repeat rw [vup_ne (by omega)]); exact hC.1.w (s := 0) (by omega) (by decide)) ?_
  refine V_aloadn_0 dX7_drains_149 ?_
  refine V_getR dX7_drains_150 fl_X7_19 oM_goes ?_
  refine V_iload_5 dX7_drains_153 ?_
  refine V_iald (j := 0) dX7_drains_155 aM_goes (by decide) (by decide) ?_
  refine V_topi (y := nI (goT T a n 0)) (by repeat (first | rw [vup_same] | rw [vup_ne (by omega)])) ?_
  refine V_isubN (a := T 4 (a * 3 + 0)) (b := goT T a n 0) dX7_drains_156 (go_le hnf) ?_
  refine V_iast (j := ((7 + (6 * a)) + 3) + 0) dX7_drains_157 aM_now (by omega) (by decide) ?_
  refine V_iinc_5 dX7_drains_158 (by first | exact rfl | exact True.intro) (by decide) 1 (by decide) ?_
  refine V_goto dX7_drains_161 71 (by decide) ?_
  refine V_iload_5 dX7_drains_71 ?_
  refine V_iconst 3 dX7_drains_73 (by decide) ?_
  refine V_icmp_ge_f dX7_drains_74 164 (by decide) (by decide) ?_
  refine V_aloadn_0 dX7_drains_77 ?_
  refine V_iloadn_1 dX7_drains_78 ?_
  refine V_iconst 3 dX7_drains_79 (by decide) ?_
  refine V_iload_5 dX7_drains_80 ?_
  refine V_iadd dX7_drains_82 ?_
  refine V_topi (y := 4) (by decide) ?_
  refine V_cv2f dX7_drains_83 cv_X7_92 rcM (Nat.le_of_ble_eq_true rfl) (k_M_of (c := a) (w := 4) (v := nI (T 4 (a * 3 + 1))) (by omega) (by (repeat rw [vup_ne (by omega)]); exact hC.1.w (s := 1) (by omega) (by decide))) ?_
  refine V_aloadn_0 dX7_drains_86 ?_
  refine V_getR dX7_drains_87 fl_X7_19 oM_goes ?_
  refine V_iload_5 dX7_drains_90 ?_
  refine V_iald (j := 1) dX7_drains_92 aM_goes (by decide) (by decide) ?_
  refine V_topi (y := nI (shT T a n 1)) (by repeat (first | rw [vup_same] | rw [vup_ne (by omega)])) ?_
  refine V_isubN (a := T 4 (a * 3 + 1)) (b := shT T a n 1) dX7_drains_93 (by omega) ?_
  refine V_istore_6 dX7_drains_94 (by first | exact rfl | exact True.intro) (by decide) ?_
  refine V_iload_4 dX7_drains_96 ?_
  refine V_iload_6 dX7_drains_98 ?_
  refine dm_drains (by omega) (by omega) ?_
  refine V_istore_7 dX7_drains_110 (by first | exact rfl | exact True.intro) (by decide) ?_
  refine V_aloadn_0 dX7_drains_112 ?_
  refine V_getR dX7_drains_113 fl_X7_19 oM_goes ?_
  refine V_iload_5 dX7_drains_116 ?_
  refine V_dup2 dX7_drains_118 rfl rfl ?_
  refine V_iald (j := 1) dX7_drains_119 aM_goes (by decide) (by decide) ?_
  refine V_topi (y := nI (shT T a n 1)) (by repeat (first | rw [vup_same] | rw [vup_ne (by omega)])) ?_
  refine V_iload_7 dX7_drains_120 ?_
  refine V_iaddN (a := shT T a n 1) (b := min (lkT T a n 1) ((T 4 (a * 3 + 1)) - (shT T a n 1))) dX7_drains_122 ?_
  refine V_topi (y := nI (goT T a n 1)) rfl ?_
  refine V_iast (j := 1) dX7_drains_123 aM_goes (by decide) (by decide) ?_
  refine V_iload_4 dX7_drains_124 ?_
  refine V_iload_7 dX7_drains_126 ?_
  refine V_isubN (a := lkT T a n 1) (b := min (lkT T a n 1) ((T 4 (a * 3 + 1)) - (shT T a n 1))) dX7_drains_128 (by omega) ?_
  refine V_istore_4 dX7_drains_129 (by first | exact rfl | exact True.intro) (by decide) ?_
  refine V_lo (lo' := [some (.ref 97), some (.int (nI a)), some (.int (nI n)), some (.int (nI (fullT T a))), some (.int (nI (lkT T a n 2))), some (.int 1), some (.int (nI ((T 4 (a * 3 + 1)) - (shT T a n 1)))), some (.int (nI (min (lkT T a n 1) ((T 4 (a * 3 + 1)) - (shT T a n 1)))))]) rfl ?_
  refine V_aloadn_0 dX7_drains_131 ?_
  refine V_getR dX7_drains_132 fl_X7_9 oM_now ?_
  refine V_bipush 7 dX7_drains_135 (by decide) ?_
  refine V_bipush 6 dX7_drains_137 (by decide) ?_
  refine V_iloadn_1 dX7_drains_139 ?_
  refine V_imulN (a := 6) (b := a) dX7_drains_140 ?_
  refine V_iaddN (a := 7) (b := 6 * a) dX7_drains_141 ?_
  refine V_iconst 3 dX7_drains_142 (by decide) ?_
  refine V_iaddN (a := 7 + (6 * a)) (b := 3) dX7_drains_143 ?_
  refine V_iload_5 dX7_drains_144 ?_
  refine V_iaddN (a := (7 + (6 * a)) + 3) (b := 1) dX7_drains_146 ?_
  refine V_dup2 dX7_drains_147 rfl rfl ?_
  refine V_iald (j := ((7 + (6 * a)) + 3) + 1) dX7_drains_148 aM_now (by omega) (by decide) ?_
  refine V_topi (y := nI (T 4 (a * 3 + 1))) (by (repeat rw [vup_ne (by omega)]); exact hC.1.w (s := 1) (by omega) (by decide)) ?_
  refine V_aloadn_0 dX7_drains_149 ?_
  refine V_getR dX7_drains_150 fl_X7_19 oM_goes ?_
  refine V_iload_5 dX7_drains_153 ?_
  refine V_iald (j := 1) dX7_drains_155 aM_goes (by decide) (by decide) ?_
  refine V_topi (y := nI (goT T a n 1)) (by repeat (first | rw [vup_same] | rw [vup_ne (by omega)])) ?_
  refine V_isubN (a := T 4 (a * 3 + 1)) (b := goT T a n 1) dX7_drains_156 (go_le hnf) ?_
  refine V_iast (j := ((7 + (6 * a)) + 3) + 1) dX7_drains_157 aM_now (by omega) (by decide) ?_
  refine V_iinc_5 dX7_drains_158 (by first | exact rfl | exact True.intro) (by decide) 2 (by decide) ?_
  refine V_goto dX7_drains_161 71 (by decide) ?_
  refine V_iload_5 dX7_drains_71 ?_
  refine V_iconst 3 dX7_drains_73 (by decide) ?_
  refine V_icmp_ge_f dX7_drains_74 164 (by decide) (by decide) ?_
  refine V_aloadn_0 dX7_drains_77 ?_
  refine V_iloadn_1 dX7_drains_78 ?_
  refine V_iconst 3 dX7_drains_79 (by decide) ?_
  refine V_iload_5 dX7_drains_80 ?_
  refine V_iadd dX7_drains_82 ?_
  refine V_topi (y := 5) (by decide) ?_
  refine V_cv2f dX7_drains_83 cv_X7_92 rcM (Nat.le_of_ble_eq_true rfl) (k_M_of (c := a) (w := 5) (v := nI (T 4 (a * 3 + 2))) (by omega) (by (repeat rw [vup_ne (by omega)]); exact hC.1.w (s := 2) (by omega) (by decide))) ?_
  refine V_aloadn_0 dX7_drains_86 ?_
  refine V_getR dX7_drains_87 fl_X7_19 oM_goes ?_
  refine V_iload_5 dX7_drains_90 ?_
  refine V_iald (j := 2) dX7_drains_92 aM_goes (by decide) (by decide) ?_
  refine V_topi (y := nI (shT T a n 2)) (by repeat (first | rw [vup_same] | rw [vup_ne (by omega)])) ?_
  refine V_isubN (a := T 4 (a * 3 + 2)) (b := shT T a n 2) dX7_drains_93 (by omega) ?_
  refine V_istore_6 dX7_drains_94 (by first | exact rfl | exact True.intro) (by decide) ?_
  refine V_iload_4 dX7_drains_96 ?_
  refine V_iload_6 dX7_drains_98 ?_
  refine dm_drains (by omega) (by omega) ?_
  refine V_istore_7 dX7_drains_110 (by first | exact rfl | exact True.intro) (by decide) ?_
  refine V_aloadn_0 dX7_drains_112 ?_
  refine V_getR dX7_drains_113 fl_X7_19 oM_goes ?_
  refine V_iload_5 dX7_drains_116 ?_
  refine V_dup2 dX7_drains_118 rfl rfl ?_
  refine V_iald (j := 2) dX7_drains_119 aM_goes (by decide) (by decide) ?_
  refine V_topi (y := nI (shT T a n 2)) (by repeat (first | rw [vup_same] | rw [vup_ne (by omega)])) ?_
  refine V_iload_7 dX7_drains_120 ?_
  refine V_iaddN (a := shT T a n 2) (b := min (lkT T a n 2) ((T 4 (a * 3 + 2)) - (shT T a n 2))) dX7_drains_122 ?_
  refine V_topi (y := nI (goT T a n 2)) rfl ?_
  refine V_iast (j := 2) dX7_drains_123 aM_goes (by decide) (by decide) ?_
  refine V_iload_4 dX7_drains_124 ?_
  refine V_iload_7 dX7_drains_126 ?_
  refine V_isubN (a := lkT T a n 2) (b := min (lkT T a n 2) ((T 4 (a * 3 + 2)) - (shT T a n 2))) dX7_drains_128 (by omega) ?_
  refine V_istore_4 dX7_drains_129 (by first | exact rfl | exact True.intro) (by decide) ?_
  refine V_lo (lo' := [some (.ref 97), some (.int (nI a)), some (.int (nI n)), some (.int (nI (fullT T a))), some (.int (nI (lkT T a n 3))), some (.int 2), some (.int (nI ((T 4 (a * 3 + 2)) - (shT T a n 2)))), some (.int (nI (min (lkT T a n 2) ((T 4 (a * 3 + 2)) - (shT T a n 2)))))]) rfl ?_
  refine V_aloadn_0 dX7_drains_131 ?_
  refine V_getR dX7_drains_132 fl_X7_9 oM_now ?_
  refine V_bipush 7 dX7_drains_135 (by decide) ?_
  refine V_bipush 6 dX7_drains_137 (by decide) ?_
  refine V_iloadn_1 dX7_drains_139 ?_
  refine V_imulN (a := 6) (b := a) dX7_drains_140 ?_
  refine V_iaddN (a := 7) (b := 6 * a) dX7_drains_141 ?_
  refine V_iconst 3 dX7_drains_142 (by decide) ?_
  refine V_iaddN (a := 7 + (6 * a)) (b := 3) dX7_drains_143 ?_
  refine V_iload_5 dX7_drains_144 ?_
  refine V_iaddN (a := (7 + (6 * a)) + 3) (b := 2) dX7_drains_146 ?_
  refine V_dup2 dX7_drains_147 rfl rfl ?_
  refine V_iald (j := ((7 + (6 * a)) + 3) + 2) dX7_drains_148 aM_now (by omega) (by decide) ?_
  refine V_topi (y := nI (T 4 (a * 3 + 2))) (by (repeat rw [vup_ne (by omega)]); exact hC.1.w (s := 2) (by omega) (by decide)) ?_
  refine V_aloadn_0 dX7_drains_149 ?_
  refine V_getR dX7_drains_150 fl_X7_19 oM_goes ?_
  refine V_iload_5 dX7_drains_153 ?_
  refine V_iald (j := 2) dX7_drains_155 aM_goes (by decide) (by decide) ?_
  refine V_topi (y := nI (goT T a n 2)) (by repeat (first | rw [vup_same] | rw [vup_ne (by omega)])) ?_
  refine V_isubN (a := T 4 (a * 3 + 2)) (b := goT T a n 2) dX7_drains_156 (go_le hnf) ?_
  refine V_iast (j := ((7 + (6 * a)) + 3) + 2) dX7_drains_157 aM_now (by omega) (by decide) ?_
  refine V_iinc_5 dX7_drains_158 (by first | exact rfl | exact True.intro) (by decide) 3 (by decide) ?_
  refine V_goto dX7_drains_161 71 (by decide) ?_
  refine V_iload_5 dX7_drains_71 ?_
  refine V_iconst 3 dX7_drains_73 (by decide) ?_
  refine V_icmp_ge_t dX7_drains_74 164 (by decide) (by decide) ?_
  refine V_abs (fun σ1 => Fm σ σ1 ∧ (∀ j, j < 107 → (∀ c s, c < T 0 5 → s < 3 → j ≠ 7 + 6 * c + 3 + s) → σ1 98 j = σ 98 j) ∧ (∀ c s, c < T 0 5 → s < 3 → σ1 98 (7 + 6 * c + 3 + s) = nI (drainT T a n 4 (c * 3 + s))) ∧ (∀ s, s < 3 → σ1 101 s = nI (goT T a n s))) ⟨⟨fun q g1 g2 g3 g4 => ?_, fun j hj => ?_⟩, ?_, ?_, ?_⟩ (fun σ1 h1 => ?_)
  · repeat (first | rw [vup_p g1] | rw [vup_p g2])
  · repeat rw [vup_ne (by omega)]
  · intro j hj hx
    have x0 := hx a 0 ha (by decide)
    have x1 := hx a 1 ha (by decide)
    have x2 := hx a 2 ha (by decide)
    repeat rw [vup_ne (by omega)]
  · intro c s hc hs
    by_cases e : c = a
    · subst e
      rw [drain_at hs]
      rcases (show s = 0 ∨ s = 1 ∨ s = 2 by omega) with rfl | rfl | rfl
      · repeat (first | rw [vup_same] | rw [vup_ne (by omega)])
      · repeat (first | rw [vup_same] | rw [vup_ne (by omega)])
      · repeat (first | rw [vup_same] | rw [vup_ne (by omega)])
    rw [drain_off (by omega)]
    repeat rw [vup_ne (by omega)]
    exact hC.1.w hc hs
  · intro s hs
    rcases (show s = 0 ∨ s = 1 ∨ s = 2 by omega) with rfl | rfl | rfl
    · repeat (first | rw [vup_same] | rw [vup_ne (by omega)])
    · repeat (first | rw [vup_same] | rw [vup_ne (by omega)])
    · repeat (first | rw [vup_same] | rw [vup_ne (by omega)])
  obtain ⟨g1, g2, g3, g4⟩ := h1
  exact V_vret dX7_drains_164 ⟨rfl, hC.next g1 (hC.1.of hn hm (fun k i h => drain_k h) g2 g3) (hI.drain ha hnf) (drain_k (by decide)) (fun _ => drain_k (by decide)), g4, g1⟩

set_option maxRecDepth 100000 in
set_option maxHeartbeats 4000000 in
theorem k_M_drains_z {G : vG} {σ : vS} {d : Nat} (hd : 2 ≤ d) {L T : nT} (hC : MC L T σ) {a n : Nat} (ha : a < T 0 5) (hnf : n ≤ fullT T a) (hz : fullT T a = 0) : Cr G yX7_drains cX7_drains 8 none d [.ref 97, .int (nI a), .int (nI n)] σ none (fun σ' => MC L (drainT T a n) σ' ∧ (∀ s, s < 3 → σ' 101 s = nI (goT T a n s)) ∧ Fm σ σ') := by
  refine Ct.ofV (by decide) (Nat.le_of_ble_eq_true rfl) rfl ?_
  show V G RX7 cX7_drains none 8 d _ 0 [some (.ref 97), some (.int (nI a)), some (.int (nI n)), none, none, none, none, none] [] _
  obtain ⟨d, rfl⟩ : ∃ e, d = e + 1 := ⟨d - 1, by omega⟩
  have hI := hC.2.2.1
  have hn := hI.nc
  have hm := hI.np
  have hfa := hI.full ha
  have s0 := sh_le (s := 0) hnf
  have s1 := sh_le (s := 1) hnf
  have s2 := sh_le (s := 2) hnf
  have ss := sh_sum (T := T) (a := a) (n := n)
  have w0 := w_le_full (T := T) (a := a) (s := 0) (by decide)
  have w1 := w_le_full (T := T) (a := a) (s := 1) (by decide)
  have w2 := w_le_full (T := T) (a := a) (s := 2) (by decide)
  have lk0 : lkT T a n 0 ≤ n := by simp only [lkT]; omega
  have lk1 : lkT T a n 1 ≤ n := by simp only [lkT]; omega
  have lk2 : lkT T a n 2 ≤ n := by simp only [lkT]; omega
  refine V_aloadn_0 dX7_drains_0 ?_
  refine V_iloadn_1 dX7_drains_1 ?_
  refine V_cv1f dX7_drains_2 cv_X7_96 rcM (Nat.le_of_ble_eq_true rfl) (k_M_fullOf (by omega) hC (by omega)) ?_
  refine V_istoren_3 dX7_drains_5 (by first | exact rfl | exact True.intro) (by decide) ?_
  refine V_iloadn_2 dX7_drains_6 ?_
  refine V_istore_4 dX7_drains_7 (by first | exact rfl | exact True.intro) (by decide) ?_
  refine V_iconst 0 dX7_drains_9 (by decide) ?_
  refine V_istore_5 dX7_drains_10 (by first | exact rfl | exact True.intro) (by decide) ?_
  refine V_iload_5 dX7_drains_12 ?_
  refine V_iconst 3 dX7_drains_14 (by decide) ?_
  refine V_icmp_ge_f dX7_drains_15 68 (by decide) (by decide) ?_
  refine V_aloadn_0 dX7_drains_18 ?_
  refine V_getR dX7_drains_19 fl_X7_19 oM_goes ?_
  refine V_iload_5 dX7_drains_22 ?_
  refine V_iloadn_3 dX7_drains_24 ?_
  refine V_if_ne_f dX7_drains_25 32 (by decide) (by rw [hz]; rfl) ?_
  refine V_iconst 0 dX7_drains_28 (by decide) ?_
  refine V_goto dX7_drains_29 49 (by decide) ?_
  refine V_topi (y := nI (shT T a n 0)) (by rw [sh_zero hz]; rfl) ?_
  refine V_iast (j := 0) dX7_drains_49 aM_goes (by decide) (by decide) ?_
  refine V_iload_4 dX7_drains_50 ?_
  refine V_aloadn_0 dX7_drains_52 ?_
  refine V_getR dX7_drains_53 fl_X7_19 oM_goes ?_
  refine V_iload_5 dX7_drains_56 ?_
  refine V_iald (j := 0) dX7_drains_58 aM_goes (by decide) (by decide) ?_
  refine V_topi (y := nI (shT T a n 0)) (by repeat (first | rw [vup_same] | rw [vup_ne (by omega)])) ?_
  refine V_isubN (a := n) (b := shT T a n 0) dX7_drains_59 (by omega) ?_
  refine V_istore_4 dX7_drains_60 (by first | exact rfl | exact True.intro) (by decide) ?_
  refine V_iinc_5 dX7_drains_62 (by first | exact rfl | exact True.intro) (by decide) 1 (by decide) ?_
  refine V_goto dX7_drains_65 12 (by decide) ?_
  refine V_iload_5 dX7_drains_12 ?_
  refine V_iconst 3 dX7_drains_14 (by decide) ?_
  refine V_icmp_ge_f dX7_drains_15 68 (by decide) (by decide) ?_
  refine V_aloadn_0 dX7_drains_18 ?_
  refine V_getR dX7_drains_19 fl_X7_19 oM_goes ?_
  refine V_iload_5 dX7_drains_22 ?_
  refine V_iloadn_3 dX7_drains_24 ?_
  refine V_if_ne_f dX7_drains_25 32 (by decide) (by rw [hz]; rfl) ?_
  refine V_iconst 0 dX7_drains_28 (by decide) ?_
  refine V_goto dX7_drains_29 49 (by decide) ?_
  refine V_topi (y := nI (shT T a n 1)) (by rw [sh_zero hz]; rfl) ?_
  refine V_iast (j := 1) dX7_drains_49 aM_goes (by decide) (by decide) ?_
  refine V_iload_4 dX7_drains_50 ?_
  refine V_aloadn_0 dX7_drains_52 ?_
  refine V_getR dX7_drains_53 fl_X7_19 oM_goes ?_
  refine V_iload_5 dX7_drains_56 ?_
  refine V_iald (j := 1) dX7_drains_58 aM_goes (by decide) (by decide) ?_
  refine V_topi (y := nI (shT T a n 1)) (by repeat (first | rw [vup_same] | rw [vup_ne (by omega)])) ?_
  refine V_isubN (a := n - (shT T a n 0)) (b := shT T a n 1) dX7_drains_59 (by omega) ?_
  refine V_istore_4 dX7_drains_60 (by first | exact rfl | exact True.intro) (by decide) ?_
  refine V_iinc_5 dX7_drains_62 (by first | exact rfl | exact True.intro) (by decide) 2 (by decide) ?_
  refine V_goto dX7_drains_65 12 (by decide) ?_
  refine V_iload_5 dX7_drains_12 ?_
  refine V_iconst 3 dX7_drains_14 (by decide) ?_
  refine V_icmp_ge_f dX7_drains_15 68 (by decide) (by decide) ?_
  refine V_aloadn_0 dX7_drains_18 ?_
  refine V_getR dX7_drains_19 fl_X7_19 oM_goes ?_
  refine V_iload_5 dX7_drains_22 ?_
  refine V_iloadn_3 dX7_drains_24 ?_
  refine V_if_ne_f dX7_drains_25 32 (by decide) (by rw [hz]; rfl) ?_
  refine V_iconst 0 dX7_drains_28 (by decide) ?_
  refine V_goto dX7_drains_29 49 (by decide) ?_
  refine V_topi (y := nI (shT T a n 2)) (by rw [sh_zero hz]; rfl) ?_
  refine V_iast (j := 2) dX7_drains_49 aM_goes (by decide) (by decide) ?_
  refine V_iload_4 dX7_drains_50 ?_
  refine V_aloadn_0 dX7_drains_52 ?_
  refine V_getR dX7_drains_53 fl_X7_19 oM_goes ?_
  refine V_iload_5 dX7_drains_56 ?_
  refine V_iald (j := 2) dX7_drains_58 aM_goes (by decide) (by decide) ?_
  refine V_topi (y := nI (shT T a n 2)) (by repeat (first | rw [vup_same] | rw [vup_ne (by omega)])) ?_
  refine V_isubN (a := (n - (shT T a n 0)) - (shT T a n 1)) (b := shT T a n 2) dX7_drains_59 (by omega) ?_
  refine V_istore_4 dX7_drains_60 (by first | exact rfl | exact True.intro) (by decide) ?_
  refine V_iinc_5 dX7_drains_62 (by first | exact rfl | exact True.intro) (by decide) 3 (by decide) ?_
  refine V_goto dX7_drains_65 12 (by decide) ?_
  refine V_iload_5 dX7_drains_12 ?_
  refine V_iconst 3 dX7_drains_14 (by decide) ?_
  refine V_icmp_ge_t dX7_drains_15 68 (by decide) (by decide) ?_
  refine V_lo (lo' := [some (.ref 97), some (.int (nI a)), some (.int (nI n)), some (.int (nI (fullT T a))), some (.int (nI (lkT T a n 0))), some (.int 3), none, none]) rfl ?_
  refine V_iconst 0 dX7_drains_68 (by decide) ?_
  refine V_istore_5 dX7_drains_69 (by first | exact rfl | exact True.intro) (by decide) ?_
  refine V_iload_5 dX7_drains_71 ?_
  refine V_iconst 3 dX7_drains_73 (by decide) ?_
  refine V_icmp_ge_f dX7_drains_74 164 (by decide) (by decide) ?_
  refine V_aloadn_0 dX7_drains_77 ?_
  refine V_iloadn_1 dX7_drains_78 ?_
  refine V_iconst 3 dX7_drains_79 (by decide) ?_
  refine V_iload_5 dX7_drains_80 ?_
  refine V_iadd dX7_drains_82 ?_
  refine V_topi (y := 3) (by decide) ?_
  refine V_cv2f dX7_drains_83 cv_X7_92 rcM (Nat.le_of_ble_eq_true rfl) (k_M_of (c := a) (w := 3) (v := nI (T 4 (a * 3 + 0))) (by omega) (by (repeat rw [vup_ne (by omega)]); exact hC.1.w (s := 0) (by omega) (by decide))) ?_
  refine V_aloadn_0 dX7_drains_86 ?_
  refine V_getR dX7_drains_87 fl_X7_19 oM_goes ?_
  refine V_iload_5 dX7_drains_90 ?_
  refine V_iald (j := 0) dX7_drains_92 aM_goes (by decide) (by decide) ?_
  refine V_topi (y := nI (shT T a n 0)) (by repeat (first | rw [vup_same] | rw [vup_ne (by omega)])) ?_
  refine V_isubN (a := T 4 (a * 3 + 0)) (b := shT T a n 0) dX7_drains_93 (by omega) ?_
  refine V_istore_6 dX7_drains_94 (by first | exact rfl | exact True.intro) (by decide) ?_
  refine V_iload_4 dX7_drains_96 ?_
  refine V_iload_6 dX7_drains_98 ?_
  refine dm_drains (by omega) (by omega) ?_
  refine V_istore_7 dX7_drains_110 (by first | exact rfl | exact True.intro) (by decide) ?_
  refine V_aloadn_0 dX7_drains_112 ?_
  refine V_getR dX7_drains_113 fl_X7_19 oM_goes ?_
  refine V_iload_5 dX7_drains_116 ?_
  refine V_dup2 dX7_drains_118 rfl rfl ?_
  refine V_iald (j := 0) dX7_drains_119 aM_goes (by decide) (by decide) ?_
  refine V_topi (y := nI (shT T a n 0)) (by repeat (first | rw [vup_same] | rw [vup_ne (by omega)])) ?_
  refine V_iload_7 dX7_drains_120 ?_
  refine V_iaddN (a := shT T a n 0) (b := min (lkT T a n 0) ((T 4 (a * 3 + 0)) - (shT T a n 0))) dX7_drains_122 ?_
  refine V_topi (y := nI (goT T a n 0)) rfl ?_
  refine V_iast (j := 0) dX7_drains_123 aM_goes (by decide) (by decide) ?_
  refine V_iload_4 dX7_drains_124 ?_
  refine V_iload_7 dX7_drains_126 ?_
  refine V_isubN (a := lkT T a n 0) (b := min (lkT T a n 0) ((T 4 (a * 3 + 0)) - (shT T a n 0))) dX7_drains_128 (by omega) ?_
  refine V_istore_4 dX7_drains_129 (by first | exact rfl | exact True.intro) (by decide) ?_
  refine V_lo (lo' := [some (.ref 97), some (.int (nI a)), some (.int (nI n)), some (.int (nI (fullT T a))), some (.int (nI (lkT T a n 1))), some (.int 0), some (.int (nI ((T 4 (a * 3 + 0)) - (shT T a n 0)))), some (.int (nI (min (lkT T a n 0) ((T 4 (a * 3 + 0)) - (shT T a n 0)))))]) rfl ?_
  refine V_aloadn_0 dX7_drains_131 ?_
  refine V_getR dX7_drains_132 fl_X7_9 oM_now ?_
  refine V_bipush 7 dX7_drains_135 (by decide) ?_
  refine V_bipush 6 dX7_drains_137 (by decide) ?_
  refine V_iloadn_1 dX7_drains_139 ?_
  refine V_imulN (a := 6) (b := a) dX7_drains_140 ?_
  refine V_iaddN (a := 7) (b := 6 * a) dX7_drains_141 ?_
  refine V_iconst 3 dX7_drains_142 (by decide) ?_
  refine V_iaddN (a := 7 + (6 * a)) (b := 3) dX7_drains_143 ?_
  refine V_iload_5 dX7_drains_144 ?_
  refine V_iaddN (a := (7 + (6 * a)) + 3) (b := 0) dX7_drains_146 ?_
  refine V_dup2 dX7_drains_147 rfl rfl ?_
  refine V_iald (j := ((7 + (6 * a)) + 3) + 0) dX7_drains_148 aM_now (by omega) (by decide) ?_
  refine V_topi (y := nI (T 4 (a * 3 + 0))) (by (repeat rw [vup_ne (by omega)]); exact hC.1.w (s := 0) (by omega) (by decide)) ?_
  refine V_aloadn_0 dX7_drains_149 ?_
  refine V_getR dX7_drains_150 fl_X7_19 oM_goes ?_
  refine V_iload_5 dX7_drains_153 ?_
  refine V_iald (j := 0) dX7_drains_155 aM_goes (by decide) (by decide) ?_
  refine V_topi (y := nI (goT T a n 0)) (by repeat (first | rw [vup_same] | rw [vup_ne (by omega)])) ?_
  refine V_isubN (a := T 4 (a * 3 + 0)) (b := goT T a n 0) dX7_drains_156 (go_le hnf) ?_
  refine V_iast (j := ((7 + (6 * a)) + 3) + 0) dX7_drains_157 aM_now (by omega) (by decide) ?_
  refine V_iinc_5 dX7_drains_158 (by first | exact rfl | exact True.intro) (by decide) 1 (by decide) ?_
  refine V_goto dX7_drains_161 71 (by decide) ?_
  refine V_iload_5 dX7_drains_71 ?_
  refine V_iconst 3 dX7_drains_73 (by decide) ?_
  refine V_icmp_ge_f dX7_drains_74 164 (by decide) (by decide) ?_
  refine V_aloadn_0 dX7_drains_77 ?_
  refine V_iloadn_1 dX7_drains_78 ?_
  refine V_iconst 3 dX7_drains_79 (by decide) ?_
  refine V_iload_5 dX7_drains_80 ?_
  refine V_iadd dX7_drains_82 ?_
  refine V_topi (y := 4) (by decide) ?_
  refine V_cv2f dX7_drains_83 cv_X7_92 rcM (Nat.le_of_ble_eq_true rfl) (k_M_of (c := a) (w := 4) (v := nI (T 4 (a * 3 + 1))) (by omega) (by (repeat rw [vup_ne (by omega)]); exact hC.1.w (s := 1) (by omega) (by decide))) ?_
  refine V_aloadn_0 dX7_drains_86 ?_
  refine V_getR dX7_drains_87 fl_X7_19 oM_goes ?_
  refine V_iload_5 dX7_drains_90 ?_
  refine V_iald (j := 1) dX7_drains_92 aM_goes (by decide) (by decide) ?_
  refine V_topi (y := nI (shT T a n 1)) (by repeat (first | rw [vup_same] | rw [vup_ne (by omega)])) ?_
  refine V_isubN (a := T 4 (a * 3 + 1)) (b := shT T a n 1) dX7_drains_93 (by omega) ?_
  refine V_istore_6 dX7_drains_94 (by first | exact rfl | exact True.intro) (by decide) ?_
  refine V_iload_4 dX7_drains_96 ?_
  refine V_iload_6 dX7_drains_98 ?_
  refine dm_drains (by omega) (by omega) ?_
  refine V_istore_7 dX7_drains_110 (by first | exact rfl | exact True.intro) (by decide) ?_
  refine V_aloadn_0 dX7_drains_112 ?_
  refine V_getR dX7_drains_113 fl_X7_19 oM_goes ?_
  refine V_iload_5 dX7_drains_116 ?_
  refine V_dup2 dX7_drains_118 rfl rfl ?_
  refine V_iald (j := 1) dX7_drains_119 aM_goes (by decide) (by decide) ?_
  refine V_topi (y := nI (shT T a n 1)) (by repeat (first | rw [vup_same] | rw [vup_ne (by omega)])) ?_
  refine V_iload_7 dX7_drains_120 ?_
  refine V_iaddN (a := shT T a n 1) (b := min (lkT T a n 1) ((T 4 (a * 3 + 1)) - (shT T a n 1))) dX7_drains_122 ?_
  refine V_topi (y := nI (goT T a n 1)) rfl ?_
  refine V_iast (j := 1) dX7_drains_123 aM_goes (by decide) (by decide) ?_
  refine V_iload_4 dX7_drains_124 ?_
  refine V_iload_7 dX7_drains_126 ?_
  refine V_isubN (a := lkT T a n 1) (b := min (lkT T a n 1) ((T 4 (a * 3 + 1)) - (shT T a n 1))) dX7_drains_128 (by omega) ?_
  refine V_istore_4 dX7_drains_129 (by first | exact rfl | exact True.intro) (by decide) ?_
  refine V_lo (lo' := [some (.ref 97), some (.int (nI a)), some (.int (nI n)), some (.int (nI (fullT T a))), some (.int (nI (lkT T a n 2))), some (.int 1), some (.int (nI ((T 4 (a * 3 + 1)) - (shT T a n 1)))), some (.int (nI (min (lkT T a n 1) ((T 4 (a * 3 + 1)) - (shT T a n 1)))))]) rfl ?_
  refine V_aloadn_0 dX7_drains_131 ?_
  refine V_getR dX7_drains_132 fl_X7_9 oM_now ?_
  refine V_bipush 7 dX7_drains_135 (by decide) ?_
  refine V_bipush 6 dX7_drains_137 (by decide) ?_
  refine V_iloadn_1 dX7_drains_139 ?_
  refine V_imulN (a := 6) (b := a) dX7_drains_140 ?_
  refine V_iaddN (a := 7) (b := 6 * a) dX7_drains_141 ?_
  refine V_iconst 3 dX7_drains_142 (by decide) ?_
  refine V_iaddN (a := 7 + (6 * a)) (b := 3) dX7_drains_143 ?_
  refine V_iload_5 dX7_drains_144 ?_
  refine V_iaddN (a := (7 + (6 * a)) + 3) (b := 1) dX7_drains_146 ?_
  refine V_dup2 dX7_drains_147 rfl rfl ?_
  refine V_iald (j := ((7 + (6 * a)) + 3) + 1) dX7_drains_148 aM_now (by omega) (by decide) ?_
  refine V_topi (y := nI (T 4 (a * 3 + 1))) (by (repeat rw [vup_ne (by omega)]); exact hC.1.w (s := 1) (by omega) (by decide)) ?_
  refine V_aloadn_0 dX7_drains_149 ?_
  refine V_getR dX7_drains_150 fl_X7_19 oM_goes ?_
  refine V_iload_5 dX7_drains_153 ?_
  refine V_iald (j := 1) dX7_drains_155 aM_goes (by decide) (by decide) ?_
  refine V_topi (y := nI (goT T a n 1)) (by repeat (first | rw [vup_same] | rw [vup_ne (by omega)])) ?_
  refine V_isubN (a := T 4 (a * 3 + 1)) (b := goT T a n 1) dX7_drains_156 (go_le hnf) ?_
  refine V_iast (j := ((7 + (6 * a)) + 3) + 1) dX7_drains_157 aM_now (by omega) (by decide) ?_
  refine V_iinc_5 dX7_drains_158 (by first | exact rfl | exact True.intro) (by decide) 2 (by decide) ?_
  refine V_goto dX7_drains_161 71 (by decide) ?_
  refine V_iload_5 dX7_drains_71 ?_
  refine V_iconst 3 dX7_drains_73 (by decide) ?_
  refine V_icmp_ge_f dX7_drains_74 164 (by decide) (by decide) ?_
  refine V_aloadn_0 dX7_drains_77 ?_
  refine V_iloadn_1 dX7_drains_78 ?_
  refine V_iconst 3 dX7_drains_79 (by decide) ?_
  refine V_iload_5 dX7_drains_80 ?_
  refine V_iadd dX7_drains_82 ?_
  refine V_topi (y := 5) (by decide) ?_
  refine V_cv2f dX7_drains_83 cv_X7_92 rcM (Nat.le_of_ble_eq_true rfl) (k_M_of (c := a) (w := 5) (v := nI (T 4 (a * 3 + 2))) (by omega) (by (repeat rw [vup_ne (by omega)]); exact hC.1.w (s := 2) (by omega) (by decide))) ?_
  refine V_aloadn_0 dX7_drains_86 ?_
  refine V_getR dX7_drains_87 fl_X7_19 oM_goes ?_
  refine V_iload_5 dX7_drains_90 ?_
  refine V_iald (j := 2) dX7_drains_92 aM_goes (by decide) (by decide) ?_
  refine V_topi (y := nI (shT T a n 2)) (by repeat (first | rw [vup_same] | rw [vup_ne (by omega)])) ?_
  refine V_isubN (a := T 4 (a * 3 + 2)) (b := shT T a n 2) dX7_drains_93 (by omega) ?_
  refine V_istore_6 dX7_drains_94 (by first | exact rfl | exact True.intro) (by decide) ?_
  refine V_iload_4 dX7_drains_96 ?_
  refine V_iload_6 dX7_drains_98 ?_
  refine dm_drains (by omega) (by omega) ?_
  refine V_istore_7 dX7_drains_110 (by first | exact rfl | exact True.intro) (by decide) ?_
  refine V_aloadn_0 dX7_drains_112 ?_
  refine V_getR dX7_drains_113 fl_X7_19 oM_goes ?_
  refine V_iload_5 dX7_drains_116 ?_
  refine V_dup2 dX7_drains_118 rfl rfl ?_
  refine V_iald (j := 2) dX7_drains_119 aM_goes (by decide) (by decide) ?_
  refine V_topi (y := nI (shT T a n 2)) (by repeat (first | rw [vup_same] | rw [vup_ne (by omega)])) ?_
  refine V_iload_7 dX7_drains_120 ?_
  refine V_iaddN (a := shT T a n 2) (b := min (lkT T a n 2) ((T 4 (a * 3 + 2)) - (shT T a n 2))) dX7_drains_122 ?_
  refine V_topi (y := nI (goT T a n 2)) rfl ?_
  refine V_iast (j := 2) dX7_drains_123 aM_goes (by decide) (by decide) ?_
  refine V_iload_4 dX7_drains_124 ?_
  refine V_iload_7 dX7_drains_126 ?_
  refine V_isubN (a := lkT T a n 2) (b := min (lkT T a n 2) ((T 4 (a * 3 + 2)) - (shT T a n 2))) dX7_drains_128 (by omega) ?_
  refine V_istore_4 dX7_drains_129 (by first | exact rfl | exact True.intro) (by decide) ?_
  refine V_lo (lo' := [some (.ref 97), some (.int (nI a)), some (.int (nI n)), some (.int (nI (fullT T a))), some (.int (nI (lkT T a n 3))), some (.int 2), some (.int (nI ((T 4 (a * 3 + 2)) - (shT T a n 2)))), some (.int (nI (min (lkT T a n 2) ((T 4 (a * 3 + 2)) - (shT T a n 2)))))]) rfl ?_
  refine V_aloadn_0 dX7_drains_131 ?_
  refine V_getR dX7_drains_132 fl_X7_9 oM_now ?_
  refine V_bipush 7 dX7_drains_135 (by decide) ?_
  refine V_bipush 6 dX7_drains_137 (by decide) ?_
  refine V_iloadn_1 dX7_drains_139 ?_
  refine V_imulN (a := 6) (b := a) dX7_drains_140 ?_
  refine V_iaddN (a := 7) (b := 6 * a) dX7_drains_141 ?_
  refine V_iconst 3 dX7_drains_142 (by decide) ?_
  refine V_iaddN (a := 7 + (6 * a)) (b := 3) dX7_drains_143 ?_
  refine V_iload_5 dX7_drains_144 ?_
  refine V_iaddN (a := (7 + (6 * a)) + 3) (b := 2) dX7_drains_146 ?_
  refine V_dup2 dX7_drains_147 rfl rfl ?_
  refine V_iald (j := ((7 + (6 * a)) + 3) + 2) dX7_drains_148 aM_now (by omega) (by decide) ?_
  refine V_topi (y := nI (T 4 (a * 3 + 2))) (by (repeat rw [vup_ne (by omega)]); exact hC.1.w (s := 2) (by omega) (by decide)) ?_
  refine V_aloadn_0 dX7_drains_149 ?_
  refine V_getR dX7_drains_150 fl_X7_19 oM_goes ?_
  refine V_iload_5 dX7_drains_153 ?_
  refine V_iald (j := 2) dX7_drains_155 aM_goes (by decide) (by decide) ?_
  refine V_topi (y := nI (goT T a n 2)) (by repeat (first | rw [vup_same] | rw [vup_ne (by omega)])) ?_
  refine V_isubN (a := T 4 (a * 3 + 2)) (b := goT T a n 2) dX7_drains_156 (go_le hnf) ?_
  refine V_iast (j := ((7 + (6 * a)) + 3) + 2) dX7_drains_157 aM_now (by omega) (by decide) ?_
  refine V_iinc_5 dX7_drains_158 (by first | exact rfl | exact True.intro) (by decide) 3 (by decide) ?_
  refine V_goto dX7_drains_161 71 (by decide) ?_
  refine V_iload_5 dX7_drains_71 ?_
  refine V_iconst 3 dX7_drains_73 (by decide) ?_
  refine V_icmp_ge_t dX7_drains_74 164 (by decide) (by decide) ?_
  refine V_abs (fun σ1 => Fm σ σ1 ∧ (∀ j, j < 107 → (∀ c s, c < T 0 5 → s < 3 → j ≠ 7 + 6 * c + 3 + s) → σ1 98 j = σ 98 j) ∧ (∀ c s, c < T 0 5 → s < 3 → σ1 98 (7 + 6 * c + 3 + s) = nI (drainT T a n 4 (c * 3 + s))) ∧ (∀ s, s < 3 → σ1 101 s = nI (goT T a n s))) ⟨⟨fun q g1 g2 g3 g4 => ?_, fun j hj => ?_⟩, ?_, ?_, ?_⟩ (fun σ1 h1 => ?_)
  · repeat (first | rw [vup_p g1] | rw [vup_p g2])
  · repeat rw [vup_ne (by omega)]
  · intro j hj hx
    have x0 := hx a 0 ha (by decide)
    have x1 := hx a 1 ha (by decide)
    have x2 := hx a 2 ha (by decide)
    repeat rw [vup_ne (by omega)]
  · intro c s hc hs
    by_cases e : c = a
    · subst e
      rw [drain_at hs]
      rcases (show s = 0 ∨ s = 1 ∨ s = 2 by omega) with rfl | rfl | rfl
      · repeat (first | rw [vup_same] | rw [vup_ne (by omega)])
      · repeat (first | rw [vup_same] | rw [vup_ne (by omega)])
      · repeat (first | rw [vup_same] | rw [vup_ne (by omega)])
    rw [drain_off (by omega)]
    repeat rw [vup_ne (by omega)]
    exact hC.1.w hc hs
  · intro s hs
    rcases (show s = 0 ∨ s = 1 ∨ s = 2 by omega) with rfl | rfl | rfl
    · repeat (first | rw [vup_same] | rw [vup_ne (by omega)])
    · repeat (first | rw [vup_same] | rw [vup_ne (by omega)])
    · repeat (first | rw [vup_same] | rw [vup_ne (by omega)])
  obtain ⟨g1, g2, g3, g4⟩ := h1
  exact V_vret dX7_drains_164 ⟨rfl, hC.next g1 (hC.1.of hn hm (fun k i h => drain_k h) g2 g3) (hI.drain ha hnf) (drain_k (by decide)) (fun _ => drain_k (by decide)), g4, g1⟩

theorem k_M_drains {G : vG} {σ : vS} {d : Nat} (hd : 2 ≤ d) {L T : nT} (hC : MC L T σ) {a n : Nat} (ha : a < T 0 5) (hnf : n ≤ fullT T a) : Cr G yX7_drains cX7_drains 8 none d [.ref 97, .int (nI a), .int (nI n)] σ none (fun σ' => MC L (drainT T a n) σ' ∧ (∀ s, s < 3 → σ' 101 s = nI (goT T a n s)) ∧ Fm σ σ') := by
  rcases Nat.eq_zero_or_pos (fullT T a) with h | h
  · exact k_M_drains_z hd hC ha hnf h
  · exact k_M_drains_p hd hC ha hnf h
