/-! ===== thinking ===== -/
def BK (σ0 σ : vS) : Prop := (∀ j, j < 107 → σ 102 j = σ0 98 j) ∧ (∀ j, 107 ≤ j → σ 98 j = σ0 98 j) ∧ ∀ q, q ≠ 98 → q ≠ 101 → q ≠ 102 → q ≠ 103 → q ≠ 110 → q ≠ 111 → σ q = σ0 q
theorem BK.think {σ0 σ : vS} (h : ∀ q, q ≠ 101 → q ≠ 102 → q ≠ 103 → q ≠ 110 → q ≠ 111 → σ q = σ0 q) : BK σ0 (vcp σ 98 102 0 0 107) := by
  refine ⟨fun j hj => ?_, fun j hj => ?_, fun q a b c d e f => ?_⟩
  · rw [vcp0 hj, h 98 (by decide) (by decide) (by decide) (by decide) (by decide)]
  · rw [vcp_p (by decide), h 98 (by decide) (by decide) (by decide) (by decide) (by decide)]
  · rw [vcp_p c, h q b c d e f]
theorem BK.fm {σ0 σ σ' : vS} (h : BK σ0 σ) (hf : Fm σ σ') : BK σ0 σ' := by
  refine ⟨fun j hj => ?_, fun j hj => ?_, fun q a b c d e f => ?_⟩
  · rw [hf.1 102 (by decide) (by decide) (by decide) (by decide)]; exact h.1 j hj
  · rw [hf.2 j hj]; exact h.2.1 j hj
  · rw [hf.1 q a b e f]; exact h.2.2 q a b c d e f
theorem BK.put98 {σ0 σ : vS} (h : BK σ0 σ) : vcp σ 102 98 0 0 107 98 = σ0 98 := by
  funext j
  by_cases hj : j < 107
  · rw [vcp0 hj]; exact h.1 j hj
  · unfold vcp
    rw [if_neg (by omega)]
    exact h.2.1 j (by omega)
theorem BK.put {σ0 σ : vS} (h : BK σ0 σ) : BK σ0 (vcp σ 102 98 0 0 107) := by
  refine ⟨fun j hj => ?_, fun j hj => ?_, fun q a b c d e f => ?_⟩
  · rw [vcp_p (by decide)]; exact h.1 j hj
  · rw [h.put98]
  · rw [vcp_p a]; exact h.2.2 q a b c d e f
theorem BK.fi {σ0 σ : vS} (h : BK σ0 σ) (h98 : σ 98 = σ0 98) : FI σ0 σ := fun q j hr => by
  by_cases e : q = 98
  · rw [e, h98]
  · unfold relP at hr
    rw [h.2.2 q e (by omega) (by omega) (by omega) (by omega) (by omega)]
theorem BK.fin {σ0 σ : vS} (h : BK σ0 σ) : FI σ0 (vcp σ 102 98 0 0 107) := h.put.fi h.put98
theorem MC.e98 {L T : nT} {σ σ' : vS} (h : MC L T σ) (e : σ' 98 = σ 98) : MC L T σ' := ⟨h.1.congr (fun j _ => by rw [e]) h.2.2.1.nc h.2.2.1.np, h.2.1.congr (fun j _ => by rw [e]), h.2.2⟩
theorem MC.thk {L T : nT} {σ : vS} (h : MC L T σ) : MC L T (vcp σ 98 102 0 0 107) := h.e98 (vcp_p (by decide))
theorem MC.put {L T : nT} {σ0 σ : vS} (h : MC L T σ0) (k : BK σ0 σ) : MC L T (vcp σ 102 98 0 0 107) := h.e98 k.put98

set_option maxRecDepth 100000 in
set_option maxHeartbeats 4000000 in
theorem k_C_think {G : vG} {σ : vS} {d : Nat} (hd : 2 ≤ d) {L T : nT} {N : Nat} (hC : TC L N 61 T σ) (hm12 : T 0 10 ≤ 12) : Cr G yX6_thinkFromNow cX6_thinkFromNow 1 none d [.ref 0] σ none (fun σ' => TC L N 85 T σ' ∧ Fr 85 σ σ') := by
  refine Ct.ofV (by decide) (Nat.le_of_ble_eq_true rfl) rfl ?_
  show V G RX6 cX6_thinkFromNow none 1 d _ 0 [some (.ref 0)] [] _
  obtain ⟨d, rfl⟩ : ∃ e, d = e + 1 := ⟨d - 1, by omega⟩
  refine V_aloadn_0 dX6_thinkFromNow_0 ?_
  refine V_getR dX6_thinkFromNow_1 fl_X6_53 oC_thought ?_
  refine V_aloadn_0 dX6_thinkFromNow_4 ?_
  refine V_getR dX6_thinkFromNow_5 fl_X6_46 oC_now ?_
  refine V_cv1n dX6_thinkFromNow_8 cv_X6_316 (rcT tw85) (Nat.le_of_ble_eq_true rfl) (k_T_become (by omega) tw85 (by decide) hC hm12) (fun σ' h5 => ?_)
  exact V_vret dX6_thinkFromNow_11 ⟨rfl, h5⟩

set_option maxRecDepth 100000 in
set_option maxHeartbeats 4000000 in
theorem k_C_thinkC {G : vG} {σ : vS} {d : Nat} (hd : 2 ≤ d) {L T : nT} {N : Nat} (hC : TC L N 61 T σ) (hm12 : T 0 10 ≤ 12) {p : Nat} (hp : p < T 0 10) : Cr G yX6_thinkWithCork cX6_thinkWithCork 2 none d [.ref 0, .int (nI p)] σ none (fun σ' => TC L N 85 (Tup T 9 p 1) σ' ∧ Fr 85 σ σ') := by
  refine Ct.ofV (by decide) (Nat.le_of_ble_eq_true rfl) rfl ?_
  show V G RX6 cX6_thinkWithCork none 2 d _ 0 [some (.ref 0), some (.int (nI p))] [] _
  obtain ⟨d, rfl⟩ : ∃ e, d = e + 1 := ⟨d - 1, by omega⟩
  refine V_aloadn_0 dX6_thinkWithCork_0 ?_
  refine V_getR dX6_thinkWithCork_1 fl_X6_53 oC_thought ?_
  refine V_aloadn_0 dX6_thinkWithCork_4 ?_
  refine V_getR dX6_thinkWithCork_5 fl_X6_46 oC_now ?_
  refine V_cv1n dX6_thinkWithCork_8 cv_X6_316 (rcT tw85) (Nat.le_of_ble_eq_true rfl) (k_T_become (by omega) tw85 (by decide) hC hm12) (fun σ' h5 => ?_)
  refine V_aloadn_0 dX6_thinkWithCork_11 ?_
  refine V_getR dX6_thinkWithCork_12 fl_X6_53 oC_thought ?_
  refine V_getR dX6_thinkWithCork_15 fl_X6_144 (oT_corked tw85) ?_
  refine V_iloadn_1 dX6_thinkWithCork_18 ?_
  refine V_iconst 1 dX6_thinkWithCork_19 (by decide) ?_
  refine V_iast (j := p) dX6_thinkWithCork_20 (aT_corked tw85) (by omega) (by decide) ?_
  exact V_vret dX6_thinkWithCork_21 ⟨rfl, (h5.1.cork (p := p) (x := 1) (by decide)).1, h5.2.tr (h5.1.cork (p := p) (x := 1) (by decide)).2⟩

set_option maxRecDepth 100000 in
set_option maxHeartbeats 4000000 in
theorem k_C_thinkP {G : vG} {σ : vS} {d : Nat} (hd : 2 ≤ d) {L T : nT} {N : Nat} (hC : TC L N 61 T σ) (hm12 : T 0 10 ≤ 12) {a b : Nat} (ha : a < T 0 5) (hb : b < T 0 5) (hab : a ≠ b) : Cr G yX6_thinkWithPipe cX6_thinkWithPipe 3 none d [.ref 0, .int (nI a), .int (nI b)] σ none (fun σ' => TC L N 85 (addPT T a b 3) σ' ∧ Fr 85 σ σ') := by
  refine Ct.ofV (by decide) (Nat.le_of_ble_eq_true rfl) rfl ?_
  show V G RX6 cX6_thinkWithPipe none 3 d _ 0 [some (.ref 0), some (.int (nI a)), some (.int (nI b))] [] _
  obtain ⟨d, rfl⟩ : ∃ e, d = e + 1 := ⟨d - 1, by omega⟩
  refine V_aloadn_0 dX6_thinkWithPipe_0 ?_
  refine V_getR dX6_thinkWithPipe_1 fl_X6_53 oC_thought ?_
  refine V_aloadn_0 dX6_thinkWithPipe_4 ?_
  refine V_getR dX6_thinkWithPipe_5 fl_X6_46 oC_now ?_
  refine V_cv1n dX6_thinkWithPipe_8 cv_X6_316 (rcT tw85) (Nat.le_of_ble_eq_true rfl) (k_T_become (by omega) tw85 (by decide) hC hm12) (fun σ' h5 => ?_)
  refine V_aloadn_0 dX6_thinkWithPipe_11 ?_
  refine V_getR dX6_thinkWithPipe_12 fl_X6_53 oC_thought ?_
  refine V_iloadn_1 dX6_thinkWithPipe_15 ?_
  refine V_iloadn_2 dX6_thinkWithPipe_16 ?_
  refine V_iconst 3 dX6_thinkWithPipe_17 (by decide) ?_
  refine V_cv3r dX6_thinkWithPipe_18 cv_X6_129 (rcT tw85) (Nat.le_of_ble_eq_true rfl) (k_T_addPipe h5.1 (by omega) ha hb hab (by decide)) (fun σ' h6 => ?_)
  refine V_pop dX6_thinkWithPipe_21 rfl ?_
  exact V_vret dX6_thinkWithPipe_22 ⟨rfl, h6.1, h5.2.tr h6.2⟩

def bhN (L T : nT) (n w : Nat) : Nat := if w = 0 then sumT (hoursT L n T) (hoursT L n T 0 5) else if w = 1 then hoursT L n T 0 11 else fullT (hoursT L n T) (w - 2)
theorem has2 {w : Int32} {n : Nat} (hn : n ≤ 8) : (inI w 0 1 ∨ hasI (w - 2) n) ↔ hasI w (n + 2) := by
  rw [hasI_iff (by omega), hasI_iff (by omega), show inI w 0 1 ↔ ∃ j, j ≤ 1 ∧ w = nI j from inI_iff (b := 1) (by decide)]
  constructor
  · rintro (⟨j, hj, e⟩ | ⟨j, hj, e⟩)
    · exact ⟨j, by omega, e⟩
    · refine ⟨j + 2, by omega, ?_⟩
      rw [← nI_add, ← e]
      have : (nI 2 : Int32) = 2 := by decide
      rw [this]
      exact (Int32.sub_add_cancel w 2).symm
  · rintro ⟨j, hj, e⟩
    by_cases h : j ≤ 1
    · exact Or.inl ⟨j, h, e⟩
    · refine Or.inr ⟨j - 2, by omega, ?_⟩
      rw [e]
      exact pk_sub (a := j) (b := 2) (by omega)

set_option maxRecDepth 100000 in
set_option maxHeartbeats 4000000 in
theorem c_behind {G : vG} {σ : vS} {d : Nat} (hd : 6 ≤ d) {L T : nT} {N : Nat} (hC : TC L N 61 T σ) (hm12 : T 0 10 ≤ 12) {n w : Nat} (hn1 : n ≤ 100) (hw : w < T 0 5 + 2) : Cr G yX6_behind cX6_behind 3 (some .int) d [.ref 0, .int (nI n), .int (nI w)] σ (some (.int (nI (bhN L T n w)))) (fun σ' => FI σ σ') := by
  refine Ct.ofV (by decide) (Nat.le_of_ble_eq_true rfl) rfl ?_
  show V G RX6 cX6_behind (some .int) 3 d _ 0 [some (.ref 0), some (.int (nI n)), some (.int (nI w))] [] _
  obtain ⟨d, rfl⟩ : ∃ e, d = e + 1 := ⟨d - 1, by omega⟩
  obtain ⟨ht, hH, hI, hL, hLI, hN, hN2⟩ := id hC
  have hT := hH.1
  have hn := hI.nc
  have hm := hI.np
  have hIP := hI
  refine V_iloadn_1 dX6_behind_0 ?_
  refine V_iconst 0 dX6_behind_1 (by decide) ?_
  refine V_bipush 100 dX6_behind_2 (by decide) ?_
  refine V_cs3f dX6_behind_4 cs_X6_108 (Nat.le_of_ble_eq_true rfl) k_C_within ?_
  refine V_ifB_eq dX6_behind_7 32 (by decide) (fun h7 => ?_) (fun h7 => ?_)
  · exact absurd (inN (a := 0) (b := 100) (by omega) hn1 (by decide)) h7
  · refine V_iloadn_2 dX6_behind_10 ?_
    refine V_iconst 0 dX6_behind_11 (by decide) ?_
    refine V_iconst 1 dX6_behind_12 (by decide) ?_
    refine V_cs3f dX6_behind_13 cs_X6_108 (Nat.le_of_ble_eq_true rfl) k_C_within ?_
    refine V_ifB_ne dX6_behind_16 35 (by decide) (fun h16 => ?_) (fun h16 => ?_)
    · refine V_aloadn_0 dX6_behind_35 ?_
      refine V_cv0n dX6_behind_36 cv_X6_183 rcC (Nat.le_of_ble_eq_true rfl) (k_C_think (by omega) hC (by omega)) (fun σ h5 => ?_)
      have hF := h5.2
      have hP := h5.1
      replace hC := hC.other h5.2 tw85 (by decide)
      have hT := hC.2.1.1
      have hH := hC.2.1
      refine V_aloadn_0 dX6_behind_39 ?_
      refine V_getR dX6_behind_40 fl_X6_53 oC_thought ?_
      refine V_iloadn_1 dX6_behind_43 ?_
      refine V_cv1n dX6_behind_44 cv_X6_170 (rcT tw85) (Nat.le_of_ble_eq_true rfl) (k_T_passHours (by omega) hP (by omega)) (fun σ h6 => ?_)
      replace hF := hF.tr h6.2
      replace hP := h6.1
      replace hC := hC.other h6.2 tw85 (by decide)
      have hT := hC.2.1.1
      have hH := hC.2.1
      have hX := hIP.hours (L := L) n
      obtain ⟨U, hUe⟩ : ∃ U, U = hoursT L n T := ⟨_, rfl⟩
      rw [← hUe] at hP hX
      have hU := hP.2.1.1
      have hHU := hP.2.1
      have hIU := hP.2.2.1
      have u5 := hX.2 0 5 (by decide) (by omega)
      have u10 := hX.2 0 10 (by decide) (by omega)
      refine V_iloadn_2 dX6_behind_47 ?_
      refine V_ifN_ne (a := w) dX6_behind_48 59 (by decide) (by omega) (fun h48 => ?_) (fun h48 => ?_)
      · refine V_iloadn_2 dX6_behind_59 ?_
        refine V_iconst 1 dX6_behind_60 (by decide) ?_
        refine V_icmpN_ne (a := w) (b := 1) dX6_behind_61 74 (by decide) (by omega) (by omega) (fun h61 => ?_) (fun h61 => ?_)
        · refine V_aloadn_0 dX6_behind_74 ?_
          refine V_getR dX6_behind_75 fl_X6_53 oC_thought ?_
          refine V_iloadn_2 dX6_behind_78 ?_
          refine V_iconst 2 dX6_behind_79 (by decide) ?_
          refine V_isubN (a := w) (b := 2) dX6_behind_80 (by omega) ?_
          refine V_cv1f dX6_behind_81 cv_X6_88 (rcT tw85) (Nat.le_of_ble_eq_true rfl) (k_T_fullOf tw85 hU hIU (by omega)) ?_
          exact V_iret dX6_behind_84 ⟨rN (by unfold bhN; rw [← hUe]; first | rw [if_pos h47] | rw [if_pos h48] | rw [if_neg h48, if_pos h61] | rw [if_neg h48, if_neg h61]), hF.fi⟩
        · refine V_aloadn_0 dX6_behind_64 ?_
          refine V_getR dX6_behind_65 fl_X6_53 oC_thought ?_
          refine V_getI dX6_behind_68 fl_X6_164 (oT_spilt tw85) ?_
          refine V_topi hU.n11 ?_
          refine V_goto dX6_behind_71 84 (by decide) ?_
          exact V_iret dX6_behind_84 ⟨rN (by unfold bhN; rw [← hUe]; first | rw [if_pos h47] | rw [if_pos h48] | rw [if_neg h48, if_pos h61] | rw [if_neg h48, if_neg h61]), hF.fi⟩
      · refine V_aloadn_0 dX6_behind_51 ?_
        refine V_getR dX6_behind_52 fl_X6_53 oC_thought ?_
        refine V_cv0f dX6_behind_55 cv_X6_173 (rcT tw85) (Nat.le_of_ble_eq_true rfl) (k_T_fullOfAll (by omega) tw85 hU hIU) ?_
        exact V_iret dX6_behind_58 ⟨rN (by unfold bhN; rw [← hUe]; first | rw [if_pos h47] | rw [if_pos h48] | rw [if_neg h48, if_pos h61] | rw [if_neg h48, if_neg h61]), hF.fi⟩
    · have hw2 : 2 ≤ w := by
        rcases Nat.lt_or_ge w 2 with q | q
        · exact absurd (inN (a := 0) (b := 1) (by omega) (by omega) (by decide)) h16
        · exact q
      refine V_aloadn_0 dX6_behind_19 ?_
      refine V_getR dX6_behind_20 fl_X6_46 oC_now ?_
      refine V_iloadn_2 dX6_behind_23 ?_
      refine V_iconst 2 dX6_behind_24 (by decide) ?_
      refine V_isubN (a := w) (b := 2) dX6_behind_25 (by omega) ?_
      refine V_cv1f dX6_behind_26 cv_X6_76 (rcT tw61) (Nat.le_of_ble_eq_true rfl) (k_T_hasCellar tw61 hT) ?_
      refine V_ifB_ne dX6_behind_29 35 (by decide) (fun h29 => ?_) (fun h29 => ?_)
      · refine V_aloadn_0 dX6_behind_35 ?_
        refine V_cv0n dX6_behind_36 cv_X6_183 rcC (Nat.le_of_ble_eq_true rfl) (k_C_think (by omega) hC (by omega)) (fun σ h5 => ?_)
        have hF := h5.2
        have hP := h5.1
        replace hC := hC.other h5.2 tw85 (by decide)
        have hT := hC.2.1.1
        have hH := hC.2.1
        refine V_aloadn_0 dX6_behind_39 ?_
        refine V_getR dX6_behind_40 fl_X6_53 oC_thought ?_
        refine V_iloadn_1 dX6_behind_43 ?_
        refine V_cv1n dX6_behind_44 cv_X6_170 (rcT tw85) (Nat.le_of_ble_eq_true rfl) (k_T_passHours (by omega) hP (by omega)) (fun σ h6 => ?_)
        replace hF := hF.tr h6.2
        replace hP := h6.1
        replace hC := hC.other h6.2 tw85 (by decide)
        have hT := hC.2.1.1
        have hH := hC.2.1
        have hX := hIP.hours (L := L) n
        obtain ⟨U, hUe⟩ : ∃ U, U = hoursT L n T := ⟨_, rfl⟩
        rw [← hUe] at hP hX
        have hU := hP.2.1.1
        have hHU := hP.2.1
        have hIU := hP.2.2.1
        have u5 := hX.2 0 5 (by decide) (by omega)
        have u10 := hX.2 0 10 (by decide) (by omega)
        refine V_iloadn_2 dX6_behind_47 ?_
        refine V_ifN_ne (a := w) dX6_behind_48 59 (by decide) (by omega) (fun h48 => ?_) (fun h48 => ?_)
        · refine V_iloadn_2 dX6_behind_59 ?_
          refine V_iconst 1 dX6_behind_60 (by decide) ?_
          refine V_icmpN_ne (a := w) (b := 1) dX6_behind_61 74 (by decide) (by omega) (by omega) (fun h61 => ?_) (fun h61 => ?_)
          · refine V_aloadn_0 dX6_behind_74 ?_
            refine V_getR dX6_behind_75 fl_X6_53 oC_thought ?_
            refine V_iloadn_2 dX6_behind_78 ?_
            refine V_iconst 2 dX6_behind_79 (by decide) ?_
            refine V_isubN (a := w) (b := 2) dX6_behind_80 (by omega) ?_
            refine V_cv1f dX6_behind_81 cv_X6_88 (rcT tw85) (Nat.le_of_ble_eq_true rfl) (k_T_fullOf tw85 hU hIU (by omega)) ?_
            exact V_iret dX6_behind_84 ⟨rN (by unfold bhN; rw [← hUe]; first | rw [if_pos h47] | rw [if_pos h48] | rw [if_neg h48, if_pos h61] | rw [if_neg h48, if_neg h61]), hF.fi⟩
          · refine V_aloadn_0 dX6_behind_64 ?_
            refine V_getR dX6_behind_65 fl_X6_53 oC_thought ?_
            refine V_getI dX6_behind_68 fl_X6_164 (oT_spilt tw85) ?_
            refine V_topi hU.n11 ?_
            refine V_goto dX6_behind_71 84 (by decide) ?_
            exact V_iret dX6_behind_84 ⟨rN (by unfold bhN; rw [← hUe]; first | rw [if_pos h47] | rw [if_pos h48] | rw [if_neg h48, if_pos h61] | rw [if_neg h48, if_neg h61]), hF.fi⟩
        · refine V_aloadn_0 dX6_behind_51 ?_
          refine V_getR dX6_behind_52 fl_X6_53 oC_thought ?_
          refine V_cv0f dX6_behind_55 cv_X6_173 (rcT tw85) (Nat.le_of_ble_eq_true rfl) (k_T_fullOfAll (by omega) tw85 hU hIU) ?_
          exact V_iret dX6_behind_58 ⟨rN (by unfold bhN; rw [← hUe]; first | rw [if_pos h47] | rw [if_pos h48] | rw [if_neg h48, if_pos h61] | rw [if_neg h48, if_neg h61]), hF.fi⟩
      · exact absurd (hasN (by omega) (by omega)) h29

set_option maxRecDepth 100000 in
set_option maxHeartbeats 4000000 in
theorem c_behind_bad {G : vG} {σ : vS} {d : Nat} (hd : 6 ≤ d) {L T : nT} {N : Nat} (hC : TC L N 61 T σ) {x y : Int32} (hb : ¬ (inI x 0 100 ∧ hasI y (T 0 5 + 2))) : Cf G yX6_behind cX6_behind 3 (some .int) d [.ref 0, .int x, .int y] σ (some (.int (-1000000001))) σ := by
  refine Ct.ofV (by decide) (Nat.le_of_ble_eq_true rfl) rfl ?_
  show V G RX6 cX6_behind (some .int) 3 d _ 0 [some (.ref 0), some (.int x), some (.int y)] [] _
  obtain ⟨d, rfl⟩ : ∃ e, d = e + 1 := ⟨d - 1, by omega⟩
  obtain ⟨ht, hH, hI, hL, hLI, hN, hN2⟩ := id hC
  have hT := hH.1
  have hn := hI.nc
  have hm := hI.np
  refine V_iloadn_1 dX6_behind_0 ?_
  refine V_iconst 0 dX6_behind_1 (by decide) ?_
  refine V_bipush 100 dX6_behind_2 (by decide) ?_
  refine V_cs3f dX6_behind_4 cs_X6_108 (Nat.le_of_ble_eq_true rfl) k_C_within ?_
  refine V_ifB_eq dX6_behind_7 32 (by decide) (fun h7 => ?_) (fun h7 => ?_)
  · refine V_ldc (-1000000001) dX6_behind_32 cn_X6_66 ?_
    exact V_iret dX6_behind_34 ⟨rfl, rfl⟩
  · refine V_iloadn_2 dX6_behind_10 ?_
    refine V_iconst 0 dX6_behind_11 (by decide) ?_
    refine V_iconst 1 dX6_behind_12 (by decide) ?_
    refine V_cs3f dX6_behind_13 cs_X6_108 (Nat.le_of_ble_eq_true rfl) k_C_within ?_
    refine V_ifB_ne dX6_behind_16 35 (by decide) (fun h16 => ?_) (fun h16 => ?_)
    · exact absurd ⟨h7, (has2 hn).mp (Or.inl h16)⟩ hb
    · refine V_aloadn_0 dX6_behind_19 ?_
      refine V_getR dX6_behind_20 fl_X6_46 oC_now ?_
      refine V_iloadn_2 dX6_behind_23 ?_
      refine V_iconst 2 dX6_behind_24 (by decide) ?_
      refine V_isub dX6_behind_25 ?_
      refine V_cv1f dX6_behind_26 cv_X6_76 (rcT tw61) (Nat.le_of_ble_eq_true rfl) (k_T_hasCellar tw61 hT) ?_
      refine V_ifB_ne dX6_behind_29 35 (by decide) (fun h29 => ?_) (fun h29 => ?_)
      · exact absurd ⟨h7, (has2 hn).mp (Or.inr h29)⟩ hb
      · refine V_ldc (-1000000001) dX6_behind_32 cn_X6_66 ?_
        exact V_iret dX6_behind_34 ⟨rfl, rfl⟩

set_option maxRecDepth 100000 in
set_option maxHeartbeats 4000000 in
theorem m_behind {G : vG} {σ : vS} {d : Nat} (hd : 9 ≤ d) {L T : nT} (hC : MC L T σ) {n w : Nat} (hn1 : n ≤ 100) (hw : w < T 0 5 + 2) : Cr G yX7_behind cX7_behind 4 (some .int) d [.ref 97, .int (nI n), .int (nI w)] σ (some (.int (nI (bhN L T n w)))) (fun σ' => FI σ σ') := by
  refine Ct.ofV (by decide) (Nat.le_of_ble_eq_true rfl) rfl ?_
  show V G RX7 cX7_behind (some .int) 4 d _ 0 [some (.ref 97), some (.int (nI n)), some (.int (nI w)), none] [] _
  obtain ⟨d, rfl⟩ : ∃ e, d = e + 1 := ⟨d - 1, by omega⟩
  have hI := hC.2.2.1
  have hn := hI.nc
  have hm := hI.np
  have hIP := hI
  refine V_iloadn_1 dX7_behind_0 ?_
  refine V_iconst 0 dX7_behind_1 (by decide) ?_
  refine V_bipush 100 dX7_behind_2 (by decide) ?_
  refine V_cs3f dX7_behind_4 cs_X7_82 (Nat.le_of_ble_eq_true rfl) k_M_in ?_
  refine V_ifB_eq dX7_behind_7 29 (by decide) (fun h7 => ?_) (fun h7 => ?_)
  · exact absurd (inN (a := 0) (b := 100) (by omega) hn1 (by decide)) h7
  · refine V_iloadn_2 dX7_behind_10 ?_
    refine V_ifN_lt (a := w) dX7_behind_11 29 (by decide) (by omega) ?_
    refine V_iloadn_2 dX7_behind_14 ?_
    refine V_iconst 1 dX7_behind_15 (by decide) ?_
    refine V_icmpN_le (a := w) (b := 1) dX7_behind_16 32 (by decide) (by omega) (by omega) (fun h16 => ?_) (fun h16 => ?_)
    · refine V_aloadn_0 dX7_behind_32 ?_
      refine V_cv0v dX7_behind_33 cv_X7_180 rcM (Nat.le_of_ble_eq_true rfl) k_M_thinks ?_
      refine V_abs (fun σ1 => BK σ σ1 ∧ MC L T σ1) ⟨BK.think (fun _ _ _ _ _ _ => rfl), hC.thk⟩ (fun σ1 h1 => ?_)
      have hC0 := hC
      have hK := h1.1
      replace hC := h1.2
      refine V_aloadn_0 dX7_behind_36 ?_
      refine V_iloadn_1 dX7_behind_37 ?_
      refine V_cv1n dX7_behind_38 cv_X7_171 rcM (Nat.le_of_ble_eq_true rfl) (k_M_goesOn (by omega) hC (by omega)) (fun σ2 h2 => ?_)
      replace hC := h2.1
      replace hK := hK.fm h2.2
      have hX := hIP.hours (L := L) n
      obtain ⟨U, hUe⟩ : ∃ U, U = hoursT L n T := ⟨_, rfl⟩
      rw [← hUe] at hC hX
      have hIU := hC.2.2.1
      have u5 := hX.2 0 5 (by decide) (by omega)
      have u10 := hX.2 0 10 (by decide) (by omega)
      refine V_iloadn_2 dX7_behind_41 ?_
      refine V_ifN_ne (a := w) dX7_behind_42 52 (by decide) (by omega) (fun h42 => ?_) (fun h42 => ?_)
      · refine V_iloadn_2 dX7_behind_52 ?_
        refine V_iconst 1 dX7_behind_53 (by decide) ?_
        refine V_icmpN_ne (a := w) (b := 1) dX7_behind_54 66 (by decide) (by omega) (by omega) (fun h54 => ?_) (fun h54 => ?_)
        · refine V_aloadn_0 dX7_behind_66 ?_
          refine V_iloadn_2 dX7_behind_67 ?_
          refine V_iconst 2 dX7_behind_68 (by decide) ?_
          refine V_isubN (a := w) (b := 2) dX7_behind_69 (by omega) ?_
          refine V_cv1f dX7_behind_70 cv_X7_96 rcM (Nat.le_of_ble_eq_true rfl) (k_M_fullOf (by omega) hC (by omega)) ?_
          refine V_istoren_3 dX7_behind_73 (by first | exact rfl | exact True.intro) (by decide) ?_
          refine V_aloadn_0 dX7_behind_74 ?_
          refine V_cv0v dX7_behind_75 cv_X7_183 rcM (Nat.le_of_ble_eq_true rfl) k_M_putsBack ?_
          refine V_iloadn_3 dX7_behind_78 ?_
          exact V_iret dX7_behind_79 ⟨rN (by unfold bhN; rw [← hUe]; first | rw [if_pos h42] | rw [if_neg h42, if_pos h54] | rw [if_neg h42, if_neg h54]), hK.fin⟩
        · refine V_aloadn_0 dX7_behind_57 ?_
          refine V_getR dX7_behind_58 fl_X7_9 oM_now ?_
          refine V_iconst 5 dX7_behind_61 (by decide) ?_
          refine V_iald (j := 5) dX7_behind_62 aM_now (by decide) (by decide) ?_
          refine V_topi hC.1.s5 ?_
          refine V_goto dX7_behind_63 73 (by decide) ?_
          refine V_istoren_3 dX7_behind_73 (by first | exact rfl | exact True.intro) (by decide) ?_
          refine V_aloadn_0 dX7_behind_74 ?_
          refine V_cv0v dX7_behind_75 cv_X7_183 rcM (Nat.le_of_ble_eq_true rfl) k_M_putsBack ?_
          refine V_iloadn_3 dX7_behind_78 ?_
          exact V_iret dX7_behind_79 ⟨rN (by unfold bhN; rw [← hUe]; first | rw [if_pos h42] | rw [if_neg h42, if_pos h54] | rw [if_neg h42, if_neg h54]), hK.fin⟩
      · refine V_aloadn_0 dX7_behind_45 ?_
        refine V_cv0f dX7_behind_46 cv_X7_174 rcM (Nat.le_of_ble_eq_true rfl) (k_M_fullOfAll (by omega) hC) ?_
        refine V_goto dX7_behind_49 73 (by decide) ?_
        refine V_istoren_3 dX7_behind_73 (by first | exact rfl | exact True.intro) (by decide) ?_
        refine V_aloadn_0 dX7_behind_74 ?_
        refine V_cv0v dX7_behind_75 cv_X7_183 rcM (Nat.le_of_ble_eq_true rfl) k_M_putsBack ?_
        refine V_iloadn_3 dX7_behind_78 ?_
        exact V_iret dX7_behind_79 ⟨rN (by unfold bhN; rw [← hUe]; first | rw [if_pos h42] | rw [if_neg h42, if_pos h54] | rw [if_neg h42, if_neg h54]), hK.fin⟩
    · refine V_aloadn_0 dX7_behind_19 ?_
      refine V_iloadn_2 dX7_behind_20 ?_
      refine V_iconst 2 dX7_behind_21 (by decide) ?_
      refine V_isubN (a := w) (b := 2) dX7_behind_22 (by omega) ?_
      refine V_cv1f dX7_behind_23 cv_X7_112 rcM (Nat.le_of_ble_eq_true rfl) (k_M_isCellar (by omega) hC) ?_
      refine V_ifB_ne dX7_behind_26 32 (by decide) (fun h26 => ?_) (fun h26 => ?_)
      · refine V_aloadn_0 dX7_behind_32 ?_
        refine V_cv0v dX7_behind_33 cv_X7_180 rcM (Nat.le_of_ble_eq_true rfl) k_M_thinks ?_
        refine V_abs (fun σ1 => BK σ σ1 ∧ MC L T σ1) ⟨BK.think (fun _ _ _ _ _ _ => rfl), hC.thk⟩ (fun σ1 h1 => ?_)
        have hC0 := hC
        have hK := h1.1
        replace hC := h1.2
        refine V_aloadn_0 dX7_behind_36 ?_
        refine V_iloadn_1 dX7_behind_37 ?_
        refine V_cv1n dX7_behind_38 cv_X7_171 rcM (Nat.le_of_ble_eq_true rfl) (k_M_goesOn (by omega) hC (by omega)) (fun σ2 h2 => ?_)
        replace hC := h2.1
        replace hK := hK.fm h2.2
        have hX := hIP.hours (L := L) n
        obtain ⟨U, hUe⟩ : ∃ U, U = hoursT L n T := ⟨_, rfl⟩
        rw [← hUe] at hC hX
        have hIU := hC.2.2.1
        have u5 := hX.2 0 5 (by decide) (by omega)
        have u10 := hX.2 0 10 (by decide) (by omega)
        refine V_iloadn_2 dX7_behind_41 ?_
        refine V_ifN_ne (a := w) dX7_behind_42 52 (by decide) (by omega) (fun h42 => ?_) (fun h42 => ?_)
        · refine V_iloadn_2 dX7_behind_52 ?_
          refine V_iconst 1 dX7_behind_53 (by decide) ?_
          refine V_icmpN_ne (a := w) (b := 1) dX7_behind_54 66 (by decide) (by omega) (by omega) (fun h54 => ?_) (fun h54 => ?_)
          · refine V_aloadn_0 dX7_behind_66 ?_
            refine V_iloadn_2 dX7_behind_67 ?_
            refine V_iconst 2 dX7_behind_68 (by decide) ?_
            refine V_isubN (a := w) (b := 2) dX7_behind_69 (by omega) ?_
            refine V_cv1f dX7_behind_70 cv_X7_96 rcM (Nat.le_of_ble_eq_true rfl) (k_M_fullOf (by omega) hC (by omega)) ?_
            refine V_istoren_3 dX7_behind_73 (by first | exact rfl | exact True.intro) (by decide) ?_
            refine V_aloadn_0 dX7_behind_74 ?_
            refine V_cv0v dX7_behind_75 cv_X7_183 rcM (Nat.le_of_ble_eq_true rfl) k_M_putsBack ?_
            refine V_iloadn_3 dX7_behind_78 ?_
            exact V_iret dX7_behind_79 ⟨rN (by unfold bhN; rw [← hUe]; first | rw [if_pos h42] | rw [if_neg h42, if_pos h54] | rw [if_neg h42, if_neg h54]), hK.fin⟩
          · refine V_aloadn_0 dX7_behind_57 ?_
            refine V_getR dX7_behind_58 fl_X7_9 oM_now ?_
            refine V_iconst 5 dX7_behind_61 (by decide) ?_
            refine V_iald (j := 5) dX7_behind_62 aM_now (by decide) (by decide) ?_
            refine V_topi hC.1.s5 ?_
            refine V_goto dX7_behind_63 73 (by decide) ?_
            refine V_istoren_3 dX7_behind_73 (by first | exact rfl | exact True.intro) (by decide) ?_
            refine V_aloadn_0 dX7_behind_74 ?_
            refine V_cv0v dX7_behind_75 cv_X7_183 rcM (Nat.le_of_ble_eq_true rfl) k_M_putsBack ?_
            refine V_iloadn_3 dX7_behind_78 ?_
            exact V_iret dX7_behind_79 ⟨rN (by unfold bhN; rw [← hUe]; first | rw [if_pos h42] | rw [if_neg h42, if_pos h54] | rw [if_neg h42, if_neg h54]), hK.fin⟩
        · refine V_aloadn_0 dX7_behind_45 ?_
          refine V_cv0f dX7_behind_46 cv_X7_174 rcM (Nat.le_of_ble_eq_true rfl) (k_M_fullOfAll (by omega) hC) ?_
          refine V_goto dX7_behind_49 73 (by decide) ?_
          refine V_istoren_3 dX7_behind_73 (by first | exact rfl | exact True.intro) (by decide) ?_
          refine V_aloadn_0 dX7_behind_74 ?_
          refine V_cv0v dX7_behind_75 cv_X7_183 rcM (Nat.le_of_ble_eq_true rfl) k_M_putsBack ?_
          refine V_iloadn_3 dX7_behind_78 ?_
          exact V_iret dX7_behind_79 ⟨rN (by unfold bhN; rw [← hUe]; first | rw [if_pos h42] | rw [if_neg h42, if_pos h54] | rw [if_neg h42, if_neg h54]), hK.fin⟩
      · exact absurd (hasN (by omega) (by omega)) h26

theorem beh_bad {n : Nat} {w : Int32} (hn : n ≤ 8) (h1 : ¬ w < 0) (h2 : w ≤ 1 ∨ hasI (w - 2) n) : hasI w (n + 2) :=
  (has2 hn).mp (h2.elim (fun h => Or.inl ⟨h1, fun q => absurd h (Int32.not_le.mpr q)⟩) Or.inr)

set_option maxRecDepth 100000 in
set_option maxHeartbeats 4000000 in
theorem m_behind_bad {G : vG} {σ : vS} {d : Nat} (hd : 9 ≤ d) {L T : nT} (hC : MC L T σ) {x y : Int32} (hb : ¬ (inI x 0 100 ∧ hasI y (T 0 5 + 2))) : Cf G yX7_behind cX7_behind 4 (some .int) d [.ref 97, .int x, .int y] σ (some (.int (-1000000001))) σ := by
  refine Ct.ofV (by decide) (Nat.le_of_ble_eq_true rfl) rfl ?_
  show V G RX7 cX7_behind (some .int) 4 d _ 0 [some (.ref 97), some (.int x), some (.int y), none] [] _
  obtain ⟨d, rfl⟩ : ∃ e, d = e + 1 := ⟨d - 1, by omega⟩
  have hI := hC.2.2.1
  have hn := hI.nc
  have hm := hI.np
  refine V_iloadn_1 dX7_behind_0 ?_
  refine V_iconst 0 dX7_behind_1 (by decide) ?_
  refine V_bipush 100 dX7_behind_2 (by decide) ?_
  refine V_cs3f dX7_behind_4 cs_X7_82 (Nat.le_of_ble_eq_true rfl) k_M_in ?_
  refine V_ifB_eq dX7_behind_7 29 (by decide) (fun h7 => ?_) (fun h7 => ?_)
  · refine V_ldc (-1000000001) dX7_behind_29 cn_X7_86 ?_
    exact V_iret dX7_behind_31 ⟨rfl, rfl⟩
  · refine V_iloadn_2 dX7_behind_10 ?_
    refine V_if_lt dX7_behind_11 29 (by decide) (fun h11 => ?_) (fun h11 => ?_)
    · refine V_ldc (-1000000001) dX7_behind_29 cn_X7_86 ?_
      exact V_iret dX7_behind_31 ⟨rfl, rfl⟩
    · refine V_iloadn_2 dX7_behind_14 ?_
      refine V_iconst 1 dX7_behind_15 (by decide) ?_
      refine V_icmp_le dX7_behind_16 32 (by decide) (fun h16 => ?_) (fun h16 => ?_)
      · exact absurd ⟨h7, beh_bad hn (by assumption) (Or.inl h16)⟩ hb
      · refine V_aloadn_0 dX7_behind_19 ?_
        refine V_iloadn_2 dX7_behind_20 ?_
        refine V_iconst 2 dX7_behind_21 (by decide) ?_
        refine V_isub dX7_behind_22 ?_
        refine V_cv1f dX7_behind_23 cv_X7_112 rcM (Nat.le_of_ble_eq_true rfl) (k_M_isCellar (by omega) hC) ?_
        refine V_ifB_ne dX7_behind_26 32 (by decide) (fun h26 => ?_) (fun h26 => ?_)
        · exact absurd ⟨h7, beh_bad hn (by assumption) (Or.inr h26)⟩ hb
        · refine V_ldc (-1000000001) dX7_behind_29 cn_X7_86 ?_
          exact V_iret dX7_behind_31 ⟨rfl, rfl⟩

set_option maxRecDepth 100000 in
set_option maxHeartbeats 4000000 in
theorem op_behind {G : vG} {σ : vS} {d i : Nat} (hd : 100 ≤ d) (hi : i < 512) {x y : Int32} (h : Inv i σ) : Op G yX6_behind cX6_behind 3 yX7_behind cX7_behind 4 d [.int x, .int y] i σ := by
  have hh := h
  obtain ⟨L, T, I, b, hT, hB, hM, hS, hO, hW, hR, hK⟩ := h
  have hC := hT.1
  have hE := hT.2.1
  have hI := hC.2.2.1
  have hn := hI.nc
  have hm := hI.np
  by_cases hx : inI x 0 100 ∧ hasI y (T 0 5 + 2)
  · obtain ⟨n, hn1, rfl⟩ := (inI_iff (b := 100) (by decide)).mp hx.1
    obtain ⟨w, hw, rfl⟩ := (hasI_iff (by omega)).mp hx.2
    exact Op.ask hh (c_behind (by omega) hC hT.2.2.2.1 hn1 hw) (fun σ1 f1 => m_behind (by omega) (hE.fi f1) hn1 hw)
  · exact Op.ask hh (Cf.fi (c_behind_bad (by omega) hC hx)) (fun σ1 f1 => Cf.fi (m_behind_bad (by omega) (hE.fi f1) hx))

set_option maxRecDepth 100000 in
set_option maxHeartbeats 4000000 in
theorem c_taste {G : vG} {σ : vS} {d : Nat} (hd : 6 ≤ d) {L T : nT} {N : Nat} (hC : TC L N 61 T σ) (hm12 : T 0 10 ≤ 12) {c s n : Nat} (hc : c < T 0 5) (hs : s ≤ 2) (hn1 : n ≤ 100) : Cr G yX6_taste cX6_taste 4 (some .int) d [.ref 0, .int (nI c), .int (nI s), .int (nI n)] σ (some (.int (nI (hoursT L n T 4 (c * 3 + s))))) (fun σ' => FI σ σ') := by
  refine Ct.ofV (by decide) (Nat.le_of_ble_eq_true rfl) rfl ?_
  show V G RX6 cX6_taste (some .int) 4 d _ 0 [some (.ref 0), some (.int (nI c)), some (.int (nI s)), some (.int (nI n))] [] _
  obtain ⟨d, rfl⟩ : ∃ e, d = e + 1 := ⟨d - 1, by omega⟩
  obtain ⟨ht, hH, hI, hL, hLI, hN, hN2⟩ := id hC
  have hT := hH.1
  have hn := hI.nc
  have hm := hI.np
  have hIP := hI
  refine V_aloadn_0 dX6_taste_0 ?_
  refine V_getR dX6_taste_1 fl_X6_46 oC_now ?_
  refine V_iloadn_1 dX6_taste_4 ?_
  refine V_cv1f dX6_taste_5 cv_X6_76 (rcT tw61) (Nat.le_of_ble_eq_true rfl) (k_T_hasCellar tw61 hT) ?_
  refine V_ifB_eq dX6_taste_8 30 (by decide) (fun h8 => ?_) (fun h8 => ?_)
  · exact absurd (hasN hc (by omega)) h8
  · refine V_iloadn_2 dX6_taste_11 ?_
    refine V_iconst 0 dX6_taste_12 (by decide) ?_
    refine V_iconst 2 dX6_taste_13 (by decide) ?_
    refine V_cs3f dX6_taste_14 cs_X6_108 (Nat.le_of_ble_eq_true rfl) k_C_within ?_
    refine V_ifB_eq dX6_taste_17 30 (by decide) (fun h17 => ?_) (fun h17 => ?_)
    · exact absurd (inN (a := 0) (b := 2) (by omega) hs (by decide)) h17
    · refine V_iloadn_3 dX6_taste_20 ?_
      refine V_iconst 0 dX6_taste_21 (by decide) ?_
      refine V_bipush 100 dX6_taste_22 (by decide) ?_
      refine V_cs3f dX6_taste_24 cs_X6_108 (Nat.le_of_ble_eq_true rfl) k_C_within ?_
      refine V_ifB_ne dX6_taste_27 33 (by decide) (fun h27 => ?_) (fun h27 => ?_)
      · refine V_aloadn_0 dX6_taste_33 ?_
        refine V_cv0n dX6_taste_34 cv_X6_183 rcC (Nat.le_of_ble_eq_true rfl) (k_C_think (by omega) hC (by omega)) (fun σ h5 => ?_)
        have hF := h5.2
        have hP := h5.1
        replace hC := hC.other h5.2 tw85 (by decide)
        have hT := hC.2.1.1
        have hH := hC.2.1
        refine V_aloadn_0 dX6_taste_37 ?_
        refine V_getR dX6_taste_38 fl_X6_53 oC_thought ?_
        refine V_iloadn_3 dX6_taste_41 ?_
        refine V_cv1n dX6_taste_42 cv_X6_170 (rcT tw85) (Nat.le_of_ble_eq_true rfl) (k_T_passHours (by omega) hP (by omega)) (fun σ h6 => ?_)
        replace hF := hF.tr h6.2
        replace hP := h6.1
        replace hC := hC.other h6.2 tw85 (by decide)
        have hT := hC.2.1.1
        have hH := hC.2.1
        have hX := hIP.hours (L := L) n
        obtain ⟨U, hUe⟩ : ∃ U, U = hoursT L n T := ⟨_, rfl⟩
        rw [← hUe] at hP hX
        have hU := hP.2.1.1
        have hHU := hP.2.1
        have hIU := hP.2.2.1
        have u5 := hX.2 0 5 (by decide) (by omega)
        have u10 := hX.2 0 10 (by decide) (by omega)
        refine V_aloadn_0 dX6_taste_45 ?_
        refine V_getR dX6_taste_46 fl_X6_53 oC_thought ?_
        refine V_getR dX6_taste_49 fl_X6_105 (oT_wine tw85) ?_
        refine V_iloadn_1 dX6_taste_52 ?_
        refine V_iconst 3 dX6_taste_53 (by decide) ?_
        refine V_imulN (a := c) (b := 3) dX6_taste_54 ?_
        refine V_iloadn_2 dX6_taste_55 ?_
        refine V_iaddN (a := c * 3) (b := s) dX6_taste_56 ?_
        refine V_iald (j := (c * 3) + s) dX6_taste_57 (aT_wine tw85) (by omega) (by decide) ?_
        refine V_topi (hU.k4 (by omega)) ?_
        exact V_iret dX6_taste_58 ⟨rN (by rw [← hUe]), hF.fi⟩
      · exact absurd (inN (a := 0) (b := 100) (by omega) hn1 (by decide)) h27

set_option maxRecDepth 100000 in
set_option maxHeartbeats 4000000 in
theorem c_taste_bad {G : vG} {σ : vS} {d : Nat} (hd : 6 ≤ d) {L T : nT} {N : Nat} (hC : TC L N 61 T σ) {x y z : Int32} (hb : ¬ (hasI x (T 0 5) ∧ inI y 0 2 ∧ inI z 0 100)) : Cf G yX6_taste cX6_taste 4 (some .int) d [.ref 0, .int x, .int y, .int z] σ (some (.int (-1000000001))) σ := by
  refine Ct.ofV (by decide) (Nat.le_of_ble_eq_true rfl) rfl ?_
  show V G RX6 cX6_taste (some .int) 4 d _ 0 [some (.ref 0), some (.int x), some (.int y), some (.int z)] [] _
  obtain ⟨d, rfl⟩ : ∃ e, d = e + 1 := ⟨d - 1, by omega⟩
  obtain ⟨ht, hH, hI, hL, hLI, hN, hN2⟩ := id hC
  have hT := hH.1
  have hn := hI.nc
  have hm := hI.np
  refine V_aloadn_0 dX6_taste_0 ?_
  refine V_getR dX6_taste_1 fl_X6_46 oC_now ?_
  refine V_iloadn_1 dX6_taste_4 ?_
  refine V_cv1f dX6_taste_5 cv_X6_76 (rcT tw61) (Nat.le_of_ble_eq_true rfl) (k_T_hasCellar tw61 hT) ?_
  refine V_ifB_eq dX6_taste_8 30 (by decide) (fun h8 => ?_) (fun h8 => ?_)
  · refine V_ldc (-1000000001) dX6_taste_30 cn_X6_66 ?_
    exact V_iret dX6_taste_32 ⟨rfl, rfl⟩
  · refine V_iloadn_2 dX6_taste_11 ?_
    refine V_iconst 0 dX6_taste_12 (by decide) ?_
    refine V_iconst 2 dX6_taste_13 (by decide) ?_
    refine V_cs3f dX6_taste_14 cs_X6_108 (Nat.le_of_ble_eq_true rfl) k_C_within ?_
    refine V_ifB_eq dX6_taste_17 30 (by decide) (fun h17 => ?_) (fun h17 => ?_)
    · refine V_ldc (-1000000001) dX6_taste_30 cn_X6_66 ?_
      exact V_iret dX6_taste_32 ⟨rfl, rfl⟩
    · refine V_iloadn_3 dX6_taste_20 ?_
      refine V_iconst 0 dX6_taste_21 (by decide) ?_
      refine V_bipush 100 dX6_taste_22 (by decide) ?_
      refine V_cs3f dX6_taste_24 cs_X6_108 (Nat.le_of_ble_eq_true rfl) k_C_within ?_
      refine V_ifB_ne dX6_taste_27 33 (by decide) (fun h27 => ?_) (fun h27 => ?_)
      · exact absurd ⟨h8, h17, h27⟩ hb
      · refine V_ldc (-1000000001) dX6_taste_30 cn_X6_66 ?_
        exact V_iret dX6_taste_32 ⟨rfl, rfl⟩

set_option maxRecDepth 100000 in
set_option maxHeartbeats 4000000 in
theorem m_taste {G : vG} {σ : vS} {d : Nat} (hd : 9 ≤ d) {L T : nT} (hC : MC L T σ) {c s n : Nat} (hc : c < T 0 5) (hs : s ≤ 2) (hn1 : n ≤ 100) : Cr G yX7_taste cX7_taste 5 (some .int) d [.ref 97, .int (nI c), .int (nI s), .int (nI n)] σ (some (.int (nI (hoursT L n T 4 (c * 3 + s))))) (fun σ' => FI σ σ') := by
  refine Ct.ofV (by decide) (Nat.le_of_ble_eq_true rfl) rfl ?_
  show V G RX7 cX7_taste (some .int) 5 d _ 0 [some (.ref 97), some (.int (nI c)), some (.int (nI s)), some (.int (nI n)), none] [] _
  obtain ⟨d, rfl⟩ : ∃ e, d = e + 1 := ⟨d - 1, by omega⟩
  have hI := hC.2.2.1
  have hn := hI.nc
  have hm := hI.np
  have hIP := hI
  refine V_aloadn_0 dX7_taste_0 ?_
  refine V_iloadn_1 dX7_taste_1 ?_
  refine V_cv1f dX7_taste_2 cv_X7_112 rcM (Nat.le_of_ble_eq_true rfl) (k_M_isCellar (by omega) hC) ?_
  refine V_ifB_eq dX7_taste_5 27 (by decide) (fun h5 => ?_) (fun h5 => ?_)
  · exact absurd (hasN hc (by omega)) h5
  · refine V_iloadn_2 dX7_taste_8 ?_
    refine V_iconst 0 dX7_taste_9 (by decide) ?_
    refine V_iconst 2 dX7_taste_10 (by decide) ?_
    refine V_cs3f dX7_taste_11 cs_X7_82 (Nat.le_of_ble_eq_true rfl) k_M_in ?_
    refine V_ifB_eq dX7_taste_14 27 (by decide) (fun h14 => ?_) (fun h14 => ?_)
    · exact absurd (inN (a := 0) (b := 2) (by omega) hs (by decide)) h14
    · refine V_iloadn_3 dX7_taste_17 ?_
      refine V_iconst 0 dX7_taste_18 (by decide) ?_
      refine V_bipush 100 dX7_taste_19 (by decide) ?_
      refine V_cs3f dX7_taste_21 cs_X7_82 (Nat.le_of_ble_eq_true rfl) k_M_in ?_
      refine V_ifB_ne dX7_taste_24 30 (by decide) (fun h24 => ?_) (fun h24 => ?_)
      · refine V_aloadn_0 dX7_taste_30 ?_
        refine V_cv0v dX7_taste_31 cv_X7_180 rcM (Nat.le_of_ble_eq_true rfl) k_M_thinks ?_
        refine V_abs (fun σ1 => BK σ σ1 ∧ MC L T σ1) ⟨BK.think (fun _ _ _ _ _ _ => rfl), hC.thk⟩ (fun σ1 h1 => ?_)
        have hC0 := hC
        have hK := h1.1
        replace hC := h1.2
        refine V_aloadn_0 dX7_taste_34 ?_
        refine V_iloadn_3 dX7_taste_35 ?_
        refine V_cv1n dX7_taste_36 cv_X7_171 rcM (Nat.le_of_ble_eq_true rfl) (k_M_goesOn (by omega) hC (by omega)) (fun σ2 h2 => ?_)
        replace hC := h2.1
        replace hK := hK.fm h2.2
        have hX := hIP.hours (L := L) n
        obtain ⟨U, hUe⟩ : ∃ U, U = hoursT L n T := ⟨_, rfl⟩
        rw [← hUe] at hC hX
        have hIU := hC.2.2.1
        have u5 := hX.2 0 5 (by decide) (by omega)
        have u10 := hX.2 0 10 (by decide) (by omega)
        refine V_aloadn_0 dX7_taste_39 ?_
        refine V_iloadn_1 dX7_taste_40 ?_
        refine V_iconst 3 dX7_taste_41 (by decide) ?_
        refine V_iloadn_2 dX7_taste_42 ?_
        refine V_iaddN (a := 3) (b := s) dX7_taste_43 ?_
        refine V_cv2f dX7_taste_44 cv_X7_92 rcM (Nat.le_of_ble_eq_true rfl) (k_M_of (v := nI (U 4 (c * 3 + s))) (by omega) (by have := hC.1.w (c := c) (s := s) (by omega) (by omega); rw [← Nat.add_assoc]; exact this)) ?_
        refine V_istore_4 dX7_taste_47 (by first | exact rfl | exact True.intro) (by decide) ?_
        refine V_aloadn_0 dX7_taste_49 ?_
        refine V_cv0v dX7_taste_50 cv_X7_183 rcM (Nat.le_of_ble_eq_true rfl) k_M_putsBack ?_
        refine V_iload_4 dX7_taste_53 ?_
        exact V_iret dX7_taste_55 ⟨rN (by rw [← hUe]), hK.fin⟩
      · exact absurd (inN (a := 0) (b := 100) (by omega) hn1 (by decide)) h24

set_option maxRecDepth 100000 in
set_option maxHeartbeats 4000000 in
theorem m_taste_bad {G : vG} {σ : vS} {d : Nat} (hd : 9 ≤ d) {L T : nT} (hC : MC L T σ) {x y z : Int32} (hb : ¬ (hasI x (T 0 5) ∧ inI y 0 2 ∧ inI z 0 100)) : Cf G yX7_taste cX7_taste 5 (some .int) d [.ref 97, .int x, .int y, .int z] σ (some (.int (-1000000001))) σ := by
  refine Ct.ofV (by decide) (Nat.le_of_ble_eq_true rfl) rfl ?_
  show V G RX7 cX7_taste (some .int) 5 d _ 0 [some (.ref 97), some (.int x), some (.int y), some (.int z), none] [] _
  obtain ⟨d, rfl⟩ : ∃ e, d = e + 1 := ⟨d - 1, by omega⟩
  have hI := hC.2.2.1
  have hn := hI.nc
  have hm := hI.np
  refine V_aloadn_0 dX7_taste_0 ?_
  refine V_iloadn_1 dX7_taste_1 ?_
  refine V_cv1f dX7_taste_2 cv_X7_112 rcM (Nat.le_of_ble_eq_true rfl) (k_M_isCellar (by omega) hC) ?_
  refine V_ifB_eq dX7_taste_5 27 (by decide) (fun h5 => ?_) (fun h5 => ?_)
  · refine V_ldc (-1000000001) dX7_taste_27 cn_X7_86 ?_
    exact V_iret dX7_taste_29 ⟨rfl, rfl⟩
  · refine V_iloadn_2 dX7_taste_8 ?_
    refine V_iconst 0 dX7_taste_9 (by decide) ?_
    refine V_iconst 2 dX7_taste_10 (by decide) ?_
    refine V_cs3f dX7_taste_11 cs_X7_82 (Nat.le_of_ble_eq_true rfl) k_M_in ?_
    refine V_ifB_eq dX7_taste_14 27 (by decide) (fun h14 => ?_) (fun h14 => ?_)
    · refine V_ldc (-1000000001) dX7_taste_27 cn_X7_86 ?_
      exact V_iret dX7_taste_29 ⟨rfl, rfl⟩
    · refine V_iloadn_3 dX7_taste_17 ?_
      refine V_iconst 0 dX7_taste_18 (by decide) ?_
      refine V_bipush 100 dX7_taste_19 (by decide) ?_
      refine V_cs3f dX7_taste_21 cs_X7_82 (Nat.le_of_ble_eq_true rfl) k_M_in ?_
      refine V_ifB_ne dX7_taste_24 30 (by decide) (fun h24 => ?_) (fun h24 => ?_)
      · exact absurd ⟨h5, h14, h24⟩ hb
      · refine V_ldc (-1000000001) dX7_taste_27 cn_X7_86 ?_
        exact V_iret dX7_taste_29 ⟨rfl, rfl⟩

set_option maxRecDepth 100000 in
set_option maxHeartbeats 4000000 in
theorem op_taste {G : vG} {σ : vS} {d i : Nat} (hd : 100 ≤ d) (hi : i < 512) {x y z : Int32} (h : Inv i σ) : Op G yX6_taste cX6_taste 4 yX7_taste cX7_taste 5 d [.int x, .int y, .int z] i σ := by
  have hh := h
  obtain ⟨L, T, I, b, hT, hB, hM, hS, hO, hW, hR, hK⟩ := h
  have hC := hT.1
  have hE := hT.2.1
  have hI := hC.2.2.1
  have hn := hI.nc
  have hm := hI.np
  by_cases hx : hasI x (T 0 5) ∧ inI y 0 2 ∧ inI z 0 100
  · obtain ⟨c, hc, rfl⟩ := (hasI_iff (by omega)).mp hx.1
    obtain ⟨s, hs, rfl⟩ := (inI_iff (b := 2) (by decide)).mp hx.2.1
    obtain ⟨n, hn1, rfl⟩ := (inI_iff (b := 100) (by decide)).mp hx.2.2
    exact Op.ask hh (c_taste (by omega) hC hT.2.2.2.1 hc hs hn1) (fun σ1 f1 => m_taste (by omega) (hE.fi f1) hc hs hn1)
  · exact Op.ask hh (Cf.fi (c_taste_bad (by omega) hC hx)) (fun σ1 f1 => Cf.fi (m_taste_bad (by omega) (hE.fi f1) hx))

def rsF (L T : nT) : Nat → Nat → Nat
  | 0, k => k
  | f + 1, k => if runN L (hoursT L k T) (hoursT L k T 0 10) = 0 then k else rsF L T f (k + 1)
def rsA (R : Nat) : Int32 := if 300 < R then -1000000005 else nI R
theorem rsF_s {L T : nT} {f k : Nat} : rsF L T (f + 1) k = if runN L (hoursT L k T) (hoursT L k T 0 10) = 0 then k else rsF L T f (k + 1) := rfl
theorem rs_stop {L T : nT} {k R : Nat} (h : rsF L T (301 - k) k = R) (hk : k ≤ 300) (e : runN L (hoursT L k T) (hoursT L k T 0 10) = 0) : R = k := by
  rw [show 301 - k = 300 - k + 1 by omega, rsF_s, if_pos e] at h
  exact h.symm
theorem rs_on {L T : nT} {k R : Nat} (h : rsF L T (301 - k) k = R) (hk : k ≤ 300) (e : runN L (hoursT L k T) (hoursT L k T 0 10) ≠ 0) : rsF L T (301 - (k + 1)) (k + 1) = R := by
  rw [show 301 - k = 300 - k + 1 by omega, rsF_s, if_neg e] at h
  rw [show 301 - (k + 1) = 300 - k by omega]
  exact h
theorem rs_end {L T : nT} {k R : Nat} (h : rsF L T (301 - k) k = R) (hk : 300 < k) : R = k := by
  rw [show 301 - k = 0 by omega] at h
  exact h.symm
theorem run_le {L T : nT} : ∀ n, runN L T n ≤ n := by
  intro n
  induction n with
  | zero => exact Nat.le_refl _
  | succ n ih =>
    unfold runN
    split <;> omega

set_option maxRecDepth 100000 in
set_option maxHeartbeats 4000000 in
theorem lp_c_rests {G : vG} {d : Nat} {σ0 : vS} {L T : nT} {N R : Nat} (hd : 5 ≤ d + 1) : ∀ (k : Nat) (k1 : Nat) (σ : vS), (TC L N 85 (hoursT L k1 T) σ ∧ Fr 85 σ0 σ ∧ k1 ≤ 301 ∧ rsF L T (301 - k1) k1 = R) → 301 - k1 < k → V G RX6 cX6_rests (some .int) 2 (d + 1) (fun r' σ' => r' = some (.int (rsA R)) ∧ FI σ0 σ') 6 [some (.ref 0), some (.int (nI k1))] [] σ := by
  intro k
  induction k with
  | zero => intros; omega
  | succ k ih =>
    intro k1 σ hh hk
    obtain ⟨hP, hF, hj, hR⟩ := hh
    obtain ⟨U, hUe⟩ : ∃ U, U = hoursT L k1 T := ⟨_, rfl⟩
    rw [← hUe] at hP
    have hIU := hP.2.2.1
    have hU := hP.2.1.1
    have hHU := hP.2.1
    have hr := run_le (L := L) (T := U) (U 0 10)
    have hp := hIU.np
    refine V_iloadn_1 dX6_rests_6 ?_
    refine V_sipush 300 dX6_rests_7 (by decide) ?_
    refine V_icmpN_gt (a := k1) (b := 300) dX6_rests_10 38 (by decide) (by omega) (by omega) (fun h10 => ?_) (fun h10 => ?_)
    · refine V_ldc (-1000000005) dX6_rests_38 cn_X6_189 ?_
      exact V_iret dX6_rests_40 ⟨rI (by rw [rs_end hR (by omega)]; unfold rsA; rw [if_pos (by omega)]), hF.fi⟩
    · refine V_aloadn_0 dX6_rests_13 ?_
      refine V_getR dX6_rests_14 fl_X6_53 oC_thought ?_
      refine V_cv0f dX6_rests_17 cv_X6_177 (rcT tw85) (Nat.le_of_ble_eq_true rfl) (k_T_runningPipes (by omega) tw85 hHU hIU) ?_
      refine V_ifN_ne (a := runN L U (U 0 10)) dX6_rests_20 25 (by decide) (by omega) (fun h20 => ?_) (fun h20 => ?_)
      · refine V_aloadn_0 dX6_rests_25 ?_
        refine V_getR dX6_rests_26 fl_X6_53 oC_thought ?_
        refine V_cv0n dX6_rests_29 cv_X6_186 (rcT tw85) (Nat.le_of_ble_eq_true rfl) (k_T_oneHour (by omega) hP) (fun σ h9 => ?_)
        refine V_iinc_1 dX6_rests_32 (by first | exact rfl | exact True.intro) (by decide) (nI (k1 + 1)) (nI_inc _) ?_
        refine V_goto dX6_rests_35 6 (by decide) ?_
        refine ih (k1 + 1) _ ⟨?_, hF.tr h9.2, by omega, rs_on hR (by omega) (by rw [← hUe]; exact h20)⟩ (by omega)
        show TC L N 85 (hourT L (hoursT L k1 T)) _
        rw [← hUe]
        exact h9.1
      · refine V_iloadn_1 dX6_rests_23 ?_
        exact V_iret dX6_rests_24 ⟨rI (by rw [rs_stop hR (by omega) (by rw [← hUe]; exact h20)]; unfold rsA; rw [if_neg (by omega)]), hF.fi⟩

set_option maxRecDepth 100000 in
set_option maxHeartbeats 4000000 in
theorem c_rests {G : vG} {σ : vS} {d : Nat} (hd : 5 ≤ d) {L T : nT} {N : Nat} (hC : TC L N 61 T σ) (hm12 : T 0 10 ≤ 12) : Cr G yX6_rests cX6_rests 2 (some .int) d [.ref 0] σ (some (.int (rsA (rsF L T 301 0)))) (fun σ' => FI σ σ') := by
  refine Ct.ofV (by decide) (Nat.le_of_ble_eq_true rfl) rfl ?_
  show V G RX6 cX6_rests (some .int) 2 d _ 0 [some (.ref 0), none] [] _
  obtain ⟨d, rfl⟩ : ∃ e, d = e + 1 := ⟨d - 1, by omega⟩
  obtain ⟨ht, hH, hI, hL, hLI, hN, hN2⟩ := id hC
  have hT := hH.1
  have hn := hI.nc
  have hm := hI.np
  refine V_aloadn_0 dX6_rests_0 ?_
  refine V_cv0n dX6_rests_1 cv_X6_183 rcC (Nat.le_of_ble_eq_true rfl) (k_C_think (by omega) hC (by omega)) (fun σ h5 => ?_)
  have hF := h5.2
  have hP := h5.1
  replace hC := hC.other h5.2 tw85 (by decide)
  have hT := hC.2.1.1
  have hH := hC.2.1
  refine V_iconst 0 dX6_rests_4 (by decide) ?_
  refine V_istoren_1 dX6_rests_5 (by first | exact rfl | exact True.intro) (by decide) ?_
  exact lp_c_rests (by omega) 302 0 _ ⟨hP, hF, by omega, rfl⟩ (by omega)

set_option maxRecDepth 100000 in
set_option maxHeartbeats 4000000 in
theorem lp_m_rests {G : vG} {d : Nat} {σ0 : vS} {L T : nT} {R : Nat} (hd : 8 ≤ d + 1) : ∀ (k : Nat) (k1 : Nat) (σ : vS), (MC L (hoursT L k1 T) σ ∧ BK σ0 σ ∧ k1 ≤ 301 ∧ rsF L T (301 - k1) k1 = R) → 301 - k1 < k → V G RX7 cX7_rests (some .int) 2 (d + 1) (fun r' σ' => r' = some (.int (rsA R)) ∧ FI σ0 σ') 6 [some (.ref 97), some (.int (nI k1))] [] σ := by
  intro k
  induction k with
  | zero => intros; omega
  | succ k ih =>
    intro k1 σ hh hk
    obtain ⟨hC, hK, hj, hR⟩ := hh
    obtain ⟨U, hUe⟩ : ∃ U, U = hoursT L k1 T := ⟨_, rfl⟩
    rw [← hUe] at hC
    have hIU := hC.2.2.1
    have hr := run_le (L := L) (T := U) (U 0 10)
    have hp := hIU.np
    refine V_iloadn_1 dX7_rests_6 ?_
    refine V_sipush 300 dX7_rests_7 (by decide) ?_
    refine V_icmpN_gt (a := k1) (b := 300) dX7_rests_10 30 (by decide) (by omega) (by omega) (fun h10 => ?_) (fun h10 => ?_)
    · refine V_aloadn_0 dX7_rests_30 ?_
      refine V_cv0v dX7_rests_31 cv_X7_183 rcM (Nat.le_of_ble_eq_true rfl) k_M_putsBack ?_
      refine V_iloadn_1 dX7_rests_34 ?_
      refine V_sipush 300 dX7_rests_35 (by decide) ?_
      refine V_icmpN_le (a := k1) (b := 300) dX7_rests_38 46 (by decide) (by omega) (by omega) (fun h38 => ?_) (fun h38 => ?_)
      · refine V_iloadn_1 dX7_rests_46 ?_
        exact V_iret dX7_rests_47 ⟨rI (by first | (exfalso; omega) | (rw [rs_end hR (by omega)]; unfold rsA; rw [if_pos (by omega)]) | (rw [rs_stop hR (by omega) (by rw [← hUe]; omega)]; unfold rsA; rw [if_neg (by omega)])), hK.fin⟩
      · refine V_ldc (-1000000005) dX7_rests_41 cn_X7_81 ?_
        refine V_goto dX7_rests_43 47 (by decide) ?_
        exact V_iret dX7_rests_47 ⟨rI (by first | (exfalso; omega) | (rw [rs_end hR (by omega)]; unfold rsA; rw [if_pos (by omega)]) | (rw [rs_stop hR (by omega) (by rw [← hUe]; omega)]; unfold rsA; rw [if_neg (by omega)])), hK.fin⟩
    · refine V_aloadn_0 dX7_rests_13 ?_
      refine V_cv0r dX7_rests_14 cv_X7_177 rcM (Nat.le_of_ble_eq_true rfl) (k_M_running (by omega) hC) (fun σ hq => ?_)
      replace hC := hC.fh hq
      replace hK := hK.fm hq.m
      refine V_ifN_le (a := runN L U (U 0 10)) dX7_rests_17 30 (by decide) (by omega) (fun h17 => ?_) (fun h17 => ?_)
      · refine V_aloadn_0 dX7_rests_30 ?_
        refine V_cv0v dX7_rests_31 cv_X7_183 rcM (Nat.le_of_ble_eq_true rfl) k_M_putsBack ?_
        refine V_iloadn_1 dX7_rests_34 ?_
        refine V_sipush 300 dX7_rests_35 (by decide) ?_
        refine V_icmpN_le (a := k1) (b := 300) dX7_rests_38 46 (by decide) (by omega) (by omega) (fun h38 => ?_) (fun h38 => ?_)
        · refine V_iloadn_1 dX7_rests_46 ?_
          exact V_iret dX7_rests_47 ⟨rI (by first | (exfalso; omega) | (rw [rs_end hR (by omega)]; unfold rsA; rw [if_pos (by omega)]) | (rw [rs_stop hR (by omega) (by rw [← hUe]; omega)]; unfold rsA; rw [if_neg (by omega)])), hK.fin⟩
        · refine V_ldc (-1000000005) dX7_rests_41 cn_X7_81 ?_
          refine V_goto dX7_rests_43 47 (by decide) ?_
          exact V_iret dX7_rests_47 ⟨rI (by first | (exfalso; omega) | (rw [rs_end hR (by omega)]; unfold rsA; rw [if_pos (by omega)]) | (rw [rs_stop hR (by omega) (by rw [← hUe]; omega)]; unfold rsA; rw [if_neg (by omega)])), hK.fin⟩
      · refine V_aloadn_0 dX7_rests_20 ?_
        refine V_cv0n dX7_rests_21 cv_X7_168 rcM (Nat.le_of_ble_eq_true rfl) (k_M_hour (by omega) hC) (fun σ h9 => ?_)
        refine V_iinc_1 dX7_rests_24 (by first | exact rfl | exact True.intro) (by decide) (nI (k1 + 1)) (nI_inc _) ?_
        refine V_goto dX7_rests_27 6 (by decide) ?_
        refine ih (k1 + 1) _ ⟨?_, hK.fm h9.2, by omega, rs_on hR (by omega) (by rw [← hUe]; omega)⟩ (by omega)
        show MC L (hourT L (hoursT L k1 T)) _
        rw [← hUe]
        exact h9.1

set_option maxRecDepth 100000 in
set_option maxHeartbeats 4000000 in
theorem m_rests {G : vG} {σ : vS} {d : Nat} (hd : 8 ≤ d) {L T : nT} (hC : MC L T σ) : Cr G yX7_rests cX7_rests 2 (some .int) d [.ref 97] σ (some (.int (rsA (rsF L T 301 0)))) (fun σ' => FI σ σ') := by
  refine Ct.ofV (by decide) (Nat.le_of_ble_eq_true rfl) rfl ?_
  show V G RX7 cX7_rests (some .int) 2 d _ 0 [some (.ref 97), none] [] _
  obtain ⟨d, rfl⟩ : ∃ e, d = e + 1 := ⟨d - 1, by omega⟩
  have hI := hC.2.2.1
  have hn := hI.nc
  have hm := hI.np
  refine V_aloadn_0 dX7_rests_0 ?_
  refine V_cv0v dX7_rests_1 cv_X7_180 rcM (Nat.le_of_ble_eq_true rfl) k_M_thinks ?_
  refine V_abs (fun σ1 => BK σ σ1 ∧ MC L T σ1) ⟨BK.think (fun _ _ _ _ _ _ => rfl), hC.thk⟩ (fun σ1 h1 => ?_)
  have hC0 := hC
  have hK := h1.1
  replace hC := h1.2
  refine V_iconst 0 dX7_rests_4 (by decide) ?_
  refine V_istoren_1 dX7_rests_5 (by first | exact rfl | exact True.intro) (by decide) ?_
  exact lp_m_rests (by omega) 302 0 _ ⟨hC, hK, by omega, rfl⟩ (by omega)

set_option maxRecDepth 100000 in
set_option maxHeartbeats 4000000 in
theorem op_rests {G : vG} {σ : vS} {d i : Nat} (hd : 100 ≤ d) (hi : i < 512) (h : Inv i σ) : Op G yX6_rests cX6_rests 2 yX7_rests cX7_rests 2 d [] i σ := by
  have hh := h
  obtain ⟨L, T, I, b, hT, hB, hM, hS, hO, hW, hR, hK⟩ := h
  have hC := hT.1
  have hE := hT.2.1
  have hI := hC.2.2.1
  have hn := hI.nc
  have hm := hI.np
  exact Op.ask hh (c_rests (by omega) hC hT.2.2.2.1) (fun σ1 f1 => m_rests (by omega) (hE.fi f1))
