/-! ===== the best of a row ===== -/
def stO (up : Bool) (o : Option (Nat × Int32)) (b : Nat) (v : Int32) : Option (Nat × Int32) :=
  match o with
  | none => some (b, v)
  | some q => if (if up = true then q.2 < v else v < q.2) then some (b, v) else some q
def bO (e : Int32) (o : Option (Nat × Int32)) : Int32 := match o with | none => e | some q => nI q.1
def wO (e : Int32) (o : Option (Nat × Int32)) : Int32 := match o with | none => e | some q => q.2
def okO (o : Option (Nat × Int32)) : Prop := ∀ q, o = some q → q.1 < 1000
theorem okO.n : okO none := fun _ h => by cases h
theorem okO.st {up : Bool} {o : Option (Nat × Int32)} {b : Nat} {v : Int32} (h : okO o) (hb : b < 1000) : okO (stO up o b v) := by
  intro q e
  cases o with
  | none => cases e; exact hb
  | some r =>
    by_cases g : (if up = true then r.2 < v else v < r.2)
    · simp only [stO, if_pos g] at e
      cases e; exact hb
    · simp only [stO, if_neg g] at e
      cases e; exact h _ rfl
theorem bO_none {o : Option (Nat × Int32)} (h : okO o) : bO (-1000000005) o = -1000000005 ↔ o = none := by
  cases o with
  | none => exact ⟨fun _ => rfl, fun _ => rfl⟩
  | some q =>
    refine ⟨fun e => ?_, fun e => by cases e⟩
    have hq := h q rfl
    have e2 : (nI q.1).toInt = (-1000000005 : Int32).toInt := congrArg _ e
    rw [nI_toInt (by omega)] at e2
    have e3 : (-1000000005 : Int32).toInt = -1000000005 := by decide
    omega
theorem bO_neg {o : Option (Nat × Int32)} (h : okO o) : bO (-1) o < 0 ↔ o = none := by
  cases o with
  | none => exact ⟨fun _ => rfl, fun _ => by decide⟩
  | some q =>
    refine ⟨fun e => ?_, fun e => by cases e⟩
    have hq := h q rfl
    exact absurd e (nI_pos (by omega))
theorem bO_ge {o : Option (Nat × Int32)} (h : okO o) : 0 ≤ bO (-1) o ↔ o ≠ none := by
  rw [ne_eq, ← bO_neg h, Int32.not_lt]
theorem bO_e {e e' : Int32} {o : Option (Nat × Int32)} (h : o ≠ none) : bO e o = bO e' o := by
  cases o with
  | none => exact absurd rfl h
  | some q => rfl
theorem wO_e {e e' : Int32} {o : Option (Nat × Int32)} (h : o ≠ none) : wO e o = wO e' o := by
  cases o with
  | none => exact absurd rfl h
  | some q => rfl
theorem stU_t {e : Int32} {o : Option (Nat × Int32)} {b : Nat} {v : Int32} (h : ¬ v ≤ wO e o) : stO true o b v = some (b, v) := by
  cases o with
  | none => rfl
  | some q =>
    have : q.2 < v := Int32.not_le.mp h
    simp only [stO, if_true, if_pos this]
theorem stU_k {e : Int32} {o : Option (Nat × Int32)} {b : Nat} {v : Int32} (ho : o ≠ none) (h : v ≤ wO e o) : stO true o b v = o := by
  cases o with
  | none => exact absurd rfl ho
  | some q =>
    have : ¬ q.2 < v := fun g => absurd h (Int32.not_le.mpr g)
    simp only [stO, if_true, if_neg this]
theorem stD_t {e : Int32} {o : Option (Nat × Int32)} {b : Nat} {v : Int32} (h : ¬ wO e o ≤ v) : stO false o b v = some (b, v) := by
  cases o with
  | none => rfl
  | some q =>
    have : v < q.2 := Int32.not_le.mp h
    simp only [stO, if_neg (show ¬ (false = true) by decide), if_pos this]
theorem stD_k {e : Int32} {o : Option (Nat × Int32)} {b : Nat} {v : Int32} (ho : o ≠ none) (h : wO e o ≤ v) : stO false o b v = o := by
  cases o with
  | none => exact absurd rfl ho
  | some q =>
    have : ¬ v < q.2 := fun g => absurd h (Int32.not_le.mpr g)
    simp only [stO, if_neg (show ¬ (false = true) by decide), if_neg this]
theorem stN_t {up : Bool} {o : Option (Nat × Int32)} {b : Nat} {v : Int32} (ho : o = none) : stO up o b v = some (b, v) := by
  rw [ho]; rfl
/-- the answer: which, or how much -/
def anO (w : Nat) (o : Option (Nat × Int32)) : Int32 := if w = 0 then bO (-1000000005) o else wO (-1000000005) o
theorem an_n {w : Nat} {o : Option (Nat × Int32)} (h : o = none) : (-1000000005 : Int32) = anO w o := by
  rw [h]; unfold anO; split <;> rfl
theorem an_b {e : Int32} {w : Nat} {o : Option (Nat × Int32)} (h : o ≠ none) (hw : w = 0) : bO e o = anO w o := by
  unfold anO; rw [if_pos hw]; exact bO_e h
theorem an_v {e : Int32} {w : Nat} {o : Option (Nat × Int32)} (h : o ≠ none) (hw : w ≠ 0) : wO e o = anO w o := by
  unfold anO; rw [if_neg hw]; exact wO_e h
/-! ===== corks ===== -/
def ckF (L T : nT) (c n : Nat) : Nat → Option (Nat × Int32)
  | 0 => none
  | p + 1 => if T 9 p = 0 then stO true (ckF L T c n p) p (nI (fullT (hoursT L n (Tup T 9 p 1)) c)) else ckF L T c n p
theorem ckF_s {L T : nT} {c n p : Nat} : ckF L T c n (p + 1) = if T 9 p = 0 then stO true (ckF L T c n p) p (nI (fullT (hoursT L n (Tup T 9 p 1)) c)) else ckF L T c n p := rfl
theorem ckF_ok {L T : nT} {c n : Nat} : ∀ p, p ≤ 100 → okO (ckF L T c n p) := by
  intro p
  induction p with
  | zero => intro _; exact okO.n
  | succ p ih =>
    intro h
    rw [ckF_s]
    split
    · exact (ih (by omega)).st (by omega)
    · exact ih (by omega)

set_option maxRecDepth 100000 in
set_option maxHeartbeats 4000000 in
theorem lp_c_corks {G : vG} {d : Nat} {σ0 : vS} {L T : nT} {N c n w : Nat} (hd : 6 ≤ d + 1) (hm12 : T 0 10 ≤ 12) (hc : c < T 0 5) (hn60 : n ≤ 60) (hw : w ≤ 1) : ∀ (k : Nat) (p : Nat) (b m : Int32) (σ : vS), (TC L N 61 T σ ∧ Fr 85 σ0 σ ∧ p ≤ T 0 10 ∧ b = bO (-1000000005) (ckF L T c n p) ∧ m = wO (-1000000005) (ckF L T c n p)) → T 0 10 - p < k → V G RX6 cX6_corks (some .int) 8 (d + 1) (fun r' σ' => r' = some (.int (anO w (ckF L T c n (T 0 10)))) ∧ FI σ0 σ') 44 [some (.ref 0), some (.int (nI c)), some (.int (nI n)), some (.int (nI w)), some (.int b), some (.int m), some (.int (nI p)), none] [] σ := by
  intro k
  induction k with
  | zero => intros; omega
  | succ k ih =>
    intro p b m σ hh hk
    obtain ⟨hC, hF, hp, hbb, hmm⟩ := hh
    obtain ⟨ht, hH, hI, hL, hLI, hN, hN2⟩ := id hC
    have hT := hH.1
    have hn := hI.nc
    have hm := hI.np
    have hok := ckF_ok (L := L) (T := T) (c := c) (n := n) p (by omega)
    refine V_iload_6 dX6_corks_44 ?_
    refine V_aloadn_0 dX6_corks_46 ?_
    refine V_getR dX6_corks_47 fl_X6_46 oC_now ?_
    refine V_getI dX6_corks_50 fl_X6_126 (oT_pipes tw61) ?_
    refine V_topi hT.n10 ?_
    refine V_icmpN_ge (a := p) (b := T 0 10) dX6_corks_53 121 (by decide) (by omega) (by omega) (fun h53 => ?_) (fun h53 => ?_)
    · refine V_iloadn_3 dX6_corks_121 ?_
      refine V_ifN_ne (a := w) dX6_corks_122 130 (by decide) (by omega) (fun h122 => ?_) (fun h122 => ?_)
      · refine V_iload_5 dX6_corks_130 ?_
        exact V_iret dX6_corks_132 ⟨rI (by rw [show T 0 10 = p by omega, hmm]; unfold anO; rw [if_neg h122]), hF.fi⟩
      · refine V_iload_4 dX6_corks_125 ?_
        refine V_goto dX6_corks_127 132 (by decide) ?_
        exact V_iret dX6_corks_132 ⟨rI (by rw [show T 0 10 = p by omega, hbb]; unfold anO; rw [if_pos h122]), hF.fi⟩
    · refine V_aloadn_0 dX6_corks_56 ?_
      refine V_getR dX6_corks_57 fl_X6_46 oC_now ?_
      refine V_getR dX6_corks_60 fl_X6_144 (oT_corked tw61) ?_
      refine V_iload_6 dX6_corks_63 ?_
      refine V_iald (j := p) dX6_corks_65 (aT_corked tw61) (by omega) (by decide) ?_
      refine V_topi (hT.k9 (by omega)) ?_
      refine V_ifN_ne (a := T 9 p) dX6_corks_66 115 (by decide) (by have := (hI.pi (p := p) (by omega)); omega) (fun h66 => ?_) (fun h66 => ?_)
      · refine V_iinc_6 dX6_corks_115 (by first | exact rfl | exact True.intro) (by decide) (nI (p + 1)) (nI_inc _) ?_
        refine V_goto dX6_corks_118 44 (by decide) ?_
        exact ih (p + 1) b m _ ⟨hC, hF, by omega, by rw [ckF_s, if_neg h66]; exact hbb, by rw [ckF_s, if_neg h66]; exact hmm⟩ (by omega)
      · refine V_aloadn_0 dX6_corks_69 ?_
        refine V_iload_6 dX6_corks_70 ?_
        refine V_cv1n dX6_corks_72 cv_X6_190 rcC (Nat.le_of_ble_eq_true rfl) (k_C_thinkC (by omega) hC hm12 (by omega)) (fun σ h5 => ?_)
        replace hF := hF.tr h5.2
        have hP := h5.1
        have hIP := hP.2.2.1
        replace hC := hC.other h5.2 tw85 (by decide)
        have hT := hC.2.1.1
        have hH := hC.2.1
        refine V_aloadn_0 dX6_corks_75 ?_
        refine V_getR dX6_corks_76 fl_X6_53 oC_thought ?_
        refine V_iloadn_2 dX6_corks_79 ?_
        refine V_cv1n dX6_corks_80 cv_X6_170 (rcT tw85) (Nat.le_of_ble_eq_true rfl) (k_T_passHours (by omega) hP (by omega)) (fun σ h6 => ?_)
        replace hF := hF.tr h6.2
        replace hP := h6.1
        replace hC := hC.other h6.2 tw85 (by decide)
        have hT := hC.2.1.1
        have hH := hC.2.1
        have hX := hIP.hours (L := L) n
        obtain ⟨U, hUe⟩ : ∃ U, U = hoursT L n (Tup T 9 p 1) := ⟨_, rfl⟩
        rw [← hUe] at hP hX
        have hU := hP.2.1.1
        have hHU := hP.2.1
        have hIU := hP.2.2.1
        have u5 := hX.2 0 5 (by decide) (by omega)
        have u10 := hX.2 0 10 (by decide) (by omega)
        rw [Tup_ne (by omega)] at u5 u10
        refine V_aloadn_0 dX6_corks_83 ?_
        refine V_getR dX6_corks_84 fl_X6_53 oC_thought ?_
        refine V_iloadn_1 dX6_corks_87 ?_
        refine V_cv1f dX6_corks_88 cv_X6_88 (rcT tw85) (Nat.le_of_ble_eq_true rfl) (k_T_fullOf tw85 hU hIU (by omega)) ?_
        refine V_istore_7 dX6_corks_91 (by first | exact rfl | exact True.intro) (by decide) ?_
        refine V_iload_4 dX6_corks_93 ?_
        refine V_ldc (-1000000005) dX6_corks_95 cn_X6_189 ?_
        refine V_icmp_eq dX6_corks_97 107 (by decide) (fun h97 => ?_) (fun h97 => ?_)
        · refine V_iload_6 dX6_corks_107 ?_
          refine V_istore_4 dX6_corks_109 (by first | exact rfl | exact True.intro) (by decide) ?_
          refine V_iload_7 dX6_corks_111 ?_
          refine V_istore_5 dX6_corks_113 (by first | exact rfl | exact True.intro) (by decide) ?_
          refine V_iinc_6 dX6_corks_115 (by first | exact rfl | exact True.intro) (by decide) (nI (p + 1)) (nI_inc _) ?_
          refine V_goto dX6_corks_118 44 (by decide) ?_
          refine V_fg_7 ?_
          have e9 : ckF L T c n (p + 1) = some (p, nI (fullT U c)) := by
            rw [ckF_s, if_pos h66, ← hUe]
            exact stN_t ((bO_none hok).mp (by rw [← hbb]; exact h97))
          exact ih (p + 1) _ _ _ ⟨hC, hF, by omega, by rw [e9]; rfl, by rw [e9]; rfl⟩ (by omega)
        · refine V_iload_7 dX6_corks_100 ?_
          refine V_iload_5 dX6_corks_102 ?_
          refine V_icmp_le dX6_corks_104 115 (by decide) (fun h104 => ?_) (fun h104 => ?_)
          · refine V_iinc_6 dX6_corks_115 (by first | exact rfl | exact True.intro) (by decide) (nI (p + 1)) (nI_inc _) ?_
            refine V_goto dX6_corks_118 44 (by decide) ?_
            refine V_fg_7 ?_
            have e9 : ckF L T c n (p + 1) = ckF L T c n p := by
              rw [ckF_s, if_pos h66, ← hUe]
              exact stU_k (e := -1000000005) (fun e => h97 (by rw [hbb]; exact (bO_none hok).mpr e)) (by rw [← hmm]; exact h104)
            exact ih (p + 1) b m _ ⟨hC, hF, by omega, by rw [e9]; exact hbb, by rw [e9]; exact hmm⟩ (by omega)
          · refine V_iload_6 dX6_corks_107 ?_
            refine V_istore_4 dX6_corks_109 (by first | exact rfl | exact True.intro) (by decide) ?_
            refine V_iload_7 dX6_corks_111 ?_
            refine V_istore_5 dX6_corks_113 (by first | exact rfl | exact True.intro) (by decide) ?_
            refine V_iinc_6 dX6_corks_115 (by first | exact rfl | exact True.intro) (by decide) (nI (p + 1)) (nI_inc _) ?_
            refine V_goto dX6_corks_118 44 (by decide) ?_
            refine V_fg_7 ?_
            have e9 : ckF L T c n (p + 1) = some (p, nI (fullT U c)) := by
              rw [ckF_s, if_pos h66, ← hUe]
              exact stU_t (e := -1000000005) (by rw [← hmm]; exact h104)
            exact ih (p + 1) _ _ _ ⟨hC, hF, by omega, by rw [e9]; rfl, by rw [e9]; rfl⟩ (by omega)

set_option maxRecDepth 100000 in
set_option maxHeartbeats 4000000 in
theorem c_corks {G : vG} {σ : vS} {d : Nat} (hd : 6 ≤ d) {L T : nT} {N : Nat} (hC : TC L N 61 T σ) (hm12 : T 0 10 ≤ 12) {c n w : Nat} (hc : c < T 0 5) (hn1 : 1 ≤ n ∧ n ≤ 60) (hw : w ≤ 1) : Cr G yX6_corks cX6_corks 8 (some .int) d [.ref 0, .int (nI c), .int (nI n), .int (nI w)] σ (some (.int (anO w (ckF L T c n (T 0 10))))) (fun σ' => FI σ σ') := by
  refine Ct.ofV (by decide) (Nat.le_of_ble_eq_true rfl) rfl ?_
  show V G RX6 cX6_corks (some .int) 8 d _ 0 [some (.ref 0), some (.int (nI c)), some (.int (nI n)), some (.int (nI w)), none, none, none, none] [] _
  obtain ⟨d, rfl⟩ : ∃ e, d = e + 1 := ⟨d - 1, by omega⟩
  obtain ⟨ht, hH, hI, hL, hLI, hN, hN2⟩ := id hC
  have hT := hH.1
  have hn := hI.nc
  have hm := hI.np
  refine V_aloadn_0 dX6_corks_0 ?_
  refine V_getR dX6_corks_1 fl_X6_46 oC_now ?_
  refine V_iloadn_1 dX6_corks_4 ?_
  refine V_cv1f dX6_corks_5 cv_X6_76 (rcT tw61) (Nat.le_of_ble_eq_true rfl) (k_T_hasCellar tw61 hT) ?_
  refine V_ifB_eq dX6_corks_8 30 (by decide) (fun h8 => ?_) (fun h8 => ?_)
  · exact absurd (hasN hc (by omega)) h8
  · refine V_iloadn_2 dX6_corks_11 ?_
    refine V_iconst 1 dX6_corks_12 (by decide) ?_
    refine V_bipush 60 dX6_corks_13 (by decide) ?_
    refine V_cs3f dX6_corks_15 cs_X6_108 (Nat.le_of_ble_eq_true rfl) k_C_within ?_
    refine V_ifB_eq dX6_corks_18 30 (by decide) (fun h18 => ?_) (fun h18 => ?_)
    · exact absurd (inN (a := 1) (b := 60) hn1.1 hn1.2 (by decide)) h18
    · refine V_iloadn_3 dX6_corks_21 ?_
      refine V_iconst 0 dX6_corks_22 (by decide) ?_
      refine V_iconst 1 dX6_corks_23 (by decide) ?_
      refine V_cs3f dX6_corks_24 cs_X6_108 (Nat.le_of_ble_eq_true rfl) k_C_within ?_
      refine V_ifB_ne dX6_corks_27 33 (by decide) (fun h27 => ?_) (fun h27 => ?_)
      · refine V_ldc (-1000000005) dX6_corks_33 cn_X6_189 ?_
        refine V_istore_4 dX6_corks_35 (by first | exact rfl | exact True.intro) (by decide) ?_
        refine V_ldc (-1000000005) dX6_corks_37 cn_X6_189 ?_
        refine V_istore_5 dX6_corks_39 (by first | exact rfl | exact True.intro) (by decide) ?_
        refine V_iconst 0 dX6_corks_41 (by decide) ?_
        refine V_istore_6 dX6_corks_42 (by first | exact rfl | exact True.intro) (by decide) ?_
        exact lp_c_corks (by omega) hm12 hc hn1.2 hw (T 0 10 + 1) 0 _ _ σ ⟨hC, Fr.rf, by omega, rfl, rfl⟩ (by omega)
      · exact absurd (inN (a := 0) (b := 1) (by omega) hw (by decide)) h27

set_option maxRecDepth 100000 in
set_option maxHeartbeats 4000000 in
theorem c_corks_bad {G : vG} {σ : vS} {d : Nat} (hd : 6 ≤ d) {L T : nT} {N : Nat} (hC : TC L N 61 T σ) {x y z : Int32} (hb : ¬ (hasI x (T 0 5) ∧ inI y 1 60 ∧ inI z 0 1)) : Cf G yX6_corks cX6_corks 8 (some .int) d [.ref 0, .int x, .int y, .int z] σ (some (.int (-1000000001))) σ := by
  refine Ct.ofV (by decide) (Nat.le_of_ble_eq_true rfl) rfl ?_
  show V G RX6 cX6_corks (some .int) 8 d _ 0 [some (.ref 0), some (.int x), some (.int y), some (.int z), none, none, none, none] [] _
  obtain ⟨d, rfl⟩ : ∃ e, d = e + 1 := ⟨d - 1, by omega⟩
  obtain ⟨ht, hH, hI, hL, hLI, hN, hN2⟩ := id hC
  have hT := hH.1
  have hn := hI.nc
  have hm := hI.np
  refine V_aloadn_0 dX6_corks_0 ?_
  refine V_getR dX6_corks_1 fl_X6_46 oC_now ?_
  refine V_iloadn_1 dX6_corks_4 ?_
  refine V_cv1f dX6_corks_5 cv_X6_76 (rcT tw61) (Nat.le_of_ble_eq_true rfl) (k_T_hasCellar tw61 hT) ?_
  refine V_ifB_eq dX6_corks_8 30 (by decide) (fun h8 => ?_) (fun h8 => ?_)
  · refine V_ldc (-1000000001) dX6_corks_30 cn_X6_66 ?_
    exact V_iret dX6_corks_32 ⟨rfl, rfl⟩
  · refine V_iloadn_2 dX6_corks_11 ?_
    refine V_iconst 1 dX6_corks_12 (by decide) ?_
    refine V_bipush 60 dX6_corks_13 (by decide) ?_
    refine V_cs3f dX6_corks_15 cs_X6_108 (Nat.le_of_ble_eq_true rfl) k_C_within ?_
    refine V_ifB_eq dX6_corks_18 30 (by decide) (fun h18 => ?_) (fun h18 => ?_)
    · refine V_ldc (-1000000001) dX6_corks_30 cn_X6_66 ?_
      exact V_iret dX6_corks_32 ⟨rfl, rfl⟩
    · refine V_iloadn_3 dX6_corks_21 ?_
      refine V_iconst 0 dX6_corks_22 (by decide) ?_
      refine V_iconst 1 dX6_corks_23 (by decide) ?_
      refine V_cs3f dX6_corks_24 cs_X6_108 (Nat.le_of_ble_eq_true rfl) k_C_within ?_
      refine V_ifB_ne dX6_corks_27 33 (by decide) (fun h27 => ?_) (fun h27 => ?_)
      · exact absurd ⟨h8, h18, h27⟩ hb
      · refine V_ldc (-1000000001) dX6_corks_30 cn_X6_66 ?_
        exact V_iret dX6_corks_32 ⟨rfl, rfl⟩

set_option maxRecDepth 100000 in
set_option maxHeartbeats 4000000 in
theorem lp_m_corks {G : vG} {d : Nat} {σ0 : vS} {L T : nT} {c n w : Nat} (hd : 9 ≤ d + 1) (hC0 : MC L T σ0) (hc : c < T 0 5) (hn60 : n ≤ 60) (hw : w ≤ 1) : ∀ (k : Nat) (p : Nat) (b m : Int32) (σ : vS), (σ 98 = σ0 98 ∧ BK σ0 σ ∧ p ≤ T 0 10 ∧ b = bO (-1) (ckF L T c n p) ∧ m = wO (-1) (ckF L T c n p)) → T 0 10 - p < k → V G RX7 cX7_corks (some .int) 8 (d + 1) (fun r' σ' => r' = some (.int (anO w (ckF L T c n (T 0 10)))) ∧ FI σ0 σ') 43 [some (.ref 97), some (.int (nI c)), some (.int (nI n)), some (.int (nI w)), some (.int b), some (.int m), some (.int (nI p)), none] [] σ := by
  intro k
  induction k with
  | zero => intros; omega
  | succ k ih =>
    intro p b m σ hh hk
    obtain ⟨h98, hK, hp, hbb, hmm⟩ := hh
    have hC := hC0.e98 h98
    have hI := hC.2.2.1
    have hn := hI.nc
    have hm := hI.np
    have hok := ckF_ok (L := L) (T := T) (c := c) (n := n) p (by omega)
    refine V_iload_6 dX7_corks_43 ?_
    refine V_aloadn_0 dX7_corks_45 ?_
    refine V_getR dX7_corks_46 fl_X7_9 oM_now ?_
    refine V_iconst 2 dX7_corks_49 (by decide) ?_
    refine V_iald (j := 2) dX7_corks_50 aM_now (by decide) (by decide) ?_
    refine V_topi hC.1.s2 ?_
    refine V_icmpN_ge (a := p) (b := T 0 10) dX7_corks_51 133 (by decide) (by omega) (by omega) (fun h51 => ?_) (fun h51 => ?_)
    · have hpe : T 0 10 = p := by omega
      refine V_iload_4 dX7_corks_133 ?_
      refine V_if_ge dX7_corks_135 143 (by decide) (fun h135 => ?_) (fun h135 => ?_)
      · refine V_iloadn_3 dX7_corks_143 ?_
        refine V_ifN_ne (a := w) dX7_corks_144 152 (by decide) (by omega) (fun h144 => ?_) (fun h144 => ?_)
        · refine V_iload_5 dX7_corks_152 ?_
          exact V_iret dX7_corks_154 ⟨rI (by rw [hpe]; exact (by rw [hmm]; exact an_v (fun e => absurd (by rw [hbb]; exact (bO_neg hok).mpr e) (Int32.not_lt.mpr h135)) h144)), hK.fi h98⟩
        · refine V_iload_4 dX7_corks_147 ?_
          refine V_goto dX7_corks_149 154 (by decide) ?_
          exact V_iret dX7_corks_154 ⟨rI (by rw [hpe]; exact (by rw [hbb]; exact an_b (fun e => absurd (by rw [hbb]; exact (bO_neg hok).mpr e) (Int32.not_lt.mpr h135)) h144)), hK.fi h98⟩
      · refine V_ldc (-1000000005) dX7_corks_138 cn_X7_81 ?_
        refine V_goto dX7_corks_140 154 (by decide) ?_
        exact V_iret dX7_corks_154 ⟨rI (by rw [hpe]; exact an_n ((bO_neg hok).mp (by rw [← hbb]; exact Int32.not_le.mp h135))), hK.fi h98⟩
    · refine V_aloadn_0 dX7_corks_54 ?_
      refine V_iload_6 dX7_corks_55 ?_
      refine V_iconst 3 dX7_corks_57 (by decide) ?_
      refine V_cv2f dX7_corks_58 cv_X7_140 rcM (Nat.le_of_ble_eq_true rfl) (k_M_at (w := 3) (v := nI (T 9 p)) (by omega) (hC.1.p9 (by omega))) ?_
      refine V_ifN_ne (a := T 9 p) dX7_corks_61 127 (by decide) (by have := (hI.pi (p := p) (by omega)); omega) (fun h61 => ?_) (fun h61 => ?_)
      · refine V_iinc_6 dX7_corks_127 (by first | exact rfl | exact True.intro) (by decide) (nI (p + 1)) (nI_inc _) ?_
        refine V_goto dX7_corks_130 43 (by decide) ?_
        exact ih (p + 1) b m _ ⟨h98, hK, by omega, by rw [ckF_s, if_neg h61]; exact hbb, by rw [ckF_s, if_neg h61]; exact hmm⟩ (by omega)
      · refine V_aloadn_0 dX7_corks_64 ?_
        refine V_getR dX7_corks_65 fl_X7_9 oM_now ?_
        refine V_bipush 55 dX7_corks_68 (by decide) ?_
        refine V_iconst 4 dX7_corks_70 (by decide) ?_
        refine V_iload_6 dX7_corks_71 ?_
        refine V_imulN (a := 4) (b := p) dX7_corks_73 ?_
        refine V_iaddN (a := 55) (b := 4 * p) dX7_corks_74 ?_
        refine V_iconst 3 dX7_corks_75 (by decide) ?_
        refine V_iaddN (a := 55 + (4 * p)) (b := 3) dX7_corks_76 ?_
        refine V_iconst 1 dX7_corks_77 (by decide) ?_
        refine V_iast (j := (55 + (4 * p)) + 3) dX7_corks_78 aM_now (by omega) (by decide) ?_
        have hIP := (hI.ck (i := p) (x := 1) (by decide)).1
        have hC1 : MC L (Tup T 9 p 1) (vup σ 98 (55 + 4 * p + 3) 1) := hC.next (Fm.up (by omega)) (hC.1.cork (x := 1) hn (by omega)) hIP (Tup_ne (by omega)) (fun _ => Tup_ne (by omega))
        replace hK := hK.fm (Fm.up (j := 55 + 4 * p + 3) (v := 1) (by omega))
        replace hC := hC1
        refine V_aloadn_0 dX7_corks_79 ?_
        refine V_iloadn_2 dX7_corks_80 ?_
        refine V_cv1n dX7_corks_81 cv_X7_171 rcM (Nat.le_of_ble_eq_true rfl) (k_M_goesOn (by omega) hC (by omega)) (fun σ2 h2 => ?_)
        replace hC := h2.1
        replace hK := hK.fm h2.2
        have hX := hIP.hours (L := L) n
        obtain ⟨U, hUe⟩ : ∃ U, U = hoursT L n (Tup T 9 p 1) := ⟨_, rfl⟩
        rw [← hUe] at hC hX
        have hIU := hC.2.2.1
        have u5 := hX.2 0 5 (by decide) (by omega)
        have u10 := hX.2 0 10 (by decide) (by omega)
        rw [Tup_ne (by omega)] at u5 u10
        have hfu := hIU.full (c := c) (by omega)
        refine V_aloadn_0 dX7_corks_84 ?_
        refine V_iloadn_1 dX7_corks_85 ?_
        refine V_cv1f dX7_corks_86 cv_X7_96 rcM (Nat.le_of_ble_eq_true rfl) (k_M_fullOf (by omega) hC (by omega)) ?_
        refine V_istore_7 dX7_corks_89 (by first | exact rfl | exact True.intro) (by decide) ?_
        refine V_aloadn_0 dX7_corks_91 ?_
        refine V_cv0v dX7_corks_92 cv_X7_183 rcM (Nat.le_of_ble_eq_true rfl) k_M_putsBack ?_
        refine V_abs (fun σ3 => σ3 98 = σ0 98 ∧ BK σ0 σ3) ⟨hK.put98, hK.put⟩ (fun σ3 h3 => ?_)
        obtain ⟨g98, gK⟩ := h3
        refine V_iload_7 dX7_corks_95 ?_
        refine V_iload_5 dX7_corks_97 ?_
        refine V_icmp_le dX7_corks_99 107 (by decide) (fun h99 => ?_) (fun h99 => ?_)
        · refine V_iload_4 dX7_corks_107 ?_
          refine V_istore_4 dX7_corks_109 (by first | exact rfl | exact True.intro) (by decide) ?_
          refine V_iload_7 dX7_corks_111 ?_
          refine V_iload_5 dX7_corks_113 ?_
          refine V_icmp_le dX7_corks_115 123 (by decide) (fun h115 => ?_) (fun h115 => ?_)
          · refine V_iload_5 dX7_corks_123 ?_
            refine V_istore_5 dX7_corks_125 (by first | exact rfl | exact True.intro) (by decide) ?_
            refine V_iinc_6 dX7_corks_127 (by first | exact rfl | exact True.intro) (by decide) (nI (p + 1)) (nI_inc _) ?_
            refine V_goto dX7_corks_130 43 (by decide) ?_
            refine V_fg_7 ?_
            have e9 : ckF L T c n (p + 1) = ckF L T c n p := by
              rw [ckF_s, if_pos h61, ← hUe]
              refine stU_k (e := -1) (fun e => ?_) (by rw [← hmm]; exact h99)
              rw [hmm, e] at h99
              exact absurd (Int32.not_lt.mpr h99) (fun g => g (Int32.lt_of_lt_of_le (show (-1 : Int32) < 0 by decide) (nI_pos' (by omega))))
            exact ih (p + 1) b m _ ⟨g98, gK, by omega, by rw [e9]; exact hbb, by rw [e9]; exact hmm⟩ (by omega)
          · refine V_iload_7 dX7_corks_118 ?_
            refine V_goto dX7_corks_120 125 (by decide) ?_
            refine V_istore_5 dX7_corks_125 (by first | exact rfl | exact True.intro) (by decide) ?_
            refine V_iinc_6 dX7_corks_127 (by first | exact rfl | exact True.intro) (by decide) (nI (p + 1)) (nI_inc _) ?_
            refine V_goto dX7_corks_130 43 (by decide) ?_
            exact absurd h99 h115
        · refine V_iload_6 dX7_corks_102 ?_
          refine V_goto dX7_corks_104 109 (by decide) ?_
          refine V_istore_4 dX7_corks_109 (by first | exact rfl | exact True.intro) (by decide) ?_
          refine V_iload_7 dX7_corks_111 ?_
          refine V_iload_5 dX7_corks_113 ?_
          refine V_icmp_le dX7_corks_115 123 (by decide) (fun h115 => ?_) (fun h115 => ?_)
          · refine V_iload_5 dX7_corks_123 ?_
            refine V_istore_5 dX7_corks_125 (by first | exact rfl | exact True.intro) (by decide) ?_
            refine V_iinc_6 dX7_corks_127 (by first | exact rfl | exact True.intro) (by decide) (nI (p + 1)) (nI_inc _) ?_
            refine V_goto dX7_corks_130 43 (by decide) ?_
            exact absurd h115 h99
          · refine V_iload_7 dX7_corks_118 ?_
            refine V_goto dX7_corks_120 125 (by decide) ?_
            refine V_istore_5 dX7_corks_125 (by first | exact rfl | exact True.intro) (by decide) ?_
            refine V_iinc_6 dX7_corks_127 (by first | exact rfl | exact True.intro) (by decide) (nI (p + 1)) (nI_inc _) ?_
            refine V_goto dX7_corks_130 43 (by decide) ?_
            refine V_fg_7 ?_
            have e9 : ckF L T c n (p + 1) = some (p, nI (fullT U c)) := by
              rw [ckF_s, if_pos h61, ← hUe]
              exact stU_t (e := -1) (by rw [← hmm]; exact h99)
            exact ih (p + 1) _ _ _ ⟨g98, gK, by omega, by rw [e9]; rfl, by rw [e9]; rfl⟩ (by omega)

set_option maxRecDepth 100000 in
set_option maxHeartbeats 4000000 in
theorem m_corks {G : vG} {σ : vS} {d : Nat} (hd : 9 ≤ d) {L T : nT} (hC : MC L T σ) {c n w : Nat} (hc : c < T 0 5) (hn1 : 1 ≤ n ∧ n ≤ 60) (hw : w ≤ 1) : Cr G yX7_corks cX7_corks 8 (some .int) d [.ref 97, .int (nI c), .int (nI n), .int (nI w)] σ (some (.int (anO w (ckF L T c n (T 0 10))))) (fun σ' => FI σ σ') := by
  refine Ct.ofV (by decide) (Nat.le_of_ble_eq_true rfl) rfl ?_
  show V G RX7 cX7_corks (some .int) 8 d _ 0 [some (.ref 97), some (.int (nI c)), some (.int (nI n)), some (.int (nI w)), none, none, none, none] [] _
  obtain ⟨d, rfl⟩ : ∃ e, d = e + 1 := ⟨d - 1, by omega⟩
  have hI := hC.2.2.1
  have hn := hI.nc
  have hm := hI.np
  refine V_aloadn_0 dX7_corks_0 ?_
  refine V_iloadn_1 dX7_corks_1 ?_
  refine V_cv1f dX7_corks_2 cv_X7_112 rcM (Nat.le_of_ble_eq_true rfl) (k_M_isCellar (by omega) hC) ?_
  refine V_ifB_eq dX7_corks_5 27 (by decide) (fun h5 => ?_) (fun h5 => ?_)
  · exact absurd (hasN hc (by omega)) h5
  · refine V_iloadn_2 dX7_corks_8 ?_
    refine V_iconst 1 dX7_corks_9 (by decide) ?_
    refine V_bipush 60 dX7_corks_10 (by decide) ?_
    refine V_cs3f dX7_corks_12 cs_X7_82 (Nat.le_of_ble_eq_true rfl) k_M_in ?_
    refine V_ifB_eq dX7_corks_15 27 (by decide) (fun h15 => ?_) (fun h15 => ?_)
    · exact absurd (inN (a := 1) (b := 60) hn1.1 hn1.2 (by decide)) h15
    · refine V_iloadn_3 dX7_corks_18 ?_
      refine V_iconst 0 dX7_corks_19 (by decide) ?_
      refine V_iconst 1 dX7_corks_20 (by decide) ?_
      refine V_cs3f dX7_corks_21 cs_X7_82 (Nat.le_of_ble_eq_true rfl) k_M_in ?_
      refine V_ifB_ne dX7_corks_24 30 (by decide) (fun h24 => ?_) (fun h24 => ?_)
      · refine V_aloadn_0 dX7_corks_30 ?_
        refine V_cv0v dX7_corks_31 cv_X7_180 rcM (Nat.le_of_ble_eq_true rfl) k_M_thinks ?_
        refine V_abs (fun σ1 => σ1 98 = σ 98 ∧ BK σ σ1) ⟨vcp_p (by decide), BK.think (fun _ _ _ _ _ _ => rfl)⟩ (fun σ1 h1 => ?_)
        refine V_iconst (-1) dX7_corks_34 (by decide) ?_
        refine V_istore_4 dX7_corks_35 (by first | exact rfl | exact True.intro) (by decide) ?_
        refine V_iconst (-1) dX7_corks_37 (by decide) ?_
        refine V_istore_5 dX7_corks_38 (by first | exact rfl | exact True.intro) (by decide) ?_
        refine V_iconst 0 dX7_corks_40 (by decide) ?_
        refine V_istore_6 dX7_corks_41 (by first | exact rfl | exact True.intro) (by decide) ?_
        exact lp_m_corks (by omega) hC hc hn1.2 hw (T 0 10 + 1) 0 _ _ σ1 ⟨h1.1, h1.2, by omega, rfl, rfl⟩ (by omega)
      · exact absurd (inN (a := 0) (b := 1) (by omega) hw (by decide)) h24

set_option maxRecDepth 100000 in
set_option maxHeartbeats 4000000 in
theorem m_corks_bad {G : vG} {σ : vS} {d : Nat} (hd : 9 ≤ d) {L T : nT} (hC : MC L T σ) {x y z : Int32} (hb : ¬ (hasI x (T 0 5) ∧ inI y 1 60 ∧ inI z 0 1)) : Cf G yX7_corks cX7_corks 8 (some .int) d [.ref 97, .int x, .int y, .int z] σ (some (.int (-1000000001))) σ := by
  refine Ct.ofV (by decide) (Nat.le_of_ble_eq_true rfl) rfl ?_
  show V G RX7 cX7_corks (some .int) 8 d _ 0 [some (.ref 97), some (.int x), some (.int y), some (.int z), none, none, none, none] [] _
  obtain ⟨d, rfl⟩ : ∃ e, d = e + 1 := ⟨d - 1, by omega⟩
  have hI := hC.2.2.1
  have hn := hI.nc
  have hm := hI.np
  refine V_aloadn_0 dX7_corks_0 ?_
  refine V_iloadn_1 dX7_corks_1 ?_
  refine V_cv1f dX7_corks_2 cv_X7_112 rcM (Nat.le_of_ble_eq_true rfl) (k_M_isCellar (by omega) hC) ?_
  refine V_ifB_eq dX7_corks_5 27 (by decide) (fun h5 => ?_) (fun h5 => ?_)
  · refine V_ldc (-1000000001) dX7_corks_27 cn_X7_86 ?_
    exact V_iret dX7_corks_29 ⟨rfl, rfl⟩
  · refine V_iloadn_2 dX7_corks_8 ?_
    refine V_iconst 1 dX7_corks_9 (by decide) ?_
    refine V_bipush 60 dX7_corks_10 (by decide) ?_
    refine V_cs3f dX7_corks_12 cs_X7_82 (Nat.le_of_ble_eq_true rfl) k_M_in ?_
    refine V_ifB_eq dX7_corks_15 27 (by decide) (fun h15 => ?_) (fun h15 => ?_)
    · refine V_ldc (-1000000001) dX7_corks_27 cn_X7_86 ?_
      exact V_iret dX7_corks_29 ⟨rfl, rfl⟩
    · refine V_iloadn_3 dX7_corks_18 ?_
      refine V_iconst 0 dX7_corks_19 (by decide) ?_
      refine V_iconst 1 dX7_corks_20 (by decide) ?_
      refine V_cs3f dX7_corks_21 cs_X7_82 (Nat.le_of_ble_eq_true rfl) k_M_in ?_
      refine V_ifB_ne dX7_corks_24 30 (by decide) (fun h24 => ?_) (fun h24 => ?_)
      · exact absurd ⟨h5, h15, h24⟩ hb
      · refine V_ldc (-1000000001) dX7_corks_27 cn_X7_86 ?_
        exact V_iret dX7_corks_29 ⟨rfl, rfl⟩

set_option maxRecDepth 100000 in
set_option maxHeartbeats 4000000 in
theorem op_corks {G : vG} {σ : vS} {d i : Nat} (hd : 100 ≤ d) (hi : i < 512) {x y z : Int32} (h : Inv i σ) : Op G yX6_corks cX6_corks 8 yX7_corks cX7_corks 8 d [.int x, .int y, .int z] i σ := by
  have hh := h
  obtain ⟨L, T, I, b, hT, hB, hM, hS, hO, hW, hR, hK⟩ := h
  have hC := hT.1
  have hE := hT.2.1
  have hI := hC.2.2.1
  have hn := hI.nc
  have hm := hI.np
  by_cases hx : hasI x (T 0 5) ∧ inI y 1 60 ∧ inI z 0 1
  · obtain ⟨c, hc, rfl⟩ := (hasI_iff (by omega)).mp hx.1
    obtain ⟨n, hn1, hn2, rfl⟩ := (inI_iff' (a := 1) (b := 60) (by decide) (by decide)).mp hx.2.1
    obtain ⟨w, hw, rfl⟩ := (inI_iff (b := 1) (by decide)).mp hx.2.2
    exact Op.ask hh (c_corks (by omega) hC hT.2.2.2.1 hc ⟨hn1, hn2⟩ hw) (fun σ1 f1 => m_corks (by omega) (hE.fi f1) hc ⟨hn1, hn2⟩ hw)
  · exact Op.ask hh (Cf.fi (c_corks_bad (by omega) hC hx)) (fun σ1 f1 => Cf.fi (m_corks_bad (by omega) (hE.fi f1) hx))
