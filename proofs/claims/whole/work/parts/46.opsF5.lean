/-! ===== pour ===== -/
def prT (v : Nat → Int32) (z : Nat) (T : nT) : Nat → nT
  | 0 => T
  | c + 1 => if c < z ∧ v c ≠ -1000000005 then Tup (prT v z T c) 4 (c * 3) (clampN (v c)) else prT v z T c
def prN (v : Nat → Int32) (z : Nat) (T : nT) : Nat → Nat
  | 0 => 0
  | c + 1 => prN v z T c + (if (c < z ∧ v c ≠ -1000000005) ∧ clampN (v c) ≠ prT v z T c 4 (c * 3) then 1 else 0)
section PR
variable {v : Nat → Int32} {z c k i : Nat} {T : nT}
theorem prT_y (h : c < z ∧ v c ≠ -1000000005) : prT v z T (c + 1) = Tup (prT v z T c) 4 (c * 3) (clampN (v c)) := if_pos h
theorem prT_n (h : ¬ (c < z ∧ v c ≠ -1000000005)) : prT v z T (c + 1) = prT v z T c := if_neg h
theorem prN_y (h : (c < z ∧ v c ≠ -1000000005) ∧ clampN (v c) ≠ prT v z T c 4 (c * 3)) : prN v z T (c + 1) = prN v z T c + 1 := by
  show prN v z T c + _ = _
  rw [if_pos h]
theorem prN_n (h : ¬ ((c < z ∧ v c ≠ -1000000005) ∧ clampN (v c) ≠ prT v z T c 4 (c * 3))) : prN v z T (c + 1) = prN v z T c + 0 := by
  show prN v z T c + _ = _
  rw [if_neg h]
theorem pr_k (hk : k ≠ 4) : ∀ c, prT v z T c k i = T k i := by
  intro c
  induction c with
  | zero => rfl
  | succ c ih =>
    by_cases h : c < z ∧ v c ≠ -1000000005
    · rw [prT_y h, Tup_ne (fun q => hk q.1)]; exact ih
    · rw [prT_n h]; exact ih
theorem pr_bud : ∀ c, bud (prT v z T c) ≤ bud T + 999 * c := by
  intro c
  induction c with
  | zero => exact Nat.le_refl _
  | succ c ih =>
    by_cases h : c < z ∧ v c ≠ -1000000005
    · rw [prT_y h]
      have h1 := bud_wine (T := prT v z T c) (i := c * 3) (x := clampN (v c))
      have h2 := clampN_le (v c)
      omega
    · rw [prT_n h]; omega
theorem pr_TI (hI : TI T) (hb : bud T + 8000 < 2 ^ 30) : ∀ c, c ≤ 8 → TI (prT v z T c) := by
  intro c
  induction c with
  | zero => intro _; exact hI
  | succ c ih =>
    intro hc
    by_cases h : c < z ∧ v c ≠ -1000000005
    · rw [prT_y h]
      have h1 := pr_bud (v := v) (z := z) (T := T) c
      have h2 := clampN_le (v c)
      exact (ih (by omega)).wine (by omega)
    · rw [prT_n h]; exact ih (by omega)
theorem prN_le : ∀ c, prN v z T c ≤ c := by
  intro c
  induction c with
  | zero => exact Nat.le_refl _
  | succ c ih =>
    simp only [prN]
    split <;> omega
theorem pr_end (hz : z ≤ c) : ∀ m, prT v z T (c + m) = prT v z T c ∧ prN v z T (c + m) = prN v z T c := by
  intro m
  induction m with
  | zero => exact ⟨rfl, rfl⟩
  | succ m ih =>
    rw [show c + (m + 1) = c + m + 1 by omega, prT_n (fun q => by omega), prN_n (fun q => by omega)]
    exact ih
theorem pr_end' {m : Nat} (hz : z ≤ c) (hm : c ≤ m) : prT v z T m = prT v z T c ∧ prN v z T m = prN v z T c := by
  have := pr_end (v := v) (T := T) hz (m - c)
  rw [show c + (m - c) = m by omega] at this
  exact this
end PR
theorem vup_id {σ : vS} {p k : Nat} {v : Int32} (h : σ p k = v) : vup σ p k v = σ := by
  funext q j
  by_cases e : q = p ∧ j = k
  · rw [e.1, e.2, vup_same, h]
  · rw [vup_ne e]

set_option maxRecDepth 100000 in
set_option maxHeartbeats 4000000 in
theorem lp_c_pour {G : vG} {d : Nat} {σ0 : vS} {L T : nT} {N s z : Nat} {v : Nat → Int32} (hs : s < 4) (hd : 3 ≤ d + 1) (hI0 : TI T) (hbd : bud T + 8000 < 2 ^ 30) (hz : σ0 (37 + 2 * s) 1 = nI z) (hz24 : z ≤ 24) (hv : ∀ k, k < 24 → σ0 (37 + 2 * s + 1) k = v k) : ∀ (k : Nat) (c : Nat) (σ : vS), (TC L N 61 (prT v z T c) σ ∧ Fr 61 σ0 σ ∧ c ≤ T 0 5) → T 0 5 - c < k → V G RX6 cX6_pour (some .int) 7 (d + 1) (fun r' σ' => r' = some (.int (nI (prN v z T (T 0 5)))) ∧ (TC L N 61 (prT v z T (T 0 5)) σ' ∧ Fr 61 σ0 σ')) 32 [some (.ref 0), some (.int (nI s)), some (.ref (37 + 2 * s)), some (.int (nI (prN v z T c))), some (.int (nI c)), none, none] [] σ := by
  intro k
  induction k with
  | zero => intros; omega
  | succ k ih =>
    intro c σ hh hk
    obtain ⟨hC, hF, hc⟩ := hh
    have hn := hI0.nc
    have hbu := pr_bud (v := v) (z := z) (T := T) c
    have hpn := prN_le (v := v) (z := z) (T := T) c
    obtain ⟨U, hUe⟩ : ∃ U, U = prT v z T c := ⟨_, rfl⟩
    rw [← hUe] at hC hbu
    have u5 : U 0 5 = T 0 5 := by rw [hUe]; exact pr_k (by decide) c
    have hI := hC.2.2.1
    have hT := hC.2.1.1
    have e0 : σ (37 + 2 * s) = σ0 (37 + 2 * s) := hF (37 + 2 * s) (by omega) (by omega)
    have e1 : σ (37 + 2 * s + 1) = σ0 (37 + 2 * s + 1) := hF (37 + 2 * s + 1) (by omega) (by omega)
    have hcl := clampN_le (v c)
    have hfc : c < U 0 5 → U 4 (c * 3) < 2 ^ 30 := fun q => by
      have g1 := hI.full q
      have g2 := w_le_full (T := U) (a := c) (s := 0) (by decide)
      rw [Nat.add_zero] at g2
      omega
    refine V_iload_4 dX6_pour_32 ?_
    refine V_aloadn_0 dX6_pour_34 ?_
    refine V_getR dX6_pour_35 fl_X6_46 oC_now ?_
    refine V_getI dX6_pour_38 fl_X6_67 (oT_cellars tw61) ?_
    refine V_topi hT.n5 ?_
    refine V_icmpN_ge (a := c) (b := U 0 5) dX6_pour_41 130 (by decide) (by omega) (by omega) (fun h41 => ?_) (fun h41 => ?_)
    · refine V_iloadn_3 dX6_pour_130 ?_
      exact V_iret dX6_pour_131 ⟨rN (by rw [show T 0 5 = c by omega]), by rw [show T 0 5 = c by omega, ← hUe]; exact hC, hF⟩
    · refine V_aloadn_2 dX6_pour_44 ?_
      refine V_iload_4 dX6_pour_45 ?_
      refine V_cv1f dX6_pour_47 cv_X6_270 (rcS (Or.inl ⟨_, hs, rfl⟩)) (Nat.le_of_ble_eq_true rfl) (k_S_hasNumber (by omega) (Or.inl ⟨_, hs, rfl⟩) (by rw [e0]; exact hz) hz24 (by omega)) ?_
      refine V_ifB_eq dX6_pour_50 124 (by decide) (fun h50 => ?_) (fun h50 => ?_)
      · refine V_iinc_4 dX6_pour_124 (by first | exact rfl | exact True.intro) (by decide) (nI (c + 1)) (nI_inc _) ?_
        refine V_goto dX6_pour_127 32 (by decide) ?_
        have hno : ¬ (c < z ∧ v c ≠ -1000000005) := fun q => h50 ⟨q.1, fun e => q.2 (by rw [← hv c (by omega), ← e1]; exact e)⟩
        have e8 := prN_n (v := v) (z := z) (T := T) (c := c) (fun q => hno q.1)
        refine V_lo (lo' := [some (.ref 0), some (.int (nI s)), some (.ref (37 + 2 * s)), some (.int (nI (prN v z T (c + 1)))), some (.int (nI (c + 1))), none, none]) (by rw [e8]; rfl) ?_
        exact ih (c + 1) _ ⟨by rw [prT_n hno, ← hUe]; exact hC, hF, by omega⟩ (by omega)
      · have hyes : c < z ∧ v c ≠ -1000000005 := ⟨h50.1, fun e => h50.2 (by rw [e1, hv c (by omega)]; exact e)⟩
        have hI2 : TI (Tup U 4 (c * 3) (clampN (v c))) := hI.wine (by omega)
        have hw9 := hfc (by omega)
        refine V_aloadn_0 dX6_pour_53 ?_
        refine V_getR dX6_pour_54 fl_X6_46 oC_now ?_
        refine V_getR dX6_pour_57 fl_X6_105 (oT_wine tw61) ?_
        refine V_iload_4 dX6_pour_60 ?_
        refine V_iconst 3 dX6_pour_62 (by decide) ?_
        refine V_imulN (a := c) (b := 3) dX6_pour_63 ?_
        refine V_iald (j := c * 3) dX6_pour_64 (aT_wine tw61) (by omega) (by decide) ?_
        refine V_topi (hT.k4 (by omega)) ?_
        refine V_istore_5 dX6_pour_65 (by first | exact rfl | exact True.intro) (by decide) ?_
        refine V_iconst 0 dX6_pour_67 (by decide) ?_
        refine V_sipush 999 dX6_pour_68 (by decide) ?_
        refine V_aloadn_2 dX6_pour_71 ?_
        refine V_getR dX6_pour_72 fl_X6_267 (oS_places (Or.inl ⟨_, hs, rfl⟩)) ?_
        refine V_iload_4 dX6_pour_75 ?_
        refine V_iald (j := c) dX6_pour_77 (aS_places (Or.inl ⟨_, hs, rfl⟩)) (by omega) (by decide) ?_
        refine V_topi (y := v c) (by rw [e1]; exact hv c (by omega)) ?_
        refine V_mmin dX6_pour_78 ml_X6_153 (Nat.le_of_ble_eq_true rfl) ?_
        refine V_mmax dX6_pour_81 ml_X6_273 (Nat.le_of_ble_eq_true rfl) ?_
        refine V_topi (y := nI (clampN (v c))) (clamp_eq _) ?_
        refine V_istore_6 dX6_pour_84 (by first | exact rfl | exact True.intro) (by decide) ?_
        refine V_aloadn_0 dX6_pour_86 ?_
        refine V_getR dX6_pour_87 fl_X6_46 oC_now ?_
        refine V_getR dX6_pour_90 fl_X6_105 (oT_wine tw61) ?_
        refine V_iload_4 dX6_pour_93 ?_
        refine V_iconst 3 dX6_pour_95 (by decide) ?_
        refine V_imulN (a := c) (b := 3) dX6_pour_96 ?_
        refine V_iload_6 dX6_pour_97 ?_
        refine V_iast (j := c * 3) dX6_pour_99 (aT_wine tw61) (by omega) (by decide) ?_
        refine V_aloadn_0 dX6_pour_100 ?_
        refine V_getR dX6_pour_101 fl_X6_46 oC_now ?_
        refine V_iload_4 dX6_pour_104 ?_
        refine V_cv1n dX6_pour_106 cv_X6_119 (rcT tw61) (Nat.le_of_ble_eq_true rfl) (k_T_refresh (by omega) (hC.c1 (k := 4) (by omega) hI2) (by rw [Tup_ne (by omega)]; omega)) (fun σ9 h9 => ?_)
        have hS := hC.store (c := c) (by omega) (by omega) hI2 rfl h9
        refine V_iloadn_3 dX6_pour_109 ?_
        refine V_iload_6 dX6_pour_110 ?_
        refine V_iload_5 dX6_pour_112 ?_
        refine V_icmpN_ne (a := clampN (v c)) (b := U 4 (c * 3)) dX6_pour_114 121 (by decide) (by omega) (by omega) (fun h114 => ?_) (fun h114 => ?_)
        · refine V_iconst 1 dX6_pour_121 (by decide) ?_
          refine V_iaddN (a := prN v z T c) (b := 1) dX6_pour_122 ?_
          refine V_istoren_3 dX6_pour_123 (by first | exact rfl | exact True.intro) (by decide) ?_
          refine V_iinc_4 dX6_pour_124 (by first | exact rfl | exact True.intro) (by decide) (nI (c + 1)) (nI_inc _) ?_
          refine V_goto dX6_pour_127 32 (by decide) ?_
          refine V_fg_5 ?_
          refine V_fg_6 ?_
          have e9 : prT v z T (c + 1) = Tup U 4 (c * 3) (clampN (v c)) := by rw [prT_y hyes, ← hUe]
          have e8 := prN_y ⟨hyes, by rw [← hUe]; exact h114⟩
          refine V_lo (lo' := [some (.ref 0), some (.int (nI s)), some (.ref (37 + 2 * s)), some (.int (nI (prN v z T (c + 1)))), some (.int (nI (c + 1))), none, none]) (by rw [e8]) ?_
          exact ih (c + 1) _ ⟨by rw [e9]; exact hS.1, hF.tr hS.2, by omega⟩ (by omega)
        · refine V_iconst 0 dX6_pour_117 (by decide) ?_
          refine V_goto dX6_pour_118 122 (by decide) ?_
          refine V_iaddN (a := prN v z T c) (b := 0) dX6_pour_122 ?_
          refine V_istoren_3 dX6_pour_123 (by first | exact rfl | exact True.intro) (by decide) ?_
          refine V_iinc_4 dX6_pour_124 (by first | exact rfl | exact True.intro) (by decide) (nI (c + 1)) (nI_inc _) ?_
          refine V_goto dX6_pour_127 32 (by decide) ?_
          refine V_fg_5 ?_
          refine V_fg_6 ?_
          have e9 : prT v z T (c + 1) = Tup U 4 (c * 3) (clampN (v c)) := by rw [prT_y hyes, ← hUe]
          have e8 := prN_n (fun q => q.2 (by rw [← hUe]; exact h114))
          refine V_lo (lo' := [some (.ref 0), some (.int (nI s)), some (.ref (37 + 2 * s)), some (.int (nI (prN v z T (c + 1)))), some (.int (nI (c + 1))), none, none]) (by rw [e8]) ?_
          exact ih (c + 1) _ ⟨by rw [e9]; exact hS.1, hF.tr hS.2, by omega⟩ (by omega)

set_option maxRecDepth 100000 in
set_option maxHeartbeats 4000000 in
theorem c_pour {G : vG} {σ : vS} {d : Nat} (hd : 3 ≤ d) {L T : nT} {N : Nat} (hC : TC L N 61 T σ) {s z : Nat} {v : Nat → Int32} (hs : s < 4) (hbd : bud T + 8000 < 2 ^ 30) (hso : σ (37 + 2 * s) 0 ≠ -1) (hz : σ (37 + 2 * s) 1 = nI z) (hz24 : z ≤ 24) (hv : ∀ k, k < 24 → σ (37 + 2 * s + 1) k = v k) : Cr G yX6_pour cX6_pour 7 (some .int) d [.ref 0, .int (nI s)] σ (some (.int (nI (prN v z T (T 0 5))))) (fun σ' => TC L N 61 (prT v z T (T 0 5)) σ' ∧ Fr 61 σ σ') := by
  refine Ct.ofV (by decide) (Nat.le_of_ble_eq_true rfl) rfl ?_
  show V G RX6 cX6_pour (some .int) 7 d _ 0 [some (.ref 0), some (.int (nI s)), none, none, none, none, none] [] _
  obtain ⟨d, rfl⟩ : ∃ e, d = e + 1 := ⟨d - 1, by omega⟩
  refine V_iloadn_1 dX6_pour_0 ?_
  refine V_cs1f dX6_pour_1 cs_X6_203 (Nat.le_of_ble_eq_true rfl) (k_C_isSheet (by omega)) ?_
  refine V_ifB_ne dX6_pour_4 10 (by decide) (fun h4 => ?_) (fun h4 => ?_)
  · refine V_aloadn_0 dX6_pour_10 ?_
    refine V_getR dX6_pour_11 fl_X6_18 oC_sheets ?_
    refine V_iloadn_1 dX6_pour_14 ?_
    refine V_aald (j := s) dX6_pour_15 (eSheet (by omega)) (by decide) ?_
    refine V_astoren_2 dX6_pour_16 (by first | exact rfl | exact True.intro) (by decide) ?_
    refine V_aloadn_2 dX6_pour_17 ?_
    refine V_cv0f dX6_pour_18 cv_X6_206 (rcS (Or.inl ⟨_, (by omega), rfl⟩)) (Nat.le_of_ble_eq_true rfl) (k_S_isMissing (Or.inl ⟨_, (by omega), rfl⟩)) ?_
    refine V_ifB_eq dX6_pour_21 27 (by decide) (fun h21 => ?_) (fun h21 => ?_)
    · refine V_iconst 0 dX6_pour_27 (by decide) ?_
      refine V_istoren_3 dX6_pour_28 (by first | exact rfl | exact True.intro) (by decide) ?_
      refine V_iconst 0 dX6_pour_29 (by decide) ?_
      refine V_istore_4 dX6_pour_30 (by first | exact rfl | exact True.intro) (by decide) ?_
      exact lp_c_pour hs (by omega) hC.2.2.1 hbd hz hz24 hv (T 0 5 + 1) 0 σ ⟨hC, Fr.rf, by omega⟩ (by omega)
    · exact absurd h21 hso
  · exact absurd (hasN hs (by decide)) h4

set_option maxRecDepth 100000 in
set_option maxHeartbeats 4000000 in
theorem c_pour_no {G : vG} {σ : vS} {d : Nat} (hd : 3 ≤ d) {s : Nat} (hs : s < 4) (hso : σ (37 + 2 * s) 0 = -1) : Cf G yX6_pour cX6_pour 7 (some .int) d [.ref 0, .int (nI s)] σ (some (.int (-1000000011))) σ := by
  refine Ct.ofV (by decide) (Nat.le_of_ble_eq_true rfl) rfl ?_
  show V G RX6 cX6_pour (some .int) 7 d _ 0 [some (.ref 0), some (.int (nI s)), none, none, none, none, none] [] _
  obtain ⟨d, rfl⟩ : ∃ e, d = e + 1 := ⟨d - 1, by omega⟩
  refine V_iloadn_1 dX6_pour_0 ?_
  refine V_cs1f dX6_pour_1 cs_X6_203 (Nat.le_of_ble_eq_true rfl) (k_C_isSheet (by omega)) ?_
  refine V_ifB_ne dX6_pour_4 10 (by decide) (fun h4 => ?_) (fun h4 => ?_)
  · refine V_aloadn_0 dX6_pour_10 ?_
    refine V_getR dX6_pour_11 fl_X6_18 oC_sheets ?_
    refine V_iloadn_1 dX6_pour_14 ?_
    refine V_aald (j := s) dX6_pour_15 (eSheet (by omega)) (by decide) ?_
    refine V_astoren_2 dX6_pour_16 (by first | exact rfl | exact True.intro) (by decide) ?_
    refine V_aloadn_2 dX6_pour_17 ?_
    refine V_cv0f dX6_pour_18 cv_X6_206 (rcS (Or.inl ⟨_, (by omega), rfl⟩)) (Nat.le_of_ble_eq_true rfl) (k_S_isMissing (Or.inl ⟨_, (by omega), rfl⟩)) ?_
    refine V_ifB_eq dX6_pour_21 27 (by decide) (fun h21 => ?_) (fun h21 => ?_)
    · exact absurd hso h21
    · refine V_ldc (-1000000011) dX6_pour_24 cn_X6_210 ?_
      exact V_iret dX6_pour_26 ⟨rfl, rfl⟩
  · exact absurd (hasN hs (by decide)) h4

set_option maxRecDepth 100000 in
set_option maxHeartbeats 4000000 in
theorem c_pour_bad {G : vG} {σ : vS} {d : Nat} (hd : 3 ≤ d) {x : Int32} (hb : ¬ (hasI x 4)) : Cf G yX6_pour cX6_pour 7 (some .int) d [.ref 0, .int x] σ (some (.int (-1000000001))) σ := by
  refine Ct.ofV (by decide) (Nat.le_of_ble_eq_true rfl) rfl ?_
  show V G RX6 cX6_pour (some .int) 7 d _ 0 [some (.ref 0), some (.int x), none, none, none, none, none] [] _
  obtain ⟨d, rfl⟩ : ∃ e, d = e + 1 := ⟨d - 1, by omega⟩
  refine V_iloadn_1 dX6_pour_0 ?_
  refine V_cs1f dX6_pour_1 cs_X6_203 (Nat.le_of_ble_eq_true rfl) (k_C_isSheet (by omega)) ?_
  refine V_ifB_ne dX6_pour_4 10 (by decide) (fun h4 => ?_) (fun h4 => ?_)
  · exact absurd h4 hb
  · refine V_ldc (-1000000001) dX6_pour_7 cn_X6_66 ?_
    exact V_iret dX6_pour_9 ⟨rfl, rfl⟩

set_option maxRecDepth 100000 in
set_option maxHeartbeats 4000000 in
theorem lp_m_pour {G : vG} {d : Nat} {σ0 : vS} {L T : nT} {s z : Nat} {v : Nat → Int32} (hs : s < 4) (hd : 2 ≤ d + 1) (hI0 : TI T) (hbd : bud T + 8000 < 2 ^ 30) (hz : σ0 113 s = nI z) (hz24 : z ≤ 24) (hv : ∀ k, k < 24 → σ0 114 (24 * s + k) = v k) : ∀ (k : Nat) (c : Nat) (σ : vS), (MC L (prT v z T c) σ ∧ Fm σ0 σ ∧ c ≤ T 0 5 ∧ c ≤ z) → T 0 5 - c < k → V G RX7 cX7_pour (some .int) 6 (d + 1) (fun r' σ' => r' = some (.int (nI (prN v z T (T 0 5)))) ∧ (MC L (prT v z T (T 0 5)) σ' ∧ Fm σ0 σ')) 26 [some (.ref 97), some (.int (nI s)), some (.int (nI (prN v z T c))), some (.int (nI c)), none, none] [] σ := by
  intro k
  induction k with
  | zero => intros; omega
  | succ k ih =>
    intro c σ hh hk
    obtain ⟨hC, hF, hc, hcz⟩ := hh
    have hn := hI0.nc
    have hbu := pr_bud (v := v) (z := z) (T := T) c
    have hpn := prN_le (v := v) (z := z) (T := T) c
    obtain ⟨U, hUe⟩ : ∃ U, U = prT v z T c := ⟨_, rfl⟩
    rw [← hUe] at hC hbu
    have u5 : U 0 5 = T 0 5 := by rw [hUe]; exact pr_k (by decide) c
    have hI := hC.2.2.1
    have e113 : σ 113 = σ0 113 := hF.1 113 (by decide) (by decide) (by decide) (by decide)
    have e114 : σ 114 = σ0 114 := hF.1 114 (by decide) (by decide) (by decide) (by decide)
    have hcl := clampN_le (v c)
    have hfc : c < U 0 5 → U 4 (c * 3) < 2 ^ 30 := fun q => by
      have g1 := hI.full q
      have g2 := w_le_full (T := U) (a := c) (s := 0) (by decide)
      rw [Nat.add_zero] at g2
      omega
    refine V_iloadn_3 dX7_pour_26 ?_
    refine V_aloadn_0 dX7_pour_27 ?_
    refine V_getR dX7_pour_28 fl_X7_57 oM_sizes ?_
    refine V_iloadn_1 dX7_pour_31 ?_
    refine V_iald (j := s) dX7_pour_32 aM_sizes (by omega) (by decide) ?_
    refine V_topi (y := nI z) (by rw [e113]; exact hz) ?_
    refine V_icmpN_ge (a := c) (b := z) dX7_pour_33 120 (by decide) (by omega) (by omega) (fun h33 => ?_) (fun h33 => ?_)
    · refine V_iloadn_2 dX7_pour_120 ?_
      exact V_iret dX7_pour_121 ⟨rN (pr_end' h33 hc).2.symm, by rw [(pr_end' (v := v) (T := T) h33 hc).1, ← hUe]; exact hC, hF⟩
    · refine V_iloadn_3 dX7_pour_36 ?_
      refine V_aloadn_0 dX7_pour_37 ?_
      refine V_getR dX7_pour_38 fl_X7_9 oM_now ?_
      refine V_iconst 1 dX7_pour_41 (by decide) ?_
      refine V_iald (j := 1) dX7_pour_42 aM_now (by decide) (by decide) ?_
      refine V_topi hC.1.s1 ?_
      refine V_icmpN_ge (a := c) (b := U 0 5) dX7_pour_43 120 (by decide) (by omega) (by omega) (fun h43 => ?_) (fun h43 => ?_)
      · refine V_iloadn_2 dX7_pour_120 ?_
        exact V_iret dX7_pour_121 ⟨rN (by rw [show T 0 5 = c by omega]), by rw [show T 0 5 = c by omega, ← hUe]; exact hC, hF⟩
      · have hw9 := hfc (by omega)
        have hw0 : σ 98 (7 + 6 * c + 3) = nI (U 4 (c * 3)) := hC.1.w (s := 0) (by omega) (by decide)
        refine V_aloadn_0 dX7_pour_46 ?_
        refine V_getR dX7_pour_47 fl_X7_60 oM_cells ?_
        refine V_bipush 24 dX7_pour_50 (by decide) ?_
        refine V_iloadn_1 dX7_pour_52 ?_
        refine V_imulN (a := 24) (b := s) dX7_pour_53 ?_
        refine V_iloadn_3 dX7_pour_54 ?_
        refine V_iaddN (a := 24 * s) (b := c) dX7_pour_55 ?_
        refine V_iald (j := (24 * s) + c) dX7_pour_56 aM_cells (by omega) (by decide) ?_
        refine V_topi (y := v c) (by rw [e114]; exact hv c (by omega)) ?_
        refine V_istore_4 dX7_pour_57 (by first | exact rfl | exact True.intro) (by decide) ?_
        refine V_iload_4 dX7_pour_59 ?_
        refine V_ldc (-1000000005) dX7_pour_61 cn_X7_81 ?_
        refine V_icmp_ne dX7_pour_63 75 (by decide) (fun h63 => ?_) (fun h63 => ?_)
        · refine V_iload_4 dX7_pour_75 ?_
          refine V_iconst 0 dX7_pour_77 (by decide) ?_
          refine V_sipush 999 dX7_pour_78 (by decide) ?_
          refine V_cs3f dX7_pour_81 cs_X7_103 (Nat.le_of_ble_eq_true rfl) k_M_within ?_
          refine V_topi (y := nI (clampN (v c))) (wi_clamp _) ?_
          refine V_istore_5 dX7_pour_84 (by first | exact rfl | exact True.intro) (by decide) ?_
          refine V_iloadn_2 dX7_pour_86 ?_
          refine V_aloadn_0 dX7_pour_87 ?_
          refine V_bipush 7 dX7_pour_88 (by decide) ?_
          refine V_bipush 6 dX7_pour_90 (by decide) ?_
          refine V_iloadn_3 dX7_pour_92 ?_
          refine V_imulN (a := 6) (b := c) dX7_pour_93 ?_
          refine V_iaddN (a := 7) (b := 6 * c) dX7_pour_94 ?_
          refine V_iconst 3 dX7_pour_95 (by decide) ?_
          refine V_iaddN (a := 7 + (6 * c)) (b := 3) dX7_pour_96 ?_
          refine V_iload_5 dX7_pour_97 ?_
          refine V_cv2f dX7_pour_99 cv_X7_133 rcM (Nat.le_of_ble_eq_true rfl) (k_M_becomes (j := 7 + 6 * c + 3) (by omega)) ?_
          refine V_topi (y := nI (U 4 (c * 3))) hw0 ?_
          refine V_iload_5 dX7_pour_102 ?_
          refine V_icmpN_ne (a := U 4 (c * 3)) (b := clampN (v c)) dX7_pour_104 111 (by decide) (by omega) (by omega) (fun h104 => ?_) (fun h104 => ?_)
          · refine V_iconst 1 dX7_pour_111 (by decide) ?_
            refine V_iaddN (a := prN v z T c) (b := 1) dX7_pour_112 ?_
            refine V_istoren_2 dX7_pour_113 (by first | exact rfl | exact True.intro) (by decide) ?_
            refine V_iinc_3 dX7_pour_114 (by first | exact rfl | exact True.intro) (by decide) (nI (c + 1)) (nI_inc _) ?_
            refine V_goto dX7_pour_117 26 (by decide) ?_
            refine V_fg_4 ?_
            refine V_fg_5 ?_
            have hyes : c < z ∧ v c ≠ -1000000005 := ⟨h33, h63⟩
            have hI2 : TI (Tup U 4 (c * 3) (clampN (v c))) := hI.wine (by omega)
            have e9 : prT v z T (c + 1) = Tup U 4 (c * 3) (clampN (v c)) := by rw [prT_y hyes, ← hUe]
            have e8 := prN_y ⟨hyes, by rw [← hUe]; exact fun e => h104 e.symm⟩
            refine V_lo (lo' := [some (.ref 97), some (.int (nI s)), some (.int (nI (prN v z T (c + 1)))), some (.int (nI (c + 1))), none, none]) (by rw [e8]) ?_
            exact ih (c + 1) _ ⟨by rw [e9]; exact hC.next (Fm.up (by omega)) (hC.1.win (s := 0) hI.nc hI.np (by omega) (by decide)) hI2 (Tup_ne (by omega)) (fun _ => Tup_ne (by omega)), hF.tr (Fm.up (by omega)), by omega, by omega⟩ (by omega)
          · refine V_iconst 0 dX7_pour_107 (by decide) ?_
            refine V_goto dX7_pour_108 112 (by decide) ?_
            refine V_iaddN (a := prN v z T c) (b := 0) dX7_pour_112 ?_
            refine V_istoren_2 dX7_pour_113 (by first | exact rfl | exact True.intro) (by decide) ?_
            refine V_iinc_3 dX7_pour_114 (by first | exact rfl | exact True.intro) (by decide) (nI (c + 1)) (nI_inc _) ?_
            refine V_goto dX7_pour_117 26 (by decide) ?_
            refine V_fg_4 ?_
            refine V_fg_5 ?_
            have hyes : c < z ∧ v c ≠ -1000000005 := ⟨h33, h63⟩
            have hI2 : TI (Tup U 4 (c * 3) (clampN (v c))) := hI.wine (by omega)
            have e9 : prT v z T (c + 1) = Tup U 4 (c * 3) (clampN (v c)) := by rw [prT_y hyes, ← hUe]
            have e8 := prN_n (fun q => q.2 (by rw [← hUe]; exact h104.symm))
            refine V_lo (lo' := [some (.ref 97), some (.int (nI s)), some (.int (nI (prN v z T (c + 1)))), some (.int (nI (c + 1))), none, none]) (by rw [e8]) ?_
            exact ih (c + 1) _ ⟨by rw [e9]; exact hC.next (Fm.up (by omega)) (hC.1.win (s := 0) hI.nc hI.np (by omega) (by decide)) hI2 (Tup_ne (by omega)) (fun _ => Tup_ne (by omega)), hF.tr (Fm.up (by omega)), by omega, by omega⟩ (by omega)
        · refine V_aloadn_0 dX7_pour_66 ?_
          refine V_iloadn_3 dX7_pour_67 ?_
          refine V_iconst 3 dX7_pour_68 (by decide) ?_
          refine V_cv2f dX7_pour_69 cv_X7_92 rcM (Nat.le_of_ble_eq_true rfl) (k_M_of (w := 3) (v := nI (U 4 (c * 3))) (by omega) hw0) ?_
          refine V_goto dX7_pour_72 84 (by decide) ?_
          refine V_istore_5 dX7_pour_84 (by first | exact rfl | exact True.intro) (by decide) ?_
          refine V_iloadn_2 dX7_pour_86 ?_
          refine V_aloadn_0 dX7_pour_87 ?_
          refine V_bipush 7 dX7_pour_88 (by decide) ?_
          refine V_bipush 6 dX7_pour_90 (by decide) ?_
          refine V_iloadn_3 dX7_pour_92 ?_
          refine V_imulN (a := 6) (b := c) dX7_pour_93 ?_
          refine V_iaddN (a := 7) (b := 6 * c) dX7_pour_94 ?_
          refine V_iconst 3 dX7_pour_95 (by decide) ?_
          refine V_iaddN (a := 7 + (6 * c)) (b := 3) dX7_pour_96 ?_
          refine V_iload_5 dX7_pour_97 ?_
          refine V_cv2f dX7_pour_99 cv_X7_133 rcM (Nat.le_of_ble_eq_true rfl) (k_M_becomes (j := 7 + 6 * c + 3) (by omega)) ?_
          refine V_topi (y := nI (U 4 (c * 3))) hw0 ?_
          refine V_iload_5 dX7_pour_102 ?_
          refine V_icmpN_ne (a := U 4 (c * 3)) (b := U 4 (c * 3)) dX7_pour_104 111 (by decide) (by omega) (by omega) (fun h104 => ?_) (fun h104 => ?_)
          · exact absurd rfl h104
          · refine V_iconst 0 dX7_pour_107 (by decide) ?_
            refine V_goto dX7_pour_108 112 (by decide) ?_
            refine V_iaddN (a := prN v z T c) (b := 0) dX7_pour_112 ?_
            refine V_istoren_2 dX7_pour_113 (by first | exact rfl | exact True.intro) (by decide) ?_
            refine V_iinc_3 dX7_pour_114 (by first | exact rfl | exact True.intro) (by decide) (nI (c + 1)) (nI_inc _) ?_
            refine V_goto dX7_pour_117 26 (by decide) ?_
            refine V_fg_4 ?_
            refine V_fg_5 ?_
            have hno : ¬ (c < z ∧ v c ≠ -1000000005) := fun q => q.2 h63
            have e8 := prN_n (v := v) (z := z) (T := T) (c := c) (fun q => hno q.1)
            refine V_hp (vup_id hw0) ?_
            refine V_lo (lo' := [some (.ref 97), some (.int (nI s)), some (.int (nI (prN v z T (c + 1)))), some (.int (nI (c + 1))), none, none]) (by rw [e8]) ?_
            exact ih (c + 1) _ ⟨by rw [prT_n hno, ← hUe]; exact hC, hF, by omega, by omega⟩ (by omega)

set_option maxRecDepth 100000 in
set_option maxHeartbeats 4000000 in
theorem m_pour {G : vG} {σ : vS} {d : Nat} (hd : 2 ≤ d) {L T : nT} (hC : MC L T σ) {s z : Nat} {v : Nat → Int32} (hs : s < 4) (hbd : bud T + 8000 < 2 ^ 30) (hso : 0 ≤ σ 112 s) (hz : σ 113 s = nI z) (hz24 : z ≤ 24) (hv : ∀ k, k < 24 → σ 114 (24 * s + k) = v k) : Cr G yX7_pour cX7_pour 6 (some .int) d [.ref 97, .int (nI s)] σ (some (.int (nI (prN v z T (T 0 5))))) (fun σ' => MC L (prT v z T (T 0 5)) σ' ∧ Fm σ σ') := by
  refine Ct.ofV (by decide) (Nat.le_of_ble_eq_true rfl) rfl ?_
  show V G RX7 cX7_pour (some .int) 6 d _ 0 [some (.ref 97), some (.int (nI s)), none, none, none, none] [] _
  obtain ⟨d, rfl⟩ : ∃ e, d = e + 1 := ⟨d - 1, by omega⟩
  refine V_iloadn_1 dX7_pour_0 ?_
  refine V_cs1f dX7_pour_1 cs_X7_192 (Nat.le_of_ble_eq_true rfl) (k_M_isSheet (by omega)) ?_
  refine V_ifB_ne dX7_pour_4 10 (by decide) (fun h4 => ?_) (fun h4 => ?_)
  · refine V_aloadn_0 dX7_pour_10 ?_
    refine V_getR dX7_pour_11 fl_X7_54 oM_sorts ?_
    refine V_iloadn_1 dX7_pour_14 ?_
    refine V_iald (j := s) dX7_pour_15 aM_sorts (by omega) (by decide) ?_
    refine V_if_ge_t dX7_pour_16 22 (by decide) hso ?_
    refine V_iconst 0 dX7_pour_22 (by decide) ?_
    refine V_istoren_2 dX7_pour_23 (by first | exact rfl | exact True.intro) (by decide) ?_
    refine V_iconst 0 dX7_pour_24 (by decide) ?_
    refine V_istoren_3 dX7_pour_25 (by first | exact rfl | exact True.intro) (by decide) ?_
    exact lp_m_pour hs (by omega) hC.2.2.1 hbd hz hz24 hv (T 0 5 + 1) 0 σ ⟨hC, Fm.rf, by omega, by omega⟩ (by omega)
  · exact absurd (hasN hs (by decide)) h4

set_option maxRecDepth 100000 in
set_option maxHeartbeats 4000000 in
theorem m_pour_no {G : vG} {σ : vS} {d : Nat} (hd : 2 ≤ d) {s : Nat} (hs : s < 4) (hso : ¬ 0 ≤ σ 112 s) : Cf G yX7_pour cX7_pour 6 (some .int) d [.ref 97, .int (nI s)] σ (some (.int (-1000000011))) σ := by
  refine Ct.ofV (by decide) (Nat.le_of_ble_eq_true rfl) rfl ?_
  show V G RX7 cX7_pour (some .int) 6 d _ 0 [some (.ref 97), some (.int (nI s)), none, none, none, none] [] _
  obtain ⟨d, rfl⟩ : ∃ e, d = e + 1 := ⟨d - 1, by omega⟩
  refine V_iloadn_1 dX7_pour_0 ?_
  refine V_cs1f dX7_pour_1 cs_X7_192 (Nat.le_of_ble_eq_true rfl) (k_M_isSheet (by omega)) ?_
  refine V_ifB_ne dX7_pour_4 10 (by decide) (fun h4 => ?_) (fun h4 => ?_)
  · refine V_aloadn_0 dX7_pour_10 ?_
    refine V_getR dX7_pour_11 fl_X7_54 oM_sorts ?_
    refine V_iloadn_1 dX7_pour_14 ?_
    refine V_iald (j := s) dX7_pour_15 aM_sorts (by omega) (by decide) ?_
    refine V_if_ge_f dX7_pour_16 22 (by decide) hso ?_
    refine V_ldc (-1000000011) dX7_pour_19 cn_X7_195 ?_
    exact V_iret dX7_pour_21 ⟨rfl, rfl⟩
  · exact absurd (hasN hs (by decide)) h4

set_option maxRecDepth 100000 in
set_option maxHeartbeats 4000000 in
theorem m_pour_bad {G : vG} {σ : vS} {d : Nat} (hd : 2 ≤ d) {x : Int32} (hb : ¬ (hasI x 4)) : Cf G yX7_pour cX7_pour 6 (some .int) d [.ref 97, .int x] σ (some (.int (-1000000001))) σ := by
  refine Ct.ofV (by decide) (Nat.le_of_ble_eq_true rfl) rfl ?_
  show V G RX7 cX7_pour (some .int) 6 d _ 0 [some (.ref 97), some (.int x), none, none, none, none] [] _
  obtain ⟨d, rfl⟩ : ∃ e, d = e + 1 := ⟨d - 1, by omega⟩
  refine V_iloadn_1 dX7_pour_0 ?_
  refine V_cs1f dX7_pour_1 cs_X7_192 (Nat.le_of_ble_eq_true rfl) (k_M_isSheet (by omega)) ?_
  refine V_ifB_ne dX7_pour_4 10 (by decide) (fun h4 => ?_) (fun h4 => ?_)
  · exact absurd h4 hb
  · refine V_ldc (-1000000001) dX7_pour_7 cn_X7_86 ?_
    exact V_iret dX7_pour_9 ⟨rfl, rfl⟩

set_option maxRecDepth 100000 in
set_option maxHeartbeats 4000000 in
theorem op_pour {G : vG} {σ : vS} {d i : Nat} (hd : 100 ≤ d) (hi : i < 512) {x : Int32} (h : Inv i σ) : Op G yX6_pour cX6_pour 7 yX7_pour cX7_pour 6 d [.int x] i σ := by
  have hh := h
  obtain ⟨L, T, I, b, hT, hB, hM, hS, hO, hW, hR, hK⟩ := h
  have hC := hT.1
  have hE := hT.2.1
  have hI := hC.2.2.1
  have hn := hI.nc
  have hm := hI.np
  by_cases hx : hasI x 4
  · obtain ⟨s, hs, rfl⟩ := (hasI_iff (by decide)).mp hx
    obtain ⟨s1, s2, ⟨n, n24, s3, s4⟩, s5⟩ := hS s hs
    rcases s2 with s2 | s2
    · exact Op.ask hh (Cf.fi (c_pour_no (by omega) hs (s1.trans s2))) (fun σ1 f1 => Cf.fi (m_pour_no (by omega) hs (by rw [f1.p (q := 112) (by omega)]; exact so_no s2)))
    · have hbd : bud T ≤ 7992 * i := hT.2.2.1
      have hb8 : bud T + 8000 < 2 ^ 30 := by omega
      have hb9 := pr_bud (v := fun k => σ 114 (24 * s + k)) (z := n) (T := T) (T 0 5)
      refine Op.mk (c_pour (v := fun k => σ 114 (24 * s + k)) (by omega) hC hs hb8 (by rw [s1]; exact so_ne s2) s3 n24 (fun k hk => (s5 k hk).1)) (fun σ1 h1 => ?_)
      have ea : ∀ q, 97 ≤ q → σ1 q = σ q := fun q a => h1.2 q (by omega) (by omega)
      refine Ct.mono (fun r σ2 h2 => ⟨h2.1, ?_⟩) (m_pour (v := fun k => σ 114 (24 * s + k)) (by omega) (hE.fr h1.2) hs hb8 (by rw [ea 112 (by omega)]; exact so_yes s2) (by rw [ea 113 (by omega)]; exact s4) n24 (fun k hk => by rw [ea 114 (by omega)]))
      exact Inv.town hB hM hS hO hW hR hK (FT.of h1.2 h2.2.2) (h1.1.m h2.2.2) h2.2.1 (by omega) (by rw [pr_k (by decide)]; exact hT.2.2.2.1) (by rw [pr_k (by decide)]; exact hT.2.2.2.2) (pr_k (by decide) _)
  · exact Op.ask hh (Cf.fi (c_pour_bad (by omega) hx)) (fun σ1 f1 => Cf.fi (m_pour_bad (by omega) hx))
