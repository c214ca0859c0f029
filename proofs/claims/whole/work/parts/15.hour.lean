/-! ===== more of towns ===== -/
theorem Tup_Tup {T : nT} {k i x y : Nat} : Tup (Tup T k i x) k i y = Tup T k i y := by
  funext a b
  unfold Tup
  split
  · rfl
  · rfl
theorem Fr.up {t k i : Nat} {σ : vS} {v : Int32} (hk : k ≤ 11) : Fr t σ (vup σ (t + k) i v) := fun q a _ => vup_p (by omega)
/-- a number of a town by itself (spilt, thirst, hour, z) -/
theorem TA0.sc {t i x : Nat} {T : nT} {σ : vS} (h : TA0 t T σ) (hi : i = 11 ∨ i = 12 ∨ i = 13 ∨ i = 14) : TA0 t (Tup T 0 i x) (vup σ t i (nI x)) := by
  have e : ∀ k j, ¬ (k = 0 ∧ j = i) → Tup T 0 i x k j = T k j := fun k j g => Tup_ne g
  unfold TA0 at h ⊢
  rw [vup_p (show t + 1 ≠ t by omega), vup_p (show t + 2 ≠ t by omega), vup_p (show t + 3 ≠ t by omega), vup_p (show t + 4 ≠ t by omega), vup_p (show t + 6 ≠ t by omega), vup_p (show t + 7 ≠ t by omega), vup_p (show t + 8 ≠ t by omega), vup_p (show t + 9 ≠ t by omega), vup_p (show t + 10 ≠ t by omega)]
  obtain ⟨⟨b1, b2, b3, b4, b5, b6, b7⟩, a2, a3, a4, a5⟩ := h
  rw [e 0 5 (by omega), e 0 10 (by omega)]
  refine ⟨⟨?_, ?_, ?_, ?_, ?_, ?_, ?_⟩, fun c hc => ?_, fun i hi => ?_, fun p hp => ?_, fun k hk => ?_⟩
  · rw [vup_ne (by omega)]; exact b1
  · rw [vup_ne (by omega)]; exact b2
  · by_cases g : i = 11
    · subst g; rw [vup_same, Tup_same]
    · rw [vup_ne (by omega), e 0 11 (by omega)]; exact b3
  · by_cases g : i = 12
    · subst g; rw [vup_same, Tup_same]
    · rw [vup_ne (by omega), e 0 12 (by omega)]; exact b4
  · by_cases g : i = 13
    · subst g; rw [vup_same, Tup_same]
    · rw [vup_ne (by omega), e 0 13 (by omega)]; exact b5
  · by_cases g : i = 14
    · subst g; rw [vup_same, Tup_same]
    · rw [vup_ne (by omega), e 0 14 (by omega)]; exact b6
  · rw [vup_ne (by omega), e 0 15 (by omega)]; exact b7
  · rw [e 1 c (by omega), e 2 c (by omega), e 3 c (by omega)]; exact a2 c hc
  · rw [e 4 i (by omega)]; exact a3 i hi
  · rw [e 6 p (by omega), e 7 p (by omega), e 8 p (by omega), e 9 p (by omega)]; exact a4 p hp
  · rw [e 10 k (by omega)]; exact a5 k hk
theorem high_sc {L T : nT} {i x c : Nat} : highT L (Tup T 0 i x) c = highT L T c := high_eq (Tup_ne (by omega)) (Tup_ne (by omega)) (Tup_ne (by omega)) (fun s _ => Tup_ne (by omega))
theorem TC.sc {L : nT} {N t i x : Nat} {T : nT} {σ : vS} (h : TC L N t T σ) (hi : i = 11 ∨ i = 12 ∨ i = 13 ∨ i = 14) (hI : TI (Tup T 0 i x)) : TC L N t (Tup T 0 i x) (vup σ t i (nI x)) := by
  refine h.next (σ' := vup σ t i (nI x)) (Fr.up (k := 0) (by omega)) ⟨h.2.1.1.sc hi, fun c hc => ?_⟩ hI (Tup_ne (by omega))
  rw [Tup_ne (by omega)] at hc
  rw [vup_p (by omega), high_sc]
  exact h.2.1.2 c hc
abbrev jnQ (T : nT) (a b p : Nat) : Prop := (T 6 p = a ∧ T 7 p = b) ∨ (T 6 p = b ∧ T 7 p = a)
def jnb (T : nT) (a b : Nat) : Nat → Bool
  | 0 => false
  | p + 1 => jnb T a b p || decide (jnQ T a b p)
theorem jnb_in {T : nT} {a b p : Nat} : ∀ m, p < m → jnQ T a b p → jnb T a b m = true := by
  intro m
  induction m with
  | zero => intro h; omega
  | succ m ih =>
    intro h hq
    simp only [jnb, Bool.or_eq_true, decide_eq_true_eq]
    by_cases e : p = m
    · subst e; exact Or.inr hq
    · exact Or.inl (ih (by omega) hq)

set_option maxRecDepth 100000 in
set_option maxHeartbeats 4000000 in
theorem lp_T_isJoined {G : vG} {d : Nat} {σ : vS} {t : Nat} {T : nT} (ht : Twn t) (hT : TA0 t T σ) (hI : TI T) {a b : Nat} (ha : a < T 0 5) (hb : b < T 0 5) : ∀ (k : Nat) (p : Nat), (p ≤ T 0 10 ∧ jnb T a b p = false) → T 0 10 - p < k → V G RX5 cX5_isJoined (some .boolean) 4 d (fun r' σ' => r' = some (.int (bI (jnb T a b (T 0 10) = true))) ∧ σ' = σ) 2 [some (.ref t), some (.int (nI a)), some (.int (nI b)), some (.int (nI p))] [] σ := by
  intro k
  induction k with
  | zero => intros; omega
  | succ k ih =>
    intro p hh hk
    have hn := hI.nc
    have hm := hI.np
    obtain ⟨hp, hj⟩ := hh
    refine V_iloadn_3 dX5_isJoined_2 ?_
    refine V_aloadn_0 dX5_isJoined_3 ?_
    refine V_getI dX5_isJoined_4 fl_X5_65 (oT_pipes ht) ?_
    refine V_topi hT.n10 ?_
    refine V_icmpN_ge (a := p) (b := T 0 10) dX5_isJoined_7 58 (by decide) (by omega) (by omega) (fun h7 => ?_) (fun h7 => ?_)
    · refine V_iconst 0 dX5_isJoined_58 (by decide) ?_
      exact V_zret dX5_isJoined_59 (by decide) ⟨rB0 (by rw [show T 0 10 = p by omega, hj]; decide), rfl⟩
    · obtain ⟨p1, p2, p3, p4, p5⟩ := hI.pi (p := p) h7
      refine V_aloadn_0 dX5_isJoined_10 ?_
      refine V_getR dX5_isJoined_11 fl_X5_27 (oT_one ht) ?_
      refine V_iloadn_3 dX5_isJoined_14 ?_
      refine V_iald (j := p) dX5_isJoined_15 (aT_one ht) (by omega) (by decide) ?_
      refine V_topi (hT.k6 (by omega)) ?_
      refine V_iloadn_1 dX5_isJoined_16 ?_
      refine V_icmpN_ne (a := T 6 p) (b := a) dX5_isJoined_17 30 (by decide) (by omega) (by omega) (fun h17 => ?_) (fun h17 => ?_)
      · refine V_aloadn_0 dX5_isJoined_30 ?_
        refine V_getR dX5_isJoined_31 fl_X5_27 (oT_one ht) ?_
        refine V_iloadn_3 dX5_isJoined_34 ?_
        refine V_iald (j := p) dX5_isJoined_35 (aT_one ht) (by omega) (by decide) ?_
        refine V_topi (hT.k6 (by omega)) ?_
        refine V_iloadn_2 dX5_isJoined_36 ?_
        refine V_icmpN_ne (a := T 6 p) (b := b) dX5_isJoined_37 52 (by decide) (by omega) (by omega) (fun h37 => ?_) (fun h37 => ?_)
        · refine V_iinc_3 dX5_isJoined_52 (by first | exact rfl | exact True.intro) (by decide) (nI (p + 1)) (nI_inc _) ?_
          refine V_goto dX5_isJoined_55 2 (by decide) ?_
          exact ih (p + 1) ⟨by omega, by simp only [jnb, hj, Bool.false_or, decide_eq_false_iff_not]; omega⟩ (by omega)
        · refine V_aloadn_0 dX5_isJoined_40 ?_
          refine V_getR dX5_isJoined_41 fl_X5_30 (oT_other ht) ?_
          refine V_iloadn_3 dX5_isJoined_44 ?_
          refine V_iald (j := p) dX5_isJoined_45 (aT_other ht) (by omega) (by decide) ?_
          refine V_topi (hT.k7 (by omega)) ?_
          refine V_iloadn_1 dX5_isJoined_46 ?_
          refine V_icmpN_ne (a := T 7 p) (b := a) dX5_isJoined_47 52 (by decide) (by omega) (by omega) (fun h47 => ?_) (fun h47 => ?_)
          · refine V_iinc_3 dX5_isJoined_52 (by first | exact rfl | exact True.intro) (by decide) (nI (p + 1)) (nI_inc _) ?_
            refine V_goto dX5_isJoined_55 2 (by decide) ?_
            exact ih (p + 1) ⟨by omega, by simp only [jnb, hj, Bool.false_or, decide_eq_false_iff_not]; omega⟩ (by omega)
          · refine V_iconst 1 dX5_isJoined_50 (by decide) ?_
            exact V_zret dX5_isJoined_51 (by decide) ⟨rB1 (jnb_in (p := p) _ (by omega) (by omega)), rfl⟩
      · refine V_aloadn_0 dX5_isJoined_20 ?_
        refine V_getR dX5_isJoined_21 fl_X5_30 (oT_other ht) ?_
        refine V_iloadn_3 dX5_isJoined_24 ?_
        refine V_iald (j := p) dX5_isJoined_25 (aT_other ht) (by omega) (by decide) ?_
        refine V_topi (hT.k7 (by omega)) ?_
        refine V_iloadn_2 dX5_isJoined_26 ?_
        refine V_icmpN_eq (a := T 7 p) (b := b) dX5_isJoined_27 50 (by decide) (by omega) (by omega) (fun h27 => ?_) (fun h27 => ?_)
        · refine V_iconst 1 dX5_isJoined_50 (by decide) ?_
          exact V_zret dX5_isJoined_51 (by decide) ⟨rB1 (jnb_in (p := p) _ (by omega) (by omega)), rfl⟩
        · refine V_aloadn_0 dX5_isJoined_30 ?_
          refine V_getR dX5_isJoined_31 fl_X5_27 (oT_one ht) ?_
          refine V_iloadn_3 dX5_isJoined_34 ?_
          refine V_iald (j := p) dX5_isJoined_35 (aT_one ht) (by omega) (by decide) ?_
          refine V_topi (hT.k6 (by omega)) ?_
          refine V_iloadn_2 dX5_isJoined_36 ?_
          refine V_icmpN_ne (a := T 6 p) (b := b) dX5_isJoined_37 52 (by decide) (by omega) (by omega) (fun h37 => ?_) (fun h37 => ?_)
          · refine V_iinc_3 dX5_isJoined_52 (by first | exact rfl | exact True.intro) (by decide) (nI (p + 1)) (nI_inc _) ?_
            refine V_goto dX5_isJoined_55 2 (by decide) ?_
            exact ih (p + 1) ⟨by omega, by simp only [jnb, hj, Bool.false_or, decide_eq_false_iff_not]; omega⟩ (by omega)
          · refine V_aloadn_0 dX5_isJoined_40 ?_
            refine V_getR dX5_isJoined_41 fl_X5_30 (oT_other ht) ?_
            refine V_iloadn_3 dX5_isJoined_44 ?_
            refine V_iald (j := p) dX5_isJoined_45 (aT_other ht) (by omega) (by decide) ?_
            refine V_topi (hT.k7 (by omega)) ?_
            refine V_iloadn_1 dX5_isJoined_46 ?_
            refine V_icmpN_ne (a := T 7 p) (b := a) dX5_isJoined_47 52 (by decide) (by omega) (by omega) (fun h47 => ?_) (fun h47 => ?_)
            · refine V_iinc_3 dX5_isJoined_52 (by first | exact rfl | exact True.intro) (by decide) (nI (p + 1)) (nI_inc _) ?_
              refine V_goto dX5_isJoined_55 2 (by decide) ?_
              exact ih (p + 1) ⟨by omega, by simp only [jnb, hj, Bool.false_or, decide_eq_false_iff_not]; omega⟩ (by omega)
            · refine V_iconst 1 dX5_isJoined_50 (by decide) ?_
              exact V_zret dX5_isJoined_51 (by decide) ⟨rB1 (jnb_in (p := p) _ (by omega) (by omega)), rfl⟩

set_option maxRecDepth 100000 in
set_option maxHeartbeats 4000000 in
theorem k_T_isJoined {G : vG} {σ : vS} {d : Nat} {t : Nat} {T : nT} (ht : Twn t) (hT : TA0 t T σ) (hI : TI T) {a b : Nat} (ha : a < T 0 5) (hb : b < T 0 5) : Cf G yX5_isJoined cX5_isJoined 4 (some .boolean) d [.ref t, .int (nI a), .int (nI b)] σ (some (.int (bI (jnb T a b (T 0 10) = true)))) σ := by
  refine Ct.ofV (by decide) (Nat.le_of_ble_eq_true rfl) rfl ?_
  show V G RX5 cX5_isJoined (some .boolean) 4 d _ 0 [some (.ref t), some (.int (nI a)), some (.int (nI b)), none] [] _
  refine V_iconst 0 dX5_isJoined_0 (by decide) ?_
  refine V_istoren_3 dX5_isJoined_1 (by first | exact rfl | exact True.intro) (by decide) ?_
  exact lp_T_isJoined ht hT hI ha hb (T 0 10 + 1) 0 ⟨by omega, rfl⟩ (by omega)

set_option maxRecDepth 100000 in
set_option maxHeartbeats 4000000 in
theorem lp_hour4 {G : vG} {d : Nat} {σ0 : vS} {L U : nT} {N t : Nat} {σ : vS} (hd : 4 ≤ d + 1) (hC : TC L N t U σ) (hF : Fr t σ0 σ) {l1 : Option Value} : V G RX5 cX5_oneHour none 3 (d + 1) (fun r' σ' => r' = none ∧ (TC L N t (tickT (drinkT U)) σ' ∧ Fr t σ0 σ')) 121 [some (.ref t), l1, none] [] σ := by
  obtain ⟨ht, hH, hI, hL, hLI, hN, hN2⟩ := id hC
  have hT := hH.1
  have hn := hI.nc
  have hm := hI.np
  have hth := hI.th
  refine V_aloadn_0 dX5_oneHour_121 ?_
  refine V_cv0f dX5_oneHour_122 cv_X5_139 (rcT ht) (Nat.le_of_ble_eq_true rfl) (k_T_draw ht hT.n14) ?_
  have hC1 := hC.sc (i := 14) (x := zN (U 0 14)) (by omega) (hI.zz (zN_lt _))
  have z1 := zN_lt (U 0 14)
  have z2 := zN_lt (zN (U 0 14))
  refine V_topi (y := nI (zN (U 0 14) / 2 ^ 8)) rfl ?_
  refine V_bipush 100 dX5_oneHour_125 (by decide) ?_
  refine V_iremN (a := zN (U 0 14) / 2 ^ 8) (b := 100) dX5_oneHour_127 (by omega) (by omega) (by omega) ?_
  refine V_aloadn_0 dX5_oneHour_128 ?_
  refine V_getI dX5_oneHour_129 fl_X5_71 (oT_thirst ht) ?_
  refine V_topi (y := nI (U 0 12)) (by rw [hC1.2.1.1.n12, Tup_ne (by omega)]) ?_
  refine V_icmpN_ge (a := (zN (U 0 14) / 2 ^ 8) % 100) (b := U 0 12) dX5_oneHour_132 158 (by decide) (by omega) (by omega) (fun h132 => ?_) (fun h132 => ?_)
  · refine V_abs (fun σ1 => TC L N t (drinkT U) σ1 ∧ Fr t σ0 σ1) ?_ (fun σ1 h1 => ?_)
    · refine ⟨?_, hF.tr (Fr.up (k := 0) (by omega))⟩
      unfold drinkT
      rw [if_neg (by omega)]
      exact hC1
    clear hC hF hT hH hI hL hLI
    obtain ⟨hC, hF⟩ := h1
    have hC9 := hC.sc (i := 13) (x := drinkT U 0 13 + 1) (by omega) hC.2.2.1.tick
    refine V_aloadn_0 dX5_oneHour_158 ?_
    refine V_dup dX5_oneHour_159 rfl ?_
    refine V_getI dX5_oneHour_160 fl_X5_74 (oT_hour ht) ?_
    refine V_topi (y := nI (drinkT U 0 13)) hC.2.1.1.n13 ?_
    refine V_iconst 1 dX5_oneHour_163 (by decide) ?_
    refine V_iaddN (a := drinkT U 0 13) (b := 1) dX5_oneHour_164 ?_
    refine V_putI dX5_oneHour_165 fp_X5_74 (oT_hour ht) ?_
    exact V_vret dX5_oneHour_168 ⟨rfl, hC9, hF.tr (Fr.up (k := 0) (by omega))⟩
  · refine V_aloadn_0 dX5_oneHour_135 ?_
    refine V_getI dX5_oneHour_136 fl_X5_62 (oT_cellars ht) ?_
    refine V_topi (y := nI (U 0 5)) (by rw [hC1.2.1.1.n5, Tup_ne (by omega)]) ?_
    refine V_ifN_le (a := U 0 5) dX5_oneHour_139 158 (by decide) (by omega) (fun h139 => ?_) (fun h139 => ?_)
    · refine V_abs (fun σ1 => TC L N t (drinkT U) σ1 ∧ Fr t σ0 σ1) ?_ (fun σ1 h1 => ?_)
      · refine ⟨?_, hF.tr (Fr.up (k := 0) (by omega))⟩
        unfold drinkT
        rw [if_neg (by omega)]
        exact hC1
      clear hC hF hT hH hI hL hLI
      obtain ⟨hC, hF⟩ := h1
      have hC9 := hC.sc (i := 13) (x := drinkT U 0 13 + 1) (by omega) hC.2.2.1.tick
      refine V_aloadn_0 dX5_oneHour_158 ?_
      refine V_dup dX5_oneHour_159 rfl ?_
      refine V_getI dX5_oneHour_160 fl_X5_74 (oT_hour ht) ?_
      refine V_topi (y := nI (drinkT U 0 13)) hC.2.1.1.n13 ?_
      refine V_iconst 1 dX5_oneHour_163 (by decide) ?_
      refine V_iaddN (a := drinkT U 0 13) (b := 1) dX5_oneHour_164 ?_
      refine V_putI dX5_oneHour_165 fp_X5_74 (oT_hour ht) ?_
      exact V_vret dX5_oneHour_168 ⟨rfl, hC9, hF.tr (Fr.up (k := 0) (by omega))⟩
    · refine V_aloadn_0 dX5_oneHour_142 ?_
      refine V_aloadn_0 dX5_oneHour_143 ?_
      refine V_cv0f dX5_oneHour_144 cv_X5_139 (rcT ht) (Nat.le_of_ble_eq_true rfl) (k_T_draw ht hC1.2.1.1.n14) ?_
      have hC2 := hC1.sc (i := 14) (x := zN (zN (U 0 14))) (by omega) (hC1.2.2.1.zz (zN_lt _))
      rw [Tup_Tup] at hC2
      refine V_hp (σ' := vup (vup σ t 14 (nI (zN (U 0 14)))) t 14 (nI (zN (zN (U 0 14))))) (by rw [Tup_same]) ?_
      refine V_topi (y := nI (zN (zN (U 0 14)) / 2 ^ 8)) (by rw [Tup_same]) ?_
      refine V_aloadn_0 dX5_oneHour_147 ?_
      refine V_getI dX5_oneHour_148 fl_X5_62 (oT_cellars ht) ?_
      refine V_topi (y := nI (U 0 5)) (by rw [hC2.2.1.1.n5, Tup_ne (by omega)]) ?_
      refine V_iremN (a := zN (zN (U 0 14)) / 2 ^ 8) (b := U 0 5) dX5_oneHour_151 (by omega) (by omega) (by omega) ?_
      refine V_iconst 5 dX5_oneHour_152 (by decide) ?_
      refine V_bipush (-2) dX5_oneHour_153 (by decide) ?_
      refine V_cv3n dX5_oneHour_155 cv_X5_132 (rcT ht) (Nat.le_of_ble_eq_true rfl) (k_T_lead_d (a := zN (zN (U 0 14)) / 2 ^ 8 % U 0 5) (n0 := 5) (by omega) hC2 (by rw [Tup_ne (by omega)]; exact Nat.mod_lt _ (by omega)) (by omega)) (fun σ h9 => ?_)
      refine V_abs (fun σ1 => TC L N t (drinkT U) σ1 ∧ Fr t σ0 σ1) ?_ (fun σ1 h1 => ?_)
      · refine ⟨?_, (hF.tr ((Fr.up (k := 0) (by omega)).tr (Fr.up (k := 0) (by omega)))).tr h9.2⟩
        unfold drinkT
        rw [if_pos ⟨h132, by omega⟩]
        have e9 := h9.1
        rw [z_full] at e9
        exact e9
      clear hC hF hT hH hI hL hLI
      obtain ⟨hC, hF⟩ := h1
      have hC9 := hC.sc (i := 13) (x := drinkT U 0 13 + 1) (by omega) hC.2.2.1.tick
      refine V_aloadn_0 dX5_oneHour_158 ?_
      refine V_dup dX5_oneHour_159 rfl ?_
      refine V_getI dX5_oneHour_160 fl_X5_74 (oT_hour ht) ?_
      refine V_topi (y := nI (drinkT U 0 13)) hC.2.1.1.n13 ?_
      refine V_iconst 1 dX5_oneHour_163 (by decide) ?_
      refine V_iaddN (a := drinkT U 0 13) (b := 1) dX5_oneHour_164 ?_
      refine V_putI dX5_oneHour_165 fp_X5_74 (oT_hour ht) ?_
      exact V_vret dX5_oneHour_168 ⟨rfl, hC9, hF.tr (Fr.up (k := 0) (by omega))⟩

set_option maxRecDepth 100000 in
set_option maxHeartbeats 4000000 in
theorem lp_hour3 {G : vG} {d : Nat} {σ0 : vS} {L T : nT} {N t : Nat} (hd : 4 ≤ d + 1) (hI0 : TI T) : ∀ (k : Nat) (c : Nat) (σ : vS), (TC L N t (itT (overT L) c T) σ ∧ Fr t σ0 σ ∧ c ≤ T 0 5) → T 0 5 - c < k → V G RX5 cX5_oneHour none 3 (d + 1) (fun r' σ' => r' = none ∧ (TC L N t (tickT (drinkT (itT (overT L) (T 0 5) T))) σ' ∧ Fr t σ0 σ')) 77 [some (.ref t), some (.int (nI c)), none] [] σ := by
  intro k
  induction k with
  | zero => intros; omega
  | succ k ih =>
    intro c σ hh hk
    obtain ⟨hC, hF, hc⟩ := hh
    obtain ⟨U, hU⟩ : ∃ U, U = itT (overT L) c T := ⟨_, rfl⟩
    rw [← hU] at hC
    obtain ⟨ht, hH, hI, hL, hLI, hN, hN2⟩ := id hC
    have hT := hH.1
    have hn := hI.nc
    have hm := hI.np
    have e5 : U 0 5 = T 0 5 := by rw [hU]; exact (it_over hI0 (by omega)).2 0 5 (by decide) (by omega)
    have e10 : U 0 10 = T 0 10 := by rw [hU]; exact (it_over hI0 (by omega)).2 0 10 (by decide) (by omega)
    refine V_iloadn_1 dX5_oneHour_77 ?_
    refine V_aloadn_0 dX5_oneHour_78 ?_
    refine V_getI dX5_oneHour_79 fl_X5_62 (oT_cellars ht) ?_
    refine V_topi hT.n5 ?_
    refine V_icmpN_ge (a := c) (b := U 0 5) dX5_oneHour_82 121 (by decide) (by omega) (by omega) (fun h82 => ?_) (fun h82 => ?_)
    · have e9 : c = T 0 5 := by omega
      rw [hU, e9] at hC
      exact lp_hour4 hd hC hF
    · have hc2 : c < U 0 5 := by omega
      have b1 := highT_le L U c
      have b2 := (hI.ce hc2).2.2.2
      have b3 := hI.full hc2
      refine V_aloadn_0 dX5_oneHour_85 ?_
      refine V_getR dX5_oneHour_86 fl_X5_24 (oT_high ht) ?_
      refine V_iloadn_1 dX5_oneHour_89 ?_
      refine V_iald (j := c) dX5_oneHour_90 (aT_high ht) (by omega) (by decide) ?_
      refine V_topi (hH.k5 (by omega)) ?_
      refine V_aloadn_0 dX5_oneHour_91 ?_
      refine V_getR dX5_oneHour_92 fl_X5_18 (oT_lip ht) ?_
      refine V_iloadn_1 dX5_oneHour_95 ?_
      refine V_iald (j := c) dX5_oneHour_96 (aT_lip ht) (by omega) (by decide) ?_
      refine V_topi (hT.k3 (by omega)) ?_
      refine V_icmpN_le (a := highT L U c) (b := U 3 c) dX5_oneHour_97 115 (by decide) (by omega) (by omega) (fun h97 => ?_) (fun h97 => ?_)
      · refine V_iinc_1 dX5_oneHour_115 (by first | exact rfl | exact True.intro) (by decide) (nI (c + 1)) (nI_inc _) ?_
        refine V_goto dX5_oneHour_118 77 (by decide) ?_
        refine ih (c + 1) _ ⟨?_, hF, by omega⟩ (by omega)
        show TC L N t (overT L c (itT (overT L) c T)) _
        rw [← hU]
        unfold overT
        rw [if_neg (by omega)]
        exact hC
      · refine V_aloadn_0 dX5_oneHour_100 ?_
        refine V_iloadn_1 dX5_oneHour_101 ?_
        refine V_aloadn_0 dX5_oneHour_102 ?_
        refine V_iloadn_1 dX5_oneHour_103 ?_
        refine V_cv1f dX5_oneHour_104 cv_X5_89 (rcT ht) (Nat.le_of_ble_eq_true rfl) (k_T_fullOf ht hT hI hc2) ?_
        refine V_iconst 4 dX5_oneHour_107 (by decide) ?_
        refine V_idivN (a := fullT U c) (b := 4) dX5_oneHour_108 (by omega) (by omega) (by omega) ?_
        refine V_iconst 1 dX5_oneHour_109 (by decide) ?_
        refine V_iaddN (a := (fullT U c) / 4) (b := 1) dX5_oneHour_110 ?_
        refine V_iconst (-1) dX5_oneHour_111 (by decide) ?_
        refine V_cv3n dX5_oneHour_112 cv_X5_132 (rcT ht) (Nat.le_of_ble_eq_true rfl) (k_T_lead_s (by omega) hC hc2 (by omega)) (fun σ h9 => ?_)
        refine V_iinc_1 dX5_oneHour_115 (by first | exact rfl | exact True.intro) (by decide) (nI (c + 1)) (nI_inc _) ?_
        refine V_goto dX5_oneHour_118 77 (by decide) ?_
        refine ih (c + 1) _ ⟨?_, hF.tr h9.2, by omega⟩ (by omega)
        show TC L N t (overT L c (itT (overT L) c T)) _
        rw [← hU]
        unfold overT
        rw [if_pos h97]
        exact h9.1

set_option maxRecDepth 100000 in
set_option maxHeartbeats 4000000 in
theorem lp_hour2 {G : vG} {d : Nat} {σ0 : vS} {L T : nT} {N t : Nat} (hd : 4 ≤ d + 1) (hI0 : TI T) : ∀ (k : Nat) (c : Nat) (σ : vS), (TC L N t (itT loseT c T) σ ∧ Fr t σ0 σ ∧ c ≤ T 0 5) → T 0 5 - c < k → V G RX5 cX5_oneHour none 3 (d + 1) (fun r' σ' => r' = none ∧ (TC L N t (tickT (drinkT (itT (overT L) (T 0 5) (itT loseT (T 0 5) T)))) σ' ∧ Fr t σ0 σ')) 41 [some (.ref t), some (.int (nI c)), none] [] σ := by
  intro k
  induction k with
  | zero => intros; omega
  | succ k ih =>
    intro c σ hh hk
    obtain ⟨hC, hF, hc⟩ := hh
    obtain ⟨U, hU⟩ : ∃ U, U = itT loseT c T := ⟨_, rfl⟩
    rw [← hU] at hC
    obtain ⟨ht, hH, hI, hL, hLI, hN, hN2⟩ := id hC
    have hT := hH.1
    have hn := hI.nc
    have hm := hI.np
    have e5 : U 0 5 = T 0 5 := by rw [hU]; exact (it_lose hI0 (by omega)).2 0 5 (by decide) (by omega)
    have e10 : U 0 10 = T 0 10 := by rw [hU]; exact (it_lose hI0 (by omega)).2 0 10 (by decide) (by omega)
    refine V_iloadn_1 dX5_oneHour_41 ?_
    refine V_aloadn_0 dX5_oneHour_42 ?_
    refine V_getI dX5_oneHour_43 fl_X5_62 (oT_cellars ht) ?_
    refine V_topi hT.n5 ?_
    refine V_icmpN_ge (a := c) (b := U 0 5) dX5_oneHour_46 75 (by decide) (by omega) (by omega) (fun h46 => ?_) (fun h46 => ?_)
    · refine V_iconst 0 dX5_oneHour_75 (by decide) ?_
      refine V_istoren_1 dX5_oneHour_76 (by first | exact rfl | exact True.intro) (by decide) ?_
      have e9 : c = T 0 5 := by omega
      rw [hU, e9] at hC
      have g1 := (it_lose hI0 (Nat.le_refl _)).1
      have g2 : itT loseT (T 0 5) T 0 5 = T 0 5 := (it_lose hI0 (Nat.le_refl _)).2 0 5 (by decide) (by omega)
      have g3 := lp_hour3 (G := G) (σ0 := σ0) (L := L) (N := N) (t := t) hd g1 (T 0 5 + 1) 0 σ ⟨hC, hF, by omega⟩ (by omega)
      rw [g2] at g3
      exact g3
    · have hc2 : c < U 0 5 := by omega
      have b2 := (hI.ce hc2).1
      have b3 := hI.full hc2
      have b4 := loses_le (k := U 1 c) (f := fullT U c)
      refine V_aloadn_0 dX5_oneHour_49 ?_
      refine V_iloadn_1 dX5_oneHour_50 ?_
      refine V_aloadn_0 dX5_oneHour_51 ?_
      refine V_getR dX5_oneHour_52 fl_X5_9 (oT_kind ht) ?_
      refine V_iloadn_1 dX5_oneHour_55 ?_
      refine V_iald (j := c) dX5_oneHour_56 (aT_kind ht) (by omega) (by decide) ?_
      refine V_topi (hT.k1 (by omega)) ?_
      refine V_aloadn_0 dX5_oneHour_57 ?_
      refine V_iloadn_1 dX5_oneHour_58 ?_
      refine V_cv1f dX5_oneHour_59 cv_X5_89 (rcT ht) (Nat.le_of_ble_eq_true rfl) (k_T_fullOf ht hT hI hc2) ?_
      refine V_cs2f dX5_oneHour_62 cs_X5_136 (Nat.le_of_ble_eq_true rfl) (k_loses (by omega) (by omega) (by omega)) ?_
      refine V_iconst (-1) dX5_oneHour_65 (by decide) ?_
      refine V_cv3n dX5_oneHour_66 cv_X5_132 (rcT ht) (Nat.le_of_ble_eq_true rfl) (k_T_lead_s (by omega) hC hc2 (by omega)) (fun σ h9 => ?_)
      refine V_iinc_1 dX5_oneHour_69 (by first | exact rfl | exact True.intro) (by decide) (nI (c + 1)) (nI_inc _) ?_
      refine V_goto dX5_oneHour_72 41 (by decide) ?_
      refine ih (c + 1) _ ⟨?_, hF.tr h9.2, by omega⟩ (by omega)
      show TC L N t (loseT c (itT loseT c T)) _
      rw [← hU]
      unfold loseT
      have g9 := h9.1
      rw [Nat.min_eq_left b4] at g9
      exact g9

set_option maxRecDepth 100000 in
set_option maxHeartbeats 4000000 in
theorem lp_hour1 {G : vG} {d : Nat} {σ0 : vS} {L T : nT} {N t : Nat} (hd : 4 ≤ d + 1) (hI0 : TI T) : ∀ (k : Nat) (c : Nat) (σ : vS), (TC L N t (itT (flowT L) c T) σ ∧ Fr t σ0 σ ∧ c ≤ T 0 10) → T 0 10 - c < k → V G RX5 cX5_oneHour none 3 (d + 1) (fun r' σ' => r' = none ∧ (TC L N t (hourT L T) σ' ∧ Fr t σ0 σ')) 2 [some (.ref t), some (.int (nI c)), none] [] σ := by
  intro k
  induction k with
  | zero => intros; omega
  | succ k ih =>
    intro c σ hh hk
    obtain ⟨hC, hF, hc⟩ := hh
    obtain ⟨U, hU⟩ : ∃ U, U = itT (flowT L) c T := ⟨_, rfl⟩
    rw [← hU] at hC
    obtain ⟨ht, hH, hI, hL, hLI, hN, hN2⟩ := id hC
    have hT := hH.1
    have hn := hI.nc
    have hm := hI.np
    have e5 : U 0 5 = T 0 5 := by rw [hU]; exact (it_flow hI0 (by omega)).2 0 5 (by decide) (by omega)
    have e10 : U 0 10 = T 0 10 := by rw [hU]; exact (it_flow hI0 (by omega)).2 0 10 (by decide) (by omega)
    refine V_iloadn_1 dX5_oneHour_2 ?_
    refine V_aloadn_0 dX5_oneHour_3 ?_
    refine V_getI dX5_oneHour_4 fl_X5_65 (oT_pipes ht) ?_
    refine V_topi hT.n10 ?_
    refine V_icmpN_ge (a := c) (b := U 0 10) dX5_oneHour_7 39 (by decide) (by omega) (by omega) (fun h7 => ?_) (fun h7 => ?_)
    · refine V_iconst 0 dX5_oneHour_39 (by decide) ?_
      refine V_istoren_1 dX5_oneHour_40 (by first | exact rfl | exact True.intro) (by decide) ?_
      have e9 : c = T 0 10 := by omega
      rw [hU, e9] at hC
      have g1 := (it_flow (L := L) hI0 (Nat.le_refl _)).1
      have g2 : itT (flowT L) (T 0 10) T 0 5 = T 0 5 := (it_flow hI0 (Nat.le_refl _)).2 0 5 (by decide) (by omega)
      have g3 := lp_hour2 (G := G) (σ0 := σ0) (L := L) (N := N) (t := t) hd g1 (T 0 5 + 1) 0 σ ⟨hC, hF, by omega⟩ (by omega)
      rw [g2] at g3
      exact g3
    · have hc2 : c < U 0 10 := by omega
      obtain ⟨q1, q2, q3, q4, q5⟩ := up_ok (L := L) hI hc2
      have b3 := hI.full q1
      have b4 := runsT_lt (L := L) hI hc2
      refine V_aloadn_0 dX5_oneHour_10 ?_
      refine V_iloadn_1 dX5_oneHour_11 ?_
      refine V_cv1f dX5_oneHour_12 cv_X5_114 (rcT ht) (Nat.le_of_ble_eq_true rfl) (k_T_upperOf (by omega) ht hH hI hc2) ?_
      refine V_istoren_2 dX5_oneHour_15 (by first | exact rfl | exact True.intro) (by decide) ?_
      refine V_aloadn_0 dX5_oneHour_16 ?_
      refine V_iloadn_2 dX5_oneHour_17 ?_
      refine V_aloadn_0 dX5_oneHour_18 ?_
      refine V_iloadn_2 dX5_oneHour_19 ?_
      refine V_iloadn_1 dX5_oneHour_20 ?_
      refine V_cv2f dX5_oneHour_21 cv_X5_117 (rcT ht) (Nat.le_of_ble_eq_true rfl) (k_T_runsFrom (by omega) ht hH hI hc2) ?_
      refine V_aloadn_0 dX5_oneHour_24 ?_
      refine V_iloadn_1 dX5_oneHour_25 ?_
      refine V_iloadn_2 dX5_oneHour_26 ?_
      refine V_cv2f dX5_oneHour_27 cv_X5_120 (rcT ht) (Nat.le_of_ble_eq_true rfl) (k_T_farUp ht hH hI hc2) ?_
      refine V_cv3n dX5_oneHour_30 cv_X5_132 (rcT ht) (Nat.le_of_ble_eq_true rfl) (k_T_lead_b (by omega) hC q1 q2 q3 (by omega)) (fun σ h9 => ?_)
      refine V_iinc_1 dX5_oneHour_33 (by first | exact rfl | exact True.intro) (by decide) (nI (c + 1)) (nI_inc _) ?_
      refine V_goto dX5_oneHour_36 2 (by decide) ?_
      refine V_fg_2 ?_
      refine ih (c + 1) _ ⟨?_, hF.tr h9.2, by omega⟩ (by omega)
      show TC L N t (flowT L c (itT (flowT L) c T)) _
      rw [← hU]
      unfold flowT
      have g9 := h9.1
      rw [Nat.min_eq_left b4] at g9
      split
      · rename_i e8
        rw [e8, lead_zero] at g9
        exact g9
      · exact g9

set_option maxRecDepth 100000 in
set_option maxHeartbeats 4000000 in
theorem k_T_oneHour {G : vG} {σ : vS} {d : Nat} (hd : 4 ≤ d) {L T : nT} {N t : Nat} (hC : TC L N t T σ) : Cr G yX5_oneHour cX5_oneHour 3 none d [.ref t] σ none (fun σ' => TC L N t (hourT L T) σ' ∧ Fr t σ σ') := by
  refine Ct.ofV (by decide) (Nat.le_of_ble_eq_true rfl) rfl ?_
  show V G RX5 cX5_oneHour none 3 d _ 0 [some (.ref t), none, none] [] _
  obtain ⟨d, rfl⟩ : ∃ e, d = e + 1 := ⟨d - 1, by omega⟩
  refine V_iconst 0 dX5_oneHour_0 (by decide) ?_
  refine V_istoren_1 dX5_oneHour_1 (by first | exact rfl | exact True.intro) (by decide) ?_
  exact lp_hour1 hd hC.2.2.1 (T 0 10 + 1) 0 σ ⟨hC, Fr.rf, by omega⟩ (by omega)

set_option maxRecDepth 100000 in
set_option maxHeartbeats 4000000 in
theorem lp_passHours {G : vG} {d : Nat} {σ0 : vS} {L T : nT} {N t n : Nat} (hd : 5 ≤ d + 1) (hn : n < 2 ^ 31) : ∀ (k : Nat) (i : Nat) (σ : vS), (TC L N t (hoursT L i T) σ ∧ Fr t σ0 σ ∧ i ≤ n) → n - i < k → V G RX5 cX5_passHours none 3 (d + 1) (fun r' σ' => r' = none ∧ (TC L N t (hoursT L n T) σ' ∧ Fr t σ0 σ')) 2 [some (.ref t), some (.int (nI n)), some (.int (nI i))] [] σ := by
  intro k
  induction k with
  | zero => intros; omega
  | succ k ih =>
    intro i σ hh hk
    obtain ⟨hC, hF, hi⟩ := hh
    refine V_iloadn_2 dX5_passHours_2 ?_
    refine V_iloadn_1 dX5_passHours_3 ?_
    refine V_icmpN_ge (a := i) (b := n) dX5_passHours_4 17 (by decide) (by omega) (by omega) (fun h4 => ?_) (fun h4 => ?_)
    · exact V_vret dX5_passHours_17 ⟨rfl, by rw [show n = i by omega]; exact hC, hF⟩
    · refine V_aloadn_0 dX5_passHours_7 ?_
      refine V_cv0n dX5_passHours_8 cv_X5_129 (rcT hC.1) (Nat.le_of_ble_eq_true rfl) (k_T_oneHour (by omega) hC) (fun σ h9 => ?_)
      refine V_iinc_2 dX5_passHours_11 (by first | exact rfl | exact True.intro) (by decide) (nI (i + 1)) (nI_inc _) ?_
      refine V_goto dX5_passHours_14 2 (by decide) ?_
      exact ih (i + 1) _ ⟨h9.1, hF.tr h9.2, by omega⟩ (by omega)

set_option maxRecDepth 100000 in
set_option maxHeartbeats 4000000 in
theorem k_T_passHours {G : vG} {σ : vS} {d : Nat} (hd : 5 ≤ d) {L T : nT} {N t : Nat} (hC : TC L N t T σ) {n : Nat} (hn : n < 2 ^ 31) : Cr G yX5_passHours cX5_passHours 3 none d [.ref t, .int (nI n)] σ none (fun σ' => TC L N t (hoursT L n T) σ' ∧ Fr t σ σ') := by
  refine Ct.ofV (by decide) (Nat.le_of_ble_eq_true rfl) rfl ?_
  show V G RX5 cX5_passHours none 3 d _ 0 [some (.ref t), some (.int (nI n)), none] [] _
  obtain ⟨d, rfl⟩ : ∃ e, d = e + 1 := ⟨d - 1, by omega⟩
  refine V_iconst 0 dX5_passHours_0 (by decide) ?_
  refine V_istoren_2 dX5_passHours_1 (by first | exact rfl | exact True.intro) (by decide) ?_
  exact lp_passHours hd hn (n + 1) 0 σ ⟨hC, Fr.rf, by omega⟩ (by omega)
