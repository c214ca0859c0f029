/-! ===== one number of a town's rows becomes another ===== -/
theorem TA0.arr {t k i x : Nat} {T : nT} {σ : vS} (h : TA0 t T σ) (hk : k = 1 ∨ k = 2 ∨ k = 3 ∨ k = 4 ∨ k = 9) : TA0 t (Tup T k i x) (vup σ (t + k) i (nI x)) := by
  have e : ∀ a j, ¬ (a = k ∧ j = i) → Tup T k i x a j = T a j := fun a j g => Tup_ne g
  have f : ∀ a j, a ≠ k → vup σ (t + k) i (nI x) (t + a) j = σ (t + a) j := fun a j g => vup_ne (by omega)
  have f0 : ∀ j, vup σ (t + k) i (nI x) t j = σ t j := fun j => vup_ne (by omega)
  have g : ∀ a j, σ (t + a) j = nI (T a j) → vup σ (t + k) i (nI x) (t + a) j = nI (Tup T k i x a j) := by
    intro a j hv
    by_cases c : a = k ∧ j = i
    · rw [c.1, c.2, vup_same, Tup_same]
    · rw [vup_ne (by omega), e a j c]; exact hv
  unfold TA0 at h ⊢
  obtain ⟨b, a2, a3, a4, a5⟩ := h
  rw [f0, f0, f0, f0, f0, f0, f0, e 0 5 (by omega), e 0 10 (by omega), e 0 11 (by omega), e 0 12 (by omega), e 0 13 (by omega), e 0 14 (by omega), e 0 15 (by omega)]
  refine ⟨b, fun c hc => ?_, fun j hj => g 4 j (a3 j hj), fun p hp => ?_, fun q hq => ?_⟩
  · obtain ⟨g1, g2, g3⟩ := a2 c hc
    exact ⟨g 1 c g1, g 2 c g2, g 3 c g3⟩
  · obtain ⟨g1, g2, g3, g4⟩ := a4 p hp
    exact ⟨g 6 p g1, g 7 p g2, g 8 p g3, g 9 p g4⟩
  · rw [f 10 q (by omega), e 10 q (by omega)]; exact a5 q hq
theorem sum_wine {T : nT} {i x : Nat} : ∀ m, sumT (Tup T 4 i x) m ≤ sumT T m + (if i / 3 < m then x else 0) := by
  intro m
  induction m with
  | zero => simp [sumT]
  | succ m ih =>
    simp only [sumT]
    by_cases e : i / 3 = m
    · rw [if_neg (by omega)] at ih
      rw [if_pos (by omega)]
      have : fullT (Tup T 4 i x) m ≤ fullT T m + x := by
        have q0 : Tup T 4 i x 4 (m * 3) ≤ (if m * 3 = i then x else T 4 (m * 3)) := by unfold Tup; split <;> split <;> first | omega | (rename_i a b; exact absurd ⟨rfl, b⟩ a) | (rename_i a b; exact absurd a.2 b)
        have q1 : Tup T 4 i x 4 (m * 3 + 1) ≤ (if m * 3 + 1 = i then x else T 4 (m * 3 + 1)) := by unfold Tup; split <;> split <;> first | omega | (rename_i a b; exact absurd ⟨rfl, b⟩ a) | (rename_i a b; exact absurd a.2 b)
        have q2 : Tup T 4 i x 4 (m * 3 + 2) ≤ (if m * 3 + 2 = i then x else T 4 (m * 3 + 2)) := by unfold Tup; split <;> split <;> first | omega | (rename_i a b; exact absurd ⟨rfl, b⟩ a) | (rename_i a b; exact absurd a.2 b)
        unfold fullT
        split at q0 <;> split at q1 <;> split at q2 <;> omega
      omega
    · have : fullT (Tup T 4 i x) m = fullT T m := full_eq (fun s hs => Tup_ne (by omega))
      rw [this]
      by_cases g : i / 3 < m
      · rw [if_pos g] at ih
        rw [if_pos (by omega)]
        omega
      · rw [if_neg g] at ih
        rw [if_neg (by omega)]
        omega
theorem bud_wine {T : nT} {i x : Nat} : bud (Tup T 4 i x) ≤ bud T + x := by
  unfold bud
  rw [Tup_ne (by omega), Tup_ne (by omega)]
  have := sum_wine (T := T) (i := i) (x := x) (T 0 5)
  split at this <;> omega
theorem TI.wine {T : nT} {i x : Nat} (h : TI T) (hb : bud T + x < 2 ^ 30) : TI (Tup T 4 i x) := by
  obtain ⟨i1, i2, i3, i4, i5, i6, i7, i8, i9⟩ := h
  have hb2 := bud_wine (T := T) (i := i) (x := x)
  have e : ∀ k j, k ≠ 4 → Tup T 4 i x k j = T k j := fun k j g => Tup_ne (by omega)
  refine ⟨by rw [e 0 5 (by decide)]; exact i1, by rw [e 0 10 (by decide)]; exact i2, fun c hc => ?_, fun p hp => ?_, by unfold bud at hb2 hb; omega, by rw [e 0 12 (by decide)]; exact i6, by rw [e 0 14 (by decide)]; exact i7, by rw [e 0 15 (by decide)]; exact i8, fun q hq => by rw [e 10 q (by decide), e 0 15 (by decide)]; exact i9 q hq⟩
  · rw [e 0 5 (by decide)] at hc
    rw [e 1 c (by decide), e 2 c (by decide), e 3 c (by decide)]
    exact i3 c hc
  · rw [e 0 10 (by decide)] at hp
    rw [e 0 5 (by decide), e 6 p (by decide), e 7 p (by decide), e 8 p (by decide), e 9 p (by decide)]
    exact i4 p hp
theorem TI.cel {T : nT} {k i x : Nat} (h : TI T) (hk : (k = 1 ∧ x ≤ 5) ∨ (k = 2 ∧ x ≤ 99) ∨ (k = 3 ∧ 1 ≤ x ∧ x ≤ 99)) : TI (Tup T k i x) ∧ bud (Tup T k i x) = bud T := by
  obtain ⟨i1, i2, i3, i4, i5, i6, i7, i8, i9⟩ := h
  have e : ∀ a j, a ≠ k → Tup T k i x a j = T a j := fun a j g => Tup_ne (by omega)
  have hb : bud (Tup T k i x) = bud T := by
    unfold bud
    rw [e 0 5 (by omega), e 0 11 (by omega), sum_eq _ (fun c _ => full_eq (fun s _ => e 4 _ (by omega)))]
  refine ⟨⟨by rw [e 0 5 (by omega)]; exact i1, by rw [e 0 10 (by omega)]; exact i2, fun c hc => ?_, fun p hp => ?_, by unfold bud at hb; omega, by rw [e 0 12 (by omega)]; exact i6, by rw [e 0 14 (by omega)]; exact i7, by rw [e 0 15 (by omega)]; exact i8, fun q hq => by rw [e 10 q (by omega), e 0 15 (by omega)]; exact i9 q hq⟩, hb⟩
  · rw [e 0 5 (by omega)] at hc
    have q := i3 c hc
    have g : ∀ a, Tup T k i x a c = (if a = k ∧ c = i then x else T a c) := fun a => rfl
    rw [g 1, g 2, g 3]
    refine ⟨?_, ?_, ?_, ?_⟩ <;> split <;> omega
  · rw [e 0 10 (by omega)] at hp
    rw [e 0 5 (by omega), e 6 p (by omega), e 7 p (by omega), e 8 p (by omega), e 9 p (by omega)]
    exact i4 p hp
theorem TI.ck {T : nT} {i x : Nat} (h : TI T) (hx : x ≤ 1) : TI (Tup T 9 i x) ∧ bud (Tup T 9 i x) = bud T := by
  obtain ⟨i1, i2, i3, i4, i5, i6, i7, i8, i9⟩ := h
  have e : ∀ a j, a ≠ 9 → Tup T 9 i x a j = T a j := fun a j g => Tup_ne (by omega)
  have hb : bud (Tup T 9 i x) = bud T := by
    unfold bud
    rw [e 0 5 (by omega), e 0 11 (by omega), sum_eq _ (fun c _ => full_eq (fun s _ => e 4 _ (by omega)))]
  refine ⟨⟨by rw [e 0 5 (by omega)]; exact i1, by rw [e 0 10 (by omega)]; exact i2, fun c hc => ?_, fun p hp => ?_, by unfold bud at hb; omega, by rw [e 0 12 (by omega)]; exact i6, by rw [e 0 14 (by omega)]; exact i7, by rw [e 0 15 (by omega)]; exact i8, fun q hq => by rw [e 10 q (by omega), e 0 15 (by omega)]; exact i9 q hq⟩, hb⟩
  · rw [e 0 5 (by omega)] at hc
    rw [e 1 c (by omega), e 2 c (by omega), e 3 c (by omega)]
    exact i3 c hc
  · rw [e 0 10 (by omega)] at hp
    have g : Tup T 9 i x 9 p = (if 9 = 9 ∧ p = i then x else T 9 p) := rfl
    rw [e 0 5 (by omega), e 6 p (by omega), e 7 p (by omega), e 8 p (by omega), g]
    have q := i4 p hp
    refine ⟨q.1, q.2.1, q.2.2.1, q.2.2.2.1, ?_⟩
    split <;> omega
/-- a number of a cellar's own becomes another, its height is worked out anew -/
theorem TC.store {L : nT} {N t k i x c : Nat} {T : nT} {σ σ1 σ2 : vS} (h : TC L N t T σ) (hk : k = 1 ∨ k = 2 ∨ k = 3 ∨ k = 4) (hi : (k ≠ 4 ∧ i = c) ∨ (k = 4 ∧ c * 3 ≤ i ∧ i < c * 3 + 3)) (hI : TI (Tup T k i x)) (h1 : σ1 = vup σ (t + k) i (nI x)) (h2 : refP t c (highT L (Tup T k i x) c) σ1 σ2) : TC L N t (Tup T k i x) σ2 ∧ Fr t σ σ2 := by
  subst h1
  have hF : Fr t σ σ2 := (Fr.up (k := k) (by omega)).tr h2.fr
  have hg := h.1.ge
  refine ⟨h.next hF ⟨h2.T0 h.1 (h.2.1.1.arr (by omega)), fun b hb => ?_⟩ hI (Tup_ne (by omega)), hF⟩
  rw [Tup_ne (by omega)] at hb
  by_cases e : b = c
  · rw [e]; exact h2.1
  · rw [h2.2 (t + 5) b (by omega) (by omega), vup_p (by omega), h.2.1.2 b hb, high_eq (T' := Tup T k i x) (T := T) (Tup_ne (by omega)) (Tup_ne (by omega)) (Tup_ne (by omega)) (fun s hs => Tup_ne (by omega))]
theorem TC.c1 {L : nT} {N t k i x : Nat} {T : nT} {σ : vS} (h : TC L N t T σ) (hk : k = 1 ∨ k = 2 ∨ k = 3 ∨ k = 4) (hI : TI (Tup T k i x)) : TC0 L N t (Tup T k i x) (vup σ (t + k) i (nI x)) := by
  obtain ⟨h1, h2, h3, h4, h5, h6, h7⟩ := h
  have hg := h1.ge
  exact ⟨h1, h2.1.arr (by omega), hI, h4.congr h7 (fun q _ _ => vup_p (by omega)), h5, by rw [Tup_ne (by omega)]; exact h6, h7⟩
def dealT (T : nT) : nT := Tup (Tup (addCT (Tup T 0 14 (zN (zN (zN (T 0 14))))) (zN (T 0 14) / 2 ^ 8 % 6) (zN (zN (T 0 14)) / 2 ^ 8 % 60) (1 + zN (zN (zN (T 0 14))) / 2 ^ 8 % 60)) 0 14 (zN (zN (zN (zN (T 0 14)))))) 4 (T 0 5 * 3 + T 0 5 % 3) (zN (zN (zN (zN (T 0 14)))) / 2 ^ 8 % 300)

set_option maxRecDepth 100000 in
set_option maxHeartbeats 4000000 in
theorem k_T_drawCellar {G : vG} {σ : vS} {d : Nat} (hd : 5 ≤ d) {L T : nT} {N t : Nat} (hC : TC L N t T σ) (hn8 : T 0 5 < 8) (hb : bud T + 300 < 2 ^ 30) : Cr G yX5_drawCellar cX5_drawCellar 5 none d [.ref t] σ none (fun σ' => TC L N t (dealT T) σ' ∧ Fr t σ σ') := by
  refine Ct.ofV (by decide) (Nat.le_of_ble_eq_true rfl) rfl ?_
  show V G RX5 cX5_drawCellar none 5 d _ 0 [some (.ref t), none, none, none, none] [] _
  obtain ⟨d, rfl⟩ : ∃ e, d = e + 1 := ⟨d - 1, by omega⟩
  obtain ⟨ht, hH, hI, hL, hLI, hN, hN2⟩ := id hC
  have hT := hH.1
  have hn := hI.nc
  have hm := hI.np
  have z1 := zN_lt (T 0 14)
  have z2 := zN_lt (zN (T 0 14))
  have z3 := zN_lt (zN (zN (T 0 14)))
  have z4 := zN_lt (zN (zN (zN (T 0 14))))
  refine V_aloadn_0 dX5_drawCellar_0 ?_
  refine V_cv0f dX5_drawCellar_1 cv_X5_139 (rcT ht) (Nat.le_of_ble_eq_true rfl) (k_T_draw ht hT.n14) ?_
  have hC1 := hC.sc (i := 14) (x := zN (T 0 14)) (by omega) (hI.zz (zN_lt _))
  refine V_bipush 6 dX5_drawCellar_4 (by decide) ?_
  refine V_iremN (a := zN (T 0 14) / 2 ^ 8) (b := 6) dX5_drawCellar_6 (by omega) (by omega) (by omega) ?_
  refine V_istoren_1 dX5_drawCellar_7 (by first | exact rfl | exact True.intro) (by decide) ?_
  refine V_aloadn_0 dX5_drawCellar_8 ?_
  refine V_cv0f dX5_drawCellar_9 cv_X5_139 (rcT ht) (Nat.le_of_ble_eq_true rfl) (k_T_draw ht hC1.2.1.1.n14) ?_
  have hC2 := hC1.sc (i := 14) (x := zN (zN (T 0 14))) (by omega) (hC1.2.2.1.zz (zN_lt _))
  rw [Tup_Tup] at hC2
  refine V_hp (σ' := vup (vup σ t 14 (nI (zN (T 0 14)))) t 14 (nI (zN (zN (T 0 14))))) (by rw [Tup_same]) ?_
  refine V_topi (y := nI (zN (zN (T 0 14)) / 2 ^ 8)) (by rw [Tup_same]) ?_
  refine V_bipush 60 dX5_drawCellar_12 (by decide) ?_
  refine V_iremN (a := zN (zN (T 0 14)) / 2 ^ 8) (b := 60) dX5_drawCellar_14 (by omega) (by omega) (by omega) ?_
  refine V_istoren_2 dX5_drawCellar_15 (by first | exact rfl | exact True.intro) (by decide) ?_
  refine V_iconst 1 dX5_drawCellar_16 (by decide) ?_
  refine V_aloadn_0 dX5_drawCellar_17 ?_
  refine V_cv0f dX5_drawCellar_18 cv_X5_139 (rcT ht) (Nat.le_of_ble_eq_true rfl) (k_T_draw ht hC2.2.1.1.n14) ?_
  have hC3 := hC2.sc (i := 14) (x := zN (zN (zN (T 0 14)))) (by omega) (hC2.2.2.1.zz (zN_lt _))
  rw [Tup_Tup] at hC3
  refine V_hp (σ' := vup (vup (vup σ t 14 (nI (zN (T 0 14)))) t 14 (nI (zN (zN (T 0 14))))) t 14 (nI (zN (zN (zN (T 0 14)))))) (by rw [Tup_same]) ?_
  refine V_topi (y := nI (zN (zN (zN (T 0 14))) / 2 ^ 8)) (by rw [Tup_same]) ?_
  refine V_bipush 60 dX5_drawCellar_21 (by decide) ?_
  refine V_iremN (a := zN (zN (zN (T 0 14))) / 2 ^ 8) (b := 60) dX5_drawCellar_23 (by omega) (by omega) (by omega) ?_
  refine V_iaddN (a := 1) (b := (zN (zN (zN (T 0 14))) / 2 ^ 8) % 60) dX5_drawCellar_24 ?_
  refine V_istoren_3 dX5_drawCellar_25 (by first | exact rfl | exact True.intro) (by decide) ?_
  refine V_aloadn_0 dX5_drawCellar_26 ?_
  refine V_iloadn_1 dX5_drawCellar_27 ?_
  refine V_iloadn_2 dX5_drawCellar_28 ?_
  refine V_iloadn_3 dX5_drawCellar_29 ?_
  refine V_cv3r dX5_drawCellar_30 cv_X5_144 (rcT ht) (Nat.le_of_ble_eq_true rfl) (k_T_addCellar (by omega) hC3 (by rw [Tup_ne (by omega)]; exact hn8) (by omega) (by omega) (by omega)) (fun σ4 h4 => ?_)
  have hC4 := h4.1
  refine V_topi (y := nI (T 0 5)) (by rw [Tup_ne (by omega)]) ?_
  refine V_istore_4 dX5_drawCellar_33 (by first | exact rfl | exact True.intro) (by decide) ?_
  refine V_aloadn_0 dX5_drawCellar_35 ?_
  refine V_getR dX5_drawCellar_36 fl_X5_21 (oT_wine ht) ?_
  refine V_iload_4 dX5_drawCellar_39 ?_
  refine V_iconst 3 dX5_drawCellar_41 (by decide) ?_
  refine V_imulN (a := T 0 5) (b := 3) dX5_drawCellar_42 ?_
  refine V_iload_4 dX5_drawCellar_43 ?_
  refine V_iconst 3 dX5_drawCellar_45 (by decide) ?_
  refine V_iremN (a := T 0 5) (b := 3) dX5_drawCellar_46 (by omega) (by omega) (by omega) ?_
  refine V_iaddN (a := (T 0 5) * 3) (b := (T 0 5) % 3) dX5_drawCellar_47 ?_
  refine V_aloadn_0 dX5_drawCellar_48 ?_
  refine V_cv0f dX5_drawCellar_49 cv_X5_139 (rcT ht) (Nat.le_of_ble_eq_true rfl) (k_T_draw ht hC4.2.1.1.n14) ?_
  have hC5 := hC4.sc (i := 14) (x := zN (zN (zN (zN (T 0 14))))) (by omega) (hC4.2.2.1.zz (zN_lt _))
  refine V_hp (σ' := vup σ4 t 14 (nI (zN (zN (zN (zN (T 0 14))))))) (by rw [addC_0 (by decide), Tup_same]) ?_
  refine V_topi (y := nI (zN (zN (zN (zN (T 0 14)))) / 2 ^ 8)) (by rw [addC_0 (by decide), Tup_same]) ?_
  refine V_sipush 300 dX5_drawCellar_52 (by decide) ?_
  refine V_iremN (a := zN (zN (zN (zN (T 0 14)))) / 2 ^ 8) (b := 300) dX5_drawCellar_55 (by omega) (by omega) (by omega) ?_
  refine V_iast (j := ((T 0 5) * 3) + ((T 0 5) % 3)) dX5_drawCellar_56 (aT_wine ht) (by omega) (by decide) ?_
  have hb5 : bud (Tup (addCT (Tup T 0 14 (zN (zN (zN (T 0 14))))) (zN (T 0 14) / 2 ^ 8 % 6) (zN (zN (T 0 14)) / 2 ^ 8 % 60) (1 + zN (zN (zN (T 0 14))) / 2 ^ 8 % 60)) 0 14 (zN (zN (zN (zN (T 0 14)))))) = bud T := by
    have e1 : ∀ (U : nT) (x : Nat), bud (Tup U 0 14 x) = bud U := fun U x => by
      unfold bud
      rw [Tup_ne (by omega), Tup_ne (by omega), sum_eq _ (fun c _ => z_full x)]
    rw [e1, addC_bud, e1]
  have hI6 : TI (dealT T) := hC5.2.2.1.wine (by rw [hb5]; omega)
  have hC6 := hC5.c1 (k := 4) (i := T 0 5 * 3 + T 0 5 % 3) (x := zN (zN (zN (zN (T 0 14)))) / 2 ^ 8 % 300) (by omega) hI6
  refine V_aloadn_0 dX5_drawCellar_57 ?_
  refine V_iload_4 dX5_drawCellar_58 ?_
  refine V_cv1n dX5_drawCellar_60 cv_X5_86 (rcT ht) (Nat.le_of_ble_eq_true rfl) (k_T_refresh (by omega) hC6 (by rw [Tup_ne (by omega), Tup_ne (by omega), addC_5, Tup_ne (by omega)]; omega)) (fun σ7 h7 => ?_)
  exact V_vret dX5_drawCellar_63 ⟨rfl, (hC5.store (by omega) (Or.inr ⟨rfl, by omega, by omega⟩) hI6 rfl h7).1, ((((Fr.up (k := 0) (by omega)).tr (Fr.up (k := 0) (by omega))).tr (Fr.up (k := 0) (by omega))).tr h4.2).tr ((Fr.up (k := 0) (by omega)).tr (hC5.store (by omega) (Or.inr ⟨rfl, by omega, by omega⟩) hI6 rfl h7).2)⟩

theorem addT_TA0 {t key : Nat} {T : nT} {σ : vS} (h : TA0 t T σ) (hkey : key < 3) : TA0 t (addTT T key) (vup (vup σ (t + 10) key (nI (T 0 15))) t 15 (nI (T 0 15 + 1))) := by
  obtain ⟨⟨b1, b2, b3, b4, b5, b6, b7⟩, a2, a3, a4, a5⟩ := h
  have e5 : addTT T key 0 5 = T 0 5 := addT_k (by omega) (by omega)
  have e10 : addTT T key 0 10 = T 0 10 := addT_k (by omega) (by omega)
  refine ⟨⟨?_, ?_, ?_, ?_, ?_, ?_, ?_⟩, fun c hc => ?_, fun i hi => ?_, fun p hp => ?_, fun q hq => ?_⟩
  · rw [vup_ne (by omega), vup_ne (by omega), e5]; exact b1
  · rw [vup_ne (by omega), vup_ne (by omega), e10]; exact b2
  · rw [vup_ne (by omega), vup_ne (by omega), addT_k (by omega) (by omega)]; exact b3
  · rw [vup_ne (by omega), vup_ne (by omega), addT_k (by omega) (by omega)]; exact b4
  · rw [vup_ne (by omega), vup_ne (by omega), addT_k (by omega) (by omega)]; exact b5
  · rw [vup_ne (by omega), vup_ne (by omega), addT_k (by omega) (by omega)]; exact b6
  · rw [vup_same, addT_15]
  · rw [e5] at hc
    rw [addT_k (by omega) (by omega), addT_k (by omega) (by omega), addT_k (by omega) (by omega), vup_p (by omega), vup_p (by omega), vup_p (by omega), vup_p (by omega), vup_p (by omega), vup_p (by omega)]
    exact a2 c hc
  · rw [e5] at hi
    rw [addT_k (by omega) (by omega), vup_p (by omega), vup_p (by omega)]
    exact a3 i hi
  · rw [e10] at hp
    rw [addT_k (by omega) (by omega), addT_k (by omega) (by omega), addT_k (by omega) (by omega), addT_k (by omega) (by omega), vup_p (by omega), vup_p (by omega), vup_p (by omega), vup_p (by omega), vup_p (by omega), vup_p (by omega), vup_p (by omega), vup_p (by omega)]
    exact a4 p hp
  · by_cases e : q = key
    · subst e
      rw [addT_key, vup_ne (by omega), vup_same, lw_val (by omega)]
      rfl
    · rw [addT_k (by omega) (by omega), vup_ne (by omega), vup_ne (by omega)]
      exact a5 q hq

set_option maxRecDepth 100000 in
set_option maxHeartbeats 4000000 in
theorem lp_addText {G : vG} {d : Nat} {σ0 : vS} {L T : nT} {N t : Nat} (hd : 3 ≤ d + 1) : ∀ (k : Nat) (c : Nat) (σ : vS), (TC0 L N t T σ ∧ Fr t σ0 σ ∧ c ≤ T 0 5 ∧ ∀ b, b < c → σ (t + 5) b = nI (highT L T b)) → T 0 5 - c < k → V G RX5 cX5_addText none 3 (d + 1) (fun r' σ' => r' = none ∧ (TC L N t T σ' ∧ Fr t σ0 σ')) 26 [some (.ref t), some (.int 0), some (.int (nI c))] [] σ := by
  intro k
  induction k with
  | zero => intros; omega
  | succ k ih =>
    intro c σ hh hk
    obtain ⟨hC, hF, hc, hh⟩ := hh
    have hT := hC.2.1
    have hn := hC.2.2.1.nc
    have hg := hC.1.ge
    refine V_iloadn_2 dX5_addText_26 ?_
    refine V_aloadn_0 dX5_addText_27 ?_
    refine V_getI dX5_addText_28 fl_X5_62 (oT_cellars hC.1) ?_
    refine V_topi hT.n5 ?_
    refine V_icmpN_ge (a := c) (b := T 0 5) dX5_addText_31 45 (by decide) (by omega) (by omega) (fun h31 => ?_) (fun h31 => ?_)
    · exact V_vret dX5_addText_45 ⟨rfl, ⟨hC.1, ⟨hC.2.1, fun b hb => hh b (by omega)⟩, hC.2.2⟩, hF⟩
    · refine V_aloadn_0 dX5_addText_34 ?_
      refine V_iloadn_2 dX5_addText_35 ?_
      refine V_cv1n dX5_addText_36 cv_X5_86 (rcT hC.1) (Nat.le_of_ble_eq_true rfl) (k_T_refresh (by omega) hC (by omega)) (fun σ1 h9 => ?_)
      refine V_iinc_2 dX5_addText_39 (by first | exact rfl | exact True.intro) (by decide) (nI (c + 1)) (nI_inc _) ?_
      refine V_goto dX5_addText_42 26 (by decide) ?_
      refine ih (c + 1) σ1 ⟨⟨hC.1, h9.T0 hC.1 hC.2.1, hC.2.2.1, hC.2.2.2.1.congr hC.2.2.2.2.2.2 (fun q _ _ => h9.p (by omega) (by omega)), hC.2.2.2.2⟩, hF.tr h9.fr, by omega, fun b hb => ?_⟩ (by omega)
      by_cases e : b = c
      · rw [e]; exact h9.1
      · rw [h9.2 (t + 5) b (by omega) (by omega)]; exact hh b (by omega)

set_option maxRecDepth 100000 in
set_option maxHeartbeats 4000000 in
theorem k_T_addText {G : vG} {σ : vS} {d : Nat} (hd : 3 ≤ d) {L T : nT} {N t key : Nat} (ht : Twn t) (hT : TA0 t T σ) (hI : TI T) (hL : LA L N σ) (hLI : LI L N) (hN : T 0 15 + 1 ≤ N) (hN2 : N ≤ 14) (hkey : key < 3) (hH : key ≠ 0 → TH L t T σ) : Cr G yX5_addText cX5_addText 3 none d [.ref t, .int (nI key)] σ none (fun σ' => TC L N t (addTT T key) σ' ∧ Fr t σ σ') := by
  refine Ct.ofV (by decide) (Nat.le_of_ble_eq_true rfl) rfl ?_
  show V G RX5 cX5_addText none 3 d _ 0 [some (.ref t), some (.int (nI key)), none] [] _
  obtain ⟨d, rfl⟩ : ∃ e, d = e + 1 := ⟨d - 1, by omega⟩
  have hg := ht.ge
  have hF : Fr t σ (vup (vup σ (t + 10) key (nI (T 0 15))) t 15 (nI (T 0 15 + 1))) := (Fr.up (k := 10) (by omega)).tr (Fr.up (k := 0) (by omega))
  have hC1 : TC0 L N t (addTT T key) (vup (vup σ (t + 10) key (nI (T 0 15))) t 15 (nI (T 0 15 + 1))) := ⟨ht, addT_TA0 hT hkey, hI.addT (by omega), hL.congr hN2 (fun q _ _ => by rw [vup_p (by omega), vup_p (by omega)]), hLI, by rw [addT_15]; exact hN, hN2⟩
  refine V_aloadn_0 dX5_addText_0 ?_
  refine V_getR dX5_addText_1 fl_X5_43 (oT_lawOf ht) ?_
  refine V_iloadn_1 dX5_addText_4 ?_
  refine V_aloadn_0 dX5_addText_5 ?_
  refine V_getI dX5_addText_6 fl_X5_77 (oT_texts ht) ?_
  refine V_topi (y := nI (T 0 15)) hT.n15 ?_
  refine V_iast (j := key) dX5_addText_9 (aT_lawOf ht) (by omega) (by decide) ?_
  refine V_aloadn_0 dX5_addText_10 ?_
  refine V_dup dX5_addText_11 rfl ?_
  refine V_getI dX5_addText_12 fl_X5_77 (oT_texts ht) ?_
  refine V_topi (y := nI (T 0 15)) (by rw [vup_ne (by omega)]; exact hT.n15) ?_
  refine V_iconst 1 dX5_addText_15 (by decide) ?_
  refine V_iaddN (a := T 0 15) (b := 1) dX5_addText_16 ?_
  refine V_putI dX5_addText_17 fp_X5_77 (oT_texts ht) ?_
  refine V_iloadn_1 dX5_addText_20 ?_
  refine V_ifN_ne (a := key) dX5_addText_21 45 (by decide) (by omega) (fun h21 => ?_) (fun h21 => ?_)
  · exact V_vret dX5_addText_45 ⟨rfl, ⟨ht, ⟨hC1.2.1, fun c hc => by rw [addT_k (by omega) (by omega)] at hc; rw [vup_p (by omega), vup_p (by omega), hH h21 c hc, high_eq (T' := addTT T key) (T := T) (addT_k (by omega) (by omega)) (addT_k (by omega) (by omega)) (addT_k (by omega) (by omega)) (fun s _ => addT_k (by omega) (by omega))]⟩, hC1.2.2⟩, hF⟩
  · subst h21
    refine V_iconst 0 dX5_addText_24 (by decide) ?_
    refine V_istoren_2 dX5_addText_25 (by first | exact rfl | exact True.intro) (by decide) ?_
    exact lp_addText (σ0 := σ) hd (addTT T 0 0 5 + 1) 0 _ ⟨hC1, hF, by omega, fun b hb => by omega⟩ (by omega)

theorem vcp_ne {σ : vS} {p0 p1 sp dp n q j : Nat} (h : q ≠ p1) : vcp σ p0 p1 sp dp n q j = σ q j := by rw [vcp_p h]
theorem vcp0 {σ : vS} {p0 p1 n j : Nat} (h : j < n) : vcp σ p0 p1 0 0 n p1 j = σ p0 j := by
  unfold vcp
  rw [if_pos ⟨rfl, by omega, by omega⟩]
  congr 1
  omega
theorem Fr.cp {t k p0 sp dp n : Nat} {σ : vS} (hk : k ≤ 11) : Fr t σ (vcp σ p0 (t + k) sp dp n) := fun q a _ => vcp_p (by omega)

set_option maxRecDepth 100000 in
set_option maxHeartbeats 4000000 in
theorem k_T_become {G : vG} {σ : vS} {d : Nat} (hd : 1 ≤ d) {L T : nT} {N t f : Nat} (ht : Twn t) (hne : t ≠ f) (hC : TC L N f T σ) (hm12 : T 0 10 ≤ 12) : Cr G yX5_become cX5_become 2 none d [.ref t, .ref f] σ none (fun σ' => TC L N t T σ' ∧ Fr t σ σ') := by
  refine Ct.ofV (by decide) (Nat.le_of_ble_eq_true rfl) rfl ?_
  show V G RX5 cX5_become none 2 d _ 0 [some (.ref t), some (.ref f)] [] _
  obtain ⟨d, rfl⟩ : ∃ e, d = e + 1 := ⟨d - 1, by omega⟩
  obtain ⟨hf, hH, hI, hL, hLI, hN, hN2⟩ := id hC
  have hS := hH.1
  have hap : f + 11 < t ∨ t + 11 < f := by
    rcases ht with rfl | rfl | rfl <;> rcases hf with rfl | rfl | rfl <;> omega
  have hn := hI.nc
  have hg := ht.ge
  refine V_aloadn_1 dX5_become_0 ?_
  refine V_getR dX5_become_1 fl_X5_9 (oT_kind hC.1) ?_
  refine V_iconst 0 dX5_become_4 (by decide) ?_
  refine V_aloadn_0 dX5_become_5 ?_
  refine V_getR dX5_become_6 fl_X5_9 (oT_kind ht) ?_
  refine V_iconst 0 dX5_become_9 (by decide) ?_
  refine V_bipush 8 dX5_become_10 (by decide) ?_
  refine V_copy (sp := 0) (dp := 0) (n := 8) dX5_become_12 ml_X5_56 (aT_kind hC.1) (aT_kind ht) (by decide) (by decide) (by decide) (by decide) (Nat.le_of_ble_eq_true rfl) ?_
  refine V_aloadn_1 dX5_become_15 ?_
  refine V_getR dX5_become_16 fl_X5_15 (oT_floor hC.1) ?_
  refine V_iconst 0 dX5_become_19 (by decide) ?_
  refine V_aloadn_0 dX5_become_20 ?_
  refine V_getR dX5_become_21 fl_X5_15 (oT_floor ht) ?_
  refine V_iconst 0 dX5_become_24 (by decide) ?_
  refine V_bipush 8 dX5_become_25 (by decide) ?_
  refine V_copy (sp := 0) (dp := 0) (n := 8) dX5_become_27 ml_X5_56 (aT_floor hC.1) (aT_floor ht) (by decide) (by decide) (by decide) (by decide) (Nat.le_of_ble_eq_true rfl) ?_
  refine V_aloadn_1 dX5_become_30 ?_
  refine V_getR dX5_become_31 fl_X5_18 (oT_lip hC.1) ?_
  refine V_iconst 0 dX5_become_34 (by decide) ?_
  refine V_aloadn_0 dX5_become_35 ?_
  refine V_getR dX5_become_36 fl_X5_18 (oT_lip ht) ?_
  refine V_iconst 0 dX5_become_39 (by decide) ?_
  refine V_bipush 8 dX5_become_40 (by decide) ?_
  refine V_copy (sp := 0) (dp := 0) (n := 8) dX5_become_42 ml_X5_56 (aT_lip hC.1) (aT_lip ht) (by decide) (by decide) (by decide) (by decide) (Nat.le_of_ble_eq_true rfl) ?_
  refine V_aloadn_1 dX5_become_45 ?_
  refine V_getR dX5_become_46 fl_X5_21 (oT_wine hC.1) ?_
  refine V_iconst 0 dX5_become_49 (by decide) ?_
  refine V_aloadn_0 dX5_become_50 ?_
  refine V_getR dX5_become_51 fl_X5_21 (oT_wine ht) ?_
  refine V_iconst 0 dX5_become_54 (by decide) ?_
  refine V_bipush 24 dX5_become_55 (by decide) ?_
  refine V_copy (sp := 0) (dp := 0) (n := 24) dX5_become_57 ml_X5_56 (aT_wine hC.1) (aT_wine ht) (by decide) (by decide) (by decide) (by decide) (Nat.le_of_ble_eq_true rfl) ?_
  refine V_aloadn_1 dX5_become_60 ?_
  refine V_getR dX5_become_61 fl_X5_24 (oT_high hC.1) ?_
  refine V_iconst 0 dX5_become_64 (by decide) ?_
  refine V_aloadn_0 dX5_become_65 ?_
  refine V_getR dX5_become_66 fl_X5_24 (oT_high ht) ?_
  refine V_iconst 0 dX5_become_69 (by decide) ?_
  refine V_bipush 8 dX5_become_70 (by decide) ?_
  refine V_copy (sp := 0) (dp := 0) (n := 8) dX5_become_72 ml_X5_56 (aT_high hC.1) (aT_high ht) (by decide) (by decide) (by decide) (by decide) (Nat.le_of_ble_eq_true rfl) ?_
  refine V_aloadn_0 dX5_become_75 ?_
  refine V_aloadn_1 dX5_become_76 ?_
  refine V_getI dX5_become_77 fl_X5_62 (oT_cellars hC.1) ?_
  refine V_topi (y := nI (T 0 5)) (by (repeat (first | rw [vup_ne (by omega)] | rw [vcp_ne (by omega)])); exact hS.n5) ?_
  refine V_putI dX5_become_80 fp_X5_62 (oT_cellars ht) ?_
  refine V_aloadn_1 dX5_become_83 ?_
  refine V_getR dX5_become_84 fl_X5_27 (oT_one hC.1) ?_
  refine V_iconst 0 dX5_become_87 (by decide) ?_
  refine V_aloadn_0 dX5_become_88 ?_
  refine V_getR dX5_become_89 fl_X5_27 (oT_one ht) ?_
  refine V_iconst 0 dX5_become_92 (by decide) ?_
  refine V_bipush 12 dX5_become_93 (by decide) ?_
  refine V_copy (sp := 0) (dp := 0) (n := 12) dX5_become_95 ml_X5_56 (aT_one hC.1) (aT_one ht) (by decide) (by decide) (by decide) (by decide) (Nat.le_of_ble_eq_true rfl) ?_
  refine V_aloadn_1 dX5_become_98 ?_
  refine V_getR dX5_become_99 fl_X5_30 (oT_other hC.1) ?_
  refine V_iconst 0 dX5_become_102 (by decide) ?_
  refine V_aloadn_0 dX5_become_103 ?_
  refine V_getR dX5_become_104 fl_X5_30 (oT_other ht) ?_
  refine V_iconst 0 dX5_become_107 (by decide) ?_
  refine V_bipush 12 dX5_become_108 (by decide) ?_
  refine V_copy (sp := 0) (dp := 0) (n := 12) dX5_become_110 ml_X5_56 (aT_other hC.1) (aT_other ht) (by decide) (by decide) (by decide) (by decide) (Nat.le_of_ble_eq_true rfl) ?_
  refine V_aloadn_1 dX5_become_113 ?_
  refine V_getR dX5_become_114 fl_X5_33 (oT_wide hC.1) ?_
  refine V_iconst 0 dX5_become_117 (by decide) ?_
  refine V_aloadn_0 dX5_become_118 ?_
  refine V_getR dX5_become_119 fl_X5_33 (oT_wide ht) ?_
  refine V_iconst 0 dX5_become_122 (by decide) ?_
  refine V_bipush 12 dX5_become_123 (by decide) ?_
  refine V_copy (sp := 0) (dp := 0) (n := 12) dX5_become_125 ml_X5_56 (aT_wide hC.1) (aT_wide ht) (by decide) (by decide) (by decide) (by decide) (Nat.le_of_ble_eq_true rfl) ?_
  refine V_aloadn_1 dX5_become_128 ?_
  refine V_getR dX5_become_129 fl_X5_36 (oT_corked hC.1) ?_
  refine V_iconst 0 dX5_become_132 (by decide) ?_
  refine V_aloadn_0 dX5_become_133 ?_
  refine V_getR dX5_become_134 fl_X5_36 (oT_corked ht) ?_
  refine V_iconst 0 dX5_become_137 (by decide) ?_
  refine V_bipush 12 dX5_become_138 (by decide) ?_
  refine V_copy (sp := 0) (dp := 0) (n := 12) dX5_become_140 ml_X5_56 (aT_corked hC.1) (aT_corked ht) (by decide) (by decide) (by decide) (by decide) (Nat.le_of_ble_eq_true rfl) ?_
  refine V_aloadn_0 dX5_become_143 ?_
  refine V_aloadn_1 dX5_become_144 ?_
  refine V_getI dX5_become_145 fl_X5_65 (oT_pipes hC.1) ?_
  refine V_topi (y := nI (T 0 10)) (by (repeat (first | rw [vup_ne (by omega)] | rw [vcp_ne (by omega)])); exact hS.n10) ?_
  refine V_putI dX5_become_148 fp_X5_65 (oT_pipes ht) ?_
  refine V_aloadn_0 dX5_become_151 ?_
  refine V_aloadn_1 dX5_become_152 ?_
  refine V_getI dX5_become_153 fl_X5_68 (oT_spilt hC.1) ?_
  refine V_topi (y := nI (T 0 11)) (by (repeat (first | rw [vup_ne (by omega)] | rw [vcp_ne (by omega)])); exact hS.n11) ?_
  refine V_putI dX5_become_156 fp_X5_68 (oT_spilt ht) ?_
  refine V_aloadn_0 dX5_become_159 ?_
  refine V_aloadn_1 dX5_become_160 ?_
  refine V_getI dX5_become_161 fl_X5_71 (oT_thirst hC.1) ?_
  refine V_topi (y := nI (T 0 12)) (by (repeat (first | rw [vup_ne (by omega)] | rw [vcp_ne (by omega)])); exact hS.n12) ?_
  refine V_putI dX5_become_164 fp_X5_71 (oT_thirst ht) ?_
  refine V_aloadn_0 dX5_become_167 ?_
  refine V_aloadn_1 dX5_become_168 ?_
  refine V_getI dX5_become_169 fl_X5_74 (oT_hour hC.1) ?_
  refine V_topi (y := nI (T 0 13)) (by (repeat (first | rw [vup_ne (by omega)] | rw [vcp_ne (by omega)])); exact hS.n13) ?_
  refine V_putI dX5_become_172 fp_X5_74 (oT_hour ht) ?_
  refine V_aloadn_0 dX5_become_175 ?_
  refine V_aloadn_1 dX5_become_176 ?_
  refine V_getI dX5_become_177 fl_X5_39 (oT_z hC.1) ?_
  refine V_topi (y := nI (T 0 14)) (by (repeat (first | rw [vup_ne (by omega)] | rw [vcp_ne (by omega)])); exact hS.n14) ?_
  refine V_putI dX5_become_180 fp_X5_39 (oT_z ht) ?_
  refine V_aloadn_0 dX5_become_183 ?_
  refine V_aloadn_1 dX5_become_184 ?_
  refine V_getI dX5_become_185 fl_X5_77 (oT_texts hC.1) ?_
  refine V_topi (y := nI (T 0 15)) (by (repeat (first | rw [vup_ne (by omega)] | rw [vcp_ne (by omega)])); exact hS.n15) ?_
  refine V_putI dX5_become_188 fp_X5_77 (oT_texts ht) ?_
  refine V_aloadn_1 dX5_become_191 ?_
  refine V_getR dX5_become_192 fl_X5_43 (oT_lawOf hC.1) ?_
  refine V_iconst 0 dX5_become_195 (by decide) ?_
  refine V_aloadn_0 dX5_become_196 ?_
  refine V_getR dX5_become_197 fl_X5_43 (oT_lawOf ht) ?_
  refine V_iconst 0 dX5_become_200 (by decide) ?_
  refine V_iconst 3 dX5_become_201 (by decide) ?_
  refine V_copy (sp := 0) (dp := 0) (n := 3) dX5_become_202 ml_X5_56 (aT_lawOf hC.1) (aT_lawOf ht) (by decide) (by decide) (by decide) (by decide) (Nat.le_of_ble_eq_true rfl) ?_
  refine V_abs (fun σ1 => TA L t T σ1 ∧ Fr t σ σ1) ⟨⟨⟨⟨?_, ?_, ?_, ?_, ?_, ?_, ?_⟩, fun c hc => ⟨?_, ?_, ?_⟩, fun i hi => ?_, fun p hp => ⟨?_, ?_, ?_, ?_⟩, fun k hk => ?_⟩, fun c hc => ?_⟩, fun q h1 h2 => ?_⟩ (fun σ1 h1 => ?_)
  · (repeat (first | rw [vcp0 (by omega)] | rw [vup_same] | rw [vup_ne (by omega)] | rw [vcp_ne (by omega)]))
  · (repeat (first | rw [vcp0 (by omega)] | rw [vup_same] | rw [vup_ne (by omega)] | rw [vcp_ne (by omega)]))
  · (repeat (first | rw [vcp0 (by omega)] | rw [vup_same] | rw [vup_ne (by omega)] | rw [vcp_ne (by omega)]))
  · (repeat (first | rw [vcp0 (by omega)] | rw [vup_same] | rw [vup_ne (by omega)] | rw [vcp_ne (by omega)]))
  · (repeat (first | rw [vcp0 (by omega)] | rw [vup_same] | rw [vup_ne (by omega)] | rw [vcp_ne (by omega)]))
  · (repeat (first | rw [vcp0 (by omega)] | rw [vup_same] | rw [vup_ne (by omega)] | rw [vcp_ne (by omega)]))
  · (repeat (first | rw [vcp0 (by omega)] | rw [vup_same] | rw [vup_ne (by omega)] | rw [vcp_ne (by omega)]))
  · (repeat (first | rw [vcp0 (by omega)] | rw [vup_same] | rw [vup_ne (by omega)] | rw [vcp_ne (by omega)])); exact hS.k1 hc
  · (repeat (first | rw [vcp0 (by omega)] | rw [vup_same] | rw [vup_ne (by omega)] | rw [vcp_ne (by omega)])); exact hS.k2 hc
  · (repeat (first | rw [vcp0 (by omega)] | rw [vup_same] | rw [vup_ne (by omega)] | rw [vcp_ne (by omega)])); exact hS.k3 hc
  · (repeat (first | rw [vcp0 (by omega)] | rw [vup_same] | rw [vup_ne (by omega)] | rw [vcp_ne (by omega)])); exact hS.k4 hi
  · (repeat (first | rw [vcp0 (by omega)] | rw [vup_same] | rw [vup_ne (by omega)] | rw [vcp_ne (by omega)])); exact hS.k6 hp
  · (repeat (first | rw [vcp0 (by omega)] | rw [vup_same] | rw [vup_ne (by omega)] | rw [vcp_ne (by omega)])); exact hS.k7 hp
  · (repeat (first | rw [vcp0 (by omega)] | rw [vup_same] | rw [vup_ne (by omega)] | rw [vcp_ne (by omega)])); exact hS.k8 hp
  · (repeat (first | rw [vcp0 (by omega)] | rw [vup_same] | rw [vup_ne (by omega)] | rw [vcp_ne (by omega)])); exact hS.k9 hp
  · (repeat (first | rw [vcp0 (by omega)] | rw [vup_same] | rw [vup_ne (by omega)] | rw [vcp_ne (by omega)])); exact hS.k10 hk
  · (repeat (first | rw [vcp0 (by omega)] | rw [vup_same] | rw [vup_ne (by omega)] | rw [vcp_ne (by omega)])); exact hH.k5 hc
  · repeat (first | rw [vup_p (by omega)] | rw [vcp_p (by omega)])
  exact V_vret dX5_become_205 ⟨rfl, ⟨ht, h1.1, hI, hL.congr hN2 (fun q _ _ => h1.2 q (by omega) (by omega)), hLI, hN, hN2⟩, h1.2⟩
