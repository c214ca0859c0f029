/-! ===== a town's context; what a town's method leaves ===== -/
def Fr (t : Nat) (σ σ' : vS) : Prop := ∀ q, ¬ (t ≤ q ∧ q ≤ t + 11) → q ≠ 60 → σ' q = σ q
theorem Fr.rf {t : Nat} {σ : vS} : Fr t σ σ := fun _ _ _ => rfl
theorem Fr.tr {t : Nat} {σ σ1 σ2 : vS} (h1 : Fr t σ σ1) (h2 : Fr t σ1 σ2) : Fr t σ σ2 := fun q a b => (h2 q a b).trans (h1 q a b)
def TC0 (L : nT) (N t : Nat) (T : nT) (σ : vS) : Prop := Twn t ∧ TA0 t T σ ∧ TI T ∧ LA L N σ ∧ LI L N ∧ T 0 15 ≤ N ∧ N ≤ 14
def TC (L : nT) (N t : Nat) (T : nT) (σ : vS) : Prop := Twn t ∧ TA L t T σ ∧ TI T ∧ LA L N σ ∧ LI L N ∧ T 0 15 ≤ N ∧ N ≤ 14
theorem TC.c0 {L : nT} {N t : Nat} {T : nT} {σ : vS} (h : TC L N t T σ) : TC0 L N t T σ := ⟨h.1, h.2.1.1, h.2.2⟩
theorem Twn.ge {t : Nat} (h : Twn t) : 61 ≤ t ∧ t ≤ 85 := by
  rcases h with rfl | rfl | rfl <;> omega
theorem LA.congr {L : nT} {N : Nat} {σ σ' : vS} (h : LA L N σ) (hN : N ≤ 14) (hq : ∀ q, 9 ≤ q → q < 37 → σ' q = σ q) : LA L N σ' := by
  intro j hj
  have e1 := hq (9 + 2 * j) (by omega) (by omega)
  have e2 := hq (9 + 2 * j + 1) (by omega) (by omega)
  rw [e1, e2]
  exact h j hj
theorem TA0.congr {t : Nat} {T : nT} {σ σ' : vS} (h : TA0 t T σ) (hq : ∀ q, t ≤ q → q ≤ t + 10 → q ≠ t + 5 → σ' q = σ q) : TA0 t T σ' := by
  unfold TA0 at h ⊢
  rw [hq t (by omega) (by omega) (by omega), hq (t + 1) (by omega) (by omega) (by omega), hq (t + 2) (by omega) (by omega) (by omega), hq (t + 3) (by omega) (by omega) (by omega), hq (t + 4) (by omega) (by omega) (by omega), hq (t + 6) (by omega) (by omega) (by omega), hq (t + 7) (by omega) (by omega) (by omega), hq (t + 8) (by omega) (by omega) (by omega), hq (t + 9) (by omega) (by omega) (by omega), hq (t + 10) (by omega) (by omega) (by omega)]
  exact h
theorem TA.congr {L : nT} {t : Nat} {T : nT} {σ σ' : vS} (h : TA L t T σ) (hq : ∀ q, t ≤ q → q ≤ t + 10 → σ' q = σ q) : TA L t T σ' := by
  refine ⟨h.1.congr (fun q a b _ => hq q a b), fun c hc => ?_⟩
  rw [hq (t + 5) (by omega) (by omega)]
  exact h.2 c hc
theorem TC.other {L : nT} {N t t' : Nat} {T : nT} {σ σ' : vS} (h : TC L N t T σ) (hf : Fr t' σ σ') (ht' : Twn t') (hne : t ≠ t') : TC L N t T σ' := by
  obtain ⟨h1, h2, h3, h4, h5, h6, h7⟩ := h
  have g := ht'.ge
  refine ⟨h1, h2.congr (fun q a b => hf q ?_ ?_), h3, h4.congr h7 (fun q a b => hf q (by omega) (by omega)), h5, h6, h7⟩
  · rcases h1 with rfl | rfl | rfl <;> rcases ht' with rfl | rfl | rfl <;> omega
  · have := h1.ge
    omega
theorem TC.next {L : nT} {N t : Nat} {T T' : nT} {σ σ' : vS} (h : TC L N t T σ) (hf : Fr t σ σ') (hA : TA L t T' σ') (hI : TI T') (h15 : T' 0 15 = T 0 15) : TC L N t T' σ' := by
  obtain ⟨h1, h2, h3, h4, h5, h6, h7⟩ := h
  have g := h1.ge
  exact ⟨h1, hA, hI, h4.congr h7 (fun q a b => hf q (by omega) (by omega)), h5, by rw [h15]; exact h6, h7⟩
/-- a cellar's height is worked out anew -/
def refP (t c v : Nat) (σ σ' : vS) : Prop := σ' (t + 5) c = nI v ∧ ∀ q j, q ≠ 60 → ¬ (q = t + 5 ∧ j = c) → σ' q j = σ q j
theorem refP.p {t c v q : Nat} {σ σ' : vS} (h : refP t c v σ σ') (h1 : q ≠ 60) (h2 : q ≠ t + 5) : σ' q = σ q := by
  funext j
  exact h.2 q j h1 (fun e => h2 e.1)
theorem refP.T0 {t c v : Nat} {T : nT} {σ σ' : vS} (h : refP t c v σ σ') (ht : Twn t) (hT : TA0 t T σ) : TA0 t T σ' := hT.congr (fun q a b e => h.p (by have := ht.ge; omega) e)
theorem refP.fr {t c v : Nat} {σ σ' : vS} (h : refP t c v σ σ') : Fr t σ σ' := fun q a b => h.p b (by omega)
theorem lw_lt {l : Nat} (hl : l ≤ 14) (h : ¬ (0 : Int32) ≤ lwI l) : l = 0 := by
  rcases Nat.eq_zero_or_pos l with e | e
  · exact e
  · exfalso
    apply h
    unfold lwI
    rw [if_neg (by omega)]
    exact nI_pos' (by omega)
theorem lw_ge {l : Nat} (h : (0 : Int32) ≤ lwI l) : l ≠ 0 := by
  intro e
  subst e
  exact absurd h (by decide)
theorem lw_val {l : Nat} (h : l ≠ 0) : lwI l = nI (l - 1) := by
  unfold lwI
  rw [if_neg h]
theorem plain_no {L T : nT} {c : Nat} (h : T 10 0 = 0) : plainT L T c = max 0 (min 999 (fullT T c / 10)) := by
  unfold plainT
  rw [if_pos h]
  omega
theorem clamp_eq (g : Int32) : (if (0 : Int32) < (if g < 999 then g else 999) then (if g < 999 then g else 999) else 0) = nI (clampN g) := by
  unfold clampN
  by_cases h0 : g < 0
  · have h1 : g < 999 := Int32.lt_trans h0 (by decide)
    rw [if_pos h1, if_pos h0, if_neg (fun q => Int32.lt_irrefl (Int32.lt_trans q h0))]
    rfl
  · obtain ⟨j, hj, rfl⟩ := nI_of h0
    rw [if_neg h0]
    by_cases h9 : (999 : Int32) < nI j
    · have h9' := (nI_ltI (a := 999) (b := j) (by decide) hj).mp h9
      have hn : ¬ nI j < 999 := fun q => by have := (nI_ltI (a := j) (b := 999) hj (by decide)).mp q; omega
      rw [if_neg hn, if_pos (by decide), if_pos h9]
      rfl
    · rw [if_neg h9, nI_clamp hj]
      by_cases h8 : nI j < 999
      · rw [if_pos h8]
        by_cases hz : (0 : Int32) < nI j
        · rw [if_pos hz]
        · rw [if_neg hz]
          have := mt (nI_0lt hj).mpr hz
          rw [show j = 0 by omega]
          rfl
      · rw [if_neg h8, if_pos (by decide)]
        have h8' := mt (nI_ltI (a := j) (b := 999) hj (by decide)).mpr h8
        have h9' := mt (nI_ltI (a := 999) (b := j) (by decide) hj).mpr h9
        rw [show j = 999 by omega]
        rfl
theorem plain_law {L T : nT} {c : Nat} (h : T 10 0 ≠ 0) : plainT L T c = clampN ((runE (nI (fullT T c)) (nI (T 3 c)) (nI (T 4 (c * 3))) (fun i => L (T 10 0 - 1) (3 + i)) (L (T 10 0 - 1) 2)).headD 0) := by
  unfold plainT lawI
  rw [if_neg h]
section VAb
variable {G : vG} {own : String} {cc : ByteArray} {ret : Option FieldType} {nL d pc : Nat} {Q : Option Value → vS → Prop} {lo : List (Option Value)} {st : List Value} {σ : vS}
theorem V_abs (P : vS → Prop) (h : P σ) (k : ∀ σ1, P σ1 → V G own cc ret nL d Q pc lo st σ1) : V G own cc ret nL d Q pc lo st σ := k σ h
end VAb

set_option maxRecDepth 100000 in
set_option maxHeartbeats 4000000 in
theorem k_T_refresh {G : vG} {σ : vS} {d : Nat} (hd : 2 ≤ d) {L T : nT} {N t : Nat} (hC : TC0 L N t T σ) {c : Nat} (hc : c < T 0 5) : Cr G yX5_refresh cX5_refresh 5 none d [.ref t, .int (nI c)] σ none (fun σ' => refP t c (highT L T c) σ σ') := by
  refine Ct.ofV (by decide) (Nat.le_of_ble_eq_true rfl) rfl ?_
  show V G RX5 cX5_refresh none 5 d _ 0 [some (.ref t), some (.int (nI c)), none, none, none] [] _
  obtain ⟨d, rfl⟩ : ∃ e, d = e + 1 := ⟨d - 1, by omega⟩
  obtain ⟨ht, hT, hI, hL, hLI, hN, hN2⟩ := id hC
  have hn := hI.nc
  have hm := hI.np
  have hx := hI.tx
  have hlw := hI.lw (k := 0) (by decide)
  have hf := hI.full hc
  have hk := (hI.ce hc).1
  have hpl := plainT_le L T c
  refine V_aloadn_0 dX5_refresh_0 ?_
  refine V_iloadn_1 dX5_refresh_1 ?_
  refine V_cv1f dX5_refresh_2 cv_X5_89 (rcT ht) (Nat.le_of_ble_eq_true rfl) (k_T_fullOf ht hT hI (by omega)) ?_
  refine V_istoren_2 dX5_refresh_5 (by first | exact rfl | exact True.intro) (by decide) ?_
  refine V_aloadn_0 dX5_refresh_6 ?_
  refine V_getR dX5_refresh_7 fl_X5_43 (oT_lawOf ht) ?_
  refine V_iconst 0 dX5_refresh_10 (by decide) ?_
  refine V_iald (j := 0) dX5_refresh_11 (aT_lawOf ht) (by decide) (by decide) ?_
  refine V_topi (hT.k10 (by decide)) ?_
  refine V_istoren_3 dX5_refresh_12 (by first | exact rfl | exact True.intro) (by decide) ?_
  refine V_iloadn_3 dX5_refresh_13 ?_
  refine V_if_ge dX5_refresh_14 24 (by decide) (fun h14 => ?_) (fun h14 => ?_)
  · have hl := lw_ge h14
    refine V_aloadn_0 dX5_refresh_24 ?_
    refine V_getR dX5_refresh_25 fl_X5_49 (oT_laws ht) ?_
    refine V_iloadn_3 dX5_refresh_28 ?_
    refine V_topi (y := nI (T 10 0 - 1)) (lw_val hl) ?_
    refine V_aald (j := T 10 0 - 1) dX5_refresh_29 (eLaw (by omega)) (by decide) ?_
    refine V_iloadn_2 dX5_refresh_30 ?_
    refine V_aloadn_0 dX5_refresh_31 ?_
    refine V_getR dX5_refresh_32 fl_X5_18 (oT_lip ht) ?_
    refine V_iloadn_1 dX5_refresh_35 ?_
    refine V_iald (j := c) dX5_refresh_36 (aT_lip ht) (by omega) (by decide) ?_
    refine V_topi (hT.k3 (by omega)) ?_
    refine V_aloadn_0 dX5_refresh_37 ?_
    refine V_getR dX5_refresh_38 fl_X5_21 (oT_wine ht) ?_
    refine V_iloadn_1 dX5_refresh_41 ?_
    refine V_iconst 3 dX5_refresh_42 (by decide) ?_
    refine V_imulN (a := c) (b := 3) dX5_refresh_43 ?_
    refine V_iald (j := c * 3) dX5_refresh_44 (aT_wine ht) (by omega) (by decide) ?_
    refine V_topi (hT.k4 (by omega)) ?_
    refine V_aloadn_0 dX5_refresh_45 ?_
    refine V_getR dX5_refresh_46 fl_X5_53 (oT_stack ht) ?_
    refine V_cv4r dX5_refresh_49 cv_X5_93 (rcW (Or.inr ⟨_, (by omega), rfl⟩)) (Nat.le_of_ble_eq_true rfl) (k_give (n := L (T 10 0 - 1) 2) (row := fun i => L (T 10 0 - 1) (3 + i)) (by omega) (Or.inr ⟨_, (by omega), rfl⟩) (hL _ (by omega)).2.2.1 (hL _ (by omega)).2.2.2 (hLI _ (by omega)).2.2) (fun σ hq => ?_)
    have hT := hT.congr (σ' := σ) (fun q a b _ => hq q (by have := ht.ge; omega))
    refine V_istore_4 dX5_refresh_52 (by first | exact rfl | exact True.intro) (by decide) ?_
    refine V_aloadn_0 dX5_refresh_54 ?_
    refine V_getR dX5_refresh_55 fl_X5_24 (oT_high ht) ?_
    refine V_iloadn_1 dX5_refresh_58 ?_
    refine V_aloadn_0 dX5_refresh_59 ?_
    refine V_getR dX5_refresh_60 fl_X5_9 (oT_kind ht) ?_
    refine V_iloadn_1 dX5_refresh_63 ?_
    refine V_iald (j := c) dX5_refresh_64 (aT_kind ht) (by omega) (by decide) ?_
    refine V_topi (hT.k1 (by omega)) ?_
    refine V_iconst 0 dX5_refresh_65 (by decide) ?_
    refine V_sipush 999 dX5_refresh_66 (by decide) ?_
    refine V_iload_4 dX5_refresh_69 ?_
    refine V_mmin dX5_refresh_71 ml_X5_97 (Nat.le_of_ble_eq_true rfl) ?_
    refine V_mmax dX5_refresh_74 ml_X5_103 (Nat.le_of_ble_eq_true rfl) ?_
    refine V_topi (y := nI (plainT L T c)) (by rw [plain_law hl]; exact clamp_eq _) ?_
    refine V_iloadn_2 dX5_refresh_77 ?_
    refine V_cs3f dX5_refresh_78 cs_X5_106 (Nat.le_of_ble_eq_true rfl) (k_high (by omega) (by omega) (by omega) (by omega)) ?_
    refine V_iast (j := c) dX5_refresh_81 (aT_high ht) (by omega) (by decide) ?_
    exact V_vret dX5_refresh_82 ⟨rfl, vup_same, fun q j g1 g2 => by first | exact vup_ne g2 | rw [vup_ne g2, hq q g1]⟩
  · have hl := lw_lt (by omega) h14
    refine V_iloadn_2 dX5_refresh_17 ?_
    refine V_bipush 10 dX5_refresh_18 (by decide) ?_
    refine V_idivN (a := fullT T c) (b := 10) dX5_refresh_20 (by omega) (by omega) (by omega) ?_
    refine V_goto dX5_refresh_21 52 (by decide) ?_
    refine V_istore_4 dX5_refresh_52 (by first | exact rfl | exact True.intro) (by decide) ?_
    refine V_aloadn_0 dX5_refresh_54 ?_
    refine V_getR dX5_refresh_55 fl_X5_24 (oT_high ht) ?_
    refine V_iloadn_1 dX5_refresh_58 ?_
    refine V_aloadn_0 dX5_refresh_59 ?_
    refine V_getR dX5_refresh_60 fl_X5_9 (oT_kind ht) ?_
    refine V_iloadn_1 dX5_refresh_63 ?_
    refine V_iald (j := c) dX5_refresh_64 (aT_kind ht) (by omega) (by decide) ?_
    refine V_topi (hT.k1 (by omega)) ?_
    refine V_iconst 0 dX5_refresh_65 (by decide) ?_
    refine V_sipush 999 dX5_refresh_66 (by decide) ?_
    refine V_iload_4 dX5_refresh_69 ?_
    refine V_mminN (a := 999) (b := (fullT T c) / 10) dX5_refresh_71 ml_X5_97 (Nat.le_of_ble_eq_true rfl) (by omega) (by omega) ?_
    refine V_mmaxN (a := 0) (b := min 999 ((fullT T c) / 10)) dX5_refresh_74 ml_X5_103 (Nat.le_of_ble_eq_true rfl) (by omega) (by omega) ?_
    refine V_topi (y := nI (plainT L T c)) (by rw [plain_no hl]) ?_
    refine V_iloadn_2 dX5_refresh_77 ?_
    refine V_cs3f dX5_refresh_78 cs_X5_106 (Nat.le_of_ble_eq_true rfl) (k_high (by omega) (by omega) (by omega) (by omega)) ?_
    refine V_iast (j := c) dX5_refresh_81 (aT_high ht) (by omega) (by decide) ?_
    exact V_vret dX5_refresh_82 ⟨rfl, vup_same, fun q j g1 g2 => by first | exact vup_ne g2 | rw [vup_ne g2, hq q g1]⟩

theorem nI_mod (n : Nat) : nI n = nI (n % 2 ^ 32) := by
  unfold nI
  apply Int32.toBitVec_inj.mp
  apply BitVec.eq_of_toNat_eq
  simp [Int32.toBitVec_ofNat]
theorem share_long {w n f : Nat} (hw : w < 2 ^ 31) (hn : n < 2 ^ 31) (h0 : 0 < f) (hf : f < 2 ^ 31) : ((nI w).toInt64 * (nI n).toInt64 / (nI f).toInt64).toInt32 = nI (w * n / f) := by
  have h1 : w * n < 2 ^ 63 := Nat.lt_of_lt_of_le (Nat.mul_lt_mul'' hw hn) (by decide)
  rw [nI_l hw, nI_l hn, nI_l hf, lN_mul, pk_lDiv h1 h0 (Nat.lt_trans hf (by decide)), lN_i]
theorem long_ne0 {f : Nat} (h0 : 0 < f) (hf : f < 2 ^ 31) : ¬ (nI f).toInt64 = 0 := by
  rw [nI_l hf]
  intro h
  have := (lN_eq hf (by decide : 0 < 2 ^ 31)).mp h
  omega
theorem wine_TA0 {t : Nat} {T T' : nT} {σ σ' : vS} (h : TA0 t T σ) (hfr : ∀ q, q ≠ t + 4 → q ≠ t + 11 → σ' q = σ q) (hw : ∀ i, i < T 0 5 * 3 → σ' (t + 4) i = nI (T' 4 i)) (hk : ∀ k i, k ≠ 4 → T' k i = T k i) : TA0 t T' σ' := by
  unfold TA0 at h ⊢
  rw [hfr t (by omega) (by omega), hfr (t + 1) (by omega) (by omega), hfr (t + 2) (by omega) (by omega), hfr (t + 3) (by omega) (by omega), hfr (t + 6) (by omega) (by omega), hfr (t + 7) (by omega) (by omega), hfr (t + 8) (by omega) (by omega), hfr (t + 9) (by omega) (by omega), hfr (t + 10) (by omega) (by omega)]
  obtain ⟨a1, a2, a3, a4, a5⟩ := h
  have e0 : ∀ i, T' 0 i = T 0 i := fun i => hk 0 i (by decide)
  refine ⟨by rw [e0, e0, e0, e0, e0, e0, e0]; exact a1, ?_, ?_, ?_, ?_⟩
  · rw [e0]; intro c hc; rw [hk 1 c (by decide), hk 2 c (by decide), hk 3 c (by decide)]; exact a2 c hc
  · rw [e0]; exact hw
  · rw [e0]; intro p hp; rw [hk 6 p (by decide), hk 7 p (by decide), hk 8 p (by decide), hk 9 p (by decide)]; exact a4 p hp
  · intro k hk3; rw [hk 10 k (by decide)]; exact a5 k hk3
theorem wine_TH {L : nT} {t a : Nat} {T T' : nT} {σ σ' : vS} (h : TH L t T σ) (hk : ∀ k i, k ≠ 4 → T' k i = T k i) (S : Nat → Prop) (ho : ∀ c s, c < T 0 5 → ¬ S c → s < 3 → T' 4 (c * 3 + s) = T 4 (c * 3 + s)) (hs : ∀ c, ¬ S c → σ' (t + 5) c = σ (t + 5) c) (hd : ∀ c, c < T 0 5 → S c → σ' (t + 5) c = nI (highT L T' c)) : TH L t T' σ' := by
  intro c hc
  rw [hk 0 5 (by decide)] at hc
  rcases Classical.em (S c) with g | g
  · exact hd c hc g
  · rw [hs c g, h c hc, high_eq (hk 1 c (by decide)) (hk 3 c (by decide)) (hk 10 0 (by decide)) (fun s hs => ho c s hc g hs)]

set_option maxRecDepth 100000 in
set_option maxHeartbeats 4000000 in
theorem k_T_draw {G : vG} {σ : vS} {d : Nat} {t z : Nat} (ht : Twn t) (hz : σ t 14 = nI z) : Cf G yX5_draw cX5_draw 1 (some .int) d [.ref t] σ (some (.int (nI (zN z / 2 ^ 8)))) (vup σ t 14 (nI (zN z))) := by
  refine Ct.ofV (by decide) (Nat.le_of_ble_eq_true rfl) rfl ?_
  show V G RX5 cX5_draw (some .int) 1 d _ 0 [some (.ref t)] [] _
  refine V_aloadn_0 dX5_draw_0 ?_
  refine V_aloadn_0 dX5_draw_1 ?_
  refine V_getI dX5_draw_2 fl_X5_39 (oT_z ht) ?_
  refine V_topi (y := nI z) hz ?_
  refine V_ldc 1103515245 dX5_draw_5 cn_X5_143 ?_
  refine V_imulN (a := z) (b := 1103515245) dX5_draw_7 ?_
  refine V_sipush 12345 dX5_draw_8 (by decide) ?_
  refine V_iaddN (a := z * 1103515245) (b := 12345) dX5_draw_11 ?_
  refine V_topi (y := nI (zN z)) (nI_mod _) ?_
  refine V_putI dX5_draw_12 fp_X5_39 (oT_z ht) ?_
  refine V_aloadn_0 dX5_draw_15 ?_
  refine V_getI dX5_draw_16 fl_X5_39 (oT_z ht) ?_
  refine V_topi (y := nI (zN z)) vup_same ?_
  refine V_bipush 8 dX5_draw_19 (by decide) ?_
  refine V_iushr dX5_draw_21 ?_
  refine V_topi (y := nI (zN z / 2 ^ 8)) (pk_ushrN (zN_lt z) 8 8 (by decide)) ?_
  exact V_iret dX5_draw_22 ⟨rfl, rfl⟩

theorem spill_TA0 {t a n : Nat} {T : nT} {σ : vS} (h : TA0 t (drainT T a n) σ) : TA0 t (spillT T a n) (vup σ t 11 (nI (T 0 11 + n))) := by
  have e : ∀ k i, ¬ (k = 0 ∧ i = 11) → spillT T a n k i = drainT T a n k i := fun k i g => by unfold spillT; rw [Tup_ne g]
  unfold TA0 at h ⊢
  rw [vup_p (show t + 1 ≠ t by omega), vup_p (show t + 2 ≠ t by omega), vup_p (show t + 3 ≠ t by omega), vup_p (show t + 4 ≠ t by omega), vup_p (show t + 6 ≠ t by omega), vup_p (show t + 7 ≠ t by omega), vup_p (show t + 8 ≠ t by omega), vup_p (show t + 9 ≠ t by omega), vup_p (show t + 10 ≠ t by omega)]
  obtain ⟨⟨b1, b2, b3, b4, b5, b6, b7⟩, a2, a3, a4, a5⟩ := h
  rw [e 0 5 (by omega), e 0 10 (by omega)]
  refine ⟨⟨?_, ?_, ?_, ?_, ?_, ?_, ?_⟩, fun c hc => ?_, fun i hi => ?_, fun p hp => ?_, fun k hk => ?_⟩
  · rw [vup_ne (by omega)]; exact b1
  · rw [vup_ne (by omega)]; exact b2
  · rw [vup_same]; unfold spillT; rw [Tup_same]
  · rw [vup_ne (by omega), e 0 12 (by omega)]; exact b4
  · rw [vup_ne (by omega), e 0 13 (by omega)]; exact b5
  · rw [vup_ne (by omega), e 0 14 (by omega)]; exact b6
  · rw [vup_ne (by omega), e 0 15 (by omega)]; exact b7
  · rw [e 1 c (by omega), e 2 c (by omega), e 3 c (by omega)]; exact a2 c hc
  · rw [e 4 i (by omega)]; exact a3 i hi
  · rw [e 6 p (by omega), e 7 p (by omega), e 8 p (by omega), e 9 p (by omega)]; exact a4 p hp
  · rw [e 10 k (by omega)]; exact a5 k hk

set_option maxRecDepth 100000 in
set_option maxHeartbeats 4000000 in
theorem k_T_lead_b {G : vG} {σ : vS} {d : Nat} (hd : 3 ≤ d) {L T : nT} {N t : Nat} (hC : TC L N t T σ) {a b n0 : Nat} (ha : a < T 0 5) (hb : b < T 0 5) (hab : a ≠ b) (hn0 : n0 < 2 ^ 31) : Cr G yX5_lead cX5_lead 9 none d [.ref t, .int (nI a), .int (nI n0), .int (nI b)] σ none (fun σ' => TC L N t (leadT T a (min n0 (fullT T a)) b) σ' ∧ Fr t σ σ') := by
  refine Ct.ofV (by decide) (Nat.le_of_ble_eq_true rfl) rfl ?_
  show V G RX5 cX5_lead none 9 d _ 0 [some (.ref t), some (.int (nI a)), some (.int (nI n0)), some (.int (nI b)), none, none, none, none, none] [] _
  obtain ⟨d, rfl⟩ : ∃ e, d = e + 1 := ⟨d - 1, by omega⟩
  obtain ⟨ht, hH, hI, hL, hLI, hN, hN2⟩ := id hC
  have hT := hH.1
  have hn := hI.nc
  have hm := hI.np
  have hfa := hI.full ha
  obtain ⟨n, hn⟩ : ∃ n, n = min n0 (fullT T a) := ⟨_, rfl⟩
  have hnf : n ≤ fullT T a := by omega
  rw [← hn]
  have s0 := sh_le (s := 0) hnf
  have s1 := sh_le (s := 1) hnf
  have s2 := sh_le (s := 2) hnf
  have ss := sh_sum (T := T) (a := a) (n := n)
  have w0 := w_le_full (T := T) (a := a) (s := 0) (by decide)
  have w1 := w_le_full (T := T) (a := a) (s := 1) (by decide)
  have w2 := w_le_full (T := T) (a := a) (s := 2) (by decide)
  have lk0 : lkT T a n 0 ≤ n := by simp only [lkT]; omega
  have lk1 : lkT T a n 1 ≤ n := by simp only [lkT]; omega
  have lk2 : lkT T a n 2 ≤ n := by simp only [lkT]; omega
  have hfb := hI.full hb
  refine V_aloadn_0 dX5_lead_0 ?_
  refine V_iloadn_1 dX5_lead_1 ?_
  refine V_cv1f dX5_lead_2 cv_X5_89 (rcT ht) (Nat.le_of_ble_eq_true rfl) (k_T_fullOf ht hT hI (by omega)) ?_
  refine V_istore_4 dX5_lead_5 (by first | exact rfl | exact True.intro) (by decide) ?_
  refine V_iloadn_2 dX5_lead_7 ?_
  refine V_iload_4 dX5_lead_8 ?_
  refine V_mminN (a := n0) (b := fullT T a) dX5_lead_10 ml_X5_97 (Nat.le_of_ble_eq_true rfl) (by omega) (by omega) ?_
  refine V_topi (y := nI n) (by rw [hn]) ?_
  refine V_istore_5 dX5_lead_13 (by first | exact rfl | exact True.intro) (by decide) ?_
  refine V_iload_5 dX5_lead_15 ?_
  refine V_ifN_gt (a := n) dX5_lead_17 21 (by decide) (by omega) (fun h17 => ?_) (fun h17 => ?_)
  · refine V_iload_5 dX5_lead_21 ?_
    refine V_istore_6 dX5_lead_23 (by first | exact rfl | exact True.intro) (by decide) ?_
    refine V_iconst 0 dX5_lead_25 (by decide) ?_
    refine V_istore_7 dX5_lead_26 (by first | exact rfl | exact True.intro) (by decide) ?_
    refine V_iload_7 dX5_lead_28 ?_
    refine V_iconst 3 dX5_lead_30 (by decide) ?_
    refine V_icmp_ge_f dX5_lead_31 80 (by decide) (by decide) ?_
    refine V_aloadn_0 dX5_lead_34 ?_
    refine V_getR dX5_lead_35 fl_X5_46 (oT_share ht) ?_
    refine V_iload_7 dX5_lead_38 ?_
    refine V_aloadn_0 dX5_lead_40 ?_
    refine V_getR dX5_lead_41 fl_X5_21 (oT_wine ht) ?_
    refine V_iloadn_1 dX5_lead_44 ?_
    refine V_iconst 3 dX5_lead_45 (by decide) ?_
    refine V_imulN (a := a) (b := 3) dX5_lead_46 ?_
    refine V_iload_7 dX5_lead_47 ?_
    refine V_iaddN (a := a * 3) (b := 0) dX5_lead_49 ?_
    refine V_iald (j := (a * 3) + 0) dX5_lead_50 (aT_wine ht) (by omega) (by decide) ?_
    refine V_topi (y := nI (T 4 (a * 3 + 0))) (by (repeat rw [vup_ne (by omega)]); exact hT.k4 (by omega)) ?_
    refine V_i2l dX5_lead_51 ?_
    refine V_iload_5 dX5_lead_52 ?_
    refine V_i2l dX5_lead_54 ?_
    refine V_lmul dX5_lead_55 ?_
    refine V_iload_4 dX5_lead_56 ?_
    refine V_i2l dX5_lead_58 ?_
    refine V_ldiv dX5_lead_59 (long_ne0 (by omega) (by omega)) ?_
    refine V_l2i dX5_lead_60 ?_
    refine V_topi (y := nI (shT T a n 0)) (share_long (by omega) (by omega) (by omega) (by omega)) ?_
    refine V_iast (j := 0) dX5_lead_61 (aT_share ht) (by decide) (by decide) ?_
    refine V_iload_6 dX5_lead_62 ?_
    refine V_aloadn_0 dX5_lead_64 ?_
    refine V_getR dX5_lead_65 fl_X5_46 (oT_share ht) ?_
    refine V_iload_7 dX5_lead_68 ?_
    refine V_iald (j := 0) dX5_lead_70 (aT_share ht) (by decide) (by decide) ?_
    refine V_topi (y := nI (shT T a n 0)) (by repeat (first | rw [vup_same] | rw [vup_ne (by omega)])) ?_
    refine V_isubN (a := n) (b := shT T a n 0) dX5_lead_71 (by omega) ?_
    refine V_istore_6 dX5_lead_72 (by first | exact rfl | exact True.intro) (by decide) ?_
    refine V_iinc_7 dX5_lead_74 (by first | exact rfl | exact True.intro) (by decide) 1 (by decide) ?_
    refine V_goto dX5_lead_77 28 (by decide) ?_
    refine V_iload_7 dX5_lead_28 ?_
    refine V_iconst 3 dX5_lead_30 (by decide) ?_
    refine V_icmp_ge_f dX5_lead_31 80 (by decide) (by decide) ?_
    refine V_aloadn_0 dX5_lead_34 ?_
    refine V_getR dX5_lead_35 fl_X5_46 (oT_share ht) ?_
    refine V_iload_7 dX5_lead_38 ?_
    refine V_aloadn_0 dX5_lead_40 ?_
    refine V_getR dX5_lead_41 fl_X5_21 (oT_wine ht) ?_
    refine V_iloadn_1 dX5_lead_44 ?_
    refine V_iconst 3 dX5_lead_45 (by decide) ?_
    refine V_imulN (a := a) (b := 3) dX5_lead_46 ?_
    refine V_iload_7 dX5_lead_47 ?_
    refine V_iaddN (a := a * 3) (b := 1) dX5_lead_49 ?_
    refine V_iald (j := (a * 3) + 1) dX5_lead_50 (aT_wine ht) (by omega) (by decide) ?_
    refine V_topi (y := nI (T 4 (a * 3 + 1))) (by (repeat rw [vup_ne (by omega)]); exact hT.k4 (by omega)) ?_
    refine V_i2l dX5_lead_51 ?_
    refine V_iload_5 dX5_lead_52 ?_
    refine V_i2l dX5_lead_54 ?_
    refine V_lmul dX5_lead_55 ?_
    refine V_iload_4 dX5_lead_56 ?_
    refine V_i2l dX5_lead_58 ?_
    refine V_ldiv dX5_lead_59 (long_ne0 (by omega) (by omega)) ?_
    refine V_l2i dX5_lead_60 ?_
    refine V_topi (y := nI (shT T a n 1)) (share_long (by omega) (by omega) (by omega) (by omega)) ?_
    refine V_iast (j := 1) dX5_lead_61 (aT_share ht) (by decide) (by decide) ?_
    refine V_iload_6 dX5_lead_62 ?_
    refine V_aloadn_0 dX5_lead_64 ?_
    refine V_getR dX5_lead_65 fl_X5_46 (oT_share ht) ?_
    refine V_iload_7 dX5_lead_68 ?_
    refine V_iald (j := 1) dX5_lead_70 (aT_share ht) (by decide) (by decide) ?_
    refine V_topi (y := nI (shT T a n 1)) (by repeat (first | rw [vup_same] | rw [vup_ne (by omega)])) ?_
    refine V_isubN (a := n - (shT T a n 0)) (b := shT T a n 1) dX5_lead_71 (by omega) ?_
    refine V_istore_6 dX5_lead_72 (by first | exact rfl | exact True.intro) (by decide) ?_
    refine V_iinc_7 dX5_lead_74 (by first | exact rfl | exact True.intro) (by decide) 2 (by decide) ?_
    refine V_goto dX5_lead_77 28 (by decide) ?_
    refine V_iload_7 dX5_lead_28 ?_
    refine V_iconst 3 dX5_lead_30 (by decide) ?_
    refine V_icmp_ge_f dX5_lead_31 80 (by decide) (by decide) ?_
    refine V_aloadn_0 dX5_lead_34 ?_
    refine V_getR dX5_lead_35 fl_X5_46 (oT_share ht) ?_
    refine V_iload_7 dX5_lead_38 ?_
    refine V_aloadn_0 dX5_lead_40 ?_
    refine V_getR dX5_lead_41 fl_X5_21 (oT_wine ht) ?_
    refine V_iloadn_1 dX5_lead_44 ?_
    refine V_iconst 3 dX5_lead_45 (by decide) ?_
    refine V_imulN (a := a) (b := 3) dX5_lead_46 ?_
    refine V_iload_7 dX5_lead_47 ?_
    refine V_iaddN (a := a * 3) (b := 2) dX5_lead_49 ?_
    refine V_iald (j := (a * 3) + 2) dX5_lead_50 (aT_wine ht) (by omega) (by decide) ?_
    refine V_topi (y := nI (T 4 (a * 3 + 2))) (by (repeat rw [vup_ne (by omega)]); exact hT.k4 (by omega)) ?_
    refine V_i2l dX5_lead_51 ?_
    refine V_iload_5 dX5_lead_52 ?_
    refine V_i2l dX5_lead_54 ?_
    refine V_lmul dX5_lead_55 ?_
    refine V_iload_4 dX5_lead_56 ?_
    refine V_i2l dX5_lead_58 ?_
    refine V_ldiv dX5_lead_59 (long_ne0 (by omega) (by omega)) ?_
    refine V_l2i dX5_lead_60 ?_
    refine V_topi (y := nI (shT T a n 2)) (share_long (by omega) (by omega) (by omega) (by omega)) ?_
    refine V_iast (j := 2) dX5_lead_61 (aT_share ht) (by decide) (by decide) ?_
    refine V_iload_6 dX5_lead_62 ?_
    refine V_aloadn_0 dX5_lead_64 ?_
    refine V_getR dX5_lead_65 fl_X5_46 (oT_share ht) ?_
    refine V_iload_7 dX5_lead_68 ?_
    refine V_iald (j := 2) dX5_lead_70 (aT_share ht) (by decide) (by decide) ?_
    refine V_topi (y := nI (shT T a n 2)) (by repeat (first | rw [vup_same] | rw [vup_ne (by omega)])) ?_
    refine V_isubN (a := (n - (shT T a n 0)) - (shT T a n 1)) (b := shT T a n 2) dX5_lead_71 (by omega) ?_
    refine V_istore_6 dX5_lead_72 (by first | exact rfl | exact True.intro) (by decide) ?_
    refine V_iinc_7 dX5_lead_74 (by first | exact rfl | exact True.intro) (by decide) 3 (by decide) ?_
    refine V_goto dX5_lead_77 28 (by decide) ?_
    refine V_iload_7 dX5_lead_28 ?_
    refine V_iconst 3 dX5_lead_30 (by decide) ?_
    refine V_icmp_ge_t dX5_lead_31 80 (by decide) (by decide) ?_
    refine V_lo (lo' := [some (.ref t), some (.int (nI a)), some (.int (nI n0)), some (.int (nI b)), some (.int (nI (fullT T a))), some (.int (nI n)), some (.int (nI (lkT T a n 0))), some (.int 3), none]) rfl ?_
    refine V_iconst 0 dX5_lead_80 (by decide) ?_
    refine V_istore_7 dX5_lead_81 (by first | exact rfl | exact True.intro) (by decide) ?_
    refine V_iload_7 dX5_lead_83 ?_
    refine V_iconst 3 dX5_lead_85 (by decide) ?_
    refine V_icmp_ge_f dX5_lead_86 180 (by decide) (by decide) ?_
    refine V_iload_6 dX5_lead_89 ?_
    refine V_aloadn_0 dX5_lead_91 ?_
    refine V_getR dX5_lead_92 fl_X5_21 (oT_wine ht) ?_
    refine V_iloadn_1 dX5_lead_95 ?_
    refine V_iconst 3 dX5_lead_96 (by decide) ?_
    refine V_imulN (a := a) (b := 3) dX5_lead_97 ?_
    refine V_iload_7 dX5_lead_98 ?_
    refine V_iaddN (a := a * 3) (b := 0) dX5_lead_100 ?_
    refine V_iald (j := (a * 3) + 0) dX5_lead_101 (aT_wine ht) (by omega) (by decide) ?_
    refine V_topi (y := nI (T 4 (a * 3 + 0))) (by (repeat rw [vup_ne (by omega)]); exact hT.k4 (by omega)) ?_
    refine V_aloadn_0 dX5_lead_102 ?_
    refine V_getR dX5_lead_103 fl_X5_46 (oT_share ht) ?_
    refine V_iload_7 dX5_lead_106 ?_
    refine V_iald (j := 0) dX5_lead_108 (aT_share ht) (by decide) (by decide) ?_
    refine V_topi (y := nI (shT T a n 0)) (by repeat (first | rw [vup_same] | rw [vup_ne (by omega)])) ?_
    refine V_isubN (a := T 4 (a * 3 + 0)) (b := shT T a n 0) dX5_lead_109 (by omega) ?_
    refine V_mminN (a := lkT T a n 0) (b := (T 4 (a * 3 + 0)) - (shT T a n 0)) dX5_lead_110 ml_X5_97 (Nat.le_of_ble_eq_true rfl) (by omega) (by omega) ?_
    refine V_istore_8 dX5_lead_113 (by first | exact rfl | exact True.intro) (by decide) ?_
    refine V_iload_6 dX5_lead_115 ?_
    refine V_iload_8 dX5_lead_117 ?_
    refine V_isubN (a := lkT T a n 0) (b := min (lkT T a n 0) ((T 4 (a * 3 + 0)) - (shT T a n 0))) dX5_lead_119 (by omega) ?_
    refine V_istore_6 dX5_lead_120 (by first | exact rfl | exact True.intro) (by decide) ?_
    refine V_lo (lo' := [some (.ref t), some (.int (nI a)), some (.int (nI n0)), some (.int (nI b)), some (.int (nI (fullT T a))), some (.int (nI n)), some (.int (nI (lkT T a n 1))), some (.int 0), some (.int (nI (min (lkT T a n 0) ((T 4 (a * 3 + 0)) - (shT T a n 0)))))]) rfl ?_
    refine V_aloadn_0 dX5_lead_122 ?_
    refine V_getR dX5_lead_123 fl_X5_21 (oT_wine ht) ?_
    refine V_iloadn_1 dX5_lead_126 ?_
    refine V_iconst 3 dX5_lead_127 (by decide) ?_
    refine V_imulN (a := a) (b := 3) dX5_lead_128 ?_
    refine V_iload_7 dX5_lead_129 ?_
    refine V_iaddN (a := a * 3) (b := 0) dX5_lead_131 ?_
    refine V_dup2 dX5_lead_132 rfl rfl ?_
    refine V_iald (j := (a * 3) + 0) dX5_lead_133 (aT_wine ht) (by omega) (by decide) ?_
    refine V_topi (y := nI (T 4 (a * 3 + 0))) (by (repeat rw [vup_ne (by omega)]); exact hT.k4 (by omega)) ?_
    refine V_aloadn_0 dX5_lead_134 ?_
    refine V_getR dX5_lead_135 fl_X5_46 (oT_share ht) ?_
    refine V_iload_7 dX5_lead_138 ?_
    refine V_iald (j := 0) dX5_lead_140 (aT_share ht) (by decide) (by decide) ?_
    refine V_topi (y := nI (shT T a n 0)) (by repeat (first | rw [vup_same] | rw [vup_ne (by omega)])) ?_
    refine V_iload_8 dX5_lead_141 ?_
    refine V_iaddN (a := shT T a n 0) (b := min (lkT T a n 0) ((T 4 (a * 3 + 0)) - (shT T a n 0))) dX5_lead_143 ?_
    refine V_topi (y := nI (goT T a n 0)) rfl ?_
    refine V_isubN (a := T 4 (a * 3 + 0)) (b := goT T a n 0) dX5_lead_144 (go_le hnf) ?_
    refine V_iast (j := (a * 3) + 0) dX5_lead_145 (aT_wine ht) (by omega) (by decide) ?_
    refine V_iloadn_3 dX5_lead_146 ?_
    refine V_ifN_lt (a := b) dX5_lead_147 174 (by decide) (by omega) ?_
    refine V_aloadn_0 dX5_lead_150 ?_
    refine V_getR dX5_lead_151 fl_X5_21 (oT_wine ht) ?_
    refine V_iloadn_3 dX5_lead_154 ?_
    refine V_iconst 3 dX5_lead_155 (by decide) ?_
    refine V_imulN (a := b) (b := 3) dX5_lead_156 ?_
    refine V_iload_7 dX5_lead_157 ?_
    refine V_iaddN (a := b * 3) (b := 0) dX5_lead_159 ?_
    refine V_dup2 dX5_lead_160 rfl rfl ?_
    refine V_iald (j := (b * 3) + 0) dX5_lead_161 (aT_wine ht) (by omega) (by decide) ?_
    refine V_topi (y := nI (T 4 (b * 3 + 0))) (by (repeat rw [vup_ne (by omega)]); exact hT.k4 (by omega)) ?_
    refine V_aloadn_0 dX5_lead_162 ?_
    refine V_getR dX5_lead_163 fl_X5_46 (oT_share ht) ?_
    refine V_iload_7 dX5_lead_166 ?_
    refine V_iald (j := 0) dX5_lead_168 (aT_share ht) (by decide) (by decide) ?_
    refine V_topi (y := nI (shT T a n 0)) (by repeat (first | rw [vup_same] | rw [vup_ne (by omega)])) ?_
    refine V_iload_8 dX5_lead_169 ?_
    refine V_iaddN (a := shT T a n 0) (b := min (lkT T a n 0) ((T 4 (a * 3 + 0)) - (shT T a n 0))) dX5_lead_171 ?_
    refine V_topi (y := nI (goT T a n 0)) rfl ?_
    refine V_iaddN (a := T 4 (b * 3 + 0)) (b := goT T a n 0) dX5_lead_172 ?_
    refine V_iast (j := (b * 3) + 0) dX5_lead_173 (aT_wine ht) (by omega) (by decide) ?_
    refine V_iinc_7 dX5_lead_174 (by first | exact rfl | exact True.intro) (by decide) 1 (by decide) ?_
    refine V_goto dX5_lead_177 83 (by decide) ?_
    refine V_iload_7 dX5_lead_83 ?_
    refine V_iconst 3 dX5_lead_85 (by decide) ?_
    refine V_icmp_ge_f dX5_lead_86 180 (by decide) (by decide) ?_
    refine V_iload_6 dX5_lead_89 ?_
    refine V_aloadn_0 dX5_lead_91 ?_
    refine V_getR dX5_lead_92 fl_X5_21 (oT_wine ht) ?_
    refine V_iloadn_1 dX5_lead_95 ?_
    refine V_iconst 3 dX5_lead_96 (by decide) ?_
    refine V_imulN (a := a) (b := 3) dX5_lead_97 ?_
    refine V_iload_7 dX5_lead_98 ?_
    refine V_iaddN (a := a * 3) (b := 1) dX5_lead_100 ?_
    refine V_iald (j := (a * 3) + 1) dX5_lead_101 (aT_wine ht) (by omega) (by decide) ?_
    refine V_topi (y := nI (T 4 (a * 3 + 1))) (by (repeat rw [vup_ne (by omega)]); exact hT.k4 (by omega)) ?_
    refine V_aloadn_0 dX5_lead_102 ?_
    refine V_getR dX5_lead_103 fl_X5_46 (oT_share ht) ?_
    refine V_iload_7 dX5_lead_106 ?_
    refine V_iald (j := 1) dX5_lead_108 (aT_share ht) (by decide) (by decide) ?_
    refine V_topi (y := nI (shT T a n 1)) (by repeat (first | rw [vup_same] | rw [vup_ne (by omega)])) ?_
    refine V_isubN (a := T 4 (a * 3 + 1)) (b := shT T a n 1) dX5_lead_109 (by omega) ?_
    refine V_mminN (a := lkT T a n 1) (b := (T 4 (a * 3 + 1)) - (shT T a n 1)) dX5_lead_110 ml_X5_97 (Nat.le_of_ble_eq_true rfl) (by omega) (by omega) ?_
    refine V_istore_8 dX5_lead_113 (by first | exact rfl | exact True.intro) (by decide) ?_
    refine V_iload_6 dX5_lead_115 ?_
    refine V_iload_8 dX5_lead_117 ?_
    refine V_isubN (a := lkT T a n 1) (b := min (lkT T a n 1) ((T 4 (a * 3 + 1)) - (shT T a n 1))) dX5_lead_119 (by omega) ?_
    refine V_istore_6 dX5_lead_120 (by first | exact rfl | exact True.intro) (by decide) ?_
    refine V_lo (lo' := [some (.ref t), some (.int (nI a)), some (.int (nI n0)), some (.int (nI b)), some (.int (nI (fullT T a))), some (.int (nI n)), some (.int (nI (lkT T a n 2))), some (.int 1), some (.int (nI (min (lkT T a n 1) ((T 4 (a * 3 + 1)) - (shT T a n 1)))))]) rfl ?_
    refine V_aloadn_0 dX5_lead_122 ?_
    refine V_getR dX5_lead_123 fl_X5_21 (oT_wine ht) ?_
    refine V_iloadn_1 dX5_lead_126 ?_
    refine V_iconst 3 dX5_lead_127 (by decide) ?_
    refine V_imulN (a := a) (b := 3) dX5_lead_128 ?_
    refine V_iload_7 dX5_lead_129 ?_
    refine V_iaddN (a := a * 3) (b := 1) dX5_lead_131 ?_
    refine V_dup2 dX5_lead_132 rfl rfl ?_
    refine V_iald (j := (a * 3) + 1) dX5_lead_133 (aT_wine ht) (by omega) (by decide) ?_
    refine V_topi (y := nI (T 4 (a * 3 + 1))) (by (repeat rw [vup_ne (by omega)]); exact hT.k4 (by omega)) ?_
    refine V_aloadn_0 dX5_lead_134 ?_
    refine V_getR dX5_lead_135 fl_X5_46 (oT_share ht) ?_
    refine V_iload_7 dX5_lead_138 ?_
    refine V_iald (j := 1) dX5_lead_140 (aT_share ht) (by decide) (by decide) ?_
    refine V_topi (y := nI (shT T a n 1)) (by repeat (first | rw [vup_same] | rw [vup_ne (by omega)])) ?_
    refine V_iload_8 dX5_lead_141 ?_
    refine V_iaddN (a := shT T a n 1) (b := min (lkT T a n 1) ((T 4 (a * 3 + 1)) - (shT T a n 1))) dX5_lead_143 ?_
    refine V_topi (y := nI (goT T a n 1)) rfl ?_
    refine V_isubN (a := T 4 (a * 3 + 1)) (b := goT T a n 1) dX5_lead_144 (go_le hnf) ?_
    refine V_iast (j := (a * 3) + 1) dX5_lead_145 (aT_wine ht) (by omega) (by decide) ?_
    refine V_iloadn_3 dX5_lead_146 ?_
    refine V_ifN_lt (a := b) dX5_lead_147 174 (by decide) (by omega) ?_
    refine V_aloadn_0 dX5_lead_150 ?_
    refine V_getR dX5_lead_151 fl_X5_21 (oT_wine ht) ?_
    refine V_iloadn_3 dX5_lead_154 ?_
    refine V_iconst 3 dX5_lead_155 (by decide) ?_
    refine V_imulN (a := b) (b := 3) dX5_lead_156 ?_
    refine V_iload_7 dX5_lead_157 ?_
    refine V_iaddN (a := b * 3) (b := 1) dX5_lead_159 ?_
    refine V_dup2 dX5_lead_160 rfl rfl ?_
    refine V_iald (j := (b * 3) + 1) dX5_lead_161 (aT_wine ht) (by omega) (by decide) ?_
    refine V_topi (y := nI (T 4 (b * 3 + 1))) (by (repeat rw [vup_ne (by omega)]); exact hT.k4 (by omega)) ?_
    refine V_aloadn_0 dX5_lead_162 ?_
    refine V_getR dX5_lead_163 fl_X5_46 (oT_share ht) ?_
    refine V_iload_7 dX5_lead_166 ?_
    refine V_iald (j := 1) dX5_lead_168 (aT_share ht) (by decide) (by decide) ?_
    refine V_topi (y := nI (shT T a n 1)) (by repeat (first | rw [vup_same] | rw [vup_ne (by omega)])) ?_
    refine V_iload_8 dX5_lead_169 ?_
    refine V_iaddN (a := shT T a n 1) (b := min (lkT T a n 1) ((T 4 (a * 3 + 1)) - (shT T a n 1))) dX5_lead_171 ?_
    refine V_topi (y := nI (goT T a n 1)) rfl ?_
    refine V_iaddN (a := T 4 (b * 3 + 1)) (b := goT T a n 1) dX5_lead_172 ?_
    refine V_iast (j := (b * 3) + 1) dX5_lead_173 (aT_wine ht) (by omega) (by decide) ?_
    refine V_iinc_7 dX5_lead_174 (by first | exact rfl | exact True.intro) (by decide) 2 (by decide) ?_
    refine V_goto dX5_lead_177 83 (by decide) ?_
    refine V_iload_7 dX5_lead_83 ?_
    refine V_iconst 3 dX5_lead_85 (by decide) ?_
    refine V_icmp_ge_f dX5_lead_86 180 (by decide) (by decide) ?_
    refine V_iload_6 dX5_lead_89 ?_
    refine V_aloadn_0 dX5_lead_91 ?_
    refine V_getR dX5_lead_92 fl_X5_21 (oT_wine ht) ?_
    refine V_iloadn_1 dX5_lead_95 ?_
    refine V_iconst 3 dX5_lead_96 (by decide) ?_
    refine V_imulN (a := a) (b := 3) dX5_lead_97 ?_
    refine V_iload_7 dX5_lead_98 ?_
    refine V_iaddN (a := a * 3) (b := 2) dX5_lead_100 ?_
    refine V_iald (j := (a * 3) + 2) dX5_lead_101 (aT_wine ht) (by omega) (by decide) ?_
    refine V_topi (y := nI (T 4 (a * 3 + 2))) (by (repeat rw [vup_ne (by omega)]); exact hT.k4 (by omega)) ?_
    refine V_aloadn_0 dX5_lead_102 ?_
    refine V_getR dX5_lead_103 fl_X5_46 (oT_share ht) ?_
    refine V_iload_7 dX5_lead_106 ?_
    refine V_iald (j := 2) dX5_lead_108 (aT_share ht) (by decide) (by decide) ?_
    refine V_topi (y := nI (shT T a n 2)) (by repeat (first | rw [vup_same] | rw [vup_ne (by omega)])) ?_
    refine V_isubN (a := T 4 (a * 3 + 2)) (b := shT T a n 2) dX5_lead_109 (by omega) ?_
    refine V_mminN (a := lkT T a n 2) (b := (T 4 (a * 3 + 2)) - (shT T a n 2)) dX5_lead_110 ml_X5_97 (Nat.le_of_ble_eq_true rfl) (by omega) (by omega) ?_
    refine V_istore_8 dX5_lead_113 (by first | exact rfl | exact True.intro) (by decide) ?_
    refine V_iload_6 dX5_lead_115 ?_
    refine V_iload_8 dX5_lead_117 ?_
    refine V_isubN (a := lkT T a n 2) (b := min (lkT T a n 2) ((T 4 (a * 3 + 2)) - (shT T a n 2))) dX5_lead_119 (by omega) ?_
    refine V_istore_6 dX5_lead_120 (by first | exact rfl | exact True.intro) (by decide) ?_
    refine V_lo (lo' := [some (.ref t), some (.int (nI a)), some (.int (nI n0)), some (.int (nI b)), some (.int (nI (fullT T a))), some (.int (nI n)), some (.int (nI (lkT T a n 3))), some (.int 2), some (.int (nI (min (lkT T a n 2) ((T 4 (a * 3 + 2)) - (shT T a n 2)))))]) rfl ?_
    refine V_aloadn_0 dX5_lead_122 ?_
    refine V_getR dX5_lead_123 fl_X5_21 (oT_wine ht) ?_
    refine V_iloadn_1 dX5_lead_126 ?_
    refine V_iconst 3 dX5_lead_127 (by decide) ?_
    refine V_imulN (a := a) (b := 3) dX5_lead_128 ?_
    refine V_iload_7 dX5_lead_129 ?_
    refine V_iaddN (a := a * 3) (b := 2) dX5_lead_131 ?_
    refine V_dup2 dX5_lead_132 rfl rfl ?_
    refine V_iald (j := (a * 3) + 2) dX5_lead_133 (aT_wine ht) (by omega) (by decide) ?_
    refine V_topi (y := nI (T 4 (a * 3 + 2))) (by (repeat rw [vup_ne (by omega)]); exact hT.k4 (by omega)) ?_
    refine V_aloadn_0 dX5_lead_134 ?_
    refine V_getR dX5_lead_135 fl_X5_46 (oT_share ht) ?_
    refine V_iload_7 dX5_lead_138 ?_
    refine V_iald (j := 2) dX5_lead_140 (aT_share ht) (by decide) (by decide) ?_
    refine V_topi (y := nI (shT T a n 2)) (by repeat (first | rw [vup_same] | rw [vup_ne (by omega)])) ?_
    refine V_iload_8 dX5_lead_141 ?_
    refine V_iaddN (a := shT T a n 2) (b := min (lkT T a n 2) ((T 4 (a * 3 + 2)) - (shT T a n 2))) dX5_lead_143 ?_
    refine V_topi (y := nI (goT T a n 2)) rfl ?_
    refine V_isubN (a := T 4 (a * 3 + 2)) (b := goT T a n 2) dX5_lead_144 (go_le hnf) ?_
    refine V_iast (j := (a * 3) + 2) dX5_lead_145 (aT_wine ht) (by omega) (by decide) ?_
    refine V_iloadn_3 dX5_lead_146 ?_
    refine V_ifN_lt (a := b) dX5_lead_147 174 (by decide) (by omega) ?_
    refine V_aloadn_0 dX5_lead_150 ?_
    refine V_getR dX5_lead_151 fl_X5_21 (oT_wine ht) ?_
    refine V_iloadn_3 dX5_lead_154 ?_
    refine V_iconst 3 dX5_lead_155 (by decide) ?_
    refine V_imulN (a := b) (b := 3) dX5_lead_156 ?_
    refine V_iload_7 dX5_lead_157 ?_
    refine V_iaddN (a := b * 3) (b := 2) dX5_lead_159 ?_
    refine V_dup2 dX5_lead_160 rfl rfl ?_
    refine V_iald (j := (b * 3) + 2) dX5_lead_161 (aT_wine ht) (by omega) (by decide) ?_
    refine V_topi (y := nI (T 4 (b * 3 + 2))) (by (repeat rw [vup_ne (by omega)]); exact hT.k4 (by omega)) ?_
    refine V_aloadn_0 dX5_lead_162 ?_
    refine V_getR dX5_lead_163 fl_X5_46 (oT_share ht) ?_
    refine V_iload_7 dX5_lead_166 ?_
    refine V_iald (j := 2) dX5_lead_168 (aT_share ht) (by decide) (by decide) ?_
    refine V_topi (y := nI (shT T a n 2)) (by repeat (first | rw [vup_same] | rw [vup_ne (by omega)])) ?_
    refine V_iload_8 dX5_lead_169 ?_
    refine V_iaddN (a := shT T a n 2) (b := min (lkT T a n 2) ((T 4 (a * 3 + 2)) - (shT T a n 2))) dX5_lead_171 ?_
    refine V_topi (y := nI (goT T a n 2)) rfl ?_
    refine V_iaddN (a := T 4 (b * 3 + 2)) (b := goT T a n 2) dX5_lead_172 ?_
    refine V_iast (j := (b * 3) + 2) dX5_lead_173 (aT_wine ht) (by omega) (by decide) ?_
    refine V_iinc_7 dX5_lead_174 (by first | exact rfl | exact True.intro) (by decide) 3 (by decide) ?_
    refine V_goto dX5_lead_177 83 (by decide) ?_
    refine V_iload_7 dX5_lead_83 ?_
    refine V_iconst 3 dX5_lead_85 (by decide) ?_
    refine V_icmp_ge_t dX5_lead_86 180 (by decide) (by decide) ?_
    refine V_abs (fun σ1 => TA0 t (leadT T a n b) σ1 ∧ ∀ q, q ≠ t + 4 → q ≠ t + 11 → σ1 q = σ q) ⟨wine_TA0 hT ?_ ?_ (fun k i h => lead_k h), ?_⟩ (fun σ1 h1 => ?_)
    · exact fun q g1 g2 => by repeat (first | rw [vup_p g1] | rw [vup_p g2])
    · intro i hi
      by_cases e0 : i = a * 3 + 0
      · subst e0
        rw [lead_from hab (by decide)]
        repeat (first | rw [vup_same] | rw [vup_ne (by omega)])
      by_cases e1 : i = a * 3 + 1
      · subst e1
        rw [lead_from hab (by decide)]
        repeat (first | rw [vup_same] | rw [vup_ne (by omega)])
      by_cases e2 : i = a * 3 + 2
      · subst e2
        rw [lead_from hab (by decide)]
        repeat (first | rw [vup_same] | rw [vup_ne (by omega)])
      by_cases f0 : i = b * 3 + 0
      · subst f0
        rw [lead_to hab (by decide)]
        repeat (first | rw [vup_same] | rw [vup_ne (by omega)])
      by_cases f1 : i = b * 3 + 1
      · subst f1
        rw [lead_to hab (by decide)]
        repeat (first | rw [vup_same] | rw [vup_ne (by omega)])
      by_cases f2 : i = b * 3 + 2
      · subst f2
        rw [lead_to hab (by decide)]
        repeat (first | rw [vup_same] | rw [vup_ne (by omega)])
      rw [lead_off (by omega) (by omega)]
      repeat rw [vup_ne (by omega)]
      exact hT.k4 hi
    · exact fun q g1 g2 => by repeat (first | rw [vup_p g1] | rw [vup_p g2])
    have hI1 : TI (leadT T a n b) := hI.lead ha hb hab hnf
    have e15 : (leadT T a n b) 0 15 = T 0 15 := lead_k (by decide)
    have e05 : (leadT T a n b) 0 5 = T 0 5 := lead_k (by decide)
    have hg := ht.ge
    have hC1 : TC0 L N t (leadT T a n b) σ1 := ⟨ht, h1.1, hI1, hL.congr hN2 (fun q _ _ => h1.2 q (by omega) (by omega)), hLI, by rw [e15]; exact hN, hN2⟩
    refine V_aloadn_0 dX5_lead_180 ?_
    refine V_iloadn_1 dX5_lead_181 ?_
    refine V_cv1n dX5_lead_182 cv_X5_86 (rcT ht) (Nat.le_of_ble_eq_true rfl) (k_T_refresh (by omega) hC1 (by rw [e05]; exact ha)) (fun σ2 h2 => ?_)
    have hC2 : TC0 L N t (leadT T a n b) σ2 := ⟨ht, h2.T0 ht h1.1, hI1, (hL.congr hN2 (fun q _ _ => h1.2 q (by omega) (by omega))).congr hN2 (fun q _ _ => h2.p (by omega) (by omega)), hLI, by rw [e15]; exact hN, hN2⟩
    refine V_iloadn_3 dX5_lead_185 ?_
    refine V_ifN_lt (a := b) dX5_lead_186 197 (by decide) (by omega) ?_
    refine V_aloadn_0 dX5_lead_189 ?_
    refine V_iloadn_3 dX5_lead_190 ?_
    refine V_cv1n dX5_lead_191 cv_X5_86 (rcT ht) (Nat.le_of_ble_eq_true rfl) (k_T_refresh (by omega) hC2 (by rw [e05]; exact hb)) (fun σ3 h3 => ?_)
    refine V_goto dX5_lead_194 213 (by decide) ?_
    have hF1 : Fr t σ σ1 := fun q a b => h1.2 q (by omega) (by omega)
    have hF : Fr t σ σ3 := (hF1.tr h2.fr).tr h3.fr
    refine V_abs (fun s => s = σ3) rfl (fun σ4 e4 => ?_)
    subst e4
    have hA : TA L t (leadT T a n b) σ4 := ⟨h3.T0 ht (h2.T0 ht h1.1), wine_TH (a := a) hH.2 (fun k i h => lead_k h) (fun c => c = a ∨ c = b) (fun c s hc g hs => lead_off (by omega) (by omega)) (fun c g => by rw [h3.2 (t + 5) c (by omega) (by omega), h2.2 (t + 5) c (by omega) (by omega), h1.2 (t + 5) (by omega) (by omega)]) (fun c hc g => by
      rcases g with rfl | rfl
      · rw [h3.2 (t + 5) c (by omega) (by omega)]
        exact h2.1
      · exact h3.1)⟩
    exact V_vret dX5_lead_213 ⟨rfl, hC.next hF hA hI1 e15, hF⟩
  · exact V_vret dX5_lead_20 ⟨rfl, by rw [h17, lead_zero]; exact ⟨hC, Fr.rf⟩⟩

set_option maxRecDepth 100000 in
set_option maxHeartbeats 4000000 in
theorem k_T_lead_s {G : vG} {σ : vS} {d : Nat} (hd : 3 ≤ d) {L T : nT} {N t : Nat} (hC : TC L N t T σ) {a n0 : Nat} (ha : a < T 0 5) (hn0 : n0 < 2 ^ 31) : Cr G yX5_lead cX5_lead 9 none d [.ref t, .int (nI a), .int (nI n0), .int (-1)] σ none (fun σ' => TC L N t (spillT T a (min n0 (fullT T a))) σ' ∧ Fr t σ σ') := by
  refine Ct.ofV (by decide) (Nat.le_of_ble_eq_true rfl) rfl ?_
  show V G RX5 cX5_lead none 9 d _ 0 [some (.ref t), some (.int (nI a)), some (.int (nI n0)), some (.int (-1)), none, none, none, none, none] [] _
  obtain ⟨d, rfl⟩ : ∃ e, d = e + 1 := ⟨d - 1, by omega⟩
  obtain ⟨ht, hH, hI, hL, hLI, hN, hN2⟩ := id hC
  have hT := hH.1
  have hn := hI.nc
  have hm := hI.np
  have hfa := hI.full ha
  obtain ⟨n, hn⟩ : ∃ n, n = min n0 (fullT T a) := ⟨_, rfl⟩
  have hnf : n ≤ fullT T a := by omega
  rw [← hn]
  have s0 := sh_le (s := 0) hnf
  have s1 := sh_le (s := 1) hnf
  have s2 := sh_le (s := 2) hnf
  have ss := sh_sum (T := T) (a := a) (n := n)
  have w0 := w_le_full (T := T) (a := a) (s := 0) (by decide)
  have w1 := w_le_full (T := T) (a := a) (s := 1) (by decide)
  have w2 := w_le_full (T := T) (a := a) (s := 2) (by decide)
  have lk0 : lkT T a n 0 ≤ n := by simp only [lkT]; omega
  have lk1 : lkT T a n 1 ≤ n := by simp only [lkT]; omega
  have lk2 : lkT T a n 2 ≤ n := by simp only [lkT]; omega
  refine V_aloadn_0 dX5_lead_0 ?_
  refine V_iloadn_1 dX5_lead_1 ?_
  refine V_cv1f dX5_lead_2 cv_X5_89 (rcT ht) (Nat.le_of_ble_eq_true rfl) (k_T_fullOf ht hT hI (by omega)) ?_
  refine V_istore_4 dX5_lead_5 (by first | exact rfl | exact True.intro) (by decide) ?_
  refine V_iloadn_2 dX5_lead_7 ?_
  refine V_iload_4 dX5_lead_8 ?_
  refine V_mminN (a := n0) (b := fullT T a) dX5_lead_10 ml_X5_97 (Nat.le_of_ble_eq_true rfl) (by omega) (by omega) ?_
  refine V_topi (y := nI n) (by rw [hn]) ?_
  refine V_istore_5 dX5_lead_13 (by first | exact rfl | exact True.intro) (by decide) ?_
  refine V_iload_5 dX5_lead_15 ?_
  refine V_ifN_gt (a := n) dX5_lead_17 21 (by decide) (by omega) (fun h17 => ?_) (fun h17 => ?_)
  · refine V_iload_5 dX5_lead_21 ?_
    refine V_istore_6 dX5_lead_23 (by first | exact rfl | exact True.intro) (by decide) ?_
    refine V_iconst 0 dX5_lead_25 (by decide) ?_
    refine V_istore_7 dX5_lead_26 (by first | exact rfl | exact True.intro) (by decide) ?_
    refine V_iload_7 dX5_lead_28 ?_
    refine V_iconst 3 dX5_lead_30 (by decide) ?_
    refine V_icmp_ge_f dX5_lead_31 80 (by decide) (by decide) ?_
    refine V_aloadn_0 dX5_lead_34 ?_
    refine V_getR dX5_lead_35 fl_X5_46 (oT_share ht) ?_
    refine V_iload_7 dX5_lead_38 ?_
    refine V_aloadn_0 dX5_lead_40 ?_
    refine V_getR dX5_lead_41 fl_X5_21 (oT_wine ht) ?_
    refine V_iloadn_1 dX5_lead_44 ?_
    refine V_iconst 3 dX5_lead_45 (by decide) ?_
    refine V_imulN (a := a) (b := 3) dX5_lead_46 ?_
    refine V_iload_7 dX5_lead_47 ?_
    refine V_iaddN (a := a * 3) (b := 0) dX5_lead_49 ?_
    refine V_iald (j := (a * 3) + 0) dX5_lead_50 (aT_wine ht) (by omega) (by decide) ?_
    refine V_topi (y := nI (T 4 (a * 3 + 0))) (by (repeat rw [vup_ne (by omega)]); exact hT.k4 (by omega)) ?_
    refine V_i2l dX5_lead_51 ?_
    refine V_iload_5 dX5_lead_52 ?_
    refine V_i2l dX5_lead_54 ?_
    refine V_lmul dX5_lead_55 ?_
    refine V_iload_4 dX5_lead_56 ?_
    refine V_i2l dX5_lead_58 ?_
    refine V_ldiv dX5_lead_59 (long_ne0 (by omega) (by omega)) ?_
    refine V_l2i dX5_lead_60 ?_
    refine V_topi (y := nI (shT T a n 0)) (share_long (by omega) (by omega) (by omega) (by omega)) ?_
    refine V_iast (j := 0) dX5_lead_61 (aT_share ht) (by decide) (by decide) ?_
    refine V_iload_6 dX5_lead_62 ?_
    refine V_aloadn_0 dX5_lead_64 ?_
    refine V_getR dX5_lead_65 fl_X5_46 (oT_share ht) ?_
    refine V_iload_7 dX5_lead_68 ?_
    refine V_iald (j := 0) dX5_lead_70 (aT_share ht) (by decide) (by decide) ?_
    refine V_topi (y := nI (shT T a n 0)) (by repeat (first | rw [vup_same] | rw [vup_ne (by omega)])) ?_
    refine V_isubN (a := n) (b := shT T a n 0) dX5_lead_71 (by omega) ?_
    refine V_istore_6 dX5_lead_72 (by first | exact rfl | exact True.intro) (by decide) ?_
    refine V_iinc_7 dX5_lead_74 (by first | exact rfl | exact True.intro) (by decide) 1 (by decide) ?_
    refine V_goto dX5_lead_77 28 (by decide) ?_
    refine V_iload_7 dX5_lead_28 ?_
    refine V_iconst 3 dX5_lead_30 (by decide) ?_
    refine V_icmp_ge_f dX5_lead_31 80 (by decide) (by decide) ?_
    refine V_aloadn_0 dX5_lead_34 ?_
    refine V_getR dX5_lead_35 fl_X5_46 (oT_share ht) ?_
    refine V_iload_7 dX5_lead_38 ?_
    refine V_aloadn_0 dX5_lead_40 ?_
    refine V_getR dX5_lead_41 fl_X5_21 (oT_wine ht) ?_
    refine V_iloadn_1 dX5_lead_44 ?_
    refine V_iconst 3 dX5_lead_45 (by decide) ?_
    refine V_imulN (a := a) (b := 3) dX5_lead_46 ?_
    refine V_iload_7 dX5_lead_47 ?_
    refine V_iaddN (a := a * 3) (b := 1) dX5_lead_49 ?_
    refine V_iald (j := (a * 3) + 1) dX5_lead_50 (aT_wine ht) (by omega) (by decide) ?_
    refine V_topi (y := nI (T 4 (a * 3 + 1))) (by (repeat rw [vup_ne (by omega)]); exact hT.k4 (by omega)) ?_
    refine V_i2l dX5_lead_51 ?_
    refine V_iload_5 dX5_lead_52 ?_
    refine V_i2l dX5_lead_54 ?_
    refine V_lmul dX5_lead_55 ?_
    refine V_iload_4 dX5_lead_56 ?_
    refine V_i2l dX5_lead_58 ?_
    refine V_ldiv dX5_lead_59 (long_ne0 (by omega) (by omega)) ?_
    refine V_l2i dX5_lead_60 ?_
    refine V_topi (y := nI (shT T a n 1)) (share_long (by omega) (by omega) (by omega) (by omega)) ?_
    refine V_iast (j := 1) dX5_lead_61 (aT_share ht) (by decide) (by decide) ?_
    refine V_iload_6 dX5_lead_62 ?_
    refine V_aloadn_0 dX5_lead_64 ?_
    refine V_getR dX5_lead_65 fl_X5_46 (oT_share ht) ?_
    refine V_iload_7 dX5_lead_68 ?_
    refine V_iald (j := 1) dX5_lead_70 (aT_share ht) (by decide) (by decide) ?_
    refine V_topi (y := nI (shT T a n 1)) (by repeat (first | rw [vup_same] | rw [vup_ne (by omega)])) ?_
    refine V_isubN (a := n - (shT T a n 0)) (b := shT T a n 1) dX5_lead_71 (by omega) ?_
    refine V_istore_6 dX5_lead_72 (by first | exact rfl | exact True.intro) (by decide) ?_
    refine V_iinc_7 dX5_lead_74 (by first | exact rfl | exact True.intro) (by decide) 2 (by decide) ?_
    refine V_goto dX5_lead_77 28 (by decide) ?_
    refine V_iload_7 dX5_lead_28 ?_
    refine V_iconst 3 dX5_lead_30 (by decide) ?_
    refine V_icmp_ge_f dX5_lead_31 80 (by decide) (by decide) ?_
    refine V_aloadn_0 dX5_lead_34 ?_
    refine V_getR dX5_lead_35 fl_X5_46 (oT_share ht) ?_
    refine V_iload_7 dX5_lead_38 ?_
    refine V_aloadn_0 dX5_lead_40 ?_
    refine V_getR dX5_lead_41 fl_X5_21 (oT_wine ht) ?_
    refine V_iloadn_1 dX5_lead_44 ?_
    refine V_iconst 3 dX5_lead_45 (by decide) ?_
    refine V_imulN (a := a) (b := 3) dX5_lead_46 ?_
    refine V_iload_7 dX5_lead_47 ?_
    refine V_iaddN (a := a * 3) (b := 2) dX5_lead_49 ?_
    refine V_iald (j := (a * 3) + 2) dX5_lead_50 (aT_wine ht) (by omega) (by decide) ?_
    refine V_topi (y := nI (T 4 (a * 3 + 2))) (by (repeat rw [vup_ne (by omega)]); exact hT.k4 (by omega)) ?_
    refine V_i2l dX5_lead_51 ?_
    refine V_iload_5 dX5_lead_52 ?_
    refine V_i2l dX5_lead_54 ?_
    refine V_lmul dX5_lead_55 ?_
    refine V_iload_4 dX5_lead_56 ?_
    refine V_i2l dX5_lead_58 ?_
    refine V_ldiv dX5_lead_59 (long_ne0 (by omega) (by omega)) ?_
    refine V_l2i dX5_lead_60 ?_
    refine V_topi (y := nI (shT T a n 2)) (share_long (by omega) (by omega) (by omega) (by omega)) ?_
    refine V_iast (j := 2) dX5_lead_61 (aT_share ht) (by decide) (by decide) ?_
    refine V_iload_6 dX5_lead_62 ?_
    refine V_aloadn_0 dX5_lead_64 ?_
    refine V_getR dX5_lead_65 fl_X5_46 (oT_share ht) ?_
    refine V_iload_7 dX5_lead_68 ?_
    refine V_iald (j := 2) dX5_lead_70 (aT_share ht) (by decide) (by decide) ?_
    refine V_topi (y := nI (shT T a n 2)) (by repeat (first | rw [vup_same] | rw [vup_ne (by omega)])) ?_
    refine V_isubN (a := (n - (shT T a n 0)) - (shT T a n 1)) (b := shT T a n 2) dX5_lead_71 (by omega) ?_
    refine V_istore_6 dX5_lead_72 (by first | exact rfl | exact True.intro) (by decide) ?_
    refine V_iinc_7 dX5_lead_74 (by first | exact rfl | exact True.intro) (by decide) 3 (by decide) ?_
    refine V_goto dX5_lead_77 28 (by decide) ?_
    refine V_iload_7 dX5_lead_28 ?_
    refine V_iconst 3 dX5_lead_30 (by decide) ?_
    refine V_icmp_ge_t dX5_lead_31 80 (by decide) (by decide) ?_
    refine V_lo (lo' := [some (.ref t), some (.int (nI a)), some (.int (nI n0)), some (.int (-1)), some (.int (nI (fullT T a))), some (.int (nI n)), some (.int (nI (lkT T a n 0))), some (.int 3), none]) rfl ?_
    refine V_iconst 0 dX5_lead_80 (by decide) ?_
    refine V_istore_7 dX5_lead_81 (by first | exact rfl | exact True.intro) (by decide) ?_
    refine V_iload_7 dX5_lead_83 ?_
    refine V_iconst 3 dX5_lead_85 (by decide) ?_
    refine V_icmp_ge_f dX5_lead_86 180 (by decide) (by decide) ?_
    refine V_iload_6 dX5_lead_89 ?_
    refine V_aloadn_0 dX5_lead_91 ?_
    refine V_getR dX5_lead_92 fl_X5_21 (oT_wine ht) ?_
    refine V_iloadn_1 dX5_lead_95 ?_
    refine V_iconst 3 dX5_lead_96 (by decide) ?_
    refine V_imulN (a := a) (b := 3) dX5_lead_97 ?_
    refine V_iload_7 dX5_lead_98 ?_
    refine V_iaddN (a := a * 3) (b := 0) dX5_lead_100 ?_
    refine V_iald (j := (a * 3) + 0) dX5_lead_101 (aT_wine ht) (by omega) (by decide) ?_
    refine V_topi (y := nI (T 4 (a * 3 + 0))) (by (repeat rw [vup_ne (by omega)]); exact hT.k4 (by omega)) ?_
    refine V_aloadn_0 dX5_lead_102 ?_
    refine V_getR dX5_lead_103 fl_X5_46 (oT_share ht) ?_
    refine V_iload_7 dX5_lead_106 ?_
    refine V_iald (j := 0) dX5_lead_108 (aT_share ht) (by decide) (by decide) ?_
    refine V_topi (y := nI (shT T a n 0)) (by repeat (first | rw [vup_same] | rw [vup_ne (by omega)])) ?_
    refine V_isubN (a := T 4 (a * 3 + 0)) (b := shT T a n 0) dX5_lead_109 (by omega) ?_
    refine V_mminN (a := lkT T a n 0) (b := (T 4 (a * 3 + 0)) - (shT T a n 0)) dX5_lead_110 ml_X5_97 (Nat.le_of_ble_eq_true rfl) (by omega) (by omega) ?_
    refine V_istore_8 dX5_lead_113 (by first | exact rfl | exact True.intro) (by decide) ?_
    refine V_iload_6 dX5_lead_115 ?_
    refine V_iload_8 dX5_lead_117 ?_
    refine V_isubN (a := lkT T a n 0) (b := min (lkT T a n 0) ((T 4 (a * 3 + 0)) - (shT T a n 0))) dX5_lead_119 (by omega) ?_
    refine V_istore_6 dX5_lead_120 (by first | exact rfl | exact True.intro) (by decide) ?_
    refine V_lo (lo' := [some (.ref t), some (.int (nI a)), some (.int (nI n0)), some (.int (-1)), some (.int (nI (fullT T a))), some (.int (nI n)), some (.int (nI (lkT T a n 1))), some (.int 0), some (.int (nI (min (lkT T a n 0) ((T 4 (a * 3 + 0)) - (shT T a n 0)))))]) rfl ?_
    refine V_aloadn_0 dX5_lead_122 ?_
    refine V_getR dX5_lead_123 fl_X5_21 (oT_wine ht) ?_
    refine V_iloadn_1 dX5_lead_126 ?_
    refine V_iconst 3 dX5_lead_127 (by decide) ?_
    refine V_imulN (a := a) (b := 3) dX5_lead_128 ?_
    refine V_iload_7 dX5_lead_129 ?_
    refine V_iaddN (a := a * 3) (b := 0) dX5_lead_131 ?_
    refine V_dup2 dX5_lead_132 rfl rfl ?_
    refine V_iald (j := (a * 3) + 0) dX5_lead_133 (aT_wine ht) (by omega) (by decide) ?_
    refine V_topi (y := nI (T 4 (a * 3 + 0))) (by (repeat rw [vup_ne (by omega)]); exact hT.k4 (by omega)) ?_
    refine V_aloadn_0 dX5_lead_134 ?_
    refine V_getR dX5_lead_135 fl_X5_46 (oT_share ht) ?_
    refine V_iload_7 dX5_lead_138 ?_
    refine V_iald (j := 0) dX5_lead_140 (aT_share ht) (by decide) (by decide) ?_
    refine V_topi (y := nI (shT T a n 0)) (by repeat (first | rw [vup_same] | rw [vup_ne (by omega)])) ?_
    refine V_iload_8 dX5_lead_141 ?_
    refine V_iaddN (a := shT T a n 0) (b := min (lkT T a n 0) ((T 4 (a * 3 + 0)) - (shT T a n 0))) dX5_lead_143 ?_
    refine V_topi (y := nI (goT T a n 0)) rfl ?_
    refine V_isubN (a := T 4 (a * 3 + 0)) (b := goT T a n 0) dX5_lead_144 (go_le hnf) ?_
    refine V_iast (j := (a * 3) + 0) dX5_lead_145 (aT_wine ht) (by omega) (by decide) ?_
    refine V_iloadn_3 dX5_lead_146 ?_
    refine V_if_lt_t dX5_lead_147 174 (by decide) (by decide) ?_
    refine V_iinc_7 dX5_lead_174 (by first | exact rfl | exact True.intro) (by decide) 1 (by decide) ?_
    refine V_goto dX5_lead_177 83 (by decide) ?_
    refine V_iload_7 dX5_lead_83 ?_
    refine V_iconst 3 dX5_lead_85 (by decide) ?_
    refine V_icmp_ge_f dX5_lead_86 180 (by decide) (by decide) ?_
    refine V_iload_6 dX5_lead_89 ?_
    refine V_aloadn_0 dX5_lead_91 ?_
    refine V_getR dX5_lead_92 fl_X5_21 (oT_wine ht) ?_
    refine V_iloadn_1 dX5_lead_95 ?_
    refine V_iconst 3 dX5_lead_96 (by decide) ?_
    refine V_imulN (a := a) (b := 3) dX5_lead_97 ?_
    refine V_iload_7 dX5_lead_98 ?_
    refine V_iaddN (a := a * 3) (b := 1) dX5_lead_100 ?_
    refine V_iald (j := (a * 3) + 1) dX5_lead_101 (aT_wine ht) (by omega) (by decide) ?_
    refine V_topi (y := nI (T 4 (a * 3 + 1))) (by (repeat rw [vup_ne (by omega)]); exact hT.k4 (by omega)) ?_
    refine V_aloadn_0 dX5_lead_102 ?_
    refine V_getR dX5_lead_103 fl_X5_46 (oT_share ht) ?_
    refine V_iload_7 dX5_lead_106 ?_
    refine V_iald (j := 1) dX5_lead_108 (aT_share ht) (by decide) (by decide) ?_
    refine V_topi (y := nI (shT T a n 1)) (by repeat (first | rw [vup_same] | rw [vup_ne (by omega)])) ?_
    refine V_isubN (a := T 4 (a * 3 + 1)) (b := shT T a n 1) dX5_lead_109 (by omega) ?_
    refine V_mminN (a := lkT T a n 1) (b := (T 4 (a * 3 + 1)) - (shT T a n 1)) dX5_lead_110 ml_X5_97 (Nat.le_of_ble_eq_true rfl) (by omega) (by omega) ?_
    refine V_istore_8 dX5_lead_113 (by first | exact rfl | exact True.intro) (by decide) ?_
    refine V_iload_6 dX5_lead_115 ?_
    refine V_iload_8 dX5_lead_117 ?_
    refine V_isubN (a := lkT T a n 1) (b := min (lkT T a n 1) ((T 4 (a * 3 + 1)) - (shT T a n 1))) dX5_lead_119 (by omega) ?_
    refine V_istore_6 dX5_lead_120 (by first | exact rfl | exact True.intro) (by decide) ?_
    refine V_lo (lo' := [some (.ref t), some (.int (nI a)), some (.int (nI n0)), some (.int (-1)), some (.int (nI (fullT T a))), some (.int (nI n)), some (.int (nI (lkT T a n 2))), some (.int 1), some (.int (nI (min (lkT T a n 1) ((T 4 (a * 3 + 1)) - (shT T a n 1)))))]) rfl ?_
    refine V_aloadn_0 dX5_lead_122 ?_
    refine V_getR dX5_lead_123 fl_X5_21 (oT_wine ht) ?_
    refine V_iloadn_1 dX5_lead_126 ?_
    refine V_iconst 3 dX5_lead_127 (by decide) ?_
    refine V_imulN (a := a) (b := 3) dX5_lead_128 ?_
    refine V_iload_7 dX5_lead_129 ?_
    refine V_iaddN (a := a * 3) (b := 1) dX5_lead_131 ?_
    refine V_dup2 dX5_lead_132 rfl rfl ?_
    refine V_iald (j := (a * 3) + 1) dX5_lead_133 (aT_wine ht) (by omega) (by decide) ?_
    refine V_topi (y := nI (T 4 (a * 3 + 1))) (by (repeat rw [vup_ne (by omega)]); exact hT.k4 (by omega)) ?_
    refine V_aloadn_0 dX5_lead_134 ?_
    refine V_getR dX5_lead_135 fl_X5_46 (oT_share ht) ?_
    refine V_iload_7 dX5_lead_138 ?_
    refine V_iald (j := 1) dX5_lead_140 (aT_share ht) (by decide) (by decide) ?_
    refine V_topi (y := nI (shT T a n 1)) (by repeat (first | rw [vup_same] | rw [vup_ne (by omega)])) ?_
    refine V_iload_8 dX5_lead_141 ?_
    refine V_iaddN (a := shT T a n 1) (b := min (lkT T a n 1) ((T 4 (a * 3 + 1)) - (shT T a n 1))) dX5_lead_143 ?_
    refine V_topi (y := nI (goT T a n 1)) rfl ?_
    refine V_isubN (a := T 4 (a * 3 + 1)) (b := goT T a n 1) dX5_lead_144 (go_le hnf) ?_
    refine V_iast (j := (a * 3) + 1) dX5_lead_145 (aT_wine ht) (by omega) (by decide) ?_
    refine V_iloadn_3 dX5_lead_146 ?_
    refine V_if_lt_t dX5_lead_147 174 (by decide) (by decide) ?_
    refine V_iinc_7 dX5_lead_174 (by first | exact rfl | exact True.intro) (by decide) 2 (by decide) ?_
    refine V_goto dX5_lead_177 83 (by decide) ?_
    refine V_iload_7 dX5_lead_83 ?_
    refine V_iconst 3 dX5_lead_85 (by decide) ?_
    refine V_icmp_ge_f dX5_lead_86 180 (by decide) (by decide) ?_
    refine V_iload_6 dX5_lead_89 ?_
    refine V_aloadn_0 dX5_lead_91 ?_
    refine V_getR dX5_lead_92 fl_X5_21 (oT_wine ht) ?_
    refine V_iloadn_1 dX5_lead_95 ?_
    refine V_iconst 3 dX5_lead_96 (by decide) ?_
    refine V_imulN (a := a) (b := 3) dX5_lead_97 ?_
    refine V_iload_7 dX5_lead_98 ?_
    refine V_iaddN (a := a * 3) (b := 2) dX5_lead_100 ?_
    refine V_iald (j := (a * 3) + 2) dX5_lead_101 (aT_wine ht) (by omega) (by decide) ?_
    refine V_topi (y := nI (T 4 (a * 3 + 2))) (by (repeat rw [vup_ne (by omega)]); exact hT.k4 (by omega)) ?_
    refine V_aloadn_0 dX5_lead_102 ?_
    refine V_getR dX5_lead_103 fl_X5_46 (oT_share ht) ?_
    refine V_iload_7 dX5_lead_106 ?_
    refine V_iald (j := 2) dX5_lead_108 (aT_share ht) (by decide) (by decide) ?_
    refine V_topi (y := nI (shT T a n 2)) (by repeat (first | rw [vup_same] | rw [vup_ne (by omega)])) ?_
    refine V_isubN (a := T 4 (a * 3 + 2)) (b := shT T a n 2) dX5_lead_109 (by omega) ?_
    refine V_mminN (a := lkT T a n 2) (b := (T 4 (a * 3 + 2)) - (shT T a n 2)) dX5_lead_110 ml_X5_97 (Nat.le_of_ble_eq_true rfl) (by omega) (by omega) ?_
    refine V_istore_8 dX5_lead_113 (by first | exact rfl | exact True.intro) (by decide) ?_
    refine V_iload_6 dX5_lead_115 ?_
    refine V_iload_8 dX5_lead_117 ?_
    refine V_isubN (a := lkT T a n 2) (b := min (lkT T a n 2) ((T 4 (a * 3 + 2)) - (shT T a n 2))) dX5_lead_119 (by omega) ?_
    refine V_istore_6 dX5_lead_120 (by first | exact rfl | exact True.intro) (by decide) ?_
    refine V_lo (lo' := [some (.ref t), some (.int (nI a)), some (.int (nI n0)), some (.int (-1)), some (.int (nI (fullT T a))), some (.int (nI n)), some (.int (nI (lkT T a n 3))), some (.int 2), some (.int (nI (min (lkT T a n 2) ((T 4 (a * 3 + 2)) - (shT T a n 2)))))]) rfl ?_
    refine V_aloadn_0 dX5_lead_122 ?_
    refine V_getR dX5_lead_123 fl_X5_21 (oT_wine ht) ?_
    refine V_iloadn_1 dX5_lead_126 ?_
    refine V_iconst 3 dX5_lead_127 (by decide) ?_
    refine V_imulN (a := a) (b := 3) dX5_lead_128 ?_
    refine V_iload_7 dX5_lead_129 ?_
    refine V_iaddN (a := a * 3) (b := 2) dX5_lead_131 ?_
    refine V_dup2 dX5_lead_132 rfl rfl ?_
    refine V_iald (j := (a * 3) + 2) dX5_lead_133 (aT_wine ht) (by omega) (by decide) ?_
    refine V_topi (y := nI (T 4 (a * 3 + 2))) (by (repeat rw [vup_ne (by omega)]); exact hT.k4 (by omega)) ?_
    refine V_aloadn_0 dX5_lead_134 ?_
    refine V_getR dX5_lead_135 fl_X5_46 (oT_share ht) ?_
    refine V_iload_7 dX5_lead_138 ?_
    refine V_iald (j := 2) dX5_lead_140 (aT_share ht) (by decide) (by decide) ?_
    refine V_topi (y := nI (shT T a n 2)) (by repeat (first | rw [vup_same] | rw [vup_ne (by omega)])) ?_
    refine V_iload_8 dX5_lead_141 ?_
    refine V_iaddN (a := shT T a n 2) (b := min (lkT T a n 2) ((T 4 (a * 3 + 2)) - (shT T a n 2))) dX5_lead_143 ?_
    refine V_topi (y := nI (goT T a n 2)) rfl ?_
    refine V_isubN (a := T 4 (a * 3 + 2)) (b := goT T a n 2) dX5_lead_144 (go_le hnf) ?_
    refine V_iast (j := (a * 3) + 2) dX5_lead_145 (aT_wine ht) (by omega) (by decide) ?_
    refine V_iloadn_3 dX5_lead_146 ?_
    refine V_if_lt_t dX5_lead_147 174 (by decide) (by decide) ?_
    refine V_iinc_7 dX5_lead_174 (by first | exact rfl | exact True.intro) (by decide) 3 (by decide) ?_
    refine V_goto dX5_lead_177 83 (by decide) ?_
    refine V_iload_7 dX5_lead_83 ?_
    refine V_iconst 3 dX5_lead_85 (by decide) ?_
    refine V_icmp_ge_t dX5_lead_86 180 (by decide) (by decide) ?_
    refine V_abs (fun σ1 => TA0 t (drainT T a n) σ1 ∧ ∀ q, q ≠ t + 4 → q ≠ t + 11 → σ1 q = σ q) ⟨wine_TA0 hT ?_ ?_ (fun k i h => drain_k h), ?_⟩ (fun σ1 h1 => ?_)
    · exact fun q g1 g2 => by repeat (first | rw [vup_p g1] | rw [vup_p g2])
    · intro i hi
      by_cases e0 : i = a * 3 + 0
      · subst e0
        rw [drain_at (by decide)]
        repeat (first | rw [vup_same] | rw [vup_ne (by omega)])
      by_cases e1 : i = a * 3 + 1
      · subst e1
        rw [drain_at (by decide)]
        repeat (first | rw [vup_same] | rw [vup_ne (by omega)])
      by_cases e2 : i = a * 3 + 2
      · subst e2
        rw [drain_at (by decide)]
        repeat (first | rw [vup_same] | rw [vup_ne (by omega)])
      rw [drain_off (by omega)]
      repeat rw [vup_ne (by omega)]
      exact hT.k4 hi
    · exact fun q g1 g2 => by repeat (first | rw [vup_p g1] | rw [vup_p g2])
    have hI1 : TI (drainT T a n) := hI.drain ha hnf
    have e15 : (drainT T a n) 0 15 = T 0 15 := drain_k (by decide)
    have e05 : (drainT T a n) 0 5 = T 0 5 := drain_k (by decide)
    have hg := ht.ge
    have hC1 : TC0 L N t (drainT T a n) σ1 := ⟨ht, h1.1, hI1, hL.congr hN2 (fun q _ _ => h1.2 q (by omega) (by omega)), hLI, by rw [e15]; exact hN, hN2⟩
    refine V_aloadn_0 dX5_lead_180 ?_
    refine V_iloadn_1 dX5_lead_181 ?_
    refine V_cv1n dX5_lead_182 cv_X5_86 (rcT ht) (Nat.le_of_ble_eq_true rfl) (k_T_refresh (by omega) hC1 (by rw [e05]; exact ha)) (fun σ2 h2 => ?_)
    have hT2 := h2.T0 ht h1.1
    refine V_iloadn_3 dX5_lead_185 ?_
    refine V_if_lt_t dX5_lead_186 197 (by decide) (by decide) ?_
    refine V_iloadn_3 dX5_lead_197 ?_
    refine V_iconst (-1) dX5_lead_198 (by decide) ?_
    refine V_icmp_ne_f dX5_lead_199 213 (by decide) (by decide) ?_
    refine V_aloadn_0 dX5_lead_202 ?_
    refine V_dup dX5_lead_203 rfl ?_
    refine V_getI dX5_lead_204 fl_X5_68 (oT_spilt ht) ?_
    refine V_topi (y := nI (T 0 11)) (by rw [hT2.n11, drain_k (by decide)]) ?_
    refine V_iload_5 dX5_lead_207 ?_
    refine V_iaddN (a := T 0 11) (b := n) dX5_lead_209 ?_
    refine V_putI dX5_lead_210 fp_X5_68 (oT_spilt ht) ?_
    refine V_abs (fun s => s = vup σ2 t 11 (nI (T 0 11 + n))) rfl (fun σ3 e3 => ?_)
    have hF : Fr t σ σ3 := (fun q g1 g2 => by rw [e3, vup_p (by omega), h2.p g2 (by omega), h1.2 q (by omega) (by omega)])
    have hk : ∀ k i, k ≠ 4 → ¬ (k = 0 ∧ i = 11) → spillT T a n k i = T k i := fun k i g1 g2 => by unfold spillT; rw [Tup_ne g2]; exact drain_k g1
    have hw : ∀ i, spillT T a n 4 i = drainT T a n 4 i := fun i => by unfold spillT; rw [Tup_ne (by omega)]
    have h5 : ∀ c, highT L (spillT T a n) c = highT L (drainT T a n) c := fun c => high_eq (by rw [hk 1 c (by decide) (by omega), drain_k (by decide)]) (by rw [hk 3 c (by decide) (by omega), drain_k (by decide)]) (by rw [hk 10 0 (by decide) (by omega), drain_k (by decide)]) (fun s _ => hw _)
    have hA : TA L t (spillT T a n) σ3 := by
      refine ⟨?_, fun c hc => ?_⟩
      · rw [e3]
        exact spill_TA0 hT2
      · have hc : c < T 0 5 := by rw [hk 0 5 (by decide) (by omega)] at hc; exact hc
        rw [h5, e3, vup_p (by omega)]
        exact wine_TH (a := a) (T' := drainT T a n) (σ' := σ2) hH.2 (fun k i h => drain_k h) (fun c => c = a) (fun c s hc g hs => drain_off (by omega)) (fun c g => by rw [h2.2 (t + 5) c (by omega) (by omega), h1.2 (t + 5) (by omega) (by omega)]) (fun c hc g => by rw [g]; exact h2.1) c (by rw [drain_k (by decide)]; exact hc)
    exact V_vret dX5_lead_213 ⟨rfl, hC.next hF hA (hI.spill ha hnf) (hk 0 15 (by decide) (by omega)), hF⟩
  · exact V_vret dX5_lead_20 ⟨rfl, by rw [h17, spill_zero]; exact ⟨hC, Fr.rf⟩⟩

set_option maxRecDepth 100000 in
set_option maxHeartbeats 4000000 in
theorem k_T_lead_d {G : vG} {σ : vS} {d : Nat} (hd : 3 ≤ d) {L T : nT} {N t : Nat} (hC : TC L N t T σ) {a n0 : Nat} (ha : a < T 0 5) (hn0 : n0 < 2 ^ 31) : Cr G yX5_lead cX5_lead 9 none d [.ref t, .int (nI a), .int (nI n0), .int (-2)] σ none (fun σ' => TC L N t (drainT T a (min n0 (fullT T a))) σ' ∧ Fr t σ σ') := by
  refine Ct.ofV (by decide) (Nat.le_of_ble_eq_true rfl) rfl ?_
  show V G RX5 cX5_lead none 9 d _ 0 [some (.ref t), some (.int (nI a)), some (.int (nI n0)), some (.int (-2)), none, none, none, none, none] [] _
  obtain ⟨d, rfl⟩ : ∃ e, d = e + 1 := ⟨d - 1, by omega⟩
  obtain ⟨ht, hH, hI, hL, hLI, hN, hN2⟩ := id hC
  have hT := hH.1
  have hn := hI.nc
  have hm := hI.np
  have hfa := hI.full ha
  obtain ⟨n, hn⟩ : ∃ n, n = min n0 (fullT T a) := ⟨_, rfl⟩
  have hnf : n ≤ fullT T a := by omega
  rw [← hn]
  have s0 := sh_le (s := 0) hnf
  have s1 := sh_le (s := 1) hnf
  have s2 := sh_le (s := 2) hnf
  have ss := sh_sum (T := T) (a := a) (n := n)
  have w0 := w_le_full (T := T) (a := a) (s := 0) (by decide)
  have w1 := w_le_full (T := T) (a := a) (s := 1) (by decide)
  have w2 := w_le_full (T := T) (a := a) (s := 2) (by decide)
  have lk0 : lkT T a n 0 ≤ n := by simp only [lkT]; omega
  have lk1 : lkT T a n 1 ≤ n := by simp only [lkT]; omega
  have lk2 : lkT T a n 2 ≤ n := by simp only [lkT]; omega
  refine V_aloadn_0 dX5_lead_0 ?_
  refine V_iloadn_1 dX5_lead_1 ?_
  refine V_cv1f dX5_lead_2 cv_X5_89 (rcT ht) (Nat.le_of_ble_eq_true rfl) (k_T_fullOf ht hT hI (by omega)) ?_
  refine V_istore_4 dX5_lead_5 (by first | exact rfl | exact True.intro) (by decide) ?_
  refine V_iloadn_2 dX5_lead_7 ?_
  refine V_iload_4 dX5_lead_8 ?_
  refine V_mminN (a := n0) (b := fullT T a) dX5_lead_10 ml_X5_97 (Nat.le_of_ble_eq_true rfl) (by omega) (by omega) ?_
  refine V_topi (y := nI n) (by rw [hn]) ?_
  refine V_istore_5 dX5_lead_13 (by first | exact rfl | exact True.intro) (by decide) ?_
  refine V_iload_5 dX5_lead_15 ?_
  refine V_ifN_gt (a := n) dX5_lead_17 21 (by decide) (by omega) (fun h17 => ?_) (fun h17 => ?_)
  · refine V_iload_5 dX5_lead_21 ?_
    refine V_istore_6 dX5_lead_23 (by first | exact rfl | exact True.intro) (by decide) ?_
    refine V_iconst 0 dX5_lead_25 (by decide) ?_
    refine V_istore_7 dX5_lead_26 (by first | exact rfl | exact True.intro) (by decide) ?_
    refine V_iload_7 dX5_lead_28 ?_
    refine V_iconst 3 dX5_lead_30 (by decide) ?_
    refine V_icmp_ge_f dX5_lead_31 80 (by decide) (by decide) ?_
    refine V_aloadn_0 dX5_lead_34 ?_
    refine V_getR dX5_lead_35 fl_X5_46 (oT_share ht) ?_
    refine V_iload_7 dX5_lead_38 ?_
    refine V_aloadn_0 dX5_lead_40 ?_
    refine V_getR dX5_lead_41 fl_X5_21 (oT_wine ht) ?_
    refine V_iloadn_1 dX5_lead_44 ?_
    refine V_iconst 3 dX5_lead_45 (by decide) ?_
    refine V_imulN (a := a) (b := 3) dX5_lead_46 ?_
    refine V_iload_7 dX5_lead_47 ?_
    refine V_iaddN (a := a * 3) (b := 0) dX5_lead_49 ?_
    refine V_iald (j := (a * 3) + 0) dX5_lead_50 (aT_wine ht) (by omega) (by decide) ?_
    refine V_topi (y := nI (T 4 (a * 3 + 0))) (by (repeat rw [vup_ne (by omega)]); exact hT.k4 (by omega)) ?_
    refine V_i2l dX5_lead_51 ?_
    refine V_iload_5 dX5_lead_52 ?_
    refine V_i2l dX5_lead_54 ?_
    refine V_lmul dX5_lead_55 ?_
    refine V_iload_4 dX5_lead_56 ?_
    refine V_i2l dX5_lead_58 ?_
    refine V_ldiv dX5_lead_59 (long_ne0 (by omega) (by omega)) ?_
    refine V_l2i dX5_lead_60 ?_
    refine V_topi (y := nI (shT T a n 0)) (share_long (by omega) (by omega) (by omega) (by omega)) ?_
    refine V_iast (j := 0) dX5_lead_61 (aT_share ht) (by decide) (by decide) ?_
    refine V_iload_6 dX5_lead_62 ?_
    refine V_aloadn_0 dX5_lead_64 ?_
    refine V_getR dX5_lead_65 fl_X5_46 (oT_share ht) ?_
    refine V_iload_7 dX5_lead_68 ?_
    refine V_iald (j := 0) dX5_lead_70 (aT_share ht) (by decide) (by decide) ?_
    refine V_topi (y := nI (shT T a n 0)) (by repeat (first | rw [vup_same] | rw [vup_ne (by omega)])) ?_
    refine V_isubN (a := n) (b := shT T a n 0) dX5_lead_71 (by omega) ?_
    refine V_istore_6 dX5_lead_72 (by first | exact rfl | exact True.intro) (by decide) ?_
    refine V_iinc_7 dX5_lead_74 (by first | exact rfl | exact True.intro) (by decide) 1 (by decide) ?_
    refine V_goto dX5_lead_77 28 (by decide) ?_
    refine V_iload_7 dX5_lead_28 ?_
    refine V_iconst 3 dX5_lead_30 (by decide) ?_
    refine V_icmp_ge_f dX5_lead_31 80 (by decide) (by decide) ?_
    refine V_aloadn_0 dX5_lead_34 ?_
    refine V_getR dX5_lead_35 fl_X5_46 (oT_share ht) ?_
    refine V_iload_7 dX5_lead_38 ?_
    refine V_aloadn_0 dX5_lead_40 ?_
    refine V_getR dX5_lead_41 fl_X5_21 (oT_wine ht) ?_
    refine V_iloadn_1 dX5_lead_44 ?_
    refine V_iconst 3 dX5_lead_45 (by decide) ?_
    refine V_imulN (a := a) (b := 3) dX5_lead_46 ?_
    refine V_iload_7 dX5_lead_47 ?_
    refine V_iaddN (a := a * 3) (b := 1) dX5_lead_49 ?_
    refine V_iald (j := (a * 3) + 1) dX5_lead_50 (aT_wine ht) (by omega) (by decide) ?_
    refine V_topi (y := nI (T 4 (a * 3 + 1))) (by (repeat rw [vup_ne (by omega)]); exact hT.k4 (by omega)) ?_
    refine V_i2l dX5_lead_51 ?_
    refine V_iload_5 dX5_lead_52 ?_
    refine V_i2l dX5_lead_54 ?_
    refine V_lmul dX5_lead_55 ?_
    refine V_iload_4 dX5_lead_56 ?_
    refine V_i2l dX5_lead_58 ?_
    refine V_ldiv dX5_lead_59 (long_ne0 (by omega) (by omega)) ?_
    refine V_l2i dX5_lead_60 ?_
    refine V_topi (y := nI (shT T a n 1)) (share_long (by omega) (by omega) (by omega) (by omega)) ?_
    refine V_iast (j := 1) dX5_lead_61 (aT_share ht) (by decide) (by decide) ?_
    refine V_iload_6 dX5_lead_62 ?_
    refine V_aloadn_0 dX5_lead_64 ?_
    refine V_getR dX5_lead_65 fl_X5_46 (oT_share ht) ?_
    refine V_iload_7 dX5_lead_68 ?_
    refine V_iald (j := 1) dX5_lead_70 (aT_share ht) (by decide) (by decide) ?_
    refine V_topi (y := nI (shT T a n 1)) (by repeat (first | rw [vup_same] | rw [vup_ne (by omega)])) ?_
    refine V_isubN (a := n - (shT T a n 0)) (b := shT T a n 1) dX5_lead_71 (by omega) ?_
    refine V_istore_6 dX5_lead_72 (by first | exact rfl | exact True.intro) (by decide) ?_
    refine V_iinc_7 dX5_lead_74 (by first | exact rfl | exact True.intro) (by decide) 2 (by decide) ?_
    refine V_goto dX5_lead_77 28 (by decide) ?_
    refine V_iload_7 dX5_lead_28 ?_
    refine V_iconst 3 dX5_lead_30 (by decide) ?_
    refine V_icmp_ge_f dX5_lead_31 80 (by decide) (by decide) ?_
    refine V_aloadn_0 dX5_lead_34 ?_
    refine V_getR dX5_lead_35 fl_X5_46 (oT_share ht) ?_
    refine V_iload_7 dX5_lead_38 ?_
    refine V_aloadn_0 dX5_lead_40 ?_
    refine V_getR dX5_lead_41 fl_X5_21 (oT_wine ht) ?_
    refine V_iloadn_1 dX5_lead_44 ?_
    refine V_iconst 3 dX5_lead_45 (by decide) ?_
    refine V_imulN (a := a) (b := 3) dX5_lead_46 ?_
    refine V_iload_7 dX5_lead_47 ?_
    refine V_iaddN (a := a * 3) (b := 2) dX5_lead_49 ?_
    refine V_iald (j := (a * 3) + 2) dX5_lead_50 (aT_wine ht) (by omega) (by decide) ?_
    refine V_topi (y := nI (T 4 (a * 3 + 2))) (by (repeat rw [vup_ne (by omega)]); exact hT.k4 (by omega)) ?_
    refine V_i2l dX5_lead_51 ?_
    refine V_iload_5 dX5_lead_52 ?_
    refine V_i2l dX5_lead_54 ?_
    refine V_lmul dX5_lead_55 ?_
    refine V_iload_4 dX5_lead_56 ?_
    refine V_i2l dX5_lead_58 ?_
    refine V_ldiv dX5_lead_59 (long_ne0 (by omega) (by omega)) ?_
    refine V_l2i dX5_lead_60 ?_
    refine V_topi (y := nI (shT T a n 2)) (share_long (by omega) (by omega) (by omega) (by omega)) ?_
    refine V_iast (j := 2) dX5_lead_61 (aT_share ht) (by decide) (by decide) ?_
    refine V_iload_6 dX5_lead_62 ?_
    refine V_aloadn_0 dX5_lead_64 ?_
    refine V_getR dX5_lead_65 fl_X5_46 (oT_share ht) ?_
    refine V_iload_7 dX5_lead_68 ?_
    refine V_iald (j := 2) dX5_lead_70 (aT_share ht) (by decide) (by decide) ?_
    refine V_topi (y := nI (shT T a n 2)) (by repeat (first | rw [vup_same] | rw [vup_ne (by omega)])) ?_
    refine V_isubN (a := (n - (shT T a n 0)) - (shT T a n 1)) (b := shT T a n 2) dX5_lead_71 (by omega) ?_
    refine V_istore_6 dX5_lead_72 (by first | exact rfl | exact True.intro) (by decide) ?_
    refine V_iinc_7 dX5_lead_74 (by first | exact rfl | exact True.intro) (by decide) 3 (by decide) ?_
    refine V_goto dX5_lead_77 28 (by decide) ?_
    refine V_iload_7 dX5_lead_28 ?_
    refine V_iconst 3 dX5_lead_30 (by decide) ?_
    refine V_icmp_ge_t dX5_lead_31 80 (by decide) (by decide) ?_
    refine V_lo (lo' := [some (.ref t), some (.int (nI a)), some (.int (nI n0)), some (.int (-2)), some (.int (nI (fullT T a))), some (.int (nI n)), some (.int (nI (lkT T a n 0))), some (.int 3), none]) rfl ?_
    refine V_iconst 0 dX5_lead_80 (by decide) ?_
    refine V_istore_7 dX5_lead_81 (by first | exact rfl | exact True.intro) (by decide) ?_
    refine V_iload_7 dX5_lead_83 ?_
    refine V_iconst 3 dX5_lead_85 (by decide) ?_
    refine V_icmp_ge_f dX5_lead_86 180 (by decide) (by decide) ?_
    refine V_iload_6 dX5_lead_89 ?_
    refine V_aloadn_0 dX5_lead_91 ?_
    refine V_getR dX5_lead_92 fl_X5_21 (oT_wine ht) ?_
    refine V_iloadn_1 dX5_lead_95 ?_
    refine V_iconst 3 dX5_lead_96 (by decide) ?_
    refine V_imulN (a := a) (b := 3) dX5_lead_97 ?_
    refine V_iload_7 dX5_lead_98 ?_
    refine V_iaddN (a := a * 3) (b := 0) dX5_lead_100 ?_
    refine V_iald (j := (a * 3) + 0) dX5_lead_101 (aT_wine ht) (by omega) (by decide) ?_
    refine V_topi (y := nI (T 4 (a * 3 + 0))) (by (repeat rw [vup_ne (by omega)]); exact hT.k4 (by omega)) ?_
    refine V_aloadn_0 dX5_lead_102 ?_
    refine V_getR dX5_lead_103 fl_X5_46 (oT_share ht) ?_
    refine V_iload_7 dX5_lead_106 ?_
    refine V_iald (j := 0) dX5_lead_108 (aT_share ht) (by decide) (by decide) ?_
    refine V_topi (y := nI (shT T a n 0)) (by repeat (first | rw [vup_same] | rw [vup_ne (by omega)])) ?_
    refine V_isubN (a := T 4 (a * 3 + 0)) (b := shT T a n 0) dX5_lead_109 (by omega) ?_
    refine V_mminN (a := lkT T a n 0) (b := (T 4 (a * 3 + 0)) - (shT T a n 0)) dX5_lead_110 ml_X5_97 (Nat.le_of_ble_eq_true rfl) (by omega) (by omega) ?_
    refine V_istore_8 dX5_lead_113 (by first | exact rfl | exact True.intro) (by decide) ?_
    refine V_iload_6 dX5_lead_115 ?_
    refine V_iload_8 dX5_lead_117 ?_
    refine V_isubN (a := lkT T a n 0) (b := min (lkT T a n 0) ((T 4 (a * 3 + 0)) - (shT T a n 0))) dX5_lead_119 (by omega) ?_
    refine V_istore_6 dX5_lead_120 (by first | exact rfl | exact True.intro) (by decide) ?_
    refine V_lo (lo' := [some (.ref t), some (.int (nI a)), some (.int (nI n0)), some (.int (-2)), some (.int (nI (fullT T a))), some (.int (nI n)), some (.int (nI (lkT T a n 1))), some (.int 0), some (.int (nI (min (lkT T a n 0) ((T 4 (a * 3 + 0)) - (shT T a n 0)))))]) rfl ?_
    refine V_aloadn_0 dX5_lead_122 ?_
    refine V_getR dX5_lead_123 fl_X5_21 (oT_wine ht) ?_
    refine V_iloadn_1 dX5_lead_126 ?_
    refine V_iconst 3 dX5_lead_127 (by decide) ?_
    refine V_imulN (a := a) (b := 3) dX5_lead_128 ?_
    refine V_iload_7 dX5_lead_129 ?_
    refine V_iaddN (a := a * 3) (b := 0) dX5_lead_131 ?_
    refine V_dup2 dX5_lead_132 rfl rfl ?_
    refine V_iald (j := (a * 3) + 0) dX5_lead_133 (aT_wine ht) (by omega) (by decide) ?_
    refine V_topi (y := nI (T 4 (a * 3 + 0))) (by (repeat rw [vup_ne (by omega)]); exact hT.k4 (by omega)) ?_
    refine V_aloadn_0 dX5_lead_134 ?_
    refine V_getR dX5_lead_135 fl_X5_46 (oT_share ht) ?_
    refine V_iload_7 dX5_lead_138 ?_
    refine V_iald (j := 0) dX5_lead_140 (aT_share ht) (by decide) (by decide) ?_
    refine V_topi (y := nI (shT T a n 0)) (by repeat (first | rw [vup_same] | rw [vup_ne (by omega)])) ?_
    refine V_iload_8 dX5_lead_141 ?_
    refine V_iaddN (a := shT T a n 0) (b := min (lkT T a n 0) ((T 4 (a * 3 + 0)) - (shT T a n 0))) dX5_lead_143 ?_
    refine V_topi (y := nI (goT T a n 0)) rfl ?_
    refine V_isubN (a := T 4 (a * 3 + 0)) (b := goT T a n 0) dX5_lead_144 (go_le hnf) ?_
    refine V_iast (j := (a * 3) + 0) dX5_lead_145 (aT_wine ht) (by omega) (by decide) ?_
    refine V_iloadn_3 dX5_lead_146 ?_
    refine V_if_lt_t dX5_lead_147 174 (by decide) (by decide) ?_
    refine V_iinc_7 dX5_lead_174 (by first | exact rfl | exact True.intro) (by decide) 1 (by decide) ?_
    refine V_goto dX5_lead_177 83 (by decide) ?_
    refine V_iload_7 dX5_lead_83 ?_
    refine V_iconst 3 dX5_lead_85 (by decide) ?_
    refine V_icmp_ge_f dX5_lead_86 180 (by decide) (by decide) ?_
    refine V_iload_6 dX5_lead_89 ?_
    refine V_aloadn_0 dX5_lead_91 ?_
    refine V_getR dX5_lead_92 fl_X5_21 (oT_wine ht) ?_
    refine V_iloadn_1 dX5_lead_95 ?_
    refine V_iconst 3 dX5_lead_96 (by decide) ?_
    refine V_imulN (a := a) (b := 3) dX5_lead_97 ?_
    refine V_iload_7 dX5_lead_98 ?_
    refine V_iaddN (a := a * 3) (b := 1) dX5_lead_100 ?_
    refine V_iald (j := (a * 3) + 1) dX5_lead_101 (aT_wine ht) (by omega) (by decide) ?_
    refine V_topi (y := nI (T 4 (a * 3 + 1))) (by (repeat rw [vup_ne (by omega)]); exact hT.k4 (by omega)) ?_
    refine V_aloadn_0 dX5_lead_102 ?_
    refine V_getR dX5_lead_103 fl_X5_46 (oT_share ht) ?_
    refine V_iload_7 dX5_lead_106 ?_
    refine V_iald (j := 1) dX5_lead_108 (aT_share ht) (by decide) (by decide) ?_
    refine V_topi (y := nI (shT T a n 1)) (by repeat (first | rw [vup_same] | rw [vup_ne (by omega)])) ?_
    refine V_isubN (a := T 4 (a * 3 + 1)) (b := shT T a n 1) dX5_lead_109 (by omega) ?_
    refine V_mminN (a := lkT T a n 1) (b := (T 4 (a * 3 + 1)) - (shT T a n 1)) dX5_lead_110 ml_X5_97 (Nat.le_of_ble_eq_true rfl) (by omega) (by omega) ?_
    refine V_istore_8 dX5_lead_113 (by first | exact rfl | exact True.intro) (by decide) ?_
    refine V_iload_6 dX5_lead_115 ?_
    refine V_iload_8 dX5_lead_117 ?_
    refine V_isubN (a := lkT T a n 1) (b := min (lkT T a n 1) ((T 4 (a * 3 + 1)) - (shT T a n 1))) dX5_lead_119 (by omega) ?_
    refine V_istore_6 dX5_lead_120 (by first | exact rfl | exact True.intro) (by decide) ?_
    refine V_lo (lo' := [some (.ref t), some (.int (nI a)), some (.int (nI n0)), some (.int (-2)), some (.int (nI (fullT T a))), some (.int (nI n)), some (.int (nI (lkT T a n 2))), some (.int 1), some (.int (nI (min (lkT T a n 1) ((T 4 (a * 3 + 1)) - (shT T a n 1)))))]) rfl ?_
    refine V_aloadn_0 dX5_lead_122 ?_
    refine V_getR dX5_lead_123 fl_X5_21 (oT_wine ht) ?_
    refine V_iloadn_1 dX5_lead_126 ?_
    refine V_iconst 3 dX5_lead_127 (by decide) ?_
    refine V_imulN (a := a) (b := 3) dX5_lead_128 ?_
    refine V_iload_7 dX5_lead_129 ?_
    refine V_iaddN (a := a * 3) (b := 1) dX5_lead_131 ?_
    refine V_dup2 dX5_lead_132 rfl rfl ?_
    refine V_iald (j := (a * 3) + 1) dX5_lead_133 (aT_wine ht) (by omega) (by decide) ?_
    refine V_topi (y := nI (T 4 (a * 3 + 1))) (by (repeat rw [vup_ne (by omega)]); exact hT.k4 (by omega)) ?_
    refine V_aloadn_0 dX5_lead_134 ?_
    refine V_getR dX5_lead_135 fl_X5_46 (oT_share ht) ?_
    refine V_iload_7 dX5_lead_138 ?_
    refine V_iald (j := 1) dX5_lead_140 (aT_share ht) (by decide) (by decide) ?_
    refine V_topi (y := nI (shT T a n 1)) (by repeat (first | rw [vup_same] | rw [vup_ne (by omega)])) ?_
    refine V_iload_8 dX5_lead_141 ?_
    refine V_iaddN (a := shT T a n 1) (b := min (lkT T a n 1) ((T 4 (a * 3 + 1)) - (shT T a n 1))) dX5_lead_143 ?_
    refine V_topi (y := nI (goT T a n 1)) rfl ?_
    refine V_isubN (a := T 4 (a * 3 + 1)) (b := goT T a n 1) dX5_lead_144 (go_le hnf) ?_
    refine V_iast (j := (a * 3) + 1) dX5_lead_145 (aT_wine ht) (by omega) (by decide) ?_
    refine V_iloadn_3 dX5_lead_146 ?_
    refine V_if_lt_t dX5_lead_147 174 (by decide) (by decide) ?_
    refine V_iinc_7 dX5_lead_174 (by first | exact rfl | exact True.intro) (by decide) 2 (by decide) ?_
    refine V_goto dX5_lead_177 83 (by decide) ?_
    refine V_iload_7 dX5_lead_83 ?_
    refine V_iconst 3 dX5_lead_85 (by decide) ?_
    refine V_icmp_ge_f dX5_lead_86 180 (by decide) (by decide) ?_
    refine V_iload_6 dX5_lead_89 ?_
    refine V_aloadn_0 dX5_lead_91 ?_
    refine V_getR dX5_lead_92 fl_X5_21 (oT_wine ht) ?_
    refine V_iloadn_1 dX5_lead_95 ?_
    refine V_iconst 3 dX5_lead_96 (by decide) ?_
    refine V_imulN (a := a) (b := 3) dX5_lead_97 ?_
    refine V_iload_7 dX5_lead_98 ?_
    refine V_iaddN (a := a * 3) (b := 2) dX5_lead_100 ?_
    refine V_iald (j := (a * 3) + 2) dX5_lead_101 (aT_wine ht) (by omega) (by decide) ?_
    refine V_topi (y := nI (T 4 (a * 3 + 2))) (by (repeat rw [vup_ne (by omega)]); exact hT.k4 (by omega)) ?_
    refine V_aloadn_0 dX5_lead_102 ?_
    refine V_getR dX5_lead_103 fl_X5_46 (oT_share ht) ?_
    refine V_iload_7 dX5_lead_106 ?_
    refine V_iald (j := 2) dX5_lead_108 (aT_share ht) (by decide) (by decide) ?_
    refine V_topi (y := nI (shT T a n 2)) (by repeat (first | rw [vup_same] | rw [vup_ne (by omega)])) ?_
    refine V_isubN (a := T 4 (a * 3 + 2)) (b := shT T a n 2) dX5_lead_109 (by omega) ?_
    refine V_mminN (a := lkT T a n 2) (b := (T 4 (a * 3 + 2)) - (shT T a n 2)) dX5_lead_110 ml_X5_97 (Nat.le_of_ble_eq_true rfl) (by omega) (by omega) ?_
    refine V_istore_8 dX5_lead_113 (by first | exact rfl | exact True.intro) (by decide) ?_
    refine V_iload_6 dX5_lead_115 ?_
    refine V_iload_8 dX5_lead_117 ?_
    refine V_isubN (a := lkT T a n 2) (b := min (lkT T a n 2) ((T 4 (a * 3 + 2)) - (shT T a n 2))) dX5_lead_119 (by omega) ?_
    refine V_istore_6 dX5_lead_120 (by first | exact rfl | exact True.intro) (by decide) ?_
    refine V_lo (lo' := [some (.ref t), some (.int (nI a)), some (.int (nI n0)), some (.int (-2)), some (.int (nI (fullT T a))), some (.int (nI n)), some (.int (nI (lkT T a n 3))), some (.int 2), some (.int (nI (min (lkT T a n 2) ((T 4 (a * 3 + 2)) - (shT T a n 2)))))]) rfl ?_
    refine V_aloadn_0 dX5_lead_122 ?_
    refine V_getR dX5_lead_123 fl_X5_21 (oT_wine ht) ?_
    refine V_iloadn_1 dX5_lead_126 ?_
    refine V_iconst 3 dX5_lead_127 (by decide) ?_
    refine V_imulN (a := a) (b := 3) dX5_lead_128 ?_
    refine V_iload_7 dX5_lead_129 ?_
    refine V_iaddN (a := a * 3) (b := 2) dX5_lead_131 ?_
    refine V_dup2 dX5_lead_132 rfl rfl ?_
    refine V_iald (j := (a * 3) + 2) dX5_lead_133 (aT_wine ht) (by omega) (by decide) ?_
    refine V_topi (y := nI (T 4 (a * 3 + 2))) (by (repeat rw [vup_ne (by omega)]); exact hT.k4 (by omega)) ?_
    refine V_aloadn_0 dX5_lead_134 ?_
    refine V_getR dX5_lead_135 fl_X5_46 (oT_share ht) ?_
    refine V_iload_7 dX5_lead_138 ?_
    refine V_iald (j := 2) dX5_lead_140 (aT_share ht) (by decide) (by decide) ?_
    refine V_topi (y := nI (shT T a n 2)) (by repeat (first | rw [vup_same] | rw [vup_ne (by omega)])) ?_
    refine V_iload_8 dX5_lead_141 ?_
    refine V_iaddN (a := shT T a n 2) (b := min (lkT T a n 2) ((T 4 (a * 3 + 2)) - (shT T a n 2))) dX5_lead_143 ?_
    refine V_topi (y := nI (goT T a n 2)) rfl ?_
    refine V_isubN (a := T 4 (a * 3 + 2)) (b := goT T a n 2) dX5_lead_144 (go_le hnf) ?_
    refine V_iast (j := (a * 3) + 2) dX5_lead_145 (aT_wine ht) (by omega) (by decide) ?_
    refine V_iloadn_3 dX5_lead_146 ?_
    refine V_if_lt_t dX5_lead_147 174 (by decide) (by decide) ?_
    refine V_iinc_7 dX5_lead_174 (by first | exact rfl | exact True.intro) (by decide) 3 (by decide) ?_
    refine V_goto dX5_lead_177 83 (by decide) ?_
    refine V_iload_7 dX5_lead_83 ?_
    refine V_iconst 3 dX5_lead_85 (by decide) ?_
    refine V_icmp_ge_t dX5_lead_86 180 (by decide) (by decide) ?_
    refine V_abs (fun σ1 => TA0 t (drainT T a n) σ1 ∧ ∀ q, q ≠ t + 4 → q ≠ t + 11 → σ1 q = σ q) ⟨wine_TA0 hT ?_ ?_ (fun k i h => drain_k h), ?_⟩ (fun σ1 h1 => ?_)
    · exact fun q g1 g2 => by repeat (first | rw [vup_p g1] | rw [vup_p g2])
    · intro i hi
      by_cases e0 : i = a * 3 + 0
      · subst e0
        rw [drain_at (by decide)]
        repeat (first | rw [vup_same] | rw [vup_ne (by omega)])
      by_cases e1 : i = a * 3 + 1
      · subst e1
        rw [drain_at (by decide)]
        repeat (first | rw [vup_same] | rw [vup_ne (by omega)])
      by_cases e2 : i = a * 3 + 2
      · subst e2
        rw [drain_at (by decide)]
        repeat (first | rw [vup_same] | rw [vup_ne (by omega)])
      rw [drain_off (by omega)]
      repeat rw [vup_ne (by omega)]
      exact hT.k4 hi
    · exact fun q g1 g2 => by repeat (first | rw [vup_p g1] | rw [vup_p g2])
    have hI1 : TI (drainT T a n) := hI.drain ha hnf
    have e15 : (drainT T a n) 0 15 = T 0 15 := drain_k (by decide)
    have e05 : (drainT T a n) 0 5 = T 0 5 := drain_k (by decide)
    have hg := ht.ge
    have hC1 : TC0 L N t (drainT T a n) σ1 := ⟨ht, h1.1, hI1, hL.congr hN2 (fun q _ _ => h1.2 q (by omega) (by omega)), hLI, by rw [e15]; exact hN, hN2⟩
    refine V_aloadn_0 dX5_lead_180 ?_
    refine V_iloadn_1 dX5_lead_181 ?_
    refine V_cv1n dX5_lead_182 cv_X5_86 (rcT ht) (Nat.le_of_ble_eq_true rfl) (k_T_refresh (by omega) hC1 (by rw [e05]; exact ha)) (fun σ2 h2 => ?_)
    refine V_iloadn_3 dX5_lead_185 ?_
    refine V_if_lt_t dX5_lead_186 197 (by decide) (by decide) ?_
    refine V_iloadn_3 dX5_lead_197 ?_
    refine V_iconst (-1) dX5_lead_198 (by decide) ?_
    refine V_icmp_ne_t dX5_lead_199 213 (by decide) (by decide) ?_
    have hF1 : Fr t σ σ1 := fun q a b => h1.2 q (by omega) (by omega)
    have hF : Fr t σ σ2 := hF1.tr h2.fr
    refine V_abs (fun s => s = σ2) rfl (fun σ4 e4 => ?_)
    subst e4
    have hA : TA L t (drainT T a n) σ4 := ⟨h2.T0 ht h1.1, wine_TH (a := a) hH.2 (fun k i h => drain_k h) (fun c => c = a) (fun c s hc g hs => drain_off (by omega)) (fun c g => by rw [h2.2 (t + 5) c (by omega) (by omega), h1.2 (t + 5) (by omega) (by omega)]) (fun c hc g => by rw [g]; exact h2.1)⟩
    exact V_vret dX5_lead_213 ⟨rfl, hC.next hF hA hI1 e15, hF⟩
  · exact V_vret dX5_lead_20 ⟨rfl, by rw [h17, drain_zero]; exact ⟨hC, Fr.rf⟩⟩
