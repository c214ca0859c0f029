set_option maxRecDepth 100000 in
set_option maxHeartbeats 4000000 in
theorem t_mtext_F18 {G : vG} {d : Nat} {Q : Option Value → vS → Prop} {σ : vS} (hd : 6 ≤ d + 1) {f : Nat} (h10 : σ 97 10 = nI f) (kont : Q (some (.int (-100 - nI f))) (vup σ 97 8 0)) : V G RX7 cX7_text (some .int) 4 (d + 1) Q 18 [some (.ref 97), none, none, none] [.int 0] σ := by
  refine V_if_eq_t dX7_text_18 32 (by decide) (by decide) ?_
  refine V_iconst 0 dX7_text_32 (by decide) ?_
  refine V_istoren_1 dX7_text_33 (by first | exact rfl | exact True.intro) (by decide) ?_
  refine V_aloadn_0 dX7_text_34 ?_
  refine V_iconst 0 dX7_text_35 (by decide) ?_
  refine V_putI dX7_text_36 fp_X7_203 oM_taped ?_
  refine V_iloadn_1 dX7_text_39 ?_
  refine V_if_ne_f dX7_text_40 51 (by decide) (by decide) ?_
  refine V_bipush (-100) dX7_text_43 (by decide) ?_
  refine V_aloadn_0 dX7_text_45 ?_
  refine V_getI dX7_text_46 fl_X7_210 oM_from ?_
  refine V_topi (y := nI f) (by rw [vup_ne (by omega)]; exact h10) ?_
  refine V_isub dX7_text_49 ?_
  exact V_iret dX7_text_50 (kont)

set_option maxRecDepth 100000 in
set_option maxHeartbeats 4000000 in
theorem t_mtext_F25 {G : vG} {d : Nat} {Q : Option Value → vS → Prop} {σ : vS} (hd : 6 ≤ d + 1) {f : Nat} (h10 : σ 97 10 = nI f) (kont : Q (some (.int (-100 - nI f))) (vup σ 97 8 0)) : V G RX7 cX7_text (some .int) 4 (d + 1) Q 25 [some (.ref 97), none, none, none] [.int 0] σ := by
  refine V_if_eq_t dX7_text_25 32 (by decide) (by decide) ?_
  refine V_iconst 0 dX7_text_32 (by decide) ?_
  refine V_istoren_1 dX7_text_33 (by first | exact rfl | exact True.intro) (by decide) ?_
  refine V_aloadn_0 dX7_text_34 ?_
  refine V_iconst 0 dX7_text_35 (by decide) ?_
  refine V_putI dX7_text_36 fp_X7_203 oM_taped ?_
  refine V_iloadn_1 dX7_text_39 ?_
  refine V_if_ne_f dX7_text_40 51 (by decide) (by decide) ?_
  refine V_bipush (-100) dX7_text_43 (by decide) ?_
  refine V_aloadn_0 dX7_text_45 ?_
  refine V_getI dX7_text_46 fl_X7_210 oM_from ?_
  refine V_topi (y := nI f) (by rw [vup_ne (by omega)]; exact h10) ?_
  refine V_isub dX7_text_49 ?_
  exact V_iret dX7_text_50 (kont)

theorem MC.text {L T : nT} {σ σ' : vS} {ky : Nat} {c : List Nat} (h : MC L T σ) (hj : T 0 15 < 14) (hk : ky ≤ 2) (h96 : c.length ≤ 96) (hw : wfE (rwC c) c.length) (hn : ky ≠ 0 → ∀ i, i < c.length → rwC c i ≠ 10002)
    (a1 : σ' 98 (107 + 2 * T 0 15) = nI (1000 * ky + c.length)) (a2 : σ' 98 (107 + 2 * T 0 15 + 1) = nI (lvN c)) (a3 : ∀ i, i < c.length → σ' 98 (135 + 96 * T 0 15 + i) = encI (rwC c i)) (a4 : σ' 98 6 = nI (T 0 15 + 1))
    (a5 : ∀ x, x ≠ 6 → x ≠ 107 + 2 * T 0 15 → x ≠ 107 + 2 * T 0 15 + 1 → ¬ (135 + 96 * T 0 15 ≤ x ∧ x < 135 + 96 * T 0 15 + 96) → σ' 98 x = σ 98 x) : MC (Lup L (T 0 15) ky c) (addTT T ky) σ' := by
  obtain ⟨hA, hL, hI, hLI, hKI⟩ := h
  have hnc := hI.nc
  have hnp := hI.np
  refine ⟨?_, ?_, hI.addT hj, by rw [addT_15]; exact hLI.up hk h96 hw hn, ?_⟩
  · obtain ⟨b1, b2, b3⟩ := hA
    have e0 : ∀ x, x ≠ 15 → addTT T ky 0 x = T 0 x := fun x hx => addT_k (by omega) (by omega)
    have ek : ∀ a x, a ≠ 0 → a ≠ 10 → addTT T ky a x = T a x := fun a x h1 h2 => addT_k (by omega) (by omega)
    refine ⟨?_, fun b hb => ?_, fun p hp => ?_⟩
    · rw [e0 14 (by decide), e0 5 (by decide), e0 10 (by decide), e0 13 (by decide), e0 12 (by decide), e0 11 (by decide), addT_15, a5 0 (by omega) (by omega) (by omega) (by omega), a5 1 (by omega) (by omega) (by omega) (by omega), a5 2 (by omega) (by omega) (by omega) (by omega), a5 3 (by omega) (by omega) (by omega) (by omega), a5 4 (by omega) (by omega) (by omega) (by omega), a5 5 (by omega) (by omega) (by omega) (by omega)]
      exact ⟨b1.1, b1.2.1, b1.2.2.1, b1.2.2.2.1, b1.2.2.2.2.1, b1.2.2.2.2.2.1, a4⟩
    · rw [e0 5 (by decide)] at hb
      obtain ⟨g1, g2, g3, g4⟩ := b2 b hb
      rw [ek 1 b (by decide) (by decide), ek 2 b (by decide) (by decide), ek 3 b (by decide) (by decide), a5 _ (by omega) (by omega) (by omega) (by omega), a5 _ (by omega) (by omega) (by omega) (by omega), a5 _ (by omega) (by omega) (by omega) (by omega)]
      exact ⟨g1, g2, g3, fun s hs => by rw [ek 4 _ (by decide) (by decide), a5 _ (by omega) (by omega) (by omega) (by omega)]; exact g4 s hs⟩
    · rw [e0 10 (by decide)] at hp
      rw [ek 6 p (by decide) (by decide), ek 7 p (by decide) (by decide), ek 8 p (by decide) (by decide), ek 9 p (by decide) (by decide), a5 _ (by omega) (by omega) (by omega) (by omega), a5 _ (by omega) (by omega) (by omega) (by omega), a5 _ (by omega) (by omega) (by omega) (by omega), a5 _ (by omega) (by omega) (by omega) (by omega)]
      exact b3 p hp
  · rw [addT_15]
    intro a ha
    by_cases e : a = T 0 15
    · subst e
      rw [Lup_0, Lup_1, Lup_2]
      exact ⟨a1, a2, fun i hi => by rw [Lup_r]; exact a3 i hi⟩
    · obtain ⟨g1, g2, g3⟩ := hL a (by omega)
      have h96' := (hLI a (by omega)).2.2.1
      rw [Lup_ne e, Lup_ne e, Lup_ne e]
      exact ⟨by rw [a5 _ (by omega) (by omega) (by omega) (by omega)]; exact g1, by rw [a5 _ (by omega) (by omega) (by omega) (by omega)]; exact g2, fun i hi => by rw [Lup_ne e, a5 _ (by omega) (by omega) (by omega) (by omega)]; exact g3 i hi⟩
  · intro k hk3
    obtain ⟨g1, g2, g3⟩ := hKI k hk3
    rw [addT_15]
    by_cases e : k = ky
    · subst e
      rw [addT_key]
      exact ⟨Nat.le_refl _, fun _ => by rw [show T 0 15 + 1 - 1 = T 0 15 by omega]; exact Lup_0, fun j h1 h2 => by omega⟩
    · rw [addT_k (by omega) (by omega)]
      refine ⟨by omega, fun q => ?_, fun j h1 h2 => ?_⟩
      · rw [Lup_ne (by omega)]; exact g2 q
      · by_cases ej : j = T 0 15
        · rw [ej, Lup_0]; exact fun q => e q.symm
        · rw [Lup_ne ej]; exact g3 j h1 (by omega)

set_option maxRecDepth 100000 in
set_option maxHeartbeats 4000000 in
theorem lp_mtext {G : vG} {d : Nat} {Q : Option Value → vS → Prop} {σ0 : vS} {T : nT} {c : List Nat} (hj : T 0 15 < 14) (h96 : c.length ≤ 96) (h18 : σ0 97 18 = nI c.length) (h107 : ∀ i, i < c.length → σ0 107 i = encI (rwC c i)) (h6 : σ0 98 6 = nI (T 0 15))
    (kont : ∀ σ, (∀ q, q ≠ 98 → σ q = σ0 q) → (∀ x, ¬ (135 + 96 * T 0 15 ≤ x ∧ x < 135 + 96 * T 0 15 + c.length) → σ 98 x = σ0 98 x) → (∀ i, i < c.length → σ 98 (135 + 96 * T 0 15 + i) = encI (rwC c i)) → Q (some (.int (nI (T 0 15)))) (vup σ 98 6 (nI (T 0 15 + 1)))) : ∀ (k : Nat) (i : Nat) (σ : vS), ((∀ q, q ≠ 98 → σ q = σ0 q) ∧ (∀ x, ¬ (135 + 96 * T 0 15 ≤ x ∧ x < 135 + 96 * T 0 15 + i) → σ 98 x = σ0 98 x) ∧ (∀ x, x < i → σ 98 (135 + 96 * T 0 15 + x) = encI (rwC c x)) ∧ i ≤ c.length) → c.length - i < k → V G RX7 cX7_text (some .int) 4 d Q 117 [some (.ref 97), some (.int 1), some (.int (nI (T 0 15))), some (.int (nI i))] [] σ := by
  intro k
  induction k with
  | zero => intros; omega
  | succ k ih =>
    intro i σ hh hk
    obtain ⟨hq, hx, hc, hi⟩ := hh
    refine V_iloadn_3 dX7_text_117 ?_
    refine V_aloadn_0 dX7_text_118 ?_
    refine V_getI dX7_text_119 fl_X7_240 oM_codes ?_
    refine V_topi (y := nI c.length) (by rw [hq 97 (by decide)]; exact h18) ?_
    refine V_icmpN_ge (a := i) (b := c.length) dX7_text_122 152 (by decide) (by omega) (by omega) (fun h122 => ?_) (fun h122 => ?_)
    · refine V_aloadn_0 dX7_text_152 ?_
      refine V_getR dX7_text_153 fl_X7_9 oM_now ?_
      refine V_bipush 6 dX7_text_156 (by decide) ?_
      refine V_dup2 dX7_text_158 rfl rfl ?_
      refine V_iald (j := 6) dX7_text_159 aM_now (by decide) (by decide) ?_
      refine V_topi (y := nI (T 0 15)) (by rw [hx 6 (by omega)]; exact h6) ?_
      refine V_iconst 1 dX7_text_160 (by decide) ?_
      refine V_iaddN (a := T 0 15) (b := 1) dX7_text_161 ?_
      refine V_iast (j := 6) dX7_text_162 aM_now (by decide) (by decide) ?_
      refine V_iloadn_2 dX7_text_163 ?_
      exact V_iret dX7_text_164 (kont σ hq (fun x a => hx x (by omega)) (fun x a => hc x (by omega)))
    · refine V_aloadn_0 dX7_text_125 ?_
      refine V_getR dX7_text_126 fl_X7_9 oM_now ?_
      refine V_sipush 135 dX7_text_129 (by decide) ?_
      refine V_bipush 96 dX7_text_132 (by decide) ?_
      refine V_iloadn_2 dX7_text_134 ?_
      refine V_imulN (a := 96) (b := T 0 15) dX7_text_135 ?_
      refine V_iaddN (a := 135) (b := 96 * (T 0 15)) dX7_text_136 ?_
      refine V_iloadn_3 dX7_text_137 ?_
      refine V_iaddN (a := 135 + (96 * (T 0 15))) (b := i) dX7_text_138 ?_
      refine V_aloadn_0 dX7_text_139 ?_
      refine V_getR dX7_text_140 fl_X7_38 oM_code ?_
      refine V_iloadn_3 dX7_text_143 ?_
      refine V_iald (j := i) dX7_text_144 aM_code (by omega) (by decide) ?_
      refine V_topi (y := encI (rwC c i)) (by rw [hq 107 (by decide)]; exact h107 i h122) ?_
      refine V_iast (j := (135 + (96 * (T 0 15))) + i) dX7_text_145 aM_now (by omega) (by decide) ?_
      refine V_iinc_3 dX7_text_146 (by first | exact rfl | exact True.intro) (by decide) (nI (i + 1)) (nI_inc _) ?_
      refine V_goto dX7_text_149 117 (by decide) ?_
      refine ih (i + 1) _ ⟨fun q a => by rw [vup_p a]; exact hq q a, fun x a => by rw [vup_ne (by omega)]; exact hx x (by omega), fun x a => ?_, by omega⟩ (by omega)
      by_cases e : x = i
      · rw [e, vup_same]
      · rw [vup_ne (by omega)]; exact hc x (by omega)

set_option maxRecDepth 100000 in
set_option maxHeartbeats 4000000 in
theorem t_mtext_O {G : vG} {d : Nat} {Q : Option Value → vS → Prop} {σ : vS} (hd : 6 ≤ d + 1) {L T : nT} {ky : Nat} {c w : List Nat} (hC : MC L T σ) (hW : CW c w σ) (h19 : σ 97 19 = nI (lvN c)) (h14 : σ 97 14 = nI ky) (hk : ky ≤ 2) (h96 : c.length ≤ 96) (hwf : wfE (rwC c) c.length) (hn : ky ≠ 0 → ∀ i, i < c.length → rwC c i ≠ 10002)
    (k1 : T 0 15 = 14 → Q (some (.int (-1000000003))) (vup σ 97 8 0))
    (k2 : T 0 15 < 14 → ∀ σ', (∀ q, q ≠ 97 → q ≠ 98 → σ' q = σ q) → (∀ j, j ≠ 8 → σ' 97 j = σ 97 j) → σ' 97 8 = nI 0 → MC (Lup L (T 0 15) ky c) (addTT T ky) σ' → Q (some (.int (nI (T 0 15)))) σ') : V G RX7 cX7_text (some .int) 4 (d + 1) Q 25 [some (.ref 97), none, none, none] [.int 1] σ := by
  have hI := hC.2.2.1
  have hx := hI.tx
  have hlv := lv_le (c := c)
  have hC1 : MC L T (vup σ 97 8 0) := hC.e98 (vup_p (by decide))
  refine V_if_eq_f dX7_text_25 32 (by decide) (by decide) ?_
  refine V_iconst 1 dX7_text_28 (by decide) ?_
  refine V_goto dX7_text_29 33 (by decide) ?_
  refine V_istoren_1 dX7_text_33 (by first | exact rfl | exact True.intro) (by decide) ?_
  refine V_aloadn_0 dX7_text_34 ?_
  refine V_iconst 0 dX7_text_35 (by decide) ?_
  refine V_putI dX7_text_36 fp_X7_203 oM_taped ?_
  refine V_iloadn_1 dX7_text_39 ?_
  refine V_if_ne_t dX7_text_40 51 (by decide) (by decide) ?_
  refine V_aloadn_0 dX7_text_51 ?_
  refine V_getR dX7_text_52 fl_X7_9 oM_now ?_
  refine V_bipush 6 dX7_text_55 (by decide) ?_
  refine V_iald (j := 6) dX7_text_57 aM_now (by decide) (by decide) ?_
  refine V_topi hC1.1.s6 ?_
  refine V_bipush 14 dX7_text_58 (by decide) ?_
  refine V_icmpN_ne (a := T 0 15) (b := 14) dX7_text_60 66 (by decide) (by omega) (by omega) (fun h60 => ?_) (fun h60 => ?_)
  · refine V_aloadn_0 dX7_text_66 ?_
    refine V_getR dX7_text_67 fl_X7_9 oM_now ?_
    refine V_bipush 6 dX7_text_70 (by decide) ?_
    refine V_iald (j := 6) dX7_text_72 aM_now (by decide) (by decide) ?_
    refine V_topi hC1.1.s6 ?_
    refine V_istoren_2 dX7_text_73 (by first | exact rfl | exact True.intro) (by decide) ?_
    refine V_aloadn_0 dX7_text_74 ?_
    refine V_getR dX7_text_75 fl_X7_9 oM_now ?_
    refine V_bipush 107 dX7_text_78 (by decide) ?_
    refine V_iconst 2 dX7_text_80 (by decide) ?_
    refine V_iloadn_2 dX7_text_81 ?_
    refine V_imulN (a := 2) (b := T 0 15) dX7_text_82 ?_
    refine V_iaddN (a := 107) (b := 2 * (T 0 15)) dX7_text_83 ?_
    refine V_sipush 1000 dX7_text_84 (by decide) ?_
    refine V_aloadn_0 dX7_text_87 ?_
    refine V_getI dX7_text_88 fl_X7_228 oM_key ?_
    refine V_topi (y := nI ky) (by rw [vup_ne (by omega)]; exact h14) ?_
    refine V_imulN (a := 1000) (b := ky) dX7_text_91 ?_
    refine V_aloadn_0 dX7_text_92 ?_
    refine V_getI dX7_text_93 fl_X7_240 oM_codes ?_
    refine V_topi (y := nI c.length) (by rw [vup_ne (by omega)]; exact hW.1) ?_
    refine V_iaddN (a := 1000 * ky) (b := c.length) dX7_text_96 ?_
    refine V_iast (j := 107 + (2 * (T 0 15))) dX7_text_97 aM_now (by omega) (by decide) ?_
    refine V_aloadn_0 dX7_text_98 ?_
    refine V_getR dX7_text_99 fl_X7_9 oM_now ?_
    refine V_bipush 107 dX7_text_102 (by decide) ?_
    refine V_iconst 2 dX7_text_104 (by decide) ?_
    refine V_iloadn_2 dX7_text_105 ?_
    refine V_imulN (a := 2) (b := T 0 15) dX7_text_106 ?_
    refine V_iaddN (a := 107) (b := 2 * (T 0 15)) dX7_text_107 ?_
    refine V_iconst 1 dX7_text_108 (by decide) ?_
    refine V_iaddN (a := 107 + (2 * (T 0 15))) (b := 1) dX7_text_109 ?_
    refine V_aloadn_0 dX7_text_110 ?_
    refine V_getI dX7_text_111 fl_X7_246 oM_atoms ?_
    refine V_topi (y := nI (lvN c)) (by rw [vup_ne (by omega), vup_ne (by omega)]; exact h19) ?_
    refine V_iast (j := (107 + (2 * (T 0 15))) + 1) dX7_text_114 aM_now (by omega) (by decide) ?_
    refine V_iconst 0 dX7_text_115 (by decide) ?_
    refine V_istoren_3 dX7_text_116 (by first | exact rfl | exact True.intro) (by decide) ?_
    refine lp_mtext (σ0 := (vup (vup (vup σ 97 8 0) 98 (107 + 2 * T 0 15) (nI (1000 * ky + c.length))) 98 (107 + 2 * T 0 15 + 1) (nI (lvN c)))) (by omega) h96 (by rw [vup_ne (by omega), vup_ne (by omega), vup_ne (by omega)]; exact hW.1) (fun i hi => by rw [vup_p (by decide), vup_p (by decide), vup_p (by decide)]; exact hW.2.2.1 i hi) (by rw [vup_ne (by omega), vup_ne (by omega)]; exact hC1.1.s6) (fun σ' e1 e2 e3 => ?_) (c.length + 1) 0 _ ⟨fun _ _ => rfl, fun _ _ => rfl, fun x hx => absurd hx (Nat.not_lt_zero x), by omega⟩ (by omega)
    refine k2 (by omega) _ (fun q a b => by rw [vup_p b, e1 q b, vup_p b, vup_p b, vup_p a]) (fun j a => by rw [vup_ne (by omega), e1 97 (by decide), vup_ne (by omega), vup_ne (by omega), vup_ne (by omega)]) (by rw [vup_ne (by omega), e1 97 (by decide), vup_ne (by omega), vup_ne (by omega), vup_same]; rfl) ?_
    refine hC.text (by omega) hk h96 hwf hn ?_ ?_ (fun i hi => ?_) vup_same (fun x a b c d => ?_)
    · rw [vup_ne (by omega), e2 _ (by omega), vup_ne (by omega), vup_same]
    · rw [vup_ne (by omega), e2 _ (by omega), vup_same]
    · rw [vup_ne (by omega)]; exact e3 i hi
    · rw [vup_ne (by omega), e2 _ (by omega), vup_ne (by omega), vup_ne (by omega), vup_ne (by omega)]
  · refine V_ldc (-1000000003) dX7_text_63 cn_X7_87 ?_
    exact V_iret dX7_text_65 (k1 h60)

/-- cells that the reference's reading writes -/
def FY (σ σ' : vS) : Prop := (∀ q, q ≠ 97 → q ≠ 107 → q ≠ 108 → q ≠ 109 → σ' q = σ q) ∧ ∀ j, j < 8 ∨ 22 ≤ j → σ' 97 j = σ 97 j
theorem FG.y {σ σ' : vS} (h : FG σ σ') : FY σ σ' := ⟨fun q a _ _ _ => h.1 q a, fun j a => h.2 j (by omega)⟩
theorem FK.y {σ σ' : vS} (h : FK σ σ') : FY σ σ' := ⟨fun q a _ _ _ => h.1 q a, fun j a => h.2 j (by omega)⟩
theorem FX.y {σ σ' : vS} (h : FX σ σ') : FY σ σ' := ⟨h.1, fun j a => h.2 j (by omega) (by omega) (by omega) (by omega)⟩
theorem FY.tr {σ σ1 σ2 : vS} (h1 : FY σ σ1) (h2 : FY σ1 σ2) : FY σ σ2 := ⟨fun q a b c d => (h2.1 q a b c d).trans (h1.1 q a b c d), fun j a => (h2.2 j a).trans (h1.2 j a)⟩
theorem FY.up {σ : vS} {j : Nat} {v : Int32} (h : 8 ≤ j ∧ j < 22) : FY σ (vup σ 97 j v) := ⟨fun q a _ _ _ => vup_p a, fun i a => vup_ne (by omega)⟩

theorem t_mtE {G : vG} {d : Nat} {Q : Option Value → vS → Prop} {σ : vS} (hd : 6 ≤ d + 1) {tp : Nat → Nat} {n : Nat} (hS : MS tp n (0 + 1) σ) (h14 : σ 97 14 = nI (kyN tp n)) (hk : kyN tp n < 3) {y : syC} (hy : y.1 = 2 ∨ y.1 = 3) (hg : Go (tkN tp n (kyN tp n)) (0, 0 + 1, [], [], [false]) y)
    (kont : ∀ r σ', EQ tp n σ y r σ' → V G RX7 cX7_text (some .int) 4 (d + 1) Q 25 [some (.ref 97), none, none, none] r.toList σ') : V G RX7 cX7_text (some .int) 4 (d + 1) Q 18 [some (.ref 97), none, none, none] [.int 1] σ := by
  refine V_if_eq_f dX7_text_18 32 (by decide) (by decide) ?_
  refine V_aloadn_0 dX7_text_21 ?_
  refine V_cv0 dX7_text_22 cv_X7_265 rcM (Nat.le_of_ble_eq_true rfl) (k_M_takesE (by omega) hS h14 (by omega) (kw_F hk) hy hg) (fun r σ' h => ?_)
  rw [List.append_nil]
  exact kont r σ' h

set_option maxRecDepth 100000 in
set_option maxHeartbeats 4000000 in
theorem m_text_F {G : vG} {σ : vS} {d : Nat} (hd : 6 ≤ d) {tp : Nat → Nat} {n : Nat} (hT : MT tp n σ) (hK : IK σ) {f : Nat} (hp : ParF tp n f) : Cr G yX7_text cX7_text 4 (some .int) d [.ref 97] σ (some (.int (-100 - nI f))) (fun σ' => FY σ σ' ∧ σ' 97 8 = nI 0) := by
  refine Ct.ofV (by decide) (Nat.le_of_ble_eq_true rfl) rfl ?_
  show V G RX7 cX7_text (some .int) 4 d _ 0 [some (.ref 97), none, none, none] [] _
  obtain ⟨d, rfl⟩ : ∃ e, d = e + 1 := ⟨d - 1, by omega⟩
  refine V_aloadn_0 dX7_text_0 ?_
  refine V_iconst 0 dX7_text_1 (by decide) ?_
  refine V_putI dX7_text_2 fp_X7_207 oM_next ?_
  refine V_aloadn_0 dX7_text_5 ?_
  refine V_iconst (-1) dX7_text_6 (by decide) ?_
  refine V_putI dX7_text_7 fp_X7_213 oM_ended ?_
  refine V_aloadn_0 dX7_text_10 ?_
  refine V_cv0n dX7_text_11 cv_X7_231 rcM (Nat.le_of_ble_eq_true rfl) (k_M_go (tp := tp) (n := n) (k := 0) (by omega) (hT.of (by rw [vup_ne (by omega), vup_ne (by omega)]) (by rw [vup_p (by decide), vup_p (by decide)])) (by rw [vup_ne (by omega), vup_same]; rfl) (by rw [vup_same]; rfl)) (fun σ1 h1 => ?_)
  have y1 : FY σ σ1 := ((FY.up (by omega)).tr (FY.up (by omega))).tr h1.2.y
  have hK1 : IK σ1 := hK.fq (y1.1 105 (by decide) (by decide) (by decide) (by decide)) (y1.1 106 (by decide) (by decide) (by decide) (by decide))
  refine V_aloadn_0 dX7_text_14 ?_
  refine V_cv0 dX7_text_15 cv_X7_262 rcM (Nat.le_of_ble_eq_true rfl) (k_M_takesKey (tp := tp) (n := n) (by omega) h1.1 hK1) (fun r σ2 h2 => ?_)
  have fin : ∀ σ3, FY σ1 σ3 → FY σ (vup σ3 97 8 0) ∧ (vup σ3 97 8 0) 97 8 = nI 0 := fun σ3 h => ⟨(y1.tr h).tr (FY.up (by omega)), vup_same⟩
  rcases h2 with ⟨hk, rfl, hM, h14, hFK⟩ | ⟨hk, rfl, rfl⟩
  · rcases hp with ⟨q, -⟩ | ⟨-, k', c', w', t', hg, rfl⟩
    · omega
    · refine t_mtE (by omega) hM h14 hk (y := (2, k', c', w', t')) (Or.inl rfl) hg (fun r σ3 h3 => ?_)
      rcases h3 with ⟨-, rfl, e10, hx⟩ | ⟨q, -⟩
      · exact t_mtext_F25 (by omega) e10 ⟨rfl, fin σ3 (hFK.y.tr hx.y)⟩
      · exact absurd q (by show ¬ 2 = 3; decide)
  · rcases hp with ⟨-, rfl⟩ | ⟨q, -⟩
    · exact t_mtext_F18 (by omega) h1.1.2.1 ⟨rfl, fin σ2 ⟨fun _ _ _ _ _ => rfl, fun _ _ => rfl⟩⟩
    · omega

set_option maxRecDepth 100000 in
set_option maxHeartbeats 4000000 in
theorem m_text_O {G : vG} {σ : vS} {d : Nat} (hd : 6 ≤ d) {tp : Nat → Nat} {n : Nat} (hT : MT tp n σ) (hK : IK σ) {L T : nT} (hC : MC L T σ) {c : List Nat} (hp : ParO tp n c) (h96 : c.length ≤ 96) : Ct G yX7_text cX7_text 4 (some .int) d [.ref 97] σ (fun r σ' => (T 0 15 = 14 ∧ r = some (.int (-1000000003)) ∧ FY σ σ' ∧ σ' 97 8 = nI 0) ∨ (T 0 15 < 14 ∧ r = some (.int (nI (T 0 15))) ∧ MC (Lup L (T 0 15) (kyN tp n) c) (addTT T (kyN tp n)) σ' ∧ (∀ q, q ≠ 97 → q ≠ 98 → q ≠ 107 → q ≠ 108 → q ≠ 109 → σ' q = σ q) ∧ (∀ j, j < 8 ∨ 22 ≤ j → σ' 97 j = σ 97 j) ∧ σ' 97 8 = nI 0)) := by
  refine Ct.ofV (by decide) (Nat.le_of_ble_eq_true rfl) rfl ?_
  show V G RX7 cX7_text (some .int) 4 d _ 0 [some (.ref 97), none, none, none] [] _
  obtain ⟨d, rfl⟩ : ∃ e, d = e + 1 := ⟨d - 1, by omega⟩
  refine V_aloadn_0 dX7_text_0 ?_
  refine V_iconst 0 dX7_text_1 (by decide) ?_
  refine V_putI dX7_text_2 fp_X7_207 oM_next ?_
  refine V_aloadn_0 dX7_text_5 ?_
  refine V_iconst (-1) dX7_text_6 (by decide) ?_
  refine V_putI dX7_text_7 fp_X7_213 oM_ended ?_
  refine V_aloadn_0 dX7_text_10 ?_
  refine V_cv0n dX7_text_11 cv_X7_231 rcM (Nat.le_of_ble_eq_true rfl) (k_M_go (tp := tp) (n := n) (k := 0) (by omega) (hT.of (by rw [vup_ne (by omega), vup_ne (by omega)]) (by rw [vup_p (by decide), vup_p (by decide)])) (by rw [vup_ne (by omega), vup_same]; rfl) (by rw [vup_same]; rfl)) (fun σ1 h1 => ?_)
  have y1 : FY σ σ1 := ((FY.up (by omega)).tr (FY.up (by omega))).tr h1.2.y
  have hK1 : IK σ1 := hK.fq (y1.1 105 (by decide) (by decide) (by decide) (by decide)) (y1.1 106 (by decide) (by decide) (by decide) (by decide))
  refine V_aloadn_0 dX7_text_14 ?_
  refine V_cv0 dX7_text_15 cv_X7_262 rcM (Nat.le_of_ble_eq_true rfl) (k_M_takesKey (tp := tp) (n := n) (by omega) h1.1 hK1) (fun r σ2 h2 => ?_)
  have hwf := par_wf hp h96
  obtain ⟨hk3, k', w', t', hg⟩ := hp
  rcases h2 with ⟨hk, rfl, hM, h14, hFK⟩ | ⟨hk, -, -⟩
  · refine t_mtE (by omega) hM h14 hk (y := (3, k', c, w', t')) (Or.inr rfl) hg (fun r σ3 h3 => ?_)
    rcases h3 with ⟨q, -⟩ | ⟨-, rfl, hW, h19, hx⟩
    · exact absurd q (by show ¬ 3 = 2; decide)
    · have y3 : FY σ σ3 := (y1.tr hFK.y).tr hx.y
      refine t_mtext_O (by omega) (hC.e98 (y3.1 98 (by decide) (by decide) (by decide) (by decide))) hW h19 (by rw [hx.2 14 (by omega) (by omega) (by omega) (by omega)]; exact h14) (by omega) h96 hwf.1 hwf.2 (fun q => Or.inl ⟨q, rfl, y3.tr (FY.up (by omega)), vup_same⟩) (fun q σ' e1 e2 e3 e4 => Or.inr ⟨q, rfl, e4, fun p a b c d e => by rw [e1 p a b, y3.1 p a c d e], fun j a => by rw [e2 j (by omega), y3.2 j a], e3⟩)
  · omega

theorem Inv.txt {i : Nat} {σ σ1 σ2 : vS} (h : Inv i σ) (h1 : FT1 σ σ1) (h2 : FY σ1 σ2) (h8 : σ2 97 8 = nI 0) : Inv (i + 1) σ2 := by
  obtain ⟨L, T, I, b, g1, g2, g3, g4, g5, g6, g7, g8⟩ := id h
  have h3 : Inv i (vup (vup σ 1 0 0) 97 8 0) := by
    refine h.of0 (fun q _ _ _ _ _ _ _ => by rw [vup_p (by assumption), vup_p (by assumption)]) (by rw [vup_ne (by omega), vup_ne (by omega)]) (by rw [vup_ne (by omega), vup_ne (by omega)]) (g6.fq (by rw [vup_ne (by omega), vup_ne (by omega)]) (by rw [vup_ne (by omega), vup_ne (by omega)]) (by rw [vup_p (by decide), vup_p (by decide)]) (by rw [vup_p (by decide), vup_p (by decide)])) ?_
    exact ⟨0, by decide, by rw [vup_ne (by omega), vup_same]; rfl, by rw [vup_same]; rfl, fun j hj => absurd hj (Nat.not_lt_zero j)⟩
  refine h3.fi (fun q j hr => ?_)
  by_cases e1 : q = 1
  · subst e1
    have hj : j = 0 := by unfold relP at hr; omega
    subst hj
    rw [h2.1 1 (by decide) (by decide) (by decide) (by decide), h1.2, vup_ne (by omega), vup_same]
    rfl
  · by_cases e97 : q = 97
    · subst e97
      by_cases e8 : j = 8
      · subst e8
        rw [h8, vup_same]; rfl
      · have hj : j = 3 ∨ j = 34 := by unfold relP at hr; omega
        rw [h2.2 j (by omega), h1.1 97 (by decide) (by decide) (by decide), vup_ne (by omega), vup_ne (by omega)]
    · unfold relP at hr
      rw [h2.1 q e97 (by omega) (by omega) (by omega), h1.1 q e1 (by omega) (by omega), vup_p e97, vup_p e1]

set_option maxRecDepth 100000 in
set_option maxHeartbeats 4000000 in
theorem op_text {G : vG} {σ : vS} {d i : Nat} (hd : 100 ≤ d) (hi : i < 512) (h : Inv i σ) : Op G yX6_text cX6_text 3 yX7_text cX7_text 4 d [] i σ := by
  have hh := h
  obtain ⟨L, T, I, b, hT, hB, hM, hS, hO, hW, hR, hK⟩ := h
  have hC := hT.1
  have hE := hT.2.1
  have hI := hC.2.2.1
  have hn := hI.nc
  have hm := hI.np
  obtain ⟨n, n96, r1, r2, r3⟩ := id hR
  have htp : ∀ j, j < n → ∃ v, v < 256 ∧ σ 4 j = nI v ∧ σ 104 j = nI v ∧ (σ 4 j).toNatClampNeg = v := fun j hj => by
    obtain ⟨v, hv, e1, e2⟩ := r3 j hj
    exact ⟨v, hv, e1, e2, by rw [e1]; exact nI_clamp (by omega)⟩
  have hRT : RT (fun j => (σ 4 j).toNatClampNeg) n σ := ⟨r1, n96, fun j hj => by obtain ⟨v, hv, e1, e2, e3⟩ := htp j hj; show σ 4 j = nI ((σ 4 j).toNatClampNeg); rw [e3]; exact e1, fun j hj => by obtain ⟨v, hv, e1, e2, e3⟩ := htp j hj; show (σ 4 j).toNatClampNeg < 256; rw [e3]; exact hv⟩
  have hMT : MT (fun j => (σ 4 j).toNatClampNeg) n σ := ⟨r2, n96, fun j hj => by obtain ⟨v, hv, e1, e2, e3⟩ := htp j hj; show σ 104 j = nI ((σ 4 j).toNatClampNeg); rw [e3]; exact e2, hRT.2.2.2⟩
  generalize (fun j => (σ 4 j).toNatClampNeg) = tp at hRT hMT
  clear htp
  refine Ct.mono (fun r σ1 h1 => ?_) (c_text (by omega) hC hRT)
  rcases h1 with ⟨f, hp, hf, rfl, hf1⟩ | ⟨c, hp, h96, h14, rfl, hf1⟩ | ⟨c, hp, h96, h14, rfl, hC1, hf2⟩
  · refine ⟨_, rfl, Ct.mono (fun r' σ2 h2 => ⟨h2.1, hh.txt hf1 h2.2.1 h2.2.2⟩) (m_text_F (by omega) (hMT.of (by rw [hf1.1 97 (by decide) (by decide) (by decide)]) (hf1.1 104 (by decide) (by decide) (by decide))) (hK.fq (hf1.1 105 (by decide) (by decide) (by decide)) (hf1.1 106 (by decide) (by decide) (by decide))) hp)⟩
  · refine ⟨_, rfl, Ct.mono (fun r' σ2 h2 => ?_) (m_text_O (L := L) (T := T) (by omega) (hMT.of (by rw [hf1.1 97 (by decide) (by decide) (by decide)]) (hf1.1 104 (by decide) (by decide) (by decide))) (hK.fq (hf1.1 105 (by decide) (by decide) (by decide)) (hf1.1 106 (by decide) (by decide) (by decide))) (hE.e98 (hf1.1 98 (by decide) (by decide) (by decide))) hp h96)⟩
    rcases h2 with ⟨-, rfl, y1, y2⟩ | ⟨q, -⟩
    · exact ⟨rfl, hh.txt hf1 y1 y2⟩
    · omega
  · have ea : ∀ q, 72 < q → σ1 q = σ q := fun q a => hf2.1 q (by omega) (by omega) (by omega) (by omega) (by omega) (by omega) (by omega)
    refine ⟨_, rfl, Ct.mono (fun r' σ2 h2 => ?_) (m_text_O (L := L) (T := T) (by omega) (hMT.of (by rw [ea 97 (by omega)]) (ea 104 (by omega))) (hK.fq (ea 105 (by omega)) (ea 106 (by omega))) (hE.e98 (ea 98 (by omega))) hp h96)⟩
    rcases h2 with ⟨q, -⟩ | ⟨-, rfl, hM2, y1, y2, y3⟩
    · omega
    · refine ⟨rfl, ?_⟩
      have e : ∀ q, q ≠ 1 → q ≠ 2 → q ≠ 3 → q ≠ 60 → ¬ (61 ≤ q ∧ q ≤ 72) → ¬ (9 ≤ q ∧ q ≤ 36) → q ≠ 97 → q ≠ 98 → q ≠ 107 → q ≠ 108 → q ≠ 109 → σ2 q = σ q := fun q a1 a2 a3 a4 a5 a6 b1 b2 b3 b4 b5 => by rw [y1 q b1 b2 b3 b4 b5, hf2.1 q a1 a2 a3 a4 a5 (by omega) (by omega)]
      have hC2 : TC (Lup L (T 0 15) (kyN tp n) c) (T 0 15 + 1) 61 (addTT T (kyN tp n)) σ2 := hC1.fq (fun q a => y1 q (by omega) (by omega) (by omega) (by omega) (by omega))
      have hbd : bud (addTT T (kyN tp n)) ≤ 7992 * (i + 1) := by rw [addT_bud]; have := hT.2.2.1; omega
      have e0 := e 0 (by omega) (by omega) (by omega) (by omega) (by omega) (by omega) (by omega) (by omega) (by omega) (by omega) (by omega)
      refine ⟨Lup L (T 0 15) (kyN tp n) c, addTT T (kyN tp n), I, b, ⟨by rw [addT_15]; exact hC2, hM2, hbd, by rw [addT_k (by omega) (by omega)]; exact hT.2.2.2.1, by rw [addT_k (by omega) (by omega)]; exact hT.2.2.2.2⟩,
        hB.fq (by rw [e0]) (by rw [y2 3 (by omega), ea 97 (by omega)]), fun eb => ?_, hS.fq (fun q a => e q (by omega) (by omega) (by omega) (by omega) (by omega) (by omega) (by omega) (by omega) (by omega) (by omega) (by omega)), hO.fq (fun q a => e q (by omega) (by omega) (by omega) (by omega) (by omega) (by omega) (by omega) (by omega) (by omega) (by omega) (by omega)),
        hW.fq (by rw [e0]) (by rw [y2 34 (by omega), ea 97 (by omega)]) (e 7 (by omega) (by omega) (by omega) (by omega) (by omega) (by omega) (by omega) (by omega) (by omega) (by omega) (by omega)) (e 120 (by omega) (by omega) (by omega) (by omega) (by omega) (by omega) (by omega) (by omega) (by omega) (by omega) (by omega)),
        ⟨0, by decide, by rw [y1 1 (by decide) (by decide) (by decide) (by decide) (by decide)]; exact hf2.2, y3, fun j hj => absurd hj (Nat.not_lt_zero j)⟩, hK.fq (e 105 (by omega) (by omega) (by omega) (by omega) (by omega) (by omega) (by omega) (by omega) (by omega) (by omega) (by omega)) (e 106 (by omega) (by omega) (by omega) (by omega) (by omega) (by omega) (by omega) (by omega) (by omega) (by omega) (by omega))⟩
      obtain ⟨j1, j2, j3, j4, j5, j6, j7⟩ := hM eb
      obtain ⟨f1, f2, f3, f4, f5, f6, f7⟩ := j1
      have e73 : ∀ q, 73 ≤ q → q ≤ 83 → σ2 q = σ q := fun q a b => e q (by omega) (by omega) (by omega) (by omega) (by omega) (by omega) (by omega) (by omega) (by omega) (by omega) (by omega)
      have e99 : σ2 99 = σ 99 := e 99 (by omega) (by omega) (by omega) (by omega) (by omega) (by omega) (by omega) (by omega) (by omega) (by omega) (by omega)
      refine ⟨?_, j2.mv (fun j _ => by rw [e99]) f3.nc f3.np, fun a ha => ?_, fun k hk => ?_, Nat.le_trans j5 (Nat.mul_le_mul_left _ (by omega)), j6, j7⟩
      · rw [addT_15]
        exact ⟨f1, ⟨f2.1.congr (fun q a b _ => e73 q a (by omega)), TH.up (fun b hb => by rw [e73 _ (by omega) (by omega)]; exact f2.2 b hb) (by have := f3.lw (k := 0) (by decide); omega)⟩, f3, hC2.2.2.2.1, hC2.2.2.2.2.1, by omega, by omega⟩
      · rw [Lup_ne (by omega), Lup_ne (by omega), Lup_ne (by omega), e99]
        have := j3 a ha
        exact ⟨this.1, this.2.1, fun i hi => by rw [Lup_ne (by omega)]; exact this.2.2 i hi⟩
      · obtain ⟨k1, k2, k3⟩ := j4 k hk
        exact ⟨k1, fun q => by rw [Lup_ne (by omega)]; exact k2 q, fun j h1 h2 => by rw [Lup_ne (by omega)]; exact k3 j h1 h2⟩
