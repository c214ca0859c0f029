/-! ===== the reference's reader ===== -/
def MT (tp : Nat → Nat) (n : Nat) (σ : vS) : Prop := σ 97 8 = nI n ∧ n ≤ 96 ∧ (∀ j, j < n → σ 104 j = nI (tp j)) ∧ ∀ j, j < n → tp j < 256
theorem MT.of {tp : Nat → Nat} {n : Nat} {σ σ' : vS} (h : MT tp n σ) (h0 : σ' 97 8 = σ 97 8) (h4 : σ' 104 = σ 104) : MT tp n σ' := by
  unfold MT
  rw [h0, h4]
  exact h
/-- where the last word ended -/
def edI (tp : Nat → Nat) (n : Nat) : Nat → Int32
  | 0 => -1
  | k + 1 => if FF tp n k < n ∧ srt (tp (FF tp n k)) ≠ 0 then nI (EE tp n (k + 1)) else edI tp n k
theorem ed_p {tp : Nat → Nat} {n : Nat} (hn : n ≤ 96) : ∀ k, (edI tp n k = -1 ∨ ∃ y, y ≤ EE tp n k ∧ edI tp n k = nI y) ∧ (edI tp n k = nI (EE tp n k) ↔ lwP tp n k) := by
  intro k
  induction k with
  | zero =>
    refine ⟨Or.inl rfl, fun q => ?_, fun q => absurd q.1 (Nat.lt_irrefl _)⟩
    exact absurd q (by show ¬ (-1 : Int32) = nI 0; decide)
  | succ k ih =>
    have hle := EE_le (tp := tp) (n := n) (k := k)
    have hge := FF_ge (tp := tp) (n := n) (k := k)
    have hfl := FF_le (tp := tp) (n := n) (k := k)
    have small : ∀ m, EE tp n k < m → m ≤ n → edI tp n k ≠ nI m := fun m hm hmn q => by
      rcases ih.1 with e | ⟨y, hy, e⟩
      · rw [e] at q
        have := congrArg Int32.toInt q
        rw [nI_toInt (by omega)] at this
        have e1 : (-1 : Int32).toInt = -1 := by decide
        omega
      · rw [e] at q
        have := (nI_eq (by omega) (by omega)).mp q
        omega
    have keep : ∀ m, EE tp n k ≤ m → (edI tp n k = -1 ∨ ∃ y, y ≤ m ∧ edI tp n k = nI y) := fun m hm => ih.1.elim Or.inl (fun ⟨y, hy, e⟩ => Or.inr ⟨y, by omega, e⟩)
    by_cases hF : FF tp n k < n
    · by_cases hs : srt (tp (FF tp n k)) = 0
      · have e : edI tp n (k + 1) = edI tp n k := if_neg (fun q => q.2 hs)
        have eE := EE_sign hF hs
        rw [e, eE]
        refine ⟨keep _ (by omega), fun q => absurd q (small _ (by omega) (by omega)), fun q => ?_⟩
        rw [lwP, eE] at q
        exact absurd hs (by simpa using q.2)
      · have e : edI tp n (k + 1) = nI (EE tp n (k + 1)) := if_pos ⟨hF, hs⟩
        have hg := EE_gt hF
        rw [e]
        refine ⟨Or.inr ⟨_, Nat.le_refl _, rfl⟩, fun _ => ⟨by omega, ?_⟩, fun _ => rfl⟩
        rw [word_in hF hs (by omega) (by omega)]
        exact hs
    · have e : edI tp n (k + 1) = edI tp n k := if_neg (fun q => hF q.1)
      have eE := EE_end hF
      rw [e, eE]
      refine ⟨keep _ hle, ?_⟩
      by_cases q : EE tp n k = n
      · have hl : lwP tp n (k + 1) ↔ lwP tp n k := by unfold lwP; rw [eE, q]
        rw [hl, ← ih.2, q]
      · refine ⟨fun z => absurd z (small _ (by omega) (Nat.le_refl _)), fun z => ?_⟩
        rw [lwP, eE] at z
        have h1 : tp (n - 1) = 32 := by
          have := sk_in (P := spB tp) (n := n) (e := EE tp n k) (j := n - 1) (by omega) (by have : sk (spB tp) n (EE tp n k) = FF tp n k := rfl; omega)
          simpa [spB] using this
        rw [h1] at z
        exact absurd rfl z.2
theorem ed_glu {tp : Nat → Nat} {n k : Nat} (hn : n ≤ 96) (hF : FF tp n k < n) (hs : srt (tp (FF tp n k)) ≠ 0) : nI (FF tp n k) = edI tp n k ↔ gluP tp n k := by
  have h := ed_p (tp := tp) hn k
  have hge := FF_ge (tp := tp) (n := n) (k := k)
  have hle := EE_le (tp := tp) (n := n) (k := k)
  constructor
  · intro q
    have e : FF tp n k = EE tp n k := by
      rcases h.1 with e | ⟨y, hy, e⟩
      · rw [e] at q
        have := congrArg Int32.toInt q
        rw [nI_toInt (by omega)] at this
        have e1 : (-1 : Int32).toInt = -1 := by decide
        omega
      · rw [e] at q
        have := (nI_eq (by omega) (by omega)).mp q
        omega
    exact ⟨⟨hF, hs⟩, e, h.2.mp (by rw [← q, e])⟩
  · intro q
    rw [h.2.mpr q.2.2, q.2.1]
def tokN (tp : Nat → Nat) (n k : Nat) : Nat := if FF tp n k < n then (if srt (tp (FF tp n k)) = 0 then 3 else if srt (tp (FF tp n k)) = 1 then (if gluP tp n k then 4 else 1) else (if gluP tp n k ∨ 4 < EE tp n (k + 1) - FF tp n k then 4 else 2)) else 0
def MS (tp : Nat → Nat) (n k : Nat) (σ : vS) : Prop := MT tp n σ ∧ σ 97 10 = nI (FF tp n k) ∧ σ 97 9 = nI (EE tp n (k + 1)) ∧ σ 97 13 = edI tp n (k + 1) ∧ σ 97 11 = nI (tokN tp n k) ∧ (tokN tp n k = 1 ∨ tokN tp n k = 3 → σ 97 12 = nI (tp (FF tp n k))) ∧ (tokN tp n k = 2 → σ 97 12 = nI (numF tp (FF tp n k) (EE tp n (k + 1) - FF tp n k)))
def FG (σ σ' : vS) : Prop := (∀ q, q ≠ 97 → σ' q = σ q) ∧ ∀ j, ¬ (9 ≤ j ∧ j ≤ 13) → σ' 97 j = σ 97 j
theorem FG.rf {σ : vS} : FG σ σ := ⟨fun _ _ => rfl, fun _ _ => rfl⟩
theorem FG.tr {σ σ1 σ2 : vS} (h1 : FG σ σ1) (h2 : FG σ1 σ2) : FG σ σ2 := ⟨fun q a => (h2.1 q a).trans (h1.1 q a), fun j a => (h2.2 j a).trans (h1.2 j a)⟩
theorem FG.up {σ : vS} {j : Nat} {v : Int32} (h : 9 ≤ j ∧ j ≤ 13) : FG σ (vup σ 97 j v) := ⟨fun q a => vup_p a, fun i a => vup_ne (by omega)⟩
theorem MT.fg {tp : Nat → Nat} {n : Nat} {σ σ' : vS} (h : MT tp n σ) (hf : FG σ σ') : MT tp n σ' := h.of (hf.2 8 (by omega)) (hf.1 104 (by decide))
theorem srt_1 {b : Nat} : srt b = 1 ↔ 97 ≤ b ∧ b ≤ 122 := by
  unfold srt
  by_cases h : 97 ≤ b ∧ b ≤ 122
  · rw [if_pos h]; exact ⟨fun _ => h, fun _ => rfl⟩
  · rw [if_neg h]
    refine ⟨fun q => ?_, fun q => absurd q h⟩
    split at q <;> omega
theorem srt_2 {b : Nat} : srt b = 2 ↔ 48 ≤ b ∧ b ≤ 57 := by
  refine ⟨srt2, fun h => ?_⟩
  unfold srt
  rw [if_neg (by omega), if_pos h]

set_option maxRecDepth 100000 in
set_option maxHeartbeats 4000000 in
theorem k_M_isLetter {G : vG} {σ : vS} {d : Nat} {tp : Nat → Nat} {n : Nat} (hT : MT tp n σ) {x : Nat} (hx : x < 2 ^ 31) : Cf G yX7_isLetter cX7_isLetter 2 (some .boolean) d [.ref 97, .int (nI x)] σ (some (.int (bI (x < n ∧ srt (tp x) = 1)))) σ := by
  refine Ct.ofV (by decide) (Nat.le_of_ble_eq_true rfl) rfl ?_
  show V G RX7 cX7_isLetter (some .boolean) 2 d _ 0 [some (.ref 97), some (.int (nI x))] [] _
  obtain ⟨h8, hn96, hta, h256⟩ := id hT
  refine V_iloadn_1 dX7_isLetter_0 ?_
  refine V_aloadn_0 dX7_isLetter_1 ?_
  refine V_getI dX7_isLetter_2 fl_X7_203 oM_taped ?_
  refine V_topi (y := nI n) h8 ?_
  refine V_icmpN_ge (a := x) (b := n) dX7_isLetter_5 34 (by decide) (by omega) (by omega) (fun h5 => ?_) (fun h5 => ?_)
  · refine V_iconst 0 dX7_isLetter_34 (by decide) ?_
    exact V_zret dX7_isLetter_35 (by decide) ⟨rB0 (fun q => absurd q.1 (by omega)), rfl⟩
  · have hb := h256 x h5
    refine V_aloadn_0 dX7_isLetter_8 ?_
    refine V_getR dX7_isLetter_9 fl_X7_28 oM_tape ?_
    refine V_iloadn_1 dX7_isLetter_12 ?_
    refine V_iald (j := x) dX7_isLetter_13 aM_tape (by omega) (by decide) ?_
    refine V_topi (y := nI (tp x)) (hta x h5) ?_
    refine V_bipush 97 dX7_isLetter_14 (by decide) ?_
    refine V_icmpN_lt (a := tp x) (b := 97) dX7_isLetter_16 34 (by decide) (by omega) (by omega) (fun h16 => ?_) (fun h16 => ?_)
    · refine V_iconst 0 dX7_isLetter_34 (by decide) ?_
      exact V_zret dX7_isLetter_35 (by decide) ⟨rB0 (fun q => by have := srt_1.mp q.2; omega), rfl⟩
    · refine V_aloadn_0 dX7_isLetter_19 ?_
      refine V_getR dX7_isLetter_20 fl_X7_28 oM_tape ?_
      refine V_iloadn_1 dX7_isLetter_23 ?_
      refine V_iald (j := x) dX7_isLetter_24 aM_tape (by omega) (by decide) ?_
      refine V_topi (y := nI (tp x)) (hta x h5) ?_
      refine V_bipush 122 dX7_isLetter_25 (by decide) ?_
      refine V_icmpN_gt (a := tp x) (b := 122) dX7_isLetter_27 34 (by decide) (by omega) (by omega) (fun h27 => ?_) (fun h27 => ?_)
      · refine V_iconst 0 dX7_isLetter_34 (by decide) ?_
        exact V_zret dX7_isLetter_35 (by decide) ⟨rB0 (fun q => by have := srt_1.mp q.2; omega), rfl⟩
      · refine V_iconst 1 dX7_isLetter_30 (by decide) ?_
        refine V_goto dX7_isLetter_31 35 (by decide) ?_
        exact V_zret dX7_isLetter_35 (by decide) ⟨rB1 ⟨h5, srt_1.mpr ⟨h16, h27⟩⟩, rfl⟩

set_option maxRecDepth 100000 in
set_option maxHeartbeats 4000000 in
theorem k_M_isFigure {G : vG} {σ : vS} {d : Nat} {tp : Nat → Nat} {n : Nat} (hT : MT tp n σ) {x : Nat} (hx : x < 2 ^ 31) : Cf G yX7_isFigure cX7_isFigure 2 (some .boolean) d [.ref 97, .int (nI x)] σ (some (.int (bI (x < n ∧ srt (tp x) = 2)))) σ := by
  refine Ct.ofV (by decide) (Nat.le_of_ble_eq_true rfl) rfl ?_
  show V G RX7 cX7_isFigure (some .boolean) 2 d _ 0 [some (.ref 97), some (.int (nI x))] [] _
  obtain ⟨h8, hn96, hta, h256⟩ := id hT
  refine V_iloadn_1 dX7_isFigure_0 ?_
  refine V_aloadn_0 dX7_isFigure_1 ?_
  refine V_getI dX7_isFigure_2 fl_X7_203 oM_taped ?_
  refine V_topi (y := nI n) h8 ?_
  refine V_icmpN_ge (a := x) (b := n) dX7_isFigure_5 34 (by decide) (by omega) (by omega) (fun h5 => ?_) (fun h5 => ?_)
  · refine V_iconst 0 dX7_isFigure_34 (by decide) ?_
    exact V_zret dX7_isFigure_35 (by decide) ⟨rB0 (fun q => absurd q.1 (by omega)), rfl⟩
  · have hb := h256 x h5
    refine V_aloadn_0 dX7_isFigure_8 ?_
    refine V_getR dX7_isFigure_9 fl_X7_28 oM_tape ?_
    refine V_iloadn_1 dX7_isFigure_12 ?_
    refine V_iald (j := x) dX7_isFigure_13 aM_tape (by omega) (by decide) ?_
    refine V_topi (y := nI (tp x)) (hta x h5) ?_
    refine V_bipush 48 dX7_isFigure_14 (by decide) ?_
    refine V_icmpN_lt (a := tp x) (b := 48) dX7_isFigure_16 34 (by decide) (by omega) (by omega) (fun h16 => ?_) (fun h16 => ?_)
    · refine V_iconst 0 dX7_isFigure_34 (by decide) ?_
      exact V_zret dX7_isFigure_35 (by decide) ⟨rB0 (fun q => by have := srt_2.mp q.2; omega), rfl⟩
    · refine V_aloadn_0 dX7_isFigure_19 ?_
      refine V_getR dX7_isFigure_20 fl_X7_28 oM_tape ?_
      refine V_iloadn_1 dX7_isFigure_23 ?_
      refine V_iald (j := x) dX7_isFigure_24 aM_tape (by omega) (by decide) ?_
      refine V_topi (y := nI (tp x)) (hta x h5) ?_
      refine V_bipush 57 dX7_isFigure_25 (by decide) ?_
      refine V_icmpN_gt (a := tp x) (b := 57) dX7_isFigure_27 34 (by decide) (by omega) (by omega) (fun h27 => ?_) (fun h27 => ?_)
      · refine V_iconst 0 dX7_isFigure_34 (by decide) ?_
        exact V_zret dX7_isFigure_35 (by decide) ⟨rB0 (fun q => by have := srt_2.mp q.2; omega), rfl⟩
      · refine V_iconst 1 dX7_isFigure_30 (by decide) ?_
        refine V_goto dX7_isFigure_31 35 (by decide) ?_
        exact V_zret dX7_isFigure_35 (by decide) ⟨rB1 ⟨h5, srt_2.mpr ⟨h16, h27⟩⟩, rfl⟩

set_option maxRecDepth 100000 in
set_option maxHeartbeats 4000000 in
theorem lp_go1 {G : vG} {d : Nat} {Q : Option Value → vS → Prop} {σ0 : vS} {tp : Nat → Nat} {n e : Nat} (hT : MT tp n σ0) (kont : V G RX7 cX7_go none 2 (d + 1) Q 38 [some (.ref 97), none] [] (vup σ0 97 9 (nI (frN tp n e)))) : ∀ (k : Nat) (x : Nat), (x ≤ n ∧ sk (spB tp) n x = frN tp n e) → n - x < k → V G RX7 cX7_go none 2 (d + 1) Q 0 [some (.ref 97), none] [] (vup σ0 97 9 (nI x)) := by
  intro k
  induction k with
  | zero => intros; omega
  | succ k ih =>
    intro x hh hk
    obtain ⟨hxn, hsk⟩ := hh
    obtain ⟨h97, hn96, hta, h256⟩ := id hT
    refine V_aloadn_0 dX7_go_0 ?_
    refine V_getI dX7_go_1 fl_X7_207 oM_next ?_
    refine V_topi (y := nI x) vup_same ?_
    refine V_aloadn_0 dX7_go_4 ?_
    refine V_getI dX7_go_5 fl_X7_203 oM_taped ?_
    refine V_topi (y := nI n) (by rw [vup_ne (by omega)]; exact h97) ?_
    refine V_icmpN_ge (a := x) (b := n) dX7_go_8 38 (by decide) (by omega) (by omega) (fun h8 => ?_) (fun h8 => ?_)
    · have ex : x = frN tp n e := by rw [← hsk, sk_n (fun q => absurd q.1 (by omega))]
      rw [ex]
      exact kont
    · refine V_aloadn_0 dX7_go_11 ?_
      refine V_getR dX7_go_12 fl_X7_28 oM_tape ?_
      refine V_aloadn_0 dX7_go_15 ?_
      refine V_getI dX7_go_16 fl_X7_207 oM_next ?_
      refine V_topi (y := nI x) vup_same ?_
      have hx256 := h256 x h8
      refine V_iald (j := x) dX7_go_19 aM_tape (by omega) (by decide) ?_
      refine V_topi (y := nI (tp x)) (by rw [vup_p (by decide)]; exact hta x h8) ?_
      refine V_bipush 32 dX7_go_20 (by decide) ?_
      refine V_icmpN_ne (a := tp x) (b := 32) dX7_go_22 38 (by decide) (by omega) (by omega) (fun h22 => ?_) (fun h22 => ?_)
      · have ex : x = frN tp n e := by rw [← hsk, sk_n (fun q => h22 (by have := q.2; unfold spB at this; simpa using this))]
        rw [ex]
        exact kont
      · refine V_aloadn_0 dX7_go_25 ?_
        refine V_dup dX7_go_26 rfl ?_
        refine V_getI dX7_go_27 fl_X7_207 oM_next ?_
        refine V_topi (y := nI x) vup_same ?_
        refine V_iconst 1 dX7_go_30 (by decide) ?_
        refine V_iaddN (a := x) (b := 1) dX7_go_31 ?_
        refine V_putI dX7_go_32 fp_X7_207 oM_next ?_
        refine V_goto dX7_go_35 0 (by decide) ?_
        rw [vup_vup]
        exact ih (x + 1) ⟨by omega, by rw [← sk_y h8 (by unfold spB; rw [h22]; rfl)]; exact hsk⟩ (by omega)

set_option maxRecDepth 100000 in
set_option maxHeartbeats 4000000 in
theorem lp_go2 {G : vG} {d : Nat} {Q : Option Value → vS → Prop} {σ0 : vS} {tp : Nat → Nat} {n E : Nat} {a1 : Option Value} (hT : MT tp n σ0) (kont : V G RX7 cX7_go none 2 (d + 1) Q 117 [some (.ref 97), a1] [] (vup σ0 97 9 (nI E))) : ∀ (k : Nat) (x : Nat), (x ≤ n ∧ sk (soB tp 1) n x = E) → n - x < k → V G RX7 cX7_go none 2 (d + 1) Q 93 [some (.ref 97), a1] [] (vup σ0 97 9 (nI x)) := by
  intro k
  induction k with
  | zero => intros; omega
  | succ k ih =>
    intro x hh hk
    obtain ⟨hxn, hsk⟩ := hh
    have hT1 : MT tp n (vup σ0 97 9 (nI x)) := hT.fg (FG.up (by omega))
    have hn96 := hT.2.1
    refine V_aloadn_0 dX7_go_93 ?_
    refine V_aloadn_0 dX7_go_94 ?_
    refine V_getI dX7_go_95 fl_X7_207 oM_next ?_
    refine V_topi (y := nI x) vup_same ?_
    refine V_cv1f dX7_go_98 cv_X7_219 rcM (Nat.le_of_ble_eq_true rfl) (k_M_isLetter hT1 (by omega)) ?_
    refine V_ifB_eq dX7_go_101 117 (by decide) (fun h101 => ?_) (fun h101 => ?_)
    · have ex : x = E := by rw [← hsk, sk_n (fun q => h101 ⟨q.1, by have := q.2; unfold soB at this; simpa using this⟩)]
      rw [ex]
      exact kont
    · refine V_aloadn_0 dX7_go_104 ?_
      refine V_dup dX7_go_105 rfl ?_
      refine V_getI dX7_go_106 fl_X7_207 oM_next ?_
      refine V_topi (y := nI x) vup_same ?_
      refine V_iconst 1 dX7_go_109 (by decide) ?_
      refine V_iaddN (a := x) (b := 1) dX7_go_110 ?_
      refine V_putI dX7_go_111 fp_X7_207 oM_next ?_
      refine V_goto dX7_go_114 93 (by decide) ?_
      rw [vup_vup]
      exact ih (x + 1) ⟨by have := h101.1; omega, by rw [← sk_y h101.1 (by unfold soB; rw [h101.2]; rfl)]; exact hsk⟩ (by have := h101.1; omega)

theorem num_sat {tp : Nat → Nat} {F x : Nat} (h : 4 ≤ x) : numF tp F (min x 4) = numF tp F (min (x + 1) 4) := by
  rw [show min x 4 = 4 by omega, show min (x + 1) 4 = 4 by omega]

set_option maxRecDepth 100000 in
set_option maxHeartbeats 4000000 in
theorem lp_go3 {G : vG} {d : Nat} {Q : Option Value → vS → Prop} {σ0 : vS} {tp : Nat → Nat} {n F E : Nat} {a1 : Option Value} (hT : MT tp n σ0) (hF : σ0 97 10 = nI F) (hFn : F ≤ n) (hall : ∀ j, F ≤ j → j < E → srt (tp j) = 2) (kont : V G RX7 cX7_go none 2 (d + 1) Q 238 [some (.ref 97), a1] [] (vup (vup σ0 97 12 (nI (numF tp F (min (E - F) 4)))) 97 9 (nI E))) : ∀ (k : Nat) (x : Nat), (x ≤ n ∧ F ≤ x ∧ x ≤ E ∧ sk (soB tp 2) n x = E) → n - x < k → V G RX7 cX7_go none 2 (d + 1) Q 170 [some (.ref 97), a1] [] (vup (vup σ0 97 12 (nI (numF tp F (min (x - F) 4)))) 97 9 (nI x)) := by
  intro k
  induction k with
  | zero => intros; omega
  | succ k ih =>
    intro x hh hk
    obtain ⟨hxn, hFx, hxE, hsk⟩ := hh
    have hT1 : MT tp n (vup (vup σ0 97 12 (nI (numF tp F (min (x - F) 4)))) 97 9 (nI x)) := hT.fg ((FG.up (by omega)).tr (FG.up (by omega)))
    obtain ⟨h97, hn96, hta, h256⟩ := id hT
    have hnu := num_lt (tp := tp) (F := F) (min (x - F) 4) (fun j hj => hall (F + j) (by omega) (by omega))
    have hp4 : 10 ^ (min (x - F) 4) ≤ 10000 := Nat.pow_le_pow_right (by decide) (show min (x - F) 4 ≤ 4 by omega)
    refine V_aloadn_0 dX7_go_170 ?_
    refine V_aloadn_0 dX7_go_171 ?_
    refine V_getI dX7_go_172 fl_X7_207 oM_next ?_
    refine V_topi (y := nI x) vup_same ?_
    refine V_cv1f dX7_go_175 cv_X7_225 rcM (Nat.le_of_ble_eq_true rfl) (k_M_isFigure hT1 (by omega)) ?_
    refine V_ifB_eq dX7_go_178 238 (by decide) (fun h178 => ?_) (fun h178 => ?_)
    · have ex : x = E := by rw [← hsk, sk_n (fun q => h178 ⟨q.1, by have := q.2; unfold soB at this; simpa using this⟩)]
      rw [ex]
      exact kont
    · refine V_aloadn_0 dX7_go_181 ?_
      refine V_aloadn_0 dX7_go_182 ?_
      refine V_getI dX7_go_183 fl_X7_207 oM_next ?_
      refine V_topi (y := nI x) vup_same ?_
      refine V_aloadn_0 dX7_go_186 ?_
      refine V_getI dX7_go_187 fl_X7_210 oM_from ?_
      refine V_topi (y := nI F) (by rw [vup_ne (by omega), vup_ne (by omega)]; exact hF) ?_
      refine V_isubN (a := x) (b := F) dX7_go_190 (by omega) ?_
      refine V_iconst 4 dX7_go_191 (by decide) ?_
      refine V_icmpN_ge (a := x - F) (b := 4) dX7_go_192 218 (by decide) (by omega) (by omega) (fun h192 => ?_) (fun h192 => ?_)
      · refine V_aloadn_0 dX7_go_218 ?_
        refine V_getI dX7_go_219 fl_X7_222 oM_value ?_
        refine V_topi (y := nI (numF tp F (min (x - F) 4))) (by rw [vup_ne (by omega), vup_same]) ?_
        refine V_putI dX7_go_222 fp_X7_222 oM_value ?_
        refine V_aloadn_0 dX7_go_225 ?_
        refine V_dup dX7_go_226 rfl ?_
        refine V_getI dX7_go_227 fl_X7_207 oM_next ?_
        refine V_topi (y := nI x) (by rw [vup_ne (by omega), vup_same]) ?_
        refine V_iconst 1 dX7_go_230 (by decide) ?_
        refine V_iaddN (a := x) (b := 1) dX7_go_231 ?_
        refine V_putI dX7_go_232 fp_X7_207 oM_next ?_
        refine V_goto dX7_go_235 170 (by decide) ?_
        have hxE2 : x + 1 ≤ E := by
          rw [← hsk, sk_y h178.1 (by unfold soB; rw [h178.2]; rfl)]
          exact sk_ge
        rw [num_sat (by omega), show x - F + 1 = x + 1 - F by omega]
        refine V_hp (σ' := vup (vup σ0 97 12 (nI (numF tp F (min (x + 1 - F) 4)))) 97 9 (nI (x + 1))) ?_ ?_
        · funext q j
          by_cases e9 : q = 97 ∧ j = 9
          · rw [e9.1, e9.2, vup_same, vup_same]
          · rw [vup_ne e9, vup_ne e9]
            by_cases e12 : q = 97 ∧ j = 12
            · rw [e12.1, e12.2, vup_same, vup_same]
            · simp only [vup_ne e12, vup_ne e9]
        · exact ih (x + 1) ⟨by have := h178.1; omega, by omega, hxE2, by rw [← sk_y h178.1 (by unfold soB; rw [h178.2]; rfl)]; exact hsk⟩ (by have := h178.1; omega)
      · refine V_bipush 10 dX7_go_195 (by decide) ?_
        refine V_aloadn_0 dX7_go_197 ?_
        refine V_getI dX7_go_198 fl_X7_222 oM_value ?_
        refine V_topi (y := nI (numF tp F (min (x - F) 4))) (by rw [vup_ne (by omega), vup_same]) ?_
        refine V_imulN (a := 10) (b := numF tp F (min (x - F) 4)) dX7_go_201 ?_
        refine V_aloadn_0 dX7_go_202 ?_
        refine V_getR dX7_go_203 fl_X7_28 oM_tape ?_
        refine V_aloadn_0 dX7_go_206 ?_
        refine V_getI dX7_go_207 fl_X7_207 oM_next ?_
        refine V_topi (y := nI x) vup_same ?_
        have hd2 := srt2 h178.2
        refine V_iald (j := x) dX7_go_210 aM_tape (by omega) (by decide) ?_
        refine V_topi (y := nI (tp x)) (by rw [vup_p (by decide), vup_p (by decide)]; exact hta x h178.1) ?_
        refine V_iaddN (a := 10 * (numF tp F (min (x - F) 4))) (b := tp x) dX7_go_211 ?_
        refine V_bipush 48 dX7_go_212 (by decide) ?_
        refine V_isubN (a := (10 * (numF tp F (min (x - F) 4))) + (tp x)) (b := 48) dX7_go_214 (by omega) ?_
        refine V_topi (y := nI (numF tp F (min (x + 1 - F) 4))) (by rw [show min (x + 1 - F) 4 = min (x - F) 4 + 1 by omega]; simp only [numF]; rw [show F + min (x - F) 4 = x by omega]; congr 1; omega) ?_
        refine V_goto dX7_go_215 222 (by decide) ?_
        refine V_putI dX7_go_222 fp_X7_222 oM_value ?_
        refine V_aloadn_0 dX7_go_225 ?_
        refine V_dup dX7_go_226 rfl ?_
        refine V_getI dX7_go_227 fl_X7_207 oM_next ?_
        refine V_topi (y := nI x) (by rw [vup_ne (by omega), vup_same]) ?_
        refine V_iconst 1 dX7_go_230 (by decide) ?_
        refine V_iaddN (a := x) (b := 1) dX7_go_231 ?_
        refine V_putI dX7_go_232 fp_X7_207 oM_next ?_
        refine V_goto dX7_go_235 170 (by decide) ?_
        have hxE2 : x + 1 ≤ E := by
          rw [← hsk, sk_y h178.1 (by unfold soB; rw [h178.2]; rfl)]
          exact sk_ge
        refine V_hp (σ' := vup (vup σ0 97 12 (nI (numF tp F (min (x + 1 - F) 4)))) 97 9 (nI (x + 1))) ?_ ?_
        · funext q j
          by_cases e9 : q = 97 ∧ j = 9
          · rw [e9.1, e9.2, vup_same, vup_same]
          · rw [vup_ne e9, vup_ne e9]
            by_cases e12 : q = 97 ∧ j = 12
            · rw [e12.1, e12.2, vup_same, vup_same]
            · simp only [vup_ne e12, vup_ne e9]
        · exact ih (x + 1) ⟨by have := h178.1; omega, by omega, hxE2, by rw [← sk_y h178.1 (by unfold soB; rw [h178.2]; rfl)]; exact hsk⟩ (by have := h178.1; omega)
