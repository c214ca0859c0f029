/-! ===== the reference's yard ===== -/
/-- nots stand under nots and open ones alone; at the top where a value is wanted -/
def okN : Bool → List Nat → Prop
  | _, [] => True
  | b, s :: w => (s = 33 → b = true) ∧ okN (decide (s = 33 ∨ s = 40)) w
theorem okN.mono {w : List Nat} (h : okN false w) : okN true w := by
  cases w with
  | nil => trivial
  | cons s u => exact ⟨fun _ => rfl, h.2⟩
theorem okN_bin {b : Bool} {s : Nat} {w : List Nat} (h : okN b (s :: w)) (h1 : s ≠ 33) (h2 : s ≠ 40) : okN false w := by
  have := h.2
  rw [show decide (s = 33 ∨ s = 40) = false by simp [h1, h2]] at this
  exact this
theorem stl_okN {r : Nat} : ∀ w c, okN false w → okN false (stl r c w).2 ∧ nnW (stl r c w).2 = nnW w := by
  intro w
  induction w with
  | nil => intro c h; exact ⟨trivial, rfl⟩
  | cons s u ih =>
    intro c h
    by_cases e : s ≠ 40 ∧ r ≤ rk s
    · have h33 : s ≠ 33 := fun q => absurd (h.1 q) (by decide)
      rw [stl_y e, nn_ne h33]
      exact ih _ (okN_bin h h33 e.1)
    · rw [stl_n e]
      exact ⟨h, rfl⟩
theorem stl6_okN : ∀ w c, okN true w → okN false (stl 6 c w).2 := by
  intro w
  induction w with
  | nil => intro c h; trivial
  | cons s u ih =>
    intro c h
    by_cases e : s = 33
    · subst e
      rw [stl_y ⟨by decide, by decide⟩]
      exact ih _ h.2
    · have hb := bk_le (s := s)
      have hr : rk s ≤ 5 := by
        unfold rk
        rw [if_neg e]
        exact hb
      rw [stl_n (fun q => by omega)]
      exact ⟨fun q => absurd q e, h.2⟩
theorem tk20 {tp : Nat → Nat} {n ky k b : Nat} (h : tkN tp n ky k = 20000 + b) (hb : b < 256) : FF tp n k < n ∧ tokN tp n k = 3 ∧ tp (FF tp n k) = b := by
  have hF : FF tp n k < n := Classical.byContradiction (fun q => by rw [tk_end q] at h; omega)
  have hs : srt (tp (FF tp n k)) = 0 := Classical.byContradiction (fun q => by rcases tk_word (ky := ky) hF q with e | e <;> omega)
  refine ⟨hF, by unfold tokN; rw [if_pos hF, if_pos hs], ?_⟩
  rw [tk_sign hF hs] at h
  omega
theorem CW.pushW {c w : List Nat} {s : Nat} {σ : vS} (h : CW c w σ) : CW c (s :: w) (vup (vup σ 108 w.length (wE s)) 97 21 (nI (w.length + 1))) := by
  obtain ⟨h1, h2, h3, h4⟩ := h
  refine ⟨?_, ?_, fun i hi => ?_, fun i hi => ?_⟩
  · rw [vup_ne (by omega), vup_ne (by omega)]; exact h1
  · rw [vup_same]; rfl
  · rw [vup_ne (by omega), vup_ne (by omega)]; exact h3 i hi
  · rw [vup_ne (by omega)]
    cases i with
    | zero => exact vup_same
    | succ i =>
      simp only [List.length_cons] at hi ⊢
      rw [show w.length + 1 - 1 - (i + 1) = w.length - 1 - i by omega, vup_ne (by omega)]
      exact h4 i (by omega)
theorem CW.drop {c u : List Nat} {s : Nat} {σ : vS} (h : CW c (s :: u) σ) : CW c u (vup σ 97 21 (nI u.length)) := by
  obtain ⟨h1, h2, h3, h4⟩ := h
  refine ⟨?_, ?_, fun i hi => ?_, fun i hi => ?_⟩
  · rw [vup_ne (by omega)]; exact h1
  · rw [vup_same]
  · rw [vup_ne (by omega)]; exact h3 i hi
  · rw [vup_ne (by omega)]
    have := h4 (i + 1) (by simp only [List.length_cons]; omega)
    rw [show (s :: u).length - 1 - (i + 1) = u.length - 1 - i by simp only [List.length_cons]; omega] at this
    exact this
theorem TS.of {t : List Bool} {σ σ' : vS} (h : TS t σ) (h109 : σ' 109 = σ 109) : TS t σ' := by
  unfold TS
  rw [h109]
  exact h
theorem TS.push {t : List Bool} {σ : vS} : TS t σ → TS (false :: t) (vup σ 109 t.length 0) := by
  intro h i hi
  cases i with
  | zero => exact vup_same
  | succ i =>
    simp only [List.length_cons] at hi ⊢
    rw [show t.length + 1 - 1 - (i + 1) = t.length - 1 - i by omega, vup_ne (by omega)]
    exact h i (by omega)
theorem TS.tail {b : Bool} {t : List Bool} {σ : vS} (h : TS (b :: t) σ) : TS t σ := by
  intro i hi
  have := h (i + 1) (by simp only [List.length_cons]; omega)
  rw [show (b :: t).length - 1 - (i + 1) = t.length - 1 - i by simp only [List.length_cons]; omega] at this
  exact this
theorem TS.set {b b' : Bool} {t : List Bool} {σ : vS} {v : Int32} (h : TS (b :: t) σ) (hv : v = bI (b' = true)) : TS (b' :: t) (vup σ 109 t.length v) := by
  intro i hi
  cases i with
  | zero => rw [hv]; exact vup_same
  | succ i =>
    have hi2 : i + 1 < t.length + 1 := hi
    show vup σ 109 t.length v 109 (t.length + 1 - 1 - (i + 1)) = bI (t.getD i false = true)
    rw [vup_ne (by omega)]
    exact h (i + 1) hi
theorem TS.head {b : Bool} {t : List Bool} {σ : vS} (h : TS (b :: t) σ) : σ 109 t.length = bI (b = true) := h 0 (by simp)

set_option maxRecDepth 100000 in
set_option maxHeartbeats 4000000 in
theorem e_not {G : vG} {d : Nat} {Q : Option Value → vS → Prop} {σ : vS} (hd : 4 ≤ d + 1) {tp : Nat → Nat} {n ky k : Nat} {c w : List Nat} {t : List Bool} (hS : CF tp n ky k c w t σ) (hk2 : ky ≤ 2) (hok : wOK w) (hlen : c.length + w.length ≤ k) (hkF : k ≤ FF tp n k) (hnp : npW w ≤ 8) (hnn : nnW w ≤ 8) (htl : t.length = npW w + 1) (htk : tkN tp n ky k = 20000 + 33) (h8 : nnW w < 8) (kont : ∀ σ', CF tp n ky (k + 1) (c) (33 :: w) (t) σ' → FX σ σ' → V G RX7 cX7_takesE (some .boolean) 5 (d + 1) Q 28 [some (.ref 97), some (.int (nI (npW (33 :: w)))), some (.int (nI (nnW (33 :: w)))), some (.int 1), none] [] σ') : V G RX7 cX7_takesE (some .boolean) 5 (d + 1) Q 28 [some (.ref 97), some (.int (nI (npW w))), some (.int (nI (nnW w))), some (.int 1), none] [] σ := by
  obtain ⟨hM, h14, h19, hW, hTS⟩ := id hS
  obtain ⟨hT, m10, m9, m13, m11, m12, m12b⟩ := id hM
  obtain ⟨m8, hn96, hta, h256⟩ := id hT
  have hfl := FF_le (tp := tp) (n := n) (k := k)
  have hel := EE_le (tp := tp) (n := n) (k := k + 1)
  have htk4 := tok_le (tp := tp) (n := n) (k := k)
  have hlv := lv_le (c := c)
  have h20 := tk20 htk (by decide)
  have hF := h20.1
  rw [h20.2.1] at m11
  have hva := m12 (Or.inr h20.2.1)
  rw [h20.2.2] at hva
  have f3 : FX σ (vup (vup σ 108 w.length (-10)) 97 21 (nI (w.length + 1))) := (FX.ar (by omega)).tr (FX.up (by omega))
  have hW3 : CW c (33 :: w) (vup (vup σ 108 w.length (-10)) 97 21 (nI (w.length + 1))) := hW.pushW
  refine V_iloadn_3 dX7_takesE_28 ?_
  refine V_if_ne_t dX7_takesE_29 39 (by decide) (by decide) ?_
  refine V_iloadn_3 dX7_takesE_39 ?_
  refine V_if_eq_f dX7_takesE_40 180 (by decide) (by decide) ?_
  refine V_aloadn_0 dX7_takesE_43 ?_
  refine V_getI dX7_takesE_44 fl_X7_216 oM_token ?_
  refine V_topi (y := 3) m11 ?_
  refine V_iconst 3 dX7_takesE_47 (by decide) ?_
  refine V_icmp_ne_f dX7_takesE_48 97 (by decide) (by decide) ?_
  refine V_aloadn_0 dX7_takesE_51 ?_
  refine V_getI dX7_takesE_52 fl_X7_222 oM_value ?_
  refine V_topi (y := 33) hva ?_
  refine V_bipush 33 dX7_takesE_55 (by decide) ?_
  refine V_icmp_ne_f dX7_takesE_57 97 (by decide) (by decide) ?_
  refine V_iloadn_2 dX7_takesE_60 ?_
  refine V_bipush 8 dX7_takesE_61 (by decide) ?_
  refine V_icmpN_ge (a := nnW w) (b := 8) dX7_takesE_63 97 (by decide) (by omega) (by omega) (fun h63 => ?_) (fun h63 => ?_)
  · exfalso; omega
  · refine V_aloadn_0 dX7_takesE_66 ?_
    refine V_getR dX7_takesE_67 fl_X7_41 oM_waits ?_
    refine V_aloadn_0 dX7_takesE_70 ?_
    refine V_getI dX7_takesE_71 fl_X7_234 oM_held ?_
    refine V_topi (y := nI w.length) hW.2.1 ?_
    refine V_bipush (-10) dX7_takesE_74 (by decide) ?_
    refine V_iast (j := w.length) dX7_takesE_76 aM_waits (by omega) (by decide) ?_
    refine V_aloadn_0 dX7_takesE_77 ?_
    refine V_dup dX7_takesE_78 rfl ?_
    refine V_getI dX7_takesE_79 fl_X7_234 oM_held ?_
    refine V_topi (y := nI w.length) (by rw [vup_ne (by omega)]; exact hW.2.1) ?_
    refine V_iconst 1 dX7_takesE_82 (by decide) ?_
    refine V_iaddN (a := w.length) (b := 1) dX7_takesE_83 ?_
    refine V_putI dX7_takesE_84 fp_X7_234 oM_held ?_
    refine V_iinc_2 dX7_takesE_87 (by first | exact rfl | exact True.intro) (by decide) (nI ((nnW w) + 1)) (nI_inc _) ?_
    refine V_aloadn_0 dX7_takesE_90 ?_
    refine V_cv0n dX7_takesE_91 cv_X7_231 rcM (Nat.le_of_ble_eq_true rfl) (k_M_go (tp := tp) (n := n) (k := k + 1) (by omega) (hT.fx f3) (by rw [vup_ne (by omega), vup_ne (by omega)]; exact m9) (by rw [vup_ne (by omega), vup_ne (by omega)]; exact m13)) (fun σ5 h5 => ?_)
    refine V_goto dX7_takesE_94 172 (by decide) ?_
    refine V_aloadn_0 dX7_takesE_172 ?_
    refine V_cv0f dX7_takesE_173 cv_X7_256 rcM (Nat.le_of_ble_eq_true rfl) (k_M_nots (hW3.fg h5.2) (fun s hs => by rcases List.mem_cons.mp hs with e | e; exact Or.inl e; exact hok s e) (by simp only [List.length_cons]; omega)) ?_
    refine V_istoren_2 dX7_takesE_176 (by first | exact rfl | exact True.intro) (by decide) ?_
    refine V_goto dX7_takesE_177 28 (by decide) ?_
    refine V_lo (lo' := [some (.ref 97), some (.int (nI (npW (33 :: w)))), some (.int (nI (nnW (33 :: w)))), some (.int 1), none]) (by rw [np_ne (by decide)]) ?_
    exact kont σ5 ⟨h5.1, by rw [h5.2.2 14 (by omega), vup_ne (by omega), vup_ne (by omega)]; exact h14, by rw [h5.2.2 19 (by omega), vup_ne (by omega), vup_ne (by omega)]; exact h19, hW3.fg h5.2, hTS.of (by rw [h5.2.1 109 (by decide), vup_p (by decide), vup_p (by decide)])⟩ (f3.tr h5.2.x)

set_option maxRecDepth 100000 in
set_option maxHeartbeats 4000000 in
theorem e_open {G : vG} {d : Nat} {Q : Option Value → vS → Prop} {σ : vS} (hd : 4 ≤ d + 1) {tp : Nat → Nat} {n ky k : Nat} {c w : List Nat} {t : List Bool} (hS : CF tp n ky k c w t σ) (hk2 : ky ≤ 2) (hok : wOK w) (hlen : c.length + w.length ≤ k) (hkF : k ≤ FF tp n k) (hnp : npW w ≤ 8) (hnn : nnW w ≤ 8) (htl : t.length = npW w + 1) (htk : tkN tp n ky k = 20000 + 40) (h8 : npW w < 8) (kont : ∀ σ', CF tp n ky (k + 1) (c) (40 :: w) (false :: t) σ' → FX σ σ' → V G RX7 cX7_takesE (some .boolean) 5 (d + 1) Q 28 [some (.ref 97), some (.int (nI (npW (40 :: w)))), some (.int (nI (nnW (40 :: w)))), some (.int 1), none] [] σ') : V G RX7 cX7_takesE (some .boolean) 5 (d + 1) Q 28 [some (.ref 97), some (.int (nI (npW w))), some (.int (nI (nnW w))), some (.int 1), none] [] σ := by
  obtain ⟨hM, h14, h19, hW, hTS⟩ := id hS
  obtain ⟨hT, m10, m9, m13, m11, m12, m12b⟩ := id hM
  obtain ⟨m8, hn96, hta, h256⟩ := id hT
  have hfl := FF_le (tp := tp) (n := n) (k := k)
  have hel := EE_le (tp := tp) (n := n) (k := k + 1)
  have htk4 := tok_le (tp := tp) (n := n) (k := k)
  have hlv := lv_le (c := c)
  have h20 := tk20 htk (by decide)
  have hF := h20.1
  rw [h20.2.1] at m11
  have hva := m12 (Or.inr h20.2.1)
  rw [h20.2.2] at hva
  have f3 : FX σ (vup (vup (vup σ 108 w.length (-11)) 97 21 (nI (w.length + 1))) 109 (npW w + 1) 0) := ((FX.ar (by omega)).tr (FX.up (by omega))).tr (FX.ar (by omega))
  have hW3 : CW c (40 :: w) (vup (vup (vup σ 108 w.length (-11)) 97 21 (nI (w.length + 1))) 109 (npW w + 1) 0) := (CW.pushW (s := 40) hW).of (by rw [vup_ne (by omega)]; rfl) (by rw [vup_ne (by omega)]; rfl) (vup_p (by decide)) (vup_p (by decide))
  have hT3 : TS (false :: t) (vup (vup (vup σ 108 w.length (-11)) 97 21 (nI (w.length + 1))) 109 (npW w + 1) 0) := by rw [← htl]; exact TS.push (hTS.of (by rw [vup_p (by decide), vup_p (by decide)]))
  refine V_iloadn_3 dX7_takesE_28 ?_
  refine V_if_ne_t dX7_takesE_29 39 (by decide) (by decide) ?_
  refine V_iloadn_3 dX7_takesE_39 ?_
  refine V_if_eq_f dX7_takesE_40 180 (by decide) (by decide) ?_
  refine V_aloadn_0 dX7_takesE_43 ?_
  refine V_getI dX7_takesE_44 fl_X7_216 oM_token ?_
  refine V_topi (y := 3) m11 ?_
  refine V_iconst 3 dX7_takesE_47 (by decide) ?_
  refine V_icmp_ne_f dX7_takesE_48 97 (by decide) (by decide) ?_
  refine V_aloadn_0 dX7_takesE_51 ?_
  refine V_getI dX7_takesE_52 fl_X7_222 oM_value ?_
  refine V_topi (y := 40) hva ?_
  refine V_bipush 33 dX7_takesE_55 (by decide) ?_
  refine V_icmp_ne_t dX7_takesE_57 97 (by decide) (by decide) ?_
  refine V_aloadn_0 dX7_takesE_97 ?_
  refine V_getI dX7_takesE_98 fl_X7_216 oM_token ?_
  refine V_topi (y := 3) m11 ?_
  refine V_iconst 3 dX7_takesE_101 (by decide) ?_
  refine V_icmp_ne_f dX7_takesE_102 158 (by decide) (by decide) ?_
  refine V_aloadn_0 dX7_takesE_105 ?_
  refine V_getI dX7_takesE_106 fl_X7_222 oM_value ?_
  refine V_topi (y := 40) hva ?_
  refine V_bipush 40 dX7_takesE_109 (by decide) ?_
  refine V_icmp_ne_f dX7_takesE_111 158 (by decide) (by decide) ?_
  refine V_iloadn_1 dX7_takesE_114 ?_
  refine V_bipush 8 dX7_takesE_115 (by decide) ?_
  refine V_icmpN_ge (a := npW w) (b := 8) dX7_takesE_117 158 (by decide) (by omega) (by omega) (fun h117 => ?_) (fun h117 => ?_)
  · exfalso; omega
  · refine V_aloadn_0 dX7_takesE_120 ?_
    refine V_getR dX7_takesE_121 fl_X7_41 oM_waits ?_
    refine V_aloadn_0 dX7_takesE_124 ?_
    refine V_getI dX7_takesE_125 fl_X7_234 oM_held ?_
    refine V_topi (y := nI w.length) hW.2.1 ?_
    refine V_bipush (-11) dX7_takesE_128 (by decide) ?_
    refine V_iast (j := w.length) dX7_takesE_130 aM_waits (by omega) (by decide) ?_
    refine V_aloadn_0 dX7_takesE_131 ?_
    refine V_dup dX7_takesE_132 rfl ?_
    refine V_getI dX7_takesE_133 fl_X7_234 oM_held ?_
    refine V_topi (y := nI w.length) (by rw [vup_ne (by omega)]; exact hW.2.1) ?_
    refine V_iconst 1 dX7_takesE_136 (by decide) ?_
    refine V_iaddN (a := w.length) (b := 1) dX7_takesE_137 ?_
    refine V_putI dX7_takesE_138 fp_X7_234 oM_held ?_
    refine V_iinc_1 dX7_takesE_141 (by first | exact rfl | exact True.intro) (by decide) (nI ((npW w) + 1)) (nI_inc _) ?_
    refine V_aloadn_0 dX7_takesE_144 ?_
    refine V_getR dX7_takesE_145 fl_X7_44 oM_tested ?_
    refine V_iloadn_1 dX7_takesE_148 ?_
    refine V_iconst 0 dX7_takesE_149 (by decide) ?_
    refine V_zast (j := (npW w) + 1) dX7_takesE_150 aM_tested (by omega) (by decide) (by decide) ?_
    refine V_aloadn_0 dX7_takesE_151 ?_
    refine V_cv0n dX7_takesE_152 cv_X7_231 rcM (Nat.le_of_ble_eq_true rfl) (k_M_go (tp := tp) (n := n) (k := k + 1) (by omega) (hT.fx f3) (by rw [vup_ne (by omega), vup_ne (by omega), vup_ne (by omega)]; exact m9) (by rw [vup_ne (by omega), vup_ne (by omega), vup_ne (by omega)]; exact m13)) (fun σ5 h5 => ?_)
    refine V_goto dX7_takesE_155 172 (by decide) ?_
    refine V_aloadn_0 dX7_takesE_172 ?_
    refine V_cv0f dX7_takesE_173 cv_X7_256 rcM (Nat.le_of_ble_eq_true rfl) (k_M_nots (hW3.fg h5.2) (fun s hs => by rcases List.mem_cons.mp hs with e | e; exact Or.inr (Or.inl e); exact hok s e) (by simp only [List.length_cons]; omega)) ?_
    refine V_istoren_2 dX7_takesE_176 (by first | exact rfl | exact True.intro) (by decide) ?_
    refine V_goto dX7_takesE_177 28 (by decide) ?_
    refine V_lo (lo' := [some (.ref 97), some (.int (nI (npW (40 :: w)))), some (.int (nI (nnW (40 :: w)))), some (.int 1), none]) (by rw [np_40]) ?_
    exact kont σ5 ⟨h5.1, by rw [h5.2.2 14 (by omega)]; rw [vup_ne (by omega), vup_ne (by omega), vup_ne (by omega)]; exact h14, by rw [h5.2.2 19 (by omega)]; rw [vup_ne (by omega), vup_ne (by omega), vup_ne (by omega)]; exact h19, hW3.fg h5.2, hT3.of (h5.2.1 109 (by decide))⟩ (f3.tr h5.2.x)

set_option maxRecDepth 100000 in
set_option maxHeartbeats 4000000 in
theorem e_leaf {G : vG} {d : Nat} {Q : Option Value → vS → Prop} {σ : vS} (hd : 4 ≤ d + 1) {tp : Nat → Nat} {n ky k : Nat} {c w : List Nat} {t : List Bool} (hS : CF tp n ky k c w t σ) (hk2 : ky ≤ 2) (hok : wOK w) (hlen : c.length + w.length ≤ k) (hkF : k ≤ FF tp n k) (hnp : npW w ≤ 8) (hnn : nnW w ≤ 8) (htl : t.length = npW w + 1) (hd2 : dpL c = nbW w) (hwf : wfP ky c) (htk : tkN tp n ky k < 20000) (kont : ∀ σ', CF tp n ky (k + 1) ((stl 6 (c ++ [tkN tp n ky k]) w).1) ((stl 6 (c ++ [tkN tp n ky k]) w).2) (t) σ' → FX σ σ' → V G RX7 cX7_takesE (some .boolean) 5 (d + 1) Q 28 [some (.ref 97), some (.int (nI (npW ((stl 6 (c ++ [tkN tp n ky k]) w).2)))), some (.int (nI (nnW ((stl 6 (c ++ [tkN tp n ky k]) w).2)))), some (.int 0), none] [] σ') : V G RX7 cX7_takesE (some .boolean) 5 (d + 1) Q 28 [some (.ref 97), some (.int (nI (npW w))), some (.int (nI (nnW w))), some (.int 1), none] [] σ := by
  obtain ⟨hM, h14, h19, hW, hTS⟩ := id hS
  obtain ⟨hT, m10, m9, m13, m11, m12, m12b⟩ := id hM
  obtain ⟨m8, hn96, hta, h256⟩ := id hT
  have hfl := FF_le (tp := tp) (n := n) (k := k)
  have hel := EE_le (tp := tp) (n := n) (k := k + 1)
  have htk4 := tok_le (tp := tp) (n := n) (k := k)
  have hlv := lv_le (c := c)
  have h3 : tokN tp n k ≠ 3 := by rcases tk_val htk with q | q <;> omega
  have hF := (tk_leaf htk).1
  have hst := stl_inv (ky := ky) (r := 6) w (c ++ [tkN tp n ky k]) (wf_app hwf (tk_leaf htk).2 (fun q => by omega) (fun q => by omega)) hok (by rw [dp_app, if_pos htk]; omega)
  have hsl := stl_len (r := 6) w (c ++ [tkN tp n ky k])
  simp only [List.length_append, List.length_cons, List.length_nil] at hsl
  refine V_iloadn_3 dX7_takesE_28 ?_
  refine V_if_ne_t dX7_takesE_29 39 (by decide) (by decide) ?_
  refine V_iloadn_3 dX7_takesE_39 ?_
  refine V_if_eq_f dX7_takesE_40 180 (by decide) (by decide) ?_
  refine V_aloadn_0 dX7_takesE_43 ?_
  refine V_getI dX7_takesE_44 fl_X7_216 oM_token ?_
  refine V_topi (y := nI (tokN tp n k)) m11 ?_
  refine V_iconst 3 dX7_takesE_47 (by decide) ?_
  refine V_icmpN_ne (a := tokN tp n k) (b := 3) dX7_takesE_48 97 (by decide) (by omega) (by omega) (fun h48 => ?_) (fun h48 => ?_)
  · refine V_aloadn_0 dX7_takesE_97 ?_
    refine V_getI dX7_takesE_98 fl_X7_216 oM_token ?_
    refine V_topi (y := nI (tokN tp n k)) m11 ?_
    refine V_iconst 3 dX7_takesE_101 (by decide) ?_
    refine V_icmpN_ne (a := tokN tp n k) (b := 3) dX7_takesE_102 158 (by decide) (by omega) (by omega) (fun h102 => ?_) (fun h102 => ?_)
    · refine V_aloadn_0 dX7_takesE_158 ?_
      refine V_cv0r dX7_takesE_159 cv_X7_252 rcM (Nat.le_of_ble_eq_true rfl) (k_M_part (by omega) hS hk2 hok (by omega) htk) (fun σ5 h5 => ?_)
      refine V_if_eq_f dX7_takesE_162 170 (by decide) (by decide) ?_
      refine V_iconst 0 dX7_takesE_165 (by decide) ?_
      refine V_istoren_3 dX7_takesE_166 (by first | exact rfl | exact True.intro) (by decide) ?_
      refine V_goto dX7_takesE_167 172 (by decide) ?_
      refine V_aloadn_0 dX7_takesE_172 ?_
      refine V_cv0f dX7_takesE_173 cv_X7_256 rcM (Nat.le_of_ble_eq_true rfl) (k_M_nots h5.1.2.2.2.1 hst.2.1 (by omega)) ?_
      refine V_istoren_2 dX7_takesE_176 (by first | exact rfl | exact True.intro) (by decide) ?_
      refine V_goto dX7_takesE_177 28 (by decide) ?_
      refine V_lo (lo' := [some (.ref 97), some (.int (nI (npW ((stl 6 (c ++ [tkN tp n ky k]) w).2)))), some (.int (nI (nnW ((stl 6 (c ++ [tkN tp n ky k]) w).2)))), some (.int 0), none]) (by rw [hst.2.2.2.1]) ?_
      exact kont σ5 h5.1 h5.2
    · exact absurd h102 h3
  · exact absurd h48 h3

set_option maxRecDepth 100000 in
set_option maxHeartbeats 4000000 in
theorem e_wbad {G : vG} {d : Nat} {Q : Option Value → vS → Prop} {σ : vS} (hd : 4 ≤ d + 1) {tp : Nat → Nat} {n ky k : Nat} {c w : List Nat} {t : List Bool} (hS : CF tp n ky k c w t σ) (hk2 : ky ≤ 2) (hok : wOK w) (hlen : c.length + w.length ≤ k) (hkF : k ≤ FF tp n k) (hnp : npW w ≤ 8) (hnn : nnW w ≤ 8) (htl : t.length = npW w + 1) (h1 : ¬ (tkN tp n ky k = 20033 ∧ nnW w < 8)) (h2 : ¬ (tkN tp n ky k = 20040 ∧ npW w < 8)) (htk : ¬ tkN tp n ky k < 20000) (kont : Q (some (.int 0)) σ) : V G RX7 cX7_takesE (some .boolean) 5 (d + 1) Q 28 [some (.ref 97), some (.int (nI (npW w))), some (.int (nI (nnW w))), some (.int 1), none] [] σ := by
  obtain ⟨hM, h14, h19, hW, hTS⟩ := id hS
  obtain ⟨hT, m10, m9, m13, m11, m12, m12b⟩ := id hM
  obtain ⟨m8, hn96, hta, h256⟩ := id hT
  have hfl := FF_le (tp := tp) (n := n) (k := k)
  have hel := EE_le (tp := tp) (n := n) (k := k + 1)
  have htk4 := tok_le (tp := tp) (n := n) (k := k)
  have hlv := lv_le (c := c)
  refine V_iloadn_3 dX7_takesE_28 ?_
  refine V_if_ne_t dX7_takesE_29 39 (by decide) (by decide) ?_
  refine V_iloadn_3 dX7_takesE_39 ?_
  refine V_if_eq_f dX7_takesE_40 180 (by decide) (by decide) ?_
  refine V_aloadn_0 dX7_takesE_43 ?_
  refine V_getI dX7_takesE_44 fl_X7_216 oM_token ?_
  refine V_topi (y := nI (tokN tp n k)) m11 ?_
  refine V_iconst 3 dX7_takesE_47 (by decide) ?_
  refine V_icmpN_ne (a := tokN tp n k) (b := 3) dX7_takesE_48 97 (by decide) (by omega) (by omega) (fun h48 => ?_) (fun h48 => ?_)
  · refine V_aloadn_0 dX7_takesE_97 ?_
    refine V_getI dX7_takesE_98 fl_X7_216 oM_token ?_
    refine V_topi (y := nI (tokN tp n k)) m11 ?_
    refine V_iconst 3 dX7_takesE_101 (by decide) ?_
    refine V_icmpN_ne (a := tokN tp n k) (b := 3) dX7_takesE_102 158 (by decide) (by omega) (by omega) (fun h102 => ?_) (fun h102 => ?_)
    · refine V_aloadn_0 dX7_takesE_158 ?_
      refine V_cv0f dX7_takesE_159 cv_X7_252 rcM (Nat.le_of_ble_eq_true rfl) (k_M_partB (by omega) hS hk2 htk) ?_
      refine V_if_eq_t dX7_takesE_162 170 (by decide) (by decide) ?_
      refine V_iconst 0 dX7_takesE_170 (by decide) ?_
      exact V_zret dX7_takesE_171 (by decide) (kont)
    · have h3 := tok3 (ky := ky) h102
      have hb := h256 _ h3.1
      refine V_aloadn_0 dX7_takesE_105 ?_
      refine V_getI dX7_takesE_106 fl_X7_222 oM_value ?_
      refine V_topi (y := nI (tp (FF tp n k))) (m12 (Or.inr h102)) ?_
      refine V_bipush 40 dX7_takesE_109 (by decide) ?_
      refine V_icmpN_ne (a := tp (FF tp n k)) (b := 40) dX7_takesE_111 158 (by decide) (by omega) (by omega) (fun h111 => ?_) (fun h111 => ?_)
      · refine V_aloadn_0 dX7_takesE_158 ?_
        refine V_cv0f dX7_takesE_159 cv_X7_252 rcM (Nat.le_of_ble_eq_true rfl) (k_M_partB (by omega) hS hk2 htk) ?_
        refine V_if_eq_t dX7_takesE_162 170 (by decide) (by decide) ?_
        refine V_iconst 0 dX7_takesE_170 (by decide) ?_
        exact V_zret dX7_takesE_171 (by decide) (kont)
      · refine V_iloadn_1 dX7_takesE_114 ?_
        refine V_bipush 8 dX7_takesE_115 (by decide) ?_
        refine V_icmpN_ge (a := npW w) (b := 8) dX7_takesE_117 158 (by decide) (by omega) (by omega) (fun h117 => ?_) (fun h117 => ?_)
        · refine V_aloadn_0 dX7_takesE_158 ?_
          refine V_cv0f dX7_takesE_159 cv_X7_252 rcM (Nat.le_of_ble_eq_true rfl) (k_M_partB (by omega) hS hk2 htk) ?_
          refine V_if_eq_t dX7_takesE_162 170 (by decide) (by decide) ?_
          refine V_iconst 0 dX7_takesE_170 (by decide) ?_
          exact V_zret dX7_takesE_171 (by decide) (kont)
        · exact absurd ⟨by omega, h117⟩ h2
  · have h3 := tok3 (ky := ky) h48
    have hb := h256 _ h3.1
    refine V_aloadn_0 dX7_takesE_51 ?_
    refine V_getI dX7_takesE_52 fl_X7_222 oM_value ?_
    refine V_topi (y := nI (tp (FF tp n k))) (m12 (Or.inr h48)) ?_
    refine V_bipush 33 dX7_takesE_55 (by decide) ?_
    refine V_icmpN_ne (a := tp (FF tp n k)) (b := 33) dX7_takesE_57 97 (by decide) (by omega) (by omega) (fun h57 => ?_) (fun h57 => ?_)
    · refine V_aloadn_0 dX7_takesE_97 ?_
      refine V_getI dX7_takesE_98 fl_X7_216 oM_token ?_
      refine V_topi (y := nI (tokN tp n k)) m11 ?_
      refine V_iconst 3 dX7_takesE_101 (by decide) ?_
      refine V_icmpN_ne (a := tokN tp n k) (b := 3) dX7_takesE_102 158 (by decide) (by omega) (by omega) (fun h102 => ?_) (fun h102 => ?_)
      · refine V_aloadn_0 dX7_takesE_158 ?_
        refine V_cv0f dX7_takesE_159 cv_X7_252 rcM (Nat.le_of_ble_eq_true rfl) (k_M_partB (by omega) hS hk2 htk) ?_
        refine V_if_eq_t dX7_takesE_162 170 (by decide) (by decide) ?_
        refine V_iconst 0 dX7_takesE_170 (by decide) ?_
        exact V_zret dX7_takesE_171 (by decide) (kont)
      · have h3 := tok3 (ky := ky) h102
        have hb := h256 _ h3.1
        refine V_aloadn_0 dX7_takesE_105 ?_
        refine V_getI dX7_takesE_106 fl_X7_222 oM_value ?_
        refine V_topi (y := nI (tp (FF tp n k))) (m12 (Or.inr h102)) ?_
        refine V_bipush 40 dX7_takesE_109 (by decide) ?_
        refine V_icmpN_ne (a := tp (FF tp n k)) (b := 40) dX7_takesE_111 158 (by decide) (by omega) (by omega) (fun h111 => ?_) (fun h111 => ?_)
        · refine V_aloadn_0 dX7_takesE_158 ?_
          refine V_cv0f dX7_takesE_159 cv_X7_252 rcM (Nat.le_of_ble_eq_true rfl) (k_M_partB (by omega) hS hk2 htk) ?_
          refine V_if_eq_t dX7_takesE_162 170 (by decide) (by decide) ?_
          refine V_iconst 0 dX7_takesE_170 (by decide) ?_
          exact V_zret dX7_takesE_171 (by decide) (kont)
        · refine V_iloadn_1 dX7_takesE_114 ?_
          refine V_bipush 8 dX7_takesE_115 (by decide) ?_
          refine V_icmpN_ge (a := npW w) (b := 8) dX7_takesE_117 158 (by decide) (by omega) (by omega) (fun h117 => ?_) (fun h117 => ?_)
          · refine V_aloadn_0 dX7_takesE_158 ?_
            refine V_cv0f dX7_takesE_159 cv_X7_252 rcM (Nat.le_of_ble_eq_true rfl) (k_M_partB (by omega) hS hk2 htk) ?_
            refine V_if_eq_t dX7_takesE_162 170 (by decide) (by decide) ?_
            refine V_iconst 0 dX7_takesE_170 (by decide) ?_
            exact V_zret dX7_takesE_171 (by decide) (kont)
          · exact absurd ⟨by omega, h117⟩ h2
    · refine V_iloadn_2 dX7_takesE_60 ?_
      refine V_bipush 8 dX7_takesE_61 (by decide) ?_
      refine V_icmpN_ge (a := nnW w) (b := 8) dX7_takesE_63 97 (by decide) (by omega) (by omega) (fun h63 => ?_) (fun h63 => ?_)
      · refine V_aloadn_0 dX7_takesE_97 ?_
        refine V_getI dX7_takesE_98 fl_X7_216 oM_token ?_
        refine V_topi (y := nI (tokN tp n k)) m11 ?_
        refine V_iconst 3 dX7_takesE_101 (by decide) ?_
        refine V_icmpN_ne (a := tokN tp n k) (b := 3) dX7_takesE_102 158 (by decide) (by omega) (by omega) (fun h102 => ?_) (fun h102 => ?_)
        · refine V_aloadn_0 dX7_takesE_158 ?_
          refine V_cv0f dX7_takesE_159 cv_X7_252 rcM (Nat.le_of_ble_eq_true rfl) (k_M_partB (by omega) hS hk2 htk) ?_
          refine V_if_eq_t dX7_takesE_162 170 (by decide) (by decide) ?_
          refine V_iconst 0 dX7_takesE_170 (by decide) ?_
          exact V_zret dX7_takesE_171 (by decide) (kont)
        · have h3 := tok3 (ky := ky) h102
          have hb := h256 _ h3.1
          refine V_aloadn_0 dX7_takesE_105 ?_
          refine V_getI dX7_takesE_106 fl_X7_222 oM_value ?_
          refine V_topi (y := nI (tp (FF tp n k))) (m12 (Or.inr h102)) ?_
          refine V_bipush 40 dX7_takesE_109 (by decide) ?_
          refine V_icmpN_ne (a := tp (FF tp n k)) (b := 40) dX7_takesE_111 158 (by decide) (by omega) (by omega) (fun h111 => ?_) (fun h111 => ?_)
          · refine V_aloadn_0 dX7_takesE_158 ?_
            refine V_cv0f dX7_takesE_159 cv_X7_252 rcM (Nat.le_of_ble_eq_true rfl) (k_M_partB (by omega) hS hk2 htk) ?_
            refine V_if_eq_t dX7_takesE_162 170 (by decide) (by decide) ?_
            refine V_iconst 0 dX7_takesE_170 (by decide) ?_
            exact V_zret dX7_takesE_171 (by decide) (kont)
          · refine V_iloadn_1 dX7_takesE_114 ?_
            refine V_bipush 8 dX7_takesE_115 (by decide) ?_
            refine V_icmpN_ge (a := npW w) (b := 8) dX7_takesE_117 158 (by decide) (by omega) (by omega) (fun h117 => ?_) (fun h117 => ?_)
            · refine V_aloadn_0 dX7_takesE_158 ?_
              refine V_cv0f dX7_takesE_159 cv_X7_252 rcM (Nat.le_of_ble_eq_true rfl) (k_M_partB (by omega) hS hk2 htk) ?_
              refine V_if_eq_t dX7_takesE_162 170 (by decide) (by decide) ?_
              refine V_iconst 0 dX7_takesE_170 (by decide) ?_
              exact V_zret dX7_takesE_171 (by decide) (kont)
            · exact absurd ⟨by omega, h117⟩ h2
      · exact absurd ⟨by omega, h63⟩ h1

set_option maxRecDepth 100000 in
set_option maxHeartbeats 4000000 in
theorem e_close {G : vG} {d : Nat} {Q : Option Value → vS → Prop} {σ : vS} (hd : 4 ≤ d + 1) {tp : Nat → Nat} {n ky k : Nat} {c w : List Nat} {t : List Bool} (hS : CF tp n ky k c w t σ) (hk2 : ky ≤ 2) (hok : wOK w) (hlen : c.length + w.length ≤ k) (hkF : k ≤ FF tp n k) (hnp : npW w ≤ 8) (hnn : nnW w ≤ 8) (htl : t.length = npW w + 1) (hd2 : dpL c = nbW w + 1) (hwf : wfP ky c) (htk : tkN tp n ky k = 20000 + 41) (h0 : 0 < npW w) (kont : ∀ σ', CF tp n ky (k + 1) ((stl 6 (stl 0 c w).1 (stl 0 c w).2.tail).1) ((stl 6 (stl 0 c w).1 (stl 0 c w).2.tail).2) (t.tail) σ' → FX σ σ' → V G RX7 cX7_takesE (some .boolean) 5 (d + 1) Q 28 [some (.ref 97), some (.int (nI (npW ((stl 6 (stl 0 c w).1 (stl 0 c w).2.tail).2)))), some (.int (nI (nnW ((stl 6 (stl 0 c w).1 (stl 0 c w).2.tail).2)))), some (.int 0), none] [] σ') : V G RX7 cX7_takesE (some .boolean) 5 (d + 1) Q 28 [some (.ref 97), some (.int (nI (npW w))), some (.int (nI (nnW w))), some (.int 0), none] [] σ := by
  obtain ⟨hM, h14, h19, hW, hTS⟩ := id hS
  obtain ⟨hT, m10, m9, m13, m11, m12, m12b⟩ := id hM
  obtain ⟨m8, hn96, hta, h256⟩ := id hT
  have hfl := FF_le (tp := tp) (n := n) (k := k)
  have hel := EE_le (tp := tp) (n := n) (k := k + 1)
  have htk4 := tok_le (tp := tp) (n := n) (k := k)
  have hlv := lv_le (c := c)
  have h20 := tk20 htk (by decide)
  have hF := h20.1
  rw [h20.2.1] at m11
  have hva := m12 (Or.inr h20.2.1)
  rw [h20.2.2] at hva
  have hst := stl_inv (ky := ky) (r := 0) w c hwf hok hd2
  have hsl := stl_len (r := 0) w c
  obtain ⟨u, hu⟩ := stl0_open (c := c) w c h0
  obtain ⟨b, t2, rfl⟩ : ∃ b t2, t = b :: t2 := by
    cases t with
    | nil => simp only [List.length_nil] at htl; omega
    | cons b t2 => exact ⟨b, t2, rfl⟩
  rw [hu] at hst hsl
  have hou : wOK u := fun s hs => hst.2.1 s (List.mem_cons_of_mem _ hs)
  have hnu : npW u = npW w - 1 := by have := hst.2.2.2.1; rw [np_40] at this; omega
  have hst6 := stl_inv (ky := ky) (r := 6) u (stl 0 c w).1 hst.1 hou (by have := hst.2.2.1; rw [nb_n rfl] at this; exact this)
  have hsl6 := stl_len (r := 6) u (stl 0 c w).1
  simp only [List.length_cons] at hsl
  have htt : (stl 0 c w).2.tail = u := by rw [hu]; rfl
  rw [htt] at kont
  refine V_iloadn_3 dX7_takesE_28 ?_
  refine V_if_ne_f dX7_takesE_29 39 (by decide) (by decide) ?_
  refine V_aloadn_0 dX7_takesE_32 ?_
  refine V_getI dX7_takesE_33 fl_X7_216 oM_token ?_
  refine V_topi (y := 3) m11 ?_
  refine V_if_eq_f dX7_takesE_36 345 (by decide) (by decide) ?_
  refine V_iloadn_3 dX7_takesE_39 ?_
  refine V_if_eq_t dX7_takesE_40 180 (by decide) (by decide) ?_
  refine V_aloadn_0 dX7_takesE_180 ?_
  refine V_getI dX7_takesE_181 fl_X7_216 oM_token ?_
  refine V_topi (y := 3) m11 ?_
  refine V_iconst 3 dX7_takesE_184 (by decide) ?_
  refine V_icmp_ne_f dX7_takesE_185 237 (by decide) (by decide) ?_
  refine V_aloadn_0 dX7_takesE_188 ?_
  refine V_getI dX7_takesE_189 fl_X7_222 oM_value ?_
  refine V_topi (y := 41) hva ?_
  refine V_bipush 41 dX7_takesE_192 (by decide) ?_
  refine V_icmp_ne_f dX7_takesE_194 237 (by decide) (by decide) ?_
  refine V_iloadn_1 dX7_takesE_197 ?_
  refine V_ifN_le (a := npW w) dX7_takesE_198 237 (by decide) (by omega) (fun h198 => ?_) (fun h198 => ?_)
  · exfalso; omega
  · refine V_aloadn_0 dX7_takesE_201 ?_
    refine V_iconst 0 dX7_takesE_202 (by decide) ?_
    refine V_cv1n dX7_takesE_203 cv_X7_249 rcM (Nat.le_of_ble_eq_true rfl) (k_M_settle (r := 0) (by omega) hW hok (by omega) (by decide)) (fun σ4 h4 => ?_)
    have hW4 := h4.1
    rw [hu] at hW4
    refine V_aloadn_0 dX7_takesE_206 ?_
    refine V_dup dX7_takesE_207 rfl ?_
    refine V_getI dX7_takesE_208 fl_X7_234 oM_held ?_
    refine V_topi (y := nI (u.length + 1)) (by have := h4.1.2.1; rw [hu] at this; exact this) ?_
    refine V_iconst 1 dX7_takesE_211 (by decide) ?_
    refine V_isubN (a := u.length + 1) (b := 1) dX7_takesE_212 (by omega) ?_
    refine V_putI dX7_takesE_213 fp_X7_234 oM_held ?_
    refine V_iinc_1 dX7_takesE_216 (by first | exact rfl | exact True.intro) (by decide) (nI ((npW w) - 1)) (nI_dec (by omega)) ?_
    refine V_aloadn_0 dX7_takesE_219 ?_
    refine V_bipush 6 dX7_takesE_220 (by decide) ?_
    refine V_cv1n dX7_takesE_222 cv_X7_249 rcM (Nat.le_of_ble_eq_true rfl) (k_M_settle (r := 6) (by omega) hW4.drop hou (by omega) (by decide)) (fun σ6 h6 => ?_)
    have f3 : FX σ σ6 := (h4.2.x.tr (FX.up (by omega))).tr h6.2.x
    refine V_aloadn_0 dX7_takesE_225 ?_
    refine V_cv0f dX7_takesE_226 cv_X7_256 rcM (Nat.le_of_ble_eq_true rfl) (k_M_nots h6.1 hst6.2.1 (by omega)) ?_
    refine V_istoren_2 dX7_takesE_229 (by first | exact rfl | exact True.intro) (by decide) ?_
    refine V_aloadn_0 dX7_takesE_230 ?_
    refine V_cv0n dX7_takesE_231 cv_X7_231 rcM (Nat.le_of_ble_eq_true rfl) (k_M_go (tp := tp) (n := n) (k := k + 1) (by omega) (hT.fx f3) (by rw [h6.2.2 _ (by decide) (by decide), vup_ne (by omega), h4.2.2 _ (by decide) (by decide)]; exact m9) (by rw [h6.2.2 _ (by decide) (by decide), vup_ne (by omega), h4.2.2 _ (by decide) (by decide)]; exact m13)) (fun σ5 h5 => ?_)
    refine V_goto dX7_takesE_234 28 (by decide) ?_
    refine V_lo (lo' := [some (.ref 97), some (.int (nI (npW ((stl 6 (stl 0 c w).1 u).2)))), some (.int (nI (nnW ((stl 6 (stl 0 c w).1 u).2)))), some (.int 0), none]) (by rw [hst6.2.2.2.1, hnu]) ?_
    exact kont σ5 ⟨h5.1, by rw [h5.2.2 14 (by omega), h6.2.2 _ (by decide) (by decide), vup_ne (by omega), h4.2.2 _ (by decide) (by decide)]; exact h14, by rw [h5.2.2 19 (by omega), h6.2.2 _ (by decide) (by decide), vup_ne (by omega), h4.2.2 _ (by decide) (by decide), stl_lv, stl_lv]; exact h19, h6.1.fg h5.2, hTS.tail.of (by rw [h5.2.1 109 (by decide), h6.2.1 109 (by decide) (by decide), vup_p (by decide), h4.2.1 109 (by decide) (by decide)])⟩ (f3.tr h5.2.x)
