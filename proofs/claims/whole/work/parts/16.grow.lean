/-! ===== towns grow ===== -/
def emS (σ : vS) (t c : Nat) : vS := vup (vup (vup σ (t + 4) (c * 3 + 0) 0) (t + 4) (c * 3 + 1) 0) (t + 4) (c * 3 + 2) 0
theorem emS_p {σ : vS} {t c q : Nat} (h : q ≠ t + 4) : emS σ t c q = σ q := by
  unfold emS
  rw [vup_p h, vup_p h, vup_p h]
theorem emS_in {σ : vS} {t c s : Nat} (h : s < 3) : emS σ t c (t + 4) (c * 3 + s) = 0 := by
  unfold emS
  rcases (show s = 0 ∨ s = 1 ∨ s = 2 by omega) with rfl | rfl | rfl
  · rw [vup_ne (by omega), vup_ne (by omega), vup_same]
  · rw [vup_ne (by omega), vup_same]
  · rw [vup_same]
theorem emS_off {σ : vS} {t c i : Nat} (h : ¬ (c * 3 ≤ i ∧ i < c * 3 + 3)) : emS σ t c (t + 4) i = σ (t + 4) i := by
  unfold emS
  rw [vup_ne (by omega), vup_ne (by omega), vup_ne (by omega)]
theorem emS_fr {σ : vS} {t c : Nat} : Fr t σ (emS σ t c) := fun q a _ => emS_p (by omega)
def bud (T : nT) : Nat := sumT T (T 0 5) + T 0 11
def addCT (T : nT) (k f l : Nat) : nT := fun a i => if a = 0 ∧ i = 5 then T 0 5 + 1 else if a = 1 ∧ i = T 0 5 then k else if a = 2 ∧ i = T 0 5 then f else if a = 3 ∧ i = T 0 5 then l else if a = 4 ∧ T 0 5 * 3 ≤ i ∧ i < T 0 5 * 3 + 3 then 0 else T a i
def addPT (T : nT) (x y v : Nat) : nT := fun a i => if a = 0 ∧ i = 10 then T 0 10 + 1 else if a = 6 ∧ i = T 0 10 then x else if a = 7 ∧ i = T 0 10 then y else if a = 8 ∧ i = T 0 10 then v else if a = 9 ∧ i = T 0 10 then 0 else T a i
def addTT (T : nT) (key : Nat) : nT := fun a i => if a = 0 ∧ i = 15 then T 0 15 + 1 else if a = 10 ∧ i = key then T 0 15 + 1 else T a i
def emptyT (T : nT) (c : Nat) : nT := fun a i => if a = 4 ∧ c * 3 ≤ i ∧ i < c * 3 + 3 then 0 else T a i
section AddC
variable {T L : nT} {k f l c x y v key : Nat}
theorem addC_5 : addCT T k f l 0 5 = T 0 5 + 1 := by simp [addCT]
theorem addC_0 {i : Nat} (h : i ≠ 5) : addCT T k f l 0 i = T 0 i := by simp [addCT, h]
theorem addC_new : addCT T k f l 1 (T 0 5) = k ∧ addCT T k f l 2 (T 0 5) = f ∧ addCT T k f l 3 (T 0 5) = l := by simp [addCT]
theorem addC_old (h : c ≠ T 0 5) : addCT T k f l 1 c = T 1 c ∧ addCT T k f l 2 c = T 2 c ∧ addCT T k f l 3 c = T 3 c := by simp [addCT, h]
theorem addC_w0 {s : Nat} (h : s < 3) : addCT T k f l 4 (T 0 5 * 3 + s) = 0 := by
  unfold addCT
  rw [if_neg (by omega), if_neg (by omega), if_neg (by omega), if_neg (by omega), if_pos ⟨rfl, by omega, by omega⟩]
theorem addC_w {i : Nat} (h : ¬ (T 0 5 * 3 ≤ i ∧ i < T 0 5 * 3 + 3)) : addCT T k f l 4 i = T 4 i := by
  unfold addCT
  rw [if_neg (by omega), if_neg (by omega), if_neg (by omega), if_neg (by omega), if_neg (by omega)]
theorem addC_k {a i : Nat} (h : 5 ≤ a) : addCT T k f l a i = T a i := by
  unfold addCT
  rw [if_neg (by omega), if_neg (by omega), if_neg (by omega), if_neg (by omega), if_neg (by omega)]
theorem addC_full0 : fullT (addCT T k f l) (T 0 5) = 0 := by
  have h0 := addC_w0 (T := T) (k := k) (f := f) (l := l) (s := 0) (by decide)
  have h1 := addC_w0 (T := T) (k := k) (f := f) (l := l) (s := 1) (by decide)
  have h2 := addC_w0 (T := T) (k := k) (f := f) (l := l) (s := 2) (by decide)
  rw [Nat.add_zero] at h0
  unfold fullT
  omega
theorem addC_full (h : c < T 0 5) : fullT (addCT T k f l) c = fullT T c := full_eq (fun s hs => addC_w (by omega))
theorem addC_bud : bud (addCT T k f l) = bud T := by
  unfold bud
  rw [addC_5, addC_0 (by decide)]
  simp only [sumT]
  rw [addC_full0, sum_eq _ (fun c hc => addC_full hc)]
  omega
theorem TI.addC (h : TI T) (hn : T 0 5 < 8) (hk : k ≤ 5) (hf : f ≤ 99) (hl : 1 ≤ l ∧ l ≤ 99) : TI (addCT T k f l) := by
  obtain ⟨i1, i2, i3, i4, i5, i6, i7, i8, i9⟩ := h
  have hb := addC_bud (T := T) (k := k) (f := f) (l := l)
  unfold bud at hb
  refine ⟨by rw [addC_5]; omega, by rw [addC_0 (by decide)]; exact i2, fun c hc => ?_, fun p hp => ?_, by omega, by rw [addC_0 (by decide)]; exact i6, by rw [addC_0 (by decide)]; exact i7, by rw [addC_0 (by decide)]; exact i8, fun q hq => by rw [addC_k (by decide), addC_0 (by decide)]; exact i9 q hq⟩
  · rw [addC_5] at hc
    by_cases e : c = T 0 5
    · subst e
      obtain ⟨e1, e2, e3⟩ := addC_new (T := T) (k := k) (f := f) (l := l)
      rw [e1, e2, e3]
      exact ⟨hk, hf, hl⟩
    · obtain ⟨e1, e2, e3⟩ := addC_old (T := T) (k := k) (f := f) (l := l) e
      rw [e1, e2, e3]
      exact i3 c (by omega)
  · rw [addC_0 (by decide)] at hp
    rw [addC_5, addC_k (by decide), addC_k (by decide), addC_k (by decide), addC_k (by decide)]
    have := i4 p hp
    omega
theorem addP_k {a i : Nat} (h : a < 6 ∨ 9 < a) (h2 : ¬ (a = 0 ∧ i = 10)) : addPT T x y v a i = T a i := by
  unfold addPT
  rw [if_neg h2, if_neg (by omega), if_neg (by omega), if_neg (by omega), if_neg (by omega)]
theorem addP_10 : addPT T x y v 0 10 = T 0 10 + 1 := by simp [addPT]
theorem addP_new : addPT T x y v 6 (T 0 10) = x ∧ addPT T x y v 7 (T 0 10) = y ∧ addPT T x y v 8 (T 0 10) = v ∧ addPT T x y v 9 (T 0 10) = 0 := by simp [addPT]
theorem addP_old (h : c ≠ T 0 10) : addPT T x y v 6 c = T 6 c ∧ addPT T x y v 7 c = T 7 c ∧ addPT T x y v 8 c = T 8 c ∧ addPT T x y v 9 c = T 9 c := by simp [addPT, h]
theorem addP_full : fullT (addPT T x y v) c = fullT T c := full_eq (fun s _ => addP_k (by omega) (by omega))
theorem addP_bud : bud (addPT T x y v) = bud T := by
  unfold bud
  rw [addP_k (by omega) (by omega), addP_k (by omega) (by omega), sum_eq _ (fun c _ => addP_full)]
theorem TI.addP (h : TI T) (hm : T 0 10 < 13) (hx : x < T 0 5) (hy : y < T 0 5) (hxy : x ≠ y) (hv : v ≤ 9) : TI (addPT T x y v) := by
  obtain ⟨i1, i2, i3, i4, i5, i6, i7, i8, i9⟩ := h
  have hb := addP_bud (T := T) (x := x) (y := y) (v := v)
  unfold bud at hb
  have e5 : addPT T x y v 0 5 = T 0 5 := addP_k (by omega) (by omega)
  refine ⟨by rw [e5]; exact i1, by rw [addP_10]; omega, fun c hc => ?_, fun p hp => ?_, by omega, by rw [addP_k (by omega) (by omega)]; exact i6, by rw [addP_k (by omega) (by omega)]; exact i7, by rw [addP_k (by omega) (by omega)]; exact i8, fun q hq => by rw [addP_k (by omega) (by omega), addP_k (by omega) (by omega)]; exact i9 q hq⟩
  · rw [e5] at hc
    rw [addP_k (by omega) (by omega), addP_k (by omega) (by omega), addP_k (by omega) (by omega)]
    exact i3 c hc
  · rw [addP_10] at hp
    rw [e5]
    by_cases e : p = T 0 10
    · subst e
      obtain ⟨e1, e2, e3, e4⟩ := addP_new (T := T) (x := x) (y := y) (v := v)
      rw [e1, e2, e3, e4]
      omega
    · obtain ⟨e1, e2, e3, e4⟩ := addP_old (T := T) (x := x) (y := y) (v := v) e
      rw [e1, e2, e3, e4]
      exact i4 p (by omega)
theorem addT_k {a i : Nat} (h2 : ¬ (a = 0 ∧ i = 15)) (h3 : ¬ (a = 10 ∧ i = key)) : addTT T key a i = T a i := by
  unfold addTT
  rw [if_neg h2, if_neg h3]
theorem addT_15 : addTT T key 0 15 = T 0 15 + 1 := by simp [addTT]
theorem addT_key : addTT T key 10 key = T 0 15 + 1 := by simp [addTT]
theorem addT_bud : bud (addTT T key) = bud T := by
  unfold bud
  rw [addT_k (by omega) (by omega), addT_k (by omega) (by omega), sum_eq _ (fun c _ => full_eq (fun s _ => addT_k (by omega) (by omega)))]
theorem TI.addT (h : TI T) (hx : T 0 15 < 14) : TI (addTT T key) := by
  obtain ⟨i1, i2, i3, i4, i5, i6, i7, i8, i9⟩ := h
  have hb := addT_bud (T := T) (key := key)
  unfold bud at hb
  have e5 : addTT T key 0 5 = T 0 5 := addT_k (by omega) (by omega)
  have e10 : addTT T key 0 10 = T 0 10 := addT_k (by omega) (by omega)
  refine ⟨by rw [e5]; exact i1, by rw [e10]; exact i2, fun c hc => ?_, fun p hp => ?_, by omega, by rw [addT_k (by omega) (by omega)]; exact i6, by rw [addT_k (by omega) (by omega)]; exact i7, by rw [addT_15]; omega, fun q hq => ?_⟩
  · rw [e5] at hc
    rw [addT_k (by omega) (by omega), addT_k (by omega) (by omega), addT_k (by omega) (by omega)]
    exact i3 c hc
  · rw [e10] at hp
    rw [e5, addT_k (by omega) (by omega), addT_k (by omega) (by omega), addT_k (by omega) (by omega), addT_k (by omega) (by omega)]
    exact i4 p hp
  · rw [addT_15]
    by_cases e : q = key
    · subst e; rw [addT_key]; omega
    · rw [addT_k (by omega) (by omega)]
      have := i9 q hq
      omega
end AddC

set_option maxRecDepth 100000 in
set_option maxHeartbeats 4000000 in
theorem k_T_empty {G : vG} {σ : vS} {d : Nat} (hd : 3 ≤ d) {L T : nT} {N t c : Nat} (hc8 : c < 8) (hC : TC0 L N t T (emS σ t c)) (hc : c < T 0 5) : Cr G yX5_empty cX5_empty 3 none d [.ref t, .int (nI c)] σ none (fun σ' => refP t c (highT L T c) (emS σ t c) σ') := by
  refine Ct.ofV (by decide) (Nat.le_of_ble_eq_true rfl) rfl ?_
  show V G RX5 cX5_empty none 3 d _ 0 [some (.ref t), some (.int (nI c)), none] [] _
  obtain ⟨d, rfl⟩ : ∃ e, d = e + 1 := ⟨d - 1, by omega⟩
  have ht := hC.1
  refine V_iconst 0 dX5_empty_0 (by decide) ?_
  refine V_istoren_2 dX5_empty_1 (by first | exact rfl | exact True.intro) (by decide) ?_
  refine V_iloadn_2 dX5_empty_2 ?_
  refine V_iconst 3 dX5_empty_3 (by decide) ?_
  refine V_icmp_ge_f dX5_empty_4 24 (by decide) (by decide) ?_
  refine V_aloadn_0 dX5_empty_7 ?_
  refine V_getR dX5_empty_8 fl_X5_21 (oT_wine ht) ?_
  refine V_iloadn_1 dX5_empty_11 ?_
  refine V_iconst 3 dX5_empty_12 (by decide) ?_
  refine V_imulN (a := c) (b := 3) dX5_empty_13 ?_
  refine V_iloadn_2 dX5_empty_14 ?_
  refine V_iaddN (a := c * 3) (b := 0) dX5_empty_15 ?_
  refine V_iconst 0 dX5_empty_16 (by decide) ?_
  refine V_iast (j := (c * 3) + 0) dX5_empty_17 (aT_wine ht) (by omega) (by decide) ?_
  refine V_iinc_2 dX5_empty_18 (by first | exact rfl | exact True.intro) (by decide) 1 (by decide) ?_
  refine V_goto dX5_empty_21 2 (by decide) ?_
  refine V_iloadn_2 dX5_empty_2 ?_
  refine V_iconst 3 dX5_empty_3 (by decide) ?_
  refine V_icmp_ge_f dX5_empty_4 24 (by decide) (by decide) ?_
  refine V_aloadn_0 dX5_empty_7 ?_
  refine V_getR dX5_empty_8 fl_X5_21 (oT_wine ht) ?_
  refine V_iloadn_1 dX5_empty_11 ?_
  refine V_iconst 3 dX5_empty_12 (by decide) ?_
  refine V_imulN (a := c) (b := 3) dX5_empty_13 ?_
  refine V_iloadn_2 dX5_empty_14 ?_
  refine V_iaddN (a := c * 3) (b := 1) dX5_empty_15 ?_
  refine V_iconst 0 dX5_empty_16 (by decide) ?_
  refine V_iast (j := (c * 3) + 1) dX5_empty_17 (aT_wine ht) (by omega) (by decide) ?_
  refine V_iinc_2 dX5_empty_18 (by first | exact rfl | exact True.intro) (by decide) 2 (by decide) ?_
  refine V_goto dX5_empty_21 2 (by decide) ?_
  refine V_iloadn_2 dX5_empty_2 ?_
  refine V_iconst 3 dX5_empty_3 (by decide) ?_
  refine V_icmp_ge_f dX5_empty_4 24 (by decide) (by decide) ?_
  refine V_aloadn_0 dX5_empty_7 ?_
  refine V_getR dX5_empty_8 fl_X5_21 (oT_wine ht) ?_
  refine V_iloadn_1 dX5_empty_11 ?_
  refine V_iconst 3 dX5_empty_12 (by decide) ?_
  refine V_imulN (a := c) (b := 3) dX5_empty_13 ?_
  refine V_iloadn_2 dX5_empty_14 ?_
  refine V_iaddN (a := c * 3) (b := 2) dX5_empty_15 ?_
  refine V_iconst 0 dX5_empty_16 (by decide) ?_
  refine V_iast (j := (c * 3) + 2) dX5_empty_17 (aT_wine ht) (by omega) (by decide) ?_
  refine V_iinc_2 dX5_empty_18 (by first | exact rfl | exact True.intro) (by decide) 3 (by decide) ?_
  refine V_goto dX5_empty_21 2 (by decide) ?_
  refine V_iloadn_2 dX5_empty_2 ?_
  refine V_iconst 3 dX5_empty_3 (by decide) ?_
  refine V_icmp_ge_t dX5_empty_4 24 (by decide) (by decide) ?_
  refine V_hp (σ' := emS σ t c) rfl ?_
  refine V_aloadn_0 dX5_empty_24 ?_
  refine V_iloadn_1 dX5_empty_25 ?_
  refine V_cv1n dX5_empty_26 cv_X5_86 (rcT ht) (Nat.le_of_ble_eq_true rfl) (k_T_refresh (by omega) hC hc) (fun σ' h9 => ?_)
  exact V_vret dX5_empty_29 ⟨rfl, h9⟩

theorem addC_TA0 {t k f l : Nat} {T : nT} {σ : vS} (h : TA0 t T σ) : TA0 t (addCT T k f l) (emS (vup (vup (vup (vup σ t 5 (nI (T 0 5 + 1))) (t + 1) (T 0 5) (nI k)) (t + 2) (T 0 5) (nI f)) (t + 3) (T 0 5) (nI l)) t (T 0 5)) := by
  obtain ⟨⟨b1, b2, b3, b4, b5, b6, b7⟩, a2, a3, a4, a5⟩ := h
  unfold TA0
  refine ⟨⟨?_, ?_, ?_, ?_, ?_, ?_, ?_⟩, fun c hc => ?_, fun i hi => ?_, fun p hp => ?_, fun q hq => ?_⟩
  · rw [emS_p (by omega), vup_ne (by omega), vup_ne (by omega), vup_ne (by omega), vup_same, addC_5]
  · rw [emS_p (by omega), vup_ne (by omega), vup_ne (by omega), vup_ne (by omega), vup_ne (by omega), addC_0 (by decide)]; exact b2
  · rw [emS_p (by omega), vup_ne (by omega), vup_ne (by omega), vup_ne (by omega), vup_ne (by omega), addC_0 (by decide)]; exact b3
  · rw [emS_p (by omega), vup_ne (by omega), vup_ne (by omega), vup_ne (by omega), vup_ne (by omega), addC_0 (by decide)]; exact b4
  · rw [emS_p (by omega), vup_ne (by omega), vup_ne (by omega), vup_ne (by omega), vup_ne (by omega), addC_0 (by decide)]; exact b5
  · rw [emS_p (by omega), vup_ne (by omega), vup_ne (by omega), vup_ne (by omega), vup_ne (by omega), addC_0 (by decide)]; exact b6
  · rw [emS_p (by omega), vup_ne (by omega), vup_ne (by omega), vup_ne (by omega), vup_ne (by omega), addC_0 (by decide)]; exact b7
  · rw [addC_5] at hc
    rw [emS_p (by omega), emS_p (by omega), emS_p (by omega)]
    by_cases e : c = T 0 5
    · subst e
      obtain ⟨e1, e2, e3⟩ := addC_new (T := T) (k := k) (f := f) (l := l)
      rw [e1, e2, e3]
      refine ⟨?_, ?_, ?_⟩
      · rw [vup_ne (by omega), vup_ne (by omega), vup_same]
      · rw [vup_ne (by omega), vup_same]
      · rw [vup_same]
    · obtain ⟨e1, e2, e3⟩ := addC_old (T := T) (k := k) (f := f) (l := l) e
      rw [e1, e2, e3]
      obtain ⟨g1, g2, g3⟩ := a2 c (by omega)
      refine ⟨?_, ?_, ?_⟩
      · rw [vup_ne (by omega), vup_ne (by omega), vup_ne (by omega), vup_ne (by omega)]; exact g1
      · rw [vup_ne (by omega), vup_ne (by omega), vup_ne (by omega), vup_ne (by omega)]; exact g2
      · rw [vup_ne (by omega), vup_ne (by omega), vup_ne (by omega), vup_ne (by omega)]; exact g3
  · rw [addC_5] at hi
    by_cases e : T 0 5 * 3 ≤ i
    · have e1 := emS_in (σ := (vup (vup (vup (vup σ t 5 (nI (T 0 5 + 1))) (t + 1) (T 0 5) (nI k)) (t + 2) (T 0 5) (nI f)) (t + 3) (T 0 5) (nI l))) (t := t) (c := T 0 5) (s := i - T 0 5 * 3) (by omega)
      have e2 := addC_w0 (T := T) (k := k) (f := f) (l := l) (s := i - T 0 5 * 3) (by omega)
      rw [show T 0 5 * 3 + (i - T 0 5 * 3) = i by omega] at e1 e2
      rw [e1, e2]
      rfl
    · rw [emS_off (by omega), addC_w (by omega), vup_ne (by omega), vup_ne (by omega), vup_ne (by omega), vup_ne (by omega)]
      exact a3 i (by omega)
  · rw [addC_0 (by decide)] at hp
    rw [addC_k (by decide), addC_k (by decide), addC_k (by decide), addC_k (by decide), emS_p (by omega), emS_p (by omega), emS_p (by omega), emS_p (by omega), vup_p (by omega), vup_p (by omega), vup_p (by omega), vup_p (by omega), vup_p (by omega), vup_p (by omega), vup_p (by omega), vup_p (by omega), vup_p (by omega), vup_p (by omega), vup_p (by omega), vup_p (by omega), vup_p (by omega), vup_p (by omega), vup_p (by omega), vup_p (by omega)]
    exact a4 p hp
  · rw [addC_k (by decide), emS_p (by omega), vup_p (by omega), vup_p (by omega), vup_p (by omega), vup_p (by omega)]
    exact a5 q hq

set_option maxRecDepth 100000 in
set_option maxHeartbeats 4000000 in
theorem k_T_addCellar {G : vG} {σ : vS} {d : Nat} (hd : 4 ≤ d) {L T : nT} {N t : Nat} (hC : TC L N t T σ) {k f l : Nat} (hn8 : T 0 5 < 8) (hk : k ≤ 5) (hf : f ≤ 99) (hl : 1 ≤ l ∧ l ≤ 99) : Cr G yX5_addCellar cX5_addCellar 5 (some .int) d [.ref t, .int (nI k), .int (nI f), .int (nI l)] σ (some (.int (nI (T 0 5)))) (fun σ' => TC L N t (addCT T k f l) σ' ∧ Fr t σ σ') := by
  refine Ct.ofV (by decide) (Nat.le_of_ble_eq_true rfl) rfl ?_
  show V G RX5 cX5_addCellar (some .int) 5 d _ 0 [some (.ref t), some (.int (nI k)), some (.int (nI f)), some (.int (nI l)), none] [] _
  obtain ⟨d, rfl⟩ : ∃ e, d = e + 1 := ⟨d - 1, by omega⟩
  obtain ⟨ht, hH, hI, hL, hLI, hN, hN2⟩ := id hC
  have hT := hH.1
  have hn := hI.nc
  have hm := hI.np
  have hI1 := hI.addC hn8 hk hf hl
  have e5 := addC_5 (T := T) (k := k) (f := f) (l := l)
  have e15 : addCT T k f l 0 15 = T 0 15 := addC_0 (by decide)
  have hg := ht.ge
  refine V_aloadn_0 dX5_addCellar_0 ?_
  refine V_getI dX5_addCellar_1 fl_X5_62 (oT_cellars ht) ?_
  refine V_topi hT.n5 ?_
  refine V_istore_4 dX5_addCellar_4 (by first | exact rfl | exact True.intro) (by decide) ?_
  refine V_aloadn_0 dX5_addCellar_6 ?_
  refine V_dup dX5_addCellar_7 rfl ?_
  refine V_getI dX5_addCellar_8 fl_X5_62 (oT_cellars ht) ?_
  refine V_topi hT.n5 ?_
  refine V_iconst 1 dX5_addCellar_11 (by decide) ?_
  refine V_iaddN (a := T 0 5) (b := 1) dX5_addCellar_12 ?_
  refine V_putI dX5_addCellar_13 fp_X5_62 (oT_cellars ht) ?_
  refine V_aloadn_0 dX5_addCellar_16 ?_
  refine V_getR dX5_addCellar_17 fl_X5_9 (oT_kind ht) ?_
  refine V_iload_4 dX5_addCellar_20 ?_
  refine V_iloadn_1 dX5_addCellar_22 ?_
  refine V_iast (j := T 0 5) dX5_addCellar_23 (aT_kind ht) (by omega) (by decide) ?_
  refine V_aloadn_0 dX5_addCellar_24 ?_
  refine V_getR dX5_addCellar_25 fl_X5_15 (oT_floor ht) ?_
  refine V_iload_4 dX5_addCellar_28 ?_
  refine V_iloadn_2 dX5_addCellar_30 ?_
  refine V_iast (j := T 0 5) dX5_addCellar_31 (aT_floor ht) (by omega) (by decide) ?_
  refine V_aloadn_0 dX5_addCellar_32 ?_
  refine V_getR dX5_addCellar_33 fl_X5_18 (oT_lip ht) ?_
  refine V_iload_4 dX5_addCellar_36 ?_
  refine V_iloadn_3 dX5_addCellar_38 ?_
  refine V_iast (j := T 0 5) dX5_addCellar_39 (aT_lip ht) (by omega) (by decide) ?_
  have hC1 : TC0 L N t (addCT T k f l) (emS (vup (vup (vup (vup σ t 5 (nI (T 0 5 + 1))) (t + 1) (T 0 5) (nI k)) (t + 2) (T 0 5) (nI f)) (t + 3) (T 0 5) (nI l)) t (T 0 5)) := ⟨ht, addC_TA0 hT, hI1, hL.congr hN2 (fun q _ _ => by rw [emS_p (by omega), vup_p (by omega), vup_p (by omega), vup_p (by omega), vup_p (by omega)]), hLI, by rw [e15]; exact hN, hN2⟩
  refine V_aloadn_0 dX5_addCellar_40 ?_
  refine V_iload_4 dX5_addCellar_41 ?_
  refine V_cv1n dX5_addCellar_43 cv_X5_82 (rcT ht) (Nat.le_of_ble_eq_true rfl) (k_T_empty (by omega) hn8 hC1 (by rw [e5]; omega)) (fun σ' h9 => ?_)
  have hF : Fr t σ σ' := (((((Fr.up (k := 0) (by omega)).tr (Fr.up (k := 1) (by omega))).tr (Fr.up (k := 2) (by omega))).tr (Fr.up (k := 3) (by omega))).tr emS_fr).tr h9.fr
  have hTH : TH L t (addCT T k f l) σ' := by
    intro c hc
    rw [e5] at hc
    by_cases e : c = T 0 5
    · rw [e]; exact h9.1
    · obtain ⟨e1, e2, e3⟩ := addC_old (T := T) (k := k) (f := f) (l := l) e
      rw [h9.2 (t + 5) c (by omega) (by omega), emS_p (by omega), vup_p (by omega), vup_p (by omega), vup_p (by omega), vup_p (by omega), hH.2 c (by omega), high_eq e1 e3 (addC_k (by decide)) (fun s _ => addC_w (by omega))]
  refine V_iload_4 dX5_addCellar_46 ?_
  exact V_iret dX5_addCellar_48 ⟨rfl, hC.next hF ⟨h9.T0 ht hC1.2.1, hTH⟩ hI1 e15, hF⟩

theorem addP_TA {t x y v : Nat} {L T : nT} {σ : vS} (h : TA L t T σ) : TA L t (addPT T x y v) (vup (vup (vup (vup (vup σ t 10 (nI (T 0 10 + 1))) (t + 6) (T 0 10) (nI x)) (t + 7) (T 0 10) (nI y)) (t + 8) (T 0 10) (nI v)) (t + 9) (T 0 10) 0) := by
  obtain ⟨⟨⟨b1, b2, b3, b4, b5, b6, b7⟩, a2, a3, a4, a5⟩, a6⟩ := h
  have e5 : addPT T x y v 0 5 = T 0 5 := addP_k (by omega) (by omega)
  refine ⟨⟨⟨?_, ?_, ?_, ?_, ?_, ?_, ?_⟩, fun c hc => ?_, fun i hi => ?_, fun p hp => ?_, fun q hq => ?_⟩, fun c hc => ?_⟩
  · rw [vup_ne (by omega), vup_ne (by omega), vup_ne (by omega), vup_ne (by omega), vup_ne (by omega), e5]; exact b1
  · rw [vup_ne (by omega), vup_ne (by omega), vup_ne (by omega), vup_ne (by omega), vup_same, addP_10]
  · rw [vup_ne (by omega), vup_ne (by omega), vup_ne (by omega), vup_ne (by omega), vup_ne (by omega), addP_k (by omega) (by omega)]; exact b3
  · rw [vup_ne (by omega), vup_ne (by omega), vup_ne (by omega), vup_ne (by omega), vup_ne (by omega), addP_k (by omega) (by omega)]; exact b4
  · rw [vup_ne (by omega), vup_ne (by omega), vup_ne (by omega), vup_ne (by omega), vup_ne (by omega), addP_k (by omega) (by omega)]; exact b5
  · rw [vup_ne (by omega), vup_ne (by omega), vup_ne (by omega), vup_ne (by omega), vup_ne (by omega), addP_k (by omega) (by omega)]; exact b6
  · rw [vup_ne (by omega), vup_ne (by omega), vup_ne (by omega), vup_ne (by omega), vup_ne (by omega), addP_k (by omega) (by omega)]; exact b7
  · rw [e5] at hc
    rw [addP_k (by omega) (by omega), addP_k (by omega) (by omega), addP_k (by omega) (by omega)]
    obtain ⟨g1, g2, g3⟩ := a2 c hc
    refine ⟨?_, ?_, ?_⟩
    · rw [vup_ne (by omega), vup_ne (by omega), vup_ne (by omega), vup_ne (by omega), vup_ne (by omega)]; exact g1
    · rw [vup_ne (by omega), vup_ne (by omega), vup_ne (by omega), vup_ne (by omega), vup_ne (by omega)]; exact g2
    · rw [vup_ne (by omega), vup_ne (by omega), vup_ne (by omega), vup_ne (by omega), vup_ne (by omega)]; exact g3
  · rw [e5] at hi
    rw [vup_ne (by omega), vup_ne (by omega), vup_ne (by omega), vup_ne (by omega), vup_ne (by omega), addP_k (by omega) (by omega)]
    exact a3 i hi
  · rw [addP_10] at hp
    by_cases e : p = T 0 10
    · subst e
      obtain ⟨e1, e2, e3, e4⟩ := addP_new (T := T) (x := x) (y := y) (v := v)
      rw [e1, e2, e3, e4]
      refine ⟨?_, ?_, ?_, ?_⟩
      · rw [vup_ne (by omega), vup_ne (by omega), vup_ne (by omega), vup_same]
      · rw [vup_ne (by omega), vup_ne (by omega), vup_same]
      · rw [vup_ne (by omega), vup_same]
      · rw [vup_same]; rfl
    · obtain ⟨e1, e2, e3, e4⟩ := addP_old (T := T) (x := x) (y := y) (v := v) e
      rw [e1, e2, e3, e4]
      obtain ⟨g1, g2, g3, g4⟩ := a4 p (by omega)
      refine ⟨?_, ?_, ?_, ?_⟩
      · rw [vup_ne (by omega), vup_ne (by omega), vup_ne (by omega), vup_ne (by omega), vup_ne (by omega)]; exact g1
      · rw [vup_ne (by omega), vup_ne (by omega), vup_ne (by omega), vup_ne (by omega), vup_ne (by omega)]; exact g2
      · rw [vup_ne (by omega), vup_ne (by omega), vup_ne (by omega), vup_ne (by omega), vup_ne (by omega)]; exact g3
      · rw [vup_ne (by omega), vup_ne (by omega), vup_ne (by omega), vup_ne (by omega), vup_ne (by omega)]; exact g4
  · rw [vup_ne (by omega), vup_ne (by omega), vup_ne (by omega), vup_ne (by omega), vup_ne (by omega), addP_k (by omega) (by omega)]
    exact a5 q hq
  · rw [e5] at hc
    rw [vup_ne (by omega), vup_ne (by omega), vup_ne (by omega), vup_ne (by omega), vup_ne (by omega), a6 c hc, high_eq (addP_k (by omega) (by omega)) (addP_k (by omega) (by omega)) (addP_k (by omega) (by omega)) (fun s _ => addP_k (by omega) (by omega))]

set_option maxRecDepth 100000 in
set_option maxHeartbeats 4000000 in
theorem k_T_addPipe {G : vG} {σ : vS} {d : Nat} {L T : nT} {N t : Nat} (hC : TC L N t T σ) {x y v : Nat} (hm13 : T 0 10 < 13) (hx : x < T 0 5) (hy : y < T 0 5) (hxy : x ≠ y) (hv : v ≤ 9) : Cr G yX5_addPipe cX5_addPipe 5 (some .int) d [.ref t, .int (nI x), .int (nI y), .int (nI v)] σ (some (.int (nI (T 0 10)))) (fun σ' => TC L N t (addPT T x y v) σ' ∧ Fr t σ σ') := by
  refine Ct.ofV (by decide) (Nat.le_of_ble_eq_true rfl) rfl ?_
  show V G RX5 cX5_addPipe (some .int) 5 d _ 0 [some (.ref t), some (.int (nI x)), some (.int (nI y)), some (.int (nI v)), none] [] _
  obtain ⟨ht, hH, hI, hL, hLI, hN, hN2⟩ := id hC
  have hT := hH.1
  have hn := hI.nc
  have hm := hI.np
  have hF : Fr t σ (vup (vup (vup (vup (vup σ t 10 (nI (T 0 10 + 1))) (t + 6) (T 0 10) (nI x)) (t + 7) (T 0 10) (nI y)) (t + 8) (T 0 10) (nI v)) (t + 9) (T 0 10) 0) := ((((Fr.up (k := 0) (by omega)).tr (Fr.up (k := 6) (by omega))).tr (Fr.up (k := 7) (by omega))).tr (Fr.up (k := 8) (by omega))).tr (Fr.up (k := 9) (by omega))
  refine V_aloadn_0 dX5_addPipe_0 ?_
  refine V_getI dX5_addPipe_1 fl_X5_65 (oT_pipes ht) ?_
  refine V_topi hT.n10 ?_
  refine V_istore_4 dX5_addPipe_4 (by first | exact rfl | exact True.intro) (by decide) ?_
  refine V_aloadn_0 dX5_addPipe_6 ?_
  refine V_dup dX5_addPipe_7 rfl ?_
  refine V_getI dX5_addPipe_8 fl_X5_65 (oT_pipes ht) ?_
  refine V_topi hT.n10 ?_
  refine V_iconst 1 dX5_addPipe_11 (by decide) ?_
  refine V_iaddN (a := T 0 10) (b := 1) dX5_addPipe_12 ?_
  refine V_putI dX5_addPipe_13 fp_X5_65 (oT_pipes ht) ?_
  refine V_aloadn_0 dX5_addPipe_16 ?_
  refine V_getR dX5_addPipe_17 fl_X5_27 (oT_one ht) ?_
  refine V_iload_4 dX5_addPipe_20 ?_
  refine V_iloadn_1 dX5_addPipe_22 ?_
  refine V_iast (j := T 0 10) dX5_addPipe_23 (aT_one ht) (by omega) (by decide) ?_
  refine V_aloadn_0 dX5_addPipe_24 ?_
  refine V_getR dX5_addPipe_25 fl_X5_30 (oT_other ht) ?_
  refine V_iload_4 dX5_addPipe_28 ?_
  refine V_iloadn_2 dX5_addPipe_30 ?_
  refine V_iast (j := T 0 10) dX5_addPipe_31 (aT_other ht) (by omega) (by decide) ?_
  refine V_aloadn_0 dX5_addPipe_32 ?_
  refine V_getR dX5_addPipe_33 fl_X5_33 (oT_wide ht) ?_
  refine V_iload_4 dX5_addPipe_36 ?_
  refine V_iloadn_3 dX5_addPipe_38 ?_
  refine V_iast (j := T 0 10) dX5_addPipe_39 (aT_wide ht) (by omega) (by decide) ?_
  refine V_aloadn_0 dX5_addPipe_40 ?_
  refine V_getR dX5_addPipe_41 fl_X5_36 (oT_corked ht) ?_
  refine V_iload_4 dX5_addPipe_44 ?_
  refine V_iconst 0 dX5_addPipe_46 (by decide) ?_
  refine V_iast (j := T 0 10) dX5_addPipe_47 (aT_corked ht) (by omega) (by decide) ?_
  refine V_iload_4 dX5_addPipe_48 ?_
  exact V_iret dX5_addPipe_50 ⟨rfl, hC.next hF (addP_TA hH) (hI.addP hm13 hx hy hxy hv) (addP_k (by omega) (by omega)), hF⟩
