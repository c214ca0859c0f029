/-! ===== a text that comes ===== -/
theorem kw_F {tp : Nat → Nat} {n : Nat} (h : kyN tp n < 3) : FF tp n 0 < n := by
  have key : ∀ m, EE tp n (0 + 1) - FF tp n 0 = m + 1 → FF tp n 0 < n := fun m q => Classical.byContradiction (fun h => by
    have h1 := EE_end h
    have h2 := FF_le (tp := tp) (n := n) (k := 0)
    rw [h1] at q
    omega)
  unfold kyN at h
  by_cases g0 : kw0 tp (FF tp n 0) (EE tp n (0 + 1))
  · exact key _ g0.1
  · by_cases g1 : kw1 tp (FF tp n 0) (EE tp n (0 + 1))
    · exact key _ g1.1
    · by_cases g2 : kw2 tp (FF tp n 0) (EE tp n (0 + 1))
      · exact key _ g2.1
      · rw [if_neg g0, if_neg g1, if_neg g2] at h
        omega
def D3 (x : syC) : Prop := x.1 = 3 → x.2.2.2.1 = []
theorem D3.step {tk : Nat → Nat} {x : syC} (h : D3 x) : D3 (sy1 tk x) := by
  obtain ⟨m, k, c, w, t⟩ := x
  by_cases m0 : m = 0
  · subst m0
    by_cases a : tk k = 20033 ∧ nnW w < 8
    · rw [sy_not a.1 a.2]; intro q; exact absurd q (by show ¬ 0 = 3; decide)
    · by_cases b : tk k = 20040 ∧ npW w < 8
      · rw [sy_open b.1 b.2]; intro q; exact absurd q (by show ¬ 0 = 3; decide)
      · by_cases e : tk k < 20000
        · rw [sy_leaf e]; intro q; exact absurd q (by show ¬ 1 = 3; decide)
        · rw [sy_wbad a b e]; intro q; exact absurd q (by show ¬ 2 = 3; decide)
  · by_cases m1 : m = 1
    · subst m1
      by_cases a : tk k = 40000 ∧ npW w = 0
      · rw [sy_done a.1 a.2]; intro _; exact stl0_none w c a.2
      · by_cases b : tk k = 20041 ∧ 0 < npW w
        · rw [sy_close b.1 b.2]; intro q; exact absurd q (by show ¬ 1 = 3; decide)
        · by_cases e : bkT (tk k) ≠ 0 ∧ ¬ (bkT (tk k) = 3 ∧ t.headD false = true)
          · rw [sy_sign e.1 e.2 (fun q => e.1 (by rw [q]; rfl)) (fun q => e.1 (by rw [q]; rfl))]; intro q; exact absurd q (by show ¬ 0 = 3; decide)
          · rw [sy_hbad a b e]; intro q; exact absurd q (by show ¬ 2 = 3; decide)
    · have : sy1 tk (m, k, c, w, t) = (m, k, c, w, t) := by
        match m, m0, m1 with
        | 0, m0, _ => exact absurd rfl m0
        | 1, _, m1 => exact absurd rfl m1
        | m + 2, _, _ => rfl
      rw [this]
      exact h
theorem D3.go {tk : Nat → Nat} {x y : syC} (h : D3 x) (g : Go tk x y) : D3 y := by
  obtain ⟨m, rfl⟩ := g
  induction m generalizing x with
  | zero => exact h
  | succ m ih => exact ih h.step
theorem par_wf {tp : Nat → Nat} {n : Nat} {c : List Nat} (h : ParO tp n c) (h96 : c.length ≤ 96) : wfE (rwC c) c.length ∧ (kyN tp n ≠ 0 → ∀ i, i < c.length → rwC c i ≠ 10002) := by
  obtain ⟨h3, k', w', t', g⟩ := h
  have hS := (SI.start (ky := kyN tp n) (kw_F h3)).go g
  have hw : w' = [] := D3.go (x := (0, 0 + 1, [], [], [false])) (fun q => absurd q (by show ¬ 0 = 3; decide)) g rfl
  subst hw
  rcases hS with q | ⟨-, q1, -, q3, -⟩
  · exact absurd q (by show ¬ 3 = 2; decide)
  · refine ⟨⟨h96, fun i hi => ?_, q3⟩, fun hk i hi => (q1 i hi).1.2 hk⟩
    have := q1 i hi
    exact ⟨this.1.1, this.2⟩
def Lup (L : nT) (j ky : Nat) (c : List Nat) : nT := fun a i => if a = j then (if i = 0 then ky else if i = 1 then lvN c else if i = 2 then c.length else rwC c (i - 3)) else L a i
section LU
variable {L T : nT} {j ky : Nat} {c : List Nat}
theorem Lup_ne {a i : Nat} (h : a ≠ j) : Lup L j ky c a i = L a i := by
  unfold Lup
  rw [if_neg h]
theorem Lup_0 : Lup L j ky c j 0 = ky := by simp [Lup]
theorem Lup_1 : Lup L j ky c j 1 = lvN c := by simp [Lup]
theorem Lup_2 : Lup L j ky c j 2 = c.length := by simp [Lup]
theorem Lup_r {i : Nat} : Lup L j ky c j (3 + i) = rwC c i := by
  unfold Lup
  rw [if_pos rfl, if_neg (by omega), if_neg (by omega), if_neg (by omega), show 3 + i - 3 = i by omega]
theorem LI.up (h : LI L j) (hk : ky ≤ 2) (h96 : c.length ≤ 96) (hw : wfE (rwC c) c.length) (hn : ky ≠ 0 → ∀ i, i < c.length → rwC c i ≠ 10002) : LI (Lup L j ky c) (j + 1) := by
  intro a ha
  by_cases e : a = j
  · subst e
    have hr : (fun i => Lup L a ky c a (3 + i)) = rwC c := by funext i; exact Lup_r
    rw [Lup_0, Lup_1, Lup_2, hr]
    refine ⟨hk, ⟨Nat.le_trans lv_le h96, fun q i hi => ?_⟩, hw⟩
    rw [Lup_r]
    exact hn q i hi
  · have := h a (by omega)
    have hr : (fun i => Lup L j ky c a (3 + i)) = fun i => L a (3 + i) := by funext i; exact Lup_ne e
    rw [Lup_ne e, Lup_ne e, Lup_ne e, hr]
    refine ⟨this.1, ⟨this.2.1.1, fun q i hi => ?_⟩, this.2.2⟩
    rw [Lup_ne e]
    exact this.2.1.2 q i hi
theorem law_up {a : Nat} {x y z : Int32} (h : a ≠ j) : lawI (Lup L j ky c) a x y z = lawI L a x y z := by
  unfold lawI
  have hr : (fun i => Lup L j ky c a (3 + i)) = fun i => L a (3 + i) := by funext i; exact Lup_ne h
  rw [hr, Lup_ne h]
theorem high_up {b : Nat} (h : T 10 0 ≤ j) : highT (Lup L j ky c) T b = highT L T b := by
  unfold highT plainT
  by_cases e : T 10 0 = 0
  · rw [if_pos e, if_pos e]
  · rw [if_neg e, if_neg e, law_up (by omega)]
theorem TH.up {t : Nat} {σ : vS} (h : TH L t T σ) (h0 : T 10 0 ≤ j) : TH (Lup L j ky c) t T σ := fun b hb => by
  rw [high_up h0]
  exact h b hb
theorem LA.up {σ : vS} (h : LA L j σ) (h0 : σ (9 + 2 * j) 0 = nI ky) (h1 : σ (9 + 2 * j) 1 = nI (lvN c)) (h2 : σ (9 + 2 * j) 2 = nI c.length) (h3 : ∀ i, i < c.length → σ (9 + 2 * j + 1) i = nI (rwC c i)) : LA (Lup L j ky c) (j + 1) σ := by
  intro a ha
  by_cases e : a = j
  · subst e
    rw [Lup_0, Lup_1, Lup_2]
    exact ⟨h0, h1, h2, fun i hi => by rw [Lup_r]; exact h3 i hi⟩
  · have := h a (by omega)
    rw [Lup_ne e, Lup_ne e, Lup_ne e]
    exact ⟨this.1, this.2.1, this.2.2.1, fun i hi => by rw [Lup_ne e]; exact this.2.2.2 i hi⟩
end LU

set_option maxRecDepth 100000 in
set_option maxHeartbeats 4000000 in
theorem k_W_become {G : vG} {σ : vS} {d : Nat} (hd : 1 ≤ d) {j z : Nat} (hj : j < 14) (hz : σ 2 2 = nI z) (h96 : z ≤ 96) : Cr G yX1_become cX1_become 2 none d [.ref (9 + 2 * j), .ref 2] σ none (fun σ' => σ' (9 + 2 * j) 0 = σ 2 0 ∧ σ' (9 + 2 * j) 1 = σ 2 1 ∧ σ' (9 + 2 * j) 2 = nI z ∧ (∀ i, i < z → σ' (9 + 2 * j + 1) i = σ 3 i) ∧ ∀ q, q ≠ 9 + 2 * j → q ≠ 9 + 2 * j + 1 → σ' q = σ q) := by
  refine Ct.ofV (by decide) (Nat.le_of_ble_eq_true rfl) rfl ?_
  show V G RX1 cX1_become none 2 d _ 0 [some (.ref (9 + 2 * j)), some (.ref 2)] [] _
  obtain ⟨d, rfl⟩ : ∃ e, d = e + 1 := ⟨d - 1, by omega⟩
  refine V_aloadn_0 dX1_become_0 ?_
  refine V_aloadn_1 dX1_become_1 ?_
  refine V_getI dX1_become_2 fl_X1_15 (oW_key (Or.inl rfl)) ?_
  refine V_putI dX1_become_5 fp_X1_15 (oW_key (Or.inr ⟨_, hj, rfl⟩)) ?_
  refine V_aloadn_0 dX1_become_8 ?_
  refine V_aloadn_1 dX1_become_9 ?_
  refine V_getI dX1_become_10 fl_X1_19 (oW_leaves (Or.inl rfl)) ?_
  refine V_putI dX1_become_13 fp_X1_19 (oW_leaves (Or.inr ⟨_, hj, rfl⟩)) ?_
  refine V_aloadn_0 dX1_become_16 ?_
  refine V_aloadn_1 dX1_become_17 ?_
  refine V_getI dX1_become_18 fl_X1_22 (oW_size (Or.inl rfl)) ?_
  refine V_topi (y := nI z) (by rw [vup_ne (by omega), vup_ne (by omega)]; exact hz) ?_
  refine V_putI dX1_become_21 fp_X1_22 (oW_size (Or.inr ⟨_, hj, rfl⟩)) ?_
  refine V_aloadn_1 dX1_become_24 ?_
  refine V_getR dX1_become_25 fl_X1_9 (oW_row (Or.inl rfl)) ?_
  refine V_iconst 0 dX1_become_28 (by decide) ?_
  refine V_aloadn_0 dX1_become_29 ?_
  refine V_getR dX1_become_30 fl_X1_9 (oW_row (Or.inr ⟨_, hj, rfl⟩)) ?_
  refine V_iconst 0 dX1_become_33 (by decide) ?_
  refine V_aloadn_1 dX1_become_34 ?_
  refine V_getI dX1_become_35 fl_X1_22 (oW_size (Or.inl rfl)) ?_
  refine V_topi (y := nI z) (by rw [vup_ne (by omega), vup_ne (by omega), vup_ne (by omega)]; exact hz) ?_
  refine V_copy (sp := 0) (dp := 0) (n := z) dX1_become_38 ml_X1_25 (aW_row (Or.inl rfl)) (aW_row (Or.inr ⟨_, hj, rfl⟩)) (by decide) (by decide) (by omega) (by omega) (Nat.le_of_ble_eq_true rfl) ?_
  exact V_vret dX1_become_41 ⟨rfl, by rw [vcp_ne (by omega), vup_ne (by omega), vup_ne (by omega), vup_same], by rw [vcp_ne (by omega), vup_ne (by omega), vup_same, vup_ne (by omega)], by rw [vcp_ne (by omega), vup_same], fun i hi => by rw [vcp0 hi, vup_ne (by omega), vup_ne (by omega), vup_ne (by omega)], fun q a b => by rw [vcp_p b, vup_p a, vup_p a, vup_p a]⟩

def FT1 (σ σ' : vS) : Prop := (∀ q, q ≠ 1 → q ≠ 2 → q ≠ 3 → σ' q = σ q) ∧ σ' 1 0 = nI 0
def FT2 (j : Nat) (σ σ' : vS) : Prop := (∀ q, q ≠ 1 → q ≠ 2 → q ≠ 3 → q ≠ 60 → ¬ (61 ≤ q ∧ q ≤ 72) → q ≠ 9 + 2 * j → q ≠ 9 + 2 * j + 1 → σ' q = σ q) ∧ σ' 1 0 = nI 0
def TxQ (L T : nT) (tp : Nat → Nat) (n : Nat) (σ : vS) (r : Option Value) (σ' : vS) : Prop :=
  (∃ f, ParF tp n f ∧ f ≤ 96 ∧ r = some (.int (-100 - nI f)) ∧ FT1 σ σ') ∨
  (∃ c, ParO tp n c ∧ c.length ≤ 96 ∧ T 0 15 = 14 ∧ r = some (.int (-1000000003)) ∧ FT1 σ σ') ∨
  (∃ c, ParO tp n c ∧ c.length ≤ 96 ∧ T 0 15 < 14 ∧ r = some (.int (nI (T 0 15))) ∧ TC (Lup L (T 0 15) (kyN tp n) c) (T 0 15 + 1) 61 (addTT T (kyN tp n)) σ' ∧ FT2 (T 0 15) σ σ')

set_option maxRecDepth 100000 in
set_option maxHeartbeats 4000000 in
theorem t_text_F {G : vG} {d : Nat} {σ0 σ : vS} {L T : nT} {tp : Nat → Nat} {n : Nat} (hd : 90 ≤ d + 1) (hC0 : TC L (T 0 15) 61 T σ0) (hfp : FPq σ0 σ) {f : Nat} (hf : f ≤ 96) (hp : ParF tp n f) : V G RX6 cX6_text (some .int) 3 (d + 1) (fun r' σ' => TxQ L T tp n σ0 r' σ') 7 [some (.ref 0), none, none] [.int (nI f)] σ := by
  have hz : FT1 σ0 (vup σ 1 0 0) := ⟨fun q a b c => by rw [vup_p a]; exact hfp.1 q a b c, vup_same⟩
  refine V_istoren_1 dX6_text_7 (by first | exact rfl | exact True.intro) (by decide) ?_
  refine V_aloadn_0 dX6_text_8 ?_
  refine V_getR dX6_text_9 fl_X6_10 oC_reader ?_
  refine V_iconst 0 dX6_text_12 (by decide) ?_
  refine V_putI dX6_text_13 fp_X6_225 oR_length ?_
  refine V_iloadn_1 dX6_text_16 ?_
  refine V_ifN_lt (a := f) dX6_text_17 25 (by decide) (by omega) ?_
  refine V_bipush (-100) dX6_text_20 (by decide) ?_
  refine V_iloadn_1 dX6_text_22 ?_
  refine V_isub dX6_text_23 ?_
  exact V_iret dX6_text_24 (Or.inl ⟨f, hp, hf, rfl, hz⟩)

set_option maxRecDepth 100000 in
set_option maxHeartbeats 4000000 in
theorem t_text_O {G : vG} {d : Nat} {σ0 σ : vS} {L T : nT} {tp : Nat → Nat} {n : Nat} (hd : 90 ≤ d + 1) (hC0 : TC L (T 0 15) 61 T σ0) (hfp : FPq σ0 σ) {c : List Nat} (hp : ParO tp n c) (h96 : c.length ≤ 96) (hD : DR (kyN tp n) c σ) : V G RX6 cX6_text (some .int) 3 (d + 1) (fun r' σ' => TxQ L T tp n σ0 r' σ') 7 [some (.ref 0), none, none] [.int (-1)] σ := by
  have hz : FT1 σ0 (vup σ 1 0 0) := ⟨fun q a b c => by rw [vup_p a]; exact hfp.1 q a b c, vup_same⟩
  obtain ⟨hky, -⟩ := id hp
  have hwf := par_wf hp h96
  have hC1 : TC L (T 0 15) 61 T (vup σ 1 0 0) := hC0.fq (fun q a => hz.1 q (by omega) (by omega) (by omega))
  have hD1 : DR (kyN tp n) c (vup σ 1 0 0) := hD.of (vup_p (by decide)) (vup_p (by decide))
  obtain ⟨ht, hH, hI, hL, hLI, hN, hN2⟩ := id hC1
  have hT := hH.1
  have hx := hI.tx
  refine V_istoren_1 dX6_text_7 (by first | exact rfl | exact True.intro) (by decide) ?_
  refine V_aloadn_0 dX6_text_8 ?_
  refine V_getR dX6_text_9 fl_X6_10 oC_reader ?_
  refine V_iconst 0 dX6_text_12 (by decide) ?_
  refine V_putI dX6_text_13 fp_X6_225 oR_length ?_
  refine V_iloadn_1 dX6_text_16 ?_
  refine V_if_lt_t dX6_text_17 25 (by decide) (by decide) ?_
  refine V_aloadn_0 dX6_text_25 ?_
  refine V_getR dX6_text_26 fl_X6_46 oC_now ?_
  refine V_getI dX6_text_29 fl_X6_234 (oT_texts tw61) ?_
  refine V_topi hT.n15 ?_
  refine V_bipush 14 dX6_text_32 (by decide) ?_
  refine V_icmpN_lt (a := T 0 15) (b := 14) dX6_text_34 40 (by decide) (by omega) (by omega) (fun h34 => ?_) (fun h34 => ?_)
  · refine V_aloadn_0 dX6_text_40 ?_
    refine V_getR dX6_text_41 fl_X6_46 oC_now ?_
    refine V_getI dX6_text_44 fl_X6_234 (oT_texts tw61) ?_
    refine V_topi hT.n15 ?_
    refine V_istoren_2 dX6_text_47 (by first | exact rfl | exact True.intro) (by decide) ?_
    refine V_aloadn_0 dX6_text_48 ?_
    refine V_getR dX6_text_49 fl_X6_37 oC_laws ?_
    refine V_iloadn_2 dX6_text_52 ?_
    refine V_aald (j := T 0 15) dX6_text_53 (eLaw (by omega)) (by decide) ?_
    refine V_aloadn_0 dX6_text_54 ?_
    refine V_getR dX6_text_55 fl_X6_10 oC_reader ?_
    refine V_getR dX6_text_58 fl_X6_237 oR_draft ?_
    refine V_cv1n dX6_text_61 cv_X6_241 (rcW (Or.inr ⟨_, (by omega), rfl⟩)) (Nat.le_of_ble_eq_true rfl) (k_W_become (by omega) (by omega) hD1.2.2.1 h96) (fun σ1 h5 => ?_)
    obtain ⟨b0, b1, b2, b3, b4⟩ := h5
    have hT1 : TA0 61 T σ1 := hT.congr (fun q a b _ => b4 q (by omega) (by omega))
    have hH1 : TH L 61 T σ1 := fun b hb => by rw [b4 _ (by omega) (by omega)]; exact hH.2 b hb
    have hLA : LA (Lup L (T 0 15) (kyN tp n) c) (T 0 15 + 1) σ1 := LA.up (fun a ha => by rw [b4 _ (by omega) (by omega), b4 _ (by omega) (by omega)]; exact hL a ha) (by rw [b0]; exact hD1.1) (by rw [b1]; exact hD1.2.1) b2 (fun i hi => by rw [b3 i hi]; exact hD1.2.2.2 i hi)
    refine V_aloadn_0 dX6_text_64 ?_
    refine V_getR dX6_text_65 fl_X6_46 oC_now ?_
    refine V_aloadn_0 dX6_text_68 ?_
    refine V_getR dX6_text_69 fl_X6_10 oC_reader ?_
    refine V_getR dX6_text_72 fl_X6_237 oR_draft ?_
    refine V_getI dX6_text_75 fl_X6_245 (oW_key (Or.inl rfl)) ?_
    refine V_topi (y := nI (kyN tp n)) (by rw [b4 2 (by omega) (by omega)]; exact hD1.1) ?_
    refine V_cv1n dX6_text_78 cv_X6_248 (rcT tw61) (Nat.le_of_ble_eq_true rfl) (k_T_addText (by omega) tw61 hT1 hI hLA (LI.up hLI (by omega) h96 hwf.1 hwf.2) (Nat.le_refl _) (by omega) hky (fun _ => hH1.up (hI.lw (by decide)))) (fun σ2 h6 => ?_)
    refine V_iloadn_2 dX6_text_81 ?_
    exact V_iret dX6_text_82 (Or.inr (Or.inr ⟨c, hp, h96, h34, rfl, h6.1, fun q a1 a2 a3 a4 a5 a6 a7 => by rw [h6.2 q (by omega) a4, b4 q a6 a7]; exact hz.1 q a1 a2 a3, by rw [h6.2 1 (by omega) (by omega), b4 1 (by omega) (by omega)]; exact hz.2⟩))
  · refine V_ldc (-1000000003) dX6_text_37 cn_X6_75 ?_
    exact V_iret dX6_text_39 (Or.inr (Or.inl ⟨c, hp, h96, by omega, rfl, hz⟩))

set_option maxRecDepth 100000 in
set_option maxHeartbeats 4000000 in
theorem c_text {G : vG} {σ : vS} {d : Nat} (hd : 90 ≤ d) {L T : nT} {tp : Nat → Nat} {n : Nat} (hC : TC L (T 0 15) 61 T σ) (hT : RT tp n σ) : Ct G yX6_text cX6_text 3 (some .int) d [.ref 0] σ (fun r' σ' => TxQ L T tp n σ r' σ') := by
  refine Ct.ofV (by decide) (Nat.le_of_ble_eq_true rfl) rfl ?_
  show V G RX6 cX6_text (some .int) 3 d _ 0 [some (.ref 0), none, none] [] _
  obtain ⟨d, rfl⟩ : ∃ e, d = e + 1 := ⟨d - 1, by omega⟩
  refine V_aloadn_0 dX6_text_0 ?_
  refine V_getR dX6_text_1 fl_X6_10 oC_reader ?_
  refine V_cv0 dX6_text_4 cv_X6_231 rcR (Nat.le_of_ble_eq_true rfl) (k_R_read (by omega) hT) (fun r σ1 h5 => ?_)
  obtain ⟨f5, h5⟩ := h5
  rcases h5 with ⟨f, rfl, hf, hp⟩ | ⟨c, rfl, hp, hD, h96⟩
  · exact t_text_F (by omega) hC f5 hf hp
  · exact t_text_O (by omega) hC f5 hp h96 hD
