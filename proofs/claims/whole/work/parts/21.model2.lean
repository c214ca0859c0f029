/-! ===== the reference's texts ===== -/
theorem lw_pred (n : Nat) : nI n - 1 = lwI n := by
  unfold lwI
  split
  · rename_i h; subst h; rfl
  · rename_i h
    exact pk_sub (a := n) (b := 1) (by omega)
theorem lw_dec {m : Nat} (h : m ≠ 0) : lwI m + Int32.ofInt (-1) = lwI (m - 1) := by
  rw [lw_val h, ← lw_pred (m - 1)]
  have e : Int32.ofInt (-1) = -1 := by decide
  rw [e]
  grind
theorem lw_neg {m : Nat} (hm : m ≤ 14) (h : lwI m < 0) : m = 0 := by
  rcases Nat.eq_zero_or_pos m with e | e
  · exact e
  · rw [lw_val (by omega)] at h
    exact absurd h (nI_pos (by omega))
theorem lw_nneg {m : Nat} (h : ¬ lwI m < 0) : m ≠ 0 := by
  intro e
  subst e
  exact h (by decide)
theorem KI_at {L T : nT} {k m : Nat} (h : KI L T) (hk : k < 3) (hm : m ≠ 0) (hm2 : m ≤ T 0 15) (h1 : L (m - 1) 0 = k) (h2 : ∀ j, m ≤ j → j < T 0 15 → L j 0 ≠ k) : T 10 k = m := by
  obtain ⟨g1, g2, g3⟩ := h k hk
  rcases Nat.lt_trichotomy (T 10 k) m with e | e | e
  · exact absurd h1 (g3 (m - 1) (by omega) (by omega))
  · exact e
  · exact absurd (g2 (by omega)) (h2 (T 10 k - 1) (by omega) (by omega))
theorem KI_no {L T : nT} {k : Nat} (h : KI L T) (hk : k < 3) (h2 : ∀ j, 0 ≤ j → j < T 0 15 → L j 0 ≠ k) : T 10 k = 0 := by
  obtain ⟨g1, g2, g3⟩ := h k hk
  rcases Nat.eq_zero_or_pos (T 10 k) with e | e
  · exact e
  · exact absurd (g2 (by omega)) (h2 (T 10 k - 1) (by omega) (by omega))

set_option maxRecDepth 100000 in
set_option maxHeartbeats 4000000 in
theorem lp_M_counts {G : vG} {d : Nat} {σ : vS} {L T : nT} (hC : MC L T σ) {ky : Nat} (hk3 : ky < 3) : ∀ (k : Nat) (m : Nat), (m ≤ T 0 15 ∧ ∀ j, m ≤ j → j < T 0 15 → L j 0 ≠ ky) → m < k → V G RX7 cX7_counts (some .int) 3 d (fun r' σ' => r' = some (.int (lwI (T 10 ky))) ∧ σ' = σ) 10 [some (.ref 97), some (.int (nI ky)), some (.int (lwI m))] [] σ := by
  intro k
  induction k with
  | zero => intros; omega
  | succ k ih =>
    intro m hh hk
    obtain ⟨hm, hh⟩ := hh
    have hI := hC.2.2.1
    have hx := hI.tx
    refine V_iloadn_2 dX7_counts_10 ?_
    refine V_if_lt dX7_counts_11 41 (by decide) (fun h11 => ?_) (fun h11 => ?_)
    · have hm0 := lw_neg (by omega) h11
      refine V_iconst (-1) dX7_counts_41 (by decide) ?_
      exact V_iret dX7_counts_42 ⟨rI (by rw [KI_no hC.2.2.2.2 hk3 (fun j _ h2 => hh j (by omega) h2)]; rfl), rfl⟩
    · have hm0 := lw_nneg h11
      have hX := hC.2.1 (m - 1) (by omega)
      have hY := hC.2.2.2.1 (m - 1) (by omega)
      have hY2 := hY.2.2.1
      refine V_aloadn_0 dX7_counts_14 ?_
      refine V_getR dX7_counts_15 fl_X7_9 oM_now ?_
      refine V_bipush 107 dX7_counts_18 (by decide) ?_
      refine V_iconst 2 dX7_counts_20 (by decide) ?_
      refine V_iloadn_2 dX7_counts_21 ?_
      refine V_topi (y := nI (m - 1)) (lw_val hm0) ?_
      refine V_imulN (a := 2) (b := m - 1) dX7_counts_22 ?_
      refine V_iaddN (a := 107) (b := 2 * (m - 1)) dX7_counts_23 ?_
      refine V_iald (j := 107 + (2 * (m - 1))) dX7_counts_24 aM_now (by omega) (by decide) ?_
      refine V_topi (y := nI (1000 * L (m - 1) 0 + L (m - 1) 2)) hX.1 ?_
      refine V_sipush 1000 dX7_counts_25 (by decide) ?_
      refine V_idivN (a := 1000 * L (m - 1) 0 + L (m - 1) 2) (b := 1000) dX7_counts_28 (by omega) (by omega) (by omega) ?_
      refine V_iloadn_1 dX7_counts_29 ?_
      refine V_icmpN_ne (a := (1000 * L (m - 1) 0 + L (m - 1) 2) / 1000) (b := ky) dX7_counts_30 35 (by decide) (by omega) (by omega) (fun h30 => ?_) (fun h30 => ?_)
      · refine V_iinc_2 dX7_counts_35 (by exact rfl) (by decide) (lwI (m - 1)) (lw_dec hm0) ?_
        refine V_goto dX7_counts_38 10 (by decide) ?_
        exact ih (m - 1) ⟨by omega, fun j h1 h2 => by
          by_cases e : j = m - 1
          · subst e; omega
          · exact hh j (by omega) h2⟩ (by omega)
      · refine V_iloadn_2 dX7_counts_33 ?_
        exact V_iret dX7_counts_34 ⟨rI (by rw [KI_at hC.2.2.2.2 hk3 hm0 hm (by omega) hh]), rfl⟩

set_option maxRecDepth 100000 in
set_option maxHeartbeats 4000000 in
theorem k_M_counts {G : vG} {σ : vS} {d : Nat} {L T : nT} (hC : MC L T σ) {ky : Nat} (hk3 : ky < 3) : Cf G yX7_counts cX7_counts 3 (some .int) d [.ref 97, .int (nI ky)] σ (some (.int (lwI (T 10 ky)))) σ := by
  refine Ct.ofV (by decide) (Nat.le_of_ble_eq_true rfl) rfl ?_
  show V G RX7 cX7_counts (some .int) 3 d _ 0 [some (.ref 97), some (.int (nI ky)), none] [] _
  refine V_aloadn_0 dX7_counts_0 ?_
  refine V_getR dX7_counts_1 fl_X7_9 oM_now ?_
  refine V_bipush 6 dX7_counts_4 (by decide) ?_
  refine V_iald (j := 6) dX7_counts_6 aM_now (by decide) (by decide) ?_
  refine V_topi (y := nI (T 0 15)) hC.1.s6 ?_
  refine V_iconst 1 dX7_counts_7 (by decide) ?_
  refine V_isub dX7_counts_8 ?_
  refine V_topi (y := lwI (T 0 15)) (lw_pred _) ?_
  refine V_istoren_2 dX7_counts_9 (by first | exact rfl | exact True.intro) (by decide) ?_
  exact lp_M_counts hC hk3 (T 0 15 + 1) (T 0 15) ⟨by omega, fun j h1 h2 => by omega⟩ (by omega)

set_option maxRecDepth 100000 in
set_option maxHeartbeats 4000000 in
theorem k_M_two {G : vG} {σ : vS} {d : Nat} {r : Nat} {x y : Int32} (hr : r = 20124 ∨ r = 20038 ∨ r = 20060 ∨ r = 20061 ∨ r = 20062 ∨ r = 20043 ∨ r = 20045 ∨ r = 20042 ∨ r = 20047) : Cf G yX7_two cX7_two 3 (some .int) d [.int (encI r), .int x, .int y] σ (some (.int (joinI (r - 20000) x y))) σ := by
  refine Ct.ofV (by decide) (Nat.le_of_ble_eq_true rfl) rfl ?_
  show V G RX7 cX7_two (some .int) 3 d _ 0 [some (.int (encI r)), some (.int x), some (.int y)] [] _
  rcases hr with rfl | rfl | rfl | rfl | rfl | rfl | rfl | rfl | rfl
  · refine V_iloadn_0 dX7_two_0 ?_
    refine V_tab (-1) 47 48 dX7_two_1 (by decide) (by decide) (by decide) (by decide) (by decide) ?_
    refine V_iloadn_1 dX7_two_48 ?_
    refine V_if_ne dX7_two_49 56 (by decide) (fun h49 => ?_) (fun h49 => ?_)
    · refine V_iconst 1 dX7_two_56 (by decide) ?_
      refine V_goto dX7_two_57 61 (by decide) ?_
      exact V_iret dX7_two_61 ⟨rI (by simp [joinI, bI, Int32.not_lt, Int32.not_le, *]), rfl⟩
    · refine V_iloadn_2 dX7_two_52 ?_
      refine V_if_eq dX7_two_53 60 (by decide) (fun h53 => ?_) (fun h53 => ?_)
      · refine V_iconst 0 dX7_two_60 (by decide) ?_
        exact V_iret dX7_two_61 ⟨rI (by simp [joinI, bI, Int32.not_lt, Int32.not_le, *]), rfl⟩
      · refine V_iconst 1 dX7_two_56 (by decide) ?_
        refine V_goto dX7_two_57 61 (by decide) ?_
        exact V_iret dX7_two_61 ⟨rI (by simp [joinI, bI, Int32.not_lt, Int32.not_le, *]), rfl⟩
  · refine V_iloadn_0 dX7_two_0 ?_
    refine V_tab (-2) 61 62 dX7_two_1 (by decide) (by decide) (by decide) (by decide) (by decide) ?_
    refine V_iloadn_1 dX7_two_62 ?_
    refine V_if_eq dX7_two_63 74 (by decide) (fun h63 => ?_) (fun h63 => ?_)
    · refine V_iconst 0 dX7_two_74 (by decide) ?_
      exact V_iret dX7_two_75 ⟨rI (by simp [joinI, bI, Int32.not_lt, Int32.not_le, *]), rfl⟩
    · refine V_iloadn_2 dX7_two_66 ?_
      refine V_if_eq dX7_two_67 74 (by decide) (fun h67 => ?_) (fun h67 => ?_)
      · refine V_iconst 0 dX7_two_74 (by decide) ?_
        exact V_iret dX7_two_75 ⟨rI (by simp [joinI, bI, Int32.not_lt, Int32.not_le, *]), rfl⟩
      · refine V_iconst 1 dX7_two_70 (by decide) ?_
        refine V_goto dX7_two_71 75 (by decide) ?_
        exact V_iret dX7_two_75 ⟨rI (by simp [joinI, bI, Int32.not_lt, Int32.not_le, *]), rfl⟩
  · refine V_iloadn_0 dX7_two_0 ?_
    refine V_tab (-3) 75 76 dX7_two_1 (by decide) (by decide) (by decide) (by decide) (by decide) ?_
    refine V_iloadn_1 dX7_two_76 ?_
    refine V_iloadn_2 dX7_two_77 ?_
    refine V_icmp_ge dX7_two_78 85 (by decide) (fun h78 => ?_) (fun h78 => ?_)
    · refine V_iconst 0 dX7_two_85 (by decide) ?_
      exact V_iret dX7_two_86 ⟨rI (by simp [joinI, bI, Int32.not_lt, Int32.not_le, *]), rfl⟩
    · refine V_iconst 1 dX7_two_81 (by decide) ?_
      refine V_goto dX7_two_82 86 (by decide) ?_
      exact V_iret dX7_two_86 ⟨rI (by simp [joinI, bI, Int32.not_lt, Int32.not_le, *]), rfl⟩
  · refine V_iloadn_0 dX7_two_0 ?_
    refine V_tab (-4) 86 87 dX7_two_1 (by decide) (by decide) (by decide) (by decide) (by decide) ?_
    refine V_iloadn_1 dX7_two_87 ?_
    refine V_iloadn_2 dX7_two_88 ?_
    refine V_icmp_ne dX7_two_89 96 (by decide) (fun h89 => ?_) (fun h89 => ?_)
    · refine V_iconst 0 dX7_two_96 (by decide) ?_
      exact V_iret dX7_two_97 ⟨rI (by simp [joinI, bI, Int32.not_lt, Int32.not_le, *]), rfl⟩
    · refine V_iconst 1 dX7_two_92 (by decide) ?_
      refine V_goto dX7_two_93 97 (by decide) ?_
      exact V_iret dX7_two_97 ⟨rI (by simp [joinI, bI, Int32.not_lt, Int32.not_le, *]), rfl⟩
  · refine V_iloadn_0 dX7_two_0 ?_
    refine V_tab (-5) 97 98 dX7_two_1 (by decide) (by decide) (by decide) (by decide) (by decide) ?_
    refine V_iloadn_1 dX7_two_98 ?_
    refine V_iloadn_2 dX7_two_99 ?_
    refine V_icmp_le dX7_two_100 107 (by decide) (fun h100 => ?_) (fun h100 => ?_)
    · refine V_iconst 0 dX7_two_107 (by decide) ?_
      exact V_iret dX7_two_108 ⟨rI (by simp [joinI, bI, Int32.not_lt, Int32.not_le, *]), rfl⟩
    · refine V_iconst 1 dX7_two_103 (by decide) ?_
      refine V_goto dX7_two_104 108 (by decide) ?_
      exact V_iret dX7_two_108 ⟨rI (by simp [joinI, bI, Int32.not_lt, Int32.not_le, *]), rfl⟩
  · refine V_iloadn_0 dX7_two_0 ?_
    refine V_tab (-6) 108 109 dX7_two_1 (by decide) (by decide) (by decide) (by decide) (by decide) ?_
    refine V_iloadn_1 dX7_two_109 ?_
    refine V_iloadn_2 dX7_two_110 ?_
    refine V_iadd dX7_two_111 ?_
    exact V_iret dX7_two_112 ⟨rI (by simp [joinI, bI, Int32.not_lt, Int32.not_le, *]), rfl⟩
  · refine V_iloadn_0 dX7_two_0 ?_
    refine V_tab (-7) 112 113 dX7_two_1 (by decide) (by decide) (by decide) (by decide) (by decide) ?_
    refine V_iloadn_1 dX7_two_113 ?_
    refine V_iloadn_2 dX7_two_114 ?_
    refine V_isub dX7_two_115 ?_
    exact V_iret dX7_two_116 ⟨rI (by simp [joinI, bI, Int32.not_lt, Int32.not_le, *]), rfl⟩
  · refine V_iloadn_0 dX7_two_0 ?_
    refine V_tab (-8) 116 117 dX7_two_1 (by decide) (by decide) (by decide) (by decide) (by decide) ?_
    refine V_iloadn_1 dX7_two_117 ?_
    refine V_iloadn_2 dX7_two_118 ?_
    refine V_imul dX7_two_119 ?_
    exact V_iret dX7_two_120 ⟨rI (by simp [joinI, bI, Int32.not_lt, Int32.not_le, *]), rfl⟩
  · refine V_iloadn_0 dX7_two_0 ?_
    refine V_tabD 121 dX7_two_1 (by decide) (by decide) ?_
    refine V_iloadn_2 dX7_two_121 ?_
    refine V_if_ne dX7_two_122 129 (by decide) (fun h122 => ?_) (fun h122 => ?_)
    · refine V_iloadn_1 dX7_two_129 ?_
      refine V_iloadn_2 dX7_two_130 ?_
      refine V_idiv dX7_two_131 (by assumption) ?_
      exact V_iret dX7_two_132 ⟨rI (by simp [joinI, bI, Int32.not_lt, Int32.not_le, *]), rfl⟩
    · refine V_iconst 0 dX7_two_125 (by decide) ?_
      refine V_goto dX7_two_126 132 (by decide) ?_
      exact V_iret dX7_two_132 ⟨rI (by simp [joinI, bI, Int32.not_lt, Int32.not_le, *]), rfl⟩

theorem enc_nat {r : Nat} (h : r < 20000) : encI r = nI r := by
  unfold encI
  rw [if_pos h]
theorem enc_neg {r : Nat} (hr : r < 10003 ∨ r = 20033 ∨ r = 20124 ∨ r = 20038 ∨ r = 20060 ∨ r = 20061 ∨ r = 20062 ∨ r = 20043 ∨ r = 20045 ∨ r = 20042 ∨ r = 20047) : encI r < 0 ↔ 20000 ≤ r := by
  rcases hr with h | rfl | rfl | rfl | rfl | rfl | rfl | rfl | rfl | rfl | rfl
  · rw [enc_nat (by omega)]
    constructor
    · intro q; exact absurd q (nI_pos (by omega))
    · intro q; omega
  all_goals decide
theorem enc_not {r : Nat} (hr : r < 10003 ∨ r = 20033 ∨ r = 20124 ∨ r = 20038 ∨ r = 20060 ∨ r = 20061 ∨ r = 20062 ∨ r = 20043 ∨ r = 20045 ∨ r = 20042 ∨ r = 20047) (h0 : 20000 ≤ r) : encI r = -10 ↔ r = 20033 := by
  rcases hr with h | rfl | rfl | rfl | rfl | rfl | rfl | rfl | rfl | rfl | rfl
  · omega
  all_goals decide

set_option maxRecDepth 100000 in
set_option maxHeartbeats 4000000 in
theorem lp_M_worksOut {G : vG} {d : Nat} {σ0 : vS} {L T : nT} (hC : MC L T σ0) {j : Nat} (hj : j < T 0 15) {a b c : Int32} (ha : σ0 111 0 = a) (hb : σ0 111 1 = b) (hcc : σ0 111 2 = c) : ∀ (k : Nat) (i : Nat) (σ : vS), i ≤ L j 2 ∧ (∀ q, q ≠ 110 → σ q = σ0 q) ∧ runE a b c (fun i => L j (3 + i)) i = stkL (σ 110) (depE (fun i => L j (3 + i)) i) → L j 2 - i < k → V G RX7 cX7_worksOut (some .int) 6 (d + 1) (fun r' σ' => r' = some (.int (lawI L j a b c)) ∧ ∀ q, q ≠ 110 → σ' q = σ0 q) 21 [some (.ref 97), some (.int (nI j)), some (.int (nI (depE (fun i => L j (3 + i)) i))), some (.int (nI (L j 2))), some (.int (nI i)), none] [] σ := by
  intro k
  induction k with
  | zero => intros; omega
  | succ k ih =>
    intro i σ hh hk
    obtain ⟨hi, hq, hinv⟩ := hh
    have hwf := (hC.2.2.2.1 j hj).2.2
    have hI := hC.2.2.1
    have hx := hI.tx
    unfold lawI at ih ⊢
    obtain ⟨row, hrow⟩ : ∃ row : Nat → Nat, row = fun i => L j (3 + i) := ⟨_, rfl⟩
    have hrw : ∀ i, L j (3 + i) = row i := fun i => by rw [hrow]
    rw [← hrow] at hinv hwf ih ⊢
    have hn96 := hwf.1
    have hdl := depE_le row i
    refine V_iload_4 dX7_worksOut_21 ?_
    refine V_iloadn_3 dX7_worksOut_23 ?_
    refine V_icmpN_ge (a := i) (b := L j 2) dX7_worksOut_24 156 (by decide) (by omega) (by omega) (fun h24 => ?_) (fun h24 => ?_)
    · refine V_aloadn_0 dX7_worksOut_156 ?_
      refine V_getR dX7_worksOut_157 fl_X7_48 oM_stack ?_
      refine V_iconst 0 dX7_worksOut_160 (by decide) ?_
      refine V_iald (j := 0) dX7_worksOut_161 aM_stack (by decide) (by decide) ?_
      exact V_iret dX7_worksOut_162 ⟨rI (by
              have e : i = L j 2 := by omega
              rw [← e, hinv, e, hwf.2.2]
              rfl), hq⟩
    · have hv := hwf.2.1 i (by omega)
      have hrb : row i ≤ 20124 := by omega
      refine V_aloadn_0 dX7_worksOut_27 ?_
      refine V_getR dX7_worksOut_28 fl_X7_9 oM_now ?_
      refine V_sipush 135 dX7_worksOut_31 (by decide) ?_
      refine V_bipush 96 dX7_worksOut_34 (by decide) ?_
      refine V_iloadn_1 dX7_worksOut_36 ?_
      refine V_imulN (a := 96) (b := j) dX7_worksOut_37 ?_
      refine V_iaddN (a := 135) (b := 96 * j) dX7_worksOut_38 ?_
      refine V_iload_4 dX7_worksOut_39 ?_
      refine V_iaddN (a := 135 + (96 * j)) (b := i) dX7_worksOut_41 ?_
      refine V_iald (j := (135 + (96 * j)) + i) dX7_worksOut_42 aM_now (by omega) (by decide) ?_
      refine V_topi (y := encI (row i)) (by rw [hq 98 (by decide), (hC.2.1 j hj).2.2 i (by omega), hrw]) ?_
      refine V_istore_5 dX7_worksOut_43 (by first | exact rfl | exact True.intro) (by decide) ?_
      refine V_iload_5 dX7_worksOut_45 ?_
      refine V_if_lt dX7_worksOut_47 86 (by decide) (fun h47 => ?_) (fun h47 => ?_)
      · have hr2 : 20000 ≤ row i := (enc_neg hv.1).mp h47
        refine V_iload_5 dX7_worksOut_86 ?_
        refine V_bipush (-10) dX7_worksOut_88 (by decide) ?_
        refine V_icmp_ne dX7_worksOut_90 120 (by decide) (fun h90 => ?_) (fun h90 => ?_)
        · replace h90 : row i ≠ 20033 := fun e => h90 ((enc_not hv.1 hr2).mpr e)
          refine V_iinc_2 dX7_worksOut_120 (by first | exact rfl | exact True.intro) (by decide) (nI ((depE row i) - 1)) (nI_dec (by omega)) ?_
          refine V_aloadn_0 dX7_worksOut_123 ?_
          refine V_getR dX7_worksOut_124 fl_X7_48 oM_stack ?_
          refine V_iloadn_2 dX7_worksOut_127 ?_
          refine V_iconst 1 dX7_worksOut_128 (by decide) ?_
          refine V_isubN (a := (depE row i) - 1) (b := 1) dX7_worksOut_129 (by omega) ?_
          refine V_iload_5 dX7_worksOut_130 ?_
          refine V_aloadn_0 dX7_worksOut_132 ?_
          refine V_getR dX7_worksOut_133 fl_X7_48 oM_stack ?_
          refine V_iloadn_2 dX7_worksOut_136 ?_
          refine V_iconst 1 dX7_worksOut_137 (by decide) ?_
          refine V_isubN (a := (depE row i) - 1) (b := 1) dX7_worksOut_138 (by omega) ?_
          refine V_iald (j := ((depE row i) - 1) - 1) dX7_worksOut_139 aM_stack (by omega) (by decide) ?_
          refine V_aloadn_0 dX7_worksOut_140 ?_
          refine V_getR dX7_worksOut_141 fl_X7_48 oM_stack ?_
          refine V_iloadn_2 dX7_worksOut_144 ?_
          refine V_iald (j := (depE row i) - 1) dX7_worksOut_145 aM_stack (by omega) (by decide) ?_
          refine V_cs3f dX7_worksOut_146 cs_X7_268 (Nat.le_of_ble_eq_true rfl) (k_M_two (by omega)) ?_
          refine V_iast (j := ((depE row i) - 1) - 1) dX7_worksOut_149 aM_stack (by omega) (by decide) ?_
          refine V_iinc_4 dX7_worksOut_150 (by first | exact rfl | exact True.intro) (by decide) (nI (i + 1)) (nI_inc _) ?_
          refine V_goto dX7_worksOut_153 21 (by decide) ?_
          refine V_fg_5 ?_
          have hdep : depE row (i + 1) = (depE row i) - 1 := by
            simp only [depE]
            repeat' split
            all_goals omega
          refine V_lo (lo' := [some (.ref 97), some (.int (nI j)), some (.int (nI (depE row (i + 1)))), some (.int (nI (L j 2))), some (.int (nI (i + 1))), none]) (by rw [hdep]) ?_
          refine ih (i + 1) _ ⟨by omega, fun q hq9 => ?_, ?_⟩ (by omega)
          · first | exact hq q hq9 | (rw [vup_p hq9]; exact hq q hq9)
          · show stepE a b c (row i) (runE a b c row i) = _
            rw [hdep, hinv]
            rw [stk_put (by omega), stk_2 (by omega), stepE_two hr2 h90]
        · replace h90 : row i = 20033 := (enc_not hv.1 hr2).mp h90
          refine V_aloadn_0 dX7_worksOut_93 ?_
          refine V_getR dX7_worksOut_94 fl_X7_48 oM_stack ?_
          refine V_iloadn_2 dX7_worksOut_97 ?_
          refine V_iconst 1 dX7_worksOut_98 (by decide) ?_
          refine V_isubN (a := depE row i) (b := 1) dX7_worksOut_99 (by omega) ?_
          refine V_aloadn_0 dX7_worksOut_100 ?_
          refine V_getR dX7_worksOut_101 fl_X7_48 oM_stack ?_
          refine V_iloadn_2 dX7_worksOut_104 ?_
          refine V_iconst 1 dX7_worksOut_105 (by decide) ?_
          refine V_isubN (a := depE row i) (b := 1) dX7_worksOut_106 (by omega) ?_
          refine V_iald (j := (depE row i) - 1) dX7_worksOut_107 aM_stack (by omega) (by decide) ?_
          refine V_if_ne dX7_worksOut_108 115 (by decide) (fun h108 => ?_) (fun h108 => ?_)
          · refine V_iconst 0 dX7_worksOut_115 (by decide) ?_
            refine V_iast (j := (depE row i) - 1) dX7_worksOut_116 aM_stack (by omega) (by decide) ?_
            refine V_goto dX7_worksOut_117 150 (by decide) ?_
            refine V_iinc_4 dX7_worksOut_150 (by first | exact rfl | exact True.intro) (by decide) (nI (i + 1)) (nI_inc _) ?_
            refine V_goto dX7_worksOut_153 21 (by decide) ?_
            refine V_fg_5 ?_
            have hdep : depE row (i + 1) = depE row i := by
              simp only [depE]
              repeat' split
              all_goals omega
            refine V_lo (lo' := [some (.ref 97), some (.int (nI j)), some (.int (nI (depE row (i + 1)))), some (.int (nI (L j 2))), some (.int (nI (i + 1))), none]) (by rw [hdep]) ?_
            refine ih (i + 1) _ ⟨by omega, fun q hq9 => ?_, ?_⟩ (by omega)
            · first | exact hq q hq9 | (rw [vup_p hq9]; exact hq q hq9)
            · show stepE a b c (row i) (runE a b c row i) = _
              rw [hdep, hinv]
              rw [stk_put (by omega), stk_1 (by omega), stepE_not h90]
              first | rw [bI_t h108] | rw [bI_f h108]
          · refine V_iconst 1 dX7_worksOut_111 (by decide) ?_
            refine V_goto dX7_worksOut_112 116 (by decide) ?_
            refine V_iast (j := (depE row i) - 1) dX7_worksOut_116 aM_stack (by omega) (by decide) ?_
            refine V_goto dX7_worksOut_117 150 (by decide) ?_
            refine V_iinc_4 dX7_worksOut_150 (by first | exact rfl | exact True.intro) (by decide) (nI (i + 1)) (nI_inc _) ?_
            refine V_goto dX7_worksOut_153 21 (by decide) ?_
            refine V_fg_5 ?_
            have hdep : depE row (i + 1) = depE row i := by
              simp only [depE]
              repeat' split
              all_goals omega
            refine V_lo (lo' := [some (.ref 97), some (.int (nI j)), some (.int (nI (depE row (i + 1)))), some (.int (nI (L j 2))), some (.int (nI (i + 1))), none]) (by rw [hdep]) ?_
            refine ih (i + 1) _ ⟨by omega, fun q hq9 => ?_, ?_⟩ (by omega)
            · first | exact hq q hq9 | (rw [vup_p hq9]; exact hq q hq9)
            · show stepE a b c (row i) (runE a b c row i) = _
              rw [hdep, hinv]
              rw [stk_put (by omega), stk_1 (by omega), stepE_not h90]
              first | rw [bI_t h108] | rw [bI_f h108]
      · have hr2 : row i < 20000 := by have := mt (enc_neg hv.1).mpr h47; omega
        refine V_lo (lo' := [some (.ref 97), some (.int (nI j)), some (.int (nI (depE row i))), some (.int (nI (L j 2))), some (.int (nI i)), some (.int (nI (row i)))]) (by rw [enc_nat hr2]) ?_
        refine V_aloadn_0 dX7_worksOut_50 ?_
        refine V_getR dX7_worksOut_51 fl_X7_48 oM_stack ?_
        refine V_iloadn_2 dX7_worksOut_54 ?_
        refine V_iload_5 dX7_worksOut_55 ?_
        refine V_sipush 10000 dX7_worksOut_57 (by decide) ?_
        refine V_icmpN_ge (a := row i) (b := 10000) dX7_worksOut_60 68 (by decide) (by omega) (by omega) (fun h60 => ?_) (fun h60 => ?_)
        · refine V_aloadn_0 dX7_worksOut_68 ?_
          refine V_getR dX7_worksOut_69 fl_X7_51 oM_facts ?_
          refine V_iload_5 dX7_worksOut_72 ?_
          refine V_sipush 10000 dX7_worksOut_74 (by decide) ?_
          refine V_isubN (a := row i) (b := 10000) dX7_worksOut_77 (by omega) ?_
          refine V_iald (j := (row i) - 10000) dX7_worksOut_78 aM_facts (by omega) (by decide) ?_
          have hfa : (if row i = 10000 then a else if row i = 10001 then b else c) = σ0 111 (row i - 10000) := by
            rcases (show row i = 10000 ∨ row i = 10001 ∨ row i = 10002 by omega) with e | e | e
            · rw [e]; simp [ha]
            · rw [e]; simp [hb]
            · rw [e]; simp [hcc]
          refine V_topi (y := σ0 111 (row i - 10000)) (by rw [hq 111 (by decide)]) ?_
          refine V_iast (j := depE row i) dX7_worksOut_79 aM_stack (by omega) (by decide) ?_
          refine V_iinc_2 dX7_worksOut_80 (by first | exact rfl | exact True.intro) (by decide) (nI ((depE row i) + 1)) (nI_inc _) ?_
          refine V_goto dX7_worksOut_83 150 (by decide) ?_
          refine V_iinc_4 dX7_worksOut_150 (by first | exact rfl | exact True.intro) (by decide) (nI (i + 1)) (nI_inc _) ?_
          refine V_goto dX7_worksOut_153 21 (by decide) ?_
          refine V_fg_5 ?_
          have hdep : depE row (i + 1) = (depE row i) + 1 := by
            simp only [depE]
            repeat' split
            all_goals omega
          refine V_lo (lo' := [some (.ref 97), some (.int (nI j)), some (.int (nI (depE row (i + 1)))), some (.int (nI (L j 2))), some (.int (nI (i + 1))), none]) (by rw [hdep]) ?_
          refine ih (i + 1) _ ⟨by omega, fun q hq9 => ?_, ?_⟩ (by omega)
          · first | exact hq q hq9 | (rw [vup_p hq9]; exact hq q hq9)
          · show stepE a b c (row i) (runE a b c row i) = _
            rw [hdep, hinv]
            rw [stk_push, stepE_nm h60 hr2 hfa]
        · refine V_iload_5 dX7_worksOut_63 ?_
          refine V_goto dX7_worksOut_65 79 (by decide) ?_
          refine V_iast (j := depE row i) dX7_worksOut_79 aM_stack (by omega) (by decide) ?_
          refine V_iinc_2 dX7_worksOut_80 (by first | exact rfl | exact True.intro) (by decide) (nI ((depE row i) + 1)) (nI_inc _) ?_
          refine V_goto dX7_worksOut_83 150 (by decide) ?_
          refine V_iinc_4 dX7_worksOut_150 (by first | exact rfl | exact True.intro) (by decide) (nI (i + 1)) (nI_inc _) ?_
          refine V_goto dX7_worksOut_153 21 (by decide) ?_
          refine V_fg_5 ?_
          have hdep : depE row (i + 1) = (depE row i) + 1 := by
            simp only [depE]
            repeat' split
            all_goals omega
          refine V_lo (lo' := [some (.ref 97), some (.int (nI j)), some (.int (nI (depE row (i + 1)))), some (.int (nI (L j 2))), some (.int (nI (i + 1))), none]) (by rw [hdep]) ?_
          refine ih (i + 1) _ ⟨by omega, fun q hq9 => ?_, ?_⟩ (by omega)
          · first | exact hq q hq9 | (rw [vup_p hq9]; exact hq q hq9)
          · show stepE a b c (row i) (runE a b c row i) = _
            rw [hdep, hinv]
            rw [stk_push, stepE_num h60]

set_option maxRecDepth 100000 in
set_option maxHeartbeats 4000000 in
theorem k_M_worksOut {G : vG} {σ : vS} {d : Nat} (hd : 1 ≤ d) {L T : nT} (hC : MC L T σ) {j : Nat} (hj : j < T 0 15) {a b c : Int32} (ha : σ 111 0 = a) (hb : σ 111 1 = b) (hcc : σ 111 2 = c) : Cr G yX7_worksOut cX7_worksOut 6 (some .int) d [.ref 97, .int (nI j)] σ (some (.int (lawI L j a b c))) (fun σ' => ∀ q, q ≠ 110 → σ' q = σ q) := by
  refine Ct.ofV (by decide) (Nat.le_of_ble_eq_true rfl) rfl ?_
  show V G RX7 cX7_worksOut (some .int) 6 d _ 0 [some (.ref 97), some (.int (nI j)), none, none, none, none] [] _
  obtain ⟨d, rfl⟩ : ∃ e, d = e + 1 := ⟨d - 1, by omega⟩
  have hI := hC.2.2.1
  have hx := hI.tx
  have hY := hC.2.2.2.1 j hj
  have hY2 := hY.2.2.1
  refine V_iconst 0 dX7_worksOut_0 (by decide) ?_
  refine V_istoren_2 dX7_worksOut_1 (by first | exact rfl | exact True.intro) (by decide) ?_
  refine V_aloadn_0 dX7_worksOut_2 ?_
  refine V_getR dX7_worksOut_3 fl_X7_9 oM_now ?_
  refine V_bipush 107 dX7_worksOut_6 (by decide) ?_
  refine V_iconst 2 dX7_worksOut_8 (by decide) ?_
  refine V_iloadn_1 dX7_worksOut_9 ?_
  refine V_imulN (a := 2) (b := j) dX7_worksOut_10 ?_
  refine V_iaddN (a := 107) (b := 2 * j) dX7_worksOut_11 ?_
  refine V_iald (j := 107 + (2 * j)) dX7_worksOut_12 aM_now (by omega) (by decide) ?_
  refine V_topi (y := nI (1000 * L j 0 + L j 2)) (hC.2.1 j hj).1 ?_
  refine V_sipush 1000 dX7_worksOut_13 (by decide) ?_
  refine V_iremN (a := 1000 * L j 0 + L j 2) (b := 1000) dX7_worksOut_16 (by omega) (by omega) (by omega) ?_
  refine V_topi (y := nI (L j 2)) (by congr 1; omega) ?_
  refine V_istoren_3 dX7_worksOut_17 (by first | exact rfl | exact True.intro) (by decide) ?_
  refine V_iconst 0 dX7_worksOut_18 (by decide) ?_
  refine V_istore_4 dX7_worksOut_19 (by first | exact rfl | exact True.intro) (by decide) ?_
  exact lp_M_worksOut hC hj ha hb hcc (L j 2 + 1) 0 σ ⟨by omega, fun _ _ => rfl, rfl⟩ (by omega)

theorem Fh.fa {σ : vS} {j : Nat} {v : Int32} : Fh σ (vup σ 111 j v) := fun q _ b => vup_p b
theorem Fh.st {σ σ' : vS} (h : ∀ q, q ≠ 110 → σ' q = σ q) : Fh σ σ' := fun q a _ => h q a
theorem wi_clamp (g : Int32) : wiI g 0 999 = nI (clampN g) := by
  unfold wiI clampN
  split
  · rfl
  · split
    · rfl
    · rename_i h _
      obtain ⟨j, hj, rfl⟩ := nI_of h
      rw [nI_clamp hj]
theorem plain_law' {L T : nT} {c : Nat} (h : T 10 0 ≠ 0) : plainT L T c = clampN (lawI L (T 10 0 - 1) (nI (fullT T c)) (nI (T 3 c)) (nI (T 4 (c * 3)))) := by
  unfold plainT
  rw [if_neg h]

set_option maxRecDepth 100000 in
set_option maxHeartbeats 4000000 in
theorem k_M_highOf {G : vG} {σ : vS} {d : Nat} (hd : 2 ≤ d) {L T : nT} (hC : MC L T σ) {c : Nat} (hc : c < T 0 5) : Cr G yX7_highOf cX7_highOf 5 (some .int) d [.ref 97, .int (nI c)] σ (some (.int (nI (highT L T c)))) (fun σ' => Fh σ σ') := by
  refine Ct.ofV (by decide) (Nat.le_of_ble_eq_true rfl) rfl ?_
  show V G RX7 cX7_highOf (some .int) 5 d _ 0 [some (.ref 97), some (.int (nI c)), none, none, none] [] _
  obtain ⟨d, rfl⟩ : ∃ e, d = e + 1 := ⟨d - 1, by omega⟩
  have hI := hC.2.2.1
  have hn := hI.nc
  have hm := hI.np
  have hF : Fh σ σ := Fh.rf
  have hx := hI.tx
  have hlw := hI.lw (k := 0) (by decide)
  have hf := hI.full hc
  have hk := (hI.ce hc).1
  have hpl := plainT_le L T c
  refine V_aloadn_0 dX7_highOf_0 ?_
  refine V_iloadn_1 dX7_highOf_1 ?_
  refine V_cv1f dX7_highOf_2 cv_X7_96 rcM (Nat.le_of_ble_eq_true rfl) (k_M_fullOf (by omega) hC (by omega)) ?_
  refine V_istoren_2 dX7_highOf_5 (by first | exact rfl | exact True.intro) (by decide) ?_
  refine V_aloadn_0 dX7_highOf_6 ?_
  refine V_iconst 0 dX7_highOf_7 (by decide) ?_
  refine V_cv1f dX7_highOf_8 cv_X7_100 rcM (Nat.le_of_ble_eq_true rfl) (k_M_counts (ky := 0) hC (by decide)) ?_
  refine V_istoren_3 dX7_highOf_11 (by first | exact rfl | exact True.intro) (by decide) ?_
  refine V_aloadn_0 dX7_highOf_12 ?_
  refine V_getR dX7_highOf_13 fl_X7_51 oM_facts ?_
  refine V_iconst 0 dX7_highOf_16 (by decide) ?_
  refine V_iloadn_2 dX7_highOf_17 ?_
  refine V_iast (j := 0) dX7_highOf_18 aM_facts (by decide) (by decide) ?_
  replace hC := hC.fh (Fh.fa (j := 0) (v := nI (fullT T c)))
  replace hF := hF.tr (Fh.fa (j := 0) (v := nI (fullT T c)))
  refine V_aloadn_0 dX7_highOf_19 ?_
  refine V_getR dX7_highOf_20 fl_X7_51 oM_facts ?_
  refine V_iconst 1 dX7_highOf_23 (by decide) ?_
  refine V_aloadn_0 dX7_highOf_24 ?_
  refine V_iloadn_1 dX7_highOf_25 ?_
  refine V_iconst 2 dX7_highOf_26 (by decide) ?_
  refine V_cv2f dX7_highOf_27 cv_X7_92 rcM (Nat.le_of_ble_eq_true rfl) (k_M_of (c := c) (w := 2) (by omega) (hC.1.c3 (by omega))) ?_
  refine V_iast (j := 1) dX7_highOf_30 aM_facts (by decide) (by decide) ?_
  replace hC := hC.fh (Fh.fa (j := 1) (v := nI (T 3 c)))
  replace hF := hF.tr (Fh.fa (j := 1) (v := nI (T 3 c)))
  refine V_aloadn_0 dX7_highOf_31 ?_
  refine V_getR dX7_highOf_32 fl_X7_51 oM_facts ?_
  refine V_iconst 2 dX7_highOf_35 (by decide) ?_
  refine V_aloadn_0 dX7_highOf_36 ?_
  refine V_iloadn_1 dX7_highOf_37 ?_
  refine V_iconst 3 dX7_highOf_38 (by decide) ?_
  refine V_cv2f dX7_highOf_39 cv_X7_92 rcM (Nat.le_of_ble_eq_true rfl) (k_M_of (c := c) (w := 3) (by omega) (hC.1.w (s := 0) (by omega) (by decide))) ?_
  refine V_iast (j := 2) dX7_highOf_42 aM_facts (by decide) (by decide) ?_
  replace hC := hC.fh (Fh.fa (j := 2) (v := nI (T 4 (c * 3))))
  replace hF := hF.tr (Fh.fa (j := 2) (v := nI (T 4 (c * 3))))
  refine V_iloadn_3 dX7_highOf_43 ?_
  refine V_if_ge dX7_highOf_44 61 (by decide) (fun h44 => ?_) (fun h44 => ?_)
  · have hl := lw_ge h44
    refine V_aloadn_0 dX7_highOf_61 ?_
    refine V_iloadn_3 dX7_highOf_62 ?_
    refine V_topi (y := nI (T 10 0 - 1)) (lw_val hl) ?_
    refine V_cv1r dX7_highOf_63 cv_X7_106 rcM (Nat.le_of_ble_eq_true rfl) (k_M_worksOut (a := nI (fullT T c)) (b := nI (T 3 c)) (c := nI (T 4 (c * 3))) (by omega) hC (by omega) (by rw [vup_ne (by decide), vup_ne (by decide), vup_same]) (by rw [vup_ne (by decide), vup_same]) (by rw [vup_same])) (fun σ hq => ?_)
    replace hC := hC.fh (Fh.st hq)
    replace hF := hF.tr (Fh.st hq)
    refine V_iconst 0 dX7_highOf_66 (by decide) ?_
    refine V_sipush 999 dX7_highOf_67 (by decide) ?_
    refine V_cs3f dX7_highOf_70 cs_X7_103 (Nat.le_of_ble_eq_true rfl) k_M_within ?_
    refine V_topi (y := nI (plainT L T c)) (by rw [plain_law' hl]; exact wi_clamp _) ?_
    refine V_istore_4 dX7_highOf_73 (by first | exact rfl | exact True.intro) (by decide) ?_
    refine V_aloadn_0 dX7_highOf_75 ?_
    refine V_iloadn_1 dX7_highOf_76 ?_
    refine V_iconst 0 dX7_highOf_77 (by decide) ?_
    refine V_cv2f dX7_highOf_78 cv_X7_92 rcM (Nat.le_of_ble_eq_true rfl) (k_M_of (c := c) (w := 0) (by omega) (hC.1.c1 (by omega))) ?_
    by_cases h81_1 : T 1 c = 1
    · refine V_tab 1 35 116 dX7_highOf_81 (by rw [h81_1]; rfl) (by decide) (by decide) (by decide) (by decide) ?_
      refine V_iload_4 dX7_highOf_116 ?_
      refine V_iconst 2 dX7_highOf_118 (by decide) ?_
      refine V_idivN (a := plainT L T c) (b := 2) dX7_highOf_119 (by omega) (by omega) (by omega) ?_
      exact V_iret dX7_highOf_120 ⟨rN (by simp [highT, highK, h81_1]), hF⟩
    by_cases h81_2 : T 1 c = 2
    · refine V_tab 2 57 138 dX7_highOf_81 (by rw [h81_2]; rfl) (by decide) (by decide) (by decide) (by decide) ?_
      refine V_iloadn_2 dX7_highOf_138 ?_
      refine V_ifN_le (a := fullT T c) dX7_highOf_139 149 (by decide) (by omega) (fun h139 => ?_) (fun h139 => ?_)
      · refine V_iload_4 dX7_highOf_149 ?_
        exact V_iret dX7_highOf_151 ⟨rN (by first | (simp [highT, highK, h81_1, h81_2, h81_3, h81_4, h139]; done) | (simp [highT, highK, h81_1, h81_2, h139]; done)), hF⟩
      · refine V_iload_4 dX7_highOf_142 ?_
        refine V_iconst 1 dX7_highOf_144 (by decide) ?_
        refine V_iaddN (a := plainT L T c) (b := 1) dX7_highOf_145 ?_
        refine V_goto dX7_highOf_146 151 (by decide) ?_
        exact V_iret dX7_highOf_151 ⟨rN (by first | (simp [highT, highK, h81_1, h81_2, h81_3, h81_4, h139]; done) | (simp [highT, highK, h81_1, h81_2, h139]; done)), hF⟩
    by_cases h81_3 : T 1 c = 3
    · refine V_tab 3 40 121 dX7_highOf_81 (by rw [h81_3]; rfl) (by decide) (by decide) (by decide) (by decide) ?_
      refine V_iload_4 dX7_highOf_121 ?_
      refine V_iconst 4 dX7_highOf_123 (by decide) ?_
      refine V_icmpN_ge (a := plainT L T c) (b := 4) dX7_highOf_124 131 (by decide) (by omega) (by omega) (fun h124 => ?_) (fun h124 => ?_)
      · refine V_iload_4 dX7_highOf_131 ?_
        refine V_iconst 2 dX7_highOf_133 (by decide) ?_
        refine V_idivN (a := plainT L T c) (b := 2) dX7_highOf_134 (by omega) (by omega) (by omega) ?_
        refine V_iconst 2 dX7_highOf_135 (by decide) ?_
        refine V_isubN (a := (plainT L T c) / 2) (b := 2) dX7_highOf_136 (by omega) ?_
        exact V_iret dX7_highOf_137 ⟨rN (by simp [highT, highK, h81_3]; try omega), hF⟩
      · refine V_iconst 0 dX7_highOf_127 (by decide) ?_
        refine V_goto dX7_highOf_128 137 (by decide) ?_
        exact V_iret dX7_highOf_137 ⟨rN (a := 0) (by simp [highT, highK, h81_3]; try omega), hF⟩
    by_cases h81_4 : T 1 c = 4
    · refine V_tab 4 57 138 dX7_highOf_81 (by rw [h81_4]; rfl) (by decide) (by decide) (by decide) (by decide) ?_
      refine V_iloadn_2 dX7_highOf_138 ?_
      refine V_ifN_le (a := fullT T c) dX7_highOf_139 149 (by decide) (by omega) (fun h139 => ?_) (fun h139 => ?_)
      · refine V_iload_4 dX7_highOf_149 ?_
        exact V_iret dX7_highOf_151 ⟨rN (by first | (simp [highT, highK, h81_1, h81_2, h81_3, h81_4, h139]; done) | (simp [highT, highK, h81_1, h81_2, h139]; done)), hF⟩
      · refine V_iload_4 dX7_highOf_142 ?_
        refine V_iconst 1 dX7_highOf_144 (by decide) ?_
        refine V_iaddN (a := plainT L T c) (b := 1) dX7_highOf_145 ?_
        refine V_goto dX7_highOf_146 151 (by decide) ?_
        exact V_iret dX7_highOf_151 ⟨rN (by first | (simp [highT, highK, h81_1, h81_2, h81_3, h81_4, h139]; done) | (simp [highT, highK, h81_1, h81_2, h139]; done)), hF⟩
    by_cases h81_5 : T 1 c = 5
    · refine V_tab 5 71 152 dX7_highOf_81 (by rw [h81_5]; rfl) (by decide) (by decide) (by decide) (by decide) ?_
      refine V_iconst 0 dX7_highOf_152 (by decide) ?_
      exact V_iret dX7_highOf_153 ⟨rN (a := 0) (by simp [highT, highK, h81_1, h81_2, h81_3, h81_4, h81_5]), hF⟩
    refine V_tabD 154 dX7_highOf_81 (by rw [nI_toInt (by omega)]; omega) (by decide) ?_
    refine V_iload_4 dX7_highOf_154 ?_
    exact V_iret dX7_highOf_156 ⟨rN (by simp [highT, highK, h81_1, h81_2, h81_3, h81_4, h81_5]), hF⟩
  · have hl := lw_lt (by omega) h44
    refine V_iloadn_2 dX7_highOf_47 ?_
    refine V_bipush 10 dX7_highOf_48 (by decide) ?_
    refine V_idivN (a := fullT T c) (b := 10) dX7_highOf_50 (by omega) (by omega) (by omega) ?_
    refine V_iconst 0 dX7_highOf_51 (by decide) ?_
    refine V_sipush 999 dX7_highOf_52 (by decide) ?_
    refine V_cs3f dX7_highOf_55 cs_X7_103 (Nat.le_of_ble_eq_true rfl) k_M_within ?_
    refine V_topi (y := nI (plainT L T c)) (by unfold plainT; rw [if_pos hl]; exact wiN (b := 999) (by omega) (by decide)) ?_
    refine V_goto dX7_highOf_58 73 (by decide) ?_
    refine V_istore_4 dX7_highOf_73 (by first | exact rfl | exact True.intro) (by decide) ?_
    refine V_aloadn_0 dX7_highOf_75 ?_
    refine V_iloadn_1 dX7_highOf_76 ?_
    refine V_iconst 0 dX7_highOf_77 (by decide) ?_
    refine V_cv2f dX7_highOf_78 cv_X7_92 rcM (Nat.le_of_ble_eq_true rfl) (k_M_of (c := c) (w := 0) (by omega) (hC.1.c1 (by omega))) ?_
    by_cases h81_1 : T 1 c = 1
    · refine V_tab 1 35 116 dX7_highOf_81 (by rw [h81_1]; rfl) (by decide) (by decide) (by decide) (by decide) ?_
      refine V_iload_4 dX7_highOf_116 ?_
      refine V_iconst 2 dX7_highOf_118 (by decide) ?_
      refine V_idivN (a := plainT L T c) (b := 2) dX7_highOf_119 (by omega) (by omega) (by omega) ?_
      exact V_iret dX7_highOf_120 ⟨rN (by simp [highT, highK, h81_1]), hF⟩
    by_cases h81_2 : T 1 c = 2
    · refine V_tab 2 57 138 dX7_highOf_81 (by rw [h81_2]; rfl) (by decide) (by decide) (by decide) (by decide) ?_
      refine V_iloadn_2 dX7_highOf_138 ?_
      refine V_ifN_le (a := fullT T c) dX7_highOf_139 149 (by decide) (by omega) (fun h139 => ?_) (fun h139 => ?_)
      · refine V_iload_4 dX7_highOf_149 ?_
        exact V_iret dX7_highOf_151 ⟨rN (by first | (simp [highT, highK, h81_1, h81_2, h81_3, h81_4, h139]; done) | (simp [highT, highK, h81_1, h81_2, h139]; done)), hF⟩
      · refine V_iload_4 dX7_highOf_142 ?_
        refine V_iconst 1 dX7_highOf_144 (by decide) ?_
        refine V_iaddN (a := plainT L T c) (b := 1) dX7_highOf_145 ?_
        refine V_goto dX7_highOf_146 151 (by decide) ?_
        exact V_iret dX7_highOf_151 ⟨rN (by first | (simp [highT, highK, h81_1, h81_2, h81_3, h81_4, h139]; done) | (simp [highT, highK, h81_1, h81_2, h139]; done)), hF⟩
    by_cases h81_3 : T 1 c = 3
    · refine V_tab 3 40 121 dX7_highOf_81 (by rw [h81_3]; rfl) (by decide) (by decide) (by decide) (by decide) ?_
      refine V_iload_4 dX7_highOf_121 ?_
      refine V_iconst 4 dX7_highOf_123 (by decide) ?_
      refine V_icmpN_ge (a := plainT L T c) (b := 4) dX7_highOf_124 131 (by decide) (by omega) (by omega) (fun h124 => ?_) (fun h124 => ?_)
      · refine V_iload_4 dX7_highOf_131 ?_
        refine V_iconst 2 dX7_highOf_133 (by decide) ?_
        refine V_idivN (a := plainT L T c) (b := 2) dX7_highOf_134 (by omega) (by omega) (by omega) ?_
        refine V_iconst 2 dX7_highOf_135 (by decide) ?_
        refine V_isubN (a := (plainT L T c) / 2) (b := 2) dX7_highOf_136 (by omega) ?_
        exact V_iret dX7_highOf_137 ⟨rN (by simp [highT, highK, h81_3]; try omega), hF⟩
      · refine V_iconst 0 dX7_highOf_127 (by decide) ?_
        refine V_goto dX7_highOf_128 137 (by decide) ?_
        exact V_iret dX7_highOf_137 ⟨rN (a := 0) (by simp [highT, highK, h81_3]; try omega), hF⟩
    by_cases h81_4 : T 1 c = 4
    · refine V_tab 4 57 138 dX7_highOf_81 (by rw [h81_4]; rfl) (by decide) (by decide) (by decide) (by decide) ?_
      refine V_iloadn_2 dX7_highOf_138 ?_
      refine V_ifN_le (a := fullT T c) dX7_highOf_139 149 (by decide) (by omega) (fun h139 => ?_) (fun h139 => ?_)
      · refine V_iload_4 dX7_highOf_149 ?_
        exact V_iret dX7_highOf_151 ⟨rN (by first | (simp [highT, highK, h81_1, h81_2, h81_3, h81_4, h139]; done) | (simp [highT, highK, h81_1, h81_2, h139]; done)), hF⟩
      · refine V_iload_4 dX7_highOf_142 ?_
        refine V_iconst 1 dX7_highOf_144 (by decide) ?_
        refine V_iaddN (a := plainT L T c) (b := 1) dX7_highOf_145 ?_
        refine V_goto dX7_highOf_146 151 (by decide) ?_
        exact V_iret dX7_highOf_151 ⟨rN (by first | (simp [highT, highK, h81_1, h81_2, h81_3, h81_4, h139]; done) | (simp [highT, highK, h81_1, h81_2, h139]; done)), hF⟩
    by_cases h81_5 : T 1 c = 5
    · refine V_tab 5 71 152 dX7_highOf_81 (by rw [h81_5]; rfl) (by decide) (by decide) (by decide) (by decide) ?_
      refine V_iconst 0 dX7_highOf_152 (by decide) ?_
      exact V_iret dX7_highOf_153 ⟨rN (a := 0) (by simp [highT, highK, h81_1, h81_2, h81_3, h81_4, h81_5]), hF⟩
    refine V_tabD 154 dX7_highOf_81 (by rw [nI_toInt (by omega)]; omega) (by decide) ?_
    refine V_iload_4 dX7_highOf_154 ?_
    exact V_iret dX7_highOf_156 ⟨rN (by simp [highT, highK, h81_1, h81_2, h81_3, h81_4, h81_5]), hF⟩
