theorem hasN {c n : Nat} (hc : c < n) (hn : n < 2 ^ 31) : hasI (nI c) n := (hasI_iff hn).mpr ⟨c, hc, rfl⟩
theorem inN {a b c : Nat} (ha : a ≤ c) (hb : c ≤ b) (h : b < 2 ^ 31) : inI (nI c) (nI a) (nI b) := (inI_iff' (by omega) h).mpr ⟨c, ha, hb, rfl⟩
theorem MA.pw {q p w : Nat} {T : nT} {σ : vS} (h : MA q T σ) (hp : p < T 0 10) (hw : w < 4) : σ q (55 + 4 * p + w) = nI (T (6 + w) p) := by
  rcases (show w = 0 ∨ w = 1 ∨ w = 2 ∨ w = 3 by omega) with rfl | rfl | rfl | rfl
  · exact h.p6 hp
  · exact h.p7 hp
  · exact h.p8 hp
  · exact h.p9 hp
def BAD : Int32 := -1000000001

set_option maxRecDepth 100000 in
set_option maxHeartbeats 4000000 in
theorem k_C_within {G : vG} {σ : vS} {d : Nat} {v lo hi : Int32} : Cf G yX6_within cX6_within 3 (some .boolean) d [.int v, .int lo, .int hi] σ (some (.int (bI (inI v lo hi)))) σ := by
  refine Ct.ofV (by decide) (Nat.le_of_ble_eq_true rfl) rfl ?_
  show V G RX6 cX6_within (some .boolean) 3 d _ 0 [some (.int v), some (.int lo), some (.int hi)] [] _
  refine V_iloadn_0 dX6_within_0 ?_
  refine V_iloadn_1 dX6_within_1 ?_
  refine V_icmp_lt dX6_within_2 14 (by decide) (fun h2 => ?_) (fun h2 => ?_)
  · refine V_iconst 0 dX6_within_14 (by decide) ?_
    exact V_zret dX6_within_15 (by decide) ⟨rB0 (fun q => by first | exact absurd h2 q.1 | exact absurd h7 q.2), rfl⟩
  · refine V_iloadn_0 dX6_within_5 ?_
    refine V_iloadn_2 dX6_within_6 ?_
    refine V_icmp_gt dX6_within_7 14 (by decide) (fun h7 => ?_) (fun h7 => ?_)
    · refine V_iconst 0 dX6_within_14 (by decide) ?_
      exact V_zret dX6_within_15 (by decide) ⟨rB0 (fun q => by first | exact absurd h2 q.1 | exact absurd h7 q.2), rfl⟩
    · refine V_iconst 1 dX6_within_10 (by decide) ?_
      refine V_goto dX6_within_11 15 (by decide) ?_
      exact V_zret dX6_within_15 (by decide) ⟨rB1 ⟨h2, h7⟩, rfl⟩

theorem in3 {x : Int32} : inI x 0 3 ↔ hasI x 4 := by
  rw [hasI_iff (by decide), show inI x 0 3 ↔ ∃ j, j ≤ 3 ∧ x = nI j from inI_iff (b := 3) (by decide)]
  constructor
  · rintro ⟨j, h, e⟩; exact ⟨j, by omega, e⟩
  · rintro ⟨j, h, e⟩; exact ⟨j, by omega, e⟩
theorem in4 {x : Int32} : inI x 0 4 ↔ hasI x 5 := by
  rw [hasI_iff (by decide), show inI x 0 4 ↔ ∃ j, j ≤ 4 ∧ x = nI j from inI_iff (b := 4) (by decide)]
  constructor
  · rintro ⟨j, h, e⟩; exact ⟨j, by omega, e⟩
  · rintro ⟨j, h, e⟩; exact ⟨j, by omega, e⟩
set_option maxRecDepth 100000 in
set_option maxHeartbeats 4000000 in
theorem k_C_isSheet {G : vG} {σ : vS} {d : Nat} (hd : 1 ≤ d) {x : Int32} : Cf G yX6_isSheet cX6_isSheet 1 (some .boolean) d [.int x] σ (some (.int (bI (hasI x 4)))) σ := by
  refine Ct.ofV (by decide) (Nat.le_of_ble_eq_true rfl) rfl ?_
  show V G RX6 cX6_isSheet (some .boolean) 1 d _ 0 [some (.int x)] [] _
  obtain ⟨d, rfl⟩ : ∃ e, d = e + 1 := ⟨d - 1, by omega⟩
  refine V_iloadn_0 dX6_isSheet_0 ?_
  refine V_iconst 0 dX6_isSheet_1 (by decide) ?_
  refine V_iconst 3 dX6_isSheet_2 (by decide) ?_
  refine V_cs3f dX6_isSheet_3 cs_X6_108 (Nat.le_of_ble_eq_true rfl) k_C_within ?_
  exact V_zret dX6_isSheet_6 (by rcases bI_01 (inI x 0 3) with h | h <;> rw [h] <;> decide) ⟨rI (bI_iff in3), rfl⟩

set_option maxRecDepth 100000 in
set_option maxHeartbeats 4000000 in
theorem k_C_isSlot {G : vG} {σ : vS} {d : Nat} (hd : 1 ≤ d) {x : Int32} : Cf G yX6_isSlot cX6_isSlot 1 (some .boolean) d [.int x] σ (some (.int (bI (hasI x 5)))) σ := by
  refine Ct.ofV (by decide) (Nat.le_of_ble_eq_true rfl) rfl ?_
  show V G RX6 cX6_isSlot (some .boolean) 1 d _ 0 [some (.int x)] [] _
  obtain ⟨d, rfl⟩ : ∃ e, d = e + 1 := ⟨d - 1, by omega⟩
  refine V_iloadn_0 dX6_isSlot_0 ?_
  refine V_iconst 0 dX6_isSlot_1 (by decide) ?_
  refine V_iconst 4 dX6_isSlot_2 (by decide) ?_
  refine V_cs3f dX6_isSlot_3 cs_X6_108 (Nat.le_of_ble_eq_true rfl) k_C_within ?_
  exact V_zret dX6_isSlot_6 (by rcases bI_01 (inI x 0 4) with h | h <;> rw [h] <;> decide) ⟨rI (bI_iff in4), rfl⟩

set_option maxRecDepth 100000 in
set_option maxHeartbeats 4000000 in
theorem k_M_isSheet {G : vG} {σ : vS} {d : Nat} (hd : 1 ≤ d) {x : Int32} : Cf G yX7_isSheet cX7_isSheet 1 (some .boolean) d [.int x] σ (some (.int (bI (hasI x 4)))) σ := by
  refine Ct.ofV (by decide) (Nat.le_of_ble_eq_true rfl) rfl ?_
  show V G RX7 cX7_isSheet (some .boolean) 1 d _ 0 [some (.int x)] [] _
  obtain ⟨d, rfl⟩ : ∃ e, d = e + 1 := ⟨d - 1, by omega⟩
  refine V_iloadn_0 dX7_isSheet_0 ?_
  refine V_iconst 0 dX7_isSheet_1 (by decide) ?_
  refine V_iconst 3 dX7_isSheet_2 (by decide) ?_
  refine V_cs3f dX7_isSheet_3 cs_X7_82 (Nat.le_of_ble_eq_true rfl) k_M_in ?_
  exact V_zret dX7_isSheet_6 (by rcases bI_01 (inI x 0 3) with h | h <;> rw [h] <;> decide) ⟨rI (bI_iff in3), rfl⟩

set_option maxRecDepth 100000 in
set_option maxHeartbeats 4000000 in
theorem k_M_isSlot {G : vG} {σ : vS} {d : Nat} (hd : 1 ≤ d) {x : Int32} : Cf G yX7_isSlot cX7_isSlot 1 (some .boolean) d [.int x] σ (some (.int (bI (hasI x 5)))) σ := by
  refine Ct.ofV (by decide) (Nat.le_of_ble_eq_true rfl) rfl ?_
  show V G RX7 cX7_isSlot (some .boolean) 1 d _ 0 [some (.int x)] [] _
  obtain ⟨d, rfl⟩ : ∃ e, d = e + 1 := ⟨d - 1, by omega⟩
  refine V_iloadn_0 dX7_isSlot_0 ?_
  refine V_iconst 0 dX7_isSlot_1 (by decide) ?_
  refine V_iconst 4 dX7_isSlot_2 (by decide) ?_
  refine V_cs3f dX7_isSlot_3 cs_X7_82 (Nat.le_of_ble_eq_true rfl) k_M_in ?_
  exact V_zret dX7_isSlot_6 (by rcases bI_01 (inI x 0 4) with h | h <;> rw [h] <;> decide) ⟨rI (bI_iff in4), rfl⟩

def toldC (L T : nT) (c : Nat) (w : Int32) : Int32 := if w = 0 then nI (T 1 c) else if w = 1 then nI (T 2 c) else if w = 2 then nI (T 3 c) else if w = 3 then nI (fullT T c) else if w = 4 then nI (highT L T c) else if w = 5 then nI (levT L T c) else if w = 6 then nI (losesN (T 1 c) (fullT T c)) else if w = 7 then worthI (T 1 c) (T 3 c) else if w = 8 then nI (T 4 (c * 3 + 0)) else if w = 9 then nI (T 4 (c * 3 + 1)) else if w = 10 then nI (T 4 (c * 3 + 2)) else -1000000001

set_option maxRecDepth 100000 in
set_option maxHeartbeats 4000000 in
theorem c_told {G : vG} {σ : vS} {d : Nat} (hd : 2 ≤ d) {L T : nT} {N : Nat} (hC : TC L N 61 T σ) {c : Nat} {w : Int32} (hc : c < T 0 5) : Cf G yX6_told cX6_told 3 (some .int) d [.ref 0, .int (nI c), .int w] σ (some (.int (toldC L T c w))) σ := by
  refine Ct.ofV (by decide) (Nat.le_of_ble_eq_true rfl) rfl ?_
  show V G RX6 cX6_told (some .int) 3 d _ 0 [some (.ref 0), some (.int (nI c)), some (.int w)] [] _
  obtain ⟨d, rfl⟩ : ∃ e, d = e + 1 := ⟨d - 1, by omega⟩
  obtain ⟨ht, hH, hI, hL, hLI, hN, hN2⟩ := id hC
  have hT := hH.1
  have hn := hI.nc
  have hm := hI.np
  have hf := hI.full hc
  have hk := hI.ce hc
  refine V_aloadn_0 dX6_told_0 ?_
  refine V_getR dX6_told_1 fl_X6_46 oC_now ?_
  refine V_iloadn_1 dX6_told_4 ?_
  refine V_cv1f dX6_told_5 cv_X6_76 (rcT tw61) (Nat.le_of_ble_eq_true rfl) (k_T_hasCellar tw61 hT) ?_
  refine V_ifB_ne dX6_told_8 14 (by decide) (fun h8 => ?_) (fun h8 => ?_)
  · refine V_iloadn_2 dX6_told_14 ?_
    by_cases h15_0 : w = 0
    · refine V_tab 0 57 72 dX6_told_15 (by rw [h15_0]; rfl) (by decide) (by decide) (by decide) (by decide) ?_
      subst h15_0
      refine V_aloadn_0 dX6_told_72 ?_
      refine V_getR dX6_told_73 fl_X6_46 oC_now ?_
      refine V_getR dX6_told_76 fl_X6_79 (oT_kind tw61) ?_
      refine V_iloadn_1 dX6_told_79 ?_
      refine V_iald (j := c) dX6_told_80 (aT_kind tw61) (by omega) (by decide) ?_
      refine V_topi (hT.k1 (by omega)) ?_
      exact V_iret dX6_told_81 ⟨rI (by first | rfl | simp [toldC, *]), rfl⟩
    by_cases h15_1 : w = 1
    · refine V_tab 1 67 82 dX6_told_15 (by rw [h15_1]; rfl) (by decide) (by decide) (by decide) (by decide) ?_
      subst h15_1
      refine V_aloadn_0 dX6_told_82 ?_
      refine V_getR dX6_told_83 fl_X6_46 oC_now ?_
      refine V_getR dX6_told_86 fl_X6_82 (oT_floor tw61) ?_
      refine V_iloadn_1 dX6_told_89 ?_
      refine V_iald (j := c) dX6_told_90 (aT_floor tw61) (by omega) (by decide) ?_
      refine V_topi (hT.k2 (by omega)) ?_
      exact V_iret dX6_told_91 ⟨rI (by first | rfl | simp [toldC, *]), rfl⟩
    by_cases h15_2 : w = 2
    · refine V_tab 2 77 92 dX6_told_15 (by rw [h15_2]; rfl) (by decide) (by decide) (by decide) (by decide) ?_
      subst h15_2
      refine V_aloadn_0 dX6_told_92 ?_
      refine V_getR dX6_told_93 fl_X6_46 oC_now ?_
      refine V_getR dX6_told_96 fl_X6_85 (oT_lip tw61) ?_
      refine V_iloadn_1 dX6_told_99 ?_
      refine V_iald (j := c) dX6_told_100 (aT_lip tw61) (by omega) (by decide) ?_
      refine V_topi (hT.k3 (by omega)) ?_
      exact V_iret dX6_told_101 ⟨rI (by first | rfl | simp [toldC, *]), rfl⟩
    by_cases h15_3 : w = 3
    · refine V_tab 3 87 102 dX6_told_15 (by rw [h15_3]; rfl) (by decide) (by decide) (by decide) (by decide) ?_
      subst h15_3
      refine V_aloadn_0 dX6_told_102 ?_
      refine V_getR dX6_told_103 fl_X6_46 oC_now ?_
      refine V_iloadn_1 dX6_told_106 ?_
      refine V_cv1f dX6_told_107 cv_X6_88 (rcT tw61) (Nat.le_of_ble_eq_true rfl) (k_T_fullOf tw61 hT hI (by omega)) ?_
      exact V_iret dX6_told_110 ⟨rI (by first | rfl | simp [toldC, *]), rfl⟩
    by_cases h15_4 : w = 4
    · refine V_tab 4 96 111 dX6_told_15 (by rw [h15_4]; rfl) (by decide) (by decide) (by decide) (by decide) ?_
      subst h15_4
      refine V_aloadn_0 dX6_told_111 ?_
      refine V_getR dX6_told_112 fl_X6_46 oC_now ?_
      refine V_getR dX6_told_115 fl_X6_92 (oT_high tw61) ?_
      refine V_iloadn_1 dX6_told_118 ?_
      refine V_iald (j := c) dX6_told_119 (aT_high tw61) (by omega) (by decide) ?_
      refine V_topi (hH.k5 (by omega)) ?_
      exact V_iret dX6_told_120 ⟨rI (by first | rfl | simp [toldC, *]), rfl⟩
    by_cases h15_5 : w = 5
    · refine V_tab 5 106 121 dX6_told_15 (by rw [h15_5]; rfl) (by decide) (by decide) (by decide) (by decide) ?_
      subst h15_5
      refine V_aloadn_0 dX6_told_121 ?_
      refine V_getR dX6_told_122 fl_X6_46 oC_now ?_
      refine V_iloadn_1 dX6_told_125 ?_
      refine V_cv1f dX6_told_126 cv_X6_95 (rcT tw61) (Nat.le_of_ble_eq_true rfl) (k_T_levelOf tw61 hH hI (by omega)) ?_
      exact V_iret dX6_told_129 ⟨rI (by first | rfl | simp [toldC, *]), rfl⟩
    by_cases h15_6 : w = 6
    · refine V_tab 6 115 130 dX6_told_15 (by rw [h15_6]; rfl) (by decide) (by decide) (by decide) (by decide) ?_
      subst h15_6
      refine V_aloadn_0 dX6_told_130 ?_
      refine V_getR dX6_told_131 fl_X6_46 oC_now ?_
      refine V_getR dX6_told_134 fl_X6_79 (oT_kind tw61) ?_
      refine V_iloadn_1 dX6_told_137 ?_
      refine V_iald (j := c) dX6_told_138 (aT_kind tw61) (by omega) (by decide) ?_
      refine V_topi (hT.k1 (by omega)) ?_
      refine V_aloadn_0 dX6_told_139 ?_
      refine V_getR dX6_told_140 fl_X6_46 oC_now ?_
      refine V_iloadn_1 dX6_told_143 ?_
      refine V_cv1f dX6_told_144 cv_X6_88 (rcT tw61) (Nat.le_of_ble_eq_true rfl) (k_T_fullOf tw61 hT hI (by omega)) ?_
      refine V_cs2f dX6_told_147 cs_X6_98 (Nat.le_of_ble_eq_true rfl) (k_loses (by omega) (by omega) (by omega)) ?_
      exact V_iret dX6_told_150 ⟨rI (by first | rfl | simp [toldC, *]), rfl⟩
    by_cases h15_7 : w = 7
    · refine V_tab 7 136 151 dX6_told_15 (by rw [h15_7]; rfl) (by decide) (by decide) (by decide) (by decide) ?_
      subst h15_7
      refine V_aloadn_0 dX6_told_151 ?_
      refine V_getR dX6_told_152 fl_X6_46 oC_now ?_
      refine V_getR dX6_told_155 fl_X6_79 (oT_kind tw61) ?_
      refine V_iloadn_1 dX6_told_158 ?_
      refine V_iald (j := c) dX6_told_159 (aT_kind tw61) (by omega) (by decide) ?_
      refine V_topi (hT.k1 (by omega)) ?_
      refine V_aloadn_0 dX6_told_160 ?_
      refine V_getR dX6_told_161 fl_X6_46 oC_now ?_
      refine V_getR dX6_told_164 fl_X6_85 (oT_lip tw61) ?_
      refine V_iloadn_1 dX6_told_167 ?_
      refine V_iald (j := c) dX6_told_168 (aT_lip tw61) (by omega) (by decide) ?_
      refine V_topi (hT.k3 (by omega)) ?_
      refine V_cs2f dX6_told_169 cs_X6_102 (Nat.le_of_ble_eq_true rfl) (k_worth (by omega) (by omega)) ?_
      exact V_iret dX6_told_172 ⟨rI (by first | rfl | simp [toldC, *]), rfl⟩
    by_cases h15_8 : w = 8
    · refine V_tab 8 158 173 dX6_told_15 (by rw [h15_8]; rfl) (by decide) (by decide) (by decide) (by decide) ?_
      subst h15_8
      refine V_aloadn_0 dX6_told_173 ?_
      refine V_getR dX6_told_174 fl_X6_46 oC_now ?_
      refine V_getR dX6_told_177 fl_X6_105 (oT_wine tw61) ?_
      refine V_iloadn_1 dX6_told_180 ?_
      refine V_iconst 3 dX6_told_181 (by decide) ?_
      refine V_imulN (a := c) (b := 3) dX6_told_182 ?_
      refine V_iloadn_2 dX6_told_183 ?_
      refine V_iaddN (a := c * 3) (b := 8) dX6_told_184 ?_
      refine V_bipush 8 dX6_told_185 (by decide) ?_
      refine V_isubN (a := (c * 3) + 8) (b := 8) dX6_told_187 (by omega) ?_
      refine V_topi (y := nI (c * 3 + 0)) (by congr 1) ?_
      refine V_iald (j := c * 3 + 0) dX6_told_188 (aT_wine tw61) (by omega) (by decide) ?_
      refine V_topi (hT.k4 (by omega)) ?_
      exact V_iret dX6_told_189 ⟨rI (by first | rfl | simp [toldC, *]), rfl⟩
    by_cases h15_9 : w = 9
    · refine V_tab 9 158 173 dX6_told_15 (by rw [h15_9]; rfl) (by decide) (by decide) (by decide) (by decide) ?_
      subst h15_9
      refine V_aloadn_0 dX6_told_173 ?_
      refine V_getR dX6_told_174 fl_X6_46 oC_now ?_
      refine V_getR dX6_told_177 fl_X6_105 (oT_wine tw61) ?_
      refine V_iloadn_1 dX6_told_180 ?_
      refine V_iconst 3 dX6_told_181 (by decide) ?_
      refine V_imulN (a := c) (b := 3) dX6_told_182 ?_
      refine V_iloadn_2 dX6_told_183 ?_
      refine V_iaddN (a := c * 3) (b := 9) dX6_told_184 ?_
      refine V_bipush 8 dX6_told_185 (by decide) ?_
      refine V_isubN (a := (c * 3) + 9) (b := 8) dX6_told_187 (by omega) ?_
      refine V_topi (y := nI (c * 3 + 1)) (by congr 1) ?_
      refine V_iald (j := c * 3 + 1) dX6_told_188 (aT_wine tw61) (by omega) (by decide) ?_
      refine V_topi (hT.k4 (by omega)) ?_
      exact V_iret dX6_told_189 ⟨rI (by first | rfl | simp [toldC, *]), rfl⟩
    by_cases h15_10 : w = 10
    · refine V_tab 10 158 173 dX6_told_15 (by rw [h15_10]; rfl) (by decide) (by decide) (by decide) (by decide) ?_
      subst h15_10
      refine V_aloadn_0 dX6_told_173 ?_
      refine V_getR dX6_told_174 fl_X6_46 oC_now ?_
      refine V_getR dX6_told_177 fl_X6_105 (oT_wine tw61) ?_
      refine V_iloadn_1 dX6_told_180 ?_
      refine V_iconst 3 dX6_told_181 (by decide) ?_
      refine V_imulN (a := c) (b := 3) dX6_told_182 ?_
      refine V_iloadn_2 dX6_told_183 ?_
      refine V_iaddN (a := c * 3) (b := 10) dX6_told_184 ?_
      refine V_bipush 8 dX6_told_185 (by decide) ?_
      refine V_isubN (a := (c * 3) + 10) (b := 8) dX6_told_187 (by omega) ?_
      refine V_topi (y := nI (c * 3 + 2)) (by congr 1) ?_
      refine V_iald (j := c * 3 + 2) dX6_told_188 (aT_wine tw61) (by omega) (by decide) ?_
      refine V_topi (hT.k4 (by omega)) ?_
      exact V_iret dX6_told_189 ⟨rI (by first | rfl | simp [toldC, *]), rfl⟩
    refine V_tabD 190 dX6_told_15 (by have q0 := lv_neT (a := 0) h15_0 (by decide); have q1 := lv_neT (a := 1) h15_1 (by decide); have q2 := lv_neT (a := 2) h15_2 (by decide); have q3 := lv_neT (a := 3) h15_3 (by decide); have q4 := lv_neT (a := 4) h15_4 (by decide); have q5 := lv_neT (a := 5) h15_5 (by decide); have q6 := lv_neT (a := 6) h15_6 (by decide); have q7 := lv_neT (a := 7) h15_7 (by decide); have q8 := lv_neT (a := 8) h15_8 (by decide); have q9 := lv_neT (a := 9) h15_9 (by decide); have q10 := lv_neT (a := 10) h15_10 (by decide); omega) (by decide) ?_
    refine V_ldc (-1000000001) dX6_told_190 cn_X6_66 ?_
    exact V_iret dX6_told_192 ⟨rI (by first | rfl | simp [toldC, *]), rfl⟩
  · exact absurd (hasN hc (by omega)) h8

set_option maxRecDepth 100000 in
set_option maxHeartbeats 4000000 in
theorem c_told_bad {G : vG} {σ : vS} {d : Nat} (hd : 2 ≤ d) {L T : nT} {N : Nat} (hC : TC L N 61 T σ) {x w : Int32} (hb : ¬ hasI x (T 0 5)) : Cf G yX6_told cX6_told 3 (some .int) d [.ref 0, .int x, .int w] σ (some (.int (-1000000001))) σ := by
  refine Ct.ofV (by decide) (Nat.le_of_ble_eq_true rfl) rfl ?_
  show V G RX6 cX6_told (some .int) 3 d _ 0 [some (.ref 0), some (.int x), some (.int w)] [] _
  obtain ⟨d, rfl⟩ : ∃ e, d = e + 1 := ⟨d - 1, by omega⟩
  obtain ⟨ht, hH, hI, hL, hLI, hN, hN2⟩ := id hC
  have hT := hH.1
  have hn := hI.nc
  have hm := hI.np
  refine V_aloadn_0 dX6_told_0 ?_
  refine V_getR dX6_told_1 fl_X6_46 oC_now ?_
  refine V_iloadn_1 dX6_told_4 ?_
  refine V_cv1f dX6_told_5 cv_X6_76 (rcT tw61) (Nat.le_of_ble_eq_true rfl) (k_T_hasCellar tw61 hT) ?_
  refine V_ifB_ne dX6_told_8 14 (by decide) (fun h8 => ?_) (fun h8 => ?_)
  · exact absurd h8 hb
  · refine V_ldc (-1000000001) dX6_told_11 cn_X6_66 ?_
    exact V_iret dX6_told_13 ⟨rfl, rfl⟩

set_option maxRecDepth 100000 in
set_option maxHeartbeats 4000000 in
theorem m_told {G : vG} {σ : vS} {d : Nat} (hd : 4 ≤ d) {L T : nT} (hC : MC L T σ) {c : Nat} {w : Int32} (hc : c < T 0 5) : Cr G yX7_told cX7_told 3 (some .int) d [.ref 97, .int (nI c), .int w] σ (some (.int (toldC L T c w))) (fun σ' => Fh σ σ') := by
  refine Ct.ofV (by decide) (Nat.le_of_ble_eq_true rfl) rfl ?_
  show V G RX7 cX7_told (some .int) 3 d _ 0 [some (.ref 97), some (.int (nI c)), some (.int w)] [] _
  obtain ⟨d, rfl⟩ : ∃ e, d = e + 1 := ⟨d - 1, by omega⟩
  have hI := hC.2.2.1
  have hn := hI.nc
  have hm := hI.np
  have hF : Fh σ σ := Fh.rf
  refine V_aloadn_0 dX7_told_0 ?_
  refine V_iloadn_1 dX7_told_1 ?_
  refine V_cv1f dX7_told_2 cv_X7_112 rcM (Nat.le_of_ble_eq_true rfl) (k_M_isCellar (by omega) hC) ?_
  refine V_ifB_ne dX7_told_5 11 (by decide) (fun h5 => ?_) (fun h5 => ?_)
  · refine V_iloadn_2 dX7_told_11 ?_
    by_cases h12_0 : w = 0
    · refine V_tab 0 60 72 dX7_told_12 (by rw [h12_0]; rfl) (by decide) (by decide) (by decide) (by decide) ?_
      subst h12_0
      refine V_aloadn_0 dX7_told_72 ?_
      refine V_iloadn_1 dX7_told_73 ?_
      refine V_iloadn_2 dX7_told_74 ?_
      refine V_cv2f dX7_told_75 cv_X7_92 rcM (Nat.le_of_ble_eq_true rfl) (k_M_of (c := c) (w := 0) (by omega) (hC.1.c1 (by omega))) ?_
      exact V_iret dX7_told_78 ⟨rI (by first | rfl | simp [toldC, *]), hF⟩
    by_cases h12_1 : w = 1
    · refine V_tab 1 60 72 dX7_told_12 (by rw [h12_1]; rfl) (by decide) (by decide) (by decide) (by decide) ?_
      subst h12_1
      refine V_aloadn_0 dX7_told_72 ?_
      refine V_iloadn_1 dX7_told_73 ?_
      refine V_iloadn_2 dX7_told_74 ?_
      refine V_cv2f dX7_told_75 cv_X7_92 rcM (Nat.le_of_ble_eq_true rfl) (k_M_of (c := c) (w := 1) (by omega) (hC.1.c2 (by omega))) ?_
      exact V_iret dX7_told_78 ⟨rI (by first | rfl | simp [toldC, *]), hF⟩
    by_cases h12_2 : w = 2
    · refine V_tab 2 60 72 dX7_told_12 (by rw [h12_2]; rfl) (by decide) (by decide) (by decide) (by decide) ?_
      subst h12_2
      refine V_aloadn_0 dX7_told_72 ?_
      refine V_iloadn_1 dX7_told_73 ?_
      refine V_iloadn_2 dX7_told_74 ?_
      refine V_cv2f dX7_told_75 cv_X7_92 rcM (Nat.le_of_ble_eq_true rfl) (k_M_of (c := c) (w := 2) (by omega) (hC.1.c3 (by omega))) ?_
      exact V_iret dX7_told_78 ⟨rI (by first | rfl | simp [toldC, *]), hF⟩
    by_cases h12_3 : w = 3
    · refine V_tab 3 67 79 dX7_told_12 (by rw [h12_3]; rfl) (by decide) (by decide) (by decide) (by decide) ?_
      subst h12_3
      refine V_aloadn_0 dX7_told_79 ?_
      refine V_iloadn_1 dX7_told_80 ?_
      refine V_cv1f dX7_told_81 cv_X7_96 rcM (Nat.le_of_ble_eq_true rfl) (k_M_fullOf (by omega) hC (by omega)) ?_
      exact V_iret dX7_told_84 ⟨rI (by first | rfl | simp [toldC, *]), hF⟩
    by_cases h12_4 : w = 4
    · refine V_tab 4 73 85 dX7_told_12 (by rw [h12_4]; rfl) (by decide) (by decide) (by decide) (by decide) ?_
      subst h12_4
      refine V_aloadn_0 dX7_told_85 ?_
      refine V_iloadn_1 dX7_told_86 ?_
      refine V_cv1r dX7_told_87 cv_X7_109 rcM (Nat.le_of_ble_eq_true rfl) (k_M_highOf (by omega) hC (by omega)) (fun σ hq => ?_)
      replace hC := hC.fh hq
      replace hF := hF.tr hq
      exact V_iret dX7_told_90 ⟨rI (by first | rfl | simp [toldC, *]), hF⟩
    by_cases h12_5 : w = 5
    · refine V_tab 5 79 91 dX7_told_12 (by rw [h12_5]; rfl) (by decide) (by decide) (by decide) (by decide) ?_
      subst h12_5
      refine V_aloadn_0 dX7_told_91 ?_
      refine V_iloadn_1 dX7_told_92 ?_
      refine V_cv1r dX7_told_93 cv_X7_116 rcM (Nat.le_of_ble_eq_true rfl) (k_M_levelOf (by omega) hC (by omega)) (fun σ hq => ?_)
      replace hC := hC.fh hq
      replace hF := hF.tr hq
      exact V_iret dX7_told_96 ⟨rI (by first | rfl | simp [toldC, *]), hF⟩
    by_cases h12_6 : w = 6
    · refine V_tab 6 85 97 dX7_told_12 (by rw [h12_6]; rfl) (by decide) (by decide) (by decide) (by decide) ?_
      subst h12_6
      refine V_aloadn_0 dX7_told_97 ?_
      refine V_iloadn_1 dX7_told_98 ?_
      refine V_cv1f dX7_told_99 cv_X7_119 rcM (Nat.le_of_ble_eq_true rfl) (k_M_losesOf (by omega) hC (by omega)) ?_
      exact V_iret dX7_told_102 ⟨rI (by first | rfl | simp [toldC, *]), hF⟩
    by_cases h12_7 : w = 7
    · refine V_tab 7 91 103 dX7_told_12 (by rw [h12_7]; rfl) (by decide) (by decide) (by decide) (by decide) ?_
      subst h12_7
      refine V_aloadn_0 dX7_told_103 ?_
      refine V_iloadn_1 dX7_told_104 ?_
      refine V_cv1f dX7_told_105 cv_X7_122 rcM (Nat.le_of_ble_eq_true rfl) (k_M_worthOf (by omega) hC (by omega)) ?_
      exact V_iret dX7_told_108 ⟨rI (by first | rfl | simp [toldC, *]), hF⟩
    by_cases h12_8 : w = 8
    · refine V_tab 8 97 109 dX7_told_12 (by rw [h12_8]; rfl) (by decide) (by decide) (by decide) (by decide) ?_
      subst h12_8
      refine V_aloadn_0 dX7_told_109 ?_
      refine V_iloadn_1 dX7_told_110 ?_
      refine V_iloadn_2 dX7_told_111 ?_
      refine V_iconst 5 dX7_told_112 (by decide) ?_
      refine V_isub dX7_told_113 ?_
      refine V_topi (y := 3) (by decide) ?_
      refine V_cv2f dX7_told_114 cv_X7_92 rcM (Nat.le_of_ble_eq_true rfl) (k_M_of (c := c) (w := 3) (by omega) (hC.1.w (s := 0) (by omega) (by decide))) ?_
      exact V_iret dX7_told_117 ⟨rI (by first | rfl | simp [toldC, *]), hF⟩
    by_cases h12_9 : w = 9
    · refine V_tab 9 97 109 dX7_told_12 (by rw [h12_9]; rfl) (by decide) (by decide) (by decide) (by decide) ?_
      subst h12_9
      refine V_aloadn_0 dX7_told_109 ?_
      refine V_iloadn_1 dX7_told_110 ?_
      refine V_iloadn_2 dX7_told_111 ?_
      refine V_iconst 5 dX7_told_112 (by decide) ?_
      refine V_isub dX7_told_113 ?_
      refine V_topi (y := 4) (by decide) ?_
      refine V_cv2f dX7_told_114 cv_X7_92 rcM (Nat.le_of_ble_eq_true rfl) (k_M_of (c := c) (w := 4) (by omega) (hC.1.w (s := 1) (by omega) (by decide))) ?_
      exact V_iret dX7_told_117 ⟨rI (by first | rfl | simp [toldC, *]), hF⟩
    by_cases h12_10 : w = 10
    · refine V_tab 10 97 109 dX7_told_12 (by rw [h12_10]; rfl) (by decide) (by decide) (by decide) (by decide) ?_
      subst h12_10
      refine V_aloadn_0 dX7_told_109 ?_
      refine V_iloadn_1 dX7_told_110 ?_
      refine V_iloadn_2 dX7_told_111 ?_
      refine V_iconst 5 dX7_told_112 (by decide) ?_
      refine V_isub dX7_told_113 ?_
      refine V_topi (y := 5) (by decide) ?_
      refine V_cv2f dX7_told_114 cv_X7_92 rcM (Nat.le_of_ble_eq_true rfl) (k_M_of (c := c) (w := 5) (by omega) (hC.1.w (s := 2) (by omega) (by decide))) ?_
      exact V_iret dX7_told_117 ⟨rI (by first | rfl | simp [toldC, *]), hF⟩
    refine V_tabD 118 dX7_told_12 (by have q0 := lv_neT (a := 0) h12_0 (by decide); have q1 := lv_neT (a := 1) h12_1 (by decide); have q2 := lv_neT (a := 2) h12_2 (by decide); have q3 := lv_neT (a := 3) h12_3 (by decide); have q4 := lv_neT (a := 4) h12_4 (by decide); have q5 := lv_neT (a := 5) h12_5 (by decide); have q6 := lv_neT (a := 6) h12_6 (by decide); have q7 := lv_neT (a := 7) h12_7 (by decide); have q8 := lv_neT (a := 8) h12_8 (by decide); have q9 := lv_neT (a := 9) h12_9 (by decide); have q10 := lv_neT (a := 10) h12_10 (by decide); omega) (by decide) ?_
    refine V_ldc (-1000000001) dX7_told_118 cn_X7_86 ?_
    exact V_iret dX7_told_120 ⟨rI (by first | rfl | simp [toldC, *]), hF⟩
  · exact absurd (hasN hc (by omega)) h5

set_option maxRecDepth 100000 in
set_option maxHeartbeats 4000000 in
theorem m_told_bad {G : vG} {σ : vS} {d : Nat} (hd : 4 ≤ d) {L T : nT} (hC : MC L T σ) {x w : Int32} (hb : ¬ hasI x (T 0 5)) : Cf G yX7_told cX7_told 3 (some .int) d [.ref 97, .int x, .int w] σ (some (.int (-1000000001))) σ := by
  refine Ct.ofV (by decide) (Nat.le_of_ble_eq_true rfl) rfl ?_
  show V G RX7 cX7_told (some .int) 3 d _ 0 [some (.ref 97), some (.int x), some (.int w)] [] _
  obtain ⟨d, rfl⟩ : ∃ e, d = e + 1 := ⟨d - 1, by omega⟩
  have hI := hC.2.2.1
  have hn := hI.nc
  have hm := hI.np
  refine V_aloadn_0 dX7_told_0 ?_
  refine V_iloadn_1 dX7_told_1 ?_
  refine V_cv1f dX7_told_2 cv_X7_112 rcM (Nat.le_of_ble_eq_true rfl) (k_M_isCellar (by omega) hC) ?_
  refine V_ifB_ne dX7_told_5 11 (by decide) (fun h5 => ?_) (fun h5 => ?_)
  · exact absurd h5 hb
  · refine V_ldc (-1000000001) dX7_told_8 cn_X7_86 ?_
    exact V_iret dX7_told_10 ⟨rfl, rfl⟩

set_option maxRecDepth 100000 in
set_option maxHeartbeats 4000000 in
theorem op_told {G : vG} {σ : vS} {d i : Nat} (hd : 100 ≤ d) (hi : i < 512) {x w : Int32} (h : Inv i σ) : Op G yX6_told cX6_told 3 yX7_told cX7_told 3 d [.int x, .int w] i σ := by
  have hh := h
  obtain ⟨L, T, I, b, hT, hB, hM, hS, hO, hW, hR, hK⟩ := h
  have hC := hT.1
  have hE := hT.2.1
  have hI := hC.2.2.1
  have hn := hI.nc
  have hm := hI.np
  by_cases hx : hasI x (T 0 5)
  · obtain ⟨c, hc, rfl⟩ := (hasI_iff (by omega)).mp hx
    exact Op.ask hh (Cf.fi (c_told (by omega) hC hc)) (fun σ1 f1 => Cr.fh (m_told (by omega) (hE.fi f1) hc))
  · exact Op.ask hh (Cf.fi (c_told_bad (by omega) hC hx)) (fun σ1 f1 => Cf.fi (m_told_bad (by omega) (hE.fi f1) hx))

set_option maxRecDepth 100000 in
set_option maxHeartbeats 4000000 in
theorem c_takes {G : vG} {σ : vS} {d : Nat} (hd : 1 ≤ d) {L T : nT} {N : Nat} (hC : TC L N 61 T σ) {c n : Nat} (hc : c < T 0 5) (hn9 : n ≤ 9999) : Cf G yX6_takes cX6_takes 3 (some .int) d [.ref 0, .int (nI c), .int (nI n)] σ (some (.int (nI (takesN (T 1 c) n)))) σ := by
  refine Ct.ofV (by decide) (Nat.le_of_ble_eq_true rfl) rfl ?_
  show V G RX6 cX6_takes (some .int) 3 d _ 0 [some (.ref 0), some (.int (nI c)), some (.int (nI n))] [] _
  obtain ⟨d, rfl⟩ : ∃ e, d = e + 1 := ⟨d - 1, by omega⟩
  obtain ⟨ht, hH, hI, hL, hLI, hN, hN2⟩ := id hC
  have hT := hH.1
  have hn := hI.nc
  have hm := hI.np
  have hk := hI.ce hc
  refine V_aloadn_0 dX6_takes_0 ?_
  refine V_getR dX6_takes_1 fl_X6_46 oC_now ?_
  refine V_iloadn_1 dX6_takes_4 ?_
  refine V_cv1f dX6_takes_5 cv_X6_76 (rcT tw61) (Nat.le_of_ble_eq_true rfl) (k_T_hasCellar tw61 hT) ?_
  refine V_ifB_eq dX6_takes_8 22 (by decide) (fun h8 => ?_) (fun h8 => ?_)
  · exact absurd (hasN hc (by omega)) h8
  · refine V_iloadn_2 dX6_takes_11 ?_
    refine V_iconst 0 dX6_takes_12 (by decide) ?_
    refine V_sipush 9999 dX6_takes_13 (by decide) ?_
    refine V_cs3f dX6_takes_16 cs_X6_108 (Nat.le_of_ble_eq_true rfl) k_C_within ?_
    refine V_ifB_ne dX6_takes_19 25 (by decide) (fun h19 => ?_) (fun h19 => ?_)
    · refine V_aloadn_0 dX6_takes_25 ?_
      refine V_getR dX6_takes_26 fl_X6_46 oC_now ?_
      refine V_getR dX6_takes_29 fl_X6_79 (oT_kind tw61) ?_
      refine V_iloadn_1 dX6_takes_32 ?_
      refine V_iald (j := c) dX6_takes_33 (aT_kind tw61) (by omega) (by decide) ?_
      refine V_topi (hT.k1 (by omega)) ?_
      refine V_iloadn_2 dX6_takes_34 ?_
      refine V_cs2f dX6_takes_35 cs_X6_112 (Nat.le_of_ble_eq_true rfl) (k_takesIn (by omega) (by omega)) ?_
      exact V_iret dX6_takes_38 ⟨rfl, rfl⟩
    · exact absurd (inN (a := 0) (b := 9999) (by omega) hn9 (by decide)) h19

set_option maxRecDepth 100000 in
set_option maxHeartbeats 4000000 in
theorem c_takes_bad {G : vG} {σ : vS} {d : Nat} (hd : 1 ≤ d) {L T : nT} {N : Nat} (hC : TC L N 61 T σ) {x y : Int32} (hb : ¬ (hasI x (T 0 5) ∧ inI y 0 9999)) : Cf G yX6_takes cX6_takes 3 (some .int) d [.ref 0, .int x, .int y] σ (some (.int (-1000000001))) σ := by
  refine Ct.ofV (by decide) (Nat.le_of_ble_eq_true rfl) rfl ?_
  show V G RX6 cX6_takes (some .int) 3 d _ 0 [some (.ref 0), some (.int x), some (.int y)] [] _
  obtain ⟨d, rfl⟩ : ∃ e, d = e + 1 := ⟨d - 1, by omega⟩
  obtain ⟨ht, hH, hI, hL, hLI, hN, hN2⟩ := id hC
  have hT := hH.1
  have hn := hI.nc
  have hm := hI.np
  refine V_aloadn_0 dX6_takes_0 ?_
  refine V_getR dX6_takes_1 fl_X6_46 oC_now ?_
  refine V_iloadn_1 dX6_takes_4 ?_
  refine V_cv1f dX6_takes_5 cv_X6_76 (rcT tw61) (Nat.le_of_ble_eq_true rfl) (k_T_hasCellar tw61 hT) ?_
  refine V_ifB_eq dX6_takes_8 22 (by decide) (fun h8 => ?_) (fun h8 => ?_)
  · refine V_ldc (-1000000001) dX6_takes_22 cn_X6_66 ?_
    exact V_iret dX6_takes_24 ⟨rfl, rfl⟩
  · refine V_iloadn_2 dX6_takes_11 ?_
    refine V_iconst 0 dX6_takes_12 (by decide) ?_
    refine V_sipush 9999 dX6_takes_13 (by decide) ?_
    refine V_cs3f dX6_takes_16 cs_X6_108 (Nat.le_of_ble_eq_true rfl) k_C_within ?_
    refine V_ifB_ne dX6_takes_19 25 (by decide) (fun h19 => ?_) (fun h19 => ?_)
    · exact absurd ⟨h8, h19⟩ hb
    · refine V_ldc (-1000000001) dX6_takes_22 cn_X6_66 ?_
      exact V_iret dX6_takes_24 ⟨rfl, rfl⟩

set_option maxRecDepth 100000 in
set_option maxHeartbeats 4000000 in
theorem m_takes {G : vG} {σ : vS} {d : Nat} (hd : 2 ≤ d) {L T : nT} (hC : MC L T σ) {c n : Nat} (hc : c < T 0 5) (hn9 : n ≤ 9999) : Cf G yX7_takes cX7_takes 3 (some .int) d [.ref 97, .int (nI c), .int (nI n)] σ (some (.int (nI (takesN (T 1 c) n)))) σ := by
  refine Ct.ofV (by decide) (Nat.le_of_ble_eq_true rfl) rfl ?_
  show V G RX7 cX7_takes (some .int) 3 d _ 0 [some (.ref 97), some (.int (nI c)), some (.int (nI n))] [] _
  obtain ⟨d, rfl⟩ : ∃ e, d = e + 1 := ⟨d - 1, by omega⟩
  have hI := hC.2.2.1
  have hn := hI.nc
  have hm := hI.np
  refine V_aloadn_0 dX7_takes_0 ?_
  refine V_iloadn_1 dX7_takes_1 ?_
  refine V_cv1f dX7_takes_2 cv_X7_112 rcM (Nat.le_of_ble_eq_true rfl) (k_M_isCellar (by omega) hC) ?_
  refine V_ifB_eq dX7_takes_5 28 (by decide) (fun h5 => ?_) (fun h5 => ?_)
  · exact absurd (hasN hc (by omega)) h5
  · refine V_iloadn_2 dX7_takes_8 ?_
    refine V_iconst 0 dX7_takes_9 (by decide) ?_
    refine V_sipush 9999 dX7_takes_10 (by decide) ?_
    refine V_cs3f dX7_takes_13 cs_X7_82 (Nat.le_of_ble_eq_true rfl) k_M_in ?_
    refine V_ifB_eq dX7_takes_16 28 (by decide) (fun h16 => ?_) (fun h16 => ?_)
    · exact absurd (inN (a := 0) (b := 9999) (by omega) hn9 (by decide)) h16
    · refine V_aloadn_0 dX7_takes_19 ?_
      refine V_iloadn_1 dX7_takes_20 ?_
      refine V_iloadn_2 dX7_takes_21 ?_
      refine V_cv2f dX7_takes_22 cv_X7_125 rcM (Nat.le_of_ble_eq_true rfl) (k_M_takesIn (by omega) hC (by omega) (by omega)) ?_
      refine V_goto dX7_takes_25 30 (by decide) ?_
      exact V_iret dX7_takes_30 ⟨rfl, rfl⟩

set_option maxRecDepth 100000 in
set_option maxHeartbeats 4000000 in
theorem m_takes_bad {G : vG} {σ : vS} {d : Nat} (hd : 2 ≤ d) {L T : nT} (hC : MC L T σ) {x y : Int32} (hb : ¬ (hasI x (T 0 5) ∧ inI y 0 9999)) : Cf G yX7_takes cX7_takes 3 (some .int) d [.ref 97, .int x, .int y] σ (some (.int (-1000000001))) σ := by
  refine Ct.ofV (by decide) (Nat.le_of_ble_eq_true rfl) rfl ?_
  show V G RX7 cX7_takes (some .int) 3 d _ 0 [some (.ref 97), some (.int x), some (.int y)] [] _
  obtain ⟨d, rfl⟩ : ∃ e, d = e + 1 := ⟨d - 1, by omega⟩
  have hI := hC.2.2.1
  have hn := hI.nc
  have hm := hI.np
  refine V_aloadn_0 dX7_takes_0 ?_
  refine V_iloadn_1 dX7_takes_1 ?_
  refine V_cv1f dX7_takes_2 cv_X7_112 rcM (Nat.le_of_ble_eq_true rfl) (k_M_isCellar (by omega) hC) ?_
  refine V_ifB_eq dX7_takes_5 28 (by decide) (fun h5 => ?_) (fun h5 => ?_)
  · refine V_ldc (-1000000001) dX7_takes_28 cn_X7_86 ?_
    exact V_iret dX7_takes_30 ⟨rfl, rfl⟩
  · refine V_iloadn_2 dX7_takes_8 ?_
    refine V_iconst 0 dX7_takes_9 (by decide) ?_
    refine V_sipush 9999 dX7_takes_10 (by decide) ?_
    refine V_cs3f dX7_takes_13 cs_X7_82 (Nat.le_of_ble_eq_true rfl) k_M_in ?_
    refine V_ifB_eq dX7_takes_16 28 (by decide) (fun h16 => ?_) (fun h16 => ?_)
    · refine V_ldc (-1000000001) dX7_takes_28 cn_X7_86 ?_
      exact V_iret dX7_takes_30 ⟨rfl, rfl⟩
    · exact absurd ⟨h5, h16⟩ hb

set_option maxRecDepth 100000 in
set_option maxHeartbeats 4000000 in
theorem op_takes {G : vG} {σ : vS} {d i : Nat} (hd : 100 ≤ d) (hi : i < 512) {x y : Int32} (h : Inv i σ) : Op G yX6_takes cX6_takes 3 yX7_takes cX7_takes 3 d [.int x, .int y] i σ := by
  have hh := h
  obtain ⟨L, T, I, b, hT, hB, hM, hS, hO, hW, hR, hK⟩ := h
  have hC := hT.1
  have hE := hT.2.1
  have hI := hC.2.2.1
  have hn := hI.nc
  have hm := hI.np
  by_cases hx : hasI x (T 0 5) ∧ inI y 0 9999
  · obtain ⟨c, hc, rfl⟩ := (hasI_iff (by omega)).mp hx.1
    obtain ⟨n, hn9, rfl⟩ := (inI_iff (b := 9999) (by decide)).mp hx.2
    exact Op.ask hh (Cf.fi (c_takes (by omega) hC hc hn9)) (fun σ1 f1 => Cf.fi (m_takes (by omega) (hE.fi f1) hc hn9))
  · exact Op.ask hh (Cf.fi (c_takes_bad (by omega) hC hx)) (fun σ1 f1 => Cf.fi (m_takes_bad (by omega) (hE.fi f1) hx))

set_option maxRecDepth 100000 in
set_option maxHeartbeats 4000000 in
theorem c_as {G : vG} {σ : vS} {d : Nat} (hd : 2 ≤ d) {L T : nT} {N : Nat} (hC : TC L N 61 T σ) {c k : Nat} (hc : c < T 0 5) (hk5 : k ≤ 5) : Cf G yX6_as cX6_as 3 (some .int) d [.ref 0, .int (nI c), .int (nI k)] σ (some (.int (if underN (T 1 c) k then nI (T 3 c) else -1000000012))) σ := by
  refine Ct.ofV (by decide) (Nat.le_of_ble_eq_true rfl) rfl ?_
  show V G RX6 cX6_as (some .int) 3 d _ 0 [some (.ref 0), some (.int (nI c)), some (.int (nI k))] [] _
  obtain ⟨d, rfl⟩ : ∃ e, d = e + 1 := ⟨d - 1, by omega⟩
  obtain ⟨ht, hH, hI, hL, hLI, hN, hN2⟩ := id hC
  have hT := hH.1
  have hn := hI.nc
  have hm := hI.np
  have hk := hI.ce hc
  refine V_aloadn_0 dX6_as_0 ?_
  refine V_getR dX6_as_1 fl_X6_46 oC_now ?_
  refine V_iloadn_1 dX6_as_4 ?_
  refine V_cv1f dX6_as_5 cv_X6_76 (rcT tw61) (Nat.le_of_ble_eq_true rfl) (k_T_hasCellar tw61 hT) ?_
  refine V_ifB_eq dX6_as_8 18 (by decide) (fun h8 => ?_) (fun h8 => ?_)
  · exact absurd (hasN hc (by omega)) h8
  · refine V_iloadn_2 dX6_as_11 ?_
    refine V_cs1f dX6_as_12 cs_X6_56 (Nat.le_of_ble_eq_true rfl) k_isKind ?_
    refine V_ifB_ne dX6_as_15 21 (by decide) (fun h15 => ?_) (fun h15 => ?_)
    · refine V_aloadn_0 dX6_as_21 ?_
      refine V_getR dX6_as_22 fl_X6_46 oC_now ?_
      refine V_getR dX6_as_25 fl_X6_79 (oT_kind tw61) ?_
      refine V_iloadn_1 dX6_as_28 ?_
      refine V_iald (j := c) dX6_as_29 (aT_kind tw61) (by omega) (by decide) ?_
      refine V_topi (hT.k1 (by omega)) ?_
      refine V_iloadn_2 dX6_as_30 ?_
      refine V_cs2f dX6_as_31 cs_X6_115 (Nat.le_of_ble_eq_true rfl) (k_isUnder (by omega) (by omega) (by omega)) ?_
      refine V_ifB_eq dX6_as_34 49 (by decide) (fun h34 => ?_) (fun h34 => ?_)
      · refine V_ldc (-1000000012) dX6_as_49 cn_X6_118 ?_
        exact V_iret dX6_as_51 ⟨rI (by first | rw [if_pos h34] | rw [if_neg h34]), rfl⟩
      · refine V_aloadn_0 dX6_as_37 ?_
        refine V_getR dX6_as_38 fl_X6_46 oC_now ?_
        refine V_getR dX6_as_41 fl_X6_85 (oT_lip tw61) ?_
        refine V_iloadn_1 dX6_as_44 ?_
        refine V_iald (j := c) dX6_as_45 (aT_lip tw61) (by omega) (by decide) ?_
        refine V_topi (hT.k3 (by omega)) ?_
        refine V_goto dX6_as_46 51 (by decide) ?_
        exact V_iret dX6_as_51 ⟨rI (by first | rw [if_pos h34] | rw [if_neg h34]), rfl⟩
    · exact absurd (hasN (n := 6) (by omega) (by decide)) h15

set_option maxRecDepth 100000 in
set_option maxHeartbeats 4000000 in
theorem c_as_bad {G : vG} {σ : vS} {d : Nat} (hd : 2 ≤ d) {L T : nT} {N : Nat} (hC : TC L N 61 T σ) {x y : Int32} (hb : ¬ (hasI x (T 0 5) ∧ hasI y 6)) : Cf G yX6_as cX6_as 3 (some .int) d [.ref 0, .int x, .int y] σ (some (.int (-1000000001))) σ := by
  refine Ct.ofV (by decide) (Nat.le_of_ble_eq_true rfl) rfl ?_
  show V G RX6 cX6_as (some .int) 3 d _ 0 [some (.ref 0), some (.int x), some (.int y)] [] _
  obtain ⟨d, rfl⟩ : ∃ e, d = e + 1 := ⟨d - 1, by omega⟩
  obtain ⟨ht, hH, hI, hL, hLI, hN, hN2⟩ := id hC
  have hT := hH.1
  have hn := hI.nc
  have hm := hI.np
  refine V_aloadn_0 dX6_as_0 ?_
  refine V_getR dX6_as_1 fl_X6_46 oC_now ?_
  refine V_iloadn_1 dX6_as_4 ?_
  refine V_cv1f dX6_as_5 cv_X6_76 (rcT tw61) (Nat.le_of_ble_eq_true rfl) (k_T_hasCellar tw61 hT) ?_
  refine V_ifB_eq dX6_as_8 18 (by decide) (fun h8 => ?_) (fun h8 => ?_)
  · refine V_ldc (-1000000001) dX6_as_18 cn_X6_66 ?_
    exact V_iret dX6_as_20 ⟨rfl, rfl⟩
  · refine V_iloadn_2 dX6_as_11 ?_
    refine V_cs1f dX6_as_12 cs_X6_56 (Nat.le_of_ble_eq_true rfl) k_isKind ?_
    refine V_ifB_ne dX6_as_15 21 (by decide) (fun h15 => ?_) (fun h15 => ?_)
    · exact absurd ⟨h8, h15⟩ hb
    · refine V_ldc (-1000000001) dX6_as_18 cn_X6_66 ?_
      exact V_iret dX6_as_20 ⟨rfl, rfl⟩

set_option maxRecDepth 100000 in
set_option maxHeartbeats 4000000 in
theorem m_as {G : vG} {σ : vS} {d : Nat} (hd : 2 ≤ d) {L T : nT} (hC : MC L T σ) {c k : Nat} (hc : c < T 0 5) (hk5 : k ≤ 5) : Cf G yX7_as cX7_as 3 (some .int) d [.ref 97, .int (nI c), .int (nI k)] σ (some (.int (if underN (T 1 c) k then nI (T 3 c) else -1000000012))) σ := by
  refine Ct.ofV (by decide) (Nat.le_of_ble_eq_true rfl) rfl ?_
  show V G RX7 cX7_as (some .int) 3 d _ 0 [some (.ref 97), some (.int (nI c)), some (.int (nI k))] [] _
  obtain ⟨d, rfl⟩ : ∃ e, d = e + 1 := ⟨d - 1, by omega⟩
  have hI := hC.2.2.1
  have hn := hI.nc
  have hm := hI.np
  have hk := hI.ce hc
  refine V_aloadn_0 dX7_as_0 ?_
  refine V_iloadn_1 dX7_as_1 ?_
  refine V_cv1f dX7_as_2 cv_X7_112 rcM (Nat.le_of_ble_eq_true rfl) (k_M_isCellar (by omega) hC) ?_
  refine V_ifB_eq dX7_as_5 17 (by decide) (fun h5 => ?_) (fun h5 => ?_)
  · exact absurd (hasN hc (by omega)) h5
  · refine V_iloadn_2 dX7_as_8 ?_
    refine V_iconst 0 dX7_as_9 (by decide) ?_
    refine V_iconst 5 dX7_as_10 (by decide) ?_
    refine V_cs3f dX7_as_11 cs_X7_82 (Nat.le_of_ble_eq_true rfl) k_M_in ?_
    refine V_ifB_ne dX7_as_14 20 (by decide) (fun h14 => ?_) (fun h14 => ?_)
    · refine V_aloadn_0 dX7_as_20 ?_
      refine V_iloadn_1 dX7_as_21 ?_
      refine V_iconst 0 dX7_as_22 (by decide) ?_
      refine V_cv2f dX7_as_23 cv_X7_92 rcM (Nat.le_of_ble_eq_true rfl) (k_M_of (c := c) (w := 0) (by omega) (hC.1.c1 (by omega))) ?_
      refine V_iloadn_2 dX7_as_26 ?_
      refine V_cs2f dX7_as_27 cs_X7_128 (Nat.le_of_ble_eq_true rfl) (k_M_isUnder (by omega) (by omega)) ?_
      refine V_ifB_eq dX7_as_30 42 (by decide) (fun h30 => ?_) (fun h30 => ?_)
      · refine V_ldc (-1000000012) dX7_as_42 cn_X7_132 ?_
        exact V_iret dX7_as_44 ⟨rI (by first | rw [if_pos h30] | rw [if_neg h30]), rfl⟩
      · refine V_aloadn_0 dX7_as_33 ?_
        refine V_iloadn_1 dX7_as_34 ?_
        refine V_iconst 2 dX7_as_35 (by decide) ?_
        refine V_cv2f dX7_as_36 cv_X7_92 rcM (Nat.le_of_ble_eq_true rfl) (k_M_of (c := c) (w := 2) (by omega) (hC.1.c3 (by omega))) ?_
        refine V_goto dX7_as_39 44 (by decide) ?_
        exact V_iret dX7_as_44 ⟨rI (by first | rw [if_pos h30] | rw [if_neg h30]), rfl⟩
    · exact absurd (inN (a := 0) (b := 5) (by omega) hk5 (by decide)) h14

set_option maxRecDepth 100000 in
set_option maxHeartbeats 4000000 in
theorem m_as_bad {G : vG} {σ : vS} {d : Nat} (hd : 2 ≤ d) {L T : nT} (hC : MC L T σ) {x y : Int32} (hb : ¬ (hasI x (T 0 5) ∧ hasI y 6)) : Cf G yX7_as cX7_as 3 (some .int) d [.ref 97, .int x, .int y] σ (some (.int (-1000000001))) σ := by
  refine Ct.ofV (by decide) (Nat.le_of_ble_eq_true rfl) rfl ?_
  show V G RX7 cX7_as (some .int) 3 d _ 0 [some (.ref 97), some (.int x), some (.int y)] [] _
  obtain ⟨d, rfl⟩ : ∃ e, d = e + 1 := ⟨d - 1, by omega⟩
  have hI := hC.2.2.1
  have hn := hI.nc
  have hm := hI.np
  refine V_aloadn_0 dX7_as_0 ?_
  refine V_iloadn_1 dX7_as_1 ?_
  refine V_cv1f dX7_as_2 cv_X7_112 rcM (Nat.le_of_ble_eq_true rfl) (k_M_isCellar (by omega) hC) ?_
  refine V_ifB_eq dX7_as_5 17 (by decide) (fun h5 => ?_) (fun h5 => ?_)
  · refine V_ldc (-1000000001) dX7_as_17 cn_X7_86 ?_
    exact V_iret dX7_as_19 ⟨rfl, rfl⟩
  · refine V_iloadn_2 dX7_as_8 ?_
    refine V_iconst 0 dX7_as_9 (by decide) ?_
    refine V_iconst 5 dX7_as_10 (by decide) ?_
    refine V_cs3f dX7_as_11 cs_X7_82 (Nat.le_of_ble_eq_true rfl) k_M_in ?_
    refine V_ifB_ne dX7_as_14 20 (by decide) (fun h14 => ?_) (fun h14 => ?_)
    · exact absurd ⟨h5, in5.mp h14⟩ hb
    · refine V_ldc (-1000000001) dX7_as_17 cn_X7_86 ?_
      exact V_iret dX7_as_19 ⟨rfl, rfl⟩

set_option maxRecDepth 100000 in
set_option maxHeartbeats 4000000 in
theorem op_as {G : vG} {σ : vS} {d i : Nat} (hd : 100 ≤ d) (hi : i < 512) {x y : Int32} (h : Inv i σ) : Op G yX6_as cX6_as 3 yX7_as cX7_as 3 d [.int x, .int y] i σ := by
  have hh := h
  obtain ⟨L, T, I, b, hT, hB, hM, hS, hO, hW, hR, hK⟩ := h
  have hC := hT.1
  have hE := hT.2.1
  have hI := hC.2.2.1
  have hn := hI.nc
  have hm := hI.np
  by_cases hx : hasI x (T 0 5) ∧ hasI y 6
  · obtain ⟨c, hc, rfl⟩ := (hasI_iff (by omega)).mp hx.1
    obtain ⟨k, hk6, rfl⟩ := (hasI_iff (by decide)).mp hx.2
    exact Op.ask hh (Cf.fi (c_as (by omega) hC hc (by omega))) (fun σ1 f1 => Cf.fi (m_as (by omega) (hE.fi f1) hc (by omega)))
  · exact Op.ask hh (Cf.fi (c_as_bad (by omega) hC hx)) (fun σ1 f1 => Cf.fi (m_as_bad (by omega) (hE.fi f1) hx))

def pipeV (L T : nT) (p w : Nat) : Int32 := if w = 4 then nI (runsT L T p) else nI (T (6 + w) p)

set_option maxRecDepth 100000 in
set_option maxHeartbeats 4000000 in
theorem c_pipeOf {G : vG} {σ : vS} {d : Nat} (hd : 3 ≤ d) {L T : nT} {N : Nat} (hC : TC L N 61 T σ) {p w : Nat} (hp : p < T 0 10) (hw : w ≤ 4) : Cf G yX6_pipeOf cX6_pipeOf 3 (some .int) d [.ref 0, .int (nI p), .int (nI w)] σ (some (.int (pipeV L T p w))) σ := by
  refine Ct.ofV (by decide) (Nat.le_of_ble_eq_true rfl) rfl ?_
  show V G RX6 cX6_pipeOf (some .int) 3 d _ 0 [some (.ref 0), some (.int (nI p)), some (.int (nI w))] [] _
  obtain ⟨d, rfl⟩ : ∃ e, d = e + 1 := ⟨d - 1, by omega⟩
  obtain ⟨ht, hH, hI, hL, hLI, hN, hN2⟩ := id hC
  have hT := hH.1
  have hn := hI.nc
  have hm := hI.np
  refine V_aloadn_0 dX6_pipeOf_0 ?_
  refine V_getR dX6_pipeOf_1 fl_X6_46 oC_now ?_
  refine V_iloadn_1 dX6_pipeOf_4 ?_
  refine V_cv1f dX6_pipeOf_5 cv_X6_132 (rcT tw61) (Nat.le_of_ble_eq_true rfl) (k_T_hasPipe tw61 hT) ?_
  refine V_ifB_ne dX6_pipeOf_8 14 (by decide) (fun h8 => ?_) (fun h8 => ?_)
  · refine V_iloadn_2 dX6_pipeOf_14 ?_
    by_cases h15_0 : w = 0
    · refine V_tab 0 33 48 dX6_pipeOf_15 (by rw [h15_0]; rfl) (by decide) (by decide) (by decide) (by decide) ?_
      subst h15_0
      refine V_aloadn_0 dX6_pipeOf_48 ?_
      refine V_getR dX6_pipeOf_49 fl_X6_46 oC_now ?_
      refine V_getR dX6_pipeOf_52 fl_X6_135 (oT_one tw61) ?_
      refine V_iloadn_1 dX6_pipeOf_55 ?_
      refine V_iald (j := p) dX6_pipeOf_56 (aT_one tw61) (by omega) (by decide) ?_
      refine V_topi (hT.k6 (by omega)) ?_
      exact V_iret dX6_pipeOf_57 ⟨rI rfl, rfl⟩
    by_cases h15_1 : w = 1
    · refine V_tab 1 43 58 dX6_pipeOf_15 (by rw [h15_1]; rfl) (by decide) (by decide) (by decide) (by decide) ?_
      subst h15_1
      refine V_aloadn_0 dX6_pipeOf_58 ?_
      refine V_getR dX6_pipeOf_59 fl_X6_46 oC_now ?_
      refine V_getR dX6_pipeOf_62 fl_X6_138 (oT_other tw61) ?_
      refine V_iloadn_1 dX6_pipeOf_65 ?_
      refine V_iald (j := p) dX6_pipeOf_66 (aT_other tw61) (by omega) (by decide) ?_
      refine V_topi (hT.k7 (by omega)) ?_
      exact V_iret dX6_pipeOf_67 ⟨rI rfl, rfl⟩
    by_cases h15_2 : w = 2
    · refine V_tab 2 53 68 dX6_pipeOf_15 (by rw [h15_2]; rfl) (by decide) (by decide) (by decide) (by decide) ?_
      subst h15_2
      refine V_aloadn_0 dX6_pipeOf_68 ?_
      refine V_getR dX6_pipeOf_69 fl_X6_46 oC_now ?_
      refine V_getR dX6_pipeOf_72 fl_X6_141 (oT_wide tw61) ?_
      refine V_iloadn_1 dX6_pipeOf_75 ?_
      refine V_iald (j := p) dX6_pipeOf_76 (aT_wide tw61) (by omega) (by decide) ?_
      refine V_topi (hT.k8 (by omega)) ?_
      exact V_iret dX6_pipeOf_77 ⟨rI rfl, rfl⟩
    by_cases h15_3 : w = 3
    · refine V_tab 3 63 78 dX6_pipeOf_15 (by rw [h15_3]; rfl) (by decide) (by decide) (by decide) (by decide) ?_
      subst h15_3
      refine V_aloadn_0 dX6_pipeOf_78 ?_
      refine V_getR dX6_pipeOf_79 fl_X6_46 oC_now ?_
      refine V_getR dX6_pipeOf_82 fl_X6_144 (oT_corked tw61) ?_
      refine V_iloadn_1 dX6_pipeOf_85 ?_
      refine V_iald (j := p) dX6_pipeOf_86 (aT_corked tw61) (by omega) (by decide) ?_
      refine V_topi (hT.k9 (by omega)) ?_
      exact V_iret dX6_pipeOf_87 ⟨rI rfl, rfl⟩
    by_cases h15_4 : w = 4
    · refine V_tab 4 73 88 dX6_pipeOf_15 (by rw [h15_4]; rfl) (by decide) (by decide) (by decide) (by decide) ?_
      subst h15_4
      refine V_aloadn_0 dX6_pipeOf_88 ?_
      refine V_getR dX6_pipeOf_89 fl_X6_46 oC_now ?_
      refine V_iloadn_1 dX6_pipeOf_92 ?_
      refine V_cv1f dX6_pipeOf_93 cv_X6_147 (rcT tw61) (Nat.le_of_ble_eq_true rfl) (k_T_runs (by omega) tw61 hH hI (by omega)) ?_
      exact V_iret dX6_pipeOf_96 ⟨rI rfl, rfl⟩
    exfalso; omega
  · exact absurd (hasN hp (by omega)) h8

set_option maxRecDepth 100000 in
set_option maxHeartbeats 4000000 in
theorem c_pipeOf_bad {G : vG} {σ : vS} {d : Nat} (hd : 3 ≤ d) {L T : nT} {N : Nat} (hC : TC L N 61 T σ) {x y : Int32} (hb : ¬ (hasI x (T 0 10) ∧ inI y 0 4)) : Cf G yX6_pipeOf cX6_pipeOf 3 (some .int) d [.ref 0, .int x, .int y] σ (some (.int (-1000000001))) σ := by
  refine Ct.ofV (by decide) (Nat.le_of_ble_eq_true rfl) rfl ?_
  show V G RX6 cX6_pipeOf (some .int) 3 d _ 0 [some (.ref 0), some (.int x), some (.int y)] [] _
  obtain ⟨d, rfl⟩ : ∃ e, d = e + 1 := ⟨d - 1, by omega⟩
  obtain ⟨ht, hH, hI, hL, hLI, hN, hN2⟩ := id hC
  have hT := hH.1
  have hn := hI.nc
  have hm := hI.np
  refine V_aloadn_0 dX6_pipeOf_0 ?_
  refine V_getR dX6_pipeOf_1 fl_X6_46 oC_now ?_
  refine V_iloadn_1 dX6_pipeOf_4 ?_
  refine V_cv1f dX6_pipeOf_5 cv_X6_132 (rcT tw61) (Nat.le_of_ble_eq_true rfl) (k_T_hasPipe tw61 hT) ?_
  refine V_ifB_ne dX6_pipeOf_8 14 (by decide) (fun h8 => ?_) (fun h8 => ?_)
  · refine V_iloadn_2 dX6_pipeOf_14 ?_
    by_cases h15_0 : y = 0
    · refine V_tab 0 33 48 dX6_pipeOf_15 (by rw [h15_0]; rfl) (by decide) (by decide) (by decide) (by decide) ?_
      exact absurd ⟨h8, by rw [h15_0]; decide⟩ hb
    by_cases h15_1 : y = 1
    · refine V_tab 1 43 58 dX6_pipeOf_15 (by rw [h15_1]; rfl) (by decide) (by decide) (by decide) (by decide) ?_
      exact absurd ⟨h8, by rw [h15_1]; decide⟩ hb
    by_cases h15_2 : y = 2
    · refine V_tab 2 53 68 dX6_pipeOf_15 (by rw [h15_2]; rfl) (by decide) (by decide) (by decide) (by decide) ?_
      exact absurd ⟨h8, by rw [h15_2]; decide⟩ hb
    by_cases h15_3 : y = 3
    · refine V_tab 3 63 78 dX6_pipeOf_15 (by rw [h15_3]; rfl) (by decide) (by decide) (by decide) (by decide) ?_
      exact absurd ⟨h8, by rw [h15_3]; decide⟩ hb
    by_cases h15_4 : y = 4
    · refine V_tab 4 73 88 dX6_pipeOf_15 (by rw [h15_4]; rfl) (by decide) (by decide) (by decide) (by decide) ?_
      exact absurd ⟨h8, by rw [h15_4]; decide⟩ hb
    refine V_tabD 97 dX6_pipeOf_15 (by have q0 := lv_neT (a := 0) h15_0 (by decide); have q1 := lv_neT (a := 1) h15_1 (by decide); have q2 := lv_neT (a := 2) h15_2 (by decide); have q3 := lv_neT (a := 3) h15_3 (by decide); have q4 := lv_neT (a := 4) h15_4 (by decide); omega) (by decide) ?_
    refine V_ldc (-1000000001) dX6_pipeOf_97 cn_X6_66 ?_
    exact V_iret dX6_pipeOf_99 ⟨rfl, rfl⟩
  · refine V_ldc (-1000000001) dX6_pipeOf_11 cn_X6_66 ?_
    exact V_iret dX6_pipeOf_13 ⟨rfl, rfl⟩

set_option maxRecDepth 100000 in
set_option maxHeartbeats 4000000 in
theorem m_pipeOf {G : vG} {σ : vS} {d : Nat} (hd : 6 ≤ d) {L T : nT} (hC : MC L T σ) {p w : Nat} (hp : p < T 0 10) (hw : w ≤ 4) : Cr G yX7_pipeOf cX7_pipeOf 3 (some .int) d [.ref 97, .int (nI p), .int (nI w)] σ (some (.int (pipeV L T p w))) (fun σ' => Fh σ σ') := by
  refine Ct.ofV (by decide) (Nat.le_of_ble_eq_true rfl) rfl ?_
  show V G RX7 cX7_pipeOf (some .int) 3 d _ 0 [some (.ref 97), some (.int (nI p)), some (.int (nI w))] [] _
  obtain ⟨d, rfl⟩ : ∃ e, d = e + 1 := ⟨d - 1, by omega⟩
  have hI := hC.2.2.1
  have hn := hI.nc
  have hm := hI.np
  have hF : Fh σ σ := Fh.rf
  refine V_aloadn_0 dX7_pipeOf_0 ?_
  refine V_iloadn_1 dX7_pipeOf_1 ?_
  refine V_cv1f dX7_pipeOf_2 cv_X7_146 rcM (Nat.le_of_ble_eq_true rfl) (k_M_isPipe (by omega) hC) ?_
  refine V_ifB_eq dX7_pipeOf_5 17 (by decide) (fun h5 => ?_) (fun h5 => ?_)
  · exact absurd (hasN hp (by omega)) h5
  · refine V_iloadn_2 dX7_pipeOf_8 ?_
    refine V_iconst 0 dX7_pipeOf_9 (by decide) ?_
    refine V_iconst 4 dX7_pipeOf_10 (by decide) ?_
    refine V_cs3f dX7_pipeOf_11 cs_X7_82 (Nat.le_of_ble_eq_true rfl) k_M_in ?_
    refine V_ifB_ne dX7_pipeOf_14 20 (by decide) (fun h14 => ?_) (fun h14 => ?_)
    · refine V_iloadn_2 dX7_pipeOf_20 ?_
      refine V_iconst 4 dX7_pipeOf_21 (by decide) ?_
      refine V_icmpN_ne (a := w) (b := 4) dX7_pipeOf_22 33 (by decide) (by omega) (by omega) (fun h22 => ?_) (fun h22 => ?_)
      · refine V_aloadn_0 dX7_pipeOf_33 ?_
        refine V_iloadn_1 dX7_pipeOf_34 ?_
        refine V_iloadn_2 dX7_pipeOf_35 ?_
        refine V_cv2f dX7_pipeOf_36 cv_X7_140 rcM (Nat.le_of_ble_eq_true rfl) (k_M_at (by omega) (hC.1.pw hp (by omega))) ?_
        exact V_iret dX7_pipeOf_39 ⟨rI (by unfold pipeV; first | rw [if_pos h22] | rw [if_neg h22]), hF⟩
      · refine V_aloadn_0 dX7_pipeOf_25 ?_
        refine V_iloadn_1 dX7_pipeOf_26 ?_
        refine V_cv1r dX7_pipeOf_27 cv_X7_149 rcM (Nat.le_of_ble_eq_true rfl) (k_M_runsIn (by omega) hC (by omega)) (fun σ hq => ?_)
        replace hC := hC.fh hq
        replace hF := hF.tr hq
        refine V_goto dX7_pipeOf_30 39 (by decide) ?_
        exact V_iret dX7_pipeOf_39 ⟨rI (by unfold pipeV; first | rw [if_pos h22] | rw [if_neg h22]), hF⟩
    · exact absurd (inN (a := 0) (b := 4) (by omega) hw (by decide)) h14

set_option maxRecDepth 100000 in
set_option maxHeartbeats 4000000 in
theorem m_pipeOf_bad {G : vG} {σ : vS} {d : Nat} (hd : 6 ≤ d) {L T : nT} (hC : MC L T σ) {x y : Int32} (hb : ¬ (hasI x (T 0 10) ∧ inI y 0 4)) : Cf G yX7_pipeOf cX7_pipeOf 3 (some .int) d [.ref 97, .int x, .int y] σ (some (.int (-1000000001))) σ := by
  refine Ct.ofV (by decide) (Nat.le_of_ble_eq_true rfl) rfl ?_
  show V G RX7 cX7_pipeOf (some .int) 3 d _ 0 [some (.ref 97), some (.int x), some (.int y)] [] _
  obtain ⟨d, rfl⟩ : ∃ e, d = e + 1 := ⟨d - 1, by omega⟩
  have hI := hC.2.2.1
  have hn := hI.nc
  have hm := hI.np
  refine V_aloadn_0 dX7_pipeOf_0 ?_
  refine V_iloadn_1 dX7_pipeOf_1 ?_
  refine V_cv1f dX7_pipeOf_2 cv_X7_146 rcM (Nat.le_of_ble_eq_true rfl) (k_M_isPipe (by omega) hC) ?_
  refine V_ifB_eq dX7_pipeOf_5 17 (by decide) (fun h5 => ?_) (fun h5 => ?_)
  · refine V_ldc (-1000000001) dX7_pipeOf_17 cn_X7_86 ?_
    exact V_iret dX7_pipeOf_19 ⟨rfl, rfl⟩
  · refine V_iloadn_2 dX7_pipeOf_8 ?_
    refine V_iconst 0 dX7_pipeOf_9 (by decide) ?_
    refine V_iconst 4 dX7_pipeOf_10 (by decide) ?_
    refine V_cs3f dX7_pipeOf_11 cs_X7_82 (Nat.le_of_ble_eq_true rfl) k_M_in ?_
    refine V_ifB_ne dX7_pipeOf_14 20 (by decide) (fun h14 => ?_) (fun h14 => ?_)
    · exact absurd ⟨h5, h14⟩ hb
    · refine V_ldc (-1000000001) dX7_pipeOf_17 cn_X7_86 ?_
      exact V_iret dX7_pipeOf_19 ⟨rfl, rfl⟩

set_option maxRecDepth 100000 in
set_option maxHeartbeats 4000000 in
theorem op_pipeOf {G : vG} {σ : vS} {d i : Nat} (hd : 100 ≤ d) (hi : i < 512) {x y : Int32} (h : Inv i σ) : Op G yX6_pipeOf cX6_pipeOf 3 yX7_pipeOf cX7_pipeOf 3 d [.int x, .int y] i σ := by
  have hh := h
  obtain ⟨L, T, I, b, hT, hB, hM, hS, hO, hW, hR, hK⟩ := h
  have hC := hT.1
  have hE := hT.2.1
  have hI := hC.2.2.1
  have hn := hI.nc
  have hm := hI.np
  by_cases hx : hasI x (T 0 10) ∧ inI y 0 4
  · obtain ⟨p, hp, rfl⟩ := (hasI_iff (by omega)).mp hx.1
    obtain ⟨w, hw, rfl⟩ := (inI_iff (b := 4) (by decide)).mp hx.2
    exact Op.ask hh (Cf.fi (c_pipeOf (by omega) hC hp hw)) (fun σ1 f1 => Cr.fh (m_pipeOf (by omega) (hE.fi f1) hp hw))
  · exact Op.ask hh (Cf.fi (c_pipeOf_bad (by omega) hC hx)) (fun σ1 f1 => Cf.fi (m_pipeOf_bad (by omega) (hE.fi f1) hx))

def townC (L T : nT) (w : Int32) : Int32 := if w = 0 then nI (sumT T (T 0 5)) else if w = 1 then nI (T 0 11) else if w = 2 then nI (runN L T (T 0 10)) else if w = 3 then setI T (T 0 5) else -1000000001

set_option maxRecDepth 100000 in
set_option maxHeartbeats 4000000 in
theorem c_town {G : vG} {σ : vS} {d : Nat} (hd : 4 ≤ d) {L T : nT} {N : Nat} (hC : TC L N 61 T σ) {w : Int32} : Cf G yX6_town cX6_town 2 (some .int) d [.ref 0, .int w] σ (some (.int (townC L T w))) σ := by
  refine Ct.ofV (by decide) (Nat.le_of_ble_eq_true rfl) rfl ?_
  show V G RX6 cX6_town (some .int) 2 d _ 0 [some (.ref 0), some (.int w)] [] _
  obtain ⟨d, rfl⟩ : ∃ e, d = e + 1 := ⟨d - 1, by omega⟩
  obtain ⟨ht, hH, hI, hL, hLI, hN, hN2⟩ := id hC
  have hT := hH.1
  have hn := hI.nc
  have hm := hI.np
  refine V_iloadn_1 dX6_town_0 ?_
  by_cases h1_0 : w = 0
  · refine V_tab 0 31 32 dX6_town_1 (by rw [h1_0]; rfl) (by decide) (by decide) (by decide) (by decide) ?_
    subst h1_0
    refine V_aloadn_0 dX6_town_32 ?_
    refine V_getR dX6_town_33 fl_X6_46 oC_now ?_
    refine V_cv0f dX6_town_36 cv_X6_173 (rcT tw61) (Nat.le_of_ble_eq_true rfl) (k_T_fullOfAll (by omega) tw61 hT hI) ?_
    exact V_iret dX6_town_39 ⟨rI (by first | rfl | simp [townC, *]), rfl⟩
  by_cases h1_1 : w = 1
  · refine V_tab 1 39 40 dX6_town_1 (by rw [h1_1]; rfl) (by decide) (by decide) (by decide) (by decide) ?_
    subst h1_1
    refine V_aloadn_0 dX6_town_40 ?_
    refine V_getR dX6_town_41 fl_X6_46 oC_now ?_
    refine V_getI dX6_town_44 fl_X6_164 (oT_spilt tw61) ?_
    refine V_topi hT.n11 ?_
    exact V_iret dX6_town_47 ⟨rI (by first | rfl | simp [townC, *]), rfl⟩
  by_cases h1_2 : w = 2
  · refine V_tab 2 47 48 dX6_town_1 (by rw [h1_2]; rfl) (by decide) (by decide) (by decide) (by decide) ?_
    subst h1_2
    refine V_aloadn_0 dX6_town_48 ?_
    refine V_getR dX6_town_49 fl_X6_46 oC_now ?_
    refine V_cv0f dX6_town_52 cv_X6_177 (rcT tw61) (Nat.le_of_ble_eq_true rfl) (k_T_runningPipes (by omega) tw61 hH hI) ?_
    exact V_iret dX6_town_55 ⟨rI (by first | rfl | simp [townC, *]), rfl⟩
  by_cases h1_3 : w = 3
  · refine V_tab 3 55 56 dX6_town_1 (by rw [h1_3]; rfl) (by decide) (by decide) (by decide) (by decide) ?_
    subst h1_3
    refine V_aloadn_0 dX6_town_56 ?_
    refine V_getR dX6_town_57 fl_X6_46 oC_now ?_
    refine V_cv0f dX6_town_60 cv_X6_180 (rcT tw61) (Nat.le_of_ble_eq_true rfl) (k_T_filledCellars (by omega) tw61 hT hI) ?_
    exact V_iret dX6_town_63 ⟨rI (by first | rfl | simp [townC, *]), rfl⟩
  refine V_tabD 64 dX6_town_1 (by have q0 := lv_neT (a := 0) h1_0 (by decide); have q1 := lv_neT (a := 1) h1_1 (by decide); have q2 := lv_neT (a := 2) h1_2 (by decide); have q3 := lv_neT (a := 3) h1_3 (by decide); omega) (by decide) ?_
  refine V_ldc (-1000000001) dX6_town_64 cn_X6_66 ?_
  exact V_iret dX6_town_66 ⟨rI (by first | rfl | simp [townC, *]), rfl⟩

set_option maxRecDepth 100000 in
set_option maxHeartbeats 4000000 in
theorem lp_m_town {G : vG} {d : Nat} {σ0 : vS} {L T : nT} {w : Int32} (hd : 2 ≤ d + 1) : ∀ (k : Nat) (c : Nat) (σ : vS), (MC L T σ ∧ Fh σ0 σ ∧ c ≤ T 0 5) → T 0 5 - c < k → V G RX7 cX7_town (some .int) 4 (d + 1) (fun r' σ' => r' = some (.int (setI T (T 0 5))) ∧ Fh σ0 σ') 53 [some (.ref 97), some (.int w), some (.int (setI T c)), some (.int (nI c))] [] σ := by
  intro k
  induction k with
  | zero => intros; omega
  | succ k ih =>
    intro c σ hh hk
    obtain ⟨hC, hF, hc⟩ := hh
    have hI := hC.2.2.1
    have hn := hI.nc
    have hm := hI.np
    refine V_iloadn_3 dX7_town_53 ?_
    refine V_aloadn_0 dX7_town_54 ?_
    refine V_getR dX7_town_55 fl_X7_9 oM_now ?_
    refine V_iconst 1 dX7_town_58 (by decide) ?_
    refine V_iald (j := 1) dX7_town_59 aM_now (by decide) (by decide) ?_
    refine V_topi hC.1.s1 ?_
    refine V_icmpN_ge (a := c) (b := T 0 5) dX7_town_60 87 (by decide) (by omega) (by omega) (fun h60 => ?_) (fun h60 => ?_)
    · refine V_iloadn_2 dX7_town_87 ?_
      exact V_iret dX7_town_88 ⟨rI (by rw [show c = T 0 5 by omega]), hF⟩
    · refine V_iloadn_2 dX7_town_63 ?_
      refine V_aloadn_0 dX7_town_64 ?_
      refine V_iloadn_3 dX7_town_65 ?_
      refine V_cv1f dX7_town_66 cv_X7_96 rcM (Nat.le_of_ble_eq_true rfl) (k_M_fullOf (by omega) hC (by omega)) ?_
      refine V_ifN_le (a := fullT T c) dX7_town_69 78 (by decide) (by have := hI.full (c := c) (by omega); omega) (fun h69 => ?_) (fun h69 => ?_)
      · refine V_iconst 0 dX7_town_78 (by decide) ?_
        refine V_ior dX7_town_79 ?_
        refine V_istoren_2 dX7_town_80 (by first | exact rfl | exact True.intro) (by decide) ?_
        refine V_iinc_3 dX7_town_81 (by first | exact rfl | exact True.intro) (by decide) (nI (c + 1)) (nI_inc _) ?_
        refine V_goto dX7_town_84 53 (by decide) ?_
        refine V_lo (lo' := [some (.ref 97), some (.int w), some (.int (setI T (c + 1))), some (.int (nI (c + 1)))]) ?_ ?_
        · simp only [setI]
          first | rw [if_pos h69] | (rw [if_neg (by omega)]; simp)
        exact ih (c + 1) _ ⟨hC, hF, by omega⟩ (by omega)
      · refine V_iconst 1 dX7_town_72 (by decide) ?_
        refine V_iloadn_3 dX7_town_73 ?_
        refine V_ishl dX7_town_74 ?_
        refine V_goto dX7_town_75 79 (by decide) ?_
        refine V_ior dX7_town_79 ?_
        refine V_istoren_2 dX7_town_80 (by first | exact rfl | exact True.intro) (by decide) ?_
        refine V_iinc_3 dX7_town_81 (by first | exact rfl | exact True.intro) (by decide) (nI (c + 1)) (nI_inc _) ?_
        refine V_goto dX7_town_84 53 (by decide) ?_
        refine V_lo (lo' := [some (.ref 97), some (.int w), some (.int (setI T (c + 1))), some (.int (nI (c + 1)))]) ?_ ?_
        · simp only [setI]
          first | rw [if_pos h69] | (rw [if_neg (by omega)]; simp)
        exact ih (c + 1) _ ⟨hC, hF, by omega⟩ (by omega)

set_option maxRecDepth 100000 in
set_option maxHeartbeats 4000000 in
theorem m_town {G : vG} {σ : vS} {d : Nat} (hd : 7 ≤ d) {L T : nT} (hC : MC L T σ) {w : Int32} : Cr G yX7_town cX7_town 4 (some .int) d [.ref 97, .int w] σ (some (.int (townC L T w))) (fun σ' => Fh σ σ') := by
  refine Ct.ofV (by decide) (Nat.le_of_ble_eq_true rfl) rfl ?_
  show V G RX7 cX7_town (some .int) 4 d _ 0 [some (.ref 97), some (.int w), none, none] [] _
  obtain ⟨d, rfl⟩ : ∃ e, d = e + 1 := ⟨d - 1, by omega⟩
  have hI := hC.2.2.1
  have hn := hI.nc
  have hm := hI.np
  have hF : Fh σ σ := Fh.rf
  refine V_iloadn_1 dX7_town_0 ?_
  by_cases h1_0 : w = 0
  · refine V_tab 0 31 32 dX7_town_1 (by rw [h1_0]; rfl) (by decide) (by decide) (by decide) (by decide) ?_
    subst h1_0
    refine V_aloadn_0 dX7_town_32 ?_
    refine V_cv0f dX7_town_33 cv_X7_174 rcM (Nat.le_of_ble_eq_true rfl) (k_M_fullOfAll (by omega) hC) ?_
    exact V_iret dX7_town_36 ⟨rI (by first | rfl | simp [townC, *]), hF⟩
  by_cases h1_1 : w = 1
  · refine V_tab 1 36 37 dX7_town_1 (by rw [h1_1]; rfl) (by decide) (by decide) (by decide) (by decide) ?_
    subst h1_1
    refine V_aloadn_0 dX7_town_37 ?_
    refine V_getR dX7_town_38 fl_X7_9 oM_now ?_
    refine V_iconst 5 dX7_town_41 (by decide) ?_
    refine V_iald (j := 5) dX7_town_42 aM_now (by decide) (by decide) ?_
    refine V_topi hC.1.s5 ?_
    exact V_iret dX7_town_43 ⟨rI (by first | rfl | simp [townC, *]), hF⟩
  by_cases h1_2 : w = 2
  · refine V_tab 2 43 44 dX7_town_1 (by rw [h1_2]; rfl) (by decide) (by decide) (by decide) (by decide) ?_
    subst h1_2
    refine V_aloadn_0 dX7_town_44 ?_
    refine V_cv0r dX7_town_45 cv_X7_177 rcM (Nat.le_of_ble_eq_true rfl) (k_M_running (by omega) hC) (fun σ hq => ?_)
    replace hC := hC.fh hq
    replace hF := hF.tr hq
    exact V_iret dX7_town_48 ⟨rI (by first | rfl | simp [townC, *]), hF⟩
  by_cases h1_3 : w = 3
  · refine V_tab 3 48 49 dX7_town_1 (by rw [h1_3]; rfl) (by decide) (by decide) (by decide) (by decide) ?_
    subst h1_3
    refine V_iconst 0 dX7_town_49 (by decide) ?_
    refine V_istoren_2 dX7_town_50 (by first | exact rfl | exact True.intro) (by decide) ?_
    refine V_iconst 0 dX7_town_51 (by decide) ?_
    refine V_istoren_3 dX7_town_52 (by first | exact rfl | exact True.intro) (by decide) ?_
    exact lp_m_town (by omega) (T 0 5 + 1) 0 _ ⟨hC, hF, by omega⟩ (by omega)
  refine V_tabD 89 dX7_town_1 (by have q0 := lv_neT (a := 0) h1_0 (by decide); have q1 := lv_neT (a := 1) h1_1 (by decide); have q2 := lv_neT (a := 2) h1_2 (by decide); have q3 := lv_neT (a := 3) h1_3 (by decide); omega) (by decide) ?_
  refine V_ldc (-1000000001) dX7_town_89 cn_X7_86 ?_
  exact V_iret dX7_town_91 ⟨rI (by first | rfl | simp [townC, *]), hF⟩

set_option maxRecDepth 100000 in
set_option maxHeartbeats 4000000 in
theorem op_town {G : vG} {σ : vS} {d i : Nat} (hd : 100 ≤ d) (hi : i < 512) {w : Int32} (h : Inv i σ) : Op G yX6_town cX6_town 2 yX7_town cX7_town 4 d [.int w] i σ := by
  have hh := h
  obtain ⟨L, T, I, b, hT, hB, hM, hS, hO, hW, hR, hK⟩ := h
  have hC := hT.1
  have hE := hT.2.1
  have hI := hC.2.2.1
  have hn := hI.nc
  have hm := hI.np
  exact Op.ask hh (Cf.fi (c_town (by omega) hC)) (fun σ1 f1 => Cr.fh (m_town (by omega) (hE.fi f1)))

def countC (T : nT) (a b w : Int32) : Int32 := if w = 0 then nI (T 0 5) else if w = 1 then nI (T 0 10) else if w = 2 then nI (T 0 13) else if w = 3 then nI (T 0 12) else if w = 4 then nI (ckN T (T 0 10)) else if w = 5 then nI (T 0 15) else if w = 6 then a else if w = 7 then b else if w = 8 then nI (T 0 14) else -1000000001

set_option maxRecDepth 100000 in
set_option maxHeartbeats 4000000 in
theorem c_count {G : vG} {σ : vS} {d : Nat} (hd : 1 ≤ d) {L T : nT} {N : Nat} (hC : TC L N 61 T σ) {w : Int32} : Cf G yX6_count cX6_count 2 (some .int) d [.ref 0, .int w] σ (some (.int (countC T (σ 0 9) (σ 1 0) w))) σ := by
  refine Ct.ofV (by decide) (Nat.le_of_ble_eq_true rfl) rfl ?_
  show V G RX6 cX6_count (some .int) 2 d _ 0 [some (.ref 0), some (.int w)] [] _
  obtain ⟨d, rfl⟩ : ∃ e, d = e + 1 := ⟨d - 1, by omega⟩
  obtain ⟨ht, hH, hI, hL, hLI, hN, hN2⟩ := id hC
  have hT := hH.1
  have hn := hI.nc
  have hm := hI.np
  refine V_iloadn_1 dX6_count_0 ?_
  by_cases h1_0 : w = 0
  · refine V_tab 0 51 52 dX6_count_1 (by rw [h1_0]; rfl) (by decide) (by decide) (by decide) (by decide) ?_
    subst h1_0
    refine V_aloadn_0 dX6_count_52 ?_
    refine V_getR dX6_count_53 fl_X6_46 oC_now ?_
    refine V_getI dX6_count_56 fl_X6_67 (oT_cellars tw61) ?_
    refine V_topi hT.n5 ?_
    exact V_iret dX6_count_59 ⟨rI (by first | rfl | simp [countC, *]), rfl⟩
  by_cases h1_1 : w = 1
  · refine V_tab 1 59 60 dX6_count_1 (by rw [h1_1]; rfl) (by decide) (by decide) (by decide) (by decide) ?_
    subst h1_1
    refine V_aloadn_0 dX6_count_60 ?_
    refine V_getR dX6_count_61 fl_X6_46 oC_now ?_
    refine V_getI dX6_count_64 fl_X6_126 (oT_pipes tw61) ?_
    refine V_topi hT.n10 ?_
    exact V_iret dX6_count_67 ⟨rI (by first | rfl | simp [countC, *]), rfl⟩
  by_cases h1_2 : w = 2
  · refine V_tab 2 67 68 dX6_count_1 (by rw [h1_2]; rfl) (by decide) (by decide) (by decide) (by decide) ?_
    subst h1_2
    refine V_aloadn_0 dX6_count_68 ?_
    refine V_getR dX6_count_69 fl_X6_46 oC_now ?_
    refine V_getI dX6_count_72 fl_X6_167 (oT_hour tw61) ?_
    refine V_topi hT.n13 ?_
    exact V_iret dX6_count_75 ⟨rI (by first | rfl | simp [countC, *]), rfl⟩
  by_cases h1_3 : w = 3
  · refine V_tab 3 75 76 dX6_count_1 (by rw [h1_3]; rfl) (by decide) (by decide) (by decide) (by decide) ?_
    subst h1_3
    refine V_aloadn_0 dX6_count_76 ?_
    refine V_getR dX6_count_77 fl_X6_46 oC_now ?_
    refine V_getI dX6_count_80 fl_X6_150 (oT_thirst tw61) ?_
    refine V_topi hT.n12 ?_
    exact V_iret dX6_count_83 ⟨rI (by first | rfl | simp [countC, *]), rfl⟩
  by_cases h1_4 : w = 4
  · refine V_tab 4 83 84 dX6_count_1 (by rw [h1_4]; rfl) (by decide) (by decide) (by decide) (by decide) ?_
    subst h1_4
    refine V_aloadn_0 dX6_count_84 ?_
    refine V_getR dX6_count_85 fl_X6_46 oC_now ?_
    refine V_cv0f dX6_count_88 cv_X6_322 (rcT tw61) (Nat.le_of_ble_eq_true rfl) (k_T_corkedPipes tw61 hT hI) ?_
    exact V_iret dX6_count_91 ⟨rI (by first | rfl | simp [countC, *]), rfl⟩
  by_cases h1_5 : w = 5
  · refine V_tab 5 91 92 dX6_count_1 (by rw [h1_5]; rfl) (by decide) (by decide) (by decide) (by decide) ?_
    subst h1_5
    refine V_aloadn_0 dX6_count_92 ?_
    refine V_getR dX6_count_93 fl_X6_46 oC_now ?_
    refine V_getI dX6_count_96 fl_X6_234 (oT_texts tw61) ?_
    refine V_topi hT.n15 ?_
    exact V_iret dX6_count_99 ⟨rI (by first | rfl | simp [countC, *]), rfl⟩
  by_cases h1_6 : w = 6
  · refine V_tab 6 99 100 dX6_count_1 (by rw [h1_6]; rfl) (by decide) (by decide) (by decide) (by decide) ?_
    subst h1_6
    refine V_aloadn_0 dX6_count_100 ?_
    refine V_getI dX6_count_101 fl_X6_309 oC_waitingCount ?_
    exact V_iret dX6_count_104 ⟨rI (by first | rfl | simp [countC, *]), rfl⟩
  by_cases h1_7 : w = 7
  · refine V_tab 7 104 105 dX6_count_1 (by rw [h1_7]; rfl) (by decide) (by decide) (by decide) (by decide) ?_
    subst h1_7
    refine V_aloadn_0 dX6_count_105 ?_
    refine V_getR dX6_count_106 fl_X6_10 oC_reader ?_
    refine V_getI dX6_count_109 fl_X6_225 oR_length ?_
    exact V_iret dX6_count_112 ⟨rI (by first | rfl | simp [countC, *]), rfl⟩
  by_cases h1_8 : w = 8
  · refine V_tab 8 112 113 dX6_count_1 (by rw [h1_8]; rfl) (by decide) (by decide) (by decide) (by decide) ?_
    subst h1_8
    refine V_aloadn_0 dX6_count_113 ?_
    refine V_getR dX6_count_114 fl_X6_46 oC_now ?_
    refine V_getI dX6_count_117 fl_X6_161 (oT_z tw61) ?_
    refine V_topi hT.n14 ?_
    exact V_iret dX6_count_120 ⟨rI (by first | rfl | simp [countC, *]), rfl⟩
  refine V_tabD 121 dX6_count_1 (by have q0 := lv_neT (a := 0) h1_0 (by decide); have q1 := lv_neT (a := 1) h1_1 (by decide); have q2 := lv_neT (a := 2) h1_2 (by decide); have q3 := lv_neT (a := 3) h1_3 (by decide); have q4 := lv_neT (a := 4) h1_4 (by decide); have q5 := lv_neT (a := 5) h1_5 (by decide); have q6 := lv_neT (a := 6) h1_6 (by decide); have q7 := lv_neT (a := 7) h1_7 (by decide); have q8 := lv_neT (a := 8) h1_8 (by decide); omega) (by decide) ?_
  refine V_ldc (-1000000001) dX6_count_121 cn_X6_66 ?_
  exact V_iret dX6_count_123 ⟨rI (by first | rfl | simp [countC, *]), rfl⟩

set_option maxRecDepth 100000 in
set_option maxHeartbeats 4000000 in
theorem m_count {G : vG} {σ : vS} {d : Nat} (hd : 2 ≤ d) {L T : nT} (hC : MC L T σ) {w : Int32} : Cf G yX7_count cX7_count 2 (some .int) d [.ref 97, .int w] σ (some (.int (countC T (σ 97 34) (σ 97 8) w))) σ := by
  refine Ct.ofV (by decide) (Nat.le_of_ble_eq_true rfl) rfl ?_
  show V G RX7 cX7_count (some .int) 2 d _ 0 [some (.ref 97), some (.int w)] [] _
  obtain ⟨d, rfl⟩ : ∃ e, d = e + 1 := ⟨d - 1, by omega⟩
  have hI := hC.2.2.1
  have hn := hI.nc
  have hm := hI.np
  refine V_iloadn_1 dX7_count_0 ?_
  by_cases h1_0 : w = 0
  · refine V_tab 0 51 52 dX7_count_1 (by rw [h1_0]; rfl) (by decide) (by decide) (by decide) (by decide) ?_
    subst h1_0
    refine V_aloadn_0 dX7_count_52 ?_
    refine V_getR dX7_count_53 fl_X7_9 oM_now ?_
    refine V_iconst 1 dX7_count_56 (by decide) ?_
    refine V_iald (j := 1) dX7_count_57 aM_now (by decide) (by decide) ?_
    refine V_topi hC.1.s1 ?_
    exact V_iret dX7_count_58 ⟨rI (by first | rfl | simp [countC, *]), rfl⟩
  by_cases h1_1 : w = 1
  · refine V_tab 1 58 59 dX7_count_1 (by rw [h1_1]; rfl) (by decide) (by decide) (by decide) (by decide) ?_
    subst h1_1
    refine V_aloadn_0 dX7_count_59 ?_
    refine V_getR dX7_count_60 fl_X7_9 oM_now ?_
    refine V_iconst 2 dX7_count_63 (by decide) ?_
    refine V_iald (j := 2) dX7_count_64 aM_now (by decide) (by decide) ?_
    refine V_topi hC.1.s2 ?_
    exact V_iret dX7_count_65 ⟨rI (by first | rfl | simp [countC, *]), rfl⟩
  by_cases h1_2 : w = 2
  · refine V_tab 2 65 66 dX7_count_1 (by rw [h1_2]; rfl) (by decide) (by decide) (by decide) (by decide) ?_
    subst h1_2
    refine V_aloadn_0 dX7_count_66 ?_
    refine V_getR dX7_count_67 fl_X7_9 oM_now ?_
    refine V_iconst 3 dX7_count_70 (by decide) ?_
    refine V_iald (j := 3) dX7_count_71 aM_now (by decide) (by decide) ?_
    refine V_topi hC.1.s3 ?_
    exact V_iret dX7_count_72 ⟨rI (by first | rfl | simp [countC, *]), rfl⟩
  by_cases h1_3 : w = 3
  · refine V_tab 3 72 73 dX7_count_1 (by rw [h1_3]; rfl) (by decide) (by decide) (by decide) (by decide) ?_
    subst h1_3
    refine V_aloadn_0 dX7_count_73 ?_
    refine V_getR dX7_count_74 fl_X7_9 oM_now ?_
    refine V_iconst 4 dX7_count_77 (by decide) ?_
    refine V_iald (j := 4) dX7_count_78 aM_now (by decide) (by decide) ?_
    refine V_topi hC.1.s4 ?_
    exact V_iret dX7_count_79 ⟨rI (by first | rfl | simp [countC, *]), rfl⟩
  by_cases h1_4 : w = 4
  · refine V_tab 4 79 80 dX7_count_1 (by rw [h1_4]; rfl) (by decide) (by decide) (by decide) (by decide) ?_
    subst h1_4
    refine V_aloadn_0 dX7_count_80 ?_
    refine V_cv0f dX7_count_81 cv_X7_290 rcM (Nat.le_of_ble_eq_true rfl) (k_M_corked (by omega) hC) ?_
    exact V_iret dX7_count_84 ⟨rI (by first | rfl | simp [countC, *]), rfl⟩
  by_cases h1_5 : w = 5
  · refine V_tab 5 84 85 dX7_count_1 (by rw [h1_5]; rfl) (by decide) (by decide) (by decide) (by decide) ?_
    subst h1_5
    refine V_aloadn_0 dX7_count_85 ?_
    refine V_getR dX7_count_86 fl_X7_9 oM_now ?_
    refine V_bipush 6 dX7_count_89 (by decide) ?_
    refine V_iald (j := 6) dX7_count_91 aM_now (by decide) (by decide) ?_
    refine V_topi hC.1.s6 ?_
    exact V_iret dX7_count_92 ⟨rI (by first | rfl | simp [countC, *]), rfl⟩
  by_cases h1_6 : w = 6
  · refine V_tab 6 92 93 dX7_count_1 (by rw [h1_6]; rfl) (by decide) (by decide) (by decide) (by decide) ?_
    subst h1_6
    refine V_aloadn_0 dX7_count_93 ?_
    refine V_getI dX7_count_94 fl_X7_279 oM_waiting ?_
    exact V_iret dX7_count_97 ⟨rI (by first | rfl | simp [countC, *]), rfl⟩
  by_cases h1_7 : w = 7
  · refine V_tab 7 97 98 dX7_count_1 (by rw [h1_7]; rfl) (by decide) (by decide) (by decide) (by decide) ?_
    subst h1_7
    refine V_aloadn_0 dX7_count_98 ?_
    refine V_getI dX7_count_99 fl_X7_203 oM_taped ?_
    exact V_iret dX7_count_102 ⟨rI (by first | rfl | simp [countC, *]), rfl⟩
  by_cases h1_8 : w = 8
  · refine V_tab 8 102 103 dX7_count_1 (by rw [h1_8]; rfl) (by decide) (by decide) (by decide) (by decide) ?_
    subst h1_8
    refine V_aloadn_0 dX7_count_103 ?_
    refine V_getR dX7_count_104 fl_X7_9 oM_now ?_
    refine V_iconst 0 dX7_count_107 (by decide) ?_
    refine V_iald (j := 0) dX7_count_108 aM_now (by decide) (by decide) ?_
    refine V_topi hC.1.s0 ?_
    exact V_iret dX7_count_109 ⟨rI (by first | rfl | simp [countC, *]), rfl⟩
  refine V_tabD 110 dX7_count_1 (by have q0 := lv_neT (a := 0) h1_0 (by decide); have q1 := lv_neT (a := 1) h1_1 (by decide); have q2 := lv_neT (a := 2) h1_2 (by decide); have q3 := lv_neT (a := 3) h1_3 (by decide); have q4 := lv_neT (a := 4) h1_4 (by decide); have q5 := lv_neT (a := 5) h1_5 (by decide); have q6 := lv_neT (a := 6) h1_6 (by decide); have q7 := lv_neT (a := 7) h1_7 (by decide); have q8 := lv_neT (a := 8) h1_8 (by decide); omega) (by decide) ?_
  refine V_ldc (-1000000001) dX7_count_110 cn_X7_86 ?_
  exact V_iret dX7_count_112 ⟨rI (by first | rfl | simp [countC, *]), rfl⟩

set_option maxRecDepth 100000 in
set_option maxHeartbeats 4000000 in
theorem op_count {G : vG} {σ : vS} {d i : Nat} (hd : 100 ≤ d) (hi : i < 512) {w : Int32} (h : Inv i σ) : Op G yX6_count cX6_count 2 yX7_count cX7_count 2 d [.int w] i σ := by
  have hh := h
  obtain ⟨L, T, I, b, hT, hB, hM, hS, hO, hW, hR, hK⟩ := h
  have hC := hT.1
  have hE := hT.2.1
  have hI := hC.2.2.1
  have hn := hI.nc
  have hm := hI.np
  refine Op.ask hh (Cf.fi (c_count (by omega) hC)) (fun σ1 f1 => Cf.fi ?_)
  have q := m_count (G := G) (d := d) (w := w) (by omega) (hE.fi f1)
  obtain ⟨n, -, w1, w2, -⟩ := hW
  obtain ⟨n2, -, r1, r2, -⟩ := hR
  rw [f1 97 34 (by unfold relP; omega), f1 97 8 (by unfold relP; omega), w2, r2, ← w1, ← r1] at q
  exact q

def whyV (T : nT) (k : Nat) : Int32 := if T 10 k = 0 then -1000000005 else nI (T 10 k - 1)

set_option maxRecDepth 100000 in
set_option maxHeartbeats 4000000 in
theorem c_why {G : vG} {σ : vS} {d : Nat} (hd : 1 ≤ d) {L T : nT} {N : Nat} (hC : TC L N 61 T σ) {k : Nat} (hk3 : k < 3) : Cf G yX6_why cX6_why 2 (some .int) d [.ref 0, .int (nI k)] σ (some (.int (whyV T k))) σ := by
  refine Ct.ofV (by decide) (Nat.le_of_ble_eq_true rfl) rfl ?_
  show V G RX6 cX6_why (some .int) 2 d _ 0 [some (.ref 0), some (.int (nI k))] [] _
  obtain ⟨d, rfl⟩ : ∃ e, d = e + 1 := ⟨d - 1, by omega⟩
  obtain ⟨ht, hH, hI, hL, hLI, hN, hN2⟩ := id hC
  have hT := hH.1
  have hn := hI.nc
  have hm := hI.np
  have hx := hI.tx
  have hlw := hI.lw hk3
  refine V_iloadn_1 dX6_why_0 ?_
  refine V_iconst 0 dX6_why_1 (by decide) ?_
  refine V_iconst 2 dX6_why_2 (by decide) ?_
  refine V_cs3f dX6_why_3 cs_X6_108 (Nat.le_of_ble_eq_true rfl) k_C_within ?_
  refine V_ifB_ne dX6_why_6 12 (by decide) (fun h6 => ?_) (fun h6 => ?_)
  · refine V_aloadn_0 dX6_why_12 ?_
    refine V_getR dX6_why_13 fl_X6_46 oC_now ?_
    refine V_getR dX6_why_16 fl_X6_215 (oT_lawOf tw61) ?_
    refine V_iloadn_1 dX6_why_19 ?_
    refine V_iald (j := k) dX6_why_20 (aT_lawOf tw61) (by omega) (by decide) ?_
    refine V_topi (y := lwI (T 10 k)) (hT.k10 hk3) ?_
    refine V_if_ge dX6_why_21 29 (by decide) (fun h21 => ?_) (fun h21 => ?_)
    · refine V_aloadn_0 dX6_why_29 ?_
      refine V_getR dX6_why_30 fl_X6_46 oC_now ?_
      refine V_getR dX6_why_33 fl_X6_215 (oT_lawOf tw61) ?_
      refine V_iloadn_1 dX6_why_36 ?_
      refine V_iald (j := k) dX6_why_37 (aT_lawOf tw61) (by omega) (by decide) ?_
      refine V_topi (y := lwI (T 10 k)) (hT.k10 hk3) ?_
      exact V_iret dX6_why_38 ⟨rI (by unfold whyV; first | rw [if_neg (lw_ge h21), lw_val (lw_ge h21)] | rw [if_pos (lw_lt (by omega) h21)]), rfl⟩
    · refine V_ldc (-1000000005) dX6_why_24 cn_X6_189 ?_
      refine V_goto dX6_why_26 38 (by decide) ?_
      exact V_iret dX6_why_38 ⟨rI (by unfold whyV; first | rw [if_neg (lw_ge h21), lw_val (lw_ge h21)] | rw [if_pos (lw_lt (by omega) h21)]), rfl⟩
  · exact absurd (inN (a := 0) (b := 2) (by omega) (by omega) (by decide)) h6

set_option maxRecDepth 100000 in
set_option maxHeartbeats 4000000 in
theorem c_why_bad {G : vG} {σ : vS} {d : Nat} (hd : 1 ≤ d) {x : Int32} (hb : ¬ inI x 0 2) : Cf G yX6_why cX6_why 2 (some .int) d [.ref 0, .int x] σ (some (.int (-1000000001))) σ := by
  refine Ct.ofV (by decide) (Nat.le_of_ble_eq_true rfl) rfl ?_
  show V G RX6 cX6_why (some .int) 2 d _ 0 [some (.ref 0), some (.int x)] [] _
  obtain ⟨d, rfl⟩ : ∃ e, d = e + 1 := ⟨d - 1, by omega⟩
  refine V_iloadn_1 dX6_why_0 ?_
  refine V_iconst 0 dX6_why_1 (by decide) ?_
  refine V_iconst 2 dX6_why_2 (by decide) ?_
  refine V_cs3f dX6_why_3 cs_X6_108 (Nat.le_of_ble_eq_true rfl) k_C_within ?_
  refine V_ifB_ne dX6_why_6 12 (by decide) (fun h6 => ?_) (fun h6 => ?_)
  · exact absurd h6 hb
  · refine V_ldc (-1000000001) dX6_why_9 cn_X6_66 ?_
    exact V_iret dX6_why_11 ⟨rfl, rfl⟩

set_option maxRecDepth 100000 in
set_option maxHeartbeats 4000000 in
theorem m_why {G : vG} {σ : vS} {d : Nat} (hd : 1 ≤ d) {L T : nT} (hC : MC L T σ) {k : Nat} (hk3 : k < 3) : Cf G yX7_why cX7_why 3 (some .int) d [.ref 97, .int (nI k)] σ (some (.int (whyV T k))) σ := by
  refine Ct.ofV (by decide) (Nat.le_of_ble_eq_true rfl) rfl ?_
  show V G RX7 cX7_why (some .int) 3 d _ 0 [some (.ref 97), some (.int (nI k)), none] [] _
  obtain ⟨d, rfl⟩ : ∃ e, d = e + 1 := ⟨d - 1, by omega⟩
  have hI := hC.2.2.1
  have hn := hI.nc
  have hm := hI.np
  have hx := hI.tx
  have hlw := hI.lw hk3
  refine V_iloadn_1 dX7_why_0 ?_
  refine V_iconst 0 dX7_why_1 (by decide) ?_
  refine V_iconst 2 dX7_why_2 (by decide) ?_
  refine V_cs3f dX7_why_3 cs_X7_82 (Nat.le_of_ble_eq_true rfl) k_M_in ?_
  refine V_ifB_ne dX7_why_6 12 (by decide) (fun h6 => ?_) (fun h6 => ?_)
  · refine V_aloadn_0 dX7_why_12 ?_
    refine V_iloadn_1 dX7_why_13 ?_
    refine V_cv1f dX7_why_14 cv_X7_100 rcM (Nat.le_of_ble_eq_true rfl) (k_M_counts hC hk3) ?_
    refine V_istoren_2 dX7_why_17 (by first | exact rfl | exact True.intro) (by decide) ?_
    refine V_iloadn_2 dX7_why_18 ?_
    refine V_if_ge dX7_why_19 27 (by decide) (fun h19 => ?_) (fun h19 => ?_)
    · refine V_iloadn_2 dX7_why_27 ?_
      exact V_iret dX7_why_28 ⟨rI (by unfold whyV; first | rw [if_neg (lw_ge h19), lw_val (lw_ge h19)] | rw [if_pos (lw_lt (by omega) h19)]), rfl⟩
    · refine V_ldc (-1000000005) dX7_why_22 cn_X7_81 ?_
      refine V_goto dX7_why_24 28 (by decide) ?_
      exact V_iret dX7_why_28 ⟨rI (by unfold whyV; first | rw [if_neg (lw_ge h19), lw_val (lw_ge h19)] | rw [if_pos (lw_lt (by omega) h19)]), rfl⟩
  · exact absurd (inN (a := 0) (b := 2) (by omega) (by omega) (by decide)) h6

set_option maxRecDepth 100000 in
set_option maxHeartbeats 4000000 in
theorem m_why_bad {G : vG} {σ : vS} {d : Nat} (hd : 1 ≤ d) {x : Int32} (hb : ¬ inI x 0 2) : Cf G yX7_why cX7_why 3 (some .int) d [.ref 97, .int x] σ (some (.int (-1000000001))) σ := by
  refine Ct.ofV (by decide) (Nat.le_of_ble_eq_true rfl) rfl ?_
  show V G RX7 cX7_why (some .int) 3 d _ 0 [some (.ref 97), some (.int x), none] [] _
  obtain ⟨d, rfl⟩ : ∃ e, d = e + 1 := ⟨d - 1, by omega⟩
  refine V_iloadn_1 dX7_why_0 ?_
  refine V_iconst 0 dX7_why_1 (by decide) ?_
  refine V_iconst 2 dX7_why_2 (by decide) ?_
  refine V_cs3f dX7_why_3 cs_X7_82 (Nat.le_of_ble_eq_true rfl) k_M_in ?_
  refine V_ifB_ne dX7_why_6 12 (by decide) (fun h6 => ?_) (fun h6 => ?_)
  · exact absurd h6 hb
  · refine V_ldc (-1000000001) dX7_why_9 cn_X7_86 ?_
    exact V_iret dX7_why_11 ⟨rfl, rfl⟩

set_option maxRecDepth 100000 in
set_option maxHeartbeats 4000000 in
theorem op_why {G : vG} {σ : vS} {d i : Nat} (hd : 100 ≤ d) (hi : i < 512) {x : Int32} (h : Inv i σ) : Op G yX6_why cX6_why 2 yX7_why cX7_why 3 d [.int x] i σ := by
  have hh := h
  obtain ⟨L, T, I, b, hT, hB, hM, hS, hO, hW, hR, hK⟩ := h
  have hC := hT.1
  have hE := hT.2.1
  have hI := hC.2.2.1
  have hn := hI.nc
  have hm := hI.np
  by_cases hx : inI x 0 2
  · obtain ⟨k, hk, rfl⟩ := (inI_iff (b := 2) (by decide)).mp hx
    exact Op.ask hh (Cf.fi (c_why (by omega) hC (by omega))) (fun σ1 f1 => Cf.fi (m_why (by omega) (hE.fi f1) (by omega)))
  · exact Op.ask hh (Cf.fi (c_why_bad (by omega) hx)) (fun σ1 f1 => Cf.fi (m_why_bad (by omega) hx))

set_option maxRecDepth 100000 in
set_option maxHeartbeats 4000000 in
theorem c_textTold {G : vG} {σ : vS} {d : Nat} (hd : 1 ≤ d) {L T : nT} {N : Nat} (hC : TC L N 61 T σ) {j w : Nat} (hj : j < T 0 15) (hw : w ≤ 1) : Cf G yX6_textTold cX6_textTold 3 (some .int) d [.ref 0, .int (nI j), .int (nI w)] σ (some (.int (nI (if w = 0 then L j 0 else L j 1)))) σ := by
  refine Ct.ofV (by decide) (Nat.le_of_ble_eq_true rfl) rfl ?_
  show V G RX6 cX6_textTold (some .int) 3 d _ 0 [some (.ref 0), some (.int (nI j)), some (.int (nI w))] [] _
  obtain ⟨d, rfl⟩ : ∃ e, d = e + 1 := ⟨d - 1, by omega⟩
  obtain ⟨ht, hH, hI, hL, hLI, hN, hN2⟩ := id hC
  have hT := hH.1
  have hn := hI.nc
  have hm := hI.np
  have hx := hI.tx
  refine V_iloadn_1 dX6_textTold_0 ?_
  refine V_iconst 0 dX6_textTold_1 (by decide) ?_
  refine V_aloadn_0 dX6_textTold_2 ?_
  refine V_getR dX6_textTold_3 fl_X6_46 oC_now ?_
  refine V_getI dX6_textTold_6 fl_X6_234 (oT_texts tw61) ?_
  refine V_topi hT.n15 ?_
  refine V_iconst 1 dX6_textTold_9 (by decide) ?_
  refine V_isub dX6_textTold_10 ?_
  refine V_cs3f dX6_textTold_11 cs_X6_108 (Nat.le_of_ble_eq_true rfl) k_C_within ?_
  refine V_ifB_eq dX6_textTold_14 26 (by decide) (fun h14 => ?_) (fun h14 => ?_)
  · exact absurd ((in_has (by omega)).mpr (hasN hj (by omega))) h14
  · refine V_iloadn_2 dX6_textTold_17 ?_
    refine V_iconst 0 dX6_textTold_18 (by decide) ?_
    refine V_iconst 1 dX6_textTold_19 (by decide) ?_
    refine V_cs3f dX6_textTold_20 cs_X6_108 (Nat.le_of_ble_eq_true rfl) k_C_within ?_
    refine V_ifB_ne dX6_textTold_23 29 (by decide) (fun h23 => ?_) (fun h23 => ?_)
    · refine V_iloadn_2 dX6_textTold_29 ?_
      refine V_ifN_ne (a := w) dX6_textTold_30 45 (by decide) (by omega) (fun h30 => ?_) (fun h30 => ?_)
      · refine V_aloadn_0 dX6_textTold_45 ?_
        refine V_getR dX6_textTold_46 fl_X6_37 oC_laws ?_
        refine V_iloadn_1 dX6_textTold_49 ?_
        refine V_aald (j := j) dX6_textTold_50 (eLaw (by omega)) (by decide) ?_
        refine V_getI dX6_textTold_51 fl_X6_251 (oW_leaves (Or.inr ⟨_, (by omega), rfl⟩)) ?_
        refine V_topi (y := nI (L j 1)) (hL j (by omega)).2.1 ?_
        exact V_iret dX6_textTold_54 ⟨rN (by first | rw [if_pos h30] | rw [if_neg h30]), rfl⟩
      · refine V_aloadn_0 dX6_textTold_33 ?_
        refine V_getR dX6_textTold_34 fl_X6_37 oC_laws ?_
        refine V_iloadn_1 dX6_textTold_37 ?_
        refine V_aald (j := j) dX6_textTold_38 (eLaw (by omega)) (by decide) ?_
        refine V_getI dX6_textTold_39 fl_X6_245 (oW_key (Or.inr ⟨_, (by omega), rfl⟩)) ?_
        refine V_topi (y := nI (L j 0)) (hL j (by omega)).1 ?_
        refine V_goto dX6_textTold_42 54 (by decide) ?_
        exact V_iret dX6_textTold_54 ⟨rN (by first | rw [if_pos h30] | rw [if_neg h30]), rfl⟩
    · exact absurd (inN (a := 0) (b := 1) (by omega) hw (by decide)) h23

set_option maxRecDepth 100000 in
set_option maxHeartbeats 4000000 in
theorem c_textTold_bad {G : vG} {σ : vS} {d : Nat} (hd : 1 ≤ d) {L T : nT} {N : Nat} (hC : TC L N 61 T σ) {x y : Int32} (hb : ¬ (hasI x (T 0 15) ∧ inI y 0 1)) : Cf G yX6_textTold cX6_textTold 3 (some .int) d [.ref 0, .int x, .int y] σ (some (.int (-1000000001))) σ := by
  refine Ct.ofV (by decide) (Nat.le_of_ble_eq_true rfl) rfl ?_
  show V G RX6 cX6_textTold (some .int) 3 d _ 0 [some (.ref 0), some (.int x), some (.int y)] [] _
  obtain ⟨d, rfl⟩ : ∃ e, d = e + 1 := ⟨d - 1, by omega⟩
  obtain ⟨ht, hH, hI, hL, hLI, hN, hN2⟩ := id hC
  have hT := hH.1
  have hn := hI.nc
  have hm := hI.np
  have hx := hI.tx
  refine V_iloadn_1 dX6_textTold_0 ?_
  refine V_iconst 0 dX6_textTold_1 (by decide) ?_
  refine V_aloadn_0 dX6_textTold_2 ?_
  refine V_getR dX6_textTold_3 fl_X6_46 oC_now ?_
  refine V_getI dX6_textTold_6 fl_X6_234 (oT_texts tw61) ?_
  refine V_topi hT.n15 ?_
  refine V_iconst 1 dX6_textTold_9 (by decide) ?_
  refine V_isub dX6_textTold_10 ?_
  refine V_cs3f dX6_textTold_11 cs_X6_108 (Nat.le_of_ble_eq_true rfl) k_C_within ?_
  refine V_ifB_eq dX6_textTold_14 26 (by decide) (fun h14 => ?_) (fun h14 => ?_)
  · refine V_ldc (-1000000001) dX6_textTold_26 cn_X6_66 ?_
    exact V_iret dX6_textTold_28 ⟨rfl, rfl⟩
  · refine V_iloadn_2 dX6_textTold_17 ?_
    refine V_iconst 0 dX6_textTold_18 (by decide) ?_
    refine V_iconst 1 dX6_textTold_19 (by decide) ?_
    refine V_cs3f dX6_textTold_20 cs_X6_108 (Nat.le_of_ble_eq_true rfl) k_C_within ?_
    refine V_ifB_ne dX6_textTold_23 29 (by decide) (fun h23 => ?_) (fun h23 => ?_)
    · exact absurd ⟨(in_has (by omega)).mp h14, h23⟩ hb
    · refine V_ldc (-1000000001) dX6_textTold_26 cn_X6_66 ?_
      exact V_iret dX6_textTold_28 ⟨rfl, rfl⟩

set_option maxRecDepth 100000 in
set_option maxHeartbeats 4000000 in
theorem m_textTold {G : vG} {σ : vS} {d : Nat} (hd : 1 ≤ d) {L T : nT} (hC : MC L T σ) {j w : Nat} (hj : j < T 0 15) (hw : w ≤ 1) : Cf G yX7_textTold cX7_textTold 3 (some .int) d [.ref 97, .int (nI j), .int (nI w)] σ (some (.int (nI (if w = 0 then L j 0 else L j 1)))) σ := by
  refine Ct.ofV (by decide) (Nat.le_of_ble_eq_true rfl) rfl ?_
  show V G RX7 cX7_textTold (some .int) 3 d _ 0 [some (.ref 97), some (.int (nI j)), some (.int (nI w))] [] _
  obtain ⟨d, rfl⟩ : ∃ e, d = e + 1 := ⟨d - 1, by omega⟩
  have hI := hC.2.2.1
  have hn := hI.nc
  have hm := hI.np
  have hx := hI.tx
  have hX := hC.2.1 j hj
  have hY := hC.2.2.2.1 j hj
  have hY2 := hY.2.2.1
  refine V_iloadn_1 dX7_textTold_0 ?_
  refine V_iconst 0 dX7_textTold_1 (by decide) ?_
  refine V_aloadn_0 dX7_textTold_2 ?_
  refine V_getR dX7_textTold_3 fl_X7_9 oM_now ?_
  refine V_bipush 6 dX7_textTold_6 (by decide) ?_
  refine V_iald (j := 6) dX7_textTold_8 aM_now (by decide) (by decide) ?_
  refine V_topi hC.1.s6 ?_
  refine V_iconst 1 dX7_textTold_9 (by decide) ?_
  refine V_isub dX7_textTold_10 ?_
  refine V_cs3f dX7_textTold_11 cs_X7_82 (Nat.le_of_ble_eq_true rfl) k_M_in ?_
  refine V_ifB_eq dX7_textTold_14 26 (by decide) (fun h14 => ?_) (fun h14 => ?_)
  · exact absurd ((in_has (by omega)).mpr (hasN hj (by omega))) h14
  · refine V_iloadn_2 dX7_textTold_17 ?_
    refine V_iconst 0 dX7_textTold_18 (by decide) ?_
    refine V_iconst 1 dX7_textTold_19 (by decide) ?_
    refine V_cs3f dX7_textTold_20 cs_X7_82 (Nat.le_of_ble_eq_true rfl) k_M_in ?_
    refine V_ifB_ne dX7_textTold_23 29 (by decide) (fun h23 => ?_) (fun h23 => ?_)
    · refine V_iloadn_2 dX7_textTold_29 ?_
      refine V_ifN_ne (a := w) dX7_textTold_30 51 (by decide) (by omega) (fun h30 => ?_) (fun h30 => ?_)
      · refine V_aloadn_0 dX7_textTold_51 ?_
        refine V_getR dX7_textTold_52 fl_X7_9 oM_now ?_
        refine V_bipush 107 dX7_textTold_55 (by decide) ?_
        refine V_iconst 2 dX7_textTold_57 (by decide) ?_
        refine V_iloadn_1 dX7_textTold_58 ?_
        refine V_imulN (a := 2) (b := j) dX7_textTold_59 ?_
        refine V_iaddN (a := 107) (b := 2 * j) dX7_textTold_60 ?_
        refine V_iconst 1 dX7_textTold_61 (by decide) ?_
        refine V_iaddN (a := 107 + (2 * j)) (b := 1) dX7_textTold_62 ?_
        refine V_iald (j := (107 + (2 * j)) + 1) dX7_textTold_63 aM_now (by omega) (by decide) ?_
        refine V_topi (y := nI (L j 1)) hX.2.1 ?_
        exact V_iret dX7_textTold_64 ⟨rN (by first | (rw [if_pos h30]; omega) | rw [if_neg h30]), rfl⟩
      · refine V_aloadn_0 dX7_textTold_33 ?_
        refine V_getR dX7_textTold_34 fl_X7_9 oM_now ?_
        refine V_bipush 107 dX7_textTold_37 (by decide) ?_
        refine V_iconst 2 dX7_textTold_39 (by decide) ?_
        refine V_iloadn_1 dX7_textTold_40 ?_
        refine V_imulN (a := 2) (b := j) dX7_textTold_41 ?_
        refine V_iaddN (a := 107) (b := 2 * j) dX7_textTold_42 ?_
        refine V_iald (j := 107 + (2 * j)) dX7_textTold_43 aM_now (by omega) (by decide) ?_
        refine V_topi (y := nI (1000 * L j 0 + L j 2)) hX.1 ?_
        refine V_sipush 1000 dX7_textTold_44 (by decide) ?_
        refine V_idivN (a := 1000 * L j 0 + L j 2) (b := 1000) dX7_textTold_47 (by omega) (by omega) (by omega) ?_
        refine V_goto dX7_textTold_48 64 (by decide) ?_
        exact V_iret dX7_textTold_64 ⟨rN (by first | (rw [if_pos h30]; omega) | rw [if_neg h30]), rfl⟩
    · exact absurd (inN (a := 0) (b := 1) (by omega) hw (by decide)) h23

set_option maxRecDepth 100000 in
set_option maxHeartbeats 4000000 in
theorem m_textTold_bad {G : vG} {σ : vS} {d : Nat} (hd : 1 ≤ d) {L T : nT} (hC : MC L T σ) {x y : Int32} (hb : ¬ (hasI x (T 0 15) ∧ inI y 0 1)) : Cf G yX7_textTold cX7_textTold 3 (some .int) d [.ref 97, .int x, .int y] σ (some (.int (-1000000001))) σ := by
  refine Ct.ofV (by decide) (Nat.le_of_ble_eq_true rfl) rfl ?_
  show V G RX7 cX7_textTold (some .int) 3 d _ 0 [some (.ref 97), some (.int x), some (.int y)] [] _
  obtain ⟨d, rfl⟩ : ∃ e, d = e + 1 := ⟨d - 1, by omega⟩
  have hI := hC.2.2.1
  have hn := hI.nc
  have hm := hI.np
  have hx := hI.tx
  refine V_iloadn_1 dX7_textTold_0 ?_
  refine V_iconst 0 dX7_textTold_1 (by decide) ?_
  refine V_aloadn_0 dX7_textTold_2 ?_
  refine V_getR dX7_textTold_3 fl_X7_9 oM_now ?_
  refine V_bipush 6 dX7_textTold_6 (by decide) ?_
  refine V_iald (j := 6) dX7_textTold_8 aM_now (by decide) (by decide) ?_
  refine V_topi hC.1.s6 ?_
  refine V_iconst 1 dX7_textTold_9 (by decide) ?_
  refine V_isub dX7_textTold_10 ?_
  refine V_cs3f dX7_textTold_11 cs_X7_82 (Nat.le_of_ble_eq_true rfl) k_M_in ?_
  refine V_ifB_eq dX7_textTold_14 26 (by decide) (fun h14 => ?_) (fun h14 => ?_)
  · refine V_ldc (-1000000001) dX7_textTold_26 cn_X7_86 ?_
    exact V_iret dX7_textTold_28 ⟨rfl, rfl⟩
  · refine V_iloadn_2 dX7_textTold_17 ?_
    refine V_iconst 0 dX7_textTold_18 (by decide) ?_
    refine V_iconst 1 dX7_textTold_19 (by decide) ?_
    refine V_cs3f dX7_textTold_20 cs_X7_82 (Nat.le_of_ble_eq_true rfl) k_M_in ?_
    refine V_ifB_ne dX7_textTold_23 29 (by decide) (fun h23 => ?_) (fun h23 => ?_)
    · exact absurd ⟨(in_has (by omega)).mp h14, h23⟩ hb
    · refine V_ldc (-1000000001) dX7_textTold_26 cn_X7_86 ?_
      exact V_iret dX7_textTold_28 ⟨rfl, rfl⟩

set_option maxRecDepth 100000 in
set_option maxHeartbeats 4000000 in
theorem op_textTold {G : vG} {σ : vS} {d i : Nat} (hd : 100 ≤ d) (hi : i < 512) {x y : Int32} (h : Inv i σ) : Op G yX6_textTold cX6_textTold 3 yX7_textTold cX7_textTold 3 d [.int x, .int y] i σ := by
  have hh := h
  obtain ⟨L, T, I, b, hT, hB, hM, hS, hO, hW, hR, hK⟩ := h
  have hC := hT.1
  have hE := hT.2.1
  have hI := hC.2.2.1
  have hn := hI.nc
  have hm := hI.np
  have hx15 := hI.tx
  by_cases hx : hasI x (T 0 15) ∧ inI y 0 1
  · obtain ⟨j, hj, rfl⟩ := (hasI_iff (by omega)).mp hx.1
    obtain ⟨w, hw, rfl⟩ := (inI_iff (b := 1) (by decide)).mp hx.2
    exact Op.ask hh (Cf.fi (c_textTold (by omega) hC hj hw)) (fun σ1 f1 => Cf.fi (m_textTold (by omega) (hE.fi f1) hj hw))
  · exact Op.ask hh (Cf.fi (c_textTold_bad (by omega) hC hx)) (fun σ1 f1 => Cf.fi (m_textTold_bad (by omega) (hE.fi f1) hx))
