/-! ===== pieces and parts, by what the yard does ===== -/
def FaQ (tp : Nat → Nat) (n ky : Nat) (x : syC) (σ' : vS) : Prop := ∃ k' c' w' t', Go (tkN tp n ky) x (2, k', c', w', t') ∧ σ' 1 6 = nI (FF tp n k') ∧ ∃ z, z ≤ 96 ∧ σ' 2 2 = nI z
theorem FaQ.pre {tp : Nat → Nat} {n ky : Nat} {x y : syC} {σ' : vS} (g : Go (tkN tp n ky) x y) (h : FaQ tp n ky y σ') : FaQ tp n ky x σ' := by
  obtain ⟨k', c', w', t', h1, h2⟩ := h
  exact ⟨k', c', w', t', g.tr h1, h2⟩
def PcO (tp : Nat → Nat) (n ky k : Nat) (c w : List Nat) (t : List Bool) (σ' : vS) : Prop := ∃ k' c', Go (tkN tp n ky) (0, k, c, w, t) (1, k', (stl 6 c' w).1, (stl 6 c' w).2, t) ∧ RS tp n k' σ' ∧ DR ky c' σ' ∧ σ' 1 6 = -1 ∧ k < k' ∧ k' ≤ FF tp n k' ∧ c'.length + w.length ≤ k'
def PtO (tp : Nat → Nat) (n ky lev k : Nat) (c w : List Nat) (t : Bool) (ts : List Bool) (σ' : vS) : Prop := ∃ k' c1 p t', Go (tkN tp n ky) (0, k, c, w, t :: ts) (1, k', c1, p ++ w, t' :: ts) ∧ (∀ s ∈ p, s ≠ 40 ∧ lev + 1 ≤ rk s) ∧ RS tp n k' σ' ∧ DR ky (c1 ++ p.map (20000 + ·)) σ' ∧ σ' 1 6 = -1 ∧ k < k' ∧ k' ≤ FF tp n k' ∧ c1.length + p.length + w.length ≤ k' ∧ (lev + 1 ≤ bkT (tkN tp n ky k') → bkT (tkN tp n ky k') = 3 ∧ t' = true) ∧ (3 ≤ lev → t' = t)
def PreP (tp : Nat → Nat) (n ky op no k : Nat) (c w : List Nat) (σ : vS) : Prop := RS tp n k σ ∧ DR ky c σ ∧ σ 1 6 = -1 ∧ k ≤ FF tp n k ∧ c.length + w.length ≤ k ∧ npW w = op ∧ nnW w = no ∧ ky ≤ 2
def PieceC (G : vG) (tp : Nat → Nat) (n ky d op no : Nat) : Prop := ∀ (σ : vS) (k : Nat) (c w : List Nat) (t : List Bool), PreP tp n ky op no k c w σ → Cr G yX2_readPiece cX2_readPiece 4 none d [.ref 1, .int (nI op), .int (nI no)] σ none (fun σ' => FPq σ σ' ∧ (FaQ tp n ky (0, k, c, w, t) σ' ∨ PcO tp n ky k c w t σ'))
def PartC (G : vG) (tp : Nat → Nat) (n ky d lev op no : Nat) : Prop := ∀ (σ : vS) (k : Nat) (c w : List Nat) (t : Bool) (ts : List Bool), PreP tp n ky op no k c w σ → topW (lev + 1) w → (lev ≤ 2 → t = false) → Cr G yX2_readPart cX2_readPart 6 none d [.ref 1, .int (nI lev), .int (nI op), .int (nI no)] σ none (fun σ' => FPq σ σ' ∧ (FaQ tp n ky (0, k, c, w, t :: ts) σ' ∨ PtO tp n ky lev k c w t ts σ'))

set_option maxRecDepth 100000 in
set_option maxHeartbeats 4000000 in
theorem p_end {G : vG} {σ : vS} {d : Nat} (hd : 8 ≤ d) {tp : Nat → Nat} {n k : Nat} (hS : RS tp n k σ) (hfa : σ 1 6 = -1) {op no : Nat} (ho : op ≤ 8) (hno : no ≤ 8) (hF : ¬ FF tp n k < n) : Cf G yX2_readPiece cX2_readPiece 4 none d [.ref 1, .int (nI op), .int (nI no)] σ none (vup σ 1 6 (nI (FF tp n k))) := by
  refine Ct.ofV (by decide) (Nat.le_of_ble_eq_true rfl) rfl ?_
  show V G RX2 cX2_readPiece none 4 d _ 0 [some (.ref 1), some (.int (nI op)), some (.int (nI no)), none] [] _
  obtain ⟨d, rfl⟩ : ∃ e, d = e + 1 := ⟨d - 1, by omega⟩
  obtain ⟨hT, h3, h14, h15⟩ := id hS
  obtain ⟨h10, hn96, hta, h256⟩ := id hT
  have hfl := FF_le (tp := tp) (n := n) (k := k)
  have hel := EE_le (tp := tp) (n := n) (k := k + 1)
  refine V_aloadn_0 dX2_readPiece_0 ?_
  refine V_cv0f dX2_readPiece_1 cv_X2_65 rcR (Nat.le_of_ble_eq_true rfl) (k_R_head hT h3 hfl) ?_
  refine V_topi (y := -1) (if_neg hF) ?_
  refine V_istoren_3 dX2_readPiece_4 (by first | exact rfl | exact True.intro) (by decide) ?_
  refine V_aloadn_0 dX2_readPiece_5 ?_
  refine V_getI dX2_readPiece_6 fl_X2_29 oR_fault ?_
  refine V_topi (y := -1) hfa ?_
  refine V_if_lt_t dX2_readPiece_9 13 (by decide) (by decide) ?_
  refine V_iloadn_3 dX2_readPiece_13 ?_
  refine V_cs1f dX2_readPiece_14 cs_X2_77 (Nat.le_of_ble_eq_true rfl) k_R_sortM ?_
  refine V_iconst 2 dX2_readPiece_17 (by decide) ?_
  refine V_icmp_ne_t dX2_readPiece_18 28 (by decide) (by decide) ?_
  refine V_iloadn_3 dX2_readPiece_28 ?_
  refine V_cs1f dX2_readPiece_29 cs_X2_77 (Nat.le_of_ble_eq_true rfl) k_R_sortM ?_
  refine V_iconst 1 dX2_readPiece_32 (by decide) ?_
  refine V_icmp_ne_t dX2_readPiece_33 43 (by decide) (by decide) ?_
  refine V_iloadn_3 dX2_readPiece_43 ?_
  refine V_bipush 33 dX2_readPiece_44 (by decide) ?_
  refine V_icmp_ne_t dX2_readPiece_46 79 (by decide) (by decide) ?_
  refine V_iloadn_3 dX2_readPiece_79 ?_
  refine V_bipush 40 dX2_readPiece_80 (by decide) ?_
  refine V_icmp_ne_t dX2_readPiece_82 111 (by decide) (by decide) ?_
  refine V_aloadn_0 dX2_readPiece_111 ?_
  refine V_aloadn_0 dX2_readPiece_112 ?_
  refine V_getI dX2_readPiece_113 fl_X2_45 oR_from ?_
  refine V_topi (y := nI (FF tp n k)) h3 ?_
  refine V_putI dX2_readPiece_116 fp_X2_29 oR_fault ?_
  exact V_vret dX2_readPiece_119 ⟨rfl, rfl⟩

set_option maxRecDepth 100000 in
set_option maxHeartbeats 4000000 in
theorem p_numB {G : vG} {σ : vS} {d : Nat} (hd : 8 ≤ d) {tp : Nat → Nat} {n k : Nat} (hS : RS tp n k σ) (hfa : σ 1 6 = -1) {op no : Nat} (ho : op ≤ 8) (hno : no ≤ 8) (hF : FF tp n k < n) (hs : srt (tp (FF tp n k)) = 2) (hb : gluP tp n k ∨ 4 < EE tp n (k + 1) - FF tp n k) : Cf G yX2_readPiece cX2_readPiece 4 none d [.ref 1, .int (nI op), .int (nI no)] σ none (vup σ 1 6 (nI (FF tp n k))) := by
  refine Ct.ofV (by decide) (Nat.le_of_ble_eq_true rfl) rfl ?_
  show V G RX2 cX2_readPiece none 4 d _ 0 [some (.ref 1), some (.int (nI op)), some (.int (nI no)), none] [] _
  obtain ⟨d, rfl⟩ : ∃ e, d = e + 1 := ⟨d - 1, by omega⟩
  obtain ⟨hT, h3, h14, h15⟩ := id hS
  obtain ⟨h10, hn96, hta, h256⟩ := id hT
  have hfl := FF_le (tp := tp) (n := n) (k := k)
  have hel := EE_le (tp := tp) (n := n) (k := k + 1)
  refine V_aloadn_0 dX2_readPiece_0 ?_
  refine V_cv0f dX2_readPiece_1 cv_X2_65 rcR (Nat.le_of_ble_eq_true rfl) (k_R_head hT h3 hfl) ?_
  refine V_topi (y := nI (tp (FF tp n k))) (if_pos hF) ?_
  refine V_istoren_3 dX2_readPiece_4 (by first | exact rfl | exact True.intro) (by decide) ?_
  refine V_aloadn_0 dX2_readPiece_5 ?_
  refine V_getI dX2_readPiece_6 fl_X2_29 oR_fault ?_
  refine V_topi (y := -1) hfa ?_
  refine V_if_lt_t dX2_readPiece_9 13 (by decide) (by decide) ?_
  refine V_iloadn_3 dX2_readPiece_13 ?_
  refine V_cs1f dX2_readPiece_14 cs_X2_77 (Nat.le_of_ble_eq_true rfl) (k_R_sort (h256 _ hF)) ?_
  refine V_topi (y := 2) (by rw [hs]; rfl) ?_
  refine V_iconst 2 dX2_readPiece_17 (by decide) ?_
  refine V_icmp_ne_f dX2_readPiece_18 28 (by decide) (by decide) ?_
  refine V_aloadn_0 dX2_readPiece_21 ?_
  refine V_cv0v dX2_readPiece_22 cv_X2_80 rcR (Nat.le_of_ble_eq_true rfl) (k_R_numBad (by omega) hS hb) ?_
  refine V_goto dX2_readPiece_25 119 (by decide) ?_
  exact V_vret dX2_readPiece_119 ⟨rfl, rfl⟩

set_option maxRecDepth 100000 in
set_option maxHeartbeats 4000000 in
theorem p_num {G : vG} {σ : vS} {d : Nat} (hd : 8 ≤ d) {tp : Nat → Nat} {n k : Nat} (hS : RS tp n k σ) (hfa : σ 1 6 = -1) {op no : Nat} (ho : op ≤ 8) (hno : no ≤ 8) (hF : FF tp n k < n) (hs : srt (tp (FF tp n k)) = 2) (hg : ¬ gluP tp n k) (hlen : EE tp n (k + 1) - FF tp n k ≤ 4) {ky : Nat} {c : List Nat} (hD : DR ky c σ) (hl : c.length < 96) : Cr G yX2_readPiece cX2_readPiece 4 none d [.ref 1, .int (nI op), .int (nI no)] σ none (fun σ' => RS tp n (k + 1) σ' ∧ DR ky (c ++ [numF tp (FF tp n k) (EE tp n (k + 1) - FF tp n k)]) σ' ∧ FPq σ σ' ∧ σ' 1 6 = σ 1 6) := by
  refine Ct.ofV (by decide) (Nat.le_of_ble_eq_true rfl) rfl ?_
  show V G RX2 cX2_readPiece none 4 d _ 0 [some (.ref 1), some (.int (nI op)), some (.int (nI no)), none] [] _
  obtain ⟨d, rfl⟩ : ∃ e, d = e + 1 := ⟨d - 1, by omega⟩
  obtain ⟨hT, h3, h14, h15⟩ := id hS
  obtain ⟨h10, hn96, hta, h256⟩ := id hT
  have hfl := FF_le (tp := tp) (n := n) (k := k)
  have hel := EE_le (tp := tp) (n := n) (k := k + 1)
  refine V_aloadn_0 dX2_readPiece_0 ?_
  refine V_cv0f dX2_readPiece_1 cv_X2_65 rcR (Nat.le_of_ble_eq_true rfl) (k_R_head hT h3 hfl) ?_
  refine V_topi (y := nI (tp (FF tp n k))) (if_pos hF) ?_
  refine V_istoren_3 dX2_readPiece_4 (by first | exact rfl | exact True.intro) (by decide) ?_
  refine V_aloadn_0 dX2_readPiece_5 ?_
  refine V_getI dX2_readPiece_6 fl_X2_29 oR_fault ?_
  refine V_topi (y := -1) hfa ?_
  refine V_if_lt_t dX2_readPiece_9 13 (by decide) (by decide) ?_
  refine V_iloadn_3 dX2_readPiece_13 ?_
  refine V_cs1f dX2_readPiece_14 cs_X2_77 (Nat.le_of_ble_eq_true rfl) (k_R_sort (h256 _ hF)) ?_
  refine V_topi (y := 2) (by rw [hs]; rfl) ?_
  refine V_iconst 2 dX2_readPiece_17 (by decide) ?_
  refine V_icmp_ne_f dX2_readPiece_18 28 (by decide) (by decide) ?_
  refine V_aloadn_0 dX2_readPiece_21 ?_
  refine V_cv0n dX2_readPiece_22 cv_X2_80 rcR (Nat.le_of_ble_eq_true rfl) (k_R_num (by omega) hS hF hs hg hlen hD hl) (fun σ1 h5 => ?_)
  refine V_goto dX2_readPiece_25 119 (by decide) ?_
  exact V_vret dX2_readPiece_119 ⟨rfl, h5⟩

theorem k_R_nameBad {G : vG} {σ : vS} {d : Nat} (hd : 7 ≤ d) {tp : Nat → Nat} {n k : Nat} (hS : RS tp n k σ) (hF : FF tp n k < n) (hs : srt (tp (FF tp n k)) = 1) {ky : Nat} (hky : σ 2 0 = nI ky) (hk2 : ky ≤ 2) (hb : gluP tp n k ∨ ¬ (EE tp n (k + 1) - FF tp n k = 1 ∧ nmN ky (tp (FF tp n k)) ≠ 0)) : Cf G yX2_readName cX2_readName 2 none d [.ref 1] σ none (vup σ 1 6 (nI (FF tp n k))) := by
  rcases (show ky = 0 ∨ ky = 1 ∨ ky = 2 by omega) with rfl | rfl | rfl
  · exact k_R_nameBad0 hd hS hF hs hky hb
  · exact k_R_nameBad1 hd hS hF hs hky hb
  · exact k_R_nameBad2 hd hS hF hs hky hb
theorem k_R_name {G : vG} {σ : vS} {d : Nat} (hd : 7 ≤ d) {tp : Nat → Nat} {n k : Nat} (hS : RS tp n k σ) (hF : FF tp n k < n) (hs : srt (tp (FF tp n k)) = 1) (hg : ¬ gluP tp n k) (h1 : EE tp n (k + 1) - FF tp n k = 1) {ky : Nat} (hnm : nmN ky (tp (FF tp n k)) ≠ 0) {c : List Nat} (hD : DR ky c σ) (hl : c.length < 96) (hk2 : ky ≤ 2) : Cr G yX2_readName cX2_readName 2 none d [.ref 1] σ none (fun σ' => RS tp n (k + 1) σ' ∧ DR ky (c ++ [10000 + (nmN ky (tp (FF tp n k)) - 1)]) σ' ∧ FPq σ σ' ∧ σ' 1 6 = σ 1 6) := by
  rcases (show ky = 0 ∨ ky = 1 ∨ ky = 2 by omega) with rfl | rfl | rfl
  · exact k_R_name0 hd hS hF hs hg h1 hnm hD hl
  · exact k_R_name1 hd hS hF hs hg h1 hnm hD hl
  · exact k_R_name2 hd hS hF hs hg h1 hnm hD hl

set_option maxRecDepth 100000 in
set_option maxHeartbeats 4000000 in
theorem p_nameB {G : vG} {σ : vS} {d : Nat} (hd : 8 ≤ d) {tp : Nat → Nat} {n k : Nat} (hS : RS tp n k σ) (hfa : σ 1 6 = -1) {op no : Nat} (ho : op ≤ 8) (hno : no ≤ 8) (hF : FF tp n k < n) (hs : srt (tp (FF tp n k)) = 1) {ky : Nat} (hky : σ 2 0 = nI ky) (hk2 : ky ≤ 2) (hb : gluP tp n k ∨ ¬ (EE tp n (k + 1) - FF tp n k = 1 ∧ nmN ky (tp (FF tp n k)) ≠ 0)) : Cf G yX2_readPiece cX2_readPiece 4 none d [.ref 1, .int (nI op), .int (nI no)] σ none (vup σ 1 6 (nI (FF tp n k))) := by
  refine Ct.ofV (by decide) (Nat.le_of_ble_eq_true rfl) rfl ?_
  show V G RX2 cX2_readPiece none 4 d _ 0 [some (.ref 1), some (.int (nI op)), some (.int (nI no)), none] [] _
  obtain ⟨d, rfl⟩ : ∃ e, d = e + 1 := ⟨d - 1, by omega⟩
  obtain ⟨hT, h3, h14, h15⟩ := id hS
  obtain ⟨h10, hn96, hta, h256⟩ := id hT
  have hfl := FF_le (tp := tp) (n := n) (k := k)
  have hel := EE_le (tp := tp) (n := n) (k := k + 1)
  refine V_aloadn_0 dX2_readPiece_0 ?_
  refine V_cv0f dX2_readPiece_1 cv_X2_65 rcR (Nat.le_of_ble_eq_true rfl) (k_R_head hT h3 hfl) ?_
  refine V_topi (y := nI (tp (FF tp n k))) (if_pos hF) ?_
  refine V_istoren_3 dX2_readPiece_4 (by first | exact rfl | exact True.intro) (by decide) ?_
  refine V_aloadn_0 dX2_readPiece_5 ?_
  refine V_getI dX2_readPiece_6 fl_X2_29 oR_fault ?_
  refine V_topi (y := -1) hfa ?_
  refine V_if_lt_t dX2_readPiece_9 13 (by decide) (by decide) ?_
  refine V_iloadn_3 dX2_readPiece_13 ?_
  refine V_cs1f dX2_readPiece_14 cs_X2_77 (Nat.le_of_ble_eq_true rfl) (k_R_sort (h256 _ hF)) ?_
  refine V_topi (y := 1) (by rw [hs]; rfl) ?_
  refine V_iconst 2 dX2_readPiece_17 (by decide) ?_
  refine V_icmp_ne_t dX2_readPiece_18 28 (by decide) (by decide) ?_
  refine V_iloadn_3 dX2_readPiece_28 ?_
  refine V_cs1f dX2_readPiece_29 cs_X2_77 (Nat.le_of_ble_eq_true rfl) (k_R_sort (h256 _ hF)) ?_
  refine V_topi (y := 1) (by rw [hs]; rfl) ?_
  refine V_iconst 1 dX2_readPiece_32 (by decide) ?_
  refine V_icmp_ne_f dX2_readPiece_33 43 (by decide) (by decide) ?_
  refine V_aloadn_0 dX2_readPiece_36 ?_
  refine V_cv0v dX2_readPiece_37 cv_X2_83 rcR (Nat.le_of_ble_eq_true rfl) (k_R_nameBad (by omega) hS hF hs hky hk2 hb) ?_
  refine V_goto dX2_readPiece_40 119 (by decide) ?_
  exact V_vret dX2_readPiece_119 ⟨rfl, rfl⟩

set_option maxRecDepth 100000 in
set_option maxHeartbeats 4000000 in
theorem p_name {G : vG} {σ : vS} {d : Nat} (hd : 8 ≤ d) {tp : Nat → Nat} {n k : Nat} (hS : RS tp n k σ) (hfa : σ 1 6 = -1) {op no : Nat} (ho : op ≤ 8) (hno : no ≤ 8) (hF : FF tp n k < n) (hs : srt (tp (FF tp n k)) = 1) (hg : ¬ gluP tp n k) (h1 : EE tp n (k + 1) - FF tp n k = 1) {ky : Nat} (hnm : nmN ky (tp (FF tp n k)) ≠ 0) {c : List Nat} (hD : DR ky c σ) (hl : c.length < 96) (hk2 : ky ≤ 2) : Cr G yX2_readPiece cX2_readPiece 4 none d [.ref 1, .int (nI op), .int (nI no)] σ none (fun σ' => RS tp n (k + 1) σ' ∧ DR ky (c ++ [10000 + (nmN ky (tp (FF tp n k)) - 1)]) σ' ∧ FPq σ σ' ∧ σ' 1 6 = σ 1 6) := by
  refine Ct.ofV (by decide) (Nat.le_of_ble_eq_true rfl) rfl ?_
  show V G RX2 cX2_readPiece none 4 d _ 0 [some (.ref 1), some (.int (nI op)), some (.int (nI no)), none] [] _
  obtain ⟨d, rfl⟩ : ∃ e, d = e + 1 := ⟨d - 1, by omega⟩
  obtain ⟨hT, h3, h14, h15⟩ := id hS
  obtain ⟨h10, hn96, hta, h256⟩ := id hT
  have hfl := FF_le (tp := tp) (n := n) (k := k)
  have hel := EE_le (tp := tp) (n := n) (k := k + 1)
  refine V_aloadn_0 dX2_readPiece_0 ?_
  refine V_cv0f dX2_readPiece_1 cv_X2_65 rcR (Nat.le_of_ble_eq_true rfl) (k_R_head hT h3 hfl) ?_
  refine V_topi (y := nI (tp (FF tp n k))) (if_pos hF) ?_
  refine V_istoren_3 dX2_readPiece_4 (by first | exact rfl | exact True.intro) (by decide) ?_
  refine V_aloadn_0 dX2_readPiece_5 ?_
  refine V_getI dX2_readPiece_6 fl_X2_29 oR_fault ?_
  refine V_topi (y := -1) hfa ?_
  refine V_if_lt_t dX2_readPiece_9 13 (by decide) (by decide) ?_
  refine V_iloadn_3 dX2_readPiece_13 ?_
  refine V_cs1f dX2_readPiece_14 cs_X2_77 (Nat.le_of_ble_eq_true rfl) (k_R_sort (h256 _ hF)) ?_
  refine V_topi (y := 1) (by rw [hs]; rfl) ?_
  refine V_iconst 2 dX2_readPiece_17 (by decide) ?_
  refine V_icmp_ne_t dX2_readPiece_18 28 (by decide) (by decide) ?_
  refine V_iloadn_3 dX2_readPiece_28 ?_
  refine V_cs1f dX2_readPiece_29 cs_X2_77 (Nat.le_of_ble_eq_true rfl) (k_R_sort (h256 _ hF)) ?_
  refine V_topi (y := 1) (by rw [hs]; rfl) ?_
  refine V_iconst 1 dX2_readPiece_32 (by decide) ?_
  refine V_icmp_ne_f dX2_readPiece_33 43 (by decide) (by decide) ?_
  refine V_aloadn_0 dX2_readPiece_36 ?_
  refine V_cv0n dX2_readPiece_37 cv_X2_83 rcR (Nat.le_of_ble_eq_true rfl) (k_R_name (by omega) hS hF hs hg h1 hnm hD hl hk2) (fun σ1 h5 => ?_)
  refine V_goto dX2_readPiece_40 119 (by decide) ?_
  exact V_vret dX2_readPiece_119 ⟨rfl, h5⟩

set_option maxRecDepth 100000 in
set_option maxHeartbeats 4000000 in
theorem p_bad {G : vG} {σ : vS} {d : Nat} (hd : 8 ≤ d) {tp : Nat → Nat} {n k : Nat} (hS : RS tp n k σ) (hfa : σ 1 6 = -1) {op no : Nat} (ho : op ≤ 8) (hno : no ≤ 8) (hF : FF tp n k < n) (hs : srt (tp (FF tp n k)) = 0) (hb1 : ¬ (tp (FF tp n k) = 33 ∧ no < 8)) (hb2 : ¬ (tp (FF tp n k) = 40 ∧ op < 8)) : Cf G yX2_readPiece cX2_readPiece 4 none d [.ref 1, .int (nI op), .int (nI no)] σ none (vup σ 1 6 (nI (FF tp n k))) := by
  refine Ct.ofV (by decide) (Nat.le_of_ble_eq_true rfl) rfl ?_
  show V G RX2 cX2_readPiece none 4 d _ 0 [some (.ref 1), some (.int (nI op)), some (.int (nI no)), none] [] _
  obtain ⟨d, rfl⟩ : ∃ e, d = e + 1 := ⟨d - 1, by omega⟩
  obtain ⟨hT, h3, h14, h15⟩ := id hS
  obtain ⟨h10, hn96, hta, h256⟩ := id hT
  have hfl := FF_le (tp := tp) (n := n) (k := k)
  have hel := EE_le (tp := tp) (n := n) (k := k + 1)
  have hb := h256 _ hF
  refine V_aloadn_0 dX2_readPiece_0 ?_
  refine V_cv0f dX2_readPiece_1 cv_X2_65 rcR (Nat.le_of_ble_eq_true rfl) (k_R_head hT h3 hfl) ?_
  refine V_topi (y := nI (tp (FF tp n k))) (if_pos hF) ?_
  refine V_istoren_3 dX2_readPiece_4 (by first | exact rfl | exact True.intro) (by decide) ?_
  refine V_aloadn_0 dX2_readPiece_5 ?_
  refine V_getI dX2_readPiece_6 fl_X2_29 oR_fault ?_
  refine V_topi (y := -1) hfa ?_
  refine V_if_lt_t dX2_readPiece_9 13 (by decide) (by decide) ?_
  refine V_iloadn_3 dX2_readPiece_13 ?_
  refine V_cs1f dX2_readPiece_14 cs_X2_77 (Nat.le_of_ble_eq_true rfl) (k_R_sort (h256 _ hF)) ?_
  refine V_topi (y := 0) (by rw [hs]; rfl) ?_
  refine V_iconst 2 dX2_readPiece_17 (by decide) ?_
  refine V_icmp_ne_t dX2_readPiece_18 28 (by decide) (by decide) ?_
  refine V_iloadn_3 dX2_readPiece_28 ?_
  refine V_cs1f dX2_readPiece_29 cs_X2_77 (Nat.le_of_ble_eq_true rfl) (k_R_sort (h256 _ hF)) ?_
  refine V_topi (y := 0) (by rw [hs]; rfl) ?_
  refine V_iconst 1 dX2_readPiece_32 (by decide) ?_
  refine V_icmp_ne_t dX2_readPiece_33 43 (by decide) (by decide) ?_
  refine V_iloadn_3 dX2_readPiece_43 ?_
  refine V_bipush 33 dX2_readPiece_44 (by decide) ?_
  refine V_icmpN_ne (a := tp (FF tp n k)) (b := 33) dX2_readPiece_46 79 (by decide) (by omega) (by omega) (fun h46 => ?_) (fun h46 => ?_)
  · refine V_iloadn_3 dX2_readPiece_79 ?_
    refine V_bipush 40 dX2_readPiece_80 (by decide) ?_
    refine V_icmpN_ne (a := tp (FF tp n k)) (b := 40) dX2_readPiece_82 111 (by decide) (by omega) (by omega) (fun h82 => ?_) (fun h82 => ?_)
    · refine V_aloadn_0 dX2_readPiece_111 ?_
      refine V_aloadn_0 dX2_readPiece_112 ?_
      refine V_getI dX2_readPiece_113 fl_X2_45 oR_from ?_
      refine V_topi (y := nI (FF tp n k)) h3 ?_
      refine V_putI dX2_readPiece_116 fp_X2_29 oR_fault ?_
      exact V_vret dX2_readPiece_119 ⟨rfl, rfl⟩
    · refine V_iloadn_1 dX2_readPiece_85 ?_
      refine V_bipush 8 dX2_readPiece_86 (by decide) ?_
      refine V_icmpN_ge (a := op) (b := 8) dX2_readPiece_88 111 (by decide) (by omega) (by omega) (fun h88 => ?_) (fun h88 => ?_)
      · refine V_aloadn_0 dX2_readPiece_111 ?_
        refine V_aloadn_0 dX2_readPiece_112 ?_
        refine V_getI dX2_readPiece_113 fl_X2_45 oR_from ?_
        refine V_topi (y := nI (FF tp n k)) h3 ?_
        refine V_putI dX2_readPiece_116 fp_X2_29 oR_fault ?_
        exact V_vret dX2_readPiece_119 ⟨rfl, rfl⟩
      · exact absurd ⟨h82, h88⟩ hb2
  · refine V_iloadn_2 dX2_readPiece_49 ?_
    refine V_bipush 8 dX2_readPiece_50 (by decide) ?_
    refine V_icmpN_ge (a := no) (b := 8) dX2_readPiece_52 79 (by decide) (by omega) (by omega) (fun h52 => ?_) (fun h52 => ?_)
    · refine V_iloadn_3 dX2_readPiece_79 ?_
      refine V_bipush 40 dX2_readPiece_80 (by decide) ?_
      refine V_icmpN_ne (a := tp (FF tp n k)) (b := 40) dX2_readPiece_82 111 (by decide) (by omega) (by omega) (fun h82 => ?_) (fun h82 => ?_)
      · refine V_aloadn_0 dX2_readPiece_111 ?_
        refine V_aloadn_0 dX2_readPiece_112 ?_
        refine V_getI dX2_readPiece_113 fl_X2_45 oR_from ?_
        refine V_topi (y := nI (FF tp n k)) h3 ?_
        refine V_putI dX2_readPiece_116 fp_X2_29 oR_fault ?_
        exact V_vret dX2_readPiece_119 ⟨rfl, rfl⟩
      · refine V_iloadn_1 dX2_readPiece_85 ?_
        refine V_bipush 8 dX2_readPiece_86 (by decide) ?_
        refine V_icmpN_ge (a := op) (b := 8) dX2_readPiece_88 111 (by decide) (by omega) (by omega) (fun h88 => ?_) (fun h88 => ?_)
        · refine V_aloadn_0 dX2_readPiece_111 ?_
          refine V_aloadn_0 dX2_readPiece_112 ?_
          refine V_getI dX2_readPiece_113 fl_X2_45 oR_from ?_
          refine V_topi (y := nI (FF tp n k)) h3 ?_
          refine V_putI dX2_readPiece_116 fp_X2_29 oR_fault ?_
          exact V_vret dX2_readPiece_119 ⟨rfl, rfl⟩
        · exact absurd ⟨h82, h88⟩ hb2
    · exact absurd ⟨h46, h52⟩ hb1

set_option maxRecDepth 100000 in
set_option maxHeartbeats 4000000 in
theorem t_not_F {G : vG} {d : Nat} {Q : Option Value → vS → Prop} {σ : vS} (hd : 8 ≤ d + 1) {op no z : Nat} (hz : σ 2 2 = nI z) (h96 : z ≤ 96) (kont : ∀ σ', FW σ σ' → (∃ y, y ≤ 96 ∧ σ' 2 2 = nI y) → Q none σ') : V G RX2 cX2_readPiece none 4 (d + 1) Q 67 [some (.ref 1), some (.int (nI op)), some (.int (nI no)), some (.int 33)] [] σ := by
  refine V_aloadn_0 dX2_readPiece_67 ?_
  refine V_getR dX2_readPiece_68 fl_X2_12 oR_draft ?_
  refine V_bipush 33 dX2_readPiece_71 (by decide) ?_
  refine V_cv1n dX2_readPiece_73 cv_X2_73 (rcW (Or.inl rfl)) (Nat.le_of_ble_eq_true rfl) (k_W_addSignF (by omega) hz h96) (fun σ' h5 => ?_)
  refine V_goto dX2_readPiece_76 119 (by decide) ?_
  exact V_vret dX2_readPiece_119 (kont _ h5.1 h5.2)

set_option maxRecDepth 100000 in
set_option maxHeartbeats 4000000 in
theorem t_not_O {G : vG} {d : Nat} {Q : Option Value → vS → Prop} {σ : vS} (hd : 8 ≤ d + 1) {op no ky : Nat} {c : List Nat} (hD : DR ky c σ) (hl : c.length < 96) (kont : ∀ σ', DR ky (c ++ [20000 + 33]) σ' → FW σ σ' → Q none σ') : V G RX2 cX2_readPiece none 4 (d + 1) Q 67 [some (.ref 1), some (.int (nI op)), some (.int (nI no)), some (.int 33)] [] σ := by
  refine V_aloadn_0 dX2_readPiece_67 ?_
  refine V_getR dX2_readPiece_68 fl_X2_12 oR_draft ?_
  refine V_bipush 33 dX2_readPiece_71 (by decide) ?_
  refine V_cv1n dX2_readPiece_73 cv_X2_73 (rcW (Or.inl rfl)) (Nat.le_of_ble_eq_true rfl) (k_W_addSign (s := 33) (by omega) hD hl (by decide)) (fun σ' h5 => ?_)
  refine V_goto dX2_readPiece_76 119 (by decide) ?_
  exact V_vret dX2_readPiece_119 (kont _ h5.1 h5.2)

set_option maxRecDepth 100000 in
set_option maxHeartbeats 4000000 in
theorem t_open_F {G : vG} {d : Nat} {Q : Option Value → vS → Prop} {σ : vS} (hd : 8 ≤ d + 1) {op no x : Nat} (hfa : σ 1 6 = nI x) (hx : x ≤ 96) (kont : Q none σ) : V G RX2 cX2_readPiece none 4 (d + 1) Q 104 [some (.ref 1), some (.int (nI op)), some (.int (nI no)), some (.int 40)] [] σ := by
  refine V_aloadn_0 dX2_readPiece_104 ?_
  refine V_cv0v dX2_readPiece_105 cv_X2_86 rcR (Nat.le_of_ble_eq_true rfl) (k_R_closeF (by omega) hfa hx) ?_
  refine V_goto dX2_readPiece_108 119 (by decide) ?_
  exact V_vret dX2_readPiece_119 (kont)

set_option maxRecDepth 100000 in
set_option maxHeartbeats 4000000 in
theorem t_open_Y {G : vG} {d : Nat} {Q : Option Value → vS → Prop} {σ : vS} (hd : 8 ≤ d + 1) {op no : Nat} {tp : Nat → Nat} {n k : Nat} (hS : RS tp n k σ) (hfa : σ 1 6 = -1) (hF : FF tp n k < n) (hc : tp (FF tp n k) = 41) (kont : Q none (stS σ (FF tp n (k + 1)) (bI (gluP tp n (k + 1))) (EE tp n (k + 1 + 1)))) : V G RX2 cX2_readPiece none 4 (d + 1) Q 104 [some (.ref 1), some (.int (nI op)), some (.int (nI no)), some (.int 40)] [] σ := by
  refine V_aloadn_0 dX2_readPiece_104 ?_
  refine V_cv0v dX2_readPiece_105 cv_X2_86 rcR (Nat.le_of_ble_eq_true rfl) (k_R_closeY (by omega) hS hfa hF hc) ?_
  refine V_goto dX2_readPiece_108 119 (by decide) ?_
  exact V_vret dX2_readPiece_119 (kont)

theorem k_R_closeNE {G : vG} {σ : vS} {d : Nat} (hd : 3 ≤ d) {tp : Nat → Nat} {n k : Nat} (hS : RS tp n k σ) (hfa : σ 1 6 = -1) (hc : ¬ (FF tp n k < n ∧ tp (FF tp n k) = 41)) : Cf G yX2_readClosing cX2_readClosing 1 none d [.ref 1] σ none (vup σ 1 6 (nI (FF tp n k))) := by
  by_cases hF : FF tp n k < n
  · exact k_R_closeN hd hS hfa hF (fun q => hc ⟨hF, q⟩)
  · exact k_R_closeE hd hS hfa hF

set_option maxRecDepth 100000 in
set_option maxHeartbeats 4000000 in
theorem t_open_N {G : vG} {d : Nat} {Q : Option Value → vS → Prop} {σ : vS} (hd : 8 ≤ d + 1) {op no : Nat} {tp : Nat → Nat} {n k : Nat} (hS : RS tp n k σ) (hfa : σ 1 6 = -1) (hc : ¬ (FF tp n k < n ∧ tp (FF tp n k) = 41)) (kont : Q none (vup σ 1 6 (nI (FF tp n k)))) : V G RX2 cX2_readPiece none 4 (d + 1) Q 104 [some (.ref 1), some (.int (nI op)), some (.int (nI no)), some (.int 40)] [] σ := by
  refine V_aloadn_0 dX2_readPiece_104 ?_
  refine V_cv0v dX2_readPiece_105 cv_X2_86 rcR (Nat.le_of_ble_eq_true rfl) (k_R_closeNE (by omega) hS hfa hc) ?_
  refine V_goto dX2_readPiece_108 119 (by decide) ?_
  exact V_vret dX2_readPiece_119 (kont)

theorem np_40 {w : List Nat} : npW (40 :: w) = npW w + 1 := by simp [npW]
theorem np_ne {s : Nat} {w : List Nat} (h : s ≠ 40) : npW (s :: w) = npW w := by simp [npW, h]
theorem nn_33 {w : List Nat} : nnW (33 :: w) = nnW w + 1 := by simp [nnW]
theorem nn_ne {s : Nat} {w : List Nat} (h : s ≠ 33) : nnW (s :: w) = nnW w := by simp [nnW, h]

set_option maxRecDepth 100000 in
set_option maxHeartbeats 4000000 in
theorem p_not {G : vG} {σ : vS} {d : Nat} (hd : 8 ≤ d) {tp : Nat → Nat} {n ky k : Nat} {c w : List Nat} {t : List Bool} {op no : Nat} (ho : op ≤ 8) (hno : no ≤ 8) (hpre : PreP tp n ky op no k c w σ) (hF : FF tp n k < n) (hb : tp (FF tp n k) = 33) (h8 : no < 8) (hC : PieceC G tp n ky (d - 1) op (no + 1)) : Cr G yX2_readPiece cX2_readPiece 4 none d [.ref 1, .int (nI op), .int (nI no)] σ none (fun σ' => FPq σ σ' ∧ (FaQ tp n ky (0, k, c, w, t) σ' ∨ PcO tp n ky k c w t σ')) := by
  refine Ct.ofV (by decide) (Nat.le_of_ble_eq_true rfl) rfl ?_
  show V G RX2 cX2_readPiece none 4 d _ 0 [some (.ref 1), some (.int (nI op)), some (.int (nI no)), none] [] _
  obtain ⟨d, rfl⟩ : ∃ e, d = e + 1 := ⟨d - 1, by omega⟩
  obtain ⟨hS, hD, hfa, hkF, hlen, hop, hnn, hk2⟩ := id hpre
  obtain ⟨hT, h3, h14, h15⟩ := id hS
  obtain ⟨h10, hn96, hta, h256⟩ := id hT
  have hfl := FF_le (tp := tp) (n := n) (k := k)
  have hel := EE_le (tp := tp) (n := n) (k := k + 1)
  have hs : srt (tp (FF tp n k)) = 0 := by rw [hb]; rfl
  have hk1 : k + 1 ≤ FF tp n (k + 1) := FF_up hkF hF
  refine V_aloadn_0 dX2_readPiece_0 ?_
  refine V_cv0f dX2_readPiece_1 cv_X2_65 rcR (Nat.le_of_ble_eq_true rfl) (k_R_head hT h3 hfl) ?_
  refine V_topi (y := 33) (by unfold hdI; rw [if_pos hF, hb]; rfl) ?_
  refine V_istoren_3 dX2_readPiece_4 (by first | exact rfl | exact True.intro) (by decide) ?_
  refine V_aloadn_0 dX2_readPiece_5 ?_
  refine V_getI dX2_readPiece_6 fl_X2_29 oR_fault ?_
  refine V_topi (y := -1) hfa ?_
  refine V_if_lt_t dX2_readPiece_9 13 (by decide) (by decide) ?_
  refine V_iloadn_3 dX2_readPiece_13 ?_
  refine V_cs1f dX2_readPiece_14 cs_X2_77 (Nat.le_of_ble_eq_true rfl) (k_R_sort (b := 33) (by decide)) ?_
  refine V_topi (y := 0) (by decide) ?_
  refine V_iconst 2 dX2_readPiece_17 (by decide) ?_
  refine V_icmp_ne_t dX2_readPiece_18 28 (by decide) (by decide) ?_
  refine V_iloadn_3 dX2_readPiece_28 ?_
  refine V_cs1f dX2_readPiece_29 cs_X2_77 (Nat.le_of_ble_eq_true rfl) (k_R_sort (b := 33) (by decide)) ?_
  refine V_topi (y := 0) (by decide) ?_
  refine V_iconst 1 dX2_readPiece_32 (by decide) ?_
  refine V_icmp_ne_t dX2_readPiece_33 43 (by decide) (by decide) ?_
  refine V_iloadn_3 dX2_readPiece_43 ?_
  refine V_bipush 33 dX2_readPiece_44 (by decide) ?_
  refine V_icmp_ne_f dX2_readPiece_46 79 (by decide) (by decide) ?_
  refine V_iloadn_2 dX2_readPiece_49 ?_
  refine V_bipush 8 dX2_readPiece_50 (by decide) ?_
  refine V_icmpN_ge (a := no) (b := 8) dX2_readPiece_52 79 (by decide) (by omega) (by omega) (fun h52 => ?_) (fun h52 => ?_)
  · exfalso; omega
  · refine V_aloadn_0 dX2_readPiece_55 ?_
    refine V_cv0v dX2_readPiece_56 cv_X2_35 rcR (Nat.le_of_ble_eq_true rfl) (k_R_step (k := k + 1) (by omega) hT h14) ?_
    have hpre1 : PreP tp n ky op (no + 1) (k + 1) c (33 :: w) (stS σ (FF tp n (k + 1)) (bI (gluP tp n (k + 1))) (EE tp n (k + 1 + 1))) := ⟨RS.mk hT, hD.st, by rw [stS_1 (by decide) (by decide) (by decide)]; exact hfa, hk1, by simp only [List.length_cons]; omega, by rw [np_ne (by decide)]; exact hop, by rw [nn_33, hnn], hk2⟩
    refine V_aloadn_0 dX2_readPiece_59 ?_
    refine V_iloadn_1 dX2_readPiece_60 ?_
    refine V_iloadn_2 dX2_readPiece_61 ?_
    refine V_iconst 1 dX2_readPiece_62 (by decide) ?_
    refine V_iaddN (a := no) (b := 1) dX2_readPiece_63 ?_
    refine V_cv2n dX2_readPiece_64 cv_X2_61 rcR (Nat.le_of_ble_eq_true rfl) (hC _ _ _ _ t hpre1) (fun σ1 h5 => ?_)
    obtain ⟨f5, h5⟩ := h5
    have hfp := (FPq.st (σ := σ)).tr f5
    have g1 : Go (tkN tp n ky) (0, k, c, w, t) (0, k + 1, c, 33 :: w, t) := Go.one (sy_not (by rw [tk_sign hF hs, hb]) (by rw [hnn]; exact h8))
    rcases h5 with h5 | h5
    · obtain ⟨k', c', w', t', y1, y2, z, z96, y3⟩ := h5
      exact t_not_F (by omega) y3 z96 (fun σ' e1 e2 => ⟨rfl, hfp.tr e1.q, Or.inl ⟨k', c', w', t', g1.tr y1, by rw [e1 1 (by decide) (by decide)]; exact y2, e2⟩⟩)
    · obtain ⟨k', c', y1, y2, y3, y4, y5, y6, y7⟩ := h5
      have hfl2 := FF_le (tp := tp) (n := n) (k := k')
      simp only [List.length_cons] at y7
      refine t_not_O (by omega) y3 (by omega) (fun σ' e1 e2 => ⟨rfl, hfp.tr e2.q, Or.inr ⟨k', c' ++ [20000 + 33], ?_, y2.fw e2, e1, by rw [e2 1 (by decide) (by decide)]; exact y4, by omega, y6, by simp only [List.length_append, List.length_cons, List.length_nil]; omega⟩⟩)
      rw [stl_y ⟨by decide, by decide⟩] at y1
      exact g1.tr y1

set_option maxRecDepth 100000 in
set_option maxHeartbeats 4000000 in
theorem p_open {G : vG} {σ : vS} {d : Nat} (hd : 8 ≤ d) {tp : Nat → Nat} {n ky k : Nat} {c w : List Nat} {t : List Bool} {op no : Nat} (ho : op ≤ 8) (hno : no ≤ 8) (hpre : PreP tp n ky op no k c w σ) (hF : FF tp n k < n) (hb : tp (FF tp n k) = 40) (h8 : op < 8) (hP : PartC G tp n ky (d - 1) 0 (op + 1) no) : Cr G yX2_readPiece cX2_readPiece 4 none d [.ref 1, .int (nI op), .int (nI no)] σ none (fun σ' => FPq σ σ' ∧ (FaQ tp n ky (0, k, c, w, t) σ' ∨ PcO tp n ky k c w t σ')) := by
  refine Ct.ofV (by decide) (Nat.le_of_ble_eq_true rfl) rfl ?_
  show V G RX2 cX2_readPiece none 4 d _ 0 [some (.ref 1), some (.int (nI op)), some (.int (nI no)), none] [] _
  obtain ⟨d, rfl⟩ : ∃ e, d = e + 1 := ⟨d - 1, by omega⟩
  obtain ⟨hS, hD, hfa, hkF, hlen, hop, hnn, hk2⟩ := id hpre
  obtain ⟨hT, h3, h14, h15⟩ := id hS
  obtain ⟨h10, hn96, hta, h256⟩ := id hT
  have hfl := FF_le (tp := tp) (n := n) (k := k)
  have hel := EE_le (tp := tp) (n := n) (k := k + 1)
  have hs : srt (tp (FF tp n k)) = 0 := by rw [hb]; rfl
  have hk1 : k + 1 ≤ FF tp n (k + 1) := FF_up hkF hF
  refine V_aloadn_0 dX2_readPiece_0 ?_
  refine V_cv0f dX2_readPiece_1 cv_X2_65 rcR (Nat.le_of_ble_eq_true rfl) (k_R_head hT h3 hfl) ?_
  refine V_topi (y := 40) (by unfold hdI; rw [if_pos hF, hb]; rfl) ?_
  refine V_istoren_3 dX2_readPiece_4 (by first | exact rfl | exact True.intro) (by decide) ?_
  refine V_aloadn_0 dX2_readPiece_5 ?_
  refine V_getI dX2_readPiece_6 fl_X2_29 oR_fault ?_
  refine V_topi (y := -1) hfa ?_
  refine V_if_lt_t dX2_readPiece_9 13 (by decide) (by decide) ?_
  refine V_iloadn_3 dX2_readPiece_13 ?_
  refine V_cs1f dX2_readPiece_14 cs_X2_77 (Nat.le_of_ble_eq_true rfl) (k_R_sort (b := 40) (by decide)) ?_
  refine V_topi (y := 0) (by decide) ?_
  refine V_iconst 2 dX2_readPiece_17 (by decide) ?_
  refine V_icmp_ne_t dX2_readPiece_18 28 (by decide) (by decide) ?_
  refine V_iloadn_3 dX2_readPiece_28 ?_
  refine V_cs1f dX2_readPiece_29 cs_X2_77 (Nat.le_of_ble_eq_true rfl) (k_R_sort (b := 40) (by decide)) ?_
  refine V_topi (y := 0) (by decide) ?_
  refine V_iconst 1 dX2_readPiece_32 (by decide) ?_
  refine V_icmp_ne_t dX2_readPiece_33 43 (by decide) (by decide) ?_
  refine V_iloadn_3 dX2_readPiece_43 ?_
  refine V_bipush 33 dX2_readPiece_44 (by decide) ?_
  refine V_icmp_ne_t dX2_readPiece_46 79 (by decide) (by decide) ?_
  refine V_iloadn_3 dX2_readPiece_79 ?_
  refine V_bipush 40 dX2_readPiece_80 (by decide) ?_
  refine V_icmp_ne_f dX2_readPiece_82 111 (by decide) (by decide) ?_
  refine V_iloadn_1 dX2_readPiece_85 ?_
  refine V_bipush 8 dX2_readPiece_86 (by decide) ?_
  refine V_icmpN_ge (a := op) (b := 8) dX2_readPiece_88 111 (by decide) (by omega) (by omega) (fun h88 => ?_) (fun h88 => ?_)
  · exfalso; omega
  · refine V_aloadn_0 dX2_readPiece_91 ?_
    refine V_cv0v dX2_readPiece_92 cv_X2_35 rcR (Nat.le_of_ble_eq_true rfl) (k_R_step (k := k + 1) (by omega) hT h14) ?_
    have hpre1 : PreP tp n ky (op + 1) no (k + 1) c (40 :: w) (stS σ (FF tp n (k + 1)) (bI (gluP tp n (k + 1))) (EE tp n (k + 1 + 1))) := ⟨RS.mk hT, hD.st, by rw [stS_1 (by decide) (by decide) (by decide)]; exact hfa, hk1, by simp only [List.length_cons]; omega, by rw [np_40, hop], by rw [nn_ne (by decide)]; exact hnn, hk2⟩
    refine V_aloadn_0 dX2_readPiece_95 ?_
    refine V_iconst 0 dX2_readPiece_96 (by decide) ?_
    refine V_iloadn_1 dX2_readPiece_97 ?_
    refine V_iconst 1 dX2_readPiece_98 (by decide) ?_
    refine V_iaddN (a := op) (b := 1) dX2_readPiece_99 ?_
    refine V_iloadn_2 dX2_readPiece_100 ?_
    refine V_cv3n dX2_readPiece_101 cv_X2_41 rcR (Nat.le_of_ble_eq_true rfl) (hP _ _ _ _ false t hpre1 (fun s u e => Or.inl (by cases e; rfl)) (fun _ => rfl)) (fun σ1 h5 => ?_)
    obtain ⟨f5, h5⟩ := h5
    have hfp := (FPq.st (σ := σ)).tr f5
    have g1 : Go (tkN tp n ky) (0, k, c, w, t) (0, k + 1, c, 40 :: w, false :: t) := Go.one (sy_open (by rw [tk_sign hF hs, hb]) (by rw [hop]; exact h8))
    rcases h5 with h5 | h5
    · obtain ⟨k', c', w', t', y1, y2, y3⟩ := h5
      have hfl2 := FF_le (tp := tp) (n := n) (k := k')
      exact t_open_F (by omega) y2 (by omega) ⟨rfl, hfp, Or.inl ⟨k', c', w', t', g1.tr y1, y2, y3⟩⟩
    · obtain ⟨k', c1, p, t', y1, yp, y2, y3, y4, y5, y6, y7, y8, -⟩ := h5
      have hfl2 := FF_le (tp := tp) (n := n) (k := k')
      simp only [List.length_cons] at y7
      have hnp : 0 < npW (p ++ 40 :: w) := by simp [npW]; omega
      by_cases hc : FF tp n k' < n ∧ tp (FF tp n k') = 41
      · have htk : tkN tp n ky k' = 20041 := by rw [tk_sign hc.1 (by rw [hc.2]; rfl), hc.2]
        have est : stl 0 c1 (p ++ 40 :: w) = (c1 ++ p.map (20000 + ·), 40 :: w) := stl_all (fun s hs => ⟨(yp s hs).1, Nat.zero_le _⟩) (fun s u e => Or.inl (by cases e; rfl))
        have g2 := sy_close (tk := tkN tp n ky) (c := c1) (w := p ++ 40 :: w) (t := t' :: t) htk hnp
        rw [est] at g2
        refine t_open_Y (by omega) y2 y4 hc.1 hc.2 ⟨rfl, hfp.tr FPq.st, Or.inr ⟨k' + 1, c1 ++ p.map (20000 + ·), (g1.tr y1).tr (Go.one g2), RS.mk y2.1, y3.st, by rw [stS_1 (by decide) (by decide) (by decide)]; exact y4, by omega, FF_up y6 hc.1, by simp only [List.length_append, List.length_map]; omega⟩⟩
      · refine t_open_N (by omega) y2 y4 hc ⟨rfl, hfp.tr FPq.fa, Or.inl ⟨k', c1, p ++ 40 :: w, t' :: t, (g1.tr y1).tr (Go.one (sy_hbad ?_ ?_ ?_)), vup_same, (c1 ++ p.map (20000 + ·)).length, by simp only [List.length_append, List.length_map]; omega, by rw [vup_p (by decide)]; exact y3.2.2.1⟩⟩
        · intro q; omega
        · intro q
          apply hc
          by_cases h1 : FF tp n k' < n
          · refine ⟨h1, ?_⟩
            by_cases h2 : srt (tp (FF tp n k')) = 0
            · have := q.1; rw [tk_sign h1 h2] at this; omega
            · rcases tk_word (ky := ky) h1 h2 with e | e
              · have := q.1; omega
              · have := q.1; omega
          · have := q.1; rw [tk_end h1] at this; omega
        · intro q
          have e := y8 (by have := q.1; omega)
          exact q.2 ⟨e.1, by rw [e.2]; rfl⟩

theorem piece_step {G : vG} {tp : Nat → Nat} {n ky d op no : Nat} (hd : 8 ≤ d) (ho : op ≤ 8) (hno : no ≤ 8) (hP : op < 8 → PartC G tp n ky (d - 1) 0 (op + 1) no) (hC : no < 8 → PieceC G tp n ky (d - 1) op (no + 1)) : PieceC G tp n ky d op no := by
  intro σ k c w t hpre
  obtain ⟨hS, hD, hfa, hkF, hlen, hop, hnn, hk2⟩ := id hpre
  have hfl := FF_le (tp := tp) (n := n) (k := k)
  have hn96 := hS.1.2.1
  have fault : tkN tp n ky k ≠ 40000 ∨ True → ¬ (tkN tp n ky k = 20033 ∧ nnW w < 8) → ¬ (tkN tp n ky k = 20040 ∧ npW w < 8) → ¬ tkN tp n ky k < 20000 → FPq σ (vup σ 1 6 (nI (FF tp n k))) ∧ (FaQ tp n ky (0, k, c, w, t) (vup σ 1 6 (nI (FF tp n k))) ∨ PcO tp n ky k c w t (vup σ 1 6 (nI (FF tp n k)))) := fun _ a b e =>
    ⟨FPq.fa, Or.inl ⟨k, c, w, t, Go.one (sy_wbad a b e), vup_same, c.length, by omega, by rw [vup_p (by decide)]; exact hD.2.2.1⟩⟩
  by_cases hF : FF tp n k < n
  · have hsl := srt_le (b := tp (FF tp n k))
    have leaf : ∀ (v : Nat) (σ' : vS), tkN tp n ky k = v → v < 20000 → RS tp n (k + 1) σ' ∧ DR ky (c ++ [v]) σ' ∧ FPq σ σ' ∧ σ' 1 6 = σ 1 6 → FPq σ σ' ∧ (FaQ tp n ky (0, k, c, w, t) σ' ∨ PcO tp n ky k c w t σ') := fun v σ' ev hv h =>
      ⟨h.2.2.1, Or.inr ⟨k + 1, c ++ [v], Go.one (by have := sy_leaf (tk := tkN tp n ky) (k := k) (c := c) (w := w) (t := t) (by omega); rw [ev] at this; exact this), h.1, h.2.1, by rw [h.2.2.2]; exact hfa, by omega, FF_up hkF hF, by simp only [List.length_append, List.length_cons, List.length_nil]; omega⟩⟩
    rcases (show srt (tp (FF tp n k)) = 0 ∨ srt (tp (FF tp n k)) = 1 ∨ srt (tp (FF tp n k)) = 2 by omega) with hs | hs | hs
    · have htk := tk_sign (ky := ky) hF hs
      by_cases h1 : tp (FF tp n k) = 33 ∧ no < 8
      · exact p_not hd ho hno hpre hF h1.1 h1.2 (hC h1.2)
      · by_cases h2 : tp (FF tp n k) = 40 ∧ op < 8
        · exact p_open hd ho hno hpre hF h2.1 h2.2 (hP h2.2)
        · exact Ct.mono (fun r σ' q => ⟨q.1, by rw [q.2]; exact fault (Or.inr trivial) (fun q => h1 ⟨by omega, by omega⟩) (fun q => h2 ⟨by omega, by omega⟩) (by omega)⟩) (p_bad hd hS hfa ho hno hF hs h1 h2)
    · by_cases hb : gluP tp n k ∨ ¬ (EE tp n (k + 1) - FF tp n k = 1 ∧ nmN ky (tp (FF tp n k)) ≠ 0)
      · have htk := tk_nameB (ky := ky) hF hs hb
        exact Ct.mono (fun r σ' q => ⟨q.1, by rw [q.2]; exact fault (Or.inr trivial) (fun q => by omega) (fun q => by omega) (by omega)⟩) (p_nameB hd hS hfa ho hno hF hs hD.1 hk2 hb)
      · have hb2 : ¬ gluP tp n k := fun q => hb (Or.inl q)
        have hb3 : EE tp n (k + 1) - FF tp n k = 1 ∧ nmN ky (tp (FF tp n k)) ≠ 0 := Classical.byContradiction (fun q => hb (Or.inr q))
        have hnl := nm_le (ky := ky) (b := tp (FF tp n k))
        exact Ct.mono (fun r σ' q => ⟨q.1, leaf _ _ (tk_name hF hs hb2 hb3.1 hb3.2) (by omega) q.2⟩) (p_name hd hS hfa ho hno hF hs hb2 hb3.1 hb3.2 hD (by omega) hk2)
    · by_cases hb : gluP tp n k ∨ 4 < EE tp n (k + 1) - FF tp n k
      · have htk := tk_numB (ky := ky) hF hs hb
        exact Ct.mono (fun r σ' q => ⟨q.1, by rw [q.2]; exact fault (Or.inr trivial) (fun q => by omega) (fun q => by omega) (by omega)⟩) (p_numB hd hS hfa ho hno hF hs hb)
      · have hb2 : ¬ gluP tp n k := fun q => hb (Or.inl q)
        have hb3 : EE tp n (k + 1) - FF tp n k ≤ 4 := Nat.le_of_not_lt (fun q => hb (Or.inr q))
        have hnl := tk_num_lt hF hs hb3
        exact Ct.mono (fun r σ' q => ⟨q.1, leaf _ _ (tk_num hF hs hb2 hb3) (by omega) q.2⟩) (p_num hd hS hfa ho hno hF hs hb2 hb3 hD (by omega))
  · have htk := tk_end (ky := ky) hF
    exact Ct.mono (fun r σ' q => ⟨q.1, by rw [q.2]; exact fault (Or.inr trivial) (fun q => by omega) (fun q => by omega) (by omega)⟩) (p_end hd hS hfa ho hno hF)
