set_option maxRecDepth 100000 in
set_option maxHeartbeats 4000000 in
theorem pf_piece {G : vG} {σ : vS} {d : Nat} (hd : 8 ≤ d) {tp : Nat → Nat} {n F x : Nat} (hT : RT tp n σ) (h3 : σ 1 3 = nI F) (hF : F ≤ n) (hfa : σ 1 6 = nI x) (hx : x ≤ 96) : Cf G yX2_readPiece cX2_readPiece 4 none d [.ref 1, .int 0, .int 0] σ none σ := by
  refine Ct.ofV (by decide) (Nat.le_of_ble_eq_true rfl) rfl ?_
  show V G RX2 cX2_readPiece none 4 d _ 0 [some (.ref 1), some (.int 0), some (.int 0), none] [] _
  obtain ⟨d, rfl⟩ : ∃ e, d = e + 1 := ⟨d - 1, by omega⟩
  obtain ⟨h10, hn96, hta, h256⟩ := id hT
  refine V_aloadn_0 dX2_readPiece_0 ?_
  refine V_cv0f dX2_readPiece_1 cv_X2_65 rcR (Nat.le_of_ble_eq_true rfl) (k_R_head hT h3 hF) ?_
  refine V_istoren_3 dX2_readPiece_4 (by first | exact rfl | exact True.intro) (by decide) ?_
  refine V_aloadn_0 dX2_readPiece_5 ?_
  refine V_getI dX2_readPiece_6 fl_X2_29 oR_fault ?_
  refine V_topi (y := nI x) hfa ?_
  refine V_ifN_lt (a := x) dX2_readPiece_9 13 (by decide) (by omega) ?_
  exact V_vret dX2_readPiece_12 ⟨rfl, rfl⟩

set_option maxRecDepth 100000 in
set_option maxHeartbeats 4000000 in
theorem pf_5 {G : vG} {σ : vS} {d : Nat} (hd : 9 ≤ d) {tp : Nat → Nat} {n F x : Nat} (hT : RT tp n σ) (h3 : σ 1 3 = nI F) (hF : F ≤ n) (hfa : σ 1 6 = nI x) (hx : x ≤ 96) : Cf G yX2_readPart cX2_readPart 6 none d [.ref 1, .int 5, .int 0, .int 0] σ none σ := by
  refine Ct.ofV (by decide) (Nat.le_of_ble_eq_true rfl) rfl ?_
  show V G RX2 cX2_readPart none 6 d _ 0 [some (.ref 1), some (.int 5), some (.int 0), some (.int 0), none, none] [] _
  obtain ⟨d, rfl⟩ : ∃ e, d = e + 1 := ⟨d - 1, by omega⟩
  obtain ⟨h10, hn96, hta, h256⟩ := id hT
  refine V_iloadn_1 dX2_readPart_0 ?_
  refine V_iconst 5 dX2_readPart_1 (by decide) ?_
  refine V_icmp_lt_f dX2_readPart_2 12 (by decide) (by decide) ?_
  refine V_aloadn_0 dX2_readPart_5 ?_
  refine V_iloadn_2 dX2_readPart_6 ?_
  refine V_iloadn_3 dX2_readPart_7 ?_
  refine V_cv2v dX2_readPart_8 cv_X2_61 rcR (Nat.le_of_ble_eq_true rfl) (pf_piece (by omega) hT h3 hF hfa hx) ?_
  exact V_vret dX2_readPart_11 ⟨rfl, rfl⟩

set_option maxRecDepth 100000 in
set_option maxHeartbeats 4000000 in
theorem pf_4 {G : vG} {σ : vS} {d : Nat} (hd : 10 ≤ d) {tp : Nat → Nat} {n F x : Nat} (hT : RT tp n σ) (h3 : σ 1 3 = nI F) (hF : F ≤ n) (hfa : σ 1 6 = nI x) (hx : x ≤ 96) : Cf G yX2_readPart cX2_readPart 6 none d [.ref 1, .int 4, .int 0, .int 0] σ none σ := by
  refine Ct.ofV (by decide) (Nat.le_of_ble_eq_true rfl) rfl ?_
  show V G RX2 cX2_readPart none 6 d _ 0 [some (.ref 1), some (.int 4), some (.int 0), some (.int 0), none, none] [] _
  obtain ⟨d, rfl⟩ : ∃ e, d = e + 1 := ⟨d - 1, by omega⟩
  obtain ⟨h10, hn96, hta, h256⟩ := id hT
  refine V_iloadn_1 dX2_readPart_0 ?_
  refine V_iconst 5 dX2_readPart_1 (by decide) ?_
  refine V_icmp_lt_t dX2_readPart_2 12 (by decide) (by decide) ?_
  refine V_aloadn_0 dX2_readPart_12 ?_
  refine V_iloadn_1 dX2_readPart_13 ?_
  refine V_iconst 1 dX2_readPart_14 (by decide) ?_
  refine V_iadd dX2_readPart_15 ?_
  refine V_topi (y := 5) (by decide) ?_
  refine V_iloadn_2 dX2_readPart_16 ?_
  refine V_iloadn_3 dX2_readPart_17 ?_
  refine V_cv3v dX2_readPart_18 cv_X2_41 rcR (Nat.le_of_ble_eq_true rfl) (pf_5 (by omega) hT h3 hF hfa hx) ?_
  refine V_iconst 0 dX2_readPart_21 (by decide) ?_
  refine V_istore_4 dX2_readPart_22 (by first | exact rfl | exact True.intro) (by decide) ?_
  refine V_iload_4 dX2_readPart_24 ?_
  refine V_bipush 96 dX2_readPart_26 (by decide) ?_
  refine V_icmp_ge_f dX2_readPart_28 89 (by decide) (by decide) ?_
  refine V_aloadn_0 dX2_readPart_31 ?_
  refine V_getI dX2_readPart_32 fl_X2_29 oR_fault ?_
  refine V_topi (y := nI x) hfa ?_
  refine V_ifN_ge (a := x) dX2_readPart_35 89 (by decide) (by omega) ?_
  exact V_vret dX2_readPart_89 ⟨rfl, rfl⟩

set_option maxRecDepth 100000 in
set_option maxHeartbeats 4000000 in
theorem pf_3 {G : vG} {σ : vS} {d : Nat} (hd : 11 ≤ d) {tp : Nat → Nat} {n F x : Nat} (hT : RT tp n σ) (h3 : σ 1 3 = nI F) (hF : F ≤ n) (hfa : σ 1 6 = nI x) (hx : x ≤ 96) : Cf G yX2_readPart cX2_readPart 6 none d [.ref 1, .int 3, .int 0, .int 0] σ none σ := by
  refine Ct.ofV (by decide) (Nat.le_of_ble_eq_true rfl) rfl ?_
  show V G RX2 cX2_readPart none 6 d _ 0 [some (.ref 1), some (.int 3), some (.int 0), some (.int 0), none, none] [] _
  obtain ⟨d, rfl⟩ : ∃ e, d = e + 1 := ⟨d - 1, by omega⟩
  obtain ⟨h10, hn96, hta, h256⟩ := id hT
  refine V_iloadn_1 dX2_readPart_0 ?_
  refine V_iconst 5 dX2_readPart_1 (by decide) ?_
  refine V_icmp_lt_t dX2_readPart_2 12 (by decide) (by decide) ?_
  refine V_aloadn_0 dX2_readPart_12 ?_
  refine V_iloadn_1 dX2_readPart_13 ?_
  refine V_iconst 1 dX2_readPart_14 (by decide) ?_
  refine V_iadd dX2_readPart_15 ?_
  refine V_topi (y := 4) (by decide) ?_
  refine V_iloadn_2 dX2_readPart_16 ?_
  refine V_iloadn_3 dX2_readPart_17 ?_
  refine V_cv3v dX2_readPart_18 cv_X2_41 rcR (Nat.le_of_ble_eq_true rfl) (pf_4 (by omega) hT h3 hF hfa hx) ?_
  refine V_iconst 0 dX2_readPart_21 (by decide) ?_
  refine V_istore_4 dX2_readPart_22 (by first | exact rfl | exact True.intro) (by decide) ?_
  refine V_iload_4 dX2_readPart_24 ?_
  refine V_bipush 96 dX2_readPart_26 (by decide) ?_
  refine V_icmp_ge_f dX2_readPart_28 89 (by decide) (by decide) ?_
  refine V_aloadn_0 dX2_readPart_31 ?_
  refine V_getI dX2_readPart_32 fl_X2_29 oR_fault ?_
  refine V_topi (y := nI x) hfa ?_
  refine V_ifN_ge (a := x) dX2_readPart_35 89 (by decide) (by omega) ?_
  exact V_vret dX2_readPart_89 ⟨rfl, rfl⟩

set_option maxRecDepth 100000 in
set_option maxHeartbeats 4000000 in
theorem pf_2 {G : vG} {σ : vS} {d : Nat} (hd : 12 ≤ d) {tp : Nat → Nat} {n F x : Nat} (hT : RT tp n σ) (h3 : σ 1 3 = nI F) (hF : F ≤ n) (hfa : σ 1 6 = nI x) (hx : x ≤ 96) : Cf G yX2_readPart cX2_readPart 6 none d [.ref 1, .int 2, .int 0, .int 0] σ none σ := by
  refine Ct.ofV (by decide) (Nat.le_of_ble_eq_true rfl) rfl ?_
  show V G RX2 cX2_readPart none 6 d _ 0 [some (.ref 1), some (.int 2), some (.int 0), some (.int 0), none, none] [] _
  obtain ⟨d, rfl⟩ : ∃ e, d = e + 1 := ⟨d - 1, by omega⟩
  obtain ⟨h10, hn96, hta, h256⟩ := id hT
  refine V_iloadn_1 dX2_readPart_0 ?_
  refine V_iconst 5 dX2_readPart_1 (by decide) ?_
  refine V_icmp_lt_t dX2_readPart_2 12 (by decide) (by decide) ?_
  refine V_aloadn_0 dX2_readPart_12 ?_
  refine V_iloadn_1 dX2_readPart_13 ?_
  refine V_iconst 1 dX2_readPart_14 (by decide) ?_
  refine V_iadd dX2_readPart_15 ?_
  refine V_topi (y := 3) (by decide) ?_
  refine V_iloadn_2 dX2_readPart_16 ?_
  refine V_iloadn_3 dX2_readPart_17 ?_
  refine V_cv3v dX2_readPart_18 cv_X2_41 rcR (Nat.le_of_ble_eq_true rfl) (pf_3 (by omega) hT h3 hF hfa hx) ?_
  refine V_iconst 0 dX2_readPart_21 (by decide) ?_
  refine V_istore_4 dX2_readPart_22 (by first | exact rfl | exact True.intro) (by decide) ?_
  refine V_iload_4 dX2_readPart_24 ?_
  refine V_bipush 96 dX2_readPart_26 (by decide) ?_
  refine V_icmp_ge_f dX2_readPart_28 89 (by decide) (by decide) ?_
  refine V_aloadn_0 dX2_readPart_31 ?_
  refine V_getI dX2_readPart_32 fl_X2_29 oR_fault ?_
  refine V_topi (y := nI x) hfa ?_
  refine V_ifN_ge (a := x) dX2_readPart_35 89 (by decide) (by omega) ?_
  exact V_vret dX2_readPart_89 ⟨rfl, rfl⟩

set_option maxRecDepth 100000 in
set_option maxHeartbeats 4000000 in
theorem pf_1 {G : vG} {σ : vS} {d : Nat} (hd : 13 ≤ d) {tp : Nat → Nat} {n F x : Nat} (hT : RT tp n σ) (h3 : σ 1 3 = nI F) (hF : F ≤ n) (hfa : σ 1 6 = nI x) (hx : x ≤ 96) : Cf G yX2_readPart cX2_readPart 6 none d [.ref 1, .int 1, .int 0, .int 0] σ none σ := by
  refine Ct.ofV (by decide) (Nat.le_of_ble_eq_true rfl) rfl ?_
  show V G RX2 cX2_readPart none 6 d _ 0 [some (.ref 1), some (.int 1), some (.int 0), some (.int 0), none, none] [] _
  obtain ⟨d, rfl⟩ : ∃ e, d = e + 1 := ⟨d - 1, by omega⟩
  obtain ⟨h10, hn96, hta, h256⟩ := id hT
  refine V_iloadn_1 dX2_readPart_0 ?_
  refine V_iconst 5 dX2_readPart_1 (by decide) ?_
  refine V_icmp_lt_t dX2_readPart_2 12 (by decide) (by decide) ?_
  refine V_aloadn_0 dX2_readPart_12 ?_
  refine V_iloadn_1 dX2_readPart_13 ?_
  refine V_iconst 1 dX2_readPart_14 (by decide) ?_
  refine V_iadd dX2_readPart_15 ?_
  refine V_topi (y := 2) (by decide) ?_
  refine V_iloadn_2 dX2_readPart_16 ?_
  refine V_iloadn_3 dX2_readPart_17 ?_
  refine V_cv3v dX2_readPart_18 cv_X2_41 rcR (Nat.le_of_ble_eq_true rfl) (pf_2 (by omega) hT h3 hF hfa hx) ?_
  refine V_iconst 0 dX2_readPart_21 (by decide) ?_
  refine V_istore_4 dX2_readPart_22 (by first | exact rfl | exact True.intro) (by decide) ?_
  refine V_iload_4 dX2_readPart_24 ?_
  refine V_bipush 96 dX2_readPart_26 (by decide) ?_
  refine V_icmp_ge_f dX2_readPart_28 89 (by decide) (by decide) ?_
  refine V_aloadn_0 dX2_readPart_31 ?_
  refine V_getI dX2_readPart_32 fl_X2_29 oR_fault ?_
  refine V_topi (y := nI x) hfa ?_
  refine V_ifN_ge (a := x) dX2_readPart_35 89 (by decide) (by omega) ?_
  exact V_vret dX2_readPart_89 ⟨rfl, rfl⟩

set_option maxRecDepth 100000 in
set_option maxHeartbeats 4000000 in
theorem pf_0 {G : vG} {σ : vS} {d : Nat} (hd : 14 ≤ d) {tp : Nat → Nat} {n F x : Nat} (hT : RT tp n σ) (h3 : σ 1 3 = nI F) (hF : F ≤ n) (hfa : σ 1 6 = nI x) (hx : x ≤ 96) : Cf G yX2_readPart cX2_readPart 6 none d [.ref 1, .int 0, .int 0, .int 0] σ none σ := by
  refine Ct.ofV (by decide) (Nat.le_of_ble_eq_true rfl) rfl ?_
  show V G RX2 cX2_readPart none 6 d _ 0 [some (.ref 1), some (.int 0), some (.int 0), some (.int 0), none, none] [] _
  obtain ⟨d, rfl⟩ : ∃ e, d = e + 1 := ⟨d - 1, by omega⟩
  obtain ⟨h10, hn96, hta, h256⟩ := id hT
  refine V_iloadn_1 dX2_readPart_0 ?_
  refine V_iconst 5 dX2_readPart_1 (by decide) ?_
  refine V_icmp_lt_t dX2_readPart_2 12 (by decide) (by decide) ?_
  refine V_aloadn_0 dX2_readPart_12 ?_
  refine V_iloadn_1 dX2_readPart_13 ?_
  refine V_iconst 1 dX2_readPart_14 (by decide) ?_
  refine V_iadd dX2_readPart_15 ?_
  refine V_topi (y := 1) (by decide) ?_
  refine V_iloadn_2 dX2_readPart_16 ?_
  refine V_iloadn_3 dX2_readPart_17 ?_
  refine V_cv3v dX2_readPart_18 cv_X2_41 rcR (Nat.le_of_ble_eq_true rfl) (pf_1 (by omega) hT h3 hF hfa hx) ?_
  refine V_iconst 0 dX2_readPart_21 (by decide) ?_
  refine V_istore_4 dX2_readPart_22 (by first | exact rfl | exact True.intro) (by decide) ?_
  refine V_iload_4 dX2_readPart_24 ?_
  refine V_bipush 96 dX2_readPart_26 (by decide) ?_
  refine V_icmp_ge_f dX2_readPart_28 89 (by decide) (by decide) ?_
  refine V_aloadn_0 dX2_readPart_31 ?_
  refine V_getI dX2_readPart_32 fl_X2_29 oR_fault ?_
  refine V_topi (y := nI x) hfa ?_
  refine V_ifN_ge (a := x) dX2_readPart_35 89 (by decide) (by omega) ?_
  exact V_vret dX2_readPart_89 ⟨rfl, rfl⟩

set_option maxRecDepth 100000 in
set_option maxHeartbeats 4000000 in
theorem k_W_clear {G : vG} {σ : vS} {d : Nat}  : Cf G yX1_clear cX1_clear 1 none d [.ref 2] σ none (vup (vup (vup σ 2 0 0) 2 1 0) 2 2 0) := by
  refine Ct.ofV (by decide) (Nat.le_of_ble_eq_true rfl) rfl ?_
  show V G RX1 cX1_clear none 1 d _ 0 [some (.ref 2)] [] _
  refine V_aloadn_0 dX1_clear_0 ?_
  refine V_iconst 0 dX1_clear_1 (by decide) ?_
  refine V_putI dX1_clear_2 fp_X1_15 (oW_key (Or.inl rfl)) ?_
  refine V_aloadn_0 dX1_clear_5 ?_
  refine V_iconst 0 dX1_clear_6 (by decide) ?_
  refine V_putI dX1_clear_7 fp_X1_19 (oW_leaves (Or.inl rfl)) ?_
  refine V_aloadn_0 dX1_clear_10 ?_
  refine V_iconst 0 dX1_clear_11 (by decide) ?_
  refine V_putI dX1_clear_12 fp_X1_22 (oW_size (Or.inl rfl)) ?_
  exact V_vret dX1_clear_15 ⟨rfl, rfl⟩

/-! ===== what a tape reads as ===== -/
def kyN (tp : Nat → Nat) (n : Nat) : Nat := if kw0 tp (FF tp n 0) (EE tp n (0 + 1)) then 0 else if kw1 tp (FF tp n 0) (EE tp n (0 + 1)) then 1 else if kw2 tp (FF tp n 0) (EE tp n (0 + 1)) then 2 else 3
def ParF (tp : Nat → Nat) (n f : Nat) : Prop := (kyN tp n = 3 ∧ f = FF tp n 0) ∨ (kyN tp n < 3 ∧ ∃ k' c' w' t', Go (tkN tp n (kyN tp n)) (0, 0 + 1, [], [], [false]) (2, k', c', w', t') ∧ f = FF tp n k')
def ParO (tp : Nat → Nat) (n : Nat) (c : List Nat) : Prop := kyN tp n < 3 ∧ ∃ k' w' t', Go (tkN tp n (kyN tp n)) (0, 0 + 1, [], [], [false]) (3, k', c, w', t')
def RdQ (tp : Nat → Nat) (n : Nat) (r : Option Value) (σ' : vS) : Prop := (∃ f, r = some (.int (nI f)) ∧ f ≤ 96 ∧ ParF tp n f) ∨ ∃ c, r = some (.int (-1)) ∧ ParO tp n c ∧ DR (kyN tp n) c σ' ∧ c.length ≤ 96

set_option maxRecDepth 100000 in
set_option maxHeartbeats 4000000 in
theorem t_read_F {G : vG} {d : Nat} {σ0 σ : vS} {tp : Nat → Nat} {n : Nat} (hd : 85 ≤ d + 1) (hfp : FPq σ0 σ) {x : Nat} (hfa : σ 1 6 = nI x) (hx : x ≤ 96) (hp : ParF tp n x) : V G RX2 cX2_read (some .int) 1 (d + 1) (fun r' σ' => FPq σ0 σ' ∧ RdQ tp n r' σ') 32 [some (.ref 1)] [] σ := by
  refine V_aloadn_0 dX2_read_32 ?_
  refine V_getI dX2_read_33 fl_X2_29 oR_fault ?_
  refine V_topi (y := nI x) hfa ?_
  refine V_ifN_ge (a := x) dX2_read_36 58 (by decide) (by omega) ?_
  refine V_aloadn_0 dX2_read_58 ?_
  refine V_getI dX2_read_59 fl_X2_29 oR_fault ?_
  refine V_topi (y := nI x) hfa ?_
  exact V_iret dX2_read_62 ⟨hfp, Or.inl ⟨x, rfl, hx, hp⟩⟩

set_option maxRecDepth 100000 in
set_option maxHeartbeats 4000000 in
theorem t_read_O {G : vG} {d : Nat} {σ0 σ : vS} {tp : Nat → Nat} {n : Nat} (hd : 85 ≤ d + 1) (hfp : FPq σ0 σ) {k : Nat} {c : List Nat} (hS : RS tp n k σ) (hD : DR (kyN tp n) c σ) (hl : c.length ≤ 96) (hfa : σ 1 6 = -1) (h1 : FF tp n k < n → ParF tp n (FF tp n k)) (h2 : ¬ FF tp n k < n → ParO tp n c) : V G RX2 cX2_read (some .int) 1 (d + 1) (fun r' σ' => FPq σ0 σ' ∧ RdQ tp n r' σ') 32 [some (.ref 1)] [] σ := by
  obtain ⟨hT, h3, h14, h15⟩ := id hS
  obtain ⟨h10, hn96, hta, h256⟩ := id hT
  have hfl := FF_le (tp := tp) (n := n) (k := k)
  have hel := EE_le (tp := tp) (n := n) (k := k + 1)
  refine V_aloadn_0 dX2_read_32 ?_
  refine V_getI dX2_read_33 fl_X2_29 oR_fault ?_
  refine V_topi (y := -1) hfa ?_
  refine V_if_ge_f dX2_read_36 58 (by decide) (by decide) ?_
  refine V_aloadn_0 dX2_read_39 ?_
  refine V_getI dX2_read_40 fl_X2_45 oR_from ?_
  refine V_topi (y := nI (FF tp n k)) h3 ?_
  refine V_aloadn_0 dX2_read_43 ?_
  refine V_getI dX2_read_44 fl_X2_22 oR_length ?_
  refine V_topi (y := nI n) h10 ?_
  refine V_icmpN_ge (a := FF tp n k) (b := n) dX2_read_47 58 (by decide) (by omega) (by omega) (fun h47 => ?_) (fun h47 => ?_)
  · refine V_aloadn_0 dX2_read_58 ?_
    refine V_getI dX2_read_59 fl_X2_29 oR_fault ?_
    refine V_topi (y := -1) hfa ?_
    exact V_iret dX2_read_62 ⟨hfp, Or.inr ⟨c, rfl, h2 (by omega), hD, hl⟩⟩
  · refine V_aloadn_0 dX2_read_50 ?_
    refine V_aloadn_0 dX2_read_51 ?_
    refine V_getI dX2_read_52 fl_X2_45 oR_from ?_
    refine V_topi (y := nI (FF tp n k)) h3 ?_
    refine V_putI dX2_read_55 fp_X2_29 oR_fault ?_
    refine V_aloadn_0 dX2_read_58 ?_
    refine V_getI dX2_read_59 fl_X2_29 oR_fault ?_
    refine V_topi (y := nI (FF tp n k)) vup_same ?_
    exact V_iret dX2_read_62 ⟨hfp.tr FPq.fa, Or.inl ⟨_, rfl, by omega, h1 h47⟩⟩

set_option maxRecDepth 100000 in
set_option maxHeartbeats 4000000 in
theorem t_read_N {G : vG} {d : Nat} {σ0 σ : vS} {tp : Nat → Nat} {n : Nat} (hd : 85 ≤ d + 1) (hfp : FPq σ0 σ) (hS : RS tp n 0 σ) (hfa : σ 1 6 = -1) (h0 : kyN tp n = 3) (g0 : ¬ kw0 tp (FF tp n 0) (EE tp n (0 + 1))) (g1 : ¬ kw1 tp (FF tp n 0) (EE tp n (0 + 1))) (g2 : ¬ kw2 tp (FF tp n 0) (EE tp n (0 + 1))) : V G RX2 cX2_read (some .int) 1 (d + 1) (fun r' σ' => FPq σ0 σ' ∧ RdQ tp n r' σ') 21 [some (.ref 1)] [] σ := by
  obtain ⟨hT, h3, h14, h15⟩ := id hS
  obtain ⟨h10, hn96, hta, h256⟩ := id hT
  have hfl := FF_le (tp := tp) (n := n) (k := 0)
  have hel := EE_le (tp := tp) (n := n) (k := 0 + 1)
  refine V_aloadn_0 dX2_read_21 ?_
  refine V_cv0v dX2_read_22 cv_X2_38 rcR (Nat.le_of_ble_eq_true rfl) (k_R_readKeyN (by omega) hS g0 g1 g2) ?_
  refine V_aloadn_0 dX2_read_25 ?_
  refine V_iconst 0 dX2_read_26 (by decide) ?_
  refine V_iconst 0 dX2_read_27 (by decide) ?_
  refine V_iconst 0 dX2_read_28 (by decide) ?_
  refine V_cv3v dX2_read_29 cv_X2_41 rcR (Nat.le_of_ble_eq_true rfl) (pf_0 (x := FF tp n 0) (by omega) (hT.fp FPq.fa) (by rw [vup_ne (by omega)]; exact h3) hfl vup_same (by omega)) ?_
  exact t_read_F (by omega) (hfp.tr FPq.fa) vup_same (by omega) (Or.inl ⟨h0, rfl⟩)

set_option maxRecDepth 100000 in
set_option maxHeartbeats 4000000 in
theorem t_read_0 {G : vG} {d : Nat} {σ0 σ : vS} {tp : Nat → Nat} {n : Nat} (hd : 85 ≤ d + 1) (hfp : FPq σ0 σ) (hS : RS tp n 0 σ) (hD : DR 0 [] σ) (hfa : σ 1 6 = -1) (h0 : kyN tp n = 0) (hF0 : FF tp n 0 < n)  (g0 : kw0 tp (FF tp n 0) (EE tp n (0 + 1))) : V G RX2 cX2_read (some .int) 1 (d + 1) (fun r' σ' => FPq σ0 σ' ∧ RdQ tp n r' σ') 21 [some (.ref 1)] [] σ := by
  obtain ⟨hT, h3, h14, h15⟩ := id hS
  obtain ⟨h10, hn96, hta, h256⟩ := id hT
  have hfl := FF_le (tp := tp) (n := n) (k := 0)
  have hel := EE_le (tp := tp) (n := n) (k := 0 + 1)
  refine V_aloadn_0 dX2_read_21 ?_
  refine V_cv0v dX2_read_22 cv_X2_38 rcR (Nat.le_of_ble_eq_true rfl) (k_R_readKey0 (by omega) hS g0) ?_
  have hT1 : RT tp n (vup σ 2 0 0) := hT.of (by rw [vup_p (by decide)]) (vup_p (by decide))
  have hf1 : FPq σ (stS (vup σ 2 0 0) (FF tp n (0 + 1)) (bI (gluP tp n (0 + 1))) (EE tp n (0 + 1 + 1))) := ⟨fun q a b c => by rw [stS_p a, vup_p b], by rw [stS_1 (by decide) (by decide) (by decide), vup_p (by decide)]⟩
  have hpre : PreP tp n 0 0 0 (0 + 1) [] [] (stS (vup σ 2 0 0) (FF tp n (0 + 1)) (bI (gluP tp n (0 + 1))) (EE tp n (0 + 1 + 1))) := ⟨RS.mk hT1, ⟨by rw [stS_p (by decide), vup_same]; rfl, by rw [stS_p (by decide), vup_ne (by omega)]; exact hD.2.1, by rw [stS_p (by decide), vup_ne (by omega)]; exact hD.2.2.1, fun i hi => absurd hi (Nat.not_lt_zero i)⟩, by rw [stS_1 (by decide) (by decide) (by decide), vup_p (by decide)]; exact hfa, by have := FF_s hF0; omega, by decide, rfl, rfl, by decide⟩
  refine V_aloadn_0 dX2_read_25 ?_
  refine V_iconst 0 dX2_read_26 (by decide) ?_
  refine V_iconst 0 dX2_read_27 (by decide) ?_
  refine V_iconst 0 dX2_read_28 (by decide) ?_
  refine V_cv3n dX2_read_29 cv_X2_41 rcR (Nat.le_of_ble_eq_true rfl) ((parts (G := G) (tp := tp) (n := n) (ky := 0) 71).1 0 0 0 _ (by decide) (by decide) (by decide) (by decide) (by omega) _ (0 + 1) [] [] false [] hpre (fun s u e => by cases e) (fun _ => rfl)) (fun σ1 h5 => ?_)
  obtain ⟨f5, h5⟩ := h5
  have hfp2 := (hfp.tr hf1).tr f5
  rcases h5 with h5 | h5
  · obtain ⟨k2, c2, w2, t2, y1, y2, y3⟩ := h5
    have hfl2 := FF_le (tp := tp) (n := n) (k := k2)
    exact t_read_F (by omega) hfp2 y2 (by omega) (Or.inr ⟨by omega, k2, c2, w2, t2, by rw [h0]; exact y1, rfl⟩)
  · obtain ⟨k2, c1, p, t2, y1, yp, y2, y3, y4, y5, y6, y7, y8, -⟩ := h5
    have hfl2 := FF_le (tp := tp) (n := n) (k := k2)
    have hnp : npW (p ++ []) = 0 := by
      unfold npW
      rw [List.count_eq_zero]
      intro hm
      rw [List.append_nil] at hm
      exact (yp _ hm).1 rfl
    rw [← h0] at y3
    refine t_read_O (by omega) hfp2 y2 y3 (by simp only [List.length_append, List.length_map]; simp only [List.length_nil] at y7; omega) y4 (fun hF => Or.inr ⟨by omega, k2, c1, p ++ [], [t2], ?_, rfl⟩) (fun hF => ⟨by omega, k2, [], [t2], ?_⟩)
    · rw [h0]
      refine y1.tr (Go.one (sy_hbad (fun q => ?_) (fun q => by omega) (fun q => ?_)))
      · have e := q.1
        by_cases hs : srt (tp (FF tp n k2)) = 0
        · have := y2.1.2.2.2 _ hF
          rw [tk_sign hF hs] at e
          omega
        · rcases tk_word (ky := 0) hF hs with e2 | e2 <;> omega
      · have e := y8 (by have := q.1; omega)
        exact q.2 ⟨e.1, by rw [e.2]; rfl⟩
    · rw [h0]
      refine y1.tr (Go.one ?_)
      have g := sy_done (tk := tkN tp n 0) (k := k2) (c := c1) (w := p ++ []) (t := [t2]) (tk_end hF) hnp
      rw [stl_all (fun s hs => ⟨(yp s hs).1, Nat.zero_le _⟩) (fun s u e => by cases e)] at g
      exact g

set_option maxRecDepth 100000 in
set_option maxHeartbeats 4000000 in
theorem t_read_1 {G : vG} {d : Nat} {σ0 σ : vS} {tp : Nat → Nat} {n : Nat} (hd : 85 ≤ d + 1) (hfp : FPq σ0 σ) (hS : RS tp n 0 σ) (hD : DR 0 [] σ) (hfa : σ 1 6 = -1) (h0 : kyN tp n = 1) (hF0 : FF tp n 0 < n) (g0 : ¬ kw0 tp (FF tp n 0) (EE tp n (0 + 1))) (g1 : kw1 tp (FF tp n 0) (EE tp n (0 + 1))) : V G RX2 cX2_read (some .int) 1 (d + 1) (fun r' σ' => FPq σ0 σ' ∧ RdQ tp n r' σ') 21 [some (.ref 1)] [] σ := by
  obtain ⟨hT, h3, h14, h15⟩ := id hS
  obtain ⟨h10, hn96, hta, h256⟩ := id hT
  have hfl := FF_le (tp := tp) (n := n) (k := 0)
  have hel := EE_le (tp := tp) (n := n) (k := 0 + 1)
  refine V_aloadn_0 dX2_read_21 ?_
  refine V_cv0v dX2_read_22 cv_X2_38 rcR (Nat.le_of_ble_eq_true rfl) (k_R_readKey1 (by omega) hS g0 g1) ?_
  have hT1 : RT tp n (vup σ 2 0 1) := hT.of (by rw [vup_p (by decide)]) (vup_p (by decide))
  have hf1 : FPq σ (stS (vup σ 2 0 1) (FF tp n (0 + 1)) (bI (gluP tp n (0 + 1))) (EE tp n (0 + 1 + 1))) := ⟨fun q a b c => by rw [stS_p a, vup_p b], by rw [stS_1 (by decide) (by decide) (by decide), vup_p (by decide)]⟩
  have hpre : PreP tp n 1 0 0 (0 + 1) [] [] (stS (vup σ 2 0 1) (FF tp n (0 + 1)) (bI (gluP tp n (0 + 1))) (EE tp n (0 + 1 + 1))) := ⟨RS.mk hT1, ⟨by rw [stS_p (by decide), vup_same]; rfl, by rw [stS_p (by decide), vup_ne (by omega)]; exact hD.2.1, by rw [stS_p (by decide), vup_ne (by omega)]; exact hD.2.2.1, fun i hi => absurd hi (Nat.not_lt_zero i)⟩, by rw [stS_1 (by decide) (by decide) (by decide), vup_p (by decide)]; exact hfa, by have := FF_s hF0; omega, by decide, rfl, rfl, by decide⟩
  refine V_aloadn_0 dX2_read_25 ?_
  refine V_iconst 0 dX2_read_26 (by decide) ?_
  refine V_iconst 0 dX2_read_27 (by decide) ?_
  refine V_iconst 0 dX2_read_28 (by decide) ?_
  refine V_cv3n dX2_read_29 cv_X2_41 rcR (Nat.le_of_ble_eq_true rfl) ((parts (G := G) (tp := tp) (n := n) (ky := 1) 71).1 0 0 0 _ (by decide) (by decide) (by decide) (by decide) (by omega) _ (0 + 1) [] [] false [] hpre (fun s u e => by cases e) (fun _ => rfl)) (fun σ1 h5 => ?_)
  obtain ⟨f5, h5⟩ := h5
  have hfp2 := (hfp.tr hf1).tr f5
  rcases h5 with h5 | h5
  · obtain ⟨k2, c2, w2, t2, y1, y2, y3⟩ := h5
    have hfl2 := FF_le (tp := tp) (n := n) (k := k2)
    exact t_read_F (by omega) hfp2 y2 (by omega) (Or.inr ⟨by omega, k2, c2, w2, t2, by rw [h0]; exact y1, rfl⟩)
  · obtain ⟨k2, c1, p, t2, y1, yp, y2, y3, y4, y5, y6, y7, y8, -⟩ := h5
    have hfl2 := FF_le (tp := tp) (n := n) (k := k2)
    have hnp : npW (p ++ []) = 0 := by
      unfold npW
      rw [List.count_eq_zero]
      intro hm
      rw [List.append_nil] at hm
      exact (yp _ hm).1 rfl
    rw [← h0] at y3
    refine t_read_O (by omega) hfp2 y2 y3 (by simp only [List.length_append, List.length_map]; simp only [List.length_nil] at y7; omega) y4 (fun hF => Or.inr ⟨by omega, k2, c1, p ++ [], [t2], ?_, rfl⟩) (fun hF => ⟨by omega, k2, [], [t2], ?_⟩)
    · rw [h0]
      refine y1.tr (Go.one (sy_hbad (fun q => ?_) (fun q => by omega) (fun q => ?_)))
      · have e := q.1
        by_cases hs : srt (tp (FF tp n k2)) = 0
        · have := y2.1.2.2.2 _ hF
          rw [tk_sign hF hs] at e
          omega
        · rcases tk_word (ky := 1) hF hs with e2 | e2 <;> omega
      · have e := y8 (by have := q.1; omega)
        exact q.2 ⟨e.1, by rw [e.2]; rfl⟩
    · rw [h0]
      refine y1.tr (Go.one ?_)
      have g := sy_done (tk := tkN tp n 1) (k := k2) (c := c1) (w := p ++ []) (t := [t2]) (tk_end hF) hnp
      rw [stl_all (fun s hs => ⟨(yp s hs).1, Nat.zero_le _⟩) (fun s u e => by cases e)] at g
      exact g

set_option maxRecDepth 100000 in
set_option maxHeartbeats 4000000 in
theorem t_read_2 {G : vG} {d : Nat} {σ0 σ : vS} {tp : Nat → Nat} {n : Nat} (hd : 85 ≤ d + 1) (hfp : FPq σ0 σ) (hS : RS tp n 0 σ) (hD : DR 0 [] σ) (hfa : σ 1 6 = -1) (h0 : kyN tp n = 2) (hF0 : FF tp n 0 < n) (g0 : ¬ kw0 tp (FF tp n 0) (EE tp n (0 + 1))) (g1 : ¬ kw1 tp (FF tp n 0) (EE tp n (0 + 1))) (g2 : kw2 tp (FF tp n 0) (EE tp n (0 + 1))) : V G RX2 cX2_read (some .int) 1 (d + 1) (fun r' σ' => FPq σ0 σ' ∧ RdQ tp n r' σ') 21 [some (.ref 1)] [] σ := by
  obtain ⟨hT, h3, h14, h15⟩ := id hS
  obtain ⟨h10, hn96, hta, h256⟩ := id hT
  have hfl := FF_le (tp := tp) (n := n) (k := 0)
  have hel := EE_le (tp := tp) (n := n) (k := 0 + 1)
  refine V_aloadn_0 dX2_read_21 ?_
  refine V_cv0v dX2_read_22 cv_X2_38 rcR (Nat.le_of_ble_eq_true rfl) (k_R_readKey2 (by omega) hS g0 g1 g2) ?_
  have hT1 : RT tp n (vup σ 2 0 2) := hT.of (by rw [vup_p (by decide)]) (vup_p (by decide))
  have hf1 : FPq σ (stS (vup σ 2 0 2) (FF tp n (0 + 1)) (bI (gluP tp n (0 + 1))) (EE tp n (0 + 1 + 1))) := ⟨fun q a b c => by rw [stS_p a, vup_p b], by rw [stS_1 (by decide) (by decide) (by decide), vup_p (by decide)]⟩
  have hpre : PreP tp n 2 0 0 (0 + 1) [] [] (stS (vup σ 2 0 2) (FF tp n (0 + 1)) (bI (gluP tp n (0 + 1))) (EE tp n (0 + 1 + 1))) := ⟨RS.mk hT1, ⟨by rw [stS_p (by decide), vup_same]; rfl, by rw [stS_p (by decide), vup_ne (by omega)]; exact hD.2.1, by rw [stS_p (by decide), vup_ne (by omega)]; exact hD.2.2.1, fun i hi => absurd hi (Nat.not_lt_zero i)⟩, by rw [stS_1 (by decide) (by decide) (by decide), vup_p (by decide)]; exact hfa, by have := FF_s hF0; omega, by decide, rfl, rfl, by decide⟩
  refine V_aloadn_0 dX2_read_25 ?_
  refine V_iconst 0 dX2_read_26 (by decide) ?_
  refine V_iconst 0 dX2_read_27 (by decide) ?_
  refine V_iconst 0 dX2_read_28 (by decide) ?_
  refine V_cv3n dX2_read_29 cv_X2_41 rcR (Nat.le_of_ble_eq_true rfl) ((parts (G := G) (tp := tp) (n := n) (ky := 2) 71).1 0 0 0 _ (by decide) (by decide) (by decide) (by decide) (by omega) _ (0 + 1) [] [] false [] hpre (fun s u e => by cases e) (fun _ => rfl)) (fun σ1 h5 => ?_)
  obtain ⟨f5, h5⟩ := h5
  have hfp2 := (hfp.tr hf1).tr f5
  rcases h5 with h5 | h5
  · obtain ⟨k2, c2, w2, t2, y1, y2, y3⟩ := h5
    have hfl2 := FF_le (tp := tp) (n := n) (k := k2)
    exact t_read_F (by omega) hfp2 y2 (by omega) (Or.inr ⟨by omega, k2, c2, w2, t2, by rw [h0]; exact y1, rfl⟩)
  · obtain ⟨k2, c1, p, t2, y1, yp, y2, y3, y4, y5, y6, y7, y8, -⟩ := h5
    have hfl2 := FF_le (tp := tp) (n := n) (k := k2)
    have hnp : npW (p ++ []) = 0 := by
      unfold npW
      rw [List.count_eq_zero]
      intro hm
      rw [List.append_nil] at hm
      exact (yp _ hm).1 rfl
    rw [← h0] at y3
    refine t_read_O (by omega) hfp2 y2 y3 (by simp only [List.length_append, List.length_map]; simp only [List.length_nil] at y7; omega) y4 (fun hF => Or.inr ⟨by omega, k2, c1, p ++ [], [t2], ?_, rfl⟩) (fun hF => ⟨by omega, k2, [], [t2], ?_⟩)
    · rw [h0]
      refine y1.tr (Go.one (sy_hbad (fun q => ?_) (fun q => by omega) (fun q => ?_)))
      · have e := q.1
        by_cases hs : srt (tp (FF tp n k2)) = 0
        · have := y2.1.2.2.2 _ hF
          rw [tk_sign hF hs] at e
          omega
        · rcases tk_word (ky := 2) hF hs with e2 | e2 <;> omega
      · have e := y8 (by have := q.1; omega)
        exact q.2 ⟨e.1, by rw [e.2]; rfl⟩
    · rw [h0]
      refine y1.tr (Go.one ?_)
      have g := sy_done (tk := tkN tp n 2) (k := k2) (c := c1) (w := p ++ []) (t := [t2]) (tk_end hF) hnp
      rw [stl_all (fun s hs => ⟨(yp s hs).1, Nat.zero_le _⟩) (fun s u e => by cases e)] at g
      exact g

set_option maxRecDepth 100000 in
set_option maxHeartbeats 4000000 in
theorem k_R_read {G : vG} {σ : vS} {d : Nat} (hd : 85 ≤ d) {tp : Nat → Nat} {n : Nat} (hT : RT tp n σ) : Ct G yX2_read cX2_read 1 (some .int) d [.ref 1] σ (fun r' σ' => FPq σ σ' ∧ RdQ tp n r' σ') := by
  refine Ct.ofV (by decide) (Nat.le_of_ble_eq_true rfl) rfl ?_
  show V G RX2 cX2_read (some .int) 1 d _ 0 [some (.ref 1)] [] _
  obtain ⟨d, rfl⟩ : ∃ e, d = e + 1 := ⟨d - 1, by omega⟩
  refine V_aloadn_0 dX2_read_0 ?_
  refine V_getR dX2_read_1 fl_X2_12 oR_draft ?_
  refine V_cv0v dX2_read_4 cv_X2_26 (rcW (Or.inl rfl)) (Nat.le_of_ble_eq_true rfl) k_W_clear ?_
  refine V_aloadn_0 dX2_read_7 ?_
  refine V_iconst (-1) dX2_read_8 (by decide) ?_
  refine V_putI dX2_read_9 fp_X2_29 oR_fault ?_
  refine V_aloadn_0 dX2_read_12 ?_
  refine V_iconst 0 dX2_read_13 (by decide) ?_
  refine V_putI dX2_read_14 fp_X2_32 oR_end ?_
  have f1 : FPq σ (vup (vup (vup (vup (vup σ 2 0 0) 2 1 0) 2 2 0) 1 6 (-1)) 1 4 0) := ⟨fun q a b _ => by rw [vup_p a, vup_p a, vup_p b, vup_p b, vup_p b], by rw [vup_ne (by omega), vup_ne (by omega), vup_ne (by omega), vup_ne (by omega), vup_ne (by omega)]⟩
  refine V_aloadn_0 dX2_read_17 ?_
  refine V_cv0v dX2_read_18 cv_X2_35 rcR (Nat.le_of_ble_eq_true rfl) (k_R_step (tp := tp) (n := n) (k := 0) (by omega) (hT.fp f1) vup_same) ?_
  have hT1 := hT.fp f1
  have f2 := f1.tr (FPq.st (σ := vup (vup (vup (vup (vup σ 2 0 0) 2 1 0) 2 2 0) 1 6 (-1)) 1 4 0) (F := FF tp n 0) (E := EE tp n (0 + 1)) (g := bI (gluP tp n 0)))
  have hS := RS.mk (k := 0) hT1
  have hfa : stS (vup (vup (vup (vup (vup σ 2 0 0) 2 1 0) 2 2 0) 1 6 (-1)) 1 4 0) (FF tp n 0) (bI (gluP tp n 0)) (EE tp n (0 + 1)) 1 6 = -1 := by rw [stS_1 (by decide) (by decide) (by decide), vup_ne (by omega), vup_same]
  have hD : DR 0 [] (stS (vup (vup (vup (vup (vup σ 2 0 0) 2 1 0) 2 2 0) 1 6 (-1)) 1 4 0) (FF tp n 0) (bI (gluP tp n 0)) (EE tp n (0 + 1))) := ⟨by rw [stS_p (by decide), vup_ne (by omega), vup_ne (by omega), vup_ne (by omega), vup_ne (by omega), vup_same]; rfl, by rw [stS_p (by decide), vup_ne (by omega), vup_ne (by omega), vup_ne (by omega), vup_same]; rfl, by rw [stS_p (by decide), vup_ne (by omega), vup_ne (by omega), vup_same]; rfl, fun i hi => absurd hi (Nat.not_lt_zero i)⟩
  have hkF : ∀ m, EE tp n (0 + 1) - FF tp n 0 = m + 1 → FF tp n 0 < n := fun m q => Classical.byContradiction (fun h => by
    have h1 := EE_end h
    have h2 := FF_le (tp := tp) (n := n) (k := 0)
    rw [h1] at q
    omega)
  by_cases g0 : kw0 tp (FF tp n 0) (EE tp n (0 + 1))
  · exact t_read_0 (by omega) f2 hS hD hfa (by unfold kyN; rw [if_pos g0]) (hkF _ g0.1) g0
  · by_cases g1 : kw1 tp (FF tp n 0) (EE tp n (0 + 1))
    · exact t_read_1 (by omega) f2 hS hD hfa (by unfold kyN; rw [if_neg g0, if_pos g1]) (hkF _ g1.1) g0 g1
    · by_cases g2 : kw2 tp (FF tp n 0) (EE tp n (0 + 1))
      · exact t_read_2 (by omega) f2 hS hD hfa (by unfold kyN; rw [if_neg g0, if_neg g1, if_pos g2]) (hkF _ g2.1) g0 g1 g2
      · exact t_read_N (by omega) f2 hS hfa (by unfold kyN; rw [if_neg g0, if_neg g1, if_neg g2]) g0 g1 g2
