set_option maxRecDepth 100000 in
set_option maxHeartbeats 4000000 in
theorem t_part5 {G : vG} {σ : vS} {d : Nat} (hd : 8 ≤ d) {tp : Nat → Nat} {n ky k : Nat} {c w : List Nat} {t : Bool} {ts : List Bool} {op no : Nat} (ho : op ≤ 8) (hno : no ≤ 8) (hpre : PreP tp n ky op no k c w σ) (htop : topW (5 + 1) w) (hC : PieceC G tp n ky (d - 1) op no) : Cr G yX2_readPart cX2_readPart 6 none d [.ref 1, .int 5, .int (nI op), .int (nI no)] σ none (fun σ' => FPq σ σ' ∧ (FaQ tp n ky (0, k, c, w, t :: ts) σ' ∨ PtO tp n ky 5 k c w t ts σ')) := by
  refine Ct.ofV (by decide) (Nat.le_of_ble_eq_true rfl) rfl ?_
  show V G RX2 cX2_readPart none 6 d _ 0 [some (.ref 1), some (.int 5), some (.int (nI op)), some (.int (nI no)), none, none] [] _
  obtain ⟨d, rfl⟩ : ∃ e, d = e + 1 := ⟨d - 1, by omega⟩
  refine V_iloadn_1 dX2_readPart_0 ?_
  refine V_iconst 5 dX2_readPart_1 (by decide) ?_
  refine V_icmp_lt_f dX2_readPart_2 12 (by decide) (by decide) ?_
  refine V_aloadn_0 dX2_readPart_5 ?_
  refine V_iloadn_2 dX2_readPart_6 ?_
  refine V_iloadn_3 dX2_readPart_7 ?_
  refine V_cv2n dX2_readPart_8 cv_X2_61 rcR (Nat.le_of_ble_eq_true rfl) (hC _ _ _ _ (t :: ts) hpre) (fun σ1 h5 => ?_)
  exact V_vret dX2_readPart_11 ⟨rfl, h5.1, h5.2.elim Or.inl (fun h => Or.inr (by
      obtain ⟨k', c', y1, y2, y3, y4, y5, y6, y7⟩ := h
      rw [stl_top htop] at y1
      refine ⟨k', c', [], t, y1, fun s hs => absurd hs List.not_mem_nil, y2, by simpa using y3, y4, y5, y6, by simpa using y7, fun q => ?_, fun _ => rfl⟩
      have hb : bkT (tkN tp n ky k') ≤ 5 := by
        unfold bkT
        split
        · exact bk_le
        · omega
      omega))⟩

set_option maxRecDepth 100000 in
set_option maxHeartbeats 4000000 in
theorem t_part_F {G : vG} {d : Nat} {Q : Option Value → vS → Prop} {σ : vS} (hd : 8 ≤ d + 1) {lev op no x : Nat} (hl : lev ≤ 5) (hfa : σ 1 6 = nI x) (hx : x ≤ 96) {a5 : Option Value} (kont : Q none σ) {i : Nat} (hi : i ≤ 96) : V G RX2 cX2_readPart none 6 (d + 1) Q 24 [some (.ref 1), some (.int (nI lev)), some (.int (nI op)), some (.int (nI no)), some (.int (nI i)), a5] [] σ := by
  refine V_iload_4 dX2_readPart_24 ?_
  refine V_bipush 96 dX2_readPart_26 (by decide) ?_
  refine V_icmpN_ge (a := i) (b := 96) dX2_readPart_28 89 (by decide) (by omega) (by omega) (fun h28 => ?_) (fun h28 => ?_)
  · exact V_vret dX2_readPart_89 (kont)
  · refine V_aloadn_0 dX2_readPart_31 ?_
    refine V_getI dX2_readPart_32 fl_X2_29 oR_fault ?_
    refine V_topi (y := nI x) hfa ?_
    refine V_ifN_ge (a := x) dX2_readPart_35 89 (by decide) (by omega) ?_
    exact V_vret dX2_readPart_89 (kont)

set_option maxRecDepth 100000 in
set_option maxHeartbeats 4000000 in
theorem t_sign_F {G : vG} {d : Nat} {Q : Option Value → vS → Prop} {σ : vS} (hd : 8 ≤ d + 1) {lev op no x z i : Nat} {s : Int32} (hl : lev ≤ 5) (hfa : σ 1 6 = nI x) (hx : x ≤ 96) (hz : σ 2 2 = nI z) (h96 : z ≤ 96) (hi : i < 96) (kont : ∀ σ', FW σ σ' → (∃ y, y ≤ 96 ∧ σ' 2 2 = nI y) → Q none σ') : V G RX2 cX2_readPart none 6 (d + 1) Q 68 [some (.ref 1), some (.int (nI lev)), some (.int (nI op)), some (.int (nI no)), some (.int (nI i)), some (.int s)] [] σ := by
  refine V_aloadn_0 dX2_readPart_68 ?_
  refine V_getR dX2_readPart_69 fl_X2_12 oR_draft ?_
  refine V_iload_5 dX2_readPart_72 ?_
  refine V_cv1n dX2_readPart_74 cv_X2_73 (rcW (Or.inl rfl)) (Nat.le_of_ble_eq_true rfl) (k_W_addSignF (by omega) hz h96) (fun σ1 h5 => ?_)
  refine V_iloadn_1 dX2_readPart_77 ?_
  refine V_iconst 2 dX2_readPart_78 (by decide) ?_
  refine V_icmpN_ne (a := lev) (b := 2) dX2_readPart_79 83 (by decide) (by omega) (by omega) (fun h79 => ?_) (fun h79 => ?_)
  · refine V_iinc_4 dX2_readPart_83 (by first | exact rfl | exact True.intro) (by decide) (nI (i + 1)) (nI_inc _) ?_
    refine V_goto dX2_readPart_86 24 (by decide) ?_
    exact t_part_F (by omega) hl (by rw [h5.1 1 (by decide) (by decide)]; exact hfa) hx (kont _ h5.1 h5.2) (by omega)
  · exact V_vret dX2_readPart_82 (kont _ h5.1 h5.2)

set_option maxRecDepth 100000 in
set_option maxHeartbeats 4000000 in
theorem t_sign_O {G : vG} {d : Nat} {Q : Option Value → vS → Prop} {σ : vS} (hd : 8 ≤ d + 1) {lev op no ky s i : Nat} {c : List Nat} (hl : lev ≤ 5) (hD : DR ky c σ) (hlen : c.length < 96) (hs : s < 256) (k2 : lev = 2 → ∀ σ', DR ky (c ++ [20000 + s]) σ' → FW σ σ' → Q none σ') (kont : lev ≠ 2 → ∀ σ', DR ky (c ++ [20000 + s]) σ' → FW σ σ' → V G RX2 cX2_readPart none 6 (d + 1) Q 24 [some (.ref 1), some (.int (nI lev)), some (.int (nI op)), some (.int (nI no)), some (.int (nI (i + 1))), none] [] σ') : V G RX2 cX2_readPart none 6 (d + 1) Q 68 [some (.ref 1), some (.int (nI lev)), some (.int (nI op)), some (.int (nI no)), some (.int (nI i)), some (.int (nI s))] [] σ := by
  refine V_aloadn_0 dX2_readPart_68 ?_
  refine V_getR dX2_readPart_69 fl_X2_12 oR_draft ?_
  refine V_iload_5 dX2_readPart_72 ?_
  refine V_cv1n dX2_readPart_74 cv_X2_73 (rcW (Or.inl rfl)) (Nat.le_of_ble_eq_true rfl) (k_W_addSign (by omega) hD hlen hs) (fun σ1 h5 => ?_)
  refine V_iloadn_1 dX2_readPart_77 ?_
  refine V_iconst 2 dX2_readPart_78 (by decide) ?_
  refine V_icmpN_ne (a := lev) (b := 2) dX2_readPart_79 83 (by decide) (by omega) (by omega) (fun h79 => ?_) (fun h79 => ?_)
  · refine V_iinc_4 dX2_readPart_83 (by first | exact rfl | exact True.intro) (by decide) (nI (i + 1)) (nI_inc _) ?_
    refine V_goto dX2_readPart_86 24 (by decide) ?_
    refine V_fg_5 ?_
    exact kont h79 _ h5.1 h5.2
  · exact V_vret dX2_readPart_82 (k2 h79 _ h5.1 h5.2)

set_option maxRecDepth 100000 in
set_option maxHeartbeats 4000000 in
theorem lp_part {G : vG} {d : Nat} {σ0 : vS} {tp : Nat → Nat} {n ky k0 lev op no : Nat} {c w : List Nat} {t : Bool} {ts : List Bool} (hd : 8 ≤ d + 1) (hlev : lev < 5) (ho : op ≤ 8) (hno : no ≤ 8) (hop : npW w = op) (hnn : nnW w = no) (hk2 : ky ≤ 2) (htop : topW (lev + 1) w) (hN : PartC G tp n ky d (lev + 1) op no) : ∀ (k : Nat) (i k' : Nat) (c1 p : List Nat) (t' : Bool) (σ : vS), (i < k' ∧ FPq σ0 σ ∧ Go (tkN tp n ky) (0, k0, c, w, t :: ts) (1, k', c1, p ++ w, t' :: ts) ∧ (∀ s ∈ p, s ≠ 40 ∧ lev + 1 ≤ rk s) ∧ RS tp n k' σ ∧ DR ky (c1 ++ p.map (20000 + ·)) σ ∧ σ 1 6 = -1 ∧ k0 < k' ∧ k' ≤ FF tp n k' ∧ c1.length + p.length + w.length ≤ k' ∧ (lev + 2 ≤ bkT (tkN tp n ky k') → bkT (tkN tp n ky k') = 3 ∧ t' = true) ∧ (3 ≤ lev → t' = t) ∧ (lev = 2 → t' = false)) → n + 1 - k' < k → V G RX2 cX2_readPart none 6 (d + 1) (fun r' σ' => r' = none ∧ (FPq σ0 σ' ∧ (FaQ tp n ky (0, k0, c, w, t :: ts) σ' ∨ PtO tp n ky lev k0 c w t ts σ'))) 24 [some (.ref 1), some (.int (nI lev)), some (.int (nI op)), some (.int (nI no)), some (.int (nI i)), none] [] σ := by
  intro k
  induction k with
  | zero => intros; omega
  | succ k ih =>
    intro i k' c1 p t' σ hh hk
    obtain ⟨hik, hfp0, hgo, hpp, hS, hD, hfa, hkk, hkF, hlen, hb2, hti, hlv⟩ := hh
    obtain ⟨hT, h3, h14, h15⟩ := id hS
    obtain ⟨h10, hn96, hta, h256⟩ := id hT
    have hfl := FF_le (tp := tp) (n := n) (k := k')
    have hel := EE_le (tp := tp) (n := n) (k := k' + 1)
    have hb5 : bkT (tkN tp n ky k') ≤ 5 := by
      unfold bkT
      split
      · exact bk_le
      · omega
    refine V_iload_4 dX2_readPart_24 ?_
    refine V_bipush 96 dX2_readPart_26 (by decide) ?_
    refine V_icmpN_ge (a := i) (b := 96) dX2_readPart_28 89 (by decide) (by omega) (by omega) (fun h28 => ?_) (fun h28 => ?_)
    · exfalso; omega
    · refine V_aloadn_0 dX2_readPart_31 ?_
      refine V_getI dX2_readPart_32 fl_X2_29 oR_fault ?_
      refine V_topi (y := -1) hfa ?_
      refine V_if_ge_f dX2_readPart_35 89 (by decide) (by decide) ?_
      refine V_aloadn_0 dX2_readPart_38 ?_
      refine V_cv0f dX2_readPart_39 cv_X2_65 rcR (Nat.le_of_ble_eq_true rfl) (k_R_head hT h3 hfl) ?_
      refine V_cs1f dX2_readPart_42 cs_X2_69 (Nat.le_of_ble_eq_true rfl) (k_R_looseH (ky := ky) (k := k') h256) ?_
      refine V_iloadn_1 dX2_readPart_45 ?_
      refine V_icmp_ne dX2_readPart_46 89 (by decide) (fun h46 => ?_) (fun h46 => ?_)
      · exact V_vret dX2_readPart_89 ⟨rfl, hfp0, Or.inr ⟨k', c1, p, t', hgo, hpp, hS, hD, hfa, hkk, hkF, hlen, fun q => hb2 (by
            rcases Nat.lt_or_ge (bkT (tkN tp n ky k')) (lev + 2) with q2 | q2
            · exact absurd ((lw_eq hb5 (by omega)).mpr (by omega)) h46
            · exact q2), hti⟩⟩
      · have hm := (lw_eq hb5 (by omega)).mp h46
        have hF := (bk_pos (tp := tp) (n := n) (ky := ky) (k := k') (by omega)).1
        have hsr := (bk_pos (tp := tp) (n := n) (ky := ky) (k := k') (by omega)).2.1
        have htk := (bk_pos (tp := tp) (n := n) (ky := ky) (k := k') (by omega)).2.2
        have hbs : bk (tp (FF tp n k')) = lev + 1 := by rw [← bk_tk (ky := ky) hF]; exact hm
        have hbr := bk_rk (s := tp (FF tp n k')) (by omega)
        have hb256 := h256 _ hF
        have g2 : Go (tkN tp n ky) (0, k0, c, w, t :: ts) (0, k' + 1, c1 ++ p.map (20000 + ·), tp (FF tp n k') :: w, (decide (bkT (tkN tp n ky k') = 3) || (decide (3 < bkT (tkN tp n ky k')) && t')) :: ts) := by
          refine hgo.tr (Go.one ?_)
          have := sy_sign (tk := tkN tp n ky) (k := k') (c := c1) (w := p ++ w) (t := t' :: ts) (by omega) (fun q => by
            have e := hlv (by omega)
            have q2 : t' = true := q.2
            rw [e] at q2
            cases q2) (by omega) (by omega)
          rw [hm, stl_all hpp htop, htk, show 20000 + tp (FF tp n k') - 20000 = tp (FF tp n k') by omega, ← hm] at this
          exact this
        refine V_aloadn_0 dX2_readPart_49 ?_
        refine V_cv0f dX2_readPart_50 cv_X2_65 rcR (Nat.le_of_ble_eq_true rfl) (k_R_head hT h3 hfl) ?_
        refine V_topi (y := nI (tp (FF tp n k'))) (if_pos hF) ?_
        refine V_istore_5 dX2_readPart_53 (by first | exact rfl | exact True.intro) (by decide) ?_
        refine V_aloadn_0 dX2_readPart_55 ?_
        refine V_cv0v dX2_readPart_56 cv_X2_35 rcR (Nat.le_of_ble_eq_true rfl) (k_R_step (k := k' + 1) (by omega) hT h14) ?_
        have hpre1 : PreP tp n ky op no (k' + 1) (c1 ++ p.map (20000 + ·)) (tp (FF tp n k') :: w) (stS σ (FF tp n (k' + 1)) (bI (gluP tp n (k' + 1))) (EE tp n (k' + 1 + 1))) := ⟨RS.mk hT, hD.st, by rw [stS_1 (by decide) (by decide) (by decide)]; exact hfa, FF_up hkF hF, by simp only [List.length_cons, List.length_append, List.length_map]; omega, by rw [np_ne hbr.2.2.1]; exact hop, by rw [nn_ne hbr.2.1]; exact hnn, hk2⟩
        have ht1 : lev + 1 ≤ 2 → (decide (bkT (tkN tp n ky k') = 3) || (decide (3 < bkT (tkN tp n ky k')) && t')) = false := fun q => by
          have e1 : decide (bkT (tkN tp n ky k') = 3) = false := by simp; omega
          have e2 : decide (3 < bkT (tkN tp n ky k')) = false := by simp; omega
          rw [e1, e2]
          simp
        refine V_aloadn_0 dX2_readPart_59 ?_
        refine V_iloadn_1 dX2_readPart_60 ?_
        refine V_iconst 1 dX2_readPart_61 (by decide) ?_
        refine V_iaddN (a := lev) (b := 1) dX2_readPart_62 ?_
        refine V_iloadn_2 dX2_readPart_63 ?_
        refine V_iloadn_3 dX2_readPart_64 ?_
        refine V_cv3n dX2_readPart_65 cv_X2_41 rcR (Nat.le_of_ble_eq_true rfl) (hN _ _ _ _ _ ts hpre1 (fun s u e => Or.inr (by cases e; omega)) ht1) (fun σ1 h5 => ?_)
        obtain ⟨f5, h5⟩ := h5
        have hfp := (hfp0.tr (FPq.st (σ := σ))).tr f5
        rcases h5 with h5 | h5
        · obtain ⟨k2, c2, w2, t2, y1, y2, z, z96, y3⟩ := h5
          have hfl2 := FF_le (tp := tp) (n := n) (k := k2)
          exact t_sign_F (by omega) (by omega) y2 (by omega) y3 z96 (by omega) (fun σ' e1 e2 => ⟨rfl, hfp.tr e1.q, Or.inl ⟨k2, c2, w2, t2, g2.tr y1, by rw [e1 1 (by decide) (by decide)]; exact y2, e2⟩⟩)
        · obtain ⟨k2, c2, p2, t2, y1, yp, y2, y3, y4, y5, y6, y7, y8, y9⟩ := h5
          have hfl2 := FF_le (tp := tp) (n := n) (k := k2)
          simp only [List.length_cons] at y7
          have eW : p2 ++ tp (FF tp n k') :: w = (p2 ++ [tp (FF tp n k')]) ++ w := by simp
          rw [eW] at y1
          have g3 := g2.tr y1
          have hp2 : ∀ s ∈ p2 ++ [tp (FF tp n k')], s ≠ 40 ∧ lev + 1 ≤ rk s := fun s hs => by
            rcases List.mem_append.mp hs with q | q
            · have := yp s q; exact ⟨this.1, by omega⟩
            · rw [List.mem_singleton.mp q]; exact ⟨hbr.2.2.1, by omega⟩
          have eD : (c2 ++ p2.map (20000 + ·)) ++ [20000 + tp (FF tp n k')] = c2 ++ (p2 ++ [tp (FF tp n k')]).map (20000 + ·) := by simp
          have hlp : (p2 ++ [tp (FF tp n k')]).length = p2.length + 1 := by simp
          have ht9 : 3 ≤ lev → t2 = t := fun q => by
            rw [y9 (by omega), hm, hti q]
            have e1 : decide (lev + 1 = 3) = false := by simp; omega
            have e2 : decide (3 < lev + 1) = true := by simp; omega
            rw [e1, e2]
            simp
          refine t_sign_O (by omega) (by omega) y3 (by simp only [List.length_append, List.length_map]; omega) (h256 _ hF) (fun e2 σ' d1 d2 => ?_) (fun e2 σ' d1 d2 => ?_)
          · rw [eD] at d1
            refine ⟨rfl, hfp.tr d2.q, Or.inr ⟨k2, c2, p2 ++ [tp (FF tp n k')], t2, g3, hp2, y2.fw d2, d1, by rw [d2 1 (by decide) (by decide)]; exact y4, by omega, y6, by rw [hlp]; omega, fun q => ?_, ht9⟩⟩
            have h3 : bkT (tkN tp n ky k2) = 3 := by
              by_cases q4 : lev + 1 + 1 ≤ bkT (tkN tp n ky k2)
              · exact (y8 q4).1
              · omega
            refine ⟨h3, ?_⟩
            rw [y9 (by omega), hm]
            have e1 : decide (lev + 1 = 3) = true := by simp; omega
            rw [e1]
            simp
          · rw [eD] at d1
            exact ih (i + 1) k2 c2 (p2 ++ [tp (FF tp n k')]) t2 σ' ⟨by omega, hfp.tr d2.q, g3, hp2, y2.fw d2, d1, by rw [d2 1 (by decide) (by decide)]; exact y4, by omega, y6, by rw [hlp]; omega, y8, ht9, fun q => absurd q e2⟩ (by omega)

set_option maxRecDepth 100000 in
set_option maxHeartbeats 4000000 in
theorem t_part {G : vG} {σ : vS} {d : Nat} (hd : 8 ≤ d) {tp : Nat → Nat} {n ky k : Nat} {c w : List Nat} {t : Bool} {ts : List Bool} {lev op no : Nat} (hlev : lev < 5) (ho : op ≤ 8) (hno : no ≤ 8) (hpre : PreP tp n ky op no k c w σ) (htop : topW (lev + 1) w) (ht : lev ≤ 2 → t = false) (hN : PartC G tp n ky (d - 1) (lev + 1) op no) : Cr G yX2_readPart cX2_readPart 6 none d [.ref 1, .int (nI lev), .int (nI op), .int (nI no)] σ none (fun σ' => FPq σ σ' ∧ (FaQ tp n ky (0, k, c, w, t :: ts) σ' ∨ PtO tp n ky lev k c w t ts σ')) := by
  refine Ct.ofV (by decide) (Nat.le_of_ble_eq_true rfl) rfl ?_
  show V G RX2 cX2_readPart none 6 d _ 0 [some (.ref 1), some (.int (nI lev)), some (.int (nI op)), some (.int (nI no)), none, none] [] _
  obtain ⟨d, rfl⟩ : ∃ e, d = e + 1 := ⟨d - 1, by omega⟩
  refine V_iloadn_1 dX2_readPart_0 ?_
  refine V_iconst 5 dX2_readPart_1 (by decide) ?_
  refine V_icmpN_lt (a := lev) (b := 5) dX2_readPart_2 12 (by decide) (by omega) (by omega) (fun h2 => ?_) (fun h2 => ?_)
  · refine V_aloadn_0 dX2_readPart_12 ?_
    refine V_iloadn_1 dX2_readPart_13 ?_
    refine V_iconst 1 dX2_readPart_14 (by decide) ?_
    refine V_iaddN (a := lev) (b := 1) dX2_readPart_15 ?_
    refine V_iloadn_2 dX2_readPart_16 ?_
    refine V_iloadn_3 dX2_readPart_17 ?_
    refine V_cv3n dX2_readPart_18 cv_X2_41 rcR (Nat.le_of_ble_eq_true rfl) (hN _ _ _ _ t ts hpre (fun s u e => (htop s u e).elim Or.inl (fun q => Or.inr (by omega))) (fun q => ht (by omega))) (fun σ1 h5 => ?_)
    refine V_iconst 0 dX2_readPart_21 (by decide) ?_
    refine V_istore_4 dX2_readPart_22 (by first | exact rfl | exact True.intro) (by decide) ?_
    obtain ⟨f5, h5⟩ := h5
    obtain ⟨hS0, hD0, hfa0, hkF0, hlen0, hop0, hnn0, hk20⟩ := id hpre
    rcases h5 with h5 | h5
    · obtain ⟨k2, c2, w2, t2, y1, y2, z, z96, y3⟩ := h5
      have hfl2 := FF_le (tp := tp) (n := n) (k := k2)
      have hn96 := hS0.1.2.1
      exact t_part_F (i := 0) (by omega) (by omega) y2 (by omega) ⟨rfl, f5, Or.inl ⟨k2, c2, w2, t2, y1, y2, z, z96, y3⟩⟩ (by omega)
    · obtain ⟨k2, c2, p2, t2, y1, yp, y2, y3, y4, y5, y6, y7, y8, y9⟩ := h5
      exact lp_part (by omega) hlev ho hno hop0 hnn0 hk20 htop hN (n + 2) 0 k2 c2 p2 t2 σ1 ⟨by omega, f5, y1, fun s hs => ⟨(yp s hs).1, by have := (yp s hs).2; omega⟩, y2, y3, y4, y5, y6, y7, y8, fun q => y9 (by omega), fun q => by rw [y9 (by omega)]; exact ht (by omega)⟩ (by omega)
  · exfalso; omega

/-- all parts and pieces, by how deep they may go -/
theorem parts {G : vG} {tp : Nat → Nat} {n ky : Nat} : ∀ D, (∀ lev op no d, lev ≤ 5 → op ≤ 8 → no ≤ 8 → 7 * (8 - op) + (8 - no) + (6 - lev) < D → D + 8 ≤ d → PartC G tp n ky d lev op no) ∧ (∀ op no d, op ≤ 8 → no ≤ 8 → 7 * (8 - op) + (8 - no) < D → D + 8 ≤ d → PieceC G tp n ky d op no) := by
  intro D
  induction D with
  | zero => exact ⟨fun _ _ _ _ _ _ _ h => absurd h (Nat.not_lt_zero _), fun _ _ _ _ _ h => absurd h (Nat.not_lt_zero _)⟩
  | succ D ih =>
    refine ⟨fun lev op no d hl ho hno hD hd => ?_, fun op no d ho hno hD hd => ?_⟩
    · intro σ k c w t ts hpre htop ht
      by_cases e : lev = 5
      · subst e
        exact t_part5 (by omega) ho hno hpre htop (ih.2 op no (d - 1) ho hno (by omega) (by omega))
      · exact t_part (by omega) (by omega) ho hno hpre htop ht (ih.1 (lev + 1) op no (d - 1) (by omega) ho hno (by omega) (by omega))
    · exact piece_step (by omega) ho hno (fun q => ih.1 0 (op + 1) no (d - 1) (by omega) (by omega) hno (by omega) (by omega)) (fun q => ih.2 op (no + 1) (d - 1) ho (by omega) (by omega) (by omega))
