/-! ===== the reference's key and parts ===== -/
theorem key_tok {tp : Nat → Nat} {n : Nat} (h : kyN tp n < 3) : tokN tp n 0 = 1 := by
  have hF := kw_F h
  have hg : ¬ gluP tp n 0 := fun q => absurd q.2.2.1 (Nat.lt_irrefl _)
  have hs : srt (tp (FF tp n 0)) = 1 := by
    unfold kyN at h
    by_cases g0 : kw0 tp (FF tp n 0) (EE tp n (0 + 1))
    · have := g0.2.1; rw [Nat.add_zero] at this; rw [this]; rfl
    · by_cases g1 : kw1 tp (FF tp n 0) (EE tp n (0 + 1))
      · have := g1.2.1; rw [Nat.add_zero] at this; rw [this]; rfl
      · by_cases g2 : kw2 tp (FF tp n 0) (EE tp n (0 + 1))
        · have := g2.2.1; rw [Nat.add_zero] at this; rw [this]; rfl
        · rw [if_neg g0, if_neg g1, if_neg g2] at h
          omega
  unfold tokN
  rw [if_pos hF, if_neg (by rw [hs]; decide), if_pos hs, if_neg hg]
theorem ky_le {tp : Nat → Nat} {n : Nat} : kyN tp n ≤ 3 := by
  unfold kyN
  repeat' split
  all_goals omega
def FK (σ σ' : vS) : Prop := (∀ q, q ≠ 97 → σ' q = σ q) ∧ ∀ j, ¬ (9 ≤ j ∧ j ≤ 14) → σ' 97 j = σ 97 j
def KQ (tp : Nat → Nat) (n : Nat) (σ0 : vS) (r' : Option Value) (σ' : vS) : Prop := (kyN tp n < 3 ∧ r' = some (.int 1) ∧ MS tp n (0 + 1) σ' ∧ σ' 97 14 = nI (kyN tp n) ∧ FK σ0 σ') ∨ (kyN tp n = 3 ∧ r' = some (.int 0) ∧ σ' = σ0)

set_option maxRecDepth 100000 in
set_option maxHeartbeats 4000000 in
theorem t_key3 {G : vG} {d : Nat} {σ : vS} (hd : 3 ≤ d + 1) {tp : Nat → Nat} {n : Nat} (hS : MS tp n 0 σ) (hK : IK σ) (g0 : ¬ kw0 tp (FF tp n 0) (EE tp n (0 + 1))) (g1 : ¬ kw1 tp (FF tp n 0) (EE tp n (0 + 1))) (g2 : ¬ kw2 tp (FF tp n 0) (EE tp n (0 + 1))) : V G RX7 cX7_takesKey (some .boolean) 5 (d + 1) (fun r' σ' => KQ tp n σ r' σ') 12 [some (.ref 97), some (.int 3), none, none, none] [] σ := by
  obtain ⟨hT, m10, m9, m13, m11, m12, m12b⟩ := id hS
  obtain ⟨m8, hn96, hta, h256⟩ := id hT
  have hfl := FF_le (tp := tp) (n := n) (k := 0)
  have hel := EE_le (tp := tp) (n := n) (k := 0 + 1)
  obtain ⟨hK5, hk0, hk1, hk2, hk3⟩ := id hK
  have hfe : FF tp n 0 ≤ EE tp n (0 + 1) := by
    by_cases q : FF tp n 0 < n
    · exact Nat.le_of_lt (EE_gt q)
    · rw [EE_end q]; exact FF_le
  refine V_iloadn_1 dX7_takesKey_12 ?_
  refine V_iconst 3 dX7_takesKey_13 (by decide) ?_
  refine V_icmp_ge_t dX7_takesKey_14 127 (by decide) (by decide) ?_
  refine V_iconst 0 dX7_takesKey_127 (by decide) ?_
  exact V_zret dX7_takesKey_128 (by decide) (Or.inr ⟨by unfold kyN; rw [if_neg g0, if_neg g1, if_neg g2], rfl, rfl⟩)

set_option maxRecDepth 100000 in
set_option maxHeartbeats 4000000 in
theorem t_key2 {G : vG} {d : Nat} {σ : vS} (hd : 3 ≤ d + 1) {tp : Nat → Nat} {n : Nat} (hS : MS tp n 0 σ) (hK : IK σ) (g0 : ¬ kw0 tp (FF tp n 0) (EE tp n (0 + 1))) (g1 : ¬ kw1 tp (FF tp n 0) (EE tp n (0 + 1))) : V G RX7 cX7_takesKey (some .boolean) 5 (d + 1) (fun r' σ' => KQ tp n σ r' σ') 12 [some (.ref 97), some (.int 2), none, none, none] [] σ := by
  obtain ⟨hT, m10, m9, m13, m11, m12, m12b⟩ := id hS
  obtain ⟨m8, hn96, hta, h256⟩ := id hT
  have hfl := FF_le (tp := tp) (n := n) (k := 0)
  have hel := EE_le (tp := tp) (n := n) (k := 0 + 1)
  obtain ⟨hK5, hk0, hk1, hk2, hk3⟩ := id hK
  have hfe : FF tp n 0 ≤ EE tp n (0 + 1) := by
    by_cases q : FF tp n 0 < n
    · exact Nat.le_of_lt (EE_gt q)
    · rw [EE_end q]; exact FF_le
  refine V_iloadn_1 dX7_takesKey_12 ?_
  refine V_iconst 3 dX7_takesKey_13 (by decide) ?_
  refine V_icmp_ge_f dX7_takesKey_14 127 (by decide) (by decide) ?_
  refine V_aloadn_0 dX7_takesKey_17 ?_
  refine V_getR dX7_takesKey_18 fl_X7_35 oM_keyAt ?_
  refine V_iloadn_1 dX7_takesKey_21 ?_
  refine V_iconst 1 dX7_takesKey_22 (by decide) ?_
  refine V_iadd dX7_takesKey_23 ?_
  refine V_topi (y := 3) (by decide) ?_
  refine V_iald (j := 3) dX7_takesKey_24 aM_keyAt (by decide) (by decide) ?_
  refine V_topi (y := 11) hk3 ?_
  refine V_aloadn_0 dX7_takesKey_25 ?_
  refine V_getR dX7_takesKey_26 fl_X7_35 oM_keyAt ?_
  refine V_iloadn_1 dX7_takesKey_29 ?_
  refine V_iald (j := 2) dX7_takesKey_30 aM_keyAt (by decide) (by decide) ?_
  refine V_topi (y := 7) hk2 ?_
  refine V_isub dX7_takesKey_31 ?_
  refine V_topi (y := 4) (by decide) ?_
  refine V_istoren_2 dX7_takesKey_32 (by first | exact rfl | exact True.intro) (by decide) ?_
  refine V_iloadn_2 dX7_takesKey_33 ?_
  refine V_aloadn_0 dX7_takesKey_34 ?_
  refine V_getI dX7_takesKey_35 fl_X7_207 oM_next ?_
  refine V_topi (y := nI (EE tp n (0 + 1))) m9 ?_
  refine V_aloadn_0 dX7_takesKey_38 ?_
  refine V_getI dX7_takesKey_39 fl_X7_210 oM_from ?_
  refine V_topi (y := nI (FF tp n 0)) m10 ?_
  refine V_isubN (a := EE tp n (0 + 1)) (b := FF tp n 0) dX7_takesKey_42 (by omega) ?_
  refine V_icmpN_ne (a := 4) (b := (EE tp n (0 + 1)) - (FF tp n 0)) dX7_takesKey_43 50 (by decide) (by omega) (by omega) (fun h43 => ?_) (fun h43 => ?_)
  · refine V_iconst 0 dX7_takesKey_50 (by decide) ?_
    refine V_istoren_3 dX7_takesKey_51 (by first | exact rfl | exact True.intro) (by decide) ?_
    refine V_iconst 0 dX7_takesKey_52 (by decide) ?_
    refine V_istore_4 dX7_takesKey_53 (by first | exact rfl | exact True.intro) (by decide) ?_
    refine V_iload_4 dX7_takesKey_55 ?_
    refine V_iloadn_2 dX7_takesKey_57 ?_
    refine V_icmp_ge_f dX7_takesKey_58 106 (by decide) (by decide) ?_
    refine V_iloadn_3 dX7_takesKey_61 ?_
    refine V_if_eq_t dX7_takesKey_62 106 (by decide) (by decide) ?_
    refine V_iloadn_3 dX7_takesKey_106 ?_
    refine V_if_eq_t dX7_takesKey_107 121 (by decide) (by decide) ?_
    refine V_iinc_1 dX7_takesKey_121 (by first | exact rfl | exact True.intro) (by decide) 3 (by decide) ?_
    refine V_goto dX7_takesKey_124 12 (by decide) ?_
    refine V_fg_2 ?_
    refine V_fg_3 ?_
    refine V_fg_4 ?_
    exact t_key3 hd hS hK g0 g1 (fun q => h43 q.1.symm)
  · refine V_iconst 1 dX7_takesKey_46 (by decide) ?_
    refine V_goto dX7_takesKey_47 51 (by decide) ?_
    refine V_istoren_3 dX7_takesKey_51 (by first | exact rfl | exact True.intro) (by decide) ?_
    refine V_iconst 0 dX7_takesKey_52 (by decide) ?_
    refine V_istore_4 dX7_takesKey_53 (by first | exact rfl | exact True.intro) (by decide) ?_
    refine V_iload_4 dX7_takesKey_55 ?_
    refine V_iloadn_2 dX7_takesKey_57 ?_
    refine V_icmp_ge_f dX7_takesKey_58 106 (by decide) (by decide) ?_
    refine V_iloadn_3 dX7_takesKey_61 ?_
    refine V_if_eq_f dX7_takesKey_62 106 (by decide) (by decide) ?_
    refine V_aloadn_0 dX7_takesKey_65 ?_
    refine V_getR dX7_takesKey_66 fl_X7_28 oM_tape ?_
    refine V_aloadn_0 dX7_takesKey_69 ?_
    refine V_getI dX7_takesKey_70 fl_X7_210 oM_from ?_
    refine V_topi (y := nI (FF tp n 0)) m10 ?_
    refine V_iload_4 dX7_takesKey_73 ?_
    refine V_iaddN (a := FF tp n 0) (b := 0) dX7_takesKey_75 ?_
    have hb0 := h256 (FF tp n 0 + 0) (by omega)
    refine V_iald (j := (FF tp n 0) + 0) dX7_takesKey_76 aM_tape (by omega) (by decide) ?_
    refine V_topi (y := nI (tp (FF tp n 0 + 0))) (hta _ (by omega)) ?_
    refine V_aloadn_0 dX7_takesKey_77 ?_
    refine V_getR dX7_takesKey_78 fl_X7_31 oM_keys ?_
    refine V_aloadn_0 dX7_takesKey_81 ?_
    refine V_getR dX7_takesKey_82 fl_X7_35 oM_keyAt ?_
    refine V_iloadn_1 dX7_takesKey_85 ?_
    refine V_iald (j := 2) dX7_takesKey_86 aM_keyAt (by decide) (by decide) ?_
    refine V_topi (y := 7) hk2 ?_
    refine V_iload_4 dX7_takesKey_87 ?_
    refine V_iadd dX7_takesKey_89 ?_
    refine V_topi (y := 7) (by decide) ?_
    refine V_cald (j := 7) dX7_takesKey_90 aM_keys (by decide) (by decide) ?_
    refine V_topi (y := 102) ((hK5 7 (by decide)).trans (by decide)) ?_
    refine V_icmpN_ne (a := tp (FF tp n 0 + 0)) (b := 102) dX7_takesKey_91 98 (by decide) (by omega) (by omega) (fun h91 => ?_) (fun h91 => ?_)
    · refine V_iconst 0 dX7_takesKey_98 (by decide) ?_
      refine V_istoren_3 dX7_takesKey_99 (by first | exact rfl | exact True.intro) (by decide) ?_
      refine V_iinc_4 dX7_takesKey_100 (by first | exact rfl | exact True.intro) (by decide) 1 (by decide) ?_
      refine V_goto dX7_takesKey_103 55 (by decide) ?_
      refine V_iload_4 dX7_takesKey_55 ?_
      refine V_iloadn_2 dX7_takesKey_57 ?_
      refine V_icmp_ge_f dX7_takesKey_58 106 (by decide) (by decide) ?_
      refine V_iloadn_3 dX7_takesKey_61 ?_
      refine V_if_eq_t dX7_takesKey_62 106 (by decide) (by decide) ?_
      refine V_iloadn_3 dX7_takesKey_106 ?_
      refine V_if_eq_t dX7_takesKey_107 121 (by decide) (by decide) ?_
      refine V_iinc_1 dX7_takesKey_121 (by first | exact rfl | exact True.intro) (by decide) 3 (by decide) ?_
      refine V_goto dX7_takesKey_124 12 (by decide) ?_
      refine V_fg_2 ?_
      refine V_fg_3 ?_
      refine V_fg_4 ?_
      exact t_key3 hd hS hK g0 g1 (fun q => by obtain ⟨-, a0, a1, a2, a3⟩ := q; exact h91 a0)
    · have hc0 := h91
      refine V_iconst 1 dX7_takesKey_94 (by decide) ?_
      refine V_goto dX7_takesKey_95 99 (by decide) ?_
      refine V_istoren_3 dX7_takesKey_99 (by first | exact rfl | exact True.intro) (by decide) ?_
      refine V_iinc_4 dX7_takesKey_100 (by first | exact rfl | exact True.intro) (by decide) 1 (by decide) ?_
      refine V_goto dX7_takesKey_103 55 (by decide) ?_
      refine V_iload_4 dX7_takesKey_55 ?_
      refine V_iloadn_2 dX7_takesKey_57 ?_
      refine V_icmp_ge_f dX7_takesKey_58 106 (by decide) (by decide) ?_
      refine V_iloadn_3 dX7_takesKey_61 ?_
      refine V_if_eq_f dX7_takesKey_62 106 (by decide) (by decide) ?_
      refine V_aloadn_0 dX7_takesKey_65 ?_
      refine V_getR dX7_takesKey_66 fl_X7_28 oM_tape ?_
      refine V_aloadn_0 dX7_takesKey_69 ?_
      refine V_getI dX7_takesKey_70 fl_X7_210 oM_from ?_
      refine V_topi (y := nI (FF tp n 0)) m10 ?_
      refine V_iload_4 dX7_takesKey_73 ?_
      refine V_iaddN (a := FF tp n 0) (b := 1) dX7_takesKey_75 ?_
      have hb1 := h256 (FF tp n 0 + 1) (by omega)
      refine V_iald (j := (FF tp n 0) + 1) dX7_takesKey_76 aM_tape (by omega) (by decide) ?_
      refine V_topi (y := nI (tp (FF tp n 0 + 1))) (hta _ (by omega)) ?_
      refine V_aloadn_0 dX7_takesKey_77 ?_
      refine V_getR dX7_takesKey_78 fl_X7_31 oM_keys ?_
      refine V_aloadn_0 dX7_takesKey_81 ?_
      refine V_getR dX7_takesKey_82 fl_X7_35 oM_keyAt ?_
      refine V_iloadn_1 dX7_takesKey_85 ?_
      refine V_iald (j := 2) dX7_takesKey_86 aM_keyAt (by decide) (by decide) ?_
      refine V_topi (y := 7) hk2 ?_
      refine V_iload_4 dX7_takesKey_87 ?_
      refine V_iadd dX7_takesKey_89 ?_
      refine V_topi (y := 8) (by decide) ?_
      refine V_cald (j := 8) dX7_takesKey_90 aM_keys (by decide) (by decide) ?_
      refine V_topi (y := 105) ((hK5 8 (by decide)).trans (by decide)) ?_
      refine V_icmpN_ne (a := tp (FF tp n 0 + 1)) (b := 105) dX7_takesKey_91 98 (by decide) (by omega) (by omega) (fun h91 => ?_) (fun h91 => ?_)
      · refine V_iconst 0 dX7_takesKey_98 (by decide) ?_
        refine V_istoren_3 dX7_takesKey_99 (by first | exact rfl | exact True.intro) (by decide) ?_
        refine V_iinc_4 dX7_takesKey_100 (by first | exact rfl | exact True.intro) (by decide) 2 (by decide) ?_
        refine V_goto dX7_takesKey_103 55 (by decide) ?_
        refine V_iload_4 dX7_takesKey_55 ?_
        refine V_iloadn_2 dX7_takesKey_57 ?_
        refine V_icmp_ge_f dX7_takesKey_58 106 (by decide) (by decide) ?_
        refine V_iloadn_3 dX7_takesKey_61 ?_
        refine V_if_eq_t dX7_takesKey_62 106 (by decide) (by decide) ?_
        refine V_iloadn_3 dX7_takesKey_106 ?_
        refine V_if_eq_t dX7_takesKey_107 121 (by decide) (by decide) ?_
        refine V_iinc_1 dX7_takesKey_121 (by first | exact rfl | exact True.intro) (by decide) 3 (by decide) ?_
        refine V_goto dX7_takesKey_124 12 (by decide) ?_
        refine V_fg_2 ?_
        refine V_fg_3 ?_
        refine V_fg_4 ?_
        exact t_key3 hd hS hK g0 g1 (fun q => by obtain ⟨-, a0, a1, a2, a3⟩ := q; exact h91 a1)
      · have hc1 := h91
        refine V_iconst 1 dX7_takesKey_94 (by decide) ?_
        refine V_goto dX7_takesKey_95 99 (by decide) ?_
        refine V_istoren_3 dX7_takesKey_99 (by first | exact rfl | exact True.intro) (by decide) ?_
        refine V_iinc_4 dX7_takesKey_100 (by first | exact rfl | exact True.intro) (by decide) 2 (by decide) ?_
        refine V_goto dX7_takesKey_103 55 (by decide) ?_
        refine V_iload_4 dX7_takesKey_55 ?_
        refine V_iloadn_2 dX7_takesKey_57 ?_
        refine V_icmp_ge_f dX7_takesKey_58 106 (by decide) (by decide) ?_
        refine V_iloadn_3 dX7_takesKey_61 ?_
        refine V_if_eq_f dX7_takesKey_62 106 (by decide) (by decide) ?_
        refine V_aloadn_0 dX7_takesKey_65 ?_
        refine V_getR dX7_takesKey_66 fl_X7_28 oM_tape ?_
        refine V_aloadn_0 dX7_takesKey_69 ?_
        refine V_getI dX7_takesKey_70 fl_X7_210 oM_from ?_
        refine V_topi (y := nI (FF tp n 0)) m10 ?_
        refine V_iload_4 dX7_takesKey_73 ?_
        refine V_iaddN (a := FF tp n 0) (b := 2) dX7_takesKey_75 ?_
        have hb2 := h256 (FF tp n 0 + 2) (by omega)
        refine V_iald (j := (FF tp n 0) + 2) dX7_takesKey_76 aM_tape (by omega) (by decide) ?_
        refine V_topi (y := nI (tp (FF tp n 0 + 2))) (hta _ (by omega)) ?_
        refine V_aloadn_0 dX7_takesKey_77 ?_
        refine V_getR dX7_takesKey_78 fl_X7_31 oM_keys ?_
        refine V_aloadn_0 dX7_takesKey_81 ?_
        refine V_getR dX7_takesKey_82 fl_X7_35 oM_keyAt ?_
        refine V_iloadn_1 dX7_takesKey_85 ?_
        refine V_iald (j := 2) dX7_takesKey_86 aM_keyAt (by decide) (by decide) ?_
        refine V_topi (y := 7) hk2 ?_
        refine V_iload_4 dX7_takesKey_87 ?_
        refine V_iadd dX7_takesKey_89 ?_
        refine V_topi (y := 9) (by decide) ?_
        refine V_cald (j := 9) dX7_takesKey_90 aM_keys (by decide) (by decide) ?_
        refine V_topi (y := 110) ((hK5 9 (by decide)).trans (by decide)) ?_
        refine V_icmpN_ne (a := tp (FF tp n 0 + 2)) (b := 110) dX7_takesKey_91 98 (by decide) (by omega) (by omega) (fun h91 => ?_) (fun h91 => ?_)
        · refine V_iconst 0 dX7_takesKey_98 (by decide) ?_
          refine V_istoren_3 dX7_takesKey_99 (by first | exact rfl | exact True.intro) (by decide) ?_
          refine V_iinc_4 dX7_takesKey_100 (by first | exact rfl | exact True.intro) (by decide) 3 (by decide) ?_
          refine V_goto dX7_takesKey_103 55 (by decide) ?_
          refine V_iload_4 dX7_takesKey_55 ?_
          refine V_iloadn_2 dX7_takesKey_57 ?_
          refine V_icmp_ge_f dX7_takesKey_58 106 (by decide) (by decide) ?_
          refine V_iloadn_3 dX7_takesKey_61 ?_
          refine V_if_eq_t dX7_takesKey_62 106 (by decide) (by decide) ?_
          refine V_iloadn_3 dX7_takesKey_106 ?_
          refine V_if_eq_t dX7_takesKey_107 121 (by decide) (by decide) ?_
          refine V_iinc_1 dX7_takesKey_121 (by first | exact rfl | exact True.intro) (by decide) 3 (by decide) ?_
          refine V_goto dX7_takesKey_124 12 (by decide) ?_
          refine V_fg_2 ?_
          refine V_fg_3 ?_
          refine V_fg_4 ?_
          exact t_key3 hd hS hK g0 g1 (fun q => by obtain ⟨-, a0, a1, a2, a3⟩ := q; exact h91 a2)
        · have hc2 := h91
          refine V_iconst 1 dX7_takesKey_94 (by decide) ?_
          refine V_goto dX7_takesKey_95 99 (by decide) ?_
          refine V_istoren_3 dX7_takesKey_99 (by first | exact rfl | exact True.intro) (by decide) ?_
          refine V_iinc_4 dX7_takesKey_100 (by first | exact rfl | exact True.intro) (by decide) 3 (by decide) ?_
          refine V_goto dX7_takesKey_103 55 (by decide) ?_
          refine V_iload_4 dX7_takesKey_55 ?_
          refine V_iloadn_2 dX7_takesKey_57 ?_
          refine V_icmp_ge_f dX7_takesKey_58 106 (by decide) (by decide) ?_
          refine V_iloadn_3 dX7_takesKey_61 ?_
          refine V_if_eq_f dX7_takesKey_62 106 (by decide) (by decide) ?_
          refine V_aloadn_0 dX7_takesKey_65 ?_
          refine V_getR dX7_takesKey_66 fl_X7_28 oM_tape ?_
          refine V_aloadn_0 dX7_takesKey_69 ?_
          refine V_getI dX7_takesKey_70 fl_X7_210 oM_from ?_
          refine V_topi (y := nI (FF tp n 0)) m10 ?_
          refine V_iload_4 dX7_takesKey_73 ?_
          refine V_iaddN (a := FF tp n 0) (b := 3) dX7_takesKey_75 ?_
          have hb3 := h256 (FF tp n 0 + 3) (by omega)
          refine V_iald (j := (FF tp n 0) + 3) dX7_takesKey_76 aM_tape (by omega) (by decide) ?_
          refine V_topi (y := nI (tp (FF tp n 0 + 3))) (hta _ (by omega)) ?_
          refine V_aloadn_0 dX7_takesKey_77 ?_
          refine V_getR dX7_takesKey_78 fl_X7_31 oM_keys ?_
          refine V_aloadn_0 dX7_takesKey_81 ?_
          refine V_getR dX7_takesKey_82 fl_X7_35 oM_keyAt ?_
          refine V_iloadn_1 dX7_takesKey_85 ?_
          refine V_iald (j := 2) dX7_takesKey_86 aM_keyAt (by decide) (by decide) ?_
          refine V_topi (y := 7) hk2 ?_
          refine V_iload_4 dX7_takesKey_87 ?_
          refine V_iadd dX7_takesKey_89 ?_
          refine V_topi (y := 10) (by decide) ?_
          refine V_cald (j := 10) dX7_takesKey_90 aM_keys (by decide) (by decide) ?_
          refine V_topi (y := 101) ((hK5 10 (by decide)).trans (by decide)) ?_
          refine V_icmpN_ne (a := tp (FF tp n 0 + 3)) (b := 101) dX7_takesKey_91 98 (by decide) (by omega) (by omega) (fun h91 => ?_) (fun h91 => ?_)
          · refine V_iconst 0 dX7_takesKey_98 (by decide) ?_
            refine V_istoren_3 dX7_takesKey_99 (by first | exact rfl | exact True.intro) (by decide) ?_
            refine V_iinc_4 dX7_takesKey_100 (by first | exact rfl | exact True.intro) (by decide) 4 (by decide) ?_
            refine V_goto dX7_takesKey_103 55 (by decide) ?_
            refine V_iload_4 dX7_takesKey_55 ?_
            refine V_iloadn_2 dX7_takesKey_57 ?_
            refine V_icmp_ge_t dX7_takesKey_58 106 (by decide) (by decide) ?_
            refine V_iloadn_3 dX7_takesKey_106 ?_
            refine V_if_eq_t dX7_takesKey_107 121 (by decide) (by decide) ?_
            refine V_iinc_1 dX7_takesKey_121 (by first | exact rfl | exact True.intro) (by decide) 3 (by decide) ?_
            refine V_goto dX7_takesKey_124 12 (by decide) ?_
            refine V_fg_2 ?_
            refine V_fg_3 ?_
            refine V_fg_4 ?_
            exact t_key3 hd hS hK g0 g1 (fun q => by obtain ⟨-, a0, a1, a2, a3⟩ := q; exact h91 a3)
          · have hc3 := h91
            refine V_iconst 1 dX7_takesKey_94 (by decide) ?_
            refine V_goto dX7_takesKey_95 99 (by decide) ?_
            refine V_istoren_3 dX7_takesKey_99 (by first | exact rfl | exact True.intro) (by decide) ?_
            refine V_iinc_4 dX7_takesKey_100 (by first | exact rfl | exact True.intro) (by decide) 4 (by decide) ?_
            refine V_goto dX7_takesKey_103 55 (by decide) ?_
            refine V_iload_4 dX7_takesKey_55 ?_
            refine V_iloadn_2 dX7_takesKey_57 ?_
            refine V_icmp_ge_t dX7_takesKey_58 106 (by decide) (by decide) ?_
            refine V_iloadn_3 dX7_takesKey_106 ?_
            refine V_if_eq_f dX7_takesKey_107 121 (by decide) (by decide) ?_
            refine V_aloadn_0 dX7_takesKey_110 ?_
            refine V_iloadn_1 dX7_takesKey_111 ?_
            refine V_putI dX7_takesKey_112 fp_X7_228 oM_key ?_
            have hky : kyN tp n = 2 := by unfold kyN; rw [if_neg g0, if_neg g1, if_pos ⟨h43.symm, hc0, hc1, hc2, hc3⟩]
            refine V_aloadn_0 dX7_takesKey_115 ?_
            refine V_cv0n dX7_takesKey_116 cv_X7_231 rcM (Nat.le_of_ble_eq_true rfl) (k_M_go (tp := tp) (n := n) (k := 0 + 1) (by omega) (hT.of (vup_ne (by omega)) (vup_p (by decide))) (by rw [vup_ne (by omega)]; exact m9) (by rw [vup_ne (by omega)]; exact m13)) (fun σ1 h5 => ?_)
            refine V_iconst 1 dX7_takesKey_119 (by decide) ?_
            exact V_zret dX7_takesKey_120 (by decide) (Or.inl ⟨by omega, rfl, h5.1, by rw [h5.2.2 14 (by omega), vup_same, hky]; rfl, fun q a => by rw [h5.2.1 q a, vup_p a], fun j a => by rw [h5.2.2 j (by omega), vup_ne (by omega)]⟩)

set_option maxRecDepth 100000 in
set_option maxHeartbeats 4000000 in
theorem t_key1 {G : vG} {d : Nat} {σ : vS} (hd : 3 ≤ d + 1) {tp : Nat → Nat} {n : Nat} (hS : MS tp n 0 σ) (hK : IK σ) (g0 : ¬ kw0 tp (FF tp n 0) (EE tp n (0 + 1))) : V G RX7 cX7_takesKey (some .boolean) 5 (d + 1) (fun r' σ' => KQ tp n σ r' σ') 12 [some (.ref 97), some (.int 1), none, none, none] [] σ := by
  obtain ⟨hT, m10, m9, m13, m11, m12, m12b⟩ := id hS
  obtain ⟨m8, hn96, hta, h256⟩ := id hT
  have hfl := FF_le (tp := tp) (n := n) (k := 0)
  have hel := EE_le (tp := tp) (n := n) (k := 0 + 1)
  obtain ⟨hK5, hk0, hk1, hk2, hk3⟩ := id hK
  have hfe : FF tp n 0 ≤ EE tp n (0 + 1) := by
    by_cases q : FF tp n 0 < n
    · exact Nat.le_of_lt (EE_gt q)
    · rw [EE_end q]; exact FF_le
  refine V_iloadn_1 dX7_takesKey_12 ?_
  refine V_iconst 3 dX7_takesKey_13 (by decide) ?_
  refine V_icmp_ge_f dX7_takesKey_14 127 (by decide) (by decide) ?_
  refine V_aloadn_0 dX7_takesKey_17 ?_
  refine V_getR dX7_takesKey_18 fl_X7_35 oM_keyAt ?_
  refine V_iloadn_1 dX7_takesKey_21 ?_
  refine V_iconst 1 dX7_takesKey_22 (by decide) ?_
  refine V_iadd dX7_takesKey_23 ?_
  refine V_topi (y := 2) (by decide) ?_
  refine V_iald (j := 2) dX7_takesKey_24 aM_keyAt (by decide) (by decide) ?_
  refine V_topi (y := 7) hk2 ?_
  refine V_aloadn_0 dX7_takesKey_25 ?_
  refine V_getR dX7_takesKey_26 fl_X7_35 oM_keyAt ?_
  refine V_iloadn_1 dX7_takesKey_29 ?_
  refine V_iald (j := 1) dX7_takesKey_30 aM_keyAt (by decide) (by decide) ?_
  refine V_topi (y := 4) hk1 ?_
  refine V_isub dX7_takesKey_31 ?_
  refine V_topi (y := 3) (by decide) ?_
  refine V_istoren_2 dX7_takesKey_32 (by first | exact rfl | exact True.intro) (by decide) ?_
  refine V_iloadn_2 dX7_takesKey_33 ?_
  refine V_aloadn_0 dX7_takesKey_34 ?_
  refine V_getI dX7_takesKey_35 fl_X7_207 oM_next ?_
  refine V_topi (y := nI (EE tp n (0 + 1))) m9 ?_
  refine V_aloadn_0 dX7_takesKey_38 ?_
  refine V_getI dX7_takesKey_39 fl_X7_210 oM_from ?_
  refine V_topi (y := nI (FF tp n 0)) m10 ?_
  refine V_isubN (a := EE tp n (0 + 1)) (b := FF tp n 0) dX7_takesKey_42 (by omega) ?_
  refine V_icmpN_ne (a := 3) (b := (EE tp n (0 + 1)) - (FF tp n 0)) dX7_takesKey_43 50 (by decide) (by omega) (by omega) (fun h43 => ?_) (fun h43 => ?_)
  · refine V_iconst 0 dX7_takesKey_50 (by decide) ?_
    refine V_istoren_3 dX7_takesKey_51 (by first | exact rfl | exact True.intro) (by decide) ?_
    refine V_iconst 0 dX7_takesKey_52 (by decide) ?_
    refine V_istore_4 dX7_takesKey_53 (by first | exact rfl | exact True.intro) (by decide) ?_
    refine V_iload_4 dX7_takesKey_55 ?_
    refine V_iloadn_2 dX7_takesKey_57 ?_
    refine V_icmp_ge_f dX7_takesKey_58 106 (by decide) (by decide) ?_
    refine V_iloadn_3 dX7_takesKey_61 ?_
    refine V_if_eq_t dX7_takesKey_62 106 (by decide) (by decide) ?_
    refine V_iloadn_3 dX7_takesKey_106 ?_
    refine V_if_eq_t dX7_takesKey_107 121 (by decide) (by decide) ?_
    refine V_iinc_1 dX7_takesKey_121 (by first | exact rfl | exact True.intro) (by decide) 2 (by decide) ?_
    refine V_goto dX7_takesKey_124 12 (by decide) ?_
    refine V_fg_2 ?_
    refine V_fg_3 ?_
    refine V_fg_4 ?_
    exact t_key2 hd hS hK g0 (fun q => h43 q.1.symm)
  · refine V_iconst 1 dX7_takesKey_46 (by decide) ?_
    refine V_goto dX7_takesKey_47 51 (by decide) ?_
    refine V_istoren_3 dX7_takesKey_51 (by first | exact rfl | exact True.intro) (by decide) ?_
    refine V_iconst 0 dX7_takesKey_52 (by decide) ?_
    refine V_istore_4 dX7_takesKey_53 (by first | exact rfl | exact True.intro) (by decide) ?_
    refine V_iload_4 dX7_takesKey_55 ?_
    refine V_iloadn_2 dX7_takesKey_57 ?_
    refine V_icmp_ge_f dX7_takesKey_58 106 (by decide) (by decide) ?_
    refine V_iloadn_3 dX7_takesKey_61 ?_
    refine V_if_eq_f dX7_takesKey_62 106 (by decide) (by decide) ?_
    refine V_aloadn_0 dX7_takesKey_65 ?_
    refine V_getR dX7_takesKey_66 fl_X7_28 oM_tape ?_
    refine V_aloadn_0 dX7_takesKey_69 ?_
    refine V_getI dX7_takesKey_70 fl_X7_210 oM_from ?_
    refine V_topi (y := nI (FF tp n 0)) m10 ?_
    refine V_iload_4 dX7_takesKey_73 ?_
    refine V_iaddN (a := FF tp n 0) (b := 0) dX7_takesKey_75 ?_
    have hb0 := h256 (FF tp n 0 + 0) (by omega)
    refine V_iald (j := (FF tp n 0) + 0) dX7_takesKey_76 aM_tape (by omega) (by decide) ?_
    refine V_topi (y := nI (tp (FF tp n 0 + 0))) (hta _ (by omega)) ?_
    refine V_aloadn_0 dX7_takesKey_77 ?_
    refine V_getR dX7_takesKey_78 fl_X7_31 oM_keys ?_
    refine V_aloadn_0 dX7_takesKey_81 ?_
    refine V_getR dX7_takesKey_82 fl_X7_35 oM_keyAt ?_
    refine V_iloadn_1 dX7_takesKey_85 ?_
    refine V_iald (j := 1) dX7_takesKey_86 aM_keyAt (by decide) (by decide) ?_
    refine V_topi (y := 4) hk1 ?_
    refine V_iload_4 dX7_takesKey_87 ?_
    refine V_iadd dX7_takesKey_89 ?_
    refine V_topi (y := 4) (by decide) ?_
    refine V_cald (j := 4) dX7_takesKey_90 aM_keys (by decide) (by decide) ?_
    refine V_topi (y := 102) ((hK5 4 (by decide)).trans (by decide)) ?_
    refine V_icmpN_ne (a := tp (FF tp n 0 + 0)) (b := 102) dX7_takesKey_91 98 (by decide) (by omega) (by omega) (fun h91 => ?_) (fun h91 => ?_)
    · refine V_iconst 0 dX7_takesKey_98 (by decide) ?_
      refine V_istoren_3 dX7_takesKey_99 (by first | exact rfl | exact True.intro) (by decide) ?_
      refine V_iinc_4 dX7_takesKey_100 (by first | exact rfl | exact True.intro) (by decide) 1 (by decide) ?_
      refine V_goto dX7_takesKey_103 55 (by decide) ?_
      refine V_iload_4 dX7_takesKey_55 ?_
      refine V_iloadn_2 dX7_takesKey_57 ?_
      refine V_icmp_ge_f dX7_takesKey_58 106 (by decide) (by decide) ?_
      refine V_iloadn_3 dX7_takesKey_61 ?_
      refine V_if_eq_t dX7_takesKey_62 106 (by decide) (by decide) ?_
      refine V_iloadn_3 dX7_takesKey_106 ?_
      refine V_if_eq_t dX7_takesKey_107 121 (by decide) (by decide) ?_
      refine V_iinc_1 dX7_takesKey_121 (by first | exact rfl | exact True.intro) (by decide) 2 (by decide) ?_
      refine V_goto dX7_takesKey_124 12 (by decide) ?_
      refine V_fg_2 ?_
      refine V_fg_3 ?_
      refine V_fg_4 ?_
      exact t_key2 hd hS hK g0 (fun q => by obtain ⟨-, a0, a1, a2⟩ := q; exact h91 a0)
    · have hc0 := h91
      refine V_iconst 1 dX7_takesKey_94 (by decide) ?_
      refine V_goto dX7_takesKey_95 99 (by decide) ?_
      refine V_istoren_3 dX7_takesKey_99 (by first | exact rfl | exact True.intro) (by decide) ?_
      refine V_iinc_4 dX7_takesKey_100 (by first | exact rfl | exact True.intro) (by decide) 1 (by decide) ?_
      refine V_goto dX7_takesKey_103 55 (by decide) ?_
      refine V_iload_4 dX7_takesKey_55 ?_
      refine V_iloadn_2 dX7_takesKey_57 ?_
      refine V_icmp_ge_f dX7_takesKey_58 106 (by decide) (by decide) ?_
      refine V_iloadn_3 dX7_takesKey_61 ?_
      refine V_if_eq_f dX7_takesKey_62 106 (by decide) (by decide) ?_
      refine V_aloadn_0 dX7_takesKey_65 ?_
      refine V_getR dX7_takesKey_66 fl_X7_28 oM_tape ?_
      refine V_aloadn_0 dX7_takesKey_69 ?_
      refine V_getI dX7_takesKey_70 fl_X7_210 oM_from ?_
      refine V_topi (y := nI (FF tp n 0)) m10 ?_
      refine V_iload_4 dX7_takesKey_73 ?_
      refine V_iaddN (a := FF tp n 0) (b := 1) dX7_takesKey_75 ?_
      have hb1 := h256 (FF tp n 0 + 1) (by omega)
      refine V_iald (j := (FF tp n 0) + 1) dX7_takesKey_76 aM_tape (by omega) (by decide) ?_
      refine V_topi (y := nI (tp (FF tp n 0 + 1))) (hta _ (by omega)) ?_
      refine V_aloadn_0 dX7_takesKey_77 ?_
      refine V_getR dX7_takesKey_78 fl_X7_31 oM_keys ?_
      refine V_aloadn_0 dX7_takesKey_81 ?_
      refine V_getR dX7_takesKey_82 fl_X7_35 oM_keyAt ?_
      refine V_iloadn_1 dX7_takesKey_85 ?_
      refine V_iald (j := 1) dX7_takesKey_86 aM_keyAt (by decide) (by decide) ?_
      refine V_topi (y := 4) hk1 ?_
      refine V_iload_4 dX7_takesKey_87 ?_
      refine V_iadd dX7_takesKey_89 ?_
      refine V_topi (y := 5) (by decide) ?_
      refine V_cald (j := 5) dX7_takesKey_90 aM_keys (by decide) (by decide) ?_
      refine V_topi (y := 101) ((hK5 5 (by decide)).trans (by decide)) ?_
      refine V_icmpN_ne (a := tp (FF tp n 0 + 1)) (b := 101) dX7_takesKey_91 98 (by decide) (by omega) (by omega) (fun h91 => ?_) (fun h91 => ?_)
      · refine V_iconst 0 dX7_takesKey_98 (by decide) ?_
        refine V_istoren_3 dX7_takesKey_99 (by first | exact rfl | exact True.intro) (by decide) ?_
        refine V_iinc_4 dX7_takesKey_100 (by first | exact rfl | exact True.intro) (by decide) 2 (by decide) ?_
        refine V_goto dX7_takesKey_103 55 (by decide) ?_
        refine V_iload_4 dX7_takesKey_55 ?_
        refine V_iloadn_2 dX7_takesKey_57 ?_
        refine V_icmp_ge_f dX7_takesKey_58 106 (by decide) (by decide) ?_
        refine V_iloadn_3 dX7_takesKey_61 ?_
        refine V_if_eq_t dX7_takesKey_62 106 (by decide) (by decide) ?_
        refine V_iloadn_3 dX7_takesKey_106 ?_
        refine V_if_eq_t dX7_takesKey_107 121 (by decide) (by decide) ?_
        refine V_iinc_1 dX7_takesKey_121 (by first | exact rfl | exact True.intro) (by decide) 2 (by decide) ?_
        refine V_goto dX7_takesKey_124 12 (by decide) ?_
        refine V_fg_2 ?_
        refine V_fg_3 ?_
        refine V_fg_4 ?_
        exact t_key2 hd hS hK g0 (fun q => by obtain ⟨-, a0, a1, a2⟩ := q; exact h91 a1)
      · have hc1 := h91
        refine V_iconst 1 dX7_takesKey_94 (by decide) ?_
        refine V_goto dX7_takesKey_95 99 (by decide) ?_
        refine V_istoren_3 dX7_takesKey_99 (by first | exact rfl | exact True.intro) (by decide) ?_
        refine V_iinc_4 dX7_takesKey_100 (by first | exact rfl | exact True.intro) (by decide) 2 (by decide) ?_
        refine V_goto dX7_takesKey_103 55 (by decide) ?_
        refine V_iload_4 dX7_takesKey_55 ?_
        refine V_iloadn_2 dX7_takesKey_57 ?_
        refine V_icmp_ge_f dX7_takesKey_58 106 (by decide) (by decide) ?_
        refine V_iloadn_3 dX7_takesKey_61 ?_
        refine V_if_eq_f dX7_takesKey_62 106 (by decide) (by decide) ?_
        refine V_aloadn_0 dX7_takesKey_65 ?_
        refine V_getR dX7_takesKey_66 fl_X7_28 oM_tape ?_
        refine V_aloadn_0 dX7_takesKey_69 ?_
        refine V_getI dX7_takesKey_70 fl_X7_210 oM_from ?_
        refine V_topi (y := nI (FF tp n 0)) m10 ?_
        refine V_iload_4 dX7_takesKey_73 ?_
        refine V_iaddN (a := FF tp n 0) (b := 2) dX7_takesKey_75 ?_
        have hb2 := h256 (FF tp n 0 + 2) (by omega)
        refine V_iald (j := (FF tp n 0) + 2) dX7_takesKey_76 aM_tape (by omega) (by decide) ?_
        refine V_topi (y := nI (tp (FF tp n 0 + 2))) (hta _ (by omega)) ?_
        refine V_aloadn_0 dX7_takesKey_77 ?_
        refine V_getR dX7_takesKey_78 fl_X7_31 oM_keys ?_
        refine V_aloadn_0 dX7_takesKey_81 ?_
        refine V_getR dX7_takesKey_82 fl_X7_35 oM_keyAt ?_
        refine V_iloadn_1 dX7_takesKey_85 ?_
        refine V_iald (j := 1) dX7_takesKey_86 aM_keyAt (by decide) (by decide) ?_
        refine V_topi (y := 4) hk1 ?_
        refine V_iload_4 dX7_takesKey_87 ?_
        refine V_iadd dX7_takesKey_89 ?_
        refine V_topi (y := 6) (by decide) ?_
        refine V_cald (j := 6) dX7_takesKey_90 aM_keys (by decide) (by decide) ?_
        refine V_topi (y := 101) ((hK5 6 (by decide)).trans (by decide)) ?_
        refine V_icmpN_ne (a := tp (FF tp n 0 + 2)) (b := 101) dX7_takesKey_91 98 (by decide) (by omega) (by omega) (fun h91 => ?_) (fun h91 => ?_)
        · refine V_iconst 0 dX7_takesKey_98 (by decide) ?_
          refine V_istoren_3 dX7_takesKey_99 (by first | exact rfl | exact True.intro) (by decide) ?_
          refine V_iinc_4 dX7_takesKey_100 (by first | exact rfl | exact True.intro) (by decide) 3 (by decide) ?_
          refine V_goto dX7_takesKey_103 55 (by decide) ?_
          refine V_iload_4 dX7_takesKey_55 ?_
          refine V_iloadn_2 dX7_takesKey_57 ?_
          refine V_icmp_ge_t dX7_takesKey_58 106 (by decide) (by decide) ?_
          refine V_iloadn_3 dX7_takesKey_106 ?_
          refine V_if_eq_t dX7_takesKey_107 121 (by decide) (by decide) ?_
          refine V_iinc_1 dX7_takesKey_121 (by first | exact rfl | exact True.intro) (by decide) 2 (by decide) ?_
          refine V_goto dX7_takesKey_124 12 (by decide) ?_
          refine V_fg_2 ?_
          refine V_fg_3 ?_
          refine V_fg_4 ?_
          exact t_key2 hd hS hK g0 (fun q => by obtain ⟨-, a0, a1, a2⟩ := q; exact h91 a2)
        · have hc2 := h91
          refine V_iconst 1 dX7_takesKey_94 (by decide) ?_
          refine V_goto dX7_takesKey_95 99 (by decide) ?_
          refine V_istoren_3 dX7_takesKey_99 (by first | exact rfl | exact True.intro) (by decide) ?_
          refine V_iinc_4 dX7_takesKey_100 (by first | exact rfl | exact True.intro) (by decide) 3 (by decide) ?_
          refine V_goto dX7_takesKey_103 55 (by decide) ?_
          refine V_iload_4 dX7_takesKey_55 ?_
          refine V_iloadn_2 dX7_takesKey_57 ?_
          refine V_icmp_ge_t dX7_takesKey_58 106 (by decide) (by decide) ?_
          refine V_iloadn_3 dX7_takesKey_106 ?_
          refine V_if_eq_f dX7_takesKey_107 121 (by decide) (by decide) ?_
          refine V_aloadn_0 dX7_takesKey_110 ?_
          refine V_iloadn_1 dX7_takesKey_111 ?_
          refine V_putI dX7_takesKey_112 fp_X7_228 oM_key ?_
          have hky : kyN tp n = 1 := by unfold kyN; rw [if_neg g0, if_pos ⟨h43.symm, hc0, hc1, hc2⟩]
          refine V_aloadn_0 dX7_takesKey_115 ?_
          refine V_cv0n dX7_takesKey_116 cv_X7_231 rcM (Nat.le_of_ble_eq_true rfl) (k_M_go (tp := tp) (n := n) (k := 0 + 1) (by omega) (hT.of (vup_ne (by omega)) (vup_p (by decide))) (by rw [vup_ne (by omega)]; exact m9) (by rw [vup_ne (by omega)]; exact m13)) (fun σ1 h5 => ?_)
          refine V_iconst 1 dX7_takesKey_119 (by decide) ?_
          exact V_zret dX7_takesKey_120 (by decide) (Or.inl ⟨by omega, rfl, h5.1, by rw [h5.2.2 14 (by omega), vup_same, hky]; rfl, fun q a => by rw [h5.2.1 q a, vup_p a], fun j a => by rw [h5.2.2 j (by omega), vup_ne (by omega)]⟩)

set_option maxRecDepth 100000 in
set_option maxHeartbeats 4000000 in
theorem t_key0 {G : vG} {d : Nat} {σ : vS} (hd : 3 ≤ d + 1) {tp : Nat → Nat} {n : Nat} (hS : MS tp n 0 σ) (hK : IK σ) : V G RX7 cX7_takesKey (some .boolean) 5 (d + 1) (fun r' σ' => KQ tp n σ r' σ') 12 [some (.ref 97), some (.int 0), none, none, none] [] σ := by
  obtain ⟨hT, m10, m9, m13, m11, m12, m12b⟩ := id hS
  obtain ⟨m8, hn96, hta, h256⟩ := id hT
  have hfl := FF_le (tp := tp) (n := n) (k := 0)
  have hel := EE_le (tp := tp) (n := n) (k := 0 + 1)
  obtain ⟨hK5, hk0, hk1, hk2, hk3⟩ := id hK
  have hfe : FF tp n 0 ≤ EE tp n (0 + 1) := by
    by_cases q : FF tp n 0 < n
    · exact Nat.le_of_lt (EE_gt q)
    · rw [EE_end q]; exact FF_le
  refine V_iloadn_1 dX7_takesKey_12 ?_
  refine V_iconst 3 dX7_takesKey_13 (by decide) ?_
  refine V_icmp_ge_f dX7_takesKey_14 127 (by decide) (by decide) ?_
  refine V_aloadn_0 dX7_takesKey_17 ?_
  refine V_getR dX7_takesKey_18 fl_X7_35 oM_keyAt ?_
  refine V_iloadn_1 dX7_takesKey_21 ?_
  refine V_iconst 1 dX7_takesKey_22 (by decide) ?_
  refine V_iadd dX7_takesKey_23 ?_
  refine V_topi (y := 1) (by decide) ?_
  refine V_iald (j := 1) dX7_takesKey_24 aM_keyAt (by decide) (by decide) ?_
  refine V_topi (y := 4) hk1 ?_
  refine V_aloadn_0 dX7_takesKey_25 ?_
  refine V_getR dX7_takesKey_26 fl_X7_35 oM_keyAt ?_
  refine V_iloadn_1 dX7_takesKey_29 ?_
  refine V_iald (j := 0) dX7_takesKey_30 aM_keyAt (by decide) (by decide) ?_
  refine V_topi (y := 0) hk0 ?_
  refine V_isub dX7_takesKey_31 ?_
  refine V_topi (y := 4) (by decide) ?_
  refine V_istoren_2 dX7_takesKey_32 (by first | exact rfl | exact True.intro) (by decide) ?_
  refine V_iloadn_2 dX7_takesKey_33 ?_
  refine V_aloadn_0 dX7_takesKey_34 ?_
  refine V_getI dX7_takesKey_35 fl_X7_207 oM_next ?_
  refine V_topi (y := nI (EE tp n (0 + 1))) m9 ?_
  refine V_aloadn_0 dX7_takesKey_38 ?_
  refine V_getI dX7_takesKey_39 fl_X7_210 oM_from ?_
  refine V_topi (y := nI (FF tp n 0)) m10 ?_
  refine V_isubN (a := EE tp n (0 + 1)) (b := FF tp n 0) dX7_takesKey_42 (by omega) ?_
  refine V_icmpN_ne (a := 4) (b := (EE tp n (0 + 1)) - (FF tp n 0)) dX7_takesKey_43 50 (by decide) (by omega) (by omega) (fun h43 => ?_) (fun h43 => ?_)
  · refine V_iconst 0 dX7_takesKey_50 (by decide) ?_
    refine V_istoren_3 dX7_takesKey_51 (by first | exact rfl | exact True.intro) (by decide) ?_
    refine V_iconst 0 dX7_takesKey_52 (by decide) ?_
    refine V_istore_4 dX7_takesKey_53 (by first | exact rfl | exact True.intro) (by decide) ?_
    refine V_iload_4 dX7_takesKey_55 ?_
    refine V_iloadn_2 dX7_takesKey_57 ?_
    refine V_icmp_ge_f dX7_takesKey_58 106 (by decide) (by decide) ?_
    refine V_iloadn_3 dX7_takesKey_61 ?_
    refine V_if_eq_t dX7_takesKey_62 106 (by decide) (by decide) ?_
    refine V_iloadn_3 dX7_takesKey_106 ?_
    refine V_if_eq_t dX7_takesKey_107 121 (by decide) (by decide) ?_
    refine V_iinc_1 dX7_takesKey_121 (by first | exact rfl | exact True.intro) (by decide) 1 (by decide) ?_
    refine V_goto dX7_takesKey_124 12 (by decide) ?_
    refine V_fg_2 ?_
    refine V_fg_3 ?_
    refine V_fg_4 ?_
    exact t_key1 hd hS hK (fun q => h43 q.1.symm)
  · refine V_iconst 1 dX7_takesKey_46 (by decide) ?_
    refine V_goto dX7_takesKey_47 51 (by decide) ?_
    refine V_istoren_3 dX7_takesKey_51 (by first | exact rfl | exact True.intro) (by decide) ?_
    refine V_iconst 0 dX7_takesKey_52 (by decide) ?_
    refine V_istore_4 dX7_takesKey_53 (by first | exact rfl | exact True.intro) (by decide) ?_
    refine V_iload_4 dX7_takesKey_55 ?_
    refine V_iloadn_2 dX7_takesKey_57 ?_
    refine V_icmp_ge_f dX7_takesKey_58 106 (by decide) (by decide) ?_
    refine V_iloadn_3 dX7_takesKey_61 ?_
    refine V_if_eq_f dX7_takesKey_62 106 (by decide) (by decide) ?_
    refine V_aloadn_0 dX7_takesKey_65 ?_
    refine V_getR dX7_takesKey_66 fl_X7_28 oM_tape ?_
    refine V_aloadn_0 dX7_takesKey_69 ?_
    refine V_getI dX7_takesKey_70 fl_X7_210 oM_from ?_
    refine V_topi (y := nI (FF tp n 0)) m10 ?_
    refine V_iload_4 dX7_takesKey_73 ?_
    refine V_iaddN (a := FF tp n 0) (b := 0) dX7_takesKey_75 ?_
    have hb0 := h256 (FF tp n 0 + 0) (by omega)
    refine V_iald (j := (FF tp n 0) + 0) dX7_takesKey_76 aM_tape (by omega) (by decide) ?_
    refine V_topi (y := nI (tp (FF tp n 0 + 0))) (hta _ (by omega)) ?_
    refine V_aloadn_0 dX7_takesKey_77 ?_
    refine V_getR dX7_takesKey_78 fl_X7_31 oM_keys ?_
    refine V_aloadn_0 dX7_takesKey_81 ?_
    refine V_getR dX7_takesKey_82 fl_X7_35 oM_keyAt ?_
    refine V_iloadn_1 dX7_takesKey_85 ?_
    refine V_iald (j := 0) dX7_takesKey_86 aM_keyAt (by decide) (by decide) ?_
    refine V_topi (y := 0) hk0 ?_
    refine V_iload_4 dX7_takesKey_87 ?_
    refine V_iadd dX7_takesKey_89 ?_
    refine V_topi (y := 0) (by decide) ?_
    refine V_cald (j := 0) dX7_takesKey_90 aM_keys (by decide) (by decide) ?_
    refine V_topi (y := 104) ((hK5 0 (by decide)).trans (by decide)) ?_
    refine V_icmpN_ne (a := tp (FF tp n 0 + 0)) (b := 104) dX7_takesKey_91 98 (by decide) (by omega) (by omega) (fun h91 => ?_) (fun h91 => ?_)
    · refine V_iconst 0 dX7_takesKey_98 (by decide) ?_
      refine V_istoren_3 dX7_takesKey_99 (by first | exact rfl | exact True.intro) (by decide) ?_
      refine V_iinc_4 dX7_takesKey_100 (by first | exact rfl | exact True.intro) (by decide) 1 (by decide) ?_
      refine V_goto dX7_takesKey_103 55 (by decide) ?_
      refine V_iload_4 dX7_takesKey_55 ?_
      refine V_iloadn_2 dX7_takesKey_57 ?_
      refine V_icmp_ge_f dX7_takesKey_58 106 (by decide) (by decide) ?_
      refine V_iloadn_3 dX7_takesKey_61 ?_
      refine V_if_eq_t dX7_takesKey_62 106 (by decide) (by decide) ?_
      refine V_iloadn_3 dX7_takesKey_106 ?_
      refine V_if_eq_t dX7_takesKey_107 121 (by decide) (by decide) ?_
      refine V_iinc_1 dX7_takesKey_121 (by first | exact rfl | exact True.intro) (by decide) 1 (by decide) ?_
      refine V_goto dX7_takesKey_124 12 (by decide) ?_
      refine V_fg_2 ?_
      refine V_fg_3 ?_
      refine V_fg_4 ?_
      exact t_key1 hd hS hK (fun q => by obtain ⟨-, a0, a1, a2, a3⟩ := q; exact h91 a0)
    · have hc0 := h91
      refine V_iconst 1 dX7_takesKey_94 (by decide) ?_
      refine V_goto dX7_takesKey_95 99 (by decide) ?_
      refine V_istoren_3 dX7_takesKey_99 (by first | exact rfl | exact True.intro) (by decide) ?_
      refine V_iinc_4 dX7_takesKey_100 (by first | exact rfl | exact True.intro) (by decide) 1 (by decide) ?_
      refine V_goto dX7_takesKey_103 55 (by decide) ?_
      refine V_iload_4 dX7_takesKey_55 ?_
      refine V_iloadn_2 dX7_takesKey_57 ?_
      refine V_icmp_ge_f dX7_takesKey_58 106 (by decide) (by decide) ?_
      refine V_iloadn_3 dX7_takesKey_61 ?_
      refine V_if_eq_f dX7_takesKey_62 106 (by decide) (by decide) ?_
      refine V_aloadn_0 dX7_takesKey_65 ?_
      refine V_getR dX7_takesKey_66 fl_X7_28 oM_tape ?_
      refine V_aloadn_0 dX7_takesKey_69 ?_
      refine V_getI dX7_takesKey_70 fl_X7_210 oM_from ?_
      refine V_topi (y := nI (FF tp n 0)) m10 ?_
      refine V_iload_4 dX7_takesKey_73 ?_
      refine V_iaddN (a := FF tp n 0) (b := 1) dX7_takesKey_75 ?_
      have hb1 := h256 (FF tp n 0 + 1) (by omega)
      refine V_iald (j := (FF tp n 0) + 1) dX7_takesKey_76 aM_tape (by omega) (by decide) ?_
      refine V_topi (y := nI (tp (FF tp n 0 + 1))) (hta _ (by omega)) ?_
      refine V_aloadn_0 dX7_takesKey_77 ?_
      refine V_getR dX7_takesKey_78 fl_X7_31 oM_keys ?_
      refine V_aloadn_0 dX7_takesKey_81 ?_
      refine V_getR dX7_takesKey_82 fl_X7_35 oM_keyAt ?_
      refine V_iloadn_1 dX7_takesKey_85 ?_
      refine V_iald (j := 0) dX7_takesKey_86 aM_keyAt (by decide) (by decide) ?_
      refine V_topi (y := 0) hk0 ?_
      refine V_iload_4 dX7_takesKey_87 ?_
      refine V_iadd dX7_takesKey_89 ?_
      refine V_topi (y := 1) (by decide) ?_
      refine V_cald (j := 1) dX7_takesKey_90 aM_keys (by decide) (by decide) ?_
      refine V_topi (y := 105) ((hK5 1 (by decide)).trans (by decide)) ?_
      refine V_icmpN_ne (a := tp (FF tp n 0 + 1)) (b := 105) dX7_takesKey_91 98 (by decide) (by omega) (by omega) (fun h91 => ?_) (fun h91 => ?_)
      · refine V_iconst 0 dX7_takesKey_98 (by decide) ?_
        refine V_istoren_3 dX7_takesKey_99 (by first | exact rfl | exact True.intro) (by decide) ?_
        refine V_iinc_4 dX7_takesKey_100 (by first | exact rfl | exact True.intro) (by decide) 2 (by decide) ?_
        refine V_goto dX7_takesKey_103 55 (by decide) ?_
        refine V_iload_4 dX7_takesKey_55 ?_
        refine V_iloadn_2 dX7_takesKey_57 ?_
        refine V_icmp_ge_f dX7_takesKey_58 106 (by decide) (by decide) ?_
        refine V_iloadn_3 dX7_takesKey_61 ?_
        refine V_if_eq_t dX7_takesKey_62 106 (by decide) (by decide) ?_
        refine V_iloadn_3 dX7_takesKey_106 ?_
        refine V_if_eq_t dX7_takesKey_107 121 (by decide) (by decide) ?_
        refine V_iinc_1 dX7_takesKey_121 (by first | exact rfl | exact True.intro) (by decide) 1 (by decide) ?_
        refine V_goto dX7_takesKey_124 12 (by decide) ?_
        refine V_fg_2 ?_
        refine V_fg_3 ?_
        refine V_fg_4 ?_
        exact t_key1 hd hS hK (fun q => by obtain ⟨-, a0, a1, a2, a3⟩ := q; exact h91 a1)
      · have hc1 := h91
        refine V_iconst 1 dX7_takesKey_94 (by decide) ?_
        refine V_goto dX7_takesKey_95 99 (by decide) ?_
        refine V_istoren_3 dX7_takesKey_99 (by first | exact rfl | exact True.intro) (by decide) ?_
        refine V_iinc_4 dX7_takesKey_100 (by first | exact rfl | exact True.intro) (by decide) 2 (by decide) ?_
        refine V_goto dX7_takesKey_103 55 (by decide) ?_
        refine V_iload_4 dX7_takesKey_55 ?_
        refine V_iloadn_2 dX7_takesKey_57 ?_
        refine V_icmp_ge_f dX7_takesKey_58 106 (by decide) (by decide) ?_
        refine V_iloadn_3 dX7_takesKey_61 ?_
        refine V_if_eq_f dX7_takesKey_62 106 (by decide) (by decide) ?_
        refine V_aloadn_0 dX7_takesKey_65 ?_
        refine V_getR dX7_takesKey_66 fl_X7_28 oM_tape ?_
        refine V_aloadn_0 dX7_takesKey_69 ?_
        refine V_getI dX7_takesKey_70 fl_X7_210 oM_from ?_
        refine V_topi (y := nI (FF tp n 0)) m10 ?_
        refine V_iload_4 dX7_takesKey_73 ?_
        refine V_iaddN (a := FF tp n 0) (b := 2) dX7_takesKey_75 ?_
        have hb2 := h256 (FF tp n 0 + 2) (by omega)
        refine V_iald (j := (FF tp n 0) + 2) dX7_takesKey_76 aM_tape (by omega) (by decide) ?_
        refine V_topi (y := nI (tp (FF tp n 0 + 2))) (hta _ (by omega)) ?_
        refine V_aloadn_0 dX7_takesKey_77 ?_
        refine V_getR dX7_takesKey_78 fl_X7_31 oM_keys ?_
        refine V_aloadn_0 dX7_takesKey_81 ?_
        refine V_getR dX7_takesKey_82 fl_X7_35 oM_keyAt ?_
        refine V_iloadn_1 dX7_takesKey_85 ?_
        refine V_iald (j := 0) dX7_takesKey_86 aM_keyAt (by decide) (by decide) ?_
        refine V_topi (y := 0) hk0 ?_
        refine V_iload_4 dX7_takesKey_87 ?_
        refine V_iadd dX7_takesKey_89 ?_
        refine V_topi (y := 2) (by decide) ?_
        refine V_cald (j := 2) dX7_takesKey_90 aM_keys (by decide) (by decide) ?_
        refine V_topi (y := 103) ((hK5 2 (by decide)).trans (by decide)) ?_
        refine V_icmpN_ne (a := tp (FF tp n 0 + 2)) (b := 103) dX7_takesKey_91 98 (by decide) (by omega) (by omega) (fun h91 => ?_) (fun h91 => ?_)
        · refine V_iconst 0 dX7_takesKey_98 (by decide) ?_
          refine V_istoren_3 dX7_takesKey_99 (by first | exact rfl | exact True.intro) (by decide) ?_
          refine V_iinc_4 dX7_takesKey_100 (by first | exact rfl | exact True.intro) (by decide) 3 (by decide) ?_
          refine V_goto dX7_takesKey_103 55 (by decide) ?_
          refine V_iload_4 dX7_takesKey_55 ?_
          refine V_iloadn_2 dX7_takesKey_57 ?_
          refine V_icmp_ge_f dX7_takesKey_58 106 (by decide) (by decide) ?_
          refine V_iloadn_3 dX7_takesKey_61 ?_
          refine V_if_eq_t dX7_takesKey_62 106 (by decide) (by decide) ?_
          refine V_iloadn_3 dX7_takesKey_106 ?_
          refine V_if_eq_t dX7_takesKey_107 121 (by decide) (by decide) ?_
          refine V_iinc_1 dX7_takesKey_121 (by first | exact rfl | exact True.intro) (by decide) 1 (by decide) ?_
          refine V_goto dX7_takesKey_124 12 (by decide) ?_
          refine V_fg_2 ?_
          refine V_fg_3 ?_
          refine V_fg_4 ?_
          exact t_key1 hd hS hK (fun q => by obtain ⟨-, a0, a1, a2, a3⟩ := q; exact h91 a2)
        · have hc2 := h91
          refine V_iconst 1 dX7_takesKey_94 (by decide) ?_
          refine V_goto dX7_takesKey_95 99 (by decide) ?_
          refine V_istoren_3 dX7_takesKey_99 (by first | exact rfl | exact True.intro) (by decide) ?_
          refine V_iinc_4 dX7_takesKey_100 (by first | exact rfl | exact True.intro) (by decide) 3 (by decide) ?_
          refine V_goto dX7_takesKey_103 55 (by decide) ?_
          refine V_iload_4 dX7_takesKey_55 ?_
          refine V_iloadn_2 dX7_takesKey_57 ?_
          refine V_icmp_ge_f dX7_takesKey_58 106 (by decide) (by decide) ?_
          refine V_iloadn_3 dX7_takesKey_61 ?_
          refine V_if_eq_f dX7_takesKey_62 106 (by decide) (by decide) ?_
          refine V_aloadn_0 dX7_takesKey_65 ?_
          refine V_getR dX7_takesKey_66 fl_X7_28 oM_tape ?_
          refine V_aloadn_0 dX7_takesKey_69 ?_
          refine V_getI dX7_takesKey_70 fl_X7_210 oM_from ?_
          refine V_topi (y := nI (FF tp n 0)) m10 ?_
          refine V_iload_4 dX7_takesKey_73 ?_
          refine V_iaddN (a := FF tp n 0) (b := 3) dX7_takesKey_75 ?_
          have hb3 := h256 (FF tp n 0 + 3) (by omega)
          refine V_iald (j := (FF tp n 0) + 3) dX7_takesKey_76 aM_tape (by omega) (by decide) ?_
          refine V_topi (y := nI (tp (FF tp n 0 + 3))) (hta _ (by omega)) ?_
          refine V_aloadn_0 dX7_takesKey_77 ?_
          refine V_getR dX7_takesKey_78 fl_X7_31 oM_keys ?_
          refine V_aloadn_0 dX7_takesKey_81 ?_
          refine V_getR dX7_takesKey_82 fl_X7_35 oM_keyAt ?_
          refine V_iloadn_1 dX7_takesKey_85 ?_
          refine V_iald (j := 0) dX7_takesKey_86 aM_keyAt (by decide) (by decide) ?_
          refine V_topi (y := 0) hk0 ?_
          refine V_iload_4 dX7_takesKey_87 ?_
          refine V_iadd dX7_takesKey_89 ?_
          refine V_topi (y := 3) (by decide) ?_
          refine V_cald (j := 3) dX7_takesKey_90 aM_keys (by decide) (by decide) ?_
          refine V_topi (y := 104) ((hK5 3 (by decide)).trans (by decide)) ?_
          refine V_icmpN_ne (a := tp (FF tp n 0 + 3)) (b := 104) dX7_takesKey_91 98 (by decide) (by omega) (by omega) (fun h91 => ?_) (fun h91 => ?_)
          · refine V_iconst 0 dX7_takesKey_98 (by decide) ?_
            refine V_istoren_3 dX7_takesKey_99 (by first | exact rfl | exact True.intro) (by decide) ?_
            refine V_iinc_4 dX7_takesKey_100 (by first | exact rfl | exact True.intro) (by decide) 4 (by decide) ?_
            refine V_goto dX7_takesKey_103 55 (by decide) ?_
            refine V_iload_4 dX7_takesKey_55 ?_
            refine V_iloadn_2 dX7_takesKey_57 ?_
            refine V_icmp_ge_t dX7_takesKey_58 106 (by decide) (by decide) ?_
            refine V_iloadn_3 dX7_takesKey_106 ?_
            refine V_if_eq_t dX7_takesKey_107 121 (by decide) (by decide) ?_
            refine V_iinc_1 dX7_takesKey_121 (by first | exact rfl | exact True.intro) (by decide) 1 (by decide) ?_
            refine V_goto dX7_takesKey_124 12 (by decide) ?_
            refine V_fg_2 ?_
            refine V_fg_3 ?_
            refine V_fg_4 ?_
            exact t_key1 hd hS hK (fun q => by obtain ⟨-, a0, a1, a2, a3⟩ := q; exact h91 a3)
          · have hc3 := h91
            refine V_iconst 1 dX7_takesKey_94 (by decide) ?_
            refine V_goto dX7_takesKey_95 99 (by decide) ?_
            refine V_istoren_3 dX7_takesKey_99 (by first | exact rfl | exact True.intro) (by decide) ?_
            refine V_iinc_4 dX7_takesKey_100 (by first | exact rfl | exact True.intro) (by decide) 4 (by decide) ?_
            refine V_goto dX7_takesKey_103 55 (by decide) ?_
            refine V_iload_4 dX7_takesKey_55 ?_
            refine V_iloadn_2 dX7_takesKey_57 ?_
            refine V_icmp_ge_t dX7_takesKey_58 106 (by decide) (by decide) ?_
            refine V_iloadn_3 dX7_takesKey_106 ?_
            refine V_if_eq_f dX7_takesKey_107 121 (by decide) (by decide) ?_
            refine V_aloadn_0 dX7_takesKey_110 ?_
            refine V_iloadn_1 dX7_takesKey_111 ?_
            refine V_putI dX7_takesKey_112 fp_X7_228 oM_key ?_
            have hky : kyN tp n = 0 := by unfold kyN; rw [if_pos ⟨h43.symm, hc0, hc1, hc2, hc3⟩]
            refine V_aloadn_0 dX7_takesKey_115 ?_
            refine V_cv0n dX7_takesKey_116 cv_X7_231 rcM (Nat.le_of_ble_eq_true rfl) (k_M_go (tp := tp) (n := n) (k := 0 + 1) (by omega) (hT.of (vup_ne (by omega)) (vup_p (by decide))) (by rw [vup_ne (by omega)]; exact m9) (by rw [vup_ne (by omega)]; exact m13)) (fun σ1 h5 => ?_)
            refine V_iconst 1 dX7_takesKey_119 (by decide) ?_
            exact V_zret dX7_takesKey_120 (by decide) (Or.inl ⟨by omega, rfl, h5.1, by rw [h5.2.2 14 (by omega), vup_same, hky]; rfl, fun q a => by rw [h5.2.1 q a, vup_p a], fun j a => by rw [h5.2.2 j (by omega), vup_ne (by omega)]⟩)

set_option maxRecDepth 100000 in
set_option maxHeartbeats 4000000 in
theorem k_M_takesKey {G : vG} {σ : vS} {d : Nat} (hd : 3 ≤ d) {tp : Nat → Nat} {n : Nat} (hS : MS tp n 0 σ) (hK : IK σ) : Ct G yX7_takesKey cX7_takesKey 5 (some .boolean) d [.ref 97] σ (fun r' σ' => KQ tp n σ r' σ') := by
  refine Ct.ofV (by decide) (Nat.le_of_ble_eq_true rfl) rfl ?_
  show V G RX7 cX7_takesKey (some .boolean) 5 d _ 0 [some (.ref 97), none, none, none, none] [] _
  obtain ⟨d, rfl⟩ : ∃ e, d = e + 1 := ⟨d - 1, by omega⟩
  have htl := tok_le (tp := tp) (n := n) (k := 0)
  have hkl := ky_le (tp := tp) (n := n)
  refine V_aloadn_0 dX7_takesKey_0 ?_
  refine V_getI dX7_takesKey_1 fl_X7_216 oM_token ?_
  refine V_topi (y := nI (tokN tp n 0)) hS.2.2.2.2.1 ?_
  refine V_iconst 1 dX7_takesKey_4 (by decide) ?_
  refine V_icmpN_eq (a := tokN tp n 0) (b := 1) dX7_takesKey_5 10 (by decide) (by omega) (by omega) (fun h5 => ?_) (fun h5 => ?_)
  · refine V_iconst 0 dX7_takesKey_10 (by decide) ?_
    refine V_istoren_1 dX7_takesKey_11 (by first | exact rfl | exact True.intro) (by decide) ?_
    exact t_key0 (by omega) hS hK
  · refine V_iconst 0 dX7_takesKey_8 (by decide) ?_
    exact V_zret dX7_takesKey_9 (by decide) (Or.inr ⟨Classical.byContradiction (fun q => h5 (key_tok (by omega))), rfl, rfl⟩)

def FX (σ σ' : vS) : Prop := (∀ q, q ≠ 97 → q ≠ 107 → q ≠ 108 → q ≠ 109 → σ' q = σ q) ∧ ∀ j, ¬ (9 ≤ j ∧ j ≤ 13) → j ≠ 18 → j ≠ 19 → j ≠ 21 → σ' 97 j = σ 97 j
theorem FX.rf {σ : vS} : FX σ σ := ⟨fun _ _ _ _ _ => rfl, fun _ _ _ _ _ => rfl⟩
theorem FX.tr {σ σ1 σ2 : vS} (h1 : FX σ σ1) (h2 : FX σ1 σ2) : FX σ σ2 := ⟨fun q a b c d => (h2.1 q a b c d).trans (h1.1 q a b c d), fun j a b c d => (h2.2 j a b c d).trans (h1.2 j a b c d)⟩
theorem FG.x {σ σ' : vS} (h : FG σ σ') : FX σ σ' := ⟨fun q a _ _ _ => h.1 q a, fun j a _ _ _ => h.2 j a⟩
theorem FS.x {σ σ' : vS} (h : FS σ σ') : FX σ σ' := ⟨fun q a b _ _ => h.1 q a b, fun j _ b _ c => h.2 j b c⟩
theorem FX.up {σ : vS} {j : Nat} {v : Int32} (h : (9 ≤ j ∧ j ≤ 13) ∨ j = 18 ∨ j = 19 ∨ j = 21) : FX σ (vup σ 97 j v) := ⟨fun q a _ _ _ => vup_p a, fun i a b c d => vup_ne (by omega)⟩
theorem FX.ar {σ : vS} {p j : Nat} {v : Int32} (h : p = 107 ∨ p = 108 ∨ p = 109) : FX σ (vup σ p j v) := ⟨fun q a b c d => vup_p (by omega), fun i a b c d => vup_ne (by omega)⟩
def TS (t : List Bool) (σ : vS) : Prop := ∀ i, i < t.length → σ 109 (t.length - 1 - i) = bI (t.getD i false = true)
def CF (tp : Nat → Nat) (n ky k : Nat) (c w : List Nat) (t : List Bool) (σ : vS) : Prop := MS tp n k σ ∧ σ 97 14 = nI ky ∧ σ 97 19 = nI (lvN c) ∧ CW c w σ ∧ TS t σ
theorem MT.fx {tp : Nat → Nat} {n : Nat} {σ σ' : vS} (h : MT tp n σ) (hf : FX σ σ') : MT tp n σ' := h.of (hf.2 8 (by omega) (by omega) (by omega) (by omega)) (hf.1 104 (by decide) (by decide) (by decide) (by decide))
theorem CW.push {c w : List Nat} {v : Nat} {σ : vS} (h : CW c w σ) (hv : v < 20000) : CW (c ++ [v]) w (vup (vup (vup σ 107 c.length (nI v)) 97 18 (nI (c.length + 1))) 97 19 (nI (lvN c + 1))) := by
  obtain ⟨h1, h2, h3, h4⟩ := h
  refine ⟨?_, ?_, fun i hi => ?_, fun i hi => ?_⟩
  · rw [vup_ne (by omega), vup_same, List.length_append]; rfl
  · rw [vup_ne (by omega), vup_ne (by omega), vup_ne (by omega)]; exact h2
  · rw [List.length_append] at hi
    have hi2 : i < c.length + 1 := hi
    rw [vup_ne (by omega), vup_ne (by omega)]
    by_cases e : i = c.length
    · rw [e, vup_same, rw_new, enc_nat hv]
    · rw [vup_ne (by omega), rw_old (by omega)]
      exact h3 i (by omega)
  · rw [vup_ne (by omega), vup_ne (by omega), vup_ne (by omega)]
    exact h4 i hi
theorem stl_lv {r : Nat} : ∀ w c, lvN (stl r c w).1 = lvN c := by
  intro w
  induction w with
  | nil => intro c; rfl
  | cons s u ih =>
    intro c
    by_cases h : s ≠ 40 ∧ r ≤ rk s
    · rw [stl_y h, ih, lv_app, if_neg (by omega)]; rfl
    · rw [stl_n h]
theorem tk_val {tp : Nat → Nat} {n ky k : Nat} (h : tkN tp n ky k < 20000) : (tokN tp n k = 2 ∧ tkN tp n ky k = numF tp (FF tp n k) (EE tp n (k + 1) - FF tp n k)) ∨ (tokN tp n k = 1 ∧ EE tp n (k + 1) - FF tp n k = 1 ∧ nmN ky (tp (FF tp n k)) ≠ 0 ∧ tkN tp n ky k = 10000 + (nmN ky (tp (FF tp n k)) - 1)) := by
  have hF := (tk_leaf h).1
  have hl := srt_le (b := tp (FF tp n k))
  rcases (show srt (tp (FF tp n k)) = 0 ∨ srt (tp (FF tp n k)) = 1 ∨ srt (tp (FF tp n k)) = 2 by omega) with hs | hs | hs
  · rw [tk_sign hF hs] at h; omega
  · right
    by_cases hb : gluP tp n k ∨ ¬ (EE tp n (k + 1) - FF tp n k = 1 ∧ nmN ky (tp (FF tp n k)) ≠ 0)
    · rw [tk_nameB hF hs hb] at h; omega
    · have hb2 : ¬ gluP tp n k := fun q => hb (Or.inl q)
      have hb3 : EE tp n (k + 1) - FF tp n k = 1 ∧ nmN ky (tp (FF tp n k)) ≠ 0 := Classical.byContradiction (fun q => hb (Or.inr q))
      exact ⟨by unfold tokN; rw [if_pos hF, if_neg (by omega), if_pos hs, if_neg hb2], hb3.1, hb3.2, tk_name hF hs hb2 hb3.1 hb3.2⟩
  · left
    by_cases hb : gluP tp n k ∨ 4 < EE tp n (k + 1) - FF tp n k
    · rw [tk_numB hF hs hb] at h; omega
    · have hb2 : ¬ gluP tp n k := fun q => hb (Or.inl q)
      have hb3 : EE tp n (k + 1) - FF tp n k ≤ 4 := Nat.le_of_not_lt (fun q => hb (Or.inr q))
      exact ⟨by unfold tokN; rw [if_pos hF, if_neg (by omega), if_neg (by omega), if_neg hb], tk_num hF hs hb2 hb3⟩
theorem tk_nval {tp : Nat → Nat} {n ky k : Nat} (h : ¬ tkN tp n ky k < 20000) : tokN tp n k ≠ 2 ∧ (tokN tp n k = 1 → EE tp n (k + 1) - FF tp n k = 1 → nmN ky (tp (FF tp n k)) = 0) := by
  unfold tokN
  by_cases hF : FF tp n k < n
  · rw [if_pos hF]
    have hl := srt_le (b := tp (FF tp n k))
    rcases (show srt (tp (FF tp n k)) = 0 ∨ srt (tp (FF tp n k)) = 1 ∨ srt (tp (FF tp n k)) = 2 by omega) with hs | hs | hs
    · rw [if_pos hs]; exact ⟨by decide, fun q => absurd q (by decide)⟩
    · rw [if_neg (by omega), if_pos hs]
      by_cases hg : gluP tp n k
      · rw [if_pos hg]; exact ⟨by decide, fun q => absurd q (by decide)⟩
      · rw [if_neg hg]
        refine ⟨by decide, fun _ h1 => Classical.byContradiction (fun q => h ?_)⟩
        rw [tk_name hF hs hg h1 q]
        have := nm_le (ky := ky) (b := tp (FF tp n k))
        omega
    · rw [if_neg (by omega), if_neg (by omega)]
      by_cases hb : gluP tp n k ∨ 4 < EE tp n (k + 1) - FF tp n k
      · rw [if_pos hb]; exact ⟨by decide, fun q => absurd q (by decide)⟩
      · exfalso
        apply h
        have hb2 : ¬ gluP tp n k := fun q => hb (Or.inl q)
        have hb3 : EE tp n (k + 1) - FF tp n k ≤ 4 := Nat.le_of_not_lt (fun q => hb (Or.inr q))
        rw [tk_num hF hs hb2 hb3]
        have := tk_num_lt hF hs hb3
        omega
  · rw [if_neg hF]; exact ⟨by decide, fun q => absurd q (by decide)⟩

set_option maxRecDepth 100000 in
set_option maxHeartbeats 4000000 in
theorem k_M_part2 {G : vG} {σ : vS} {d : Nat} (hd : 3 ≤ d) {tp : Nat → Nat} {n ky k : Nat} {c w : List Nat} {t : List Bool} (hS : CF tp n ky k c w t σ) (hk2 : ky ≤ 2) (hok : wOK w) (h95 : c.length + w.length < 96) (htk : tkN tp n ky k < 20000) (htok : tokN tp n k = 2)  (hv : tkN tp n ky k = numF tp (FF tp n k) (EE tp n (k + 1) - FF tp n k)) : Cr G yX7_takesPart cX7_takesPart 2 (some .boolean) d [.ref 97] σ (some (.int 1)) (fun σ' => CF tp n ky (k + 1) (stl 6 (c ++ [tkN tp n ky k]) w).1 (stl 6 (c ++ [tkN tp n ky k]) w).2 t σ' ∧ FX σ σ') := by
  refine Ct.ofV (by decide) (Nat.le_of_ble_eq_true rfl) rfl ?_
  show V G RX7 cX7_takesPart (some .boolean) 2 d _ 0 [some (.ref 97), none] [] _
  obtain ⟨d, rfl⟩ : ∃ e, d = e + 1 := ⟨d - 1, by omega⟩
  obtain ⟨hM, h14, h19, hW, hTS⟩ := id hS
  obtain ⟨hT, m10, m9, m13, m11, m12, m12b⟩ := id hM
  obtain ⟨m8, hn96, hta, h256⟩ := id hT
  have hfl := FF_le (tp := tp) (n := n) (k := k)
  have hel := EE_le (tp := tp) (n := n) (k := k + 1)
  have htl := tok_le (tp := tp) (n := n) (k := k)
  have hlv := lv_le (c := c)
  rw [htok] at m11
  have f3 : FX σ (vup (vup (vup σ 107 c.length (nI (numF tp (FF tp n k) (EE tp n (k + 1) - FF tp n k)))) 97 18 (nI (c.length + 1))) 97 19 (nI (lvN c + 1))) := ((FX.ar (by omega)).tr (FX.up (by omega))).tr (FX.up (by omega))
  have hW3 : CW (c ++ [tkN tp n ky k]) w (vup (vup (vup σ 107 c.length (nI (numF tp (FF tp n k) (EE tp n (k + 1) - FF tp n k)))) 97 18 (nI (c.length + 1))) 97 19 (nI (lvN c + 1))) := by rw [← hv]; exact hW.push htk
  refine V_aloadn_0 dX7_takesPart_0 ?_
  refine V_getI dX7_takesPart_1 fl_X7_216 oM_token ?_
  refine V_topi (y := 2) m11 ?_
  refine V_iconst 1 dX7_takesPart_4 (by decide) ?_
  refine V_icmp_ne_t dX7_takesPart_5 36 (by decide) (by decide) ?_
  refine V_iconst 0 dX7_takesPart_36 (by decide) ?_
  refine V_istoren_1 dX7_takesPart_37 (by first | exact rfl | exact True.intro) (by decide) ?_
  refine V_aloadn_0 dX7_takesPart_38 ?_
  refine V_getI dX7_takesPart_39 fl_X7_216 oM_token ?_
  refine V_topi (y := 2) m11 ?_
  refine V_iconst 2 dX7_takesPart_42 (by decide) ?_
  refine V_icmp_eq_t dX7_takesPart_43 52 (by decide) (by decide) ?_
  refine V_aloadn_0 dX7_takesPart_52 ?_
  refine V_getR dX7_takesPart_53 fl_X7_38 oM_code ?_
  refine V_aloadn_0 dX7_takesPart_56 ?_
  refine V_getI dX7_takesPart_57 fl_X7_240 oM_codes ?_
  refine V_topi (y := nI c.length) hW.1 ?_
  refine V_aloadn_0 dX7_takesPart_60 ?_
  refine V_getI dX7_takesPart_61 fl_X7_216 oM_token ?_
  refine V_topi (y := 2) m11 ?_
  refine V_iconst 2 dX7_takesPart_64 (by decide) ?_
  refine V_icmp_ne_f dX7_takesPart_65 75 (by decide) (by decide) ?_
  refine V_aloadn_0 dX7_takesPart_68 ?_
  refine V_getI dX7_takesPart_69 fl_X7_222 oM_value ?_
  refine V_topi (y := nI (numF tp (FF tp n k) (EE tp n (k + 1) - FF tp n k))) (m12b htok) ?_
  refine V_goto dX7_takesPart_72 87 (by decide) ?_
  refine V_iast (j := c.length) dX7_takesPart_87 aM_code (by omega) (by decide) ?_
  refine V_aloadn_0 dX7_takesPart_88 ?_
  refine V_dup dX7_takesPart_89 rfl ?_
  refine V_getI dX7_takesPart_90 fl_X7_240 oM_codes ?_
  refine V_topi (y := nI c.length) (by rw [vup_ne (by omega)]; exact hW.1) ?_
  refine V_iconst 1 dX7_takesPart_93 (by decide) ?_
  refine V_iaddN (a := c.length) (b := 1) dX7_takesPart_94 ?_
  refine V_putI dX7_takesPart_95 fp_X7_240 oM_codes ?_
  refine V_aloadn_0 dX7_takesPart_98 ?_
  refine V_dup dX7_takesPart_99 rfl ?_
  refine V_getI dX7_takesPart_100 fl_X7_246 oM_atoms ?_
  refine V_topi (y := nI (lvN c)) (by rw [vup_ne (by omega), vup_ne (by omega)]; exact h19) ?_
  refine V_iconst 1 dX7_takesPart_103 (by decide) ?_
  refine V_iaddN (a := lvN c) (b := 1) dX7_takesPart_104 ?_
  refine V_putI dX7_takesPart_105 fp_X7_246 oM_atoms ?_
  refine V_aloadn_0 dX7_takesPart_108 ?_
  refine V_bipush 6 dX7_takesPart_109 (by decide) ?_
  refine V_cv1n dX7_takesPart_111 cv_X7_249 rcM (Nat.le_of_ble_eq_true rfl) (k_M_settle (r := 6) (by omega) hW3 hok (by simp only [List.length_append, List.length_cons, List.length_nil]; omega) (by decide)) (fun σ4 h4 => ?_)
  have f4 := f3.tr h4.2.x
  refine V_aloadn_0 dX7_takesPart_114 ?_
  refine V_cv0n dX7_takesPart_115 cv_X7_231 rcM (Nat.le_of_ble_eq_true rfl) (k_M_go (tp := tp) (n := n) (k := k + 1) (by omega) (hT.fx f4) (by rw [h4.2.2 9 (by decide) (by decide), vup_ne (by omega), vup_ne (by omega), vup_ne (by omega)]; exact m9) (by rw [h4.2.2 13 (by decide) (by decide), vup_ne (by omega), vup_ne (by omega), vup_ne (by omega)]; exact m13)) (fun σ5 h5 => ?_)
  refine V_iconst 1 dX7_takesPart_118 (by decide) ?_
  exact V_zret dX7_takesPart_119 (by decide) ⟨rfl, ⟨h5.1, by rw [h5.2.2 14 (by omega), h4.2.2 14 (by decide) (by decide), vup_ne (by omega), vup_ne (by omega), vup_ne (by omega)]; exact h14, by rw [h5.2.2 19 (by omega), h4.2.2 19 (by decide) (by decide), vup_same, stl_lv, lv_app, if_pos htk], h4.1.fg h5.2, fun i hi => by rw [h5.2.1 109 (by decide), h4.2.1 109 (by decide) (by decide), vup_p (by decide), vup_p (by decide), vup_p (by decide)]; exact hTS i hi⟩, f4.tr h5.2.x⟩

set_option maxRecDepth 100000 in
set_option maxHeartbeats 4000000 in
theorem k_M_part1 {G : vG} {σ : vS} {d : Nat} (hd : 3 ≤ d) {tp : Nat → Nat} {n ky k : Nat} {c w : List Nat} {t : List Bool} (hS : CF tp n ky k c w t σ) (hk2 : ky ≤ 2) (hok : wOK w) (h95 : c.length + w.length < 96) (htk : tkN tp n ky k < 20000) (htok : tokN tp n k = 1) (h1 : EE tp n (k + 1) - FF tp n k = 1) (hnm : nmN ky (tp (FF tp n k)) ≠ 0) (hv : tkN tp n ky k = 10000 + (nmN ky (tp (FF tp n k)) - 1)) : Cr G yX7_takesPart cX7_takesPart 2 (some .boolean) d [.ref 97] σ (some (.int 1)) (fun σ' => CF tp n ky (k + 1) (stl 6 (c ++ [tkN tp n ky k]) w).1 (stl 6 (c ++ [tkN tp n ky k]) w).2 t σ' ∧ FX σ σ') := by
  refine Ct.ofV (by decide) (Nat.le_of_ble_eq_true rfl) rfl ?_
  show V G RX7 cX7_takesPart (some .boolean) 2 d _ 0 [some (.ref 97), none] [] _
  obtain ⟨d, rfl⟩ : ∃ e, d = e + 1 := ⟨d - 1, by omega⟩
  obtain ⟨hM, h14, h19, hW, hTS⟩ := id hS
  obtain ⟨hT, m10, m9, m13, m11, m12, m12b⟩ := id hM
  obtain ⟨m8, hn96, hta, h256⟩ := id hT
  have hfl := FF_le (tp := tp) (n := n) (k := k)
  have hel := EE_le (tp := tp) (n := n) (k := k + 1)
  have htl := tok_le (tp := tp) (n := n) (k := k)
  have hlv := lv_le (c := c)
  have hF := (tk_leaf htk).1
  have hge := EE_gt hF
  have hnl := nm_le (ky := ky) (b := tp (FF tp n k))
  rw [htok] at m11
  have f3 : FX σ (vup (vup (vup σ 107 c.length (nI (10000 + (nmN ky (tp (FF tp n k)) - 1)))) 97 18 (nI (c.length + 1))) 97 19 (nI (lvN c + 1))) := ((FX.ar (by omega)).tr (FX.up (by omega))).tr (FX.up (by omega))
  have hW3 : CW (c ++ [tkN tp n ky k]) w (vup (vup (vup σ 107 c.length (nI (10000 + (nmN ky (tp (FF tp n k)) - 1)))) 97 18 (nI (c.length + 1))) 97 19 (nI (lvN c + 1))) := by rw [← hv]; exact hW.push htk
  refine V_aloadn_0 dX7_takesPart_0 ?_
  refine V_getI dX7_takesPart_1 fl_X7_216 oM_token ?_
  refine V_topi (y := 1) m11 ?_
  refine V_iconst 1 dX7_takesPart_4 (by decide) ?_
  refine V_icmp_ne_f dX7_takesPart_5 36 (by decide) (by decide) ?_
  refine V_aloadn_0 dX7_takesPart_8 ?_
  refine V_getI dX7_takesPart_9 fl_X7_207 oM_next ?_
  refine V_topi (y := nI (EE tp n (k + 1))) m9 ?_
  refine V_aloadn_0 dX7_takesPart_12 ?_
  refine V_getI dX7_takesPart_13 fl_X7_210 oM_from ?_
  refine V_topi (y := nI (FF tp n k)) m10 ?_
  refine V_isubN (a := EE tp n (k + 1)) (b := FF tp n k) dX7_takesPart_16 (by omega) ?_
  refine V_iconst 1 dX7_takesPart_17 (by decide) ?_
  refine V_icmpN_ne (a := (EE tp n (k + 1)) - (FF tp n k)) (b := 1) dX7_takesPart_18 36 (by decide) (by omega) (by omega) (fun h18 => ?_) (fun h18 => ?_)
  · exact absurd h1 h18
  · refine V_aloadn_0 dX7_takesPart_21 ?_
    refine V_aloadn_0 dX7_takesPart_22 ?_
    refine V_getI dX7_takesPart_23 fl_X7_222 oM_value ?_
    refine V_topi (y := nI (tp (FF tp n k))) (m12 (Or.inl htok)) ?_
    refine V_cv1f dX7_takesPart_26 cv_X7_243 rcM (Nat.le_of_ble_eq_true rfl) (k_M_nameOf h14 hk2 (h256 _ hF)) ?_
    refine V_if_lt dX7_takesPart_29 36 (by decide) (fun h29 => ?_) (fun h29 => ?_)
    · exact absurd (lw_neg (by omega) h29) hnm
    · refine V_iconst 1 dX7_takesPart_32 (by decide) ?_
      refine V_goto dX7_takesPart_33 37 (by decide) ?_
      refine V_istoren_1 dX7_takesPart_37 (by first | exact rfl | exact True.intro) (by decide) ?_
      refine V_aloadn_0 dX7_takesPart_38 ?_
      refine V_getI dX7_takesPart_39 fl_X7_216 oM_token ?_
      refine V_topi (y := 1) m11 ?_
      refine V_iconst 2 dX7_takesPart_42 (by decide) ?_
      refine V_icmp_eq_f dX7_takesPart_43 52 (by decide) (by decide) ?_
      refine V_iloadn_1 dX7_takesPart_46 ?_
      refine V_if_ne_t dX7_takesPart_47 52 (by decide) (by decide) ?_
      refine V_aloadn_0 dX7_takesPart_52 ?_
      refine V_getR dX7_takesPart_53 fl_X7_38 oM_code ?_
      refine V_aloadn_0 dX7_takesPart_56 ?_
      refine V_getI dX7_takesPart_57 fl_X7_240 oM_codes ?_
      refine V_topi (y := nI c.length) hW.1 ?_
      refine V_aloadn_0 dX7_takesPart_60 ?_
      refine V_getI dX7_takesPart_61 fl_X7_216 oM_token ?_
      refine V_topi (y := 1) m11 ?_
      refine V_iconst 2 dX7_takesPart_64 (by decide) ?_
      refine V_icmp_ne_t dX7_takesPart_65 75 (by decide) (by decide) ?_
      refine V_sipush 10000 dX7_takesPart_75 (by decide) ?_
      refine V_aloadn_0 dX7_takesPart_78 ?_
      refine V_aloadn_0 dX7_takesPart_79 ?_
      refine V_getI dX7_takesPart_80 fl_X7_222 oM_value ?_
      refine V_topi (y := nI (tp (FF tp n k))) (m12 (Or.inl htok)) ?_
      refine V_cv1f dX7_takesPart_83 cv_X7_243 rcM (Nat.le_of_ble_eq_true rfl) (k_M_nameOf h14 hk2 (h256 _ hF)) ?_
      refine V_topi (y := nI (nmN ky (tp (FF tp n k)) - 1)) (lw_val hnm) ?_
      refine V_iaddN (a := 10000) (b := nmN ky (tp (FF tp n k)) - 1) dX7_takesPart_86 ?_
      refine V_iast (j := c.length) dX7_takesPart_87 aM_code (by omega) (by decide) ?_
      refine V_aloadn_0 dX7_takesPart_88 ?_
      refine V_dup dX7_takesPart_89 rfl ?_
      refine V_getI dX7_takesPart_90 fl_X7_240 oM_codes ?_
      refine V_topi (y := nI c.length) (by rw [vup_ne (by omega)]; exact hW.1) ?_
      refine V_iconst 1 dX7_takesPart_93 (by decide) ?_
      refine V_iaddN (a := c.length) (b := 1) dX7_takesPart_94 ?_
      refine V_putI dX7_takesPart_95 fp_X7_240 oM_codes ?_
      refine V_aloadn_0 dX7_takesPart_98 ?_
      refine V_dup dX7_takesPart_99 rfl ?_
      refine V_getI dX7_takesPart_100 fl_X7_246 oM_atoms ?_
      refine V_topi (y := nI (lvN c)) (by rw [vup_ne (by omega), vup_ne (by omega)]; exact h19) ?_
      refine V_iconst 1 dX7_takesPart_103 (by decide) ?_
      refine V_iaddN (a := lvN c) (b := 1) dX7_takesPart_104 ?_
      refine V_putI dX7_takesPart_105 fp_X7_246 oM_atoms ?_
      refine V_aloadn_0 dX7_takesPart_108 ?_
      refine V_bipush 6 dX7_takesPart_109 (by decide) ?_
      refine V_cv1n dX7_takesPart_111 cv_X7_249 rcM (Nat.le_of_ble_eq_true rfl) (k_M_settle (r := 6) (by omega) hW3 hok (by simp only [List.length_append, List.length_cons, List.length_nil]; omega) (by decide)) (fun σ4 h4 => ?_)
      have f4 := f3.tr h4.2.x
      refine V_aloadn_0 dX7_takesPart_114 ?_
      refine V_cv0n dX7_takesPart_115 cv_X7_231 rcM (Nat.le_of_ble_eq_true rfl) (k_M_go (tp := tp) (n := n) (k := k + 1) (by omega) (hT.fx f4) (by rw [h4.2.2 9 (by decide) (by decide), vup_ne (by omega), vup_ne (by omega), vup_ne (by omega)]; exact m9) (by rw [h4.2.2 13 (by decide) (by decide), vup_ne (by omega), vup_ne (by omega), vup_ne (by omega)]; exact m13)) (fun σ5 h5 => ?_)
      refine V_iconst 1 dX7_takesPart_118 (by decide) ?_
      exact V_zret dX7_takesPart_119 (by decide) ⟨rfl, ⟨h5.1, by rw [h5.2.2 14 (by omega), h4.2.2 14 (by decide) (by decide), vup_ne (by omega), vup_ne (by omega), vup_ne (by omega)]; exact h14, by rw [h5.2.2 19 (by omega), h4.2.2 19 (by decide) (by decide), vup_same, stl_lv, lv_app, if_pos htk], h4.1.fg h5.2, fun i hi => by rw [h5.2.1 109 (by decide), h4.2.1 109 (by decide) (by decide), vup_p (by decide), vup_p (by decide), vup_p (by decide)]; exact hTS i hi⟩, f4.tr h5.2.x⟩

set_option maxRecDepth 100000 in
set_option maxHeartbeats 4000000 in
theorem k_M_partB {G : vG} {σ : vS} {d : Nat} (hd : 3 ≤ d) {tp : Nat → Nat} {n ky k : Nat} {c w : List Nat} {t : List Bool} (hS : CF tp n ky k c w t σ) (hk2 : ky ≤ 2) (htk : ¬ tkN tp n ky k < 20000) : Cf G yX7_takesPart cX7_takesPart 2 (some .boolean) d [.ref 97] σ (some (.int 0)) σ := by
  refine Ct.ofV (by decide) (Nat.le_of_ble_eq_true rfl) rfl ?_
  show V G RX7 cX7_takesPart (some .boolean) 2 d _ 0 [some (.ref 97), none] [] _
  obtain ⟨d, rfl⟩ : ∃ e, d = e + 1 := ⟨d - 1, by omega⟩
  obtain ⟨hM, h14, h19, hW, hTS⟩ := id hS
  obtain ⟨hT, m10, m9, m13, m11, m12, m12b⟩ := id hM
  obtain ⟨m8, hn96, hta, h256⟩ := id hT
  have hfl := FF_le (tp := tp) (n := n) (k := k)
  have hel := EE_le (tp := tp) (n := n) (k := k + 1)
  have htl := tok_le (tp := tp) (n := n) (k := k)
  have hlv := lv_le (c := c)
  have hnv := tk_nval htk
  have hnl := nm_le (ky := ky) (b := tp (FF tp n k))
  have hge : tokN tp n k = 1 → FF tp n k < EE tp n (k + 1) ∧ FF tp n k < n := fun q => by
    have hF : FF tp n k < n := Classical.byContradiction (fun h => by unfold tokN at q; rw [if_neg h] at q; omega)
    exact ⟨EE_gt hF, hF⟩
  refine V_aloadn_0 dX7_takesPart_0 ?_
  refine V_getI dX7_takesPart_1 fl_X7_216 oM_token ?_
  refine V_topi (y := nI (tokN tp n k)) m11 ?_
  refine V_iconst 1 dX7_takesPart_4 (by decide) ?_
  refine V_icmpN_ne (a := tokN tp n k) (b := 1) dX7_takesPart_5 36 (by decide) (by omega) (by omega) (fun h5 => ?_) (fun h5 => ?_)
  · refine V_iconst 0 dX7_takesPart_36 (by decide) ?_
    refine V_istoren_1 dX7_takesPart_37 (by first | exact rfl | exact True.intro) (by decide) ?_
    refine V_aloadn_0 dX7_takesPart_38 ?_
    refine V_getI dX7_takesPart_39 fl_X7_216 oM_token ?_
    refine V_topi (y := nI (tokN tp n k)) m11 ?_
    refine V_iconst 2 dX7_takesPart_42 (by decide) ?_
    refine V_icmpN_eq (a := tokN tp n k) (b := 2) dX7_takesPart_43 52 (by decide) (by omega) (by omega) (fun h43 => ?_) (fun h43 => ?_)
    · exact absurd h43 hnv.1
    · refine V_iloadn_1 dX7_takesPart_46 ?_
      refine V_if_ne_f dX7_takesPart_47 52 (by decide) (by decide) ?_
      refine V_iconst 0 dX7_takesPart_50 (by decide) ?_
      exact V_zret dX7_takesPart_51 (by decide) ⟨rfl, rfl⟩
  · have hFE := hge h5
    refine V_aloadn_0 dX7_takesPart_8 ?_
    refine V_getI dX7_takesPart_9 fl_X7_207 oM_next ?_
    refine V_topi (y := nI (EE tp n (k + 1))) m9 ?_
    refine V_aloadn_0 dX7_takesPart_12 ?_
    refine V_getI dX7_takesPart_13 fl_X7_210 oM_from ?_
    refine V_topi (y := nI (FF tp n k)) m10 ?_
    refine V_isubN (a := EE tp n (k + 1)) (b := FF tp n k) dX7_takesPart_16 (by omega) ?_
    refine V_iconst 1 dX7_takesPart_17 (by decide) ?_
    refine V_icmpN_ne (a := (EE tp n (k + 1)) - (FF tp n k)) (b := 1) dX7_takesPart_18 36 (by decide) (by omega) (by omega) (fun h18 => ?_) (fun h18 => ?_)
    · refine V_iconst 0 dX7_takesPart_36 (by decide) ?_
      refine V_istoren_1 dX7_takesPart_37 (by first | exact rfl | exact True.intro) (by decide) ?_
      refine V_aloadn_0 dX7_takesPart_38 ?_
      refine V_getI dX7_takesPart_39 fl_X7_216 oM_token ?_
      refine V_topi (y := nI (tokN tp n k)) m11 ?_
      refine V_iconst 2 dX7_takesPart_42 (by decide) ?_
      refine V_icmpN_eq (a := tokN tp n k) (b := 2) dX7_takesPart_43 52 (by decide) (by omega) (by omega) (fun h43 => ?_) (fun h43 => ?_)
      · exact absurd h43 hnv.1
      · refine V_iloadn_1 dX7_takesPart_46 ?_
        refine V_if_ne_f dX7_takesPart_47 52 (by decide) (by decide) ?_
        refine V_iconst 0 dX7_takesPart_50 (by decide) ?_
        exact V_zret dX7_takesPart_51 (by decide) ⟨rfl, rfl⟩
    · refine V_aloadn_0 dX7_takesPart_21 ?_
      refine V_aloadn_0 dX7_takesPart_22 ?_
      refine V_getI dX7_takesPart_23 fl_X7_222 oM_value ?_
      refine V_topi (y := nI (tp (FF tp n k))) (m12 (Or.inl h5)) ?_
      refine V_cv1f dX7_takesPart_26 cv_X7_243 rcM (Nat.le_of_ble_eq_true rfl) (k_M_nameOf h14 hk2 (h256 _ hFE.2)) ?_
      refine V_if_lt dX7_takesPart_29 36 (by decide) (fun h29 => ?_) (fun h29 => ?_)
      · refine V_iconst 0 dX7_takesPart_36 (by decide) ?_
        refine V_istoren_1 dX7_takesPart_37 (by first | exact rfl | exact True.intro) (by decide) ?_
        refine V_aloadn_0 dX7_takesPart_38 ?_
        refine V_getI dX7_takesPart_39 fl_X7_216 oM_token ?_
        refine V_topi (y := nI (tokN tp n k)) m11 ?_
        refine V_iconst 2 dX7_takesPart_42 (by decide) ?_
        refine V_icmpN_eq (a := tokN tp n k) (b := 2) dX7_takesPart_43 52 (by decide) (by omega) (by omega) (fun h43 => ?_) (fun h43 => ?_)
        · exact absurd h43 hnv.1
        · refine V_iloadn_1 dX7_takesPart_46 ?_
          refine V_if_ne_f dX7_takesPart_47 52 (by decide) (by decide) ?_
          refine V_iconst 0 dX7_takesPart_50 (by decide) ?_
          exact V_zret dX7_takesPart_51 (by decide) ⟨rfl, rfl⟩
      · exact absurd (hnv.2 h5 h18) (lw_nneg h29)

theorem k_M_part {G : vG} {σ : vS} {d : Nat} (hd : 3 ≤ d) {tp : Nat → Nat} {n ky k : Nat} {c w : List Nat} {t : List Bool} (hS : CF tp n ky k c w t σ) (hk2 : ky ≤ 2) (hok : wOK w) (h95 : c.length + w.length < 96) (htk : tkN tp n ky k < 20000) : Cr G yX7_takesPart cX7_takesPart 2 (some .boolean) d [.ref 97] σ (some (.int 1)) (fun σ' => CF tp n ky (k + 1) (stl 6 (c ++ [tkN tp n ky k]) w).1 (stl 6 (c ++ [tkN tp n ky k]) w).2 t σ' ∧ FX σ σ') := by
  rcases tk_val htk with h | h
  · exact k_M_part2 hd hS hk2 hok h95 htk h.1 h.2
  · exact k_M_part1 hd hS hk2 hok h95 htk h.1 h.2.1 h.2.2.1 h.2.2.2
