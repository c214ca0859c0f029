set_option maxRecDepth 100000 in
set_option maxHeartbeats 4000000 in
theorem t_go_e {G : vG} {d : Nat} {σ : vS} (hd : 2 ≤ d + 1) {tp : Nat → Nat} {n k : Nat} (hT : MT tp n σ) (hed : σ 97 13 = edI tp n k) (hF : ¬ FF tp n k < n) : V G RX7 cX7_go none 2 (d + 1) (fun r' σ' => r' = none ∧ (MS tp n k σ' ∧ FG σ σ')) 38 [some (.ref 97), none] [] (vup σ 97 9 (nI (FF tp n k))) := by
  obtain ⟨h8, hn96, hta, h256⟩ := id hT
  have hfl := FF_le (tp := tp) (n := n) (k := k)
  have hel := EE_le (tp := tp) (n := n) (k := k + 1)
  refine V_aloadn_0 dX7_go_38 ?_
  refine V_aloadn_0 dX7_go_39 ?_
  refine V_getI dX7_go_40 fl_X7_207 oM_next ?_
  refine V_topi (y := nI (FF tp n k)) vup_same ?_
  refine V_putI dX7_go_43 fp_X7_210 oM_from ?_
  refine V_aloadn_0 dX7_go_46 ?_
  refine V_getI dX7_go_47 fl_X7_210 oM_from ?_
  refine V_topi (y := nI (FF tp n k)) vup_same ?_
  refine V_aloadn_0 dX7_go_50 ?_
  refine V_getI dX7_go_51 fl_X7_213 oM_ended ?_
  refine V_topi (y := edI tp n k) (by rw [vup_ne (by omega), vup_ne (by omega)]; exact hed) ?_
  refine V_icmp_ne dX7_go_54 61 (by decide) (fun h54 => ?_) (fun h54 => ?_)
  · refine V_iconst 0 dX7_go_61 (by decide) ?_
    refine V_istoren_1 dX7_go_62 (by first | exact rfl | exact True.intro) (by decide) ?_
    refine V_aloadn_0 dX7_go_63 ?_
    refine V_getI dX7_go_64 fl_X7_210 oM_from ?_
    refine V_topi (y := nI (FF tp n k)) vup_same ?_
    refine V_aloadn_0 dX7_go_67 ?_
    refine V_getI dX7_go_68 fl_X7_203 oM_taped ?_
    refine V_topi (y := nI n) (by rw [vup_ne (by omega), vup_ne (by omega)]; exact h8) ?_
    refine V_icmpN_ne (a := FF tp n k) (b := n) dX7_go_71 82 (by decide) (by omega) (by omega) (fun h71 => ?_) (fun h71 => ?_)
    · exfalso; omega
    · refine V_aloadn_0 dX7_go_74 ?_
      refine V_iconst 0 dX7_go_75 (by decide) ?_
      refine V_putI dX7_go_76 fp_X7_216 oM_token ?_
      refine V_goto dX7_go_79 303 (by decide) ?_
      exact V_vret dX7_go_303 ⟨rfl, ⟨hT.fg (by first | exact ((FG.up (by omega)).tr (FG.up (by omega))) | exact (((FG.up (by omega)).tr (FG.up (by omega))).tr (FG.up (by omega))) | exact ((((FG.up (by omega)).tr (FG.up (by omega))).tr (FG.up (by omega))).tr (FG.up (by omega))) | exact (((((FG.up (by omega)).tr (FG.up (by omega))).tr (FG.up (by omega))).tr (FG.up (by omega))).tr (FG.up (by omega))) | exact ((((((FG.up (by omega)).tr (FG.up (by omega))).tr (FG.up (by omega))).tr (FG.up (by omega))).tr (FG.up (by omega))).tr (FG.up (by omega)))), by rw [vup_ne (by omega), vup_same], by rw [vup_ne (by omega), vup_ne (by omega), vup_same, EE_end hF, show FF tp n k = n by omega], by rw [vup_ne (by omega), vup_ne (by omega), vup_ne (by omega), hed]; exact (if_neg (fun q => hF q.1)).symm, by rw [vup_same, show tokN tp n k = 0 from if_neg hF]; rfl, fun q => absurd q (by rw [show tokN tp n k = 0 from if_neg hF]; decide), fun q => absurd q (by rw [show tokN tp n k = 0 from if_neg hF]; decide)⟩, by first | exact ((FG.up (by omega)).tr (FG.up (by omega))) | exact (((FG.up (by omega)).tr (FG.up (by omega))).tr (FG.up (by omega))) | exact ((((FG.up (by omega)).tr (FG.up (by omega))).tr (FG.up (by omega))).tr (FG.up (by omega))) | exact (((((FG.up (by omega)).tr (FG.up (by omega))).tr (FG.up (by omega))).tr (FG.up (by omega))).tr (FG.up (by omega))) | exact ((((((FG.up (by omega)).tr (FG.up (by omega))).tr (FG.up (by omega))).tr (FG.up (by omega))).tr (FG.up (by omega))).tr (FG.up (by omega)))⟩
  · refine V_iconst 1 dX7_go_57 (by decide) ?_
    refine V_goto dX7_go_58 62 (by decide) ?_
    refine V_istoren_1 dX7_go_62 (by first | exact rfl | exact True.intro) (by decide) ?_
    refine V_aloadn_0 dX7_go_63 ?_
    refine V_getI dX7_go_64 fl_X7_210 oM_from ?_
    refine V_topi (y := nI (FF tp n k)) vup_same ?_
    refine V_aloadn_0 dX7_go_67 ?_
    refine V_getI dX7_go_68 fl_X7_203 oM_taped ?_
    refine V_topi (y := nI n) (by rw [vup_ne (by omega), vup_ne (by omega)]; exact h8) ?_
    refine V_icmpN_ne (a := FF tp n k) (b := n) dX7_go_71 82 (by decide) (by omega) (by omega) (fun h71 => ?_) (fun h71 => ?_)
    · exfalso; omega
    · refine V_aloadn_0 dX7_go_74 ?_
      refine V_iconst 0 dX7_go_75 (by decide) ?_
      refine V_putI dX7_go_76 fp_X7_216 oM_token ?_
      refine V_goto dX7_go_79 303 (by decide) ?_
      exact V_vret dX7_go_303 ⟨rfl, ⟨hT.fg (by first | exact ((FG.up (by omega)).tr (FG.up (by omega))) | exact (((FG.up (by omega)).tr (FG.up (by omega))).tr (FG.up (by omega))) | exact ((((FG.up (by omega)).tr (FG.up (by omega))).tr (FG.up (by omega))).tr (FG.up (by omega))) | exact (((((FG.up (by omega)).tr (FG.up (by omega))).tr (FG.up (by omega))).tr (FG.up (by omega))).tr (FG.up (by omega))) | exact ((((((FG.up (by omega)).tr (FG.up (by omega))).tr (FG.up (by omega))).tr (FG.up (by omega))).tr (FG.up (by omega))).tr (FG.up (by omega)))), by rw [vup_ne (by omega), vup_same], by rw [vup_ne (by omega), vup_ne (by omega), vup_same, EE_end hF, show FF tp n k = n by omega], by rw [vup_ne (by omega), vup_ne (by omega), vup_ne (by omega), hed]; exact (if_neg (fun q => hF q.1)).symm, by rw [vup_same, show tokN tp n k = 0 from if_neg hF]; rfl, fun q => absurd q (by rw [show tokN tp n k = 0 from if_neg hF]; decide), fun q => absurd q (by rw [show tokN tp n k = 0 from if_neg hF]; decide)⟩, by first | exact ((FG.up (by omega)).tr (FG.up (by omega))) | exact (((FG.up (by omega)).tr (FG.up (by omega))).tr (FG.up (by omega))) | exact ((((FG.up (by omega)).tr (FG.up (by omega))).tr (FG.up (by omega))).tr (FG.up (by omega))) | exact (((((FG.up (by omega)).tr (FG.up (by omega))).tr (FG.up (by omega))).tr (FG.up (by omega))).tr (FG.up (by omega))) | exact ((((((FG.up (by omega)).tr (FG.up (by omega))).tr (FG.up (by omega))).tr (FG.up (by omega))).tr (FG.up (by omega))).tr (FG.up (by omega)))⟩

set_option maxRecDepth 100000 in
set_option maxHeartbeats 4000000 in
theorem t_go_s {G : vG} {d : Nat} {σ : vS} (hd : 2 ≤ d + 1) {tp : Nat → Nat} {n k : Nat} (hT : MT tp n σ) (hed : σ 97 13 = edI tp n k) (hF : FF tp n k < n) (hs : srt (tp (FF tp n k)) = 0) : V G RX7 cX7_go none 2 (d + 1) (fun r' σ' => r' = none ∧ (MS tp n k σ' ∧ FG σ σ')) 38 [some (.ref 97), none] [] (vup σ 97 9 (nI (FF tp n k))) := by
  obtain ⟨h8, hn96, hta, h256⟩ := id hT
  have hfl := FF_le (tp := tp) (n := n) (k := k)
  have hel := EE_le (tp := tp) (n := n) (k := k + 1)
  have hT2 : MT tp n (vup (vup σ 97 9 (nI (FF tp n k))) 97 10 (nI (FF tp n k))) := hT.fg ((FG.up (by omega)).tr (FG.up (by omega)))
  have htok : tokN tp n k = 3 := by unfold tokN; rw [if_pos hF, if_pos hs]
  refine V_aloadn_0 dX7_go_38 ?_
  refine V_aloadn_0 dX7_go_39 ?_
  refine V_getI dX7_go_40 fl_X7_207 oM_next ?_
  refine V_topi (y := nI (FF tp n k)) vup_same ?_
  refine V_putI dX7_go_43 fp_X7_210 oM_from ?_
  refine V_aloadn_0 dX7_go_46 ?_
  refine V_getI dX7_go_47 fl_X7_210 oM_from ?_
  refine V_topi (y := nI (FF tp n k)) vup_same ?_
  refine V_aloadn_0 dX7_go_50 ?_
  refine V_getI dX7_go_51 fl_X7_213 oM_ended ?_
  refine V_topi (y := edI tp n k) (by rw [vup_ne (by omega), vup_ne (by omega)]; exact hed) ?_
  refine V_icmp_ne dX7_go_54 61 (by decide) (fun h54 => ?_) (fun h54 => ?_)
  · refine V_iconst 0 dX7_go_61 (by decide) ?_
    refine V_istoren_1 dX7_go_62 (by first | exact rfl | exact True.intro) (by decide) ?_
    refine V_aloadn_0 dX7_go_63 ?_
    refine V_getI dX7_go_64 fl_X7_210 oM_from ?_
    refine V_topi (y := nI (FF tp n k)) vup_same ?_
    refine V_aloadn_0 dX7_go_67 ?_
    refine V_getI dX7_go_68 fl_X7_203 oM_taped ?_
    refine V_topi (y := nI n) (by rw [vup_ne (by omega), vup_ne (by omega)]; exact h8) ?_
    refine V_icmpN_ne (a := FF tp n k) (b := n) dX7_go_71 82 (by decide) (by omega) (by omega) (fun h71 => ?_) (fun h71 => ?_)
    · refine V_aloadn_0 dX7_go_82 ?_
      refine V_aloadn_0 dX7_go_83 ?_
      refine V_getI dX7_go_84 fl_X7_210 oM_from ?_
      refine V_topi (y := nI (FF tp n k)) vup_same ?_
      refine V_cv1f dX7_go_87 cv_X7_219 rcM (Nat.le_of_ble_eq_true rfl) (k_M_isLetter hT2 (by omega)) ?_
      refine V_ifB_eq dX7_go_90 154 (by decide) (fun h90 => ?_) (fun h90 => ?_)
      · refine V_aloadn_0 dX7_go_154 ?_
        refine V_aloadn_0 dX7_go_155 ?_
        refine V_getI dX7_go_156 fl_X7_210 oM_from ?_
        refine V_topi (y := nI (FF tp n k)) vup_same ?_
        refine V_cv1f dX7_go_159 cv_X7_225 rcM (Nat.le_of_ble_eq_true rfl) (k_M_isFigure hT2 (by omega)) ?_
        refine V_ifB_eq dX7_go_162 275 (by decide) (fun h162 => ?_) (fun h162 => ?_)
        · refine V_aloadn_0 dX7_go_275 ?_
          refine V_iconst 3 dX7_go_276 (by decide) ?_
          refine V_putI dX7_go_277 fp_X7_216 oM_token ?_
          refine V_aloadn_0 dX7_go_280 ?_
          refine V_aloadn_0 dX7_go_281 ?_
          refine V_getR dX7_go_282 fl_X7_28 oM_tape ?_
          refine V_aloadn_0 dX7_go_285 ?_
          refine V_getI dX7_go_286 fl_X7_210 oM_from ?_
          refine V_topi (y := nI (FF tp n k)) (by rw [vup_ne (by omega), vup_same]) ?_
          refine V_iald (j := FF tp n k) dX7_go_289 aM_tape (by omega) (by decide) ?_
          refine V_topi (y := nI (tp (FF tp n k))) (by (repeat rw [vup_p (by decide)]); exact hta _ hF) ?_
          refine V_putI dX7_go_290 fp_X7_222 oM_value ?_
          refine V_aloadn_0 dX7_go_293 ?_
          refine V_dup dX7_go_294 rfl ?_
          refine V_getI dX7_go_295 fl_X7_207 oM_next ?_
          refine V_topi (y := nI (FF tp n k)) (by rw [vup_ne (by omega), vup_ne (by omega), vup_ne (by omega), vup_same]) ?_
          refine V_iconst 1 dX7_go_298 (by decide) ?_
          refine V_iaddN (a := FF tp n k) (b := 1) dX7_go_299 ?_
          refine V_putI dX7_go_300 fp_X7_207 oM_next ?_
          exact V_vret dX7_go_303 ⟨rfl, ⟨hT.fg (by first | exact ((FG.up (by omega)).tr (FG.up (by omega))) | exact (((FG.up (by omega)).tr (FG.up (by omega))).tr (FG.up (by omega))) | exact ((((FG.up (by omega)).tr (FG.up (by omega))).tr (FG.up (by omega))).tr (FG.up (by omega))) | exact (((((FG.up (by omega)).tr (FG.up (by omega))).tr (FG.up (by omega))).tr (FG.up (by omega))).tr (FG.up (by omega))) | exact ((((((FG.up (by omega)).tr (FG.up (by omega))).tr (FG.up (by omega))).tr (FG.up (by omega))).tr (FG.up (by omega))).tr (FG.up (by omega)))), by rw [vup_ne (by omega), vup_ne (by omega), vup_ne (by omega), vup_same], by rw [vup_same, EE_sign hF hs], by rw [vup_ne (by omega), vup_ne (by omega), vup_ne (by omega), vup_ne (by omega), vup_ne (by omega), hed]; exact (if_neg (fun q => q.2 hs)).symm, by rw [vup_ne (by omega), vup_ne (by omega), vup_same, htok]; rfl, fun _ => by rw [vup_ne (by omega), vup_same], fun q => by omega⟩, by first | exact ((FG.up (by omega)).tr (FG.up (by omega))) | exact (((FG.up (by omega)).tr (FG.up (by omega))).tr (FG.up (by omega))) | exact ((((FG.up (by omega)).tr (FG.up (by omega))).tr (FG.up (by omega))).tr (FG.up (by omega))) | exact (((((FG.up (by omega)).tr (FG.up (by omega))).tr (FG.up (by omega))).tr (FG.up (by omega))).tr (FG.up (by omega))) | exact ((((((FG.up (by omega)).tr (FG.up (by omega))).tr (FG.up (by omega))).tr (FG.up (by omega))).tr (FG.up (by omega))).tr (FG.up (by omega)))⟩
        · exact absurd h162.2 (by rw [hs]; decide)
      · exact absurd h90.2 (by rw [hs]; decide)
    · exfalso; omega
  · refine V_iconst 1 dX7_go_57 (by decide) ?_
    refine V_goto dX7_go_58 62 (by decide) ?_
    refine V_istoren_1 dX7_go_62 (by first | exact rfl | exact True.intro) (by decide) ?_
    refine V_aloadn_0 dX7_go_63 ?_
    refine V_getI dX7_go_64 fl_X7_210 oM_from ?_
    refine V_topi (y := nI (FF tp n k)) vup_same ?_
    refine V_aloadn_0 dX7_go_67 ?_
    refine V_getI dX7_go_68 fl_X7_203 oM_taped ?_
    refine V_topi (y := nI n) (by rw [vup_ne (by omega), vup_ne (by omega)]; exact h8) ?_
    refine V_icmpN_ne (a := FF tp n k) (b := n) dX7_go_71 82 (by decide) (by omega) (by omega) (fun h71 => ?_) (fun h71 => ?_)
    · refine V_aloadn_0 dX7_go_82 ?_
      refine V_aloadn_0 dX7_go_83 ?_
      refine V_getI dX7_go_84 fl_X7_210 oM_from ?_
      refine V_topi (y := nI (FF tp n k)) vup_same ?_
      refine V_cv1f dX7_go_87 cv_X7_219 rcM (Nat.le_of_ble_eq_true rfl) (k_M_isLetter hT2 (by omega)) ?_
      refine V_ifB_eq dX7_go_90 154 (by decide) (fun h90 => ?_) (fun h90 => ?_)
      · refine V_aloadn_0 dX7_go_154 ?_
        refine V_aloadn_0 dX7_go_155 ?_
        refine V_getI dX7_go_156 fl_X7_210 oM_from ?_
        refine V_topi (y := nI (FF tp n k)) vup_same ?_
        refine V_cv1f dX7_go_159 cv_X7_225 rcM (Nat.le_of_ble_eq_true rfl) (k_M_isFigure hT2 (by omega)) ?_
        refine V_ifB_eq dX7_go_162 275 (by decide) (fun h162 => ?_) (fun h162 => ?_)
        · refine V_aloadn_0 dX7_go_275 ?_
          refine V_iconst 3 dX7_go_276 (by decide) ?_
          refine V_putI dX7_go_277 fp_X7_216 oM_token ?_
          refine V_aloadn_0 dX7_go_280 ?_
          refine V_aloadn_0 dX7_go_281 ?_
          refine V_getR dX7_go_282 fl_X7_28 oM_tape ?_
          refine V_aloadn_0 dX7_go_285 ?_
          refine V_getI dX7_go_286 fl_X7_210 oM_from ?_
          refine V_topi (y := nI (FF tp n k)) (by rw [vup_ne (by omega), vup_same]) ?_
          refine V_iald (j := FF tp n k) dX7_go_289 aM_tape (by omega) (by decide) ?_
          refine V_topi (y := nI (tp (FF tp n k))) (by (repeat rw [vup_p (by decide)]); exact hta _ hF) ?_
          refine V_putI dX7_go_290 fp_X7_222 oM_value ?_
          refine V_aloadn_0 dX7_go_293 ?_
          refine V_dup dX7_go_294 rfl ?_
          refine V_getI dX7_go_295 fl_X7_207 oM_next ?_
          refine V_topi (y := nI (FF tp n k)) (by rw [vup_ne (by omega), vup_ne (by omega), vup_ne (by omega), vup_same]) ?_
          refine V_iconst 1 dX7_go_298 (by decide) ?_
          refine V_iaddN (a := FF tp n k) (b := 1) dX7_go_299 ?_
          refine V_putI dX7_go_300 fp_X7_207 oM_next ?_
          exact V_vret dX7_go_303 ⟨rfl, ⟨hT.fg (by first | exact ((FG.up (by omega)).tr (FG.up (by omega))) | exact (((FG.up (by omega)).tr (FG.up (by omega))).tr (FG.up (by omega))) | exact ((((FG.up (by omega)).tr (FG.up (by omega))).tr (FG.up (by omega))).tr (FG.up (by omega))) | exact (((((FG.up (by omega)).tr (FG.up (by omega))).tr (FG.up (by omega))).tr (FG.up (by omega))).tr (FG.up (by omega))) | exact ((((((FG.up (by omega)).tr (FG.up (by omega))).tr (FG.up (by omega))).tr (FG.up (by omega))).tr (FG.up (by omega))).tr (FG.up (by omega)))), by rw [vup_ne (by omega), vup_ne (by omega), vup_ne (by omega), vup_same], by rw [vup_same, EE_sign hF hs], by rw [vup_ne (by omega), vup_ne (by omega), vup_ne (by omega), vup_ne (by omega), vup_ne (by omega), hed]; exact (if_neg (fun q => q.2 hs)).symm, by rw [vup_ne (by omega), vup_ne (by omega), vup_same, htok]; rfl, fun _ => by rw [vup_ne (by omega), vup_same], fun q => by omega⟩, by first | exact ((FG.up (by omega)).tr (FG.up (by omega))) | exact (((FG.up (by omega)).tr (FG.up (by omega))).tr (FG.up (by omega))) | exact ((((FG.up (by omega)).tr (FG.up (by omega))).tr (FG.up (by omega))).tr (FG.up (by omega))) | exact (((((FG.up (by omega)).tr (FG.up (by omega))).tr (FG.up (by omega))).tr (FG.up (by omega))).tr (FG.up (by omega))) | exact ((((((FG.up (by omega)).tr (FG.up (by omega))).tr (FG.up (by omega))).tr (FG.up (by omega))).tr (FG.up (by omega))).tr (FG.up (by omega)))⟩
        · exact absurd h162.2 (by rw [hs]; decide)
      · exact absurd h90.2 (by rw [hs]; decide)
    · exfalso; omega

set_option maxRecDepth 100000 in
set_option maxHeartbeats 4000000 in
theorem t_go_l1 {G : vG} {d : Nat} {σ : vS} (hd : 2 ≤ d + 1) {tp : Nat → Nat} {n k : Nat} (hT : MT tp n σ) (hF : FF tp n k < n) (hs : srt (tp (FF tp n k)) = 1) (hg : gluP tp n k) : V G RX7 cX7_go none 2 (d + 1) (fun r' σ' => r' = none ∧ (MS tp n k σ' ∧ FG σ σ')) 117 [some (.ref 97), some (.int 1)] [] (vup (vup (vup σ 97 9 (nI (FF tp n k))) 97 10 (nI (FF tp n k))) 97 9 (nI (EE tp n (k + 1)))) := by
  obtain ⟨h8, hn96, hta, h256⟩ := id hT
  have hfl := FF_le (tp := tp) (n := n) (k := k)
  have hel := EE_le (tp := tp) (n := n) (k := k + 1)
  have htok : tokN tp n k = 4 := by unfold tokN; rw [if_pos hF, if_neg (by rw [hs]; decide), if_pos hs, if_pos hg]
  refine V_aloadn_0 dX7_go_117 ?_
  refine V_iloadn_1 dX7_go_118 ?_
  refine V_if_eq_f dX7_go_119 126 (by decide) (by decide) ?_
  refine V_iconst 4 dX7_go_122 (by decide) ?_
  refine V_goto dX7_go_123 127 (by decide) ?_
  refine V_putI dX7_go_127 fp_X7_216 oM_token ?_
  refine V_aloadn_0 dX7_go_130 ?_
  refine V_aloadn_0 dX7_go_131 ?_
  refine V_getR dX7_go_132 fl_X7_28 oM_tape ?_
  refine V_aloadn_0 dX7_go_135 ?_
  refine V_getI dX7_go_136 fl_X7_210 oM_from ?_
  refine V_topi (y := nI (FF tp n k)) (by rw [vup_ne (by omega), vup_ne (by omega), vup_same]) ?_
  refine V_iald (j := FF tp n k) dX7_go_139 aM_tape (by omega) (by decide) ?_
  refine V_topi (y := nI (tp (FF tp n k))) (by (repeat rw [vup_p (by decide)]); exact hta _ hF) ?_
  refine V_putI dX7_go_140 fp_X7_222 oM_value ?_
  refine V_aloadn_0 dX7_go_143 ?_
  refine V_aloadn_0 dX7_go_144 ?_
  refine V_getI dX7_go_145 fl_X7_207 oM_next ?_
  refine V_topi (y := nI (EE tp n (k + 1))) (by rw [vup_ne (by omega), vup_ne (by omega), vup_same]) ?_
  refine V_putI dX7_go_148 fp_X7_213 oM_ended ?_
  refine V_goto dX7_go_151 303 (by decide) ?_
  exact V_vret dX7_go_303 ⟨rfl, ⟨hT.fg (by first | exact ((FG.up (by omega)).tr (FG.up (by omega))) | exact (((FG.up (by omega)).tr (FG.up (by omega))).tr (FG.up (by omega))) | exact ((((FG.up (by omega)).tr (FG.up (by omega))).tr (FG.up (by omega))).tr (FG.up (by omega))) | exact (((((FG.up (by omega)).tr (FG.up (by omega))).tr (FG.up (by omega))).tr (FG.up (by omega))).tr (FG.up (by omega))) | exact ((((((FG.up (by omega)).tr (FG.up (by omega))).tr (FG.up (by omega))).tr (FG.up (by omega))).tr (FG.up (by omega))).tr (FG.up (by omega)))), by rw [vup_ne (by omega), vup_ne (by omega), vup_ne (by omega), vup_ne (by omega), vup_same], by rw [vup_ne (by omega), vup_ne (by omega), vup_ne (by omega), vup_same], by rw [vup_same]; exact (if_pos ⟨hF, by rw [hs]; decide⟩).symm, by rw [vup_ne (by omega), vup_ne (by omega), vup_same, htok]; rfl, fun _ => by rw [vup_ne (by omega), vup_same], fun q => by omega⟩, by first | exact ((FG.up (by omega)).tr (FG.up (by omega))) | exact (((FG.up (by omega)).tr (FG.up (by omega))).tr (FG.up (by omega))) | exact ((((FG.up (by omega)).tr (FG.up (by omega))).tr (FG.up (by omega))).tr (FG.up (by omega))) | exact (((((FG.up (by omega)).tr (FG.up (by omega))).tr (FG.up (by omega))).tr (FG.up (by omega))).tr (FG.up (by omega))) | exact ((((((FG.up (by omega)).tr (FG.up (by omega))).tr (FG.up (by omega))).tr (FG.up (by omega))).tr (FG.up (by omega))).tr (FG.up (by omega)))⟩

set_option maxRecDepth 100000 in
set_option maxHeartbeats 4000000 in
theorem t_go_l0 {G : vG} {d : Nat} {σ : vS} (hd : 2 ≤ d + 1) {tp : Nat → Nat} {n k : Nat} (hT : MT tp n σ) (hF : FF tp n k < n) (hs : srt (tp (FF tp n k)) = 1) (hg : ¬ gluP tp n k) : V G RX7 cX7_go none 2 (d + 1) (fun r' σ' => r' = none ∧ (MS tp n k σ' ∧ FG σ σ')) 117 [some (.ref 97), some (.int 0)] [] (vup (vup (vup σ 97 9 (nI (FF tp n k))) 97 10 (nI (FF tp n k))) 97 9 (nI (EE tp n (k + 1)))) := by
  obtain ⟨h8, hn96, hta, h256⟩ := id hT
  have hfl := FF_le (tp := tp) (n := n) (k := k)
  have hel := EE_le (tp := tp) (n := n) (k := k + 1)
  have htok : tokN tp n k = 1 := by unfold tokN; rw [if_pos hF, if_neg (by rw [hs]; decide), if_pos hs, if_neg hg]
  refine V_aloadn_0 dX7_go_117 ?_
  refine V_iloadn_1 dX7_go_118 ?_
  refine V_if_eq_t dX7_go_119 126 (by decide) (by decide) ?_
  refine V_iconst 1 dX7_go_126 (by decide) ?_
  refine V_putI dX7_go_127 fp_X7_216 oM_token ?_
  refine V_aloadn_0 dX7_go_130 ?_
  refine V_aloadn_0 dX7_go_131 ?_
  refine V_getR dX7_go_132 fl_X7_28 oM_tape ?_
  refine V_aloadn_0 dX7_go_135 ?_
  refine V_getI dX7_go_136 fl_X7_210 oM_from ?_
  refine V_topi (y := nI (FF tp n k)) (by rw [vup_ne (by omega), vup_ne (by omega), vup_same]) ?_
  refine V_iald (j := FF tp n k) dX7_go_139 aM_tape (by omega) (by decide) ?_
  refine V_topi (y := nI (tp (FF tp n k))) (by (repeat rw [vup_p (by decide)]); exact hta _ hF) ?_
  refine V_putI dX7_go_140 fp_X7_222 oM_value ?_
  refine V_aloadn_0 dX7_go_143 ?_
  refine V_aloadn_0 dX7_go_144 ?_
  refine V_getI dX7_go_145 fl_X7_207 oM_next ?_
  refine V_topi (y := nI (EE tp n (k + 1))) (by rw [vup_ne (by omega), vup_ne (by omega), vup_same]) ?_
  refine V_putI dX7_go_148 fp_X7_213 oM_ended ?_
  refine V_goto dX7_go_151 303 (by decide) ?_
  exact V_vret dX7_go_303 ⟨rfl, ⟨hT.fg (by first | exact ((FG.up (by omega)).tr (FG.up (by omega))) | exact (((FG.up (by omega)).tr (FG.up (by omega))).tr (FG.up (by omega))) | exact ((((FG.up (by omega)).tr (FG.up (by omega))).tr (FG.up (by omega))).tr (FG.up (by omega))) | exact (((((FG.up (by omega)).tr (FG.up (by omega))).tr (FG.up (by omega))).tr (FG.up (by omega))).tr (FG.up (by omega))) | exact ((((((FG.up (by omega)).tr (FG.up (by omega))).tr (FG.up (by omega))).tr (FG.up (by omega))).tr (FG.up (by omega))).tr (FG.up (by omega)))), by rw [vup_ne (by omega), vup_ne (by omega), vup_ne (by omega), vup_ne (by omega), vup_same], by rw [vup_ne (by omega), vup_ne (by omega), vup_ne (by omega), vup_same], by rw [vup_same]; exact (if_pos ⟨hF, by rw [hs]; decide⟩).symm, by rw [vup_ne (by omega), vup_ne (by omega), vup_same, htok]; rfl, fun _ => by rw [vup_ne (by omega), vup_same], fun q => by omega⟩, by first | exact ((FG.up (by omega)).tr (FG.up (by omega))) | exact (((FG.up (by omega)).tr (FG.up (by omega))).tr (FG.up (by omega))) | exact ((((FG.up (by omega)).tr (FG.up (by omega))).tr (FG.up (by omega))).tr (FG.up (by omega))) | exact (((((FG.up (by omega)).tr (FG.up (by omega))).tr (FG.up (by omega))).tr (FG.up (by omega))).tr (FG.up (by omega))) | exact ((((((FG.up (by omega)).tr (FG.up (by omega))).tr (FG.up (by omega))).tr (FG.up (by omega))).tr (FG.up (by omega))).tr (FG.up (by omega)))⟩

set_option maxRecDepth 100000 in
set_option maxHeartbeats 4000000 in
theorem t_go_l {G : vG} {d : Nat} {σ : vS} (hd : 2 ≤ d + 1) {tp : Nat → Nat} {n k : Nat} (hT : MT tp n σ) (hed : σ 97 13 = edI tp n k) (hF : FF tp n k < n) (hs : srt (tp (FF tp n k)) = 1) : V G RX7 cX7_go none 2 (d + 1) (fun r' σ' => r' = none ∧ (MS tp n k σ' ∧ FG σ σ')) 38 [some (.ref 97), none] [] (vup σ 97 9 (nI (FF tp n k))) := by
  obtain ⟨h8, hn96, hta, h256⟩ := id hT
  have hfl := FF_le (tp := tp) (n := n) (k := k)
  have hel := EE_le (tp := tp) (n := n) (k := k + 1)
  have hT2 : MT tp n (vup (vup σ 97 9 (nI (FF tp n k))) 97 10 (nI (FF tp n k))) := hT.fg ((FG.up (by omega)).tr (FG.up (by omega)))
  refine V_aloadn_0 dX7_go_38 ?_
  refine V_aloadn_0 dX7_go_39 ?_
  refine V_getI dX7_go_40 fl_X7_207 oM_next ?_
  refine V_topi (y := nI (FF tp n k)) vup_same ?_
  refine V_putI dX7_go_43 fp_X7_210 oM_from ?_
  refine V_aloadn_0 dX7_go_46 ?_
  refine V_getI dX7_go_47 fl_X7_210 oM_from ?_
  refine V_topi (y := nI (FF tp n k)) vup_same ?_
  refine V_aloadn_0 dX7_go_50 ?_
  refine V_getI dX7_go_51 fl_X7_213 oM_ended ?_
  refine V_topi (y := edI tp n k) (by rw [vup_ne (by omega), vup_ne (by omega)]; exact hed) ?_
  refine V_icmp_ne dX7_go_54 61 (by decide) (fun h54 => ?_) (fun h54 => ?_)
  · refine V_iconst 0 dX7_go_61 (by decide) ?_
    refine V_istoren_1 dX7_go_62 (by first | exact rfl | exact True.intro) (by decide) ?_
    refine V_aloadn_0 dX7_go_63 ?_
    refine V_getI dX7_go_64 fl_X7_210 oM_from ?_
    refine V_topi (y := nI (FF tp n k)) vup_same ?_
    refine V_aloadn_0 dX7_go_67 ?_
    refine V_getI dX7_go_68 fl_X7_203 oM_taped ?_
    refine V_topi (y := nI n) (by rw [vup_ne (by omega), vup_ne (by omega)]; exact h8) ?_
    refine V_icmpN_ne (a := FF tp n k) (b := n) dX7_go_71 82 (by decide) (by omega) (by omega) (fun h71 => ?_) (fun h71 => ?_)
    · refine V_aloadn_0 dX7_go_82 ?_
      refine V_aloadn_0 dX7_go_83 ?_
      refine V_getI dX7_go_84 fl_X7_210 oM_from ?_
      refine V_topi (y := nI (FF tp n k)) vup_same ?_
      refine V_cv1f dX7_go_87 cv_X7_219 rcM (Nat.le_of_ble_eq_true rfl) (k_M_isLetter hT2 (by omega)) ?_
      refine V_ifB_eq dX7_go_90 154 (by decide) (fun h90 => ?_) (fun h90 => ?_)
      · exact absurd ⟨hF, hs⟩ h90
      · refine V_hp (σ' := vup (vup (vup σ 97 9 (nI (FF tp n k))) 97 10 (nI (FF tp n k))) 97 9 (nI (FF tp n k))) (vup_id (by rw [vup_ne (by omega), vup_same])).symm ?_
        exact lp_go2 hT2 (t_go_l0 hd hT hF hs (fun q => h54 ((ed_glu hn96 hF (by rw [hs]; decide)).mpr q))) (n + 1) (FF tp n k) ⟨hfl, by rw [sk_y hF (by unfold soB; rw [hs]; rfl), EE_word hF (by rw [hs]; decide), hs]⟩ (by omega)
    · exfalso; omega
  · refine V_iconst 1 dX7_go_57 (by decide) ?_
    refine V_goto dX7_go_58 62 (by decide) ?_
    refine V_istoren_1 dX7_go_62 (by first | exact rfl | exact True.intro) (by decide) ?_
    refine V_aloadn_0 dX7_go_63 ?_
    refine V_getI dX7_go_64 fl_X7_210 oM_from ?_
    refine V_topi (y := nI (FF tp n k)) vup_same ?_
    refine V_aloadn_0 dX7_go_67 ?_
    refine V_getI dX7_go_68 fl_X7_203 oM_taped ?_
    refine V_topi (y := nI n) (by rw [vup_ne (by omega), vup_ne (by omega)]; exact h8) ?_
    refine V_icmpN_ne (a := FF tp n k) (b := n) dX7_go_71 82 (by decide) (by omega) (by omega) (fun h71 => ?_) (fun h71 => ?_)
    · refine V_aloadn_0 dX7_go_82 ?_
      refine V_aloadn_0 dX7_go_83 ?_
      refine V_getI dX7_go_84 fl_X7_210 oM_from ?_
      refine V_topi (y := nI (FF tp n k)) vup_same ?_
      refine V_cv1f dX7_go_87 cv_X7_219 rcM (Nat.le_of_ble_eq_true rfl) (k_M_isLetter hT2 (by omega)) ?_
      refine V_ifB_eq dX7_go_90 154 (by decide) (fun h90 => ?_) (fun h90 => ?_)
      · exact absurd ⟨hF, hs⟩ h90
      · refine V_hp (σ' := vup (vup (vup σ 97 9 (nI (FF tp n k))) 97 10 (nI (FF tp n k))) 97 9 (nI (FF tp n k))) (vup_id (by rw [vup_ne (by omega), vup_same])).symm ?_
        exact lp_go2 hT2 (t_go_l1 hd hT hF hs ((ed_glu hn96 hF (by rw [hs]; decide)).mp h54)) (n + 1) (FF tp n k) ⟨hfl, by rw [sk_y hF (by unfold soB; rw [hs]; rfl), EE_word hF (by rw [hs]; decide), hs]⟩ (by omega)
    · exfalso; omega

set_option maxRecDepth 100000 in
set_option maxHeartbeats 4000000 in
theorem t_go_f1 {G : vG} {d : Nat} {σ : vS} (hd : 2 ≤ d + 1) {tp : Nat → Nat} {n k : Nat} (hT : MT tp n σ) (hF : FF tp n k < n) (hs : srt (tp (FF tp n k)) = 2) (hg : gluP tp n k) : V G RX7 cX7_go none 2 (d + 1) (fun r' σ' => r' = none ∧ (MS tp n k σ' ∧ FG σ σ')) 238 [some (.ref 97), some (.int 1)] [] (vup (vup (vup (vup (vup σ 97 9 (nI (FF tp n k))) 97 10 (nI (FF tp n k))) 97 12 0) 97 12 (nI (numF tp (FF tp n k) (min (EE tp n (k + 1) - FF tp n k) 4)))) 97 9 (nI (EE tp n (k + 1)))) := by
  obtain ⟨h8, hn96, hta, h256⟩ := id hT
  have hfl := FF_le (tp := tp) (n := n) (k := k)
  have hel := EE_le (tp := tp) (n := n) (k := k + 1)
  have hgt := EE_gt hF
  refine V_aloadn_0 dX7_go_238 ?_
  refine V_iloadn_1 dX7_go_239 ?_
  refine V_if_ne_t dX7_go_240 256 (by decide) (by decide) ?_
  refine V_iconst 4 dX7_go_256 (by decide) ?_
  refine V_goto dX7_go_257 261 (by decide) ?_
  have htok : tokN tp n k = 4 := by unfold tokN; rw [if_pos hF, if_neg (by rw [hs]; decide), if_neg (by rw [hs]; decide), if_pos (Or.inl hg)]
  refine V_putI dX7_go_261 fp_X7_216 oM_token ?_
  refine V_aloadn_0 dX7_go_264 ?_
  refine V_aloadn_0 dX7_go_265 ?_
  refine V_getI dX7_go_266 fl_X7_207 oM_next ?_
  refine V_topi (y := nI (EE tp n (k + 1))) (by rw [vup_ne (by omega), vup_same]) ?_
  refine V_putI dX7_go_269 fp_X7_213 oM_ended ?_
  refine V_goto dX7_go_272 303 (by decide) ?_
  exact V_vret dX7_go_303 ⟨rfl, ⟨hT.fg (by first | exact ((FG.up (by omega)).tr (FG.up (by omega))) | exact (((FG.up (by omega)).tr (FG.up (by omega))).tr (FG.up (by omega))) | exact ((((FG.up (by omega)).tr (FG.up (by omega))).tr (FG.up (by omega))).tr (FG.up (by omega))) | exact (((((FG.up (by omega)).tr (FG.up (by omega))).tr (FG.up (by omega))).tr (FG.up (by omega))).tr (FG.up (by omega))) | exact ((((((FG.up (by omega)).tr (FG.up (by omega))).tr (FG.up (by omega))).tr (FG.up (by omega))).tr (FG.up (by omega))).tr (FG.up (by omega))) | exact (((((((FG.up (by omega)).tr (FG.up (by omega))).tr (FG.up (by omega))).tr (FG.up (by omega))).tr (FG.up (by omega))).tr (FG.up (by omega))).tr (FG.up (by omega)))), by rw [vup_ne (by omega), vup_ne (by omega), vup_ne (by omega), vup_ne (by omega), vup_ne (by omega), vup_same], by rw [vup_ne (by omega), vup_ne (by omega), vup_same], by rw [vup_same]; exact (if_pos ⟨hF, by rw [hs]; decide⟩).symm, by rw [vup_ne (by omega), vup_same, htok]; rfl, fun q => by omega, fun q => by first | omega | rw [vup_ne (by omega), vup_ne (by omega), vup_ne (by omega), vup_same, show min (EE tp n (k + 1) - FF tp n k) 4 = EE tp n (k + 1) - FF tp n k by omega]⟩, by first | exact ((FG.up (by omega)).tr (FG.up (by omega))) | exact (((FG.up (by omega)).tr (FG.up (by omega))).tr (FG.up (by omega))) | exact ((((FG.up (by omega)).tr (FG.up (by omega))).tr (FG.up (by omega))).tr (FG.up (by omega))) | exact (((((FG.up (by omega)).tr (FG.up (by omega))).tr (FG.up (by omega))).tr (FG.up (by omega))).tr (FG.up (by omega))) | exact ((((((FG.up (by omega)).tr (FG.up (by omega))).tr (FG.up (by omega))).tr (FG.up (by omega))).tr (FG.up (by omega))).tr (FG.up (by omega))) | exact (((((((FG.up (by omega)).tr (FG.up (by omega))).tr (FG.up (by omega))).tr (FG.up (by omega))).tr (FG.up (by omega))).tr (FG.up (by omega))).tr (FG.up (by omega)))⟩

set_option maxRecDepth 100000 in
set_option maxHeartbeats 4000000 in
theorem t_go_f0 {G : vG} {d : Nat} {σ : vS} (hd : 2 ≤ d + 1) {tp : Nat → Nat} {n k : Nat} (hT : MT tp n σ) (hF : FF tp n k < n) (hs : srt (tp (FF tp n k)) = 2) (hg : ¬ gluP tp n k) : V G RX7 cX7_go none 2 (d + 1) (fun r' σ' => r' = none ∧ (MS tp n k σ' ∧ FG σ σ')) 238 [some (.ref 97), some (.int 0)] [] (vup (vup (vup (vup (vup σ 97 9 (nI (FF tp n k))) 97 10 (nI (FF tp n k))) 97 12 0) 97 12 (nI (numF tp (FF tp n k) (min (EE tp n (k + 1) - FF tp n k) 4)))) 97 9 (nI (EE tp n (k + 1)))) := by
  obtain ⟨h8, hn96, hta, h256⟩ := id hT
  have hfl := FF_le (tp := tp) (n := n) (k := k)
  have hel := EE_le (tp := tp) (n := n) (k := k + 1)
  have hgt := EE_gt hF
  refine V_aloadn_0 dX7_go_238 ?_
  refine V_iloadn_1 dX7_go_239 ?_
  refine V_if_ne_f dX7_go_240 256 (by decide) (by decide) ?_
  refine V_aloadn_0 dX7_go_243 ?_
  refine V_getI dX7_go_244 fl_X7_207 oM_next ?_
  refine V_topi (y := nI (EE tp n (k + 1))) vup_same ?_
  refine V_aloadn_0 dX7_go_247 ?_
  refine V_getI dX7_go_248 fl_X7_210 oM_from ?_
  refine V_topi (y := nI (FF tp n k)) (by rw [vup_ne (by omega), vup_ne (by omega), vup_ne (by omega), vup_same]) ?_
  refine V_isubN (a := EE tp n (k + 1)) (b := FF tp n k) dX7_go_251 (by omega) ?_
  refine V_iconst 4 dX7_go_252 (by decide) ?_
  refine V_icmpN_le (a := (EE tp n (k + 1)) - (FF tp n k)) (b := 4) dX7_go_253 260 (by decide) (by omega) (by omega) (fun h253 => ?_) (fun h253 => ?_)
  · refine V_iconst 2 dX7_go_260 (by decide) ?_
    have htok : tokN tp n k = 2 := by unfold tokN; rw [if_pos hF, if_neg (by rw [hs]; decide), if_neg (by rw [hs]; decide), if_neg (fun q => q.elim hg (fun q => by omega))]
    refine V_putI dX7_go_261 fp_X7_216 oM_token ?_
    refine V_aloadn_0 dX7_go_264 ?_
    refine V_aloadn_0 dX7_go_265 ?_
    refine V_getI dX7_go_266 fl_X7_207 oM_next ?_
    refine V_topi (y := nI (EE tp n (k + 1))) (by rw [vup_ne (by omega), vup_same]) ?_
    refine V_putI dX7_go_269 fp_X7_213 oM_ended ?_
    refine V_goto dX7_go_272 303 (by decide) ?_
    exact V_vret dX7_go_303 ⟨rfl, ⟨hT.fg (by first | exact ((FG.up (by omega)).tr (FG.up (by omega))) | exact (((FG.up (by omega)).tr (FG.up (by omega))).tr (FG.up (by omega))) | exact ((((FG.up (by omega)).tr (FG.up (by omega))).tr (FG.up (by omega))).tr (FG.up (by omega))) | exact (((((FG.up (by omega)).tr (FG.up (by omega))).tr (FG.up (by omega))).tr (FG.up (by omega))).tr (FG.up (by omega))) | exact ((((((FG.up (by omega)).tr (FG.up (by omega))).tr (FG.up (by omega))).tr (FG.up (by omega))).tr (FG.up (by omega))).tr (FG.up (by omega))) | exact (((((((FG.up (by omega)).tr (FG.up (by omega))).tr (FG.up (by omega))).tr (FG.up (by omega))).tr (FG.up (by omega))).tr (FG.up (by omega))).tr (FG.up (by omega)))), by rw [vup_ne (by omega), vup_ne (by omega), vup_ne (by omega), vup_ne (by omega), vup_ne (by omega), vup_same], by rw [vup_ne (by omega), vup_ne (by omega), vup_same], by rw [vup_same]; exact (if_pos ⟨hF, by rw [hs]; decide⟩).symm, by rw [vup_ne (by omega), vup_same, htok]; rfl, fun q => by omega, fun q => by first | omega | rw [vup_ne (by omega), vup_ne (by omega), vup_ne (by omega), vup_same, show min (EE tp n (k + 1) - FF tp n k) 4 = EE tp n (k + 1) - FF tp n k by omega]⟩, by first | exact ((FG.up (by omega)).tr (FG.up (by omega))) | exact (((FG.up (by omega)).tr (FG.up (by omega))).tr (FG.up (by omega))) | exact ((((FG.up (by omega)).tr (FG.up (by omega))).tr (FG.up (by omega))).tr (FG.up (by omega))) | exact (((((FG.up (by omega)).tr (FG.up (by omega))).tr (FG.up (by omega))).tr (FG.up (by omega))).tr (FG.up (by omega))) | exact ((((((FG.up (by omega)).tr (FG.up (by omega))).tr (FG.up (by omega))).tr (FG.up (by omega))).tr (FG.up (by omega))).tr (FG.up (by omega))) | exact (((((((FG.up (by omega)).tr (FG.up (by omega))).tr (FG.up (by omega))).tr (FG.up (by omega))).tr (FG.up (by omega))).tr (FG.up (by omega))).tr (FG.up (by omega)))⟩
  · refine V_iconst 4 dX7_go_256 (by decide) ?_
    refine V_goto dX7_go_257 261 (by decide) ?_
    have htok : tokN tp n k = 4 := by unfold tokN; rw [if_pos hF, if_neg (by rw [hs]; decide), if_neg (by rw [hs]; decide), if_pos (Or.inr (by omega))]
    refine V_putI dX7_go_261 fp_X7_216 oM_token ?_
    refine V_aloadn_0 dX7_go_264 ?_
    refine V_aloadn_0 dX7_go_265 ?_
    refine V_getI dX7_go_266 fl_X7_207 oM_next ?_
    refine V_topi (y := nI (EE tp n (k + 1))) (by rw [vup_ne (by omega), vup_same]) ?_
    refine V_putI dX7_go_269 fp_X7_213 oM_ended ?_
    refine V_goto dX7_go_272 303 (by decide) ?_
    exact V_vret dX7_go_303 ⟨rfl, ⟨hT.fg (by first | exact ((FG.up (by omega)).tr (FG.up (by omega))) | exact (((FG.up (by omega)).tr (FG.up (by omega))).tr (FG.up (by omega))) | exact ((((FG.up (by omega)).tr (FG.up (by omega))).tr (FG.up (by omega))).tr (FG.up (by omega))) | exact (((((FG.up (by omega)).tr (FG.up (by omega))).tr (FG.up (by omega))).tr (FG.up (by omega))).tr (FG.up (by omega))) | exact ((((((FG.up (by omega)).tr (FG.up (by omega))).tr (FG.up (by omega))).tr (FG.up (by omega))).tr (FG.up (by omega))).tr (FG.up (by omega))) | exact (((((((FG.up (by omega)).tr (FG.up (by omega))).tr (FG.up (by omega))).tr (FG.up (by omega))).tr (FG.up (by omega))).tr (FG.up (by omega))).tr (FG.up (by omega)))), by rw [vup_ne (by omega), vup_ne (by omega), vup_ne (by omega), vup_ne (by omega), vup_ne (by omega), vup_same], by rw [vup_ne (by omega), vup_ne (by omega), vup_same], by rw [vup_same]; exact (if_pos ⟨hF, by rw [hs]; decide⟩).symm, by rw [vup_ne (by omega), vup_same, htok]; rfl, fun q => by omega, fun q => by first | omega | rw [vup_ne (by omega), vup_ne (by omega), vup_ne (by omega), vup_same, show min (EE tp n (k + 1) - FF tp n k) 4 = EE tp n (k + 1) - FF tp n k by omega]⟩, by first | exact ((FG.up (by omega)).tr (FG.up (by omega))) | exact (((FG.up (by omega)).tr (FG.up (by omega))).tr (FG.up (by omega))) | exact ((((FG.up (by omega)).tr (FG.up (by omega))).tr (FG.up (by omega))).tr (FG.up (by omega))) | exact (((((FG.up (by omega)).tr (FG.up (by omega))).tr (FG.up (by omega))).tr (FG.up (by omega))).tr (FG.up (by omega))) | exact ((((((FG.up (by omega)).tr (FG.up (by omega))).tr (FG.up (by omega))).tr (FG.up (by omega))).tr (FG.up (by omega))).tr (FG.up (by omega))) | exact (((((((FG.up (by omega)).tr (FG.up (by omega))).tr (FG.up (by omega))).tr (FG.up (by omega))).tr (FG.up (by omega))).tr (FG.up (by omega))).tr (FG.up (by omega)))⟩

set_option maxRecDepth 100000 in
set_option maxHeartbeats 4000000 in
theorem t_go_f {G : vG} {d : Nat} {σ : vS} (hd : 2 ≤ d + 1) {tp : Nat → Nat} {n k : Nat} (hT : MT tp n σ) (hed : σ 97 13 = edI tp n k) (hF : FF tp n k < n) (hs : srt (tp (FF tp n k)) = 2) : V G RX7 cX7_go none 2 (d + 1) (fun r' σ' => r' = none ∧ (MS tp n k σ' ∧ FG σ σ')) 38 [some (.ref 97), none] [] (vup σ 97 9 (nI (FF tp n k))) := by
  obtain ⟨h8, hn96, hta, h256⟩ := id hT
  have hfl := FF_le (tp := tp) (n := n) (k := k)
  have hel := EE_le (tp := tp) (n := n) (k := k + 1)
  have hT2 : MT tp n (vup (vup σ 97 9 (nI (FF tp n k))) 97 10 (nI (FF tp n k))) := hT.fg ((FG.up (by omega)).tr (FG.up (by omega)))
  refine V_aloadn_0 dX7_go_38 ?_
  refine V_aloadn_0 dX7_go_39 ?_
  refine V_getI dX7_go_40 fl_X7_207 oM_next ?_
  refine V_topi (y := nI (FF tp n k)) vup_same ?_
  refine V_putI dX7_go_43 fp_X7_210 oM_from ?_
  refine V_aloadn_0 dX7_go_46 ?_
  refine V_getI dX7_go_47 fl_X7_210 oM_from ?_
  refine V_topi (y := nI (FF tp n k)) vup_same ?_
  refine V_aloadn_0 dX7_go_50 ?_
  refine V_getI dX7_go_51 fl_X7_213 oM_ended ?_
  refine V_topi (y := edI tp n k) (by rw [vup_ne (by omega), vup_ne (by omega)]; exact hed) ?_
  refine V_icmp_ne dX7_go_54 61 (by decide) (fun h54 => ?_) (fun h54 => ?_)
  · refine V_iconst 0 dX7_go_61 (by decide) ?_
    refine V_istoren_1 dX7_go_62 (by first | exact rfl | exact True.intro) (by decide) ?_
    refine V_aloadn_0 dX7_go_63 ?_
    refine V_getI dX7_go_64 fl_X7_210 oM_from ?_
    refine V_topi (y := nI (FF tp n k)) vup_same ?_
    refine V_aloadn_0 dX7_go_67 ?_
    refine V_getI dX7_go_68 fl_X7_203 oM_taped ?_
    refine V_topi (y := nI n) (by rw [vup_ne (by omega), vup_ne (by omega)]; exact h8) ?_
    refine V_icmpN_ne (a := FF tp n k) (b := n) dX7_go_71 82 (by decide) (by omega) (by omega) (fun h71 => ?_) (fun h71 => ?_)
    · refine V_aloadn_0 dX7_go_82 ?_
      refine V_aloadn_0 dX7_go_83 ?_
      refine V_getI dX7_go_84 fl_X7_210 oM_from ?_
      refine V_topi (y := nI (FF tp n k)) vup_same ?_
      refine V_cv1f dX7_go_87 cv_X7_219 rcM (Nat.le_of_ble_eq_true rfl) (k_M_isLetter hT2 (by omega)) ?_
      refine V_ifB_eq dX7_go_90 154 (by decide) (fun h90 => ?_) (fun h90 => ?_)
      · refine V_aloadn_0 dX7_go_154 ?_
        refine V_aloadn_0 dX7_go_155 ?_
        refine V_getI dX7_go_156 fl_X7_210 oM_from ?_
        refine V_topi (y := nI (FF tp n k)) vup_same ?_
        refine V_cv1f dX7_go_159 cv_X7_225 rcM (Nat.le_of_ble_eq_true rfl) (k_M_isFigure hT2 (by omega)) ?_
        refine V_ifB_eq dX7_go_162 275 (by decide) (fun h162 => ?_) (fun h162 => ?_)
        · exact absurd ⟨hF, hs⟩ h162
        · refine V_aloadn_0 dX7_go_165 ?_
          refine V_iconst 0 dX7_go_166 (by decide) ?_
          refine V_putI dX7_go_167 fp_X7_222 oM_value ?_
          refine V_hp (σ' := vup (vup (vup (vup (vup σ 97 9 (nI (FF tp n k))) 97 10 (nI (FF tp n k))) 97 12 0) 97 12 (nI (numF tp (FF tp n k) (min (FF tp n k - FF tp n k) 4)))) 97 9 (nI (FF tp n k))) ?_ ?_
          · rw [show FF tp n k - FF tp n k = 0 by omega, show min 0 4 = 0 from rfl, show numF tp (FF tp n k) 0 = 0 from rfl, vup_id (show (vup (vup (vup σ 97 9 (nI (FF tp n k))) 97 10 (nI (FF tp n k))) 97 12 0) 97 12 = nI 0 from vup_same)]
            exact (vup_id (by rw [vup_ne (by omega), vup_ne (by omega), vup_same])).symm
          · exact lp_go3 (E := EE tp n (k + 1)) (hT2.fg (FG.up (by omega))) (by rw [vup_ne (by omega), vup_same]) hfl (fun j a b => by rw [word_in hF (by rw [hs]; decide) a b]; exact hs) (t_go_f0 hd hT hF hs (fun q => h54 ((ed_glu hn96 hF (by rw [hs]; decide)).mpr q))) (n + 1) (FF tp n k) ⟨hfl, Nat.le_refl _, Nat.le_of_lt (EE_gt hF), by rw [sk_y hF (by unfold soB; rw [hs]; rfl), EE_word hF (by rw [hs]; decide), hs]⟩ (by omega)
      · exact absurd h90.2 (by rw [hs]; decide)
    · exfalso; omega
  · refine V_iconst 1 dX7_go_57 (by decide) ?_
    refine V_goto dX7_go_58 62 (by decide) ?_
    refine V_istoren_1 dX7_go_62 (by first | exact rfl | exact True.intro) (by decide) ?_
    refine V_aloadn_0 dX7_go_63 ?_
    refine V_getI dX7_go_64 fl_X7_210 oM_from ?_
    refine V_topi (y := nI (FF tp n k)) vup_same ?_
    refine V_aloadn_0 dX7_go_67 ?_
    refine V_getI dX7_go_68 fl_X7_203 oM_taped ?_
    refine V_topi (y := nI n) (by rw [vup_ne (by omega), vup_ne (by omega)]; exact h8) ?_
    refine V_icmpN_ne (a := FF tp n k) (b := n) dX7_go_71 82 (by decide) (by omega) (by omega) (fun h71 => ?_) (fun h71 => ?_)
    · refine V_aloadn_0 dX7_go_82 ?_
      refine V_aloadn_0 dX7_go_83 ?_
      refine V_getI dX7_go_84 fl_X7_210 oM_from ?_
      refine V_topi (y := nI (FF tp n k)) vup_same ?_
      refine V_cv1f dX7_go_87 cv_X7_219 rcM (Nat.le_of_ble_eq_true rfl) (k_M_isLetter hT2 (by omega)) ?_
      refine V_ifB_eq dX7_go_90 154 (by decide) (fun h90 => ?_) (fun h90 => ?_)
      · refine V_aloadn_0 dX7_go_154 ?_
        refine V_aloadn_0 dX7_go_155 ?_
        refine V_getI dX7_go_156 fl_X7_210 oM_from ?_
        refine V_topi (y := nI (FF tp n k)) vup_same ?_
        refine V_cv1f dX7_go_159 cv_X7_225 rcM (Nat.le_of_ble_eq_true rfl) (k_M_isFigure hT2 (by omega)) ?_
        refine V_ifB_eq dX7_go_162 275 (by decide) (fun h162 => ?_) (fun h162 => ?_)
        · exact absurd ⟨hF, hs⟩ h162
        · refine V_aloadn_0 dX7_go_165 ?_
          refine V_iconst 0 dX7_go_166 (by decide) ?_
          refine V_putI dX7_go_167 fp_X7_222 oM_value ?_
          refine V_hp (σ' := vup (vup (vup (vup (vup σ 97 9 (nI (FF tp n k))) 97 10 (nI (FF tp n k))) 97 12 0) 97 12 (nI (numF tp (FF tp n k) (min (FF tp n k - FF tp n k) 4)))) 97 9 (nI (FF tp n k))) ?_ ?_
          · rw [show FF tp n k - FF tp n k = 0 by omega, show min 0 4 = 0 from rfl, show numF tp (FF tp n k) 0 = 0 from rfl, vup_id (show (vup (vup (vup σ 97 9 (nI (FF tp n k))) 97 10 (nI (FF tp n k))) 97 12 0) 97 12 = nI 0 from vup_same)]
            exact (vup_id (by rw [vup_ne (by omega), vup_ne (by omega), vup_same])).symm
          · exact lp_go3 (E := EE tp n (k + 1)) (hT2.fg (FG.up (by omega))) (by rw [vup_ne (by omega), vup_same]) hfl (fun j a b => by rw [word_in hF (by rw [hs]; decide) a b]; exact hs) (t_go_f1 hd hT hF hs ((ed_glu hn96 hF (by rw [hs]; decide)).mp h54)) (n + 1) (FF tp n k) ⟨hfl, Nat.le_refl _, Nat.le_of_lt (EE_gt hF), by rw [sk_y hF (by unfold soB; rw [hs]; rfl), EE_word hF (by rw [hs]; decide), hs]⟩ (by omega)
      · exact absurd h90.2 (by rw [hs]; decide)
    · exfalso; omega

set_option maxRecDepth 100000 in
set_option maxHeartbeats 4000000 in
theorem k_M_go {G : vG} {σ : vS} {d : Nat} (hd : 2 ≤ d) {tp : Nat → Nat} {n k : Nat} (hT : MT tp n σ) (h9 : σ 97 9 = nI (EE tp n k)) (hed : σ 97 13 = edI tp n k) : Cr G yX7_go cX7_go 2 none d [.ref 97] σ none (fun σ' => MS tp n k σ' ∧ FG σ σ') := by
  refine Ct.ofV (by decide) (Nat.le_of_ble_eq_true rfl) rfl ?_
  show V G RX7 cX7_go none 2 d _ 0 [some (.ref 97), none] [] _
  obtain ⟨d, rfl⟩ : ∃ e, d = e + 1 := ⟨d - 1, by omega⟩
  refine V_hp (vup_id h9).symm ?_
  refine lp_go1 hT ?_ (n + 1) (EE tp n k) ⟨EE_le, rfl⟩ (by omega)
  have hsl := srt_le (b := tp (FF tp n k))
  by_cases hF : FF tp n k < n
  · rcases (show srt (tp (FF tp n k)) = 0 ∨ srt (tp (FF tp n k)) = 1 ∨ srt (tp (FF tp n k)) = 2 by omega) with hs | hs | hs
    · exact t_go_s hd hT hed hF hs
    · exact t_go_l hd hT hed hF hs
    · exact t_go_f hd hT hed hF hs
  · exact t_go_e hd hT hed hF
