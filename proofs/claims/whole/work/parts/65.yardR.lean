theorem enc_ne0 {s : Nat} (h : bk s ≠ 0) : encI (20000 + s) ≠ 0 := by
  rcases bk_ok h with rfl | rfl | rfl | rfl | rfl | rfl | rfl | rfl | rfl <;> decide
theorem tok0 {tp : Nat → Nat} {n k : Nat} (h : tokN tp n k = 0) : ¬ FF tp n k < n := fun hF => by
  unfold tokN at h
  rw [if_pos hF] at h
  repeat' split at h
  all_goals omega

set_option maxRecDepth 100000 in
set_option maxHeartbeats 4000000 in
theorem e_sign {G : vG} {d : Nat} {Q : Option Value → vS → Prop} {σ : vS} (hd : 4 ≤ d + 1) {tp : Nat → Nat} {n ky k : Nat} {c w : List Nat} {t : List Bool} (hS : CF tp n ky k c w t σ) (hk2 : ky ≤ 2) (hok : wOK w) (hlen : c.length + w.length ≤ k) (hkF : k ≤ FF tp n k) (hnp : npW w ≤ 8) (hnn : nnW w ≤ 8) (htl : t.length = npW w + 1) (hd2 : dpL c = nbW w + 1) (hwf : wfP ky c) (hN : okN false w) (hbk : bkT (tkN tp n ky k) ≠ 0) (hts : ¬ (bkT (tkN tp n ky k) = 3 ∧ t.headD false = true)) (kont : ∀ σ', CF tp n ky (k + 1) ((stl (bkT (tkN tp n ky k)) c w).1) ((tkN tp n ky k - 20000) :: (stl (bkT (tkN tp n ky k)) c w).2) ((decide (bkT (tkN tp n ky k) = 3) || (decide (3 < bkT (tkN tp n ky k)) && t.headD false)) :: t.tail) σ' → FX σ σ' → V G RX7 cX7_takesE (some .boolean) 5 (d + 1) Q 28 [some (.ref 97), some (.int (nI (npW ((tkN tp n ky k - 20000) :: (stl (bkT (tkN tp n ky k)) c w).2)))), some (.int (nI (nnW ((tkN tp n ky k - 20000) :: (stl (bkT (tkN tp n ky k)) c w).2)))), some (.int 1), none] [] σ') : V G RX7 cX7_takesE (some .boolean) 5 (d + 1) Q 28 [some (.ref 97), some (.int (nI (npW w))), some (.int (nI (nnW w))), some (.int 0), none] [] σ := by
  obtain ⟨hM, h14, h19, hW, hTS⟩ := id hS
  obtain ⟨hT, m10, m9, m13, m11, m12, m12b⟩ := id hM
  obtain ⟨m8, hn96, hta, h256⟩ := id hT
  have hfl := FF_le (tp := tp) (n := n) (k := k)
  have hel := EE_le (tp := tp) (n := n) (k := k + 1)
  have htk4 := tok_le (tp := tp) (n := n) (k := k)
  have hlv := lv_le (c := c)
  have hp := bk_pos hbk
  have hF := hp.1
  have htk := hp.2.2
  have hbk0 : bk (tp (FF tp n k)) ≠ 0 := by rw [← bk_tk (ky := ky) hF]; exact hbk
  have hbr := bk_rk hbk0
  have hrk : rk (tp (FF tp n k)) = bkT (tkN tp n ky k) := by rw [hbr.1, bk_tk hF]
  have hb5 := bk_le (s := tp (FF tp n k))
  have hb256 := h256 _ hF
  have htok : tokN tp n k = 3 := by unfold tokN; rw [if_pos hF, if_pos hp.2.1]
  rw [htok] at m11
  have hva := m12 (Or.inr htok)
  obtain ⟨b0, t2, rfl⟩ : ∃ b t2, t = b :: t2 := by
    cases t with
    | nil => simp only [List.length_nil] at htl; omega
    | cons b t2 => exact ⟨b, t2, rfl⟩
  have ht2 : npW w = t2.length := by simp only [List.length_cons] at htl; omega
  have hhd : σ 109 (npW w) = bI (b0 = true) := by rw [ht2]; exact hTS.head
  have hst := stl_inv (ky := ky) (r := bkT (tkN tp n ky k)) w c hwf hok hd2
  have hsl := stl_len (r := bkT (tkN tp n ky k)) w c
  have hsN := stl_okN (r := bkT (tkN tp n ky k)) w c hN
  have e20 : tkN tp n ky k - 20000 = tp (FF tp n k) := by omega
  rw [e20] at kont
  refine V_iloadn_3 dX7_takesE_28 ?_
  refine V_if_ne_f dX7_takesE_29 39 (by decide) (by decide) ?_
  refine V_aloadn_0 dX7_takesE_32 ?_
  refine V_getI dX7_takesE_33 fl_X7_216 oM_token ?_
  refine V_topi (y := 3) m11 ?_
  refine V_if_eq_f dX7_takesE_36 345 (by decide) (by decide) ?_
  refine V_iloadn_3 dX7_takesE_39 ?_
  refine V_if_eq_t dX7_takesE_40 180 (by decide) (by decide) ?_
  refine V_aloadn_0 dX7_takesE_180 ?_
  refine V_getI dX7_takesE_181 fl_X7_216 oM_token ?_
  refine V_topi (y := 3) m11 ?_
  refine V_iconst 3 dX7_takesE_184 (by decide) ?_
  refine V_icmp_ne_f dX7_takesE_185 237 (by decide) (by decide) ?_
  refine V_aloadn_0 dX7_takesE_188 ?_
  refine V_getI dX7_takesE_189 fl_X7_222 oM_value ?_
  refine V_topi (y := nI (tp (FF tp n k))) hva ?_
  refine V_bipush 41 dX7_takesE_192 (by decide) ?_
  refine V_icmpN_ne (a := tp (FF tp n k)) (b := 41) dX7_takesE_194 237 (by decide) (by omega) (by omega) (fun h194 => ?_) (fun h194 => ?_)
  · refine V_aloadn_0 dX7_takesE_237 ?_
    refine V_cv0f dX7_takesE_238 cv_X7_259 rcM (Nat.le_of_ble_eq_true rfl) (k_M_signHere (ky := ky) hM) ?_
    refine V_topi (y := encI (20000 + tp (FF tp n k))) (by unfold sgI; rw [if_pos hbk, htk]) ?_
    refine V_istore_4 dX7_takesE_241 (by first | exact rfl | exact True.intro) (by decide) ?_
    refine V_iload_4 dX7_takesE_243 ?_
    refine V_if_eq dX7_takesE_245 266 (by decide) (fun h245 => ?_) (fun h245 => ?_)
    · exact absurd h245 (enc_ne0 hbk0)
    · refine V_iload_4 dX7_takesE_248 ?_
      refine V_cs1f dX7_takesE_250 cs_X7_237 (Nat.le_of_ble_eq_true rfl) (k_M_rank (Or.inr hbk0)) ?_
      refine V_iconst 3 dX7_takesE_253 (by decide) ?_
      refine V_icmpN_ne (a := rk (tp (FF tp n k))) (b := 3) dX7_takesE_254 268 (by decide) (by omega) (by omega) (fun h254 => ?_) (fun h254 => ?_)
      · refine V_aloadn_0 dX7_takesE_268 ?_
        refine V_getR dX7_takesE_269 fl_X7_44 oM_tested ?_
        refine V_iloadn_1 dX7_takesE_272 ?_
        refine V_iload_4 dX7_takesE_273 ?_
        refine V_cs1f dX7_takesE_275 cs_X7_237 (Nat.le_of_ble_eq_true rfl) (k_M_rank (Or.inr hbk0)) ?_
        refine V_iconst 3 dX7_takesE_278 (by decide) ?_
        refine V_icmpN_eq (a := rk (tp (FF tp n k))) (b := 3) dX7_takesE_279 300 (by decide) (by omega) (by omega) (fun h279 => ?_) (fun h279 => ?_)
        · refine V_iconst 1 dX7_takesE_300 (by decide) ?_
          refine V_goto dX7_takesE_301 305 (by decide) ?_
          refine V_zast (j := npW w) dX7_takesE_305 aM_tested (by omega) (by decide) (by decide) ?_
          have htn : (decide (bkT (tkN tp n ky k) = 3) || (decide (3 < bkT (tkN tp n ky k)) && b0)) = true := by rw [show decide (bkT (tkN tp n ky k) = 3) = true from decide_eq_true (by omega)]; rfl
          have hT1 : TS ((decide (bkT (tkN tp n ky k) = 3) || (decide (3 < bkT (tkN tp n ky k)) && b0)) :: t2) (vup σ 109 (npW w) 1) := by rw [ht2]; exact hTS.set (by rw [htn]; rfl)
          have f1 : FX σ (vup σ 109 (npW w) 1) := FX.ar (by omega)
          have hW1 : CW c w (vup σ 109 (npW w) 1) := hW.of (by rw [vup_ne (by omega)]) (by rw [vup_ne (by omega)]) (vup_p (by decide)) (vup_p (by decide))
          refine V_aloadn_0 dX7_takesE_306 ?_
          refine V_iload_4 dX7_takesE_307 ?_
          refine V_cs1f dX7_takesE_309 cs_X7_237 (Nat.le_of_ble_eq_true rfl) (k_M_rank (Or.inr hbk0)) ?_
          refine V_cv1n dX7_takesE_312 cv_X7_249 rcM (Nat.le_of_ble_eq_true rfl) (k_M_settle (r := rk (tp (FF tp n k))) (by omega) hW1 hok (by omega) rk_le) (fun σ4 h4 => ?_)
          rw [hrk] at h4
          have f4 := f1.tr h4.2.x
          have f3 : FX σ (vup (vup σ4 108 (stl (bkT (tkN tp n ky k)) c w).2.length (encI (20000 + tp (FF tp n k)))) 97 21 (nI ((stl (bkT (tkN tp n ky k)) c w).2.length + 1))) := (f4.tr (FX.ar (by omega))).tr (FX.up (by omega))
          have hW3 : CW (stl (bkT (tkN tp n ky k)) c w).1 (tp (FF tp n k) :: (stl (bkT (tkN tp n ky k)) c w).2) (vup (vup σ4 108 (stl (bkT (tkN tp n ky k)) c w).2.length (encI (20000 + tp (FF tp n k)))) 97 21 (nI ((stl (bkT (tkN tp n ky k)) c w).2.length + 1))) := by
            have := CW.pushW (s := tp (FF tp n k)) h4.1
            rw [show wE (tp (FF tp n k)) = encI (20000 + tp (FF tp n k)) from if_neg hbr.2.2.1] at this
            exact this
          refine V_aloadn_0 dX7_takesE_315 ?_
          refine V_getR dX7_takesE_316 fl_X7_41 oM_waits ?_
          refine V_aloadn_0 dX7_takesE_319 ?_
          refine V_getI dX7_takesE_320 fl_X7_234 oM_held ?_
          refine V_topi (y := nI ((stl (bkT (tkN tp n ky k)) c w).2.length)) h4.1.2.1 ?_
          refine V_iload_4 dX7_takesE_323 ?_
          refine V_iast (j := (stl (bkT (tkN tp n ky k)) c w).2.length) dX7_takesE_325 aM_waits (by omega) (by decide) ?_
          refine V_aloadn_0 dX7_takesE_326 ?_
          refine V_dup dX7_takesE_327 rfl ?_
          refine V_getI dX7_takesE_328 fl_X7_234 oM_held ?_
          refine V_topi (y := nI ((stl (bkT (tkN tp n ky k)) c w).2.length)) (by rw [vup_ne (by omega)]; exact h4.1.2.1) ?_
          refine V_iconst 1 dX7_takesE_331 (by decide) ?_
          refine V_iaddN (a := (stl (bkT (tkN tp n ky k)) c w).2.length) (b := 1) dX7_takesE_332 ?_
          refine V_putI dX7_takesE_333 fp_X7_234 oM_held ?_
          refine V_iconst 1 dX7_takesE_336 (by decide) ?_
          refine V_istoren_3 dX7_takesE_337 (by first | exact rfl | exact True.intro) (by decide) ?_
          refine V_aloadn_0 dX7_takesE_338 ?_
          refine V_cv0n dX7_takesE_339 cv_X7_231 rcM (Nat.le_of_ble_eq_true rfl) (k_M_go (tp := tp) (n := n) (k := k + 1) (by omega) (hT.fx f3) (by rw [vup_ne (by omega), vup_ne (by omega), h4.2.2 9 (by decide) (by decide), vup_ne (by omega)]; exact m9) (by rw [vup_ne (by omega), vup_ne (by omega), h4.2.2 13 (by decide) (by decide), vup_ne (by omega)]; exact m13)) (fun σ5 h5 => ?_)
          refine V_goto dX7_takesE_342 28 (by decide) ?_
          refine V_fg_4 ?_
          refine V_lo (lo' := [some (.ref 97), some (.int (nI (npW (tp (FF tp n k) :: (stl (bkT (tkN tp n ky k)) c w).2)))), some (.int (nI (nnW (tp (FF tp n k) :: (stl (bkT (tkN tp n ky k)) c w).2)))), some (.int 1), none]) (by rw [np_ne hbr.2.2.1, nn_ne hbr.2.1, hst.2.2.2.1, hsN.2]) ?_
          exact kont σ5 ⟨h5.1, by rw [h5.2.2 14 (by omega), vup_ne (by omega), vup_ne (by omega), h4.2.2 14 (by decide) (by decide), vup_ne (by omega)]; exact h14, by rw [h5.2.2 19 (by omega), vup_ne (by omega), vup_ne (by omega), h4.2.2 19 (by decide) (by decide), vup_ne (by omega), stl_lv]; exact h19, hW3.fg h5.2, hT1.of (by rw [h5.2.1 109 (by decide), vup_p (by decide), vup_p (by decide), h4.2.1 109 (by decide) (by decide)])⟩ (f3.tr h5.2.x)
        · refine V_iload_4 dX7_takesE_282 ?_
          refine V_cs1f dX7_takesE_284 cs_X7_237 (Nat.le_of_ble_eq_true rfl) (k_M_rank (Or.inr hbk0)) ?_
          refine V_iconst 3 dX7_takesE_287 (by decide) ?_
          refine V_icmpN_le (a := rk (tp (FF tp n k))) (b := 3) dX7_takesE_288 304 (by decide) (by omega) (by omega) (fun h288 => ?_) (fun h288 => ?_)
          · refine V_iconst 0 dX7_takesE_304 (by decide) ?_
            refine V_zast (j := npW w) dX7_takesE_305 aM_tested (by omega) (by decide) (by decide) ?_
            have htn : (decide (bkT (tkN tp n ky k) = 3) || (decide (3 < bkT (tkN tp n ky k)) && b0)) = false := by rw [show decide (bkT (tkN tp n ky k) = 3) = false from decide_eq_false (by omega), show decide (3 < bkT (tkN tp n ky k)) = false from decide_eq_false (by omega)]; rfl
            have hT1 : TS ((decide (bkT (tkN tp n ky k) = 3) || (decide (3 < bkT (tkN tp n ky k)) && b0)) :: t2) (vup σ 109 (npW w) 0) := by rw [ht2]; exact hTS.set (by rw [htn]; rfl)
            have f1 : FX σ (vup σ 109 (npW w) 0) := FX.ar (by omega)
            have hW1 : CW c w (vup σ 109 (npW w) 0) := hW.of (by rw [vup_ne (by omega)]) (by rw [vup_ne (by omega)]) (vup_p (by decide)) (vup_p (by decide))
            refine V_aloadn_0 dX7_takesE_306 ?_
            refine V_iload_4 dX7_takesE_307 ?_
            refine V_cs1f dX7_takesE_309 cs_X7_237 (Nat.le_of_ble_eq_true rfl) (k_M_rank (Or.inr hbk0)) ?_
            refine V_cv1n dX7_takesE_312 cv_X7_249 rcM (Nat.le_of_ble_eq_true rfl) (k_M_settle (r := rk (tp (FF tp n k))) (by omega) hW1 hok (by omega) rk_le) (fun σ4 h4 => ?_)
            rw [hrk] at h4
            have f4 := f1.tr h4.2.x
            have f3 : FX σ (vup (vup σ4 108 (stl (bkT (tkN tp n ky k)) c w).2.length (encI (20000 + tp (FF tp n k)))) 97 21 (nI ((stl (bkT (tkN tp n ky k)) c w).2.length + 1))) := (f4.tr (FX.ar (by omega))).tr (FX.up (by omega))
            have hW3 : CW (stl (bkT (tkN tp n ky k)) c w).1 (tp (FF tp n k) :: (stl (bkT (tkN tp n ky k)) c w).2) (vup (vup σ4 108 (stl (bkT (tkN tp n ky k)) c w).2.length (encI (20000 + tp (FF tp n k)))) 97 21 (nI ((stl (bkT (tkN tp n ky k)) c w).2.length + 1))) := by
              have := CW.pushW (s := tp (FF tp n k)) h4.1
              rw [show wE (tp (FF tp n k)) = encI (20000 + tp (FF tp n k)) from if_neg hbr.2.2.1] at this
              exact this
            refine V_aloadn_0 dX7_takesE_315 ?_
            refine V_getR dX7_takesE_316 fl_X7_41 oM_waits ?_
            refine V_aloadn_0 dX7_takesE_319 ?_
            refine V_getI dX7_takesE_320 fl_X7_234 oM_held ?_
            refine V_topi (y := nI ((stl (bkT (tkN tp n ky k)) c w).2.length)) h4.1.2.1 ?_
            refine V_iload_4 dX7_takesE_323 ?_
            refine V_iast (j := (stl (bkT (tkN tp n ky k)) c w).2.length) dX7_takesE_325 aM_waits (by omega) (by decide) ?_
            refine V_aloadn_0 dX7_takesE_326 ?_
            refine V_dup dX7_takesE_327 rfl ?_
            refine V_getI dX7_takesE_328 fl_X7_234 oM_held ?_
            refine V_topi (y := nI ((stl (bkT (tkN tp n ky k)) c w).2.length)) (by rw [vup_ne (by omega)]; exact h4.1.2.1) ?_
            refine V_iconst 1 dX7_takesE_331 (by decide) ?_
            refine V_iaddN (a := (stl (bkT (tkN tp n ky k)) c w).2.length) (b := 1) dX7_takesE_332 ?_
            refine V_putI dX7_takesE_333 fp_X7_234 oM_held ?_
            refine V_iconst 1 dX7_takesE_336 (by decide) ?_
            refine V_istoren_3 dX7_takesE_337 (by first | exact rfl | exact True.intro) (by decide) ?_
            refine V_aloadn_0 dX7_takesE_338 ?_
            refine V_cv0n dX7_takesE_339 cv_X7_231 rcM (Nat.le_of_ble_eq_true rfl) (k_M_go (tp := tp) (n := n) (k := k + 1) (by omega) (hT.fx f3) (by rw [vup_ne (by omega), vup_ne (by omega), h4.2.2 9 (by decide) (by decide), vup_ne (by omega)]; exact m9) (by rw [vup_ne (by omega), vup_ne (by omega), h4.2.2 13 (by decide) (by decide), vup_ne (by omega)]; exact m13)) (fun σ5 h5 => ?_)
            refine V_goto dX7_takesE_342 28 (by decide) ?_
            refine V_fg_4 ?_
            refine V_lo (lo' := [some (.ref 97), some (.int (nI (npW (tp (FF tp n k) :: (stl (bkT (tkN tp n ky k)) c w).2)))), some (.int (nI (nnW (tp (FF tp n k) :: (stl (bkT (tkN tp n ky k)) c w).2)))), some (.int 1), none]) (by rw [np_ne hbr.2.2.1, nn_ne hbr.2.1, hst.2.2.2.1, hsN.2]) ?_
            exact kont σ5 ⟨h5.1, by rw [h5.2.2 14 (by omega), vup_ne (by omega), vup_ne (by omega), h4.2.2 14 (by decide) (by decide), vup_ne (by omega)]; exact h14, by rw [h5.2.2 19 (by omega), vup_ne (by omega), vup_ne (by omega), h4.2.2 19 (by decide) (by decide), vup_ne (by omega), stl_lv]; exact h19, hW3.fg h5.2, hT1.of (by rw [h5.2.1 109 (by decide), vup_p (by decide), vup_p (by decide), h4.2.1 109 (by decide) (by decide)])⟩ (f3.tr h5.2.x)
          · refine V_aloadn_0 dX7_takesE_291 ?_
            refine V_getR dX7_takesE_292 fl_X7_44 oM_tested ?_
            refine V_iloadn_1 dX7_takesE_295 ?_
            refine V_zald (j := npW w) dX7_takesE_296 aM_tested (by omega) (by decide) ?_
            refine V_topi (y := bI (b0 = true)) hhd ?_
            refine V_ifB_eq dX7_takesE_297 304 (by decide) (fun h297 => ?_) (fun h297 => ?_)
            · refine V_iconst 0 dX7_takesE_304 (by decide) ?_
              refine V_zast (j := npW w) dX7_takesE_305 aM_tested (by omega) (by decide) (by decide) ?_
              have htn : (decide (bkT (tkN tp n ky k) = 3) || (decide (3 < bkT (tkN tp n ky k)) && b0)) = false := by rw [show decide (bkT (tkN tp n ky k) = 3) = false from decide_eq_false (by omega), show b0 = false from Bool.eq_false_iff.mpr h297]; simp
              have hT1 : TS ((decide (bkT (tkN tp n ky k) = 3) || (decide (3 < bkT (tkN tp n ky k)) && b0)) :: t2) (vup σ 109 (npW w) 0) := by rw [ht2]; exact hTS.set (by rw [htn]; rfl)
              have f1 : FX σ (vup σ 109 (npW w) 0) := FX.ar (by omega)
              have hW1 : CW c w (vup σ 109 (npW w) 0) := hW.of (by rw [vup_ne (by omega)]) (by rw [vup_ne (by omega)]) (vup_p (by decide)) (vup_p (by decide))
              refine V_aloadn_0 dX7_takesE_306 ?_
              refine V_iload_4 dX7_takesE_307 ?_
              refine V_cs1f dX7_takesE_309 cs_X7_237 (Nat.le_of_ble_eq_true rfl) (k_M_rank (Or.inr hbk0)) ?_
              refine V_cv1n dX7_takesE_312 cv_X7_249 rcM (Nat.le_of_ble_eq_true rfl) (k_M_settle (r := rk (tp (FF tp n k))) (by omega) hW1 hok (by omega) rk_le) (fun σ4 h4 => ?_)
              rw [hrk] at h4
              have f4 := f1.tr h4.2.x
              have f3 : FX σ (vup (vup σ4 108 (stl (bkT (tkN tp n ky k)) c w).2.length (encI (20000 + tp (FF tp n k)))) 97 21 (nI ((stl (bkT (tkN tp n ky k)) c w).2.length + 1))) := (f4.tr (FX.ar (by omega))).tr (FX.up (by omega))
              have hW3 : CW (stl (bkT (tkN tp n ky k)) c w).1 (tp (FF tp n k) :: (stl (bkT (tkN tp n ky k)) c w).2) (vup (vup σ4 108 (stl (bkT (tkN tp n ky k)) c w).2.length (encI (20000 + tp (FF tp n k)))) 97 21 (nI ((stl (bkT (tkN tp n ky k)) c w).2.length + 1))) := by
                have := CW.pushW (s := tp (FF tp n k)) h4.1
                rw [show wE (tp (FF tp n k)) = encI (20000 + tp (FF tp n k)) from if_neg hbr.2.2.1] at this
                exact this
              refine V_aloadn_0 dX7_takesE_315 ?_
              refine V_getR dX7_takesE_316 fl_X7_41 oM_waits ?_
              refine V_aloadn_0 dX7_takesE_319 ?_
              refine V_getI dX7_takesE_320 fl_X7_234 oM_held ?_
              refine V_topi (y := nI ((stl (bkT (tkN tp n ky k)) c w).2.length)) h4.1.2.1 ?_
              refine V_iload_4 dX7_takesE_323 ?_
              refine V_iast (j := (stl (bkT (tkN tp n ky k)) c w).2.length) dX7_takesE_325 aM_waits (by omega) (by decide) ?_
              refine V_aloadn_0 dX7_takesE_326 ?_
              refine V_dup dX7_takesE_327 rfl ?_
              refine V_getI dX7_takesE_328 fl_X7_234 oM_held ?_
              refine V_topi (y := nI ((stl (bkT (tkN tp n ky k)) c w).2.length)) (by rw [vup_ne (by omega)]; exact h4.1.2.1) ?_
              refine V_iconst 1 dX7_takesE_331 (by decide) ?_
              refine V_iaddN (a := (stl (bkT (tkN tp n ky k)) c w).2.length) (b := 1) dX7_takesE_332 ?_
              refine V_putI dX7_takesE_333 fp_X7_234 oM_held ?_
              refine V_iconst 1 dX7_takesE_336 (by decide) ?_
              refine V_istoren_3 dX7_takesE_337 (by first | exact rfl | exact True.intro) (by decide) ?_
              refine V_aloadn_0 dX7_takesE_338 ?_
              refine V_cv0n dX7_takesE_339 cv_X7_231 rcM (Nat.le_of_ble_eq_true rfl) (k_M_go (tp := tp) (n := n) (k := k + 1) (by omega) (hT.fx f3) (by rw [vup_ne (by omega), vup_ne (by omega), h4.2.2 9 (by decide) (by decide), vup_ne (by omega)]; exact m9) (by rw [vup_ne (by omega), vup_ne (by omega), h4.2.2 13 (by decide) (by decide), vup_ne (by omega)]; exact m13)) (fun σ5 h5 => ?_)
              refine V_goto dX7_takesE_342 28 (by decide) ?_
              refine V_fg_4 ?_
              refine V_lo (lo' := [some (.ref 97), some (.int (nI (npW (tp (FF tp n k) :: (stl (bkT (tkN tp n ky k)) c w).2)))), some (.int (nI (nnW (tp (FF tp n k) :: (stl (bkT (tkN tp n ky k)) c w).2)))), some (.int 1), none]) (by rw [np_ne hbr.2.2.1, nn_ne hbr.2.1, hst.2.2.2.1, hsN.2]) ?_
              exact kont σ5 ⟨h5.1, by rw [h5.2.2 14 (by omega), vup_ne (by omega), vup_ne (by omega), h4.2.2 14 (by decide) (by decide), vup_ne (by omega)]; exact h14, by rw [h5.2.2 19 (by omega), vup_ne (by omega), vup_ne (by omega), h4.2.2 19 (by decide) (by decide), vup_ne (by omega), stl_lv]; exact h19, hW3.fg h5.2, hT1.of (by rw [h5.2.1 109 (by decide), vup_p (by decide), vup_p (by decide), h4.2.1 109 (by decide) (by decide)])⟩ (f3.tr h5.2.x)
            · refine V_iconst 1 dX7_takesE_300 (by decide) ?_
              refine V_goto dX7_takesE_301 305 (by decide) ?_
              refine V_zast (j := npW w) dX7_takesE_305 aM_tested (by omega) (by decide) (by decide) ?_
              have htn : (decide (bkT (tkN tp n ky k) = 3) || (decide (3 < bkT (tkN tp n ky k)) && b0)) = true := by rw [show decide (3 < bkT (tkN tp n ky k)) = true from decide_eq_true (by omega), h297]; simp
              have hT1 : TS ((decide (bkT (tkN tp n ky k) = 3) || (decide (3 < bkT (tkN tp n ky k)) && b0)) :: t2) (vup σ 109 (npW w) 1) := by rw [ht2]; exact hTS.set (by rw [htn]; rfl)
              have f1 : FX σ (vup σ 109 (npW w) 1) := FX.ar (by omega)
              have hW1 : CW c w (vup σ 109 (npW w) 1) := hW.of (by rw [vup_ne (by omega)]) (by rw [vup_ne (by omega)]) (vup_p (by decide)) (vup_p (by decide))
              refine V_aloadn_0 dX7_takesE_306 ?_
              refine V_iload_4 dX7_takesE_307 ?_
              refine V_cs1f dX7_takesE_309 cs_X7_237 (Nat.le_of_ble_eq_true rfl) (k_M_rank (Or.inr hbk0)) ?_
              refine V_cv1n dX7_takesE_312 cv_X7_249 rcM (Nat.le_of_ble_eq_true rfl) (k_M_settle (r := rk (tp (FF tp n k))) (by omega) hW1 hok (by omega) rk_le) (fun σ4 h4 => ?_)
              rw [hrk] at h4
              have f4 := f1.tr h4.2.x
              have f3 : FX σ (vup (vup σ4 108 (stl (bkT (tkN tp n ky k)) c w).2.length (encI (20000 + tp (FF tp n k)))) 97 21 (nI ((stl (bkT (tkN tp n ky k)) c w).2.length + 1))) := (f4.tr (FX.ar (by omega))).tr (FX.up (by omega))
              have hW3 : CW (stl (bkT (tkN tp n ky k)) c w).1 (tp (FF tp n k) :: (stl (bkT (tkN tp n ky k)) c w).2) (vup (vup σ4 108 (stl (bkT (tkN tp n ky k)) c w).2.length (encI (20000 + tp (FF tp n k)))) 97 21 (nI ((stl (bkT (tkN tp n ky k)) c w).2.length + 1))) := by
                have := CW.pushW (s := tp (FF tp n k)) h4.1
                rw [show wE (tp (FF tp n k)) = encI (20000 + tp (FF tp n k)) from if_neg hbr.2.2.1] at this
                exact this
              refine V_aloadn_0 dX7_takesE_315 ?_
              refine V_getR dX7_takesE_316 fl_X7_41 oM_waits ?_
              refine V_aloadn_0 dX7_takesE_319 ?_
              refine V_getI dX7_takesE_320 fl_X7_234 oM_held ?_
              refine V_topi (y := nI ((stl (bkT (tkN tp n ky k)) c w).2.length)) h4.1.2.1 ?_
              refine V_iload_4 dX7_takesE_323 ?_
              refine V_iast (j := (stl (bkT (tkN tp n ky k)) c w).2.length) dX7_takesE_325 aM_waits (by omega) (by decide) ?_
              refine V_aloadn_0 dX7_takesE_326 ?_
              refine V_dup dX7_takesE_327 rfl ?_
              refine V_getI dX7_takesE_328 fl_X7_234 oM_held ?_
              refine V_topi (y := nI ((stl (bkT (tkN tp n ky k)) c w).2.length)) (by rw [vup_ne (by omega)]; exact h4.1.2.1) ?_
              refine V_iconst 1 dX7_takesE_331 (by decide) ?_
              refine V_iaddN (a := (stl (bkT (tkN tp n ky k)) c w).2.length) (b := 1) dX7_takesE_332 ?_
              refine V_putI dX7_takesE_333 fp_X7_234 oM_held ?_
              refine V_iconst 1 dX7_takesE_336 (by decide) ?_
              refine V_istoren_3 dX7_takesE_337 (by first | exact rfl | exact True.intro) (by decide) ?_
              refine V_aloadn_0 dX7_takesE_338 ?_
              refine V_cv0n dX7_takesE_339 cv_X7_231 rcM (Nat.le_of_ble_eq_true rfl) (k_M_go (tp := tp) (n := n) (k := k + 1) (by omega) (hT.fx f3) (by rw [vup_ne (by omega), vup_ne (by omega), h4.2.2 9 (by decide) (by decide), vup_ne (by omega)]; exact m9) (by rw [vup_ne (by omega), vup_ne (by omega), h4.2.2 13 (by decide) (by decide), vup_ne (by omega)]; exact m13)) (fun σ5 h5 => ?_)
              refine V_goto dX7_takesE_342 28 (by decide) ?_
              refine V_fg_4 ?_
              refine V_lo (lo' := [some (.ref 97), some (.int (nI (npW (tp (FF tp n k) :: (stl (bkT (tkN tp n ky k)) c w).2)))), some (.int (nI (nnW (tp (FF tp n k) :: (stl (bkT (tkN tp n ky k)) c w).2)))), some (.int 1), none]) (by rw [np_ne hbr.2.2.1, nn_ne hbr.2.1, hst.2.2.2.1, hsN.2]) ?_
              exact kont σ5 ⟨h5.1, by rw [h5.2.2 14 (by omega), vup_ne (by omega), vup_ne (by omega), h4.2.2 14 (by decide) (by decide), vup_ne (by omega)]; exact h14, by rw [h5.2.2 19 (by omega), vup_ne (by omega), vup_ne (by omega), h4.2.2 19 (by decide) (by decide), vup_ne (by omega), stl_lv]; exact h19, hW3.fg h5.2, hT1.of (by rw [h5.2.1 109 (by decide), vup_p (by decide), vup_p (by decide), h4.2.1 109 (by decide) (by decide)])⟩ (f3.tr h5.2.x)
      · refine V_aloadn_0 dX7_takesE_257 ?_
        refine V_getR dX7_takesE_258 fl_X7_44 oM_tested ?_
        refine V_iloadn_1 dX7_takesE_261 ?_
        refine V_zald (j := npW w) dX7_takesE_262 aM_tested (by omega) (by decide) ?_
        refine V_topi (y := bI (b0 = true)) hhd ?_
        refine V_ifB_eq dX7_takesE_263 268 (by decide) (fun h263 => ?_) (fun h263 => ?_)
        · refine V_aloadn_0 dX7_takesE_268 ?_
          refine V_getR dX7_takesE_269 fl_X7_44 oM_tested ?_
          refine V_iloadn_1 dX7_takesE_272 ?_
          refine V_iload_4 dX7_takesE_273 ?_
          refine V_cs1f dX7_takesE_275 cs_X7_237 (Nat.le_of_ble_eq_true rfl) (k_M_rank (Or.inr hbk0)) ?_
          refine V_iconst 3 dX7_takesE_278 (by decide) ?_
          refine V_icmpN_eq (a := rk (tp (FF tp n k))) (b := 3) dX7_takesE_279 300 (by decide) (by omega) (by omega) (fun h279 => ?_) (fun h279 => ?_)
          · refine V_iconst 1 dX7_takesE_300 (by decide) ?_
            refine V_goto dX7_takesE_301 305 (by decide) ?_
            refine V_zast (j := npW w) dX7_takesE_305 aM_tested (by omega) (by decide) (by decide) ?_
            have htn : (decide (bkT (tkN tp n ky k) = 3) || (decide (3 < bkT (tkN tp n ky k)) && b0)) = true := by rw [show decide (bkT (tkN tp n ky k) = 3) = true from decide_eq_true (by omega)]; rfl
            have hT1 : TS ((decide (bkT (tkN tp n ky k) = 3) || (decide (3 < bkT (tkN tp n ky k)) && b0)) :: t2) (vup σ 109 (npW w) 1) := by rw [ht2]; exact hTS.set (by rw [htn]; rfl)
            have f1 : FX σ (vup σ 109 (npW w) 1) := FX.ar (by omega)
            have hW1 : CW c w (vup σ 109 (npW w) 1) := hW.of (by rw [vup_ne (by omega)]) (by rw [vup_ne (by omega)]) (vup_p (by decide)) (vup_p (by decide))
            refine V_aloadn_0 dX7_takesE_306 ?_
            refine V_iload_4 dX7_takesE_307 ?_
            refine V_cs1f dX7_takesE_309 cs_X7_237 (Nat.le_of_ble_eq_true rfl) (k_M_rank (Or.inr hbk0)) ?_
            refine V_cv1n dX7_takesE_312 cv_X7_249 rcM (Nat.le_of_ble_eq_true rfl) (k_M_settle (r := rk (tp (FF tp n k))) (by omega) hW1 hok (by omega) rk_le) (fun σ4 h4 => ?_)
            rw [hrk] at h4
            have f4 := f1.tr h4.2.x
            have f3 : FX σ (vup (vup σ4 108 (stl (bkT (tkN tp n ky k)) c w).2.length (encI (20000 + tp (FF tp n k)))) 97 21 (nI ((stl (bkT (tkN tp n ky k)) c w).2.length + 1))) := (f4.tr (FX.ar (by omega))).tr (FX.up (by omega))
            have hW3 : CW (stl (bkT (tkN tp n ky k)) c w).1 (tp (FF tp n k) :: (stl (bkT (tkN tp n ky k)) c w).2) (vup (vup σ4 108 (stl (bkT (tkN tp n ky k)) c w).2.length (encI (20000 + tp (FF tp n k)))) 97 21 (nI ((stl (bkT (tkN tp n ky k)) c w).2.length + 1))) := by
              have := CW.pushW (s := tp (FF tp n k)) h4.1
              rw [show wE (tp (FF tp n k)) = encI (20000 + tp (FF tp n k)) from if_neg hbr.2.2.1] at this
              exact this
            refine V_aloadn_0 dX7_takesE_315 ?_
            refine V_getR dX7_takesE_316 fl_X7_41 oM_waits ?_
            refine V_aloadn_0 dX7_takesE_319 ?_
            refine V_getI dX7_takesE_320 fl_X7_234 oM_held ?_
            refine V_topi (y := nI ((stl (bkT (tkN tp n ky k)) c w).2.length)) h4.1.2.1 ?_
            refine V_iload_4 dX7_takesE_323 ?_
            refine V_iast (j := (stl (bkT (tkN tp n ky k)) c w).2.length) dX7_takesE_325 aM_waits (by omega) (by decide) ?_
            refine V_aloadn_0 dX7_takesE_326 ?_
            refine V_dup dX7_takesE_327 rfl ?_
            refine V_getI dX7_takesE_328 fl_X7_234 oM_held ?_
            refine V_topi (y := nI ((stl (bkT (tkN tp n ky k)) c w).2.length)) (by rw [vup_ne (by omega)]; exact h4.1.2.1) ?_
            refine V_iconst 1 dX7_takesE_331 (by decide) ?_
            refine V_iaddN (a := (stl (bkT (tkN tp n ky k)) c w).2.length) (b := 1) dX7_takesE_332 ?_
            refine V_putI dX7_takesE_333 fp_X7_234 oM_held ?_
            refine V_iconst 1 dX7_takesE_336 (by decide) ?_
            refine V_istoren_3 dX7_takesE_337 (by first | exact rfl | exact True.intro) (by decide) ?_
            refine V_aloadn_0 dX7_takesE_338 ?_
            refine V_cv0n dX7_takesE_339 cv_X7_231 rcM (Nat.le_of_ble_eq_true rfl) (k_M_go (tp := tp) (n := n) (k := k + 1) (by omega) (hT.fx f3) (by rw [vup_ne (by omega), vup_ne (by omega), h4.2.2 9 (by decide) (by decide), vup_ne (by omega)]; exact m9) (by rw [vup_ne (by omega), vup_ne (by omega), h4.2.2 13 (by decide) (by decide), vup_ne (by omega)]; exact m13)) (fun σ5 h5 => ?_)
            refine V_goto dX7_takesE_342 28 (by decide) ?_
            refine V_fg_4 ?_
            refine V_lo (lo' := [some (.ref 97), some (.int (nI (npW (tp (FF tp n k) :: (stl (bkT (tkN tp n ky k)) c w).2)))), some (.int (nI (nnW (tp (FF tp n k) :: (stl (bkT (tkN tp n ky k)) c w).2)))), some (.int 1), none]) (by rw [np_ne hbr.2.2.1, nn_ne hbr.2.1, hst.2.2.2.1, hsN.2]) ?_
            exact kont σ5 ⟨h5.1, by rw [h5.2.2 14 (by omega), vup_ne (by omega), vup_ne (by omega), h4.2.2 14 (by decide) (by decide), vup_ne (by omega)]; exact h14, by rw [h5.2.2 19 (by omega), vup_ne (by omega), vup_ne (by omega), h4.2.2 19 (by decide) (by decide), vup_ne (by omega), stl_lv]; exact h19, hW3.fg h5.2, hT1.of (by rw [h5.2.1 109 (by decide), vup_p (by decide), vup_p (by decide), h4.2.1 109 (by decide) (by decide)])⟩ (f3.tr h5.2.x)
          · refine V_iload_4 dX7_takesE_282 ?_
            refine V_cs1f dX7_takesE_284 cs_X7_237 (Nat.le_of_ble_eq_true rfl) (k_M_rank (Or.inr hbk0)) ?_
            refine V_iconst 3 dX7_takesE_287 (by decide) ?_
            refine V_icmpN_le (a := rk (tp (FF tp n k))) (b := 3) dX7_takesE_288 304 (by decide) (by omega) (by omega) (fun h288 => ?_) (fun h288 => ?_)
            · refine V_iconst 0 dX7_takesE_304 (by decide) ?_
              refine V_zast (j := npW w) dX7_takesE_305 aM_tested (by omega) (by decide) (by decide) ?_
              have htn : (decide (bkT (tkN tp n ky k) = 3) || (decide (3 < bkT (tkN tp n ky k)) && b0)) = false := by rw [show decide (bkT (tkN tp n ky k) = 3) = false from decide_eq_false (by omega), show decide (3 < bkT (tkN tp n ky k)) = false from decide_eq_false (by omega)]; rfl
              have hT1 : TS ((decide (bkT (tkN tp n ky k) = 3) || (decide (3 < bkT (tkN tp n ky k)) && b0)) :: t2) (vup σ 109 (npW w) 0) := by rw [ht2]; exact hTS.set (by rw [htn]; rfl)
              have f1 : FX σ (vup σ 109 (npW w) 0) := FX.ar (by omega)
              have hW1 : CW c w (vup σ 109 (npW w) 0) := hW.of (by rw [vup_ne (by omega)]) (by rw [vup_ne (by omega)]) (vup_p (by decide)) (vup_p (by decide))
              refine V_aloadn_0 dX7_takesE_306 ?_
              refine V_iload_4 dX7_takesE_307 ?_
              refine V_cs1f dX7_takesE_309 cs_X7_237 (Nat.le_of_ble_eq_true rfl) (k_M_rank (Or.inr hbk0)) ?_
              refine V_cv1n dX7_takesE_312 cv_X7_249 rcM (Nat.le_of_ble_eq_true rfl) (k_M_settle (r := rk (tp (FF tp n k))) (by omega) hW1 hok (by omega) rk_le) (fun σ4 h4 => ?_)
              rw [hrk] at h4
              have f4 := f1.tr h4.2.x
              have f3 : FX σ (vup (vup σ4 108 (stl (bkT (tkN tp n ky k)) c w).2.length (encI (20000 + tp (FF tp n k)))) 97 21 (nI ((stl (bkT (tkN tp n ky k)) c w).2.length + 1))) := (f4.tr (FX.ar (by omega))).tr (FX.up (by omega))
              have hW3 : CW (stl (bkT (tkN tp n ky k)) c w).1 (tp (FF tp n k) :: (stl (bkT (tkN tp n ky k)) c w).2) (vup (vup σ4 108 (stl (bkT (tkN tp n ky k)) c w).2.length (encI (20000 + tp (FF tp n k)))) 97 21 (nI ((stl (bkT (tkN tp n ky k)) c w).2.length + 1))) := by
                have := CW.pushW (s := tp (FF tp n k)) h4.1
                rw [show wE (tp (FF tp n k)) = encI (20000 + tp (FF tp n k)) from if_neg hbr.2.2.1] at this
                exact this
              refine V_aloadn_0 dX7_takesE_315 ?_
              refine V_getR dX7_takesE_316 fl_X7_41 oM_waits ?_
              refine V_aloadn_0 dX7_takesE_319 ?_
              refine V_getI dX7_takesE_320 fl_X7_234 oM_held ?_
              refine V_topi (y := nI ((stl (bkT (tkN tp n ky k)) c w).2.length)) h4.1.2.1 ?_
              refine V_iload_4 dX7_takesE_323 ?_
              refine V_iast (j := (stl (bkT (tkN tp n ky k)) c w).2.length) dX7_takesE_325 aM_waits (by omega) (by decide) ?_
              refine V_aloadn_0 dX7_takesE_326 ?_
              refine V_dup dX7_takesE_327 rfl ?_
              refine V_getI dX7_takesE_328 fl_X7_234 oM_held ?_
              refine V_topi (y := nI ((stl (bkT (tkN tp n ky k)) c w).2.length)) (by rw [vup_ne (by omega)]; exact h4.1.2.1) ?_
              refine V_iconst 1 dX7_takesE_331 (by decide) ?_
              refine V_iaddN (a := (stl (bkT (tkN tp n ky k)) c w).2.length) (b := 1) dX7_takesE_332 ?_
              refine V_putI dX7_takesE_333 fp_X7_234 oM_held ?_
              refine V_iconst 1 dX7_takesE_336 (by decide) ?_
              refine V_istoren_3 dX7_takesE_337 (by first | exact rfl | exact True.intro) (by decide) ?_
              refine V_aloadn_0 dX7_takesE_338 ?_
              refine V_cv0n dX7_takesE_339 cv_X7_231 rcM (Nat.le_of_ble_eq_true rfl) (k_M_go (tp := tp) (n := n) (k := k + 1) (by omega) (hT.fx f3) (by rw [vup_ne (by omega), vup_ne (by omega), h4.2.2 9 (by decide) (by decide), vup_ne (by omega)]; exact m9) (by rw [vup_ne (by omega), vup_ne (by omega), h4.2.2 13 (by decide) (by decide), vup_ne (by omega)]; exact m13)) (fun σ5 h5 => ?_)
              refine V_goto dX7_takesE_342 28 (by decide) ?_
              refine V_fg_4 ?_
              refine V_lo (lo' := [some (.ref 97), some (.int (nI (npW (tp (FF tp n k) :: (stl (bkT (tkN tp n ky k)) c w).2)))), some (.int (nI (nnW (tp (FF tp n k) :: (stl (bkT (tkN tp n ky k)) c w).2)))), some (.int 1), none]) (by rw [np_ne hbr.2.2.1, nn_ne hbr.2.1, hst.2.2.2.1, hsN.2]) ?_
              exact kont σ5 ⟨h5.1, by rw [h5.2.2 14 (by omega), vup_ne (by omega), vup_ne (by omega), h4.2.2 14 (by decide) (by decide), vup_ne (by omega)]; exact h14, by rw [h5.2.2 19 (by omega), vup_ne (by omega), vup_ne (by omega), h4.2.2 19 (by decide) (by decide), vup_ne (by omega), stl_lv]; exact h19, hW3.fg h5.2, hT1.of (by rw [h5.2.1 109 (by decide), vup_p (by decide), vup_p (by decide), h4.2.1 109 (by decide) (by decide)])⟩ (f3.tr h5.2.x)
            · refine V_aloadn_0 dX7_takesE_291 ?_
              refine V_getR dX7_takesE_292 fl_X7_44 oM_tested ?_
              refine V_iloadn_1 dX7_takesE_295 ?_
              refine V_zald (j := npW w) dX7_takesE_296 aM_tested (by omega) (by decide) ?_
              refine V_topi (y := bI (b0 = true)) hhd ?_
              refine V_ifB_eq dX7_takesE_297 304 (by decide) (fun h297 => ?_) (fun h297 => ?_)
              · refine V_iconst 0 dX7_takesE_304 (by decide) ?_
                refine V_zast (j := npW w) dX7_takesE_305 aM_tested (by omega) (by decide) (by decide) ?_
                have htn : (decide (bkT (tkN tp n ky k) = 3) || (decide (3 < bkT (tkN tp n ky k)) && b0)) = false := by rw [show decide (bkT (tkN tp n ky k) = 3) = false from decide_eq_false (by omega), show b0 = false from Bool.eq_false_iff.mpr h297]; simp
                have hT1 : TS ((decide (bkT (tkN tp n ky k) = 3) || (decide (3 < bkT (tkN tp n ky k)) && b0)) :: t2) (vup σ 109 (npW w) 0) := by rw [ht2]; exact hTS.set (by rw [htn]; rfl)
                have f1 : FX σ (vup σ 109 (npW w) 0) := FX.ar (by omega)
                have hW1 : CW c w (vup σ 109 (npW w) 0) := hW.of (by rw [vup_ne (by omega)]) (by rw [vup_ne (by omega)]) (vup_p (by decide)) (vup_p (by decide))
                refine V_aloadn_0 dX7_takesE_306 ?_
                refine V_iload_4 dX7_takesE_307 ?_
                refine V_cs1f dX7_takesE_309 cs_X7_237 (Nat.le_of_ble_eq_true rfl) (k_M_rank (Or.inr hbk0)) ?_
                refine V_cv1n dX7_takesE_312 cv_X7_249 rcM (Nat.le_of_ble_eq_true rfl) (k_M_settle (r := rk (tp (FF tp n k))) (by omega) hW1 hok (by omega) rk_le) (fun σ4 h4 => ?_)
                rw [hrk] at h4
                have f4 := f1.tr h4.2.x
                have f3 : FX σ (vup (vup σ4 108 (stl (bkT (tkN tp n ky k)) c w).2.length (encI (20000 + tp (FF tp n k)))) 97 21 (nI ((stl (bkT (tkN tp n ky k)) c w).2.length + 1))) := (f4.tr (FX.ar (by omega))).tr (FX.up (by omega))
                have hW3 : CW (stl (bkT (tkN tp n ky k)) c w).1 (tp (FF tp n k) :: (stl (bkT (tkN tp n ky k)) c w).2) (vup (vup σ4 108 (stl (bkT (tkN tp n ky k)) c w).2.length (encI (20000 + tp (FF tp n k)))) 97 21 (nI ((stl (bkT (tkN tp n ky k)) c w).2.length + 1))) := by
                  have := CW.pushW (s := tp (FF tp n k)) h4.1
                  rw [show wE (tp (FF tp n k)) = encI (20000 + tp (FF tp n k)) from if_neg hbr.2.2.1] at this
                  exact this
                refine V_aloadn_0 dX7_takesE_315 ?_
                refine V_getR dX7_takesE_316 fl_X7_41 oM_waits ?_
                refine V_aloadn_0 dX7_takesE_319 ?_
                refine V_getI dX7_takesE_320 fl_X7_234 oM_held ?_
                refine V_topi (y := nI ((stl (bkT (tkN tp n ky k)) c w).2.length)) h4.1.2.1 ?_
                refine V_iload_4 dX7_takesE_323 ?_
                refine V_iast (j := (stl (bkT (tkN tp n ky k)) c w).2.length) dX7_takesE_325 aM_waits (by omega) (by decide) ?_
                refine V_aloadn_0 dX7_takesE_326 ?_
                refine V_dup dX7_takesE_327 rfl ?_
                refine V_getI dX7_takesE_328 fl_X7_234 oM_held ?_
                refine V_topi (y := nI ((stl (bkT (tkN tp n ky k)) c w).2.length)) (by rw [vup_ne (by omega)]; exact h4.1.2.1) ?_
                refine V_iconst 1 dX7_takesE_331 (by decide) ?_
                refine V_iaddN (a := (stl (bkT (tkN tp n ky k)) c w).2.length) (b := 1) dX7_takesE_332 ?_
                refine V_putI dX7_takesE_333 fp_X7_234 oM_held ?_
                refine V_iconst 1 dX7_takesE_336 (by decide) ?_
                refine V_istoren_3 dX7_takesE_337 (by first | exact rfl | exact True.intro) (by decide) ?_
                refine V_aloadn_0 dX7_takesE_338 ?_
                refine V_cv0n dX7_takesE_339 cv_X7_231 rcM (Nat.le_of_ble_eq_true rfl) (k_M_go (tp := tp) (n := n) (k := k + 1) (by omega) (hT.fx f3) (by rw [vup_ne (by omega), vup_ne (by omega), h4.2.2 9 (by decide) (by decide), vup_ne (by omega)]; exact m9) (by rw [vup_ne (by omega), vup_ne (by omega), h4.2.2 13 (by decide) (by decide), vup_ne (by omega)]; exact m13)) (fun σ5 h5 => ?_)
                refine V_goto dX7_takesE_342 28 (by decide) ?_
                refine V_fg_4 ?_
                refine V_lo (lo' := [some (.ref 97), some (.int (nI (npW (tp (FF tp n k) :: (stl (bkT (tkN tp n ky k)) c w).2)))), some (.int (nI (nnW (tp (FF tp n k) :: (stl (bkT (tkN tp n ky k)) c w).2)))), some (.int 1), none]) (by rw [np_ne hbr.2.2.1, nn_ne hbr.2.1, hst.2.2.2.1, hsN.2]) ?_
                exact kont σ5 ⟨h5.1, by rw [h5.2.2 14 (by omega), vup_ne (by omega), vup_ne (by omega), h4.2.2 14 (by decide) (by decide), vup_ne (by omega)]; exact h14, by rw [h5.2.2 19 (by omega), vup_ne (by omega), vup_ne (by omega), h4.2.2 19 (by decide) (by decide), vup_ne (by omega), stl_lv]; exact h19, hW3.fg h5.2, hT1.of (by rw [h5.2.1 109 (by decide), vup_p (by decide), vup_p (by decide), h4.2.1 109 (by decide) (by decide)])⟩ (f3.tr h5.2.x)
              · refine V_iconst 1 dX7_takesE_300 (by decide) ?_
                refine V_goto dX7_takesE_301 305 (by decide) ?_
                refine V_zast (j := npW w) dX7_takesE_305 aM_tested (by omega) (by decide) (by decide) ?_
                have htn : (decide (bkT (tkN tp n ky k) = 3) || (decide (3 < bkT (tkN tp n ky k)) && b0)) = true := by rw [show decide (3 < bkT (tkN tp n ky k)) = true from decide_eq_true (by omega), h297]; simp
                have hT1 : TS ((decide (bkT (tkN tp n ky k) = 3) || (decide (3 < bkT (tkN tp n ky k)) && b0)) :: t2) (vup σ 109 (npW w) 1) := by rw [ht2]; exact hTS.set (by rw [htn]; rfl)
                have f1 : FX σ (vup σ 109 (npW w) 1) := FX.ar (by omega)
                have hW1 : CW c w (vup σ 109 (npW w) 1) := hW.of (by rw [vup_ne (by omega)]) (by rw [vup_ne (by omega)]) (vup_p (by decide)) (vup_p (by decide))
                refine V_aloadn_0 dX7_takesE_306 ?_
                refine V_iload_4 dX7_takesE_307 ?_
                refine V_cs1f dX7_takesE_309 cs_X7_237 (Nat.le_of_ble_eq_true rfl) (k_M_rank (Or.inr hbk0)) ?_
                refine V_cv1n dX7_takesE_312 cv_X7_249 rcM (Nat.le_of_ble_eq_true rfl) (k_M_settle (r := rk (tp (FF tp n k))) (by omega) hW1 hok (by omega) rk_le) (fun σ4 h4 => ?_)
                rw [hrk] at h4
                have f4 := f1.tr h4.2.x
                have f3 : FX σ (vup (vup σ4 108 (stl (bkT (tkN tp n ky k)) c w).2.length (encI (20000 + tp (FF tp n k)))) 97 21 (nI ((stl (bkT (tkN tp n ky k)) c w).2.length + 1))) := (f4.tr (FX.ar (by omega))).tr (FX.up (by omega))
                have hW3 : CW (stl (bkT (tkN tp n ky k)) c w).1 (tp (FF tp n k) :: (stl (bkT (tkN tp n ky k)) c w).2) (vup (vup σ4 108 (stl (bkT (tkN tp n ky k)) c w).2.length (encI (20000 + tp (FF tp n k)))) 97 21 (nI ((stl (bkT (tkN tp n ky k)) c w).2.length + 1))) := by
                  have := CW.pushW (s := tp (FF tp n k)) h4.1
                  rw [show wE (tp (FF tp n k)) = encI (20000 + tp (FF tp n k)) from if_neg hbr.2.2.1] at this
                  exact this
                refine V_aloadn_0 dX7_takesE_315 ?_
                refine V_getR dX7_takesE_316 fl_X7_41 oM_waits ?_
                refine V_aloadn_0 dX7_takesE_319 ?_
                refine V_getI dX7_takesE_320 fl_X7_234 oM_held ?_
                refine V_topi (y := nI ((stl (bkT (tkN tp n ky k)) c w).2.length)) h4.1.2.1 ?_
                refine V_iload_4 dX7_takesE_323 ?_
                refine V_iast (j := (stl (bkT (tkN tp n ky k)) c w).2.length) dX7_takesE_325 aM_waits (by omega) (by decide) ?_
                refine V_aloadn_0 dX7_takesE_326 ?_
                refine V_dup dX7_takesE_327 rfl ?_
                refine V_getI dX7_takesE_328 fl_X7_234 oM_held ?_
                refine V_topi (y := nI ((stl (bkT (tkN tp n ky k)) c w).2.length)) (by rw [vup_ne (by omega)]; exact h4.1.2.1) ?_
                refine V_iconst 1 dX7_takesE_331 (by decide) ?_
                refine V_iaddN (a := (stl (bkT (tkN tp n ky k)) c w).2.length) (b := 1) dX7_takesE_332 ?_
                refine V_putI dX7_takesE_333 fp_X7_234 oM_held ?_
                refine V_iconst 1 dX7_takesE_336 (by decide) ?_
                refine V_istoren_3 dX7_takesE_337 (by first | exact rfl | exact True.intro) (by decide) ?_
                refine V_aloadn_0 dX7_takesE_338 ?_
                refine V_cv0n dX7_takesE_339 cv_X7_231 rcM (Nat.le_of_ble_eq_true rfl) (k_M_go (tp := tp) (n := n) (k := k + 1) (by omega) (hT.fx f3) (by rw [vup_ne (by omega), vup_ne (by omega), h4.2.2 9 (by decide) (by decide), vup_ne (by omega)]; exact m9) (by rw [vup_ne (by omega), vup_ne (by omega), h4.2.2 13 (by decide) (by decide), vup_ne (by omega)]; exact m13)) (fun σ5 h5 => ?_)
                refine V_goto dX7_takesE_342 28 (by decide) ?_
                refine V_fg_4 ?_
                refine V_lo (lo' := [some (.ref 97), some (.int (nI (npW (tp (FF tp n k) :: (stl (bkT (tkN tp n ky k)) c w).2)))), some (.int (nI (nnW (tp (FF tp n k) :: (stl (bkT (tkN tp n ky k)) c w).2)))), some (.int 1), none]) (by rw [np_ne hbr.2.2.1, nn_ne hbr.2.1, hst.2.2.2.1, hsN.2]) ?_
                exact kont σ5 ⟨h5.1, by rw [h5.2.2 14 (by omega), vup_ne (by omega), vup_ne (by omega), h4.2.2 14 (by decide) (by decide), vup_ne (by omega)]; exact h14, by rw [h5.2.2 19 (by omega), vup_ne (by omega), vup_ne (by omega), h4.2.2 19 (by decide) (by decide), vup_ne (by omega), stl_lv]; exact h19, hW3.fg h5.2, hT1.of (by rw [h5.2.1 109 (by decide), vup_p (by decide), vup_p (by decide), h4.2.1 109 (by decide) (by decide)])⟩ (f3.tr h5.2.x)
        · exact absurd ⟨by omega, h263⟩ hts
  · exact absurd (show bk (tp (FF tp n k)) = 0 by rw [h194]; rfl) hbk0

set_option maxRecDepth 100000 in
set_option maxHeartbeats 4000000 in
theorem e_hbad {G : vG} {d : Nat} {Q : Option Value → vS → Prop} {σ : vS} (hd : 4 ≤ d + 1) {tp : Nat → Nat} {n ky k : Nat} {c w : List Nat} {t : List Bool} (hS : CF tp n ky k c w t σ) (hk2 : ky ≤ 2) (hok : wOK w) (hlen : c.length + w.length ≤ k) (hkF : k ≤ FF tp n k) (hnp : npW w ≤ 8) (hnn : nnW w ≤ 8) (htl : t.length = npW w + 1) (hne : tkN tp n ky k ≠ 40000) (h41 : ¬ (tkN tp n ky k = 20041 ∧ 0 < npW w)) (hb : ¬ (bkT (tkN tp n ky k) ≠ 0 ∧ ¬ (bkT (tkN tp n ky k) = 3 ∧ t.headD false = true))) (kont : Q (some (.int 0)) σ) : V G RX7 cX7_takesE (some .boolean) 5 (d + 1) Q 28 [some (.ref 97), some (.int (nI (npW w))), some (.int (nI (nnW w))), some (.int 0), none] [] σ := by
  obtain ⟨hM, h14, h19, hW, hTS⟩ := id hS
  obtain ⟨hT, m10, m9, m13, m11, m12, m12b⟩ := id hM
  obtain ⟨m8, hn96, hta, h256⟩ := id hT
  have hfl := FF_le (tp := tp) (n := n) (k := k)
  have hel := EE_le (tp := tp) (n := n) (k := k + 1)
  have htk4 := tok_le (tp := tp) (n := n) (k := k)
  have hlv := lv_le (c := c)
  refine V_iloadn_3 dX7_takesE_28 ?_
  refine V_if_ne_f dX7_takesE_29 39 (by decide) (by decide) ?_
  refine V_aloadn_0 dX7_takesE_32 ?_
  refine V_getI dX7_takesE_33 fl_X7_216 oM_token ?_
  refine V_topi (y := nI (tokN tp n k)) m11 ?_
  refine V_ifN_eq (a := tokN tp n k) dX7_takesE_36 345 (by decide) (by omega) (fun h36 => ?_) (fun h36 => ?_)
  · exact absurd (tk_end (tok0 h36)) hne
  · refine V_iloadn_3 dX7_takesE_39 ?_
    refine V_if_eq_t dX7_takesE_40 180 (by decide) (by decide) ?_
    refine V_aloadn_0 dX7_takesE_180 ?_
    refine V_getI dX7_takesE_181 fl_X7_216 oM_token ?_
    refine V_topi (y := nI (tokN tp n k)) m11 ?_
    refine V_iconst 3 dX7_takesE_184 (by decide) ?_
    refine V_icmpN_ne (a := tokN tp n k) (b := 3) dX7_takesE_185 237 (by decide) (by omega) (by omega) (fun h185 => ?_) (fun h185 => ?_)
    · refine V_aloadn_0 dX7_takesE_237 ?_
      refine V_cv0f dX7_takesE_238 cv_X7_259 rcM (Nat.le_of_ble_eq_true rfl) (k_M_signHere (ky := ky) hM) ?_
      refine V_istore_4 dX7_takesE_241 (by first | exact rfl | exact True.intro) (by decide) ?_
      refine V_iload_4 dX7_takesE_243 ?_
      refine V_if_eq dX7_takesE_245 266 (by decide) (fun h245 => ?_) (fun h245 => ?_)
      · refine V_iconst 0 dX7_takesE_266 (by decide) ?_
        exact V_zret dX7_takesE_267 (by decide) (kont)
      · have hbk : bkT (tkN tp n ky k) ≠ 0 := fun q => h245 (by unfold sgI; rw [if_neg (fun z => z q)])
        have h33 : bkT (tkN tp n ky k) = 3 ∧ t.headD false = true := Classical.byContradiction (fun q => hb ⟨hbk, q⟩)
        have hp := bk_pos hbk
        have hF := hp.1
        have htk := hp.2.2
        have hbk0 : bk (tp (FF tp n k)) ≠ 0 := by rw [← bk_tk (ky := ky) hF]; exact hbk
        have hbr := bk_rk hbk0
        have hrk : rk (tp (FF tp n k)) = bkT (tkN tp n ky k) := by rw [hbr.1, bk_tk hF]
        have hb5 := bk_le (s := tp (FF tp n k))
        have hb256 := h256 _ hF
        have htok : tokN tp n k = 3 := by unfold tokN; rw [if_pos hF, if_pos hp.2.1]
        obtain ⟨b0, t2, rfl⟩ : ∃ b t2, t = b :: t2 := by
          cases t with
          | nil => simp only [List.length_nil] at htl; omega
          | cons b t2 => exact ⟨b, t2, rfl⟩
        have ht2 : npW w = t2.length := by simp only [List.length_cons] at htl; omega
        have hhd : σ 109 (npW w) = bI (b0 = true) := by rw [ht2]; exact hTS.head
        have hb0 : b0 = true := h33.2
        refine V_iload_4 dX7_takesE_248 ?_
        refine V_topi (y := encI (20000 + tp (FF tp n k))) (by unfold sgI; rw [if_pos hbk, htk]) ?_
        refine V_cs1f dX7_takesE_250 cs_X7_237 (Nat.le_of_ble_eq_true rfl) (k_M_rank (Or.inr hbk0)) ?_
        refine V_iconst 3 dX7_takesE_253 (by decide) ?_
        refine V_icmpN_ne (a := rk (tp (FF tp n k))) (b := 3) dX7_takesE_254 268 (by decide) (by omega) (by omega) (fun h254 => ?_) (fun h254 => ?_)
        · exfalso; omega
        · refine V_aloadn_0 dX7_takesE_257 ?_
          refine V_getR dX7_takesE_258 fl_X7_44 oM_tested ?_
          refine V_iloadn_1 dX7_takesE_261 ?_
          refine V_zald (j := npW w) dX7_takesE_262 aM_tested (by omega) (by decide) ?_
          refine V_topi (y := bI (b0 = true)) hhd ?_
          refine V_ifB_eq dX7_takesE_263 268 (by decide) (fun h263 => ?_) (fun h263 => ?_)
          · exact absurd hb0 h263
          · refine V_iconst 0 dX7_takesE_266 (by decide) ?_
            exact V_zret dX7_takesE_267 (by decide) (kont)
    · have h3 := tok3 (ky := ky) h185
      have hbb := h256 _ h3.1
      refine V_aloadn_0 dX7_takesE_188 ?_
      refine V_getI dX7_takesE_189 fl_X7_222 oM_value ?_
      refine V_topi (y := nI (tp (FF tp n k))) (m12 (Or.inr h185)) ?_
      refine V_bipush 41 dX7_takesE_192 (by decide) ?_
      refine V_icmpN_ne (a := tp (FF tp n k)) (b := 41) dX7_takesE_194 237 (by decide) (by omega) (by omega) (fun h194 => ?_) (fun h194 => ?_)
      · refine V_aloadn_0 dX7_takesE_237 ?_
        refine V_cv0f dX7_takesE_238 cv_X7_259 rcM (Nat.le_of_ble_eq_true rfl) (k_M_signHere (ky := ky) hM) ?_
        refine V_istore_4 dX7_takesE_241 (by first | exact rfl | exact True.intro) (by decide) ?_
        refine V_iload_4 dX7_takesE_243 ?_
        refine V_if_eq dX7_takesE_245 266 (by decide) (fun h245 => ?_) (fun h245 => ?_)
        · refine V_iconst 0 dX7_takesE_266 (by decide) ?_
          exact V_zret dX7_takesE_267 (by decide) (kont)
        · have hbk : bkT (tkN tp n ky k) ≠ 0 := fun q => h245 (by unfold sgI; rw [if_neg (fun z => z q)])
          have h33 : bkT (tkN tp n ky k) = 3 ∧ t.headD false = true := Classical.byContradiction (fun q => hb ⟨hbk, q⟩)
          have hp := bk_pos hbk
          have hF := hp.1
          have htk := hp.2.2
          have hbk0 : bk (tp (FF tp n k)) ≠ 0 := by rw [← bk_tk (ky := ky) hF]; exact hbk
          have hbr := bk_rk hbk0
          have hrk : rk (tp (FF tp n k)) = bkT (tkN tp n ky k) := by rw [hbr.1, bk_tk hF]
          have hb5 := bk_le (s := tp (FF tp n k))
          have hb256 := h256 _ hF
          have htok : tokN tp n k = 3 := by unfold tokN; rw [if_pos hF, if_pos hp.2.1]
          obtain ⟨b0, t2, rfl⟩ : ∃ b t2, t = b :: t2 := by
            cases t with
            | nil => simp only [List.length_nil] at htl; omega
            | cons b t2 => exact ⟨b, t2, rfl⟩
          have ht2 : npW w = t2.length := by simp only [List.length_cons] at htl; omega
          have hhd : σ 109 (npW w) = bI (b0 = true) := by rw [ht2]; exact hTS.head
          have hb0 : b0 = true := h33.2
          refine V_iload_4 dX7_takesE_248 ?_
          refine V_topi (y := encI (20000 + tp (FF tp n k))) (by unfold sgI; rw [if_pos hbk, htk]) ?_
          refine V_cs1f dX7_takesE_250 cs_X7_237 (Nat.le_of_ble_eq_true rfl) (k_M_rank (Or.inr hbk0)) ?_
          refine V_iconst 3 dX7_takesE_253 (by decide) ?_
          refine V_icmpN_ne (a := rk (tp (FF tp n k))) (b := 3) dX7_takesE_254 268 (by decide) (by omega) (by omega) (fun h254 => ?_) (fun h254 => ?_)
          · exfalso; omega
          · refine V_aloadn_0 dX7_takesE_257 ?_
            refine V_getR dX7_takesE_258 fl_X7_44 oM_tested ?_
            refine V_iloadn_1 dX7_takesE_261 ?_
            refine V_zald (j := npW w) dX7_takesE_262 aM_tested (by omega) (by decide) ?_
            refine V_topi (y := bI (b0 = true)) hhd ?_
            refine V_ifB_eq dX7_takesE_263 268 (by decide) (fun h263 => ?_) (fun h263 => ?_)
            · exact absurd hb0 h263
            · refine V_iconst 0 dX7_takesE_266 (by decide) ?_
              exact V_zret dX7_takesE_267 (by decide) (kont)
      · refine V_iloadn_1 dX7_takesE_197 ?_
        refine V_ifN_le (a := npW w) dX7_takesE_198 237 (by decide) (by omega) (fun h198 => ?_) (fun h198 => ?_)
        · refine V_aloadn_0 dX7_takesE_237 ?_
          refine V_cv0f dX7_takesE_238 cv_X7_259 rcM (Nat.le_of_ble_eq_true rfl) (k_M_signHere (ky := ky) hM) ?_
          refine V_istore_4 dX7_takesE_241 (by first | exact rfl | exact True.intro) (by decide) ?_
          refine V_iload_4 dX7_takesE_243 ?_
          refine V_if_eq dX7_takesE_245 266 (by decide) (fun h245 => ?_) (fun h245 => ?_)
          · refine V_iconst 0 dX7_takesE_266 (by decide) ?_
            exact V_zret dX7_takesE_267 (by decide) (kont)
          · have hbk : bkT (tkN tp n ky k) ≠ 0 := fun q => h245 (by unfold sgI; rw [if_neg (fun z => z q)])
            have h33 : bkT (tkN tp n ky k) = 3 ∧ t.headD false = true := Classical.byContradiction (fun q => hb ⟨hbk, q⟩)
            have hp := bk_pos hbk
            have hF := hp.1
            have htk := hp.2.2
            have hbk0 : bk (tp (FF tp n k)) ≠ 0 := by rw [← bk_tk (ky := ky) hF]; exact hbk
            have hbr := bk_rk hbk0
            have hrk : rk (tp (FF tp n k)) = bkT (tkN tp n ky k) := by rw [hbr.1, bk_tk hF]
            have hb5 := bk_le (s := tp (FF tp n k))
            have hb256 := h256 _ hF
            have htok : tokN tp n k = 3 := by unfold tokN; rw [if_pos hF, if_pos hp.2.1]
            obtain ⟨b0, t2, rfl⟩ : ∃ b t2, t = b :: t2 := by
              cases t with
              | nil => simp only [List.length_nil] at htl; omega
              | cons b t2 => exact ⟨b, t2, rfl⟩
            have ht2 : npW w = t2.length := by simp only [List.length_cons] at htl; omega
            have hhd : σ 109 (npW w) = bI (b0 = true) := by rw [ht2]; exact hTS.head
            have hb0 : b0 = true := h33.2
            refine V_iload_4 dX7_takesE_248 ?_
            refine V_topi (y := encI (20000 + tp (FF tp n k))) (by unfold sgI; rw [if_pos hbk, htk]) ?_
            refine V_cs1f dX7_takesE_250 cs_X7_237 (Nat.le_of_ble_eq_true rfl) (k_M_rank (Or.inr hbk0)) ?_
            refine V_iconst 3 dX7_takesE_253 (by decide) ?_
            refine V_icmpN_ne (a := rk (tp (FF tp n k))) (b := 3) dX7_takesE_254 268 (by decide) (by omega) (by omega) (fun h254 => ?_) (fun h254 => ?_)
            · exfalso; omega
            · refine V_aloadn_0 dX7_takesE_257 ?_
              refine V_getR dX7_takesE_258 fl_X7_44 oM_tested ?_
              refine V_iloadn_1 dX7_takesE_261 ?_
              refine V_zald (j := npW w) dX7_takesE_262 aM_tested (by omega) (by decide) ?_
              refine V_topi (y := bI (b0 = true)) hhd ?_
              refine V_ifB_eq dX7_takesE_263 268 (by decide) (fun h263 => ?_) (fun h263 => ?_)
              · exact absurd hb0 h263
              · refine V_iconst 0 dX7_takesE_266 (by decide) ?_
                exact V_zret dX7_takesE_267 (by decide) (kont)
        · exact absurd ⟨by omega, h198⟩ h41

set_option maxRecDepth 100000 in
set_option maxHeartbeats 4000000 in
theorem e_endbad {G : vG} {d : Nat} {Q : Option Value → vS → Prop} {σ : vS} (hd : 4 ≤ d + 1) {tp : Nat → Nat} {n ky k : Nat} {c w : List Nat} {t : List Bool} (hS : CF tp n ky k c w t σ) (hk2 : ky ≤ 2) (hok : wOK w) (hlen : c.length + w.length ≤ k) (hkF : k ≤ FF tp n k) (hnp : npW w ≤ 8) (hnn : nnW w ≤ 8) (htl : t.length = npW w + 1) (hF : ¬ FF tp n k < n) (h0 : npW w ≠ 0) (kont : ∀ σ', FX σ σ' → σ' 97 10 = nI (FF tp n k) → Q (some (.int 0)) σ') : V G RX7 cX7_takesE (some .boolean) 5 (d + 1) Q 28 [some (.ref 97), some (.int (nI (npW w))), some (.int (nI (nnW w))), some (.int 0), none] [] σ := by
  obtain ⟨hM, h14, h19, hW, hTS⟩ := id hS
  obtain ⟨hT, m10, m9, m13, m11, m12, m12b⟩ := id hM
  obtain ⟨m8, hn96, hta, h256⟩ := id hT
  have hfl := FF_le (tp := tp) (n := n) (k := k)
  have hel := EE_le (tp := tp) (n := n) (k := k + 1)
  have htk4 := tok_le (tp := tp) (n := n) (k := k)
  have hlv := lv_le (c := c)
  have htok : tokN tp n k = 0 := by unfold tokN; rw [if_neg hF]
  rw [htok] at m11
  refine V_iloadn_3 dX7_takesE_28 ?_
  refine V_if_ne_f dX7_takesE_29 39 (by decide) (by decide) ?_
  refine V_aloadn_0 dX7_takesE_32 ?_
  refine V_getI dX7_takesE_33 fl_X7_216 oM_token ?_
  refine V_topi (y := 0) m11 ?_
  refine V_if_eq_t dX7_takesE_36 345 (by decide) (by decide) ?_
  refine V_aloadn_0 dX7_takesE_345 ?_
  refine V_iconst 0 dX7_takesE_346 (by decide) ?_
  refine V_cv1n dX7_takesE_347 cv_X7_249 rcM (Nat.le_of_ble_eq_true rfl) (k_M_settle (r := 0) (by omega) hW hok (by omega) (by decide)) (fun σ4 h4 => ?_)
  refine V_iloadn_1 dX7_takesE_350 ?_
  refine V_ifN_ne (a := npW w) dX7_takesE_351 358 (by decide) (by omega) (fun h351 => ?_) (fun h351 => ?_)
  · refine V_iconst 0 dX7_takesE_358 (by decide) ?_
    exact V_zret dX7_takesE_359 (by decide) (kont σ4 h4.2.x (by rw [h4.2.2 10 (by decide) (by decide)]; exact m10))
  · exact absurd h351 h0

set_option maxRecDepth 100000 in
set_option maxHeartbeats 4000000 in
theorem e_done {G : vG} {d : Nat} {Q : Option Value → vS → Prop} {σ : vS} (hd : 4 ≤ d + 1) {tp : Nat → Nat} {n ky k : Nat} {c w : List Nat} {t : List Bool} (hS : CF tp n ky k c w t σ) (hk2 : ky ≤ 2) (hok : wOK w) (hlen : c.length + w.length ≤ k) (hkF : k ≤ FF tp n k) (hnp : npW w ≤ 8) (hnn : nnW w ≤ 8) (htl : t.length = npW w + 1) (hF : ¬ FF tp n k < n) (h0 : npW w = 0) (kont : ∀ σ', FX σ σ' → CW (stl 0 c w).1 (stl 0 c w).2 σ' → σ' 97 19 = nI (lvN (stl 0 c w).1) → Q (some (.int 1)) σ') : V G RX7 cX7_takesE (some .boolean) 5 (d + 1) Q 28 [some (.ref 97), some (.int (nI (npW w))), some (.int (nI (nnW w))), some (.int 0), none] [] σ := by
  obtain ⟨hM, h14, h19, hW, hTS⟩ := id hS
  obtain ⟨hT, m10, m9, m13, m11, m12, m12b⟩ := id hM
  obtain ⟨m8, hn96, hta, h256⟩ := id hT
  have hfl := FF_le (tp := tp) (n := n) (k := k)
  have hel := EE_le (tp := tp) (n := n) (k := k + 1)
  have htk4 := tok_le (tp := tp) (n := n) (k := k)
  have hlv := lv_le (c := c)
  have htok : tokN tp n k = 0 := by unfold tokN; rw [if_neg hF]
  rw [htok] at m11
  refine V_iloadn_3 dX7_takesE_28 ?_
  refine V_if_ne_f dX7_takesE_29 39 (by decide) (by decide) ?_
  refine V_aloadn_0 dX7_takesE_32 ?_
  refine V_getI dX7_takesE_33 fl_X7_216 oM_token ?_
  refine V_topi (y := 0) m11 ?_
  refine V_if_eq_t dX7_takesE_36 345 (by decide) (by decide) ?_
  refine V_aloadn_0 dX7_takesE_345 ?_
  refine V_iconst 0 dX7_takesE_346 (by decide) ?_
  refine V_cv1n dX7_takesE_347 cv_X7_249 rcM (Nat.le_of_ble_eq_true rfl) (k_M_settle (r := 0) (by omega) hW hok (by omega) (by decide)) (fun σ4 h4 => ?_)
  refine V_iloadn_1 dX7_takesE_350 ?_
  refine V_ifN_ne (a := npW w) dX7_takesE_351 358 (by decide) (by omega) (fun h351 => ?_) (fun h351 => ?_)
  · exact absurd h0 h351
  · refine V_iconst 1 dX7_takesE_354 (by decide) ?_
    refine V_goto dX7_takesE_355 359 (by decide) ?_
    exact V_zret dX7_takesE_359 (by decide) (kont σ4 h4.2.x h4.1 (by rw [h4.2.2 19 (by decide) (by decide), stl_lv]; exact h19))

theorem syI_2 {tk : Nat → Nat} {k : Nat} {c w : List Nat} {t : List Bool} : ∀ m, syI tk m (2, k, c, w, t) = (2, k, c, w, t) := by
  intro m
  induction m with
  | zero => rfl
  | succ m ih => exact ih
theorem syI_3 {tk : Nat → Nat} {k : Nat} {c w : List Nat} {t : List Bool} : ∀ m, syI tk m (3, k, c, w, t) = (3, k, c, w, t) := by
  intro m
  induction m with
  | zero => rfl
  | succ m ih => exact ih
def EQ (tp : Nat → Nat) (n : Nat) (σ0 : vS) (y : syC) (r' : Option Value) (σ' : vS) : Prop :=
  (y.1 = 2 ∧ r' = some (.int 0) ∧ σ' 97 10 = nI (FF tp n y.2.1) ∧ FX σ0 σ') ∨
  (y.1 = 3 ∧ r' = some (.int 1) ∧ CW y.2.2.1 y.2.2.2.1 σ' ∧ σ' 97 19 = nI (lvN y.2.2.1) ∧ FX σ0 σ')
theorem e_run {G : vG} {d : Nat} {σ0 : vS} (hd : 4 ≤ d + 1) {tp : Nat → Nat} {n ky : Nat} (hk2 : ky ≤ 2) {y : syC} (hy : y.1 = 2 ∨ y.1 = 3) : ∀ (m mo k : Nat) (c w : List Nat) (t : List Bool) (σ : vS), mo ≤ 1 → SI tp n ky (mo, k, c, w, t) → okN (decide (mo = 0)) w → nnW w ≤ 8 → CF tp n ky k c w t σ → FX σ0 σ → syI (tkN tp n ky) m (mo, k, c, w, t) = y →
    V G RX7 cX7_takesE (some .boolean) 5 (d + 1) (fun r' σ' => EQ tp n σ0 y r' σ') 28 [some (.ref 97), some (.int (nI (npW w))), some (.int (nI (nnW w))), some (.int (if mo = 0 then 1 else 0)), none] [] σ := by
  intro m
  induction m with
  | zero =>
    intro mo k c w t σ hmo _ _ _ _ _ h
    exfalso
    rw [← h] at hy
    have : mo = 2 ∨ mo = 3 := hy
    omega
  | succ m ih =>
    intro mo k c w t σ hmo hSI hN hnn hS hf h
    have hSI2 := hSI.step
    rcases hSI with q | ⟨-, h1, h2, h3, h4, h5, h6, h7⟩
    · exfalso
      have : mo = 2 := q
      omega
    have h : syI (tkN tp n ky) m (sy1 (tkN tp n ky) (mo, k, c, w, t)) = y := h
    have bad : sy1 (tkN tp n ky) (mo, k, c, w, t) = (2, k, c, w, t) → ∀ σ', σ' 97 10 = nI (FF tp n k) → FX σ0 σ' → EQ tp n σ0 y (some (.int 0)) σ' := fun e σ' e10 ef => by
      rw [e, syI_2] at h
      rw [← h]
      exact Or.inl ⟨rfl, rfl, e10, ef⟩
    simp only at h1 h2 h3 h4 h5 h6 h7
    rcases (show mo = 0 ∨ mo = 1 by omega) with rfl | rfl
    · rw [if_pos rfl] at h3
      by_cases a : tkN tp n ky k = 20033 ∧ nnW w < 8
      · rw [sy_not a.1 a.2] at h hSI2
        exact e_not hd hS hk2 h2 h4 h5 h6 hnn h7 a.1 a.2 (fun σ' hc hx => ih 0 (k + 1) c (33 :: w) t σ' (by decide) hSI2 ⟨fun _ => rfl, hN⟩ (by rw [nn_33]; omega) hc (hf.tr hx) h)
      · by_cases b : tkN tp n ky k = 20040 ∧ npW w < 8
        · rw [sy_open b.1 b.2] at h hSI2
          exact e_open hd hS hk2 h2 h4 h5 h6 hnn h7 b.1 b.2 (fun σ' hc hx => ih 0 (k + 1) c (40 :: w) (false :: t) σ' (by decide) hSI2 ⟨fun _ => rfl, hN⟩ (by rw [nn_ne (by decide)]; exact hnn) hc (hf.tr hx) h)
        · by_cases e : tkN tp n ky k < 20000
          · rw [sy_leaf e] at h hSI2
            have hi := stl_inv (ky := ky) (r := 6) w (c ++ [tkN tp n ky k]) (wf_app h1 (tk_leaf e).2 (fun q => by omega) (fun q => by omega)) h2 (by rw [dp_app, if_pos e]; omega)
            exact e_leaf hd hS hk2 h2 h4 h5 h6 hnn h7 h3 h1 e (fun σ' hc hx => ih 1 (k + 1) _ _ t σ' (by decide) hSI2 (stl6_okN w _ hN) (Nat.le_trans hi.2.2.2.2 hnn) hc (hf.tr hx) h)
          · exact e_wbad hd hS hk2 h2 h4 h5 h6 hnn h7 a b e (bad (sy_wbad a b e) σ hS.1.2.1 hf)
    · rw [if_neg (by decide)] at h3
      by_cases a : tkN tp n ky k = 40000
      · have hF : ¬ FF tp n k < n := fun hF => by
          by_cases hs : srt (tp (FF tp n k)) = 0
          · have := hS.1.1.2.2.2 _ hF
            rw [tk_sign hF hs] at a
            omega
          · rcases tk_word (ky := ky) hF hs with e | e <;> omega
        by_cases b : npW w = 0
        · rw [sy_done a b, syI_3] at h
          refine e_done hd hS hk2 h2 h4 h5 h6 hnn h7 hF b (fun σ' hx hW hl => ?_)
          rw [← h]
          exact Or.inr ⟨rfl, rfl, hW, hl, hf.tr hx⟩
        · exact e_endbad hd hS hk2 h2 h4 h5 h6 hnn h7 hF b (fun σ' hx e10 => bad (sy_hbad (fun q => b q.2) (fun q => by omega) (fun q => q.1 (by rw [a]; rfl))) σ' e10 (hf.tr hx))
      · by_cases b : tkN tp n ky k = 20041 ∧ 0 < npW w
        · rw [sy_close b.1 b.2] at h hSI2
          have hi := stl_inv (ky := ky) (r := 0) w c h1 h2 h3
          have hiN := stl_okN (r := 0) w c hN
          obtain ⟨u, hu⟩ := stl0_open (c := c) w c b.2
          rw [hu] at hi hiN
          have hi6 := stl_inv (ky := ky) (r := 6) u (stl 0 c w).1 hi.1 (fun s hs => hi.2.1 s (List.mem_cons_of_mem _ hs)) (by have := hi.2.2.1; rw [nb_n rfl] at this; exact this)
          have htt : (stl 0 c w).2.tail = u := by rw [hu]; rfl
          have hn40 : nnW (40 :: u) = nnW u := nn_ne (by decide)
          exact e_close hd hS hk2 h2 h4 h5 h6 hnn h7 h3 h1 b.1 b.2 (fun σ' hc hx => ih 1 (k + 1) _ _ t.tail σ' (by decide) hSI2 (by rw [htt]; exact stl6_okN u _ hiN.1.2) (by rw [htt]; have := hi6.2.2.2.2; omega) hc (hf.tr hx) h)
        · by_cases e : bkT (tkN tp n ky k) ≠ 0 ∧ ¬ (bkT (tkN tp n ky k) = 3 ∧ t.headD false = true)
          · have e41 : tkN tp n ky k ≠ 20041 := fun q => e.1 (by rw [q]; rfl)
            rw [sy_sign e.1 e.2 a e41] at h hSI2
            have hp := bk_pos e.1
            have hbk0 : bk (tp (FF tp n k)) ≠ 0 := by rw [← bk_tk (ky := ky) hp.1]; exact e.1
            have hbr := bk_rk hbk0
            have e20 : tkN tp n ky k - 20000 = tp (FF tp n k) := by have := hp.2.2; omega
            have hiN := stl_okN (r := bkT (tkN tp n ky k)) w c hN
            exact e_sign hd hS hk2 h2 h4 h5 h6 hnn h7 h3 h1 hN e.1 e.2 (fun σ' hc hx => ih 0 (k + 1) _ _ _ σ' (by decide) hSI2 ⟨fun _ => rfl, by rw [e20, show decide (tp (FF tp n k) = 33 ∨ tp (FF tp n k) = 40) = false by simp [hbr.2.1, hbr.2.2.1]]; exact hiN.1⟩ (by rw [e20, nn_ne hbr.2.1, hiN.2]; exact hnn) hc (hf.tr hx) h)
          · exact e_hbad hd hS hk2 h2 h4 h5 h6 hnn h7 a b e (bad (sy_hbad (fun q => a q.1) b e) σ hS.1.2.1 hf)

set_option maxRecDepth 100000 in
set_option maxHeartbeats 4000000 in
theorem k_M_takesE {G : vG} {σ : vS} {d : Nat} (hd : 4 ≤ d) {tp : Nat → Nat} {n ky : Nat} (hS : MS tp n (0 + 1) σ) (h14 : σ 97 14 = nI ky) (hk2 : ky ≤ 2) (hF0 : FF tp n 0 < n) {y : syC} (hy : y.1 = 2 ∨ y.1 = 3) (hg : Go (tkN tp n ky) (0, 0 + 1, [], [], [false]) y) : Ct G yX7_takesE cX7_takesE 5 (some .boolean) d [.ref 97] σ (fun r' σ' => EQ tp n σ y r' σ') := by
  refine Ct.ofV (by decide) (Nat.le_of_ble_eq_true rfl) rfl ?_
  show V G RX7 cX7_takesE (some .boolean) 5 d _ 0 [some (.ref 97), none, none, none, none] [] _
  obtain ⟨d, rfl⟩ : ∃ e, d = e + 1 := ⟨d - 1, by omega⟩
  refine V_iconst 0 dX7_takesE_0 (by decide) ?_
  refine V_istoren_1 dX7_takesE_1 (by first | exact rfl | exact True.intro) (by decide) ?_
  refine V_iconst 0 dX7_takesE_2 (by decide) ?_
  refine V_istoren_2 dX7_takesE_3 (by first | exact rfl | exact True.intro) (by decide) ?_
  refine V_iconst 1 dX7_takesE_4 (by decide) ?_
  refine V_istoren_3 dX7_takesE_5 (by first | exact rfl | exact True.intro) (by decide) ?_
  refine V_aloadn_0 dX7_takesE_6 ?_
  refine V_iconst 0 dX7_takesE_7 (by decide) ?_
  refine V_putI dX7_takesE_8 fp_X7_240 oM_codes ?_
  refine V_aloadn_0 dX7_takesE_11 ?_
  refine V_iconst 0 dX7_takesE_12 (by decide) ?_
  refine V_putI dX7_takesE_13 fp_X7_246 oM_atoms ?_
  refine V_aloadn_0 dX7_takesE_16 ?_
  refine V_iconst 0 dX7_takesE_17 (by decide) ?_
  refine V_putI dX7_takesE_18 fp_X7_234 oM_held ?_
  refine V_aloadn_0 dX7_takesE_21 ?_
  refine V_getR dX7_takesE_22 fl_X7_44 oM_tested ?_
  refine V_iconst 0 dX7_takesE_25 (by decide) ?_
  refine V_iconst 0 dX7_takesE_26 (by decide) ?_
  refine V_zast (j := 0) dX7_takesE_27 aM_tested (by decide) (by decide) (by decide) ?_
  have f3 : FX σ (vup (vup (vup (vup σ 97 18 0) 97 19 0) 97 21 0) 109 0 0) := (((FX.up (by omega)).tr (FX.up (by omega))).tr (FX.up (by omega))).tr (FX.ar (by omega))
  obtain ⟨m, hm⟩ := hg
  have e97 : ∀ j, j ≠ 18 → j ≠ 19 → j ≠ 21 → (vup (vup (vup (vup σ 97 18 0) 97 19 0) 97 21 0) 109 0 0) 97 j = σ 97 j := fun j a b c => by rw [vup_ne (by omega), vup_ne (by omega), vup_ne (by omega), vup_ne (by omega)]
  refine e_run (by omega) hk2 hy m 0 (0 + 1) [] [] [false] _ (by decide) (SI.start hF0) trivial (by decide) ⟨?_, by rw [e97 14 (by decide) (by decide) (by decide)]; exact h14, by rw [vup_ne (by omega), vup_ne (by omega), vup_same]; rfl, ⟨by rw [vup_ne (by omega), vup_ne (by omega), vup_ne (by omega), vup_same]; rfl, by rw [vup_ne (by omega), vup_same]; rfl, fun i hi => absurd hi (Nat.not_lt_zero i), fun i hi => absurd hi (Nat.not_lt_zero i)⟩, fun i hi => ?_⟩ f3 hm
  · obtain ⟨hT, m10, m9, m13, m11, m12, m12b⟩ := hS
    exact ⟨hT.fx f3, by rw [e97 10 (by decide) (by decide) (by decide)]; exact m10, by rw [e97 9 (by decide) (by decide) (by decide)]; exact m9, by rw [e97 13 (by decide) (by decide) (by decide)]; exact m13, by rw [e97 11 (by decide) (by decide) (by decide)]; exact m11, by rw [e97 12 (by decide) (by decide) (by decide)]; exact m12, by rw [e97 12 (by decide) (by decide) (by decide)]; exact m12b⟩
  · have : i = 0 := by simp only [List.length_cons, List.length_nil] at hi; omega
    subst this
    exact vup_same
