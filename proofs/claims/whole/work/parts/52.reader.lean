/-! ===== the reader ===== -/
def RT (tp : Nat → Nat) (n : Nat) (σ : vS) : Prop := σ 1 0 = nI n ∧ n ≤ 96 ∧ (∀ j, j < n → σ 4 j = nI (tp j)) ∧ ∀ j, j < n → tp j < 256
def RS (tp : Nat → Nat) (n k : Nat) (σ : vS) : Prop := RT tp n σ ∧ σ 1 3 = nI (FF tp n k) ∧ σ 1 4 = nI (EE tp n (k + 1)) ∧ σ 1 5 = bI (gluP tp n k)
theorem RT.of {tp : Nat → Nat} {n : Nat} {σ σ' : vS} (h : RT tp n σ) (h0 : σ' 1 0 = σ 1 0) (h4 : σ' 4 = σ 4) : RT tp n σ' := by
  unfold RT
  rw [h0, h4]
  exact h
theorem vup_vup {σ : vS} {p k : Nat} {a b : Int32} : vup (vup σ p k a) p k b = vup σ p k b := by
  funext q j
  unfold vup
  split <;> rfl
theorem srt_le {b : Nat} : srt b ≤ 2 := by
  unfold srt
  split
  · omega
  · split <;> omega
def hdI (tp : Nat → Nat) (n F : Nat) : Int32 := if F < n then nI (tp F) else -1

set_option maxRecDepth 100000 in
set_option maxHeartbeats 4000000 in
theorem k_R_head {G : vG} {σ : vS} {d : Nat} {tp : Nat → Nat} {n : Nat} (hT : RT tp n σ) {F : Nat} (h3 : σ 1 3 = nI F) (hF : F ≤ n) : Cf G yX2_head cX2_head 1 (some .int) d [.ref 1] σ (some (.int (hdI tp n F))) σ := by
  refine Ct.ofV (by decide) (Nat.le_of_ble_eq_true rfl) rfl ?_
  show V G RX2 cX2_head (some .int) 1 d _ 0 [some (.ref 1)] [] _
  obtain ⟨h10, hn96, h4, h256⟩ := id hT
  refine V_aloadn_0 dX2_head_0 ?_
  refine V_getI dX2_head_1 fl_X2_45 oR_from ?_
  refine V_topi (y := nI F) h3 ?_
  refine V_aloadn_0 dX2_head_4 ?_
  refine V_getI dX2_head_5 fl_X2_22 oR_length ?_
  refine V_topi (y := nI n) h10 ?_
  refine V_icmpN_ge (a := F) (b := n) dX2_head_8 23 (by decide) (by omega) (by omega) (fun h8 => ?_) (fun h8 => ?_)
  · refine V_iconst (-1) dX2_head_23 (by decide) ?_
    exact V_iret dX2_head_24 ⟨rI (by unfold hdI; rw [if_neg (by omega)]), rfl⟩
  · refine V_aloadn_0 dX2_head_11 ?_
    refine V_getR dX2_head_12 fl_X2_18 oR_tape ?_
    refine V_aloadn_0 dX2_head_15 ?_
    refine V_getI dX2_head_16 fl_X2_45 oR_from ?_
    refine V_topi (y := nI F) h3 ?_
    refine V_iald (j := F) dX2_head_19 aR_tape (by omega) (by decide) ?_
    refine V_topi (y := nI (tp F)) (h4 F h8) ?_
    refine V_goto dX2_head_20 24 (by decide) ?_
    exact V_iret dX2_head_24 ⟨rI (by unfold hdI; rw [if_pos h8]), rfl⟩

set_option maxRecDepth 100000 in
set_option maxHeartbeats 4000000 in
theorem k_R_sort {G : vG} {σ : vS} {d : Nat} {b : Nat} (hb : b < 256) : Cf G yX2_sortOf cX2_sortOf 1 (some .int) d [.int (nI b)] σ (some (.int (nI (srt b)))) σ := by
  refine Ct.ofV (by decide) (Nat.le_of_ble_eq_true rfl) rfl ?_
  show V G RX2 cX2_sortOf (some .int) 1 d _ 0 [some (.int (nI b))] [] _
  refine V_iloadn_0 dX2_sortOf_0 ?_
  refine V_bipush 97 dX2_sortOf_1 (by decide) ?_
  refine V_icmpN_lt (a := b) (b := 97) dX2_sortOf_3 14 (by decide) (by omega) (by omega) (fun h3 => ?_) (fun h3 => ?_)
  · refine V_iloadn_0 dX2_sortOf_14 ?_
    refine V_bipush 48 dX2_sortOf_15 (by decide) ?_
    refine V_icmpN_lt (a := b) (b := 48) dX2_sortOf_17 30 (by decide) (by omega) (by omega) (fun h17 => ?_) (fun h17 => ?_)
    · refine V_iconst 0 dX2_sortOf_30 (by decide) ?_
      exact V_iret dX2_sortOf_31 ⟨rI (by unfold srt; rw [if_neg (by omega), if_neg (by omega)]; rfl), rfl⟩
    · refine V_iloadn_0 dX2_sortOf_20 ?_
      refine V_bipush 57 dX2_sortOf_21 (by decide) ?_
      refine V_icmpN_gt (a := b) (b := 57) dX2_sortOf_23 30 (by decide) (by omega) (by omega) (fun h23 => ?_) (fun h23 => ?_)
      · refine V_iconst 0 dX2_sortOf_30 (by decide) ?_
        exact V_iret dX2_sortOf_31 ⟨rI (by unfold srt; rw [if_neg (by omega), if_neg (by omega)]; rfl), rfl⟩
      · refine V_iconst 2 dX2_sortOf_26 (by decide) ?_
        refine V_goto dX2_sortOf_27 31 (by decide) ?_
        exact V_iret dX2_sortOf_31 ⟨rI (by unfold srt; rw [if_neg (by omega), if_pos (by omega)]; rfl), rfl⟩
  · refine V_iloadn_0 dX2_sortOf_6 ?_
    refine V_bipush 122 dX2_sortOf_7 (by decide) ?_
    refine V_icmpN_gt (a := b) (b := 122) dX2_sortOf_9 14 (by decide) (by omega) (by omega) (fun h9 => ?_) (fun h9 => ?_)
    · refine V_iloadn_0 dX2_sortOf_14 ?_
      refine V_bipush 48 dX2_sortOf_15 (by decide) ?_
      refine V_icmpN_lt (a := b) (b := 48) dX2_sortOf_17 30 (by decide) (by omega) (by omega) (fun h17 => ?_) (fun h17 => ?_)
      · refine V_iconst 0 dX2_sortOf_30 (by decide) ?_
        exact V_iret dX2_sortOf_31 ⟨rI (by unfold srt; rw [if_neg (by omega), if_neg (by omega)]; rfl), rfl⟩
      · refine V_iloadn_0 dX2_sortOf_20 ?_
        refine V_bipush 57 dX2_sortOf_21 (by decide) ?_
        refine V_icmpN_gt (a := b) (b := 57) dX2_sortOf_23 30 (by decide) (by omega) (by omega) (fun h23 => ?_) (fun h23 => ?_)
        · refine V_iconst 0 dX2_sortOf_30 (by decide) ?_
          exact V_iret dX2_sortOf_31 ⟨rI (by unfold srt; rw [if_neg (by omega), if_neg (by omega)]; rfl), rfl⟩
        · refine V_iconst 2 dX2_sortOf_26 (by decide) ?_
          refine V_goto dX2_sortOf_27 31 (by decide) ?_
          exact V_iret dX2_sortOf_31 ⟨rI (by unfold srt; rw [if_neg (by omega), if_pos (by omega)]; rfl), rfl⟩
    · refine V_iconst 1 dX2_sortOf_12 (by decide) ?_
      exact V_iret dX2_sortOf_13 ⟨rI (by unfold srt; rw [if_pos ⟨h3, h9⟩]; rfl), rfl⟩

set_option maxRecDepth 100000 in
set_option maxHeartbeats 4000000 in
theorem k_R_sortM {G : vG} {σ : vS} {d : Nat}  : Cf G yX2_sortOf cX2_sortOf 1 (some .int) d [.int (-1)] σ (some (.int 0)) σ := by
  refine Ct.ofV (by decide) (Nat.le_of_ble_eq_true rfl) rfl ?_
  show V G RX2 cX2_sortOf (some .int) 1 d _ 0 [some (.int (-1))] [] _
  refine V_iloadn_0 dX2_sortOf_0 ?_
  refine V_bipush 97 dX2_sortOf_1 (by decide) ?_
  refine V_icmp_lt_t dX2_sortOf_3 14 (by decide) (by decide) ?_
  refine V_iloadn_0 dX2_sortOf_14 ?_
  refine V_bipush 48 dX2_sortOf_15 (by decide) ?_
  refine V_icmp_lt_t dX2_sortOf_17 30 (by decide) (by decide) ?_
  refine V_iconst 0 dX2_sortOf_30 (by decide) ?_
  exact V_iret dX2_sortOf_31 ⟨rfl, rfl⟩

set_option maxRecDepth 100000 in
set_option maxHeartbeats 4000000 in
theorem k_R_loose {G : vG} {σ : vS} {d : Nat} {b : Nat} (hb : b < 256) : Cf G yX2_loosenessOf cX2_loosenessOf 1 (some .int) d [.int (nI b)] σ (some (.int (lwI (bk b)))) σ := by
  refine Ct.ofV (by decide) (Nat.le_of_ble_eq_true rfl) rfl ?_
  show V G RX2 cX2_loosenessOf (some .int) 1 d _ 0 [some (.int (nI b))] [] _
  refine V_iloadn_0 dX2_loosenessOf_0 ?_
  by_cases h1_38 : b = 38
  · refine V_lksV 38 85 86 dX2_loosenessOf_1 (by decide) (by rw [h1_38]; rfl) (by decide) (by decide) ?_
    have hbk : bk b = 2 := by rw [h1_38]; rfl
    refine V_iconst 1 dX2_loosenessOf_86 (by decide) ?_
    exact V_iret dX2_loosenessOf_87 ⟨rI (by rw [hbk]; rfl), rfl⟩
  by_cases h1_42 : b = 42
  · refine V_lksV 42 91 92 dX2_loosenessOf_1 (by decide) (by rw [h1_42]; rfl) (by decide) (by decide) ?_
    have hbk : bk b = 5 := by rw [h1_42]; rfl
    refine V_iconst 4 dX2_loosenessOf_92 (by decide) ?_
    exact V_iret dX2_loosenessOf_93 ⟨rI (by rw [hbk]; rfl), rfl⟩
  by_cases h1_43 : b = 43
  · refine V_lksV 43 89 90 dX2_loosenessOf_1 (by decide) (by rw [h1_43]; rfl) (by decide) (by decide) ?_
    have hbk : bk b = 4 := by rw [h1_43]; rfl
    refine V_iconst 3 dX2_loosenessOf_90 (by decide) ?_
    exact V_iret dX2_loosenessOf_91 ⟨rI (by rw [hbk]; rfl), rfl⟩
  by_cases h1_45 : b = 45
  · refine V_lksV 45 89 90 dX2_loosenessOf_1 (by decide) (by rw [h1_45]; rfl) (by decide) (by decide) ?_
    have hbk : bk b = 4 := by rw [h1_45]; rfl
    refine V_iconst 3 dX2_loosenessOf_90 (by decide) ?_
    exact V_iret dX2_loosenessOf_91 ⟨rI (by rw [hbk]; rfl), rfl⟩
  by_cases h1_47 : b = 47
  · refine V_lksV 47 91 92 dX2_loosenessOf_1 (by decide) (by rw [h1_47]; rfl) (by decide) (by decide) ?_
    have hbk : bk b = 5 := by rw [h1_47]; rfl
    refine V_iconst 4 dX2_loosenessOf_92 (by decide) ?_
    exact V_iret dX2_loosenessOf_93 ⟨rI (by rw [hbk]; rfl), rfl⟩
  by_cases h1_60 : b = 60
  · refine V_lksV 60 87 88 dX2_loosenessOf_1 (by decide) (by rw [h1_60]; rfl) (by decide) (by decide) ?_
    have hbk : bk b = 3 := by rw [h1_60]; rfl
    refine V_iconst 2 dX2_loosenessOf_88 (by decide) ?_
    exact V_iret dX2_loosenessOf_89 ⟨rI (by rw [hbk]; rfl), rfl⟩
  by_cases h1_61 : b = 61
  · refine V_lksV 61 87 88 dX2_loosenessOf_1 (by decide) (by rw [h1_61]; rfl) (by decide) (by decide) ?_
    have hbk : bk b = 3 := by rw [h1_61]; rfl
    refine V_iconst 2 dX2_loosenessOf_88 (by decide) ?_
    exact V_iret dX2_loosenessOf_89 ⟨rI (by rw [hbk]; rfl), rfl⟩
  by_cases h1_62 : b = 62
  · refine V_lksV 62 87 88 dX2_loosenessOf_1 (by decide) (by rw [h1_62]; rfl) (by decide) (by decide) ?_
    have hbk : bk b = 3 := by rw [h1_62]; rfl
    refine V_iconst 2 dX2_loosenessOf_88 (by decide) ?_
    exact V_iret dX2_loosenessOf_89 ⟨rI (by rw [hbk]; rfl), rfl⟩
  by_cases h1_124 : b = 124
  · refine V_lksV 124 83 84 dX2_loosenessOf_1 (by decide) (by rw [h1_124]; rfl) (by decide) (by decide) ?_
    have hbk : bk b = 1 := by rw [h1_124]; rfl
    refine V_iconst 0 dX2_loosenessOf_84 (by decide) ?_
    exact V_iret dX2_loosenessOf_85 ⟨rI (by rw [hbk]; rfl), rfl⟩
  refine V_lksD 94 dX2_loosenessOf_1 (by decide) (by rw [nI_toInt (by omega)]; exact List.forall_mem_cons.mpr ⟨by omega, List.forall_mem_cons.mpr ⟨by omega, List.forall_mem_cons.mpr ⟨by omega, List.forall_mem_cons.mpr ⟨by omega, List.forall_mem_cons.mpr ⟨by omega, List.forall_mem_cons.mpr ⟨by omega, List.forall_mem_cons.mpr ⟨by omega, List.forall_mem_cons.mpr ⟨by omega, List.forall_mem_cons.mpr ⟨by omega, (fun _ h => absurd h List.not_mem_nil)⟩⟩⟩⟩⟩⟩⟩⟩⟩) (by decide) ?_
  refine V_iconst (-1) dX2_loosenessOf_94 (by decide) ?_
  exact V_iret dX2_loosenessOf_95 ⟨rI (by rw [show bk b = 0 by unfold bk; rw [if_neg (by omega), if_neg (by omega), if_neg (by omega), if_neg (by omega), if_neg (by omega)]]; rfl), rfl⟩

set_option maxRecDepth 100000 in
set_option maxHeartbeats 4000000 in
theorem k_R_looseM {G : vG} {σ : vS} {d : Nat}  : Cf G yX2_loosenessOf cX2_loosenessOf 1 (some .int) d [.int (-1)] σ (some (.int (-1))) σ := by
  refine Ct.ofV (by decide) (Nat.le_of_ble_eq_true rfl) rfl ?_
  show V G RX2 cX2_loosenessOf (some .int) 1 d _ 0 [some (.int (-1))] [] _
  refine V_iloadn_0 dX2_loosenessOf_0 ?_
  refine V_lks 93 94 dX2_loosenessOf_1 (by decide) (by decide) (by decide) ?_
  refine V_iconst (-1) dX2_loosenessOf_94 (by decide) ?_
  exact V_iret dX2_loosenessOf_95 ⟨rfl, rfl⟩

def stS (σ : vS) (F : Nat) (g : Int32) (E : Nat) : vS := vup (vup (vup σ 1 3 (nI F)) 1 5 g) 1 4 (nI E)
theorem stS_p {σ : vS} {F E q : Nat} {g : Int32} (h : q ≠ 1) : stS σ F g E q = σ q := by
  unfold stS
  rw [vup_p h, vup_p h, vup_p h]
theorem stS_1 {σ : vS} {F E j : Nat} {g : Int32} (h3 : j ≠ 3) (h4 : j ≠ 4) (h5 : j ≠ 5) : stS σ F g E 1 j = σ 1 j := by
  unfold stS
  rw [vup_ne (by omega), vup_ne (by omega), vup_ne (by omega)]
theorem stS_F {σ : vS} {F E : Nat} {g : Int32} : stS σ F g E 1 3 = nI F := by
  unfold stS
  rw [vup_ne (by omega), vup_ne (by omega), vup_same]
theorem stS_g {σ : vS} {F E : Nat} {g : Int32} : stS σ F g E 1 5 = g := by
  unfold stS
  rw [vup_ne (by omega), vup_same]
theorem stS_E {σ : vS} {F E : Nat} {g : Int32} : stS σ F g E 1 4 = nI E := by
  unfold stS
  rw [vup_same]

set_option maxRecDepth 100000 in
set_option maxHeartbeats 4000000 in
theorem lp_R_step1 {G : vG} {d : Nat} {Q : Option Value → vS → Prop} {σ0 : vS} {tp : Nat → Nat} {n e : Nat} (hT : RT tp n σ0) (kont : V G RX2 cX2_step none 3 (d + 1) Q 48 [some (.ref 1), some (.int (nI e)), none] [] (vup σ0 1 3 (nI (frN tp n e)))) : ∀ (k : Nat) (x : Nat), (x ≤ n ∧ sk (spB tp) n x = frN tp n e) → n - x < k → V G RX2 cX2_step none 3 (d + 1) Q 10 [some (.ref 1), some (.int (nI e)), none] [] (vup σ0 1 3 (nI x)) := by
  intro k
  induction k with
  | zero => intros; omega
  | succ k ih =>
    intro x hh hk
    obtain ⟨hxn, hsk⟩ := hh
    obtain ⟨h10, hn96, h4, h256⟩ := id hT
    refine V_aloadn_0 dX2_step_10 ?_
    refine V_getI dX2_step_11 fl_X2_45 oR_from ?_
    refine V_topi (y := nI x) vup_same ?_
    refine V_aloadn_0 dX2_step_14 ?_
    refine V_getI dX2_step_15 fl_X2_22 oR_length ?_
    refine V_topi (y := nI n) (by rw [vup_ne (by omega)]; exact h10) ?_
    refine V_icmpN_ge (a := x) (b := n) dX2_step_18 48 (by decide) (by omega) (by omega) (fun h18 => ?_) (fun h18 => ?_)
    · have ex : x = frN tp n e := by rw [← hsk, sk_n (fun q => absurd q.1 (by omega))]
      rw [ex]
      exact kont
    · refine V_aloadn_0 dX2_step_21 ?_
      refine V_getR dX2_step_22 fl_X2_18 oR_tape ?_
      refine V_aloadn_0 dX2_step_25 ?_
      refine V_getI dX2_step_26 fl_X2_45 oR_from ?_
      refine V_topi (y := nI x) vup_same ?_
      have hx256 := h256 x h18
      refine V_iald (j := x) dX2_step_29 aR_tape (by omega) (by decide) ?_
      refine V_topi (y := nI (tp x)) (by rw [vup_p (by decide)]; exact h4 x h18) ?_
      refine V_bipush 32 dX2_step_30 (by decide) ?_
      refine V_icmpN_ne (a := tp x) (b := 32) dX2_step_32 48 (by decide) (by omega) (by omega) (fun h32 => ?_) (fun h32 => ?_)
      · have ex : x = frN tp n e := by rw [← hsk, sk_n (fun q => h32 (by have := q.2; unfold spB at this; simpa using this))]
        rw [ex]
        exact kont
      · refine V_aloadn_0 dX2_step_35 ?_
        refine V_dup dX2_step_36 rfl ?_
        refine V_getI dX2_step_37 fl_X2_45 oR_from ?_
        refine V_topi (y := nI x) vup_same ?_
        refine V_iconst 1 dX2_step_40 (by decide) ?_
        refine V_iaddN (a := x) (b := 1) dX2_step_41 ?_
        refine V_putI dX2_step_42 fp_X2_45 oR_from ?_
        refine V_goto dX2_step_45 10 (by decide) ?_
        rw [vup_vup]
        exact ih (x + 1) ⟨by omega, by rw [← sk_y h18 (by unfold spB; rw [h32]; rfl)]; exact hsk⟩ (by omega)

set_option maxRecDepth 100000 in
set_option maxHeartbeats 4000000 in
theorem lp_R_step2 {G : vG} {d : Nat} {Q : Option Value → vS → Prop} {σ0 : vS} {tp : Nat → Nat} {n e s E : Nat} (hT : RT tp n σ0) (hs0 : s ≠ 0) (hs2 : s ≤ 2) (hQ : Q none (vup σ0 1 4 (nI E))) : ∀ (k : Nat) (x : Nat), (x ≤ n ∧ sk (soB tp s) n x = E) → n - x < k → V G RX2 cX2_step none 3 (d + 1) Q 112 [some (.ref 1), some (.int (nI e)), some (.int (nI s))] [] (vup σ0 1 4 (nI x)) := by
  intro k
  induction k with
  | zero => intros; omega
  | succ k ih =>
    intro x hh hk
    obtain ⟨hxn, hsk⟩ := hh
    obtain ⟨h10, hn96, h4, h256⟩ := id hT
    refine V_iloadn_2 dX2_step_112 ?_
    refine V_ifN_eq (a := s) dX2_step_113 156 (by decide) (by omega) (fun h113 => ?_) (fun h113 => ?_)
    · exact absurd h113 hs0
    · refine V_aloadn_0 dX2_step_116 ?_
      refine V_getI dX2_step_117 fl_X2_32 oR_end ?_
      refine V_topi (y := nI x) vup_same ?_
      refine V_aloadn_0 dX2_step_120 ?_
      refine V_getI dX2_step_121 fl_X2_22 oR_length ?_
      refine V_topi (y := nI n) (by rw [vup_ne (by omega)]; exact h10) ?_
      refine V_icmpN_ge (a := x) (b := n) dX2_step_124 156 (by decide) (by omega) (by omega) (fun h124 => ?_) (fun h124 => ?_)
      · have ex : x = E := by rw [← hsk, sk_n (fun q => absurd q.1 (by omega))]
        rw [ex]
        exact V_vret dX2_step_156 hQ
      · refine V_aloadn_0 dX2_step_127 ?_
        refine V_getR dX2_step_128 fl_X2_18 oR_tape ?_
        refine V_aloadn_0 dX2_step_131 ?_
        refine V_getI dX2_step_132 fl_X2_32 oR_end ?_
        refine V_topi (y := nI x) vup_same ?_
        have hx256 := h256 x h124
        have hsl := srt_le (b := tp x)
        refine V_iald (j := x) dX2_step_135 aR_tape (by omega) (by decide) ?_
        refine V_topi (y := nI (tp x)) (by rw [vup_p (by decide)]; exact h4 x h124) ?_
        refine V_cs1f dX2_step_136 cs_X2_77 (Nat.le_of_ble_eq_true rfl) (k_R_sort hx256) ?_
        refine V_iloadn_2 dX2_step_139 ?_
        refine V_icmpN_ne (a := srt (tp x)) (b := s) dX2_step_140 156 (by decide) (by omega) (by omega) (fun h140 => ?_) (fun h140 => ?_)
        · have ex : x = E := by rw [← hsk, sk_n (fun q => h140 (by have := q.2; unfold soB at this; simpa using this))]
          rw [ex]
          exact V_vret dX2_step_156 hQ
        · refine V_aloadn_0 dX2_step_143 ?_
          refine V_dup dX2_step_144 rfl ?_
          refine V_getI dX2_step_145 fl_X2_32 oR_end ?_
          refine V_topi (y := nI x) vup_same ?_
          refine V_iconst 1 dX2_step_148 (by decide) ?_
          refine V_iaddN (a := x) (b := 1) dX2_step_149 ?_
          refine V_putI dX2_step_150 fp_X2_32 oR_end ?_
          refine V_goto dX2_step_153 112 (by decide) ?_
          rw [vup_vup]
          exact ih (x + 1) ⟨by omega, by rw [← sk_y h124 (by unfold soB; rw [h140]; simp)]; exact hsk⟩ (by omega)

set_option maxRecDepth 100000 in
set_option maxHeartbeats 4000000 in
theorem t_step_e {G : vG} {d : Nat} {σ : vS} (hd : 2 ≤ d + 1) {tp : Nat → Nat} {n : Nat} (hT : RT tp n σ) {k : Nat} (hF : ¬ FF tp n k < n) : V G RX2 cX2_step none 3 (d + 1) (fun r' σ' => r' = none ∧ σ' = stS σ (FF tp n k) (bI (gluP tp n k)) (EE tp n (k + 1))) 48 [some (.ref 1), some (.int (nI (EE tp n k))), none] [] (vup σ 1 3 (nI (FF tp n k))) := by
  obtain ⟨h10, hn96, h4, h256⟩ := id hT
  have hel := EE_le (tp := tp) (n := n) (k := k)
  have hfl := FF_le (tp := tp) (n := n) (k := k)
  have hfe := FF_ge (tp := tp) (n := n) (k := k)
  have hT3 : RT tp n (vup σ 1 3 (nI (FF tp n k))) := hT.of (vup_ne (by omega)) (vup_p (by decide))
  refine V_aloadn_0 dX2_step_48 ?_
  refine V_cv0f dX2_step_49 cv_X2_65 rcR (Nat.le_of_ble_eq_true rfl) (k_R_head hT3 vup_same hfl) ?_
  refine V_topi (y := -1) (if_neg hF) ?_
  refine V_cs1f dX2_step_52 cs_X2_77 (Nat.le_of_ble_eq_true rfl) k_R_sortM ?_
  refine V_istoren_2 dX2_step_55 (by first | exact rfl | exact True.intro) (by decide) ?_
  refine V_aloadn_0 dX2_step_56 ?_
  refine V_iloadn_2 dX2_step_57 ?_
  refine V_if_eq_t dX2_step_58 91 (by decide) (by decide) ?_
  refine V_iconst 0 dX2_step_91 (by decide) ?_
  refine V_putZ dX2_step_92 fp_X2_89 oR_glued (by decide) ?_
  refine V_aloadn_0 dX2_step_95 ?_
  refine V_aloadn_0 dX2_step_96 ?_
  refine V_getI dX2_step_97 fl_X2_45 oR_from ?_
  refine V_topi (y := nI (FF tp n k)) (by rw [vup_ne (by omega), vup_same]) ?_
  refine V_iconst 1 dX2_step_100 (by decide) ?_
  refine V_iaddN (a := FF tp n k) (b := 1) dX2_step_101 ?_
  refine V_aloadn_0 dX2_step_102 ?_
  refine V_getI dX2_step_103 fl_X2_22 oR_length ?_
  refine V_topi (y := nI n) (by rw [vup_ne (by omega), vup_ne (by omega)]; exact h10) ?_
  refine V_mminN (a := (FF tp n k) + 1) (b := n) dX2_step_106 ml_X2_108 (Nat.le_of_ble_eq_true rfl) (by omega) (by omega) ?_
  refine V_topi (y := nI n) (by congr 1; omega) ?_
  refine V_putI dX2_step_109 fp_X2_32 oR_end ?_
  refine V_iloadn_2 dX2_step_112 ?_
  refine V_if_eq_t dX2_step_113 156 (by decide) (by decide) ?_
  exact V_vret dX2_step_156 ⟨rfl, by unfold stS; rw [bI_f (fun q => hF q.1.1), EE_end hF]; try rfl⟩

set_option maxRecDepth 100000 in
set_option maxHeartbeats 4000000 in
theorem t_step_s {G : vG} {d : Nat} {σ : vS} (hd : 2 ≤ d + 1) {tp : Nat → Nat} {n : Nat} (hT : RT tp n σ) {k : Nat} (hF : FF tp n k < n) (hs : srt (tp (FF tp n k)) = 0) : V G RX2 cX2_step none 3 (d + 1) (fun r' σ' => r' = none ∧ σ' = stS σ (FF tp n k) (bI (gluP tp n k)) (EE tp n (k + 1))) 48 [some (.ref 1), some (.int (nI (EE tp n k))), none] [] (vup σ 1 3 (nI (FF tp n k))) := by
  obtain ⟨h10, hn96, h4, h256⟩ := id hT
  have hel := EE_le (tp := tp) (n := n) (k := k)
  have hfl := FF_le (tp := tp) (n := n) (k := k)
  have hfe := FF_ge (tp := tp) (n := n) (k := k)
  have hT3 : RT tp n (vup σ 1 3 (nI (FF tp n k))) := hT.of (vup_ne (by omega)) (vup_p (by decide))
  refine V_aloadn_0 dX2_step_48 ?_
  refine V_cv0f dX2_step_49 cv_X2_65 rcR (Nat.le_of_ble_eq_true rfl) (k_R_head hT3 vup_same hfl) ?_
  refine V_topi (y := nI (tp (FF tp n k))) (if_pos hF) ?_
  refine V_cs1f dX2_step_52 cs_X2_77 (Nat.le_of_ble_eq_true rfl) (k_R_sort (h256 _ hF)) ?_
  refine V_topi (y := 0) (by rw [hs]; rfl) ?_
  refine V_istoren_2 dX2_step_55 (by first | exact rfl | exact True.intro) (by decide) ?_
  refine V_aloadn_0 dX2_step_56 ?_
  refine V_iloadn_2 dX2_step_57 ?_
  refine V_if_eq_t dX2_step_58 91 (by decide) (by decide) ?_
  refine V_iconst 0 dX2_step_91 (by decide) ?_
  refine V_putZ dX2_step_92 fp_X2_89 oR_glued (by decide) ?_
  refine V_aloadn_0 dX2_step_95 ?_
  refine V_aloadn_0 dX2_step_96 ?_
  refine V_getI dX2_step_97 fl_X2_45 oR_from ?_
  refine V_topi (y := nI (FF tp n k)) (by rw [vup_ne (by omega), vup_same]) ?_
  refine V_iconst 1 dX2_step_100 (by decide) ?_
  refine V_iaddN (a := FF tp n k) (b := 1) dX2_step_101 ?_
  refine V_aloadn_0 dX2_step_102 ?_
  refine V_getI dX2_step_103 fl_X2_22 oR_length ?_
  refine V_topi (y := nI n) (by rw [vup_ne (by omega), vup_ne (by omega)]; exact h10) ?_
  refine V_mminN (a := (FF tp n k) + 1) (b := n) dX2_step_106 ml_X2_108 (Nat.le_of_ble_eq_true rfl) (by omega) (by omega) ?_
  refine V_topi (y := nI (FF tp n k + 1)) (by congr 1; omega) ?_
  refine V_putI dX2_step_109 fp_X2_32 oR_end ?_
  refine V_iloadn_2 dX2_step_112 ?_
  refine V_if_eq_t dX2_step_113 156 (by decide) (by decide) ?_
  exact V_vret dX2_step_156 ⟨rfl, by unfold stS; rw [bI_f (fun q => q.1.2 hs), EE_sign hF hs]; try rfl⟩

set_option maxRecDepth 100000 in
set_option maxHeartbeats 4000000 in
theorem t_step_w {G : vG} {d : Nat} {σ : vS} (hd : 2 ≤ d + 1) {tp : Nat → Nat} {n : Nat} (hT : RT tp n σ) {k : Nat} (hF : FF tp n k < n) (hs : srt (tp (FF tp n k)) ≠ 0) : V G RX2 cX2_step none 3 (d + 1) (fun r' σ' => r' = none ∧ σ' = stS σ (FF tp n k) (bI (gluP tp n k)) (EE tp n (k + 1))) 48 [some (.ref 1), some (.int (nI (EE tp n k))), none] [] (vup σ 1 3 (nI (FF tp n k))) := by
  obtain ⟨h10, hn96, h4, h256⟩ := id hT
  have hel := EE_le (tp := tp) (n := n) (k := k)
  have hfl := FF_le (tp := tp) (n := n) (k := k)
  have hfe := FF_ge (tp := tp) (n := n) (k := k)
  have hT3 : RT tp n (vup σ 1 3 (nI (FF tp n k))) := hT.of (vup_ne (by omega)) (vup_p (by decide))
  refine V_aloadn_0 dX2_step_48 ?_
  refine V_cv0f dX2_step_49 cv_X2_65 rcR (Nat.le_of_ble_eq_true rfl) (k_R_head hT3 vup_same hfl) ?_
  refine V_topi (y := nI (tp (FF tp n k))) (if_pos hF) ?_
  refine V_cs1f dX2_step_52 cs_X2_77 (Nat.le_of_ble_eq_true rfl) (k_R_sort (h256 _ hF)) ?_
  have hsl := srt_le (b := tp (FF tp n k))
  have hsl2 := srt_le (b := tp (EE tp n k - 1))
  refine V_istoren_2 dX2_step_55 (by first | exact rfl | exact True.intro) (by decide) ?_
  refine V_aloadn_0 dX2_step_56 ?_
  refine V_iloadn_2 dX2_step_57 ?_
  refine V_ifN_eq (a := srt (tp (FF tp n k))) dX2_step_58 91 (by decide) (by omega) (fun h58 => ?_) (fun h58 => ?_)
  · exact absurd h58 hs
  · refine V_aloadn_0 dX2_step_61 ?_
    refine V_getI dX2_step_62 fl_X2_45 oR_from ?_
    refine V_topi (y := nI (FF tp n k)) vup_same ?_
    refine V_iloadn_1 dX2_step_65 ?_
    refine V_icmpN_ne (a := FF tp n k) (b := EE tp n k) dX2_step_66 91 (by decide) (by omega) (by omega) (fun h66 => ?_) (fun h66 => ?_)
    · refine V_iconst 0 dX2_step_91 (by decide) ?_
      refine V_putZ dX2_step_92 fp_X2_89 oR_glued (by decide) ?_
      refine V_aloadn_0 dX2_step_95 ?_
      refine V_aloadn_0 dX2_step_96 ?_
      refine V_getI dX2_step_97 fl_X2_45 oR_from ?_
      refine V_topi (y := nI (FF tp n k)) (by rw [vup_ne (by omega), vup_same]) ?_
      refine V_iconst 1 dX2_step_100 (by decide) ?_
      refine V_iaddN (a := FF tp n k) (b := 1) dX2_step_101 ?_
      refine V_aloadn_0 dX2_step_102 ?_
      refine V_getI dX2_step_103 fl_X2_22 oR_length ?_
      refine V_topi (y := nI n) (by rw [vup_ne (by omega), vup_ne (by omega)]; exact h10) ?_
      refine V_mminN (a := (FF tp n k) + 1) (b := n) dX2_step_106 ml_X2_108 (Nat.le_of_ble_eq_true rfl) (by omega) (by omega) ?_
      refine V_topi (y := nI (FF tp n k + 1)) (by congr 1; omega) ?_
      refine V_putI dX2_step_109 fp_X2_32 oR_end ?_
      rw [EE_word hF hs, bI_f (fun q => h66 q.2.1)]
      exact lp_R_step2 (hT.of (by rw [vup_ne (by omega), vup_ne (by omega)]) (by rw [vup_p (by decide), vup_p (by decide)])) hs hsl ⟨rfl, rfl⟩ (n + 1) (FF tp n k + 1) ⟨by omega, rfl⟩ (by omega)
    · refine V_iloadn_1 dX2_step_69 ?_
      refine V_ifN_le (a := EE tp n k) dX2_step_70 91 (by decide) (by omega) (fun h70 => ?_) (fun h70 => ?_)
      · refine V_iconst 0 dX2_step_91 (by decide) ?_
        refine V_putZ dX2_step_92 fp_X2_89 oR_glued (by decide) ?_
        refine V_aloadn_0 dX2_step_95 ?_
        refine V_aloadn_0 dX2_step_96 ?_
        refine V_getI dX2_step_97 fl_X2_45 oR_from ?_
        refine V_topi (y := nI (FF tp n k)) (by rw [vup_ne (by omega), vup_same]) ?_
        refine V_iconst 1 dX2_step_100 (by decide) ?_
        refine V_iaddN (a := FF tp n k) (b := 1) dX2_step_101 ?_
        refine V_aloadn_0 dX2_step_102 ?_
        refine V_getI dX2_step_103 fl_X2_22 oR_length ?_
        refine V_topi (y := nI n) (by rw [vup_ne (by omega), vup_ne (by omega)]; exact h10) ?_
        refine V_mminN (a := (FF tp n k) + 1) (b := n) dX2_step_106 ml_X2_108 (Nat.le_of_ble_eq_true rfl) (by omega) (by omega) ?_
        refine V_topi (y := nI (FF tp n k + 1)) (by congr 1; omega) ?_
        refine V_putI dX2_step_109 fp_X2_32 oR_end ?_
        rw [EE_word hF hs, bI_f (fun q => absurd q.2.2.1 (by omega))]
        exact lp_R_step2 (hT.of (by rw [vup_ne (by omega), vup_ne (by omega)]) (by rw [vup_p (by decide), vup_p (by decide)])) hs hsl ⟨rfl, rfl⟩ (n + 1) (FF tp n k + 1) ⟨by omega, rfl⟩ (by omega)
      · refine V_aloadn_0 dX2_step_73 ?_
        refine V_getR dX2_step_74 fl_X2_18 oR_tape ?_
        refine V_iloadn_1 dX2_step_77 ?_
        refine V_iconst 1 dX2_step_78 (by decide) ?_
        refine V_isubN (a := EE tp n k) (b := 1) dX2_step_79 (by omega) ?_
        refine V_iald (j := (EE tp n k) - 1) dX2_step_80 aR_tape (by omega) (by decide) ?_
        refine V_topi (y := nI (tp (EE tp n k - 1))) (by rw [vup_p (by decide)]; exact h4 _ (by omega)) ?_
        refine V_cs1f dX2_step_81 cs_X2_77 (Nat.le_of_ble_eq_true rfl) (k_R_sort (h256 _ (by omega))) ?_
        refine V_ifN_eq (a := srt (tp (EE tp n k - 1))) dX2_step_84 91 (by decide) (by omega) (fun h84 => ?_) (fun h84 => ?_)
        · refine V_iconst 0 dX2_step_91 (by decide) ?_
          refine V_putZ dX2_step_92 fp_X2_89 oR_glued (by decide) ?_
          refine V_aloadn_0 dX2_step_95 ?_
          refine V_aloadn_0 dX2_step_96 ?_
          refine V_getI dX2_step_97 fl_X2_45 oR_from ?_
          refine V_topi (y := nI (FF tp n k)) (by rw [vup_ne (by omega), vup_same]) ?_
          refine V_iconst 1 dX2_step_100 (by decide) ?_
          refine V_iaddN (a := FF tp n k) (b := 1) dX2_step_101 ?_
          refine V_aloadn_0 dX2_step_102 ?_
          refine V_getI dX2_step_103 fl_X2_22 oR_length ?_
          refine V_topi (y := nI n) (by rw [vup_ne (by omega), vup_ne (by omega)]; exact h10) ?_
          refine V_mminN (a := (FF tp n k) + 1) (b := n) dX2_step_106 ml_X2_108 (Nat.le_of_ble_eq_true rfl) (by omega) (by omega) ?_
          refine V_topi (y := nI (FF tp n k + 1)) (by congr 1; omega) ?_
          refine V_putI dX2_step_109 fp_X2_32 oR_end ?_
          rw [EE_word hF hs, bI_f (fun q => q.2.2.2 h84)]
          exact lp_R_step2 (hT.of (by rw [vup_ne (by omega), vup_ne (by omega)]) (by rw [vup_p (by decide), vup_p (by decide)])) hs hsl ⟨rfl, rfl⟩ (n + 1) (FF tp n k + 1) ⟨by omega, rfl⟩ (by omega)
        · refine V_iconst 1 dX2_step_87 (by decide) ?_
          refine V_goto dX2_step_88 92 (by decide) ?_
          refine V_putZ dX2_step_92 fp_X2_89 oR_glued (by decide) ?_
          refine V_aloadn_0 dX2_step_95 ?_
          refine V_aloadn_0 dX2_step_96 ?_
          refine V_getI dX2_step_97 fl_X2_45 oR_from ?_
          refine V_topi (y := nI (FF tp n k)) (by rw [vup_ne (by omega), vup_same]) ?_
          refine V_iconst 1 dX2_step_100 (by decide) ?_
          refine V_iaddN (a := FF tp n k) (b := 1) dX2_step_101 ?_
          refine V_aloadn_0 dX2_step_102 ?_
          refine V_getI dX2_step_103 fl_X2_22 oR_length ?_
          refine V_topi (y := nI n) (by rw [vup_ne (by omega), vup_ne (by omega)]; exact h10) ?_
          refine V_mminN (a := (FF tp n k) + 1) (b := n) dX2_step_106 ml_X2_108 (Nat.le_of_ble_eq_true rfl) (by omega) (by omega) ?_
          refine V_topi (y := nI (FF tp n k + 1)) (by congr 1; omega) ?_
          refine V_putI dX2_step_109 fp_X2_32 oR_end ?_
          rw [EE_word hF hs, bI_t ⟨⟨hF, hs⟩, h66, h70, h84⟩]
          exact lp_R_step2 (hT.of (by rw [vup_ne (by omega), vup_ne (by omega)]) (by rw [vup_p (by decide), vup_p (by decide)])) hs hsl ⟨rfl, rfl⟩ (n + 1) (FF tp n k + 1) ⟨by omega, rfl⟩ (by omega)

set_option maxRecDepth 100000 in
set_option maxHeartbeats 4000000 in
theorem k_R_step {G : vG} {σ : vS} {d : Nat} (hd : 2 ≤ d) {tp : Nat → Nat} {n : Nat} (hT : RT tp n σ) {k : Nat} (he : σ 1 4 = nI (EE tp n k))  : Cf G yX2_step cX2_step 3 none d [.ref 1] σ none (stS σ (FF tp n k) (bI (gluP tp n k)) (EE tp n (k + 1))) := by
  refine Ct.ofV (by decide) (Nat.le_of_ble_eq_true rfl) rfl ?_
  show V G RX2 cX2_step none 3 d _ 0 [some (.ref 1), none, none] [] _
  obtain ⟨d, rfl⟩ : ∃ e, d = e + 1 := ⟨d - 1, by omega⟩
  obtain ⟨h10, hn96, h4, h256⟩ := id hT
  have hel := EE_le (tp := tp) (n := n) (k := k)
  have hfl := FF_le (tp := tp) (n := n) (k := k)
  have hfe := FF_ge (tp := tp) (n := n) (k := k)
  refine V_aloadn_0 dX2_step_0 ?_
  refine V_getI dX2_step_1 fl_X2_32 oR_end ?_
  refine V_topi (y := nI (EE tp n k)) he ?_
  refine V_istoren_1 dX2_step_4 (by first | exact rfl | exact True.intro) (by decide) ?_
  refine V_aloadn_0 dX2_step_5 ?_
  refine V_iloadn_1 dX2_step_6 ?_
  refine V_putI dX2_step_7 fp_X2_45 oR_from ?_
  refine lp_R_step1 hT ?_ (n + 1) (EE tp n k) ⟨hel, rfl⟩ (by omega)
  by_cases hF : FF tp n k < n
  · by_cases hs : srt (tp (FF tp n k)) = 0
    · exact t_step_s (by omega) hT hF hs
    · exact t_step_w (by omega) hT hF hs
  · exact t_step_e (by omega) hT hF

theorem RS.mk {tp : Nat → Nat} {n k : Nat} {σ : vS} (hT : RT tp n σ) : RS tp n k (stS σ (FF tp n k) (bI (gluP tp n k)) (EE tp n (k + 1))) :=
  ⟨hT.of (stS_1 (by decide) (by decide) (by decide)) (stS_p (by decide)), stS_F, stS_E, stS_g⟩
