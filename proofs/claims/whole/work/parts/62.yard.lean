set_option maxRecDepth 100000 in
set_option maxHeartbeats 4000000 in
theorem k_M_rank_1 {G : vG} {σ : vS} {d : Nat}  : Cf G yX7_rank cX7_rank 1 (some .int) d [.int (-1)] σ (some (.int 1)) σ := by
  refine Ct.ofV (by decide) (Nat.le_of_ble_eq_true rfl) rfl ?_
  show V G RX7 cX7_rank (some .int) 1 d _ 0 [some (.int (-1))] [] _
  refine V_iloadn_0 dX7_rank_0 ?_
  refine V_iconst (-1) dX7_rank_1 (by decide) ?_
  refine V_icmp_ne_f dX7_rank_2 9 (by decide) (by decide) ?_
  refine V_iconst 1 dX7_rank_5 (by decide) ?_
  refine V_goto dX7_rank_6 51 (by decide) ?_
  exact V_iret dX7_rank_51 ⟨rfl, rfl⟩

set_option maxRecDepth 100000 in
set_option maxHeartbeats 4000000 in
theorem k_M_rank_2 {G : vG} {σ : vS} {d : Nat}  : Cf G yX7_rank cX7_rank 1 (some .int) d [.int (-2)] σ (some (.int 2)) σ := by
  refine Ct.ofV (by decide) (Nat.le_of_ble_eq_true rfl) rfl ?_
  show V G RX7 cX7_rank (some .int) 1 d _ 0 [some (.int (-2))] [] _
  refine V_iloadn_0 dX7_rank_0 ?_
  refine V_iconst (-1) dX7_rank_1 (by decide) ?_
  refine V_icmp_ne_t dX7_rank_2 9 (by decide) (by decide) ?_
  refine V_iloadn_0 dX7_rank_9 ?_
  refine V_bipush (-2) dX7_rank_10 (by decide) ?_
  refine V_icmp_ne_f dX7_rank_12 19 (by decide) (by decide) ?_
  refine V_iconst 2 dX7_rank_15 (by decide) ?_
  refine V_goto dX7_rank_16 51 (by decide) ?_
  exact V_iret dX7_rank_51 ⟨rfl, rfl⟩

set_option maxRecDepth 100000 in
set_option maxHeartbeats 4000000 in
theorem k_M_rank_3 {G : vG} {σ : vS} {d : Nat}  : Cf G yX7_rank cX7_rank 1 (some .int) d [.int (-3)] σ (some (.int 3)) σ := by
  refine Ct.ofV (by decide) (Nat.le_of_ble_eq_true rfl) rfl ?_
  show V G RX7 cX7_rank (some .int) 1 d _ 0 [some (.int (-3))] [] _
  refine V_iloadn_0 dX7_rank_0 ?_
  refine V_iconst (-1) dX7_rank_1 (by decide) ?_
  refine V_icmp_ne_t dX7_rank_2 9 (by decide) (by decide) ?_
  refine V_iloadn_0 dX7_rank_9 ?_
  refine V_bipush (-2) dX7_rank_10 (by decide) ?_
  refine V_icmp_ne_t dX7_rank_12 19 (by decide) (by decide) ?_
  refine V_iloadn_0 dX7_rank_19 ?_
  refine V_bipush (-5) dX7_rank_20 (by decide) ?_
  refine V_icmp_lt_f dX7_rank_22 29 (by decide) (by decide) ?_
  refine V_iconst 3 dX7_rank_25 (by decide) ?_
  refine V_goto dX7_rank_26 51 (by decide) ?_
  exact V_iret dX7_rank_51 ⟨rfl, rfl⟩

set_option maxRecDepth 100000 in
set_option maxHeartbeats 4000000 in
theorem k_M_rank_4 {G : vG} {σ : vS} {d : Nat}  : Cf G yX7_rank cX7_rank 1 (some .int) d [.int (-4)] σ (some (.int 3)) σ := by
  refine Ct.ofV (by decide) (Nat.le_of_ble_eq_true rfl) rfl ?_
  show V G RX7 cX7_rank (some .int) 1 d _ 0 [some (.int (-4))] [] _
  refine V_iloadn_0 dX7_rank_0 ?_
  refine V_iconst (-1) dX7_rank_1 (by decide) ?_
  refine V_icmp_ne_t dX7_rank_2 9 (by decide) (by decide) ?_
  refine V_iloadn_0 dX7_rank_9 ?_
  refine V_bipush (-2) dX7_rank_10 (by decide) ?_
  refine V_icmp_ne_t dX7_rank_12 19 (by decide) (by decide) ?_
  refine V_iloadn_0 dX7_rank_19 ?_
  refine V_bipush (-5) dX7_rank_20 (by decide) ?_
  refine V_icmp_lt_f dX7_rank_22 29 (by decide) (by decide) ?_
  refine V_iconst 3 dX7_rank_25 (by decide) ?_
  refine V_goto dX7_rank_26 51 (by decide) ?_
  exact V_iret dX7_rank_51 ⟨rfl, rfl⟩

set_option maxRecDepth 100000 in
set_option maxHeartbeats 4000000 in
theorem k_M_rank_5 {G : vG} {σ : vS} {d : Nat}  : Cf G yX7_rank cX7_rank 1 (some .int) d [.int (-5)] σ (some (.int 3)) σ := by
  refine Ct.ofV (by decide) (Nat.le_of_ble_eq_true rfl) rfl ?_
  show V G RX7 cX7_rank (some .int) 1 d _ 0 [some (.int (-5))] [] _
  refine V_iloadn_0 dX7_rank_0 ?_
  refine V_iconst (-1) dX7_rank_1 (by decide) ?_
  refine V_icmp_ne_t dX7_rank_2 9 (by decide) (by decide) ?_
  refine V_iloadn_0 dX7_rank_9 ?_
  refine V_bipush (-2) dX7_rank_10 (by decide) ?_
  refine V_icmp_ne_t dX7_rank_12 19 (by decide) (by decide) ?_
  refine V_iloadn_0 dX7_rank_19 ?_
  refine V_bipush (-5) dX7_rank_20 (by decide) ?_
  refine V_icmp_lt_f dX7_rank_22 29 (by decide) (by decide) ?_
  refine V_iconst 3 dX7_rank_25 (by decide) ?_
  refine V_goto dX7_rank_26 51 (by decide) ?_
  exact V_iret dX7_rank_51 ⟨rfl, rfl⟩

set_option maxRecDepth 100000 in
set_option maxHeartbeats 4000000 in
theorem k_M_rank_6 {G : vG} {σ : vS} {d : Nat}  : Cf G yX7_rank cX7_rank 1 (some .int) d [.int (-6)] σ (some (.int 4)) σ := by
  refine Ct.ofV (by decide) (Nat.le_of_ble_eq_true rfl) rfl ?_
  show V G RX7 cX7_rank (some .int) 1 d _ 0 [some (.int (-6))] [] _
  refine V_iloadn_0 dX7_rank_0 ?_
  refine V_iconst (-1) dX7_rank_1 (by decide) ?_
  refine V_icmp_ne_t dX7_rank_2 9 (by decide) (by decide) ?_
  refine V_iloadn_0 dX7_rank_9 ?_
  refine V_bipush (-2) dX7_rank_10 (by decide) ?_
  refine V_icmp_ne_t dX7_rank_12 19 (by decide) (by decide) ?_
  refine V_iloadn_0 dX7_rank_19 ?_
  refine V_bipush (-5) dX7_rank_20 (by decide) ?_
  refine V_icmp_lt_t dX7_rank_22 29 (by decide) (by decide) ?_
  refine V_iloadn_0 dX7_rank_29 ?_
  refine V_bipush (-7) dX7_rank_30 (by decide) ?_
  refine V_icmp_lt_f dX7_rank_32 39 (by decide) (by decide) ?_
  refine V_iconst 4 dX7_rank_35 (by decide) ?_
  refine V_goto dX7_rank_36 51 (by decide) ?_
  exact V_iret dX7_rank_51 ⟨rfl, rfl⟩

set_option maxRecDepth 100000 in
set_option maxHeartbeats 4000000 in
theorem k_M_rank_7 {G : vG} {σ : vS} {d : Nat}  : Cf G yX7_rank cX7_rank 1 (some .int) d [.int (-7)] σ (some (.int 4)) σ := by
  refine Ct.ofV (by decide) (Nat.le_of_ble_eq_true rfl) rfl ?_
  show V G RX7 cX7_rank (some .int) 1 d _ 0 [some (.int (-7))] [] _
  refine V_iloadn_0 dX7_rank_0 ?_
  refine V_iconst (-1) dX7_rank_1 (by decide) ?_
  refine V_icmp_ne_t dX7_rank_2 9 (by decide) (by decide) ?_
  refine V_iloadn_0 dX7_rank_9 ?_
  refine V_bipush (-2) dX7_rank_10 (by decide) ?_
  refine V_icmp_ne_t dX7_rank_12 19 (by decide) (by decide) ?_
  refine V_iloadn_0 dX7_rank_19 ?_
  refine V_bipush (-5) dX7_rank_20 (by decide) ?_
  refine V_icmp_lt_t dX7_rank_22 29 (by decide) (by decide) ?_
  refine V_iloadn_0 dX7_rank_29 ?_
  refine V_bipush (-7) dX7_rank_30 (by decide) ?_
  refine V_icmp_lt_f dX7_rank_32 39 (by decide) (by decide) ?_
  refine V_iconst 4 dX7_rank_35 (by decide) ?_
  refine V_goto dX7_rank_36 51 (by decide) ?_
  exact V_iret dX7_rank_51 ⟨rfl, rfl⟩

set_option maxRecDepth 100000 in
set_option maxHeartbeats 4000000 in
theorem k_M_rank_8 {G : vG} {σ : vS} {d : Nat}  : Cf G yX7_rank cX7_rank 1 (some .int) d [.int (-8)] σ (some (.int 5)) σ := by
  refine Ct.ofV (by decide) (Nat.le_of_ble_eq_true rfl) rfl ?_
  show V G RX7 cX7_rank (some .int) 1 d _ 0 [some (.int (-8))] [] _
  refine V_iloadn_0 dX7_rank_0 ?_
  refine V_iconst (-1) dX7_rank_1 (by decide) ?_
  refine V_icmp_ne_t dX7_rank_2 9 (by decide) (by decide) ?_
  refine V_iloadn_0 dX7_rank_9 ?_
  refine V_bipush (-2) dX7_rank_10 (by decide) ?_
  refine V_icmp_ne_t dX7_rank_12 19 (by decide) (by decide) ?_
  refine V_iloadn_0 dX7_rank_19 ?_
  refine V_bipush (-5) dX7_rank_20 (by decide) ?_
  refine V_icmp_lt_t dX7_rank_22 29 (by decide) (by decide) ?_
  refine V_iloadn_0 dX7_rank_29 ?_
  refine V_bipush (-7) dX7_rank_30 (by decide) ?_
  refine V_icmp_lt_t dX7_rank_32 39 (by decide) (by decide) ?_
  refine V_iloadn_0 dX7_rank_39 ?_
  refine V_bipush (-9) dX7_rank_40 (by decide) ?_
  refine V_icmp_lt_f dX7_rank_42 49 (by decide) (by decide) ?_
  refine V_iconst 5 dX7_rank_45 (by decide) ?_
  refine V_goto dX7_rank_46 51 (by decide) ?_
  exact V_iret dX7_rank_51 ⟨rfl, rfl⟩

set_option maxRecDepth 100000 in
set_option maxHeartbeats 4000000 in
theorem k_M_rank_9 {G : vG} {σ : vS} {d : Nat}  : Cf G yX7_rank cX7_rank 1 (some .int) d [.int (-9)] σ (some (.int 5)) σ := by
  refine Ct.ofV (by decide) (Nat.le_of_ble_eq_true rfl) rfl ?_
  show V G RX7 cX7_rank (some .int) 1 d _ 0 [some (.int (-9))] [] _
  refine V_iloadn_0 dX7_rank_0 ?_
  refine V_iconst (-1) dX7_rank_1 (by decide) ?_
  refine V_icmp_ne_t dX7_rank_2 9 (by decide) (by decide) ?_
  refine V_iloadn_0 dX7_rank_9 ?_
  refine V_bipush (-2) dX7_rank_10 (by decide) ?_
  refine V_icmp_ne_t dX7_rank_12 19 (by decide) (by decide) ?_
  refine V_iloadn_0 dX7_rank_19 ?_
  refine V_bipush (-5) dX7_rank_20 (by decide) ?_
  refine V_icmp_lt_t dX7_rank_22 29 (by decide) (by decide) ?_
  refine V_iloadn_0 dX7_rank_29 ?_
  refine V_bipush (-7) dX7_rank_30 (by decide) ?_
  refine V_icmp_lt_t dX7_rank_32 39 (by decide) (by decide) ?_
  refine V_iloadn_0 dX7_rank_39 ?_
  refine V_bipush (-9) dX7_rank_40 (by decide) ?_
  refine V_icmp_lt_f dX7_rank_42 49 (by decide) (by decide) ?_
  refine V_iconst 5 dX7_rank_45 (by decide) ?_
  refine V_goto dX7_rank_46 51 (by decide) ?_
  exact V_iret dX7_rank_51 ⟨rfl, rfl⟩

set_option maxRecDepth 100000 in
set_option maxHeartbeats 4000000 in
theorem k_M_rank_10 {G : vG} {σ : vS} {d : Nat}  : Cf G yX7_rank cX7_rank 1 (some .int) d [.int (-10)] σ (some (.int 6)) σ := by
  refine Ct.ofV (by decide) (Nat.le_of_ble_eq_true rfl) rfl ?_
  show V G RX7 cX7_rank (some .int) 1 d _ 0 [some (.int (-10))] [] _
  refine V_iloadn_0 dX7_rank_0 ?_
  refine V_iconst (-1) dX7_rank_1 (by decide) ?_
  refine V_icmp_ne_t dX7_rank_2 9 (by decide) (by decide) ?_
  refine V_iloadn_0 dX7_rank_9 ?_
  refine V_bipush (-2) dX7_rank_10 (by decide) ?_
  refine V_icmp_ne_t dX7_rank_12 19 (by decide) (by decide) ?_
  refine V_iloadn_0 dX7_rank_19 ?_
  refine V_bipush (-5) dX7_rank_20 (by decide) ?_
  refine V_icmp_lt_t dX7_rank_22 29 (by decide) (by decide) ?_
  refine V_iloadn_0 dX7_rank_29 ?_
  refine V_bipush (-7) dX7_rank_30 (by decide) ?_
  refine V_icmp_lt_t dX7_rank_32 39 (by decide) (by decide) ?_
  refine V_iloadn_0 dX7_rank_39 ?_
  refine V_bipush (-9) dX7_rank_40 (by decide) ?_
  refine V_icmp_lt_t dX7_rank_42 49 (by decide) (by decide) ?_
  refine V_bipush 6 dX7_rank_49 (by decide) ?_
  exact V_iret dX7_rank_51 ⟨rfl, rfl⟩

theorem k_M_rank {G : vG} {σ : vS} {d s : Nat} (h : s = 33 ∨ bk s ≠ 0) : Cf G yX7_rank cX7_rank 1 (some .int) d [.int (encI (20000 + s))] σ (some (.int (nI (rk s)))) σ := by
  have h2 : s = 33 ∨ s = 124 ∨ s = 38 ∨ s = 60 ∨ s = 61 ∨ s = 62 ∨ s = 43 ∨ s = 45 ∨ s = 42 ∨ s = 47 := h.elim Or.inl (fun q => Or.inr (bk_ok q))
  rcases h2 with rfl | rfl | rfl | rfl | rfl | rfl | rfl | rfl | rfl | rfl
  · exact k_M_rank_10
  · exact k_M_rank_1
  · exact k_M_rank_2
  · exact k_M_rank_3
  · exact k_M_rank_4
  · exact k_M_rank_5
  · exact k_M_rank_6
  · exact k_M_rank_7
  · exact k_M_rank_8
  · exact k_M_rank_9

theorem rk_le {s : Nat} : rk s ≤ 6 := by
  unfold rk
  split
  · omega
  · have := bk_le (s := s); omega
def wE (s : Nat) : Int32 := if s = 40 then -11 else encI (20000 + s)
theorem wE_ok {s : Nat} (h : s = 33 ∨ s = 40 ∨ bk s ≠ 0) : (wE s = -11 ↔ s = 40) ∧ (wE s = -10 ↔ s = 33) := by
  have h2 : s = 33 ∨ s = 40 ∨ s = 124 ∨ s = 38 ∨ s = 60 ∨ s = 61 ∨ s = 62 ∨ s = 43 ∨ s = 45 ∨ s = 42 ∨ s = 47 := h.elim Or.inl (fun q => Or.inr (q.elim Or.inl (fun q => Or.inr (bk_ok q))))
  rcases h2 with rfl | rfl | rfl | rfl | rfl | rfl | rfl | rfl | rfl | rfl | rfl <;> decide
def CW (c w : List Nat) (σ : vS) : Prop := σ 97 18 = nI c.length ∧ σ 97 21 = nI w.length ∧ (∀ i, i < c.length → σ 107 i = encI (rwC c i)) ∧ ∀ i, i < w.length → σ 108 (w.length - 1 - i) = wE (w.getD i 0)
def FS (σ σ' : vS) : Prop := (∀ q, q ≠ 97 → q ≠ 107 → σ' q = σ q) ∧ ∀ j, j ≠ 18 → j ≠ 21 → σ' 97 j = σ 97 j
theorem FS.rf {σ : vS} : FS σ σ := ⟨fun _ _ _ => rfl, fun _ _ _ => rfl⟩
theorem FS.tr {σ σ1 σ2 : vS} (h1 : FS σ σ1) (h2 : FS σ1 σ2) : FS σ σ2 := ⟨fun q a b => (h2.1 q a b).trans (h1.1 q a b), fun j a b => (h2.2 j a b).trans (h1.2 j a b)⟩
theorem CW.of {c w : List Nat} {σ σ' : vS} (h : CW c w σ) (h18 : σ' 97 18 = σ 97 18) (h21 : σ' 97 21 = σ 97 21) (h107 : σ' 107 = σ 107) (h108 : σ' 108 = σ 108) : CW c w σ' := by
  unfold CW
  rw [h18, h21, h107, h108]
  exact h
theorem CW.fg {c w : List Nat} {σ σ' : vS} (h : CW c w σ) (hf : FG σ σ') : CW c w σ' := h.of (hf.2 18 (by omega)) (hf.2 21 (by omega)) (hf.1 107 (by decide)) (hf.1 108 (by decide))
/-- the top goes into the row -/
theorem CW.pop {c u : List Nat} {s : Nat} {σ : vS} (h : CW c (s :: u) σ) (hs : s ≠ 40) : CW (c ++ [20000 + s]) u (vup (vup (vup σ 97 21 (nI u.length)) 107 c.length (wE s)) 97 18 (nI (c.length + 1))) := by
  obtain ⟨h1, h2, h3, h4⟩ := h
  refine ⟨?_, ?_, fun i hi => ?_, fun i hi => ?_⟩
  · rw [vup_same, List.length_append]; rfl
  · rw [vup_ne (by omega), vup_ne (by omega), vup_same]
  · rw [List.length_append] at hi
    have hi2 : i < c.length + 1 := hi
    rw [vup_ne (by omega)]
    by_cases e : i = c.length
    · rw [e, vup_same, rw_new]
      unfold wE
      rw [if_neg hs]
    · rw [vup_ne (by omega), vup_ne (by omega), rw_old (by omega)]
      exact h3 i (by omega)
  · rw [vup_ne (by omega), vup_ne (by omega), vup_ne (by omega)]
    have := h4 (i + 1) (by simp only [List.length_cons]; omega)
    rw [show (s :: u).length - 1 - (i + 1) = u.length - 1 - i by simp only [List.length_cons]; omega] at this
    exact this
theorem CW.top {c u : List Nat} {s : Nat} {σ : vS} (h : CW c (s :: u) σ) : σ 108 u.length = wE s := by
  have := h.2.2.2 0 (by simp only [List.length_cons]; omega)
  exact this

set_option maxRecDepth 100000 in
set_option maxHeartbeats 4000000 in
theorem lp_settle {G : vG} {d : Nat} {σ0 : vS} {r : Nat} {X : List Nat × List Nat} (hd : 1 ≤ d + 1) (hr : r ≤ 6) : ∀ (k : Nat) (c w : List Nat) (hl : Nat) (σ : vS), (CW c w σ ∧ wOK w ∧ c.length + w.length ≤ 96 ∧ w.length = hl ∧ stl r c w = X ∧ FS σ0 σ) → hl < k → V G RX7 cX7_settle none 2 (d + 1) (fun r' σ' => r' = none ∧ (CW X.1 X.2 σ' ∧ FS σ0 σ')) 0 [some (.ref 97), some (.int (nI r))] [] σ := by
  intro k
  induction k with
  | zero => intros; omega
  | succ k ih =>
    intro c w hl σ hh hk
    obtain ⟨hW, hok, h96, hwl, hX, hF⟩ := hh
    have h21 : σ 97 21 = nI hl := by rw [← hwl]; exact hW.2.1
    refine V_aloadn_0 dX7_settle_0 ?_
    refine V_getI dX7_settle_1 fl_X7_234 oM_held ?_
    refine V_topi (y := nI hl) h21 ?_
    refine V_ifN_le (a := hl) dX7_settle_4 82 (by decide) (by omega) (fun h4 => ?_) (fun h4 => ?_)
    · have hw0 : w = [] := List.eq_nil_of_length_eq_zero (by omega)
      have hx2 : X = (c, w) := by rw [← hX, hw0]; rfl
      exact V_vret dX7_settle_82 ⟨rfl, by rw [hx2]; exact hW, hF⟩
    · obtain ⟨s, u, rfl⟩ : ∃ s u, w = s :: u := by
        cases w with
        | nil => simp only [List.length_nil] at hwl; omega
        | cons s u => exact ⟨s, u, rfl⟩
      have hu : hl - 1 = u.length := by simp only [List.length_cons] at hwl; omega
      have hso := hok s List.mem_cons_self
      have hul : c.length + u.length + 1 ≤ 96 := by simp only [List.length_cons] at h96; omega
      have hrk := rk_le (s := s)
      refine V_aloadn_0 dX7_settle_7 ?_
      refine V_getR dX7_settle_8 fl_X7_41 oM_waits ?_
      refine V_aloadn_0 dX7_settle_11 ?_
      refine V_getI dX7_settle_12 fl_X7_234 oM_held ?_
      refine V_topi (y := nI hl) h21 ?_
      refine V_iconst 1 dX7_settle_15 (by decide) ?_
      refine V_isubN (a := hl) (b := 1) dX7_settle_16 (by omega) ?_
      refine V_iald (j := hl - 1) dX7_settle_17 aM_waits (by omega) (by decide) ?_
      refine V_topi (y := wE s) (by rw [hu]; exact hW.top) ?_
      refine V_bipush (-11) dX7_settle_18 (by decide) ?_
      refine V_icmp_eq dX7_settle_20 82 (by decide) (fun h20 => ?_) (fun h20 => ?_)
      · have hs40 : s = 40 := (wE_ok hso).1.mp h20
        have hx2 : X = (c, s :: u) := by rw [← hX, stl_n (fun q => q.1 hs40)]
        exact V_vret dX7_settle_82 ⟨rfl, by rw [hx2]; exact hW, hF⟩
      · have hs40 : s ≠ 40 := fun q => h20 ((wE_ok hso).1.mpr q)
        have ew : wE s = encI (20000 + s) := if_neg hs40
        refine V_aloadn_0 dX7_settle_23 ?_
        refine V_getR dX7_settle_24 fl_X7_41 oM_waits ?_
        refine V_aloadn_0 dX7_settle_27 ?_
        refine V_getI dX7_settle_28 fl_X7_234 oM_held ?_
        refine V_topi (y := nI hl) h21 ?_
        refine V_iconst 1 dX7_settle_31 (by decide) ?_
        refine V_isubN (a := hl) (b := 1) dX7_settle_32 (by omega) ?_
        refine V_iald (j := hl - 1) dX7_settle_33 aM_waits (by omega) (by decide) ?_
        refine V_topi (y := encI (20000 + s)) (by rw [hu, hW.top, ew]) ?_
        refine V_cs1f dX7_settle_34 cs_X7_237 (Nat.le_of_ble_eq_true rfl) (k_M_rank (hso.elim Or.inl (fun q => Or.inr (q.resolve_left hs40)))) ?_
        refine V_iloadn_1 dX7_settle_37 ?_
        refine V_icmpN_lt (a := rk s) (b := r) dX7_settle_38 82 (by decide) (by omega) (by omega) (fun h38 => ?_) (fun h38 => ?_)
        · have hx2 : X = (c, s :: u) := by rw [← hX, stl_n (fun q => by have := q.2; omega)]
          exact V_vret dX7_settle_82 ⟨rfl, by rw [hx2]; exact hW, hF⟩
        · refine V_aloadn_0 dX7_settle_41 ?_
          refine V_dup dX7_settle_42 rfl ?_
          refine V_getI dX7_settle_43 fl_X7_234 oM_held ?_
          refine V_topi (y := nI hl) h21 ?_
          refine V_iconst 1 dX7_settle_46 (by decide) ?_
          refine V_isubN (a := hl) (b := 1) dX7_settle_47 (by omega) ?_
          refine V_putI dX7_settle_48 fp_X7_234 oM_held ?_
          refine V_aloadn_0 dX7_settle_51 ?_
          refine V_getR dX7_settle_52 fl_X7_38 oM_code ?_
          refine V_aloadn_0 dX7_settle_55 ?_
          refine V_getI dX7_settle_56 fl_X7_240 oM_codes ?_
          refine V_topi (y := nI c.length) (by rw [vup_ne (by omega)]; exact hW.1) ?_
          refine V_aloadn_0 dX7_settle_59 ?_
          refine V_getR dX7_settle_60 fl_X7_41 oM_waits ?_
          refine V_aloadn_0 dX7_settle_63 ?_
          refine V_getI dX7_settle_64 fl_X7_234 oM_held ?_
          refine V_topi (y := nI (hl - 1)) vup_same ?_
          refine V_iald (j := hl - 1) dX7_settle_67 aM_waits (by omega) (by decide) ?_
          refine V_topi (y := wE s) (by rw [vup_p (by decide), hu]; exact hW.top) ?_
          refine V_iast (j := c.length) dX7_settle_68 aM_code (by omega) (by decide) ?_
          refine V_aloadn_0 dX7_settle_69 ?_
          refine V_dup dX7_settle_70 rfl ?_
          refine V_getI dX7_settle_71 fl_X7_240 oM_codes ?_
          refine V_topi (y := nI c.length) (by rw [vup_ne (by omega), vup_ne (by omega)]; exact hW.1) ?_
          refine V_iconst 1 dX7_settle_74 (by decide) ?_
          refine V_iaddN (a := c.length) (b := 1) dX7_settle_75 ?_
          refine V_putI dX7_settle_76 fp_X7_240 oM_codes ?_
          refine V_goto dX7_settle_79 0 (by decide) ?_
          have hx2 : stl r (c ++ [20000 + s]) u = X := by rw [← hX, stl_y ⟨hs40, h38⟩]
          rw [hu]
          exact ih (c ++ [20000 + s]) u u.length _ ⟨hW.pop hs40, fun x hx => hok x (List.mem_cons_of_mem _ hx), by simp only [List.length_append, List.length_cons, List.length_nil]; omega, rfl, hx2, hF.tr ⟨fun q a b => by rw [vup_p a, vup_p b, vup_p a], fun j a b => by rw [vup_ne (by omega), vup_ne (by omega), vup_ne (by omega)]⟩⟩ (by omega)

set_option maxRecDepth 100000 in
set_option maxHeartbeats 4000000 in
theorem k_M_settle {G : vG} {σ : vS} {d : Nat} (hd : 1 ≤ d) {c w : List Nat} {r : Nat} (hW : CW c w σ) (hok : wOK w) (h96 : c.length + w.length ≤ 96) (hr : r ≤ 6) : Cr G yX7_settle cX7_settle 2 none d [.ref 97, .int (nI r)] σ none (fun σ' => CW (stl r c w).1 (stl r c w).2 σ' ∧ FS σ σ') := by
  refine Ct.ofV (by decide) (Nat.le_of_ble_eq_true rfl) rfl ?_
  show V G RX7 cX7_settle none 2 d _ 0 [some (.ref 97), some (.int (nI r))] [] _
  obtain ⟨d, rfl⟩ : ∃ e, d = e + 1 := ⟨d - 1, by omega⟩
  exact lp_settle (by omega) hr (w.length + 1) c w w.length σ ⟨hW, hok, h96, rfl, rfl, FS.rf⟩ (by omega)

def cnW (w : List Nat) : Nat → Nat
  | 0 => 0
  | a + 1 => cnW w a + if w.getD (w.length - 1 - a) 0 = 33 then 1 else 0
theorem cn_cons {s : Nat} {u : List Nat} : ∀ a, a ≤ u.length → cnW (s :: u) a = cnW u a := by
  intro a
  induction a with
  | zero => intro _; rfl
  | succ a ih =>
    intro h
    simp only [cnW]
    rw [ih (by omega)]
    have : (s :: u).length - 1 - a = (u.length - 1 - a) + 1 := by simp only [List.length_cons]; omega
    rw [this]
    rfl
theorem cn_all : ∀ w, cnW w w.length = nnW w := by
  intro w
  induction w with
  | nil => rfl
  | cons s u ih =>
    show cnW (s :: u) (u.length + 1) = _
    simp only [cnW]
    rw [cn_cons _ (Nat.le_refl _), ih]
    have : (s :: u).length - 1 - u.length = 0 := by simp only [List.length_cons]; omega
    rw [this]
    by_cases e : s = 33
    · subst e; rw [nn_33]; rfl
    · rw [nn_ne e]
      show nnW u + (if s = 33 then 1 else 0) = nnW u
      rw [if_neg e]; omega
theorem cn_le {w : List Nat} : ∀ a, cnW w a ≤ a := by
  intro a
  induction a with
  | zero => exact Nat.le_refl _
  | succ a ih => simp only [cnW]; split <;> omega

set_option maxRecDepth 100000 in
set_option maxHeartbeats 4000000 in
theorem lp_nots {G : vG} {d : Nat} {σ : vS} {c w : List Nat} (hW : CW c w σ) (hok : wOK w) (h96 : w.length ≤ 96) : ∀ (k : Nat) (a : Nat), (a ≤ w.length) → w.length - a < k → V G RX7 cX7_notsOpen (some .int) 3 d (fun r' σ' => r' = some (.int (nI (nnW w))) ∧ σ' = σ) 4 [some (.ref 97), some (.int (nI (cnW w a))), some (.int (nI a))] [] σ := by
  intro k
  induction k with
  | zero => intros; omega
  | succ k ih =>
    intro a ha hk
    have hcl := cn_le (w := w) a
    refine V_iloadn_2 dX7_notsOpen_4 ?_
    refine V_aloadn_0 dX7_notsOpen_5 ?_
    refine V_getI dX7_notsOpen_6 fl_X7_234 oM_held ?_
    refine V_topi (y := nI w.length) hW.2.1 ?_
    refine V_icmpN_ge (a := a) (b := w.length) dX7_notsOpen_9 37 (by decide) (by omega) (by omega) (fun h9 => ?_) (fun h9 => ?_)
    · refine V_iloadn_1 dX7_notsOpen_37 ?_
      exact V_iret dX7_notsOpen_38 ⟨rN (by rw [← cn_all, show w.length = a by omega]), rfl⟩
    · have hso : w.getD (w.length - 1 - a) 0 = 33 ∨ w.getD (w.length - 1 - a) 0 = 40 ∨ bk (w.getD (w.length - 1 - a) 0) ≠ 0 := hok _ (by rw [List.getD_eq_getElem?_getD, List.getElem?_eq_getElem (show w.length - 1 - a < w.length by omega)]; exact List.getElem_mem _)
      refine V_iloadn_1 dX7_notsOpen_12 ?_
      refine V_aloadn_0 dX7_notsOpen_13 ?_
      refine V_getR dX7_notsOpen_14 fl_X7_41 oM_waits ?_
      refine V_iloadn_2 dX7_notsOpen_17 ?_
      refine V_iald (j := a) dX7_notsOpen_18 aM_waits (by omega) (by decide) ?_
      refine V_topi (y := wE (w.getD (w.length - 1 - a) 0)) (by have := hW.2.2.2 (w.length - 1 - a) (by omega); rw [show w.length - 1 - (w.length - 1 - a) = a by omega] at this; exact this) ?_
      refine V_bipush (-10) dX7_notsOpen_19 (by decide) ?_
      refine V_icmp_ne dX7_notsOpen_21 28 (by decide) (fun h21 => ?_) (fun h21 => ?_)
      · refine V_iconst 0 dX7_notsOpen_28 (by decide) ?_
        refine V_iaddN (a := cnW w a) (b := 0) dX7_notsOpen_29 ?_
        refine V_istoren_1 dX7_notsOpen_30 (by first | exact rfl | exact True.intro) (by decide) ?_
        refine V_iinc_2 dX7_notsOpen_31 (by first | exact rfl | exact True.intro) (by decide) (nI (a + 1)) (nI_inc _) ?_
        refine V_goto dX7_notsOpen_34 4 (by decide) ?_
        refine V_lo (lo' := [some (.ref 97), some (.int (nI (cnW w (a + 1)))), some (.int (nI (a + 1)))]) (by simp only [cnW]; rw [if_neg (fun q => h21 ((wE_ok hso).2.mpr q))]) ?_
        exact ih (a + 1) (by omega) (by omega)
      · refine V_iconst 1 dX7_notsOpen_24 (by decide) ?_
        refine V_goto dX7_notsOpen_25 29 (by decide) ?_
        refine V_iaddN (a := cnW w a) (b := 1) dX7_notsOpen_29 ?_
        refine V_istoren_1 dX7_notsOpen_30 (by first | exact rfl | exact True.intro) (by decide) ?_
        refine V_iinc_2 dX7_notsOpen_31 (by first | exact rfl | exact True.intro) (by decide) (nI (a + 1)) (nI_inc _) ?_
        refine V_goto dX7_notsOpen_34 4 (by decide) ?_
        refine V_lo (lo' := [some (.ref 97), some (.int (nI (cnW w (a + 1)))), some (.int (nI (a + 1)))]) (by simp only [cnW]; rw [if_pos ((wE_ok hso).2.mp h21)]) ?_
        exact ih (a + 1) (by omega) (by omega)

set_option maxRecDepth 100000 in
set_option maxHeartbeats 4000000 in
theorem k_M_nots {G : vG} {σ : vS} {d : Nat} {c w : List Nat} (hW : CW c w σ) (hok : wOK w) (h96 : w.length ≤ 96) : Cf G yX7_notsOpen cX7_notsOpen 3 (some .int) d [.ref 97] σ (some (.int (nI (nnW w)))) σ := by
  refine Ct.ofV (by decide) (Nat.le_of_ble_eq_true rfl) rfl ?_
  show V G RX7 cX7_notsOpen (some .int) 3 d _ 0 [some (.ref 97), none, none] [] _
  refine V_iconst 0 dX7_notsOpen_0 (by decide) ?_
  refine V_istoren_1 dX7_notsOpen_1 (by first | exact rfl | exact True.intro) (by decide) ?_
  refine V_iconst 0 dX7_notsOpen_2 (by decide) ?_
  refine V_istoren_2 dX7_notsOpen_3 (by first | exact rfl | exact True.intro) (by decide) ?_
  exact lp_nots hW hok h96 (w.length + 1) 0 (by omega) (by omega)

set_option maxRecDepth 100000 in
set_option maxHeartbeats 4000000 in
theorem k_M_nameOf {G : vG} {σ : vS} {d : Nat} {ky b : Nat} (hky : σ 97 14 = nI ky) (hk2 : ky ≤ 2) (hb : b < 256) : Cf G yX7_nameOf cX7_nameOf 2 (some .int) d [.ref 97, .int (nI b)] σ (some (.int (lwI (nmN ky b)))) σ := by
  refine Ct.ofV (by decide) (Nat.le_of_ble_eq_true rfl) rfl ?_
  show V G RX7 cX7_nameOf (some .int) 2 d _ 0 [some (.ref 97), some (.int (nI b))] [] _
  refine V_aloadn_0 dX7_nameOf_0 ?_
  refine V_getI dX7_nameOf_1 fl_X7_228 oM_key ?_
  refine V_topi (y := nI ky) hky ?_
  by_cases h4_0 : ky = 0
  · refine V_lksV 0 28 32 dX7_nameOf_4 (by decide) (by rw [h4_0]; rfl) (by decide) (by decide) ?_
    refine V_iloadn_1 dX7_nameOf_32 ?_
    refine V_bipush 102 dX7_nameOf_33 (by decide) ?_
    refine V_icmpN_ne (a := b) (b := 102) dX7_nameOf_35 42 (by decide) (by omega) (by omega) (fun h35 => ?_) (fun h35 => ?_)
    · refine V_iloadn_1 dX7_nameOf_42 ?_
      refine V_bipush 108 dX7_nameOf_43 (by decide) ?_
      refine V_icmpN_ne (a := b) (b := 108) dX7_nameOf_45 52 (by decide) (by omega) (by omega) (fun h45 => ?_) (fun h45 => ?_)
      · refine V_iloadn_1 dX7_nameOf_52 ?_
        refine V_bipush 119 dX7_nameOf_53 (by decide) ?_
        refine V_icmpN_ne (a := b) (b := 119) dX7_nameOf_55 62 (by decide) (by omega) (by omega) (fun h55 => ?_) (fun h55 => ?_)
        · refine V_iconst (-1) dX7_nameOf_62 (by decide) ?_
          exact V_iret dX7_nameOf_63 ⟨rI (by rw [h4_0, nm_0, if_neg (by omega), if_neg (by omega), if_neg (by omega)]; rfl), rfl⟩
        · refine V_iconst 2 dX7_nameOf_58 (by decide) ?_
          refine V_goto dX7_nameOf_59 63 (by decide) ?_
          exact V_iret dX7_nameOf_63 ⟨rI (by rw [h4_0, nm_0, if_neg (by omega), if_neg (by omega), if_pos (by omega)]; rfl), rfl⟩
      · refine V_iconst 1 dX7_nameOf_48 (by decide) ?_
        refine V_goto dX7_nameOf_49 63 (by decide) ?_
        exact V_iret dX7_nameOf_63 ⟨rI (by rw [h4_0, nm_0, if_neg (by omega), if_pos (by omega)]; rfl), rfl⟩
    · refine V_iconst 0 dX7_nameOf_38 (by decide) ?_
      refine V_goto dX7_nameOf_39 63 (by decide) ?_
      exact V_iret dX7_nameOf_63 ⟨rI (by rw [h4_0, nm_0, if_pos (by omega)]; rfl), rfl⟩
  by_cases h4_1 : ky = 1
  · refine V_lksV 1 60 64 dX7_nameOf_4 (by decide) (by rw [h4_1]; rfl) (by decide) (by decide) ?_
    refine V_iloadn_1 dX7_nameOf_64 ?_
    refine V_bipush 115 dX7_nameOf_65 (by decide) ?_
    refine V_icmpN_ne (a := b) (b := 115) dX7_nameOf_67 74 (by decide) (by omega) (by omega) (fun h67 => ?_) (fun h67 => ?_)
    · refine V_iloadn_1 dX7_nameOf_74 ?_
      refine V_bipush 104 dX7_nameOf_75 (by decide) ?_
      refine V_icmpN_ne (a := b) (b := 104) dX7_nameOf_77 84 (by decide) (by omega) (by omega) (fun h77 => ?_) (fun h77 => ?_)
      · refine V_iconst (-1) dX7_nameOf_84 (by decide) ?_
        exact V_iret dX7_nameOf_85 ⟨rI (by rw [h4_1, nm_1, if_neg (by omega), if_neg (by omega)]; rfl), rfl⟩
      · refine V_iconst 1 dX7_nameOf_80 (by decide) ?_
        refine V_goto dX7_nameOf_81 85 (by decide) ?_
        exact V_iret dX7_nameOf_85 ⟨rI (by rw [h4_1, nm_1, if_neg (by omega), if_pos (by omega)]; rfl), rfl⟩
    · refine V_iconst 0 dX7_nameOf_70 (by decide) ?_
      refine V_goto dX7_nameOf_71 85 (by decide) ?_
      exact V_iret dX7_nameOf_85 ⟨rI (by rw [h4_1, nm_1, if_pos (by omega)]; rfl), rfl⟩
  refine V_lksD 86 dX7_nameOf_4 (by decide) (by rw [nI_toInt (by omega)]; exact List.forall_mem_cons.mpr ⟨by omega, List.forall_mem_cons.mpr ⟨by omega, (fun _ h => absurd h List.not_mem_nil)⟩⟩) (by decide) ?_
  refine V_iloadn_1 dX7_nameOf_86 ?_
  refine V_bipush 119 dX7_nameOf_87 (by decide) ?_
  refine V_icmpN_ne (a := b) (b := 119) dX7_nameOf_89 96 (by decide) (by omega) (by omega) (fun h89 => ?_) (fun h89 => ?_)
  · refine V_iloadn_1 dX7_nameOf_96 ?_
    refine V_bipush 108 dX7_nameOf_97 (by decide) ?_
    refine V_icmpN_ne (a := b) (b := 108) dX7_nameOf_99 106 (by decide) (by omega) (by omega) (fun h99 => ?_) (fun h99 => ?_)
    · refine V_iconst (-1) dX7_nameOf_106 (by decide) ?_
      exact V_iret dX7_nameOf_107 ⟨rI (by rw [show ky = 2 by omega, nm_2, if_neg (by omega), if_neg (by omega)]; rfl), rfl⟩
    · refine V_iconst 1 dX7_nameOf_102 (by decide) ?_
      refine V_goto dX7_nameOf_103 107 (by decide) ?_
      exact V_iret dX7_nameOf_107 ⟨rI (by rw [show ky = 2 by omega, nm_2, if_neg (by omega), if_pos (by omega)]; rfl), rfl⟩
  · refine V_iconst 0 dX7_nameOf_92 (by decide) ?_
    refine V_goto dX7_nameOf_93 107 (by decide) ?_
    exact V_iret dX7_nameOf_107 ⟨rI (by rw [show ky = 2 by omega, nm_2, if_pos (by omega)]; rfl), rfl⟩

def sgI (tp : Nat → Nat) (n ky k : Nat) : Int32 := if bkT (tkN tp n ky k) ≠ 0 then encI (tkN tp n ky k) else 0
theorem sg_tok {tp : Nat → Nat} {n ky k : Nat} (h : tokN tp n k ≠ 3) : bkT (tkN tp n ky k) = 0 := Classical.byContradiction (fun q => by
  have hp := bk_pos q
  apply h
  unfold tokN
  rw [if_pos hp.1, if_pos hp.2.1])
theorem tok3 {tp : Nat → Nat} {n ky k : Nat} (h : tokN tp n k = 3) : FF tp n k < n ∧ srt (tp (FF tp n k)) = 0 ∧ tkN tp n ky k = 20000 + tp (FF tp n k) := by
  unfold tokN at h
  by_cases hF : FF tp n k < n
  · rw [if_pos hF] at h
    by_cases hs : srt (tp (FF tp n k)) = 0
    · exact ⟨hF, hs, tk_sign hF hs⟩
    · rw [if_neg hs] at h
      repeat' split at h
      all_goals omega
  · rw [if_neg hF] at h
    omega
theorem tok_le {tp : Nat → Nat} {n k : Nat} : tokN tp n k ≤ 4 := by
  unfold tokN
  repeat' split
  all_goals omega

set_option maxRecDepth 100000 in
set_option maxHeartbeats 4000000 in
theorem k_M_signHere {G : vG} {σ : vS} {d : Nat} {tp : Nat → Nat} {n ky k : Nat} (hS : MS tp n k σ) : Cf G yX7_signHere cX7_signHere 1 (some .int) d [.ref 97] σ (some (.int (sgI tp n ky k))) σ := by
  refine Ct.ofV (by decide) (Nat.le_of_ble_eq_true rfl) rfl ?_
  show V G RX7 cX7_signHere (some .int) 1 d _ 0 [some (.ref 97)] [] _
  obtain ⟨hT, m10, m9, m13, m11, m12, m12b⟩ := id hS
  have htl := tok_le (tp := tp) (n := n) (k := k)
  refine V_aloadn_0 dX7_signHere_0 ?_
  refine V_getI dX7_signHere_1 fl_X7_216 oM_token ?_
  refine V_topi (y := nI (tokN tp n k)) m11 ?_
  refine V_iconst 3 dX7_signHere_4 (by decide) ?_
  refine V_icmpN_eq (a := tokN tp n k) (b := 3) dX7_signHere_5 10 (by decide) (by omega) (by omega) (fun h5 => ?_) (fun h5 => ?_)
  · have h3 := tok3 (ky := ky) h5
    have hb := hT.2.2.2 _ h3.1
    refine V_aloadn_0 dX7_signHere_10 ?_
    refine V_getI dX7_signHere_11 fl_X7_222 oM_value ?_
    refine V_topi (y := nI (tp (FF tp n k))) (m12 (Or.inr h5)) ?_
    by_cases h14_38 : tp (FF tp n k) = 38
    · refine V_lksV 38 84 98 dX7_signHere_14 (by decide) (by rw [h14_38]; rfl) (by decide) (by decide) ?_
      have hsg : sgI tp n ky k = -2 := by unfold sgI; rw [h3.2.2, h14_38]; rfl
      refine V_bipush (-2) dX7_signHere_98 (by decide) ?_
      exact V_iret dX7_signHere_100 ⟨rI (by rw [hsg]), rfl⟩
    by_cases h14_42 : tp (FF tp n k) = 42
    · refine V_lksV 42 102 116 dX7_signHere_14 (by decide) (by rw [h14_42]; rfl) (by decide) (by decide) ?_
      have hsg : sgI tp n ky k = -8 := by unfold sgI; rw [h3.2.2, h14_42]; rfl
      refine V_bipush (-8) dX7_signHere_116 (by decide) ?_
      exact V_iret dX7_signHere_118 ⟨rI (by rw [hsg]), rfl⟩
    by_cases h14_43 : tp (FF tp n k) = 43
    · refine V_lksV 43 96 110 dX7_signHere_14 (by decide) (by rw [h14_43]; rfl) (by decide) (by decide) ?_
      have hsg : sgI tp n ky k = -6 := by unfold sgI; rw [h3.2.2, h14_43]; rfl
      refine V_bipush (-6) dX7_signHere_110 (by decide) ?_
      exact V_iret dX7_signHere_112 ⟨rI (by rw [hsg]), rfl⟩
    by_cases h14_45 : tp (FF tp n k) = 45
    · refine V_lksV 45 99 113 dX7_signHere_14 (by decide) (by rw [h14_45]; rfl) (by decide) (by decide) ?_
      have hsg : sgI tp n ky k = -7 := by unfold sgI; rw [h3.2.2, h14_45]; rfl
      refine V_bipush (-7) dX7_signHere_113 (by decide) ?_
      exact V_iret dX7_signHere_115 ⟨rI (by rw [hsg]), rfl⟩
    by_cases h14_47 : tp (FF tp n k) = 47
    · refine V_lksV 47 105 119 dX7_signHere_14 (by decide) (by rw [h14_47]; rfl) (by decide) (by decide) ?_
      have hsg : sgI tp n ky k = -9 := by unfold sgI; rw [h3.2.2, h14_47]; rfl
      refine V_bipush (-9) dX7_signHere_119 (by decide) ?_
      exact V_iret dX7_signHere_121 ⟨rI (by rw [hsg]), rfl⟩
    by_cases h14_60 : tp (FF tp n k) = 60
    · refine V_lksV 60 87 101 dX7_signHere_14 (by decide) (by rw [h14_60]; rfl) (by decide) (by decide) ?_
      have hsg : sgI tp n ky k = -3 := by unfold sgI; rw [h3.2.2, h14_60]; rfl
      refine V_bipush (-3) dX7_signHere_101 (by decide) ?_
      exact V_iret dX7_signHere_103 ⟨rI (by rw [hsg]), rfl⟩
    by_cases h14_61 : tp (FF tp n k) = 61
    · refine V_lksV 61 90 104 dX7_signHere_14 (by decide) (by rw [h14_61]; rfl) (by decide) (by decide) ?_
      have hsg : sgI tp n ky k = -4 := by unfold sgI; rw [h3.2.2, h14_61]; rfl
      refine V_bipush (-4) dX7_signHere_104 (by decide) ?_
      exact V_iret dX7_signHere_106 ⟨rI (by rw [hsg]), rfl⟩
    by_cases h14_62 : tp (FF tp n k) = 62
    · refine V_lksV 62 93 107 dX7_signHere_14 (by decide) (by rw [h14_62]; rfl) (by decide) (by decide) ?_
      have hsg : sgI tp n ky k = -5 := by unfold sgI; rw [h3.2.2, h14_62]; rfl
      refine V_bipush (-5) dX7_signHere_107 (by decide) ?_
      exact V_iret dX7_signHere_109 ⟨rI (by rw [hsg]), rfl⟩
    by_cases h14_124 : tp (FF tp n k) = 124
    · refine V_lksV 124 82 96 dX7_signHere_14 (by decide) (by rw [h14_124]; rfl) (by decide) (by decide) ?_
      have hsg : sgI tp n ky k = -1 := by unfold sgI; rw [h3.2.2, h14_124]; rfl
      refine V_iconst (-1) dX7_signHere_96 (by decide) ?_
      exact V_iret dX7_signHere_97 ⟨rI (by rw [hsg]), rfl⟩
    refine V_lksD 122 dX7_signHere_14 (by decide) (by rw [nI_toInt (by omega)]; exact List.forall_mem_cons.mpr ⟨by omega, List.forall_mem_cons.mpr ⟨by omega, List.forall_mem_cons.mpr ⟨by omega, List.forall_mem_cons.mpr ⟨by omega, List.forall_mem_cons.mpr ⟨by omega, List.forall_mem_cons.mpr ⟨by omega, List.forall_mem_cons.mpr ⟨by omega, List.forall_mem_cons.mpr ⟨by omega, List.forall_mem_cons.mpr ⟨by omega, (fun _ h => absurd h List.not_mem_nil)⟩⟩⟩⟩⟩⟩⟩⟩⟩) (by decide) ?_
    refine V_iconst 0 dX7_signHere_122 (by decide) ?_
    exact V_iret dX7_signHere_123 ⟨rI (by unfold sgI; rw [h3.2.2, bkT_sign, if_neg (fun q => by have := bk_ok q; omega)]), rfl⟩
  · refine V_iconst 0 dX7_signHere_8 (by decide) ?_
    exact V_iret dX7_signHere_9 ⟨rI (by unfold sgI; rw [if_neg (fun q => q (sg_tok h5))]), rfl⟩
