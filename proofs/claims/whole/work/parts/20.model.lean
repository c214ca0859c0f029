/-! ===== the reference's town, in the row 98 ===== -/
def encI (r : Nat) : Int32 := if r < 20000 then nI r else if r = 20124 then -1 else if r = 20038 then -2 else if r = 20060 then -3 else if r = 20061 then -4 else if r = 20062 then -5 else if r = 20043 then -6 else if r = 20045 then -7 else if r = 20042 then -8 else if r = 20047 then -9 else -10
def MA (q : Nat) (T : nT) (σ : vS) : Prop :=
  (σ q 0 = nI (T 0 14) ∧ σ q 1 = nI (T 0 5) ∧ σ q 2 = nI (T 0 10) ∧ σ q 3 = nI (T 0 13) ∧ σ q 4 = nI (T 0 12) ∧ σ q 5 = nI (T 0 11) ∧ σ q 6 = nI (T 0 15)) ∧
  (∀ c, c < T 0 5 → σ q (7 + 6 * c + 0) = nI (T 1 c) ∧ σ q (7 + 6 * c + 1) = nI (T 2 c) ∧ σ q (7 + 6 * c + 2) = nI (T 3 c) ∧ ∀ s, s < 3 → σ q (7 + 6 * c + 3 + s) = nI (T 4 (c * 3 + s))) ∧
  (∀ p, p < T 0 10 → σ q (55 + 4 * p + 0) = nI (T 6 p) ∧ σ q (55 + 4 * p + 1) = nI (T 7 p) ∧ σ q (55 + 4 * p + 2) = nI (T 8 p) ∧ σ q (55 + 4 * p + 3) = nI (T 9 p))
def ML (q : Nat) (L : nT) (n : Nat) (σ : vS) : Prop := ∀ j, j < n → σ q (107 + 2 * j) = nI (1000 * L j 0 + L j 2) ∧ σ q (107 + 2 * j + 1) = nI (L j 1) ∧ ∀ i, i < L j 2 → σ q (135 + 96 * j + i) = encI (L j (3 + i))
/-- the texts that count -/
def KI (L T : nT) : Prop := ∀ k, k < 3 → T 10 k ≤ T 0 15 ∧ (T 10 k ≠ 0 → L (T 10 k - 1) 0 = k) ∧ ∀ j, T 10 k ≤ j → j < T 0 15 → L j 0 ≠ k
def MC (L T : nT) (σ : vS) : Prop := MA 98 T σ ∧ ML 98 L (T 0 15) σ ∧ TI T ∧ LI L (T 0 15) ∧ KI L T
/-- what asking leaves: the facts and the stack may be others; what an hour leaves: the row too, but for its texts -/
def Fh (σ σ' : vS) : Prop := ∀ q, q ≠ 110 → q ≠ 111 → σ' q = σ q
def Fm (σ σ' : vS) : Prop := (∀ q, q ≠ 98 → q ≠ 101 → q ≠ 110 → q ≠ 111 → σ' q = σ q) ∧ ∀ j, 107 ≤ j → σ' 98 j = σ 98 j
theorem Fh.rf {σ : vS} : Fh σ σ := fun _ _ _ => rfl
theorem Fh.tr {σ σ1 σ2 : vS} (h1 : Fh σ σ1) (h2 : Fh σ1 σ2) : Fh σ σ2 := fun q a b => (h2 q a b).trans (h1 q a b)
theorem Fm.rf {σ : vS} : Fm σ σ := ⟨fun _ _ _ _ _ => rfl, fun _ _ => rfl⟩
theorem Fm.tr {σ σ1 σ2 : vS} (h1 : Fm σ σ1) (h2 : Fm σ1 σ2) : Fm σ σ2 := ⟨fun q a b c d => (h2.1 q a b c d).trans (h1.1 q a b c d), fun j h => (h2.2 j h).trans (h1.2 j h)⟩
theorem Fh.m {σ σ1 : vS} (h1 : Fh σ σ1) : Fm σ σ1 := ⟨fun q _ _ c d => h1 q c d, fun j _ => by rw [h1 98 (by decide) (by decide)]⟩
section MAs
variable {q c p s j i : Nat} {T L : nT} {σ σ' : vS}
theorem MA.s0 (h : MA q T σ) : σ q 0 = nI (T 0 14) := h.1.1
theorem MA.s1 (h : MA q T σ) : σ q 1 = nI (T 0 5) := h.1.2.1
theorem MA.s2 (h : MA q T σ) : σ q 2 = nI (T 0 10) := h.1.2.2.1
theorem MA.s3 (h : MA q T σ) : σ q 3 = nI (T 0 13) := h.1.2.2.2.1
theorem MA.s4 (h : MA q T σ) : σ q 4 = nI (T 0 12) := h.1.2.2.2.2.1
theorem MA.s5 (h : MA q T σ) : σ q 5 = nI (T 0 11) := h.1.2.2.2.2.2.1
theorem MA.s6 (h : MA q T σ) : σ q 6 = nI (T 0 15) := h.1.2.2.2.2.2.2
theorem MA.c1 (h : MA q T σ) (hc : c < T 0 5) : σ q (7 + 6 * c + 0) = nI (T 1 c) := (h.2.1 c hc).1
theorem MA.c2 (h : MA q T σ) (hc : c < T 0 5) : σ q (7 + 6 * c + 1) = nI (T 2 c) := (h.2.1 c hc).2.1
theorem MA.c3 (h : MA q T σ) (hc : c < T 0 5) : σ q (7 + 6 * c + 2) = nI (T 3 c) := (h.2.1 c hc).2.2.1
theorem MA.w (h : MA q T σ) (hc : c < T 0 5) (hs : s < 3) : σ q (7 + 6 * c + 3 + s) = nI (T 4 (c * 3 + s)) := (h.2.1 c hc).2.2.2 s hs
theorem MA.p6 (h : MA q T σ) (hp : p < T 0 10) : σ q (55 + 4 * p + 0) = nI (T 6 p) := (h.2.2 p hp).1
theorem MA.p7 (h : MA q T σ) (hp : p < T 0 10) : σ q (55 + 4 * p + 1) = nI (T 7 p) := (h.2.2 p hp).2.1
theorem MA.p8 (h : MA q T σ) (hp : p < T 0 10) : σ q (55 + 4 * p + 2) = nI (T 8 p) := (h.2.2 p hp).2.2.1
theorem MA.p9 (h : MA q T σ) (hp : p < T 0 10) : σ q (55 + 4 * p + 3) = nI (T 9 p) := (h.2.2 p hp).2.2.2
theorem MA.congr (h : MA q T σ) (hq : ∀ j, j < 107 → σ' q j = σ q j) (hn : T 0 5 ≤ 8) (hm : T 0 10 ≤ 13) : MA q T σ' := by
  obtain ⟨a1, a2, a3⟩ := h
  refine ⟨?_, fun c hc => ?_, fun p hp => ?_⟩
  · rw [hq 0 (by decide), hq 1 (by decide), hq 2 (by decide), hq 3 (by decide), hq 4 (by decide), hq 5 (by decide), hq 6 (by decide)]; exact a1
  · obtain ⟨g1, g2, g3, g4⟩ := a2 c hc
    rw [hq (7 + 6 * c + 0) (by omega), hq (7 + 6 * c + 1) (by omega), hq (7 + 6 * c + 2) (by omega)]
    exact ⟨g1, g2, g3, fun s hs => by rw [hq (7 + 6 * c + 3 + s) (by omega)]; exact g4 s hs⟩
  · rw [hq (55 + 4 * p + 0) (by omega), hq (55 + 4 * p + 1) (by omega), hq (55 + 4 * p + 2) (by omega), hq (55 + 4 * p + 3) (by omega)]
    exact a3 p hp
theorem ML.congr {n : Nat} (h : ML q L n σ) (hq : ∀ j, 107 ≤ j → σ' q j = σ q j) : ML q L n σ' := by
  intro j hj
  obtain ⟨g1, g2, g3⟩ := h j hj
  exact ⟨by rw [hq _ (by omega)]; exact g1, by rw [hq _ (by omega)]; exact g2, fun i hi => by rw [hq _ (by omega)]; exact g3 i hi⟩
theorem MC.fh (h : MC L T σ) (hf : Fh σ σ') : MC L T σ' := by
  have e := hf 98 (by decide) (by decide)
  exact ⟨h.1.congr (fun j _ => by rw [e]) h.2.2.1.nc h.2.2.1.np, h.2.1.congr (fun j _ => by rw [e]), h.2.2⟩
theorem MC.next {T' : nT} (h : MC L T σ) (hf : Fm σ σ') (hA : MA 98 T' σ') (hI : TI T') (h15 : T' 0 15 = T 0 15) (h10 : ∀ k, T' 10 k = T 10 k) : MC L T' σ' := by
  refine ⟨hA, by rw [h15]; exact h.2.1.congr hf.2, hI, by rw [h15]; exact h.2.2.2.1, fun k hk => ?_⟩
  rw [h10, h15]
  exact h.2.2.2.2 k hk
end MAs
theorem in_has {x : Int32} {n : Nat} (hn : n < 2 ^ 30) : inI x 0 (nI n - 1) ↔ hasI x n := by
  rcases Nat.eq_zero_or_pos n with e | e
  · subst e
    constructor
    · rintro ⟨h1, h2⟩
      exfalso
      apply h2
      rw [Int32.lt_iff_toInt_lt]
      have e1 : (nI 0 - 1).toInt = -1 := by decide
      have e0 : (0 : Int32).toInt = 0 := by decide
      rw [e1]
      have := mt Int32.lt_iff_toInt_lt.mpr h1
      rw [e0] at this
      omega
    · rintro ⟨h1, h2⟩
      exfalso
      apply h2
      have := Int32.not_lt.mp h1
      exact this
  · have e1 : nI n - 1 = nI (n - 1) := pk_sub (a := n) (b := 1) (by omega)
    rw [e1, inI_iff (by omega), hasI_iff (by omega)]
    constructor
    · rintro ⟨j, h, rfl⟩; exact ⟨j, by omega, rfl⟩
    · rintro ⟨j, h, rfl⟩; exact ⟨j, by omega, rfl⟩
def wiI (v lo hi : Int32) : Int32 := if v < lo then lo else if hi < v then hi else v
theorem wiN {a b : Nat} (ha : a < 2 ^ 31) (hb : b < 2 ^ 31) : wiI (nI a) 0 (nI b) = nI (min a b) := by
  unfold wiI
  rw [if_neg (nI_pos ha)]
  by_cases h : b < a
  · rw [if_pos ((nI_ltI hb ha).mpr h), Nat.min_eq_right (by omega)]
  · rw [if_neg (fun q => h ((nI_ltI hb ha).mp q)), Nat.min_eq_left (by omega)]

set_option maxRecDepth 100000 in
set_option maxHeartbeats 4000000 in
theorem k_M_in {G : vG} {σ : vS} {d : Nat} {v lo hi : Int32} : Cf G yX7_in cX7_in 3 (some .boolean) d [.int v, .int lo, .int hi] σ (some (.int (bI (inI v lo hi)))) σ := by
  refine Ct.ofV (by decide) (Nat.le_of_ble_eq_true rfl) rfl ?_
  show V G RX7 cX7_in (some .boolean) 3 d _ 0 [some (.int v), some (.int lo), some (.int hi)] [] _
  refine V_iloadn_0 dX7_in_0 ?_
  refine V_iloadn_1 dX7_in_1 ?_
  refine V_icmp_lt dX7_in_2 14 (by decide) (fun h2 => ?_) (fun h2 => ?_)
  · refine V_iconst 0 dX7_in_14 (by decide) ?_
    exact V_zret dX7_in_15 (by decide) ⟨rB0 (fun q => by first | exact absurd h2 q.1 | exact absurd h7 q.2), rfl⟩
  · refine V_iloadn_0 dX7_in_5 ?_
    refine V_iloadn_2 dX7_in_6 ?_
    refine V_icmp_gt dX7_in_7 14 (by decide) (fun h7 => ?_) (fun h7 => ?_)
    · refine V_iconst 0 dX7_in_14 (by decide) ?_
      exact V_zret dX7_in_15 (by decide) ⟨rB0 (fun q => by first | exact absurd h2 q.1 | exact absurd h7 q.2), rfl⟩
    · refine V_iconst 1 dX7_in_10 (by decide) ?_
      refine V_goto dX7_in_11 15 (by decide) ?_
      exact V_zret dX7_in_15 (by decide) ⟨rB1 ⟨h2, h7⟩, rfl⟩

set_option maxRecDepth 100000 in
set_option maxHeartbeats 4000000 in
theorem k_M_within {G : vG} {σ : vS} {d : Nat} {v lo hi : Int32} : Cf G yX7_within cX7_within 3 (some .int) d [.int v, .int lo, .int hi] σ (some (.int (wiI v lo hi))) σ := by
  refine Ct.ofV (by decide) (Nat.le_of_ble_eq_true rfl) rfl ?_
  show V G RX7 cX7_within (some .int) 3 d _ 0 [some (.int v), some (.int lo), some (.int hi)] [] _
  refine V_iloadn_0 dX7_within_0 ?_
  refine V_iloadn_1 dX7_within_1 ?_
  refine V_icmp_ge dX7_within_2 9 (by decide) (fun h2 => ?_) (fun h2 => ?_)
  · refine V_iloadn_0 dX7_within_9 ?_
    refine V_iloadn_2 dX7_within_10 ?_
    refine V_icmp_le dX7_within_11 18 (by decide) (fun h11 => ?_) (fun h11 => ?_)
    · refine V_iloadn_0 dX7_within_18 ?_
      exact V_iret dX7_within_19 ⟨rI (by unfold wiI; first | rw [if_pos (Int32.not_le.mp h2)] | rw [if_neg (Int32.not_lt.mpr h2), if_pos (Int32.not_le.mp h11)] | rw [if_neg (Int32.not_lt.mpr h2), if_neg (Int32.not_lt.mpr h11)]), rfl⟩
    · refine V_iloadn_2 dX7_within_14 ?_
      refine V_goto dX7_within_15 19 (by decide) ?_
      exact V_iret dX7_within_19 ⟨rI (by unfold wiI; first | rw [if_pos (Int32.not_le.mp h2)] | rw [if_neg (Int32.not_lt.mpr h2), if_pos (Int32.not_le.mp h11)] | rw [if_neg (Int32.not_lt.mpr h2), if_neg (Int32.not_lt.mpr h11)]), rfl⟩
  · refine V_iloadn_1 dX7_within_5 ?_
    refine V_goto dX7_within_6 19 (by decide) ?_
    exact V_iret dX7_within_19 ⟨rI (by unfold wiI; first | rw [if_pos (Int32.not_le.mp h2)] | rw [if_neg (Int32.not_lt.mpr h2), if_pos (Int32.not_le.mp h11)] | rw [if_neg (Int32.not_lt.mpr h2), if_neg (Int32.not_lt.mpr h11)]), rfl⟩

set_option maxRecDepth 100000 in
set_option maxHeartbeats 4000000 in
theorem k_M_isCellar {G : vG} {σ : vS} {d : Nat} (hd : 1 ≤ d) {L T : nT} (hC : MC L T σ) {x : Int32} : Cf G yX7_isCellar cX7_isCellar 2 (some .boolean) d [.ref 97, .int x] σ (some (.int (bI (hasI x (T 0 5))))) σ := by
  refine Ct.ofV (by decide) (Nat.le_of_ble_eq_true rfl) rfl ?_
  show V G RX7 cX7_isCellar (some .boolean) 2 d _ 0 [some (.ref 97), some (.int x)] [] _
  obtain ⟨d, rfl⟩ : ∃ e, d = e + 1 := ⟨d - 1, by omega⟩
  have hI := hC.2.2.1
  have hn := hI.nc
  have hm := hI.np
  refine V_iloadn_1 dX7_isCellar_0 ?_
  refine V_iconst 0 dX7_isCellar_1 (by decide) ?_
  refine V_aloadn_0 dX7_isCellar_2 ?_
  refine V_getR dX7_isCellar_3 fl_X7_9 oM_now ?_
  refine V_iconst 1 dX7_isCellar_6 (by decide) ?_
  refine V_iald (j := 1) dX7_isCellar_7 aM_now (by decide) (by decide) ?_
  refine V_topi hC.1.s1 ?_
  refine V_iconst 1 dX7_isCellar_8 (by decide) ?_
  refine V_isub dX7_isCellar_9 ?_
  refine V_cs3f dX7_isCellar_10 cs_X7_82 (Nat.le_of_ble_eq_true rfl) k_M_in ?_
  exact V_zret dX7_isCellar_13 (by rcases bI_01 (inI x 0 (nI (T 0 5) - 1)) with h | h <;> rw [h] <;> decide) ⟨rI (bI_iff (in_has (by omega))), rfl⟩

set_option maxRecDepth 100000 in
set_option maxHeartbeats 4000000 in
theorem k_M_isPipe {G : vG} {σ : vS} {d : Nat} (hd : 1 ≤ d) {L T : nT} (hC : MC L T σ) {x : Int32} : Cf G yX7_isPipe cX7_isPipe 2 (some .boolean) d [.ref 97, .int x] σ (some (.int (bI (hasI x (T 0 10))))) σ := by
  refine Ct.ofV (by decide) (Nat.le_of_ble_eq_true rfl) rfl ?_
  show V G RX7 cX7_isPipe (some .boolean) 2 d _ 0 [some (.ref 97), some (.int x)] [] _
  obtain ⟨d, rfl⟩ : ∃ e, d = e + 1 := ⟨d - 1, by omega⟩
  have hI := hC.2.2.1
  have hn := hI.nc
  have hm := hI.np
  refine V_iloadn_1 dX7_isPipe_0 ?_
  refine V_iconst 0 dX7_isPipe_1 (by decide) ?_
  refine V_aloadn_0 dX7_isPipe_2 ?_
  refine V_getR dX7_isPipe_3 fl_X7_9 oM_now ?_
  refine V_iconst 2 dX7_isPipe_6 (by decide) ?_
  refine V_iald (j := 2) dX7_isPipe_7 aM_now (by decide) (by decide) ?_
  refine V_topi hC.1.s2 ?_
  refine V_iconst 1 dX7_isPipe_8 (by decide) ?_
  refine V_isub dX7_isPipe_9 ?_
  refine V_cs3f dX7_isPipe_10 cs_X7_82 (Nat.le_of_ble_eq_true rfl) k_M_in ?_
  exact V_zret dX7_isPipe_13 (by rcases bI_01 (inI x 0 (nI (T 0 10) - 1)) with h | h <;> rw [h] <;> decide) ⟨rI (bI_iff (in_has (by omega))), rfl⟩

set_option maxRecDepth 100000 in
set_option maxHeartbeats 4000000 in
theorem k_M_of {G : vG} {σ : vS} {d : Nat} {c w : Nat} {v : Int32} (hb : 7 + 6 * c + w < 1479) (hv : σ 98 (7 + 6 * c + w) = v) : Cf G yX7_of cX7_of 3 (some .int) d [.ref 97, .int (nI c), .int (nI w)] σ (some (.int v)) σ := by
  refine Ct.ofV (by decide) (Nat.le_of_ble_eq_true rfl) rfl ?_
  show V G RX7 cX7_of (some .int) 3 d _ 0 [some (.ref 97), some (.int (nI c)), some (.int (nI w))] [] _
  refine V_aloadn_0 dX7_of_0 ?_
  refine V_getR dX7_of_1 fl_X7_9 oM_now ?_
  refine V_bipush 7 dX7_of_4 (by decide) ?_
  refine V_bipush 6 dX7_of_6 (by decide) ?_
  refine V_iloadn_1 dX7_of_8 ?_
  refine V_imulN (a := 6) (b := c) dX7_of_9 ?_
  refine V_iaddN (a := 7) (b := 6 * c) dX7_of_10 ?_
  refine V_iloadn_2 dX7_of_11 ?_
  refine V_iaddN (a := 7 + (6 * c)) (b := w) dX7_of_12 ?_
  refine V_iald (j := (7 + (6 * c)) + w) dX7_of_13 aM_now (by omega) (by decide) ?_
  exact V_iret dX7_of_14 ⟨rI hv, rfl⟩

set_option maxRecDepth 100000 in
set_option maxHeartbeats 4000000 in
theorem k_M_at {G : vG} {σ : vS} {d : Nat} {p w : Nat} {v : Int32} (hb : 55 + 4 * p + w < 1479) (hv : σ 98 (55 + 4 * p + w) = v) : Cf G yX7_at cX7_at 3 (some .int) d [.ref 97, .int (nI p), .int (nI w)] σ (some (.int v)) σ := by
  refine Ct.ofV (by decide) (Nat.le_of_ble_eq_true rfl) rfl ?_
  show V G RX7 cX7_at (some .int) 3 d _ 0 [some (.ref 97), some (.int (nI p)), some (.int (nI w))] [] _
  refine V_aloadn_0 dX7_at_0 ?_
  refine V_getR dX7_at_1 fl_X7_9 oM_now ?_
  refine V_bipush 55 dX7_at_4 (by decide) ?_
  refine V_iconst 4 dX7_at_6 (by decide) ?_
  refine V_iloadn_1 dX7_at_7 ?_
  refine V_imulN (a := 4) (b := p) dX7_at_8 ?_
  refine V_iaddN (a := 55) (b := 4 * p) dX7_at_9 ?_
  refine V_iloadn_2 dX7_at_10 ?_
  refine V_iaddN (a := 55 + (4 * p)) (b := w) dX7_at_11 ?_
  refine V_iald (j := (55 + (4 * p)) + w) dX7_at_12 aM_now (by omega) (by decide) ?_
  exact V_iret dX7_at_13 ⟨rI hv, rfl⟩

set_option maxRecDepth 100000 in
set_option maxHeartbeats 4000000 in
theorem k_M_fullOf {G : vG} {σ : vS} {d : Nat} (hd : 1 ≤ d) {L T : nT} (hC : MC L T σ) {c : Nat} (hc : c < T 0 5) : Cf G yX7_fullOf cX7_fullOf 2 (some .int) d [.ref 97, .int (nI c)] σ (some (.int (nI (fullT T c)))) σ := by
  refine Ct.ofV (by decide) (Nat.le_of_ble_eq_true rfl) rfl ?_
  show V G RX7 cX7_fullOf (some .int) 2 d _ 0 [some (.ref 97), some (.int (nI c))] [] _
  obtain ⟨d, rfl⟩ : ∃ e, d = e + 1 := ⟨d - 1, by omega⟩
  have hI := hC.2.2.1
  have hn := hI.nc
  have hm := hI.np
  refine V_aloadn_0 dX7_fullOf_0 ?_
  refine V_iloadn_1 dX7_fullOf_1 ?_
  refine V_iconst 3 dX7_fullOf_2 (by decide) ?_
  refine V_cv2f dX7_fullOf_3 cv_X7_92 rcM (Nat.le_of_ble_eq_true rfl) (k_M_of (c := c) (w := 3) (by omega) (hC.1.w (s := 0) (by omega) (by decide))) ?_
  refine V_aloadn_0 dX7_fullOf_6 ?_
  refine V_iloadn_1 dX7_fullOf_7 ?_
  refine V_iconst 4 dX7_fullOf_8 (by decide) ?_
  refine V_cv2f dX7_fullOf_9 cv_X7_92 rcM (Nat.le_of_ble_eq_true rfl) (k_M_of (c := c) (w := 4) (by omega) (hC.1.w (s := 1) (by omega) (by decide))) ?_
  refine V_iaddN (a := T 4 (c * 3 + 0)) (b := T 4 (c * 3 + 1)) dX7_fullOf_12 ?_
  refine V_aloadn_0 dX7_fullOf_13 ?_
  refine V_iloadn_1 dX7_fullOf_14 ?_
  refine V_iconst 5 dX7_fullOf_15 (by decide) ?_
  refine V_cv2f dX7_fullOf_16 cv_X7_92 rcM (Nat.le_of_ble_eq_true rfl) (k_M_of (c := c) (w := 5) (by omega) (hC.1.w (s := 2) (by omega) (by decide))) ?_
  refine V_iaddN (a := (T 4 (c * 3 + 0)) + (T 4 (c * 3 + 1))) (b := T 4 (c * 3 + 2)) dX7_fullOf_19 ?_
  exact V_iret dX7_fullOf_20 ⟨rfl, rfl⟩

set_option maxRecDepth 100000 in
set_option maxHeartbeats 4000000 in
theorem lp_M_fullOfAll {G : vG} {d : Nat} {σ : vS} {L T : nT} (hC : MC L T σ) (hd : 2 ≤ d + 1) : ∀ (k : Nat) (c : Nat), c ≤ T 0 5 → T 0 5 - c < k → V G RX7 cX7_fullOfAll (some .int) 3 (d + 1) (fun r' σ' => r' = some (.int (nI (sumT T (T 0 5)))) ∧ σ' = σ) 4 [some (.ref 97), some (.int (nI (sumT T c))), some (.int (nI c))] [] σ := by
  intro k
  induction k with
  | zero => intros; omega
  | succ k ih =>
    intro c hc hk
    have hI := hC.2.2.1
    have hn := hI.nc
    have hm := hI.np
    refine V_iloadn_2 dX7_fullOfAll_4 ?_
    refine V_aloadn_0 dX7_fullOfAll_5 ?_
    refine V_getR dX7_fullOfAll_6 fl_X7_9 oM_now ?_
    refine V_iconst 1 dX7_fullOfAll_9 (by decide) ?_
    refine V_iald (j := 1) dX7_fullOfAll_10 aM_now (by decide) (by decide) ?_
    refine V_topi hC.1.s1 ?_
    refine V_icmpN_ge (a := c) (b := T 0 5) dX7_fullOfAll_11 28 (by decide) (by omega) (by omega) (fun h11 => ?_) (fun h11 => ?_)
    · refine V_iloadn_1 dX7_fullOfAll_28 ?_
      exact V_iret dX7_fullOfAll_29 ⟨rN (by rw [show c = T 0 5 by omega]), rfl⟩
    · refine V_iloadn_1 dX7_fullOfAll_14 ?_
      refine V_aloadn_0 dX7_fullOfAll_15 ?_
      refine V_iloadn_2 dX7_fullOfAll_16 ?_
      refine V_cv1f dX7_fullOfAll_17 cv_X7_96 rcM (Nat.le_of_ble_eq_true rfl) (k_M_fullOf (by omega) hC (by omega)) ?_
      refine V_iaddN (a := sumT T c) (b := fullT T c) dX7_fullOfAll_20 ?_
      refine V_istoren_1 dX7_fullOfAll_21 (by first | exact rfl | exact True.intro) (by decide) ?_
      refine V_iinc_2 dX7_fullOfAll_22 (by first | exact rfl | exact True.intro) (by decide) (nI (c + 1)) (nI_inc _) ?_
      refine V_goto dX7_fullOfAll_25 4 (by decide) ?_
      exact ih (c + 1) (by omega) (by omega)

set_option maxRecDepth 100000 in
set_option maxHeartbeats 4000000 in
theorem k_M_fullOfAll {G : vG} {σ : vS} {d : Nat} (hd : 2 ≤ d) {L T : nT} (hC : MC L T σ) : Cf G yX7_fullOfAll cX7_fullOfAll 3 (some .int) d [.ref 97] σ (some (.int (nI (sumT T (T 0 5))))) σ := by
  refine Ct.ofV (by decide) (Nat.le_of_ble_eq_true rfl) rfl ?_
  show V G RX7 cX7_fullOfAll (some .int) 3 d _ 0 [some (.ref 97), none, none] [] _
  obtain ⟨d, rfl⟩ : ∃ e, d = e + 1 := ⟨d - 1, by omega⟩
  have hI := hC.2.2.1
  have hn := hI.nc
  have hm := hI.np
  refine V_iconst 0 dX7_fullOfAll_0 (by decide) ?_
  refine V_istoren_1 dX7_fullOfAll_1 (by first | exact rfl | exact True.intro) (by decide) ?_
  refine V_iconst 0 dX7_fullOfAll_2 (by decide) ?_
  refine V_istoren_2 dX7_fullOfAll_3 (by first | exact rfl | exact True.intro) (by decide) ?_
  exact lp_M_fullOfAll hC (by omega) (T 0 5 + 1) 0 (by omega) (by omega)

set_option maxRecDepth 100000 in
set_option maxHeartbeats 4000000 in
theorem lp_M_corked {G : vG} {d : Nat} {σ : vS} {L T : nT} (hC : MC L T σ) (hd : 1 ≤ d + 1) : ∀ (k : Nat) (p : Nat), p ≤ T 0 10 → T 0 10 - p < k → V G RX7 cX7_corked (some .int) 3 (d + 1) (fun r' σ' => r' = some (.int (nI (ckN T (T 0 10)))) ∧ σ' = σ) 4 [some (.ref 97), some (.int (nI (ckN T p))), some (.int (nI p))] [] σ := by
  intro k
  induction k with
  | zero => intros; omega
  | succ k ih =>
    intro p hp hk
    have hI := hC.2.2.1
    have hn := hI.nc
    have hm := hI.np
    refine V_iloadn_2 dX7_corked_4 ?_
    refine V_aloadn_0 dX7_corked_5 ?_
    refine V_getR dX7_corked_6 fl_X7_9 oM_now ?_
    refine V_iconst 2 dX7_corked_9 (by decide) ?_
    refine V_iald (j := 2) dX7_corked_10 aM_now (by decide) (by decide) ?_
    refine V_topi hC.1.s2 ?_
    refine V_icmpN_ge (a := p) (b := T 0 10) dX7_corked_11 29 (by decide) (by omega) (by omega) (fun h11 => ?_) (fun h11 => ?_)
    · refine V_iloadn_1 dX7_corked_29 ?_
      exact V_iret dX7_corked_30 ⟨rN (by rw [show p = T 0 10 by omega]), rfl⟩
    · refine V_iloadn_1 dX7_corked_14 ?_
      refine V_aloadn_0 dX7_corked_15 ?_
      refine V_iloadn_2 dX7_corked_16 ?_
      refine V_iconst 3 dX7_corked_17 (by decide) ?_
      refine V_cv2f dX7_corked_18 cv_X7_140 rcM (Nat.le_of_ble_eq_true rfl) (k_M_at (p := p) (w := 3) (by omega) (hC.1.p9 (by omega))) ?_
      refine V_iaddN (a := ckN T p) (b := T 9 p) dX7_corked_21 ?_
      refine V_istoren_1 dX7_corked_22 (by first | exact rfl | exact True.intro) (by decide) ?_
      refine V_iinc_2 dX7_corked_23 (by first | exact rfl | exact True.intro) (by decide) (nI (p + 1)) (nI_inc _) ?_
      refine V_goto dX7_corked_26 4 (by decide) ?_
      exact ih (p + 1) (by omega) (by omega)

set_option maxRecDepth 100000 in
set_option maxHeartbeats 4000000 in
theorem k_M_corked {G : vG} {σ : vS} {d : Nat} (hd : 1 ≤ d) {L T : nT} (hC : MC L T σ) : Cf G yX7_corked cX7_corked 3 (some .int) d [.ref 97] σ (some (.int (nI (ckN T (T 0 10))))) σ := by
  refine Ct.ofV (by decide) (Nat.le_of_ble_eq_true rfl) rfl ?_
  show V G RX7 cX7_corked (some .int) 3 d _ 0 [some (.ref 97), none, none] [] _
  obtain ⟨d, rfl⟩ : ∃ e, d = e + 1 := ⟨d - 1, by omega⟩
  have hI := hC.2.2.1
  have hn := hI.nc
  have hm := hI.np
  refine V_iconst 0 dX7_corked_0 (by decide) ?_
  refine V_istoren_1 dX7_corked_1 (by first | exact rfl | exact True.intro) (by decide) ?_
  refine V_iconst 0 dX7_corked_2 (by decide) ?_
  refine V_istoren_2 dX7_corked_3 (by first | exact rfl | exact True.intro) (by decide) ?_
  exact lp_M_corked hC (by omega) (T 0 10 + 1) 0 (by omega) (by omega)

set_option maxRecDepth 100000 in
set_option maxHeartbeats 4000000 in
theorem k_M_losesOf {G : vG} {σ : vS} {d : Nat} (hd : 2 ≤ d) {L T : nT} (hC : MC L T σ) {c : Nat} (hc : c < T 0 5) : Cf G yX7_losesOf cX7_losesOf 3 (some .int) d [.ref 97, .int (nI c)] σ (some (.int (nI (losesN (T 1 c) (fullT T c))))) σ := by
  refine Ct.ofV (by decide) (Nat.le_of_ble_eq_true rfl) rfl ?_
  show V G RX7 cX7_losesOf (some .int) 3 d _ 0 [some (.ref 97), some (.int (nI c)), none] [] _
  obtain ⟨d, rfl⟩ : ∃ e, d = e + 1 := ⟨d - 1, by omega⟩
  have hI := hC.2.2.1
  have hn := hI.nc
  have hm := hI.np
  have hk := (hI.ce hc).1
  have hf := hI.full hc
  refine V_aloadn_0 dX7_losesOf_0 ?_
  refine V_iloadn_1 dX7_losesOf_1 ?_
  refine V_cv1f dX7_losesOf_2 cv_X7_96 rcM (Nat.le_of_ble_eq_true rfl) (k_M_fullOf (by omega) hC (by omega)) ?_
  refine V_bipush 20 dX7_losesOf_5 (by decide) ?_
  refine V_idivN (a := fullT T c) (b := 20) dX7_losesOf_7 (by omega) (by omega) (by omega) ?_
  refine V_istoren_2 dX7_losesOf_8 (by first | exact rfl | exact True.intro) (by decide) ?_
  refine V_aloadn_0 dX7_losesOf_9 ?_
  refine V_iloadn_1 dX7_losesOf_10 ?_
  refine V_iconst 0 dX7_losesOf_11 (by decide) ?_
  refine V_cv2f dX7_losesOf_12 cv_X7_92 rcM (Nat.le_of_ble_eq_true rfl) (k_M_of (c := c) (w := 0) (by omega) (hC.1.c1 (by omega))) ?_
  by_cases h15_2 : T 1 c = 2
  · refine V_lksV 2 25 40 dX7_losesOf_15 (by decide) (by rw [h15_2]; rfl) (by decide) (by decide) ?_
    refine V_iloadn_2 dX7_losesOf_40 ?_
    exact V_iret dX7_losesOf_41 ⟨rN (by simp [losesN, h15_2]), rfl⟩
  by_cases h15_4 : T 1 c = 4
  · refine V_lksV 4 27 42 dX7_losesOf_15 (by decide) (by rw [h15_4]; rfl) (by decide) (by decide) ?_
    refine V_iloadn_2 dX7_losesOf_42 ?_
    refine V_iconst 1 dX7_losesOf_43 (by decide) ?_
    refine V_icmpN_ge (a := (fullT T c) / 20) (b := 1) dX7_losesOf_44 51 (by decide) (by omega) (by omega) (fun h44 => ?_) (fun h44 => ?_)
    · refine V_iloadn_2 dX7_losesOf_51 ?_
      refine V_iconst 1 dX7_losesOf_52 (by decide) ?_
      refine V_isubN (a := (fullT T c) / 20) (b := 1) dX7_losesOf_53 (by omega) ?_
      exact V_iret dX7_losesOf_54 ⟨rN (by simp [losesN, h15_4]; try omega), rfl⟩
    · refine V_iconst 0 dX7_losesOf_47 (by decide) ?_
      refine V_goto dX7_losesOf_48 54 (by decide) ?_
      exact V_iret dX7_losesOf_54 ⟨rN (a := 0) (by simp [losesN, h15_4]; try omega), rfl⟩
  refine V_lksD 55 dX7_losesOf_15 (by decide) (by rw [nI_toInt (by omega)]; exact List.forall_mem_cons.mpr ⟨by omega, List.forall_mem_cons.mpr ⟨by omega, (fun _ h => absurd h List.not_mem_nil)⟩⟩) (by decide) ?_
  refine V_iconst 0 dX7_losesOf_55 (by decide) ?_
  exact V_iret dX7_losesOf_56 ⟨rN (a := 0) (by simp [losesN, h15_2, h15_4]), rfl⟩

set_option maxRecDepth 100000 in
set_option maxHeartbeats 4000000 in
theorem k_M_takesIn {G : vG} {σ : vS} {d : Nat} (hd : 1 ≤ d) {L T : nT} (hC : MC L T σ) {c n : Nat} (hc : c < T 0 5) (hn31 : n < 2 ^ 31) : Cf G yX7_takesIn cX7_takesIn 3 (some .int) d [.ref 97, .int (nI c), .int (nI n)] σ (some (.int (nI (takesN (T 1 c) n)))) σ := by
  refine Ct.ofV (by decide) (Nat.le_of_ble_eq_true rfl) rfl ?_
  show V G RX7 cX7_takesIn (some .int) 3 d _ 0 [some (.ref 97), some (.int (nI c)), some (.int (nI n))] [] _
  obtain ⟨d, rfl⟩ : ∃ e, d = e + 1 := ⟨d - 1, by omega⟩
  have hI := hC.2.2.1
  have hn := hI.nc
  have hm := hI.np
  have hk := (hI.ce hc).1
  refine V_aloadn_0 dX7_takesIn_0 ?_
  refine V_iloadn_1 dX7_takesIn_1 ?_
  refine V_iconst 0 dX7_takesIn_2 (by decide) ?_
  refine V_cv2f dX7_takesIn_3 cv_X7_92 rcM (Nat.le_of_ble_eq_true rfl) (k_M_of (c := c) (w := 0) (by omega) (hC.1.c1 (by omega))) ?_
  refine V_iconst 3 dX7_takesIn_6 (by decide) ?_
  refine V_icmpN_ne (a := T 1 c) (b := 3) dX7_takesIn_7 16 (by decide) (by omega) (by omega) (fun h7 => ?_) (fun h7 => ?_)
  · refine V_aloadn_0 dX7_takesIn_16 ?_
    refine V_iloadn_1 dX7_takesIn_17 ?_
    refine V_iconst 0 dX7_takesIn_18 (by decide) ?_
    refine V_cv2f dX7_takesIn_19 cv_X7_92 rcM (Nat.le_of_ble_eq_true rfl) (k_M_of (c := c) (w := 0) (by omega) (hC.1.c1 (by omega))) ?_
    refine V_iconst 5 dX7_takesIn_22 (by decide) ?_
    refine V_icmpN_ne (a := T 1 c) (b := 5) dX7_takesIn_23 30 (by decide) (by omega) (by omega) (fun h23 => ?_) (fun h23 => ?_)
    · refine V_iloadn_2 dX7_takesIn_30 ?_
      exact V_iret dX7_takesIn_31 ⟨rN (by simp [takesN, h7, h23]), rfl⟩
    · refine V_iconst 0 dX7_takesIn_26 (by decide) ?_
      refine V_goto dX7_takesIn_27 31 (by decide) ?_
      exact V_iret dX7_takesIn_31 ⟨rN (a := 0) (by simp [takesN, h7, h23]), rfl⟩
  · refine V_iloadn_2 dX7_takesIn_10 ?_
    refine V_iconst 2 dX7_takesIn_11 (by decide) ?_
    refine V_idivN (a := n) (b := 2) dX7_takesIn_12 (by omega) (by omega) (by omega) ?_
    refine V_goto dX7_takesIn_13 31 (by decide) ?_
    exact V_iret dX7_takesIn_31 ⟨rN (by simp [takesN, h7]), rfl⟩

set_option maxRecDepth 100000 in
set_option maxHeartbeats 4000000 in
theorem k_M_worthOf {G : vG} {σ : vS} {d : Nat} (hd : 1 ≤ d) {L T : nT} (hC : MC L T σ) {c : Nat} (hc : c < T 0 5) : Cf G yX7_worthOf cX7_worthOf 3 (some .int) d [.ref 97, .int (nI c)] σ (some (.int (worthI (T 1 c) (T 3 c)))) σ := by
  refine Ct.ofV (by decide) (Nat.le_of_ble_eq_true rfl) rfl ?_
  show V G RX7 cX7_worthOf (some .int) 3 d _ 0 [some (.ref 97), some (.int (nI c)), none] [] _
  obtain ⟨d, rfl⟩ : ∃ e, d = e + 1 := ⟨d - 1, by omega⟩
  have hI := hC.2.2.1
  have hn := hI.nc
  have hm := hI.np
  have hk := (hI.ce hc).1
  refine V_aloadn_0 dX7_worthOf_0 ?_
  refine V_iloadn_1 dX7_worthOf_1 ?_
  refine V_iconst 2 dX7_worthOf_2 (by decide) ?_
  refine V_cv2f dX7_worthOf_3 cv_X7_92 rcM (Nat.le_of_ble_eq_true rfl) (k_M_of (c := c) (w := 2) (by omega) (hC.1.c3 (by omega))) ?_
  refine V_istoren_2 dX7_worthOf_6 (by first | exact rfl | exact True.intro) (by decide) ?_
  refine V_aloadn_0 dX7_worthOf_7 ?_
  refine V_iloadn_1 dX7_worthOf_8 ?_
  refine V_iconst 0 dX7_worthOf_9 (by decide) ?_
  refine V_cv2f dX7_worthOf_10 cv_X7_92 rcM (Nat.le_of_ble_eq_true rfl) (k_M_of (c := c) (w := 0) (by omega) (hC.1.c1 (by omega))) ?_
  by_cases h13_1 : T 1 c = 1
  · refine V_tab 1 35 48 dX7_worthOf_13 (by rw [h13_1]; rfl) (by decide) (by decide) (by decide) (by decide) ?_
    refine V_iloadn_2 dX7_worthOf_48 ?_
    refine V_bipush 6 dX7_worthOf_49 (by decide) ?_
    refine V_iaddN (a := T 3 c) (b := 6) dX7_worthOf_51 ?_
    exact V_iret dX7_worthOf_52 ⟨rI (by simp [worthI, *]), rfl⟩
  by_cases h13_2 : T 1 c = 2
  · refine V_tab 2 40 53 dX7_worthOf_13 (by rw [h13_2]; rfl) (by decide) (by decide) (by decide) (by decide) ?_
    refine V_bipush 99 dX7_worthOf_53 (by decide) ?_
    refine V_iloadn_2 dX7_worthOf_55 ?_
    refine V_isub dX7_worthOf_56 ?_
    exact V_iret dX7_worthOf_57 ⟨rI (by simp [worthI, *]), rfl⟩
  by_cases h13_3 : T 1 c = 3
  · refine V_tab 3 45 58 dX7_worthOf_13 (by rw [h13_3]; rfl) (by decide) (by decide) (by decide) (by decide) ?_
    refine V_iconst 2 dX7_worthOf_58 (by decide) ?_
    refine V_iloadn_2 dX7_worthOf_59 ?_
    refine V_bipush 6 dX7_worthOf_60 (by decide) ?_
    refine V_iaddN (a := T 3 c) (b := 6) dX7_worthOf_62 ?_
    refine V_imulN (a := 2) (b := (T 3 c) + 6) dX7_worthOf_63 ?_
    exact V_iret dX7_worthOf_64 ⟨rI (by simp [worthI, *]), rfl⟩
  by_cases h13_4 : T 1 c = 4
  · refine V_tab 4 52 65 dX7_worthOf_13 (by rw [h13_4]; rfl) (by decide) (by decide) (by decide) (by decide) ?_
    refine V_bipush 91 dX7_worthOf_65 (by decide) ?_
    refine V_iloadn_2 dX7_worthOf_67 ?_
    refine V_isub dX7_worthOf_68 ?_
    exact V_iret dX7_worthOf_69 ⟨rI (by simp [worthI, *]), rfl⟩
  by_cases h13_5 : T 1 c = 5
  · refine V_tab 5 57 70 dX7_worthOf_13 (by rw [h13_5]; rfl) (by decide) (by decide) (by decide) (by decide) ?_
    refine V_iconst 3 dX7_worthOf_70 (by decide) ?_
    exact V_iret dX7_worthOf_71 ⟨rI (by simp [worthI, *]), rfl⟩
  refine V_tabD 72 dX7_worthOf_13 (by rw [nI_toInt (by omega)]; omega) (by decide) ?_
  refine V_iloadn_2 dX7_worthOf_72 ?_
  exact V_iret dX7_worthOf_73 ⟨rI (by simp [worthI, *]), rfl⟩

set_option maxRecDepth 100000 in
set_option maxHeartbeats 4000000 in
theorem k_M_isUnder {G : vG} {σ : vS} {d : Nat} {k u : Nat} (hk : k ≤ 5) (hu : u ≤ 5) : Cf G yX7_isUnder cX7_isUnder 2 (some .boolean) d [.int (nI k), .int (nI u)] σ (some (.int (bI (underN k u)))) σ := by
  refine Ct.ofV (by decide) (Nat.le_of_ble_eq_true rfl) rfl ?_
  show V G RX7 cX7_isUnder (some .boolean) 2 d _ 0 [some (.int (nI k)), some (.int (nI u))] [] _
  refine V_iloadn_1 dX7_isUnder_0 ?_
  refine V_ifN_eq (a := u) dX7_isUnder_1 29 (by decide) (by omega) (fun h1 => ?_) (fun h1 => ?_)
  · refine V_iconst 1 dX7_isUnder_29 (by decide) ?_
    refine V_goto dX7_isUnder_30 34 (by decide) ?_
    exact V_zret dX7_isUnder_34 (by decide) ⟨rB1 (by omega), rfl⟩
  · refine V_iloadn_0 dX7_isUnder_4 ?_
    refine V_iloadn_1 dX7_isUnder_5 ?_
    refine V_icmpN_eq (a := k) (b := u) dX7_isUnder_6 29 (by decide) (by omega) (by omega) (fun h6 => ?_) (fun h6 => ?_)
    · refine V_iconst 1 dX7_isUnder_29 (by decide) ?_
      refine V_goto dX7_isUnder_30 34 (by decide) ?_
      exact V_zret dX7_isUnder_34 (by decide) ⟨rB1 (by omega), rfl⟩
    · refine V_iloadn_1 dX7_isUnder_9 ?_
      refine V_iconst 1 dX7_isUnder_10 (by decide) ?_
      refine V_icmpN_ne (a := u) (b := 1) dX7_isUnder_11 19 (by decide) (by omega) (by omega) (fun h11 => ?_) (fun h11 => ?_)
      · refine V_iloadn_1 dX7_isUnder_19 ?_
        refine V_iconst 2 dX7_isUnder_20 (by decide) ?_
        refine V_icmpN_ne (a := u) (b := 2) dX7_isUnder_21 33 (by decide) (by omega) (by omega) (fun h21 => ?_) (fun h21 => ?_)
        · refine V_iconst 0 dX7_isUnder_33 (by decide) ?_
          exact V_zret dX7_isUnder_34 (by decide) ⟨rB0 (by omega), rfl⟩
        · refine V_iloadn_0 dX7_isUnder_24 ?_
          refine V_iconst 4 dX7_isUnder_25 (by decide) ?_
          refine V_icmpN_ne (a := k) (b := 4) dX7_isUnder_26 33 (by decide) (by omega) (by omega) (fun h26 => ?_) (fun h26 => ?_)
          · refine V_iconst 0 dX7_isUnder_33 (by decide) ?_
            exact V_zret dX7_isUnder_34 (by decide) ⟨rB0 (by omega), rfl⟩
          · refine V_iconst 1 dX7_isUnder_29 (by decide) ?_
            refine V_goto dX7_isUnder_30 34 (by decide) ?_
            exact V_zret dX7_isUnder_34 (by decide) ⟨rB1 (by omega), rfl⟩
      · refine V_iloadn_0 dX7_isUnder_14 ?_
        refine V_iconst 3 dX7_isUnder_15 (by decide) ?_
        refine V_icmpN_eq (a := k) (b := 3) dX7_isUnder_16 29 (by decide) (by omega) (by omega) (fun h16 => ?_) (fun h16 => ?_)
        · refine V_iconst 1 dX7_isUnder_29 (by decide) ?_
          refine V_goto dX7_isUnder_30 34 (by decide) ?_
          exact V_zret dX7_isUnder_34 (by decide) ⟨rB1 (by omega), rfl⟩
        · refine V_iloadn_1 dX7_isUnder_19 ?_
          refine V_iconst 2 dX7_isUnder_20 (by decide) ?_
          refine V_icmpN_ne (a := u) (b := 2) dX7_isUnder_21 33 (by decide) (by omega) (by omega) (fun h21 => ?_) (fun h21 => ?_)
          · refine V_iconst 0 dX7_isUnder_33 (by decide) ?_
            exact V_zret dX7_isUnder_34 (by decide) ⟨rB0 (by omega), rfl⟩
          · refine V_iloadn_0 dX7_isUnder_24 ?_
            refine V_iconst 4 dX7_isUnder_25 (by decide) ?_
            refine V_icmpN_ne (a := k) (b := 4) dX7_isUnder_26 33 (by decide) (by omega) (by omega) (fun h26 => ?_) (fun h26 => ?_)
            · refine V_iconst 0 dX7_isUnder_33 (by decide) ?_
              exact V_zret dX7_isUnder_34 (by decide) ⟨rB0 (by omega), rfl⟩
            · refine V_iconst 1 dX7_isUnder_29 (by decide) ?_
              refine V_goto dX7_isUnder_30 34 (by decide) ?_
              exact V_zret dX7_isUnder_34 (by decide) ⟨rB1 (by omega), rfl⟩
