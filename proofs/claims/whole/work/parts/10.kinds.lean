theorem sub_small {a b : Nat} (h : a < b) (hb : b < 2 ^ 31) : nI a - nI b < 0 := by
  rw [Int32.lt_iff_toInt_lt, Int32.toInt_sub, nI_toInt (by omega), nI_toInt hb, Int.bmod_eq_of_le (by omega) (by omega)]
  have e0 : (0 : Int32).toInt = 0 := by decide
  rw [e0]
  omega
theorem max0_sub {a b : Nat} (ha : a < 2 ^ 31) (hb : b < 2 ^ 31) : (if (0 : Int32) < nI a - nI b then nI a - nI b else 0) = nI (a - b) := by
  by_cases h : b ≤ a
  · rw [pk_sub h]
    by_cases h0 : 0 < a - b
    · rw [if_pos ((nI_0lt (by omega)).mpr h0)]
    · rw [if_neg (fun q => h0 ((nI_0lt (by omega)).mp q)), show a - b = 0 by omega]
      rfl
  · have := sub_small (a := a) (b := b) (by omega) hb
    rw [if_neg (fun q => Int32.lt_irrefl (Int32.lt_trans q this)), show a - b = 0 by omega]
    rfl
theorem high3 {k p f : Nat} (h : k = 3) (hp : p ≤ 999) : (if (0 : Int32) < nI (p / 2) - 2 then nI (p / 2) - 2 else 0) = nI (highK k p f) := by
  have := max0_sub (a := p / 2) (b := 2) (by omega) (by decide)
  rw [show highK k p f = p / 2 - 2 by simp [highK, h]]
  exact this
theorem loses4 {k f : Nat} (h : k = 4) (hf : f < 2 ^ 31) : (if (0 : Int32) < nI (f / 20) - 1 then nI (f / 20) - 1 else 0) = nI (losesN k f) := by
  have := max0_sub (a := f / 20) (b := 1) (by omega) (by decide)
  rw [show losesN k f = f / 20 - 1 by simp [losesN, h]]
  exact this
theorem worth4 {k l : Nat} (h : k = 4) : (99 : Int32) - nI l - 8 = worthI k l := by
  rw [show worthI k l = 91 - nI l by simp [worthI, h]]
  grind
set_option maxRecDepth 100000 in
set_option maxHeartbeats 4000000 in
theorem k_isKind {G : vG} {σ : vS} {d : Nat} {x : Int32} : Cf G yX0_isKind cX0_isKind 1 (some .boolean) d [.int x] σ (some (.int (bI (hasI x 6)))) σ := by
  refine Ct.ofV (by decide) (Nat.le_of_ble_eq_true rfl) rfl ?_
  show V G RX0 cX0_isKind (some .boolean) 1 d _ 0 [some (.int x)] [] _
  refine V_iloadn_0 dX0_isKind_0 ?_
  refine V_if_lt dX0_isKind_1 14 (by decide) (fun h1 => ?_) (fun h1 => ?_)
  · refine V_iconst 0 dX0_isKind_14 (by decide) ?_
    exact V_zret dX0_isKind_15 (by decide) ⟨rB0 (fun q => by first | exact absurd h1 q.1 | exact absurd h7 q.2), rfl⟩
  · refine V_iloadn_0 dX0_isKind_4 ?_
    refine V_bipush 6 dX0_isKind_5 (by decide) ?_
    refine V_icmp_ge dX0_isKind_7 14 (by decide) (fun h7 => ?_) (fun h7 => ?_)
    · refine V_iconst 0 dX0_isKind_14 (by decide) ?_
      exact V_zret dX0_isKind_15 (by decide) ⟨rB0 (fun q => by first | exact absurd h1 q.1 | exact absurd h7 q.2), rfl⟩
    · refine V_iconst 1 dX0_isKind_10 (by decide) ?_
      refine V_goto dX0_isKind_11 15 (by decide) ?_
      exact V_zret dX0_isKind_15 (by decide) ⟨rB1 ⟨h1, h7⟩, rfl⟩

set_option maxRecDepth 100000 in
set_option maxHeartbeats 4000000 in
theorem k_high {G : vG} {σ : vS} {d : Nat} (hd : 1 ≤ d) {k p f : Nat} (hk : k ≤ 5) (hp : p ≤ 999) (hf : f < 2 ^ 31) : Cf G yX0_high cX0_high 3 (some .int) d [.int (nI k), .int (nI p), .int (nI f)] σ (some (.int (nI (highK k p f)))) σ := by
  refine Ct.ofV (by decide) (Nat.le_of_ble_eq_true rfl) rfl ?_
  show V G RX0 cX0_high (some .int) 3 d _ 0 [some (.int (nI k)), some (.int (nI p)), some (.int (nI f))] [] _
  obtain ⟨d, rfl⟩ : ∃ e, d = e + 1 := ⟨d - 1, by omega⟩
  refine V_iloadn_0 dX0_high_0 ?_
  by_cases h1_1 : k = 1
  · refine V_tab 1 35 36 dX0_high_1 (by rw [h1_1]; rfl) (by decide) (by decide) (by decide) (by decide) ?_
    refine V_iloadn_1 dX0_high_36 ?_
    refine V_iconst 2 dX0_high_37 (by decide) ?_
    refine V_idivN (a := p) (b := 2) dX0_high_38 (by omega) (by omega) (by omega) ?_
    exact V_iret dX0_high_39 ⟨rN (by simp [highK, h1_1]), rfl⟩
  by_cases h1_2 : k = 2
  · refine V_tab 2 49 50 dX0_high_1 (by rw [h1_2]; rfl) (by decide) (by decide) (by decide) (by decide) ?_
    refine V_iloadn_2 dX0_high_50 ?_
    refine V_ifN_le (a := f) dX0_high_51 60 (by decide) (by omega) (fun h51 => ?_) (fun h51 => ?_)
    · refine V_iloadn_1 dX0_high_60 ?_
      exact V_iret dX0_high_61 ⟨rN (by simp [highK, *]), rfl⟩
    · refine V_iloadn_1 dX0_high_54 ?_
      refine V_iconst 1 dX0_high_55 (by decide) ?_
      refine V_iaddN (a := p) (b := 1) dX0_high_56 ?_
      refine V_goto dX0_high_57 61 (by decide) ?_
      exact V_iret dX0_high_61 ⟨rN (by simp [highK, *]), rfl⟩
  by_cases h1_3 : k = 3
  · refine V_tab 3 39 40 dX0_high_1 (by rw [h1_3]; rfl) (by decide) (by decide) (by decide) (by decide) ?_
    refine V_iconst 0 dX0_high_40 (by decide) ?_
    refine V_iloadn_1 dX0_high_41 ?_
    refine V_iconst 2 dX0_high_42 (by decide) ?_
    refine V_idivN (a := p) (b := 2) dX0_high_43 (by omega) (by omega) (by omega) ?_
    refine V_iconst 2 dX0_high_44 (by decide) ?_
    refine V_isub dX0_high_45 ?_
    refine V_mmax dX0_high_46 ml_X0_17 (Nat.le_of_ble_eq_true rfl) ?_
    exact V_iret dX0_high_49 ⟨rI (high3 h1_3 hp), rfl⟩
  by_cases h1_4 : k = 4
  · refine V_tab 4 49 50 dX0_high_1 (by rw [h1_4]; rfl) (by decide) (by decide) (by decide) (by decide) ?_
    refine V_iloadn_2 dX0_high_50 ?_
    refine V_ifN_le (a := f) dX0_high_51 60 (by decide) (by omega) (fun h51 => ?_) (fun h51 => ?_)
    · refine V_iloadn_1 dX0_high_60 ?_
      exact V_iret dX0_high_61 ⟨rN (by simp [highK, *]), rfl⟩
    · refine V_iloadn_1 dX0_high_54 ?_
      refine V_iconst 1 dX0_high_55 (by decide) ?_
      refine V_iaddN (a := p) (b := 1) dX0_high_56 ?_
      refine V_goto dX0_high_57 61 (by decide) ?_
      exact V_iret dX0_high_61 ⟨rN (by simp [highK, *]), rfl⟩
  by_cases h1_5 : k = 5
  · refine V_tab 5 61 62 dX0_high_1 (by rw [h1_5]; rfl) (by decide) (by decide) (by decide) (by decide) ?_
    refine V_iconst 0 dX0_high_62 (by decide) ?_
    exact V_iret dX0_high_63 ⟨rN (a := 0) (by simp [highK, h1_5]), rfl⟩
  refine V_tabD 64 dX0_high_1 (by rw [nI_toInt (by omega)]; omega) (by decide) ?_
  refine V_iloadn_1 dX0_high_64 ?_
  exact V_iret dX0_high_65 ⟨rN (by simp [highK, *]), rfl⟩

set_option maxRecDepth 100000 in
set_option maxHeartbeats 4000000 in
theorem k_loses {G : vG} {σ : vS} {d : Nat} (hd : 1 ≤ d) {k f : Nat} (hk : k ≤ 5) (hf : f < 2 ^ 31) : Cf G yX0_loses cX0_loses 2 (some .int) d [.int (nI k), .int (nI f)] σ (some (.int (nI (losesN k f)))) σ := by
  refine Ct.ofV (by decide) (Nat.le_of_ble_eq_true rfl) rfl ?_
  show V G RX0 cX0_loses (some .int) 2 d _ 0 [some (.int (nI k)), some (.int (nI f))] [] _
  obtain ⟨d, rfl⟩ : ∃ e, d = e + 1 := ⟨d - 1, by omega⟩
  refine V_iloadn_0 dX0_loses_0 ?_
  by_cases h1_2 : k = 2
  · refine V_lksV 2 27 28 dX0_loses_1 (by decide) (by rw [h1_2]; rfl) (by decide) (by decide) ?_
    refine V_iloadn_1 dX0_loses_28 ?_
    refine V_bipush 20 dX0_loses_29 (by decide) ?_
    refine V_idivN (a := f) (b := 20) dX0_loses_31 (by omega) (by omega) (by omega) ?_
    exact V_iret dX0_loses_32 ⟨rN (by simp [losesN, h1_2]), rfl⟩
  by_cases h1_4 : k = 4
  · refine V_lksV 4 32 33 dX0_loses_1 (by decide) (by rw [h1_4]; rfl) (by decide) (by decide) ?_
    refine V_iconst 0 dX0_loses_33 (by decide) ?_
    refine V_iloadn_1 dX0_loses_34 ?_
    refine V_bipush 20 dX0_loses_35 (by decide) ?_
    refine V_idivN (a := f) (b := 20) dX0_loses_37 (by omega) (by omega) (by omega) ?_
    refine V_iconst 1 dX0_loses_38 (by decide) ?_
    refine V_isub dX0_loses_39 ?_
    refine V_mmax dX0_loses_40 ml_X0_17 (Nat.le_of_ble_eq_true rfl) ?_
    exact V_iret dX0_loses_43 ⟨rI (loses4 h1_4 hf), rfl⟩
  refine V_lksD 44 dX0_loses_1 (by decide) (by rw [nI_toInt (by omega)]; exact List.forall_mem_cons.mpr ⟨by omega, List.forall_mem_cons.mpr ⟨by omega, (fun _ h => absurd h List.not_mem_nil)⟩⟩) (by decide) ?_
  refine V_iconst 0 dX0_loses_44 (by decide) ?_
  exact V_iret dX0_loses_45 ⟨rN (a := 0) (by simp [losesN, h1_2, h1_4]), rfl⟩

set_option maxRecDepth 100000 in
set_option maxHeartbeats 4000000 in
theorem k_takesIn {G : vG} {σ : vS} {d : Nat} {k f : Nat} (hk : k ≤ 5) (hf : f < 2 ^ 31) : Cf G yX0_takesIn cX0_takesIn 2 (some .int) d [.int (nI k), .int (nI f)] σ (some (.int (nI (takesN k f)))) σ := by
  refine Ct.ofV (by decide) (Nat.le_of_ble_eq_true rfl) rfl ?_
  show V G RX0 cX0_takesIn (some .int) 2 d _ 0 [some (.int (nI k)), some (.int (nI f))] [] _
  refine V_iloadn_0 dX0_takesIn_0 ?_
  by_cases h1_3 : k = 3
  · refine V_lksV 3 27 28 dX0_takesIn_1 (by decide) (by rw [h1_3]; rfl) (by decide) (by decide) ?_
    refine V_iloadn_1 dX0_takesIn_28 ?_
    refine V_iconst 2 dX0_takesIn_29 (by decide) ?_
    refine V_idivN (a := f) (b := 2) dX0_takesIn_30 (by omega) (by omega) (by omega) ?_
    exact V_iret dX0_takesIn_31 ⟨rN (by simp [takesN, h1_3]), rfl⟩
  by_cases h1_5 : k = 5
  · refine V_lksV 5 31 32 dX0_takesIn_1 (by decide) (by rw [h1_5]; rfl) (by decide) (by decide) ?_
    refine V_iconst 0 dX0_takesIn_32 (by decide) ?_
    exact V_iret dX0_takesIn_33 ⟨rN (a := 0) (by simp [takesN, h1_5]), rfl⟩
  refine V_lksD 34 dX0_takesIn_1 (by decide) (by rw [nI_toInt (by omega)]; exact List.forall_mem_cons.mpr ⟨by omega, List.forall_mem_cons.mpr ⟨by omega, (fun _ h => absurd h List.not_mem_nil)⟩⟩) (by decide) ?_
  refine V_iloadn_1 dX0_takesIn_34 ?_
  exact V_iret dX0_takesIn_35 ⟨rN (by simp [takesN, h1_3, h1_5]), rfl⟩

set_option maxRecDepth 100000 in
set_option maxHeartbeats 4000000 in
theorem k_worth {G : vG} {σ : vS} {d : Nat} {k l : Nat} (hk : k ≤ 5) (hl : l ≤ 99) : Cf G yX0_worth cX0_worth 2 (some .int) d [.int (nI k), .int (nI l)] σ (some (.int (worthI k l))) σ := by
  refine Ct.ofV (by decide) (Nat.le_of_ble_eq_true rfl) rfl ?_
  show V G RX0 cX0_worth (some .int) 2 d _ 0 [some (.int (nI k)), some (.int (nI l))] [] _
  refine V_iloadn_0 dX0_worth_0 ?_
  by_cases h1_1 : k = 1
  · refine V_tab 1 35 36 dX0_worth_1 (by rw [h1_1]; rfl) (by decide) (by decide) (by decide) (by decide) ?_
    refine V_iloadn_1 dX0_worth_36 ?_
    refine V_bipush 6 dX0_worth_37 (by decide) ?_
    refine V_iaddN (a := l) (b := 6) dX0_worth_39 ?_
    exact V_iret dX0_worth_40 ⟨rI (by simp [worthI, h1_1]), rfl⟩
  by_cases h1_2 : k = 2
  · refine V_tab 2 47 48 dX0_worth_1 (by rw [h1_2]; rfl) (by decide) (by decide) (by decide) (by decide) ?_
    refine V_bipush 99 dX0_worth_48 (by decide) ?_
    refine V_iloadn_1 dX0_worth_50 ?_
    refine V_isub dX0_worth_51 ?_
    exact V_iret dX0_worth_52 ⟨rI (by simp [worthI, h1_2]), rfl⟩
  by_cases h1_3 : k = 3
  · refine V_tab 3 40 41 dX0_worth_1 (by rw [h1_3]; rfl) (by decide) (by decide) (by decide) (by decide) ?_
    refine V_iconst 2 dX0_worth_41 (by decide) ?_
    refine V_iloadn_1 dX0_worth_42 ?_
    refine V_bipush 6 dX0_worth_43 (by decide) ?_
    refine V_iaddN (a := l) (b := 6) dX0_worth_45 ?_
    refine V_imulN (a := 2) (b := l + 6) dX0_worth_46 ?_
    exact V_iret dX0_worth_47 ⟨rI (by simp [worthI, h1_3]), rfl⟩
  by_cases h1_4 : k = 4
  · refine V_tab 4 52 53 dX0_worth_1 (by rw [h1_4]; rfl) (by decide) (by decide) (by decide) (by decide) ?_
    refine V_bipush 99 dX0_worth_53 (by decide) ?_
    refine V_iloadn_1 dX0_worth_55 ?_
    refine V_isub dX0_worth_56 ?_
    refine V_bipush 8 dX0_worth_57 (by decide) ?_
    refine V_isub dX0_worth_59 ?_
    exact V_iret dX0_worth_60 ⟨rI (worth4 h1_4), rfl⟩
  by_cases h1_5 : k = 5
  · refine V_tab 5 60 61 dX0_worth_1 (by rw [h1_5]; rfl) (by decide) (by decide) (by decide) (by decide) ?_
    refine V_iconst 3 dX0_worth_61 (by decide) ?_
    exact V_iret dX0_worth_62 ⟨rI (by simp [worthI, h1_5]), rfl⟩
  refine V_tabD 63 dX0_worth_1 (by rw [nI_toInt (by omega)]; omega) (by decide) ?_
  refine V_iloadn_1 dX0_worth_63 ?_
  exact V_iret dX0_worth_64 ⟨rI (by simp [worthI, h1_1, h1_2, h1_3, h1_4, h1_5]), rfl⟩
