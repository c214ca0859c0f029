/-! ===== laws: the stack ===== -/
def stkL (f : Nat → Int32) : Nat → List Int32
  | 0 => []
  | k + 1 => f k :: stkL f k
theorem stkL_congr {f g : Nat → Int32} : ∀ k, (∀ j, j < k → f j = g j) → stkL f k = stkL g k := by
  intro k
  induction k with
  | zero => intro _; rfl
  | succ k ih =>
    intro h
    simp only [stkL]
    rw [h k (by omega), ih (fun j hj => h j (by omega))]
theorem stk_push {σ : vS} {p k : Nat} {v : Int32} : stkL (vup σ p k v p) (k + 1) = v :: stkL (σ p) k := by
  simp only [stkL]
  rw [vup_same, stkL_congr k (fun j hj => vup_ne (by omega))]
theorem stk_1 {f : Nat → Int32} {k : Nat} (h : 0 < k) : stkL f k = f (k - 1) :: stkL f (k - 1) := by
  cases k with
  | zero => omega
  | succ k => rfl
theorem stk_2 {f : Nat → Int32} {k : Nat} (h : 1 < k) : stkL f k = f (k - 1) :: f (k - 1 - 1) :: stkL f (k - 1 - 1) := by
  rw [stk_1 (by omega), stk_1 (k := k - 1) (by omega)]
theorem stk_put {σ : vS} {p k : Nat} {v : Int32} (h : 0 < k) : stkL (vup σ p (k - 1) v p) k = v :: stkL (σ p) (k - 1) := by
  have := stk_push (σ := σ) (p := p) (k := k - 1) (v := v)
  rw [show k - 1 + 1 = k by omega] at this
  exact this
theorem stepE_num {a b c : Int32} {r : Nat} {s : List Int32} (h : r < 10000) : stepE a b c r s = nI r :: s := by
  simp only [stepE]
  rw [if_pos h]
theorem stepE_nm {a b c v : Int32} {r : Nat} {s : List Int32} (h1 : 10000 ≤ r) (h2 : r < 20000) (hv : (if r = 10000 then a else if r = 10001 then b else c) = v) : stepE a b c r s = v :: s := by
  simp only [stepE]
  rw [if_neg (by omega), if_pos h2, hv]
theorem stepE_not {a b c x : Int32} {r : Nat} {s : List Int32} (h : r = 20033) : stepE a b c r (x :: s) = bI (x = 0) :: s := by
  simp only [stepE]
  rw [if_neg (by omega), if_neg (by omega), if_pos h]
theorem stepE_two {a b c x y : Int32} {r : Nat} {s : List Int32} (h1 : 20000 ≤ r) (h2 : r ≠ 20033) : stepE a b c r (y :: x :: s) = joinI (r - 20000) x y :: s := by
  simp only [stepE]
  rw [if_neg (by omega), if_neg (by omega), if_neg h2]
theorem depE_le (row : Nat → Nat) : ∀ i, depE row i ≤ i := by
  intro i
  induction i with
  | zero => exact Nat.le_refl _
  | succ i ih =>
    simp only [depE]
    split
    · omega
    · split <;> omega
theorem Lwp.ne {w : Nat} (h : Lwp w) : w ≠ 60 ∧ w + 1 ≠ 60 := by
  rcases h with h | ⟨i, hi, h⟩ <;> omega

set_option maxRecDepth 100000 in
set_option maxHeartbeats 4000000 in
theorem k_joined {G : vG} {σ : vS} {d : Nat} {s : Nat} {x y : Int32} (hs : s < 2 ^ 31) : Cf G yX1_joined cX1_joined 3 (some .int) d [.int (nI s), .int x, .int y] σ (some (.int (joinI s x y))) σ := by
  refine Ct.ofV (by decide) (Nat.le_of_ble_eq_true rfl) rfl ?_
  show V G RX1 cX1_joined (some .int) 3 d _ 0 [some (.int (nI s)), some (.int x), some (.int y)] [] _
  refine V_iloadn_0 dX1_joined_0 ?_
  by_cases h1_38 : s = 38
  · refine V_lksV 38 89 90 dX1_joined_1 (by decide) (by rw [h1_38]; rfl) (by decide) (by decide) ?_
    refine V_iloadn_1 dX1_joined_90 ?_
    refine V_if_eq dX1_joined_91 102 (by decide) (fun h91 => ?_) (fun h91 => ?_)
    · refine V_iconst 0 dX1_joined_102 (by decide) ?_
      exact V_iret dX1_joined_103 ⟨rI (by simp [joinI, bI, Int32.not_lt, Int32.not_le, *]), rfl⟩
    · refine V_iloadn_2 dX1_joined_94 ?_
      refine V_if_eq dX1_joined_95 102 (by decide) (fun h95 => ?_) (fun h95 => ?_)
      · refine V_iconst 0 dX1_joined_102 (by decide) ?_
        exact V_iret dX1_joined_103 ⟨rI (by simp [joinI, bI, Int32.not_lt, Int32.not_le, *]), rfl⟩
      · refine V_iconst 1 dX1_joined_98 (by decide) ?_
        refine V_goto dX1_joined_99 103 (by decide) ?_
        exact V_iret dX1_joined_103 ⟨rI (by simp [joinI, bI, Int32.not_lt, Int32.not_le, *]), rfl⟩
  by_cases h1_42 : s = 42
  · refine V_lksV 42 144 145 dX1_joined_1 (by decide) (by rw [h1_42]; rfl) (by decide) (by decide) ?_
    refine V_iloadn_1 dX1_joined_145 ?_
    refine V_iloadn_2 dX1_joined_146 ?_
    refine V_imul dX1_joined_147 ?_
    exact V_iret dX1_joined_148 ⟨rI (by simp [joinI, bI, Int32.not_lt, Int32.not_le, *]), rfl⟩
  by_cases h1_43 : s = 43
  · refine V_lksV 43 136 137 dX1_joined_1 (by decide) (by rw [h1_43]; rfl) (by decide) (by decide) ?_
    refine V_iloadn_1 dX1_joined_137 ?_
    refine V_iloadn_2 dX1_joined_138 ?_
    refine V_iadd dX1_joined_139 ?_
    exact V_iret dX1_joined_140 ⟨rI (by simp [joinI, bI, Int32.not_lt, Int32.not_le, *]), rfl⟩
  by_cases h1_45 : s = 45
  · refine V_lksV 45 140 141 dX1_joined_1 (by decide) (by rw [h1_45]; rfl) (by decide) (by decide) ?_
    refine V_iloadn_1 dX1_joined_141 ?_
    refine V_iloadn_2 dX1_joined_142 ?_
    refine V_isub dX1_joined_143 ?_
    exact V_iret dX1_joined_144 ⟨rI (by simp [joinI, bI, Int32.not_lt, Int32.not_le, *]), rfl⟩
  by_cases h1_60 : s = 60
  · refine V_lksV 60 103 104 dX1_joined_1 (by decide) (by rw [h1_60]; rfl) (by decide) (by decide) ?_
    refine V_iloadn_1 dX1_joined_104 ?_
    refine V_iloadn_2 dX1_joined_105 ?_
    refine V_icmp_ge dX1_joined_106 113 (by decide) (fun h106 => ?_) (fun h106 => ?_)
    · refine V_iconst 0 dX1_joined_113 (by decide) ?_
      exact V_iret dX1_joined_114 ⟨rI (by simp [joinI, bI, Int32.not_lt, Int32.not_le, *]), rfl⟩
    · refine V_iconst 1 dX1_joined_109 (by decide) ?_
      refine V_goto dX1_joined_110 114 (by decide) ?_
      exact V_iret dX1_joined_114 ⟨rI (by simp [joinI, bI, Int32.not_lt, Int32.not_le, *]), rfl⟩
  by_cases h1_61 : s = 61
  · refine V_lksV 61 114 115 dX1_joined_1 (by decide) (by rw [h1_61]; rfl) (by decide) (by decide) ?_
    refine V_iloadn_1 dX1_joined_115 ?_
    refine V_iloadn_2 dX1_joined_116 ?_
    refine V_icmp_ne dX1_joined_117 124 (by decide) (fun h117 => ?_) (fun h117 => ?_)
    · refine V_iconst 0 dX1_joined_124 (by decide) ?_
      exact V_iret dX1_joined_125 ⟨rI (by simp [joinI, bI, Int32.not_lt, Int32.not_le, *]), rfl⟩
    · refine V_iconst 1 dX1_joined_120 (by decide) ?_
      refine V_goto dX1_joined_121 125 (by decide) ?_
      exact V_iret dX1_joined_125 ⟨rI (by simp [joinI, bI, Int32.not_lt, Int32.not_le, *]), rfl⟩
  by_cases h1_62 : s = 62
  · refine V_lksV 62 125 126 dX1_joined_1 (by decide) (by rw [h1_62]; rfl) (by decide) (by decide) ?_
    refine V_iloadn_1 dX1_joined_126 ?_
    refine V_iloadn_2 dX1_joined_127 ?_
    refine V_icmp_le dX1_joined_128 135 (by decide) (fun h128 => ?_) (fun h128 => ?_)
    · refine V_iconst 0 dX1_joined_135 (by decide) ?_
      exact V_iret dX1_joined_136 ⟨rI (by simp [joinI, bI, Int32.not_lt, Int32.not_le, *]), rfl⟩
    · refine V_iconst 1 dX1_joined_131 (by decide) ?_
      refine V_goto dX1_joined_132 136 (by decide) ?_
      exact V_iret dX1_joined_136 ⟨rI (by simp [joinI, bI, Int32.not_lt, Int32.not_le, *]), rfl⟩
  by_cases h1_124 : s = 124
  · refine V_lksV 124 75 76 dX1_joined_1 (by decide) (by rw [h1_124]; rfl) (by decide) (by decide) ?_
    refine V_iloadn_1 dX1_joined_76 ?_
    refine V_if_ne dX1_joined_77 84 (by decide) (fun h77 => ?_) (fun h77 => ?_)
    · refine V_iconst 1 dX1_joined_84 (by decide) ?_
      refine V_goto dX1_joined_85 89 (by decide) ?_
      exact V_iret dX1_joined_89 ⟨rI (by simp [joinI, bI, Int32.not_lt, Int32.not_le, *]), rfl⟩
    · refine V_iloadn_2 dX1_joined_80 ?_
      refine V_if_eq dX1_joined_81 88 (by decide) (fun h81 => ?_) (fun h81 => ?_)
      · refine V_iconst 0 dX1_joined_88 (by decide) ?_
        exact V_iret dX1_joined_89 ⟨rI (by simp [joinI, bI, Int32.not_lt, Int32.not_le, *]), rfl⟩
      · refine V_iconst 1 dX1_joined_84 (by decide) ?_
        refine V_goto dX1_joined_85 89 (by decide) ?_
        exact V_iret dX1_joined_89 ⟨rI (by simp [joinI, bI, Int32.not_lt, Int32.not_le, *]), rfl⟩
  refine V_lksD 149 dX1_joined_1 (by decide) (by rw [nI_toInt (by omega)]; exact List.forall_mem_cons.mpr ⟨by omega, List.forall_mem_cons.mpr ⟨by omega, List.forall_mem_cons.mpr ⟨by omega, List.forall_mem_cons.mpr ⟨by omega, List.forall_mem_cons.mpr ⟨by omega, List.forall_mem_cons.mpr ⟨by omega, List.forall_mem_cons.mpr ⟨by omega, List.forall_mem_cons.mpr ⟨by omega, (fun _ h => absurd h List.not_mem_nil)⟩⟩⟩⟩⟩⟩⟩⟩) (by decide) ?_
  refine V_iloadn_2 dX1_joined_149 ?_
  refine V_if_ne dX1_joined_150 157 (by decide) (fun h150 => ?_) (fun h150 => ?_)
  · refine V_iloadn_1 dX1_joined_157 ?_
    refine V_iloadn_2 dX1_joined_158 ?_
    refine V_idiv dX1_joined_159 (by assumption) ?_
    exact V_iret dX1_joined_160 ⟨rI (by simp [joinI, bI, Int32.not_lt, Int32.not_le, *]), rfl⟩
  · refine V_iconst 0 dX1_joined_153 (by decide) ?_
    refine V_goto dX1_joined_154 160 (by decide) ?_
    exact V_iret dX1_joined_160 ⟨rI (by simp [joinI, bI, Int32.not_lt, Int32.not_le, *]), rfl⟩

set_option maxRecDepth 100000 in
set_option maxHeartbeats 4000000 in
theorem lp_give {G : vG} {d : Nat} {σ0 : vS} {w n : Nat} {row : Nat → Nat} {a b c : Int32} (hw : Lwp w) (hsz : σ0 w 2 = nI n) (hr : ∀ i, i < n → σ0 (w + 1) i = nI (row i)) (hwf : wfE row n) : ∀ (k : Nat) (i : Nat) (σ : vS), i ≤ n ∧ (∀ q, q ≠ 60 → σ q = σ0 q) ∧ runE a b c row i = stkL (σ 60) (depE row i) → n - i < k → V G RX1 cX1_give (some .int) 8 (d + 1) (fun r' σ' => r' = some (.int ((runE a b c row n).headD 0)) ∧ ∀ q, q ≠ 60 → σ' q = σ0 q) 6 [some (.ref w), some (.int a), some (.int b), some (.int c), some (.ref 60), some (.int (nI (depE row i))), some (.int (nI i)), none] [] σ := by
  intro k
  induction k with
  | zero => intros; omega
  | succ k ih =>
    intro i σ hh hk
    obtain ⟨hi, hq, hinv⟩ := hh
    have hn96 := hwf.1
    have hdl := depE_le row i
    have hne := hw.ne
    refine V_iload_6 dX1_give_6 ?_
    refine V_aloadn_0 dX1_give_8 ?_
    refine V_getI dX1_give_9 fl_X1_22 (oW_size hw) ?_
    refine V_topi (y := nI n) (by rw [hq w hne.1]; exact hsz) ?_
    refine V_icmpN_ge (a := i) (b := n) dX1_give_12 178 (by decide) (by omega) (by omega) (fun h12 => ?_) (fun h12 => ?_)
    · refine V_iload_5 dX1_give_178 ?_
      refine V_ifN_le (a := depE row i) dX1_give_180 190 (by decide) (by omega) (fun h180 => ?_) (fun h180 => ?_)
      · exfalso
        have := hwf.2.2
        have : i = n := by omega
        subst this
        omega
      · refine V_aload_4 dX1_give_183 ?_
        refine V_iconst 0 dX1_give_185 (by decide) ?_
        refine V_iald (j := 0) dX1_give_186 aC_stack (by decide) (by decide) ?_
        refine V_goto dX1_give_187 191 (by decide) ?_
        exact V_iret dX1_give_191 ⟨rI (by
              have e : i = n := by omega
              subst e
              rw [hinv, hwf.2.2]
              rfl), hq⟩
    · have hv := hwf.2.1 i (by omega)
      have hrb : row i ≤ 20124 := by omega
      refine V_iload_5 dX1_give_15 ?_
      refine V_aload_4 dX1_give_17 ?_
      refine V_alen dX1_give_19 aC_stack ?_
      refine V_icmpN_ge (a := depE row i) (b := 96) dX1_give_20 178 (by decide) (by omega) (by omega) (fun h20 => ?_) (fun h20 => ?_)
      · exfalso; omega
      · refine V_aloadn_0 dX1_give_23 ?_
        refine V_getR dX1_give_24 fl_X1_9 (oW_row hw) ?_
        refine V_iload_6 dX1_give_27 ?_
        refine V_iald (j := i) dX1_give_29 (aW_row hw) (by omega) (by decide) ?_
        refine V_topi (y := nI (row i)) (by rw [hq (w + 1) hne.2]; exact hr i (by omega)) ?_
        refine V_istore_7 dX1_give_30 (by first | exact rfl | exact True.intro) (by decide) ?_
        refine V_iload_7 dX1_give_32 ?_
        refine V_sipush 10000 dX1_give_34 (by decide) ?_
        refine V_icmpN_ge (a := row i) (b := 10000) dX1_give_37 53 (by decide) (by omega) (by omega) (fun h37 => ?_) (fun h37 => ?_)
        · refine V_iload_7 dX1_give_53 ?_
          refine V_sipush 20000 dX1_give_55 (by decide) ?_
          refine V_icmpN_ge (a := row i) (b := 20000) dX1_give_58 97 (by decide) (by omega) (by omega) (fun h58 => ?_) (fun h58 => ?_)
          · refine V_iload_7 dX1_give_97 ?_
            refine V_sipush 20033 dX1_give_99 (by decide) ?_
            refine V_icmpN_ne (a := row i) (b := 20033) dX1_give_102 135 (by decide) (by omega) (by omega) (fun h102 => ?_) (fun h102 => ?_)
            · refine V_iload_5 dX1_give_135 ?_
              refine V_iconst 1 dX1_give_137 (by decide) ?_
              refine V_icmpN_le (a := depE row i) (b := 1) dX1_give_138 172 (by decide) (by omega) (by omega) (fun h138 => ?_) (fun h138 => ?_)
              · exfalso; omega
              · refine V_iinc_5 dX1_give_141 (by first | exact rfl | exact True.intro) (by decide) (nI ((depE row i) - 1)) (nI_dec (by omega)) ?_
                refine V_aload_4 dX1_give_144 ?_
                refine V_iload_5 dX1_give_146 ?_
                refine V_iconst 1 dX1_give_148 (by decide) ?_
                refine V_isubN (a := (depE row i) - 1) (b := 1) dX1_give_149 (by omega) ?_
                refine V_iload_7 dX1_give_150 ?_
                refine V_sipush 20000 dX1_give_152 (by decide) ?_
                refine V_isubN (a := row i) (b := 20000) dX1_give_155 (by omega) ?_
                refine V_aload_4 dX1_give_156 ?_
                refine V_iload_5 dX1_give_158 ?_
                refine V_iconst 1 dX1_give_160 (by decide) ?_
                refine V_isubN (a := (depE row i) - 1) (b := 1) dX1_give_161 (by omega) ?_
                refine V_iald (j := ((depE row i) - 1) - 1) dX1_give_162 aC_stack (by omega) (by decide) ?_
                refine V_aload_4 dX1_give_163 ?_
                refine V_iload_5 dX1_give_165 ?_
                refine V_iald (j := (depE row i) - 1) dX1_give_167 aC_stack (by omega) (by decide) ?_
                refine V_cs3f dX1_give_168 cs_X1_35 (Nat.le_of_ble_eq_true rfl) (k_joined (by omega)) ?_
                refine V_iast (j := ((depE row i) - 1) - 1) dX1_give_171 aC_stack (by omega) (by decide) ?_
                refine V_iinc_6 dX1_give_172 (by first | exact rfl | exact True.intro) (by decide) (nI (i + 1)) (nI_inc _) ?_
                refine V_goto dX1_give_175 6 (by decide) ?_
                refine V_fg_7 ?_
                have hdep : depE row (i + 1) = (depE row i) - 1 := by
                  simp only [depE]
                  repeat' split
                  all_goals omega
                refine V_lo (lo' := [some (.ref w), some (.int a), some (.int b), some (.int c), some (.ref 60), some (.int (nI (depE row (i + 1)))), some (.int (nI (i + 1))), none]) (by rw [hdep]) ?_
                refine ih (i + 1) _ ⟨by omega, fun q hq9 => ?_, ?_⟩ (by omega)
                · first | exact hq q hq9 | (rw [vup_p hq9]; exact hq q hq9)
                · show stepE a b c (row i) (runE a b c row i) = _
                  rw [hdep, hinv]
                  rw [stk_put (by omega), stk_2 h138, stepE_two h58 h102]
            · refine V_iload_5 dX1_give_105 ?_
              refine V_ifN_le (a := depE row i) dX1_give_107 172 (by decide) (by omega) (fun h107 => ?_) (fun h107 => ?_)
              · exfalso; omega
              · refine V_aload_4 dX1_give_110 ?_
                refine V_iload_5 dX1_give_112 ?_
                refine V_iconst 1 dX1_give_114 (by decide) ?_
                refine V_isubN (a := depE row i) (b := 1) dX1_give_115 (by omega) ?_
                refine V_aload_4 dX1_give_116 ?_
                refine V_iload_5 dX1_give_118 ?_
                refine V_iconst 1 dX1_give_120 (by decide) ?_
                refine V_isubN (a := depE row i) (b := 1) dX1_give_121 (by omega) ?_
                refine V_iald (j := (depE row i) - 1) dX1_give_122 aC_stack (by omega) (by decide) ?_
                refine V_if_ne dX1_give_123 130 (by decide) (fun h123 => ?_) (fun h123 => ?_)
                · refine V_iconst 0 dX1_give_130 (by decide) ?_
                  refine V_iast (j := (depE row i) - 1) dX1_give_131 aC_stack (by omega) (by decide) ?_
                  refine V_goto dX1_give_132 172 (by decide) ?_
                  refine V_iinc_6 dX1_give_172 (by first | exact rfl | exact True.intro) (by decide) (nI (i + 1)) (nI_inc _) ?_
                  refine V_goto dX1_give_175 6 (by decide) ?_
                  refine V_fg_7 ?_
                  have hdep : depE row (i + 1) = depE row i := by
                    simp only [depE]
                    repeat' split
                    all_goals omega
                  refine V_lo (lo' := [some (.ref w), some (.int a), some (.int b), some (.int c), some (.ref 60), some (.int (nI (depE row (i + 1)))), some (.int (nI (i + 1))), none]) (by rw [hdep]) ?_
                  refine ih (i + 1) _ ⟨by omega, fun q hq9 => ?_, ?_⟩ (by omega)
                  · first | exact hq q hq9 | (rw [vup_p hq9]; exact hq q hq9)
                  · show stepE a b c (row i) (runE a b c row i) = _
                    rw [hdep, hinv]
                    rw [stk_put h107, stk_1 h107, stepE_not h102]
                    first | rw [bI_t h123] | rw [bI_f h123]
                · refine V_iconst 1 dX1_give_126 (by decide) ?_
                  refine V_goto dX1_give_127 131 (by decide) ?_
                  refine V_iast (j := (depE row i) - 1) dX1_give_131 aC_stack (by omega) (by decide) ?_
                  refine V_goto dX1_give_132 172 (by decide) ?_
                  refine V_iinc_6 dX1_give_172 (by first | exact rfl | exact True.intro) (by decide) (nI (i + 1)) (nI_inc _) ?_
                  refine V_goto dX1_give_175 6 (by decide) ?_
                  refine V_fg_7 ?_
                  have hdep : depE row (i + 1) = depE row i := by
                    simp only [depE]
                    repeat' split
                    all_goals omega
                  refine V_lo (lo' := [some (.ref w), some (.int a), some (.int b), some (.int c), some (.ref 60), some (.int (nI (depE row (i + 1)))), some (.int (nI (i + 1))), none]) (by rw [hdep]) ?_
                  refine ih (i + 1) _ ⟨by omega, fun q hq9 => ?_, ?_⟩ (by omega)
                  · first | exact hq q hq9 | (rw [vup_p hq9]; exact hq q hq9)
                  · show stepE a b c (row i) (runE a b c row i) = _
                    rw [hdep, hinv]
                    rw [stk_put h107, stk_1 h107, stepE_not h102]
                    first | rw [bI_t h123] | rw [bI_f h123]
          · refine V_aload_4 dX1_give_61 ?_
            refine V_iload_5 dX1_give_63 ?_
            refine V_iload_7 dX1_give_65 ?_
            refine V_sipush 10000 dX1_give_67 (by decide) ?_
            refine V_icmpN_ne (a := row i) (b := 10000) dX1_give_70 77 (by decide) (by omega) (by omega) (fun h70 => ?_) (fun h70 => ?_)
            · refine V_iload_7 dX1_give_77 ?_
              refine V_sipush 10001 dX1_give_79 (by decide) ?_
              refine V_icmpN_ne (a := row i) (b := 10001) dX1_give_82 89 (by decide) (by omega) (by omega) (fun h82 => ?_) (fun h82 => ?_)
              · refine V_iloadn_3 dX1_give_89 ?_
                refine V_iast (j := depE row i) dX1_give_90 aC_stack (by omega) (by decide) ?_
                refine V_iinc_5 dX1_give_91 (by first | exact rfl | exact True.intro) (by decide) (nI ((depE row i) + 1)) (nI_inc _) ?_
                refine V_goto dX1_give_94 172 (by decide) ?_
                refine V_iinc_6 dX1_give_172 (by first | exact rfl | exact True.intro) (by decide) (nI (i + 1)) (nI_inc _) ?_
                refine V_goto dX1_give_175 6 (by decide) ?_
                refine V_fg_7 ?_
                have hdep : depE row (i + 1) = (depE row i) + 1 := by
                  simp only [depE]
                  repeat' split
                  all_goals omega
                refine V_lo (lo' := [some (.ref w), some (.int a), some (.int b), some (.int c), some (.ref 60), some (.int (nI (depE row (i + 1)))), some (.int (nI (i + 1))), none]) (by rw [hdep]) ?_
                refine ih (i + 1) _ ⟨by omega, fun q hq9 => ?_, ?_⟩ (by omega)
                · first | exact hq q hq9 | (rw [vup_p hq9]; exact hq q hq9)
                · show stepE a b c (row i) (runE a b c row i) = _
                  rw [hdep, hinv]
                  rw [stk_push, stepE_nm h37 h58 (by first | rw [if_pos h70] | rw [if_neg h70, if_pos h82] | rw [if_neg h70, if_neg h82])]
              · refine V_iloadn_2 dX1_give_85 ?_
                refine V_goto dX1_give_86 90 (by decide) ?_
                refine V_iast (j := depE row i) dX1_give_90 aC_stack (by omega) (by decide) ?_
                refine V_iinc_5 dX1_give_91 (by first | exact rfl | exact True.intro) (by decide) (nI ((depE row i) + 1)) (nI_inc _) ?_
                refine V_goto dX1_give_94 172 (by decide) ?_
                refine V_iinc_6 dX1_give_172 (by first | exact rfl | exact True.intro) (by decide) (nI (i + 1)) (nI_inc _) ?_
                refine V_goto dX1_give_175 6 (by decide) ?_
                refine V_fg_7 ?_
                have hdep : depE row (i + 1) = (depE row i) + 1 := by
                  simp only [depE]
                  repeat' split
                  all_goals omega
                refine V_lo (lo' := [some (.ref w), some (.int a), some (.int b), some (.int c), some (.ref 60), some (.int (nI (depE row (i + 1)))), some (.int (nI (i + 1))), none]) (by rw [hdep]) ?_
                refine ih (i + 1) _ ⟨by omega, fun q hq9 => ?_, ?_⟩ (by omega)
                · first | exact hq q hq9 | (rw [vup_p hq9]; exact hq q hq9)
                · show stepE a b c (row i) (runE a b c row i) = _
                  rw [hdep, hinv]
                  rw [stk_push, stepE_nm h37 h58 (by first | rw [if_pos h70] | rw [if_neg h70, if_pos h82] | rw [if_neg h70, if_neg h82])]
            · refine V_iloadn_1 dX1_give_73 ?_
              refine V_goto dX1_give_74 90 (by decide) ?_
              refine V_iast (j := depE row i) dX1_give_90 aC_stack (by omega) (by decide) ?_
              refine V_iinc_5 dX1_give_91 (by first | exact rfl | exact True.intro) (by decide) (nI ((depE row i) + 1)) (nI_inc _) ?_
              refine V_goto dX1_give_94 172 (by decide) ?_
              refine V_iinc_6 dX1_give_172 (by first | exact rfl | exact True.intro) (by decide) (nI (i + 1)) (nI_inc _) ?_
              refine V_goto dX1_give_175 6 (by decide) ?_
              refine V_fg_7 ?_
              have hdep : depE row (i + 1) = (depE row i) + 1 := by
                simp only [depE]
                repeat' split
                all_goals omega
              refine V_lo (lo' := [some (.ref w), some (.int a), some (.int b), some (.int c), some (.ref 60), some (.int (nI (depE row (i + 1)))), some (.int (nI (i + 1))), none]) (by rw [hdep]) ?_
              refine ih (i + 1) _ ⟨by omega, fun q hq9 => ?_, ?_⟩ (by omega)
              · first | exact hq q hq9 | (rw [vup_p hq9]; exact hq q hq9)
              · show stepE a b c (row i) (runE a b c row i) = _
                rw [hdep, hinv]
                rw [stk_push, stepE_nm h37 h58 (by first | rw [if_pos h70] | rw [if_neg h70, if_pos h82] | rw [if_neg h70, if_neg h82])]
        · refine V_aload_4 dX1_give_40 ?_
          refine V_iload_5 dX1_give_42 ?_
          refine V_iload_7 dX1_give_44 ?_
          refine V_iast (j := depE row i) dX1_give_46 aC_stack (by omega) (by decide) ?_
          refine V_iinc_5 dX1_give_47 (by first | exact rfl | exact True.intro) (by decide) (nI ((depE row i) + 1)) (nI_inc _) ?_
          refine V_goto dX1_give_50 172 (by decide) ?_
          refine V_iinc_6 dX1_give_172 (by first | exact rfl | exact True.intro) (by decide) (nI (i + 1)) (nI_inc _) ?_
          refine V_goto dX1_give_175 6 (by decide) ?_
          refine V_fg_7 ?_
          have hdep : depE row (i + 1) = (depE row i) + 1 := by
            simp only [depE]
            repeat' split
            all_goals omega
          refine V_lo (lo' := [some (.ref w), some (.int a), some (.int b), some (.int c), some (.ref 60), some (.int (nI (depE row (i + 1)))), some (.int (nI (i + 1))), none]) (by rw [hdep]) ?_
          refine ih (i + 1) _ ⟨by omega, fun q hq9 => ?_, ?_⟩ (by omega)
          · first | exact hq q hq9 | (rw [vup_p hq9]; exact hq q hq9)
          · show stepE a b c (row i) (runE a b c row i) = _
            rw [hdep, hinv]
            rw [stk_push, stepE_num h37]

set_option maxRecDepth 100000 in
set_option maxHeartbeats 4000000 in
theorem k_give {G : vG} {σ : vS} {d : Nat} (hd : 1 ≤ d) {w n : Nat} {row : Nat → Nat} {a b c : Int32} (hw : Lwp w) (hsz : σ w 2 = nI n) (hr : ∀ i, i < n → σ (w + 1) i = nI (row i)) (hwf : wfE row n) : Cr G yX1_give cX1_give 8 (some .int) d [.ref w, .int a, .int b, .int c, .ref 60] σ (some (.int ((runE a b c row n).headD 0))) (fun σ' => ∀ q, q ≠ 60 → σ' q = σ q) := by
  refine Ct.ofV (by decide) (Nat.le_of_ble_eq_true rfl) rfl ?_
  show V G RX1 cX1_give (some .int) 8 d _ 0 [some (.ref w), some (.int a), some (.int b), some (.int c), some (.ref 60), none, none, none] [] _
  obtain ⟨d, rfl⟩ : ∃ e, d = e + 1 := ⟨d - 1, by omega⟩
  refine V_iconst 0 dX1_give_0 (by decide) ?_
  refine V_istore_5 dX1_give_1 (by first | exact rfl | exact True.intro) (by decide) ?_
  refine V_iconst 0 dX1_give_3 (by decide) ?_
  refine V_istore_6 dX1_give_4 (by first | exact rfl | exact True.intro) (by decide) ?_
  exact lp_give hw hsz hr hwf (n + 1) 0 σ ⟨by omega, fun _ _ => rfl, rfl⟩ (by omega)
