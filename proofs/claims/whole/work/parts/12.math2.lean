/-! ===== what goes: shares, and that nothing is lost ===== -/
section MM
variable {T T' L : nT} {a b c n m s : Nat}
theorem w_le_full (hs : s < 3) : T 4 (a * 3 + s) ≤ fullT T a := by
  unfold fullT
  rcases (show s = 0 ∨ s = 1 ∨ s = 2 by omega) with rfl | rfl | rfl
  · rw [Nat.add_zero]; omega
  · omega
  · omega
theorem sh_le (hn : n ≤ fullT T a) : shT T a n s ≤ T 4 (a * 3 + s) := by
  unfold shT
  rcases Nat.eq_zero_or_pos (fullT T a) with h | h
  · rw [h, Nat.div_zero]; exact Nat.zero_le _
  · apply Nat.div_le_of_le_mul
    rw [Nat.mul_comm (fullT T a)]
    exact Nat.mul_le_mul_left _ hn
theorem sh_sum : shT T a n 0 + shT T a n 1 + shT T a n 2 ≤ n := by
  rcases Nat.eq_zero_or_pos (fullT T a) with h | h
  · simp [shT, h]
  · have h0 : shT T a n 0 * fullT T a ≤ T 4 (a * 3 + 0) * n := Nat.div_mul_le_self _ _
    have h1 : shT T a n 1 * fullT T a ≤ T 4 (a * 3 + 1) * n := Nat.div_mul_le_self _ _
    have h2 : shT T a n 2 * fullT T a ≤ T 4 (a * 3 + 2) * n := Nat.div_mul_le_self _ _
    have h3 : (shT T a n 0 + shT T a n 1 + shT T a n 2) * fullT T a ≤ n * fullT T a := by
      have e : n * fullT T a = T 4 (a * 3 + 0) * n + T 4 (a * 3 + 1) * n + T 4 (a * 3 + 2) * n := by
        unfold fullT
        rw [Nat.mul_add, Nat.mul_add, Nat.mul_comm n, Nat.mul_comm n, Nat.mul_comm n]
        rfl
      rw [e, Nat.add_mul, Nat.add_mul]
      omega
    exact Nat.le_of_mul_le_mul_right h3 h
theorem go_le (hn : n ≤ fullT T a) : goT T a n s ≤ T 4 (a * 3 + s) := by
  have := sh_le (s := s) hn
  unfold goT
  omega
theorem go_sum (hn : n ≤ fullT T a) : goT T a n 0 + goT T a n 1 + goT T a n 2 = n := by
  have h0 := sh_le (s := 0) hn
  have h1 := sh_le (s := 1) hn
  have h2 := sh_le (s := 2) hn
  have h3 := sh_sum (T := T) (a := a) (n := n)
  have hf : n ≤ T 4 (a * 3 + 0) + T 4 (a * 3 + 1) + T 4 (a * 3 + 2) := hn
  simp only [goT, lkT]
  omega
theorem go_zero : goT T a 0 s = 0 := by
  have h : ∀ s, lkT T a 0 s = 0 := by
    intro s
    induction s with
    | zero => simp [lkT, shT]
    | succ s ih => simp [lkT, ih]
  simp [goT, shT, h]
theorem drain_zero : drainT T a 0 = T := by
  funext k i
  unfold drainT
  split
  · rename_i h
    rw [go_zero, h.1]
    rfl
  · rfl
theorem lead_zero : leadT T a 0 b = T := by
  funext k i
  unfold leadT
  split
  · rename_i h
    rw [go_zero, h.1]
    rfl
  · rw [drain_zero]
theorem spill_zero : spillT T a 0 = T := by
  unfold spillT
  rw [drain_zero]
  funext k i
  unfold Tup
  split
  · rename_i h; rw [h.1, h.2]; rfl
  · rfl
theorem drain_at (hs : s < 3) : drainT T a n 4 (a * 3 + s) = T 4 (a * 3 + s) - goT T a n s := by
  unfold drainT
  rw [if_pos ⟨rfl, by omega, by omega⟩, show a * 3 + s - a * 3 = s by omega]
theorem drain_off {i : Nat} (h : ¬ (a * 3 ≤ i ∧ i < a * 3 + 3)) : drainT T a n 4 i = T 4 i := by
  unfold drainT
  rw [if_neg (fun q => h q.2)]
theorem drain_k {k i : Nat} (h : k ≠ 4) : drainT T a n k i = T k i := by
  unfold drainT
  rw [if_neg (fun q => h q.1)]
theorem lead_k {k i : Nat} (h : k ≠ 4) : leadT T a n b k i = T k i := by
  unfold leadT
  rw [if_neg (fun q => h q.1), drain_k h]
theorem lead_to (hab : a ≠ b) (hs : s < 3) : leadT T a n b 4 (b * 3 + s) = T 4 (b * 3 + s) + goT T a n s := by
  unfold leadT
  rw [if_pos ⟨rfl, by omega, by omega⟩, show b * 3 + s - b * 3 = s by omega]
theorem lead_from (hab : a ≠ b) (hs : s < 3) : leadT T a n b 4 (a * 3 + s) = T 4 (a * 3 + s) - goT T a n s := by
  unfold leadT
  rw [if_neg (fun q => by omega), drain_at hs]
theorem lead_off {i : Nat} (h : ¬ (a * 3 ≤ i ∧ i < a * 3 + 3)) (h2 : ¬ (b * 3 ≤ i ∧ i < b * 3 + 3)) : leadT T a n b 4 i = T 4 i := by
  unfold leadT
  rw [if_neg (fun q => h2 q.2), drain_off h]
theorem full_eq (h : ∀ s, s < 3 → T' 4 (c * 3 + s) = T 4 (c * 3 + s)) : fullT T' c = fullT T c := by
  have h0 := h 0 (by decide)
  have h1 := h 1 (by decide)
  have h2 := h 2 (by decide)
  rw [Nat.add_zero] at h0
  unfold fullT
  rw [h0, h1, h2]
theorem drain_full (hn : n ≤ fullT T a) : fullT (drainT T a n) a + n = fullT T a := by
  have h0 := drain_at (T := T) (a := a) (n := n) (s := 0) (by decide)
  have h1 := drain_at (T := T) (a := a) (n := n) (s := 1) (by decide)
  have h2 := drain_at (T := T) (a := a) (n := n) (s := 2) (by decide)
  have g0 := go_le (s := 0) hn
  have g1 := go_le (s := 1) hn
  have g2 := go_le (s := 2) hn
  have g := go_sum hn
  rw [Nat.add_zero] at h0 g0
  unfold fullT
  rw [h0, h1, h2]
  omega
theorem drain_full_ne (hc : c ≠ a) : fullT (drainT T a n) c = fullT T c := full_eq (fun s hs => drain_off (by omega))
theorem lead_full_a (hab : a ≠ b) (hn : n ≤ fullT T a) : fullT (leadT T a n b) a + n = fullT T a := by
  have e : fullT (leadT T a n b) a = fullT (drainT T a n) a := full_eq (fun s hs => by rw [lead_from hab hs, drain_at hs])
  rw [e]
  exact drain_full hn
theorem lead_full_b (hab : a ≠ b) (hn : n ≤ fullT T a) : fullT (leadT T a n b) b = fullT T b + n := by
  have h0 := lead_to (T := T) (n := n) hab (s := 0) (by decide)
  have h1 := lead_to (T := T) (n := n) hab (s := 1) (by decide)
  have h2 := lead_to (T := T) (n := n) hab (s := 2) (by decide)
  have g := go_sum hn
  rw [Nat.add_zero] at h0
  unfold fullT
  rw [h0, h1, h2]
  omega
theorem lead_full_ne (hc : c ≠ a) (hd : c ≠ b) : fullT (leadT T a n b) c = fullT T c := full_eq (fun s hs => lead_off (by omega) (by omega))
theorem sum_eq : ∀ m, (∀ c, c < m → fullT T' c = fullT T c) → sumT T' m = sumT T m := by
  intro m
  induction m with
  | zero => intro _; rfl
  | succ m ih =>
    intro h
    simp only [sumT]
    rw [ih (fun c hc => h c (by omega)), h m (by omega)]
theorem sum_less (hf : fullT T' a + n = fullT T a) (ho : ∀ c, c ≠ a → fullT T' c = fullT T c) : ∀ m, sumT T' m + (if a < m then n else 0) = sumT T m := by
  intro m
  induction m with
  | zero => rfl
  | succ m ih =>
    simp only [sumT]
    by_cases h : m = a
    · subst h
      rw [if_neg (by omega)] at ih
      rw [if_pos (by omega)]
      omega
    · rw [ho m h]
      by_cases h2 : a < m
      · rw [if_pos h2] at ih
        rw [if_pos (by omega)]
        omega
      · rw [if_neg h2] at ih
        rw [if_neg (by omega)]
        omega
theorem drain_sum (hn : n ≤ fullT T a) (ha : a < m) : sumT (drainT T a n) m + n = sumT T m := by
  have := sum_less (T := T) (T' := drainT T a n) (drain_full hn) (fun c hc => drain_full_ne hc) m
  rw [if_pos ha] at this
  exact this
theorem lead_sum (hab : a ≠ b) (hn : n ≤ fullT T a) (ha : a < m) (hb : b < m) : sumT (leadT T a n b) m = sumT T m := by
  have h1 := drain_sum hn ha
  have h2 := sum_less (T := leadT T a n b) (T' := drainT T a n) (a := b) (n := n) (by rw [lead_full_b hab hn, drain_full_ne (fun e => hab e.symm)]) (fun c hc => by
    by_cases h : c = a
    · subst h
      exact full_eq (fun s hs => by rw [lead_from hab hs, drain_at hs])
    · rw [drain_full_ne h, lead_full_ne h hc]) m
  rw [if_pos hb] at h2
  omega
/-- what an hour leaves as it is -/
def fixT (T T' : nT) : Prop := ∀ k i, k ≠ 4 → ¬ (k = 0 ∧ (i = 11 ∨ i = 13 ∨ i = 14)) → T' k i = T k i
theorem fixT.rf : fixT T T := fun _ _ _ _ => rfl
theorem fixT.tr {T2 : nT} (h1 : fixT T T') (h2 : fixT T' T2) : fixT T T2 := fun k i a b => (h2 k i a b).trans (h1 k i a b)
theorem TI.of (h : TI T) (hf : fixT T T') (hs : sumT T' (T 0 5) + T' 0 11 ≤ sumT T (T 0 5) + T 0 11) (hz : T' 0 14 < 2 ^ 32) : TI T' := by
  obtain ⟨i1, i2, i3, i4, i5, i6, i7, i8, i9⟩ := h
  have e5 : T' 0 5 = T 0 5 := hf 0 5 (by decide) (by omega)
  have e10 : T' 0 10 = T 0 10 := hf 0 10 (by decide) (by omega)
  have e12 : T' 0 12 = T 0 12 := hf 0 12 (by decide) (by omega)
  have e15 : T' 0 15 = T 0 15 := hf 0 15 (by decide) (by omega)
  refine ⟨by rw [e5]; exact i1, by rw [e10]; exact i2, fun c hc => ?_, fun p hp => ?_, by rw [e5]; omega, by rw [e12]; exact i6, hz, by rw [e15]; exact i8, fun k hk => ?_⟩
  · rw [e5] at hc
    rw [hf 1 c (by decide) (by omega), hf 2 c (by decide) (by omega), hf 3 c (by decide) (by omega)]
    exact i3 c hc
  · rw [e10] at hp
    rw [hf 6 p (by decide) (by omega), hf 7 p (by decide) (by omega), hf 8 p (by decide) (by omega), hf 9 p (by decide) (by omega), e5]
    exact i4 p hp
  · rw [hf 10 k (by decide) (by omega), e15]
    exact i9 k hk
theorem fix_drain : fixT T (drainT T a n) := fun k i h _ => drain_k h
theorem fix_lead : fixT T (leadT T a n b) := fun k i h _ => lead_k h
theorem fix_spill : fixT T (spillT T a n) := fun k i h h2 => by
  unfold spillT
  rw [Tup_ne (by omega)]
  exact drain_k h
theorem TI.lead (h : TI T) (ha : a < T 0 5) (hb : b < T 0 5) (hab : a ≠ b) (hn : n ≤ fullT T a) : TI (leadT T a n b) :=
  h.of fix_lead (by rw [lead_sum hab hn ha hb, lead_k (by decide)]; exact Nat.le_refl _) (by rw [lead_k (by decide)]; exact h.z)
theorem TI.drain (h : TI T) (ha : a < T 0 5) (hn : n ≤ fullT T a) : TI (drainT T a n) :=
  h.of fix_drain (by have := drain_sum hn ha; rw [drain_k (by decide)]; omega) (by rw [drain_k (by decide)]; exact h.z)
theorem spill_full : fullT (spillT T a n) c = fullT (drainT T a n) c := full_eq (fun s _ => by unfold spillT; rw [Tup_ne (by omega)])
theorem TI.spill (h : TI T) (ha : a < T 0 5) (hn : n ≤ fullT T a) : TI (spillT T a n) := by
  refine h.of fix_spill ?_ ?_
  · have h1 := drain_sum hn ha
    rw [sum_eq (T' := spillT T a n) (T := drainT T a n) _ (fun c _ => spill_full)]
    have : spillT T a n 0 11 = T 0 11 + n := by unfold spillT; rw [Tup_same]
    omega
  · unfold spillT
    rw [Tup_ne (by omega), drain_k (by decide)]
    exact h.z
theorem loses_le {k f : Nat} : losesN k f ≤ f := by
  unfold losesN
  split
  · omega
  · split <;> omega
theorem TI.flow (h : TI T) {p : Nat} (hp : p < T 0 10) : TI (flowT L p T) := by
  unfold flowT
  split
  · exact h
  · obtain ⟨q1, q2, q3, -⟩ := up_ok (L := L) h hp
    exact h.lead q1 q2 q3 (runsT_lt h hp)
theorem fix_flow {p : Nat} : fixT T (flowT L p T) := by
  unfold flowT
  split
  · exact fixT.rf
  · exact fix_lead
theorem TI.lose (h : TI T) (hc : c < T 0 5) : TI (loseT c T) := h.spill hc loses_le
theorem fix_lose : fixT T (loseT c T) := fix_spill
theorem TI.over (h : TI T) (hc : c < T 0 5) : TI (overT L c T) := by
  unfold overT
  split
  · exact h.spill hc (Nat.min_le_right _ _)
  · exact h
theorem fix_over : fixT T (overT L c T) := by
  unfold overT
  split
  · exact fix_spill
  · exact fixT.rf
theorem zN_lt (z : Nat) : zN z < 2 ^ 32 := Nat.mod_lt _ (by decide)
theorem fix_z (x : Nat) : fixT T (Tup T 0 14 x) := fun k i _ h => Tup_ne (by omega)
theorem z_full (x : Nat) : fullT (Tup T 0 14 x) c = fullT T c := full_eq (fun s _ => Tup_ne (by omega))
theorem TI.zz (h : TI T) {x : Nat} (hx : x < 2 ^ 32) : TI (Tup T 0 14 x) :=
  h.of (fix_z x) (by rw [sum_eq _ (fun c _ => z_full x), Tup_ne (by omega)]; exact Nat.le_refl _) (by rw [Tup_same]; exact hx)
theorem TI.drink (h : TI T) : TI (drinkT T) := by
  unfold drinkT
  split
  · rename_i hh
    refine (h.zz (zN_lt _)).drain ?_ ?_
    · rw [Tup_ne (by omega)]
      exact Nat.mod_lt _ hh.2
    · rw [z_full]
      exact Nat.min_le_right _ _
  · exact h.zz (zN_lt _)
theorem fix_drink : fixT T (drinkT T) := by
  unfold drinkT
  split
  · exact (fix_z _).tr fix_drain
  · exact fix_z _
theorem fix_tick : fixT T (tickT T) := fun k i _ h => Tup_ne (by omega)
theorem TI.tick (h : TI T) : TI (tickT T) :=
  h.of fix_tick (by rw [sum_eq (T' := tickT T) (T := T) _ (fun c _ => full_eq (fun s _ => Tup_ne (by omega)))]; unfold tickT; rw [Tup_ne (by omega)]; exact Nat.le_refl _) (by unfold tickT; rw [Tup_ne (by omega)]; exact h.z)
theorem TI.it {f : Nat → nT → nT} (hf : ∀ k T, TI T → k < m → T 0 5 = n → T 0 10 = s → TI (f k T)) (hx : ∀ k T, fixT T (f k T)) : ∀ k T, TI T → T 0 5 = n → T 0 10 = s → k ≤ m → TI (itT f k T) ∧ fixT T (itT f k T) := by
  intro k
  induction k with
  | zero => intro T h _ _ _; exact ⟨h, fixT.rf⟩
  | succ k ih =>
    intro T h h5 h10 hk
    obtain ⟨g1, g2⟩ := ih T h h5 h10 (by omega)
    refine ⟨hf k _ g1 (by omega) ?_ ?_, g2.tr (hx k _)⟩
    · rw [g2 0 5 (by decide) (by omega)]; exact h5
    · rw [g2 0 10 (by decide) (by omega)]; exact h10
theorem it_flow (h : TI T) {k : Nat} (hk : k ≤ T 0 10) : TI (itT (flowT L) k T) ∧ fixT T (itT (flowT L) k T) :=
  TI.it (m := T 0 10) (n := T 0 5) (s := T 0 10) (fun k T' h' hk _ h10 => h'.flow (by omega)) (fun _ _ => fix_flow) k T h rfl rfl hk
theorem it_lose (h : TI T) {k : Nat} (hk : k ≤ T 0 5) : TI (itT loseT k T) ∧ fixT T (itT loseT k T) :=
  TI.it (m := T 0 5) (n := T 0 5) (s := T 0 10) (fun k T' h' hk h5 _ => h'.lose (by omega)) (fun _ _ => fix_lose) k T h rfl rfl hk
theorem it_over (h : TI T) {k : Nat} (hk : k ≤ T 0 5) : TI (itT (overT L) k T) ∧ fixT T (itT (overT L) k T) :=
  TI.it (m := T 0 5) (n := T 0 5) (s := T 0 10) (fun k T' h' hk h5 _ => h'.over (by omega)) (fun _ _ => fix_over) k T h rfl rfl hk
theorem TI.hour (h : TI T) : TI (hourT L T) ∧ fixT T (hourT L T) := by
  obtain ⟨a1, f1⟩ := it_flow (L := L) h (Nat.le_refl _)
  have e1 : itT (flowT L) (T 0 10) T 0 5 = T 0 5 := f1 0 5 (by decide) (by omega)
  obtain ⟨a2, f2⟩ := it_lose (k := T 0 5) a1 (by rw [e1]; exact Nat.le_refl _)
  have e2 : itT loseT (T 0 5) (itT (flowT L) (T 0 10) T) 0 5 = T 0 5 := (f2 0 5 (by decide) (by omega)).trans e1
  obtain ⟨a3, f3⟩ := it_over (L := L) (k := T 0 5) a2 (by rw [e2]; exact Nat.le_refl _)
  exact ⟨a3.drink.tick, (((f1.tr f2).tr f3).tr fix_drink).tr fix_tick⟩
theorem TI.hours (h : TI T) : ∀ k, TI (hoursT L k T) ∧ fixT T (hoursT L k T) := by
  intro k
  induction k with
  | zero => exact ⟨h, fixT.rf⟩
  | succ k ih => exact ⟨ih.1.hour.1, ih.2.tr ih.1.hour.2⟩
end MM
/-! the heights of other cellars -/
theorem high_eq {L T T' : nT} {c : Nat} (h1 : T' 1 c = T 1 c) (h3 : T' 3 c = T 3 c) (h10 : T' 10 0 = T 10 0) (h4 : ∀ s, s < 3 → T' 4 (c * 3 + s) = T 4 (c * 3 + s)) : highT L T' c = highT L T c := by
  have e := full_eq (T := T) (T' := T') (c := c) h4
  have e0 := h4 0 (by decide)
  rw [Nat.add_zero] at e0
  unfold highT plainT
  rw [h1, h3, h10, e, e0]
