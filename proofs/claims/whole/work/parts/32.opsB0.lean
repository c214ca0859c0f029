/-! ===== an hour keeps what there is, and its count ===== -/
def stepT (T T' : nT) : Prop := T' 0 13 = T 0 13 ∧ bud T' ≤ bud T
theorem stepT.rf {T : nT} : stepT T T := ⟨rfl, Nat.le_refl _⟩
theorem stepT.tr {T T1 T2 : nT} (h1 : stepT T T1) (h2 : stepT T1 T2) : stepT T T2 := ⟨h2.1.trans h1.1, Nat.le_trans h2.2 h1.2⟩
section St
variable {T L : nT} {a b c n p : Nat}
theorem step_lead (ha : a < T 0 5) (hb : b < T 0 5) (hab : a ≠ b) (hn : n ≤ fullT T a) : stepT T (leadT T a n b) := by
  refine ⟨lead_k (by decide), ?_⟩
  unfold bud
  rw [lead_k (by decide), lead_k (by decide), lead_sum hab hn ha hb]
  exact Nat.le_refl _
theorem step_drain (ha : a < T 0 5) (hn : n ≤ fullT T a) : stepT T (drainT T a n) := by
  refine ⟨drain_k (by decide), ?_⟩
  have := drain_sum hn ha
  unfold bud
  rw [drain_k (by decide), drain_k (by decide)]
  omega
theorem step_spill (ha : a < T 0 5) (hn : n ≤ fullT T a) : stepT T (spillT T a n) := by
  have h1 := drain_sum hn ha
  have e : spillT T a n 0 11 = T 0 11 + n := by unfold spillT; rw [Tup_same]
  have e5 : spillT T a n 0 5 = T 0 5 := fix_spill 0 5 (by decide) (by omega)
  refine ⟨by unfold spillT; rw [Tup_ne (by omega)]; exact drain_k (by decide), ?_⟩
  unfold bud
  rw [e, e5, sum_eq (T' := spillT T a n) (T := drainT T a n) _ (fun c _ => spill_full)]
  omega
theorem step_flow (h : TI T) (hp : p < T 0 10) : stepT T (flowT L p T) := by
  unfold flowT
  split
  · exact stepT.rf
  · obtain ⟨q1, q2, q3, -⟩ := up_ok (L := L) h hp
    exact step_lead q1 q2 q3 (runsT_lt h hp)
theorem step_lose (hc : c < T 0 5) : stepT T (loseT c T) := step_spill hc loses_le
theorem step_over (hc : c < T 0 5) : stepT T (overT L c T) := by
  unfold overT
  split
  · exact step_spill hc (Nat.min_le_right _ _)
  · exact stepT.rf
theorem step_z (x : Nat) : stepT T (Tup T 0 14 x) := by
  refine ⟨Tup_ne (by omega), ?_⟩
  unfold bud
  rw [Tup_ne (by omega), Tup_ne (by omega), sum_eq _ (fun c _ => z_full x)]
  exact Nat.le_refl _
theorem step_drink : stepT T (drinkT T) := by
  unfold drinkT
  split
  · rename_i hh
    refine (step_z (zN (zN (T 0 14)))).tr (step_drain ?_ ?_)
    · rw [Tup_ne (by omega)]
      exact Nat.mod_lt _ hh.2
    · rw [z_full]
      exact Nat.min_le_right _ _
  · exact step_z _
theorem step_it {f : Nat → nT → nT} {m n s : Nat} (hf : ∀ k T, TI T → k < m → T 0 5 = n → T 0 10 = s → TI (f k T) ∧ stepT T (f k T)) (hx : ∀ k T, fixT T (f k T)) : ∀ k T, TI T → T 0 5 = n → T 0 10 = s → k ≤ m → TI (itT f k T) ∧ fixT T (itT f k T) ∧ stepT T (itT f k T) := by
  intro k
  induction k with
  | zero => intro T h _ _ _; exact ⟨h, fixT.rf, stepT.rf⟩
  | succ k ih =>
    intro T h h5 h10 hk
    obtain ⟨g1, g2, g3⟩ := ih T h h5 h10 (by omega)
    have q := hf k _ g1 (by omega) (by rw [g2 0 5 (by decide) (by omega)]; exact h5) (by rw [g2 0 10 (by decide) (by omega)]; exact h10)
    exact ⟨q.1, g2.tr (hx k _), g3.tr q.2⟩
theorem hour_step (h : TI T) : hourT L T 0 13 = T 0 13 + 1 ∧ bud (hourT L T) ≤ bud T := by
  obtain ⟨a1, f1, s1⟩ := step_it (f := flowT L) (m := T 0 10) (n := T 0 5) (s := T 0 10) (fun k T' h' hk _ h10 => ⟨h'.flow (by omega), step_flow h' (by omega)⟩) (fun _ _ => fix_flow) (T 0 10) T h rfl rfl (Nat.le_refl _)
  have e1 : itT (flowT L) (T 0 10) T 0 5 = T 0 5 := f1 0 5 (by decide) (by omega)
  obtain ⟨a2, f2, s2⟩ := step_it (f := loseT) (m := T 0 5) (n := T 0 5) (s := itT (flowT L) (T 0 10) T 0 10) (fun k T' h' hk h5 _ => ⟨h'.lose (by omega), step_lose (by omega)⟩) (fun _ _ => fix_lose) (T 0 5) _ a1 e1 rfl (Nat.le_refl _)
  have e2 : itT loseT (T 0 5) (itT (flowT L) (T 0 10) T) 0 5 = T 0 5 := (f2 0 5 (by decide) (by omega)).trans e1
  obtain ⟨a3, f3, s3⟩ := step_it (f := overT L) (m := T 0 5) (n := T 0 5) (s := itT loseT (T 0 5) (itT (flowT L) (T 0 10) T) 0 10) (fun k T' h' hk h5 _ => ⟨h'.over (by omega), step_over (by omega)⟩) (fun _ _ => fix_over) (T 0 5) _ a2 e2 rfl (Nat.le_refl _)
  have s4 := ((s1.tr s2).tr s3).tr step_drink
  have e3 : ∀ U : nT, tickT U 0 13 = U 0 13 + 1 := fun U => by unfold tickT; rw [Tup_same]
  have e4 : ∀ U : nT, bud (tickT U) = bud U := fun U => by
    unfold bud tickT
    rw [Tup_ne (by omega), Tup_ne (by omega), sum_eq _ (fun c _ => full_eq (fun s _ => Tup_ne (by omega)))]
  refine ⟨?_, ?_⟩
  · unfold hourT
    rw [e3, s4.1]
  · unfold hourT
    rw [e4]
    exact s4.2
theorem hours_step (h : TI T) : ∀ k, hoursT L k T 0 13 = T 0 13 + k ∧ bud (hoursT L k T) ≤ bud T := by
  intro k
  induction k with
  | zero => exact ⟨rfl, Nat.le_refl _⟩
  | succ k ih =>
    have q := hour_step (L := L) (h.hours (L := L) k).1
    exact ⟨by show hourT L (hoursT L k T) 0 13 = _; rw [q.1, ih.1]; omega, Nat.le_trans q.2 ih.2⟩
end St
/-! ===== what changes of the two towns leaves ===== -/
def FT (σ σ' : vS) : Prop := ∀ q j, relP q j → ¬ (61 ≤ q ∧ q ≤ 71) → q ≠ 98 → σ' q j = σ q j
theorem FT.p {σ σ' : vS} (h : FT σ σ') {q : Nat} (hq : q = 4 ∨ q = 7 ∨ (9 ≤ q ∧ q ≤ 59) ∨ (73 ≤ q ∧ q ≤ 83) ∨ q = 99 ∨ q = 104 ∨ q = 105 ∨ q = 106 ∨ (112 ≤ q ∧ q ≤ 118) ∨ q = 120) : σ' q = σ q := by
  funext j
  exact h q j (by unfold relP; omega) (by omega) (by omega)
theorem FT.of {σ σ1 σ2 : vS} (h1 : Fr 61 σ σ1) (h2 : Fm σ1 σ2) : FT σ σ2 := fun q j hr a b => by
  unfold relP at hr
  rw [h2.1 q (by omega) (by omega) (by omega) (by omega), h1 q (by omega) (by omega)]
theorem MC.fr {L T : nT} {σ σ' : vS} (h : MC L T σ) (hf : Fr 61 σ σ') : MC L T σ' := by
  have e : σ' 98 = σ 98 := hf 98 (by omega) (by omega)
  exact ⟨h.1.congr (fun j _ => by rw [e]) h.2.2.1.nc h.2.2.1.np, h.2.1.congr (fun j _ => by rw [e]), h.2.2⟩
theorem TC.m {L : nT} {N t : Nat} {T : nT} {σ σ' : vS} (h : TC L N t T σ) (hf : Fm σ σ') : TC L N t T σ' := by
  obtain ⟨h1, h2, h3, h4, h5, h6, h7⟩ := h
  have g := h1.ge
  exact ⟨h1, h2.congr (fun q a b => hf.1 q (by omega) (by omega) (by omega) (by omega)), h3, h4.congr h7 (fun q a b => hf.1 q (by omega) (by omega) (by omega) (by omega)), h5, h6, h7⟩
theorem Inv.town {i b : Nat} {L T T' I : nT} {σ σ' : vS} (hB : IB b σ) (hM : b = 1 → IM i L T I σ) (hS : IS σ) (hO : IQ σ) (hW : IW σ) (hR : IR σ) (hK : IK σ) (hf : FT σ σ')
    (hC : TC L (T 0 15) 61 T' σ') (hE : MC L T' σ') (hb : bud T' ≤ 7992 * (i + 1)) (h10 : T' 0 10 ≤ 12) (h13 : T' 0 13 ≤ 9999) (h15 : T' 0 15 = T 0 15) : Inv (i + 1) σ' := by
  refine ⟨L, T', I, b, ⟨by rw [h15]; exact hC, hE, hb, h10, h13⟩, ?_, fun e => ?_, ?_, ?_, ?_, ?_, ?_⟩
  · unfold IB
    rw [hf 0 3 (by unfold relP; omega) (by omega) (by omega), hf 97 3 (by unfold relP; omega) (by omega) (by omega)]
    exact hB
  · obtain ⟨m1, m2, m3, m4, m5, m6⟩ := hM e
    have e9 : σ' 99 = σ 99 := hf.p (by omega)
    obtain ⟨h1, h2, h3, h4, h5, h6, h7⟩ := m1
    exact ⟨by rw [h15]; exact ⟨h1, h2.congr (fun q a b => hf.p (by omega)), h3, h4.congr h7 (fun q a b => hf.p (by omega)), h5, h6, h7⟩, m2.congr (fun j _ => by rw [e9]) h3.nc h3.np, m3.congr (fun j _ => by rw [e9]), m4, by omega, m6⟩
  · intro s hs
    rw [hf.p (q := 37 + 2 * s) (by omega), hf.p (q := 37 + 2 * s + 1) (by omega), hf.p (q := 112) (by omega), hf.p (q := 113) (by omega), hf.p (q := 114) (by omega)]
    exact hS s hs
  · intro s hs
    rw [hf.p (q := 45 + 3 * s) (by omega), hf.p (q := 45 + 3 * s + 1) (by omega), hf.p (q := 45 + 3 * s + 1 + 1) (by omega), hf.p (q := 115) (by omega), hf.p (q := 116) (by omega), hf.p (q := 117) (by omega), hf.p (q := 118) (by omega)]
    exact hO s hs
  · unfold IW
    rw [hf 0 9 (by unfold relP; omega) (by omega) (by omega), hf 97 34 (by unfold relP; omega) (by omega) (by omega), hf.p (q := 7) (by omega), hf.p (q := 120) (by omega)]
    exact hW
  · unfold IR
    rw [hf 1 0 (by unfold relP; omega) (by omega) (by omega), hf 97 8 (by unfold relP; omega) (by omega) (by omega), hf.p (q := 4) (by omega), hf.p (q := 104) (by omega)]
    exact hR
  · unfold IK
    rw [hf.p (q := 105) (by omega), hf.p (q := 106) (by omega)]
    exact hK
/-- both change the town alike -/
theorem Op.town {G : vG} {yc : MethodName} {cc : ByteArray} {nc : Nat} {ym : MethodName} {cm : ByteArray} {nm d : Nat} {as : List Value} {i b : Nat} {σ : vS} {v : Int32} {L T T' I : nT}
    (hT : IT i L T σ) (hB : IB b σ) (hM : b = 1 → IM i L T I σ) (hS : IS σ) (hO : IQ σ) (hW : IW σ) (hR : IR σ) (hK : IK σ)
    (hb : bud T' ≤ 7992 * (i + 1)) (h10 : T' 0 10 ≤ 12) (h13 : T' 0 13 ≤ 9999) (h15 : T' 0 15 = T 0 15)
    (hc : Cr G yc cc nc (some .int) d (.ref 0 :: as) σ (some (.int v)) (fun σ' => TC L (T 0 15) 61 T' σ' ∧ Fr 61 σ σ'))
    (hm : ∀ σ1, MC L T σ1 → Cr G ym cm nm (some .int) d (.ref 97 :: as) σ1 (some (.int v)) (fun σ' => MC L T' σ' ∧ Fm σ1 σ')) : Op G yc cc nc ym cm nm d as i σ :=
  Op.mk hc (fun σ1 h1 => Ct.mono (fun r σ2 h2 => ⟨h2.1, Inv.town hB hM hS hO hW hR hK (FT.of h1.2 h2.2.2) (h1.1.m h2.2.2) h2.2.1 hb h10 h13 h15⟩) (hm σ1 (hT.2.1.fr h1.2)))
theorem MA.cel {q c w x : Nat} {T : nT} {σ : vS} (h : MA q T σ) (hn : T 0 5 ≤ 8) (hc : c < T 0 5) (hw : w < 3) : MA q (Tup T (w + 1) c x) (vup σ q (7 + 6 * c + w) (nI x)) := by
  obtain ⟨a1, a2, a3⟩ := h
  have e : ∀ a j, ¬ (a = w + 1 ∧ j = c) → Tup T (w + 1) c x a j = T a j := fun a j g => Tup_ne g
  refine ⟨?_, fun b hb => ?_, fun p hp => ?_⟩
  · rw [vup_ne (by omega), vup_ne (by omega), vup_ne (by omega), vup_ne (by omega), vup_ne (by omega), vup_ne (by omega), vup_ne (by omega), e 0 _ (by omega), e 0 _ (by omega), e 0 _ (by omega), e 0 _ (by omega), e 0 _ (by omega), e 0 _ (by omega), e 0 _ (by omega)]
    exact a1
  · rw [e 0 5 (by omega)] at hb
    obtain ⟨g1, g2, g3, g4⟩ := a2 b hb
    have g : ∀ u, u < 3 → σ q (7 + 6 * b + u) = nI (T (u + 1) b) → vup σ q (7 + 6 * c + w) (nI x) q (7 + 6 * b + u) = nI (Tup T (w + 1) c x (u + 1) b) := by
      intro u hu hv
      by_cases k : u = w ∧ b = c
      · rw [k.1, k.2, vup_same, Tup_same]
      · rw [vup_ne (by omega), e (u + 1) b (by omega)]; exact hv
    exact ⟨g 0 (by decide) g1, g 1 (by decide) g2, g 2 (by decide) g3, fun s hs => by rw [vup_ne (by omega), e 4 _ (by omega)]; exact g4 s hs⟩
  · rw [e 0 10 (by omega)] at hp
    rw [vup_ne (by omega), vup_ne (by omega), vup_ne (by omega), vup_ne (by omega), e 6 p (by omega), e 7 p (by omega), e 8 p (by omega), e 9 p (by omega)]
    exact a3 p hp
theorem MA.win {q c s x : Nat} {T : nT} {σ : vS} (h : MA q T σ) (hn : T 0 5 ≤ 8) (hm : T 0 10 ≤ 13) (hc : c < T 0 5) (hs : s < 3) : MA q (Tup T 4 (c * 3 + s) x) (vup σ q (7 + 6 * c + 3 + s) (nI x)) := by
  refine h.of hn hm (fun k i g => Tup_ne (by omega)) (fun j _ hx => vup_ne (by have := hx c s hc hs; omega)) (fun b u hb hu => ?_)
  by_cases k : b = c ∧ u = s
  · rw [k.1, k.2, vup_same, Tup_same]
  · rw [vup_ne (by omega), Tup_ne (by omega)]
    exact h.w hb hu
theorem MA.cork {q p x : Nat} {T : nT} {σ : vS} (h : MA q T σ) (hn : T 0 5 ≤ 8) (hp : p < T 0 10) : MA q (Tup T 9 p x) (vup σ q (55 + 4 * p + 3) (nI x)) := by
  obtain ⟨a1, a2, a3⟩ := h
  have e : ∀ a j, ¬ (a = 9 ∧ j = p) → Tup T 9 p x a j = T a j := fun a j g => Tup_ne g
  refine ⟨?_, fun b hb => ?_, fun r hr => ?_⟩
  · rw [vup_ne (by omega), vup_ne (by omega), vup_ne (by omega), vup_ne (by omega), vup_ne (by omega), vup_ne (by omega), vup_ne (by omega), e 0 _ (by omega), e 0 _ (by omega), e 0 _ (by omega), e 0 _ (by omega), e 0 _ (by omega), e 0 _ (by omega), e 0 _ (by omega)]
    exact a1
  · rw [e 0 5 (by omega)] at hb
    obtain ⟨g1, g2, g3, g4⟩ := a2 b hb
    rw [vup_ne (by omega), vup_ne (by omega), vup_ne (by omega), e 1 b (by omega), e 2 b (by omega), e 3 b (by omega)]
    exact ⟨g1, g2, g3, fun s hs => by rw [vup_ne (by omega), e 4 _ (by omega)]; exact g4 s hs⟩
  · rw [e 0 10 (by omega)] at hr
    obtain ⟨g1, g2, g3, g4⟩ := a3 r hr
    rw [vup_ne (by omega), vup_ne (by omega), vup_ne (by omega), e 6 r (by omega), e 7 r (by omega), e 8 r (by omega)]
    refine ⟨g1, g2, g3, ?_⟩
    by_cases k : r = p
    · rw [k, vup_same, Tup_same]
    · rw [vup_ne (by omega), e 9 r (by omega)]; exact g4
theorem MA.addP {q x y v : Nat} {T : nT} {σ : vS} (h : MA q T σ) (hn : T 0 5 ≤ 8) : MA q (addPT T x y v) (vup (vup (vup (vup (vup σ q (55 + 4 * T 0 10) (nI x)) q (55 + 4 * T 0 10 + 1) (nI y)) q (55 + 4 * T 0 10 + 2) (nI v)) q (55 + 4 * T 0 10 + 3) 0) q 2 (nI (T 0 10 + 1))) := by
  obtain ⟨⟨b1, b2, b3, b4, b5, b6, b7⟩, a2, a3⟩ := h
  have e : ∀ a i, a < 6 ∨ 9 < a → ¬ (a = 0 ∧ i = 10) → addPT T x y v a i = T a i := fun a i g1 g2 => addP_k g1 g2
  refine ⟨⟨?_, ?_, ?_, ?_, ?_, ?_, ?_⟩, fun c hc => ?_, fun p hp => ?_⟩
  · rw [vup_ne (by omega), vup_ne (by omega), vup_ne (by omega), vup_ne (by omega), vup_ne (by omega), e 0 14 (by omega) (by omega)]; exact b1
  · rw [vup_ne (by omega), vup_ne (by omega), vup_ne (by omega), vup_ne (by omega), vup_ne (by omega), e 0 5 (by omega) (by omega)]; exact b2
  · rw [vup_same, addP_10]
  · rw [vup_ne (by omega), vup_ne (by omega), vup_ne (by omega), vup_ne (by omega), vup_ne (by omega), e 0 13 (by omega) (by omega)]; exact b4
  · rw [vup_ne (by omega), vup_ne (by omega), vup_ne (by omega), vup_ne (by omega), vup_ne (by omega), e 0 12 (by omega) (by omega)]; exact b5
  · rw [vup_ne (by omega), vup_ne (by omega), vup_ne (by omega), vup_ne (by omega), vup_ne (by omega), e 0 11 (by omega) (by omega)]; exact b6
  · rw [vup_ne (by omega), vup_ne (by omega), vup_ne (by omega), vup_ne (by omega), vup_ne (by omega), e 0 15 (by omega) (by omega)]; exact b7
  · rw [e 0 5 (by omega) (by omega)] at hc
    obtain ⟨g1, g2, g3, g4⟩ := a2 c hc
    rw [e 1 c (by omega) (by omega), e 2 c (by omega) (by omega), e 3 c (by omega) (by omega)]
    refine ⟨?_, ?_, ?_, fun s hs => ?_⟩
    · (repeat rw [vup_ne (by omega)]); exact g1
    · (repeat rw [vup_ne (by omega)]); exact g2
    · (repeat rw [vup_ne (by omega)]); exact g3
    · rw [e 4 _ (by omega) (by omega)]; (repeat rw [vup_ne (by omega)]); exact g4 s hs
  · rw [addP_10] at hp
    by_cases k : p = T 0 10
    · subst k
      obtain ⟨e1, e2, e3, e4⟩ := addP_new (T := T) (x := x) (y := y) (v := v)
      rw [e1, e2, e3, e4]
      refine ⟨?_, ?_, ?_, ?_⟩
      · (repeat rw [vup_ne (by omega)]); exact vup_same
      · repeat (first | rw [vup_same] | rw [vup_ne (by omega)])
      · repeat (first | rw [vup_same] | rw [vup_ne (by omega)])
      · (repeat (first | rw [vup_same] | rw [vup_ne (by omega)])); rfl
    · obtain ⟨e1, e2, e3, e4⟩ := addP_old (T := T) (x := x) (y := y) (v := v) k
      rw [e1, e2, e3, e4]
      obtain ⟨g1, g2, g3, g4⟩ := a3 p (by omega)
      refine ⟨?_, ?_, ?_, ?_⟩
      · (repeat rw [vup_ne (by omega)]); exact g1
      · (repeat rw [vup_ne (by omega)]); exact g2
      · (repeat rw [vup_ne (by omega)]); exact g3
      · (repeat rw [vup_ne (by omega)]); exact g4
abbrev fitsI (w v : Int32) : Prop := (w = 1 ∧ inI v 0 99) ∨ (w = 2 ∧ inI v 1 99) ∨ ((w = 8 ∨ w = 9 ∨ w = 10) ∧ inI v 0 999)
theorem fits1 {v : Int32} : inI v 0 99 ↔ fitsI 1 v := ⟨fun h => Or.inl ⟨rfl, h⟩, fun h => by
  rcases h with h | h | h
  · exact h.2
  · exact absurd h.1 (by decide)
  · exact absurd h.1 (by decide)⟩
theorem fits2 {v : Int32} : inI v 1 99 ↔ fitsI 2 v := ⟨fun h => Or.inr (Or.inl ⟨rfl, h⟩), fun h => by
  rcases h with h | h | h
  · exact absurd h.1 (by decide)
  · exact h.2
  · exact absurd h.1 (by decide)⟩
theorem fits8 {w v : Int32} (hw : w = 8 ∨ w = 9 ∨ w = 10) : inI v 0 999 ↔ fitsI w v := ⟨fun h => Or.inr (Or.inr ⟨hw, h⟩), fun h => by
  rcases h with h | h | h
  · rcases hw with rfl | rfl | rfl <;> exact absurd h.1 (by decide)
  · rcases hw with rfl | rfl | rfl <;> exact absurd h.1 (by decide)
  · exact h.2⟩
theorem i32_nat (x : Int32) : ∃ z, z < 2 ^ 32 ∧ x = nI z := by
  refine ⟨x.toBitVec.toNat, x.toBitVec.isLt, ?_⟩
  apply Int32.toBitVec_inj.mp
  apply BitVec.eq_of_toNat_eq
  rw [pk_tn x.toBitVec.isLt]

set_option maxRecDepth 100000 in
set_option maxHeartbeats 4000000 in
theorem k_C_fits {G : vG} {σ : vS} {d : Nat} (hd : 1 ≤ d) {w v : Int32} : Cf G yX6_fitsCellar cX6_fitsCellar 2 (some .boolean) d [.int w, .int v] σ (some (.int (bI (fitsI w v)))) σ := by
  refine Ct.ofV (by decide) (Nat.le_of_ble_eq_true rfl) rfl ?_
  show V G RX6 cX6_fitsCellar (some .boolean) 2 d _ 0 [some (.int w), some (.int v)] [] _
  obtain ⟨d, rfl⟩ : ∃ e, d = e + 1 := ⟨d - 1, by omega⟩
  refine V_iloadn_0 dX6_fitsCellar_0 ?_
  by_cases h1_1 : w = 1
  · refine V_tab 1 55 56 dX6_fitsCellar_1 (by rw [h1_1]; rfl) (by decide) (by decide) (by decide) (by decide) ?_
    subst h1_1
    refine V_iloadn_1 dX6_fitsCellar_56 ?_
    refine V_iconst 0 dX6_fitsCellar_57 (by decide) ?_
    refine V_bipush 99 dX6_fitsCellar_58 (by decide) ?_
    refine V_cs3f dX6_fitsCellar_60 cs_X6_108 (Nat.le_of_ble_eq_true rfl) k_C_within ?_
    exact V_zret dX6_fitsCellar_63 (by rcases bI_01 (inI v 0 99) with h | h <;> rw [h] <;> decide) ⟨rI (bI_iff fits1), rfl⟩
  by_cases h1_2 : w = 2
  · refine V_tab 2 63 64 dX6_fitsCellar_1 (by rw [h1_2]; rfl) (by decide) (by decide) (by decide) (by decide) ?_
    subst h1_2
    refine V_iloadn_1 dX6_fitsCellar_64 ?_
    refine V_iconst 1 dX6_fitsCellar_65 (by decide) ?_
    refine V_bipush 99 dX6_fitsCellar_66 (by decide) ?_
    refine V_cs3f dX6_fitsCellar_68 cs_X6_108 (Nat.le_of_ble_eq_true rfl) k_C_within ?_
    exact V_zret dX6_fitsCellar_71 (by rcases bI_01 (inI v 1 99) with h | h <;> rw [h] <;> decide) ⟨rI (bI_iff fits2), rfl⟩
  by_cases h1_3 : w = 3
  · refine V_tab 3 80 81 dX6_fitsCellar_1 (by rw [h1_3]; rfl) (by decide) (by decide) (by decide) (by decide) ?_
    subst h1_3
    refine V_iconst 0 dX6_fitsCellar_81 (by decide) ?_
    exact V_zret dX6_fitsCellar_82 (by decide) ⟨rB0 (by rintro (h | h | h); all_goals exact absurd h.1 (by decide)), rfl⟩
  by_cases h1_4 : w = 4
  · refine V_tab 4 80 81 dX6_fitsCellar_1 (by rw [h1_4]; rfl) (by decide) (by decide) (by decide) (by decide) ?_
    subst h1_4
    refine V_iconst 0 dX6_fitsCellar_81 (by decide) ?_
    exact V_zret dX6_fitsCellar_82 (by decide) ⟨rB0 (by rintro (h | h | h); all_goals exact absurd h.1 (by decide)), rfl⟩
  by_cases h1_5 : w = 5
  · refine V_tab 5 80 81 dX6_fitsCellar_1 (by rw [h1_5]; rfl) (by decide) (by decide) (by decide) (by decide) ?_
    subst h1_5
    refine V_iconst 0 dX6_fitsCellar_81 (by decide) ?_
    exact V_zret dX6_fitsCellar_82 (by decide) ⟨rB0 (by rintro (h | h | h); all_goals exact absurd h.1 (by decide)), rfl⟩
  by_cases h1_6 : w = 6
  · refine V_tab 6 80 81 dX6_fitsCellar_1 (by rw [h1_6]; rfl) (by decide) (by decide) (by decide) (by decide) ?_
    subst h1_6
    refine V_iconst 0 dX6_fitsCellar_81 (by decide) ?_
    exact V_zret dX6_fitsCellar_82 (by decide) ⟨rB0 (by rintro (h | h | h); all_goals exact absurd h.1 (by decide)), rfl⟩
  by_cases h1_7 : w = 7
  · refine V_tab 7 80 81 dX6_fitsCellar_1 (by rw [h1_7]; rfl) (by decide) (by decide) (by decide) (by decide) ?_
    subst h1_7
    refine V_iconst 0 dX6_fitsCellar_81 (by decide) ?_
    exact V_zret dX6_fitsCellar_82 (by decide) ⟨rB0 (by rintro (h | h | h); all_goals exact absurd h.1 (by decide)), rfl⟩
  by_cases h1_8 : w = 8
  · refine V_tab 8 71 72 dX6_fitsCellar_1 (by rw [h1_8]; rfl) (by decide) (by decide) (by decide) (by decide) ?_
    subst h1_8
    refine V_iloadn_1 dX6_fitsCellar_72 ?_
    refine V_iconst 0 dX6_fitsCellar_73 (by decide) ?_
    refine V_sipush 999 dX6_fitsCellar_74 (by decide) ?_
    refine V_cs3f dX6_fitsCellar_77 cs_X6_108 (Nat.le_of_ble_eq_true rfl) k_C_within ?_
    exact V_zret dX6_fitsCellar_80 (by rcases bI_01 (inI v 0 999) with h | h <;> rw [h] <;> decide) ⟨rI (bI_iff (fits8 (by decide))), rfl⟩
  by_cases h1_9 : w = 9
  · refine V_tab 9 71 72 dX6_fitsCellar_1 (by rw [h1_9]; rfl) (by decide) (by decide) (by decide) (by decide) ?_
    subst h1_9
    refine V_iloadn_1 dX6_fitsCellar_72 ?_
    refine V_iconst 0 dX6_fitsCellar_73 (by decide) ?_
    refine V_sipush 999 dX6_fitsCellar_74 (by decide) ?_
    refine V_cs3f dX6_fitsCellar_77 cs_X6_108 (Nat.le_of_ble_eq_true rfl) k_C_within ?_
    exact V_zret dX6_fitsCellar_80 (by rcases bI_01 (inI v 0 999) with h | h <;> rw [h] <;> decide) ⟨rI (bI_iff (fits8 (by decide))), rfl⟩
  by_cases h1_10 : w = 10
  · refine V_tab 10 71 72 dX6_fitsCellar_1 (by rw [h1_10]; rfl) (by decide) (by decide) (by decide) (by decide) ?_
    subst h1_10
    refine V_iloadn_1 dX6_fitsCellar_72 ?_
    refine V_iconst 0 dX6_fitsCellar_73 (by decide) ?_
    refine V_sipush 999 dX6_fitsCellar_74 (by decide) ?_
    refine V_cs3f dX6_fitsCellar_77 cs_X6_108 (Nat.le_of_ble_eq_true rfl) k_C_within ?_
    exact V_zret dX6_fitsCellar_80 (by rcases bI_01 (inI v 0 999) with h | h <;> rw [h] <;> decide) ⟨rI (bI_iff (fits8 (by decide))), rfl⟩
  refine V_tabD 81 dX6_fitsCellar_1 (by have q0 := lv_neT (a := 1) h1_1 (by decide); have q1 := lv_neT (a := 2) h1_2 (by decide); have q2 := lv_neT (a := 3) h1_3 (by decide); have q3 := lv_neT (a := 4) h1_4 (by decide); have q4 := lv_neT (a := 5) h1_5 (by decide); have q5 := lv_neT (a := 6) h1_6 (by decide); have q6 := lv_neT (a := 7) h1_7 (by decide); have q7 := lv_neT (a := 8) h1_8 (by decide); have q8 := lv_neT (a := 9) h1_9 (by decide); have q9 := lv_neT (a := 10) h1_10 (by decide); omega) (by decide) ?_
  refine V_iconst 0 dX6_fitsCellar_81 (by decide) ?_
  exact V_zret dX6_fitsCellar_82 (by decide) ⟨rB0 (by rintro (h | h | h); exact h1_1 h.1; exact h1_2 h.1; rcases h.1 with e | e | e; exact h1_8 e; exact h1_9 e; exact h1_10 e), rfl⟩
