/-! ===== the two objects hold the same ===== -/
/-- the cells that later calls can see -/
def relP (q j : Nat) : Prop :=
  (q = 0 ∧ (j = 3 ∨ j = 9)) ∨ (q = 1 ∧ j = 0) ∨ q = 4 ∨ q = 7 ∨ (9 ≤ q ∧ q ≤ 59) ∨ (61 ≤ q ∧ q ≤ 71) ∨ (73 ≤ q ∧ q ≤ 83) ∨
  (q = 97 ∧ (j = 3 ∨ j = 8 ∨ j = 34)) ∨ q = 98 ∨ q = 99 ∨ q = 104 ∨ q = 105 ∨ q = 106 ∨ (112 ≤ q ∧ q ≤ 118) ∨ q = 120
def FI (σ σ' : vS) : Prop := ∀ q j, relP q j → σ' q j = σ q j
theorem FI.rf {σ : vS} : FI σ σ := fun _ _ _ => rfl
theorem FI.tr {σ σ1 σ2 : vS} (h1 : FI σ σ1) (h2 : FI σ1 σ2) : FI σ σ2 := fun q j h => (h2 q j h).trans (h1 q j h)
theorem FI.p {σ σ' : vS} (h : FI σ σ') {q : Nat} (hq : q = 4 ∨ q = 7 ∨ (9 ≤ q ∧ q ≤ 59) ∨ (61 ≤ q ∧ q ≤ 71) ∨ (73 ≤ q ∧ q ≤ 83) ∨ q = 98 ∨ q = 99 ∨ q = 104 ∨ q = 105 ∨ q = 106 ∨ (112 ≤ q ∧ q ≤ 118) ∨ q = 120) : σ' q = σ q := by
  funext j
  apply h
  unfold relP
  omega
def IT (i : Nat) (L T : nT) (σ : vS) : Prop := TC L (T 0 15) 61 T σ ∧ MC L T σ ∧ bud T ≤ 7992 * i ∧ T 0 10 ≤ 12 ∧ T 0 13 ≤ 9999
def IM (i : Nat) (L T I : nT) (σ : vS) : Prop := TC L (T 0 15) 73 I σ ∧ MA 99 I σ ∧ ML 99 L (I 0 15) σ ∧ KI L I ∧ bud I ≤ 7992 * i ∧ I 0 10 ≤ 12 ∧ I 0 13 ≤ 9999
def IB (b : Nat) (σ : vS) : Prop := σ 0 3 = nI b ∧ σ 97 3 = nI b ∧ b ≤ 1
/-- what a place of a sheet may be -/
def okV (x : Int32) : Prop := x = -1000000005 ∨ (-99999 ≤ x.toInt ∧ x.toInt ≤ 99999)
def IS (σ : vS) : Prop := ∀ s, s < 4 → σ (37 + 2 * s) 0 = σ 112 s ∧ (σ 112 s = -1 ∨ σ 112 s = 0 ∨ σ 112 s = 1) ∧
  (∃ z, z ≤ 24 ∧ σ (37 + 2 * s) 1 = nI z ∧ σ 113 s = nI z) ∧ ∀ k, k < 24 → σ (37 + 2 * s + 1) k = σ 114 (24 * s + k) ∧ okV (σ 114 (24 * s + k))
def IQ (σ : vS) : Prop := ∀ s, s < 5 → ∃ th, th ≤ 3 ∧ σ (45 + 3 * s) 0 = nI th ∧ σ 115 s = nI th ∧
  (th = 1 → ∃ k l, k ≤ 5 ∧ 1 ≤ l ∧ l ≤ 99 ∧ σ (45 + 3 * s) 1 = nI k ∧ σ (45 + 3 * s) 2 = nI l ∧ σ 116 s = nI k ∧ σ 117 s = worthI k l) ∧
  (th = 2 → ∃ z, z ≤ 24 ∧ σ (45 + 3 * s + 1) 1 = nI z ∧ σ 116 s = nI z ∧ ∀ k, k < 24 → σ (45 + 3 * s + 1 + 1) k = σ 118 (24 * s + k)) ∧
  (th = 3 → σ (45 + 3 * s) 3 = σ 116 s)
def IW (σ : vS) : Prop := ∃ n, n ≤ 60 ∧ σ 0 9 = nI n ∧ σ 97 34 = nI n ∧ ∀ j, j < n → σ 7 j = σ 120 j
def IR (σ : vS) : Prop := ∃ n, n ≤ 96 ∧ σ 1 0 = nI n ∧ σ 97 8 = nI n ∧ ∀ j, j < n → ∃ b, b < 256 ∧ σ 4 j = nI b ∧ σ 104 j = nI b
def kyF (j : Nat) : Int32 := ([104, 105, 103, 104, 102, 101, 101, 102, 105, 110, 101] : List Int32).getD j 0
def IK (σ : vS) : Prop := (∀ j, j < 11 → σ 105 j = kyF j) ∧ σ 106 0 = 0 ∧ σ 106 1 = 4 ∧ σ 106 2 = 7 ∧ σ 106 3 = 11
def Inv (i : Nat) (σ : vS) : Prop := ∃ (L T I : nT) (b : Nat), IT i L T σ ∧ IB b σ ∧ (b = 1 → IM i L T I σ) ∧ IS σ ∧ IQ σ ∧ IW σ ∧ IR σ ∧ IK σ
theorem TC.fi {L : nT} {N t : Nat} {T : nT} {σ σ' : vS} (h : TC L N t T σ) (ht : t = 61 ∨ t = 73) (hf : FI σ σ') : TC L N t T σ' := by
  obtain ⟨h1, h2, h3, h4, h5, h6, h7⟩ := h
  exact ⟨h1, h2.congr (fun q a b => hf.p (by omega)), h3, h4.congr h7 (fun q a b => hf.p (by omega)), h5, h6, h7⟩
theorem MC.fi {L T : nT} {σ σ' : vS} (h : MC L T σ) (hf : FI σ σ') : MC L T σ' := by
  have e : σ' 98 = σ 98 := hf.p (by omega)
  exact ⟨h.1.congr (fun j _ => by rw [e]) h.2.2.1.nc h.2.2.1.np, h.2.1.congr (fun j _ => by rw [e]), h.2.2⟩
theorem IT.fi {i : Nat} {L T : nT} {σ σ' : vS} (h : IT i L T σ) (hf : FI σ σ') : IT i L T σ' := ⟨h.1.fi (by omega) hf, h.2.1.fi hf, h.2.2⟩
theorem IM.fi {i : Nat} {L T I : nT} {σ σ' : vS} (h : IM i L T I σ) (hf : FI σ σ') : IM i L T I σ' := by
  have e : σ' 99 = σ 99 := hf.p (by omega)
  exact ⟨h.1.fi (by omega) hf, h.2.1.congr (fun j _ => by rw [e]) h.1.2.2.1.nc h.1.2.2.1.np, h.2.2.1.congr (fun j _ => by rw [e]), h.2.2.2⟩
theorem IB.fi {b : Nat} {σ σ' : vS} (h : IB b σ) (hf : FI σ σ') : IB b σ' := by
  unfold IB
  rw [hf 0 3 (by unfold relP; omega), hf 97 3 (by unfold relP; omega)]
  exact h
theorem IS.fi {σ σ' : vS} (h : IS σ) (hf : FI σ σ') : IS σ' := by
  intro s hs
  rw [hf.p (q := 37 + 2 * s) (by omega), hf.p (q := 37 + 2 * s + 1) (by omega), hf.p (q := 112) (by omega), hf.p (q := 113) (by omega), hf.p (q := 114) (by omega)]
  exact h s hs
theorem IQ.fi {σ σ' : vS} (h : IQ σ) (hf : FI σ σ') : IQ σ' := by
  intro s hs
  rw [hf.p (q := 45 + 3 * s) (by omega), hf.p (q := 45 + 3 * s + 1) (by omega), hf.p (q := 45 + 3 * s + 1 + 1) (by omega), hf.p (q := 115) (by omega), hf.p (q := 116) (by omega), hf.p (q := 117) (by omega), hf.p (q := 118) (by omega)]
  exact h s hs
theorem IW.fi {σ σ' : vS} (h : IW σ) (hf : FI σ σ') : IW σ' := by
  unfold IW
  rw [hf 0 9 (by unfold relP; omega), hf 97 34 (by unfold relP; omega), hf.p (q := 7) (by omega), hf.p (q := 120) (by omega)]
  exact h
theorem IR.fi {σ σ' : vS} (h : IR σ) (hf : FI σ σ') : IR σ' := by
  unfold IR
  rw [hf 1 0 (by unfold relP; omega), hf 97 8 (by unfold relP; omega), hf.p (q := 4) (by omega), hf.p (q := 104) (by omega)]
  exact h
theorem IK.fi {σ σ' : vS} (h : IK σ) (hf : FI σ σ') : IK σ' := by
  unfold IK
  rw [hf.p (q := 105) (by omega), hf.p (q := 106) (by omega)]
  exact h
theorem IT.up {i j : Nat} {L T : nT} {σ : vS} (h : IT i L T σ) (hj : i ≤ j) : IT j L T σ := ⟨h.1, h.2.1, Nat.le_trans h.2.2.1 (Nat.mul_le_mul_left _ hj), h.2.2.2⟩
theorem IM.up {i j : Nat} {L T I : nT} {σ : vS} (h : IM i L T I σ) (hj : i ≤ j) : IM j L T I σ := ⟨h.1, h.2.1, h.2.2.1, h.2.2.2.1, Nat.le_trans h.2.2.2.2.1 (Nat.mul_le_mul_left _ hj), h.2.2.2.2.2⟩
theorem Inv.fi {i : Nat} {σ σ' : vS} (h : Inv i σ) (hf : FI σ σ') : Inv (i + 1) σ' := by
  obtain ⟨L, T, I, b, h1, h2, h3, h4, h5, h6, h7, h8⟩ := h
  exact ⟨L, T, I, b, (h1.fi hf).up (by omega), h2.fi hf, fun e => ((h3 e).fi hf).up (by omega), h4.fi hf, h5.fi hf, h6.fi hf, h7.fi hf, h8.fi hf⟩
theorem Fh.fi {σ σ' : vS} (h : Fh σ σ') : FI σ σ' := fun q j hr => by
  unfold relP at hr
  rw [h q (by omega) (by omega)]
/-- the thought town's changes, and the stack's -/
theorem Fr.fi {σ σ' : vS} (h : Fr 85 σ σ') : FI σ σ' := fun q j hr => by
  unfold relP at hr
  rw [h q (by omega) (by omega)]
theorem FI.up {σ : vS} {q j : Nat} {v : Int32} (h : ¬ relP q j) : FI σ (vup σ q j v) := fun a b hr => vup_ne (fun e => h (by rw [← e.1, ← e.2]; exact hr))
theorem FI.st {σ σ' : vS} (h : ∀ q, q ≠ 60 → σ' q = σ q) : FI σ σ' := fun q j hr => by
  unfold relP at hr
  rw [h q (by omega)]
/-- an operation: both answer alike, and what both hold is alike again -/
def Op (G : vG) (yc : MethodName) (cc : ByteArray) (nc : Nat) (ym : MethodName) (cm : ByteArray) (nm d : Nat) (as : List Value) (i : Nat) (σ : vS) : Prop :=
  Ct G yc cc nc (some .int) d (.ref 0 :: as) σ (fun r σ1 => ∃ v : Int32, r = some (.int v) ∧ Ct G ym cm nm (some .int) d (.ref 97 :: as) σ1 (fun r' σ2 => r' = some (.int v) ∧ Inv (i + 1) σ2))
theorem Op.mk {G : vG} {yc : MethodName} {cc : ByteArray} {nc : Nat} {ym : MethodName} {cm : ByteArray} {nm d : Nat} {as : List Value} {i : Nat} {σ : vS} {v : Int32} {P : vS → Prop}
    (hc : Cr G yc cc nc (some .int) d (.ref 0 :: as) σ (some (.int v)) P) (hm : ∀ σ1, P σ1 → Ct G ym cm nm (some .int) d (.ref 97 :: as) σ1 (fun r' σ2 => r' = some (.int v) ∧ Inv (i + 1) σ2)) : Op G yc cc nc ym cm nm d as i σ :=
  Ct.mono (fun r σ1 h => ⟨v, h.1, hm σ1 h.2⟩) hc
/-- both only ask -/
theorem Op.ask {G : vG} {yc : MethodName} {cc : ByteArray} {nc : Nat} {ym : MethodName} {cm : ByteArray} {nm d : Nat} {as : List Value} {i : Nat} {σ : vS} {v : Int32} (h : Inv i σ)
    (hc : Cr G yc cc nc (some .int) d (.ref 0 :: as) σ (some (.int v)) (fun σ' => FI σ σ')) (hm : ∀ σ1, FI σ σ1 → Cr G ym cm nm (some .int) d (.ref 97 :: as) σ1 (some (.int v)) (fun σ' => FI σ1 σ')) : Op G yc cc nc ym cm nm d as i σ :=
  Op.mk hc (fun σ1 h1 => Ct.mono (fun r σ2 h2 => ⟨h2.1, h.fi (h1.tr h2.2)⟩) (hm σ1 h1))
theorem Cf.fi {G : vG} {y : MethodName} {cc : ByteArray} {nL : Nat} {ret : Option FieldType} {d : Nat} {av : List Value} {σ : vS} {r : Option Value} (h : Cf G y cc nL ret d av σ r σ) : Cr G y cc nL ret d av σ r (fun σ' => FI σ σ') :=
  Ct.mono (fun _ _ q => ⟨q.1, by rw [q.2]; exact FI.rf⟩) h
theorem Cr.fh {G : vG} {y : MethodName} {cc : ByteArray} {nL : Nat} {ret : Option FieldType} {d : Nat} {av : List Value} {σ : vS} {r : Option Value} (h : Cr G y cc nL ret d av σ r (fun σ' => Fh σ σ')) : Cr G y cc nL ret d av σ r (fun σ' => FI σ σ') :=
  Ct.mono (fun _ _ q => ⟨q.1, q.2.fi⟩) h
theorem Cr.rw {G : vG} {y : MethodName} {cc : ByteArray} {nL : Nat} {ret : Option FieldType} {d : Nat} {av : List Value} {σ : vS} {v w : Int32} {P : vS → Prop} (h : Cr G y cc nL ret d av σ (some (.int v)) P) (e : v = w) : Cr G y cc nL ret d av σ (some (.int w)) P := by
  rw [← e]
  exact h
theorem in5 {x : Int32} : inI x 0 5 ↔ hasI x 6 := by
  rw [hasI_iff (by decide), show inI x 0 5 ↔ ∃ j, j ≤ 5 ∧ x = nI j from inI_iff (b := 5) (by decide)]
  constructor
  · rintro ⟨j, h, e⟩; exact ⟨j, by omega, e⟩
  · rintro ⟨j, h, e⟩; exact ⟨j, by omega, e⟩
