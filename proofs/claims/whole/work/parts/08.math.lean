theorem V_fg_0 {G : vG} {own : String} {cc : ByteArray} {ret : Option FieldType} {nL d pc : Nat} {Q : Option Value → vS → Prop} {st : List Value} {σ : vS} {b : Option Value} {tl : List (Option Value)} (k : V G own cc ret nL d Q pc (none :: tl) st σ) : V G own cc ret nL d Q pc (b :: tl) st σ :=
  V_forget (i := 0) k
theorem V_fg_1 {G : vG} {own : String} {cc : ByteArray} {ret : Option FieldType} {nL d pc : Nat} {Q : Option Value → vS → Prop} {st : List Value} {σ : vS} {a0 : Option Value} {b : Option Value} {tl : List (Option Value)} (k : V G own cc ret nL d Q pc (a0 :: none :: tl) st σ) : V G own cc ret nL d Q pc (a0 :: b :: tl) st σ :=
  V_forget (i := 1) k
theorem V_fg_2 {G : vG} {own : String} {cc : ByteArray} {ret : Option FieldType} {nL d pc : Nat} {Q : Option Value → vS → Prop} {st : List Value} {σ : vS} {a0 a1 : Option Value} {b : Option Value} {tl : List (Option Value)} (k : V G own cc ret nL d Q pc (a0 :: a1 :: none :: tl) st σ) : V G own cc ret nL d Q pc (a0 :: a1 :: b :: tl) st σ :=
  V_forget (i := 2) k
theorem V_fg_3 {G : vG} {own : String} {cc : ByteArray} {ret : Option FieldType} {nL d pc : Nat} {Q : Option Value → vS → Prop} {st : List Value} {σ : vS} {a0 a1 a2 : Option Value} {b : Option Value} {tl : List (Option Value)} (k : V G own cc ret nL d Q pc (a0 :: a1 :: a2 :: none :: tl) st σ) : V G own cc ret nL d Q pc (a0 :: a1 :: a2 :: b :: tl) st σ :=
  V_forget (i := 3) k
theorem V_fg_4 {G : vG} {own : String} {cc : ByteArray} {ret : Option FieldType} {nL d pc : Nat} {Q : Option Value → vS → Prop} {st : List Value} {σ : vS} {a0 a1 a2 a3 : Option Value} {b : Option Value} {tl : List (Option Value)} (k : V G own cc ret nL d Q pc (a0 :: a1 :: a2 :: a3 :: none :: tl) st σ) : V G own cc ret nL d Q pc (a0 :: a1 :: a2 :: a3 :: b :: tl) st σ :=
  V_forget (i := 4) k
theorem V_fg_5 {G : vG} {own : String} {cc : ByteArray} {ret : Option FieldType} {nL d pc : Nat} {Q : Option Value → vS → Prop} {st : List Value} {σ : vS} {a0 a1 a2 a3 a4 : Option Value} {b : Option Value} {tl : List (Option Value)} (k : V G own cc ret nL d Q pc (a0 :: a1 :: a2 :: a3 :: a4 :: none :: tl) st σ) : V G own cc ret nL d Q pc (a0 :: a1 :: a2 :: a3 :: a4 :: b :: tl) st σ :=
  V_forget (i := 5) k
theorem V_fg_6 {G : vG} {own : String} {cc : ByteArray} {ret : Option FieldType} {nL d pc : Nat} {Q : Option Value → vS → Prop} {st : List Value} {σ : vS} {a0 a1 a2 a3 a4 a5 : Option Value} {b : Option Value} {tl : List (Option Value)} (k : V G own cc ret nL d Q pc (a0 :: a1 :: a2 :: a3 :: a4 :: a5 :: none :: tl) st σ) : V G own cc ret nL d Q pc (a0 :: a1 :: a2 :: a3 :: a4 :: a5 :: b :: tl) st σ :=
  V_forget (i := 6) k
theorem V_fg_7 {G : vG} {own : String} {cc : ByteArray} {ret : Option FieldType} {nL d pc : Nat} {Q : Option Value → vS → Prop} {st : List Value} {σ : vS} {a0 a1 a2 a3 a4 a5 a6 : Option Value} {b : Option Value} {tl : List (Option Value)} (k : V G own cc ret nL d Q pc (a0 :: a1 :: a2 :: a3 :: a4 :: a5 :: a6 :: none :: tl) st σ) : V G own cc ret nL d Q pc (a0 :: a1 :: a2 :: a3 :: a4 :: a5 :: a6 :: b :: tl) st σ :=
  V_forget (i := 7) k
theorem V_fg_8 {G : vG} {own : String} {cc : ByteArray} {ret : Option FieldType} {nL d pc : Nat} {Q : Option Value → vS → Prop} {st : List Value} {σ : vS} {a0 a1 a2 a3 a4 a5 a6 a7 : Option Value} {b : Option Value} {tl : List (Option Value)} (k : V G own cc ret nL d Q pc (a0 :: a1 :: a2 :: a3 :: a4 :: a5 :: a6 :: a7 :: none :: tl) st σ) : V G own cc ret nL d Q pc (a0 :: a1 :: a2 :: a3 :: a4 :: a5 :: a6 :: a7 :: b :: tl) st σ :=
  V_forget (i := 8) k
theorem V_fg_9 {G : vG} {own : String} {cc : ByteArray} {ret : Option FieldType} {nL d pc : Nat} {Q : Option Value → vS → Prop} {st : List Value} {σ : vS} {a0 a1 a2 a3 a4 a5 a6 a7 a8 : Option Value} {b : Option Value} {tl : List (Option Value)} (k : V G own cc ret nL d Q pc (a0 :: a1 :: a2 :: a3 :: a4 :: a5 :: a6 :: a7 :: a8 :: none :: tl) st σ) : V G own cc ret nL d Q pc (a0 :: a1 :: a2 :: a3 :: a4 :: a5 :: a6 :: a7 :: a8 :: b :: tl) st σ :=
  V_forget (i := 9) k
/-! ===== numbers ===== -/
theorem nI_inc (a : Nat) : nI a + Int32.ofInt 1 = nI (a + 1) := nI_1 a
theorem nI_toInt' (n : Nat) (h : n < 2 ^ 31) : (nI n).toInt = n := nI_toInt h
def bI (P : Prop) [Decidable P] : Int32 := if P then 1 else 0
theorem bI_t {P : Prop} [Decidable P] (h : P) : bI P = 1 := if_pos h
theorem bI_f {P : Prop} [Decidable P] (h : ¬ P) : bI P = 0 := if_neg h
theorem bI_01 (P : Prop) [Decidable P] : bI P = 0 ∨ bI P = 1 := by
  unfold bI
  split
  · exact Or.inr rfl
  · exact Or.inl rfl
theorem bI_iff {P R : Prop} [Decidable P] [Decidable R] (h : P ↔ R) : bI P = bI R := by
  by_cases hp : P
  · rw [bI_t hp, bI_t (h.mp hp)]
  · rw [bI_f hp, bI_f (fun q => hp (h.mpr q))]
theorem nI_zero_iff {a : Nat} (h : a < 2 ^ 31) : nI a = 0 ↔ a = 0 := nI_eq h (by decide : 0 < 2 ^ 31)
theorem nI_dec {a : Nat} (h : 0 < a) : nI a + Int32.ofInt (-1) = nI (a - 1) := by
  have e : Int32.ofInt (-1) = -1 := by decide
  rw [e]
  have := pk_m1 (a - 1)
  rw [show a - 1 + 1 = a by omega] at this
  exact this
theorem slpS {w : Nat} (h : Slp w) : Shp (w + 1) := by
  obtain ⟨i, hi, rfl⟩ := h
  exact Or.inr ⟨i, hi, by omega⟩
theorem lks_none : ∀ (ps : List (Int × Int)) (dflt v : Int), (∀ q ∈ ps, v ≠ q.1) → Op.lookupswitch.offset ps dflt v = dflt := by
  intro ps dflt v h
  induction ps with
  | nil => rfl
  | cons a l ih =>
    obtain ⟨b, o⟩ := a
    rw [Op.lookupswitch.offset_cons, if_neg]
    · exact ih (fun q hq => h q (List.mem_cons_of_mem _ hq))
    · intro e
      exact h (b, o) List.mem_cons_self (by first | exact e.symm | exact e | simpa using e)
/-- an index of n places; a number from lo to hi -/
abbrev hasI (x : Int32) (n : Nat) : Prop := ¬ x < 0 ∧ ¬ nI n ≤ x
abbrev inI (v lo hi : Int32) : Prop := ¬ v < lo ∧ ¬ hi < v
theorem hasI_iff {x : Int32} {n : Nat} (hn : n < 2 ^ 31) : hasI x n ↔ ∃ j, j < n ∧ x = nI j := by
  constructor
  · rintro ⟨h1, h2⟩
    obtain ⟨j, hj, rfl⟩ := nI_of h1
    exact ⟨j, by have := mt (nI_leI hn hj).mpr h2; omega, rfl⟩
  · rintro ⟨j, hj, rfl⟩
    exact ⟨nI_pos (by omega), fun h => by have := (nI_leI hn (by omega)).mp h; omega⟩
theorem inI_iff {x : Int32} {b : Nat} (hb : b < 2 ^ 31) : inI x 0 (nI b) ↔ ∃ j, j ≤ b ∧ x = nI j := by
  constructor
  · rintro ⟨h1, h2⟩
    obtain ⟨j, hj, rfl⟩ := nI_of h1
    exact ⟨j, by have := mt (nI_ltI hb hj).mpr h2; omega, rfl⟩
  · rintro ⟨j, hj, rfl⟩
    exact ⟨nI_pos (by omega), fun h => by have := (nI_ltI hb (by omega)).mp h; omega⟩
theorem inI_iff' {x : Int32} {a b : Nat} (ha : a < 2 ^ 31) (hb : b < 2 ^ 31) : inI x (nI a) (nI b) ↔ ∃ j, a ≤ j ∧ j ≤ b ∧ x = nI j := by
  constructor
  · rintro ⟨h1, h2⟩
    have h0 : ¬ x < 0 := fun h => h1 (by
      rw [Int32.lt_iff_toInt_lt] at h ⊢
      rw [nI_toInt ha]
      have e0 : (0 : Int32).toInt = 0 := by decide
      rw [e0] at h
      omega)
    obtain ⟨j, hj, rfl⟩ := nI_of h0
    exact ⟨j, by have := mt (nI_ltI hj ha).mpr h1; omega, by have := mt (nI_ltI hb hj).mpr h2; omega, rfl⟩
  · rintro ⟨j, hj, hj2, rfl⟩
    exact ⟨fun h => by have := (nI_ltI (by omega) ha).mp h; omega, fun h => by have := (nI_ltI hb (by omega)).mp h; omega⟩
theorem rB1 {P : Prop} [Decidable P] (h : P) : some (Value.int 1) = some (Value.int (bI P)) := by rw [bI_t h]
theorem rB0 {P : Prop} [Decidable P] (h : ¬ P) : some (Value.int 0) = some (Value.int (bI P)) := by rw [bI_f h]
theorem rN {a b : Nat} (h : a = b) : some (Value.int (nI a)) = some (Value.int (nI b)) := by rw [h]
theorem rI {a b : Int32} (h : a = b) : some (Value.int a) = some (Value.int b) := by rw [h]
theorem nI_0lt {a : Nat} (h : a < 2 ^ 31) : (0 : Int32) < nI a ↔ 0 < a := nI_ltI (by decide : 0 < 2 ^ 31) h
section VNN
variable {G : vG} {own : String} {cc : ByteArray} {ret : Option FieldType} {nL d pc : Nat} {Q : Option Value → vS → Prop} {lo : List (Option Value)} {st : List Value} {σ : vS}
theorem V_iaddN {a b : Nat} (hd : decode cc pc = .ok (.iadd, 1)) (k : V G own cc ret nL d Q (pc + 1) lo (.int (nI (a + b)) :: st) σ) : V G own cc ret nL d Q pc lo (.int (nI b) :: .int (nI a) :: st) σ := by
  refine V_iadd hd ?_
  rw [nI_add]
  exact k
theorem V_imulN {a b : Nat} (hd : decode cc pc = .ok (.imul, 1)) (k : V G own cc ret nL d Q (pc + 1) lo (.int (nI (a * b)) :: st) σ) : V G own cc ret nL d Q pc lo (.int (nI b) :: .int (nI a) :: st) σ := by
  refine V_imul hd ?_
  rw [pk_mul]
  exact k
theorem V_isubN {a b : Nat} (hd : decode cc pc = .ok (.isub, 1)) (h : b ≤ a) (k : V G own cc ret nL d Q (pc + 1) lo (.int (nI (a - b)) :: st) σ) : V G own cc ret nL d Q pc lo (.int (nI b) :: .int (nI a) :: st) σ := by
  refine V_isub hd ?_
  rw [pk_sub h]
  exact k
theorem V_idivN {a b : Nat} (hd : decode cc pc = .ok (.idiv, 1)) (ha : a < 2 ^ 31) (hb : b < 2 ^ 31) (h0 : 0 < b) (k : V G own cc ret nL d Q (pc + 1) lo (.int (nI (a / b)) :: st) σ) : V G own cc ret nL d Q pc lo (.int (nI b) :: .int (nI a) :: st) σ := by
  refine V_idiv hd (nI_ne0 h0 hb) ?_
  rw [pk_div ha h0 hb]
  exact k
theorem V_iremN {a b : Nat} (hd : decode cc pc = .ok (.irem, 1)) (ha : a < 2 ^ 31) (hb : b < 2 ^ 31) (h0 : 0 < b) (k : V G own cc ret nL d Q (pc + 1) lo (.int (nI (a % b)) :: st) σ) : V G own cc ret nL d Q pc lo (.int (nI b) :: .int (nI a) :: st) σ := by
  refine V_irem hd (nI_ne0 h0 hb) ?_
  rw [pk_rem ha h0 hb]
  exact k
theorem V_mminN {idx a b : Nat} (hd : decode cc pc = .ok (.invokestatic idx, 3)) (hw : Cond.methodLink own idx Lib.Math.min.name ∈ WD) (hst : (st.map fun v => v.category).sum ≤ 8) (ha : a < 2 ^ 31) (hb : b < 2 ^ 31) (k : V G own cc ret nL (d + 1) Q (pc + 3) lo (.int (nI (min a b)) :: st) σ) : V G own cc ret nL (d + 1) Q pc lo (.int (nI b) :: .int (nI a) :: st) σ := by
  refine V_mmin hd hw hst ?_
  have e : (if nI b < nI a then nI b else nI a) = nI (min a b) := by
    by_cases h : b < a
    · rw [if_pos ((nI_ltI hb ha).mpr h), Nat.min_eq_right (by omega)]
    · rw [if_neg (fun q => h ((nI_ltI hb ha).mp q)), Nat.min_eq_left (by omega)]
  rw [e]
  exact k
theorem V_mmaxN {idx a b : Nat} (hd : decode cc pc = .ok (.invokestatic idx, 3)) (hw : Cond.methodLink own idx Lib.Math.max.name ∈ WD) (hst : (st.map fun v => v.category).sum ≤ 8) (ha : a < 2 ^ 31) (hb : b < 2 ^ 31) (k : V G own cc ret nL (d + 1) Q (pc + 3) lo (.int (nI (max a b)) :: st) σ) : V G own cc ret nL (d + 1) Q pc lo (.int (nI b) :: .int (nI a) :: st) σ := by
  refine V_mmax hd hw hst ?_
  have e : (if nI a < nI b then nI b else nI a) = nI (max a b) := by
    by_cases h : a < b
    · rw [if_pos ((nI_ltI ha hb).mpr h), Nat.max_eq_right (by omega)]
    · rw [if_neg (fun q => h ((nI_ltI ha hb).mp q)), Nat.max_eq_left (by omega)]
  rw [e]
  exact k
theorem V_ifN_eq {a : Nat} {off : Int} (hd : decode cc pc = .ok (.ifCond .eq off, 3)) (tgt : Nat) (ht : (pc : Int) + off = (tgt : Int)) (ha : a < 2 ^ 31) (kt : a = 0 → V G own cc ret nL d Q tgt lo st σ) (kf : a ≠ 0 → V G own cc ret nL d Q (pc + 3) lo st σ) : V G own cc ret nL d Q pc lo (.int (nI a) :: st) σ :=
  V_if_eq hd tgt ht (fun h => kt ((nI_zero_iff ha).mp h)) (fun h => kf (fun e => h ((nI_zero_iff ha).mpr e)))
theorem V_ifN_ne {a : Nat} {off : Int} (hd : decode cc pc = .ok (.ifCond .ne off, 3)) (tgt : Nat) (ht : (pc : Int) + off = (tgt : Int)) (ha : a < 2 ^ 31) (kt : a ≠ 0 → V G own cc ret nL d Q tgt lo st σ) (kf : a = 0 → V G own cc ret nL d Q (pc + 3) lo st σ) : V G own cc ret nL d Q pc lo (.int (nI a) :: st) σ :=
  V_if_ne hd tgt ht (fun h => kt (fun e => h ((nI_zero_iff ha).mpr e))) (fun h => kf ((nI_zero_iff ha).mp h))
theorem V_ifN_le {a : Nat} {off : Int} (hd : decode cc pc = .ok (.ifCond .le off, 3)) (tgt : Nat) (ht : (pc : Int) + off = (tgt : Int)) (ha : a < 2 ^ 31) (kt : a = 0 → V G own cc ret nL d Q tgt lo st σ) (kf : 0 < a → V G own cc ret nL d Q (pc + 3) lo st σ) : V G own cc ret nL d Q pc lo (.int (nI a) :: st) σ :=
  V_if_le hd tgt ht (fun h => kt (by have := (nI_leI ha (by decide : 0 < 2 ^ 31)).mp h; omega)) (fun h => kf (by have := mt (nI_leI ha (by decide : 0 < 2 ^ 31)).mpr h; omega))
theorem V_ifN_gt {a : Nat} {off : Int} (hd : decode cc pc = .ok (.ifCond .gt off, 3)) (tgt : Nat) (ht : (pc : Int) + off = (tgt : Int)) (ha : a < 2 ^ 31) (kt : 0 < a → V G own cc ret nL d Q tgt lo st σ) (kf : a = 0 → V G own cc ret nL d Q (pc + 3) lo st σ) : V G own cc ret nL d Q pc lo (.int (nI a) :: st) σ :=
  V_if_gt hd tgt ht (fun h => kt ((nI_ltI (by decide : 0 < 2 ^ 31) ha).mp h)) (fun h => kf (by have := mt (nI_ltI (by decide : 0 < 2 ^ 31) ha).mpr h; omega))
theorem V_ifN_lt {a : Nat} {off : Int} (hd : decode cc pc = .ok (.ifCond .lt off, 3)) (tgt : Nat) (ht : (pc : Int) + off = (tgt : Int)) (ha : a < 2 ^ 31) (kf : V G own cc ret nL d Q (pc + 3) lo st σ) : V G own cc ret nL d Q pc lo (.int (nI a) :: st) σ :=
  V_if_lt hd tgt ht (fun h => absurd h (nI_pos ha)) (fun _ => kf)
theorem V_ifN_ge {a : Nat} {off : Int} (hd : decode cc pc = .ok (.ifCond .ge off, 3)) (tgt : Nat) (ht : (pc : Int) + off = (tgt : Int)) (ha : a < 2 ^ 31) (kt : V G own cc ret nL d Q tgt lo st σ) : V G own cc ret nL d Q pc lo (.int (nI a) :: st) σ :=
  V_if_ge hd tgt ht (fun _ => kt) (fun h => absurd (nI_pos' ha) h)
theorem V_ifB_eq {P : Prop} [Decidable P] {off : Int} (hd : decode cc pc = .ok (.ifCond .eq off, 3)) (tgt : Nat) (ht : (pc : Int) + off = (tgt : Int)) (kt : ¬ P → V G own cc ret nL d Q tgt lo st σ) (kf : P → V G own cc ret nL d Q (pc + 3) lo st σ) : V G own cc ret nL d Q pc lo (.int (bI P) :: st) σ := by
  refine V_if_eq hd tgt ht (fun h => kt (fun hp => ?_)) (fun h => kf ?_)
  · rw [bI_t hp] at h
    exact absurd h (by decide)
  · by_cases hp : P
    · exact hp
    · exact absurd (bI_f hp) h
theorem V_ifB_ne {P : Prop} [Decidable P] {off : Int} (hd : decode cc pc = .ok (.ifCond .ne off, 3)) (tgt : Nat) (ht : (pc : Int) + off = (tgt : Int)) (kt : P → V G own cc ret nL d Q tgt lo st σ) (kf : ¬ P → V G own cc ret nL d Q (pc + 3) lo st σ) : V G own cc ret nL d Q pc lo (.int (bI P) :: st) σ := by
  refine V_if_ne hd tgt ht (fun h => kt ?_) (fun h => kf (fun hp => ?_))
  · by_cases hp : P
    · exact hp
    · exact absurd (bI_f hp) h
  · rw [bI_t hp] at h
    exact absurd h (by decide)
theorem V_lksV {dflt : Int} {ps : Array (Int × Int)} {len : Nat} {x : Int32} (v off : Int) (tgt : Nat) (hd : decode cc pc = .ok (.lookupswitch dflt ps, len)) (hp : (ps.toList.zip (ps.toList.drop 1)).all (fun (a, next) => a.1 < next.1) = true) (hx : x.toInt = v) (ho : Op.lookupswitch.offset ps.toList dflt v = off) (ht : (pc : Int) + off = (tgt : Int)) (k : V G own cc ret nL d Q tgt lo st σ) : V G own cc ret nL d Q pc lo (.int x :: st) σ :=
  V_lks off tgt hd hp (by rw [hx]; exact ho) ht k
theorem V_lksD {dflt : Int} {ps : Array (Int × Int)} {len : Nat} {x : Int32} (tgt : Nat) (hd : decode cc pc = .ok (.lookupswitch dflt ps, len)) (hp : (ps.toList.zip (ps.toList.drop 1)).all (fun (a, next) => a.1 < next.1) = true) (hne : ∀ q ∈ ps.toList, x.toInt ≠ q.1) (ht : (pc : Int) + dflt = (tgt : Int)) (k : V G own cc ret nL d Q tgt lo st σ) : V G own cc ret nL d Q pc lo (.int x :: st) σ :=
  V_lks dflt tgt hd hp (lks_none _ _ _ hne) ht k
end VNN
/-! ===== towns, in naturals ===== -/
abbrev nT : Type := Nat → Nat → Nat
def Tup (T : nT) (k i x : Nat) : nT := fun a b => if a = k ∧ b = i then x else T a b
theorem Tup_same {T : nT} {k i x : Nat} : Tup T k i x k i = x := by simp [Tup]
theorem Tup_ne {T : nT} {k i x a b : Nat} (h : ¬ (a = k ∧ b = i)) : Tup T k i x a b = T a b := by simp only [Tup, if_neg h]
def fullT (T : nT) (c : Nat) : Nat := T 4 (c * 3) + T 4 (c * 3 + 1) + T 4 (c * 3 + 2)
def sumT (T : nT) : Nat → Nat
  | 0 => 0
  | c + 1 => sumT T c + fullT T c
def losesN (k f : Nat) : Nat := if k = 2 then f / 20 else if k = 4 then f / 20 - 1 else 0
def takesN (k n : Nat) : Nat := if k = 3 then n / 2 else if k = 5 then 0 else n
def worthI (k l : Nat) : Int32 := if k = 1 then nI (l + 6) else if k = 3 then nI (2 * (l + 6)) else if k = 2 then 99 - nI l else if k = 4 then 91 - nI l else if k = 5 then 3 else nI l
def highK (k plain full : Nat) : Nat := if k = 1 then plain / 2 else if k = 3 then plain / 2 - 2 else if k = 2 ∨ k = 4 then (if 0 < full then plain + 1 else plain) else if k = 5 then 0 else plain
/-- a kind is another one or stands under it -/
abbrev underN (k u : Nat) : Prop := u = 0 ∨ k = u ∨ (u = 1 ∧ k = 3) ∨ (u = 2 ∧ k = 4)
/-! laws: L j 0 its key, 1 its leaves, 2 its size, 3 + i its row -/
def joinI (s : Nat) (x y : Int32) : Int32 := if s = 124 then bI (x ≠ 0 ∨ y ≠ 0) else if s = 38 then bI (x ≠ 0 ∧ y ≠ 0) else if s = 60 then bI (x < y) else if s = 61 then bI (x = y) else if s = 62 then bI (y < x) else if s = 43 then x + y else if s = 45 then x - y else if s = 42 then x * y else if y = 0 then 0 else x / y
/-- one step of a law's row upon the stack (its top first) -/
def stepE (a b c : Int32) (r : Nat) (s : List Int32) : List Int32 :=
  if r < 10000 then nI r :: s
  else if r < 20000 then (if r = 10000 then a else if r = 10001 then b else c) :: s
  else if r = 20033 then (match s with
    | x :: s' => bI (x = 0) :: s'
    | [] => [])
  else (match s with
    | y :: x :: s' => joinI (r - 20000) x y :: s'
    | s' => s')
def runE (a b c : Int32) (row : Nat → Nat) : Nat → List Int32
  | 0 => []
  | i + 1 => stepE a b c (row i) (runE a b c row i)
/-- how many stand upon the stack -/
def depE (row : Nat → Nat) : Nat → Nat
  | 0 => 0
  | i + 1 => if row i < 20000 then depE row i + 1 else if row i = 20033 then depE row i else depE row i - 1
/-- a row that is well made: no sign finds too little, one number is left -/
def wfE (row : Nat → Nat) (n : Nat) : Prop := n ≤ 96 ∧ (∀ i, i < n → (row i < 10003 ∨ row i = 20033 ∨ row i = 20124 ∨ row i = 20038 ∨ row i = 20060 ∨ row i = 20061 ∨ row i = 20062 ∨ row i = 20043 ∨ row i = 20045 ∨ row i = 20042 ∨ row i = 20047) ∧ (20000 ≤ row i → row i = 20033 → 1 ≤ depE row i) ∧ (20000 ≤ row i → row i ≠ 20033 → 2 ≤ depE row i)) ∧ depE row n = 1
def lawI (L : nT) (j : Nat) (a b c : Int32) : Int32 := (runE a b c (fun i => L j (3 + i)) (L j 2)).headD 0
def clampN (x : Int32) : Nat := if x < 0 then 0 else if 999 < x then 999 else x.toNatClampNeg
def plainT (L T : nT) (c : Nat) : Nat := if T 10 0 = 0 then min (fullT T c / 10) 999 else clampN (lawI L (T 10 0 - 1) (nI (fullT T c)) (nI (T 3 c)) (nI (T 4 (c * 3))))
def highT (L T : nT) (c : Nat) : Nat := highK (T 1 c) (plainT L T c) (fullT T c)
def levT (L T : nT) (c : Nat) : Nat := T 2 c + highT L T c
def upT (L T : nT) (p : Nat) : Nat := if levT L T (T 7 p) ≤ levT L T (T 6 p) then T 6 p else T 7 p
def loT (L T : nT) (p : Nat) : Nat := T 6 p + T 7 p - upT L T p
def runsT (L T : nT) (p : Nat) : Nat := if T 9 p = 0 then takesN (T 1 (loT L T p)) (min (T 8 p * (levT L T (upT L T p) - levT L T (loT L T p)) / 2) (fullT T (upT L T p))) else 0
/-- of n drops that go from a cellar: the share of a sort, what is lacking, what more goes -/
def shT (T : nT) (a n s : Nat) : Nat := T 4 (a * 3 + s) * n / fullT T a
def lkT (T : nT) (a n : Nat) : Nat → Nat
  | 0 => n - shT T a n 0 - shT T a n 1 - shT T a n 2
  | s + 1 => lkT T a n s - min (lkT T a n s) (T 4 (a * 3 + s) - shT T a n s)
def goT (T : nT) (a n s : Nat) : Nat := shT T a n s + min (lkT T a n s) (T 4 (a * 3 + s) - shT T a n s)
def drainT (T : nT) (a n : Nat) : nT := fun k i => if k = 4 ∧ a * 3 ≤ i ∧ i < a * 3 + 3 then T 4 i - goT T a n (i - a * 3) else T k i
def leadT (T : nT) (a n b : Nat) : nT := fun k i => if k = 4 ∧ b * 3 ≤ i ∧ i < b * 3 + 3 then T 4 i + goT T a n (i - b * 3) else drainT T a n k i
def spillT (T : nT) (a n : Nat) : nT := Tup (drainT T a n) 0 11 (T 0 11 + n)
def flowT (L : nT) (p : Nat) (T : nT) : nT := if runsT L T p = 0 then T else leadT T (upT L T p) (runsT L T p) (loT L T p)
def loseT (c : Nat) (T : nT) : nT := spillT T c (losesN (T 1 c) (fullT T c))
def overT (L : nT) (c : Nat) (T : nT) : nT := if T 3 c < highT L T c then spillT T c (min (fullT T c / 4 + 1) (fullT T c)) else T
def zN (z : Nat) : Nat := (z * 1103515245 + 12345) % 2 ^ 32
def drinkT (T : nT) : nT :=
  if zN (T 0 14) / 2 ^ 8 % 100 < T 0 12 ∧ 0 < T 0 5 then
    drainT (Tup T 0 14 (zN (zN (T 0 14)))) (zN (zN (T 0 14)) / 2 ^ 8 % T 0 5) (min 5 (fullT T (zN (zN (T 0 14)) / 2 ^ 8 % T 0 5)))
  else Tup T 0 14 (zN (T 0 14))
def itT (f : Nat → nT → nT) : Nat → nT → nT
  | 0, T => T
  | k + 1, T => f k (itT f k T)
def tickT (T : nT) : nT := Tup T 0 13 (T 0 13 + 1)
def hourT (L T : nT) : nT :=
  tickT (drinkT (itT (overT L) (T 0 5) (itT loseT (T 0 5) (itT (flowT L) (T 0 10) T))))
def hoursT (L : nT) : Nat → nT → nT
  | 0, T => T
  | k + 1, T => hourT L (hoursT L k T)
/-- a town's numbers are in their ranges -/
def TI (T : nT) : Prop :=
  T 0 5 ≤ 8 ∧ T 0 10 ≤ 13 ∧ (∀ c, c < T 0 5 → T 1 c ≤ 5 ∧ T 2 c ≤ 99 ∧ 1 ≤ T 3 c ∧ T 3 c ≤ 99) ∧
  (∀ p, p < T 0 10 → T 6 p < T 0 5 ∧ T 7 p < T 0 5 ∧ T 6 p ≠ T 7 p ∧ T 8 p ≤ 9 ∧ T 9 p ≤ 1) ∧
  sumT T (T 0 5) + T 0 11 < 2 ^ 30 ∧ T 0 12 ≤ 100 ∧ T 0 14 < 2 ^ 32 ∧ T 0 15 ≤ 14 ∧ ∀ k, k < 3 → T 10 k ≤ T 0 15
def lwI (l : Nat) : Int32 := if l = 0 then -1 else nI (l - 1)
/-- the developers' town at the place t holds T (TA0: but for the heights) -/
def TA0 (t : Nat) (T : nT) (σ : vS) : Prop :=
  (σ t 5 = nI (T 0 5) ∧ σ t 10 = nI (T 0 10) ∧ σ t 11 = nI (T 0 11) ∧ σ t 12 = nI (T 0 12) ∧ σ t 13 = nI (T 0 13) ∧ σ t 14 = nI (T 0 14) ∧ σ t 15 = nI (T 0 15)) ∧
  (∀ c, c < T 0 5 → σ (t + 1) c = nI (T 1 c) ∧ σ (t + 2) c = nI (T 2 c) ∧ σ (t + 3) c = nI (T 3 c)) ∧
  (∀ i, i < T 0 5 * 3 → σ (t + 4) i = nI (T 4 i)) ∧
  (∀ p, p < T 0 10 → σ (t + 6) p = nI (T 6 p) ∧ σ (t + 7) p = nI (T 7 p) ∧ σ (t + 8) p = nI (T 8 p) ∧ σ (t + 9) p = nI (T 9 p)) ∧
  ∀ k, k < 3 → σ (t + 10) k = lwI (T 10 k)
def TH (L : nT) (t : Nat) (T : nT) (σ : vS) : Prop := ∀ c, c < T 0 5 → σ (t + 5) c = nI (highT L T c)
def TA (L : nT) (t : Nat) (T : nT) (σ : vS) : Prop := TA0 t T σ ∧ TH L t T σ
/-- the developers' laws -/
def LA (L : nT) (n : Nat) (σ : vS) : Prop := ∀ j, j < n → σ (9 + 2 * j) 0 = nI (L j 0) ∧ σ (9 + 2 * j) 1 = nI (L j 1) ∧ σ (9 + 2 * j) 2 = nI (L j 2) ∧ ∀ i, i < L j 2 → σ (9 + 2 * j + 1) i = nI (L j (3 + i))
def LI (L : nT) (n : Nat) : Prop := ∀ j, j < n → L j 0 ≤ 2 ∧ (L j 1 ≤ 96 ∧ (L j 0 ≠ 0 → ∀ i, i < L j 2 → L j (3 + i) ≠ 10002)) ∧ wfE (fun i => L j (3 + i)) (L j 2)
section TAs
variable {t c p k i : Nat} {T L : nT} {σ : vS}
theorem TA0.n5 (h : TA0 t T σ) : σ t 5 = nI (T 0 5) := h.1.1
theorem TA0.n10 (h : TA0 t T σ) : σ t 10 = nI (T 0 10) := h.1.2.1
theorem TA0.n11 (h : TA0 t T σ) : σ t 11 = nI (T 0 11) := h.1.2.2.1
theorem TA0.n12 (h : TA0 t T σ) : σ t 12 = nI (T 0 12) := h.1.2.2.2.1
theorem TA0.n13 (h : TA0 t T σ) : σ t 13 = nI (T 0 13) := h.1.2.2.2.2.1
theorem TA0.n14 (h : TA0 t T σ) : σ t 14 = nI (T 0 14) := h.1.2.2.2.2.2.1
theorem TA0.n15 (h : TA0 t T σ) : σ t 15 = nI (T 0 15) := h.1.2.2.2.2.2.2
theorem TA0.k1 (h : TA0 t T σ) (hc : c < T 0 5) : σ (t + 1) c = nI (T 1 c) := (h.2.1 c hc).1
theorem TA0.k2 (h : TA0 t T σ) (hc : c < T 0 5) : σ (t + 2) c = nI (T 2 c) := (h.2.1 c hc).2.1
theorem TA0.k3 (h : TA0 t T σ) (hc : c < T 0 5) : σ (t + 3) c = nI (T 3 c) := (h.2.1 c hc).2.2
theorem TA0.k4 (h : TA0 t T σ) (hc : i < T 0 5 * 3) : σ (t + 4) i = nI (T 4 i) := h.2.2.1 i hc
theorem TA0.k6 (h : TA0 t T σ) (hc : p < T 0 10) : σ (t + 6) p = nI (T 6 p) := (h.2.2.2.1 p hc).1
theorem TA0.k7 (h : TA0 t T σ) (hc : p < T 0 10) : σ (t + 7) p = nI (T 7 p) := (h.2.2.2.1 p hc).2.1
theorem TA0.k8 (h : TA0 t T σ) (hc : p < T 0 10) : σ (t + 8) p = nI (T 8 p) := (h.2.2.2.1 p hc).2.2.1
theorem TA0.k9 (h : TA0 t T σ) (hc : p < T 0 10) : σ (t + 9) p = nI (T 9 p) := (h.2.2.2.1 p hc).2.2.2
theorem TA0.k10 (h : TA0 t T σ) (hc : k < 3) : σ (t + 10) k = lwI (T 10 k) := h.2.2.2.2 k hc
theorem TA.k5 (h : TA L t T σ) (hc : c < T 0 5) : σ (t + 5) c = nI (highT L T c) := h.2 c hc
theorem sumT_le {m n : Nat} (h : m ≤ n) : sumT T m ≤ sumT T n := by
  induction n with
  | zero => rw [Nat.le_zero.mp h]; exact Nat.le_refl _
  | succ n ih =>
    rcases Nat.lt_or_ge m (n + 1) with q | q
    · exact Nat.le_trans (ih (by omega)) (by simp [sumT])
    · rw [show m = n + 1 by omega]; exact Nat.le_refl _
theorem fullT_le (h : c < T 0 5) : fullT T c ≤ sumT T (T 0 5) := by
  have h1 : sumT T (c + 1) ≤ sumT T (T 0 5) := sumT_le h
  simp only [sumT] at h1
  omega
theorem TI.full (h : TI T) (hc : c < T 0 5) : fullT T c < 2 ^ 30 := by
  have h1 := fullT_le (T := T) hc
  have h2 := h.2.2.2.2.1
  omega
theorem TI.nc (h : TI T) : T 0 5 ≤ 8 := h.1
theorem TI.np (h : TI T) : T 0 10 ≤ 13 := h.2.1
theorem TI.ce (h : TI T) (hc : c < T 0 5) : T 1 c ≤ 5 ∧ T 2 c ≤ 99 ∧ 1 ≤ T 3 c ∧ T 3 c ≤ 99 := h.2.2.1 c hc
theorem TI.pi (h : TI T) (hp : p < T 0 10) : T 6 p < T 0 5 ∧ T 7 p < T 0 5 ∧ T 6 p ≠ T 7 p ∧ T 8 p ≤ 9 ∧ T 9 p ≤ 1 := h.2.2.2.1 p hp
theorem TI.sp (h : TI T) : sumT T (T 0 5) + T 0 11 < 2 ^ 30 := h.2.2.2.2.1
theorem TI.th (h : TI T) : T 0 12 ≤ 100 := h.2.2.2.2.2.1
theorem TI.z (h : TI T) : T 0 14 < 2 ^ 32 := h.2.2.2.2.2.2.1
theorem TI.tx (h : TI T) : T 0 15 ≤ 14 := h.2.2.2.2.2.2.2.1
theorem TI.lw (h : TI T) (hk : k < 3) : T 10 k ≤ T 0 15 := h.2.2.2.2.2.2.2.2 k hk
end TAs
