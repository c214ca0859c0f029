/-! ===== what the start gives ===== -/
theorem wsR_congr {G G' : vG} {σ : vS} {a n : Nat} (hc : G.2.2.1 = G'.2.2.1) (h : ∀ p, a ≤ p → p < a + n → G.th p = G'.th p) (hr : ∀ p, a ≤ p → p < a + n → ∀ q, some q ∈ (sh p).2.2.2 → a ≤ q ∧ q < a + n) : wsR G σ a n = wsR G' σ a n := by
  unfold wsR
  apply List.map_congr_left
  intro p hp
  have hp := List.mem_range.mp hp
  have hq : ∀ (fs : List (Option Nat)) (j : Nat), (∀ q, some q ∈ fs → a ≤ q ∧ q < a + n) → (fs.getD j none).map G.th = (fs.getD j none).map G'.th := by
    intro fs j hf
    cases hg : fs.getD j none with
    | none => rfl
    | some q =>
      have hm : some q ∈ fs := by
        rw [List.getD_eq_getElem?_getD] at hg
        cases hgi : fs[j]? with
        | none => rw [hgi] at hg; cases hg
        | some x => rw [hgi] at hg; cases hg; exact List.mem_of_getElem? hgi
      have := hf q hm
      simp only [Option.map_some]
      rw [h q this.1 this.2]
  have hf := hr (a + p) (by omega) (by omega)
  rw [h (a + p) (by omega) (by omega)]
  congr 1
  generalize sh (a + p) = z at hf
  obtain ⟨k, ci, m, fs⟩ := z
  unfold vcell
  match k with
  | 0 => simp only; rw [hc]
  | 1 =>
    simp only
    rw [hc]
    have : (fun j => (fs.getD j none).map G.th) = fun j => (fs.getD j none).map G'.th := by
      funext j
      exact hq fs j hf
    rw [this]
  | k + 2 =>
    simp only [vfs]
    congr 2
    apply List.map_congr_left
    intro j _
    have := hq fs j hf
    cases hg : fs.getD j none with
    | none => rfl
    | some q =>
      rw [hg] at this
      simp only [Option.map_some, Option.some.injEq] at this
      simp only
      rw [this]
theorem wsR_app (G : vG) (σ : vS) (n k : Nat) : wsR G σ 0 n ++ wsR G σ n k = wsR G σ 0 (n + k) := by
  unfold wsR
  rw [List.range_add, List.map_append, List.map_map]
  congr 1
  apply List.map_congr_left
  intro p _
  simp
theorem wsR_of (G : vG) (σ : vS) : wsR G σ 0 nP = wsOf G σ := by
  unfold wsR wsOf
  apply List.map_congr_left
  intro p _
  simp
theorem shr1 : ∀ p, p < 97 → (sh p).2.2.2.all (fun o => o.all (fun q => decide (q < 97))) = true := by decide +kernel
theorem shr2 : ∀ p, p < 24 → (sh (97 + p)).2.2.2.all (fun o => o.all (fun q => decide (97 ≤ q ∧ q < 121))) = true := by decide +kernel
theorem wsR_join {l : Launch} {D : va_G} {cA : Nat → ClassId} {th1 th2 : Nat → Nat} {G : vG} (σ : vS) (hc : G.2.2.1 = cA) (h1 : ∀ p, p < 97 → G.th p = th1 p) (h2 : ∀ p, 97 ≤ p → p < 121 → G.th p = th2 p) :
    wsR ((l, D, cA, th1, fun _ => True) : vG) σ 0 97 ++ wsR ((l, D, cA, th2, fun _ => True) : vG) σ 97 24 = wsOf G σ := by
  rw [← wsR_of, show nP = 97 + 24 from rfl, ← wsR_app]
  congr 1
  · refine wsR_congr hc.symm (fun p _ hp => (h1 p (by omega)).symm) (fun p _ hp q hq => ?_)
    have := List.all_eq_true.mp (shr1 p (by omega)) _ hq
    simp at this
    omega
  · refine wsR_congr hc.symm (fun p ha hp => (h2 p ha (by omega)).symm) (fun p ha hp q hq => ?_)
    have := List.all_eq_true.mp (shr2 (p - 97) (by omega)) (some q) (by rw [show 97 + (p - 97) = p by omega]; exact hq)
    simp at this
    omega
theorem st_prim {s : State} {args : Array Value} {ty : FieldType} (h : (Cond.arrayClass ty).before args s = true) (hra : ∀ x, s.vm.findClass ("[" ++ ty.toString) = some x → va_RA s x ty) : ∃ cA : ClassId, ArrOfT s cA ty ∧ va_RA s cA ty := by
  obtain ⟨cA, kA, comp, h1, h2, h3⟩ := Cond.arrayClass_spec h
  exact ⟨cA, fun n z => ⟨fun k h => (by cases h), kA, h2, comp, h3⟩, hra _ h1⟩
theorem st_obj {s : State} {C : String} (h : va_AO C s) : ∃ cA : ClassId, ArrOfT s cA (.object C) ∧ va_RA s cA (.object C) := by
  obtain ⟨comp, c, k, h1, h2, h3, h4, h5⟩ := Cond.arrayOver_spec h
  exact ⟨c, fun n z => ⟨fun k h => (by cases h), k, h3, comp, h4⟩, k, comp, h3, h4, h1, h5⟩
theorem st_N {s : State} {args : Array Value} (hts : ∀ w ∈ lw_tbl, w.before args s = true) : kN s := ⟨(va_Nw.of rfl (hts _ (List.mem_of_getElem? (i := 85) (by decide +kernel)))), (va_Nw.of rfl (hts _ (List.mem_of_getElem? (i := 91) (by decide +kernel)))), (va_Nw.of rfl (hts _ (List.mem_of_getElem? (i := 142) (by decide +kernel)))), (va_Nw.of rfl (hts _ (List.mem_of_getElem? (i := 144) (by decide +kernel)))), (va_Nw.of rfl (hts _ (List.mem_of_getElem? (i := 162) (by decide +kernel)))), (va_Nw.of rfl (hts _ (List.mem_of_getElem? (i := 167) (by decide +kernel)))), (va_AO.of (hts _ (List.mem_of_getElem? (i := 141) (by decide +kernel)))), (va_AO.of (hts _ (List.mem_of_getElem? (i := 137) (by decide +kernel)))), (va_AO.of (hts _ (List.mem_of_getElem? (i := 139) (by decide +kernel))))⟩
theorem st_K {s : State} {args : Array Value} (hts : ∀ w ∈ lw_tbl, w.before args s = true) : ∃ (D : va_G) (cA : Nat → ClassId), va_K D vwCl (vtys cA) s := by
  have hwd : ∀ w ∈ WD, w.before args s = true := fun w hw => hts w (List.mem_filter.mp hw).1
  obtain ⟨c0, iS0, hk0⟩ := u_known (C := RX1) (T := TX1) (N := 4) (n := 4) hwd uw_0 (hts _ (List.mem_of_getElem? (i := 90) (by decide +kernel)))
  obtain ⟨c1, iS1, hk1⟩ := u_known (C := RX2) (T := TX2) (N := 7) (n := 7) hwd uw_1 (hts _ (List.mem_of_getElem? (i := 84) (by decide +kernel)))
  obtain ⟨c2, iS2, hk2⟩ := u_known (C := RX3) (T := TX3) (N := 3) (n := 3) hwd uw_2 (hts _ (List.mem_of_getElem? (i := 143) (by decide +kernel)))
  obtain ⟨c3, iS3, hk3⟩ := u_known (C := RX4) (T := TX4) (N := 5) (n := 5) hwd uw_3 (hts _ (List.mem_of_getElem? (i := 161) (by decide +kernel)))
  obtain ⟨c4, iS4, hk4⟩ := u_known (C := RX5) (T := TX5) (N := 20) (n := 20) hwd uw_4 (hts _ (List.mem_of_getElem? (i := 187) (by decide +kernel)))
  obtain ⟨c5, iS5, hk5⟩ := u_known (C := RX6) (T := TX6) (N := 10) (n := 10) hwd uw_5 (hts _ (List.mem_of_getElem? (i := 76) (by decide +kernel)))
  obtain ⟨c6, iS6, hk6⟩ := u_known (C := RX7) (T := TX7) (N := 35) (n := 35) hwd uw_6 (hts _ (List.mem_of_getElem? (i := 885) (by decide +kernel)))
  obtain ⟨a0, ha0⟩ := st_prim (ty := .int) (hts _ (List.mem_of_getElem? (i := 111) (by decide +kernel))) (fun _ h => h)
  obtain ⟨a1, ha1⟩ := st_prim (ty := .char) (hts _ (List.mem_of_getElem? (i := 996) (by decide +kernel))) (fun _ h => h)
  obtain ⟨a2, ha2⟩ := st_prim (ty := .boolean) (hts _ (List.mem_of_getElem? (i := 997) (by decide +kernel))) (fun _ h => h)
  have hN := st_N hts
  obtain ⟨a3, ha3⟩ := st_obj hN.2.2.2.2.2.2.1
  obtain ⟨a4, ha4⟩ := st_obj hN.2.2.2.2.2.2.2.1
  obtain ⟨a5, ha5⟩ := st_obj hN.2.2.2.2.2.2.2.2
  refine ⟨(fun k => [c0, c1, c2, c3, c4, c5, c6].getD k c0, fun k => [iS0, iS1, iS2, iS3, iS4, iS5, iS6].getD k iS0), fun k => [a0, a1, a2, a3, a4, a5].getD k a0, fun k q hq => ?_, fun k q hq => ?_⟩
  · match k, hq with
    | 0, hq => cases hq; exact hk0
    | 1, hq => cases hq; exact hk1
    | 2, hq => cases hq; exact hk2
    | 3, hq => cases hq; exact hk3
    | 4, hq => cases hq; exact hk4
    | 5, hq => cases hq; exact hk5
    | 6, hq => cases hq; exact hk6
    | k + 7, hq => simp [vwCl] at hq
  · match k, hq with
    | 0, hq => cases hq; exact ha0
    | 1, hq => cases hq; exact ha1
    | 2, hq => cases hq; exact ha2
    | 3, hq => cases hq; exact ha3
    | 4, hq => cases hq; exact ha4
    | 5, hq => cases hq; exact ha5
    | k + 6, hq => simp [vtys] at hq
def txT (i : Nat) : Term := .string "LevelCellars$Reader" (([48, 57, 59, 120, 122, 124] : List Nat).getD i 0)
theorem st_tx {s : State} {args : Array Value} (hs : ∀ c ∈ flatC (Jvm.Cond.and given_1 narrow_1), c.before args s = true) {A : Nat → Prop} (hA : ∀ a : Nat, a < s.heap.size → ¬ A a) : ∃ adK adV : Nat → Nat, vk_S 6 txL txB adK adV A s s.heap ∧ ∀ i : Nat, i < 6 → (txT i).eval args s none [] s = some (.ref (adK i)) := by
  refine vk_Sof (tm := txT) ?_ ?_ ?_ ?_ ?_ ?_ ?_ hA
  · intro i hi
    rcases (show i = 0 ∨ i = 1 ∨ i = 2 ∨ i = 3 ∨ i = 4 ∨ i = 5 by omega) with rfl | rfl | rfl | rfl | rfl | rfl <;> decide
  · intro i hi
    rcases (show i = 0 ∨ i = 1 ∨ i = 2 ∨ i = 3 ∨ i = 4 ∨ i = 5 by omega) with rfl | rfl | rfl | rfl | rfl | rfl
    · exact hs (Cond.exactly (Term.string "LevelCellars$Reader" 48) "java/lang/String") (by decide +kernel)
    · exact hs (Cond.exactly (Term.string "LevelCellars$Reader" 57) "java/lang/String") (by decide +kernel)
    · exact hs (Cond.exactly (Term.string "LevelCellars$Reader" 59) "java/lang/String") (by decide +kernel)
    · exact hs (Cond.exactly (Term.string "LevelCellars$Reader" 120) "java/lang/String") (by decide +kernel)
    · exact hs (Cond.exactly (Term.string "LevelCellars$Reader" 122) "java/lang/String") (by decide +kernel)
    · exact hs (Cond.exactly (Term.string "LevelCellars$Reader" 124) "java/lang/String") (by decide +kernel)
  · intro i hi
    rcases (show i = 0 ∨ i = 1 ∨ i = 2 ∨ i = 3 ∨ i = 4 ∨ i = 5 by omega) with rfl | rfl | rfl | rfl | rfl | rfl
    · exact hs (Cond.eq (Term.field (Term.string "LevelCellars$Reader" 48) "java/lang/String" "coder" "B") (Term.int 0)) (by decide +kernel)
    · exact hs (Cond.eq (Term.field (Term.string "LevelCellars$Reader" 57) "java/lang/String" "coder" "B") (Term.int 0)) (by decide +kernel)
    · exact hs (Cond.eq (Term.field (Term.string "LevelCellars$Reader" 59) "java/lang/String" "coder" "B") (Term.int 0)) (by decide +kernel)
    · exact hs (Cond.eq (Term.field (Term.string "LevelCellars$Reader" 120) "java/lang/String" "coder" "B") (Term.int 0)) (by decide +kernel)
    · exact hs (Cond.eq (Term.field (Term.string "LevelCellars$Reader" 122) "java/lang/String" "coder" "B") (Term.int 0)) (by decide +kernel)
    · exact hs (Cond.eq (Term.field (Term.string "LevelCellars$Reader" 124) "java/lang/String" "coder" "B") (Term.int 0)) (by decide +kernel)
  · intro i hi
    rcases (show i = 0 ∨ i = 1 ∨ i = 2 ∨ i = 3 ∨ i = 4 ∨ i = 5 by omega) with rfl | rfl | rfl | rfl | rfl | rfl
    · exact hs (Cond.arrayOf (Term.field (Term.string "LevelCellars$Reader" 48) "java/lang/String" "value" "[B") FieldType.byte) (by decide +kernel)
    · exact hs (Cond.arrayOf (Term.field (Term.string "LevelCellars$Reader" 57) "java/lang/String" "value" "[B") FieldType.byte) (by decide +kernel)
    · exact hs (Cond.arrayOf (Term.field (Term.string "LevelCellars$Reader" 59) "java/lang/String" "value" "[B") FieldType.byte) (by decide +kernel)
    · exact hs (Cond.arrayOf (Term.field (Term.string "LevelCellars$Reader" 120) "java/lang/String" "value" "[B") FieldType.byte) (by decide +kernel)
    · exact hs (Cond.arrayOf (Term.field (Term.string "LevelCellars$Reader" 122) "java/lang/String" "value" "[B") FieldType.byte) (by decide +kernel)
    · exact hs (Cond.arrayOf (Term.field (Term.string "LevelCellars$Reader" 124) "java/lang/String" "value" "[B") FieldType.byte) (by decide +kernel)
  · intro i hi
    rcases (show i = 0 ∨ i = 1 ∨ i = 2 ∨ i = 3 ∨ i = 4 ∨ i = 5 by omega) with rfl | rfl | rfl | rfl | rfl | rfl
    · exact hs (Cond.eq (Term.length (Term.field (Term.string "LevelCellars$Reader" 48) "java/lang/String" "value" "[B")) (Term.int 4)) (by decide +kernel)
    · exact hs (Cond.eq (Term.length (Term.field (Term.string "LevelCellars$Reader" 57) "java/lang/String" "value" "[B")) (Term.int 3)) (by decide +kernel)
    · exact hs (Cond.eq (Term.length (Term.field (Term.string "LevelCellars$Reader" 59) "java/lang/String" "value" "[B")) (Term.int 4)) (by decide +kernel)
    · exact hs (Cond.eq (Term.length (Term.field (Term.string "LevelCellars$Reader" 120) "java/lang/String" "value" "[B")) (Term.int 3)) (by decide +kernel)
    · exact hs (Cond.eq (Term.length (Term.field (Term.string "LevelCellars$Reader" 122) "java/lang/String" "value" "[B")) (Term.int 2)) (by decide +kernel)
    · exact hs (Cond.eq (Term.length (Term.field (Term.string "LevelCellars$Reader" 124) "java/lang/String" "value" "[B")) (Term.int 2)) (by decide +kernel)
  · intro i hi j hj
    rcases (show i = 0 ∨ i = 1 ∨ i = 2 ∨ i = 3 ∨ i = 4 ∨ i = 5 by omega) with rfl | rfl | rfl | rfl | rfl | rfl
    · have hj : j < 4 := hj
      rcases (show j = 0 ∨ j = 1 ∨ j = 2 ∨ j = 3 by omega) with rfl | rfl | rfl | rfl
      · exact hs (Cond.eq (Term.elem (Term.field (Term.string "LevelCellars$Reader" 48) "java/lang/String" "value" "[B") (Term.int 0)) (Term.int 104)) (by decide +kernel)
      · exact hs (Cond.eq (Term.elem (Term.field (Term.string "LevelCellars$Reader" 48) "java/lang/String" "value" "[B") (Term.int 1)) (Term.int 105)) (by decide +kernel)
      · exact hs (Cond.eq (Term.elem (Term.field (Term.string "LevelCellars$Reader" 48) "java/lang/String" "value" "[B") (Term.int 2)) (Term.int 103)) (by decide +kernel)
      · exact hs (Cond.eq (Term.elem (Term.field (Term.string "LevelCellars$Reader" 48) "java/lang/String" "value" "[B") (Term.int 3)) (Term.int 104)) (by decide +kernel)
    · have hj : j < 3 := hj
      rcases (show j = 0 ∨ j = 1 ∨ j = 2 by omega) with rfl | rfl | rfl
      · exact hs (Cond.eq (Term.elem (Term.field (Term.string "LevelCellars$Reader" 57) "java/lang/String" "value" "[B") (Term.int 0)) (Term.int 102)) (by decide +kernel)
      · exact hs (Cond.eq (Term.elem (Term.field (Term.string "LevelCellars$Reader" 57) "java/lang/String" "value" "[B") (Term.int 1)) (Term.int 101)) (by decide +kernel)
      · exact hs (Cond.eq (Term.elem (Term.field (Term.string "LevelCellars$Reader" 57) "java/lang/String" "value" "[B") (Term.int 2)) (Term.int 101)) (by decide +kernel)
    · have hj : j < 4 := hj
      rcases (show j = 0 ∨ j = 1 ∨ j = 2 ∨ j = 3 by omega) with rfl | rfl | rfl | rfl
      · exact hs (Cond.eq (Term.elem (Term.field (Term.string "LevelCellars$Reader" 59) "java/lang/String" "value" "[B") (Term.int 0)) (Term.int 102)) (by decide +kernel)
      · exact hs (Cond.eq (Term.elem (Term.field (Term.string "LevelCellars$Reader" 59) "java/lang/String" "value" "[B") (Term.int 1)) (Term.int 105)) (by decide +kernel)
      · exact hs (Cond.eq (Term.elem (Term.field (Term.string "LevelCellars$Reader" 59) "java/lang/String" "value" "[B") (Term.int 2)) (Term.int 110)) (by decide +kernel)
      · exact hs (Cond.eq (Term.elem (Term.field (Term.string "LevelCellars$Reader" 59) "java/lang/String" "value" "[B") (Term.int 3)) (Term.int 101)) (by decide +kernel)
    · have hj : j < 3 := hj
      rcases (show j = 0 ∨ j = 1 ∨ j = 2 by omega) with rfl | rfl | rfl
      · exact hs (Cond.eq (Term.elem (Term.field (Term.string "LevelCellars$Reader" 120) "java/lang/String" "value" "[B") (Term.int 0)) (Term.int 102)) (by decide +kernel)
      · exact hs (Cond.eq (Term.elem (Term.field (Term.string "LevelCellars$Reader" 120) "java/lang/String" "value" "[B") (Term.int 1)) (Term.int 108)) (by decide +kernel)
      · exact hs (Cond.eq (Term.elem (Term.field (Term.string "LevelCellars$Reader" 120) "java/lang/String" "value" "[B") (Term.int 2)) (Term.int 119)) (by decide +kernel)
    · have hj : j < 2 := hj
      rcases (show j = 0 ∨ j = 1 by omega) with rfl | rfl
      · exact hs (Cond.eq (Term.elem (Term.field (Term.string "LevelCellars$Reader" 122) "java/lang/String" "value" "[B") (Term.int 0)) (Term.int 115)) (by decide +kernel)
      · exact hs (Cond.eq (Term.elem (Term.field (Term.string "LevelCellars$Reader" 122) "java/lang/String" "value" "[B") (Term.int 1)) (Term.int 104)) (by decide +kernel)
    · have hj : j < 2 := hj
      rcases (show j = 0 ∨ j = 1 by omega) with rfl | rfl
      · exact hs (Cond.eq (Term.elem (Term.field (Term.string "LevelCellars$Reader" 124) "java/lang/String" "value" "[B") (Term.int 0)) (Term.int 119)) (by decide +kernel)
      · exact hs (Cond.eq (Term.elem (Term.field (Term.string "LevelCellars$Reader" 124) "java/lang/String" "value" "[B") (Term.int 1)) (Term.int 108)) (by decide +kernel)
  · intro i j hi hj hij
    rcases (show i = 0 ∨ i = 1 ∨ i = 2 ∨ i = 3 ∨ i = 4 ∨ i = 5 by omega) with rfl | rfl | rfl | rfl | rfl | rfl
    · rcases (show j = 1 ∨ j = 2 ∨ j = 3 ∨ j = 4 ∨ j = 5 by omega) with rfl | rfl | rfl | rfl | rfl
      · exact Or.inl (hs (Cond.not (Cond.eq (Term.string "LevelCellars$Reader" 48) (Term.string "LevelCellars$Reader" 57))) (by decide +kernel))
      · exact Or.inl (hs (Cond.not (Cond.eq (Term.string "LevelCellars$Reader" 48) (Term.string "LevelCellars$Reader" 59))) (by decide +kernel))
      · exact Or.inl (hs (Cond.not (Cond.eq (Term.string "LevelCellars$Reader" 48) (Term.string "LevelCellars$Reader" 120))) (by decide +kernel))
      · exact Or.inl (hs (Cond.not (Cond.eq (Term.string "LevelCellars$Reader" 48) (Term.string "LevelCellars$Reader" 122))) (by decide +kernel))
      · exact Or.inl (hs (Cond.not (Cond.eq (Term.string "LevelCellars$Reader" 48) (Term.string "LevelCellars$Reader" 124))) (by decide +kernel))
    · rcases (show j = 0 ∨ j = 2 ∨ j = 3 ∨ j = 4 ∨ j = 5 by omega) with rfl | rfl | rfl | rfl | rfl
      · exact Or.inr (hs (Cond.not (Cond.eq (Term.string "LevelCellars$Reader" 48) (Term.string "LevelCellars$Reader" 57))) (by decide +kernel))
      · exact Or.inl (hs (Cond.not (Cond.eq (Term.string "LevelCellars$Reader" 57) (Term.string "LevelCellars$Reader" 59))) (by decide +kernel))
      · exact Or.inl (hs (Cond.not (Cond.eq (Term.string "LevelCellars$Reader" 57) (Term.string "LevelCellars$Reader" 120))) (by decide +kernel))
      · exact Or.inl (hs (Cond.not (Cond.eq (Term.string "LevelCellars$Reader" 57) (Term.string "LevelCellars$Reader" 122))) (by decide +kernel))
      · exact Or.inl (hs (Cond.not (Cond.eq (Term.string "LevelCellars$Reader" 57) (Term.string "LevelCellars$Reader" 124))) (by decide +kernel))
    · rcases (show j = 0 ∨ j = 1 ∨ j = 3 ∨ j = 4 ∨ j = 5 by omega) with rfl | rfl | rfl | rfl | rfl
      · exact Or.inr (hs (Cond.not (Cond.eq (Term.string "LevelCellars$Reader" 48) (Term.string "LevelCellars$Reader" 59))) (by decide +kernel))
      · exact Or.inr (hs (Cond.not (Cond.eq (Term.string "LevelCellars$Reader" 57) (Term.string "LevelCellars$Reader" 59))) (by decide +kernel))
      · exact Or.inl (hs (Cond.not (Cond.eq (Term.string "LevelCellars$Reader" 59) (Term.string "LevelCellars$Reader" 120))) (by decide +kernel))
      · exact Or.inl (hs (Cond.not (Cond.eq (Term.string "LevelCellars$Reader" 59) (Term.string "LevelCellars$Reader" 122))) (by decide +kernel))
      · exact Or.inl (hs (Cond.not (Cond.eq (Term.string "LevelCellars$Reader" 59) (Term.string "LevelCellars$Reader" 124))) (by decide +kernel))
    · rcases (show j = 0 ∨ j = 1 ∨ j = 2 ∨ j = 4 ∨ j = 5 by omega) with rfl | rfl | rfl | rfl | rfl
      · exact Or.inr (hs (Cond.not (Cond.eq (Term.string "LevelCellars$Reader" 48) (Term.string "LevelCellars$Reader" 120))) (by decide +kernel))
      · exact Or.inr (hs (Cond.not (Cond.eq (Term.string "LevelCellars$Reader" 57) (Term.string "LevelCellars$Reader" 120))) (by decide +kernel))
      · exact Or.inr (hs (Cond.not (Cond.eq (Term.string "LevelCellars$Reader" 59) (Term.string "LevelCellars$Reader" 120))) (by decide +kernel))
      · exact Or.inl (hs (Cond.not (Cond.eq (Term.string "LevelCellars$Reader" 120) (Term.string "LevelCellars$Reader" 122))) (by decide +kernel))
      · exact Or.inl (hs (Cond.not (Cond.eq (Term.string "LevelCellars$Reader" 120) (Term.string "LevelCellars$Reader" 124))) (by decide +kernel))
    · rcases (show j = 0 ∨ j = 1 ∨ j = 2 ∨ j = 3 ∨ j = 5 by omega) with rfl | rfl | rfl | rfl | rfl
      · exact Or.inr (hs (Cond.not (Cond.eq (Term.string "LevelCellars$Reader" 48) (Term.string "LevelCellars$Reader" 122))) (by decide +kernel))
      · exact Or.inr (hs (Cond.not (Cond.eq (Term.string "LevelCellars$Reader" 57) (Term.string "LevelCellars$Reader" 122))) (by decide +kernel))
      · exact Or.inr (hs (Cond.not (Cond.eq (Term.string "LevelCellars$Reader" 59) (Term.string "LevelCellars$Reader" 122))) (by decide +kernel))
      · exact Or.inr (hs (Cond.not (Cond.eq (Term.string "LevelCellars$Reader" 120) (Term.string "LevelCellars$Reader" 122))) (by decide +kernel))
      · exact Or.inl (hs (Cond.not (Cond.eq (Term.string "LevelCellars$Reader" 122) (Term.string "LevelCellars$Reader" 124))) (by decide +kernel))
    · rcases (show j = 0 ∨ j = 1 ∨ j = 2 ∨ j = 3 ∨ j = 4 by omega) with rfl | rfl | rfl | rfl | rfl
      · exact Or.inr (hs (Cond.not (Cond.eq (Term.string "LevelCellars$Reader" 48) (Term.string "LevelCellars$Reader" 124))) (by decide +kernel))
      · exact Or.inr (hs (Cond.not (Cond.eq (Term.string "LevelCellars$Reader" 57) (Term.string "LevelCellars$Reader" 124))) (by decide +kernel))
      · exact Or.inr (hs (Cond.not (Cond.eq (Term.string "LevelCellars$Reader" 59) (Term.string "LevelCellars$Reader" 124))) (by decide +kernel))
      · exact Or.inr (hs (Cond.not (Cond.eq (Term.string "LevelCellars$Reader" 120) (Term.string "LevelCellars$Reader" 124))) (by decide +kernel))
      · exact Or.inr (hs (Cond.not (Cond.eq (Term.string "LevelCellars$Reader" 122) (Term.string "LevelCellars$Reader" 124))) (by decide +kernel))
theorem st_oat {s : State} {b : Nat} (hgv : (Jvm.Cond.and given_1 narrow_1).before #[Value.ref b] s = true) (hts : ∀ w ∈ lw_tbl, w.before #[Value.ref b] s = true) : ∃ tx : Nat → Nat, ∀ G : vG, G.wr = (fun q : Nat => s.heap.size ≤ q) → (∀ p, 1000 ≤ p → G.th p = tx p) → vOat G s s.heap := by
  have hs := flat_of_before _ hgv
  have hA : ∀ a : Nat, a < s.heap.size → ¬ (fun q : Nat => s.heap.size ≤ q) a := fun a h => Nat.not_le.mpr h
  obtain ⟨t, ht, hT⟩ := va_Tof (tm := (Term.static "LevelCellars$Kinds" "ABOVE" "[I")) (ty := .int) (N := 6) (f := fun j => .int (abF j)) (A := fun q : Nat => s.heap.size ≤ q) (by decide) (hs (Cond.arrayOf (Term.static "LevelCellars$Kinds" "ABOVE" "[I") FieldType.int) (by decide +kernel)) (va_eqt (hs (Cond.eq (Term.length (Term.static "LevelCellars$Kinds" "ABOVE" "[I")) (Term.int 6)) (by decide +kernel))) (fun j hj => by
    rcases (show j = 0 ∨ j = 1 ∨ j = 2 ∨ j = 3 ∨ j = 4 ∨ j = 5 by omega) with rfl | rfl | rfl | rfl | rfl | rfl
    · exact va_eqt (hs (Cond.eq (Term.elem (Term.static "LevelCellars$Kinds" "ABOVE" "[I") (Term.int 0)) (Term.int (-1))) (by decide +kernel))
    · exact va_eqt (hs (Cond.eq (Term.elem (Term.static "LevelCellars$Kinds" "ABOVE" "[I") (Term.int 1)) (Term.int 0)) (by decide +kernel))
    · exact va_eqt (hs (Cond.eq (Term.elem (Term.static "LevelCellars$Kinds" "ABOVE" "[I") (Term.int 2)) (Term.int 0)) (by decide +kernel))
    · exact va_eqt (hs (Cond.eq (Term.elem (Term.static "LevelCellars$Kinds" "ABOVE" "[I") (Term.int 3)) (Term.int 1)) (by decide +kernel))
    · exact va_eqt (hs (Cond.eq (Term.elem (Term.static "LevelCellars$Kinds" "ABOVE" "[I") (Term.int 4)) (Term.int 2)) (by decide +kernel))
    · exact va_eqt (hs (Cond.eq (Term.elem (Term.static "LevelCellars$Kinds" "ABOVE" "[I") (Term.int 5)) (Term.int 0)) (by decide +kernel))) hA
  have z1 := va_Zof (A := fun q : Nat => s.heap.size ≤ q) (hts (Cond.laysStatic "LevelCellars$Kinds" "ABOVE" "[I") (List.mem_of_getElem? (i := 385) (by decide +kernel))) (hts (Cond.initialized "LevelCellars$Kinds") (List.mem_of_getElem? (i := 67) (by decide +kernel))) ht hA
  have z2 := va_Zof (A := fun q : Nat => s.heap.size ≤ q) (hts (Cond.laysStatic "java/lang/String" "COMPACT_STRINGS" "Z") (List.mem_of_getElem? (i := 637) (by decide +kernel))) (hts (Cond.initialized "java/lang/String") (List.mem_of_getElem? (i := 70) (by decide +kernel))) (va_eqt (hs (Cond.eq (Term.static "java/lang/String" "COMPACT_STRINGS" "Z") (Term.int 1)) (by decide +kernel))) hA
  have z3 := va_Zqof (A := fun q : Nat => s.heap.size ≤ q) (hts (Cond.laysStatic "jdk/internal/util/Preconditions" "SIOOBE_FORMATTER" "Ljava/util/function/BiFunction;") (List.mem_of_getElem? (i := 653) (by decide +kernel))) (hts (Cond.initialized "jdk/internal/util/Preconditions") (List.mem_of_getElem? (i := 72) (by decide +kernel))) (hs (Cond.isRef (Term.static "jdk/internal/util/Preconditions" "SIOOBE_FORMATTER" "Ljava/util/function/BiFunction;")) (by decide +kernel)) hA
  obtain ⟨adK, adV, hS, hE⟩ := st_tx hs (A := fun q : Nat => s.heap.size ≤ q) hA
  obtain ⟨u, hu⟩ : ∃ u : Nat, va_Z "jdk/internal/util/Preconditions" "SIOOBE_FORMATTER" "Ljava/util/function/BiFunction;" .null (fun q : Nat => s.heap.size ≤ q) s s.heap ∨ va_Z "jdk/internal/util/Preconditions" "SIOOBE_FORMATTER" "Ljava/util/function/BiFunction;" (.ref u) (fun q : Nat => s.heap.size ≤ q) s s.heap := by
    rcases z3 with h | ⟨u, h⟩
    · exact ⟨0, Or.inl h⟩
    · exact ⟨u, Or.inr h⟩
  refine ⟨fun p => if p = 1000 then t else if p = 1020 then u else if p < 1011 then adK (p - 1001) else adV (p - 1011), fun G hwr hth => ?_⟩
  have e0 : G.th 1000 = t := by rw [hth 1000 (by omega)]; rfl
  have e1 : G.th 1020 = u := by rw [hth 1020 (by omega)]; rfl
  have eK : ∀ i, i < 6 → G.th (1001 + i) = adK i := fun i hi => by rw [hth _ (by omega)]; simp only [if_neg (show ¬ (1001 + i = 1000) by omega), if_neg (show ¬ (1001 + i = 1020) by omega), if_pos (show 1001 + i < 1011 by omega)]; rw [Nat.add_sub_cancel_left]
  have eV : ∀ i, i < 6 → G.th (1011 + i) = adV i := fun i hi => by rw [hth _ (by omega)]; simp only [if_neg (show ¬ (1011 + i = 1000) by omega), if_neg (show ¬ (1011 + i = 1020) by omega), if_neg (show ¬ (1011 + i < 1011) by omega)]; rw [Nat.add_sub_cancel_left]
  unfold vOat
  rw [hwr, e0, e1]
  refine ⟨z1, hT, ⟨fun i hi => ?_, fun i j hi hj h => ?_⟩, z2, hu, ?_, ?_, ?_, ?_, ?_, ?_⟩
  · simp only [eK i hi, eV i hi]; exact hS.1 i hi
  · simp only [eK i hi, eK j hj] at h; exact hS.2 i j hi hj h
  · rw [show G.th 1001 = adK 0 from eK 0 (by decide)]; exact vk_R.of (hts (Cond.stringRef "LevelCellars$Reader" 48 "high") (List.mem_of_getElem? (i := 623) (by decide +kernel))) (hE 0 (by decide))
  · rw [show G.th 1002 = adK 1 from eK 1 (by decide)]; exact vk_R.of (hts (Cond.stringRef "LevelCellars$Reader" 57 "fee") (List.mem_of_getElem? (i := 676) (by decide +kernel))) (hE 1 (by decide))
  · rw [show G.th 1003 = adK 2 from eK 2 (by decide)]; exact vk_R.of (hts (Cond.stringRef "LevelCellars$Reader" 59 "fine") (List.mem_of_getElem? (i := 677) (by decide +kernel))) (hE 2 (by decide))
  · rw [show G.th 1004 = adK 3 from eK 3 (by decide)]; exact vk_R.of (hts (Cond.stringRef "LevelCellars$Reader" 120 "flw") (List.mem_of_getElem? (i := 705) (by decide +kernel))) (hE 3 (by decide))
  · rw [show G.th 1005 = adK 4 from eK 4 (by decide)]; exact vk_R.of (hts (Cond.stringRef "LevelCellars$Reader" 122 "sh") (List.mem_of_getElem? (i := 706) (by decide +kernel))) (hE 4 (by decide))
  · rw [show G.th 1006 = adK 5 from eK 5 (by decide)]; exact vk_R.of (hts (Cond.stringRef "LevelCellars$Reader" 124 "wl") (List.mem_of_getElem? (i := 707) (by decide +kernel))) (hE 5 (by decide))
