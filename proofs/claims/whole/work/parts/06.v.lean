/-! ===== the words of all methods, one list ===== -/
def WD : List Cond := lw_tbl.filter goodWord
theorem wd {c : Cond} (i : Nat) (h : lw_tbl[i]? = some c) (hg : goodWord c = true) : c ∈ WD := List.mem_filter.mpr ⟨List.mem_of_getElem? h, hg⟩
theorem wd_list {ws : List Cond} (is : List Nat) (h : is.filterMap (fun i => lw_tbl[i]?) = ws) (hg : ws.all goodWord = true) : ∀ w ∈ ws, w ∈ WD := by
  intro w hw
  have h1 := List.all_eq_true.mp hg w hw
  rw [← h] at hw
  obtain ⟨i, -, hi⟩ := List.mem_filterMap.mp hw
  exact wd i hi h1
theorem wd_in {y : MethodName} {cc : ByteArray} {n : Nat} {r : Option FieldType} (hc : Cond.code y cc n r ∈ WD) : GoodIn WD (Cond.code y cc n r :: WD) := by
  intro w hw
  rcases List.mem_cons.mp hw with rfl | h
  · exact ⟨hc, good_of_word (List.mem_filter.mp hc).2⟩
  · exact ⟨h, good_of_word (List.mem_filter.mp h).2⟩
theorem uw_0 : ∀ w ∈ u_ws RX1 TX1 4, w ∈ WD := wd_list [102, 104, 106, 108] (by decide +kernel) (by decide +kernel)
theorem uw_1 : ∀ w ∈ u_ws RX2 TX2 7, w ∈ WD := wd_list [121, 123, 125, 127, 129, 131, 133] (by decide +kernel) (by decide +kernel)
theorem uw_2 : ∀ w ∈ u_ws RX3 TX3 3, w ∈ WD := wd_list [154, 156, 158] (by decide +kernel) (by decide +kernel)
theorem uw_3 : ∀ w ∈ u_ws RX4 TX4 5, w ∈ WD := wd_list [175, 177, 179, 181, 183] (by decide +kernel) (by decide +kernel)
theorem uw_4 : ∀ w ∈ u_ws RX5 TX5 20, w ∈ WD := wd_list [230, 232, 234, 236, 238, 240, 242, 244, 246, 248, 250, 252, 254, 256, 258, 260, 262, 264, 266, 268] (by decide +kernel) (by decide +kernel)
theorem uw_5 : ∀ w ∈ u_ws RX6 TX6 10, w ∈ WD := wd_list [281, 283, 285, 287, 289, 291, 293, 295, 297, 299] (by decide +kernel) (by decide +kernel)
theorem uw_6 : ∀ w ∈ u_ws RX7 TX7 35, w ∈ WD := wd_list [925, 927, 929, 931, 933, 935, 937, 939, 941, 943, 945, 947, 949, 951, 953, 955, 957, 959, 961, 963, 965, 967, 969, 971, 973, 975, 977, 979, 981, 983, 985, 987, 989, 991, 993] (by decide +kernel) (by decide +kernel)

/-! ===== the heap of ints, and its fixed shape ===== -/
abbrev vS : Type := Nat → Nat → Int32
def vup (σ : vS) (p k : Nat) (v : Int32) : vS := fun q j => if q = p ∧ j = k then v else σ q j
theorem vup_same {σ : vS} {p k : Nat} {v : Int32} : vup σ p k v p k = v := by simp [vup]
theorem vup_ne {σ : vS} {p k q j : Nat} {v : Int32} (h : ¬ (q = p ∧ j = k)) : vup σ p k v q j = σ q j := by simp only [vup, if_neg h]
theorem vup_p {σ : vS} {p k q : Nat} {v : Int32} (h : q ≠ p) : vup σ p k v q = σ q := by
  funext j
  exact vup_ne (fun z => h z.1)
theorem vup_at {σ : vS} {p k : Nat} {v : Int32} : vup σ p k v p = upd (σ p) k v := by
  funext j
  simp [vup, upd]
def vcp (σ : vS) (p0 p1 sp dp n : Nat) : vS := fun q j => if q = p1 ∧ dp ≤ j ∧ j < dp + n then σ p0 (sp + (j - dp)) else σ q j
theorem vcp_p {σ : vS} {p0 p1 sp dp n q : Nat} (h : q ≠ p1) : vcp σ p0 p1 sp dp n q = σ q := by
  funext j
  simp [vcp, h]
theorem vcp_at {σ : vS} {p0 p1 sp dp n : Nat} : vcp σ p0 p1 sp dp n p1 = va_cpy (σ p0) (σ p1) sp dp n := by
  funext j
  simp [vcp, va_cpy]
abbrev vSh : Type := Nat × Nat × Nat × List (Option Nat)
/-- kind (0 an array of numbers, 1 an array of references, 2 an object), which type, how many, the references -/
def shp : List vSh := [
  (2, 5, 10, [some 61, some 73, some 85, none, some 8, some 1, some 5, some 6, some 7, none]),
  (2, 1, 7, [none, some 2, some 4, none, none, none, none]),
  (2, 0, 4, [none, none, none, some 3]),
  (0, 0, 96, []),
  (0, 0, 96, []),
  (1, 4, 4, [some 37, some 39, some 41, some 43]),
  (1, 5, 5, [some 45, some 48, some 51, some 54, some 57]),
  (0, 0, 60, []),
  (1, 3, 14, [some 9, some 11, some 13, some 15, some 17, some 19, some 21, some 23, some 25, some 27, some 29, some 31, some 33, some 35]),
  (2, 0, 4, [none, none, none, some 10]),
  (0, 0, 96, []),
  (2, 0, 4, [none, none, none, some 12]),
  (0, 0, 96, []),
  (2, 0, 4, [none, none, none, some 14]),
  (0, 0, 96, []),
  (2, 0, 4, [none, none, none, some 16]),
  (0, 0, 96, []),
  (2, 0, 4, [none, none, none, some 18]),
  (0, 0, 96, []),
  (2, 0, 4, [none, none, none, some 20]),
  (0, 0, 96, []),
  (2, 0, 4, [none, none, none, some 22]),
  (0, 0, 96, []),
  (2, 0, 4, [none, none, none, some 24]),
  (0, 0, 96, []),
  (2, 0, 4, [none, none, none, some 26]),
  (0, 0, 96, []),
  (2, 0, 4, [none, none, none, some 28]),
  (0, 0, 96, []),
  (2, 0, 4, [none, none, none, some 30]),
  (0, 0, 96, []),
  (2, 0, 4, [none, none, none, some 32]),
  (0, 0, 96, []),
  (2, 0, 4, [none, none, none, some 34]),
  (0, 0, 96, []),
  (2, 0, 4, [none, none, none, some 36]),
  (0, 0, 96, []),
  (2, 2, 3, [none, none, some 38]),
  (0, 0, 24, []),
  (2, 2, 3, [none, none, some 40]),
  (0, 0, 24, []),
  (2, 2, 3, [none, none, some 42]),
  (0, 0, 24, []),
  (2, 2, 3, [none, none, some 44]),
  (0, 0, 24, []),
  (2, 3, 5, [none, none, none, none, some 46]),
  (2, 2, 3, [none, none, some 47]),
  (0, 0, 24, []),
  (2, 3, 5, [none, none, none, none, some 49]),
  (2, 2, 3, [none, none, some 50]),
  (0, 0, 24, []),
  (2, 3, 5, [none, none, none, none, some 52]),
  (2, 2, 3, [none, none, some 53]),
  (0, 0, 24, []),
  (2, 3, 5, [none, none, none, none, some 55]),
  (2, 2, 3, [none, none, some 56]),
  (0, 0, 24, []),
  (2, 3, 5, [none, none, none, none, some 58]),
  (2, 2, 3, [none, none, some 59]),
  (0, 0, 24, []),
  (0, 0, 96, []),
  (2, 4, 20, [some 62, some 63, some 64, some 65, some 66, none, some 67, some 68, some 69, some 70, none, none, none, none, none, none, some 71, some 8, some 60, some 72]),
  (0, 0, 8, []),
  (0, 0, 8, []),
  (0, 0, 8, []),
  (0, 0, 24, []),
  (0, 0, 8, []),
  (0, 0, 13, []),
  (0, 0, 13, []),
  (0, 0, 13, []),
  (0, 0, 13, []),
  (0, 0, 3, []),
  (0, 0, 3, []),
  (2, 4, 20, [some 74, some 75, some 76, some 77, some 78, none, some 79, some 80, some 81, some 82, none, none, none, none, none, none, some 83, some 8, some 60, some 84]),
  (0, 0, 8, []),
  (0, 0, 8, []),
  (0, 0, 8, []),
  (0, 0, 24, []),
  (0, 0, 8, []),
  (0, 0, 13, []),
  (0, 0, 13, []),
  (0, 0, 13, []),
  (0, 0, 13, []),
  (0, 0, 3, []),
  (0, 0, 3, []),
  (2, 4, 20, [some 86, some 87, some 88, some 89, some 90, none, some 91, some 92, some 93, some 94, none, none, none, none, none, none, some 95, some 8, some 60, some 96]),
  (0, 0, 8, []),
  (0, 0, 8, []),
  (0, 0, 8, []),
  (0, 0, 24, []),
  (0, 0, 8, []),
  (0, 0, 13, []),
  (0, 0, 13, []),
  (0, 0, 13, []),
  (0, 0, 13, []),
  (0, 0, 3, []),
  (0, 0, 3, []),
  (2, 6, 35, [some 98, some 99, some 100, none, some 101, some 102, some 103, some 104, none, none, none, none, none, none, none, some 105, some 106, some 107, none, none, some 108, none, some 109, some 110, some 111, some 112, some 113, some 114, some 115, some 116, some 117, some 118, some 119, some 120, none]),
  (0, 0, 1479, []),
  (0, 0, 1479, []),
  (0, 0, 1479, []),
  (0, 0, 3, []),
  (0, 0, 107, []),
  (0, 0, 8, []),
  (0, 0, 96, []),
  (0, 1, 11, []),
  (0, 0, 4, []),
  (0, 0, 96, []),
  (0, 0, 96, []),
  (0, 2, 10, []),
  (0, 0, 96, []),
  (0, 0, 4, []),
  (0, 0, 4, []),
  (0, 0, 4, []),
  (0, 0, 96, []),
  (0, 0, 5, []),
  (0, 0, 5, []),
  (0, 0, 5, []),
  (0, 0, 120, []),
  (0, 0, 24, []),
  (0, 0, 60, [])]
def sh (p : Nat) : vSh := shp.getD p (0, 0, 0, [])
def nP : Nat := 121
/-- launch, the numbers of the tables, array types, the addresses of the places, what may be written -/
abbrev vG : Type := Launch × va_G × (Nat → ClassId) × (Nat → Nat) × (Nat → Prop)
abbrev vG.th (G : vG) : Nat → Nat := G.2.2.2.1
abbrev vG.wr (G : vG) : Nat → Prop := G.2.2.2.2
def vtys (cA : Nat → ClassId) : List (ClassId × FieldType) := [(cA 0, .int), (cA 1, .char), (cA 2, .boolean), (cA 3, .object "LevelCellars$Law"), (cA 4, .object "LevelCellars$Sheet"), (cA 5, .object "LevelCellars$Slot")]
def vfs (th : Nat → Nat) (f : Nat → Int32) (n : Nat) (fs : List (Option Nat)) : List Value := (List.range n).map (fun j => match fs.getD j none with
  | some q => Value.ref (th q)
  | none => Value.int (f j))
def vcell (G : vG) (f : Nat → Int32) (s : vSh) : va_E := match s with
  | (0, k, n, _) => .inl (G.2.2.1 k, n, .inl f)
  | (1, k, n, fs) => .inl (G.2.2.1 k, n, .inr (.inr (.inr (.inr (fun j => (fs.getD j none).map G.th)))))
  | (_, ci, n, fs) => .inr (ci, vfs G.th f n fs)
def wsOf (G : vG) (σ : vS) : va_W := (List.range nP).map (fun p => (G.th p, vcell G (σ p) (sh p)))
theorem wsOf_get (G : vG) (σ : vS) {p : Nat} (hp : p < nP) : (wsOf G σ)[p]? = some (G.th p, vcell G (σ p) (sh p)) := by
  simp [wsOf, List.getElem?_map, List.getElem?_range hp]
theorem wsOf_set (G : vG) (σ σ' : vS) {p : Nat} (hp : p < nP) (h : ∀ q, q ≠ p → σ' q = σ q) : (wsOf G σ).set p (G.th p, vcell G (σ' p) (sh p)) = wsOf G σ' := by
  apply List.ext_getElem?
  intro q
  by_cases hq : q = p
  · subst hq
    rw [wsOf_get G σ' hp, List.getElem?_set_self (by simp [wsOf]; exact hp)]
  · rw [List.getElem?_set_ne (fun e => hq e.symm)]
    by_cases hl : q < nP
    · rw [wsOf_get G σ hl, wsOf_get G σ' hl, h q hq]
    · rw [List.getElem?_eq_none (by simp [wsOf]; omega), List.getElem?_eq_none (by simp [wsOf]; omega)]
/-- the heap holds the ints σ -/
def vP (G : vG) (σ : vS) (H : Heap) : Prop := va_P G.2.1 vwCl (wsOf G σ) H ∧ va_D G.wr (wsOf G σ)
/-- what nobody writes: the table of kinds, six texts -/
def abF (j : Nat) : Int32 := ([-1, 0, 0, 1, 2, 0] : List Int32).getD j 0
def txL : List Nat := [4, 3, 4, 3, 2, 2]
def txB : List (List Int32) := [[104, 105, 103, 104], [102, 101, 101], [102, 105, 110, 101], [102, 108, 119], [115, 104], [119, 108]]
def vOat (G : vG) (U : State) (H : Heap) : Prop :=
  va_Z "LevelCellars$Kinds" "ABOVE" "[I" (.ref (G.th 1000)) G.wr U H ∧ va_T .int (G.th 1000) 6 (fun j => .int (abF j)) G.wr U H ∧
  vk_S 6 txL txB (fun j => G.th (1001 + j)) (fun j => G.th (1011 + j)) G.wr U H ∧ va_Z "java/lang/String" "COMPACT_STRINGS" "Z" (.int 1) G.wr U H ∧
  (va_Z "jdk/internal/util/Preconditions" "SIOOBE_FORMATTER" "Ljava/util/function/BiFunction;" .null G.wr U H ∨ va_Z "jdk/internal/util/Preconditions" "SIOOBE_FORMATTER" "Ljava/util/function/BiFunction;" (.ref (G.th 1020)) G.wr U H) ∧
  vk_R "LevelCellars$Reader" 48 "high" (G.th 1001) U ∧ vk_R "LevelCellars$Reader" 57 "fee" (G.th 1002) U ∧ vk_R "LevelCellars$Reader" 59 "fine" (G.th 1003) U ∧ vk_R "LevelCellars$Reader" 120 "flw" (G.th 1004) U ∧ vk_R "LevelCellars$Reader" 122 "sh" (G.th 1005) U ∧ vk_R "LevelCellars$Reader" 124 "wl" (G.th 1006) U
theorem vOat.kept {G : vG} {U : State} {H H1 : Heap} (h : vOat G U H) (hq : ∀ a : Nat, a < H.size → ¬ G.wr a → H1[a]? = H[a]?) : vOat G U H1 := by
  obtain ⟨h1, h2, h3, h4, h0, h5⟩ := h
  exact ⟨h1.kept hq, h2.kept hq, h3.kept hq, h4.kept hq, h0.elim (fun z => Or.inl (z.kept hq)) (fun z => Or.inr (z.kept hq)), h5⟩
theorem vOat.warm {G : vG} {s U : State} {H : Heap} (h : vOat G s H) (hW : s.WarmedH U.vm) : vOat G U H := by
  obtain ⟨h1, h2, h3, h4, h0, h5, h6, h7, h8, h9, h10⟩ := h
  exact ⟨va_Z.moved hW.alike h1, va_T.moved hW.alike h2, vk_S.moved hW.alike h3, va_Z.moved hW.alike h4, h0.elim (fun z => Or.inl (va_Z.moved hW.alike z)) (fun z => Or.inr (va_Z.moved hW.alike z)), h5.warm hW, h6.warm hW, h7.warm hW, h8.warm hW, h9.warm hW, h10.warm hW⟩
theorem vOat.same {G : vG} {s U : State} {H : Heap} (h : vOat G s H) (hv : U.vm = s.vm) : vOat G U H := by
  obtain ⟨h1, h2, h3, h4, h0, h5, h6, h7, h8, h9, h10⟩ := h
  have ha : s.vm.Alike U.vm := by rw [hv]; exact Vm.Alike.refl _
  exact ⟨va_Z.moved ha h1, va_T.moved ha h2, vk_S.moved ha h3, va_Z.moved ha h4, h0.elim (fun z => Or.inl (va_Z.moved ha z)) (fun z => Or.inr (va_Z.moved ha z)), h5.same hv, h6.same hv, h7.same hv, h8.same hv, h9.same hv, h10.same hv⟩
def vK (G : vG) (U : State) : Prop := va_K G.2.1 vwCl (vtys G.2.2.1) U ∧ vOat G U U.heap
/-- a value, with its place instead of its address -/
def vc (G : vG) (v : Value) : Value := match v with
  | .ref p => .ref (G.th p)
  | w => w
theorem vc_cat (G : vG) (v : Value) : (vc G v).category = v.category := by cases v <;> rfl
theorem vc_sum (G : vG) (st : List Value) : ((st.map (vc G)).map fun v => v.category).sum = (st.map fun v => v.category).sum := by
  rw [List.map_map]
  congr 1
  apply List.map_congr_left
  intro v _
  exact vc_cat G v
/-- what is known of the cells of a frame -/
def vL (G : vG) (ls : Array Slot) (nL : Nat) (lo : List (Option Value)) : Prop := ls.size = nL ∧ lv_wf ls ∧ ∀ (i : Nat) (v : Value), lo[i]? = some (some v) → ls[i]? = some (.val (vc G v))
def vrm (d : Nat) : Room := { frames := d, cells := 0, slots := 0, locals := 64 * d }
def vAct (G : vG) (own : String) (cc : ByteArray) (ret : Option FieldType) (nL : Nat) (p : Program) (s : State) (m : MethodId) (args : Array Value) (meth : Method) (c : Code) : Prop :=
  p.tables.exec = Jvm.exec ∧ c.code = cc ∧ meth.sig.returnType = ret ∧ c.maxLocals = nL ∧ s.vm.findClass own = some m.cls ∧ (∀ w ∈ WD, w.before args s = true) ∧ meth.locks = false ∧ vK G s
def vQ (G : vG) (Q : Option Value → vS → Prop) : Array Value → State → Outcome → State → Prop := fun _ s0 o t =>
  (∃ (r : Option Value) (σ' : vS), o = .returned (r.map (vc G)) ∧ Q r σ' ∧ vP G σ' t.heap ∧ vK G t) ∧ va_F G.wr s0 t
def V (G : vG) (own : String) (cc : ByteArray) (ret : Option FieldType) (nL d : Nat) (Q : Option Value → vS → Prop) (pc : Nat) (lo : List (Option Value)) (st : List Value) (σ : vS) : Prop :=
  ∀ (p : Program) (e : Env) (s : State) (m : MethodId) (args : Array Value) (below : List Frame) (meth : Method) (c : Code) (H : Heap) (locs : List Loc) (ls : Array Slot),
    vAct G own cc ret nL p s m args meth c → vP G σ H → va_S G.wr s.heap H locs → vL G ls nL lo →
    W p G.1 e (vrm d) s m args below meth c H locs 0 0 (MQ below (vQ G Q) args s 0 0 G.wr) (F0 m pc ls (st.map (vc G)))
/-- a method's contract: from these arguments and ints to an answer and ints with Q -/
def Ct (G : vG) (y : MethodName) (cc : ByteArray) (nL : Nat) (ret : Option FieldType) (d : Nat) (av : List Value) (σ : vS) (Q : Option Value → vS → Prop) : Prop :=
  Met G.1 y (Cond.code y cc nL ret :: WD) (vrm d) (fun a U => a = (av.map (vc G)).toArray ∧ vP G σ U.heap ∧ vK G U) (vQ G Q) 0 0 G.wr
def vlo (n : Nat) (av : List Value) : List (Option Value) := av.map some ++ List.replicate (n - av.length) none
theorem lv_args_cat1 (i : Nat) : ∀ (vs : List Value), (∀ v ∈ vs, v.category = 1) → ∀ (j : Nat) (v : Value), vs[j]? = some v → (i + j, v) ∈ lv_args i vs := by
  intro vs
  induction vs generalizing i with
  | nil => intro _ j v h; simp at h
  | cons a l ih =>
    intro hc j v h
    have ha : a.category = 1 := hc a List.mem_cons_self
    unfold lv_args
    cases j with
    | zero =>
      simp only [List.getElem?_cons_zero, Option.some.injEq] at h
      subst h
      exact List.mem_cons_self
    | succ j =>
      simp only [List.getElem?_cons_succ] at h
      apply List.mem_cons_of_mem
      have := ih (i + a.category) (fun v hv => hc v (List.mem_cons_of_mem _ hv)) j v h
      rw [ha] at this ⊢
      rw [show i + (j + 1) = i + 1 + j by omega]
      exact this
theorem lg_sl_len1 : ∀ (vs : List Value), (∀ v ∈ vs, v.category = 1) → (lg_sl vs).length = vs.length := by
  intro vs
  induction vs with
  | nil => intro _; rfl
  | cons a l ih =>
    intro hc
    have ha : ¬ a.category = 2 := by rw [hc a List.mem_cons_self]; decide
    have := ih (fun v hv => hc v (List.mem_cons_of_mem _ hv))
    simp only [lg_sl, List.flatMap_cons, if_neg ha, List.length_append, List.length_cons, List.length_nil] at this ⊢
    omega
/-- a contract out of a walk from the entry -/
theorem Ct.ofV {G : vG} {y : MethodName} {cc : ByteArray} {nL : Nat} {ret : Option FieldType} {d : Nat} {av : List Value} {σ : vS} {Q : Option Value → vS → Prop}
    (hy : plainName y.cls = true) (hn : av.length ≤ nL) (hc : av.all (fun v => v.category == 1) = true)
    (h : V G y.cls cc ret nL d Q 0 (vlo nL av) [] σ) : Ct G y cc nL ret d av σ Q := by
  have hc1 : ∀ v ∈ av.map (vc G), v.category = 1 := by
    intro v hv
    obtain ⟨u, hu, rfl⟩ := List.mem_map.mp hv
    rw [vc_cat]
    simpa using List.all_eq_true.mp hc u hu
  refine Met.ofW (cc := cc) (maxL := nL) (ret := ret) hy rfl ?_
  intro p e s m args below meth c s₁ B hml hv
  obtain ⟨rfl, hP, hK⟩ := hv
  have hts := atoms_spec (ws := Cond.code y cc nL ret :: WD) B.pre
  have hown : s.vm.findClass y.cls = some m.cls := findClass_of_methodNamed B.named
  have hlen : (lg_sl (av.map (vc G))).length ≤ nL := by rw [lg_sl_len1 _ hc1]; simpa using hn
  have hl := lv_entry (av.map (vc G)) (n := nL) hlen
  rw [lg_entry_eq]
  refine h p e s m _ below meth c s.heap [] _ ⟨B.exec, B.bytes, B.returns, hml, hown, fun w hw => hts w (List.mem_cons_of_mem _ hw), B.notSynchronized, hK⟩ hP va_S.rf ⟨hl.1, hl.2.1, fun i v hi => ?_⟩
  have hi' : av[i]? = some v := by
    unfold vlo at hi
    by_cases hlt : i < av.length
    · rw [List.getElem?_append_left (by simpa using hlt), List.getElem?_map] at hi
      cases hav : av[i]? with
      | none => rw [hav] at hi; simp at hi
      | some u => rw [hav] at hi; simp at hi; rw [hi]
    · rw [List.getElem?_append_right (by simpa using Nat.not_lt.mp hlt)] at hi
      rw [List.getElem?_replicate] at hi
      split at hi <;> simp at hi
  have := lv_args_cat1 0 (av.map (vc G)) hc1 i (vc G v) (by rw [List.getElem?_map, hi']; rfl)
  rw [Nat.zero_add] at this
  exact hl.2.2 _ this
theorem Ct.mono {G : vG} {y : MethodName} {cc : ByteArray} {nL : Nat} {ret : Option FieldType} {d : Nat} {av : List Value} {σ : vS} {Q Q' : Option Value → vS → Prop} (h : ∀ r σ', Q r σ' → Q' r σ') (k : Ct G y cc nL ret d av σ Q) : Ct G y cc nL ret d av σ Q' := by
  intro p e ha hc hk s m args below hf happ hP hT
  obtain ⟨t, o, h1, h2, h3, ⟨⟨⟨r, σ', e1, e2, e3, e4⟩, e5⟩, h5⟩⟩ := k p e ha hc hk s m args below hf happ hP hT
  exact ⟨t, o, h1, h2, h3, ⟨⟨⟨r, σ', e1, h _ _ e2, e3, e4⟩, e5⟩, h5⟩⟩
section VR
variable {G : vG} {own : String} {cc : ByteArray} {ret : Option FieldType} {nL d pc : Nat} {Q : Option Value → vS → Prop} {lo : List (Option Value)} {st : List Value} {σ : vS}
theorem V.mono {Q' : Option Value → vS → Prop} (h : ∀ r σ', Q r σ' → Q' r σ') (k : V G own cc ret nL d Q pc lo st σ) : V G own cc ret nL d Q' pc lo st σ := by
  intro p e s m args below meth c H locs ls hA hP hS hL T hT X
  obtain ⟨t, a, o, b1, b2, ⟨⟨r, σ', e1, e2, e3, e4⟩, e5⟩, b4⟩ := k p e s m args below meth c H locs ls hA hP hS hL T hT X
  exact ⟨t, a, o, b1, b2, ⟨⟨r, σ', e1, h _ _ e2, e3, e4⟩, e5⟩, b4⟩
/-! constants -/
theorem V_iconst {n : Int} (v : Int32) (hd : decode cc pc = .ok (.iconst n, 1)) (hv : Int32.ofInt n = v) (k : V G own cc ret nL d Q (pc + 1) lo (.int v :: st) σ) : V G own cc ret nL d Q pc lo st σ := by
  intro p e s m args below meth c H locs ls hA hP hS hL
  obtain ⟨hx, hb, -⟩ := id hA
  exact lv_iconst hx hb hd hv (k p e s m args below meth c H locs ls hA hP hS hL)
theorem V_bipush {n : Int} (v : Int32) (hd : decode cc pc = .ok (.bipush n, 2)) (hv : (Int8.ofInt n).toInt32 = v) (k : V G own cc ret nL d Q (pc + 2) lo (.int v :: st) σ) : V G own cc ret nL d Q pc lo st σ := by
  intro p e s m args below meth c H locs ls hA hP hS hL
  obtain ⟨hx, hb, -⟩ := id hA
  exact lv_bipush hx hb hd hv (k p e s m args below meth c H locs ls hA hP hS hL)
theorem V_sipush {n : Int} (v : Int32) (hd : decode cc pc = .ok (.sipush n, 3)) (hv : (Int16.ofInt n).toInt32 = v) (k : V G own cc ret nL d Q (pc + 3) lo (.int v :: st) σ) : V G own cc ret nL d Q pc lo st σ := by
  intro p e s m args below meth c H locs ls hA hP hS hL
  obtain ⟨hx, hb, -⟩ := id hA
  exact lv_sipush hx hb hd hv (k p e s m args below meth c H locs ls hA hP hS hL)
theorem V_lconst {n : Fin 2} (v : Int64) (hd : decode cc pc = .ok (.lconst n, 1)) (hv : Int64.ofNat (n : Nat) = v) (k : V G own cc ret nL d Q (pc + 1) lo (.long v :: st) σ) : V G own cc ret nL d Q pc lo st σ := by
  intro p e s m args below meth c H locs ls hA hP hS hL
  obtain ⟨hx, hb, -⟩ := id hA
  exact lv_lconst hx hb hd hv (k p e s m args below meth c H locs ls hA hP hS hL)
theorem V_ldc {idx : Nat} (v : Int32) (hd : decode cc pc = .ok (.ldc idx, 2)) (hw : Cond.constant own idx v ∈ WD) (k : V G own cc ret nL d Q (pc + 2) lo (.int v :: st) σ) : V G own cc ret nL d Q pc lo st σ := by
  intro p e s m args below meth c H locs ls hA hP hS hL
  obtain ⟨hx, hb, hr, hml, hown, hts, hlk, hK⟩ := id hA
  exact lv_ldc hx hb hown (hts _ hw) hd (k p e s m args below meth c H locs ls hA hP hS hL)
theorem V_ldcw {idx : Nat} (v : Int32) (hd : decode cc pc = .ok (.ldc_w idx, 3)) (hw : Cond.constant own idx v ∈ WD) (k : V G own cc ret nL d Q (pc + 3) lo (.int v :: st) σ) : V G own cc ret nL d Q pc lo st σ := by
  intro p e s m args below meth c H locs ls hA hP hS hL
  obtain ⟨hx, hb, hr, hml, hown, hts, hlk, hK⟩ := id hA
  exact lv_ldcw hx hb hown (hts _ hw) hd (k p e s m args below meth c H locs ls hA hP hS hL)
/-! arithmetic -/
theorem V_iadd {x y : Int32} (hd : decode cc pc = .ok (.iadd, 1)) (k : V G own cc ret nL d Q (pc + 1) lo (.int (x + y) :: st) σ) : V G own cc ret nL d Q pc lo (.int y :: .int x :: st) σ := by
  intro p e s m args below meth c H locs ls hA hP hS hL
  obtain ⟨hx, hb, -⟩ := id hA
  exact lv_iadd hx hb hd (k p e s m args below meth c H locs ls hA hP hS hL)
theorem V_isub {x y : Int32} (hd : decode cc pc = .ok (.isub, 1)) (k : V G own cc ret nL d Q (pc + 1) lo (.int (x - y) :: st) σ) : V G own cc ret nL d Q pc lo (.int y :: .int x :: st) σ := by
  intro p e s m args below meth c H locs ls hA hP hS hL
  obtain ⟨hx, hb, -⟩ := id hA
  exact lv_isub hx hb hd (k p e s m args below meth c H locs ls hA hP hS hL)
theorem V_imul {x y : Int32} (hd : decode cc pc = .ok (.imul, 1)) (k : V G own cc ret nL d Q (pc + 1) lo (.int (x * y) :: st) σ) : V G own cc ret nL d Q pc lo (.int y :: .int x :: st) σ := by
  intro p e s m args below meth c H locs ls hA hP hS hL
  obtain ⟨hx, hb, -⟩ := id hA
  exact lv_imul hx hb hd (k p e s m args below meth c H locs ls hA hP hS hL)
theorem V_iand {x y : Int32} (hd : decode cc pc = .ok (.iand, 1)) (k : V G own cc ret nL d Q (pc + 1) lo (.int (x &&& y) :: st) σ) : V G own cc ret nL d Q pc lo (.int y :: .int x :: st) σ := by
  intro p e s m args below meth c H locs ls hA hP hS hL
  obtain ⟨hx, hb, -⟩ := id hA
  exact lv_iand hx hb hd (k p e s m args below meth c H locs ls hA hP hS hL)
theorem V_ior {x y : Int32} (hd : decode cc pc = .ok (.ior, 1)) (k : V G own cc ret nL d Q (pc + 1) lo (.int (x ||| y) :: st) σ) : V G own cc ret nL d Q pc lo (.int y :: .int x :: st) σ := by
  intro p e s m args below meth c H locs ls hA hP hS hL
  obtain ⟨hx, hb, -⟩ := id hA
  exact lv_ior hx hb hd (k p e s m args below meth c H locs ls hA hP hS hL)
theorem V_ishl {x y : Int32} (hd : decode cc pc = .ok (.ishl, 1)) (k : V G own cc ret nL d Q (pc + 1) lo (.int (x <<< (y &&& 31)) :: st) σ) : V G own cc ret nL d Q pc lo (.int y :: .int x :: st) σ := by
  intro p e s m args below meth c H locs ls hA hP hS hL
  obtain ⟨hx, hb, -⟩ := id hA
  exact lv_ishl hx hb hd (k p e s m args below meth c H locs ls hA hP hS hL)
theorem V_ishr {x y : Int32} (hd : decode cc pc = .ok (.ishr, 1)) (k : V G own cc ret nL d Q (pc + 1) lo (.int (x >>> (y &&& 31)) :: st) σ) : V G own cc ret nL d Q pc lo (.int y :: .int x :: st) σ := by
  intro p e s m args below meth c H locs ls hA hP hS hL
  obtain ⟨hx, hb, -⟩ := id hA
  exact lv_ishr hx hb hd (k p e s m args below meth c H locs ls hA hP hS hL)
theorem V_ladd {x y : Int64} (hd : decode cc pc = .ok (.ladd, 1)) (k : V G own cc ret nL d Q (pc + 1) lo (.long (x + y) :: st) σ) : V G own cc ret nL d Q pc lo (.long y :: .long x :: st) σ := by
  intro p e s m args below meth c H locs ls hA hP hS hL
  obtain ⟨hx, hb, -⟩ := id hA
  exact lv_ladd hx hb hd (k p e s m args below meth c H locs ls hA hP hS hL)
theorem V_lsub {x y : Int64} (hd : decode cc pc = .ok (.lsub, 1)) (k : V G own cc ret nL d Q (pc + 1) lo (.long (x - y) :: st) σ) : V G own cc ret nL d Q pc lo (.long y :: .long x :: st) σ := by
  intro p e s m args below meth c H locs ls hA hP hS hL
  obtain ⟨hx, hb, -⟩ := id hA
  exact lv_lsub hx hb hd (k p e s m args below meth c H locs ls hA hP hS hL)
theorem V_lmul {x y : Int64} (hd : decode cc pc = .ok (.lmul, 1)) (k : V G own cc ret nL d Q (pc + 1) lo (.long (x * y) :: st) σ) : V G own cc ret nL d Q pc lo (.long y :: .long x :: st) σ := by
  intro p e s m args below meth c H locs ls hA hP hS hL
  obtain ⟨hx, hb, -⟩ := id hA
  exact lv_lmul hx hb hd (k p e s m args below meth c H locs ls hA hP hS hL)
theorem V_ineg {x : Int32} (hd : decode cc pc = .ok (.ineg, 1)) (k : V G own cc ret nL d Q (pc + 1) lo (.int (-x) :: st) σ) : V G own cc ret nL d Q pc lo (.int x :: st) σ := by
  intro p e s m args below meth c H locs ls hA hP hS hL
  obtain ⟨hx, hb, -⟩ := id hA
  exact lv_ineg hx hb hd (k p e s m args below meth c H locs ls hA hP hS hL)

theorem V_idiv {x y : Int32} (hd : decode cc pc = .ok (.idiv, 1)) (hne : ¬ y = 0) (k : V G own cc ret nL d Q (pc + 1) lo (.int (x / y) :: st) σ) : V G own cc ret nL d Q pc lo (.int y :: .int x :: st) σ := by
  intro p e s m args below meth c H locs ls hA hP hS hL
  obtain ⟨hx, hb, -⟩ := id hA
  exact lv_idiv hx hb hd hne (k p e s m args below meth c H locs ls hA hP hS hL)
theorem V_irem {x y : Int32} (hd : decode cc pc = .ok (.irem, 1)) (hne : ¬ y = 0) (k : V G own cc ret nL d Q (pc + 1) lo (.int (x - x / y * y) :: st) σ) : V G own cc ret nL d Q pc lo (.int y :: .int x :: st) σ := by
  intro p e s m args below meth c H locs ls hA hP hS hL
  obtain ⟨hx, hb, -⟩ := id hA
  exact lv_irem hx hb hd hne (k p e s m args below meth c H locs ls hA hP hS hL)
theorem V_ldiv {x y : Int64} (hd : decode cc pc = .ok (.ldiv, 1)) (hne : ¬ y = 0) (k : V G own cc ret nL d Q (pc + 1) lo (.long (x / y) :: st) σ) : V G own cc ret nL d Q pc lo (.long y :: .long x :: st) σ := by
  intro p e s m args below meth c H locs ls hA hP hS hL
  obtain ⟨hx, hb, -⟩ := id hA
  exact lv_ldiv hx hb hd hne (k p e s m args below meth c H locs ls hA hP hS hL)
theorem V_lneg {x : Int64} (hd : decode cc pc = .ok (.lneg, 1)) (k : V G own cc ret nL d Q (pc + 1) lo (.long (-x) :: st) σ) : V G own cc ret nL d Q pc lo (.long x :: st) σ := by
  intro p e s m args below meth c H locs ls hA hP hS hL
  obtain ⟨hx, hb, -⟩ := id hA
  exact lv_lneg hx hb hd (k p e s m args below meth c H locs ls hA hP hS hL)
theorem V_lcmp {x y : Int64} (hd : decode cc pc = .ok (.lcmp, 1)) (k : V G own cc ret nL d Q (pc + 1) lo (.int (lg_cmp x y) :: st) σ) : V G own cc ret nL d Q pc lo (.long y :: .long x :: st) σ := by
  intro p e s m args below meth c H locs ls hA hP hS hL
  obtain ⟨hx, hb, -⟩ := id hA
  exact W.lcmp hx hb hd (k p e s m args below meth c H locs ls hA hP hS hL)
theorem V_i2l {x : Int32} (hd : decode cc pc = .ok (.i2l, 1)) (k : V G own cc ret nL d Q (pc + 1) lo (.long x.toInt64 :: st) σ) : V G own cc ret nL d Q pc lo (.int x :: st) σ := by
  intro p e s m args below meth c H locs ls hA hP hS hL
  obtain ⟨hx, hb, -⟩ := id hA
  exact lv_i2l hx hb hd rfl (k p e s m args below meth c H locs ls hA hP hS hL)
theorem V_l2i {x : Int64} (hd : decode cc pc = .ok (.l2i, 1)) (k : V G own cc ret nL d Q (pc + 1) lo (.int x.toInt32 :: st) σ) : V G own cc ret nL d Q pc lo (.long x :: st) σ := by
  intro p e s m args below meth c H locs ls hA hP hS hL
  obtain ⟨hx, hb, -⟩ := id hA
  exact lv_l2i hx hb hd rfl (k p e s m args below meth c H locs ls hA hP hS hL)
theorem V_i2s {x : Int32} (hd : decode cc pc = .ok (.i2s, 1)) (k : V G own cc ret nL d Q (pc + 1) lo (.int x.toInt16.toInt32 :: st) σ) : V G own cc ret nL d Q pc lo (.int x :: st) σ := by
  intro p e s m args below meth c H locs ls hA hP hS hL
  obtain ⟨hx, hb, -⟩ := id hA
  exact lv_i2s hx hb hd rfl (k p e s m args below meth c H locs ls hA hP hS hL)
theorem V_i2c {x : Int32} (hd : decode cc pc = .ok (.i2c, 1)) (k : V G own cc ret nL d Q (pc + 1) lo (.int (x.toUInt32 % 65536).toInt32 :: st) σ) : V G own cc ret nL d Q pc lo (.int x :: st) σ := by
  intro p e s m args below meth c H locs ls hA hP hS hL
  obtain ⟨hx, hb, -⟩ := id hA
  exact lv_i2c hx hb hd rfl (k p e s m args below meth c H locs ls hA hP hS hL)
theorem V_iushr {x y : Int32} (hd : decode cc pc = .ok (.iushr, 1)) (k : V G own cc ret nL d Q (pc + 1) lo (.int (x.toUInt32 >>> (y.toUInt32 &&& Int32.toUInt32 31)).toInt32 :: st) σ) : V G own cc ret nL d Q pc lo (.int y :: .int x :: st) σ := by
  intro p e s m args below meth c H locs ls hA hP hS hL
  obtain ⟨hx, hb, -⟩ := id hA
  exact lv_iushr hx hb hd rfl (k p e s m args below meth c H locs ls hA hP hS hL)
/-! stack -/
theorem V_dup {v : Value} (hd : decode cc pc = .ok (.dup, 1)) (hv : v.category = 1) (k : V G own cc ret nL d Q (pc + 1) lo (v :: v :: st) σ) : V G own cc ret nL d Q pc lo (v :: st) σ := by
  intro p e s m args below meth c H locs ls hA hP hS hL
  obtain ⟨hx, hb, -⟩ := id hA
  exact lv_dup hx hb hd (by rw [vc_cat]; exact hv) (k p e s m args below meth c H locs ls hA hP hS hL)
theorem V_pop {v : Value} (hd : decode cc pc = .ok (.pop, 1)) (hv : v.category = 1) (k : V G own cc ret nL d Q (pc + 1) lo st σ) : V G own cc ret nL d Q pc lo (v :: st) σ := by
  intro p e s m args below meth c H locs ls hA hP hS hL
  obtain ⟨hx, hb, -⟩ := id hA
  exact lv_pop hx hb hd (by rw [vc_cat]; exact hv) (k p e s m args below meth c H locs ls hA hP hS hL)
theorem V_dup2 {v u : Value} (hd : decode cc pc = .ok (.dup2, 1)) (hv : v.category = 1) (hu : u.category = 1) (k : V G own cc ret nL d Q (pc + 1) lo (v :: u :: v :: u :: st) σ) : V G own cc ret nL d Q pc lo (v :: u :: st) σ := by
  intro p e s m args below meth c H locs ls hA hP hS hL
  obtain ⟨hx, hb, -⟩ := id hA
  exact lv_dup2_11 hx hb hd (by rw [vc_cat]; exact hv) (by rw [vc_cat]; exact hu) (k p e s m args below meth c H locs ls hA hP hS hL)
theorem V_goto {off : Int} (hd : decode cc pc = .ok (.goto off, 3)) (tgt : Nat) (ht : (pc : Int) + off = (tgt : Int)) (k : V G own cc ret nL d Q tgt lo st σ) : V G own cc ret nL d Q pc lo st σ := by
  intro p e s m args below meth c H locs ls hA hP hS hL
  obtain ⟨hx, hb, -⟩ := id hA
  exact lv_goto hx hb hd ht (k p e s m args below meth c H locs ls hA hP hS hL)
theorem V_tab {dflt lw hi : Int} {offs : Array Int} {len : Nat} {x : Int32} (v : Int) (off : Int) (tgt : Nat) (hd : decode cc pc = .ok (.tableswitch dflt lw hi offs, len)) (hx : x.toInt = v) (h1 : ¬ v < lw) (h2 : ¬ hi < v) (ho : offs[(v - lw).toNat]? = some off) (ht : (pc : Int) + off = (tgt : Int)) (k : V G own cc ret nL d Q tgt lo st σ) : V G own cc ret nL d Q pc lo (.int x :: st) σ := by
  subst hx
  intro p e s m args below meth c H locs ls hA hP hS hL
  obtain ⟨hx, hb, -⟩ := id hA
  exact lv_tableIn hx hb hd h1 h2 ho ht (k p e s m args below meth c H locs ls hA hP hS hL)
theorem V_tabD {dflt lw hi : Int} {offs : Array Int} {len : Nat} {x : Int32} (tgt : Nat) (hd : decode cc pc = .ok (.tableswitch dflt lw hi offs, len)) (h : x.toInt < lw ∨ hi < x.toInt) (ht : (pc : Int) + dflt = (tgt : Int)) (k : V G own cc ret nL d Q tgt lo st σ) : V G own cc ret nL d Q pc lo (.int x :: st) σ := by
  intro p e s m args below meth c H locs ls hA hP hS hL
  obtain ⟨hx, hb, -⟩ := id hA
  exact lv_tableOut hx hb hd h ht (k p e s m args below meth c H locs ls hA hP hS hL)
theorem V_lks {dflt : Int} {ps : Array (Int × Int)} {len : Nat} {x : Int32} (off : Int) (tgt : Nat) (hd : decode cc pc = .ok (.lookupswitch dflt ps, len)) (hp : (ps.toList.zip (ps.toList.drop 1)).all (fun (a, next) => a.1 < next.1) = true) (ho : Op.lookupswitch.offset ps.toList dflt x.toInt = off) (ht : (pc : Int) + off = (tgt : Int)) (k : V G own cc ret nL d Q tgt lo st σ) : V G own cc ret nL d Q pc lo (.int x :: st) σ := by
  intro p e s m args below meth c H locs ls hA hP hS hL
  obtain ⟨hx, hb, -⟩ := id hA
  exact lv_lookup hx hb hd hp ho ht (k p e s m args below meth c H locs ls hA hP hS hL)
/-! a value under another name -/
theorem V_top {v w : Value} (h : v = w) (k : V G own cc ret nL d Q pc lo (w :: st) σ) : V G own cc ret nL d Q pc lo (v :: st) σ := h ▸ k
theorem V_topi {x y : Int32} (h : x = y) (k : V G own cc ret nL d Q pc lo (.int y :: st) σ) : V G own cc ret nL d Q pc lo (.int x :: st) σ := h ▸ k
theorem V_sub {v x y : Int32} (h : x = y) (k : V G own cc ret nL d Q pc lo (.int v :: .int y :: st) σ) : V G own cc ret nL d Q pc lo (.int v :: .int x :: st) σ := h ▸ k
theorem V_st {st' : List Value} (h : st = st') (k : V G own cc ret nL d Q pc lo st' σ) : V G own cc ret nL d Q pc lo st σ := h ▸ k
theorem V_lo {lo' : List (Option Value)} (h : lo = lo') (k : V G own cc ret nL d Q pc lo' st σ) : V G own cc ret nL d Q pc lo st σ := h ▸ k
theorem V_hp {σ' : vS} (h : σ = σ') (k : V G own cc ret nL d Q pc lo st σ') : V G own cc ret nL d Q pc lo st σ := h ▸ k
/-! endings -/
theorem V_iret {v : Int32} (hd : decode cc pc = .ok (.ireturn, 1)) (hq : Q (some (.int v)) σ) : V G own cc (some .int) nL d Q pc lo [.int v] σ := by
  intro p e s m args below meth c H locs ls hA hP hS hL
  obtain ⟨hx, hb, hr, hml, hown, hts, hlk, hK⟩ := id hA
  exact W.iret hx hb hr (fun t ht hW => ⟨⟨some (.int v), σ, rfl, hq, by rw [ht]; exact hP, va_K.moved hW.alike hK.1, by rw [ht]; exact (hK.2.kept hS.2.1).warm hW⟩, hS.F ht⟩) hS.2.2 hd hlk
theorem V_zret {v : Int32} {ty : FieldType} (hd : decode cc pc = .ok (.ireturn, 1)) (hn : narrow ty (.int v) = .int v) (hq : Q (some (.int v)) σ) : V G own cc (some ty) nL d Q pc lo [.int v] σ := by
  intro p e s m args below meth c H locs ls hA hP hS hL
  obtain ⟨hx, hb, hr, hml, hown, hts, hlk, hK⟩ := id hA
  exact W.zret hx hb hr hn (fun t ht hW => ⟨⟨some (.int v), σ, rfl, hq, by rw [ht]; exact hP, va_K.moved hW.alike hK.1, by rw [ht]; exact (hK.2.kept hS.2.1).warm hW⟩, hS.F ht⟩) hS.2.2 hd hlk
theorem V_lret {v : Int64} (hd : decode cc pc = .ok (.lreturn, 1)) (hq : Q (some (.long v)) σ) : V G own cc (some .long) nL d Q pc lo [.long v] σ := by
  intro p e s m args below meth c H locs ls hA hP hS hL
  obtain ⟨hx, hb, hr, hml, hown, hts, hlk, hK⟩ := id hA
  exact W.lret hx hb hr (fun t ht hW => ⟨⟨some (.long v), σ, rfl, hq, by rw [ht]; exact hP, va_K.moved hW.alike hK.1, by rw [ht]; exact (hK.2.kept hS.2.1).warm hW⟩, hS.F ht⟩) hS.2.2 hd hlk
theorem V_aret {q : Nat} {n : String} (hd : decode cc pc = .ok (.areturn, 1)) (hq : Q (some (.ref q)) σ) : V G own cc (some (.object n)) nL d Q pc lo [.ref q] σ := by
  intro p e s m args below meth c H locs ls hA hP hS hL
  obtain ⟨hx, hb, hr, hml, hown, hts, hlk, hK⟩ := id hA
  exact W.aret (v := .ref (G.th q)) hx hb hr (Or.inl ⟨_, rfl⟩) (Or.inr ⟨_, rfl⟩) (fun t ht hW => ⟨⟨some (.ref q), σ, rfl, hq, by rw [ht]; exact hP, va_K.moved hW.alike hK.1, by rw [ht]; exact (hK.2.kept hS.2.1).warm hW⟩, hS.F ht⟩) hS.2.2 hd hlk
theorem V_vret (hd : decode cc pc = .ok (.return_, 1)) (hq : Q none σ) : V G own cc none nL d Q pc lo [] σ := by
  intro p e s m args below meth c H locs ls hA hP hS hL
  obtain ⟨hx, hb, hr, hml, hown, hts, hlk, hK⟩ := id hA
  exact W.vret hx hb hr (fun t ht hW => ⟨⟨none, σ, rfl, hq, by rw [ht]; exact hP, va_K.moved hW.alike hK.1, by rw [ht]; exact (hK.2.kept hS.2.1).warm hW⟩, hS.F ht⟩) hS.2.2 hd hlk
end VR
/-! ===== loads of a frame's cells ===== -/
theorem V_iloadn_0 {G : vG} {own : String} {cc : ByteArray} {ret : Option FieldType} {nL d pc : Nat} {Q : Option Value → vS → Prop} {st : List Value} {σ : vS} {tl : List (Option Value)} {x : Int32} (hd : decode cc pc = .ok (.iload_n 0, 1)) (k : V G own cc ret nL d Q (pc + 1) (some (.int x) :: tl) (.int x :: st) σ) : V G own cc ret nL d Q pc (some (.int x) :: tl) st σ := by
  intro p e s m args below meth c H locs ls hA hP hS hL
  obtain ⟨hx, hb, -⟩ := id hA
  exact lv_iload_n hx hb hd rfl (hL.2.2 0 (.int x) rfl) (k p e s m args below meth c H locs ls hA hP hS hL)
theorem V_iload_0 {G : vG} {own : String} {cc : ByteArray} {ret : Option FieldType} {nL d pc : Nat} {Q : Option Value → vS → Prop} {st : List Value} {σ : vS} {tl : List (Option Value)} {x : Int32} (hd : decode cc pc = .ok (.iload 0, 2)) (k : V G own cc ret nL d Q (pc + 2) (some (.int x) :: tl) (.int x :: st) σ) : V G own cc ret nL d Q pc (some (.int x) :: tl) st σ := by
  intro p e s m args below meth c H locs ls hA hP hS hL
  obtain ⟨hx, hb, -⟩ := id hA
  exact lv_iload hx hb hd (hL.2.2 0 (.int x) rfl) (k p e s m args below meth c H locs ls hA hP hS hL)
theorem V_aloadn_0 {G : vG} {own : String} {cc : ByteArray} {ret : Option FieldType} {nL d pc : Nat} {Q : Option Value → vS → Prop} {st : List Value} {σ : vS} {tl : List (Option Value)} {x : Nat} (hd : decode cc pc = .ok (.aload_n 0, 1)) (k : V G own cc ret nL d Q (pc + 1) (some (.ref x) :: tl) (.ref x :: st) σ) : V G own cc ret nL d Q pc (some (.ref x) :: tl) st σ := by
  intro p e s m args below meth c H locs ls hA hP hS hL
  obtain ⟨hx, hb, -⟩ := id hA
  exact lv_aload_n hx hb hd rfl (hL.2.2 0 (.ref x) rfl) (k p e s m args below meth c H locs ls hA hP hS hL)
theorem V_aload_0 {G : vG} {own : String} {cc : ByteArray} {ret : Option FieldType} {nL d pc : Nat} {Q : Option Value → vS → Prop} {st : List Value} {σ : vS} {tl : List (Option Value)} {x : Nat} (hd : decode cc pc = .ok (.aload 0, 2)) (k : V G own cc ret nL d Q (pc + 2) (some (.ref x) :: tl) (.ref x :: st) σ) : V G own cc ret nL d Q pc (some (.ref x) :: tl) st σ := by
  intro p e s m args below meth c H locs ls hA hP hS hL
  obtain ⟨hx, hb, -⟩ := id hA
  exact lv_aload hx hb hd (hL.2.2 0 (.ref x) rfl) (k p e s m args below meth c H locs ls hA hP hS hL)
theorem V_lloadn_0 {G : vG} {own : String} {cc : ByteArray} {ret : Option FieldType} {nL d pc : Nat} {Q : Option Value → vS → Prop} {st : List Value} {σ : vS} {tl : List (Option Value)} {x : Int64} (hd : decode cc pc = .ok (.lload_n 0, 1)) (k : V G own cc ret nL d Q (pc + 1) (some (.long x) :: tl) (.long x :: st) σ) : V G own cc ret nL d Q pc (some (.long x) :: tl) st σ := by
  intro p e s m args below meth c H locs ls hA hP hS hL
  obtain ⟨hx, hb, -⟩ := id hA
  exact lv_lload_n hx hb hd rfl (hL.2.2 0 (.long x) rfl) (k p e s m args below meth c H locs ls hA hP hS hL)
theorem V_lload_0 {G : vG} {own : String} {cc : ByteArray} {ret : Option FieldType} {nL d pc : Nat} {Q : Option Value → vS → Prop} {st : List Value} {σ : vS} {tl : List (Option Value)} {x : Int64} (hd : decode cc pc = .ok (.lload 0, 2)) (k : V G own cc ret nL d Q (pc + 2) (some (.long x) :: tl) (.long x :: st) σ) : V G own cc ret nL d Q pc (some (.long x) :: tl) st σ := by
  intro p e s m args below meth c H locs ls hA hP hS hL
  obtain ⟨hx, hb, -⟩ := id hA
  exact lv_lload hx hb hd (hL.2.2 0 (.long x) rfl) (k p e s m args below meth c H locs ls hA hP hS hL)
theorem V_iloadn_1 {G : vG} {own : String} {cc : ByteArray} {ret : Option FieldType} {nL d pc : Nat} {Q : Option Value → vS → Prop} {st : List Value} {σ : vS} {a0 : Option Value} {tl : List (Option Value)} {x : Int32} (hd : decode cc pc = .ok (.iload_n 1, 1)) (k : V G own cc ret nL d Q (pc + 1) (a0 :: some (.int x) :: tl) (.int x :: st) σ) : V G own cc ret nL d Q pc (a0 :: some (.int x) :: tl) st σ := by
  intro p e s m args below meth c H locs ls hA hP hS hL
  obtain ⟨hx, hb, -⟩ := id hA
  exact lv_iload_n hx hb hd rfl (hL.2.2 1 (.int x) rfl) (k p e s m args below meth c H locs ls hA hP hS hL)
theorem V_iload_1 {G : vG} {own : String} {cc : ByteArray} {ret : Option FieldType} {nL d pc : Nat} {Q : Option Value → vS → Prop} {st : List Value} {σ : vS} {a0 : Option Value} {tl : List (Option Value)} {x : Int32} (hd : decode cc pc = .ok (.iload 1, 2)) (k : V G own cc ret nL d Q (pc + 2) (a0 :: some (.int x) :: tl) (.int x :: st) σ) : V G own cc ret nL d Q pc (a0 :: some (.int x) :: tl) st σ := by
  intro p e s m args below meth c H locs ls hA hP hS hL
  obtain ⟨hx, hb, -⟩ := id hA
  exact lv_iload hx hb hd (hL.2.2 1 (.int x) rfl) (k p e s m args below meth c H locs ls hA hP hS hL)
theorem V_aloadn_1 {G : vG} {own : String} {cc : ByteArray} {ret : Option FieldType} {nL d pc : Nat} {Q : Option Value → vS → Prop} {st : List Value} {σ : vS} {a0 : Option Value} {tl : List (Option Value)} {x : Nat} (hd : decode cc pc = .ok (.aload_n 1, 1)) (k : V G own cc ret nL d Q (pc + 1) (a0 :: some (.ref x) :: tl) (.ref x :: st) σ) : V G own cc ret nL d Q pc (a0 :: some (.ref x) :: tl) st σ := by
  intro p e s m args below meth c H locs ls hA hP hS hL
  obtain ⟨hx, hb, -⟩ := id hA
  exact lv_aload_n hx hb hd rfl (hL.2.2 1 (.ref x) rfl) (k p e s m args below meth c H locs ls hA hP hS hL)
theorem V_aload_1 {G : vG} {own : String} {cc : ByteArray} {ret : Option FieldType} {nL d pc : Nat} {Q : Option Value → vS → Prop} {st : List Value} {σ : vS} {a0 : Option Value} {tl : List (Option Value)} {x : Nat} (hd : decode cc pc = .ok (.aload 1, 2)) (k : V G own cc ret nL d Q (pc + 2) (a0 :: some (.ref x) :: tl) (.ref x :: st) σ) : V G own cc ret nL d Q pc (a0 :: some (.ref x) :: tl) st σ := by
  intro p e s m args below meth c H locs ls hA hP hS hL
  obtain ⟨hx, hb, -⟩ := id hA
  exact lv_aload hx hb hd (hL.2.2 1 (.ref x) rfl) (k p e s m args below meth c H locs ls hA hP hS hL)
theorem V_lloadn_1 {G : vG} {own : String} {cc : ByteArray} {ret : Option FieldType} {nL d pc : Nat} {Q : Option Value → vS → Prop} {st : List Value} {σ : vS} {a0 : Option Value} {tl : List (Option Value)} {x : Int64} (hd : decode cc pc = .ok (.lload_n 1, 1)) (k : V G own cc ret nL d Q (pc + 1) (a0 :: some (.long x) :: tl) (.long x :: st) σ) : V G own cc ret nL d Q pc (a0 :: some (.long x) :: tl) st σ := by
  intro p e s m args below meth c H locs ls hA hP hS hL
  obtain ⟨hx, hb, -⟩ := id hA
  exact lv_lload_n hx hb hd rfl (hL.2.2 1 (.long x) rfl) (k p e s m args below meth c H locs ls hA hP hS hL)
theorem V_lload_1 {G : vG} {own : String} {cc : ByteArray} {ret : Option FieldType} {nL d pc : Nat} {Q : Option Value → vS → Prop} {st : List Value} {σ : vS} {a0 : Option Value} {tl : List (Option Value)} {x : Int64} (hd : decode cc pc = .ok (.lload 1, 2)) (k : V G own cc ret nL d Q (pc + 2) (a0 :: some (.long x) :: tl) (.long x :: st) σ) : V G own cc ret nL d Q pc (a0 :: some (.long x) :: tl) st σ := by
  intro p e s m args below meth c H locs ls hA hP hS hL
  obtain ⟨hx, hb, -⟩ := id hA
  exact lv_lload hx hb hd (hL.2.2 1 (.long x) rfl) (k p e s m args below meth c H locs ls hA hP hS hL)
theorem V_iloadn_2 {G : vG} {own : String} {cc : ByteArray} {ret : Option FieldType} {nL d pc : Nat} {Q : Option Value → vS → Prop} {st : List Value} {σ : vS} {a0 a1 : Option Value} {tl : List (Option Value)} {x : Int32} (hd : decode cc pc = .ok (.iload_n 2, 1)) (k : V G own cc ret nL d Q (pc + 1) (a0 :: a1 :: some (.int x) :: tl) (.int x :: st) σ) : V G own cc ret nL d Q pc (a0 :: a1 :: some (.int x) :: tl) st σ := by
  intro p e s m args below meth c H locs ls hA hP hS hL
  obtain ⟨hx, hb, -⟩ := id hA
  exact lv_iload_n hx hb hd rfl (hL.2.2 2 (.int x) rfl) (k p e s m args below meth c H locs ls hA hP hS hL)
theorem V_iload_2 {G : vG} {own : String} {cc : ByteArray} {ret : Option FieldType} {nL d pc : Nat} {Q : Option Value → vS → Prop} {st : List Value} {σ : vS} {a0 a1 : Option Value} {tl : List (Option Value)} {x : Int32} (hd : decode cc pc = .ok (.iload 2, 2)) (k : V G own cc ret nL d Q (pc + 2) (a0 :: a1 :: some (.int x) :: tl) (.int x :: st) σ) : V G own cc ret nL d Q pc (a0 :: a1 :: some (.int x) :: tl) st σ := by
  intro p e s m args below meth c H locs ls hA hP hS hL
  obtain ⟨hx, hb, -⟩ := id hA
  exact lv_iload hx hb hd (hL.2.2 2 (.int x) rfl) (k p e s m args below meth c H locs ls hA hP hS hL)
theorem V_aloadn_2 {G : vG} {own : String} {cc : ByteArray} {ret : Option FieldType} {nL d pc : Nat} {Q : Option Value → vS → Prop} {st : List Value} {σ : vS} {a0 a1 : Option Value} {tl : List (Option Value)} {x : Nat} (hd : decode cc pc = .ok (.aload_n 2, 1)) (k : V G own cc ret nL d Q (pc + 1) (a0 :: a1 :: some (.ref x) :: tl) (.ref x :: st) σ) : V G own cc ret nL d Q pc (a0 :: a1 :: some (.ref x) :: tl) st σ := by
  intro p e s m args below meth c H locs ls hA hP hS hL
  obtain ⟨hx, hb, -⟩ := id hA
  exact lv_aload_n hx hb hd rfl (hL.2.2 2 (.ref x) rfl) (k p e s m args below meth c H locs ls hA hP hS hL)
theorem V_aload_2 {G : vG} {own : String} {cc : ByteArray} {ret : Option FieldType} {nL d pc : Nat} {Q : Option Value → vS → Prop} {st : List Value} {σ : vS} {a0 a1 : Option Value} {tl : List (Option Value)} {x : Nat} (hd : decode cc pc = .ok (.aload 2, 2)) (k : V G own cc ret nL d Q (pc + 2) (a0 :: a1 :: some (.ref x) :: tl) (.ref x :: st) σ) : V G own cc ret nL d Q pc (a0 :: a1 :: some (.ref x) :: tl) st σ := by
  intro p e s m args below meth c H locs ls hA hP hS hL
  obtain ⟨hx, hb, -⟩ := id hA
  exact lv_aload hx hb hd (hL.2.2 2 (.ref x) rfl) (k p e s m args below meth c H locs ls hA hP hS hL)
theorem V_lloadn_2 {G : vG} {own : String} {cc : ByteArray} {ret : Option FieldType} {nL d pc : Nat} {Q : Option Value → vS → Prop} {st : List Value} {σ : vS} {a0 a1 : Option Value} {tl : List (Option Value)} {x : Int64} (hd : decode cc pc = .ok (.lload_n 2, 1)) (k : V G own cc ret nL d Q (pc + 1) (a0 :: a1 :: some (.long x) :: tl) (.long x :: st) σ) : V G own cc ret nL d Q pc (a0 :: a1 :: some (.long x) :: tl) st σ := by
  intro p e s m args below meth c H locs ls hA hP hS hL
  obtain ⟨hx, hb, -⟩ := id hA
  exact lv_lload_n hx hb hd rfl (hL.2.2 2 (.long x) rfl) (k p e s m args below meth c H locs ls hA hP hS hL)
theorem V_lload_2 {G : vG} {own : String} {cc : ByteArray} {ret : Option FieldType} {nL d pc : Nat} {Q : Option Value → vS → Prop} {st : List Value} {σ : vS} {a0 a1 : Option Value} {tl : List (Option Value)} {x : Int64} (hd : decode cc pc = .ok (.lload 2, 2)) (k : V G own cc ret nL d Q (pc + 2) (a0 :: a1 :: some (.long x) :: tl) (.long x :: st) σ) : V G own cc ret nL d Q pc (a0 :: a1 :: some (.long x) :: tl) st σ := by
  intro p e s m args below meth c H locs ls hA hP hS hL
  obtain ⟨hx, hb, -⟩ := id hA
  exact lv_lload hx hb hd (hL.2.2 2 (.long x) rfl) (k p e s m args below meth c H locs ls hA hP hS hL)
theorem V_iloadn_3 {G : vG} {own : String} {cc : ByteArray} {ret : Option FieldType} {nL d pc : Nat} {Q : Option Value → vS → Prop} {st : List Value} {σ : vS} {a0 a1 a2 : Option Value} {tl : List (Option Value)} {x : Int32} (hd : decode cc pc = .ok (.iload_n 3, 1)) (k : V G own cc ret nL d Q (pc + 1) (a0 :: a1 :: a2 :: some (.int x) :: tl) (.int x :: st) σ) : V G own cc ret nL d Q pc (a0 :: a1 :: a2 :: some (.int x) :: tl) st σ := by
  intro p e s m args below meth c H locs ls hA hP hS hL
  obtain ⟨hx, hb, -⟩ := id hA
  exact lv_iload_n hx hb hd rfl (hL.2.2 3 (.int x) rfl) (k p e s m args below meth c H locs ls hA hP hS hL)
theorem V_iload_3 {G : vG} {own : String} {cc : ByteArray} {ret : Option FieldType} {nL d pc : Nat} {Q : Option Value → vS → Prop} {st : List Value} {σ : vS} {a0 a1 a2 : Option Value} {tl : List (Option Value)} {x : Int32} (hd : decode cc pc = .ok (.iload 3, 2)) (k : V G own cc ret nL d Q (pc + 2) (a0 :: a1 :: a2 :: some (.int x) :: tl) (.int x :: st) σ) : V G own cc ret nL d Q pc (a0 :: a1 :: a2 :: some (.int x) :: tl) st σ := by
  intro p e s m args below meth c H locs ls hA hP hS hL
  obtain ⟨hx, hb, -⟩ := id hA
  exact lv_iload hx hb hd (hL.2.2 3 (.int x) rfl) (k p e s m args below meth c H locs ls hA hP hS hL)
theorem V_aloadn_3 {G : vG} {own : String} {cc : ByteArray} {ret : Option FieldType} {nL d pc : Nat} {Q : Option Value → vS → Prop} {st : List Value} {σ : vS} {a0 a1 a2 : Option Value} {tl : List (Option Value)} {x : Nat} (hd : decode cc pc = .ok (.aload_n 3, 1)) (k : V G own cc ret nL d Q (pc + 1) (a0 :: a1 :: a2 :: some (.ref x) :: tl) (.ref x :: st) σ) : V G own cc ret nL d Q pc (a0 :: a1 :: a2 :: some (.ref x) :: tl) st σ := by
  intro p e s m args below meth c H locs ls hA hP hS hL
  obtain ⟨hx, hb, -⟩ := id hA
  exact lv_aload_n hx hb hd rfl (hL.2.2 3 (.ref x) rfl) (k p e s m args below meth c H locs ls hA hP hS hL)
theorem V_aload_3 {G : vG} {own : String} {cc : ByteArray} {ret : Option FieldType} {nL d pc : Nat} {Q : Option Value → vS → Prop} {st : List Value} {σ : vS} {a0 a1 a2 : Option Value} {tl : List (Option Value)} {x : Nat} (hd : decode cc pc = .ok (.aload 3, 2)) (k : V G own cc ret nL d Q (pc + 2) (a0 :: a1 :: a2 :: some (.ref x) :: tl) (.ref x :: st) σ) : V G own cc ret nL d Q pc (a0 :: a1 :: a2 :: some (.ref x) :: tl) st σ := by
  intro p e s m args below meth c H locs ls hA hP hS hL
  obtain ⟨hx, hb, -⟩ := id hA
  exact lv_aload hx hb hd (hL.2.2 3 (.ref x) rfl) (k p e s m args below meth c H locs ls hA hP hS hL)
theorem V_lloadn_3 {G : vG} {own : String} {cc : ByteArray} {ret : Option FieldType} {nL d pc : Nat} {Q : Option Value → vS → Prop} {st : List Value} {σ : vS} {a0 a1 a2 : Option Value} {tl : List (Option Value)} {x : Int64} (hd : decode cc pc = .ok (.lload_n 3, 1)) (k : V G own cc ret nL d Q (pc + 1) (a0 :: a1 :: a2 :: some (.long x) :: tl) (.long x :: st) σ) : V G own cc ret nL d Q pc (a0 :: a1 :: a2 :: some (.long x) :: tl) st σ := by
  intro p e s m args below meth c H locs ls hA hP hS hL
  obtain ⟨hx, hb, -⟩ := id hA
  exact lv_lload_n hx hb hd rfl (hL.2.2 3 (.long x) rfl) (k p e s m args below meth c H locs ls hA hP hS hL)
theorem V_lload_3 {G : vG} {own : String} {cc : ByteArray} {ret : Option FieldType} {nL d pc : Nat} {Q : Option Value → vS → Prop} {st : List Value} {σ : vS} {a0 a1 a2 : Option Value} {tl : List (Option Value)} {x : Int64} (hd : decode cc pc = .ok (.lload 3, 2)) (k : V G own cc ret nL d Q (pc + 2) (a0 :: a1 :: a2 :: some (.long x) :: tl) (.long x :: st) σ) : V G own cc ret nL d Q pc (a0 :: a1 :: a2 :: some (.long x) :: tl) st σ := by
  intro p e s m args below meth c H locs ls hA hP hS hL
  obtain ⟨hx, hb, -⟩ := id hA
  exact lv_lload hx hb hd (hL.2.2 3 (.long x) rfl) (k p e s m args below meth c H locs ls hA hP hS hL)
theorem V_iload_4 {G : vG} {own : String} {cc : ByteArray} {ret : Option FieldType} {nL d pc : Nat} {Q : Option Value → vS → Prop} {st : List Value} {σ : vS} {a0 a1 a2 a3 : Option Value} {tl : List (Option Value)} {x : Int32} (hd : decode cc pc = .ok (.iload 4, 2)) (k : V G own cc ret nL d Q (pc + 2) (a0 :: a1 :: a2 :: a3 :: some (.int x) :: tl) (.int x :: st) σ) : V G own cc ret nL d Q pc (a0 :: a1 :: a2 :: a3 :: some (.int x) :: tl) st σ := by
  intro p e s m args below meth c H locs ls hA hP hS hL
  obtain ⟨hx, hb, -⟩ := id hA
  exact lv_iload hx hb hd (hL.2.2 4 (.int x) rfl) (k p e s m args below meth c H locs ls hA hP hS hL)
theorem V_aload_4 {G : vG} {own : String} {cc : ByteArray} {ret : Option FieldType} {nL d pc : Nat} {Q : Option Value → vS → Prop} {st : List Value} {σ : vS} {a0 a1 a2 a3 : Option Value} {tl : List (Option Value)} {x : Nat} (hd : decode cc pc = .ok (.aload 4, 2)) (k : V G own cc ret nL d Q (pc + 2) (a0 :: a1 :: a2 :: a3 :: some (.ref x) :: tl) (.ref x :: st) σ) : V G own cc ret nL d Q pc (a0 :: a1 :: a2 :: a3 :: some (.ref x) :: tl) st σ := by
  intro p e s m args below meth c H locs ls hA hP hS hL
  obtain ⟨hx, hb, -⟩ := id hA
  exact lv_aload hx hb hd (hL.2.2 4 (.ref x) rfl) (k p e s m args below meth c H locs ls hA hP hS hL)
theorem V_lload_4 {G : vG} {own : String} {cc : ByteArray} {ret : Option FieldType} {nL d pc : Nat} {Q : Option Value → vS → Prop} {st : List Value} {σ : vS} {a0 a1 a2 a3 : Option Value} {tl : List (Option Value)} {x : Int64} (hd : decode cc pc = .ok (.lload 4, 2)) (k : V G own cc ret nL d Q (pc + 2) (a0 :: a1 :: a2 :: a3 :: some (.long x) :: tl) (.long x :: st) σ) : V G own cc ret nL d Q pc (a0 :: a1 :: a2 :: a3 :: some (.long x) :: tl) st σ := by
  intro p e s m args below meth c H locs ls hA hP hS hL
  obtain ⟨hx, hb, -⟩ := id hA
  exact lv_lload hx hb hd (hL.2.2 4 (.long x) rfl) (k p e s m args below meth c H locs ls hA hP hS hL)
theorem V_iload_5 {G : vG} {own : String} {cc : ByteArray} {ret : Option FieldType} {nL d pc : Nat} {Q : Option Value → vS → Prop} {st : List Value} {σ : vS} {a0 a1 a2 a3 a4 : Option Value} {tl : List (Option Value)} {x : Int32} (hd : decode cc pc = .ok (.iload 5, 2)) (k : V G own cc ret nL d Q (pc + 2) (a0 :: a1 :: a2 :: a3 :: a4 :: some (.int x) :: tl) (.int x :: st) σ) : V G own cc ret nL d Q pc (a0 :: a1 :: a2 :: a3 :: a4 :: some (.int x) :: tl) st σ := by
  intro p e s m args below meth c H locs ls hA hP hS hL
  obtain ⟨hx, hb, -⟩ := id hA
  exact lv_iload hx hb hd (hL.2.2 5 (.int x) rfl) (k p e s m args below meth c H locs ls hA hP hS hL)
theorem V_aload_5 {G : vG} {own : String} {cc : ByteArray} {ret : Option FieldType} {nL d pc : Nat} {Q : Option Value → vS → Prop} {st : List Value} {σ : vS} {a0 a1 a2 a3 a4 : Option Value} {tl : List (Option Value)} {x : Nat} (hd : decode cc pc = .ok (.aload 5, 2)) (k : V G own cc ret nL d Q (pc + 2) (a0 :: a1 :: a2 :: a3 :: a4 :: some (.ref x) :: tl) (.ref x :: st) σ) : V G own cc ret nL d Q pc (a0 :: a1 :: a2 :: a3 :: a4 :: some (.ref x) :: tl) st σ := by
  intro p e s m args below meth c H locs ls hA hP hS hL
  obtain ⟨hx, hb, -⟩ := id hA
  exact lv_aload hx hb hd (hL.2.2 5 (.ref x) rfl) (k p e s m args below meth c H locs ls hA hP hS hL)
theorem V_lload_5 {G : vG} {own : String} {cc : ByteArray} {ret : Option FieldType} {nL d pc : Nat} {Q : Option Value → vS → Prop} {st : List Value} {σ : vS} {a0 a1 a2 a3 a4 : Option Value} {tl : List (Option Value)} {x : Int64} (hd : decode cc pc = .ok (.lload 5, 2)) (k : V G own cc ret nL d Q (pc + 2) (a0 :: a1 :: a2 :: a3 :: a4 :: some (.long x) :: tl) (.long x :: st) σ) : V G own cc ret nL d Q pc (a0 :: a1 :: a2 :: a3 :: a4 :: some (.long x) :: tl) st σ := by
  intro p e s m args below meth c H locs ls hA hP hS hL
  obtain ⟨hx, hb, -⟩ := id hA
  exact lv_lload hx hb hd (hL.2.2 5 (.long x) rfl) (k p e s m args below meth c H locs ls hA hP hS hL)
theorem V_iload_6 {G : vG} {own : String} {cc : ByteArray} {ret : Option FieldType} {nL d pc : Nat} {Q : Option Value → vS → Prop} {st : List Value} {σ : vS} {a0 a1 a2 a3 a4 a5 : Option Value} {tl : List (Option Value)} {x : Int32} (hd : decode cc pc = .ok (.iload 6, 2)) (k : V G own cc ret nL d Q (pc + 2) (a0 :: a1 :: a2 :: a3 :: a4 :: a5 :: some (.int x) :: tl) (.int x :: st) σ) : V G own cc ret nL d Q pc (a0 :: a1 :: a2 :: a3 :: a4 :: a5 :: some (.int x) :: tl) st σ := by
  intro p e s m args below meth c H locs ls hA hP hS hL
  obtain ⟨hx, hb, -⟩ := id hA
  exact lv_iload hx hb hd (hL.2.2 6 (.int x) rfl) (k p e s m args below meth c H locs ls hA hP hS hL)
theorem V_aload_6 {G : vG} {own : String} {cc : ByteArray} {ret : Option FieldType} {nL d pc : Nat} {Q : Option Value → vS → Prop} {st : List Value} {σ : vS} {a0 a1 a2 a3 a4 a5 : Option Value} {tl : List (Option Value)} {x : Nat} (hd : decode cc pc = .ok (.aload 6, 2)) (k : V G own cc ret nL d Q (pc + 2) (a0 :: a1 :: a2 :: a3 :: a4 :: a5 :: some (.ref x) :: tl) (.ref x :: st) σ) : V G own cc ret nL d Q pc (a0 :: a1 :: a2 :: a3 :: a4 :: a5 :: some (.ref x) :: tl) st σ := by
  intro p e s m args below meth c H locs ls hA hP hS hL
  obtain ⟨hx, hb, -⟩ := id hA
  exact lv_aload hx hb hd (hL.2.2 6 (.ref x) rfl) (k p e s m args below meth c H locs ls hA hP hS hL)
theorem V_lload_6 {G : vG} {own : String} {cc : ByteArray} {ret : Option FieldType} {nL d pc : Nat} {Q : Option Value → vS → Prop} {st : List Value} {σ : vS} {a0 a1 a2 a3 a4 a5 : Option Value} {tl : List (Option Value)} {x : Int64} (hd : decode cc pc = .ok (.lload 6, 2)) (k : V G own cc ret nL d Q (pc + 2) (a0 :: a1 :: a2 :: a3 :: a4 :: a5 :: some (.long x) :: tl) (.long x :: st) σ) : V G own cc ret nL d Q pc (a0 :: a1 :: a2 :: a3 :: a4 :: a5 :: some (.long x) :: tl) st σ := by
  intro p e s m args below meth c H locs ls hA hP hS hL
  obtain ⟨hx, hb, -⟩ := id hA
  exact lv_lload hx hb hd (hL.2.2 6 (.long x) rfl) (k p e s m args below meth c H locs ls hA hP hS hL)
theorem V_iload_7 {G : vG} {own : String} {cc : ByteArray} {ret : Option FieldType} {nL d pc : Nat} {Q : Option Value → vS → Prop} {st : List Value} {σ : vS} {a0 a1 a2 a3 a4 a5 a6 : Option Value} {tl : List (Option Value)} {x : Int32} (hd : decode cc pc = .ok (.iload 7, 2)) (k : V G own cc ret nL d Q (pc + 2) (a0 :: a1 :: a2 :: a3 :: a4 :: a5 :: a6 :: some (.int x) :: tl) (.int x :: st) σ) : V G own cc ret nL d Q pc (a0 :: a1 :: a2 :: a3 :: a4 :: a5 :: a6 :: some (.int x) :: tl) st σ := by
  intro p e s m args below meth c H locs ls hA hP hS hL
  obtain ⟨hx, hb, -⟩ := id hA
  exact lv_iload hx hb hd (hL.2.2 7 (.int x) rfl) (k p e s m args below meth c H locs ls hA hP hS hL)
theorem V_aload_7 {G : vG} {own : String} {cc : ByteArray} {ret : Option FieldType} {nL d pc : Nat} {Q : Option Value → vS → Prop} {st : List Value} {σ : vS} {a0 a1 a2 a3 a4 a5 a6 : Option Value} {tl : List (Option Value)} {x : Nat} (hd : decode cc pc = .ok (.aload 7, 2)) (k : V G own cc ret nL d Q (pc + 2) (a0 :: a1 :: a2 :: a3 :: a4 :: a5 :: a6 :: some (.ref x) :: tl) (.ref x :: st) σ) : V G own cc ret nL d Q pc (a0 :: a1 :: a2 :: a3 :: a4 :: a5 :: a6 :: some (.ref x) :: tl) st σ := by
  intro p e s m args below meth c H locs ls hA hP hS hL
  obtain ⟨hx, hb, -⟩ := id hA
  exact lv_aload hx hb hd (hL.2.2 7 (.ref x) rfl) (k p e s m args below meth c H locs ls hA hP hS hL)
theorem V_lload_7 {G : vG} {own : String} {cc : ByteArray} {ret : Option FieldType} {nL d pc : Nat} {Q : Option Value → vS → Prop} {st : List Value} {σ : vS} {a0 a1 a2 a3 a4 a5 a6 : Option Value} {tl : List (Option Value)} {x : Int64} (hd : decode cc pc = .ok (.lload 7, 2)) (k : V G own cc ret nL d Q (pc + 2) (a0 :: a1 :: a2 :: a3 :: a4 :: a5 :: a6 :: some (.long x) :: tl) (.long x :: st) σ) : V G own cc ret nL d Q pc (a0 :: a1 :: a2 :: a3 :: a4 :: a5 :: a6 :: some (.long x) :: tl) st σ := by
  intro p e s m args below meth c H locs ls hA hP hS hL
  obtain ⟨hx, hb, -⟩ := id hA
  exact lv_lload hx hb hd (hL.2.2 7 (.long x) rfl) (k p e s m args below meth c H locs ls hA hP hS hL)
theorem V_iload_8 {G : vG} {own : String} {cc : ByteArray} {ret : Option FieldType} {nL d pc : Nat} {Q : Option Value → vS → Prop} {st : List Value} {σ : vS} {a0 a1 a2 a3 a4 a5 a6 a7 : Option Value} {tl : List (Option Value)} {x : Int32} (hd : decode cc pc = .ok (.iload 8, 2)) (k : V G own cc ret nL d Q (pc + 2) (a0 :: a1 :: a2 :: a3 :: a4 :: a5 :: a6 :: a7 :: some (.int x) :: tl) (.int x :: st) σ) : V G own cc ret nL d Q pc (a0 :: a1 :: a2 :: a3 :: a4 :: a5 :: a6 :: a7 :: some (.int x) :: tl) st σ := by
  intro p e s m args below meth c H locs ls hA hP hS hL
  obtain ⟨hx, hb, -⟩ := id hA
  exact lv_iload hx hb hd (hL.2.2 8 (.int x) rfl) (k p e s m args below meth c H locs ls hA hP hS hL)
theorem V_aload_8 {G : vG} {own : String} {cc : ByteArray} {ret : Option FieldType} {nL d pc : Nat} {Q : Option Value → vS → Prop} {st : List Value} {σ : vS} {a0 a1 a2 a3 a4 a5 a6 a7 : Option Value} {tl : List (Option Value)} {x : Nat} (hd : decode cc pc = .ok (.aload 8, 2)) (k : V G own cc ret nL d Q (pc + 2) (a0 :: a1 :: a2 :: a3 :: a4 :: a5 :: a6 :: a7 :: some (.ref x) :: tl) (.ref x :: st) σ) : V G own cc ret nL d Q pc (a0 :: a1 :: a2 :: a3 :: a4 :: a5 :: a6 :: a7 :: some (.ref x) :: tl) st σ := by
  intro p e s m args below meth c H locs ls hA hP hS hL
  obtain ⟨hx, hb, -⟩ := id hA
  exact lv_aload hx hb hd (hL.2.2 8 (.ref x) rfl) (k p e s m args below meth c H locs ls hA hP hS hL)
theorem V_lload_8 {G : vG} {own : String} {cc : ByteArray} {ret : Option FieldType} {nL d pc : Nat} {Q : Option Value → vS → Prop} {st : List Value} {σ : vS} {a0 a1 a2 a3 a4 a5 a6 a7 : Option Value} {tl : List (Option Value)} {x : Int64} (hd : decode cc pc = .ok (.lload 8, 2)) (k : V G own cc ret nL d Q (pc + 2) (a0 :: a1 :: a2 :: a3 :: a4 :: a5 :: a6 :: a7 :: some (.long x) :: tl) (.long x :: st) σ) : V G own cc ret nL d Q pc (a0 :: a1 :: a2 :: a3 :: a4 :: a5 :: a6 :: a7 :: some (.long x) :: tl) st σ := by
  intro p e s m args below meth c H locs ls hA hP hS hL
  obtain ⟨hx, hb, -⟩ := id hA
  exact lv_lload hx hb hd (hL.2.2 8 (.long x) rfl) (k p e s m args below meth c H locs ls hA hP hS hL)
theorem V_iload_9 {G : vG} {own : String} {cc : ByteArray} {ret : Option FieldType} {nL d pc : Nat} {Q : Option Value → vS → Prop} {st : List Value} {σ : vS} {a0 a1 a2 a3 a4 a5 a6 a7 a8 : Option Value} {tl : List (Option Value)} {x : Int32} (hd : decode cc pc = .ok (.iload 9, 2)) (k : V G own cc ret nL d Q (pc + 2) (a0 :: a1 :: a2 :: a3 :: a4 :: a5 :: a6 :: a7 :: a8 :: some (.int x) :: tl) (.int x :: st) σ) : V G own cc ret nL d Q pc (a0 :: a1 :: a2 :: a3 :: a4 :: a5 :: a6 :: a7 :: a8 :: some (.int x) :: tl) st σ := by
  intro p e s m args below meth c H locs ls hA hP hS hL
  obtain ⟨hx, hb, -⟩ := id hA
  exact lv_iload hx hb hd (hL.2.2 9 (.int x) rfl) (k p e s m args below meth c H locs ls hA hP hS hL)
theorem V_aload_9 {G : vG} {own : String} {cc : ByteArray} {ret : Option FieldType} {nL d pc : Nat} {Q : Option Value → vS → Prop} {st : List Value} {σ : vS} {a0 a1 a2 a3 a4 a5 a6 a7 a8 : Option Value} {tl : List (Option Value)} {x : Nat} (hd : decode cc pc = .ok (.aload 9, 2)) (k : V G own cc ret nL d Q (pc + 2) (a0 :: a1 :: a2 :: a3 :: a4 :: a5 :: a6 :: a7 :: a8 :: some (.ref x) :: tl) (.ref x :: st) σ) : V G own cc ret nL d Q pc (a0 :: a1 :: a2 :: a3 :: a4 :: a5 :: a6 :: a7 :: a8 :: some (.ref x) :: tl) st σ := by
  intro p e s m args below meth c H locs ls hA hP hS hL
  obtain ⟨hx, hb, -⟩ := id hA
  exact lv_aload hx hb hd (hL.2.2 9 (.ref x) rfl) (k p e s m args below meth c H locs ls hA hP hS hL)
theorem V_lload_9 {G : vG} {own : String} {cc : ByteArray} {ret : Option FieldType} {nL d pc : Nat} {Q : Option Value → vS → Prop} {st : List Value} {σ : vS} {a0 a1 a2 a3 a4 a5 a6 a7 a8 : Option Value} {tl : List (Option Value)} {x : Int64} (hd : decode cc pc = .ok (.lload 9, 2)) (k : V G own cc ret nL d Q (pc + 2) (a0 :: a1 :: a2 :: a3 :: a4 :: a5 :: a6 :: a7 :: a8 :: some (.long x) :: tl) (.long x :: st) σ) : V G own cc ret nL d Q pc (a0 :: a1 :: a2 :: a3 :: a4 :: a5 :: a6 :: a7 :: a8 :: some (.long x) :: tl) st σ := by
  intro p e s m args below meth c H locs ls hA hP hS hL
  obtain ⟨hx, hb, -⟩ := id hA
  exact lv_lload hx hb hd (hL.2.2 9 (.long x) rfl) (k p e s m args below meth c H locs ls hA hP hS hL)

/-! ===== comparisons ===== -/
theorem V_icmp_eq {G : vG} {own : String} {cc : ByteArray} {ret : Option FieldType} {nL d pc : Nat} {Q : Option Value → vS → Prop} {st : List Value} {σ : vS} {x y : Int32} {off : Int} (hd : decode cc pc = .ok (.if_icmp .eq off, 3)) (tgt : Nat) (ht : (pc : Int) + off = (tgt : Int)) {lo : List (Option Value)} (kt : x = y → V G own cc ret nL d Q tgt lo st σ) (kf : ¬ x = y → V G own cc ret nL d Q (pc + 3) lo st σ) : V G own cc ret nL d Q pc lo (.int y :: .int x :: st) σ := by
  intro p e s m args below meth c H locs ls hA hP hS hL
  obtain ⟨hx, hb, -⟩ := id hA
  exact lv_icmp_eq hx hb hd ht (fun h => kt h p e s m args below meth c H locs ls hA hP hS hL) (fun h => kf h p e s m args below meth c H locs ls hA hP hS hL)
theorem V_icmp_eq_t {G : vG} {own : String} {cc : ByteArray} {ret : Option FieldType} {nL d pc : Nat} {Q : Option Value → vS → Prop} {st : List Value} {σ : vS} {x y : Int32} {off : Int} (hd : decode cc pc = .ok (.if_icmp .eq off, 3)) (tgt : Nat) (ht : (pc : Int) + off = (tgt : Int)) {lo : List (Option Value)} (h : x = y) (k : V G own cc ret nL d Q tgt lo st σ) : V G own cc ret nL d Q pc lo (.int y :: .int x :: st) σ :=
  V_icmp_eq hd tgt ht (fun _ => k) (fun h2 => absurd h h2)
theorem V_icmp_eq_f {G : vG} {own : String} {cc : ByteArray} {ret : Option FieldType} {nL d pc : Nat} {Q : Option Value → vS → Prop} {st : List Value} {σ : vS} {x y : Int32} {off : Int} (hd : decode cc pc = .ok (.if_icmp .eq off, 3)) (tgt : Nat) (ht : (pc : Int) + off = (tgt : Int)) {lo : List (Option Value)} (h : ¬ x = y) (k : V G own cc ret nL d Q (pc + 3) lo st σ) : V G own cc ret nL d Q pc lo (.int y :: .int x :: st) σ :=
  V_icmp_eq hd tgt ht (fun h2 => absurd h2 h) (fun _ => k)
theorem V_if_eq {G : vG} {own : String} {cc : ByteArray} {ret : Option FieldType} {nL d pc : Nat} {Q : Option Value → vS → Prop} {st : List Value} {σ : vS} {x : Int32} {off : Int} (hd : decode cc pc = .ok (.ifCond .eq off, 3)) (tgt : Nat) (ht : (pc : Int) + off = (tgt : Int)) {lo : List (Option Value)} (kt : x = 0 → V G own cc ret nL d Q tgt lo st σ) (kf : ¬ x = 0 → V G own cc ret nL d Q (pc + 3) lo st σ) : V G own cc ret nL d Q pc lo (.int x :: st) σ := by
  intro p e s m args below meth c H locs ls hA hP hS hL
  obtain ⟨hx, hb, -⟩ := id hA
  exact lv_if_eq hx hb hd ht (fun h => kt h p e s m args below meth c H locs ls hA hP hS hL) (fun h => kf h p e s m args below meth c H locs ls hA hP hS hL)
theorem V_if_eq_t {G : vG} {own : String} {cc : ByteArray} {ret : Option FieldType} {nL d pc : Nat} {Q : Option Value → vS → Prop} {st : List Value} {σ : vS} {x : Int32} {off : Int} (hd : decode cc pc = .ok (.ifCond .eq off, 3)) (tgt : Nat) (ht : (pc : Int) + off = (tgt : Int)) {lo : List (Option Value)} (h : x = 0) (k : V G own cc ret nL d Q tgt lo st σ) : V G own cc ret nL d Q pc lo (.int x :: st) σ :=
  V_if_eq hd tgt ht (fun _ => k) (fun h2 => absurd h h2)
theorem V_if_eq_f {G : vG} {own : String} {cc : ByteArray} {ret : Option FieldType} {nL d pc : Nat} {Q : Option Value → vS → Prop} {st : List Value} {σ : vS} {x : Int32} {off : Int} (hd : decode cc pc = .ok (.ifCond .eq off, 3)) (tgt : Nat) (ht : (pc : Int) + off = (tgt : Int)) {lo : List (Option Value)} (h : ¬ x = 0) (k : V G own cc ret nL d Q (pc + 3) lo st σ) : V G own cc ret nL d Q pc lo (.int x :: st) σ :=
  V_if_eq hd tgt ht (fun h2 => absurd h2 h) (fun _ => k)
theorem V_icmp_ne {G : vG} {own : String} {cc : ByteArray} {ret : Option FieldType} {nL d pc : Nat} {Q : Option Value → vS → Prop} {st : List Value} {σ : vS} {x y : Int32} {off : Int} (hd : decode cc pc = .ok (.if_icmp .ne off, 3)) (tgt : Nat) (ht : (pc : Int) + off = (tgt : Int)) {lo : List (Option Value)} (kt : ¬ x = y → V G own cc ret nL d Q tgt lo st σ) (kf : x = y → V G own cc ret nL d Q (pc + 3) lo st σ) : V G own cc ret nL d Q pc lo (.int y :: .int x :: st) σ := by
  intro p e s m args below meth c H locs ls hA hP hS hL
  obtain ⟨hx, hb, -⟩ := id hA
  exact lv_icmp_ne hx hb hd ht (fun h => kt h p e s m args below meth c H locs ls hA hP hS hL) (fun h => kf h p e s m args below meth c H locs ls hA hP hS hL)
theorem V_icmp_ne_t {G : vG} {own : String} {cc : ByteArray} {ret : Option FieldType} {nL d pc : Nat} {Q : Option Value → vS → Prop} {st : List Value} {σ : vS} {x y : Int32} {off : Int} (hd : decode cc pc = .ok (.if_icmp .ne off, 3)) (tgt : Nat) (ht : (pc : Int) + off = (tgt : Int)) {lo : List (Option Value)} (h : ¬ x = y) (k : V G own cc ret nL d Q tgt lo st σ) : V G own cc ret nL d Q pc lo (.int y :: .int x :: st) σ :=
  V_icmp_ne hd tgt ht (fun _ => k) (fun h2 => absurd h2 h)
theorem V_icmp_ne_f {G : vG} {own : String} {cc : ByteArray} {ret : Option FieldType} {nL d pc : Nat} {Q : Option Value → vS → Prop} {st : List Value} {σ : vS} {x y : Int32} {off : Int} (hd : decode cc pc = .ok (.if_icmp .ne off, 3)) (tgt : Nat) (ht : (pc : Int) + off = (tgt : Int)) {lo : List (Option Value)} (h : x = y) (k : V G own cc ret nL d Q (pc + 3) lo st σ) : V G own cc ret nL d Q pc lo (.int y :: .int x :: st) σ :=
  V_icmp_ne hd tgt ht (fun h2 => absurd h h2) (fun _ => k)
theorem V_if_ne {G : vG} {own : String} {cc : ByteArray} {ret : Option FieldType} {nL d pc : Nat} {Q : Option Value → vS → Prop} {st : List Value} {σ : vS} {x : Int32} {off : Int} (hd : decode cc pc = .ok (.ifCond .ne off, 3)) (tgt : Nat) (ht : (pc : Int) + off = (tgt : Int)) {lo : List (Option Value)} (kt : ¬ x = 0 → V G own cc ret nL d Q tgt lo st σ) (kf : x = 0 → V G own cc ret nL d Q (pc + 3) lo st σ) : V G own cc ret nL d Q pc lo (.int x :: st) σ := by
  intro p e s m args below meth c H locs ls hA hP hS hL
  obtain ⟨hx, hb, -⟩ := id hA
  exact lv_if_ne hx hb hd ht (fun h => kt h p e s m args below meth c H locs ls hA hP hS hL) (fun h => kf h p e s m args below meth c H locs ls hA hP hS hL)
theorem V_if_ne_t {G : vG} {own : String} {cc : ByteArray} {ret : Option FieldType} {nL d pc : Nat} {Q : Option Value → vS → Prop} {st : List Value} {σ : vS} {x : Int32} {off : Int} (hd : decode cc pc = .ok (.ifCond .ne off, 3)) (tgt : Nat) (ht : (pc : Int) + off = (tgt : Int)) {lo : List (Option Value)} (h : ¬ x = 0) (k : V G own cc ret nL d Q tgt lo st σ) : V G own cc ret nL d Q pc lo (.int x :: st) σ :=
  V_if_ne hd tgt ht (fun _ => k) (fun h2 => absurd h2 h)
theorem V_if_ne_f {G : vG} {own : String} {cc : ByteArray} {ret : Option FieldType} {nL d pc : Nat} {Q : Option Value → vS → Prop} {st : List Value} {σ : vS} {x : Int32} {off : Int} (hd : decode cc pc = .ok (.ifCond .ne off, 3)) (tgt : Nat) (ht : (pc : Int) + off = (tgt : Int)) {lo : List (Option Value)} (h : x = 0) (k : V G own cc ret nL d Q (pc + 3) lo st σ) : V G own cc ret nL d Q pc lo (.int x :: st) σ :=
  V_if_ne hd tgt ht (fun h2 => absurd h h2) (fun _ => k)
theorem V_icmp_lt {G : vG} {own : String} {cc : ByteArray} {ret : Option FieldType} {nL d pc : Nat} {Q : Option Value → vS → Prop} {st : List Value} {σ : vS} {x y : Int32} {off : Int} (hd : decode cc pc = .ok (.if_icmp .lt off, 3)) (tgt : Nat) (ht : (pc : Int) + off = (tgt : Int)) {lo : List (Option Value)} (kt : x < y → V G own cc ret nL d Q tgt lo st σ) (kf : ¬ x < y → V G own cc ret nL d Q (pc + 3) lo st σ) : V G own cc ret nL d Q pc lo (.int y :: .int x :: st) σ := by
  intro p e s m args below meth c H locs ls hA hP hS hL
  obtain ⟨hx, hb, -⟩ := id hA
  exact lv_icmp_lt hx hb hd ht (fun h => kt h p e s m args below meth c H locs ls hA hP hS hL) (fun h => kf h p e s m args below meth c H locs ls hA hP hS hL)
theorem V_icmp_lt_t {G : vG} {own : String} {cc : ByteArray} {ret : Option FieldType} {nL d pc : Nat} {Q : Option Value → vS → Prop} {st : List Value} {σ : vS} {x y : Int32} {off : Int} (hd : decode cc pc = .ok (.if_icmp .lt off, 3)) (tgt : Nat) (ht : (pc : Int) + off = (tgt : Int)) {lo : List (Option Value)} (h : x < y) (k : V G own cc ret nL d Q tgt lo st σ) : V G own cc ret nL d Q pc lo (.int y :: .int x :: st) σ :=
  V_icmp_lt hd tgt ht (fun _ => k) (fun h2 => absurd h h2)
theorem V_icmp_lt_f {G : vG} {own : String} {cc : ByteArray} {ret : Option FieldType} {nL d pc : Nat} {Q : Option Value → vS → Prop} {st : List Value} {σ : vS} {x y : Int32} {off : Int} (hd : decode cc pc = .ok (.if_icmp .lt off, 3)) (tgt : Nat) (ht : (pc : Int) + off = (tgt : Int)) {lo : List (Option Value)} (h : ¬ x < y) (k : V G own cc ret nL d Q (pc + 3) lo st σ) : V G own cc ret nL d Q pc lo (.int y :: .int x :: st) σ :=
  V_icmp_lt hd tgt ht (fun h2 => absurd h2 h) (fun _ => k)
theorem V_if_lt {G : vG} {own : String} {cc : ByteArray} {ret : Option FieldType} {nL d pc : Nat} {Q : Option Value → vS → Prop} {st : List Value} {σ : vS} {x : Int32} {off : Int} (hd : decode cc pc = .ok (.ifCond .lt off, 3)) (tgt : Nat) (ht : (pc : Int) + off = (tgt : Int)) {lo : List (Option Value)} (kt : x < 0 → V G own cc ret nL d Q tgt lo st σ) (kf : ¬ x < 0 → V G own cc ret nL d Q (pc + 3) lo st σ) : V G own cc ret nL d Q pc lo (.int x :: st) σ := by
  intro p e s m args below meth c H locs ls hA hP hS hL
  obtain ⟨hx, hb, -⟩ := id hA
  exact lv_if_lt hx hb hd ht (fun h => kt h p e s m args below meth c H locs ls hA hP hS hL) (fun h => kf h p e s m args below meth c H locs ls hA hP hS hL)
theorem V_if_lt_t {G : vG} {own : String} {cc : ByteArray} {ret : Option FieldType} {nL d pc : Nat} {Q : Option Value → vS → Prop} {st : List Value} {σ : vS} {x : Int32} {off : Int} (hd : decode cc pc = .ok (.ifCond .lt off, 3)) (tgt : Nat) (ht : (pc : Int) + off = (tgt : Int)) {lo : List (Option Value)} (h : x < 0) (k : V G own cc ret nL d Q tgt lo st σ) : V G own cc ret nL d Q pc lo (.int x :: st) σ :=
  V_if_lt hd tgt ht (fun _ => k) (fun h2 => absurd h h2)
theorem V_if_lt_f {G : vG} {own : String} {cc : ByteArray} {ret : Option FieldType} {nL d pc : Nat} {Q : Option Value → vS → Prop} {st : List Value} {σ : vS} {x : Int32} {off : Int} (hd : decode cc pc = .ok (.ifCond .lt off, 3)) (tgt : Nat) (ht : (pc : Int) + off = (tgt : Int)) {lo : List (Option Value)} (h : ¬ x < 0) (k : V G own cc ret nL d Q (pc + 3) lo st σ) : V G own cc ret nL d Q pc lo (.int x :: st) σ :=
  V_if_lt hd tgt ht (fun h2 => absurd h2 h) (fun _ => k)
theorem V_icmp_ge {G : vG} {own : String} {cc : ByteArray} {ret : Option FieldType} {nL d pc : Nat} {Q : Option Value → vS → Prop} {st : List Value} {σ : vS} {x y : Int32} {off : Int} (hd : decode cc pc = .ok (.if_icmp .ge off, 3)) (tgt : Nat) (ht : (pc : Int) + off = (tgt : Int)) {lo : List (Option Value)} (kt : y ≤ x → V G own cc ret nL d Q tgt lo st σ) (kf : ¬ y ≤ x → V G own cc ret nL d Q (pc + 3) lo st σ) : V G own cc ret nL d Q pc lo (.int y :: .int x :: st) σ := by
  intro p e s m args below meth c H locs ls hA hP hS hL
  obtain ⟨hx, hb, -⟩ := id hA
  exact lv_icmp_ge hx hb hd ht (fun h => kt h p e s m args below meth c H locs ls hA hP hS hL) (fun h => kf h p e s m args below meth c H locs ls hA hP hS hL)
theorem V_icmp_ge_t {G : vG} {own : String} {cc : ByteArray} {ret : Option FieldType} {nL d pc : Nat} {Q : Option Value → vS → Prop} {st : List Value} {σ : vS} {x y : Int32} {off : Int} (hd : decode cc pc = .ok (.if_icmp .ge off, 3)) (tgt : Nat) (ht : (pc : Int) + off = (tgt : Int)) {lo : List (Option Value)} (h : y ≤ x) (k : V G own cc ret nL d Q tgt lo st σ) : V G own cc ret nL d Q pc lo (.int y :: .int x :: st) σ :=
  V_icmp_ge hd tgt ht (fun _ => k) (fun h2 => absurd h h2)
theorem V_icmp_ge_f {G : vG} {own : String} {cc : ByteArray} {ret : Option FieldType} {nL d pc : Nat} {Q : Option Value → vS → Prop} {st : List Value} {σ : vS} {x y : Int32} {off : Int} (hd : decode cc pc = .ok (.if_icmp .ge off, 3)) (tgt : Nat) (ht : (pc : Int) + off = (tgt : Int)) {lo : List (Option Value)} (h : ¬ y ≤ x) (k : V G own cc ret nL d Q (pc + 3) lo st σ) : V G own cc ret nL d Q pc lo (.int y :: .int x :: st) σ :=
  V_icmp_ge hd tgt ht (fun h2 => absurd h2 h) (fun _ => k)
theorem V_if_ge {G : vG} {own : String} {cc : ByteArray} {ret : Option FieldType} {nL d pc : Nat} {Q : Option Value → vS → Prop} {st : List Value} {σ : vS} {x : Int32} {off : Int} (hd : decode cc pc = .ok (.ifCond .ge off, 3)) (tgt : Nat) (ht : (pc : Int) + off = (tgt : Int)) {lo : List (Option Value)} (kt : 0 ≤ x → V G own cc ret nL d Q tgt lo st σ) (kf : ¬ 0 ≤ x → V G own cc ret nL d Q (pc + 3) lo st σ) : V G own cc ret nL d Q pc lo (.int x :: st) σ := by
  intro p e s m args below meth c H locs ls hA hP hS hL
  obtain ⟨hx, hb, -⟩ := id hA
  exact lv_if_ge hx hb hd ht (fun h => kt h p e s m args below meth c H locs ls hA hP hS hL) (fun h => kf h p e s m args below meth c H locs ls hA hP hS hL)
theorem V_if_ge_t {G : vG} {own : String} {cc : ByteArray} {ret : Option FieldType} {nL d pc : Nat} {Q : Option Value → vS → Prop} {st : List Value} {σ : vS} {x : Int32} {off : Int} (hd : decode cc pc = .ok (.ifCond .ge off, 3)) (tgt : Nat) (ht : (pc : Int) + off = (tgt : Int)) {lo : List (Option Value)} (h : 0 ≤ x) (k : V G own cc ret nL d Q tgt lo st σ) : V G own cc ret nL d Q pc lo (.int x :: st) σ :=
  V_if_ge hd tgt ht (fun _ => k) (fun h2 => absurd h h2)
theorem V_if_ge_f {G : vG} {own : String} {cc : ByteArray} {ret : Option FieldType} {nL d pc : Nat} {Q : Option Value → vS → Prop} {st : List Value} {σ : vS} {x : Int32} {off : Int} (hd : decode cc pc = .ok (.ifCond .ge off, 3)) (tgt : Nat) (ht : (pc : Int) + off = (tgt : Int)) {lo : List (Option Value)} (h : ¬ 0 ≤ x) (k : V G own cc ret nL d Q (pc + 3) lo st σ) : V G own cc ret nL d Q pc lo (.int x :: st) σ :=
  V_if_ge hd tgt ht (fun h2 => absurd h2 h) (fun _ => k)
theorem V_icmp_gt {G : vG} {own : String} {cc : ByteArray} {ret : Option FieldType} {nL d pc : Nat} {Q : Option Value → vS → Prop} {st : List Value} {σ : vS} {x y : Int32} {off : Int} (hd : decode cc pc = .ok (.if_icmp .gt off, 3)) (tgt : Nat) (ht : (pc : Int) + off = (tgt : Int)) {lo : List (Option Value)} (kt : y < x → V G own cc ret nL d Q tgt lo st σ) (kf : ¬ y < x → V G own cc ret nL d Q (pc + 3) lo st σ) : V G own cc ret nL d Q pc lo (.int y :: .int x :: st) σ := by
  intro p e s m args below meth c H locs ls hA hP hS hL
  obtain ⟨hx, hb, -⟩ := id hA
  exact lv_icmp_gt hx hb hd ht (fun h => kt h p e s m args below meth c H locs ls hA hP hS hL) (fun h => kf h p e s m args below meth c H locs ls hA hP hS hL)
theorem V_icmp_gt_t {G : vG} {own : String} {cc : ByteArray} {ret : Option FieldType} {nL d pc : Nat} {Q : Option Value → vS → Prop} {st : List Value} {σ : vS} {x y : Int32} {off : Int} (hd : decode cc pc = .ok (.if_icmp .gt off, 3)) (tgt : Nat) (ht : (pc : Int) + off = (tgt : Int)) {lo : List (Option Value)} (h : y < x) (k : V G own cc ret nL d Q tgt lo st σ) : V G own cc ret nL d Q pc lo (.int y :: .int x :: st) σ :=
  V_icmp_gt hd tgt ht (fun _ => k) (fun h2 => absurd h h2)
theorem V_icmp_gt_f {G : vG} {own : String} {cc : ByteArray} {ret : Option FieldType} {nL d pc : Nat} {Q : Option Value → vS → Prop} {st : List Value} {σ : vS} {x y : Int32} {off : Int} (hd : decode cc pc = .ok (.if_icmp .gt off, 3)) (tgt : Nat) (ht : (pc : Int) + off = (tgt : Int)) {lo : List (Option Value)} (h : ¬ y < x) (k : V G own cc ret nL d Q (pc + 3) lo st σ) : V G own cc ret nL d Q pc lo (.int y :: .int x :: st) σ :=
  V_icmp_gt hd tgt ht (fun h2 => absurd h2 h) (fun _ => k)
theorem V_if_gt {G : vG} {own : String} {cc : ByteArray} {ret : Option FieldType} {nL d pc : Nat} {Q : Option Value → vS → Prop} {st : List Value} {σ : vS} {x : Int32} {off : Int} (hd : decode cc pc = .ok (.ifCond .gt off, 3)) (tgt : Nat) (ht : (pc : Int) + off = (tgt : Int)) {lo : List (Option Value)} (kt : 0 < x → V G own cc ret nL d Q tgt lo st σ) (kf : ¬ 0 < x → V G own cc ret nL d Q (pc + 3) lo st σ) : V G own cc ret nL d Q pc lo (.int x :: st) σ := by
  intro p e s m args below meth c H locs ls hA hP hS hL
  obtain ⟨hx, hb, -⟩ := id hA
  exact lv_if_gt hx hb hd ht (fun h => kt h p e s m args below meth c H locs ls hA hP hS hL) (fun h => kf h p e s m args below meth c H locs ls hA hP hS hL)
theorem V_if_gt_t {G : vG} {own : String} {cc : ByteArray} {ret : Option FieldType} {nL d pc : Nat} {Q : Option Value → vS → Prop} {st : List Value} {σ : vS} {x : Int32} {off : Int} (hd : decode cc pc = .ok (.ifCond .gt off, 3)) (tgt : Nat) (ht : (pc : Int) + off = (tgt : Int)) {lo : List (Option Value)} (h : 0 < x) (k : V G own cc ret nL d Q tgt lo st σ) : V G own cc ret nL d Q pc lo (.int x :: st) σ :=
  V_if_gt hd tgt ht (fun _ => k) (fun h2 => absurd h h2)
theorem V_if_gt_f {G : vG} {own : String} {cc : ByteArray} {ret : Option FieldType} {nL d pc : Nat} {Q : Option Value → vS → Prop} {st : List Value} {σ : vS} {x : Int32} {off : Int} (hd : decode cc pc = .ok (.ifCond .gt off, 3)) (tgt : Nat) (ht : (pc : Int) + off = (tgt : Int)) {lo : List (Option Value)} (h : ¬ 0 < x) (k : V G own cc ret nL d Q (pc + 3) lo st σ) : V G own cc ret nL d Q pc lo (.int x :: st) σ :=
  V_if_gt hd tgt ht (fun h2 => absurd h2 h) (fun _ => k)
theorem V_icmp_le {G : vG} {own : String} {cc : ByteArray} {ret : Option FieldType} {nL d pc : Nat} {Q : Option Value → vS → Prop} {st : List Value} {σ : vS} {x y : Int32} {off : Int} (hd : decode cc pc = .ok (.if_icmp .le off, 3)) (tgt : Nat) (ht : (pc : Int) + off = (tgt : Int)) {lo : List (Option Value)} (kt : x ≤ y → V G own cc ret nL d Q tgt lo st σ) (kf : ¬ x ≤ y → V G own cc ret nL d Q (pc + 3) lo st σ) : V G own cc ret nL d Q pc lo (.int y :: .int x :: st) σ := by
  intro p e s m args below meth c H locs ls hA hP hS hL
  obtain ⟨hx, hb, -⟩ := id hA
  exact lv_icmp_le hx hb hd ht (fun h => kt h p e s m args below meth c H locs ls hA hP hS hL) (fun h => kf h p e s m args below meth c H locs ls hA hP hS hL)
theorem V_icmp_le_t {G : vG} {own : String} {cc : ByteArray} {ret : Option FieldType} {nL d pc : Nat} {Q : Option Value → vS → Prop} {st : List Value} {σ : vS} {x y : Int32} {off : Int} (hd : decode cc pc = .ok (.if_icmp .le off, 3)) (tgt : Nat) (ht : (pc : Int) + off = (tgt : Int)) {lo : List (Option Value)} (h : x ≤ y) (k : V G own cc ret nL d Q tgt lo st σ) : V G own cc ret nL d Q pc lo (.int y :: .int x :: st) σ :=
  V_icmp_le hd tgt ht (fun _ => k) (fun h2 => absurd h h2)
theorem V_icmp_le_f {G : vG} {own : String} {cc : ByteArray} {ret : Option FieldType} {nL d pc : Nat} {Q : Option Value → vS → Prop} {st : List Value} {σ : vS} {x y : Int32} {off : Int} (hd : decode cc pc = .ok (.if_icmp .le off, 3)) (tgt : Nat) (ht : (pc : Int) + off = (tgt : Int)) {lo : List (Option Value)} (h : ¬ x ≤ y) (k : V G own cc ret nL d Q (pc + 3) lo st σ) : V G own cc ret nL d Q pc lo (.int y :: .int x :: st) σ :=
  V_icmp_le hd tgt ht (fun h2 => absurd h2 h) (fun _ => k)
theorem V_if_le {G : vG} {own : String} {cc : ByteArray} {ret : Option FieldType} {nL d pc : Nat} {Q : Option Value → vS → Prop} {st : List Value} {σ : vS} {x : Int32} {off : Int} (hd : decode cc pc = .ok (.ifCond .le off, 3)) (tgt : Nat) (ht : (pc : Int) + off = (tgt : Int)) {lo : List (Option Value)} (kt : x ≤ 0 → V G own cc ret nL d Q tgt lo st σ) (kf : ¬ x ≤ 0 → V G own cc ret nL d Q (pc + 3) lo st σ) : V G own cc ret nL d Q pc lo (.int x :: st) σ := by
  intro p e s m args below meth c H locs ls hA hP hS hL
  obtain ⟨hx, hb, -⟩ := id hA
  exact lv_if_le hx hb hd ht (fun h => kt h p e s m args below meth c H locs ls hA hP hS hL) (fun h => kf h p e s m args below meth c H locs ls hA hP hS hL)
theorem V_if_le_t {G : vG} {own : String} {cc : ByteArray} {ret : Option FieldType} {nL d pc : Nat} {Q : Option Value → vS → Prop} {st : List Value} {σ : vS} {x : Int32} {off : Int} (hd : decode cc pc = .ok (.ifCond .le off, 3)) (tgt : Nat) (ht : (pc : Int) + off = (tgt : Int)) {lo : List (Option Value)} (h : x ≤ 0) (k : V G own cc ret nL d Q tgt lo st σ) : V G own cc ret nL d Q pc lo (.int x :: st) σ :=
  V_if_le hd tgt ht (fun _ => k) (fun h2 => absurd h h2)
theorem V_if_le_f {G : vG} {own : String} {cc : ByteArray} {ret : Option FieldType} {nL d pc : Nat} {Q : Option Value → vS → Prop} {st : List Value} {σ : vS} {x : Int32} {off : Int} (hd : decode cc pc = .ok (.ifCond .le off, 3)) (tgt : Nat) (ht : (pc : Int) + off = (tgt : Int)) {lo : List (Option Value)} (h : ¬ x ≤ 0) (k : V G own cc ret nL d Q (pc + 3) lo st σ) : V G own cc ret nL d Q pc lo (.int x :: st) σ :=
  V_if_le hd tgt ht (fun h2 => absurd h2 h) (fun _ => k)
theorem V_icmpN_eq {G : vG} {own : String} {cc : ByteArray} {ret : Option FieldType} {nL d pc : Nat} {Q : Option Value → vS → Prop} {st : List Value} {σ : vS} {a b : Nat} {off : Int} (hd : decode cc pc = .ok (.if_icmp .eq off, 3)) (tgt : Nat) (ht : (pc : Int) + off = (tgt : Int)) {lo : List (Option Value)} (ha : a < 2 ^ 31) (hb : b < 2 ^ 31) (kt : a = b → V G own cc ret nL d Q tgt lo st σ) (kf : a ≠ b → V G own cc ret nL d Q (pc + 3) lo st σ) : V G own cc ret nL d Q pc lo (.int (nI b) :: .int (nI a) :: st) σ :=
  V_icmp_eq hd tgt ht (fun h => kt ((nI_eq ha hb).mp h)) (fun h => kf (fun e => h ((nI_eq ha hb).mpr e)))
theorem V_icmpN_ne {G : vG} {own : String} {cc : ByteArray} {ret : Option FieldType} {nL d pc : Nat} {Q : Option Value → vS → Prop} {st : List Value} {σ : vS} {a b : Nat} {off : Int} (hd : decode cc pc = .ok (.if_icmp .ne off, 3)) (tgt : Nat) (ht : (pc : Int) + off = (tgt : Int)) {lo : List (Option Value)} (ha : a < 2 ^ 31) (hb : b < 2 ^ 31) (kt : a ≠ b → V G own cc ret nL d Q tgt lo st σ) (kf : a = b → V G own cc ret nL d Q (pc + 3) lo st σ) : V G own cc ret nL d Q pc lo (.int (nI b) :: .int (nI a) :: st) σ :=
  V_icmp_ne hd tgt ht (fun h => kt (fun e => h ((nI_eq ha hb).mpr e))) (fun h => kf ((nI_eq ha hb).mp h))
theorem V_icmpN_lt {G : vG} {own : String} {cc : ByteArray} {ret : Option FieldType} {nL d pc : Nat} {Q : Option Value → vS → Prop} {st : List Value} {σ : vS} {a b : Nat} {off : Int} (hd : decode cc pc = .ok (.if_icmp .lt off, 3)) (tgt : Nat) (ht : (pc : Int) + off = (tgt : Int)) {lo : List (Option Value)} (ha : a < 2 ^ 31) (hb : b < 2 ^ 31) (kt : a < b → V G own cc ret nL d Q tgt lo st σ) (kf : b ≤ a → V G own cc ret nL d Q (pc + 3) lo st σ) : V G own cc ret nL d Q pc lo (.int (nI b) :: .int (nI a) :: st) σ :=
  V_icmp_lt hd tgt ht (fun h => kt ((nI_ltI ha hb).mp h)) (fun h => kf (by have := mt (nI_ltI ha hb).mpr h; omega))
theorem V_icmpN_ge {G : vG} {own : String} {cc : ByteArray} {ret : Option FieldType} {nL d pc : Nat} {Q : Option Value → vS → Prop} {st : List Value} {σ : vS} {a b : Nat} {off : Int} (hd : decode cc pc = .ok (.if_icmp .ge off, 3)) (tgt : Nat) (ht : (pc : Int) + off = (tgt : Int)) {lo : List (Option Value)} (ha : a < 2 ^ 31) (hb : b < 2 ^ 31) (kt : b ≤ a → V G own cc ret nL d Q tgt lo st σ) (kf : a < b → V G own cc ret nL d Q (pc + 3) lo st σ) : V G own cc ret nL d Q pc lo (.int (nI b) :: .int (nI a) :: st) σ :=
  V_icmp_ge hd tgt ht (fun h => kt ((nI_leI hb ha).mp h)) (fun h => kf (by have := mt (nI_leI hb ha).mpr h; omega))
theorem V_icmpN_gt {G : vG} {own : String} {cc : ByteArray} {ret : Option FieldType} {nL d pc : Nat} {Q : Option Value → vS → Prop} {st : List Value} {σ : vS} {a b : Nat} {off : Int} (hd : decode cc pc = .ok (.if_icmp .gt off, 3)) (tgt : Nat) (ht : (pc : Int) + off = (tgt : Int)) {lo : List (Option Value)} (ha : a < 2 ^ 31) (hb : b < 2 ^ 31) (kt : b < a → V G own cc ret nL d Q tgt lo st σ) (kf : a ≤ b → V G own cc ret nL d Q (pc + 3) lo st σ) : V G own cc ret nL d Q pc lo (.int (nI b) :: .int (nI a) :: st) σ :=
  V_icmp_gt hd tgt ht (fun h => kt ((nI_ltI hb ha).mp h)) (fun h => kf (by have := mt (nI_ltI hb ha).mpr h; omega))
theorem V_icmpN_le {G : vG} {own : String} {cc : ByteArray} {ret : Option FieldType} {nL d pc : Nat} {Q : Option Value → vS → Prop} {st : List Value} {σ : vS} {a b : Nat} {off : Int} (hd : decode cc pc = .ok (.if_icmp .le off, 3)) (tgt : Nat) (ht : (pc : Int) + off = (tgt : Int)) {lo : List (Option Value)} (ha : a < 2 ^ 31) (hb : b < 2 ^ 31) (kt : a ≤ b → V G own cc ret nL d Q tgt lo st σ) (kf : b < a → V G own cc ret nL d Q (pc + 3) lo st σ) : V G own cc ret nL d Q pc lo (.int (nI b) :: .int (nI a) :: st) σ :=
  V_icmp_le hd tgt ht (fun h => kt ((nI_leI ha hb).mp h)) (fun h => kf (by have := mt (nI_leI ha hb).mpr h; omega))

/-! ===== stores into a frame's cells ===== -/
def vnl (a : Option Value) : Prop := match a with
  | some v => v.category = 1
  | none => True
def vnlAt (lo : List (Option Value)) (i : Nat) : Prop := match i with
  | 0 => True
  | j + 1 => match lo[j]? with
    | some a => vnl a
    | none => True
theorem vnlAt_of {lo : List (Option Value)} {i j : Nat} {v : Value} (h : vnlAt lo i) (hj : j + 1 = i) (hv : lo[j]? = some (some v)) : v.category = 1 := by
  subst hj
  simpa [vnlAt, hv, vnl] using h
def lvOf (G : vG) (lo : List (Option Value)) : List (Nat × Value) := (List.range lo.length).filterMap (fun i => (lo.getD i none).map (fun v => (i, vc G v)))
theorem lvOf_mem {G : vG} {lo : List (Option Value)} {q : Nat × Value} : q ∈ lvOf G lo ↔ ∃ v, lo[q.1]? = some (some v) ∧ q.2 = vc G v := by
  unfold lvOf
  rw [List.mem_filterMap]
  constructor
  · rintro ⟨i, hi, h⟩
    cases hv : lo.getD i none with
    | none => rw [hv] at h; simp at h
    | some v =>
      rw [hv] at h
      simp only [Option.map_some, Option.some.injEq] at h
      subst h
      refine ⟨v, ?_, rfl⟩
      have hi' : i < lo.length := List.mem_range.mp hi
      rw [List.getD_eq_getElem?_getD, List.getElem?_eq_getElem hi'] at hv
      rw [List.getElem?_eq_getElem hi']
      simpa using hv
  · rintro ⟨v, h1, h2⟩
    have hi' : q.1 < lo.length := (List.getElem?_eq_some_iff.mp h1).1
    refine ⟨q.1, List.mem_range.mpr hi', ?_⟩
    rw [List.getD_eq_getElem?_getD, h1]
    simp only [Option.getD_some, Option.map_some]
    rw [← h2]
theorem vL.has {G : vG} {ls : Array Slot} {nL : Nat} {lo : List (Option Value)} (h : vL G ls nL lo) : lv_has ls nL (lvOf G lo) := by
  refine ⟨h.1, h.2.1, fun q hq => ?_⟩
  obtain ⟨v, h1, h2⟩ := lvOf_mem.mp hq
  rw [h2]
  exact h.2.2 q.1 v h1
theorem vL.set1 {G : vG} {ls : Array Slot} {nL i : Nat} {lo : List (Option Value)} {v : Value} (hn : vnlAt lo i) (hl : lv_has ls nL ((i, vc G v) :: (lvOf G lo).filter (fun q => !(q.1 == i) && !(q.1 + 1 == i && q.2.category == 2)))) : vL G ls nL (lo.set i (some v)) := by
  refine ⟨hl.1, hl.2.1, fun j u hj => ?_⟩
  by_cases hji : j = i
  · subst hji
    rw [List.getElem?_set] at hj
    split at hj
    · split at hj
      · cases hj; exact hl.2.2 _ List.mem_cons_self
      · cases hj
    · rename_i h; exact absurd rfl h
  · rw [List.getElem?_set_ne (fun e => hji e.symm)] at hj
    refine hl.2.2 (j, vc G u) (List.mem_cons_of_mem _ (List.mem_filter.mpr ⟨lvOf_mem.mpr ⟨u, hj, rfl⟩, ?_⟩))
    simp only [Bool.and_eq_true, Bool.not_eq_true', beq_eq_false_iff_ne, ne_eq, Bool.and_eq_false_iff]
    refine ⟨hji, ?_⟩
    by_cases h1 : j + 1 = i
    · right
      rw [vc_cat, vnlAt_of hn h1 hj]
      decide
    · exact Or.inl h1
theorem vL.set2 {G : vG} {ls : Array Slot} {nL i : Nat} {lo : List (Option Value)} {v : Value} (hn : vnlAt lo i) (hl : lv_has ls nL ((i, vc G v) :: (lvOf G lo).filter (fun q => !(q.1 == i) && (!(q.1 == i + 1) && !(q.1 + 1 == i && q.2.category == 2))))) : vL G ls nL ((lo.set i (some v)).set (i + 1) none) := by
  refine ⟨hl.1, hl.2.1, fun j u hj => ?_⟩
  by_cases hj2 : j = i + 1
  · subst hj2
    rw [List.getElem?_set] at hj
    split at hj
    · split at hj <;> cases hj
    · rename_i h; exact absurd rfl h
  · rw [List.getElem?_set_ne (fun e => hj2 e.symm)] at hj
    by_cases hji : j = i
    · subst hji
      rw [List.getElem?_set] at hj
      split at hj
      · split at hj
        · cases hj; exact hl.2.2 _ List.mem_cons_self
        · cases hj
      · rename_i h; exact absurd rfl h
    · rw [List.getElem?_set_ne (fun e => hji e.symm)] at hj
      refine hl.2.2 (j, vc G u) (List.mem_cons_of_mem _ (List.mem_filter.mpr ⟨lvOf_mem.mpr ⟨u, hj, rfl⟩, ?_⟩))
      simp only [Bool.and_eq_true, Bool.not_eq_true', beq_eq_false_iff_ne, ne_eq, Bool.and_eq_false_iff]
      refine ⟨hji, hj2, ?_⟩
      by_cases h1 : j + 1 = i
      · right
        rw [vc_cat, vnlAt_of hn h1 hj]
        decide
      · exact Or.inl h1
section VSS
variable {G : vG} {own : String} {cc : ByteArray} {ret : Option FieldType} {nL d pc : Nat} {Q : Option Value → vS → Prop} {lo : List (Option Value)} {st : List Value} {σ : vS}
theorem V_istn {i : Nat} {q : Fin 4} {x : Int32} (hd : decode cc pc = .ok (.istore_n q, 1)) (hq : (q : Nat) = i) (hi : i < nL) (hn : vnlAt lo i) (k : V G own cc ret nL d Q (pc + 1) (lo.set i (some (.int x))) st σ) : V G own cc ret nL d Q pc lo (.int x :: st) σ := by
  intro p e s m args below meth c H locs ls hA hP hS hL
  obtain ⟨hx, hb, -⟩ := id hA
  exact lv_istore_n hx hb hd hq hL.has hi rfl (fun ls hl => k p e s m args below meth c H locs ls hA hP hS (vL.set1 (v := .int x) hn hl))
theorem V_ist {i : Nat} {x : Int32} (hd : decode cc pc = .ok (.istore i, 2)) (hi : i < nL) (hn : vnlAt lo i) (k : V G own cc ret nL d Q (pc + 2) (lo.set i (some (.int x))) st σ) : V G own cc ret nL d Q pc lo (.int x :: st) σ := by
  intro p e s m args below meth c H locs ls hA hP hS hL
  obtain ⟨hx, hb, -⟩ := id hA
  exact lv_istore hx hb hd hL.has hi rfl (fun ls hl => k p e s m args below meth c H locs ls hA hP hS (vL.set1 (v := .int x) hn hl))
theorem V_astn {i : Nat} {q : Fin 4} {x : Nat} (hd : decode cc pc = .ok (.astore_n q, 1)) (hq : (q : Nat) = i) (hi : i < nL) (hn : vnlAt lo i) (k : V G own cc ret nL d Q (pc + 1) (lo.set i (some (.ref x))) st σ) : V G own cc ret nL d Q pc lo (.ref x :: st) σ := by
  intro p e s m args below meth c H locs ls hA hP hS hL
  obtain ⟨hx, hb, -⟩ := id hA
  exact lv_astore_n hx hb hd hq hL.has hi rfl (fun ls hl => k p e s m args below meth c H locs ls hA hP hS (vL.set1 (v := .ref x) hn hl))
theorem V_ast {i : Nat} {x : Nat} (hd : decode cc pc = .ok (.astore i, 2)) (hi : i < nL) (hn : vnlAt lo i) (k : V G own cc ret nL d Q (pc + 2) (lo.set i (some (.ref x))) st σ) : V G own cc ret nL d Q pc lo (.ref x :: st) σ := by
  intro p e s m args below meth c H locs ls hA hP hS hL
  obtain ⟨hx, hb, -⟩ := id hA
  exact lv_astore hx hb hd hL.has hi rfl (fun ls hl => k p e s m args below meth c H locs ls hA hP hS (vL.set1 (v := .ref x) hn hl))
theorem V_lstn {i : Nat} {q : Fin 4} {x : Int64} (hd : decode cc pc = .ok (.lstore_n q, 1)) (hq : (q : Nat) = i) (hi : i + 1 < nL) (hn : vnlAt lo i) (k : V G own cc ret nL d Q (pc + 1) ((lo.set i (some (.long x))).set (i + 1) none) st σ) : V G own cc ret nL d Q pc lo (.long x :: st) σ := by
  intro p e s m args below meth c H locs ls hA hP hS hL
  obtain ⟨hx, hb, -⟩ := id hA
  exact lv_lstore_n hx hb hd hq hL.has hi rfl (fun ls hl => k p e s m args below meth c H locs ls hA hP hS (vL.set2 (v := .long x) hn hl))
theorem V_lst {i : Nat} {x : Int64} (hd : decode cc pc = .ok (.lstore i, 2)) (hi : i + 1 < nL) (hn : vnlAt lo i) (k : V G own cc ret nL d Q (pc + 2) ((lo.set i (some (.long x))).set (i + 1) none) st σ) : V G own cc ret nL d Q pc lo (.long x :: st) σ := by
  intro p e s m args below meth c H locs ls hA hP hS hL
  obtain ⟨hx, hb, -⟩ := id hA
  exact lv_lstore hx hb hd hL.has hi rfl (fun ls hl => k p e s m args below meth c H locs ls hA hP hS (vL.set2 (v := .long x) hn hl))
theorem V_iinc {i : Nat} {n : Int} {x : Int32} (hd : decode cc pc = .ok (.iinc i n, 3)) (hi : i < nL) (hx0 : lo[i]? = some (some (.int x))) (hn : vnlAt lo i) (k : V G own cc ret nL d Q (pc + 3) (lo.set i (some (.int (x + Int32.ofInt n)))) st σ) : V G own cc ret nL d Q pc lo st σ := by
  intro p e s m args below meth c H locs ls hA hP hS hL
  obtain ⟨hx, hb, -⟩ := id hA
  obtain ⟨j, hj⟩ := List.getElem?_of_mem (lvOf_mem (G := G) (lo := lo) (q := (i, .int x)) |>.mpr ⟨_, hx0, rfl⟩)
  exact lv_iinc hx hb hd hL.has hj rfl hi rfl (fun ls hl => k p e s m args below meth c H locs ls hA hP hS (vL.set1 (v := .int (x + Int32.ofInt n)) hn hl))
theorem V_forget {i : Nat} (k : V G own cc ret nL d Q pc (lo.set i none) st σ) : V G own cc ret nL d Q pc lo st σ := by
  intro p e s m args below meth c H locs ls hA hP hS hL
  refine k p e s m args below meth c H locs ls hA hP hS ⟨hL.1, hL.2.1, fun j u hj => hL.2.2 j u ?_⟩
  by_cases hji : j = i
  · subst hji
    rw [List.getElem?_set] at hj
    split at hj
    · split at hj <;> cases hj
    · rename_i h; exact absurd rfl h
  · rwa [List.getElem?_set_ne (fun e => hji e.symm)] at hj
end VSS
theorem V_istoren_0 {G : vG} {own : String} {cc : ByteArray} {ret : Option FieldType} {nL d pc : Nat} {Q : Option Value → vS → Prop} {st : List Value} {σ : vS} {b : Option Value} {tl : List (Option Value)} {x : Int32} (hd : decode cc pc = .ok (.istore_n 0, 1)) (hi : 0 < nL) (k : V G own cc ret nL d Q (pc + 1) (some (.int x) :: tl) st σ) : V G own cc ret nL d Q pc (b :: tl) (.int x :: st) σ :=
  V_istn (i := 0) hd rfl hi trivial k
theorem V_istore_0 {G : vG} {own : String} {cc : ByteArray} {ret : Option FieldType} {nL d pc : Nat} {Q : Option Value → vS → Prop} {st : List Value} {σ : vS} {b : Option Value} {tl : List (Option Value)} {x : Int32} (hd : decode cc pc = .ok (.istore 0, 2)) (hi : 0 < nL) (k : V G own cc ret nL d Q (pc + 2) (some (.int x) :: tl) st σ) : V G own cc ret nL d Q pc (b :: tl) (.int x :: st) σ :=
  V_ist (i := 0) hd hi trivial k
theorem V_astoren_0 {G : vG} {own : String} {cc : ByteArray} {ret : Option FieldType} {nL d pc : Nat} {Q : Option Value → vS → Prop} {st : List Value} {σ : vS} {b : Option Value} {tl : List (Option Value)} {x : Nat} (hd : decode cc pc = .ok (.astore_n 0, 1)) (hi : 0 < nL) (k : V G own cc ret nL d Q (pc + 1) (some (.ref x) :: tl) st σ) : V G own cc ret nL d Q pc (b :: tl) (.ref x :: st) σ :=
  V_astn (i := 0) hd rfl hi trivial k
theorem V_astore_0 {G : vG} {own : String} {cc : ByteArray} {ret : Option FieldType} {nL d pc : Nat} {Q : Option Value → vS → Prop} {st : List Value} {σ : vS} {b : Option Value} {tl : List (Option Value)} {x : Nat} (hd : decode cc pc = .ok (.astore 0, 2)) (hi : 0 < nL) (k : V G own cc ret nL d Q (pc + 2) (some (.ref x) :: tl) st σ) : V G own cc ret nL d Q pc (b :: tl) (.ref x :: st) σ :=
  V_ast (i := 0) hd hi trivial k
theorem V_lstoren_0 {G : vG} {own : String} {cc : ByteArray} {ret : Option FieldType} {nL d pc : Nat} {Q : Option Value → vS → Prop} {st : List Value} {σ : vS} {b b2 : Option Value} {tl : List (Option Value)} {x : Int64} (hd : decode cc pc = .ok (.lstore_n 0, 1)) (hi : 0 + 1 < nL) (k : V G own cc ret nL d Q (pc + 1) (some (.long x) :: none :: tl) st σ) : V G own cc ret nL d Q pc (b :: b2 :: tl) (.long x :: st) σ :=
  V_lstn (i := 0) hd rfl hi trivial k
theorem V_lstore_0 {G : vG} {own : String} {cc : ByteArray} {ret : Option FieldType} {nL d pc : Nat} {Q : Option Value → vS → Prop} {st : List Value} {σ : vS} {b b2 : Option Value} {tl : List (Option Value)} {x : Int64} (hd : decode cc pc = .ok (.lstore 0, 2)) (hi : 0 + 1 < nL) (k : V G own cc ret nL d Q (pc + 2) (some (.long x) :: none :: tl) st σ) : V G own cc ret nL d Q pc (b :: b2 :: tl) (.long x :: st) σ :=
  V_lst (i := 0) hd hi trivial k
theorem V_iinc_0 {G : vG} {own : String} {cc : ByteArray} {ret : Option FieldType} {nL d pc : Nat} {Q : Option Value → vS → Prop} {st : List Value} {σ : vS} {n : Int} {tl : List (Option Value)} {x : Int32} (hd : decode cc pc = .ok (.iinc 0 n, 3)) (hi : 0 < nL) (y : Int32) (hy : x + Int32.ofInt n = y) (k : V G own cc ret nL d Q (pc + 3) (some (.int y) :: tl) st σ) : V G own cc ret nL d Q pc (some (.int x) :: tl) st σ := by
  subst hy
  exact V_iinc (i := 0) hd hi rfl trivial k
theorem V_forget_0 {G : vG} {own : String} {cc : ByteArray} {ret : Option FieldType} {nL d pc : Nat} {Q : Option Value → vS → Prop} {st : List Value} {σ : vS} {b : Option Value} {tl : List (Option Value)} {lo : List (Option Value)} (k : V G own cc ret nL d Q pc (none :: tl) st σ) : V G own cc ret nL d Q pc (b :: tl) st σ :=
  V_forget (i := 0) k
theorem V_istoren_1 {G : vG} {own : String} {cc : ByteArray} {ret : Option FieldType} {nL d pc : Nat} {Q : Option Value → vS → Prop} {st : List Value} {σ : vS} {a0 : Option Value} {b : Option Value} {tl : List (Option Value)} {x : Int32} (hd : decode cc pc = .ok (.istore_n 1, 1)) (hn : vnl a0) (hi : 1 < nL) (k : V G own cc ret nL d Q (pc + 1) (a0 :: some (.int x) :: tl) st σ) : V G own cc ret nL d Q pc (a0 :: b :: tl) (.int x :: st) σ :=
  V_istn (i := 1) hd rfl hi hn k
theorem V_istore_1 {G : vG} {own : String} {cc : ByteArray} {ret : Option FieldType} {nL d pc : Nat} {Q : Option Value → vS → Prop} {st : List Value} {σ : vS} {a0 : Option Value} {b : Option Value} {tl : List (Option Value)} {x : Int32} (hd : decode cc pc = .ok (.istore 1, 2)) (hn : vnl a0) (hi : 1 < nL) (k : V G own cc ret nL d Q (pc + 2) (a0 :: some (.int x) :: tl) st σ) : V G own cc ret nL d Q pc (a0 :: b :: tl) (.int x :: st) σ :=
  V_ist (i := 1) hd hi hn k
theorem V_astoren_1 {G : vG} {own : String} {cc : ByteArray} {ret : Option FieldType} {nL d pc : Nat} {Q : Option Value → vS → Prop} {st : List Value} {σ : vS} {a0 : Option Value} {b : Option Value} {tl : List (Option Value)} {x : Nat} (hd : decode cc pc = .ok (.astore_n 1, 1)) (hn : vnl a0) (hi : 1 < nL) (k : V G own cc ret nL d Q (pc + 1) (a0 :: some (.ref x) :: tl) st σ) : V G own cc ret nL d Q pc (a0 :: b :: tl) (.ref x :: st) σ :=
  V_astn (i := 1) hd rfl hi hn k
theorem V_astore_1 {G : vG} {own : String} {cc : ByteArray} {ret : Option FieldType} {nL d pc : Nat} {Q : Option Value → vS → Prop} {st : List Value} {σ : vS} {a0 : Option Value} {b : Option Value} {tl : List (Option Value)} {x : Nat} (hd : decode cc pc = .ok (.astore 1, 2)) (hn : vnl a0) (hi : 1 < nL) (k : V G own cc ret nL d Q (pc + 2) (a0 :: some (.ref x) :: tl) st σ) : V G own cc ret nL d Q pc (a0 :: b :: tl) (.ref x :: st) σ :=
  V_ast (i := 1) hd hi hn k
theorem V_lstoren_1 {G : vG} {own : String} {cc : ByteArray} {ret : Option FieldType} {nL d pc : Nat} {Q : Option Value → vS → Prop} {st : List Value} {σ : vS} {a0 : Option Value} {b b2 : Option Value} {tl : List (Option Value)} {x : Int64} (hd : decode cc pc = .ok (.lstore_n 1, 1)) (hn : vnl a0) (hi : 1 + 1 < nL) (k : V G own cc ret nL d Q (pc + 1) (a0 :: some (.long x) :: none :: tl) st σ) : V G own cc ret nL d Q pc (a0 :: b :: b2 :: tl) (.long x :: st) σ :=
  V_lstn (i := 1) hd rfl hi hn k
theorem V_lstore_1 {G : vG} {own : String} {cc : ByteArray} {ret : Option FieldType} {nL d pc : Nat} {Q : Option Value → vS → Prop} {st : List Value} {σ : vS} {a0 : Option Value} {b b2 : Option Value} {tl : List (Option Value)} {x : Int64} (hd : decode cc pc = .ok (.lstore 1, 2)) (hn : vnl a0) (hi : 1 + 1 < nL) (k : V G own cc ret nL d Q (pc + 2) (a0 :: some (.long x) :: none :: tl) st σ) : V G own cc ret nL d Q pc (a0 :: b :: b2 :: tl) (.long x :: st) σ :=
  V_lst (i := 1) hd hi hn k
theorem V_iinc_1 {G : vG} {own : String} {cc : ByteArray} {ret : Option FieldType} {nL d pc : Nat} {Q : Option Value → vS → Prop} {st : List Value} {σ : vS} {a0 : Option Value} {n : Int} {tl : List (Option Value)} {x : Int32} (hd : decode cc pc = .ok (.iinc 1 n, 3)) (hn : vnl a0) (hi : 1 < nL) (y : Int32) (hy : x + Int32.ofInt n = y) (k : V G own cc ret nL d Q (pc + 3) (a0 :: some (.int y) :: tl) st σ) : V G own cc ret nL d Q pc (a0 :: some (.int x) :: tl) st σ := by
  subst hy
  exact V_iinc (i := 1) hd hi rfl hn k
theorem V_forget_1 {G : vG} {own : String} {cc : ByteArray} {ret : Option FieldType} {nL d pc : Nat} {Q : Option Value → vS → Prop} {st : List Value} {σ : vS} {a0 : Option Value} {b : Option Value} {tl : List (Option Value)} {lo : List (Option Value)} (k : V G own cc ret nL d Q pc (a0 :: none :: tl) st σ) : V G own cc ret nL d Q pc (a0 :: b :: tl) st σ :=
  V_forget (i := 1) k
theorem V_istoren_2 {G : vG} {own : String} {cc : ByteArray} {ret : Option FieldType} {nL d pc : Nat} {Q : Option Value → vS → Prop} {st : List Value} {σ : vS} {a0 a1 : Option Value} {b : Option Value} {tl : List (Option Value)} {x : Int32} (hd : decode cc pc = .ok (.istore_n 2, 1)) (hn : vnl a1) (hi : 2 < nL) (k : V G own cc ret nL d Q (pc + 1) (a0 :: a1 :: some (.int x) :: tl) st σ) : V G own cc ret nL d Q pc (a0 :: a1 :: b :: tl) (.int x :: st) σ :=
  V_istn (i := 2) hd rfl hi hn k
theorem V_istore_2 {G : vG} {own : String} {cc : ByteArray} {ret : Option FieldType} {nL d pc : Nat} {Q : Option Value → vS → Prop} {st : List Value} {σ : vS} {a0 a1 : Option Value} {b : Option Value} {tl : List (Option Value)} {x : Int32} (hd : decode cc pc = .ok (.istore 2, 2)) (hn : vnl a1) (hi : 2 < nL) (k : V G own cc ret nL d Q (pc + 2) (a0 :: a1 :: some (.int x) :: tl) st σ) : V G own cc ret nL d Q pc (a0 :: a1 :: b :: tl) (.int x :: st) σ :=
  V_ist (i := 2) hd hi hn k
theorem V_astoren_2 {G : vG} {own : String} {cc : ByteArray} {ret : Option FieldType} {nL d pc : Nat} {Q : Option Value → vS → Prop} {st : List Value} {σ : vS} {a0 a1 : Option Value} {b : Option Value} {tl : List (Option Value)} {x : Nat} (hd : decode cc pc = .ok (.astore_n 2, 1)) (hn : vnl a1) (hi : 2 < nL) (k : V G own cc ret nL d Q (pc + 1) (a0 :: a1 :: some (.ref x) :: tl) st σ) : V G own cc ret nL d Q pc (a0 :: a1 :: b :: tl) (.ref x :: st) σ :=
  V_astn (i := 2) hd rfl hi hn k
theorem V_astore_2 {G : vG} {own : String} {cc : ByteArray} {ret : Option FieldType} {nL d pc : Nat} {Q : Option Value → vS → Prop} {st : List Value} {σ : vS} {a0 a1 : Option Value} {b : Option Value} {tl : List (Option Value)} {x : Nat} (hd : decode cc pc = .ok (.astore 2, 2)) (hn : vnl a1) (hi : 2 < nL) (k : V G own cc ret nL d Q (pc + 2) (a0 :: a1 :: some (.ref x) :: tl) st σ) : V G own cc ret nL d Q pc (a0 :: a1 :: b :: tl) (.ref x :: st) σ :=
  V_ast (i := 2) hd hi hn k
theorem V_lstoren_2 {G : vG} {own : String} {cc : ByteArray} {ret : Option FieldType} {nL d pc : Nat} {Q : Option Value → vS → Prop} {st : List Value} {σ : vS} {a0 a1 : Option Value} {b b2 : Option Value} {tl : List (Option Value)} {x : Int64} (hd : decode cc pc = .ok (.lstore_n 2, 1)) (hn : vnl a1) (hi : 2 + 1 < nL) (k : V G own cc ret nL d Q (pc + 1) (a0 :: a1 :: some (.long x) :: none :: tl) st σ) : V G own cc ret nL d Q pc (a0 :: a1 :: b :: b2 :: tl) (.long x :: st) σ :=
  V_lstn (i := 2) hd rfl hi hn k
theorem V_lstore_2 {G : vG} {own : String} {cc : ByteArray} {ret : Option FieldType} {nL d pc : Nat} {Q : Option Value → vS → Prop} {st : List Value} {σ : vS} {a0 a1 : Option Value} {b b2 : Option Value} {tl : List (Option Value)} {x : Int64} (hd : decode cc pc = .ok (.lstore 2, 2)) (hn : vnl a1) (hi : 2 + 1 < nL) (k : V G own cc ret nL d Q (pc + 2) (a0 :: a1 :: some (.long x) :: none :: tl) st σ) : V G own cc ret nL d Q pc (a0 :: a1 :: b :: b2 :: tl) (.long x :: st) σ :=
  V_lst (i := 2) hd hi hn k
theorem V_iinc_2 {G : vG} {own : String} {cc : ByteArray} {ret : Option FieldType} {nL d pc : Nat} {Q : Option Value → vS → Prop} {st : List Value} {σ : vS} {a0 a1 : Option Value} {n : Int} {tl : List (Option Value)} {x : Int32} (hd : decode cc pc = .ok (.iinc 2 n, 3)) (hn : vnl a1) (hi : 2 < nL) (y : Int32) (hy : x + Int32.ofInt n = y) (k : V G own cc ret nL d Q (pc + 3) (a0 :: a1 :: some (.int y) :: tl) st σ) : V G own cc ret nL d Q pc (a0 :: a1 :: some (.int x) :: tl) st σ := by
  subst hy
  exact V_iinc (i := 2) hd hi rfl hn k
theorem V_forget_2 {G : vG} {own : String} {cc : ByteArray} {ret : Option FieldType} {nL d pc : Nat} {Q : Option Value → vS → Prop} {st : List Value} {σ : vS} {a0 a1 : Option Value} {b : Option Value} {tl : List (Option Value)} {lo : List (Option Value)} (k : V G own cc ret nL d Q pc (a0 :: a1 :: none :: tl) st σ) : V G own cc ret nL d Q pc (a0 :: a1 :: b :: tl) st σ :=
  V_forget (i := 2) k
theorem V_istoren_3 {G : vG} {own : String} {cc : ByteArray} {ret : Option FieldType} {nL d pc : Nat} {Q : Option Value → vS → Prop} {st : List Value} {σ : vS} {a0 a1 a2 : Option Value} {b : Option Value} {tl : List (Option Value)} {x : Int32} (hd : decode cc pc = .ok (.istore_n 3, 1)) (hn : vnl a2) (hi : 3 < nL) (k : V G own cc ret nL d Q (pc + 1) (a0 :: a1 :: a2 :: some (.int x) :: tl) st σ) : V G own cc ret nL d Q pc (a0 :: a1 :: a2 :: b :: tl) (.int x :: st) σ :=
  V_istn (i := 3) hd rfl hi hn k
theorem V_istore_3 {G : vG} {own : String} {cc : ByteArray} {ret : Option FieldType} {nL d pc : Nat} {Q : Option Value → vS → Prop} {st : List Value} {σ : vS} {a0 a1 a2 : Option Value} {b : Option Value} {tl : List (Option Value)} {x : Int32} (hd : decode cc pc = .ok (.istore 3, 2)) (hn : vnl a2) (hi : 3 < nL) (k : V G own cc ret nL d Q (pc + 2) (a0 :: a1 :: a2 :: some (.int x) :: tl) st σ) : V G own cc ret nL d Q pc (a0 :: a1 :: a2 :: b :: tl) (.int x :: st) σ :=
  V_ist (i := 3) hd hi hn k
theorem V_astoren_3 {G : vG} {own : String} {cc : ByteArray} {ret : Option FieldType} {nL d pc : Nat} {Q : Option Value → vS → Prop} {st : List Value} {σ : vS} {a0 a1 a2 : Option Value} {b : Option Value} {tl : List (Option Value)} {x : Nat} (hd : decode cc pc = .ok (.astore_n 3, 1)) (hn : vnl a2) (hi : 3 < nL) (k : V G own cc ret nL d Q (pc + 1) (a0 :: a1 :: a2 :: some (.ref x) :: tl) st σ) : V G own cc ret nL d Q pc (a0 :: a1 :: a2 :: b :: tl) (.ref x :: st) σ :=
  V_astn (i := 3) hd rfl hi hn k
theorem V_astore_3 {G : vG} {own : String} {cc : ByteArray} {ret : Option FieldType} {nL d pc : Nat} {Q : Option Value → vS → Prop} {st : List Value} {σ : vS} {a0 a1 a2 : Option Value} {b : Option Value} {tl : List (Option Value)} {x : Nat} (hd : decode cc pc = .ok (.astore 3, 2)) (hn : vnl a2) (hi : 3 < nL) (k : V G own cc ret nL d Q (pc + 2) (a0 :: a1 :: a2 :: some (.ref x) :: tl) st σ) : V G own cc ret nL d Q pc (a0 :: a1 :: a2 :: b :: tl) (.ref x :: st) σ :=
  V_ast (i := 3) hd hi hn k
theorem V_lstoren_3 {G : vG} {own : String} {cc : ByteArray} {ret : Option FieldType} {nL d pc : Nat} {Q : Option Value → vS → Prop} {st : List Value} {σ : vS} {a0 a1 a2 : Option Value} {b b2 : Option Value} {tl : List (Option Value)} {x : Int64} (hd : decode cc pc = .ok (.lstore_n 3, 1)) (hn : vnl a2) (hi : 3 + 1 < nL) (k : V G own cc ret nL d Q (pc + 1) (a0 :: a1 :: a2 :: some (.long x) :: none :: tl) st σ) : V G own cc ret nL d Q pc (a0 :: a1 :: a2 :: b :: b2 :: tl) (.long x :: st) σ :=
  V_lstn (i := 3) hd rfl hi hn k
theorem V_lstore_3 {G : vG} {own : String} {cc : ByteArray} {ret : Option FieldType} {nL d pc : Nat} {Q : Option Value → vS → Prop} {st : List Value} {σ : vS} {a0 a1 a2 : Option Value} {b b2 : Option Value} {tl : List (Option Value)} {x : Int64} (hd : decode cc pc = .ok (.lstore 3, 2)) (hn : vnl a2) (hi : 3 + 1 < nL) (k : V G own cc ret nL d Q (pc + 2) (a0 :: a1 :: a2 :: some (.long x) :: none :: tl) st σ) : V G own cc ret nL d Q pc (a0 :: a1 :: a2 :: b :: b2 :: tl) (.long x :: st) σ :=
  V_lst (i := 3) hd hi hn k
theorem V_iinc_3 {G : vG} {own : String} {cc : ByteArray} {ret : Option FieldType} {nL d pc : Nat} {Q : Option Value → vS → Prop} {st : List Value} {σ : vS} {a0 a1 a2 : Option Value} {n : Int} {tl : List (Option Value)} {x : Int32} (hd : decode cc pc = .ok (.iinc 3 n, 3)) (hn : vnl a2) (hi : 3 < nL) (y : Int32) (hy : x + Int32.ofInt n = y) (k : V G own cc ret nL d Q (pc + 3) (a0 :: a1 :: a2 :: some (.int y) :: tl) st σ) : V G own cc ret nL d Q pc (a0 :: a1 :: a2 :: some (.int x) :: tl) st σ := by
  subst hy
  exact V_iinc (i := 3) hd hi rfl hn k
theorem V_forget_3 {G : vG} {own : String} {cc : ByteArray} {ret : Option FieldType} {nL d pc : Nat} {Q : Option Value → vS → Prop} {st : List Value} {σ : vS} {a0 a1 a2 : Option Value} {b : Option Value} {tl : List (Option Value)} {lo : List (Option Value)} (k : V G own cc ret nL d Q pc (a0 :: a1 :: a2 :: none :: tl) st σ) : V G own cc ret nL d Q pc (a0 :: a1 :: a2 :: b :: tl) st σ :=
  V_forget (i := 3) k
theorem V_istore_4 {G : vG} {own : String} {cc : ByteArray} {ret : Option FieldType} {nL d pc : Nat} {Q : Option Value → vS → Prop} {st : List Value} {σ : vS} {a0 a1 a2 a3 : Option Value} {b : Option Value} {tl : List (Option Value)} {x : Int32} (hd : decode cc pc = .ok (.istore 4, 2)) (hn : vnl a3) (hi : 4 < nL) (k : V G own cc ret nL d Q (pc + 2) (a0 :: a1 :: a2 :: a3 :: some (.int x) :: tl) st σ) : V G own cc ret nL d Q pc (a0 :: a1 :: a2 :: a3 :: b :: tl) (.int x :: st) σ :=
  V_ist (i := 4) hd hi hn k
theorem V_astore_4 {G : vG} {own : String} {cc : ByteArray} {ret : Option FieldType} {nL d pc : Nat} {Q : Option Value → vS → Prop} {st : List Value} {σ : vS} {a0 a1 a2 a3 : Option Value} {b : Option Value} {tl : List (Option Value)} {x : Nat} (hd : decode cc pc = .ok (.astore 4, 2)) (hn : vnl a3) (hi : 4 < nL) (k : V G own cc ret nL d Q (pc + 2) (a0 :: a1 :: a2 :: a3 :: some (.ref x) :: tl) st σ) : V G own cc ret nL d Q pc (a0 :: a1 :: a2 :: a3 :: b :: tl) (.ref x :: st) σ :=
  V_ast (i := 4) hd hi hn k
theorem V_lstore_4 {G : vG} {own : String} {cc : ByteArray} {ret : Option FieldType} {nL d pc : Nat} {Q : Option Value → vS → Prop} {st : List Value} {σ : vS} {a0 a1 a2 a3 : Option Value} {b b2 : Option Value} {tl : List (Option Value)} {x : Int64} (hd : decode cc pc = .ok (.lstore 4, 2)) (hn : vnl a3) (hi : 4 + 1 < nL) (k : V G own cc ret nL d Q (pc + 2) (a0 :: a1 :: a2 :: a3 :: some (.long x) :: none :: tl) st σ) : V G own cc ret nL d Q pc (a0 :: a1 :: a2 :: a3 :: b :: b2 :: tl) (.long x :: st) σ :=
  V_lst (i := 4) hd hi hn k
theorem V_iinc_4 {G : vG} {own : String} {cc : ByteArray} {ret : Option FieldType} {nL d pc : Nat} {Q : Option Value → vS → Prop} {st : List Value} {σ : vS} {a0 a1 a2 a3 : Option Value} {n : Int} {tl : List (Option Value)} {x : Int32} (hd : decode cc pc = .ok (.iinc 4 n, 3)) (hn : vnl a3) (hi : 4 < nL) (y : Int32) (hy : x + Int32.ofInt n = y) (k : V G own cc ret nL d Q (pc + 3) (a0 :: a1 :: a2 :: a3 :: some (.int y) :: tl) st σ) : V G own cc ret nL d Q pc (a0 :: a1 :: a2 :: a3 :: some (.int x) :: tl) st σ := by
  subst hy
  exact V_iinc (i := 4) hd hi rfl hn k
theorem V_forget_4 {G : vG} {own : String} {cc : ByteArray} {ret : Option FieldType} {nL d pc : Nat} {Q : Option Value → vS → Prop} {st : List Value} {σ : vS} {a0 a1 a2 a3 : Option Value} {b : Option Value} {tl : List (Option Value)} {lo : List (Option Value)} (k : V G own cc ret nL d Q pc (a0 :: a1 :: a2 :: a3 :: none :: tl) st σ) : V G own cc ret nL d Q pc (a0 :: a1 :: a2 :: a3 :: b :: tl) st σ :=
  V_forget (i := 4) k
theorem V_istore_5 {G : vG} {own : String} {cc : ByteArray} {ret : Option FieldType} {nL d pc : Nat} {Q : Option Value → vS → Prop} {st : List Value} {σ : vS} {a0 a1 a2 a3 a4 : Option Value} {b : Option Value} {tl : List (Option Value)} {x : Int32} (hd : decode cc pc = .ok (.istore 5, 2)) (hn : vnl a4) (hi : 5 < nL) (k : V G own cc ret nL d Q (pc + 2) (a0 :: a1 :: a2 :: a3 :: a4 :: some (.int x) :: tl) st σ) : V G own cc ret nL d Q pc (a0 :: a1 :: a2 :: a3 :: a4 :: b :: tl) (.int x :: st) σ :=
  V_ist (i := 5) hd hi hn k
theorem V_astore_5 {G : vG} {own : String} {cc : ByteArray} {ret : Option FieldType} {nL d pc : Nat} {Q : Option Value → vS → Prop} {st : List Value} {σ : vS} {a0 a1 a2 a3 a4 : Option Value} {b : Option Value} {tl : List (Option Value)} {x : Nat} (hd : decode cc pc = .ok (.astore 5, 2)) (hn : vnl a4) (hi : 5 < nL) (k : V G own cc ret nL d Q (pc + 2) (a0 :: a1 :: a2 :: a3 :: a4 :: some (.ref x) :: tl) st σ) : V G own cc ret nL d Q pc (a0 :: a1 :: a2 :: a3 :: a4 :: b :: tl) (.ref x :: st) σ :=
  V_ast (i := 5) hd hi hn k
theorem V_lstore_5 {G : vG} {own : String} {cc : ByteArray} {ret : Option FieldType} {nL d pc : Nat} {Q : Option Value → vS → Prop} {st : List Value} {σ : vS} {a0 a1 a2 a3 a4 : Option Value} {b b2 : Option Value} {tl : List (Option Value)} {x : Int64} (hd : decode cc pc = .ok (.lstore 5, 2)) (hn : vnl a4) (hi : 5 + 1 < nL) (k : V G own cc ret nL d Q (pc + 2) (a0 :: a1 :: a2 :: a3 :: a4 :: some (.long x) :: none :: tl) st σ) : V G own cc ret nL d Q pc (a0 :: a1 :: a2 :: a3 :: a4 :: b :: b2 :: tl) (.long x :: st) σ :=
  V_lst (i := 5) hd hi hn k
theorem V_iinc_5 {G : vG} {own : String} {cc : ByteArray} {ret : Option FieldType} {nL d pc : Nat} {Q : Option Value → vS → Prop} {st : List Value} {σ : vS} {a0 a1 a2 a3 a4 : Option Value} {n : Int} {tl : List (Option Value)} {x : Int32} (hd : decode cc pc = .ok (.iinc 5 n, 3)) (hn : vnl a4) (hi : 5 < nL) (y : Int32) (hy : x + Int32.ofInt n = y) (k : V G own cc ret nL d Q (pc + 3) (a0 :: a1 :: a2 :: a3 :: a4 :: some (.int y) :: tl) st σ) : V G own cc ret nL d Q pc (a0 :: a1 :: a2 :: a3 :: a4 :: some (.int x) :: tl) st σ := by
  subst hy
  exact V_iinc (i := 5) hd hi rfl hn k
theorem V_forget_5 {G : vG} {own : String} {cc : ByteArray} {ret : Option FieldType} {nL d pc : Nat} {Q : Option Value → vS → Prop} {st : List Value} {σ : vS} {a0 a1 a2 a3 a4 : Option Value} {b : Option Value} {tl : List (Option Value)} {lo : List (Option Value)} (k : V G own cc ret nL d Q pc (a0 :: a1 :: a2 :: a3 :: a4 :: none :: tl) st σ) : V G own cc ret nL d Q pc (a0 :: a1 :: a2 :: a3 :: a4 :: b :: tl) st σ :=
  V_forget (i := 5) k
theorem V_istore_6 {G : vG} {own : String} {cc : ByteArray} {ret : Option FieldType} {nL d pc : Nat} {Q : Option Value → vS → Prop} {st : List Value} {σ : vS} {a0 a1 a2 a3 a4 a5 : Option Value} {b : Option Value} {tl : List (Option Value)} {x : Int32} (hd : decode cc pc = .ok (.istore 6, 2)) (hn : vnl a5) (hi : 6 < nL) (k : V G own cc ret nL d Q (pc + 2) (a0 :: a1 :: a2 :: a3 :: a4 :: a5 :: some (.int x) :: tl) st σ) : V G own cc ret nL d Q pc (a0 :: a1 :: a2 :: a3 :: a4 :: a5 :: b :: tl) (.int x :: st) σ :=
  V_ist (i := 6) hd hi hn k
theorem V_astore_6 {G : vG} {own : String} {cc : ByteArray} {ret : Option FieldType} {nL d pc : Nat} {Q : Option Value → vS → Prop} {st : List Value} {σ : vS} {a0 a1 a2 a3 a4 a5 : Option Value} {b : Option Value} {tl : List (Option Value)} {x : Nat} (hd : decode cc pc = .ok (.astore 6, 2)) (hn : vnl a5) (hi : 6 < nL) (k : V G own cc ret nL d Q (pc + 2) (a0 :: a1 :: a2 :: a3 :: a4 :: a5 :: some (.ref x) :: tl) st σ) : V G own cc ret nL d Q pc (a0 :: a1 :: a2 :: a3 :: a4 :: a5 :: b :: tl) (.ref x :: st) σ :=
  V_ast (i := 6) hd hi hn k
theorem V_lstore_6 {G : vG} {own : String} {cc : ByteArray} {ret : Option FieldType} {nL d pc : Nat} {Q : Option Value → vS → Prop} {st : List Value} {σ : vS} {a0 a1 a2 a3 a4 a5 : Option Value} {b b2 : Option Value} {tl : List (Option Value)} {x : Int64} (hd : decode cc pc = .ok (.lstore 6, 2)) (hn : vnl a5) (hi : 6 + 1 < nL) (k : V G own cc ret nL d Q (pc + 2) (a0 :: a1 :: a2 :: a3 :: a4 :: a5 :: some (.long x) :: none :: tl) st σ) : V G own cc ret nL d Q pc (a0 :: a1 :: a2 :: a3 :: a4 :: a5 :: b :: b2 :: tl) (.long x :: st) σ :=
  V_lst (i := 6) hd hi hn k
theorem V_iinc_6 {G : vG} {own : String} {cc : ByteArray} {ret : Option FieldType} {nL d pc : Nat} {Q : Option Value → vS → Prop} {st : List Value} {σ : vS} {a0 a1 a2 a3 a4 a5 : Option Value} {n : Int} {tl : List (Option Value)} {x : Int32} (hd : decode cc pc = .ok (.iinc 6 n, 3)) (hn : vnl a5) (hi : 6 < nL) (y : Int32) (hy : x + Int32.ofInt n = y) (k : V G own cc ret nL d Q (pc + 3) (a0 :: a1 :: a2 :: a3 :: a4 :: a5 :: some (.int y) :: tl) st σ) : V G own cc ret nL d Q pc (a0 :: a1 :: a2 :: a3 :: a4 :: a5 :: some (.int x) :: tl) st σ := by
  subst hy
  exact V_iinc (i := 6) hd hi rfl hn k
theorem V_forget_6 {G : vG} {own : String} {cc : ByteArray} {ret : Option FieldType} {nL d pc : Nat} {Q : Option Value → vS → Prop} {st : List Value} {σ : vS} {a0 a1 a2 a3 a4 a5 : Option Value} {b : Option Value} {tl : List (Option Value)} {lo : List (Option Value)} (k : V G own cc ret nL d Q pc (a0 :: a1 :: a2 :: a3 :: a4 :: a5 :: none :: tl) st σ) : V G own cc ret nL d Q pc (a0 :: a1 :: a2 :: a3 :: a4 :: a5 :: b :: tl) st σ :=
  V_forget (i := 6) k
theorem V_istore_7 {G : vG} {own : String} {cc : ByteArray} {ret : Option FieldType} {nL d pc : Nat} {Q : Option Value → vS → Prop} {st : List Value} {σ : vS} {a0 a1 a2 a3 a4 a5 a6 : Option Value} {b : Option Value} {tl : List (Option Value)} {x : Int32} (hd : decode cc pc = .ok (.istore 7, 2)) (hn : vnl a6) (hi : 7 < nL) (k : V G own cc ret nL d Q (pc + 2) (a0 :: a1 :: a2 :: a3 :: a4 :: a5 :: a6 :: some (.int x) :: tl) st σ) : V G own cc ret nL d Q pc (a0 :: a1 :: a2 :: a3 :: a4 :: a5 :: a6 :: b :: tl) (.int x :: st) σ :=
  V_ist (i := 7) hd hi hn k
theorem V_astore_7 {G : vG} {own : String} {cc : ByteArray} {ret : Option FieldType} {nL d pc : Nat} {Q : Option Value → vS → Prop} {st : List Value} {σ : vS} {a0 a1 a2 a3 a4 a5 a6 : Option Value} {b : Option Value} {tl : List (Option Value)} {x : Nat} (hd : decode cc pc = .ok (.astore 7, 2)) (hn : vnl a6) (hi : 7 < nL) (k : V G own cc ret nL d Q (pc + 2) (a0 :: a1 :: a2 :: a3 :: a4 :: a5 :: a6 :: some (.ref x) :: tl) st σ) : V G own cc ret nL d Q pc (a0 :: a1 :: a2 :: a3 :: a4 :: a5 :: a6 :: b :: tl) (.ref x :: st) σ :=
  V_ast (i := 7) hd hi hn k
theorem V_lstore_7 {G : vG} {own : String} {cc : ByteArray} {ret : Option FieldType} {nL d pc : Nat} {Q : Option Value → vS → Prop} {st : List Value} {σ : vS} {a0 a1 a2 a3 a4 a5 a6 : Option Value} {b b2 : Option Value} {tl : List (Option Value)} {x : Int64} (hd : decode cc pc = .ok (.lstore 7, 2)) (hn : vnl a6) (hi : 7 + 1 < nL) (k : V G own cc ret nL d Q (pc + 2) (a0 :: a1 :: a2 :: a3 :: a4 :: a5 :: a6 :: some (.long x) :: none :: tl) st σ) : V G own cc ret nL d Q pc (a0 :: a1 :: a2 :: a3 :: a4 :: a5 :: a6 :: b :: b2 :: tl) (.long x :: st) σ :=
  V_lst (i := 7) hd hi hn k
theorem V_iinc_7 {G : vG} {own : String} {cc : ByteArray} {ret : Option FieldType} {nL d pc : Nat} {Q : Option Value → vS → Prop} {st : List Value} {σ : vS} {a0 a1 a2 a3 a4 a5 a6 : Option Value} {n : Int} {tl : List (Option Value)} {x : Int32} (hd : decode cc pc = .ok (.iinc 7 n, 3)) (hn : vnl a6) (hi : 7 < nL) (y : Int32) (hy : x + Int32.ofInt n = y) (k : V G own cc ret nL d Q (pc + 3) (a0 :: a1 :: a2 :: a3 :: a4 :: a5 :: a6 :: some (.int y) :: tl) st σ) : V G own cc ret nL d Q pc (a0 :: a1 :: a2 :: a3 :: a4 :: a5 :: a6 :: some (.int x) :: tl) st σ := by
  subst hy
  exact V_iinc (i := 7) hd hi rfl hn k
theorem V_forget_7 {G : vG} {own : String} {cc : ByteArray} {ret : Option FieldType} {nL d pc : Nat} {Q : Option Value → vS → Prop} {st : List Value} {σ : vS} {a0 a1 a2 a3 a4 a5 a6 : Option Value} {b : Option Value} {tl : List (Option Value)} {lo : List (Option Value)} (k : V G own cc ret nL d Q pc (a0 :: a1 :: a2 :: a3 :: a4 :: a5 :: a6 :: none :: tl) st σ) : V G own cc ret nL d Q pc (a0 :: a1 :: a2 :: a3 :: a4 :: a5 :: a6 :: b :: tl) st σ :=
  V_forget (i := 7) k
theorem V_istore_8 {G : vG} {own : String} {cc : ByteArray} {ret : Option FieldType} {nL d pc : Nat} {Q : Option Value → vS → Prop} {st : List Value} {σ : vS} {a0 a1 a2 a3 a4 a5 a6 a7 : Option Value} {b : Option Value} {tl : List (Option Value)} {x : Int32} (hd : decode cc pc = .ok (.istore 8, 2)) (hn : vnl a7) (hi : 8 < nL) (k : V G own cc ret nL d Q (pc + 2) (a0 :: a1 :: a2 :: a3 :: a4 :: a5 :: a6 :: a7 :: some (.int x) :: tl) st σ) : V G own cc ret nL d Q pc (a0 :: a1 :: a2 :: a3 :: a4 :: a5 :: a6 :: a7 :: b :: tl) (.int x :: st) σ :=
  V_ist (i := 8) hd hi hn k
theorem V_astore_8 {G : vG} {own : String} {cc : ByteArray} {ret : Option FieldType} {nL d pc : Nat} {Q : Option Value → vS → Prop} {st : List Value} {σ : vS} {a0 a1 a2 a3 a4 a5 a6 a7 : Option Value} {b : Option Value} {tl : List (Option Value)} {x : Nat} (hd : decode cc pc = .ok (.astore 8, 2)) (hn : vnl a7) (hi : 8 < nL) (k : V G own cc ret nL d Q (pc + 2) (a0 :: a1 :: a2 :: a3 :: a4 :: a5 :: a6 :: a7 :: some (.ref x) :: tl) st σ) : V G own cc ret nL d Q pc (a0 :: a1 :: a2 :: a3 :: a4 :: a5 :: a6 :: a7 :: b :: tl) (.ref x :: st) σ :=
  V_ast (i := 8) hd hi hn k
theorem V_lstore_8 {G : vG} {own : String} {cc : ByteArray} {ret : Option FieldType} {nL d pc : Nat} {Q : Option Value → vS → Prop} {st : List Value} {σ : vS} {a0 a1 a2 a3 a4 a5 a6 a7 : Option Value} {b b2 : Option Value} {tl : List (Option Value)} {x : Int64} (hd : decode cc pc = .ok (.lstore 8, 2)) (hn : vnl a7) (hi : 8 + 1 < nL) (k : V G own cc ret nL d Q (pc + 2) (a0 :: a1 :: a2 :: a3 :: a4 :: a5 :: a6 :: a7 :: some (.long x) :: none :: tl) st σ) : V G own cc ret nL d Q pc (a0 :: a1 :: a2 :: a3 :: a4 :: a5 :: a6 :: a7 :: b :: b2 :: tl) (.long x :: st) σ :=
  V_lst (i := 8) hd hi hn k
theorem V_iinc_8 {G : vG} {own : String} {cc : ByteArray} {ret : Option FieldType} {nL d pc : Nat} {Q : Option Value → vS → Prop} {st : List Value} {σ : vS} {a0 a1 a2 a3 a4 a5 a6 a7 : Option Value} {n : Int} {tl : List (Option Value)} {x : Int32} (hd : decode cc pc = .ok (.iinc 8 n, 3)) (hn : vnl a7) (hi : 8 < nL) (y : Int32) (hy : x + Int32.ofInt n = y) (k : V G own cc ret nL d Q (pc + 3) (a0 :: a1 :: a2 :: a3 :: a4 :: a5 :: a6 :: a7 :: some (.int y) :: tl) st σ) : V G own cc ret nL d Q pc (a0 :: a1 :: a2 :: a3 :: a4 :: a5 :: a6 :: a7 :: some (.int x) :: tl) st σ := by
  subst hy
  exact V_iinc (i := 8) hd hi rfl hn k
theorem V_forget_8 {G : vG} {own : String} {cc : ByteArray} {ret : Option FieldType} {nL d pc : Nat} {Q : Option Value → vS → Prop} {st : List Value} {σ : vS} {a0 a1 a2 a3 a4 a5 a6 a7 : Option Value} {b : Option Value} {tl : List (Option Value)} {lo : List (Option Value)} (k : V G own cc ret nL d Q pc (a0 :: a1 :: a2 :: a3 :: a4 :: a5 :: a6 :: a7 :: none :: tl) st σ) : V G own cc ret nL d Q pc (a0 :: a1 :: a2 :: a3 :: a4 :: a5 :: a6 :: a7 :: b :: tl) st σ :=
  V_forget (i := 8) k
theorem V_istore_9 {G : vG} {own : String} {cc : ByteArray} {ret : Option FieldType} {nL d pc : Nat} {Q : Option Value → vS → Prop} {st : List Value} {σ : vS} {a0 a1 a2 a3 a4 a5 a6 a7 a8 : Option Value} {b : Option Value} {tl : List (Option Value)} {x : Int32} (hd : decode cc pc = .ok (.istore 9, 2)) (hn : vnl a8) (hi : 9 < nL) (k : V G own cc ret nL d Q (pc + 2) (a0 :: a1 :: a2 :: a3 :: a4 :: a5 :: a6 :: a7 :: a8 :: some (.int x) :: tl) st σ) : V G own cc ret nL d Q pc (a0 :: a1 :: a2 :: a3 :: a4 :: a5 :: a6 :: a7 :: a8 :: b :: tl) (.int x :: st) σ :=
  V_ist (i := 9) hd hi hn k
theorem V_astore_9 {G : vG} {own : String} {cc : ByteArray} {ret : Option FieldType} {nL d pc : Nat} {Q : Option Value → vS → Prop} {st : List Value} {σ : vS} {a0 a1 a2 a3 a4 a5 a6 a7 a8 : Option Value} {b : Option Value} {tl : List (Option Value)} {x : Nat} (hd : decode cc pc = .ok (.astore 9, 2)) (hn : vnl a8) (hi : 9 < nL) (k : V G own cc ret nL d Q (pc + 2) (a0 :: a1 :: a2 :: a3 :: a4 :: a5 :: a6 :: a7 :: a8 :: some (.ref x) :: tl) st σ) : V G own cc ret nL d Q pc (a0 :: a1 :: a2 :: a3 :: a4 :: a5 :: a6 :: a7 :: a8 :: b :: tl) (.ref x :: st) σ :=
  V_ast (i := 9) hd hi hn k
theorem V_lstore_9 {G : vG} {own : String} {cc : ByteArray} {ret : Option FieldType} {nL d pc : Nat} {Q : Option Value → vS → Prop} {st : List Value} {σ : vS} {a0 a1 a2 a3 a4 a5 a6 a7 a8 : Option Value} {b b2 : Option Value} {tl : List (Option Value)} {x : Int64} (hd : decode cc pc = .ok (.lstore 9, 2)) (hn : vnl a8) (hi : 9 + 1 < nL) (k : V G own cc ret nL d Q (pc + 2) (a0 :: a1 :: a2 :: a3 :: a4 :: a5 :: a6 :: a7 :: a8 :: some (.long x) :: none :: tl) st σ) : V G own cc ret nL d Q pc (a0 :: a1 :: a2 :: a3 :: a4 :: a5 :: a6 :: a7 :: a8 :: b :: b2 :: tl) (.long x :: st) σ :=
  V_lst (i := 9) hd hi hn k
theorem V_iinc_9 {G : vG} {own : String} {cc : ByteArray} {ret : Option FieldType} {nL d pc : Nat} {Q : Option Value → vS → Prop} {st : List Value} {σ : vS} {a0 a1 a2 a3 a4 a5 a6 a7 a8 : Option Value} {n : Int} {tl : List (Option Value)} {x : Int32} (hd : decode cc pc = .ok (.iinc 9 n, 3)) (hn : vnl a8) (hi : 9 < nL) (y : Int32) (hy : x + Int32.ofInt n = y) (k : V G own cc ret nL d Q (pc + 3) (a0 :: a1 :: a2 :: a3 :: a4 :: a5 :: a6 :: a7 :: a8 :: some (.int y) :: tl) st σ) : V G own cc ret nL d Q pc (a0 :: a1 :: a2 :: a3 :: a4 :: a5 :: a6 :: a7 :: a8 :: some (.int x) :: tl) st σ := by
  subst hy
  exact V_iinc (i := 9) hd hi rfl hn k
theorem V_forget_9 {G : vG} {own : String} {cc : ByteArray} {ret : Option FieldType} {nL d pc : Nat} {Q : Option Value → vS → Prop} {st : List Value} {σ : vS} {a0 a1 a2 a3 a4 a5 a6 a7 a8 : Option Value} {b : Option Value} {tl : List (Option Value)} {lo : List (Option Value)} (k : V G own cc ret nL d Q pc (a0 :: a1 :: a2 :: a3 :: a4 :: a5 :: a6 :: a7 :: a8 :: none :: tl) st σ) : V G own cc ret nL d Q pc (a0 :: a1 :: a2 :: a3 :: a4 :: a5 :: a6 :: a7 :: a8 :: b :: tl) st σ :=
  V_forget (i := 9) k

/-! ===== fields and arrays ===== -/
/-- the place p is an object of the kind ci whose k-th field is the int σ p k (none) or a place -/
def vO (p ci k : Nat) (x : Option Nat) : Prop := p < nP ∧ ∃ n fs, sh p = (2, ci, n, fs) ∧ k < n ∧ fs.getD k none = x
/-- the place p is an array of numbers of the type k, of length n -/
def vA (p k n : Nat) : Prop := p < nP ∧ ∃ fs, sh p = (0, k, n, fs)
/-- the place p is an array of references of type k, its j-th a place -/
def vE (p k j q : Nat) : Prop := p < nP ∧ ∃ n fs, sh p = (1, k, n, fs) ∧ j < n ∧ n < 2 ^ 31 ∧ fs.getD j none = some q
theorem vfs_get {th : Nat → Nat} {f : Nat → Int32} {n k : Nat} {fs : List (Option Nat)} (hk : k < n) : (vfs th f n fs)[k]? = some (match fs.getD k none with
  | some q => Value.ref (th q)
  | none => Value.int (f k)) := by
  simp [vfs, List.getElem?_map, List.getElem?_range hk]
theorem vfs_set {th : Nat → Nat} {f : Nat → Int32} {n k : Nat} {fs : List (Option Nat)} {v : Int32} (hx : fs.getD k none = none) : (vfs th f n fs).set k (.int v) = vfs th (upd f k v) n fs := by
  apply List.ext_getElem?
  intro j
  by_cases hj : j < n
  · rw [vfs_get hj]
    by_cases hjk : j = k
    · subst hjk
      rw [List.getElem?_set_self (by simp [vfs]; exact hj)]
      rw [hx]
      simp [upd]
    · rw [List.getElem?_set_ne (fun e => hjk e.symm), vfs_get hj]
      simp [upd, hjk]
  · rw [List.getElem?_eq_none (by simp [vfs]; omega), List.getElem?_eq_none (by simp [vfs]; omega)]
/-- the fields' words: own's entry idx is the k-th field of the kind ci -/
def vFL (own : String) (idx ci k : Nat) : Prop := ∃ C T N, vwCl[ci]? = some (C, T, N) ∧ k < N ∧ (∀ w ∈ u_ws C T N, w ∈ WD) ∧ Cond.fieldLink own idx (T k).1 (T k).2.1 (T k).2.2.1 ∈ WD
def vFP (own : String) (idx ci k : Nat) (ty : FieldType) : Prop := ∃ (C : String) (T : u_T) (N : Nat) (ty0 : Nat → FieldType), vwCl[ci]? = some (C, T, N) ∧ k < N ∧ (∀ w ∈ u_ws C T N, w ∈ WD) ∧ Cond.fieldLink own idx (T k).1 (T k).2.1 (T k).2.2.1 ∈ WD ∧ (∀ k, k < N → parseFieldDescriptor (T k).2.2.1 = some (ty0 k)) ∧ (∀ a, a < N → ∀ b, b < N → a ≠ b → (T a).2.1 ≠ (T b).2.1) ∧ (T k).2.2.2 = false ∧ ty0 k = ty
section VFF
variable {G : vG} {own : String} {cc : ByteArray} {ret : Option FieldType} {nL d pc : Nat} {Q : Option Value → vS → Prop} {lo : List (Option Value)} {st : List Value} {σ : vS}
theorem V_getI {idx ci k p0 : Nat} (hd : decode cc pc = .ok (.getfield idx, 3)) (fl : vFL own idx ci k) (ho : vO p0 ci k none) (kk : V G own cc ret nL d Q (pc + 3) lo (.int (σ p0 k) :: st) σ) : V G own cc ret nL d Q pc lo (.ref p0 :: st) σ := by
  intro p e s m args below meth c H locs ls hA hP hS hL
  obtain ⟨hx, hb, hr, hml, hown, hts, hlk, hK⟩ := id hA
  obtain ⟨C, T, N, h1, h2, h3, h4⟩ := fl
  obtain ⟨hp, n, fs, hs, hk, hf⟩ := ho
  have hg := wsOf_get G σ hp
  rw [hs] at hg
  exact va_get (D := G.2.1) (v := .int (σ p0 k)) hx hb hts h3 hown hK.1 hP.1 p0 hg h1 k h2 (hts _ h4) (fun _ h => h) (by rw [vfs_get hk, hf]) hd (kk p e s m args below meth c H locs ls hA hP hS hL)
theorem V_getR {idx ci k p0 q : Nat} (hd : decode cc pc = .ok (.getfield idx, 3)) (fl : vFL own idx ci k) (ho : vO p0 ci k (some q)) (kk : V G own cc ret nL d Q (pc + 3) lo (.ref q :: st) σ) : V G own cc ret nL d Q pc lo (.ref p0 :: st) σ := by
  intro p e s m args below meth c H locs ls hA hP hS hL
  obtain ⟨hx, hb, hr, hml, hown, hts, hlk, hK⟩ := id hA
  obtain ⟨C, T, N, h1, h2, h3, h4⟩ := fl
  obtain ⟨hp, n, fs, hs, hk, hf⟩ := ho
  have hg := wsOf_get G σ hp
  rw [hs] at hg
  exact va_get (D := G.2.1) (v := .ref (G.th q)) hx hb hts h3 hown hK.1 hP.1 p0 hg h1 k h2 (hts _ h4) (fun _ h => h) (by rw [vfs_get hk, hf]) hd (kk p e s m args below meth c H locs ls hA hP hS hL)
theorem V_put {idx ci k p0 : Nat} {x : Int32} {ty : FieldType} (hd : decode cc pc = .ok (.putfield idx, 3)) (fl : vFP own idx ci k ty) (ho : vO p0 ci k none) (hn : narrow ty (.int x) = .int x) (hfit : fits ty (.int x) = true) (kk : V G own cc ret nL d Q (pc + 3) lo st (vup σ p0 k x)) : V G own cc ret nL d Q pc lo (.int x :: .ref p0 :: st) σ := by
  intro p e s m args below meth c H locs ls hA hP hS hL
  obtain ⟨hx, hb, hr, hml, hown, hts, hlk, hK⟩ := id hA
  obtain ⟨C, T, N, ty0, h1, h2, h3, h4, h5, h6, h7, h8⟩ := fl
  obtain ⟨hp, n, fs, hs, hk, hf⟩ := ho
  have hg := wsOf_get G σ hp
  rw [hs] at hg
  refine va_put (D := G.2.1) (v := .int x) (ty := ty) hx hb hts h3 ty0 h5 h6 hown hK.1 hP.1 hP.2 hS p0 hg h1 k h2 (hts _ h4) (fun _ h => h) h7 (by rw [h5 k h2, h8]) hn hfit (by simp [vfs]; exact hk) hd (fun H1 locs1 hP1 hD1 hS1 => ?_)
  have e1 : (wsOf G σ).set p0 (G.th p0, .inr (ci, (vfs G.th (σ p0) n fs).set k (.int x))) = wsOf G (vup σ p0 k x) := by
    rw [← wsOf_set G σ (vup σ p0 k x) hp (fun q hq => vup_p hq), hs, vup_at, vfs_set hf]
    rfl
  rw [e1] at hP1 hD1
  exact kk p e s m args below meth c H1 locs1 ls hA ⟨hP1, hD1⟩ hS1 hL
theorem V_putI {idx ci k p0 : Nat} {x : Int32} (hd : decode cc pc = .ok (.putfield idx, 3)) (fl : vFP own idx ci k .int) (ho : vO p0 ci k none) (kk : V G own cc ret nL d Q (pc + 3) lo st (vup σ p0 k x)) : V G own cc ret nL d Q pc lo (.int x :: .ref p0 :: st) σ :=
  V_put hd fl ho rfl rfl kk
theorem V_putZ {idx ci k p0 : Nat} {x : Int32} (hd : decode cc pc = .ok (.putfield idx, 3)) (fl : vFP own idx ci k .boolean) (ho : vO p0 ci k none) (hz : x = 0 ∨ x = 1) (kk : V G own cc ret nL d Q (pc + 3) lo st (vup σ p0 k x)) : V G own cc ret nL d Q pc lo (.int x :: .ref p0 :: st) σ :=
  V_put hd fl ho (by rcases hz with rfl | rfl <;> decide) (by rcases hz with rfl | rfl <;> decide) kk
theorem V_iald {p0 n j : Nat} (hd : decode cc pc = .ok (.iaload, 1)) (ha : vA p0 0 n) (hj : j < n) (hn : n < 2 ^ 31) (kk : V G own cc ret nL d Q (pc + 1) lo (.int (σ p0 j) :: st) σ) : V G own cc ret nL d Q pc lo (.int (nI j) :: .ref p0 :: st) σ := by
  intro p e s m args below meth c H locs ls hA hP hS hL
  obtain ⟨hx, hb, hr, hml, hown, hts, hlk, hK⟩ := id hA
  obtain ⟨hp, fs, hs⟩ := ha
  have hg := wsOf_get G σ hp
  rw [hs] at hg
  refine va_iald hx hb hK.1 hP.1 p0 0 hg rfl (vp_in_nI hj hn) hd ?_
  rw [nI_clamp (Nat.lt_trans hj hn)]
  exact kk p e s m args below meth c H locs ls hA hP hS hL
theorem V_cald {p0 n j : Nat} (hd : decode cc pc = .ok (.caload, 1)) (ha : vA p0 1 n) (hj : j < n) (hn : n < 2 ^ 31) (kk : V G own cc ret nL d Q (pc + 1) lo (.int (σ p0 j) :: st) σ) : V G own cc ret nL d Q pc lo (.int (nI j) :: .ref p0 :: st) σ := by
  intro p e s m args below meth c H locs ls hA hP hS hL
  obtain ⟨hx, hb, hr, hml, hown, hts, hlk, hK⟩ := id hA
  obtain ⟨hp, fs, hs⟩ := ha
  have hg := wsOf_get G σ hp
  rw [hs] at hg
  refine va_cald hx hb hK.1 hP.1 p0 1 hg rfl (vp_in_nI hj hn) hd ?_
  rw [nI_clamp (Nat.lt_trans hj hn)]
  exact kk p e s m args below meth c H locs ls hA hP hS hL
theorem V_zald {p0 n j : Nat} (hd : decode cc pc = .ok (.baload, 1)) (ha : vA p0 2 n) (hj : j < n) (hn : n < 2 ^ 31) (kk : V G own cc ret nL d Q (pc + 1) lo (.int (σ p0 j) :: st) σ) : V G own cc ret nL d Q pc lo (.int (nI j) :: .ref p0 :: st) σ := by
  intro p e s m args below meth c H locs ls hA hP hS hL
  obtain ⟨hx, hb, hr, hml, hown, hts, hlk, hK⟩ := id hA
  obtain ⟨hp, fs, hs⟩ := ha
  have hg := wsOf_get G σ hp
  rw [hs] at hg
  refine va_zald hx hb hK.1 hP.1 p0 2 hg rfl (vp_in_nI hj hn) hd ?_
  rw [nI_clamp (Nat.lt_trans hj hn)]
  exact kk p e s m args below meth c H locs ls hA hP hS hL
theorem V_iast {p0 n j : Nat} {x : Int32} (hd : decode cc pc = .ok (.iastore, 1)) (ha : vA p0 0 n) (hj : j < n) (hn : n < 2 ^ 31) (kk : V G own cc ret nL d Q (pc + 1) lo st (vup σ p0 j x)) : V G own cc ret nL d Q pc lo (.int x :: .int (nI j) :: .ref p0 :: st) σ := by
  intro p e s m args below meth c H locs ls hA hP hS hL
  obtain ⟨hx, hb, hr, hml, hown, hts, hlk, hK⟩ := id hA
  obtain ⟨hp, fs, hs⟩ := ha
  have hg := wsOf_get G σ hp
  rw [hs] at hg
  refine va_iast hx hb hK.1 hP.1 hP.2 hS p0 0 hg rfl (vp_in_nI hj hn) hd (fun H1 locs1 hP1 hD1 hS1 => ?_)
  rw [nI_clamp (Nat.lt_trans hj hn)] at hP1 hD1
  have e1 : (wsOf G σ).set p0 (G.th p0, .inl (G.2.2.1 0, n, .inl (upd (σ p0) j x))) = wsOf G (vup σ p0 j x) := by
    rw [← wsOf_set G σ (vup σ p0 j x) hp (fun q hq => vup_p hq), hs, vup_at]
    rfl
  rw [e1] at hP1 hD1
  exact kk p e s m args below meth c H1 locs1 ls hA ⟨hP1, hD1⟩ hS1 hL
theorem V_zast {p0 n j : Nat} {x : Int32} (hd : decode cc pc = .ok (.bastore, 1)) (ha : vA p0 2 n) (hj : j < n) (hn : n < 2 ^ 31) (hz : x = 0 ∨ x = 1) (kk : V G own cc ret nL d Q (pc + 1) lo st (vup σ p0 j x)) : V G own cc ret nL d Q pc lo (.int x :: .int (nI j) :: .ref p0 :: st) σ := by
  intro p e s m args below meth c H locs ls hA hP hS hL
  obtain ⟨hx, hb, hr, hml, hown, hts, hlk, hK⟩ := id hA
  obtain ⟨hp, fs, hs⟩ := ha
  have hg := wsOf_get G σ hp
  rw [hs] at hg
  refine va_zast hx hb hK.1 hP.1 hP.2 hS p0 2 hg rfl (vp_in_nI hj hn) hd (fun H1 locs1 hP1 hD1 hS1 => ?_)
  have hz1 : vp_nar .boolean x = x := by rcases hz with rfl | rfl <;> decide
  rw [nI_clamp (Nat.lt_trans hj hn), hz1] at hP1 hD1
  have e1 : (wsOf G σ).set p0 (G.th p0, .inl (G.2.2.1 2, n, .inl (upd (σ p0) j x))) = wsOf G (vup σ p0 j x) := by
    rw [← wsOf_set G σ (vup σ p0 j x) hp (fun q hq => vup_p hq), hs, vup_at]
    rfl
  rw [e1] at hP1 hD1
  exact kk p e s m args below meth c H1 locs1 ls hA ⟨hP1, hD1⟩ hS1 hL
theorem V_aald {p0 ty j q : Nat} (hd : decode cc pc = .ok (.aaload, 1)) (ha : vE p0 ty j q) (hty : ty = 3 ∨ ty = 4 ∨ ty = 5) (kk : V G own cc ret nL d Q (pc + 1) lo (.ref q :: st) σ) : V G own cc ret nL d Q pc lo (.int (nI j) :: .ref p0 :: st) σ := by
  intro p e s m args below meth c H locs ls hA hP hS hL
  obtain ⟨hx, hb, hr, hml, hown, hts, hlk, hK⟩ := id hA
  obtain ⟨hp, n, fs, hs, hj, hn, hf⟩ := ha
  have hg := wsOf_get G σ hp
  rw [hs] at hg
  have hc : ∃ C, (vtys G.2.2.1)[ty]? = some (G.2.2.1 ty, .object C) := by rcases hty with rfl | rfl | rfl <;> exact ⟨_, rfl⟩
  obtain ⟨C, hc⟩ := hc
  refine va_aldq hx hb hK.1 hP.1 p0 ty hg hc (vp_in_nI hj hn) hd ?_
  rw [nI_clamp (Nat.lt_trans hj hn), hf]
  exact kk p e s m args below meth c H locs ls hA hP hS hL
theorem V_alen {p0 n : Nat} (hd : decode cc pc = .ok (.arraylength, 1)) (ha : vA p0 0 n) (kk : V G own cc ret nL d Q (pc + 1) lo (.int (nI n) :: st) σ) : V G own cc ret nL d Q pc lo (.ref p0 :: st) σ := by
  intro p e s m args below meth c H locs ls hA hP hS hL
  obtain ⟨hx, hb, hr, hml, hown, hts, hlk, hK⟩ := id hA
  obtain ⟨hp, fs, hs⟩ := ha
  have hg := wsOf_get G σ hp
  rw [hs] at hg
  exact va_alen hx hb hK.1 hP.1 p0 0 hg rfl rfl hd (kk p e s m args below meth c H locs ls hA hP hS hL)
/-! System.arraycopy of ints -/
theorem V_copy {idx p0 p1 n0 n1 sp dp n : Nat} (hd : decode cc pc = .ok (.invokestatic idx, 3)) (hw : Cond.methodLink own idx arraycopyName ∈ WD) (h0 : vA p0 0 n0) (h1 : vA p1 0 n1) (hn0 : n0 < 2 ^ 31) (hn1 : n1 < 2 ^ 31) (hs0 : sp + n ≤ n0) (hs1 : dp + n ≤ n1) (hst : (st.map fun v => v.category).sum ≤ 8) (kk : V G own cc ret nL (d + 1) Q (pc + 3) lo st (vcp σ p0 p1 sp dp n)) : V G own cc ret nL (d + 1) Q pc lo (.int (nI n) :: .int (nI dp) :: .ref p1 :: .int (nI sp) :: .ref p0 :: st) σ := by
  intro p e s m args below meth c H locs ls hA hP hS hL
  obtain ⟨hx, hb, hr, hml, hown, hts, hlk, hK⟩ := id hA
  obtain ⟨hp0, fs0, hs0'⟩ := h0
  obtain ⟨hp1, fs1, hs1'⟩ := h1
  have hg0 := wsOf_get G σ hp0
  rw [hs0'] at hg0
  have hg1 := wsOf_get G σ hp1
  rw [hs1'] at hg1
  have q1 : (nI sp).toNatClampNeg = sp := nI_clamp (by omega)
  have q2 : (nI dp).toNatClampNeg = dp := nI_clamp (by omega)
  have q3 : (nI n).toNatClampNeg = n := nI_clamp (by omega)
  refine va_copyi (ty := .int) hx hb (by rw [hml]; exact hL.1.symm) hown (hts _ hw) (hts _ (wd 506 (by decide +kernel) (by decide +kernel))) (hts _ (wd 505 (by decide +kernel) (by decide +kernel))) (hts _ (wd 69 (by decide +kernel) (by decide +kernel))) hK.1 hP.1 hP.2 hS p0 p1 0 0 hg0 hg1 rfl rfl rfl (nI_pos (by omega)) (nI_pos (by omega)) (nI_pos (by omega)) (by rw [q1, q3]; exact hs0) (by rw [q2, q3]; exact hs1) (fun _ _ => rfl) (by simp [vrm]) ?_ hd (fun H1 locs1 hP1 hD1 hS1 => ?_)
  · rw [vc_sum]
    have : nativeFrameWords "java/lang/System" "arraycopy" 5 + 11 ≤ 50 := by decide
    simp only [vrm]
    omega
  · rw [q1, q2, q3] at hP1 hD1
    have e1 : (wsOf G σ).set p1 (G.th p1, .inl (G.2.2.1 0, n1, .inl (va_cpy (σ p0) (σ p1) sp dp n))) = wsOf G (vcp σ p0 p1 sp dp n) := by
      rw [← wsOf_set G σ (vcp σ p0 p1 sp dp n) hp1 (fun q hq => vcp_p hq), hs1', vcp_at]
      rfl
    rw [e1] at hP1 hD1
    exact kk p e s m args below meth c H1 locs1 ls hA ⟨hP1, hD1⟩ hS1 hL
/-! Math -/
theorem V_mmax {idx : Nat} {x y : Int32} (hd : decode cc pc = .ok (.invokestatic idx, 3)) (hw : Cond.methodLink own idx Lib.Math.max.name ∈ WD) (hst : (st.map fun v => v.category).sum ≤ 8) (k : V G own cc ret nL (d + 1) Q (pc + 3) lo (.int (if x < y then y else x) :: st) σ) : V G own cc ret nL (d + 1) Q pc lo (.int y :: .int x :: st) σ := by
  intro p e s m args below meth c H locs ls hA hP hS hL
  obtain ⟨hx, hb, hr, hml, hown, hts, hlk, hK⟩ := id hA
  exact va_mmax hx hb (by rw [hml]; exact hL.1.symm) hown (hts _ hw) (hts _ (wd 343 (by decide +kernel) (by decide +kernel))) (hts _ (wd 68 (by decide +kernel) (by decide +kernel))) (hts _ (wd 344 (by decide +kernel) (by decide +kernel))) (by simp [vrm]) (by rw [vc_sum]; simp only [vrm]; omega) (Nat.zero_le _) (Nat.zero_le _) hd (k p e s m args below meth c H locs ls hA hP hS hL)
theorem V_mmin {idx : Nat} {x y : Int32} (hd : decode cc pc = .ok (.invokestatic idx, 3)) (hw : Cond.methodLink own idx Lib.Math.min.name ∈ WD) (hst : (st.map fun v => v.category).sum ≤ 8) (k : V G own cc ret nL (d + 1) Q (pc + 3) lo (.int (if y < x then y else x) :: st) σ) : V G own cc ret nL (d + 1) Q pc lo (.int y :: .int x :: st) σ := by
  intro p e s m args below meth c H locs ls hA hP hS hL
  obtain ⟨hx, hb, hr, hml, hown, hts, hlk, hK⟩ := id hA
  exact va_mmin hx hb (by rw [hml]; exact hL.1.symm) hown (hts _ hw) (hts _ (wd 340 (by decide +kernel) (by decide +kernel))) (hts _ (wd 68 (by decide +kernel) (by decide +kernel))) (hts _ (wd 341 (by decide +kernel) (by decide +kernel))) (by simp [vrm]) (by rw [vc_sum]; simp only [vrm]; omega) (Nat.zero_le _) (Nat.zero_le _) hd (k p e s m args below meth c H locs ls hA hP hS hL)
theorem V_mabs {idx : Nat} {x : Int32} (hd : decode cc pc = .ok (.invokestatic idx, 3)) (hw : Cond.methodLink own idx Lib.Math.abs.name ∈ WD) (hst : (st.map fun v => v.category).sum ≤ 8) (k : V G own cc ret nL (d + 1) Q (pc + 3) lo (.int (if 0 ≤ x then x else 0 - x) :: st) σ) : V G own cc ret nL (d + 1) Q pc lo (.int x :: st) σ := by
  intro p e s m args below meth c H locs ls hA hP hS hL
  obtain ⟨hx, hb, hr, hml, hown, hts, hlk, hK⟩ := id hA
  exact va_mabs hx hb (by rw [hml]; exact hL.1.symm) hown (hts _ hw) (hts _ (wd 572 (by decide +kernel) (by decide +kernel))) (hts _ (wd 68 (by decide +kernel) (by decide +kernel))) (hts _ (wd 573 (by decide +kernel) (by decide +kernel))) (by simp [vrm]) (by rw [vc_sum]; simp only [vrm]; omega) (Nat.zero_le _) (Nat.zero_le _) hd (k p e s m args below meth c H locs ls hA hP hS hL)

end VFF
/-! ===== calls ===== -/
theorem vK.blind {G : vG} {U : State} {g : JFrame} {mk : MethodId} {a : Array Value} (h : vK G U) : vK G (U.calling g mk a) := ⟨va_K.moved (u := U) (U := U.calling g mk a) (Vm.Alike.refl U.vm) h.1, h.2.same rfl⟩
/-- the words of a call of an object's method, of a static method -/
def vCV (own : String) (idx : Nat) (C : String) (y : MethodName) (cc' : ByteArray) (nL' : Nat) (ret' : Option FieldType) (n : Nat) : Prop :=
  Cond.methodLink own idx y ∈ WD ∧ Cond.instanceMethod y ∈ WD ∧ Cond.selects C y y ∈ WD ∧ Cond.code y cc' nL' ret' ∈ WD ∧ Cond.initialized y.cls ∈ WD ∧
  (y.cls ≠ "java/lang/invoke/MethodHandle" ∧ y.cls ≠ "java/lang/invoke/VarHandle" ∧ (parseMethodDescriptor y.desc).map (fun d => d.parameters.length) = some n) ∧ nL' ≤ 45
def vCS (own : String) (idx : Nat) (y : MethodName) (cc' : ByteArray) (nL' : Nat) (ret' : Option FieldType) (n : Nat) : Prop :=
  Cond.methodLink own idx y ∈ WD ∧ Cond.static y ∈ WD ∧ Cond.code y cc' nL' ret' ∈ WD ∧ Cond.initialized y.cls ∈ WD ∧
  (y.cls ≠ "java/lang/invoke/MethodHandle" ∧ y.cls ≠ "java/lang/invoke/VarHandle" ∧ (parseMethodDescriptor y.desc).map (fun d => d.parameters.length) = some n) ∧ nL' ≤ 45
/-- the receiver: an object of ours, or one of the texts -/
def vRc (C : String) (b : Nat) : Prop := (∃ ci T N n fs, b < nP ∧ sh b = (2, ci, n, fs) ∧ vwCl[ci]? = some (C, T, N)) ∨ (C = "java/lang/String" ∧ ∃ j, j < 6 ∧ b = 1001 + j)
theorem vRc.get {G : vG} {C : String} {b : Nat} {s : State} {σ : vS} {H : Heap} {locs : List Loc} (h : vRc C b) (hK : vK G s) (hP : vP G σ H) (hS : va_S G.wr s.heap H locs) : ∃ cell : Cell, H[G.th b]? = some cell ∧ cell.vm.isStatics = false ∧ s.vm.findClass C = some cell.cls := by
  rcases h with ⟨ci, T, N, n, fs, hb, hs, hc⟩ | ⟨rfl, j, hj, rfl⟩
  · have hg := wsOf_get G σ hb
    rw [hs] at hg
    exact va_recv hK.1 hP.1 hc hg
  · have h9 := vk_recv (i := j) hK.2.2.2.1 hj hS
    exact h9
section VCC
variable {G : vG} {own : String} {cc : ByteArray} {ret : Option FieldType} {nL d pc : Nat} {Q Q' : Option Value → vS → Prop} {lo : List (Option Value)} {st : List Value} {σ : vS}
variable {idx n nL' : Nat} {C : String} {y : MethodName} {cc' : ByteArray} {ret' : Option FieldType}
theorem vRun {p : Program} {e : Env} {R : Room} {s : State} {m : MethodId} {args : Array Value} {below : List Frame} {meth : Method} {c : Code} {H : Heap} {locs : List Loc} {ls : Array Slot} {st0 : List Value} {a : Array Value} {Qm : State → Prop}
    (hr : va_Run p G.1 e R s m args below meth c H locs 0 0 0 0 (F0 m pc ls st0) (st.map (vc G)) (vQ G Q' a) G.wr) (hS : va_S G.wr s.heap H locs)
    (kk : ∀ (r : Option Value) (σ' : vS) (H1 : Heap) (locs1 : List Loc), Q' r σ' → vP G σ' H1 → va_S G.wr s.heap H1 locs1 → W p G.1 e R s m args below meth c H1 locs1 0 0 Qm (F0 m (pc + 3) ls ((r.toList ++ st).map (vc G)))) : W p G.1 e R s m args below meth c H locs 0 0 Qm (F0 m pc ls st0) := by
  intro T hT X
  obtain ⟨v, st₀, t, T', L, h0, X', hL, e1, e2, ⟨⟨r, σ', hv, hq, hp1, hk1⟩, hz, hk⟩, stp⟩ := hr T hT X
  rw [h0] at hz hk
  cases hv
  obtain ⟨t2, a1, b1⟩ := kk r σ' T'.heap (locs ++ L) hq (by rw [e1]; exact hp1) ⟨Nat.le_trans hS.1 (by rw [e1]; exact hz), fun q h1 h2 => by rw [e1, hk q (Nat.lt_of_lt_of_le h1 hS.1) h2]; exact hS.2.1 q h1 h2, fun q hq => by
      rcases List.mem_append.mp hq with h | h
      · exact hS.2.2 q h
      · exact hL q h⟩ T' rfl X'
  refine ⟨t2, stp t2 ?_, b1⟩
  have e3 : ((r.toList ++ st).map (vc G)) = (r.map (vc G)).toList ++ st.map (vc G) := by cases r <;> rfl
  rw [e3] at a1
  exact a1
theorem V_callV {b : Nat} {As : List Value} (hd : decode cc pc = .ok (.invokevirtual idx, 3)) (cl : vCV own idx C y cc' nL' ret' n) (hn : As.length = n) (hb : vRc C b) (hst : (st.map fun v => v.category).sum ≤ 8)
    (ct : Ct G y cc' nL' ret' d (.ref b :: As) σ Q') (k : ∀ r σ', Q' r σ' → V G own cc ret nL (d + 1) Q (pc + 3) lo (r.toList ++ st) σ') : V G own cc ret nL (d + 1) Q pc lo (As.reverse ++ .ref b :: st) σ := by
  intro p e s m args below meth c H locs ls hA hP hS hL
  obtain ⟨hx, hbb, hr, hml, hown, hts, hlk, hK⟩ := id hA
  obtain ⟨w1, w2, w3, w4, w5, w6, w7⟩ := cl
  refine vRun (va_runV (C := C) (b := G.th b) (As := As.map (vc G)) (rest := st.map (vc G)) ⟨hx, hbb, hml, hown, hts⟩ ct ⟨callB_of n hts (wd_in w4) rfl rfl rfl (hts _ w5) (hts _ w1) w6 ⟨by simp [vrm], by simp only [vrm]; omega⟩, hts _ w2, hts _ w3⟩ ⟨fun a U g mk q => ⟨q.1, q.2.1, q.2.2.blind⟩, hb.get hK hP hS, fun U hU hW => ⟨rfl, by rw [hU]; exact hP, va_K.moved hW.alike hK.1, by rw [hU]; exact (hK.2.kept hS.2.1).warm hW⟩⟩ rfl (by simpa using hn) hL.1 ?_ (lv_room (by rw [vc_sum]; exact hst)) hd ⟨by simp [vrm], by simp [vrm]⟩) hS (fun r σ' H1 locs1 hq hP1 hS1 => k r σ' hq p e s m args below meth c H1 locs1 ls hA hP1 hS1 hL)
  simp [vc]
theorem V_callS {As : List Value} (hd : decode cc pc = .ok (.invokestatic idx, 3)) (cl : vCS own idx y cc' nL' ret' n) (hn : As.length = n) (hst : (st.map fun v => v.category).sum ≤ 8)
    (ct : Ct G y cc' nL' ret' d As σ Q') (k : ∀ r σ', Q' r σ' → V G own cc ret nL (d + 1) Q (pc + 3) lo (r.toList ++ st) σ') : V G own cc ret nL (d + 1) Q pc lo (As.reverse ++ st) σ := by
  intro p e s m args below meth c H locs ls hA hP hS hL
  obtain ⟨hx, hbb, hr, hml, hown, hts, hlk, hK⟩ := id hA
  obtain ⟨w1, w2, w4, w5, w6, w7⟩ := cl
  refine vRun (va_runS (As := As.map (vc G)) (rest := st.map (vc G)) ⟨hx, hbb, hml, hown, hts⟩ ct ⟨callB_of n hts (wd_in w4) rfl rfl rfl (hts _ w5) (hts _ w1) w6 ⟨by simp [vrm], by simp only [vrm]; omega⟩, hts _ w2⟩ ⟨fun a U g mk q => ⟨q.1, q.2.1, q.2.2.blind⟩, fun U hU hW => ⟨rfl, by rw [hU]; exact hP, va_K.moved hW.alike hK.1, by rw [hU]; exact (hK.2.kept hS.2.1).warm hW⟩⟩ rfl (by simpa using hn) hL.1 ?_ (lv_room (by rw [vc_sum]; exact hst)) hd ⟨by simp [vrm], by simp [vrm]⟩) hS (fun r σ' H1 locs1 hq hP1 hS1 => k r σ' hq p e s m args below meth c H1 locs1 ls hA hP1 hS1 hL)
  simp
abbrev Cf (G : vG) (y : MethodName) (cc : ByteArray) (nL : Nat) (ret : Option FieldType) (d : Nat) (av : List Value) (σ : vS) (r : Option Value) (σ1 : vS) : Prop := Ct G y cc nL ret d av σ (fun r' σ' => r' = r ∧ σ' = σ1)
abbrev Cr (G : vG) (y : MethodName) (cc : ByteArray) (nL : Nat) (ret : Option FieldType) (d : Nat) (av : List Value) (σ : vS) (r : Option Value) (P : vS → Prop) : Prop := Ct G y cc nL ret d av σ (fun r' σ' => r' = r ∧ P σ')
theorem V_cv0 {b : Nat} (hd : decode cc pc = .ok (.invokevirtual idx, 3)) (cl : vCV own idx C y cc' nL' ret' 0) (hb : vRc C b) (hst : (st.map fun v => v.category).sum ≤ 8) (ct : Ct G y cc' nL' ret' d (.ref b :: []) σ Q') (k : ∀ r σ', Q' r σ' → V G own cc ret nL (d + 1) Q (pc + 3) lo (r.toList ++ st) σ') : V G own cc ret nL (d + 1) Q pc lo (.ref b :: st) σ :=
  V_callV (As := []) hd cl rfl hb hst ct k
theorem V_cv0f {b : Nat} {w : Value} {σ1 : vS} (hd : decode cc pc = .ok (.invokevirtual idx, 3)) (cl : vCV own idx C y cc' nL' ret' 0) (hb : vRc C b) (hst : (st.map fun v => v.category).sum ≤ 8) (ct : Cf G y cc' nL' ret' d (.ref b :: []) σ (some w) σ1) (k : V G own cc ret nL (d + 1) Q (pc + 3) lo (w :: st) σ1) : V G own cc ret nL (d + 1) Q pc lo (.ref b :: st) σ :=
  V_callV (As := []) hd cl rfl hb hst ct (fun r σ' hq => by obtain ⟨rfl, rfl⟩ := hq; exact k)
theorem V_cv0v {b : Nat} {σ1 : vS} (hd : decode cc pc = .ok (.invokevirtual idx, 3)) (cl : vCV own idx C y cc' nL' ret' 0) (hb : vRc C b) (hst : (st.map fun v => v.category).sum ≤ 8) (ct : Cf G y cc' nL' ret' d (.ref b :: []) σ none σ1) (k : V G own cc ret nL (d + 1) Q (pc + 3) lo st σ1) : V G own cc ret nL (d + 1) Q pc lo (.ref b :: st) σ :=
  V_callV (As := []) hd cl rfl hb hst ct (fun r σ' hq => by obtain ⟨rfl, rfl⟩ := hq; exact k)
theorem V_cv0r {b : Nat} {w : Value} {PP : vS → Prop} (hd : decode cc pc = .ok (.invokevirtual idx, 3)) (cl : vCV own idx C y cc' nL' ret' 0) (hb : vRc C b) (hst : (st.map fun v => v.category).sum ≤ 8) (ct : Cr G y cc' nL' ret' d (.ref b :: []) σ (some w) PP) (k : ∀ σ', PP σ' → V G own cc ret nL (d + 1) Q (pc + 3) lo (w :: st) σ') : V G own cc ret nL (d + 1) Q pc lo (.ref b :: st) σ :=
  V_callV (As := []) hd cl rfl hb hst ct (fun r σ' hq => by obtain ⟨rfl, hq⟩ := hq; exact k σ' hq)
theorem V_cv0n {b : Nat} {PP : vS → Prop} (hd : decode cc pc = .ok (.invokevirtual idx, 3)) (cl : vCV own idx C y cc' nL' ret' 0) (hb : vRc C b) (hst : (st.map fun v => v.category).sum ≤ 8) (ct : Cr G y cc' nL' ret' d (.ref b :: []) σ none PP) (k : ∀ σ', PP σ' → V G own cc ret nL (d + 1) Q (pc + 3) lo st σ') : V G own cc ret nL (d + 1) Q pc lo (.ref b :: st) σ :=
  V_callV (As := []) hd cl rfl hb hst ct (fun r σ' hq => by obtain ⟨rfl, hq⟩ := hq; exact k σ' hq)
theorem V_cv1 {b : Nat} {b1 : Value} (hd : decode cc pc = .ok (.invokevirtual idx, 3)) (cl : vCV own idx C y cc' nL' ret' 1) (hb : vRc C b) (hst : (st.map fun v => v.category).sum ≤ 8) (ct : Ct G y cc' nL' ret' d (.ref b :: [b1]) σ Q') (k : ∀ r σ', Q' r σ' → V G own cc ret nL (d + 1) Q (pc + 3) lo (r.toList ++ st) σ') : V G own cc ret nL (d + 1) Q pc lo (b1 :: .ref b :: st) σ :=
  V_callV (As := [b1]) hd cl rfl hb hst ct k
theorem V_cv1f {b : Nat} {b1 : Value} {w : Value} {σ1 : vS} (hd : decode cc pc = .ok (.invokevirtual idx, 3)) (cl : vCV own idx C y cc' nL' ret' 1) (hb : vRc C b) (hst : (st.map fun v => v.category).sum ≤ 8) (ct : Cf G y cc' nL' ret' d (.ref b :: [b1]) σ (some w) σ1) (k : V G own cc ret nL (d + 1) Q (pc + 3) lo (w :: st) σ1) : V G own cc ret nL (d + 1) Q pc lo (b1 :: .ref b :: st) σ :=
  V_callV (As := [b1]) hd cl rfl hb hst ct (fun r σ' hq => by obtain ⟨rfl, rfl⟩ := hq; exact k)
theorem V_cv1v {b : Nat} {b1 : Value} {σ1 : vS} (hd : decode cc pc = .ok (.invokevirtual idx, 3)) (cl : vCV own idx C y cc' nL' ret' 1) (hb : vRc C b) (hst : (st.map fun v => v.category).sum ≤ 8) (ct : Cf G y cc' nL' ret' d (.ref b :: [b1]) σ none σ1) (k : V G own cc ret nL (d + 1) Q (pc + 3) lo st σ1) : V G own cc ret nL (d + 1) Q pc lo (b1 :: .ref b :: st) σ :=
  V_callV (As := [b1]) hd cl rfl hb hst ct (fun r σ' hq => by obtain ⟨rfl, rfl⟩ := hq; exact k)
theorem V_cv1r {b : Nat} {b1 : Value} {w : Value} {PP : vS → Prop} (hd : decode cc pc = .ok (.invokevirtual idx, 3)) (cl : vCV own idx C y cc' nL' ret' 1) (hb : vRc C b) (hst : (st.map fun v => v.category).sum ≤ 8) (ct : Cr G y cc' nL' ret' d (.ref b :: [b1]) σ (some w) PP) (k : ∀ σ', PP σ' → V G own cc ret nL (d + 1) Q (pc + 3) lo (w :: st) σ') : V G own cc ret nL (d + 1) Q pc lo (b1 :: .ref b :: st) σ :=
  V_callV (As := [b1]) hd cl rfl hb hst ct (fun r σ' hq => by obtain ⟨rfl, hq⟩ := hq; exact k σ' hq)
theorem V_cv1n {b : Nat} {b1 : Value} {PP : vS → Prop} (hd : decode cc pc = .ok (.invokevirtual idx, 3)) (cl : vCV own idx C y cc' nL' ret' 1) (hb : vRc C b) (hst : (st.map fun v => v.category).sum ≤ 8) (ct : Cr G y cc' nL' ret' d (.ref b :: [b1]) σ none PP) (k : ∀ σ', PP σ' → V G own cc ret nL (d + 1) Q (pc + 3) lo st σ') : V G own cc ret nL (d + 1) Q pc lo (b1 :: .ref b :: st) σ :=
  V_callV (As := [b1]) hd cl rfl hb hst ct (fun r σ' hq => by obtain ⟨rfl, hq⟩ := hq; exact k σ' hq)
theorem V_cv2 {b : Nat} {b1 b2 : Value} (hd : decode cc pc = .ok (.invokevirtual idx, 3)) (cl : vCV own idx C y cc' nL' ret' 2) (hb : vRc C b) (hst : (st.map fun v => v.category).sum ≤ 8) (ct : Ct G y cc' nL' ret' d (.ref b :: [b1, b2]) σ Q') (k : ∀ r σ', Q' r σ' → V G own cc ret nL (d + 1) Q (pc + 3) lo (r.toList ++ st) σ') : V G own cc ret nL (d + 1) Q pc lo (b2 :: b1 :: .ref b :: st) σ :=
  V_callV (As := [b1, b2]) hd cl rfl hb hst ct k
theorem V_cv2f {b : Nat} {b1 b2 : Value} {w : Value} {σ1 : vS} (hd : decode cc pc = .ok (.invokevirtual idx, 3)) (cl : vCV own idx C y cc' nL' ret' 2) (hb : vRc C b) (hst : (st.map fun v => v.category).sum ≤ 8) (ct : Cf G y cc' nL' ret' d (.ref b :: [b1, b2]) σ (some w) σ1) (k : V G own cc ret nL (d + 1) Q (pc + 3) lo (w :: st) σ1) : V G own cc ret nL (d + 1) Q pc lo (b2 :: b1 :: .ref b :: st) σ :=
  V_callV (As := [b1, b2]) hd cl rfl hb hst ct (fun r σ' hq => by obtain ⟨rfl, rfl⟩ := hq; exact k)
theorem V_cv2v {b : Nat} {b1 b2 : Value} {σ1 : vS} (hd : decode cc pc = .ok (.invokevirtual idx, 3)) (cl : vCV own idx C y cc' nL' ret' 2) (hb : vRc C b) (hst : (st.map fun v => v.category).sum ≤ 8) (ct : Cf G y cc' nL' ret' d (.ref b :: [b1, b2]) σ none σ1) (k : V G own cc ret nL (d + 1) Q (pc + 3) lo st σ1) : V G own cc ret nL (d + 1) Q pc lo (b2 :: b1 :: .ref b :: st) σ :=
  V_callV (As := [b1, b2]) hd cl rfl hb hst ct (fun r σ' hq => by obtain ⟨rfl, rfl⟩ := hq; exact k)
theorem V_cv2r {b : Nat} {b1 b2 : Value} {w : Value} {PP : vS → Prop} (hd : decode cc pc = .ok (.invokevirtual idx, 3)) (cl : vCV own idx C y cc' nL' ret' 2) (hb : vRc C b) (hst : (st.map fun v => v.category).sum ≤ 8) (ct : Cr G y cc' nL' ret' d (.ref b :: [b1, b2]) σ (some w) PP) (k : ∀ σ', PP σ' → V G own cc ret nL (d + 1) Q (pc + 3) lo (w :: st) σ') : V G own cc ret nL (d + 1) Q pc lo (b2 :: b1 :: .ref b :: st) σ :=
  V_callV (As := [b1, b2]) hd cl rfl hb hst ct (fun r σ' hq => by obtain ⟨rfl, hq⟩ := hq; exact k σ' hq)
theorem V_cv2n {b : Nat} {b1 b2 : Value} {PP : vS → Prop} (hd : decode cc pc = .ok (.invokevirtual idx, 3)) (cl : vCV own idx C y cc' nL' ret' 2) (hb : vRc C b) (hst : (st.map fun v => v.category).sum ≤ 8) (ct : Cr G y cc' nL' ret' d (.ref b :: [b1, b2]) σ none PP) (k : ∀ σ', PP σ' → V G own cc ret nL (d + 1) Q (pc + 3) lo st σ') : V G own cc ret nL (d + 1) Q pc lo (b2 :: b1 :: .ref b :: st) σ :=
  V_callV (As := [b1, b2]) hd cl rfl hb hst ct (fun r σ' hq => by obtain ⟨rfl, hq⟩ := hq; exact k σ' hq)
theorem V_cv3 {b : Nat} {b1 b2 b3 : Value} (hd : decode cc pc = .ok (.invokevirtual idx, 3)) (cl : vCV own idx C y cc' nL' ret' 3) (hb : vRc C b) (hst : (st.map fun v => v.category).sum ≤ 8) (ct : Ct G y cc' nL' ret' d (.ref b :: [b1, b2, b3]) σ Q') (k : ∀ r σ', Q' r σ' → V G own cc ret nL (d + 1) Q (pc + 3) lo (r.toList ++ st) σ') : V G own cc ret nL (d + 1) Q pc lo (b3 :: b2 :: b1 :: .ref b :: st) σ :=
  V_callV (As := [b1, b2, b3]) hd cl rfl hb hst ct k
theorem V_cv3f {b : Nat} {b1 b2 b3 : Value} {w : Value} {σ1 : vS} (hd : decode cc pc = .ok (.invokevirtual idx, 3)) (cl : vCV own idx C y cc' nL' ret' 3) (hb : vRc C b) (hst : (st.map fun v => v.category).sum ≤ 8) (ct : Cf G y cc' nL' ret' d (.ref b :: [b1, b2, b3]) σ (some w) σ1) (k : V G own cc ret nL (d + 1) Q (pc + 3) lo (w :: st) σ1) : V G own cc ret nL (d + 1) Q pc lo (b3 :: b2 :: b1 :: .ref b :: st) σ :=
  V_callV (As := [b1, b2, b3]) hd cl rfl hb hst ct (fun r σ' hq => by obtain ⟨rfl, rfl⟩ := hq; exact k)
theorem V_cv3v {b : Nat} {b1 b2 b3 : Value} {σ1 : vS} (hd : decode cc pc = .ok (.invokevirtual idx, 3)) (cl : vCV own idx C y cc' nL' ret' 3) (hb : vRc C b) (hst : (st.map fun v => v.category).sum ≤ 8) (ct : Cf G y cc' nL' ret' d (.ref b :: [b1, b2, b3]) σ none σ1) (k : V G own cc ret nL (d + 1) Q (pc + 3) lo st σ1) : V G own cc ret nL (d + 1) Q pc lo (b3 :: b2 :: b1 :: .ref b :: st) σ :=
  V_callV (As := [b1, b2, b3]) hd cl rfl hb hst ct (fun r σ' hq => by obtain ⟨rfl, rfl⟩ := hq; exact k)
theorem V_cv3r {b : Nat} {b1 b2 b3 : Value} {w : Value} {PP : vS → Prop} (hd : decode cc pc = .ok (.invokevirtual idx, 3)) (cl : vCV own idx C y cc' nL' ret' 3) (hb : vRc C b) (hst : (st.map fun v => v.category).sum ≤ 8) (ct : Cr G y cc' nL' ret' d (.ref b :: [b1, b2, b3]) σ (some w) PP) (k : ∀ σ', PP σ' → V G own cc ret nL (d + 1) Q (pc + 3) lo (w :: st) σ') : V G own cc ret nL (d + 1) Q pc lo (b3 :: b2 :: b1 :: .ref b :: st) σ :=
  V_callV (As := [b1, b2, b3]) hd cl rfl hb hst ct (fun r σ' hq => by obtain ⟨rfl, hq⟩ := hq; exact k σ' hq)
theorem V_cv3n {b : Nat} {b1 b2 b3 : Value} {PP : vS → Prop} (hd : decode cc pc = .ok (.invokevirtual idx, 3)) (cl : vCV own idx C y cc' nL' ret' 3) (hb : vRc C b) (hst : (st.map fun v => v.category).sum ≤ 8) (ct : Cr G y cc' nL' ret' d (.ref b :: [b1, b2, b3]) σ none PP) (k : ∀ σ', PP σ' → V G own cc ret nL (d + 1) Q (pc + 3) lo st σ') : V G own cc ret nL (d + 1) Q pc lo (b3 :: b2 :: b1 :: .ref b :: st) σ :=
  V_callV (As := [b1, b2, b3]) hd cl rfl hb hst ct (fun r σ' hq => by obtain ⟨rfl, hq⟩ := hq; exact k σ' hq)
theorem V_cv4 {b : Nat} {b1 b2 b3 b4 : Value} (hd : decode cc pc = .ok (.invokevirtual idx, 3)) (cl : vCV own idx C y cc' nL' ret' 4) (hb : vRc C b) (hst : (st.map fun v => v.category).sum ≤ 8) (ct : Ct G y cc' nL' ret' d (.ref b :: [b1, b2, b3, b4]) σ Q') (k : ∀ r σ', Q' r σ' → V G own cc ret nL (d + 1) Q (pc + 3) lo (r.toList ++ st) σ') : V G own cc ret nL (d + 1) Q pc lo (b4 :: b3 :: b2 :: b1 :: .ref b :: st) σ :=
  V_callV (As := [b1, b2, b3, b4]) hd cl rfl hb hst ct k
theorem V_cv4f {b : Nat} {b1 b2 b3 b4 : Value} {w : Value} {σ1 : vS} (hd : decode cc pc = .ok (.invokevirtual idx, 3)) (cl : vCV own idx C y cc' nL' ret' 4) (hb : vRc C b) (hst : (st.map fun v => v.category).sum ≤ 8) (ct : Cf G y cc' nL' ret' d (.ref b :: [b1, b2, b3, b4]) σ (some w) σ1) (k : V G own cc ret nL (d + 1) Q (pc + 3) lo (w :: st) σ1) : V G own cc ret nL (d + 1) Q pc lo (b4 :: b3 :: b2 :: b1 :: .ref b :: st) σ :=
  V_callV (As := [b1, b2, b3, b4]) hd cl rfl hb hst ct (fun r σ' hq => by obtain ⟨rfl, rfl⟩ := hq; exact k)
theorem V_cv4v {b : Nat} {b1 b2 b3 b4 : Value} {σ1 : vS} (hd : decode cc pc = .ok (.invokevirtual idx, 3)) (cl : vCV own idx C y cc' nL' ret' 4) (hb : vRc C b) (hst : (st.map fun v => v.category).sum ≤ 8) (ct : Cf G y cc' nL' ret' d (.ref b :: [b1, b2, b3, b4]) σ none σ1) (k : V G own cc ret nL (d + 1) Q (pc + 3) lo st σ1) : V G own cc ret nL (d + 1) Q pc lo (b4 :: b3 :: b2 :: b1 :: .ref b :: st) σ :=
  V_callV (As := [b1, b2, b3, b4]) hd cl rfl hb hst ct (fun r σ' hq => by obtain ⟨rfl, rfl⟩ := hq; exact k)
theorem V_cv4r {b : Nat} {b1 b2 b3 b4 : Value} {w : Value} {PP : vS → Prop} (hd : decode cc pc = .ok (.invokevirtual idx, 3)) (cl : vCV own idx C y cc' nL' ret' 4) (hb : vRc C b) (hst : (st.map fun v => v.category).sum ≤ 8) (ct : Cr G y cc' nL' ret' d (.ref b :: [b1, b2, b3, b4]) σ (some w) PP) (k : ∀ σ', PP σ' → V G own cc ret nL (d + 1) Q (pc + 3) lo (w :: st) σ') : V G own cc ret nL (d + 1) Q pc lo (b4 :: b3 :: b2 :: b1 :: .ref b :: st) σ :=
  V_callV (As := [b1, b2, b3, b4]) hd cl rfl hb hst ct (fun r σ' hq => by obtain ⟨rfl, hq⟩ := hq; exact k σ' hq)
theorem V_cv4n {b : Nat} {b1 b2 b3 b4 : Value} {PP : vS → Prop} (hd : decode cc pc = .ok (.invokevirtual idx, 3)) (cl : vCV own idx C y cc' nL' ret' 4) (hb : vRc C b) (hst : (st.map fun v => v.category).sum ≤ 8) (ct : Cr G y cc' nL' ret' d (.ref b :: [b1, b2, b3, b4]) σ none PP) (k : ∀ σ', PP σ' → V G own cc ret nL (d + 1) Q (pc + 3) lo st σ') : V G own cc ret nL (d + 1) Q pc lo (b4 :: b3 :: b2 :: b1 :: .ref b :: st) σ :=
  V_callV (As := [b1, b2, b3, b4]) hd cl rfl hb hst ct (fun r σ' hq => by obtain ⟨rfl, hq⟩ := hq; exact k σ' hq)
theorem V_cv5 {b : Nat} {b1 b2 b3 b4 b5 : Value} (hd : decode cc pc = .ok (.invokevirtual idx, 3)) (cl : vCV own idx C y cc' nL' ret' 5) (hb : vRc C b) (hst : (st.map fun v => v.category).sum ≤ 8) (ct : Ct G y cc' nL' ret' d (.ref b :: [b1, b2, b3, b4, b5]) σ Q') (k : ∀ r σ', Q' r σ' → V G own cc ret nL (d + 1) Q (pc + 3) lo (r.toList ++ st) σ') : V G own cc ret nL (d + 1) Q pc lo (b5 :: b4 :: b3 :: b2 :: b1 :: .ref b :: st) σ :=
  V_callV (As := [b1, b2, b3, b4, b5]) hd cl rfl hb hst ct k
theorem V_cv5f {b : Nat} {b1 b2 b3 b4 b5 : Value} {w : Value} {σ1 : vS} (hd : decode cc pc = .ok (.invokevirtual idx, 3)) (cl : vCV own idx C y cc' nL' ret' 5) (hb : vRc C b) (hst : (st.map fun v => v.category).sum ≤ 8) (ct : Cf G y cc' nL' ret' d (.ref b :: [b1, b2, b3, b4, b5]) σ (some w) σ1) (k : V G own cc ret nL (d + 1) Q (pc + 3) lo (w :: st) σ1) : V G own cc ret nL (d + 1) Q pc lo (b5 :: b4 :: b3 :: b2 :: b1 :: .ref b :: st) σ :=
  V_callV (As := [b1, b2, b3, b4, b5]) hd cl rfl hb hst ct (fun r σ' hq => by obtain ⟨rfl, rfl⟩ := hq; exact k)
theorem V_cv5v {b : Nat} {b1 b2 b3 b4 b5 : Value} {σ1 : vS} (hd : decode cc pc = .ok (.invokevirtual idx, 3)) (cl : vCV own idx C y cc' nL' ret' 5) (hb : vRc C b) (hst : (st.map fun v => v.category).sum ≤ 8) (ct : Cf G y cc' nL' ret' d (.ref b :: [b1, b2, b3, b4, b5]) σ none σ1) (k : V G own cc ret nL (d + 1) Q (pc + 3) lo st σ1) : V G own cc ret nL (d + 1) Q pc lo (b5 :: b4 :: b3 :: b2 :: b1 :: .ref b :: st) σ :=
  V_callV (As := [b1, b2, b3, b4, b5]) hd cl rfl hb hst ct (fun r σ' hq => by obtain ⟨rfl, rfl⟩ := hq; exact k)
theorem V_cv5r {b : Nat} {b1 b2 b3 b4 b5 : Value} {w : Value} {PP : vS → Prop} (hd : decode cc pc = .ok (.invokevirtual idx, 3)) (cl : vCV own idx C y cc' nL' ret' 5) (hb : vRc C b) (hst : (st.map fun v => v.category).sum ≤ 8) (ct : Cr G y cc' nL' ret' d (.ref b :: [b1, b2, b3, b4, b5]) σ (some w) PP) (k : ∀ σ', PP σ' → V G own cc ret nL (d + 1) Q (pc + 3) lo (w :: st) σ') : V G own cc ret nL (d + 1) Q pc lo (b5 :: b4 :: b3 :: b2 :: b1 :: .ref b :: st) σ :=
  V_callV (As := [b1, b2, b3, b4, b5]) hd cl rfl hb hst ct (fun r σ' hq => by obtain ⟨rfl, hq⟩ := hq; exact k σ' hq)
theorem V_cv5n {b : Nat} {b1 b2 b3 b4 b5 : Value} {PP : vS → Prop} (hd : decode cc pc = .ok (.invokevirtual idx, 3)) (cl : vCV own idx C y cc' nL' ret' 5) (hb : vRc C b) (hst : (st.map fun v => v.category).sum ≤ 8) (ct : Cr G y cc' nL' ret' d (.ref b :: [b1, b2, b3, b4, b5]) σ none PP) (k : ∀ σ', PP σ' → V G own cc ret nL (d + 1) Q (pc + 3) lo st σ') : V G own cc ret nL (d + 1) Q pc lo (b5 :: b4 :: b3 :: b2 :: b1 :: .ref b :: st) σ :=
  V_callV (As := [b1, b2, b3, b4, b5]) hd cl rfl hb hst ct (fun r σ' hq => by obtain ⟨rfl, hq⟩ := hq; exact k σ' hq)
theorem V_cs1 {b1 : Value} (hd : decode cc pc = .ok (.invokestatic idx, 3)) (cl : vCS own idx y cc' nL' ret' 1) (hst : (st.map fun v => v.category).sum ≤ 8) (ct : Ct G y cc' nL' ret' d ([b1]) σ Q') (k : ∀ r σ', Q' r σ' → V G own cc ret nL (d + 1) Q (pc + 3) lo (r.toList ++ st) σ') : V G own cc ret nL (d + 1) Q pc lo (b1 :: st) σ :=
  V_callS (As := [b1]) hd cl rfl hst ct k
theorem V_cs1f {b1 : Value} {w : Value} {σ1 : vS} (hd : decode cc pc = .ok (.invokestatic idx, 3)) (cl : vCS own idx y cc' nL' ret' 1) (hst : (st.map fun v => v.category).sum ≤ 8) (ct : Cf G y cc' nL' ret' d ([b1]) σ (some w) σ1) (k : V G own cc ret nL (d + 1) Q (pc + 3) lo (w :: st) σ1) : V G own cc ret nL (d + 1) Q pc lo (b1 :: st) σ :=
  V_callS (As := [b1]) hd cl rfl hst ct (fun r σ' hq => by obtain ⟨rfl, rfl⟩ := hq; exact k)
theorem V_cs1v {b1 : Value} {σ1 : vS} (hd : decode cc pc = .ok (.invokestatic idx, 3)) (cl : vCS own idx y cc' nL' ret' 1) (hst : (st.map fun v => v.category).sum ≤ 8) (ct : Cf G y cc' nL' ret' d ([b1]) σ none σ1) (k : V G own cc ret nL (d + 1) Q (pc + 3) lo st σ1) : V G own cc ret nL (d + 1) Q pc lo (b1 :: st) σ :=
  V_callS (As := [b1]) hd cl rfl hst ct (fun r σ' hq => by obtain ⟨rfl, rfl⟩ := hq; exact k)
theorem V_cs1r {b1 : Value} {w : Value} {PP : vS → Prop} (hd : decode cc pc = .ok (.invokestatic idx, 3)) (cl : vCS own idx y cc' nL' ret' 1) (hst : (st.map fun v => v.category).sum ≤ 8) (ct : Cr G y cc' nL' ret' d ([b1]) σ (some w) PP) (k : ∀ σ', PP σ' → V G own cc ret nL (d + 1) Q (pc + 3) lo (w :: st) σ') : V G own cc ret nL (d + 1) Q pc lo (b1 :: st) σ :=
  V_callS (As := [b1]) hd cl rfl hst ct (fun r σ' hq => by obtain ⟨rfl, hq⟩ := hq; exact k σ' hq)
theorem V_cs1n {b1 : Value} {PP : vS → Prop} (hd : decode cc pc = .ok (.invokestatic idx, 3)) (cl : vCS own idx y cc' nL' ret' 1) (hst : (st.map fun v => v.category).sum ≤ 8) (ct : Cr G y cc' nL' ret' d ([b1]) σ none PP) (k : ∀ σ', PP σ' → V G own cc ret nL (d + 1) Q (pc + 3) lo st σ') : V G own cc ret nL (d + 1) Q pc lo (b1 :: st) σ :=
  V_callS (As := [b1]) hd cl rfl hst ct (fun r σ' hq => by obtain ⟨rfl, hq⟩ := hq; exact k σ' hq)
theorem V_cs2 {b1 b2 : Value} (hd : decode cc pc = .ok (.invokestatic idx, 3)) (cl : vCS own idx y cc' nL' ret' 2) (hst : (st.map fun v => v.category).sum ≤ 8) (ct : Ct G y cc' nL' ret' d ([b1, b2]) σ Q') (k : ∀ r σ', Q' r σ' → V G own cc ret nL (d + 1) Q (pc + 3) lo (r.toList ++ st) σ') : V G own cc ret nL (d + 1) Q pc lo (b2 :: b1 :: st) σ :=
  V_callS (As := [b1, b2]) hd cl rfl hst ct k
theorem V_cs2f {b1 b2 : Value} {w : Value} {σ1 : vS} (hd : decode cc pc = .ok (.invokestatic idx, 3)) (cl : vCS own idx y cc' nL' ret' 2) (hst : (st.map fun v => v.category).sum ≤ 8) (ct : Cf G y cc' nL' ret' d ([b1, b2]) σ (some w) σ1) (k : V G own cc ret nL (d + 1) Q (pc + 3) lo (w :: st) σ1) : V G own cc ret nL (d + 1) Q pc lo (b2 :: b1 :: st) σ :=
  V_callS (As := [b1, b2]) hd cl rfl hst ct (fun r σ' hq => by obtain ⟨rfl, rfl⟩ := hq; exact k)
theorem V_cs2v {b1 b2 : Value} {σ1 : vS} (hd : decode cc pc = .ok (.invokestatic idx, 3)) (cl : vCS own idx y cc' nL' ret' 2) (hst : (st.map fun v => v.category).sum ≤ 8) (ct : Cf G y cc' nL' ret' d ([b1, b2]) σ none σ1) (k : V G own cc ret nL (d + 1) Q (pc + 3) lo st σ1) : V G own cc ret nL (d + 1) Q pc lo (b2 :: b1 :: st) σ :=
  V_callS (As := [b1, b2]) hd cl rfl hst ct (fun r σ' hq => by obtain ⟨rfl, rfl⟩ := hq; exact k)
theorem V_cs2r {b1 b2 : Value} {w : Value} {PP : vS → Prop} (hd : decode cc pc = .ok (.invokestatic idx, 3)) (cl : vCS own idx y cc' nL' ret' 2) (hst : (st.map fun v => v.category).sum ≤ 8) (ct : Cr G y cc' nL' ret' d ([b1, b2]) σ (some w) PP) (k : ∀ σ', PP σ' → V G own cc ret nL (d + 1) Q (pc + 3) lo (w :: st) σ') : V G own cc ret nL (d + 1) Q pc lo (b2 :: b1 :: st) σ :=
  V_callS (As := [b1, b2]) hd cl rfl hst ct (fun r σ' hq => by obtain ⟨rfl, hq⟩ := hq; exact k σ' hq)
theorem V_cs2n {b1 b2 : Value} {PP : vS → Prop} (hd : decode cc pc = .ok (.invokestatic idx, 3)) (cl : vCS own idx y cc' nL' ret' 2) (hst : (st.map fun v => v.category).sum ≤ 8) (ct : Cr G y cc' nL' ret' d ([b1, b2]) σ none PP) (k : ∀ σ', PP σ' → V G own cc ret nL (d + 1) Q (pc + 3) lo st σ') : V G own cc ret nL (d + 1) Q pc lo (b2 :: b1 :: st) σ :=
  V_callS (As := [b1, b2]) hd cl rfl hst ct (fun r σ' hq => by obtain ⟨rfl, hq⟩ := hq; exact k σ' hq)
theorem V_cs3 {b1 b2 b3 : Value} (hd : decode cc pc = .ok (.invokestatic idx, 3)) (cl : vCS own idx y cc' nL' ret' 3) (hst : (st.map fun v => v.category).sum ≤ 8) (ct : Ct G y cc' nL' ret' d ([b1, b2, b3]) σ Q') (k : ∀ r σ', Q' r σ' → V G own cc ret nL (d + 1) Q (pc + 3) lo (r.toList ++ st) σ') : V G own cc ret nL (d + 1) Q pc lo (b3 :: b2 :: b1 :: st) σ :=
  V_callS (As := [b1, b2, b3]) hd cl rfl hst ct k
theorem V_cs3f {b1 b2 b3 : Value} {w : Value} {σ1 : vS} (hd : decode cc pc = .ok (.invokestatic idx, 3)) (cl : vCS own idx y cc' nL' ret' 3) (hst : (st.map fun v => v.category).sum ≤ 8) (ct : Cf G y cc' nL' ret' d ([b1, b2, b3]) σ (some w) σ1) (k : V G own cc ret nL (d + 1) Q (pc + 3) lo (w :: st) σ1) : V G own cc ret nL (d + 1) Q pc lo (b3 :: b2 :: b1 :: st) σ :=
  V_callS (As := [b1, b2, b3]) hd cl rfl hst ct (fun r σ' hq => by obtain ⟨rfl, rfl⟩ := hq; exact k)
theorem V_cs3v {b1 b2 b3 : Value} {σ1 : vS} (hd : decode cc pc = .ok (.invokestatic idx, 3)) (cl : vCS own idx y cc' nL' ret' 3) (hst : (st.map fun v => v.category).sum ≤ 8) (ct : Cf G y cc' nL' ret' d ([b1, b2, b3]) σ none σ1) (k : V G own cc ret nL (d + 1) Q (pc + 3) lo st σ1) : V G own cc ret nL (d + 1) Q pc lo (b3 :: b2 :: b1 :: st) σ :=
  V_callS (As := [b1, b2, b3]) hd cl rfl hst ct (fun r σ' hq => by obtain ⟨rfl, rfl⟩ := hq; exact k)
theorem V_cs3r {b1 b2 b3 : Value} {w : Value} {PP : vS → Prop} (hd : decode cc pc = .ok (.invokestatic idx, 3)) (cl : vCS own idx y cc' nL' ret' 3) (hst : (st.map fun v => v.category).sum ≤ 8) (ct : Cr G y cc' nL' ret' d ([b1, b2, b3]) σ (some w) PP) (k : ∀ σ', PP σ' → V G own cc ret nL (d + 1) Q (pc + 3) lo (w :: st) σ') : V G own cc ret nL (d + 1) Q pc lo (b3 :: b2 :: b1 :: st) σ :=
  V_callS (As := [b1, b2, b3]) hd cl rfl hst ct (fun r σ' hq => by obtain ⟨rfl, hq⟩ := hq; exact k σ' hq)
theorem V_cs3n {b1 b2 b3 : Value} {PP : vS → Prop} (hd : decode cc pc = .ok (.invokestatic idx, 3)) (cl : vCS own idx y cc' nL' ret' 3) (hst : (st.map fun v => v.category).sum ≤ 8) (ct : Cr G y cc' nL' ret' d ([b1, b2, b3]) σ none PP) (k : ∀ σ', PP σ' → V G own cc ret nL (d + 1) Q (pc + 3) lo st σ') : V G own cc ret nL (d + 1) Q pc lo (b3 :: b2 :: b1 :: st) σ :=
  V_callS (As := [b1, b2, b3]) hd cl rfl hst ct (fun r σ' hq => by obtain ⟨rfl, hq⟩ := hq; exact k σ' hq)
theorem V_cs4 {b1 b2 b3 b4 : Value} (hd : decode cc pc = .ok (.invokestatic idx, 3)) (cl : vCS own idx y cc' nL' ret' 4) (hst : (st.map fun v => v.category).sum ≤ 8) (ct : Ct G y cc' nL' ret' d ([b1, b2, b3, b4]) σ Q') (k : ∀ r σ', Q' r σ' → V G own cc ret nL (d + 1) Q (pc + 3) lo (r.toList ++ st) σ') : V G own cc ret nL (d + 1) Q pc lo (b4 :: b3 :: b2 :: b1 :: st) σ :=
  V_callS (As := [b1, b2, b3, b4]) hd cl rfl hst ct k
theorem V_cs4f {b1 b2 b3 b4 : Value} {w : Value} {σ1 : vS} (hd : decode cc pc = .ok (.invokestatic idx, 3)) (cl : vCS own idx y cc' nL' ret' 4) (hst : (st.map fun v => v.category).sum ≤ 8) (ct : Cf G y cc' nL' ret' d ([b1, b2, b3, b4]) σ (some w) σ1) (k : V G own cc ret nL (d + 1) Q (pc + 3) lo (w :: st) σ1) : V G own cc ret nL (d + 1) Q pc lo (b4 :: b3 :: b2 :: b1 :: st) σ :=
  V_callS (As := [b1, b2, b3, b4]) hd cl rfl hst ct (fun r σ' hq => by obtain ⟨rfl, rfl⟩ := hq; exact k)
theorem V_cs4v {b1 b2 b3 b4 : Value} {σ1 : vS} (hd : decode cc pc = .ok (.invokestatic idx, 3)) (cl : vCS own idx y cc' nL' ret' 4) (hst : (st.map fun v => v.category).sum ≤ 8) (ct : Cf G y cc' nL' ret' d ([b1, b2, b3, b4]) σ none σ1) (k : V G own cc ret nL (d + 1) Q (pc + 3) lo st σ1) : V G own cc ret nL (d + 1) Q pc lo (b4 :: b3 :: b2 :: b1 :: st) σ :=
  V_callS (As := [b1, b2, b3, b4]) hd cl rfl hst ct (fun r σ' hq => by obtain ⟨rfl, rfl⟩ := hq; exact k)
theorem V_cs4r {b1 b2 b3 b4 : Value} {w : Value} {PP : vS → Prop} (hd : decode cc pc = .ok (.invokestatic idx, 3)) (cl : vCS own idx y cc' nL' ret' 4) (hst : (st.map fun v => v.category).sum ≤ 8) (ct : Cr G y cc' nL' ret' d ([b1, b2, b3, b4]) σ (some w) PP) (k : ∀ σ', PP σ' → V G own cc ret nL (d + 1) Q (pc + 3) lo (w :: st) σ') : V G own cc ret nL (d + 1) Q pc lo (b4 :: b3 :: b2 :: b1 :: st) σ :=
  V_callS (As := [b1, b2, b3, b4]) hd cl rfl hst ct (fun r σ' hq => by obtain ⟨rfl, hq⟩ := hq; exact k σ' hq)
theorem V_cs4n {b1 b2 b3 b4 : Value} {PP : vS → Prop} (hd : decode cc pc = .ok (.invokestatic idx, 3)) (cl : vCS own idx y cc' nL' ret' 4) (hst : (st.map fun v => v.category).sum ≤ 8) (ct : Cr G y cc' nL' ret' d ([b1, b2, b3, b4]) σ none PP) (k : ∀ σ', PP σ' → V G own cc ret nL (d + 1) Q (pc + 3) lo st σ') : V G own cc ret nL (d + 1) Q pc lo (b4 :: b3 :: b2 :: b1 :: st) σ :=
  V_callS (As := [b1, b2, b3, b4]) hd cl rfl hst ct (fun r σ' hq => by obtain ⟨rfl, hq⟩ := hq; exact k σ' hq)
theorem V_cs5 {b1 b2 b3 b4 b5 : Value} (hd : decode cc pc = .ok (.invokestatic idx, 3)) (cl : vCS own idx y cc' nL' ret' 5) (hst : (st.map fun v => v.category).sum ≤ 8) (ct : Ct G y cc' nL' ret' d ([b1, b2, b3, b4, b5]) σ Q') (k : ∀ r σ', Q' r σ' → V G own cc ret nL (d + 1) Q (pc + 3) lo (r.toList ++ st) σ') : V G own cc ret nL (d + 1) Q pc lo (b5 :: b4 :: b3 :: b2 :: b1 :: st) σ :=
  V_callS (As := [b1, b2, b3, b4, b5]) hd cl rfl hst ct k
theorem V_cs5f {b1 b2 b3 b4 b5 : Value} {w : Value} {σ1 : vS} (hd : decode cc pc = .ok (.invokestatic idx, 3)) (cl : vCS own idx y cc' nL' ret' 5) (hst : (st.map fun v => v.category).sum ≤ 8) (ct : Cf G y cc' nL' ret' d ([b1, b2, b3, b4, b5]) σ (some w) σ1) (k : V G own cc ret nL (d + 1) Q (pc + 3) lo (w :: st) σ1) : V G own cc ret nL (d + 1) Q pc lo (b5 :: b4 :: b3 :: b2 :: b1 :: st) σ :=
  V_callS (As := [b1, b2, b3, b4, b5]) hd cl rfl hst ct (fun r σ' hq => by obtain ⟨rfl, rfl⟩ := hq; exact k)
theorem V_cs5v {b1 b2 b3 b4 b5 : Value} {σ1 : vS} (hd : decode cc pc = .ok (.invokestatic idx, 3)) (cl : vCS own idx y cc' nL' ret' 5) (hst : (st.map fun v => v.category).sum ≤ 8) (ct : Cf G y cc' nL' ret' d ([b1, b2, b3, b4, b5]) σ none σ1) (k : V G own cc ret nL (d + 1) Q (pc + 3) lo st σ1) : V G own cc ret nL (d + 1) Q pc lo (b5 :: b4 :: b3 :: b2 :: b1 :: st) σ :=
  V_callS (As := [b1, b2, b3, b4, b5]) hd cl rfl hst ct (fun r σ' hq => by obtain ⟨rfl, rfl⟩ := hq; exact k)
theorem V_cs5r {b1 b2 b3 b4 b5 : Value} {w : Value} {PP : vS → Prop} (hd : decode cc pc = .ok (.invokestatic idx, 3)) (cl : vCS own idx y cc' nL' ret' 5) (hst : (st.map fun v => v.category).sum ≤ 8) (ct : Cr G y cc' nL' ret' d ([b1, b2, b3, b4, b5]) σ (some w) PP) (k : ∀ σ', PP σ' → V G own cc ret nL (d + 1) Q (pc + 3) lo (w :: st) σ') : V G own cc ret nL (d + 1) Q pc lo (b5 :: b4 :: b3 :: b2 :: b1 :: st) σ :=
  V_callS (As := [b1, b2, b3, b4, b5]) hd cl rfl hst ct (fun r σ' hq => by obtain ⟨rfl, hq⟩ := hq; exact k σ' hq)
theorem V_cs5n {b1 b2 b3 b4 b5 : Value} {PP : vS → Prop} (hd : decode cc pc = .ok (.invokestatic idx, 3)) (cl : vCS own idx y cc' nL' ret' 5) (hst : (st.map fun v => v.category).sum ≤ 8) (ct : Cr G y cc' nL' ret' d ([b1, b2, b3, b4, b5]) σ none PP) (k : ∀ σ', PP σ' → V G own cc ret nL (d + 1) Q (pc + 3) lo st σ') : V G own cc ret nL (d + 1) Q pc lo (b5 :: b4 :: b3 :: b2 :: b1 :: st) σ :=
  V_callS (As := [b1, b2, b3, b4, b5]) hd cl rfl hst ct (fun r σ' hq => by obtain ⟨rfl, hq⟩ := hq; exact k σ' hq)

end VCC
/-! ===== what nobody writes: the table of kinds, texts ===== -/
section VRO
variable {G : vG} {own : String} {cc : ByteArray} {ret : Option FieldType} {nL d pc : Nat} {Q : Option Value → vS → Prop} {lo : List (Option Value)} {st : List Value} {σ : vS}
theorem V_getsA {idx : Nat} (hd : decode cc pc = .ok (.getstatic idx, 3)) (hw : Cond.fieldLink own idx "LevelCellars$Kinds" "ABOVE" "[I" ∈ WD) (k : V G own cc ret nL d Q (pc + 3) lo (.ref 1000 :: st) σ) : V G own cc ret nL d Q pc lo st σ := by
  intro p e s m args below meth c H locs ls hA hP hS hL
  obtain ⟨hx, hb, hr, hml, hown, hts, hlk, hK⟩ := id hA
  exact va_gets (v := .ref (G.th 1000)) hx hb hK.2.1 hS hown (hts _ hw) (fun _ h => h) hd (k p e s m args below meth c H locs ls hA hP hS hL)
theorem V_abald {j : Nat} (hd : decode cc pc = .ok (.iaload, 1)) (hj : j < 6) (k : V G own cc ret nL d Q (pc + 1) lo (.int (abF j) :: st) σ) : V G own cc ret nL d Q pc lo (.int (nI j) :: .ref 1000 :: st) σ := by
  intro p e s m args below meth c H locs ls hA hP hS hL
  obtain ⟨hx, hb, hr, hml, hown, hts, hlk, hK⟩ := id hA
  exact va_ti hx hb hK.2.2.1 hS (vp_in_nI hj (by decide)) (v := .int (abF j)) (by rw [nI_clamp (by omega)]) hd (k p e s m args below meth c H locs ls hA hP hS hL)
theorem V_getsC {idx : Nat} (hd : decode cc pc = .ok (.getstatic idx, 3)) (hw : Cond.fieldLink own idx "java/lang/String" "COMPACT_STRINGS" "Z" ∈ WD) (k : V G own cc ret nL d Q (pc + 3) lo (.int 1 :: st) σ) : V G own cc ret nL d Q pc lo st σ := by
  intro p e s m args below meth c H locs ls hA hP hS hL
  obtain ⟨hx, hb, hr, hml, hown, hts, hlk, hK⟩ := id hA
  exact va_gets (v := .int 1) hx hb hK.2.2.2.2.1 hS hown (hts _ hw) (fun _ h => h) hd (k p e s m args below meth c H locs ls hA hP hS hL)
theorem V_getsF {idx : Nat} (hd : decode cc pc = .ok (.getstatic idx, 3)) (hw : Cond.fieldLink own idx "jdk/internal/util/Preconditions" "SIOOBE_FORMATTER" "Ljava/util/function/BiFunction;" ∈ WD) (k : ∀ v : Value, v.category = 1 → V G own cc ret nL d Q (pc + 3) lo (v :: st) σ) : V G own cc ret nL d Q pc lo st σ := by
  intro p e s m args below meth c H locs ls hA hP hS hL
  obtain ⟨hx, hb, hr, hml, hown, hts, hlk, hK⟩ := id hA
  rcases hK.2.2.2.2.2.1 with h | h
  · exact va_gets (v := .null) hx hb h hS hown (hts _ hw) (fun _ h => h) hd (k .null rfl p e s m args below meth c H locs ls hA hP hS hL)
  · exact va_gets (v := .ref (G.th 1020)) hx hb h hS hown (hts _ hw) (fun _ h => h) hd (k (.ref 1020) rfl p e s m args below meth c H locs ls hA hP hS hL)
theorem V_getSv {idx j : Nat} (hd : decode cc pc = .ok (.getfield idx, 3)) (hw : Cond.fieldLink own idx "java/lang/String" "value" "[B" ∈ WD) (hj : j < 6) (k : V G own cc ret nL d Q (pc + 3) lo (.ref (1011 + j) :: st) σ) : V G own cc ret nL d Q pc lo (.ref (1001 + j) :: st) σ := by
  intro p e s m args below meth c H locs ls hA hP hS hL
  obtain ⟨hx, hb, hr, hml, hown, hts, hlk, hK⟩ := id hA
  exact vk_getf (v := .ref (G.th (1011 + j))) hx hb (hK.2.2.2.1.1 j hj).2.2.1 hS hown (hts _ hw) (fun _ h => h) hd (k p e s m args below meth c H locs ls hA hP hS hL)
theorem V_getSc {idx j : Nat} (hd : decode cc pc = .ok (.getfield idx, 3)) (hw : Cond.fieldLink own idx "java/lang/String" "coder" "B" ∈ WD) (hj : j < 6) (k : V G own cc ret nL d Q (pc + 3) lo (.int 0 :: st) σ) : V G own cc ret nL d Q pc lo (.ref (1001 + j) :: st) σ := by
  intro p e s m args below meth c H locs ls hA hP hS hL
  obtain ⟨hx, hb, hr, hml, hown, hts, hlk, hK⟩ := id hA
  exact vk_getf (v := .int 0) hx hb (hK.2.2.2.1.1 j hj).2.1 hS hown (hts _ hw) (fun _ h => h) hd (k p e s m args below meth c H locs ls hA hP hS hL)
theorem V_bald {j i : Nat} (hd : decode cc pc = .ok (.baload, 1)) (hj : j < 6) (hi : i < txL.getD j 0) (hi2 : i < 2 ^ 31) (hl : txL.getD j 0 < 2 ^ 31) (k : V G own cc ret nL d Q (pc + 1) lo (.int ((txB.getD j []).getD i 0) :: st) σ) : V G own cc ret nL d Q pc lo (.int (nI i) :: .ref (1011 + j) :: st) σ := by
  intro p e s m args below meth c H locs ls hA hP hS hL
  obtain ⟨hx, hb, hr, hml, hown, hts, hlk, hK⟩ := id hA
  exact va_tb hx hb (hK.2.2.2.1.1 j hj).2.2.2 hS (vp_in_nI hi hl) (v := .int ((txB.getD j []).getD i 0)) (by rw [nI_clamp hi2]) hd (k p e s m args below meth c H locs ls hA hP hS hL)
theorem V_slen {j : Nat} (hd : decode cc pc = .ok (.arraylength, 1)) (hj : j < 6) (k : V G own cc ret nL d Q (pc + 1) lo (.int (nI (txL.getD j 0)) :: st) σ) : V G own cc ret nL d Q pc lo (.ref (1011 + j) :: st) σ := by
  intro p e s m args below meth c H locs ls hA hP hS hL
  obtain ⟨hx, hb, hr, hml, hown, hts, hlk, hK⟩ := id hA
  exact va_tlen hx hb (hK.2.2.2.1.1 j hj).2.2.2 hS rfl hd (k p e s m args below meth c H locs ls hA hP hS hL)
theorem V_ldcS {idx q : Nat} {tx : String} (hd : decode cc pc = .ok (.ldc idx, 2)) (hR : ∀ U : State, vOat G U U.heap → vk_R own idx tx (G.th q) U) (k : V G own cc ret nL d Q (pc + 2) lo (.ref q :: st) σ) : V G own cc ret nL d Q pc lo st σ := by
  intro p e s m args below meth c H locs ls hA hP hS hL
  obtain ⟨hx, hb, hr, hml, hown, hts, hlk, hK⟩ := id hA
  exact va_ldcS hx hb hown (hR s hK.2) hd (k p e s m args below meth c H locs ls hA hP hS hL)
end VRO
theorem txR0 {G : vG} (U : State) (h : vOat G U U.heap) : vk_R RX2 48 "high" (G.th 1001) U := h.2.2.2.2.2.1
theorem txR1 {G : vG} (U : State) (h : vOat G U U.heap) : vk_R RX2 57 "fee" (G.th 1002) U := h.2.2.2.2.2.2.1
theorem txR2 {G : vG} (U : State) (h : vOat G U U.heap) : vk_R RX2 59 "fine" (G.th 1003) U := h.2.2.2.2.2.2.2.1
theorem txR3 {G : vG} (U : State) (h : vOat G U U.heap) : vk_R RX2 120 "flw" (G.th 1004) U := h.2.2.2.2.2.2.2.2.1
theorem txR4 {G : vG} (U : State) (h : vOat G U U.heap) : vk_R RX2 122 "sh" (G.th 1005) U := h.2.2.2.2.2.2.2.2.2.1
theorem txR5 {G : vG} (U : State) (h : vOat G U U.heap) : vk_R RX2 124 "wl" (G.th 1006) U := h.2.2.2.2.2.2.2.2.2.2
