/-! ===== constructors: worlds that grow ===== -/
/-- what the constructors' links say that is not kept by every list of words -/
def kN (U : State) : Prop :=
  va_Nw (.methodLinkNest RX6 9 yX2_init RX6) U ∧ va_Nw (.methodLinkNest RX2 11 yX1_init RX6) U ∧ va_Nw (.methodLinkNest RX6 34 yX1_init RX6) U ∧
  va_Nw (.methodLinkNest RX6 35 yX3_init RX6) U ∧ va_Nw (.methodLinkNest RX6 36 yX4_init RX6) U ∧ va_Nw (.methodLinkNest RX4 15 yX3_init RX6) U ∧
  va_AO RX1 U ∧ va_AO RX3 U ∧ va_AO RX4 U
theorem kN.warm {s U : State} (hW : s.WarmedH U.vm) (h : kN s) : kN U := by
  obtain ⟨h1, h2, h3, h4, h5, h6, h7, h8, h9⟩ := h
  exact ⟨h1.warmM hW, h2.warmM hW, h3.warmM hW, h4.warmM hW, h5.warmM hW, h6.warmM hW, h7.moved hW.alike, h8.moved hW.alike, h9.moved hW.alike⟩
theorem kN.same {s U : State} (hv : s.vm = U.vm) (h : kN s) : kN U := by
  obtain ⟨h1, h2, h3, h4, h5, h6, h7, h8, h9⟩ := h
  have ha : s.vm.Alike U.vm := by rw [hv]; exact Vm.Alike.refl _
  exact ⟨h1.same rfl hv, h2.same rfl hv, h3.same rfl hv, h4.same rfl hv, h5.same rfl hv, h6.same rfl hv, h7.moved ha, h8.moved ha, h9.moved ha⟩
/-- the standing facts of a constructor's walk -/
def KA (D : va_G) (cA : Nat → ClassId) (own : String) (cc : ByteArray) (nL : Nat) (p : Program) (s : State) (m : MethodId) (args : Array Value) (meth : Method) (c : Code) : Prop :=
  p.tables.exec = Jvm.exec ∧ c.code = cc ∧ c.maxLocals = nL ∧ s.vm.findClass own = some m.cls ∧ (∀ w ∈ WD, w.before args s = true) ∧ va_K D vwCl (vtys cA) s ∧ kN s
def kPre (D : va_G) (cA : Nat → ClassId) (av : List Value) (sz : Nat) (w0 : va_W) : Array Value → State → Prop := va_Pc av (fun U => U.heap.size = sz ∧ va_P D vwCl w0 U.heap ∧ va_K D vwCl (vtys cA) U ∧ va_D (fun _ => True) w0 ∧ kN U)
def kPost (D : va_G) (A : Nat → Prop) (Post : va_W → Prop) : Array Value → State → Outcome → State → Prop := va_Qv (fun w1 : va_W => Post w1) (fun w1 t => va_P D vwCl w1 t.heap ∧ va_D A w1) A
def KC (l : Launch) (D : va_G) (cA : Nat → ClassId) (y : MethodName) (cc : ByteArray) (nL : Nat) (rm : Room) (av : List Value) (w0 : va_W) (Post : va_W → Prop) : Prop :=
  ∀ sz, Met l y (Cond.code y cc nL none :: WD) rm (kPre D cA av sz w0) (kPost D (va_A w0 sz) Post) rm.cells rm.slots (va_A w0 sz)
def kZ (D : va_G) (A : Nat → Prop) (Post : va_W → Prop) (rm : Room) (below : List Frame) (args : Array Value) (s : State) : State → Prop := MQ below (kPost D A Post) args s rm.cells rm.slots A
theorem KC.ofW {l : Launch} {D : va_G} {cA : Nat → ClassId} {y : MethodName} {cc : ByteArray} {nL : Nat} {rm : Room} {av : List Value} {w0 : va_W} {Post : va_W → Prop} (hy : plainName y.cls = true) (hlen : (lg_sl av).length ≤ nL) (hin : y.name = "<init>")
    (h : ∀ (p : Program) (e : Env) (s : State) (m : MethodId) (below : List Frame) (meth : Method) (c : Code) (A : Nat → Prop) (ls : Array Slot), KA D cA y.cls cc nL p s m av.toArray meth c → meth.sig.returnType = none → meth.locks = false → meth.name = "<init>" → va_P D vwCl w0 s.heap → va_D A w0 → (∀ q : Nat, s.heap.size ≤ q → A q) → lv_has ls nL (lv_args 0 av) →
      W p l e rm s m av.toArray below meth c s.heap [] 0 0 (kZ D A Post rm below av.toArray s) (F0 m 0 ls [])) : KC l D cA y cc nL rm av w0 Post := by
  intro sz
  refine Met.ofW (cc := cc) (maxL := nL) (ret := none) hy rfl ?_
  intro p e s m args below meth c s₁ B hml hv
  obtain ⟨rfl, hsz, hP, hK, hD0, hN⟩ := hv
  have hts := atoms_spec (ws := Cond.code y cc nL none :: WD) B.pre
  have hown : s.vm.findClass y.cls = some m.cls := findClass_of_methodNamed B.named
  subst hsz
  have hl := lv_entry av (n := nL) hlen
  rw [lg_entry_eq]
  exact h p e s m below meth c _ _ ⟨B.exec, B.bytes, hml, hown, fun w hw => hts w (List.mem_cons_of_mem _ hw), hK, hN⟩ B.returns B.notSynchronized ((name_of_methodNamed B.named B.method).1.trans hin) hP (hD0.self (sz := s.heap.size)) (fun q hq => Or.inr hq) hl
section KR
variable {p : Program} {l : Launch} {e : Env} {R : Room} {s : State} {m : MethodId} {args : Array Value} {below : List Frame} {meth : Method} {c : Code} {H : Heap} {locs : List Loc} {cells slots : Nat} {Q : State → Prop}
variable {cc : ByteArray} {pc nL : Nat} {ls : Array Slot} {rest : List Value} {D : va_G} {cA : Nat → ClassId} {A : Nat → Prop} {a : Nat} {ws : va_W} {own : String}

theorem kNewa {atype : ArrayType} {ty : FieldType} (t0 : Nat) (K : KA D cA own cc nL p s m args meth c) (hw : Cond.arrayClass (Jvm.Op.newarray.typeOf atype) ∈ WD) (hty : Jvm.Op.newarray.typeOf atype = ty) (ht : (vtys cA)[t0]? = some (cA t0, ty)) (hra : ∀ x, va_RA s x ty → s.vm.findClass ("[" ++ ty.toString) = some x) (hP : va_P D vwCl ws H) (hD : va_D A ws) (hS : va_S A s.heap H locs) (hA : ∀ q : Nat, s.heap.size ≤ q → A q)
    {n : Int32} (N' : Nat) (ha : ∀ cA : ClassId, vp_cell cA (N', .inl (fun _ => 0)) = arrV cA N' (fun _ => defaultValue ty)) (hn : ¬ n < 0) (hN : n.toNatClampNeg = N') (hbytes : N' * componentBytes ty ≤ 536870912) (hcells : cells + 1 ≤ R.cells) (hslots : slots + N' ≤ R.slots) (hdg : decode cc pc = .ok (.newarray atype, 2))
    (kk : ∀ (q : Nat) (H1 : Heap), va_P D vwCl (ws ++ [(q, .inl (cA t0, N', .inl (fun _ => 0)))]) H1 → va_D A (ws ++ [(q, .inl (cA t0, N', .inl (fun _ => 0)))]) → va_S A s.heap H1 locs →
      W p l e R s m args below meth c H1 locs (cells + 1) (slots + N') Q (F0 m (pc + 2) ls (.ref q :: rest))) : W p l e R s m args below meth c H locs cells slots Q (F0 m pc ls (.int n :: rest)) := by
  obtain ⟨hx, hb, hml, hown, hts, hK, hN'⟩ := K
  refine va_newa hx hb (hts _ hw) hty hK hP hD hS hA ha hn hN hbytes hcells hslots hdg (fun q cA1 H1 hK1 hP1 hD1 hS1 => ?_)
  have e1 : cA1 = cA t0 := by
    have h1 := hra _ (hK.2 t0 _ ht).2
    have h2 := hra _ (hK1.2 6 (cA1, ty) rfl).2
    rw [h1] at h2
    exact (Option.some.inj h2).symm
  subst e1
  exact kk q H1 hP1 hD1 hS1
theorem kNewI (K : KA D cA own cc nL p s m args meth c) (hw : Cond.arrayClass .int ∈ WD) (hP : va_P D vwCl ws H) (hD : va_D A ws) (hS : va_S A s.heap H locs) (hA : ∀ q : Nat, s.heap.size ≤ q → A q)
    {n : Int32} (N' : Nat) (hn : ¬ n < 0) (hN : n.toNatClampNeg = N') (hbytes : N' * 4 ≤ 536870912) (hcells : cells + 1 ≤ R.cells) (hslots : slots + N' ≤ R.slots) (hdg : decode cc pc = .ok (.newarray .int, 2))
    (kk : ∀ (q : Nat) (H1 : Heap), va_P D vwCl (ws ++ [(q, .inl (cA 0, N', .inl (fun _ => 0)))]) H1 → va_D A (ws ++ [(q, .inl (cA 0, N', .inl (fun _ => 0)))]) → va_S A s.heap H1 locs →
      W p l e R s m args below meth c H1 locs (cells + 1) (slots + N') Q (F0 m (pc + 2) ls (.ref q :: rest))) : W p l e R s m args below meth c H locs cells slots Q (F0 m pc ls (.int n :: rest)) :=
  kNewa (atype := .int) (ty := .int) 0 K hw rfl rfl (fun _ h => h) hP hD hS hA N' (fun _ => rfl) hn hN hbytes hcells hslots hdg kk
theorem kNewC (K : KA D cA own cc nL p s m args meth c) (hw : Cond.arrayClass .char ∈ WD) (hP : va_P D vwCl ws H) (hD : va_D A ws) (hS : va_S A s.heap H locs) (hA : ∀ q : Nat, s.heap.size ≤ q → A q)
    {n : Int32} (N' : Nat) (hn : ¬ n < 0) (hN : n.toNatClampNeg = N') (hbytes : N' * 2 ≤ 536870912) (hcells : cells + 1 ≤ R.cells) (hslots : slots + N' ≤ R.slots) (hdg : decode cc pc = .ok (.newarray .char, 2))
    (kk : ∀ (q : Nat) (H1 : Heap), va_P D vwCl (ws ++ [(q, .inl (cA 1, N', .inl (fun _ => 0)))]) H1 → va_D A (ws ++ [(q, .inl (cA 1, N', .inl (fun _ => 0)))]) → va_S A s.heap H1 locs →
      W p l e R s m args below meth c H1 locs (cells + 1) (slots + N') Q (F0 m (pc + 2) ls (.ref q :: rest))) : W p l e R s m args below meth c H locs cells slots Q (F0 m pc ls (.int n :: rest)) :=
  kNewa (atype := .char) (ty := .char) 1 K hw rfl rfl (fun _ h => h) hP hD hS hA N' (fun _ => rfl) hn hN hbytes hcells hslots hdg kk
theorem kNewB (K : KA D cA own cc nL p s m args meth c) (hw : Cond.arrayClass .boolean ∈ WD) (hP : va_P D vwCl ws H) (hD : va_D A ws) (hS : va_S A s.heap H locs) (hA : ∀ q : Nat, s.heap.size ≤ q → A q)
    {n : Int32} (N' : Nat) (hn : ¬ n < 0) (hN : n.toNatClampNeg = N') (hbytes : N' * 1 ≤ 536870912) (hcells : cells + 1 ≤ R.cells) (hslots : slots + N' ≤ R.slots) (hdg : decode cc pc = .ok (.newarray .boolean, 2))
    (kk : ∀ (q : Nat) (H1 : Heap), va_P D vwCl (ws ++ [(q, .inl (cA 2, N', .inl (fun _ => 0)))]) H1 → va_D A (ws ++ [(q, .inl (cA 2, N', .inl (fun _ => 0)))]) → va_S A s.heap H1 locs →
      W p l e R s m args below meth c H1 locs (cells + 1) (slots + N') Q (F0 m (pc + 2) ls (.ref q :: rest))) : W p l e R s m args below meth c H locs cells slots Q (F0 m pc ls (.int n :: rest)) :=
  kNewa (atype := .boolean) (ty := .boolean) 2 K hw rfl rfl (fun _ h => h) hP hD hS hA N' (fun _ => rfl) hn hN hbytes hcells hslots hdg kk
theorem kNewq {C : String} {index : Nat} (t0 : Nat) (K : KA D cA own cc nL p s m args meth c) (hcl : Cond.classLink own index C ∈ WD) (hao : va_AO C s) (ht : (vtys cA)[t0]? = some (cA t0, .object C)) (hP : va_P D vwCl ws H) (hD : va_D A ws) (hS : va_S A s.heap H locs) (hA : ∀ q : Nat, s.heap.size ≤ q → A q)
    {n : Int32} (N' : Nat) (hn : ¬ n < 0) (hN : n.toNatClampNeg = N') (hbytes : N' * 4 ≤ 536870912) (hcells : cells + 1 ≤ R.cells) (hslots : slots + N' ≤ R.slots) (hdg : decode cc pc = .ok (.anewarray index, 3))
    (kk : ∀ (q : Nat) (H1 : Heap), va_P D vwCl (ws ++ [(q, .inl (cA t0, N', .inr (.inr (.inr (.inr (fun _ => none))))))]) H1 → va_D A (ws ++ [(q, .inl (cA t0, N', .inr (.inr (.inr (.inr (fun _ => none))))))]) → va_S A s.heap H1 locs →
      W p l e R s m args below meth c H1 locs (cells + 1) (slots + N') Q (F0 m (pc + 3) ls (.ref q :: rest))) : W p l e R s m args below meth c H locs cells slots Q (F0 m pc ls (.int n :: rest)) := by
  obtain ⟨hx, hb, hml, hown, hts, hK, hN'⟩ := K
  refine va_newq hx hb hown (hts _ hcl) hao hK hP hD hS hA hn hN hbytes hcells hslots hdg (fun q cA1 H1 hK1 hP1 hD1 hS1 => ?_)
  have e1 : cA1 = cA t0 := by
    obtain ⟨-, -, -, -, -, h1⟩ := (hK.2 t0 _ ht).2
    obtain ⟨-, -, -, -, -, h2⟩ := (hK1.2 6 (cA1, .object C) rfl).2
    rw [h1] at h2
    exact (Option.some.inj h2).symm
  subst e1
  exact kk q H1 hP1 hD1 hS1
theorem kNew {C : String} {T : u_T} {N index : Nat} (ci : Nat) (fs : List Value) (ty : Nat → FieldType) (K : KA D cA own cc nL p s m args meth c) (hin : ∀ w ∈ u_ws C T N, w ∈ WD) (hty : ∀ k, k < N → parseFieldDescriptor (T k).2.2.1 = some (ty k)) (hcl : Cond.classLink own index C ∈ WD) (hinst : Cond.instantiable C N ∈ WD) (hini : Cond.initialized C ∈ WD) (hP : va_P D vwCl ws H) (hD : va_D A ws) (hS : va_S A s.heap H locs) (hA : ∀ q : Nat, s.heap.size ≤ q → A q)
    (hc : vwCl[ci]? = some (C, T, N)) (hfs : ∀ j, j < N → defaultValue (ty j) = vp_V fs j) (hcells : cells + 1 ≤ R.cells) (hslots : slots + N ≤ R.slots) (hdg : decode cc pc = .ok (.new index, 3))
    (kk : ∀ (q : Nat) (H1 : Heap), va_P D vwCl (ws ++ [(q, .inr (ci, fs))]) H1 → va_D A (ws ++ [(q, .inr (ci, fs))]) → va_S A s.heap H1 locs →
      W p l e R s m args below meth c H1 locs (cells + 1) (slots + N) Q (F0 m (pc + 3) ls (.ref q :: rest))) : W p l e R s m args below meth c H locs cells slots Q (F0 m pc ls rest) := by
  obtain ⟨hx, hb, hml, hown, hts, hK, hN'⟩ := K
  exact va_new hx hb hts hin ty hty hown (hts _ hcl) (hts _ hinst) (hts _ hini) hK hP hD hS hA hc hfs hcells hslots hdg kk
theorem kObj {idx : Nat} (K : KA D cA own cc nL p s m args meth c) (h1 : Cond.methodLink own idx Lib.objectInit ∈ WD) (hl : ls.size = nL) (hd : decode cc pc = .ok (.invokespecial idx, 3)) (hf : 1 ≤ R.frames) (hlo : 12 ≤ R.locals)
    (kk : W p l e R s m args below meth c H locs cells slots Q (F0 m (pc + 3) ls [])) : W p l e R s m args below meth c H locs cells slots Q (F0 m pc ls [.ref a]) := by
  obtain ⟨hx, hb, hml, hown, hts, hK, hN'⟩ := K
  exact W.objInit hx hb hown (hts _ h1) (hts _ (wd 81 (by decide +kernel) (by decide +kernel))) (hts _ (wd 82 (by decide +kernel) (by decide +kernel))) rfl (by rw [hml]; exact hl) rfl hd hf hlo kk
theorem kPutF {C : String} {T : u_T} {N index : Nat} (ci : Nat) (ty0 : Nat → FieldType) (ty : FieldType) (v : Value) (K : KA D cA own cc nL p s m args meth c) (hin0 : meth.name = "<init>") (hin : ∀ w ∈ u_ws C T N, w ∈ WD) (hty : ∀ k, k < N → parseFieldDescriptor (T k).2.2.1 = some (ty0 k)) (hnm : ∀ a, a < N → ∀ b, b < N → a ≠ b → (T a).2.1 ≠ (T b).2.1) (hP : va_P D vwCl ws H) (hD : va_D A ws) (hS : va_S A s.heap H locs) (q0 : Nat) {fs : List Value} (he : ws[q0]? = some (a, .inr (ci, fs))) (hc : vwCl[ci]? = some (C, T, N)) (k : Nat) (hk : k < N) (hlink : Cond.fieldLink own index (T k).1 (T k).2.1 (T k).2.2.1 ∈ WD) (hfin : (T k).2.2.2 = true) (hdecl : (T k).1 = own) (hd : parseFieldDescriptor (T k).2.2.1 = some ty) (hn : narrow ty v = v) (hfit : fits ty v = true) (hl : k < fs.length)
    (hdg : decode cc pc = .ok (.putfield index, 3)) (kk : ∀ (H1 : Heap) (locs1 : List Loc), va_P D vwCl (ws.set q0 (a, .inr (ci, fs.set k v))) H1 → va_D A (ws.set q0 (a, .inr (ci, fs.set k v))) → va_S A s.heap H1 locs1 → W p l e R s m args below meth c H1 locs1 cells slots Q (F0 m (pc + 3) ls rest)) : W p l e R s m args below meth c H locs cells slots Q (F0 m pc ls (v :: .ref a :: rest)) := by
  obtain ⟨hx, hb, hml, hown, hts, hK, hN'⟩ := K
  exact va_putF hx hb hts hin ty0 hty hnm hown hK hP hD hS q0 he hc k hk (hts _ hlink) (fun _ h => h) hfin hin0 hdecl hd hn hfit hl hdg kk
theorem kPut {C : String} {T : u_T} {N index : Nat} (ci : Nat) (ty0 : Nat → FieldType) (ty : FieldType) (v : Value) (K : KA D cA own cc nL p s m args meth c) (hin : ∀ w ∈ u_ws C T N, w ∈ WD) (hty : ∀ k, k < N → parseFieldDescriptor (T k).2.2.1 = some (ty0 k)) (hnm : ∀ a, a < N → ∀ b, b < N → a ≠ b → (T a).2.1 ≠ (T b).2.1) (hP : va_P D vwCl ws H) (hD : va_D A ws) (hS : va_S A s.heap H locs) (q0 : Nat) {fs : List Value} (he : ws[q0]? = some (a, .inr (ci, fs))) (hc : vwCl[ci]? = some (C, T, N)) (k : Nat) (hk : k < N) (hlink : Cond.fieldLink own index (T k).1 (T k).2.1 (T k).2.2.1 ∈ WD) (hfin : (T k).2.2.2 = false) (hd : parseFieldDescriptor (T k).2.2.1 = some ty) (hn : narrow ty v = v) (hfit : fits ty v = true) (hl : k < fs.length)
    (hdg : decode cc pc = .ok (.putfield index, 3)) (kk : ∀ (H1 : Heap) (locs1 : List Loc), va_P D vwCl (ws.set q0 (a, .inr (ci, fs.set k v))) H1 → va_D A (ws.set q0 (a, .inr (ci, fs.set k v))) → va_S A s.heap H1 locs1 → W p l e R s m args below meth c H1 locs1 cells slots Q (F0 m (pc + 3) ls rest)) : W p l e R s m args below meth c H locs cells slots Q (F0 m pc ls (v :: .ref a :: rest)) := by
  obtain ⟨hx, hb, hml, hown, hts, hK, hN'⟩ := K
  exact va_put hx hb hts hin ty0 hty hnm hown hK hP hD hS q0 he hc k hk (hts _ hlink) (fun _ h => h) hfin hd hn hfit hl hdg kk
/-- a call of a constructor; kk knows the world behind it -/
theorem kCallN {y : MethodName} {bytes : ByteArray} {maxL index : Nat} {rm : Room} {b : Nat} {As : List Value} {wc wr : va_W} {Post : va_W → Prop} {host : String} (n : Nat) (K : KA D cA own cc nL p s m args meth c) (C : KC l D cA y bytes maxL rm (.ref b :: As) wc Post)
    (hl : va_Nw (.methodLinkNest own index y host) s) (h1 : Cond.code y bytes maxL none ∈ WD) (h2 : Cond.initialized y.cls ∈ WD) (h3 : Cond.instanceMethod y ∈ WD) (hy : y.name = "<init>")
    (hd : y.cls ≠ "java/lang/invoke/MethodHandle" ∧ y.cls ≠ "java/lang/invoke/VarHandle" ∧ (parseMethodDescriptor y.desc).map (fun d => d.parameters.length) = some n) (hR : rm.frames + 1 ≤ R.frames ∧ 8 + (maxL + 11) + rm.locals ≤ R.locals)
    (hP : va_P D vwCl ws H) (hD : va_D A ws) (hS : va_S A s.heap H locs) (hA : ∀ q : Nat, s.heap.size ≤ q → A q) (hls : ls.size = nL) (hn : As.length = n) {st : List Value} (hst : st = As.reverse ++ .ref b :: rest) (hro : (rest.map fun v => v.category).sum ≤ 8)
    (isC isR : List Nat) (hC : isC.map (fun i => ws[i]?) = wc.map some) (hR0 : isR.map (fun i => ws[i]?) = wr.map some) (hnd : va_nd isR = true) (hnc : va_nd isC = true) (hdis : ∀ i ∈ isR, i ∉ isC)
    (hdg : decode cc pc = .ok (.invokespecial index, 3)) (hf : cells + rm.cells ≤ R.cells ∧ slots + rm.slots ≤ R.slots)
    (kk : ∀ (w1 : va_W) (H1 : Heap) (locs1 : List Loc), Post w1 → va_P D vwCl (wr ++ w1) H1 → va_D A (wr ++ w1) → va_S A s.heap H1 locs1 → W p l e R s m args below meth c H1 locs1 (cells + rm.cells) (slots + rm.slots) Q (F0 m (pc + 3) ls rest)) : W p l e R s m args below meth c H locs cells slots Q (F0 m pc ls st) := by
  subst hst
  obtain ⟨hx, hb, hml, hown, hts, hK, hN'⟩ := K
  have hFc := va_free (wc := wc) hD hS hA isC hC
  have hPc : va_P D vwCl wc H := by
    intro k q hk
    have h1 : (isC.map (fun i => ws[i]?))[k]? = some (some q) := by rw [hC, List.getElem?_map, hk]; rfl
    rw [List.getElem?_map] at h1
    cases hi : isC[k]? with
    | none => rw [hi] at h1; cases h1
    | some i => rw [hi] at h1; exact hP i q (Option.some.inj h1)
  have hDc : va_D A wc := hD.sub isC hnc hC
  refine va_callv (va_runIN (As := As) (rest := rest) ⟨hx, hb, hml, hown, hts⟩ (C H.size) ⟨va_cnB n hts (wd_in h1) rfl rfl rfl hl (hts _ h2) hd hR, hy, hts _ h3⟩ ⟨fun a U g mk q => ?_, fun U hU hW => ⟨rfl, by rw [hU], by rw [hU]; exact hPc, va_K.moved hW.alike hK, hDc.weaken (fun _ _ _ _ => trivial), hN'.warm hW⟩⟩ rfl hn hls rfl (lv_room hro) hdg hf) hS (fun q _ h => hFc q h) hFc (fun u t H1 locs ht hvm hw hB hz1 hk1 hS => ?_)
  · obtain ⟨q0, q1, qP, qK, qD, qN⟩ := q
    exact ⟨q0, q1, qP, va_K.moved (u := U) (U := U.calling g mk a) (Vm.Alike.refl U.vm) qK, qD, qN.same rfl⟩
  · obtain ⟨hP1, hD1⟩ := hB
    rw [ht] at hP1
    obtain ⟨hP, hD⟩ := va_join (wr := wr) (w1 := u) hP hD isC isR hC hR0 hnd hdis hk1 hFc hP1 hD1
    exact kk u H1 locs hw hP hD hS
theorem kCallI {y : MethodName} {bytes : ByteArray} {maxL index : Nat} {rm : Room} {b : Nat} {As : List Value} {wc wr : va_W} {Post : va_W → Prop} (n : Nat) (K : KA D cA own cc nL p s m args meth c) (C : KC l D cA y bytes maxL rm (.ref b :: As) wc Post)
    (hl : Cond.methodLink own index y ∈ WD) (h1 : Cond.code y bytes maxL none ∈ WD) (h2 : Cond.initialized y.cls ∈ WD) (h3 : Cond.instanceMethod y ∈ WD) (hy : y.name = "<init>")
    (hd : y.cls ≠ "java/lang/invoke/MethodHandle" ∧ y.cls ≠ "java/lang/invoke/VarHandle" ∧ (parseMethodDescriptor y.desc).map (fun d => d.parameters.length) = some n) (hR : rm.frames + 1 ≤ R.frames ∧ 8 + (maxL + 11) + rm.locals ≤ R.locals)
    (hP : va_P D vwCl ws H) (hD : va_D A ws) (hS : va_S A s.heap H locs) (hA : ∀ q : Nat, s.heap.size ≤ q → A q) (hls : ls.size = nL) (hn : As.length = n) {st : List Value} (hst : st = As.reverse ++ .ref b :: rest) (hro : (rest.map fun v => v.category).sum ≤ 8)
    (isC isR : List Nat) (hC : isC.map (fun i => ws[i]?) = wc.map some) (hR0 : isR.map (fun i => ws[i]?) = wr.map some) (hnd : va_nd isR = true) (hnc : va_nd isC = true) (hdis : ∀ i ∈ isR, i ∉ isC)
    (hdg : decode cc pc = .ok (.invokespecial index, 3)) (hf : cells + rm.cells ≤ R.cells ∧ slots + rm.slots ≤ R.slots)
    (kk : ∀ (w1 : va_W) (H1 : Heap) (locs1 : List Loc), Post w1 → va_P D vwCl (wr ++ w1) H1 → va_D A (wr ++ w1) → va_S A s.heap H1 locs1 → W p l e R s m args below meth c H1 locs1 (cells + rm.cells) (slots + rm.slots) Q (F0 m (pc + 3) ls rest)) : W p l e R s m args below meth c H locs cells slots Q (F0 m pc ls st) := by
  subst hst
  obtain ⟨hx, hb, hml, hown, hts, hK, hN'⟩ := K
  have hFc := va_free (wc := wc) hD hS hA isC hC
  have hPc : va_P D vwCl wc H := by
    intro k q hk
    have h1 : (isC.map (fun i => ws[i]?))[k]? = some (some q) := by rw [hC, List.getElem?_map, hk]; rfl
    rw [List.getElem?_map] at h1
    cases hi : isC[k]? with
    | none => rw [hi] at h1; cases h1
    | some i => rw [hi] at h1; exact hP i q (Option.some.inj h1)
  have hDc : va_D A wc := hD.sub isC hnc hC
  refine va_callv (va_runI (As := As) (rest := rest) ⟨hx, hb, hml, hown, hts⟩ (C H.size) (cwI n hts (wd_in h1) rfl rfl rfl (hts _ h2) (hts _ hl) (hts _ h3) hy hd hR) ⟨fun a U g mk q => ?_, fun U hU hW => ⟨rfl, by rw [hU], by rw [hU]; exact hPc, va_K.moved hW.alike hK, hDc.weaken (fun _ _ _ _ => trivial), hN'.warm hW⟩⟩ rfl hn hls rfl (lv_room hro) hdg hf) hS (fun q _ h => hFc q h) hFc (fun u t H1 locs ht hvm hw hB hz1 hk1 hS => ?_)
  · obtain ⟨q0, q1, qP, qK, qD, qN⟩ := q
    exact ⟨q0, q1, qP, va_K.moved (u := U) (U := U.calling g mk a) (Vm.Alike.refl U.vm) qK, qD, qN.same rfl⟩
  · obtain ⟨hP1, hD1⟩ := hB
    rw [ht] at hP1
    obtain ⟨hP, hD⟩ := va_join (wr := wr) (w1 := u) hP hD isC isR hC hR0 hnd hdis hk1 hFc hP1 hD1
    exact kk u H1 locs hw hP hD hS
theorem kRet {Post : va_W → Prop} {rm : Room} {w1 : va_W} (K : KA D cA own cc nL p s m args meth c) (hr : meth.sig.returnType = none) (hlocks : meth.locks = false) (hP : va_P D vwCl w1 H) (hD : va_D A w1) (hS : va_S A s.heap H locs) (hPost : Post w1) (hk : cells ≤ rm.cells) (hs : slots ≤ rm.slots) (hdg : decode cc pc = .ok (.return_, 1)) : W p l e R s m args below meth c H locs cells slots (kZ D A Post rm below args s) (F0 m pc ls []) := by
  obtain ⟨hx, hb, hml, hown, hts, hK, hN'⟩ := K
  refine W.widen hk hs ?_
  exact W.vret hx hb hr (fun t ht hW => ⟨⟨w1, rfl, hPost, by rw [ht]; exact hP, hD⟩, hS.F ht⟩) hS.2.2 hdg
end KR
