/-! THE CLAIM OUT OF ONE WALK OF THE LAW'S BODY. Your part is whole_start (and what it stands on); all else here is the same for every law, but numbers. -/
def R_law : String := "LevelCellarsLaw"
def lw_P (b : Addr) (xs : List Int32) (args : Array Value) (s : State) : Prop := args = #[.ref b] ∧ s.IntsAt b xs ∧ xs.length ≤ 3072 ∧ (Jvm.Cond.and given_1 narrow_1).before args s = true
def lw_Q (_ : Array Value) (s : State) (o : Outcome) (t : State) : Prop := o = .returned (some (.int 1)) ∧ Framed s o t [] 600000 7302250
def lw_Z (below : List Frame) (a : Array Value) (s : State) : State → Prop := fun t => ∃ o, t.status = .running ∧ Ended t below o ∧ lw_Q a s o t
/-- the law's own end, with 1 on the stack, nothing written that was there before, its room as the claim has it -/
theorem lw_ret {p : Program} {l : Launch} {e : Env} {s : State} {m : MethodId} {below : List Frame} {meth : Method} {c : Code} {b : Nat} (hx : p.tables.exec = Jvm.exec) (hb : c.code = code) (hr : meth.sig.returnType = ret) (hlocks : meth.locks = false) {pc : Nat} {H : Heap} {ls : Array Slot} (hdg : decode code pc = .ok (.ireturn, 1)) : W p l e room_1 s m #[Value.ref b] below meth c H [] 600000 7302250 (lw_Z below #[Value.ref b] s) (F0 m pc ls [.int 1]) := by
  intro T hT X
  obtain ⟨fs, hret, hrun, hended, hW, hframe⟩ := X.leave (v := some (.int 1)) (hlocks := hlocks) (fun h => by rw [hr] at h; cases h)
  have hmeth' : T.vm.method? m = some meth := X.method'
  refine ⟨T.setFrames fs, ?_, .returned (some (.int 1)), hrun, hended, rfl, ⟨_, rfl⟩, hW, hframe⟩
  jvm_step X.here [X.here.top, hx, hb, hdg, hmeth', hr, ret, narrow_b1]
  (try refine ⟨rfl, ?_⟩); (try refine ⟨rfl, ?_⟩)
  first | (intro acts; rw [hret _ acts rfl rfl rfl]) | rw [hret _ _ rfl rfl rfl]
  exact Steps.refl _
/-- what holds at the law's entry: the machine, the code, the tables' words (any of lw_tbl by 'hts w (by decide +kernel)'), the script of L ints xs at the cell b, what the Statement gives of the start (any of its parts by flat_of_before) -/
def lw_At (p : Program) (s : State) (m : MethodId) (meth : Method) (c : Code) (b L : Nat) (xs : Nat → Int32) : Prop :=
  p.tables.exec = Jvm.exec ∧ c.code = code ∧ meth.sig.returnType = ret ∧ c.maxLocals = 4 ∧ s.vm.findClass R_law = some m.cls ∧ (∀ w ∈ lw_tbl, w.before #[Value.ref b] s = true) ∧ va_X b L xs s s.heap ∧ b < s.heap.size ∧ meth.locks = false ∧ (Jvm.Cond.and given_1 narrow_1).before #[Value.ref b] s = true
/-! ===== the law's loop: what is known at each of its places ===== -/
/-- the standing facts of the law's walk -/
def LwA (G : vG) (p : Program) (s : State) (m : MethodId) (meth : Method) (c : Code) (b L : Nat) (xs : Nat → Int32) : Prop :=
  p.tables.exec = Jvm.exec ∧ c.code = cL_law ∧ meth.sig.returnType = ret ∧ c.maxLocals = 4 ∧ s.vm.findClass RL = some m.cls ∧ (∀ w ∈ WD, w.before #[Value.ref b] s = true) ∧ va_X b L xs s s.heap ∧ b < s.heap.size ∧ meth.locks = false ∧ vK G s ∧ G.wr = (fun q : Nat => s.heap.size ≤ q) ∧ L ≤ 3072
def Lw (G : vG) (p : Program) (e : Env) (s : State) (m : MethodId) (below : List Frame) (meth : Method) (c : Code) (b L : Nat) (xs : Nat → Int32) (C S : Nat) (i pc : Nat) (st : List Value) (σ : vS) : Prop :=
  ∀ (H : Heap) (locs : List Loc) (ls : Array Slot), vP G σ H → va_S G.wr s.heap H locs → lv_has ls 4 [(0, .ref b), (1, .ref (G.th 0)), (2, .ref (G.th 97)), (3, .int (nI i))] →
    W p G.1 e room_1 s m #[Value.ref b] below meth c H locs C S (lw_Z below #[Value.ref b] s) (F0 m pc ls st)
section LWR
variable {G : vG} {p : Program} {e : Env} {s : State} {m : MethodId} {below : List Frame} {meth : Method} {c : Code} {b L : Nat} {xs : Nat → Int32} {C S : Nat} {i pc : Nat} {st : List Value} {σ : vS}
theorem L_x (A : LwA G p s m meth c b L xs) (hd : decode cL_law pc = .ok (.aload_n 1, 1)) (k : Lw G p e s m below meth c b L xs C S i (pc + 1) (.ref (G.th 0) :: st) σ) : Lw G p e s m below meth c b L xs C S i pc st σ := by
  intro H locs ls hP hS hl
  obtain ⟨hx, hb, -⟩ := A
  exact lv_aload_n hx hb hd rfl (lv_at hl 1 rfl) (k H locs ls hP hS hl)
theorem L_m (A : LwA G p s m meth c b L xs) (hd : decode cL_law pc = .ok (.aload_n 2, 1)) (k : Lw G p e s m below meth c b L xs C S i (pc + 1) (.ref (G.th 97) :: st) σ) : Lw G p e s m below meth c b L xs C S i pc st σ := by
  intro H locs ls hP hS hl
  obtain ⟨hx, hb, -⟩ := A
  exact lv_aload_n hx hb hd rfl (lv_at hl 2 rfl) (k H locs ls hP hS hl)
theorem L_arg (A : LwA G p s m meth c b L xs) {n : Int} (kk : Nat) (hn : Int32.ofInt n = nI kk) (hk : i + kk < L) (h0 : decode cL_law pc = .ok (.aload_n 0, 1)) (h1 : decode cL_law (pc + 1) = .ok (.iload_n 3, 1)) (h2 : decode cL_law (pc + 2) = .ok (.iconst n, 1)) (h3 : decode cL_law (pc + 3) = .ok (.iadd, 1)) (h4 : decode cL_law (pc + 4) = .ok (.iaload, 1))
    (k : Lw G p e s m below meth c b L xs C S i (pc + 5) (.int (xs (i + kk)) :: st) σ) : Lw G p e s m below meth c b L xs C S i pc st σ := by
  intro H locs ls hP hS hl
  obtain ⟨hx, hb, hr, hml, hown, hts, hX, hbl, hlk, hK, hwr, hL⟩ := A
  have hbA : ¬ G.wr b := by rw [hwr]; exact Nat.not_le.mpr hbl
  refine lv_aload_n hx hb h0 rfl (lv_at hl 0 rfl) ?_
  refine lv_iload_n hx hb h1 rfl (lv_at hl 3 rfl) ?_
  refine lv_iconst (v := nI kk) hx hb h2 hn ?_
  refine lv_iadd hx hb h3 ?_
  rw [nI_add]
  refine va_sld hx hb hX hbl hbA hS (vp_in_nI hk (by omega)) h4 ?_
  rw [nI_clamp (by omega)]
  exact k H locs ls hP hS hl
theorem L_call (A : LwA G p s m meth c b L xs) {idx n nL' bp : Nat} {C' : String} {y : MethodName} {cc' : ByteArray} {ret' : Option FieldType} {As st0 : List Value} {Q' : Option Value → vS → Prop} (hst0 : st0 = (As.map (vc G)).reverse ++ .ref (G.th bp) :: st) (hd : decode cL_law pc = .ok (.invokevirtual idx, 3)) (cl : vCV RL idx C' y cc' nL' ret' n) (hn : As.length = n) (hb : vRc C' bp) (hst : (st.map fun v => v.category).sum ≤ 8)
    (ct : Ct G y cc' nL' ret' 100 (.ref bp :: As) σ Q') (k : ∀ r σ', Q' r σ' → Lw G p e s m below meth c b L xs C S i (pc + 3) ((r.map (vc G)).toList ++ st) σ') (hC : C ≤ 600000) (hSs : S ≤ 7302250) : Lw G p e s m below meth c b L xs C S i pc st0 σ := by
  intro H locs ls hP hS hl
  subst hst0
  obtain ⟨hx, hbb, hr, hml, hown, hts, hX, hbl, hlk, hK, hwr, hL⟩ := A
  obtain ⟨w1, w2, w3, w4, w5, w6, w7⟩ := cl
  have hr := va_runV (p := p) (e := e) (R := room_1) (below := below) (meth := meth) (cells := C) (slots := S) (locs := locs) (g := F0 m pc ls ((As.map (vc G)).reverse ++ .ref (G.th bp) :: st)) (C := C') (b := G.th bp) (As := As.map (vc G)) (rest := st) ⟨hx, hbb, hml, hown, hts⟩ ct ⟨callB_of n hts (wd_in w4) rfl rfl rfl (hts _ w5) (hts _ w1) w6 ⟨by simp [vrm, room_1], by simp only [vrm, room_1]; omega⟩, hts _ w2, hts _ w3⟩ ⟨fun a U g mk q => ⟨q.1, q.2.1, q.2.2.blind⟩, hb.get hK hP hS, fun U hU hW => ⟨rfl, by rw [hU]; exact hP, va_K.moved hW.alike hK.1, by rw [hU]; exact (hK.2.kept hS.2.1).warm hW⟩⟩ rfl (by simpa using hn) hl.1 rfl (lv_room hst) hd ⟨by simp [vrm, room_1]; omega, by simp [vrm, room_1]; omega⟩
  intro T hT X
  obtain ⟨v, st₀, t, T', L0, h0, X', hL0, e1, e2, ⟨⟨r, σ', hv, hq, hp1, hk1⟩, hz, hk⟩, stp⟩ := hr T hT X
  rw [h0] at hz hk
  cases hv
  obtain ⟨t2, a1, b1⟩ := k r σ' hq T'.heap (locs ++ L0) ls (by rw [e1]; exact hp1) ⟨Nat.le_trans hS.1 (by rw [e1]; exact hz), fun q h1 h2 => by rw [e1, hk q (Nat.lt_of_lt_of_le h1 hS.1) h2]; exact hS.2.1 q h1 h2, fun q hq => by
      rcases List.mem_append.mp hq with h | h
      · exact hS.2.2 q h
      · exact hL0 q h⟩ hl T' rfl X'
  exact ⟨t2, stp t2 a1, b1⟩
theorem L_callA (A : LwA G p s m meth c b L xs) {idx n nL' : Nat} {y : MethodName} {cc' : ByteArray} {As st0 : List Value} {ym : MethodName} {cm : ByteArray} {nm j : Nat} (hst0 : st0 = (As.map (vc G)).reverse ++ .ref (G.th 0) :: st) (hd : decode cL_law pc = .ok (.invokevirtual idx, 3)) (cl : vCV RL idx RX6 y cc' nL' (some .int) n) (hn : As.length = n) (hst : (st.map fun v => v.category).sum ≤ 8)
    (ct : Op G y cc' nL' ym cm nm 100 As j σ) (hC : C ≤ 600000) (hSs : S ≤ 7302250) (k : ∀ v σ1, Ct G ym cm nm (some .int) 100 (.ref 97 :: As) σ1 (fun r' σ2 => r' = some (.int v) ∧ Inv (j + 1) σ2) → Lw G p e s m below meth c b L xs C S i (pc + 3) (.int v :: st) σ1) : Lw G p e s m below meth c b L xs C S i pc st0 σ :=
  L_call A hst0 hd cl hn rcC hst ct (fun r σ' q => by
    obtain ⟨v, rfl, h1⟩ := q
    exact k v σ' h1) hC hSs
theorem L_callB (A : LwA G p s m meth c b L xs) {idx n nL' : Nat} {y : MethodName} {cc' : ByteArray} {As st0 : List Value} {j : Nat} {v : Int32} (hst0 : st0 = (As.map (vc G)).reverse ++ .ref (G.th 97) :: st) (hd : decode cL_law pc = .ok (.invokevirtual idx, 3)) (cl : vCV RL idx RX7 y cc' nL' (some .int) n) (hn : As.length = n) (hst : (st.map fun v => v.category).sum ≤ 8)
    (ct : Ct G y cc' nL' (some .int) 100 (.ref 97 :: As) σ (fun r' σ2 => r' = some (.int v) ∧ Inv (j + 1) σ2)) (hC : C ≤ 600000) (hSs : S ≤ 7302250) (k : ∀ σ2, Inv (j + 1) σ2 → Lw G p e s m below meth c b L xs C S i (pc + 3) (.int v :: st) σ2) : Lw G p e s m below meth c b L xs C S i pc st0 σ :=
  L_call A hst0 hd cl hn rcM hst ct (fun r σ' q => by
    obtain ⟨rfl, h1⟩ := q
    exact k σ' h1) hC hSs
theorem L_eq (A : LwA G p s m meth c b L xs) {off : Int} {v : Int32} (hd : decode cL_law pc = .ok (.if_icmp .eq off, 3)) (ht : (pc : Int) + off = ((1539 : Nat) : Int)) (k : Lw G p e s m below meth c b L xs C S i 1539 st σ) : Lw G p e s m below meth c b L xs C S i pc (.int v :: .int v :: st) σ := by
  intro H locs ls hP hS hl
  obtain ⟨hx, hb, -⟩ := A
  exact lv_icmp_eq (tgt := 1539) hx hb hd ht (fun _ => k H locs ls hP hS hl) (fun h => absurd rfl h)
end LWR
