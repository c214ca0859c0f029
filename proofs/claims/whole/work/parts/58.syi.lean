/-! ===== what the yard keeps ===== -/
theorem depE_congr {row row' : Nat → Nat} : ∀ i, (∀ j, j < i → row j = row' j) → depE row i = depE row' i := by
  intro i
  induction i with
  | zero => intro _; rfl
  | succ i ih =>
    intro h
    simp only [depE]
    rw [ih (fun j hj => h j (by omega)), h i (by omega)]
abbrev okS (ky v : Nat) : Prop := (v < 10003 ∨ v = 20033 ∨ v = 20124 ∨ v = 20038 ∨ v = 20060 ∨ v = 20061 ∨ v = 20062 ∨ v = 20043 ∨ v = 20045 ∨ v = 20042 ∨ v = 20047) ∧ (ky ≠ 0 → v ≠ 10002)
def rwC (c : List Nat) (i : Nat) : Nat := c.getD i 0
def dpL (c : List Nat) : Nat := depE (rwC c) c.length
def wfP (ky : Nat) (c : List Nat) : Prop := ∀ i, i < c.length → okS ky (rwC c i) ∧ (20000 ≤ rwC c i → rwC c i = 20033 → 1 ≤ depE (rwC c) i) ∧ (20000 ≤ rwC c i → rwC c i ≠ 20033 → 2 ≤ depE (rwC c) i)
theorem rw_old {c : List Nat} {v i : Nat} (h : i < c.length) : rwC (c ++ [v]) i = rwC c i := by
  unfold rwC
  rw [getD_app (by omega), if_neg (by omega)]
theorem rw_new {c : List Nat} {v : Nat} : rwC (c ++ [v]) c.length = v := by
  unfold rwC
  rw [getD_app (by omega), if_pos rfl]
theorem dp_old {c : List Nat} {v i : Nat} (h : i ≤ c.length) : depE (rwC (c ++ [v])) i = depE (rwC c) i := depE_congr i (fun j hj => rw_old (by omega))
theorem dp_app {c : List Nat} {v : Nat} : dpL (c ++ [v]) = if v < 20000 then dpL c + 1 else if v = 20033 then dpL c else dpL c - 1 := by
  unfold dpL
  rw [List.length_append]
  show depE (rwC (c ++ [v])) (c.length + 1) = _
  simp only [depE]
  rw [dp_old (Nat.le_refl _), rw_new]
theorem wf_app {ky v : Nat} {c : List Nat} (h : wfP ky c) (hv : okS ky v) (h1 : 20000 ≤ v → v = 20033 → 1 ≤ dpL c) (h2 : 20000 ≤ v → v ≠ 20033 → 2 ≤ dpL c) : wfP ky (c ++ [v]) := by
  intro i hi
  rw [List.length_append] at hi
  have hi2 : i < c.length + 1 := hi
  rw [dp_old (by omega)]
  by_cases e : i = c.length
  · subst e
    rw [rw_new]
    exact ⟨hv, h1, h2⟩
  · rw [rw_old (by omega)]
    exact h i (by omega)
theorem wf_nil {ky : Nat} : wfP ky [] := fun i hi => absurd hi (Nat.not_lt_zero i)
def nbW (w : List Nat) : Nat := (w.filter (fun s => decide (bk s ≠ 0))).length
def wOK (w : List Nat) : Prop := ∀ s ∈ w, s = 33 ∨ s = 40 ∨ bk s ≠ 0
theorem nb_y {s : Nat} {w : List Nat} (h : bk s ≠ 0) : nbW (s :: w) = nbW w + 1 := by simp [nbW, h]
theorem nb_n {s : Nat} {w : List Nat} (h : bk s = 0) : nbW (s :: w) = nbW w := by simp [nbW, h]
theorem bk_ok {s : Nat} (h : bk s ≠ 0) : s = 124 ∨ s = 38 ∨ s = 60 ∨ s = 61 ∨ s = 62 ∨ s = 43 ∨ s = 45 ∨ s = 42 ∨ s = 47 := by
  unfold bk at h
  repeat' split at h
  all_goals omega
/-- having a value: settling keeps all in order -/
theorem stl_inv {ky r : Nat} : ∀ (w c : List Nat), wfP ky c → wOK w → dpL c = nbW w + 1 → wfP ky (stl r c w).1 ∧ wOK (stl r c w).2 ∧ dpL (stl r c w).1 = nbW (stl r c w).2 + 1 ∧ npW (stl r c w).2 = npW w ∧ nnW (stl r c w).2 ≤ nnW w := by
  intro w
  induction w with
  | nil => intro c h1 h2 h3; exact ⟨h1, h2, h3, rfl, Nat.le_refl _⟩
  | cons s u ih =>
    intro c h1 h2 h3
    by_cases h : s ≠ 40 ∧ r ≤ rk s
    · rw [stl_y h]
      have hu : wOK u := fun x hx => h2 x (List.mem_cons_of_mem _ hx)
      rcases h2 s List.mem_cons_self with e | e | e
      · subst e
        rw [nb_n rfl] at h3
        have hd : dpL (c ++ [20000 + 33]) = dpL c := by rw [dp_app, if_neg (by decide), if_pos rfl]
        obtain ⟨a, b, cc, d, f⟩ := ih (c ++ [20000 + 33]) (wf_app h1 ⟨by decide, fun _ => by decide⟩ (fun _ _ => by omega) (fun _ q => absurd rfl q)) hu (by rw [hd]; exact h3)
        refine ⟨a, b, cc, by rw [d, np_ne (by decide)], by rw [nn_33]; omega⟩
      · exact absurd e h.1
      · rw [nb_y e] at h3
        have hb := bk_ok e
        have hd : dpL (c ++ [20000 + s]) = dpL c - 1 := by rw [dp_app, if_neg (by omega), if_neg (by omega)]
        obtain ⟨a, b, cc, d, f⟩ := ih (c ++ [20000 + s]) (wf_app h1 ⟨by omega, by omega⟩ (fun _ _ => by omega) (fun _ _ => by omega)) hu (by rw [hd]; omega)
        refine ⟨a, b, cc, by rw [d, np_ne (by omega)], by rw [nn_ne (by omega)]; omega⟩
    · rw [stl_n h]
      exact ⟨h1, h2, h3, rfl, Nat.le_refl _⟩
theorem stl0_open {c : List Nat} : ∀ (w c : List Nat), 0 < npW w → ∃ u, (stl 0 c w).2 = 40 :: u := by
  intro w
  induction w with
  | nil => intro c h; exact absurd h (by decide)
  | cons s u ih =>
    intro c h
    by_cases e : s = 40
    · subst e
      rw [stl_n (fun q => q.1 rfl)]
      exact ⟨u, rfl⟩
    · rw [stl_y ⟨e, Nat.zero_le _⟩]
      exact ih _ (by rw [np_ne e] at h; exact h)
theorem stl0_none : ∀ (w c : List Nat), npW w = 0 → (stl 0 c w).2 = [] := by
  intro w
  induction w with
  | nil => intro c _; rfl
  | cons s u ih =>
    intro c h
    have e : s ≠ 40 := fun e => by
      rw [e, np_40] at h
      omega
    rw [stl_y ⟨e, Nat.zero_le _⟩]
    exact ih _ (by rw [np_ne e] at h; exact h)
theorem tk_leaf {tp : Nat → Nat} {n ky k : Nat} (h : tkN tp n ky k < 20000) : FF tp n k < n ∧ okS ky (tkN tp n ky k) := by
  have hF : FF tp n k < n := Classical.byContradiction (fun q => by rw [tk_end q] at h; omega)
  refine ⟨hF, ?_⟩
  by_cases hs : srt (tp (FF tp n k)) = 0
  · rw [tk_sign hF hs] at h; omega
  · have hl := srt_le (b := tp (FF tp n k))
    rcases tk_word (ky := ky) hF hs with e | e
    · refine ⟨Or.inl e, fun hk e2 => ?_⟩
      rcases (show srt (tp (FF tp n k)) = 1 ∨ srt (tp (FF tp n k)) = 2 by omega) with q | q
      · by_cases hb : gluP tp n k ∨ ¬ (EE tp n (k + 1) - FF tp n k = 1 ∧ nmN ky (tp (FF tp n k)) ≠ 0)
        · rw [tk_nameB hF q hb] at h; omega
        · have hb2 : ¬ gluP tp n k := fun q => hb (Or.inl q)
          have hb3 : EE tp n (k + 1) - FF tp n k = 1 ∧ nmN ky (tp (FF tp n k)) ≠ 0 := Classical.byContradiction (fun q => hb (Or.inr q))
          rw [tk_name hF q hb2 hb3.1 hb3.2] at e2
          have h3 : nmN ky (tp (FF tp n k)) ≤ 2 := by
            unfold nmN
            rw [if_neg hk]
            repeat' split
            all_goals omega
          omega
      · by_cases hb : gluP tp n k ∨ 4 < EE tp n (k + 1) - FF tp n k
        · rw [tk_numB hF q hb] at h; omega
        · have hb2 : ¬ gluP tp n k := fun q => hb (Or.inl q)
          have hb3 : EE tp n (k + 1) - FF tp n k ≤ 4 := Nat.le_of_not_lt (fun q => hb (Or.inr q))
          rw [tk_num hF q hb2 hb3] at e2
          have := tk_num_lt hF q hb3
          omega
    · omega
/-- the invariant of want, have, done -/
def SI (tp : Nat → Nat) (n ky : Nat) (x : syC) : Prop := x.1 = 2 ∨ (x.1 ≤ 3 ∧ wfP ky x.2.2.1 ∧ wOK x.2.2.2.1 ∧ dpL x.2.2.1 = nbW x.2.2.2.1 + (if x.1 = 0 then 0 else 1) ∧ x.2.2.1.length + x.2.2.2.1.length ≤ x.2.1 ∧ x.2.1 ≤ FF tp n x.2.1 ∧ npW x.2.2.2.1 ≤ 8 ∧ x.2.2.2.2.length = npW x.2.2.2.1 + 1)
theorem SI.step {tp : Nat → Nat} {n ky : Nat} {x : syC} (h : SI tp n ky x) : SI tp n ky (sy1 (tkN tp n ky) x) := by
  obtain ⟨m, k, c, w, t⟩ := x
  rcases h with h | ⟨h0, h1, h2, h3, h4, h5, h6, h7⟩
  · simp only at h
    subst h
    exact Or.inl rfl
  · simp only at h0 h1 h2 h3 h4 h5 h6 h7
    rcases (show m = 0 ∨ m = 1 ∨ m = 2 ∨ m = 3 by omega) with rfl | rfl | rfl | rfl
    · rw [if_pos rfl] at h3
      by_cases a : tkN tp n ky k = 20033 ∧ nnW w < 8
      · rw [sy_not a.1 a.2]
        have hF : FF tp n k < n := Classical.byContradiction (fun q => by have := a.1; rw [tk_end q] at this; omega)
        refine Or.inr ⟨Nat.le_of_ble_eq_true rfl, h1, ?_, ?_, ?_, FF_up h5 hF, ?_, ?_⟩
        · intro s hs
          rcases List.mem_cons.mp hs with e | e
          · exact Or.inl e
          · exact h2 s e
        · show dpL c = nbW (33 :: w) + _
          rw [nb_n rfl, if_pos rfl]; exact h3
        · show c.length + (33 :: w).length ≤ k + 1
          simp only [List.length_cons]; omega
        · show npW (33 :: w) ≤ 8
          rw [np_ne (by decide)]; exact h6
        · show t.length = npW (33 :: w) + 1
          rw [np_ne (by decide)]; exact h7
      · by_cases b : tkN tp n ky k = 20040 ∧ npW w < 8
        · rw [sy_open b.1 b.2]
          have hF : FF tp n k < n := Classical.byContradiction (fun q => by have := b.1; rw [tk_end q] at this; omega)
          refine Or.inr ⟨Nat.le_of_ble_eq_true rfl, h1, ?_, ?_, ?_, FF_up h5 hF, ?_, ?_⟩
          · intro s hs
            rcases List.mem_cons.mp hs with e | e
            · exact Or.inr (Or.inl e)
            · exact h2 s e
          · show dpL c = nbW (40 :: w) + _
            rw [nb_n rfl, if_pos rfl]; exact h3
          · show c.length + (40 :: w).length ≤ k + 1
            simp only [List.length_cons]; omega
          · show npW (40 :: w) ≤ 8
            rw [np_40]; omega
          · show (false :: t).length = npW (40 :: w) + 1
            rw [np_40, List.length_cons]; omega
        · by_cases e : tkN tp n ky k < 20000
          · rw [sy_leaf e]
            obtain ⟨hF, hl⟩ := tk_leaf e
            have hd : dpL (c ++ [tkN tp n ky k]) = nbW w + 1 := by rw [dp_app, if_pos e]; omega
            obtain ⟨q1, q2, q3, q4, -⟩ := stl_inv (r := 6) w (c ++ [tkN tp n ky k]) (wf_app h1 hl (fun q => by omega) (fun q => by omega)) h2 hd
            have ql := stl_len (r := 6) w (c ++ [tkN tp n ky k])
            simp only [List.length_append, List.length_cons, List.length_nil] at ql
            refine Or.inr ⟨Nat.le_of_ble_eq_true rfl, q1, q2, q3, ?_, FF_up h5 hF, ?_, ?_⟩
            · show _ ≤ k + 1
              simp only; omega
            · show npW _ ≤ 8
              rw [q4]; exact h6
            · show t.length = npW _ + 1
              rw [q4]; exact h7
          · rw [sy_wbad a b e]
            exact Or.inl rfl
    · rw [if_neg (by decide)] at h3
      by_cases a : tkN tp n ky k = 40000
      · by_cases b : npW w = 0
        · rw [sy_done a b]
          obtain ⟨q1, q2, q3, q4, -⟩ := stl_inv (r := 0) w c h1 h2 h3
          have ql := stl_len (r := 0) w c
          refine Or.inr ⟨Nat.le_of_ble_eq_true rfl, q1, q2, q3, ?_, h5, ?_, ?_⟩
          · show _ ≤ k
            simp only; omega
          · show npW _ ≤ 8
            rw [q4]; exact h6
          · show t.length = npW _ + 1
            rw [q4]; exact h7
        · rw [sy_hbad (fun q => b q.2) (fun q => by omega) (fun q => q.1 (by rw [a]; rfl))]
          exact Or.inl rfl
      · have hF : FF tp n k < n := Classical.byContradiction (fun q => a (tk_end q))
        by_cases b : tkN tp n ky k = 20041 ∧ 0 < npW w
        · rw [sy_close b.1 b.2]
          obtain ⟨q1, q2, q3, q4, -⟩ := stl_inv (r := 0) w c h1 h2 h3
          have ql := stl_len (r := 0) w c
          obtain ⟨u, hu⟩ := stl0_open (c := c) w c b.2
          rw [hu] at q2 q3 q4 ql
          rw [hu]
          rw [nb_n rfl] at q3
          rw [np_40] at q4
          simp only [List.length_cons] at ql
          obtain ⟨p1, p2, p3, p4, -⟩ := stl_inv (r := 6) u (stl 0 c w).1 q1 (fun s hs => q2 s (List.mem_cons_of_mem _ hs)) q3
          have pl := stl_len (r := 6) u (stl 0 c w).1
          refine Or.inr ⟨Nat.le_of_ble_eq_true rfl, p1, p2, p3, ?_, FF_up h5 hF, ?_, ?_⟩
          · show (stl 6 (stl 0 c w).1 u).1.length + (stl 6 (stl 0 c w).1 u).2.length ≤ k + 1
            omega
          · show npW (stl 6 (stl 0 c w).1 u).2 ≤ 8
            omega
          · show t.tail.length = npW (stl 6 (stl 0 c w).1 u).2 + 1
            rw [List.length_tail]; omega
        · by_cases e : bkT (tkN tp n ky k) ≠ 0 ∧ ¬ (bkT (tkN tp n ky k) = 3 ∧ t.headD false = true)
          · have hp := bk_pos e.1
            have e41 : tkN tp n ky k ≠ 20041 := fun q => e.1 (by rw [q]; rfl)
            rw [sy_sign e.1 e.2 a e41]
            obtain ⟨q1, q2, q3, q4, -⟩ := stl_inv (r := bkT (tkN tp n ky k)) w c h1 h2 h3
            have ql := stl_len (r := bkT (tkN tp n ky k)) w c
            have hb : bk (tkN tp n ky k - 20000) ≠ 0 := by
              have := e.1
              unfold bkT at this
              split at this
              · exact this
              · omega
            have hb2 := bk_ok hb
            refine Or.inr ⟨Nat.le_of_ble_eq_true rfl, q1, ?_, ?_, ?_, FF_up h5 hF, ?_, ?_⟩
            · intro s hs
              rcases List.mem_cons.mp hs with z | z
              · rw [z]; exact Or.inr (Or.inr hb)
              · exact q2 s z
            · show dpL _ = nbW (_ :: _) + _
              rw [nb_y hb, if_pos rfl]; exact q3
            · show _ + (_ :: _ : List Nat).length ≤ k + 1
              simp only [List.length_cons]; omega
            · show npW (_ :: _) ≤ 8
              rw [np_ne (by omega), q4]; exact h6
            · show (_ :: t.tail : List Bool).length = npW (_ :: _) + 1
              rw [np_ne (by omega), q4, List.length_cons, List.length_tail]; omega
          · rw [sy_hbad (fun q => a q.1) b e]
            exact Or.inl rfl
    · exact Or.inl rfl
    · exact Or.inr ⟨Nat.le_of_ble_eq_true rfl, h1, h2, h3, h4, h5, h6, h7⟩
theorem SI.go {tp : Nat → Nat} {n ky : Nat} {x y : syC} (h : SI tp n ky x) (g : Go (tkN tp n ky) x y) : SI tp n ky y := by
  obtain ⟨m, rfl⟩ := g
  induction m generalizing x with
  | zero => exact h
  | succ m ih => exact ih h.step
theorem SI.start {tp : Nat → Nat} {n ky : Nat} (h : FF tp n 0 < n) : SI tp n ky (0, 0 + 1, [], [], [false]) := by
  refine Or.inr ⟨by decide, wf_nil, fun s hs => absurd hs List.not_mem_nil, rfl, by decide, ?_, by decide, rfl⟩
  have := FF_s h
  show 0 + 1 ≤ FF tp n (0 + 1)
  omega
