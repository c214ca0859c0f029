/-! ===== tokens of a tape ===== -/
def srt (b : Nat) : Nat := if 97 ≤ b ∧ b ≤ 122 then 1 else if 48 ≤ b ∧ b ≤ 57 then 2 else 0
/-- from e on, below n, as long as P -/
def skF (P : Nat → Bool) (n : Nat) : Nat → Nat → Nat
  | 0, e => e
  | f + 1, e => if e < n ∧ P e = true then skF P n f (e + 1) else e
def sk (P : Nat → Bool) (n e : Nat) : Nat := skF P n (n - e) e
theorem sk_y {P : Nat → Bool} {n e : Nat} (h : e < n) (hp : P e = true) : sk P n e = sk P n (e + 1) := by
  unfold sk
  rw [show n - e = n - (e + 1) + 1 by omega]
  simp only [skF]
  rw [if_pos ⟨h, hp⟩]
theorem sk_n {P : Nat → Bool} {n e : Nat} (h : ¬ (e < n ∧ P e = true)) : sk P n e = e := by
  unfold sk
  cases hn : n - e with
  | zero => rfl
  | succ f =>
    simp only [skF]
    rw [if_neg h]
theorem skF_ge {P : Nat → Bool} {n : Nat} : ∀ f e, e ≤ skF P n f e := by
  intro f
  induction f with
  | zero => intro e; exact Nat.le_refl _
  | succ f ih =>
    intro e
    simp only [skF]
    split
    · exact Nat.le_trans (Nat.le_succ e) (ih (e + 1))
    · exact Nat.le_refl _
theorem sk_ge {P : Nat → Bool} {n e : Nat} : e ≤ sk P n e := skF_ge _ _
theorem skF_le {P : Nat → Bool} {n : Nat} : ∀ f e, e ≤ n → skF P n f e ≤ n := by
  intro f
  induction f with
  | zero => intro e h; exact h
  | succ f ih =>
    intro e h
    simp only [skF]
    split
    · rename_i q; exact ih (e + 1) (by omega)
    · exact h
theorem sk_le {P : Nat → Bool} {n e : Nat} (h : e ≤ n) : sk P n e ≤ n := skF_le _ _ h
theorem skF_in {P : Nat → Bool} {n : Nat} : ∀ f e j, e ≤ j → j < skF P n f e → P j = true := by
  intro f
  induction f with
  | zero => intro e j h1 h2; simp only [skF] at h2; omega
  | succ f ih =>
    intro e j h1 h2
    simp only [skF] at h2
    split at h2
    · rename_i q
      by_cases g : j = e
      · rw [g]; exact q.2
      · exact ih (e + 1) j (by omega) h2
    · omega
theorem sk_in {P : Nat → Bool} {n e j : Nat} (h1 : e ≤ j) (h2 : j < sk P n e) : P j = true := skF_in _ _ j h1 h2
theorem skF_at {P : Nat → Bool} {n : Nat} : ∀ f e, n - e ≤ f → skF P n f e < n → P (skF P n f e) = false := by
  intro f
  induction f with
  | zero => intro e h1 h2; simp only [skF] at h2; omega
  | succ f ih =>
    intro e h1 h2
    simp only [skF] at h2 ⊢
    split
    · rename_i q
      rw [if_pos q] at h2
      exact ih (e + 1) (by omega) h2
    · rename_i q
      rw [if_neg q] at h2
      cases hp : P e with
      | false => rfl
      | true => exact absurd ⟨h2, hp⟩ q
theorem sk_at {P : Nat → Bool} {n e : Nat} (h : sk P n e < n) : P (sk P n e) = false := skF_at _ _ (Nat.le_refl _) h
/-- where the next token begins, where it ends -/
def spB (tp : Nat → Nat) (j : Nat) : Bool := tp j == 32
def soB (tp : Nat → Nat) (s j : Nat) : Bool := srt (tp j) == s
def frN (tp : Nat → Nat) (n e : Nat) : Nat := sk (spB tp) n e
def enN (tp : Nat → Nat) (n e : Nat) : Nat := if frN tp n e < n then (if srt (tp (frN tp n e)) = 0 then frN tp n e + 1 else sk (soB tp (srt (tp (frN tp n e)))) n (frN tp n e + 1)) else n
def EE (tp : Nat → Nat) (n : Nat) : Nat → Nat
  | 0 => 0
  | k + 1 => enN tp n (EE tp n k)
def FF (tp : Nat → Nat) (n k : Nat) : Nat := frN tp n (EE tp n k)
section TK
variable {tp : Nat → Nat} {n k : Nat}
theorem EE_s : EE tp n (k + 1) = enN tp n (EE tp n k) := rfl
theorem en_le {e : Nat} (h : e ≤ n) : enN tp n e ≤ n := by
  unfold enN
  split
  · rename_i q
    split
    · omega
    · exact sk_le (by omega)
  · exact Nat.le_refl _
theorem EE_le : EE tp n k ≤ n := by
  induction k with
  | zero => exact Nat.zero_le _
  | succ k ih => exact en_le ih
theorem FF_le : FF tp n k ≤ n := sk_le EE_le
theorem FF_ge : EE tp n k ≤ FF tp n k := sk_ge
theorem EE_gt (h : FF tp n k < n) : FF tp n k < EE tp n (k + 1) := by
  have e : EE tp n (k + 1) = enN tp n (EE tp n k) := rfl
  unfold enN at e
  have hf : frN tp n (EE tp n k) = FF tp n k := rfl
  rw [hf, if_pos h] at e
  rw [e]
  split
  · omega
  · exact Nat.lt_of_lt_of_le (Nat.lt_succ_self _) sk_ge
theorem FF_s (h : FF tp n k < n) : FF tp n k + 1 ≤ FF tp n (k + 1) := Nat.le_trans (EE_gt h) FF_ge
theorem FF_up (h : k ≤ FF tp n k) (h2 : FF tp n k < n) : k + 1 ≤ FF tp n (k + 1) := by
  have := FF_s h2
  omega
theorem EE_end (h : ¬ FF tp n k < n) : EE tp n (k + 1) = n := by
  show enN tp n (EE tp n k) = n
  unfold enN
  exact if_neg h
theorem EE_sign (h : FF tp n k < n) (hs : srt (tp (FF tp n k)) = 0) : EE tp n (k + 1) = FF tp n k + 1 := by
  show enN tp n (EE tp n k) = _
  unfold enN
  rw [if_pos (show frN tp n (EE tp n k) < n from h)]
  exact if_pos hs
theorem EE_word (h : FF tp n k < n) (hs : srt (tp (FF tp n k)) ≠ 0) : EE tp n (k + 1) = sk (soB tp (srt (tp (FF tp n k)))) n (FF tp n k + 1) := by
  show enN tp n (EE tp n k) = _
  unfold enN
  rw [if_pos (show frN tp n (EE tp n k) < n from h)]
  exact if_neg hs
theorem word_in {j : Nat} (h : FF tp n k < n) (hs : srt (tp (FF tp n k)) ≠ 0) (h1 : FF tp n k ≤ j) (h2 : j < EE tp n (k + 1)) : srt (tp j) = srt (tp (FF tp n k)) := by
  by_cases e : j = FF tp n k
  · rw [e]
  · rw [EE_word h hs] at h2
    have := sk_in (show FF tp n k + 1 ≤ j by omega) h2
    simpa [soB] using this
theorem FF_sp (h : FF tp n k < n) : tp (FF tp n k) ≠ 32 := by
  have h2 : spB tp (FF tp n k) = false := sk_at (P := spB tp) (n := n) (e := EE tp n k) h
  simpa [spB] using h2
end TK
/-- the last byte read is a letter or a figure -/
abbrev lwP (tp : Nat → Nat) (n k : Nat) : Prop := 0 < EE tp n k ∧ srt (tp (EE tp n k - 1)) ≠ 0
abbrev gluP (tp : Nat → Nat) (n k : Nat) : Prop := (FF tp n k < n ∧ srt (tp (FF tp n k)) ≠ 0) ∧ FF tp n k = EE tp n k ∧ lwP tp n k
def numF (tp : Nat → Nat) (F : Nat) : Nat → Nat
  | 0 => 0
  | k + 1 => numF tp F k * 10 + (tp (F + k) - 48)
/-- a name's place among its key's, and 1; 0: none -/
def nmN (ky b : Nat) : Nat := if ky = 0 then (if b = 102 then 1 else if b = 108 then 2 else if b = 119 then 3 else 0) else if ky = 1 then (if b = 115 then 1 else if b = 104 then 2 else 0) else (if b = 119 then 1 else if b = 108 then 2 else 0)
def tkN (tp : Nat → Nat) (n ky k : Nat) : Nat :=
  if FF tp n k < n then
    (if srt (tp (FF tp n k)) = 0 then 20000 + tp (FF tp n k)
     else if gluP tp n k then 30000
     else if srt (tp (FF tp n k)) = 2 then (if EE tp n (k + 1) - FF tp n k ≤ 4 then numF tp (FF tp n k) (EE tp n (k + 1) - FF tp n k) else 30000)
     else (if EE tp n (k + 1) - FF tp n k = 1 ∧ nmN ky (tp (FF tp n k)) ≠ 0 then 10000 + (nmN ky (tp (FF tp n k)) - 1) else 30000))
  else 40000
theorem num_lt {tp : Nat → Nat} {F : Nat} : ∀ m, (∀ j, j < m → srt (tp (F + j)) = 2) → numF tp F m < 10 ^ m := by
  intro m
  induction m with
  | zero => intro _; exact Nat.one_pos
  | succ m ih =>
    intro h
    have h1 := ih (fun j hj => h j (by omega))
    have h2 := h m (by omega)
    have h3 : tp (F + m) ≤ 57 := by
      unfold srt at h2
      split at h2
      · omega
      · split at h2
        · omega
        · omega
    simp only [numF]
    rw [Nat.pow_succ]
    omega
/-! ===== signs, and the yard ===== -/
def bk (s : Nat) : Nat := if s = 124 then 1 else if s = 38 then 2 else if s = 60 ∨ s = 61 ∨ s = 62 then 3 else if s = 43 ∨ s = 45 then 4 else if s = 42 ∨ s = 47 then 5 else 0
def rk (s : Nat) : Nat := if s = 33 then 6 else bk s
def bkT (t : Nat) : Nat := if 20000 ≤ t then bk (t - 20000) else 0
/-- what waits, its top first, goes into the row while it binds at least so tight -/
def stl (r : Nat) : List Nat → List Nat → List Nat × List Nat
  | c, [] => (c, [])
  | c, s :: w => if s ≠ 40 ∧ r ≤ rk s then stl r (c ++ [20000 + s]) w else (c, s :: w)
def npW (w : List Nat) : Nat := w.count 40
def nnW (w : List Nat) : Nat := w.count 33
abbrev syC : Type := Nat × Nat × List Nat × List Nat × List Bool
/-- want 0, have 1, fault 2, done 3 -/
def sy1 (tk : Nat → Nat) : syC → syC
  | (0, k, c, w, t) => if tk k = 20033 ∧ nnW w < 8 then (0, k + 1, c, 33 :: w, t)
      else if tk k = 20040 ∧ npW w < 8 then (0, k + 1, c, 40 :: w, false :: t)
      else if tk k < 20000 then (1, k + 1, (stl 6 (c ++ [tk k]) w).1, (stl 6 (c ++ [tk k]) w).2, t)
      else (2, k, c, w, t)
  | (1, k, c, w, t) => if tk k = 40000 then (if npW w = 0 then (3, k, (stl 0 c w).1, (stl 0 c w).2, t) else (2, k, c, w, t))
      else if tk k = 20041 ∧ 0 < npW w then (1, k + 1, (stl 6 (stl 0 c w).1 (stl 0 c w).2.tail).1, (stl 6 (stl 0 c w).1 (stl 0 c w).2.tail).2, t.tail)
      else if bkT (tk k) ≠ 0 ∧ ¬ (bkT (tk k) = 3 ∧ t.headD false = true) then (0, k + 1, (stl (bkT (tk k)) c w).1, (tk k - 20000) :: (stl (bkT (tk k)) c w).2, (decide (bkT (tk k) = 3) || (decide (3 < bkT (tk k)) && t.headD false)) :: t.tail)
      else (2, k, c, w, t)
  | x => x
def syI (tk : Nat → Nat) : Nat → syC → syC
  | 0, x => x
  | m + 1, x => syI tk m (sy1 tk x)
def Go (tk : Nat → Nat) (x y : syC) : Prop := ∃ m, syI tk m x = y
section SY
variable {tk : Nat → Nat} {x y z : syC} {k r : Nat} {c w p : List Nat} {t : List Bool}
theorem Go.rf : Go tk x x := ⟨0, rfl⟩
theorem syI_add : ∀ a b x, syI tk (a + b) x = syI tk b (syI tk a x) := by
  intro a
  induction a with
  | zero => intro b x; rw [Nat.zero_add]; rfl
  | succ a ih => intro b x; rw [show a + 1 + b = a + b + 1 by omega]; exact ih b _
theorem Go.tr (h1 : Go tk x y) (h2 : Go tk y z) : Go tk x z := by
  obtain ⟨a, ha⟩ := h1
  obtain ⟨b, hb⟩ := h2
  exact ⟨a + b, by rw [syI_add, ha, hb]⟩
theorem Go.one (h : sy1 tk x = y) : Go tk x y := ⟨1, h⟩
theorem sy_not (h : tk k = 20033) (hn : nnW w < 8) : sy1 tk (0, k, c, w, t) = (0, k + 1, c, 33 :: w, t) := by
  show ite _ _ _ = _
  rw [if_pos ⟨h, hn⟩]
theorem sy_open (h : tk k = 20040) (hn : npW w < 8) : sy1 tk (0, k, c, w, t) = (0, k + 1, c, 40 :: w, false :: t) := by
  show ite _ _ _ = _
  rw [if_neg (fun q => by have := q.1; omega), if_pos ⟨h, hn⟩]
theorem sy_leaf (h : tk k < 20000) : sy1 tk (0, k, c, w, t) = (1, k + 1, (stl 6 (c ++ [tk k]) w).1, (stl 6 (c ++ [tk k]) w).2, t) := by
  show ite _ _ _ = _
  rw [if_neg (fun q => by have := q.1; omega), if_neg (fun q => by have := q.1; omega), if_pos h]
theorem sy_wbad (h1 : ¬ (tk k = 20033 ∧ nnW w < 8)) (h2 : ¬ (tk k = 20040 ∧ npW w < 8)) (h3 : ¬ tk k < 20000) : sy1 tk (0, k, c, w, t) = (2, k, c, w, t) := by
  show ite _ _ _ = _
  rw [if_neg h1, if_neg h2, if_neg h3]
theorem sy_close (h : tk k = 20041) (hn : 0 < npW w) : sy1 tk (1, k, c, w, t) = (1, k + 1, (stl 6 (stl 0 c w).1 (stl 0 c w).2.tail).1, (stl 6 (stl 0 c w).1 (stl 0 c w).2.tail).2, t.tail) := by
  show ite _ _ _ = _
  rw [if_neg (by omega), if_pos ⟨h, hn⟩]
theorem sy_sign (h0 : bkT (tk k) ≠ 0) (h : ¬ (bkT (tk k) = 3 ∧ t.headD false = true)) (h1 : tk k ≠ 40000) (h2 : tk k ≠ 20041) : sy1 tk (1, k, c, w, t) = (0, k + 1, (stl (bkT (tk k)) c w).1, (tk k - 20000) :: (stl (bkT (tk k)) c w).2, (decide (bkT (tk k) = 3) || (decide (3 < bkT (tk k)) && t.headD false)) :: t.tail) := by
  show ite _ _ _ = _
  rw [if_neg h1, if_neg (fun q => h2 q.1), if_pos ⟨h0, h⟩]
theorem sy_hbad (h0 : ¬ (tk k = 40000 ∧ npW w = 0)) (h1 : ¬ (tk k = 20041 ∧ 0 < npW w)) (h2 : ¬ (bkT (tk k) ≠ 0 ∧ ¬ (bkT (tk k) = 3 ∧ t.headD false = true))) : sy1 tk (1, k, c, w, t) = (2, k, c, w, t) := by
  show ite _ _ _ = _
  by_cases e : tk k = 40000
  · rw [if_pos e, if_neg (fun q => h0 ⟨e, q⟩)]
  · rw [if_neg e, if_neg h1, if_neg h2]
theorem sy_done (h : tk k = 40000) (h0 : npW w = 0) : sy1 tk (1, k, c, w, t) = (3, k, (stl 0 c w).1, (stl 0 c w).2, t) := by
  show ite _ _ _ = _
  rw [if_pos h, if_pos h0]
theorem stl_y {s : Nat} (h : s ≠ 40 ∧ r ≤ rk s) : stl r c (s :: w) = stl r (c ++ [20000 + s]) w := if_pos h
theorem stl_n {s : Nat} (h : ¬ (s ≠ 40 ∧ r ≤ rk s)) : stl r c (s :: w) = (c, s :: w) := if_neg h
def topW (r : Nat) (w : List Nat) : Prop := ∀ s u, w = s :: u → s = 40 ∨ rk s < r
theorem stl_top (h : topW r w) : stl r c w = (c, w) := by
  cases w with
  | nil => rfl
  | cons s u =>
    rcases h s u rfl with e | e
    · exact stl_n (fun q => q.1 e)
    · exact stl_n (fun q => by omega)
theorem stl_app (hp : ∀ s ∈ p, s ≠ 40 ∧ r ≤ rk s) : ∀ c, stl r c (p ++ w) = stl r (c ++ p.map (20000 + ·)) w := by
  induction p with
  | nil => intro c; simp
  | cons s p ih =>
    intro c
    rw [List.cons_append, stl_y (hp s List.mem_cons_self), ih (fun s hs => hp s (List.mem_cons_of_mem _ hs))]
    simp
theorem stl_all (hp : ∀ s ∈ p, s ≠ 40 ∧ r ≤ rk s) (ht : topW r w) : stl r c (p ++ w) = (c ++ p.map (20000 + ·), w) := by
  rw [stl_app hp, stl_top ht]
theorem stl_len : ∀ w c, (stl r c w).1.length + (stl r c w).2.length = c.length + w.length := by
  intro w
  induction w with
  | nil => intro c; rfl
  | cons s u ih =>
    intro c
    by_cases h : s ≠ 40 ∧ r ≤ rk s
    · rw [stl_y h, ih]; simp; omega
    · rw [stl_n h]
end SY
