/-! Jobs and runs, apart from any machine. -/
abbrev CLs : Type := List (Int × (Int × List Int))
def vS (p k v n : Int) (S : List Int) : Bool := (evS p k v n S []).headD false
def anyW (CL : CLs) (w p k v n : Int) : Bool := CL.any (fun c => decide (c.1 = w) && vS p k v n c.2.2)
def jn (A S : List Int) : List Int := if A = [] then S else A ++ S ++ [-3]
def stW (CL : CLs) (w : Int) : List Int := CL.foldl (fun a c => if c.1 = w then jn a c.2.2 else a) []
def mx1 (n : Int) : Int := if n < 1 then 1 else n
def mn24 (n : Int) : Int := if 24 < n then 24 else n
def frW (CL : CLs) : Int := CL.foldl (fun a c => if c.1 = 0 then mx1 c.2.1 else a) 1
def tlW (CL : CLs) : Int := CL.foldl (fun a c => if c.1 = 1 then mn24 c.2.1 else a) 24
def lsW (CL : CLs) (w z : Int) : Int := CL.foldl (fun a c => if c.1 = w then c.2.1 else a) z
theorem frW_g (CL : CLs) : ∀ a b : Int, a = mx1 b → CL.foldl (fun a c => if c.1 = 0 then mx1 c.2.1 else a) a = mx1 (CL.foldl (fun a c => if c.1 = 0 then c.2.1 else a) b) := by
  induction CL with
  | nil => intro a b h; exact h
  | cons c CL ih =>
    intro a b h
    simp only [List.foldl_cons]
    apply ih
    by_cases hc : c.1 = 0
    · rw [if_pos hc, if_pos hc]
    · rw [if_neg hc, if_neg hc]; exact h
theorem tlW_g (CL : CLs) : ∀ a b : Int, a = mn24 b → CL.foldl (fun a c => if c.1 = 1 then mn24 c.2.1 else a) a = mn24 (CL.foldl (fun a c => if c.1 = 1 then c.2.1 else a) b) := by
  induction CL with
  | nil => intro a b h; exact h
  | cons c CL ih =>
    intro a b h
    simp only [List.foldl_cons]
    apply ih
    by_cases hc : c.1 = 1
    · rw [if_pos hc, if_pos hc]
    · rw [if_neg hc, if_neg hc]; exact h
theorem frW_ls (CL : CLs) : frW CL = mx1 (lsW CL 0 1) := frW_g CL 1 1 rfl
theorem tlW_ls (CL : CLs) : tlW CL = mn24 (lsW CL 1 24) := tlW_g CL 24 24 rfl
def okC (c : Int × (Int × List Int)) : Prop := (0 ≤ c.1 ∧ c.1 ≤ 3) ∧ (c.1 < 2 → 0 ≤ c.2.1 ∧ c.2.1 ≤ 99) ∧ (2 ≤ c.1 → Good 11 c.2.2)
def okCL (CL : CLs) : Prop := ∀ c ∈ CL, okC c
theorem lsW_in (CL : CLs) (w : Int) (hw : w < 2) : ∀ z : Int, 0 ≤ z → z ≤ 99 → okCL CL → 0 ≤ lsW CL w z ∧ lsW CL w z ≤ 99 := by
  unfold lsW
  induction CL with
  | nil => intro z h0 h1 _; exact ⟨h0, h1⟩
  | cons c CL ih =>
    intro z h0 h1 h
    simp only [List.foldl_cons]
    have hc := h c List.mem_cons_self
    have hC : okCL CL := fun x hx => h x (List.mem_cons_of_mem _ hx)
    by_cases e : c.1 = w
    · rw [if_pos e]
      have := hc.2.1 (by omega)
      exact ih _ this.1 this.2 hC
    · rw [if_neg e]; exact ih z h0 h1 hC
theorem frW_in {CL : CLs} (h : okCL CL) : 1 ≤ frW CL ∧ frW CL ≤ 99 := by
  have := lsW_in CL 0 (by omega) 1 (by omega) (by omega) h
  rw [frW_ls]; unfold mx1; split <;> omega
theorem tlW_in {CL : CLs} (h : okCL CL) : 0 ≤ tlW CL ∧ tlW CL ≤ 24 := by
  have := lsW_in CL 1 (by omega) 24 (by omega) (by omega) h
  rw [tlW_ls]; unfold mn24; split <;> omega
/-- steps that together have one answer, or none -/
def ans (A : List Int) (B : Int → Int → Int → Int → Bool) : Prop := (A = [] ∧ ∀ p k v n, B p k v n = false) ∨ (A ≠ [] ∧ Good 12 A ∧ ∀ p k v n st, evS p k v n A st = B p k v n :: st)
theorem Good_ne {k : Nat} {S : List Int} (h : Good k S) : S ≠ [] := by
  intro e
  subst e
  obtain ⟨b, hb⟩ := h.2 0 0 0 0
  have := hb []
  cases this
theorem Good_v {k : Nat} {S : List Int} (h : Good k S) (p q v n : Int) (st : List Bool) : evS p q v n S st = vS p q v n S :: st := by
  obtain ⟨b, hb⟩ := h.2 p q v n
  unfold vS
  rw [hb, hb]
  rfl
theorem ans_jn {A S : List Int} {B : Int → Int → Int → Int → Bool} (h : ans A B) (hS : Good 11 S) : ans (jn A S) (fun p k v n => B p k v n || vS p k v n S) := by
  unfold jn
  rcases h with ⟨h1, h2⟩ | ⟨h1, h2, h3⟩
  · rw [if_pos h1]
    refine Or.inr ⟨Good_ne hS, Good_mono (by omega) hS, fun p k v n st => ?_⟩
    rw [Good_v hS]
    show _ = (B p k v n || vS p k v n S) :: st
    rw [h2]
    rfl
  · rw [if_neg h1]
    refine Or.inr ⟨by simp, Good_op (Or.inr rfl) h2 hS (by omega), fun p k v n st => ?_⟩
    rw [evS_app, evS_app, h3, Good_v hS]
    rfl
theorem ans_fold (w : Int) (hw : 2 ≤ w) (CL : CLs) : ∀ (A : List Int) (B : Int → Int → Int → Int → Bool), okCL CL → ans A B → ans (CL.foldl (fun a c => if c.1 = w then jn a c.2.2 else a) A) (fun p k v n => B p k v n || anyW CL w p k v n) := by
  induction CL with
  | nil =>
    intro A B _ h
    have : (fun p k v n => B p k v n || anyW [] w p k v n) = B := by funext p k v n; simp [anyW]
    rw [this]; exact h
  | cons c CL ih =>
    intro A B hC h
    have hc := hC c List.mem_cons_self
    have hC' : okCL CL := fun x hx => hC x (List.mem_cons_of_mem _ hx)
    simp only [List.foldl_cons]
    by_cases e : c.1 = w
    · rw [if_pos e]
      have h2 := ih _ _ hC' (ans_jn h (hc.2.2 (by omega)))
      have : (fun p k v n => B p k v n || anyW (c :: CL) w p k v n) = (fun p k v n => (B p k v n || vS p k v n c.2.2) || anyW CL w p k v n) := by
        funext p k v n; simp [anyW, e, Bool.or_assoc]
      rw [this]; exact h2
    · rw [if_neg e]
      have h2 := ih _ _ hC' h
      have : (fun p k v n => B p k v n || anyW (c :: CL) w p k v n) = (fun p k v n => B p k v n || anyW CL w p k v n) := by
        funext p k v n; simp [anyW, e]
      rw [this]; exact h2
theorem stW_ans {CL : CLs} (h : okCL CL) (w : Int) (hw : 2 ≤ w) : ans (stW CL w) (anyW CL w) := by
  have := ans_fold w hw CL [] (fun _ _ _ _ => false) h (Or.inl ⟨rfl, fun _ _ _ _ => rfl⟩)
  have e : (fun p k v n => false || anyW CL w p k v n) = anyW CL w := by funext p k v n; simp
  rw [e] at this
  exact this
theorem vS_stW {CL : CLs} (h : okCL CL) (w : Int) (hw : 2 ≤ w) (p k v n : Int) : vS p k v n (stW CL w) = anyW CL w p k v n := by
  rcases stW_ans h w hw with ⟨h1, h2⟩ | ⟨h1, h2, h3⟩
  · rw [h1, h2]; rfl
  · unfold vS; rw [h3]; rfl
theorem hg_stW {CL : CLs} (h : okCL CL) (w : Int) (hw : 2 ≤ w) : hg 31 (stW CL w) 0 := by
  rcases stW_ans h w hw with ⟨h1, h2⟩ | ⟨h1, h2, h3⟩
  · rw [h1]; trivial
  · have := h2.1 0 31 [] (by omega) trivial
    rw [List.append_nil] at this
    exact this
theorem stW_snoc (CL : CLs) (w : Int) (c : Int × (Int × List Int)) : stW (CL ++ [c]) w = if c.1 = w then jn (stW CL w) c.2.2 else stW CL w := by
  unfold stW; rw [List.foldl_append]; rfl
theorem frW_snoc (CL : CLs) (c : Int × (Int × List Int)) : frW (CL ++ [c]) = if c.1 = 0 then mx1 c.2.1 else frW CL := by
  unfold frW; rw [List.foldl_append]; rfl
theorem tlW_snoc (CL : CLs) (c : Int × (Int × List Int)) : tlW (CL ++ [c]) = if c.1 = 1 then mn24 c.2.1 else tlW CL := by
  unfold tlW; rw [List.foldl_append]; rfl
-- runs
def npF (sk : Int → Bool) (tl : Int) : Nat → Int → Int
  | 0, p => p
  | k + 1, p => if p ≤ tl ∧ sk p = true then npF sk tl k (p + 1) else p
theorem npF_go {sk : Int → Bool} {tl p : Int} (h1 : p ≤ tl) (h2 : sk p = true) : ∀ k : Nat, tl < p + k → npF sk tl (k + 1) p = npF sk tl k (p + 1) := by
  intro k _
  rw [npF, if_pos ⟨h1, h2⟩]
theorem npF_stop {sk : Int → Bool} {tl p : Int} (h : ¬ (p ≤ tl ∧ sk p = true)) : ∀ k : Nat, npF sk tl k p = p := by
  intro k
  cases k with
  | zero => rfl
  | succ k => rw [npF, if_neg h]
theorem npF_le (sk : Int → Bool) (tl : Int) : ∀ (k : Nat) (p : Int), p ≤ npF sk tl k p := by
  intro k
  induction k with
  | zero => intro p; exact Int.le_refl p
  | succ k ih =>
    intro p
    rw [npF]
    by_cases h : p ≤ tl ∧ sk p = true
    · rw [if_pos h]; have := ih (p + 1); omega
    · rw [if_neg h]; exact Int.le_refl p
theorem npF_hi (sk : Int → Bool) (tl : Int) : ∀ (k : Nat) (p : Int), npF sk tl k p ≤ p ∨ npF sk tl k p ≤ tl + 1 := by
  intro k
  induction k with
  | zero => intro p; exact Or.inl (Int.le_refl p)
  | succ k ih =>
    intro p
    rw [npF]
    by_cases h : p ≤ tl ∧ sk p = true
    · rw [if_pos h]; have := ih (p + 1); omega
    · rw [if_neg h]; omega
theorem npF_fuel (sk : Int → Bool) (tl : Int) : ∀ (k j : Nat) (p : Int), tl < p + k → tl < p + j → npF sk tl k p = npF sk tl j p := by
  intro k
  induction k with
  | zero => intro j p h1 _; rw [npF_stop (by omega), npF_stop (by omega)]
  | succ k ih =>
    intro j p h1 h2
    cases j with
    | zero => rw [npF_stop (by omega), npF_stop (by omega)]
    | succ j =>
      rw [npF, npF]
      by_cases h : p ≤ tl ∧ sk p = true
      · rw [if_pos h, if_pos h]; exact ih j (p + 1) (by omega) (by omega)
      · rw [if_neg h, if_neg h]
theorem npF_end (sk : Int → Bool) (tl : Int) : ∀ (k : Nat) (p : Int), tl < p + k → ¬ (npF sk tl k p ≤ tl ∧ sk (npF sk tl k p) = true) := by
  intro k
  induction k with
  | zero => intro p h; rw [npF_stop (by omega)]; omega
  | succ k ih =>
    intro p h1
    rw [npF]
    by_cases h : p ≤ tl ∧ sk p = true
    · rw [if_pos h]; exact ih (p + 1) (by omega)
    · rw [if_neg h]; exact h
def dryF (k v n : Int) : Bool := decide ((k = 3 ∨ k = 6) ∧ (n + 1) % (v + 2) = 0)
def nxF (k v n : Int) (CL : CLs) (p : Int) : Int := npF (fun x => anyW CL 2 x k v n) (tlW CL) 30 p
def pgF (k v : Int) (CL : CLs) : Nat → Int
  | 0 => frW CL
  | n + 1 => if dryF k v n = true then nxF k v n CL (pgF k v CL n) else nxF k v n CL (pgF k v CL n) + 1
def qF (k v : Int) (CL : CLs) (n : Nat) : Int := nxF k v n CL (pgF k v CL n)
def spF (k v : Int) (CL : CLs) (n : Nat) : Bool := decide (tlW CL < qF k v CL n ∨ (k = 5 ∧ v < n))
def prF (k v : Int) : Nat → Int
  | 0 => 0
  | n + 1 => if dryF k v n = true then prF k v n else prF k v n + 1
def tkF (k v : Int) (CL : CLs) : Nat → Nat → Nat
  | 0, n => n
  | f + 1, n => if spF k v CL n = true then n else tkF k v CL f (n + 1)
theorem pgF_le (k v : Int) {CL : CLs} (h : okCL CL) (n : Nat) : 1 ≤ pgF k v CL n ∧ pgF k v CL n ≤ 100 + n := by
  induction n with
  | zero => have := frW_in h; show 1 ≤ frW CL ∧ frW CL ≤ _; omega
  | succ n ih =>
    have h1 := npF_le (fun x => anyW CL 2 x k v n) (tlW CL) 30 (pgF k v CL n)
    have h2 := npF_hi (fun x => anyW CL 2 x k v n) (tlW CL) 30 (pgF k v CL n)
    have h3 := tlW_in h
    unfold pgF nxF
    split <;> omega
theorem qF_le (k v : Int) {CL : CLs} (h : okCL CL) (n : Nat) : 1 ≤ qF k v CL n ∧ qF k v CL n ≤ 100 + n := by
  have h0 := pgF_le k v h n
  have h1 := npF_le (fun x => anyW CL 2 x k v n) (tlW CL) 30 (pgF k v CL n)
  have h2 := npF_hi (fun x => anyW CL 2 x k v n) (tlW CL) 30 (pgF k v CL n)
  have h3 := tlW_in h
  unfold qF nxF
  omega
theorem tkF_in (k v : Int) (CL : CLs) : ∀ f n : Nat, n ≤ tkF k v CL f n ∧ tkF k v CL f n ≤ n + f := by
  intro f
  induction f with
  | zero => intro n; unfold tkF; omega
  | succ f ih =>
    intro n
    unfold tkF
    split
    · omega
    · have := ih (n + 1); omega
theorem tkF_go {k v : Int} {CL : CLs} {n : Nat} (h : spF k v CL n = false) (f : Nat) : tkF k v CL (f + 1) n = tkF k v CL f (n + 1) := by
  rw [tkF, h]; rfl
theorem tkF_stop {k v : Int} {CL : CLs} {n : Nat} (h : spF k v CL n = true) (f : Nat) : tkF k v CL (f + 1) n = n := by
  rw [tkF, h]; rfl
-- sheets as numbers
def ovF (s : Int) : Int := s / 256 + 256 * (s % 256)
def wpF (s p : Int) (dn : Bool) : Int := if s % 128 = 0 then s - s % 256 + (p + (if dn = true then 128 else 0)) else s - s % 256 + 99
def lyF (k s : Int) : Int := if k = 1 ∨ k = 4 then ovF s else if k = 2 ∨ k = 5 then abt (ovF s) else s
def mn60 (p : Int) : Int := if 60 < p then 60 else p
def oF (k v : Int) (pt : Int → Int) (CL : CLs) (N : Int) (c : Int → Int) (n : Nat) : Int :=
  lyF k (if dryF k v n = true then c (if k = 4 then N - 1 - n else n) else wpF (c (if k = 4 then N - 1 - n else n)) (mn60 (qF k v CL n + (if k = 6 then pt ((n : Int) % 4) else 0))) (anyW CL 3 (qF k v CL n) k v n))
def TF (k v : Int) (CL : CLs) (N : Int) : Nat := tkF k v CL N.toNat 0
def cF (k v : Int) (pt : Int → Int) (CL : CLs) (N : Int) (c : Int → Int) (i : Int) : Int :=
  if i < N - TF k v CL N then c ((if k = 4 then 0 else (TF k v CL N : Int)) + i) else oF k v pt CL N c (N - 1 - i).toNat
def okS (s : Int) : Prop := 0 ≤ s ∧ s < 65536
theorem ovF_ok {s : Int} (h : okS s) : okS (ovF s) := by unfold okS ovF at *; omega
theorem abt_ok {s : Int} (h : okS s) : okS (abt s) := by unfold okS abt at *; omega
theorem wpF_ok {s p : Int} (dn : Bool) (h : okS s) (h0 : 0 ≤ p) (h1 : p < 128) : okS (wpF s p dn) := by
  unfold okS wpF at *
  cases dn <;> split <;> (try simp only [if_true, Bool.false_eq_true, if_false]) <;> omega
theorem lyF_ok (k : Int) {s : Int} (h : okS s) : okS (lyF k s) := by
  unfold lyF
  split
  · exact ovF_ok h
  · split
    · exact abt_ok (ovF_ok h)
    · exact h
-- sums and searches
def sm (f : Int → Int) : Nat → Int
  | 0 => 0
  | n + 1 => sm f n + f n
theorem sm_congr {f g : Int → Int} : ∀ n : Nat, (∀ i : Nat, i < n → f i = g i) → sm f n = sm g n := by
  intro n
  induction n with
  | zero => intro _; rfl
  | succ n ih => intro h; rw [sm, sm, ih (fun i hi => h i (by omega)), h n (by omega)]
theorem sm_in {f : Int → Int} {b : Int} : ∀ n : Nat, (∀ i : Nat, i < n → 0 ≤ f i ∧ f i ≤ b) → 0 ≤ sm f n ∧ sm f n ≤ b * n := by
  intro n
  induction n with
  | zero => intro _; simp [sm]
  | succ n ih =>
    intro h
    have h1 := ih (fun i hi => h i (by omega))
    have h2 := h n (by omega)
    rw [sm]
    have e : b * ((n + 1 : Nat) : Int) = b * n + b := by rw [Int.natCast_succ, Int.mul_add, Int.mul_one]
    omega
def fs (P : Int → Bool) (g : Int → Int) : Nat → Int → Int
  | 0, _ => -5
  | k + 1, i => if P i = true then g i else fs P g k (i + 1)
