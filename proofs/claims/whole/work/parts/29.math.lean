/-! What is read and what it means, apart from any machine: the text, steps, their values. -/
def nxt (T : Int → Int) (n a : Int) : Int := if a < n then T a else -1
def plc (c : Int) : Int := if c = 112 then 0 else if c = 111 then 1 else if c = 116 then 2 else if c = 107 then 3 else if c = 118 then 4 else if c = 110 then 5 else -1
def isD (c : Int) : Bool := decide (48 ≤ c ∧ c ≤ 57)
/-- a number of one or two digits (-1: none), and the place behind it -/
def nmv (T : Int → Int) (n a : Int) : Int × Int :=
  if isD (nxt T n a) = true then (if isD (nxt T n (a + 1)) = true then (10 * (nxt T n a - 48) + (nxt T n (a + 1) - 48), a + 2) else (nxt T n a - 48, a + 1)) else (-1, a)
abbrev RR : Type := Bool × (Int × List Int)
def tst (T : Int → Int) (n a : Int) : RR :=
  if plc (nxt T n a) < 0 then (false, (a, []))
  else if ¬ (60 ≤ nxt T n (a + 1) ∧ nxt T n (a + 1) ≤ 62) then (false, (a + 1, []))
  else if (nmv T n (a + 2)).1 < 0 then (false, (a + 2, []))
  else (true, ((nmv T n (a + 2)).2, [(plc (nxt T n a) * 3 + (nxt T n (a + 1) - 60)) * 100 + (nmv T n (a + 2)).1]))
def lp (f : Int → RR) (T : Int → Int) (n sep op : Int) : Nat → RR → RR
  | 0, r => r
  | k + 1, r => if r.1 = true ∧ nxt T n r.2.1 = sep then (if (f (r.2.1 + 1)).1 = true then lp f T n sep op k (true, ((f (r.2.1 + 1)).2.1, r.2.2 ++ (f (r.2.1 + 1)).2.2 ++ [op])) else (false, ((f (r.2.1 + 1)).2.1, r.2.2 ++ (f (r.2.1 + 1)).2.2))) else r
def allF (f : Int → RR) (T : Int → Int) (n a : Int) : RR := lp f T n 38 (-2) 200 (f a)
def anyF (f : Int → RR) (T : Int → Int) (n a : Int) : RR := lp (allF f T n) T n 124 (-3) 200 (allF f T n a)
def oneF (T : Int → Int) (n : Int) : Nat → Int → RR
  | 0, a => if nxt T n a = 33 ∨ nxt T n a = 40 then (false, (a, [])) else tst T n a
  | k + 1, a =>
    if nxt T n a = 33 then (if (oneF T n k (a + 1)).1 = true then (true, ((oneF T n k (a + 1)).2.1, (oneF T n k (a + 1)).2.2 ++ [-1])) else oneF T n k (a + 1))
    else if nxt T n a = 40 then (if (anyF (oneF T n k) T n (a + 1)).1 = true ∧ nxt T n (anyF (oneF T n k) T n (a + 1)).2.1 = 41 then (true, ((anyF (oneF T n k) T n (a + 1)).2.1 + 1, (anyF (oneF T n k) T n (a + 1)).2.2)) else (false, ((anyF (oneF T n k) T n (a + 1)).2.1, (anyF (oneF T n k) T n (a + 1)).2.2)))
    else tst T n a
theorem nxt_in {T : Int → Int} {n a c : Int} (h : nxt T n a = c) (hc : 0 ≤ c) : a < n := by
  unfold nxt at h
  by_cases h1 : a < n
  · exact h1
  · rw [if_neg h1] at h; omega
theorem plc_in {c : Int} (h : 0 ≤ plc c) : 0 ≤ c ∧ plc c ≤ 5 := by
  unfold plc at h ⊢
  (repeat' split at h) <;> first | omega | (simp_all; done) | (subst_vars; decide)
theorem isD_in {c : Int} : (isD c = true) = (48 ≤ c ∧ c ≤ 57) := by simp [isD]
theorem nmv_in (T : Int → Int) {n a : Int} (ha : a ≤ n) : ((nmv T n a).1 = -1 ∧ (nmv T n a).2 = a) ∨ (0 ≤ (nmv T n a).1 ∧ (nmv T n a).1 ≤ 99 ∧ a < (nmv T n a).2 ∧ (nmv T n a).2 ≤ n) := by
  unfold nmv
  simp only [isD_in]
  by_cases h1 : 48 ≤ nxt T n a ∧ nxt T n a ≤ 57
  · rw [if_pos h1]
    have q1 := nxt_in (T := T) (n := n) (a := a) rfl (by omega)
    by_cases h2 : 48 ≤ nxt T n (a + 1) ∧ nxt T n (a + 1) ≤ 57
    · rw [if_pos h2]
      have q2 := nxt_in (T := T) (n := n) (a := a + 1) rfl (by omega)
      right; dsimp only; omega
    · rw [if_neg h2]
      right; dsimp only; omega
  · rw [if_neg h1]
    left; exact ⟨rfl, rfl⟩
theorem nmv0 (T : Int → Int) (n a : Int) (h : ¬ (48 ≤ nxt T n a ∧ nxt T n a ≤ 57)) : nmv T n a = (-1, a) := by
  unfold nmv; rw [if_neg (by rw [isD_in]; exact h)]
theorem nmv1 (T : Int → Int) (n a : Int) (h : 48 ≤ nxt T n a ∧ nxt T n a ≤ 57) (h2 : ¬ (48 ≤ nxt T n (a + 1) ∧ nxt T n (a + 1) ≤ 57)) : nmv T n a = (nxt T n a - 48, a + 1) := by
  unfold nmv; rw [if_pos (by rw [isD_in]; exact h), if_neg (by rw [isD_in]; exact h2)]
theorem nmv2 (T : Int → Int) (n a : Int) (h : 48 ≤ nxt T n a ∧ nxt T n a ≤ 57) (h2 : 48 ≤ nxt T n (a + 1) ∧ nxt T n (a + 1) ≤ 57) : nmv T n a = (10 * (nxt T n a - 48) + nxt T n (a + 1) - 48, a + 1 + 1) := by
  unfold nmv; rw [if_pos (by rw [isD_in]; exact h), if_pos (by rw [isD_in]; exact h2), Int.add_sub_assoc, Int.add_assoc a 1 1]; rfl
/-- what a reader keeps: places in order, no more steps than bytes -/
def okR (n a : Int) (r : RR) : Prop := a ≤ r.2.1 ∧ r.2.1 ≤ n ∧ (r.2.2.length : Int) ≤ r.2.1 - a ∧ (r.1 = true → a < r.2.1)
theorem tst_ok (T : Int → Int) {n a : Int} (ha : a ≤ n) : okR n a (tst T n a) := by
  unfold tst
  by_cases h1 : plc (nxt T n a) < 0
  · rw [if_pos h1]; refine ⟨?_, ?_, ?_, ?_⟩ <;> simp <;> omega
  · rw [if_neg h1]
    have q1 := nxt_in (T := T) (n := n) (a := a) rfl (plc_in (by omega)).1
    by_cases h2 : ¬ (60 ≤ nxt T n (a + 1) ∧ nxt T n (a + 1) ≤ 62)
    · rw [if_pos h2]; refine ⟨?_, ?_, ?_, ?_⟩ <;> simp <;> omega
    · rw [if_neg h2]
      have q2 := nxt_in (T := T) (n := n) (a := a + 1) rfl (by omega)
      have q3 := nmv_in T (n := n) (a := a + 2) (by omega)
      by_cases h3 : (nmv T n (a + 2)).1 < 0
      · rw [if_pos h3]; refine ⟨?_, ?_, ?_, ?_⟩ <;> simp <;> omega
      · rw [if_neg h3]; refine ⟨?_, ?_, ?_, ?_⟩ <;> simp <;> omega
theorem lp_ok {f : Int → RR} {T : Int → Int} {n sep op a0 : Int} (hs : 0 ≤ sep) (hf : ∀ a, a0 ≤ a → a ≤ n → okR n a (f a)) : ∀ (k : Nat) (r : RR), okR n a0 r → okR n a0 (lp f T n sep op k r) := by
  intro k
  induction k with
  | zero => intro r h; exact h
  | succ k ih =>
    intro r h
    unfold lp
    by_cases h1 : r.1 = true ∧ nxt T n r.2.1 = sep
    · rw [if_pos h1]
      obtain ⟨b1, b2, b3, b4⟩ := h
      have q := nxt_in h1.2 hs
      obtain ⟨c1, c2, c3, c4⟩ := hf (r.2.1 + 1) (by omega) (by omega)
      by_cases h2 : (f (r.2.1 + 1)).1 = true
      · rw [if_pos h2]
        refine ih _ ⟨?_, ?_, ?_, ?_⟩ <;> simp only [List.length_append, List.length_cons, List.length_nil] <;> omega
      · rw [if_neg h2]
        refine ⟨?_, ?_, ?_, ?_⟩ <;> simp only [List.length_append] <;> first | omega | (intro hx; cases hx)
    · rw [if_neg h1]; exact h
theorem allF_ok {f : Int → RR} {T : Int → Int} {n a : Int} (hf : ∀ b, a ≤ b → b ≤ n → okR n b (f b)) (ha : a ≤ n) : okR n a (allF f T n a) :=
  lp_ok (by omega) hf _ _ (hf a (Int.le_refl a) ha)
theorem anyF_ok {f : Int → RR} {T : Int → Int} {n a : Int} (hf : ∀ b, a ≤ b → b ≤ n → okR n b (f b)) (ha : a ≤ n) : okR n a (anyF f T n a) :=
  lp_ok (by omega) (fun b h1 h2 => allF_ok (fun c h3 h4 => hf c (by omega) h4) h2) _ _ (allF_ok hf ha)
theorem oneF_ok (T : Int → Int) (n : Int) : ∀ (k : Nat) (a : Int), a ≤ n → okR n a (oneF T n k a) := by
  intro k
  induction k with
  | zero =>
    intro a ha
    unfold oneF
    by_cases h1 : nxt T n a = 33 ∨ nxt T n a = 40
    · rw [if_pos h1]; refine ⟨?_, ?_, ?_, ?_⟩ <;> simp <;> omega
    · rw [if_neg h1]; exact tst_ok T ha
  | succ k ih =>
    intro a ha
    unfold oneF
    by_cases h1 : nxt T n a = 33
    · rw [if_pos h1]
      have q := nxt_in h1 (by omega)
      obtain ⟨c1, c2, c3, c4⟩ := ih (a + 1) (by omega)
      by_cases h2 : (oneF T n k (a + 1)).1 = true
      · rw [if_pos h2]; refine ⟨?_, ?_, ?_, ?_⟩ <;> simp only [List.length_append, List.length_cons, List.length_nil] <;> omega
      · rw [if_neg h2]; refine ⟨?_, ?_, ?_, ?_⟩ <;> first | omega | (intro hx; exact absurd hx h2)
    · rw [if_neg h1]
      by_cases h3 : nxt T n a = 40
      · rw [if_pos h3]
        have q := nxt_in h3 (by omega)
        obtain ⟨c1, c2, c3, c4⟩ := anyF_ok (T := T) (n := n) (a := a + 1) (f := oneF T n k) (fun b _ hb => ih b hb) (by omega)
        by_cases h4 : (anyF (oneF T n k) T n (a + 1)).1 = true ∧ nxt T n (anyF (oneF T n k) T n (a + 1)).2.1 = 41
        · rw [if_pos h4]
          have q2 := nxt_in h4.2 (by omega)
          refine ⟨?_, ?_, ?_, ?_⟩ <;> dsimp only <;> omega
        · rw [if_neg h4]; refine ⟨?_, ?_, ?_, ?_⟩ <;> dsimp only <;> first | omega | (intro hx; cases hx)
      · rw [if_neg h3]; exact tst_ok T ha
-- values of steps
def vl (x p k v n : Int) : Int := if x = 0 then p else if x = 1 then p % 2 else if x = 2 then p % 10 else if x = 3 then k else if x = 4 then v else n
def ev1 (z p k v n : Int) : Bool := if z / 100 % 3 = 0 then decide (vl (z / 300) p k v n < z % 100) else if z / 100 % 3 = 1 then decide (vl (z / 300) p k v n = z % 100) else decide (z % 100 < vl (z / 300) p k v n)
def eop (z p k v n : Int) (st : List Bool) : List Bool :=
  if z = -1 then (match st with
    | b :: r => (!b) :: r
    | r => r)
  else if z = -2 then (match st with
    | y :: x :: r => (x && y) :: r
    | r => r)
  else if z = -3 then (match st with
    | y :: x :: r => (x || y) :: r
    | r => r)
  else ev1 z p k v n :: st
def evS (p k v n : Int) : List Int → List Bool → List Bool
  | [], st => st
  | z :: S, st => evS p k v n S (eop z p k v n st)
theorem evS_app (p k v n : Int) (A B : List Int) : ∀ st, evS p k v n (A ++ B) st = evS p k v n B (evS p k v n A st) := by
  induction A with
  | nil => intro st; rfl
  | cons z A ih => intro st; exact ih _
/-- the height of the waiting answers stays within K -/
def hg (K : Nat) : List Int → Nat → Prop
  | [], _ => True
  | z :: S, h => if z = -1 then 1 ≤ h ∧ hg K S h else if z = -2 ∨ z = -3 then 2 ≤ h ∧ hg K S (h - 1) else h + 1 ≤ K ∧ 0 ≤ z ∧ z < 1800 ∧ hg K S (h + 1)
def Good (k : Nat) (S : List Int) : Prop := (∀ (h K : Nat) (U : List Int), h + k ≤ K → hg K U (h + 1) → hg K (S ++ U) h) ∧ ∀ p q v n : Int, ∃ b : Bool, ∀ st, evS p q v n S st = b :: st
theorem Good_mono {k k' : Nat} {S : List Int} (hk : k ≤ k') (h : Good k S) : Good k' S := ⟨fun a K U h1 h2 => h.1 a K U (by omega) h2, h.2⟩
theorem Good_one {z : Int} (h0 : 0 ≤ z) (h1 : z < 1800) : Good 1 [z] := by
  refine ⟨fun h K U hK hU => ?_, fun p q v n => ⟨ev1 z p q v n, fun st => ?_⟩⟩
  · show hg K (z :: U) h
    unfold hg
    rw [if_neg (by omega), if_neg (by omega)]
    exact ⟨by omega, h0, h1, hU⟩
  · show eop z p q v n st = _
    unfold eop
    rw [if_neg (by omega), if_neg (by omega), if_neg (by omega)]
theorem Good_not {k : Nat} {S : List Int} (h : Good k S) : Good k (S ++ [-1]) := by
  refine ⟨fun a K U hK hU => ?_, fun p q v n => ?_⟩
  · rw [List.append_assoc]
    refine h.1 a K _ hK ?_
    show hg K (-1 :: U) (a + 1)
    unfold hg
    rw [if_pos rfl]
    exact ⟨by omega, hU⟩
  · obtain ⟨b, hb⟩ := h.2 p q v n
    refine ⟨!b, fun st => ?_⟩
    rw [evS_app, hb]
    rfl
theorem Good_op {k j : Nat} {A B : List Int} {z : Int} (hz : z = -2 ∨ z = -3) (hA : Good k A) (hB : Good j B) (hj : j + 1 ≤ k) : Good k (A ++ B ++ [z]) := by
  refine ⟨fun a K U hK hU => ?_, fun p q v n => ?_⟩
  · rw [List.append_assoc, List.append_assoc]
    refine hA.1 a K _ hK (hB.1 (a + 1) K _ (by omega) ?_)
    show hg K (z :: U) (a + 1 + 1)
    unfold hg
    rw [if_neg (by omega), if_pos hz]
    exact ⟨by omega, hU⟩
  · obtain ⟨x, hx⟩ := hA.2 p q v n
    obtain ⟨y, hy⟩ := hB.2 p q v n
    refine ⟨if z = -2 then (x && y) else (x || y), fun st => ?_⟩
    rw [evS_app, evS_app, hx, hy]
    rcases hz with rfl | rfl <;> rfl
theorem tst_good (T : Int → Int) {n a : Int} (h : (tst T n a).1 = true) (ha : a ≤ n) : Good 1 (tst T n a).2.2 := by
  unfold tst at h ⊢
  by_cases h1 : plc (nxt T n a) < 0
  · rw [if_pos h1] at h; cases h
  · rw [if_neg h1] at h ⊢
    have q1 := nxt_in (T := T) (n := n) (a := a) rfl (plc_in (by omega)).1
    have q0 := plc_in (c := nxt T n a) (by omega)
    by_cases h2 : ¬ (60 ≤ nxt T n (a + 1) ∧ nxt T n (a + 1) ≤ 62)
    · rw [if_pos h2] at h; cases h
    · rw [if_neg h2] at h ⊢
      have q2 := nxt_in (T := T) (n := n) (a := a + 1) rfl (by omega)
      have q3 := nmv_in T (n := n) (a := a + 2) (by omega)
      by_cases h3 : (nmv T n (a + 2)).1 < 0
      · rw [if_pos h3] at h; cases h
      · rw [if_neg h3]
        exact Good_one (by omega) (by omega)
theorem lp_good {f : Int → RR} {T : Int → Int} {n sep op : Int} {g j : Nat} (hs : 0 ≤ sep) (ho : op = -2 ∨ op = -3) (hg : j + 1 ≤ g) (hf : ∀ a, a ≤ n → okR n a (f a) ∧ ((f a).1 = true → Good j (f a).2.2)) : ∀ (k : Nat) (r : RR), r.2.1 ≤ n → (r.1 = true → Good g r.2.2) → (lp f T n sep op k r).1 = true → Good g (lp f T n sep op k r).2.2 := by
  intro k
  induction k with
  | zero => intro r _ h1 h; exact h1 h
  | succ k ih =>
    intro r hr h1 h
    unfold lp at h ⊢
    by_cases h2 : r.1 = true ∧ nxt T n r.2.1 = sep
    · rw [if_pos h2] at h ⊢
      have q := nxt_in h2.2 hs
      obtain ⟨⟨c1, c2, c3, c4⟩, c5⟩ := hf (r.2.1 + 1) (by omega)
      by_cases h3 : (f (r.2.1 + 1)).1 = true
      · rw [if_pos h3] at h ⊢
        exact ih _ c2 (fun _ => Good_op ho (h1 h2.1) (c5 h3) hg) h
      · rw [if_neg h3] at h; cases h
    · rw [if_neg h2] at h ⊢; exact h1 h
theorem allF_good {f : Int → RR} {T : Int → Int} {n : Int} {j : Nat} (hf : ∀ a, a ≤ n → okR n a (f a) ∧ ((f a).1 = true → Good j (f a).2.2)) (a : Int) (ha : a ≤ n) (h : (allF f T n a).1 = true) : Good (j + 1) (allF f T n a).2.2 :=
  lp_good (by omega) (Or.inl rfl) (Nat.le_refl _) hf _ _ (hf a ha).1.2.1 (fun h => Good_mono (by omega) ((hf a ha).2 h)) h
theorem anyF_good {f : Int → RR} {T : Int → Int} {n : Int} {j : Nat} (hf : ∀ a, a ≤ n → okR n a (f a) ∧ ((f a).1 = true → Good j (f a).2.2)) (a : Int) (ha : a ≤ n) (h : (anyF f T n a).1 = true) : Good (j + 2) (anyF f T n a).2.2 :=
  lp_good (j := j + 1) (by omega) (Or.inr rfl) (Nat.le_refl _) (fun b hb => ⟨allF_ok (fun c _ h2 => (hf c h2).1) hb, allF_good hf b hb⟩) _ _ (allF_ok (fun c _ h2 => (hf c h2).1) ha).2.1 (fun h => Good_mono (by omega) (allF_good hf a ha h)) h
theorem oneF_good (T : Int → Int) (n : Int) : ∀ (k : Nat) (a : Int), a ≤ n → (oneF T n k a).1 = true → Good (2 * k + 1) (oneF T n k a).2.2 := by
  intro k
  induction k with
  | zero =>
    intro a ha h
    unfold oneF at h ⊢
    by_cases h1 : nxt T n a = 33 ∨ nxt T n a = 40
    · rw [if_pos h1] at h; cases h
    · rw [if_neg h1] at h ⊢; exact tst_good T h ha
  | succ k ih =>
    intro a ha h
    unfold oneF at h ⊢
    by_cases h1 : nxt T n a = 33
    · rw [if_pos h1] at h ⊢
      have q := nxt_in h1 (by omega)
      by_cases h2 : (oneF T n k (a + 1)).1 = true
      · rw [if_pos h2]; exact Good_mono (by omega) (Good_not (ih _ (by omega) h2))
      · rw [if_neg h2] at h; exact absurd h h2
    · rw [if_neg h1] at h ⊢
      by_cases h3 : nxt T n a = 40
      · rw [if_pos h3] at h ⊢
        have q := nxt_in h3 (by omega)
        by_cases h4 : (anyF (oneF T n k) T n (a + 1)).1 = true ∧ nxt T n (anyF (oneF T n k) T n (a + 1)).2.1 = 41
        · rw [if_pos h4]
          exact Good_mono (by omega) (anyF_good (j := 2 * k + 1) (fun b hb => ⟨oneF_ok T n k b hb, ih b hb⟩) (a + 1) (by omega) h4.1)
        · rw [if_neg h4] at h; cases h
      · rw [if_neg h3] at h ⊢; exact Good_mono (by omega) (tst_good T h ha)
