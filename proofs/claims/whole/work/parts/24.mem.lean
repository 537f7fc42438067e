/-! Memory as functions; small steps of simp. -/
theorem V_of {d μ : Nat} {c : Cf} {r : Option PV} {σ' : PS} (h : ∀ Q : Option PV → PS → Prop, Q r σ' → V d μ c Q) (Q : Option PV → PS → Prop) : V d μ c Q = Q r σ' := by
  apply propext
  constructor
  · intro hq
    obtain ⟨N, r1, s1, e1, q1⟩ := hq
    obtain ⟨N2, r2, s2, e2, q2, q3⟩ := h (fun x y => x = r ∧ y = σ') ⟨rfl, rfl⟩
    have a1 := run_mono (exM_mono d N (N + N2) (by omega)) μ N (N + N2) _ _ (by omega) e1
    have a2 := run_mono (exM_mono d N2 (N + N2) (by omega)) μ N2 (N + N2) _ _ (by omega) e2
    rw [a1] at a2
    cases a2
    subst q2
    subst q3
    exact q1
  · exact h Q
theorem SP_gt {c : Prop} [Decidable c] (h : c) (x : Option PO) (K : Cf → Prop) (R : Option PV → Prop) (G : Nat → List PV → Cf → Prop) : SP (gd c x) K R G = SP x K R G := by
  rw [gd, if_pos h]
theorem SP_it {c : Prop} [Decidable c] (h : c) (x y : Option PO) (K : Cf → Prop) (R : Option PV → Prop) (G : Nat → List PV → Cf → Prop) : SP (if c then x else y) K R G = SP x K R G := by
  rw [if_pos h]
theorem SP_ie {c : Prop} [Decidable c] (h : ¬ c) (x y : Option PO) (K : Cf → Prop) (R : Option PV → Prop) (G : Nat → List PV → Cf → Prop) : SP (if c then x else y) K R G = SP y K R G := by
  rw [if_neg h]
theorem SP_if2 (c : Prop) [Decidable c] (x y : Option PO) (K : Cf → Prop) (R : Option PV → Prop) (G : Nat → List PV → Cf → Prop) : SP (if c then x else y) K R G = if c then SP x K R G else SP y K R G := by
  by_cases h : c
  · rw [if_pos h, if_pos h]
  · rw [if_neg h, if_neg h]
theorem ifT {c : Prop} [Decidable c] (h : c) (A B : Prop) : (if c then A else B) = A := if_pos h
theorem ifF {c : Prop} [Decidable c] (h : ¬ c) (A B : Prop) : (if c then A else B) = B := if_neg h
theorem bo_0 (c : Prop) [Decidable c] : ((if c then (1 : Int) else 0) = 0) = ¬ c := by by_cases h : c <;> simp [h]
theorem bo_1 (c : Prop) [Decidable c] : ((if c then (1 : Int) else 0) = 1) = c := by by_cases h : c <;> simp [h]
theorem bo_2 (c : Prop) [Decidable c] : ((if c then (0 : Int) else 1) = 0) = c := by by_cases h : c <;> simp [h]
theorem bo_3 (c : Prop) [Decidable c] : ((if c then (0 : Int) else 1) = 1) = ¬ c := by by_cases h : c <;> simp [h]
theorem not_n (c : Prop) : (¬ ¬ c) = c := by by_cases h : c <;> simp [h]
theorem ifn_n {α : Type} (c : Prop) [Decidable c] (x y : α) : (if ¬ c then x else y) = if c then y else x := by by_cases h : c <;> simp [h]
def ud (f : Int → Int) (k z : Int) : Int → Int := fun j => if j = k then z else f j
theorem ud_eq (f : Int → Int) (k z : Int) : ud f k z k = z := if_pos rfl
theorem ud_ne {j k : Int} (h : j ≠ k) (f : Int → Int) (z : Int) : ud f k z j = f j := if_neg h
theorem ud_s (f : Int → Int) (k z j : Int) : ud f k z j = if j = k then z else f j := Eq.trans rfl rfl
theorem ud_ud (f : Int → Int) (k z w : Int) : ud (ud f k z) k w = ud f k w := by
  funext j; unfold ud; by_cases h : j = k <;> simp [h]
theorem ud_id (f : Int → Int) (k : Int) : ud f k (f k) = f := by
  funext j; unfold ud; by_cases h : j = k <;> simp [h]
theorem ud_comm {a b : Int} (h : a ≠ b) (f : Int → Int) (x y : Int) : ud (ud f a x) b y = ud (ud f b y) a x := by
  funext j; unfold ud; by_cases h1 : j = a <;> by_cases h2 : j = b <;> simp [h1, h2] <;> omega
theorem up_ud (m : PM) (a k z : Int) : up m a k z = setA m a (ud (m a) k z) := by
  funext a' k'; unfold up setA ud; by_cases h : a' = a <;> simp [h]
theorem sA_same (m : PM) (a : Int) (f : Int → Int) : setA m a f a = f := by funext k; unfold setA; simp
theorem sA_ne {a b : Int} (h : b ≠ a) (m : PM) (f : Int → Int) : setA m a f b = m b := by funext k; unfold setA; simp [h]
theorem sA_s (m : PM) (a : Int) (f : Int → Int) (b : Int) : setA m a f b = if b = a then f else m b := by
  by_cases h : b = a
  · rw [if_pos h, h, sA_same]
  · rw [if_neg h, sA_ne h]
theorem sA_sA (m : PM) (a : Int) (f g : Int → Int) : setA (setA m a f) a g = setA m a g := by
  funext b; rw [sA_s, sA_s]; by_cases h : b = a <;> simp [h, sA_s]
theorem sA_id (m : PM) (a : Int) : setA m a (m a) = m := by
  funext b; rw [sA_s]; by_cases h : b = a <;> simp [h]
theorem sA_comm {a b : Int} (h : a ≠ b) (m : PM) (f g : Int → Int) : setA (setA m a f) b g = setA (setA m b g) a f := by
  funext c
  simp only [sA_s]
  by_cases h1 : c = a
  · subst h1; rw [if_neg h, if_pos rfl, if_pos rfl]
  · rw [if_neg h1, if_neg h1]
theorem sA_srt {a b : Int} (h : b < a) (m : PM) (f g : Int → Int) : setA (setA m a f) b g = setA (setA m b g) a f := sA_comm (by omega) m f g
theorem cpy_sA (m : PM) (a sp b dp n : Int) : cpy m a sp b dp n = setA m b (fun j => if dp ≤ j ∧ j < dp + n then m a (sp + (j - dp)) else m b j) := by
  funext c k; unfold cpy setA; by_cases h : c = b <;> simp [h]
theorem clr_sA (m : PM) (a : Int) : clr m a = setA m a (fun _ => 0) := by
  funext c k; unfold clr setA; rfl
/-- from lo up to hi as h, else as b -/
def ivl (h b : Int → Int) (lo hi : Int) : Int → Int := fun j => if lo ≤ j ∧ j < hi then h j else b j
theorem ivl_0 {lo hi : Int} (hl : hi ≤ lo) (h b : Int → Int) : ivl h b lo hi = b := by
  funext j; exact if_neg (by omega)
theorem ivl_in {lo hi j : Int} (h1 : lo ≤ j) (h2 : j < hi) (h b : Int → Int) : ivl h b lo hi j = h j := if_pos ⟨h1, h2⟩
theorem ivl_lo {lo hi j : Int} (h1 : j < lo) (h b : Int → Int) : ivl h b lo hi j = b j := if_neg (by omega)
theorem ivl_hi {lo hi j : Int} (h1 : hi ≤ j) (h b : Int → Int) : ivl h b lo hi j = b j := if_neg (by omega)
theorem ivl_up {lo hi : Int} (hl : lo ≤ hi) (h b : Int → Int) (z : Int) (hz : z = h hi) : ud (ivl h b lo hi) hi z = ivl h b lo (hi + 1) := by
  funext j; unfold ud ivl
  by_cases h1 : j = hi
  · rw [if_pos h1, if_pos (by omega), hz, h1]
  · rw [if_neg h1]
    by_cases h2 : lo ≤ j ∧ j < hi
    · rw [if_pos h2, if_pos (by omega)]
    · rw [if_neg h2, if_neg (by omega)]
theorem ivl_dn {lo hi k : Int} (hl : k + 1 = lo) (hh : lo ≤ hi) (h b : Int → Int) (z : Int) (hz : z = h k) : ud (ivl h b lo hi) k z = ivl h b k hi := by
  funext j; unfold ud ivl
  by_cases h1 : j = k
  · rw [if_pos h1, if_pos (by omega), hz, h1]
  · rw [if_neg h1]
    by_cases h2 : lo ≤ j ∧ j < hi
    · rw [if_pos h2, if_pos (by omega)]
    · rw [if_neg h2, if_neg (by omega)]
theorem C_if {c : Prop} [Decidable c] {d μ : Nat} {a : List PV} {σ : PS} {r1 r2 : Option PV} {s1 s2 : PS} (h1 : c → ∀ Q : Option PV → PS → Prop, Q r1 s1 → C d μ a σ Q) (h2 : ¬ c → ∀ Q : Option PV → PS → Prop, Q r2 s2 → C d μ a σ Q) (Q : Option PV → PS → Prop) : C d μ a σ Q = if c then Q r1 s1 else Q r2 s2 := by
  by_cases h : c
  · rw [C_of (h1 h) Q]; simp [h]
  · rw [C_of (h2 h) Q]; simp [h]
theorem bo_m (c : Prop) [Decidable c] : (if c then (1 : Int) else 0) % 2 = if c then 1 else 0 := by by_cases h : c <;> simp [h]
theorem md2 {x : Int} (h : 0 ≤ x) (h1 : x < 2) : x % 2 = x := by omega
