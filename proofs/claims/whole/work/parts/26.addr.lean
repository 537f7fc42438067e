/-! Cells by number: trays, tapes, piles, notes at a place that is not written down. -/
theorem c5_of {t : Int} (h : 0 ≤ t ∧ t < 5) : t = 0 ∨ t = 1 ∨ t = 2 ∨ t = 3 ∨ t = 4 := by omega
theorem c6_of {t : Int} (h : 0 ≤ t ∧ t < 6) : t = 0 ∨ t = 1 ∨ t = 2 ∨ t = 3 ∨ t = 4 ∨ t = 5 := by omega
theorem sh_T {t : Int} (h : 0 ≤ t ∧ t < 5) (m : PM) (d : List (Nat × Nat)) (L : Nat) : shp (m, (none, (d, L))) (17 + 2 * t) = (0, 9) := by
  rcases c5_of h with rfl | rfl | rfl | rfl | rfl <;> exact Eq.trans rfl rfl
theorem sh_TP {t : Int} (h : 0 ≤ t ∧ t < 5) (m : PM) (d : List (Nat × Nat)) (L : Nat) : shp (m, (none, (d, L))) (18 + 2 * t) = (1, 4) := by
  rcases c5_of h with rfl | rfl | rfl | rfl | rfl <;> exact Eq.trans rfl rfl
theorem st_T {t : Int} (h : 0 ≤ t ∧ t < 5) : stat 4 t = some (17 + 2 * t) := by
  rcases c5_of h with rfl | rfl | rfl | rfl | rfl <;> decide +kernel
theorem st_TP {t : Int} (h : 0 ≤ t ∧ t < 5) : stat (17 + 2 * t) 3 = some (18 + 2 * t) := by
  rcases c5_of h with rfl | rfl | rfl | rfl | rfl <;> decide +kernel
theorem sh_U {t : Int} (h : 0 ≤ t ∧ t < 5) (m : PM) (d : List (Nat × Nat)) (L : Nat) : shp (m, (none, (d, L))) (43 + 2 * t) = (0, 9) := by
  rcases c5_of h with rfl | rfl | rfl | rfl | rfl <;> exact Eq.trans rfl rfl
theorem sh_UP {t : Int} (h : 0 ≤ t ∧ t < 5) (m : PM) (d : List (Nat × Nat)) (L : Nat) : shp (m, (none, (d, L))) (44 + 2 * t) = (1, 4) := by
  rcases c5_of h with rfl | rfl | rfl | rfl | rfl <;> exact Eq.trans rfl rfl
theorem st_U {t : Int} (h : 0 ≤ t ∧ t < 5) : stat 30 t = some (43 + 2 * t) := by
  rcases c5_of h with rfl | rfl | rfl | rfl | rfl <;> decide +kernel
theorem st_UP {t : Int} (h : 0 ≤ t ∧ t < 5) : stat (43 + 2 * t) 3 = some (44 + 2 * t) := by
  rcases c5_of h with rfl | rfl | rfl | rfl | rfl <;> decide +kernel
theorem sh_E {t : Int} (h : 0 ≤ t ∧ t < 6) (m : PM) (d : List (Nat × Nat)) (L : Nat) : shp (m, (none, (d, L))) (69 + 2 * t) = (0, 8) := by
  rcases c6_of h with rfl | rfl | rfl | rfl | rfl | rfl <;> exact Eq.trans rfl rfl
theorem sh_EI {t : Int} (h : 0 ≤ t ∧ t < 6) (m : PM) (d : List (Nat × Nat)) (L : Nat) : shp (m, (none, (d, L))) (70 + 2 * t) = (3, 60) := by
  rcases c6_of h with rfl | rfl | rfl | rfl | rfl | rfl <;> exact Eq.trans rfl rfl
theorem st_E {t : Int} (h : 0 ≤ t ∧ t < 6) : stat 68 t = some (69 + 2 * t) := by
  rcases c6_of h with rfl | rfl | rfl | rfl | rfl | rfl <;> decide +kernel
theorem st_EI {t : Int} (h : 0 ≤ t ∧ t < 6) : stat (69 + 2 * t) 2 = some (70 + 2 * t) := by
  rcases c6_of h with rfl | rfl | rfl | rfl | rfl | rfl <;> decide +kernel
def pilA (p : Int) : Prop := p = 2 ∨ p = 28 ∨ p = 62 ∨ p = 64
theorem sh_P {p : Int} (h : pilA p) (m : PM) (d : List (Nat × Nat)) (L : Nat) : shp (m, (none, (d, L))) p = (0, 4) := by
  rcases h with rfl | rfl | rfl | rfl <;> exact Eq.trans rfl rfl
theorem sh_PA {p : Int} (h : pilA p) (m : PM) (d : List (Nat × Nat)) (L : Nat) : shp (m, (none, (d, L))) (p + 1) = (1, 12) := by
  rcases h with rfl | rfl | rfl | rfl <;> exact Eq.trans rfl rfl
theorem st_P {p : Int} (h : pilA p) : stat p 0 = some (p + 1) := by
  rcases h with rfl | rfl | rfl | rfl <;> decide +kernel
def notA (q : Int) : Prop := q = 5 ∨ q = 9 ∨ q = 13 ∨ q = 31 ∨ q = 35 ∨ q = 39
def notN (q : Int) : Nat := if q = 5 ∨ q = 31 then 5 else if q = 9 ∨ q = 35 then 6 else 8
theorem sh_N {q : Int} (h : notA q) (m : PM) (d : List (Nat × Nat)) (L : Nat) : shp (m, (none, (d, L))) q = (0, 3) := by
  rcases h with rfl | rfl | rfl | rfl | rfl | rfl <;> exact Eq.trans rfl rfl
theorem sh_N1 {q : Int} (h : notA q) (m : PM) (d : List (Nat × Nat)) (L : Nat) : shp (m, (none, (d, L))) (q + 1) = (1, notN q) := by
  rcases h with rfl | rfl | rfl | rfl | rfl | rfl <;> exact Eq.trans rfl rfl
theorem sh_N2 {q : Int} (h : notA q) (m : PM) (d : List (Nat × Nat)) (L : Nat) : shp (m, (none, (d, L))) (q + 2) = (1, notN q) := by
  rcases h with rfl | rfl | rfl | rfl | rfl | rfl <;> exact Eq.trans rfl rfl
theorem sh_N3 {q : Int} (h : notA q) (m : PM) (d : List (Nat × Nat)) (L : Nat) : shp (m, (none, (d, L))) (q + 3) = (1, notN q) := by
  rcases h with rfl | rfl | rfl | rfl | rfl | rfl <;> exact Eq.trans rfl rfl
theorem st_N1 {q : Int} (h : notA q) : stat q 0 = some (q + 1) := by
  rcases h with rfl | rfl | rfl | rfl | rfl | rfl <;> decide +kernel
theorem st_N2 {q : Int} (h : notA q) : stat q 1 = some (q + 2) := by
  rcases h with rfl | rfl | rfl | rfl | rfl | rfl <;> decide +kernel
theorem st_N3 {q : Int} (h : notA q) : stat q 2 = some (q + 3) := by
  rcases h with rfl | rfl | rfl | rfl | rfl | rfl <;> decide +kernel
/-- counting up, a place at a time -/
theorem up_ind {P : Int → Prop} {a b : Int} (hab : a ≤ b) (he : P b) (hs : ∀ k, a ≤ k → k < b → P (k + 1) → P k) : P a := by
  have key : ∀ n : Nat, ∀ k : Int, a ≤ k → k ≤ b → (b - k).toNat = n → P k := by
    intro n
    induction n with
    | zero =>
      intro k h1 h2 h3
      have : k = b := by omega
      rw [this]; exact he
    | succ n ih =>
      intro k h1 h2 h3
      exact hs k h1 (by omega) (ih (k + 1) (by omega) (by omega) (by omega))
  exact key _ a (Int.le_refl a) hab rfl
theorem dn_ind {P : Int → Prop} {a b : Int} (hab : a ≤ b) (he : P a) (hs : ∀ k, a < k → k ≤ b → P (k - 1) → P k) : P b := by
  have key : ∀ n : Nat, ∀ k : Int, a ≤ k → k ≤ b → (k - a).toNat = n → P k := by
    intro n
    induction n with
    | zero =>
      intro k h1 h2 h3
      have : k = a := by omega
      rw [this]; exact he
    | succ n ih =>
      intro k h1 h2 h3
      exact hs k (by omega) h2 (ih (k - 1) (by omega) (by omega) (by omega))
  exact key _ b hab (Int.le_refl b) rfl
theorem lp_up {F : Int → PM → Prop} {E : Int → PM → Prop} {a b : Int} (he : ∀ m, E b m → F b m) (hs : ∀ k m, a ≤ k → k < b → E k m → (∀ m', E (k + 1) m' → F (k + 1) m') → F k m) : ∀ k m, a ≤ k → k ≤ b → E k m → F k m := by
  intro k m h1 h2
  revert m
  exact up_ind (P := fun k => ∀ m, E k m → F k m) h2 he (fun j h3 h4 ih m hm => hs j m (by omega) h4 hm ih)
theorem lp_dn {F : Int → PM → Prop} {E : Int → PM → Prop} {a b : Int} (he : ∀ m, E a m → F a m) (hs : ∀ k m, a < k → k ≤ b → E k m → (∀ m', E (k - 1) m' → F (k - 1) m') → F k m) : ∀ k m, a ≤ k → k ≤ b → E k m → F k m := by
  intro k m h1 h2
  revert m
  exact dn_ind (P := fun k => ∀ m, E k m → F k m) h1 he (fun j h3 h4 ih m hm => hs j m h3 (by omega) hm ih)
/-- other names, so that an exchange is no permutation to simp -/
def udB (f : Int → Int) (k z : Int) : Int → Int := ud f k z
theorem uB_s (f : Int → Int) (k z : Int) : udB f k z = ud f k z := rfl
def setB (m : PM) (a : Int) (f : Int → Int) : PM := setA m a f
theorem sB_s (m : PM) (a : Int) (f : Int → Int) : setB m a f = setA m a f := rfl
theorem ud_sr {a b : Int} (h : b < a) (f : Int → Int) (x y : Int) : ud (ud f a x) b y = udB (udB f b y) a x := ud_comm (by omega) f x y
theorem sA_sr {a b : Int} (h : b < a) (m : PM) (f g : Int → Int) : setA (setA m a f) b g = setB (setB m b g) a f := sA_comm (by omega) m f g
def bl (f : Int → Int) : Prop := ∀ k, f k = 0 ∨ f k = 1
def pgs (f : Int → Int) : Prop := ∀ k, 0 ≤ f k ∧ f k < 128
theorem bl_ud {f : Int → Int} (h : bl f) {z : Int} (hz : z = 0 ∨ z = 1) (k : Int) : bl (ud f k z) := by
  intro j; unfold ud; split
  · exact hz
  · exact h j
theorem pgs_ud {f : Int → Int} (h : pgs f) {z : Int} (hz : 0 ≤ z ∧ z < 128) (k : Int) : pgs (ud f k z) := by
  intro j; unfold ud; split
  · exact hz
  · exact h j
