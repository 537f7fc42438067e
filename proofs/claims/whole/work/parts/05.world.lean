/-! NUMBERS of the pure machine against the machine's, and the world that holds a pure state. -/
def in32 (z : Int) : Prop := -2147483648 ≤ z ∧ z < 2147483648
def in64 (z : Int) : Prop := -9223372036854775808 ≤ z ∧ z < 9223372036854775808
theorem wr32_in (z : Int) : in32 (wr32 z) := by unfold in32 wr32; omega
theorem wr64_in (z : Int) : in64 (wr64 z) := by unfold in64 wr64; omega
theorem wr32_id {z : Int} (h1 : -2147483648 ≤ z) (h2 : z < 2147483648) : wr32 z = z := by unfold wr32; omega
theorem wr64_id {z : Int} (h1 : -9223372036854775808 ≤ z) (h2 : z < 9223372036854775808) : wr64 z = z := by unfold wr64; omega
theorem oT {z : Int} (h : in32 z) : (Int32.ofInt z).toInt = z := Int32.toInt_ofInt_of_le (by have := h.1; omega) (by have := h.2; omega)
theorem oL {z : Int} (h : in64 z) : (Int64.ofInt z).toInt = z := Int64.toInt_ofInt_of_le (by have := h.1; omega) (by have := h.2; omega)
theorem o_wr (z : Int) : Int32.ofInt (wr32 z) = Int32.ofInt z := by
  apply Int32.toInt_inj.mp
  rw [Int32.toInt_ofInt, Int32.toInt_ofInt]
  show (wr32 z).bmod 4294967296 = z.bmod 4294967296
  unfold wr32
  rw [Int.bmod_def, Int.bmod_def]
  omega
theorem l_wr (z : Int) : Int64.ofInt (wr64 z) = Int64.ofInt z := by
  apply Int64.toInt_inj.mp
  rw [Int64.toInt_ofInt, Int64.toInt_ofInt]
  show (wr64 z).bmod 18446744073709551616 = z.bmod 18446744073709551616
  unfold wr64
  rw [Int.bmod_def, Int.bmod_def]
  omega
theorem t32_in (x : Int32) : in32 x.toInt := ⟨x.le_toInt, x.toInt_lt⟩
theorem t64_in (x : Int64) : in64 x.toInt := ⟨x.le_toInt, x.toInt_lt⟩
theorem o_and (x y : Int) : Int32.ofInt (iAnd x y) = Int32.ofInt x &&& Int32.ofInt y := Int32.ofInt_toInt _
theorem o_or (x y : Int) : Int32.ofInt (iOr x y) = Int32.ofInt x ||| Int32.ofInt y := Int32.ofInt_toInt _
theorem o_xor (x y : Int) : Int32.ofInt (iXor x y) = Int32.ofInt x ^^^ Int32.ofInt y := Int32.ofInt_toInt _
theorem ol_and (x y : Int) : Int64.ofInt (lAnd x y) = Int64.ofInt x &&& Int64.ofInt y := Int64.ofInt_toInt _
theorem ol_or (x y : Int) : Int64.ofInt (lOr x y) = Int64.ofInt x ||| Int64.ofInt y := Int64.ofInt_toInt _
theorem o_eq {x y : Int} (hx : in32 x) (hy : in32 y) : Int32.ofInt x = Int32.ofInt y ↔ x = y := by
  rw [← Int32.toInt_inj, oT hx, oT hy]
theorem o_lt {x y : Int} (hx : in32 x) (hy : in32 y) : Int32.ofInt x < Int32.ofInt y ↔ x < y := by
  rw [Int32.lt_iff_toInt_lt, oT hx, oT hy]
theorem o_le {x y : Int} (hx : in32 x) (hy : in32 y) : Int32.ofInt x ≤ Int32.ofInt y ↔ x ≤ y := by
  rw [Int32.le_iff_toInt_le, oT hx, oT hy]
theorem ol_lt {x y : Int} (hx : in64 x) (hy : in64 y) : Int64.ofInt x < Int64.ofInt y ↔ x < y := by
  rw [Int64.lt_iff_toInt_lt, oL hx, oL hy]
theorem ol_eq {x y : Int} (hx : in64 x) (hy : in64 y) : Int64.ofInt x = Int64.ofInt y ↔ x = y := by
  rw [← Int64.toInt_inj, oL hx, oL hy]
theorem o_nat (k : Nat) : Int32.ofInt (k : Int) = nI k := Int32.ofInt_eq_ofNat
theorem o_clamp {i : Int} (h0 : 0 ≤ i) (h : i < 2147483648) : (Int32.ofInt i).toNatClampNeg = i.toNat := by
  rw [Int32.toNatClampNeg_ofInt_of_le (by omega) (by omega)]
theorem o_in {i : Int} {n : Nat} (h0 : 0 ≤ i) (h : i < n) (hn : n < 2147483648) : vp_in (Int32.ofInt i) n := by
  rw [vp_in_iff, oT ⟨by omega, by omega⟩]
  exact ⟨h0, h⟩
theorem o_div {x y : Int} (hx : in32 x) (hy : in32 y) (h0 : 0 ≤ x) (h1 : 0 < y) : Int32.ofInt x / Int32.ofInt y = Int32.ofInt (x / y) := by
  obtain ⟨a, rfl⟩ := Int.eq_ofNat_of_zero_le h0
  obtain ⟨b, rfl⟩ := Int.eq_ofNat_of_zero_le (Int.le_of_lt h1)
  have ha := hx.2
  have hb := hy.2
  rw [o_nat, o_nat, pk_div (by omega) (by omega) (by omega), ← o_nat]
  rfl
theorem o_rem {x y : Int} (hx : in32 x) (hy : in32 y) (h0 : 0 ≤ x) (h1 : 0 < y) : Int32.ofInt x - Int32.ofInt x / Int32.ofInt y * Int32.ofInt y = Int32.ofInt (x % y) := by
  obtain ⟨a, rfl⟩ := Int.eq_ofNat_of_zero_le h0
  obtain ⟨b, rfl⟩ := Int.eq_ofNat_of_zero_le (Int.le_of_lt h1)
  have ha := hx.2
  have hb := hy.2
  rw [o_nat, o_nat, pk_rem (by omega) (by omega) (by omega), ← o_nat]
  rfl
theorem o_ne0 {y : Int} (hy : in32 y) (h1 : 0 < y) : ¬ Int32.ofInt y = 0 := by
  intro h
  have := (o_eq hy (y := 0) ⟨by omega, by omega⟩).mp h
  omega
theorem s_31 : ∀ n, n < 32 → ((nI n &&& 31).toBitVec.smod 32).toNat = n := by decide +kernel
theorem o_shl {x y : Int} (h0 : 0 ≤ x) (h1 : 0 ≤ y) (h2 : y < 31) (h3 : x * 2 ^ y.toNat < 2147483648) : Int32.ofInt x <<< (Int32.ofInt y &&& 31) = Int32.ofInt (x * 2 ^ y.toNat) := by
  obtain ⟨a, rfl⟩ := Int.eq_ofNat_of_zero_le h0
  obtain ⟨b, rfl⟩ := Int.eq_ofNat_of_zero_le h1
  have e : ((a : Int) * 2 ^ (b : Int).toNat) = ((a * 2 ^ b : Nat) : Int) := by simp
  rw [e] at h3 ⊢
  rw [o_nat, o_nat, pk_shlN (nI b &&& 31) b (s_31 b (by omega)) (by omega), ← o_nat]
theorem o_shr {x y : Int} (hx : in32 x) (h0 : 0 ≤ x) (h1 : 0 ≤ y) (h2 : y < 32) : Int32.ofInt x >>> (Int32.ofInt y &&& 31) = Int32.ofInt (x / 2 ^ y.toNat) := by
  obtain ⟨a, rfl⟩ := Int.eq_ofNat_of_zero_le h0
  obtain ⟨b, rfl⟩ := Int.eq_ofNat_of_zero_le h1
  have ha := hx.2
  have e : ((a : Int) / 2 ^ (b : Int).toNat) = ((a / 2 ^ b : Nat) : Int) := by simp
  rw [e, o_nat, o_nat, pk_shrN (by omega) (nI b &&& 31) b (s_31 b (by omega)), ← o_nat]
theorem o_i2l {x : Int} (h : in32 x) : (Int32.ofInt x).toInt64 = Int64.ofInt x := by
  apply Int64.toInt_inj.mp
  rw [Int32.toInt_toInt64, oT h, oL ⟨by have := h.1; omega, by have := h.2; omega⟩]
theorem o_l2i {x : Int} (h : in64 x) : (Int64.ofInt x).toInt32 = Int32.ofInt (wr32 x) := by
  rw [o_wr, ← Int32.ofInt_int64ToInt, oL h]
theorem o_i2b (x : Int) : (Int32.ofInt x).toInt8.toInt32 = Int32.ofInt (wr8 x) := by
  rw [Int32.toInt8_ofInt, ← Int32.ofInt_int8ToInt, Int8.toInt_ofInt]
  congr 1
  show x.bmod 256 = wr8 x
  unfold wr8
  rw [Int.bmod_def]
  omega
theorem o_i2s (x : Int) : (Int32.ofInt x).toInt16.toInt32 = Int32.ofInt (wr16 x) := by
  rw [Int32.toInt16_ofInt, ← Int32.ofInt_int16ToInt, Int16.toInt_ofInt]
  congr 1
  show x.bmod 65536 = wr16 x
  unfold wr16
  rw [Int.bmod_def]
  omega
theorem o_i2c (x : Int) : ((Int32.ofInt x).toUInt32 % 65536).toInt32 = Int32.ofInt (x % 65536) := by
  rw [pk_char, ← o_nat]
  congr 1
  show (((BitVec.ofInt 32 x).toNat % 65536 : Nat) : Int) = x % 65536
  rw [BitVec.toNat_ofInt]
  omega
theorem o_cmp {x y : Int} (hx : in64 x) (hy : in64 y) : lg_cmp (Int64.ofInt x) (Int64.ofInt y) = Int32.ofInt (lCmp x y) := by
  unfold lg_cmp lCmp
  simp only [gt_iff_lt, ol_lt hy hx, ol_eq hx hy]
  by_cases h1 : y < x
  · rw [if_pos h1, if_neg (by omega), if_neg (by omega)]; rfl
  · rw [if_neg h1]
    by_cases h2 : x = y
    · rw [if_pos h2, if_neg (by omega), if_pos h2]; rfl
    · rw [if_neg h2, if_pos (by omega)]; rfl
theorem ol_shl (x y : Int) : Int64.ofInt (lShl x y) = Int64.ofInt x <<< ((Int32.ofInt y).toInt64 &&& 63) := Int64.ofInt_toInt _
theorem o_bool (z : Int) : vp_nar .boolean (Int32.ofInt z) = Int32.ofInt (z % 2) := by
  show (Int32.ofInt z &&& 1) = Int32.ofInt (z % 2)
  rw [pk_and (Int32.ofInt z) 1 (by decide), ← o_nat]
  congr 1
  show (((BitVec.ofInt 32 z).toNat % 2 ^ 1 : Nat) : Int) = z % 2
  rw [BitVec.toNat_ofInt]
  omega
-- values
def cvv (ad : Int → Option Nat) : PV → Value
  | .inl z => .int (Int32.ofInt z)
  | .inr (.inl z) => .long (Int64.ofInt z)
  | .inr (.inr z) => va_rf (ad z)
theorem va_rf_cat (r : Option Nat) : (va_rf r).category = 1 := by cases r <;> rfl
theorem cvv_cat (ad : Int → Option Nat) (v : PV) : (cvv ad v).category = if ptag v = 1 then 2 else 1 := by
  cases v with
  | inl z => rfl
  | inr v =>
    cases v with
    | inl z => rfl
    | inr z => exact va_rf_cat _
theorem pcat_eq (ad : Int → Option Nat) (st : List PV) : ((st.map (cvv ad)).map fun v => v.category).sum = pcat st := by
  induction st with
  | nil => rfl
  | cons v r ih =>
    cases v with
    | inl z => simp only [List.map_cons, List.sum_cons, ih, pcat]; rfl
    | inr v =>
      cases v with
      | inl z => simp only [List.map_cons, List.sum_cons, ih, pcat]; rfl
      | inr z => simp only [List.map_cons, List.sum_cons, ih, pcat, cvv, va_rf_cat]
def okv (σ : PS) : PV → Prop
  | .inl z => in32 z
  | .inr (.inl z) => in64 z
  | .inr (.inr z) => z < tot σ
-- the world
def wcell (cA : Nat → ClassId) (ad : Int → Option Nat) (σ : PS) (i : Nat) : va_E :=
  if (shp σ i).1 = 0 then .inr ((shp σ i).2, (List.range (nfT (shp σ i).2)).map (fun k => cvv ad (fvl σ i (shp σ i).2 k)))
  else if (shp σ i).1 = 3 then .inl (cA 3, (shp σ i).2, .inr (.inl (fun k => Int64.ofInt (σ.1 i k))))
  else if (shp σ i).1 ≤ 2 then .inl (cA (shp σ i).1, (shp σ i).2, .inl (fun k => Int32.ofInt (σ.1 i k)))
  else .inl (cA (shp σ i).1, (shp σ i).2, .inr (.inr (.inr (.inr (fun k => ad (rf σ i k))))))
def wof (cA : Nat → ClassId) (ad : Int → Option Nat) (σ : PS) : va_W := (List.range (tot σ)).map (fun i : Nat => ((ad i).getD 0, wcell cA ad σ i))
def tyL (cA : Nat → ClassId) : List (ClassId × FieldType) := [(cA 1, .int), (cA 2, .boolean), (cA 3, .long), (cA 4, .object RX9), (cA 5, .object RX8), (cA 6, .object RX2)]
def WFc (σ : PS) (i : Nat) : Prop := (shp σ i).1 ≤ 6 ∧ ((shp σ i).1 = 0 → (shp σ i).2 < 12 ∧ ∀ k, k < nfT (shp σ i).2 → okv σ (fvl σ i (shp σ i).2 k)) ∧ ((shp σ i).1 = 3 → ∀ k : Nat, in64 (σ.1 i k)) ∧ ((shp σ i).1 = 1 ∨ (shp σ i).1 = 2 → ∀ k : Nat, in32 (σ.1 i k)) ∧ (4 ≤ (shp σ i).1 → ∀ k : Nat, rf σ i k < tot σ) ∧ (shp σ i).2 ≤ 1000
def WF (σ : PS) : Prop := ∀ i : Nat, i < tot σ → WFc σ i
def ADok (ad : Int → Option Nat) (σ : PS) : Prop := ad (-1) = none ∧ ∀ i : Nat, i < tot σ → ∃ q, ad i = some q
theorem shp_lt {σ : PS} {i : Int} (h0 : 0 ≤ i) (h : (shp σ i).1 ≤ 6) : i < tot σ := by
  unfold shp at h
  rw [if_neg (by omega)] at h
  unfold tot
  by_cases h1 : i < 129
  · rw [if_pos h1] at h
    cases hm : σ.2.1 with
    | none => show i < ((NB + σ.2.2.1.length : Nat) : Int); unfold NB; omega
    | some n =>
      rw [hm] at h
      dsimp only at h ⊢
      by_cases h2 : i < (n : Int)
      · exact h2
      · rw [if_neg h2] at h
        exact absurd h (by decide)
  · rw [if_neg h1] at h
    cases hm : σ.2.1 with
    | none =>
      rw [hm] at h
      dsimp only at h ⊢
      by_cases h2 : i.toNat - NB < σ.2.2.1.length
      · unfold NB at *; omega
      · rw [List.getD_eq_getElem?_getD, List.getElem?_eq_none (by omega)] at h
        exact absurd h (by decide)
    | some n =>
      rw [hm] at h
      dsimp only at h
      exact absurd h (by decide)
theorem shp_nn {σ : PS} {i : Int} (h : (shp σ i).1 ≤ 6) (hL : (shp σ i).1 = 1 → 0 ≤ i) : 0 ≤ i := by
  by_cases h0 : 0 ≤ i
  · exact h0
  · unfold shp at h hL
    rw [if_pos (by omega)] at h hL
    unfold cSh at h hL
    by_cases a1 : i = -2
    · rw [if_pos a1] at hL; exact hL rfl
    rw [if_neg a1] at h hL
    by_cases a2 : i = -3
    · rw [if_pos a2] at hL; exact hL rfl
    rw [if_neg a2] at h
    by_cases a3 : i = -20
    · rw [if_pos a3] at h; exact absurd h (by decide)
    rw [if_neg a3] at h
    by_cases a4 : i = -21
    · rw [if_pos a4] at h; exact absurd h (by decide)
    rw [if_neg a4] at h
    by_cases a5 : i = -22
    · rw [if_pos a5] at h; exact absurd h (by decide)
    rw [if_neg a5] at h
    by_cases a6 : i = -10 ∨ i = -11 ∨ i = -12
    · rw [if_pos a6] at h; exact absurd h (by decide)
    rw [if_neg a6] at h
    exact absurd h (by decide)
theorem wof_len (cA : Nat → ClassId) (ad : Int → Option Nat) (σ : PS) : (wof cA ad σ).length = tot σ := by simp [wof]
theorem wof_at (cA : Nat → ClassId) (ad : Int → Option Nat) (σ : PS) {i : Nat} (h : i < tot σ) : (wof cA ad σ)[i]? = some ((ad i).getD 0, wcell cA ad σ i) := by
  unfold wof
  rw [List.getElem?_map, List.getElem?_range h]
  rfl
theorem wof_q {cA : Nat → ClassId} {ad : Int → Option Nat} {σ : PS} {i q : Nat} (h : i < tot σ) (hq : ad i = some q) : (wof cA ad σ)[i]? = some (q, wcell cA ad σ i) := by
  rw [wof_at cA ad σ h, hq]
  rfl
theorem wof_set {cA : Nat → ClassId} {ad : Int → Option Nat} {σ σ' : PS} {i q : Nat} {e : va_E} (h : i < tot σ) (hq : ad i = some q) (ht : tot σ' = tot σ) (he : wcell cA ad σ' i = e) (ho : ∀ j : Nat, j < tot σ → j ≠ i → wcell cA ad σ' j = wcell cA ad σ j) : (wof cA ad σ).set i (q, e) = wof cA ad σ' := by
  apply List.ext_getElem?
  intro j
  by_cases hj : j < tot σ
  · rw [wof_at cA ad σ' (by omega), List.getElem?_set]
    by_cases hij : i = j
    · subst hij
      rw [if_pos rfl, wof_len, if_pos h, hq, he]
      rfl
    · rw [if_neg hij, wof_at cA ad σ hj, ho j hj (Ne.symm hij)]
  · rw [List.getElem?_eq_none (by rw [List.length_set, wof_len]; omega), List.getElem?_eq_none (by rw [wof_len]; omega)]
theorem wof_push {cA : Nat → ClassId} {ad ad' : Int → Option Nat} {σ σ' : PS} {q : Nat} {e : va_E} (hq : ad' (tot σ) = some q) (ht : tot σ' = tot σ + 1) (he : wcell cA ad' σ' (tot σ) = e) (ho : ∀ j : Nat, j < tot σ → wcell cA ad' σ' j = wcell cA ad σ j) (ha : ∀ j : Nat, j < tot σ → ad' j = ad j) : wof cA ad σ ++ [(q, e)] = wof cA ad' σ' := by
  unfold wof
  rw [ht, List.range_succ, List.map_append]
  have e1 : (List.range (tot σ)).map (fun i : Nat => ((ad' i).getD 0, wcell cA ad' σ' i)) = (List.range (tot σ)).map (fun i : Nat => ((ad i).getD 0, wcell cA ad σ i)) := by
    apply List.map_congr_left
    intro j hj
    have hj := List.mem_range.mp hj
    rw [ho j hj, ha j hj]
  rw [e1]
  simp only [List.map_cons, List.map_nil, hq, he, Option.getD_some]
