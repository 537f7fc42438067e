/-! THE TABLES ARE TRUE: every link of the pure machine's tables is a word of the Statement's. -/
def lwx (p : Nat) : Option Cond := match p / 1000 with
  | 0 => (k2_sels lw_privs)[p % 1000]?
  | 1 => tables_1_1[p % 1000]?
  | 2 => tables_1_2[p % 1000]?
  | 3 => tables_1_3[p % 1000]?
  | 4 => tables_1_4[p % 1000]?
  | 5 => tables_1_5[p % 1000]?
  | 6 => tables_1_6[p % 1000]?
  | 7 => tables_1_7[p % 1000]?
  | _ => none
theorem lwx_mem {p : Nat} {w : Cond} (h : lwx p = some w) : w ∈ lw_tbl := by
  unfold lw_tbl tables_1
  simp only [List.mem_append]
  unfold lwx at h
  split at h
  · exact Or.inl (List.mem_of_getElem? h)
  · exact Or.inr (Or.inl (List.mem_of_getElem? h))
  · exact Or.inr (Or.inr (Or.inl (List.mem_of_getElem? h)))
  · exact Or.inr (Or.inr (Or.inr (Or.inl (List.mem_of_getElem? h))))
  · exact Or.inr (Or.inr (Or.inr (Or.inr (Or.inl (List.mem_of_getElem? h)))))
  · exact Or.inr (Or.inr (Or.inr (Or.inr (Or.inr (Or.inl (List.mem_of_getElem? h))))))
  · exact Or.inr (Or.inr (Or.inr (Or.inr (Or.inr (Or.inr (Or.inl (List.mem_of_getElem? h)))))))
  · exact Or.inr (Or.inr (Or.inr (Or.inr (Or.inr (Or.inr (Or.inr (List.mem_of_getElem? h)))))))
  · cases h
def gw_tbl : List Cond := lw_tbl.filter goodWord
theorem gw_of {pos : Nat} {w : Cond} (h : lwx pos = some w) (hg : goodWord w = true) : w ∈ gw_tbl := List.mem_filter.mpr ⟨lwx_mem h, hg⟩
theorem gw_good {ws : List Cond} (h : ∀ w ∈ ws, w ∈ gw_tbl) : GoodIn gw_tbl ws := fun w hw => ⟨h w hw, good_of_word (List.mem_filter.mp (h w hw)).2⟩
def fT (ci k : Nat) : String × String × String × Bool := match vwCl[ci]? with
  | some q => q.2.1 k
  | none => ("", "", "", true)
def q_fl_c (e : Nat × (Nat × (Nat × (Nat × Nat)))) : Bool := decide (lwx (e.2.2.2.2) = some (Cond.fieldLink (cN e.1) e.2.1 (fT e.2.2.1 e.2.2.2.1).1 (fT e.2.2.1 e.2.2.2.1).2.1 (fT e.2.2.1 e.2.2.2.1).2.2.1)) && decide (e.2.2.2.1 < nfT e.2.2.1) && decide (e.2.2.1 < 12)
set_option maxRecDepth 100000 in
theorem q_fl_ok : q_fl.all q_fl_c = true := by decide +kernel
def q_iv_c (e : Nat × (Nat × (Nat × (Nat × (Nat × (Nat × (Nat × Nat))))))) : Bool :=
  decide (lwx (e.2.2.2.2.2.2.2) = some (if e.2.2.1 = 3 then Cond.methodLinkNest (cN e.1) e.2.1 (mY e.2.2.2.1) "BothSidesSheet" else Cond.methodLink (cN e.1) e.2.1 (mY e.2.2.2.1)))
  && decide (e.2.2.2.1 < 231) && decide (e.2.2.2.2.1 = mA e.2.2.2.1) && decide (e.2.2.2.2.2.1 = mO e.2.2.2.1) && decide (e.2.2.2.2.2.2.1 = mL e.2.2.2.1)
  && (decide (e.2.2.1 = mD e.2.2.2.1) || (decide (e.2.2.1 = 3) && decide (mD e.2.2.2.1 = 2))) && decide (e.2.2.1 ≤ 3)
set_option maxRecDepth 100000 in
theorem q_iv_ok0 : ((q_iv.drop 0).take 30).all q_iv_c = true := by decide +kernel
set_option maxRecDepth 100000 in
theorem q_iv_ok1 : ((q_iv.drop 30).take 30).all q_iv_c = true := by decide +kernel
set_option maxRecDepth 100000 in
theorem q_iv_ok2 : ((q_iv.drop 60).take 30).all q_iv_c = true := by decide +kernel
set_option maxRecDepth 100000 in
theorem q_iv_ok3 : ((q_iv.drop 90).take 30).all q_iv_c = true := by decide +kernel
set_option maxRecDepth 100000 in
theorem q_iv_ok4 : ((q_iv.drop 120).take 30).all q_iv_c = true := by decide +kernel
set_option maxRecDepth 100000 in
theorem q_iv_ok5 : ((q_iv.drop 150).take 30).all q_iv_c = true := by decide +kernel
set_option maxRecDepth 100000 in
theorem q_iv_ok6 : ((q_iv.drop 180).take 30).all q_iv_c = true := by decide +kernel
set_option maxRecDepth 100000 in
theorem q_iv_ok7 : ((q_iv.drop 210).take 30).all q_iv_c = true := by decide +kernel
set_option maxRecDepth 100000 in
theorem q_iv_ok8 : ((q_iv.drop 240).take 30).all q_iv_c = true := by decide +kernel
set_option maxRecDepth 100000 in
theorem q_iv_ok9 : ((q_iv.drop 270).take 30).all q_iv_c = true := by decide +kernel
theorem all_split {α : Type} {f : α → Bool} {l : List α} (n : Nat) (h1 : (l.take n).all f = true) (h2 : (l.drop n).all f = true) : l.all f = true := by
  rw [← List.take_append_drop n l, List.all_append, h1, h2]; rfl
set_option maxRecDepth 100000 in
theorem q_iv_ok : q_iv.all q_iv_c = true := by
  refine all_split 30 q_iv_ok0 ?_
  refine all_split 30 q_iv_ok1 ?_
  rw [List.drop_drop]
  refine all_split 30 q_iv_ok2 ?_
  rw [List.drop_drop]
  refine all_split 30 q_iv_ok3 ?_
  rw [List.drop_drop]
  refine all_split 30 q_iv_ok4 ?_
  rw [List.drop_drop]
  refine all_split 30 q_iv_ok5 ?_
  rw [List.drop_drop]
  refine all_split 30 q_iv_ok6 ?_
  rw [List.drop_drop]
  refine all_split 30 q_iv_ok7 ?_
  rw [List.drop_drop]
  refine all_split 30 q_iv_ok8 ?_
  rw [List.drop_drop]
  exact (by decide +kernel : (q_iv.drop 270).all q_iv_c = true)
def rkOf : Option FieldType → Nat
  | some .int => 0
  | some .boolean => 1
  | some .byte => 2
  | some .char => 3
  | some .long => 4
  | none => 5
  | some (.object _) => 6
  | some (.array _) => 6
  | _ => 7
def q_mt_c (μ : Nat) : Bool := decide ((mY μ).cls ≠ "java/lang/invoke/MethodHandle") && decide ((mY μ).cls ≠ "java/lang/invoke/VarHandle") && decide ((parseMethodDescriptor (mY μ).desc).map (fun d => d.parameters.length) = some (mA μ)) && decide (mL μ ≤ 21) && decide (plainName (mY μ).cls = true) && decide (rkOf (mR μ) = mK μ) && (decide (mI μ = false) || decide ((mY μ).name = "<init>")) && decide ((mY μ).cls = cN (mO μ))
set_option maxRecDepth 100000 in
theorem q_mt_ok0 : (List.range' 0 20).all q_mt_c = true := by decide +kernel
set_option maxRecDepth 100000 in
theorem q_mt_ok1 : (List.range' 20 20).all q_mt_c = true := by decide +kernel
set_option maxRecDepth 100000 in
theorem q_mt_ok2 : (List.range' 40 20).all q_mt_c = true := by decide +kernel
set_option maxRecDepth 100000 in
theorem q_mt_ok3 : (List.range' 60 20).all q_mt_c = true := by decide +kernel
set_option maxRecDepth 100000 in
theorem q_mt_ok4 : (List.range' 80 20).all q_mt_c = true := by decide +kernel
set_option maxRecDepth 100000 in
theorem q_mt_ok5 : (List.range' 100 20).all q_mt_c = true := by decide +kernel
set_option maxRecDepth 100000 in
theorem q_mt_ok6 : (List.range' 120 20).all q_mt_c = true := by decide +kernel
set_option maxRecDepth 100000 in
theorem q_mt_ok7 : (List.range' 140 20).all q_mt_c = true := by decide +kernel
set_option maxRecDepth 100000 in
theorem q_mt_ok8 : (List.range' 160 20).all q_mt_c = true := by decide +kernel
set_option maxRecDepth 100000 in
theorem q_mt_ok9 : (List.range' 180 20).all q_mt_c = true := by decide +kernel
set_option maxRecDepth 100000 in
theorem q_mt_ok10 : (List.range' 200 20).all q_mt_c = true := by decide +kernel
set_option maxRecDepth 100000 in
theorem q_mt_ok11 : (List.range' 220 11).all q_mt_c = true := by decide +kernel
theorem q_mt_ok {μ : Nat} (h : μ < 231) : q_mt_c μ = true := by
  by_cases h0 : μ < 20
  · exact List.all_eq_true.mp q_mt_ok0 μ (by simp only [List.mem_range'_1]; omega)
  by_cases h1 : μ < 40
  · exact List.all_eq_true.mp q_mt_ok1 μ (by simp only [List.mem_range'_1]; omega)
  by_cases h2 : μ < 60
  · exact List.all_eq_true.mp q_mt_ok2 μ (by simp only [List.mem_range'_1]; omega)
  by_cases h3 : μ < 80
  · exact List.all_eq_true.mp q_mt_ok3 μ (by simp only [List.mem_range'_1]; omega)
  by_cases h4 : μ < 100
  · exact List.all_eq_true.mp q_mt_ok4 μ (by simp only [List.mem_range'_1]; omega)
  by_cases h5 : μ < 120
  · exact List.all_eq_true.mp q_mt_ok5 μ (by simp only [List.mem_range'_1]; omega)
  by_cases h6 : μ < 140
  · exact List.all_eq_true.mp q_mt_ok6 μ (by simp only [List.mem_range'_1]; omega)
  by_cases h7 : μ < 160
  · exact List.all_eq_true.mp q_mt_ok7 μ (by simp only [List.mem_range'_1]; omega)
  by_cases h8 : μ < 180
  · exact List.all_eq_true.mp q_mt_ok8 μ (by simp only [List.mem_range'_1]; omega)
  by_cases h9 : μ < 200
  · exact List.all_eq_true.mp q_mt_ok9 μ (by simp only [List.mem_range'_1]; omega)
  by_cases h10 : μ < 220
  · exact List.all_eq_true.mp q_mt_ok10 μ (by simp only [List.mem_range'_1]; omega)
  by_cases h11 : μ < 231
  · exact List.all_eq_true.mp q_mt_ok11 μ (by simp only [List.mem_range'_1]; omega)
  omega
def q_sp_c (e : Nat × (Nat × (Nat × Nat))) : Bool := decide (lwx (e.2.2.2) = some (.methodLink (cN e.1) e.2.1 (if e.2.2.1 = 5 then objectInit else if e.2.2.1 = 6 then arraycopyName else if e.2.2.1 = 7 then Lib.Math.max.name else Lib.Math.min.name)))
set_option maxRecDepth 100000 in
theorem q_sp_ok : q_sp.all q_sp_c = true := by decide +kernel
def q_nw_c (e : Nat × (Nat × (Nat × Nat))) : Bool := decide (lwx (e.2.2.2) = some (.classLink (cN e.1) e.2.1 (cN e.2.2.1))) && decide (e.2.2.1 < 12)
set_option maxRecDepth 100000 in
theorem q_nw_ok : q_nw.all q_nw_c = true := by decide +kernel
def q_an_c (e : Nat × (Nat × (Nat × Nat))) : Bool := decide (lwx (e.2.2.2) = some (.classLink (cN e.1) e.2.1 (cN (ecl e.2.2.1)))) && decide (4 ≤ e.2.2.1) && decide (e.2.2.1 ≤ 6)
set_option maxRecDepth 100000 in
theorem q_an_ok : q_an.all q_an_c = true := by decide +kernel
def q_lc_c (e : Nat × (Nat × (Nat × (Int × Nat)))) : Bool := (decide (e.2.2.1 = 0) && decide (lwx (e.2.2.2.2) = some (.constant (cN e.1) e.2.1 (Int32.ofInt e.2.2.2.1))) && decide (-2147483648 ≤ e.2.2.2.1 ∧ e.2.2.2.1 < 2147483648)) || (decide (e.2.2.1 = 1) && decide (e.1 = 5) && (decide (e.2.1 = 109 ∧ e.2.2.2.1 = -10) || decide (e.2.1 = 99 ∧ e.2.2.2.1 = -11) || decide (e.2.1 = 107 ∧ e.2.2.2.1 = -12)))
set_option maxRecDepth 100000 in
theorem q_lc_ok : q_lc.all q_lc_c = true := by decide +kernel
def q_l2_c (e : Nat × (Nat × (Int × Nat))) : Bool := decide (lwx (e.2.2.2) = some (.constantLong (cN e.1) e.2.1 (Int64.ofInt e.2.2.1))) && decide (-9223372036854775808 ≤ e.2.2.1 ∧ e.2.2.1 < 9223372036854775808)
set_option maxRecDepth 100000 in
theorem q_l2_ok : q_l2.all q_l2_c = true := by decide +kernel
def gsN : Nat → String × (String × String)
  | 0 => ("BothSidesSheet", "KIND_ABOVE", "[I")
  | 1 => ("java/lang/String", "COMPACT_STRINGS", "Z")
  | _ => ("jdk/internal/util/Preconditions", "SIOOBE_FORMATTER", "Ljava/util/function/BiFunction;")
def q_gs_c (e : Nat × (Nat × (Nat × Nat))) : Bool := decide (lwx (e.2.2.2) = some (.fieldLink (cN e.1) e.2.1 (gsN e.2.2.1).1 (gsN e.2.2.1).2.1 (gsN e.2.2.1).2.2))
set_option maxRecDepth 100000 in
theorem q_gs_ok : q_gs.all q_gs_c = true := by decide +kernel
def q_sf_c (e : Nat × (Nat × (Nat × Nat))) : Bool := decide (lwx (e.2.2.2) = some (.fieldLink (cN e.1) e.2.1 "java/lang/String" (if e.2.2.1 = 0 then "value" else "coder") (if e.2.2.1 = 0 then "[B" else "B")))
set_option maxRecDepth 100000 in
theorem q_sf_ok : q_sf.all q_sf_c = true := by decide +kernel
-- the classes: their words, names and types
set_option maxRecDepth 100000 in
theorem cl_words : ∀ (ci : Nat) (q : vw_C), vwCl[ci]? = some q → ∀ w ∈ u_ws q.1 q.2.1 q.2.2, w ∈ gw_tbl := by
  have h0 : ∀ w ∈ u_ws RX0 TX0 5, w ∈ gw_tbl := by decide +kernel
  have h1 : ∀ w ∈ u_ws RX1 TX1 3, w ∈ gw_tbl := by decide +kernel
  have h2 : ∀ w ∈ u_ws RX2 TX2 4, w ∈ gw_tbl := by decide +kernel
  have h3 : ∀ w ∈ u_ws RX3 TX3 4, w ∈ gw_tbl := by decide +kernel
  have h4 : ∀ w ∈ u_ws RX4 TX4 2, w ∈ gw_tbl := by decide +kernel
  have h5 : ∀ w ∈ u_ws RX5 TX5 8, w ∈ gw_tbl := by decide +kernel
  have h6 : ∀ w ∈ u_ws RX6 TX6 6, w ∈ gw_tbl := by decide +kernel
  have h7 : ∀ w ∈ u_ws RX7 TX7 2, w ∈ gw_tbl := by decide +kernel
  have h8 : ∀ w ∈ u_ws RX8 TX8 3, w ∈ gw_tbl := by decide +kernel
  have h9 : ∀ w ∈ u_ws RX9 TX9 4, w ∈ gw_tbl := by decide +kernel
  have h10 : ∀ w ∈ u_ws RX10 TX10 11, w ∈ gw_tbl := by decide +kernel
  have h11 : ∀ w ∈ u_ws RX11 TX11 69, w ∈ gw_tbl := by decide +kernel
  intro ci q h
  match ci, h with
  | 0, h => cases h; exact h0
  | 1, h => cases h; exact h1
  | 2, h => cases h; exact h2
  | 3, h => cases h; exact h3
  | 4, h => cases h; exact h4
  | 5, h => cases h; exact h5
  | 6, h => cases h; exact h6
  | 7, h => cases h; exact h7
  | 8, h => cases h; exact h8
  | 9, h => cases h; exact h9
  | 10, h => cases h; exact h10
  | 11, h => cases h; exact h11
  | k + 12, h => simp [vwCl] at h
def clTy (ci : Nat) : Nat → FieldType := match ci with
  | 0 => tyX0 | 1 => tyX1 | 2 => tyX2 | 3 => tyX3 | 4 => tyX4 | 5 => tyX5 | 6 => tyX6 | 7 => tyX7 | 8 => tyX8 | 9 => tyX9 | 10 => tyX10 | _ => tyX11
theorem cl_types : ∀ (ci : Nat) (q : vw_C), vwCl[ci]? = some q → ∀ k, k < q.2.2 → parseFieldDescriptor (q.2.1 k).2.2.1 = some (clTy ci k) := by
  intro ci q h
  match ci, h with
  | 0, h => cases h; exact tyX0_ok
  | 1, h => cases h; exact tyX1_ok
  | 2, h => cases h; exact tyX2_ok
  | 3, h => cases h; exact tyX3_ok
  | 4, h => cases h; exact tyX4_ok
  | 5, h => cases h; exact tyX5_ok
  | 6, h => cases h; exact tyX6_ok
  | 7, h => cases h; exact tyX7_ok
  | 8, h => cases h; exact tyX8_ok
  | 9, h => cases h; exact tyX9_ok
  | 10, h => cases h; exact tyX10_ok
  | 11, h => cases h; exact tyX11_ok
  | k + 12, h => simp [vwCl] at h
theorem cl_names : ∀ (ci : Nat) (q : vw_C), vwCl[ci]? = some q → ∀ a, a < q.2.2 → ∀ b, b < q.2.2 → a ≠ b → (q.2.1 a).2.1 ≠ (q.2.1 b).2.1 := by
  intro ci q h
  match ci, h with
  | 0, h => cases h; exact nmX0
  | 1, h => cases h; exact nmX1
  | 2, h => cases h; exact nmX2
  | 3, h => cases h; exact nmX3
  | 4, h => cases h; exact nmX4
  | 5, h => cases h; exact nmX5
  | 6, h => cases h; exact nmX6
  | 7, h => cases h; exact nmX7
  | 8, h => cases h; exact nmX8
  | 9, h => cases h; exact nmX9
  | 10, h => cases h; exact nmX10
  | 11, h => cases h; exact nmX11
  | k + 12, h => simp [vwCl] at h
def tyTag : FieldType → Nat
  | .int => 0
  | .boolean => 3
  | .long => 1
  | .object _ => 2
  | .array _ => 2
  | _ => 7
/-- name, number of fields, and for each field its tag, finality and declaring class -/
def cl_facts_c (ci : Nat) : Bool := match vwCl[ci]? with
  | some q => decide (q.1 = cN ci) && decide (q.2.2 = nfT ci) && (List.range q.2.2).all (fun k => decide (ftg ci k = tyTag (clTy ci k)) && decide (ffn ci k = (q.2.1 k).2.2.2) && decide ((q.2.1 k).1 = cN ci) && decide (ftg ci k ≠ 1))
  | none => false
set_option maxRecDepth 100000 in
theorem cl_facts : (List.range 12).all cl_facts_c = true := by decide +kernel
theorem cl_some {ci : Nat} (h : ci < 12) : ∃ q : vw_C, vwCl[ci]? = some q ∧ q.1 = cN ci ∧ q.2.2 = nfT ci ∧ ∀ k, k < nfT ci → ftg ci k = tyTag (clTy ci k) ∧ ffn ci k = (q.2.1 k).2.2.2 ∧ (q.2.1 k).1 = cN ci ∧ ftg ci k ≠ 1 := by
  have h1 := List.all_eq_true.mp cl_facts ci (List.mem_range.mpr h)
  unfold cl_facts_c at h1
  cases hq : vwCl[ci]? with
  | none => rw [hq] at h1; cases h1
  | some q =>
    rw [hq] at h1
    simp only [Bool.and_eq_true, decide_eq_true_eq, List.all_eq_true, List.mem_range] at h1
    refine ⟨q, rfl, h1.1.1, h1.1.2, fun k hk => ?_⟩
    obtain ⟨⟨⟨a1, a2⟩, a3⟩, a4⟩ := h1.2 k (by rw [h1.1.2]; exact hk)
    exact ⟨a1, a2, a3, a4⟩
theorem fT_of {ci : Nat} {q : vw_C} (h : vwCl[ci]? = some q) (k : Nat) : fT ci k = q.2.1 k := by simp [fT, h]
-- what a lookup gives
theorem find_inv {α : Type} {l : List α} {f : α → Bool} {e : α} {g : α → Bool} (h : l.find? f = some e) (hg : l.all g = true) : f e = true ∧ g e = true := ⟨List.find?_some h, List.all_eq_true.mp hg e (List.mem_of_find?_eq_some h)⟩
theorem fld_inv {own idx ci k : Nat} (h : fld own idx = some (ci, k)) : ci < 12 ∧ k < nfT ci ∧ Cond.fieldLink (cN own) idx (fT ci k).1 (fT ci k).2.1 (fT ci k).2.2.1 ∈ gw_tbl := by
  unfold fld at h
  cases hf : q_fl.find? (fun e => e.1 == own && e.2.1 == idx) with
  | none => rw [hf] at h; cases h
  | some e =>
    rw [hf] at h
    obtain ⟨a1, a2⟩ := find_inv hf q_fl_ok
    obtain ⟨e1, e2, e3, e4, e5⟩ := e
    cases h
    simp only [q_fl_c, Bool.and_eq_true, decide_eq_true_eq, beq_iff_eq] at a1 a2
    obtain ⟨rfl, rfl⟩ := a1
    exact ⟨a2.2, a2.1.2, gw_of a2.1.1 rfl⟩
theorem inv_inv {own idx kd μ' na cls ml : Nat} (h : inv own idx = some (kd, μ', na, cls, ml)) : μ' < 231 ∧ na = mA μ' ∧ cls = mO μ' ∧ ml = mL μ' ∧ (kd = mD μ' ∨ (kd = 3 ∧ mD μ' = 2)) ∧ kd ≤ 3 ∧ (kd ≠ 3 → Cond.methodLink (cN own) idx (mY μ') ∈ gw_tbl) ∧ (kd = 3 → Cond.methodLinkNest (cN own) idx (mY μ') "BothSidesSheet" ∈ lw_tbl) := by
  unfold inv at h
  cases hf : q_iv.find? (fun e => e.1 == own && e.2.1 == idx) with
  | none => rw [hf] at h; cases h
  | some e =>
    rw [hf] at h
    obtain ⟨a1, a2⟩ := find_inv hf q_iv_ok
    obtain ⟨e1, e2, e3, e4, e5, e6, e7, e8⟩ := e
    cases h
    simp only [q_iv_c, Bool.and_eq_true, Bool.or_eq_true, decide_eq_true_eq, beq_iff_eq] at a1 a2
    obtain ⟨rfl, rfl⟩ := a1
    obtain ⟨⟨⟨⟨⟨⟨b1, b2⟩, b3⟩, b4⟩, b5⟩, b6⟩, b7⟩ := a2
    refine ⟨b2, b3, b4, b5, b6, b7, fun h => ?_, fun h => ?_⟩
    · rw [if_neg h] at b1; exact gw_of b1 rfl
    · rw [if_pos h] at b1; exact lwx_mem b1
theorem mt_facts {μ : Nat} (h : μ < 231) : ((mY μ).cls ≠ "java/lang/invoke/MethodHandle" ∧ (mY μ).cls ≠ "java/lang/invoke/VarHandle" ∧ (parseMethodDescriptor (mY μ).desc).map (fun d => d.parameters.length) = some (mA μ)) ∧ mL μ ≤ 21 ∧ plainName (mY μ).cls = true ∧ rkOf (mR μ) = mK μ ∧ (mI μ = true → (mY μ).name = "<init>") ∧ (mY μ).cls = cN (mO μ) := by
  have h1 := q_mt_ok h
  simp only [q_mt_c, Bool.and_eq_true, Bool.or_eq_true, decide_eq_true_eq] at h1
  obtain ⟨⟨⟨⟨⟨⟨⟨a1, a2⟩, a3⟩, a4⟩, a5⟩, a6⟩, a7⟩, a8⟩ := h1
  refine ⟨⟨a1, a2, a3⟩, a4, a5, a6, fun hi => ?_, a8⟩
  rcases a7 with a7 | a7
  · rw [hi] at a7; cases a7
  · exact a7
