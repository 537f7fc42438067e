set_option maxRecDepth 100000 in
theorem q_cw_ok0 : (List.range' 0 20).map (fun μ => lwx (mP μ)) = (List.range' 0 20).map (fun μ => some (.code (mY μ) (mB μ) (mL μ) (mR μ))) := by rfl
set_option maxRecDepth 100000 in
theorem q_cw_ok1 : (List.range' 20 20).map (fun μ => lwx (mP μ)) = (List.range' 20 20).map (fun μ => some (.code (mY μ) (mB μ) (mL μ) (mR μ))) := by rfl
set_option maxRecDepth 100000 in
theorem q_cw_ok2 : (List.range' 40 20).map (fun μ => lwx (mP μ)) = (List.range' 40 20).map (fun μ => some (.code (mY μ) (mB μ) (mL μ) (mR μ))) := by rfl
set_option maxRecDepth 100000 in
theorem q_cw_ok3 : (List.range' 60 20).map (fun μ => lwx (mP μ)) = (List.range' 60 20).map (fun μ => some (.code (mY μ) (mB μ) (mL μ) (mR μ))) := by rfl
set_option maxRecDepth 100000 in
theorem q_cw_ok4 : (List.range' 80 20).map (fun μ => lwx (mP μ)) = (List.range' 80 20).map (fun μ => some (.code (mY μ) (mB μ) (mL μ) (mR μ))) := by rfl
set_option maxRecDepth 100000 in
theorem q_cw_ok5 : (List.range' 100 20).map (fun μ => lwx (mP μ)) = (List.range' 100 20).map (fun μ => some (.code (mY μ) (mB μ) (mL μ) (mR μ))) := by rfl
set_option maxRecDepth 100000 in
theorem q_cw_ok6 : (List.range' 120 20).map (fun μ => lwx (mP μ)) = (List.range' 120 20).map (fun μ => some (.code (mY μ) (mB μ) (mL μ) (mR μ))) := by rfl
set_option maxRecDepth 100000 in
theorem q_cw_ok7 : (List.range' 140 20).map (fun μ => lwx (mP μ)) = (List.range' 140 20).map (fun μ => some (.code (mY μ) (mB μ) (mL μ) (mR μ))) := by rfl
set_option maxRecDepth 100000 in
theorem q_cw_ok8 : (List.range' 160 20).map (fun μ => lwx (mP μ)) = (List.range' 160 20).map (fun μ => some (.code (mY μ) (mB μ) (mL μ) (mR μ))) := by rfl
set_option maxRecDepth 100000 in
theorem q_cw_ok9 : (List.range' 180 20).map (fun μ => lwx (mP μ)) = (List.range' 180 20).map (fun μ => some (.code (mY μ) (mB μ) (mL μ) (mR μ))) := by rfl
set_option maxRecDepth 100000 in
theorem q_cw_ok10 : (List.range' 200 20).map (fun μ => lwx (mP μ)) = (List.range' 200 20).map (fun μ => some (.code (mY μ) (mB μ) (mL μ) (mR μ))) := by rfl
set_option maxRecDepth 100000 in
theorem q_cw_ok11 : (List.range' 220 11).map (fun μ => lwx (mP μ)) = (List.range' 220 11).map (fun μ => some (.code (mY μ) (mB μ) (mL μ) (mR μ))) := by rfl
theorem q_cw_ok {μ : Nat} (h : μ < 231) : lwx (mP μ) = some (.code (mY μ) (mB μ) (mL μ) (mR μ)) := by
  by_cases h0 : μ < 20
  · exact List.map_inj_left.mp q_cw_ok0 μ (by simp only [List.mem_range'_1]; omega)
  by_cases h1 : μ < 40
  · exact List.map_inj_left.mp q_cw_ok1 μ (by simp only [List.mem_range'_1]; omega)
  by_cases h2 : μ < 60
  · exact List.map_inj_left.mp q_cw_ok2 μ (by simp only [List.mem_range'_1]; omega)
  by_cases h3 : μ < 80
  · exact List.map_inj_left.mp q_cw_ok3 μ (by simp only [List.mem_range'_1]; omega)
  by_cases h4 : μ < 100
  · exact List.map_inj_left.mp q_cw_ok4 μ (by simp only [List.mem_range'_1]; omega)
  by_cases h5 : μ < 120
  · exact List.map_inj_left.mp q_cw_ok5 μ (by simp only [List.mem_range'_1]; omega)
  by_cases h6 : μ < 140
  · exact List.map_inj_left.mp q_cw_ok6 μ (by simp only [List.mem_range'_1]; omega)
  by_cases h7 : μ < 160
  · exact List.map_inj_left.mp q_cw_ok7 μ (by simp only [List.mem_range'_1]; omega)
  by_cases h8 : μ < 180
  · exact List.map_inj_left.mp q_cw_ok8 μ (by simp only [List.mem_range'_1]; omega)
  by_cases h9 : μ < 200
  · exact List.map_inj_left.mp q_cw_ok9 μ (by simp only [List.mem_range'_1]; omega)
  by_cases h10 : μ < 220
  · exact List.map_inj_left.mp q_cw_ok10 μ (by simp only [List.mem_range'_1]; omega)
  by_cases h11 : μ < 231
  · exact List.map_inj_left.mp q_cw_ok11 μ (by simp only [List.mem_range'_1]; omega)
  omega
def q_mw_c (μ : Nat) : Bool := decide (lwx (mN μ) = some (.initialized (mY μ).cls))
  && decide (lwx (mS μ) = some (if mD μ = 1 then .static (mY μ) else .instanceMethod (mY μ)))
  && (decide (mD μ ≠ 0) || decide (lwx (mQ μ) = some (.selects (mY μ).cls (mY μ) (mY μ))))
  && (decide (mD μ ≤ 1) || (decide ((mY μ).name = "<init>") && decide (mR μ = none)))
set_option maxRecDepth 100000 in
theorem q_mw_ok0 : (List.range' 0 20).all q_mw_c = true := by decide +kernel
set_option maxRecDepth 100000 in
theorem q_mw_ok1 : (List.range' 20 20).all q_mw_c = true := by decide +kernel
set_option maxRecDepth 100000 in
theorem q_mw_ok2 : (List.range' 40 20).all q_mw_c = true := by decide +kernel
set_option maxRecDepth 100000 in
theorem q_mw_ok3 : (List.range' 60 20).all q_mw_c = true := by decide +kernel
set_option maxRecDepth 100000 in
theorem q_mw_ok4 : (List.range' 80 20).all q_mw_c = true := by decide +kernel
set_option maxRecDepth 100000 in
theorem q_mw_ok5 : (List.range' 100 20).all q_mw_c = true := by decide +kernel
set_option maxRecDepth 100000 in
theorem q_mw_ok6 : (List.range' 120 20).all q_mw_c = true := by decide +kernel
set_option maxRecDepth 100000 in
theorem q_mw_ok7 : (List.range' 140 20).all q_mw_c = true := by decide +kernel
set_option maxRecDepth 100000 in
theorem q_mw_ok8 : (List.range' 160 20).all q_mw_c = true := by decide +kernel
set_option maxRecDepth 100000 in
theorem q_mw_ok9 : (List.range' 180 20).all q_mw_c = true := by decide +kernel
set_option maxRecDepth 100000 in
theorem q_mw_ok10 : (List.range' 200 20).all q_mw_c = true := by decide +kernel
set_option maxRecDepth 100000 in
theorem q_mw_ok11 : (List.range' 220 11).all q_mw_c = true := by decide +kernel
theorem q_mw_ok {μ : Nat} (h : μ < 231) : q_mw_c μ = true := by
  by_cases h0 : μ < 20
  · exact List.all_eq_true.mp q_mw_ok0 μ (by simp only [List.mem_range'_1]; omega)
  by_cases h1 : μ < 40
  · exact List.all_eq_true.mp q_mw_ok1 μ (by simp only [List.mem_range'_1]; omega)
  by_cases h2 : μ < 60
  · exact List.all_eq_true.mp q_mw_ok2 μ (by simp only [List.mem_range'_1]; omega)
  by_cases h3 : μ < 80
  · exact List.all_eq_true.mp q_mw_ok3 μ (by simp only [List.mem_range'_1]; omega)
  by_cases h4 : μ < 100
  · exact List.all_eq_true.mp q_mw_ok4 μ (by simp only [List.mem_range'_1]; omega)
  by_cases h5 : μ < 120
  · exact List.all_eq_true.mp q_mw_ok5 μ (by simp only [List.mem_range'_1]; omega)
  by_cases h6 : μ < 140
  · exact List.all_eq_true.mp q_mw_ok6 μ (by simp only [List.mem_range'_1]; omega)
  by_cases h7 : μ < 160
  · exact List.all_eq_true.mp q_mw_ok7 μ (by simp only [List.mem_range'_1]; omega)
  by_cases h8 : μ < 180
  · exact List.all_eq_true.mp q_mw_ok8 μ (by simp only [List.mem_range'_1]; omega)
  by_cases h9 : μ < 200
  · exact List.all_eq_true.mp q_mw_ok9 μ (by simp only [List.mem_range'_1]; omega)
  by_cases h10 : μ < 220
  · exact List.all_eq_true.mp q_mw_ok10 μ (by simp only [List.mem_range'_1]; omega)
  by_cases h11 : μ < 231
  · exact List.all_eq_true.mp q_mw_ok11 μ (by simp only [List.mem_range'_1]; omega)
  omega
theorem mw_facts {μ : Nat} (h : μ < 231) : Cond.code (mY μ) (mB μ) (mL μ) (mR μ) ∈ gw_tbl ∧ Cond.initialized (mY μ).cls ∈ gw_tbl ∧ (mD μ = 1 → Cond.static (mY μ) ∈ gw_tbl) ∧ (mD μ ≠ 1 → Cond.instanceMethod (mY μ) ∈ gw_tbl) ∧ (mD μ = 0 → Cond.selects (mY μ).cls (mY μ) (mY μ) ∈ gw_tbl) ∧ (2 ≤ mD μ → (mY μ).name = "<init>" ∧ mR μ = none) := by
  have h1 := q_mw_ok h
  simp only [q_mw_c, Bool.and_eq_true, Bool.or_eq_true, decide_eq_true_eq] at h1
  obtain ⟨⟨⟨b7, b8⟩, b9⟩, b10⟩ := h1
  have b6 := q_cw_ok h
  refine ⟨gw_of b6 rfl, gw_of b7 rfl, fun h => ?_, fun h => ?_, fun h => ?_, fun h => ?_⟩
  · rw [if_pos h] at b8; exact gw_of b8 rfl
  · rw [if_neg h] at b8; exact gw_of b8 rfl
  · rcases b9 with b9 | b9
    · exact absurd h b9
    · exact gw_of b9 rfl
  · rcases b10 with b10 | b10
    · omega
    · exact b10
